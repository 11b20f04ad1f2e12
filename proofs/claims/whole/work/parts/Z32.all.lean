/-! ALL STEPS: a run is sound -/
section ALL
variable {P : rP} {E : rE} {l : Launch} {D : va_G} {dA : Nat → ClassId} {B : Nat} {HB : Heap × rS} {ρ : Nat → Nat}
theorem rb1 {a b : Bool} (h : (a && b) = true) : a = true ∧ b = true := by
  rw [Bool.and_eq_true] at h
  exact h
theorem rb2 {a b : Bool} (h : (a || b) = true) : a = true ∨ b = true := by
  rw [Bool.or_eq_true] at h
  exact h
theorem rlt {a b : Nat} (h : Nat.blt a b = true) : a < b := Nat.le_of_ble_eq_true h
theorem req {a b : Nat} (h : Nat.beq a b = true) : a = b := Nat.eq_of_beq_eq_true h
theorem rinstr_ok {rec : rF} {μ d pc k cells slots len : Nat} {ls : rO} {st : List Value} {σ : rS} {pa : List Nat} {act : rA} {r : rR} {i : Instr} (hρ : rho P.2.2.2.2.2.2.1 B ρ) (hfw : rfillW E) (hkn : rknown P E l D dA B HB ρ) (ht : rtab P E) (hrec : rsound P E l D dA B HB ρ rec) (hd : decode (E.2.1 μ) pc = .ok (i, len)) (hc : rchk2 (E.2.2.2.1 μ) (P.2.1 μ) i len act = true)
    (h : rinstr P rec μ d pc ls st σ k pa cells slots i len act = some r) : rgoal P E l D dA B HB ρ r μ d pc ls st σ cells slots := by
  cases i
  case iconst n =>
    have hl := req hc
    subst hl
    exact st_iconst hrec hd h
  case bipush n =>
    have hl := req hc
    subst hl
    exact st_bipush hrec hd h
  case sipush n =>
    have hl := req hc
    subst hl
    exact st_sipush hrec hd h
  case lconst n =>
    have hl := req hc
    subst hl
    exact st_lconst hrec hd h
  case iload n =>
    have hl := req hc
    subst hl
    exact st_iload hrec hd h
  case iload_n n =>
    have hl := req hc
    subst hl
    exact st_iload_n hrec hd h
  case lload n =>
    have hl := req hc
    subst hl
    exact st_lload hrec hd h
  case lload_n n =>
    have hl := req hc
    subst hl
    exact st_lload_n hrec hd h
  case aload n =>
    have hl := req hc
    subst hl
    exact st_aload hrec hd h
  case aload_n n =>
    have hl := req hc
    subst hl
    exact st_aload_n hrec hd h
  case iadd =>
    have hl := req hc
    subst hl
    exact st_iadd hrec hd h
  case isub =>
    have hl := req hc
    subst hl
    exact st_isub hrec hd h
  case imul =>
    have hl := req hc
    subst hl
    exact st_imul hrec hd h
  case iand =>
    have hl := req hc
    subst hl
    exact st_iand hrec hd h
  case ior =>
    have hl := req hc
    subst hl
    exact st_ior hrec hd h
  case ixor =>
    have hl := req hc
    subst hl
    exact st_ixor hrec hd h
  case ishl =>
    have hl := req hc
    subst hl
    exact st_ishl hrec hd h
  case ishr =>
    have hl := req hc
    subst hl
    exact st_ishr hrec hd h
  case iushr =>
    have hl := req hc
    subst hl
    exact st_iushr hrec hd h
  case idiv =>
    have hl := req hc
    subst hl
    exact st_idiv hrec hd h
  case irem =>
    have hl := req hc
    subst hl
    exact st_irem hrec hd h
  case ineg =>
    have hl := req hc
    subst hl
    exact st_ineg hrec hd h
  case i2b =>
    have hl := req hc
    subst hl
    exact st_i2b hrec hd h
  case i2l =>
    have hl := req hc
    subst hl
    exact st_i2l hrec hd h
  case l2i =>
    have hl := req hc
    subst hl
    exact st_l2i hrec hd h
  case ladd =>
    have hl := req hc
    subst hl
    exact st_ladd hrec hd h
  case lsub =>
    have hl := req hc
    subst hl
    exact st_lsub hrec hd h
  case lmul =>
    have hl := req hc
    subst hl
    exact st_lmul hrec hd h
  case land =>
    have hl := req hc
    subst hl
    exact st_land hrec hd h
  case lor =>
    have hl := req hc
    subst hl
    exact st_lor hrec hd h
  case lxor =>
    have hl := req hc
    subst hl
    exact st_lxor hrec hd h
  case lshl =>
    have hl := req hc
    subst hl
    exact st_lshl hrec hd h
  case lshr =>
    have hl := req hc
    subst hl
    exact st_lshr hrec hd h
  case lushr =>
    have hl := req hc
    subst hl
    exact st_lushr hrec hd h
  case lcmp =>
    have hl := req hc
    subst hl
    exact st_lcmp hrec hd h
  case dup =>
    have hl := req hc
    subst hl
    exact st_dup hrec hd h
  case dup_x1 =>
    have hl := req hc
    subst hl
    exact st_dup_x1 hrec hd h
  case dup2 =>
    have hl := req hc
    subst hl
    exact st_dup2 hrec hd h
  case pop =>
    have hl := req hc
    subst hl
    exact st_pop hrec hd h
  case goto n =>
    have hl := req hc
    subst hl
    exact st_goto hrec hd h
  case ifnull n =>
    have hl := req hc
    subst hl
    exact st_ifnull hrec hd h
  case ifnonnull n =>
    have hl := req hc
    subst hl
    exact st_ifnonnull hrec hd h
  case aconst_null =>
    have hl := req hc
    subst hl
    exact st_null hrec hd h
  case istore n =>
    have hb := rb1 hc
    have hl := req hb.2
    subst hl
    exact st_istore hrec hd (rlt hb.1) h
  case istore_n n =>
    have hb := rb1 hc
    have hl := req hb.2
    subst hl
    exact st_istore_n hrec hd (rlt hb.1) h
  case astore n =>
    have hb := rb1 hc
    have hl := req hb.2
    subst hl
    exact st_astore hrec hd (rlt hb.1) h
  case astore_n n =>
    have hb := rb1 hc
    have hl := req hb.2
    subst hl
    exact st_astore_n hrec hd (rlt hb.1) h
  case lstore n =>
    have hb := rb1 hc
    have hl := req hb.2
    subst hl
    exact st_lstore hrec hd (rlt hb.1) h
  case lstore_n n =>
    have hb := rb1 hc
    have hl := req hb.2
    subst hl
    exact st_lstore_n hrec hd (rlt hb.1) h
  case iinc n x =>
    have hb := rb1 hc
    exact st_iinc hrec hd ((rb2 hb.2).imp req req) (rlt hb.1) h
  case ifCond c off =>
    have hl := req hc
    subst hl
    cases c
    · exact st_if_eq hrec hd h
    · exact st_if_ne hrec hd h
    · exact st_if_lt hrec hd h
    · exact st_if_ge hrec hd h
    · exact st_if_gt hrec hd h
    · exact st_if_le hrec hd h
  case if_icmp c off =>
    have hl := req hc
    subst hl
    cases c
    · exact st_icmp_eq hrec hd h
    · exact st_icmp_ne hrec hd h
    · exact st_icmp_lt hrec hd h
    · exact st_icmp_ge hrec hd h
    · exact st_icmp_gt hrec hd h
    · exact st_icmp_le hrec hd h
  case lneg =>
    have hl := req hc
    subst hl
    exact st_lneg hrec hd h
  case pop2 =>
    have hl := req hc
    subst hl
    exact st_pop2 hrec hd h
  case if_acmp c off =>
    have hl := req hc
    subst hl
    cases c <;> first | exact st_acmp_ne hrec hd hρ h | (cases h; done)
  case lookupswitch dflt ps =>
    exact st_lookup hrec hd hc h
  case tableswitch dflt lo hi offs =>
    exact st_tableswitch hrec hd h
  case iaload =>
    have hl := req hc
    subst hl
    exact st_iaload ht hrec hd h
  case baload =>
    have hl := req hc
    subst hl
    exact st_baload ht hrec hd h
  case laload =>
    have hl := req hc
    subst hl
    exact st_laload ht hrec hd h
  case aaload =>
    have hl := req hc
    subst hl
    exact st_aaload ht hrec hd h
  case arraylength =>
    have hl := req hc
    subst hl
    exact st_arraylength ht hrec hd h
  case iastore =>
    have hl := req hc
    subst hl
    exact st_iastore hρ ht hrec hd h
  case lastore =>
    have hl := req hc
    subst hl
    exact st_lastore hρ ht hrec hd h
  case bastore =>
    have hl := req hc
    subst hl
    exact st_bastore hρ ht hrec hd h
  case aastore =>
    have hl := req hc
    subst hl
    exact st_aastore hρ ht hrec hd h
  case newarray ty =>
    have hl := req hc
    subst hl
    exact st_newarray hρ ht hrec hd h
  case ireturn =>
    have hl := req hc
    subst hl
    exact st_ireturn hd h
  case lreturn =>
    have hl := req hc
    subst hl
    exact st_lreturn hd h
  case areturn =>
    have hl := req hc
    subst hl
    exact st_areturn hd h
  case return_ =>
    have hl := req hc
    subst hl
    exact st_return hd h
  case ldc x =>
    have hb := rb1 hc
    have hb2 := rb1 hb.2
    have hl := req hb2.1
    subst hl
    exact st_ldc ht hrec (ht.2.1 _ _ (rinp_mem hb.1)) (req hb2.2) hd h
  case ldc_w x =>
    have hb := rb1 hc
    have hb2 := rb1 hb.2
    have hl := req hb2.1
    subst hl
    exact st_ldcw ht hrec (ht.2.1 _ _ (rinp_mem hb.1)) (req hb2.2) hd h
  case ldc2_w x =>
    have hb := rb1 hc
    have hb2 := rb1 hb.2
    have hl := req hb2.1
    subst hl
    exact st_ldc2 ht hrec (ht.2.1 _ _ (rinp_mem hb.1)) (req hb2.2) hd h
  case getfield x =>
    have hb := rb1 hc
    have hb2 := rb1 hb.2
    have hl := req hb2.1
    subst hl
    exact st_getfield ht hrec (ht.2.1 _ _ (rinp_mem hb.1)) ((rb2 hb2.2).imp req req) hd h
  case getstatic x =>
    have hb := rb1 hc
    have hb2 := rb1 hb.2
    have hl := req hb2.1
    subst hl
    exact st_getstatic ht hrec (ht.2.1 _ _ (rinp_mem hb.1)) ((rb2 hb2.2).imp req req) hd h
  case putfield x =>
    have hb := rb1 hc
    have hb2 := rb1 hb.2
    have hl := req hb2.1
    subst hl
    exact st_putfield hρ ht hrec (ht.2.1 _ _ (rinp_mem hb.1)) ((rb2 hb2.2).imp req req) hd h
  case new x =>
    have hb := rb1 hc
    have hb2 := rb1 hb.2
    have hl := req hb2.1
    subst hl
    exact st_new hρ ht hrec (ht.2.1 _ _ (rinp_mem hb.1)) (req hb2.2) hd h
  case anewarray x =>
    have hb := rb1 hc
    have hb2 := rb1 hb.2
    have hl := req hb2.1
    subst hl
    exact st_anewarray hρ ht hrec (ht.2.1 _ _ (rinp_mem hb.1)) (req hb2.2) hd h
  case multianewarray x n =>
    have hb := rb1 hc
    have hb2 := rb1 hb.2
    have hb3 := rb1 hb2.2
    have hl := req hb2.1
    have hn := req hb3.2
    subst hl
    subst hn
    exact st_multi hρ ht hrec (ht.2.1 _ _ (rinp_mem hb.1)) (req hb3.1) hd h
  case invokevirtual x =>
    have hb := rb1 hc
    have hl := req hb.2
    subst hl
    have hp := ht.2.1 _ _ (rinp_mem hb.1)
    simp only [rinstr] at h
    split at h
    · next hk => exact st_inst (len := 3) hkn ht hrec hp (Or.inl ⟨rfl, (rb2 hk).imp req req⟩) hd h
    · cases h
  case invokespecial x =>
    have hb := rb1 hc
    have hl := req hb.2
    subst hl
    have hp := ht.2.1 _ _ (rinp_mem hb.1)
    by_cases h26 : act.1 = 26
    · exact st_objinit ht hrec hp h26 hd h
    · by_cases hk : (Nat.beq act.1 22 || Nat.beq act.1 23) = true
      · have h2 : rinv P.2.1 P.2.2.1 P.2.2.2.2.2.2.2 rec μ d pc ls st σ k pa cells slots act = some r := by
          rcases (rb2 hk).imp req req with z | z <;> simp only [rinstr, z] at h <;> exact h
        exact st_inst (len := 3) hkn ht hrec hp (Or.inr ⟨rfl, (rb2 hk).imp req req⟩) hd h2
      · simp only [rinstr] at h
        split at h
        · next hh => exact absurd hh hk
        · cases h
  case invokestatic x =>
    have hb := rb1 hc
    have hl := req hb.2
    subst hl
    have hp := ht.2.1 _ _ (rinp_mem hb.1)
    by_cases h27 : act.1 = 27
    · exact st_arraycopy hρ ht hrec hp h27 hd h
    · by_cases h28 : act.1 = 28
      · exact st_fill hρ hfw ht hrec hp h28 hd h
      · by_cases h29 : act.1 = 29
        · exact st_mmax ht hrec hp h29 hd h
        by_cases h30 : act.1 = 30
        · exact st_mmin ht hrec hp h30 hd h
        by_cases hk : (Nat.beq act.1 24 || Nat.beq act.1 25) = true
        · have h2 : rinv P.2.1 P.2.2.1 P.2.2.2.2.2.2.2 rec μ d pc ls st σ k pa cells slots act = some r := by
            rcases (rb2 hk).imp req req with z | z <;> simp only [rinstr, z] at h <;> exact h
          exact st_static (len := 3) hkn ht hrec hp ((rb2 hk).imp req req) hd h2
        · simp only [rinstr] at h
          split at h
          · next hh => exact absurd hh hk
          · cases h
  all_goals (cases h; done)
theorem rstep_ok {rec : rF} (hρ : rho P.2.2.2.2.2.2.1 B ρ) (hfw : rfillW E) (hkn : rknown P E l D dA B HB ρ) (ht : rtab P E) (hrec : rsound P E l D dA B HB ρ rec) : rsound P E l D dA B HB ρ (rstep P rec) := by
  intro μ d pc ls st σ k pa cells slots r h
  unfold rstep at h
  split at h
  · cases h
  · next f hf =>
    obtain ⟨h1, h2⟩ := ht.1 _ _ _ hf
    exact rinstr_ok hρ hfw hkn ht hrec h1 h2 h
theorem rrun_ok (hρ : rho P.2.2.2.2.2.2.1 B ρ) (hfw : rfillW E) (hkn : rknown P E l D dA B HB ρ) (ht : rtab P E) : ∀ n : Nat, rsound P E l D dA B HB ρ (rrun P n)
  | 0 => fun μ d pc ls st σ k pa cells slots r h => by cases h
  | n + 1 => rstep_ok hρ hfw hkn ht (rrun_ok hρ hfw hkn ht n)
end ALL
