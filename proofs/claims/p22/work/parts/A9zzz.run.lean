/-! a whole run of it is a run of the listing -/
section YT
variable {ν : mE} {ρ : Nat → Nat} {K L0 : Nat} {σ0 : rS}
theorem mstep_ok (hF : mF ρ K L0) {i : Instr} {μ d pc c s len : Nat} {act : rA} {ls : rO} {st : List Value} {m : rS} {t : mS} (hf : PP.1 μ pc = some (i, len, act)) (h : mstep i len act μ pc ls st m c s = some t) : mOK ν ρ K L0 σ0 μ d pc ls st m c s t := by
  cases i with
  | aload_n x => exact s_aload_n hf h
  | iload_n x => exact s_iload_n hf h
  | iload x => exact s_iload hf h
  | istore_n x => exact s_istore_n hf h
  | istore x => exact s_istore hf h
  | astore_n x => exact s_astore_n hf h
  | iconst z => exact s_iconst hf h
  | bipush z => exact s_bipush hf h
  | sipush z => exact s_sipush hf h
  | lconst z => exact s_lconst hf h
  | ldc2_w x => exact s_ldc2 hf h
  | ldc x => exact s_ldc hf h
  | dup => exact s_dup hf h
  | dup2 => exact s_dup2 hf h
  | goto off => exact s_goto hf h
  | iadd => exact s_bin (i := .iadd) (o := 0) (fun a b l c s σ r hr => x_iadd hf (toI_of _).symm hr) h
  | isub => exact s_bin (i := .isub) (o := 1) (fun a b l c s σ r hr => x_isub hf (toI_of _).symm hr) h
  | iand => exact s_bin (i := .iand) (o := 3) (fun a b l c s σ r hr => x_iand hf (toI_of _).symm hr) h
  | ishl => exact s_bin (i := .ishl) (o := 6) (fun a b l c s σ r hr => x_ishl hf (toI_of _).symm hr) h
  | ishr => exact s_bin (i := .ishr) (o := 7) (fun a b l c s σ r hr => x_ishr hf (toI_of _).symm hr) h
  | if_icmp k off => exact s_icmp hf h
  | ifCond k off => exact s_ifc hf h
  | ifnonnull off => exact s_ifnn hf h
  | iinc x z => exact s_iinc hf h
  | getstatic x => exact s_getstatic hF hf h
  | getfield x => exact s_getfield hf h
  | putfield x => exact s_putfield hF hf h
  | iaload => exact s_iaload hf h
  | aaload => exact s_aaload hf h
  | iastore => exact s_iastore hF hf h
  | lastore => exact s_lastore hF hf h
  | aastore => exact s_aastore hF hf h
  | newarray ty =>
    cases ty with
    | byte => exact s_newa hF (fun j l c s σ r h1 h2 hr => y_newa hf (fun _ => rfl) h1 h2 hr) h
    | int => exact s_newa hF (fun j l c s σ r h1 h2 hr => y_newa hf (fun _ => rfl) h1 h2 hr) h
    | long => exact s_newa hF (fun j l c s σ r h1 h2 hr => y_newa hf (fun _ => rfl) h1 h2 hr) h
    | boolean => exact s_newa hF (fun j l c s σ r h1 h2 hr => y_newa hf (fun _ => rfl) h1 h2 hr) h
    | _ => exact absurd h (fun e => by unfold mstep at e; cases e)
  | anewarray x =>
    unfold mstep at h
    dsimp only at h
    split at h
    · rename_i e
      refine s_newa hF (fun j l c s σ r h1 h2 hr => y_newa hf (fun rec => ?_) h1 h2 hr) h
      show (match Nat.ble 4 act.2.1 && Nat.blt act.2.1 7 with | true => _ | false => _) = _
      rw [e]
    · cases h
  | multianewarray x y => exact s_multi hF hf h
  | new x => exact s_new hF hf h
  | invokespecial x => exact s_special hf h
  | invokestatic x => exact s_static hF hf h
  | _ => exact absurd h (fun e => by unfold mstep at e; cases e)
theorem rinvs {μ d pc c s len : Nat} {ls : rO} {st : List Value} {σ : rS} {μ' n : Nat} {ci b x : Nat} {vs rest : List Value} {fs : List Value} {q : Nat} (hq : (Nat.beq q 22 || Nat.beq q 23) = true) (hp : rpopn n [] st = some (vs, .ref b :: rest)) (hc : rat σ b = some (.inl (ci, fs))) (rec : rF) :
    rinstr PP rec μ (d + 1) pc ls st σ 0 [] c s (.invokespecial x) len (q, μ', n, .ref ci) = rcall PP.2.1 PP.2.2.1 PP.2.2.2.2.2.2.2 rec μ (d + 1) pc ls μ' (.ref b :: vs) rest σ 0 [] c s := by
  simp only [Bool.or_eq_true] at hq
  have main : rinv PP.2.1 PP.2.2.1 PP.2.2.2.2.2.2.2 rec μ (d + 1) pc ls st σ 0 [] c s (q, μ', n, .ref ci) = rcall PP.2.1 PP.2.2.1 PP.2.2.2.2.2.2.2 rec μ (d + 1) pc ls μ' (.ref b :: vs) rest σ 0 [] c s := by
    unfold rinv
    rw [show rpopn (q, μ', n, Value.ref ci).2.2.1 [] st = some (vs, .ref b :: rest) from hp]
    have h24 : Nat.ble 24 q = false := by
      rcases hq with h | h
      · rw [Nat.eq_of_beq_eq_true h]; rfl
      · rw [Nat.eq_of_beq_eq_true h]; rfl
    show (match Nat.ble 24 q with | true => _ | false => _) = _
    rw [h24]
    show rinvo PP.2.1 PP.2.2.1 PP.2.2.2.2.2.2.2 rec μ (d + 1) pc ls vs (.ref b :: rest) σ 0 [] c s (q, μ', n, .ref ci) = _
    unfold rinvo
    simp only [hc, Nat.beq_refl]
  rcases hq with h | h
  · have := Nat.eq_of_beq_eq_true h
    subst this
    exact main
  · have := Nat.eq_of_beq_eq_true h
    subst this
    exact main
theorem mcalo_ok {b : Bool} {act : rA} {st vs rest : List Value} {m σ : rS} (hI : mI ν ρ K L0 σ0 m σ) (h : mcalo b act st m = some (vs, rest)) : ∃ a vs' ci fs, vs = .ref a :: vs' ∧ act.2.2.2 = .ref ci ∧ b = true ∧ rpopn act.2.2.1 [] (mT ν ρ st) = some (mT ν ρ vs', .ref (ρ a) :: mT ν ρ rest) ∧ rat σ (ρ a) = some (.inl (ci, fs)) ∧ (Nat.ble (rwords (mT ν ρ rest)) 8 && Nat.ble (rwords (mT ν ρ vs)) (PP.2.1 act.2.1)) = true := by
  unfold mcalo at h
  split at h
  · rename_i vs' a rest' e
    split at h
    · rename_i q e1
      split at h
      · rename_i ci e2
        split at h
        · rename_i e3
          cases h
          simp only [Bool.and_eq_true] at e3
          obtain ⟨h1, h2, h3, h4⟩ := e3
          obtain ⟨qₚ, p1, p2⟩ := hI.1 a _ e1
          have p2 : qₚ = .inl (q.1, mT ν ρ q.2) := p2
          rw [p2, Nat.eq_of_beq_eq_true h2] at p1
          have w := mT_popn (ν := ν) (ρ := ρ) act.2.2.1 [] st
          rw [e] at w
          refine ⟨a, vs', ci, _, rfl, e2, h1, w, p1, ?_⟩
          rw [mT_words, mT_words, h3, h4]
          rfl
        · cases h
      · cases h
    · cases h
  · cases h
theorem Ew_c {μ d pc c s cₚ sₚ : Nat} {ls : rO} {st : List Value} {σ : rS} {Q : wQ} (e : c = cₚ) (e' : s = sₚ) (h : Ew μ d pc ls st σ c s Q) : Ew μ d pc ls st σ cₚ sₚ Q := e ▸ e' ▸ h
theorem mcal_ok {i : Instr} {μ d pc c s len : Nat} {act : rA} {ls : rO} {st vs rest : List Value} {m σ : rS} {Q : wQ} (hI : mI ν ρ K L0 σ0 m σ) (hf : PP.1 μ pc = some (i, len, act)) (h : mcal i act st m = some (vs, rest))
    (h1 : Ew act.2.1 d 0 (mL ν ρ (rargs 0 vs)) [] σ 0 0 (fun v σₚ cₚ sₚ => rretok (PP.2.2.1 act.2.1) v = true ∧ Ew μ (d + 1) (pc + 3) (mL ν ρ ls) (v.toList ++ mT ν ρ rest) σₚ (c + cₚ) (s + sₚ) Q)) : Ew μ (d + 1) pc (mL ν ρ ls) (mT ν ρ st) σ c s Q := by
  obtain ⟨q, μ', n, z⟩ := act
  rw [← mT_args] at h1
  unfold mcal at h
  split at h
  · split at h
    · rename_i vs' rest' e
      split at h
      · rename_i e1
        cases h
        rw [Bool.and_eq_true] at e1
        have hw : (Nat.ble (rwords (mT ν ρ rest)) 8 && Nat.ble (rwords (mT ν ρ vs)) (PP.2.1 μ')) = true := by
          rw [mT_words, mT_words]
          exact e1.2
        have w := mT_popn (ν := ν) (ρ := ρ) n [] st
        have e : rpopn n [] st = some (vs, rest) := e
        rw [e] at w
        have e3 := e1.1
        simp only [Bool.or_eq_true] at e3
        rcases e3 with u | u
        · have u := Nat.eq_of_beq_eq_true u
          have u : q = 24 := u
          subst u
          exact w_stat24 hf w hw h1
        · have u := Nat.eq_of_beq_eq_true u
          have u : q = 25 := u
          subst u
          exact w_stat25 hf w hw h1
      · cases h
    · cases h
  · obtain ⟨a, vs', ci, fs, q1, q2, q3, q4, q5, q6⟩ := mcalo_ok hI h
    have q2 : z = .ref ci := q2
    subst q1 q2
    exact w_callk hf (fun rec => rinvv q3 q4 q5 rec) q6 h1
  · obtain ⟨a, vs', ci, fs, q1, q2, q3, q4, q5, q6⟩ := mcalo_ok hI h
    have q2 : z = .ref ci := q2
    subst q1 q2
    exact w_callk hf (fun rec => rinvs q3 q4 q5 rec) q6 h1
  · cases h
theorem mret_ok {i : Instr} {μ d pc c s len : Nat} {act : rA} {ls : rO} {st : List Value} {σ : rS} {v : Option Value} {Q : wQ} (hf : PP.1 μ pc = some (i, len, act)) (h : mret i st = some v) (hQ : Q (v.map (mg ν ρ)) σ c s) : Ew μ d pc (mL ν ρ ls) (mT ν ρ st) σ c s Q := by
  unfold mret at h
  split at h
  · split at h
    · cases h
      exact w_ret hf hQ
    · cases h
  · split at h
    · cases h
      exact ⟨_, _, _, _, x_areturn hf, hQ⟩
    · cases h
  · cases h
theorem mrun_ok (hF : mF ρ K L0) : ∀ (n d μ pc : Nat) (ls : rO) (st : List Value) (m : rS) (c s : Nat) (y : mR), mrun n d μ pc ls st m c s = some y → ∀ (C S : Nat) (σ : rS) (Q : wQ), mI ν ρ K L0 σ0 m σ → (∀ σₚ, mI ν ρ K L0 σ0 y.2.1 σₚ → Q (y.1.map (mg ν ρ)) σₚ (C + y.2.2.1) (S + y.2.2.2)) → Ew μ d pc (mL ν ρ ls) (mT ν ρ st) σ (C + c) (S + s) Q
  | 0, _, _, _, _, _, _, _, _, _, h => by unfold mrun at h; cases h
  | n + 1, d, μ, pc, ls, st, m, c, s, y, h => by
    intro C S σ Q hI hQ
    unfold mrun at h
    split at h
    · cases h
    · rename_i q hf
      obtain ⟨i, len, act⟩ := q
      dsimp only at h
      split at h
      · rename_i v e
        cases h
        exact mret_ok hf e (hQ σ hI)
      · split at h
        · rename_i z e
          split at h
          · cases h
          · rename_i d'
            split at h
            · rename_i y1 e1
              split at h
              · rename_i e2
                rw [rn_eq] at h
                obtain ⟨vs, rest⟩ := z
                refine mcal_ok hI hf e ?_
                refine Ew_c (Nat.add_zero 0) (Nat.add_zero 0) (mrun_ok hF n d' act.2.1 0 (rargs 0 vs) [] m 0 0 y1 e1 0 0 σ _ hI (fun σₚ hI' => ⟨rretok_mg e2, ?_⟩))
                have w := mrun_ok hF n (d' + 1) μ (pc + 3) ls (y1.1.toList ++ rest) y1.2.1 (c + y1.2.2.1) (s + y1.2.2.2) y h C S σₚ Q hI' hQ
                rw [Nat.zero_add, Nat.zero_add]
                refine Ew_c (Nat.add_assoc _ _ _).symm (Nat.add_assoc _ _ _).symm ?_
                have e5 : mT ν ρ (y1.1.toList ++ rest) = (y1.1.map (mg ν ρ)).toList ++ mT ν ρ rest := by
                  cases y1.1 with
                  | none => rfl
                  | some v => rfl
                rw [e5] at w
                exact w
              · cases h
            · cases h
        · split at h
          · rename_i t e
            rw [rn_eq] at h
            obtain ⟨σₚ, p1, p2⟩ := mstep_ok (d := d) hF hf e C S σ hI
            have w := mrun_ok hF n d μ t.1 t.2.1 t.2.2.1 t.2.2.2.1 t.2.2.2.2.1 t.2.2.2.2.2 y h C S σₚ Q p1 hQ
            exact Ew_ofc p2 w
          · cases h
end YT
