/-! new cells; Object's constructor; arraycopy -/
theorem rwords_sum {ν : rV} {ρ : Nat → Nat} : ∀ st : List Value, ((st.map (rg ν ρ)).map fun v => v.category).sum = rwords st
  | [] => rfl
  | v :: st => by
    rw [List.map_cons, List.map_cons, List.sum_cons, rwords_sum st, rg_cat]
    rfl
section MK
variable {P : rP} {E : rE} {l : Launch} {D : va_G} {dA : Nat → ClassId} {B : Nat} {HB : Heap × rS} {ρ : Nat → Nat} {rec : rF} {μ d pc k cells slots len : Nat} {ls : rO} {st : List Value} {σ : rS} {pa : List Nat} {act : rA} {r : rR}
theorem st_newa1 {atype : ArrayType} {t : Nat} {n : Value} (hρ : rho P.2.2.2.2.2.2.1 B ρ) (hrec : rsound P E l D dA B HB ρ rec) (ht8 : t < 8) (hty : E.2.2.2.2.2.2.1 t = newarray.typeOf atype) (hpr : refKind (newarray.typeOf atype) = false) (hdef : ∀ ν, rg ν ρ (rdef t) = defaultValue (newarray.typeOf atype)) (hbytes : componentBytes (newarray.typeOf atype) ≤ 8) (hw : Jvm.Cond.arrayClass (newarray.typeOf atype) ∈ E.2.2.2.2.2.1)
    (hd : decode (E.2.1 μ) pc = .ok (.newarray atype, 2)) (h : rnewa t σ n (fun v σ x => rn (pc + 2) (fun pc' => rec μ d pc' ls (v :: st) σ k pa (cells + 1) (slots + x))) = some r) : rgoal P E l D dA B HB ρ r μ d pc ls (n :: st) σ cells slots := by
  obtain ⟨j, rfl, hj, hx, h⟩ := rnewa_ok h
  rw [rn_eq] at h
  refine rmake (hrec _ _ _ _ _ _ _ _ _ _ _ h) fun ν p e R s m args below meth c H locs lsR Q X hH hc hs w => ?_
  refine va_newaK X.1 X.2.1 (X.2.2.2.2.1 _ hw) rfl hd rfl hj rfl ?_ hc hs rfl fun H1 cA e1 e2 e3 e4 e5 => ?_
  · have := Nat.mul_le_mul hx hbytes
    omega
  · have hcA : cA = dA t := by
      have h1 := (X.2.2.2.2.2.2.2.1 t ht8).2
      rw [hty] at h1
      have h2 : s.vm.findClass ("[" ++ (newarray.typeOf atype).toString) = some (dA t) := by
        cases atype <;> exact h1
      exact Option.some.inj (e5.symm.trans h2)
    subst hcA
    have hn := rheap.new_at hρ hH
    have w2 := w H1 (rheap.push hρ hH e2 e3 (by
      show H1[H.size]? = some (arrV (dA t) j.toNatClampNeg (fun _ => rg ν ρ (rdef t)))
      rw [e1, hdef]))
    rw [List.map_cons, show rg ν ρ (.ref σ.length) = .ref H.size by rw [← hn]; rfl] at w2
    exact w2
theorem st_newarray {ty : ArrayType} (hρ : rho P.2.2.2.2.2.2.1 B ρ) (ht : rtab P E) (hrec : rsound P E l D dA B HB ρ rec) (hd : decode (E.2.1 μ) pc = .ok (.newarray ty, 2)) (h : rinstr P rec μ d pc ls st σ k pa cells slots (.newarray ty) len act = some r) : rgoal P E l D dA B HB ρ r μ d pc ls st σ cells slots := by
  simp only [rinstr] at h
  split at h
  · next n st =>
    split at h
    · exact st_newa1 (atype := .byte) (t := 0) hρ hrec (by decide) ht.2.2.2.1.1 rfl (fun _ => rfl) (by decide) ht.2.2.2.2.1.1 hd h
    · exact st_newa1 (atype := .int) (t := 1) hρ hrec (by decide) ht.2.2.2.1.2.1 rfl (fun _ => rfl) (by decide) ht.2.2.2.2.1.2.1 hd h
    · exact st_newa1 (atype := .long) (t := 2) hρ hrec (by decide) ht.2.2.2.1.2.2.1 rfl (fun _ => rfl) (by decide) ht.2.2.2.2.1.2.2.1 hd h
    · exact st_newa1 (atype := .boolean) (t := 3) hρ hrec (by decide) ht.2.2.2.1.2.2.2.1 rfl (fun _ => rfl) (by decide) ht.2.2.2.2.1.2.2.2 hd h
    · cases h
  · cases h
theorem st_anewarray {x : Nat} (hρ : rho P.2.2.2.2.2.2.1 B ρ) (ht : rtab P E) (hrec : rsound P E l D dA B HB ρ rec) (hp : rpo P E μ x act) (hk : act.1 = 13) (hd : decode (E.2.1 μ) pc = .ok (.anewarray x, 3)) (h : rinstr P rec μ d pc ls st σ k pa cells slots (.anewarray x) len act = some r) : rgoal P E l D dA B HB ρ r μ d pc ls st σ cells slots := by
  unfold rpo at hp
  rw [hk] at hp
  obtain ⟨C, q1, q2, q3⟩ := hp
  simp only [rinstr] at h
  split at h
  · next n st =>
    split at h
    · next hb =>
      simp only [Bool.and_eq_true] at hb
      have h4 : 4 ≤ act.2.1 := Nat.le_of_ble_eq_true hb.1
      have h7 : act.2.1 < 7 := Nat.le_of_ble_eq_true hb.2
      obtain ⟨j, rfl, hj, hx, h⟩ := rnewa_ok h
      rw [rn_eq] at h
      refine rmake (hrec _ _ _ _ _ _ _ _ _ _ _ h) fun ν p e R s m args below meth c H locs lsR Q X hH hc hs w => ?_
      refine W.anew X.1 X.2.1 X.2.2.2.1 (X.2.2.2.2.1 _ q2) (X.2.2.2.2.2.2.2.2.2.2.1 _ q3).2 rfl hd rfl hj (by omega) hc hs fun cA kA comp f1 f2 f3 f4 => ?_
      have hcA : cA = dA act.2.1 := by
        have h1 := (X.2.2.2.2.2.2.2.1 act.2.1 (by omega)).2
        rw [q1] at h1
        obtain ⟨kA', comp', -, -, -, h2⟩ := h1
        exact Option.some.inj (f1.symm.trans h2)
      subst hcA
      have hn := rheap.new_at hρ hH
      have hdef : rdef act.2.1 = .null := by
        rcases (show act.2.1 = 4 ∨ act.2.1 = 5 ∨ act.2.1 = 6 by omega) with z | z | z <;> rw [z] <;> rfl
      have w2 := w (H.push ({ cls := dA act.2.1, slots := Array.replicate j.toNatClampNeg .null, vm := .none } : Cell)) (rheap.push hρ hH (by rw [Array.size_push]) (fun q hq => by rw [Array.getElem?_push, if_neg (Nat.ne_of_lt hq)]) (by
        show (H.push _)[H.size]? = some (arrV (dA act.2.1) j.toNatClampNeg (fun _ => rg ν ρ (rdef act.2.1)))
        rw [Array.getElem?_push_size, hdef, ← arrV_new]
        rfl))
      rw [List.map_cons, show rg ν ρ (.ref σ.length) = .ref H.size by rw [← hn]; rfl] at w2
      exact w2
    · cases h
  · cases h
theorem st_new {x : Nat} (hρ : rho P.2.2.2.2.2.2.1 B ρ) (ht : rtab P E) (hrec : rsound P E l D dA B HB ρ rec) (hp : rpo P E μ x act) (hk : act.1 = 12) (hd : decode (E.2.1 μ) pc = .ok (.new x, 3)) (h : rinstr P rec μ d pc ls st σ k pa cells slots (.new x) len act = some r) : rgoal P E l D dA B HB ρ r μ d pc ls st σ cells slots := by
  unfold rpo at hp
  rw [hk] at hp
  obtain ⟨C, T, q1, q2, q3, q4⟩ := hp
  simp only [rinstr, rn_eq] at h
  obtain ⟨t1, ⟨ty0, t2, t4⟩, t3, t5⟩ := ht.2.2.1 _ _ _ _ q1
  refine rmake (hrec _ _ _ _ _ _ _ _ _ _ _ h) fun ν p e R s m args below meth c H locs lsR Q X hH hc hs w => ?_
  have hKn := X.2.2.2.2.2.2.1 _ _ q1
  refine W.newcK X.1 X.2.1 X.2.2.2.1 (X.2.2.2.2.1 _ q2) (X.2.2.2.2.1 _ q3) (X.2.2.2.2.1 _ q4) rfl hd hc hs hKn.2.1 rfl fun H1 kC hkC e1 e2 e3 => ?_
  have hn := rheap.new_at hρ hH
  have w2 := w H1 (rheap.push hρ hH e2 e3 ⟨_, q1, by
    rw [rg_plains t5]
    exact (u_born ty0 X.2.2.2.2.1 t1 hKn hkC e1 t2).to t4⟩)
  rw [List.map_cons, show rg ν ρ (.ref σ.length) = .ref H.size by rw [← hn]; rfl] at w2
  exact w2
theorem st_objinit {x : Nat} (ht : rtab P E) (hrec : rsound P E l D dA B HB ρ rec) (hp : rpo P E μ x act) (hk : act.1 = 26) (hd : decode (E.2.1 μ) pc = .ok (.invokespecial x, 3)) (h : rinstr P rec μ d pc ls st σ k pa cells slots (.invokespecial x) len act = some r) : rgoal P E l D dA B HB ρ r μ d pc ls st σ cells slots := by
  unfold rpo at hp
  rw [hk] at hp
  simp only [rinstr, hk] at h
  split at h
  · next a st =>
    split at h
    · next hb =>
      rw [rn_eq] at h
      have hb := Nat.le_of_ble_eq_true hb
      refine rpure rfl (hrec _ _ _ _ _ _ _ _ _ _ _ h) fun ν hν => ⟨hν, fun p e R s m args below meth c H locs lsR Q X hl hlo hfr w => ?_⟩
      refine W.objInit X.1 X.2.1 X.2.2.2.1 (X.2.2.2.2.1 _ hp) (X.2.2.2.2.1 _ ht.2.2.2.2.2.1.1) (X.2.2.2.2.1 _ ht.2.2.2.2.2.1.2) rfl (by rw [X.2.2.1]; exact hl.1) rfl hd (by omega) ?_ w
      rw [rwords_sum]
      show 2 * 0 + _ + 12 ≤ _
      omega
    · cases h
  · cases h
theorem rcel_fits {ν : rV} {t : Nat} {v : Value} (h : rcel t v = true) : (t = 0 → fits .byte (rg ν ρ v) = true) ∧ (t = 1 → fits .int (rg ν ρ v) = true) := by
  constructor
  · rintro rfl
    simp only [rcel] at h
    split at h
    · next x =>
      have hx := of_decide_eq_true h
      rw [← hx]
      exact pk_fb x
    · cases h
  · rintro rfl
    simp only [rcel] at h
    rw [rg_i h]
    rfl
theorem rcall0_ok {t : Nat} {ov0 : rO} {d0 : Value} {sp : Nat} : ∀ {n : Nat}, rcall0 t ov0 d0 sp n = true → ∀ i, i < n → rcel t (rlk ov0 d0 (sp + i)) = true
  | 0, _, i, hi => by omega
  | n + 1, h, i, hi => by
    simp only [rcall0, Bool.and_eq_true] at h
    by_cases hin : i = n
    · subst hin
      exact h.1
    · exact rcall0_ok h.2 i (by omega)
theorem rcopy_ok {SB : Nat} {n dp a sp a0 : Value} {c : rS → Option rR} (h : rcopy SB σ n dp a sp a0 c = some r) :
    ∃ (zn zdp zsp : Int32) (za za0 t t0 N N0 : Nat) (dv dv0 : Value) (ov ov0 : rO), n = .int zn ∧ dp = .int zdp ∧ a = .ref za ∧ sp = .int zsp ∧ a0 = .ref za0 ∧ σ[za]? = some (.inr (t, N, dv, ov)) ∧ σ[za0]? = some (.inr (t0, N0, dv0, ov0)) ∧ ¬ zn < 0 ∧ ¬ zdp < 0 ∧ ¬ zsp < 0 ∧ t = t0 ∧ t ≤ 1 ∧ zsp.toNatClampNeg + zn.toNatClampNeg ≤ N0 ∧ zdp.toNatClampNeg + zn.toNatClampNeg ≤ N ∧ SB ≤ za ∧ rcall0 t ov0 dv0 zsp.toNatClampNeg zn.toNatClampNeg = true ∧ c (σ.set za (.inr (t, N, dv, rcpy ov0 dv0 zsp.toNatClampNeg zdp.toNatClampNeg zn.toNatClampNeg ov))) = some r := by
  unfold rcopy at h
  split at h
  · next zn zdp za zsp za0 =>
    split at h
    · next q hq =>
      split at h
      · next q0 hq0 =>
        split at h
        · cases h
        · next hb =>
          simp only [Bool.or_eq_false_iff, decide_eq_false_iff_not] at hb
          rw [rn_eq, rn_eq, rn_eq] at h
          split at h
          · next hc =>
            simp only [Bool.and_eq_true] at hc
            obtain ⟨c1, c2, c3, c4, c5, c6⟩ := hc
            rw [rat_eq] at hq hq0
            rw [rstl_eq] at h
            obtain ⟨t, N, dv, ov⟩ := q
            obtain ⟨t0, N0, dv0, ov0⟩ := q0
            exact ⟨zn, zdp, zsp, za, za0, t, t0, N, N0, dv, dv0, ov, ov0, rfl, rfl, rfl, rfl, rfl, hq, hq0, hb.1, hb.2.1, hb.2.2, Nat.eq_of_beq_eq_true c1, Nat.le_of_ble_eq_true c2, Nat.le_of_ble_eq_true c3, Nat.le_of_ble_eq_true c4, Nat.le_of_ble_eq_true c5, c6, h⟩
          · cases h
      · cases h
    · cases h
  · cases h
theorem st_arraycopy {x : Nat} (hρ : rho P.2.2.2.2.2.2.1 B ρ) (ht : rtab P E) (hrec : rsound P E l D dA B HB ρ rec) (hp : rpo P E μ x act) (hk : act.1 = 27) (hd : decode (E.2.1 μ) pc = .ok (.invokestatic x, 3)) (h : rinstr P rec μ d pc ls st σ k pa cells slots (.invokestatic x) len act = some r) : rgoal P E l D dA B HB ρ r μ d pc ls st σ cells slots := by
  unfold rpo at hp
  rw [hk] at hp
  simp only [rinstr, hk] at h
  split at h
  · next n dp a sp a0 rest =>
    split at h
    · next hb =>
      have hb := Nat.le_of_ble_eq_true hb
      obtain ⟨n, dp, sp, a, a0, t, t0, N, N0, dv, dv0, ov, ov0, rfl, rfl, rfl, rfl, rfl, hσ, hσ0, h3, h2, h1, rfl, ht1, h4, h5, ha, hcl, h⟩ := rcopy_ok h
      rw [rn_eq] at h
      refine rwrite rfl (hrec _ _ _ _ _ _ _ _ _ _ _ h) fun ν hν => ⟨hν, fun p e R s m args below meth c H locs lsR Q C hH hl hlo hfr hL w => ?_⟩
      intro T hT X
      obtain ⟨cs, hc0, c2, c3, c4, c5, c6, -⟩ := rarrT hH C.2.2.2.2.2.2 hσ0 (show t < 8 by omega)
      have hc1 : H[ρ a]? = some (arrV (dA t) N (fun j => rg ν ρ (rlk ov dv j))) := hH.2.2.2.1 a _ ha hσ
      obtain ⟨hob, k0, hk0, cm0, hkk0⟩ := c2
      obtain ⟨-, k1, hk1, cm1, hkk1⟩ := (C.2.2.2.2.2.2.2.1 t (by omega)).1 N (fun j => rg ν ρ (rlk ov dv j))
      have hprim : refKind (E.2.2.2.2.2.2.1 t) = false := by
        rcases (show t = 0 ∨ t = 1 by omega) with rfl | rfl
        · rw [ht.2.2.2.1.1]; rfl
        · rw [ht.2.2.2.1.2.1]; rfl
      have nn : ∀ z : Int32, ¬ z < 0 → z.toInt = (z.toNatClampNeg : Int) := by
        intro z hz
        have hz0 : (0 : Int) ≤ z.toInt := by
          have := Int32.not_lt.mp hz
          simpa using Int32.le_iff_toInt_le.mp this
        show z.toInt = ((z.toInt.toNat : Nat) : Int)
        omega
      obtain ⟨vm', X', step⟩ := X.arraycopy C.1 C.2.2.2.1 (C.2.2.2.2.1 _ hp) (C.2.2.2.2.1 _ ht.2.2.2.2.2.2.1.1) (C.2.2.2.2.1 _ ht.2.2.2.2.2.2.1.2.1) (C.2.2.2.2.1 _ ht.2.2.2.2.2.2.1.2.2) (src := ρ a0) (dst := ρ a) (cs := cs) (cd := arrV (dA t) N (fun j => rg ν ρ (rlk ov dv j))) (srcPos := sp) (destPos := dp) (n := n) (by rw [hT]; exact hc0) (by rw [hT]; exact hc1)
        hob (fun _ h => by cases h) c3 (fun h => by cases h) hk0 hk1 hkk0 hkk1 (by simp [hprim]) h1 h2 h3
        (by rw [nn sp h1, nn n h3]; omega) (by rw [nn dp h2, nn n h3, arrV_size]; omega)
        (fun vm₁ _ i hi => by
          have e : cs.slots.getD (sp.toNatClampNeg + i) .null = rg ν ρ (rlk ov0 dv0 (sp.toNatClampNeg + i)) := by
            rw [Array.getD_eq_getD_getElem?, c6 _ (by omega)]
            rfl
          have hce := rcall0_ok hcl i hi
          have hf := rcel_fits (ν := ν) (ρ := ρ) hce
          rw [e]
          refine ⟨?_, ?_⟩
          · rcases (show t = 0 ∨ t = 1 by omega) with rfl | rfl
            · rw [ht.2.2.2.1.1]; exact hf.1 rfl
            · rw [ht.2.2.2.1.2.1]; exact hf.2 rfl
          · have hI : risI (rlk ov0 dv0 (sp.toNatClampNeg + i)) = true := by
              revert hce
              generalize rlk ov0 dv0 (sp.toNatClampNeg + i) = z
              intro hce
              rcases (show t = 0 ∨ t = 1 by omega) with rfl | rfl
              · cases z <;> first | rfl | (simp [rcel] at hce; done)
              · exact hce
            rw [rg_i hI]
            exact trivial)
        (g := F0 m pc lsR (.int n :: .int dp :: .ref (ρ a) :: .int sp :: .ref (ρ a0) :: rest.map (rg ν ρ))) rfl (by rw [C.2.2.1]; exact hl.1) (rest := rest.map (rg ν ρ)) rfl (by rw [C.2.1]; exact hd) (by omega) (by
          rw [rwords_sum]
          show 2 * 0 + _ + (7 + 11) ≤ _
          omega)
      have hstr : cs.stretch sp.toNatClampNeg n.toNatClampNeg = (arrV (dA t) N0 (fun j => rg ν ρ (rlk ov0 dv0 j))).stretch sp.toNatClampNeg n.toNatClampNeg := by
        unfold Cell.stretch
        apply List.map_congr_left
        intro i hi
        have hi' := List.mem_range.mp hi
        rw [Array.getD_eq_getD_getElem?, Array.getD_eq_getD_getElem?, c6 _ (by omega), arrV_read _ _ (by omega)]
      have e1 : copied cs (arrV (dA t) N (fun j => rg ν ρ (rlk ov dv j))) sp dp n = arrV (dA t) N (fun j => rg ν ρ (rlk (rcpy ov0 dv0 sp.toNatClampNeg dp.toNatClampNeg n.toNatClampNeg ov) dv j)) := by
        show (arrV (dA t) N (fun j => rg ν ρ (rlk ov dv j))).storeRun dp.toNatClampNeg (cs.stretch sp.toNatClampNeg n.toNatClampNeg) = _
        rw [hstr]
        refine (va_copied (fun z => z) (dA t) (dA t) _ _ h4).trans ?_
        congr 1
        funext j
        rw [rcpy_lk]
        unfold va_cpy
        split <;> rfl
      rw [e1] at X' step
      have hlt : ρ a < H.size := (Array.getElem?_eq_some_iff.mp hc1).1
      have hheap : ((T.setVm vm').setCell (ρ a) (arrV (dA t) N (fun j => rg ν ρ (rlk (rcpy ov0 dv0 sp.toNatClampNeg dp.toNatClampNeg n.toNatClampNeg ov) dv j)))).heap = H.setIfInBounds (ρ a) (arrV (dA t) N (fun j => rg ν ρ (rlk (rcpy ov0 dv0 sp.toNatClampNeg dp.toNatClampNeg n.toNatClampNeg ov) dv j))) := by rw [← hT]; rfl
      obtain ⟨t2, a1, b1⟩ := w _ _ (rheap.set hρ hH ha (by simp) (fun q hq => by simp [Array.getElem?_setIfInBounds, Ne.symm hq]) (show (H.setIfInBounds (ρ a) _)[ρ a]? = some _ by simp [Array.getElem?_setIfInBounds, hlt])) (fun q hq => by
        rcases List.mem_append.mp hq with h | h
        · exact hL q h
        · obtain ⟨z, -, hz⟩ := List.mem_map.mp h
          rw [← hz]
          exact hρ.ge ha) _ hheap X'
      exact ⟨t2, step t2 a1, b1⟩
    · cases h
  · cases h
theorem st_mmax {x : Nat} (ht : rtab P E) (hrec : rsound P E l D dA B HB ρ rec) (hp : rpo P E μ x act) (hk : act.1 = 29) (hd : decode (E.2.1 μ) pc = .ok (.invokestatic x, 3)) (h : rinstr P rec μ d pc ls st σ k pa cells slots (.invokestatic x) len act = some r) : rgoal P E l D dA B HB ρ r μ d pc ls st σ cells slots := by
  unfold rpo at hp
  rw [hk] at hp
  simp only [rinstr, hk] at h
  split at h
  · next y x st =>
    split at h
    · next hb =>
      have hb := Nat.le_of_ble_eq_true hb
      have key : ∀ (z : Value) (r' : rR), risI z = true → r'.2 = r.2 → rgoal P E l D dA B HB ρ r' μ d (pc + 3) ls (z :: st) σ cells slots → risI x = true → risI y = true → (∀ ν, rholds ν r.1 → rholds ν r'.1 ∧ ri ν z = (fun x y : Int32 => if x < y then y else x) (ri ν x) (ri ν y)) → rgoal P E l D dA B HB ρ r μ d pc ls (y :: x :: st) σ cells slots := by
        intro z r' hz ht2 hg hxi hyi hh
        obtain ⟨g1, g2, g3⟩ := hg
        rw [ht2] at g1 g2
        refine ⟨g1, g2, fun ν hν => ?_⟩
        obtain ⟨h1, h2⟩ := hh ν hν
        have h3 := g3 ν h1
        rw [ht2] at h3
        intro p e R s m args below meth c H locs lsR Q a1 a2 a3 a4 a5 a6 a7 a8 a9
        have w := h3 p e R s m args below meth c H locs lsR Q a1 a2 a3 a4 a5 a6 a7 a8 a9
        rw [List.map_cons, rg_i hz, h2] at w
        rw [List.map_cons, List.map_cons, rg_i hyi, rg_i hxi]
        refine va_mmax a1.1 a1.2.1 (a1.2.2.1.trans a8.1.symm) a1.2.2.2.1 (a1.2.2.2.2.1 _ hp) (a1.2.2.2.2.1 _ ht.2.2.2.2.2.2.2.1.2.1) (a1.2.2.2.2.1 _ ht.2.2.2.2.2.2.2.1.1) (a1.2.2.2.2.1 _ ht.2.2.2.2.2.2.2.1.2.2.1) (by omega) (by rw [rwords_sum]; omega) (by omega) (by omega) hd w
      obtain ⟨b1, b2, h | h⟩ := rbr_ok h
      · obtain ⟨pa', r', h1, h2, h4⟩ := h
        rw [rn_eq] at h1
        refine key y r' b2 h2 (hrec _ _ _ _ _ _ _ _ _ _ _ h1) b1 b2 fun ν hν => ⟨(h4 ν hν).1, ?_⟩
        exact (if_pos (of_decide_eq_true (h4 ν hν).2)).symm
      · obtain ⟨pa', r', h1, h2, h4⟩ := h
        rw [rn_eq] at h1
        refine key x r' b1 h2 (hrec _ _ _ _ _ _ _ _ _ _ _ h1) b1 b2 fun ν hν => ⟨(h4 ν hν).1, ?_⟩
        exact (if_neg (of_decide_eq_false (h4 ν hν).2)).symm
    · cases h
  · cases h
theorem st_mmin {x : Nat} (ht : rtab P E) (hrec : rsound P E l D dA B HB ρ rec) (hp : rpo P E μ x act) (hk : act.1 = 30) (hd : decode (E.2.1 μ) pc = .ok (.invokestatic x, 3)) (h : rinstr P rec μ d pc ls st σ k pa cells slots (.invokestatic x) len act = some r) : rgoal P E l D dA B HB ρ r μ d pc ls st σ cells slots := by
  unfold rpo at hp
  rw [hk] at hp
  simp only [rinstr, hk] at h
  split at h
  · next y x st =>
    split at h
    · next hb =>
      have hb := Nat.le_of_ble_eq_true hb
      have key : ∀ (z : Value) (r' : rR), risI z = true → r'.2 = r.2 → rgoal P E l D dA B HB ρ r' μ d (pc + 3) ls (z :: st) σ cells slots → risI x = true → risI y = true → (∀ ν, rholds ν r.1 → rholds ν r'.1 ∧ ri ν z = (fun x y : Int32 => if y < x then y else x) (ri ν x) (ri ν y)) → rgoal P E l D dA B HB ρ r μ d pc ls (y :: x :: st) σ cells slots := by
        intro z r' hz ht2 hg hxi hyi hh
        obtain ⟨g1, g2, g3⟩ := hg
        rw [ht2] at g1 g2
        refine ⟨g1, g2, fun ν hν => ?_⟩
        obtain ⟨h1, h2⟩ := hh ν hν
        have h3 := g3 ν h1
        rw [ht2] at h3
        intro p e R s m args below meth c H locs lsR Q a1 a2 a3 a4 a5 a6 a7 a8 a9
        have w := h3 p e R s m args below meth c H locs lsR Q a1 a2 a3 a4 a5 a6 a7 a8 a9
        rw [List.map_cons, rg_i hz, h2] at w
        rw [List.map_cons, List.map_cons, rg_i hyi, rg_i hxi]
        refine va_mmin a1.1 a1.2.1 (a1.2.2.1.trans a8.1.symm) a1.2.2.2.1 (a1.2.2.2.2.1 _ hp) (a1.2.2.2.2.1 _ ht.2.2.2.2.2.2.2.1.2.2.2.1) (a1.2.2.2.2.1 _ ht.2.2.2.2.2.2.2.1.1) (a1.2.2.2.2.1 _ ht.2.2.2.2.2.2.2.1.2.2.2.2) (by omega) (by rw [rwords_sum]; omega) (by omega) (by omega) hd w
      obtain ⟨b1, b2, h | h⟩ := rbr_ok h
      · obtain ⟨pa', r', h1, h2, h4⟩ := h
        rw [rn_eq] at h1
        refine key y r' b2 h2 (hrec _ _ _ _ _ _ _ _ _ _ _ h1) b1 b2 fun ν hν => ⟨(h4 ν hν).1, ?_⟩
        exact (if_pos (of_decide_eq_true (h4 ν hν).2)).symm
      · obtain ⟨pa', r', h1, h2, h4⟩ := h
        rw [rn_eq] at h1
        refine key x r' b1 h2 (hrec _ _ _ _ _ _ _ _ _ _ _ h1) b1 b2 fun ν hν => ⟨(h4 ν hν).1, ?_⟩
        exact (if_neg (of_decide_eq_false (h4 ν hν).2)).symm
    · cases h
  · cases h
theorem st_ireturn (hd : decode (E.2.1 μ) pc = .ok (.ireturn, 1)) (h : rinstr P rec μ d pc ls st σ k pa cells slots .ireturn len act = some r) : rgoal P E l D dA B HB ρ r μ d pc ls st σ cells slots := by
  simp only [rinstr] at h
  split at h
  · next v =>
    split at h
    · next hv =>
      cases h
      exact ⟨Nat.le_refl _, Nat.le_refl _, fun ν _ p e R s m args below meth c H locs lsR Q a1 a2 a3 a4 a5 a6 a7 a8 a9 => a6 .ireturn pc H locs lsR (by cases v <;> first | rfl | cases hv) hd a7 a9⟩
    · cases h
  · cases h
theorem st_lreturn (hd : decode (E.2.1 μ) pc = .ok (.lreturn, 1)) (h : rinstr P rec μ d pc ls st σ k pa cells slots .lreturn len act = some r) : rgoal P E l D dA B HB ρ r μ d pc ls st σ cells slots := by
  simp only [rinstr] at h
  split at h
  · next v =>
    split at h
    · next hv =>
      cases h
      exact ⟨Nat.le_refl _, Nat.le_refl _, fun ν _ p e R s m args below meth c H locs lsR Q a1 a2 a3 a4 a5 a6 a7 a8 a9 => a6 .lreturn pc H locs lsR (by cases v <;> first | rfl | cases hv) hd a7 a9⟩
    · cases h
  · cases h
theorem st_areturn (hd : decode (E.2.1 μ) pc = .ok (.areturn, 1)) (h : rinstr P rec μ d pc ls st σ k pa cells slots .areturn len act = some r) : rgoal P E l D dA B HB ρ r μ d pc ls st σ cells slots := by
  simp only [rinstr] at h
  split at h
  · next v =>
    split at h
    · next hv =>
      cases h
      exact ⟨Nat.le_refl _, Nat.le_refl _, fun ν _ p e R s m args below meth c H locs lsR Q a1 a2 a3 a4 a5 a6 a7 a8 a9 => a6 .areturn pc H locs lsR (by cases v <;> first | rfl | cases hv) hd a7 a9⟩
    · cases h
  · cases h
theorem st_return (hd : decode (E.2.1 μ) pc = .ok (.return_, 1)) (h : rinstr P rec μ d pc ls st σ k pa cells slots .return_ len act = some r) : rgoal P E l D dA B HB ρ r μ d pc ls st σ cells slots := by
  simp only [rinstr] at h
  split at h
  · cases h
    exact ⟨Nat.le_refl _, Nat.le_refl _, fun ν _ p e R s m args below meth c H locs lsR Q a1 a2 a3 a4 a5 a6 a7 a8 a9 => a6 .return_ pc H locs lsR rfl hd a7 a9⟩
  · cases h
end MK
