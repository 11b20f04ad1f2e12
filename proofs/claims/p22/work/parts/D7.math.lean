theorem hsf_congr {b b' : Int → Int} {p : Int} : ∀ {k : Nat}, (∀ i, p ≤ i → i < p + k → b' i = b i) → hsf b' p k = hsf b p k
  | 0, _ => rfl
  | k + 1, h => by
    show wr (wr (hsf b' p k * 257) + b' (p + k)) = wr (wr (hsf b p k * 257) + b (p + k))
    rw [hsf_congr (fun i x y => h i x (by omega)), h (p + k) (by omega) (by omega)]
theorem hsh_congr {b b' : Int → Int} {l p : Int} (h : ∀ i, p ≤ i → i < p + l → b' i = b i) : hsh b' l p = hsh b l p := by
  unfold hsh
  rw [hsf_congr (fun i x y => h i x (by omega))]
theorem BKI_data {b b' bk : Int → Int} {l L C : Int} (h : BKI b bk l L) (e : ∀ i, 0 ≤ i → i < C → b' i = b i) (hl : L = 0 ∨ L + l ≤ C + 1) : BKI b' bk l L := fun i a c => by
  have w := h i a c
  refine ⟨w.1, w.2.1, fun q => ?_⟩
  rw [hsh_congr (b := b) (fun j x y => e j (by omega) (by omega)), hsh_congr (b := b) (fun j x y => e j (by omega) (by omega))]
  exact w.2.2 q
theorem HDI_data {b b' hd : Int → Int} {l L C : Int} (h : HDI b hd l L) (e : ∀ i, 0 ≤ i → i < C → b' i = b i) (hl : L = 0 ∨ L + l ≤ C + 1) : HDI b' hd l L := fun i a c => by
  have w := h i a c
  refine ⟨w.1, w.2.1, fun q => ?_⟩
  rw [hsh_congr (b := b) (fun j x y => e j (by omega) (by omega))]
  exact w.2.2 q
theorem HDI_any {b b' hd : Int → Int} {l lₚ : Int} (h : HDI b hd l 0) : HDI b' hd lₚ 0 := fun i a c => by
  have w := h i a c
  exact ⟨w.1, w.2.1, fun q => absurd q (by omega)⟩
section VS7
variable {V : vV} {σ : rS} {D N : Nat → Nat} {F : hF} {A : hA} {μ d pc c s : Nat} {ls : rO} {st : List Value} {Q : wQ} {len : Nat} {act : rA}
theorem v_cpyS (H : HW V σ D N F A) (HT : STC σ) {x b e t b0 : Nat} {z : Value} {m dp sp n : Int} (hf : PP.1 μ pc = some (.invokestatic x, len, (27, b, e, z))) (hw : Nat.ble (rwords st) 8 = true) (ht : Nat.blt t V.length = true) (hb : Nat.beq b0 0 = true) (ha : varr V t = true) (hk : vak V t = 0) (hn : (N t : Int) = n) (hm : 0 ≤ m ∧ 0 ≤ dp ∧ 0 ≤ sp ∧ sp + m ≤ (stl b0).length ∧ dp + m ≤ n)
    (h : ∀ σₚ Aₚ, HW V σₚ D N F Aₚ → OUT V.length D N σ c s D N σₚ c s → SA [t] A Aₚ → (∀ i, i < dp ∨ dp + m ≤ i → Aₚ t i = A t i) → Ew μ d (pc + 3) ls st σₚ c s Q) : Ew μ d pc ls (I m :: I dp :: .ref (D t) :: I sp :: .ref b0 :: st) σ c s Q := by
  have hb := Nat.eq_of_beq_eq_true hb
  subst hb hn
  have ht := blt_of ht
  have hl := H.nle t ht
  have hl0 := stl_len 0 (by omega)
  obtain ⟨dv, ov, q1, q2⟩ := H.arr t ht ha
  obtain ⟨dv0, ov0, p1, p2⟩ := HT 0 (by omega)
  have hr0 : ∀ j : Nat, -128 ≤ (stl 0).getD j 0 ∧ (stl 0).getD j 0 ≤ 127 := fun j => by
    by_cases w : j < 10
    · have q : ∀ j, j < 10 → -128 ≤ (stl 0).getD j 0 ∧ (stl 0).getD j 0 ≤ 127 := by decide +kernel
      exact q j w
    · rw [List.getD_eq_getElem?_getD, List.getElem?_eq_none (by show (stl 0).length ≤ j; rw [show (stl 0).length = 10 from by decide]; omega)]
      exact ⟨by decide, by decide⟩
  have e := HW_all H (t := t) (dv := dv) (ov := rcpy ov0 dv0 sp.toNat dp.toNat m.toNat ov) (f := fun i => if dp ≤ i ∧ i < dp + m then (stl 0).getD (sp + (i - dp)).toNat 0 else A t i) ht ha (fun j => by
    rw [rcpy_lk]
    by_cases w : dp ≤ (j : Int) ∧ (j : Int) < dp + m
    · rw [if_pos (by omega), if_pos w, p2, hk, show (sp + ((j : Int) - dp)).toNat = sp.toNat + (j - dp.toNat) by omega]
      rfl
    · rw [if_neg (by omega), if_neg w, q2]) (fun i => by
    rw [hk]
    by_cases w : dp ≤ i ∧ i < dp + m
    · rw [if_pos w]; exact hr0 _
    · rw [if_neg w]; have := H.arg t i ht ha; rw [hk] at this; exact this)
  obtain ⟨v', σₚ, cₚ, sₚ, h, q⟩ := h _ _ e (OUT_set ht) (fun x hx i => updR_o (any1 hx)) (fun i a => by rw [updR_s, if_neg (by omega)])
  rw [hk] at q1 h
  refine ⟨v', σₚ, cₚ, sₚ, x_copy hf hw q1 p1 (by decide) (by omega) (by omega) (by omega) (by omega) (by omega) (H.lo t ht) (rcall0_of (fun j hj => ?_)) h, q⟩
  rw [p2]
  exact rcel_B (hr0 _)
end VS7
