/-! arraycopy, fill -/
section XA
variable {P : rP} {μ d pc c s : Nat} {ls : rO} {st : List Value} {σ : rS} {r : rT} {len : Nat} {act : rA}
theorem x_fill {x b e a n : Nat} {z dv : Value} {ov : rO} {v : Int} (hf : P.1 μ pc = some (.invokestatic x, len, (28, b, e, z))) (hw : Nat.ble (rwords st) 8 = true) (hc : rat σ a = some (.inr (1, n, dv, ov))) (hB : P.2.2.2.2.2.2.1 ≤ a) (hn : n ≤ 1000000)
    (h : Ev P μ (d + 1) (pc + 3) ls st (rstl σ a (.inr (1, n, I v, []))) c s r) : Ev P μ (d + 1) pc ls (I v :: .ref a :: st) σ c s r := by
  obtain ⟨k0, h⟩ := h
  refine Ev_of hf (n0 := k0) (fun k hk' => ?_)
  show (match Nat.ble (rwords st) 8 && Nat.ble 1 (d + 1) with | true => rfill P.2.2.2.2.2.2.1 σ (I v) (.ref a) (fun σ => rn (pc + 3) (fun pcₚ => rrun P k μ (d + 1) pcₚ ls st σ 0 [] c s)) | false => none) = _
  rw [hw, show Nat.ble 1 (d + 1) = true from Nat.ble_eq.mpr (by omega)]
  show rfill P.2.2.2.2.2.2.1 σ (I v) (.ref a) (fun σ => rn (pc + 3) (fun pcₚ => rrun P k μ (d + 1) pcₚ ls st σ 0 [] c s)) = _
  unfold rfill
  simp only [hc, rn_eq]
  rw [show Nat.ble P.2.2.2.2.2.2.1 a = true from Nat.ble_eq.mpr hB, show Nat.ble n 1000000 = true from Nat.ble_eq.mpr hn]
  exact h k hk'
end XA
section VA
variable {V : vV} {σ : rS} {D N : Nat → Nat} {F : hF} {A : hA} {μ d pc c s : Nat} {ls : rO} {st : List Value} {Q : wQ} {len : Nat} {act : rA}
/-- an array's elements, all at once -/
theorem HW_all (H : HW V σ D N F A) {t : Nat} {dv : Value} {ov : rO} {f : Int → Int} (ht : t < V.length) (ha : varr V t = true) (hf : ∀ j : Nat, rlk ov dv j = va (vak V t) (f j)) (hr : ∀ i, arng (vak V t) (f i)) : HW V (rstl σ (D t) (.inr (vak V t, N t, dv, ov))) D N F (updR A t f) := by
  obtain ⟨dv0, ov0, hc, _⟩ := H.arr t ht ha
  refine ⟨fun x hx hax => ?_, fun x hx hax => ?_, H.inj, H.lo, H.krg, fun x i hx hax => ?_, H.nle⟩
  · rw [rat_other (fun q => by have := H.inj t x ht hx q; subst this; rw [ha] at hax; cases hax)]
    exact H.obj x hx hax
  · by_cases e : x = t
    · subst e
      exact ⟨dv, ov, rat_same hc, fun i => by rw [hf, updR_s]⟩
    · rw [rat_other (fun q => e (H.inj t x ht hx q).symm)]
      obtain ⟨dv', ov', q1, q2⟩ := H.arr x hx hax
      exact ⟨dv', ov', q1, fun i => by rw [q2, updR_o e]⟩
  · by_cases e : x = t
    · subst e; rw [updR_s]; exact hr i
    · rw [updR_o e]; exact H.arg x i hx hax
theorem v_cpy (H : HW V σ D N F A) {x b e t t0 : Nat} {z : Value} {m dp sp n n0 : Int} (hf : PP.1 μ pc = some (.invokestatic x, len, (27, b, e, z))) (hw : Nat.ble (rwords st) 8 = true) (ht : Nat.blt t V.length = true) (ht0 : Nat.blt t0 V.length = true) (ha : varr V t = true) (ha0 : varr V t0 = true) (hk : vak V t = vak V t0) (hk1 : Nat.ble (vak V t) 1 = true) (hn : (N t : Int) = n) (hn0 : (N t0 : Int) = n0) (hm : 0 ≤ m ∧ 0 ≤ dp ∧ 0 ≤ sp ∧ sp + m ≤ n0 ∧ dp + m ≤ n)
    (h : ∀ σₚ Aₚ, HW V σₚ D N F Aₚ → OUT V.length D N σ c s D N σₚ c s → SA [t] A Aₚ → (∀ i, dp ≤ i → i < dp + m → Aₚ t i = A t0 (sp + (i - dp))) → (∀ i, i < dp ∨ dp + m ≤ i → Aₚ t i = A t i) → Ew μ d (pc + 3) ls st σₚ c s Q) : Ew μ d pc ls (I m :: I dp :: .ref (D t) :: I sp :: .ref (D t0) :: st) σ c s Q := by
  subst hn hn0
  have ht := blt_of ht
  have ht0 := blt_of ht0
  have hl := H.nle t ht
  have hl0 := H.nle t0 ht0
  obtain ⟨dv, ov, q1, q2⟩ := H.arr t ht ha
  obtain ⟨dv0, ov0, p1, p2⟩ := H.arr t0 ht0 ha0
  rw [← hk] at p1 p2
  have hr0 := fun i => H.arg t0 i ht0 ha0
  rw [← hk] at hr0
  have e := HW_all H (t := t) (dv := dv) (ov := rcpy ov0 dv0 sp.toNat dp.toNat m.toNat ov) (f := fun i => if dp ≤ i ∧ i < dp + m then A t0 (sp + (i - dp)) else A t i) ht ha (fun j => by
    rw [rcpy_lk]
    by_cases w : dp ≤ (j : Int) ∧ (j : Int) < dp + m
    · rw [if_pos (by omega), if_pos w, p2]
      congr 2
      omega
    · rw [if_neg (by omega), if_neg w, q2]) (fun i => by
    by_cases w : dp ≤ i ∧ i < dp + m
    · rw [if_pos w]; exact hr0 _
    · rw [if_neg w]; exact H.arg t i ht ha)
  obtain ⟨v', σₚ, cₚ, sₚ, h, q⟩ := h _ _ e (OUT_set ht) (fun x hx i => updR_o (any1 hx)) (fun i a b => by rw [updR_s, if_pos ⟨a, b⟩]) (fun i a => by rw [updR_s, if_neg (by omega)])
  refine ⟨v', σₚ, cₚ, sₚ, x_copy hf hw q1 p1 (Nat.le_of_ble_eq_true hk1) (by omega) (by omega) (by omega) (by omega) (by omega) (H.lo t ht) (rcall0_of (fun j hj => ?_)) h, q⟩
  rw [p2]
  have w := hr0 ((sp.toNat + j : Nat) : Int)
  have k1 := Nat.le_of_ble_eq_true hk1
  rcases (show vak V t = 0 ∨ vak V t = 1 by omega) with k | k
  · rw [k] at w ⊢; exact rcel_B w
  · rw [k]; rfl
theorem v_fil (H : HW V σ D N F A) {x b e t : Nat} {z : Value} {v : Int} (hf : PP.1 μ pc = some (.invokestatic x, len, (28, b, e, z))) (hw : Nat.ble (rwords st) 8 = true) (ht : Nat.blt t V.length = true) (ha : varr V t = true) (hk : vak V t = 1) (hv : inr v)
    (h : ∀ σₚ Aₚ, HW V σₚ D N F Aₚ → OUT V.length D N σ c s D N σₚ c s → SA [t] A Aₚ → (∀ i, Aₚ t i = v) → Ew μ (d + 1) (pc + 3) ls st σₚ c s Q) : Ew μ (d + 1) pc ls (I v :: .ref (D t) :: st) σ c s Q := by
  have ht := blt_of ht
  obtain ⟨dv, ov, q1, q2⟩ := H.arr t ht ha
  have e := HW_all H (t := t) (dv := I v) (ov := []) (f := fun _ => v) ht ha (fun j => by rw [hk]; rfl) (fun i => by rw [hk]; exact hv)
  obtain ⟨v', σₚ, cₚ, sₚ, h, q⟩ := h _ _ e (OUT_set ht) (fun x hx i => updR_o (any1 hx)) (fun i => by rw [updR_s])
  rw [hk] at q1 h
  exact ⟨v', σₚ, cₚ, sₚ, x_fill hf hw q1 (H.lo t ht) (H.nle t ht) h, q⟩
end VA
/-- a row's growth is paid -/
theorem grow_ok {m n : Int} (h0 : 0 ≤ m) (h1 : m < n ∧ n ≤ 65536) (h2 : 1 ≤ n ∧ (m = 0 ∨ 256 ≤ n) ∧ (4 * m ≤ n ∨ n = 65536 ∨ n = 16384)) : pC m.toNat + 1 ≤ pC n.toNat ∧ pS m.toNat + n ≤ pS n.toNat := by
  unfold pC pS
  constructor
  · repeat' split
    all_goals omega
  · repeat' split
    all_goals omega
