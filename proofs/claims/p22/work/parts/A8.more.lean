/-! a field takes a new array; shifts right without sign -/
theorem Ew_ofc {σ σₚ : rS} {μ d pc pcₚ c s cₚ sₚ : Nat} {ls ls' : rO} {st st' : List Value} {Q : wQ} (f : ∀ r, Ev PP μ d pcₚ ls' st' σₚ cₚ sₚ r → Ev PP μ d pc ls st σ c s r) (k : Ew μ d pcₚ ls' st' σₚ cₚ sₚ Q) : Ew μ d pc ls st σ c s Q := by
  obtain ⟨v, σ2, c2, s2, h, q⟩ := k
  exact ⟨v, σ2, c2, s2, f _ h, q⟩
theorem ushr_rng (x : Int32) (k : Int) (hk : 1 ≤ k ∧ k ≤ 31) : 0 ≤ (rop 8 x (Int32.ofInt k)).toInt ∧ (rop 8 x (Int32.ofInt k)).toInt < p2 (32 - k) := by
  have hN : (rop 8 x (Int32.ofInt k)).toBitVec.toNat = x.toBitVec.toNat / 2 ^ k.toNat := by
    show ((x.toUInt32 >>> ((Int32.ofInt k).toUInt32 &&& Int32.toUInt32 31)).toInt32).toBitVec.toNat = _
    have e : ((Int32.ofInt k).toUInt32 &&& Int32.toUInt32 31).toNat = k.toNat := by
      have q : ∀ n : Nat, n < 32 → ((Int32.ofInt (n : Int)).toUInt32 &&& Int32.toUInt32 31).toNat = n := by decide +kernel
      have := q k.toNat (by omega)
      rw [Int.toNat_of_nonneg (by omega)] at this
      exact this
    show (x.toUInt32 >>> ((Int32.ofInt k).toUInt32 &&& Int32.toUInt32 31)).toNat = _
    rw [UInt32.toNat_shiftRight, e, Nat.shiftRight_eq_div_pow, Nat.mod_eq_of_lt (by omega)]
    rfl
  have hx : x.toBitVec.toNat < 2 ^ 32 := x.toBitVec.isLt
  have hd : x.toBitVec.toNat / 2 ^ k.toNat < 2 ^ (32 - k.toNat) := by
    refine Nat.div_lt_of_lt_mul ?_
    rw [← Nat.pow_add, show k.toNat + (32 - k.toNat) = 32 by omega]
    exact hx
  have hp : (2 : Nat) ^ (32 - k.toNat) ≤ 2 ^ 31 := Nat.pow_le_pow_right (by omega) (by omega)
  have hI : (rop 8 x (Int32.ofInt k)).toInt = ((x.toBitVec.toNat / 2 ^ k.toNat : Nat) : Int) := by
    show (rop 8 x (Int32.ofInt k)).toBitVec.toInt = _
    rw [BitVec.toInt_eq_toNat_of_lt (by rw [hN]; omega), hN]
  rw [hI]
  refine ⟨by omega, ?_⟩
  have he : p2 (32 - k) = ((2 ^ (32 - k.toNat) : Nat) : Int) := by
    unfold p2
    rw [show (32 - k).toNat = 32 - k.toNat by omega]
    simp
  rw [he]
  omega
section V8
variable {V : vV} {σ : rS} {D N : Nat → Nat} {F : hF} {A : hA} {μ d pc c s : Nat} {ls : rO} {st : List Value} {Q : wQ} {len : Nat} {act : rA}
theorem v_newI (H : HW V σ D N F A) {y q ci2 len2 p k t tag : Nat} {n : Int} (hf : PP.1 μ pc = some (.newarray .int, len, act)) (hf2 : PP.1 μ (pc + 2) = some (.putfield y, len2, (q, ci2, k, .ref tag))) (hp : (Nat.blt tag 8 || (Nat.blt tag 16 && PP.2.2.2.1 μ)) = true) (hfit : ∀ v, rfit (tag % 8) (.ref v) = true)
    (ho : Nat.blt p V.length = true) (ha : varr V p = false) (hc : vcls V p = ci2) (hk : Nat.blt k (vnf V p) = true) (hv : ∀ z : Nat, vf D (vfd V p k) z = .ref z) (hkr : (vfd V p k).1 = 4) (ht : Nat.blt t V.length = true) (hta : varr V t = true) (htk : vak V t = 1) (h3 : v3 V t = true) (hpt : Nat.beq p t = false) {m : Int} (hm : (N t : Int) = m) (hn : 0 ≤ n ∧ n ≤ 1000000) (hC : pC m.toNat + 1 ≤ pC n.toNat) (hS : pS m.toNat + n ≤ pS n.toNat)
    (h : ∀ σₚ Dₚ Nₚ Fₚ Aₚ, HW V σₚ Dₚ Nₚ Fₚ Aₚ → OUT V.length D N σ c s Dₚ Nₚ σₚ (c + 1) (s + n.toNat) → SD [t] D Dₚ → SD [t] N Nₚ → (Nₚ t : Int) = n → SF [(p, k)] F Fₚ → Fₚ p k = (Dₚ t : Int) → SA [t] A Aₚ → (∀ i, Aₚ t i = 0) → Ew μ d (pc + 5) ls st σₚ (c + 1) (s + n.toNat) Q) : Ew μ d pc ls (I n :: .ref (D p) :: st) σ c s Q := by
  subst hc hm
  have ht := blt_of ht
  have hpt : p ≠ t := fun e => by rw [e, Nat.beq_refl] at hpt; cases hpt
  refine Ew_ofc (fun _ e => x_newaI hf hn.1 hn.2 e) ?_
  have e := HW_ret H (n := n.toNat) (dv := .int 0) (ov := []) (f := fun _ => 0) ht hta h3 (by omega) (fun j => by rw [htk]; rfl) (fun i => by rw [htk]; exact ⟨by decide, by decide⟩)
  have hC' : pC (N t) + 1 ≤ pC n.toNat := by rw [Int.toNat_natCast] at hC; exact hC
  have hS' : pS (N t) + (n.toNat : Int) ≤ pS n.toNat := by rw [Int.toNat_natCast] at hS; omega
  have oo := fun q => OUT_ret (V := V) (σ := σ) (D := D) (N := N) (t := t) (c := c) (s := s) (q := q) ht hC' hS'
  rw [htk] at e
  have eD : updN D t σ.length p = D p := updN_o hpt
  rw [← eD]
  refine v_p e hf2 hp ho ha rfl hk (z := (σ.length : Int)) ?_ (hfit _) (by rw [hkr]; show (-1 : Int) ≤ _; omega) (fun σₚ Hₚ Oₚ => ?_)
  · have := hv σ.length
    have w : vf (updN D t σ.length) (vfd V p k) (σ.length : Int) = vf D (vfd V p k) (σ.length : Int) := vf_eq rfl (fun h => by rw [hkr] at h; cases h)
    exact w.trans this
  · exact h σₚ _ _ _ _ Hₚ (OUT_trans (oo _) Oₚ) (fun x hx => updN_o (any1 hx)) (fun x hx => updN_o (any1 hx)) (by rw [updN_s]; omega) (SF_upd SF_refl (by show (Nat.beq p p && Nat.beq k k || false) = true; rw [Nat.beq_refl, Nat.beq_refl]; rfl)) (by rw [updN_s]; show (bif Nat.beq p p && Nat.beq k k then (σ.length : Int) else F p k) = _; rw [Nat.beq_refl, Nat.beq_refl]; rfl) (fun x hx i => updR_o (any1 hx)) (fun i => by rw [updR_s])
theorem v_iushr {a k : Int} (hf : PP.1 μ pc = some (.iushr, len, act)) (hk : 1 ≤ k ∧ k ≤ 31) (h : ∀ z, 0 ≤ z ∧ z < p2 (32 - k) → Ew μ d (pc + 1) ls (I z :: st) σ c s Q) : Ew μ d pc ls (I k :: I a :: st) σ c s Q :=
  Ew_of (fun _ e => x_iushr hf (toI_of _).symm e) (h _ (ushr_rng (Int32.ofInt a) k hk))
end V8
