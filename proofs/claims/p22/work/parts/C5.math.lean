theorem and255 (a : Int) : (rop 3 (Int32.ofInt a) (Int32.ofInt 255)).toInt = a % 256 := by
  have e : (rop 3 (Int32.ofInt a) (Int32.ofInt 255)).toBitVec.toNat = (Int32.ofInt a).toBitVec.toNat % 256 := by
    show ((Int32.ofInt a).toBitVec &&& (Int32.ofInt 255).toBitVec).toNat = _
    rw [BitVec.toNat_and, show (Int32.ofInt 255).toBitVec.toNat = 2 ^ 8 - 1 from by decide, Nat.and_two_pow_sub_one_eq_mod]
  have e2 : ((Int32.ofInt a).toBitVec.toNat : Int) % 256 = a % 256 := by
    show (((BitVec.ofInt 32 a).toNat : Nat) : Int) % 256 = _
    rw [BitVec.toNat_ofInt, Int.toNat_of_nonneg (Int.emod_nonneg _ (by decide))]
    have : ((2 ^ 32 : Nat) : Int) = 256 * 16777216 := by decide
    rw [this]
    omega
  show (rop 3 (Int32.ofInt a) (Int32.ofInt 255)).toBitVec.toInt = _
  rw [BitVec.toInt_eq_toNat_of_lt (by rw [e]; omega), e, ← e2]
  omega
theorem v_and255 {σ : rS} {μ d pc c s : Nat} {ls : rO} {st : List Value} {Q : wQ} {len : Nat} {act : rA} {a : Int} (hf : PP.1 μ pc = some (.iand, len, act)) (h : Ew μ d (pc + 1) ls (I (a % 256) :: st) σ c s Q) : Ew μ d pc ls (I 255 :: I a :: st) σ c s Q :=
  Ew_of (fun _ e => x_iand hf (by rw [← and255 a]; exact (toI_of _).symm) e) h
theorem p2_plus {a b : Int} (ha : 0 ≤ a) (hb : 0 ≤ b) : p2 a * p2 b = p2 (a + b) := by
  unfold p2
  rw [show (a + b).toNat = a.toNat + b.toNat by omega, Int.pow_add]
theorem peek_ok {z n b : Int} (h0 : 0 ≤ z) (h1 : z ≤ p2 b - 1) (hb : 0 ≤ b) (hn : b ≤ n) : 0 ≤ z * p2 (n - b) ∧ z * p2 (n - b) < p2 n := by
  have e := p2_plus (a := b) (b := n - b) hb (by omega)
  rw [show b + (n - b) = n by omega] at e
  have p := p2_pos (n - b)
  have w : z * p2 (n - b) ≤ (p2 b - 1) * p2 (n - b) := Int.mul_le_mul_of_nonneg_right h1 (by omega)
  rw [Int.sub_mul, e, Int.one_mul] at w
  exact ⟨Int.mul_nonneg h0 (by omega), by omega⟩
