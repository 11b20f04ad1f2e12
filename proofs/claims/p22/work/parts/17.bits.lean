/-! shifts, ors and ands as numbers -/
def p2 (y : Int) : Int := 2 ^ y.toNat
theorem p2_s {y : Int} (h : 0 ≤ y) : p2 (y + 1) = 2 * p2 y := by
  unfold p2
  rw [show (y + 1).toNat = y.toNat + 1 by omega, Int.pow_succ]
  omega
theorem p2_pos (y : Int) : 1 ≤ p2 y := by
  unfold p2
  have : (0 : Int) < 2 ^ y.toNat := Int.pow_pos (by decide)
  omega
theorem p2_add {x y : Int} (hx : 0 ≤ x) (hy : 0 ≤ y) : p2 (x + y) = p2 x * p2 y := by
  unfold p2
  rw [show (x + y).toNat = x.toNat + y.toNat by omega, Int.pow_add]
theorem p2_mono {x y : Int} (h : x ≤ y) : p2 x ≤ p2 y := by
  by_cases h0 : 0 ≤ x
  · have e := p2_add h0 (show 0 ≤ y - x by omega)
    rw [show x + (y - x) = y by omega] at e
    rw [e]
    have h1 := p2_pos x
    have h2 := p2_pos (y - x)
    have h3 : p2 x * 1 ≤ p2 x * p2 (y - x) := Int.mul_le_mul_of_nonneg_left h2 (by omega)
    omega
  · have : p2 x = 1 := by
      unfold p2
      rw [show x.toNat = 0 by omega]
      rfl
    rw [this]
    exact p2_pos y
theorem sh_amt : ∀ k : Nat, k < 32 → (((Int32.ofInt (k : Int)) &&& 31).toBitVec.smod 32).toNat = k := by decide
theorem sh_amtJ : ∀ k : Nat, k < 64 → (((Int32.ofInt (k : Int)).toInt64 &&& 63).toBitVec.smod 64).toNat = k := by decide
theorem ofInt_p2 {w : Nat} (k : Nat) : BitVec.ofInt w ((2 : Int) ^ k) = BitVec.twoPow w k := by
  apply BitVec.eq_of_toNat_eq
  rw [BitVec.toNat_ofInt, BitVec.toNat_twoPow]
  have e : ((2 : Int) ^ k) = ((2 ^ k : Nat) : Int) := by simp
  rw [e]
  omega
theorem shl32 {a b : Int} (h : 0 ≤ b ∧ b ≤ 31) : rop 6 (Int32.ofInt a) (Int32.ofInt b) = Int32.ofInt (a * p2 b) := by
  obtain ⟨k, rfl⟩ : ∃ k : Nat, b = k := ⟨b.toNat, by omega⟩
  apply Int32.toBitVec_inj.mp
  show (Int32.ofInt a <<< (Int32.ofInt (k : Int) &&& 31)).toBitVec = BitVec.ofInt 32 (a * p2 k)
  rw [Int32.toBitVec_shiftLeft, BitVec.shiftLeft_eq', sh_amt k (by omega), BitVec.shiftLeft_eq_mul_twoPow, BitVec.ofInt_mul]
  unfold p2
  rw [show ((k : Int)).toNat = k by omega, ofInt_p2]
  rfl
theorem shl64 {a b : Int} (h : 0 ≤ b ∧ b ≤ 63) : rsop 0 (Int64.ofInt a) (Int32.ofInt b) = Int64.ofInt (a * p2 b) := by
  obtain ⟨k, rfl⟩ : ∃ k : Nat, b = k := ⟨b.toNat, by omega⟩
  apply Int64.toBitVec_inj.mp
  show (Int64.ofInt a <<< ((Int32.ofInt (k : Int)).toInt64 &&& 63)).toBitVec = BitVec.ofInt 64 (a * p2 k)
  rw [Int64.toBitVec_shiftLeft, BitVec.shiftLeft_eq', sh_amtJ k (by omega), BitVec.shiftLeft_eq_mul_twoPow, BitVec.ofInt_mul]
  unfold p2
  rw [show ((k : Int)).toNat = k by omega, ofInt_p2]
  rfl
theorem shr32 {a b : Int} (ha : inr a) (h : 0 ≤ b ∧ b ≤ 31) : (rop 7 (Int32.ofInt a) (Int32.ofInt b)).toInt = a / p2 b := by
  obtain ⟨k, rfl⟩ : ∃ k : Nat, b = k := ⟨b.toNat, by omega⟩
  show ((Int32.ofInt a >>> (Int32.ofInt (k : Int) &&& 31)).toBitVec).toInt = _
  rw [Int32.toBitVec_shiftRight, BitVec.toInt_sshiftRight', sh_amt k (by omega)]
  rw [show (Int32.ofInt a).toBitVec.toInt = a from toI_ofI ha, Int.shiftRight_eq_div_pow]
  unfold p2
  rw [show ((k : Int)).toNat = k by omega]
  simp
theorem shr64 {a b : Int} (ha : inrJ a) (h : 0 ≤ b ∧ b ≤ 63) : (rsop 1 (Int64.ofInt a) (Int32.ofInt b)).toInt = a / p2 b := by
  obtain ⟨k, rfl⟩ : ∃ k : Nat, b = k := ⟨b.toNat, by omega⟩
  show ((Int64.ofInt a >>> ((Int32.ofInt (k : Int)).toInt64 &&& 63)).toBitVec).toInt = _
  rw [Int64.toBitVec_shiftRight, BitVec.toInt_sshiftRight', sh_amtJ k (by omega)]
  rw [show (Int64.ofInt a).toBitVec.toInt = a from toJ_ofJ ha, Int.shiftRight_eq_div_pow]
  unfold p2
  rw [show ((k : Int)).toNat = k by omega]
  simp
theorem nn32 {a : Int} (h : 0 ≤ a ∧ a < 2147483648) : (Int32.ofInt a).toBitVec.toNat = a.toNat := by
  show (BitVec.ofInt 32 a).toNat = _
  rw [BitVec.toNat_ofInt]
  omega
theorem nn64 {a : Int} (h : 0 ≤ a ∧ a < 9223372036854775808) : (Int64.ofInt a).toBitVec.toNat = a.toNat := by
  show (BitVec.ofInt 64 a).toNat = _
  rw [BitVec.toNat_ofInt]
  omega
theorem nator {a b k m : Nat} (hm : m = 2 ^ k) (ha : a % m = 0) (hb : b < m) : a ||| b = a + b := by
  subst hm
  have e : a = 2 ^ k * (a / 2 ^ k) := by have := Nat.div_add_mod a (2 ^ k); omega
  rw [e, Nat.two_pow_add_eq_or_of_lt hb]
theorem or32 {a b : Int} {k m : Nat} (hm : m = 2 ^ k) (ha : 0 ≤ a ∧ a % m = 0) (hb : 0 ≤ b ∧ b < m) (hs : inr (a + b)) : rop 4 (Int32.ofInt a) (Int32.ofInt b) = Int32.ofInt (a + b) := by
  apply Int32.toBitVec_inj.mp
  apply BitVec.eq_of_toNat_eq
  show ((Int32.ofInt a).toBitVec ||| (Int32.ofInt b).toBitVec).toNat = _
  have e : a.toNat % m = 0 := by
    have q := ha.2
    rw [show a = ((a.toNat : Nat) : Int) by omega] at q
    exact_mod_cast q
  rw [BitVec.toNat_or, nn32 (by omega), nn32 (by omega), nn32 (by omega), nator hm e (by omega)]
  omega
theorem or64 {a b : Int} {k m : Nat} (hm : m = 2 ^ k) (ha : 0 ≤ a ∧ a % m = 0) (hb : 0 ≤ b ∧ b < m) (hs : inrJ (a + b)) : rlop 4 (Int64.ofInt a) (Int64.ofInt b) = Int64.ofInt (a + b) := by
  apply Int64.toBitVec_inj.mp
  apply BitVec.eq_of_toNat_eq
  show ((Int64.ofInt a).toBitVec ||| (Int64.ofInt b).toBitVec).toNat = _
  have e : a.toNat % m = 0 := by
    have q := ha.2
    rw [show a = ((a.toNat : Nat) : Int) by omega] at q
    exact_mod_cast q
  rw [BitVec.toNat_or, nn64 (by omega), nn64 (by omega), nn64 (by omega), nator hm e (by omega)]
  omega
theorem or_le_add : ∀ (n a b : Nat), a ≤ n → a ||| b ≤ a + b
  | 0, a, b, h => by
    have : a = 0 := by omega
    subst this
    simp
  | n + 1, a, b, h => by
    by_cases h0 : a = 0
    · subst h0
      simp
    · have ih := or_le_add n (a / 2) (b / 2) (by omega)
      have h1 : (a ||| b) / 2 = a / 2 ||| b / 2 := Nat.or_div_two
      have h2 : (a ||| b) % 2 = a % 2 ||| b % 2 := by
        have := @Nat.or_mod_two_pow a b 1
        simpa using this
      have h3 : a % 2 ||| b % 2 ≤ a % 2 + b % 2 := by
        rcases (show a % 2 = 0 ∨ a % 2 = 1 by omega) with e | e <;> rcases (show b % 2 = 0 ∨ b % 2 = 1 by omega) with e' | e' <;> rw [e, e'] <;> decide
      omega
theorem orN32 {a b : Int} (ha : 0 ≤ a ∧ inr a) (hb : 0 ≤ b ∧ inr b) : 0 ≤ (rop 4 (Int32.ofInt a) (Int32.ofInt b)).toInt ∧ (rop 4 (Int32.ofInt a) (Int32.ofInt b)).toInt ≤ a + b := by
  have e : ((Int32.ofInt a).toBitVec ||| (Int32.ofInt b).toBitVec).toNat = a.toNat ||| b.toNat := by
    rw [BitVec.toNat_or, nn32 (by omega), nn32 (by omega)]
  have hl : a.toNat ||| b.toNat < 2 ^ 31 := Nat.or_lt_two_pow (by omega) (by omega)
  have h2 := or_le_add a.toNat a.toNat b.toNat (Nat.le_refl _)
  have e2 : (rop 4 (Int32.ofInt a) (Int32.ofInt b)).toInt = ((a.toNat ||| b.toNat : Nat) : Int) := by
    show ((Int32.ofInt a).toBitVec ||| (Int32.ofInt b).toBitVec).toInt = _
    rw [BitVec.toInt_eq_toNat_of_lt (by rw [e]; omega), e]
  rw [e2]
  omega
theorem orN64 {a b : Int} (ha : 0 ≤ a ∧ inrJ a) (hb : 0 ≤ b ∧ inrJ b) : 0 ≤ (rlop 4 (Int64.ofInt a) (Int64.ofInt b)).toInt ∧ (rlop 4 (Int64.ofInt a) (Int64.ofInt b)).toInt ≤ a + b := by
  have e : ((Int64.ofInt a).toBitVec ||| (Int64.ofInt b).toBitVec).toNat = a.toNat ||| b.toNat := by
    rw [BitVec.toNat_or, nn64 (by omega), nn64 (by omega)]
  have hl : a.toNat ||| b.toNat < 2 ^ 63 := Nat.or_lt_two_pow (by omega) (by omega)
  have h2 := or_le_add a.toNat a.toNat b.toNat (Nat.le_refl _)
  have e2 : (rlop 4 (Int64.ofInt a) (Int64.ofInt b)).toInt = ((a.toNat ||| b.toNat : Nat) : Int) := by
    show ((Int64.ofInt a).toBitVec ||| (Int64.ofInt b).toBitVec).toInt = _
    rw [BitVec.toInt_eq_toNat_of_lt (by rw [e]; omega), e]
  rw [e2]
  omega
section BITS
variable {σ0 σ : rS} {D N : Nat → Nat} {F : hF} {A : hA} {μ d pc c s : Nat} {ls : rO} {st : List Value} {Q : wQ} {len : Nat} {act : rA}
theorem w_ishlX {a b : Int} (hf : PP.1 μ pc = some (.ishl, len, act)) (h : ∀ z, inr z → (0 ≤ b ∧ b ≤ 31 ∧ inr (a * p2 b) → z = a * p2 b) → Ew μ d (pc + 1) ls (I z :: st) σ c s Q) : Ew μ d pc ls (I b :: I a :: st) σ c s Q :=
  Ew_of (fun _ => x_ishl hf (z := (rop 6 (Int32.ofInt a) (Int32.ofInt b)).toInt) (toI_of _).symm) (h _ (toI_inr _) (fun q => by rw [shl32 ⟨q.1, q.2.1⟩, toI_ofI q.2.2]))
theorem w_ishlK {a : Int} (k m : Int) (hm : p2 k = m) (hk : 0 ≤ k ∧ k ≤ 31) (hf : PP.1 μ pc = some (.ishl, len, act)) (h : ∀ z, inr z → (inr (a * m) → z = a * m) → Ew μ d (pc + 1) ls (I z :: st) σ c s Q) : Ew μ d pc ls (I k :: I a :: st) σ c s Q :=
  w_ishlX hf (fun z hz q => h z hz (fun qₚ => by subst hm; exact q ⟨hk.1, hk.2, qₚ⟩))
theorem w_lshlX {a b : Int} (hf : PP.1 μ pc = some (.lshl, len, act)) (h : ∀ z, inrJ z → (0 ≤ b ∧ b ≤ 63 ∧ inrJ (a * p2 b) → z = a * p2 b) → Ew μ d (pc + 1) ls (J z :: st) σ c s Q) : Ew μ d pc ls (I b :: J a :: st) σ c s Q :=
  Ew_of (fun _ => x_lshl hf (z := (rsop 0 (Int64.ofInt a) (Int32.ofInt b)).toInt) (toJ_of _).symm) (h _ (toJ_inr _) (fun q => by rw [shl64 ⟨q.1, q.2.1⟩, toJ_ofJ q.2.2]))
theorem w_lshlK {a : Int} (k m : Int) (hm : p2 k = m) (hk : 0 ≤ k ∧ k ≤ 63) (hf : PP.1 μ pc = some (.lshl, len, act)) (h : ∀ z, inrJ z → (inrJ (a * m) → z = a * m) → Ew μ d (pc + 1) ls (J z :: st) σ c s Q) : Ew μ d pc ls (I k :: J a :: st) σ c s Q :=
  w_lshlX hf (fun z hz q => h z hz (fun qₚ => by subst hm; exact q ⟨hk.1, hk.2, qₚ⟩))
theorem w_ishrX {a b : Int} (hf : PP.1 μ pc = some (.ishr, len, act)) (ha : inr a) (h : ∀ z, inr z → (0 ≤ b ∧ b ≤ 31 → z = a / p2 b) → Ew μ d (pc + 1) ls (I z :: st) σ c s Q) : Ew μ d pc ls (I b :: I a :: st) σ c s Q :=
  Ew_of (fun _ => x_ishr hf (z := (rop 7 (Int32.ofInt a) (Int32.ofInt b)).toInt) (toI_of _).symm) (h _ (toI_inr _) (fun q => shr32 ha q))
theorem w_ishrK {a : Int} (k m : Int) (hm : p2 k = m) (hk : 0 ≤ k ∧ k ≤ 31) (hf : PP.1 μ pc = some (.ishr, len, act)) (ha : inr a) (h : ∀ z, inr z → z = a / m → Ew μ d (pc + 1) ls (I z :: st) σ c s Q) : Ew μ d pc ls (I k :: I a :: st) σ c s Q :=
  w_ishrX hf ha (fun z hz q => h z hz (by subst hm; exact q hk))
theorem w_lshrX {a b : Int} (hf : PP.1 μ pc = some (.lshr, len, act)) (ha : inrJ a) (h : ∀ z, inrJ z → (0 ≤ b ∧ b ≤ 63 → z = a / p2 b) → Ew μ d (pc + 1) ls (J z :: st) σ c s Q) : Ew μ d pc ls (I b :: J a :: st) σ c s Q :=
  Ew_of (fun _ => x_lshr hf (z := (rsop 1 (Int64.ofInt a) (Int32.ofInt b)).toInt) (toJ_of _).symm) (h _ (toJ_inr _) (fun q => shr64 ha q))
theorem w_lshrK {a : Int} (k m : Int) (hm : p2 k = m) (hk : 0 ≤ k ∧ k ≤ 63) (hf : PP.1 μ pc = some (.lshr, len, act)) (ha : inrJ a) (h : ∀ z, inrJ z → z = a / m → Ew μ d (pc + 1) ls (J z :: st) σ c s Q) : Ew μ d pc ls (I k :: J a :: st) σ c s Q :=
  w_lshrX hf ha (fun z hz q => h z hz (by subst hm; exact q hk))
theorem w_iorX {a b : Int} (k m : Nat) (hm : m = 2 ^ k) (hf : PP.1 μ pc = some (.ior, len, act)) (h : ∀ z, inr z → (0 ≤ a ∧ a % m = 0 ∧ 0 ≤ b ∧ b < m ∧ inr (a + b) → z = a + b) → Ew μ d (pc + 1) ls (I z :: st) σ c s Q) : Ew μ d pc ls (I b :: I a :: st) σ c s Q :=
  Ew_of (fun _ => x_ior hf (z := (rop 4 (Int32.ofInt a) (Int32.ofInt b)).toInt) (toI_of _).symm) (h _ (toI_inr _) (fun q => by rw [or32 hm ⟨q.1, q.2.1⟩ ⟨q.2.2.1, q.2.2.2.1⟩ q.2.2.2.2, toI_ofI q.2.2.2.2]))
theorem w_lorX {a b : Int} (k m : Nat) (hm : m = 2 ^ k) (hf : PP.1 μ pc = some (.lor, len, act)) (h : ∀ z, inrJ z → (0 ≤ a ∧ a % m = 0 ∧ 0 ≤ b ∧ b < m ∧ inrJ (a + b) → z = a + b) → Ew μ d (pc + 1) ls (J z :: st) σ c s Q) : Ew μ d pc ls (J b :: J a :: st) σ c s Q :=
  Ew_of (fun _ => x_lor hf (z := (rlop 4 (Int64.ofInt a) (Int64.ofInt b)).toInt) (toJ_of _).symm) (h _ (toJ_inr _) (fun q => by rw [or64 hm ⟨q.1, q.2.1⟩ ⟨q.2.2.1, q.2.2.2.1⟩ q.2.2.2.2, toJ_ofJ q.2.2.2.2]))
theorem w_iorN {a b : Int} (hf : PP.1 μ pc = some (.ior, len, act)) (ha : inr a) (hb : inr b) (h : ∀ z, inr z → (0 ≤ a ∧ 0 ≤ b → 0 ≤ z ∧ z ≤ a + b) → Ew μ d (pc + 1) ls (I z :: st) σ c s Q) : Ew μ d pc ls (I b :: I a :: st) σ c s Q :=
  Ew_of (fun _ => x_ior hf (z := (rop 4 (Int32.ofInt a) (Int32.ofInt b)).toInt) (toI_of _).symm) (h _ (toI_inr _) (fun q => orN32 ⟨q.1, ha⟩ ⟨q.2, hb⟩))
theorem w_lorN {a b : Int} (hf : PP.1 μ pc = some (.lor, len, act)) (ha : inrJ a) (hb : inrJ b) (h : ∀ z, inrJ z → (0 ≤ a ∧ 0 ≤ b → 0 ≤ z ∧ z ≤ a + b) → Ew μ d (pc + 1) ls (J z :: st) σ c s Q) : Ew μ d pc ls (J b :: J a :: st) σ c s Q :=
  Ew_of (fun _ => x_lor hf (z := (rlop 4 (Int64.ofInt a) (Int64.ofInt b)).toInt) (toJ_of _).symm) (h _ (toJ_inr _) (fun q => orN64 ⟨q.1, ha⟩ ⟨q.2, hb⟩))
def andI (a b : Int) : Int := (Int32.ofInt a &&& Int32.ofInt b).toInt
theorem w_iandE {a b : Int} (hf : PP.1 μ pc = some (.iand, len, act)) (ha : inr a) (hb : inr b) (h : ∀ z, inr z → (0 ≤ a → 0 ≤ z ∧ z ≤ a) → (0 ≤ b → 0 ≤ z ∧ z ≤ b) → andI a b = z → Ew μ d (pc + 1) ls (I z :: st) σ c s Q) : Ew μ d pc ls (I b :: I a :: st) σ c s Q := by
  refine Ew_of (fun _ => x_iand hf (z := (Int32.ofInt a &&& Int32.ofInt b).toInt) (toI_of _).symm) (h _ (toI_inr _) (fun q => ?_) (fun q => ?_) rfl)
  · have := and_le (x := Int32.ofInt a) (y := Int32.ofInt b) (by rw [toI_ofI ha]; exact q)
    rw [toI_ofI ha] at this
    exact this
  · have := and_le (x := Int32.ofInt b) (y := Int32.ofInt a) (by rw [toI_ofI hb]; exact q)
    rw [toI_ofI hb] at this
    rw [show Int32.ofInt a &&& Int32.ofInt b = Int32.ofInt b &&& Int32.ofInt a from Int32.and_comm _ _]
    exact this
theorem p8 {y : Int} (h : 0 ≤ y) : p2 (8 * (y + 1)) = 256 * p2 (8 * y) := by
  rw [show 8 * (y + 1) = 8 * y + 8 by omega, p2_add (by omega) (by omega), show p2 8 = 256 from by decide]
  omega
end BITS
