/-! the numbers' operations that are no sums: what is known of their results -/
theorem toI_of (x : Int32) : Int32.ofInt x.toInt = x := Int32.ofInt_toInt x
theorem toI_inr (x : Int32) : inr x.toInt := ⟨Int32.le_toInt x, by have := Int32.toInt_lt x; omega⟩
theorem toJ_of (x : Int64) : Int64.ofInt x.toInt = x := Int64.ofInt_toInt x
theorem toJ_inr (x : Int64) : inrJ x.toInt := ⟨Int64.le_toInt x, by have := Int64.toInt_lt x; omega⟩
theorem toI_ofI {a : Int} (h : inr a) : (Int32.ofInt a).toInt = a := Int32.toInt_ofInt_of_le (by omega) (by omega)
theorem toJ_ofJ {a : Int} (h : inrJ a) : (Int64.ofInt a).toInt = a := Int64.toInt_ofInt_of_le (by omega) (by omega)
theorem and_le {x y : Int32} (h : 0 ≤ x.toInt) : 0 ≤ (x &&& y).toInt ∧ (x &&& y).toInt ≤ x.toInt := by
  have e1 : (x &&& y).toInt = (x.toBitVec &&& y.toBitVec).toInt := rfl
  have e2 : x.toInt = x.toBitVec.toInt := rfl
  rw [e2] at h
  have hx : 2 * x.toBitVec.toNat < 2 ^ 32 := by
    rw [BitVec.toInt_eq_toNat_cond] at h
    split at h
    · assumption
    · have := x.toBitVec.isLt; omega
  have hle : (x.toBitVec &&& y.toBitVec).toNat ≤ x.toBitVec.toNat := by
    rw [BitVec.toNat_and]; exact Nat.and_le_left
  rw [e1, e2, BitVec.toInt_eq_toNat_of_lt (by omega), BitVec.toInt_eq_toNat_of_lt hx]
  omega
theorem and_leJ {x y : Int64} (h : 0 ≤ x.toInt) : 0 ≤ (x &&& y).toInt ∧ (x &&& y).toInt ≤ x.toInt := by
  have e1 : (x &&& y).toInt = (x.toBitVec &&& y.toBitVec).toInt := rfl
  have e2 : x.toInt = x.toBitVec.toInt := rfl
  rw [e2] at h
  have hx : 2 * x.toBitVec.toNat < 2 ^ 64 := by
    rw [BitVec.toInt_eq_toNat_cond] at h
    split at h
    · assumption
    · have := x.toBitVec.isLt; omega
  have hle : (x.toBitVec &&& y.toBitVec).toNat ≤ x.toBitVec.toNat := by
    rw [BitVec.toNat_and]; exact Nat.and_le_left
  rw [e1, e2, BitVec.toInt_eq_toNat_of_lt (by omega), BitVec.toInt_eq_toNat_of_lt hx]
  omega
section NUM
variable {σ0 σ : rS} {D N : Nat → Nat} {F : hF} {A : hA} {μ d pc c s : Nat} {ls : rO} {st : List Value} {Q : wQ} {len : Nat} {act : rA}
theorem w_iand {a b : Int} (hf : PP.1 μ pc = some (.iand, len, act)) (ha : inr a) (hb : inr b) (h : ∀ z, inr z → (0 ≤ a → 0 ≤ z ∧ z ≤ a) → (0 ≤ b → 0 ≤ z ∧ z ≤ b) → Ew μ d (pc + 1) ls (I z :: st) σ c s Q) : Ew μ d pc ls (I b :: I a :: st) σ c s Q := by
  refine Ew_of (fun _ => x_iand hf (z := (Int32.ofInt a &&& Int32.ofInt b).toInt) (toI_of _).symm) (h _ (toI_inr _) (fun q => ?_) (fun q => ?_))
  · have := and_le (x := Int32.ofInt a) (y := Int32.ofInt b) (by rw [toI_ofI ha]; exact q)
    rw [toI_ofI ha] at this
    exact this
  · have := and_le (x := Int32.ofInt b) (y := Int32.ofInt a) (by rw [toI_ofI hb]; exact q)
    rw [toI_ofI hb] at this
    rw [show Int32.ofInt a &&& Int32.ofInt b = Int32.ofInt b &&& Int32.ofInt a from Int32.and_comm _ _]
    exact this
theorem w_land {a b : Int} (hf : PP.1 μ pc = some (.land, len, act)) (ha : inrJ a) (hb : inrJ b) (h : ∀ z, inrJ z → (0 ≤ a → 0 ≤ z ∧ z ≤ a) → (0 ≤ b → 0 ≤ z ∧ z ≤ b) → Ew μ d (pc + 1) ls (J z :: st) σ c s Q) : Ew μ d pc ls (J b :: J a :: st) σ c s Q := by
  refine Ew_of (fun _ => x_land hf (z := (Int64.ofInt a &&& Int64.ofInt b).toInt) (toJ_of _).symm) (h _ (toJ_inr _) (fun q => ?_) (fun q => ?_))
  · have := and_leJ (x := Int64.ofInt a) (y := Int64.ofInt b) (by rw [toJ_ofJ ha]; exact q)
    rw [toJ_ofJ ha] at this
    exact this
  · have := and_leJ (x := Int64.ofInt b) (y := Int64.ofInt a) (by rw [toJ_ofJ hb]; exact q)
    rw [toJ_ofJ hb] at this
    rw [show Int64.ofInt a &&& Int64.ofInt b = Int64.ofInt b &&& Int64.ofInt a from Int64.and_comm _ _]
    exact this
theorem w_any {i : Instr} {a b : Value} {o : Int32} (f : ∀ z r, Int32.ofInt z = o → Ev PP μ d (pc + 1) ls (I z :: st) σ c s r → Ev PP μ d pc ls (a :: b :: st) σ c s r) (h : ∀ z, inr z → Ew μ d (pc + 1) ls (I z :: st) σ c s Q) : Ew μ d pc ls (a :: b :: st) σ c s Q :=
  Ew_of (fun r => f o.toInt r (toI_of o)) (h _ (toI_inr o))
theorem w_ior {a b : Int32} (hf : PP.1 μ pc = some (.ior, len, act)) (h : ∀ z, inr z → Ew μ d (pc + 1) ls (I z :: st) σ c s Q) : Ew μ d pc ls (.int b :: .int a :: st) σ c s Q :=
  Ew_of (fun _ => x_ior hf (z := (a ||| b).toInt) (toI_of _).symm) (h _ (toI_inr _))
theorem w_ixor {a b : Int32} (hf : PP.1 μ pc = some (.ixor, len, act)) (h : ∀ z, inr z → Ew μ d (pc + 1) ls (I z :: st) σ c s Q) : Ew μ d pc ls (.int b :: .int a :: st) σ c s Q :=
  Ew_of (fun _ => x_ixor hf (z := (a ^^^ b).toInt) (toI_of _).symm) (h _ (toI_inr _))
theorem w_ishlA {a b : Int32} (hf : PP.1 μ pc = some (.ishl, len, act)) (h : ∀ z, inr z → Ew μ d (pc + 1) ls (I z :: st) σ c s Q) : Ew μ d pc ls (.int b :: .int a :: st) σ c s Q :=
  Ew_of (fun _ => x_ishl hf (z := (rop 6 a b).toInt) (toI_of _).symm) (h _ (toI_inr _))
theorem w_ishrA {a b : Int32} (hf : PP.1 μ pc = some (.ishr, len, act)) (h : ∀ z, inr z → Ew μ d (pc + 1) ls (I z :: st) σ c s Q) : Ew μ d pc ls (.int b :: .int a :: st) σ c s Q :=
  Ew_of (fun _ => x_ishr hf (z := (rop 7 a b).toInt) (toI_of _).symm) (h _ (toI_inr _))
theorem w_iushrA {a b : Int32} (hf : PP.1 μ pc = some (.iushr, len, act)) (h : ∀ z, inr z → Ew μ d (pc + 1) ls (I z :: st) σ c s Q) : Ew μ d pc ls (.int b :: .int a :: st) σ c s Q :=
  Ew_of (fun _ => x_iushr hf (z := (rop 8 a b).toInt) (toI_of _).symm) (h _ (toI_inr _))
/-- a sum, a difference, a product that may wrap around -/
theorem w_iaddA {a b : Int32} (hf : PP.1 μ pc = some (.iadd, len, act)) (h : ∀ z, inr z → Ew μ d (pc + 1) ls (I z :: st) σ c s Q) : Ew μ d pc ls (.int b :: .int a :: st) σ c s Q :=
  Ew_of (fun _ => x_iadd hf (z := (rop 0 a b).toInt) (toI_of _).symm) (h _ (toI_inr _))
theorem w_isubA {a b : Int32} (hf : PP.1 μ pc = some (.isub, len, act)) (h : ∀ z, inr z → Ew μ d (pc + 1) ls (I z :: st) σ c s Q) : Ew μ d pc ls (.int b :: .int a :: st) σ c s Q :=
  Ew_of (fun _ => x_isub hf (z := (rop 1 a b).toInt) (toI_of _).symm) (h _ (toI_inr _))
theorem w_imulA {a b : Int32} (hf : PP.1 μ pc = some (.imul, len, act)) (h : ∀ z, inr z → Ew μ d (pc + 1) ls (I z :: st) σ c s Q) : Ew μ d pc ls (.int b :: .int a :: st) σ c s Q :=
  Ew_of (fun _ => x_imul hf (z := (rop 2 a b).toInt) (toI_of _).symm) (h _ (toI_inr _))
theorem w_inegA {a : Int32} (hf : PP.1 μ pc = some (.ineg, len, act)) (h : ∀ z, inr z → Ew μ d (pc + 1) ls (I z :: st) σ c s Q) : Ew μ d pc ls (.int a :: st) σ c s Q :=
  Ew_of (fun _ => x_ineg hf (z := (ruop 0 a).toInt) (toI_of _).symm) (h _ (toI_inr _))
theorem w_ineg {a : Int} (hf : PP.1 μ pc = some (.ineg, len, act)) (h : Ew μ d (pc + 1) ls (I (-a) :: st) σ c s Q) : Ew μ d pc ls (I a :: st) σ c s Q :=
  Ew_of (fun _ => x_ineg hf (by rw [Int32.ofInt_neg]; rfl)) h
theorem w_i2l {a : Int} (hf : PP.1 μ pc = some (.i2l, len, act)) (ha : inr a) (h : Ew μ d (pc + 1) ls (J a :: st) σ c s Q) : Ew μ d pc ls (I a :: st) σ c s Q :=
  Ew_of (fun _ => x_i2l hf (by
    apply Int64.toInt_inj.mp
    rw [Int32.toInt_toInt64, toI_ofI ha, toJ_ofJ (by omega)])) h
theorem w_l2i {a : Int} (hf : PP.1 μ pc = some (.l2i, len, act)) (h : Ew μ d (pc + 1) ls (I a :: st) σ c s Q) : Ew μ d pc ls (J a :: st) σ c s Q :=
  Ew_of (fun _ => x_l2i hf (by
    apply Int32.toInt_inj.mp
    rw [Int64.toInt_toInt32, Int64.toInt_ofInt, Int32.toInt_ofInt, Int.bmod_bmod_of_dvd (by decide)])) h
theorem w_l2iA {a : Int64} (hf : PP.1 μ pc = some (.l2i, len, act)) (h : ∀ z, inr z → Ew μ d (pc + 1) ls (I z :: st) σ c s Q) : Ew μ d pc ls (.long a :: st) σ c s Q :=
  Ew_of (fun _ => x_l2i hf (z := a.toInt32.toInt) (toI_of _).symm) (h _ (toI_inr _))
theorem w_ladd {a b : Int} (hf : PP.1 μ pc = some (.ladd, len, act)) (h : Ew μ d (pc + 1) ls (J (a + b) :: st) σ c s Q) : Ew μ d pc ls (J b :: J a :: st) σ c s Q :=
  Ew_of (fun _ => x_ladd hf (by rw [Int64.ofInt_add]; rfl)) h
theorem w_lsub {a b : Int} (hf : PP.1 μ pc = some (.lsub, len, act)) (h : Ew μ d (pc + 1) ls (J (a - b) :: st) σ c s Q) : Ew μ d pc ls (J b :: J a :: st) σ c s Q :=
  Ew_of (fun _ => x_lsub hf (by rw [Int64.ofInt_sub]; rfl)) h
theorem w_lmul {a b : Int} (hf : PP.1 μ pc = some (.lmul, len, act)) (h : Ew μ d (pc + 1) ls (J (a * b) :: st) σ c s Q) : Ew μ d pc ls (J b :: J a :: st) σ c s Q :=
  Ew_of (fun _ => x_lmul hf (by rw [Int64.ofInt_mul]; rfl)) h
theorem w_laddA {a b : Int64} (hf : PP.1 μ pc = some (.ladd, len, act)) (h : ∀ z, inrJ z → Ew μ d (pc + 1) ls (J z :: st) σ c s Q) : Ew μ d pc ls (.long b :: .long a :: st) σ c s Q :=
  Ew_of (fun _ => x_ladd hf (z := (rlop 0 a b).toInt) (toJ_of _).symm) (h _ (toJ_inr _))
theorem w_lsubA {a b : Int64} (hf : PP.1 μ pc = some (.lsub, len, act)) (h : ∀ z, inrJ z → Ew μ d (pc + 1) ls (J z :: st) σ c s Q) : Ew μ d pc ls (.long b :: .long a :: st) σ c s Q :=
  Ew_of (fun _ => x_lsub hf (z := (rlop 1 a b).toInt) (toJ_of _).symm) (h _ (toJ_inr _))
theorem w_lmulA {a b : Int64} (hf : PP.1 μ pc = some (.lmul, len, act)) (h : ∀ z, inrJ z → Ew μ d (pc + 1) ls (J z :: st) σ c s Q) : Ew μ d pc ls (.long b :: .long a :: st) σ c s Q :=
  Ew_of (fun _ => x_lmul hf (z := (rlop 2 a b).toInt) (toJ_of _).symm) (h _ (toJ_inr _))
theorem w_landA {a b : Int64} (hf : PP.1 μ pc = some (.land, len, act)) (h : ∀ z, inrJ z → Ew μ d (pc + 1) ls (J z :: st) σ c s Q) : Ew μ d pc ls (.long b :: .long a :: st) σ c s Q :=
  Ew_of (fun _ => x_land hf (z := (rlop 3 a b).toInt) (toJ_of _).symm) (h _ (toJ_inr _))
theorem w_lorA {a b : Int64} (hf : PP.1 μ pc = some (.lor, len, act)) (h : ∀ z, inrJ z → Ew μ d (pc + 1) ls (J z :: st) σ c s Q) : Ew μ d pc ls (.long b :: .long a :: st) σ c s Q :=
  Ew_of (fun _ => x_lor hf (z := (rlop 4 a b).toInt) (toJ_of _).symm) (h _ (toJ_inr _))
theorem w_lxorA {a b : Int64} (hf : PP.1 μ pc = some (.lxor, len, act)) (h : ∀ z, inrJ z → Ew μ d (pc + 1) ls (J z :: st) σ c s Q) : Ew μ d pc ls (.long b :: .long a :: st) σ c s Q :=
  Ew_of (fun _ => x_lxor hf (z := (rlop 5 a b).toInt) (toJ_of _).symm) (h _ (toJ_inr _))
theorem w_lshlA {a : Int64} {b : Int32} (hf : PP.1 μ pc = some (.lshl, len, act)) (h : ∀ z, inrJ z → Ew μ d (pc + 1) ls (J z :: st) σ c s Q) : Ew μ d pc ls (.int b :: .long a :: st) σ c s Q :=
  Ew_of (fun _ => x_lshl hf (z := (rsop 0 a b).toInt) (toJ_of _).symm) (h _ (toJ_inr _))
theorem w_lshrA {a : Int64} {b : Int32} (hf : PP.1 μ pc = some (.lshr, len, act)) (h : ∀ z, inrJ z → Ew μ d (pc + 1) ls (J z :: st) σ c s Q) : Ew μ d pc ls (.int b :: .long a :: st) σ c s Q :=
  Ew_of (fun _ => x_lshr hf (z := (rsop 1 a b).toInt) (toJ_of _).symm) (h _ (toJ_inr _))
theorem w_lushrA {a : Int64} {b : Int32} (hf : PP.1 μ pc = some (.lushr, len, act)) (h : ∀ z, inrJ z → Ew μ d (pc + 1) ls (J z :: st) σ c s Q) : Ew μ d pc ls (.int b :: .long a :: st) σ c s Q :=
  Ew_of (fun _ => x_lushr hf (z := (rsop 2 a b).toInt) (toJ_of _).symm) (h _ (toJ_inr _))
theorem w_lcmp {a b : Int} (hf : PP.1 μ pc = some (.lcmp, len, act)) (ha : inrJ a) (hb : inrJ b) (h : ∀ z, inr z → (z < 0 ↔ a < b) → (z = 0 ↔ a = b) → Ew μ d (pc + 1) ls (I z :: st) σ c s Q) : Ew μ d pc ls (J b :: J a :: st) σ c s Q := by
  have e1 : (Int64.ofInt a > Int64.ofInt b) ↔ b < a := by
    show Int64.ofInt b < Int64.ofInt a ↔ _
    rw [Int64.lt_iff_toInt_lt, toJ_ofJ ha, toJ_ofJ hb]
  have e2 : (Int64.ofInt a = Int64.ofInt b) ↔ a = b := by
    rw [← Int64.toInt_inj, toJ_ofJ ha, toJ_ofJ hb]
  by_cases h1 : b < a
  · exact Ew_of (fun _ => x_lcmp hf (z := 1) (by unfold lg_cmp; rw [if_pos (e1.mpr h1)]; rfl)) (h 1 (by omega) (by omega) (by omega))
  · by_cases h2 : a = b
    · exact Ew_of (fun _ => x_lcmp hf (z := 0) (by unfold lg_cmp; rw [if_neg (fun q => h1 (e1.mp q)), if_pos (e2.mpr h2)]; rfl)) (h 0 (by omega) (by omega) (by omega))
    · exact Ew_of (fun _ => x_lcmp hf (z := -1) (by unfold lg_cmp; rw [if_neg (fun q => h1 (e1.mp q)), if_neg (fun q => h2 (e2.mp q))]; rfl)) (h (-1) (by omega) (by omega) (by omega))
theorem w_idiv {a b : Int} (hf : PP.1 μ pc = some (.idiv, len, act)) (ha : inr a ∧ 0 ≤ a) (hb : inr b ∧ 0 < b) (h : Ew μ d (pc + 1) ls (I (a / b) :: st) σ c s Q) : Ew μ d pc ls (I b :: I a :: st) σ c s Q := by
  have hb0 : Int32.ofInt b ≠ 0 := by
    intro q
    have := congrArg Int32.toInt q
    rw [toI_ofI hb.1] at this
    have : b = 0 := this
    omega
  have hd : a / b ≤ a := Int.ediv_le_self _ ha.2
  have hd0 : 0 ≤ a / b := Int.ediv_nonneg ha.2 (by omega)
  refine Ew_of (fun _ => x_idiv hf (decide_eq_false hb0) ?_) h
  show Int32.ofInt a / Int32.ofInt b = _
  apply Int32.toInt_inj.mp
  rw [Int32.toInt_div, toI_ofI ha.1, toI_ofI hb.1, toI_ofI (by omega), Int.tdiv_eq_ediv_of_nonneg ha.2]
  exact Int.bmod_eq_of_le (by omega) (by omega)
theorem w_irem {a b : Int} (hf : PP.1 μ pc = some (.irem, len, act)) (ha : inr a ∧ 0 ≤ a) (hb : inr b ∧ 0 < b) (h : Ew μ d (pc + 1) ls (I (a % b) :: st) σ c s Q) : Ew μ d pc ls (I b :: I a :: st) σ c s Q := by
  have hb0 : Int32.ofInt b ≠ 0 := by
    intro q
    have := congrArg Int32.toInt q
    rw [toI_ofI hb.1] at this
    have : b = 0 := this
    omega
  have hd : a / b ≤ a := Int.ediv_le_self _ ha.2
  have hd0 : 0 ≤ a / b := Int.ediv_nonneg ha.2 (by omega)
  refine Ew_of (fun _ => x_irem hf (decide_eq_false hb0) ?_) h
  have e : Int32.ofInt a / Int32.ofInt b = Int32.ofInt (a / b) := by
    apply Int32.toInt_inj.mp
    rw [Int32.toInt_div, toI_ofI ha.1, toI_ofI hb.1, toI_ofI (by omega), Int.tdiv_eq_ediv_of_nonneg ha.2]
    exact Int.bmod_eq_of_le (by omega) (by omega)
  show Int32.ofInt a - Int32.ofInt a / Int32.ofInt b * Int32.ofInt b = _
  rw [e, ← Int32.ofInt_mul, ← Int32.ofInt_sub, Int.emod_def, Int.mul_comm]
theorem w_lJ (H : HS σ0 σ D N F A) {o n : Nat} {j : Int} (hf : PP.1 μ pc = some (.laload, len, act)) (hD : D o ≠ 0) (ha : t_arr o = true) (hk : t_ak o = 2) (hn : N o = n) (h0 : 0 ≤ j ∧ j < n) (hm : n ≤ 1000000) (h : ∀ v, A o j = v → t_alo o ≤ v ∧ v ≤ t_ahi o → Ew μ d (pc + 1) ls (J v :: st) σ c s Q) : Ew μ d pc ls (I j :: .ref (D o) :: st) σ c s Q := by
  obtain ⟨dv, ov, q1, q2⟩ := H.arr o hD ha
  rw [hk] at q1
  refine Ew_of (fun _ => x_laload hf q1 (ofI_nn h0.1 (by omega)) (ofI_nat h0.1 (by omega)) (by omega) (w := Int64.ofInt (A o j)) ?_) (h _ rfl (H.arng o j))
  rw [q2, hk, Int.toNat_of_nonneg h0.1]
  rfl
theorem w_sJ (H : HS σ0 σ D N F A) {o n : Nat} {j z : Int} (hf : PP.1 μ pc = some (.lastore, len, act)) (hD : D o ≠ 0) (ha : t_arr o = true) (hk : t_ak o = 2) (hn : N o = n) (h0 : 0 ≤ j ∧ j < n) (hm : n ≤ 1000000) (h1 : t_alo o ≤ z ∧ z ≤ t_ahi o)
    (h : ∀ σ, HS σ0 σ D N F (updA A o j z) → Ew μ d (pc + 1) ls st σ c s Q) : Ew μ d pc ls (J z :: I j :: .ref (D o) :: st) σ c s Q := by
  obtain ⟨dv, ov, q1, q2⟩ := H.arr o hD ha
  have e := HS_sto H (j := j.toNat) (z := z) hD ha h1.1 h1.2 q1 q2
  rw [hk, Int.toNat_of_nonneg h0.1] at e
  obtain ⟨v, σₚ, cₚ, sₚ, h, q⟩ := h _ e
  rw [hk] at q1
  exact ⟨v, σₚ, cₚ, sₚ, x_lastore hf q1 (ofI_nn h0.1 (by omega)) (ofI_nat h0.1 (by omega)) (by omega) (H.lo o hD) h, q⟩
end NUM
