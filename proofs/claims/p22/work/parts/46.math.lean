theorem orB32 {a b : Int} (ha : 0 ≤ a ∧ a ≤ 255) (hb : 0 ≤ b ∧ b ≤ 255) : 0 ≤ (rop 4 (Int32.ofInt a) (Int32.ofInt b)).toInt ∧ (rop 4 (Int32.ofInt a) (Int32.ofInt b)).toInt ≤ 255 := by
  have e : ((Int32.ofInt a).toBitVec ||| (Int32.ofInt b).toBitVec).toNat = a.toNat ||| b.toNat := by
    rw [BitVec.toNat_or, nn32 (by omega), nn32 (by omega)]
  have hl : a.toNat ||| b.toNat < 2 ^ 8 := Nat.or_lt_two_pow (by omega) (by omega)
  have e2 : (rop 4 (Int32.ofInt a) (Int32.ofInt b)).toInt = ((a.toNat ||| b.toNat : Nat) : Int) := by
    show ((Int32.ofInt a).toBitVec ||| (Int32.ofInt b).toBitVec).toInt = _
    rw [BitVec.toInt_eq_toNat_of_lt (by rw [e]; omega), e]
  rw [e2]
  omega
section ORB
variable {σ0 σ : rS} {D N : Nat → Nat} {F : hF} {A : hA} {μ d pc c s : Nat} {ls : rO} {st : List Value} {Q : wQ} {len : Nat} {act : rA}
theorem w_iorB {a b : Int} (hf : PP.1 μ pc = some (.ior, len, act)) (ha : 0 ≤ a ∧ a ≤ 255) (hb : 0 ≤ b ∧ b ≤ 255) (h : ∀ z, 0 ≤ z ∧ z ≤ 255 → Ew μ d (pc + 1) ls (I z :: st) σ c s Q) : Ew μ d pc ls (I b :: I a :: st) σ c s Q :=
  Ew_of (fun _ => x_ior hf (z := (rop 4 (Int32.ofInt a) (Int32.ofInt b)).toInt) (toI_of _).symm) (h _ (orB32 ha hb))
end ORB
theorem div2 {a p : Int} (hp : 0 < p) : (1 < a / p → 2 * p ≤ a) ∧ (a / p ≤ 1 → a < 2 * p) := by
  constructor
  · intro h
    have := Int.mul_le_of_le_ediv hp (show (2 : Int) ≤ a / p by omega)
    exact this
  · intro h
    have := Int.lt_mul_of_ediv_lt hp (show a / p < 2 by omega)
    exact this
def lBs (s : Int) : Int := if s < 16 then s else if s < 20 then 16 + 2 * (s - 16) else if s < 22 then 24 + 4 * (s - 20) else if s < 24 then 32 + 8 * (s - 22) else if s = 24 then 48 else p2 (s - 19)
def mBs (s : Int) : Int := if s < 32 then s + 3 else if s < 36 then 35 + 2 * (s - 32) else if s < 38 then 43 + 4 * (s - 36) else if s < 40 then 51 + 8 * (s - 38) else if s < 42 then 67 + 16 * (s - 40) else if s = 42 then 99 else p2 (s - 36) + 3
theorem lBs_s {s : Int} (h : 0 ≤ s) (h1 : s ≤ 34) : lBs (s + 1) = lBs s + p2 (lB s) := by
  have q : ∀ n : Nat, n < 35 → lBs ((n : Int) + 1) = lBs n + p2 (lB n) := by decide +kernel
  have := q s.toNat (by omega)
  rw [Int.toNat_of_nonneg h] at this
  exact this
theorem mBs_s {s : Int} (h : 0 ≤ s) (h1 : s ≤ 51) : mBs (s + 1) = mBs s + p2 (mB s) := by
  have q : ∀ n : Nat, n < 52 → mBs ((n : Int) + 1) = mBs n + p2 (mB n) := by decide +kernel
  have := q s.toNat (by omega)
  rw [Int.toNat_of_nonneg h] at this
  exact this
theorem lBs_bd {s : Int} (h : 0 ≤ s) (h1 : s ≤ 35) (h2 : lBs s ≤ 16384) : s ≤ 33 := by
  have q : ∀ n : Nat, n < 36 → lBs (n : Int) ≤ 16384 → n ≤ 33 := by decide +kernel
  have := q s.toNat (by omega) (by rw [Int.toNat_of_nonneg h]; exact h2)
  omega
theorem mBs_bd {s : Int} (h : 0 ≤ s) (h1 : s ≤ 52) (h2 : mBs s ≤ 16384) : s ≤ 49 := by
  have q : ∀ n : Nat, n < 53 → mBs (n : Int) ≤ 16384 → n ≤ 49 := by decide +kernel
  have := q s.toNat (by omega) (by rw [Int.toNat_of_nonneg h]; exact h2)
  omega
def WC (top : Int) (l : Int → Int) : Prop := top = 0 ∨ CI l top
def WO (po or_ : Int → Int) : Prop := ∀ t, 0 ≤ t → t < 3 → or_ t ≤ 0 ∨ PS po or_ t
def BD (g : Int → Int) : Prop := ∀ i, (0 : Int) ≤ i → i < 256 → 0 ≤ g i ∧ g i ≤ 11
theorem WC_congr {t t' : Int} {l lₚ : Int → Int} (h : WC t l) (e : t' = t) (e2 : ∀ i, (0 : Int) ≤ i → i < 256 → lₚ i = l i) : WC t' lₚ := by
  subst e
  rcases h with h | h
  · exact .inl h
  · exact .inr (CI_congr h e2)
theorem WO_congr {po po' or_ or2 : Int → Int} (h : WO po or_) (e : ∀ i, (0 : Int) ≤ i → i < 192 → po' i = po i) (e2 : ∀ i, (0 : Int) ≤ i → i < 3 → or2 i = or_ i) : WO po' or2 := by
  intro t a b
  rw [e2 t a b]
  rcases h t a b with q | q
  · exact .inl q
  · exact .inr (PS_congr q ⟨a, b⟩ e (e2 t a b))
