def DI (formed : Int) (dl dp dor dla : Int → Int) : Prop := formed = 1 → (∃ T, CI dl T) ∧ (∀ t, 0 ≤ t → t < 3 → PS dp dor t) ∧ 1 ≤ dla 0 ∧ 1 ≤ dla 1 ∧ 1 ≤ dla 2
theorem PS_congr {dp dor po or_ : Int → Int} {t : Int} (h : PS dp dor t) (h0 : 0 ≤ t ∧ t < 3) (e : ∀ i, (0 : Int) ≤ i → i < 192 → po i = dp i) (e2 : or_ t = dor t) : PS po or_ t := by
  unfold PS
  rw [e2]
  exact SH_copy h (fun k a b => e _ (by omega) (by omega))
theorem PS_frm {po po' or_ or2 : Int → Int} {s t : Int} (h : PS po or_ s) (h1 : FRM po po' (64 * t) (64 * t + 64)) (h2 : FRM or_ or2 t (t + 1)) (hs : s ≠ t) : PS po' or2 s := by
  unfold PS
  rw [h2 s (by omega)]
  exact SH_copy h (fun k a b => h1 _ (by omega))
theorem PS_ord {po or_ : Int → Int} {t : Int} (h : PS po or_ t) : 5 ≤ or_ t ∧ or_ t ≤ 9 := ⟨h.1, h.2.1⟩
theorem TI_at {sy bi ba : Int → Int} {row o last k idx : Int} (h : TI sy bi ba row o last) (a : 0 ≤ k) (b : k < p2 o) (e : idx = row + k) : 0 ≤ sy idx ∧ sy idx ≤ last ∧ 0 ≤ bi idx ∧ bi idx ≤ o ∧ 0 ≤ ba idx ∧ ba idx + p2 (bi idx) ≤ p2 o := by
  subst e
  exact h k a b
theorem RT_at {sy bi ba or_ : Int → Int} (h : RT sy bi ba or_) {t : Int} (h0 : 0 ≤ t) (h1 : t < 3) (hn : 0 ≤ or_ t) : or_ t ≤ 9 ∧ TI sy bi ba (512 * t) (or_ t) (lastOf t) := by
  rcases h t h0 h1 with q | q
  · omega
  · exact ⟨q.2.1, q.2.2⟩
theorem pt_copy {g h : Int → Int} {i v : Int} (e : ∀ k, 0 ≤ k → k < i → g k = h k) (q : h i = v) : ∀ k, 0 ≤ k → k < i + 1 → upd1 g i v k = h k := pt_upd e q.symm
/-- how many bytes the first k streams have -/
def PF (g : Int → Int) (a : Int) : Nat → Int
  | 0 => 0
  | k + 1 => PF g a k + nm g (a + 2 * k) (2 : Int).toNat
theorem PF_s {g : Int → Int} {a k kₚ : Int} (h : 0 ≤ k) (e : kₚ = k + 1) : PF g a kₚ.toNat = PF g a k.toNat + nm g (a + 2 * k) (2 : Int).toNat := by
  subst e
  rw [show (k + 1).toNat = k.toNat + 1 by omega]
  show PF g a k.toNat + nm g (a + 2 * ((k.toNat : Nat) : Int)) _ = _
  rw [show ((k.toNat : Nat) : Int) = k by omega]
theorem PF_3 {g : Int → Int} {a : Int} : PF g a (3 : Int).toNat = nm g a (2 : Int).toNat + nm g (a + 2) (2 : Int).toNat + nm g (a + 4) (2 : Int).toNat := by
  show 0 + nm g (a + 2 * ((0 : Nat) : Int)) (2 : Int).toNat + nm g (a + 2 * ((1 : Nat) : Int)) (2 : Int).toNat + nm g (a + 2 * ((2 : Nat) : Int)) (2 : Int).toNat = _
  rw [show a + 2 * ((0 : Nat) : Int) = a by omega, show a + 2 * ((1 : Nat) : Int) = a + 2 by omega, show a + 2 * ((2 : Nat) : Int) = a + 4 by omega]
  omega
theorem PF_le {g : Int → Int} (hB : ∀ i, (0 : Int) ≤ g i ∧ g i ≤ 255) {a : Int} {k : Nat} : ∀ {n : Nat}, 0 ≤ PF g a k ∧ PF g a k ≤ PF g a (k + n)
  | 0 => ⟨by
    induction k with
    | zero => exact Int.le_refl 0
    | succ k ih =>
      have := (nm_b (g := g) (a := a + 2 * k) (k := 2) hB).1
      show 0 ≤ PF g a k + nm g (a + 2 * k) (2 : Int).toNat
      omega, Int.le_refl _⟩
  | n + 1 => by
    have h := PF_le hB (a := a) (k := k) (n := n)
    have := (nm_b (g := g) (a := a + 2 * (k + n : Nat)) (k := 2) hB).1
    refine ⟨h.1, ?_⟩
    show PF g a k ≤ PF g a (k + n) + nm g (a + 2 * ((k + n : Nat) : Int)) (2 : Int).toNat
    omega
theorem PF_le3 {g : Int → Int} (hB : ∀ i, (0 : Int) ≤ g i ∧ g i ≤ 255) {a k : Int} (h0 : 0 ≤ k) (h1 : k ≤ 3) : 0 ≤ PF g a k.toNat ∧ PF g a k.toNat ≤ PF g a (3 : Int).toNat := by
  have := PF_le hB (a := a) (k := k.toNat) (n := (3 - k).toNat)
  rw [show k.toNat + (3 - k).toNat = (3 : Int).toNat by omega] at this
  exact this
theorem mul_le3 {k c : Int} (h0 : 0 ≤ k) (h1 : k ≤ 3) (hc : 0 ≤ c) : 0 ≤ k * c ∧ k * c ≤ 3 * c ∧ (k + 1) * c = k * c + c :=
  ⟨Int.mul_nonneg h0 hc, Int.mul_le_mul_of_nonneg_right h1 hc, by rw [Int.add_mul]; omega⟩
