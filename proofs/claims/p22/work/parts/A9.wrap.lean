/-! sums and products that wrap around, kept as what they are -/
def wr (z : Int) : Int := (Int32.ofInt z).toInt
def us (a k : Int) : Int := (rop 8 (Int32.ofInt a) (Int32.ofInt k)).toInt
theorem wr_inr (z : Int) : inr (wr z) := toI_inr _
section V9
variable {σ : rS} {μ d pc c s : Nat} {ls : rO} {st : List Value} {Q : wQ} {len : Nat} {act : rA}
theorem v_imulW {a b : Int} (hf : PP.1 μ pc = some (.imul, len, act)) (h : inr (wr (a * b)) → Ew μ d (pc + 1) ls (I (wr (a * b)) :: st) σ c s Q) : Ew μ d pc ls (I b :: I a :: st) σ c s Q := by
  refine w_imul hf ?_
  have e : I (a * b) = I (wr (a * b)) := congrArg Value.int (toI_of _).symm
  rw [e]
  exact h (wr_inr _)
theorem v_iaddW {a b : Int} (hf : PP.1 μ pc = some (.iadd, len, act)) (h : inr (wr (a + b)) → Ew μ d (pc + 1) ls (I (wr (a + b)) :: st) σ c s Q) : Ew μ d pc ls (I b :: I a :: st) σ c s Q := by
  refine w_iadd hf ?_
  have e : I (a + b) = I (wr (a + b)) := congrArg Value.int (toI_of _).symm
  rw [e]
  exact h (wr_inr _)
theorem v_iushrW {a k : Int} (hf : PP.1 μ pc = some (.iushr, len, act)) (hk : 1 ≤ k ∧ k ≤ 31) (h : 0 ≤ us a k ∧ us a k < p2 (32 - k) → Ew μ d (pc + 1) ls (I (us a k) :: st) σ c s Q) : Ew μ d pc ls (I k :: I a :: st) σ c s Q :=
  Ew_of (fun _ e => x_iushr hf (toI_of _).symm e) (h (ushr_rng (Int32.ofInt a) k hk))
end V9
/-- the hash of the bytes from a place on -/
def hsf (b : Int → Int) (p : Int) : Nat → Int
  | 0 => 0
  | k + 1 => wr (wr (hsf b p k * 257) + b (p + k))
theorem hsf_s {b : Int → Int} {p k k2 : Int} (h : 0 ≤ k) (e : k2 = k + 1) : hsf b p k2.toNat = wr (wr (hsf b p k.toNat * 257) + b (p + k)) := by
  subst e
  rw [show (k + 1).toNat = k.toNat + 1 by omega]
  show wr (wr (hsf b p k.toNat * 257) + b (p + (k.toNat : Int))) = _
  rw [Int.toNat_of_nonneg h]
def hsh (b : Int → Int) (l p : Int) : Int := us (wr (hsf b p l.toNat * -1640531535)) 21
/-- the chains: each link goes to an earlier place with the same hash -/
def BKI (b bk : Int → Int) (l L : Int) : Prop := ∀ i, 0 ≤ i → i < L → -1 ≤ bk i ∧ bk i < i ∧ (0 ≤ bk i → hsh b l (bk i) = hsh b l i)
def HDI (b hd : Int → Int) (l L : Int) : Prop := ∀ h, 0 ≤ h → h < 2048 → -1 ≤ hd h ∧ hd h < L ∧ (0 ≤ hd h → hsh b l (hd h) = h)
theorem BKI_lay {b bk hd : Int → Int} {l L L2 h : Int} (hb : BKI b bk l L) (hh : HDI b hd l L) (e : L2 = L + 1) (h0 : 0 ≤ L) (hq : h = hsh b l L) (h1 : 0 ≤ h ∧ h < 2048) : BKI b (upd1 bk L (hd h)) l L2 := by
  subst e
  intro i a c
  by_cases q : i = L
  · subst q
    rw [upd1_s]
    have w := hh h h1.1 h1.2
    exact ⟨w.1, w.2.1, fun z => by rw [w.2.2 z, hq]⟩
  · rw [upd1_o q]; exact hb i a (by omega)
theorem HDI_lay {b hd : Int → Int} {l L L2 h : Int} (hh : HDI b hd l L) (e : L2 = L + 1) (h0 : 0 ≤ L) (hq : h = hsh b l L) : HDI b (upd1 hd h L) l L2 := by
  subst e
  intro i a c
  by_cases q : i = h
  · rw [q, upd1_s]; exact ⟨by omega, by omega, fun _ => hq.symm⟩
  · rw [upd1_o q]; have w := hh i a c; exact ⟨w.1, by omega, w.2.2⟩
theorem HDI_un {b bk hd : Int → Int} {l L L2 h v : Int} (hh : HDI b hd l L) (hb : BKI b bk l L) (e : L2 = L - 1) (h0 : 1 ≤ L) (hq : h = hsh b l (L - 1)) (hv : v = bk (L - 1)) : HDI b (upd1 hd h v) l L2 := by
  subst e
  intro i a c
  have w := hb (L - 1) (by omega) (by omega)
  by_cases q : i = h
  · rw [q, upd1_s, hv]; exact ⟨w.1, w.2.1, fun z => by rw [w.2.2 z, hq]⟩
  · rw [upd1_o q]
    have u := hh i a c
    refine ⟨u.1, ?_, u.2.2⟩
    by_cases z : hd i = L - 1
    · have := u.2.2 (by omega)
      rw [z, ← hq] at this
      exact absurd this.symm q
    · omega
theorem BKI_le {b bk : Int → Int} {l L L2 : Int} (h : BKI b bk l L) (e : L2 ≤ L) : BKI b bk l L2 := fun i a c => h i a (by omega)
theorem BKI_congr {b bk bk' : Int → Int} {l L : Int} (h : BKI b bk l L) (e : ∀ i, 0 ≤ i → i < L → bk' i = bk i) : BKI b bk' l L := fun i a c => by rw [e i a c]; exact h i a c
theorem HDI_0 {b hd : Int → Int} {l : Int} (h : ∀ i, hd i = -1) : HDI b hd l 0 := fun i _ _ => by rw [h]; exact ⟨by omega, by omega, fun q => absurd q (by omega)⟩
theorem BKI_0 {b bk : Int → Int} {l : Int} : BKI b bk l 0 := fun i a c => absurd c (by omega)
