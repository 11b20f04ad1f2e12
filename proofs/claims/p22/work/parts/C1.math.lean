/-- what the finder noted: literals, lengths, distances; how far they reach in all -/
def FDI (li le di : Int → Int) (n tot l : Int) : Prop := (∀ j, 0 ≤ j → j < n → 0 ≤ li j ∧ l ≤ le j ∧ 1 ≤ di j ∧ di j ≤ 16384) ∧ su (fun j => li j + le j) n.toNat = tot
theorem FDI_0 {li le di : Int → Int} {l : Int} : FDI li le di 0 0 l := ⟨fun j a b => absurd b (by omega), rfl⟩
theorem FDI_congr {li le di li' le' di' : Int → Int} {n tot l m1 m2 m3 : Int} (h : FDI li le di n tot l) (e1 : ∀ i, 0 ≤ i → i < m1 → li' i = li i) (e2 : ∀ i, 0 ≤ i → i < m2 → le' i = le i) (e3 : ∀ i, 0 ≤ i → i < m3 → di' i = di i) (h1 : n ≤ m1 ∧ n ≤ m2 ∧ n ≤ m3) (h0 : 0 ≤ n) : FDI li' le' di' n tot l := by
  refine ⟨fun j a b => ?_, ?_⟩
  · rw [e1 j a (by omega), e2 j a (by omega), e3 j a (by omega)]; exact h.1 j a b
  · rw [← h.2]; exact su_congr (fun i a b => by rw [e1 i a (by omega), e2 i a (by omega)])
theorem FDI_next {li le di : Int → Int} {n n2 tot tot2 l a b d : Int} (h : FDI li le di n tot l) (h0 : 0 ≤ n) (e : n2 = n + 1) (ha : 0 ≤ a) (hb : l ≤ b) (hd : 1 ≤ d ∧ d ≤ 16384) (et : tot2 = tot + a + b) : FDI (upd1 li n a) (upd1 le n b) (upd1 di n d) n2 tot2 l := by
  subst e et
  refine ⟨fun j x y => ?_, ?_⟩
  · by_cases q : j = n
    · rw [q, upd1_s, upd1_s, upd1_s]; exact ⟨ha, hb, hd.1, hd.2⟩
    · rw [upd1_o q, upd1_o q, upd1_o q]; exact h.1 j x (by omega)
  · rw [su_s h0, upd1_s, upd1_s, su_congr (h := fun j => li j + le j) (fun i x y => by rw [upd1_o (by omega), upd1_o (by omega)]), h.2]
    omega
/-- a length that the finder's rows have (0), or another (1) -/
def lgq (n : Int) : Int := if n = 0 ∨ n = 64 ∨ n = 256 ∨ n = 1024 ∨ n = 4096 ∨ n = 16384 then 0 else 1
theorem lgq_i {n : Int} (h : lgq n = 0) : n = 0 ∨ n = 64 ∨ n = 256 ∨ n = 1024 ∨ n = 4096 ∨ n = 16384 := by
  unfold lgq at h
  by_cases w : n = 0 ∨ n = 64 ∨ n = 256 ∨ n = 1024 ∨ n = 4096 ∨ n = 16384
  · exact w
  · rw [if_neg w] at h; omega
theorem lgq_of {n : Int} (h : n = 0 ∨ n = 64 ∨ n = 256 ∨ n = 1024 ∨ n = 4096 ∨ n = 16384) : lgq n = 0 := by
  unfold lgq
  rw [if_pos h]
theorem lgq_s {m z : Int} (h : lgq m = 0) (h1 : m ≤ 16383) (hz : z = 64 ∧ 4 * m ≤ 64 ∨ z = 4 * m ∧ 64 ≤ 4 * m) : lgq z = 0 := by
  have := lgq_i h
  exact lgq_of (by omega)
