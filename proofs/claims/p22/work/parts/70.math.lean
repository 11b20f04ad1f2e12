theorem mass_lt {co tr : Int → Int} {p s : Int} (h : DVI co tr 64) (hs : su (fun i => mass (tr i)) 64 = p) (hk : 2 ≤ su (fun i => pos1 (co i)) 64) (s0 : 0 ≤ s) (s1 : s < 64) : mass (tr s) < p := by
  have nn : ∀ i : Int, 0 ≤ i → i < (64 : Nat) → 0 ≤ (fun i => mass (tr i) + (0 - pos1 (co i))) i := fun i a b => by
    have := h i a (by omega)
    have := mass_eq (tr i)
    have := pos1_eq (co i)
    show 0 ≤ mass (tr i) + (0 - pos1 (co i))
    omega
  have q := su_oneR (f := fun i => mass (tr i) + (0 - pos1 (co i))) (i := s) (n := 64) nn s0 (by omega)
  rw [su_add (f := fun i => mass (tr i)) (h := fun i => 0 - pos1 (co i))] at q
  have e : su (fun i => 0 - pos1 (co i)) 64 = 0 - su (fun i => pos1 (co i)) 64 := by
    have := su_mull (f := fun i => pos1 (co i)) (p := -1) (n := 64)
    rw [su_congr (h := fun i => -1 * pos1 (co i)) (fun i _ _ => by omega)]
    rw [this]
    omega
  have q : mass (tr s) + (0 - pos1 (co s)) ≤ su (fun i => mass (tr i)) 64 + su (fun i => 0 - pos1 (co i)) 64 := q
  have := pos1_eq (co s)
  omega
theorem DVI_m {co tr : Int → Int} {s : Int} (h : DVI co tr 64) (s0 : 0 ≤ s) (s1 : s < 64) (hc : 1 ≤ co s) : 1 ≤ mass (tr s) ∧ tr s ≠ 0 := by
  have := h s s0 s1
  have := mass_eq (tr s)
  omega
def EXN (d : Int → Int) (n : Int) : Prop := ∃ i, 0 ≤ i ∧ i ≤ n ∧ d i ≠ 0
theorem EXN_less {d : Int → Int} {n m : Int} (h : EXN d n) (h0 : d n = 0) (e : m = n - 1) : EXN d m := by
  subst e
  obtain ⟨i, a, b, c⟩ := h
  refine ⟨i, a, ?_, c⟩
  by_cases q : i = n
  · subst q; exact absurd h0 c
  · omega
theorem EXN_nn {d : Int → Int} {n : Int} (h : EXN d n) : 0 ≤ n := by
  obtain ⟨i, a, b, c⟩ := h
  omega
/-- symbols that are counted -/
def CW (co w : Int → Int) (n top : Int) : Prop := ∀ j, 0 ≤ j → j < n → 0 ≤ w j ∧ w j ≤ top ∧ 1 ≤ co (w j)
def CZ (co : Int → Int) (top : Int) : Prop := ∀ i, top < i → i < 64 → 0 ≤ i → co i = 0
theorem CZ_pos {co : Int → Int} {top : Int} (h : CZ co top) (h0 : 0 ≤ top) (h1 : top < 64) : su (fun i => pos1 (co i)) 64 ≤ top + 1 := by
  have s := su_split (f := fun i => pos1 (co i)) (n := (top + 1).toNat) (k := (63 - top).toNat) (fun i a b => by
    have := h i (by omega) (by omega) (by omega)
    show pos1 (co i) = 0
    rw [this]; rfl)
  rw [show (top + 1).toNat + (63 - top).toNat = 64 by omega] at s
  rw [s]
  have := su_ones (f := fun i => pos1 (co i)) (n := (top + 1).toNat) (fun i => by have := pos1_eq (co i); show pos1 (co i) ≤ 1; omega)
  omega
theorem CW_next {co w : Int → Int} {n n2 top x c : Int} (h : CW co w n top) (e : n2 = n + 1) (h0 : 0 ≤ n) (x0 : 0 ≤ x ∧ x ≤ top) (hc : c = co x + 1) (c0 : 0 ≤ co x) : CW (upd1 co x c) (upd1 w n x) n2 top := by
  subst e
  intro j a b
  by_cases q : j = n
  · subst q; rw [upd1_s, upd1_s]; omega
  · rw [upd1_o q]
    have := h j a (by omega)
    by_cases r : w j = x
    · rw [r, upd1_s]; omega
    · rw [upd1_o r]; exact this
theorem CZ_upd {co : Int → Int} {top x c : Int} (h : CZ co top) (hx : x ≤ top) : CZ (upd1 co x c) top := fun i a b d => by
  rw [upd1_o (by omega)]
  exact h i a b d
