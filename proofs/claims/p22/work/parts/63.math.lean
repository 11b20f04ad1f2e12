def LQ (sy bi ba : Int → Int) (s st k : Int) : Prop := sy k = s ∧ ba k ≤ st ∧ st < ba k + p2 (bi k)
def LEAD (sy bi ba : Int → Int) (L s st r : Int) : Prop := 0 ≤ r ∧ r < p2 L ∧ LQ sy bi ba s st r ∧ ∀ k, 0 ≤ k → k < r → ¬ LQ sy bi ba s st k
def WQ (sy bi : Int → Int) (s must k : Int) : Prop := sy k = s ∧ (must = 1 → bi k ≠ 0)
def LOW (sy bi : Int → Int) (L s must r : Int) : Prop := 0 ≤ r ∧ r < p2 L ∧ WQ sy bi s must r ∧ ∀ k, 0 ≤ k → k < r → ¬ WQ sy bi s must k
/-- met after at most m -/
def FP (C : Int → Prop) (lim p : Int) (m : Nat) : Prop := ∃ j : Nat, j ≤ m ∧ C (p + j) ∧ p + j < lim
theorem FP_next {C : Int → Prop} {lim p q : Int} {m : Nat} (h : FP C lim p m) (h0 : ¬ C p) (e : q = p + 1) : 1 ≤ m ∧ FP C lim q (m - 1) := by
  subst e
  obtain ⟨j, hj, hc, hl⟩ := h
  cases j with
  | zero =>
    rw [show p + ((0 : Nat) : Int) = p by omega] at hc
    exact absurd hc h0
  | succ j =>
    refine ⟨by omega, j, by omega, ?_, by omega⟩
    rw [show p + 1 + (j : Int) = p + ((j + 1 : Nat) : Int) by omega]
    exact hc
theorem FP_lt {C : Int → Prop} {lim p : Int} {m : Nat} (h : FP C lim p m) : p < lim := by
  obtain ⟨j, hj, hc, hl⟩ := h
  omega
theorem FP_ex {C : Int → Prop} {lim : Int} (h : ∃ k, 0 ≤ k ∧ k < lim ∧ C k) : ∃ m : Nat, FP C lim 0 m := by
  obtain ⟨k, k0, k1, k2⟩ := h
  exact ⟨k.toNat, k.toNat, Nat.le_refl _, by rw [show (0 : Int) + (k.toNat : Int) = k by omega]; exact k2, by omega⟩
theorem low_ex {P sy bi ba : Int → Int} {n L s must : Int} (h : LD P n L sy bi ba) (hL : 0 ≤ L) (s0 : 0 ≤ s) (s1 : s < n) (hm : 1 ≤ mass (P s)) (hm2 : must = 1 → mass (P s) < p2 L) : ∃ k, 0 ≤ k ∧ k < p2 L ∧ WQ sy bi s must k := by
  have c := h.2.1 s s0 s1
  obtain ⟨k, k0, k1, k2, k3⟩ := su_hit (f := eqs sy s) (n := (p2 L).toNat) (m := 0) (fun i => by have := eqs_eq sy s i; omega) (by omega) (by omega)
  have ks : sy k = s := by have := eqs_eq sy s k; omega
  obtain ⟨r, r0, r1, r2, r3, r4, r5⟩ := h.2.2 k k0 (by omega)
  have ex : XN P sy k = mass (P s) := by
    unfold XN
    rw [ks, k3]
    omega
  refine ⟨k, k0, by omega, ks, fun e => ?_⟩
  have := hm2 e
  have : r < L := p2_lt r0 (by omega)
  omega
theorem LEAD_uniq {sy bi ba sy' bi' ba' : Int → Int} {L s st r r' : Int} (h : LEAD sy bi ba L s st r) (h' : LEAD sy' bi' ba' L s st r') (e : ∀ k, 0 ≤ k → k < p2 L → sy k = sy' k ∧ bi k = bi' k ∧ ba k = ba' k) : r = r' := by
  have c : ∀ k, 0 ≤ k → k < p2 L → (LQ sy bi ba s st k ↔ LQ sy' bi' ba' s st k) := by
    intro k a b
    unfold LQ
    rw [(e k a b).1, (e k a b).2.1, (e k a b).2.2]
  by_cases q : r < r'
  · exact absurd ((c r h.1 h.2.1).mp h.2.2.1) (h'.2.2.2 r h.1 q)
  · by_cases q2 : r' < r
    · exact absurd ((c r' h'.1 h'.2.1).mpr h'.2.2.1) (h.2.2.2 r' h'.1 q2)
    · omega
theorem LOW_uniq {sy bi sy' bi' : Int → Int} {L s must r r' : Int} (h : LOW sy bi L s must r) (h' : LOW sy' bi' L s must r') (e : ∀ k, 0 ≤ k → k < p2 L → sy k = sy' k ∧ bi k = bi' k) : r = r' := by
  have c : ∀ k, 0 ≤ k → k < p2 L → (WQ sy bi s must k ↔ WQ sy' bi' s must k) := by
    intro k a b
    unfold WQ
    rw [(e k a b).1, (e k a b).2]
  by_cases q : r < r'
  · exact absurd ((c r h.1 h.2.1).mp h.2.2.1) (h'.2.2.2 r h.1 q)
  · by_cases q2 : r' < r
    · exact absurd ((c r' h'.1 h'.2.1).mpr h'.2.2.1) (h.2.2.2 r' h'.1 q2)
    · omega
/-- places, bits and bases follow from the points alone -/
theorem LD_uniq {P sy bi ba sy' bi' ba' : Int → Int} {n L : Int} (hL : 5 ≤ L ∧ L ≤ 9) (hn : 0 ≤ n) (h : LD P n L sy bi ba) (h' : LD P n L sy' bi' ba') : ∀ k, 0 ≤ k → k < p2 L → sy k = sy' k ∧ bi k = bi' k ∧ ba k = ba' k := by
  have S : ∀ k, 0 ≤ k → k < p2 L → sy k = sy' k := fun k a b => LAID_uniq hL hn h.1 h'.1 a b
  intro k a b
  have X : XN P sy k = XN P sy' k := by
    unfold XN
    rw [S k a b]
    congr 1
    refine su_congr (fun i x y => ?_)
    unfold eqs
    rw [S i x (by omega)]
  obtain ⟨r, r0, r1, r2, r3, r4, r5⟩ := h.2.2 k a b
  obtain ⟨t, t0, t1, t2, t3, t4, t5⟩ := h'.2.2 k a b
  rw [X] at r2 r3 r5
  have e := p2_same r0 t0 r2 r3 t2 t3
  subst e
  exact ⟨S k a b, by omega, by omega⟩
theorem LD_congr {P P' sy bi ba : Int → Int} {n L : Int} (h : LD P n L sy bi ba) (e : P = P') : LD P' n L sy bi ba := e ▸ h
/-- the states of a row of symbols, the last one first, and what they cost -/
def CHN (sy bi ba : Int → Int) (L : Int) (row : Int → Int) (n : Int) : Nat → Int → Int → Prop
  | 0, st, c => LOW sy bi L (row (n - 1)) 0 st ∧ c = L
  | d + 1, st, c => ∃ st' cₚ, CHN sy bi ba L row n d st' cₚ ∧ LEAD sy bi ba L (row (n - 2 - d)) st' st ∧ c = cₚ + bi st
theorem CHN_uniq {sy bi ba sy' bi' ba' : Int → Int} {L : Int} {row : Int → Int} {n : Int} (e : ∀ k, 0 ≤ k → k < p2 L → sy k = sy' k ∧ bi k = bi' k ∧ ba k = ba' k) : ∀ {d : Nat} {st c st' cₚ : Int}, CHN sy bi ba L row n d st c → CHN sy' bi' ba' L row n d st' cₚ → st = st' ∧ c = cₚ
  | 0, st, c, st', cₚ, h, h' => ⟨LOW_uniq h.1 h'.1 (fun k a b => ⟨(e k a b).1, (e k a b).2.1⟩), by rw [h.2, h'.2]⟩
  | d + 1, st, c, st', cₚ, h, h' => by
    obtain ⟨x, y, q1, q2, q3⟩ := h
    obtain ⟨x', y', w1, w2, w3⟩ := h'
    obtain ⟨e1, e2⟩ := CHN_uniq e q1 w1
    subst e1 e2
    have := LEAD_uniq q2 w2 e
    subst this
    rw [q3, w3, (e st q2.1 q2.2.1).2.1]
    exact ⟨rfl, rfl⟩
/-- what a row of symbols costs in a share -/
def COST (P : Int → Int) (L : Int) (row : Int → Int) (n c : Int) : Prop := ∃ sy bi ba st, LD P 64 L sy bi ba ∧ CHN sy bi ba L row n (n - 1).toNat st c
theorem COST_uniq {P : Int → Int} {L : Int} {row : Int → Int} {n c cₚ : Int} (hL : 5 ≤ L ∧ L ≤ 9) (h : COST P L row n c) (h' : COST P L row n cₚ) : c = cₚ := by
  obtain ⟨sy, bi, ba, st, d1, d2⟩ := h
  obtain ⟨sy', bi', ba', st', d3, d4⟩ := h'
  exact (CHN_uniq (LD_uniq hL (by omega) d1 d3) d2 d4).2
theorem CHN_s {sy bi ba : Int → Int} {L : Int} {row : Int → Int} {n d d2 i st c st2 c2 : Int} (h : CHN sy bi ba L row n d.toNat st c) (h0 : 0 ≤ d) (e : d2 = d + 1) (hi : i = n - 2 - d) (hl : LEAD sy bi ba L (row i) st st2) (hc : c2 = c + bi st2) : CHN sy bi ba L row n d2.toNat st2 c2 := by
  subst e
  rw [show (d + 1).toNat = d.toNat + 1 by omega]
  exact ⟨st, c, h, by rw [show n - 2 - ((d.toNat : Nat) : Int) = i by omega]; exact hl, hc⟩
