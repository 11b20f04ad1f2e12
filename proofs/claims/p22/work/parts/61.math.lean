def sh (g : Int → Int) (a : Int) : Int → Int := fun k => g (a + k)
theorem sh_upd {g : Int → Int} {a p v : Int} : sh (upd1 g (a + p) v) a = upd1 (sh g a) p v := by
  funext k
  show upd1 g (a + p) v (a + k) = upd1 (sh g a) p v k
  by_cases e : k = p
  · subst e; rw [upd1_s, upd1_s]
  · rw [upd1_o (by omega), upd1_o e]; rfl
theorem sh_at {g : Int → Int} {a k : Int} : sh g a k = g (a + k) := rfl
theorem p2_same {r t x : Int} (r0 : 0 ≤ r) (t0 : 0 ≤ t) (a : p2 r ≤ x) (b : x < 2 * p2 r) (c : p2 t ≤ x) (d : x < 2 * p2 t) : r = t := by
  have l1 : r < t + 1 := p2_lt r0 (by rw [p2_s t0]; omega)
  have l2 : t < r + 1 := p2_lt t0 (by rw [p2_s r0]; omega)
  omega
theorem eqs_upd {sy : Int → Int} {p v x : Int} {n : Nat} (h0 : 0 ≤ p) (h1 : p < n) (hs : sy p = -1) (hx : 0 ≤ x) : su (eqs (upd1 sy p v) x) n = su (eqs sy x) n + (if v = x then 1 else 0) := by
  rw [su_upd (f := eqs sy x) (h := eqs (upd1 sy p v) x) h0 h1 (fun i _ _ c => by unfold eqs; rw [upd1_o c])]
  have a := eqs_eq sy x p
  have b := eqs_eq (upd1 sy p v) x p
  rw [upd1_s] at b
  by_cases e : v = x
  · rw [if_pos e]; omega
  · rw [if_neg e]; omega
def dnA (P : Int → Int) (s x : Int) : Int := if x < s ∧ P x < 0 then 1 else 0
def dnB (P : Int → Int) (s k x : Int) : Int := if P x < 0 then 1 else if x < s then P x else if x = s then k else 0
def CA (P : Int → Int) (n L : Int) (sy : Int → Int) (s : Int) : Prop := ∀ x, 0 ≤ x → x < n → su (eqs sy x) (p2 L).toNat = dnA P s x
def CB (P : Int → Int) (n L : Int) (sy : Int → Int) (s k : Int) : Prop := ∀ x, 0 ≤ x → x < n → su (eqs sy x) (p2 L).toNat = dnB P s k x
theorem CA_0 {P sy : Int → Int} {n L : Int} (h : ∀ k, 0 ≤ k → k < p2 L → sy k = -1) : CA P n L sy 0 := by
  intro x x0 x1
  have hp := p2_pos L
  rw [su_congr (h := fun _ => 0) (fun i a b => by have := eqs_eq sy x i; have := h i a (by omega); omega), su_zero]
  unfold dnA
  rw [if_neg (by omega)]
theorem CA_neg {P sy : Int → Int} {n L s s2 p : Int} (h : CA P n L sy s) (e : s2 = s + 1) (hs : P s < 0) (p0 : 0 ≤ p) (p1 : p < p2 L) (hp : sy p = -1) : CA P n L (upd1 sy p s) s2 := by
  subst e
  intro x x0 x1
  have q := p2_pos L
  rw [eqs_upd p0 (by omega) hp x0, h x x0 x1]
  unfold dnA
  by_cases e : s = x
  · subst e; rw [if_pos rfl, if_neg (by omega), if_pos ⟨by omega, hs⟩]; rfl
  · rw [if_neg e]
    by_cases w : x < s ∧ P x < 0
    · rw [if_pos w, if_pos ⟨by omega, w.2⟩]; rfl
    · rw [if_neg w, if_neg (by omega)]; rfl
theorem CA_skip {P sy : Int → Int} {n L s s2 : Int} (h : CA P n L sy s) (e : s2 = s + 1) (hs : 0 ≤ P s) : CA P n L sy s2 := by
  subst e
  intro x x0 x1
  rw [h x x0 x1]
  unfold dnA
  by_cases e : s = x
  · subst e; rw [if_neg (by omega), if_neg (by omega)]
  · by_cases w : x < s ∧ P x < 0
    · rw [if_pos w, if_pos ⟨by omega, w.2⟩]
    · rw [if_neg w, if_neg (by omega)]
theorem CB_0 {P sy : Int → Int} {n L s : Int} (h : CA P n L sy s) (hs : n ≤ s) : CB P n L sy 0 0 := by
  intro x x0 x1
  rw [h x x0 x1]
  unfold dnA dnB
  by_cases w : P x < 0
  · rw [if_pos ⟨by omega, w⟩, if_pos w]
  · rw [if_neg (by omega), if_neg w, if_neg (by omega)]
    by_cases e : x = 0
    · rw [if_pos e]
    · rw [if_neg e]
theorem CB_put {P sy : Int → Int} {n L s k k2 p : Int} (h : CB P n L sy s k) (e : k2 = k + 1) (hs : 0 ≤ P s) (p0 : 0 ≤ p) (p1 : p < p2 L) (hp : sy p = -1) : CB P n L (upd1 sy p s) s k2 := by
  subst e
  intro x x0 x1
  have q := p2_pos L
  rw [eqs_upd p0 (by omega) hp x0, h x x0 x1]
  unfold dnB
  by_cases e : s = x
  · subst e; rw [if_pos rfl, if_neg (by omega), if_neg (by omega), if_pos rfl, if_neg (by omega), if_neg (by omega), if_pos rfl]
  · have e' : x ≠ s := fun q => e q.symm
    simp [e, e']
theorem CB_next {P sy : Int → Int} {n L s s2 k : Int} (h : CB P n L sy s k) (e : s2 = s + 1) (hk : k = posi (P s)) : CB P n L sy s2 0 := by
  subst e
  intro x x0 x1
  rw [h x x0 x1]
  unfold dnB
  have := posi_eq (P s)
  by_cases w : P x < 0
  · rw [if_pos w, if_pos w]
  · rw [if_neg w, if_neg w]
    by_cases e : x = s
    · subst e; rw [if_neg (by omega), if_pos rfl, if_pos (by omega)]; omega
    · by_cases v : x < s
      · rw [if_pos v, if_pos (by omega)]
      · rw [if_neg v, if_neg e, if_neg (by omega)]
        by_cases u : x = s + 1
        · rw [if_pos u]
        · rw [if_neg u]
theorem CB_end {P sy : Int → Int} {n L s k : Int} (h : CB P n L sy s k) (hs : n ≤ s) : ∀ x, 0 ≤ x → x < n → su (eqs sy x) (p2 L).toNat = mass (P x) := by
  intro x x0 x1
  rw [h x x0 x1]
  unfold dnB
  have := mass_eq (P x)
  by_cases w : P x < 0
  · rw [if_pos w]; omega
  · rw [if_neg w, if_pos (by omega)]; omega
def PTI (P : Int → Int) (n L : Int) (sy : Int → Int) (p c t : Int) : Prop := ∃ J, VIS P n L sy J c ∧ J ≤ t + 1 ∧ 0 ≤ t ∧ t < p2 L ∧ p = qs L t ∧ (∀ j, J ≤ j → j < t → p2 L - ngs P n ≤ qs L j)
theorem PTI_of {P sy : Int → Int} {n L p c : Int} (h : PT P n L sy p c) : ∃ m : Nat, PTI P n L sy p c (p2 L - m) := by
  obtain ⟨J, t, v, a, b, d, f, g⟩ := h
  exact ⟨(p2 L - t).toNat, J, by rw [show p2 L - (((p2 L - t).toNat : Nat) : Int) = t by omega]; exact ⟨v, a, b, d, f, g⟩⟩
theorem PTI_PT {P sy : Int → Int} {n L p c t : Int} (h : PTI P n L sy p c t) : PT P n L sy p c := by
  obtain ⟨J, v, a, b, d, f, g⟩ := h
  exact ⟨J, t, v, a, b, d, f, g⟩
theorem PTI_rng {P sy : Int → Int} {n L p c t : Int} (h : PTI P n L sy p c t) : 0 ≤ p ∧ p < p2 L ∧ 0 ≤ t ∧ t < p2 L := by
  obtain ⟨J, v, a, b, d, f, g⟩ := h
  rw [f]
  exact ⟨qs_rng.1, qs_rng.2, b, d⟩
theorem PT_rng {P sy : Int → Int} {n L p c : Int} (h : PT P n L sy p c) : 0 ≤ p ∧ p < p2 L := by
  obtain ⟨J, t, v, a, b, d, f, g⟩ := h
  rw [f]
  exact qs_rng
theorem PTI_next {P sy : Int → Int} {n L p pₚ c : Int} {m : Nat} (hL : 5 ≤ L ∧ L ≤ 9) (hn : 0 ≤ ngs P n ∧ ngs P n ≤ p2 L) (h : PTI P n L sy p c (p2 L - m)) (h0 : 0 ≤ sy p) (hc : c < p2 L - ngs P n) (e : pₚ = (p + (p2 L / 2 + p2 L / 8 + 3)) % p2 L) : 1 ≤ m ∧ PTI P n L sy pₚ c (p2 L - (m - 1 : Nat)) := by
  have r := PTI_rng h
  have hr := rk_all (L := L) (high := p2 L - ngs P n) hL (by omega) (by omega)
  obtain ⟨J, v, a, b, d, f, g⟩ := h
  have hp := p2_pos L
  generalize ht : p2 L - (m : Int) = t at *
  have skip : t + 1 < p2 L := by
    by_cases q : t + 1 < p2 L
    · exact q
    · exfalso
      have hg : ∀ j, J ≤ j → j < J + ((p2 L - J).toNat : Int) → p2 L - ngs P n ≤ qs L j := by
        intro j x y
        by_cases w : j < t
        · exact g j x w
        · have : j = t := by omega
          subst this
          by_cases z : qs L j < p2 L - ngs P n
          · have := v.2.2.1 j x d z
            rw [f, this] at h0
            omega
          · omega
      have := rk_skip (L := L) (high := p2 L - ngs P n) (a := J) v.2.2.2.2.2.1 (p2 L - J).toNat hg
      rw [show J + ((p2 L - J).toNat : Int) = p2 L by have := v.2.2.2.2.2.2; omega, hr, v.2.2.2.2.1] at this
      omega
  refine ⟨by omega, ?_⟩
  rw [show p2 L - ((m - 1 : Nat) : Int) = t + 1 by omega]
  refine ⟨J, v, by omega, by omega, skip, by rw [e, f, qs_s], fun j x y => ?_⟩
  by_cases w : j < t
  · exact g j x w
  · have : j = t := by omega
    subst this
    by_cases z : qs L j < p2 L - ngs P n
    · have := v.2.2.1 j x d z
      rw [f, this] at h0
      omega
    · omega
/-- a free place has -1 -/
theorem PT_free {P sy : Int → Int} {n L p c : Int} (hL : 5 ≤ L ∧ L ≤ 9) (h : PT P n L sy p c) (h0 : sy p < 0) : sy p = -1 := by
  obtain ⟨J, t, v, a, b, d, f, g⟩ := h
  have hq := qs_rng (L := L) (j := t)
  by_cases z : qs L t < p2 L - ngs P n
  · by_cases w : J ≤ t
    · rw [f]; exact v.2.2.1 t w d z
    · have := (v.2.1 t b (by omega) z).1
      rw [← f] at this
      omega
  · have := v.2.2.2.1 (qs L t) (by omega) hq.2
    rw [← f] at this
    omega
theorem LAID_rng {P sy : Int → Int} {n L : Int} (hL : 5 ≤ L ∧ L ≤ 9) (hn : 0 ≤ n) (h : LAID P n L sy) {k : Int} (k0 : 0 ≤ k) (k1 : k < p2 L) : 0 ≤ sy k ∧ sy k < n ∧ P (sy k) ≠ 0 := by
  by_cases q : k < p2 L - ngs P n
  · obtain ⟨j, j0, j1, e⟩ := qs_sur hL k0 k1
    have a := h.2 j j0 j1 (by omega)
    rw [e] at a
    have c := cum_s (P := P) a.1
    have d := posi_eq (P (sy k))
    exact ⟨a.1, a.2.1, by omega⟩
  · obtain ⟨s, s0, s1, s2, s3⟩ := ngs_hit (P := P) n.toNat (p2 L - 1 - k) (by omega) (by rw [show ((n.toNat : Nat) : Int) = n by omega]; omega)
    have a := h.1 s s0 (by omega) s2
    rw [s3, show p2 L - 1 - (p2 L - 1 - k) = k by omega] at a
    rw [a]
    exact ⟨s0, by omega, by omega⟩
def NB (P : Int → Int) (n : Int) (sy num : Int → Int) (k : Int) : Prop := ∀ s, 0 ≤ s → s < n → num s = mass (P s) + su (eqs sy s) k.toNat
theorem NB_0 {P sy num : Int → Int} {n : Int} (h : ∀ s, 0 ≤ s → s < n → num s = mass (P s)) : NB P n sy num 0 := by
  intro s a b
  rw [h s a b]
  show _ = mass (P s) + 0
  omega
theorem NB_next {P sy num : Int → Int} {n k k2 x : Int} (h : NB P n sy num k) (k0 : 0 ≤ k) (e : k2 = k + 1) (s0 : 0 ≤ sy k) (s1 : sy k < n) (hx : x = num (sy k) + 1) : NB P n sy (upd1 num (sy k) x) k2 := by
  subst e
  intro s a b
  rw [su_s k0]
  have q := eqs_eq sy s k
  have c := h s a b
  by_cases w : s = sy k
  · subst w; rw [upd1_s]; omega
  · rw [upd1_o w]; omega
theorem NB_x {P sy num : Int → Int} {n L k : Int} (h : NB P n sy num k) (hc : ∀ s, 0 ≤ s → s < n → su (eqs sy s) (p2 L).toNat = mass (P s)) (k0 : 0 ≤ k) (k1 : k < p2 L) (s0 : 0 ≤ sy k) (s1 : sy k < n) : num (sy k) = XN P sy k ∧ mass (P (sy k)) ≤ XN P sy k ∧ XN P sy k < 2 * mass (P (sy k)) := by
  have a := h (sy k) s0 s1
  have b := hc (sy k) s0 s1
  have q := eqs_eq sy (sy k) k
  have m := su_le_all (f := eqs sy (sy k)) (i := k + 1) (n := p2 L) (by omega) (by omega) (fun i _ => by have := eqs_eq sy (sy k) i; omega)
  have m2 := su_nonneg (f := eqs sy (sy k)) (n := k.toNat) (fun i _ _ => by have := eqs_eq sy (sy k) i; omega)
  rw [su_s k0] at m
  unfold XN
  exact ⟨a, by omega, by omega⟩
theorem NUM_next {P sy bi ba : Int → Int} {L k k2 r b z : Int} (h : NUM P L sy bi ba k) (e : k2 = k + 1) (r0 : 0 ≤ r) (r1 : r ≤ L) (a1 : p2 r ≤ XN P sy k) (a2 : XN P sy k < 2 * p2 r) (hb : b = L - r) (hz : z = XN P sy k * p2 (L - r) - p2 L) : NUM P L sy (upd1 bi k b) (upd1 ba k z) k2 := by
  subst e
  intro i i0 i1
  by_cases w : i = k
  · subst w
    rw [upd1_s, upd1_s]
    exact ⟨r, r0, r1, a1, a2, hb, hz⟩
  · rw [upd1_o w, upd1_o w]
    exact h i i0 (by omega)
