/-! copies of tags: the table of fewest bytes -/
def bN (f : Int) : Int := if 4 ≤ f ∧ f ≤ 11 then 2 else 3
def bF (_ : Int) : Int := 3
theorem bN_eq (f : Int) : 4 ≤ f ∧ f ≤ 11 ∧ bN f = 2 ∨ ¬(4 ≤ f ∧ f ≤ 11) ∧ bN f = 3 := by
  unfold bN
  by_cases h : 4 ≤ f ∧ f ≤ 11
  · rw [if_pos h]; omega
  · rw [if_neg h]; omega
theorem bF_eq (f : Int) : bF f = 3 := rfl
def KQ (b g : Int → Int) (k : Int) : Prop := g 0 = 0 ∧ ∀ l, 1 ≤ l → l ≤ k → 0 ≤ g l ∧ g l ≤ 3 * l ∧ ∃ f, 1 ≤ f ∧ f ≤ 64 ∧ f ≤ l ∧ b f + g (l - f) = g l
def KX (b g : Int → Int) (l f : Int) : Prop := ∃ f', 1 ≤ f' ∧ f' ≤ f ∧ f' ≤ 64 ∧ f' ≤ l ∧ b f' + g (l - f') = g l
def KP (b g : Int → Int) (l f : Int) : Prop := KQ b g (l - 1) ∧ (f = 1 ∧ g l = 2147483647 ∨ 1 < f ∧ 0 ≤ g l ∧ g l ≤ 3 * l ∧ KX b g l (f - 1))
theorem KQ_small {b g : Int → Int} {k j : Int} (h : KQ b g k) (h0 : 0 ≤ j) (h1 : j ≤ k) : 0 ≤ g j ∧ g j ≤ 3 * j := by
  by_cases e : j = 0
  · rw [e, h.1]; omega
  · have := h.2 j (by omega) h1
    omega
theorem KQ_upd {b g : Int → Int} {k l v : Int} (h : KQ b g k) (h0 : k < l) (h1 : 0 < l) : KQ b (upd1 g l v) k := by
  refine ⟨by rw [upd1_o (by omega)]; exact h.1, fun j a c => ?_⟩
  obtain ⟨p, q, f, f1, f2, f3, f4⟩ := h.2 j a c
  rw [upd1_o (by omega)]
  exact ⟨p, q, f, f1, f2, f3, by rw [upd1_o (by omega)]; exact f4⟩
theorem KP_start {b g : Int → Int} {l : Int} (h : KQ b g (l - 1)) (h1 : 1 ≤ l) : KP b (upd1 g l 2147483647) l 1 :=
  ⟨KQ_upd h (by omega) (by omega), .inl ⟨rfl, upd1_s⟩⟩
theorem KP_small {b g : Int → Int} {l f : Int} (h : KP b g l f) (h1 : 1 ≤ f) (h2 : f ≤ l) : 0 ≤ g (l - f) ∧ g (l - f) ≤ 3 * (l - f) := KQ_small h.1 (by omega) (by omega)
theorem KX_mono {b g : Int → Int} {l f f2 : Int} (h : KX b g l f) (hl : f ≤ f2) : KX b g l f2 := by
  obtain ⟨x, a, c, d, e, i⟩ := h
  exact ⟨x, a, by omega, d, e, i⟩
theorem KP_keep {b g : Int → Int} {l f : Int} (h : KP b g l f) (hb : b f ≤ 3) (h1 : 1 ≤ f) (h2 : f ≤ l) (hl : l ≤ 100000) (h4 : g l ≤ b f + g (l - f)) : KP b g l (f + 1) := by
  have s := KP_small h h1 h2
  refine ⟨h.1, .inr ?_⟩
  rcases h.2 with ⟨e, m⟩ | ⟨a, c, d, x⟩
  · omega
  · exact ⟨by omega, c, d, KX_mono x (by omega)⟩
theorem KP_set {b g : Int → Int} {l f t : Int} (h : KP b g l f) (hb : 0 ≤ b f ∧ b f ≤ 3) (h1 : 1 ≤ f) (h2 : f ≤ l) (h3 : f ≤ 64) (e : b f + g (l - f) = t) : KP b (upd1 g l t) l (f + 1) := by
  have s := KP_small h h1 h2
  refine ⟨KQ_upd h.1 (by omega) (by omega), .inr ⟨by omega, ?_, ?_, f, h1, by omega, h3, h2, ?_⟩⟩
  · rw [upd1_s]; omega
  · rw [upd1_s]; omega
  · rw [upd1_s, upd1_o (by omega), e]
theorem KP_end {b g : Int → Int} {l f : Int} (h : KP b g l f) (h1 : 1 < f) (hf : f ≤ 65) (hl : f ≤ l + 1) : KQ b g l := by
  refine ⟨h.1.1, fun j a c => ?_⟩
  by_cases e : j = l
  · subst e
    rcases h.2 with ⟨e, _⟩ | ⟨_, p, q, x, a, c, d, e, i⟩
    · omega
    · exact ⟨p, q, x, a, d, e, i⟩
  · exact h.1.2 j a (by omega)
theorem KX_all {b g : Int → Int} {k l : Int} (h : KQ b g k) (h1 : 1 ≤ l) (h2 : l ≤ k) (f : Int) (hf : f = 64 ∨ f = l) : KX b g l f := by
  obtain ⟨p, q, x, f1, f2, f3, f4⟩ := h.2 l h1 h2
  exact ⟨x, f1, by omega, f2, f3, f4⟩
theorem KX_less {b g : Int → Int} {l f f2 : Int} (h : KX b g l f) (h1 : b f + g (l - f) ≠ g l) (e2 : f2 = f - 1) : KX b g l f2 := by
  subst e2
  obtain ⟨x, a, c, d, e, i⟩ := h
  refine ⟨x, a, ?_, d, e, i⟩
  by_cases q : x = f
  · subst q; exact absurd i h1
  · omega
theorem KX_pos {b g : Int → Int} {l f : Int} (h : KX b g l f) : 1 ≤ f := by
  obtain ⟨x, a, c, d, e, i⟩ := h
  omega
theorem p2_8 {k : Int} : (k = 1 → p2 (8 * k) = 256) ∧ (k = 2 → p2 (8 * k) = 65536) ∧ (k = 3 → p2 (8 * k) = 16777216) ∧ (k = 4 → p2 (8 * k) = 4294967296) :=
  ⟨fun h => by rw [h]; decide, fun h => by rw [h]; decide, fun h => by rw [h]; decide, fun h => by rw [h]; decide⟩
