/-- an implication that omega doesn't see -/
def IMP (p q : Prop) : Prop := p → q
def kO (t : Int) : Int := if t = 1 then 5 else 6
theorem kO_eq (t : Int) : t = 1 ∧ kO t = 5 ∨ t ≠ 1 ∧ kO t = 6 := by
  unfold kO
  by_cases h : t = 1
  · left; exact ⟨h, if_pos h⟩
  · right; exact ⟨h, if_neg h⟩
def lS (t : Int) : Int := if t = 0 then 35 else if t = 1 then 14 else 52
theorem lS_eq (t : Int) : t = 0 ∧ lS t = 35 ∨ t = 1 ∧ lS t = 14 ∨ t ≠ 0 ∧ t ≠ 1 ∧ lS t = 52 := by
  unfold lS
  by_cases h : t = 0
  · left; exact ⟨h, if_pos h⟩
  · right
    simp only [if_neg h]
    by_cases w : t = 1
    · left; exact ⟨w, if_pos w⟩
    · right; exact ⟨h, w, if_neg w⟩
/-- a table told: its order, and what the row of symbols costs in it -/
def TBL (po or_ row : Int → Int) (t n : Int) : Prop := 0 ≤ or_ t ∧ or_ t ≤ 9 ∧ (1 ≤ or_ t → SH po (64 * t) 64 (or_ t) (lastOf t) ∧ ∃ c, c ≤ kO t * n ∧ COST (sh po (64 * t)) (or_ t) row n c)
theorem TBL_new {po or_ row P g : Int → Int} {t n o c : Int} (hs : SH g 0 64 o (lastOf t)) (hp : ∀ k, 0 ≤ k → k < 64 → po (64 * t + k) = g k) (ho : or_ t = o) (hc : COST P o row n c) (e : AG P g) (hb : c ≤ kO t * n) : TBL po or_ row t n := by
  have h5 := hs.1
  have h9 := hs.2.1
  refine ⟨by omega, by omega, fun _ => ⟨?_, c, hb, ?_⟩⟩
  · rw [ho]; exact SH_copy hs (fun k a b => by rw [hp k a b, Int.zero_add])
  · rw [ho]; exact COST_agree ⟨h5, h9⟩ hc (fun s a b => by rw [e s a b, ← hp s a b]; rfl)
theorem TBL_0 {po or_ row : Int → Int} {t n : Int} (ho : or_ t = 0) : TBL po or_ row t n := ⟨by omega, by omega, fun q => absurd q (by omega)⟩
theorem TBL_was {po or_ row : Int → Int} {t n c : Int} (hw : WO po or_) (t0 : 0 ≤ t) (t1 : t < 3) (h0 : 0 ≤ or_ t) (hc : 1 ≤ or_ t → COST (sh po (64 * t)) (or_ t) row n c) (hb : c ≤ kO t * n) : TBL po or_ row t n := by
  by_cases q : 1 ≤ or_ t
  · have hs : SH po (64 * t) 64 (or_ t) (lastOf t) := by
      rcases hw t t0 t1 with w | w
      · omega
      · exact w
    exact ⟨h0, hs.2.1, fun _ => ⟨hs, c, hb, hc q⟩⟩
  · exact TBL_0 (by omega)
theorem TBL_keep {po or_ po' or_' row : Int → Int} {t t' n : Int} (h : TBL po or_ row t n) (hp : FRM po po' (64 * t') (64 * t' + 64)) (ho : FRM or_ or_' t' (t' + 1)) (hn : t ≠ t') : TBL po' or_' row t n := by
  have e : or_' t = or_ t := ho t (by omega)
  refine ⟨by rw [e]; exact h.1, by rw [e]; exact h.2.1, fun q => ?_⟩
  rw [e] at q ⊢
  obtain ⟨a, c, b, d⟩ := h.2.2 q
  have ea : ∀ k, 0 ≤ k → k < 64 → po' (64 * t + k) = po (64 * t + k) := fun k x y => hp _ (by omega)
  exact ⟨SH_copy a ea, c, b, COST_agree ⟨a.1, a.2.1⟩ d (fun s x y => (ea s x y).symm)⟩
theorem WO_new {po or_ po' or_' row : Int → Int} {t n : Int} (hw : WO po or_) (hp : FRM po po' (64 * t) (64 * t + 64)) (ho : FRM or_ or_' t (t + 1)) (h : TBL po' or_' row t n) : WO po' or_' := fun x x0 x1 => by
  by_cases q : x = t
  · subst q
    by_cases w : 1 ≤ or_' x
    · exact .inr (h.2.2 w).1
    · exact .inl (by omega)
  · have e : or_' x = or_ x := ho x (by omega)
    rcases hw x x0 x1 with w | w
    · exact .inl (by omega)
    · refine .inr ?_
      show SH po' (64 * x) 64 (or_' x) (lastOf x)
      rw [e]
      exact SH_copy w (fun k a b => hp _ (by omega))
theorem cp_upd {po tr : Int → Int} {a i i2 v : Int} (h : ∀ k, 0 ≤ k → k < i → po (a + k) = tr k) (hv : v = tr i) (e : i2 = i + 1) : ∀ k, 0 ≤ k → k < i2 → upd1 po (a + i) v (a + k) = tr k := fun k x y => by
  by_cases q : k = i
  · rw [q, upd1_s]; exact hv
  · rw [upd1_o (by omega)]; exact h k x (by omega)
theorem AG_sh {f g : Int → Int} (h : AG f g) : AG (sh f 0) g := fun s a b => by
  show f (0 + s) = g s
  rw [Int.zero_add]
  exact h s a b
