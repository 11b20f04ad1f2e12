/-! what a setting may be -/
def mlo (w : Int) : Int := if w = 0 then 0 else if w = 1 then 3 else if w = 2 then 1 else if w = 4 then 4 else if w = 6 then 0 else if w = 7 then 0 else if w = 8 then 0 else -2147483648
def mhi (w : Int) : Int := if w = 0 then 3 else if w = 1 then 8 else if w = 2 then 65536 else if w = 4 then 7 else if w = 6 then 255 else if w = 7 then 15 else if w = 8 then 11 else 2147483647
theorem mlo_df {w : Int} (h : w ≠ 0 ∧ w ≠ 1 ∧ w ≠ 2 ∧ w ≠ 4 ∧ w ≠ 6 ∧ w ≠ 7 ∧ w ≠ 8) : mlo w = -2147483648 ∧ mhi w = 2147483647 := by
  obtain ⟨h0, h1, h2, h4, h6, h7, h8⟩ := h
  unfold mlo mhi
  rw [if_neg h0, if_neg h1, if_neg h2, if_neg h4, if_neg h6, if_neg h7, if_neg h8, if_neg h0, if_neg h1, if_neg h2, if_neg h4, if_neg h6, if_neg h7, if_neg h8]
  exact ⟨rfl, rfl⟩
theorem MBQ_of {w v : Int} (hw : 0 ≤ w) (h : w = 3 ∨ mlo w ≤ v ∧ v ≤ mhi w) : MBQ w v := by
  unfold MBQ
  by_cases h0 : w = 0
  · subst h0; have h : (0 : Int) = 3 ∨ 0 ≤ v ∧ v ≤ 3 := h; omega
  by_cases h1 : w = 1
  · subst h1; have h : (1 : Int) = 3 ∨ 3 ≤ v ∧ v ≤ 8 := h; omega
  by_cases h2 : w = 2
  · subst h2; have h : (2 : Int) = 3 ∨ 1 ≤ v ∧ v ≤ 65536 := h; omega
  by_cases h4 : w = 4
  · subst h4; have h : (4 : Int) = 3 ∨ 4 ≤ v ∧ v ≤ 7 := h; omega
  by_cases h6 : w = 6
  · subst h6; have h : (6 : Int) = 3 ∨ 0 ≤ v ∧ v ≤ 255 := h; omega
  by_cases h7 : w = 7
  · subst h7; have h : (7 : Int) = 3 ∨ 0 ≤ v ∧ v ≤ 15 := h; omega
  by_cases h8 : w = 8
  · subst h8; have h : (8 : Int) = 3 ∨ 0 ≤ v ∧ v ≤ 11 := h; omega
  clear h
  omega
theorem SE_of {g : Int → Int} {w v : Int} (hs : SE g) (h : w = 3 ∧ 64 ≤ v ∧ v ≤ 127 ∨ w ≠ 3 ∧ mlo w ≤ v ∧ v ≤ mhi w) : SE (upd1 g w v) := by
  refine SE_upd hs ?_
  rcases h with ⟨h3, h⟩ | ⟨h3, h⟩
  · subst h3
    refine ⟨fun q => ?_, fun q => ?_, fun q => ?_, fun q => ?_, fun q => ?_, fun q => ?_, fun q => ?_, fun q => ?_⟩ <;> omega
  · refine ⟨fun q => ?_, fun q => ?_, fun q => ?_, fun q => absurd q h3, fun q => ?_, fun q => ?_, fun q => ?_, fun q => ?_⟩ <;> (subst q; exact h)
/-- what a call of set leaves of the settings -/
def UPD (z : Int) (w w' : Int → Int) (k v : Int) : Prop := z = 1 ∧ w' = upd1 w k v ∨ z = 0 ∧ w' = w
/-- the settings of both sides are the same -/
def EQS (w w' : Int → Int) : Prop := ∀ k, 0 ≤ k → k < 10 → w k = w' k
theorem EQS_upd {z : Int} {w w' v v' : Int → Int} {k x : Int} (h : EQS w w') (a : UPD z w v k x) (b : UPD z w' v' k x) : EQS v v' := by
  rcases a with ⟨a1, a2⟩ | ⟨a1, a2⟩
  · rcases b with ⟨b1, b2⟩ | ⟨b1, b2⟩
    · subst a2
      subst b2
      intro j h0 h1
      by_cases q : j = k
      · rw [q, upd1_s, upd1_s]
      · rw [upd1_o q, upd1_o q]
        exact h j h0 h1
    · omega
  · rcases b with ⟨b1, b2⟩ | ⟨b1, b2⟩
    · omega
    · subst a2
      subst b2
      exact h
/-- how many pieces of at most c bytes n bytes have -/
def RW (c n : Int) : Int := (n + c - 1) / c
def WND (w : Int → Int) (n : Int) : Int := if andI (w 7) 4 = 0 then p2 (10 + w 8) else n
def SMN (a b : Int) : Int := if a < b then a else b
theorem WND_p {w : Int → Int} {n v z v5 : Int} (e2 : w 7 = v) (e : andI v 4 = z) (b : z = 0) (e5 : w 8 = v5) : p2 (10 + v5) = WND w n := by
  unfold WND
  rw [e2, e, if_pos b, e5]
theorem WND_n {w : Int → Int} {n v z : Int} (e2 : w 7 = v) (e : andI v 4 = z) (b : z ≠ 0) : n = WND w n := by
  unfold WND
  rw [e2, e, if_neg b]
/-- what bound answers -/
def BND (w : Int → Int) (f n : Int) : Int :=
  if f = 0 then n + n / 255 + 16 else if f = 1 then 27 + 8 * RW (w 2) n + n else if f = 2 then 32 + n + n / 6 else if f = 3 then 10 + n + 8 * RW (w 2) n + (if 0 < w 6 then RW (w 2) n * (4 + w 6) else 0) else if f = 4 then 22 + 3 * (if n = 0 then 1 else RW (SMN (WND w n) (w 2)) n) + n else 700 + n
def BNA (w : Int → Int) (f n : Int) : Int := if 0 ≤ f ∧ f ≤ 5 ∧ 0 ≤ n ∧ n ≤ 16384 then BND w f n else -1
theorem RW_le {c n : Int} (hc : 1 ≤ c) (hn : 0 ≤ n) : 0 ≤ RW c n ∧ RW c n ≤ n := by
  unfold RW
  refine ⟨Int.ediv_nonneg (by omega) (by omega), ?_⟩
  by_cases h : n = 0
  · subst h
    rw [Int.ediv_eq_zero_of_lt (by omega) (by omega)]
    exact Int.le_refl 0
  · have h1 : n + c - 1 ≤ n * c := by
      have : (n - 1) * (c - 1) ≥ 0 := Int.mul_nonneg (by omega) (by omega)
      rw [Int.sub_mul, Int.mul_sub, Int.mul_one, Int.one_mul] at this
      omega
    exact Int.ediv_le_of_le_mul (by omega) h1
theorem RW_pos {c n : Int} (hc : 1 ≤ c) (hn : 1 ≤ n) : 1 ≤ RW c n := by
  unfold RW
  exact Int.le_ediv_of_mul_le (by omega) (by omega)
theorem RWm {r x n : Int} (h : 0 ≤ r ∧ r ≤ n) (hn : n ≤ 16384) (hx : 0 ≤ x ∧ x ≤ 259) : 0 ≤ r * x ∧ r * x ≤ 4243456 := by
  refine ⟨Int.mul_nonneg h.1 hx.1, ?_⟩
  have h1 : r * x ≤ 16384 * x := Int.mul_le_mul_of_nonneg_right (by omega) hx.1
  omega
theorem BND_0 {w : Int → Int} {f n : Int} (h : f = 0) : n + n / 255 + 16 = BND w f n := by
  unfold BND
  rw [if_pos h]
theorem BND_1 {w : Int → Int} {f n r : Int} (h : f = 1) (hr : r = RW (w 2) n) : 27 + 8 * r + n = BND w f n := by
  subst h
  subst hr
  rfl
theorem BND_2 {w : Int → Int} {f n : Int} (h : f = 2) : 32 + n + n / 6 = BND w f n := by
  subst h
  rfl
theorem BND_3 {w : Int → Int} {f n r x : Int} (h : f = 3) (hr : r = RW (w 2) n) (hx : 0 < w 6 ∧ x = r * (4 + w 6) ∨ w 6 ≤ 0 ∧ x = 0) : 10 + n + 8 * r + x = BND w f n := by
  subst h
  subst hr
  show _ = 10 + n + 8 * RW (w 2) n + (if 0 < w 6 then RW (w 2) n * (4 + w 6) else 0)
  rcases hx with ⟨a, b⟩ | ⟨a, b⟩
  · rw [if_pos a, b]
  · rw [if_neg (by omega), b]
theorem BND_4 {w : Int → Int} {f n x : Int} (h : f = 4) (hx : n = 0 ∧ x = 1 ∨ n ≠ 0 ∧ x = RW (SMN (WND w n) (w 2)) n) : 22 + 3 * x + n = BND w f n := by
  subst h
  show _ = 22 + 3 * (if n = 0 then 1 else RW (SMN (WND w n) (w 2)) n) + n
  rcases hx with ⟨a, b⟩ | ⟨a, b⟩
  · rw [if_pos a, b]
  · rw [if_neg a, b]
theorem BND_5 {w : Int → Int} {f n : Int} (h : f = 5) : 700 + n = BND w f n := by
  subst h
  rfl
theorem BND_eq {w w' : Int → Int} (h : EQS w w') (f n : Int) : BNA w f n = BNA w' f n := by
  have h2 := h 2 (by decide) (by decide)
  have h6 := h 6 (by decide) (by decide)
  have h7 := h 7 (by decide) (by decide)
  have h8 := h 8 (by decide) (by decide)
  unfold BNA BND WND
  rw [h2, h6, h7, h8]
