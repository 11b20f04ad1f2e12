/-! the room in use -/
def bSl : List Int := [0, 6, 0, 163840, 0, 163840, 0, 163840, 0, 163840, 15, 0, 163840, 0, 0, 163840, 0, 5, 5, 0, 0, 163840, 0, 5, 5, 0, 163840, 0, 163840, 20, 8, 8, 3, 0, 0, 163840, 163840, 163840, 163840, 3072, 40960, 0, 0, 163840, 0, 0, 163840, 5, 0, 54, 54, 54, 54, 54, 96, 96, 96, 0, 44, 44, 44, 44, 44, 48, 48, 48, 0, 80, 80, 80, 80, 80, 96, 96, 96, 0, 3, 0, 384, 384, 3072, 384, 18, 0, 18, 18, 18, 18, 18, 96, 96, 96, 0, 163840, 0, 163840, 0, 384, 768, 768, 0, 384, 384, 3072, 384, 18, 0, 18, 18, 18, 18, 18, 96, 96, 96, 0, 163840, 0, 163840, 0, 384, 768, 768, 5, 0, 54, 54, 54, 54, 54, 768, 768, 768, 0, 48, 48, 48, 48, 48, 384, 384, 384, 0, 80, 80, 80, 80, 80, 768, 768, 768, 5, 0, 54, 54, 54, 54, 54, 768, 768, 768, 0, 48, 48, 48, 48, 48, 384, 384, 384, 0, 80, 80, 80, 80, 80, 768, 768, 768, 0, 5, 5, 0, 5, 5, 0, 163840, 0, 163840, 0, 163840, 384, 80, 5, 40960, 40960, 40960, 40960, 5, 20, 0, 0, 384, 384, 3072, 384, 18, 0, 18, 18, 18, 18, 18, 96, 96, 96, 0, 0, 0, 0, 0, 384, 768, 768, 5, 0, 54, 54, 54, 54, 54, 768, 768, 768, 0, 48, 48, 48, 48, 48, 384, 384, 384, 0, 80, 80, 80, 80, 80, 768, 768, 768, 0, 5, 5, 0, 163840, 0, 5, 0, 384, 384, 3072, 384, 18, 0, 18, 18, 18, 18, 18, 96, 96, 96, 0, 0, 0, 0, 0, 384, 768, 768, 5, 0, 54, 54, 54, 54, 54, 768, 768, 768, 0, 48, 48, 48, 48, 48, 384, 384, 384, 0, 80, 80, 80, 80, 80, 768, 768, 768, 0, 384, 384, 3072, 384, 18, 0, 18, 18, 18, 18, 18, 96, 96, 96, 0, 0, 0, 0, 0, 384, 768, 768, 5, 0, 54, 54, 54, 54, 54, 768, 768, 768, 0, 48, 48, 48, 48, 48, 384, 384, 384, 0, 80, 80, 80, 80, 80, 768, 768, 768]
theorem pC_12 (n : Nat) : pC n ≤ 12 := by
  unfold pC
  repeat' split
  all_goals omega
theorem pS_65 {n : Nat} (h : n ≤ 65536) : pS n ≤ 163840 := by
  unfold pS
  repeat' split
  all_goals omega
theorem pS_16 {n : Nat} (h : n ≤ 16384) : pS n ≤ 40960 := by
  unfold pS
  repeat' split
  all_goals omega
theorem pS_20 {n : Nat} (h : n = 0 ∨ n = 2048) : pS n ≤ 3072 := by
  rcases h with rfl | rfl <;> decide
theorem pS_3 {n : Nat} (h : n = 3) : pS n ≤ 5 := by
  subst h
  decide
theorem kadd_le (b : Bool) {n : Int} (h : 0 ≤ n) : kadd b n ≤ n := by
  cases b
  · exact h
  · exact Int.le_refl _
theorem vs_12 : ∀ n : Nat, vs (fun _ => 12) n = 12 * n
  | 0 => rfl
  | n + 1 => by
    show vs (fun _ => 12) n + 12 = _
    rw [vs_12 n]
    omega
theorem PB {g : Nat → Bool} {σ : rS} {D N : Nat → Nat} {F : hF} {A : hA} (X : PHI g σ D N F A) : PCg g N ≤ 4660 ∧ PSg g N ≤ 4090536 := by
  obtain ⟨HX, HT, hg0, hPF, hAB, hNZ, hGI, hI0, hI1, hI2, hI3, hI4, hI5, hI6, hI7, hI8, hI9⟩ := X
  have k1 := kadd_le (g 1) (n := 8) (by decide)
  have c1 := kadd_le (g 1) (n := 8) (by decide)
  have s1 := kadd_le (g 1) (n := 24) (by decide)
  have c2 := kadd_le (g 2) (n := 3) (by decide)
  have s2 := kadd_le (g 2) (n := 18) (by decide)
  have c3 := kadd_le (g 3) (n := 3) (by decide)
  have s3 := kadd_le (g 3) (n := 14) (by decide)
  have c4 := kadd_le (g 4) (n := 28) (by decide)
  have s4 := kadd_le (g 4) (n := 1112) (by decide)
  have c5 := kadd_le (g 5) (n := 125) (by decide)
  have s5 := kadd_le (g 5) (n := 18162) (by decide)
  have c6 := kadd_le (g 6) (n := 59) (by decide)
  have s6 := kadd_le (g 6) (n := 8932) (by decide)
  have c7 := kadd_le (g 7) (n := 51) (by decide)
  have s7 := kadd_le (g 7) (n := 8890) (by decide)
  have c8 := kadd_le (g 8) (n := 51) (by decide)
  have s8 := kadd_le (g 8) (n := 8890) (by decide)
  have a := vs_le (f := fun x => pC (N x)) (h := fun _ => 12) (n := VPH.length) (fun x _ => pC_12 _)
  rw [vs_12, show VPH.length = 361 by decide +kernel] at a
  have b := vs_le (f := fun x => pS (N x)) (h := fun x => bSl.getD x 0) (n := VPH.length) (fun x hx => ?_)
  · rw [show vs (fun x => bSl.getD x 0) VPH.length = 4044494 by decide +kernel] at b
    unfold PCg PSg KC KS
    rw [show VPH.length = 361 by decide +kernel] at *
    constructor <;> omega
  have nn := of_decide_eq_true (List.all_eq_true.mp (show (List.range VPH.length).all (fun x => decide (0 ≤ bSl.getD x 0)) = true by decide +kernel) x (List.mem_range.mpr hx))
  cases hs : SPH g x with
  | false =>
    show pS (N x) ≤ _
    rw [(hNZ x hx).1 hs]
    exact nn
  | true =>
    by_cases h0 : FXT.getD x 0 = 0
    · have w := List.all_eq_true.mp (show (List.range VPH.length).all (fun x => !(Nat.beq (FXT.getD x 0) 0) || ([3, 5, 7, 9, 12, 15, 21, 26, 28, 35, 36, 37, 38, 39, 40, 43, 46, 93, 95, 116, 118, 186, 188, 190, 193, 194, 195, 196, 197, 256] : List Nat).any (fun y => Nat.beq y x)) = true by decide +kernel) x (List.mem_range.mpr hx)
      rw [h0] at w
      have w : ([3, 5, 7, 9, 12, 15, 21, 26, 28, 35, 36, 37, 38, 39, 40, 43, 46, 93, 95, 116, 118, 186, 188, 190, 193, 194, 195, 196, 197, 256] : List Nat).any (fun y => Nat.beq y x) = true := w
      obtain ⟨y, y1, y2⟩ := List.any_eq_true.mp w
      have y2 := Nat.eq_of_beq_eq_true y2
      subst y2
      clear w nn h0 hx a
      simp only [List.mem_cons, List.not_mem_nil, or_false] at y1
      rcases y1 with rfl | rfl | rfl | rfl | rfl | rfl | rfl | rfl | rfl | rfl | rfl | rfl | rfl | rfl | rfl | rfl | rfl | rfl | rfl | rfl | rfl | rfl | rfl | rfl | rfl | rfl | rfl | rfl | rfl | rfl
      · have w := hI0
        unfold INV0 at w
        have w : QF0_0 D N F A := w.1
        exact pS_65 (by unfold QF0_0 at w; omega)
      · have w := hI0
        unfold INV0 at w
        have w : QF0_1 D N F A := w.2.1
        exact pS_65 (by unfold QF0_1 at w; omega)
      · have w := hI0
        unfold INV0 at w
        have w : QF0_2 D N F A := w.2.2.1
        exact pS_65 (by unfold QF0_2 at w; omega)
      · have w := hI0
        unfold INV0 at w
        have w : QF0_3 D N F A := w.2.2.2.1
        exact pS_65 (by unfold QF0_3 at w; omega)
      · have w := hI0
        unfold INV0 at w
        have w : QF0_4 D N F A := w.2.2.2.2.1
        exact pS_65 (by unfold QF0_4 at w; omega)
      · have w := hI0
        unfold INV0 at w
        have w : QF0_7 D N F A := w.2.2.2.2.2.2.2.1
        exact pS_65 (by unfold QF0_7 at w; omega)
      · have w := hI0
        unfold INV0 at w
        have w : QF0_8 D N F A := w.2.2.2.2.2.2.2.2.1
        exact pS_65 (by unfold QF0_8 at w; omega)
      · have w := hI0
        unfold INV0 at w
        have w : QF0_5 D N F A := w.2.2.2.2.2.1
        exact pS_65 (by unfold QF0_5 at w; omega)
      · have w := hI0
        unfold INV0 at w
        have w : QF0_6 D N F A := w.2.2.2.2.2.2.1
        exact pS_65 (by unfold QF0_6 at w; omega)
      · have w := (hI1 hs)
        unfold INV1 at w
        have w : QF1_0 D N F A := w.1
        exact pS_65 (by unfold QF1_0 at w; omega)
      · have w := (hI1 hs)
        unfold INV1 at w
        have w : QF1_3 D N F A := w.2.2.2
        exact pS_65 (by unfold QF1_3 at w; omega)
      · have w := (hI1 hs)
        unfold INV1 at w
        have w : QF1_3 D N F A := w.2.2.2
        exact pS_65 (by unfold QF1_3 at w; omega)
      · have w := (hI1 hs)
        unfold INV1 at w
        have w : QF1_3 D N F A := w.2.2.2
        exact pS_65 (by unfold QF1_3 at w; omega)
      · have w := (hI1 hs)
        unfold INV1 at w
        have w : QF1_1 D N F A := w.2.1
        exact pS_20 (by unfold QF1_1 at w; omega)
      · have w := (hI1 hs)
        unfold INV1 at w
        have w : QF1_2 D N F A := w.2.2.1
        exact pS_16 (by unfold QF1_2 at w; omega)
      · have w := (hI2 hs)
        unfold INV2 at w
        have w : QF2_0 D N F A := w
        exact pS_65 (by unfold QF2_0 at w; omega)
      · have w := (hI3 hs)
        unfold INV3 at w
        have w : QF3_0 D N F A := w
        exact pS_65 (by unfold QF3_0 at w; omega)
      · have w := (hI5 hs)
        unfold INV5 at w
        have w : QF5_7 D N F A := w.2.2.2.2.2.2.2.1
        exact pS_65 (by unfold QF5_7 at w; omega)
      · have w := (hI5 hs)
        unfold INV5 at w
        have w : QF5_8 D N F A := w.2.2.2.2.2.2.2.2.1
        exact pS_65 (by unfold QF5_8 at w; omega)
      · have w := (hI5 hs)
        unfold INV5 at w
        have w : QF5_12 D N F A := w.2.2.2.2.2.2.2.2.2.2.2.2.1
        exact pS_65 (by unfold QF5_12 at w; omega)
      · have w := (hI5 hs)
        unfold INV5 at w
        have w : QF5_13 D N F A := w.2.2.2.2.2.2.2.2.2.2.2.2.2.1
        exact pS_65 (by unfold QF5_13 at w; omega)
      · have w := (hI5 hs)
        unfold INV5 at w
        have w : QF5_0 D N F A := w.1
        exact pS_65 (by unfold QF5_0 at w; omega)
      · have w := (hI5 hs)
        unfold INV5 at w
        have w : QF5_1 D N F A := w.2.1
        exact pS_65 (by unfold QF5_1 at w; omega)
      · have w := (hI5 hs)
        unfold INV5 at w
        have w : QF5_2 D N F A := w.2.2.1
        exact pS_65 (by unfold QF5_2 at w; omega)
      · have w := (hI5 hs)
        unfold INV5 at w
        have w : QF5_4 D N F A := w.2.2.2.2.1
        exact pS_3 (by unfold QF5_4 at w; omega)
      · have w := (hI5 hs)
        unfold INV5 at w
        have w : QF5_4 D N F A := w.2.2.2.2.1
        exact pS_16 (by unfold QF5_4 at w; omega)
      · have w := (hI5 hs)
        unfold INV5 at w
        have w : QF5_4 D N F A := w.2.2.2.2.1
        exact pS_16 (by unfold QF5_4 at w; omega)
      · have w := (hI5 hs)
        unfold INV5 at w
        have w : QF5_4 D N F A := w.2.2.2.2.1
        exact pS_16 (by unfold QF5_4 at w; omega)
      · have w := (hI5 hs)
        unfold INV5 at w
        have w : QF5_4 D N F A := w.2.2.2.2.1
        exact pS_16 (by unfold QF5_4 at w; omega)
      · have w := (hI6 hs)
        unfold INV6 at w
        have w : QF6_1 D N F A := w.2.1
        exact pS_65 (by unfold QF6_1 at w; omega)
    · have w := (hNZ x hx).2 hs h0
      have u := List.all_eq_true.mp (show (List.range VPH.length).all (fun x => Nat.beq (FXT.getD x 0) 0 || decide (pS (FXT.getD x 0 - 1) ≤ bSl.getD x 0)) = true by decide +kernel) x (List.mem_range.mpr hx)
      rw [beqf h0, Bool.false_or] at u
      have u := of_decide_eq_true u
      rw [← w, Nat.add_sub_cancel] at u
      exact u
