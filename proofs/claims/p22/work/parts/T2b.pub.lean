/-! public methods over the state -/
def ι_feed : List Nat := [0, 1, 2, 3, 4, 5, 6, 7, 8, 9]
theorem vs_feed : VS VPH V1 ι_feed := VS_of (by decide +kernel)
set_option maxRecDepth 20000 in
theorem T_feed {g : Nat → Bool} {σ : rS} {D N : Nat → Nat} {F : hF} {A : hA} {d c s : Nat} {Q : wQ} (X : PHI g σ D N F A)  {a1 a2 a3 a4 a5 : Int}  (h0 : inr a1) (h1 : inr a2) (h2 : inr a3) (h3 : inr a4) (h4 : inr a5)  (k : ∀ (z : Int) (σₚ : rS) (Dₚ Nₚ : Nat → Nat) (Fₚ : hF) (Aₚ : hA) (cₚ sₚ : Nat), PHI g σₚ Dₚ Nₚ Fₚ Aₚ → STP g σ D N A c s g σₚ Dₚ Nₚ Aₚ cₚ sₚ → (z = 0 ∨ z = 1) → Q (some (I z)) σₚ cₚ sₚ) : Ew 1 (d + 4) 0 (rargs 0 [.ref (D 0), I a1, I a2, I a3, I a4, I a5]) [] σ c s Q := by
  obtain ⟨HX, HT, hg0, hPF, hAB, hNZ, hGI, hI0, hI1, hI2, hI3, hI4, hI5, hI6, hI7, hI8, hI9⟩ := X
  have hset := SETI_f hI0.2.2.2.2.2.2.2.2.2.2.2.2.2.2.2.2.2
  have hJ0 := hI0
  unfold INV0 at hJ0
  obtain ⟨f0_0, f0_1, f0_2, f0_3, f0_4, f0_5, f0_6, f0_7, f0_8, f0_9, f0_10, f0_11, f0_12, f0_13, f0_14, f0_15, f0_16, f0_17⟩ := hJ0
  have hp : ∀ x, x < (V1).length → SPH g (ι_feed.getD x 0) = true := SPH_of (gs := [0]) (by intro j hj; simp at hj; subst hj; exact hg0) rfl (by decide +kernel)
  refine C1 (D := pul ι_feed D) (N := pul ι_feed N) (F := pul ι_feed F) (A := pul ι_feed A) (HWs_sub HX vs_feed hp) (show F 0 0 = (D 1 : Int) from hPF (0, 0, 0, 1) (List.mem_of_getElem? (i := 0) rfl) hg0 hg0) (show A 1 0 = (D 2 : Int) from hPF (1, 1, 0, 2) (List.mem_of_getElem? (i := 1) rfl) hg0 hg0) (show F 2 0 = (D 3 : Int) from hPF (0, 2, 0, 3) (List.mem_of_getElem? (i := 2) rfl) hg0 hg0) (show A 1 1 = (D 4 : Int) from hPF (1, 1, 1, 4) (List.mem_of_getElem? (i := 3) rfl) hg0 hg0) (show F 4 0 = (D 5 : Int) from hPF (0, 4, 0, 5) (List.mem_of_getElem? (i := 4) rfl) hg0 hg0) (show A 1 2 = (D 6 : Int) from hPF (1, 1, 2, 6) (List.mem_of_getElem? (i := 5) rfl) hg0 hg0) (show F 6 0 = (D 7 : Int) from hPF (0, 6, 0, 7) (List.mem_of_getElem? (i := 6) rfl) hg0 hg0) (show A 1 3 = (D 8 : Int) from hPF (1, 1, 3, 8) (List.mem_of_getElem? (i := 7) rfl) hg0 hg0) (show F 8 0 = (D 9 : Int) from hPF (0, 8, 0, 9) (List.mem_of_getElem? (i := 8) rfl) hg0 hg0) (N 1 : Int) rfl (N 3 : Int) rfl (N 5 : Int) rfl (N 7 : Int) rfl (N 9 : Int) rfl (F 2 1) rfl (F 4 1) rfl (F 6 1) rfl (F 8 1) rfl   (show inr (a1) by first | assumption | omega) (show inr (a2) by first | assumption | omega) (show inr (a3) by first | assumption | omega) (show inr (a4) by first | assumption | omega) (show inr (a5) by first | assumption | omega) (show ((N 1 : Int)) = 4 by first | assumption | omega) (show 0 ≤ (F 2 1) ∧ (F 2 1) ≤ ((N 3 : Int)) ∧ ((N 3 : Int)) ≤ 65536 by first | assumption | omega) (show 0 ≤ (F 4 1) ∧ (F 4 1) ≤ ((N 5 : Int)) ∧ ((N 5 : Int)) ≤ 65536 by first | assumption | omega) (show 0 ≤ (F 6 1) ∧ (F 6 1) ≤ ((N 7 : Int)) ∧ ((N 7 : Int)) ≤ 65536 by first | assumption | omega) (show 0 ≤ (F 8 1) ∧ (F 8 1) ≤ ((N 9 : Int)) ∧ ((N 9 : Int)) ≤ 65536 by first | assumption | omega) (fun z σₚ Dₚ Nₚ Fₚ Aₚ cₚ sₚ Hₚ O sd sn sf sa pm3 pm5 pm7 pm9 m3 em3 m5 em5 m7 em7 m9 em9 y2_1 ey2_1 y4_1 ey4_1 y6_1 ey6_1 y8_1 ey8_1 q0 q1 q2 q3 q4 => ?_)
  · skip
    subst em3 em5 em7 em9 ey2_1 ey4_1 ey6_1 ey8_1
    refine k z _ (glu ι_feed D Dₚ) (glu ι_feed N Nₚ) (glu ι_feed F Fₚ) (glu ι_feed A Aₚ) _ _ ⟨HWs_call HX VPH_3 vs_feed hp Hₚ O, STC_call HT HX vs_feed hp O, hg0, PFI_glue (dl := [3, 5, 7, 9]) hPF sf sa sd (by decide +kernel) (rexc_of (l := [(0, 2, 0, 3), (0, 4, 0, 5), (0, 6, 0, 7), (0, 8, 0, 9)]) (by decide +kernel) ?_), ABS_glue hAB sf (by decide +kernel), NZ_glue hNZ vs_feed hp sn (by decide +kernel), hGI, ?_, ?_, ?_, ?_, ?_, ?_, ?_, ?_, ?_, ?_⟩ ⟨(STP0_call (STY_call vs_feed hp O) (sd 0 rfl) (RM_call vs_feed O)), unt1_of (x := 10) (by decide +kernel) (fun p hp => funext (sa p hp))⟩ (show z = 0 ∨ z = 1 by first | assumption | omega)
    · intro e he h1 h2
      simp only [List.mem_cons, List.not_mem_nil, or_false] at he
      rcases he with rfl | rfl | rfl | rfl
      · exact pm3
      · exact pm5
      · exact pm7
      · exact pm9
    · skip
      exact ⟨show 0 ≤ (Fₚ 2 1) ∧ (Fₚ 2 1) ≤ ((Nₚ 3 : Int)) ∧ ((Nₚ 3 : Int)) ≤ 65536 from (by first | assumption | omega), show 0 ≤ (Fₚ 4 1) ∧ (Fₚ 4 1) ≤ ((Nₚ 5 : Int)) ∧ ((Nₚ 5 : Int)) ≤ 65536 from (by first | assumption | omega), show 0 ≤ (Fₚ 6 1) ∧ (Fₚ 6 1) ≤ ((Nₚ 7 : Int)) ∧ ((Nₚ 7 : Int)) ≤ 65536 from (by first | assumption | omega), show 0 ≤ (Fₚ 8 1) ∧ (Fₚ 8 1) ≤ ((Nₚ 9 : Int)) ∧ ((Nₚ 9 : Int)) ≤ 65536 from (by first | assumption | omega), QF0_4_eq (EQD_glue sf sa sd sn (by decide +kernel)) f0_4, QF0_5_eq (EQD_glue sf sa sd sn (by decide +kernel)) f0_5, QF0_6_eq (EQD_glue sf sa sd sn (by decide +kernel)) f0_6, QF0_7_eq (EQD_glue sf sa sd sn (by decide +kernel)) f0_7, QF0_8_eq (EQD_glue sf sa sd sn (by decide +kernel)) f0_8, QF0_9_eq (EQD_glue sf sa sd sn (by decide +kernel)) f0_9, QF0_10_eq (EQD_glue sf sa sd sn (by decide +kernel)) f0_10, QF0_11_eq (EQD_glue sf sa sd sn (by decide +kernel)) f0_11, QF0_12_eq (EQD_glue sf sa sd sn (by decide +kernel)) f0_12, QF0_13_eq (EQD_glue sf sa sd sn (by decide +kernel)) f0_13, QF0_14_eq (EQD_glue sf sa sd sn (by decide +kernel)) f0_14, QF0_15_eq (EQD_glue sf sa sd sn (by decide +kernel)) f0_15, QF0_16_eq (EQD_glue sf sa sd sn (by decide +kernel)) f0_16, QF0_17_eq (EQD_glue sf sa sd sn (by decide +kernel)) f0_17⟩
    · exact fun h => INV1_eq (EQD_glue sf sa sd sn (by decide +kernel)) (hI1 h)
    · exact fun h => INV2_eq (EQD_glue sf sa sd sn (by decide +kernel)) (hI2 h)
    · exact fun h => INV3_eq (EQD_glue sf sa sd sn (by decide +kernel)) (hI3 h)
    · exact fun h => INV4_eq (EQD_glue sf sa sd sn (by decide +kernel)) (hI4 h)
    · exact fun h => INV5_eq (EQD_glue sf sa sd sn (by decide +kernel)) (hI5 h)
    · exact fun h => INV6_eq (EQD_glue sf sa sd sn (by decide +kernel)) (hI6 h)
    · exact fun h => INV7_eq (EQD_glue sf sa sd sn (by decide +kernel)) (hI7 h)
    · exact fun h => INV8_eq (EQD_glue sf sa sd sn (by decide +kernel)) (hI8 h)
    · exact fun h => INV9_eq (EQD_glue sf sa sd sn (by decide +kernel)) (hI9 h)
def ι_give : List Nat := [0, 1, 2, 3, 4, 5, 6, 7, 8, 9]
theorem vs_give : VS VPH V2 ι_give := VS_of (by decide +kernel)
set_option maxRecDepth 20000 in
theorem T_give {g : Nat → Bool} {σ : rS} {D N : Nat → Nat} {F : hF} {A : hA} {d c s : Nat} {Q : wQ} (X : PHI g σ D N F A)  {a1 a2 a3 : Int}  (h0 : inr a1) (h1 : inr a2) (h2 : inrJ a3)  (k : ∀ (z : Int) (σₚ : rS) (Dₚ Nₚ : Nat → Nat) (Fₚ : hF) (Aₚ : hA) (cₚ sₚ : Nat), PHI g σₚ Dₚ Nₚ Fₚ Aₚ → STP g σ D N A c s g σₚ Dₚ Nₚ Aₚ cₚ sₚ → (z = 0 ∨ z = 1) → Q (some (I z)) σₚ cₚ sₚ) : Ew 2 (d + 4) 0 (rargs 0 [.ref (D 0), I a1, I a2, J a3]) [] σ c s Q := by
  obtain ⟨HX, HT, hg0, hPF, hAB, hNZ, hGI, hI0, hI1, hI2, hI3, hI4, hI5, hI6, hI7, hI8, hI9⟩ := X
  have hset := SETI_f hI0.2.2.2.2.2.2.2.2.2.2.2.2.2.2.2.2.2
  have hJ0 := hI0
  unfold INV0 at hJ0
  obtain ⟨f0_0, f0_1, f0_2, f0_3, f0_4, f0_5, f0_6, f0_7, f0_8, f0_9, f0_10, f0_11, f0_12, f0_13, f0_14, f0_15, f0_16, f0_17⟩ := hJ0
  have hp : ∀ x, x < (V2).length → SPH g (ι_give.getD x 0) = true := SPH_of (gs := [0]) (by intro j hj; simp at hj; subst hj; exact hg0) rfl (by decide +kernel)
  refine C2 (D := pul ι_give D) (N := pul ι_give N) (F := pul ι_give F) (A := pul ι_give A) (HWs_sub HX vs_give hp) (show F 0 0 = (D 1 : Int) from hPF (0, 0, 0, 1) (List.mem_of_getElem? (i := 0) rfl) hg0 hg0) (show A 1 0 = (D 2 : Int) from hPF (1, 1, 0, 2) (List.mem_of_getElem? (i := 1) rfl) hg0 hg0) (show F 2 0 = (D 3 : Int) from hPF (0, 2, 0, 3) (List.mem_of_getElem? (i := 2) rfl) hg0 hg0) (show A 1 1 = (D 4 : Int) from hPF (1, 1, 1, 4) (List.mem_of_getElem? (i := 3) rfl) hg0 hg0) (show F 4 0 = (D 5 : Int) from hPF (0, 4, 0, 5) (List.mem_of_getElem? (i := 4) rfl) hg0 hg0) (show A 1 2 = (D 6 : Int) from hPF (1, 1, 2, 6) (List.mem_of_getElem? (i := 5) rfl) hg0 hg0) (show F 6 0 = (D 7 : Int) from hPF (0, 6, 0, 7) (List.mem_of_getElem? (i := 6) rfl) hg0 hg0) (show A 1 3 = (D 8 : Int) from hPF (1, 1, 3, 8) (List.mem_of_getElem? (i := 7) rfl) hg0 hg0) (show F 8 0 = (D 9 : Int) from hPF (0, 8, 0, 9) (List.mem_of_getElem? (i := 8) rfl) hg0 hg0) (N 1 : Int) rfl (N 3 : Int) rfl (N 5 : Int) rfl (N 7 : Int) rfl (N 9 : Int) rfl (F 2 1) rfl (F 4 1) rfl (F 6 1) rfl (F 8 1) rfl   (show inr (a1) by first | assumption | omega) (show inr (a2) by first | assumption | omega) (show inrJ (a3) by first | assumption | omega) (show ((N 1 : Int)) = 4 by first | assumption | omega) (show 0 ≤ (F 2 1) ∧ (F 2 1) ≤ ((N 3 : Int)) ∧ ((N 3 : Int)) ≤ 65536 by first | assumption | omega) (show 0 ≤ (F 4 1) ∧ (F 4 1) ≤ ((N 5 : Int)) ∧ ((N 5 : Int)) ≤ 65536 by first | assumption | omega) (show 0 ≤ (F 6 1) ∧ (F 6 1) ≤ ((N 7 : Int)) ∧ ((N 7 : Int)) ≤ 65536 by first | assumption | omega) (show 0 ≤ (F 8 1) ∧ (F 8 1) ≤ ((N 9 : Int)) ∧ ((N 9 : Int)) ≤ 65536 by first | assumption | omega) (fun z σₚ Dₚ Nₚ Fₚ Aₚ cₚ sₚ Hₚ O sd sn sf sa pm3 pm5 pm7 pm9 m3 em3 m5 em5 m7 em7 m9 em9 y2_1 ey2_1 y4_1 ey4_1 y6_1 ey6_1 y8_1 ey8_1 q0 q1 q2 q3 q4 => ?_)
  · skip
    subst em3 em5 em7 em9 ey2_1 ey4_1 ey6_1 ey8_1
    refine k z _ (glu ι_give D Dₚ) (glu ι_give N Nₚ) (glu ι_give F Fₚ) (glu ι_give A Aₚ) _ _ ⟨HWs_call HX VPH_3 vs_give hp Hₚ O, STC_call HT HX vs_give hp O, hg0, PFI_glue (dl := [3, 5, 7, 9]) hPF sf sa sd (by decide +kernel) (rexc_of (l := [(0, 2, 0, 3), (0, 4, 0, 5), (0, 6, 0, 7), (0, 8, 0, 9)]) (by decide +kernel) ?_), ABS_glue hAB sf (by decide +kernel), NZ_glue hNZ vs_give hp sn (by decide +kernel), hGI, ?_, ?_, ?_, ?_, ?_, ?_, ?_, ?_, ?_, ?_⟩ ⟨(STP0_call (STY_call vs_give hp O) (sd 0 rfl) (RM_call vs_give O)), unt1_of (x := 10) (by decide +kernel) (fun p hp => funext (sa p hp))⟩ (show z = 0 ∨ z = 1 by first | assumption | omega)
    · intro e he h1 h2
      simp only [List.mem_cons, List.not_mem_nil, or_false] at he
      rcases he with rfl | rfl | rfl | rfl
      · exact pm3
      · exact pm5
      · exact pm7
      · exact pm9
    · skip
      exact ⟨show 0 ≤ (Fₚ 2 1) ∧ (Fₚ 2 1) ≤ ((Nₚ 3 : Int)) ∧ ((Nₚ 3 : Int)) ≤ 65536 from (by first | assumption | omega), show 0 ≤ (Fₚ 4 1) ∧ (Fₚ 4 1) ≤ ((Nₚ 5 : Int)) ∧ ((Nₚ 5 : Int)) ≤ 65536 from (by first | assumption | omega), show 0 ≤ (Fₚ 6 1) ∧ (Fₚ 6 1) ≤ ((Nₚ 7 : Int)) ∧ ((Nₚ 7 : Int)) ≤ 65536 from (by first | assumption | omega), show 0 ≤ (Fₚ 8 1) ∧ (Fₚ 8 1) ≤ ((Nₚ 9 : Int)) ∧ ((Nₚ 9 : Int)) ≤ 65536 from (by first | assumption | omega), QF0_4_eq (EQD_glue sf sa sd sn (by decide +kernel)) f0_4, QF0_5_eq (EQD_glue sf sa sd sn (by decide +kernel)) f0_5, QF0_6_eq (EQD_glue sf sa sd sn (by decide +kernel)) f0_6, QF0_7_eq (EQD_glue sf sa sd sn (by decide +kernel)) f0_7, QF0_8_eq (EQD_glue sf sa sd sn (by decide +kernel)) f0_8, QF0_9_eq (EQD_glue sf sa sd sn (by decide +kernel)) f0_9, QF0_10_eq (EQD_glue sf sa sd sn (by decide +kernel)) f0_10, QF0_11_eq (EQD_glue sf sa sd sn (by decide +kernel)) f0_11, QF0_12_eq (EQD_glue sf sa sd sn (by decide +kernel)) f0_12, QF0_13_eq (EQD_glue sf sa sd sn (by decide +kernel)) f0_13, QF0_14_eq (EQD_glue sf sa sd sn (by decide +kernel)) f0_14, QF0_15_eq (EQD_glue sf sa sd sn (by decide +kernel)) f0_15, QF0_16_eq (EQD_glue sf sa sd sn (by decide +kernel)) f0_16, QF0_17_eq (EQD_glue sf sa sd sn (by decide +kernel)) f0_17⟩
    · exact fun h => INV1_eq (EQD_glue sf sa sd sn (by decide +kernel)) (hI1 h)
    · exact fun h => INV2_eq (EQD_glue sf sa sd sn (by decide +kernel)) (hI2 h)
    · exact fun h => INV3_eq (EQD_glue sf sa sd sn (by decide +kernel)) (hI3 h)
    · exact fun h => INV4_eq (EQD_glue sf sa sd sn (by decide +kernel)) (hI4 h)
    · exact fun h => INV5_eq (EQD_glue sf sa sd sn (by decide +kernel)) (hI5 h)
    · exact fun h => INV6_eq (EQD_glue sf sa sd sn (by decide +kernel)) (hI6 h)
    · exact fun h => INV7_eq (EQD_glue sf sa sd sn (by decide +kernel)) (hI7 h)
    · exact fun h => INV8_eq (EQD_glue sf sa sd sn (by decide +kernel)) (hI8 h)
    · exact fun h => INV9_eq (EQD_glue sf sa sd sn (by decide +kernel)) (hI9 h)
def ι_again : List Nat := [0, 1, 2, 3, 4, 5, 6, 7, 8, 9]
theorem vs_again : VS VPH V3 ι_again := VS_of (by decide +kernel)
set_option maxRecDepth 20000 in
theorem T_again {g : Nat → Bool} {σ : rS} {D N : Nat → Nat} {F : hF} {A : hA} {d c s : Nat} {Q : wQ} (X : PHI g σ D N F A)  {a1 a2 a3 : Int}  (h0 : inr a1) (h1 : inr a2) (h2 : inr a3)  (k : ∀ (z : Int) (σₚ : rS) (Dₚ Nₚ : Nat → Nat) (Fₚ : hF) (Aₚ : hA) (cₚ sₚ : Nat), PHI g σₚ Dₚ Nₚ Fₚ Aₚ → STP g σ D N A c s g σₚ Dₚ Nₚ Aₚ cₚ sₚ → (z = 0 ∨ z = 1) → Q (some (I z)) σₚ cₚ sₚ) : Ew 3 (d + 3) 0 (rargs 0 [.ref (D 0), I a1, I a2, I a3]) [] σ c s Q := by
  obtain ⟨HX, HT, hg0, hPF, hAB, hNZ, hGI, hI0, hI1, hI2, hI3, hI4, hI5, hI6, hI7, hI8, hI9⟩ := X
  have hset := SETI_f hI0.2.2.2.2.2.2.2.2.2.2.2.2.2.2.2.2.2
  have hJ0 := hI0
  unfold INV0 at hJ0
  obtain ⟨f0_0, f0_1, f0_2, f0_3, f0_4, f0_5, f0_6, f0_7, f0_8, f0_9, f0_10, f0_11, f0_12, f0_13, f0_14, f0_15, f0_16, f0_17⟩ := hJ0
  have hp : ∀ x, x < (V3).length → SPH g (ι_again.getD x 0) = true := SPH_of (gs := [0]) (by intro j hj; simp at hj; subst hj; exact hg0) rfl (by decide +kernel)
  refine C3 (D := pul ι_again D) (N := pul ι_again N) (F := pul ι_again F) (A := pul ι_again A) (HWs_sub HX vs_again hp) (show F 0 0 = (D 1 : Int) from hPF (0, 0, 0, 1) (List.mem_of_getElem? (i := 0) rfl) hg0 hg0) (show A 1 0 = (D 2 : Int) from hPF (1, 1, 0, 2) (List.mem_of_getElem? (i := 1) rfl) hg0 hg0) (show F 2 0 = (D 3 : Int) from hPF (0, 2, 0, 3) (List.mem_of_getElem? (i := 2) rfl) hg0 hg0) (show A 1 1 = (D 4 : Int) from hPF (1, 1, 1, 4) (List.mem_of_getElem? (i := 3) rfl) hg0 hg0) (show F 4 0 = (D 5 : Int) from hPF (0, 4, 0, 5) (List.mem_of_getElem? (i := 4) rfl) hg0 hg0) (show A 1 2 = (D 6 : Int) from hPF (1, 1, 2, 6) (List.mem_of_getElem? (i := 5) rfl) hg0 hg0) (show F 6 0 = (D 7 : Int) from hPF (0, 6, 0, 7) (List.mem_of_getElem? (i := 6) rfl) hg0 hg0) (show A 1 3 = (D 8 : Int) from hPF (1, 1, 3, 8) (List.mem_of_getElem? (i := 7) rfl) hg0 hg0) (show F 8 0 = (D 9 : Int) from hPF (0, 8, 0, 9) (List.mem_of_getElem? (i := 8) rfl) hg0 hg0) (N 1 : Int) rfl (N 3 : Int) rfl (N 5 : Int) rfl (N 7 : Int) rfl (N 9 : Int) rfl (F 2 1) rfl (F 4 1) rfl (F 6 1) rfl (F 8 1) rfl   (show inr (a1) by first | assumption | omega) (show inr (a2) by first | assumption | omega) (show inr (a3) by first | assumption | omega) (show ((N 1 : Int)) = 4 by first | assumption | omega) (show 0 ≤ (F 2 1) ∧ (F 2 1) ≤ ((N 3 : Int)) ∧ ((N 3 : Int)) ≤ 65536 by first | assumption | omega) (show 0 ≤ (F 4 1) ∧ (F 4 1) ≤ ((N 5 : Int)) ∧ ((N 5 : Int)) ≤ 65536 by first | assumption | omega) (show 0 ≤ (F 6 1) ∧ (F 6 1) ≤ ((N 7 : Int)) ∧ ((N 7 : Int)) ≤ 65536 by first | assumption | omega) (show 0 ≤ (F 8 1) ∧ (F 8 1) ≤ ((N 9 : Int)) ∧ ((N 9 : Int)) ≤ 65536 by first | assumption | omega) (fun z σₚ Dₚ Nₚ Fₚ Aₚ cₚ sₚ Hₚ O sd sn sf sa pm3 pm5 pm7 pm9 m3 em3 m5 em5 m7 em7 m9 em9 y2_1 ey2_1 y4_1 ey4_1 y6_1 ey6_1 y8_1 ey8_1 q0 q1 q2 q3 q4 => ?_)
  · skip
    subst em3 em5 em7 em9 ey2_1 ey4_1 ey6_1 ey8_1
    refine k z _ (glu ι_again D Dₚ) (glu ι_again N Nₚ) (glu ι_again F Fₚ) (glu ι_again A Aₚ) _ _ ⟨HWs_call HX VPH_3 vs_again hp Hₚ O, STC_call HT HX vs_again hp O, hg0, PFI_glue (dl := [3, 5, 7, 9]) hPF sf sa sd (by decide +kernel) (rexc_of (l := [(0, 2, 0, 3), (0, 4, 0, 5), (0, 6, 0, 7), (0, 8, 0, 9)]) (by decide +kernel) ?_), ABS_glue hAB sf (by decide +kernel), NZ_glue hNZ vs_again hp sn (by decide +kernel), hGI, ?_, ?_, ?_, ?_, ?_, ?_, ?_, ?_, ?_, ?_⟩ ⟨(STP0_call (STY_call vs_again hp O) (sd 0 rfl) (RM_call vs_again O)), unt1_of (x := 10) (by decide +kernel) (fun p hp => funext (sa p hp))⟩ (show z = 0 ∨ z = 1 by first | assumption | omega)
    · intro e he h1 h2
      simp only [List.mem_cons, List.not_mem_nil, or_false] at he
      rcases he with rfl | rfl | rfl | rfl
      · exact pm3
      · exact pm5
      · exact pm7
      · exact pm9
    · skip
      exact ⟨show 0 ≤ (Fₚ 2 1) ∧ (Fₚ 2 1) ≤ ((Nₚ 3 : Int)) ∧ ((Nₚ 3 : Int)) ≤ 65536 from (by first | assumption | omega), show 0 ≤ (Fₚ 4 1) ∧ (Fₚ 4 1) ≤ ((Nₚ 5 : Int)) ∧ ((Nₚ 5 : Int)) ≤ 65536 from (by first | assumption | omega), show 0 ≤ (Fₚ 6 1) ∧ (Fₚ 6 1) ≤ ((Nₚ 7 : Int)) ∧ ((Nₚ 7 : Int)) ≤ 65536 from (by first | assumption | omega), show 0 ≤ (Fₚ 8 1) ∧ (Fₚ 8 1) ≤ ((Nₚ 9 : Int)) ∧ ((Nₚ 9 : Int)) ≤ 65536 from (by first | assumption | omega), QF0_4_eq (EQD_glue sf sa sd sn (by decide +kernel)) f0_4, QF0_5_eq (EQD_glue sf sa sd sn (by decide +kernel)) f0_5, QF0_6_eq (EQD_glue sf sa sd sn (by decide +kernel)) f0_6, QF0_7_eq (EQD_glue sf sa sd sn (by decide +kernel)) f0_7, QF0_8_eq (EQD_glue sf sa sd sn (by decide +kernel)) f0_8, QF0_9_eq (EQD_glue sf sa sd sn (by decide +kernel)) f0_9, QF0_10_eq (EQD_glue sf sa sd sn (by decide +kernel)) f0_10, QF0_11_eq (EQD_glue sf sa sd sn (by decide +kernel)) f0_11, QF0_12_eq (EQD_glue sf sa sd sn (by decide +kernel)) f0_12, QF0_13_eq (EQD_glue sf sa sd sn (by decide +kernel)) f0_13, QF0_14_eq (EQD_glue sf sa sd sn (by decide +kernel)) f0_14, QF0_15_eq (EQD_glue sf sa sd sn (by decide +kernel)) f0_15, QF0_16_eq (EQD_glue sf sa sd sn (by decide +kernel)) f0_16, QF0_17_eq (EQD_glue sf sa sd sn (by decide +kernel)) f0_17⟩
    · exact fun h => INV1_eq (EQD_glue sf sa sd sn (by decide +kernel)) (hI1 h)
    · exact fun h => INV2_eq (EQD_glue sf sa sd sn (by decide +kernel)) (hI2 h)
    · exact fun h => INV3_eq (EQD_glue sf sa sd sn (by decide +kernel)) (hI3 h)
    · exact fun h => INV4_eq (EQD_glue sf sa sd sn (by decide +kernel)) (hI4 h)
    · exact fun h => INV5_eq (EQD_glue sf sa sd sn (by decide +kernel)) (hI5 h)
    · exact fun h => INV6_eq (EQD_glue sf sa sd sn (by decide +kernel)) (hI6 h)
    · exact fun h => INV7_eq (EQD_glue sf sa sd sn (by decide +kernel)) (hI7 h)
    · exact fun h => INV8_eq (EQD_glue sf sa sd sn (by decide +kernel)) (hI8 h)
    · exact fun h => INV9_eq (EQD_glue sf sa sd sn (by decide +kernel)) (hI9 h)
def ι_cut : List Nat := [0, 1, 2, 3, 4, 5, 6, 7, 8, 9]
theorem vs_cut : VS VPH V4 ι_cut := VS_of (by decide +kernel)
set_option maxRecDepth 20000 in
theorem T_cut {g : Nat → Bool} {σ : rS} {D N : Nat → Nat} {F : hF} {A : hA} {d c s : Nat} {Q : wQ} (X : PHI g σ D N F A)  {a1 a2 : Int}  (h0 : inr a1) (h1 : inr a2)  (k : ∀ (z : Int) (σₚ : rS) (Dₚ Nₚ : Nat → Nat) (Fₚ : hF) (Aₚ : hA) (cₚ sₚ : Nat), PHI g σₚ Dₚ Nₚ Fₚ Aₚ → STP g σ D N A c s g σₚ Dₚ Nₚ Aₚ cₚ sₚ → (z = 0 ∨ z = 1) → Q (some (I z)) σₚ cₚ sₚ) : Ew 4 (d + 1) 0 (rargs 0 [.ref (D 0), I a1, I a2]) [] σ c s Q := by
  obtain ⟨HX, HT, hg0, hPF, hAB, hNZ, hGI, hI0, hI1, hI2, hI3, hI4, hI5, hI6, hI7, hI8, hI9⟩ := X
  have hset := SETI_f hI0.2.2.2.2.2.2.2.2.2.2.2.2.2.2.2.2.2
  have hJ0 := hI0
  unfold INV0 at hJ0
  obtain ⟨f0_0, f0_1, f0_2, f0_3, f0_4, f0_5, f0_6, f0_7, f0_8, f0_9, f0_10, f0_11, f0_12, f0_13, f0_14, f0_15, f0_16, f0_17⟩ := hJ0
  have hp : ∀ x, x < (V4).length → SPH g (ι_cut.getD x 0) = true := SPH_of (gs := [0]) (by intro j hj; simp at hj; subst hj; exact hg0) rfl (by decide +kernel)
  refine C4 (D := pul ι_cut D) (N := pul ι_cut N) (F := pul ι_cut F) (A := pul ι_cut A) (HWs_sub HX vs_cut hp) (show F 0 0 = (D 1 : Int) from hPF (0, 0, 0, 1) (List.mem_of_getElem? (i := 0) rfl) hg0 hg0) (show A 1 0 = (D 2 : Int) from hPF (1, 1, 0, 2) (List.mem_of_getElem? (i := 1) rfl) hg0 hg0) (show F 2 0 = (D 3 : Int) from hPF (0, 2, 0, 3) (List.mem_of_getElem? (i := 2) rfl) hg0 hg0) (show A 1 1 = (D 4 : Int) from hPF (1, 1, 1, 4) (List.mem_of_getElem? (i := 3) rfl) hg0 hg0) (show F 4 0 = (D 5 : Int) from hPF (0, 4, 0, 5) (List.mem_of_getElem? (i := 4) rfl) hg0 hg0) (show A 1 2 = (D 6 : Int) from hPF (1, 1, 2, 6) (List.mem_of_getElem? (i := 5) rfl) hg0 hg0) (show F 6 0 = (D 7 : Int) from hPF (0, 6, 0, 7) (List.mem_of_getElem? (i := 6) rfl) hg0 hg0) (show A 1 3 = (D 8 : Int) from hPF (1, 1, 3, 8) (List.mem_of_getElem? (i := 7) rfl) hg0 hg0) (show F 8 0 = (D 9 : Int) from hPF (0, 8, 0, 9) (List.mem_of_getElem? (i := 8) rfl) hg0 hg0) (N 1 : Int) rfl (N 3 : Int) rfl (N 5 : Int) rfl (N 7 : Int) rfl (N 9 : Int) rfl (F 2 1) rfl (F 4 1) rfl (F 6 1) rfl (F 8 1) rfl   (show inr (a1) by first | assumption | omega) (show inr (a2) by first | assumption | omega) (show ((N 1 : Int)) = 4 by first | assumption | omega) (show 0 ≤ (F 2 1) ∧ (F 2 1) ≤ ((N 3 : Int)) ∧ ((N 3 : Int)) ≤ 65536 by first | assumption | omega) (show 0 ≤ (F 4 1) ∧ (F 4 1) ≤ ((N 5 : Int)) ∧ ((N 5 : Int)) ≤ 65536 by first | assumption | omega) (show 0 ≤ (F 6 1) ∧ (F 6 1) ≤ ((N 7 : Int)) ∧ ((N 7 : Int)) ≤ 65536 by first | assumption | omega) (show 0 ≤ (F 8 1) ∧ (F 8 1) ≤ ((N 9 : Int)) ∧ ((N 9 : Int)) ≤ 65536 by first | assumption | omega) (fun z σₚ Fₚ Aₚ Hₚ O sf sa y2_1 ey2_1 y4_1 ey4_1 y6_1 ey6_1 y8_1 ey8_1 q0 q1 q2 q3 q4 => ?_)
  · skip
    subst ey2_1 ey4_1 ey6_1 ey8_1
    have sd : SD [] (pul ι_cut D) (pul ι_cut D) := SD_refl
    have sn : SD [] (pul ι_cut N) (pul ι_cut N) := SD_refl
    refine k z _ (glu ι_cut D (pul ι_cut D)) (glu ι_cut N (pul ι_cut N)) (glu ι_cut F Fₚ) (glu ι_cut A Aₚ) _ _ ⟨HWs_call HX VPH_3 vs_cut hp Hₚ O, STC_call HT HX vs_cut hp O, hg0, PFI_glue (dl := []) hPF sf sa sd (by decide +kernel) (rexc_of (l := []) (by decide +kernel) ?_), ABS_glue hAB sf (by decide +kernel), NZ_glue hNZ vs_cut hp sn (by decide +kernel), hGI, ?_, ?_, ?_, ?_, ?_, ?_, ?_, ?_, ?_, ?_⟩ ⟨(STP0_call (STY_call vs_cut hp O) (sd 0 rfl) (RM_call vs_cut O)), unt1_of (x := 10) (by decide +kernel) (fun p hp => funext (sa p hp))⟩ (show z = 0 ∨ z = 1 by first | assumption | omega)
    · intro e he h1 h2
      cases he
    · skip
      exact ⟨show 0 ≤ (Fₚ 2 1) ∧ (Fₚ 2 1) ≤ ((N 3 : Int)) ∧ ((N 3 : Int)) ≤ 65536 from (by first | assumption | omega), show 0 ≤ (Fₚ 4 1) ∧ (Fₚ 4 1) ≤ ((N 5 : Int)) ∧ ((N 5 : Int)) ≤ 65536 from (by first | assumption | omega), show 0 ≤ (Fₚ 6 1) ∧ (Fₚ 6 1) ≤ ((N 7 : Int)) ∧ ((N 7 : Int)) ≤ 65536 from (by first | assumption | omega), show 0 ≤ (Fₚ 8 1) ∧ (Fₚ 8 1) ≤ ((N 9 : Int)) ∧ ((N 9 : Int)) ≤ 65536 from (by first | assumption | omega), QF0_4_eq (EQD_glue sf sa sd sn (by decide +kernel)) f0_4, QF0_5_eq (EQD_glue sf sa sd sn (by decide +kernel)) f0_5, QF0_6_eq (EQD_glue sf sa sd sn (by decide +kernel)) f0_6, QF0_7_eq (EQD_glue sf sa sd sn (by decide +kernel)) f0_7, QF0_8_eq (EQD_glue sf sa sd sn (by decide +kernel)) f0_8, QF0_9_eq (EQD_glue sf sa sd sn (by decide +kernel)) f0_9, QF0_10_eq (EQD_glue sf sa sd sn (by decide +kernel)) f0_10, QF0_11_eq (EQD_glue sf sa sd sn (by decide +kernel)) f0_11, QF0_12_eq (EQD_glue sf sa sd sn (by decide +kernel)) f0_12, QF0_13_eq (EQD_glue sf sa sd sn (by decide +kernel)) f0_13, QF0_14_eq (EQD_glue sf sa sd sn (by decide +kernel)) f0_14, QF0_15_eq (EQD_glue sf sa sd sn (by decide +kernel)) f0_15, QF0_16_eq (EQD_glue sf sa sd sn (by decide +kernel)) f0_16, QF0_17_eq (EQD_glue sf sa sd sn (by decide +kernel)) f0_17⟩
    · exact fun h => INV1_eq (EQD_glue sf sa sd sn (by decide +kernel)) (hI1 h)
    · exact fun h => INV2_eq (EQD_glue sf sa sd sn (by decide +kernel)) (hI2 h)
    · exact fun h => INV3_eq (EQD_glue sf sa sd sn (by decide +kernel)) (hI3 h)
    · exact fun h => INV4_eq (EQD_glue sf sa sd sn (by decide +kernel)) (hI4 h)
    · exact fun h => INV5_eq (EQD_glue sf sa sd sn (by decide +kernel)) (hI5 h)
    · exact fun h => INV6_eq (EQD_glue sf sa sd sn (by decide +kernel)) (hI6 h)
    · exact fun h => INV7_eq (EQD_glue sf sa sd sn (by decide +kernel)) (hI7 h)
    · exact fun h => INV8_eq (EQD_glue sf sa sd sn (by decide +kernel)) (hI8 h)
    · exact fun h => INV9_eq (EQD_glue sf sa sd sn (by decide +kernel)) (hI9 h)
def ι_size : List Nat := [0, 1, 2, 3, 4, 5, 6, 7, 8, 9]
theorem vs_size : VS VPH V6 ι_size := VS_of (by decide +kernel)
set_option maxRecDepth 20000 in
theorem T_size {g : Nat → Bool} {σ : rS} {D N : Nat → Nat} {F : hF} {A : hA} {d c s : Nat} {Q : wQ} (X : PHI g σ D N F A)  {a1 : Int}  (h0 : inr a1)  (k : ∀ (z : Int) (σₚ : rS) (Dₚ Nₚ : Nat → Nat) (Fₚ : hF) (Aₚ : hA) (cₚ sₚ : Nat), PHI g σₚ Dₚ Nₚ Fₚ Aₚ → STP g σ D N A c s g σₚ Dₚ Nₚ Aₚ cₚ sₚ → (inr z) → Q (some (I z)) σₚ cₚ sₚ) : Ew 6 (d + 1) 0 (rargs 0 [.ref (D 0), I a1]) [] σ c s Q := by
  obtain ⟨HX, HT, hg0, hPF, hAB, hNZ, hGI, hI0, hI1, hI2, hI3, hI4, hI5, hI6, hI7, hI8, hI9⟩ := X
  have hset := SETI_f hI0.2.2.2.2.2.2.2.2.2.2.2.2.2.2.2.2.2
  have hJ0 := hI0
  unfold INV0 at hJ0
  obtain ⟨f0_0, f0_1, f0_2, f0_3, f0_4, f0_5, f0_6, f0_7, f0_8, f0_9, f0_10, f0_11, f0_12, f0_13, f0_14, f0_15, f0_16, f0_17⟩ := hJ0
  have hp : ∀ x, x < (V6).length → SPH g (ι_size.getD x 0) = true := SPH_of (gs := [0]) (by intro j hj; simp at hj; subst hj; exact hg0) rfl (by decide +kernel)
  refine C6 (D := pul ι_size D) (N := pul ι_size N) (F := pul ι_size F) (A := pul ι_size A) (HWs_sub HX vs_size hp) (show F 0 0 = (D 1 : Int) from hPF (0, 0, 0, 1) (List.mem_of_getElem? (i := 0) rfl) hg0 hg0) (show A 1 0 = (D 2 : Int) from hPF (1, 1, 0, 2) (List.mem_of_getElem? (i := 1) rfl) hg0 hg0) (show F 2 0 = (D 3 : Int) from hPF (0, 2, 0, 3) (List.mem_of_getElem? (i := 2) rfl) hg0 hg0) (show A 1 1 = (D 4 : Int) from hPF (1, 1, 1, 4) (List.mem_of_getElem? (i := 3) rfl) hg0 hg0) (show F 4 0 = (D 5 : Int) from hPF (0, 4, 0, 5) (List.mem_of_getElem? (i := 4) rfl) hg0 hg0) (show A 1 2 = (D 6 : Int) from hPF (1, 1, 2, 6) (List.mem_of_getElem? (i := 5) rfl) hg0 hg0) (show F 6 0 = (D 7 : Int) from hPF (0, 6, 0, 7) (List.mem_of_getElem? (i := 6) rfl) hg0 hg0) (show A 1 3 = (D 8 : Int) from hPF (1, 1, 3, 8) (List.mem_of_getElem? (i := 7) rfl) hg0 hg0) (show F 8 0 = (D 9 : Int) from hPF (0, 8, 0, 9) (List.mem_of_getElem? (i := 8) rfl) hg0 hg0) (N 1 : Int) rfl (N 3 : Int) rfl (N 5 : Int) rfl (N 7 : Int) rfl (N 9 : Int) rfl (F 2 1) rfl (F 4 1) rfl (F 6 1) rfl (F 8 1) rfl   (show inr (a1) by first | assumption | omega) (show ((N 1 : Int)) = 4 by first | assumption | omega) (show 0 ≤ (F 2 1) ∧ (F 2 1) ≤ ((N 3 : Int)) ∧ ((N 3 : Int)) ≤ 65536 by first | assumption | omega) (show 0 ≤ (F 4 1) ∧ (F 4 1) ≤ ((N 5 : Int)) ∧ ((N 5 : Int)) ≤ 65536 by first | assumption | omega) (show 0 ≤ (F 6 1) ∧ (F 6 1) ≤ ((N 7 : Int)) ∧ ((N 7 : Int)) ≤ 65536 by first | assumption | omega) (show 0 ≤ (F 8 1) ∧ (F 8 1) ≤ ((N 9 : Int)) ∧ ((N 9 : Int)) ≤ 65536 by first | assumption | omega) (fun z σₚ Fₚ Aₚ Hₚ O sf sa q0 => ?_)
  · skip
    have sd : SD [] (pul ι_size D) (pul ι_size D) := SD_refl
    have sn : SD [] (pul ι_size N) (pul ι_size N) := SD_refl
    refine k z _ (glu ι_size D (pul ι_size D)) (glu ι_size N (pul ι_size N)) (glu ι_size F Fₚ) (glu ι_size A Aₚ) _ _ ⟨HWs_call HX VPH_3 vs_size hp Hₚ O, STC_call HT HX vs_size hp O, hg0, PFI_glue (dl := []) hPF sf sa sd (by decide +kernel) (rexc_of (l := []) (by decide +kernel) ?_), ABS_glue hAB sf (by decide +kernel), NZ_glue hNZ vs_size hp sn (by decide +kernel), hGI, ?_, ?_, ?_, ?_, ?_, ?_, ?_, ?_, ?_, ?_⟩ ⟨(STP0_call (STY_call vs_size hp O) (sd 0 rfl) (RM_call vs_size O)), unt1_of (x := 10) (by decide +kernel) (fun p hp => funext (sa p hp))⟩ (show inr z by first | assumption | omega)
    · intro e he h1 h2
      cases he
    · exact INV0_eq (EQD_glue sf sa sd sn (by decide +kernel)) hI0
    · exact fun h => INV1_eq (EQD_glue sf sa sd sn (by decide +kernel)) (hI1 h)
    · exact fun h => INV2_eq (EQD_glue sf sa sd sn (by decide +kernel)) (hI2 h)
    · exact fun h => INV3_eq (EQD_glue sf sa sd sn (by decide +kernel)) (hI3 h)
    · exact fun h => INV4_eq (EQD_glue sf sa sd sn (by decide +kernel)) (hI4 h)
    · exact fun h => INV5_eq (EQD_glue sf sa sd sn (by decide +kernel)) (hI5 h)
    · exact fun h => INV6_eq (EQD_glue sf sa sd sn (by decide +kernel)) (hI6 h)
    · exact fun h => INV7_eq (EQD_glue sf sa sd sn (by decide +kernel)) (hI7 h)
    · exact fun h => INV8_eq (EQD_glue sf sa sd sn (by decide +kernel)) (hI8 h)
    · exact fun h => INV9_eq (EQD_glue sf sa sd sn (by decide +kernel)) (hI9 h)
def ι_byteAt : List Nat := [0, 1, 2, 3, 4, 5, 6, 7, 8, 9]
theorem vs_byteAt : VS VPH V7 ι_byteAt := VS_of (by decide +kernel)
set_option maxRecDepth 20000 in
theorem T_byteAt {g : Nat → Bool} {σ : rS} {D N : Nat → Nat} {F : hF} {A : hA} {d c s : Nat} {Q : wQ} (X : PHI g σ D N F A)  {a1 a2 : Int}  (h0 : inr a1) (h1 : inr a2)  (k : ∀ (z : Int) (σₚ : rS) (Dₚ Nₚ : Nat → Nat) (Fₚ : hF) (Aₚ : hA) (cₚ sₚ : Nat), PHI g σₚ Dₚ Nₚ Fₚ Aₚ → STP g σ D N A c s g σₚ Dₚ Nₚ Aₚ cₚ sₚ → (inr z) → Q (some (I z)) σₚ cₚ sₚ) : Ew 7 (d + 1) 0 (rargs 0 [.ref (D 0), I a1, I a2]) [] σ c s Q := by
  obtain ⟨HX, HT, hg0, hPF, hAB, hNZ, hGI, hI0, hI1, hI2, hI3, hI4, hI5, hI6, hI7, hI8, hI9⟩ := X
  have hset := SETI_f hI0.2.2.2.2.2.2.2.2.2.2.2.2.2.2.2.2.2
  have hJ0 := hI0
  unfold INV0 at hJ0
  obtain ⟨f0_0, f0_1, f0_2, f0_3, f0_4, f0_5, f0_6, f0_7, f0_8, f0_9, f0_10, f0_11, f0_12, f0_13, f0_14, f0_15, f0_16, f0_17⟩ := hJ0
  have hp : ∀ x, x < (V7).length → SPH g (ι_byteAt.getD x 0) = true := SPH_of (gs := [0]) (by intro j hj; simp at hj; subst hj; exact hg0) rfl (by decide +kernel)
  refine C7 (D := pul ι_byteAt D) (N := pul ι_byteAt N) (F := pul ι_byteAt F) (A := pul ι_byteAt A) (HWs_sub HX vs_byteAt hp) (show F 0 0 = (D 1 : Int) from hPF (0, 0, 0, 1) (List.mem_of_getElem? (i := 0) rfl) hg0 hg0) (show A 1 0 = (D 2 : Int) from hPF (1, 1, 0, 2) (List.mem_of_getElem? (i := 1) rfl) hg0 hg0) (show F 2 0 = (D 3 : Int) from hPF (0, 2, 0, 3) (List.mem_of_getElem? (i := 2) rfl) hg0 hg0) (show A 1 1 = (D 4 : Int) from hPF (1, 1, 1, 4) (List.mem_of_getElem? (i := 3) rfl) hg0 hg0) (show F 4 0 = (D 5 : Int) from hPF (0, 4, 0, 5) (List.mem_of_getElem? (i := 4) rfl) hg0 hg0) (show A 1 2 = (D 6 : Int) from hPF (1, 1, 2, 6) (List.mem_of_getElem? (i := 5) rfl) hg0 hg0) (show F 6 0 = (D 7 : Int) from hPF (0, 6, 0, 7) (List.mem_of_getElem? (i := 6) rfl) hg0 hg0) (show A 1 3 = (D 8 : Int) from hPF (1, 1, 3, 8) (List.mem_of_getElem? (i := 7) rfl) hg0 hg0) (show F 8 0 = (D 9 : Int) from hPF (0, 8, 0, 9) (List.mem_of_getElem? (i := 8) rfl) hg0 hg0) (N 1 : Int) rfl (N 3 : Int) rfl (N 5 : Int) rfl (N 7 : Int) rfl (N 9 : Int) rfl (F 2 1) rfl (F 4 1) rfl (F 6 1) rfl (F 8 1) rfl   (show inr (a1) by first | assumption | omega) (show inr (a2) by first | assumption | omega) (show ((N 1 : Int)) = 4 by first | assumption | omega) (show 0 ≤ (F 2 1) ∧ (F 2 1) ≤ ((N 3 : Int)) ∧ ((N 3 : Int)) ≤ 65536 by first | assumption | omega) (show 0 ≤ (F 4 1) ∧ (F 4 1) ≤ ((N 5 : Int)) ∧ ((N 5 : Int)) ≤ 65536 by first | assumption | omega) (show 0 ≤ (F 6 1) ∧ (F 6 1) ≤ ((N 7 : Int)) ∧ ((N 7 : Int)) ≤ 65536 by first | assumption | omega) (show 0 ≤ (F 8 1) ∧ (F 8 1) ≤ ((N 9 : Int)) ∧ ((N 9 : Int)) ≤ 65536 by first | assumption | omega) (fun z σₚ Fₚ Aₚ Hₚ O sf sa q0 => ?_)
  · skip
    have sd : SD [] (pul ι_byteAt D) (pul ι_byteAt D) := SD_refl
    have sn : SD [] (pul ι_byteAt N) (pul ι_byteAt N) := SD_refl
    refine k z _ (glu ι_byteAt D (pul ι_byteAt D)) (glu ι_byteAt N (pul ι_byteAt N)) (glu ι_byteAt F Fₚ) (glu ι_byteAt A Aₚ) _ _ ⟨HWs_call HX VPH_3 vs_byteAt hp Hₚ O, STC_call HT HX vs_byteAt hp O, hg0, PFI_glue (dl := []) hPF sf sa sd (by decide +kernel) (rexc_of (l := []) (by decide +kernel) ?_), ABS_glue hAB sf (by decide +kernel), NZ_glue hNZ vs_byteAt hp sn (by decide +kernel), hGI, ?_, ?_, ?_, ?_, ?_, ?_, ?_, ?_, ?_, ?_⟩ ⟨(STP0_call (STY_call vs_byteAt hp O) (sd 0 rfl) (RM_call vs_byteAt O)), unt1_of (x := 10) (by decide +kernel) (fun p hp => funext (sa p hp))⟩ (show inr z by first | assumption | omega)
    · intro e he h1 h2
      cases he
    · exact INV0_eq (EQD_glue sf sa sd sn (by decide +kernel)) hI0
    · exact fun h => INV1_eq (EQD_glue sf sa sd sn (by decide +kernel)) (hI1 h)
    · exact fun h => INV2_eq (EQD_glue sf sa sd sn (by decide +kernel)) (hI2 h)
    · exact fun h => INV3_eq (EQD_glue sf sa sd sn (by decide +kernel)) (hI3 h)
    · exact fun h => INV4_eq (EQD_glue sf sa sd sn (by decide +kernel)) (hI4 h)
    · exact fun h => INV5_eq (EQD_glue sf sa sd sn (by decide +kernel)) (hI5 h)
    · exact fun h => INV6_eq (EQD_glue sf sa sd sn (by decide +kernel)) (hI6 h)
    · exact fun h => INV7_eq (EQD_glue sf sa sd sn (by decide +kernel)) (hI7 h)
    · exact fun h => INV8_eq (EQD_glue sf sa sd sn (by decide +kernel)) (hI8 h)
    · exact fun h => INV9_eq (EQD_glue sf sa sd sn (by decide +kernel)) (hI9 h)
def ι_differ : List Nat := [0, 1, 2, 3, 4, 5, 6, 7, 8, 9]
theorem vs_differ : VS VPH V8 ι_differ := VS_of (by decide +kernel)
set_option maxRecDepth 20000 in
theorem T_differ {g : Nat → Bool} {σ : rS} {D N : Nat → Nat} {F : hF} {A : hA} {d c s : Nat} {Q : wQ} (X : PHI g σ D N F A)  {a1 a2 : Int}  (h0 : inr a1) (h1 : inr a2)  (k : ∀ (z : Int) (σₚ : rS) (Dₚ Nₚ : Nat → Nat) (Fₚ : hF) (Aₚ : hA) (cₚ sₚ : Nat), PHI g σₚ Dₚ Nₚ Fₚ Aₚ → STP g σ D N A c s g σₚ Dₚ Nₚ Aₚ cₚ sₚ → (inr z) → Q (some (I z)) σₚ cₚ sₚ) : Ew 8 (d + 1) 0 (rargs 0 [.ref (D 0), I a1, I a2]) [] σ c s Q := by
  obtain ⟨HX, HT, hg0, hPF, hAB, hNZ, hGI, hI0, hI1, hI2, hI3, hI4, hI5, hI6, hI7, hI8, hI9⟩ := X
  have hset := SETI_f hI0.2.2.2.2.2.2.2.2.2.2.2.2.2.2.2.2.2
  have hJ0 := hI0
  unfold INV0 at hJ0
  obtain ⟨f0_0, f0_1, f0_2, f0_3, f0_4, f0_5, f0_6, f0_7, f0_8, f0_9, f0_10, f0_11, f0_12, f0_13, f0_14, f0_15, f0_16, f0_17⟩ := hJ0
  have hp : ∀ x, x < (V8).length → SPH g (ι_differ.getD x 0) = true := SPH_of (gs := [0]) (by intro j hj; simp at hj; subst hj; exact hg0) rfl (by decide +kernel)
  refine C8 (D := pul ι_differ D) (N := pul ι_differ N) (F := pul ι_differ F) (A := pul ι_differ A) (HWs_sub HX vs_differ hp) (show F 0 0 = (D 1 : Int) from hPF (0, 0, 0, 1) (List.mem_of_getElem? (i := 0) rfl) hg0 hg0) (show A 1 0 = (D 2 : Int) from hPF (1, 1, 0, 2) (List.mem_of_getElem? (i := 1) rfl) hg0 hg0) (show F 2 0 = (D 3 : Int) from hPF (0, 2, 0, 3) (List.mem_of_getElem? (i := 2) rfl) hg0 hg0) (show A 1 1 = (D 4 : Int) from hPF (1, 1, 1, 4) (List.mem_of_getElem? (i := 3) rfl) hg0 hg0) (show F 4 0 = (D 5 : Int) from hPF (0, 4, 0, 5) (List.mem_of_getElem? (i := 4) rfl) hg0 hg0) (show A 1 2 = (D 6 : Int) from hPF (1, 1, 2, 6) (List.mem_of_getElem? (i := 5) rfl) hg0 hg0) (show F 6 0 = (D 7 : Int) from hPF (0, 6, 0, 7) (List.mem_of_getElem? (i := 6) rfl) hg0 hg0) (show A 1 3 = (D 8 : Int) from hPF (1, 1, 3, 8) (List.mem_of_getElem? (i := 7) rfl) hg0 hg0) (show F 8 0 = (D 9 : Int) from hPF (0, 8, 0, 9) (List.mem_of_getElem? (i := 8) rfl) hg0 hg0) (N 1 : Int) rfl (N 3 : Int) rfl (N 5 : Int) rfl (N 7 : Int) rfl (N 9 : Int) rfl (F 2 1) rfl (F 4 1) rfl (F 6 1) rfl (F 8 1) rfl   (show inr (a1) by first | assumption | omega) (show inr (a2) by first | assumption | omega) (show ((N 1 : Int)) = 4 by first | assumption | omega) (show 0 ≤ (F 2 1) ∧ (F 2 1) ≤ ((N 3 : Int)) ∧ ((N 3 : Int)) ≤ 65536 by first | assumption | omega) (show 0 ≤ (F 4 1) ∧ (F 4 1) ≤ ((N 5 : Int)) ∧ ((N 5 : Int)) ≤ 65536 by first | assumption | omega) (show 0 ≤ (F 6 1) ∧ (F 6 1) ≤ ((N 7 : Int)) ∧ ((N 7 : Int)) ≤ 65536 by first | assumption | omega) (show 0 ≤ (F 8 1) ∧ (F 8 1) ≤ ((N 9 : Int)) ∧ ((N 9 : Int)) ≤ 65536 by first | assumption | omega) (fun z σₚ Fₚ Aₚ Hₚ O sf sa q0 => ?_)
  · skip
    have sd : SD [] (pul ι_differ D) (pul ι_differ D) := SD_refl
    have sn : SD [] (pul ι_differ N) (pul ι_differ N) := SD_refl
    refine k z _ (glu ι_differ D (pul ι_differ D)) (glu ι_differ N (pul ι_differ N)) (glu ι_differ F Fₚ) (glu ι_differ A Aₚ) _ _ ⟨HWs_call HX VPH_3 vs_differ hp Hₚ O, STC_call HT HX vs_differ hp O, hg0, PFI_glue (dl := []) hPF sf sa sd (by decide +kernel) (rexc_of (l := []) (by decide +kernel) ?_), ABS_glue hAB sf (by decide +kernel), NZ_glue hNZ vs_differ hp sn (by decide +kernel), hGI, ?_, ?_, ?_, ?_, ?_, ?_, ?_, ?_, ?_, ?_⟩ ⟨(STP0_call (STY_call vs_differ hp O) (sd 0 rfl) (RM_call vs_differ O)), unt1_of (x := 10) (by decide +kernel) (fun p hp => funext (sa p hp))⟩ (show inr z by first | assumption | omega)
    · intro e he h1 h2
      cases he
    · exact INV0_eq (EQD_glue sf sa sd sn (by decide +kernel)) hI0
    · exact fun h => INV1_eq (EQD_glue sf sa sd sn (by decide +kernel)) (hI1 h)
    · exact fun h => INV2_eq (EQD_glue sf sa sd sn (by decide +kernel)) (hI2 h)
    · exact fun h => INV3_eq (EQD_glue sf sa sd sn (by decide +kernel)) (hI3 h)
    · exact fun h => INV4_eq (EQD_glue sf sa sd sn (by decide +kernel)) (hI4 h)
    · exact fun h => INV5_eq (EQD_glue sf sa sd sn (by decide +kernel)) (hI5 h)
    · exact fun h => INV6_eq (EQD_glue sf sa sd sn (by decide +kernel)) (hI6 h)
    · exact fun h => INV7_eq (EQD_glue sf sa sd sn (by decide +kernel)) (hI7 h)
    · exact fun h => INV8_eq (EQD_glue sf sa sd sn (by decide +kernel)) (hI8 h)
    · exact fun h => INV9_eq (EQD_glue sf sa sd sn (by decide +kernel)) (hI9 h)
def ι_narrow : List Nat := [0, 1, 2, 3, 4, 5, 6, 7, 8, 9]
theorem vs_narrow : VS VPH V11 ι_narrow := VS_of (by decide +kernel)
set_option maxRecDepth 20000 in
theorem T_narrow {g : Nat → Bool} {σ : rS} {D N : Nat → Nat} {F : hF} {A : hA} {d c s : Nat} {Q : wQ} (X : PHI g σ D N F A)  {a1 a2 a3 a4 : Int}  (h0 : inr a1) (h1 : inr a2) (h2 : inr a3) (h3 : inr a4)  (k : ∀ (z : Int) (σₚ : rS) (Dₚ Nₚ : Nat → Nat) (Fₚ : hF) (Aₚ : hA) (cₚ sₚ : Nat), PHI g σₚ Dₚ Nₚ Fₚ Aₚ → STP g σ D N A c s g σₚ Dₚ Nₚ Aₚ cₚ sₚ → (inr z) → Q (some (I z)) σₚ cₚ sₚ) : Ew 11 (d + 3) 0 (rargs 0 [.ref (D 0), I a1, I a2, I a3, I a4]) [] σ c s Q := by
  obtain ⟨HX, HT, hg0, hPF, hAB, hNZ, hGI, hI0, hI1, hI2, hI3, hI4, hI5, hI6, hI7, hI8, hI9⟩ := X
  have hset := SETI_f hI0.2.2.2.2.2.2.2.2.2.2.2.2.2.2.2.2.2
  have hJ0 := hI0
  unfold INV0 at hJ0
  obtain ⟨f0_0, f0_1, f0_2, f0_3, f0_4, f0_5, f0_6, f0_7, f0_8, f0_9, f0_10, f0_11, f0_12, f0_13, f0_14, f0_15, f0_16, f0_17⟩ := hJ0
  have hp : ∀ x, x < (V11).length → SPH g (ι_narrow.getD x 0) = true := SPH_of (gs := [0]) (by intro j hj; simp at hj; subst hj; exact hg0) rfl (by decide +kernel)
  refine C11 (D := pul ι_narrow D) (N := pul ι_narrow N) (F := pul ι_narrow F) (A := pul ι_narrow A) (HWs_sub HX vs_narrow hp) (show F 0 0 = (D 1 : Int) from hPF (0, 0, 0, 1) (List.mem_of_getElem? (i := 0) rfl) hg0 hg0) (show A 1 0 = (D 2 : Int) from hPF (1, 1, 0, 2) (List.mem_of_getElem? (i := 1) rfl) hg0 hg0) (show F 2 0 = (D 3 : Int) from hPF (0, 2, 0, 3) (List.mem_of_getElem? (i := 2) rfl) hg0 hg0) (show A 1 1 = (D 4 : Int) from hPF (1, 1, 1, 4) (List.mem_of_getElem? (i := 3) rfl) hg0 hg0) (show F 4 0 = (D 5 : Int) from hPF (0, 4, 0, 5) (List.mem_of_getElem? (i := 4) rfl) hg0 hg0) (show A 1 2 = (D 6 : Int) from hPF (1, 1, 2, 6) (List.mem_of_getElem? (i := 5) rfl) hg0 hg0) (show F 6 0 = (D 7 : Int) from hPF (0, 6, 0, 7) (List.mem_of_getElem? (i := 6) rfl) hg0 hg0) (show A 1 3 = (D 8 : Int) from hPF (1, 1, 3, 8) (List.mem_of_getElem? (i := 7) rfl) hg0 hg0) (show F 8 0 = (D 9 : Int) from hPF (0, 8, 0, 9) (List.mem_of_getElem? (i := 8) rfl) hg0 hg0) (N 1 : Int) rfl (N 3 : Int) rfl (N 5 : Int) rfl (N 7 : Int) rfl (N 9 : Int) rfl (F 2 1) rfl (F 4 1) rfl (F 6 1) rfl (F 8 1) rfl   (show inr (a1) by first | assumption | omega) (show inr (a2) by first | assumption | omega) (show inr (a3) by first | assumption | omega) (show inr (a4) by first | assumption | omega) (show ((N 1 : Int)) = 4 by first | assumption | omega) (show 0 ≤ (F 2 1) ∧ (F 2 1) ≤ ((N 3 : Int)) ∧ ((N 3 : Int)) ≤ 65536 by first | assumption | omega) (show 0 ≤ (F 4 1) ∧ (F 4 1) ≤ ((N 5 : Int)) ∧ ((N 5 : Int)) ≤ 65536 by first | assumption | omega) (show 0 ≤ (F 6 1) ∧ (F 6 1) ≤ ((N 7 : Int)) ∧ ((N 7 : Int)) ≤ 65536 by first | assumption | omega) (show 0 ≤ (F 8 1) ∧ (F 8 1) ≤ ((N 9 : Int)) ∧ ((N 9 : Int)) ≤ 65536 by first | assumption | omega) (fun z σₚ Fₚ Aₚ Hₚ O sf sa q0 => ?_)
  · skip
    have sd : SD [] (pul ι_narrow D) (pul ι_narrow D) := SD_refl
    have sn : SD [] (pul ι_narrow N) (pul ι_narrow N) := SD_refl
    refine k z _ (glu ι_narrow D (pul ι_narrow D)) (glu ι_narrow N (pul ι_narrow N)) (glu ι_narrow F Fₚ) (glu ι_narrow A Aₚ) _ _ ⟨HWs_call HX VPH_3 vs_narrow hp Hₚ O, STC_call HT HX vs_narrow hp O, hg0, PFI_glue (dl := []) hPF sf sa sd (by decide +kernel) (rexc_of (l := []) (by decide +kernel) ?_), ABS_glue hAB sf (by decide +kernel), NZ_glue hNZ vs_narrow hp sn (by decide +kernel), hGI, ?_, ?_, ?_, ?_, ?_, ?_, ?_, ?_, ?_, ?_⟩ ⟨(STP0_call (STY_call vs_narrow hp O) (sd 0 rfl) (RM_call vs_narrow O)), unt1_of (x := 10) (by decide +kernel) (fun p hp => funext (sa p hp))⟩ (show inr z by first | assumption | omega)
    · intro e he h1 h2
      cases he
    · exact INV0_eq (EQD_glue sf sa sd sn (by decide +kernel)) hI0
    · exact fun h => INV1_eq (EQD_glue sf sa sd sn (by decide +kernel)) (hI1 h)
    · exact fun h => INV2_eq (EQD_glue sf sa sd sn (by decide +kernel)) (hI2 h)
    · exact fun h => INV3_eq (EQD_glue sf sa sd sn (by decide +kernel)) (hI3 h)
    · exact fun h => INV4_eq (EQD_glue sf sa sd sn (by decide +kernel)) (hI4 h)
    · exact fun h => INV5_eq (EQD_glue sf sa sd sn (by decide +kernel)) (hI5 h)
    · exact fun h => INV6_eq (EQD_glue sf sa sd sn (by decide +kernel)) (hI6 h)
    · exact fun h => INV7_eq (EQD_glue sf sa sd sn (by decide +kernel)) (hI7 h)
    · exact fun h => INV8_eq (EQD_glue sf sa sd sn (by decide +kernel)) (hI8 h)
    · exact fun h => INV9_eq (EQD_glue sf sa sd sn (by decide +kernel)) (hI9 h)
def ι_wide : List Nat := [0, 1, 2, 3, 4, 5, 6, 7, 8, 9]
theorem vs_wide : VS VPH V12 ι_wide := VS_of (by decide +kernel)
set_option maxRecDepth 20000 in
theorem T_wide {g : Nat → Bool} {σ : rS} {D N : Nat → Nat} {F : hF} {A : hA} {d c s : Nat} {Q : wQ} (X : PHI g σ D N F A)  {a1 a2 a3 a4 : Int}  (h0 : inr a1) (h1 : inr a2) (h2 : inr a3) (h3 : inrJ a4)  (k : ∀ (z : Int) (σₚ : rS) (Dₚ Nₚ : Nat → Nat) (Fₚ : hF) (Aₚ : hA) (cₚ sₚ : Nat), PHI g σₚ Dₚ Nₚ Fₚ Aₚ → STP g σ D N A c s g σₚ Dₚ Nₚ Aₚ cₚ sₚ → (inrJ z) → Q (some (J z)) σₚ cₚ sₚ) : Ew 12 (d + 4) 0 (rargs 0 [.ref (D 0), I a1, I a2, I a3, J a4]) [] σ c s Q := by
  obtain ⟨HX, HT, hg0, hPF, hAB, hNZ, hGI, hI0, hI1, hI2, hI3, hI4, hI5, hI6, hI7, hI8, hI9⟩ := X
  have hset := SETI_f hI0.2.2.2.2.2.2.2.2.2.2.2.2.2.2.2.2.2
  have hJ0 := hI0
  unfold INV0 at hJ0
  obtain ⟨f0_0, f0_1, f0_2, f0_3, f0_4, f0_5, f0_6, f0_7, f0_8, f0_9, f0_10, f0_11, f0_12, f0_13, f0_14, f0_15, f0_16, f0_17⟩ := hJ0
  have hp : ∀ x, x < (V12).length → SPH g (ι_wide.getD x 0) = true := SPH_of (gs := [0]) (by intro j hj; simp at hj; subst hj; exact hg0) rfl (by decide +kernel)
  refine C12 (D := pul ι_wide D) (N := pul ι_wide N) (F := pul ι_wide F) (A := pul ι_wide A) (HWs_sub HX vs_wide hp) (show F 0 0 = (D 1 : Int) from hPF (0, 0, 0, 1) (List.mem_of_getElem? (i := 0) rfl) hg0 hg0) (show A 1 0 = (D 2 : Int) from hPF (1, 1, 0, 2) (List.mem_of_getElem? (i := 1) rfl) hg0 hg0) (show F 2 0 = (D 3 : Int) from hPF (0, 2, 0, 3) (List.mem_of_getElem? (i := 2) rfl) hg0 hg0) (show A 1 1 = (D 4 : Int) from hPF (1, 1, 1, 4) (List.mem_of_getElem? (i := 3) rfl) hg0 hg0) (show F 4 0 = (D 5 : Int) from hPF (0, 4, 0, 5) (List.mem_of_getElem? (i := 4) rfl) hg0 hg0) (show A 1 2 = (D 6 : Int) from hPF (1, 1, 2, 6) (List.mem_of_getElem? (i := 5) rfl) hg0 hg0) (show F 6 0 = (D 7 : Int) from hPF (0, 6, 0, 7) (List.mem_of_getElem? (i := 6) rfl) hg0 hg0) (show A 1 3 = (D 8 : Int) from hPF (1, 1, 3, 8) (List.mem_of_getElem? (i := 7) rfl) hg0 hg0) (show F 8 0 = (D 9 : Int) from hPF (0, 8, 0, 9) (List.mem_of_getElem? (i := 8) rfl) hg0 hg0) (N 1 : Int) rfl (N 3 : Int) rfl (N 5 : Int) rfl (N 7 : Int) rfl (N 9 : Int) rfl (F 2 1) rfl (F 4 1) rfl (F 6 1) rfl (F 8 1) rfl   (show inr (a1) by first | assumption | omega) (show inr (a2) by first | assumption | omega) (show inr (a3) by first | assumption | omega) (show inrJ (a4) by first | assumption | omega) (show ((N 1 : Int)) = 4 by first | assumption | omega) (show 0 ≤ (F 2 1) ∧ (F 2 1) ≤ ((N 3 : Int)) ∧ ((N 3 : Int)) ≤ 65536 by first | assumption | omega) (show 0 ≤ (F 4 1) ∧ (F 4 1) ≤ ((N 5 : Int)) ∧ ((N 5 : Int)) ≤ 65536 by first | assumption | omega) (show 0 ≤ (F 6 1) ∧ (F 6 1) ≤ ((N 7 : Int)) ∧ ((N 7 : Int)) ≤ 65536 by first | assumption | omega) (show 0 ≤ (F 8 1) ∧ (F 8 1) ≤ ((N 9 : Int)) ∧ ((N 9 : Int)) ≤ 65536 by first | assumption | omega) (fun z σₚ Fₚ Aₚ Hₚ O sf sa q0 => ?_)
  · skip
    have sd : SD [] (pul ι_wide D) (pul ι_wide D) := SD_refl
    have sn : SD [] (pul ι_wide N) (pul ι_wide N) := SD_refl
    refine k z _ (glu ι_wide D (pul ι_wide D)) (glu ι_wide N (pul ι_wide N)) (glu ι_wide F Fₚ) (glu ι_wide A Aₚ) _ _ ⟨HWs_call HX VPH_3 vs_wide hp Hₚ O, STC_call HT HX vs_wide hp O, hg0, PFI_glue (dl := []) hPF sf sa sd (by decide +kernel) (rexc_of (l := []) (by decide +kernel) ?_), ABS_glue hAB sf (by decide +kernel), NZ_glue hNZ vs_wide hp sn (by decide +kernel), hGI, ?_, ?_, ?_, ?_, ?_, ?_, ?_, ?_, ?_, ?_⟩ ⟨(STP0_call (STY_call vs_wide hp O) (sd 0 rfl) (RM_call vs_wide O)), unt1_of (x := 10) (by decide +kernel) (fun p hp => funext (sa p hp))⟩ (show inrJ z by first | assumption | omega)
    · intro e he h1 h2
      cases he
    · exact INV0_eq (EQD_glue sf sa sd sn (by decide +kernel)) hI0
    · exact fun h => INV1_eq (EQD_glue sf sa sd sn (by decide +kernel)) (hI1 h)
    · exact fun h => INV2_eq (EQD_glue sf sa sd sn (by decide +kernel)) (hI2 h)
    · exact fun h => INV3_eq (EQD_glue sf sa sd sn (by decide +kernel)) (hI3 h)
    · exact fun h => INV4_eq (EQD_glue sf sa sd sn (by decide +kernel)) (hI4 h)
    · exact fun h => INV5_eq (EQD_glue sf sa sd sn (by decide +kernel)) (hI5 h)
    · exact fun h => INV6_eq (EQD_glue sf sa sd sn (by decide +kernel)) (hI6 h)
    · exact fun h => INV7_eq (EQD_glue sf sa sd sn (by decide +kernel)) (hI7 h)
    · exact fun h => INV8_eq (EQD_glue sf sa sd sn (by decide +kernel)) (hI8 h)
    · exact fun h => INV9_eq (EQD_glue sf sa sd sn (by decide +kernel)) (hI9 h)
def ι_poly : List Nat := [0, 1, 2, 3, 4, 5, 6, 7, 8, 9]
theorem vs_poly : VS VPH V13 ι_poly := VS_of (by decide +kernel)
set_option maxRecDepth 20000 in
theorem T_poly {g : Nat → Bool} {σ : rS} {D N : Nat → Nat} {F : hF} {A : hA} {d c s : Nat} {Q : wQ} (X : PHI g σ D N F A)  {a1 a2 a3 a4 : Int}  (h0 : inr a1) (h1 : inr a2) (h2 : inr a3) (h3 : inr a4) (h4 : a4 = 0 ∨ a4 = 1)  (k : ∀ (z : Int) (σₚ : rS) (Dₚ Nₚ : Nat → Nat) (Fₚ : hF) (Aₚ : hA) (cₚ sₚ : Nat), PHI g σₚ Dₚ Nₚ Fₚ Aₚ → STP g σ D N A c s g σₚ Dₚ Nₚ Aₚ cₚ sₚ → (inr z) → Q (some (I z)) σₚ cₚ sₚ) : Ew 13 (d + 2) 0 (rargs 0 [.ref (D 0), I a1, I a2, I a3, I a4]) [] σ c s Q := by
  obtain ⟨HX, HT, hg0, hPF, hAB, hNZ, hGI, hI0, hI1, hI2, hI3, hI4, hI5, hI6, hI7, hI8, hI9⟩ := X
  have hset := SETI_f hI0.2.2.2.2.2.2.2.2.2.2.2.2.2.2.2.2.2
  have hJ0 := hI0
  unfold INV0 at hJ0
  obtain ⟨f0_0, f0_1, f0_2, f0_3, f0_4, f0_5, f0_6, f0_7, f0_8, f0_9, f0_10, f0_11, f0_12, f0_13, f0_14, f0_15, f0_16, f0_17⟩ := hJ0
  have hp : ∀ x, x < (V13).length → SPH g (ι_poly.getD x 0) = true := SPH_of (gs := [0]) (by intro j hj; simp at hj; subst hj; exact hg0) rfl (by decide +kernel)
  refine C13 (D := pul ι_poly D) (N := pul ι_poly N) (F := pul ι_poly F) (A := pul ι_poly A) (HWs_sub HX vs_poly hp) HT (show F 0 0 = (D 1 : Int) from hPF (0, 0, 0, 1) (List.mem_of_getElem? (i := 0) rfl) hg0 hg0) (show A 1 0 = (D 2 : Int) from hPF (1, 1, 0, 2) (List.mem_of_getElem? (i := 1) rfl) hg0 hg0) (show F 2 0 = (D 3 : Int) from hPF (0, 2, 0, 3) (List.mem_of_getElem? (i := 2) rfl) hg0 hg0) (show A 1 1 = (D 4 : Int) from hPF (1, 1, 1, 4) (List.mem_of_getElem? (i := 3) rfl) hg0 hg0) (show F 4 0 = (D 5 : Int) from hPF (0, 4, 0, 5) (List.mem_of_getElem? (i := 4) rfl) hg0 hg0) (show A 1 2 = (D 6 : Int) from hPF (1, 1, 2, 6) (List.mem_of_getElem? (i := 5) rfl) hg0 hg0) (show F 6 0 = (D 7 : Int) from hPF (0, 6, 0, 7) (List.mem_of_getElem? (i := 6) rfl) hg0 hg0) (show A 1 3 = (D 8 : Int) from hPF (1, 1, 3, 8) (List.mem_of_getElem? (i := 7) rfl) hg0 hg0) (show F 8 0 = (D 9 : Int) from hPF (0, 8, 0, 9) (List.mem_of_getElem? (i := 8) rfl) hg0 hg0) (N 1 : Int) rfl (N 3 : Int) rfl (N 5 : Int) rfl (N 7 : Int) rfl (N 9 : Int) rfl (F 2 1) rfl (F 4 1) rfl (F 6 1) rfl (F 8 1) rfl   (show inr (a1) by first | assumption | omega) (show inr (a2) by first | assumption | omega) (show inr (a3) by first | assumption | omega) (show inr (a4) by first | assumption | omega) (show (a4) = 0 ∨ (a4) = 1 by first | assumption | omega) (show ((N 1 : Int)) = 4 by first | assumption | omega) (show 0 ≤ (F 2 1) ∧ (F 2 1) ≤ ((N 3 : Int)) ∧ ((N 3 : Int)) ≤ 65536 by first | assumption | omega) (show 0 ≤ (F 4 1) ∧ (F 4 1) ≤ ((N 5 : Int)) ∧ ((N 5 : Int)) ≤ 65536 by first | assumption | omega) (show 0 ≤ (F 6 1) ∧ (F 6 1) ≤ ((N 7 : Int)) ∧ ((N 7 : Int)) ≤ 65536 by first | assumption | omega) (show 0 ≤ (F 8 1) ∧ (F 8 1) ≤ ((N 9 : Int)) ∧ ((N 9 : Int)) ≤ 65536 by first | assumption | omega) (fun z σₚ Fₚ Aₚ Hₚ O sf sa q0 => ?_)
  · skip
    have sd : SD [] (pul ι_poly D) (pul ι_poly D) := SD_refl
    have sn : SD [] (pul ι_poly N) (pul ι_poly N) := SD_refl
    refine k z _ (glu ι_poly D (pul ι_poly D)) (glu ι_poly N (pul ι_poly N)) (glu ι_poly F Fₚ) (glu ι_poly A Aₚ) _ _ ⟨HWs_call HX VPH_3 vs_poly hp Hₚ O, STC_call HT HX vs_poly hp O, hg0, PFI_glue (dl := []) hPF sf sa sd (by decide +kernel) (rexc_of (l := []) (by decide +kernel) ?_), ABS_glue hAB sf (by decide +kernel), NZ_glue hNZ vs_poly hp sn (by decide +kernel), hGI, ?_, ?_, ?_, ?_, ?_, ?_, ?_, ?_, ?_, ?_⟩ ⟨(STP0_call (STY_call vs_poly hp O) (sd 0 rfl) (RM_call vs_poly O)), unt1_of (x := 10) (by decide +kernel) (fun p hp => funext (sa p hp))⟩ (show inr z by first | assumption | omega)
    · intro e he h1 h2
      cases he
    · exact INV0_eq (EQD_glue sf sa sd sn (by decide +kernel)) hI0
    · exact fun h => INV1_eq (EQD_glue sf sa sd sn (by decide +kernel)) (hI1 h)
    · exact fun h => INV2_eq (EQD_glue sf sa sd sn (by decide +kernel)) (hI2 h)
    · exact fun h => INV3_eq (EQD_glue sf sa sd sn (by decide +kernel)) (hI3 h)
    · exact fun h => INV4_eq (EQD_glue sf sa sd sn (by decide +kernel)) (hI4 h)
    · exact fun h => INV5_eq (EQD_glue sf sa sd sn (by decide +kernel)) (hI5 h)
    · exact fun h => INV6_eq (EQD_glue sf sa sd sn (by decide +kernel)) (hI6 h)
    · exact fun h => INV7_eq (EQD_glue sf sa sd sn (by decide +kernel)) (hI7 h)
    · exact fun h => INV8_eq (EQD_glue sf sa sd sn (by decide +kernel)) (hI8 h)
    · exact fun h => INV9_eq (EQD_glue sf sa sd sn (by decide +kernel)) (hI9 h)
def ι_kind : List Nat := [0, 1, 2, 3, 4, 5, 6, 7, 8, 9]
theorem vs_kind : VS VPH V19 ι_kind := VS_of (by decide +kernel)
set_option maxRecDepth 20000 in
theorem T_kind {g : Nat → Bool} {σ : rS} {D N : Nat → Nat} {F : hF} {A : hA} {d c s : Nat} {Q : wQ} (X : PHI g σ D N F A)  {a1 : Int}  (h0 : inr a1)  (k : ∀ (z : Int) (σₚ : rS) (Dₚ Nₚ : Nat → Nat) (Fₚ : hF) (Aₚ : hA) (cₚ sₚ : Nat), PHI g σₚ Dₚ Nₚ Fₚ Aₚ → STP g σ D N A c s g σₚ Dₚ Nₚ Aₚ cₚ sₚ → (inr z) → Q (some (I z)) σₚ cₚ sₚ) : Ew 19 (d + 3) 0 (rargs 0 [.ref (D 0), I a1]) [] σ c s Q := by
  obtain ⟨HX, HT, hg0, hPF, hAB, hNZ, hGI, hI0, hI1, hI2, hI3, hI4, hI5, hI6, hI7, hI8, hI9⟩ := X
  have hset := SETI_f hI0.2.2.2.2.2.2.2.2.2.2.2.2.2.2.2.2.2
  have hJ0 := hI0
  unfold INV0 at hJ0
  obtain ⟨f0_0, f0_1, f0_2, f0_3, f0_4, f0_5, f0_6, f0_7, f0_8, f0_9, f0_10, f0_11, f0_12, f0_13, f0_14, f0_15, f0_16, f0_17⟩ := hJ0
  have hp : ∀ x, x < (V19).length → SPH g (ι_kind.getD x 0) = true := SPH_of (gs := [0]) (by intro j hj; simp at hj; subst hj; exact hg0) rfl (by decide +kernel)
  refine C19 (D := pul ι_kind D) (N := pul ι_kind N) (F := pul ι_kind F) (A := pul ι_kind A) (HWs_sub HX vs_kind hp) HT (show F 0 0 = (D 1 : Int) from hPF (0, 0, 0, 1) (List.mem_of_getElem? (i := 0) rfl) hg0 hg0) (show A 1 0 = (D 2 : Int) from hPF (1, 1, 0, 2) (List.mem_of_getElem? (i := 1) rfl) hg0 hg0) (show F 2 0 = (D 3 : Int) from hPF (0, 2, 0, 3) (List.mem_of_getElem? (i := 2) rfl) hg0 hg0) (show A 1 1 = (D 4 : Int) from hPF (1, 1, 1, 4) (List.mem_of_getElem? (i := 3) rfl) hg0 hg0) (show F 4 0 = (D 5 : Int) from hPF (0, 4, 0, 5) (List.mem_of_getElem? (i := 4) rfl) hg0 hg0) (show A 1 2 = (D 6 : Int) from hPF (1, 1, 2, 6) (List.mem_of_getElem? (i := 5) rfl) hg0 hg0) (show F 6 0 = (D 7 : Int) from hPF (0, 6, 0, 7) (List.mem_of_getElem? (i := 6) rfl) hg0 hg0) (show A 1 3 = (D 8 : Int) from hPF (1, 1, 3, 8) (List.mem_of_getElem? (i := 7) rfl) hg0 hg0) (show F 8 0 = (D 9 : Int) from hPF (0, 8, 0, 9) (List.mem_of_getElem? (i := 8) rfl) hg0 hg0) (N 1 : Int) rfl (N 3 : Int) rfl (N 5 : Int) rfl (N 7 : Int) rfl (N 9 : Int) rfl (F 2 1) rfl (F 4 1) rfl (F 6 1) rfl (F 8 1) rfl   (show inr (a1) by first | assumption | omega) (show ((N 1 : Int)) = 4 by first | assumption | omega) (show 0 ≤ (F 2 1) ∧ (F 2 1) ≤ ((N 3 : Int)) ∧ ((N 3 : Int)) ≤ 65536 by first | assumption | omega) (show 0 ≤ (F 4 1) ∧ (F 4 1) ≤ ((N 5 : Int)) ∧ ((N 5 : Int)) ≤ 65536 by first | assumption | omega) (show 0 ≤ (F 6 1) ∧ (F 6 1) ≤ ((N 7 : Int)) ∧ ((N 7 : Int)) ≤ 65536 by first | assumption | omega) (show 0 ≤ (F 8 1) ∧ (F 8 1) ≤ ((N 9 : Int)) ∧ ((N 9 : Int)) ≤ 65536 by first | assumption | omega) (fun z σₚ Fₚ Aₚ Hₚ O sf sa q0 => ?_)
  · skip
    have sd : SD [] (pul ι_kind D) (pul ι_kind D) := SD_refl
    have sn : SD [] (pul ι_kind N) (pul ι_kind N) := SD_refl
    refine k z _ (glu ι_kind D (pul ι_kind D)) (glu ι_kind N (pul ι_kind N)) (glu ι_kind F Fₚ) (glu ι_kind A Aₚ) _ _ ⟨HWs_call HX VPH_3 vs_kind hp Hₚ O, STC_call HT HX vs_kind hp O, hg0, PFI_glue (dl := []) hPF sf sa sd (by decide +kernel) (rexc_of (l := []) (by decide +kernel) ?_), ABS_glue hAB sf (by decide +kernel), NZ_glue hNZ vs_kind hp sn (by decide +kernel), hGI, ?_, ?_, ?_, ?_, ?_, ?_, ?_, ?_, ?_, ?_⟩ ⟨(STP0_call (STY_call vs_kind hp O) (sd 0 rfl) (RM_call vs_kind O)), unt1_of (x := 10) (by decide +kernel) (fun p hp => funext (sa p hp))⟩ (show inr z by first | assumption | omega)
    · intro e he h1 h2
      cases he
    · exact INV0_eq (EQD_glue sf sa sd sn (by decide +kernel)) hI0
    · exact fun h => INV1_eq (EQD_glue sf sa sd sn (by decide +kernel)) (hI1 h)
    · exact fun h => INV2_eq (EQD_glue sf sa sd sn (by decide +kernel)) (hI2 h)
    · exact fun h => INV3_eq (EQD_glue sf sa sd sn (by decide +kernel)) (hI3 h)
    · exact fun h => INV4_eq (EQD_glue sf sa sd sn (by decide +kernel)) (hI4 h)
    · exact fun h => INV5_eq (EQD_glue sf sa sd sn (by decide +kernel)) (hI5 h)
    · exact fun h => INV6_eq (EQD_glue sf sa sd sn (by decide +kernel)) (hI6 h)
    · exact fun h => INV7_eq (EQD_glue sf sa sd sn (by decide +kernel)) (hI7 h)
    · exact fun h => INV8_eq (EQD_glue sf sa sd sn (by decide +kernel)) (hI8 h)
    · exact fun h => INV9_eq (EQD_glue sf sa sd sn (by decide +kernel)) (hI9 h)
def ι_strayed : List Nat := [0, 32]
theorem vs_strayed : VS VPH V23 ι_strayed := VS_of (by decide +kernel)
set_option maxRecDepth 20000 in
theorem T_strayed {g : Nat → Bool} {σ : rS} {D N : Nat → Nat} {F : hF} {A : hA} {d c s : Nat} {Q : wQ} (X : PHI g σ D N F A)  {a1 : Int}  (h0 : inr a1)  (k : ∀ (z : Int) (σₚ : rS) (Dₚ Nₚ : Nat → Nat) (Fₚ : hF) (Aₚ : hA) (cₚ sₚ : Nat), PHI g σₚ Dₚ Nₚ Fₚ Aₚ → STP g σ D N A c s g σₚ Dₚ Nₚ Aₚ cₚ sₚ → (inr z) → Q (some (I z)) σₚ cₚ sₚ) : Ew 23 (d + 0) 0 (rargs 0 [.ref (D 0), I a1]) [] σ c s Q := by
  obtain ⟨HX, HT, hg0, hPF, hAB, hNZ, hGI, hI0, hI1, hI2, hI3, hI4, hI5, hI6, hI7, hI8, hI9⟩ := X
  have hset := SETI_f hI0.2.2.2.2.2.2.2.2.2.2.2.2.2.2.2.2.2
  have hJ0 := hI0
  unfold INV0 at hJ0
  obtain ⟨f0_0, f0_1, f0_2, f0_3, f0_4, f0_5, f0_6, f0_7, f0_8, f0_9, f0_10, f0_11, f0_12, f0_13, f0_14, f0_15, f0_16, f0_17⟩ := hJ0
  have hp : ∀ x, x < (V23).length → SPH g (ι_strayed.getD x 0) = true := SPH_of (gs := [0]) (by intro j hj; simp at hj; subst hj; exact hg0) rfl (by decide +kernel)
  refine C23 (D := pul ι_strayed D) (N := pul ι_strayed N) (F := pul ι_strayed F) (A := pul ι_strayed A) (HWs_sub HX vs_strayed hp) (show F 0 16 = (D 32 : Int) from hPF (0, 0, 16, 32) (List.mem_of_getElem? (i := 31) rfl) hg0 hg0) (N 32 : Int) rfl    (show inr (a1) by first | assumption | omega) (show ((N 32 : Int)) = 2 by first | assumption | omega) (fun z σₚ Fₚ Aₚ Hₚ O sf sa q0 => ?_)
  · skip
    have sd : SD [] (pul ι_strayed D) (pul ι_strayed D) := SD_refl
    have sn : SD [] (pul ι_strayed N) (pul ι_strayed N) := SD_refl
    refine k z _ (glu ι_strayed D (pul ι_strayed D)) (glu ι_strayed N (pul ι_strayed N)) (glu ι_strayed F Fₚ) (glu ι_strayed A Aₚ) _ _ ⟨HWs_call HX VPH_3 vs_strayed hp Hₚ O, STC_call HT HX vs_strayed hp O, hg0, PFI_glue (dl := []) hPF sf sa sd (by decide +kernel) (rexc_of (l := []) (by decide +kernel) ?_), ABS_glue hAB sf (by decide +kernel), NZ_glue hNZ vs_strayed hp sn (by decide +kernel), hGI, ?_, ?_, ?_, ?_, ?_, ?_, ?_, ?_, ?_, ?_⟩ ⟨(STP0_call (STY_call vs_strayed hp O) (sd 0 rfl) (RM_call vs_strayed O)), unt1_of (x := 10) (by decide +kernel) (fun p hp => funext (sa p hp))⟩ (show inr z by first | assumption | omega)
    · intro e he h1 h2
      cases he
    · exact INV0_eq (EQD_glue sf sa sd sn (by decide +kernel)) hI0
    · exact fun h => INV1_eq (EQD_glue sf sa sd sn (by decide +kernel)) (hI1 h)
    · exact fun h => INV2_eq (EQD_glue sf sa sd sn (by decide +kernel)) (hI2 h)
    · exact fun h => INV3_eq (EQD_glue sf sa sd sn (by decide +kernel)) (hI3 h)
    · exact fun h => INV4_eq (EQD_glue sf sa sd sn (by decide +kernel)) (hI4 h)
    · exact fun h => INV5_eq (EQD_glue sf sa sd sn (by decide +kernel)) (hI5 h)
    · exact fun h => INV6_eq (EQD_glue sf sa sd sn (by decide +kernel)) (hI6 h)
    · exact fun h => INV7_eq (EQD_glue sf sa sd sn (by decide +kernel)) (hI7 h)
    · exact fun h => INV8_eq (EQD_glue sf sa sd sn (by decide +kernel)) (hI8 h)
    · exact fun h => INV9_eq (EQD_glue sf sa sd sn (by decide +kernel)) (hI9 h)
def ι_about : List Nat := [0, 29, 30, 13, 14, 11]
theorem vs_about : VS VPH V22 ι_about := VS_of (by decide +kernel)
set_option maxRecDepth 20000 in
theorem T_about {g : Nat → Bool} {σ : rS} {D N : Nat → Nat} {F : hF} {A : hA} {d c s : Nat} {Q : wQ} (X : PHI g σ D N F A)  {a1 : Int}  (h0 : inr a1)  (k : ∀ (z : Int) (σₚ : rS) (Dₚ Nₚ : Nat → Nat) (Fₚ : hF) (Aₚ : hA) (cₚ sₚ : Nat), PHI g σₚ Dₚ Nₚ Fₚ Aₚ → STP g σ D N A c s g σₚ Dₚ Nₚ Aₚ cₚ sₚ → (inr z) → Q (some (I z)) σₚ cₚ sₚ) : Ew 22 (d + 0) 0 (rargs 0 [.ref (D 0), I a1]) [] σ c s Q := by
  obtain ⟨HX, HT, hg0, hPF, hAB, hNZ, hGI, hI0, hI1, hI2, hI3, hI4, hI5, hI6, hI7, hI8, hI9⟩ := X
  have hset := SETI_f hI0.2.2.2.2.2.2.2.2.2.2.2.2.2.2.2.2.2
  have hJ0 := hI0
  unfold INV0 at hJ0
  obtain ⟨f0_0, f0_1, f0_2, f0_3, f0_4, f0_5, f0_6, f0_7, f0_8, f0_9, f0_10, f0_11, f0_12, f0_13, f0_14, f0_15, f0_16, f0_17⟩ := hJ0
  have hp : ∀ x, x < (V22).length → SPH g (ι_about.getD x 0) = true := SPH_of (gs := [0]) (by intro j hj; simp at hj; subst hj; exact hg0) rfl (by decide +kernel)
  refine C22 (D := pul ι_about D) (N := pul ι_about N) (F := pul ι_about F) (A := pul ι_about A) (HWs_sub HX vs_about hp) (show F 0 13 = (D 29 : Int) from hPF (0, 0, 13, 29) (List.mem_of_getElem? (i := 28) rfl) hg0 hg0) (show F 0 14 = (D 30 : Int) from hPF (0, 0, 14, 30) (List.mem_of_getElem? (i := 29) rfl) hg0 hg0) (show F 0 3 = (D 13 : Int) from hPF (0, 0, 3, 13) (List.mem_of_getElem? (i := 12) rfl) hg0 hg0) (show F 13 0 = (D 14 : Int) from hPF (0, 13, 0, 14) (List.mem_of_getElem? (i := 13) rfl) hg0 hg0) (show F 0 2 = (D 11 : Int) from hPF (0, 0, 2, 11) (List.mem_of_getElem? (i := 10) rfl) hg0 hg0) (N 29 : Int) rfl (N 30 : Int) rfl    (show inr (a1) by first | assumption | omega) (show ((N 29 : Int)) = 13 by first | assumption | omega) (show ((N 30 : Int)) = 5 by first | assumption | omega) (fun z σₚ Fₚ Aₚ Hₚ O sf sa q0 => ?_)
  · skip
    have sd : SD [] (pul ι_about D) (pul ι_about D) := SD_refl
    have sn : SD [] (pul ι_about N) (pul ι_about N) := SD_refl
    refine k z _ (glu ι_about D (pul ι_about D)) (glu ι_about N (pul ι_about N)) (glu ι_about F Fₚ) (glu ι_about A Aₚ) _ _ ⟨HWs_call HX VPH_3 vs_about hp Hₚ O, STC_call HT HX vs_about hp O, hg0, PFI_glue (dl := []) hPF sf sa sd (by decide +kernel) (rexc_of (l := []) (by decide +kernel) ?_), ABS_glue hAB sf (by decide +kernel), NZ_glue hNZ vs_about hp sn (by decide +kernel), hGI, ?_, ?_, ?_, ?_, ?_, ?_, ?_, ?_, ?_, ?_⟩ ⟨(STP0_call (STY_call vs_about hp O) (sd 0 rfl) (RM_call vs_about O)), unt1_of (x := 10) (by decide +kernel) (fun p hp => funext (sa p hp))⟩ (show inr z by first | assumption | omega)
    · intro e he h1 h2
      cases he
    · exact INV0_eq (EQD_glue sf sa sd sn (by decide +kernel)) hI0
    · exact fun h => INV1_eq (EQD_glue sf sa sd sn (by decide +kernel)) (hI1 h)
    · exact fun h => INV2_eq (EQD_glue sf sa sd sn (by decide +kernel)) (hI2 h)
    · exact fun h => INV3_eq (EQD_glue sf sa sd sn (by decide +kernel)) (hI3 h)
    · exact fun h => INV4_eq (EQD_glue sf sa sd sn (by decide +kernel)) (hI4 h)
    · exact fun h => INV5_eq (EQD_glue sf sa sd sn (by decide +kernel)) (hI5 h)
    · exact fun h => INV6_eq (EQD_glue sf sa sd sn (by decide +kernel)) (hI6 h)
    · exact fun h => INV7_eq (EQD_glue sf sa sd sn (by decide +kernel)) (hI7 h)
    · exact fun h => INV8_eq (EQD_glue sf sa sd sn (by decide +kernel)) (hI8 h)
    · exact fun h => INV9_eq (EQD_glue sf sa sd sn (by decide +kernel)) (hI9 h)
def ι_join : List Nat := [0, 1, 2, 3, 4, 5, 6, 7, 8, 9]
theorem vs_join : VS VPH V5 ι_join := VS_of (by decide +kernel)
set_option maxRecDepth 20000 in
theorem T_join {g : Nat → Bool} {σ : rS} {D N : Nat → Nat} {F : hF} {A : hA} {d c s : Nat} {Q : wQ} (X : PHI g σ D N F A)  {a1 a2 a3 a4 : Int}  (h0 : inr a1) (h1 : inr a2) (h2 : inr a3) (h3 : inr a4)  (k : ∀ (z : Int) (σₚ : rS) (Dₚ Nₚ : Nat → Nat) (Fₚ : hF) (Aₚ : hA) (cₚ sₚ : Nat), PHI g σₚ Dₚ Nₚ Fₚ Aₚ → STP g σ D N A c s g σₚ Dₚ Nₚ Aₚ cₚ sₚ → (z = 0 ∨ z = 1) → Q (some (I z)) σₚ cₚ sₚ) : Ew 5 (d + 2) 0 (rargs 0 [.ref (D 0), I a1, I a2, I a3, I a4]) [] σ c s Q := by
  obtain ⟨HX, HT, hg0, hPF, hAB, hNZ, hGI, hI0, hI1, hI2, hI3, hI4, hI5, hI6, hI7, hI8, hI9⟩ := X
  have hset := SETI_f hI0.2.2.2.2.2.2.2.2.2.2.2.2.2.2.2.2.2
  have hJ0 := hI0
  unfold INV0 at hJ0
  obtain ⟨f0_0, f0_1, f0_2, f0_3, f0_4, f0_5, f0_6, f0_7, f0_8, f0_9, f0_10, f0_11, f0_12, f0_13, f0_14, f0_15, f0_16, f0_17⟩ := hJ0
  have hp : ∀ x, x < (V5).length → SPH g (ι_join.getD x 0) = true := SPH_of (gs := [0]) (by intro j hj; simp at hj; subst hj; exact hg0) rfl (by decide +kernel)
  refine C5 (D := pul ι_join D) (N := pul ι_join N) (F := pul ι_join F) (A := pul ι_join A) (HWs_sub HX vs_join hp) (show F 0 0 = (D 1 : Int) from hPF (0, 0, 0, 1) (List.mem_of_getElem? (i := 0) rfl) hg0 hg0) (show A 1 0 = (D 2 : Int) from hPF (1, 1, 0, 2) (List.mem_of_getElem? (i := 1) rfl) hg0 hg0) (show F 2 0 = (D 3 : Int) from hPF (0, 2, 0, 3) (List.mem_of_getElem? (i := 2) rfl) hg0 hg0) (show A 1 1 = (D 4 : Int) from hPF (1, 1, 1, 4) (List.mem_of_getElem? (i := 3) rfl) hg0 hg0) (show F 4 0 = (D 5 : Int) from hPF (0, 4, 0, 5) (List.mem_of_getElem? (i := 4) rfl) hg0 hg0) (show A 1 2 = (D 6 : Int) from hPF (1, 1, 2, 6) (List.mem_of_getElem? (i := 5) rfl) hg0 hg0) (show F 6 0 = (D 7 : Int) from hPF (0, 6, 0, 7) (List.mem_of_getElem? (i := 6) rfl) hg0 hg0) (show A 1 3 = (D 8 : Int) from hPF (1, 1, 3, 8) (List.mem_of_getElem? (i := 7) rfl) hg0 hg0) (show F 8 0 = (D 9 : Int) from hPF (0, 8, 0, 9) (List.mem_of_getElem? (i := 8) rfl) hg0 hg0) (N 1 : Int) rfl (N 3 : Int) rfl (N 5 : Int) rfl (N 7 : Int) rfl (N 9 : Int) rfl (F 2 1) rfl (F 4 1) rfl (F 6 1) rfl (F 8 1) rfl   (show inr (a1) by first | assumption | omega) (show inr (a2) by first | assumption | omega) (show inr (a3) by first | assumption | omega) (show inr (a4) by first | assumption | omega) (show ((N 1 : Int)) = 4 by first | assumption | omega) (show 0 ≤ (F 2 1) ∧ (F 2 1) ≤ ((N 3 : Int)) ∧ ((N 3 : Int)) ≤ 65536 by first | assumption | omega) (show 0 ≤ (F 4 1) ∧ (F 4 1) ≤ ((N 5 : Int)) ∧ ((N 5 : Int)) ≤ 65536 by first | assumption | omega) (show 0 ≤ (F 6 1) ∧ (F 6 1) ≤ ((N 7 : Int)) ∧ ((N 7 : Int)) ≤ 65536 by first | assumption | omega) (show 0 ≤ (F 8 1) ∧ (F 8 1) ≤ ((N 9 : Int)) ∧ ((N 9 : Int)) ≤ 65536 by first | assumption | omega) (fun z σₚ Dₚ Nₚ Fₚ Aₚ cₚ sₚ Hₚ O sd sn sf sa pm3 pm5 pm7 pm9 m3 em3 m5 em5 m7 em7 m9 em9 y2_1 ey2_1 y4_1 ey4_1 y6_1 ey6_1 y8_1 ey8_1 q0 q1 q2 q3 q4 => ?_)
  · skip
    subst em3 em5 em7 em9 ey2_1 ey4_1 ey6_1 ey8_1
    refine k z _ (glu ι_join D Dₚ) (glu ι_join N Nₚ) (glu ι_join F Fₚ) (glu ι_join A Aₚ) _ _ ⟨HWs_call HX VPH_3 vs_join hp Hₚ O, STC_call HT HX vs_join hp O, hg0, PFI_glue (dl := [3, 5, 7, 9]) hPF sf sa sd (by decide +kernel) (rexc_of (l := [(0, 2, 0, 3), (0, 4, 0, 5), (0, 6, 0, 7), (0, 8, 0, 9)]) (by decide +kernel) ?_), ABS_glue hAB sf (by decide +kernel), NZ_glue hNZ vs_join hp sn (by decide +kernel), hGI, ?_, ?_, ?_, ?_, ?_, ?_, ?_, ?_, ?_, ?_⟩ ⟨(STP0_call (STY_call vs_join hp O) (sd 0 rfl) (RM_call vs_join O)), unt1_of (x := 10) (by decide +kernel) (fun p hp => funext (sa p hp))⟩ (show z = 0 ∨ z = 1 by first | assumption | omega)
    · intro e he h1 h2
      simp only [List.mem_cons, List.not_mem_nil, or_false] at he
      rcases he with rfl | rfl | rfl | rfl
      · exact pm3
      · exact pm5
      · exact pm7
      · exact pm9
    · skip
      exact ⟨show 0 ≤ (Fₚ 2 1) ∧ (Fₚ 2 1) ≤ ((Nₚ 3 : Int)) ∧ ((Nₚ 3 : Int)) ≤ 65536 from (by first | assumption | omega), show 0 ≤ (Fₚ 4 1) ∧ (Fₚ 4 1) ≤ ((Nₚ 5 : Int)) ∧ ((Nₚ 5 : Int)) ≤ 65536 from (by first | assumption | omega), show 0 ≤ (Fₚ 6 1) ∧ (Fₚ 6 1) ≤ ((Nₚ 7 : Int)) ∧ ((Nₚ 7 : Int)) ≤ 65536 from (by first | assumption | omega), show 0 ≤ (Fₚ 8 1) ∧ (Fₚ 8 1) ≤ ((Nₚ 9 : Int)) ∧ ((Nₚ 9 : Int)) ≤ 65536 from (by first | assumption | omega), QF0_4_eq (EQD_glue sf sa sd sn (by decide +kernel)) f0_4, QF0_5_eq (EQD_glue sf sa sd sn (by decide +kernel)) f0_5, QF0_6_eq (EQD_glue sf sa sd sn (by decide +kernel)) f0_6, QF0_7_eq (EQD_glue sf sa sd sn (by decide +kernel)) f0_7, QF0_8_eq (EQD_glue sf sa sd sn (by decide +kernel)) f0_8, QF0_9_eq (EQD_glue sf sa sd sn (by decide +kernel)) f0_9, QF0_10_eq (EQD_glue sf sa sd sn (by decide +kernel)) f0_10, QF0_11_eq (EQD_glue sf sa sd sn (by decide +kernel)) f0_11, QF0_12_eq (EQD_glue sf sa sd sn (by decide +kernel)) f0_12, QF0_13_eq (EQD_glue sf sa sd sn (by decide +kernel)) f0_13, QF0_14_eq (EQD_glue sf sa sd sn (by decide +kernel)) f0_14, QF0_15_eq (EQD_glue sf sa sd sn (by decide +kernel)) f0_15, QF0_16_eq (EQD_glue sf sa sd sn (by decide +kernel)) f0_16, QF0_17_eq (EQD_glue sf sa sd sn (by decide +kernel)) f0_17⟩
    · exact fun h => INV1_eq (EQD_glue sf sa sd sn (by decide +kernel)) (hI1 h)
    · exact fun h => INV2_eq (EQD_glue sf sa sd sn (by decide +kernel)) (hI2 h)
    · exact fun h => INV3_eq (EQD_glue sf sa sd sn (by decide +kernel)) (hI3 h)
    · exact fun h => INV4_eq (EQD_glue sf sa sd sn (by decide +kernel)) (hI4 h)
    · exact fun h => INV5_eq (EQD_glue sf sa sd sn (by decide +kernel)) (hI5 h)
    · exact fun h => INV6_eq (EQD_glue sf sa sd sn (by decide +kernel)) (hI6 h)
    · exact fun h => INV7_eq (EQD_glue sf sa sd sn (by decide +kernel)) (hI7 h)
    · exact fun h => INV8_eq (EQD_glue sf sa sd sn (by decide +kernel)) (hI8 h)
    · exact fun h => INV9_eq (EQD_glue sf sa sd sn (by decide +kernel)) (hI9 h)
