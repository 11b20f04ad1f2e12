/-! read, open in pieces, over the state -/
def ι_reada0 : List Nat := [0, 1, 2, 3, 4, 5, 6, 7, 8, 9, 30]
theorem vs_reada0 : VS VPH V18_c20_va ι_reada0 := VS_of (by decide +kernel)
set_option maxRecDepth 20000 in
theorem T_reada0 {g : Nat → Bool} {σ : rS} {D N : Nat → Nat} {F : hF} {A : hA} {d c s : Nat} {Q : wQ} (X : PHI g σ D N F A)  {a1 a3 a4 : Int}  (h0 : inr a1) (h2 : inr a3) (h3 : inr a4)  (hc54 : ∀ (tc54_1 : Int) (tc54_4 : Int) (tc54_5 : Int) (ls : rO) (σₚ : rS) (Dₚ Nₚ : Nat → Nat) (Fₚ : hF) (Aₚ : hA) (cₚ sₚ : Nat), PHI g σₚ Dₚ Nₚ Fₚ Aₚ → STP g σ D N A c s g σₚ Dₚ Nₚ Aₚ cₚ sₚ → (0 ≤ tc54_1 ∧ tc54_1 ≤ 3) → (0 ≤ tc54_4 ∧ tc54_4 ≤ 4) → (0 ≤ tc54_5 ∧ tc54_5 ≤ 65536) → Ew 18 (d + 1) 54 ls [.ref (Dₚ 30), I tc54_5, I tc54_4, .ref (Dₚ 2), .ref (Dₚ 0), I tc54_1, .ref (Dₚ 0)] σₚ cₚ sₚ Q) (k : ∀ (z : Int) (σₚ : rS) (Dₚ Nₚ : Nat → Nat) (Fₚ : hF) (Aₚ : hA) (cₚ sₚ : Nat), PHI g σₚ Dₚ Nₚ Fₚ Aₚ → STP g σ D N A c s g σₚ Dₚ Nₚ Aₚ cₚ sₚ → (inr z) → Q (some (I z)) σₚ cₚ sₚ) : Ew 18 (d + 1) 0 (rargs 0 [.ref (D 0), I a1, I 0, I a3, I a4]) [] σ c s Q := by
  obtain ⟨HX, HT, hg0, hPF, hAB, hNZ, hGI, hI0, hI1, hI2, hI3, hI4, hI5, hI6, hI7, hI8, hI9⟩ := X
  have hset := SETI_f hI0.2.2.2.2.2.2.2.2.2.2.2.2.2.2.2.2.2
  have hJ0 := hI0
  unfold INV0 at hJ0
  obtain ⟨f0_0, f0_1, f0_2, f0_3, f0_4, f0_5, f0_6, f0_7, f0_8, f0_9, f0_10, f0_11, f0_12, f0_13, f0_14, f0_15, f0_16, f0_17⟩ := hJ0
  have hp : ∀ x, x < (V18_c20_va).length → SPH g (ι_reada0.getD x 0) = true := SPH_of (gs := [0]) (by intro j hj; simp at hj; subst hj; exact hg0) rfl (by decide +kernel)
  refine C18_c20_va (D := pul ι_reada0 D) (N := pul ι_reada0 N) (F := pul ι_reada0 F) (A := pul ι_reada0 A) (HWs_sub HX vs_reada0 hp) (show F 0 0 = (D 1 : Int) from hPF (0, 0, 0, 1) (List.mem_of_getElem? (i := 0) rfl) hg0 hg0) (show A 1 0 = (D 2 : Int) from hPF (1, 1, 0, 2) (List.mem_of_getElem? (i := 1) rfl) hg0 hg0) (show F 2 0 = (D 3 : Int) from hPF (0, 2, 0, 3) (List.mem_of_getElem? (i := 2) rfl) hg0 hg0) (show A 1 1 = (D 4 : Int) from hPF (1, 1, 1, 4) (List.mem_of_getElem? (i := 3) rfl) hg0 hg0) (show F 4 0 = (D 5 : Int) from hPF (0, 4, 0, 5) (List.mem_of_getElem? (i := 4) rfl) hg0 hg0) (show A 1 2 = (D 6 : Int) from hPF (1, 1, 2, 6) (List.mem_of_getElem? (i := 5) rfl) hg0 hg0) (show F 6 0 = (D 7 : Int) from hPF (0, 6, 0, 7) (List.mem_of_getElem? (i := 6) rfl) hg0 hg0) (show A 1 3 = (D 8 : Int) from hPF (1, 1, 3, 8) (List.mem_of_getElem? (i := 7) rfl) hg0 hg0) (show F 8 0 = (D 9 : Int) from hPF (0, 8, 0, 9) (List.mem_of_getElem? (i := 8) rfl) hg0 hg0) (show F 0 14 = (D 30 : Int) from hPF (0, 0, 14, 30) (List.mem_of_getElem? (i := 29) rfl) hg0 hg0) (N 1 : Int) rfl (N 3 : Int) rfl (N 5 : Int) rfl (N 7 : Int) rfl (N 9 : Int) rfl (N 30 : Int) rfl (F 2 1) rfl (F 4 1) rfl (F 6 1) rfl (F 8 1) rfl   (show inr (a1) by first | assumption | omega) (show inr (0) by first | assumption | omega) (show inr (a3) by first | assumption | omega) (show inr (a4) by first | assumption | omega) (show ((N 1 : Int)) = 4 by first | assumption | omega) (show 0 ≤ (F 2 1) ∧ (F 2 1) ≤ ((N 3 : Int)) ∧ ((N 3 : Int)) ≤ 65536 by first | assumption | omega) (show 0 ≤ (F 4 1) ∧ (F 4 1) ≤ ((N 5 : Int)) ∧ ((N 5 : Int)) ≤ 65536 by first | assumption | omega) (show 0 ≤ (F 6 1) ∧ (F 6 1) ≤ ((N 7 : Int)) ∧ ((N 7 : Int)) ≤ 65536 by first | assumption | omega) (show 0 ≤ (F 8 1) ∧ (F 8 1) ≤ ((N 9 : Int)) ∧ ((N 9 : Int)) ≤ 65536 by first | assumption | omega) (fun tc54_1 tc54_4 tc54_5 ls σ F_c54 A_c54   H O hS_c54 hA_c54     jc54_0 jc54_1 jc54_2 jc54_3 jc54_4 jc54_5 => ?_) (fun z σₚ Fₚ Aₚ Hₚ O sf sa q0 => ?_)
  · skip
    have sd : SD [] (pul ι_reada0 D) (pul ι_reada0 D) := SD_refl
    have sn : SD [] (pul ι_reada0 N) (pul ι_reada0 N) := SD_refl
    refine hc54 tc54_1 tc54_4 tc54_5  _ _ (glu ι_reada0 D (pul ι_reada0 D)) (glu ι_reada0 N (pul ι_reada0 N)) (glu ι_reada0 F F_c54) (glu ι_reada0 A A_c54) _ _ ⟨HWs_call HX VPH_3 vs_reada0 hp H O, STC_call HT HX vs_reada0 hp O, hg0, PFI_glue (dl := []) hPF hS_c54 hA_c54 sd (by decide +kernel) (rexc_of (l := []) (by decide +kernel) ?_), ABS_glue hAB hS_c54 (by decide +kernel), NZ_glue hNZ vs_reada0 hp sn (by decide +kernel), hGI, ?_, ?_, ?_, ?_, ?_, ?_, ?_, ?_, ?_, ?_⟩ ⟨(STP0_call (STY_call vs_reada0 hp O) (sd 0 rfl) (RM_call vs_reada0 O)), unt1_of (x := 10) (by decide +kernel) (fun p hp => funext (hA_c54 p hp))⟩  (show 0 ≤ tc54_1 ∧ tc54_1 ≤ 3 by first | assumption | omega) (show 0 ≤ tc54_4 ∧ tc54_4 ≤ 4 by first | assumption | omega) (show 0 ≤ tc54_5 ∧ tc54_5 ≤ 65536 by first | assumption | omega)
    · intro e he h1 h2
      cases he
    · exact INV0_eq (EQD_glue hS_c54 hA_c54 sd sn (by decide +kernel)) hI0
    · exact fun h => INV1_eq (EQD_glue hS_c54 hA_c54 sd sn (by decide +kernel)) (hI1 h)
    · exact fun h => INV2_eq (EQD_glue hS_c54 hA_c54 sd sn (by decide +kernel)) (hI2 h)
    · exact fun h => INV3_eq (EQD_glue hS_c54 hA_c54 sd sn (by decide +kernel)) (hI3 h)
    · exact fun h => INV4_eq (EQD_glue hS_c54 hA_c54 sd sn (by decide +kernel)) (hI4 h)
    · exact fun h => INV5_eq (EQD_glue hS_c54 hA_c54 sd sn (by decide +kernel)) (hI5 h)
    · exact fun h => INV6_eq (EQD_glue hS_c54 hA_c54 sd sn (by decide +kernel)) (hI6 h)
    · exact fun h => INV7_eq (EQD_glue hS_c54 hA_c54 sd sn (by decide +kernel)) (hI7 h)
    · exact fun h => INV8_eq (EQD_glue hS_c54 hA_c54 sd sn (by decide +kernel)) (hI8 h)
    · exact fun h => INV9_eq (EQD_glue hS_c54 hA_c54 sd sn (by decide +kernel)) (hI9 h)
  · skip
    have sd : SD [] (pul ι_reada0 D) (pul ι_reada0 D) := SD_refl
    have sn : SD [] (pul ι_reada0 N) (pul ι_reada0 N) := SD_refl
    refine k z _ (glu ι_reada0 D (pul ι_reada0 D)) (glu ι_reada0 N (pul ι_reada0 N)) (glu ι_reada0 F Fₚ) (glu ι_reada0 A Aₚ) _ _ ⟨HWs_call HX VPH_3 vs_reada0 hp Hₚ O, STC_call HT HX vs_reada0 hp O, hg0, PFI_glue (dl := []) hPF sf sa sd (by decide +kernel) (rexc_of (l := []) (by decide +kernel) ?_), ABS_glue hAB sf (by decide +kernel), NZ_glue hNZ vs_reada0 hp sn (by decide +kernel), hGI, ?_, ?_, ?_, ?_, ?_, ?_, ?_, ?_, ?_, ?_⟩ ⟨(STP0_call (STY_call vs_reada0 hp O) (sd 0 rfl) (RM_call vs_reada0 O)), unt1_of (x := 10) (by decide +kernel) (fun p hp => funext (sa p hp))⟩ (show inr z by first | assumption | omega)
    · intro e he h1 h2
      cases he
    · exact INV0_eq (EQD_glue sf sa sd sn (by decide +kernel)) hI0
    · exact fun h => INV1_eq (EQD_glue sf sa sd sn (by decide +kernel)) (hI1 h)
    · exact fun h => INV2_eq (EQD_glue sf sa sd sn (by decide +kernel)) (hI2 h)
    · exact fun h => INV3_eq (EQD_glue sf sa sd sn (by decide +kernel)) (hI3 h)
    · exact fun h => INV4_eq (EQD_glue sf sa sd sn (by decide +kernel)) (hI4 h)
    · exact fun h => INV5_eq (EQD_glue sf sa sd sn (by decide +kernel)) (hI5 h)
    · exact fun h => INV6_eq (EQD_glue sf sa sd sn (by decide +kernel)) (hI6 h)
    · exact fun h => INV7_eq (EQD_glue sf sa sd sn (by decide +kernel)) (hI7 h)
    · exact fun h => INV8_eq (EQD_glue sf sa sd sn (by decide +kernel)) (hI8 h)
    · exact fun h => INV9_eq (EQD_glue sf sa sd sn (by decide +kernel)) (hI9 h)
def ι_reada1 : List Nat := [0, 1, 2, 3, 4, 5, 6, 7, 8, 9, 30]
theorem vs_reada1 : VS VPH V18_c21_va ι_reada1 := VS_of (by decide +kernel)
set_option maxRecDepth 20000 in
theorem T_reada1 {g : Nat → Bool} {σ : rS} {D N : Nat → Nat} {F : hF} {A : hA} {d c s : Nat} {Q : wQ} (X : PHI g σ D N F A)  {a1 a3 a4 : Int}  (h0 : inr a1) (h2 : inr a3) (h3 : inr a4)  (hc54 : ∀ (tc54_1 : Int) (tc54_4 : Int) (tc54_5 : Int) (ls : rO) (σₚ : rS) (Dₚ Nₚ : Nat → Nat) (Fₚ : hF) (Aₚ : hA) (cₚ sₚ : Nat), PHI g σₚ Dₚ Nₚ Fₚ Aₚ → STP g σ D N A c s g σₚ Dₚ Nₚ Aₚ cₚ sₚ → (0 ≤ tc54_1 ∧ tc54_1 ≤ 3) → (0 ≤ tc54_4 ∧ tc54_4 ≤ 4) → (0 ≤ tc54_5 ∧ tc54_5 ≤ 65536) → Ew 18 (d + 1) 54 ls [.ref (Dₚ 30), I tc54_5, I tc54_4, .ref (Dₚ 4), .ref (Dₚ 0), I tc54_1, .ref (Dₚ 0)] σₚ cₚ sₚ Q) (k : ∀ (z : Int) (σₚ : rS) (Dₚ Nₚ : Nat → Nat) (Fₚ : hF) (Aₚ : hA) (cₚ sₚ : Nat), PHI g σₚ Dₚ Nₚ Fₚ Aₚ → STP g σ D N A c s g σₚ Dₚ Nₚ Aₚ cₚ sₚ → (inr z) → Q (some (I z)) σₚ cₚ sₚ) : Ew 18 (d + 1) 0 (rargs 0 [.ref (D 0), I a1, I 1, I a3, I a4]) [] σ c s Q := by
  obtain ⟨HX, HT, hg0, hPF, hAB, hNZ, hGI, hI0, hI1, hI2, hI3, hI4, hI5, hI6, hI7, hI8, hI9⟩ := X
  have hset := SETI_f hI0.2.2.2.2.2.2.2.2.2.2.2.2.2.2.2.2.2
  have hJ0 := hI0
  unfold INV0 at hJ0
  obtain ⟨f0_0, f0_1, f0_2, f0_3, f0_4, f0_5, f0_6, f0_7, f0_8, f0_9, f0_10, f0_11, f0_12, f0_13, f0_14, f0_15, f0_16, f0_17⟩ := hJ0
  have hp : ∀ x, x < (V18_c21_va).length → SPH g (ι_reada1.getD x 0) = true := SPH_of (gs := [0]) (by intro j hj; simp at hj; subst hj; exact hg0) rfl (by decide +kernel)
  refine C18_c21_va (D := pul ι_reada1 D) (N := pul ι_reada1 N) (F := pul ι_reada1 F) (A := pul ι_reada1 A) (HWs_sub HX vs_reada1 hp) (show F 0 0 = (D 1 : Int) from hPF (0, 0, 0, 1) (List.mem_of_getElem? (i := 0) rfl) hg0 hg0) (show A 1 0 = (D 2 : Int) from hPF (1, 1, 0, 2) (List.mem_of_getElem? (i := 1) rfl) hg0 hg0) (show F 2 0 = (D 3 : Int) from hPF (0, 2, 0, 3) (List.mem_of_getElem? (i := 2) rfl) hg0 hg0) (show A 1 1 = (D 4 : Int) from hPF (1, 1, 1, 4) (List.mem_of_getElem? (i := 3) rfl) hg0 hg0) (show F 4 0 = (D 5 : Int) from hPF (0, 4, 0, 5) (List.mem_of_getElem? (i := 4) rfl) hg0 hg0) (show A 1 2 = (D 6 : Int) from hPF (1, 1, 2, 6) (List.mem_of_getElem? (i := 5) rfl) hg0 hg0) (show F 6 0 = (D 7 : Int) from hPF (0, 6, 0, 7) (List.mem_of_getElem? (i := 6) rfl) hg0 hg0) (show A 1 3 = (D 8 : Int) from hPF (1, 1, 3, 8) (List.mem_of_getElem? (i := 7) rfl) hg0 hg0) (show F 8 0 = (D 9 : Int) from hPF (0, 8, 0, 9) (List.mem_of_getElem? (i := 8) rfl) hg0 hg0) (show F 0 14 = (D 30 : Int) from hPF (0, 0, 14, 30) (List.mem_of_getElem? (i := 29) rfl) hg0 hg0) (N 1 : Int) rfl (N 3 : Int) rfl (N 5 : Int) rfl (N 7 : Int) rfl (N 9 : Int) rfl (N 30 : Int) rfl (F 2 1) rfl (F 4 1) rfl (F 6 1) rfl (F 8 1) rfl   (show inr (a1) by first | assumption | omega) (show inr (1) by first | assumption | omega) (show inr (a3) by first | assumption | omega) (show inr (a4) by first | assumption | omega) (show ((N 1 : Int)) = 4 by first | assumption | omega) (show 0 ≤ (F 2 1) ∧ (F 2 1) ≤ ((N 3 : Int)) ∧ ((N 3 : Int)) ≤ 65536 by first | assumption | omega) (show 0 ≤ (F 4 1) ∧ (F 4 1) ≤ ((N 5 : Int)) ∧ ((N 5 : Int)) ≤ 65536 by first | assumption | omega) (show 0 ≤ (F 6 1) ∧ (F 6 1) ≤ ((N 7 : Int)) ∧ ((N 7 : Int)) ≤ 65536 by first | assumption | omega) (show 0 ≤ (F 8 1) ∧ (F 8 1) ≤ ((N 9 : Int)) ∧ ((N 9 : Int)) ≤ 65536 by first | assumption | omega) (fun tc54_1 tc54_4 tc54_5 ls σ F_c54 A_c54   H O hS_c54 hA_c54     jc54_0 jc54_1 jc54_2 jc54_3 jc54_4 jc54_5 => ?_) (fun z σₚ Fₚ Aₚ Hₚ O sf sa q0 => ?_)
  · skip
    have sd : SD [] (pul ι_reada1 D) (pul ι_reada1 D) := SD_refl
    have sn : SD [] (pul ι_reada1 N) (pul ι_reada1 N) := SD_refl
    refine hc54 tc54_1 tc54_4 tc54_5  _ _ (glu ι_reada1 D (pul ι_reada1 D)) (glu ι_reada1 N (pul ι_reada1 N)) (glu ι_reada1 F F_c54) (glu ι_reada1 A A_c54) _ _ ⟨HWs_call HX VPH_3 vs_reada1 hp H O, STC_call HT HX vs_reada1 hp O, hg0, PFI_glue (dl := []) hPF hS_c54 hA_c54 sd (by decide +kernel) (rexc_of (l := []) (by decide +kernel) ?_), ABS_glue hAB hS_c54 (by decide +kernel), NZ_glue hNZ vs_reada1 hp sn (by decide +kernel), hGI, ?_, ?_, ?_, ?_, ?_, ?_, ?_, ?_, ?_, ?_⟩ ⟨(STP0_call (STY_call vs_reada1 hp O) (sd 0 rfl) (RM_call vs_reada1 O)), unt1_of (x := 10) (by decide +kernel) (fun p hp => funext (hA_c54 p hp))⟩  (show 0 ≤ tc54_1 ∧ tc54_1 ≤ 3 by first | assumption | omega) (show 0 ≤ tc54_4 ∧ tc54_4 ≤ 4 by first | assumption | omega) (show 0 ≤ tc54_5 ∧ tc54_5 ≤ 65536 by first | assumption | omega)
    · intro e he h1 h2
      cases he
    · exact INV0_eq (EQD_glue hS_c54 hA_c54 sd sn (by decide +kernel)) hI0
    · exact fun h => INV1_eq (EQD_glue hS_c54 hA_c54 sd sn (by decide +kernel)) (hI1 h)
    · exact fun h => INV2_eq (EQD_glue hS_c54 hA_c54 sd sn (by decide +kernel)) (hI2 h)
    · exact fun h => INV3_eq (EQD_glue hS_c54 hA_c54 sd sn (by decide +kernel)) (hI3 h)
    · exact fun h => INV4_eq (EQD_glue hS_c54 hA_c54 sd sn (by decide +kernel)) (hI4 h)
    · exact fun h => INV5_eq (EQD_glue hS_c54 hA_c54 sd sn (by decide +kernel)) (hI5 h)
    · exact fun h => INV6_eq (EQD_glue hS_c54 hA_c54 sd sn (by decide +kernel)) (hI6 h)
    · exact fun h => INV7_eq (EQD_glue hS_c54 hA_c54 sd sn (by decide +kernel)) (hI7 h)
    · exact fun h => INV8_eq (EQD_glue hS_c54 hA_c54 sd sn (by decide +kernel)) (hI8 h)
    · exact fun h => INV9_eq (EQD_glue hS_c54 hA_c54 sd sn (by decide +kernel)) (hI9 h)
  · skip
    have sd : SD [] (pul ι_reada1 D) (pul ι_reada1 D) := SD_refl
    have sn : SD [] (pul ι_reada1 N) (pul ι_reada1 N) := SD_refl
    refine k z _ (glu ι_reada1 D (pul ι_reada1 D)) (glu ι_reada1 N (pul ι_reada1 N)) (glu ι_reada1 F Fₚ) (glu ι_reada1 A Aₚ) _ _ ⟨HWs_call HX VPH_3 vs_reada1 hp Hₚ O, STC_call HT HX vs_reada1 hp O, hg0, PFI_glue (dl := []) hPF sf sa sd (by decide +kernel) (rexc_of (l := []) (by decide +kernel) ?_), ABS_glue hAB sf (by decide +kernel), NZ_glue hNZ vs_reada1 hp sn (by decide +kernel), hGI, ?_, ?_, ?_, ?_, ?_, ?_, ?_, ?_, ?_, ?_⟩ ⟨(STP0_call (STY_call vs_reada1 hp O) (sd 0 rfl) (RM_call vs_reada1 O)), unt1_of (x := 10) (by decide +kernel) (fun p hp => funext (sa p hp))⟩ (show inr z by first | assumption | omega)
    · intro e he h1 h2
      cases he
    · exact INV0_eq (EQD_glue sf sa sd sn (by decide +kernel)) hI0
    · exact fun h => INV1_eq (EQD_glue sf sa sd sn (by decide +kernel)) (hI1 h)
    · exact fun h => INV2_eq (EQD_glue sf sa sd sn (by decide +kernel)) (hI2 h)
    · exact fun h => INV3_eq (EQD_glue sf sa sd sn (by decide +kernel)) (hI3 h)
    · exact fun h => INV4_eq (EQD_glue sf sa sd sn (by decide +kernel)) (hI4 h)
    · exact fun h => INV5_eq (EQD_glue sf sa sd sn (by decide +kernel)) (hI5 h)
    · exact fun h => INV6_eq (EQD_glue sf sa sd sn (by decide +kernel)) (hI6 h)
    · exact fun h => INV7_eq (EQD_glue sf sa sd sn (by decide +kernel)) (hI7 h)
    · exact fun h => INV8_eq (EQD_glue sf sa sd sn (by decide +kernel)) (hI8 h)
    · exact fun h => INV9_eq (EQD_glue sf sa sd sn (by decide +kernel)) (hI9 h)
def ι_reada2 : List Nat := [0, 1, 2, 3, 4, 5, 6, 7, 8, 9, 30]
theorem vs_reada2 : VS VPH V18_c22_va ι_reada2 := VS_of (by decide +kernel)
set_option maxRecDepth 20000 in
theorem T_reada2 {g : Nat → Bool} {σ : rS} {D N : Nat → Nat} {F : hF} {A : hA} {d c s : Nat} {Q : wQ} (X : PHI g σ D N F A)  {a1 a3 a4 : Int}  (h0 : inr a1) (h2 : inr a3) (h3 : inr a4)  (hc54 : ∀ (tc54_1 : Int) (tc54_4 : Int) (tc54_5 : Int) (ls : rO) (σₚ : rS) (Dₚ Nₚ : Nat → Nat) (Fₚ : hF) (Aₚ : hA) (cₚ sₚ : Nat), PHI g σₚ Dₚ Nₚ Fₚ Aₚ → STP g σ D N A c s g σₚ Dₚ Nₚ Aₚ cₚ sₚ → (0 ≤ tc54_1 ∧ tc54_1 ≤ 3) → (0 ≤ tc54_4 ∧ tc54_4 ≤ 4) → (0 ≤ tc54_5 ∧ tc54_5 ≤ 65536) → Ew 18 (d + 1) 54 ls [.ref (Dₚ 30), I tc54_5, I tc54_4, .ref (Dₚ 6), .ref (Dₚ 0), I tc54_1, .ref (Dₚ 0)] σₚ cₚ sₚ Q) (k : ∀ (z : Int) (σₚ : rS) (Dₚ Nₚ : Nat → Nat) (Fₚ : hF) (Aₚ : hA) (cₚ sₚ : Nat), PHI g σₚ Dₚ Nₚ Fₚ Aₚ → STP g σ D N A c s g σₚ Dₚ Nₚ Aₚ cₚ sₚ → (inr z) → Q (some (I z)) σₚ cₚ sₚ) : Ew 18 (d + 1) 0 (rargs 0 [.ref (D 0), I a1, I 2, I a3, I a4]) [] σ c s Q := by
  obtain ⟨HX, HT, hg0, hPF, hAB, hNZ, hGI, hI0, hI1, hI2, hI3, hI4, hI5, hI6, hI7, hI8, hI9⟩ := X
  have hset := SETI_f hI0.2.2.2.2.2.2.2.2.2.2.2.2.2.2.2.2.2
  have hJ0 := hI0
  unfold INV0 at hJ0
  obtain ⟨f0_0, f0_1, f0_2, f0_3, f0_4, f0_5, f0_6, f0_7, f0_8, f0_9, f0_10, f0_11, f0_12, f0_13, f0_14, f0_15, f0_16, f0_17⟩ := hJ0
  have hp : ∀ x, x < (V18_c22_va).length → SPH g (ι_reada2.getD x 0) = true := SPH_of (gs := [0]) (by intro j hj; simp at hj; subst hj; exact hg0) rfl (by decide +kernel)
  refine C18_c22_va (D := pul ι_reada2 D) (N := pul ι_reada2 N) (F := pul ι_reada2 F) (A := pul ι_reada2 A) (HWs_sub HX vs_reada2 hp) (show F 0 0 = (D 1 : Int) from hPF (0, 0, 0, 1) (List.mem_of_getElem? (i := 0) rfl) hg0 hg0) (show A 1 0 = (D 2 : Int) from hPF (1, 1, 0, 2) (List.mem_of_getElem? (i := 1) rfl) hg0 hg0) (show F 2 0 = (D 3 : Int) from hPF (0, 2, 0, 3) (List.mem_of_getElem? (i := 2) rfl) hg0 hg0) (show A 1 1 = (D 4 : Int) from hPF (1, 1, 1, 4) (List.mem_of_getElem? (i := 3) rfl) hg0 hg0) (show F 4 0 = (D 5 : Int) from hPF (0, 4, 0, 5) (List.mem_of_getElem? (i := 4) rfl) hg0 hg0) (show A 1 2 = (D 6 : Int) from hPF (1, 1, 2, 6) (List.mem_of_getElem? (i := 5) rfl) hg0 hg0) (show F 6 0 = (D 7 : Int) from hPF (0, 6, 0, 7) (List.mem_of_getElem? (i := 6) rfl) hg0 hg0) (show A 1 3 = (D 8 : Int) from hPF (1, 1, 3, 8) (List.mem_of_getElem? (i := 7) rfl) hg0 hg0) (show F 8 0 = (D 9 : Int) from hPF (0, 8, 0, 9) (List.mem_of_getElem? (i := 8) rfl) hg0 hg0) (show F 0 14 = (D 30 : Int) from hPF (0, 0, 14, 30) (List.mem_of_getElem? (i := 29) rfl) hg0 hg0) (N 1 : Int) rfl (N 3 : Int) rfl (N 5 : Int) rfl (N 7 : Int) rfl (N 9 : Int) rfl (N 30 : Int) rfl (F 2 1) rfl (F 4 1) rfl (F 6 1) rfl (F 8 1) rfl   (show inr (a1) by first | assumption | omega) (show inr (2) by first | assumption | omega) (show inr (a3) by first | assumption | omega) (show inr (a4) by first | assumption | omega) (show ((N 1 : Int)) = 4 by first | assumption | omega) (show 0 ≤ (F 2 1) ∧ (F 2 1) ≤ ((N 3 : Int)) ∧ ((N 3 : Int)) ≤ 65536 by first | assumption | omega) (show 0 ≤ (F 4 1) ∧ (F 4 1) ≤ ((N 5 : Int)) ∧ ((N 5 : Int)) ≤ 65536 by first | assumption | omega) (show 0 ≤ (F 6 1) ∧ (F 6 1) ≤ ((N 7 : Int)) ∧ ((N 7 : Int)) ≤ 65536 by first | assumption | omega) (show 0 ≤ (F 8 1) ∧ (F 8 1) ≤ ((N 9 : Int)) ∧ ((N 9 : Int)) ≤ 65536 by first | assumption | omega) (fun tc54_1 tc54_4 tc54_5 ls σ F_c54 A_c54   H O hS_c54 hA_c54     jc54_0 jc54_1 jc54_2 jc54_3 jc54_4 jc54_5 => ?_) (fun z σₚ Fₚ Aₚ Hₚ O sf sa q0 => ?_)
  · skip
    have sd : SD [] (pul ι_reada2 D) (pul ι_reada2 D) := SD_refl
    have sn : SD [] (pul ι_reada2 N) (pul ι_reada2 N) := SD_refl
    refine hc54 tc54_1 tc54_4 tc54_5  _ _ (glu ι_reada2 D (pul ι_reada2 D)) (glu ι_reada2 N (pul ι_reada2 N)) (glu ι_reada2 F F_c54) (glu ι_reada2 A A_c54) _ _ ⟨HWs_call HX VPH_3 vs_reada2 hp H O, STC_call HT HX vs_reada2 hp O, hg0, PFI_glue (dl := []) hPF hS_c54 hA_c54 sd (by decide +kernel) (rexc_of (l := []) (by decide +kernel) ?_), ABS_glue hAB hS_c54 (by decide +kernel), NZ_glue hNZ vs_reada2 hp sn (by decide +kernel), hGI, ?_, ?_, ?_, ?_, ?_, ?_, ?_, ?_, ?_, ?_⟩ ⟨(STP0_call (STY_call vs_reada2 hp O) (sd 0 rfl) (RM_call vs_reada2 O)), unt1_of (x := 10) (by decide +kernel) (fun p hp => funext (hA_c54 p hp))⟩  (show 0 ≤ tc54_1 ∧ tc54_1 ≤ 3 by first | assumption | omega) (show 0 ≤ tc54_4 ∧ tc54_4 ≤ 4 by first | assumption | omega) (show 0 ≤ tc54_5 ∧ tc54_5 ≤ 65536 by first | assumption | omega)
    · intro e he h1 h2
      cases he
    · exact INV0_eq (EQD_glue hS_c54 hA_c54 sd sn (by decide +kernel)) hI0
    · exact fun h => INV1_eq (EQD_glue hS_c54 hA_c54 sd sn (by decide +kernel)) (hI1 h)
    · exact fun h => INV2_eq (EQD_glue hS_c54 hA_c54 sd sn (by decide +kernel)) (hI2 h)
    · exact fun h => INV3_eq (EQD_glue hS_c54 hA_c54 sd sn (by decide +kernel)) (hI3 h)
    · exact fun h => INV4_eq (EQD_glue hS_c54 hA_c54 sd sn (by decide +kernel)) (hI4 h)
    · exact fun h => INV5_eq (EQD_glue hS_c54 hA_c54 sd sn (by decide +kernel)) (hI5 h)
    · exact fun h => INV6_eq (EQD_glue hS_c54 hA_c54 sd sn (by decide +kernel)) (hI6 h)
    · exact fun h => INV7_eq (EQD_glue hS_c54 hA_c54 sd sn (by decide +kernel)) (hI7 h)
    · exact fun h => INV8_eq (EQD_glue hS_c54 hA_c54 sd sn (by decide +kernel)) (hI8 h)
    · exact fun h => INV9_eq (EQD_glue hS_c54 hA_c54 sd sn (by decide +kernel)) (hI9 h)
  · skip
    have sd : SD [] (pul ι_reada2 D) (pul ι_reada2 D) := SD_refl
    have sn : SD [] (pul ι_reada2 N) (pul ι_reada2 N) := SD_refl
    refine k z _ (glu ι_reada2 D (pul ι_reada2 D)) (glu ι_reada2 N (pul ι_reada2 N)) (glu ι_reada2 F Fₚ) (glu ι_reada2 A Aₚ) _ _ ⟨HWs_call HX VPH_3 vs_reada2 hp Hₚ O, STC_call HT HX vs_reada2 hp O, hg0, PFI_glue (dl := []) hPF sf sa sd (by decide +kernel) (rexc_of (l := []) (by decide +kernel) ?_), ABS_glue hAB sf (by decide +kernel), NZ_glue hNZ vs_reada2 hp sn (by decide +kernel), hGI, ?_, ?_, ?_, ?_, ?_, ?_, ?_, ?_, ?_, ?_⟩ ⟨(STP0_call (STY_call vs_reada2 hp O) (sd 0 rfl) (RM_call vs_reada2 O)), unt1_of (x := 10) (by decide +kernel) (fun p hp => funext (sa p hp))⟩ (show inr z by first | assumption | omega)
    · intro e he h1 h2
      cases he
    · exact INV0_eq (EQD_glue sf sa sd sn (by decide +kernel)) hI0
    · exact fun h => INV1_eq (EQD_glue sf sa sd sn (by decide +kernel)) (hI1 h)
    · exact fun h => INV2_eq (EQD_glue sf sa sd sn (by decide +kernel)) (hI2 h)
    · exact fun h => INV3_eq (EQD_glue sf sa sd sn (by decide +kernel)) (hI3 h)
    · exact fun h => INV4_eq (EQD_glue sf sa sd sn (by decide +kernel)) (hI4 h)
    · exact fun h => INV5_eq (EQD_glue sf sa sd sn (by decide +kernel)) (hI5 h)
    · exact fun h => INV6_eq (EQD_glue sf sa sd sn (by decide +kernel)) (hI6 h)
    · exact fun h => INV7_eq (EQD_glue sf sa sd sn (by decide +kernel)) (hI7 h)
    · exact fun h => INV8_eq (EQD_glue sf sa sd sn (by decide +kernel)) (hI8 h)
    · exact fun h => INV9_eq (EQD_glue sf sa sd sn (by decide +kernel)) (hI9 h)
def ι_reada3 : List Nat := [0, 1, 2, 3, 4, 5, 6, 7, 8, 9, 30]
theorem vs_reada3 : VS VPH V18_c23_va ι_reada3 := VS_of (by decide +kernel)
set_option maxRecDepth 20000 in
theorem T_reada3 {g : Nat → Bool} {σ : rS} {D N : Nat → Nat} {F : hF} {A : hA} {d c s : Nat} {Q : wQ} (X : PHI g σ D N F A)  {a1 a3 a4 : Int}  (h0 : inr a1) (h2 : inr a3) (h3 : inr a4)  (hc54 : ∀ (tc54_1 : Int) (tc54_4 : Int) (tc54_5 : Int) (ls : rO) (σₚ : rS) (Dₚ Nₚ : Nat → Nat) (Fₚ : hF) (Aₚ : hA) (cₚ sₚ : Nat), PHI g σₚ Dₚ Nₚ Fₚ Aₚ → STP g σ D N A c s g σₚ Dₚ Nₚ Aₚ cₚ sₚ → (0 ≤ tc54_1 ∧ tc54_1 ≤ 3) → (0 ≤ tc54_4 ∧ tc54_4 ≤ 4) → (0 ≤ tc54_5 ∧ tc54_5 ≤ 65536) → Ew 18 (d + 1) 54 ls [.ref (Dₚ 30), I tc54_5, I tc54_4, .ref (Dₚ 8), .ref (Dₚ 0), I tc54_1, .ref (Dₚ 0)] σₚ cₚ sₚ Q) (k : ∀ (z : Int) (σₚ : rS) (Dₚ Nₚ : Nat → Nat) (Fₚ : hF) (Aₚ : hA) (cₚ sₚ : Nat), PHI g σₚ Dₚ Nₚ Fₚ Aₚ → STP g σ D N A c s g σₚ Dₚ Nₚ Aₚ cₚ sₚ → (inr z) → Q (some (I z)) σₚ cₚ sₚ) : Ew 18 (d + 1) 0 (rargs 0 [.ref (D 0), I a1, I 3, I a3, I a4]) [] σ c s Q := by
  obtain ⟨HX, HT, hg0, hPF, hAB, hNZ, hGI, hI0, hI1, hI2, hI3, hI4, hI5, hI6, hI7, hI8, hI9⟩ := X
  have hset := SETI_f hI0.2.2.2.2.2.2.2.2.2.2.2.2.2.2.2.2.2
  have hJ0 := hI0
  unfold INV0 at hJ0
  obtain ⟨f0_0, f0_1, f0_2, f0_3, f0_4, f0_5, f0_6, f0_7, f0_8, f0_9, f0_10, f0_11, f0_12, f0_13, f0_14, f0_15, f0_16, f0_17⟩ := hJ0
  have hp : ∀ x, x < (V18_c23_va).length → SPH g (ι_reada3.getD x 0) = true := SPH_of (gs := [0]) (by intro j hj; simp at hj; subst hj; exact hg0) rfl (by decide +kernel)
  refine C18_c23_va (D := pul ι_reada3 D) (N := pul ι_reada3 N) (F := pul ι_reada3 F) (A := pul ι_reada3 A) (HWs_sub HX vs_reada3 hp) (show F 0 0 = (D 1 : Int) from hPF (0, 0, 0, 1) (List.mem_of_getElem? (i := 0) rfl) hg0 hg0) (show A 1 0 = (D 2 : Int) from hPF (1, 1, 0, 2) (List.mem_of_getElem? (i := 1) rfl) hg0 hg0) (show F 2 0 = (D 3 : Int) from hPF (0, 2, 0, 3) (List.mem_of_getElem? (i := 2) rfl) hg0 hg0) (show A 1 1 = (D 4 : Int) from hPF (1, 1, 1, 4) (List.mem_of_getElem? (i := 3) rfl) hg0 hg0) (show F 4 0 = (D 5 : Int) from hPF (0, 4, 0, 5) (List.mem_of_getElem? (i := 4) rfl) hg0 hg0) (show A 1 2 = (D 6 : Int) from hPF (1, 1, 2, 6) (List.mem_of_getElem? (i := 5) rfl) hg0 hg0) (show F 6 0 = (D 7 : Int) from hPF (0, 6, 0, 7) (List.mem_of_getElem? (i := 6) rfl) hg0 hg0) (show A 1 3 = (D 8 : Int) from hPF (1, 1, 3, 8) (List.mem_of_getElem? (i := 7) rfl) hg0 hg0) (show F 8 0 = (D 9 : Int) from hPF (0, 8, 0, 9) (List.mem_of_getElem? (i := 8) rfl) hg0 hg0) (show F 0 14 = (D 30 : Int) from hPF (0, 0, 14, 30) (List.mem_of_getElem? (i := 29) rfl) hg0 hg0) (N 1 : Int) rfl (N 3 : Int) rfl (N 5 : Int) rfl (N 7 : Int) rfl (N 9 : Int) rfl (N 30 : Int) rfl (F 2 1) rfl (F 4 1) rfl (F 6 1) rfl (F 8 1) rfl   (show inr (a1) by first | assumption | omega) (show inr (3) by first | assumption | omega) (show inr (a3) by first | assumption | omega) (show inr (a4) by first | assumption | omega) (show ((N 1 : Int)) = 4 by first | assumption | omega) (show 0 ≤ (F 2 1) ∧ (F 2 1) ≤ ((N 3 : Int)) ∧ ((N 3 : Int)) ≤ 65536 by first | assumption | omega) (show 0 ≤ (F 4 1) ∧ (F 4 1) ≤ ((N 5 : Int)) ∧ ((N 5 : Int)) ≤ 65536 by first | assumption | omega) (show 0 ≤ (F 6 1) ∧ (F 6 1) ≤ ((N 7 : Int)) ∧ ((N 7 : Int)) ≤ 65536 by first | assumption | omega) (show 0 ≤ (F 8 1) ∧ (F 8 1) ≤ ((N 9 : Int)) ∧ ((N 9 : Int)) ≤ 65536 by first | assumption | omega) (fun tc54_1 tc54_4 tc54_5 ls σ F_c54 A_c54   H O hS_c54 hA_c54     jc54_0 jc54_1 jc54_2 jc54_3 jc54_4 jc54_5 => ?_) (fun z σₚ Fₚ Aₚ Hₚ O sf sa q0 => ?_)
  · skip
    have sd : SD [] (pul ι_reada3 D) (pul ι_reada3 D) := SD_refl
    have sn : SD [] (pul ι_reada3 N) (pul ι_reada3 N) := SD_refl
    refine hc54 tc54_1 tc54_4 tc54_5  _ _ (glu ι_reada3 D (pul ι_reada3 D)) (glu ι_reada3 N (pul ι_reada3 N)) (glu ι_reada3 F F_c54) (glu ι_reada3 A A_c54) _ _ ⟨HWs_call HX VPH_3 vs_reada3 hp H O, STC_call HT HX vs_reada3 hp O, hg0, PFI_glue (dl := []) hPF hS_c54 hA_c54 sd (by decide +kernel) (rexc_of (l := []) (by decide +kernel) ?_), ABS_glue hAB hS_c54 (by decide +kernel), NZ_glue hNZ vs_reada3 hp sn (by decide +kernel), hGI, ?_, ?_, ?_, ?_, ?_, ?_, ?_, ?_, ?_, ?_⟩ ⟨(STP0_call (STY_call vs_reada3 hp O) (sd 0 rfl) (RM_call vs_reada3 O)), unt1_of (x := 10) (by decide +kernel) (fun p hp => funext (hA_c54 p hp))⟩  (show 0 ≤ tc54_1 ∧ tc54_1 ≤ 3 by first | assumption | omega) (show 0 ≤ tc54_4 ∧ tc54_4 ≤ 4 by first | assumption | omega) (show 0 ≤ tc54_5 ∧ tc54_5 ≤ 65536 by first | assumption | omega)
    · intro e he h1 h2
      cases he
    · exact INV0_eq (EQD_glue hS_c54 hA_c54 sd sn (by decide +kernel)) hI0
    · exact fun h => INV1_eq (EQD_glue hS_c54 hA_c54 sd sn (by decide +kernel)) (hI1 h)
    · exact fun h => INV2_eq (EQD_glue hS_c54 hA_c54 sd sn (by decide +kernel)) (hI2 h)
    · exact fun h => INV3_eq (EQD_glue hS_c54 hA_c54 sd sn (by decide +kernel)) (hI3 h)
    · exact fun h => INV4_eq (EQD_glue hS_c54 hA_c54 sd sn (by decide +kernel)) (hI4 h)
    · exact fun h => INV5_eq (EQD_glue hS_c54 hA_c54 sd sn (by decide +kernel)) (hI5 h)
    · exact fun h => INV6_eq (EQD_glue hS_c54 hA_c54 sd sn (by decide +kernel)) (hI6 h)
    · exact fun h => INV7_eq (EQD_glue hS_c54 hA_c54 sd sn (by decide +kernel)) (hI7 h)
    · exact fun h => INV8_eq (EQD_glue hS_c54 hA_c54 sd sn (by decide +kernel)) (hI8 h)
    · exact fun h => INV9_eq (EQD_glue hS_c54 hA_c54 sd sn (by decide +kernel)) (hI9 h)
  · skip
    have sd : SD [] (pul ι_reada3 D) (pul ι_reada3 D) := SD_refl
    have sn : SD [] (pul ι_reada3 N) (pul ι_reada3 N) := SD_refl
    refine k z _ (glu ι_reada3 D (pul ι_reada3 D)) (glu ι_reada3 N (pul ι_reada3 N)) (glu ι_reada3 F Fₚ) (glu ι_reada3 A Aₚ) _ _ ⟨HWs_call HX VPH_3 vs_reada3 hp Hₚ O, STC_call HT HX vs_reada3 hp O, hg0, PFI_glue (dl := []) hPF sf sa sd (by decide +kernel) (rexc_of (l := []) (by decide +kernel) ?_), ABS_glue hAB sf (by decide +kernel), NZ_glue hNZ vs_reada3 hp sn (by decide +kernel), hGI, ?_, ?_, ?_, ?_, ?_, ?_, ?_, ?_, ?_, ?_⟩ ⟨(STP0_call (STY_call vs_reada3 hp O) (sd 0 rfl) (RM_call vs_reada3 O)), unt1_of (x := 10) (by decide +kernel) (fun p hp => funext (sa p hp))⟩ (show inr z by first | assumption | omega)
    · intro e he h1 h2
      cases he
    · exact INV0_eq (EQD_glue sf sa sd sn (by decide +kernel)) hI0
    · exact fun h => INV1_eq (EQD_glue sf sa sd sn (by decide +kernel)) (hI1 h)
    · exact fun h => INV2_eq (EQD_glue sf sa sd sn (by decide +kernel)) (hI2 h)
    · exact fun h => INV3_eq (EQD_glue sf sa sd sn (by decide +kernel)) (hI3 h)
    · exact fun h => INV4_eq (EQD_glue sf sa sd sn (by decide +kernel)) (hI4 h)
    · exact fun h => INV5_eq (EQD_glue sf sa sd sn (by decide +kernel)) (hI5 h)
    · exact fun h => INV6_eq (EQD_glue sf sa sd sn (by decide +kernel)) (hI6 h)
    · exact fun h => INV7_eq (EQD_glue sf sa sd sn (by decide +kernel)) (hI7 h)
    · exact fun h => INV8_eq (EQD_glue sf sa sd sn (by decide +kernel)) (hI8 h)
    · exact fun h => INV9_eq (EQD_glue sf sa sd sn (by decide +kernel)) (hI9 h)
def ι_readb : List Nat := [0, 1, 2, 3, 4, 5, 6, 7, 8, 9, 27, 28]
theorem vs_readb : VS VPH V18_vb ι_readb := VS_of (by decide +kernel)
set_option maxRecDepth 20000 in
theorem T_readb {g : Nat → Bool} {σ : rS} {D N : Nat → Nat} {F : hF} {A : hA} {d c s : Nat} {Q : wQ} (X : PHI g σ D N F A)  {y1 y2 : Int} {ls : rO}  (h0 : inr y1) (h1 : inr y2) (x_0 : 0 ≤ y1 ∧ y1 ≤ 3) (k : ∀ (z : Int) (σₚ : rS) (Dₚ Nₚ : Nat → Nat) (Fₚ : hF) (Aₚ : hA) (cₚ sₚ : Nat), PHI g σₚ Dₚ Nₚ Fₚ Aₚ → STP g σ D N A c s g σₚ Dₚ Nₚ Aₚ cₚ sₚ → (inr z) → Q (some (I z)) σₚ cₚ sₚ) : Ew 18 (d + 5) 57 ls [I y2, I y1, .ref (D 0)] σ c s Q := by
  obtain ⟨HX, HT, hg0, hPF, hAB, hNZ, hGI, hI0, hI1, hI2, hI3, hI4, hI5, hI6, hI7, hI8, hI9⟩ := X
  have hset := SETI_f hI0.2.2.2.2.2.2.2.2.2.2.2.2.2.2.2.2.2
  have hJ0 := hI0
  unfold INV0 at hJ0
  obtain ⟨f0_0, f0_1, f0_2, f0_3, f0_4, f0_5, f0_6, f0_7, f0_8, f0_9, f0_10, f0_11, f0_12, f0_13, f0_14, f0_15, f0_16, f0_17⟩ := hJ0
  have hp : ∀ x, x < (V18_vb).length → SPH g (ι_readb.getD x 0) = true := SPH_of (gs := [0]) (by intro j hj; simp at hj; subst hj; exact hg0) rfl (by decide +kernel)
  refine C18_vb (D := pul ι_readb D) (N := pul ι_readb N) (F := pul ι_readb F) (A := pul ι_readb A) (HWs_sub HX vs_readb hp) (show F 0 0 = (D 1 : Int) from hPF (0, 0, 0, 1) (List.mem_of_getElem? (i := 0) rfl) hg0 hg0) (show A 1 0 = (D 2 : Int) from hPF (1, 1, 0, 2) (List.mem_of_getElem? (i := 1) rfl) hg0 hg0) (show F 2 0 = (D 3 : Int) from hPF (0, 2, 0, 3) (List.mem_of_getElem? (i := 2) rfl) hg0 hg0) (show A 1 1 = (D 4 : Int) from hPF (1, 1, 1, 4) (List.mem_of_getElem? (i := 3) rfl) hg0 hg0) (show F 4 0 = (D 5 : Int) from hPF (0, 4, 0, 5) (List.mem_of_getElem? (i := 4) rfl) hg0 hg0) (show A 1 2 = (D 6 : Int) from hPF (1, 1, 2, 6) (List.mem_of_getElem? (i := 5) rfl) hg0 hg0) (show F 6 0 = (D 7 : Int) from hPF (0, 6, 0, 7) (List.mem_of_getElem? (i := 6) rfl) hg0 hg0) (show A 1 3 = (D 8 : Int) from hPF (1, 1, 3, 8) (List.mem_of_getElem? (i := 7) rfl) hg0 hg0) (show F 8 0 = (D 9 : Int) from hPF (0, 8, 0, 9) (List.mem_of_getElem? (i := 8) rfl) hg0 hg0) (show F 0 6 = (D 27 : Int) from hPF (0, 0, 6, 27) (List.mem_of_getElem? (i := 26) rfl) hg0 hg0) (show F 27 0 = (D 28 : Int) from hPF (0, 27, 0, 28) (List.mem_of_getElem? (i := 27) rfl) hg0 hg0) (N 1 : Int) rfl (N 3 : Int) rfl (N 5 : Int) rfl (N 7 : Int) rfl (N 9 : Int) rfl (N 28 : Int) rfl (F 2 1) rfl (F 4 1) rfl (F 6 1) rfl (F 8 1) rfl (F 27 1) rfl   (show inr y1 by first | assumption | omega) (show inr y2 by first | assumption | omega) (show ((N 1 : Int)) = 4 by first | assumption | omega) (show 0 ≤ (F 2 1) ∧ (F 2 1) ≤ ((N 3 : Int)) ∧ ((N 3 : Int)) ≤ 65536 by first | assumption | omega) (show 0 ≤ (F 4 1) ∧ (F 4 1) ≤ ((N 5 : Int)) ∧ ((N 5 : Int)) ≤ 65536 by first | assumption | omega) (show 0 ≤ (F 6 1) ∧ (F 6 1) ≤ ((N 7 : Int)) ∧ ((N 7 : Int)) ≤ 65536 by first | assumption | omega) (show 0 ≤ (F 8 1) ∧ (F 8 1) ≤ ((N 9 : Int)) ∧ ((N 9 : Int)) ≤ 65536 by first | assumption | omega) (show 0 ≤ (F 27 1) ∧ (F 27 1) ≤ ((N 28 : Int)) ∧ ((N 28 : Int)) ≤ 65536 by first | assumption | omega) (show 0 ≤ y1 ∧ y1 ≤ 3 by first | assumption | omega) (fun z σₚ Dₚ Nₚ Fₚ Aₚ cₚ sₚ Hₚ O sd sn sf sa pm3 pm5 pm7 pm9 m3 em3 m5 em5 m7 em7 m9 em9 y2_1 ey2_1 y4_1 ey4_1 y6_1 ey6_1 y8_1 ey8_1 q0 q1 q2 q3 q4 q5 => ?_)
  · skip
    subst em3 em5 em7 em9 ey2_1 ey4_1 ey6_1 ey8_1
    refine k z _ (glu ι_readb D Dₚ) (glu ι_readb N Nₚ) (glu ι_readb F Fₚ) (glu ι_readb A Aₚ) _ _ ⟨HWs_call HX VPH_3 vs_readb hp Hₚ O, STC_call HT HX vs_readb hp O, hg0, PFI_glue (dl := [3, 5, 7, 9]) hPF sf sa sd (by decide +kernel) (rexc_of (l := [(0, 2, 0, 3), (0, 4, 0, 5), (0, 6, 0, 7), (0, 8, 0, 9)]) (by decide +kernel) ?_), ABS_glue hAB sf (by decide +kernel), NZ_glue hNZ vs_readb hp sn (by decide +kernel), hGI, ?_, ?_, ?_, ?_, ?_, ?_, ?_, ?_, ?_, ?_⟩ ⟨(STP0_call (STY_call vs_readb hp O) (sd 0 rfl) (RM_call vs_readb O)), unt1_of (x := 10) (by decide +kernel) (fun p hp => funext (sa p hp))⟩ (show inr z by first | assumption | omega)
    · intro e he h1 h2
      simp only [List.mem_cons, List.not_mem_nil, or_false] at he
      rcases he with rfl | rfl | rfl | rfl
      · exact pm3
      · exact pm5
      · exact pm7
      · exact pm9
    · skip
      exact ⟨show 0 ≤ (Fₚ 2 1) ∧ (Fₚ 2 1) ≤ ((Nₚ 3 : Int)) ∧ ((Nₚ 3 : Int)) ≤ 65536 from (by first | assumption | omega), show 0 ≤ (Fₚ 4 1) ∧ (Fₚ 4 1) ≤ ((Nₚ 5 : Int)) ∧ ((Nₚ 5 : Int)) ≤ 65536 from (by first | assumption | omega), show 0 ≤ (Fₚ 6 1) ∧ (Fₚ 6 1) ≤ ((Nₚ 7 : Int)) ∧ ((Nₚ 7 : Int)) ≤ 65536 from (by first | assumption | omega), show 0 ≤ (Fₚ 8 1) ∧ (Fₚ 8 1) ≤ ((Nₚ 9 : Int)) ∧ ((Nₚ 9 : Int)) ≤ 65536 from (by first | assumption | omega), QF0_4_eq (EQD_glue sf sa sd sn (by decide +kernel)) f0_4, QF0_5_eq (EQD_glue sf sa sd sn (by decide +kernel)) f0_5, QF0_6_eq (EQD_glue sf sa sd sn (by decide +kernel)) f0_6, QF0_7_eq (EQD_glue sf sa sd sn (by decide +kernel)) f0_7, QF0_8_eq (EQD_glue sf sa sd sn (by decide +kernel)) f0_8, QF0_9_eq (EQD_glue sf sa sd sn (by decide +kernel)) f0_9, QF0_10_eq (EQD_glue sf sa sd sn (by decide +kernel)) f0_10, QF0_11_eq (EQD_glue sf sa sd sn (by decide +kernel)) f0_11, QF0_12_eq (EQD_glue sf sa sd sn (by decide +kernel)) f0_12, QF0_13_eq (EQD_glue sf sa sd sn (by decide +kernel)) f0_13, QF0_14_eq (EQD_glue sf sa sd sn (by decide +kernel)) f0_14, QF0_15_eq (EQD_glue sf sa sd sn (by decide +kernel)) f0_15, QF0_16_eq (EQD_glue sf sa sd sn (by decide +kernel)) f0_16, QF0_17_eq (EQD_glue sf sa sd sn (by decide +kernel)) f0_17⟩
    · exact fun h => INV1_eq (EQD_glue sf sa sd sn (by decide +kernel)) (hI1 h)
    · exact fun h => INV2_eq (EQD_glue sf sa sd sn (by decide +kernel)) (hI2 h)
    · exact fun h => INV3_eq (EQD_glue sf sa sd sn (by decide +kernel)) (hI3 h)
    · exact fun h => INV4_eq (EQD_glue sf sa sd sn (by decide +kernel)) (hI4 h)
    · exact fun h => INV5_eq (EQD_glue sf sa sd sn (by decide +kernel)) (hI5 h)
    · exact fun h => INV6_eq (EQD_glue sf sa sd sn (by decide +kernel)) (hI6 h)
    · exact fun h => INV7_eq (EQD_glue sf sa sd sn (by decide +kernel)) (hI7 h)
    · exact fun h => INV8_eq (EQD_glue sf sa sd sn (by decide +kernel)) (hI8 h)
    · exact fun h => INV9_eq (EQD_glue sf sa sd sn (by decide +kernel)) (hI9 h)
def ι_readx : List Nat := [0]
theorem vs_readx : VS VPH V18_vx ι_readx := VS_of (by decide +kernel)
set_option maxRecDepth 20000 in
theorem T_readx {g : Nat → Bool} {σ : rS} {D N : Nat → Nat} {F : hF} {A : hA} {d c s : Nat} {Q : wQ} (X : PHI g σ D N F A)  {a1 a2 a3 a4 : Int}  (h0 : inr a1) (h1 : inr a2) (h2 : inr a3) (h3 : inr a4) (x_0 : a2 < 0 ∨ 4 ≤ a2) (k : ∀ (z : Int) (σₚ : rS) (Dₚ Nₚ : Nat → Nat) (Fₚ : hF) (Aₚ : hA) (cₚ sₚ : Nat), PHI g σₚ Dₚ Nₚ Fₚ Aₚ → STP g σ D N A c s g σₚ Dₚ Nₚ Aₚ cₚ sₚ → (inr z) → Q (some (I z)) σₚ cₚ sₚ) : Ew 18 (d + 1) 0 (rargs 0 [.ref (D 0), I a1, I a2, I a3, I a4]) [] σ c s Q := by
  obtain ⟨HX, HT, hg0, hPF, hAB, hNZ, hGI, hI0, hI1, hI2, hI3, hI4, hI5, hI6, hI7, hI8, hI9⟩ := X
  have hset := SETI_f hI0.2.2.2.2.2.2.2.2.2.2.2.2.2.2.2.2.2
  have hJ0 := hI0
  unfold INV0 at hJ0
  obtain ⟨f0_0, f0_1, f0_2, f0_3, f0_4, f0_5, f0_6, f0_7, f0_8, f0_9, f0_10, f0_11, f0_12, f0_13, f0_14, f0_15, f0_16, f0_17⟩ := hJ0
  have hp : ∀ x, x < (V18_vx).length → SPH g (ι_readx.getD x 0) = true := SPH_of (gs := [0]) (by intro j hj; simp at hj; subst hj; exact hg0) rfl (by decide +kernel)
  refine C18_vx (D := pul ι_readx D) (N := pul ι_readx N) (F := pul ι_readx F) (A := pul ι_readx A) (HWs_sub HX vs_readx hp)      (show inr (a1) by first | assumption | omega) (show inr (a2) by first | assumption | omega) (show inr (a3) by first | assumption | omega) (show inr (a4) by first | assumption | omega) (show (a2) < 0 ∨ 4 ≤ (a2) by first | assumption | omega) (fun z σₚ Fₚ Aₚ Hₚ O sf sa q0 => ?_)
  · skip
    have sd : SD [] (pul ι_readx D) (pul ι_readx D) := SD_refl
    have sn : SD [] (pul ι_readx N) (pul ι_readx N) := SD_refl
    refine k z _ (glu ι_readx D (pul ι_readx D)) (glu ι_readx N (pul ι_readx N)) (glu ι_readx F Fₚ) (glu ι_readx A Aₚ) _ _ ⟨HWs_call HX VPH_3 vs_readx hp Hₚ O, STC_call HT HX vs_readx hp O, hg0, PFI_glue (dl := []) hPF sf sa sd (by decide +kernel) (rexc_of (l := []) (by decide +kernel) ?_), ABS_glue hAB sf (by decide +kernel), NZ_glue hNZ vs_readx hp sn (by decide +kernel), hGI, ?_, ?_, ?_, ?_, ?_, ?_, ?_, ?_, ?_, ?_⟩ ⟨(STP0_call (STY_call vs_readx hp O) (sd 0 rfl) (RM_call vs_readx O)), unt1_of (x := 10) (by decide +kernel) (fun p hp => funext (sa p hp))⟩ (show inr z by first | assumption | omega)
    · intro e he h1 h2
      cases he
    · exact INV0_eq (EQD_glue sf sa sd sn (by decide +kernel)) hI0
    · exact fun h => INV1_eq (EQD_glue sf sa sd sn (by decide +kernel)) (hI1 h)
    · exact fun h => INV2_eq (EQD_glue sf sa sd sn (by decide +kernel)) (hI2 h)
    · exact fun h => INV3_eq (EQD_glue sf sa sd sn (by decide +kernel)) (hI3 h)
    · exact fun h => INV4_eq (EQD_glue sf sa sd sn (by decide +kernel)) (hI4 h)
    · exact fun h => INV5_eq (EQD_glue sf sa sd sn (by decide +kernel)) (hI5 h)
    · exact fun h => INV6_eq (EQD_glue sf sa sd sn (by decide +kernel)) (hI6 h)
    · exact fun h => INV7_eq (EQD_glue sf sa sd sn (by decide +kernel)) (hI7 h)
    · exact fun h => INV8_eq (EQD_glue sf sa sd sn (by decide +kernel)) (hI8 h)
    · exact fun h => INV9_eq (EQD_glue sf sa sd sn (by decide +kernel)) (hI9 h)
def ι_opena0 : List Nat := [0, 1, 2, 3, 4, 5, 6, 7, 8, 9, 30]
theorem vs_opena0 : VS VPH V20_c20_va ι_opena0 := VS_of (by decide +kernel)
set_option maxRecDepth 20000 in
theorem T_opena0 {g : Nat → Bool} {σ : rS} {D N : Nat → Nat} {F : hF} {A : hA} {d c s : Nat} {Q : wQ} (X : PHI g σ D N F A)  {a1 a3 : Int}  (h0 : inr a1) (h2 : inr a3)  (hc68 : ∀ (tc68_1 : Int) (tc68_4 : Int) (tc68_5 : Int) (ls : rO) (σₚ : rS) (Dₚ Nₚ : Nat → Nat) (Fₚ : hF) (Aₚ : hA) (cₚ sₚ : Nat), PHI g σₚ Dₚ Nₚ Fₚ Aₚ → STP g σ D N A c s g σₚ Dₚ Nₚ Aₚ cₚ sₚ → (0 ≤ tc68_1 ∧ tc68_1 ≤ 3) → (tc68_4 = 1 ∨ tc68_4 = 3 ∨ tc68_4 = 4) → (0 ≤ tc68_5 ∧ tc68_5 ≤ 65536) → Ew 20 (d + 3) 68 ls [.ref (Dₚ 30), I tc68_5, I tc68_4, .ref (Dₚ 2), .ref (Dₚ 0), I tc68_1, .ref (Dₚ 0)] σₚ cₚ sₚ Q) (k : ∀ (z : Int) (σₚ : rS) (Dₚ Nₚ : Nat → Nat) (Fₚ : hF) (Aₚ : hA) (cₚ sₚ : Nat), PHI g σₚ Dₚ Nₚ Fₚ Aₚ → STP g σ D N A c s g σₚ Dₚ Nₚ Aₚ cₚ sₚ → (inr z) → Q (some (I z)) σₚ cₚ sₚ) : Ew 20 (d + 3) 0 (rargs 0 [.ref (D 0), I a1, I 0, I a3]) [] σ c s Q := by
  obtain ⟨HX, HT, hg0, hPF, hAB, hNZ, hGI, hI0, hI1, hI2, hI3, hI4, hI5, hI6, hI7, hI8, hI9⟩ := X
  have hset := SETI_f hI0.2.2.2.2.2.2.2.2.2.2.2.2.2.2.2.2.2
  have hJ0 := hI0
  unfold INV0 at hJ0
  obtain ⟨f0_0, f0_1, f0_2, f0_3, f0_4, f0_5, f0_6, f0_7, f0_8, f0_9, f0_10, f0_11, f0_12, f0_13, f0_14, f0_15, f0_16, f0_17⟩ := hJ0
  have hp : ∀ x, x < (V20_c20_va).length → SPH g (ι_opena0.getD x 0) = true := SPH_of (gs := [0]) (by intro j hj; simp at hj; subst hj; exact hg0) rfl (by decide +kernel)
  refine C20_c20_va (D := pul ι_opena0 D) (N := pul ι_opena0 N) (F := pul ι_opena0 F) (A := pul ι_opena0 A) (HWs_sub HX vs_opena0 hp) HT (show F 0 0 = (D 1 : Int) from hPF (0, 0, 0, 1) (List.mem_of_getElem? (i := 0) rfl) hg0 hg0) (show A 1 0 = (D 2 : Int) from hPF (1, 1, 0, 2) (List.mem_of_getElem? (i := 1) rfl) hg0 hg0) (show F 2 0 = (D 3 : Int) from hPF (0, 2, 0, 3) (List.mem_of_getElem? (i := 2) rfl) hg0 hg0) (show A 1 1 = (D 4 : Int) from hPF (1, 1, 1, 4) (List.mem_of_getElem? (i := 3) rfl) hg0 hg0) (show F 4 0 = (D 5 : Int) from hPF (0, 4, 0, 5) (List.mem_of_getElem? (i := 4) rfl) hg0 hg0) (show A 1 2 = (D 6 : Int) from hPF (1, 1, 2, 6) (List.mem_of_getElem? (i := 5) rfl) hg0 hg0) (show F 6 0 = (D 7 : Int) from hPF (0, 6, 0, 7) (List.mem_of_getElem? (i := 6) rfl) hg0 hg0) (show A 1 3 = (D 8 : Int) from hPF (1, 1, 3, 8) (List.mem_of_getElem? (i := 7) rfl) hg0 hg0) (show F 8 0 = (D 9 : Int) from hPF (0, 8, 0, 9) (List.mem_of_getElem? (i := 8) rfl) hg0 hg0) (show F 0 14 = (D 30 : Int) from hPF (0, 0, 14, 30) (List.mem_of_getElem? (i := 29) rfl) hg0 hg0) (N 1 : Int) rfl (N 3 : Int) rfl (N 5 : Int) rfl (N 7 : Int) rfl (N 9 : Int) rfl (N 30 : Int) rfl (F 2 1) rfl (F 4 1) rfl (F 6 1) rfl (F 8 1) rfl   (show inr (a1) by first | assumption | omega) (show inr (0) by first | assumption | omega) (show inr (a3) by first | assumption | omega) (show ((N 1 : Int)) = 4 by first | assumption | omega) (show 0 ≤ (F 2 1) ∧ (F 2 1) ≤ ((N 3 : Int)) ∧ ((N 3 : Int)) ≤ 65536 by first | assumption | omega) (show 0 ≤ (F 4 1) ∧ (F 4 1) ≤ ((N 5 : Int)) ∧ ((N 5 : Int)) ≤ 65536 by first | assumption | omega) (show 0 ≤ (F 6 1) ∧ (F 6 1) ≤ ((N 7 : Int)) ∧ ((N 7 : Int)) ≤ 65536 by first | assumption | omega) (show 0 ≤ (F 8 1) ∧ (F 8 1) ≤ ((N 9 : Int)) ∧ ((N 9 : Int)) ≤ 65536 by first | assumption | omega) (fun tc68_1 tc68_4 tc68_5 ls σ F_c68 A_c68   H O hS_c68 hA_c68     jc68_0 jc68_1 jc68_2 jc68_3 jc68_4 jc68_5 => ?_) (fun z σₚ Fₚ Aₚ Hₚ O sf sa q0 => ?_)
  · skip
    have sd : SD [] (pul ι_opena0 D) (pul ι_opena0 D) := SD_refl
    have sn : SD [] (pul ι_opena0 N) (pul ι_opena0 N) := SD_refl
    refine hc68 tc68_1 tc68_4 tc68_5  _ _ (glu ι_opena0 D (pul ι_opena0 D)) (glu ι_opena0 N (pul ι_opena0 N)) (glu ι_opena0 F F_c68) (glu ι_opena0 A A_c68) _ _ ⟨HWs_call HX VPH_3 vs_opena0 hp H O, STC_call HT HX vs_opena0 hp O, hg0, PFI_glue (dl := []) hPF hS_c68 hA_c68 sd (by decide +kernel) (rexc_of (l := []) (by decide +kernel) ?_), ABS_glue hAB hS_c68 (by decide +kernel), NZ_glue hNZ vs_opena0 hp sn (by decide +kernel), hGI, ?_, ?_, ?_, ?_, ?_, ?_, ?_, ?_, ?_, ?_⟩ ⟨(STP0_call (STY_call vs_opena0 hp O) (sd 0 rfl) (RM_call vs_opena0 O)), unt1_of (x := 10) (by decide +kernel) (fun p hp => funext (hA_c68 p hp))⟩  (show 0 ≤ tc68_1 ∧ tc68_1 ≤ 3 by first | assumption | omega) (show tc68_4 = 1 ∨ tc68_4 = 3 ∨ tc68_4 = 4 by first | assumption | omega) (show 0 ≤ tc68_5 ∧ tc68_5 ≤ 65536 by first | assumption | omega)
    · intro e he h1 h2
      cases he
    · exact INV0_eq (EQD_glue hS_c68 hA_c68 sd sn (by decide +kernel)) hI0
    · exact fun h => INV1_eq (EQD_glue hS_c68 hA_c68 sd sn (by decide +kernel)) (hI1 h)
    · exact fun h => INV2_eq (EQD_glue hS_c68 hA_c68 sd sn (by decide +kernel)) (hI2 h)
    · exact fun h => INV3_eq (EQD_glue hS_c68 hA_c68 sd sn (by decide +kernel)) (hI3 h)
    · exact fun h => INV4_eq (EQD_glue hS_c68 hA_c68 sd sn (by decide +kernel)) (hI4 h)
    · exact fun h => INV5_eq (EQD_glue hS_c68 hA_c68 sd sn (by decide +kernel)) (hI5 h)
    · exact fun h => INV6_eq (EQD_glue hS_c68 hA_c68 sd sn (by decide +kernel)) (hI6 h)
    · exact fun h => INV7_eq (EQD_glue hS_c68 hA_c68 sd sn (by decide +kernel)) (hI7 h)
    · exact fun h => INV8_eq (EQD_glue hS_c68 hA_c68 sd sn (by decide +kernel)) (hI8 h)
    · exact fun h => INV9_eq (EQD_glue hS_c68 hA_c68 sd sn (by decide +kernel)) (hI9 h)
  · skip
    have sd : SD [] (pul ι_opena0 D) (pul ι_opena0 D) := SD_refl
    have sn : SD [] (pul ι_opena0 N) (pul ι_opena0 N) := SD_refl
    refine k z _ (glu ι_opena0 D (pul ι_opena0 D)) (glu ι_opena0 N (pul ι_opena0 N)) (glu ι_opena0 F Fₚ) (glu ι_opena0 A Aₚ) _ _ ⟨HWs_call HX VPH_3 vs_opena0 hp Hₚ O, STC_call HT HX vs_opena0 hp O, hg0, PFI_glue (dl := []) hPF sf sa sd (by decide +kernel) (rexc_of (l := []) (by decide +kernel) ?_), ABS_glue hAB sf (by decide +kernel), NZ_glue hNZ vs_opena0 hp sn (by decide +kernel), hGI, ?_, ?_, ?_, ?_, ?_, ?_, ?_, ?_, ?_, ?_⟩ ⟨(STP0_call (STY_call vs_opena0 hp O) (sd 0 rfl) (RM_call vs_opena0 O)), unt1_of (x := 10) (by decide +kernel) (fun p hp => funext (sa p hp))⟩ (show inr z by first | assumption | omega)
    · intro e he h1 h2
      cases he
    · exact INV0_eq (EQD_glue sf sa sd sn (by decide +kernel)) hI0
    · exact fun h => INV1_eq (EQD_glue sf sa sd sn (by decide +kernel)) (hI1 h)
    · exact fun h => INV2_eq (EQD_glue sf sa sd sn (by decide +kernel)) (hI2 h)
    · exact fun h => INV3_eq (EQD_glue sf sa sd sn (by decide +kernel)) (hI3 h)
    · exact fun h => INV4_eq (EQD_glue sf sa sd sn (by decide +kernel)) (hI4 h)
    · exact fun h => INV5_eq (EQD_glue sf sa sd sn (by decide +kernel)) (hI5 h)
    · exact fun h => INV6_eq (EQD_glue sf sa sd sn (by decide +kernel)) (hI6 h)
    · exact fun h => INV7_eq (EQD_glue sf sa sd sn (by decide +kernel)) (hI7 h)
    · exact fun h => INV8_eq (EQD_glue sf sa sd sn (by decide +kernel)) (hI8 h)
    · exact fun h => INV9_eq (EQD_glue sf sa sd sn (by decide +kernel)) (hI9 h)
def ι_opena1 : List Nat := [0, 1, 2, 3, 4, 5, 6, 7, 8, 9, 30]
theorem vs_opena1 : VS VPH V20_c21_va ι_opena1 := VS_of (by decide +kernel)
set_option maxRecDepth 20000 in
theorem T_opena1 {g : Nat → Bool} {σ : rS} {D N : Nat → Nat} {F : hF} {A : hA} {d c s : Nat} {Q : wQ} (X : PHI g σ D N F A)  {a1 a3 : Int}  (h0 : inr a1) (h2 : inr a3)  (hc68 : ∀ (tc68_1 : Int) (tc68_4 : Int) (tc68_5 : Int) (ls : rO) (σₚ : rS) (Dₚ Nₚ : Nat → Nat) (Fₚ : hF) (Aₚ : hA) (cₚ sₚ : Nat), PHI g σₚ Dₚ Nₚ Fₚ Aₚ → STP g σ D N A c s g σₚ Dₚ Nₚ Aₚ cₚ sₚ → (0 ≤ tc68_1 ∧ tc68_1 ≤ 3) → (tc68_4 = 1 ∨ tc68_4 = 3 ∨ tc68_4 = 4) → (0 ≤ tc68_5 ∧ tc68_5 ≤ 65536) → Ew 20 (d + 3) 68 ls [.ref (Dₚ 30), I tc68_5, I tc68_4, .ref (Dₚ 4), .ref (Dₚ 0), I tc68_1, .ref (Dₚ 0)] σₚ cₚ sₚ Q) (k : ∀ (z : Int) (σₚ : rS) (Dₚ Nₚ : Nat → Nat) (Fₚ : hF) (Aₚ : hA) (cₚ sₚ : Nat), PHI g σₚ Dₚ Nₚ Fₚ Aₚ → STP g σ D N A c s g σₚ Dₚ Nₚ Aₚ cₚ sₚ → (inr z) → Q (some (I z)) σₚ cₚ sₚ) : Ew 20 (d + 3) 0 (rargs 0 [.ref (D 0), I a1, I 1, I a3]) [] σ c s Q := by
  obtain ⟨HX, HT, hg0, hPF, hAB, hNZ, hGI, hI0, hI1, hI2, hI3, hI4, hI5, hI6, hI7, hI8, hI9⟩ := X
  have hset := SETI_f hI0.2.2.2.2.2.2.2.2.2.2.2.2.2.2.2.2.2
  have hJ0 := hI0
  unfold INV0 at hJ0
  obtain ⟨f0_0, f0_1, f0_2, f0_3, f0_4, f0_5, f0_6, f0_7, f0_8, f0_9, f0_10, f0_11, f0_12, f0_13, f0_14, f0_15, f0_16, f0_17⟩ := hJ0
  have hp : ∀ x, x < (V20_c21_va).length → SPH g (ι_opena1.getD x 0) = true := SPH_of (gs := [0]) (by intro j hj; simp at hj; subst hj; exact hg0) rfl (by decide +kernel)
  refine C20_c21_va (D := pul ι_opena1 D) (N := pul ι_opena1 N) (F := pul ι_opena1 F) (A := pul ι_opena1 A) (HWs_sub HX vs_opena1 hp) HT (show F 0 0 = (D 1 : Int) from hPF (0, 0, 0, 1) (List.mem_of_getElem? (i := 0) rfl) hg0 hg0) (show A 1 0 = (D 2 : Int) from hPF (1, 1, 0, 2) (List.mem_of_getElem? (i := 1) rfl) hg0 hg0) (show F 2 0 = (D 3 : Int) from hPF (0, 2, 0, 3) (List.mem_of_getElem? (i := 2) rfl) hg0 hg0) (show A 1 1 = (D 4 : Int) from hPF (1, 1, 1, 4) (List.mem_of_getElem? (i := 3) rfl) hg0 hg0) (show F 4 0 = (D 5 : Int) from hPF (0, 4, 0, 5) (List.mem_of_getElem? (i := 4) rfl) hg0 hg0) (show A 1 2 = (D 6 : Int) from hPF (1, 1, 2, 6) (List.mem_of_getElem? (i := 5) rfl) hg0 hg0) (show F 6 0 = (D 7 : Int) from hPF (0, 6, 0, 7) (List.mem_of_getElem? (i := 6) rfl) hg0 hg0) (show A 1 3 = (D 8 : Int) from hPF (1, 1, 3, 8) (List.mem_of_getElem? (i := 7) rfl) hg0 hg0) (show F 8 0 = (D 9 : Int) from hPF (0, 8, 0, 9) (List.mem_of_getElem? (i := 8) rfl) hg0 hg0) (show F 0 14 = (D 30 : Int) from hPF (0, 0, 14, 30) (List.mem_of_getElem? (i := 29) rfl) hg0 hg0) (N 1 : Int) rfl (N 3 : Int) rfl (N 5 : Int) rfl (N 7 : Int) rfl (N 9 : Int) rfl (N 30 : Int) rfl (F 2 1) rfl (F 4 1) rfl (F 6 1) rfl (F 8 1) rfl   (show inr (a1) by first | assumption | omega) (show inr (1) by first | assumption | omega) (show inr (a3) by first | assumption | omega) (show ((N 1 : Int)) = 4 by first | assumption | omega) (show 0 ≤ (F 2 1) ∧ (F 2 1) ≤ ((N 3 : Int)) ∧ ((N 3 : Int)) ≤ 65536 by first | assumption | omega) (show 0 ≤ (F 4 1) ∧ (F 4 1) ≤ ((N 5 : Int)) ∧ ((N 5 : Int)) ≤ 65536 by first | assumption | omega) (show 0 ≤ (F 6 1) ∧ (F 6 1) ≤ ((N 7 : Int)) ∧ ((N 7 : Int)) ≤ 65536 by first | assumption | omega) (show 0 ≤ (F 8 1) ∧ (F 8 1) ≤ ((N 9 : Int)) ∧ ((N 9 : Int)) ≤ 65536 by first | assumption | omega) (fun tc68_1 tc68_4 tc68_5 ls σ F_c68 A_c68   H O hS_c68 hA_c68     jc68_0 jc68_1 jc68_2 jc68_3 jc68_4 jc68_5 => ?_) (fun z σₚ Fₚ Aₚ Hₚ O sf sa q0 => ?_)
  · skip
    have sd : SD [] (pul ι_opena1 D) (pul ι_opena1 D) := SD_refl
    have sn : SD [] (pul ι_opena1 N) (pul ι_opena1 N) := SD_refl
    refine hc68 tc68_1 tc68_4 tc68_5  _ _ (glu ι_opena1 D (pul ι_opena1 D)) (glu ι_opena1 N (pul ι_opena1 N)) (glu ι_opena1 F F_c68) (glu ι_opena1 A A_c68) _ _ ⟨HWs_call HX VPH_3 vs_opena1 hp H O, STC_call HT HX vs_opena1 hp O, hg0, PFI_glue (dl := []) hPF hS_c68 hA_c68 sd (by decide +kernel) (rexc_of (l := []) (by decide +kernel) ?_), ABS_glue hAB hS_c68 (by decide +kernel), NZ_glue hNZ vs_opena1 hp sn (by decide +kernel), hGI, ?_, ?_, ?_, ?_, ?_, ?_, ?_, ?_, ?_, ?_⟩ ⟨(STP0_call (STY_call vs_opena1 hp O) (sd 0 rfl) (RM_call vs_opena1 O)), unt1_of (x := 10) (by decide +kernel) (fun p hp => funext (hA_c68 p hp))⟩  (show 0 ≤ tc68_1 ∧ tc68_1 ≤ 3 by first | assumption | omega) (show tc68_4 = 1 ∨ tc68_4 = 3 ∨ tc68_4 = 4 by first | assumption | omega) (show 0 ≤ tc68_5 ∧ tc68_5 ≤ 65536 by first | assumption | omega)
    · intro e he h1 h2
      cases he
    · exact INV0_eq (EQD_glue hS_c68 hA_c68 sd sn (by decide +kernel)) hI0
    · exact fun h => INV1_eq (EQD_glue hS_c68 hA_c68 sd sn (by decide +kernel)) (hI1 h)
    · exact fun h => INV2_eq (EQD_glue hS_c68 hA_c68 sd sn (by decide +kernel)) (hI2 h)
    · exact fun h => INV3_eq (EQD_glue hS_c68 hA_c68 sd sn (by decide +kernel)) (hI3 h)
    · exact fun h => INV4_eq (EQD_glue hS_c68 hA_c68 sd sn (by decide +kernel)) (hI4 h)
    · exact fun h => INV5_eq (EQD_glue hS_c68 hA_c68 sd sn (by decide +kernel)) (hI5 h)
    · exact fun h => INV6_eq (EQD_glue hS_c68 hA_c68 sd sn (by decide +kernel)) (hI6 h)
    · exact fun h => INV7_eq (EQD_glue hS_c68 hA_c68 sd sn (by decide +kernel)) (hI7 h)
    · exact fun h => INV8_eq (EQD_glue hS_c68 hA_c68 sd sn (by decide +kernel)) (hI8 h)
    · exact fun h => INV9_eq (EQD_glue hS_c68 hA_c68 sd sn (by decide +kernel)) (hI9 h)
  · skip
    have sd : SD [] (pul ι_opena1 D) (pul ι_opena1 D) := SD_refl
    have sn : SD [] (pul ι_opena1 N) (pul ι_opena1 N) := SD_refl
    refine k z _ (glu ι_opena1 D (pul ι_opena1 D)) (glu ι_opena1 N (pul ι_opena1 N)) (glu ι_opena1 F Fₚ) (glu ι_opena1 A Aₚ) _ _ ⟨HWs_call HX VPH_3 vs_opena1 hp Hₚ O, STC_call HT HX vs_opena1 hp O, hg0, PFI_glue (dl := []) hPF sf sa sd (by decide +kernel) (rexc_of (l := []) (by decide +kernel) ?_), ABS_glue hAB sf (by decide +kernel), NZ_glue hNZ vs_opena1 hp sn (by decide +kernel), hGI, ?_, ?_, ?_, ?_, ?_, ?_, ?_, ?_, ?_, ?_⟩ ⟨(STP0_call (STY_call vs_opena1 hp O) (sd 0 rfl) (RM_call vs_opena1 O)), unt1_of (x := 10) (by decide +kernel) (fun p hp => funext (sa p hp))⟩ (show inr z by first | assumption | omega)
    · intro e he h1 h2
      cases he
    · exact INV0_eq (EQD_glue sf sa sd sn (by decide +kernel)) hI0
    · exact fun h => INV1_eq (EQD_glue sf sa sd sn (by decide +kernel)) (hI1 h)
    · exact fun h => INV2_eq (EQD_glue sf sa sd sn (by decide +kernel)) (hI2 h)
    · exact fun h => INV3_eq (EQD_glue sf sa sd sn (by decide +kernel)) (hI3 h)
    · exact fun h => INV4_eq (EQD_glue sf sa sd sn (by decide +kernel)) (hI4 h)
    · exact fun h => INV5_eq (EQD_glue sf sa sd sn (by decide +kernel)) (hI5 h)
    · exact fun h => INV6_eq (EQD_glue sf sa sd sn (by decide +kernel)) (hI6 h)
    · exact fun h => INV7_eq (EQD_glue sf sa sd sn (by decide +kernel)) (hI7 h)
    · exact fun h => INV8_eq (EQD_glue sf sa sd sn (by decide +kernel)) (hI8 h)
    · exact fun h => INV9_eq (EQD_glue sf sa sd sn (by decide +kernel)) (hI9 h)
def ι_opena2 : List Nat := [0, 1, 2, 3, 4, 5, 6, 7, 8, 9, 30]
theorem vs_opena2 : VS VPH V20_c22_va ι_opena2 := VS_of (by decide +kernel)
set_option maxRecDepth 20000 in
theorem T_opena2 {g : Nat → Bool} {σ : rS} {D N : Nat → Nat} {F : hF} {A : hA} {d c s : Nat} {Q : wQ} (X : PHI g σ D N F A)  {a1 a3 : Int}  (h0 : inr a1) (h2 : inr a3)  (hc68 : ∀ (tc68_1 : Int) (tc68_4 : Int) (tc68_5 : Int) (ls : rO) (σₚ : rS) (Dₚ Nₚ : Nat → Nat) (Fₚ : hF) (Aₚ : hA) (cₚ sₚ : Nat), PHI g σₚ Dₚ Nₚ Fₚ Aₚ → STP g σ D N A c s g σₚ Dₚ Nₚ Aₚ cₚ sₚ → (0 ≤ tc68_1 ∧ tc68_1 ≤ 3) → (tc68_4 = 1 ∨ tc68_4 = 3 ∨ tc68_4 = 4) → (0 ≤ tc68_5 ∧ tc68_5 ≤ 65536) → Ew 20 (d + 3) 68 ls [.ref (Dₚ 30), I tc68_5, I tc68_4, .ref (Dₚ 6), .ref (Dₚ 0), I tc68_1, .ref (Dₚ 0)] σₚ cₚ sₚ Q) (k : ∀ (z : Int) (σₚ : rS) (Dₚ Nₚ : Nat → Nat) (Fₚ : hF) (Aₚ : hA) (cₚ sₚ : Nat), PHI g σₚ Dₚ Nₚ Fₚ Aₚ → STP g σ D N A c s g σₚ Dₚ Nₚ Aₚ cₚ sₚ → (inr z) → Q (some (I z)) σₚ cₚ sₚ) : Ew 20 (d + 3) 0 (rargs 0 [.ref (D 0), I a1, I 2, I a3]) [] σ c s Q := by
  obtain ⟨HX, HT, hg0, hPF, hAB, hNZ, hGI, hI0, hI1, hI2, hI3, hI4, hI5, hI6, hI7, hI8, hI9⟩ := X
  have hset := SETI_f hI0.2.2.2.2.2.2.2.2.2.2.2.2.2.2.2.2.2
  have hJ0 := hI0
  unfold INV0 at hJ0
  obtain ⟨f0_0, f0_1, f0_2, f0_3, f0_4, f0_5, f0_6, f0_7, f0_8, f0_9, f0_10, f0_11, f0_12, f0_13, f0_14, f0_15, f0_16, f0_17⟩ := hJ0
  have hp : ∀ x, x < (V20_c22_va).length → SPH g (ι_opena2.getD x 0) = true := SPH_of (gs := [0]) (by intro j hj; simp at hj; subst hj; exact hg0) rfl (by decide +kernel)
  refine C20_c22_va (D := pul ι_opena2 D) (N := pul ι_opena2 N) (F := pul ι_opena2 F) (A := pul ι_opena2 A) (HWs_sub HX vs_opena2 hp) HT (show F 0 0 = (D 1 : Int) from hPF (0, 0, 0, 1) (List.mem_of_getElem? (i := 0) rfl) hg0 hg0) (show A 1 0 = (D 2 : Int) from hPF (1, 1, 0, 2) (List.mem_of_getElem? (i := 1) rfl) hg0 hg0) (show F 2 0 = (D 3 : Int) from hPF (0, 2, 0, 3) (List.mem_of_getElem? (i := 2) rfl) hg0 hg0) (show A 1 1 = (D 4 : Int) from hPF (1, 1, 1, 4) (List.mem_of_getElem? (i := 3) rfl) hg0 hg0) (show F 4 0 = (D 5 : Int) from hPF (0, 4, 0, 5) (List.mem_of_getElem? (i := 4) rfl) hg0 hg0) (show A 1 2 = (D 6 : Int) from hPF (1, 1, 2, 6) (List.mem_of_getElem? (i := 5) rfl) hg0 hg0) (show F 6 0 = (D 7 : Int) from hPF (0, 6, 0, 7) (List.mem_of_getElem? (i := 6) rfl) hg0 hg0) (show A 1 3 = (D 8 : Int) from hPF (1, 1, 3, 8) (List.mem_of_getElem? (i := 7) rfl) hg0 hg0) (show F 8 0 = (D 9 : Int) from hPF (0, 8, 0, 9) (List.mem_of_getElem? (i := 8) rfl) hg0 hg0) (show F 0 14 = (D 30 : Int) from hPF (0, 0, 14, 30) (List.mem_of_getElem? (i := 29) rfl) hg0 hg0) (N 1 : Int) rfl (N 3 : Int) rfl (N 5 : Int) rfl (N 7 : Int) rfl (N 9 : Int) rfl (N 30 : Int) rfl (F 2 1) rfl (F 4 1) rfl (F 6 1) rfl (F 8 1) rfl   (show inr (a1) by first | assumption | omega) (show inr (2) by first | assumption | omega) (show inr (a3) by first | assumption | omega) (show ((N 1 : Int)) = 4 by first | assumption | omega) (show 0 ≤ (F 2 1) ∧ (F 2 1) ≤ ((N 3 : Int)) ∧ ((N 3 : Int)) ≤ 65536 by first | assumption | omega) (show 0 ≤ (F 4 1) ∧ (F 4 1) ≤ ((N 5 : Int)) ∧ ((N 5 : Int)) ≤ 65536 by first | assumption | omega) (show 0 ≤ (F 6 1) ∧ (F 6 1) ≤ ((N 7 : Int)) ∧ ((N 7 : Int)) ≤ 65536 by first | assumption | omega) (show 0 ≤ (F 8 1) ∧ (F 8 1) ≤ ((N 9 : Int)) ∧ ((N 9 : Int)) ≤ 65536 by first | assumption | omega) (fun tc68_1 tc68_4 tc68_5 ls σ F_c68 A_c68   H O hS_c68 hA_c68     jc68_0 jc68_1 jc68_2 jc68_3 jc68_4 jc68_5 => ?_) (fun z σₚ Fₚ Aₚ Hₚ O sf sa q0 => ?_)
  · skip
    have sd : SD [] (pul ι_opena2 D) (pul ι_opena2 D) := SD_refl
    have sn : SD [] (pul ι_opena2 N) (pul ι_opena2 N) := SD_refl
    refine hc68 tc68_1 tc68_4 tc68_5  _ _ (glu ι_opena2 D (pul ι_opena2 D)) (glu ι_opena2 N (pul ι_opena2 N)) (glu ι_opena2 F F_c68) (glu ι_opena2 A A_c68) _ _ ⟨HWs_call HX VPH_3 vs_opena2 hp H O, STC_call HT HX vs_opena2 hp O, hg0, PFI_glue (dl := []) hPF hS_c68 hA_c68 sd (by decide +kernel) (rexc_of (l := []) (by decide +kernel) ?_), ABS_glue hAB hS_c68 (by decide +kernel), NZ_glue hNZ vs_opena2 hp sn (by decide +kernel), hGI, ?_, ?_, ?_, ?_, ?_, ?_, ?_, ?_, ?_, ?_⟩ ⟨(STP0_call (STY_call vs_opena2 hp O) (sd 0 rfl) (RM_call vs_opena2 O)), unt1_of (x := 10) (by decide +kernel) (fun p hp => funext (hA_c68 p hp))⟩  (show 0 ≤ tc68_1 ∧ tc68_1 ≤ 3 by first | assumption | omega) (show tc68_4 = 1 ∨ tc68_4 = 3 ∨ tc68_4 = 4 by first | assumption | omega) (show 0 ≤ tc68_5 ∧ tc68_5 ≤ 65536 by first | assumption | omega)
    · intro e he h1 h2
      cases he
    · exact INV0_eq (EQD_glue hS_c68 hA_c68 sd sn (by decide +kernel)) hI0
    · exact fun h => INV1_eq (EQD_glue hS_c68 hA_c68 sd sn (by decide +kernel)) (hI1 h)
    · exact fun h => INV2_eq (EQD_glue hS_c68 hA_c68 sd sn (by decide +kernel)) (hI2 h)
    · exact fun h => INV3_eq (EQD_glue hS_c68 hA_c68 sd sn (by decide +kernel)) (hI3 h)
    · exact fun h => INV4_eq (EQD_glue hS_c68 hA_c68 sd sn (by decide +kernel)) (hI4 h)
    · exact fun h => INV5_eq (EQD_glue hS_c68 hA_c68 sd sn (by decide +kernel)) (hI5 h)
    · exact fun h => INV6_eq (EQD_glue hS_c68 hA_c68 sd sn (by decide +kernel)) (hI6 h)
    · exact fun h => INV7_eq (EQD_glue hS_c68 hA_c68 sd sn (by decide +kernel)) (hI7 h)
    · exact fun h => INV8_eq (EQD_glue hS_c68 hA_c68 sd sn (by decide +kernel)) (hI8 h)
    · exact fun h => INV9_eq (EQD_glue hS_c68 hA_c68 sd sn (by decide +kernel)) (hI9 h)
  · skip
    have sd : SD [] (pul ι_opena2 D) (pul ι_opena2 D) := SD_refl
    have sn : SD [] (pul ι_opena2 N) (pul ι_opena2 N) := SD_refl
    refine k z _ (glu ι_opena2 D (pul ι_opena2 D)) (glu ι_opena2 N (pul ι_opena2 N)) (glu ι_opena2 F Fₚ) (glu ι_opena2 A Aₚ) _ _ ⟨HWs_call HX VPH_3 vs_opena2 hp Hₚ O, STC_call HT HX vs_opena2 hp O, hg0, PFI_glue (dl := []) hPF sf sa sd (by decide +kernel) (rexc_of (l := []) (by decide +kernel) ?_), ABS_glue hAB sf (by decide +kernel), NZ_glue hNZ vs_opena2 hp sn (by decide +kernel), hGI, ?_, ?_, ?_, ?_, ?_, ?_, ?_, ?_, ?_, ?_⟩ ⟨(STP0_call (STY_call vs_opena2 hp O) (sd 0 rfl) (RM_call vs_opena2 O)), unt1_of (x := 10) (by decide +kernel) (fun p hp => funext (sa p hp))⟩ (show inr z by first | assumption | omega)
    · intro e he h1 h2
      cases he
    · exact INV0_eq (EQD_glue sf sa sd sn (by decide +kernel)) hI0
    · exact fun h => INV1_eq (EQD_glue sf sa sd sn (by decide +kernel)) (hI1 h)
    · exact fun h => INV2_eq (EQD_glue sf sa sd sn (by decide +kernel)) (hI2 h)
    · exact fun h => INV3_eq (EQD_glue sf sa sd sn (by decide +kernel)) (hI3 h)
    · exact fun h => INV4_eq (EQD_glue sf sa sd sn (by decide +kernel)) (hI4 h)
    · exact fun h => INV5_eq (EQD_glue sf sa sd sn (by decide +kernel)) (hI5 h)
    · exact fun h => INV6_eq (EQD_glue sf sa sd sn (by decide +kernel)) (hI6 h)
    · exact fun h => INV7_eq (EQD_glue sf sa sd sn (by decide +kernel)) (hI7 h)
    · exact fun h => INV8_eq (EQD_glue sf sa sd sn (by decide +kernel)) (hI8 h)
    · exact fun h => INV9_eq (EQD_glue sf sa sd sn (by decide +kernel)) (hI9 h)
def ι_opena3 : List Nat := [0, 1, 2, 3, 4, 5, 6, 7, 8, 9, 30]
theorem vs_opena3 : VS VPH V20_c23_va ι_opena3 := VS_of (by decide +kernel)
set_option maxRecDepth 20000 in
theorem T_opena3 {g : Nat → Bool} {σ : rS} {D N : Nat → Nat} {F : hF} {A : hA} {d c s : Nat} {Q : wQ} (X : PHI g σ D N F A)  {a1 a3 : Int}  (h0 : inr a1) (h2 : inr a3)  (hc68 : ∀ (tc68_1 : Int) (tc68_4 : Int) (tc68_5 : Int) (ls : rO) (σₚ : rS) (Dₚ Nₚ : Nat → Nat) (Fₚ : hF) (Aₚ : hA) (cₚ sₚ : Nat), PHI g σₚ Dₚ Nₚ Fₚ Aₚ → STP g σ D N A c s g σₚ Dₚ Nₚ Aₚ cₚ sₚ → (0 ≤ tc68_1 ∧ tc68_1 ≤ 3) → (tc68_4 = 1 ∨ tc68_4 = 3 ∨ tc68_4 = 4) → (0 ≤ tc68_5 ∧ tc68_5 ≤ 65536) → Ew 20 (d + 3) 68 ls [.ref (Dₚ 30), I tc68_5, I tc68_4, .ref (Dₚ 8), .ref (Dₚ 0), I tc68_1, .ref (Dₚ 0)] σₚ cₚ sₚ Q) (k : ∀ (z : Int) (σₚ : rS) (Dₚ Nₚ : Nat → Nat) (Fₚ : hF) (Aₚ : hA) (cₚ sₚ : Nat), PHI g σₚ Dₚ Nₚ Fₚ Aₚ → STP g σ D N A c s g σₚ Dₚ Nₚ Aₚ cₚ sₚ → (inr z) → Q (some (I z)) σₚ cₚ sₚ) : Ew 20 (d + 3) 0 (rargs 0 [.ref (D 0), I a1, I 3, I a3]) [] σ c s Q := by
  obtain ⟨HX, HT, hg0, hPF, hAB, hNZ, hGI, hI0, hI1, hI2, hI3, hI4, hI5, hI6, hI7, hI8, hI9⟩ := X
  have hset := SETI_f hI0.2.2.2.2.2.2.2.2.2.2.2.2.2.2.2.2.2
  have hJ0 := hI0
  unfold INV0 at hJ0
  obtain ⟨f0_0, f0_1, f0_2, f0_3, f0_4, f0_5, f0_6, f0_7, f0_8, f0_9, f0_10, f0_11, f0_12, f0_13, f0_14, f0_15, f0_16, f0_17⟩ := hJ0
  have hp : ∀ x, x < (V20_c23_va).length → SPH g (ι_opena3.getD x 0) = true := SPH_of (gs := [0]) (by intro j hj; simp at hj; subst hj; exact hg0) rfl (by decide +kernel)
  refine C20_c23_va (D := pul ι_opena3 D) (N := pul ι_opena3 N) (F := pul ι_opena3 F) (A := pul ι_opena3 A) (HWs_sub HX vs_opena3 hp) HT (show F 0 0 = (D 1 : Int) from hPF (0, 0, 0, 1) (List.mem_of_getElem? (i := 0) rfl) hg0 hg0) (show A 1 0 = (D 2 : Int) from hPF (1, 1, 0, 2) (List.mem_of_getElem? (i := 1) rfl) hg0 hg0) (show F 2 0 = (D 3 : Int) from hPF (0, 2, 0, 3) (List.mem_of_getElem? (i := 2) rfl) hg0 hg0) (show A 1 1 = (D 4 : Int) from hPF (1, 1, 1, 4) (List.mem_of_getElem? (i := 3) rfl) hg0 hg0) (show F 4 0 = (D 5 : Int) from hPF (0, 4, 0, 5) (List.mem_of_getElem? (i := 4) rfl) hg0 hg0) (show A 1 2 = (D 6 : Int) from hPF (1, 1, 2, 6) (List.mem_of_getElem? (i := 5) rfl) hg0 hg0) (show F 6 0 = (D 7 : Int) from hPF (0, 6, 0, 7) (List.mem_of_getElem? (i := 6) rfl) hg0 hg0) (show A 1 3 = (D 8 : Int) from hPF (1, 1, 3, 8) (List.mem_of_getElem? (i := 7) rfl) hg0 hg0) (show F 8 0 = (D 9 : Int) from hPF (0, 8, 0, 9) (List.mem_of_getElem? (i := 8) rfl) hg0 hg0) (show F 0 14 = (D 30 : Int) from hPF (0, 0, 14, 30) (List.mem_of_getElem? (i := 29) rfl) hg0 hg0) (N 1 : Int) rfl (N 3 : Int) rfl (N 5 : Int) rfl (N 7 : Int) rfl (N 9 : Int) rfl (N 30 : Int) rfl (F 2 1) rfl (F 4 1) rfl (F 6 1) rfl (F 8 1) rfl   (show inr (a1) by first | assumption | omega) (show inr (3) by first | assumption | omega) (show inr (a3) by first | assumption | omega) (show ((N 1 : Int)) = 4 by first | assumption | omega) (show 0 ≤ (F 2 1) ∧ (F 2 1) ≤ ((N 3 : Int)) ∧ ((N 3 : Int)) ≤ 65536 by first | assumption | omega) (show 0 ≤ (F 4 1) ∧ (F 4 1) ≤ ((N 5 : Int)) ∧ ((N 5 : Int)) ≤ 65536 by first | assumption | omega) (show 0 ≤ (F 6 1) ∧ (F 6 1) ≤ ((N 7 : Int)) ∧ ((N 7 : Int)) ≤ 65536 by first | assumption | omega) (show 0 ≤ (F 8 1) ∧ (F 8 1) ≤ ((N 9 : Int)) ∧ ((N 9 : Int)) ≤ 65536 by first | assumption | omega) (fun tc68_1 tc68_4 tc68_5 ls σ F_c68 A_c68   H O hS_c68 hA_c68     jc68_0 jc68_1 jc68_2 jc68_3 jc68_4 jc68_5 => ?_) (fun z σₚ Fₚ Aₚ Hₚ O sf sa q0 => ?_)
  · skip
    have sd : SD [] (pul ι_opena3 D) (pul ι_opena3 D) := SD_refl
    have sn : SD [] (pul ι_opena3 N) (pul ι_opena3 N) := SD_refl
    refine hc68 tc68_1 tc68_4 tc68_5  _ _ (glu ι_opena3 D (pul ι_opena3 D)) (glu ι_opena3 N (pul ι_opena3 N)) (glu ι_opena3 F F_c68) (glu ι_opena3 A A_c68) _ _ ⟨HWs_call HX VPH_3 vs_opena3 hp H O, STC_call HT HX vs_opena3 hp O, hg0, PFI_glue (dl := []) hPF hS_c68 hA_c68 sd (by decide +kernel) (rexc_of (l := []) (by decide +kernel) ?_), ABS_glue hAB hS_c68 (by decide +kernel), NZ_glue hNZ vs_opena3 hp sn (by decide +kernel), hGI, ?_, ?_, ?_, ?_, ?_, ?_, ?_, ?_, ?_, ?_⟩ ⟨(STP0_call (STY_call vs_opena3 hp O) (sd 0 rfl) (RM_call vs_opena3 O)), unt1_of (x := 10) (by decide +kernel) (fun p hp => funext (hA_c68 p hp))⟩  (show 0 ≤ tc68_1 ∧ tc68_1 ≤ 3 by first | assumption | omega) (show tc68_4 = 1 ∨ tc68_4 = 3 ∨ tc68_4 = 4 by first | assumption | omega) (show 0 ≤ tc68_5 ∧ tc68_5 ≤ 65536 by first | assumption | omega)
    · intro e he h1 h2
      cases he
    · exact INV0_eq (EQD_glue hS_c68 hA_c68 sd sn (by decide +kernel)) hI0
    · exact fun h => INV1_eq (EQD_glue hS_c68 hA_c68 sd sn (by decide +kernel)) (hI1 h)
    · exact fun h => INV2_eq (EQD_glue hS_c68 hA_c68 sd sn (by decide +kernel)) (hI2 h)
    · exact fun h => INV3_eq (EQD_glue hS_c68 hA_c68 sd sn (by decide +kernel)) (hI3 h)
    · exact fun h => INV4_eq (EQD_glue hS_c68 hA_c68 sd sn (by decide +kernel)) (hI4 h)
    · exact fun h => INV5_eq (EQD_glue hS_c68 hA_c68 sd sn (by decide +kernel)) (hI5 h)
    · exact fun h => INV6_eq (EQD_glue hS_c68 hA_c68 sd sn (by decide +kernel)) (hI6 h)
    · exact fun h => INV7_eq (EQD_glue hS_c68 hA_c68 sd sn (by decide +kernel)) (hI7 h)
    · exact fun h => INV8_eq (EQD_glue hS_c68 hA_c68 sd sn (by decide +kernel)) (hI8 h)
    · exact fun h => INV9_eq (EQD_glue hS_c68 hA_c68 sd sn (by decide +kernel)) (hI9 h)
  · skip
    have sd : SD [] (pul ι_opena3 D) (pul ι_opena3 D) := SD_refl
    have sn : SD [] (pul ι_opena3 N) (pul ι_opena3 N) := SD_refl
    refine k z _ (glu ι_opena3 D (pul ι_opena3 D)) (glu ι_opena3 N (pul ι_opena3 N)) (glu ι_opena3 F Fₚ) (glu ι_opena3 A Aₚ) _ _ ⟨HWs_call HX VPH_3 vs_opena3 hp Hₚ O, STC_call HT HX vs_opena3 hp O, hg0, PFI_glue (dl := []) hPF sf sa sd (by decide +kernel) (rexc_of (l := []) (by decide +kernel) ?_), ABS_glue hAB sf (by decide +kernel), NZ_glue hNZ vs_opena3 hp sn (by decide +kernel), hGI, ?_, ?_, ?_, ?_, ?_, ?_, ?_, ?_, ?_, ?_⟩ ⟨(STP0_call (STY_call vs_opena3 hp O) (sd 0 rfl) (RM_call vs_opena3 O)), unt1_of (x := 10) (by decide +kernel) (fun p hp => funext (sa p hp))⟩ (show inr z by first | assumption | omega)
    · intro e he h1 h2
      cases he
    · exact INV0_eq (EQD_glue sf sa sd sn (by decide +kernel)) hI0
    · exact fun h => INV1_eq (EQD_glue sf sa sd sn (by decide +kernel)) (hI1 h)
    · exact fun h => INV2_eq (EQD_glue sf sa sd sn (by decide +kernel)) (hI2 h)
    · exact fun h => INV3_eq (EQD_glue sf sa sd sn (by decide +kernel)) (hI3 h)
    · exact fun h => INV4_eq (EQD_glue sf sa sd sn (by decide +kernel)) (hI4 h)
    · exact fun h => INV5_eq (EQD_glue sf sa sd sn (by decide +kernel)) (hI5 h)
    · exact fun h => INV6_eq (EQD_glue sf sa sd sn (by decide +kernel)) (hI6 h)
    · exact fun h => INV7_eq (EQD_glue sf sa sd sn (by decide +kernel)) (hI7 h)
    · exact fun h => INV8_eq (EQD_glue sf sa sd sn (by decide +kernel)) (hI8 h)
    · exact fun h => INV9_eq (EQD_glue sf sa sd sn (by decide +kernel)) (hI9 h)
def ι_openb : List Nat := [0, 1, 2, 3, 4, 5, 6, 7, 8, 9, 27, 28]
theorem vs_openb : VS VPH V20_vb ι_openb := VS_of (by decide +kernel)
set_option maxRecDepth 20000 in
theorem T_openb {g : Nat → Bool} {σ : rS} {D N : Nat → Nat} {F : hF} {A : hA} {d c s : Nat} {Q : wQ} (X : PHI g σ D N F A)  {y1 y2 : Int} {ls : rO}  (h0 : inr y1) (h1 : inr y2) (x_0 : 0 ≤ y1 ∧ y1 ≤ 3) (k : ∀ (z : Int) (σₚ : rS) (Dₚ Nₚ : Nat → Nat) (Fₚ : hF) (Aₚ : hA) (cₚ sₚ : Nat), PHI g σₚ Dₚ Nₚ Fₚ Aₚ → STP g σ D N A c s g σₚ Dₚ Nₚ Aₚ cₚ sₚ → (inr z) → Q (some (I z)) σₚ cₚ sₚ) : Ew 20 (d + 5) 71 ls [I y2, I y1, .ref (D 0)] σ c s Q := by
  obtain ⟨HX, HT, hg0, hPF, hAB, hNZ, hGI, hI0, hI1, hI2, hI3, hI4, hI5, hI6, hI7, hI8, hI9⟩ := X
  have hset := SETI_f hI0.2.2.2.2.2.2.2.2.2.2.2.2.2.2.2.2.2
  have hJ0 := hI0
  unfold INV0 at hJ0
  obtain ⟨f0_0, f0_1, f0_2, f0_3, f0_4, f0_5, f0_6, f0_7, f0_8, f0_9, f0_10, f0_11, f0_12, f0_13, f0_14, f0_15, f0_16, f0_17⟩ := hJ0
  have hp : ∀ x, x < (V20_vb).length → SPH g (ι_openb.getD x 0) = true := SPH_of (gs := [0]) (by intro j hj; simp at hj; subst hj; exact hg0) rfl (by decide +kernel)
  refine C20_vb (D := pul ι_openb D) (N := pul ι_openb N) (F := pul ι_openb F) (A := pul ι_openb A) (HWs_sub HX vs_openb hp) (show F 0 0 = (D 1 : Int) from hPF (0, 0, 0, 1) (List.mem_of_getElem? (i := 0) rfl) hg0 hg0) (show A 1 0 = (D 2 : Int) from hPF (1, 1, 0, 2) (List.mem_of_getElem? (i := 1) rfl) hg0 hg0) (show F 2 0 = (D 3 : Int) from hPF (0, 2, 0, 3) (List.mem_of_getElem? (i := 2) rfl) hg0 hg0) (show A 1 1 = (D 4 : Int) from hPF (1, 1, 1, 4) (List.mem_of_getElem? (i := 3) rfl) hg0 hg0) (show F 4 0 = (D 5 : Int) from hPF (0, 4, 0, 5) (List.mem_of_getElem? (i := 4) rfl) hg0 hg0) (show A 1 2 = (D 6 : Int) from hPF (1, 1, 2, 6) (List.mem_of_getElem? (i := 5) rfl) hg0 hg0) (show F 6 0 = (D 7 : Int) from hPF (0, 6, 0, 7) (List.mem_of_getElem? (i := 6) rfl) hg0 hg0) (show A 1 3 = (D 8 : Int) from hPF (1, 1, 3, 8) (List.mem_of_getElem? (i := 7) rfl) hg0 hg0) (show F 8 0 = (D 9 : Int) from hPF (0, 8, 0, 9) (List.mem_of_getElem? (i := 8) rfl) hg0 hg0) (show F 0 6 = (D 27 : Int) from hPF (0, 0, 6, 27) (List.mem_of_getElem? (i := 26) rfl) hg0 hg0) (show F 27 0 = (D 28 : Int) from hPF (0, 27, 0, 28) (List.mem_of_getElem? (i := 27) rfl) hg0 hg0) (N 1 : Int) rfl (N 3 : Int) rfl (N 5 : Int) rfl (N 7 : Int) rfl (N 9 : Int) rfl (N 28 : Int) rfl (F 2 1) rfl (F 4 1) rfl (F 6 1) rfl (F 8 1) rfl (F 27 1) rfl   (show inr y1 by first | assumption | omega) (show inr y2 by first | assumption | omega) (show ((N 1 : Int)) = 4 by first | assumption | omega) (show 0 ≤ (F 2 1) ∧ (F 2 1) ≤ ((N 3 : Int)) ∧ ((N 3 : Int)) ≤ 65536 by first | assumption | omega) (show 0 ≤ (F 4 1) ∧ (F 4 1) ≤ ((N 5 : Int)) ∧ ((N 5 : Int)) ≤ 65536 by first | assumption | omega) (show 0 ≤ (F 6 1) ∧ (F 6 1) ≤ ((N 7 : Int)) ∧ ((N 7 : Int)) ≤ 65536 by first | assumption | omega) (show 0 ≤ (F 8 1) ∧ (F 8 1) ≤ ((N 9 : Int)) ∧ ((N 9 : Int)) ≤ 65536 by first | assumption | omega) (show 0 ≤ (F 27 1) ∧ (F 27 1) ≤ ((N 28 : Int)) ∧ ((N 28 : Int)) ≤ 65536 by first | assumption | omega) (show 0 ≤ y1 ∧ y1 ≤ 3 by first | assumption | omega) (fun z σₚ Dₚ Nₚ Fₚ Aₚ cₚ sₚ Hₚ O sd sn sf sa pm3 pm5 pm7 pm9 m3 em3 m5 em5 m7 em7 m9 em9 y2_1 ey2_1 y4_1 ey4_1 y6_1 ey6_1 y8_1 ey8_1 q0 q1 q2 q3 q4 q5 => ?_)
  · skip
    subst em3 em5 em7 em9 ey2_1 ey4_1 ey6_1 ey8_1
    refine k z _ (glu ι_openb D Dₚ) (glu ι_openb N Nₚ) (glu ι_openb F Fₚ) (glu ι_openb A Aₚ) _ _ ⟨HWs_call HX VPH_3 vs_openb hp Hₚ O, STC_call HT HX vs_openb hp O, hg0, PFI_glue (dl := [3, 5, 7, 9]) hPF sf sa sd (by decide +kernel) (rexc_of (l := [(0, 2, 0, 3), (0, 4, 0, 5), (0, 6, 0, 7), (0, 8, 0, 9)]) (by decide +kernel) ?_), ABS_glue hAB sf (by decide +kernel), NZ_glue hNZ vs_openb hp sn (by decide +kernel), hGI, ?_, ?_, ?_, ?_, ?_, ?_, ?_, ?_, ?_, ?_⟩ ⟨(STP0_call (STY_call vs_openb hp O) (sd 0 rfl) (RM_call vs_openb O)), unt1_of (x := 10) (by decide +kernel) (fun p hp => funext (sa p hp))⟩ (show inr z by first | assumption | omega)
    · intro e he h1 h2
      simp only [List.mem_cons, List.not_mem_nil, or_false] at he
      rcases he with rfl | rfl | rfl | rfl
      · exact pm3
      · exact pm5
      · exact pm7
      · exact pm9
    · skip
      exact ⟨show 0 ≤ (Fₚ 2 1) ∧ (Fₚ 2 1) ≤ ((Nₚ 3 : Int)) ∧ ((Nₚ 3 : Int)) ≤ 65536 from (by first | assumption | omega), show 0 ≤ (Fₚ 4 1) ∧ (Fₚ 4 1) ≤ ((Nₚ 5 : Int)) ∧ ((Nₚ 5 : Int)) ≤ 65536 from (by first | assumption | omega), show 0 ≤ (Fₚ 6 1) ∧ (Fₚ 6 1) ≤ ((Nₚ 7 : Int)) ∧ ((Nₚ 7 : Int)) ≤ 65536 from (by first | assumption | omega), show 0 ≤ (Fₚ 8 1) ∧ (Fₚ 8 1) ≤ ((Nₚ 9 : Int)) ∧ ((Nₚ 9 : Int)) ≤ 65536 from (by first | assumption | omega), QF0_4_eq (EQD_glue sf sa sd sn (by decide +kernel)) f0_4, QF0_5_eq (EQD_glue sf sa sd sn (by decide +kernel)) f0_5, QF0_6_eq (EQD_glue sf sa sd sn (by decide +kernel)) f0_6, QF0_7_eq (EQD_glue sf sa sd sn (by decide +kernel)) f0_7, QF0_8_eq (EQD_glue sf sa sd sn (by decide +kernel)) f0_8, QF0_9_eq (EQD_glue sf sa sd sn (by decide +kernel)) f0_9, QF0_10_eq (EQD_glue sf sa sd sn (by decide +kernel)) f0_10, QF0_11_eq (EQD_glue sf sa sd sn (by decide +kernel)) f0_11, QF0_12_eq (EQD_glue sf sa sd sn (by decide +kernel)) f0_12, QF0_13_eq (EQD_glue sf sa sd sn (by decide +kernel)) f0_13, QF0_14_eq (EQD_glue sf sa sd sn (by decide +kernel)) f0_14, QF0_15_eq (EQD_glue sf sa sd sn (by decide +kernel)) f0_15, QF0_16_eq (EQD_glue sf sa sd sn (by decide +kernel)) f0_16, QF0_17_eq (EQD_glue sf sa sd sn (by decide +kernel)) f0_17⟩
    · exact fun h => INV1_eq (EQD_glue sf sa sd sn (by decide +kernel)) (hI1 h)
    · exact fun h => INV2_eq (EQD_glue sf sa sd sn (by decide +kernel)) (hI2 h)
    · exact fun h => INV3_eq (EQD_glue sf sa sd sn (by decide +kernel)) (hI3 h)
    · exact fun h => INV4_eq (EQD_glue sf sa sd sn (by decide +kernel)) (hI4 h)
    · exact fun h => INV5_eq (EQD_glue sf sa sd sn (by decide +kernel)) (hI5 h)
    · exact fun h => INV6_eq (EQD_glue sf sa sd sn (by decide +kernel)) (hI6 h)
    · exact fun h => INV7_eq (EQD_glue sf sa sd sn (by decide +kernel)) (hI7 h)
    · exact fun h => INV8_eq (EQD_glue sf sa sd sn (by decide +kernel)) (hI8 h)
    · exact fun h => INV9_eq (EQD_glue sf sa sd sn (by decide +kernel)) (hI9 h)
def ι_openx : List Nat := [0]
theorem vs_openx : VS VPH V20_vx ι_openx := VS_of (by decide +kernel)
set_option maxRecDepth 20000 in
theorem T_openx {g : Nat → Bool} {σ : rS} {D N : Nat → Nat} {F : hF} {A : hA} {d c s : Nat} {Q : wQ} (X : PHI g σ D N F A)  {a1 a2 a3 : Int}  (h0 : inr a1) (h1 : inr a2) (h2 : inr a3) (x_0 : a2 < 0 ∨ 4 ≤ a2) (k : ∀ (z : Int) (σₚ : rS) (Dₚ Nₚ : Nat → Nat) (Fₚ : hF) (Aₚ : hA) (cₚ sₚ : Nat), PHI g σₚ Dₚ Nₚ Fₚ Aₚ → STP g σ D N A c s g σₚ Dₚ Nₚ Aₚ cₚ sₚ → (inr z) → Q (some (I z)) σₚ cₚ sₚ) : Ew 20 (d + 1) 0 (rargs 0 [.ref (D 0), I a1, I a2, I a3]) [] σ c s Q := by
  obtain ⟨HX, HT, hg0, hPF, hAB, hNZ, hGI, hI0, hI1, hI2, hI3, hI4, hI5, hI6, hI7, hI8, hI9⟩ := X
  have hset := SETI_f hI0.2.2.2.2.2.2.2.2.2.2.2.2.2.2.2.2.2
  have hJ0 := hI0
  unfold INV0 at hJ0
  obtain ⟨f0_0, f0_1, f0_2, f0_3, f0_4, f0_5, f0_6, f0_7, f0_8, f0_9, f0_10, f0_11, f0_12, f0_13, f0_14, f0_15, f0_16, f0_17⟩ := hJ0
  have hp : ∀ x, x < (V20_vx).length → SPH g (ι_openx.getD x 0) = true := SPH_of (gs := [0]) (by intro j hj; simp at hj; subst hj; exact hg0) rfl (by decide +kernel)
  refine C20_vx (D := pul ι_openx D) (N := pul ι_openx N) (F := pul ι_openx F) (A := pul ι_openx A) (HWs_sub HX vs_openx hp)      (show inr (a1) by first | assumption | omega) (show inr (a2) by first | assumption | omega) (show inr (a3) by first | assumption | omega) (show (a2) < 0 ∨ 4 ≤ (a2) by first | assumption | omega) (fun z σₚ Fₚ Aₚ Hₚ O sf sa q0 => ?_)
  · skip
    have sd : SD [] (pul ι_openx D) (pul ι_openx D) := SD_refl
    have sn : SD [] (pul ι_openx N) (pul ι_openx N) := SD_refl
    refine k z _ (glu ι_openx D (pul ι_openx D)) (glu ι_openx N (pul ι_openx N)) (glu ι_openx F Fₚ) (glu ι_openx A Aₚ) _ _ ⟨HWs_call HX VPH_3 vs_openx hp Hₚ O, STC_call HT HX vs_openx hp O, hg0, PFI_glue (dl := []) hPF sf sa sd (by decide +kernel) (rexc_of (l := []) (by decide +kernel) ?_), ABS_glue hAB sf (by decide +kernel), NZ_glue hNZ vs_openx hp sn (by decide +kernel), hGI, ?_, ?_, ?_, ?_, ?_, ?_, ?_, ?_, ?_, ?_⟩ ⟨(STP0_call (STY_call vs_openx hp O) (sd 0 rfl) (RM_call vs_openx O)), unt1_of (x := 10) (by decide +kernel) (fun p hp => funext (sa p hp))⟩ (show inr z by first | assumption | omega)
    · intro e he h1 h2
      cases he
    · exact INV0_eq (EQD_glue sf sa sd sn (by decide +kernel)) hI0
    · exact fun h => INV1_eq (EQD_glue sf sa sd sn (by decide +kernel)) (hI1 h)
    · exact fun h => INV2_eq (EQD_glue sf sa sd sn (by decide +kernel)) (hI2 h)
    · exact fun h => INV3_eq (EQD_glue sf sa sd sn (by decide +kernel)) (hI3 h)
    · exact fun h => INV4_eq (EQD_glue sf sa sd sn (by decide +kernel)) (hI4 h)
    · exact fun h => INV5_eq (EQD_glue sf sa sd sn (by decide +kernel)) (hI5 h)
    · exact fun h => INV6_eq (EQD_glue sf sa sd sn (by decide +kernel)) (hI6 h)
    · exact fun h => INV7_eq (EQD_glue sf sa sd sn (by decide +kernel)) (hI7 h)
    · exact fun h => INV8_eq (EQD_glue sf sa sd sn (by decide +kernel)) (hI8 h)
    · exact fun h => INV9_eq (EQD_glue sf sa sd sn (by decide +kernel)) (hI9 h)
