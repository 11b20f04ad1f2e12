def ι_we0_0 : List Nat := [0, 2, 25, 26, 27, 28, 3, 32, 10]
theorem vs_we0_0 : VS VPH V17_vE0 ι_we0_0 := VS_of (by decide +kernel)
set_option maxRecDepth 20000 in
theorem T_we0_0 {Dc : DcS} {g : Nat → Bool} {σ : rS} {D N : Nat → Nat} {F : hF} {A : hA} {d c s : Nat} {Q : wQ} (X : PHI Dc g σ D N F A)  {x1 y0 : Int} {ls : rO} (hl0 : rlook ls 0 = some (.ref (D 0))) (hl1 : rlook ls 1 = some (I x1)) (hl3 : rlook ls 3 = some (I (0))) (hl4 : rlook ls 4 = some (.ref (D 2))) (h0 : inr x1) (h1 : inr y0) (x_0 : (F 2 1) ≤ 16384) (hc337 : ∀ (ls : rO) (σₚ : rS) (Dₚ Nₚ : Nat → Nat) (Fₚ : hF) (Aₚ : hA) (cₚ sₚ : Nat), PHI Dc g σₚ Dₚ Nₚ Fₚ Aₚ → STP g σ D N A c s g σₚ Dₚ Nₚ Aₚ cₚ sₚ → EQD [(2, 1), (4, 1), (6, 1), (8, 1), (11, 1), (0, 18), (25, 1)] [3, 5, 7, 9, 12, 10, 29, 30, 26] [] [] D N F A Dₚ Nₚ Fₚ Aₚ → rlook ls 0 = some (.ref (Dₚ 0)) → rlook ls 1 = some (I (x1)) → (HID (STR (y0) ((F 2 1)) (sc ((A 28)) 0 ((F 27 1))) (sc ((A 3)) 0 ((F 2 1))) (((A 32)) 0) (((Aₚ 32)) 0))) → (HID (((Aₚ 32)) 1 = w32 (((A 32)) 1 + (if BNA ((A 10)) 0 ((F 2 1)) < (F 25 1) then 1 else 0)))) → Ew 17 (d + 3) 337 ls [] σₚ cₚ sₚ Q) (k : ∀ (z : Int) (σₚ : rS) (Dₚ Nₚ : Nat → Nat) (Fₚ : hF) (Aₚ : hA) (cₚ sₚ : Nat), PHI Dc g σₚ Dₚ Nₚ Fₚ Aₚ → STP g σ D N A c s g σₚ Dₚ Nₚ Aₚ cₚ sₚ → EQD [(2, 1), (4, 1), (6, 1), (8, 1), (11, 1), (0, 18), (25, 1)] [3, 5, 7, 9, 12, 10, 29, 30, 26] [] [] D N F A Dₚ Nₚ Fₚ Aₚ → ((0 : Int) = 1) → Q (some (I z)) σₚ cₚ sₚ) : Ew 17 (d + 3) 239 ls [I y0] σ c s Q := by
  obtain ⟨HX, HT, hg0, hPF, hAB, hNZ, hGI, hI0, hI1, hI2, hI3, hI4, hI5, hI6, hI7, hI8, hI9⟩ := X
  have hset := SETI_f hI0.2.2.2.2.2.2.2.2.2.2.2.2.2.2.2.2.2.2.2.2.2.2.2.2
  have hJ0 := hI0
  unfold INV0 at hJ0
  obtain ⟨f0_0, f0_1, f0_2, f0_3, f0_4, f0_5, f0_6, f0_7, f0_8, f0_9, f0_10, f0_11, f0_12, f0_13, f0_14, f0_15, f0_16, f0_17, f0_18, f0_19, f0_20, f0_21, f0_22, f0_23, f0_24⟩ := hJ0
  have hp : ∀ x, x < (V17_vE0).length → SPH g (ι_we0_0.getD x 0) = true := SPH_of (gs := [0]) (by intro j hj; simp at hj; subst hj; exact hg0) rfl (by decide +kernel)
  refine C17_vE0 (D := pul ι_we0_0 D) (N := pul ι_we0_0 N) (F := pul ι_we0_0 F) (A := pul ι_we0_0 A) (HWs_sub HX vs_we0_0 hp) (show F 0 5 = (D 25 : Int) from hPF (0, 0, 5, 25) (List.mem_of_getElem? (i := 24) rfl) hg0 hg0) (show F 25 0 = (D 26 : Int) from hPF (0, 25, 0, 26) (List.mem_of_getElem? (i := 25) rfl) hg0 hg0) (show F 0 6 = (D 27 : Int) from hPF (0, 0, 6, 27) (List.mem_of_getElem? (i := 26) rfl) hg0 hg0) (show F 27 0 = (D 28 : Int) from hPF (0, 27, 0, 28) (List.mem_of_getElem? (i := 27) rfl) hg0 hg0) (show F 2 0 = (D 3 : Int) from hPF (0, 2, 0, 3) (List.mem_of_getElem? (i := 2) rfl) hg0 hg0) (show F 0 16 = (D 32 : Int) from hPF (0, 0, 16, 32) (List.mem_of_getElem? (i := 31) rfl) hg0 hg0) (show F 0 1 = (D 10 : Int) from hPF (0, 0, 1, 10) (List.mem_of_getElem? (i := 9) rfl) hg0 hg0) (N 26 : Int) rfl (N 28 : Int) rfl (N 3 : Int) rfl (N 32 : Int) rfl (N 10 : Int) rfl (F 2 1) rfl (F 25 1) rfl (F 27 1) rfl (A 10) rfl  hl0 hl1 hl3 hl4 (show inr (x1) by first | assumption | omega) (show inr y0 by first | assumption | omega) (show 0 ≤ (F 25 1) ∧ (F 25 1) ≤ ((N 26 : Int)) ∧ ((N 26 : Int)) ≤ 65536 by first | assumption | omega) (show 0 ≤ (F 27 1) ∧ (F 27 1) ≤ ((N 28 : Int)) ∧ ((N 28 : Int)) ≤ 65536 by first | assumption | omega) (show 0 ≤ (F 2 1) ∧ (F 2 1) ≤ ((N 3 : Int)) ∧ ((N 3 : Int)) ≤ 65536 by first | assumption | omega) (show (F 2 1) ≤ 16384 by first | assumption | omega) (show ((N 32 : Int)) = 2 by first | assumption | omega) (show 1 ≤ ((A 10)) 2 ∧ ((A 10)) 2 ≤ 65536 by first | assumption | omega) (show 0 ≤ ((A 10)) 8 ∧ ((A 10)) 8 ≤ 11 by first | assumption | omega) (show 0 ≤ ((A 10)) 6 ∧ ((A 10)) 6 ≤ 255 by first | assumption | omega) (show ((N 10 : Int)) = 10 by first | assumption | omega) (fun  ls σ F_c337 A_c337  lc337_0 lc337_1 H O hS_c337 hA_c337    wc337_7 ewc337_7 jc337_0 jc337_1 jc337_2 => ?_) (fun z σₚ Fₚ Aₚ Hₚ O sf sa q0 q1 => ?_)
  · skip
    subst ewc337_7
    have sd : SD [] (pul ι_we0_0 D) (pul ι_we0_0 D) := SD_refl
    have sn : SD [] (pul ι_we0_0 N) (pul ι_we0_0 N) := SD_refl
    have : F_c337 1 1 = F 2 1 := hS_c337 1 1 rfl
    have : F_c337 4 1 = F 27 1 := hS_c337 4 1 rfl
    have : A_c337 6 = A 3 := funext (hA_c337 6 rfl)
    have : A_c337 5 = A 28 := funext (hA_c337 5 rfl)
    have : F_c337 2 1 = F 25 1 := hS_c337 2 1 rfl
    have : A_c337 8 = A 10 := funext (hA_c337 8 rfl)
    refine hc337   _ _ (glu ι_we0_0 D (pul ι_we0_0 D)) (glu ι_we0_0 N (pul ι_we0_0 N)) (glu ι_we0_0 F F_c337) (glu ι_we0_0 A A_c337) _ _ ⟨HWs_call HX VPH_3 vs_we0_0 hp H O, STC_call HT HX vs_we0_0 hp O, hg0, PFI_glue (dl := []) hPF hS_c337 hA_c337 sd (by decide +kernel) (rexc_of (l := []) (by decide +kernel) ?_), ABS_glue hAB hS_c337 (by decide +kernel), NZ_glue hNZ vs_we0_0 hp sn (by decide +kernel), hGI, ?_, ?_, ?_, ?_, ?_, ?_, ?_, ?_, ?_, ?_⟩ ⟨(STP0_call (STY_call vs_we0_0 hp O) (sd 0 rfl) (RM_call vs_we0_0 O)), unt1_of (x := 10) (by decide +kernel) (fun p hp => funext (hA_c337 p hp))⟩ (EQD_glue hS_c337 hA_c337 sd sn (by decide +kernel)) lc337_0 lc337_1 (show HID (STR (y0) ((F 2 1)) (sc ((A 28)) 0 ((F 27 1))) (sc ((A 3)) 0 ((F 2 1))) (((A 32)) 0) (((A_c337 7)) 0)) by first | assumption | omega | rfl) (show HID (((A_c337 7)) 1 = w32 (((A 32)) 1 + (if BNA ((A 10)) 0 ((F 2 1)) < (F 25 1) then 1 else 0))) by first | assumption | omega | rfl)
    · intro e he h1 h2
      cases he
    · exact INV0_eq (EQD_glue hS_c337 hA_c337 sd sn (by decide +kernel)) hI0
    · exact fun h => INV1_eq (EQD_glue hS_c337 hA_c337 sd sn (by decide +kernel)) (hI1 h)
    · exact fun h => INV2_eq (EQD_glue hS_c337 hA_c337 sd sn (by decide +kernel)) (hI2 h)
    · exact fun h => INV3_eq (EQD_glue hS_c337 hA_c337 sd sn (by decide +kernel)) (hI3 h)
    · exact fun h => INV4_eq (EQD_glue hS_c337 hA_c337 sd sn (by decide +kernel)) (hI4 h)
    · exact fun h => INV5_eq (EQD_glue hS_c337 hA_c337 sd sn (by decide +kernel)) (hI5 h)
    · exact fun h => INV6_eq (EQD_glue hS_c337 hA_c337 sd sn (by decide +kernel)) (hI6 h)
    · exact fun h => INV7_eq (EQD_glue hS_c337 hA_c337 sd sn (by decide +kernel)) (hI7 h)
    · exact fun h => INV8_eq (EQD_glue hS_c337 hA_c337 sd sn (by decide +kernel)) (hI8 h)
    · exact fun h => INV9_eq (EQD_glue hS_c337 hA_c337 sd sn (by decide +kernel)) (hI9 h)
  · skip
    have sd : SD [] (pul ι_we0_0 D) (pul ι_we0_0 D) := SD_refl
    have sn : SD [] (pul ι_we0_0 N) (pul ι_we0_0 N) := SD_refl
    refine k z _ (glu ι_we0_0 D (pul ι_we0_0 D)) (glu ι_we0_0 N (pul ι_we0_0 N)) (glu ι_we0_0 F Fₚ) (glu ι_we0_0 A Aₚ) _ _ ⟨HWs_call HX VPH_3 vs_we0_0 hp Hₚ O, STC_call HT HX vs_we0_0 hp O, hg0, PFI_glue (dl := []) hPF sf sa sd (by decide +kernel) (rexc_of (l := []) (by decide +kernel) ?_), ABS_glue hAB sf (by decide +kernel), NZ_glue hNZ vs_we0_0 hp sn (by decide +kernel), hGI, ?_, ?_, ?_, ?_, ?_, ?_, ?_, ?_, ?_, ?_⟩ ⟨(STP0_call (STY_call vs_we0_0 hp O) (sd 0 rfl) (RM_call vs_we0_0 O)), unt1_of (x := 10) (by decide +kernel) (fun p hp => funext (sa p hp))⟩ (EQD_glue sf sa sd sn (by decide +kernel)) (show (0 : Int) = 1 by first | assumption | omega | rfl)
    · intro e he h1 h2
      cases he
    · exact INV0_eq (EQD_glue sf sa sd sn (by decide +kernel)) hI0
    · exact fun h => INV1_eq (EQD_glue sf sa sd sn (by decide +kernel)) (hI1 h)
    · exact fun h => INV2_eq (EQD_glue sf sa sd sn (by decide +kernel)) (hI2 h)
    · exact fun h => INV3_eq (EQD_glue sf sa sd sn (by decide +kernel)) (hI3 h)
    · exact fun h => INV4_eq (EQD_glue sf sa sd sn (by decide +kernel)) (hI4 h)
    · exact fun h => INV5_eq (EQD_glue sf sa sd sn (by decide +kernel)) (hI5 h)
    · exact fun h => INV6_eq (EQD_glue sf sa sd sn (by decide +kernel)) (hI6 h)
    · exact fun h => INV7_eq (EQD_glue sf sa sd sn (by decide +kernel)) (hI7 h)
    · exact fun h => INV8_eq (EQD_glue sf sa sd sn (by decide +kernel)) (hI8 h)
    · exact fun h => INV9_eq (EQD_glue sf sa sd sn (by decide +kernel)) (hI9 h)
def ι_we0_1 : List Nat := [0, 4, 25, 26, 27, 28, 5, 32, 10]
theorem vs_we0_1 : VS VPH V17_vE0 ι_we0_1 := VS_of (by decide +kernel)
set_option maxRecDepth 20000 in
theorem T_we0_1 {Dc : DcS} {g : Nat → Bool} {σ : rS} {D N : Nat → Nat} {F : hF} {A : hA} {d c s : Nat} {Q : wQ} (X : PHI Dc g σ D N F A)  {x1 y0 : Int} {ls : rO} (hl0 : rlook ls 0 = some (.ref (D 0))) (hl1 : rlook ls 1 = some (I x1)) (hl3 : rlook ls 3 = some (I (0))) (hl4 : rlook ls 4 = some (.ref (D 4))) (h0 : inr x1) (h1 : inr y0) (x_0 : (F 4 1) ≤ 16384) (hc337 : ∀ (ls : rO) (σₚ : rS) (Dₚ Nₚ : Nat → Nat) (Fₚ : hF) (Aₚ : hA) (cₚ sₚ : Nat), PHI Dc g σₚ Dₚ Nₚ Fₚ Aₚ → STP g σ D N A c s g σₚ Dₚ Nₚ Aₚ cₚ sₚ → EQD [(2, 1), (4, 1), (6, 1), (8, 1), (11, 1), (0, 18), (25, 1)] [3, 5, 7, 9, 12, 10, 29, 30, 26] [] [] D N F A Dₚ Nₚ Fₚ Aₚ → rlook ls 0 = some (.ref (Dₚ 0)) → rlook ls 1 = some (I (x1)) → (HID (STR (y0) ((F 4 1)) (sc ((A 28)) 0 ((F 27 1))) (sc ((A 5)) 0 ((F 4 1))) (((A 32)) 0) (((Aₚ 32)) 0))) → (HID (((Aₚ 32)) 1 = w32 (((A 32)) 1 + (if BNA ((A 10)) 0 ((F 4 1)) < (F 25 1) then 1 else 0)))) → Ew 17 (d + 3) 337 ls [] σₚ cₚ sₚ Q) (k : ∀ (z : Int) (σₚ : rS) (Dₚ Nₚ : Nat → Nat) (Fₚ : hF) (Aₚ : hA) (cₚ sₚ : Nat), PHI Dc g σₚ Dₚ Nₚ Fₚ Aₚ → STP g σ D N A c s g σₚ Dₚ Nₚ Aₚ cₚ sₚ → EQD [(2, 1), (4, 1), (6, 1), (8, 1), (11, 1), (0, 18), (25, 1)] [3, 5, 7, 9, 12, 10, 29, 30, 26] [] [] D N F A Dₚ Nₚ Fₚ Aₚ → ((0 : Int) = 1) → Q (some (I z)) σₚ cₚ sₚ) : Ew 17 (d + 3) 239 ls [I y0] σ c s Q := by
  obtain ⟨HX, HT, hg0, hPF, hAB, hNZ, hGI, hI0, hI1, hI2, hI3, hI4, hI5, hI6, hI7, hI8, hI9⟩ := X
  have hset := SETI_f hI0.2.2.2.2.2.2.2.2.2.2.2.2.2.2.2.2.2.2.2.2.2.2.2.2
  have hJ0 := hI0
  unfold INV0 at hJ0
  obtain ⟨f0_0, f0_1, f0_2, f0_3, f0_4, f0_5, f0_6, f0_7, f0_8, f0_9, f0_10, f0_11, f0_12, f0_13, f0_14, f0_15, f0_16, f0_17, f0_18, f0_19, f0_20, f0_21, f0_22, f0_23, f0_24⟩ := hJ0
  have hp : ∀ x, x < (V17_vE0).length → SPH g (ι_we0_1.getD x 0) = true := SPH_of (gs := [0]) (by intro j hj; simp at hj; subst hj; exact hg0) rfl (by decide +kernel)
  refine C17_vE0 (D := pul ι_we0_1 D) (N := pul ι_we0_1 N) (F := pul ι_we0_1 F) (A := pul ι_we0_1 A) (HWs_sub HX vs_we0_1 hp) (show F 0 5 = (D 25 : Int) from hPF (0, 0, 5, 25) (List.mem_of_getElem? (i := 24) rfl) hg0 hg0) (show F 25 0 = (D 26 : Int) from hPF (0, 25, 0, 26) (List.mem_of_getElem? (i := 25) rfl) hg0 hg0) (show F 0 6 = (D 27 : Int) from hPF (0, 0, 6, 27) (List.mem_of_getElem? (i := 26) rfl) hg0 hg0) (show F 27 0 = (D 28 : Int) from hPF (0, 27, 0, 28) (List.mem_of_getElem? (i := 27) rfl) hg0 hg0) (show F 4 0 = (D 5 : Int) from hPF (0, 4, 0, 5) (List.mem_of_getElem? (i := 4) rfl) hg0 hg0) (show F 0 16 = (D 32 : Int) from hPF (0, 0, 16, 32) (List.mem_of_getElem? (i := 31) rfl) hg0 hg0) (show F 0 1 = (D 10 : Int) from hPF (0, 0, 1, 10) (List.mem_of_getElem? (i := 9) rfl) hg0 hg0) (N 26 : Int) rfl (N 28 : Int) rfl (N 5 : Int) rfl (N 32 : Int) rfl (N 10 : Int) rfl (F 4 1) rfl (F 25 1) rfl (F 27 1) rfl (A 10) rfl  hl0 hl1 hl3 hl4 (show inr (x1) by first | assumption | omega) (show inr y0 by first | assumption | omega) (show 0 ≤ (F 25 1) ∧ (F 25 1) ≤ ((N 26 : Int)) ∧ ((N 26 : Int)) ≤ 65536 by first | assumption | omega) (show 0 ≤ (F 27 1) ∧ (F 27 1) ≤ ((N 28 : Int)) ∧ ((N 28 : Int)) ≤ 65536 by first | assumption | omega) (show 0 ≤ (F 4 1) ∧ (F 4 1) ≤ ((N 5 : Int)) ∧ ((N 5 : Int)) ≤ 65536 by first | assumption | omega) (show (F 4 1) ≤ 16384 by first | assumption | omega) (show ((N 32 : Int)) = 2 by first | assumption | omega) (show 1 ≤ ((A 10)) 2 ∧ ((A 10)) 2 ≤ 65536 by first | assumption | omega) (show 0 ≤ ((A 10)) 8 ∧ ((A 10)) 8 ≤ 11 by first | assumption | omega) (show 0 ≤ ((A 10)) 6 ∧ ((A 10)) 6 ≤ 255 by first | assumption | omega) (show ((N 10 : Int)) = 10 by first | assumption | omega) (fun  ls σ F_c337 A_c337  lc337_0 lc337_1 H O hS_c337 hA_c337    wc337_7 ewc337_7 jc337_0 jc337_1 jc337_2 => ?_) (fun z σₚ Fₚ Aₚ Hₚ O sf sa q0 q1 => ?_)
  · skip
    subst ewc337_7
    have sd : SD [] (pul ι_we0_1 D) (pul ι_we0_1 D) := SD_refl
    have sn : SD [] (pul ι_we0_1 N) (pul ι_we0_1 N) := SD_refl
    have : F_c337 1 1 = F 4 1 := hS_c337 1 1 rfl
    have : F_c337 4 1 = F 27 1 := hS_c337 4 1 rfl
    have : A_c337 6 = A 5 := funext (hA_c337 6 rfl)
    have : A_c337 5 = A 28 := funext (hA_c337 5 rfl)
    have : F_c337 2 1 = F 25 1 := hS_c337 2 1 rfl
    have : A_c337 8 = A 10 := funext (hA_c337 8 rfl)
    refine hc337   _ _ (glu ι_we0_1 D (pul ι_we0_1 D)) (glu ι_we0_1 N (pul ι_we0_1 N)) (glu ι_we0_1 F F_c337) (glu ι_we0_1 A A_c337) _ _ ⟨HWs_call HX VPH_3 vs_we0_1 hp H O, STC_call HT HX vs_we0_1 hp O, hg0, PFI_glue (dl := []) hPF hS_c337 hA_c337 sd (by decide +kernel) (rexc_of (l := []) (by decide +kernel) ?_), ABS_glue hAB hS_c337 (by decide +kernel), NZ_glue hNZ vs_we0_1 hp sn (by decide +kernel), hGI, ?_, ?_, ?_, ?_, ?_, ?_, ?_, ?_, ?_, ?_⟩ ⟨(STP0_call (STY_call vs_we0_1 hp O) (sd 0 rfl) (RM_call vs_we0_1 O)), unt1_of (x := 10) (by decide +kernel) (fun p hp => funext (hA_c337 p hp))⟩ (EQD_glue hS_c337 hA_c337 sd sn (by decide +kernel)) lc337_0 lc337_1 (show HID (STR (y0) ((F 4 1)) (sc ((A 28)) 0 ((F 27 1))) (sc ((A 5)) 0 ((F 4 1))) (((A 32)) 0) (((A_c337 7)) 0)) by first | assumption | omega | rfl) (show HID (((A_c337 7)) 1 = w32 (((A 32)) 1 + (if BNA ((A 10)) 0 ((F 4 1)) < (F 25 1) then 1 else 0))) by first | assumption | omega | rfl)
    · intro e he h1 h2
      cases he
    · exact INV0_eq (EQD_glue hS_c337 hA_c337 sd sn (by decide +kernel)) hI0
    · exact fun h => INV1_eq (EQD_glue hS_c337 hA_c337 sd sn (by decide +kernel)) (hI1 h)
    · exact fun h => INV2_eq (EQD_glue hS_c337 hA_c337 sd sn (by decide +kernel)) (hI2 h)
    · exact fun h => INV3_eq (EQD_glue hS_c337 hA_c337 sd sn (by decide +kernel)) (hI3 h)
    · exact fun h => INV4_eq (EQD_glue hS_c337 hA_c337 sd sn (by decide +kernel)) (hI4 h)
    · exact fun h => INV5_eq (EQD_glue hS_c337 hA_c337 sd sn (by decide +kernel)) (hI5 h)
    · exact fun h => INV6_eq (EQD_glue hS_c337 hA_c337 sd sn (by decide +kernel)) (hI6 h)
    · exact fun h => INV7_eq (EQD_glue hS_c337 hA_c337 sd sn (by decide +kernel)) (hI7 h)
    · exact fun h => INV8_eq (EQD_glue hS_c337 hA_c337 sd sn (by decide +kernel)) (hI8 h)
    · exact fun h => INV9_eq (EQD_glue hS_c337 hA_c337 sd sn (by decide +kernel)) (hI9 h)
  · skip
    have sd : SD [] (pul ι_we0_1 D) (pul ι_we0_1 D) := SD_refl
    have sn : SD [] (pul ι_we0_1 N) (pul ι_we0_1 N) := SD_refl
    refine k z _ (glu ι_we0_1 D (pul ι_we0_1 D)) (glu ι_we0_1 N (pul ι_we0_1 N)) (glu ι_we0_1 F Fₚ) (glu ι_we0_1 A Aₚ) _ _ ⟨HWs_call HX VPH_3 vs_we0_1 hp Hₚ O, STC_call HT HX vs_we0_1 hp O, hg0, PFI_glue (dl := []) hPF sf sa sd (by decide +kernel) (rexc_of (l := []) (by decide +kernel) ?_), ABS_glue hAB sf (by decide +kernel), NZ_glue hNZ vs_we0_1 hp sn (by decide +kernel), hGI, ?_, ?_, ?_, ?_, ?_, ?_, ?_, ?_, ?_, ?_⟩ ⟨(STP0_call (STY_call vs_we0_1 hp O) (sd 0 rfl) (RM_call vs_we0_1 O)), unt1_of (x := 10) (by decide +kernel) (fun p hp => funext (sa p hp))⟩ (EQD_glue sf sa sd sn (by decide +kernel)) (show (0 : Int) = 1 by first | assumption | omega | rfl)
    · intro e he h1 h2
      cases he
    · exact INV0_eq (EQD_glue sf sa sd sn (by decide +kernel)) hI0
    · exact fun h => INV1_eq (EQD_glue sf sa sd sn (by decide +kernel)) (hI1 h)
    · exact fun h => INV2_eq (EQD_glue sf sa sd sn (by decide +kernel)) (hI2 h)
    · exact fun h => INV3_eq (EQD_glue sf sa sd sn (by decide +kernel)) (hI3 h)
    · exact fun h => INV4_eq (EQD_glue sf sa sd sn (by decide +kernel)) (hI4 h)
    · exact fun h => INV5_eq (EQD_glue sf sa sd sn (by decide +kernel)) (hI5 h)
    · exact fun h => INV6_eq (EQD_glue sf sa sd sn (by decide +kernel)) (hI6 h)
    · exact fun h => INV7_eq (EQD_glue sf sa sd sn (by decide +kernel)) (hI7 h)
    · exact fun h => INV8_eq (EQD_glue sf sa sd sn (by decide +kernel)) (hI8 h)
    · exact fun h => INV9_eq (EQD_glue sf sa sd sn (by decide +kernel)) (hI9 h)
def ι_we0_2 : List Nat := [0, 6, 25, 26, 27, 28, 7, 32, 10]
theorem vs_we0_2 : VS VPH V17_vE0 ι_we0_2 := VS_of (by decide +kernel)
set_option maxRecDepth 20000 in
theorem T_we0_2 {Dc : DcS} {g : Nat → Bool} {σ : rS} {D N : Nat → Nat} {F : hF} {A : hA} {d c s : Nat} {Q : wQ} (X : PHI Dc g σ D N F A)  {x1 y0 : Int} {ls : rO} (hl0 : rlook ls 0 = some (.ref (D 0))) (hl1 : rlook ls 1 = some (I x1)) (hl3 : rlook ls 3 = some (I (0))) (hl4 : rlook ls 4 = some (.ref (D 6))) (h0 : inr x1) (h1 : inr y0) (x_0 : (F 6 1) ≤ 16384) (hc337 : ∀ (ls : rO) (σₚ : rS) (Dₚ Nₚ : Nat → Nat) (Fₚ : hF) (Aₚ : hA) (cₚ sₚ : Nat), PHI Dc g σₚ Dₚ Nₚ Fₚ Aₚ → STP g σ D N A c s g σₚ Dₚ Nₚ Aₚ cₚ sₚ → EQD [(2, 1), (4, 1), (6, 1), (8, 1), (11, 1), (0, 18), (25, 1)] [3, 5, 7, 9, 12, 10, 29, 30, 26] [] [] D N F A Dₚ Nₚ Fₚ Aₚ → rlook ls 0 = some (.ref (Dₚ 0)) → rlook ls 1 = some (I (x1)) → (HID (STR (y0) ((F 6 1)) (sc ((A 28)) 0 ((F 27 1))) (sc ((A 7)) 0 ((F 6 1))) (((A 32)) 0) (((Aₚ 32)) 0))) → (HID (((Aₚ 32)) 1 = w32 (((A 32)) 1 + (if BNA ((A 10)) 0 ((F 6 1)) < (F 25 1) then 1 else 0)))) → Ew 17 (d + 3) 337 ls [] σₚ cₚ sₚ Q) (k : ∀ (z : Int) (σₚ : rS) (Dₚ Nₚ : Nat → Nat) (Fₚ : hF) (Aₚ : hA) (cₚ sₚ : Nat), PHI Dc g σₚ Dₚ Nₚ Fₚ Aₚ → STP g σ D N A c s g σₚ Dₚ Nₚ Aₚ cₚ sₚ → EQD [(2, 1), (4, 1), (6, 1), (8, 1), (11, 1), (0, 18), (25, 1)] [3, 5, 7, 9, 12, 10, 29, 30, 26] [] [] D N F A Dₚ Nₚ Fₚ Aₚ → ((0 : Int) = 1) → Q (some (I z)) σₚ cₚ sₚ) : Ew 17 (d + 3) 239 ls [I y0] σ c s Q := by
  obtain ⟨HX, HT, hg0, hPF, hAB, hNZ, hGI, hI0, hI1, hI2, hI3, hI4, hI5, hI6, hI7, hI8, hI9⟩ := X
  have hset := SETI_f hI0.2.2.2.2.2.2.2.2.2.2.2.2.2.2.2.2.2.2.2.2.2.2.2.2
  have hJ0 := hI0
  unfold INV0 at hJ0
  obtain ⟨f0_0, f0_1, f0_2, f0_3, f0_4, f0_5, f0_6, f0_7, f0_8, f0_9, f0_10, f0_11, f0_12, f0_13, f0_14, f0_15, f0_16, f0_17, f0_18, f0_19, f0_20, f0_21, f0_22, f0_23, f0_24⟩ := hJ0
  have hp : ∀ x, x < (V17_vE0).length → SPH g (ι_we0_2.getD x 0) = true := SPH_of (gs := [0]) (by intro j hj; simp at hj; subst hj; exact hg0) rfl (by decide +kernel)
  refine C17_vE0 (D := pul ι_we0_2 D) (N := pul ι_we0_2 N) (F := pul ι_we0_2 F) (A := pul ι_we0_2 A) (HWs_sub HX vs_we0_2 hp) (show F 0 5 = (D 25 : Int) from hPF (0, 0, 5, 25) (List.mem_of_getElem? (i := 24) rfl) hg0 hg0) (show F 25 0 = (D 26 : Int) from hPF (0, 25, 0, 26) (List.mem_of_getElem? (i := 25) rfl) hg0 hg0) (show F 0 6 = (D 27 : Int) from hPF (0, 0, 6, 27) (List.mem_of_getElem? (i := 26) rfl) hg0 hg0) (show F 27 0 = (D 28 : Int) from hPF (0, 27, 0, 28) (List.mem_of_getElem? (i := 27) rfl) hg0 hg0) (show F 6 0 = (D 7 : Int) from hPF (0, 6, 0, 7) (List.mem_of_getElem? (i := 6) rfl) hg0 hg0) (show F 0 16 = (D 32 : Int) from hPF (0, 0, 16, 32) (List.mem_of_getElem? (i := 31) rfl) hg0 hg0) (show F 0 1 = (D 10 : Int) from hPF (0, 0, 1, 10) (List.mem_of_getElem? (i := 9) rfl) hg0 hg0) (N 26 : Int) rfl (N 28 : Int) rfl (N 7 : Int) rfl (N 32 : Int) rfl (N 10 : Int) rfl (F 6 1) rfl (F 25 1) rfl (F 27 1) rfl (A 10) rfl  hl0 hl1 hl3 hl4 (show inr (x1) by first | assumption | omega) (show inr y0 by first | assumption | omega) (show 0 ≤ (F 25 1) ∧ (F 25 1) ≤ ((N 26 : Int)) ∧ ((N 26 : Int)) ≤ 65536 by first | assumption | omega) (show 0 ≤ (F 27 1) ∧ (F 27 1) ≤ ((N 28 : Int)) ∧ ((N 28 : Int)) ≤ 65536 by first | assumption | omega) (show 0 ≤ (F 6 1) ∧ (F 6 1) ≤ ((N 7 : Int)) ∧ ((N 7 : Int)) ≤ 65536 by first | assumption | omega) (show (F 6 1) ≤ 16384 by first | assumption | omega) (show ((N 32 : Int)) = 2 by first | assumption | omega) (show 1 ≤ ((A 10)) 2 ∧ ((A 10)) 2 ≤ 65536 by first | assumption | omega) (show 0 ≤ ((A 10)) 8 ∧ ((A 10)) 8 ≤ 11 by first | assumption | omega) (show 0 ≤ ((A 10)) 6 ∧ ((A 10)) 6 ≤ 255 by first | assumption | omega) (show ((N 10 : Int)) = 10 by first | assumption | omega) (fun  ls σ F_c337 A_c337  lc337_0 lc337_1 H O hS_c337 hA_c337    wc337_7 ewc337_7 jc337_0 jc337_1 jc337_2 => ?_) (fun z σₚ Fₚ Aₚ Hₚ O sf sa q0 q1 => ?_)
  · skip
    subst ewc337_7
    have sd : SD [] (pul ι_we0_2 D) (pul ι_we0_2 D) := SD_refl
    have sn : SD [] (pul ι_we0_2 N) (pul ι_we0_2 N) := SD_refl
    have : F_c337 1 1 = F 6 1 := hS_c337 1 1 rfl
    have : F_c337 4 1 = F 27 1 := hS_c337 4 1 rfl
    have : A_c337 6 = A 7 := funext (hA_c337 6 rfl)
    have : A_c337 5 = A 28 := funext (hA_c337 5 rfl)
    have : F_c337 2 1 = F 25 1 := hS_c337 2 1 rfl
    have : A_c337 8 = A 10 := funext (hA_c337 8 rfl)
    refine hc337   _ _ (glu ι_we0_2 D (pul ι_we0_2 D)) (glu ι_we0_2 N (pul ι_we0_2 N)) (glu ι_we0_2 F F_c337) (glu ι_we0_2 A A_c337) _ _ ⟨HWs_call HX VPH_3 vs_we0_2 hp H O, STC_call HT HX vs_we0_2 hp O, hg0, PFI_glue (dl := []) hPF hS_c337 hA_c337 sd (by decide +kernel) (rexc_of (l := []) (by decide +kernel) ?_), ABS_glue hAB hS_c337 (by decide +kernel), NZ_glue hNZ vs_we0_2 hp sn (by decide +kernel), hGI, ?_, ?_, ?_, ?_, ?_, ?_, ?_, ?_, ?_, ?_⟩ ⟨(STP0_call (STY_call vs_we0_2 hp O) (sd 0 rfl) (RM_call vs_we0_2 O)), unt1_of (x := 10) (by decide +kernel) (fun p hp => funext (hA_c337 p hp))⟩ (EQD_glue hS_c337 hA_c337 sd sn (by decide +kernel)) lc337_0 lc337_1 (show HID (STR (y0) ((F 6 1)) (sc ((A 28)) 0 ((F 27 1))) (sc ((A 7)) 0 ((F 6 1))) (((A 32)) 0) (((A_c337 7)) 0)) by first | assumption | omega | rfl) (show HID (((A_c337 7)) 1 = w32 (((A 32)) 1 + (if BNA ((A 10)) 0 ((F 6 1)) < (F 25 1) then 1 else 0))) by first | assumption | omega | rfl)
    · intro e he h1 h2
      cases he
    · exact INV0_eq (EQD_glue hS_c337 hA_c337 sd sn (by decide +kernel)) hI0
    · exact fun h => INV1_eq (EQD_glue hS_c337 hA_c337 sd sn (by decide +kernel)) (hI1 h)
    · exact fun h => INV2_eq (EQD_glue hS_c337 hA_c337 sd sn (by decide +kernel)) (hI2 h)
    · exact fun h => INV3_eq (EQD_glue hS_c337 hA_c337 sd sn (by decide +kernel)) (hI3 h)
    · exact fun h => INV4_eq (EQD_glue hS_c337 hA_c337 sd sn (by decide +kernel)) (hI4 h)
    · exact fun h => INV5_eq (EQD_glue hS_c337 hA_c337 sd sn (by decide +kernel)) (hI5 h)
    · exact fun h => INV6_eq (EQD_glue hS_c337 hA_c337 sd sn (by decide +kernel)) (hI6 h)
    · exact fun h => INV7_eq (EQD_glue hS_c337 hA_c337 sd sn (by decide +kernel)) (hI7 h)
    · exact fun h => INV8_eq (EQD_glue hS_c337 hA_c337 sd sn (by decide +kernel)) (hI8 h)
    · exact fun h => INV9_eq (EQD_glue hS_c337 hA_c337 sd sn (by decide +kernel)) (hI9 h)
  · skip
    have sd : SD [] (pul ι_we0_2 D) (pul ι_we0_2 D) := SD_refl
    have sn : SD [] (pul ι_we0_2 N) (pul ι_we0_2 N) := SD_refl
    refine k z _ (glu ι_we0_2 D (pul ι_we0_2 D)) (glu ι_we0_2 N (pul ι_we0_2 N)) (glu ι_we0_2 F Fₚ) (glu ι_we0_2 A Aₚ) _ _ ⟨HWs_call HX VPH_3 vs_we0_2 hp Hₚ O, STC_call HT HX vs_we0_2 hp O, hg0, PFI_glue (dl := []) hPF sf sa sd (by decide +kernel) (rexc_of (l := []) (by decide +kernel) ?_), ABS_glue hAB sf (by decide +kernel), NZ_glue hNZ vs_we0_2 hp sn (by decide +kernel), hGI, ?_, ?_, ?_, ?_, ?_, ?_, ?_, ?_, ?_, ?_⟩ ⟨(STP0_call (STY_call vs_we0_2 hp O) (sd 0 rfl) (RM_call vs_we0_2 O)), unt1_of (x := 10) (by decide +kernel) (fun p hp => funext (sa p hp))⟩ (EQD_glue sf sa sd sn (by decide +kernel)) (show (0 : Int) = 1 by first | assumption | omega | rfl)
    · intro e he h1 h2
      cases he
    · exact INV0_eq (EQD_glue sf sa sd sn (by decide +kernel)) hI0
    · exact fun h => INV1_eq (EQD_glue sf sa sd sn (by decide +kernel)) (hI1 h)
    · exact fun h => INV2_eq (EQD_glue sf sa sd sn (by decide +kernel)) (hI2 h)
    · exact fun h => INV3_eq (EQD_glue sf sa sd sn (by decide +kernel)) (hI3 h)
    · exact fun h => INV4_eq (EQD_glue sf sa sd sn (by decide +kernel)) (hI4 h)
    · exact fun h => INV5_eq (EQD_glue sf sa sd sn (by decide +kernel)) (hI5 h)
    · exact fun h => INV6_eq (EQD_glue sf sa sd sn (by decide +kernel)) (hI6 h)
    · exact fun h => INV7_eq (EQD_glue sf sa sd sn (by decide +kernel)) (hI7 h)
    · exact fun h => INV8_eq (EQD_glue sf sa sd sn (by decide +kernel)) (hI8 h)
    · exact fun h => INV9_eq (EQD_glue sf sa sd sn (by decide +kernel)) (hI9 h)
def ι_we0_3 : List Nat := [0, 8, 25, 26, 27, 28, 9, 32, 10]
theorem vs_we0_3 : VS VPH V17_vE0 ι_we0_3 := VS_of (by decide +kernel)
set_option maxRecDepth 20000 in
theorem T_we0_3 {Dc : DcS} {g : Nat → Bool} {σ : rS} {D N : Nat → Nat} {F : hF} {A : hA} {d c s : Nat} {Q : wQ} (X : PHI Dc g σ D N F A)  {x1 y0 : Int} {ls : rO} (hl0 : rlook ls 0 = some (.ref (D 0))) (hl1 : rlook ls 1 = some (I x1)) (hl3 : rlook ls 3 = some (I (0))) (hl4 : rlook ls 4 = some (.ref (D 8))) (h0 : inr x1) (h1 : inr y0) (x_0 : (F 8 1) ≤ 16384) (hc337 : ∀ (ls : rO) (σₚ : rS) (Dₚ Nₚ : Nat → Nat) (Fₚ : hF) (Aₚ : hA) (cₚ sₚ : Nat), PHI Dc g σₚ Dₚ Nₚ Fₚ Aₚ → STP g σ D N A c s g σₚ Dₚ Nₚ Aₚ cₚ sₚ → EQD [(2, 1), (4, 1), (6, 1), (8, 1), (11, 1), (0, 18), (25, 1)] [3, 5, 7, 9, 12, 10, 29, 30, 26] [] [] D N F A Dₚ Nₚ Fₚ Aₚ → rlook ls 0 = some (.ref (Dₚ 0)) → rlook ls 1 = some (I (x1)) → (HID (STR (y0) ((F 8 1)) (sc ((A 28)) 0 ((F 27 1))) (sc ((A 9)) 0 ((F 8 1))) (((A 32)) 0) (((Aₚ 32)) 0))) → (HID (((Aₚ 32)) 1 = w32 (((A 32)) 1 + (if BNA ((A 10)) 0 ((F 8 1)) < (F 25 1) then 1 else 0)))) → Ew 17 (d + 3) 337 ls [] σₚ cₚ sₚ Q) (k : ∀ (z : Int) (σₚ : rS) (Dₚ Nₚ : Nat → Nat) (Fₚ : hF) (Aₚ : hA) (cₚ sₚ : Nat), PHI Dc g σₚ Dₚ Nₚ Fₚ Aₚ → STP g σ D N A c s g σₚ Dₚ Nₚ Aₚ cₚ sₚ → EQD [(2, 1), (4, 1), (6, 1), (8, 1), (11, 1), (0, 18), (25, 1)] [3, 5, 7, 9, 12, 10, 29, 30, 26] [] [] D N F A Dₚ Nₚ Fₚ Aₚ → ((0 : Int) = 1) → Q (some (I z)) σₚ cₚ sₚ) : Ew 17 (d + 3) 239 ls [I y0] σ c s Q := by
  obtain ⟨HX, HT, hg0, hPF, hAB, hNZ, hGI, hI0, hI1, hI2, hI3, hI4, hI5, hI6, hI7, hI8, hI9⟩ := X
  have hset := SETI_f hI0.2.2.2.2.2.2.2.2.2.2.2.2.2.2.2.2.2.2.2.2.2.2.2.2
  have hJ0 := hI0
  unfold INV0 at hJ0
  obtain ⟨f0_0, f0_1, f0_2, f0_3, f0_4, f0_5, f0_6, f0_7, f0_8, f0_9, f0_10, f0_11, f0_12, f0_13, f0_14, f0_15, f0_16, f0_17, f0_18, f0_19, f0_20, f0_21, f0_22, f0_23, f0_24⟩ := hJ0
  have hp : ∀ x, x < (V17_vE0).length → SPH g (ι_we0_3.getD x 0) = true := SPH_of (gs := [0]) (by intro j hj; simp at hj; subst hj; exact hg0) rfl (by decide +kernel)
  refine C17_vE0 (D := pul ι_we0_3 D) (N := pul ι_we0_3 N) (F := pul ι_we0_3 F) (A := pul ι_we0_3 A) (HWs_sub HX vs_we0_3 hp) (show F 0 5 = (D 25 : Int) from hPF (0, 0, 5, 25) (List.mem_of_getElem? (i := 24) rfl) hg0 hg0) (show F 25 0 = (D 26 : Int) from hPF (0, 25, 0, 26) (List.mem_of_getElem? (i := 25) rfl) hg0 hg0) (show F 0 6 = (D 27 : Int) from hPF (0, 0, 6, 27) (List.mem_of_getElem? (i := 26) rfl) hg0 hg0) (show F 27 0 = (D 28 : Int) from hPF (0, 27, 0, 28) (List.mem_of_getElem? (i := 27) rfl) hg0 hg0) (show F 8 0 = (D 9 : Int) from hPF (0, 8, 0, 9) (List.mem_of_getElem? (i := 8) rfl) hg0 hg0) (show F 0 16 = (D 32 : Int) from hPF (0, 0, 16, 32) (List.mem_of_getElem? (i := 31) rfl) hg0 hg0) (show F 0 1 = (D 10 : Int) from hPF (0, 0, 1, 10) (List.mem_of_getElem? (i := 9) rfl) hg0 hg0) (N 26 : Int) rfl (N 28 : Int) rfl (N 9 : Int) rfl (N 32 : Int) rfl (N 10 : Int) rfl (F 8 1) rfl (F 25 1) rfl (F 27 1) rfl (A 10) rfl  hl0 hl1 hl3 hl4 (show inr (x1) by first | assumption | omega) (show inr y0 by first | assumption | omega) (show 0 ≤ (F 25 1) ∧ (F 25 1) ≤ ((N 26 : Int)) ∧ ((N 26 : Int)) ≤ 65536 by first | assumption | omega) (show 0 ≤ (F 27 1) ∧ (F 27 1) ≤ ((N 28 : Int)) ∧ ((N 28 : Int)) ≤ 65536 by first | assumption | omega) (show 0 ≤ (F 8 1) ∧ (F 8 1) ≤ ((N 9 : Int)) ∧ ((N 9 : Int)) ≤ 65536 by first | assumption | omega) (show (F 8 1) ≤ 16384 by first | assumption | omega) (show ((N 32 : Int)) = 2 by first | assumption | omega) (show 1 ≤ ((A 10)) 2 ∧ ((A 10)) 2 ≤ 65536 by first | assumption | omega) (show 0 ≤ ((A 10)) 8 ∧ ((A 10)) 8 ≤ 11 by first | assumption | omega) (show 0 ≤ ((A 10)) 6 ∧ ((A 10)) 6 ≤ 255 by first | assumption | omega) (show ((N 10 : Int)) = 10 by first | assumption | omega) (fun  ls σ F_c337 A_c337  lc337_0 lc337_1 H O hS_c337 hA_c337    wc337_7 ewc337_7 jc337_0 jc337_1 jc337_2 => ?_) (fun z σₚ Fₚ Aₚ Hₚ O sf sa q0 q1 => ?_)
  · skip
    subst ewc337_7
    have sd : SD [] (pul ι_we0_3 D) (pul ι_we0_3 D) := SD_refl
    have sn : SD [] (pul ι_we0_3 N) (pul ι_we0_3 N) := SD_refl
    have : F_c337 1 1 = F 8 1 := hS_c337 1 1 rfl
    have : F_c337 4 1 = F 27 1 := hS_c337 4 1 rfl
    have : A_c337 6 = A 9 := funext (hA_c337 6 rfl)
    have : A_c337 5 = A 28 := funext (hA_c337 5 rfl)
    have : F_c337 2 1 = F 25 1 := hS_c337 2 1 rfl
    have : A_c337 8 = A 10 := funext (hA_c337 8 rfl)
    refine hc337   _ _ (glu ι_we0_3 D (pul ι_we0_3 D)) (glu ι_we0_3 N (pul ι_we0_3 N)) (glu ι_we0_3 F F_c337) (glu ι_we0_3 A A_c337) _ _ ⟨HWs_call HX VPH_3 vs_we0_3 hp H O, STC_call HT HX vs_we0_3 hp O, hg0, PFI_glue (dl := []) hPF hS_c337 hA_c337 sd (by decide +kernel) (rexc_of (l := []) (by decide +kernel) ?_), ABS_glue hAB hS_c337 (by decide +kernel), NZ_glue hNZ vs_we0_3 hp sn (by decide +kernel), hGI, ?_, ?_, ?_, ?_, ?_, ?_, ?_, ?_, ?_, ?_⟩ ⟨(STP0_call (STY_call vs_we0_3 hp O) (sd 0 rfl) (RM_call vs_we0_3 O)), unt1_of (x := 10) (by decide +kernel) (fun p hp => funext (hA_c337 p hp))⟩ (EQD_glue hS_c337 hA_c337 sd sn (by decide +kernel)) lc337_0 lc337_1 (show HID (STR (y0) ((F 8 1)) (sc ((A 28)) 0 ((F 27 1))) (sc ((A 9)) 0 ((F 8 1))) (((A 32)) 0) (((A_c337 7)) 0)) by first | assumption | omega | rfl) (show HID (((A_c337 7)) 1 = w32 (((A 32)) 1 + (if BNA ((A 10)) 0 ((F 8 1)) < (F 25 1) then 1 else 0))) by first | assumption | omega | rfl)
    · intro e he h1 h2
      cases he
    · exact INV0_eq (EQD_glue hS_c337 hA_c337 sd sn (by decide +kernel)) hI0
    · exact fun h => INV1_eq (EQD_glue hS_c337 hA_c337 sd sn (by decide +kernel)) (hI1 h)
    · exact fun h => INV2_eq (EQD_glue hS_c337 hA_c337 sd sn (by decide +kernel)) (hI2 h)
    · exact fun h => INV3_eq (EQD_glue hS_c337 hA_c337 sd sn (by decide +kernel)) (hI3 h)
    · exact fun h => INV4_eq (EQD_glue hS_c337 hA_c337 sd sn (by decide +kernel)) (hI4 h)
    · exact fun h => INV5_eq (EQD_glue hS_c337 hA_c337 sd sn (by decide +kernel)) (hI5 h)
    · exact fun h => INV6_eq (EQD_glue hS_c337 hA_c337 sd sn (by decide +kernel)) (hI6 h)
    · exact fun h => INV7_eq (EQD_glue hS_c337 hA_c337 sd sn (by decide +kernel)) (hI7 h)
    · exact fun h => INV8_eq (EQD_glue hS_c337 hA_c337 sd sn (by decide +kernel)) (hI8 h)
    · exact fun h => INV9_eq (EQD_glue hS_c337 hA_c337 sd sn (by decide +kernel)) (hI9 h)
  · skip
    have sd : SD [] (pul ι_we0_3 D) (pul ι_we0_3 D) := SD_refl
    have sn : SD [] (pul ι_we0_3 N) (pul ι_we0_3 N) := SD_refl
    refine k z _ (glu ι_we0_3 D (pul ι_we0_3 D)) (glu ι_we0_3 N (pul ι_we0_3 N)) (glu ι_we0_3 F Fₚ) (glu ι_we0_3 A Aₚ) _ _ ⟨HWs_call HX VPH_3 vs_we0_3 hp Hₚ O, STC_call HT HX vs_we0_3 hp O, hg0, PFI_glue (dl := []) hPF sf sa sd (by decide +kernel) (rexc_of (l := []) (by decide +kernel) ?_), ABS_glue hAB sf (by decide +kernel), NZ_glue hNZ vs_we0_3 hp sn (by decide +kernel), hGI, ?_, ?_, ?_, ?_, ?_, ?_, ?_, ?_, ?_, ?_⟩ ⟨(STP0_call (STY_call vs_we0_3 hp O) (sd 0 rfl) (RM_call vs_we0_3 O)), unt1_of (x := 10) (by decide +kernel) (fun p hp => funext (sa p hp))⟩ (EQD_glue sf sa sd sn (by decide +kernel)) (show (0 : Int) = 1 by first | assumption | omega | rfl)
    · intro e he h1 h2
      cases he
    · exact INV0_eq (EQD_glue sf sa sd sn (by decide +kernel)) hI0
    · exact fun h => INV1_eq (EQD_glue sf sa sd sn (by decide +kernel)) (hI1 h)
    · exact fun h => INV2_eq (EQD_glue sf sa sd sn (by decide +kernel)) (hI2 h)
    · exact fun h => INV3_eq (EQD_glue sf sa sd sn (by decide +kernel)) (hI3 h)
    · exact fun h => INV4_eq (EQD_glue sf sa sd sn (by decide +kernel)) (hI4 h)
    · exact fun h => INV5_eq (EQD_glue sf sa sd sn (by decide +kernel)) (hI5 h)
    · exact fun h => INV6_eq (EQD_glue sf sa sd sn (by decide +kernel)) (hI6 h)
    · exact fun h => INV7_eq (EQD_glue sf sa sd sn (by decide +kernel)) (hI7 h)
    · exact fun h => INV8_eq (EQD_glue sf sa sd sn (by decide +kernel)) (hI8 h)
    · exact fun h => INV9_eq (EQD_glue sf sa sd sn (by decide +kernel)) (hI9 h)
def ι_we1_0 : List Nat := [0, 2, 25, 26, 27, 28, 3, 32, 10]
theorem vs_we1_0 : VS VPH V17_vE1 ι_we1_0 := VS_of (by decide +kernel)
set_option maxRecDepth 20000 in
theorem T_we1_0 {Dc : DcS} {g : Nat → Bool} {σ : rS} {D N : Nat → Nat} {F : hF} {A : hA} {d c s : Nat} {Q : wQ} (X : PHI Dc g σ D N F A)  {x1 y0 : Int} {ls : rO} (hl0 : rlook ls 0 = some (.ref (D 0))) (hl1 : rlook ls 1 = some (I x1)) (hl3 : rlook ls 3 = some (I (1))) (hl4 : rlook ls 4 = some (.ref (D 2))) (h0 : inr x1) (h1 : inr y0) (x_0 : (F 2 1) ≤ 16384) (hc337 : ∀ (ls : rO) (σₚ : rS) (Dₚ Nₚ : Nat → Nat) (Fₚ : hF) (Aₚ : hA) (cₚ sₚ : Nat), PHI Dc g σₚ Dₚ Nₚ Fₚ Aₚ → STP g σ D N A c s g σₚ Dₚ Nₚ Aₚ cₚ sₚ → EQD [(2, 1), (4, 1), (6, 1), (8, 1), (11, 1), (0, 18), (25, 1)] [3, 5, 7, 9, 12, 10, 29, 30, 26] [] [] D N F A Dₚ Nₚ Fₚ Aₚ → rlook ls 0 = some (.ref (Dₚ 0)) → rlook ls 1 = some (I (x1)) → (HID (STR (y0) ((F 2 1)) (sc ((A 28)) 0 ((F 27 1))) (sc ((A 3)) 0 ((F 2 1))) (((A 32)) 0) (((Aₚ 32)) 0))) → (HID (((Aₚ 32)) 1 = w32 (((A 32)) 1 + (if BNA ((A 10)) 1 ((F 2 1)) < (F 25 1) then 1 else 0)))) → Ew 17 (d + 3) 337 ls [] σₚ cₚ sₚ Q) (k : ∀ (z : Int) (σₚ : rS) (Dₚ Nₚ : Nat → Nat) (Fₚ : hF) (Aₚ : hA) (cₚ sₚ : Nat), PHI Dc g σₚ Dₚ Nₚ Fₚ Aₚ → STP g σ D N A c s g σₚ Dₚ Nₚ Aₚ cₚ sₚ → EQD [(2, 1), (4, 1), (6, 1), (8, 1), (11, 1), (0, 18), (25, 1)] [3, 5, 7, 9, 12, 10, 29, 30, 26] [] [] D N F A Dₚ Nₚ Fₚ Aₚ → ((0 : Int) = 1) → Q (some (I z)) σₚ cₚ sₚ) : Ew 17 (d + 3) 239 ls [I y0] σ c s Q := by
  obtain ⟨HX, HT, hg0, hPF, hAB, hNZ, hGI, hI0, hI1, hI2, hI3, hI4, hI5, hI6, hI7, hI8, hI9⟩ := X
  have hset := SETI_f hI0.2.2.2.2.2.2.2.2.2.2.2.2.2.2.2.2.2.2.2.2.2.2.2.2
  have hJ0 := hI0
  unfold INV0 at hJ0
  obtain ⟨f0_0, f0_1, f0_2, f0_3, f0_4, f0_5, f0_6, f0_7, f0_8, f0_9, f0_10, f0_11, f0_12, f0_13, f0_14, f0_15, f0_16, f0_17, f0_18, f0_19, f0_20, f0_21, f0_22, f0_23, f0_24⟩ := hJ0
  have hp : ∀ x, x < (V17_vE1).length → SPH g (ι_we1_0.getD x 0) = true := SPH_of (gs := [0]) (by intro j hj; simp at hj; subst hj; exact hg0) rfl (by decide +kernel)
  refine C17_vE1 (D := pul ι_we1_0 D) (N := pul ι_we1_0 N) (F := pul ι_we1_0 F) (A := pul ι_we1_0 A) (HWs_sub HX vs_we1_0 hp) (show F 0 5 = (D 25 : Int) from hPF (0, 0, 5, 25) (List.mem_of_getElem? (i := 24) rfl) hg0 hg0) (show F 25 0 = (D 26 : Int) from hPF (0, 25, 0, 26) (List.mem_of_getElem? (i := 25) rfl) hg0 hg0) (show F 0 6 = (D 27 : Int) from hPF (0, 0, 6, 27) (List.mem_of_getElem? (i := 26) rfl) hg0 hg0) (show F 27 0 = (D 28 : Int) from hPF (0, 27, 0, 28) (List.mem_of_getElem? (i := 27) rfl) hg0 hg0) (show F 2 0 = (D 3 : Int) from hPF (0, 2, 0, 3) (List.mem_of_getElem? (i := 2) rfl) hg0 hg0) (show F 0 16 = (D 32 : Int) from hPF (0, 0, 16, 32) (List.mem_of_getElem? (i := 31) rfl) hg0 hg0) (show F 0 1 = (D 10 : Int) from hPF (0, 0, 1, 10) (List.mem_of_getElem? (i := 9) rfl) hg0 hg0) (N 26 : Int) rfl (N 28 : Int) rfl (N 3 : Int) rfl (N 32 : Int) rfl (N 10 : Int) rfl (F 2 1) rfl (F 25 1) rfl (F 27 1) rfl (A 10) rfl  hl0 hl1 hl3 hl4 (show inr (x1) by first | assumption | omega) (show inr y0 by first | assumption | omega) (show 0 ≤ (F 25 1) ∧ (F 25 1) ≤ ((N 26 : Int)) ∧ ((N 26 : Int)) ≤ 65536 by first | assumption | omega) (show 0 ≤ (F 27 1) ∧ (F 27 1) ≤ ((N 28 : Int)) ∧ ((N 28 : Int)) ≤ 65536 by first | assumption | omega) (show 0 ≤ (F 2 1) ∧ (F 2 1) ≤ ((N 3 : Int)) ∧ ((N 3 : Int)) ≤ 65536 by first | assumption | omega) (show (F 2 1) ≤ 16384 by first | assumption | omega) (show ((N 32 : Int)) = 2 by first | assumption | omega) (show 1 ≤ ((A 10)) 2 ∧ ((A 10)) 2 ≤ 65536 by first | assumption | omega) (show 0 ≤ ((A 10)) 8 ∧ ((A 10)) 8 ≤ 11 by first | assumption | omega) (show 0 ≤ ((A 10)) 6 ∧ ((A 10)) 6 ≤ 255 by first | assumption | omega) (show ((N 10 : Int)) = 10 by first | assumption | omega) (fun  ls σ F_c337 A_c337  lc337_0 lc337_1 H O hS_c337 hA_c337    wc337_7 ewc337_7 jc337_0 jc337_1 jc337_2 => ?_) (fun z σₚ Fₚ Aₚ Hₚ O sf sa q0 q1 => ?_)
  · skip
    subst ewc337_7
    have sd : SD [] (pul ι_we1_0 D) (pul ι_we1_0 D) := SD_refl
    have sn : SD [] (pul ι_we1_0 N) (pul ι_we1_0 N) := SD_refl
    have : F_c337 1 1 = F 2 1 := hS_c337 1 1 rfl
    have : F_c337 4 1 = F 27 1 := hS_c337 4 1 rfl
    have : A_c337 6 = A 3 := funext (hA_c337 6 rfl)
    have : A_c337 5 = A 28 := funext (hA_c337 5 rfl)
    have : F_c337 2 1 = F 25 1 := hS_c337 2 1 rfl
    have : A_c337 8 = A 10 := funext (hA_c337 8 rfl)
    refine hc337   _ _ (glu ι_we1_0 D (pul ι_we1_0 D)) (glu ι_we1_0 N (pul ι_we1_0 N)) (glu ι_we1_0 F F_c337) (glu ι_we1_0 A A_c337) _ _ ⟨HWs_call HX VPH_3 vs_we1_0 hp H O, STC_call HT HX vs_we1_0 hp O, hg0, PFI_glue (dl := []) hPF hS_c337 hA_c337 sd (by decide +kernel) (rexc_of (l := []) (by decide +kernel) ?_), ABS_glue hAB hS_c337 (by decide +kernel), NZ_glue hNZ vs_we1_0 hp sn (by decide +kernel), hGI, ?_, ?_, ?_, ?_, ?_, ?_, ?_, ?_, ?_, ?_⟩ ⟨(STP0_call (STY_call vs_we1_0 hp O) (sd 0 rfl) (RM_call vs_we1_0 O)), unt1_of (x := 10) (by decide +kernel) (fun p hp => funext (hA_c337 p hp))⟩ (EQD_glue hS_c337 hA_c337 sd sn (by decide +kernel)) lc337_0 lc337_1 (show HID (STR (y0) ((F 2 1)) (sc ((A 28)) 0 ((F 27 1))) (sc ((A 3)) 0 ((F 2 1))) (((A 32)) 0) (((A_c337 7)) 0)) by first | assumption | omega | rfl) (show HID (((A_c337 7)) 1 = w32 (((A 32)) 1 + (if BNA ((A 10)) 1 ((F 2 1)) < (F 25 1) then 1 else 0))) by first | assumption | omega | rfl)
    · intro e he h1 h2
      cases he
    · exact INV0_eq (EQD_glue hS_c337 hA_c337 sd sn (by decide +kernel)) hI0
    · exact fun h => INV1_eq (EQD_glue hS_c337 hA_c337 sd sn (by decide +kernel)) (hI1 h)
    · exact fun h => INV2_eq (EQD_glue hS_c337 hA_c337 sd sn (by decide +kernel)) (hI2 h)
    · exact fun h => INV3_eq (EQD_glue hS_c337 hA_c337 sd sn (by decide +kernel)) (hI3 h)
    · exact fun h => INV4_eq (EQD_glue hS_c337 hA_c337 sd sn (by decide +kernel)) (hI4 h)
    · exact fun h => INV5_eq (EQD_glue hS_c337 hA_c337 sd sn (by decide +kernel)) (hI5 h)
    · exact fun h => INV6_eq (EQD_glue hS_c337 hA_c337 sd sn (by decide +kernel)) (hI6 h)
    · exact fun h => INV7_eq (EQD_glue hS_c337 hA_c337 sd sn (by decide +kernel)) (hI7 h)
    · exact fun h => INV8_eq (EQD_glue hS_c337 hA_c337 sd sn (by decide +kernel)) (hI8 h)
    · exact fun h => INV9_eq (EQD_glue hS_c337 hA_c337 sd sn (by decide +kernel)) (hI9 h)
  · skip
    have sd : SD [] (pul ι_we1_0 D) (pul ι_we1_0 D) := SD_refl
    have sn : SD [] (pul ι_we1_0 N) (pul ι_we1_0 N) := SD_refl
    refine k z _ (glu ι_we1_0 D (pul ι_we1_0 D)) (glu ι_we1_0 N (pul ι_we1_0 N)) (glu ι_we1_0 F Fₚ) (glu ι_we1_0 A Aₚ) _ _ ⟨HWs_call HX VPH_3 vs_we1_0 hp Hₚ O, STC_call HT HX vs_we1_0 hp O, hg0, PFI_glue (dl := []) hPF sf sa sd (by decide +kernel) (rexc_of (l := []) (by decide +kernel) ?_), ABS_glue hAB sf (by decide +kernel), NZ_glue hNZ vs_we1_0 hp sn (by decide +kernel), hGI, ?_, ?_, ?_, ?_, ?_, ?_, ?_, ?_, ?_, ?_⟩ ⟨(STP0_call (STY_call vs_we1_0 hp O) (sd 0 rfl) (RM_call vs_we1_0 O)), unt1_of (x := 10) (by decide +kernel) (fun p hp => funext (sa p hp))⟩ (EQD_glue sf sa sd sn (by decide +kernel)) (show (0 : Int) = 1 by first | assumption | omega | rfl)
    · intro e he h1 h2
      cases he
    · exact INV0_eq (EQD_glue sf sa sd sn (by decide +kernel)) hI0
    · exact fun h => INV1_eq (EQD_glue sf sa sd sn (by decide +kernel)) (hI1 h)
    · exact fun h => INV2_eq (EQD_glue sf sa sd sn (by decide +kernel)) (hI2 h)
    · exact fun h => INV3_eq (EQD_glue sf sa sd sn (by decide +kernel)) (hI3 h)
    · exact fun h => INV4_eq (EQD_glue sf sa sd sn (by decide +kernel)) (hI4 h)
    · exact fun h => INV5_eq (EQD_glue sf sa sd sn (by decide +kernel)) (hI5 h)
    · exact fun h => INV6_eq (EQD_glue sf sa sd sn (by decide +kernel)) (hI6 h)
    · exact fun h => INV7_eq (EQD_glue sf sa sd sn (by decide +kernel)) (hI7 h)
    · exact fun h => INV8_eq (EQD_glue sf sa sd sn (by decide +kernel)) (hI8 h)
    · exact fun h => INV9_eq (EQD_glue sf sa sd sn (by decide +kernel)) (hI9 h)
def ι_we1_1 : List Nat := [0, 4, 25, 26, 27, 28, 5, 32, 10]
theorem vs_we1_1 : VS VPH V17_vE1 ι_we1_1 := VS_of (by decide +kernel)
set_option maxRecDepth 20000 in
theorem T_we1_1 {Dc : DcS} {g : Nat → Bool} {σ : rS} {D N : Nat → Nat} {F : hF} {A : hA} {d c s : Nat} {Q : wQ} (X : PHI Dc g σ D N F A)  {x1 y0 : Int} {ls : rO} (hl0 : rlook ls 0 = some (.ref (D 0))) (hl1 : rlook ls 1 = some (I x1)) (hl3 : rlook ls 3 = some (I (1))) (hl4 : rlook ls 4 = some (.ref (D 4))) (h0 : inr x1) (h1 : inr y0) (x_0 : (F 4 1) ≤ 16384) (hc337 : ∀ (ls : rO) (σₚ : rS) (Dₚ Nₚ : Nat → Nat) (Fₚ : hF) (Aₚ : hA) (cₚ sₚ : Nat), PHI Dc g σₚ Dₚ Nₚ Fₚ Aₚ → STP g σ D N A c s g σₚ Dₚ Nₚ Aₚ cₚ sₚ → EQD [(2, 1), (4, 1), (6, 1), (8, 1), (11, 1), (0, 18), (25, 1)] [3, 5, 7, 9, 12, 10, 29, 30, 26] [] [] D N F A Dₚ Nₚ Fₚ Aₚ → rlook ls 0 = some (.ref (Dₚ 0)) → rlook ls 1 = some (I (x1)) → (HID (STR (y0) ((F 4 1)) (sc ((A 28)) 0 ((F 27 1))) (sc ((A 5)) 0 ((F 4 1))) (((A 32)) 0) (((Aₚ 32)) 0))) → (HID (((Aₚ 32)) 1 = w32 (((A 32)) 1 + (if BNA ((A 10)) 1 ((F 4 1)) < (F 25 1) then 1 else 0)))) → Ew 17 (d + 3) 337 ls [] σₚ cₚ sₚ Q) (k : ∀ (z : Int) (σₚ : rS) (Dₚ Nₚ : Nat → Nat) (Fₚ : hF) (Aₚ : hA) (cₚ sₚ : Nat), PHI Dc g σₚ Dₚ Nₚ Fₚ Aₚ → STP g σ D N A c s g σₚ Dₚ Nₚ Aₚ cₚ sₚ → EQD [(2, 1), (4, 1), (6, 1), (8, 1), (11, 1), (0, 18), (25, 1)] [3, 5, 7, 9, 12, 10, 29, 30, 26] [] [] D N F A Dₚ Nₚ Fₚ Aₚ → ((0 : Int) = 1) → Q (some (I z)) σₚ cₚ sₚ) : Ew 17 (d + 3) 239 ls [I y0] σ c s Q := by
  obtain ⟨HX, HT, hg0, hPF, hAB, hNZ, hGI, hI0, hI1, hI2, hI3, hI4, hI5, hI6, hI7, hI8, hI9⟩ := X
  have hset := SETI_f hI0.2.2.2.2.2.2.2.2.2.2.2.2.2.2.2.2.2.2.2.2.2.2.2.2
  have hJ0 := hI0
  unfold INV0 at hJ0
  obtain ⟨f0_0, f0_1, f0_2, f0_3, f0_4, f0_5, f0_6, f0_7, f0_8, f0_9, f0_10, f0_11, f0_12, f0_13, f0_14, f0_15, f0_16, f0_17, f0_18, f0_19, f0_20, f0_21, f0_22, f0_23, f0_24⟩ := hJ0
  have hp : ∀ x, x < (V17_vE1).length → SPH g (ι_we1_1.getD x 0) = true := SPH_of (gs := [0]) (by intro j hj; simp at hj; subst hj; exact hg0) rfl (by decide +kernel)
  refine C17_vE1 (D := pul ι_we1_1 D) (N := pul ι_we1_1 N) (F := pul ι_we1_1 F) (A := pul ι_we1_1 A) (HWs_sub HX vs_we1_1 hp) (show F 0 5 = (D 25 : Int) from hPF (0, 0, 5, 25) (List.mem_of_getElem? (i := 24) rfl) hg0 hg0) (show F 25 0 = (D 26 : Int) from hPF (0, 25, 0, 26) (List.mem_of_getElem? (i := 25) rfl) hg0 hg0) (show F 0 6 = (D 27 : Int) from hPF (0, 0, 6, 27) (List.mem_of_getElem? (i := 26) rfl) hg0 hg0) (show F 27 0 = (D 28 : Int) from hPF (0, 27, 0, 28) (List.mem_of_getElem? (i := 27) rfl) hg0 hg0) (show F 4 0 = (D 5 : Int) from hPF (0, 4, 0, 5) (List.mem_of_getElem? (i := 4) rfl) hg0 hg0) (show F 0 16 = (D 32 : Int) from hPF (0, 0, 16, 32) (List.mem_of_getElem? (i := 31) rfl) hg0 hg0) (show F 0 1 = (D 10 : Int) from hPF (0, 0, 1, 10) (List.mem_of_getElem? (i := 9) rfl) hg0 hg0) (N 26 : Int) rfl (N 28 : Int) rfl (N 5 : Int) rfl (N 32 : Int) rfl (N 10 : Int) rfl (F 4 1) rfl (F 25 1) rfl (F 27 1) rfl (A 10) rfl  hl0 hl1 hl3 hl4 (show inr (x1) by first | assumption | omega) (show inr y0 by first | assumption | omega) (show 0 ≤ (F 25 1) ∧ (F 25 1) ≤ ((N 26 : Int)) ∧ ((N 26 : Int)) ≤ 65536 by first | assumption | omega) (show 0 ≤ (F 27 1) ∧ (F 27 1) ≤ ((N 28 : Int)) ∧ ((N 28 : Int)) ≤ 65536 by first | assumption | omega) (show 0 ≤ (F 4 1) ∧ (F 4 1) ≤ ((N 5 : Int)) ∧ ((N 5 : Int)) ≤ 65536 by first | assumption | omega) (show (F 4 1) ≤ 16384 by first | assumption | omega) (show ((N 32 : Int)) = 2 by first | assumption | omega) (show 1 ≤ ((A 10)) 2 ∧ ((A 10)) 2 ≤ 65536 by first | assumption | omega) (show 0 ≤ ((A 10)) 8 ∧ ((A 10)) 8 ≤ 11 by first | assumption | omega) (show 0 ≤ ((A 10)) 6 ∧ ((A 10)) 6 ≤ 255 by first | assumption | omega) (show ((N 10 : Int)) = 10 by first | assumption | omega) (fun  ls σ F_c337 A_c337  lc337_0 lc337_1 H O hS_c337 hA_c337    wc337_7 ewc337_7 jc337_0 jc337_1 jc337_2 => ?_) (fun z σₚ Fₚ Aₚ Hₚ O sf sa q0 q1 => ?_)
  · skip
    subst ewc337_7
    have sd : SD [] (pul ι_we1_1 D) (pul ι_we1_1 D) := SD_refl
    have sn : SD [] (pul ι_we1_1 N) (pul ι_we1_1 N) := SD_refl
    have : F_c337 1 1 = F 4 1 := hS_c337 1 1 rfl
    have : F_c337 4 1 = F 27 1 := hS_c337 4 1 rfl
    have : A_c337 6 = A 5 := funext (hA_c337 6 rfl)
    have : A_c337 5 = A 28 := funext (hA_c337 5 rfl)
    have : F_c337 2 1 = F 25 1 := hS_c337 2 1 rfl
    have : A_c337 8 = A 10 := funext (hA_c337 8 rfl)
    refine hc337   _ _ (glu ι_we1_1 D (pul ι_we1_1 D)) (glu ι_we1_1 N (pul ι_we1_1 N)) (glu ι_we1_1 F F_c337) (glu ι_we1_1 A A_c337) _ _ ⟨HWs_call HX VPH_3 vs_we1_1 hp H O, STC_call HT HX vs_we1_1 hp O, hg0, PFI_glue (dl := []) hPF hS_c337 hA_c337 sd (by decide +kernel) (rexc_of (l := []) (by decide +kernel) ?_), ABS_glue hAB hS_c337 (by decide +kernel), NZ_glue hNZ vs_we1_1 hp sn (by decide +kernel), hGI, ?_, ?_, ?_, ?_, ?_, ?_, ?_, ?_, ?_, ?_⟩ ⟨(STP0_call (STY_call vs_we1_1 hp O) (sd 0 rfl) (RM_call vs_we1_1 O)), unt1_of (x := 10) (by decide +kernel) (fun p hp => funext (hA_c337 p hp))⟩ (EQD_glue hS_c337 hA_c337 sd sn (by decide +kernel)) lc337_0 lc337_1 (show HID (STR (y0) ((F 4 1)) (sc ((A 28)) 0 ((F 27 1))) (sc ((A 5)) 0 ((F 4 1))) (((A 32)) 0) (((A_c337 7)) 0)) by first | assumption | omega | rfl) (show HID (((A_c337 7)) 1 = w32 (((A 32)) 1 + (if BNA ((A 10)) 1 ((F 4 1)) < (F 25 1) then 1 else 0))) by first | assumption | omega | rfl)
    · intro e he h1 h2
      cases he
    · exact INV0_eq (EQD_glue hS_c337 hA_c337 sd sn (by decide +kernel)) hI0
    · exact fun h => INV1_eq (EQD_glue hS_c337 hA_c337 sd sn (by decide +kernel)) (hI1 h)
    · exact fun h => INV2_eq (EQD_glue hS_c337 hA_c337 sd sn (by decide +kernel)) (hI2 h)
    · exact fun h => INV3_eq (EQD_glue hS_c337 hA_c337 sd sn (by decide +kernel)) (hI3 h)
    · exact fun h => INV4_eq (EQD_glue hS_c337 hA_c337 sd sn (by decide +kernel)) (hI4 h)
    · exact fun h => INV5_eq (EQD_glue hS_c337 hA_c337 sd sn (by decide +kernel)) (hI5 h)
    · exact fun h => INV6_eq (EQD_glue hS_c337 hA_c337 sd sn (by decide +kernel)) (hI6 h)
    · exact fun h => INV7_eq (EQD_glue hS_c337 hA_c337 sd sn (by decide +kernel)) (hI7 h)
    · exact fun h => INV8_eq (EQD_glue hS_c337 hA_c337 sd sn (by decide +kernel)) (hI8 h)
    · exact fun h => INV9_eq (EQD_glue hS_c337 hA_c337 sd sn (by decide +kernel)) (hI9 h)
  · skip
    have sd : SD [] (pul ι_we1_1 D) (pul ι_we1_1 D) := SD_refl
    have sn : SD [] (pul ι_we1_1 N) (pul ι_we1_1 N) := SD_refl
    refine k z _ (glu ι_we1_1 D (pul ι_we1_1 D)) (glu ι_we1_1 N (pul ι_we1_1 N)) (glu ι_we1_1 F Fₚ) (glu ι_we1_1 A Aₚ) _ _ ⟨HWs_call HX VPH_3 vs_we1_1 hp Hₚ O, STC_call HT HX vs_we1_1 hp O, hg0, PFI_glue (dl := []) hPF sf sa sd (by decide +kernel) (rexc_of (l := []) (by decide +kernel) ?_), ABS_glue hAB sf (by decide +kernel), NZ_glue hNZ vs_we1_1 hp sn (by decide +kernel), hGI, ?_, ?_, ?_, ?_, ?_, ?_, ?_, ?_, ?_, ?_⟩ ⟨(STP0_call (STY_call vs_we1_1 hp O) (sd 0 rfl) (RM_call vs_we1_1 O)), unt1_of (x := 10) (by decide +kernel) (fun p hp => funext (sa p hp))⟩ (EQD_glue sf sa sd sn (by decide +kernel)) (show (0 : Int) = 1 by first | assumption | omega | rfl)
    · intro e he h1 h2
      cases he
    · exact INV0_eq (EQD_glue sf sa sd sn (by decide +kernel)) hI0
    · exact fun h => INV1_eq (EQD_glue sf sa sd sn (by decide +kernel)) (hI1 h)
    · exact fun h => INV2_eq (EQD_glue sf sa sd sn (by decide +kernel)) (hI2 h)
    · exact fun h => INV3_eq (EQD_glue sf sa sd sn (by decide +kernel)) (hI3 h)
    · exact fun h => INV4_eq (EQD_glue sf sa sd sn (by decide +kernel)) (hI4 h)
    · exact fun h => INV5_eq (EQD_glue sf sa sd sn (by decide +kernel)) (hI5 h)
    · exact fun h => INV6_eq (EQD_glue sf sa sd sn (by decide +kernel)) (hI6 h)
    · exact fun h => INV7_eq (EQD_glue sf sa sd sn (by decide +kernel)) (hI7 h)
    · exact fun h => INV8_eq (EQD_glue sf sa sd sn (by decide +kernel)) (hI8 h)
    · exact fun h => INV9_eq (EQD_glue sf sa sd sn (by decide +kernel)) (hI9 h)
def ι_we1_2 : List Nat := [0, 6, 25, 26, 27, 28, 7, 32, 10]
theorem vs_we1_2 : VS VPH V17_vE1 ι_we1_2 := VS_of (by decide +kernel)
set_option maxRecDepth 20000 in
theorem T_we1_2 {Dc : DcS} {g : Nat → Bool} {σ : rS} {D N : Nat → Nat} {F : hF} {A : hA} {d c s : Nat} {Q : wQ} (X : PHI Dc g σ D N F A)  {x1 y0 : Int} {ls : rO} (hl0 : rlook ls 0 = some (.ref (D 0))) (hl1 : rlook ls 1 = some (I x1)) (hl3 : rlook ls 3 = some (I (1))) (hl4 : rlook ls 4 = some (.ref (D 6))) (h0 : inr x1) (h1 : inr y0) (x_0 : (F 6 1) ≤ 16384) (hc337 : ∀ (ls : rO) (σₚ : rS) (Dₚ Nₚ : Nat → Nat) (Fₚ : hF) (Aₚ : hA) (cₚ sₚ : Nat), PHI Dc g σₚ Dₚ Nₚ Fₚ Aₚ → STP g σ D N A c s g σₚ Dₚ Nₚ Aₚ cₚ sₚ → EQD [(2, 1), (4, 1), (6, 1), (8, 1), (11, 1), (0, 18), (25, 1)] [3, 5, 7, 9, 12, 10, 29, 30, 26] [] [] D N F A Dₚ Nₚ Fₚ Aₚ → rlook ls 0 = some (.ref (Dₚ 0)) → rlook ls 1 = some (I (x1)) → (HID (STR (y0) ((F 6 1)) (sc ((A 28)) 0 ((F 27 1))) (sc ((A 7)) 0 ((F 6 1))) (((A 32)) 0) (((Aₚ 32)) 0))) → (HID (((Aₚ 32)) 1 = w32 (((A 32)) 1 + (if BNA ((A 10)) 1 ((F 6 1)) < (F 25 1) then 1 else 0)))) → Ew 17 (d + 3) 337 ls [] σₚ cₚ sₚ Q) (k : ∀ (z : Int) (σₚ : rS) (Dₚ Nₚ : Nat → Nat) (Fₚ : hF) (Aₚ : hA) (cₚ sₚ : Nat), PHI Dc g σₚ Dₚ Nₚ Fₚ Aₚ → STP g σ D N A c s g σₚ Dₚ Nₚ Aₚ cₚ sₚ → EQD [(2, 1), (4, 1), (6, 1), (8, 1), (11, 1), (0, 18), (25, 1)] [3, 5, 7, 9, 12, 10, 29, 30, 26] [] [] D N F A Dₚ Nₚ Fₚ Aₚ → ((0 : Int) = 1) → Q (some (I z)) σₚ cₚ sₚ) : Ew 17 (d + 3) 239 ls [I y0] σ c s Q := by
  obtain ⟨HX, HT, hg0, hPF, hAB, hNZ, hGI, hI0, hI1, hI2, hI3, hI4, hI5, hI6, hI7, hI8, hI9⟩ := X
  have hset := SETI_f hI0.2.2.2.2.2.2.2.2.2.2.2.2.2.2.2.2.2.2.2.2.2.2.2.2
  have hJ0 := hI0
  unfold INV0 at hJ0
  obtain ⟨f0_0, f0_1, f0_2, f0_3, f0_4, f0_5, f0_6, f0_7, f0_8, f0_9, f0_10, f0_11, f0_12, f0_13, f0_14, f0_15, f0_16, f0_17, f0_18, f0_19, f0_20, f0_21, f0_22, f0_23, f0_24⟩ := hJ0
  have hp : ∀ x, x < (V17_vE1).length → SPH g (ι_we1_2.getD x 0) = true := SPH_of (gs := [0]) (by intro j hj; simp at hj; subst hj; exact hg0) rfl (by decide +kernel)
  refine C17_vE1 (D := pul ι_we1_2 D) (N := pul ι_we1_2 N) (F := pul ι_we1_2 F) (A := pul ι_we1_2 A) (HWs_sub HX vs_we1_2 hp) (show F 0 5 = (D 25 : Int) from hPF (0, 0, 5, 25) (List.mem_of_getElem? (i := 24) rfl) hg0 hg0) (show F 25 0 = (D 26 : Int) from hPF (0, 25, 0, 26) (List.mem_of_getElem? (i := 25) rfl) hg0 hg0) (show F 0 6 = (D 27 : Int) from hPF (0, 0, 6, 27) (List.mem_of_getElem? (i := 26) rfl) hg0 hg0) (show F 27 0 = (D 28 : Int) from hPF (0, 27, 0, 28) (List.mem_of_getElem? (i := 27) rfl) hg0 hg0) (show F 6 0 = (D 7 : Int) from hPF (0, 6, 0, 7) (List.mem_of_getElem? (i := 6) rfl) hg0 hg0) (show F 0 16 = (D 32 : Int) from hPF (0, 0, 16, 32) (List.mem_of_getElem? (i := 31) rfl) hg0 hg0) (show F 0 1 = (D 10 : Int) from hPF (0, 0, 1, 10) (List.mem_of_getElem? (i := 9) rfl) hg0 hg0) (N 26 : Int) rfl (N 28 : Int) rfl (N 7 : Int) rfl (N 32 : Int) rfl (N 10 : Int) rfl (F 6 1) rfl (F 25 1) rfl (F 27 1) rfl (A 10) rfl  hl0 hl1 hl3 hl4 (show inr (x1) by first | assumption | omega) (show inr y0 by first | assumption | omega) (show 0 ≤ (F 25 1) ∧ (F 25 1) ≤ ((N 26 : Int)) ∧ ((N 26 : Int)) ≤ 65536 by first | assumption | omega) (show 0 ≤ (F 27 1) ∧ (F 27 1) ≤ ((N 28 : Int)) ∧ ((N 28 : Int)) ≤ 65536 by first | assumption | omega) (show 0 ≤ (F 6 1) ∧ (F 6 1) ≤ ((N 7 : Int)) ∧ ((N 7 : Int)) ≤ 65536 by first | assumption | omega) (show (F 6 1) ≤ 16384 by first | assumption | omega) (show ((N 32 : Int)) = 2 by first | assumption | omega) (show 1 ≤ ((A 10)) 2 ∧ ((A 10)) 2 ≤ 65536 by first | assumption | omega) (show 0 ≤ ((A 10)) 8 ∧ ((A 10)) 8 ≤ 11 by first | assumption | omega) (show 0 ≤ ((A 10)) 6 ∧ ((A 10)) 6 ≤ 255 by first | assumption | omega) (show ((N 10 : Int)) = 10 by first | assumption | omega) (fun  ls σ F_c337 A_c337  lc337_0 lc337_1 H O hS_c337 hA_c337    wc337_7 ewc337_7 jc337_0 jc337_1 jc337_2 => ?_) (fun z σₚ Fₚ Aₚ Hₚ O sf sa q0 q1 => ?_)
  · skip
    subst ewc337_7
    have sd : SD [] (pul ι_we1_2 D) (pul ι_we1_2 D) := SD_refl
    have sn : SD [] (pul ι_we1_2 N) (pul ι_we1_2 N) := SD_refl
    have : F_c337 1 1 = F 6 1 := hS_c337 1 1 rfl
    have : F_c337 4 1 = F 27 1 := hS_c337 4 1 rfl
    have : A_c337 6 = A 7 := funext (hA_c337 6 rfl)
    have : A_c337 5 = A 28 := funext (hA_c337 5 rfl)
    have : F_c337 2 1 = F 25 1 := hS_c337 2 1 rfl
    have : A_c337 8 = A 10 := funext (hA_c337 8 rfl)
    refine hc337   _ _ (glu ι_we1_2 D (pul ι_we1_2 D)) (glu ι_we1_2 N (pul ι_we1_2 N)) (glu ι_we1_2 F F_c337) (glu ι_we1_2 A A_c337) _ _ ⟨HWs_call HX VPH_3 vs_we1_2 hp H O, STC_call HT HX vs_we1_2 hp O, hg0, PFI_glue (dl := []) hPF hS_c337 hA_c337 sd (by decide +kernel) (rexc_of (l := []) (by decide +kernel) ?_), ABS_glue hAB hS_c337 (by decide +kernel), NZ_glue hNZ vs_we1_2 hp sn (by decide +kernel), hGI, ?_, ?_, ?_, ?_, ?_, ?_, ?_, ?_, ?_, ?_⟩ ⟨(STP0_call (STY_call vs_we1_2 hp O) (sd 0 rfl) (RM_call vs_we1_2 O)), unt1_of (x := 10) (by decide +kernel) (fun p hp => funext (hA_c337 p hp))⟩ (EQD_glue hS_c337 hA_c337 sd sn (by decide +kernel)) lc337_0 lc337_1 (show HID (STR (y0) ((F 6 1)) (sc ((A 28)) 0 ((F 27 1))) (sc ((A 7)) 0 ((F 6 1))) (((A 32)) 0) (((A_c337 7)) 0)) by first | assumption | omega | rfl) (show HID (((A_c337 7)) 1 = w32 (((A 32)) 1 + (if BNA ((A 10)) 1 ((F 6 1)) < (F 25 1) then 1 else 0))) by first | assumption | omega | rfl)
    · intro e he h1 h2
      cases he
    · exact INV0_eq (EQD_glue hS_c337 hA_c337 sd sn (by decide +kernel)) hI0
    · exact fun h => INV1_eq (EQD_glue hS_c337 hA_c337 sd sn (by decide +kernel)) (hI1 h)
    · exact fun h => INV2_eq (EQD_glue hS_c337 hA_c337 sd sn (by decide +kernel)) (hI2 h)
    · exact fun h => INV3_eq (EQD_glue hS_c337 hA_c337 sd sn (by decide +kernel)) (hI3 h)
    · exact fun h => INV4_eq (EQD_glue hS_c337 hA_c337 sd sn (by decide +kernel)) (hI4 h)
    · exact fun h => INV5_eq (EQD_glue hS_c337 hA_c337 sd sn (by decide +kernel)) (hI5 h)
    · exact fun h => INV6_eq (EQD_glue hS_c337 hA_c337 sd sn (by decide +kernel)) (hI6 h)
    · exact fun h => INV7_eq (EQD_glue hS_c337 hA_c337 sd sn (by decide +kernel)) (hI7 h)
    · exact fun h => INV8_eq (EQD_glue hS_c337 hA_c337 sd sn (by decide +kernel)) (hI8 h)
    · exact fun h => INV9_eq (EQD_glue hS_c337 hA_c337 sd sn (by decide +kernel)) (hI9 h)
  · skip
    have sd : SD [] (pul ι_we1_2 D) (pul ι_we1_2 D) := SD_refl
    have sn : SD [] (pul ι_we1_2 N) (pul ι_we1_2 N) := SD_refl
    refine k z _ (glu ι_we1_2 D (pul ι_we1_2 D)) (glu ι_we1_2 N (pul ι_we1_2 N)) (glu ι_we1_2 F Fₚ) (glu ι_we1_2 A Aₚ) _ _ ⟨HWs_call HX VPH_3 vs_we1_2 hp Hₚ O, STC_call HT HX vs_we1_2 hp O, hg0, PFI_glue (dl := []) hPF sf sa sd (by decide +kernel) (rexc_of (l := []) (by decide +kernel) ?_), ABS_glue hAB sf (by decide +kernel), NZ_glue hNZ vs_we1_2 hp sn (by decide +kernel), hGI, ?_, ?_, ?_, ?_, ?_, ?_, ?_, ?_, ?_, ?_⟩ ⟨(STP0_call (STY_call vs_we1_2 hp O) (sd 0 rfl) (RM_call vs_we1_2 O)), unt1_of (x := 10) (by decide +kernel) (fun p hp => funext (sa p hp))⟩ (EQD_glue sf sa sd sn (by decide +kernel)) (show (0 : Int) = 1 by first | assumption | omega | rfl)
    · intro e he h1 h2
      cases he
    · exact INV0_eq (EQD_glue sf sa sd sn (by decide +kernel)) hI0
    · exact fun h => INV1_eq (EQD_glue sf sa sd sn (by decide +kernel)) (hI1 h)
    · exact fun h => INV2_eq (EQD_glue sf sa sd sn (by decide +kernel)) (hI2 h)
    · exact fun h => INV3_eq (EQD_glue sf sa sd sn (by decide +kernel)) (hI3 h)
    · exact fun h => INV4_eq (EQD_glue sf sa sd sn (by decide +kernel)) (hI4 h)
    · exact fun h => INV5_eq (EQD_glue sf sa sd sn (by decide +kernel)) (hI5 h)
    · exact fun h => INV6_eq (EQD_glue sf sa sd sn (by decide +kernel)) (hI6 h)
    · exact fun h => INV7_eq (EQD_glue sf sa sd sn (by decide +kernel)) (hI7 h)
    · exact fun h => INV8_eq (EQD_glue sf sa sd sn (by decide +kernel)) (hI8 h)
    · exact fun h => INV9_eq (EQD_glue sf sa sd sn (by decide +kernel)) (hI9 h)
def ι_we1_3 : List Nat := [0, 8, 25, 26, 27, 28, 9, 32, 10]
theorem vs_we1_3 : VS VPH V17_vE1 ι_we1_3 := VS_of (by decide +kernel)
set_option maxRecDepth 20000 in
theorem T_we1_3 {Dc : DcS} {g : Nat → Bool} {σ : rS} {D N : Nat → Nat} {F : hF} {A : hA} {d c s : Nat} {Q : wQ} (X : PHI Dc g σ D N F A)  {x1 y0 : Int} {ls : rO} (hl0 : rlook ls 0 = some (.ref (D 0))) (hl1 : rlook ls 1 = some (I x1)) (hl3 : rlook ls 3 = some (I (1))) (hl4 : rlook ls 4 = some (.ref (D 8))) (h0 : inr x1) (h1 : inr y0) (x_0 : (F 8 1) ≤ 16384) (hc337 : ∀ (ls : rO) (σₚ : rS) (Dₚ Nₚ : Nat → Nat) (Fₚ : hF) (Aₚ : hA) (cₚ sₚ : Nat), PHI Dc g σₚ Dₚ Nₚ Fₚ Aₚ → STP g σ D N A c s g σₚ Dₚ Nₚ Aₚ cₚ sₚ → EQD [(2, 1), (4, 1), (6, 1), (8, 1), (11, 1), (0, 18), (25, 1)] [3, 5, 7, 9, 12, 10, 29, 30, 26] [] [] D N F A Dₚ Nₚ Fₚ Aₚ → rlook ls 0 = some (.ref (Dₚ 0)) → rlook ls 1 = some (I (x1)) → (HID (STR (y0) ((F 8 1)) (sc ((A 28)) 0 ((F 27 1))) (sc ((A 9)) 0 ((F 8 1))) (((A 32)) 0) (((Aₚ 32)) 0))) → (HID (((Aₚ 32)) 1 = w32 (((A 32)) 1 + (if BNA ((A 10)) 1 ((F 8 1)) < (F 25 1) then 1 else 0)))) → Ew 17 (d + 3) 337 ls [] σₚ cₚ sₚ Q) (k : ∀ (z : Int) (σₚ : rS) (Dₚ Nₚ : Nat → Nat) (Fₚ : hF) (Aₚ : hA) (cₚ sₚ : Nat), PHI Dc g σₚ Dₚ Nₚ Fₚ Aₚ → STP g σ D N A c s g σₚ Dₚ Nₚ Aₚ cₚ sₚ → EQD [(2, 1), (4, 1), (6, 1), (8, 1), (11, 1), (0, 18), (25, 1)] [3, 5, 7, 9, 12, 10, 29, 30, 26] [] [] D N F A Dₚ Nₚ Fₚ Aₚ → ((0 : Int) = 1) → Q (some (I z)) σₚ cₚ sₚ) : Ew 17 (d + 3) 239 ls [I y0] σ c s Q := by
  obtain ⟨HX, HT, hg0, hPF, hAB, hNZ, hGI, hI0, hI1, hI2, hI3, hI4, hI5, hI6, hI7, hI8, hI9⟩ := X
  have hset := SETI_f hI0.2.2.2.2.2.2.2.2.2.2.2.2.2.2.2.2.2.2.2.2.2.2.2.2
  have hJ0 := hI0
  unfold INV0 at hJ0
  obtain ⟨f0_0, f0_1, f0_2, f0_3, f0_4, f0_5, f0_6, f0_7, f0_8, f0_9, f0_10, f0_11, f0_12, f0_13, f0_14, f0_15, f0_16, f0_17, f0_18, f0_19, f0_20, f0_21, f0_22, f0_23, f0_24⟩ := hJ0
  have hp : ∀ x, x < (V17_vE1).length → SPH g (ι_we1_3.getD x 0) = true := SPH_of (gs := [0]) (by intro j hj; simp at hj; subst hj; exact hg0) rfl (by decide +kernel)
  refine C17_vE1 (D := pul ι_we1_3 D) (N := pul ι_we1_3 N) (F := pul ι_we1_3 F) (A := pul ι_we1_3 A) (HWs_sub HX vs_we1_3 hp) (show F 0 5 = (D 25 : Int) from hPF (0, 0, 5, 25) (List.mem_of_getElem? (i := 24) rfl) hg0 hg0) (show F 25 0 = (D 26 : Int) from hPF (0, 25, 0, 26) (List.mem_of_getElem? (i := 25) rfl) hg0 hg0) (show F 0 6 = (D 27 : Int) from hPF (0, 0, 6, 27) (List.mem_of_getElem? (i := 26) rfl) hg0 hg0) (show F 27 0 = (D 28 : Int) from hPF (0, 27, 0, 28) (List.mem_of_getElem? (i := 27) rfl) hg0 hg0) (show F 8 0 = (D 9 : Int) from hPF (0, 8, 0, 9) (List.mem_of_getElem? (i := 8) rfl) hg0 hg0) (show F 0 16 = (D 32 : Int) from hPF (0, 0, 16, 32) (List.mem_of_getElem? (i := 31) rfl) hg0 hg0) (show F 0 1 = (D 10 : Int) from hPF (0, 0, 1, 10) (List.mem_of_getElem? (i := 9) rfl) hg0 hg0) (N 26 : Int) rfl (N 28 : Int) rfl (N 9 : Int) rfl (N 32 : Int) rfl (N 10 : Int) rfl (F 8 1) rfl (F 25 1) rfl (F 27 1) rfl (A 10) rfl  hl0 hl1 hl3 hl4 (show inr (x1) by first | assumption | omega) (show inr y0 by first | assumption | omega) (show 0 ≤ (F 25 1) ∧ (F 25 1) ≤ ((N 26 : Int)) ∧ ((N 26 : Int)) ≤ 65536 by first | assumption | omega) (show 0 ≤ (F 27 1) ∧ (F 27 1) ≤ ((N 28 : Int)) ∧ ((N 28 : Int)) ≤ 65536 by first | assumption | omega) (show 0 ≤ (F 8 1) ∧ (F 8 1) ≤ ((N 9 : Int)) ∧ ((N 9 : Int)) ≤ 65536 by first | assumption | omega) (show (F 8 1) ≤ 16384 by first | assumption | omega) (show ((N 32 : Int)) = 2 by first | assumption | omega) (show 1 ≤ ((A 10)) 2 ∧ ((A 10)) 2 ≤ 65536 by first | assumption | omega) (show 0 ≤ ((A 10)) 8 ∧ ((A 10)) 8 ≤ 11 by first | assumption | omega) (show 0 ≤ ((A 10)) 6 ∧ ((A 10)) 6 ≤ 255 by first | assumption | omega) (show ((N 10 : Int)) = 10 by first | assumption | omega) (fun  ls σ F_c337 A_c337  lc337_0 lc337_1 H O hS_c337 hA_c337    wc337_7 ewc337_7 jc337_0 jc337_1 jc337_2 => ?_) (fun z σₚ Fₚ Aₚ Hₚ O sf sa q0 q1 => ?_)
  · skip
    subst ewc337_7
    have sd : SD [] (pul ι_we1_3 D) (pul ι_we1_3 D) := SD_refl
    have sn : SD [] (pul ι_we1_3 N) (pul ι_we1_3 N) := SD_refl
    have : F_c337 1 1 = F 8 1 := hS_c337 1 1 rfl
    have : F_c337 4 1 = F 27 1 := hS_c337 4 1 rfl
    have : A_c337 6 = A 9 := funext (hA_c337 6 rfl)
    have : A_c337 5 = A 28 := funext (hA_c337 5 rfl)
    have : F_c337 2 1 = F 25 1 := hS_c337 2 1 rfl
    have : A_c337 8 = A 10 := funext (hA_c337 8 rfl)
    refine hc337   _ _ (glu ι_we1_3 D (pul ι_we1_3 D)) (glu ι_we1_3 N (pul ι_we1_3 N)) (glu ι_we1_3 F F_c337) (glu ι_we1_3 A A_c337) _ _ ⟨HWs_call HX VPH_3 vs_we1_3 hp H O, STC_call HT HX vs_we1_3 hp O, hg0, PFI_glue (dl := []) hPF hS_c337 hA_c337 sd (by decide +kernel) (rexc_of (l := []) (by decide +kernel) ?_), ABS_glue hAB hS_c337 (by decide +kernel), NZ_glue hNZ vs_we1_3 hp sn (by decide +kernel), hGI, ?_, ?_, ?_, ?_, ?_, ?_, ?_, ?_, ?_, ?_⟩ ⟨(STP0_call (STY_call vs_we1_3 hp O) (sd 0 rfl) (RM_call vs_we1_3 O)), unt1_of (x := 10) (by decide +kernel) (fun p hp => funext (hA_c337 p hp))⟩ (EQD_glue hS_c337 hA_c337 sd sn (by decide +kernel)) lc337_0 lc337_1 (show HID (STR (y0) ((F 8 1)) (sc ((A 28)) 0 ((F 27 1))) (sc ((A 9)) 0 ((F 8 1))) (((A 32)) 0) (((A_c337 7)) 0)) by first | assumption | omega | rfl) (show HID (((A_c337 7)) 1 = w32 (((A 32)) 1 + (if BNA ((A 10)) 1 ((F 8 1)) < (F 25 1) then 1 else 0))) by first | assumption | omega | rfl)
    · intro e he h1 h2
      cases he
    · exact INV0_eq (EQD_glue hS_c337 hA_c337 sd sn (by decide +kernel)) hI0
    · exact fun h => INV1_eq (EQD_glue hS_c337 hA_c337 sd sn (by decide +kernel)) (hI1 h)
    · exact fun h => INV2_eq (EQD_glue hS_c337 hA_c337 sd sn (by decide +kernel)) (hI2 h)
    · exact fun h => INV3_eq (EQD_glue hS_c337 hA_c337 sd sn (by decide +kernel)) (hI3 h)
    · exact fun h => INV4_eq (EQD_glue hS_c337 hA_c337 sd sn (by decide +kernel)) (hI4 h)
    · exact fun h => INV5_eq (EQD_glue hS_c337 hA_c337 sd sn (by decide +kernel)) (hI5 h)
    · exact fun h => INV6_eq (EQD_glue hS_c337 hA_c337 sd sn (by decide +kernel)) (hI6 h)
    · exact fun h => INV7_eq (EQD_glue hS_c337 hA_c337 sd sn (by decide +kernel)) (hI7 h)
    · exact fun h => INV8_eq (EQD_glue hS_c337 hA_c337 sd sn (by decide +kernel)) (hI8 h)
    · exact fun h => INV9_eq (EQD_glue hS_c337 hA_c337 sd sn (by decide +kernel)) (hI9 h)
  · skip
    have sd : SD [] (pul ι_we1_3 D) (pul ι_we1_3 D) := SD_refl
    have sn : SD [] (pul ι_we1_3 N) (pul ι_we1_3 N) := SD_refl
    refine k z _ (glu ι_we1_3 D (pul ι_we1_3 D)) (glu ι_we1_3 N (pul ι_we1_3 N)) (glu ι_we1_3 F Fₚ) (glu ι_we1_3 A Aₚ) _ _ ⟨HWs_call HX VPH_3 vs_we1_3 hp Hₚ O, STC_call HT HX vs_we1_3 hp O, hg0, PFI_glue (dl := []) hPF sf sa sd (by decide +kernel) (rexc_of (l := []) (by decide +kernel) ?_), ABS_glue hAB sf (by decide +kernel), NZ_glue hNZ vs_we1_3 hp sn (by decide +kernel), hGI, ?_, ?_, ?_, ?_, ?_, ?_, ?_, ?_, ?_, ?_⟩ ⟨(STP0_call (STY_call vs_we1_3 hp O) (sd 0 rfl) (RM_call vs_we1_3 O)), unt1_of (x := 10) (by decide +kernel) (fun p hp => funext (sa p hp))⟩ (EQD_glue sf sa sd sn (by decide +kernel)) (show (0 : Int) = 1 by first | assumption | omega | rfl)
    · intro e he h1 h2
      cases he
    · exact INV0_eq (EQD_glue sf sa sd sn (by decide +kernel)) hI0
    · exact fun h => INV1_eq (EQD_glue sf sa sd sn (by decide +kernel)) (hI1 h)
    · exact fun h => INV2_eq (EQD_glue sf sa sd sn (by decide +kernel)) (hI2 h)
    · exact fun h => INV3_eq (EQD_glue sf sa sd sn (by decide +kernel)) (hI3 h)
    · exact fun h => INV4_eq (EQD_glue sf sa sd sn (by decide +kernel)) (hI4 h)
    · exact fun h => INV5_eq (EQD_glue sf sa sd sn (by decide +kernel)) (hI5 h)
    · exact fun h => INV6_eq (EQD_glue sf sa sd sn (by decide +kernel)) (hI6 h)
    · exact fun h => INV7_eq (EQD_glue sf sa sd sn (by decide +kernel)) (hI7 h)
    · exact fun h => INV8_eq (EQD_glue sf sa sd sn (by decide +kernel)) (hI8 h)
    · exact fun h => INV9_eq (EQD_glue sf sa sd sn (by decide +kernel)) (hI9 h)
def ι_we2_0 : List Nat := [0, 2, 25, 26, 27, 28, 3, 32, 10]
theorem vs_we2_0 : VS VPH V17_vE2 ι_we2_0 := VS_of (by decide +kernel)
set_option maxRecDepth 20000 in
theorem T_we2_0 {Dc : DcS} {g : Nat → Bool} {σ : rS} {D N : Nat → Nat} {F : hF} {A : hA} {d c s : Nat} {Q : wQ} (X : PHI Dc g σ D N F A)  {x1 y0 : Int} {ls : rO} (hl0 : rlook ls 0 = some (.ref (D 0))) (hl1 : rlook ls 1 = some (I x1)) (hl3 : rlook ls 3 = some (I (2))) (hl4 : rlook ls 4 = some (.ref (D 2))) (h0 : inr x1) (h1 : inr y0) (x_0 : (F 2 1) ≤ 16384) (hc337 : ∀ (ls : rO) (σₚ : rS) (Dₚ Nₚ : Nat → Nat) (Fₚ : hF) (Aₚ : hA) (cₚ sₚ : Nat), PHI Dc g σₚ Dₚ Nₚ Fₚ Aₚ → STP g σ D N A c s g σₚ Dₚ Nₚ Aₚ cₚ sₚ → EQD [(2, 1), (4, 1), (6, 1), (8, 1), (11, 1), (0, 18), (25, 1)] [3, 5, 7, 9, 12, 10, 29, 30, 26] [] [] D N F A Dₚ Nₚ Fₚ Aₚ → rlook ls 0 = some (.ref (Dₚ 0)) → rlook ls 1 = some (I (x1)) → (HID (STR (y0) ((F 2 1)) (sc ((A 28)) 0 ((F 27 1))) (sc ((A 3)) 0 ((F 2 1))) (((A 32)) 0) (((Aₚ 32)) 0))) → (HID (((Aₚ 32)) 1 = w32 (((A 32)) 1 + (if BNA ((A 10)) 2 ((F 2 1)) < (F 25 1) then 1 else 0)))) → Ew 17 (d + 3) 337 ls [] σₚ cₚ sₚ Q) (k : ∀ (z : Int) (σₚ : rS) (Dₚ Nₚ : Nat → Nat) (Fₚ : hF) (Aₚ : hA) (cₚ sₚ : Nat), PHI Dc g σₚ Dₚ Nₚ Fₚ Aₚ → STP g σ D N A c s g σₚ Dₚ Nₚ Aₚ cₚ sₚ → EQD [(2, 1), (4, 1), (6, 1), (8, 1), (11, 1), (0, 18), (25, 1)] [3, 5, 7, 9, 12, 10, 29, 30, 26] [] [] D N F A Dₚ Nₚ Fₚ Aₚ → ((0 : Int) = 1) → Q (some (I z)) σₚ cₚ sₚ) : Ew 17 (d + 3) 239 ls [I y0] σ c s Q := by
  obtain ⟨HX, HT, hg0, hPF, hAB, hNZ, hGI, hI0, hI1, hI2, hI3, hI4, hI5, hI6, hI7, hI8, hI9⟩ := X
  have hset := SETI_f hI0.2.2.2.2.2.2.2.2.2.2.2.2.2.2.2.2.2.2.2.2.2.2.2.2
  have hJ0 := hI0
  unfold INV0 at hJ0
  obtain ⟨f0_0, f0_1, f0_2, f0_3, f0_4, f0_5, f0_6, f0_7, f0_8, f0_9, f0_10, f0_11, f0_12, f0_13, f0_14, f0_15, f0_16, f0_17, f0_18, f0_19, f0_20, f0_21, f0_22, f0_23, f0_24⟩ := hJ0
  have hp : ∀ x, x < (V17_vE2).length → SPH g (ι_we2_0.getD x 0) = true := SPH_of (gs := [0]) (by intro j hj; simp at hj; subst hj; exact hg0) rfl (by decide +kernel)
  refine C17_vE2 (D := pul ι_we2_0 D) (N := pul ι_we2_0 N) (F := pul ι_we2_0 F) (A := pul ι_we2_0 A) (HWs_sub HX vs_we2_0 hp) (show F 0 5 = (D 25 : Int) from hPF (0, 0, 5, 25) (List.mem_of_getElem? (i := 24) rfl) hg0 hg0) (show F 25 0 = (D 26 : Int) from hPF (0, 25, 0, 26) (List.mem_of_getElem? (i := 25) rfl) hg0 hg0) (show F 0 6 = (D 27 : Int) from hPF (0, 0, 6, 27) (List.mem_of_getElem? (i := 26) rfl) hg0 hg0) (show F 27 0 = (D 28 : Int) from hPF (0, 27, 0, 28) (List.mem_of_getElem? (i := 27) rfl) hg0 hg0) (show F 2 0 = (D 3 : Int) from hPF (0, 2, 0, 3) (List.mem_of_getElem? (i := 2) rfl) hg0 hg0) (show F 0 16 = (D 32 : Int) from hPF (0, 0, 16, 32) (List.mem_of_getElem? (i := 31) rfl) hg0 hg0) (show F 0 1 = (D 10 : Int) from hPF (0, 0, 1, 10) (List.mem_of_getElem? (i := 9) rfl) hg0 hg0) (N 26 : Int) rfl (N 28 : Int) rfl (N 3 : Int) rfl (N 32 : Int) rfl (N 10 : Int) rfl (F 2 1) rfl (F 25 1) rfl (F 27 1) rfl (A 10) rfl  hl0 hl1 hl3 hl4 (show inr (x1) by first | assumption | omega) (show inr y0 by first | assumption | omega) (show 0 ≤ (F 25 1) ∧ (F 25 1) ≤ ((N 26 : Int)) ∧ ((N 26 : Int)) ≤ 65536 by first | assumption | omega) (show 0 ≤ (F 27 1) ∧ (F 27 1) ≤ ((N 28 : Int)) ∧ ((N 28 : Int)) ≤ 65536 by first | assumption | omega) (show 0 ≤ (F 2 1) ∧ (F 2 1) ≤ ((N 3 : Int)) ∧ ((N 3 : Int)) ≤ 65536 by first | assumption | omega) (show (F 2 1) ≤ 16384 by first | assumption | omega) (show ((N 32 : Int)) = 2 by first | assumption | omega) (show 1 ≤ ((A 10)) 2 ∧ ((A 10)) 2 ≤ 65536 by first | assumption | omega) (show 0 ≤ ((A 10)) 8 ∧ ((A 10)) 8 ≤ 11 by first | assumption | omega) (show 0 ≤ ((A 10)) 6 ∧ ((A 10)) 6 ≤ 255 by first | assumption | omega) (show ((N 10 : Int)) = 10 by first | assumption | omega) (fun  ls σ F_c337 A_c337  lc337_0 lc337_1 H O hS_c337 hA_c337    wc337_7 ewc337_7 jc337_0 jc337_1 jc337_2 => ?_) (fun z σₚ Fₚ Aₚ Hₚ O sf sa q0 q1 => ?_)
  · skip
    subst ewc337_7
    have sd : SD [] (pul ι_we2_0 D) (pul ι_we2_0 D) := SD_refl
    have sn : SD [] (pul ι_we2_0 N) (pul ι_we2_0 N) := SD_refl
    have : F_c337 1 1 = F 2 1 := hS_c337 1 1 rfl
    have : F_c337 4 1 = F 27 1 := hS_c337 4 1 rfl
    have : A_c337 6 = A 3 := funext (hA_c337 6 rfl)
    have : A_c337 5 = A 28 := funext (hA_c337 5 rfl)
    have : F_c337 2 1 = F 25 1 := hS_c337 2 1 rfl
    have : A_c337 8 = A 10 := funext (hA_c337 8 rfl)
    refine hc337   _ _ (glu ι_we2_0 D (pul ι_we2_0 D)) (glu ι_we2_0 N (pul ι_we2_0 N)) (glu ι_we2_0 F F_c337) (glu ι_we2_0 A A_c337) _ _ ⟨HWs_call HX VPH_3 vs_we2_0 hp H O, STC_call HT HX vs_we2_0 hp O, hg0, PFI_glue (dl := []) hPF hS_c337 hA_c337 sd (by decide +kernel) (rexc_of (l := []) (by decide +kernel) ?_), ABS_glue hAB hS_c337 (by decide +kernel), NZ_glue hNZ vs_we2_0 hp sn (by decide +kernel), hGI, ?_, ?_, ?_, ?_, ?_, ?_, ?_, ?_, ?_, ?_⟩ ⟨(STP0_call (STY_call vs_we2_0 hp O) (sd 0 rfl) (RM_call vs_we2_0 O)), unt1_of (x := 10) (by decide +kernel) (fun p hp => funext (hA_c337 p hp))⟩ (EQD_glue hS_c337 hA_c337 sd sn (by decide +kernel)) lc337_0 lc337_1 (show HID (STR (y0) ((F 2 1)) (sc ((A 28)) 0 ((F 27 1))) (sc ((A 3)) 0 ((F 2 1))) (((A 32)) 0) (((A_c337 7)) 0)) by first | assumption | omega | rfl) (show HID (((A_c337 7)) 1 = w32 (((A 32)) 1 + (if BNA ((A 10)) 2 ((F 2 1)) < (F 25 1) then 1 else 0))) by first | assumption | omega | rfl)
    · intro e he h1 h2
      cases he
    · exact INV0_eq (EQD_glue hS_c337 hA_c337 sd sn (by decide +kernel)) hI0
    · exact fun h => INV1_eq (EQD_glue hS_c337 hA_c337 sd sn (by decide +kernel)) (hI1 h)
    · exact fun h => INV2_eq (EQD_glue hS_c337 hA_c337 sd sn (by decide +kernel)) (hI2 h)
    · exact fun h => INV3_eq (EQD_glue hS_c337 hA_c337 sd sn (by decide +kernel)) (hI3 h)
    · exact fun h => INV4_eq (EQD_glue hS_c337 hA_c337 sd sn (by decide +kernel)) (hI4 h)
    · exact fun h => INV5_eq (EQD_glue hS_c337 hA_c337 sd sn (by decide +kernel)) (hI5 h)
    · exact fun h => INV6_eq (EQD_glue hS_c337 hA_c337 sd sn (by decide +kernel)) (hI6 h)
    · exact fun h => INV7_eq (EQD_glue hS_c337 hA_c337 sd sn (by decide +kernel)) (hI7 h)
    · exact fun h => INV8_eq (EQD_glue hS_c337 hA_c337 sd sn (by decide +kernel)) (hI8 h)
    · exact fun h => INV9_eq (EQD_glue hS_c337 hA_c337 sd sn (by decide +kernel)) (hI9 h)
  · skip
    have sd : SD [] (pul ι_we2_0 D) (pul ι_we2_0 D) := SD_refl
    have sn : SD [] (pul ι_we2_0 N) (pul ι_we2_0 N) := SD_refl
    refine k z _ (glu ι_we2_0 D (pul ι_we2_0 D)) (glu ι_we2_0 N (pul ι_we2_0 N)) (glu ι_we2_0 F Fₚ) (glu ι_we2_0 A Aₚ) _ _ ⟨HWs_call HX VPH_3 vs_we2_0 hp Hₚ O, STC_call HT HX vs_we2_0 hp O, hg0, PFI_glue (dl := []) hPF sf sa sd (by decide +kernel) (rexc_of (l := []) (by decide +kernel) ?_), ABS_glue hAB sf (by decide +kernel), NZ_glue hNZ vs_we2_0 hp sn (by decide +kernel), hGI, ?_, ?_, ?_, ?_, ?_, ?_, ?_, ?_, ?_, ?_⟩ ⟨(STP0_call (STY_call vs_we2_0 hp O) (sd 0 rfl) (RM_call vs_we2_0 O)), unt1_of (x := 10) (by decide +kernel) (fun p hp => funext (sa p hp))⟩ (EQD_glue sf sa sd sn (by decide +kernel)) (show (0 : Int) = 1 by first | assumption | omega | rfl)
    · intro e he h1 h2
      cases he
    · exact INV0_eq (EQD_glue sf sa sd sn (by decide +kernel)) hI0
    · exact fun h => INV1_eq (EQD_glue sf sa sd sn (by decide +kernel)) (hI1 h)
    · exact fun h => INV2_eq (EQD_glue sf sa sd sn (by decide +kernel)) (hI2 h)
    · exact fun h => INV3_eq (EQD_glue sf sa sd sn (by decide +kernel)) (hI3 h)
    · exact fun h => INV4_eq (EQD_glue sf sa sd sn (by decide +kernel)) (hI4 h)
    · exact fun h => INV5_eq (EQD_glue sf sa sd sn (by decide +kernel)) (hI5 h)
    · exact fun h => INV6_eq (EQD_glue sf sa sd sn (by decide +kernel)) (hI6 h)
    · exact fun h => INV7_eq (EQD_glue sf sa sd sn (by decide +kernel)) (hI7 h)
    · exact fun h => INV8_eq (EQD_glue sf sa sd sn (by decide +kernel)) (hI8 h)
    · exact fun h => INV9_eq (EQD_glue sf sa sd sn (by decide +kernel)) (hI9 h)
def ι_we2_1 : List Nat := [0, 4, 25, 26, 27, 28, 5, 32, 10]
theorem vs_we2_1 : VS VPH V17_vE2 ι_we2_1 := VS_of (by decide +kernel)
set_option maxRecDepth 20000 in
theorem T_we2_1 {Dc : DcS} {g : Nat → Bool} {σ : rS} {D N : Nat → Nat} {F : hF} {A : hA} {d c s : Nat} {Q : wQ} (X : PHI Dc g σ D N F A)  {x1 y0 : Int} {ls : rO} (hl0 : rlook ls 0 = some (.ref (D 0))) (hl1 : rlook ls 1 = some (I x1)) (hl3 : rlook ls 3 = some (I (2))) (hl4 : rlook ls 4 = some (.ref (D 4))) (h0 : inr x1) (h1 : inr y0) (x_0 : (F 4 1) ≤ 16384) (hc337 : ∀ (ls : rO) (σₚ : rS) (Dₚ Nₚ : Nat → Nat) (Fₚ : hF) (Aₚ : hA) (cₚ sₚ : Nat), PHI Dc g σₚ Dₚ Nₚ Fₚ Aₚ → STP g σ D N A c s g σₚ Dₚ Nₚ Aₚ cₚ sₚ → EQD [(2, 1), (4, 1), (6, 1), (8, 1), (11, 1), (0, 18), (25, 1)] [3, 5, 7, 9, 12, 10, 29, 30, 26] [] [] D N F A Dₚ Nₚ Fₚ Aₚ → rlook ls 0 = some (.ref (Dₚ 0)) → rlook ls 1 = some (I (x1)) → (HID (STR (y0) ((F 4 1)) (sc ((A 28)) 0 ((F 27 1))) (sc ((A 5)) 0 ((F 4 1))) (((A 32)) 0) (((Aₚ 32)) 0))) → (HID (((Aₚ 32)) 1 = w32 (((A 32)) 1 + (if BNA ((A 10)) 2 ((F 4 1)) < (F 25 1) then 1 else 0)))) → Ew 17 (d + 3) 337 ls [] σₚ cₚ sₚ Q) (k : ∀ (z : Int) (σₚ : rS) (Dₚ Nₚ : Nat → Nat) (Fₚ : hF) (Aₚ : hA) (cₚ sₚ : Nat), PHI Dc g σₚ Dₚ Nₚ Fₚ Aₚ → STP g σ D N A c s g σₚ Dₚ Nₚ Aₚ cₚ sₚ → EQD [(2, 1), (4, 1), (6, 1), (8, 1), (11, 1), (0, 18), (25, 1)] [3, 5, 7, 9, 12, 10, 29, 30, 26] [] [] D N F A Dₚ Nₚ Fₚ Aₚ → ((0 : Int) = 1) → Q (some (I z)) σₚ cₚ sₚ) : Ew 17 (d + 3) 239 ls [I y0] σ c s Q := by
  obtain ⟨HX, HT, hg0, hPF, hAB, hNZ, hGI, hI0, hI1, hI2, hI3, hI4, hI5, hI6, hI7, hI8, hI9⟩ := X
  have hset := SETI_f hI0.2.2.2.2.2.2.2.2.2.2.2.2.2.2.2.2.2.2.2.2.2.2.2.2
  have hJ0 := hI0
  unfold INV0 at hJ0
  obtain ⟨f0_0, f0_1, f0_2, f0_3, f0_4, f0_5, f0_6, f0_7, f0_8, f0_9, f0_10, f0_11, f0_12, f0_13, f0_14, f0_15, f0_16, f0_17, f0_18, f0_19, f0_20, f0_21, f0_22, f0_23, f0_24⟩ := hJ0
  have hp : ∀ x, x < (V17_vE2).length → SPH g (ι_we2_1.getD x 0) = true := SPH_of (gs := [0]) (by intro j hj; simp at hj; subst hj; exact hg0) rfl (by decide +kernel)
  refine C17_vE2 (D := pul ι_we2_1 D) (N := pul ι_we2_1 N) (F := pul ι_we2_1 F) (A := pul ι_we2_1 A) (HWs_sub HX vs_we2_1 hp) (show F 0 5 = (D 25 : Int) from hPF (0, 0, 5, 25) (List.mem_of_getElem? (i := 24) rfl) hg0 hg0) (show F 25 0 = (D 26 : Int) from hPF (0, 25, 0, 26) (List.mem_of_getElem? (i := 25) rfl) hg0 hg0) (show F 0 6 = (D 27 : Int) from hPF (0, 0, 6, 27) (List.mem_of_getElem? (i := 26) rfl) hg0 hg0) (show F 27 0 = (D 28 : Int) from hPF (0, 27, 0, 28) (List.mem_of_getElem? (i := 27) rfl) hg0 hg0) (show F 4 0 = (D 5 : Int) from hPF (0, 4, 0, 5) (List.mem_of_getElem? (i := 4) rfl) hg0 hg0) (show F 0 16 = (D 32 : Int) from hPF (0, 0, 16, 32) (List.mem_of_getElem? (i := 31) rfl) hg0 hg0) (show F 0 1 = (D 10 : Int) from hPF (0, 0, 1, 10) (List.mem_of_getElem? (i := 9) rfl) hg0 hg0) (N 26 : Int) rfl (N 28 : Int) rfl (N 5 : Int) rfl (N 32 : Int) rfl (N 10 : Int) rfl (F 4 1) rfl (F 25 1) rfl (F 27 1) rfl (A 10) rfl  hl0 hl1 hl3 hl4 (show inr (x1) by first | assumption | omega) (show inr y0 by first | assumption | omega) (show 0 ≤ (F 25 1) ∧ (F 25 1) ≤ ((N 26 : Int)) ∧ ((N 26 : Int)) ≤ 65536 by first | assumption | omega) (show 0 ≤ (F 27 1) ∧ (F 27 1) ≤ ((N 28 : Int)) ∧ ((N 28 : Int)) ≤ 65536 by first | assumption | omega) (show 0 ≤ (F 4 1) ∧ (F 4 1) ≤ ((N 5 : Int)) ∧ ((N 5 : Int)) ≤ 65536 by first | assumption | omega) (show (F 4 1) ≤ 16384 by first | assumption | omega) (show ((N 32 : Int)) = 2 by first | assumption | omega) (show 1 ≤ ((A 10)) 2 ∧ ((A 10)) 2 ≤ 65536 by first | assumption | omega) (show 0 ≤ ((A 10)) 8 ∧ ((A 10)) 8 ≤ 11 by first | assumption | omega) (show 0 ≤ ((A 10)) 6 ∧ ((A 10)) 6 ≤ 255 by first | assumption | omega) (show ((N 10 : Int)) = 10 by first | assumption | omega) (fun  ls σ F_c337 A_c337  lc337_0 lc337_1 H O hS_c337 hA_c337    wc337_7 ewc337_7 jc337_0 jc337_1 jc337_2 => ?_) (fun z σₚ Fₚ Aₚ Hₚ O sf sa q0 q1 => ?_)
  · skip
    subst ewc337_7
    have sd : SD [] (pul ι_we2_1 D) (pul ι_we2_1 D) := SD_refl
    have sn : SD [] (pul ι_we2_1 N) (pul ι_we2_1 N) := SD_refl
    have : F_c337 1 1 = F 4 1 := hS_c337 1 1 rfl
    have : F_c337 4 1 = F 27 1 := hS_c337 4 1 rfl
    have : A_c337 6 = A 5 := funext (hA_c337 6 rfl)
    have : A_c337 5 = A 28 := funext (hA_c337 5 rfl)
    have : F_c337 2 1 = F 25 1 := hS_c337 2 1 rfl
    have : A_c337 8 = A 10 := funext (hA_c337 8 rfl)
    refine hc337   _ _ (glu ι_we2_1 D (pul ι_we2_1 D)) (glu ι_we2_1 N (pul ι_we2_1 N)) (glu ι_we2_1 F F_c337) (glu ι_we2_1 A A_c337) _ _ ⟨HWs_call HX VPH_3 vs_we2_1 hp H O, STC_call HT HX vs_we2_1 hp O, hg0, PFI_glue (dl := []) hPF hS_c337 hA_c337 sd (by decide +kernel) (rexc_of (l := []) (by decide +kernel) ?_), ABS_glue hAB hS_c337 (by decide +kernel), NZ_glue hNZ vs_we2_1 hp sn (by decide +kernel), hGI, ?_, ?_, ?_, ?_, ?_, ?_, ?_, ?_, ?_, ?_⟩ ⟨(STP0_call (STY_call vs_we2_1 hp O) (sd 0 rfl) (RM_call vs_we2_1 O)), unt1_of (x := 10) (by decide +kernel) (fun p hp => funext (hA_c337 p hp))⟩ (EQD_glue hS_c337 hA_c337 sd sn (by decide +kernel)) lc337_0 lc337_1 (show HID (STR (y0) ((F 4 1)) (sc ((A 28)) 0 ((F 27 1))) (sc ((A 5)) 0 ((F 4 1))) (((A 32)) 0) (((A_c337 7)) 0)) by first | assumption | omega | rfl) (show HID (((A_c337 7)) 1 = w32 (((A 32)) 1 + (if BNA ((A 10)) 2 ((F 4 1)) < (F 25 1) then 1 else 0))) by first | assumption | omega | rfl)
    · intro e he h1 h2
      cases he
    · exact INV0_eq (EQD_glue hS_c337 hA_c337 sd sn (by decide +kernel)) hI0
    · exact fun h => INV1_eq (EQD_glue hS_c337 hA_c337 sd sn (by decide +kernel)) (hI1 h)
    · exact fun h => INV2_eq (EQD_glue hS_c337 hA_c337 sd sn (by decide +kernel)) (hI2 h)
    · exact fun h => INV3_eq (EQD_glue hS_c337 hA_c337 sd sn (by decide +kernel)) (hI3 h)
    · exact fun h => INV4_eq (EQD_glue hS_c337 hA_c337 sd sn (by decide +kernel)) (hI4 h)
    · exact fun h => INV5_eq (EQD_glue hS_c337 hA_c337 sd sn (by decide +kernel)) (hI5 h)
    · exact fun h => INV6_eq (EQD_glue hS_c337 hA_c337 sd sn (by decide +kernel)) (hI6 h)
    · exact fun h => INV7_eq (EQD_glue hS_c337 hA_c337 sd sn (by decide +kernel)) (hI7 h)
    · exact fun h => INV8_eq (EQD_glue hS_c337 hA_c337 sd sn (by decide +kernel)) (hI8 h)
    · exact fun h => INV9_eq (EQD_glue hS_c337 hA_c337 sd sn (by decide +kernel)) (hI9 h)
  · skip
    have sd : SD [] (pul ι_we2_1 D) (pul ι_we2_1 D) := SD_refl
    have sn : SD [] (pul ι_we2_1 N) (pul ι_we2_1 N) := SD_refl
    refine k z _ (glu ι_we2_1 D (pul ι_we2_1 D)) (glu ι_we2_1 N (pul ι_we2_1 N)) (glu ι_we2_1 F Fₚ) (glu ι_we2_1 A Aₚ) _ _ ⟨HWs_call HX VPH_3 vs_we2_1 hp Hₚ O, STC_call HT HX vs_we2_1 hp O, hg0, PFI_glue (dl := []) hPF sf sa sd (by decide +kernel) (rexc_of (l := []) (by decide +kernel) ?_), ABS_glue hAB sf (by decide +kernel), NZ_glue hNZ vs_we2_1 hp sn (by decide +kernel), hGI, ?_, ?_, ?_, ?_, ?_, ?_, ?_, ?_, ?_, ?_⟩ ⟨(STP0_call (STY_call vs_we2_1 hp O) (sd 0 rfl) (RM_call vs_we2_1 O)), unt1_of (x := 10) (by decide +kernel) (fun p hp => funext (sa p hp))⟩ (EQD_glue sf sa sd sn (by decide +kernel)) (show (0 : Int) = 1 by first | assumption | omega | rfl)
    · intro e he h1 h2
      cases he
    · exact INV0_eq (EQD_glue sf sa sd sn (by decide +kernel)) hI0
    · exact fun h => INV1_eq (EQD_glue sf sa sd sn (by decide +kernel)) (hI1 h)
    · exact fun h => INV2_eq (EQD_glue sf sa sd sn (by decide +kernel)) (hI2 h)
    · exact fun h => INV3_eq (EQD_glue sf sa sd sn (by decide +kernel)) (hI3 h)
    · exact fun h => INV4_eq (EQD_glue sf sa sd sn (by decide +kernel)) (hI4 h)
    · exact fun h => INV5_eq (EQD_glue sf sa sd sn (by decide +kernel)) (hI5 h)
    · exact fun h => INV6_eq (EQD_glue sf sa sd sn (by decide +kernel)) (hI6 h)
    · exact fun h => INV7_eq (EQD_glue sf sa sd sn (by decide +kernel)) (hI7 h)
    · exact fun h => INV8_eq (EQD_glue sf sa sd sn (by decide +kernel)) (hI8 h)
    · exact fun h => INV9_eq (EQD_glue sf sa sd sn (by decide +kernel)) (hI9 h)
def ι_we2_2 : List Nat := [0, 6, 25, 26, 27, 28, 7, 32, 10]
theorem vs_we2_2 : VS VPH V17_vE2 ι_we2_2 := VS_of (by decide +kernel)
set_option maxRecDepth 20000 in
theorem T_we2_2 {Dc : DcS} {g : Nat → Bool} {σ : rS} {D N : Nat → Nat} {F : hF} {A : hA} {d c s : Nat} {Q : wQ} (X : PHI Dc g σ D N F A)  {x1 y0 : Int} {ls : rO} (hl0 : rlook ls 0 = some (.ref (D 0))) (hl1 : rlook ls 1 = some (I x1)) (hl3 : rlook ls 3 = some (I (2))) (hl4 : rlook ls 4 = some (.ref (D 6))) (h0 : inr x1) (h1 : inr y0) (x_0 : (F 6 1) ≤ 16384) (hc337 : ∀ (ls : rO) (σₚ : rS) (Dₚ Nₚ : Nat → Nat) (Fₚ : hF) (Aₚ : hA) (cₚ sₚ : Nat), PHI Dc g σₚ Dₚ Nₚ Fₚ Aₚ → STP g σ D N A c s g σₚ Dₚ Nₚ Aₚ cₚ sₚ → EQD [(2, 1), (4, 1), (6, 1), (8, 1), (11, 1), (0, 18), (25, 1)] [3, 5, 7, 9, 12, 10, 29, 30, 26] [] [] D N F A Dₚ Nₚ Fₚ Aₚ → rlook ls 0 = some (.ref (Dₚ 0)) → rlook ls 1 = some (I (x1)) → (HID (STR (y0) ((F 6 1)) (sc ((A 28)) 0 ((F 27 1))) (sc ((A 7)) 0 ((F 6 1))) (((A 32)) 0) (((Aₚ 32)) 0))) → (HID (((Aₚ 32)) 1 = w32 (((A 32)) 1 + (if BNA ((A 10)) 2 ((F 6 1)) < (F 25 1) then 1 else 0)))) → Ew 17 (d + 3) 337 ls [] σₚ cₚ sₚ Q) (k : ∀ (z : Int) (σₚ : rS) (Dₚ Nₚ : Nat → Nat) (Fₚ : hF) (Aₚ : hA) (cₚ sₚ : Nat), PHI Dc g σₚ Dₚ Nₚ Fₚ Aₚ → STP g σ D N A c s g σₚ Dₚ Nₚ Aₚ cₚ sₚ → EQD [(2, 1), (4, 1), (6, 1), (8, 1), (11, 1), (0, 18), (25, 1)] [3, 5, 7, 9, 12, 10, 29, 30, 26] [] [] D N F A Dₚ Nₚ Fₚ Aₚ → ((0 : Int) = 1) → Q (some (I z)) σₚ cₚ sₚ) : Ew 17 (d + 3) 239 ls [I y0] σ c s Q := by
  obtain ⟨HX, HT, hg0, hPF, hAB, hNZ, hGI, hI0, hI1, hI2, hI3, hI4, hI5, hI6, hI7, hI8, hI9⟩ := X
  have hset := SETI_f hI0.2.2.2.2.2.2.2.2.2.2.2.2.2.2.2.2.2.2.2.2.2.2.2.2
  have hJ0 := hI0
  unfold INV0 at hJ0
  obtain ⟨f0_0, f0_1, f0_2, f0_3, f0_4, f0_5, f0_6, f0_7, f0_8, f0_9, f0_10, f0_11, f0_12, f0_13, f0_14, f0_15, f0_16, f0_17, f0_18, f0_19, f0_20, f0_21, f0_22, f0_23, f0_24⟩ := hJ0
  have hp : ∀ x, x < (V17_vE2).length → SPH g (ι_we2_2.getD x 0) = true := SPH_of (gs := [0]) (by intro j hj; simp at hj; subst hj; exact hg0) rfl (by decide +kernel)
  refine C17_vE2 (D := pul ι_we2_2 D) (N := pul ι_we2_2 N) (F := pul ι_we2_2 F) (A := pul ι_we2_2 A) (HWs_sub HX vs_we2_2 hp) (show F 0 5 = (D 25 : Int) from hPF (0, 0, 5, 25) (List.mem_of_getElem? (i := 24) rfl) hg0 hg0) (show F 25 0 = (D 26 : Int) from hPF (0, 25, 0, 26) (List.mem_of_getElem? (i := 25) rfl) hg0 hg0) (show F 0 6 = (D 27 : Int) from hPF (0, 0, 6, 27) (List.mem_of_getElem? (i := 26) rfl) hg0 hg0) (show F 27 0 = (D 28 : Int) from hPF (0, 27, 0, 28) (List.mem_of_getElem? (i := 27) rfl) hg0 hg0) (show F 6 0 = (D 7 : Int) from hPF (0, 6, 0, 7) (List.mem_of_getElem? (i := 6) rfl) hg0 hg0) (show F 0 16 = (D 32 : Int) from hPF (0, 0, 16, 32) (List.mem_of_getElem? (i := 31) rfl) hg0 hg0) (show F 0 1 = (D 10 : Int) from hPF (0, 0, 1, 10) (List.mem_of_getElem? (i := 9) rfl) hg0 hg0) (N 26 : Int) rfl (N 28 : Int) rfl (N 7 : Int) rfl (N 32 : Int) rfl (N 10 : Int) rfl (F 6 1) rfl (F 25 1) rfl (F 27 1) rfl (A 10) rfl  hl0 hl1 hl3 hl4 (show inr (x1) by first | assumption | omega) (show inr y0 by first | assumption | omega) (show 0 ≤ (F 25 1) ∧ (F 25 1) ≤ ((N 26 : Int)) ∧ ((N 26 : Int)) ≤ 65536 by first | assumption | omega) (show 0 ≤ (F 27 1) ∧ (F 27 1) ≤ ((N 28 : Int)) ∧ ((N 28 : Int)) ≤ 65536 by first | assumption | omega) (show 0 ≤ (F 6 1) ∧ (F 6 1) ≤ ((N 7 : Int)) ∧ ((N 7 : Int)) ≤ 65536 by first | assumption | omega) (show (F 6 1) ≤ 16384 by first | assumption | omega) (show ((N 32 : Int)) = 2 by first | assumption | omega) (show 1 ≤ ((A 10)) 2 ∧ ((A 10)) 2 ≤ 65536 by first | assumption | omega) (show 0 ≤ ((A 10)) 8 ∧ ((A 10)) 8 ≤ 11 by first | assumption | omega) (show 0 ≤ ((A 10)) 6 ∧ ((A 10)) 6 ≤ 255 by first | assumption | omega) (show ((N 10 : Int)) = 10 by first | assumption | omega) (fun  ls σ F_c337 A_c337  lc337_0 lc337_1 H O hS_c337 hA_c337    wc337_7 ewc337_7 jc337_0 jc337_1 jc337_2 => ?_) (fun z σₚ Fₚ Aₚ Hₚ O sf sa q0 q1 => ?_)
  · skip
    subst ewc337_7
    have sd : SD [] (pul ι_we2_2 D) (pul ι_we2_2 D) := SD_refl
    have sn : SD [] (pul ι_we2_2 N) (pul ι_we2_2 N) := SD_refl
    have : F_c337 1 1 = F 6 1 := hS_c337 1 1 rfl
    have : F_c337 4 1 = F 27 1 := hS_c337 4 1 rfl
    have : A_c337 6 = A 7 := funext (hA_c337 6 rfl)
    have : A_c337 5 = A 28 := funext (hA_c337 5 rfl)
    have : F_c337 2 1 = F 25 1 := hS_c337 2 1 rfl
    have : A_c337 8 = A 10 := funext (hA_c337 8 rfl)
    refine hc337   _ _ (glu ι_we2_2 D (pul ι_we2_2 D)) (glu ι_we2_2 N (pul ι_we2_2 N)) (glu ι_we2_2 F F_c337) (glu ι_we2_2 A A_c337) _ _ ⟨HWs_call HX VPH_3 vs_we2_2 hp H O, STC_call HT HX vs_we2_2 hp O, hg0, PFI_glue (dl := []) hPF hS_c337 hA_c337 sd (by decide +kernel) (rexc_of (l := []) (by decide +kernel) ?_), ABS_glue hAB hS_c337 (by decide +kernel), NZ_glue hNZ vs_we2_2 hp sn (by decide +kernel), hGI, ?_, ?_, ?_, ?_, ?_, ?_, ?_, ?_, ?_, ?_⟩ ⟨(STP0_call (STY_call vs_we2_2 hp O) (sd 0 rfl) (RM_call vs_we2_2 O)), unt1_of (x := 10) (by decide +kernel) (fun p hp => funext (hA_c337 p hp))⟩ (EQD_glue hS_c337 hA_c337 sd sn (by decide +kernel)) lc337_0 lc337_1 (show HID (STR (y0) ((F 6 1)) (sc ((A 28)) 0 ((F 27 1))) (sc ((A 7)) 0 ((F 6 1))) (((A 32)) 0) (((A_c337 7)) 0)) by first | assumption | omega | rfl) (show HID (((A_c337 7)) 1 = w32 (((A 32)) 1 + (if BNA ((A 10)) 2 ((F 6 1)) < (F 25 1) then 1 else 0))) by first | assumption | omega | rfl)
    · intro e he h1 h2
      cases he
    · exact INV0_eq (EQD_glue hS_c337 hA_c337 sd sn (by decide +kernel)) hI0
    · exact fun h => INV1_eq (EQD_glue hS_c337 hA_c337 sd sn (by decide +kernel)) (hI1 h)
    · exact fun h => INV2_eq (EQD_glue hS_c337 hA_c337 sd sn (by decide +kernel)) (hI2 h)
    · exact fun h => INV3_eq (EQD_glue hS_c337 hA_c337 sd sn (by decide +kernel)) (hI3 h)
    · exact fun h => INV4_eq (EQD_glue hS_c337 hA_c337 sd sn (by decide +kernel)) (hI4 h)
    · exact fun h => INV5_eq (EQD_glue hS_c337 hA_c337 sd sn (by decide +kernel)) (hI5 h)
    · exact fun h => INV6_eq (EQD_glue hS_c337 hA_c337 sd sn (by decide +kernel)) (hI6 h)
    · exact fun h => INV7_eq (EQD_glue hS_c337 hA_c337 sd sn (by decide +kernel)) (hI7 h)
    · exact fun h => INV8_eq (EQD_glue hS_c337 hA_c337 sd sn (by decide +kernel)) (hI8 h)
    · exact fun h => INV9_eq (EQD_glue hS_c337 hA_c337 sd sn (by decide +kernel)) (hI9 h)
  · skip
    have sd : SD [] (pul ι_we2_2 D) (pul ι_we2_2 D) := SD_refl
    have sn : SD [] (pul ι_we2_2 N) (pul ι_we2_2 N) := SD_refl
    refine k z _ (glu ι_we2_2 D (pul ι_we2_2 D)) (glu ι_we2_2 N (pul ι_we2_2 N)) (glu ι_we2_2 F Fₚ) (glu ι_we2_2 A Aₚ) _ _ ⟨HWs_call HX VPH_3 vs_we2_2 hp Hₚ O, STC_call HT HX vs_we2_2 hp O, hg0, PFI_glue (dl := []) hPF sf sa sd (by decide +kernel) (rexc_of (l := []) (by decide +kernel) ?_), ABS_glue hAB sf (by decide +kernel), NZ_glue hNZ vs_we2_2 hp sn (by decide +kernel), hGI, ?_, ?_, ?_, ?_, ?_, ?_, ?_, ?_, ?_, ?_⟩ ⟨(STP0_call (STY_call vs_we2_2 hp O) (sd 0 rfl) (RM_call vs_we2_2 O)), unt1_of (x := 10) (by decide +kernel) (fun p hp => funext (sa p hp))⟩ (EQD_glue sf sa sd sn (by decide +kernel)) (show (0 : Int) = 1 by first | assumption | omega | rfl)
    · intro e he h1 h2
      cases he
    · exact INV0_eq (EQD_glue sf sa sd sn (by decide +kernel)) hI0
    · exact fun h => INV1_eq (EQD_glue sf sa sd sn (by decide +kernel)) (hI1 h)
    · exact fun h => INV2_eq (EQD_glue sf sa sd sn (by decide +kernel)) (hI2 h)
    · exact fun h => INV3_eq (EQD_glue sf sa sd sn (by decide +kernel)) (hI3 h)
    · exact fun h => INV4_eq (EQD_glue sf sa sd sn (by decide +kernel)) (hI4 h)
    · exact fun h => INV5_eq (EQD_glue sf sa sd sn (by decide +kernel)) (hI5 h)
    · exact fun h => INV6_eq (EQD_glue sf sa sd sn (by decide +kernel)) (hI6 h)
    · exact fun h => INV7_eq (EQD_glue sf sa sd sn (by decide +kernel)) (hI7 h)
    · exact fun h => INV8_eq (EQD_glue sf sa sd sn (by decide +kernel)) (hI8 h)
    · exact fun h => INV9_eq (EQD_glue sf sa sd sn (by decide +kernel)) (hI9 h)
def ι_we2_3 : List Nat := [0, 8, 25, 26, 27, 28, 9, 32, 10]
theorem vs_we2_3 : VS VPH V17_vE2 ι_we2_3 := VS_of (by decide +kernel)
set_option maxRecDepth 20000 in
theorem T_we2_3 {Dc : DcS} {g : Nat → Bool} {σ : rS} {D N : Nat → Nat} {F : hF} {A : hA} {d c s : Nat} {Q : wQ} (X : PHI Dc g σ D N F A)  {x1 y0 : Int} {ls : rO} (hl0 : rlook ls 0 = some (.ref (D 0))) (hl1 : rlook ls 1 = some (I x1)) (hl3 : rlook ls 3 = some (I (2))) (hl4 : rlook ls 4 = some (.ref (D 8))) (h0 : inr x1) (h1 : inr y0) (x_0 : (F 8 1) ≤ 16384) (hc337 : ∀ (ls : rO) (σₚ : rS) (Dₚ Nₚ : Nat → Nat) (Fₚ : hF) (Aₚ : hA) (cₚ sₚ : Nat), PHI Dc g σₚ Dₚ Nₚ Fₚ Aₚ → STP g σ D N A c s g σₚ Dₚ Nₚ Aₚ cₚ sₚ → EQD [(2, 1), (4, 1), (6, 1), (8, 1), (11, 1), (0, 18), (25, 1)] [3, 5, 7, 9, 12, 10, 29, 30, 26] [] [] D N F A Dₚ Nₚ Fₚ Aₚ → rlook ls 0 = some (.ref (Dₚ 0)) → rlook ls 1 = some (I (x1)) → (HID (STR (y0) ((F 8 1)) (sc ((A 28)) 0 ((F 27 1))) (sc ((A 9)) 0 ((F 8 1))) (((A 32)) 0) (((Aₚ 32)) 0))) → (HID (((Aₚ 32)) 1 = w32 (((A 32)) 1 + (if BNA ((A 10)) 2 ((F 8 1)) < (F 25 1) then 1 else 0)))) → Ew 17 (d + 3) 337 ls [] σₚ cₚ sₚ Q) (k : ∀ (z : Int) (σₚ : rS) (Dₚ Nₚ : Nat → Nat) (Fₚ : hF) (Aₚ : hA) (cₚ sₚ : Nat), PHI Dc g σₚ Dₚ Nₚ Fₚ Aₚ → STP g σ D N A c s g σₚ Dₚ Nₚ Aₚ cₚ sₚ → EQD [(2, 1), (4, 1), (6, 1), (8, 1), (11, 1), (0, 18), (25, 1)] [3, 5, 7, 9, 12, 10, 29, 30, 26] [] [] D N F A Dₚ Nₚ Fₚ Aₚ → ((0 : Int) = 1) → Q (some (I z)) σₚ cₚ sₚ) : Ew 17 (d + 3) 239 ls [I y0] σ c s Q := by
  obtain ⟨HX, HT, hg0, hPF, hAB, hNZ, hGI, hI0, hI1, hI2, hI3, hI4, hI5, hI6, hI7, hI8, hI9⟩ := X
  have hset := SETI_f hI0.2.2.2.2.2.2.2.2.2.2.2.2.2.2.2.2.2.2.2.2.2.2.2.2
  have hJ0 := hI0
  unfold INV0 at hJ0
  obtain ⟨f0_0, f0_1, f0_2, f0_3, f0_4, f0_5, f0_6, f0_7, f0_8, f0_9, f0_10, f0_11, f0_12, f0_13, f0_14, f0_15, f0_16, f0_17, f0_18, f0_19, f0_20, f0_21, f0_22, f0_23, f0_24⟩ := hJ0
  have hp : ∀ x, x < (V17_vE2).length → SPH g (ι_we2_3.getD x 0) = true := SPH_of (gs := [0]) (by intro j hj; simp at hj; subst hj; exact hg0) rfl (by decide +kernel)
  refine C17_vE2 (D := pul ι_we2_3 D) (N := pul ι_we2_3 N) (F := pul ι_we2_3 F) (A := pul ι_we2_3 A) (HWs_sub HX vs_we2_3 hp) (show F 0 5 = (D 25 : Int) from hPF (0, 0, 5, 25) (List.mem_of_getElem? (i := 24) rfl) hg0 hg0) (show F 25 0 = (D 26 : Int) from hPF (0, 25, 0, 26) (List.mem_of_getElem? (i := 25) rfl) hg0 hg0) (show F 0 6 = (D 27 : Int) from hPF (0, 0, 6, 27) (List.mem_of_getElem? (i := 26) rfl) hg0 hg0) (show F 27 0 = (D 28 : Int) from hPF (0, 27, 0, 28) (List.mem_of_getElem? (i := 27) rfl) hg0 hg0) (show F 8 0 = (D 9 : Int) from hPF (0, 8, 0, 9) (List.mem_of_getElem? (i := 8) rfl) hg0 hg0) (show F 0 16 = (D 32 : Int) from hPF (0, 0, 16, 32) (List.mem_of_getElem? (i := 31) rfl) hg0 hg0) (show F 0 1 = (D 10 : Int) from hPF (0, 0, 1, 10) (List.mem_of_getElem? (i := 9) rfl) hg0 hg0) (N 26 : Int) rfl (N 28 : Int) rfl (N 9 : Int) rfl (N 32 : Int) rfl (N 10 : Int) rfl (F 8 1) rfl (F 25 1) rfl (F 27 1) rfl (A 10) rfl  hl0 hl1 hl3 hl4 (show inr (x1) by first | assumption | omega) (show inr y0 by first | assumption | omega) (show 0 ≤ (F 25 1) ∧ (F 25 1) ≤ ((N 26 : Int)) ∧ ((N 26 : Int)) ≤ 65536 by first | assumption | omega) (show 0 ≤ (F 27 1) ∧ (F 27 1) ≤ ((N 28 : Int)) ∧ ((N 28 : Int)) ≤ 65536 by first | assumption | omega) (show 0 ≤ (F 8 1) ∧ (F 8 1) ≤ ((N 9 : Int)) ∧ ((N 9 : Int)) ≤ 65536 by first | assumption | omega) (show (F 8 1) ≤ 16384 by first | assumption | omega) (show ((N 32 : Int)) = 2 by first | assumption | omega) (show 1 ≤ ((A 10)) 2 ∧ ((A 10)) 2 ≤ 65536 by first | assumption | omega) (show 0 ≤ ((A 10)) 8 ∧ ((A 10)) 8 ≤ 11 by first | assumption | omega) (show 0 ≤ ((A 10)) 6 ∧ ((A 10)) 6 ≤ 255 by first | assumption | omega) (show ((N 10 : Int)) = 10 by first | assumption | omega) (fun  ls σ F_c337 A_c337  lc337_0 lc337_1 H O hS_c337 hA_c337    wc337_7 ewc337_7 jc337_0 jc337_1 jc337_2 => ?_) (fun z σₚ Fₚ Aₚ Hₚ O sf sa q0 q1 => ?_)
  · skip
    subst ewc337_7
    have sd : SD [] (pul ι_we2_3 D) (pul ι_we2_3 D) := SD_refl
    have sn : SD [] (pul ι_we2_3 N) (pul ι_we2_3 N) := SD_refl
    have : F_c337 1 1 = F 8 1 := hS_c337 1 1 rfl
    have : F_c337 4 1 = F 27 1 := hS_c337 4 1 rfl
    have : A_c337 6 = A 9 := funext (hA_c337 6 rfl)
    have : A_c337 5 = A 28 := funext (hA_c337 5 rfl)
    have : F_c337 2 1 = F 25 1 := hS_c337 2 1 rfl
    have : A_c337 8 = A 10 := funext (hA_c337 8 rfl)
    refine hc337   _ _ (glu ι_we2_3 D (pul ι_we2_3 D)) (glu ι_we2_3 N (pul ι_we2_3 N)) (glu ι_we2_3 F F_c337) (glu ι_we2_3 A A_c337) _ _ ⟨HWs_call HX VPH_3 vs_we2_3 hp H O, STC_call HT HX vs_we2_3 hp O, hg0, PFI_glue (dl := []) hPF hS_c337 hA_c337 sd (by decide +kernel) (rexc_of (l := []) (by decide +kernel) ?_), ABS_glue hAB hS_c337 (by decide +kernel), NZ_glue hNZ vs_we2_3 hp sn (by decide +kernel), hGI, ?_, ?_, ?_, ?_, ?_, ?_, ?_, ?_, ?_, ?_⟩ ⟨(STP0_call (STY_call vs_we2_3 hp O) (sd 0 rfl) (RM_call vs_we2_3 O)), unt1_of (x := 10) (by decide +kernel) (fun p hp => funext (hA_c337 p hp))⟩ (EQD_glue hS_c337 hA_c337 sd sn (by decide +kernel)) lc337_0 lc337_1 (show HID (STR (y0) ((F 8 1)) (sc ((A 28)) 0 ((F 27 1))) (sc ((A 9)) 0 ((F 8 1))) (((A 32)) 0) (((A_c337 7)) 0)) by first | assumption | omega | rfl) (show HID (((A_c337 7)) 1 = w32 (((A 32)) 1 + (if BNA ((A 10)) 2 ((F 8 1)) < (F 25 1) then 1 else 0))) by first | assumption | omega | rfl)
    · intro e he h1 h2
      cases he
    · exact INV0_eq (EQD_glue hS_c337 hA_c337 sd sn (by decide +kernel)) hI0
    · exact fun h => INV1_eq (EQD_glue hS_c337 hA_c337 sd sn (by decide +kernel)) (hI1 h)
    · exact fun h => INV2_eq (EQD_glue hS_c337 hA_c337 sd sn (by decide +kernel)) (hI2 h)
    · exact fun h => INV3_eq (EQD_glue hS_c337 hA_c337 sd sn (by decide +kernel)) (hI3 h)
    · exact fun h => INV4_eq (EQD_glue hS_c337 hA_c337 sd sn (by decide +kernel)) (hI4 h)
    · exact fun h => INV5_eq (EQD_glue hS_c337 hA_c337 sd sn (by decide +kernel)) (hI5 h)
    · exact fun h => INV6_eq (EQD_glue hS_c337 hA_c337 sd sn (by decide +kernel)) (hI6 h)
    · exact fun h => INV7_eq (EQD_glue hS_c337 hA_c337 sd sn (by decide +kernel)) (hI7 h)
    · exact fun h => INV8_eq (EQD_glue hS_c337 hA_c337 sd sn (by decide +kernel)) (hI8 h)
    · exact fun h => INV9_eq (EQD_glue hS_c337 hA_c337 sd sn (by decide +kernel)) (hI9 h)
  · skip
    have sd : SD [] (pul ι_we2_3 D) (pul ι_we2_3 D) := SD_refl
    have sn : SD [] (pul ι_we2_3 N) (pul ι_we2_3 N) := SD_refl
    refine k z _ (glu ι_we2_3 D (pul ι_we2_3 D)) (glu ι_we2_3 N (pul ι_we2_3 N)) (glu ι_we2_3 F Fₚ) (glu ι_we2_3 A Aₚ) _ _ ⟨HWs_call HX VPH_3 vs_we2_3 hp Hₚ O, STC_call HT HX vs_we2_3 hp O, hg0, PFI_glue (dl := []) hPF sf sa sd (by decide +kernel) (rexc_of (l := []) (by decide +kernel) ?_), ABS_glue hAB sf (by decide +kernel), NZ_glue hNZ vs_we2_3 hp sn (by decide +kernel), hGI, ?_, ?_, ?_, ?_, ?_, ?_, ?_, ?_, ?_, ?_⟩ ⟨(STP0_call (STY_call vs_we2_3 hp O) (sd 0 rfl) (RM_call vs_we2_3 O)), unt1_of (x := 10) (by decide +kernel) (fun p hp => funext (sa p hp))⟩ (EQD_glue sf sa sd sn (by decide +kernel)) (show (0 : Int) = 1 by first | assumption | omega | rfl)
    · intro e he h1 h2
      cases he
    · exact INV0_eq (EQD_glue sf sa sd sn (by decide +kernel)) hI0
    · exact fun h => INV1_eq (EQD_glue sf sa sd sn (by decide +kernel)) (hI1 h)
    · exact fun h => INV2_eq (EQD_glue sf sa sd sn (by decide +kernel)) (hI2 h)
    · exact fun h => INV3_eq (EQD_glue sf sa sd sn (by decide +kernel)) (hI3 h)
    · exact fun h => INV4_eq (EQD_glue sf sa sd sn (by decide +kernel)) (hI4 h)
    · exact fun h => INV5_eq (EQD_glue sf sa sd sn (by decide +kernel)) (hI5 h)
    · exact fun h => INV6_eq (EQD_glue sf sa sd sn (by decide +kernel)) (hI6 h)
    · exact fun h => INV7_eq (EQD_glue sf sa sd sn (by decide +kernel)) (hI7 h)
    · exact fun h => INV8_eq (EQD_glue sf sa sd sn (by decide +kernel)) (hI8 h)
    · exact fun h => INV9_eq (EQD_glue sf sa sd sn (by decide +kernel)) (hI9 h)
def ι_we3_0 : List Nat := [0, 2, 25, 26, 27, 28, 3, 32, 10]
theorem vs_we3_0 : VS VPH V17_vE3 ι_we3_0 := VS_of (by decide +kernel)
set_option maxRecDepth 20000 in
theorem T_we3_0 {Dc : DcS} {g : Nat → Bool} {σ : rS} {D N : Nat → Nat} {F : hF} {A : hA} {d c s : Nat} {Q : wQ} (X : PHI Dc g σ D N F A)  {x1 y0 : Int} {ls : rO} (hl0 : rlook ls 0 = some (.ref (D 0))) (hl1 : rlook ls 1 = some (I x1)) (hl3 : rlook ls 3 = some (I (3))) (hl4 : rlook ls 4 = some (.ref (D 2))) (h0 : inr x1) (h1 : inr y0) (x_0 : (F 2 1) ≤ 16384) (hc337 : ∀ (ls : rO) (σₚ : rS) (Dₚ Nₚ : Nat → Nat) (Fₚ : hF) (Aₚ : hA) (cₚ sₚ : Nat), PHI Dc g σₚ Dₚ Nₚ Fₚ Aₚ → STP g σ D N A c s g σₚ Dₚ Nₚ Aₚ cₚ sₚ → EQD [(2, 1), (4, 1), (6, 1), (8, 1), (11, 1), (0, 18), (25, 1)] [3, 5, 7, 9, 12, 10, 29, 30, 26] [] [] D N F A Dₚ Nₚ Fₚ Aₚ → rlook ls 0 = some (.ref (Dₚ 0)) → rlook ls 1 = some (I (x1)) → (HID (STR (y0) ((F 2 1)) (sc ((A 28)) 0 ((F 27 1))) (sc ((A 3)) 0 ((F 2 1))) (((A 32)) 0) (((Aₚ 32)) 0))) → (HID (((Aₚ 32)) 1 = w32 (((A 32)) 1 + (if BNA ((A 10)) 3 ((F 2 1)) < (F 25 1) then 1 else 0)))) → Ew 17 (d + 3) 337 ls [] σₚ cₚ sₚ Q) (k : ∀ (z : Int) (σₚ : rS) (Dₚ Nₚ : Nat → Nat) (Fₚ : hF) (Aₚ : hA) (cₚ sₚ : Nat), PHI Dc g σₚ Dₚ Nₚ Fₚ Aₚ → STP g σ D N A c s g σₚ Dₚ Nₚ Aₚ cₚ sₚ → EQD [(2, 1), (4, 1), (6, 1), (8, 1), (11, 1), (0, 18), (25, 1)] [3, 5, 7, 9, 12, 10, 29, 30, 26] [] [] D N F A Dₚ Nₚ Fₚ Aₚ → ((0 : Int) = 1) → Q (some (I z)) σₚ cₚ sₚ) : Ew 17 (d + 3) 239 ls [I y0] σ c s Q := by
  obtain ⟨HX, HT, hg0, hPF, hAB, hNZ, hGI, hI0, hI1, hI2, hI3, hI4, hI5, hI6, hI7, hI8, hI9⟩ := X
  have hset := SETI_f hI0.2.2.2.2.2.2.2.2.2.2.2.2.2.2.2.2.2.2.2.2.2.2.2.2
  have hJ0 := hI0
  unfold INV0 at hJ0
  obtain ⟨f0_0, f0_1, f0_2, f0_3, f0_4, f0_5, f0_6, f0_7, f0_8, f0_9, f0_10, f0_11, f0_12, f0_13, f0_14, f0_15, f0_16, f0_17, f0_18, f0_19, f0_20, f0_21, f0_22, f0_23, f0_24⟩ := hJ0
  have hp : ∀ x, x < (V17_vE3).length → SPH g (ι_we3_0.getD x 0) = true := SPH_of (gs := [0]) (by intro j hj; simp at hj; subst hj; exact hg0) rfl (by decide +kernel)
  refine C17_vE3 (D := pul ι_we3_0 D) (N := pul ι_we3_0 N) (F := pul ι_we3_0 F) (A := pul ι_we3_0 A) (HWs_sub HX vs_we3_0 hp) (show F 0 5 = (D 25 : Int) from hPF (0, 0, 5, 25) (List.mem_of_getElem? (i := 24) rfl) hg0 hg0) (show F 25 0 = (D 26 : Int) from hPF (0, 25, 0, 26) (List.mem_of_getElem? (i := 25) rfl) hg0 hg0) (show F 0 6 = (D 27 : Int) from hPF (0, 0, 6, 27) (List.mem_of_getElem? (i := 26) rfl) hg0 hg0) (show F 27 0 = (D 28 : Int) from hPF (0, 27, 0, 28) (List.mem_of_getElem? (i := 27) rfl) hg0 hg0) (show F 2 0 = (D 3 : Int) from hPF (0, 2, 0, 3) (List.mem_of_getElem? (i := 2) rfl) hg0 hg0) (show F 0 16 = (D 32 : Int) from hPF (0, 0, 16, 32) (List.mem_of_getElem? (i := 31) rfl) hg0 hg0) (show F 0 1 = (D 10 : Int) from hPF (0, 0, 1, 10) (List.mem_of_getElem? (i := 9) rfl) hg0 hg0) (N 26 : Int) rfl (N 28 : Int) rfl (N 3 : Int) rfl (N 32 : Int) rfl (N 10 : Int) rfl (F 2 1) rfl (F 25 1) rfl (F 27 1) rfl (A 10) rfl  hl0 hl1 hl3 hl4 (show inr (x1) by first | assumption | omega) (show inr y0 by first | assumption | omega) (show 0 ≤ (F 25 1) ∧ (F 25 1) ≤ ((N 26 : Int)) ∧ ((N 26 : Int)) ≤ 65536 by first | assumption | omega) (show 0 ≤ (F 27 1) ∧ (F 27 1) ≤ ((N 28 : Int)) ∧ ((N 28 : Int)) ≤ 65536 by first | assumption | omega) (show 0 ≤ (F 2 1) ∧ (F 2 1) ≤ ((N 3 : Int)) ∧ ((N 3 : Int)) ≤ 65536 by first | assumption | omega) (show (F 2 1) ≤ 16384 by first | assumption | omega) (show ((N 32 : Int)) = 2 by first | assumption | omega) (show 1 ≤ ((A 10)) 2 ∧ ((A 10)) 2 ≤ 65536 by first | assumption | omega) (show 0 ≤ ((A 10)) 8 ∧ ((A 10)) 8 ≤ 11 by first | assumption | omega) (show 0 ≤ ((A 10)) 6 ∧ ((A 10)) 6 ≤ 255 by first | assumption | omega) (show ((N 10 : Int)) = 10 by first | assumption | omega) (fun  ls σ F_c337 A_c337  lc337_0 lc337_1 H O hS_c337 hA_c337    wc337_7 ewc337_7 jc337_0 jc337_1 jc337_2 => ?_) (fun z σₚ Fₚ Aₚ Hₚ O sf sa q0 q1 => ?_)
  · skip
    subst ewc337_7
    have sd : SD [] (pul ι_we3_0 D) (pul ι_we3_0 D) := SD_refl
    have sn : SD [] (pul ι_we3_0 N) (pul ι_we3_0 N) := SD_refl
    have : F_c337 1 1 = F 2 1 := hS_c337 1 1 rfl
    have : F_c337 4 1 = F 27 1 := hS_c337 4 1 rfl
    have : A_c337 6 = A 3 := funext (hA_c337 6 rfl)
    have : A_c337 5 = A 28 := funext (hA_c337 5 rfl)
    have : F_c337 2 1 = F 25 1 := hS_c337 2 1 rfl
    have : A_c337 8 = A 10 := funext (hA_c337 8 rfl)
    refine hc337   _ _ (glu ι_we3_0 D (pul ι_we3_0 D)) (glu ι_we3_0 N (pul ι_we3_0 N)) (glu ι_we3_0 F F_c337) (glu ι_we3_0 A A_c337) _ _ ⟨HWs_call HX VPH_3 vs_we3_0 hp H O, STC_call HT HX vs_we3_0 hp O, hg0, PFI_glue (dl := []) hPF hS_c337 hA_c337 sd (by decide +kernel) (rexc_of (l := []) (by decide +kernel) ?_), ABS_glue hAB hS_c337 (by decide +kernel), NZ_glue hNZ vs_we3_0 hp sn (by decide +kernel), hGI, ?_, ?_, ?_, ?_, ?_, ?_, ?_, ?_, ?_, ?_⟩ ⟨(STP0_call (STY_call vs_we3_0 hp O) (sd 0 rfl) (RM_call vs_we3_0 O)), unt1_of (x := 10) (by decide +kernel) (fun p hp => funext (hA_c337 p hp))⟩ (EQD_glue hS_c337 hA_c337 sd sn (by decide +kernel)) lc337_0 lc337_1 (show HID (STR (y0) ((F 2 1)) (sc ((A 28)) 0 ((F 27 1))) (sc ((A 3)) 0 ((F 2 1))) (((A 32)) 0) (((A_c337 7)) 0)) by first | assumption | omega | rfl) (show HID (((A_c337 7)) 1 = w32 (((A 32)) 1 + (if BNA ((A 10)) 3 ((F 2 1)) < (F 25 1) then 1 else 0))) by first | assumption | omega | rfl)
    · intro e he h1 h2
      cases he
    · exact INV0_eq (EQD_glue hS_c337 hA_c337 sd sn (by decide +kernel)) hI0
    · exact fun h => INV1_eq (EQD_glue hS_c337 hA_c337 sd sn (by decide +kernel)) (hI1 h)
    · exact fun h => INV2_eq (EQD_glue hS_c337 hA_c337 sd sn (by decide +kernel)) (hI2 h)
    · exact fun h => INV3_eq (EQD_glue hS_c337 hA_c337 sd sn (by decide +kernel)) (hI3 h)
    · exact fun h => INV4_eq (EQD_glue hS_c337 hA_c337 sd sn (by decide +kernel)) (hI4 h)
    · exact fun h => INV5_eq (EQD_glue hS_c337 hA_c337 sd sn (by decide +kernel)) (hI5 h)
    · exact fun h => INV6_eq (EQD_glue hS_c337 hA_c337 sd sn (by decide +kernel)) (hI6 h)
    · exact fun h => INV7_eq (EQD_glue hS_c337 hA_c337 sd sn (by decide +kernel)) (hI7 h)
    · exact fun h => INV8_eq (EQD_glue hS_c337 hA_c337 sd sn (by decide +kernel)) (hI8 h)
    · exact fun h => INV9_eq (EQD_glue hS_c337 hA_c337 sd sn (by decide +kernel)) (hI9 h)
  · skip
    have sd : SD [] (pul ι_we3_0 D) (pul ι_we3_0 D) := SD_refl
    have sn : SD [] (pul ι_we3_0 N) (pul ι_we3_0 N) := SD_refl
    refine k z _ (glu ι_we3_0 D (pul ι_we3_0 D)) (glu ι_we3_0 N (pul ι_we3_0 N)) (glu ι_we3_0 F Fₚ) (glu ι_we3_0 A Aₚ) _ _ ⟨HWs_call HX VPH_3 vs_we3_0 hp Hₚ O, STC_call HT HX vs_we3_0 hp O, hg0, PFI_glue (dl := []) hPF sf sa sd (by decide +kernel) (rexc_of (l := []) (by decide +kernel) ?_), ABS_glue hAB sf (by decide +kernel), NZ_glue hNZ vs_we3_0 hp sn (by decide +kernel), hGI, ?_, ?_, ?_, ?_, ?_, ?_, ?_, ?_, ?_, ?_⟩ ⟨(STP0_call (STY_call vs_we3_0 hp O) (sd 0 rfl) (RM_call vs_we3_0 O)), unt1_of (x := 10) (by decide +kernel) (fun p hp => funext (sa p hp))⟩ (EQD_glue sf sa sd sn (by decide +kernel)) (show (0 : Int) = 1 by first | assumption | omega | rfl)
    · intro e he h1 h2
      cases he
    · exact INV0_eq (EQD_glue sf sa sd sn (by decide +kernel)) hI0
    · exact fun h => INV1_eq (EQD_glue sf sa sd sn (by decide +kernel)) (hI1 h)
    · exact fun h => INV2_eq (EQD_glue sf sa sd sn (by decide +kernel)) (hI2 h)
    · exact fun h => INV3_eq (EQD_glue sf sa sd sn (by decide +kernel)) (hI3 h)
    · exact fun h => INV4_eq (EQD_glue sf sa sd sn (by decide +kernel)) (hI4 h)
    · exact fun h => INV5_eq (EQD_glue sf sa sd sn (by decide +kernel)) (hI5 h)
    · exact fun h => INV6_eq (EQD_glue sf sa sd sn (by decide +kernel)) (hI6 h)
    · exact fun h => INV7_eq (EQD_glue sf sa sd sn (by decide +kernel)) (hI7 h)
    · exact fun h => INV8_eq (EQD_glue sf sa sd sn (by decide +kernel)) (hI8 h)
    · exact fun h => INV9_eq (EQD_glue sf sa sd sn (by decide +kernel)) (hI9 h)
def ι_we3_1 : List Nat := [0, 4, 25, 26, 27, 28, 5, 32, 10]
theorem vs_we3_1 : VS VPH V17_vE3 ι_we3_1 := VS_of (by decide +kernel)
set_option maxRecDepth 20000 in
theorem T_we3_1 {Dc : DcS} {g : Nat → Bool} {σ : rS} {D N : Nat → Nat} {F : hF} {A : hA} {d c s : Nat} {Q : wQ} (X : PHI Dc g σ D N F A)  {x1 y0 : Int} {ls : rO} (hl0 : rlook ls 0 = some (.ref (D 0))) (hl1 : rlook ls 1 = some (I x1)) (hl3 : rlook ls 3 = some (I (3))) (hl4 : rlook ls 4 = some (.ref (D 4))) (h0 : inr x1) (h1 : inr y0) (x_0 : (F 4 1) ≤ 16384) (hc337 : ∀ (ls : rO) (σₚ : rS) (Dₚ Nₚ : Nat → Nat) (Fₚ : hF) (Aₚ : hA) (cₚ sₚ : Nat), PHI Dc g σₚ Dₚ Nₚ Fₚ Aₚ → STP g σ D N A c s g σₚ Dₚ Nₚ Aₚ cₚ sₚ → EQD [(2, 1), (4, 1), (6, 1), (8, 1), (11, 1), (0, 18), (25, 1)] [3, 5, 7, 9, 12, 10, 29, 30, 26] [] [] D N F A Dₚ Nₚ Fₚ Aₚ → rlook ls 0 = some (.ref (Dₚ 0)) → rlook ls 1 = some (I (x1)) → (HID (STR (y0) ((F 4 1)) (sc ((A 28)) 0 ((F 27 1))) (sc ((A 5)) 0 ((F 4 1))) (((A 32)) 0) (((Aₚ 32)) 0))) → (HID (((Aₚ 32)) 1 = w32 (((A 32)) 1 + (if BNA ((A 10)) 3 ((F 4 1)) < (F 25 1) then 1 else 0)))) → Ew 17 (d + 3) 337 ls [] σₚ cₚ sₚ Q) (k : ∀ (z : Int) (σₚ : rS) (Dₚ Nₚ : Nat → Nat) (Fₚ : hF) (Aₚ : hA) (cₚ sₚ : Nat), PHI Dc g σₚ Dₚ Nₚ Fₚ Aₚ → STP g σ D N A c s g σₚ Dₚ Nₚ Aₚ cₚ sₚ → EQD [(2, 1), (4, 1), (6, 1), (8, 1), (11, 1), (0, 18), (25, 1)] [3, 5, 7, 9, 12, 10, 29, 30, 26] [] [] D N F A Dₚ Nₚ Fₚ Aₚ → ((0 : Int) = 1) → Q (some (I z)) σₚ cₚ sₚ) : Ew 17 (d + 3) 239 ls [I y0] σ c s Q := by
  obtain ⟨HX, HT, hg0, hPF, hAB, hNZ, hGI, hI0, hI1, hI2, hI3, hI4, hI5, hI6, hI7, hI8, hI9⟩ := X
  have hset := SETI_f hI0.2.2.2.2.2.2.2.2.2.2.2.2.2.2.2.2.2.2.2.2.2.2.2.2
  have hJ0 := hI0
  unfold INV0 at hJ0
  obtain ⟨f0_0, f0_1, f0_2, f0_3, f0_4, f0_5, f0_6, f0_7, f0_8, f0_9, f0_10, f0_11, f0_12, f0_13, f0_14, f0_15, f0_16, f0_17, f0_18, f0_19, f0_20, f0_21, f0_22, f0_23, f0_24⟩ := hJ0
  have hp : ∀ x, x < (V17_vE3).length → SPH g (ι_we3_1.getD x 0) = true := SPH_of (gs := [0]) (by intro j hj; simp at hj; subst hj; exact hg0) rfl (by decide +kernel)
  refine C17_vE3 (D := pul ι_we3_1 D) (N := pul ι_we3_1 N) (F := pul ι_we3_1 F) (A := pul ι_we3_1 A) (HWs_sub HX vs_we3_1 hp) (show F 0 5 = (D 25 : Int) from hPF (0, 0, 5, 25) (List.mem_of_getElem? (i := 24) rfl) hg0 hg0) (show F 25 0 = (D 26 : Int) from hPF (0, 25, 0, 26) (List.mem_of_getElem? (i := 25) rfl) hg0 hg0) (show F 0 6 = (D 27 : Int) from hPF (0, 0, 6, 27) (List.mem_of_getElem? (i := 26) rfl) hg0 hg0) (show F 27 0 = (D 28 : Int) from hPF (0, 27, 0, 28) (List.mem_of_getElem? (i := 27) rfl) hg0 hg0) (show F 4 0 = (D 5 : Int) from hPF (0, 4, 0, 5) (List.mem_of_getElem? (i := 4) rfl) hg0 hg0) (show F 0 16 = (D 32 : Int) from hPF (0, 0, 16, 32) (List.mem_of_getElem? (i := 31) rfl) hg0 hg0) (show F 0 1 = (D 10 : Int) from hPF (0, 0, 1, 10) (List.mem_of_getElem? (i := 9) rfl) hg0 hg0) (N 26 : Int) rfl (N 28 : Int) rfl (N 5 : Int) rfl (N 32 : Int) rfl (N 10 : Int) rfl (F 4 1) rfl (F 25 1) rfl (F 27 1) rfl (A 10) rfl  hl0 hl1 hl3 hl4 (show inr (x1) by first | assumption | omega) (show inr y0 by first | assumption | omega) (show 0 ≤ (F 25 1) ∧ (F 25 1) ≤ ((N 26 : Int)) ∧ ((N 26 : Int)) ≤ 65536 by first | assumption | omega) (show 0 ≤ (F 27 1) ∧ (F 27 1) ≤ ((N 28 : Int)) ∧ ((N 28 : Int)) ≤ 65536 by first | assumption | omega) (show 0 ≤ (F 4 1) ∧ (F 4 1) ≤ ((N 5 : Int)) ∧ ((N 5 : Int)) ≤ 65536 by first | assumption | omega) (show (F 4 1) ≤ 16384 by first | assumption | omega) (show ((N 32 : Int)) = 2 by first | assumption | omega) (show 1 ≤ ((A 10)) 2 ∧ ((A 10)) 2 ≤ 65536 by first | assumption | omega) (show 0 ≤ ((A 10)) 8 ∧ ((A 10)) 8 ≤ 11 by first | assumption | omega) (show 0 ≤ ((A 10)) 6 ∧ ((A 10)) 6 ≤ 255 by first | assumption | omega) (show ((N 10 : Int)) = 10 by first | assumption | omega) (fun  ls σ F_c337 A_c337  lc337_0 lc337_1 H O hS_c337 hA_c337    wc337_7 ewc337_7 jc337_0 jc337_1 jc337_2 => ?_) (fun z σₚ Fₚ Aₚ Hₚ O sf sa q0 q1 => ?_)
  · skip
    subst ewc337_7
    have sd : SD [] (pul ι_we3_1 D) (pul ι_we3_1 D) := SD_refl
    have sn : SD [] (pul ι_we3_1 N) (pul ι_we3_1 N) := SD_refl
    have : F_c337 1 1 = F 4 1 := hS_c337 1 1 rfl
    have : F_c337 4 1 = F 27 1 := hS_c337 4 1 rfl
    have : A_c337 6 = A 5 := funext (hA_c337 6 rfl)
    have : A_c337 5 = A 28 := funext (hA_c337 5 rfl)
    have : F_c337 2 1 = F 25 1 := hS_c337 2 1 rfl
    have : A_c337 8 = A 10 := funext (hA_c337 8 rfl)
    refine hc337   _ _ (glu ι_we3_1 D (pul ι_we3_1 D)) (glu ι_we3_1 N (pul ι_we3_1 N)) (glu ι_we3_1 F F_c337) (glu ι_we3_1 A A_c337) _ _ ⟨HWs_call HX VPH_3 vs_we3_1 hp H O, STC_call HT HX vs_we3_1 hp O, hg0, PFI_glue (dl := []) hPF hS_c337 hA_c337 sd (by decide +kernel) (rexc_of (l := []) (by decide +kernel) ?_), ABS_glue hAB hS_c337 (by decide +kernel), NZ_glue hNZ vs_we3_1 hp sn (by decide +kernel), hGI, ?_, ?_, ?_, ?_, ?_, ?_, ?_, ?_, ?_, ?_⟩ ⟨(STP0_call (STY_call vs_we3_1 hp O) (sd 0 rfl) (RM_call vs_we3_1 O)), unt1_of (x := 10) (by decide +kernel) (fun p hp => funext (hA_c337 p hp))⟩ (EQD_glue hS_c337 hA_c337 sd sn (by decide +kernel)) lc337_0 lc337_1 (show HID (STR (y0) ((F 4 1)) (sc ((A 28)) 0 ((F 27 1))) (sc ((A 5)) 0 ((F 4 1))) (((A 32)) 0) (((A_c337 7)) 0)) by first | assumption | omega | rfl) (show HID (((A_c337 7)) 1 = w32 (((A 32)) 1 + (if BNA ((A 10)) 3 ((F 4 1)) < (F 25 1) then 1 else 0))) by first | assumption | omega | rfl)
    · intro e he h1 h2
      cases he
    · exact INV0_eq (EQD_glue hS_c337 hA_c337 sd sn (by decide +kernel)) hI0
    · exact fun h => INV1_eq (EQD_glue hS_c337 hA_c337 sd sn (by decide +kernel)) (hI1 h)
    · exact fun h => INV2_eq (EQD_glue hS_c337 hA_c337 sd sn (by decide +kernel)) (hI2 h)
    · exact fun h => INV3_eq (EQD_glue hS_c337 hA_c337 sd sn (by decide +kernel)) (hI3 h)
    · exact fun h => INV4_eq (EQD_glue hS_c337 hA_c337 sd sn (by decide +kernel)) (hI4 h)
    · exact fun h => INV5_eq (EQD_glue hS_c337 hA_c337 sd sn (by decide +kernel)) (hI5 h)
    · exact fun h => INV6_eq (EQD_glue hS_c337 hA_c337 sd sn (by decide +kernel)) (hI6 h)
    · exact fun h => INV7_eq (EQD_glue hS_c337 hA_c337 sd sn (by decide +kernel)) (hI7 h)
    · exact fun h => INV8_eq (EQD_glue hS_c337 hA_c337 sd sn (by decide +kernel)) (hI8 h)
    · exact fun h => INV9_eq (EQD_glue hS_c337 hA_c337 sd sn (by decide +kernel)) (hI9 h)
  · skip
    have sd : SD [] (pul ι_we3_1 D) (pul ι_we3_1 D) := SD_refl
    have sn : SD [] (pul ι_we3_1 N) (pul ι_we3_1 N) := SD_refl
    refine k z _ (glu ι_we3_1 D (pul ι_we3_1 D)) (glu ι_we3_1 N (pul ι_we3_1 N)) (glu ι_we3_1 F Fₚ) (glu ι_we3_1 A Aₚ) _ _ ⟨HWs_call HX VPH_3 vs_we3_1 hp Hₚ O, STC_call HT HX vs_we3_1 hp O, hg0, PFI_glue (dl := []) hPF sf sa sd (by decide +kernel) (rexc_of (l := []) (by decide +kernel) ?_), ABS_glue hAB sf (by decide +kernel), NZ_glue hNZ vs_we3_1 hp sn (by decide +kernel), hGI, ?_, ?_, ?_, ?_, ?_, ?_, ?_, ?_, ?_, ?_⟩ ⟨(STP0_call (STY_call vs_we3_1 hp O) (sd 0 rfl) (RM_call vs_we3_1 O)), unt1_of (x := 10) (by decide +kernel) (fun p hp => funext (sa p hp))⟩ (EQD_glue sf sa sd sn (by decide +kernel)) (show (0 : Int) = 1 by first | assumption | omega | rfl)
    · intro e he h1 h2
      cases he
    · exact INV0_eq (EQD_glue sf sa sd sn (by decide +kernel)) hI0
    · exact fun h => INV1_eq (EQD_glue sf sa sd sn (by decide +kernel)) (hI1 h)
    · exact fun h => INV2_eq (EQD_glue sf sa sd sn (by decide +kernel)) (hI2 h)
    · exact fun h => INV3_eq (EQD_glue sf sa sd sn (by decide +kernel)) (hI3 h)
    · exact fun h => INV4_eq (EQD_glue sf sa sd sn (by decide +kernel)) (hI4 h)
    · exact fun h => INV5_eq (EQD_glue sf sa sd sn (by decide +kernel)) (hI5 h)
    · exact fun h => INV6_eq (EQD_glue sf sa sd sn (by decide +kernel)) (hI6 h)
    · exact fun h => INV7_eq (EQD_glue sf sa sd sn (by decide +kernel)) (hI7 h)
    · exact fun h => INV8_eq (EQD_glue sf sa sd sn (by decide +kernel)) (hI8 h)
    · exact fun h => INV9_eq (EQD_glue sf sa sd sn (by decide +kernel)) (hI9 h)
def ι_we3_2 : List Nat := [0, 6, 25, 26, 27, 28, 7, 32, 10]
theorem vs_we3_2 : VS VPH V17_vE3 ι_we3_2 := VS_of (by decide +kernel)
set_option maxRecDepth 20000 in
theorem T_we3_2 {Dc : DcS} {g : Nat → Bool} {σ : rS} {D N : Nat → Nat} {F : hF} {A : hA} {d c s : Nat} {Q : wQ} (X : PHI Dc g σ D N F A)  {x1 y0 : Int} {ls : rO} (hl0 : rlook ls 0 = some (.ref (D 0))) (hl1 : rlook ls 1 = some (I x1)) (hl3 : rlook ls 3 = some (I (3))) (hl4 : rlook ls 4 = some (.ref (D 6))) (h0 : inr x1) (h1 : inr y0) (x_0 : (F 6 1) ≤ 16384) (hc337 : ∀ (ls : rO) (σₚ : rS) (Dₚ Nₚ : Nat → Nat) (Fₚ : hF) (Aₚ : hA) (cₚ sₚ : Nat), PHI Dc g σₚ Dₚ Nₚ Fₚ Aₚ → STP g σ D N A c s g σₚ Dₚ Nₚ Aₚ cₚ sₚ → EQD [(2, 1), (4, 1), (6, 1), (8, 1), (11, 1), (0, 18), (25, 1)] [3, 5, 7, 9, 12, 10, 29, 30, 26] [] [] D N F A Dₚ Nₚ Fₚ Aₚ → rlook ls 0 = some (.ref (Dₚ 0)) → rlook ls 1 = some (I (x1)) → (HID (STR (y0) ((F 6 1)) (sc ((A 28)) 0 ((F 27 1))) (sc ((A 7)) 0 ((F 6 1))) (((A 32)) 0) (((Aₚ 32)) 0))) → (HID (((Aₚ 32)) 1 = w32 (((A 32)) 1 + (if BNA ((A 10)) 3 ((F 6 1)) < (F 25 1) then 1 else 0)))) → Ew 17 (d + 3) 337 ls [] σₚ cₚ sₚ Q) (k : ∀ (z : Int) (σₚ : rS) (Dₚ Nₚ : Nat → Nat) (Fₚ : hF) (Aₚ : hA) (cₚ sₚ : Nat), PHI Dc g σₚ Dₚ Nₚ Fₚ Aₚ → STP g σ D N A c s g σₚ Dₚ Nₚ Aₚ cₚ sₚ → EQD [(2, 1), (4, 1), (6, 1), (8, 1), (11, 1), (0, 18), (25, 1)] [3, 5, 7, 9, 12, 10, 29, 30, 26] [] [] D N F A Dₚ Nₚ Fₚ Aₚ → ((0 : Int) = 1) → Q (some (I z)) σₚ cₚ sₚ) : Ew 17 (d + 3) 239 ls [I y0] σ c s Q := by
  obtain ⟨HX, HT, hg0, hPF, hAB, hNZ, hGI, hI0, hI1, hI2, hI3, hI4, hI5, hI6, hI7, hI8, hI9⟩ := X
  have hset := SETI_f hI0.2.2.2.2.2.2.2.2.2.2.2.2.2.2.2.2.2.2.2.2.2.2.2.2
  have hJ0 := hI0
  unfold INV0 at hJ0
  obtain ⟨f0_0, f0_1, f0_2, f0_3, f0_4, f0_5, f0_6, f0_7, f0_8, f0_9, f0_10, f0_11, f0_12, f0_13, f0_14, f0_15, f0_16, f0_17, f0_18, f0_19, f0_20, f0_21, f0_22, f0_23, f0_24⟩ := hJ0
  have hp : ∀ x, x < (V17_vE3).length → SPH g (ι_we3_2.getD x 0) = true := SPH_of (gs := [0]) (by intro j hj; simp at hj; subst hj; exact hg0) rfl (by decide +kernel)
  refine C17_vE3 (D := pul ι_we3_2 D) (N := pul ι_we3_2 N) (F := pul ι_we3_2 F) (A := pul ι_we3_2 A) (HWs_sub HX vs_we3_2 hp) (show F 0 5 = (D 25 : Int) from hPF (0, 0, 5, 25) (List.mem_of_getElem? (i := 24) rfl) hg0 hg0) (show F 25 0 = (D 26 : Int) from hPF (0, 25, 0, 26) (List.mem_of_getElem? (i := 25) rfl) hg0 hg0) (show F 0 6 = (D 27 : Int) from hPF (0, 0, 6, 27) (List.mem_of_getElem? (i := 26) rfl) hg0 hg0) (show F 27 0 = (D 28 : Int) from hPF (0, 27, 0, 28) (List.mem_of_getElem? (i := 27) rfl) hg0 hg0) (show F 6 0 = (D 7 : Int) from hPF (0, 6, 0, 7) (List.mem_of_getElem? (i := 6) rfl) hg0 hg0) (show F 0 16 = (D 32 : Int) from hPF (0, 0, 16, 32) (List.mem_of_getElem? (i := 31) rfl) hg0 hg0) (show F 0 1 = (D 10 : Int) from hPF (0, 0, 1, 10) (List.mem_of_getElem? (i := 9) rfl) hg0 hg0) (N 26 : Int) rfl (N 28 : Int) rfl (N 7 : Int) rfl (N 32 : Int) rfl (N 10 : Int) rfl (F 6 1) rfl (F 25 1) rfl (F 27 1) rfl (A 10) rfl  hl0 hl1 hl3 hl4 (show inr (x1) by first | assumption | omega) (show inr y0 by first | assumption | omega) (show 0 ≤ (F 25 1) ∧ (F 25 1) ≤ ((N 26 : Int)) ∧ ((N 26 : Int)) ≤ 65536 by first | assumption | omega) (show 0 ≤ (F 27 1) ∧ (F 27 1) ≤ ((N 28 : Int)) ∧ ((N 28 : Int)) ≤ 65536 by first | assumption | omega) (show 0 ≤ (F 6 1) ∧ (F 6 1) ≤ ((N 7 : Int)) ∧ ((N 7 : Int)) ≤ 65536 by first | assumption | omega) (show (F 6 1) ≤ 16384 by first | assumption | omega) (show ((N 32 : Int)) = 2 by first | assumption | omega) (show 1 ≤ ((A 10)) 2 ∧ ((A 10)) 2 ≤ 65536 by first | assumption | omega) (show 0 ≤ ((A 10)) 8 ∧ ((A 10)) 8 ≤ 11 by first | assumption | omega) (show 0 ≤ ((A 10)) 6 ∧ ((A 10)) 6 ≤ 255 by first | assumption | omega) (show ((N 10 : Int)) = 10 by first | assumption | omega) (fun  ls σ F_c337 A_c337  lc337_0 lc337_1 H O hS_c337 hA_c337    wc337_7 ewc337_7 jc337_0 jc337_1 jc337_2 => ?_) (fun z σₚ Fₚ Aₚ Hₚ O sf sa q0 q1 => ?_)
  · skip
    subst ewc337_7
    have sd : SD [] (pul ι_we3_2 D) (pul ι_we3_2 D) := SD_refl
    have sn : SD [] (pul ι_we3_2 N) (pul ι_we3_2 N) := SD_refl
    have : F_c337 1 1 = F 6 1 := hS_c337 1 1 rfl
    have : F_c337 4 1 = F 27 1 := hS_c337 4 1 rfl
    have : A_c337 6 = A 7 := funext (hA_c337 6 rfl)
    have : A_c337 5 = A 28 := funext (hA_c337 5 rfl)
    have : F_c337 2 1 = F 25 1 := hS_c337 2 1 rfl
    have : A_c337 8 = A 10 := funext (hA_c337 8 rfl)
    refine hc337   _ _ (glu ι_we3_2 D (pul ι_we3_2 D)) (glu ι_we3_2 N (pul ι_we3_2 N)) (glu ι_we3_2 F F_c337) (glu ι_we3_2 A A_c337) _ _ ⟨HWs_call HX VPH_3 vs_we3_2 hp H O, STC_call HT HX vs_we3_2 hp O, hg0, PFI_glue (dl := []) hPF hS_c337 hA_c337 sd (by decide +kernel) (rexc_of (l := []) (by decide +kernel) ?_), ABS_glue hAB hS_c337 (by decide +kernel), NZ_glue hNZ vs_we3_2 hp sn (by decide +kernel), hGI, ?_, ?_, ?_, ?_, ?_, ?_, ?_, ?_, ?_, ?_⟩ ⟨(STP0_call (STY_call vs_we3_2 hp O) (sd 0 rfl) (RM_call vs_we3_2 O)), unt1_of (x := 10) (by decide +kernel) (fun p hp => funext (hA_c337 p hp))⟩ (EQD_glue hS_c337 hA_c337 sd sn (by decide +kernel)) lc337_0 lc337_1 (show HID (STR (y0) ((F 6 1)) (sc ((A 28)) 0 ((F 27 1))) (sc ((A 7)) 0 ((F 6 1))) (((A 32)) 0) (((A_c337 7)) 0)) by first | assumption | omega | rfl) (show HID (((A_c337 7)) 1 = w32 (((A 32)) 1 + (if BNA ((A 10)) 3 ((F 6 1)) < (F 25 1) then 1 else 0))) by first | assumption | omega | rfl)
    · intro e he h1 h2
      cases he
    · exact INV0_eq (EQD_glue hS_c337 hA_c337 sd sn (by decide +kernel)) hI0
    · exact fun h => INV1_eq (EQD_glue hS_c337 hA_c337 sd sn (by decide +kernel)) (hI1 h)
    · exact fun h => INV2_eq (EQD_glue hS_c337 hA_c337 sd sn (by decide +kernel)) (hI2 h)
    · exact fun h => INV3_eq (EQD_glue hS_c337 hA_c337 sd sn (by decide +kernel)) (hI3 h)
    · exact fun h => INV4_eq (EQD_glue hS_c337 hA_c337 sd sn (by decide +kernel)) (hI4 h)
    · exact fun h => INV5_eq (EQD_glue hS_c337 hA_c337 sd sn (by decide +kernel)) (hI5 h)
    · exact fun h => INV6_eq (EQD_glue hS_c337 hA_c337 sd sn (by decide +kernel)) (hI6 h)
    · exact fun h => INV7_eq (EQD_glue hS_c337 hA_c337 sd sn (by decide +kernel)) (hI7 h)
    · exact fun h => INV8_eq (EQD_glue hS_c337 hA_c337 sd sn (by decide +kernel)) (hI8 h)
    · exact fun h => INV9_eq (EQD_glue hS_c337 hA_c337 sd sn (by decide +kernel)) (hI9 h)
  · skip
    have sd : SD [] (pul ι_we3_2 D) (pul ι_we3_2 D) := SD_refl
    have sn : SD [] (pul ι_we3_2 N) (pul ι_we3_2 N) := SD_refl
    refine k z _ (glu ι_we3_2 D (pul ι_we3_2 D)) (glu ι_we3_2 N (pul ι_we3_2 N)) (glu ι_we3_2 F Fₚ) (glu ι_we3_2 A Aₚ) _ _ ⟨HWs_call HX VPH_3 vs_we3_2 hp Hₚ O, STC_call HT HX vs_we3_2 hp O, hg0, PFI_glue (dl := []) hPF sf sa sd (by decide +kernel) (rexc_of (l := []) (by decide +kernel) ?_), ABS_glue hAB sf (by decide +kernel), NZ_glue hNZ vs_we3_2 hp sn (by decide +kernel), hGI, ?_, ?_, ?_, ?_, ?_, ?_, ?_, ?_, ?_, ?_⟩ ⟨(STP0_call (STY_call vs_we3_2 hp O) (sd 0 rfl) (RM_call vs_we3_2 O)), unt1_of (x := 10) (by decide +kernel) (fun p hp => funext (sa p hp))⟩ (EQD_glue sf sa sd sn (by decide +kernel)) (show (0 : Int) = 1 by first | assumption | omega | rfl)
    · intro e he h1 h2
      cases he
    · exact INV0_eq (EQD_glue sf sa sd sn (by decide +kernel)) hI0
    · exact fun h => INV1_eq (EQD_glue sf sa sd sn (by decide +kernel)) (hI1 h)
    · exact fun h => INV2_eq (EQD_glue sf sa sd sn (by decide +kernel)) (hI2 h)
    · exact fun h => INV3_eq (EQD_glue sf sa sd sn (by decide +kernel)) (hI3 h)
    · exact fun h => INV4_eq (EQD_glue sf sa sd sn (by decide +kernel)) (hI4 h)
    · exact fun h => INV5_eq (EQD_glue sf sa sd sn (by decide +kernel)) (hI5 h)
    · exact fun h => INV6_eq (EQD_glue sf sa sd sn (by decide +kernel)) (hI6 h)
    · exact fun h => INV7_eq (EQD_glue sf sa sd sn (by decide +kernel)) (hI7 h)
    · exact fun h => INV8_eq (EQD_glue sf sa sd sn (by decide +kernel)) (hI8 h)
    · exact fun h => INV9_eq (EQD_glue sf sa sd sn (by decide +kernel)) (hI9 h)
def ι_we3_3 : List Nat := [0, 8, 25, 26, 27, 28, 9, 32, 10]
theorem vs_we3_3 : VS VPH V17_vE3 ι_we3_3 := VS_of (by decide +kernel)
set_option maxRecDepth 20000 in
theorem T_we3_3 {Dc : DcS} {g : Nat → Bool} {σ : rS} {D N : Nat → Nat} {F : hF} {A : hA} {d c s : Nat} {Q : wQ} (X : PHI Dc g σ D N F A)  {x1 y0 : Int} {ls : rO} (hl0 : rlook ls 0 = some (.ref (D 0))) (hl1 : rlook ls 1 = some (I x1)) (hl3 : rlook ls 3 = some (I (3))) (hl4 : rlook ls 4 = some (.ref (D 8))) (h0 : inr x1) (h1 : inr y0) (x_0 : (F 8 1) ≤ 16384) (hc337 : ∀ (ls : rO) (σₚ : rS) (Dₚ Nₚ : Nat → Nat) (Fₚ : hF) (Aₚ : hA) (cₚ sₚ : Nat), PHI Dc g σₚ Dₚ Nₚ Fₚ Aₚ → STP g σ D N A c s g σₚ Dₚ Nₚ Aₚ cₚ sₚ → EQD [(2, 1), (4, 1), (6, 1), (8, 1), (11, 1), (0, 18), (25, 1)] [3, 5, 7, 9, 12, 10, 29, 30, 26] [] [] D N F A Dₚ Nₚ Fₚ Aₚ → rlook ls 0 = some (.ref (Dₚ 0)) → rlook ls 1 = some (I (x1)) → (HID (STR (y0) ((F 8 1)) (sc ((A 28)) 0 ((F 27 1))) (sc ((A 9)) 0 ((F 8 1))) (((A 32)) 0) (((Aₚ 32)) 0))) → (HID (((Aₚ 32)) 1 = w32 (((A 32)) 1 + (if BNA ((A 10)) 3 ((F 8 1)) < (F 25 1) then 1 else 0)))) → Ew 17 (d + 3) 337 ls [] σₚ cₚ sₚ Q) (k : ∀ (z : Int) (σₚ : rS) (Dₚ Nₚ : Nat → Nat) (Fₚ : hF) (Aₚ : hA) (cₚ sₚ : Nat), PHI Dc g σₚ Dₚ Nₚ Fₚ Aₚ → STP g σ D N A c s g σₚ Dₚ Nₚ Aₚ cₚ sₚ → EQD [(2, 1), (4, 1), (6, 1), (8, 1), (11, 1), (0, 18), (25, 1)] [3, 5, 7, 9, 12, 10, 29, 30, 26] [] [] D N F A Dₚ Nₚ Fₚ Aₚ → ((0 : Int) = 1) → Q (some (I z)) σₚ cₚ sₚ) : Ew 17 (d + 3) 239 ls [I y0] σ c s Q := by
  obtain ⟨HX, HT, hg0, hPF, hAB, hNZ, hGI, hI0, hI1, hI2, hI3, hI4, hI5, hI6, hI7, hI8, hI9⟩ := X
  have hset := SETI_f hI0.2.2.2.2.2.2.2.2.2.2.2.2.2.2.2.2.2.2.2.2.2.2.2.2
  have hJ0 := hI0
  unfold INV0 at hJ0
  obtain ⟨f0_0, f0_1, f0_2, f0_3, f0_4, f0_5, f0_6, f0_7, f0_8, f0_9, f0_10, f0_11, f0_12, f0_13, f0_14, f0_15, f0_16, f0_17, f0_18, f0_19, f0_20, f0_21, f0_22, f0_23, f0_24⟩ := hJ0
  have hp : ∀ x, x < (V17_vE3).length → SPH g (ι_we3_3.getD x 0) = true := SPH_of (gs := [0]) (by intro j hj; simp at hj; subst hj; exact hg0) rfl (by decide +kernel)
  refine C17_vE3 (D := pul ι_we3_3 D) (N := pul ι_we3_3 N) (F := pul ι_we3_3 F) (A := pul ι_we3_3 A) (HWs_sub HX vs_we3_3 hp) (show F 0 5 = (D 25 : Int) from hPF (0, 0, 5, 25) (List.mem_of_getElem? (i := 24) rfl) hg0 hg0) (show F 25 0 = (D 26 : Int) from hPF (0, 25, 0, 26) (List.mem_of_getElem? (i := 25) rfl) hg0 hg0) (show F 0 6 = (D 27 : Int) from hPF (0, 0, 6, 27) (List.mem_of_getElem? (i := 26) rfl) hg0 hg0) (show F 27 0 = (D 28 : Int) from hPF (0, 27, 0, 28) (List.mem_of_getElem? (i := 27) rfl) hg0 hg0) (show F 8 0 = (D 9 : Int) from hPF (0, 8, 0, 9) (List.mem_of_getElem? (i := 8) rfl) hg0 hg0) (show F 0 16 = (D 32 : Int) from hPF (0, 0, 16, 32) (List.mem_of_getElem? (i := 31) rfl) hg0 hg0) (show F 0 1 = (D 10 : Int) from hPF (0, 0, 1, 10) (List.mem_of_getElem? (i := 9) rfl) hg0 hg0) (N 26 : Int) rfl (N 28 : Int) rfl (N 9 : Int) rfl (N 32 : Int) rfl (N 10 : Int) rfl (F 8 1) rfl (F 25 1) rfl (F 27 1) rfl (A 10) rfl  hl0 hl1 hl3 hl4 (show inr (x1) by first | assumption | omega) (show inr y0 by first | assumption | omega) (show 0 ≤ (F 25 1) ∧ (F 25 1) ≤ ((N 26 : Int)) ∧ ((N 26 : Int)) ≤ 65536 by first | assumption | omega) (show 0 ≤ (F 27 1) ∧ (F 27 1) ≤ ((N 28 : Int)) ∧ ((N 28 : Int)) ≤ 65536 by first | assumption | omega) (show 0 ≤ (F 8 1) ∧ (F 8 1) ≤ ((N 9 : Int)) ∧ ((N 9 : Int)) ≤ 65536 by first | assumption | omega) (show (F 8 1) ≤ 16384 by first | assumption | omega) (show ((N 32 : Int)) = 2 by first | assumption | omega) (show 1 ≤ ((A 10)) 2 ∧ ((A 10)) 2 ≤ 65536 by first | assumption | omega) (show 0 ≤ ((A 10)) 8 ∧ ((A 10)) 8 ≤ 11 by first | assumption | omega) (show 0 ≤ ((A 10)) 6 ∧ ((A 10)) 6 ≤ 255 by first | assumption | omega) (show ((N 10 : Int)) = 10 by first | assumption | omega) (fun  ls σ F_c337 A_c337  lc337_0 lc337_1 H O hS_c337 hA_c337    wc337_7 ewc337_7 jc337_0 jc337_1 jc337_2 => ?_) (fun z σₚ Fₚ Aₚ Hₚ O sf sa q0 q1 => ?_)
  · skip
    subst ewc337_7
    have sd : SD [] (pul ι_we3_3 D) (pul ι_we3_3 D) := SD_refl
    have sn : SD [] (pul ι_we3_3 N) (pul ι_we3_3 N) := SD_refl
    have : F_c337 1 1 = F 8 1 := hS_c337 1 1 rfl
    have : F_c337 4 1 = F 27 1 := hS_c337 4 1 rfl
    have : A_c337 6 = A 9 := funext (hA_c337 6 rfl)
    have : A_c337 5 = A 28 := funext (hA_c337 5 rfl)
    have : F_c337 2 1 = F 25 1 := hS_c337 2 1 rfl
    have : A_c337 8 = A 10 := funext (hA_c337 8 rfl)
    refine hc337   _ _ (glu ι_we3_3 D (pul ι_we3_3 D)) (glu ι_we3_3 N (pul ι_we3_3 N)) (glu ι_we3_3 F F_c337) (glu ι_we3_3 A A_c337) _ _ ⟨HWs_call HX VPH_3 vs_we3_3 hp H O, STC_call HT HX vs_we3_3 hp O, hg0, PFI_glue (dl := []) hPF hS_c337 hA_c337 sd (by decide +kernel) (rexc_of (l := []) (by decide +kernel) ?_), ABS_glue hAB hS_c337 (by decide +kernel), NZ_glue hNZ vs_we3_3 hp sn (by decide +kernel), hGI, ?_, ?_, ?_, ?_, ?_, ?_, ?_, ?_, ?_, ?_⟩ ⟨(STP0_call (STY_call vs_we3_3 hp O) (sd 0 rfl) (RM_call vs_we3_3 O)), unt1_of (x := 10) (by decide +kernel) (fun p hp => funext (hA_c337 p hp))⟩ (EQD_glue hS_c337 hA_c337 sd sn (by decide +kernel)) lc337_0 lc337_1 (show HID (STR (y0) ((F 8 1)) (sc ((A 28)) 0 ((F 27 1))) (sc ((A 9)) 0 ((F 8 1))) (((A 32)) 0) (((A_c337 7)) 0)) by first | assumption | omega | rfl) (show HID (((A_c337 7)) 1 = w32 (((A 32)) 1 + (if BNA ((A 10)) 3 ((F 8 1)) < (F 25 1) then 1 else 0))) by first | assumption | omega | rfl)
    · intro e he h1 h2
      cases he
    · exact INV0_eq (EQD_glue hS_c337 hA_c337 sd sn (by decide +kernel)) hI0
    · exact fun h => INV1_eq (EQD_glue hS_c337 hA_c337 sd sn (by decide +kernel)) (hI1 h)
    · exact fun h => INV2_eq (EQD_glue hS_c337 hA_c337 sd sn (by decide +kernel)) (hI2 h)
    · exact fun h => INV3_eq (EQD_glue hS_c337 hA_c337 sd sn (by decide +kernel)) (hI3 h)
    · exact fun h => INV4_eq (EQD_glue hS_c337 hA_c337 sd sn (by decide +kernel)) (hI4 h)
    · exact fun h => INV5_eq (EQD_glue hS_c337 hA_c337 sd sn (by decide +kernel)) (hI5 h)
    · exact fun h => INV6_eq (EQD_glue hS_c337 hA_c337 sd sn (by decide +kernel)) (hI6 h)
    · exact fun h => INV7_eq (EQD_glue hS_c337 hA_c337 sd sn (by decide +kernel)) (hI7 h)
    · exact fun h => INV8_eq (EQD_glue hS_c337 hA_c337 sd sn (by decide +kernel)) (hI8 h)
    · exact fun h => INV9_eq (EQD_glue hS_c337 hA_c337 sd sn (by decide +kernel)) (hI9 h)
  · skip
    have sd : SD [] (pul ι_we3_3 D) (pul ι_we3_3 D) := SD_refl
    have sn : SD [] (pul ι_we3_3 N) (pul ι_we3_3 N) := SD_refl
    refine k z _ (glu ι_we3_3 D (pul ι_we3_3 D)) (glu ι_we3_3 N (pul ι_we3_3 N)) (glu ι_we3_3 F Fₚ) (glu ι_we3_3 A Aₚ) _ _ ⟨HWs_call HX VPH_3 vs_we3_3 hp Hₚ O, STC_call HT HX vs_we3_3 hp O, hg0, PFI_glue (dl := []) hPF sf sa sd (by decide +kernel) (rexc_of (l := []) (by decide +kernel) ?_), ABS_glue hAB sf (by decide +kernel), NZ_glue hNZ vs_we3_3 hp sn (by decide +kernel), hGI, ?_, ?_, ?_, ?_, ?_, ?_, ?_, ?_, ?_, ?_⟩ ⟨(STP0_call (STY_call vs_we3_3 hp O) (sd 0 rfl) (RM_call vs_we3_3 O)), unt1_of (x := 10) (by decide +kernel) (fun p hp => funext (sa p hp))⟩ (EQD_glue sf sa sd sn (by decide +kernel)) (show (0 : Int) = 1 by first | assumption | omega | rfl)
    · intro e he h1 h2
      cases he
    · exact INV0_eq (EQD_glue sf sa sd sn (by decide +kernel)) hI0
    · exact fun h => INV1_eq (EQD_glue sf sa sd sn (by decide +kernel)) (hI1 h)
    · exact fun h => INV2_eq (EQD_glue sf sa sd sn (by decide +kernel)) (hI2 h)
    · exact fun h => INV3_eq (EQD_glue sf sa sd sn (by decide +kernel)) (hI3 h)
    · exact fun h => INV4_eq (EQD_glue sf sa sd sn (by decide +kernel)) (hI4 h)
    · exact fun h => INV5_eq (EQD_glue sf sa sd sn (by decide +kernel)) (hI5 h)
    · exact fun h => INV6_eq (EQD_glue sf sa sd sn (by decide +kernel)) (hI6 h)
    · exact fun h => INV7_eq (EQD_glue sf sa sd sn (by decide +kernel)) (hI7 h)
    · exact fun h => INV8_eq (EQD_glue sf sa sd sn (by decide +kernel)) (hI8 h)
    · exact fun h => INV9_eq (EQD_glue sf sa sd sn (by decide +kernel)) (hI9 h)
def ι_we4_0 : List Nat := [0, 2, 25, 26, 27, 28, 3, 32, 10, 29, 75, 199]
theorem vs_we4_0 : VS VPH V17_vE4 ι_we4_0 := VS_of (by decide +kernel)
set_option maxRecDepth 20000 in
theorem T_we4_0 {Dc : DcS} {g : Nat → Bool} {σ : rS} {D N : Nat → Nat} {F : hF} {A : hA} {d c s : Nat} {Q : wQ} (X : PHI Dc g σ D N F A) (hg5 : g 5 = true) {x1 y0 : Int} {ls : rO} (hl0 : rlook ls 0 = some (.ref (D 0))) (hl1 : rlook ls 1 = some (I x1)) (hl3 : rlook ls 3 = some (I (4))) (hl4 : rlook ls 4 = some (.ref (D 2))) (h0 : inr x1) (h1 : inr y0) (x_0 : (F 2 1) ≤ 16384) (hc337 : ∀ (ls : rO) (σₚ : rS) (Dₚ Nₚ : Nat → Nat) (Fₚ : hF) (Aₚ : hA) (cₚ sₚ : Nat), PHI Dc g σₚ Dₚ Nₚ Fₚ Aₚ → STP g σ D N A c s g σₚ Dₚ Nₚ Aₚ cₚ sₚ → EQD [(2, 1), (4, 1), (6, 1), (8, 1), (11, 1), (0, 18), (25, 1)] [3, 5, 7, 9, 12, 10, 30, 26] [] [] D N F A Dₚ Nₚ Fₚ Aₚ → rlook ls 0 = some (.ref (Dₚ 0)) → rlook ls 1 = some (I (x1)) → (HID (STR (y0) ((F 2 1)) (sc ((A 28)) 0 ((F 27 1))) (sc ((A 3)) 0 ((F 2 1))) (((A 32)) 0) (((Aₚ 32)) 0))) → (HID (((Aₚ 32)) 1 = w32 (((A 32)) 1 + (if BNA ((A 10)) 4 ((F 2 1)) < (F 25 1) then 1 else 0)))) → (∀ i, 0 ≤ i → i < 0 + ((Nₚ 29 : Int)) → ((Aₚ 29)) i = ((A 199)) (0 + (i - 0))) → Ew 17 (d + 3) 337 ls [] σₚ cₚ sₚ Q) (k : ∀ (z : Int) (σₚ : rS) (Dₚ Nₚ : Nat → Nat) (Fₚ : hF) (Aₚ : hA) (cₚ sₚ : Nat), PHI Dc g σₚ Dₚ Nₚ Fₚ Aₚ → STP g σ D N A c s g σₚ Dₚ Nₚ Aₚ cₚ sₚ → EQD [(2, 1), (4, 1), (6, 1), (8, 1), (11, 1), (0, 18), (25, 1)] [3, 5, 7, 9, 12, 10, 30, 26] [] [] D N F A Dₚ Nₚ Fₚ Aₚ → ((0 : Int) = 1) → Q (some (I z)) σₚ cₚ sₚ) : Ew 17 (d + 3) 239 ls [I y0] σ c s Q := by
  obtain ⟨HX, HT, hg0, hPF, hAB, hNZ, hGI, hI0, hI1, hI2, hI3, hI4, hI5, hI6, hI7, hI8, hI9⟩ := X
  have hset := SETI_f hI0.2.2.2.2.2.2.2.2.2.2.2.2.2.2.2.2.2.2.2.2.2.2.2.2
  have hJ0 := hI0
  unfold INV0 at hJ0
  obtain ⟨f0_0, f0_1, f0_2, f0_3, f0_4, f0_5, f0_6, f0_7, f0_8, f0_9, f0_10, f0_11, f0_12, f0_13, f0_14, f0_15, f0_16, f0_17, f0_18, f0_19, f0_20, f0_21, f0_22, f0_23, f0_24⟩ := hJ0
  have hJ5 := hI5 hg5
  unfold INV5 at hJ5
  obtain ⟨f5_0, f5_1, f5_2, f5_3, f5_4, f5_5, f5_6, f5_7, f5_8, f5_9, f5_10, f5_11, f5_12, f5_13, f5_14, f5_15, f5_16, f5_17, f5_18, f5_19, f5_20, f5_21⟩ := hJ5
  have hp : ∀ x, x < (V17_vE4).length → SPH g (ι_we4_0.getD x 0) = true := SPH_of (gs := [0, 5]) (by intro j hj; simp at hj; rcases hj with rfl | rfl <;> assumption) rfl (by decide +kernel)
  refine C17_vE4 (D := pul ι_we4_0 D) (N := pul ι_we4_0 N) (F := pul ι_we4_0 F) (A := pul ι_we4_0 A) (HWs_sub HX vs_we4_0 hp) (show F 0 5 = (D 25 : Int) from hPF (0, 0, 5, 25) (List.mem_of_getElem? (i := 24) rfl) hg0 hg0) (show F 25 0 = (D 26 : Int) from hPF (0, 25, 0, 26) (List.mem_of_getElem? (i := 25) rfl) hg0 hg0) (show F 0 6 = (D 27 : Int) from hPF (0, 0, 6, 27) (List.mem_of_getElem? (i := 26) rfl) hg0 hg0) (show F 27 0 = (D 28 : Int) from hPF (0, 27, 0, 28) (List.mem_of_getElem? (i := 27) rfl) hg0 hg0) (show F 2 0 = (D 3 : Int) from hPF (0, 2, 0, 3) (List.mem_of_getElem? (i := 2) rfl) hg0 hg0) (show F 0 16 = (D 32 : Int) from hPF (0, 0, 16, 32) (List.mem_of_getElem? (i := 31) rfl) hg0 hg0) (show F 0 1 = (D 10 : Int) from hPF (0, 0, 1, 10) (List.mem_of_getElem? (i := 9) rfl) hg0 hg0) (show F 0 13 = (D 29 : Int) from hPF (0, 0, 13, 29) (List.mem_of_getElem? (i := 28) rfl) hg0 hg0) (show F 0 11 = (D 75 : Int) from hPF (0, 0, 11, 75) (List.mem_of_getElem? (i := 74) rfl) hg0 hg5) (show F 75 18 = (D 199 : Int) from hPF (0, 75, 18, 199) (List.mem_of_getElem? (i := 198) rfl) hg5 hg5) (N 26 : Int) rfl (N 28 : Int) rfl (N 3 : Int) rfl (N 32 : Int) rfl (N 10 : Int) rfl (N 29 : Int) rfl (N 199 : Int) rfl (F 2 1) rfl (F 25 1) rfl (F 27 1) rfl (A 10) rfl  hl0 hl1 hl3 hl4 (show inr (x1) by first | assumption | omega) (show inr y0 by first | assumption | omega) (show 0 ≤ (F 25 1) ∧ (F 25 1) ≤ ((N 26 : Int)) ∧ ((N 26 : Int)) ≤ 65536 by first | assumption | omega) (show 0 ≤ (F 27 1) ∧ (F 27 1) ≤ ((N 28 : Int)) ∧ ((N 28 : Int)) ≤ 65536 by first | assumption | omega) (show 0 ≤ (F 2 1) ∧ (F 2 1) ≤ ((N 3 : Int)) ∧ ((N 3 : Int)) ≤ 65536 by first | assumption | omega) (show (F 2 1) ≤ 16384 by first | assumption | omega) (show ((N 32 : Int)) = 2 by first | assumption | omega) (show 1 ≤ ((A 10)) 2 ∧ ((A 10)) 2 ≤ 65536 by first | assumption | omega) (show 0 ≤ ((A 10)) 8 ∧ ((A 10)) 8 ≤ 11 by first | assumption | omega) (show 0 ≤ ((A 10)) 6 ∧ ((A 10)) 6 ≤ 255 by first | assumption | omega) (show ((N 10 : Int)) = 10 by first | assumption | omega) (show ((N 29 : Int)) = 13 by first | assumption | omega) (show ((N 199 : Int)) = 13 by first | assumption | omega) (fun  ls σ F_c337 A_c337  lc337_0 lc337_1 H O hS_c337 hA_c337    wc337_7 ewc337_7 wc337_9 ewc337_9 jc337_0 jc337_1 jc337_2 jc337_3 => ?_) (fun z σₚ Fₚ Aₚ Hₚ O sf sa q0 q1 => ?_)
  · skip
    subst ewc337_7 ewc337_9
    have sd : SD [] (pul ι_we4_0 D) (pul ι_we4_0 D) := SD_refl
    have sn : SD [] (pul ι_we4_0 N) (pul ι_we4_0 N) := SD_refl
    have : F_c337 1 1 = F 2 1 := hS_c337 1 1 rfl
    have : F_c337 4 1 = F 27 1 := hS_c337 4 1 rfl
    have : A_c337 6 = A 3 := funext (hA_c337 6 rfl)
    have : A_c337 5 = A 28 := funext (hA_c337 5 rfl)
    have : F_c337 2 1 = F 25 1 := hS_c337 2 1 rfl
    have : A_c337 8 = A 10 := funext (hA_c337 8 rfl)
    have : A_c337 11 = A 199 := funext (hA_c337 11 rfl)
    refine hc337   _ _ (glu ι_we4_0 D (pul ι_we4_0 D)) (glu ι_we4_0 N (pul ι_we4_0 N)) (glu ι_we4_0 F F_c337) (glu ι_we4_0 A A_c337) _ _ ⟨HWs_call HX VPH_3 vs_we4_0 hp H O, STC_call HT HX vs_we4_0 hp O, hg0, PFI_glue (dl := []) hPF hS_c337 hA_c337 sd (by decide +kernel) (rexc_of (l := []) (by decide +kernel) ?_), ABS_glue hAB hS_c337 (by decide +kernel), NZ_glue hNZ vs_we4_0 hp sn (by decide +kernel), hGI, ?_, ?_, ?_, ?_, ?_, ?_, ?_, ?_, ?_, ?_⟩ ⟨(STP0_call (STY_call vs_we4_0 hp O) (sd 0 rfl) (RM_call vs_we4_0 O)), unt1_of (x := 10) (by decide +kernel) (fun p hp => funext (hA_c337 p hp))⟩ (EQD_glue hS_c337 hA_c337 sd sn (by decide +kernel)) lc337_0 lc337_1 (show HID (STR (y0) ((F 2 1)) (sc ((A 28)) 0 ((F 27 1))) (sc ((A 3)) 0 ((F 2 1))) (((A 32)) 0) (((A_c337 7)) 0)) by first | assumption | omega | rfl) (show HID (((A_c337 7)) 1 = w32 (((A 32)) 1 + (if BNA ((A 10)) 4 ((F 2 1)) < (F 25 1) then 1 else 0))) by first | assumption | omega | rfl) (show ∀ i, 0 ≤ i → i < 0 + ((N 29 : Int)) → ((A_c337 9)) i = ((A 199)) (0 + (i - 0)) by first | assumption | omega | rfl)
    · intro e he h1 h2
      cases he
    · exact INV0_eq (EQD_glue hS_c337 hA_c337 sd sn (by decide +kernel)) hI0
    · exact fun h => INV1_eq (EQD_glue hS_c337 hA_c337 sd sn (by decide +kernel)) (hI1 h)
    · exact fun h => INV2_eq (EQD_glue hS_c337 hA_c337 sd sn (by decide +kernel)) (hI2 h)
    · exact fun h => INV3_eq (EQD_glue hS_c337 hA_c337 sd sn (by decide +kernel)) (hI3 h)
    · exact fun h => INV4_eq (EQD_glue hS_c337 hA_c337 sd sn (by decide +kernel)) (hI4 h)
    · exact fun h => INV5_eq (EQD_glue hS_c337 hA_c337 sd sn (by decide +kernel)) (hI5 h)
    · exact fun h => INV6_eq (EQD_glue hS_c337 hA_c337 sd sn (by decide +kernel)) (hI6 h)
    · exact fun h => INV7_eq (EQD_glue hS_c337 hA_c337 sd sn (by decide +kernel)) (hI7 h)
    · exact fun h => INV8_eq (EQD_glue hS_c337 hA_c337 sd sn (by decide +kernel)) (hI8 h)
    · exact fun h => INV9_eq (EQD_glue hS_c337 hA_c337 sd sn (by decide +kernel)) (hI9 h)
  · skip
    have sd : SD [] (pul ι_we4_0 D) (pul ι_we4_0 D) := SD_refl
    have sn : SD [] (pul ι_we4_0 N) (pul ι_we4_0 N) := SD_refl
    refine k z _ (glu ι_we4_0 D (pul ι_we4_0 D)) (glu ι_we4_0 N (pul ι_we4_0 N)) (glu ι_we4_0 F Fₚ) (glu ι_we4_0 A Aₚ) _ _ ⟨HWs_call HX VPH_3 vs_we4_0 hp Hₚ O, STC_call HT HX vs_we4_0 hp O, hg0, PFI_glue (dl := []) hPF sf sa sd (by decide +kernel) (rexc_of (l := []) (by decide +kernel) ?_), ABS_glue hAB sf (by decide +kernel), NZ_glue hNZ vs_we4_0 hp sn (by decide +kernel), hGI, ?_, ?_, ?_, ?_, ?_, ?_, ?_, ?_, ?_, ?_⟩ ⟨(STP0_call (STY_call vs_we4_0 hp O) (sd 0 rfl) (RM_call vs_we4_0 O)), unt1_of (x := 10) (by decide +kernel) (fun p hp => funext (sa p hp))⟩ (EQD_glue sf sa sd sn (by decide +kernel)) (show (0 : Int) = 1 by first | assumption | omega | rfl)
    · intro e he h1 h2
      cases he
    · exact INV0_eq (EQD_glue sf sa sd sn (by decide +kernel)) hI0
    · exact fun h => INV1_eq (EQD_glue sf sa sd sn (by decide +kernel)) (hI1 h)
    · exact fun h => INV2_eq (EQD_glue sf sa sd sn (by decide +kernel)) (hI2 h)
    · exact fun h => INV3_eq (EQD_glue sf sa sd sn (by decide +kernel)) (hI3 h)
    · exact fun h => INV4_eq (EQD_glue sf sa sd sn (by decide +kernel)) (hI4 h)
    · exact fun h => INV5_eq (EQD_glue sf sa sd sn (by decide +kernel)) (hI5 h)
    · exact fun h => INV6_eq (EQD_glue sf sa sd sn (by decide +kernel)) (hI6 h)
    · exact fun h => INV7_eq (EQD_glue sf sa sd sn (by decide +kernel)) (hI7 h)
    · exact fun h => INV8_eq (EQD_glue sf sa sd sn (by decide +kernel)) (hI8 h)
    · exact fun h => INV9_eq (EQD_glue sf sa sd sn (by decide +kernel)) (hI9 h)
def ι_we4_1 : List Nat := [0, 4, 25, 26, 27, 28, 5, 32, 10, 29, 75, 199]
theorem vs_we4_1 : VS VPH V17_vE4 ι_we4_1 := VS_of (by decide +kernel)
set_option maxRecDepth 20000 in
theorem T_we4_1 {Dc : DcS} {g : Nat → Bool} {σ : rS} {D N : Nat → Nat} {F : hF} {A : hA} {d c s : Nat} {Q : wQ} (X : PHI Dc g σ D N F A) (hg5 : g 5 = true) {x1 y0 : Int} {ls : rO} (hl0 : rlook ls 0 = some (.ref (D 0))) (hl1 : rlook ls 1 = some (I x1)) (hl3 : rlook ls 3 = some (I (4))) (hl4 : rlook ls 4 = some (.ref (D 4))) (h0 : inr x1) (h1 : inr y0) (x_0 : (F 4 1) ≤ 16384) (hc337 : ∀ (ls : rO) (σₚ : rS) (Dₚ Nₚ : Nat → Nat) (Fₚ : hF) (Aₚ : hA) (cₚ sₚ : Nat), PHI Dc g σₚ Dₚ Nₚ Fₚ Aₚ → STP g σ D N A c s g σₚ Dₚ Nₚ Aₚ cₚ sₚ → EQD [(2, 1), (4, 1), (6, 1), (8, 1), (11, 1), (0, 18), (25, 1)] [3, 5, 7, 9, 12, 10, 30, 26] [] [] D N F A Dₚ Nₚ Fₚ Aₚ → rlook ls 0 = some (.ref (Dₚ 0)) → rlook ls 1 = some (I (x1)) → (HID (STR (y0) ((F 4 1)) (sc ((A 28)) 0 ((F 27 1))) (sc ((A 5)) 0 ((F 4 1))) (((A 32)) 0) (((Aₚ 32)) 0))) → (HID (((Aₚ 32)) 1 = w32 (((A 32)) 1 + (if BNA ((A 10)) 4 ((F 4 1)) < (F 25 1) then 1 else 0)))) → (∀ i, 0 ≤ i → i < 0 + ((Nₚ 29 : Int)) → ((Aₚ 29)) i = ((A 199)) (0 + (i - 0))) → Ew 17 (d + 3) 337 ls [] σₚ cₚ sₚ Q) (k : ∀ (z : Int) (σₚ : rS) (Dₚ Nₚ : Nat → Nat) (Fₚ : hF) (Aₚ : hA) (cₚ sₚ : Nat), PHI Dc g σₚ Dₚ Nₚ Fₚ Aₚ → STP g σ D N A c s g σₚ Dₚ Nₚ Aₚ cₚ sₚ → EQD [(2, 1), (4, 1), (6, 1), (8, 1), (11, 1), (0, 18), (25, 1)] [3, 5, 7, 9, 12, 10, 30, 26] [] [] D N F A Dₚ Nₚ Fₚ Aₚ → ((0 : Int) = 1) → Q (some (I z)) σₚ cₚ sₚ) : Ew 17 (d + 3) 239 ls [I y0] σ c s Q := by
  obtain ⟨HX, HT, hg0, hPF, hAB, hNZ, hGI, hI0, hI1, hI2, hI3, hI4, hI5, hI6, hI7, hI8, hI9⟩ := X
  have hset := SETI_f hI0.2.2.2.2.2.2.2.2.2.2.2.2.2.2.2.2.2.2.2.2.2.2.2.2
  have hJ0 := hI0
  unfold INV0 at hJ0
  obtain ⟨f0_0, f0_1, f0_2, f0_3, f0_4, f0_5, f0_6, f0_7, f0_8, f0_9, f0_10, f0_11, f0_12, f0_13, f0_14, f0_15, f0_16, f0_17, f0_18, f0_19, f0_20, f0_21, f0_22, f0_23, f0_24⟩ := hJ0
  have hJ5 := hI5 hg5
  unfold INV5 at hJ5
  obtain ⟨f5_0, f5_1, f5_2, f5_3, f5_4, f5_5, f5_6, f5_7, f5_8, f5_9, f5_10, f5_11, f5_12, f5_13, f5_14, f5_15, f5_16, f5_17, f5_18, f5_19, f5_20, f5_21⟩ := hJ5
  have hp : ∀ x, x < (V17_vE4).length → SPH g (ι_we4_1.getD x 0) = true := SPH_of (gs := [0, 5]) (by intro j hj; simp at hj; rcases hj with rfl | rfl <;> assumption) rfl (by decide +kernel)
  refine C17_vE4 (D := pul ι_we4_1 D) (N := pul ι_we4_1 N) (F := pul ι_we4_1 F) (A := pul ι_we4_1 A) (HWs_sub HX vs_we4_1 hp) (show F 0 5 = (D 25 : Int) from hPF (0, 0, 5, 25) (List.mem_of_getElem? (i := 24) rfl) hg0 hg0) (show F 25 0 = (D 26 : Int) from hPF (0, 25, 0, 26) (List.mem_of_getElem? (i := 25) rfl) hg0 hg0) (show F 0 6 = (D 27 : Int) from hPF (0, 0, 6, 27) (List.mem_of_getElem? (i := 26) rfl) hg0 hg0) (show F 27 0 = (D 28 : Int) from hPF (0, 27, 0, 28) (List.mem_of_getElem? (i := 27) rfl) hg0 hg0) (show F 4 0 = (D 5 : Int) from hPF (0, 4, 0, 5) (List.mem_of_getElem? (i := 4) rfl) hg0 hg0) (show F 0 16 = (D 32 : Int) from hPF (0, 0, 16, 32) (List.mem_of_getElem? (i := 31) rfl) hg0 hg0) (show F 0 1 = (D 10 : Int) from hPF (0, 0, 1, 10) (List.mem_of_getElem? (i := 9) rfl) hg0 hg0) (show F 0 13 = (D 29 : Int) from hPF (0, 0, 13, 29) (List.mem_of_getElem? (i := 28) rfl) hg0 hg0) (show F 0 11 = (D 75 : Int) from hPF (0, 0, 11, 75) (List.mem_of_getElem? (i := 74) rfl) hg0 hg5) (show F 75 18 = (D 199 : Int) from hPF (0, 75, 18, 199) (List.mem_of_getElem? (i := 198) rfl) hg5 hg5) (N 26 : Int) rfl (N 28 : Int) rfl (N 5 : Int) rfl (N 32 : Int) rfl (N 10 : Int) rfl (N 29 : Int) rfl (N 199 : Int) rfl (F 4 1) rfl (F 25 1) rfl (F 27 1) rfl (A 10) rfl  hl0 hl1 hl3 hl4 (show inr (x1) by first | assumption | omega) (show inr y0 by first | assumption | omega) (show 0 ≤ (F 25 1) ∧ (F 25 1) ≤ ((N 26 : Int)) ∧ ((N 26 : Int)) ≤ 65536 by first | assumption | omega) (show 0 ≤ (F 27 1) ∧ (F 27 1) ≤ ((N 28 : Int)) ∧ ((N 28 : Int)) ≤ 65536 by first | assumption | omega) (show 0 ≤ (F 4 1) ∧ (F 4 1) ≤ ((N 5 : Int)) ∧ ((N 5 : Int)) ≤ 65536 by first | assumption | omega) (show (F 4 1) ≤ 16384 by first | assumption | omega) (show ((N 32 : Int)) = 2 by first | assumption | omega) (show 1 ≤ ((A 10)) 2 ∧ ((A 10)) 2 ≤ 65536 by first | assumption | omega) (show 0 ≤ ((A 10)) 8 ∧ ((A 10)) 8 ≤ 11 by first | assumption | omega) (show 0 ≤ ((A 10)) 6 ∧ ((A 10)) 6 ≤ 255 by first | assumption | omega) (show ((N 10 : Int)) = 10 by first | assumption | omega) (show ((N 29 : Int)) = 13 by first | assumption | omega) (show ((N 199 : Int)) = 13 by first | assumption | omega) (fun  ls σ F_c337 A_c337  lc337_0 lc337_1 H O hS_c337 hA_c337    wc337_7 ewc337_7 wc337_9 ewc337_9 jc337_0 jc337_1 jc337_2 jc337_3 => ?_) (fun z σₚ Fₚ Aₚ Hₚ O sf sa q0 q1 => ?_)
  · skip
    subst ewc337_7 ewc337_9
    have sd : SD [] (pul ι_we4_1 D) (pul ι_we4_1 D) := SD_refl
    have sn : SD [] (pul ι_we4_1 N) (pul ι_we4_1 N) := SD_refl
    have : F_c337 1 1 = F 4 1 := hS_c337 1 1 rfl
    have : F_c337 4 1 = F 27 1 := hS_c337 4 1 rfl
    have : A_c337 6 = A 5 := funext (hA_c337 6 rfl)
    have : A_c337 5 = A 28 := funext (hA_c337 5 rfl)
    have : F_c337 2 1 = F 25 1 := hS_c337 2 1 rfl
    have : A_c337 8 = A 10 := funext (hA_c337 8 rfl)
    have : A_c337 11 = A 199 := funext (hA_c337 11 rfl)
    refine hc337   _ _ (glu ι_we4_1 D (pul ι_we4_1 D)) (glu ι_we4_1 N (pul ι_we4_1 N)) (glu ι_we4_1 F F_c337) (glu ι_we4_1 A A_c337) _ _ ⟨HWs_call HX VPH_3 vs_we4_1 hp H O, STC_call HT HX vs_we4_1 hp O, hg0, PFI_glue (dl := []) hPF hS_c337 hA_c337 sd (by decide +kernel) (rexc_of (l := []) (by decide +kernel) ?_), ABS_glue hAB hS_c337 (by decide +kernel), NZ_glue hNZ vs_we4_1 hp sn (by decide +kernel), hGI, ?_, ?_, ?_, ?_, ?_, ?_, ?_, ?_, ?_, ?_⟩ ⟨(STP0_call (STY_call vs_we4_1 hp O) (sd 0 rfl) (RM_call vs_we4_1 O)), unt1_of (x := 10) (by decide +kernel) (fun p hp => funext (hA_c337 p hp))⟩ (EQD_glue hS_c337 hA_c337 sd sn (by decide +kernel)) lc337_0 lc337_1 (show HID (STR (y0) ((F 4 1)) (sc ((A 28)) 0 ((F 27 1))) (sc ((A 5)) 0 ((F 4 1))) (((A 32)) 0) (((A_c337 7)) 0)) by first | assumption | omega | rfl) (show HID (((A_c337 7)) 1 = w32 (((A 32)) 1 + (if BNA ((A 10)) 4 ((F 4 1)) < (F 25 1) then 1 else 0))) by first | assumption | omega | rfl) (show ∀ i, 0 ≤ i → i < 0 + ((N 29 : Int)) → ((A_c337 9)) i = ((A 199)) (0 + (i - 0)) by first | assumption | omega | rfl)
    · intro e he h1 h2
      cases he
    · exact INV0_eq (EQD_glue hS_c337 hA_c337 sd sn (by decide +kernel)) hI0
    · exact fun h => INV1_eq (EQD_glue hS_c337 hA_c337 sd sn (by decide +kernel)) (hI1 h)
    · exact fun h => INV2_eq (EQD_glue hS_c337 hA_c337 sd sn (by decide +kernel)) (hI2 h)
    · exact fun h => INV3_eq (EQD_glue hS_c337 hA_c337 sd sn (by decide +kernel)) (hI3 h)
    · exact fun h => INV4_eq (EQD_glue hS_c337 hA_c337 sd sn (by decide +kernel)) (hI4 h)
    · exact fun h => INV5_eq (EQD_glue hS_c337 hA_c337 sd sn (by decide +kernel)) (hI5 h)
    · exact fun h => INV6_eq (EQD_glue hS_c337 hA_c337 sd sn (by decide +kernel)) (hI6 h)
    · exact fun h => INV7_eq (EQD_glue hS_c337 hA_c337 sd sn (by decide +kernel)) (hI7 h)
    · exact fun h => INV8_eq (EQD_glue hS_c337 hA_c337 sd sn (by decide +kernel)) (hI8 h)
    · exact fun h => INV9_eq (EQD_glue hS_c337 hA_c337 sd sn (by decide +kernel)) (hI9 h)
  · skip
    have sd : SD [] (pul ι_we4_1 D) (pul ι_we4_1 D) := SD_refl
    have sn : SD [] (pul ι_we4_1 N) (pul ι_we4_1 N) := SD_refl
    refine k z _ (glu ι_we4_1 D (pul ι_we4_1 D)) (glu ι_we4_1 N (pul ι_we4_1 N)) (glu ι_we4_1 F Fₚ) (glu ι_we4_1 A Aₚ) _ _ ⟨HWs_call HX VPH_3 vs_we4_1 hp Hₚ O, STC_call HT HX vs_we4_1 hp O, hg0, PFI_glue (dl := []) hPF sf sa sd (by decide +kernel) (rexc_of (l := []) (by decide +kernel) ?_), ABS_glue hAB sf (by decide +kernel), NZ_glue hNZ vs_we4_1 hp sn (by decide +kernel), hGI, ?_, ?_, ?_, ?_, ?_, ?_, ?_, ?_, ?_, ?_⟩ ⟨(STP0_call (STY_call vs_we4_1 hp O) (sd 0 rfl) (RM_call vs_we4_1 O)), unt1_of (x := 10) (by decide +kernel) (fun p hp => funext (sa p hp))⟩ (EQD_glue sf sa sd sn (by decide +kernel)) (show (0 : Int) = 1 by first | assumption | omega | rfl)
    · intro e he h1 h2
      cases he
    · exact INV0_eq (EQD_glue sf sa sd sn (by decide +kernel)) hI0
    · exact fun h => INV1_eq (EQD_glue sf sa sd sn (by decide +kernel)) (hI1 h)
    · exact fun h => INV2_eq (EQD_glue sf sa sd sn (by decide +kernel)) (hI2 h)
    · exact fun h => INV3_eq (EQD_glue sf sa sd sn (by decide +kernel)) (hI3 h)
    · exact fun h => INV4_eq (EQD_glue sf sa sd sn (by decide +kernel)) (hI4 h)
    · exact fun h => INV5_eq (EQD_glue sf sa sd sn (by decide +kernel)) (hI5 h)
    · exact fun h => INV6_eq (EQD_glue sf sa sd sn (by decide +kernel)) (hI6 h)
    · exact fun h => INV7_eq (EQD_glue sf sa sd sn (by decide +kernel)) (hI7 h)
    · exact fun h => INV8_eq (EQD_glue sf sa sd sn (by decide +kernel)) (hI8 h)
    · exact fun h => INV9_eq (EQD_glue sf sa sd sn (by decide +kernel)) (hI9 h)
def ι_we4_2 : List Nat := [0, 6, 25, 26, 27, 28, 7, 32, 10, 29, 75, 199]
theorem vs_we4_2 : VS VPH V17_vE4 ι_we4_2 := VS_of (by decide +kernel)
set_option maxRecDepth 20000 in
theorem T_we4_2 {Dc : DcS} {g : Nat → Bool} {σ : rS} {D N : Nat → Nat} {F : hF} {A : hA} {d c s : Nat} {Q : wQ} (X : PHI Dc g σ D N F A) (hg5 : g 5 = true) {x1 y0 : Int} {ls : rO} (hl0 : rlook ls 0 = some (.ref (D 0))) (hl1 : rlook ls 1 = some (I x1)) (hl3 : rlook ls 3 = some (I (4))) (hl4 : rlook ls 4 = some (.ref (D 6))) (h0 : inr x1) (h1 : inr y0) (x_0 : (F 6 1) ≤ 16384) (hc337 : ∀ (ls : rO) (σₚ : rS) (Dₚ Nₚ : Nat → Nat) (Fₚ : hF) (Aₚ : hA) (cₚ sₚ : Nat), PHI Dc g σₚ Dₚ Nₚ Fₚ Aₚ → STP g σ D N A c s g σₚ Dₚ Nₚ Aₚ cₚ sₚ → EQD [(2, 1), (4, 1), (6, 1), (8, 1), (11, 1), (0, 18), (25, 1)] [3, 5, 7, 9, 12, 10, 30, 26] [] [] D N F A Dₚ Nₚ Fₚ Aₚ → rlook ls 0 = some (.ref (Dₚ 0)) → rlook ls 1 = some (I (x1)) → (HID (STR (y0) ((F 6 1)) (sc ((A 28)) 0 ((F 27 1))) (sc ((A 7)) 0 ((F 6 1))) (((A 32)) 0) (((Aₚ 32)) 0))) → (HID (((Aₚ 32)) 1 = w32 (((A 32)) 1 + (if BNA ((A 10)) 4 ((F 6 1)) < (F 25 1) then 1 else 0)))) → (∀ i, 0 ≤ i → i < 0 + ((Nₚ 29 : Int)) → ((Aₚ 29)) i = ((A 199)) (0 + (i - 0))) → Ew 17 (d + 3) 337 ls [] σₚ cₚ sₚ Q) (k : ∀ (z : Int) (σₚ : rS) (Dₚ Nₚ : Nat → Nat) (Fₚ : hF) (Aₚ : hA) (cₚ sₚ : Nat), PHI Dc g σₚ Dₚ Nₚ Fₚ Aₚ → STP g σ D N A c s g σₚ Dₚ Nₚ Aₚ cₚ sₚ → EQD [(2, 1), (4, 1), (6, 1), (8, 1), (11, 1), (0, 18), (25, 1)] [3, 5, 7, 9, 12, 10, 30, 26] [] [] D N F A Dₚ Nₚ Fₚ Aₚ → ((0 : Int) = 1) → Q (some (I z)) σₚ cₚ sₚ) : Ew 17 (d + 3) 239 ls [I y0] σ c s Q := by
  obtain ⟨HX, HT, hg0, hPF, hAB, hNZ, hGI, hI0, hI1, hI2, hI3, hI4, hI5, hI6, hI7, hI8, hI9⟩ := X
  have hset := SETI_f hI0.2.2.2.2.2.2.2.2.2.2.2.2.2.2.2.2.2.2.2.2.2.2.2.2
  have hJ0 := hI0
  unfold INV0 at hJ0
  obtain ⟨f0_0, f0_1, f0_2, f0_3, f0_4, f0_5, f0_6, f0_7, f0_8, f0_9, f0_10, f0_11, f0_12, f0_13, f0_14, f0_15, f0_16, f0_17, f0_18, f0_19, f0_20, f0_21, f0_22, f0_23, f0_24⟩ := hJ0
  have hJ5 := hI5 hg5
  unfold INV5 at hJ5
  obtain ⟨f5_0, f5_1, f5_2, f5_3, f5_4, f5_5, f5_6, f5_7, f5_8, f5_9, f5_10, f5_11, f5_12, f5_13, f5_14, f5_15, f5_16, f5_17, f5_18, f5_19, f5_20, f5_21⟩ := hJ5
  have hp : ∀ x, x < (V17_vE4).length → SPH g (ι_we4_2.getD x 0) = true := SPH_of (gs := [0, 5]) (by intro j hj; simp at hj; rcases hj with rfl | rfl <;> assumption) rfl (by decide +kernel)
  refine C17_vE4 (D := pul ι_we4_2 D) (N := pul ι_we4_2 N) (F := pul ι_we4_2 F) (A := pul ι_we4_2 A) (HWs_sub HX vs_we4_2 hp) (show F 0 5 = (D 25 : Int) from hPF (0, 0, 5, 25) (List.mem_of_getElem? (i := 24) rfl) hg0 hg0) (show F 25 0 = (D 26 : Int) from hPF (0, 25, 0, 26) (List.mem_of_getElem? (i := 25) rfl) hg0 hg0) (show F 0 6 = (D 27 : Int) from hPF (0, 0, 6, 27) (List.mem_of_getElem? (i := 26) rfl) hg0 hg0) (show F 27 0 = (D 28 : Int) from hPF (0, 27, 0, 28) (List.mem_of_getElem? (i := 27) rfl) hg0 hg0) (show F 6 0 = (D 7 : Int) from hPF (0, 6, 0, 7) (List.mem_of_getElem? (i := 6) rfl) hg0 hg0) (show F 0 16 = (D 32 : Int) from hPF (0, 0, 16, 32) (List.mem_of_getElem? (i := 31) rfl) hg0 hg0) (show F 0 1 = (D 10 : Int) from hPF (0, 0, 1, 10) (List.mem_of_getElem? (i := 9) rfl) hg0 hg0) (show F 0 13 = (D 29 : Int) from hPF (0, 0, 13, 29) (List.mem_of_getElem? (i := 28) rfl) hg0 hg0) (show F 0 11 = (D 75 : Int) from hPF (0, 0, 11, 75) (List.mem_of_getElem? (i := 74) rfl) hg0 hg5) (show F 75 18 = (D 199 : Int) from hPF (0, 75, 18, 199) (List.mem_of_getElem? (i := 198) rfl) hg5 hg5) (N 26 : Int) rfl (N 28 : Int) rfl (N 7 : Int) rfl (N 32 : Int) rfl (N 10 : Int) rfl (N 29 : Int) rfl (N 199 : Int) rfl (F 6 1) rfl (F 25 1) rfl (F 27 1) rfl (A 10) rfl  hl0 hl1 hl3 hl4 (show inr (x1) by first | assumption | omega) (show inr y0 by first | assumption | omega) (show 0 ≤ (F 25 1) ∧ (F 25 1) ≤ ((N 26 : Int)) ∧ ((N 26 : Int)) ≤ 65536 by first | assumption | omega) (show 0 ≤ (F 27 1) ∧ (F 27 1) ≤ ((N 28 : Int)) ∧ ((N 28 : Int)) ≤ 65536 by first | assumption | omega) (show 0 ≤ (F 6 1) ∧ (F 6 1) ≤ ((N 7 : Int)) ∧ ((N 7 : Int)) ≤ 65536 by first | assumption | omega) (show (F 6 1) ≤ 16384 by first | assumption | omega) (show ((N 32 : Int)) = 2 by first | assumption | omega) (show 1 ≤ ((A 10)) 2 ∧ ((A 10)) 2 ≤ 65536 by first | assumption | omega) (show 0 ≤ ((A 10)) 8 ∧ ((A 10)) 8 ≤ 11 by first | assumption | omega) (show 0 ≤ ((A 10)) 6 ∧ ((A 10)) 6 ≤ 255 by first | assumption | omega) (show ((N 10 : Int)) = 10 by first | assumption | omega) (show ((N 29 : Int)) = 13 by first | assumption | omega) (show ((N 199 : Int)) = 13 by first | assumption | omega) (fun  ls σ F_c337 A_c337  lc337_0 lc337_1 H O hS_c337 hA_c337    wc337_7 ewc337_7 wc337_9 ewc337_9 jc337_0 jc337_1 jc337_2 jc337_3 => ?_) (fun z σₚ Fₚ Aₚ Hₚ O sf sa q0 q1 => ?_)
  · skip
    subst ewc337_7 ewc337_9
    have sd : SD [] (pul ι_we4_2 D) (pul ι_we4_2 D) := SD_refl
    have sn : SD [] (pul ι_we4_2 N) (pul ι_we4_2 N) := SD_refl
    have : F_c337 1 1 = F 6 1 := hS_c337 1 1 rfl
    have : F_c337 4 1 = F 27 1 := hS_c337 4 1 rfl
    have : A_c337 6 = A 7 := funext (hA_c337 6 rfl)
    have : A_c337 5 = A 28 := funext (hA_c337 5 rfl)
    have : F_c337 2 1 = F 25 1 := hS_c337 2 1 rfl
    have : A_c337 8 = A 10 := funext (hA_c337 8 rfl)
    have : A_c337 11 = A 199 := funext (hA_c337 11 rfl)
    refine hc337   _ _ (glu ι_we4_2 D (pul ι_we4_2 D)) (glu ι_we4_2 N (pul ι_we4_2 N)) (glu ι_we4_2 F F_c337) (glu ι_we4_2 A A_c337) _ _ ⟨HWs_call HX VPH_3 vs_we4_2 hp H O, STC_call HT HX vs_we4_2 hp O, hg0, PFI_glue (dl := []) hPF hS_c337 hA_c337 sd (by decide +kernel) (rexc_of (l := []) (by decide +kernel) ?_), ABS_glue hAB hS_c337 (by decide +kernel), NZ_glue hNZ vs_we4_2 hp sn (by decide +kernel), hGI, ?_, ?_, ?_, ?_, ?_, ?_, ?_, ?_, ?_, ?_⟩ ⟨(STP0_call (STY_call vs_we4_2 hp O) (sd 0 rfl) (RM_call vs_we4_2 O)), unt1_of (x := 10) (by decide +kernel) (fun p hp => funext (hA_c337 p hp))⟩ (EQD_glue hS_c337 hA_c337 sd sn (by decide +kernel)) lc337_0 lc337_1 (show HID (STR (y0) ((F 6 1)) (sc ((A 28)) 0 ((F 27 1))) (sc ((A 7)) 0 ((F 6 1))) (((A 32)) 0) (((A_c337 7)) 0)) by first | assumption | omega | rfl) (show HID (((A_c337 7)) 1 = w32 (((A 32)) 1 + (if BNA ((A 10)) 4 ((F 6 1)) < (F 25 1) then 1 else 0))) by first | assumption | omega | rfl) (show ∀ i, 0 ≤ i → i < 0 + ((N 29 : Int)) → ((A_c337 9)) i = ((A 199)) (0 + (i - 0)) by first | assumption | omega | rfl)
    · intro e he h1 h2
      cases he
    · exact INV0_eq (EQD_glue hS_c337 hA_c337 sd sn (by decide +kernel)) hI0
    · exact fun h => INV1_eq (EQD_glue hS_c337 hA_c337 sd sn (by decide +kernel)) (hI1 h)
    · exact fun h => INV2_eq (EQD_glue hS_c337 hA_c337 sd sn (by decide +kernel)) (hI2 h)
    · exact fun h => INV3_eq (EQD_glue hS_c337 hA_c337 sd sn (by decide +kernel)) (hI3 h)
    · exact fun h => INV4_eq (EQD_glue hS_c337 hA_c337 sd sn (by decide +kernel)) (hI4 h)
    · exact fun h => INV5_eq (EQD_glue hS_c337 hA_c337 sd sn (by decide +kernel)) (hI5 h)
    · exact fun h => INV6_eq (EQD_glue hS_c337 hA_c337 sd sn (by decide +kernel)) (hI6 h)
    · exact fun h => INV7_eq (EQD_glue hS_c337 hA_c337 sd sn (by decide +kernel)) (hI7 h)
    · exact fun h => INV8_eq (EQD_glue hS_c337 hA_c337 sd sn (by decide +kernel)) (hI8 h)
    · exact fun h => INV9_eq (EQD_glue hS_c337 hA_c337 sd sn (by decide +kernel)) (hI9 h)
  · skip
    have sd : SD [] (pul ι_we4_2 D) (pul ι_we4_2 D) := SD_refl
    have sn : SD [] (pul ι_we4_2 N) (pul ι_we4_2 N) := SD_refl
    refine k z _ (glu ι_we4_2 D (pul ι_we4_2 D)) (glu ι_we4_2 N (pul ι_we4_2 N)) (glu ι_we4_2 F Fₚ) (glu ι_we4_2 A Aₚ) _ _ ⟨HWs_call HX VPH_3 vs_we4_2 hp Hₚ O, STC_call HT HX vs_we4_2 hp O, hg0, PFI_glue (dl := []) hPF sf sa sd (by decide +kernel) (rexc_of (l := []) (by decide +kernel) ?_), ABS_glue hAB sf (by decide +kernel), NZ_glue hNZ vs_we4_2 hp sn (by decide +kernel), hGI, ?_, ?_, ?_, ?_, ?_, ?_, ?_, ?_, ?_, ?_⟩ ⟨(STP0_call (STY_call vs_we4_2 hp O) (sd 0 rfl) (RM_call vs_we4_2 O)), unt1_of (x := 10) (by decide +kernel) (fun p hp => funext (sa p hp))⟩ (EQD_glue sf sa sd sn (by decide +kernel)) (show (0 : Int) = 1 by first | assumption | omega | rfl)
    · intro e he h1 h2
      cases he
    · exact INV0_eq (EQD_glue sf sa sd sn (by decide +kernel)) hI0
    · exact fun h => INV1_eq (EQD_glue sf sa sd sn (by decide +kernel)) (hI1 h)
    · exact fun h => INV2_eq (EQD_glue sf sa sd sn (by decide +kernel)) (hI2 h)
    · exact fun h => INV3_eq (EQD_glue sf sa sd sn (by decide +kernel)) (hI3 h)
    · exact fun h => INV4_eq (EQD_glue sf sa sd sn (by decide +kernel)) (hI4 h)
    · exact fun h => INV5_eq (EQD_glue sf sa sd sn (by decide +kernel)) (hI5 h)
    · exact fun h => INV6_eq (EQD_glue sf sa sd sn (by decide +kernel)) (hI6 h)
    · exact fun h => INV7_eq (EQD_glue sf sa sd sn (by decide +kernel)) (hI7 h)
    · exact fun h => INV8_eq (EQD_glue sf sa sd sn (by decide +kernel)) (hI8 h)
    · exact fun h => INV9_eq (EQD_glue sf sa sd sn (by decide +kernel)) (hI9 h)
def ι_we4_3 : List Nat := [0, 8, 25, 26, 27, 28, 9, 32, 10, 29, 75, 199]
theorem vs_we4_3 : VS VPH V17_vE4 ι_we4_3 := VS_of (by decide +kernel)
set_option maxRecDepth 20000 in
theorem T_we4_3 {Dc : DcS} {g : Nat → Bool} {σ : rS} {D N : Nat → Nat} {F : hF} {A : hA} {d c s : Nat} {Q : wQ} (X : PHI Dc g σ D N F A) (hg5 : g 5 = true) {x1 y0 : Int} {ls : rO} (hl0 : rlook ls 0 = some (.ref (D 0))) (hl1 : rlook ls 1 = some (I x1)) (hl3 : rlook ls 3 = some (I (4))) (hl4 : rlook ls 4 = some (.ref (D 8))) (h0 : inr x1) (h1 : inr y0) (x_0 : (F 8 1) ≤ 16384) (hc337 : ∀ (ls : rO) (σₚ : rS) (Dₚ Nₚ : Nat → Nat) (Fₚ : hF) (Aₚ : hA) (cₚ sₚ : Nat), PHI Dc g σₚ Dₚ Nₚ Fₚ Aₚ → STP g σ D N A c s g σₚ Dₚ Nₚ Aₚ cₚ sₚ → EQD [(2, 1), (4, 1), (6, 1), (8, 1), (11, 1), (0, 18), (25, 1)] [3, 5, 7, 9, 12, 10, 30, 26] [] [] D N F A Dₚ Nₚ Fₚ Aₚ → rlook ls 0 = some (.ref (Dₚ 0)) → rlook ls 1 = some (I (x1)) → (HID (STR (y0) ((F 8 1)) (sc ((A 28)) 0 ((F 27 1))) (sc ((A 9)) 0 ((F 8 1))) (((A 32)) 0) (((Aₚ 32)) 0))) → (HID (((Aₚ 32)) 1 = w32 (((A 32)) 1 + (if BNA ((A 10)) 4 ((F 8 1)) < (F 25 1) then 1 else 0)))) → (∀ i, 0 ≤ i → i < 0 + ((Nₚ 29 : Int)) → ((Aₚ 29)) i = ((A 199)) (0 + (i - 0))) → Ew 17 (d + 3) 337 ls [] σₚ cₚ sₚ Q) (k : ∀ (z : Int) (σₚ : rS) (Dₚ Nₚ : Nat → Nat) (Fₚ : hF) (Aₚ : hA) (cₚ sₚ : Nat), PHI Dc g σₚ Dₚ Nₚ Fₚ Aₚ → STP g σ D N A c s g σₚ Dₚ Nₚ Aₚ cₚ sₚ → EQD [(2, 1), (4, 1), (6, 1), (8, 1), (11, 1), (0, 18), (25, 1)] [3, 5, 7, 9, 12, 10, 30, 26] [] [] D N F A Dₚ Nₚ Fₚ Aₚ → ((0 : Int) = 1) → Q (some (I z)) σₚ cₚ sₚ) : Ew 17 (d + 3) 239 ls [I y0] σ c s Q := by
  obtain ⟨HX, HT, hg0, hPF, hAB, hNZ, hGI, hI0, hI1, hI2, hI3, hI4, hI5, hI6, hI7, hI8, hI9⟩ := X
  have hset := SETI_f hI0.2.2.2.2.2.2.2.2.2.2.2.2.2.2.2.2.2.2.2.2.2.2.2.2
  have hJ0 := hI0
  unfold INV0 at hJ0
  obtain ⟨f0_0, f0_1, f0_2, f0_3, f0_4, f0_5, f0_6, f0_7, f0_8, f0_9, f0_10, f0_11, f0_12, f0_13, f0_14, f0_15, f0_16, f0_17, f0_18, f0_19, f0_20, f0_21, f0_22, f0_23, f0_24⟩ := hJ0
  have hJ5 := hI5 hg5
  unfold INV5 at hJ5
  obtain ⟨f5_0, f5_1, f5_2, f5_3, f5_4, f5_5, f5_6, f5_7, f5_8, f5_9, f5_10, f5_11, f5_12, f5_13, f5_14, f5_15, f5_16, f5_17, f5_18, f5_19, f5_20, f5_21⟩ := hJ5
  have hp : ∀ x, x < (V17_vE4).length → SPH g (ι_we4_3.getD x 0) = true := SPH_of (gs := [0, 5]) (by intro j hj; simp at hj; rcases hj with rfl | rfl <;> assumption) rfl (by decide +kernel)
  refine C17_vE4 (D := pul ι_we4_3 D) (N := pul ι_we4_3 N) (F := pul ι_we4_3 F) (A := pul ι_we4_3 A) (HWs_sub HX vs_we4_3 hp) (show F 0 5 = (D 25 : Int) from hPF (0, 0, 5, 25) (List.mem_of_getElem? (i := 24) rfl) hg0 hg0) (show F 25 0 = (D 26 : Int) from hPF (0, 25, 0, 26) (List.mem_of_getElem? (i := 25) rfl) hg0 hg0) (show F 0 6 = (D 27 : Int) from hPF (0, 0, 6, 27) (List.mem_of_getElem? (i := 26) rfl) hg0 hg0) (show F 27 0 = (D 28 : Int) from hPF (0, 27, 0, 28) (List.mem_of_getElem? (i := 27) rfl) hg0 hg0) (show F 8 0 = (D 9 : Int) from hPF (0, 8, 0, 9) (List.mem_of_getElem? (i := 8) rfl) hg0 hg0) (show F 0 16 = (D 32 : Int) from hPF (0, 0, 16, 32) (List.mem_of_getElem? (i := 31) rfl) hg0 hg0) (show F 0 1 = (D 10 : Int) from hPF (0, 0, 1, 10) (List.mem_of_getElem? (i := 9) rfl) hg0 hg0) (show F 0 13 = (D 29 : Int) from hPF (0, 0, 13, 29) (List.mem_of_getElem? (i := 28) rfl) hg0 hg0) (show F 0 11 = (D 75 : Int) from hPF (0, 0, 11, 75) (List.mem_of_getElem? (i := 74) rfl) hg0 hg5) (show F 75 18 = (D 199 : Int) from hPF (0, 75, 18, 199) (List.mem_of_getElem? (i := 198) rfl) hg5 hg5) (N 26 : Int) rfl (N 28 : Int) rfl (N 9 : Int) rfl (N 32 : Int) rfl (N 10 : Int) rfl (N 29 : Int) rfl (N 199 : Int) rfl (F 8 1) rfl (F 25 1) rfl (F 27 1) rfl (A 10) rfl  hl0 hl1 hl3 hl4 (show inr (x1) by first | assumption | omega) (show inr y0 by first | assumption | omega) (show 0 ≤ (F 25 1) ∧ (F 25 1) ≤ ((N 26 : Int)) ∧ ((N 26 : Int)) ≤ 65536 by first | assumption | omega) (show 0 ≤ (F 27 1) ∧ (F 27 1) ≤ ((N 28 : Int)) ∧ ((N 28 : Int)) ≤ 65536 by first | assumption | omega) (show 0 ≤ (F 8 1) ∧ (F 8 1) ≤ ((N 9 : Int)) ∧ ((N 9 : Int)) ≤ 65536 by first | assumption | omega) (show (F 8 1) ≤ 16384 by first | assumption | omega) (show ((N 32 : Int)) = 2 by first | assumption | omega) (show 1 ≤ ((A 10)) 2 ∧ ((A 10)) 2 ≤ 65536 by first | assumption | omega) (show 0 ≤ ((A 10)) 8 ∧ ((A 10)) 8 ≤ 11 by first | assumption | omega) (show 0 ≤ ((A 10)) 6 ∧ ((A 10)) 6 ≤ 255 by first | assumption | omega) (show ((N 10 : Int)) = 10 by first | assumption | omega) (show ((N 29 : Int)) = 13 by first | assumption | omega) (show ((N 199 : Int)) = 13 by first | assumption | omega) (fun  ls σ F_c337 A_c337  lc337_0 lc337_1 H O hS_c337 hA_c337    wc337_7 ewc337_7 wc337_9 ewc337_9 jc337_0 jc337_1 jc337_2 jc337_3 => ?_) (fun z σₚ Fₚ Aₚ Hₚ O sf sa q0 q1 => ?_)
  · skip
    subst ewc337_7 ewc337_9
    have sd : SD [] (pul ι_we4_3 D) (pul ι_we4_3 D) := SD_refl
    have sn : SD [] (pul ι_we4_3 N) (pul ι_we4_3 N) := SD_refl
    have : F_c337 1 1 = F 8 1 := hS_c337 1 1 rfl
    have : F_c337 4 1 = F 27 1 := hS_c337 4 1 rfl
    have : A_c337 6 = A 9 := funext (hA_c337 6 rfl)
    have : A_c337 5 = A 28 := funext (hA_c337 5 rfl)
    have : F_c337 2 1 = F 25 1 := hS_c337 2 1 rfl
    have : A_c337 8 = A 10 := funext (hA_c337 8 rfl)
    have : A_c337 11 = A 199 := funext (hA_c337 11 rfl)
    refine hc337   _ _ (glu ι_we4_3 D (pul ι_we4_3 D)) (glu ι_we4_3 N (pul ι_we4_3 N)) (glu ι_we4_3 F F_c337) (glu ι_we4_3 A A_c337) _ _ ⟨HWs_call HX VPH_3 vs_we4_3 hp H O, STC_call HT HX vs_we4_3 hp O, hg0, PFI_glue (dl := []) hPF hS_c337 hA_c337 sd (by decide +kernel) (rexc_of (l := []) (by decide +kernel) ?_), ABS_glue hAB hS_c337 (by decide +kernel), NZ_glue hNZ vs_we4_3 hp sn (by decide +kernel), hGI, ?_, ?_, ?_, ?_, ?_, ?_, ?_, ?_, ?_, ?_⟩ ⟨(STP0_call (STY_call vs_we4_3 hp O) (sd 0 rfl) (RM_call vs_we4_3 O)), unt1_of (x := 10) (by decide +kernel) (fun p hp => funext (hA_c337 p hp))⟩ (EQD_glue hS_c337 hA_c337 sd sn (by decide +kernel)) lc337_0 lc337_1 (show HID (STR (y0) ((F 8 1)) (sc ((A 28)) 0 ((F 27 1))) (sc ((A 9)) 0 ((F 8 1))) (((A 32)) 0) (((A_c337 7)) 0)) by first | assumption | omega | rfl) (show HID (((A_c337 7)) 1 = w32 (((A 32)) 1 + (if BNA ((A 10)) 4 ((F 8 1)) < (F 25 1) then 1 else 0))) by first | assumption | omega | rfl) (show ∀ i, 0 ≤ i → i < 0 + ((N 29 : Int)) → ((A_c337 9)) i = ((A 199)) (0 + (i - 0)) by first | assumption | omega | rfl)
    · intro e he h1 h2
      cases he
    · exact INV0_eq (EQD_glue hS_c337 hA_c337 sd sn (by decide +kernel)) hI0
    · exact fun h => INV1_eq (EQD_glue hS_c337 hA_c337 sd sn (by decide +kernel)) (hI1 h)
    · exact fun h => INV2_eq (EQD_glue hS_c337 hA_c337 sd sn (by decide +kernel)) (hI2 h)
    · exact fun h => INV3_eq (EQD_glue hS_c337 hA_c337 sd sn (by decide +kernel)) (hI3 h)
    · exact fun h => INV4_eq (EQD_glue hS_c337 hA_c337 sd sn (by decide +kernel)) (hI4 h)
    · exact fun h => INV5_eq (EQD_glue hS_c337 hA_c337 sd sn (by decide +kernel)) (hI5 h)
    · exact fun h => INV6_eq (EQD_glue hS_c337 hA_c337 sd sn (by decide +kernel)) (hI6 h)
    · exact fun h => INV7_eq (EQD_glue hS_c337 hA_c337 sd sn (by decide +kernel)) (hI7 h)
    · exact fun h => INV8_eq (EQD_glue hS_c337 hA_c337 sd sn (by decide +kernel)) (hI8 h)
    · exact fun h => INV9_eq (EQD_glue hS_c337 hA_c337 sd sn (by decide +kernel)) (hI9 h)
  · skip
    have sd : SD [] (pul ι_we4_3 D) (pul ι_we4_3 D) := SD_refl
    have sn : SD [] (pul ι_we4_3 N) (pul ι_we4_3 N) := SD_refl
    refine k z _ (glu ι_we4_3 D (pul ι_we4_3 D)) (glu ι_we4_3 N (pul ι_we4_3 N)) (glu ι_we4_3 F Fₚ) (glu ι_we4_3 A Aₚ) _ _ ⟨HWs_call HX VPH_3 vs_we4_3 hp Hₚ O, STC_call HT HX vs_we4_3 hp O, hg0, PFI_glue (dl := []) hPF sf sa sd (by decide +kernel) (rexc_of (l := []) (by decide +kernel) ?_), ABS_glue hAB sf (by decide +kernel), NZ_glue hNZ vs_we4_3 hp sn (by decide +kernel), hGI, ?_, ?_, ?_, ?_, ?_, ?_, ?_, ?_, ?_, ?_⟩ ⟨(STP0_call (STY_call vs_we4_3 hp O) (sd 0 rfl) (RM_call vs_we4_3 O)), unt1_of (x := 10) (by decide +kernel) (fun p hp => funext (sa p hp))⟩ (EQD_glue sf sa sd sn (by decide +kernel)) (show (0 : Int) = 1 by first | assumption | omega | rfl)
    · intro e he h1 h2
      cases he
    · exact INV0_eq (EQD_glue sf sa sd sn (by decide +kernel)) hI0
    · exact fun h => INV1_eq (EQD_glue sf sa sd sn (by decide +kernel)) (hI1 h)
    · exact fun h => INV2_eq (EQD_glue sf sa sd sn (by decide +kernel)) (hI2 h)
    · exact fun h => INV3_eq (EQD_glue sf sa sd sn (by decide +kernel)) (hI3 h)
    · exact fun h => INV4_eq (EQD_glue sf sa sd sn (by decide +kernel)) (hI4 h)
    · exact fun h => INV5_eq (EQD_glue sf sa sd sn (by decide +kernel)) (hI5 h)
    · exact fun h => INV6_eq (EQD_glue sf sa sd sn (by decide +kernel)) (hI6 h)
    · exact fun h => INV7_eq (EQD_glue sf sa sd sn (by decide +kernel)) (hI7 h)
    · exact fun h => INV8_eq (EQD_glue sf sa sd sn (by decide +kernel)) (hI8 h)
    · exact fun h => INV9_eq (EQD_glue sf sa sd sn (by decide +kernel)) (hI9 h)
def ι_we5_0 : List Nat := [0, 2, 25, 26, 3, 32, 10]
theorem vs_we5_0 : VS VPH V17_vE5 ι_we5_0 := VS_of (by decide +kernel)
set_option maxRecDepth 20000 in
theorem T_we5_0 {Dc : DcS} {g : Nat → Bool} {σ : rS} {D N : Nat → Nat} {F : hF} {A : hA} {d c s : Nat} {Q : wQ} (X : PHI Dc g σ D N F A)  {x1 : Int} {ls : rO} (hl0 : rlook ls 0 = some (.ref (D 0))) (hl1 : rlook ls 1 = some (I x1)) (hl3 : rlook ls 3 = some (I (5))) (hl4 : rlook ls 4 = some (.ref (D 2))) (h0 : inr x1) (x_0 : (F 2 1) ≤ 16384) (hc337 : ∀ (ls : rO) (σₚ : rS) (Dₚ Nₚ : Nat → Nat) (Fₚ : hF) (Aₚ : hA) (cₚ sₚ : Nat), PHI Dc g σₚ Dₚ Nₚ Fₚ Aₚ → STP g σ D N A c s g σₚ Dₚ Nₚ Aₚ cₚ sₚ → EQD [(2, 1), (4, 1), (6, 1), (8, 1), (11, 1), (0, 18), (25, 1)] [3, 5, 7, 9, 12, 10, 29, 30, 26] [] [] D N F A Dₚ Nₚ Fₚ Aₚ → rlook ls 0 = some (.ref (Dₚ 0)) → rlook ls 1 = some (I (x1)) → (((Aₚ 32)) 0 = ((A 32)) 0) → (HID (((Aₚ 32)) 1 = w32 (((A 32)) 1 + (if BNA ((A 10)) 5 ((F 2 1)) < (F 25 1) then 1 else 0)))) → Ew 17 (d + 3) 337 ls [] σₚ cₚ sₚ Q) (k : ∀ (z : Int) (σₚ : rS) (Dₚ Nₚ : Nat → Nat) (Fₚ : hF) (Aₚ : hA) (cₚ sₚ : Nat), PHI Dc g σₚ Dₚ Nₚ Fₚ Aₚ → STP g σ D N A c s g σₚ Dₚ Nₚ Aₚ cₚ sₚ → EQD [(2, 1), (4, 1), (6, 1), (8, 1), (11, 1), (0, 18), (25, 1)] [3, 5, 7, 9, 12, 10, 29, 30, 26] [] [] D N F A Dₚ Nₚ Fₚ Aₚ → ((0 : Int) = 1) → Q (some (I z)) σₚ cₚ sₚ) : Ew 17 (d + 3) 277 ls [] σ c s Q := by
  obtain ⟨HX, HT, hg0, hPF, hAB, hNZ, hGI, hI0, hI1, hI2, hI3, hI4, hI5, hI6, hI7, hI8, hI9⟩ := X
  have hset := SETI_f hI0.2.2.2.2.2.2.2.2.2.2.2.2.2.2.2.2.2.2.2.2.2.2.2.2
  have hJ0 := hI0
  unfold INV0 at hJ0
  obtain ⟨f0_0, f0_1, f0_2, f0_3, f0_4, f0_5, f0_6, f0_7, f0_8, f0_9, f0_10, f0_11, f0_12, f0_13, f0_14, f0_15, f0_16, f0_17, f0_18, f0_19, f0_20, f0_21, f0_22, f0_23, f0_24⟩ := hJ0
  have hp : ∀ x, x < (V17_vE5).length → SPH g (ι_we5_0.getD x 0) = true := SPH_of (gs := [0]) (by intro j hj; simp at hj; subst hj; exact hg0) rfl (by decide +kernel)
  refine C17_vE5 (D := pul ι_we5_0 D) (N := pul ι_we5_0 N) (F := pul ι_we5_0 F) (A := pul ι_we5_0 A) (HWs_sub HX vs_we5_0 hp) (show F 0 5 = (D 25 : Int) from hPF (0, 0, 5, 25) (List.mem_of_getElem? (i := 24) rfl) hg0 hg0) (show F 25 0 = (D 26 : Int) from hPF (0, 25, 0, 26) (List.mem_of_getElem? (i := 25) rfl) hg0 hg0) (show F 2 0 = (D 3 : Int) from hPF (0, 2, 0, 3) (List.mem_of_getElem? (i := 2) rfl) hg0 hg0) (show F 0 16 = (D 32 : Int) from hPF (0, 0, 16, 32) (List.mem_of_getElem? (i := 31) rfl) hg0 hg0) (show F 0 1 = (D 10 : Int) from hPF (0, 0, 1, 10) (List.mem_of_getElem? (i := 9) rfl) hg0 hg0) (N 26 : Int) rfl (N 3 : Int) rfl (N 32 : Int) rfl (N 10 : Int) rfl (F 2 1) rfl (F 25 1) rfl (A 10) rfl  hl0 hl1 hl3 hl4 (show inr (x1) by first | assumption | omega) (show 0 ≤ (F 25 1) ∧ (F 25 1) ≤ ((N 26 : Int)) ∧ ((N 26 : Int)) ≤ 65536 by first | assumption | omega) (show 0 ≤ (F 2 1) ∧ (F 2 1) ≤ ((N 3 : Int)) ∧ ((N 3 : Int)) ≤ 65536 by first | assumption | omega) (show (F 2 1) ≤ 16384 by first | assumption | omega) (show ((N 32 : Int)) = 2 by first | assumption | omega) (show 1 ≤ ((A 10)) 2 ∧ ((A 10)) 2 ≤ 65536 by first | assumption | omega) (show 0 ≤ ((A 10)) 8 ∧ ((A 10)) 8 ≤ 11 by first | assumption | omega) (show 0 ≤ ((A 10)) 6 ∧ ((A 10)) 6 ≤ 255 by first | assumption | omega) (show ((N 10 : Int)) = 10 by first | assumption | omega) (fun  ls σ F_c337 A_c337  lc337_0 lc337_1 H O hS_c337 hA_c337    wc337_5 ewc337_5 jc337_0 jc337_1 jc337_2 => ?_) (fun z σₚ Fₚ Aₚ Hₚ O sf sa q0 q1 => ?_)
  · skip
    subst ewc337_5
    have sd : SD [] (pul ι_we5_0 D) (pul ι_we5_0 D) := SD_refl
    have sn : SD [] (pul ι_we5_0 N) (pul ι_we5_0 N) := SD_refl
    have : F_c337 1 1 = F 2 1 := hS_c337 1 1 rfl
    have : F_c337 2 1 = F 25 1 := hS_c337 2 1 rfl
    have : A_c337 6 = A 10 := funext (hA_c337 6 rfl)
    refine hc337   _ _ (glu ι_we5_0 D (pul ι_we5_0 D)) (glu ι_we5_0 N (pul ι_we5_0 N)) (glu ι_we5_0 F F_c337) (glu ι_we5_0 A A_c337) _ _ ⟨HWs_call HX VPH_3 vs_we5_0 hp H O, STC_call HT HX vs_we5_0 hp O, hg0, PFI_glue (dl := []) hPF hS_c337 hA_c337 sd (by decide +kernel) (rexc_of (l := []) (by decide +kernel) ?_), ABS_glue hAB hS_c337 (by decide +kernel), NZ_glue hNZ vs_we5_0 hp sn (by decide +kernel), hGI, ?_, ?_, ?_, ?_, ?_, ?_, ?_, ?_, ?_, ?_⟩ ⟨(STP0_call (STY_call vs_we5_0 hp O) (sd 0 rfl) (RM_call vs_we5_0 O)), unt1_of (x := 10) (by decide +kernel) (fun p hp => funext (hA_c337 p hp))⟩ (EQD_glue hS_c337 hA_c337 sd sn (by decide +kernel)) lc337_0 lc337_1 (show ((A_c337 5)) 0 = ((A 32)) 0 by first | assumption | omega | rfl) (show HID (((A_c337 5)) 1 = w32 (((A 32)) 1 + (if BNA ((A 10)) 5 ((F 2 1)) < (F 25 1) then 1 else 0))) by first | assumption | omega | rfl)
    · intro e he h1 h2
      cases he
    · exact INV0_eq (EQD_glue hS_c337 hA_c337 sd sn (by decide +kernel)) hI0
    · exact fun h => INV1_eq (EQD_glue hS_c337 hA_c337 sd sn (by decide +kernel)) (hI1 h)
    · exact fun h => INV2_eq (EQD_glue hS_c337 hA_c337 sd sn (by decide +kernel)) (hI2 h)
    · exact fun h => INV3_eq (EQD_glue hS_c337 hA_c337 sd sn (by decide +kernel)) (hI3 h)
    · exact fun h => INV4_eq (EQD_glue hS_c337 hA_c337 sd sn (by decide +kernel)) (hI4 h)
    · exact fun h => INV5_eq (EQD_glue hS_c337 hA_c337 sd sn (by decide +kernel)) (hI5 h)
    · exact fun h => INV6_eq (EQD_glue hS_c337 hA_c337 sd sn (by decide +kernel)) (hI6 h)
    · exact fun h => INV7_eq (EQD_glue hS_c337 hA_c337 sd sn (by decide +kernel)) (hI7 h)
    · exact fun h => INV8_eq (EQD_glue hS_c337 hA_c337 sd sn (by decide +kernel)) (hI8 h)
    · exact fun h => INV9_eq (EQD_glue hS_c337 hA_c337 sd sn (by decide +kernel)) (hI9 h)
  · skip
    have sd : SD [] (pul ι_we5_0 D) (pul ι_we5_0 D) := SD_refl
    have sn : SD [] (pul ι_we5_0 N) (pul ι_we5_0 N) := SD_refl
    refine k z _ (glu ι_we5_0 D (pul ι_we5_0 D)) (glu ι_we5_0 N (pul ι_we5_0 N)) (glu ι_we5_0 F Fₚ) (glu ι_we5_0 A Aₚ) _ _ ⟨HWs_call HX VPH_3 vs_we5_0 hp Hₚ O, STC_call HT HX vs_we5_0 hp O, hg0, PFI_glue (dl := []) hPF sf sa sd (by decide +kernel) (rexc_of (l := []) (by decide +kernel) ?_), ABS_glue hAB sf (by decide +kernel), NZ_glue hNZ vs_we5_0 hp sn (by decide +kernel), hGI, ?_, ?_, ?_, ?_, ?_, ?_, ?_, ?_, ?_, ?_⟩ ⟨(STP0_call (STY_call vs_we5_0 hp O) (sd 0 rfl) (RM_call vs_we5_0 O)), unt1_of (x := 10) (by decide +kernel) (fun p hp => funext (sa p hp))⟩ (EQD_glue sf sa sd sn (by decide +kernel)) (show (0 : Int) = 1 by first | assumption | omega | rfl)
    · intro e he h1 h2
      cases he
    · exact INV0_eq (EQD_glue sf sa sd sn (by decide +kernel)) hI0
    · exact fun h => INV1_eq (EQD_glue sf sa sd sn (by decide +kernel)) (hI1 h)
    · exact fun h => INV2_eq (EQD_glue sf sa sd sn (by decide +kernel)) (hI2 h)
    · exact fun h => INV3_eq (EQD_glue sf sa sd sn (by decide +kernel)) (hI3 h)
    · exact fun h => INV4_eq (EQD_glue sf sa sd sn (by decide +kernel)) (hI4 h)
    · exact fun h => INV5_eq (EQD_glue sf sa sd sn (by decide +kernel)) (hI5 h)
    · exact fun h => INV6_eq (EQD_glue sf sa sd sn (by decide +kernel)) (hI6 h)
    · exact fun h => INV7_eq (EQD_glue sf sa sd sn (by decide +kernel)) (hI7 h)
    · exact fun h => INV8_eq (EQD_glue sf sa sd sn (by decide +kernel)) (hI8 h)
    · exact fun h => INV9_eq (EQD_glue sf sa sd sn (by decide +kernel)) (hI9 h)
def ι_we5_1 : List Nat := [0, 4, 25, 26, 5, 32, 10]
theorem vs_we5_1 : VS VPH V17_vE5 ι_we5_1 := VS_of (by decide +kernel)
set_option maxRecDepth 20000 in
theorem T_we5_1 {Dc : DcS} {g : Nat → Bool} {σ : rS} {D N : Nat → Nat} {F : hF} {A : hA} {d c s : Nat} {Q : wQ} (X : PHI Dc g σ D N F A)  {x1 : Int} {ls : rO} (hl0 : rlook ls 0 = some (.ref (D 0))) (hl1 : rlook ls 1 = some (I x1)) (hl3 : rlook ls 3 = some (I (5))) (hl4 : rlook ls 4 = some (.ref (D 4))) (h0 : inr x1) (x_0 : (F 4 1) ≤ 16384) (hc337 : ∀ (ls : rO) (σₚ : rS) (Dₚ Nₚ : Nat → Nat) (Fₚ : hF) (Aₚ : hA) (cₚ sₚ : Nat), PHI Dc g σₚ Dₚ Nₚ Fₚ Aₚ → STP g σ D N A c s g σₚ Dₚ Nₚ Aₚ cₚ sₚ → EQD [(2, 1), (4, 1), (6, 1), (8, 1), (11, 1), (0, 18), (25, 1)] [3, 5, 7, 9, 12, 10, 29, 30, 26] [] [] D N F A Dₚ Nₚ Fₚ Aₚ → rlook ls 0 = some (.ref (Dₚ 0)) → rlook ls 1 = some (I (x1)) → (((Aₚ 32)) 0 = ((A 32)) 0) → (HID (((Aₚ 32)) 1 = w32 (((A 32)) 1 + (if BNA ((A 10)) 5 ((F 4 1)) < (F 25 1) then 1 else 0)))) → Ew 17 (d + 3) 337 ls [] σₚ cₚ sₚ Q) (k : ∀ (z : Int) (σₚ : rS) (Dₚ Nₚ : Nat → Nat) (Fₚ : hF) (Aₚ : hA) (cₚ sₚ : Nat), PHI Dc g σₚ Dₚ Nₚ Fₚ Aₚ → STP g σ D N A c s g σₚ Dₚ Nₚ Aₚ cₚ sₚ → EQD [(2, 1), (4, 1), (6, 1), (8, 1), (11, 1), (0, 18), (25, 1)] [3, 5, 7, 9, 12, 10, 29, 30, 26] [] [] D N F A Dₚ Nₚ Fₚ Aₚ → ((0 : Int) = 1) → Q (some (I z)) σₚ cₚ sₚ) : Ew 17 (d + 3) 277 ls [] σ c s Q := by
  obtain ⟨HX, HT, hg0, hPF, hAB, hNZ, hGI, hI0, hI1, hI2, hI3, hI4, hI5, hI6, hI7, hI8, hI9⟩ := X
  have hset := SETI_f hI0.2.2.2.2.2.2.2.2.2.2.2.2.2.2.2.2.2.2.2.2.2.2.2.2
  have hJ0 := hI0
  unfold INV0 at hJ0
  obtain ⟨f0_0, f0_1, f0_2, f0_3, f0_4, f0_5, f0_6, f0_7, f0_8, f0_9, f0_10, f0_11, f0_12, f0_13, f0_14, f0_15, f0_16, f0_17, f0_18, f0_19, f0_20, f0_21, f0_22, f0_23, f0_24⟩ := hJ0
  have hp : ∀ x, x < (V17_vE5).length → SPH g (ι_we5_1.getD x 0) = true := SPH_of (gs := [0]) (by intro j hj; simp at hj; subst hj; exact hg0) rfl (by decide +kernel)
  refine C17_vE5 (D := pul ι_we5_1 D) (N := pul ι_we5_1 N) (F := pul ι_we5_1 F) (A := pul ι_we5_1 A) (HWs_sub HX vs_we5_1 hp) (show F 0 5 = (D 25 : Int) from hPF (0, 0, 5, 25) (List.mem_of_getElem? (i := 24) rfl) hg0 hg0) (show F 25 0 = (D 26 : Int) from hPF (0, 25, 0, 26) (List.mem_of_getElem? (i := 25) rfl) hg0 hg0) (show F 4 0 = (D 5 : Int) from hPF (0, 4, 0, 5) (List.mem_of_getElem? (i := 4) rfl) hg0 hg0) (show F 0 16 = (D 32 : Int) from hPF (0, 0, 16, 32) (List.mem_of_getElem? (i := 31) rfl) hg0 hg0) (show F 0 1 = (D 10 : Int) from hPF (0, 0, 1, 10) (List.mem_of_getElem? (i := 9) rfl) hg0 hg0) (N 26 : Int) rfl (N 5 : Int) rfl (N 32 : Int) rfl (N 10 : Int) rfl (F 4 1) rfl (F 25 1) rfl (A 10) rfl  hl0 hl1 hl3 hl4 (show inr (x1) by first | assumption | omega) (show 0 ≤ (F 25 1) ∧ (F 25 1) ≤ ((N 26 : Int)) ∧ ((N 26 : Int)) ≤ 65536 by first | assumption | omega) (show 0 ≤ (F 4 1) ∧ (F 4 1) ≤ ((N 5 : Int)) ∧ ((N 5 : Int)) ≤ 65536 by first | assumption | omega) (show (F 4 1) ≤ 16384 by first | assumption | omega) (show ((N 32 : Int)) = 2 by first | assumption | omega) (show 1 ≤ ((A 10)) 2 ∧ ((A 10)) 2 ≤ 65536 by first | assumption | omega) (show 0 ≤ ((A 10)) 8 ∧ ((A 10)) 8 ≤ 11 by first | assumption | omega) (show 0 ≤ ((A 10)) 6 ∧ ((A 10)) 6 ≤ 255 by first | assumption | omega) (show ((N 10 : Int)) = 10 by first | assumption | omega) (fun  ls σ F_c337 A_c337  lc337_0 lc337_1 H O hS_c337 hA_c337    wc337_5 ewc337_5 jc337_0 jc337_1 jc337_2 => ?_) (fun z σₚ Fₚ Aₚ Hₚ O sf sa q0 q1 => ?_)
  · skip
    subst ewc337_5
    have sd : SD [] (pul ι_we5_1 D) (pul ι_we5_1 D) := SD_refl
    have sn : SD [] (pul ι_we5_1 N) (pul ι_we5_1 N) := SD_refl
    have : F_c337 1 1 = F 4 1 := hS_c337 1 1 rfl
    have : F_c337 2 1 = F 25 1 := hS_c337 2 1 rfl
    have : A_c337 6 = A 10 := funext (hA_c337 6 rfl)
    refine hc337   _ _ (glu ι_we5_1 D (pul ι_we5_1 D)) (glu ι_we5_1 N (pul ι_we5_1 N)) (glu ι_we5_1 F F_c337) (glu ι_we5_1 A A_c337) _ _ ⟨HWs_call HX VPH_3 vs_we5_1 hp H O, STC_call HT HX vs_we5_1 hp O, hg0, PFI_glue (dl := []) hPF hS_c337 hA_c337 sd (by decide +kernel) (rexc_of (l := []) (by decide +kernel) ?_), ABS_glue hAB hS_c337 (by decide +kernel), NZ_glue hNZ vs_we5_1 hp sn (by decide +kernel), hGI, ?_, ?_, ?_, ?_, ?_, ?_, ?_, ?_, ?_, ?_⟩ ⟨(STP0_call (STY_call vs_we5_1 hp O) (sd 0 rfl) (RM_call vs_we5_1 O)), unt1_of (x := 10) (by decide +kernel) (fun p hp => funext (hA_c337 p hp))⟩ (EQD_glue hS_c337 hA_c337 sd sn (by decide +kernel)) lc337_0 lc337_1 (show ((A_c337 5)) 0 = ((A 32)) 0 by first | assumption | omega | rfl) (show HID (((A_c337 5)) 1 = w32 (((A 32)) 1 + (if BNA ((A 10)) 5 ((F 4 1)) < (F 25 1) then 1 else 0))) by first | assumption | omega | rfl)
    · intro e he h1 h2
      cases he
    · exact INV0_eq (EQD_glue hS_c337 hA_c337 sd sn (by decide +kernel)) hI0
    · exact fun h => INV1_eq (EQD_glue hS_c337 hA_c337 sd sn (by decide +kernel)) (hI1 h)
    · exact fun h => INV2_eq (EQD_glue hS_c337 hA_c337 sd sn (by decide +kernel)) (hI2 h)
    · exact fun h => INV3_eq (EQD_glue hS_c337 hA_c337 sd sn (by decide +kernel)) (hI3 h)
    · exact fun h => INV4_eq (EQD_glue hS_c337 hA_c337 sd sn (by decide +kernel)) (hI4 h)
    · exact fun h => INV5_eq (EQD_glue hS_c337 hA_c337 sd sn (by decide +kernel)) (hI5 h)
    · exact fun h => INV6_eq (EQD_glue hS_c337 hA_c337 sd sn (by decide +kernel)) (hI6 h)
    · exact fun h => INV7_eq (EQD_glue hS_c337 hA_c337 sd sn (by decide +kernel)) (hI7 h)
    · exact fun h => INV8_eq (EQD_glue hS_c337 hA_c337 sd sn (by decide +kernel)) (hI8 h)
    · exact fun h => INV9_eq (EQD_glue hS_c337 hA_c337 sd sn (by decide +kernel)) (hI9 h)
  · skip
    have sd : SD [] (pul ι_we5_1 D) (pul ι_we5_1 D) := SD_refl
    have sn : SD [] (pul ι_we5_1 N) (pul ι_we5_1 N) := SD_refl
    refine k z _ (glu ι_we5_1 D (pul ι_we5_1 D)) (glu ι_we5_1 N (pul ι_we5_1 N)) (glu ι_we5_1 F Fₚ) (glu ι_we5_1 A Aₚ) _ _ ⟨HWs_call HX VPH_3 vs_we5_1 hp Hₚ O, STC_call HT HX vs_we5_1 hp O, hg0, PFI_glue (dl := []) hPF sf sa sd (by decide +kernel) (rexc_of (l := []) (by decide +kernel) ?_), ABS_glue hAB sf (by decide +kernel), NZ_glue hNZ vs_we5_1 hp sn (by decide +kernel), hGI, ?_, ?_, ?_, ?_, ?_, ?_, ?_, ?_, ?_, ?_⟩ ⟨(STP0_call (STY_call vs_we5_1 hp O) (sd 0 rfl) (RM_call vs_we5_1 O)), unt1_of (x := 10) (by decide +kernel) (fun p hp => funext (sa p hp))⟩ (EQD_glue sf sa sd sn (by decide +kernel)) (show (0 : Int) = 1 by first | assumption | omega | rfl)
    · intro e he h1 h2
      cases he
    · exact INV0_eq (EQD_glue sf sa sd sn (by decide +kernel)) hI0
    · exact fun h => INV1_eq (EQD_glue sf sa sd sn (by decide +kernel)) (hI1 h)
    · exact fun h => INV2_eq (EQD_glue sf sa sd sn (by decide +kernel)) (hI2 h)
    · exact fun h => INV3_eq (EQD_glue sf sa sd sn (by decide +kernel)) (hI3 h)
    · exact fun h => INV4_eq (EQD_glue sf sa sd sn (by decide +kernel)) (hI4 h)
    · exact fun h => INV5_eq (EQD_glue sf sa sd sn (by decide +kernel)) (hI5 h)
    · exact fun h => INV6_eq (EQD_glue sf sa sd sn (by decide +kernel)) (hI6 h)
    · exact fun h => INV7_eq (EQD_glue sf sa sd sn (by decide +kernel)) (hI7 h)
    · exact fun h => INV8_eq (EQD_glue sf sa sd sn (by decide +kernel)) (hI8 h)
    · exact fun h => INV9_eq (EQD_glue sf sa sd sn (by decide +kernel)) (hI9 h)
def ι_we5_2 : List Nat := [0, 6, 25, 26, 7, 32, 10]
theorem vs_we5_2 : VS VPH V17_vE5 ι_we5_2 := VS_of (by decide +kernel)
set_option maxRecDepth 20000 in
theorem T_we5_2 {Dc : DcS} {g : Nat → Bool} {σ : rS} {D N : Nat → Nat} {F : hF} {A : hA} {d c s : Nat} {Q : wQ} (X : PHI Dc g σ D N F A)  {x1 : Int} {ls : rO} (hl0 : rlook ls 0 = some (.ref (D 0))) (hl1 : rlook ls 1 = some (I x1)) (hl3 : rlook ls 3 = some (I (5))) (hl4 : rlook ls 4 = some (.ref (D 6))) (h0 : inr x1) (x_0 : (F 6 1) ≤ 16384) (hc337 : ∀ (ls : rO) (σₚ : rS) (Dₚ Nₚ : Nat → Nat) (Fₚ : hF) (Aₚ : hA) (cₚ sₚ : Nat), PHI Dc g σₚ Dₚ Nₚ Fₚ Aₚ → STP g σ D N A c s g σₚ Dₚ Nₚ Aₚ cₚ sₚ → EQD [(2, 1), (4, 1), (6, 1), (8, 1), (11, 1), (0, 18), (25, 1)] [3, 5, 7, 9, 12, 10, 29, 30, 26] [] [] D N F A Dₚ Nₚ Fₚ Aₚ → rlook ls 0 = some (.ref (Dₚ 0)) → rlook ls 1 = some (I (x1)) → (((Aₚ 32)) 0 = ((A 32)) 0) → (HID (((Aₚ 32)) 1 = w32 (((A 32)) 1 + (if BNA ((A 10)) 5 ((F 6 1)) < (F 25 1) then 1 else 0)))) → Ew 17 (d + 3) 337 ls [] σₚ cₚ sₚ Q) (k : ∀ (z : Int) (σₚ : rS) (Dₚ Nₚ : Nat → Nat) (Fₚ : hF) (Aₚ : hA) (cₚ sₚ : Nat), PHI Dc g σₚ Dₚ Nₚ Fₚ Aₚ → STP g σ D N A c s g σₚ Dₚ Nₚ Aₚ cₚ sₚ → EQD [(2, 1), (4, 1), (6, 1), (8, 1), (11, 1), (0, 18), (25, 1)] [3, 5, 7, 9, 12, 10, 29, 30, 26] [] [] D N F A Dₚ Nₚ Fₚ Aₚ → ((0 : Int) = 1) → Q (some (I z)) σₚ cₚ sₚ) : Ew 17 (d + 3) 277 ls [] σ c s Q := by
  obtain ⟨HX, HT, hg0, hPF, hAB, hNZ, hGI, hI0, hI1, hI2, hI3, hI4, hI5, hI6, hI7, hI8, hI9⟩ := X
  have hset := SETI_f hI0.2.2.2.2.2.2.2.2.2.2.2.2.2.2.2.2.2.2.2.2.2.2.2.2
  have hJ0 := hI0
  unfold INV0 at hJ0
  obtain ⟨f0_0, f0_1, f0_2, f0_3, f0_4, f0_5, f0_6, f0_7, f0_8, f0_9, f0_10, f0_11, f0_12, f0_13, f0_14, f0_15, f0_16, f0_17, f0_18, f0_19, f0_20, f0_21, f0_22, f0_23, f0_24⟩ := hJ0
  have hp : ∀ x, x < (V17_vE5).length → SPH g (ι_we5_2.getD x 0) = true := SPH_of (gs := [0]) (by intro j hj; simp at hj; subst hj; exact hg0) rfl (by decide +kernel)
  refine C17_vE5 (D := pul ι_we5_2 D) (N := pul ι_we5_2 N) (F := pul ι_we5_2 F) (A := pul ι_we5_2 A) (HWs_sub HX vs_we5_2 hp) (show F 0 5 = (D 25 : Int) from hPF (0, 0, 5, 25) (List.mem_of_getElem? (i := 24) rfl) hg0 hg0) (show F 25 0 = (D 26 : Int) from hPF (0, 25, 0, 26) (List.mem_of_getElem? (i := 25) rfl) hg0 hg0) (show F 6 0 = (D 7 : Int) from hPF (0, 6, 0, 7) (List.mem_of_getElem? (i := 6) rfl) hg0 hg0) (show F 0 16 = (D 32 : Int) from hPF (0, 0, 16, 32) (List.mem_of_getElem? (i := 31) rfl) hg0 hg0) (show F 0 1 = (D 10 : Int) from hPF (0, 0, 1, 10) (List.mem_of_getElem? (i := 9) rfl) hg0 hg0) (N 26 : Int) rfl (N 7 : Int) rfl (N 32 : Int) rfl (N 10 : Int) rfl (F 6 1) rfl (F 25 1) rfl (A 10) rfl  hl0 hl1 hl3 hl4 (show inr (x1) by first | assumption | omega) (show 0 ≤ (F 25 1) ∧ (F 25 1) ≤ ((N 26 : Int)) ∧ ((N 26 : Int)) ≤ 65536 by first | assumption | omega) (show 0 ≤ (F 6 1) ∧ (F 6 1) ≤ ((N 7 : Int)) ∧ ((N 7 : Int)) ≤ 65536 by first | assumption | omega) (show (F 6 1) ≤ 16384 by first | assumption | omega) (show ((N 32 : Int)) = 2 by first | assumption | omega) (show 1 ≤ ((A 10)) 2 ∧ ((A 10)) 2 ≤ 65536 by first | assumption | omega) (show 0 ≤ ((A 10)) 8 ∧ ((A 10)) 8 ≤ 11 by first | assumption | omega) (show 0 ≤ ((A 10)) 6 ∧ ((A 10)) 6 ≤ 255 by first | assumption | omega) (show ((N 10 : Int)) = 10 by first | assumption | omega) (fun  ls σ F_c337 A_c337  lc337_0 lc337_1 H O hS_c337 hA_c337    wc337_5 ewc337_5 jc337_0 jc337_1 jc337_2 => ?_) (fun z σₚ Fₚ Aₚ Hₚ O sf sa q0 q1 => ?_)
  · skip
    subst ewc337_5
    have sd : SD [] (pul ι_we5_2 D) (pul ι_we5_2 D) := SD_refl
    have sn : SD [] (pul ι_we5_2 N) (pul ι_we5_2 N) := SD_refl
    have : F_c337 1 1 = F 6 1 := hS_c337 1 1 rfl
    have : F_c337 2 1 = F 25 1 := hS_c337 2 1 rfl
    have : A_c337 6 = A 10 := funext (hA_c337 6 rfl)
    refine hc337   _ _ (glu ι_we5_2 D (pul ι_we5_2 D)) (glu ι_we5_2 N (pul ι_we5_2 N)) (glu ι_we5_2 F F_c337) (glu ι_we5_2 A A_c337) _ _ ⟨HWs_call HX VPH_3 vs_we5_2 hp H O, STC_call HT HX vs_we5_2 hp O, hg0, PFI_glue (dl := []) hPF hS_c337 hA_c337 sd (by decide +kernel) (rexc_of (l := []) (by decide +kernel) ?_), ABS_glue hAB hS_c337 (by decide +kernel), NZ_glue hNZ vs_we5_2 hp sn (by decide +kernel), hGI, ?_, ?_, ?_, ?_, ?_, ?_, ?_, ?_, ?_, ?_⟩ ⟨(STP0_call (STY_call vs_we5_2 hp O) (sd 0 rfl) (RM_call vs_we5_2 O)), unt1_of (x := 10) (by decide +kernel) (fun p hp => funext (hA_c337 p hp))⟩ (EQD_glue hS_c337 hA_c337 sd sn (by decide +kernel)) lc337_0 lc337_1 (show ((A_c337 5)) 0 = ((A 32)) 0 by first | assumption | omega | rfl) (show HID (((A_c337 5)) 1 = w32 (((A 32)) 1 + (if BNA ((A 10)) 5 ((F 6 1)) < (F 25 1) then 1 else 0))) by first | assumption | omega | rfl)
    · intro e he h1 h2
      cases he
    · exact INV0_eq (EQD_glue hS_c337 hA_c337 sd sn (by decide +kernel)) hI0
    · exact fun h => INV1_eq (EQD_glue hS_c337 hA_c337 sd sn (by decide +kernel)) (hI1 h)
    · exact fun h => INV2_eq (EQD_glue hS_c337 hA_c337 sd sn (by decide +kernel)) (hI2 h)
    · exact fun h => INV3_eq (EQD_glue hS_c337 hA_c337 sd sn (by decide +kernel)) (hI3 h)
    · exact fun h => INV4_eq (EQD_glue hS_c337 hA_c337 sd sn (by decide +kernel)) (hI4 h)
    · exact fun h => INV5_eq (EQD_glue hS_c337 hA_c337 sd sn (by decide +kernel)) (hI5 h)
    · exact fun h => INV6_eq (EQD_glue hS_c337 hA_c337 sd sn (by decide +kernel)) (hI6 h)
    · exact fun h => INV7_eq (EQD_glue hS_c337 hA_c337 sd sn (by decide +kernel)) (hI7 h)
    · exact fun h => INV8_eq (EQD_glue hS_c337 hA_c337 sd sn (by decide +kernel)) (hI8 h)
    · exact fun h => INV9_eq (EQD_glue hS_c337 hA_c337 sd sn (by decide +kernel)) (hI9 h)
  · skip
    have sd : SD [] (pul ι_we5_2 D) (pul ι_we5_2 D) := SD_refl
    have sn : SD [] (pul ι_we5_2 N) (pul ι_we5_2 N) := SD_refl
    refine k z _ (glu ι_we5_2 D (pul ι_we5_2 D)) (glu ι_we5_2 N (pul ι_we5_2 N)) (glu ι_we5_2 F Fₚ) (glu ι_we5_2 A Aₚ) _ _ ⟨HWs_call HX VPH_3 vs_we5_2 hp Hₚ O, STC_call HT HX vs_we5_2 hp O, hg0, PFI_glue (dl := []) hPF sf sa sd (by decide +kernel) (rexc_of (l := []) (by decide +kernel) ?_), ABS_glue hAB sf (by decide +kernel), NZ_glue hNZ vs_we5_2 hp sn (by decide +kernel), hGI, ?_, ?_, ?_, ?_, ?_, ?_, ?_, ?_, ?_, ?_⟩ ⟨(STP0_call (STY_call vs_we5_2 hp O) (sd 0 rfl) (RM_call vs_we5_2 O)), unt1_of (x := 10) (by decide +kernel) (fun p hp => funext (sa p hp))⟩ (EQD_glue sf sa sd sn (by decide +kernel)) (show (0 : Int) = 1 by first | assumption | omega | rfl)
    · intro e he h1 h2
      cases he
    · exact INV0_eq (EQD_glue sf sa sd sn (by decide +kernel)) hI0
    · exact fun h => INV1_eq (EQD_glue sf sa sd sn (by decide +kernel)) (hI1 h)
    · exact fun h => INV2_eq (EQD_glue sf sa sd sn (by decide +kernel)) (hI2 h)
    · exact fun h => INV3_eq (EQD_glue sf sa sd sn (by decide +kernel)) (hI3 h)
    · exact fun h => INV4_eq (EQD_glue sf sa sd sn (by decide +kernel)) (hI4 h)
    · exact fun h => INV5_eq (EQD_glue sf sa sd sn (by decide +kernel)) (hI5 h)
    · exact fun h => INV6_eq (EQD_glue sf sa sd sn (by decide +kernel)) (hI6 h)
    · exact fun h => INV7_eq (EQD_glue sf sa sd sn (by decide +kernel)) (hI7 h)
    · exact fun h => INV8_eq (EQD_glue sf sa sd sn (by decide +kernel)) (hI8 h)
    · exact fun h => INV9_eq (EQD_glue sf sa sd sn (by decide +kernel)) (hI9 h)
def ι_we5_3 : List Nat := [0, 8, 25, 26, 9, 32, 10]
theorem vs_we5_3 : VS VPH V17_vE5 ι_we5_3 := VS_of (by decide +kernel)
set_option maxRecDepth 20000 in
theorem T_we5_3 {Dc : DcS} {g : Nat → Bool} {σ : rS} {D N : Nat → Nat} {F : hF} {A : hA} {d c s : Nat} {Q : wQ} (X : PHI Dc g σ D N F A)  {x1 : Int} {ls : rO} (hl0 : rlook ls 0 = some (.ref (D 0))) (hl1 : rlook ls 1 = some (I x1)) (hl3 : rlook ls 3 = some (I (5))) (hl4 : rlook ls 4 = some (.ref (D 8))) (h0 : inr x1) (x_0 : (F 8 1) ≤ 16384) (hc337 : ∀ (ls : rO) (σₚ : rS) (Dₚ Nₚ : Nat → Nat) (Fₚ : hF) (Aₚ : hA) (cₚ sₚ : Nat), PHI Dc g σₚ Dₚ Nₚ Fₚ Aₚ → STP g σ D N A c s g σₚ Dₚ Nₚ Aₚ cₚ sₚ → EQD [(2, 1), (4, 1), (6, 1), (8, 1), (11, 1), (0, 18), (25, 1)] [3, 5, 7, 9, 12, 10, 29, 30, 26] [] [] D N F A Dₚ Nₚ Fₚ Aₚ → rlook ls 0 = some (.ref (Dₚ 0)) → rlook ls 1 = some (I (x1)) → (((Aₚ 32)) 0 = ((A 32)) 0) → (HID (((Aₚ 32)) 1 = w32 (((A 32)) 1 + (if BNA ((A 10)) 5 ((F 8 1)) < (F 25 1) then 1 else 0)))) → Ew 17 (d + 3) 337 ls [] σₚ cₚ sₚ Q) (k : ∀ (z : Int) (σₚ : rS) (Dₚ Nₚ : Nat → Nat) (Fₚ : hF) (Aₚ : hA) (cₚ sₚ : Nat), PHI Dc g σₚ Dₚ Nₚ Fₚ Aₚ → STP g σ D N A c s g σₚ Dₚ Nₚ Aₚ cₚ sₚ → EQD [(2, 1), (4, 1), (6, 1), (8, 1), (11, 1), (0, 18), (25, 1)] [3, 5, 7, 9, 12, 10, 29, 30, 26] [] [] D N F A Dₚ Nₚ Fₚ Aₚ → ((0 : Int) = 1) → Q (some (I z)) σₚ cₚ sₚ) : Ew 17 (d + 3) 277 ls [] σ c s Q := by
  obtain ⟨HX, HT, hg0, hPF, hAB, hNZ, hGI, hI0, hI1, hI2, hI3, hI4, hI5, hI6, hI7, hI8, hI9⟩ := X
  have hset := SETI_f hI0.2.2.2.2.2.2.2.2.2.2.2.2.2.2.2.2.2.2.2.2.2.2.2.2
  have hJ0 := hI0
  unfold INV0 at hJ0
  obtain ⟨f0_0, f0_1, f0_2, f0_3, f0_4, f0_5, f0_6, f0_7, f0_8, f0_9, f0_10, f0_11, f0_12, f0_13, f0_14, f0_15, f0_16, f0_17, f0_18, f0_19, f0_20, f0_21, f0_22, f0_23, f0_24⟩ := hJ0
  have hp : ∀ x, x < (V17_vE5).length → SPH g (ι_we5_3.getD x 0) = true := SPH_of (gs := [0]) (by intro j hj; simp at hj; subst hj; exact hg0) rfl (by decide +kernel)
  refine C17_vE5 (D := pul ι_we5_3 D) (N := pul ι_we5_3 N) (F := pul ι_we5_3 F) (A := pul ι_we5_3 A) (HWs_sub HX vs_we5_3 hp) (show F 0 5 = (D 25 : Int) from hPF (0, 0, 5, 25) (List.mem_of_getElem? (i := 24) rfl) hg0 hg0) (show F 25 0 = (D 26 : Int) from hPF (0, 25, 0, 26) (List.mem_of_getElem? (i := 25) rfl) hg0 hg0) (show F 8 0 = (D 9 : Int) from hPF (0, 8, 0, 9) (List.mem_of_getElem? (i := 8) rfl) hg0 hg0) (show F 0 16 = (D 32 : Int) from hPF (0, 0, 16, 32) (List.mem_of_getElem? (i := 31) rfl) hg0 hg0) (show F 0 1 = (D 10 : Int) from hPF (0, 0, 1, 10) (List.mem_of_getElem? (i := 9) rfl) hg0 hg0) (N 26 : Int) rfl (N 9 : Int) rfl (N 32 : Int) rfl (N 10 : Int) rfl (F 8 1) rfl (F 25 1) rfl (A 10) rfl  hl0 hl1 hl3 hl4 (show inr (x1) by first | assumption | omega) (show 0 ≤ (F 25 1) ∧ (F 25 1) ≤ ((N 26 : Int)) ∧ ((N 26 : Int)) ≤ 65536 by first | assumption | omega) (show 0 ≤ (F 8 1) ∧ (F 8 1) ≤ ((N 9 : Int)) ∧ ((N 9 : Int)) ≤ 65536 by first | assumption | omega) (show (F 8 1) ≤ 16384 by first | assumption | omega) (show ((N 32 : Int)) = 2 by first | assumption | omega) (show 1 ≤ ((A 10)) 2 ∧ ((A 10)) 2 ≤ 65536 by first | assumption | omega) (show 0 ≤ ((A 10)) 8 ∧ ((A 10)) 8 ≤ 11 by first | assumption | omega) (show 0 ≤ ((A 10)) 6 ∧ ((A 10)) 6 ≤ 255 by first | assumption | omega) (show ((N 10 : Int)) = 10 by first | assumption | omega) (fun  ls σ F_c337 A_c337  lc337_0 lc337_1 H O hS_c337 hA_c337    wc337_5 ewc337_5 jc337_0 jc337_1 jc337_2 => ?_) (fun z σₚ Fₚ Aₚ Hₚ O sf sa q0 q1 => ?_)
  · skip
    subst ewc337_5
    have sd : SD [] (pul ι_we5_3 D) (pul ι_we5_3 D) := SD_refl
    have sn : SD [] (pul ι_we5_3 N) (pul ι_we5_3 N) := SD_refl
    have : F_c337 1 1 = F 8 1 := hS_c337 1 1 rfl
    have : F_c337 2 1 = F 25 1 := hS_c337 2 1 rfl
    have : A_c337 6 = A 10 := funext (hA_c337 6 rfl)
    refine hc337   _ _ (glu ι_we5_3 D (pul ι_we5_3 D)) (glu ι_we5_3 N (pul ι_we5_3 N)) (glu ι_we5_3 F F_c337) (glu ι_we5_3 A A_c337) _ _ ⟨HWs_call HX VPH_3 vs_we5_3 hp H O, STC_call HT HX vs_we5_3 hp O, hg0, PFI_glue (dl := []) hPF hS_c337 hA_c337 sd (by decide +kernel) (rexc_of (l := []) (by decide +kernel) ?_), ABS_glue hAB hS_c337 (by decide +kernel), NZ_glue hNZ vs_we5_3 hp sn (by decide +kernel), hGI, ?_, ?_, ?_, ?_, ?_, ?_, ?_, ?_, ?_, ?_⟩ ⟨(STP0_call (STY_call vs_we5_3 hp O) (sd 0 rfl) (RM_call vs_we5_3 O)), unt1_of (x := 10) (by decide +kernel) (fun p hp => funext (hA_c337 p hp))⟩ (EQD_glue hS_c337 hA_c337 sd sn (by decide +kernel)) lc337_0 lc337_1 (show ((A_c337 5)) 0 = ((A 32)) 0 by first | assumption | omega | rfl) (show HID (((A_c337 5)) 1 = w32 (((A 32)) 1 + (if BNA ((A 10)) 5 ((F 8 1)) < (F 25 1) then 1 else 0))) by first | assumption | omega | rfl)
    · intro e he h1 h2
      cases he
    · exact INV0_eq (EQD_glue hS_c337 hA_c337 sd sn (by decide +kernel)) hI0
    · exact fun h => INV1_eq (EQD_glue hS_c337 hA_c337 sd sn (by decide +kernel)) (hI1 h)
    · exact fun h => INV2_eq (EQD_glue hS_c337 hA_c337 sd sn (by decide +kernel)) (hI2 h)
    · exact fun h => INV3_eq (EQD_glue hS_c337 hA_c337 sd sn (by decide +kernel)) (hI3 h)
    · exact fun h => INV4_eq (EQD_glue hS_c337 hA_c337 sd sn (by decide +kernel)) (hI4 h)
    · exact fun h => INV5_eq (EQD_glue hS_c337 hA_c337 sd sn (by decide +kernel)) (hI5 h)
    · exact fun h => INV6_eq (EQD_glue hS_c337 hA_c337 sd sn (by decide +kernel)) (hI6 h)
    · exact fun h => INV7_eq (EQD_glue hS_c337 hA_c337 sd sn (by decide +kernel)) (hI7 h)
    · exact fun h => INV8_eq (EQD_glue hS_c337 hA_c337 sd sn (by decide +kernel)) (hI8 h)
    · exact fun h => INV9_eq (EQD_glue hS_c337 hA_c337 sd sn (by decide +kernel)) (hI9 h)
  · skip
    have sd : SD [] (pul ι_we5_3 D) (pul ι_we5_3 D) := SD_refl
    have sn : SD [] (pul ι_we5_3 N) (pul ι_we5_3 N) := SD_refl
    refine k z _ (glu ι_we5_3 D (pul ι_we5_3 D)) (glu ι_we5_3 N (pul ι_we5_3 N)) (glu ι_we5_3 F Fₚ) (glu ι_we5_3 A Aₚ) _ _ ⟨HWs_call HX VPH_3 vs_we5_3 hp Hₚ O, STC_call HT HX vs_we5_3 hp O, hg0, PFI_glue (dl := []) hPF sf sa sd (by decide +kernel) (rexc_of (l := []) (by decide +kernel) ?_), ABS_glue hAB sf (by decide +kernel), NZ_glue hNZ vs_we5_3 hp sn (by decide +kernel), hGI, ?_, ?_, ?_, ?_, ?_, ?_, ?_, ?_, ?_, ?_⟩ ⟨(STP0_call (STY_call vs_we5_3 hp O) (sd 0 rfl) (RM_call vs_we5_3 O)), unt1_of (x := 10) (by decide +kernel) (fun p hp => funext (sa p hp))⟩ (EQD_glue sf sa sd sn (by decide +kernel)) (show (0 : Int) = 1 by first | assumption | omega | rfl)
    · intro e he h1 h2
      cases he
    · exact INV0_eq (EQD_glue sf sa sd sn (by decide +kernel)) hI0
    · exact fun h => INV1_eq (EQD_glue sf sa sd sn (by decide +kernel)) (hI1 h)
    · exact fun h => INV2_eq (EQD_glue sf sa sd sn (by decide +kernel)) (hI2 h)
    · exact fun h => INV3_eq (EQD_glue sf sa sd sn (by decide +kernel)) (hI3 h)
    · exact fun h => INV4_eq (EQD_glue sf sa sd sn (by decide +kernel)) (hI4 h)
    · exact fun h => INV5_eq (EQD_glue sf sa sd sn (by decide +kernel)) (hI5 h)
    · exact fun h => INV6_eq (EQD_glue sf sa sd sn (by decide +kernel)) (hI6 h)
    · exact fun h => INV7_eq (EQD_glue sf sa sd sn (by decide +kernel)) (hI7 h)
    · exact fun h => INV8_eq (EQD_glue sf sa sd sn (by decide +kernel)) (hI8 h)
    · exact fun h => INV9_eq (EQD_glue sf sa sd sn (by decide +kernel)) (hI9 h)

