/-! write in pieces, over the state -/
def ι_wa : List Nat := [0, 1, 2, 3, 4, 5, 6, 7, 8, 9, 11, 13, 14]
theorem vs_wa : VS VPH V17_va ι_wa := VS_of (by decide +kernel)
set_option maxRecDepth 20000 in
theorem T_wa {g : Nat → Bool} {σ : rS} {D N : Nat → Nat} {F : hF} {A : hA} {d c s : Nat} {Q : wQ} (X : PHI g σ D N F A)  {a1 a2 a3 : Int}  (h0 : inr a1) (h1 : inr a2) (h2 : inr a3)  (hc46 : ∀ (ls : rO) (σₚ : rS) (Dₚ Nₚ : Nat → Nat) (Fₚ : hF) (Aₚ : hA) (cₚ sₚ : Nat), PHI g σₚ Dₚ Nₚ Fₚ Aₚ → STP g σ D N A c s g σₚ Dₚ Nₚ Aₚ cₚ sₚ → rlook ls 0 = some (.ref (Dₚ 0)) → rlook ls 1 = some (I (a1)) → rlook ls 2 = some (I (a2)) → rlook ls 3 = some (I (a3)) → (0 ≤ (a1) ∧ (a1) ≤ 3) → (0 ≤ (a2) ∧ (a2) ≤ 3) → (0 ≤ (a3) ∧ (a3) ≤ 5) → (0 ≠ a2 ∨ (Fₚ 2 1) + (0) ≤ 16384) → (1 ≠ a2 ∨ (Fₚ 4 1) + (0) ≤ 16384) → (2 ≠ a2 ∨ (Fₚ 6 1) + (0) ≤ 16384) → (3 ≠ a2 ∨ (Fₚ 8 1) + (0) ≤ 16384) → (0 ≠ a2 ∨ 2 ≤ a3 ∨ (Fₚ 2 1) + (Fₚ 11 1) ≤ 16384) → (1 ≠ a2 ∨ 2 ≤ a3 ∨ (Fₚ 4 1) + (Fₚ 11 1) ≤ 16384) → (2 ≠ a2 ∨ 2 ≤ a3 ∨ (Fₚ 6 1) + (Fₚ 11 1) ≤ 16384) → (3 ≠ a2 ∨ 2 ≤ a3 ∨ (Fₚ 8 1) + (Fₚ 11 1) ≤ 16384) → (0 ≠ a2 ∨ a3 ≠ 4 ∨ (Fₚ 2 1) + (Fₚ 14 1) ≤ 16384) → (1 ≠ a2 ∨ a3 ≠ 4 ∨ (Fₚ 4 1) + (Fₚ 14 1) ≤ 16384) → (2 ≠ a2 ∨ a3 ≠ 4 ∨ (Fₚ 6 1) + (Fₚ 14 1) ≤ 16384) → (3 ≠ a2 ∨ a3 ≠ 4 ∨ (Fₚ 8 1) + (Fₚ 14 1) ≤ 16384) → Ew 17 (d + 1) 46 ls [] σₚ cₚ sₚ Q) (k : ∀ (z : Int) (σₚ : rS) (Dₚ Nₚ : Nat → Nat) (Fₚ : hF) (Aₚ : hA) (cₚ sₚ : Nat), PHI g σₚ Dₚ Nₚ Fₚ Aₚ → STP g σ D N A c s g σₚ Dₚ Nₚ Aₚ cₚ sₚ → (inr z) → Q (some (I z)) σₚ cₚ sₚ) : Ew 17 (d + 1) 0 (rargs 0 [.ref (D 0), I a1, I a2, I a3]) [] σ c s Q := by
  obtain ⟨HX, HT, hg0, hPF, hAB, hNZ, hGI, hI0, hI1, hI2, hI3, hI4, hI5, hI6, hI7, hI8, hI9⟩ := X
  have hset := SETI_f hI0.2.2.2.2.2.2.2.2.2.2.2.2.2.2.2.2.2
  have hJ0 := hI0
  unfold INV0 at hJ0
  obtain ⟨f0_0, f0_1, f0_2, f0_3, f0_4, f0_5, f0_6, f0_7, f0_8, f0_9, f0_10, f0_11, f0_12, f0_13, f0_14, f0_15, f0_16, f0_17⟩ := hJ0
  have hp : ∀ x, x < (V17_va).length → SPH g (ι_wa.getD x 0) = true := SPH_of (gs := [0]) (by intro j hj; simp at hj; subst hj; exact hg0) rfl (by decide +kernel)
  refine C17_va (D := pul ι_wa D) (N := pul ι_wa N) (F := pul ι_wa F) (A := pul ι_wa A) (HWs_sub HX vs_wa hp) (show F 0 0 = (D 1 : Int) from hPF (0, 0, 0, 1) (List.mem_of_getElem? (i := 0) rfl) hg0 hg0) (show A 1 0 = (D 2 : Int) from hPF (1, 1, 0, 2) (List.mem_of_getElem? (i := 1) rfl) hg0 hg0) (show F 2 0 = (D 3 : Int) from hPF (0, 2, 0, 3) (List.mem_of_getElem? (i := 2) rfl) hg0 hg0) (show A 1 1 = (D 4 : Int) from hPF (1, 1, 1, 4) (List.mem_of_getElem? (i := 3) rfl) hg0 hg0) (show F 4 0 = (D 5 : Int) from hPF (0, 4, 0, 5) (List.mem_of_getElem? (i := 4) rfl) hg0 hg0) (show A 1 2 = (D 6 : Int) from hPF (1, 1, 2, 6) (List.mem_of_getElem? (i := 5) rfl) hg0 hg0) (show F 6 0 = (D 7 : Int) from hPF (0, 6, 0, 7) (List.mem_of_getElem? (i := 6) rfl) hg0 hg0) (show A 1 3 = (D 8 : Int) from hPF (1, 1, 3, 8) (List.mem_of_getElem? (i := 7) rfl) hg0 hg0) (show F 8 0 = (D 9 : Int) from hPF (0, 8, 0, 9) (List.mem_of_getElem? (i := 8) rfl) hg0 hg0) (show F 0 2 = (D 11 : Int) from hPF (0, 0, 2, 11) (List.mem_of_getElem? (i := 10) rfl) hg0 hg0) (show F 0 3 = (D 13 : Int) from hPF (0, 0, 3, 13) (List.mem_of_getElem? (i := 12) rfl) hg0 hg0) (show F 13 0 = (D 14 : Int) from hPF (0, 13, 0, 14) (List.mem_of_getElem? (i := 13) rfl) hg0 hg0) (N 1 : Int) rfl (N 3 : Int) rfl (N 5 : Int) rfl (N 7 : Int) rfl (N 9 : Int) rfl (F 2 1) rfl (F 4 1) rfl (F 6 1) rfl (F 8 1) rfl (F 11 1) rfl (F 14 1) rfl   (show inr (a1) by assumption) (show inr (a2) by assumption) (show inr (a3) by assumption) (show ((N 1 : Int)) = 4 by assumption) (show 0 ≤ (F 2 1) ∧ (F 2 1) ≤ ((N 3 : Int)) ∧ ((N 3 : Int)) ≤ 65536 by assumption) (show 0 ≤ (F 4 1) ∧ (F 4 1) ≤ ((N 5 : Int)) ∧ ((N 5 : Int)) ≤ 65536 by assumption) (show 0 ≤ (F 6 1) ∧ (F 6 1) ≤ ((N 7 : Int)) ∧ ((N 7 : Int)) ≤ 65536 by assumption) (show 0 ≤ (F 8 1) ∧ (F 8 1) ≤ ((N 9 : Int)) ∧ ((N 9 : Int)) ≤ 65536 by assumption) (show 0 ≤ (F 11 1) ∧ (F 11 1) ≤ 65536 by omega) (show 0 ≤ (F 14 1) ∧ (F 14 1) ≤ 65536 by omega) (fun  ls σ F_c46 A_c46  lc46_0 lc46_1 lc46_2 lc46_3 H O hS_c46 hA_c46     jc46_0 jc46_1 jc46_2 jc46_3 jc46_4 jc46_5 jc46_6 jc46_7 jc46_8 jc46_9 jc46_10 jc46_11 jc46_12 jc46_13 jc46_14 => ?_) (fun z σₚ Fₚ Aₚ Hₚ O sf sa q0 => ?_)
  · skip
    have sd : SD [] (pul ι_wa D) (pul ι_wa D) := SD_refl
    have sn : SD [] (pul ι_wa N) (pul ι_wa N) := SD_refl
    have : F_c46 2 1 = F 2 1 := hS_c46 2 1 rfl
    have : F_c46 4 1 = F 4 1 := hS_c46 4 1 rfl
    have : F_c46 6 1 = F 6 1 := hS_c46 6 1 rfl
    have : F_c46 8 1 = F 8 1 := hS_c46 8 1 rfl
    have : F_c46 10 1 = F 11 1 := hS_c46 10 1 rfl
    have : F_c46 12 1 = F 14 1 := hS_c46 12 1 rfl
    refine hc46   _ _ (glu ι_wa D (pul ι_wa D)) (glu ι_wa N (pul ι_wa N)) (glu ι_wa F F_c46) (glu ι_wa A A_c46) _ _ ⟨HWs_call HX VPH_3 vs_wa hp H O, STC_call HT HX vs_wa hp O, hg0, PFI_glue (dl := []) hPF hS_c46 hA_c46 sd (by decide +kernel) (rexc_of (l := []) (by decide +kernel) ?_), ABS_glue hAB hS_c46 (by decide +kernel), NZ_glue hNZ vs_wa hp sn (by decide +kernel), hGI, ?_, ?_, ?_, ?_, ?_, ?_, ?_, ?_, ?_, ?_⟩ ⟨(STP0_call (STY_call vs_wa hp O) (sd 0 rfl) (RM_call vs_wa O)), unt1_of (x := 10) (by decide +kernel) (fun p hp => funext (hA_c46 p hp))⟩ lc46_0 lc46_1 lc46_2 lc46_3 (show 0 ≤ (a1) ∧ (a1) ≤ 3 by assumption) (show 0 ≤ (a2) ∧ (a2) ≤ 3 by assumption) (show 0 ≤ (a3) ∧ (a3) ≤ 5 by assumption) (show 0 ≠ a2 ∨ (F_c46 2 1) + (0) ≤ 16384 by (rw [show F_c46 2 1 = F 2 1 from hS_c46 2 1 rfl]; assumption)) (show 1 ≠ a2 ∨ (F_c46 4 1) + (0) ≤ 16384 by (rw [show F_c46 4 1 = F 4 1 from hS_c46 4 1 rfl]; assumption)) (show 2 ≠ a2 ∨ (F_c46 6 1) + (0) ≤ 16384 by (rw [show F_c46 6 1 = F 6 1 from hS_c46 6 1 rfl]; assumption)) (show 3 ≠ a2 ∨ (F_c46 8 1) + (0) ≤ 16384 by (rw [show F_c46 8 1 = F 8 1 from hS_c46 8 1 rfl]; assumption)) (show 0 ≠ a2 ∨ 2 ≤ a3 ∨ (F_c46 2 1) + (F_c46 10 1) ≤ 16384 by (rw [show F_c46 2 1 = F 2 1 from hS_c46 2 1 rfl, show F_c46 10 1 = F 11 1 from hS_c46 10 1 rfl]; assumption)) (show 1 ≠ a2 ∨ 2 ≤ a3 ∨ (F_c46 4 1) + (F_c46 10 1) ≤ 16384 by (rw [show F_c46 4 1 = F 4 1 from hS_c46 4 1 rfl, show F_c46 10 1 = F 11 1 from hS_c46 10 1 rfl]; assumption)) (show 2 ≠ a2 ∨ 2 ≤ a3 ∨ (F_c46 6 1) + (F_c46 10 1) ≤ 16384 by (rw [show F_c46 6 1 = F 6 1 from hS_c46 6 1 rfl, show F_c46 10 1 = F 11 1 from hS_c46 10 1 rfl]; assumption)) (show 3 ≠ a2 ∨ 2 ≤ a3 ∨ (F_c46 8 1) + (F_c46 10 1) ≤ 16384 by (rw [show F_c46 8 1 = F 8 1 from hS_c46 8 1 rfl, show F_c46 10 1 = F 11 1 from hS_c46 10 1 rfl]; assumption)) (show 0 ≠ a2 ∨ a3 ≠ 4 ∨ (F_c46 2 1) + (F_c46 12 1) ≤ 16384 by (rw [show F_c46 2 1 = F 2 1 from hS_c46 2 1 rfl, show F_c46 12 1 = F 14 1 from hS_c46 12 1 rfl]; assumption)) (show 1 ≠ a2 ∨ a3 ≠ 4 ∨ (F_c46 4 1) + (F_c46 12 1) ≤ 16384 by (rw [show F_c46 4 1 = F 4 1 from hS_c46 4 1 rfl, show F_c46 12 1 = F 14 1 from hS_c46 12 1 rfl]; assumption)) (show 2 ≠ a2 ∨ a3 ≠ 4 ∨ (F_c46 6 1) + (F_c46 12 1) ≤ 16384 by (rw [show F_c46 6 1 = F 6 1 from hS_c46 6 1 rfl, show F_c46 12 1 = F 14 1 from hS_c46 12 1 rfl]; assumption)) (show 3 ≠ a2 ∨ a3 ≠ 4 ∨ (F_c46 8 1) + (F_c46 12 1) ≤ 16384 by (rw [show F_c46 8 1 = F 8 1 from hS_c46 8 1 rfl, show F_c46 12 1 = F 14 1 from hS_c46 12 1 rfl]; assumption))
    · intro e he h1 h2
      cases he
    · exact INV0_eq (EQD_glue hS_c46 hA_c46 sd sn (by decide +kernel)) hI0
    · exact fun h => INV1_eq (EQD_glue hS_c46 hA_c46 sd sn (by decide +kernel)) (hI1 h)
    · exact fun h => INV2_eq (EQD_glue hS_c46 hA_c46 sd sn (by decide +kernel)) (hI2 h)
    · exact fun h => INV3_eq (EQD_glue hS_c46 hA_c46 sd sn (by decide +kernel)) (hI3 h)
    · exact fun h => INV4_eq (EQD_glue hS_c46 hA_c46 sd sn (by decide +kernel)) (hI4 h)
    · exact fun h => INV5_eq (EQD_glue hS_c46 hA_c46 sd sn (by decide +kernel)) (hI5 h)
    · exact fun h => INV6_eq (EQD_glue hS_c46 hA_c46 sd sn (by decide +kernel)) (hI6 h)
    · exact fun h => INV7_eq (EQD_glue hS_c46 hA_c46 sd sn (by decide +kernel)) (hI7 h)
    · exact fun h => INV8_eq (EQD_glue hS_c46 hA_c46 sd sn (by decide +kernel)) (hI8 h)
    · exact fun h => INV9_eq (EQD_glue hS_c46 hA_c46 sd sn (by decide +kernel)) (hI9 h)
  · skip
    have sd : SD [] (pul ι_wa D) (pul ι_wa D) := SD_refl
    have sn : SD [] (pul ι_wa N) (pul ι_wa N) := SD_refl
    refine k z _ (glu ι_wa D (pul ι_wa D)) (glu ι_wa N (pul ι_wa N)) (glu ι_wa F Fₚ) (glu ι_wa A Aₚ) _ _ ⟨HWs_call HX VPH_3 vs_wa hp Hₚ O, STC_call HT HX vs_wa hp O, hg0, PFI_glue (dl := []) hPF sf sa sd (by decide +kernel) (rexc_of (l := []) (by decide +kernel) ?_), ABS_glue hAB sf (by decide +kernel), NZ_glue hNZ vs_wa hp sn (by decide +kernel), hGI, ?_, ?_, ?_, ?_, ?_, ?_, ?_, ?_, ?_, ?_⟩ ⟨(STP0_call (STY_call vs_wa hp O) (sd 0 rfl) (RM_call vs_wa O)), unt1_of (x := 10) (by decide +kernel) (fun p hp => funext (sa p hp))⟩ (show inr z by assumption)
    · intro e he h1 h2
      cases he
    · exact INV0_eq (EQD_glue sf sa sd sn (by decide +kernel)) hI0
    · exact fun h => INV1_eq (EQD_glue sf sa sd sn (by decide +kernel)) (hI1 h)
    · exact fun h => INV2_eq (EQD_glue sf sa sd sn (by decide +kernel)) (hI2 h)
    · exact fun h => INV3_eq (EQD_glue sf sa sd sn (by decide +kernel)) (hI3 h)
    · exact fun h => INV4_eq (EQD_glue sf sa sd sn (by decide +kernel)) (hI4 h)
    · exact fun h => INV5_eq (EQD_glue sf sa sd sn (by decide +kernel)) (hI5 h)
    · exact fun h => INV6_eq (EQD_glue sf sa sd sn (by decide +kernel)) (hI6 h)
    · exact fun h => INV7_eq (EQD_glue sf sa sd sn (by decide +kernel)) (hI7 h)
    · exact fun h => INV8_eq (EQD_glue sf sa sd sn (by decide +kernel)) (hI8 h)
    · exact fun h => INV9_eq (EQD_glue sf sa sd sn (by decide +kernel)) (hI9 h)
def ι_wb0 : List Nat := [0, 1, 2, 3, 4, 5, 6, 7, 8, 9]
theorem vs_wb0 : VS VPH V17_vb0 ι_wb0 := VS_of (by decide +kernel)
set_option maxRecDepth 20000 in
theorem T_wb0 {g : Nat → Bool} {σ : rS} {D N : Nat → Nat} {F : hF} {A : hA} {d c s : Nat} {Q : wQ} (X : PHI g σ D N F A)  {x1 x3 : Int} {ls : rO} (hl0 : rlook ls 0 = some (.ref (D 0))) (hl1 : rlook ls 1 = some (I x1)) (hl2 : rlook ls 2 = some (I (0))) (hl3 : rlook ls 3 = some (I x3)) (h0 : inr x1) (h1 : inr x3) (x_0 : (F 2 1) ≤ 16384) (x_1 : 2 ≤ x3 ∨ (F 2 1) + (F 11 1) ≤ 16384) (x_2 : x3 ≠ 4 ∨ (F 2 1) + (F 14 1) ≤ 16384) (hc54 : ∀ (ls : rO) (σₚ : rS) (Dₚ Nₚ : Nat → Nat) (Fₚ : hF) (Aₚ : hA) (cₚ sₚ : Nat), PHI g σₚ Dₚ Nₚ Fₚ Aₚ → STP g σ D N A c s g σₚ Dₚ Nₚ Aₚ cₚ sₚ → rlook ls 0 = some (.ref (Dₚ 0)) → rlook ls 1 = some (I (x1)) → rlook ls 3 = some (I (x3)) → rlook ls 4 = some (.ref (Dₚ 2)) → ((Fₚ 2 1) ≤ 16384) → (2 ≤ (x3) ∨ (Fₚ 2 1) + (Fₚ 11 1) ≤ 16384) → ((x3) ≠ 4 ∨ (Fₚ 2 1) + (Fₚ 14 1) ≤ 16384) → Ew 17 (d + 0) 54 ls [] σₚ cₚ sₚ Q) (k : ∀ (z : Int) (σₚ : rS) (Dₚ Nₚ : Nat → Nat) (Fₚ : hF) (Aₚ : hA) (cₚ sₚ : Nat), PHI g σₚ Dₚ Nₚ Fₚ Aₚ → STP g σ D N A c s g σₚ Dₚ Nₚ Aₚ cₚ sₚ → (inr z) → Q (some (I z)) σₚ cₚ sₚ) : Ew 17 (d + 0) 46 ls [] σ c s Q := by
  obtain ⟨HX, HT, hg0, hPF, hAB, hNZ, hGI, hI0, hI1, hI2, hI3, hI4, hI5, hI6, hI7, hI8, hI9⟩ := X
  have hset := SETI_f hI0.2.2.2.2.2.2.2.2.2.2.2.2.2.2.2.2.2
  have hJ0 := hI0
  unfold INV0 at hJ0
  obtain ⟨f0_0, f0_1, f0_2, f0_3, f0_4, f0_5, f0_6, f0_7, f0_8, f0_9, f0_10, f0_11, f0_12, f0_13, f0_14, f0_15, f0_16, f0_17⟩ := hJ0
  have hp : ∀ x, x < (V17_vb0).length → SPH g (ι_wb0.getD x 0) = true := SPH_of (gs := [0]) (by intro j hj; simp at hj; subst hj; exact hg0) rfl (by decide +kernel)
  refine C17_vb0 (D := pul ι_wb0 D) (N := pul ι_wb0 N) (F := pul ι_wb0 F) (A := pul ι_wb0 A) (HWs_sub HX vs_wb0 hp) (show F 0 0 = (D 1 : Int) from hPF (0, 0, 0, 1) (List.mem_of_getElem? (i := 0) rfl) hg0 hg0) (show A 1 0 = (D 2 : Int) from hPF (1, 1, 0, 2) (List.mem_of_getElem? (i := 1) rfl) hg0 hg0) (show F 2 0 = (D 3 : Int) from hPF (0, 2, 0, 3) (List.mem_of_getElem? (i := 2) rfl) hg0 hg0) (show A 1 1 = (D 4 : Int) from hPF (1, 1, 1, 4) (List.mem_of_getElem? (i := 3) rfl) hg0 hg0) (show F 4 0 = (D 5 : Int) from hPF (0, 4, 0, 5) (List.mem_of_getElem? (i := 4) rfl) hg0 hg0) (show A 1 2 = (D 6 : Int) from hPF (1, 1, 2, 6) (List.mem_of_getElem? (i := 5) rfl) hg0 hg0) (show F 6 0 = (D 7 : Int) from hPF (0, 6, 0, 7) (List.mem_of_getElem? (i := 6) rfl) hg0 hg0) (show A 1 3 = (D 8 : Int) from hPF (1, 1, 3, 8) (List.mem_of_getElem? (i := 7) rfl) hg0 hg0) (show F 8 0 = (D 9 : Int) from hPF (0, 8, 0, 9) (List.mem_of_getElem? (i := 8) rfl) hg0 hg0) (N 1 : Int) rfl (N 3 : Int) rfl (N 5 : Int) rfl (N 7 : Int) rfl (N 9 : Int) rfl (F 2 1) rfl (F 4 1) rfl (F 6 1) rfl (F 8 1) rfl  hl0 hl1 hl2 hl3 (show inr (x1) by assumption) (show inr (x3) by assumption) (show ((N 1 : Int)) = 4 by assumption) (show 0 ≤ (F 2 1) ∧ (F 2 1) ≤ ((N 3 : Int)) ∧ ((N 3 : Int)) ≤ 65536 by assumption) (show 0 ≤ (F 4 1) ∧ (F 4 1) ≤ ((N 5 : Int)) ∧ ((N 5 : Int)) ≤ 65536 by assumption) (show 0 ≤ (F 6 1) ∧ (F 6 1) ≤ ((N 7 : Int)) ∧ ((N 7 : Int)) ≤ 65536 by assumption) (show 0 ≤ (F 8 1) ∧ (F 8 1) ≤ ((N 9 : Int)) ∧ ((N 9 : Int)) ≤ 65536 by assumption) (fun  ls σ F_c54 A_c54  lc54_0 lc54_1 lc54_3 lc54_4 H O hS_c54 hA_c54      => ?_) (fun z σₚ Fₚ Aₚ Hₚ O sf sa q0 => ?_)
  · skip
    have sd : SD [] (pul ι_wb0 D) (pul ι_wb0 D) := SD_refl
    have sn : SD [] (pul ι_wb0 N) (pul ι_wb0 N) := SD_refl
    have : F_c54 2 1 = F 2 1 := hS_c54 2 1 rfl
    refine hc54   _ _ (glu ι_wb0 D (pul ι_wb0 D)) (glu ι_wb0 N (pul ι_wb0 N)) (glu ι_wb0 F F_c54) (glu ι_wb0 A A_c54) _ _ ⟨HWs_call HX VPH_3 vs_wb0 hp H O, STC_call HT HX vs_wb0 hp O, hg0, PFI_glue (dl := []) hPF hS_c54 hA_c54 sd (by decide +kernel) (rexc_of (l := []) (by decide +kernel) ?_), ABS_glue hAB hS_c54 (by decide +kernel), NZ_glue hNZ vs_wb0 hp sn (by decide +kernel), hGI, ?_, ?_, ?_, ?_, ?_, ?_, ?_, ?_, ?_, ?_⟩ ⟨(STP0_call (STY_call vs_wb0 hp O) (sd 0 rfl) (RM_call vs_wb0 O)), unt1_of (x := 10) (by decide +kernel) (fun p hp => funext (hA_c54 p hp))⟩ lc54_0 lc54_1 lc54_3 lc54_4 (show (F_c54 2 1) ≤ 16384 by (rw [show F_c54 2 1 = F 2 1 from hS_c54 2 1 rfl]; assumption)) (show 2 ≤ (x3) ∨ (F_c54 2 1) + (F 11 1) ≤ 16384 by (rw [show F_c54 2 1 = F 2 1 from hS_c54 2 1 rfl]; assumption)) (show (x3) ≠ 4 ∨ (F_c54 2 1) + (F 14 1) ≤ 16384 by (rw [show F_c54 2 1 = F 2 1 from hS_c54 2 1 rfl]; assumption))
    · intro e he h1 h2
      cases he
    · exact INV0_eq (EQD_glue hS_c54 hA_c54 sd sn (by decide +kernel)) hI0
    · exact fun h => INV1_eq (EQD_glue hS_c54 hA_c54 sd sn (by decide +kernel)) (hI1 h)
    · exact fun h => INV2_eq (EQD_glue hS_c54 hA_c54 sd sn (by decide +kernel)) (hI2 h)
    · exact fun h => INV3_eq (EQD_glue hS_c54 hA_c54 sd sn (by decide +kernel)) (hI3 h)
    · exact fun h => INV4_eq (EQD_glue hS_c54 hA_c54 sd sn (by decide +kernel)) (hI4 h)
    · exact fun h => INV5_eq (EQD_glue hS_c54 hA_c54 sd sn (by decide +kernel)) (hI5 h)
    · exact fun h => INV6_eq (EQD_glue hS_c54 hA_c54 sd sn (by decide +kernel)) (hI6 h)
    · exact fun h => INV7_eq (EQD_glue hS_c54 hA_c54 sd sn (by decide +kernel)) (hI7 h)
    · exact fun h => INV8_eq (EQD_glue hS_c54 hA_c54 sd sn (by decide +kernel)) (hI8 h)
    · exact fun h => INV9_eq (EQD_glue hS_c54 hA_c54 sd sn (by decide +kernel)) (hI9 h)
  · skip
    have sd : SD [] (pul ι_wb0 D) (pul ι_wb0 D) := SD_refl
    have sn : SD [] (pul ι_wb0 N) (pul ι_wb0 N) := SD_refl
    refine k z _ (glu ι_wb0 D (pul ι_wb0 D)) (glu ι_wb0 N (pul ι_wb0 N)) (glu ι_wb0 F Fₚ) (glu ι_wb0 A Aₚ) _ _ ⟨HWs_call HX VPH_3 vs_wb0 hp Hₚ O, STC_call HT HX vs_wb0 hp O, hg0, PFI_glue (dl := []) hPF sf sa sd (by decide +kernel) (rexc_of (l := []) (by decide +kernel) ?_), ABS_glue hAB sf (by decide +kernel), NZ_glue hNZ vs_wb0 hp sn (by decide +kernel), hGI, ?_, ?_, ?_, ?_, ?_, ?_, ?_, ?_, ?_, ?_⟩ ⟨(STP0_call (STY_call vs_wb0 hp O) (sd 0 rfl) (RM_call vs_wb0 O)), unt1_of (x := 10) (by decide +kernel) (fun p hp => funext (sa p hp))⟩ (show inr z by assumption)
    · intro e he h1 h2
      cases he
    · exact INV0_eq (EQD_glue sf sa sd sn (by decide +kernel)) hI0
    · exact fun h => INV1_eq (EQD_glue sf sa sd sn (by decide +kernel)) (hI1 h)
    · exact fun h => INV2_eq (EQD_glue sf sa sd sn (by decide +kernel)) (hI2 h)
    · exact fun h => INV3_eq (EQD_glue sf sa sd sn (by decide +kernel)) (hI3 h)
    · exact fun h => INV4_eq (EQD_glue sf sa sd sn (by decide +kernel)) (hI4 h)
    · exact fun h => INV5_eq (EQD_glue sf sa sd sn (by decide +kernel)) (hI5 h)
    · exact fun h => INV6_eq (EQD_glue sf sa sd sn (by decide +kernel)) (hI6 h)
    · exact fun h => INV7_eq (EQD_glue sf sa sd sn (by decide +kernel)) (hI7 h)
    · exact fun h => INV8_eq (EQD_glue sf sa sd sn (by decide +kernel)) (hI8 h)
    · exact fun h => INV9_eq (EQD_glue sf sa sd sn (by decide +kernel)) (hI9 h)
def ι_wb1 : List Nat := [0, 1, 2, 3, 4, 5, 6, 7, 8, 9]
theorem vs_wb1 : VS VPH V17_vb1 ι_wb1 := VS_of (by decide +kernel)
set_option maxRecDepth 20000 in
theorem T_wb1 {g : Nat → Bool} {σ : rS} {D N : Nat → Nat} {F : hF} {A : hA} {d c s : Nat} {Q : wQ} (X : PHI g σ D N F A)  {x1 x3 : Int} {ls : rO} (hl0 : rlook ls 0 = some (.ref (D 0))) (hl1 : rlook ls 1 = some (I x1)) (hl2 : rlook ls 2 = some (I (1))) (hl3 : rlook ls 3 = some (I x3)) (h0 : inr x1) (h1 : inr x3) (x_0 : (F 4 1) ≤ 16384) (x_1 : 2 ≤ x3 ∨ (F 4 1) + (F 11 1) ≤ 16384) (x_2 : x3 ≠ 4 ∨ (F 4 1) + (F 14 1) ≤ 16384) (hc54 : ∀ (ls : rO) (σₚ : rS) (Dₚ Nₚ : Nat → Nat) (Fₚ : hF) (Aₚ : hA) (cₚ sₚ : Nat), PHI g σₚ Dₚ Nₚ Fₚ Aₚ → STP g σ D N A c s g σₚ Dₚ Nₚ Aₚ cₚ sₚ → rlook ls 0 = some (.ref (Dₚ 0)) → rlook ls 1 = some (I (x1)) → rlook ls 3 = some (I (x3)) → rlook ls 4 = some (.ref (Dₚ 4)) → ((Fₚ 4 1) ≤ 16384) → (2 ≤ (x3) ∨ (Fₚ 4 1) + (Fₚ 11 1) ≤ 16384) → ((x3) ≠ 4 ∨ (Fₚ 4 1) + (Fₚ 14 1) ≤ 16384) → Ew 17 (d + 0) 54 ls [] σₚ cₚ sₚ Q) (k : ∀ (z : Int) (σₚ : rS) (Dₚ Nₚ : Nat → Nat) (Fₚ : hF) (Aₚ : hA) (cₚ sₚ : Nat), PHI g σₚ Dₚ Nₚ Fₚ Aₚ → STP g σ D N A c s g σₚ Dₚ Nₚ Aₚ cₚ sₚ → (inr z) → Q (some (I z)) σₚ cₚ sₚ) : Ew 17 (d + 0) 46 ls [] σ c s Q := by
  obtain ⟨HX, HT, hg0, hPF, hAB, hNZ, hGI, hI0, hI1, hI2, hI3, hI4, hI5, hI6, hI7, hI8, hI9⟩ := X
  have hset := SETI_f hI0.2.2.2.2.2.2.2.2.2.2.2.2.2.2.2.2.2
  have hJ0 := hI0
  unfold INV0 at hJ0
  obtain ⟨f0_0, f0_1, f0_2, f0_3, f0_4, f0_5, f0_6, f0_7, f0_8, f0_9, f0_10, f0_11, f0_12, f0_13, f0_14, f0_15, f0_16, f0_17⟩ := hJ0
  have hp : ∀ x, x < (V17_vb1).length → SPH g (ι_wb1.getD x 0) = true := SPH_of (gs := [0]) (by intro j hj; simp at hj; subst hj; exact hg0) rfl (by decide +kernel)
  refine C17_vb1 (D := pul ι_wb1 D) (N := pul ι_wb1 N) (F := pul ι_wb1 F) (A := pul ι_wb1 A) (HWs_sub HX vs_wb1 hp) (show F 0 0 = (D 1 : Int) from hPF (0, 0, 0, 1) (List.mem_of_getElem? (i := 0) rfl) hg0 hg0) (show A 1 0 = (D 2 : Int) from hPF (1, 1, 0, 2) (List.mem_of_getElem? (i := 1) rfl) hg0 hg0) (show F 2 0 = (D 3 : Int) from hPF (0, 2, 0, 3) (List.mem_of_getElem? (i := 2) rfl) hg0 hg0) (show A 1 1 = (D 4 : Int) from hPF (1, 1, 1, 4) (List.mem_of_getElem? (i := 3) rfl) hg0 hg0) (show F 4 0 = (D 5 : Int) from hPF (0, 4, 0, 5) (List.mem_of_getElem? (i := 4) rfl) hg0 hg0) (show A 1 2 = (D 6 : Int) from hPF (1, 1, 2, 6) (List.mem_of_getElem? (i := 5) rfl) hg0 hg0) (show F 6 0 = (D 7 : Int) from hPF (0, 6, 0, 7) (List.mem_of_getElem? (i := 6) rfl) hg0 hg0) (show A 1 3 = (D 8 : Int) from hPF (1, 1, 3, 8) (List.mem_of_getElem? (i := 7) rfl) hg0 hg0) (show F 8 0 = (D 9 : Int) from hPF (0, 8, 0, 9) (List.mem_of_getElem? (i := 8) rfl) hg0 hg0) (N 1 : Int) rfl (N 3 : Int) rfl (N 5 : Int) rfl (N 7 : Int) rfl (N 9 : Int) rfl (F 2 1) rfl (F 4 1) rfl (F 6 1) rfl (F 8 1) rfl  hl0 hl1 hl2 hl3 (show inr (x1) by assumption) (show inr (x3) by assumption) (show ((N 1 : Int)) = 4 by assumption) (show 0 ≤ (F 2 1) ∧ (F 2 1) ≤ ((N 3 : Int)) ∧ ((N 3 : Int)) ≤ 65536 by assumption) (show 0 ≤ (F 4 1) ∧ (F 4 1) ≤ ((N 5 : Int)) ∧ ((N 5 : Int)) ≤ 65536 by assumption) (show 0 ≤ (F 6 1) ∧ (F 6 1) ≤ ((N 7 : Int)) ∧ ((N 7 : Int)) ≤ 65536 by assumption) (show 0 ≤ (F 8 1) ∧ (F 8 1) ≤ ((N 9 : Int)) ∧ ((N 9 : Int)) ≤ 65536 by assumption) (fun  ls σ F_c54 A_c54  lc54_0 lc54_1 lc54_3 lc54_4 H O hS_c54 hA_c54      => ?_) (fun z σₚ Fₚ Aₚ Hₚ O sf sa q0 => ?_)
  · skip
    have sd : SD [] (pul ι_wb1 D) (pul ι_wb1 D) := SD_refl
    have sn : SD [] (pul ι_wb1 N) (pul ι_wb1 N) := SD_refl
    have : F_c54 4 1 = F 4 1 := hS_c54 4 1 rfl
    refine hc54   _ _ (glu ι_wb1 D (pul ι_wb1 D)) (glu ι_wb1 N (pul ι_wb1 N)) (glu ι_wb1 F F_c54) (glu ι_wb1 A A_c54) _ _ ⟨HWs_call HX VPH_3 vs_wb1 hp H O, STC_call HT HX vs_wb1 hp O, hg0, PFI_glue (dl := []) hPF hS_c54 hA_c54 sd (by decide +kernel) (rexc_of (l := []) (by decide +kernel) ?_), ABS_glue hAB hS_c54 (by decide +kernel), NZ_glue hNZ vs_wb1 hp sn (by decide +kernel), hGI, ?_, ?_, ?_, ?_, ?_, ?_, ?_, ?_, ?_, ?_⟩ ⟨(STP0_call (STY_call vs_wb1 hp O) (sd 0 rfl) (RM_call vs_wb1 O)), unt1_of (x := 10) (by decide +kernel) (fun p hp => funext (hA_c54 p hp))⟩ lc54_0 lc54_1 lc54_3 lc54_4 (show (F_c54 4 1) ≤ 16384 by (rw [show F_c54 4 1 = F 4 1 from hS_c54 4 1 rfl]; assumption)) (show 2 ≤ (x3) ∨ (F_c54 4 1) + (F 11 1) ≤ 16384 by (rw [show F_c54 4 1 = F 4 1 from hS_c54 4 1 rfl]; assumption)) (show (x3) ≠ 4 ∨ (F_c54 4 1) + (F 14 1) ≤ 16384 by (rw [show F_c54 4 1 = F 4 1 from hS_c54 4 1 rfl]; assumption))
    · intro e he h1 h2
      cases he
    · exact INV0_eq (EQD_glue hS_c54 hA_c54 sd sn (by decide +kernel)) hI0
    · exact fun h => INV1_eq (EQD_glue hS_c54 hA_c54 sd sn (by decide +kernel)) (hI1 h)
    · exact fun h => INV2_eq (EQD_glue hS_c54 hA_c54 sd sn (by decide +kernel)) (hI2 h)
    · exact fun h => INV3_eq (EQD_glue hS_c54 hA_c54 sd sn (by decide +kernel)) (hI3 h)
    · exact fun h => INV4_eq (EQD_glue hS_c54 hA_c54 sd sn (by decide +kernel)) (hI4 h)
    · exact fun h => INV5_eq (EQD_glue hS_c54 hA_c54 sd sn (by decide +kernel)) (hI5 h)
    · exact fun h => INV6_eq (EQD_glue hS_c54 hA_c54 sd sn (by decide +kernel)) (hI6 h)
    · exact fun h => INV7_eq (EQD_glue hS_c54 hA_c54 sd sn (by decide +kernel)) (hI7 h)
    · exact fun h => INV8_eq (EQD_glue hS_c54 hA_c54 sd sn (by decide +kernel)) (hI8 h)
    · exact fun h => INV9_eq (EQD_glue hS_c54 hA_c54 sd sn (by decide +kernel)) (hI9 h)
  · skip
    have sd : SD [] (pul ι_wb1 D) (pul ι_wb1 D) := SD_refl
    have sn : SD [] (pul ι_wb1 N) (pul ι_wb1 N) := SD_refl
    refine k z _ (glu ι_wb1 D (pul ι_wb1 D)) (glu ι_wb1 N (pul ι_wb1 N)) (glu ι_wb1 F Fₚ) (glu ι_wb1 A Aₚ) _ _ ⟨HWs_call HX VPH_3 vs_wb1 hp Hₚ O, STC_call HT HX vs_wb1 hp O, hg0, PFI_glue (dl := []) hPF sf sa sd (by decide +kernel) (rexc_of (l := []) (by decide +kernel) ?_), ABS_glue hAB sf (by decide +kernel), NZ_glue hNZ vs_wb1 hp sn (by decide +kernel), hGI, ?_, ?_, ?_, ?_, ?_, ?_, ?_, ?_, ?_, ?_⟩ ⟨(STP0_call (STY_call vs_wb1 hp O) (sd 0 rfl) (RM_call vs_wb1 O)), unt1_of (x := 10) (by decide +kernel) (fun p hp => funext (sa p hp))⟩ (show inr z by assumption)
    · intro e he h1 h2
      cases he
    · exact INV0_eq (EQD_glue sf sa sd sn (by decide +kernel)) hI0
    · exact fun h => INV1_eq (EQD_glue sf sa sd sn (by decide +kernel)) (hI1 h)
    · exact fun h => INV2_eq (EQD_glue sf sa sd sn (by decide +kernel)) (hI2 h)
    · exact fun h => INV3_eq (EQD_glue sf sa sd sn (by decide +kernel)) (hI3 h)
    · exact fun h => INV4_eq (EQD_glue sf sa sd sn (by decide +kernel)) (hI4 h)
    · exact fun h => INV5_eq (EQD_glue sf sa sd sn (by decide +kernel)) (hI5 h)
    · exact fun h => INV6_eq (EQD_glue sf sa sd sn (by decide +kernel)) (hI6 h)
    · exact fun h => INV7_eq (EQD_glue sf sa sd sn (by decide +kernel)) (hI7 h)
    · exact fun h => INV8_eq (EQD_glue sf sa sd sn (by decide +kernel)) (hI8 h)
    · exact fun h => INV9_eq (EQD_glue sf sa sd sn (by decide +kernel)) (hI9 h)
def ι_wb2 : List Nat := [0, 1, 2, 3, 4, 5, 6, 7, 8, 9]
theorem vs_wb2 : VS VPH V17_vb2 ι_wb2 := VS_of (by decide +kernel)
set_option maxRecDepth 20000 in
theorem T_wb2 {g : Nat → Bool} {σ : rS} {D N : Nat → Nat} {F : hF} {A : hA} {d c s : Nat} {Q : wQ} (X : PHI g σ D N F A)  {x1 x3 : Int} {ls : rO} (hl0 : rlook ls 0 = some (.ref (D 0))) (hl1 : rlook ls 1 = some (I x1)) (hl2 : rlook ls 2 = some (I (2))) (hl3 : rlook ls 3 = some (I x3)) (h0 : inr x1) (h1 : inr x3) (x_0 : (F 6 1) ≤ 16384) (x_1 : 2 ≤ x3 ∨ (F 6 1) + (F 11 1) ≤ 16384) (x_2 : x3 ≠ 4 ∨ (F 6 1) + (F 14 1) ≤ 16384) (hc54 : ∀ (ls : rO) (σₚ : rS) (Dₚ Nₚ : Nat → Nat) (Fₚ : hF) (Aₚ : hA) (cₚ sₚ : Nat), PHI g σₚ Dₚ Nₚ Fₚ Aₚ → STP g σ D N A c s g σₚ Dₚ Nₚ Aₚ cₚ sₚ → rlook ls 0 = some (.ref (Dₚ 0)) → rlook ls 1 = some (I (x1)) → rlook ls 3 = some (I (x3)) → rlook ls 4 = some (.ref (Dₚ 6)) → ((Fₚ 6 1) ≤ 16384) → (2 ≤ (x3) ∨ (Fₚ 6 1) + (Fₚ 11 1) ≤ 16384) → ((x3) ≠ 4 ∨ (Fₚ 6 1) + (Fₚ 14 1) ≤ 16384) → Ew 17 (d + 0) 54 ls [] σₚ cₚ sₚ Q) (k : ∀ (z : Int) (σₚ : rS) (Dₚ Nₚ : Nat → Nat) (Fₚ : hF) (Aₚ : hA) (cₚ sₚ : Nat), PHI g σₚ Dₚ Nₚ Fₚ Aₚ → STP g σ D N A c s g σₚ Dₚ Nₚ Aₚ cₚ sₚ → (inr z) → Q (some (I z)) σₚ cₚ sₚ) : Ew 17 (d + 0) 46 ls [] σ c s Q := by
  obtain ⟨HX, HT, hg0, hPF, hAB, hNZ, hGI, hI0, hI1, hI2, hI3, hI4, hI5, hI6, hI7, hI8, hI9⟩ := X
  have hset := SETI_f hI0.2.2.2.2.2.2.2.2.2.2.2.2.2.2.2.2.2
  have hJ0 := hI0
  unfold INV0 at hJ0
  obtain ⟨f0_0, f0_1, f0_2, f0_3, f0_4, f0_5, f0_6, f0_7, f0_8, f0_9, f0_10, f0_11, f0_12, f0_13, f0_14, f0_15, f0_16, f0_17⟩ := hJ0
  have hp : ∀ x, x < (V17_vb2).length → SPH g (ι_wb2.getD x 0) = true := SPH_of (gs := [0]) (by intro j hj; simp at hj; subst hj; exact hg0) rfl (by decide +kernel)
  refine C17_vb2 (D := pul ι_wb2 D) (N := pul ι_wb2 N) (F := pul ι_wb2 F) (A := pul ι_wb2 A) (HWs_sub HX vs_wb2 hp) (show F 0 0 = (D 1 : Int) from hPF (0, 0, 0, 1) (List.mem_of_getElem? (i := 0) rfl) hg0 hg0) (show A 1 0 = (D 2 : Int) from hPF (1, 1, 0, 2) (List.mem_of_getElem? (i := 1) rfl) hg0 hg0) (show F 2 0 = (D 3 : Int) from hPF (0, 2, 0, 3) (List.mem_of_getElem? (i := 2) rfl) hg0 hg0) (show A 1 1 = (D 4 : Int) from hPF (1, 1, 1, 4) (List.mem_of_getElem? (i := 3) rfl) hg0 hg0) (show F 4 0 = (D 5 : Int) from hPF (0, 4, 0, 5) (List.mem_of_getElem? (i := 4) rfl) hg0 hg0) (show A 1 2 = (D 6 : Int) from hPF (1, 1, 2, 6) (List.mem_of_getElem? (i := 5) rfl) hg0 hg0) (show F 6 0 = (D 7 : Int) from hPF (0, 6, 0, 7) (List.mem_of_getElem? (i := 6) rfl) hg0 hg0) (show A 1 3 = (D 8 : Int) from hPF (1, 1, 3, 8) (List.mem_of_getElem? (i := 7) rfl) hg0 hg0) (show F 8 0 = (D 9 : Int) from hPF (0, 8, 0, 9) (List.mem_of_getElem? (i := 8) rfl) hg0 hg0) (N 1 : Int) rfl (N 3 : Int) rfl (N 5 : Int) rfl (N 7 : Int) rfl (N 9 : Int) rfl (F 2 1) rfl (F 4 1) rfl (F 6 1) rfl (F 8 1) rfl  hl0 hl1 hl2 hl3 (show inr (x1) by assumption) (show inr (x3) by assumption) (show ((N 1 : Int)) = 4 by assumption) (show 0 ≤ (F 2 1) ∧ (F 2 1) ≤ ((N 3 : Int)) ∧ ((N 3 : Int)) ≤ 65536 by assumption) (show 0 ≤ (F 4 1) ∧ (F 4 1) ≤ ((N 5 : Int)) ∧ ((N 5 : Int)) ≤ 65536 by assumption) (show 0 ≤ (F 6 1) ∧ (F 6 1) ≤ ((N 7 : Int)) ∧ ((N 7 : Int)) ≤ 65536 by assumption) (show 0 ≤ (F 8 1) ∧ (F 8 1) ≤ ((N 9 : Int)) ∧ ((N 9 : Int)) ≤ 65536 by assumption) (fun  ls σ F_c54 A_c54  lc54_0 lc54_1 lc54_3 lc54_4 H O hS_c54 hA_c54      => ?_) (fun z σₚ Fₚ Aₚ Hₚ O sf sa q0 => ?_)
  · skip
    have sd : SD [] (pul ι_wb2 D) (pul ι_wb2 D) := SD_refl
    have sn : SD [] (pul ι_wb2 N) (pul ι_wb2 N) := SD_refl
    have : F_c54 6 1 = F 6 1 := hS_c54 6 1 rfl
    refine hc54   _ _ (glu ι_wb2 D (pul ι_wb2 D)) (glu ι_wb2 N (pul ι_wb2 N)) (glu ι_wb2 F F_c54) (glu ι_wb2 A A_c54) _ _ ⟨HWs_call HX VPH_3 vs_wb2 hp H O, STC_call HT HX vs_wb2 hp O, hg0, PFI_glue (dl := []) hPF hS_c54 hA_c54 sd (by decide +kernel) (rexc_of (l := []) (by decide +kernel) ?_), ABS_glue hAB hS_c54 (by decide +kernel), NZ_glue hNZ vs_wb2 hp sn (by decide +kernel), hGI, ?_, ?_, ?_, ?_, ?_, ?_, ?_, ?_, ?_, ?_⟩ ⟨(STP0_call (STY_call vs_wb2 hp O) (sd 0 rfl) (RM_call vs_wb2 O)), unt1_of (x := 10) (by decide +kernel) (fun p hp => funext (hA_c54 p hp))⟩ lc54_0 lc54_1 lc54_3 lc54_4 (show (F_c54 6 1) ≤ 16384 by (rw [show F_c54 6 1 = F 6 1 from hS_c54 6 1 rfl]; assumption)) (show 2 ≤ (x3) ∨ (F_c54 6 1) + (F 11 1) ≤ 16384 by (rw [show F_c54 6 1 = F 6 1 from hS_c54 6 1 rfl]; assumption)) (show (x3) ≠ 4 ∨ (F_c54 6 1) + (F 14 1) ≤ 16384 by (rw [show F_c54 6 1 = F 6 1 from hS_c54 6 1 rfl]; assumption))
    · intro e he h1 h2
      cases he
    · exact INV0_eq (EQD_glue hS_c54 hA_c54 sd sn (by decide +kernel)) hI0
    · exact fun h => INV1_eq (EQD_glue hS_c54 hA_c54 sd sn (by decide +kernel)) (hI1 h)
    · exact fun h => INV2_eq (EQD_glue hS_c54 hA_c54 sd sn (by decide +kernel)) (hI2 h)
    · exact fun h => INV3_eq (EQD_glue hS_c54 hA_c54 sd sn (by decide +kernel)) (hI3 h)
    · exact fun h => INV4_eq (EQD_glue hS_c54 hA_c54 sd sn (by decide +kernel)) (hI4 h)
    · exact fun h => INV5_eq (EQD_glue hS_c54 hA_c54 sd sn (by decide +kernel)) (hI5 h)
    · exact fun h => INV6_eq (EQD_glue hS_c54 hA_c54 sd sn (by decide +kernel)) (hI6 h)
    · exact fun h => INV7_eq (EQD_glue hS_c54 hA_c54 sd sn (by decide +kernel)) (hI7 h)
    · exact fun h => INV8_eq (EQD_glue hS_c54 hA_c54 sd sn (by decide +kernel)) (hI8 h)
    · exact fun h => INV9_eq (EQD_glue hS_c54 hA_c54 sd sn (by decide +kernel)) (hI9 h)
  · skip
    have sd : SD [] (pul ι_wb2 D) (pul ι_wb2 D) := SD_refl
    have sn : SD [] (pul ι_wb2 N) (pul ι_wb2 N) := SD_refl
    refine k z _ (glu ι_wb2 D (pul ι_wb2 D)) (glu ι_wb2 N (pul ι_wb2 N)) (glu ι_wb2 F Fₚ) (glu ι_wb2 A Aₚ) _ _ ⟨HWs_call HX VPH_3 vs_wb2 hp Hₚ O, STC_call HT HX vs_wb2 hp O, hg0, PFI_glue (dl := []) hPF sf sa sd (by decide +kernel) (rexc_of (l := []) (by decide +kernel) ?_), ABS_glue hAB sf (by decide +kernel), NZ_glue hNZ vs_wb2 hp sn (by decide +kernel), hGI, ?_, ?_, ?_, ?_, ?_, ?_, ?_, ?_, ?_, ?_⟩ ⟨(STP0_call (STY_call vs_wb2 hp O) (sd 0 rfl) (RM_call vs_wb2 O)), unt1_of (x := 10) (by decide +kernel) (fun p hp => funext (sa p hp))⟩ (show inr z by assumption)
    · intro e he h1 h2
      cases he
    · exact INV0_eq (EQD_glue sf sa sd sn (by decide +kernel)) hI0
    · exact fun h => INV1_eq (EQD_glue sf sa sd sn (by decide +kernel)) (hI1 h)
    · exact fun h => INV2_eq (EQD_glue sf sa sd sn (by decide +kernel)) (hI2 h)
    · exact fun h => INV3_eq (EQD_glue sf sa sd sn (by decide +kernel)) (hI3 h)
    · exact fun h => INV4_eq (EQD_glue sf sa sd sn (by decide +kernel)) (hI4 h)
    · exact fun h => INV5_eq (EQD_glue sf sa sd sn (by decide +kernel)) (hI5 h)
    · exact fun h => INV6_eq (EQD_glue sf sa sd sn (by decide +kernel)) (hI6 h)
    · exact fun h => INV7_eq (EQD_glue sf sa sd sn (by decide +kernel)) (hI7 h)
    · exact fun h => INV8_eq (EQD_glue sf sa sd sn (by decide +kernel)) (hI8 h)
    · exact fun h => INV9_eq (EQD_glue sf sa sd sn (by decide +kernel)) (hI9 h)
def ι_wb3 : List Nat := [0, 1, 2, 3, 4, 5, 6, 7, 8, 9]
theorem vs_wb3 : VS VPH V17_vb3 ι_wb3 := VS_of (by decide +kernel)
set_option maxRecDepth 20000 in
theorem T_wb3 {g : Nat → Bool} {σ : rS} {D N : Nat → Nat} {F : hF} {A : hA} {d c s : Nat} {Q : wQ} (X : PHI g σ D N F A)  {x1 x3 : Int} {ls : rO} (hl0 : rlook ls 0 = some (.ref (D 0))) (hl1 : rlook ls 1 = some (I x1)) (hl2 : rlook ls 2 = some (I (3))) (hl3 : rlook ls 3 = some (I x3)) (h0 : inr x1) (h1 : inr x3) (x_0 : (F 8 1) ≤ 16384) (x_1 : 2 ≤ x3 ∨ (F 8 1) + (F 11 1) ≤ 16384) (x_2 : x3 ≠ 4 ∨ (F 8 1) + (F 14 1) ≤ 16384) (hc54 : ∀ (ls : rO) (σₚ : rS) (Dₚ Nₚ : Nat → Nat) (Fₚ : hF) (Aₚ : hA) (cₚ sₚ : Nat), PHI g σₚ Dₚ Nₚ Fₚ Aₚ → STP g σ D N A c s g σₚ Dₚ Nₚ Aₚ cₚ sₚ → rlook ls 0 = some (.ref (Dₚ 0)) → rlook ls 1 = some (I (x1)) → rlook ls 3 = some (I (x3)) → rlook ls 4 = some (.ref (Dₚ 8)) → ((Fₚ 8 1) ≤ 16384) → (2 ≤ (x3) ∨ (Fₚ 8 1) + (Fₚ 11 1) ≤ 16384) → ((x3) ≠ 4 ∨ (Fₚ 8 1) + (Fₚ 14 1) ≤ 16384) → Ew 17 (d + 0) 54 ls [] σₚ cₚ sₚ Q) (k : ∀ (z : Int) (σₚ : rS) (Dₚ Nₚ : Nat → Nat) (Fₚ : hF) (Aₚ : hA) (cₚ sₚ : Nat), PHI g σₚ Dₚ Nₚ Fₚ Aₚ → STP g σ D N A c s g σₚ Dₚ Nₚ Aₚ cₚ sₚ → (inr z) → Q (some (I z)) σₚ cₚ sₚ) : Ew 17 (d + 0) 46 ls [] σ c s Q := by
  obtain ⟨HX, HT, hg0, hPF, hAB, hNZ, hGI, hI0, hI1, hI2, hI3, hI4, hI5, hI6, hI7, hI8, hI9⟩ := X
  have hset := SETI_f hI0.2.2.2.2.2.2.2.2.2.2.2.2.2.2.2.2.2
  have hJ0 := hI0
  unfold INV0 at hJ0
  obtain ⟨f0_0, f0_1, f0_2, f0_3, f0_4, f0_5, f0_6, f0_7, f0_8, f0_9, f0_10, f0_11, f0_12, f0_13, f0_14, f0_15, f0_16, f0_17⟩ := hJ0
  have hp : ∀ x, x < (V17_vb3).length → SPH g (ι_wb3.getD x 0) = true := SPH_of (gs := [0]) (by intro j hj; simp at hj; subst hj; exact hg0) rfl (by decide +kernel)
  refine C17_vb3 (D := pul ι_wb3 D) (N := pul ι_wb3 N) (F := pul ι_wb3 F) (A := pul ι_wb3 A) (HWs_sub HX vs_wb3 hp) (show F 0 0 = (D 1 : Int) from hPF (0, 0, 0, 1) (List.mem_of_getElem? (i := 0) rfl) hg0 hg0) (show A 1 0 = (D 2 : Int) from hPF (1, 1, 0, 2) (List.mem_of_getElem? (i := 1) rfl) hg0 hg0) (show F 2 0 = (D 3 : Int) from hPF (0, 2, 0, 3) (List.mem_of_getElem? (i := 2) rfl) hg0 hg0) (show A 1 1 = (D 4 : Int) from hPF (1, 1, 1, 4) (List.mem_of_getElem? (i := 3) rfl) hg0 hg0) (show F 4 0 = (D 5 : Int) from hPF (0, 4, 0, 5) (List.mem_of_getElem? (i := 4) rfl) hg0 hg0) (show A 1 2 = (D 6 : Int) from hPF (1, 1, 2, 6) (List.mem_of_getElem? (i := 5) rfl) hg0 hg0) (show F 6 0 = (D 7 : Int) from hPF (0, 6, 0, 7) (List.mem_of_getElem? (i := 6) rfl) hg0 hg0) (show A 1 3 = (D 8 : Int) from hPF (1, 1, 3, 8) (List.mem_of_getElem? (i := 7) rfl) hg0 hg0) (show F 8 0 = (D 9 : Int) from hPF (0, 8, 0, 9) (List.mem_of_getElem? (i := 8) rfl) hg0 hg0) (N 1 : Int) rfl (N 3 : Int) rfl (N 5 : Int) rfl (N 7 : Int) rfl (N 9 : Int) rfl (F 2 1) rfl (F 4 1) rfl (F 6 1) rfl (F 8 1) rfl  hl0 hl1 hl2 hl3 (show inr (x1) by assumption) (show inr (x3) by assumption) (show ((N 1 : Int)) = 4 by assumption) (show 0 ≤ (F 2 1) ∧ (F 2 1) ≤ ((N 3 : Int)) ∧ ((N 3 : Int)) ≤ 65536 by assumption) (show 0 ≤ (F 4 1) ∧ (F 4 1) ≤ ((N 5 : Int)) ∧ ((N 5 : Int)) ≤ 65536 by assumption) (show 0 ≤ (F 6 1) ∧ (F 6 1) ≤ ((N 7 : Int)) ∧ ((N 7 : Int)) ≤ 65536 by assumption) (show 0 ≤ (F 8 1) ∧ (F 8 1) ≤ ((N 9 : Int)) ∧ ((N 9 : Int)) ≤ 65536 by assumption) (fun  ls σ F_c54 A_c54  lc54_0 lc54_1 lc54_3 lc54_4 H O hS_c54 hA_c54      => ?_) (fun z σₚ Fₚ Aₚ Hₚ O sf sa q0 => ?_)
  · skip
    have sd : SD [] (pul ι_wb3 D) (pul ι_wb3 D) := SD_refl
    have sn : SD [] (pul ι_wb3 N) (pul ι_wb3 N) := SD_refl
    have : F_c54 8 1 = F 8 1 := hS_c54 8 1 rfl
    refine hc54   _ _ (glu ι_wb3 D (pul ι_wb3 D)) (glu ι_wb3 N (pul ι_wb3 N)) (glu ι_wb3 F F_c54) (glu ι_wb3 A A_c54) _ _ ⟨HWs_call HX VPH_3 vs_wb3 hp H O, STC_call HT HX vs_wb3 hp O, hg0, PFI_glue (dl := []) hPF hS_c54 hA_c54 sd (by decide +kernel) (rexc_of (l := []) (by decide +kernel) ?_), ABS_glue hAB hS_c54 (by decide +kernel), NZ_glue hNZ vs_wb3 hp sn (by decide +kernel), hGI, ?_, ?_, ?_, ?_, ?_, ?_, ?_, ?_, ?_, ?_⟩ ⟨(STP0_call (STY_call vs_wb3 hp O) (sd 0 rfl) (RM_call vs_wb3 O)), unt1_of (x := 10) (by decide +kernel) (fun p hp => funext (hA_c54 p hp))⟩ lc54_0 lc54_1 lc54_3 lc54_4 (show (F_c54 8 1) ≤ 16384 by (rw [show F_c54 8 1 = F 8 1 from hS_c54 8 1 rfl]; assumption)) (show 2 ≤ (x3) ∨ (F_c54 8 1) + (F 11 1) ≤ 16384 by (rw [show F_c54 8 1 = F 8 1 from hS_c54 8 1 rfl]; assumption)) (show (x3) ≠ 4 ∨ (F_c54 8 1) + (F 14 1) ≤ 16384 by (rw [show F_c54 8 1 = F 8 1 from hS_c54 8 1 rfl]; assumption))
    · intro e he h1 h2
      cases he
    · exact INV0_eq (EQD_glue hS_c54 hA_c54 sd sn (by decide +kernel)) hI0
    · exact fun h => INV1_eq (EQD_glue hS_c54 hA_c54 sd sn (by decide +kernel)) (hI1 h)
    · exact fun h => INV2_eq (EQD_glue hS_c54 hA_c54 sd sn (by decide +kernel)) (hI2 h)
    · exact fun h => INV3_eq (EQD_glue hS_c54 hA_c54 sd sn (by decide +kernel)) (hI3 h)
    · exact fun h => INV4_eq (EQD_glue hS_c54 hA_c54 sd sn (by decide +kernel)) (hI4 h)
    · exact fun h => INV5_eq (EQD_glue hS_c54 hA_c54 sd sn (by decide +kernel)) (hI5 h)
    · exact fun h => INV6_eq (EQD_glue hS_c54 hA_c54 sd sn (by decide +kernel)) (hI6 h)
    · exact fun h => INV7_eq (EQD_glue hS_c54 hA_c54 sd sn (by decide +kernel)) (hI7 h)
    · exact fun h => INV8_eq (EQD_glue hS_c54 hA_c54 sd sn (by decide +kernel)) (hI8 h)
    · exact fun h => INV9_eq (EQD_glue hS_c54 hA_c54 sd sn (by decide +kernel)) (hI9 h)
  · skip
    have sd : SD [] (pul ι_wb3 D) (pul ι_wb3 D) := SD_refl
    have sn : SD [] (pul ι_wb3 N) (pul ι_wb3 N) := SD_refl
    refine k z _ (glu ι_wb3 D (pul ι_wb3 D)) (glu ι_wb3 N (pul ι_wb3 N)) (glu ι_wb3 F Fₚ) (glu ι_wb3 A Aₚ) _ _ ⟨HWs_call HX VPH_3 vs_wb3 hp Hₚ O, STC_call HT HX vs_wb3 hp O, hg0, PFI_glue (dl := []) hPF sf sa sd (by decide +kernel) (rexc_of (l := []) (by decide +kernel) ?_), ABS_glue hAB sf (by decide +kernel), NZ_glue hNZ vs_wb3 hp sn (by decide +kernel), hGI, ?_, ?_, ?_, ?_, ?_, ?_, ?_, ?_, ?_, ?_⟩ ⟨(STP0_call (STY_call vs_wb3 hp O) (sd 0 rfl) (RM_call vs_wb3 O)), unt1_of (x := 10) (by decide +kernel) (fun p hp => funext (sa p hp))⟩ (show inr z by assumption)
    · intro e he h1 h2
      cases he
    · exact INV0_eq (EQD_glue sf sa sd sn (by decide +kernel)) hI0
    · exact fun h => INV1_eq (EQD_glue sf sa sd sn (by decide +kernel)) (hI1 h)
    · exact fun h => INV2_eq (EQD_glue sf sa sd sn (by decide +kernel)) (hI2 h)
    · exact fun h => INV3_eq (EQD_glue sf sa sd sn (by decide +kernel)) (hI3 h)
    · exact fun h => INV4_eq (EQD_glue sf sa sd sn (by decide +kernel)) (hI4 h)
    · exact fun h => INV5_eq (EQD_glue sf sa sd sn (by decide +kernel)) (hI5 h)
    · exact fun h => INV6_eq (EQD_glue sf sa sd sn (by decide +kernel)) (hI6 h)
    · exact fun h => INV7_eq (EQD_glue sf sa sd sn (by decide +kernel)) (hI7 h)
    · exact fun h => INV8_eq (EQD_glue sf sa sd sn (by decide +kernel)) (hI8 h)
    · exact fun h => INV9_eq (EQD_glue sf sa sd sn (by decide +kernel)) (hI9 h)
def ι_wc0_0 : List Nat := [0, 2, 25, 26]
theorem vs_wc0_0 : VS VPH V17_vc0 ι_wc0_0 := VS_of (by decide +kernel)
set_option maxRecDepth 20000 in
theorem T_wc0_0 {g : Nat → Bool} {σ : rS} {D N : Nat → Nat} {F : hF} {A : hA} {d c s : Nat} {Q : wQ} (X : PHI g σ D N F A)  {x1 : Int} {ls : rO} (hl0 : rlook ls 0 = some (.ref (D 0))) (hl1 : rlook ls 1 = some (I x1)) (hl3 : rlook ls 3 = some (I (0))) (hl4 : rlook ls 4 = some (.ref (D 2))) (h0 : inr x1) (x_0 : (F 2 1) ≤ 16384) (x_1 : (F 2 1) + (F 11 1) ≤ 16384) (hc101 : ∀ (x5_ : Int) (ls : rO) (σₚ : rS) (Dₚ Nₚ : Nat → Nat) (Fₚ : hF) (Aₚ : hA) (cₚ sₚ : Nat), PHI g σₚ Dₚ Nₚ Fₚ Aₚ → STP g σ D N A c s g σₚ Dₚ Nₚ Aₚ cₚ sₚ → rlook ls 0 = some (.ref (Dₚ 0)) → rlook ls 1 = some (I (x1)) → rlook ls 3 = some (I (0)) → rlook ls 4 = some (.ref (Dₚ 2)) → rlook ls 5 = some (I x5_) → ((Fₚ 2 1) ≤ 16384) → ((Fₚ 2 1) + (Fₚ 11 1) ≤ 16384) → ((Fₚ 25 1) = 0) → (x5_ = 1) → Ew 17 (d + 1) 101 ls [.ref (Dₚ 0)] σₚ cₚ sₚ Q) (k : ∀ (z : Int) (σₚ : rS) (Dₚ Nₚ : Nat → Nat) (Fₚ : hF) (Aₚ : hA) (cₚ sₚ : Nat), PHI g σₚ Dₚ Nₚ Fₚ Aₚ → STP g σ D N A c s g σₚ Dₚ Nₚ Aₚ cₚ sₚ → (inr z) → Q (some (I z)) σₚ cₚ sₚ) : Ew 17 (d + 1) 54 ls [] σ c s Q := by
  obtain ⟨HX, HT, hg0, hPF, hAB, hNZ, hGI, hI0, hI1, hI2, hI3, hI4, hI5, hI6, hI7, hI8, hI9⟩ := X
  have hset := SETI_f hI0.2.2.2.2.2.2.2.2.2.2.2.2.2.2.2.2.2
  have hJ0 := hI0
  unfold INV0 at hJ0
  obtain ⟨f0_0, f0_1, f0_2, f0_3, f0_4, f0_5, f0_6, f0_7, f0_8, f0_9, f0_10, f0_11, f0_12, f0_13, f0_14, f0_15, f0_16, f0_17⟩ := hJ0
  have hp : ∀ x, x < (V17_vc0).length → SPH g (ι_wc0_0.getD x 0) = true := SPH_of (gs := [0]) (by intro j hj; simp at hj; subst hj; exact hg0) rfl (by decide +kernel)
  refine C17_vc0 (D := pul ι_wc0_0 D) (N := pul ι_wc0_0 N) (F := pul ι_wc0_0 F) (A := pul ι_wc0_0 A) (HWs_sub HX vs_wc0_0 hp) (show F 0 5 = (D 25 : Int) from hPF (0, 0, 5, 25) (List.mem_of_getElem? (i := 24) rfl) hg0 hg0) (show F 25 0 = (D 26 : Int) from hPF (0, 25, 0, 26) (List.mem_of_getElem? (i := 25) rfl) hg0 hg0) (N 26 : Int) rfl (F 25 1) rfl  hl0 hl1 hl3 hl4 (show inr (x1) by assumption) (show 0 ≤ (F 25 1) ∧ (F 25 1) ≤ ((N 26 : Int)) ∧ ((N 26 : Int)) ≤ 65536 by assumption) (fun  ls σ F_c101 A_c101 xc101_5 lc101_0 lc101_1 lc101_3 lc101_4 lc101_5 H O hS_c101 hA_c101   yc101_2_1 eyc101_2_1  jc101_0 jc101_1 jc101_2 jc101_3 => ?_) (fun z σₚ Fₚ Aₚ Hₚ O sf sa q0 q1 => ?_)
  · skip
    subst eyc101_2_1
    have sd : SD [] (pul ι_wc0_0 D) (pul ι_wc0_0 D) := SD_refl
    have sn : SD [] (pul ι_wc0_0 N) (pul ι_wc0_0 N) := SD_refl
    have : F_c101 1 1 = F 2 1 := hS_c101 1 1 rfl
    refine hc101  xc101_5 _ _ (glu ι_wc0_0 D (pul ι_wc0_0 D)) (glu ι_wc0_0 N (pul ι_wc0_0 N)) (glu ι_wc0_0 F F_c101) (glu ι_wc0_0 A A_c101) _ _ ⟨HWs_call HX VPH_3 vs_wc0_0 hp H O, STC_call HT HX vs_wc0_0 hp O, hg0, PFI_glue (dl := []) hPF hS_c101 hA_c101 sd (by decide +kernel) (rexc_of (l := []) (by decide +kernel) ?_), ABS_glue hAB hS_c101 (by decide +kernel), NZ_glue hNZ vs_wc0_0 hp sn (by decide +kernel), hGI, ?_, ?_, ?_, ?_, ?_, ?_, ?_, ?_, ?_, ?_⟩ ⟨(STP0_call (STY_call vs_wc0_0 hp O) (sd 0 rfl) (RM_call vs_wc0_0 O)), unt1_of (x := 10) (by decide +kernel) (fun p hp => funext (hA_c101 p hp))⟩ lc101_0 lc101_1 lc101_3 lc101_4 lc101_5 (show (F_c101 1 1) ≤ 16384 by (rw [show F_c101 1 1 = F 2 1 from hS_c101 1 1 rfl]; assumption)) (show (F_c101 1 1) + (F 11 1) ≤ 16384 by (rw [show F_c101 1 1 = F 2 1 from hS_c101 1 1 rfl]; assumption)) (show (F_c101 2 1) = 0 by assumption) (show xc101_5 = 1 by assumption)
    · intro e he h1 h2
      cases he
    · skip
      exact ⟨QF0_0_eq (EQD_glue hS_c101 hA_c101 sd sn (by decide +kernel)) f0_0, QF0_1_eq (EQD_glue hS_c101 hA_c101 sd sn (by decide +kernel)) f0_1, QF0_2_eq (EQD_glue hS_c101 hA_c101 sd sn (by decide +kernel)) f0_2, QF0_3_eq (EQD_glue hS_c101 hA_c101 sd sn (by decide +kernel)) f0_3, QF0_4_eq (EQD_glue hS_c101 hA_c101 sd sn (by decide +kernel)) f0_4, show 0 ≤ (F_c101 2 1) ∧ (F_c101 2 1) ≤ ((N 26 : Int)) ∧ ((N 26 : Int)) ≤ 65536 from (by assumption), QF0_6_eq (EQD_glue hS_c101 hA_c101 sd sn (by decide +kernel)) f0_6, QF0_7_eq (EQD_glue hS_c101 hA_c101 sd sn (by decide +kernel)) f0_7, QF0_8_eq (EQD_glue hS_c101 hA_c101 sd sn (by decide +kernel)) f0_8, QF0_9_eq (EQD_glue hS_c101 hA_c101 sd sn (by decide +kernel)) f0_9, QF0_10_eq (EQD_glue hS_c101 hA_c101 sd sn (by decide +kernel)) f0_10, QF0_11_eq (EQD_glue hS_c101 hA_c101 sd sn (by decide +kernel)) f0_11, QF0_12_eq (EQD_glue hS_c101 hA_c101 sd sn (by decide +kernel)) f0_12, QF0_13_eq (EQD_glue hS_c101 hA_c101 sd sn (by decide +kernel)) f0_13, QF0_14_eq (EQD_glue hS_c101 hA_c101 sd sn (by decide +kernel)) f0_14, QF0_15_eq (EQD_glue hS_c101 hA_c101 sd sn (by decide +kernel)) f0_15, QF0_16_eq (EQD_glue hS_c101 hA_c101 sd sn (by decide +kernel)) f0_16, QF0_17_eq (EQD_glue hS_c101 hA_c101 sd sn (by decide +kernel)) f0_17⟩
    · exact fun h => INV1_eq (EQD_glue hS_c101 hA_c101 sd sn (by decide +kernel)) (hI1 h)
    · exact fun h => INV2_eq (EQD_glue hS_c101 hA_c101 sd sn (by decide +kernel)) (hI2 h)
    · exact fun h => INV3_eq (EQD_glue hS_c101 hA_c101 sd sn (by decide +kernel)) (hI3 h)
    · exact fun h => INV4_eq (EQD_glue hS_c101 hA_c101 sd sn (by decide +kernel)) (hI4 h)
    · exact fun h => INV5_eq (EQD_glue hS_c101 hA_c101 sd sn (by decide +kernel)) (hI5 h)
    · exact fun h => INV6_eq (EQD_glue hS_c101 hA_c101 sd sn (by decide +kernel)) (hI6 h)
    · exact fun h => INV7_eq (EQD_glue hS_c101 hA_c101 sd sn (by decide +kernel)) (hI7 h)
    · exact fun h => INV8_eq (EQD_glue hS_c101 hA_c101 sd sn (by decide +kernel)) (hI8 h)
    · exact fun h => INV9_eq (EQD_glue hS_c101 hA_c101 sd sn (by decide +kernel)) (hI9 h)
  · skip
    have sd : SD [] (pul ι_wc0_0 D) (pul ι_wc0_0 D) := SD_refl
    have sn : SD [] (pul ι_wc0_0 N) (pul ι_wc0_0 N) := SD_refl
    refine k z _ (glu ι_wc0_0 D (pul ι_wc0_0 D)) (glu ι_wc0_0 N (pul ι_wc0_0 N)) (glu ι_wc0_0 F Fₚ) (glu ι_wc0_0 A Aₚ) _ _ ⟨HWs_call HX VPH_3 vs_wc0_0 hp Hₚ O, STC_call HT HX vs_wc0_0 hp O, hg0, PFI_glue (dl := []) hPF sf sa sd (by decide +kernel) (rexc_of (l := []) (by decide +kernel) ?_), ABS_glue hAB sf (by decide +kernel), NZ_glue hNZ vs_wc0_0 hp sn (by decide +kernel), hGI, ?_, ?_, ?_, ?_, ?_, ?_, ?_, ?_, ?_, ?_⟩ ⟨(STP0_call (STY_call vs_wc0_0 hp O) (sd 0 rfl) (RM_call vs_wc0_0 O)), unt1_of (x := 10) (by decide +kernel) (fun p hp => funext (sa p hp))⟩ (show inr z by assumption)
    · intro e he h1 h2
      cases he
    · skip
      exact ⟨QF0_0_eq (EQD_glue sf sa sd sn (by decide +kernel)) f0_0, QF0_1_eq (EQD_glue sf sa sd sn (by decide +kernel)) f0_1, QF0_2_eq (EQD_glue sf sa sd sn (by decide +kernel)) f0_2, QF0_3_eq (EQD_glue sf sa sd sn (by decide +kernel)) f0_3, QF0_4_eq (EQD_glue sf sa sd sn (by decide +kernel)) f0_4, show 0 ≤ (Fₚ 2 1) ∧ (Fₚ 2 1) ≤ ((N 26 : Int)) ∧ ((N 26 : Int)) ≤ 65536 from (by omega), QF0_6_eq (EQD_glue sf sa sd sn (by decide +kernel)) f0_6, QF0_7_eq (EQD_glue sf sa sd sn (by decide +kernel)) f0_7, QF0_8_eq (EQD_glue sf sa sd sn (by decide +kernel)) f0_8, QF0_9_eq (EQD_glue sf sa sd sn (by decide +kernel)) f0_9, QF0_10_eq (EQD_glue sf sa sd sn (by decide +kernel)) f0_10, QF0_11_eq (EQD_glue sf sa sd sn (by decide +kernel)) f0_11, QF0_12_eq (EQD_glue sf sa sd sn (by decide +kernel)) f0_12, QF0_13_eq (EQD_glue sf sa sd sn (by decide +kernel)) f0_13, QF0_14_eq (EQD_glue sf sa sd sn (by decide +kernel)) f0_14, QF0_15_eq (EQD_glue sf sa sd sn (by decide +kernel)) f0_15, QF0_16_eq (EQD_glue sf sa sd sn (by decide +kernel)) f0_16, QF0_17_eq (EQD_glue sf sa sd sn (by decide +kernel)) f0_17⟩
    · exact fun h => INV1_eq (EQD_glue sf sa sd sn (by decide +kernel)) (hI1 h)
    · exact fun h => INV2_eq (EQD_glue sf sa sd sn (by decide +kernel)) (hI2 h)
    · exact fun h => INV3_eq (EQD_glue sf sa sd sn (by decide +kernel)) (hI3 h)
    · exact fun h => INV4_eq (EQD_glue sf sa sd sn (by decide +kernel)) (hI4 h)
    · exact fun h => INV5_eq (EQD_glue sf sa sd sn (by decide +kernel)) (hI5 h)
    · exact fun h => INV6_eq (EQD_glue sf sa sd sn (by decide +kernel)) (hI6 h)
    · exact fun h => INV7_eq (EQD_glue sf sa sd sn (by decide +kernel)) (hI7 h)
    · exact fun h => INV8_eq (EQD_glue sf sa sd sn (by decide +kernel)) (hI8 h)
    · exact fun h => INV9_eq (EQD_glue sf sa sd sn (by decide +kernel)) (hI9 h)
def ι_wc0_1 : List Nat := [0, 4, 25, 26]
theorem vs_wc0_1 : VS VPH V17_vc0 ι_wc0_1 := VS_of (by decide +kernel)
set_option maxRecDepth 20000 in
theorem T_wc0_1 {g : Nat → Bool} {σ : rS} {D N : Nat → Nat} {F : hF} {A : hA} {d c s : Nat} {Q : wQ} (X : PHI g σ D N F A)  {x1 : Int} {ls : rO} (hl0 : rlook ls 0 = some (.ref (D 0))) (hl1 : rlook ls 1 = some (I x1)) (hl3 : rlook ls 3 = some (I (0))) (hl4 : rlook ls 4 = some (.ref (D 4))) (h0 : inr x1) (x_0 : (F 4 1) ≤ 16384) (x_1 : (F 4 1) + (F 11 1) ≤ 16384) (hc101 : ∀ (x5_ : Int) (ls : rO) (σₚ : rS) (Dₚ Nₚ : Nat → Nat) (Fₚ : hF) (Aₚ : hA) (cₚ sₚ : Nat), PHI g σₚ Dₚ Nₚ Fₚ Aₚ → STP g σ D N A c s g σₚ Dₚ Nₚ Aₚ cₚ sₚ → rlook ls 0 = some (.ref (Dₚ 0)) → rlook ls 1 = some (I (x1)) → rlook ls 3 = some (I (0)) → rlook ls 4 = some (.ref (Dₚ 4)) → rlook ls 5 = some (I x5_) → ((Fₚ 4 1) ≤ 16384) → ((Fₚ 4 1) + (Fₚ 11 1) ≤ 16384) → ((Fₚ 25 1) = 0) → (x5_ = 1) → Ew 17 (d + 1) 101 ls [.ref (Dₚ 0)] σₚ cₚ sₚ Q) (k : ∀ (z : Int) (σₚ : rS) (Dₚ Nₚ : Nat → Nat) (Fₚ : hF) (Aₚ : hA) (cₚ sₚ : Nat), PHI g σₚ Dₚ Nₚ Fₚ Aₚ → STP g σ D N A c s g σₚ Dₚ Nₚ Aₚ cₚ sₚ → (inr z) → Q (some (I z)) σₚ cₚ sₚ) : Ew 17 (d + 1) 54 ls [] σ c s Q := by
  obtain ⟨HX, HT, hg0, hPF, hAB, hNZ, hGI, hI0, hI1, hI2, hI3, hI4, hI5, hI6, hI7, hI8, hI9⟩ := X
  have hset := SETI_f hI0.2.2.2.2.2.2.2.2.2.2.2.2.2.2.2.2.2
  have hJ0 := hI0
  unfold INV0 at hJ0
  obtain ⟨f0_0, f0_1, f0_2, f0_3, f0_4, f0_5, f0_6, f0_7, f0_8, f0_9, f0_10, f0_11, f0_12, f0_13, f0_14, f0_15, f0_16, f0_17⟩ := hJ0
  have hp : ∀ x, x < (V17_vc0).length → SPH g (ι_wc0_1.getD x 0) = true := SPH_of (gs := [0]) (by intro j hj; simp at hj; subst hj; exact hg0) rfl (by decide +kernel)
  refine C17_vc0 (D := pul ι_wc0_1 D) (N := pul ι_wc0_1 N) (F := pul ι_wc0_1 F) (A := pul ι_wc0_1 A) (HWs_sub HX vs_wc0_1 hp) (show F 0 5 = (D 25 : Int) from hPF (0, 0, 5, 25) (List.mem_of_getElem? (i := 24) rfl) hg0 hg0) (show F 25 0 = (D 26 : Int) from hPF (0, 25, 0, 26) (List.mem_of_getElem? (i := 25) rfl) hg0 hg0) (N 26 : Int) rfl (F 25 1) rfl  hl0 hl1 hl3 hl4 (show inr (x1) by assumption) (show 0 ≤ (F 25 1) ∧ (F 25 1) ≤ ((N 26 : Int)) ∧ ((N 26 : Int)) ≤ 65536 by assumption) (fun  ls σ F_c101 A_c101 xc101_5 lc101_0 lc101_1 lc101_3 lc101_4 lc101_5 H O hS_c101 hA_c101   yc101_2_1 eyc101_2_1  jc101_0 jc101_1 jc101_2 jc101_3 => ?_) (fun z σₚ Fₚ Aₚ Hₚ O sf sa q0 q1 => ?_)
  · skip
    subst eyc101_2_1
    have sd : SD [] (pul ι_wc0_1 D) (pul ι_wc0_1 D) := SD_refl
    have sn : SD [] (pul ι_wc0_1 N) (pul ι_wc0_1 N) := SD_refl
    have : F_c101 1 1 = F 4 1 := hS_c101 1 1 rfl
    refine hc101  xc101_5 _ _ (glu ι_wc0_1 D (pul ι_wc0_1 D)) (glu ι_wc0_1 N (pul ι_wc0_1 N)) (glu ι_wc0_1 F F_c101) (glu ι_wc0_1 A A_c101) _ _ ⟨HWs_call HX VPH_3 vs_wc0_1 hp H O, STC_call HT HX vs_wc0_1 hp O, hg0, PFI_glue (dl := []) hPF hS_c101 hA_c101 sd (by decide +kernel) (rexc_of (l := []) (by decide +kernel) ?_), ABS_glue hAB hS_c101 (by decide +kernel), NZ_glue hNZ vs_wc0_1 hp sn (by decide +kernel), hGI, ?_, ?_, ?_, ?_, ?_, ?_, ?_, ?_, ?_, ?_⟩ ⟨(STP0_call (STY_call vs_wc0_1 hp O) (sd 0 rfl) (RM_call vs_wc0_1 O)), unt1_of (x := 10) (by decide +kernel) (fun p hp => funext (hA_c101 p hp))⟩ lc101_0 lc101_1 lc101_3 lc101_4 lc101_5 (show (F_c101 1 1) ≤ 16384 by (rw [show F_c101 1 1 = F 4 1 from hS_c101 1 1 rfl]; assumption)) (show (F_c101 1 1) + (F 11 1) ≤ 16384 by (rw [show F_c101 1 1 = F 4 1 from hS_c101 1 1 rfl]; assumption)) (show (F_c101 2 1) = 0 by assumption) (show xc101_5 = 1 by assumption)
    · intro e he h1 h2
      cases he
    · skip
      exact ⟨QF0_0_eq (EQD_glue hS_c101 hA_c101 sd sn (by decide +kernel)) f0_0, QF0_1_eq (EQD_glue hS_c101 hA_c101 sd sn (by decide +kernel)) f0_1, QF0_2_eq (EQD_glue hS_c101 hA_c101 sd sn (by decide +kernel)) f0_2, QF0_3_eq (EQD_glue hS_c101 hA_c101 sd sn (by decide +kernel)) f0_3, QF0_4_eq (EQD_glue hS_c101 hA_c101 sd sn (by decide +kernel)) f0_4, show 0 ≤ (F_c101 2 1) ∧ (F_c101 2 1) ≤ ((N 26 : Int)) ∧ ((N 26 : Int)) ≤ 65536 from (by assumption), QF0_6_eq (EQD_glue hS_c101 hA_c101 sd sn (by decide +kernel)) f0_6, QF0_7_eq (EQD_glue hS_c101 hA_c101 sd sn (by decide +kernel)) f0_7, QF0_8_eq (EQD_glue hS_c101 hA_c101 sd sn (by decide +kernel)) f0_8, QF0_9_eq (EQD_glue hS_c101 hA_c101 sd sn (by decide +kernel)) f0_9, QF0_10_eq (EQD_glue hS_c101 hA_c101 sd sn (by decide +kernel)) f0_10, QF0_11_eq (EQD_glue hS_c101 hA_c101 sd sn (by decide +kernel)) f0_11, QF0_12_eq (EQD_glue hS_c101 hA_c101 sd sn (by decide +kernel)) f0_12, QF0_13_eq (EQD_glue hS_c101 hA_c101 sd sn (by decide +kernel)) f0_13, QF0_14_eq (EQD_glue hS_c101 hA_c101 sd sn (by decide +kernel)) f0_14, QF0_15_eq (EQD_glue hS_c101 hA_c101 sd sn (by decide +kernel)) f0_15, QF0_16_eq (EQD_glue hS_c101 hA_c101 sd sn (by decide +kernel)) f0_16, QF0_17_eq (EQD_glue hS_c101 hA_c101 sd sn (by decide +kernel)) f0_17⟩
    · exact fun h => INV1_eq (EQD_glue hS_c101 hA_c101 sd sn (by decide +kernel)) (hI1 h)
    · exact fun h => INV2_eq (EQD_glue hS_c101 hA_c101 sd sn (by decide +kernel)) (hI2 h)
    · exact fun h => INV3_eq (EQD_glue hS_c101 hA_c101 sd sn (by decide +kernel)) (hI3 h)
    · exact fun h => INV4_eq (EQD_glue hS_c101 hA_c101 sd sn (by decide +kernel)) (hI4 h)
    · exact fun h => INV5_eq (EQD_glue hS_c101 hA_c101 sd sn (by decide +kernel)) (hI5 h)
    · exact fun h => INV6_eq (EQD_glue hS_c101 hA_c101 sd sn (by decide +kernel)) (hI6 h)
    · exact fun h => INV7_eq (EQD_glue hS_c101 hA_c101 sd sn (by decide +kernel)) (hI7 h)
    · exact fun h => INV8_eq (EQD_glue hS_c101 hA_c101 sd sn (by decide +kernel)) (hI8 h)
    · exact fun h => INV9_eq (EQD_glue hS_c101 hA_c101 sd sn (by decide +kernel)) (hI9 h)
  · skip
    have sd : SD [] (pul ι_wc0_1 D) (pul ι_wc0_1 D) := SD_refl
    have sn : SD [] (pul ι_wc0_1 N) (pul ι_wc0_1 N) := SD_refl
    refine k z _ (glu ι_wc0_1 D (pul ι_wc0_1 D)) (glu ι_wc0_1 N (pul ι_wc0_1 N)) (glu ι_wc0_1 F Fₚ) (glu ι_wc0_1 A Aₚ) _ _ ⟨HWs_call HX VPH_3 vs_wc0_1 hp Hₚ O, STC_call HT HX vs_wc0_1 hp O, hg0, PFI_glue (dl := []) hPF sf sa sd (by decide +kernel) (rexc_of (l := []) (by decide +kernel) ?_), ABS_glue hAB sf (by decide +kernel), NZ_glue hNZ vs_wc0_1 hp sn (by decide +kernel), hGI, ?_, ?_, ?_, ?_, ?_, ?_, ?_, ?_, ?_, ?_⟩ ⟨(STP0_call (STY_call vs_wc0_1 hp O) (sd 0 rfl) (RM_call vs_wc0_1 O)), unt1_of (x := 10) (by decide +kernel) (fun p hp => funext (sa p hp))⟩ (show inr z by assumption)
    · intro e he h1 h2
      cases he
    · skip
      exact ⟨QF0_0_eq (EQD_glue sf sa sd sn (by decide +kernel)) f0_0, QF0_1_eq (EQD_glue sf sa sd sn (by decide +kernel)) f0_1, QF0_2_eq (EQD_glue sf sa sd sn (by decide +kernel)) f0_2, QF0_3_eq (EQD_glue sf sa sd sn (by decide +kernel)) f0_3, QF0_4_eq (EQD_glue sf sa sd sn (by decide +kernel)) f0_4, show 0 ≤ (Fₚ 2 1) ∧ (Fₚ 2 1) ≤ ((N 26 : Int)) ∧ ((N 26 : Int)) ≤ 65536 from (by omega), QF0_6_eq (EQD_glue sf sa sd sn (by decide +kernel)) f0_6, QF0_7_eq (EQD_glue sf sa sd sn (by decide +kernel)) f0_7, QF0_8_eq (EQD_glue sf sa sd sn (by decide +kernel)) f0_8, QF0_9_eq (EQD_glue sf sa sd sn (by decide +kernel)) f0_9, QF0_10_eq (EQD_glue sf sa sd sn (by decide +kernel)) f0_10, QF0_11_eq (EQD_glue sf sa sd sn (by decide +kernel)) f0_11, QF0_12_eq (EQD_glue sf sa sd sn (by decide +kernel)) f0_12, QF0_13_eq (EQD_glue sf sa sd sn (by decide +kernel)) f0_13, QF0_14_eq (EQD_glue sf sa sd sn (by decide +kernel)) f0_14, QF0_15_eq (EQD_glue sf sa sd sn (by decide +kernel)) f0_15, QF0_16_eq (EQD_glue sf sa sd sn (by decide +kernel)) f0_16, QF0_17_eq (EQD_glue sf sa sd sn (by decide +kernel)) f0_17⟩
    · exact fun h => INV1_eq (EQD_glue sf sa sd sn (by decide +kernel)) (hI1 h)
    · exact fun h => INV2_eq (EQD_glue sf sa sd sn (by decide +kernel)) (hI2 h)
    · exact fun h => INV3_eq (EQD_glue sf sa sd sn (by decide +kernel)) (hI3 h)
    · exact fun h => INV4_eq (EQD_glue sf sa sd sn (by decide +kernel)) (hI4 h)
    · exact fun h => INV5_eq (EQD_glue sf sa sd sn (by decide +kernel)) (hI5 h)
    · exact fun h => INV6_eq (EQD_glue sf sa sd sn (by decide +kernel)) (hI6 h)
    · exact fun h => INV7_eq (EQD_glue sf sa sd sn (by decide +kernel)) (hI7 h)
    · exact fun h => INV8_eq (EQD_glue sf sa sd sn (by decide +kernel)) (hI8 h)
    · exact fun h => INV9_eq (EQD_glue sf sa sd sn (by decide +kernel)) (hI9 h)
def ι_wc0_2 : List Nat := [0, 6, 25, 26]
theorem vs_wc0_2 : VS VPH V17_vc0 ι_wc0_2 := VS_of (by decide +kernel)
set_option maxRecDepth 20000 in
theorem T_wc0_2 {g : Nat → Bool} {σ : rS} {D N : Nat → Nat} {F : hF} {A : hA} {d c s : Nat} {Q : wQ} (X : PHI g σ D N F A)  {x1 : Int} {ls : rO} (hl0 : rlook ls 0 = some (.ref (D 0))) (hl1 : rlook ls 1 = some (I x1)) (hl3 : rlook ls 3 = some (I (0))) (hl4 : rlook ls 4 = some (.ref (D 6))) (h0 : inr x1) (x_0 : (F 6 1) ≤ 16384) (x_1 : (F 6 1) + (F 11 1) ≤ 16384) (hc101 : ∀ (x5_ : Int) (ls : rO) (σₚ : rS) (Dₚ Nₚ : Nat → Nat) (Fₚ : hF) (Aₚ : hA) (cₚ sₚ : Nat), PHI g σₚ Dₚ Nₚ Fₚ Aₚ → STP g σ D N A c s g σₚ Dₚ Nₚ Aₚ cₚ sₚ → rlook ls 0 = some (.ref (Dₚ 0)) → rlook ls 1 = some (I (x1)) → rlook ls 3 = some (I (0)) → rlook ls 4 = some (.ref (Dₚ 6)) → rlook ls 5 = some (I x5_) → ((Fₚ 6 1) ≤ 16384) → ((Fₚ 6 1) + (Fₚ 11 1) ≤ 16384) → ((Fₚ 25 1) = 0) → (x5_ = 1) → Ew 17 (d + 1) 101 ls [.ref (Dₚ 0)] σₚ cₚ sₚ Q) (k : ∀ (z : Int) (σₚ : rS) (Dₚ Nₚ : Nat → Nat) (Fₚ : hF) (Aₚ : hA) (cₚ sₚ : Nat), PHI g σₚ Dₚ Nₚ Fₚ Aₚ → STP g σ D N A c s g σₚ Dₚ Nₚ Aₚ cₚ sₚ → (inr z) → Q (some (I z)) σₚ cₚ sₚ) : Ew 17 (d + 1) 54 ls [] σ c s Q := by
  obtain ⟨HX, HT, hg0, hPF, hAB, hNZ, hGI, hI0, hI1, hI2, hI3, hI4, hI5, hI6, hI7, hI8, hI9⟩ := X
  have hset := SETI_f hI0.2.2.2.2.2.2.2.2.2.2.2.2.2.2.2.2.2
  have hJ0 := hI0
  unfold INV0 at hJ0
  obtain ⟨f0_0, f0_1, f0_2, f0_3, f0_4, f0_5, f0_6, f0_7, f0_8, f0_9, f0_10, f0_11, f0_12, f0_13, f0_14, f0_15, f0_16, f0_17⟩ := hJ0
  have hp : ∀ x, x < (V17_vc0).length → SPH g (ι_wc0_2.getD x 0) = true := SPH_of (gs := [0]) (by intro j hj; simp at hj; subst hj; exact hg0) rfl (by decide +kernel)
  refine C17_vc0 (D := pul ι_wc0_2 D) (N := pul ι_wc0_2 N) (F := pul ι_wc0_2 F) (A := pul ι_wc0_2 A) (HWs_sub HX vs_wc0_2 hp) (show F 0 5 = (D 25 : Int) from hPF (0, 0, 5, 25) (List.mem_of_getElem? (i := 24) rfl) hg0 hg0) (show F 25 0 = (D 26 : Int) from hPF (0, 25, 0, 26) (List.mem_of_getElem? (i := 25) rfl) hg0 hg0) (N 26 : Int) rfl (F 25 1) rfl  hl0 hl1 hl3 hl4 (show inr (x1) by assumption) (show 0 ≤ (F 25 1) ∧ (F 25 1) ≤ ((N 26 : Int)) ∧ ((N 26 : Int)) ≤ 65536 by assumption) (fun  ls σ F_c101 A_c101 xc101_5 lc101_0 lc101_1 lc101_3 lc101_4 lc101_5 H O hS_c101 hA_c101   yc101_2_1 eyc101_2_1  jc101_0 jc101_1 jc101_2 jc101_3 => ?_) (fun z σₚ Fₚ Aₚ Hₚ O sf sa q0 q1 => ?_)
  · skip
    subst eyc101_2_1
    have sd : SD [] (pul ι_wc0_2 D) (pul ι_wc0_2 D) := SD_refl
    have sn : SD [] (pul ι_wc0_2 N) (pul ι_wc0_2 N) := SD_refl
    have : F_c101 1 1 = F 6 1 := hS_c101 1 1 rfl
    refine hc101  xc101_5 _ _ (glu ι_wc0_2 D (pul ι_wc0_2 D)) (glu ι_wc0_2 N (pul ι_wc0_2 N)) (glu ι_wc0_2 F F_c101) (glu ι_wc0_2 A A_c101) _ _ ⟨HWs_call HX VPH_3 vs_wc0_2 hp H O, STC_call HT HX vs_wc0_2 hp O, hg0, PFI_glue (dl := []) hPF hS_c101 hA_c101 sd (by decide +kernel) (rexc_of (l := []) (by decide +kernel) ?_), ABS_glue hAB hS_c101 (by decide +kernel), NZ_glue hNZ vs_wc0_2 hp sn (by decide +kernel), hGI, ?_, ?_, ?_, ?_, ?_, ?_, ?_, ?_, ?_, ?_⟩ ⟨(STP0_call (STY_call vs_wc0_2 hp O) (sd 0 rfl) (RM_call vs_wc0_2 O)), unt1_of (x := 10) (by decide +kernel) (fun p hp => funext (hA_c101 p hp))⟩ lc101_0 lc101_1 lc101_3 lc101_4 lc101_5 (show (F_c101 1 1) ≤ 16384 by (rw [show F_c101 1 1 = F 6 1 from hS_c101 1 1 rfl]; assumption)) (show (F_c101 1 1) + (F 11 1) ≤ 16384 by (rw [show F_c101 1 1 = F 6 1 from hS_c101 1 1 rfl]; assumption)) (show (F_c101 2 1) = 0 by assumption) (show xc101_5 = 1 by assumption)
    · intro e he h1 h2
      cases he
    · skip
      exact ⟨QF0_0_eq (EQD_glue hS_c101 hA_c101 sd sn (by decide +kernel)) f0_0, QF0_1_eq (EQD_glue hS_c101 hA_c101 sd sn (by decide +kernel)) f0_1, QF0_2_eq (EQD_glue hS_c101 hA_c101 sd sn (by decide +kernel)) f0_2, QF0_3_eq (EQD_glue hS_c101 hA_c101 sd sn (by decide +kernel)) f0_3, QF0_4_eq (EQD_glue hS_c101 hA_c101 sd sn (by decide +kernel)) f0_4, show 0 ≤ (F_c101 2 1) ∧ (F_c101 2 1) ≤ ((N 26 : Int)) ∧ ((N 26 : Int)) ≤ 65536 from (by assumption), QF0_6_eq (EQD_glue hS_c101 hA_c101 sd sn (by decide +kernel)) f0_6, QF0_7_eq (EQD_glue hS_c101 hA_c101 sd sn (by decide +kernel)) f0_7, QF0_8_eq (EQD_glue hS_c101 hA_c101 sd sn (by decide +kernel)) f0_8, QF0_9_eq (EQD_glue hS_c101 hA_c101 sd sn (by decide +kernel)) f0_9, QF0_10_eq (EQD_glue hS_c101 hA_c101 sd sn (by decide +kernel)) f0_10, QF0_11_eq (EQD_glue hS_c101 hA_c101 sd sn (by decide +kernel)) f0_11, QF0_12_eq (EQD_glue hS_c101 hA_c101 sd sn (by decide +kernel)) f0_12, QF0_13_eq (EQD_glue hS_c101 hA_c101 sd sn (by decide +kernel)) f0_13, QF0_14_eq (EQD_glue hS_c101 hA_c101 sd sn (by decide +kernel)) f0_14, QF0_15_eq (EQD_glue hS_c101 hA_c101 sd sn (by decide +kernel)) f0_15, QF0_16_eq (EQD_glue hS_c101 hA_c101 sd sn (by decide +kernel)) f0_16, QF0_17_eq (EQD_glue hS_c101 hA_c101 sd sn (by decide +kernel)) f0_17⟩
    · exact fun h => INV1_eq (EQD_glue hS_c101 hA_c101 sd sn (by decide +kernel)) (hI1 h)
    · exact fun h => INV2_eq (EQD_glue hS_c101 hA_c101 sd sn (by decide +kernel)) (hI2 h)
    · exact fun h => INV3_eq (EQD_glue hS_c101 hA_c101 sd sn (by decide +kernel)) (hI3 h)
    · exact fun h => INV4_eq (EQD_glue hS_c101 hA_c101 sd sn (by decide +kernel)) (hI4 h)
    · exact fun h => INV5_eq (EQD_glue hS_c101 hA_c101 sd sn (by decide +kernel)) (hI5 h)
    · exact fun h => INV6_eq (EQD_glue hS_c101 hA_c101 sd sn (by decide +kernel)) (hI6 h)
    · exact fun h => INV7_eq (EQD_glue hS_c101 hA_c101 sd sn (by decide +kernel)) (hI7 h)
    · exact fun h => INV8_eq (EQD_glue hS_c101 hA_c101 sd sn (by decide +kernel)) (hI8 h)
    · exact fun h => INV9_eq (EQD_glue hS_c101 hA_c101 sd sn (by decide +kernel)) (hI9 h)
  · skip
    have sd : SD [] (pul ι_wc0_2 D) (pul ι_wc0_2 D) := SD_refl
    have sn : SD [] (pul ι_wc0_2 N) (pul ι_wc0_2 N) := SD_refl
    refine k z _ (glu ι_wc0_2 D (pul ι_wc0_2 D)) (glu ι_wc0_2 N (pul ι_wc0_2 N)) (glu ι_wc0_2 F Fₚ) (glu ι_wc0_2 A Aₚ) _ _ ⟨HWs_call HX VPH_3 vs_wc0_2 hp Hₚ O, STC_call HT HX vs_wc0_2 hp O, hg0, PFI_glue (dl := []) hPF sf sa sd (by decide +kernel) (rexc_of (l := []) (by decide +kernel) ?_), ABS_glue hAB sf (by decide +kernel), NZ_glue hNZ vs_wc0_2 hp sn (by decide +kernel), hGI, ?_, ?_, ?_, ?_, ?_, ?_, ?_, ?_, ?_, ?_⟩ ⟨(STP0_call (STY_call vs_wc0_2 hp O) (sd 0 rfl) (RM_call vs_wc0_2 O)), unt1_of (x := 10) (by decide +kernel) (fun p hp => funext (sa p hp))⟩ (show inr z by assumption)
    · intro e he h1 h2
      cases he
    · skip
      exact ⟨QF0_0_eq (EQD_glue sf sa sd sn (by decide +kernel)) f0_0, QF0_1_eq (EQD_glue sf sa sd sn (by decide +kernel)) f0_1, QF0_2_eq (EQD_glue sf sa sd sn (by decide +kernel)) f0_2, QF0_3_eq (EQD_glue sf sa sd sn (by decide +kernel)) f0_3, QF0_4_eq (EQD_glue sf sa sd sn (by decide +kernel)) f0_4, show 0 ≤ (Fₚ 2 1) ∧ (Fₚ 2 1) ≤ ((N 26 : Int)) ∧ ((N 26 : Int)) ≤ 65536 from (by omega), QF0_6_eq (EQD_glue sf sa sd sn (by decide +kernel)) f0_6, QF0_7_eq (EQD_glue sf sa sd sn (by decide +kernel)) f0_7, QF0_8_eq (EQD_glue sf sa sd sn (by decide +kernel)) f0_8, QF0_9_eq (EQD_glue sf sa sd sn (by decide +kernel)) f0_9, QF0_10_eq (EQD_glue sf sa sd sn (by decide +kernel)) f0_10, QF0_11_eq (EQD_glue sf sa sd sn (by decide +kernel)) f0_11, QF0_12_eq (EQD_glue sf sa sd sn (by decide +kernel)) f0_12, QF0_13_eq (EQD_glue sf sa sd sn (by decide +kernel)) f0_13, QF0_14_eq (EQD_glue sf sa sd sn (by decide +kernel)) f0_14, QF0_15_eq (EQD_glue sf sa sd sn (by decide +kernel)) f0_15, QF0_16_eq (EQD_glue sf sa sd sn (by decide +kernel)) f0_16, QF0_17_eq (EQD_glue sf sa sd sn (by decide +kernel)) f0_17⟩
    · exact fun h => INV1_eq (EQD_glue sf sa sd sn (by decide +kernel)) (hI1 h)
    · exact fun h => INV2_eq (EQD_glue sf sa sd sn (by decide +kernel)) (hI2 h)
    · exact fun h => INV3_eq (EQD_glue sf sa sd sn (by decide +kernel)) (hI3 h)
    · exact fun h => INV4_eq (EQD_glue sf sa sd sn (by decide +kernel)) (hI4 h)
    · exact fun h => INV5_eq (EQD_glue sf sa sd sn (by decide +kernel)) (hI5 h)
    · exact fun h => INV6_eq (EQD_glue sf sa sd sn (by decide +kernel)) (hI6 h)
    · exact fun h => INV7_eq (EQD_glue sf sa sd sn (by decide +kernel)) (hI7 h)
    · exact fun h => INV8_eq (EQD_glue sf sa sd sn (by decide +kernel)) (hI8 h)
    · exact fun h => INV9_eq (EQD_glue sf sa sd sn (by decide +kernel)) (hI9 h)
def ι_wc0_3 : List Nat := [0, 8, 25, 26]
theorem vs_wc0_3 : VS VPH V17_vc0 ι_wc0_3 := VS_of (by decide +kernel)
set_option maxRecDepth 20000 in
theorem T_wc0_3 {g : Nat → Bool} {σ : rS} {D N : Nat → Nat} {F : hF} {A : hA} {d c s : Nat} {Q : wQ} (X : PHI g σ D N F A)  {x1 : Int} {ls : rO} (hl0 : rlook ls 0 = some (.ref (D 0))) (hl1 : rlook ls 1 = some (I x1)) (hl3 : rlook ls 3 = some (I (0))) (hl4 : rlook ls 4 = some (.ref (D 8))) (h0 : inr x1) (x_0 : (F 8 1) ≤ 16384) (x_1 : (F 8 1) + (F 11 1) ≤ 16384) (hc101 : ∀ (x5_ : Int) (ls : rO) (σₚ : rS) (Dₚ Nₚ : Nat → Nat) (Fₚ : hF) (Aₚ : hA) (cₚ sₚ : Nat), PHI g σₚ Dₚ Nₚ Fₚ Aₚ → STP g σ D N A c s g σₚ Dₚ Nₚ Aₚ cₚ sₚ → rlook ls 0 = some (.ref (Dₚ 0)) → rlook ls 1 = some (I (x1)) → rlook ls 3 = some (I (0)) → rlook ls 4 = some (.ref (Dₚ 8)) → rlook ls 5 = some (I x5_) → ((Fₚ 8 1) ≤ 16384) → ((Fₚ 8 1) + (Fₚ 11 1) ≤ 16384) → ((Fₚ 25 1) = 0) → (x5_ = 1) → Ew 17 (d + 1) 101 ls [.ref (Dₚ 0)] σₚ cₚ sₚ Q) (k : ∀ (z : Int) (σₚ : rS) (Dₚ Nₚ : Nat → Nat) (Fₚ : hF) (Aₚ : hA) (cₚ sₚ : Nat), PHI g σₚ Dₚ Nₚ Fₚ Aₚ → STP g σ D N A c s g σₚ Dₚ Nₚ Aₚ cₚ sₚ → (inr z) → Q (some (I z)) σₚ cₚ sₚ) : Ew 17 (d + 1) 54 ls [] σ c s Q := by
  obtain ⟨HX, HT, hg0, hPF, hAB, hNZ, hGI, hI0, hI1, hI2, hI3, hI4, hI5, hI6, hI7, hI8, hI9⟩ := X
  have hset := SETI_f hI0.2.2.2.2.2.2.2.2.2.2.2.2.2.2.2.2.2
  have hJ0 := hI0
  unfold INV0 at hJ0
  obtain ⟨f0_0, f0_1, f0_2, f0_3, f0_4, f0_5, f0_6, f0_7, f0_8, f0_9, f0_10, f0_11, f0_12, f0_13, f0_14, f0_15, f0_16, f0_17⟩ := hJ0
  have hp : ∀ x, x < (V17_vc0).length → SPH g (ι_wc0_3.getD x 0) = true := SPH_of (gs := [0]) (by intro j hj; simp at hj; subst hj; exact hg0) rfl (by decide +kernel)
  refine C17_vc0 (D := pul ι_wc0_3 D) (N := pul ι_wc0_3 N) (F := pul ι_wc0_3 F) (A := pul ι_wc0_3 A) (HWs_sub HX vs_wc0_3 hp) (show F 0 5 = (D 25 : Int) from hPF (0, 0, 5, 25) (List.mem_of_getElem? (i := 24) rfl) hg0 hg0) (show F 25 0 = (D 26 : Int) from hPF (0, 25, 0, 26) (List.mem_of_getElem? (i := 25) rfl) hg0 hg0) (N 26 : Int) rfl (F 25 1) rfl  hl0 hl1 hl3 hl4 (show inr (x1) by assumption) (show 0 ≤ (F 25 1) ∧ (F 25 1) ≤ ((N 26 : Int)) ∧ ((N 26 : Int)) ≤ 65536 by assumption) (fun  ls σ F_c101 A_c101 xc101_5 lc101_0 lc101_1 lc101_3 lc101_4 lc101_5 H O hS_c101 hA_c101   yc101_2_1 eyc101_2_1  jc101_0 jc101_1 jc101_2 jc101_3 => ?_) (fun z σₚ Fₚ Aₚ Hₚ O sf sa q0 q1 => ?_)
  · skip
    subst eyc101_2_1
    have sd : SD [] (pul ι_wc0_3 D) (pul ι_wc0_3 D) := SD_refl
    have sn : SD [] (pul ι_wc0_3 N) (pul ι_wc0_3 N) := SD_refl
    have : F_c101 1 1 = F 8 1 := hS_c101 1 1 rfl
    refine hc101  xc101_5 _ _ (glu ι_wc0_3 D (pul ι_wc0_3 D)) (glu ι_wc0_3 N (pul ι_wc0_3 N)) (glu ι_wc0_3 F F_c101) (glu ι_wc0_3 A A_c101) _ _ ⟨HWs_call HX VPH_3 vs_wc0_3 hp H O, STC_call HT HX vs_wc0_3 hp O, hg0, PFI_glue (dl := []) hPF hS_c101 hA_c101 sd (by decide +kernel) (rexc_of (l := []) (by decide +kernel) ?_), ABS_glue hAB hS_c101 (by decide +kernel), NZ_glue hNZ vs_wc0_3 hp sn (by decide +kernel), hGI, ?_, ?_, ?_, ?_, ?_, ?_, ?_, ?_, ?_, ?_⟩ ⟨(STP0_call (STY_call vs_wc0_3 hp O) (sd 0 rfl) (RM_call vs_wc0_3 O)), unt1_of (x := 10) (by decide +kernel) (fun p hp => funext (hA_c101 p hp))⟩ lc101_0 lc101_1 lc101_3 lc101_4 lc101_5 (show (F_c101 1 1) ≤ 16384 by (rw [show F_c101 1 1 = F 8 1 from hS_c101 1 1 rfl]; assumption)) (show (F_c101 1 1) + (F 11 1) ≤ 16384 by (rw [show F_c101 1 1 = F 8 1 from hS_c101 1 1 rfl]; assumption)) (show (F_c101 2 1) = 0 by assumption) (show xc101_5 = 1 by assumption)
    · intro e he h1 h2
      cases he
    · skip
      exact ⟨QF0_0_eq (EQD_glue hS_c101 hA_c101 sd sn (by decide +kernel)) f0_0, QF0_1_eq (EQD_glue hS_c101 hA_c101 sd sn (by decide +kernel)) f0_1, QF0_2_eq (EQD_glue hS_c101 hA_c101 sd sn (by decide +kernel)) f0_2, QF0_3_eq (EQD_glue hS_c101 hA_c101 sd sn (by decide +kernel)) f0_3, QF0_4_eq (EQD_glue hS_c101 hA_c101 sd sn (by decide +kernel)) f0_4, show 0 ≤ (F_c101 2 1) ∧ (F_c101 2 1) ≤ ((N 26 : Int)) ∧ ((N 26 : Int)) ≤ 65536 from (by assumption), QF0_6_eq (EQD_glue hS_c101 hA_c101 sd sn (by decide +kernel)) f0_6, QF0_7_eq (EQD_glue hS_c101 hA_c101 sd sn (by decide +kernel)) f0_7, QF0_8_eq (EQD_glue hS_c101 hA_c101 sd sn (by decide +kernel)) f0_8, QF0_9_eq (EQD_glue hS_c101 hA_c101 sd sn (by decide +kernel)) f0_9, QF0_10_eq (EQD_glue hS_c101 hA_c101 sd sn (by decide +kernel)) f0_10, QF0_11_eq (EQD_glue hS_c101 hA_c101 sd sn (by decide +kernel)) f0_11, QF0_12_eq (EQD_glue hS_c101 hA_c101 sd sn (by decide +kernel)) f0_12, QF0_13_eq (EQD_glue hS_c101 hA_c101 sd sn (by decide +kernel)) f0_13, QF0_14_eq (EQD_glue hS_c101 hA_c101 sd sn (by decide +kernel)) f0_14, QF0_15_eq (EQD_glue hS_c101 hA_c101 sd sn (by decide +kernel)) f0_15, QF0_16_eq (EQD_glue hS_c101 hA_c101 sd sn (by decide +kernel)) f0_16, QF0_17_eq (EQD_glue hS_c101 hA_c101 sd sn (by decide +kernel)) f0_17⟩
    · exact fun h => INV1_eq (EQD_glue hS_c101 hA_c101 sd sn (by decide +kernel)) (hI1 h)
    · exact fun h => INV2_eq (EQD_glue hS_c101 hA_c101 sd sn (by decide +kernel)) (hI2 h)
    · exact fun h => INV3_eq (EQD_glue hS_c101 hA_c101 sd sn (by decide +kernel)) (hI3 h)
    · exact fun h => INV4_eq (EQD_glue hS_c101 hA_c101 sd sn (by decide +kernel)) (hI4 h)
    · exact fun h => INV5_eq (EQD_glue hS_c101 hA_c101 sd sn (by decide +kernel)) (hI5 h)
    · exact fun h => INV6_eq (EQD_glue hS_c101 hA_c101 sd sn (by decide +kernel)) (hI6 h)
    · exact fun h => INV7_eq (EQD_glue hS_c101 hA_c101 sd sn (by decide +kernel)) (hI7 h)
    · exact fun h => INV8_eq (EQD_glue hS_c101 hA_c101 sd sn (by decide +kernel)) (hI8 h)
    · exact fun h => INV9_eq (EQD_glue hS_c101 hA_c101 sd sn (by decide +kernel)) (hI9 h)
  · skip
    have sd : SD [] (pul ι_wc0_3 D) (pul ι_wc0_3 D) := SD_refl
    have sn : SD [] (pul ι_wc0_3 N) (pul ι_wc0_3 N) := SD_refl
    refine k z _ (glu ι_wc0_3 D (pul ι_wc0_3 D)) (glu ι_wc0_3 N (pul ι_wc0_3 N)) (glu ι_wc0_3 F Fₚ) (glu ι_wc0_3 A Aₚ) _ _ ⟨HWs_call HX VPH_3 vs_wc0_3 hp Hₚ O, STC_call HT HX vs_wc0_3 hp O, hg0, PFI_glue (dl := []) hPF sf sa sd (by decide +kernel) (rexc_of (l := []) (by decide +kernel) ?_), ABS_glue hAB sf (by decide +kernel), NZ_glue hNZ vs_wc0_3 hp sn (by decide +kernel), hGI, ?_, ?_, ?_, ?_, ?_, ?_, ?_, ?_, ?_, ?_⟩ ⟨(STP0_call (STY_call vs_wc0_3 hp O) (sd 0 rfl) (RM_call vs_wc0_3 O)), unt1_of (x := 10) (by decide +kernel) (fun p hp => funext (sa p hp))⟩ (show inr z by assumption)
    · intro e he h1 h2
      cases he
    · skip
      exact ⟨QF0_0_eq (EQD_glue sf sa sd sn (by decide +kernel)) f0_0, QF0_1_eq (EQD_glue sf sa sd sn (by decide +kernel)) f0_1, QF0_2_eq (EQD_glue sf sa sd sn (by decide +kernel)) f0_2, QF0_3_eq (EQD_glue sf sa sd sn (by decide +kernel)) f0_3, QF0_4_eq (EQD_glue sf sa sd sn (by decide +kernel)) f0_4, show 0 ≤ (Fₚ 2 1) ∧ (Fₚ 2 1) ≤ ((N 26 : Int)) ∧ ((N 26 : Int)) ≤ 65536 from (by omega), QF0_6_eq (EQD_glue sf sa sd sn (by decide +kernel)) f0_6, QF0_7_eq (EQD_glue sf sa sd sn (by decide +kernel)) f0_7, QF0_8_eq (EQD_glue sf sa sd sn (by decide +kernel)) f0_8, QF0_9_eq (EQD_glue sf sa sd sn (by decide +kernel)) f0_9, QF0_10_eq (EQD_glue sf sa sd sn (by decide +kernel)) f0_10, QF0_11_eq (EQD_glue sf sa sd sn (by decide +kernel)) f0_11, QF0_12_eq (EQD_glue sf sa sd sn (by decide +kernel)) f0_12, QF0_13_eq (EQD_glue sf sa sd sn (by decide +kernel)) f0_13, QF0_14_eq (EQD_glue sf sa sd sn (by decide +kernel)) f0_14, QF0_15_eq (EQD_glue sf sa sd sn (by decide +kernel)) f0_15, QF0_16_eq (EQD_glue sf sa sd sn (by decide +kernel)) f0_16, QF0_17_eq (EQD_glue sf sa sd sn (by decide +kernel)) f0_17⟩
    · exact fun h => INV1_eq (EQD_glue sf sa sd sn (by decide +kernel)) (hI1 h)
    · exact fun h => INV2_eq (EQD_glue sf sa sd sn (by decide +kernel)) (hI2 h)
    · exact fun h => INV3_eq (EQD_glue sf sa sd sn (by decide +kernel)) (hI3 h)
    · exact fun h => INV4_eq (EQD_glue sf sa sd sn (by decide +kernel)) (hI4 h)
    · exact fun h => INV5_eq (EQD_glue sf sa sd sn (by decide +kernel)) (hI5 h)
    · exact fun h => INV6_eq (EQD_glue sf sa sd sn (by decide +kernel)) (hI6 h)
    · exact fun h => INV7_eq (EQD_glue sf sa sd sn (by decide +kernel)) (hI7 h)
    · exact fun h => INV8_eq (EQD_glue sf sa sd sn (by decide +kernel)) (hI8 h)
    · exact fun h => INV9_eq (EQD_glue sf sa sd sn (by decide +kernel)) (hI9 h)
def ι_wc1_0 : List Nat := [0, 2, 25, 26]
theorem vs_wc1_0 : VS VPH V17_vc1 ι_wc1_0 := VS_of (by decide +kernel)
set_option maxRecDepth 20000 in
theorem T_wc1_0 {g : Nat → Bool} {σ : rS} {D N : Nat → Nat} {F : hF} {A : hA} {d c s : Nat} {Q : wQ} (X : PHI g σ D N F A)  {x1 : Int} {ls : rO} (hl0 : rlook ls 0 = some (.ref (D 0))) (hl1 : rlook ls 1 = some (I x1)) (hl3 : rlook ls 3 = some (I (1))) (hl4 : rlook ls 4 = some (.ref (D 2))) (h0 : inr x1) (x_0 : (F 2 1) ≤ 16384) (x_1 : (F 2 1) + (F 11 1) ≤ 16384) (hc117 : ∀ (x5_ : Int) (ls : rO) (σₚ : rS) (Dₚ Nₚ : Nat → Nat) (Fₚ : hF) (Aₚ : hA) (cₚ sₚ : Nat), PHI g σₚ Dₚ Nₚ Fₚ Aₚ → STP g σ D N A c s g σₚ Dₚ Nₚ Aₚ cₚ sₚ → rlook ls 0 = some (.ref (Dₚ 0)) → rlook ls 1 = some (I (x1)) → rlook ls 3 = some (I (1)) → rlook ls 4 = some (.ref (Dₚ 2)) → rlook ls 5 = some (I x5_) → ((Fₚ 2 1) ≤ 16384) → ((Fₚ 2 1) + (Fₚ 11 1) ≤ 16384) → ((Fₚ 25 1) = 0) → (x5_ = 1) → Ew 17 (d + 1) 117 ls [.ref (Dₚ 0)] σₚ cₚ sₚ Q) (k : ∀ (z : Int) (σₚ : rS) (Dₚ Nₚ : Nat → Nat) (Fₚ : hF) (Aₚ : hA) (cₚ sₚ : Nat), PHI g σₚ Dₚ Nₚ Fₚ Aₚ → STP g σ D N A c s g σₚ Dₚ Nₚ Aₚ cₚ sₚ → (inr z) → Q (some (I z)) σₚ cₚ sₚ) : Ew 17 (d + 1) 54 ls [] σ c s Q := by
  obtain ⟨HX, HT, hg0, hPF, hAB, hNZ, hGI, hI0, hI1, hI2, hI3, hI4, hI5, hI6, hI7, hI8, hI9⟩ := X
  have hset := SETI_f hI0.2.2.2.2.2.2.2.2.2.2.2.2.2.2.2.2.2
  have hJ0 := hI0
  unfold INV0 at hJ0
  obtain ⟨f0_0, f0_1, f0_2, f0_3, f0_4, f0_5, f0_6, f0_7, f0_8, f0_9, f0_10, f0_11, f0_12, f0_13, f0_14, f0_15, f0_16, f0_17⟩ := hJ0
  have hp : ∀ x, x < (V17_vc1).length → SPH g (ι_wc1_0.getD x 0) = true := SPH_of (gs := [0]) (by intro j hj; simp at hj; subst hj; exact hg0) rfl (by decide +kernel)
  refine C17_vc1 (D := pul ι_wc1_0 D) (N := pul ι_wc1_0 N) (F := pul ι_wc1_0 F) (A := pul ι_wc1_0 A) (HWs_sub HX vs_wc1_0 hp) (show F 0 5 = (D 25 : Int) from hPF (0, 0, 5, 25) (List.mem_of_getElem? (i := 24) rfl) hg0 hg0) (show F 25 0 = (D 26 : Int) from hPF (0, 25, 0, 26) (List.mem_of_getElem? (i := 25) rfl) hg0 hg0) (N 26 : Int) rfl (F 25 1) rfl  hl0 hl1 hl3 hl4 (show inr (x1) by assumption) (show 0 ≤ (F 25 1) ∧ (F 25 1) ≤ ((N 26 : Int)) ∧ ((N 26 : Int)) ≤ 65536 by assumption) (fun  ls σ F_c117 A_c117 xc117_5 lc117_0 lc117_1 lc117_3 lc117_4 lc117_5 H O hS_c117 hA_c117   yc117_2_1 eyc117_2_1  jc117_0 jc117_1 jc117_2 jc117_3 => ?_) (fun z σₚ Fₚ Aₚ Hₚ O sf sa q0 q1 => ?_)
  · skip
    subst eyc117_2_1
    have sd : SD [] (pul ι_wc1_0 D) (pul ι_wc1_0 D) := SD_refl
    have sn : SD [] (pul ι_wc1_0 N) (pul ι_wc1_0 N) := SD_refl
    have : F_c117 1 1 = F 2 1 := hS_c117 1 1 rfl
    refine hc117  xc117_5 _ _ (glu ι_wc1_0 D (pul ι_wc1_0 D)) (glu ι_wc1_0 N (pul ι_wc1_0 N)) (glu ι_wc1_0 F F_c117) (glu ι_wc1_0 A A_c117) _ _ ⟨HWs_call HX VPH_3 vs_wc1_0 hp H O, STC_call HT HX vs_wc1_0 hp O, hg0, PFI_glue (dl := []) hPF hS_c117 hA_c117 sd (by decide +kernel) (rexc_of (l := []) (by decide +kernel) ?_), ABS_glue hAB hS_c117 (by decide +kernel), NZ_glue hNZ vs_wc1_0 hp sn (by decide +kernel), hGI, ?_, ?_, ?_, ?_, ?_, ?_, ?_, ?_, ?_, ?_⟩ ⟨(STP0_call (STY_call vs_wc1_0 hp O) (sd 0 rfl) (RM_call vs_wc1_0 O)), unt1_of (x := 10) (by decide +kernel) (fun p hp => funext (hA_c117 p hp))⟩ lc117_0 lc117_1 lc117_3 lc117_4 lc117_5 (show (F_c117 1 1) ≤ 16384 by (rw [show F_c117 1 1 = F 2 1 from hS_c117 1 1 rfl]; assumption)) (show (F_c117 1 1) + (F 11 1) ≤ 16384 by (rw [show F_c117 1 1 = F 2 1 from hS_c117 1 1 rfl]; assumption)) (show (F_c117 2 1) = 0 by assumption) (show xc117_5 = 1 by assumption)
    · intro e he h1 h2
      cases he
    · skip
      exact ⟨QF0_0_eq (EQD_glue hS_c117 hA_c117 sd sn (by decide +kernel)) f0_0, QF0_1_eq (EQD_glue hS_c117 hA_c117 sd sn (by decide +kernel)) f0_1, QF0_2_eq (EQD_glue hS_c117 hA_c117 sd sn (by decide +kernel)) f0_2, QF0_3_eq (EQD_glue hS_c117 hA_c117 sd sn (by decide +kernel)) f0_3, QF0_4_eq (EQD_glue hS_c117 hA_c117 sd sn (by decide +kernel)) f0_4, show 0 ≤ (F_c117 2 1) ∧ (F_c117 2 1) ≤ ((N 26 : Int)) ∧ ((N 26 : Int)) ≤ 65536 from (by assumption), QF0_6_eq (EQD_glue hS_c117 hA_c117 sd sn (by decide +kernel)) f0_6, QF0_7_eq (EQD_glue hS_c117 hA_c117 sd sn (by decide +kernel)) f0_7, QF0_8_eq (EQD_glue hS_c117 hA_c117 sd sn (by decide +kernel)) f0_8, QF0_9_eq (EQD_glue hS_c117 hA_c117 sd sn (by decide +kernel)) f0_9, QF0_10_eq (EQD_glue hS_c117 hA_c117 sd sn (by decide +kernel)) f0_10, QF0_11_eq (EQD_glue hS_c117 hA_c117 sd sn (by decide +kernel)) f0_11, QF0_12_eq (EQD_glue hS_c117 hA_c117 sd sn (by decide +kernel)) f0_12, QF0_13_eq (EQD_glue hS_c117 hA_c117 sd sn (by decide +kernel)) f0_13, QF0_14_eq (EQD_glue hS_c117 hA_c117 sd sn (by decide +kernel)) f0_14, QF0_15_eq (EQD_glue hS_c117 hA_c117 sd sn (by decide +kernel)) f0_15, QF0_16_eq (EQD_glue hS_c117 hA_c117 sd sn (by decide +kernel)) f0_16, QF0_17_eq (EQD_glue hS_c117 hA_c117 sd sn (by decide +kernel)) f0_17⟩
    · exact fun h => INV1_eq (EQD_glue hS_c117 hA_c117 sd sn (by decide +kernel)) (hI1 h)
    · exact fun h => INV2_eq (EQD_glue hS_c117 hA_c117 sd sn (by decide +kernel)) (hI2 h)
    · exact fun h => INV3_eq (EQD_glue hS_c117 hA_c117 sd sn (by decide +kernel)) (hI3 h)
    · exact fun h => INV4_eq (EQD_glue hS_c117 hA_c117 sd sn (by decide +kernel)) (hI4 h)
    · exact fun h => INV5_eq (EQD_glue hS_c117 hA_c117 sd sn (by decide +kernel)) (hI5 h)
    · exact fun h => INV6_eq (EQD_glue hS_c117 hA_c117 sd sn (by decide +kernel)) (hI6 h)
    · exact fun h => INV7_eq (EQD_glue hS_c117 hA_c117 sd sn (by decide +kernel)) (hI7 h)
    · exact fun h => INV8_eq (EQD_glue hS_c117 hA_c117 sd sn (by decide +kernel)) (hI8 h)
    · exact fun h => INV9_eq (EQD_glue hS_c117 hA_c117 sd sn (by decide +kernel)) (hI9 h)
  · skip
    have sd : SD [] (pul ι_wc1_0 D) (pul ι_wc1_0 D) := SD_refl
    have sn : SD [] (pul ι_wc1_0 N) (pul ι_wc1_0 N) := SD_refl
    refine k z _ (glu ι_wc1_0 D (pul ι_wc1_0 D)) (glu ι_wc1_0 N (pul ι_wc1_0 N)) (glu ι_wc1_0 F Fₚ) (glu ι_wc1_0 A Aₚ) _ _ ⟨HWs_call HX VPH_3 vs_wc1_0 hp Hₚ O, STC_call HT HX vs_wc1_0 hp O, hg0, PFI_glue (dl := []) hPF sf sa sd (by decide +kernel) (rexc_of (l := []) (by decide +kernel) ?_), ABS_glue hAB sf (by decide +kernel), NZ_glue hNZ vs_wc1_0 hp sn (by decide +kernel), hGI, ?_, ?_, ?_, ?_, ?_, ?_, ?_, ?_, ?_, ?_⟩ ⟨(STP0_call (STY_call vs_wc1_0 hp O) (sd 0 rfl) (RM_call vs_wc1_0 O)), unt1_of (x := 10) (by decide +kernel) (fun p hp => funext (sa p hp))⟩ (show inr z by assumption)
    · intro e he h1 h2
      cases he
    · skip
      exact ⟨QF0_0_eq (EQD_glue sf sa sd sn (by decide +kernel)) f0_0, QF0_1_eq (EQD_glue sf sa sd sn (by decide +kernel)) f0_1, QF0_2_eq (EQD_glue sf sa sd sn (by decide +kernel)) f0_2, QF0_3_eq (EQD_glue sf sa sd sn (by decide +kernel)) f0_3, QF0_4_eq (EQD_glue sf sa sd sn (by decide +kernel)) f0_4, show 0 ≤ (Fₚ 2 1) ∧ (Fₚ 2 1) ≤ ((N 26 : Int)) ∧ ((N 26 : Int)) ≤ 65536 from (by omega), QF0_6_eq (EQD_glue sf sa sd sn (by decide +kernel)) f0_6, QF0_7_eq (EQD_glue sf sa sd sn (by decide +kernel)) f0_7, QF0_8_eq (EQD_glue sf sa sd sn (by decide +kernel)) f0_8, QF0_9_eq (EQD_glue sf sa sd sn (by decide +kernel)) f0_9, QF0_10_eq (EQD_glue sf sa sd sn (by decide +kernel)) f0_10, QF0_11_eq (EQD_glue sf sa sd sn (by decide +kernel)) f0_11, QF0_12_eq (EQD_glue sf sa sd sn (by decide +kernel)) f0_12, QF0_13_eq (EQD_glue sf sa sd sn (by decide +kernel)) f0_13, QF0_14_eq (EQD_glue sf sa sd sn (by decide +kernel)) f0_14, QF0_15_eq (EQD_glue sf sa sd sn (by decide +kernel)) f0_15, QF0_16_eq (EQD_glue sf sa sd sn (by decide +kernel)) f0_16, QF0_17_eq (EQD_glue sf sa sd sn (by decide +kernel)) f0_17⟩
    · exact fun h => INV1_eq (EQD_glue sf sa sd sn (by decide +kernel)) (hI1 h)
    · exact fun h => INV2_eq (EQD_glue sf sa sd sn (by decide +kernel)) (hI2 h)
    · exact fun h => INV3_eq (EQD_glue sf sa sd sn (by decide +kernel)) (hI3 h)
    · exact fun h => INV4_eq (EQD_glue sf sa sd sn (by decide +kernel)) (hI4 h)
    · exact fun h => INV5_eq (EQD_glue sf sa sd sn (by decide +kernel)) (hI5 h)
    · exact fun h => INV6_eq (EQD_glue sf sa sd sn (by decide +kernel)) (hI6 h)
    · exact fun h => INV7_eq (EQD_glue sf sa sd sn (by decide +kernel)) (hI7 h)
    · exact fun h => INV8_eq (EQD_glue sf sa sd sn (by decide +kernel)) (hI8 h)
    · exact fun h => INV9_eq (EQD_glue sf sa sd sn (by decide +kernel)) (hI9 h)
def ι_wc1_1 : List Nat := [0, 4, 25, 26]
theorem vs_wc1_1 : VS VPH V17_vc1 ι_wc1_1 := VS_of (by decide +kernel)
set_option maxRecDepth 20000 in
theorem T_wc1_1 {g : Nat → Bool} {σ : rS} {D N : Nat → Nat} {F : hF} {A : hA} {d c s : Nat} {Q : wQ} (X : PHI g σ D N F A)  {x1 : Int} {ls : rO} (hl0 : rlook ls 0 = some (.ref (D 0))) (hl1 : rlook ls 1 = some (I x1)) (hl3 : rlook ls 3 = some (I (1))) (hl4 : rlook ls 4 = some (.ref (D 4))) (h0 : inr x1) (x_0 : (F 4 1) ≤ 16384) (x_1 : (F 4 1) + (F 11 1) ≤ 16384) (hc117 : ∀ (x5_ : Int) (ls : rO) (σₚ : rS) (Dₚ Nₚ : Nat → Nat) (Fₚ : hF) (Aₚ : hA) (cₚ sₚ : Nat), PHI g σₚ Dₚ Nₚ Fₚ Aₚ → STP g σ D N A c s g σₚ Dₚ Nₚ Aₚ cₚ sₚ → rlook ls 0 = some (.ref (Dₚ 0)) → rlook ls 1 = some (I (x1)) → rlook ls 3 = some (I (1)) → rlook ls 4 = some (.ref (Dₚ 4)) → rlook ls 5 = some (I x5_) → ((Fₚ 4 1) ≤ 16384) → ((Fₚ 4 1) + (Fₚ 11 1) ≤ 16384) → ((Fₚ 25 1) = 0) → (x5_ = 1) → Ew 17 (d + 1) 117 ls [.ref (Dₚ 0)] σₚ cₚ sₚ Q) (k : ∀ (z : Int) (σₚ : rS) (Dₚ Nₚ : Nat → Nat) (Fₚ : hF) (Aₚ : hA) (cₚ sₚ : Nat), PHI g σₚ Dₚ Nₚ Fₚ Aₚ → STP g σ D N A c s g σₚ Dₚ Nₚ Aₚ cₚ sₚ → (inr z) → Q (some (I z)) σₚ cₚ sₚ) : Ew 17 (d + 1) 54 ls [] σ c s Q := by
  obtain ⟨HX, HT, hg0, hPF, hAB, hNZ, hGI, hI0, hI1, hI2, hI3, hI4, hI5, hI6, hI7, hI8, hI9⟩ := X
  have hset := SETI_f hI0.2.2.2.2.2.2.2.2.2.2.2.2.2.2.2.2.2
  have hJ0 := hI0
  unfold INV0 at hJ0
  obtain ⟨f0_0, f0_1, f0_2, f0_3, f0_4, f0_5, f0_6, f0_7, f0_8, f0_9, f0_10, f0_11, f0_12, f0_13, f0_14, f0_15, f0_16, f0_17⟩ := hJ0
  have hp : ∀ x, x < (V17_vc1).length → SPH g (ι_wc1_1.getD x 0) = true := SPH_of (gs := [0]) (by intro j hj; simp at hj; subst hj; exact hg0) rfl (by decide +kernel)
  refine C17_vc1 (D := pul ι_wc1_1 D) (N := pul ι_wc1_1 N) (F := pul ι_wc1_1 F) (A := pul ι_wc1_1 A) (HWs_sub HX vs_wc1_1 hp) (show F 0 5 = (D 25 : Int) from hPF (0, 0, 5, 25) (List.mem_of_getElem? (i := 24) rfl) hg0 hg0) (show F 25 0 = (D 26 : Int) from hPF (0, 25, 0, 26) (List.mem_of_getElem? (i := 25) rfl) hg0 hg0) (N 26 : Int) rfl (F 25 1) rfl  hl0 hl1 hl3 hl4 (show inr (x1) by assumption) (show 0 ≤ (F 25 1) ∧ (F 25 1) ≤ ((N 26 : Int)) ∧ ((N 26 : Int)) ≤ 65536 by assumption) (fun  ls σ F_c117 A_c117 xc117_5 lc117_0 lc117_1 lc117_3 lc117_4 lc117_5 H O hS_c117 hA_c117   yc117_2_1 eyc117_2_1  jc117_0 jc117_1 jc117_2 jc117_3 => ?_) (fun z σₚ Fₚ Aₚ Hₚ O sf sa q0 q1 => ?_)
  · skip
    subst eyc117_2_1
    have sd : SD [] (pul ι_wc1_1 D) (pul ι_wc1_1 D) := SD_refl
    have sn : SD [] (pul ι_wc1_1 N) (pul ι_wc1_1 N) := SD_refl
    have : F_c117 1 1 = F 4 1 := hS_c117 1 1 rfl
    refine hc117  xc117_5 _ _ (glu ι_wc1_1 D (pul ι_wc1_1 D)) (glu ι_wc1_1 N (pul ι_wc1_1 N)) (glu ι_wc1_1 F F_c117) (glu ι_wc1_1 A A_c117) _ _ ⟨HWs_call HX VPH_3 vs_wc1_1 hp H O, STC_call HT HX vs_wc1_1 hp O, hg0, PFI_glue (dl := []) hPF hS_c117 hA_c117 sd (by decide +kernel) (rexc_of (l := []) (by decide +kernel) ?_), ABS_glue hAB hS_c117 (by decide +kernel), NZ_glue hNZ vs_wc1_1 hp sn (by decide +kernel), hGI, ?_, ?_, ?_, ?_, ?_, ?_, ?_, ?_, ?_, ?_⟩ ⟨(STP0_call (STY_call vs_wc1_1 hp O) (sd 0 rfl) (RM_call vs_wc1_1 O)), unt1_of (x := 10) (by decide +kernel) (fun p hp => funext (hA_c117 p hp))⟩ lc117_0 lc117_1 lc117_3 lc117_4 lc117_5 (show (F_c117 1 1) ≤ 16384 by (rw [show F_c117 1 1 = F 4 1 from hS_c117 1 1 rfl]; assumption)) (show (F_c117 1 1) + (F 11 1) ≤ 16384 by (rw [show F_c117 1 1 = F 4 1 from hS_c117 1 1 rfl]; assumption)) (show (F_c117 2 1) = 0 by assumption) (show xc117_5 = 1 by assumption)
    · intro e he h1 h2
      cases he
    · skip
      exact ⟨QF0_0_eq (EQD_glue hS_c117 hA_c117 sd sn (by decide +kernel)) f0_0, QF0_1_eq (EQD_glue hS_c117 hA_c117 sd sn (by decide +kernel)) f0_1, QF0_2_eq (EQD_glue hS_c117 hA_c117 sd sn (by decide +kernel)) f0_2, QF0_3_eq (EQD_glue hS_c117 hA_c117 sd sn (by decide +kernel)) f0_3, QF0_4_eq (EQD_glue hS_c117 hA_c117 sd sn (by decide +kernel)) f0_4, show 0 ≤ (F_c117 2 1) ∧ (F_c117 2 1) ≤ ((N 26 : Int)) ∧ ((N 26 : Int)) ≤ 65536 from (by assumption), QF0_6_eq (EQD_glue hS_c117 hA_c117 sd sn (by decide +kernel)) f0_6, QF0_7_eq (EQD_glue hS_c117 hA_c117 sd sn (by decide +kernel)) f0_7, QF0_8_eq (EQD_glue hS_c117 hA_c117 sd sn (by decide +kernel)) f0_8, QF0_9_eq (EQD_glue hS_c117 hA_c117 sd sn (by decide +kernel)) f0_9, QF0_10_eq (EQD_glue hS_c117 hA_c117 sd sn (by decide +kernel)) f0_10, QF0_11_eq (EQD_glue hS_c117 hA_c117 sd sn (by decide +kernel)) f0_11, QF0_12_eq (EQD_glue hS_c117 hA_c117 sd sn (by decide +kernel)) f0_12, QF0_13_eq (EQD_glue hS_c117 hA_c117 sd sn (by decide +kernel)) f0_13, QF0_14_eq (EQD_glue hS_c117 hA_c117 sd sn (by decide +kernel)) f0_14, QF0_15_eq (EQD_glue hS_c117 hA_c117 sd sn (by decide +kernel)) f0_15, QF0_16_eq (EQD_glue hS_c117 hA_c117 sd sn (by decide +kernel)) f0_16, QF0_17_eq (EQD_glue hS_c117 hA_c117 sd sn (by decide +kernel)) f0_17⟩
    · exact fun h => INV1_eq (EQD_glue hS_c117 hA_c117 sd sn (by decide +kernel)) (hI1 h)
    · exact fun h => INV2_eq (EQD_glue hS_c117 hA_c117 sd sn (by decide +kernel)) (hI2 h)
    · exact fun h => INV3_eq (EQD_glue hS_c117 hA_c117 sd sn (by decide +kernel)) (hI3 h)
    · exact fun h => INV4_eq (EQD_glue hS_c117 hA_c117 sd sn (by decide +kernel)) (hI4 h)
    · exact fun h => INV5_eq (EQD_glue hS_c117 hA_c117 sd sn (by decide +kernel)) (hI5 h)
    · exact fun h => INV6_eq (EQD_glue hS_c117 hA_c117 sd sn (by decide +kernel)) (hI6 h)
    · exact fun h => INV7_eq (EQD_glue hS_c117 hA_c117 sd sn (by decide +kernel)) (hI7 h)
    · exact fun h => INV8_eq (EQD_glue hS_c117 hA_c117 sd sn (by decide +kernel)) (hI8 h)
    · exact fun h => INV9_eq (EQD_glue hS_c117 hA_c117 sd sn (by decide +kernel)) (hI9 h)
  · skip
    have sd : SD [] (pul ι_wc1_1 D) (pul ι_wc1_1 D) := SD_refl
    have sn : SD [] (pul ι_wc1_1 N) (pul ι_wc1_1 N) := SD_refl
    refine k z _ (glu ι_wc1_1 D (pul ι_wc1_1 D)) (glu ι_wc1_1 N (pul ι_wc1_1 N)) (glu ι_wc1_1 F Fₚ) (glu ι_wc1_1 A Aₚ) _ _ ⟨HWs_call HX VPH_3 vs_wc1_1 hp Hₚ O, STC_call HT HX vs_wc1_1 hp O, hg0, PFI_glue (dl := []) hPF sf sa sd (by decide +kernel) (rexc_of (l := []) (by decide +kernel) ?_), ABS_glue hAB sf (by decide +kernel), NZ_glue hNZ vs_wc1_1 hp sn (by decide +kernel), hGI, ?_, ?_, ?_, ?_, ?_, ?_, ?_, ?_, ?_, ?_⟩ ⟨(STP0_call (STY_call vs_wc1_1 hp O) (sd 0 rfl) (RM_call vs_wc1_1 O)), unt1_of (x := 10) (by decide +kernel) (fun p hp => funext (sa p hp))⟩ (show inr z by assumption)
    · intro e he h1 h2
      cases he
    · skip
      exact ⟨QF0_0_eq (EQD_glue sf sa sd sn (by decide +kernel)) f0_0, QF0_1_eq (EQD_glue sf sa sd sn (by decide +kernel)) f0_1, QF0_2_eq (EQD_glue sf sa sd sn (by decide +kernel)) f0_2, QF0_3_eq (EQD_glue sf sa sd sn (by decide +kernel)) f0_3, QF0_4_eq (EQD_glue sf sa sd sn (by decide +kernel)) f0_4, show 0 ≤ (Fₚ 2 1) ∧ (Fₚ 2 1) ≤ ((N 26 : Int)) ∧ ((N 26 : Int)) ≤ 65536 from (by omega), QF0_6_eq (EQD_glue sf sa sd sn (by decide +kernel)) f0_6, QF0_7_eq (EQD_glue sf sa sd sn (by decide +kernel)) f0_7, QF0_8_eq (EQD_glue sf sa sd sn (by decide +kernel)) f0_8, QF0_9_eq (EQD_glue sf sa sd sn (by decide +kernel)) f0_9, QF0_10_eq (EQD_glue sf sa sd sn (by decide +kernel)) f0_10, QF0_11_eq (EQD_glue sf sa sd sn (by decide +kernel)) f0_11, QF0_12_eq (EQD_glue sf sa sd sn (by decide +kernel)) f0_12, QF0_13_eq (EQD_glue sf sa sd sn (by decide +kernel)) f0_13, QF0_14_eq (EQD_glue sf sa sd sn (by decide +kernel)) f0_14, QF0_15_eq (EQD_glue sf sa sd sn (by decide +kernel)) f0_15, QF0_16_eq (EQD_glue sf sa sd sn (by decide +kernel)) f0_16, QF0_17_eq (EQD_glue sf sa sd sn (by decide +kernel)) f0_17⟩
    · exact fun h => INV1_eq (EQD_glue sf sa sd sn (by decide +kernel)) (hI1 h)
    · exact fun h => INV2_eq (EQD_glue sf sa sd sn (by decide +kernel)) (hI2 h)
    · exact fun h => INV3_eq (EQD_glue sf sa sd sn (by decide +kernel)) (hI3 h)
    · exact fun h => INV4_eq (EQD_glue sf sa sd sn (by decide +kernel)) (hI4 h)
    · exact fun h => INV5_eq (EQD_glue sf sa sd sn (by decide +kernel)) (hI5 h)
    · exact fun h => INV6_eq (EQD_glue sf sa sd sn (by decide +kernel)) (hI6 h)
    · exact fun h => INV7_eq (EQD_glue sf sa sd sn (by decide +kernel)) (hI7 h)
    · exact fun h => INV8_eq (EQD_glue sf sa sd sn (by decide +kernel)) (hI8 h)
    · exact fun h => INV9_eq (EQD_glue sf sa sd sn (by decide +kernel)) (hI9 h)
def ι_wc1_2 : List Nat := [0, 6, 25, 26]
theorem vs_wc1_2 : VS VPH V17_vc1 ι_wc1_2 := VS_of (by decide +kernel)
set_option maxRecDepth 20000 in
theorem T_wc1_2 {g : Nat → Bool} {σ : rS} {D N : Nat → Nat} {F : hF} {A : hA} {d c s : Nat} {Q : wQ} (X : PHI g σ D N F A)  {x1 : Int} {ls : rO} (hl0 : rlook ls 0 = some (.ref (D 0))) (hl1 : rlook ls 1 = some (I x1)) (hl3 : rlook ls 3 = some (I (1))) (hl4 : rlook ls 4 = some (.ref (D 6))) (h0 : inr x1) (x_0 : (F 6 1) ≤ 16384) (x_1 : (F 6 1) + (F 11 1) ≤ 16384) (hc117 : ∀ (x5_ : Int) (ls : rO) (σₚ : rS) (Dₚ Nₚ : Nat → Nat) (Fₚ : hF) (Aₚ : hA) (cₚ sₚ : Nat), PHI g σₚ Dₚ Nₚ Fₚ Aₚ → STP g σ D N A c s g σₚ Dₚ Nₚ Aₚ cₚ sₚ → rlook ls 0 = some (.ref (Dₚ 0)) → rlook ls 1 = some (I (x1)) → rlook ls 3 = some (I (1)) → rlook ls 4 = some (.ref (Dₚ 6)) → rlook ls 5 = some (I x5_) → ((Fₚ 6 1) ≤ 16384) → ((Fₚ 6 1) + (Fₚ 11 1) ≤ 16384) → ((Fₚ 25 1) = 0) → (x5_ = 1) → Ew 17 (d + 1) 117 ls [.ref (Dₚ 0)] σₚ cₚ sₚ Q) (k : ∀ (z : Int) (σₚ : rS) (Dₚ Nₚ : Nat → Nat) (Fₚ : hF) (Aₚ : hA) (cₚ sₚ : Nat), PHI g σₚ Dₚ Nₚ Fₚ Aₚ → STP g σ D N A c s g σₚ Dₚ Nₚ Aₚ cₚ sₚ → (inr z) → Q (some (I z)) σₚ cₚ sₚ) : Ew 17 (d + 1) 54 ls [] σ c s Q := by
  obtain ⟨HX, HT, hg0, hPF, hAB, hNZ, hGI, hI0, hI1, hI2, hI3, hI4, hI5, hI6, hI7, hI8, hI9⟩ := X
  have hset := SETI_f hI0.2.2.2.2.2.2.2.2.2.2.2.2.2.2.2.2.2
  have hJ0 := hI0
  unfold INV0 at hJ0
  obtain ⟨f0_0, f0_1, f0_2, f0_3, f0_4, f0_5, f0_6, f0_7, f0_8, f0_9, f0_10, f0_11, f0_12, f0_13, f0_14, f0_15, f0_16, f0_17⟩ := hJ0
  have hp : ∀ x, x < (V17_vc1).length → SPH g (ι_wc1_2.getD x 0) = true := SPH_of (gs := [0]) (by intro j hj; simp at hj; subst hj; exact hg0) rfl (by decide +kernel)
  refine C17_vc1 (D := pul ι_wc1_2 D) (N := pul ι_wc1_2 N) (F := pul ι_wc1_2 F) (A := pul ι_wc1_2 A) (HWs_sub HX vs_wc1_2 hp) (show F 0 5 = (D 25 : Int) from hPF (0, 0, 5, 25) (List.mem_of_getElem? (i := 24) rfl) hg0 hg0) (show F 25 0 = (D 26 : Int) from hPF (0, 25, 0, 26) (List.mem_of_getElem? (i := 25) rfl) hg0 hg0) (N 26 : Int) rfl (F 25 1) rfl  hl0 hl1 hl3 hl4 (show inr (x1) by assumption) (show 0 ≤ (F 25 1) ∧ (F 25 1) ≤ ((N 26 : Int)) ∧ ((N 26 : Int)) ≤ 65536 by assumption) (fun  ls σ F_c117 A_c117 xc117_5 lc117_0 lc117_1 lc117_3 lc117_4 lc117_5 H O hS_c117 hA_c117   yc117_2_1 eyc117_2_1  jc117_0 jc117_1 jc117_2 jc117_3 => ?_) (fun z σₚ Fₚ Aₚ Hₚ O sf sa q0 q1 => ?_)
  · skip
    subst eyc117_2_1
    have sd : SD [] (pul ι_wc1_2 D) (pul ι_wc1_2 D) := SD_refl
    have sn : SD [] (pul ι_wc1_2 N) (pul ι_wc1_2 N) := SD_refl
    have : F_c117 1 1 = F 6 1 := hS_c117 1 1 rfl
    refine hc117  xc117_5 _ _ (glu ι_wc1_2 D (pul ι_wc1_2 D)) (glu ι_wc1_2 N (pul ι_wc1_2 N)) (glu ι_wc1_2 F F_c117) (glu ι_wc1_2 A A_c117) _ _ ⟨HWs_call HX VPH_3 vs_wc1_2 hp H O, STC_call HT HX vs_wc1_2 hp O, hg0, PFI_glue (dl := []) hPF hS_c117 hA_c117 sd (by decide +kernel) (rexc_of (l := []) (by decide +kernel) ?_), ABS_glue hAB hS_c117 (by decide +kernel), NZ_glue hNZ vs_wc1_2 hp sn (by decide +kernel), hGI, ?_, ?_, ?_, ?_, ?_, ?_, ?_, ?_, ?_, ?_⟩ ⟨(STP0_call (STY_call vs_wc1_2 hp O) (sd 0 rfl) (RM_call vs_wc1_2 O)), unt1_of (x := 10) (by decide +kernel) (fun p hp => funext (hA_c117 p hp))⟩ lc117_0 lc117_1 lc117_3 lc117_4 lc117_5 (show (F_c117 1 1) ≤ 16384 by (rw [show F_c117 1 1 = F 6 1 from hS_c117 1 1 rfl]; assumption)) (show (F_c117 1 1) + (F 11 1) ≤ 16384 by (rw [show F_c117 1 1 = F 6 1 from hS_c117 1 1 rfl]; assumption)) (show (F_c117 2 1) = 0 by assumption) (show xc117_5 = 1 by assumption)
    · intro e he h1 h2
      cases he
    · skip
      exact ⟨QF0_0_eq (EQD_glue hS_c117 hA_c117 sd sn (by decide +kernel)) f0_0, QF0_1_eq (EQD_glue hS_c117 hA_c117 sd sn (by decide +kernel)) f0_1, QF0_2_eq (EQD_glue hS_c117 hA_c117 sd sn (by decide +kernel)) f0_2, QF0_3_eq (EQD_glue hS_c117 hA_c117 sd sn (by decide +kernel)) f0_3, QF0_4_eq (EQD_glue hS_c117 hA_c117 sd sn (by decide +kernel)) f0_4, show 0 ≤ (F_c117 2 1) ∧ (F_c117 2 1) ≤ ((N 26 : Int)) ∧ ((N 26 : Int)) ≤ 65536 from (by assumption), QF0_6_eq (EQD_glue hS_c117 hA_c117 sd sn (by decide +kernel)) f0_6, QF0_7_eq (EQD_glue hS_c117 hA_c117 sd sn (by decide +kernel)) f0_7, QF0_8_eq (EQD_glue hS_c117 hA_c117 sd sn (by decide +kernel)) f0_8, QF0_9_eq (EQD_glue hS_c117 hA_c117 sd sn (by decide +kernel)) f0_9, QF0_10_eq (EQD_glue hS_c117 hA_c117 sd sn (by decide +kernel)) f0_10, QF0_11_eq (EQD_glue hS_c117 hA_c117 sd sn (by decide +kernel)) f0_11, QF0_12_eq (EQD_glue hS_c117 hA_c117 sd sn (by decide +kernel)) f0_12, QF0_13_eq (EQD_glue hS_c117 hA_c117 sd sn (by decide +kernel)) f0_13, QF0_14_eq (EQD_glue hS_c117 hA_c117 sd sn (by decide +kernel)) f0_14, QF0_15_eq (EQD_glue hS_c117 hA_c117 sd sn (by decide +kernel)) f0_15, QF0_16_eq (EQD_glue hS_c117 hA_c117 sd sn (by decide +kernel)) f0_16, QF0_17_eq (EQD_glue hS_c117 hA_c117 sd sn (by decide +kernel)) f0_17⟩
    · exact fun h => INV1_eq (EQD_glue hS_c117 hA_c117 sd sn (by decide +kernel)) (hI1 h)
    · exact fun h => INV2_eq (EQD_glue hS_c117 hA_c117 sd sn (by decide +kernel)) (hI2 h)
    · exact fun h => INV3_eq (EQD_glue hS_c117 hA_c117 sd sn (by decide +kernel)) (hI3 h)
    · exact fun h => INV4_eq (EQD_glue hS_c117 hA_c117 sd sn (by decide +kernel)) (hI4 h)
    · exact fun h => INV5_eq (EQD_glue hS_c117 hA_c117 sd sn (by decide +kernel)) (hI5 h)
    · exact fun h => INV6_eq (EQD_glue hS_c117 hA_c117 sd sn (by decide +kernel)) (hI6 h)
    · exact fun h => INV7_eq (EQD_glue hS_c117 hA_c117 sd sn (by decide +kernel)) (hI7 h)
    · exact fun h => INV8_eq (EQD_glue hS_c117 hA_c117 sd sn (by decide +kernel)) (hI8 h)
    · exact fun h => INV9_eq (EQD_glue hS_c117 hA_c117 sd sn (by decide +kernel)) (hI9 h)
  · skip
    have sd : SD [] (pul ι_wc1_2 D) (pul ι_wc1_2 D) := SD_refl
    have sn : SD [] (pul ι_wc1_2 N) (pul ι_wc1_2 N) := SD_refl
    refine k z _ (glu ι_wc1_2 D (pul ι_wc1_2 D)) (glu ι_wc1_2 N (pul ι_wc1_2 N)) (glu ι_wc1_2 F Fₚ) (glu ι_wc1_2 A Aₚ) _ _ ⟨HWs_call HX VPH_3 vs_wc1_2 hp Hₚ O, STC_call HT HX vs_wc1_2 hp O, hg0, PFI_glue (dl := []) hPF sf sa sd (by decide +kernel) (rexc_of (l := []) (by decide +kernel) ?_), ABS_glue hAB sf (by decide +kernel), NZ_glue hNZ vs_wc1_2 hp sn (by decide +kernel), hGI, ?_, ?_, ?_, ?_, ?_, ?_, ?_, ?_, ?_, ?_⟩ ⟨(STP0_call (STY_call vs_wc1_2 hp O) (sd 0 rfl) (RM_call vs_wc1_2 O)), unt1_of (x := 10) (by decide +kernel) (fun p hp => funext (sa p hp))⟩ (show inr z by assumption)
    · intro e he h1 h2
      cases he
    · skip
      exact ⟨QF0_0_eq (EQD_glue sf sa sd sn (by decide +kernel)) f0_0, QF0_1_eq (EQD_glue sf sa sd sn (by decide +kernel)) f0_1, QF0_2_eq (EQD_glue sf sa sd sn (by decide +kernel)) f0_2, QF0_3_eq (EQD_glue sf sa sd sn (by decide +kernel)) f0_3, QF0_4_eq (EQD_glue sf sa sd sn (by decide +kernel)) f0_4, show 0 ≤ (Fₚ 2 1) ∧ (Fₚ 2 1) ≤ ((N 26 : Int)) ∧ ((N 26 : Int)) ≤ 65536 from (by omega), QF0_6_eq (EQD_glue sf sa sd sn (by decide +kernel)) f0_6, QF0_7_eq (EQD_glue sf sa sd sn (by decide +kernel)) f0_7, QF0_8_eq (EQD_glue sf sa sd sn (by decide +kernel)) f0_8, QF0_9_eq (EQD_glue sf sa sd sn (by decide +kernel)) f0_9, QF0_10_eq (EQD_glue sf sa sd sn (by decide +kernel)) f0_10, QF0_11_eq (EQD_glue sf sa sd sn (by decide +kernel)) f0_11, QF0_12_eq (EQD_glue sf sa sd sn (by decide +kernel)) f0_12, QF0_13_eq (EQD_glue sf sa sd sn (by decide +kernel)) f0_13, QF0_14_eq (EQD_glue sf sa sd sn (by decide +kernel)) f0_14, QF0_15_eq (EQD_glue sf sa sd sn (by decide +kernel)) f0_15, QF0_16_eq (EQD_glue sf sa sd sn (by decide +kernel)) f0_16, QF0_17_eq (EQD_glue sf sa sd sn (by decide +kernel)) f0_17⟩
    · exact fun h => INV1_eq (EQD_glue sf sa sd sn (by decide +kernel)) (hI1 h)
    · exact fun h => INV2_eq (EQD_glue sf sa sd sn (by decide +kernel)) (hI2 h)
    · exact fun h => INV3_eq (EQD_glue sf sa sd sn (by decide +kernel)) (hI3 h)
    · exact fun h => INV4_eq (EQD_glue sf sa sd sn (by decide +kernel)) (hI4 h)
    · exact fun h => INV5_eq (EQD_glue sf sa sd sn (by decide +kernel)) (hI5 h)
    · exact fun h => INV6_eq (EQD_glue sf sa sd sn (by decide +kernel)) (hI6 h)
    · exact fun h => INV7_eq (EQD_glue sf sa sd sn (by decide +kernel)) (hI7 h)
    · exact fun h => INV8_eq (EQD_glue sf sa sd sn (by decide +kernel)) (hI8 h)
    · exact fun h => INV9_eq (EQD_glue sf sa sd sn (by decide +kernel)) (hI9 h)
def ι_wc1_3 : List Nat := [0, 8, 25, 26]
theorem vs_wc1_3 : VS VPH V17_vc1 ι_wc1_3 := VS_of (by decide +kernel)
set_option maxRecDepth 20000 in
theorem T_wc1_3 {g : Nat → Bool} {σ : rS} {D N : Nat → Nat} {F : hF} {A : hA} {d c s : Nat} {Q : wQ} (X : PHI g σ D N F A)  {x1 : Int} {ls : rO} (hl0 : rlook ls 0 = some (.ref (D 0))) (hl1 : rlook ls 1 = some (I x1)) (hl3 : rlook ls 3 = some (I (1))) (hl4 : rlook ls 4 = some (.ref (D 8))) (h0 : inr x1) (x_0 : (F 8 1) ≤ 16384) (x_1 : (F 8 1) + (F 11 1) ≤ 16384) (hc117 : ∀ (x5_ : Int) (ls : rO) (σₚ : rS) (Dₚ Nₚ : Nat → Nat) (Fₚ : hF) (Aₚ : hA) (cₚ sₚ : Nat), PHI g σₚ Dₚ Nₚ Fₚ Aₚ → STP g σ D N A c s g σₚ Dₚ Nₚ Aₚ cₚ sₚ → rlook ls 0 = some (.ref (Dₚ 0)) → rlook ls 1 = some (I (x1)) → rlook ls 3 = some (I (1)) → rlook ls 4 = some (.ref (Dₚ 8)) → rlook ls 5 = some (I x5_) → ((Fₚ 8 1) ≤ 16384) → ((Fₚ 8 1) + (Fₚ 11 1) ≤ 16384) → ((Fₚ 25 1) = 0) → (x5_ = 1) → Ew 17 (d + 1) 117 ls [.ref (Dₚ 0)] σₚ cₚ sₚ Q) (k : ∀ (z : Int) (σₚ : rS) (Dₚ Nₚ : Nat → Nat) (Fₚ : hF) (Aₚ : hA) (cₚ sₚ : Nat), PHI g σₚ Dₚ Nₚ Fₚ Aₚ → STP g σ D N A c s g σₚ Dₚ Nₚ Aₚ cₚ sₚ → (inr z) → Q (some (I z)) σₚ cₚ sₚ) : Ew 17 (d + 1) 54 ls [] σ c s Q := by
  obtain ⟨HX, HT, hg0, hPF, hAB, hNZ, hGI, hI0, hI1, hI2, hI3, hI4, hI5, hI6, hI7, hI8, hI9⟩ := X
  have hset := SETI_f hI0.2.2.2.2.2.2.2.2.2.2.2.2.2.2.2.2.2
  have hJ0 := hI0
  unfold INV0 at hJ0
  obtain ⟨f0_0, f0_1, f0_2, f0_3, f0_4, f0_5, f0_6, f0_7, f0_8, f0_9, f0_10, f0_11, f0_12, f0_13, f0_14, f0_15, f0_16, f0_17⟩ := hJ0
  have hp : ∀ x, x < (V17_vc1).length → SPH g (ι_wc1_3.getD x 0) = true := SPH_of (gs := [0]) (by intro j hj; simp at hj; subst hj; exact hg0) rfl (by decide +kernel)
  refine C17_vc1 (D := pul ι_wc1_3 D) (N := pul ι_wc1_3 N) (F := pul ι_wc1_3 F) (A := pul ι_wc1_3 A) (HWs_sub HX vs_wc1_3 hp) (show F 0 5 = (D 25 : Int) from hPF (0, 0, 5, 25) (List.mem_of_getElem? (i := 24) rfl) hg0 hg0) (show F 25 0 = (D 26 : Int) from hPF (0, 25, 0, 26) (List.mem_of_getElem? (i := 25) rfl) hg0 hg0) (N 26 : Int) rfl (F 25 1) rfl  hl0 hl1 hl3 hl4 (show inr (x1) by assumption) (show 0 ≤ (F 25 1) ∧ (F 25 1) ≤ ((N 26 : Int)) ∧ ((N 26 : Int)) ≤ 65536 by assumption) (fun  ls σ F_c117 A_c117 xc117_5 lc117_0 lc117_1 lc117_3 lc117_4 lc117_5 H O hS_c117 hA_c117   yc117_2_1 eyc117_2_1  jc117_0 jc117_1 jc117_2 jc117_3 => ?_) (fun z σₚ Fₚ Aₚ Hₚ O sf sa q0 q1 => ?_)
  · skip
    subst eyc117_2_1
    have sd : SD [] (pul ι_wc1_3 D) (pul ι_wc1_3 D) := SD_refl
    have sn : SD [] (pul ι_wc1_3 N) (pul ι_wc1_3 N) := SD_refl
    have : F_c117 1 1 = F 8 1 := hS_c117 1 1 rfl
    refine hc117  xc117_5 _ _ (glu ι_wc1_3 D (pul ι_wc1_3 D)) (glu ι_wc1_3 N (pul ι_wc1_3 N)) (glu ι_wc1_3 F F_c117) (glu ι_wc1_3 A A_c117) _ _ ⟨HWs_call HX VPH_3 vs_wc1_3 hp H O, STC_call HT HX vs_wc1_3 hp O, hg0, PFI_glue (dl := []) hPF hS_c117 hA_c117 sd (by decide +kernel) (rexc_of (l := []) (by decide +kernel) ?_), ABS_glue hAB hS_c117 (by decide +kernel), NZ_glue hNZ vs_wc1_3 hp sn (by decide +kernel), hGI, ?_, ?_, ?_, ?_, ?_, ?_, ?_, ?_, ?_, ?_⟩ ⟨(STP0_call (STY_call vs_wc1_3 hp O) (sd 0 rfl) (RM_call vs_wc1_3 O)), unt1_of (x := 10) (by decide +kernel) (fun p hp => funext (hA_c117 p hp))⟩ lc117_0 lc117_1 lc117_3 lc117_4 lc117_5 (show (F_c117 1 1) ≤ 16384 by (rw [show F_c117 1 1 = F 8 1 from hS_c117 1 1 rfl]; assumption)) (show (F_c117 1 1) + (F 11 1) ≤ 16384 by (rw [show F_c117 1 1 = F 8 1 from hS_c117 1 1 rfl]; assumption)) (show (F_c117 2 1) = 0 by assumption) (show xc117_5 = 1 by assumption)
    · intro e he h1 h2
      cases he
    · skip
      exact ⟨QF0_0_eq (EQD_glue hS_c117 hA_c117 sd sn (by decide +kernel)) f0_0, QF0_1_eq (EQD_glue hS_c117 hA_c117 sd sn (by decide +kernel)) f0_1, QF0_2_eq (EQD_glue hS_c117 hA_c117 sd sn (by decide +kernel)) f0_2, QF0_3_eq (EQD_glue hS_c117 hA_c117 sd sn (by decide +kernel)) f0_3, QF0_4_eq (EQD_glue hS_c117 hA_c117 sd sn (by decide +kernel)) f0_4, show 0 ≤ (F_c117 2 1) ∧ (F_c117 2 1) ≤ ((N 26 : Int)) ∧ ((N 26 : Int)) ≤ 65536 from (by assumption), QF0_6_eq (EQD_glue hS_c117 hA_c117 sd sn (by decide +kernel)) f0_6, QF0_7_eq (EQD_glue hS_c117 hA_c117 sd sn (by decide +kernel)) f0_7, QF0_8_eq (EQD_glue hS_c117 hA_c117 sd sn (by decide +kernel)) f0_8, QF0_9_eq (EQD_glue hS_c117 hA_c117 sd sn (by decide +kernel)) f0_9, QF0_10_eq (EQD_glue hS_c117 hA_c117 sd sn (by decide +kernel)) f0_10, QF0_11_eq (EQD_glue hS_c117 hA_c117 sd sn (by decide +kernel)) f0_11, QF0_12_eq (EQD_glue hS_c117 hA_c117 sd sn (by decide +kernel)) f0_12, QF0_13_eq (EQD_glue hS_c117 hA_c117 sd sn (by decide +kernel)) f0_13, QF0_14_eq (EQD_glue hS_c117 hA_c117 sd sn (by decide +kernel)) f0_14, QF0_15_eq (EQD_glue hS_c117 hA_c117 sd sn (by decide +kernel)) f0_15, QF0_16_eq (EQD_glue hS_c117 hA_c117 sd sn (by decide +kernel)) f0_16, QF0_17_eq (EQD_glue hS_c117 hA_c117 sd sn (by decide +kernel)) f0_17⟩
    · exact fun h => INV1_eq (EQD_glue hS_c117 hA_c117 sd sn (by decide +kernel)) (hI1 h)
    · exact fun h => INV2_eq (EQD_glue hS_c117 hA_c117 sd sn (by decide +kernel)) (hI2 h)
    · exact fun h => INV3_eq (EQD_glue hS_c117 hA_c117 sd sn (by decide +kernel)) (hI3 h)
    · exact fun h => INV4_eq (EQD_glue hS_c117 hA_c117 sd sn (by decide +kernel)) (hI4 h)
    · exact fun h => INV5_eq (EQD_glue hS_c117 hA_c117 sd sn (by decide +kernel)) (hI5 h)
    · exact fun h => INV6_eq (EQD_glue hS_c117 hA_c117 sd sn (by decide +kernel)) (hI6 h)
    · exact fun h => INV7_eq (EQD_glue hS_c117 hA_c117 sd sn (by decide +kernel)) (hI7 h)
    · exact fun h => INV8_eq (EQD_glue hS_c117 hA_c117 sd sn (by decide +kernel)) (hI8 h)
    · exact fun h => INV9_eq (EQD_glue hS_c117 hA_c117 sd sn (by decide +kernel)) (hI9 h)
  · skip
    have sd : SD [] (pul ι_wc1_3 D) (pul ι_wc1_3 D) := SD_refl
    have sn : SD [] (pul ι_wc1_3 N) (pul ι_wc1_3 N) := SD_refl
    refine k z _ (glu ι_wc1_3 D (pul ι_wc1_3 D)) (glu ι_wc1_3 N (pul ι_wc1_3 N)) (glu ι_wc1_3 F Fₚ) (glu ι_wc1_3 A Aₚ) _ _ ⟨HWs_call HX VPH_3 vs_wc1_3 hp Hₚ O, STC_call HT HX vs_wc1_3 hp O, hg0, PFI_glue (dl := []) hPF sf sa sd (by decide +kernel) (rexc_of (l := []) (by decide +kernel) ?_), ABS_glue hAB sf (by decide +kernel), NZ_glue hNZ vs_wc1_3 hp sn (by decide +kernel), hGI, ?_, ?_, ?_, ?_, ?_, ?_, ?_, ?_, ?_, ?_⟩ ⟨(STP0_call (STY_call vs_wc1_3 hp O) (sd 0 rfl) (RM_call vs_wc1_3 O)), unt1_of (x := 10) (by decide +kernel) (fun p hp => funext (sa p hp))⟩ (show inr z by assumption)
    · intro e he h1 h2
      cases he
    · skip
      exact ⟨QF0_0_eq (EQD_glue sf sa sd sn (by decide +kernel)) f0_0, QF0_1_eq (EQD_glue sf sa sd sn (by decide +kernel)) f0_1, QF0_2_eq (EQD_glue sf sa sd sn (by decide +kernel)) f0_2, QF0_3_eq (EQD_glue sf sa sd sn (by decide +kernel)) f0_3, QF0_4_eq (EQD_glue sf sa sd sn (by decide +kernel)) f0_4, show 0 ≤ (Fₚ 2 1) ∧ (Fₚ 2 1) ≤ ((N 26 : Int)) ∧ ((N 26 : Int)) ≤ 65536 from (by omega), QF0_6_eq (EQD_glue sf sa sd sn (by decide +kernel)) f0_6, QF0_7_eq (EQD_glue sf sa sd sn (by decide +kernel)) f0_7, QF0_8_eq (EQD_glue sf sa sd sn (by decide +kernel)) f0_8, QF0_9_eq (EQD_glue sf sa sd sn (by decide +kernel)) f0_9, QF0_10_eq (EQD_glue sf sa sd sn (by decide +kernel)) f0_10, QF0_11_eq (EQD_glue sf sa sd sn (by decide +kernel)) f0_11, QF0_12_eq (EQD_glue sf sa sd sn (by decide +kernel)) f0_12, QF0_13_eq (EQD_glue sf sa sd sn (by decide +kernel)) f0_13, QF0_14_eq (EQD_glue sf sa sd sn (by decide +kernel)) f0_14, QF0_15_eq (EQD_glue sf sa sd sn (by decide +kernel)) f0_15, QF0_16_eq (EQD_glue sf sa sd sn (by decide +kernel)) f0_16, QF0_17_eq (EQD_glue sf sa sd sn (by decide +kernel)) f0_17⟩
    · exact fun h => INV1_eq (EQD_glue sf sa sd sn (by decide +kernel)) (hI1 h)
    · exact fun h => INV2_eq (EQD_glue sf sa sd sn (by decide +kernel)) (hI2 h)
    · exact fun h => INV3_eq (EQD_glue sf sa sd sn (by decide +kernel)) (hI3 h)
    · exact fun h => INV4_eq (EQD_glue sf sa sd sn (by decide +kernel)) (hI4 h)
    · exact fun h => INV5_eq (EQD_glue sf sa sd sn (by decide +kernel)) (hI5 h)
    · exact fun h => INV6_eq (EQD_glue sf sa sd sn (by decide +kernel)) (hI6 h)
    · exact fun h => INV7_eq (EQD_glue sf sa sd sn (by decide +kernel)) (hI7 h)
    · exact fun h => INV8_eq (EQD_glue sf sa sd sn (by decide +kernel)) (hI8 h)
    · exact fun h => INV9_eq (EQD_glue sf sa sd sn (by decide +kernel)) (hI9 h)
def ι_wc2_0 : List Nat := [0, 2, 25, 26]
theorem vs_wc2_0 : VS VPH V17_vc2 ι_wc2_0 := VS_of (by decide +kernel)
set_option maxRecDepth 20000 in
theorem T_wc2_0 {g : Nat → Bool} {σ : rS} {D N : Nat → Nat} {F : hF} {A : hA} {d c s : Nat} {Q : wQ} (X : PHI g σ D N F A)  {x1 : Int} {ls : rO} (hl0 : rlook ls 0 = some (.ref (D 0))) (hl1 : rlook ls 1 = some (I x1)) (hl3 : rlook ls 3 = some (I (2))) (hl4 : rlook ls 4 = some (.ref (D 2))) (h0 : inr x1) (x_0 : (F 2 1) ≤ 16384) (hc133 : ∀ (x5_ : Int) (ls : rO) (σₚ : rS) (Dₚ Nₚ : Nat → Nat) (Fₚ : hF) (Aₚ : hA) (cₚ sₚ : Nat), PHI g σₚ Dₚ Nₚ Fₚ Aₚ → STP g σ D N A c s g σₚ Dₚ Nₚ Aₚ cₚ sₚ → rlook ls 0 = some (.ref (Dₚ 0)) → rlook ls 1 = some (I (x1)) → rlook ls 3 = some (I (2)) → rlook ls 4 = some (.ref (Dₚ 2)) → rlook ls 5 = some (I x5_) → ((Fₚ 2 1) ≤ 16384) → ((Fₚ 25 1) = 0) → (x5_ = 1) → Ew 17 (d + 1) 133 ls [.ref (Dₚ 0)] σₚ cₚ sₚ Q) (k : ∀ (z : Int) (σₚ : rS) (Dₚ Nₚ : Nat → Nat) (Fₚ : hF) (Aₚ : hA) (cₚ sₚ : Nat), PHI g σₚ Dₚ Nₚ Fₚ Aₚ → STP g σ D N A c s g σₚ Dₚ Nₚ Aₚ cₚ sₚ → (inr z) → Q (some (I z)) σₚ cₚ sₚ) : Ew 17 (d + 1) 54 ls [] σ c s Q := by
  obtain ⟨HX, HT, hg0, hPF, hAB, hNZ, hGI, hI0, hI1, hI2, hI3, hI4, hI5, hI6, hI7, hI8, hI9⟩ := X
  have hset := SETI_f hI0.2.2.2.2.2.2.2.2.2.2.2.2.2.2.2.2.2
  have hJ0 := hI0
  unfold INV0 at hJ0
  obtain ⟨f0_0, f0_1, f0_2, f0_3, f0_4, f0_5, f0_6, f0_7, f0_8, f0_9, f0_10, f0_11, f0_12, f0_13, f0_14, f0_15, f0_16, f0_17⟩ := hJ0
  have hp : ∀ x, x < (V17_vc2).length → SPH g (ι_wc2_0.getD x 0) = true := SPH_of (gs := [0]) (by intro j hj; simp at hj; subst hj; exact hg0) rfl (by decide +kernel)
  refine C17_vc2 (D := pul ι_wc2_0 D) (N := pul ι_wc2_0 N) (F := pul ι_wc2_0 F) (A := pul ι_wc2_0 A) (HWs_sub HX vs_wc2_0 hp) (show F 0 5 = (D 25 : Int) from hPF (0, 0, 5, 25) (List.mem_of_getElem? (i := 24) rfl) hg0 hg0) (show F 25 0 = (D 26 : Int) from hPF (0, 25, 0, 26) (List.mem_of_getElem? (i := 25) rfl) hg0 hg0) (N 26 : Int) rfl (F 25 1) rfl  hl0 hl1 hl3 hl4 (show inr (x1) by assumption) (show 0 ≤ (F 25 1) ∧ (F 25 1) ≤ ((N 26 : Int)) ∧ ((N 26 : Int)) ≤ 65536 by assumption) (fun  ls σ F_c133 A_c133 xc133_5 lc133_0 lc133_1 lc133_3 lc133_4 lc133_5 H O hS_c133 hA_c133   yc133_2_1 eyc133_2_1  jc133_0 jc133_1 jc133_2 jc133_3 => ?_) (fun z σₚ Fₚ Aₚ Hₚ O sf sa q0 q1 => ?_)
  · skip
    subst eyc133_2_1
    have sd : SD [] (pul ι_wc2_0 D) (pul ι_wc2_0 D) := SD_refl
    have sn : SD [] (pul ι_wc2_0 N) (pul ι_wc2_0 N) := SD_refl
    have : F_c133 1 1 = F 2 1 := hS_c133 1 1 rfl
    refine hc133  xc133_5 _ _ (glu ι_wc2_0 D (pul ι_wc2_0 D)) (glu ι_wc2_0 N (pul ι_wc2_0 N)) (glu ι_wc2_0 F F_c133) (glu ι_wc2_0 A A_c133) _ _ ⟨HWs_call HX VPH_3 vs_wc2_0 hp H O, STC_call HT HX vs_wc2_0 hp O, hg0, PFI_glue (dl := []) hPF hS_c133 hA_c133 sd (by decide +kernel) (rexc_of (l := []) (by decide +kernel) ?_), ABS_glue hAB hS_c133 (by decide +kernel), NZ_glue hNZ vs_wc2_0 hp sn (by decide +kernel), hGI, ?_, ?_, ?_, ?_, ?_, ?_, ?_, ?_, ?_, ?_⟩ ⟨(STP0_call (STY_call vs_wc2_0 hp O) (sd 0 rfl) (RM_call vs_wc2_0 O)), unt1_of (x := 10) (by decide +kernel) (fun p hp => funext (hA_c133 p hp))⟩ lc133_0 lc133_1 lc133_3 lc133_4 lc133_5 (show (F_c133 1 1) ≤ 16384 by (rw [show F_c133 1 1 = F 2 1 from hS_c133 1 1 rfl]; assumption)) (show (F_c133 2 1) = 0 by assumption) (show xc133_5 = 1 by assumption)
    · intro e he h1 h2
      cases he
    · skip
      exact ⟨QF0_0_eq (EQD_glue hS_c133 hA_c133 sd sn (by decide +kernel)) f0_0, QF0_1_eq (EQD_glue hS_c133 hA_c133 sd sn (by decide +kernel)) f0_1, QF0_2_eq (EQD_glue hS_c133 hA_c133 sd sn (by decide +kernel)) f0_2, QF0_3_eq (EQD_glue hS_c133 hA_c133 sd sn (by decide +kernel)) f0_3, QF0_4_eq (EQD_glue hS_c133 hA_c133 sd sn (by decide +kernel)) f0_4, show 0 ≤ (F_c133 2 1) ∧ (F_c133 2 1) ≤ ((N 26 : Int)) ∧ ((N 26 : Int)) ≤ 65536 from (by assumption), QF0_6_eq (EQD_glue hS_c133 hA_c133 sd sn (by decide +kernel)) f0_6, QF0_7_eq (EQD_glue hS_c133 hA_c133 sd sn (by decide +kernel)) f0_7, QF0_8_eq (EQD_glue hS_c133 hA_c133 sd sn (by decide +kernel)) f0_8, QF0_9_eq (EQD_glue hS_c133 hA_c133 sd sn (by decide +kernel)) f0_9, QF0_10_eq (EQD_glue hS_c133 hA_c133 sd sn (by decide +kernel)) f0_10, QF0_11_eq (EQD_glue hS_c133 hA_c133 sd sn (by decide +kernel)) f0_11, QF0_12_eq (EQD_glue hS_c133 hA_c133 sd sn (by decide +kernel)) f0_12, QF0_13_eq (EQD_glue hS_c133 hA_c133 sd sn (by decide +kernel)) f0_13, QF0_14_eq (EQD_glue hS_c133 hA_c133 sd sn (by decide +kernel)) f0_14, QF0_15_eq (EQD_glue hS_c133 hA_c133 sd sn (by decide +kernel)) f0_15, QF0_16_eq (EQD_glue hS_c133 hA_c133 sd sn (by decide +kernel)) f0_16, QF0_17_eq (EQD_glue hS_c133 hA_c133 sd sn (by decide +kernel)) f0_17⟩
    · exact fun h => INV1_eq (EQD_glue hS_c133 hA_c133 sd sn (by decide +kernel)) (hI1 h)
    · exact fun h => INV2_eq (EQD_glue hS_c133 hA_c133 sd sn (by decide +kernel)) (hI2 h)
    · exact fun h => INV3_eq (EQD_glue hS_c133 hA_c133 sd sn (by decide +kernel)) (hI3 h)
    · exact fun h => INV4_eq (EQD_glue hS_c133 hA_c133 sd sn (by decide +kernel)) (hI4 h)
    · exact fun h => INV5_eq (EQD_glue hS_c133 hA_c133 sd sn (by decide +kernel)) (hI5 h)
    · exact fun h => INV6_eq (EQD_glue hS_c133 hA_c133 sd sn (by decide +kernel)) (hI6 h)
    · exact fun h => INV7_eq (EQD_glue hS_c133 hA_c133 sd sn (by decide +kernel)) (hI7 h)
    · exact fun h => INV8_eq (EQD_glue hS_c133 hA_c133 sd sn (by decide +kernel)) (hI8 h)
    · exact fun h => INV9_eq (EQD_glue hS_c133 hA_c133 sd sn (by decide +kernel)) (hI9 h)
  · skip
    have sd : SD [] (pul ι_wc2_0 D) (pul ι_wc2_0 D) := SD_refl
    have sn : SD [] (pul ι_wc2_0 N) (pul ι_wc2_0 N) := SD_refl
    refine k z _ (glu ι_wc2_0 D (pul ι_wc2_0 D)) (glu ι_wc2_0 N (pul ι_wc2_0 N)) (glu ι_wc2_0 F Fₚ) (glu ι_wc2_0 A Aₚ) _ _ ⟨HWs_call HX VPH_3 vs_wc2_0 hp Hₚ O, STC_call HT HX vs_wc2_0 hp O, hg0, PFI_glue (dl := []) hPF sf sa sd (by decide +kernel) (rexc_of (l := []) (by decide +kernel) ?_), ABS_glue hAB sf (by decide +kernel), NZ_glue hNZ vs_wc2_0 hp sn (by decide +kernel), hGI, ?_, ?_, ?_, ?_, ?_, ?_, ?_, ?_, ?_, ?_⟩ ⟨(STP0_call (STY_call vs_wc2_0 hp O) (sd 0 rfl) (RM_call vs_wc2_0 O)), unt1_of (x := 10) (by decide +kernel) (fun p hp => funext (sa p hp))⟩ (show inr z by assumption)
    · intro e he h1 h2
      cases he
    · skip
      exact ⟨QF0_0_eq (EQD_glue sf sa sd sn (by decide +kernel)) f0_0, QF0_1_eq (EQD_glue sf sa sd sn (by decide +kernel)) f0_1, QF0_2_eq (EQD_glue sf sa sd sn (by decide +kernel)) f0_2, QF0_3_eq (EQD_glue sf sa sd sn (by decide +kernel)) f0_3, QF0_4_eq (EQD_glue sf sa sd sn (by decide +kernel)) f0_4, show 0 ≤ (Fₚ 2 1) ∧ (Fₚ 2 1) ≤ ((N 26 : Int)) ∧ ((N 26 : Int)) ≤ 65536 from (by omega), QF0_6_eq (EQD_glue sf sa sd sn (by decide +kernel)) f0_6, QF0_7_eq (EQD_glue sf sa sd sn (by decide +kernel)) f0_7, QF0_8_eq (EQD_glue sf sa sd sn (by decide +kernel)) f0_8, QF0_9_eq (EQD_glue sf sa sd sn (by decide +kernel)) f0_9, QF0_10_eq (EQD_glue sf sa sd sn (by decide +kernel)) f0_10, QF0_11_eq (EQD_glue sf sa sd sn (by decide +kernel)) f0_11, QF0_12_eq (EQD_glue sf sa sd sn (by decide +kernel)) f0_12, QF0_13_eq (EQD_glue sf sa sd sn (by decide +kernel)) f0_13, QF0_14_eq (EQD_glue sf sa sd sn (by decide +kernel)) f0_14, QF0_15_eq (EQD_glue sf sa sd sn (by decide +kernel)) f0_15, QF0_16_eq (EQD_glue sf sa sd sn (by decide +kernel)) f0_16, QF0_17_eq (EQD_glue sf sa sd sn (by decide +kernel)) f0_17⟩
    · exact fun h => INV1_eq (EQD_glue sf sa sd sn (by decide +kernel)) (hI1 h)
    · exact fun h => INV2_eq (EQD_glue sf sa sd sn (by decide +kernel)) (hI2 h)
    · exact fun h => INV3_eq (EQD_glue sf sa sd sn (by decide +kernel)) (hI3 h)
    · exact fun h => INV4_eq (EQD_glue sf sa sd sn (by decide +kernel)) (hI4 h)
    · exact fun h => INV5_eq (EQD_glue sf sa sd sn (by decide +kernel)) (hI5 h)
    · exact fun h => INV6_eq (EQD_glue sf sa sd sn (by decide +kernel)) (hI6 h)
    · exact fun h => INV7_eq (EQD_glue sf sa sd sn (by decide +kernel)) (hI7 h)
    · exact fun h => INV8_eq (EQD_glue sf sa sd sn (by decide +kernel)) (hI8 h)
    · exact fun h => INV9_eq (EQD_glue sf sa sd sn (by decide +kernel)) (hI9 h)
def ι_wc2_1 : List Nat := [0, 4, 25, 26]
theorem vs_wc2_1 : VS VPH V17_vc2 ι_wc2_1 := VS_of (by decide +kernel)
set_option maxRecDepth 20000 in
theorem T_wc2_1 {g : Nat → Bool} {σ : rS} {D N : Nat → Nat} {F : hF} {A : hA} {d c s : Nat} {Q : wQ} (X : PHI g σ D N F A)  {x1 : Int} {ls : rO} (hl0 : rlook ls 0 = some (.ref (D 0))) (hl1 : rlook ls 1 = some (I x1)) (hl3 : rlook ls 3 = some (I (2))) (hl4 : rlook ls 4 = some (.ref (D 4))) (h0 : inr x1) (x_0 : (F 4 1) ≤ 16384) (hc133 : ∀ (x5_ : Int) (ls : rO) (σₚ : rS) (Dₚ Nₚ : Nat → Nat) (Fₚ : hF) (Aₚ : hA) (cₚ sₚ : Nat), PHI g σₚ Dₚ Nₚ Fₚ Aₚ → STP g σ D N A c s g σₚ Dₚ Nₚ Aₚ cₚ sₚ → rlook ls 0 = some (.ref (Dₚ 0)) → rlook ls 1 = some (I (x1)) → rlook ls 3 = some (I (2)) → rlook ls 4 = some (.ref (Dₚ 4)) → rlook ls 5 = some (I x5_) → ((Fₚ 4 1) ≤ 16384) → ((Fₚ 25 1) = 0) → (x5_ = 1) → Ew 17 (d + 1) 133 ls [.ref (Dₚ 0)] σₚ cₚ sₚ Q) (k : ∀ (z : Int) (σₚ : rS) (Dₚ Nₚ : Nat → Nat) (Fₚ : hF) (Aₚ : hA) (cₚ sₚ : Nat), PHI g σₚ Dₚ Nₚ Fₚ Aₚ → STP g σ D N A c s g σₚ Dₚ Nₚ Aₚ cₚ sₚ → (inr z) → Q (some (I z)) σₚ cₚ sₚ) : Ew 17 (d + 1) 54 ls [] σ c s Q := by
  obtain ⟨HX, HT, hg0, hPF, hAB, hNZ, hGI, hI0, hI1, hI2, hI3, hI4, hI5, hI6, hI7, hI8, hI9⟩ := X
  have hset := SETI_f hI0.2.2.2.2.2.2.2.2.2.2.2.2.2.2.2.2.2
  have hJ0 := hI0
  unfold INV0 at hJ0
  obtain ⟨f0_0, f0_1, f0_2, f0_3, f0_4, f0_5, f0_6, f0_7, f0_8, f0_9, f0_10, f0_11, f0_12, f0_13, f0_14, f0_15, f0_16, f0_17⟩ := hJ0
  have hp : ∀ x, x < (V17_vc2).length → SPH g (ι_wc2_1.getD x 0) = true := SPH_of (gs := [0]) (by intro j hj; simp at hj; subst hj; exact hg0) rfl (by decide +kernel)
  refine C17_vc2 (D := pul ι_wc2_1 D) (N := pul ι_wc2_1 N) (F := pul ι_wc2_1 F) (A := pul ι_wc2_1 A) (HWs_sub HX vs_wc2_1 hp) (show F 0 5 = (D 25 : Int) from hPF (0, 0, 5, 25) (List.mem_of_getElem? (i := 24) rfl) hg0 hg0) (show F 25 0 = (D 26 : Int) from hPF (0, 25, 0, 26) (List.mem_of_getElem? (i := 25) rfl) hg0 hg0) (N 26 : Int) rfl (F 25 1) rfl  hl0 hl1 hl3 hl4 (show inr (x1) by assumption) (show 0 ≤ (F 25 1) ∧ (F 25 1) ≤ ((N 26 : Int)) ∧ ((N 26 : Int)) ≤ 65536 by assumption) (fun  ls σ F_c133 A_c133 xc133_5 lc133_0 lc133_1 lc133_3 lc133_4 lc133_5 H O hS_c133 hA_c133   yc133_2_1 eyc133_2_1  jc133_0 jc133_1 jc133_2 jc133_3 => ?_) (fun z σₚ Fₚ Aₚ Hₚ O sf sa q0 q1 => ?_)
  · skip
    subst eyc133_2_1
    have sd : SD [] (pul ι_wc2_1 D) (pul ι_wc2_1 D) := SD_refl
    have sn : SD [] (pul ι_wc2_1 N) (pul ι_wc2_1 N) := SD_refl
    have : F_c133 1 1 = F 4 1 := hS_c133 1 1 rfl
    refine hc133  xc133_5 _ _ (glu ι_wc2_1 D (pul ι_wc2_1 D)) (glu ι_wc2_1 N (pul ι_wc2_1 N)) (glu ι_wc2_1 F F_c133) (glu ι_wc2_1 A A_c133) _ _ ⟨HWs_call HX VPH_3 vs_wc2_1 hp H O, STC_call HT HX vs_wc2_1 hp O, hg0, PFI_glue (dl := []) hPF hS_c133 hA_c133 sd (by decide +kernel) (rexc_of (l := []) (by decide +kernel) ?_), ABS_glue hAB hS_c133 (by decide +kernel), NZ_glue hNZ vs_wc2_1 hp sn (by decide +kernel), hGI, ?_, ?_, ?_, ?_, ?_, ?_, ?_, ?_, ?_, ?_⟩ ⟨(STP0_call (STY_call vs_wc2_1 hp O) (sd 0 rfl) (RM_call vs_wc2_1 O)), unt1_of (x := 10) (by decide +kernel) (fun p hp => funext (hA_c133 p hp))⟩ lc133_0 lc133_1 lc133_3 lc133_4 lc133_5 (show (F_c133 1 1) ≤ 16384 by (rw [show F_c133 1 1 = F 4 1 from hS_c133 1 1 rfl]; assumption)) (show (F_c133 2 1) = 0 by assumption) (show xc133_5 = 1 by assumption)
    · intro e he h1 h2
      cases he
    · skip
      exact ⟨QF0_0_eq (EQD_glue hS_c133 hA_c133 sd sn (by decide +kernel)) f0_0, QF0_1_eq (EQD_glue hS_c133 hA_c133 sd sn (by decide +kernel)) f0_1, QF0_2_eq (EQD_glue hS_c133 hA_c133 sd sn (by decide +kernel)) f0_2, QF0_3_eq (EQD_glue hS_c133 hA_c133 sd sn (by decide +kernel)) f0_3, QF0_4_eq (EQD_glue hS_c133 hA_c133 sd sn (by decide +kernel)) f0_4, show 0 ≤ (F_c133 2 1) ∧ (F_c133 2 1) ≤ ((N 26 : Int)) ∧ ((N 26 : Int)) ≤ 65536 from (by assumption), QF0_6_eq (EQD_glue hS_c133 hA_c133 sd sn (by decide +kernel)) f0_6, QF0_7_eq (EQD_glue hS_c133 hA_c133 sd sn (by decide +kernel)) f0_7, QF0_8_eq (EQD_glue hS_c133 hA_c133 sd sn (by decide +kernel)) f0_8, QF0_9_eq (EQD_glue hS_c133 hA_c133 sd sn (by decide +kernel)) f0_9, QF0_10_eq (EQD_glue hS_c133 hA_c133 sd sn (by decide +kernel)) f0_10, QF0_11_eq (EQD_glue hS_c133 hA_c133 sd sn (by decide +kernel)) f0_11, QF0_12_eq (EQD_glue hS_c133 hA_c133 sd sn (by decide +kernel)) f0_12, QF0_13_eq (EQD_glue hS_c133 hA_c133 sd sn (by decide +kernel)) f0_13, QF0_14_eq (EQD_glue hS_c133 hA_c133 sd sn (by decide +kernel)) f0_14, QF0_15_eq (EQD_glue hS_c133 hA_c133 sd sn (by decide +kernel)) f0_15, QF0_16_eq (EQD_glue hS_c133 hA_c133 sd sn (by decide +kernel)) f0_16, QF0_17_eq (EQD_glue hS_c133 hA_c133 sd sn (by decide +kernel)) f0_17⟩
    · exact fun h => INV1_eq (EQD_glue hS_c133 hA_c133 sd sn (by decide +kernel)) (hI1 h)
    · exact fun h => INV2_eq (EQD_glue hS_c133 hA_c133 sd sn (by decide +kernel)) (hI2 h)
    · exact fun h => INV3_eq (EQD_glue hS_c133 hA_c133 sd sn (by decide +kernel)) (hI3 h)
    · exact fun h => INV4_eq (EQD_glue hS_c133 hA_c133 sd sn (by decide +kernel)) (hI4 h)
    · exact fun h => INV5_eq (EQD_glue hS_c133 hA_c133 sd sn (by decide +kernel)) (hI5 h)
    · exact fun h => INV6_eq (EQD_glue hS_c133 hA_c133 sd sn (by decide +kernel)) (hI6 h)
    · exact fun h => INV7_eq (EQD_glue hS_c133 hA_c133 sd sn (by decide +kernel)) (hI7 h)
    · exact fun h => INV8_eq (EQD_glue hS_c133 hA_c133 sd sn (by decide +kernel)) (hI8 h)
    · exact fun h => INV9_eq (EQD_glue hS_c133 hA_c133 sd sn (by decide +kernel)) (hI9 h)
  · skip
    have sd : SD [] (pul ι_wc2_1 D) (pul ι_wc2_1 D) := SD_refl
    have sn : SD [] (pul ι_wc2_1 N) (pul ι_wc2_1 N) := SD_refl
    refine k z _ (glu ι_wc2_1 D (pul ι_wc2_1 D)) (glu ι_wc2_1 N (pul ι_wc2_1 N)) (glu ι_wc2_1 F Fₚ) (glu ι_wc2_1 A Aₚ) _ _ ⟨HWs_call HX VPH_3 vs_wc2_1 hp Hₚ O, STC_call HT HX vs_wc2_1 hp O, hg0, PFI_glue (dl := []) hPF sf sa sd (by decide +kernel) (rexc_of (l := []) (by decide +kernel) ?_), ABS_glue hAB sf (by decide +kernel), NZ_glue hNZ vs_wc2_1 hp sn (by decide +kernel), hGI, ?_, ?_, ?_, ?_, ?_, ?_, ?_, ?_, ?_, ?_⟩ ⟨(STP0_call (STY_call vs_wc2_1 hp O) (sd 0 rfl) (RM_call vs_wc2_1 O)), unt1_of (x := 10) (by decide +kernel) (fun p hp => funext (sa p hp))⟩ (show inr z by assumption)
    · intro e he h1 h2
      cases he
    · skip
      exact ⟨QF0_0_eq (EQD_glue sf sa sd sn (by decide +kernel)) f0_0, QF0_1_eq (EQD_glue sf sa sd sn (by decide +kernel)) f0_1, QF0_2_eq (EQD_glue sf sa sd sn (by decide +kernel)) f0_2, QF0_3_eq (EQD_glue sf sa sd sn (by decide +kernel)) f0_3, QF0_4_eq (EQD_glue sf sa sd sn (by decide +kernel)) f0_4, show 0 ≤ (Fₚ 2 1) ∧ (Fₚ 2 1) ≤ ((N 26 : Int)) ∧ ((N 26 : Int)) ≤ 65536 from (by omega), QF0_6_eq (EQD_glue sf sa sd sn (by decide +kernel)) f0_6, QF0_7_eq (EQD_glue sf sa sd sn (by decide +kernel)) f0_7, QF0_8_eq (EQD_glue sf sa sd sn (by decide +kernel)) f0_8, QF0_9_eq (EQD_glue sf sa sd sn (by decide +kernel)) f0_9, QF0_10_eq (EQD_glue sf sa sd sn (by decide +kernel)) f0_10, QF0_11_eq (EQD_glue sf sa sd sn (by decide +kernel)) f0_11, QF0_12_eq (EQD_glue sf sa sd sn (by decide +kernel)) f0_12, QF0_13_eq (EQD_glue sf sa sd sn (by decide +kernel)) f0_13, QF0_14_eq (EQD_glue sf sa sd sn (by decide +kernel)) f0_14, QF0_15_eq (EQD_glue sf sa sd sn (by decide +kernel)) f0_15, QF0_16_eq (EQD_glue sf sa sd sn (by decide +kernel)) f0_16, QF0_17_eq (EQD_glue sf sa sd sn (by decide +kernel)) f0_17⟩
    · exact fun h => INV1_eq (EQD_glue sf sa sd sn (by decide +kernel)) (hI1 h)
    · exact fun h => INV2_eq (EQD_glue sf sa sd sn (by decide +kernel)) (hI2 h)
    · exact fun h => INV3_eq (EQD_glue sf sa sd sn (by decide +kernel)) (hI3 h)
    · exact fun h => INV4_eq (EQD_glue sf sa sd sn (by decide +kernel)) (hI4 h)
    · exact fun h => INV5_eq (EQD_glue sf sa sd sn (by decide +kernel)) (hI5 h)
    · exact fun h => INV6_eq (EQD_glue sf sa sd sn (by decide +kernel)) (hI6 h)
    · exact fun h => INV7_eq (EQD_glue sf sa sd sn (by decide +kernel)) (hI7 h)
    · exact fun h => INV8_eq (EQD_glue sf sa sd sn (by decide +kernel)) (hI8 h)
    · exact fun h => INV9_eq (EQD_glue sf sa sd sn (by decide +kernel)) (hI9 h)
def ι_wc2_2 : List Nat := [0, 6, 25, 26]
theorem vs_wc2_2 : VS VPH V17_vc2 ι_wc2_2 := VS_of (by decide +kernel)
set_option maxRecDepth 20000 in
theorem T_wc2_2 {g : Nat → Bool} {σ : rS} {D N : Nat → Nat} {F : hF} {A : hA} {d c s : Nat} {Q : wQ} (X : PHI g σ D N F A)  {x1 : Int} {ls : rO} (hl0 : rlook ls 0 = some (.ref (D 0))) (hl1 : rlook ls 1 = some (I x1)) (hl3 : rlook ls 3 = some (I (2))) (hl4 : rlook ls 4 = some (.ref (D 6))) (h0 : inr x1) (x_0 : (F 6 1) ≤ 16384) (hc133 : ∀ (x5_ : Int) (ls : rO) (σₚ : rS) (Dₚ Nₚ : Nat → Nat) (Fₚ : hF) (Aₚ : hA) (cₚ sₚ : Nat), PHI g σₚ Dₚ Nₚ Fₚ Aₚ → STP g σ D N A c s g σₚ Dₚ Nₚ Aₚ cₚ sₚ → rlook ls 0 = some (.ref (Dₚ 0)) → rlook ls 1 = some (I (x1)) → rlook ls 3 = some (I (2)) → rlook ls 4 = some (.ref (Dₚ 6)) → rlook ls 5 = some (I x5_) → ((Fₚ 6 1) ≤ 16384) → ((Fₚ 25 1) = 0) → (x5_ = 1) → Ew 17 (d + 1) 133 ls [.ref (Dₚ 0)] σₚ cₚ sₚ Q) (k : ∀ (z : Int) (σₚ : rS) (Dₚ Nₚ : Nat → Nat) (Fₚ : hF) (Aₚ : hA) (cₚ sₚ : Nat), PHI g σₚ Dₚ Nₚ Fₚ Aₚ → STP g σ D N A c s g σₚ Dₚ Nₚ Aₚ cₚ sₚ → (inr z) → Q (some (I z)) σₚ cₚ sₚ) : Ew 17 (d + 1) 54 ls [] σ c s Q := by
  obtain ⟨HX, HT, hg0, hPF, hAB, hNZ, hGI, hI0, hI1, hI2, hI3, hI4, hI5, hI6, hI7, hI8, hI9⟩ := X
  have hset := SETI_f hI0.2.2.2.2.2.2.2.2.2.2.2.2.2.2.2.2.2
  have hJ0 := hI0
  unfold INV0 at hJ0
  obtain ⟨f0_0, f0_1, f0_2, f0_3, f0_4, f0_5, f0_6, f0_7, f0_8, f0_9, f0_10, f0_11, f0_12, f0_13, f0_14, f0_15, f0_16, f0_17⟩ := hJ0
  have hp : ∀ x, x < (V17_vc2).length → SPH g (ι_wc2_2.getD x 0) = true := SPH_of (gs := [0]) (by intro j hj; simp at hj; subst hj; exact hg0) rfl (by decide +kernel)
  refine C17_vc2 (D := pul ι_wc2_2 D) (N := pul ι_wc2_2 N) (F := pul ι_wc2_2 F) (A := pul ι_wc2_2 A) (HWs_sub HX vs_wc2_2 hp) (show F 0 5 = (D 25 : Int) from hPF (0, 0, 5, 25) (List.mem_of_getElem? (i := 24) rfl) hg0 hg0) (show F 25 0 = (D 26 : Int) from hPF (0, 25, 0, 26) (List.mem_of_getElem? (i := 25) rfl) hg0 hg0) (N 26 : Int) rfl (F 25 1) rfl  hl0 hl1 hl3 hl4 (show inr (x1) by assumption) (show 0 ≤ (F 25 1) ∧ (F 25 1) ≤ ((N 26 : Int)) ∧ ((N 26 : Int)) ≤ 65536 by assumption) (fun  ls σ F_c133 A_c133 xc133_5 lc133_0 lc133_1 lc133_3 lc133_4 lc133_5 H O hS_c133 hA_c133   yc133_2_1 eyc133_2_1  jc133_0 jc133_1 jc133_2 jc133_3 => ?_) (fun z σₚ Fₚ Aₚ Hₚ O sf sa q0 q1 => ?_)
  · skip
    subst eyc133_2_1
    have sd : SD [] (pul ι_wc2_2 D) (pul ι_wc2_2 D) := SD_refl
    have sn : SD [] (pul ι_wc2_2 N) (pul ι_wc2_2 N) := SD_refl
    have : F_c133 1 1 = F 6 1 := hS_c133 1 1 rfl
    refine hc133  xc133_5 _ _ (glu ι_wc2_2 D (pul ι_wc2_2 D)) (glu ι_wc2_2 N (pul ι_wc2_2 N)) (glu ι_wc2_2 F F_c133) (glu ι_wc2_2 A A_c133) _ _ ⟨HWs_call HX VPH_3 vs_wc2_2 hp H O, STC_call HT HX vs_wc2_2 hp O, hg0, PFI_glue (dl := []) hPF hS_c133 hA_c133 sd (by decide +kernel) (rexc_of (l := []) (by decide +kernel) ?_), ABS_glue hAB hS_c133 (by decide +kernel), NZ_glue hNZ vs_wc2_2 hp sn (by decide +kernel), hGI, ?_, ?_, ?_, ?_, ?_, ?_, ?_, ?_, ?_, ?_⟩ ⟨(STP0_call (STY_call vs_wc2_2 hp O) (sd 0 rfl) (RM_call vs_wc2_2 O)), unt1_of (x := 10) (by decide +kernel) (fun p hp => funext (hA_c133 p hp))⟩ lc133_0 lc133_1 lc133_3 lc133_4 lc133_5 (show (F_c133 1 1) ≤ 16384 by (rw [show F_c133 1 1 = F 6 1 from hS_c133 1 1 rfl]; assumption)) (show (F_c133 2 1) = 0 by assumption) (show xc133_5 = 1 by assumption)
    · intro e he h1 h2
      cases he
    · skip
      exact ⟨QF0_0_eq (EQD_glue hS_c133 hA_c133 sd sn (by decide +kernel)) f0_0, QF0_1_eq (EQD_glue hS_c133 hA_c133 sd sn (by decide +kernel)) f0_1, QF0_2_eq (EQD_glue hS_c133 hA_c133 sd sn (by decide +kernel)) f0_2, QF0_3_eq (EQD_glue hS_c133 hA_c133 sd sn (by decide +kernel)) f0_3, QF0_4_eq (EQD_glue hS_c133 hA_c133 sd sn (by decide +kernel)) f0_4, show 0 ≤ (F_c133 2 1) ∧ (F_c133 2 1) ≤ ((N 26 : Int)) ∧ ((N 26 : Int)) ≤ 65536 from (by assumption), QF0_6_eq (EQD_glue hS_c133 hA_c133 sd sn (by decide +kernel)) f0_6, QF0_7_eq (EQD_glue hS_c133 hA_c133 sd sn (by decide +kernel)) f0_7, QF0_8_eq (EQD_glue hS_c133 hA_c133 sd sn (by decide +kernel)) f0_8, QF0_9_eq (EQD_glue hS_c133 hA_c133 sd sn (by decide +kernel)) f0_9, QF0_10_eq (EQD_glue hS_c133 hA_c133 sd sn (by decide +kernel)) f0_10, QF0_11_eq (EQD_glue hS_c133 hA_c133 sd sn (by decide +kernel)) f0_11, QF0_12_eq (EQD_glue hS_c133 hA_c133 sd sn (by decide +kernel)) f0_12, QF0_13_eq (EQD_glue hS_c133 hA_c133 sd sn (by decide +kernel)) f0_13, QF0_14_eq (EQD_glue hS_c133 hA_c133 sd sn (by decide +kernel)) f0_14, QF0_15_eq (EQD_glue hS_c133 hA_c133 sd sn (by decide +kernel)) f0_15, QF0_16_eq (EQD_glue hS_c133 hA_c133 sd sn (by decide +kernel)) f0_16, QF0_17_eq (EQD_glue hS_c133 hA_c133 sd sn (by decide +kernel)) f0_17⟩
    · exact fun h => INV1_eq (EQD_glue hS_c133 hA_c133 sd sn (by decide +kernel)) (hI1 h)
    · exact fun h => INV2_eq (EQD_glue hS_c133 hA_c133 sd sn (by decide +kernel)) (hI2 h)
    · exact fun h => INV3_eq (EQD_glue hS_c133 hA_c133 sd sn (by decide +kernel)) (hI3 h)
    · exact fun h => INV4_eq (EQD_glue hS_c133 hA_c133 sd sn (by decide +kernel)) (hI4 h)
    · exact fun h => INV5_eq (EQD_glue hS_c133 hA_c133 sd sn (by decide +kernel)) (hI5 h)
    · exact fun h => INV6_eq (EQD_glue hS_c133 hA_c133 sd sn (by decide +kernel)) (hI6 h)
    · exact fun h => INV7_eq (EQD_glue hS_c133 hA_c133 sd sn (by decide +kernel)) (hI7 h)
    · exact fun h => INV8_eq (EQD_glue hS_c133 hA_c133 sd sn (by decide +kernel)) (hI8 h)
    · exact fun h => INV9_eq (EQD_glue hS_c133 hA_c133 sd sn (by decide +kernel)) (hI9 h)
  · skip
    have sd : SD [] (pul ι_wc2_2 D) (pul ι_wc2_2 D) := SD_refl
    have sn : SD [] (pul ι_wc2_2 N) (pul ι_wc2_2 N) := SD_refl
    refine k z _ (glu ι_wc2_2 D (pul ι_wc2_2 D)) (glu ι_wc2_2 N (pul ι_wc2_2 N)) (glu ι_wc2_2 F Fₚ) (glu ι_wc2_2 A Aₚ) _ _ ⟨HWs_call HX VPH_3 vs_wc2_2 hp Hₚ O, STC_call HT HX vs_wc2_2 hp O, hg0, PFI_glue (dl := []) hPF sf sa sd (by decide +kernel) (rexc_of (l := []) (by decide +kernel) ?_), ABS_glue hAB sf (by decide +kernel), NZ_glue hNZ vs_wc2_2 hp sn (by decide +kernel), hGI, ?_, ?_, ?_, ?_, ?_, ?_, ?_, ?_, ?_, ?_⟩ ⟨(STP0_call (STY_call vs_wc2_2 hp O) (sd 0 rfl) (RM_call vs_wc2_2 O)), unt1_of (x := 10) (by decide +kernel) (fun p hp => funext (sa p hp))⟩ (show inr z by assumption)
    · intro e he h1 h2
      cases he
    · skip
      exact ⟨QF0_0_eq (EQD_glue sf sa sd sn (by decide +kernel)) f0_0, QF0_1_eq (EQD_glue sf sa sd sn (by decide +kernel)) f0_1, QF0_2_eq (EQD_glue sf sa sd sn (by decide +kernel)) f0_2, QF0_3_eq (EQD_glue sf sa sd sn (by decide +kernel)) f0_3, QF0_4_eq (EQD_glue sf sa sd sn (by decide +kernel)) f0_4, show 0 ≤ (Fₚ 2 1) ∧ (Fₚ 2 1) ≤ ((N 26 : Int)) ∧ ((N 26 : Int)) ≤ 65536 from (by omega), QF0_6_eq (EQD_glue sf sa sd sn (by decide +kernel)) f0_6, QF0_7_eq (EQD_glue sf sa sd sn (by decide +kernel)) f0_7, QF0_8_eq (EQD_glue sf sa sd sn (by decide +kernel)) f0_8, QF0_9_eq (EQD_glue sf sa sd sn (by decide +kernel)) f0_9, QF0_10_eq (EQD_glue sf sa sd sn (by decide +kernel)) f0_10, QF0_11_eq (EQD_glue sf sa sd sn (by decide +kernel)) f0_11, QF0_12_eq (EQD_glue sf sa sd sn (by decide +kernel)) f0_12, QF0_13_eq (EQD_glue sf sa sd sn (by decide +kernel)) f0_13, QF0_14_eq (EQD_glue sf sa sd sn (by decide +kernel)) f0_14, QF0_15_eq (EQD_glue sf sa sd sn (by decide +kernel)) f0_15, QF0_16_eq (EQD_glue sf sa sd sn (by decide +kernel)) f0_16, QF0_17_eq (EQD_glue sf sa sd sn (by decide +kernel)) f0_17⟩
    · exact fun h => INV1_eq (EQD_glue sf sa sd sn (by decide +kernel)) (hI1 h)
    · exact fun h => INV2_eq (EQD_glue sf sa sd sn (by decide +kernel)) (hI2 h)
    · exact fun h => INV3_eq (EQD_glue sf sa sd sn (by decide +kernel)) (hI3 h)
    · exact fun h => INV4_eq (EQD_glue sf sa sd sn (by decide +kernel)) (hI4 h)
    · exact fun h => INV5_eq (EQD_glue sf sa sd sn (by decide +kernel)) (hI5 h)
    · exact fun h => INV6_eq (EQD_glue sf sa sd sn (by decide +kernel)) (hI6 h)
    · exact fun h => INV7_eq (EQD_glue sf sa sd sn (by decide +kernel)) (hI7 h)
    · exact fun h => INV8_eq (EQD_glue sf sa sd sn (by decide +kernel)) (hI8 h)
    · exact fun h => INV9_eq (EQD_glue sf sa sd sn (by decide +kernel)) (hI9 h)
def ι_wc2_3 : List Nat := [0, 8, 25, 26]
theorem vs_wc2_3 : VS VPH V17_vc2 ι_wc2_3 := VS_of (by decide +kernel)
set_option maxRecDepth 20000 in
theorem T_wc2_3 {g : Nat → Bool} {σ : rS} {D N : Nat → Nat} {F : hF} {A : hA} {d c s : Nat} {Q : wQ} (X : PHI g σ D N F A)  {x1 : Int} {ls : rO} (hl0 : rlook ls 0 = some (.ref (D 0))) (hl1 : rlook ls 1 = some (I x1)) (hl3 : rlook ls 3 = some (I (2))) (hl4 : rlook ls 4 = some (.ref (D 8))) (h0 : inr x1) (x_0 : (F 8 1) ≤ 16384) (hc133 : ∀ (x5_ : Int) (ls : rO) (σₚ : rS) (Dₚ Nₚ : Nat → Nat) (Fₚ : hF) (Aₚ : hA) (cₚ sₚ : Nat), PHI g σₚ Dₚ Nₚ Fₚ Aₚ → STP g σ D N A c s g σₚ Dₚ Nₚ Aₚ cₚ sₚ → rlook ls 0 = some (.ref (Dₚ 0)) → rlook ls 1 = some (I (x1)) → rlook ls 3 = some (I (2)) → rlook ls 4 = some (.ref (Dₚ 8)) → rlook ls 5 = some (I x5_) → ((Fₚ 8 1) ≤ 16384) → ((Fₚ 25 1) = 0) → (x5_ = 1) → Ew 17 (d + 1) 133 ls [.ref (Dₚ 0)] σₚ cₚ sₚ Q) (k : ∀ (z : Int) (σₚ : rS) (Dₚ Nₚ : Nat → Nat) (Fₚ : hF) (Aₚ : hA) (cₚ sₚ : Nat), PHI g σₚ Dₚ Nₚ Fₚ Aₚ → STP g σ D N A c s g σₚ Dₚ Nₚ Aₚ cₚ sₚ → (inr z) → Q (some (I z)) σₚ cₚ sₚ) : Ew 17 (d + 1) 54 ls [] σ c s Q := by
  obtain ⟨HX, HT, hg0, hPF, hAB, hNZ, hGI, hI0, hI1, hI2, hI3, hI4, hI5, hI6, hI7, hI8, hI9⟩ := X
  have hset := SETI_f hI0.2.2.2.2.2.2.2.2.2.2.2.2.2.2.2.2.2
  have hJ0 := hI0
  unfold INV0 at hJ0
  obtain ⟨f0_0, f0_1, f0_2, f0_3, f0_4, f0_5, f0_6, f0_7, f0_8, f0_9, f0_10, f0_11, f0_12, f0_13, f0_14, f0_15, f0_16, f0_17⟩ := hJ0
  have hp : ∀ x, x < (V17_vc2).length → SPH g (ι_wc2_3.getD x 0) = true := SPH_of (gs := [0]) (by intro j hj; simp at hj; subst hj; exact hg0) rfl (by decide +kernel)
  refine C17_vc2 (D := pul ι_wc2_3 D) (N := pul ι_wc2_3 N) (F := pul ι_wc2_3 F) (A := pul ι_wc2_3 A) (HWs_sub HX vs_wc2_3 hp) (show F 0 5 = (D 25 : Int) from hPF (0, 0, 5, 25) (List.mem_of_getElem? (i := 24) rfl) hg0 hg0) (show F 25 0 = (D 26 : Int) from hPF (0, 25, 0, 26) (List.mem_of_getElem? (i := 25) rfl) hg0 hg0) (N 26 : Int) rfl (F 25 1) rfl  hl0 hl1 hl3 hl4 (show inr (x1) by assumption) (show 0 ≤ (F 25 1) ∧ (F 25 1) ≤ ((N 26 : Int)) ∧ ((N 26 : Int)) ≤ 65536 by assumption) (fun  ls σ F_c133 A_c133 xc133_5 lc133_0 lc133_1 lc133_3 lc133_4 lc133_5 H O hS_c133 hA_c133   yc133_2_1 eyc133_2_1  jc133_0 jc133_1 jc133_2 jc133_3 => ?_) (fun z σₚ Fₚ Aₚ Hₚ O sf sa q0 q1 => ?_)
  · skip
    subst eyc133_2_1
    have sd : SD [] (pul ι_wc2_3 D) (pul ι_wc2_3 D) := SD_refl
    have sn : SD [] (pul ι_wc2_3 N) (pul ι_wc2_3 N) := SD_refl
    have : F_c133 1 1 = F 8 1 := hS_c133 1 1 rfl
    refine hc133  xc133_5 _ _ (glu ι_wc2_3 D (pul ι_wc2_3 D)) (glu ι_wc2_3 N (pul ι_wc2_3 N)) (glu ι_wc2_3 F F_c133) (glu ι_wc2_3 A A_c133) _ _ ⟨HWs_call HX VPH_3 vs_wc2_3 hp H O, STC_call HT HX vs_wc2_3 hp O, hg0, PFI_glue (dl := []) hPF hS_c133 hA_c133 sd (by decide +kernel) (rexc_of (l := []) (by decide +kernel) ?_), ABS_glue hAB hS_c133 (by decide +kernel), NZ_glue hNZ vs_wc2_3 hp sn (by decide +kernel), hGI, ?_, ?_, ?_, ?_, ?_, ?_, ?_, ?_, ?_, ?_⟩ ⟨(STP0_call (STY_call vs_wc2_3 hp O) (sd 0 rfl) (RM_call vs_wc2_3 O)), unt1_of (x := 10) (by decide +kernel) (fun p hp => funext (hA_c133 p hp))⟩ lc133_0 lc133_1 lc133_3 lc133_4 lc133_5 (show (F_c133 1 1) ≤ 16384 by (rw [show F_c133 1 1 = F 8 1 from hS_c133 1 1 rfl]; assumption)) (show (F_c133 2 1) = 0 by assumption) (show xc133_5 = 1 by assumption)
    · intro e he h1 h2
      cases he
    · skip
      exact ⟨QF0_0_eq (EQD_glue hS_c133 hA_c133 sd sn (by decide +kernel)) f0_0, QF0_1_eq (EQD_glue hS_c133 hA_c133 sd sn (by decide +kernel)) f0_1, QF0_2_eq (EQD_glue hS_c133 hA_c133 sd sn (by decide +kernel)) f0_2, QF0_3_eq (EQD_glue hS_c133 hA_c133 sd sn (by decide +kernel)) f0_3, QF0_4_eq (EQD_glue hS_c133 hA_c133 sd sn (by decide +kernel)) f0_4, show 0 ≤ (F_c133 2 1) ∧ (F_c133 2 1) ≤ ((N 26 : Int)) ∧ ((N 26 : Int)) ≤ 65536 from (by assumption), QF0_6_eq (EQD_glue hS_c133 hA_c133 sd sn (by decide +kernel)) f0_6, QF0_7_eq (EQD_glue hS_c133 hA_c133 sd sn (by decide +kernel)) f0_7, QF0_8_eq (EQD_glue hS_c133 hA_c133 sd sn (by decide +kernel)) f0_8, QF0_9_eq (EQD_glue hS_c133 hA_c133 sd sn (by decide +kernel)) f0_9, QF0_10_eq (EQD_glue hS_c133 hA_c133 sd sn (by decide +kernel)) f0_10, QF0_11_eq (EQD_glue hS_c133 hA_c133 sd sn (by decide +kernel)) f0_11, QF0_12_eq (EQD_glue hS_c133 hA_c133 sd sn (by decide +kernel)) f0_12, QF0_13_eq (EQD_glue hS_c133 hA_c133 sd sn (by decide +kernel)) f0_13, QF0_14_eq (EQD_glue hS_c133 hA_c133 sd sn (by decide +kernel)) f0_14, QF0_15_eq (EQD_glue hS_c133 hA_c133 sd sn (by decide +kernel)) f0_15, QF0_16_eq (EQD_glue hS_c133 hA_c133 sd sn (by decide +kernel)) f0_16, QF0_17_eq (EQD_glue hS_c133 hA_c133 sd sn (by decide +kernel)) f0_17⟩
    · exact fun h => INV1_eq (EQD_glue hS_c133 hA_c133 sd sn (by decide +kernel)) (hI1 h)
    · exact fun h => INV2_eq (EQD_glue hS_c133 hA_c133 sd sn (by decide +kernel)) (hI2 h)
    · exact fun h => INV3_eq (EQD_glue hS_c133 hA_c133 sd sn (by decide +kernel)) (hI3 h)
    · exact fun h => INV4_eq (EQD_glue hS_c133 hA_c133 sd sn (by decide +kernel)) (hI4 h)
    · exact fun h => INV5_eq (EQD_glue hS_c133 hA_c133 sd sn (by decide +kernel)) (hI5 h)
    · exact fun h => INV6_eq (EQD_glue hS_c133 hA_c133 sd sn (by decide +kernel)) (hI6 h)
    · exact fun h => INV7_eq (EQD_glue hS_c133 hA_c133 sd sn (by decide +kernel)) (hI7 h)
    · exact fun h => INV8_eq (EQD_glue hS_c133 hA_c133 sd sn (by decide +kernel)) (hI8 h)
    · exact fun h => INV9_eq (EQD_glue hS_c133 hA_c133 sd sn (by decide +kernel)) (hI9 h)
  · skip
    have sd : SD [] (pul ι_wc2_3 D) (pul ι_wc2_3 D) := SD_refl
    have sn : SD [] (pul ι_wc2_3 N) (pul ι_wc2_3 N) := SD_refl
    refine k z _ (glu ι_wc2_3 D (pul ι_wc2_3 D)) (glu ι_wc2_3 N (pul ι_wc2_3 N)) (glu ι_wc2_3 F Fₚ) (glu ι_wc2_3 A Aₚ) _ _ ⟨HWs_call HX VPH_3 vs_wc2_3 hp Hₚ O, STC_call HT HX vs_wc2_3 hp O, hg0, PFI_glue (dl := []) hPF sf sa sd (by decide +kernel) (rexc_of (l := []) (by decide +kernel) ?_), ABS_glue hAB sf (by decide +kernel), NZ_glue hNZ vs_wc2_3 hp sn (by decide +kernel), hGI, ?_, ?_, ?_, ?_, ?_, ?_, ?_, ?_, ?_, ?_⟩ ⟨(STP0_call (STY_call vs_wc2_3 hp O) (sd 0 rfl) (RM_call vs_wc2_3 O)), unt1_of (x := 10) (by decide +kernel) (fun p hp => funext (sa p hp))⟩ (show inr z by assumption)
    · intro e he h1 h2
      cases he
    · skip
      exact ⟨QF0_0_eq (EQD_glue sf sa sd sn (by decide +kernel)) f0_0, QF0_1_eq (EQD_glue sf sa sd sn (by decide +kernel)) f0_1, QF0_2_eq (EQD_glue sf sa sd sn (by decide +kernel)) f0_2, QF0_3_eq (EQD_glue sf sa sd sn (by decide +kernel)) f0_3, QF0_4_eq (EQD_glue sf sa sd sn (by decide +kernel)) f0_4, show 0 ≤ (Fₚ 2 1) ∧ (Fₚ 2 1) ≤ ((N 26 : Int)) ∧ ((N 26 : Int)) ≤ 65536 from (by omega), QF0_6_eq (EQD_glue sf sa sd sn (by decide +kernel)) f0_6, QF0_7_eq (EQD_glue sf sa sd sn (by decide +kernel)) f0_7, QF0_8_eq (EQD_glue sf sa sd sn (by decide +kernel)) f0_8, QF0_9_eq (EQD_glue sf sa sd sn (by decide +kernel)) f0_9, QF0_10_eq (EQD_glue sf sa sd sn (by decide +kernel)) f0_10, QF0_11_eq (EQD_glue sf sa sd sn (by decide +kernel)) f0_11, QF0_12_eq (EQD_glue sf sa sd sn (by decide +kernel)) f0_12, QF0_13_eq (EQD_glue sf sa sd sn (by decide +kernel)) f0_13, QF0_14_eq (EQD_glue sf sa sd sn (by decide +kernel)) f0_14, QF0_15_eq (EQD_glue sf sa sd sn (by decide +kernel)) f0_15, QF0_16_eq (EQD_glue sf sa sd sn (by decide +kernel)) f0_16, QF0_17_eq (EQD_glue sf sa sd sn (by decide +kernel)) f0_17⟩
    · exact fun h => INV1_eq (EQD_glue sf sa sd sn (by decide +kernel)) (hI1 h)
    · exact fun h => INV2_eq (EQD_glue sf sa sd sn (by decide +kernel)) (hI2 h)
    · exact fun h => INV3_eq (EQD_glue sf sa sd sn (by decide +kernel)) (hI3 h)
    · exact fun h => INV4_eq (EQD_glue sf sa sd sn (by decide +kernel)) (hI4 h)
    · exact fun h => INV5_eq (EQD_glue sf sa sd sn (by decide +kernel)) (hI5 h)
    · exact fun h => INV6_eq (EQD_glue sf sa sd sn (by decide +kernel)) (hI6 h)
    · exact fun h => INV7_eq (EQD_glue sf sa sd sn (by decide +kernel)) (hI7 h)
    · exact fun h => INV8_eq (EQD_glue sf sa sd sn (by decide +kernel)) (hI8 h)
    · exact fun h => INV9_eq (EQD_glue sf sa sd sn (by decide +kernel)) (hI9 h)
def ι_wc3_0 : List Nat := [0, 2, 25, 26]
theorem vs_wc3_0 : VS VPH V17_vc3 ι_wc3_0 := VS_of (by decide +kernel)
set_option maxRecDepth 20000 in
theorem T_wc3_0 {g : Nat → Bool} {σ : rS} {D N : Nat → Nat} {F : hF} {A : hA} {d c s : Nat} {Q : wQ} (X : PHI g σ D N F A)  {x1 : Int} {ls : rO} (hl0 : rlook ls 0 = some (.ref (D 0))) (hl1 : rlook ls 1 = some (I x1)) (hl3 : rlook ls 3 = some (I (3))) (hl4 : rlook ls 4 = some (.ref (D 2))) (h0 : inr x1) (x_0 : (F 2 1) ≤ 16384) (hc149 : ∀ (x5_ : Int) (ls : rO) (σₚ : rS) (Dₚ Nₚ : Nat → Nat) (Fₚ : hF) (Aₚ : hA) (cₚ sₚ : Nat), PHI g σₚ Dₚ Nₚ Fₚ Aₚ → STP g σ D N A c s g σₚ Dₚ Nₚ Aₚ cₚ sₚ → rlook ls 0 = some (.ref (Dₚ 0)) → rlook ls 1 = some (I (x1)) → rlook ls 3 = some (I (3)) → rlook ls 4 = some (.ref (Dₚ 2)) → rlook ls 5 = some (I x5_) → ((Fₚ 2 1) ≤ 16384) → ((Fₚ 25 1) = 0) → (x5_ = 1) → Ew 17 (d + 1) 149 ls [.ref (Dₚ 0)] σₚ cₚ sₚ Q) (k : ∀ (z : Int) (σₚ : rS) (Dₚ Nₚ : Nat → Nat) (Fₚ : hF) (Aₚ : hA) (cₚ sₚ : Nat), PHI g σₚ Dₚ Nₚ Fₚ Aₚ → STP g σ D N A c s g σₚ Dₚ Nₚ Aₚ cₚ sₚ → (inr z) → Q (some (I z)) σₚ cₚ sₚ) : Ew 17 (d + 1) 54 ls [] σ c s Q := by
  obtain ⟨HX, HT, hg0, hPF, hAB, hNZ, hGI, hI0, hI1, hI2, hI3, hI4, hI5, hI6, hI7, hI8, hI9⟩ := X
  have hset := SETI_f hI0.2.2.2.2.2.2.2.2.2.2.2.2.2.2.2.2.2
  have hJ0 := hI0
  unfold INV0 at hJ0
  obtain ⟨f0_0, f0_1, f0_2, f0_3, f0_4, f0_5, f0_6, f0_7, f0_8, f0_9, f0_10, f0_11, f0_12, f0_13, f0_14, f0_15, f0_16, f0_17⟩ := hJ0
  have hp : ∀ x, x < (V17_vc3).length → SPH g (ι_wc3_0.getD x 0) = true := SPH_of (gs := [0]) (by intro j hj; simp at hj; subst hj; exact hg0) rfl (by decide +kernel)
  refine C17_vc3 (D := pul ι_wc3_0 D) (N := pul ι_wc3_0 N) (F := pul ι_wc3_0 F) (A := pul ι_wc3_0 A) (HWs_sub HX vs_wc3_0 hp) (show F 0 5 = (D 25 : Int) from hPF (0, 0, 5, 25) (List.mem_of_getElem? (i := 24) rfl) hg0 hg0) (show F 25 0 = (D 26 : Int) from hPF (0, 25, 0, 26) (List.mem_of_getElem? (i := 25) rfl) hg0 hg0) (N 26 : Int) rfl (F 25 1) rfl  hl0 hl1 hl3 hl4 (show inr (x1) by assumption) (show 0 ≤ (F 25 1) ∧ (F 25 1) ≤ ((N 26 : Int)) ∧ ((N 26 : Int)) ≤ 65536 by assumption) (fun  ls σ F_c149 A_c149 xc149_5 lc149_0 lc149_1 lc149_3 lc149_4 lc149_5 H O hS_c149 hA_c149   yc149_2_1 eyc149_2_1  jc149_0 jc149_1 jc149_2 jc149_3 => ?_) (fun z σₚ Fₚ Aₚ Hₚ O sf sa q0 q1 => ?_)
  · skip
    subst eyc149_2_1
    have sd : SD [] (pul ι_wc3_0 D) (pul ι_wc3_0 D) := SD_refl
    have sn : SD [] (pul ι_wc3_0 N) (pul ι_wc3_0 N) := SD_refl
    have : F_c149 1 1 = F 2 1 := hS_c149 1 1 rfl
    refine hc149  xc149_5 _ _ (glu ι_wc3_0 D (pul ι_wc3_0 D)) (glu ι_wc3_0 N (pul ι_wc3_0 N)) (glu ι_wc3_0 F F_c149) (glu ι_wc3_0 A A_c149) _ _ ⟨HWs_call HX VPH_3 vs_wc3_0 hp H O, STC_call HT HX vs_wc3_0 hp O, hg0, PFI_glue (dl := []) hPF hS_c149 hA_c149 sd (by decide +kernel) (rexc_of (l := []) (by decide +kernel) ?_), ABS_glue hAB hS_c149 (by decide +kernel), NZ_glue hNZ vs_wc3_0 hp sn (by decide +kernel), hGI, ?_, ?_, ?_, ?_, ?_, ?_, ?_, ?_, ?_, ?_⟩ ⟨(STP0_call (STY_call vs_wc3_0 hp O) (sd 0 rfl) (RM_call vs_wc3_0 O)), unt1_of (x := 10) (by decide +kernel) (fun p hp => funext (hA_c149 p hp))⟩ lc149_0 lc149_1 lc149_3 lc149_4 lc149_5 (show (F_c149 1 1) ≤ 16384 by (rw [show F_c149 1 1 = F 2 1 from hS_c149 1 1 rfl]; assumption)) (show (F_c149 2 1) = 0 by assumption) (show xc149_5 = 1 by assumption)
    · intro e he h1 h2
      cases he
    · skip
      exact ⟨QF0_0_eq (EQD_glue hS_c149 hA_c149 sd sn (by decide +kernel)) f0_0, QF0_1_eq (EQD_glue hS_c149 hA_c149 sd sn (by decide +kernel)) f0_1, QF0_2_eq (EQD_glue hS_c149 hA_c149 sd sn (by decide +kernel)) f0_2, QF0_3_eq (EQD_glue hS_c149 hA_c149 sd sn (by decide +kernel)) f0_3, QF0_4_eq (EQD_glue hS_c149 hA_c149 sd sn (by decide +kernel)) f0_4, show 0 ≤ (F_c149 2 1) ∧ (F_c149 2 1) ≤ ((N 26 : Int)) ∧ ((N 26 : Int)) ≤ 65536 from (by assumption), QF0_6_eq (EQD_glue hS_c149 hA_c149 sd sn (by decide +kernel)) f0_6, QF0_7_eq (EQD_glue hS_c149 hA_c149 sd sn (by decide +kernel)) f0_7, QF0_8_eq (EQD_glue hS_c149 hA_c149 sd sn (by decide +kernel)) f0_8, QF0_9_eq (EQD_glue hS_c149 hA_c149 sd sn (by decide +kernel)) f0_9, QF0_10_eq (EQD_glue hS_c149 hA_c149 sd sn (by decide +kernel)) f0_10, QF0_11_eq (EQD_glue hS_c149 hA_c149 sd sn (by decide +kernel)) f0_11, QF0_12_eq (EQD_glue hS_c149 hA_c149 sd sn (by decide +kernel)) f0_12, QF0_13_eq (EQD_glue hS_c149 hA_c149 sd sn (by decide +kernel)) f0_13, QF0_14_eq (EQD_glue hS_c149 hA_c149 sd sn (by decide +kernel)) f0_14, QF0_15_eq (EQD_glue hS_c149 hA_c149 sd sn (by decide +kernel)) f0_15, QF0_16_eq (EQD_glue hS_c149 hA_c149 sd sn (by decide +kernel)) f0_16, QF0_17_eq (EQD_glue hS_c149 hA_c149 sd sn (by decide +kernel)) f0_17⟩
    · exact fun h => INV1_eq (EQD_glue hS_c149 hA_c149 sd sn (by decide +kernel)) (hI1 h)
    · exact fun h => INV2_eq (EQD_glue hS_c149 hA_c149 sd sn (by decide +kernel)) (hI2 h)
    · exact fun h => INV3_eq (EQD_glue hS_c149 hA_c149 sd sn (by decide +kernel)) (hI3 h)
    · exact fun h => INV4_eq (EQD_glue hS_c149 hA_c149 sd sn (by decide +kernel)) (hI4 h)
    · exact fun h => INV5_eq (EQD_glue hS_c149 hA_c149 sd sn (by decide +kernel)) (hI5 h)
    · exact fun h => INV6_eq (EQD_glue hS_c149 hA_c149 sd sn (by decide +kernel)) (hI6 h)
    · exact fun h => INV7_eq (EQD_glue hS_c149 hA_c149 sd sn (by decide +kernel)) (hI7 h)
    · exact fun h => INV8_eq (EQD_glue hS_c149 hA_c149 sd sn (by decide +kernel)) (hI8 h)
    · exact fun h => INV9_eq (EQD_glue hS_c149 hA_c149 sd sn (by decide +kernel)) (hI9 h)
  · skip
    have sd : SD [] (pul ι_wc3_0 D) (pul ι_wc3_0 D) := SD_refl
    have sn : SD [] (pul ι_wc3_0 N) (pul ι_wc3_0 N) := SD_refl
    refine k z _ (glu ι_wc3_0 D (pul ι_wc3_0 D)) (glu ι_wc3_0 N (pul ι_wc3_0 N)) (glu ι_wc3_0 F Fₚ) (glu ι_wc3_0 A Aₚ) _ _ ⟨HWs_call HX VPH_3 vs_wc3_0 hp Hₚ O, STC_call HT HX vs_wc3_0 hp O, hg0, PFI_glue (dl := []) hPF sf sa sd (by decide +kernel) (rexc_of (l := []) (by decide +kernel) ?_), ABS_glue hAB sf (by decide +kernel), NZ_glue hNZ vs_wc3_0 hp sn (by decide +kernel), hGI, ?_, ?_, ?_, ?_, ?_, ?_, ?_, ?_, ?_, ?_⟩ ⟨(STP0_call (STY_call vs_wc3_0 hp O) (sd 0 rfl) (RM_call vs_wc3_0 O)), unt1_of (x := 10) (by decide +kernel) (fun p hp => funext (sa p hp))⟩ (show inr z by assumption)
    · intro e he h1 h2
      cases he
    · skip
      exact ⟨QF0_0_eq (EQD_glue sf sa sd sn (by decide +kernel)) f0_0, QF0_1_eq (EQD_glue sf sa sd sn (by decide +kernel)) f0_1, QF0_2_eq (EQD_glue sf sa sd sn (by decide +kernel)) f0_2, QF0_3_eq (EQD_glue sf sa sd sn (by decide +kernel)) f0_3, QF0_4_eq (EQD_glue sf sa sd sn (by decide +kernel)) f0_4, show 0 ≤ (Fₚ 2 1) ∧ (Fₚ 2 1) ≤ ((N 26 : Int)) ∧ ((N 26 : Int)) ≤ 65536 from (by omega), QF0_6_eq (EQD_glue sf sa sd sn (by decide +kernel)) f0_6, QF0_7_eq (EQD_glue sf sa sd sn (by decide +kernel)) f0_7, QF0_8_eq (EQD_glue sf sa sd sn (by decide +kernel)) f0_8, QF0_9_eq (EQD_glue sf sa sd sn (by decide +kernel)) f0_9, QF0_10_eq (EQD_glue sf sa sd sn (by decide +kernel)) f0_10, QF0_11_eq (EQD_glue sf sa sd sn (by decide +kernel)) f0_11, QF0_12_eq (EQD_glue sf sa sd sn (by decide +kernel)) f0_12, QF0_13_eq (EQD_glue sf sa sd sn (by decide +kernel)) f0_13, QF0_14_eq (EQD_glue sf sa sd sn (by decide +kernel)) f0_14, QF0_15_eq (EQD_glue sf sa sd sn (by decide +kernel)) f0_15, QF0_16_eq (EQD_glue sf sa sd sn (by decide +kernel)) f0_16, QF0_17_eq (EQD_glue sf sa sd sn (by decide +kernel)) f0_17⟩
    · exact fun h => INV1_eq (EQD_glue sf sa sd sn (by decide +kernel)) (hI1 h)
    · exact fun h => INV2_eq (EQD_glue sf sa sd sn (by decide +kernel)) (hI2 h)
    · exact fun h => INV3_eq (EQD_glue sf sa sd sn (by decide +kernel)) (hI3 h)
    · exact fun h => INV4_eq (EQD_glue sf sa sd sn (by decide +kernel)) (hI4 h)
    · exact fun h => INV5_eq (EQD_glue sf sa sd sn (by decide +kernel)) (hI5 h)
    · exact fun h => INV6_eq (EQD_glue sf sa sd sn (by decide +kernel)) (hI6 h)
    · exact fun h => INV7_eq (EQD_glue sf sa sd sn (by decide +kernel)) (hI7 h)
    · exact fun h => INV8_eq (EQD_glue sf sa sd sn (by decide +kernel)) (hI8 h)
    · exact fun h => INV9_eq (EQD_glue sf sa sd sn (by decide +kernel)) (hI9 h)
def ι_wc3_1 : List Nat := [0, 4, 25, 26]
theorem vs_wc3_1 : VS VPH V17_vc3 ι_wc3_1 := VS_of (by decide +kernel)
set_option maxRecDepth 20000 in
theorem T_wc3_1 {g : Nat → Bool} {σ : rS} {D N : Nat → Nat} {F : hF} {A : hA} {d c s : Nat} {Q : wQ} (X : PHI g σ D N F A)  {x1 : Int} {ls : rO} (hl0 : rlook ls 0 = some (.ref (D 0))) (hl1 : rlook ls 1 = some (I x1)) (hl3 : rlook ls 3 = some (I (3))) (hl4 : rlook ls 4 = some (.ref (D 4))) (h0 : inr x1) (x_0 : (F 4 1) ≤ 16384) (hc149 : ∀ (x5_ : Int) (ls : rO) (σₚ : rS) (Dₚ Nₚ : Nat → Nat) (Fₚ : hF) (Aₚ : hA) (cₚ sₚ : Nat), PHI g σₚ Dₚ Nₚ Fₚ Aₚ → STP g σ D N A c s g σₚ Dₚ Nₚ Aₚ cₚ sₚ → rlook ls 0 = some (.ref (Dₚ 0)) → rlook ls 1 = some (I (x1)) → rlook ls 3 = some (I (3)) → rlook ls 4 = some (.ref (Dₚ 4)) → rlook ls 5 = some (I x5_) → ((Fₚ 4 1) ≤ 16384) → ((Fₚ 25 1) = 0) → (x5_ = 1) → Ew 17 (d + 1) 149 ls [.ref (Dₚ 0)] σₚ cₚ sₚ Q) (k : ∀ (z : Int) (σₚ : rS) (Dₚ Nₚ : Nat → Nat) (Fₚ : hF) (Aₚ : hA) (cₚ sₚ : Nat), PHI g σₚ Dₚ Nₚ Fₚ Aₚ → STP g σ D N A c s g σₚ Dₚ Nₚ Aₚ cₚ sₚ → (inr z) → Q (some (I z)) σₚ cₚ sₚ) : Ew 17 (d + 1) 54 ls [] σ c s Q := by
  obtain ⟨HX, HT, hg0, hPF, hAB, hNZ, hGI, hI0, hI1, hI2, hI3, hI4, hI5, hI6, hI7, hI8, hI9⟩ := X
  have hset := SETI_f hI0.2.2.2.2.2.2.2.2.2.2.2.2.2.2.2.2.2
  have hJ0 := hI0
  unfold INV0 at hJ0
  obtain ⟨f0_0, f0_1, f0_2, f0_3, f0_4, f0_5, f0_6, f0_7, f0_8, f0_9, f0_10, f0_11, f0_12, f0_13, f0_14, f0_15, f0_16, f0_17⟩ := hJ0
  have hp : ∀ x, x < (V17_vc3).length → SPH g (ι_wc3_1.getD x 0) = true := SPH_of (gs := [0]) (by intro j hj; simp at hj; subst hj; exact hg0) rfl (by decide +kernel)
  refine C17_vc3 (D := pul ι_wc3_1 D) (N := pul ι_wc3_1 N) (F := pul ι_wc3_1 F) (A := pul ι_wc3_1 A) (HWs_sub HX vs_wc3_1 hp) (show F 0 5 = (D 25 : Int) from hPF (0, 0, 5, 25) (List.mem_of_getElem? (i := 24) rfl) hg0 hg0) (show F 25 0 = (D 26 : Int) from hPF (0, 25, 0, 26) (List.mem_of_getElem? (i := 25) rfl) hg0 hg0) (N 26 : Int) rfl (F 25 1) rfl  hl0 hl1 hl3 hl4 (show inr (x1) by assumption) (show 0 ≤ (F 25 1) ∧ (F 25 1) ≤ ((N 26 : Int)) ∧ ((N 26 : Int)) ≤ 65536 by assumption) (fun  ls σ F_c149 A_c149 xc149_5 lc149_0 lc149_1 lc149_3 lc149_4 lc149_5 H O hS_c149 hA_c149   yc149_2_1 eyc149_2_1  jc149_0 jc149_1 jc149_2 jc149_3 => ?_) (fun z σₚ Fₚ Aₚ Hₚ O sf sa q0 q1 => ?_)
  · skip
    subst eyc149_2_1
    have sd : SD [] (pul ι_wc3_1 D) (pul ι_wc3_1 D) := SD_refl
    have sn : SD [] (pul ι_wc3_1 N) (pul ι_wc3_1 N) := SD_refl
    have : F_c149 1 1 = F 4 1 := hS_c149 1 1 rfl
    refine hc149  xc149_5 _ _ (glu ι_wc3_1 D (pul ι_wc3_1 D)) (glu ι_wc3_1 N (pul ι_wc3_1 N)) (glu ι_wc3_1 F F_c149) (glu ι_wc3_1 A A_c149) _ _ ⟨HWs_call HX VPH_3 vs_wc3_1 hp H O, STC_call HT HX vs_wc3_1 hp O, hg0, PFI_glue (dl := []) hPF hS_c149 hA_c149 sd (by decide +kernel) (rexc_of (l := []) (by decide +kernel) ?_), ABS_glue hAB hS_c149 (by decide +kernel), NZ_glue hNZ vs_wc3_1 hp sn (by decide +kernel), hGI, ?_, ?_, ?_, ?_, ?_, ?_, ?_, ?_, ?_, ?_⟩ ⟨(STP0_call (STY_call vs_wc3_1 hp O) (sd 0 rfl) (RM_call vs_wc3_1 O)), unt1_of (x := 10) (by decide +kernel) (fun p hp => funext (hA_c149 p hp))⟩ lc149_0 lc149_1 lc149_3 lc149_4 lc149_5 (show (F_c149 1 1) ≤ 16384 by (rw [show F_c149 1 1 = F 4 1 from hS_c149 1 1 rfl]; assumption)) (show (F_c149 2 1) = 0 by assumption) (show xc149_5 = 1 by assumption)
    · intro e he h1 h2
      cases he
    · skip
      exact ⟨QF0_0_eq (EQD_glue hS_c149 hA_c149 sd sn (by decide +kernel)) f0_0, QF0_1_eq (EQD_glue hS_c149 hA_c149 sd sn (by decide +kernel)) f0_1, QF0_2_eq (EQD_glue hS_c149 hA_c149 sd sn (by decide +kernel)) f0_2, QF0_3_eq (EQD_glue hS_c149 hA_c149 sd sn (by decide +kernel)) f0_3, QF0_4_eq (EQD_glue hS_c149 hA_c149 sd sn (by decide +kernel)) f0_4, show 0 ≤ (F_c149 2 1) ∧ (F_c149 2 1) ≤ ((N 26 : Int)) ∧ ((N 26 : Int)) ≤ 65536 from (by assumption), QF0_6_eq (EQD_glue hS_c149 hA_c149 sd sn (by decide +kernel)) f0_6, QF0_7_eq (EQD_glue hS_c149 hA_c149 sd sn (by decide +kernel)) f0_7, QF0_8_eq (EQD_glue hS_c149 hA_c149 sd sn (by decide +kernel)) f0_8, QF0_9_eq (EQD_glue hS_c149 hA_c149 sd sn (by decide +kernel)) f0_9, QF0_10_eq (EQD_glue hS_c149 hA_c149 sd sn (by decide +kernel)) f0_10, QF0_11_eq (EQD_glue hS_c149 hA_c149 sd sn (by decide +kernel)) f0_11, QF0_12_eq (EQD_glue hS_c149 hA_c149 sd sn (by decide +kernel)) f0_12, QF0_13_eq (EQD_glue hS_c149 hA_c149 sd sn (by decide +kernel)) f0_13, QF0_14_eq (EQD_glue hS_c149 hA_c149 sd sn (by decide +kernel)) f0_14, QF0_15_eq (EQD_glue hS_c149 hA_c149 sd sn (by decide +kernel)) f0_15, QF0_16_eq (EQD_glue hS_c149 hA_c149 sd sn (by decide +kernel)) f0_16, QF0_17_eq (EQD_glue hS_c149 hA_c149 sd sn (by decide +kernel)) f0_17⟩
    · exact fun h => INV1_eq (EQD_glue hS_c149 hA_c149 sd sn (by decide +kernel)) (hI1 h)
    · exact fun h => INV2_eq (EQD_glue hS_c149 hA_c149 sd sn (by decide +kernel)) (hI2 h)
    · exact fun h => INV3_eq (EQD_glue hS_c149 hA_c149 sd sn (by decide +kernel)) (hI3 h)
    · exact fun h => INV4_eq (EQD_glue hS_c149 hA_c149 sd sn (by decide +kernel)) (hI4 h)
    · exact fun h => INV5_eq (EQD_glue hS_c149 hA_c149 sd sn (by decide +kernel)) (hI5 h)
    · exact fun h => INV6_eq (EQD_glue hS_c149 hA_c149 sd sn (by decide +kernel)) (hI6 h)
    · exact fun h => INV7_eq (EQD_glue hS_c149 hA_c149 sd sn (by decide +kernel)) (hI7 h)
    · exact fun h => INV8_eq (EQD_glue hS_c149 hA_c149 sd sn (by decide +kernel)) (hI8 h)
    · exact fun h => INV9_eq (EQD_glue hS_c149 hA_c149 sd sn (by decide +kernel)) (hI9 h)
  · skip
    have sd : SD [] (pul ι_wc3_1 D) (pul ι_wc3_1 D) := SD_refl
    have sn : SD [] (pul ι_wc3_1 N) (pul ι_wc3_1 N) := SD_refl
    refine k z _ (glu ι_wc3_1 D (pul ι_wc3_1 D)) (glu ι_wc3_1 N (pul ι_wc3_1 N)) (glu ι_wc3_1 F Fₚ) (glu ι_wc3_1 A Aₚ) _ _ ⟨HWs_call HX VPH_3 vs_wc3_1 hp Hₚ O, STC_call HT HX vs_wc3_1 hp O, hg0, PFI_glue (dl := []) hPF sf sa sd (by decide +kernel) (rexc_of (l := []) (by decide +kernel) ?_), ABS_glue hAB sf (by decide +kernel), NZ_glue hNZ vs_wc3_1 hp sn (by decide +kernel), hGI, ?_, ?_, ?_, ?_, ?_, ?_, ?_, ?_, ?_, ?_⟩ ⟨(STP0_call (STY_call vs_wc3_1 hp O) (sd 0 rfl) (RM_call vs_wc3_1 O)), unt1_of (x := 10) (by decide +kernel) (fun p hp => funext (sa p hp))⟩ (show inr z by assumption)
    · intro e he h1 h2
      cases he
    · skip
      exact ⟨QF0_0_eq (EQD_glue sf sa sd sn (by decide +kernel)) f0_0, QF0_1_eq (EQD_glue sf sa sd sn (by decide +kernel)) f0_1, QF0_2_eq (EQD_glue sf sa sd sn (by decide +kernel)) f0_2, QF0_3_eq (EQD_glue sf sa sd sn (by decide +kernel)) f0_3, QF0_4_eq (EQD_glue sf sa sd sn (by decide +kernel)) f0_4, show 0 ≤ (Fₚ 2 1) ∧ (Fₚ 2 1) ≤ ((N 26 : Int)) ∧ ((N 26 : Int)) ≤ 65536 from (by omega), QF0_6_eq (EQD_glue sf sa sd sn (by decide +kernel)) f0_6, QF0_7_eq (EQD_glue sf sa sd sn (by decide +kernel)) f0_7, QF0_8_eq (EQD_glue sf sa sd sn (by decide +kernel)) f0_8, QF0_9_eq (EQD_glue sf sa sd sn (by decide +kernel)) f0_9, QF0_10_eq (EQD_glue sf sa sd sn (by decide +kernel)) f0_10, QF0_11_eq (EQD_glue sf sa sd sn (by decide +kernel)) f0_11, QF0_12_eq (EQD_glue sf sa sd sn (by decide +kernel)) f0_12, QF0_13_eq (EQD_glue sf sa sd sn (by decide +kernel)) f0_13, QF0_14_eq (EQD_glue sf sa sd sn (by decide +kernel)) f0_14, QF0_15_eq (EQD_glue sf sa sd sn (by decide +kernel)) f0_15, QF0_16_eq (EQD_glue sf sa sd sn (by decide +kernel)) f0_16, QF0_17_eq (EQD_glue sf sa sd sn (by decide +kernel)) f0_17⟩
    · exact fun h => INV1_eq (EQD_glue sf sa sd sn (by decide +kernel)) (hI1 h)
    · exact fun h => INV2_eq (EQD_glue sf sa sd sn (by decide +kernel)) (hI2 h)
    · exact fun h => INV3_eq (EQD_glue sf sa sd sn (by decide +kernel)) (hI3 h)
    · exact fun h => INV4_eq (EQD_glue sf sa sd sn (by decide +kernel)) (hI4 h)
    · exact fun h => INV5_eq (EQD_glue sf sa sd sn (by decide +kernel)) (hI5 h)
    · exact fun h => INV6_eq (EQD_glue sf sa sd sn (by decide +kernel)) (hI6 h)
    · exact fun h => INV7_eq (EQD_glue sf sa sd sn (by decide +kernel)) (hI7 h)
    · exact fun h => INV8_eq (EQD_glue sf sa sd sn (by decide +kernel)) (hI8 h)
    · exact fun h => INV9_eq (EQD_glue sf sa sd sn (by decide +kernel)) (hI9 h)
def ι_wc3_2 : List Nat := [0, 6, 25, 26]
theorem vs_wc3_2 : VS VPH V17_vc3 ι_wc3_2 := VS_of (by decide +kernel)
set_option maxRecDepth 20000 in
theorem T_wc3_2 {g : Nat → Bool} {σ : rS} {D N : Nat → Nat} {F : hF} {A : hA} {d c s : Nat} {Q : wQ} (X : PHI g σ D N F A)  {x1 : Int} {ls : rO} (hl0 : rlook ls 0 = some (.ref (D 0))) (hl1 : rlook ls 1 = some (I x1)) (hl3 : rlook ls 3 = some (I (3))) (hl4 : rlook ls 4 = some (.ref (D 6))) (h0 : inr x1) (x_0 : (F 6 1) ≤ 16384) (hc149 : ∀ (x5_ : Int) (ls : rO) (σₚ : rS) (Dₚ Nₚ : Nat → Nat) (Fₚ : hF) (Aₚ : hA) (cₚ sₚ : Nat), PHI g σₚ Dₚ Nₚ Fₚ Aₚ → STP g σ D N A c s g σₚ Dₚ Nₚ Aₚ cₚ sₚ → rlook ls 0 = some (.ref (Dₚ 0)) → rlook ls 1 = some (I (x1)) → rlook ls 3 = some (I (3)) → rlook ls 4 = some (.ref (Dₚ 6)) → rlook ls 5 = some (I x5_) → ((Fₚ 6 1) ≤ 16384) → ((Fₚ 25 1) = 0) → (x5_ = 1) → Ew 17 (d + 1) 149 ls [.ref (Dₚ 0)] σₚ cₚ sₚ Q) (k : ∀ (z : Int) (σₚ : rS) (Dₚ Nₚ : Nat → Nat) (Fₚ : hF) (Aₚ : hA) (cₚ sₚ : Nat), PHI g σₚ Dₚ Nₚ Fₚ Aₚ → STP g σ D N A c s g σₚ Dₚ Nₚ Aₚ cₚ sₚ → (inr z) → Q (some (I z)) σₚ cₚ sₚ) : Ew 17 (d + 1) 54 ls [] σ c s Q := by
  obtain ⟨HX, HT, hg0, hPF, hAB, hNZ, hGI, hI0, hI1, hI2, hI3, hI4, hI5, hI6, hI7, hI8, hI9⟩ := X
  have hset := SETI_f hI0.2.2.2.2.2.2.2.2.2.2.2.2.2.2.2.2.2
  have hJ0 := hI0
  unfold INV0 at hJ0
  obtain ⟨f0_0, f0_1, f0_2, f0_3, f0_4, f0_5, f0_6, f0_7, f0_8, f0_9, f0_10, f0_11, f0_12, f0_13, f0_14, f0_15, f0_16, f0_17⟩ := hJ0
  have hp : ∀ x, x < (V17_vc3).length → SPH g (ι_wc3_2.getD x 0) = true := SPH_of (gs := [0]) (by intro j hj; simp at hj; subst hj; exact hg0) rfl (by decide +kernel)
  refine C17_vc3 (D := pul ι_wc3_2 D) (N := pul ι_wc3_2 N) (F := pul ι_wc3_2 F) (A := pul ι_wc3_2 A) (HWs_sub HX vs_wc3_2 hp) (show F 0 5 = (D 25 : Int) from hPF (0, 0, 5, 25) (List.mem_of_getElem? (i := 24) rfl) hg0 hg0) (show F 25 0 = (D 26 : Int) from hPF (0, 25, 0, 26) (List.mem_of_getElem? (i := 25) rfl) hg0 hg0) (N 26 : Int) rfl (F 25 1) rfl  hl0 hl1 hl3 hl4 (show inr (x1) by assumption) (show 0 ≤ (F 25 1) ∧ (F 25 1) ≤ ((N 26 : Int)) ∧ ((N 26 : Int)) ≤ 65536 by assumption) (fun  ls σ F_c149 A_c149 xc149_5 lc149_0 lc149_1 lc149_3 lc149_4 lc149_5 H O hS_c149 hA_c149   yc149_2_1 eyc149_2_1  jc149_0 jc149_1 jc149_2 jc149_3 => ?_) (fun z σₚ Fₚ Aₚ Hₚ O sf sa q0 q1 => ?_)
  · skip
    subst eyc149_2_1
    have sd : SD [] (pul ι_wc3_2 D) (pul ι_wc3_2 D) := SD_refl
    have sn : SD [] (pul ι_wc3_2 N) (pul ι_wc3_2 N) := SD_refl
    have : F_c149 1 1 = F 6 1 := hS_c149 1 1 rfl
    refine hc149  xc149_5 _ _ (glu ι_wc3_2 D (pul ι_wc3_2 D)) (glu ι_wc3_2 N (pul ι_wc3_2 N)) (glu ι_wc3_2 F F_c149) (glu ι_wc3_2 A A_c149) _ _ ⟨HWs_call HX VPH_3 vs_wc3_2 hp H O, STC_call HT HX vs_wc3_2 hp O, hg0, PFI_glue (dl := []) hPF hS_c149 hA_c149 sd (by decide +kernel) (rexc_of (l := []) (by decide +kernel) ?_), ABS_glue hAB hS_c149 (by decide +kernel), NZ_glue hNZ vs_wc3_2 hp sn (by decide +kernel), hGI, ?_, ?_, ?_, ?_, ?_, ?_, ?_, ?_, ?_, ?_⟩ ⟨(STP0_call (STY_call vs_wc3_2 hp O) (sd 0 rfl) (RM_call vs_wc3_2 O)), unt1_of (x := 10) (by decide +kernel) (fun p hp => funext (hA_c149 p hp))⟩ lc149_0 lc149_1 lc149_3 lc149_4 lc149_5 (show (F_c149 1 1) ≤ 16384 by (rw [show F_c149 1 1 = F 6 1 from hS_c149 1 1 rfl]; assumption)) (show (F_c149 2 1) = 0 by assumption) (show xc149_5 = 1 by assumption)
    · intro e he h1 h2
      cases he
    · skip
      exact ⟨QF0_0_eq (EQD_glue hS_c149 hA_c149 sd sn (by decide +kernel)) f0_0, QF0_1_eq (EQD_glue hS_c149 hA_c149 sd sn (by decide +kernel)) f0_1, QF0_2_eq (EQD_glue hS_c149 hA_c149 sd sn (by decide +kernel)) f0_2, QF0_3_eq (EQD_glue hS_c149 hA_c149 sd sn (by decide +kernel)) f0_3, QF0_4_eq (EQD_glue hS_c149 hA_c149 sd sn (by decide +kernel)) f0_4, show 0 ≤ (F_c149 2 1) ∧ (F_c149 2 1) ≤ ((N 26 : Int)) ∧ ((N 26 : Int)) ≤ 65536 from (by assumption), QF0_6_eq (EQD_glue hS_c149 hA_c149 sd sn (by decide +kernel)) f0_6, QF0_7_eq (EQD_glue hS_c149 hA_c149 sd sn (by decide +kernel)) f0_7, QF0_8_eq (EQD_glue hS_c149 hA_c149 sd sn (by decide +kernel)) f0_8, QF0_9_eq (EQD_glue hS_c149 hA_c149 sd sn (by decide +kernel)) f0_9, QF0_10_eq (EQD_glue hS_c149 hA_c149 sd sn (by decide +kernel)) f0_10, QF0_11_eq (EQD_glue hS_c149 hA_c149 sd sn (by decide +kernel)) f0_11, QF0_12_eq (EQD_glue hS_c149 hA_c149 sd sn (by decide +kernel)) f0_12, QF0_13_eq (EQD_glue hS_c149 hA_c149 sd sn (by decide +kernel)) f0_13, QF0_14_eq (EQD_glue hS_c149 hA_c149 sd sn (by decide +kernel)) f0_14, QF0_15_eq (EQD_glue hS_c149 hA_c149 sd sn (by decide +kernel)) f0_15, QF0_16_eq (EQD_glue hS_c149 hA_c149 sd sn (by decide +kernel)) f0_16, QF0_17_eq (EQD_glue hS_c149 hA_c149 sd sn (by decide +kernel)) f0_17⟩
    · exact fun h => INV1_eq (EQD_glue hS_c149 hA_c149 sd sn (by decide +kernel)) (hI1 h)
    · exact fun h => INV2_eq (EQD_glue hS_c149 hA_c149 sd sn (by decide +kernel)) (hI2 h)
    · exact fun h => INV3_eq (EQD_glue hS_c149 hA_c149 sd sn (by decide +kernel)) (hI3 h)
    · exact fun h => INV4_eq (EQD_glue hS_c149 hA_c149 sd sn (by decide +kernel)) (hI4 h)
    · exact fun h => INV5_eq (EQD_glue hS_c149 hA_c149 sd sn (by decide +kernel)) (hI5 h)
    · exact fun h => INV6_eq (EQD_glue hS_c149 hA_c149 sd sn (by decide +kernel)) (hI6 h)
    · exact fun h => INV7_eq (EQD_glue hS_c149 hA_c149 sd sn (by decide +kernel)) (hI7 h)
    · exact fun h => INV8_eq (EQD_glue hS_c149 hA_c149 sd sn (by decide +kernel)) (hI8 h)
    · exact fun h => INV9_eq (EQD_glue hS_c149 hA_c149 sd sn (by decide +kernel)) (hI9 h)
  · skip
    have sd : SD [] (pul ι_wc3_2 D) (pul ι_wc3_2 D) := SD_refl
    have sn : SD [] (pul ι_wc3_2 N) (pul ι_wc3_2 N) := SD_refl
    refine k z _ (glu ι_wc3_2 D (pul ι_wc3_2 D)) (glu ι_wc3_2 N (pul ι_wc3_2 N)) (glu ι_wc3_2 F Fₚ) (glu ι_wc3_2 A Aₚ) _ _ ⟨HWs_call HX VPH_3 vs_wc3_2 hp Hₚ O, STC_call HT HX vs_wc3_2 hp O, hg0, PFI_glue (dl := []) hPF sf sa sd (by decide +kernel) (rexc_of (l := []) (by decide +kernel) ?_), ABS_glue hAB sf (by decide +kernel), NZ_glue hNZ vs_wc3_2 hp sn (by decide +kernel), hGI, ?_, ?_, ?_, ?_, ?_, ?_, ?_, ?_, ?_, ?_⟩ ⟨(STP0_call (STY_call vs_wc3_2 hp O) (sd 0 rfl) (RM_call vs_wc3_2 O)), unt1_of (x := 10) (by decide +kernel) (fun p hp => funext (sa p hp))⟩ (show inr z by assumption)
    · intro e he h1 h2
      cases he
    · skip
      exact ⟨QF0_0_eq (EQD_glue sf sa sd sn (by decide +kernel)) f0_0, QF0_1_eq (EQD_glue sf sa sd sn (by decide +kernel)) f0_1, QF0_2_eq (EQD_glue sf sa sd sn (by decide +kernel)) f0_2, QF0_3_eq (EQD_glue sf sa sd sn (by decide +kernel)) f0_3, QF0_4_eq (EQD_glue sf sa sd sn (by decide +kernel)) f0_4, show 0 ≤ (Fₚ 2 1) ∧ (Fₚ 2 1) ≤ ((N 26 : Int)) ∧ ((N 26 : Int)) ≤ 65536 from (by omega), QF0_6_eq (EQD_glue sf sa sd sn (by decide +kernel)) f0_6, QF0_7_eq (EQD_glue sf sa sd sn (by decide +kernel)) f0_7, QF0_8_eq (EQD_glue sf sa sd sn (by decide +kernel)) f0_8, QF0_9_eq (EQD_glue sf sa sd sn (by decide +kernel)) f0_9, QF0_10_eq (EQD_glue sf sa sd sn (by decide +kernel)) f0_10, QF0_11_eq (EQD_glue sf sa sd sn (by decide +kernel)) f0_11, QF0_12_eq (EQD_glue sf sa sd sn (by decide +kernel)) f0_12, QF0_13_eq (EQD_glue sf sa sd sn (by decide +kernel)) f0_13, QF0_14_eq (EQD_glue sf sa sd sn (by decide +kernel)) f0_14, QF0_15_eq (EQD_glue sf sa sd sn (by decide +kernel)) f0_15, QF0_16_eq (EQD_glue sf sa sd sn (by decide +kernel)) f0_16, QF0_17_eq (EQD_glue sf sa sd sn (by decide +kernel)) f0_17⟩
    · exact fun h => INV1_eq (EQD_glue sf sa sd sn (by decide +kernel)) (hI1 h)
    · exact fun h => INV2_eq (EQD_glue sf sa sd sn (by decide +kernel)) (hI2 h)
    · exact fun h => INV3_eq (EQD_glue sf sa sd sn (by decide +kernel)) (hI3 h)
    · exact fun h => INV4_eq (EQD_glue sf sa sd sn (by decide +kernel)) (hI4 h)
    · exact fun h => INV5_eq (EQD_glue sf sa sd sn (by decide +kernel)) (hI5 h)
    · exact fun h => INV6_eq (EQD_glue sf sa sd sn (by decide +kernel)) (hI6 h)
    · exact fun h => INV7_eq (EQD_glue sf sa sd sn (by decide +kernel)) (hI7 h)
    · exact fun h => INV8_eq (EQD_glue sf sa sd sn (by decide +kernel)) (hI8 h)
    · exact fun h => INV9_eq (EQD_glue sf sa sd sn (by decide +kernel)) (hI9 h)
def ι_wc3_3 : List Nat := [0, 8, 25, 26]
theorem vs_wc3_3 : VS VPH V17_vc3 ι_wc3_3 := VS_of (by decide +kernel)
set_option maxRecDepth 20000 in
theorem T_wc3_3 {g : Nat → Bool} {σ : rS} {D N : Nat → Nat} {F : hF} {A : hA} {d c s : Nat} {Q : wQ} (X : PHI g σ D N F A)  {x1 : Int} {ls : rO} (hl0 : rlook ls 0 = some (.ref (D 0))) (hl1 : rlook ls 1 = some (I x1)) (hl3 : rlook ls 3 = some (I (3))) (hl4 : rlook ls 4 = some (.ref (D 8))) (h0 : inr x1) (x_0 : (F 8 1) ≤ 16384) (hc149 : ∀ (x5_ : Int) (ls : rO) (σₚ : rS) (Dₚ Nₚ : Nat → Nat) (Fₚ : hF) (Aₚ : hA) (cₚ sₚ : Nat), PHI g σₚ Dₚ Nₚ Fₚ Aₚ → STP g σ D N A c s g σₚ Dₚ Nₚ Aₚ cₚ sₚ → rlook ls 0 = some (.ref (Dₚ 0)) → rlook ls 1 = some (I (x1)) → rlook ls 3 = some (I (3)) → rlook ls 4 = some (.ref (Dₚ 8)) → rlook ls 5 = some (I x5_) → ((Fₚ 8 1) ≤ 16384) → ((Fₚ 25 1) = 0) → (x5_ = 1) → Ew 17 (d + 1) 149 ls [.ref (Dₚ 0)] σₚ cₚ sₚ Q) (k : ∀ (z : Int) (σₚ : rS) (Dₚ Nₚ : Nat → Nat) (Fₚ : hF) (Aₚ : hA) (cₚ sₚ : Nat), PHI g σₚ Dₚ Nₚ Fₚ Aₚ → STP g σ D N A c s g σₚ Dₚ Nₚ Aₚ cₚ sₚ → (inr z) → Q (some (I z)) σₚ cₚ sₚ) : Ew 17 (d + 1) 54 ls [] σ c s Q := by
  obtain ⟨HX, HT, hg0, hPF, hAB, hNZ, hGI, hI0, hI1, hI2, hI3, hI4, hI5, hI6, hI7, hI8, hI9⟩ := X
  have hset := SETI_f hI0.2.2.2.2.2.2.2.2.2.2.2.2.2.2.2.2.2
  have hJ0 := hI0
  unfold INV0 at hJ0
  obtain ⟨f0_0, f0_1, f0_2, f0_3, f0_4, f0_5, f0_6, f0_7, f0_8, f0_9, f0_10, f0_11, f0_12, f0_13, f0_14, f0_15, f0_16, f0_17⟩ := hJ0
  have hp : ∀ x, x < (V17_vc3).length → SPH g (ι_wc3_3.getD x 0) = true := SPH_of (gs := [0]) (by intro j hj; simp at hj; subst hj; exact hg0) rfl (by decide +kernel)
  refine C17_vc3 (D := pul ι_wc3_3 D) (N := pul ι_wc3_3 N) (F := pul ι_wc3_3 F) (A := pul ι_wc3_3 A) (HWs_sub HX vs_wc3_3 hp) (show F 0 5 = (D 25 : Int) from hPF (0, 0, 5, 25) (List.mem_of_getElem? (i := 24) rfl) hg0 hg0) (show F 25 0 = (D 26 : Int) from hPF (0, 25, 0, 26) (List.mem_of_getElem? (i := 25) rfl) hg0 hg0) (N 26 : Int) rfl (F 25 1) rfl  hl0 hl1 hl3 hl4 (show inr (x1) by assumption) (show 0 ≤ (F 25 1) ∧ (F 25 1) ≤ ((N 26 : Int)) ∧ ((N 26 : Int)) ≤ 65536 by assumption) (fun  ls σ F_c149 A_c149 xc149_5 lc149_0 lc149_1 lc149_3 lc149_4 lc149_5 H O hS_c149 hA_c149   yc149_2_1 eyc149_2_1  jc149_0 jc149_1 jc149_2 jc149_3 => ?_) (fun z σₚ Fₚ Aₚ Hₚ O sf sa q0 q1 => ?_)
  · skip
    subst eyc149_2_1
    have sd : SD [] (pul ι_wc3_3 D) (pul ι_wc3_3 D) := SD_refl
    have sn : SD [] (pul ι_wc3_3 N) (pul ι_wc3_3 N) := SD_refl
    have : F_c149 1 1 = F 8 1 := hS_c149 1 1 rfl
    refine hc149  xc149_5 _ _ (glu ι_wc3_3 D (pul ι_wc3_3 D)) (glu ι_wc3_3 N (pul ι_wc3_3 N)) (glu ι_wc3_3 F F_c149) (glu ι_wc3_3 A A_c149) _ _ ⟨HWs_call HX VPH_3 vs_wc3_3 hp H O, STC_call HT HX vs_wc3_3 hp O, hg0, PFI_glue (dl := []) hPF hS_c149 hA_c149 sd (by decide +kernel) (rexc_of (l := []) (by decide +kernel) ?_), ABS_glue hAB hS_c149 (by decide +kernel), NZ_glue hNZ vs_wc3_3 hp sn (by decide +kernel), hGI, ?_, ?_, ?_, ?_, ?_, ?_, ?_, ?_, ?_, ?_⟩ ⟨(STP0_call (STY_call vs_wc3_3 hp O) (sd 0 rfl) (RM_call vs_wc3_3 O)), unt1_of (x := 10) (by decide +kernel) (fun p hp => funext (hA_c149 p hp))⟩ lc149_0 lc149_1 lc149_3 lc149_4 lc149_5 (show (F_c149 1 1) ≤ 16384 by (rw [show F_c149 1 1 = F 8 1 from hS_c149 1 1 rfl]; assumption)) (show (F_c149 2 1) = 0 by assumption) (show xc149_5 = 1 by assumption)
    · intro e he h1 h2
      cases he
    · skip
      exact ⟨QF0_0_eq (EQD_glue hS_c149 hA_c149 sd sn (by decide +kernel)) f0_0, QF0_1_eq (EQD_glue hS_c149 hA_c149 sd sn (by decide +kernel)) f0_1, QF0_2_eq (EQD_glue hS_c149 hA_c149 sd sn (by decide +kernel)) f0_2, QF0_3_eq (EQD_glue hS_c149 hA_c149 sd sn (by decide +kernel)) f0_3, QF0_4_eq (EQD_glue hS_c149 hA_c149 sd sn (by decide +kernel)) f0_4, show 0 ≤ (F_c149 2 1) ∧ (F_c149 2 1) ≤ ((N 26 : Int)) ∧ ((N 26 : Int)) ≤ 65536 from (by assumption), QF0_6_eq (EQD_glue hS_c149 hA_c149 sd sn (by decide +kernel)) f0_6, QF0_7_eq (EQD_glue hS_c149 hA_c149 sd sn (by decide +kernel)) f0_7, QF0_8_eq (EQD_glue hS_c149 hA_c149 sd sn (by decide +kernel)) f0_8, QF0_9_eq (EQD_glue hS_c149 hA_c149 sd sn (by decide +kernel)) f0_9, QF0_10_eq (EQD_glue hS_c149 hA_c149 sd sn (by decide +kernel)) f0_10, QF0_11_eq (EQD_glue hS_c149 hA_c149 sd sn (by decide +kernel)) f0_11, QF0_12_eq (EQD_glue hS_c149 hA_c149 sd sn (by decide +kernel)) f0_12, QF0_13_eq (EQD_glue hS_c149 hA_c149 sd sn (by decide +kernel)) f0_13, QF0_14_eq (EQD_glue hS_c149 hA_c149 sd sn (by decide +kernel)) f0_14, QF0_15_eq (EQD_glue hS_c149 hA_c149 sd sn (by decide +kernel)) f0_15, QF0_16_eq (EQD_glue hS_c149 hA_c149 sd sn (by decide +kernel)) f0_16, QF0_17_eq (EQD_glue hS_c149 hA_c149 sd sn (by decide +kernel)) f0_17⟩
    · exact fun h => INV1_eq (EQD_glue hS_c149 hA_c149 sd sn (by decide +kernel)) (hI1 h)
    · exact fun h => INV2_eq (EQD_glue hS_c149 hA_c149 sd sn (by decide +kernel)) (hI2 h)
    · exact fun h => INV3_eq (EQD_glue hS_c149 hA_c149 sd sn (by decide +kernel)) (hI3 h)
    · exact fun h => INV4_eq (EQD_glue hS_c149 hA_c149 sd sn (by decide +kernel)) (hI4 h)
    · exact fun h => INV5_eq (EQD_glue hS_c149 hA_c149 sd sn (by decide +kernel)) (hI5 h)
    · exact fun h => INV6_eq (EQD_glue hS_c149 hA_c149 sd sn (by decide +kernel)) (hI6 h)
    · exact fun h => INV7_eq (EQD_glue hS_c149 hA_c149 sd sn (by decide +kernel)) (hI7 h)
    · exact fun h => INV8_eq (EQD_glue hS_c149 hA_c149 sd sn (by decide +kernel)) (hI8 h)
    · exact fun h => INV9_eq (EQD_glue hS_c149 hA_c149 sd sn (by decide +kernel)) (hI9 h)
  · skip
    have sd : SD [] (pul ι_wc3_3 D) (pul ι_wc3_3 D) := SD_refl
    have sn : SD [] (pul ι_wc3_3 N) (pul ι_wc3_3 N) := SD_refl
    refine k z _ (glu ι_wc3_3 D (pul ι_wc3_3 D)) (glu ι_wc3_3 N (pul ι_wc3_3 N)) (glu ι_wc3_3 F Fₚ) (glu ι_wc3_3 A Aₚ) _ _ ⟨HWs_call HX VPH_3 vs_wc3_3 hp Hₚ O, STC_call HT HX vs_wc3_3 hp O, hg0, PFI_glue (dl := []) hPF sf sa sd (by decide +kernel) (rexc_of (l := []) (by decide +kernel) ?_), ABS_glue hAB sf (by decide +kernel), NZ_glue hNZ vs_wc3_3 hp sn (by decide +kernel), hGI, ?_, ?_, ?_, ?_, ?_, ?_, ?_, ?_, ?_, ?_⟩ ⟨(STP0_call (STY_call vs_wc3_3 hp O) (sd 0 rfl) (RM_call vs_wc3_3 O)), unt1_of (x := 10) (by decide +kernel) (fun p hp => funext (sa p hp))⟩ (show inr z by assumption)
    · intro e he h1 h2
      cases he
    · skip
      exact ⟨QF0_0_eq (EQD_glue sf sa sd sn (by decide +kernel)) f0_0, QF0_1_eq (EQD_glue sf sa sd sn (by decide +kernel)) f0_1, QF0_2_eq (EQD_glue sf sa sd sn (by decide +kernel)) f0_2, QF0_3_eq (EQD_glue sf sa sd sn (by decide +kernel)) f0_3, QF0_4_eq (EQD_glue sf sa sd sn (by decide +kernel)) f0_4, show 0 ≤ (Fₚ 2 1) ∧ (Fₚ 2 1) ≤ ((N 26 : Int)) ∧ ((N 26 : Int)) ≤ 65536 from (by omega), QF0_6_eq (EQD_glue sf sa sd sn (by decide +kernel)) f0_6, QF0_7_eq (EQD_glue sf sa sd sn (by decide +kernel)) f0_7, QF0_8_eq (EQD_glue sf sa sd sn (by decide +kernel)) f0_8, QF0_9_eq (EQD_glue sf sa sd sn (by decide +kernel)) f0_9, QF0_10_eq (EQD_glue sf sa sd sn (by decide +kernel)) f0_10, QF0_11_eq (EQD_glue sf sa sd sn (by decide +kernel)) f0_11, QF0_12_eq (EQD_glue sf sa sd sn (by decide +kernel)) f0_12, QF0_13_eq (EQD_glue sf sa sd sn (by decide +kernel)) f0_13, QF0_14_eq (EQD_glue sf sa sd sn (by decide +kernel)) f0_14, QF0_15_eq (EQD_glue sf sa sd sn (by decide +kernel)) f0_15, QF0_16_eq (EQD_glue sf sa sd sn (by decide +kernel)) f0_16, QF0_17_eq (EQD_glue sf sa sd sn (by decide +kernel)) f0_17⟩
    · exact fun h => INV1_eq (EQD_glue sf sa sd sn (by decide +kernel)) (hI1 h)
    · exact fun h => INV2_eq (EQD_glue sf sa sd sn (by decide +kernel)) (hI2 h)
    · exact fun h => INV3_eq (EQD_glue sf sa sd sn (by decide +kernel)) (hI3 h)
    · exact fun h => INV4_eq (EQD_glue sf sa sd sn (by decide +kernel)) (hI4 h)
    · exact fun h => INV5_eq (EQD_glue sf sa sd sn (by decide +kernel)) (hI5 h)
    · exact fun h => INV6_eq (EQD_glue sf sa sd sn (by decide +kernel)) (hI6 h)
    · exact fun h => INV7_eq (EQD_glue sf sa sd sn (by decide +kernel)) (hI7 h)
    · exact fun h => INV8_eq (EQD_glue sf sa sd sn (by decide +kernel)) (hI8 h)
    · exact fun h => INV9_eq (EQD_glue sf sa sd sn (by decide +kernel)) (hI9 h)
def ι_wc4_0 : List Nat := [0, 2, 25, 26]
theorem vs_wc4_0 : VS VPH V17_vc4 ι_wc4_0 := VS_of (by decide +kernel)
set_option maxRecDepth 20000 in
theorem T_wc4_0 {g : Nat → Bool} {σ : rS} {D N : Nat → Nat} {F : hF} {A : hA} {d c s : Nat} {Q : wQ} (X : PHI g σ D N F A)  {x1 : Int} {ls : rO} (hl0 : rlook ls 0 = some (.ref (D 0))) (hl1 : rlook ls 1 = some (I x1)) (hl3 : rlook ls 3 = some (I (4))) (hl4 : rlook ls 4 = some (.ref (D 2))) (h0 : inr x1) (x_0 : (F 2 1) ≤ 16384) (x_1 : (F 2 1) + (F 14 1) ≤ 16384) (hc165 : ∀ (x5_ : Int) (ls : rO) (σₚ : rS) (Dₚ Nₚ : Nat → Nat) (Fₚ : hF) (Aₚ : hA) (cₚ sₚ : Nat), PHI g σₚ Dₚ Nₚ Fₚ Aₚ → STP g σ D N A c s g σₚ Dₚ Nₚ Aₚ cₚ sₚ → rlook ls 0 = some (.ref (Dₚ 0)) → rlook ls 1 = some (I (x1)) → rlook ls 3 = some (I (4)) → rlook ls 4 = some (.ref (Dₚ 2)) → rlook ls 5 = some (I x5_) → ((Fₚ 2 1) ≤ 16384) → ((Fₚ 2 1) + (Fₚ 14 1) ≤ 16384) → ((Fₚ 25 1) = 0) → (x5_ = 1) → Ew 17 (d + 1) 165 ls [.ref (Dₚ 0)] σₚ cₚ sₚ Q) (k : ∀ (z : Int) (σₚ : rS) (Dₚ Nₚ : Nat → Nat) (Fₚ : hF) (Aₚ : hA) (cₚ sₚ : Nat), PHI g σₚ Dₚ Nₚ Fₚ Aₚ → STP g σ D N A c s g σₚ Dₚ Nₚ Aₚ cₚ sₚ → (inr z) → Q (some (I z)) σₚ cₚ sₚ) : Ew 17 (d + 1) 54 ls [] σ c s Q := by
  obtain ⟨HX, HT, hg0, hPF, hAB, hNZ, hGI, hI0, hI1, hI2, hI3, hI4, hI5, hI6, hI7, hI8, hI9⟩ := X
  have hset := SETI_f hI0.2.2.2.2.2.2.2.2.2.2.2.2.2.2.2.2.2
  have hJ0 := hI0
  unfold INV0 at hJ0
  obtain ⟨f0_0, f0_1, f0_2, f0_3, f0_4, f0_5, f0_6, f0_7, f0_8, f0_9, f0_10, f0_11, f0_12, f0_13, f0_14, f0_15, f0_16, f0_17⟩ := hJ0
  have hp : ∀ x, x < (V17_vc4).length → SPH g (ι_wc4_0.getD x 0) = true := SPH_of (gs := [0]) (by intro j hj; simp at hj; subst hj; exact hg0) rfl (by decide +kernel)
  refine C17_vc4 (D := pul ι_wc4_0 D) (N := pul ι_wc4_0 N) (F := pul ι_wc4_0 F) (A := pul ι_wc4_0 A) (HWs_sub HX vs_wc4_0 hp) (show F 0 5 = (D 25 : Int) from hPF (0, 0, 5, 25) (List.mem_of_getElem? (i := 24) rfl) hg0 hg0) (show F 25 0 = (D 26 : Int) from hPF (0, 25, 0, 26) (List.mem_of_getElem? (i := 25) rfl) hg0 hg0) (N 26 : Int) rfl (F 25 1) rfl  hl0 hl1 hl3 hl4 (show inr (x1) by assumption) (show 0 ≤ (F 25 1) ∧ (F 25 1) ≤ ((N 26 : Int)) ∧ ((N 26 : Int)) ≤ 65536 by assumption) (fun  ls σ F_c165 A_c165 xc165_5 lc165_0 lc165_1 lc165_3 lc165_4 lc165_5 H O hS_c165 hA_c165   yc165_2_1 eyc165_2_1  jc165_0 jc165_1 jc165_2 jc165_3 => ?_) (fun z σₚ Fₚ Aₚ Hₚ O sf sa q0 q1 => ?_)
  · skip
    subst eyc165_2_1
    have sd : SD [] (pul ι_wc4_0 D) (pul ι_wc4_0 D) := SD_refl
    have sn : SD [] (pul ι_wc4_0 N) (pul ι_wc4_0 N) := SD_refl
    have : F_c165 1 1 = F 2 1 := hS_c165 1 1 rfl
    refine hc165  xc165_5 _ _ (glu ι_wc4_0 D (pul ι_wc4_0 D)) (glu ι_wc4_0 N (pul ι_wc4_0 N)) (glu ι_wc4_0 F F_c165) (glu ι_wc4_0 A A_c165) _ _ ⟨HWs_call HX VPH_3 vs_wc4_0 hp H O, STC_call HT HX vs_wc4_0 hp O, hg0, PFI_glue (dl := []) hPF hS_c165 hA_c165 sd (by decide +kernel) (rexc_of (l := []) (by decide +kernel) ?_), ABS_glue hAB hS_c165 (by decide +kernel), NZ_glue hNZ vs_wc4_0 hp sn (by decide +kernel), hGI, ?_, ?_, ?_, ?_, ?_, ?_, ?_, ?_, ?_, ?_⟩ ⟨(STP0_call (STY_call vs_wc4_0 hp O) (sd 0 rfl) (RM_call vs_wc4_0 O)), unt1_of (x := 10) (by decide +kernel) (fun p hp => funext (hA_c165 p hp))⟩ lc165_0 lc165_1 lc165_3 lc165_4 lc165_5 (show (F_c165 1 1) ≤ 16384 by (rw [show F_c165 1 1 = F 2 1 from hS_c165 1 1 rfl]; assumption)) (show (F_c165 1 1) + (F 14 1) ≤ 16384 by (rw [show F_c165 1 1 = F 2 1 from hS_c165 1 1 rfl]; assumption)) (show (F_c165 2 1) = 0 by assumption) (show xc165_5 = 1 by assumption)
    · intro e he h1 h2
      cases he
    · skip
      exact ⟨QF0_0_eq (EQD_glue hS_c165 hA_c165 sd sn (by decide +kernel)) f0_0, QF0_1_eq (EQD_glue hS_c165 hA_c165 sd sn (by decide +kernel)) f0_1, QF0_2_eq (EQD_glue hS_c165 hA_c165 sd sn (by decide +kernel)) f0_2, QF0_3_eq (EQD_glue hS_c165 hA_c165 sd sn (by decide +kernel)) f0_3, QF0_4_eq (EQD_glue hS_c165 hA_c165 sd sn (by decide +kernel)) f0_4, show 0 ≤ (F_c165 2 1) ∧ (F_c165 2 1) ≤ ((N 26 : Int)) ∧ ((N 26 : Int)) ≤ 65536 from (by assumption), QF0_6_eq (EQD_glue hS_c165 hA_c165 sd sn (by decide +kernel)) f0_6, QF0_7_eq (EQD_glue hS_c165 hA_c165 sd sn (by decide +kernel)) f0_7, QF0_8_eq (EQD_glue hS_c165 hA_c165 sd sn (by decide +kernel)) f0_8, QF0_9_eq (EQD_glue hS_c165 hA_c165 sd sn (by decide +kernel)) f0_9, QF0_10_eq (EQD_glue hS_c165 hA_c165 sd sn (by decide +kernel)) f0_10, QF0_11_eq (EQD_glue hS_c165 hA_c165 sd sn (by decide +kernel)) f0_11, QF0_12_eq (EQD_glue hS_c165 hA_c165 sd sn (by decide +kernel)) f0_12, QF0_13_eq (EQD_glue hS_c165 hA_c165 sd sn (by decide +kernel)) f0_13, QF0_14_eq (EQD_glue hS_c165 hA_c165 sd sn (by decide +kernel)) f0_14, QF0_15_eq (EQD_glue hS_c165 hA_c165 sd sn (by decide +kernel)) f0_15, QF0_16_eq (EQD_glue hS_c165 hA_c165 sd sn (by decide +kernel)) f0_16, QF0_17_eq (EQD_glue hS_c165 hA_c165 sd sn (by decide +kernel)) f0_17⟩
    · exact fun h => INV1_eq (EQD_glue hS_c165 hA_c165 sd sn (by decide +kernel)) (hI1 h)
    · exact fun h => INV2_eq (EQD_glue hS_c165 hA_c165 sd sn (by decide +kernel)) (hI2 h)
    · exact fun h => INV3_eq (EQD_glue hS_c165 hA_c165 sd sn (by decide +kernel)) (hI3 h)
    · exact fun h => INV4_eq (EQD_glue hS_c165 hA_c165 sd sn (by decide +kernel)) (hI4 h)
    · exact fun h => INV5_eq (EQD_glue hS_c165 hA_c165 sd sn (by decide +kernel)) (hI5 h)
    · exact fun h => INV6_eq (EQD_glue hS_c165 hA_c165 sd sn (by decide +kernel)) (hI6 h)
    · exact fun h => INV7_eq (EQD_glue hS_c165 hA_c165 sd sn (by decide +kernel)) (hI7 h)
    · exact fun h => INV8_eq (EQD_glue hS_c165 hA_c165 sd sn (by decide +kernel)) (hI8 h)
    · exact fun h => INV9_eq (EQD_glue hS_c165 hA_c165 sd sn (by decide +kernel)) (hI9 h)
  · skip
    have sd : SD [] (pul ι_wc4_0 D) (pul ι_wc4_0 D) := SD_refl
    have sn : SD [] (pul ι_wc4_0 N) (pul ι_wc4_0 N) := SD_refl
    refine k z _ (glu ι_wc4_0 D (pul ι_wc4_0 D)) (glu ι_wc4_0 N (pul ι_wc4_0 N)) (glu ι_wc4_0 F Fₚ) (glu ι_wc4_0 A Aₚ) _ _ ⟨HWs_call HX VPH_3 vs_wc4_0 hp Hₚ O, STC_call HT HX vs_wc4_0 hp O, hg0, PFI_glue (dl := []) hPF sf sa sd (by decide +kernel) (rexc_of (l := []) (by decide +kernel) ?_), ABS_glue hAB sf (by decide +kernel), NZ_glue hNZ vs_wc4_0 hp sn (by decide +kernel), hGI, ?_, ?_, ?_, ?_, ?_, ?_, ?_, ?_, ?_, ?_⟩ ⟨(STP0_call (STY_call vs_wc4_0 hp O) (sd 0 rfl) (RM_call vs_wc4_0 O)), unt1_of (x := 10) (by decide +kernel) (fun p hp => funext (sa p hp))⟩ (show inr z by assumption)
    · intro e he h1 h2
      cases he
    · skip
      exact ⟨QF0_0_eq (EQD_glue sf sa sd sn (by decide +kernel)) f0_0, QF0_1_eq (EQD_glue sf sa sd sn (by decide +kernel)) f0_1, QF0_2_eq (EQD_glue sf sa sd sn (by decide +kernel)) f0_2, QF0_3_eq (EQD_glue sf sa sd sn (by decide +kernel)) f0_3, QF0_4_eq (EQD_glue sf sa sd sn (by decide +kernel)) f0_4, show 0 ≤ (Fₚ 2 1) ∧ (Fₚ 2 1) ≤ ((N 26 : Int)) ∧ ((N 26 : Int)) ≤ 65536 from (by omega), QF0_6_eq (EQD_glue sf sa sd sn (by decide +kernel)) f0_6, QF0_7_eq (EQD_glue sf sa sd sn (by decide +kernel)) f0_7, QF0_8_eq (EQD_glue sf sa sd sn (by decide +kernel)) f0_8, QF0_9_eq (EQD_glue sf sa sd sn (by decide +kernel)) f0_9, QF0_10_eq (EQD_glue sf sa sd sn (by decide +kernel)) f0_10, QF0_11_eq (EQD_glue sf sa sd sn (by decide +kernel)) f0_11, QF0_12_eq (EQD_glue sf sa sd sn (by decide +kernel)) f0_12, QF0_13_eq (EQD_glue sf sa sd sn (by decide +kernel)) f0_13, QF0_14_eq (EQD_glue sf sa sd sn (by decide +kernel)) f0_14, QF0_15_eq (EQD_glue sf sa sd sn (by decide +kernel)) f0_15, QF0_16_eq (EQD_glue sf sa sd sn (by decide +kernel)) f0_16, QF0_17_eq (EQD_glue sf sa sd sn (by decide +kernel)) f0_17⟩
    · exact fun h => INV1_eq (EQD_glue sf sa sd sn (by decide +kernel)) (hI1 h)
    · exact fun h => INV2_eq (EQD_glue sf sa sd sn (by decide +kernel)) (hI2 h)
    · exact fun h => INV3_eq (EQD_glue sf sa sd sn (by decide +kernel)) (hI3 h)
    · exact fun h => INV4_eq (EQD_glue sf sa sd sn (by decide +kernel)) (hI4 h)
    · exact fun h => INV5_eq (EQD_glue sf sa sd sn (by decide +kernel)) (hI5 h)
    · exact fun h => INV6_eq (EQD_glue sf sa sd sn (by decide +kernel)) (hI6 h)
    · exact fun h => INV7_eq (EQD_glue sf sa sd sn (by decide +kernel)) (hI7 h)
    · exact fun h => INV8_eq (EQD_glue sf sa sd sn (by decide +kernel)) (hI8 h)
    · exact fun h => INV9_eq (EQD_glue sf sa sd sn (by decide +kernel)) (hI9 h)
def ι_wc4_1 : List Nat := [0, 4, 25, 26]
theorem vs_wc4_1 : VS VPH V17_vc4 ι_wc4_1 := VS_of (by decide +kernel)
set_option maxRecDepth 20000 in
theorem T_wc4_1 {g : Nat → Bool} {σ : rS} {D N : Nat → Nat} {F : hF} {A : hA} {d c s : Nat} {Q : wQ} (X : PHI g σ D N F A)  {x1 : Int} {ls : rO} (hl0 : rlook ls 0 = some (.ref (D 0))) (hl1 : rlook ls 1 = some (I x1)) (hl3 : rlook ls 3 = some (I (4))) (hl4 : rlook ls 4 = some (.ref (D 4))) (h0 : inr x1) (x_0 : (F 4 1) ≤ 16384) (x_1 : (F 4 1) + (F 14 1) ≤ 16384) (hc165 : ∀ (x5_ : Int) (ls : rO) (σₚ : rS) (Dₚ Nₚ : Nat → Nat) (Fₚ : hF) (Aₚ : hA) (cₚ sₚ : Nat), PHI g σₚ Dₚ Nₚ Fₚ Aₚ → STP g σ D N A c s g σₚ Dₚ Nₚ Aₚ cₚ sₚ → rlook ls 0 = some (.ref (Dₚ 0)) → rlook ls 1 = some (I (x1)) → rlook ls 3 = some (I (4)) → rlook ls 4 = some (.ref (Dₚ 4)) → rlook ls 5 = some (I x5_) → ((Fₚ 4 1) ≤ 16384) → ((Fₚ 4 1) + (Fₚ 14 1) ≤ 16384) → ((Fₚ 25 1) = 0) → (x5_ = 1) → Ew 17 (d + 1) 165 ls [.ref (Dₚ 0)] σₚ cₚ sₚ Q) (k : ∀ (z : Int) (σₚ : rS) (Dₚ Nₚ : Nat → Nat) (Fₚ : hF) (Aₚ : hA) (cₚ sₚ : Nat), PHI g σₚ Dₚ Nₚ Fₚ Aₚ → STP g σ D N A c s g σₚ Dₚ Nₚ Aₚ cₚ sₚ → (inr z) → Q (some (I z)) σₚ cₚ sₚ) : Ew 17 (d + 1) 54 ls [] σ c s Q := by
  obtain ⟨HX, HT, hg0, hPF, hAB, hNZ, hGI, hI0, hI1, hI2, hI3, hI4, hI5, hI6, hI7, hI8, hI9⟩ := X
  have hset := SETI_f hI0.2.2.2.2.2.2.2.2.2.2.2.2.2.2.2.2.2
  have hJ0 := hI0
  unfold INV0 at hJ0
  obtain ⟨f0_0, f0_1, f0_2, f0_3, f0_4, f0_5, f0_6, f0_7, f0_8, f0_9, f0_10, f0_11, f0_12, f0_13, f0_14, f0_15, f0_16, f0_17⟩ := hJ0
  have hp : ∀ x, x < (V17_vc4).length → SPH g (ι_wc4_1.getD x 0) = true := SPH_of (gs := [0]) (by intro j hj; simp at hj; subst hj; exact hg0) rfl (by decide +kernel)
  refine C17_vc4 (D := pul ι_wc4_1 D) (N := pul ι_wc4_1 N) (F := pul ι_wc4_1 F) (A := pul ι_wc4_1 A) (HWs_sub HX vs_wc4_1 hp) (show F 0 5 = (D 25 : Int) from hPF (0, 0, 5, 25) (List.mem_of_getElem? (i := 24) rfl) hg0 hg0) (show F 25 0 = (D 26 : Int) from hPF (0, 25, 0, 26) (List.mem_of_getElem? (i := 25) rfl) hg0 hg0) (N 26 : Int) rfl (F 25 1) rfl  hl0 hl1 hl3 hl4 (show inr (x1) by assumption) (show 0 ≤ (F 25 1) ∧ (F 25 1) ≤ ((N 26 : Int)) ∧ ((N 26 : Int)) ≤ 65536 by assumption) (fun  ls σ F_c165 A_c165 xc165_5 lc165_0 lc165_1 lc165_3 lc165_4 lc165_5 H O hS_c165 hA_c165   yc165_2_1 eyc165_2_1  jc165_0 jc165_1 jc165_2 jc165_3 => ?_) (fun z σₚ Fₚ Aₚ Hₚ O sf sa q0 q1 => ?_)
  · skip
    subst eyc165_2_1
    have sd : SD [] (pul ι_wc4_1 D) (pul ι_wc4_1 D) := SD_refl
    have sn : SD [] (pul ι_wc4_1 N) (pul ι_wc4_1 N) := SD_refl
    have : F_c165 1 1 = F 4 1 := hS_c165 1 1 rfl
    refine hc165  xc165_5 _ _ (glu ι_wc4_1 D (pul ι_wc4_1 D)) (glu ι_wc4_1 N (pul ι_wc4_1 N)) (glu ι_wc4_1 F F_c165) (glu ι_wc4_1 A A_c165) _ _ ⟨HWs_call HX VPH_3 vs_wc4_1 hp H O, STC_call HT HX vs_wc4_1 hp O, hg0, PFI_glue (dl := []) hPF hS_c165 hA_c165 sd (by decide +kernel) (rexc_of (l := []) (by decide +kernel) ?_), ABS_glue hAB hS_c165 (by decide +kernel), NZ_glue hNZ vs_wc4_1 hp sn (by decide +kernel), hGI, ?_, ?_, ?_, ?_, ?_, ?_, ?_, ?_, ?_, ?_⟩ ⟨(STP0_call (STY_call vs_wc4_1 hp O) (sd 0 rfl) (RM_call vs_wc4_1 O)), unt1_of (x := 10) (by decide +kernel) (fun p hp => funext (hA_c165 p hp))⟩ lc165_0 lc165_1 lc165_3 lc165_4 lc165_5 (show (F_c165 1 1) ≤ 16384 by (rw [show F_c165 1 1 = F 4 1 from hS_c165 1 1 rfl]; assumption)) (show (F_c165 1 1) + (F 14 1) ≤ 16384 by (rw [show F_c165 1 1 = F 4 1 from hS_c165 1 1 rfl]; assumption)) (show (F_c165 2 1) = 0 by assumption) (show xc165_5 = 1 by assumption)
    · intro e he h1 h2
      cases he
    · skip
      exact ⟨QF0_0_eq (EQD_glue hS_c165 hA_c165 sd sn (by decide +kernel)) f0_0, QF0_1_eq (EQD_glue hS_c165 hA_c165 sd sn (by decide +kernel)) f0_1, QF0_2_eq (EQD_glue hS_c165 hA_c165 sd sn (by decide +kernel)) f0_2, QF0_3_eq (EQD_glue hS_c165 hA_c165 sd sn (by decide +kernel)) f0_3, QF0_4_eq (EQD_glue hS_c165 hA_c165 sd sn (by decide +kernel)) f0_4, show 0 ≤ (F_c165 2 1) ∧ (F_c165 2 1) ≤ ((N 26 : Int)) ∧ ((N 26 : Int)) ≤ 65536 from (by assumption), QF0_6_eq (EQD_glue hS_c165 hA_c165 sd sn (by decide +kernel)) f0_6, QF0_7_eq (EQD_glue hS_c165 hA_c165 sd sn (by decide +kernel)) f0_7, QF0_8_eq (EQD_glue hS_c165 hA_c165 sd sn (by decide +kernel)) f0_8, QF0_9_eq (EQD_glue hS_c165 hA_c165 sd sn (by decide +kernel)) f0_9, QF0_10_eq (EQD_glue hS_c165 hA_c165 sd sn (by decide +kernel)) f0_10, QF0_11_eq (EQD_glue hS_c165 hA_c165 sd sn (by decide +kernel)) f0_11, QF0_12_eq (EQD_glue hS_c165 hA_c165 sd sn (by decide +kernel)) f0_12, QF0_13_eq (EQD_glue hS_c165 hA_c165 sd sn (by decide +kernel)) f0_13, QF0_14_eq (EQD_glue hS_c165 hA_c165 sd sn (by decide +kernel)) f0_14, QF0_15_eq (EQD_glue hS_c165 hA_c165 sd sn (by decide +kernel)) f0_15, QF0_16_eq (EQD_glue hS_c165 hA_c165 sd sn (by decide +kernel)) f0_16, QF0_17_eq (EQD_glue hS_c165 hA_c165 sd sn (by decide +kernel)) f0_17⟩
    · exact fun h => INV1_eq (EQD_glue hS_c165 hA_c165 sd sn (by decide +kernel)) (hI1 h)
    · exact fun h => INV2_eq (EQD_glue hS_c165 hA_c165 sd sn (by decide +kernel)) (hI2 h)
    · exact fun h => INV3_eq (EQD_glue hS_c165 hA_c165 sd sn (by decide +kernel)) (hI3 h)
    · exact fun h => INV4_eq (EQD_glue hS_c165 hA_c165 sd sn (by decide +kernel)) (hI4 h)
    · exact fun h => INV5_eq (EQD_glue hS_c165 hA_c165 sd sn (by decide +kernel)) (hI5 h)
    · exact fun h => INV6_eq (EQD_glue hS_c165 hA_c165 sd sn (by decide +kernel)) (hI6 h)
    · exact fun h => INV7_eq (EQD_glue hS_c165 hA_c165 sd sn (by decide +kernel)) (hI7 h)
    · exact fun h => INV8_eq (EQD_glue hS_c165 hA_c165 sd sn (by decide +kernel)) (hI8 h)
    · exact fun h => INV9_eq (EQD_glue hS_c165 hA_c165 sd sn (by decide +kernel)) (hI9 h)
  · skip
    have sd : SD [] (pul ι_wc4_1 D) (pul ι_wc4_1 D) := SD_refl
    have sn : SD [] (pul ι_wc4_1 N) (pul ι_wc4_1 N) := SD_refl
    refine k z _ (glu ι_wc4_1 D (pul ι_wc4_1 D)) (glu ι_wc4_1 N (pul ι_wc4_1 N)) (glu ι_wc4_1 F Fₚ) (glu ι_wc4_1 A Aₚ) _ _ ⟨HWs_call HX VPH_3 vs_wc4_1 hp Hₚ O, STC_call HT HX vs_wc4_1 hp O, hg0, PFI_glue (dl := []) hPF sf sa sd (by decide +kernel) (rexc_of (l := []) (by decide +kernel) ?_), ABS_glue hAB sf (by decide +kernel), NZ_glue hNZ vs_wc4_1 hp sn (by decide +kernel), hGI, ?_, ?_, ?_, ?_, ?_, ?_, ?_, ?_, ?_, ?_⟩ ⟨(STP0_call (STY_call vs_wc4_1 hp O) (sd 0 rfl) (RM_call vs_wc4_1 O)), unt1_of (x := 10) (by decide +kernel) (fun p hp => funext (sa p hp))⟩ (show inr z by assumption)
    · intro e he h1 h2
      cases he
    · skip
      exact ⟨QF0_0_eq (EQD_glue sf sa sd sn (by decide +kernel)) f0_0, QF0_1_eq (EQD_glue sf sa sd sn (by decide +kernel)) f0_1, QF0_2_eq (EQD_glue sf sa sd sn (by decide +kernel)) f0_2, QF0_3_eq (EQD_glue sf sa sd sn (by decide +kernel)) f0_3, QF0_4_eq (EQD_glue sf sa sd sn (by decide +kernel)) f0_4, show 0 ≤ (Fₚ 2 1) ∧ (Fₚ 2 1) ≤ ((N 26 : Int)) ∧ ((N 26 : Int)) ≤ 65536 from (by omega), QF0_6_eq (EQD_glue sf sa sd sn (by decide +kernel)) f0_6, QF0_7_eq (EQD_glue sf sa sd sn (by decide +kernel)) f0_7, QF0_8_eq (EQD_glue sf sa sd sn (by decide +kernel)) f0_8, QF0_9_eq (EQD_glue sf sa sd sn (by decide +kernel)) f0_9, QF0_10_eq (EQD_glue sf sa sd sn (by decide +kernel)) f0_10, QF0_11_eq (EQD_glue sf sa sd sn (by decide +kernel)) f0_11, QF0_12_eq (EQD_glue sf sa sd sn (by decide +kernel)) f0_12, QF0_13_eq (EQD_glue sf sa sd sn (by decide +kernel)) f0_13, QF0_14_eq (EQD_glue sf sa sd sn (by decide +kernel)) f0_14, QF0_15_eq (EQD_glue sf sa sd sn (by decide +kernel)) f0_15, QF0_16_eq (EQD_glue sf sa sd sn (by decide +kernel)) f0_16, QF0_17_eq (EQD_glue sf sa sd sn (by decide +kernel)) f0_17⟩
    · exact fun h => INV1_eq (EQD_glue sf sa sd sn (by decide +kernel)) (hI1 h)
    · exact fun h => INV2_eq (EQD_glue sf sa sd sn (by decide +kernel)) (hI2 h)
    · exact fun h => INV3_eq (EQD_glue sf sa sd sn (by decide +kernel)) (hI3 h)
    · exact fun h => INV4_eq (EQD_glue sf sa sd sn (by decide +kernel)) (hI4 h)
    · exact fun h => INV5_eq (EQD_glue sf sa sd sn (by decide +kernel)) (hI5 h)
    · exact fun h => INV6_eq (EQD_glue sf sa sd sn (by decide +kernel)) (hI6 h)
    · exact fun h => INV7_eq (EQD_glue sf sa sd sn (by decide +kernel)) (hI7 h)
    · exact fun h => INV8_eq (EQD_glue sf sa sd sn (by decide +kernel)) (hI8 h)
    · exact fun h => INV9_eq (EQD_glue sf sa sd sn (by decide +kernel)) (hI9 h)
def ι_wc4_2 : List Nat := [0, 6, 25, 26]
theorem vs_wc4_2 : VS VPH V17_vc4 ι_wc4_2 := VS_of (by decide +kernel)
set_option maxRecDepth 20000 in
theorem T_wc4_2 {g : Nat → Bool} {σ : rS} {D N : Nat → Nat} {F : hF} {A : hA} {d c s : Nat} {Q : wQ} (X : PHI g σ D N F A)  {x1 : Int} {ls : rO} (hl0 : rlook ls 0 = some (.ref (D 0))) (hl1 : rlook ls 1 = some (I x1)) (hl3 : rlook ls 3 = some (I (4))) (hl4 : rlook ls 4 = some (.ref (D 6))) (h0 : inr x1) (x_0 : (F 6 1) ≤ 16384) (x_1 : (F 6 1) + (F 14 1) ≤ 16384) (hc165 : ∀ (x5_ : Int) (ls : rO) (σₚ : rS) (Dₚ Nₚ : Nat → Nat) (Fₚ : hF) (Aₚ : hA) (cₚ sₚ : Nat), PHI g σₚ Dₚ Nₚ Fₚ Aₚ → STP g σ D N A c s g σₚ Dₚ Nₚ Aₚ cₚ sₚ → rlook ls 0 = some (.ref (Dₚ 0)) → rlook ls 1 = some (I (x1)) → rlook ls 3 = some (I (4)) → rlook ls 4 = some (.ref (Dₚ 6)) → rlook ls 5 = some (I x5_) → ((Fₚ 6 1) ≤ 16384) → ((Fₚ 6 1) + (Fₚ 14 1) ≤ 16384) → ((Fₚ 25 1) = 0) → (x5_ = 1) → Ew 17 (d + 1) 165 ls [.ref (Dₚ 0)] σₚ cₚ sₚ Q) (k : ∀ (z : Int) (σₚ : rS) (Dₚ Nₚ : Nat → Nat) (Fₚ : hF) (Aₚ : hA) (cₚ sₚ : Nat), PHI g σₚ Dₚ Nₚ Fₚ Aₚ → STP g σ D N A c s g σₚ Dₚ Nₚ Aₚ cₚ sₚ → (inr z) → Q (some (I z)) σₚ cₚ sₚ) : Ew 17 (d + 1) 54 ls [] σ c s Q := by
  obtain ⟨HX, HT, hg0, hPF, hAB, hNZ, hGI, hI0, hI1, hI2, hI3, hI4, hI5, hI6, hI7, hI8, hI9⟩ := X
  have hset := SETI_f hI0.2.2.2.2.2.2.2.2.2.2.2.2.2.2.2.2.2
  have hJ0 := hI0
  unfold INV0 at hJ0
  obtain ⟨f0_0, f0_1, f0_2, f0_3, f0_4, f0_5, f0_6, f0_7, f0_8, f0_9, f0_10, f0_11, f0_12, f0_13, f0_14, f0_15, f0_16, f0_17⟩ := hJ0
  have hp : ∀ x, x < (V17_vc4).length → SPH g (ι_wc4_2.getD x 0) = true := SPH_of (gs := [0]) (by intro j hj; simp at hj; subst hj; exact hg0) rfl (by decide +kernel)
  refine C17_vc4 (D := pul ι_wc4_2 D) (N := pul ι_wc4_2 N) (F := pul ι_wc4_2 F) (A := pul ι_wc4_2 A) (HWs_sub HX vs_wc4_2 hp) (show F 0 5 = (D 25 : Int) from hPF (0, 0, 5, 25) (List.mem_of_getElem? (i := 24) rfl) hg0 hg0) (show F 25 0 = (D 26 : Int) from hPF (0, 25, 0, 26) (List.mem_of_getElem? (i := 25) rfl) hg0 hg0) (N 26 : Int) rfl (F 25 1) rfl  hl0 hl1 hl3 hl4 (show inr (x1) by assumption) (show 0 ≤ (F 25 1) ∧ (F 25 1) ≤ ((N 26 : Int)) ∧ ((N 26 : Int)) ≤ 65536 by assumption) (fun  ls σ F_c165 A_c165 xc165_5 lc165_0 lc165_1 lc165_3 lc165_4 lc165_5 H O hS_c165 hA_c165   yc165_2_1 eyc165_2_1  jc165_0 jc165_1 jc165_2 jc165_3 => ?_) (fun z σₚ Fₚ Aₚ Hₚ O sf sa q0 q1 => ?_)
  · skip
    subst eyc165_2_1
    have sd : SD [] (pul ι_wc4_2 D) (pul ι_wc4_2 D) := SD_refl
    have sn : SD [] (pul ι_wc4_2 N) (pul ι_wc4_2 N) := SD_refl
    have : F_c165 1 1 = F 6 1 := hS_c165 1 1 rfl
    refine hc165  xc165_5 _ _ (glu ι_wc4_2 D (pul ι_wc4_2 D)) (glu ι_wc4_2 N (pul ι_wc4_2 N)) (glu ι_wc4_2 F F_c165) (glu ι_wc4_2 A A_c165) _ _ ⟨HWs_call HX VPH_3 vs_wc4_2 hp H O, STC_call HT HX vs_wc4_2 hp O, hg0, PFI_glue (dl := []) hPF hS_c165 hA_c165 sd (by decide +kernel) (rexc_of (l := []) (by decide +kernel) ?_), ABS_glue hAB hS_c165 (by decide +kernel), NZ_glue hNZ vs_wc4_2 hp sn (by decide +kernel), hGI, ?_, ?_, ?_, ?_, ?_, ?_, ?_, ?_, ?_, ?_⟩ ⟨(STP0_call (STY_call vs_wc4_2 hp O) (sd 0 rfl) (RM_call vs_wc4_2 O)), unt1_of (x := 10) (by decide +kernel) (fun p hp => funext (hA_c165 p hp))⟩ lc165_0 lc165_1 lc165_3 lc165_4 lc165_5 (show (F_c165 1 1) ≤ 16384 by (rw [show F_c165 1 1 = F 6 1 from hS_c165 1 1 rfl]; assumption)) (show (F_c165 1 1) + (F 14 1) ≤ 16384 by (rw [show F_c165 1 1 = F 6 1 from hS_c165 1 1 rfl]; assumption)) (show (F_c165 2 1) = 0 by assumption) (show xc165_5 = 1 by assumption)
    · intro e he h1 h2
      cases he
    · skip
      exact ⟨QF0_0_eq (EQD_glue hS_c165 hA_c165 sd sn (by decide +kernel)) f0_0, QF0_1_eq (EQD_glue hS_c165 hA_c165 sd sn (by decide +kernel)) f0_1, QF0_2_eq (EQD_glue hS_c165 hA_c165 sd sn (by decide +kernel)) f0_2, QF0_3_eq (EQD_glue hS_c165 hA_c165 sd sn (by decide +kernel)) f0_3, QF0_4_eq (EQD_glue hS_c165 hA_c165 sd sn (by decide +kernel)) f0_4, show 0 ≤ (F_c165 2 1) ∧ (F_c165 2 1) ≤ ((N 26 : Int)) ∧ ((N 26 : Int)) ≤ 65536 from (by assumption), QF0_6_eq (EQD_glue hS_c165 hA_c165 sd sn (by decide +kernel)) f0_6, QF0_7_eq (EQD_glue hS_c165 hA_c165 sd sn (by decide +kernel)) f0_7, QF0_8_eq (EQD_glue hS_c165 hA_c165 sd sn (by decide +kernel)) f0_8, QF0_9_eq (EQD_glue hS_c165 hA_c165 sd sn (by decide +kernel)) f0_9, QF0_10_eq (EQD_glue hS_c165 hA_c165 sd sn (by decide +kernel)) f0_10, QF0_11_eq (EQD_glue hS_c165 hA_c165 sd sn (by decide +kernel)) f0_11, QF0_12_eq (EQD_glue hS_c165 hA_c165 sd sn (by decide +kernel)) f0_12, QF0_13_eq (EQD_glue hS_c165 hA_c165 sd sn (by decide +kernel)) f0_13, QF0_14_eq (EQD_glue hS_c165 hA_c165 sd sn (by decide +kernel)) f0_14, QF0_15_eq (EQD_glue hS_c165 hA_c165 sd sn (by decide +kernel)) f0_15, QF0_16_eq (EQD_glue hS_c165 hA_c165 sd sn (by decide +kernel)) f0_16, QF0_17_eq (EQD_glue hS_c165 hA_c165 sd sn (by decide +kernel)) f0_17⟩
    · exact fun h => INV1_eq (EQD_glue hS_c165 hA_c165 sd sn (by decide +kernel)) (hI1 h)
    · exact fun h => INV2_eq (EQD_glue hS_c165 hA_c165 sd sn (by decide +kernel)) (hI2 h)
    · exact fun h => INV3_eq (EQD_glue hS_c165 hA_c165 sd sn (by decide +kernel)) (hI3 h)
    · exact fun h => INV4_eq (EQD_glue hS_c165 hA_c165 sd sn (by decide +kernel)) (hI4 h)
    · exact fun h => INV5_eq (EQD_glue hS_c165 hA_c165 sd sn (by decide +kernel)) (hI5 h)
    · exact fun h => INV6_eq (EQD_glue hS_c165 hA_c165 sd sn (by decide +kernel)) (hI6 h)
    · exact fun h => INV7_eq (EQD_glue hS_c165 hA_c165 sd sn (by decide +kernel)) (hI7 h)
    · exact fun h => INV8_eq (EQD_glue hS_c165 hA_c165 sd sn (by decide +kernel)) (hI8 h)
    · exact fun h => INV9_eq (EQD_glue hS_c165 hA_c165 sd sn (by decide +kernel)) (hI9 h)
  · skip
    have sd : SD [] (pul ι_wc4_2 D) (pul ι_wc4_2 D) := SD_refl
    have sn : SD [] (pul ι_wc4_2 N) (pul ι_wc4_2 N) := SD_refl
    refine k z _ (glu ι_wc4_2 D (pul ι_wc4_2 D)) (glu ι_wc4_2 N (pul ι_wc4_2 N)) (glu ι_wc4_2 F Fₚ) (glu ι_wc4_2 A Aₚ) _ _ ⟨HWs_call HX VPH_3 vs_wc4_2 hp Hₚ O, STC_call HT HX vs_wc4_2 hp O, hg0, PFI_glue (dl := []) hPF sf sa sd (by decide +kernel) (rexc_of (l := []) (by decide +kernel) ?_), ABS_glue hAB sf (by decide +kernel), NZ_glue hNZ vs_wc4_2 hp sn (by decide +kernel), hGI, ?_, ?_, ?_, ?_, ?_, ?_, ?_, ?_, ?_, ?_⟩ ⟨(STP0_call (STY_call vs_wc4_2 hp O) (sd 0 rfl) (RM_call vs_wc4_2 O)), unt1_of (x := 10) (by decide +kernel) (fun p hp => funext (sa p hp))⟩ (show inr z by assumption)
    · intro e he h1 h2
      cases he
    · skip
      exact ⟨QF0_0_eq (EQD_glue sf sa sd sn (by decide +kernel)) f0_0, QF0_1_eq (EQD_glue sf sa sd sn (by decide +kernel)) f0_1, QF0_2_eq (EQD_glue sf sa sd sn (by decide +kernel)) f0_2, QF0_3_eq (EQD_glue sf sa sd sn (by decide +kernel)) f0_3, QF0_4_eq (EQD_glue sf sa sd sn (by decide +kernel)) f0_4, show 0 ≤ (Fₚ 2 1) ∧ (Fₚ 2 1) ≤ ((N 26 : Int)) ∧ ((N 26 : Int)) ≤ 65536 from (by omega), QF0_6_eq (EQD_glue sf sa sd sn (by decide +kernel)) f0_6, QF0_7_eq (EQD_glue sf sa sd sn (by decide +kernel)) f0_7, QF0_8_eq (EQD_glue sf sa sd sn (by decide +kernel)) f0_8, QF0_9_eq (EQD_glue sf sa sd sn (by decide +kernel)) f0_9, QF0_10_eq (EQD_glue sf sa sd sn (by decide +kernel)) f0_10, QF0_11_eq (EQD_glue sf sa sd sn (by decide +kernel)) f0_11, QF0_12_eq (EQD_glue sf sa sd sn (by decide +kernel)) f0_12, QF0_13_eq (EQD_glue sf sa sd sn (by decide +kernel)) f0_13, QF0_14_eq (EQD_glue sf sa sd sn (by decide +kernel)) f0_14, QF0_15_eq (EQD_glue sf sa sd sn (by decide +kernel)) f0_15, QF0_16_eq (EQD_glue sf sa sd sn (by decide +kernel)) f0_16, QF0_17_eq (EQD_glue sf sa sd sn (by decide +kernel)) f0_17⟩
    · exact fun h => INV1_eq (EQD_glue sf sa sd sn (by decide +kernel)) (hI1 h)
    · exact fun h => INV2_eq (EQD_glue sf sa sd sn (by decide +kernel)) (hI2 h)
    · exact fun h => INV3_eq (EQD_glue sf sa sd sn (by decide +kernel)) (hI3 h)
    · exact fun h => INV4_eq (EQD_glue sf sa sd sn (by decide +kernel)) (hI4 h)
    · exact fun h => INV5_eq (EQD_glue sf sa sd sn (by decide +kernel)) (hI5 h)
    · exact fun h => INV6_eq (EQD_glue sf sa sd sn (by decide +kernel)) (hI6 h)
    · exact fun h => INV7_eq (EQD_glue sf sa sd sn (by decide +kernel)) (hI7 h)
    · exact fun h => INV8_eq (EQD_glue sf sa sd sn (by decide +kernel)) (hI8 h)
    · exact fun h => INV9_eq (EQD_glue sf sa sd sn (by decide +kernel)) (hI9 h)
def ι_wc4_3 : List Nat := [0, 8, 25, 26]
theorem vs_wc4_3 : VS VPH V17_vc4 ι_wc4_3 := VS_of (by decide +kernel)
set_option maxRecDepth 20000 in
theorem T_wc4_3 {g : Nat → Bool} {σ : rS} {D N : Nat → Nat} {F : hF} {A : hA} {d c s : Nat} {Q : wQ} (X : PHI g σ D N F A)  {x1 : Int} {ls : rO} (hl0 : rlook ls 0 = some (.ref (D 0))) (hl1 : rlook ls 1 = some (I x1)) (hl3 : rlook ls 3 = some (I (4))) (hl4 : rlook ls 4 = some (.ref (D 8))) (h0 : inr x1) (x_0 : (F 8 1) ≤ 16384) (x_1 : (F 8 1) + (F 14 1) ≤ 16384) (hc165 : ∀ (x5_ : Int) (ls : rO) (σₚ : rS) (Dₚ Nₚ : Nat → Nat) (Fₚ : hF) (Aₚ : hA) (cₚ sₚ : Nat), PHI g σₚ Dₚ Nₚ Fₚ Aₚ → STP g σ D N A c s g σₚ Dₚ Nₚ Aₚ cₚ sₚ → rlook ls 0 = some (.ref (Dₚ 0)) → rlook ls 1 = some (I (x1)) → rlook ls 3 = some (I (4)) → rlook ls 4 = some (.ref (Dₚ 8)) → rlook ls 5 = some (I x5_) → ((Fₚ 8 1) ≤ 16384) → ((Fₚ 8 1) + (Fₚ 14 1) ≤ 16384) → ((Fₚ 25 1) = 0) → (x5_ = 1) → Ew 17 (d + 1) 165 ls [.ref (Dₚ 0)] σₚ cₚ sₚ Q) (k : ∀ (z : Int) (σₚ : rS) (Dₚ Nₚ : Nat → Nat) (Fₚ : hF) (Aₚ : hA) (cₚ sₚ : Nat), PHI g σₚ Dₚ Nₚ Fₚ Aₚ → STP g σ D N A c s g σₚ Dₚ Nₚ Aₚ cₚ sₚ → (inr z) → Q (some (I z)) σₚ cₚ sₚ) : Ew 17 (d + 1) 54 ls [] σ c s Q := by
  obtain ⟨HX, HT, hg0, hPF, hAB, hNZ, hGI, hI0, hI1, hI2, hI3, hI4, hI5, hI6, hI7, hI8, hI9⟩ := X
  have hset := SETI_f hI0.2.2.2.2.2.2.2.2.2.2.2.2.2.2.2.2.2
  have hJ0 := hI0
  unfold INV0 at hJ0
  obtain ⟨f0_0, f0_1, f0_2, f0_3, f0_4, f0_5, f0_6, f0_7, f0_8, f0_9, f0_10, f0_11, f0_12, f0_13, f0_14, f0_15, f0_16, f0_17⟩ := hJ0
  have hp : ∀ x, x < (V17_vc4).length → SPH g (ι_wc4_3.getD x 0) = true := SPH_of (gs := [0]) (by intro j hj; simp at hj; subst hj; exact hg0) rfl (by decide +kernel)
  refine C17_vc4 (D := pul ι_wc4_3 D) (N := pul ι_wc4_3 N) (F := pul ι_wc4_3 F) (A := pul ι_wc4_3 A) (HWs_sub HX vs_wc4_3 hp) (show F 0 5 = (D 25 : Int) from hPF (0, 0, 5, 25) (List.mem_of_getElem? (i := 24) rfl) hg0 hg0) (show F 25 0 = (D 26 : Int) from hPF (0, 25, 0, 26) (List.mem_of_getElem? (i := 25) rfl) hg0 hg0) (N 26 : Int) rfl (F 25 1) rfl  hl0 hl1 hl3 hl4 (show inr (x1) by assumption) (show 0 ≤ (F 25 1) ∧ (F 25 1) ≤ ((N 26 : Int)) ∧ ((N 26 : Int)) ≤ 65536 by assumption) (fun  ls σ F_c165 A_c165 xc165_5 lc165_0 lc165_1 lc165_3 lc165_4 lc165_5 H O hS_c165 hA_c165   yc165_2_1 eyc165_2_1  jc165_0 jc165_1 jc165_2 jc165_3 => ?_) (fun z σₚ Fₚ Aₚ Hₚ O sf sa q0 q1 => ?_)
  · skip
    subst eyc165_2_1
    have sd : SD [] (pul ι_wc4_3 D) (pul ι_wc4_3 D) := SD_refl
    have sn : SD [] (pul ι_wc4_3 N) (pul ι_wc4_3 N) := SD_refl
    have : F_c165 1 1 = F 8 1 := hS_c165 1 1 rfl
    refine hc165  xc165_5 _ _ (glu ι_wc4_3 D (pul ι_wc4_3 D)) (glu ι_wc4_3 N (pul ι_wc4_3 N)) (glu ι_wc4_3 F F_c165) (glu ι_wc4_3 A A_c165) _ _ ⟨HWs_call HX VPH_3 vs_wc4_3 hp H O, STC_call HT HX vs_wc4_3 hp O, hg0, PFI_glue (dl := []) hPF hS_c165 hA_c165 sd (by decide +kernel) (rexc_of (l := []) (by decide +kernel) ?_), ABS_glue hAB hS_c165 (by decide +kernel), NZ_glue hNZ vs_wc4_3 hp sn (by decide +kernel), hGI, ?_, ?_, ?_, ?_, ?_, ?_, ?_, ?_, ?_, ?_⟩ ⟨(STP0_call (STY_call vs_wc4_3 hp O) (sd 0 rfl) (RM_call vs_wc4_3 O)), unt1_of (x := 10) (by decide +kernel) (fun p hp => funext (hA_c165 p hp))⟩ lc165_0 lc165_1 lc165_3 lc165_4 lc165_5 (show (F_c165 1 1) ≤ 16384 by (rw [show F_c165 1 1 = F 8 1 from hS_c165 1 1 rfl]; assumption)) (show (F_c165 1 1) + (F 14 1) ≤ 16384 by (rw [show F_c165 1 1 = F 8 1 from hS_c165 1 1 rfl]; assumption)) (show (F_c165 2 1) = 0 by assumption) (show xc165_5 = 1 by assumption)
    · intro e he h1 h2
      cases he
    · skip
      exact ⟨QF0_0_eq (EQD_glue hS_c165 hA_c165 sd sn (by decide +kernel)) f0_0, QF0_1_eq (EQD_glue hS_c165 hA_c165 sd sn (by decide +kernel)) f0_1, QF0_2_eq (EQD_glue hS_c165 hA_c165 sd sn (by decide +kernel)) f0_2, QF0_3_eq (EQD_glue hS_c165 hA_c165 sd sn (by decide +kernel)) f0_3, QF0_4_eq (EQD_glue hS_c165 hA_c165 sd sn (by decide +kernel)) f0_4, show 0 ≤ (F_c165 2 1) ∧ (F_c165 2 1) ≤ ((N 26 : Int)) ∧ ((N 26 : Int)) ≤ 65536 from (by assumption), QF0_6_eq (EQD_glue hS_c165 hA_c165 sd sn (by decide +kernel)) f0_6, QF0_7_eq (EQD_glue hS_c165 hA_c165 sd sn (by decide +kernel)) f0_7, QF0_8_eq (EQD_glue hS_c165 hA_c165 sd sn (by decide +kernel)) f0_8, QF0_9_eq (EQD_glue hS_c165 hA_c165 sd sn (by decide +kernel)) f0_9, QF0_10_eq (EQD_glue hS_c165 hA_c165 sd sn (by decide +kernel)) f0_10, QF0_11_eq (EQD_glue hS_c165 hA_c165 sd sn (by decide +kernel)) f0_11, QF0_12_eq (EQD_glue hS_c165 hA_c165 sd sn (by decide +kernel)) f0_12, QF0_13_eq (EQD_glue hS_c165 hA_c165 sd sn (by decide +kernel)) f0_13, QF0_14_eq (EQD_glue hS_c165 hA_c165 sd sn (by decide +kernel)) f0_14, QF0_15_eq (EQD_glue hS_c165 hA_c165 sd sn (by decide +kernel)) f0_15, QF0_16_eq (EQD_glue hS_c165 hA_c165 sd sn (by decide +kernel)) f0_16, QF0_17_eq (EQD_glue hS_c165 hA_c165 sd sn (by decide +kernel)) f0_17⟩
    · exact fun h => INV1_eq (EQD_glue hS_c165 hA_c165 sd sn (by decide +kernel)) (hI1 h)
    · exact fun h => INV2_eq (EQD_glue hS_c165 hA_c165 sd sn (by decide +kernel)) (hI2 h)
    · exact fun h => INV3_eq (EQD_glue hS_c165 hA_c165 sd sn (by decide +kernel)) (hI3 h)
    · exact fun h => INV4_eq (EQD_glue hS_c165 hA_c165 sd sn (by decide +kernel)) (hI4 h)
    · exact fun h => INV5_eq (EQD_glue hS_c165 hA_c165 sd sn (by decide +kernel)) (hI5 h)
    · exact fun h => INV6_eq (EQD_glue hS_c165 hA_c165 sd sn (by decide +kernel)) (hI6 h)
    · exact fun h => INV7_eq (EQD_glue hS_c165 hA_c165 sd sn (by decide +kernel)) (hI7 h)
    · exact fun h => INV8_eq (EQD_glue hS_c165 hA_c165 sd sn (by decide +kernel)) (hI8 h)
    · exact fun h => INV9_eq (EQD_glue hS_c165 hA_c165 sd sn (by decide +kernel)) (hI9 h)
  · skip
    have sd : SD [] (pul ι_wc4_3 D) (pul ι_wc4_3 D) := SD_refl
    have sn : SD [] (pul ι_wc4_3 N) (pul ι_wc4_3 N) := SD_refl
    refine k z _ (glu ι_wc4_3 D (pul ι_wc4_3 D)) (glu ι_wc4_3 N (pul ι_wc4_3 N)) (glu ι_wc4_3 F Fₚ) (glu ι_wc4_3 A Aₚ) _ _ ⟨HWs_call HX VPH_3 vs_wc4_3 hp Hₚ O, STC_call HT HX vs_wc4_3 hp O, hg0, PFI_glue (dl := []) hPF sf sa sd (by decide +kernel) (rexc_of (l := []) (by decide +kernel) ?_), ABS_glue hAB sf (by decide +kernel), NZ_glue hNZ vs_wc4_3 hp sn (by decide +kernel), hGI, ?_, ?_, ?_, ?_, ?_, ?_, ?_, ?_, ?_, ?_⟩ ⟨(STP0_call (STY_call vs_wc4_3 hp O) (sd 0 rfl) (RM_call vs_wc4_3 O)), unt1_of (x := 10) (by decide +kernel) (fun p hp => funext (sa p hp))⟩ (show inr z by assumption)
    · intro e he h1 h2
      cases he
    · skip
      exact ⟨QF0_0_eq (EQD_glue sf sa sd sn (by decide +kernel)) f0_0, QF0_1_eq (EQD_glue sf sa sd sn (by decide +kernel)) f0_1, QF0_2_eq (EQD_glue sf sa sd sn (by decide +kernel)) f0_2, QF0_3_eq (EQD_glue sf sa sd sn (by decide +kernel)) f0_3, QF0_4_eq (EQD_glue sf sa sd sn (by decide +kernel)) f0_4, show 0 ≤ (Fₚ 2 1) ∧ (Fₚ 2 1) ≤ ((N 26 : Int)) ∧ ((N 26 : Int)) ≤ 65536 from (by omega), QF0_6_eq (EQD_glue sf sa sd sn (by decide +kernel)) f0_6, QF0_7_eq (EQD_glue sf sa sd sn (by decide +kernel)) f0_7, QF0_8_eq (EQD_glue sf sa sd sn (by decide +kernel)) f0_8, QF0_9_eq (EQD_glue sf sa sd sn (by decide +kernel)) f0_9, QF0_10_eq (EQD_glue sf sa sd sn (by decide +kernel)) f0_10, QF0_11_eq (EQD_glue sf sa sd sn (by decide +kernel)) f0_11, QF0_12_eq (EQD_glue sf sa sd sn (by decide +kernel)) f0_12, QF0_13_eq (EQD_glue sf sa sd sn (by decide +kernel)) f0_13, QF0_14_eq (EQD_glue sf sa sd sn (by decide +kernel)) f0_14, QF0_15_eq (EQD_glue sf sa sd sn (by decide +kernel)) f0_15, QF0_16_eq (EQD_glue sf sa sd sn (by decide +kernel)) f0_16, QF0_17_eq (EQD_glue sf sa sd sn (by decide +kernel)) f0_17⟩
    · exact fun h => INV1_eq (EQD_glue sf sa sd sn (by decide +kernel)) (hI1 h)
    · exact fun h => INV2_eq (EQD_glue sf sa sd sn (by decide +kernel)) (hI2 h)
    · exact fun h => INV3_eq (EQD_glue sf sa sd sn (by decide +kernel)) (hI3 h)
    · exact fun h => INV4_eq (EQD_glue sf sa sd sn (by decide +kernel)) (hI4 h)
    · exact fun h => INV5_eq (EQD_glue sf sa sd sn (by decide +kernel)) (hI5 h)
    · exact fun h => INV6_eq (EQD_glue sf sa sd sn (by decide +kernel)) (hI6 h)
    · exact fun h => INV7_eq (EQD_glue sf sa sd sn (by decide +kernel)) (hI7 h)
    · exact fun h => INV8_eq (EQD_glue sf sa sd sn (by decide +kernel)) (hI8 h)
    · exact fun h => INV9_eq (EQD_glue sf sa sd sn (by decide +kernel)) (hI9 h)
def ι_wc5_0 : List Nat := [0, 2, 25, 26]
theorem vs_wc5_0 : VS VPH V17_vc5 ι_wc5_0 := VS_of (by decide +kernel)
set_option maxRecDepth 20000 in
theorem T_wc5_0 {g : Nat → Bool} {σ : rS} {D N : Nat → Nat} {F : hF} {A : hA} {d c s : Nat} {Q : wQ} (X : PHI g σ D N F A)  {x1 : Int} {ls : rO} (hl0 : rlook ls 0 = some (.ref (D 0))) (hl1 : rlook ls 1 = some (I x1)) (hl3 : rlook ls 3 = some (I (5))) (hl4 : rlook ls 4 = some (.ref (D 2))) (h0 : inr x1) (x_0 : (F 2 1) ≤ 16384) (hc185 : ∀ (ls : rO) (σₚ : rS) (Dₚ Nₚ : Nat → Nat) (Fₚ : hF) (Aₚ : hA) (cₚ sₚ : Nat), PHI g σₚ Dₚ Nₚ Fₚ Aₚ → STP g σ D N A c s g σₚ Dₚ Nₚ Aₚ cₚ sₚ → rlook ls 0 = some (.ref (Dₚ 0)) → rlook ls 1 = some (I (x1)) → rlook ls 3 = some (I (5)) → rlook ls 4 = some (.ref (Dₚ 2)) → ((Fₚ 2 1) ≤ 16384) → ((Fₚ 25 1) = 0) → ((Fₚ 25 4) = 0) → Ew 17 (d + 1) 185 ls [.ref (Dₚ 0)] σₚ cₚ sₚ Q) (k : ∀ (z : Int) (σₚ : rS) (Dₚ Nₚ : Nat → Nat) (Fₚ : hF) (Aₚ : hA) (cₚ sₚ : Nat), PHI g σₚ Dₚ Nₚ Fₚ Aₚ → STP g σ D N A c s g σₚ Dₚ Nₚ Aₚ cₚ sₚ → (inr z) → Q (some (I z)) σₚ cₚ sₚ) : Ew 17 (d + 1) 54 ls [] σ c s Q := by
  obtain ⟨HX, HT, hg0, hPF, hAB, hNZ, hGI, hI0, hI1, hI2, hI3, hI4, hI5, hI6, hI7, hI8, hI9⟩ := X
  have hset := SETI_f hI0.2.2.2.2.2.2.2.2.2.2.2.2.2.2.2.2.2
  have hJ0 := hI0
  unfold INV0 at hJ0
  obtain ⟨f0_0, f0_1, f0_2, f0_3, f0_4, f0_5, f0_6, f0_7, f0_8, f0_9, f0_10, f0_11, f0_12, f0_13, f0_14, f0_15, f0_16, f0_17⟩ := hJ0
  have hp : ∀ x, x < (V17_vc5).length → SPH g (ι_wc5_0.getD x 0) = true := SPH_of (gs := [0]) (by intro j hj; simp at hj; subst hj; exact hg0) rfl (by decide +kernel)
  refine C17_vc5 (D := pul ι_wc5_0 D) (N := pul ι_wc5_0 N) (F := pul ι_wc5_0 F) (A := pul ι_wc5_0 A) (HWs_sub HX vs_wc5_0 hp) (show F 0 5 = (D 25 : Int) from hPF (0, 0, 5, 25) (List.mem_of_getElem? (i := 24) rfl) hg0 hg0) (show F 25 0 = (D 26 : Int) from hPF (0, 25, 0, 26) (List.mem_of_getElem? (i := 25) rfl) hg0 hg0) (N 26 : Int) rfl (F 25 1) rfl  hl0 hl1 hl3 hl4 (show inr (x1) by assumption) (show 0 ≤ (F 25 1) ∧ (F 25 1) ≤ ((N 26 : Int)) ∧ ((N 26 : Int)) ≤ 65536 by assumption) (fun  ls σ F_c185 A_c185  lc185_0 lc185_1 lc185_3 lc185_4 H O hS_c185 hA_c185   yc185_2_1 eyc185_2_1 yc185_2_4 eyc185_2_4  jc185_0 jc185_1 jc185_2 => ?_) (fun z σₚ Fₚ Aₚ Hₚ O sf sa q0 q1 => ?_)
  · skip
    subst eyc185_2_1 eyc185_2_4
    have sd : SD [] (pul ι_wc5_0 D) (pul ι_wc5_0 D) := SD_refl
    have sn : SD [] (pul ι_wc5_0 N) (pul ι_wc5_0 N) := SD_refl
    have : F_c185 1 1 = F 2 1 := hS_c185 1 1 rfl
    refine hc185   _ _ (glu ι_wc5_0 D (pul ι_wc5_0 D)) (glu ι_wc5_0 N (pul ι_wc5_0 N)) (glu ι_wc5_0 F F_c185) (glu ι_wc5_0 A A_c185) _ _ ⟨HWs_call HX VPH_3 vs_wc5_0 hp H O, STC_call HT HX vs_wc5_0 hp O, hg0, PFI_glue (dl := []) hPF hS_c185 hA_c185 sd (by decide +kernel) (rexc_of (l := []) (by decide +kernel) ?_), ABS_glue hAB hS_c185 (by decide +kernel), NZ_glue hNZ vs_wc5_0 hp sn (by decide +kernel), hGI, ?_, ?_, ?_, ?_, ?_, ?_, ?_, ?_, ?_, ?_⟩ ⟨(STP0_call (STY_call vs_wc5_0 hp O) (sd 0 rfl) (RM_call vs_wc5_0 O)), unt1_of (x := 10) (by decide +kernel) (fun p hp => funext (hA_c185 p hp))⟩ lc185_0 lc185_1 lc185_3 lc185_4 (show (F_c185 1 1) ≤ 16384 by (rw [show F_c185 1 1 = F 2 1 from hS_c185 1 1 rfl]; assumption)) (show (F_c185 2 1) = 0 by assumption) (show (F_c185 2 4) = 0 by assumption)
    · intro e he h1 h2
      cases he
    · skip
      exact ⟨QF0_0_eq (EQD_glue hS_c185 hA_c185 sd sn (by decide +kernel)) f0_0, QF0_1_eq (EQD_glue hS_c185 hA_c185 sd sn (by decide +kernel)) f0_1, QF0_2_eq (EQD_glue hS_c185 hA_c185 sd sn (by decide +kernel)) f0_2, QF0_3_eq (EQD_glue hS_c185 hA_c185 sd sn (by decide +kernel)) f0_3, QF0_4_eq (EQD_glue hS_c185 hA_c185 sd sn (by decide +kernel)) f0_4, show 0 ≤ (F_c185 2 1) ∧ (F_c185 2 1) ≤ ((N 26 : Int)) ∧ ((N 26 : Int)) ≤ 65536 from (by assumption), QF0_6_eq (EQD_glue hS_c185 hA_c185 sd sn (by decide +kernel)) f0_6, QF0_7_eq (EQD_glue hS_c185 hA_c185 sd sn (by decide +kernel)) f0_7, QF0_8_eq (EQD_glue hS_c185 hA_c185 sd sn (by decide +kernel)) f0_8, QF0_9_eq (EQD_glue hS_c185 hA_c185 sd sn (by decide +kernel)) f0_9, QF0_10_eq (EQD_glue hS_c185 hA_c185 sd sn (by decide +kernel)) f0_10, QF0_11_eq (EQD_glue hS_c185 hA_c185 sd sn (by decide +kernel)) f0_11, QF0_12_eq (EQD_glue hS_c185 hA_c185 sd sn (by decide +kernel)) f0_12, QF0_13_eq (EQD_glue hS_c185 hA_c185 sd sn (by decide +kernel)) f0_13, QF0_14_eq (EQD_glue hS_c185 hA_c185 sd sn (by decide +kernel)) f0_14, QF0_15_eq (EQD_glue hS_c185 hA_c185 sd sn (by decide +kernel)) f0_15, QF0_16_eq (EQD_glue hS_c185 hA_c185 sd sn (by decide +kernel)) f0_16, QF0_17_eq (EQD_glue hS_c185 hA_c185 sd sn (by decide +kernel)) f0_17⟩
    · exact fun h => INV1_eq (EQD_glue hS_c185 hA_c185 sd sn (by decide +kernel)) (hI1 h)
    · exact fun h => INV2_eq (EQD_glue hS_c185 hA_c185 sd sn (by decide +kernel)) (hI2 h)
    · exact fun h => INV3_eq (EQD_glue hS_c185 hA_c185 sd sn (by decide +kernel)) (hI3 h)
    · exact fun h => INV4_eq (EQD_glue hS_c185 hA_c185 sd sn (by decide +kernel)) (hI4 h)
    · exact fun h => INV5_eq (EQD_glue hS_c185 hA_c185 sd sn (by decide +kernel)) (hI5 h)
    · exact fun h => INV6_eq (EQD_glue hS_c185 hA_c185 sd sn (by decide +kernel)) (hI6 h)
    · exact fun h => INV7_eq (EQD_glue hS_c185 hA_c185 sd sn (by decide +kernel)) (hI7 h)
    · exact fun h => INV8_eq (EQD_glue hS_c185 hA_c185 sd sn (by decide +kernel)) (hI8 h)
    · exact fun h => INV9_eq (EQD_glue hS_c185 hA_c185 sd sn (by decide +kernel)) (hI9 h)
  · skip
    have sd : SD [] (pul ι_wc5_0 D) (pul ι_wc5_0 D) := SD_refl
    have sn : SD [] (pul ι_wc5_0 N) (pul ι_wc5_0 N) := SD_refl
    refine k z _ (glu ι_wc5_0 D (pul ι_wc5_0 D)) (glu ι_wc5_0 N (pul ι_wc5_0 N)) (glu ι_wc5_0 F Fₚ) (glu ι_wc5_0 A Aₚ) _ _ ⟨HWs_call HX VPH_3 vs_wc5_0 hp Hₚ O, STC_call HT HX vs_wc5_0 hp O, hg0, PFI_glue (dl := []) hPF sf sa sd (by decide +kernel) (rexc_of (l := []) (by decide +kernel) ?_), ABS_glue hAB sf (by decide +kernel), NZ_glue hNZ vs_wc5_0 hp sn (by decide +kernel), hGI, ?_, ?_, ?_, ?_, ?_, ?_, ?_, ?_, ?_, ?_⟩ ⟨(STP0_call (STY_call vs_wc5_0 hp O) (sd 0 rfl) (RM_call vs_wc5_0 O)), unt1_of (x := 10) (by decide +kernel) (fun p hp => funext (sa p hp))⟩ (show inr z by assumption)
    · intro e he h1 h2
      cases he
    · skip
      exact ⟨QF0_0_eq (EQD_glue sf sa sd sn (by decide +kernel)) f0_0, QF0_1_eq (EQD_glue sf sa sd sn (by decide +kernel)) f0_1, QF0_2_eq (EQD_glue sf sa sd sn (by decide +kernel)) f0_2, QF0_3_eq (EQD_glue sf sa sd sn (by decide +kernel)) f0_3, QF0_4_eq (EQD_glue sf sa sd sn (by decide +kernel)) f0_4, show 0 ≤ (Fₚ 2 1) ∧ (Fₚ 2 1) ≤ ((N 26 : Int)) ∧ ((N 26 : Int)) ≤ 65536 from (by omega), QF0_6_eq (EQD_glue sf sa sd sn (by decide +kernel)) f0_6, QF0_7_eq (EQD_glue sf sa sd sn (by decide +kernel)) f0_7, QF0_8_eq (EQD_glue sf sa sd sn (by decide +kernel)) f0_8, QF0_9_eq (EQD_glue sf sa sd sn (by decide +kernel)) f0_9, QF0_10_eq (EQD_glue sf sa sd sn (by decide +kernel)) f0_10, QF0_11_eq (EQD_glue sf sa sd sn (by decide +kernel)) f0_11, QF0_12_eq (EQD_glue sf sa sd sn (by decide +kernel)) f0_12, QF0_13_eq (EQD_glue sf sa sd sn (by decide +kernel)) f0_13, QF0_14_eq (EQD_glue sf sa sd sn (by decide +kernel)) f0_14, QF0_15_eq (EQD_glue sf sa sd sn (by decide +kernel)) f0_15, QF0_16_eq (EQD_glue sf sa sd sn (by decide +kernel)) f0_16, QF0_17_eq (EQD_glue sf sa sd sn (by decide +kernel)) f0_17⟩
    · exact fun h => INV1_eq (EQD_glue sf sa sd sn (by decide +kernel)) (hI1 h)
    · exact fun h => INV2_eq (EQD_glue sf sa sd sn (by decide +kernel)) (hI2 h)
    · exact fun h => INV3_eq (EQD_glue sf sa sd sn (by decide +kernel)) (hI3 h)
    · exact fun h => INV4_eq (EQD_glue sf sa sd sn (by decide +kernel)) (hI4 h)
    · exact fun h => INV5_eq (EQD_glue sf sa sd sn (by decide +kernel)) (hI5 h)
    · exact fun h => INV6_eq (EQD_glue sf sa sd sn (by decide +kernel)) (hI6 h)
    · exact fun h => INV7_eq (EQD_glue sf sa sd sn (by decide +kernel)) (hI7 h)
    · exact fun h => INV8_eq (EQD_glue sf sa sd sn (by decide +kernel)) (hI8 h)
    · exact fun h => INV9_eq (EQD_glue sf sa sd sn (by decide +kernel)) (hI9 h)
def ι_wc5_1 : List Nat := [0, 4, 25, 26]
theorem vs_wc5_1 : VS VPH V17_vc5 ι_wc5_1 := VS_of (by decide +kernel)
set_option maxRecDepth 20000 in
theorem T_wc5_1 {g : Nat → Bool} {σ : rS} {D N : Nat → Nat} {F : hF} {A : hA} {d c s : Nat} {Q : wQ} (X : PHI g σ D N F A)  {x1 : Int} {ls : rO} (hl0 : rlook ls 0 = some (.ref (D 0))) (hl1 : rlook ls 1 = some (I x1)) (hl3 : rlook ls 3 = some (I (5))) (hl4 : rlook ls 4 = some (.ref (D 4))) (h0 : inr x1) (x_0 : (F 4 1) ≤ 16384) (hc185 : ∀ (ls : rO) (σₚ : rS) (Dₚ Nₚ : Nat → Nat) (Fₚ : hF) (Aₚ : hA) (cₚ sₚ : Nat), PHI g σₚ Dₚ Nₚ Fₚ Aₚ → STP g σ D N A c s g σₚ Dₚ Nₚ Aₚ cₚ sₚ → rlook ls 0 = some (.ref (Dₚ 0)) → rlook ls 1 = some (I (x1)) → rlook ls 3 = some (I (5)) → rlook ls 4 = some (.ref (Dₚ 4)) → ((Fₚ 4 1) ≤ 16384) → ((Fₚ 25 1) = 0) → ((Fₚ 25 4) = 0) → Ew 17 (d + 1) 185 ls [.ref (Dₚ 0)] σₚ cₚ sₚ Q) (k : ∀ (z : Int) (σₚ : rS) (Dₚ Nₚ : Nat → Nat) (Fₚ : hF) (Aₚ : hA) (cₚ sₚ : Nat), PHI g σₚ Dₚ Nₚ Fₚ Aₚ → STP g σ D N A c s g σₚ Dₚ Nₚ Aₚ cₚ sₚ → (inr z) → Q (some (I z)) σₚ cₚ sₚ) : Ew 17 (d + 1) 54 ls [] σ c s Q := by
  obtain ⟨HX, HT, hg0, hPF, hAB, hNZ, hGI, hI0, hI1, hI2, hI3, hI4, hI5, hI6, hI7, hI8, hI9⟩ := X
  have hset := SETI_f hI0.2.2.2.2.2.2.2.2.2.2.2.2.2.2.2.2.2
  have hJ0 := hI0
  unfold INV0 at hJ0
  obtain ⟨f0_0, f0_1, f0_2, f0_3, f0_4, f0_5, f0_6, f0_7, f0_8, f0_9, f0_10, f0_11, f0_12, f0_13, f0_14, f0_15, f0_16, f0_17⟩ := hJ0
  have hp : ∀ x, x < (V17_vc5).length → SPH g (ι_wc5_1.getD x 0) = true := SPH_of (gs := [0]) (by intro j hj; simp at hj; subst hj; exact hg0) rfl (by decide +kernel)
  refine C17_vc5 (D := pul ι_wc5_1 D) (N := pul ι_wc5_1 N) (F := pul ι_wc5_1 F) (A := pul ι_wc5_1 A) (HWs_sub HX vs_wc5_1 hp) (show F 0 5 = (D 25 : Int) from hPF (0, 0, 5, 25) (List.mem_of_getElem? (i := 24) rfl) hg0 hg0) (show F 25 0 = (D 26 : Int) from hPF (0, 25, 0, 26) (List.mem_of_getElem? (i := 25) rfl) hg0 hg0) (N 26 : Int) rfl (F 25 1) rfl  hl0 hl1 hl3 hl4 (show inr (x1) by assumption) (show 0 ≤ (F 25 1) ∧ (F 25 1) ≤ ((N 26 : Int)) ∧ ((N 26 : Int)) ≤ 65536 by assumption) (fun  ls σ F_c185 A_c185  lc185_0 lc185_1 lc185_3 lc185_4 H O hS_c185 hA_c185   yc185_2_1 eyc185_2_1 yc185_2_4 eyc185_2_4  jc185_0 jc185_1 jc185_2 => ?_) (fun z σₚ Fₚ Aₚ Hₚ O sf sa q0 q1 => ?_)
  · skip
    subst eyc185_2_1 eyc185_2_4
    have sd : SD [] (pul ι_wc5_1 D) (pul ι_wc5_1 D) := SD_refl
    have sn : SD [] (pul ι_wc5_1 N) (pul ι_wc5_1 N) := SD_refl
    have : F_c185 1 1 = F 4 1 := hS_c185 1 1 rfl
    refine hc185   _ _ (glu ι_wc5_1 D (pul ι_wc5_1 D)) (glu ι_wc5_1 N (pul ι_wc5_1 N)) (glu ι_wc5_1 F F_c185) (glu ι_wc5_1 A A_c185) _ _ ⟨HWs_call HX VPH_3 vs_wc5_1 hp H O, STC_call HT HX vs_wc5_1 hp O, hg0, PFI_glue (dl := []) hPF hS_c185 hA_c185 sd (by decide +kernel) (rexc_of (l := []) (by decide +kernel) ?_), ABS_glue hAB hS_c185 (by decide +kernel), NZ_glue hNZ vs_wc5_1 hp sn (by decide +kernel), hGI, ?_, ?_, ?_, ?_, ?_, ?_, ?_, ?_, ?_, ?_⟩ ⟨(STP0_call (STY_call vs_wc5_1 hp O) (sd 0 rfl) (RM_call vs_wc5_1 O)), unt1_of (x := 10) (by decide +kernel) (fun p hp => funext (hA_c185 p hp))⟩ lc185_0 lc185_1 lc185_3 lc185_4 (show (F_c185 1 1) ≤ 16384 by (rw [show F_c185 1 1 = F 4 1 from hS_c185 1 1 rfl]; assumption)) (show (F_c185 2 1) = 0 by assumption) (show (F_c185 2 4) = 0 by assumption)
    · intro e he h1 h2
      cases he
    · skip
      exact ⟨QF0_0_eq (EQD_glue hS_c185 hA_c185 sd sn (by decide +kernel)) f0_0, QF0_1_eq (EQD_glue hS_c185 hA_c185 sd sn (by decide +kernel)) f0_1, QF0_2_eq (EQD_glue hS_c185 hA_c185 sd sn (by decide +kernel)) f0_2, QF0_3_eq (EQD_glue hS_c185 hA_c185 sd sn (by decide +kernel)) f0_3, QF0_4_eq (EQD_glue hS_c185 hA_c185 sd sn (by decide +kernel)) f0_4, show 0 ≤ (F_c185 2 1) ∧ (F_c185 2 1) ≤ ((N 26 : Int)) ∧ ((N 26 : Int)) ≤ 65536 from (by assumption), QF0_6_eq (EQD_glue hS_c185 hA_c185 sd sn (by decide +kernel)) f0_6, QF0_7_eq (EQD_glue hS_c185 hA_c185 sd sn (by decide +kernel)) f0_7, QF0_8_eq (EQD_glue hS_c185 hA_c185 sd sn (by decide +kernel)) f0_8, QF0_9_eq (EQD_glue hS_c185 hA_c185 sd sn (by decide +kernel)) f0_9, QF0_10_eq (EQD_glue hS_c185 hA_c185 sd sn (by decide +kernel)) f0_10, QF0_11_eq (EQD_glue hS_c185 hA_c185 sd sn (by decide +kernel)) f0_11, QF0_12_eq (EQD_glue hS_c185 hA_c185 sd sn (by decide +kernel)) f0_12, QF0_13_eq (EQD_glue hS_c185 hA_c185 sd sn (by decide +kernel)) f0_13, QF0_14_eq (EQD_glue hS_c185 hA_c185 sd sn (by decide +kernel)) f0_14, QF0_15_eq (EQD_glue hS_c185 hA_c185 sd sn (by decide +kernel)) f0_15, QF0_16_eq (EQD_glue hS_c185 hA_c185 sd sn (by decide +kernel)) f0_16, QF0_17_eq (EQD_glue hS_c185 hA_c185 sd sn (by decide +kernel)) f0_17⟩
    · exact fun h => INV1_eq (EQD_glue hS_c185 hA_c185 sd sn (by decide +kernel)) (hI1 h)
    · exact fun h => INV2_eq (EQD_glue hS_c185 hA_c185 sd sn (by decide +kernel)) (hI2 h)
    · exact fun h => INV3_eq (EQD_glue hS_c185 hA_c185 sd sn (by decide +kernel)) (hI3 h)
    · exact fun h => INV4_eq (EQD_glue hS_c185 hA_c185 sd sn (by decide +kernel)) (hI4 h)
    · exact fun h => INV5_eq (EQD_glue hS_c185 hA_c185 sd sn (by decide +kernel)) (hI5 h)
    · exact fun h => INV6_eq (EQD_glue hS_c185 hA_c185 sd sn (by decide +kernel)) (hI6 h)
    · exact fun h => INV7_eq (EQD_glue hS_c185 hA_c185 sd sn (by decide +kernel)) (hI7 h)
    · exact fun h => INV8_eq (EQD_glue hS_c185 hA_c185 sd sn (by decide +kernel)) (hI8 h)
    · exact fun h => INV9_eq (EQD_glue hS_c185 hA_c185 sd sn (by decide +kernel)) (hI9 h)
  · skip
    have sd : SD [] (pul ι_wc5_1 D) (pul ι_wc5_1 D) := SD_refl
    have sn : SD [] (pul ι_wc5_1 N) (pul ι_wc5_1 N) := SD_refl
    refine k z _ (glu ι_wc5_1 D (pul ι_wc5_1 D)) (glu ι_wc5_1 N (pul ι_wc5_1 N)) (glu ι_wc5_1 F Fₚ) (glu ι_wc5_1 A Aₚ) _ _ ⟨HWs_call HX VPH_3 vs_wc5_1 hp Hₚ O, STC_call HT HX vs_wc5_1 hp O, hg0, PFI_glue (dl := []) hPF sf sa sd (by decide +kernel) (rexc_of (l := []) (by decide +kernel) ?_), ABS_glue hAB sf (by decide +kernel), NZ_glue hNZ vs_wc5_1 hp sn (by decide +kernel), hGI, ?_, ?_, ?_, ?_, ?_, ?_, ?_, ?_, ?_, ?_⟩ ⟨(STP0_call (STY_call vs_wc5_1 hp O) (sd 0 rfl) (RM_call vs_wc5_1 O)), unt1_of (x := 10) (by decide +kernel) (fun p hp => funext (sa p hp))⟩ (show inr z by assumption)
    · intro e he h1 h2
      cases he
    · skip
      exact ⟨QF0_0_eq (EQD_glue sf sa sd sn (by decide +kernel)) f0_0, QF0_1_eq (EQD_glue sf sa sd sn (by decide +kernel)) f0_1, QF0_2_eq (EQD_glue sf sa sd sn (by decide +kernel)) f0_2, QF0_3_eq (EQD_glue sf sa sd sn (by decide +kernel)) f0_3, QF0_4_eq (EQD_glue sf sa sd sn (by decide +kernel)) f0_4, show 0 ≤ (Fₚ 2 1) ∧ (Fₚ 2 1) ≤ ((N 26 : Int)) ∧ ((N 26 : Int)) ≤ 65536 from (by omega), QF0_6_eq (EQD_glue sf sa sd sn (by decide +kernel)) f0_6, QF0_7_eq (EQD_glue sf sa sd sn (by decide +kernel)) f0_7, QF0_8_eq (EQD_glue sf sa sd sn (by decide +kernel)) f0_8, QF0_9_eq (EQD_glue sf sa sd sn (by decide +kernel)) f0_9, QF0_10_eq (EQD_glue sf sa sd sn (by decide +kernel)) f0_10, QF0_11_eq (EQD_glue sf sa sd sn (by decide +kernel)) f0_11, QF0_12_eq (EQD_glue sf sa sd sn (by decide +kernel)) f0_12, QF0_13_eq (EQD_glue sf sa sd sn (by decide +kernel)) f0_13, QF0_14_eq (EQD_glue sf sa sd sn (by decide +kernel)) f0_14, QF0_15_eq (EQD_glue sf sa sd sn (by decide +kernel)) f0_15, QF0_16_eq (EQD_glue sf sa sd sn (by decide +kernel)) f0_16, QF0_17_eq (EQD_glue sf sa sd sn (by decide +kernel)) f0_17⟩
    · exact fun h => INV1_eq (EQD_glue sf sa sd sn (by decide +kernel)) (hI1 h)
    · exact fun h => INV2_eq (EQD_glue sf sa sd sn (by decide +kernel)) (hI2 h)
    · exact fun h => INV3_eq (EQD_glue sf sa sd sn (by decide +kernel)) (hI3 h)
    · exact fun h => INV4_eq (EQD_glue sf sa sd sn (by decide +kernel)) (hI4 h)
    · exact fun h => INV5_eq (EQD_glue sf sa sd sn (by decide +kernel)) (hI5 h)
    · exact fun h => INV6_eq (EQD_glue sf sa sd sn (by decide +kernel)) (hI6 h)
    · exact fun h => INV7_eq (EQD_glue sf sa sd sn (by decide +kernel)) (hI7 h)
    · exact fun h => INV8_eq (EQD_glue sf sa sd sn (by decide +kernel)) (hI8 h)
    · exact fun h => INV9_eq (EQD_glue sf sa sd sn (by decide +kernel)) (hI9 h)
def ι_wc5_2 : List Nat := [0, 6, 25, 26]
theorem vs_wc5_2 : VS VPH V17_vc5 ι_wc5_2 := VS_of (by decide +kernel)
set_option maxRecDepth 20000 in
theorem T_wc5_2 {g : Nat → Bool} {σ : rS} {D N : Nat → Nat} {F : hF} {A : hA} {d c s : Nat} {Q : wQ} (X : PHI g σ D N F A)  {x1 : Int} {ls : rO} (hl0 : rlook ls 0 = some (.ref (D 0))) (hl1 : rlook ls 1 = some (I x1)) (hl3 : rlook ls 3 = some (I (5))) (hl4 : rlook ls 4 = some (.ref (D 6))) (h0 : inr x1) (x_0 : (F 6 1) ≤ 16384) (hc185 : ∀ (ls : rO) (σₚ : rS) (Dₚ Nₚ : Nat → Nat) (Fₚ : hF) (Aₚ : hA) (cₚ sₚ : Nat), PHI g σₚ Dₚ Nₚ Fₚ Aₚ → STP g σ D N A c s g σₚ Dₚ Nₚ Aₚ cₚ sₚ → rlook ls 0 = some (.ref (Dₚ 0)) → rlook ls 1 = some (I (x1)) → rlook ls 3 = some (I (5)) → rlook ls 4 = some (.ref (Dₚ 6)) → ((Fₚ 6 1) ≤ 16384) → ((Fₚ 25 1) = 0) → ((Fₚ 25 4) = 0) → Ew 17 (d + 1) 185 ls [.ref (Dₚ 0)] σₚ cₚ sₚ Q) (k : ∀ (z : Int) (σₚ : rS) (Dₚ Nₚ : Nat → Nat) (Fₚ : hF) (Aₚ : hA) (cₚ sₚ : Nat), PHI g σₚ Dₚ Nₚ Fₚ Aₚ → STP g σ D N A c s g σₚ Dₚ Nₚ Aₚ cₚ sₚ → (inr z) → Q (some (I z)) σₚ cₚ sₚ) : Ew 17 (d + 1) 54 ls [] σ c s Q := by
  obtain ⟨HX, HT, hg0, hPF, hAB, hNZ, hGI, hI0, hI1, hI2, hI3, hI4, hI5, hI6, hI7, hI8, hI9⟩ := X
  have hset := SETI_f hI0.2.2.2.2.2.2.2.2.2.2.2.2.2.2.2.2.2
  have hJ0 := hI0
  unfold INV0 at hJ0
  obtain ⟨f0_0, f0_1, f0_2, f0_3, f0_4, f0_5, f0_6, f0_7, f0_8, f0_9, f0_10, f0_11, f0_12, f0_13, f0_14, f0_15, f0_16, f0_17⟩ := hJ0
  have hp : ∀ x, x < (V17_vc5).length → SPH g (ι_wc5_2.getD x 0) = true := SPH_of (gs := [0]) (by intro j hj; simp at hj; subst hj; exact hg0) rfl (by decide +kernel)
  refine C17_vc5 (D := pul ι_wc5_2 D) (N := pul ι_wc5_2 N) (F := pul ι_wc5_2 F) (A := pul ι_wc5_2 A) (HWs_sub HX vs_wc5_2 hp) (show F 0 5 = (D 25 : Int) from hPF (0, 0, 5, 25) (List.mem_of_getElem? (i := 24) rfl) hg0 hg0) (show F 25 0 = (D 26 : Int) from hPF (0, 25, 0, 26) (List.mem_of_getElem? (i := 25) rfl) hg0 hg0) (N 26 : Int) rfl (F 25 1) rfl  hl0 hl1 hl3 hl4 (show inr (x1) by assumption) (show 0 ≤ (F 25 1) ∧ (F 25 1) ≤ ((N 26 : Int)) ∧ ((N 26 : Int)) ≤ 65536 by assumption) (fun  ls σ F_c185 A_c185  lc185_0 lc185_1 lc185_3 lc185_4 H O hS_c185 hA_c185   yc185_2_1 eyc185_2_1 yc185_2_4 eyc185_2_4  jc185_0 jc185_1 jc185_2 => ?_) (fun z σₚ Fₚ Aₚ Hₚ O sf sa q0 q1 => ?_)
  · skip
    subst eyc185_2_1 eyc185_2_4
    have sd : SD [] (pul ι_wc5_2 D) (pul ι_wc5_2 D) := SD_refl
    have sn : SD [] (pul ι_wc5_2 N) (pul ι_wc5_2 N) := SD_refl
    have : F_c185 1 1 = F 6 1 := hS_c185 1 1 rfl
    refine hc185   _ _ (glu ι_wc5_2 D (pul ι_wc5_2 D)) (glu ι_wc5_2 N (pul ι_wc5_2 N)) (glu ι_wc5_2 F F_c185) (glu ι_wc5_2 A A_c185) _ _ ⟨HWs_call HX VPH_3 vs_wc5_2 hp H O, STC_call HT HX vs_wc5_2 hp O, hg0, PFI_glue (dl := []) hPF hS_c185 hA_c185 sd (by decide +kernel) (rexc_of (l := []) (by decide +kernel) ?_), ABS_glue hAB hS_c185 (by decide +kernel), NZ_glue hNZ vs_wc5_2 hp sn (by decide +kernel), hGI, ?_, ?_, ?_, ?_, ?_, ?_, ?_, ?_, ?_, ?_⟩ ⟨(STP0_call (STY_call vs_wc5_2 hp O) (sd 0 rfl) (RM_call vs_wc5_2 O)), unt1_of (x := 10) (by decide +kernel) (fun p hp => funext (hA_c185 p hp))⟩ lc185_0 lc185_1 lc185_3 lc185_4 (show (F_c185 1 1) ≤ 16384 by (rw [show F_c185 1 1 = F 6 1 from hS_c185 1 1 rfl]; assumption)) (show (F_c185 2 1) = 0 by assumption) (show (F_c185 2 4) = 0 by assumption)
    · intro e he h1 h2
      cases he
    · skip
      exact ⟨QF0_0_eq (EQD_glue hS_c185 hA_c185 sd sn (by decide +kernel)) f0_0, QF0_1_eq (EQD_glue hS_c185 hA_c185 sd sn (by decide +kernel)) f0_1, QF0_2_eq (EQD_glue hS_c185 hA_c185 sd sn (by decide +kernel)) f0_2, QF0_3_eq (EQD_glue hS_c185 hA_c185 sd sn (by decide +kernel)) f0_3, QF0_4_eq (EQD_glue hS_c185 hA_c185 sd sn (by decide +kernel)) f0_4, show 0 ≤ (F_c185 2 1) ∧ (F_c185 2 1) ≤ ((N 26 : Int)) ∧ ((N 26 : Int)) ≤ 65536 from (by assumption), QF0_6_eq (EQD_glue hS_c185 hA_c185 sd sn (by decide +kernel)) f0_6, QF0_7_eq (EQD_glue hS_c185 hA_c185 sd sn (by decide +kernel)) f0_7, QF0_8_eq (EQD_glue hS_c185 hA_c185 sd sn (by decide +kernel)) f0_8, QF0_9_eq (EQD_glue hS_c185 hA_c185 sd sn (by decide +kernel)) f0_9, QF0_10_eq (EQD_glue hS_c185 hA_c185 sd sn (by decide +kernel)) f0_10, QF0_11_eq (EQD_glue hS_c185 hA_c185 sd sn (by decide +kernel)) f0_11, QF0_12_eq (EQD_glue hS_c185 hA_c185 sd sn (by decide +kernel)) f0_12, QF0_13_eq (EQD_glue hS_c185 hA_c185 sd sn (by decide +kernel)) f0_13, QF0_14_eq (EQD_glue hS_c185 hA_c185 sd sn (by decide +kernel)) f0_14, QF0_15_eq (EQD_glue hS_c185 hA_c185 sd sn (by decide +kernel)) f0_15, QF0_16_eq (EQD_glue hS_c185 hA_c185 sd sn (by decide +kernel)) f0_16, QF0_17_eq (EQD_glue hS_c185 hA_c185 sd sn (by decide +kernel)) f0_17⟩
    · exact fun h => INV1_eq (EQD_glue hS_c185 hA_c185 sd sn (by decide +kernel)) (hI1 h)
    · exact fun h => INV2_eq (EQD_glue hS_c185 hA_c185 sd sn (by decide +kernel)) (hI2 h)
    · exact fun h => INV3_eq (EQD_glue hS_c185 hA_c185 sd sn (by decide +kernel)) (hI3 h)
    · exact fun h => INV4_eq (EQD_glue hS_c185 hA_c185 sd sn (by decide +kernel)) (hI4 h)
    · exact fun h => INV5_eq (EQD_glue hS_c185 hA_c185 sd sn (by decide +kernel)) (hI5 h)
    · exact fun h => INV6_eq (EQD_glue hS_c185 hA_c185 sd sn (by decide +kernel)) (hI6 h)
    · exact fun h => INV7_eq (EQD_glue hS_c185 hA_c185 sd sn (by decide +kernel)) (hI7 h)
    · exact fun h => INV8_eq (EQD_glue hS_c185 hA_c185 sd sn (by decide +kernel)) (hI8 h)
    · exact fun h => INV9_eq (EQD_glue hS_c185 hA_c185 sd sn (by decide +kernel)) (hI9 h)
  · skip
    have sd : SD [] (pul ι_wc5_2 D) (pul ι_wc5_2 D) := SD_refl
    have sn : SD [] (pul ι_wc5_2 N) (pul ι_wc5_2 N) := SD_refl
    refine k z _ (glu ι_wc5_2 D (pul ι_wc5_2 D)) (glu ι_wc5_2 N (pul ι_wc5_2 N)) (glu ι_wc5_2 F Fₚ) (glu ι_wc5_2 A Aₚ) _ _ ⟨HWs_call HX VPH_3 vs_wc5_2 hp Hₚ O, STC_call HT HX vs_wc5_2 hp O, hg0, PFI_glue (dl := []) hPF sf sa sd (by decide +kernel) (rexc_of (l := []) (by decide +kernel) ?_), ABS_glue hAB sf (by decide +kernel), NZ_glue hNZ vs_wc5_2 hp sn (by decide +kernel), hGI, ?_, ?_, ?_, ?_, ?_, ?_, ?_, ?_, ?_, ?_⟩ ⟨(STP0_call (STY_call vs_wc5_2 hp O) (sd 0 rfl) (RM_call vs_wc5_2 O)), unt1_of (x := 10) (by decide +kernel) (fun p hp => funext (sa p hp))⟩ (show inr z by assumption)
    · intro e he h1 h2
      cases he
    · skip
      exact ⟨QF0_0_eq (EQD_glue sf sa sd sn (by decide +kernel)) f0_0, QF0_1_eq (EQD_glue sf sa sd sn (by decide +kernel)) f0_1, QF0_2_eq (EQD_glue sf sa sd sn (by decide +kernel)) f0_2, QF0_3_eq (EQD_glue sf sa sd sn (by decide +kernel)) f0_3, QF0_4_eq (EQD_glue sf sa sd sn (by decide +kernel)) f0_4, show 0 ≤ (Fₚ 2 1) ∧ (Fₚ 2 1) ≤ ((N 26 : Int)) ∧ ((N 26 : Int)) ≤ 65536 from (by omega), QF0_6_eq (EQD_glue sf sa sd sn (by decide +kernel)) f0_6, QF0_7_eq (EQD_glue sf sa sd sn (by decide +kernel)) f0_7, QF0_8_eq (EQD_glue sf sa sd sn (by decide +kernel)) f0_8, QF0_9_eq (EQD_glue sf sa sd sn (by decide +kernel)) f0_9, QF0_10_eq (EQD_glue sf sa sd sn (by decide +kernel)) f0_10, QF0_11_eq (EQD_glue sf sa sd sn (by decide +kernel)) f0_11, QF0_12_eq (EQD_glue sf sa sd sn (by decide +kernel)) f0_12, QF0_13_eq (EQD_glue sf sa sd sn (by decide +kernel)) f0_13, QF0_14_eq (EQD_glue sf sa sd sn (by decide +kernel)) f0_14, QF0_15_eq (EQD_glue sf sa sd sn (by decide +kernel)) f0_15, QF0_16_eq (EQD_glue sf sa sd sn (by decide +kernel)) f0_16, QF0_17_eq (EQD_glue sf sa sd sn (by decide +kernel)) f0_17⟩
    · exact fun h => INV1_eq (EQD_glue sf sa sd sn (by decide +kernel)) (hI1 h)
    · exact fun h => INV2_eq (EQD_glue sf sa sd sn (by decide +kernel)) (hI2 h)
    · exact fun h => INV3_eq (EQD_glue sf sa sd sn (by decide +kernel)) (hI3 h)
    · exact fun h => INV4_eq (EQD_glue sf sa sd sn (by decide +kernel)) (hI4 h)
    · exact fun h => INV5_eq (EQD_glue sf sa sd sn (by decide +kernel)) (hI5 h)
    · exact fun h => INV6_eq (EQD_glue sf sa sd sn (by decide +kernel)) (hI6 h)
    · exact fun h => INV7_eq (EQD_glue sf sa sd sn (by decide +kernel)) (hI7 h)
    · exact fun h => INV8_eq (EQD_glue sf sa sd sn (by decide +kernel)) (hI8 h)
    · exact fun h => INV9_eq (EQD_glue sf sa sd sn (by decide +kernel)) (hI9 h)
def ι_wc5_3 : List Nat := [0, 8, 25, 26]
theorem vs_wc5_3 : VS VPH V17_vc5 ι_wc5_3 := VS_of (by decide +kernel)
set_option maxRecDepth 20000 in
theorem T_wc5_3 {g : Nat → Bool} {σ : rS} {D N : Nat → Nat} {F : hF} {A : hA} {d c s : Nat} {Q : wQ} (X : PHI g σ D N F A)  {x1 : Int} {ls : rO} (hl0 : rlook ls 0 = some (.ref (D 0))) (hl1 : rlook ls 1 = some (I x1)) (hl3 : rlook ls 3 = some (I (5))) (hl4 : rlook ls 4 = some (.ref (D 8))) (h0 : inr x1) (x_0 : (F 8 1) ≤ 16384) (hc185 : ∀ (ls : rO) (σₚ : rS) (Dₚ Nₚ : Nat → Nat) (Fₚ : hF) (Aₚ : hA) (cₚ sₚ : Nat), PHI g σₚ Dₚ Nₚ Fₚ Aₚ → STP g σ D N A c s g σₚ Dₚ Nₚ Aₚ cₚ sₚ → rlook ls 0 = some (.ref (Dₚ 0)) → rlook ls 1 = some (I (x1)) → rlook ls 3 = some (I (5)) → rlook ls 4 = some (.ref (Dₚ 8)) → ((Fₚ 8 1) ≤ 16384) → ((Fₚ 25 1) = 0) → ((Fₚ 25 4) = 0) → Ew 17 (d + 1) 185 ls [.ref (Dₚ 0)] σₚ cₚ sₚ Q) (k : ∀ (z : Int) (σₚ : rS) (Dₚ Nₚ : Nat → Nat) (Fₚ : hF) (Aₚ : hA) (cₚ sₚ : Nat), PHI g σₚ Dₚ Nₚ Fₚ Aₚ → STP g σ D N A c s g σₚ Dₚ Nₚ Aₚ cₚ sₚ → (inr z) → Q (some (I z)) σₚ cₚ sₚ) : Ew 17 (d + 1) 54 ls [] σ c s Q := by
  obtain ⟨HX, HT, hg0, hPF, hAB, hNZ, hGI, hI0, hI1, hI2, hI3, hI4, hI5, hI6, hI7, hI8, hI9⟩ := X
  have hset := SETI_f hI0.2.2.2.2.2.2.2.2.2.2.2.2.2.2.2.2.2
  have hJ0 := hI0
  unfold INV0 at hJ0
  obtain ⟨f0_0, f0_1, f0_2, f0_3, f0_4, f0_5, f0_6, f0_7, f0_8, f0_9, f0_10, f0_11, f0_12, f0_13, f0_14, f0_15, f0_16, f0_17⟩ := hJ0
  have hp : ∀ x, x < (V17_vc5).length → SPH g (ι_wc5_3.getD x 0) = true := SPH_of (gs := [0]) (by intro j hj; simp at hj; subst hj; exact hg0) rfl (by decide +kernel)
  refine C17_vc5 (D := pul ι_wc5_3 D) (N := pul ι_wc5_3 N) (F := pul ι_wc5_3 F) (A := pul ι_wc5_3 A) (HWs_sub HX vs_wc5_3 hp) (show F 0 5 = (D 25 : Int) from hPF (0, 0, 5, 25) (List.mem_of_getElem? (i := 24) rfl) hg0 hg0) (show F 25 0 = (D 26 : Int) from hPF (0, 25, 0, 26) (List.mem_of_getElem? (i := 25) rfl) hg0 hg0) (N 26 : Int) rfl (F 25 1) rfl  hl0 hl1 hl3 hl4 (show inr (x1) by assumption) (show 0 ≤ (F 25 1) ∧ (F 25 1) ≤ ((N 26 : Int)) ∧ ((N 26 : Int)) ≤ 65536 by assumption) (fun  ls σ F_c185 A_c185  lc185_0 lc185_1 lc185_3 lc185_4 H O hS_c185 hA_c185   yc185_2_1 eyc185_2_1 yc185_2_4 eyc185_2_4  jc185_0 jc185_1 jc185_2 => ?_) (fun z σₚ Fₚ Aₚ Hₚ O sf sa q0 q1 => ?_)
  · skip
    subst eyc185_2_1 eyc185_2_4
    have sd : SD [] (pul ι_wc5_3 D) (pul ι_wc5_3 D) := SD_refl
    have sn : SD [] (pul ι_wc5_3 N) (pul ι_wc5_3 N) := SD_refl
    have : F_c185 1 1 = F 8 1 := hS_c185 1 1 rfl
    refine hc185   _ _ (glu ι_wc5_3 D (pul ι_wc5_3 D)) (glu ι_wc5_3 N (pul ι_wc5_3 N)) (glu ι_wc5_3 F F_c185) (glu ι_wc5_3 A A_c185) _ _ ⟨HWs_call HX VPH_3 vs_wc5_3 hp H O, STC_call HT HX vs_wc5_3 hp O, hg0, PFI_glue (dl := []) hPF hS_c185 hA_c185 sd (by decide +kernel) (rexc_of (l := []) (by decide +kernel) ?_), ABS_glue hAB hS_c185 (by decide +kernel), NZ_glue hNZ vs_wc5_3 hp sn (by decide +kernel), hGI, ?_, ?_, ?_, ?_, ?_, ?_, ?_, ?_, ?_, ?_⟩ ⟨(STP0_call (STY_call vs_wc5_3 hp O) (sd 0 rfl) (RM_call vs_wc5_3 O)), unt1_of (x := 10) (by decide +kernel) (fun p hp => funext (hA_c185 p hp))⟩ lc185_0 lc185_1 lc185_3 lc185_4 (show (F_c185 1 1) ≤ 16384 by (rw [show F_c185 1 1 = F 8 1 from hS_c185 1 1 rfl]; assumption)) (show (F_c185 2 1) = 0 by assumption) (show (F_c185 2 4) = 0 by assumption)
    · intro e he h1 h2
      cases he
    · skip
      exact ⟨QF0_0_eq (EQD_glue hS_c185 hA_c185 sd sn (by decide +kernel)) f0_0, QF0_1_eq (EQD_glue hS_c185 hA_c185 sd sn (by decide +kernel)) f0_1, QF0_2_eq (EQD_glue hS_c185 hA_c185 sd sn (by decide +kernel)) f0_2, QF0_3_eq (EQD_glue hS_c185 hA_c185 sd sn (by decide +kernel)) f0_3, QF0_4_eq (EQD_glue hS_c185 hA_c185 sd sn (by decide +kernel)) f0_4, show 0 ≤ (F_c185 2 1) ∧ (F_c185 2 1) ≤ ((N 26 : Int)) ∧ ((N 26 : Int)) ≤ 65536 from (by assumption), QF0_6_eq (EQD_glue hS_c185 hA_c185 sd sn (by decide +kernel)) f0_6, QF0_7_eq (EQD_glue hS_c185 hA_c185 sd sn (by decide +kernel)) f0_7, QF0_8_eq (EQD_glue hS_c185 hA_c185 sd sn (by decide +kernel)) f0_8, QF0_9_eq (EQD_glue hS_c185 hA_c185 sd sn (by decide +kernel)) f0_9, QF0_10_eq (EQD_glue hS_c185 hA_c185 sd sn (by decide +kernel)) f0_10, QF0_11_eq (EQD_glue hS_c185 hA_c185 sd sn (by decide +kernel)) f0_11, QF0_12_eq (EQD_glue hS_c185 hA_c185 sd sn (by decide +kernel)) f0_12, QF0_13_eq (EQD_glue hS_c185 hA_c185 sd sn (by decide +kernel)) f0_13, QF0_14_eq (EQD_glue hS_c185 hA_c185 sd sn (by decide +kernel)) f0_14, QF0_15_eq (EQD_glue hS_c185 hA_c185 sd sn (by decide +kernel)) f0_15, QF0_16_eq (EQD_glue hS_c185 hA_c185 sd sn (by decide +kernel)) f0_16, QF0_17_eq (EQD_glue hS_c185 hA_c185 sd sn (by decide +kernel)) f0_17⟩
    · exact fun h => INV1_eq (EQD_glue hS_c185 hA_c185 sd sn (by decide +kernel)) (hI1 h)
    · exact fun h => INV2_eq (EQD_glue hS_c185 hA_c185 sd sn (by decide +kernel)) (hI2 h)
    · exact fun h => INV3_eq (EQD_glue hS_c185 hA_c185 sd sn (by decide +kernel)) (hI3 h)
    · exact fun h => INV4_eq (EQD_glue hS_c185 hA_c185 sd sn (by decide +kernel)) (hI4 h)
    · exact fun h => INV5_eq (EQD_glue hS_c185 hA_c185 sd sn (by decide +kernel)) (hI5 h)
    · exact fun h => INV6_eq (EQD_glue hS_c185 hA_c185 sd sn (by decide +kernel)) (hI6 h)
    · exact fun h => INV7_eq (EQD_glue hS_c185 hA_c185 sd sn (by decide +kernel)) (hI7 h)
    · exact fun h => INV8_eq (EQD_glue hS_c185 hA_c185 sd sn (by decide +kernel)) (hI8 h)
    · exact fun h => INV9_eq (EQD_glue hS_c185 hA_c185 sd sn (by decide +kernel)) (hI9 h)
  · skip
    have sd : SD [] (pul ι_wc5_3 D) (pul ι_wc5_3 D) := SD_refl
    have sn : SD [] (pul ι_wc5_3 N) (pul ι_wc5_3 N) := SD_refl
    refine k z _ (glu ι_wc5_3 D (pul ι_wc5_3 D)) (glu ι_wc5_3 N (pul ι_wc5_3 N)) (glu ι_wc5_3 F Fₚ) (glu ι_wc5_3 A Aₚ) _ _ ⟨HWs_call HX VPH_3 vs_wc5_3 hp Hₚ O, STC_call HT HX vs_wc5_3 hp O, hg0, PFI_glue (dl := []) hPF sf sa sd (by decide +kernel) (rexc_of (l := []) (by decide +kernel) ?_), ABS_glue hAB sf (by decide +kernel), NZ_glue hNZ vs_wc5_3 hp sn (by decide +kernel), hGI, ?_, ?_, ?_, ?_, ?_, ?_, ?_, ?_, ?_, ?_⟩ ⟨(STP0_call (STY_call vs_wc5_3 hp O) (sd 0 rfl) (RM_call vs_wc5_3 O)), unt1_of (x := 10) (by decide +kernel) (fun p hp => funext (sa p hp))⟩ (show inr z by assumption)
    · intro e he h1 h2
      cases he
    · skip
      exact ⟨QF0_0_eq (EQD_glue sf sa sd sn (by decide +kernel)) f0_0, QF0_1_eq (EQD_glue sf sa sd sn (by decide +kernel)) f0_1, QF0_2_eq (EQD_glue sf sa sd sn (by decide +kernel)) f0_2, QF0_3_eq (EQD_glue sf sa sd sn (by decide +kernel)) f0_3, QF0_4_eq (EQD_glue sf sa sd sn (by decide +kernel)) f0_4, show 0 ≤ (Fₚ 2 1) ∧ (Fₚ 2 1) ≤ ((N 26 : Int)) ∧ ((N 26 : Int)) ≤ 65536 from (by omega), QF0_6_eq (EQD_glue sf sa sd sn (by decide +kernel)) f0_6, QF0_7_eq (EQD_glue sf sa sd sn (by decide +kernel)) f0_7, QF0_8_eq (EQD_glue sf sa sd sn (by decide +kernel)) f0_8, QF0_9_eq (EQD_glue sf sa sd sn (by decide +kernel)) f0_9, QF0_10_eq (EQD_glue sf sa sd sn (by decide +kernel)) f0_10, QF0_11_eq (EQD_glue sf sa sd sn (by decide +kernel)) f0_11, QF0_12_eq (EQD_glue sf sa sd sn (by decide +kernel)) f0_12, QF0_13_eq (EQD_glue sf sa sd sn (by decide +kernel)) f0_13, QF0_14_eq (EQD_glue sf sa sd sn (by decide +kernel)) f0_14, QF0_15_eq (EQD_glue sf sa sd sn (by decide +kernel)) f0_15, QF0_16_eq (EQD_glue sf sa sd sn (by decide +kernel)) f0_16, QF0_17_eq (EQD_glue sf sa sd sn (by decide +kernel)) f0_17⟩
    · exact fun h => INV1_eq (EQD_glue sf sa sd sn (by decide +kernel)) (hI1 h)
    · exact fun h => INV2_eq (EQD_glue sf sa sd sn (by decide +kernel)) (hI2 h)
    · exact fun h => INV3_eq (EQD_glue sf sa sd sn (by decide +kernel)) (hI3 h)
    · exact fun h => INV4_eq (EQD_glue sf sa sd sn (by decide +kernel)) (hI4 h)
    · exact fun h => INV5_eq (EQD_glue sf sa sd sn (by decide +kernel)) (hI5 h)
    · exact fun h => INV6_eq (EQD_glue sf sa sd sn (by decide +kernel)) (hI6 h)
    · exact fun h => INV7_eq (EQD_glue sf sa sd sn (by decide +kernel)) (hI7 h)
    · exact fun h => INV8_eq (EQD_glue sf sa sd sn (by decide +kernel)) (hI8 h)
    · exact fun h => INV9_eq (EQD_glue sf sa sd sn (by decide +kernel)) (hI9 h)
def ι_wg : List Nat := [0, 1, 2, 3, 4, 5, 6, 7, 8, 9, 25, 26]
theorem vs_wg : VS VPH V17_vg ι_wg := VS_of (by decide +kernel)
set_option maxRecDepth 20000 in
theorem T_wg {g : Nat → Bool} {σ : rS} {D N : Nat → Nat} {F : hF} {A : hA} {d c s : Nat} {Q : wQ} (X : PHI g σ D N F A)  {x1 : Int} {ls : rO} (hl0 : rlook ls 0 = some (.ref (D 0))) (hl1 : rlook ls 1 = some (I x1)) (h0 : inr x1) (x_0 : 0 ≤ x1 ∧ x1 ≤ 3) (k : ∀ (z : Int) (σₚ : rS) (Dₚ Nₚ : Nat → Nat) (Fₚ : hF) (Aₚ : hA) (cₚ sₚ : Nat), PHI g σₚ Dₚ Nₚ Fₚ Aₚ → STP g σ D N A c s g σₚ Dₚ Nₚ Aₚ cₚ sₚ → (inr z) → Q (some (I z)) σₚ cₚ sₚ) : Ew 17 (d + 4) 337 ls [] σ c s Q := by
  obtain ⟨HX, HT, hg0, hPF, hAB, hNZ, hGI, hI0, hI1, hI2, hI3, hI4, hI5, hI6, hI7, hI8, hI9⟩ := X
  have hset := SETI_f hI0.2.2.2.2.2.2.2.2.2.2.2.2.2.2.2.2.2
  have hJ0 := hI0
  unfold INV0 at hJ0
  obtain ⟨f0_0, f0_1, f0_2, f0_3, f0_4, f0_5, f0_6, f0_7, f0_8, f0_9, f0_10, f0_11, f0_12, f0_13, f0_14, f0_15, f0_16, f0_17⟩ := hJ0
  have hp : ∀ x, x < (V17_vg).length → SPH g (ι_wg.getD x 0) = true := SPH_of (gs := [0]) (by intro j hj; simp at hj; subst hj; exact hg0) rfl (by decide +kernel)
  refine C17_vg (D := pul ι_wg D) (N := pul ι_wg N) (F := pul ι_wg F) (A := pul ι_wg A) (HWs_sub HX vs_wg hp) (show F 0 0 = (D 1 : Int) from hPF (0, 0, 0, 1) (List.mem_of_getElem? (i := 0) rfl) hg0 hg0) (show A 1 0 = (D 2 : Int) from hPF (1, 1, 0, 2) (List.mem_of_getElem? (i := 1) rfl) hg0 hg0) (show F 2 0 = (D 3 : Int) from hPF (0, 2, 0, 3) (List.mem_of_getElem? (i := 2) rfl) hg0 hg0) (show A 1 1 = (D 4 : Int) from hPF (1, 1, 1, 4) (List.mem_of_getElem? (i := 3) rfl) hg0 hg0) (show F 4 0 = (D 5 : Int) from hPF (0, 4, 0, 5) (List.mem_of_getElem? (i := 4) rfl) hg0 hg0) (show A 1 2 = (D 6 : Int) from hPF (1, 1, 2, 6) (List.mem_of_getElem? (i := 5) rfl) hg0 hg0) (show F 6 0 = (D 7 : Int) from hPF (0, 6, 0, 7) (List.mem_of_getElem? (i := 6) rfl) hg0 hg0) (show A 1 3 = (D 8 : Int) from hPF (1, 1, 3, 8) (List.mem_of_getElem? (i := 7) rfl) hg0 hg0) (show F 8 0 = (D 9 : Int) from hPF (0, 8, 0, 9) (List.mem_of_getElem? (i := 8) rfl) hg0 hg0) (show F 0 5 = (D 25 : Int) from hPF (0, 0, 5, 25) (List.mem_of_getElem? (i := 24) rfl) hg0 hg0) (show F 25 0 = (D 26 : Int) from hPF (0, 25, 0, 26) (List.mem_of_getElem? (i := 25) rfl) hg0 hg0) (N 1 : Int) rfl (N 3 : Int) rfl (N 5 : Int) rfl (N 7 : Int) rfl (N 9 : Int) rfl (N 26 : Int) rfl (F 2 1) rfl (F 4 1) rfl (F 6 1) rfl (F 8 1) rfl (F 25 1) rfl  hl0 hl1 (show inr (x1) by assumption) (show ((N 1 : Int)) = 4 by assumption) (show 0 ≤ (F 2 1) ∧ (F 2 1) ≤ ((N 3 : Int)) ∧ ((N 3 : Int)) ≤ 65536 by assumption) (show 0 ≤ (F 4 1) ∧ (F 4 1) ≤ ((N 5 : Int)) ∧ ((N 5 : Int)) ≤ 65536 by assumption) (show 0 ≤ (F 6 1) ∧ (F 6 1) ≤ ((N 7 : Int)) ∧ ((N 7 : Int)) ≤ 65536 by assumption) (show 0 ≤ (F 8 1) ∧ (F 8 1) ≤ ((N 9 : Int)) ∧ ((N 9 : Int)) ≤ 65536 by assumption) (show 0 ≤ (F 25 1) ∧ (F 25 1) ≤ ((N 26 : Int)) ∧ ((N 26 : Int)) ≤ 65536 by assumption) (show 0 ≤ (x1) ∧ (x1) ≤ 3 by assumption) (fun z σₚ Dₚ Nₚ Fₚ Aₚ cₚ sₚ Hₚ O sd sn sf sa pm3 pm5 pm7 pm9 m3 em3 m5 em5 m7 em7 m9 em9 y2_1 ey2_1 y4_1 ey4_1 y6_1 ey6_1 y8_1 ey8_1 q0 q1 q2 q3 q4 q5 => ?_)
  · skip
    subst em3 em5 em7 em9 ey2_1 ey4_1 ey6_1 ey8_1
    refine k z _ (glu ι_wg D Dₚ) (glu ι_wg N Nₚ) (glu ι_wg F Fₚ) (glu ι_wg A Aₚ) _ _ ⟨HWs_call HX VPH_3 vs_wg hp Hₚ O, STC_call HT HX vs_wg hp O, hg0, PFI_glue (dl := [3, 5, 7, 9]) hPF sf sa sd (by decide +kernel) (rexc_of (l := [(0, 2, 0, 3), (0, 4, 0, 5), (0, 6, 0, 7), (0, 8, 0, 9)]) (by decide +kernel) ?_), ABS_glue hAB sf (by decide +kernel), NZ_glue hNZ vs_wg hp sn (by decide +kernel), hGI, ?_, ?_, ?_, ?_, ?_, ?_, ?_, ?_, ?_, ?_⟩ ⟨(STP0_call (STY_call vs_wg hp O) (sd 0 rfl) (RM_call vs_wg O)), unt1_of (x := 10) (by decide +kernel) (fun p hp => funext (sa p hp))⟩ (show inr z by assumption)
    · intro e he h1 h2
      simp only [List.mem_cons, List.not_mem_nil, or_false] at he
      rcases he with rfl | rfl | rfl | rfl
      · exact pm3
      · exact pm5
      · exact pm7
      · exact pm9
    · skip
      exact ⟨show 0 ≤ (Fₚ 2 1) ∧ (Fₚ 2 1) ≤ ((Nₚ 3 : Int)) ∧ ((Nₚ 3 : Int)) ≤ 65536 from (by assumption), show 0 ≤ (Fₚ 4 1) ∧ (Fₚ 4 1) ≤ ((Nₚ 5 : Int)) ∧ ((Nₚ 5 : Int)) ≤ 65536 from (by assumption), show 0 ≤ (Fₚ 6 1) ∧ (Fₚ 6 1) ≤ ((Nₚ 7 : Int)) ∧ ((Nₚ 7 : Int)) ≤ 65536 from (by assumption), show 0 ≤ (Fₚ 8 1) ∧ (Fₚ 8 1) ≤ ((Nₚ 9 : Int)) ∧ ((Nₚ 9 : Int)) ≤ 65536 from (by assumption), QF0_4_eq (EQD_glue sf sa sd sn (by decide +kernel)) f0_4, QF0_5_eq (EQD_glue sf sa sd sn (by decide +kernel)) f0_5, QF0_6_eq (EQD_glue sf sa sd sn (by decide +kernel)) f0_6, QF0_7_eq (EQD_glue sf sa sd sn (by decide +kernel)) f0_7, QF0_8_eq (EQD_glue sf sa sd sn (by decide +kernel)) f0_8, QF0_9_eq (EQD_glue sf sa sd sn (by decide +kernel)) f0_9, QF0_10_eq (EQD_glue sf sa sd sn (by decide +kernel)) f0_10, QF0_11_eq (EQD_glue sf sa sd sn (by decide +kernel)) f0_11, QF0_12_eq (EQD_glue sf sa sd sn (by decide +kernel)) f0_12, QF0_13_eq (EQD_glue sf sa sd sn (by decide +kernel)) f0_13, QF0_14_eq (EQD_glue sf sa sd sn (by decide +kernel)) f0_14, QF0_15_eq (EQD_glue sf sa sd sn (by decide +kernel)) f0_15, QF0_16_eq (EQD_glue sf sa sd sn (by decide +kernel)) f0_16, QF0_17_eq (EQD_glue sf sa sd sn (by decide +kernel)) f0_17⟩
    · exact fun h => INV1_eq (EQD_glue sf sa sd sn (by decide +kernel)) (hI1 h)
    · exact fun h => INV2_eq (EQD_glue sf sa sd sn (by decide +kernel)) (hI2 h)
    · exact fun h => INV3_eq (EQD_glue sf sa sd sn (by decide +kernel)) (hI3 h)
    · exact fun h => INV4_eq (EQD_glue sf sa sd sn (by decide +kernel)) (hI4 h)
    · exact fun h => INV5_eq (EQD_glue sf sa sd sn (by decide +kernel)) (hI5 h)
    · exact fun h => INV6_eq (EQD_glue sf sa sd sn (by decide +kernel)) (hI6 h)
    · exact fun h => INV7_eq (EQD_glue sf sa sd sn (by decide +kernel)) (hI7 h)
    · exact fun h => INV8_eq (EQD_glue sf sa sd sn (by decide +kernel)) (hI8 h)
    · exact fun h => INV9_eq (EQD_glue sf sa sd sn (by decide +kernel)) (hI9 h)
def ι_we0_0 : List Nat := [0, 2, 25, 26, 27, 28, 3, 32, 10]
theorem vs_we0_0 : VS VPH V17_ve0 ι_we0_0 := VS_of (by decide +kernel)
set_option maxRecDepth 20000 in
theorem T_we0_0 {g : Nat → Bool} {σ : rS} {D N : Nat → Nat} {F : hF} {A : hA} {d c s : Nat} {Q : wQ} (X : PHI g σ D N F A)  {x1 y0 : Int} {ls : rO} (hl0 : rlook ls 0 = some (.ref (D 0))) (hl1 : rlook ls 1 = some (I x1)) (hl3 : rlook ls 3 = some (I (0))) (hl4 : rlook ls 4 = some (.ref (D 2))) (h0 : inr x1) (h1 : inr y0) (x_0 : (F 2 1) ≤ 16384) (hc337 : ∀ (ls : rO) (σₚ : rS) (Dₚ Nₚ : Nat → Nat) (Fₚ : hF) (Aₚ : hA) (cₚ sₚ : Nat), PHI g σₚ Dₚ Nₚ Fₚ Aₚ → STP g σ D N A c s g σₚ Dₚ Nₚ Aₚ cₚ sₚ → rlook ls 0 = some (.ref (Dₚ 0)) → rlook ls 1 = some (I (x1)) → Ew 17 (d + 3) 337 ls [] σₚ cₚ sₚ Q) (k : ∀ (z : Int) (σₚ : rS) (Dₚ Nₚ : Nat → Nat) (Fₚ : hF) (Aₚ : hA) (cₚ sₚ : Nat), PHI g σₚ Dₚ Nₚ Fₚ Aₚ → STP g σ D N A c s g σₚ Dₚ Nₚ Aₚ cₚ sₚ → (inr z) → Q (some (I z)) σₚ cₚ sₚ) : Ew 17 (d + 3) 239 ls [I y0] σ c s Q := by
  obtain ⟨HX, HT, hg0, hPF, hAB, hNZ, hGI, hI0, hI1, hI2, hI3, hI4, hI5, hI6, hI7, hI8, hI9⟩ := X
  have hset := SETI_f hI0.2.2.2.2.2.2.2.2.2.2.2.2.2.2.2.2.2
  have hJ0 := hI0
  unfold INV0 at hJ0
  obtain ⟨f0_0, f0_1, f0_2, f0_3, f0_4, f0_5, f0_6, f0_7, f0_8, f0_9, f0_10, f0_11, f0_12, f0_13, f0_14, f0_15, f0_16, f0_17⟩ := hJ0
  have hp : ∀ x, x < (V17_ve0).length → SPH g (ι_we0_0.getD x 0) = true := SPH_of (gs := [0]) (by intro j hj; simp at hj; subst hj; exact hg0) rfl (by decide +kernel)
  refine C17_ve0 (D := pul ι_we0_0 D) (N := pul ι_we0_0 N) (F := pul ι_we0_0 F) (A := pul ι_we0_0 A) (HWs_sub HX vs_we0_0 hp) (show F 0 5 = (D 25 : Int) from hPF (0, 0, 5, 25) (List.mem_of_getElem? (i := 24) rfl) hg0 hg0) (show F 25 0 = (D 26 : Int) from hPF (0, 25, 0, 26) (List.mem_of_getElem? (i := 25) rfl) hg0 hg0) (show F 0 6 = (D 27 : Int) from hPF (0, 0, 6, 27) (List.mem_of_getElem? (i := 26) rfl) hg0 hg0) (show F 27 0 = (D 28 : Int) from hPF (0, 27, 0, 28) (List.mem_of_getElem? (i := 27) rfl) hg0 hg0) (show F 2 0 = (D 3 : Int) from hPF (0, 2, 0, 3) (List.mem_of_getElem? (i := 2) rfl) hg0 hg0) (show F 0 16 = (D 32 : Int) from hPF (0, 0, 16, 32) (List.mem_of_getElem? (i := 31) rfl) hg0 hg0) (show F 0 1 = (D 10 : Int) from hPF (0, 0, 1, 10) (List.mem_of_getElem? (i := 9) rfl) hg0 hg0) (N 26 : Int) rfl (N 28 : Int) rfl (N 3 : Int) rfl (N 32 : Int) rfl (N 10 : Int) rfl (F 2 1) rfl (F 25 1) rfl (F 27 1) rfl (A 10) rfl hl0 hl1 hl3 hl4 (show inr (x1) by assumption) (show inr y0 by assumption) (show 0 ≤ (F 25 1) ∧ (F 25 1) ≤ ((N 26 : Int)) ∧ ((N 26 : Int)) ≤ 65536 by assumption) (show 0 ≤ (F 27 1) ∧ (F 27 1) ≤ ((N 28 : Int)) ∧ ((N 28 : Int)) ≤ 65536 by assumption) (show 0 ≤ (F 2 1) ∧ (F 2 1) ≤ ((N 3 : Int)) ∧ ((N 3 : Int)) ≤ 65536 by assumption) (show (F 2 1) ≤ 16384 by assumption) (show ((N 32 : Int)) = 2 by assumption) (show 1 ≤ ((A 10)) 2 ∧ ((A 10)) 2 ≤ 65536 by omega) (show 0 ≤ ((A 10)) 8 ∧ ((A 10)) 8 ≤ 11 by omega) (show 0 ≤ ((A 10)) 6 ∧ ((A 10)) 6 ≤ 255 by omega) (show ((N 10 : Int)) = 10 by assumption) (fun  ls σ F_c337 A_c337  lc337_0 lc337_1 H O hS_c337 hA_c337     jc337_0 => ?_) (fun z σₚ Fₚ Aₚ Hₚ O sf sa q0 q1 => ?_)
  · skip
    have sd : SD [] (pul ι_we0_0 D) (pul ι_we0_0 D) := SD_refl
    have sn : SD [] (pul ι_we0_0 N) (pul ι_we0_0 N) := SD_refl
    refine hc337   _ _ (glu ι_we0_0 D (pul ι_we0_0 D)) (glu ι_we0_0 N (pul ι_we0_0 N)) (glu ι_we0_0 F F_c337) (glu ι_we0_0 A A_c337) _ _ ⟨HWs_call HX VPH_3 vs_we0_0 hp H O, STC_call HT HX vs_we0_0 hp O, hg0, PFI_glue (dl := []) hPF hS_c337 hA_c337 sd (by decide +kernel) (rexc_of (l := []) (by decide +kernel) ?_), ABS_glue hAB hS_c337 (by decide +kernel), NZ_glue hNZ vs_we0_0 hp sn (by decide +kernel), hGI, ?_, ?_, ?_, ?_, ?_, ?_, ?_, ?_, ?_, ?_⟩ ⟨(STP0_call (STY_call vs_we0_0 hp O) (sd 0 rfl) (RM_call vs_we0_0 O)), unt1_of (x := 10) (by decide +kernel) (fun p hp => funext (hA_c337 p hp))⟩ lc337_0 lc337_1
    · intro e he h1 h2
      cases he
    · exact INV0_eq (EQD_glue hS_c337 hA_c337 sd sn (by decide +kernel)) hI0
    · exact fun h => INV1_eq (EQD_glue hS_c337 hA_c337 sd sn (by decide +kernel)) (hI1 h)
    · exact fun h => INV2_eq (EQD_glue hS_c337 hA_c337 sd sn (by decide +kernel)) (hI2 h)
    · exact fun h => INV3_eq (EQD_glue hS_c337 hA_c337 sd sn (by decide +kernel)) (hI3 h)
    · exact fun h => INV4_eq (EQD_glue hS_c337 hA_c337 sd sn (by decide +kernel)) (hI4 h)
    · exact fun h => INV5_eq (EQD_glue hS_c337 hA_c337 sd sn (by decide +kernel)) (hI5 h)
    · exact fun h => INV6_eq (EQD_glue hS_c337 hA_c337 sd sn (by decide +kernel)) (hI6 h)
    · exact fun h => INV7_eq (EQD_glue hS_c337 hA_c337 sd sn (by decide +kernel)) (hI7 h)
    · exact fun h => INV8_eq (EQD_glue hS_c337 hA_c337 sd sn (by decide +kernel)) (hI8 h)
    · exact fun h => INV9_eq (EQD_glue hS_c337 hA_c337 sd sn (by decide +kernel)) (hI9 h)
  · skip
    have sd : SD [] (pul ι_we0_0 D) (pul ι_we0_0 D) := SD_refl
    have sn : SD [] (pul ι_we0_0 N) (pul ι_we0_0 N) := SD_refl
    refine k z _ (glu ι_we0_0 D (pul ι_we0_0 D)) (glu ι_we0_0 N (pul ι_we0_0 N)) (glu ι_we0_0 F Fₚ) (glu ι_we0_0 A Aₚ) _ _ ⟨HWs_call HX VPH_3 vs_we0_0 hp Hₚ O, STC_call HT HX vs_we0_0 hp O, hg0, PFI_glue (dl := []) hPF sf sa sd (by decide +kernel) (rexc_of (l := []) (by decide +kernel) ?_), ABS_glue hAB sf (by decide +kernel), NZ_glue hNZ vs_we0_0 hp sn (by decide +kernel), hGI, ?_, ?_, ?_, ?_, ?_, ?_, ?_, ?_, ?_, ?_⟩ ⟨(STP0_call (STY_call vs_we0_0 hp O) (sd 0 rfl) (RM_call vs_we0_0 O)), unt1_of (x := 10) (by decide +kernel) (fun p hp => funext (sa p hp))⟩ (show inr z by assumption)
    · intro e he h1 h2
      cases he
    · exact INV0_eq (EQD_glue sf sa sd sn (by decide +kernel)) hI0
    · exact fun h => INV1_eq (EQD_glue sf sa sd sn (by decide +kernel)) (hI1 h)
    · exact fun h => INV2_eq (EQD_glue sf sa sd sn (by decide +kernel)) (hI2 h)
    · exact fun h => INV3_eq (EQD_glue sf sa sd sn (by decide +kernel)) (hI3 h)
    · exact fun h => INV4_eq (EQD_glue sf sa sd sn (by decide +kernel)) (hI4 h)
    · exact fun h => INV5_eq (EQD_glue sf sa sd sn (by decide +kernel)) (hI5 h)
    · exact fun h => INV6_eq (EQD_glue sf sa sd sn (by decide +kernel)) (hI6 h)
    · exact fun h => INV7_eq (EQD_glue sf sa sd sn (by decide +kernel)) (hI7 h)
    · exact fun h => INV8_eq (EQD_glue sf sa sd sn (by decide +kernel)) (hI8 h)
    · exact fun h => INV9_eq (EQD_glue sf sa sd sn (by decide +kernel)) (hI9 h)
def ι_we1_0 : List Nat := [0, 2, 25, 26, 27, 28, 3, 32, 10]
theorem vs_we1_0 : VS VPH V17_ve1 ι_we1_0 := VS_of (by decide +kernel)
set_option maxRecDepth 20000 in
theorem T_we1_0 {g : Nat → Bool} {σ : rS} {D N : Nat → Nat} {F : hF} {A : hA} {d c s : Nat} {Q : wQ} (X : PHI g σ D N F A)  {x1 y0 : Int} {ls : rO} (hl0 : rlook ls 0 = some (.ref (D 0))) (hl1 : rlook ls 1 = some (I x1)) (hl3 : rlook ls 3 = some (I (1))) (hl4 : rlook ls 4 = some (.ref (D 2))) (h0 : inr x1) (h1 : inr y0) (x_0 : (F 2 1) ≤ 16384) (hc337 : ∀ (ls : rO) (σₚ : rS) (Dₚ Nₚ : Nat → Nat) (Fₚ : hF) (Aₚ : hA) (cₚ sₚ : Nat), PHI g σₚ Dₚ Nₚ Fₚ Aₚ → STP g σ D N A c s g σₚ Dₚ Nₚ Aₚ cₚ sₚ → rlook ls 0 = some (.ref (Dₚ 0)) → rlook ls 1 = some (I (x1)) → Ew 17 (d + 3) 337 ls [] σₚ cₚ sₚ Q) (k : ∀ (z : Int) (σₚ : rS) (Dₚ Nₚ : Nat → Nat) (Fₚ : hF) (Aₚ : hA) (cₚ sₚ : Nat), PHI g σₚ Dₚ Nₚ Fₚ Aₚ → STP g σ D N A c s g σₚ Dₚ Nₚ Aₚ cₚ sₚ → (inr z) → Q (some (I z)) σₚ cₚ sₚ) : Ew 17 (d + 3) 239 ls [I y0] σ c s Q := by
  obtain ⟨HX, HT, hg0, hPF, hAB, hNZ, hGI, hI0, hI1, hI2, hI3, hI4, hI5, hI6, hI7, hI8, hI9⟩ := X
  have hset := SETI_f hI0.2.2.2.2.2.2.2.2.2.2.2.2.2.2.2.2.2
  have hJ0 := hI0
  unfold INV0 at hJ0
  obtain ⟨f0_0, f0_1, f0_2, f0_3, f0_4, f0_5, f0_6, f0_7, f0_8, f0_9, f0_10, f0_11, f0_12, f0_13, f0_14, f0_15, f0_16, f0_17⟩ := hJ0
  have hp : ∀ x, x < (V17_ve1).length → SPH g (ι_we1_0.getD x 0) = true := SPH_of (gs := [0]) (by intro j hj; simp at hj; subst hj; exact hg0) rfl (by decide +kernel)
  refine C17_ve1 (D := pul ι_we1_0 D) (N := pul ι_we1_0 N) (F := pul ι_we1_0 F) (A := pul ι_we1_0 A) (HWs_sub HX vs_we1_0 hp) (show F 0 5 = (D 25 : Int) from hPF (0, 0, 5, 25) (List.mem_of_getElem? (i := 24) rfl) hg0 hg0) (show F 25 0 = (D 26 : Int) from hPF (0, 25, 0, 26) (List.mem_of_getElem? (i := 25) rfl) hg0 hg0) (show F 0 6 = (D 27 : Int) from hPF (0, 0, 6, 27) (List.mem_of_getElem? (i := 26) rfl) hg0 hg0) (show F 27 0 = (D 28 : Int) from hPF (0, 27, 0, 28) (List.mem_of_getElem? (i := 27) rfl) hg0 hg0) (show F 2 0 = (D 3 : Int) from hPF (0, 2, 0, 3) (List.mem_of_getElem? (i := 2) rfl) hg0 hg0) (show F 0 16 = (D 32 : Int) from hPF (0, 0, 16, 32) (List.mem_of_getElem? (i := 31) rfl) hg0 hg0) (show F 0 1 = (D 10 : Int) from hPF (0, 0, 1, 10) (List.mem_of_getElem? (i := 9) rfl) hg0 hg0) (N 26 : Int) rfl (N 28 : Int) rfl (N 3 : Int) rfl (N 32 : Int) rfl (N 10 : Int) rfl (F 2 1) rfl (F 25 1) rfl (F 27 1) rfl (A 10) rfl hl0 hl1 hl3 hl4 (show inr (x1) by assumption) (show inr y0 by assumption) (show 0 ≤ (F 25 1) ∧ (F 25 1) ≤ ((N 26 : Int)) ∧ ((N 26 : Int)) ≤ 65536 by assumption) (show 0 ≤ (F 27 1) ∧ (F 27 1) ≤ ((N 28 : Int)) ∧ ((N 28 : Int)) ≤ 65536 by assumption) (show 0 ≤ (F 2 1) ∧ (F 2 1) ≤ ((N 3 : Int)) ∧ ((N 3 : Int)) ≤ 65536 by assumption) (show (F 2 1) ≤ 16384 by assumption) (show ((N 32 : Int)) = 2 by assumption) (show 1 ≤ ((A 10)) 2 ∧ ((A 10)) 2 ≤ 65536 by omega) (show 0 ≤ ((A 10)) 8 ∧ ((A 10)) 8 ≤ 11 by omega) (show 0 ≤ ((A 10)) 6 ∧ ((A 10)) 6 ≤ 255 by omega) (show ((N 10 : Int)) = 10 by assumption) (fun  ls σ F_c337 A_c337  lc337_0 lc337_1 H O hS_c337 hA_c337     jc337_0 => ?_) (fun z σₚ Fₚ Aₚ Hₚ O sf sa q0 q1 => ?_)
  · skip
    have sd : SD [] (pul ι_we1_0 D) (pul ι_we1_0 D) := SD_refl
    have sn : SD [] (pul ι_we1_0 N) (pul ι_we1_0 N) := SD_refl
    refine hc337   _ _ (glu ι_we1_0 D (pul ι_we1_0 D)) (glu ι_we1_0 N (pul ι_we1_0 N)) (glu ι_we1_0 F F_c337) (glu ι_we1_0 A A_c337) _ _ ⟨HWs_call HX VPH_3 vs_we1_0 hp H O, STC_call HT HX vs_we1_0 hp O, hg0, PFI_glue (dl := []) hPF hS_c337 hA_c337 sd (by decide +kernel) (rexc_of (l := []) (by decide +kernel) ?_), ABS_glue hAB hS_c337 (by decide +kernel), NZ_glue hNZ vs_we1_0 hp sn (by decide +kernel), hGI, ?_, ?_, ?_, ?_, ?_, ?_, ?_, ?_, ?_, ?_⟩ ⟨(STP0_call (STY_call vs_we1_0 hp O) (sd 0 rfl) (RM_call vs_we1_0 O)), unt1_of (x := 10) (by decide +kernel) (fun p hp => funext (hA_c337 p hp))⟩ lc337_0 lc337_1
    · intro e he h1 h2
      cases he
    · exact INV0_eq (EQD_glue hS_c337 hA_c337 sd sn (by decide +kernel)) hI0
    · exact fun h => INV1_eq (EQD_glue hS_c337 hA_c337 sd sn (by decide +kernel)) (hI1 h)
    · exact fun h => INV2_eq (EQD_glue hS_c337 hA_c337 sd sn (by decide +kernel)) (hI2 h)
    · exact fun h => INV3_eq (EQD_glue hS_c337 hA_c337 sd sn (by decide +kernel)) (hI3 h)
    · exact fun h => INV4_eq (EQD_glue hS_c337 hA_c337 sd sn (by decide +kernel)) (hI4 h)
    · exact fun h => INV5_eq (EQD_glue hS_c337 hA_c337 sd sn (by decide +kernel)) (hI5 h)
    · exact fun h => INV6_eq (EQD_glue hS_c337 hA_c337 sd sn (by decide +kernel)) (hI6 h)
    · exact fun h => INV7_eq (EQD_glue hS_c337 hA_c337 sd sn (by decide +kernel)) (hI7 h)
    · exact fun h => INV8_eq (EQD_glue hS_c337 hA_c337 sd sn (by decide +kernel)) (hI8 h)
    · exact fun h => INV9_eq (EQD_glue hS_c337 hA_c337 sd sn (by decide +kernel)) (hI9 h)
  · skip
    have sd : SD [] (pul ι_we1_0 D) (pul ι_we1_0 D) := SD_refl
    have sn : SD [] (pul ι_we1_0 N) (pul ι_we1_0 N) := SD_refl
    refine k z _ (glu ι_we1_0 D (pul ι_we1_0 D)) (glu ι_we1_0 N (pul ι_we1_0 N)) (glu ι_we1_0 F Fₚ) (glu ι_we1_0 A Aₚ) _ _ ⟨HWs_call HX VPH_3 vs_we1_0 hp Hₚ O, STC_call HT HX vs_we1_0 hp O, hg0, PFI_glue (dl := []) hPF sf sa sd (by decide +kernel) (rexc_of (l := []) (by decide +kernel) ?_), ABS_glue hAB sf (by decide +kernel), NZ_glue hNZ vs_we1_0 hp sn (by decide +kernel), hGI, ?_, ?_, ?_, ?_, ?_, ?_, ?_, ?_, ?_, ?_⟩ ⟨(STP0_call (STY_call vs_we1_0 hp O) (sd 0 rfl) (RM_call vs_we1_0 O)), unt1_of (x := 10) (by decide +kernel) (fun p hp => funext (sa p hp))⟩ (show inr z by assumption)
    · intro e he h1 h2
      cases he
    · exact INV0_eq (EQD_glue sf sa sd sn (by decide +kernel)) hI0
    · exact fun h => INV1_eq (EQD_glue sf sa sd sn (by decide +kernel)) (hI1 h)
    · exact fun h => INV2_eq (EQD_glue sf sa sd sn (by decide +kernel)) (hI2 h)
    · exact fun h => INV3_eq (EQD_glue sf sa sd sn (by decide +kernel)) (hI3 h)
    · exact fun h => INV4_eq (EQD_glue sf sa sd sn (by decide +kernel)) (hI4 h)
    · exact fun h => INV5_eq (EQD_glue sf sa sd sn (by decide +kernel)) (hI5 h)
    · exact fun h => INV6_eq (EQD_glue sf sa sd sn (by decide +kernel)) (hI6 h)
    · exact fun h => INV7_eq (EQD_glue sf sa sd sn (by decide +kernel)) (hI7 h)
    · exact fun h => INV8_eq (EQD_glue sf sa sd sn (by decide +kernel)) (hI8 h)
    · exact fun h => INV9_eq (EQD_glue sf sa sd sn (by decide +kernel)) (hI9 h)
def ι_we2_0 : List Nat := [0, 2, 25, 26, 27, 28, 3, 32, 10]
theorem vs_we2_0 : VS VPH V17_ve2 ι_we2_0 := VS_of (by decide +kernel)
set_option maxRecDepth 20000 in
theorem T_we2_0 {g : Nat → Bool} {σ : rS} {D N : Nat → Nat} {F : hF} {A : hA} {d c s : Nat} {Q : wQ} (X : PHI g σ D N F A)  {x1 y0 : Int} {ls : rO} (hl0 : rlook ls 0 = some (.ref (D 0))) (hl1 : rlook ls 1 = some (I x1)) (hl3 : rlook ls 3 = some (I (2))) (hl4 : rlook ls 4 = some (.ref (D 2))) (h0 : inr x1) (h1 : inr y0) (x_0 : (F 2 1) ≤ 16384) (hc337 : ∀ (ls : rO) (σₚ : rS) (Dₚ Nₚ : Nat → Nat) (Fₚ : hF) (Aₚ : hA) (cₚ sₚ : Nat), PHI g σₚ Dₚ Nₚ Fₚ Aₚ → STP g σ D N A c s g σₚ Dₚ Nₚ Aₚ cₚ sₚ → rlook ls 0 = some (.ref (Dₚ 0)) → rlook ls 1 = some (I (x1)) → Ew 17 (d + 3) 337 ls [] σₚ cₚ sₚ Q) (k : ∀ (z : Int) (σₚ : rS) (Dₚ Nₚ : Nat → Nat) (Fₚ : hF) (Aₚ : hA) (cₚ sₚ : Nat), PHI g σₚ Dₚ Nₚ Fₚ Aₚ → STP g σ D N A c s g σₚ Dₚ Nₚ Aₚ cₚ sₚ → (inr z) → Q (some (I z)) σₚ cₚ sₚ) : Ew 17 (d + 3) 239 ls [I y0] σ c s Q := by
  obtain ⟨HX, HT, hg0, hPF, hAB, hNZ, hGI, hI0, hI1, hI2, hI3, hI4, hI5, hI6, hI7, hI8, hI9⟩ := X
  have hset := SETI_f hI0.2.2.2.2.2.2.2.2.2.2.2.2.2.2.2.2.2
  have hJ0 := hI0
  unfold INV0 at hJ0
  obtain ⟨f0_0, f0_1, f0_2, f0_3, f0_4, f0_5, f0_6, f0_7, f0_8, f0_9, f0_10, f0_11, f0_12, f0_13, f0_14, f0_15, f0_16, f0_17⟩ := hJ0
  have hp : ∀ x, x < (V17_ve2).length → SPH g (ι_we2_0.getD x 0) = true := SPH_of (gs := [0]) (by intro j hj; simp at hj; subst hj; exact hg0) rfl (by decide +kernel)
  refine C17_ve2 (D := pul ι_we2_0 D) (N := pul ι_we2_0 N) (F := pul ι_we2_0 F) (A := pul ι_we2_0 A) (HWs_sub HX vs_we2_0 hp) (show F 0 5 = (D 25 : Int) from hPF (0, 0, 5, 25) (List.mem_of_getElem? (i := 24) rfl) hg0 hg0) (show F 25 0 = (D 26 : Int) from hPF (0, 25, 0, 26) (List.mem_of_getElem? (i := 25) rfl) hg0 hg0) (show F 0 6 = (D 27 : Int) from hPF (0, 0, 6, 27) (List.mem_of_getElem? (i := 26) rfl) hg0 hg0) (show F 27 0 = (D 28 : Int) from hPF (0, 27, 0, 28) (List.mem_of_getElem? (i := 27) rfl) hg0 hg0) (show F 2 0 = (D 3 : Int) from hPF (0, 2, 0, 3) (List.mem_of_getElem? (i := 2) rfl) hg0 hg0) (show F 0 16 = (D 32 : Int) from hPF (0, 0, 16, 32) (List.mem_of_getElem? (i := 31) rfl) hg0 hg0) (show F 0 1 = (D 10 : Int) from hPF (0, 0, 1, 10) (List.mem_of_getElem? (i := 9) rfl) hg0 hg0) (N 26 : Int) rfl (N 28 : Int) rfl (N 3 : Int) rfl (N 32 : Int) rfl (N 10 : Int) rfl (F 2 1) rfl (F 25 1) rfl (F 27 1) rfl (A 10) rfl hl0 hl1 hl3 hl4 (show inr (x1) by assumption) (show inr y0 by assumption) (show 0 ≤ (F 25 1) ∧ (F 25 1) ≤ ((N 26 : Int)) ∧ ((N 26 : Int)) ≤ 65536 by assumption) (show 0 ≤ (F 27 1) ∧ (F 27 1) ≤ ((N 28 : Int)) ∧ ((N 28 : Int)) ≤ 65536 by assumption) (show 0 ≤ (F 2 1) ∧ (F 2 1) ≤ ((N 3 : Int)) ∧ ((N 3 : Int)) ≤ 65536 by assumption) (show (F 2 1) ≤ 16384 by assumption) (show ((N 32 : Int)) = 2 by assumption) (show 1 ≤ ((A 10)) 2 ∧ ((A 10)) 2 ≤ 65536 by omega) (show 0 ≤ ((A 10)) 8 ∧ ((A 10)) 8 ≤ 11 by omega) (show 0 ≤ ((A 10)) 6 ∧ ((A 10)) 6 ≤ 255 by omega) (show ((N 10 : Int)) = 10 by assumption) (fun  ls σ F_c337 A_c337  lc337_0 lc337_1 H O hS_c337 hA_c337     jc337_0 => ?_) (fun z σₚ Fₚ Aₚ Hₚ O sf sa q0 q1 => ?_)
  · skip
    have sd : SD [] (pul ι_we2_0 D) (pul ι_we2_0 D) := SD_refl
    have sn : SD [] (pul ι_we2_0 N) (pul ι_we2_0 N) := SD_refl
    refine hc337   _ _ (glu ι_we2_0 D (pul ι_we2_0 D)) (glu ι_we2_0 N (pul ι_we2_0 N)) (glu ι_we2_0 F F_c337) (glu ι_we2_0 A A_c337) _ _ ⟨HWs_call HX VPH_3 vs_we2_0 hp H O, STC_call HT HX vs_we2_0 hp O, hg0, PFI_glue (dl := []) hPF hS_c337 hA_c337 sd (by decide +kernel) (rexc_of (l := []) (by decide +kernel) ?_), ABS_glue hAB hS_c337 (by decide +kernel), NZ_glue hNZ vs_we2_0 hp sn (by decide +kernel), hGI, ?_, ?_, ?_, ?_, ?_, ?_, ?_, ?_, ?_, ?_⟩ ⟨(STP0_call (STY_call vs_we2_0 hp O) (sd 0 rfl) (RM_call vs_we2_0 O)), unt1_of (x := 10) (by decide +kernel) (fun p hp => funext (hA_c337 p hp))⟩ lc337_0 lc337_1
    · intro e he h1 h2
      cases he
    · exact INV0_eq (EQD_glue hS_c337 hA_c337 sd sn (by decide +kernel)) hI0
    · exact fun h => INV1_eq (EQD_glue hS_c337 hA_c337 sd sn (by decide +kernel)) (hI1 h)
    · exact fun h => INV2_eq (EQD_glue hS_c337 hA_c337 sd sn (by decide +kernel)) (hI2 h)
    · exact fun h => INV3_eq (EQD_glue hS_c337 hA_c337 sd sn (by decide +kernel)) (hI3 h)
    · exact fun h => INV4_eq (EQD_glue hS_c337 hA_c337 sd sn (by decide +kernel)) (hI4 h)
    · exact fun h => INV5_eq (EQD_glue hS_c337 hA_c337 sd sn (by decide +kernel)) (hI5 h)
    · exact fun h => INV6_eq (EQD_glue hS_c337 hA_c337 sd sn (by decide +kernel)) (hI6 h)
    · exact fun h => INV7_eq (EQD_glue hS_c337 hA_c337 sd sn (by decide +kernel)) (hI7 h)
    · exact fun h => INV8_eq (EQD_glue hS_c337 hA_c337 sd sn (by decide +kernel)) (hI8 h)
    · exact fun h => INV9_eq (EQD_glue hS_c337 hA_c337 sd sn (by decide +kernel)) (hI9 h)
  · skip
    have sd : SD [] (pul ι_we2_0 D) (pul ι_we2_0 D) := SD_refl
    have sn : SD [] (pul ι_we2_0 N) (pul ι_we2_0 N) := SD_refl
    refine k z _ (glu ι_we2_0 D (pul ι_we2_0 D)) (glu ι_we2_0 N (pul ι_we2_0 N)) (glu ι_we2_0 F Fₚ) (glu ι_we2_0 A Aₚ) _ _ ⟨HWs_call HX VPH_3 vs_we2_0 hp Hₚ O, STC_call HT HX vs_we2_0 hp O, hg0, PFI_glue (dl := []) hPF sf sa sd (by decide +kernel) (rexc_of (l := []) (by decide +kernel) ?_), ABS_glue hAB sf (by decide +kernel), NZ_glue hNZ vs_we2_0 hp sn (by decide +kernel), hGI, ?_, ?_, ?_, ?_, ?_, ?_, ?_, ?_, ?_, ?_⟩ ⟨(STP0_call (STY_call vs_we2_0 hp O) (sd 0 rfl) (RM_call vs_we2_0 O)), unt1_of (x := 10) (by decide +kernel) (fun p hp => funext (sa p hp))⟩ (show inr z by assumption)
    · intro e he h1 h2
      cases he
    · exact INV0_eq (EQD_glue sf sa sd sn (by decide +kernel)) hI0
    · exact fun h => INV1_eq (EQD_glue sf sa sd sn (by decide +kernel)) (hI1 h)
    · exact fun h => INV2_eq (EQD_glue sf sa sd sn (by decide +kernel)) (hI2 h)
    · exact fun h => INV3_eq (EQD_glue sf sa sd sn (by decide +kernel)) (hI3 h)
    · exact fun h => INV4_eq (EQD_glue sf sa sd sn (by decide +kernel)) (hI4 h)
    · exact fun h => INV5_eq (EQD_glue sf sa sd sn (by decide +kernel)) (hI5 h)
    · exact fun h => INV6_eq (EQD_glue sf sa sd sn (by decide +kernel)) (hI6 h)
    · exact fun h => INV7_eq (EQD_glue sf sa sd sn (by decide +kernel)) (hI7 h)
    · exact fun h => INV8_eq (EQD_glue sf sa sd sn (by decide +kernel)) (hI8 h)
    · exact fun h => INV9_eq (EQD_glue sf sa sd sn (by decide +kernel)) (hI9 h)
def ι_we3_0 : List Nat := [0, 2, 25, 26, 27, 28, 3, 32, 10]
theorem vs_we3_0 : VS VPH V17_ve3 ι_we3_0 := VS_of (by decide +kernel)
set_option maxRecDepth 20000 in
theorem T_we3_0 {g : Nat → Bool} {σ : rS} {D N : Nat → Nat} {F : hF} {A : hA} {d c s : Nat} {Q : wQ} (X : PHI g σ D N F A)  {x1 y0 : Int} {ls : rO} (hl0 : rlook ls 0 = some (.ref (D 0))) (hl1 : rlook ls 1 = some (I x1)) (hl3 : rlook ls 3 = some (I (3))) (hl4 : rlook ls 4 = some (.ref (D 2))) (h0 : inr x1) (h1 : inr y0) (x_0 : (F 2 1) ≤ 16384) (hc337 : ∀ (ls : rO) (σₚ : rS) (Dₚ Nₚ : Nat → Nat) (Fₚ : hF) (Aₚ : hA) (cₚ sₚ : Nat), PHI g σₚ Dₚ Nₚ Fₚ Aₚ → STP g σ D N A c s g σₚ Dₚ Nₚ Aₚ cₚ sₚ → rlook ls 0 = some (.ref (Dₚ 0)) → rlook ls 1 = some (I (x1)) → Ew 17 (d + 3) 337 ls [] σₚ cₚ sₚ Q) (k : ∀ (z : Int) (σₚ : rS) (Dₚ Nₚ : Nat → Nat) (Fₚ : hF) (Aₚ : hA) (cₚ sₚ : Nat), PHI g σₚ Dₚ Nₚ Fₚ Aₚ → STP g σ D N A c s g σₚ Dₚ Nₚ Aₚ cₚ sₚ → (inr z) → Q (some (I z)) σₚ cₚ sₚ) : Ew 17 (d + 3) 239 ls [I y0] σ c s Q := by
  obtain ⟨HX, HT, hg0, hPF, hAB, hNZ, hGI, hI0, hI1, hI2, hI3, hI4, hI5, hI6, hI7, hI8, hI9⟩ := X
  have hset := SETI_f hI0.2.2.2.2.2.2.2.2.2.2.2.2.2.2.2.2.2
  have hJ0 := hI0
  unfold INV0 at hJ0
  obtain ⟨f0_0, f0_1, f0_2, f0_3, f0_4, f0_5, f0_6, f0_7, f0_8, f0_9, f0_10, f0_11, f0_12, f0_13, f0_14, f0_15, f0_16, f0_17⟩ := hJ0
  have hp : ∀ x, x < (V17_ve3).length → SPH g (ι_we3_0.getD x 0) = true := SPH_of (gs := [0]) (by intro j hj; simp at hj; subst hj; exact hg0) rfl (by decide +kernel)
  refine C17_ve3 (D := pul ι_we3_0 D) (N := pul ι_we3_0 N) (F := pul ι_we3_0 F) (A := pul ι_we3_0 A) (HWs_sub HX vs_we3_0 hp) (show F 0 5 = (D 25 : Int) from hPF (0, 0, 5, 25) (List.mem_of_getElem? (i := 24) rfl) hg0 hg0) (show F 25 0 = (D 26 : Int) from hPF (0, 25, 0, 26) (List.mem_of_getElem? (i := 25) rfl) hg0 hg0) (show F 0 6 = (D 27 : Int) from hPF (0, 0, 6, 27) (List.mem_of_getElem? (i := 26) rfl) hg0 hg0) (show F 27 0 = (D 28 : Int) from hPF (0, 27, 0, 28) (List.mem_of_getElem? (i := 27) rfl) hg0 hg0) (show F 2 0 = (D 3 : Int) from hPF (0, 2, 0, 3) (List.mem_of_getElem? (i := 2) rfl) hg0 hg0) (show F 0 16 = (D 32 : Int) from hPF (0, 0, 16, 32) (List.mem_of_getElem? (i := 31) rfl) hg0 hg0) (show F 0 1 = (D 10 : Int) from hPF (0, 0, 1, 10) (List.mem_of_getElem? (i := 9) rfl) hg0 hg0) (N 26 : Int) rfl (N 28 : Int) rfl (N 3 : Int) rfl (N 32 : Int) rfl (N 10 : Int) rfl (F 2 1) rfl (F 25 1) rfl (F 27 1) rfl (A 10) rfl hl0 hl1 hl3 hl4 (show inr (x1) by assumption) (show inr y0 by assumption) (show 0 ≤ (F 25 1) ∧ (F 25 1) ≤ ((N 26 : Int)) ∧ ((N 26 : Int)) ≤ 65536 by assumption) (show 0 ≤ (F 27 1) ∧ (F 27 1) ≤ ((N 28 : Int)) ∧ ((N 28 : Int)) ≤ 65536 by assumption) (show 0 ≤ (F 2 1) ∧ (F 2 1) ≤ ((N 3 : Int)) ∧ ((N 3 : Int)) ≤ 65536 by assumption) (show (F 2 1) ≤ 16384 by assumption) (show ((N 32 : Int)) = 2 by assumption) (show 1 ≤ ((A 10)) 2 ∧ ((A 10)) 2 ≤ 65536 by omega) (show 0 ≤ ((A 10)) 8 ∧ ((A 10)) 8 ≤ 11 by omega) (show 0 ≤ ((A 10)) 6 ∧ ((A 10)) 6 ≤ 255 by omega) (show ((N 10 : Int)) = 10 by assumption) (fun  ls σ F_c337 A_c337  lc337_0 lc337_1 H O hS_c337 hA_c337     jc337_0 => ?_) (fun z σₚ Fₚ Aₚ Hₚ O sf sa q0 q1 => ?_)
  · skip
    have sd : SD [] (pul ι_we3_0 D) (pul ι_we3_0 D) := SD_refl
    have sn : SD [] (pul ι_we3_0 N) (pul ι_we3_0 N) := SD_refl
    refine hc337   _ _ (glu ι_we3_0 D (pul ι_we3_0 D)) (glu ι_we3_0 N (pul ι_we3_0 N)) (glu ι_we3_0 F F_c337) (glu ι_we3_0 A A_c337) _ _ ⟨HWs_call HX VPH_3 vs_we3_0 hp H O, STC_call HT HX vs_we3_0 hp O, hg0, PFI_glue (dl := []) hPF hS_c337 hA_c337 sd (by decide +kernel) (rexc_of (l := []) (by decide +kernel) ?_), ABS_glue hAB hS_c337 (by decide +kernel), NZ_glue hNZ vs_we3_0 hp sn (by decide +kernel), hGI, ?_, ?_, ?_, ?_, ?_, ?_, ?_, ?_, ?_, ?_⟩ ⟨(STP0_call (STY_call vs_we3_0 hp O) (sd 0 rfl) (RM_call vs_we3_0 O)), unt1_of (x := 10) (by decide +kernel) (fun p hp => funext (hA_c337 p hp))⟩ lc337_0 lc337_1
    · intro e he h1 h2
      cases he
    · exact INV0_eq (EQD_glue hS_c337 hA_c337 sd sn (by decide +kernel)) hI0
    · exact fun h => INV1_eq (EQD_glue hS_c337 hA_c337 sd sn (by decide +kernel)) (hI1 h)
    · exact fun h => INV2_eq (EQD_glue hS_c337 hA_c337 sd sn (by decide +kernel)) (hI2 h)
    · exact fun h => INV3_eq (EQD_glue hS_c337 hA_c337 sd sn (by decide +kernel)) (hI3 h)
    · exact fun h => INV4_eq (EQD_glue hS_c337 hA_c337 sd sn (by decide +kernel)) (hI4 h)
    · exact fun h => INV5_eq (EQD_glue hS_c337 hA_c337 sd sn (by decide +kernel)) (hI5 h)
    · exact fun h => INV6_eq (EQD_glue hS_c337 hA_c337 sd sn (by decide +kernel)) (hI6 h)
    · exact fun h => INV7_eq (EQD_glue hS_c337 hA_c337 sd sn (by decide +kernel)) (hI7 h)
    · exact fun h => INV8_eq (EQD_glue hS_c337 hA_c337 sd sn (by decide +kernel)) (hI8 h)
    · exact fun h => INV9_eq (EQD_glue hS_c337 hA_c337 sd sn (by decide +kernel)) (hI9 h)
  · skip
    have sd : SD [] (pul ι_we3_0 D) (pul ι_we3_0 D) := SD_refl
    have sn : SD [] (pul ι_we3_0 N) (pul ι_we3_0 N) := SD_refl
    refine k z _ (glu ι_we3_0 D (pul ι_we3_0 D)) (glu ι_we3_0 N (pul ι_we3_0 N)) (glu ι_we3_0 F Fₚ) (glu ι_we3_0 A Aₚ) _ _ ⟨HWs_call HX VPH_3 vs_we3_0 hp Hₚ O, STC_call HT HX vs_we3_0 hp O, hg0, PFI_glue (dl := []) hPF sf sa sd (by decide +kernel) (rexc_of (l := []) (by decide +kernel) ?_), ABS_glue hAB sf (by decide +kernel), NZ_glue hNZ vs_we3_0 hp sn (by decide +kernel), hGI, ?_, ?_, ?_, ?_, ?_, ?_, ?_, ?_, ?_, ?_⟩ ⟨(STP0_call (STY_call vs_we3_0 hp O) (sd 0 rfl) (RM_call vs_we3_0 O)), unt1_of (x := 10) (by decide +kernel) (fun p hp => funext (sa p hp))⟩ (show inr z by assumption)
    · intro e he h1 h2
      cases he
    · exact INV0_eq (EQD_glue sf sa sd sn (by decide +kernel)) hI0
    · exact fun h => INV1_eq (EQD_glue sf sa sd sn (by decide +kernel)) (hI1 h)
    · exact fun h => INV2_eq (EQD_glue sf sa sd sn (by decide +kernel)) (hI2 h)
    · exact fun h => INV3_eq (EQD_glue sf sa sd sn (by decide +kernel)) (hI3 h)
    · exact fun h => INV4_eq (EQD_glue sf sa sd sn (by decide +kernel)) (hI4 h)
    · exact fun h => INV5_eq (EQD_glue sf sa sd sn (by decide +kernel)) (hI5 h)
    · exact fun h => INV6_eq (EQD_glue sf sa sd sn (by decide +kernel)) (hI6 h)
    · exact fun h => INV7_eq (EQD_glue sf sa sd sn (by decide +kernel)) (hI7 h)
    · exact fun h => INV8_eq (EQD_glue sf sa sd sn (by decide +kernel)) (hI8 h)
    · exact fun h => INV9_eq (EQD_glue sf sa sd sn (by decide +kernel)) (hI9 h)
def ι_we4_0 : List Nat := [0, 2, 25, 26, 27, 28, 3, 32, 29, 75, 199, 10]
theorem vs_we4_0 : VS VPH V17_ve4 ι_we4_0 := VS_of (by decide +kernel)
set_option maxRecDepth 20000 in
theorem T_we4_0 {g : Nat → Bool} {σ : rS} {D N : Nat → Nat} {F : hF} {A : hA} {d c s : Nat} {Q : wQ} (X : PHI g σ D N F A) (hg5 : g 5 = true) {x1 y0 : Int} {ls : rO} (hl0 : rlook ls 0 = some (.ref (D 0))) (hl1 : rlook ls 1 = some (I x1)) (hl3 : rlook ls 3 = some (I (4))) (hl4 : rlook ls 4 = some (.ref (D 2))) (h0 : inr x1) (h1 : inr y0) (x_0 : (F 2 1) ≤ 16384) (hc337 : ∀ (ls : rO) (σₚ : rS) (Dₚ Nₚ : Nat → Nat) (Fₚ : hF) (Aₚ : hA) (cₚ sₚ : Nat), PHI g σₚ Dₚ Nₚ Fₚ Aₚ → STP g σ D N A c s g σₚ Dₚ Nₚ Aₚ cₚ sₚ → rlook ls 0 = some (.ref (Dₚ 0)) → rlook ls 1 = some (I (x1)) → Ew 17 (d + 3) 337 ls [] σₚ cₚ sₚ Q) (k : ∀ (z : Int) (σₚ : rS) (Dₚ Nₚ : Nat → Nat) (Fₚ : hF) (Aₚ : hA) (cₚ sₚ : Nat), PHI g σₚ Dₚ Nₚ Fₚ Aₚ → STP g σ D N A c s g σₚ Dₚ Nₚ Aₚ cₚ sₚ → (inr z) → Q (some (I z)) σₚ cₚ sₚ) : Ew 17 (d + 3) 239 ls [I y0] σ c s Q := by
  obtain ⟨HX, HT, hg0, hPF, hAB, hNZ, hGI, hI0, hI1, hI2, hI3, hI4, hI5, hI6, hI7, hI8, hI9⟩ := X
  have hset := SETI_f hI0.2.2.2.2.2.2.2.2.2.2.2.2.2.2.2.2.2
  have hJ0 := hI0
  unfold INV0 at hJ0
  obtain ⟨f0_0, f0_1, f0_2, f0_3, f0_4, f0_5, f0_6, f0_7, f0_8, f0_9, f0_10, f0_11, f0_12, f0_13, f0_14, f0_15, f0_16, f0_17⟩ := hJ0
  have hJ5 := hI5 hg5
  unfold INV5 at hJ5
  obtain ⟨f5_0, f5_1, f5_2, f5_3, f5_4, f5_5, f5_6, f5_7, f5_8, f5_9, f5_10, f5_11, f5_12, f5_13, f5_14, f5_15, f5_16, f5_17, f5_18, f5_19, f5_20, f5_21⟩ := hJ5
  have hp : ∀ x, x < (V17_ve4).length → SPH g (ι_we4_0.getD x 0) = true := SPH_of (gs := [0, 5]) (by intro j hj; simp at hj; rcases hj with rfl | rfl <;> assumption) rfl (by decide +kernel)
  refine C17_ve4 (D := pul ι_we4_0 D) (N := pul ι_we4_0 N) (F := pul ι_we4_0 F) (A := pul ι_we4_0 A) (HWs_sub HX vs_we4_0 hp) (show F 0 5 = (D 25 : Int) from hPF (0, 0, 5, 25) (List.mem_of_getElem? (i := 24) rfl) hg0 hg0) (show F 25 0 = (D 26 : Int) from hPF (0, 25, 0, 26) (List.mem_of_getElem? (i := 25) rfl) hg0 hg0) (show F 0 6 = (D 27 : Int) from hPF (0, 0, 6, 27) (List.mem_of_getElem? (i := 26) rfl) hg0 hg0) (show F 27 0 = (D 28 : Int) from hPF (0, 27, 0, 28) (List.mem_of_getElem? (i := 27) rfl) hg0 hg0) (show F 2 0 = (D 3 : Int) from hPF (0, 2, 0, 3) (List.mem_of_getElem? (i := 2) rfl) hg0 hg0) (show F 0 16 = (D 32 : Int) from hPF (0, 0, 16, 32) (List.mem_of_getElem? (i := 31) rfl) hg0 hg0) (show F 0 13 = (D 29 : Int) from hPF (0, 0, 13, 29) (List.mem_of_getElem? (i := 28) rfl) hg0 hg0) (show F 0 11 = (D 75 : Int) from hPF (0, 0, 11, 75) (List.mem_of_getElem? (i := 74) rfl) hg0 hg5) (show F 75 18 = (D 199 : Int) from hPF (0, 75, 18, 199) (List.mem_of_getElem? (i := 198) rfl) hg5 hg5) (show F 0 1 = (D 10 : Int) from hPF (0, 0, 1, 10) (List.mem_of_getElem? (i := 9) rfl) hg0 hg0) (N 26 : Int) rfl (N 28 : Int) rfl (N 3 : Int) rfl (N 32 : Int) rfl (N 29 : Int) rfl (N 199 : Int) rfl (N 10 : Int) rfl (F 2 1) rfl (F 25 1) rfl (F 27 1) rfl (A 10) rfl hl0 hl1 hl3 hl4 (show inr (x1) by assumption) (show inr y0 by assumption) (show 0 ≤ (F 25 1) ∧ (F 25 1) ≤ ((N 26 : Int)) ∧ ((N 26 : Int)) ≤ 65536 by assumption) (show 0 ≤ (F 27 1) ∧ (F 27 1) ≤ ((N 28 : Int)) ∧ ((N 28 : Int)) ≤ 65536 by assumption) (show 0 ≤ (F 2 1) ∧ (F 2 1) ≤ ((N 3 : Int)) ∧ ((N 3 : Int)) ≤ 65536 by assumption) (show (F 2 1) ≤ 16384 by assumption) (show ((N 32 : Int)) = 2 by assumption) (show ((N 29 : Int)) = 13 by assumption) (show ((N 199 : Int)) = 13 by omega) (show 1 ≤ ((A 10)) 2 ∧ ((A 10)) 2 ≤ 65536 by omega) (show 0 ≤ ((A 10)) 8 ∧ ((A 10)) 8 ≤ 11 by omega) (show 0 ≤ ((A 10)) 6 ∧ ((A 10)) 6 ≤ 255 by omega) (show ((N 10 : Int)) = 10 by assumption) (fun  ls σ F_c337 A_c337  lc337_0 lc337_1 H O hS_c337 hA_c337     jc337_0 => ?_) (fun z σₚ Fₚ Aₚ Hₚ O sf sa q0 q1 => ?_)
  · skip
    have sd : SD [] (pul ι_we4_0 D) (pul ι_we4_0 D) := SD_refl
    have sn : SD [] (pul ι_we4_0 N) (pul ι_we4_0 N) := SD_refl
    refine hc337   _ _ (glu ι_we4_0 D (pul ι_we4_0 D)) (glu ι_we4_0 N (pul ι_we4_0 N)) (glu ι_we4_0 F F_c337) (glu ι_we4_0 A A_c337) _ _ ⟨HWs_call HX VPH_3 vs_we4_0 hp H O, STC_call HT HX vs_we4_0 hp O, hg0, PFI_glue (dl := []) hPF hS_c337 hA_c337 sd (by decide +kernel) (rexc_of (l := []) (by decide +kernel) ?_), ABS_glue hAB hS_c337 (by decide +kernel), NZ_glue hNZ vs_we4_0 hp sn (by decide +kernel), hGI, ?_, ?_, ?_, ?_, ?_, ?_, ?_, ?_, ?_, ?_⟩ ⟨(STP0_call (STY_call vs_we4_0 hp O) (sd 0 rfl) (RM_call vs_we4_0 O)), unt1_of (x := 10) (by decide +kernel) (fun p hp => funext (hA_c337 p hp))⟩ lc337_0 lc337_1
    · intro e he h1 h2
      cases he
    · exact INV0_eq (EQD_glue hS_c337 hA_c337 sd sn (by decide +kernel)) hI0
    · exact fun h => INV1_eq (EQD_glue hS_c337 hA_c337 sd sn (by decide +kernel)) (hI1 h)
    · exact fun h => INV2_eq (EQD_glue hS_c337 hA_c337 sd sn (by decide +kernel)) (hI2 h)
    · exact fun h => INV3_eq (EQD_glue hS_c337 hA_c337 sd sn (by decide +kernel)) (hI3 h)
    · exact fun h => INV4_eq (EQD_glue hS_c337 hA_c337 sd sn (by decide +kernel)) (hI4 h)
    · exact fun h => INV5_eq (EQD_glue hS_c337 hA_c337 sd sn (by decide +kernel)) (hI5 h)
    · exact fun h => INV6_eq (EQD_glue hS_c337 hA_c337 sd sn (by decide +kernel)) (hI6 h)
    · exact fun h => INV7_eq (EQD_glue hS_c337 hA_c337 sd sn (by decide +kernel)) (hI7 h)
    · exact fun h => INV8_eq (EQD_glue hS_c337 hA_c337 sd sn (by decide +kernel)) (hI8 h)
    · exact fun h => INV9_eq (EQD_glue hS_c337 hA_c337 sd sn (by decide +kernel)) (hI9 h)
  · skip
    have sd : SD [] (pul ι_we4_0 D) (pul ι_we4_0 D) := SD_refl
    have sn : SD [] (pul ι_we4_0 N) (pul ι_we4_0 N) := SD_refl
    refine k z _ (glu ι_we4_0 D (pul ι_we4_0 D)) (glu ι_we4_0 N (pul ι_we4_0 N)) (glu ι_we4_0 F Fₚ) (glu ι_we4_0 A Aₚ) _ _ ⟨HWs_call HX VPH_3 vs_we4_0 hp Hₚ O, STC_call HT HX vs_we4_0 hp O, hg0, PFI_glue (dl := []) hPF sf sa sd (by decide +kernel) (rexc_of (l := []) (by decide +kernel) ?_), ABS_glue hAB sf (by decide +kernel), NZ_glue hNZ vs_we4_0 hp sn (by decide +kernel), hGI, ?_, ?_, ?_, ?_, ?_, ?_, ?_, ?_, ?_, ?_⟩ ⟨(STP0_call (STY_call vs_we4_0 hp O) (sd 0 rfl) (RM_call vs_we4_0 O)), unt1_of (x := 10) (by decide +kernel) (fun p hp => funext (sa p hp))⟩ (show inr z by assumption)
    · intro e he h1 h2
      cases he
    · exact INV0_eq (EQD_glue sf sa sd sn (by decide +kernel)) hI0
    · exact fun h => INV1_eq (EQD_glue sf sa sd sn (by decide +kernel)) (hI1 h)
    · exact fun h => INV2_eq (EQD_glue sf sa sd sn (by decide +kernel)) (hI2 h)
    · exact fun h => INV3_eq (EQD_glue sf sa sd sn (by decide +kernel)) (hI3 h)
    · exact fun h => INV4_eq (EQD_glue sf sa sd sn (by decide +kernel)) (hI4 h)
    · exact fun h => INV5_eq (EQD_glue sf sa sd sn (by decide +kernel)) (hI5 h)
    · exact fun h => INV6_eq (EQD_glue sf sa sd sn (by decide +kernel)) (hI6 h)
    · exact fun h => INV7_eq (EQD_glue sf sa sd sn (by decide +kernel)) (hI7 h)
    · exact fun h => INV8_eq (EQD_glue sf sa sd sn (by decide +kernel)) (hI8 h)
    · exact fun h => INV9_eq (EQD_glue sf sa sd sn (by decide +kernel)) (hI9 h)
def ι_we5_0 : List Nat := [0, 2, 25, 26, 3, 32, 10]
theorem vs_we5_0 : VS VPH V17_ve5 ι_we5_0 := VS_of (by decide +kernel)
set_option maxRecDepth 20000 in
theorem T_we5_0 {g : Nat → Bool} {σ : rS} {D N : Nat → Nat} {F : hF} {A : hA} {d c s : Nat} {Q : wQ} (X : PHI g σ D N F A)  {x1 : Int} {ls : rO} (hl0 : rlook ls 0 = some (.ref (D 0))) (hl1 : rlook ls 1 = some (I x1)) (hl3 : rlook ls 3 = some (I (5))) (hl4 : rlook ls 4 = some (.ref (D 2))) (h0 : inr x1) (x_0 : (F 2 1) ≤ 16384) (hc337 : ∀ (ls : rO) (σₚ : rS) (Dₚ Nₚ : Nat → Nat) (Fₚ : hF) (Aₚ : hA) (cₚ sₚ : Nat), PHI g σₚ Dₚ Nₚ Fₚ Aₚ → STP g σ D N A c s g σₚ Dₚ Nₚ Aₚ cₚ sₚ → rlook ls 0 = some (.ref (Dₚ 0)) → rlook ls 1 = some (I (x1)) → Ew 17 (d + 3) 337 ls [] σₚ cₚ sₚ Q) (k : ∀ (z : Int) (σₚ : rS) (Dₚ Nₚ : Nat → Nat) (Fₚ : hF) (Aₚ : hA) (cₚ sₚ : Nat), PHI g σₚ Dₚ Nₚ Fₚ Aₚ → STP g σ D N A c s g σₚ Dₚ Nₚ Aₚ cₚ sₚ → (inr z) → Q (some (I z)) σₚ cₚ sₚ) : Ew 17 (d + 3) 277 ls [] σ c s Q := by
  obtain ⟨HX, HT, hg0, hPF, hAB, hNZ, hGI, hI0, hI1, hI2, hI3, hI4, hI5, hI6, hI7, hI8, hI9⟩ := X
  have hset := SETI_f hI0.2.2.2.2.2.2.2.2.2.2.2.2.2.2.2.2.2
  have hJ0 := hI0
  unfold INV0 at hJ0
  obtain ⟨f0_0, f0_1, f0_2, f0_3, f0_4, f0_5, f0_6, f0_7, f0_8, f0_9, f0_10, f0_11, f0_12, f0_13, f0_14, f0_15, f0_16, f0_17⟩ := hJ0
  have hp : ∀ x, x < (V17_ve5).length → SPH g (ι_we5_0.getD x 0) = true := SPH_of (gs := [0]) (by intro j hj; simp at hj; subst hj; exact hg0) rfl (by decide +kernel)
  refine C17_ve5 (D := pul ι_we5_0 D) (N := pul ι_we5_0 N) (F := pul ι_we5_0 F) (A := pul ι_we5_0 A) (HWs_sub HX vs_we5_0 hp) (show F 0 5 = (D 25 : Int) from hPF (0, 0, 5, 25) (List.mem_of_getElem? (i := 24) rfl) hg0 hg0) (show F 25 0 = (D 26 : Int) from hPF (0, 25, 0, 26) (List.mem_of_getElem? (i := 25) rfl) hg0 hg0) (show F 2 0 = (D 3 : Int) from hPF (0, 2, 0, 3) (List.mem_of_getElem? (i := 2) rfl) hg0 hg0) (show F 0 16 = (D 32 : Int) from hPF (0, 0, 16, 32) (List.mem_of_getElem? (i := 31) rfl) hg0 hg0) (show F 0 1 = (D 10 : Int) from hPF (0, 0, 1, 10) (List.mem_of_getElem? (i := 9) rfl) hg0 hg0) (N 26 : Int) rfl (N 3 : Int) rfl (N 32 : Int) rfl (N 10 : Int) rfl (F 2 1) rfl (F 25 1) rfl (A 10) rfl hl0 hl1 hl3 hl4 (show inr (x1) by assumption) (show 0 ≤ (F 25 1) ∧ (F 25 1) ≤ ((N 26 : Int)) ∧ ((N 26 : Int)) ≤ 65536 by assumption) (show 0 ≤ (F 2 1) ∧ (F 2 1) ≤ ((N 3 : Int)) ∧ ((N 3 : Int)) ≤ 65536 by assumption) (show (F 2 1) ≤ 16384 by assumption) (show ((N 32 : Int)) = 2 by assumption) (show 1 ≤ ((A 10)) 2 ∧ ((A 10)) 2 ≤ 65536 by omega) (show 0 ≤ ((A 10)) 8 ∧ ((A 10)) 8 ≤ 11 by omega) (show 0 ≤ ((A 10)) 6 ∧ ((A 10)) 6 ≤ 255 by omega) (show ((N 10 : Int)) = 10 by assumption) (fun  ls σ F_c337 A_c337  lc337_0 lc337_1 H O hS_c337 hA_c337     jc337_0 => ?_) (fun z σₚ Fₚ Aₚ Hₚ O sf sa q0 q1 => ?_)
  · skip
    have sd : SD [] (pul ι_we5_0 D) (pul ι_we5_0 D) := SD_refl
    have sn : SD [] (pul ι_we5_0 N) (pul ι_we5_0 N) := SD_refl
    refine hc337   _ _ (glu ι_we5_0 D (pul ι_we5_0 D)) (glu ι_we5_0 N (pul ι_we5_0 N)) (glu ι_we5_0 F F_c337) (glu ι_we5_0 A A_c337) _ _ ⟨HWs_call HX VPH_3 vs_we5_0 hp H O, STC_call HT HX vs_we5_0 hp O, hg0, PFI_glue (dl := []) hPF hS_c337 hA_c337 sd (by decide +kernel) (rexc_of (l := []) (by decide +kernel) ?_), ABS_glue hAB hS_c337 (by decide +kernel), NZ_glue hNZ vs_we5_0 hp sn (by decide +kernel), hGI, ?_, ?_, ?_, ?_, ?_, ?_, ?_, ?_, ?_, ?_⟩ ⟨(STP0_call (STY_call vs_we5_0 hp O) (sd 0 rfl) (RM_call vs_we5_0 O)), unt1_of (x := 10) (by decide +kernel) (fun p hp => funext (hA_c337 p hp))⟩ lc337_0 lc337_1
    · intro e he h1 h2
      cases he
    · exact INV0_eq (EQD_glue hS_c337 hA_c337 sd sn (by decide +kernel)) hI0
    · exact fun h => INV1_eq (EQD_glue hS_c337 hA_c337 sd sn (by decide +kernel)) (hI1 h)
    · exact fun h => INV2_eq (EQD_glue hS_c337 hA_c337 sd sn (by decide +kernel)) (hI2 h)
    · exact fun h => INV3_eq (EQD_glue hS_c337 hA_c337 sd sn (by decide +kernel)) (hI3 h)
    · exact fun h => INV4_eq (EQD_glue hS_c337 hA_c337 sd sn (by decide +kernel)) (hI4 h)
    · exact fun h => INV5_eq (EQD_glue hS_c337 hA_c337 sd sn (by decide +kernel)) (hI5 h)
    · exact fun h => INV6_eq (EQD_glue hS_c337 hA_c337 sd sn (by decide +kernel)) (hI6 h)
    · exact fun h => INV7_eq (EQD_glue hS_c337 hA_c337 sd sn (by decide +kernel)) (hI7 h)
    · exact fun h => INV8_eq (EQD_glue hS_c337 hA_c337 sd sn (by decide +kernel)) (hI8 h)
    · exact fun h => INV9_eq (EQD_glue hS_c337 hA_c337 sd sn (by decide +kernel)) (hI9 h)
  · skip
    have sd : SD [] (pul ι_we5_0 D) (pul ι_we5_0 D) := SD_refl
    have sn : SD [] (pul ι_we5_0 N) (pul ι_we5_0 N) := SD_refl
    refine k z _ (glu ι_we5_0 D (pul ι_we5_0 D)) (glu ι_we5_0 N (pul ι_we5_0 N)) (glu ι_we5_0 F Fₚ) (glu ι_we5_0 A Aₚ) _ _ ⟨HWs_call HX VPH_3 vs_we5_0 hp Hₚ O, STC_call HT HX vs_we5_0 hp O, hg0, PFI_glue (dl := []) hPF sf sa sd (by decide +kernel) (rexc_of (l := []) (by decide +kernel) ?_), ABS_glue hAB sf (by decide +kernel), NZ_glue hNZ vs_we5_0 hp sn (by decide +kernel), hGI, ?_, ?_, ?_, ?_, ?_, ?_, ?_, ?_, ?_, ?_⟩ ⟨(STP0_call (STY_call vs_we5_0 hp O) (sd 0 rfl) (RM_call vs_we5_0 O)), unt1_of (x := 10) (by decide +kernel) (fun p hp => funext (sa p hp))⟩ (show inr z by assumption)
    · intro e he h1 h2
      cases he
    · exact INV0_eq (EQD_glue sf sa sd sn (by decide +kernel)) hI0
    · exact fun h => INV1_eq (EQD_glue sf sa sd sn (by decide +kernel)) (hI1 h)
    · exact fun h => INV2_eq (EQD_glue sf sa sd sn (by decide +kernel)) (hI2 h)
    · exact fun h => INV3_eq (EQD_glue sf sa sd sn (by decide +kernel)) (hI3 h)
    · exact fun h => INV4_eq (EQD_glue sf sa sd sn (by decide +kernel)) (hI4 h)
    · exact fun h => INV5_eq (EQD_glue sf sa sd sn (by decide +kernel)) (hI5 h)
    · exact fun h => INV6_eq (EQD_glue sf sa sd sn (by decide +kernel)) (hI6 h)
    · exact fun h => INV7_eq (EQD_glue sf sa sd sn (by decide +kernel)) (hI7 h)
    · exact fun h => INV8_eq (EQD_glue sf sa sd sn (by decide +kernel)) (hI8 h)
    · exact fun h => INV9_eq (EQD_glue sf sa sd sn (by decide +kernel)) (hI9 h)
def ι_we0_1 : List Nat := [0, 4, 25, 26, 27, 28, 5, 32, 10]
theorem vs_we0_1 : VS VPH V17_ve0 ι_we0_1 := VS_of (by decide +kernel)
set_option maxRecDepth 20000 in
theorem T_we0_1 {g : Nat → Bool} {σ : rS} {D N : Nat → Nat} {F : hF} {A : hA} {d c s : Nat} {Q : wQ} (X : PHI g σ D N F A)  {x1 y0 : Int} {ls : rO} (hl0 : rlook ls 0 = some (.ref (D 0))) (hl1 : rlook ls 1 = some (I x1)) (hl3 : rlook ls 3 = some (I (0))) (hl4 : rlook ls 4 = some (.ref (D 4))) (h0 : inr x1) (h1 : inr y0) (x_0 : (F 4 1) ≤ 16384) (hc337 : ∀ (ls : rO) (σₚ : rS) (Dₚ Nₚ : Nat → Nat) (Fₚ : hF) (Aₚ : hA) (cₚ sₚ : Nat), PHI g σₚ Dₚ Nₚ Fₚ Aₚ → STP g σ D N A c s g σₚ Dₚ Nₚ Aₚ cₚ sₚ → rlook ls 0 = some (.ref (Dₚ 0)) → rlook ls 1 = some (I (x1)) → Ew 17 (d + 3) 337 ls [] σₚ cₚ sₚ Q) (k : ∀ (z : Int) (σₚ : rS) (Dₚ Nₚ : Nat → Nat) (Fₚ : hF) (Aₚ : hA) (cₚ sₚ : Nat), PHI g σₚ Dₚ Nₚ Fₚ Aₚ → STP g σ D N A c s g σₚ Dₚ Nₚ Aₚ cₚ sₚ → (inr z) → Q (some (I z)) σₚ cₚ sₚ) : Ew 17 (d + 3) 239 ls [I y0] σ c s Q := by
  obtain ⟨HX, HT, hg0, hPF, hAB, hNZ, hGI, hI0, hI1, hI2, hI3, hI4, hI5, hI6, hI7, hI8, hI9⟩ := X
  have hset := SETI_f hI0.2.2.2.2.2.2.2.2.2.2.2.2.2.2.2.2.2
  have hJ0 := hI0
  unfold INV0 at hJ0
  obtain ⟨f0_0, f0_1, f0_2, f0_3, f0_4, f0_5, f0_6, f0_7, f0_8, f0_9, f0_10, f0_11, f0_12, f0_13, f0_14, f0_15, f0_16, f0_17⟩ := hJ0
  have hp : ∀ x, x < (V17_ve0).length → SPH g (ι_we0_1.getD x 0) = true := SPH_of (gs := [0]) (by intro j hj; simp at hj; subst hj; exact hg0) rfl (by decide +kernel)
  refine C17_ve0 (D := pul ι_we0_1 D) (N := pul ι_we0_1 N) (F := pul ι_we0_1 F) (A := pul ι_we0_1 A) (HWs_sub HX vs_we0_1 hp) (show F 0 5 = (D 25 : Int) from hPF (0, 0, 5, 25) (List.mem_of_getElem? (i := 24) rfl) hg0 hg0) (show F 25 0 = (D 26 : Int) from hPF (0, 25, 0, 26) (List.mem_of_getElem? (i := 25) rfl) hg0 hg0) (show F 0 6 = (D 27 : Int) from hPF (0, 0, 6, 27) (List.mem_of_getElem? (i := 26) rfl) hg0 hg0) (show F 27 0 = (D 28 : Int) from hPF (0, 27, 0, 28) (List.mem_of_getElem? (i := 27) rfl) hg0 hg0) (show F 4 0 = (D 5 : Int) from hPF (0, 4, 0, 5) (List.mem_of_getElem? (i := 4) rfl) hg0 hg0) (show F 0 16 = (D 32 : Int) from hPF (0, 0, 16, 32) (List.mem_of_getElem? (i := 31) rfl) hg0 hg0) (show F 0 1 = (D 10 : Int) from hPF (0, 0, 1, 10) (List.mem_of_getElem? (i := 9) rfl) hg0 hg0) (N 26 : Int) rfl (N 28 : Int) rfl (N 5 : Int) rfl (N 32 : Int) rfl (N 10 : Int) rfl (F 4 1) rfl (F 25 1) rfl (F 27 1) rfl (A 10) rfl hl0 hl1 hl3 hl4 (show inr (x1) by assumption) (show inr y0 by assumption) (show 0 ≤ (F 25 1) ∧ (F 25 1) ≤ ((N 26 : Int)) ∧ ((N 26 : Int)) ≤ 65536 by assumption) (show 0 ≤ (F 27 1) ∧ (F 27 1) ≤ ((N 28 : Int)) ∧ ((N 28 : Int)) ≤ 65536 by assumption) (show 0 ≤ (F 4 1) ∧ (F 4 1) ≤ ((N 5 : Int)) ∧ ((N 5 : Int)) ≤ 65536 by assumption) (show (F 4 1) ≤ 16384 by assumption) (show ((N 32 : Int)) = 2 by assumption) (show 1 ≤ ((A 10)) 2 ∧ ((A 10)) 2 ≤ 65536 by omega) (show 0 ≤ ((A 10)) 8 ∧ ((A 10)) 8 ≤ 11 by omega) (show 0 ≤ ((A 10)) 6 ∧ ((A 10)) 6 ≤ 255 by omega) (show ((N 10 : Int)) = 10 by assumption) (fun  ls σ F_c337 A_c337  lc337_0 lc337_1 H O hS_c337 hA_c337     jc337_0 => ?_) (fun z σₚ Fₚ Aₚ Hₚ O sf sa q0 q1 => ?_)
  · skip
    have sd : SD [] (pul ι_we0_1 D) (pul ι_we0_1 D) := SD_refl
    have sn : SD [] (pul ι_we0_1 N) (pul ι_we0_1 N) := SD_refl
    refine hc337   _ _ (glu ι_we0_1 D (pul ι_we0_1 D)) (glu ι_we0_1 N (pul ι_we0_1 N)) (glu ι_we0_1 F F_c337) (glu ι_we0_1 A A_c337) _ _ ⟨HWs_call HX VPH_3 vs_we0_1 hp H O, STC_call HT HX vs_we0_1 hp O, hg0, PFI_glue (dl := []) hPF hS_c337 hA_c337 sd (by decide +kernel) (rexc_of (l := []) (by decide +kernel) ?_), ABS_glue hAB hS_c337 (by decide +kernel), NZ_glue hNZ vs_we0_1 hp sn (by decide +kernel), hGI, ?_, ?_, ?_, ?_, ?_, ?_, ?_, ?_, ?_, ?_⟩ ⟨(STP0_call (STY_call vs_we0_1 hp O) (sd 0 rfl) (RM_call vs_we0_1 O)), unt1_of (x := 10) (by decide +kernel) (fun p hp => funext (hA_c337 p hp))⟩ lc337_0 lc337_1
    · intro e he h1 h2
      cases he
    · exact INV0_eq (EQD_glue hS_c337 hA_c337 sd sn (by decide +kernel)) hI0
    · exact fun h => INV1_eq (EQD_glue hS_c337 hA_c337 sd sn (by decide +kernel)) (hI1 h)
    · exact fun h => INV2_eq (EQD_glue hS_c337 hA_c337 sd sn (by decide +kernel)) (hI2 h)
    · exact fun h => INV3_eq (EQD_glue hS_c337 hA_c337 sd sn (by decide +kernel)) (hI3 h)
    · exact fun h => INV4_eq (EQD_glue hS_c337 hA_c337 sd sn (by decide +kernel)) (hI4 h)
    · exact fun h => INV5_eq (EQD_glue hS_c337 hA_c337 sd sn (by decide +kernel)) (hI5 h)
    · exact fun h => INV6_eq (EQD_glue hS_c337 hA_c337 sd sn (by decide +kernel)) (hI6 h)
    · exact fun h => INV7_eq (EQD_glue hS_c337 hA_c337 sd sn (by decide +kernel)) (hI7 h)
    · exact fun h => INV8_eq (EQD_glue hS_c337 hA_c337 sd sn (by decide +kernel)) (hI8 h)
    · exact fun h => INV9_eq (EQD_glue hS_c337 hA_c337 sd sn (by decide +kernel)) (hI9 h)
  · skip
    have sd : SD [] (pul ι_we0_1 D) (pul ι_we0_1 D) := SD_refl
    have sn : SD [] (pul ι_we0_1 N) (pul ι_we0_1 N) := SD_refl
    refine k z _ (glu ι_we0_1 D (pul ι_we0_1 D)) (glu ι_we0_1 N (pul ι_we0_1 N)) (glu ι_we0_1 F Fₚ) (glu ι_we0_1 A Aₚ) _ _ ⟨HWs_call HX VPH_3 vs_we0_1 hp Hₚ O, STC_call HT HX vs_we0_1 hp O, hg0, PFI_glue (dl := []) hPF sf sa sd (by decide +kernel) (rexc_of (l := []) (by decide +kernel) ?_), ABS_glue hAB sf (by decide +kernel), NZ_glue hNZ vs_we0_1 hp sn (by decide +kernel), hGI, ?_, ?_, ?_, ?_, ?_, ?_, ?_, ?_, ?_, ?_⟩ ⟨(STP0_call (STY_call vs_we0_1 hp O) (sd 0 rfl) (RM_call vs_we0_1 O)), unt1_of (x := 10) (by decide +kernel) (fun p hp => funext (sa p hp))⟩ (show inr z by assumption)
    · intro e he h1 h2
      cases he
    · exact INV0_eq (EQD_glue sf sa sd sn (by decide +kernel)) hI0
    · exact fun h => INV1_eq (EQD_glue sf sa sd sn (by decide +kernel)) (hI1 h)
    · exact fun h => INV2_eq (EQD_glue sf sa sd sn (by decide +kernel)) (hI2 h)
    · exact fun h => INV3_eq (EQD_glue sf sa sd sn (by decide +kernel)) (hI3 h)
    · exact fun h => INV4_eq (EQD_glue sf sa sd sn (by decide +kernel)) (hI4 h)
    · exact fun h => INV5_eq (EQD_glue sf sa sd sn (by decide +kernel)) (hI5 h)
    · exact fun h => INV6_eq (EQD_glue sf sa sd sn (by decide +kernel)) (hI6 h)
    · exact fun h => INV7_eq (EQD_glue sf sa sd sn (by decide +kernel)) (hI7 h)
    · exact fun h => INV8_eq (EQD_glue sf sa sd sn (by decide +kernel)) (hI8 h)
    · exact fun h => INV9_eq (EQD_glue sf sa sd sn (by decide +kernel)) (hI9 h)
def ι_we1_1 : List Nat := [0, 4, 25, 26, 27, 28, 5, 32, 10]
theorem vs_we1_1 : VS VPH V17_ve1 ι_we1_1 := VS_of (by decide +kernel)
set_option maxRecDepth 20000 in
theorem T_we1_1 {g : Nat → Bool} {σ : rS} {D N : Nat → Nat} {F : hF} {A : hA} {d c s : Nat} {Q : wQ} (X : PHI g σ D N F A)  {x1 y0 : Int} {ls : rO} (hl0 : rlook ls 0 = some (.ref (D 0))) (hl1 : rlook ls 1 = some (I x1)) (hl3 : rlook ls 3 = some (I (1))) (hl4 : rlook ls 4 = some (.ref (D 4))) (h0 : inr x1) (h1 : inr y0) (x_0 : (F 4 1) ≤ 16384) (hc337 : ∀ (ls : rO) (σₚ : rS) (Dₚ Nₚ : Nat → Nat) (Fₚ : hF) (Aₚ : hA) (cₚ sₚ : Nat), PHI g σₚ Dₚ Nₚ Fₚ Aₚ → STP g σ D N A c s g σₚ Dₚ Nₚ Aₚ cₚ sₚ → rlook ls 0 = some (.ref (Dₚ 0)) → rlook ls 1 = some (I (x1)) → Ew 17 (d + 3) 337 ls [] σₚ cₚ sₚ Q) (k : ∀ (z : Int) (σₚ : rS) (Dₚ Nₚ : Nat → Nat) (Fₚ : hF) (Aₚ : hA) (cₚ sₚ : Nat), PHI g σₚ Dₚ Nₚ Fₚ Aₚ → STP g σ D N A c s g σₚ Dₚ Nₚ Aₚ cₚ sₚ → (inr z) → Q (some (I z)) σₚ cₚ sₚ) : Ew 17 (d + 3) 239 ls [I y0] σ c s Q := by
  obtain ⟨HX, HT, hg0, hPF, hAB, hNZ, hGI, hI0, hI1, hI2, hI3, hI4, hI5, hI6, hI7, hI8, hI9⟩ := X
  have hset := SETI_f hI0.2.2.2.2.2.2.2.2.2.2.2.2.2.2.2.2.2
  have hJ0 := hI0
  unfold INV0 at hJ0
  obtain ⟨f0_0, f0_1, f0_2, f0_3, f0_4, f0_5, f0_6, f0_7, f0_8, f0_9, f0_10, f0_11, f0_12, f0_13, f0_14, f0_15, f0_16, f0_17⟩ := hJ0
  have hp : ∀ x, x < (V17_ve1).length → SPH g (ι_we1_1.getD x 0) = true := SPH_of (gs := [0]) (by intro j hj; simp at hj; subst hj; exact hg0) rfl (by decide +kernel)
  refine C17_ve1 (D := pul ι_we1_1 D) (N := pul ι_we1_1 N) (F := pul ι_we1_1 F) (A := pul ι_we1_1 A) (HWs_sub HX vs_we1_1 hp) (show F 0 5 = (D 25 : Int) from hPF (0, 0, 5, 25) (List.mem_of_getElem? (i := 24) rfl) hg0 hg0) (show F 25 0 = (D 26 : Int) from hPF (0, 25, 0, 26) (List.mem_of_getElem? (i := 25) rfl) hg0 hg0) (show F 0 6 = (D 27 : Int) from hPF (0, 0, 6, 27) (List.mem_of_getElem? (i := 26) rfl) hg0 hg0) (show F 27 0 = (D 28 : Int) from hPF (0, 27, 0, 28) (List.mem_of_getElem? (i := 27) rfl) hg0 hg0) (show F 4 0 = (D 5 : Int) from hPF (0, 4, 0, 5) (List.mem_of_getElem? (i := 4) rfl) hg0 hg0) (show F 0 16 = (D 32 : Int) from hPF (0, 0, 16, 32) (List.mem_of_getElem? (i := 31) rfl) hg0 hg0) (show F 0 1 = (D 10 : Int) from hPF (0, 0, 1, 10) (List.mem_of_getElem? (i := 9) rfl) hg0 hg0) (N 26 : Int) rfl (N 28 : Int) rfl (N 5 : Int) rfl (N 32 : Int) rfl (N 10 : Int) rfl (F 4 1) rfl (F 25 1) rfl (F 27 1) rfl (A 10) rfl hl0 hl1 hl3 hl4 (show inr (x1) by assumption) (show inr y0 by assumption) (show 0 ≤ (F 25 1) ∧ (F 25 1) ≤ ((N 26 : Int)) ∧ ((N 26 : Int)) ≤ 65536 by assumption) (show 0 ≤ (F 27 1) ∧ (F 27 1) ≤ ((N 28 : Int)) ∧ ((N 28 : Int)) ≤ 65536 by assumption) (show 0 ≤ (F 4 1) ∧ (F 4 1) ≤ ((N 5 : Int)) ∧ ((N 5 : Int)) ≤ 65536 by assumption) (show (F 4 1) ≤ 16384 by assumption) (show ((N 32 : Int)) = 2 by assumption) (show 1 ≤ ((A 10)) 2 ∧ ((A 10)) 2 ≤ 65536 by omega) (show 0 ≤ ((A 10)) 8 ∧ ((A 10)) 8 ≤ 11 by omega) (show 0 ≤ ((A 10)) 6 ∧ ((A 10)) 6 ≤ 255 by omega) (show ((N 10 : Int)) = 10 by assumption) (fun  ls σ F_c337 A_c337  lc337_0 lc337_1 H O hS_c337 hA_c337     jc337_0 => ?_) (fun z σₚ Fₚ Aₚ Hₚ O sf sa q0 q1 => ?_)
  · skip
    have sd : SD [] (pul ι_we1_1 D) (pul ι_we1_1 D) := SD_refl
    have sn : SD [] (pul ι_we1_1 N) (pul ι_we1_1 N) := SD_refl
    refine hc337   _ _ (glu ι_we1_1 D (pul ι_we1_1 D)) (glu ι_we1_1 N (pul ι_we1_1 N)) (glu ι_we1_1 F F_c337) (glu ι_we1_1 A A_c337) _ _ ⟨HWs_call HX VPH_3 vs_we1_1 hp H O, STC_call HT HX vs_we1_1 hp O, hg0, PFI_glue (dl := []) hPF hS_c337 hA_c337 sd (by decide +kernel) (rexc_of (l := []) (by decide +kernel) ?_), ABS_glue hAB hS_c337 (by decide +kernel), NZ_glue hNZ vs_we1_1 hp sn (by decide +kernel), hGI, ?_, ?_, ?_, ?_, ?_, ?_, ?_, ?_, ?_, ?_⟩ ⟨(STP0_call (STY_call vs_we1_1 hp O) (sd 0 rfl) (RM_call vs_we1_1 O)), unt1_of (x := 10) (by decide +kernel) (fun p hp => funext (hA_c337 p hp))⟩ lc337_0 lc337_1
    · intro e he h1 h2
      cases he
    · exact INV0_eq (EQD_glue hS_c337 hA_c337 sd sn (by decide +kernel)) hI0
    · exact fun h => INV1_eq (EQD_glue hS_c337 hA_c337 sd sn (by decide +kernel)) (hI1 h)
    · exact fun h => INV2_eq (EQD_glue hS_c337 hA_c337 sd sn (by decide +kernel)) (hI2 h)
    · exact fun h => INV3_eq (EQD_glue hS_c337 hA_c337 sd sn (by decide +kernel)) (hI3 h)
    · exact fun h => INV4_eq (EQD_glue hS_c337 hA_c337 sd sn (by decide +kernel)) (hI4 h)
    · exact fun h => INV5_eq (EQD_glue hS_c337 hA_c337 sd sn (by decide +kernel)) (hI5 h)
    · exact fun h => INV6_eq (EQD_glue hS_c337 hA_c337 sd sn (by decide +kernel)) (hI6 h)
    · exact fun h => INV7_eq (EQD_glue hS_c337 hA_c337 sd sn (by decide +kernel)) (hI7 h)
    · exact fun h => INV8_eq (EQD_glue hS_c337 hA_c337 sd sn (by decide +kernel)) (hI8 h)
    · exact fun h => INV9_eq (EQD_glue hS_c337 hA_c337 sd sn (by decide +kernel)) (hI9 h)
  · skip
    have sd : SD [] (pul ι_we1_1 D) (pul ι_we1_1 D) := SD_refl
    have sn : SD [] (pul ι_we1_1 N) (pul ι_we1_1 N) := SD_refl
    refine k z _ (glu ι_we1_1 D (pul ι_we1_1 D)) (glu ι_we1_1 N (pul ι_we1_1 N)) (glu ι_we1_1 F Fₚ) (glu ι_we1_1 A Aₚ) _ _ ⟨HWs_call HX VPH_3 vs_we1_1 hp Hₚ O, STC_call HT HX vs_we1_1 hp O, hg0, PFI_glue (dl := []) hPF sf sa sd (by decide +kernel) (rexc_of (l := []) (by decide +kernel) ?_), ABS_glue hAB sf (by decide +kernel), NZ_glue hNZ vs_we1_1 hp sn (by decide +kernel), hGI, ?_, ?_, ?_, ?_, ?_, ?_, ?_, ?_, ?_, ?_⟩ ⟨(STP0_call (STY_call vs_we1_1 hp O) (sd 0 rfl) (RM_call vs_we1_1 O)), unt1_of (x := 10) (by decide +kernel) (fun p hp => funext (sa p hp))⟩ (show inr z by assumption)
    · intro e he h1 h2
      cases he
    · exact INV0_eq (EQD_glue sf sa sd sn (by decide +kernel)) hI0
    · exact fun h => INV1_eq (EQD_glue sf sa sd sn (by decide +kernel)) (hI1 h)
    · exact fun h => INV2_eq (EQD_glue sf sa sd sn (by decide +kernel)) (hI2 h)
    · exact fun h => INV3_eq (EQD_glue sf sa sd sn (by decide +kernel)) (hI3 h)
    · exact fun h => INV4_eq (EQD_glue sf sa sd sn (by decide +kernel)) (hI4 h)
    · exact fun h => INV5_eq (EQD_glue sf sa sd sn (by decide +kernel)) (hI5 h)
    · exact fun h => INV6_eq (EQD_glue sf sa sd sn (by decide +kernel)) (hI6 h)
    · exact fun h => INV7_eq (EQD_glue sf sa sd sn (by decide +kernel)) (hI7 h)
    · exact fun h => INV8_eq (EQD_glue sf sa sd sn (by decide +kernel)) (hI8 h)
    · exact fun h => INV9_eq (EQD_glue sf sa sd sn (by decide +kernel)) (hI9 h)
def ι_we2_1 : List Nat := [0, 4, 25, 26, 27, 28, 5, 32, 10]
theorem vs_we2_1 : VS VPH V17_ve2 ι_we2_1 := VS_of (by decide +kernel)
set_option maxRecDepth 20000 in
theorem T_we2_1 {g : Nat → Bool} {σ : rS} {D N : Nat → Nat} {F : hF} {A : hA} {d c s : Nat} {Q : wQ} (X : PHI g σ D N F A)  {x1 y0 : Int} {ls : rO} (hl0 : rlook ls 0 = some (.ref (D 0))) (hl1 : rlook ls 1 = some (I x1)) (hl3 : rlook ls 3 = some (I (2))) (hl4 : rlook ls 4 = some (.ref (D 4))) (h0 : inr x1) (h1 : inr y0) (x_0 : (F 4 1) ≤ 16384) (hc337 : ∀ (ls : rO) (σₚ : rS) (Dₚ Nₚ : Nat → Nat) (Fₚ : hF) (Aₚ : hA) (cₚ sₚ : Nat), PHI g σₚ Dₚ Nₚ Fₚ Aₚ → STP g σ D N A c s g σₚ Dₚ Nₚ Aₚ cₚ sₚ → rlook ls 0 = some (.ref (Dₚ 0)) → rlook ls 1 = some (I (x1)) → Ew 17 (d + 3) 337 ls [] σₚ cₚ sₚ Q) (k : ∀ (z : Int) (σₚ : rS) (Dₚ Nₚ : Nat → Nat) (Fₚ : hF) (Aₚ : hA) (cₚ sₚ : Nat), PHI g σₚ Dₚ Nₚ Fₚ Aₚ → STP g σ D N A c s g σₚ Dₚ Nₚ Aₚ cₚ sₚ → (inr z) → Q (some (I z)) σₚ cₚ sₚ) : Ew 17 (d + 3) 239 ls [I y0] σ c s Q := by
  obtain ⟨HX, HT, hg0, hPF, hAB, hNZ, hGI, hI0, hI1, hI2, hI3, hI4, hI5, hI6, hI7, hI8, hI9⟩ := X
  have hset := SETI_f hI0.2.2.2.2.2.2.2.2.2.2.2.2.2.2.2.2.2
  have hJ0 := hI0
  unfold INV0 at hJ0
  obtain ⟨f0_0, f0_1, f0_2, f0_3, f0_4, f0_5, f0_6, f0_7, f0_8, f0_9, f0_10, f0_11, f0_12, f0_13, f0_14, f0_15, f0_16, f0_17⟩ := hJ0
  have hp : ∀ x, x < (V17_ve2).length → SPH g (ι_we2_1.getD x 0) = true := SPH_of (gs := [0]) (by intro j hj; simp at hj; subst hj; exact hg0) rfl (by decide +kernel)
  refine C17_ve2 (D := pul ι_we2_1 D) (N := pul ι_we2_1 N) (F := pul ι_we2_1 F) (A := pul ι_we2_1 A) (HWs_sub HX vs_we2_1 hp) (show F 0 5 = (D 25 : Int) from hPF (0, 0, 5, 25) (List.mem_of_getElem? (i := 24) rfl) hg0 hg0) (show F 25 0 = (D 26 : Int) from hPF (0, 25, 0, 26) (List.mem_of_getElem? (i := 25) rfl) hg0 hg0) (show F 0 6 = (D 27 : Int) from hPF (0, 0, 6, 27) (List.mem_of_getElem? (i := 26) rfl) hg0 hg0) (show F 27 0 = (D 28 : Int) from hPF (0, 27, 0, 28) (List.mem_of_getElem? (i := 27) rfl) hg0 hg0) (show F 4 0 = (D 5 : Int) from hPF (0, 4, 0, 5) (List.mem_of_getElem? (i := 4) rfl) hg0 hg0) (show F 0 16 = (D 32 : Int) from hPF (0, 0, 16, 32) (List.mem_of_getElem? (i := 31) rfl) hg0 hg0) (show F 0 1 = (D 10 : Int) from hPF (0, 0, 1, 10) (List.mem_of_getElem? (i := 9) rfl) hg0 hg0) (N 26 : Int) rfl (N 28 : Int) rfl (N 5 : Int) rfl (N 32 : Int) rfl (N 10 : Int) rfl (F 4 1) rfl (F 25 1) rfl (F 27 1) rfl (A 10) rfl hl0 hl1 hl3 hl4 (show inr (x1) by assumption) (show inr y0 by assumption) (show 0 ≤ (F 25 1) ∧ (F 25 1) ≤ ((N 26 : Int)) ∧ ((N 26 : Int)) ≤ 65536 by assumption) (show 0 ≤ (F 27 1) ∧ (F 27 1) ≤ ((N 28 : Int)) ∧ ((N 28 : Int)) ≤ 65536 by assumption) (show 0 ≤ (F 4 1) ∧ (F 4 1) ≤ ((N 5 : Int)) ∧ ((N 5 : Int)) ≤ 65536 by assumption) (show (F 4 1) ≤ 16384 by assumption) (show ((N 32 : Int)) = 2 by assumption) (show 1 ≤ ((A 10)) 2 ∧ ((A 10)) 2 ≤ 65536 by omega) (show 0 ≤ ((A 10)) 8 ∧ ((A 10)) 8 ≤ 11 by omega) (show 0 ≤ ((A 10)) 6 ∧ ((A 10)) 6 ≤ 255 by omega) (show ((N 10 : Int)) = 10 by assumption) (fun  ls σ F_c337 A_c337  lc337_0 lc337_1 H O hS_c337 hA_c337     jc337_0 => ?_) (fun z σₚ Fₚ Aₚ Hₚ O sf sa q0 q1 => ?_)
  · skip
    have sd : SD [] (pul ι_we2_1 D) (pul ι_we2_1 D) := SD_refl
    have sn : SD [] (pul ι_we2_1 N) (pul ι_we2_1 N) := SD_refl
    refine hc337   _ _ (glu ι_we2_1 D (pul ι_we2_1 D)) (glu ι_we2_1 N (pul ι_we2_1 N)) (glu ι_we2_1 F F_c337) (glu ι_we2_1 A A_c337) _ _ ⟨HWs_call HX VPH_3 vs_we2_1 hp H O, STC_call HT HX vs_we2_1 hp O, hg0, PFI_glue (dl := []) hPF hS_c337 hA_c337 sd (by decide +kernel) (rexc_of (l := []) (by decide +kernel) ?_), ABS_glue hAB hS_c337 (by decide +kernel), NZ_glue hNZ vs_we2_1 hp sn (by decide +kernel), hGI, ?_, ?_, ?_, ?_, ?_, ?_, ?_, ?_, ?_, ?_⟩ ⟨(STP0_call (STY_call vs_we2_1 hp O) (sd 0 rfl) (RM_call vs_we2_1 O)), unt1_of (x := 10) (by decide +kernel) (fun p hp => funext (hA_c337 p hp))⟩ lc337_0 lc337_1
    · intro e he h1 h2
      cases he
    · exact INV0_eq (EQD_glue hS_c337 hA_c337 sd sn (by decide +kernel)) hI0
    · exact fun h => INV1_eq (EQD_glue hS_c337 hA_c337 sd sn (by decide +kernel)) (hI1 h)
    · exact fun h => INV2_eq (EQD_glue hS_c337 hA_c337 sd sn (by decide +kernel)) (hI2 h)
    · exact fun h => INV3_eq (EQD_glue hS_c337 hA_c337 sd sn (by decide +kernel)) (hI3 h)
    · exact fun h => INV4_eq (EQD_glue hS_c337 hA_c337 sd sn (by decide +kernel)) (hI4 h)
    · exact fun h => INV5_eq (EQD_glue hS_c337 hA_c337 sd sn (by decide +kernel)) (hI5 h)
    · exact fun h => INV6_eq (EQD_glue hS_c337 hA_c337 sd sn (by decide +kernel)) (hI6 h)
    · exact fun h => INV7_eq (EQD_glue hS_c337 hA_c337 sd sn (by decide +kernel)) (hI7 h)
    · exact fun h => INV8_eq (EQD_glue hS_c337 hA_c337 sd sn (by decide +kernel)) (hI8 h)
    · exact fun h => INV9_eq (EQD_glue hS_c337 hA_c337 sd sn (by decide +kernel)) (hI9 h)
  · skip
    have sd : SD [] (pul ι_we2_1 D) (pul ι_we2_1 D) := SD_refl
    have sn : SD [] (pul ι_we2_1 N) (pul ι_we2_1 N) := SD_refl
    refine k z _ (glu ι_we2_1 D (pul ι_we2_1 D)) (glu ι_we2_1 N (pul ι_we2_1 N)) (glu ι_we2_1 F Fₚ) (glu ι_we2_1 A Aₚ) _ _ ⟨HWs_call HX VPH_3 vs_we2_1 hp Hₚ O, STC_call HT HX vs_we2_1 hp O, hg0, PFI_glue (dl := []) hPF sf sa sd (by decide +kernel) (rexc_of (l := []) (by decide +kernel) ?_), ABS_glue hAB sf (by decide +kernel), NZ_glue hNZ vs_we2_1 hp sn (by decide +kernel), hGI, ?_, ?_, ?_, ?_, ?_, ?_, ?_, ?_, ?_, ?_⟩ ⟨(STP0_call (STY_call vs_we2_1 hp O) (sd 0 rfl) (RM_call vs_we2_1 O)), unt1_of (x := 10) (by decide +kernel) (fun p hp => funext (sa p hp))⟩ (show inr z by assumption)
    · intro e he h1 h2
      cases he
    · exact INV0_eq (EQD_glue sf sa sd sn (by decide +kernel)) hI0
    · exact fun h => INV1_eq (EQD_glue sf sa sd sn (by decide +kernel)) (hI1 h)
    · exact fun h => INV2_eq (EQD_glue sf sa sd sn (by decide +kernel)) (hI2 h)
    · exact fun h => INV3_eq (EQD_glue sf sa sd sn (by decide +kernel)) (hI3 h)
    · exact fun h => INV4_eq (EQD_glue sf sa sd sn (by decide +kernel)) (hI4 h)
    · exact fun h => INV5_eq (EQD_glue sf sa sd sn (by decide +kernel)) (hI5 h)
    · exact fun h => INV6_eq (EQD_glue sf sa sd sn (by decide +kernel)) (hI6 h)
    · exact fun h => INV7_eq (EQD_glue sf sa sd sn (by decide +kernel)) (hI7 h)
    · exact fun h => INV8_eq (EQD_glue sf sa sd sn (by decide +kernel)) (hI8 h)
    · exact fun h => INV9_eq (EQD_glue sf sa sd sn (by decide +kernel)) (hI9 h)
def ι_we3_1 : List Nat := [0, 4, 25, 26, 27, 28, 5, 32, 10]
theorem vs_we3_1 : VS VPH V17_ve3 ι_we3_1 := VS_of (by decide +kernel)
set_option maxRecDepth 20000 in
theorem T_we3_1 {g : Nat → Bool} {σ : rS} {D N : Nat → Nat} {F : hF} {A : hA} {d c s : Nat} {Q : wQ} (X : PHI g σ D N F A)  {x1 y0 : Int} {ls : rO} (hl0 : rlook ls 0 = some (.ref (D 0))) (hl1 : rlook ls 1 = some (I x1)) (hl3 : rlook ls 3 = some (I (3))) (hl4 : rlook ls 4 = some (.ref (D 4))) (h0 : inr x1) (h1 : inr y0) (x_0 : (F 4 1) ≤ 16384) (hc337 : ∀ (ls : rO) (σₚ : rS) (Dₚ Nₚ : Nat → Nat) (Fₚ : hF) (Aₚ : hA) (cₚ sₚ : Nat), PHI g σₚ Dₚ Nₚ Fₚ Aₚ → STP g σ D N A c s g σₚ Dₚ Nₚ Aₚ cₚ sₚ → rlook ls 0 = some (.ref (Dₚ 0)) → rlook ls 1 = some (I (x1)) → Ew 17 (d + 3) 337 ls [] σₚ cₚ sₚ Q) (k : ∀ (z : Int) (σₚ : rS) (Dₚ Nₚ : Nat → Nat) (Fₚ : hF) (Aₚ : hA) (cₚ sₚ : Nat), PHI g σₚ Dₚ Nₚ Fₚ Aₚ → STP g σ D N A c s g σₚ Dₚ Nₚ Aₚ cₚ sₚ → (inr z) → Q (some (I z)) σₚ cₚ sₚ) : Ew 17 (d + 3) 239 ls [I y0] σ c s Q := by
  obtain ⟨HX, HT, hg0, hPF, hAB, hNZ, hGI, hI0, hI1, hI2, hI3, hI4, hI5, hI6, hI7, hI8, hI9⟩ := X
  have hset := SETI_f hI0.2.2.2.2.2.2.2.2.2.2.2.2.2.2.2.2.2
  have hJ0 := hI0
  unfold INV0 at hJ0
  obtain ⟨f0_0, f0_1, f0_2, f0_3, f0_4, f0_5, f0_6, f0_7, f0_8, f0_9, f0_10, f0_11, f0_12, f0_13, f0_14, f0_15, f0_16, f0_17⟩ := hJ0
  have hp : ∀ x, x < (V17_ve3).length → SPH g (ι_we3_1.getD x 0) = true := SPH_of (gs := [0]) (by intro j hj; simp at hj; subst hj; exact hg0) rfl (by decide +kernel)
  refine C17_ve3 (D := pul ι_we3_1 D) (N := pul ι_we3_1 N) (F := pul ι_we3_1 F) (A := pul ι_we3_1 A) (HWs_sub HX vs_we3_1 hp) (show F 0 5 = (D 25 : Int) from hPF (0, 0, 5, 25) (List.mem_of_getElem? (i := 24) rfl) hg0 hg0) (show F 25 0 = (D 26 : Int) from hPF (0, 25, 0, 26) (List.mem_of_getElem? (i := 25) rfl) hg0 hg0) (show F 0 6 = (D 27 : Int) from hPF (0, 0, 6, 27) (List.mem_of_getElem? (i := 26) rfl) hg0 hg0) (show F 27 0 = (D 28 : Int) from hPF (0, 27, 0, 28) (List.mem_of_getElem? (i := 27) rfl) hg0 hg0) (show F 4 0 = (D 5 : Int) from hPF (0, 4, 0, 5) (List.mem_of_getElem? (i := 4) rfl) hg0 hg0) (show F 0 16 = (D 32 : Int) from hPF (0, 0, 16, 32) (List.mem_of_getElem? (i := 31) rfl) hg0 hg0) (show F 0 1 = (D 10 : Int) from hPF (0, 0, 1, 10) (List.mem_of_getElem? (i := 9) rfl) hg0 hg0) (N 26 : Int) rfl (N 28 : Int) rfl (N 5 : Int) rfl (N 32 : Int) rfl (N 10 : Int) rfl (F 4 1) rfl (F 25 1) rfl (F 27 1) rfl (A 10) rfl hl0 hl1 hl3 hl4 (show inr (x1) by assumption) (show inr y0 by assumption) (show 0 ≤ (F 25 1) ∧ (F 25 1) ≤ ((N 26 : Int)) ∧ ((N 26 : Int)) ≤ 65536 by assumption) (show 0 ≤ (F 27 1) ∧ (F 27 1) ≤ ((N 28 : Int)) ∧ ((N 28 : Int)) ≤ 65536 by assumption) (show 0 ≤ (F 4 1) ∧ (F 4 1) ≤ ((N 5 : Int)) ∧ ((N 5 : Int)) ≤ 65536 by assumption) (show (F 4 1) ≤ 16384 by assumption) (show ((N 32 : Int)) = 2 by assumption) (show 1 ≤ ((A 10)) 2 ∧ ((A 10)) 2 ≤ 65536 by omega) (show 0 ≤ ((A 10)) 8 ∧ ((A 10)) 8 ≤ 11 by omega) (show 0 ≤ ((A 10)) 6 ∧ ((A 10)) 6 ≤ 255 by omega) (show ((N 10 : Int)) = 10 by assumption) (fun  ls σ F_c337 A_c337  lc337_0 lc337_1 H O hS_c337 hA_c337     jc337_0 => ?_) (fun z σₚ Fₚ Aₚ Hₚ O sf sa q0 q1 => ?_)
  · skip
    have sd : SD [] (pul ι_we3_1 D) (pul ι_we3_1 D) := SD_refl
    have sn : SD [] (pul ι_we3_1 N) (pul ι_we3_1 N) := SD_refl
    refine hc337   _ _ (glu ι_we3_1 D (pul ι_we3_1 D)) (glu ι_we3_1 N (pul ι_we3_1 N)) (glu ι_we3_1 F F_c337) (glu ι_we3_1 A A_c337) _ _ ⟨HWs_call HX VPH_3 vs_we3_1 hp H O, STC_call HT HX vs_we3_1 hp O, hg0, PFI_glue (dl := []) hPF hS_c337 hA_c337 sd (by decide +kernel) (rexc_of (l := []) (by decide +kernel) ?_), ABS_glue hAB hS_c337 (by decide +kernel), NZ_glue hNZ vs_we3_1 hp sn (by decide +kernel), hGI, ?_, ?_, ?_, ?_, ?_, ?_, ?_, ?_, ?_, ?_⟩ ⟨(STP0_call (STY_call vs_we3_1 hp O) (sd 0 rfl) (RM_call vs_we3_1 O)), unt1_of (x := 10) (by decide +kernel) (fun p hp => funext (hA_c337 p hp))⟩ lc337_0 lc337_1
    · intro e he h1 h2
      cases he
    · exact INV0_eq (EQD_glue hS_c337 hA_c337 sd sn (by decide +kernel)) hI0
    · exact fun h => INV1_eq (EQD_glue hS_c337 hA_c337 sd sn (by decide +kernel)) (hI1 h)
    · exact fun h => INV2_eq (EQD_glue hS_c337 hA_c337 sd sn (by decide +kernel)) (hI2 h)
    · exact fun h => INV3_eq (EQD_glue hS_c337 hA_c337 sd sn (by decide +kernel)) (hI3 h)
    · exact fun h => INV4_eq (EQD_glue hS_c337 hA_c337 sd sn (by decide +kernel)) (hI4 h)
    · exact fun h => INV5_eq (EQD_glue hS_c337 hA_c337 sd sn (by decide +kernel)) (hI5 h)
    · exact fun h => INV6_eq (EQD_glue hS_c337 hA_c337 sd sn (by decide +kernel)) (hI6 h)
    · exact fun h => INV7_eq (EQD_glue hS_c337 hA_c337 sd sn (by decide +kernel)) (hI7 h)
    · exact fun h => INV8_eq (EQD_glue hS_c337 hA_c337 sd sn (by decide +kernel)) (hI8 h)
    · exact fun h => INV9_eq (EQD_glue hS_c337 hA_c337 sd sn (by decide +kernel)) (hI9 h)
  · skip
    have sd : SD [] (pul ι_we3_1 D) (pul ι_we3_1 D) := SD_refl
    have sn : SD [] (pul ι_we3_1 N) (pul ι_we3_1 N) := SD_refl
    refine k z _ (glu ι_we3_1 D (pul ι_we3_1 D)) (glu ι_we3_1 N (pul ι_we3_1 N)) (glu ι_we3_1 F Fₚ) (glu ι_we3_1 A Aₚ) _ _ ⟨HWs_call HX VPH_3 vs_we3_1 hp Hₚ O, STC_call HT HX vs_we3_1 hp O, hg0, PFI_glue (dl := []) hPF sf sa sd (by decide +kernel) (rexc_of (l := []) (by decide +kernel) ?_), ABS_glue hAB sf (by decide +kernel), NZ_glue hNZ vs_we3_1 hp sn (by decide +kernel), hGI, ?_, ?_, ?_, ?_, ?_, ?_, ?_, ?_, ?_, ?_⟩ ⟨(STP0_call (STY_call vs_we3_1 hp O) (sd 0 rfl) (RM_call vs_we3_1 O)), unt1_of (x := 10) (by decide +kernel) (fun p hp => funext (sa p hp))⟩ (show inr z by assumption)
    · intro e he h1 h2
      cases he
    · exact INV0_eq (EQD_glue sf sa sd sn (by decide +kernel)) hI0
    · exact fun h => INV1_eq (EQD_glue sf sa sd sn (by decide +kernel)) (hI1 h)
    · exact fun h => INV2_eq (EQD_glue sf sa sd sn (by decide +kernel)) (hI2 h)
    · exact fun h => INV3_eq (EQD_glue sf sa sd sn (by decide +kernel)) (hI3 h)
    · exact fun h => INV4_eq (EQD_glue sf sa sd sn (by decide +kernel)) (hI4 h)
    · exact fun h => INV5_eq (EQD_glue sf sa sd sn (by decide +kernel)) (hI5 h)
    · exact fun h => INV6_eq (EQD_glue sf sa sd sn (by decide +kernel)) (hI6 h)
    · exact fun h => INV7_eq (EQD_glue sf sa sd sn (by decide +kernel)) (hI7 h)
    · exact fun h => INV8_eq (EQD_glue sf sa sd sn (by decide +kernel)) (hI8 h)
    · exact fun h => INV9_eq (EQD_glue sf sa sd sn (by decide +kernel)) (hI9 h)
def ι_we4_1 : List Nat := [0, 4, 25, 26, 27, 28, 5, 32, 29, 75, 199, 10]
theorem vs_we4_1 : VS VPH V17_ve4 ι_we4_1 := VS_of (by decide +kernel)
set_option maxRecDepth 20000 in
theorem T_we4_1 {g : Nat → Bool} {σ : rS} {D N : Nat → Nat} {F : hF} {A : hA} {d c s : Nat} {Q : wQ} (X : PHI g σ D N F A) (hg5 : g 5 = true) {x1 y0 : Int} {ls : rO} (hl0 : rlook ls 0 = some (.ref (D 0))) (hl1 : rlook ls 1 = some (I x1)) (hl3 : rlook ls 3 = some (I (4))) (hl4 : rlook ls 4 = some (.ref (D 4))) (h0 : inr x1) (h1 : inr y0) (x_0 : (F 4 1) ≤ 16384) (hc337 : ∀ (ls : rO) (σₚ : rS) (Dₚ Nₚ : Nat → Nat) (Fₚ : hF) (Aₚ : hA) (cₚ sₚ : Nat), PHI g σₚ Dₚ Nₚ Fₚ Aₚ → STP g σ D N A c s g σₚ Dₚ Nₚ Aₚ cₚ sₚ → rlook ls 0 = some (.ref (Dₚ 0)) → rlook ls 1 = some (I (x1)) → Ew 17 (d + 3) 337 ls [] σₚ cₚ sₚ Q) (k : ∀ (z : Int) (σₚ : rS) (Dₚ Nₚ : Nat → Nat) (Fₚ : hF) (Aₚ : hA) (cₚ sₚ : Nat), PHI g σₚ Dₚ Nₚ Fₚ Aₚ → STP g σ D N A c s g σₚ Dₚ Nₚ Aₚ cₚ sₚ → (inr z) → Q (some (I z)) σₚ cₚ sₚ) : Ew 17 (d + 3) 239 ls [I y0] σ c s Q := by
  obtain ⟨HX, HT, hg0, hPF, hAB, hNZ, hGI, hI0, hI1, hI2, hI3, hI4, hI5, hI6, hI7, hI8, hI9⟩ := X
  have hset := SETI_f hI0.2.2.2.2.2.2.2.2.2.2.2.2.2.2.2.2.2
  have hJ0 := hI0
  unfold INV0 at hJ0
  obtain ⟨f0_0, f0_1, f0_2, f0_3, f0_4, f0_5, f0_6, f0_7, f0_8, f0_9, f0_10, f0_11, f0_12, f0_13, f0_14, f0_15, f0_16, f0_17⟩ := hJ0
  have hJ5 := hI5 hg5
  unfold INV5 at hJ5
  obtain ⟨f5_0, f5_1, f5_2, f5_3, f5_4, f5_5, f5_6, f5_7, f5_8, f5_9, f5_10, f5_11, f5_12, f5_13, f5_14, f5_15, f5_16, f5_17, f5_18, f5_19, f5_20, f5_21⟩ := hJ5
  have hp : ∀ x, x < (V17_ve4).length → SPH g (ι_we4_1.getD x 0) = true := SPH_of (gs := [0, 5]) (by intro j hj; simp at hj; rcases hj with rfl | rfl <;> assumption) rfl (by decide +kernel)
  refine C17_ve4 (D := pul ι_we4_1 D) (N := pul ι_we4_1 N) (F := pul ι_we4_1 F) (A := pul ι_we4_1 A) (HWs_sub HX vs_we4_1 hp) (show F 0 5 = (D 25 : Int) from hPF (0, 0, 5, 25) (List.mem_of_getElem? (i := 24) rfl) hg0 hg0) (show F 25 0 = (D 26 : Int) from hPF (0, 25, 0, 26) (List.mem_of_getElem? (i := 25) rfl) hg0 hg0) (show F 0 6 = (D 27 : Int) from hPF (0, 0, 6, 27) (List.mem_of_getElem? (i := 26) rfl) hg0 hg0) (show F 27 0 = (D 28 : Int) from hPF (0, 27, 0, 28) (List.mem_of_getElem? (i := 27) rfl) hg0 hg0) (show F 4 0 = (D 5 : Int) from hPF (0, 4, 0, 5) (List.mem_of_getElem? (i := 4) rfl) hg0 hg0) (show F 0 16 = (D 32 : Int) from hPF (0, 0, 16, 32) (List.mem_of_getElem? (i := 31) rfl) hg0 hg0) (show F 0 13 = (D 29 : Int) from hPF (0, 0, 13, 29) (List.mem_of_getElem? (i := 28) rfl) hg0 hg0) (show F 0 11 = (D 75 : Int) from hPF (0, 0, 11, 75) (List.mem_of_getElem? (i := 74) rfl) hg0 hg5) (show F 75 18 = (D 199 : Int) from hPF (0, 75, 18, 199) (List.mem_of_getElem? (i := 198) rfl) hg5 hg5) (show F 0 1 = (D 10 : Int) from hPF (0, 0, 1, 10) (List.mem_of_getElem? (i := 9) rfl) hg0 hg0) (N 26 : Int) rfl (N 28 : Int) rfl (N 5 : Int) rfl (N 32 : Int) rfl (N 29 : Int) rfl (N 199 : Int) rfl (N 10 : Int) rfl (F 4 1) rfl (F 25 1) rfl (F 27 1) rfl (A 10) rfl hl0 hl1 hl3 hl4 (show inr (x1) by assumption) (show inr y0 by assumption) (show 0 ≤ (F 25 1) ∧ (F 25 1) ≤ ((N 26 : Int)) ∧ ((N 26 : Int)) ≤ 65536 by assumption) (show 0 ≤ (F 27 1) ∧ (F 27 1) ≤ ((N 28 : Int)) ∧ ((N 28 : Int)) ≤ 65536 by assumption) (show 0 ≤ (F 4 1) ∧ (F 4 1) ≤ ((N 5 : Int)) ∧ ((N 5 : Int)) ≤ 65536 by assumption) (show (F 4 1) ≤ 16384 by assumption) (show ((N 32 : Int)) = 2 by assumption) (show ((N 29 : Int)) = 13 by assumption) (show ((N 199 : Int)) = 13 by omega) (show 1 ≤ ((A 10)) 2 ∧ ((A 10)) 2 ≤ 65536 by omega) (show 0 ≤ ((A 10)) 8 ∧ ((A 10)) 8 ≤ 11 by omega) (show 0 ≤ ((A 10)) 6 ∧ ((A 10)) 6 ≤ 255 by omega) (show ((N 10 : Int)) = 10 by assumption) (fun  ls σ F_c337 A_c337  lc337_0 lc337_1 H O hS_c337 hA_c337     jc337_0 => ?_) (fun z σₚ Fₚ Aₚ Hₚ O sf sa q0 q1 => ?_)
  · skip
    have sd : SD [] (pul ι_we4_1 D) (pul ι_we4_1 D) := SD_refl
    have sn : SD [] (pul ι_we4_1 N) (pul ι_we4_1 N) := SD_refl
    refine hc337   _ _ (glu ι_we4_1 D (pul ι_we4_1 D)) (glu ι_we4_1 N (pul ι_we4_1 N)) (glu ι_we4_1 F F_c337) (glu ι_we4_1 A A_c337) _ _ ⟨HWs_call HX VPH_3 vs_we4_1 hp H O, STC_call HT HX vs_we4_1 hp O, hg0, PFI_glue (dl := []) hPF hS_c337 hA_c337 sd (by decide +kernel) (rexc_of (l := []) (by decide +kernel) ?_), ABS_glue hAB hS_c337 (by decide +kernel), NZ_glue hNZ vs_we4_1 hp sn (by decide +kernel), hGI, ?_, ?_, ?_, ?_, ?_, ?_, ?_, ?_, ?_, ?_⟩ ⟨(STP0_call (STY_call vs_we4_1 hp O) (sd 0 rfl) (RM_call vs_we4_1 O)), unt1_of (x := 10) (by decide +kernel) (fun p hp => funext (hA_c337 p hp))⟩ lc337_0 lc337_1
    · intro e he h1 h2
      cases he
    · exact INV0_eq (EQD_glue hS_c337 hA_c337 sd sn (by decide +kernel)) hI0
    · exact fun h => INV1_eq (EQD_glue hS_c337 hA_c337 sd sn (by decide +kernel)) (hI1 h)
    · exact fun h => INV2_eq (EQD_glue hS_c337 hA_c337 sd sn (by decide +kernel)) (hI2 h)
    · exact fun h => INV3_eq (EQD_glue hS_c337 hA_c337 sd sn (by decide +kernel)) (hI3 h)
    · exact fun h => INV4_eq (EQD_glue hS_c337 hA_c337 sd sn (by decide +kernel)) (hI4 h)
    · exact fun h => INV5_eq (EQD_glue hS_c337 hA_c337 sd sn (by decide +kernel)) (hI5 h)
    · exact fun h => INV6_eq (EQD_glue hS_c337 hA_c337 sd sn (by decide +kernel)) (hI6 h)
    · exact fun h => INV7_eq (EQD_glue hS_c337 hA_c337 sd sn (by decide +kernel)) (hI7 h)
    · exact fun h => INV8_eq (EQD_glue hS_c337 hA_c337 sd sn (by decide +kernel)) (hI8 h)
    · exact fun h => INV9_eq (EQD_glue hS_c337 hA_c337 sd sn (by decide +kernel)) (hI9 h)
  · skip
    have sd : SD [] (pul ι_we4_1 D) (pul ι_we4_1 D) := SD_refl
    have sn : SD [] (pul ι_we4_1 N) (pul ι_we4_1 N) := SD_refl
    refine k z _ (glu ι_we4_1 D (pul ι_we4_1 D)) (glu ι_we4_1 N (pul ι_we4_1 N)) (glu ι_we4_1 F Fₚ) (glu ι_we4_1 A Aₚ) _ _ ⟨HWs_call HX VPH_3 vs_we4_1 hp Hₚ O, STC_call HT HX vs_we4_1 hp O, hg0, PFI_glue (dl := []) hPF sf sa sd (by decide +kernel) (rexc_of (l := []) (by decide +kernel) ?_), ABS_glue hAB sf (by decide +kernel), NZ_glue hNZ vs_we4_1 hp sn (by decide +kernel), hGI, ?_, ?_, ?_, ?_, ?_, ?_, ?_, ?_, ?_, ?_⟩ ⟨(STP0_call (STY_call vs_we4_1 hp O) (sd 0 rfl) (RM_call vs_we4_1 O)), unt1_of (x := 10) (by decide +kernel) (fun p hp => funext (sa p hp))⟩ (show inr z by assumption)
    · intro e he h1 h2
      cases he
    · exact INV0_eq (EQD_glue sf sa sd sn (by decide +kernel)) hI0
    · exact fun h => INV1_eq (EQD_glue sf sa sd sn (by decide +kernel)) (hI1 h)
    · exact fun h => INV2_eq (EQD_glue sf sa sd sn (by decide +kernel)) (hI2 h)
    · exact fun h => INV3_eq (EQD_glue sf sa sd sn (by decide +kernel)) (hI3 h)
    · exact fun h => INV4_eq (EQD_glue sf sa sd sn (by decide +kernel)) (hI4 h)
    · exact fun h => INV5_eq (EQD_glue sf sa sd sn (by decide +kernel)) (hI5 h)
    · exact fun h => INV6_eq (EQD_glue sf sa sd sn (by decide +kernel)) (hI6 h)
    · exact fun h => INV7_eq (EQD_glue sf sa sd sn (by decide +kernel)) (hI7 h)
    · exact fun h => INV8_eq (EQD_glue sf sa sd sn (by decide +kernel)) (hI8 h)
    · exact fun h => INV9_eq (EQD_glue sf sa sd sn (by decide +kernel)) (hI9 h)
def ι_we5_1 : List Nat := [0, 4, 25, 26, 5, 32, 10]
theorem vs_we5_1 : VS VPH V17_ve5 ι_we5_1 := VS_of (by decide +kernel)
set_option maxRecDepth 20000 in
theorem T_we5_1 {g : Nat → Bool} {σ : rS} {D N : Nat → Nat} {F : hF} {A : hA} {d c s : Nat} {Q : wQ} (X : PHI g σ D N F A)  {x1 : Int} {ls : rO} (hl0 : rlook ls 0 = some (.ref (D 0))) (hl1 : rlook ls 1 = some (I x1)) (hl3 : rlook ls 3 = some (I (5))) (hl4 : rlook ls 4 = some (.ref (D 4))) (h0 : inr x1) (x_0 : (F 4 1) ≤ 16384) (hc337 : ∀ (ls : rO) (σₚ : rS) (Dₚ Nₚ : Nat → Nat) (Fₚ : hF) (Aₚ : hA) (cₚ sₚ : Nat), PHI g σₚ Dₚ Nₚ Fₚ Aₚ → STP g σ D N A c s g σₚ Dₚ Nₚ Aₚ cₚ sₚ → rlook ls 0 = some (.ref (Dₚ 0)) → rlook ls 1 = some (I (x1)) → Ew 17 (d + 3) 337 ls [] σₚ cₚ sₚ Q) (k : ∀ (z : Int) (σₚ : rS) (Dₚ Nₚ : Nat → Nat) (Fₚ : hF) (Aₚ : hA) (cₚ sₚ : Nat), PHI g σₚ Dₚ Nₚ Fₚ Aₚ → STP g σ D N A c s g σₚ Dₚ Nₚ Aₚ cₚ sₚ → (inr z) → Q (some (I z)) σₚ cₚ sₚ) : Ew 17 (d + 3) 277 ls [] σ c s Q := by
  obtain ⟨HX, HT, hg0, hPF, hAB, hNZ, hGI, hI0, hI1, hI2, hI3, hI4, hI5, hI6, hI7, hI8, hI9⟩ := X
  have hset := SETI_f hI0.2.2.2.2.2.2.2.2.2.2.2.2.2.2.2.2.2
  have hJ0 := hI0
  unfold INV0 at hJ0
  obtain ⟨f0_0, f0_1, f0_2, f0_3, f0_4, f0_5, f0_6, f0_7, f0_8, f0_9, f0_10, f0_11, f0_12, f0_13, f0_14, f0_15, f0_16, f0_17⟩ := hJ0
  have hp : ∀ x, x < (V17_ve5).length → SPH g (ι_we5_1.getD x 0) = true := SPH_of (gs := [0]) (by intro j hj; simp at hj; subst hj; exact hg0) rfl (by decide +kernel)
  refine C17_ve5 (D := pul ι_we5_1 D) (N := pul ι_we5_1 N) (F := pul ι_we5_1 F) (A := pul ι_we5_1 A) (HWs_sub HX vs_we5_1 hp) (show F 0 5 = (D 25 : Int) from hPF (0, 0, 5, 25) (List.mem_of_getElem? (i := 24) rfl) hg0 hg0) (show F 25 0 = (D 26 : Int) from hPF (0, 25, 0, 26) (List.mem_of_getElem? (i := 25) rfl) hg0 hg0) (show F 4 0 = (D 5 : Int) from hPF (0, 4, 0, 5) (List.mem_of_getElem? (i := 4) rfl) hg0 hg0) (show F 0 16 = (D 32 : Int) from hPF (0, 0, 16, 32) (List.mem_of_getElem? (i := 31) rfl) hg0 hg0) (show F 0 1 = (D 10 : Int) from hPF (0, 0, 1, 10) (List.mem_of_getElem? (i := 9) rfl) hg0 hg0) (N 26 : Int) rfl (N 5 : Int) rfl (N 32 : Int) rfl (N 10 : Int) rfl (F 4 1) rfl (F 25 1) rfl (A 10) rfl hl0 hl1 hl3 hl4 (show inr (x1) by assumption) (show 0 ≤ (F 25 1) ∧ (F 25 1) ≤ ((N 26 : Int)) ∧ ((N 26 : Int)) ≤ 65536 by assumption) (show 0 ≤ (F 4 1) ∧ (F 4 1) ≤ ((N 5 : Int)) ∧ ((N 5 : Int)) ≤ 65536 by assumption) (show (F 4 1) ≤ 16384 by assumption) (show ((N 32 : Int)) = 2 by assumption) (show 1 ≤ ((A 10)) 2 ∧ ((A 10)) 2 ≤ 65536 by omega) (show 0 ≤ ((A 10)) 8 ∧ ((A 10)) 8 ≤ 11 by omega) (show 0 ≤ ((A 10)) 6 ∧ ((A 10)) 6 ≤ 255 by omega) (show ((N 10 : Int)) = 10 by assumption) (fun  ls σ F_c337 A_c337  lc337_0 lc337_1 H O hS_c337 hA_c337     jc337_0 => ?_) (fun z σₚ Fₚ Aₚ Hₚ O sf sa q0 q1 => ?_)
  · skip
    have sd : SD [] (pul ι_we5_1 D) (pul ι_we5_1 D) := SD_refl
    have sn : SD [] (pul ι_we5_1 N) (pul ι_we5_1 N) := SD_refl
    refine hc337   _ _ (glu ι_we5_1 D (pul ι_we5_1 D)) (glu ι_we5_1 N (pul ι_we5_1 N)) (glu ι_we5_1 F F_c337) (glu ι_we5_1 A A_c337) _ _ ⟨HWs_call HX VPH_3 vs_we5_1 hp H O, STC_call HT HX vs_we5_1 hp O, hg0, PFI_glue (dl := []) hPF hS_c337 hA_c337 sd (by decide +kernel) (rexc_of (l := []) (by decide +kernel) ?_), ABS_glue hAB hS_c337 (by decide +kernel), NZ_glue hNZ vs_we5_1 hp sn (by decide +kernel), hGI, ?_, ?_, ?_, ?_, ?_, ?_, ?_, ?_, ?_, ?_⟩ ⟨(STP0_call (STY_call vs_we5_1 hp O) (sd 0 rfl) (RM_call vs_we5_1 O)), unt1_of (x := 10) (by decide +kernel) (fun p hp => funext (hA_c337 p hp))⟩ lc337_0 lc337_1
    · intro e he h1 h2
      cases he
    · exact INV0_eq (EQD_glue hS_c337 hA_c337 sd sn (by decide +kernel)) hI0
    · exact fun h => INV1_eq (EQD_glue hS_c337 hA_c337 sd sn (by decide +kernel)) (hI1 h)
    · exact fun h => INV2_eq (EQD_glue hS_c337 hA_c337 sd sn (by decide +kernel)) (hI2 h)
    · exact fun h => INV3_eq (EQD_glue hS_c337 hA_c337 sd sn (by decide +kernel)) (hI3 h)
    · exact fun h => INV4_eq (EQD_glue hS_c337 hA_c337 sd sn (by decide +kernel)) (hI4 h)
    · exact fun h => INV5_eq (EQD_glue hS_c337 hA_c337 sd sn (by decide +kernel)) (hI5 h)
    · exact fun h => INV6_eq (EQD_glue hS_c337 hA_c337 sd sn (by decide +kernel)) (hI6 h)
    · exact fun h => INV7_eq (EQD_glue hS_c337 hA_c337 sd sn (by decide +kernel)) (hI7 h)
    · exact fun h => INV8_eq (EQD_glue hS_c337 hA_c337 sd sn (by decide +kernel)) (hI8 h)
    · exact fun h => INV9_eq (EQD_glue hS_c337 hA_c337 sd sn (by decide +kernel)) (hI9 h)
  · skip
    have sd : SD [] (pul ι_we5_1 D) (pul ι_we5_1 D) := SD_refl
    have sn : SD [] (pul ι_we5_1 N) (pul ι_we5_1 N) := SD_refl
    refine k z _ (glu ι_we5_1 D (pul ι_we5_1 D)) (glu ι_we5_1 N (pul ι_we5_1 N)) (glu ι_we5_1 F Fₚ) (glu ι_we5_1 A Aₚ) _ _ ⟨HWs_call HX VPH_3 vs_we5_1 hp Hₚ O, STC_call HT HX vs_we5_1 hp O, hg0, PFI_glue (dl := []) hPF sf sa sd (by decide +kernel) (rexc_of (l := []) (by decide +kernel) ?_), ABS_glue hAB sf (by decide +kernel), NZ_glue hNZ vs_we5_1 hp sn (by decide +kernel), hGI, ?_, ?_, ?_, ?_, ?_, ?_, ?_, ?_, ?_, ?_⟩ ⟨(STP0_call (STY_call vs_we5_1 hp O) (sd 0 rfl) (RM_call vs_we5_1 O)), unt1_of (x := 10) (by decide +kernel) (fun p hp => funext (sa p hp))⟩ (show inr z by assumption)
    · intro e he h1 h2
      cases he
    · exact INV0_eq (EQD_glue sf sa sd sn (by decide +kernel)) hI0
    · exact fun h => INV1_eq (EQD_glue sf sa sd sn (by decide +kernel)) (hI1 h)
    · exact fun h => INV2_eq (EQD_glue sf sa sd sn (by decide +kernel)) (hI2 h)
    · exact fun h => INV3_eq (EQD_glue sf sa sd sn (by decide +kernel)) (hI3 h)
    · exact fun h => INV4_eq (EQD_glue sf sa sd sn (by decide +kernel)) (hI4 h)
    · exact fun h => INV5_eq (EQD_glue sf sa sd sn (by decide +kernel)) (hI5 h)
    · exact fun h => INV6_eq (EQD_glue sf sa sd sn (by decide +kernel)) (hI6 h)
    · exact fun h => INV7_eq (EQD_glue sf sa sd sn (by decide +kernel)) (hI7 h)
    · exact fun h => INV8_eq (EQD_glue sf sa sd sn (by decide +kernel)) (hI8 h)
    · exact fun h => INV9_eq (EQD_glue sf sa sd sn (by decide +kernel)) (hI9 h)
def ι_we0_2 : List Nat := [0, 6, 25, 26, 27, 28, 7, 32, 10]
theorem vs_we0_2 : VS VPH V17_ve0 ι_we0_2 := VS_of (by decide +kernel)
set_option maxRecDepth 20000 in
theorem T_we0_2 {g : Nat → Bool} {σ : rS} {D N : Nat → Nat} {F : hF} {A : hA} {d c s : Nat} {Q : wQ} (X : PHI g σ D N F A)  {x1 y0 : Int} {ls : rO} (hl0 : rlook ls 0 = some (.ref (D 0))) (hl1 : rlook ls 1 = some (I x1)) (hl3 : rlook ls 3 = some (I (0))) (hl4 : rlook ls 4 = some (.ref (D 6))) (h0 : inr x1) (h1 : inr y0) (x_0 : (F 6 1) ≤ 16384) (hc337 : ∀ (ls : rO) (σₚ : rS) (Dₚ Nₚ : Nat → Nat) (Fₚ : hF) (Aₚ : hA) (cₚ sₚ : Nat), PHI g σₚ Dₚ Nₚ Fₚ Aₚ → STP g σ D N A c s g σₚ Dₚ Nₚ Aₚ cₚ sₚ → rlook ls 0 = some (.ref (Dₚ 0)) → rlook ls 1 = some (I (x1)) → Ew 17 (d + 3) 337 ls [] σₚ cₚ sₚ Q) (k : ∀ (z : Int) (σₚ : rS) (Dₚ Nₚ : Nat → Nat) (Fₚ : hF) (Aₚ : hA) (cₚ sₚ : Nat), PHI g σₚ Dₚ Nₚ Fₚ Aₚ → STP g σ D N A c s g σₚ Dₚ Nₚ Aₚ cₚ sₚ → (inr z) → Q (some (I z)) σₚ cₚ sₚ) : Ew 17 (d + 3) 239 ls [I y0] σ c s Q := by
  obtain ⟨HX, HT, hg0, hPF, hAB, hNZ, hGI, hI0, hI1, hI2, hI3, hI4, hI5, hI6, hI7, hI8, hI9⟩ := X
  have hset := SETI_f hI0.2.2.2.2.2.2.2.2.2.2.2.2.2.2.2.2.2
  have hJ0 := hI0
  unfold INV0 at hJ0
  obtain ⟨f0_0, f0_1, f0_2, f0_3, f0_4, f0_5, f0_6, f0_7, f0_8, f0_9, f0_10, f0_11, f0_12, f0_13, f0_14, f0_15, f0_16, f0_17⟩ := hJ0
  have hp : ∀ x, x < (V17_ve0).length → SPH g (ι_we0_2.getD x 0) = true := SPH_of (gs := [0]) (by intro j hj; simp at hj; subst hj; exact hg0) rfl (by decide +kernel)
  refine C17_ve0 (D := pul ι_we0_2 D) (N := pul ι_we0_2 N) (F := pul ι_we0_2 F) (A := pul ι_we0_2 A) (HWs_sub HX vs_we0_2 hp) (show F 0 5 = (D 25 : Int) from hPF (0, 0, 5, 25) (List.mem_of_getElem? (i := 24) rfl) hg0 hg0) (show F 25 0 = (D 26 : Int) from hPF (0, 25, 0, 26) (List.mem_of_getElem? (i := 25) rfl) hg0 hg0) (show F 0 6 = (D 27 : Int) from hPF (0, 0, 6, 27) (List.mem_of_getElem? (i := 26) rfl) hg0 hg0) (show F 27 0 = (D 28 : Int) from hPF (0, 27, 0, 28) (List.mem_of_getElem? (i := 27) rfl) hg0 hg0) (show F 6 0 = (D 7 : Int) from hPF (0, 6, 0, 7) (List.mem_of_getElem? (i := 6) rfl) hg0 hg0) (show F 0 16 = (D 32 : Int) from hPF (0, 0, 16, 32) (List.mem_of_getElem? (i := 31) rfl) hg0 hg0) (show F 0 1 = (D 10 : Int) from hPF (0, 0, 1, 10) (List.mem_of_getElem? (i := 9) rfl) hg0 hg0) (N 26 : Int) rfl (N 28 : Int) rfl (N 7 : Int) rfl (N 32 : Int) rfl (N 10 : Int) rfl (F 6 1) rfl (F 25 1) rfl (F 27 1) rfl (A 10) rfl hl0 hl1 hl3 hl4 (show inr (x1) by assumption) (show inr y0 by assumption) (show 0 ≤ (F 25 1) ∧ (F 25 1) ≤ ((N 26 : Int)) ∧ ((N 26 : Int)) ≤ 65536 by assumption) (show 0 ≤ (F 27 1) ∧ (F 27 1) ≤ ((N 28 : Int)) ∧ ((N 28 : Int)) ≤ 65536 by assumption) (show 0 ≤ (F 6 1) ∧ (F 6 1) ≤ ((N 7 : Int)) ∧ ((N 7 : Int)) ≤ 65536 by assumption) (show (F 6 1) ≤ 16384 by assumption) (show ((N 32 : Int)) = 2 by assumption) (show 1 ≤ ((A 10)) 2 ∧ ((A 10)) 2 ≤ 65536 by omega) (show 0 ≤ ((A 10)) 8 ∧ ((A 10)) 8 ≤ 11 by omega) (show 0 ≤ ((A 10)) 6 ∧ ((A 10)) 6 ≤ 255 by omega) (show ((N 10 : Int)) = 10 by assumption) (fun  ls σ F_c337 A_c337  lc337_0 lc337_1 H O hS_c337 hA_c337     jc337_0 => ?_) (fun z σₚ Fₚ Aₚ Hₚ O sf sa q0 q1 => ?_)
  · skip
    have sd : SD [] (pul ι_we0_2 D) (pul ι_we0_2 D) := SD_refl
    have sn : SD [] (pul ι_we0_2 N) (pul ι_we0_2 N) := SD_refl
    refine hc337   _ _ (glu ι_we0_2 D (pul ι_we0_2 D)) (glu ι_we0_2 N (pul ι_we0_2 N)) (glu ι_we0_2 F F_c337) (glu ι_we0_2 A A_c337) _ _ ⟨HWs_call HX VPH_3 vs_we0_2 hp H O, STC_call HT HX vs_we0_2 hp O, hg0, PFI_glue (dl := []) hPF hS_c337 hA_c337 sd (by decide +kernel) (rexc_of (l := []) (by decide +kernel) ?_), ABS_glue hAB hS_c337 (by decide +kernel), NZ_glue hNZ vs_we0_2 hp sn (by decide +kernel), hGI, ?_, ?_, ?_, ?_, ?_, ?_, ?_, ?_, ?_, ?_⟩ ⟨(STP0_call (STY_call vs_we0_2 hp O) (sd 0 rfl) (RM_call vs_we0_2 O)), unt1_of (x := 10) (by decide +kernel) (fun p hp => funext (hA_c337 p hp))⟩ lc337_0 lc337_1
    · intro e he h1 h2
      cases he
    · exact INV0_eq (EQD_glue hS_c337 hA_c337 sd sn (by decide +kernel)) hI0
    · exact fun h => INV1_eq (EQD_glue hS_c337 hA_c337 sd sn (by decide +kernel)) (hI1 h)
    · exact fun h => INV2_eq (EQD_glue hS_c337 hA_c337 sd sn (by decide +kernel)) (hI2 h)
    · exact fun h => INV3_eq (EQD_glue hS_c337 hA_c337 sd sn (by decide +kernel)) (hI3 h)
    · exact fun h => INV4_eq (EQD_glue hS_c337 hA_c337 sd sn (by decide +kernel)) (hI4 h)
    · exact fun h => INV5_eq (EQD_glue hS_c337 hA_c337 sd sn (by decide +kernel)) (hI5 h)
    · exact fun h => INV6_eq (EQD_glue hS_c337 hA_c337 sd sn (by decide +kernel)) (hI6 h)
    · exact fun h => INV7_eq (EQD_glue hS_c337 hA_c337 sd sn (by decide +kernel)) (hI7 h)
    · exact fun h => INV8_eq (EQD_glue hS_c337 hA_c337 sd sn (by decide +kernel)) (hI8 h)
    · exact fun h => INV9_eq (EQD_glue hS_c337 hA_c337 sd sn (by decide +kernel)) (hI9 h)
  · skip
    have sd : SD [] (pul ι_we0_2 D) (pul ι_we0_2 D) := SD_refl
    have sn : SD [] (pul ι_we0_2 N) (pul ι_we0_2 N) := SD_refl
    refine k z _ (glu ι_we0_2 D (pul ι_we0_2 D)) (glu ι_we0_2 N (pul ι_we0_2 N)) (glu ι_we0_2 F Fₚ) (glu ι_we0_2 A Aₚ) _ _ ⟨HWs_call HX VPH_3 vs_we0_2 hp Hₚ O, STC_call HT HX vs_we0_2 hp O, hg0, PFI_glue (dl := []) hPF sf sa sd (by decide +kernel) (rexc_of (l := []) (by decide +kernel) ?_), ABS_glue hAB sf (by decide +kernel), NZ_glue hNZ vs_we0_2 hp sn (by decide +kernel), hGI, ?_, ?_, ?_, ?_, ?_, ?_, ?_, ?_, ?_, ?_⟩ ⟨(STP0_call (STY_call vs_we0_2 hp O) (sd 0 rfl) (RM_call vs_we0_2 O)), unt1_of (x := 10) (by decide +kernel) (fun p hp => funext (sa p hp))⟩ (show inr z by assumption)
    · intro e he h1 h2
      cases he
    · exact INV0_eq (EQD_glue sf sa sd sn (by decide +kernel)) hI0
    · exact fun h => INV1_eq (EQD_glue sf sa sd sn (by decide +kernel)) (hI1 h)
    · exact fun h => INV2_eq (EQD_glue sf sa sd sn (by decide +kernel)) (hI2 h)
    · exact fun h => INV3_eq (EQD_glue sf sa sd sn (by decide +kernel)) (hI3 h)
    · exact fun h => INV4_eq (EQD_glue sf sa sd sn (by decide +kernel)) (hI4 h)
    · exact fun h => INV5_eq (EQD_glue sf sa sd sn (by decide +kernel)) (hI5 h)
    · exact fun h => INV6_eq (EQD_glue sf sa sd sn (by decide +kernel)) (hI6 h)
    · exact fun h => INV7_eq (EQD_glue sf sa sd sn (by decide +kernel)) (hI7 h)
    · exact fun h => INV8_eq (EQD_glue sf sa sd sn (by decide +kernel)) (hI8 h)
    · exact fun h => INV9_eq (EQD_glue sf sa sd sn (by decide +kernel)) (hI9 h)
def ι_we1_2 : List Nat := [0, 6, 25, 26, 27, 28, 7, 32, 10]
theorem vs_we1_2 : VS VPH V17_ve1 ι_we1_2 := VS_of (by decide +kernel)
set_option maxRecDepth 20000 in
theorem T_we1_2 {g : Nat → Bool} {σ : rS} {D N : Nat → Nat} {F : hF} {A : hA} {d c s : Nat} {Q : wQ} (X : PHI g σ D N F A)  {x1 y0 : Int} {ls : rO} (hl0 : rlook ls 0 = some (.ref (D 0))) (hl1 : rlook ls 1 = some (I x1)) (hl3 : rlook ls 3 = some (I (1))) (hl4 : rlook ls 4 = some (.ref (D 6))) (h0 : inr x1) (h1 : inr y0) (x_0 : (F 6 1) ≤ 16384) (hc337 : ∀ (ls : rO) (σₚ : rS) (Dₚ Nₚ : Nat → Nat) (Fₚ : hF) (Aₚ : hA) (cₚ sₚ : Nat), PHI g σₚ Dₚ Nₚ Fₚ Aₚ → STP g σ D N A c s g σₚ Dₚ Nₚ Aₚ cₚ sₚ → rlook ls 0 = some (.ref (Dₚ 0)) → rlook ls 1 = some (I (x1)) → Ew 17 (d + 3) 337 ls [] σₚ cₚ sₚ Q) (k : ∀ (z : Int) (σₚ : rS) (Dₚ Nₚ : Nat → Nat) (Fₚ : hF) (Aₚ : hA) (cₚ sₚ : Nat), PHI g σₚ Dₚ Nₚ Fₚ Aₚ → STP g σ D N A c s g σₚ Dₚ Nₚ Aₚ cₚ sₚ → (inr z) → Q (some (I z)) σₚ cₚ sₚ) : Ew 17 (d + 3) 239 ls [I y0] σ c s Q := by
  obtain ⟨HX, HT, hg0, hPF, hAB, hNZ, hGI, hI0, hI1, hI2, hI3, hI4, hI5, hI6, hI7, hI8, hI9⟩ := X
  have hset := SETI_f hI0.2.2.2.2.2.2.2.2.2.2.2.2.2.2.2.2.2
  have hJ0 := hI0
  unfold INV0 at hJ0
  obtain ⟨f0_0, f0_1, f0_2, f0_3, f0_4, f0_5, f0_6, f0_7, f0_8, f0_9, f0_10, f0_11, f0_12, f0_13, f0_14, f0_15, f0_16, f0_17⟩ := hJ0
  have hp : ∀ x, x < (V17_ve1).length → SPH g (ι_we1_2.getD x 0) = true := SPH_of (gs := [0]) (by intro j hj; simp at hj; subst hj; exact hg0) rfl (by decide +kernel)
  refine C17_ve1 (D := pul ι_we1_2 D) (N := pul ι_we1_2 N) (F := pul ι_we1_2 F) (A := pul ι_we1_2 A) (HWs_sub HX vs_we1_2 hp) (show F 0 5 = (D 25 : Int) from hPF (0, 0, 5, 25) (List.mem_of_getElem? (i := 24) rfl) hg0 hg0) (show F 25 0 = (D 26 : Int) from hPF (0, 25, 0, 26) (List.mem_of_getElem? (i := 25) rfl) hg0 hg0) (show F 0 6 = (D 27 : Int) from hPF (0, 0, 6, 27) (List.mem_of_getElem? (i := 26) rfl) hg0 hg0) (show F 27 0 = (D 28 : Int) from hPF (0, 27, 0, 28) (List.mem_of_getElem? (i := 27) rfl) hg0 hg0) (show F 6 0 = (D 7 : Int) from hPF (0, 6, 0, 7) (List.mem_of_getElem? (i := 6) rfl) hg0 hg0) (show F 0 16 = (D 32 : Int) from hPF (0, 0, 16, 32) (List.mem_of_getElem? (i := 31) rfl) hg0 hg0) (show F 0 1 = (D 10 : Int) from hPF (0, 0, 1, 10) (List.mem_of_getElem? (i := 9) rfl) hg0 hg0) (N 26 : Int) rfl (N 28 : Int) rfl (N 7 : Int) rfl (N 32 : Int) rfl (N 10 : Int) rfl (F 6 1) rfl (F 25 1) rfl (F 27 1) rfl (A 10) rfl hl0 hl1 hl3 hl4 (show inr (x1) by assumption) (show inr y0 by assumption) (show 0 ≤ (F 25 1) ∧ (F 25 1) ≤ ((N 26 : Int)) ∧ ((N 26 : Int)) ≤ 65536 by assumption) (show 0 ≤ (F 27 1) ∧ (F 27 1) ≤ ((N 28 : Int)) ∧ ((N 28 : Int)) ≤ 65536 by assumption) (show 0 ≤ (F 6 1) ∧ (F 6 1) ≤ ((N 7 : Int)) ∧ ((N 7 : Int)) ≤ 65536 by assumption) (show (F 6 1) ≤ 16384 by assumption) (show ((N 32 : Int)) = 2 by assumption) (show 1 ≤ ((A 10)) 2 ∧ ((A 10)) 2 ≤ 65536 by omega) (show 0 ≤ ((A 10)) 8 ∧ ((A 10)) 8 ≤ 11 by omega) (show 0 ≤ ((A 10)) 6 ∧ ((A 10)) 6 ≤ 255 by omega) (show ((N 10 : Int)) = 10 by assumption) (fun  ls σ F_c337 A_c337  lc337_0 lc337_1 H O hS_c337 hA_c337     jc337_0 => ?_) (fun z σₚ Fₚ Aₚ Hₚ O sf sa q0 q1 => ?_)
  · skip
    have sd : SD [] (pul ι_we1_2 D) (pul ι_we1_2 D) := SD_refl
    have sn : SD [] (pul ι_we1_2 N) (pul ι_we1_2 N) := SD_refl
    refine hc337   _ _ (glu ι_we1_2 D (pul ι_we1_2 D)) (glu ι_we1_2 N (pul ι_we1_2 N)) (glu ι_we1_2 F F_c337) (glu ι_we1_2 A A_c337) _ _ ⟨HWs_call HX VPH_3 vs_we1_2 hp H O, STC_call HT HX vs_we1_2 hp O, hg0, PFI_glue (dl := []) hPF hS_c337 hA_c337 sd (by decide +kernel) (rexc_of (l := []) (by decide +kernel) ?_), ABS_glue hAB hS_c337 (by decide +kernel), NZ_glue hNZ vs_we1_2 hp sn (by decide +kernel), hGI, ?_, ?_, ?_, ?_, ?_, ?_, ?_, ?_, ?_, ?_⟩ ⟨(STP0_call (STY_call vs_we1_2 hp O) (sd 0 rfl) (RM_call vs_we1_2 O)), unt1_of (x := 10) (by decide +kernel) (fun p hp => funext (hA_c337 p hp))⟩ lc337_0 lc337_1
    · intro e he h1 h2
      cases he
    · exact INV0_eq (EQD_glue hS_c337 hA_c337 sd sn (by decide +kernel)) hI0
    · exact fun h => INV1_eq (EQD_glue hS_c337 hA_c337 sd sn (by decide +kernel)) (hI1 h)
    · exact fun h => INV2_eq (EQD_glue hS_c337 hA_c337 sd sn (by decide +kernel)) (hI2 h)
    · exact fun h => INV3_eq (EQD_glue hS_c337 hA_c337 sd sn (by decide +kernel)) (hI3 h)
    · exact fun h => INV4_eq (EQD_glue hS_c337 hA_c337 sd sn (by decide +kernel)) (hI4 h)
    · exact fun h => INV5_eq (EQD_glue hS_c337 hA_c337 sd sn (by decide +kernel)) (hI5 h)
    · exact fun h => INV6_eq (EQD_glue hS_c337 hA_c337 sd sn (by decide +kernel)) (hI6 h)
    · exact fun h => INV7_eq (EQD_glue hS_c337 hA_c337 sd sn (by decide +kernel)) (hI7 h)
    · exact fun h => INV8_eq (EQD_glue hS_c337 hA_c337 sd sn (by decide +kernel)) (hI8 h)
    · exact fun h => INV9_eq (EQD_glue hS_c337 hA_c337 sd sn (by decide +kernel)) (hI9 h)
  · skip
    have sd : SD [] (pul ι_we1_2 D) (pul ι_we1_2 D) := SD_refl
    have sn : SD [] (pul ι_we1_2 N) (pul ι_we1_2 N) := SD_refl
    refine k z _ (glu ι_we1_2 D (pul ι_we1_2 D)) (glu ι_we1_2 N (pul ι_we1_2 N)) (glu ι_we1_2 F Fₚ) (glu ι_we1_2 A Aₚ) _ _ ⟨HWs_call HX VPH_3 vs_we1_2 hp Hₚ O, STC_call HT HX vs_we1_2 hp O, hg0, PFI_glue (dl := []) hPF sf sa sd (by decide +kernel) (rexc_of (l := []) (by decide +kernel) ?_), ABS_glue hAB sf (by decide +kernel), NZ_glue hNZ vs_we1_2 hp sn (by decide +kernel), hGI, ?_, ?_, ?_, ?_, ?_, ?_, ?_, ?_, ?_, ?_⟩ ⟨(STP0_call (STY_call vs_we1_2 hp O) (sd 0 rfl) (RM_call vs_we1_2 O)), unt1_of (x := 10) (by decide +kernel) (fun p hp => funext (sa p hp))⟩ (show inr z by assumption)
    · intro e he h1 h2
      cases he
    · exact INV0_eq (EQD_glue sf sa sd sn (by decide +kernel)) hI0
    · exact fun h => INV1_eq (EQD_glue sf sa sd sn (by decide +kernel)) (hI1 h)
    · exact fun h => INV2_eq (EQD_glue sf sa sd sn (by decide +kernel)) (hI2 h)
    · exact fun h => INV3_eq (EQD_glue sf sa sd sn (by decide +kernel)) (hI3 h)
    · exact fun h => INV4_eq (EQD_glue sf sa sd sn (by decide +kernel)) (hI4 h)
    · exact fun h => INV5_eq (EQD_glue sf sa sd sn (by decide +kernel)) (hI5 h)
    · exact fun h => INV6_eq (EQD_glue sf sa sd sn (by decide +kernel)) (hI6 h)
    · exact fun h => INV7_eq (EQD_glue sf sa sd sn (by decide +kernel)) (hI7 h)
    · exact fun h => INV8_eq (EQD_glue sf sa sd sn (by decide +kernel)) (hI8 h)
    · exact fun h => INV9_eq (EQD_glue sf sa sd sn (by decide +kernel)) (hI9 h)
def ι_we2_2 : List Nat := [0, 6, 25, 26, 27, 28, 7, 32, 10]
theorem vs_we2_2 : VS VPH V17_ve2 ι_we2_2 := VS_of (by decide +kernel)
set_option maxRecDepth 20000 in
theorem T_we2_2 {g : Nat → Bool} {σ : rS} {D N : Nat → Nat} {F : hF} {A : hA} {d c s : Nat} {Q : wQ} (X : PHI g σ D N F A)  {x1 y0 : Int} {ls : rO} (hl0 : rlook ls 0 = some (.ref (D 0))) (hl1 : rlook ls 1 = some (I x1)) (hl3 : rlook ls 3 = some (I (2))) (hl4 : rlook ls 4 = some (.ref (D 6))) (h0 : inr x1) (h1 : inr y0) (x_0 : (F 6 1) ≤ 16384) (hc337 : ∀ (ls : rO) (σₚ : rS) (Dₚ Nₚ : Nat → Nat) (Fₚ : hF) (Aₚ : hA) (cₚ sₚ : Nat), PHI g σₚ Dₚ Nₚ Fₚ Aₚ → STP g σ D N A c s g σₚ Dₚ Nₚ Aₚ cₚ sₚ → rlook ls 0 = some (.ref (Dₚ 0)) → rlook ls 1 = some (I (x1)) → Ew 17 (d + 3) 337 ls [] σₚ cₚ sₚ Q) (k : ∀ (z : Int) (σₚ : rS) (Dₚ Nₚ : Nat → Nat) (Fₚ : hF) (Aₚ : hA) (cₚ sₚ : Nat), PHI g σₚ Dₚ Nₚ Fₚ Aₚ → STP g σ D N A c s g σₚ Dₚ Nₚ Aₚ cₚ sₚ → (inr z) → Q (some (I z)) σₚ cₚ sₚ) : Ew 17 (d + 3) 239 ls [I y0] σ c s Q := by
  obtain ⟨HX, HT, hg0, hPF, hAB, hNZ, hGI, hI0, hI1, hI2, hI3, hI4, hI5, hI6, hI7, hI8, hI9⟩ := X
  have hset := SETI_f hI0.2.2.2.2.2.2.2.2.2.2.2.2.2.2.2.2.2
  have hJ0 := hI0
  unfold INV0 at hJ0
  obtain ⟨f0_0, f0_1, f0_2, f0_3, f0_4, f0_5, f0_6, f0_7, f0_8, f0_9, f0_10, f0_11, f0_12, f0_13, f0_14, f0_15, f0_16, f0_17⟩ := hJ0
  have hp : ∀ x, x < (V17_ve2).length → SPH g (ι_we2_2.getD x 0) = true := SPH_of (gs := [0]) (by intro j hj; simp at hj; subst hj; exact hg0) rfl (by decide +kernel)
  refine C17_ve2 (D := pul ι_we2_2 D) (N := pul ι_we2_2 N) (F := pul ι_we2_2 F) (A := pul ι_we2_2 A) (HWs_sub HX vs_we2_2 hp) (show F 0 5 = (D 25 : Int) from hPF (0, 0, 5, 25) (List.mem_of_getElem? (i := 24) rfl) hg0 hg0) (show F 25 0 = (D 26 : Int) from hPF (0, 25, 0, 26) (List.mem_of_getElem? (i := 25) rfl) hg0 hg0) (show F 0 6 = (D 27 : Int) from hPF (0, 0, 6, 27) (List.mem_of_getElem? (i := 26) rfl) hg0 hg0) (show F 27 0 = (D 28 : Int) from hPF (0, 27, 0, 28) (List.mem_of_getElem? (i := 27) rfl) hg0 hg0) (show F 6 0 = (D 7 : Int) from hPF (0, 6, 0, 7) (List.mem_of_getElem? (i := 6) rfl) hg0 hg0) (show F 0 16 = (D 32 : Int) from hPF (0, 0, 16, 32) (List.mem_of_getElem? (i := 31) rfl) hg0 hg0) (show F 0 1 = (D 10 : Int) from hPF (0, 0, 1, 10) (List.mem_of_getElem? (i := 9) rfl) hg0 hg0) (N 26 : Int) rfl (N 28 : Int) rfl (N 7 : Int) rfl (N 32 : Int) rfl (N 10 : Int) rfl (F 6 1) rfl (F 25 1) rfl (F 27 1) rfl (A 10) rfl hl0 hl1 hl3 hl4 (show inr (x1) by assumption) (show inr y0 by assumption) (show 0 ≤ (F 25 1) ∧ (F 25 1) ≤ ((N 26 : Int)) ∧ ((N 26 : Int)) ≤ 65536 by assumption) (show 0 ≤ (F 27 1) ∧ (F 27 1) ≤ ((N 28 : Int)) ∧ ((N 28 : Int)) ≤ 65536 by assumption) (show 0 ≤ (F 6 1) ∧ (F 6 1) ≤ ((N 7 : Int)) ∧ ((N 7 : Int)) ≤ 65536 by assumption) (show (F 6 1) ≤ 16384 by assumption) (show ((N 32 : Int)) = 2 by assumption) (show 1 ≤ ((A 10)) 2 ∧ ((A 10)) 2 ≤ 65536 by omega) (show 0 ≤ ((A 10)) 8 ∧ ((A 10)) 8 ≤ 11 by omega) (show 0 ≤ ((A 10)) 6 ∧ ((A 10)) 6 ≤ 255 by omega) (show ((N 10 : Int)) = 10 by assumption) (fun  ls σ F_c337 A_c337  lc337_0 lc337_1 H O hS_c337 hA_c337     jc337_0 => ?_) (fun z σₚ Fₚ Aₚ Hₚ O sf sa q0 q1 => ?_)
  · skip
    have sd : SD [] (pul ι_we2_2 D) (pul ι_we2_2 D) := SD_refl
    have sn : SD [] (pul ι_we2_2 N) (pul ι_we2_2 N) := SD_refl
    refine hc337   _ _ (glu ι_we2_2 D (pul ι_we2_2 D)) (glu ι_we2_2 N (pul ι_we2_2 N)) (glu ι_we2_2 F F_c337) (glu ι_we2_2 A A_c337) _ _ ⟨HWs_call HX VPH_3 vs_we2_2 hp H O, STC_call HT HX vs_we2_2 hp O, hg0, PFI_glue (dl := []) hPF hS_c337 hA_c337 sd (by decide +kernel) (rexc_of (l := []) (by decide +kernel) ?_), ABS_glue hAB hS_c337 (by decide +kernel), NZ_glue hNZ vs_we2_2 hp sn (by decide +kernel), hGI, ?_, ?_, ?_, ?_, ?_, ?_, ?_, ?_, ?_, ?_⟩ ⟨(STP0_call (STY_call vs_we2_2 hp O) (sd 0 rfl) (RM_call vs_we2_2 O)), unt1_of (x := 10) (by decide +kernel) (fun p hp => funext (hA_c337 p hp))⟩ lc337_0 lc337_1
    · intro e he h1 h2
      cases he
    · exact INV0_eq (EQD_glue hS_c337 hA_c337 sd sn (by decide +kernel)) hI0
    · exact fun h => INV1_eq (EQD_glue hS_c337 hA_c337 sd sn (by decide +kernel)) (hI1 h)
    · exact fun h => INV2_eq (EQD_glue hS_c337 hA_c337 sd sn (by decide +kernel)) (hI2 h)
    · exact fun h => INV3_eq (EQD_glue hS_c337 hA_c337 sd sn (by decide +kernel)) (hI3 h)
    · exact fun h => INV4_eq (EQD_glue hS_c337 hA_c337 sd sn (by decide +kernel)) (hI4 h)
    · exact fun h => INV5_eq (EQD_glue hS_c337 hA_c337 sd sn (by decide +kernel)) (hI5 h)
    · exact fun h => INV6_eq (EQD_glue hS_c337 hA_c337 sd sn (by decide +kernel)) (hI6 h)
    · exact fun h => INV7_eq (EQD_glue hS_c337 hA_c337 sd sn (by decide +kernel)) (hI7 h)
    · exact fun h => INV8_eq (EQD_glue hS_c337 hA_c337 sd sn (by decide +kernel)) (hI8 h)
    · exact fun h => INV9_eq (EQD_glue hS_c337 hA_c337 sd sn (by decide +kernel)) (hI9 h)
  · skip
    have sd : SD [] (pul ι_we2_2 D) (pul ι_we2_2 D) := SD_refl
    have sn : SD [] (pul ι_we2_2 N) (pul ι_we2_2 N) := SD_refl
    refine k z _ (glu ι_we2_2 D (pul ι_we2_2 D)) (glu ι_we2_2 N (pul ι_we2_2 N)) (glu ι_we2_2 F Fₚ) (glu ι_we2_2 A Aₚ) _ _ ⟨HWs_call HX VPH_3 vs_we2_2 hp Hₚ O, STC_call HT HX vs_we2_2 hp O, hg0, PFI_glue (dl := []) hPF sf sa sd (by decide +kernel) (rexc_of (l := []) (by decide +kernel) ?_), ABS_glue hAB sf (by decide +kernel), NZ_glue hNZ vs_we2_2 hp sn (by decide +kernel), hGI, ?_, ?_, ?_, ?_, ?_, ?_, ?_, ?_, ?_, ?_⟩ ⟨(STP0_call (STY_call vs_we2_2 hp O) (sd 0 rfl) (RM_call vs_we2_2 O)), unt1_of (x := 10) (by decide +kernel) (fun p hp => funext (sa p hp))⟩ (show inr z by assumption)
    · intro e he h1 h2
      cases he
    · exact INV0_eq (EQD_glue sf sa sd sn (by decide +kernel)) hI0
    · exact fun h => INV1_eq (EQD_glue sf sa sd sn (by decide +kernel)) (hI1 h)
    · exact fun h => INV2_eq (EQD_glue sf sa sd sn (by decide +kernel)) (hI2 h)
    · exact fun h => INV3_eq (EQD_glue sf sa sd sn (by decide +kernel)) (hI3 h)
    · exact fun h => INV4_eq (EQD_glue sf sa sd sn (by decide +kernel)) (hI4 h)
    · exact fun h => INV5_eq (EQD_glue sf sa sd sn (by decide +kernel)) (hI5 h)
    · exact fun h => INV6_eq (EQD_glue sf sa sd sn (by decide +kernel)) (hI6 h)
    · exact fun h => INV7_eq (EQD_glue sf sa sd sn (by decide +kernel)) (hI7 h)
    · exact fun h => INV8_eq (EQD_glue sf sa sd sn (by decide +kernel)) (hI8 h)
    · exact fun h => INV9_eq (EQD_glue sf sa sd sn (by decide +kernel)) (hI9 h)
def ι_we3_2 : List Nat := [0, 6, 25, 26, 27, 28, 7, 32, 10]
theorem vs_we3_2 : VS VPH V17_ve3 ι_we3_2 := VS_of (by decide +kernel)
set_option maxRecDepth 20000 in
theorem T_we3_2 {g : Nat → Bool} {σ : rS} {D N : Nat → Nat} {F : hF} {A : hA} {d c s : Nat} {Q : wQ} (X : PHI g σ D N F A)  {x1 y0 : Int} {ls : rO} (hl0 : rlook ls 0 = some (.ref (D 0))) (hl1 : rlook ls 1 = some (I x1)) (hl3 : rlook ls 3 = some (I (3))) (hl4 : rlook ls 4 = some (.ref (D 6))) (h0 : inr x1) (h1 : inr y0) (x_0 : (F 6 1) ≤ 16384) (hc337 : ∀ (ls : rO) (σₚ : rS) (Dₚ Nₚ : Nat → Nat) (Fₚ : hF) (Aₚ : hA) (cₚ sₚ : Nat), PHI g σₚ Dₚ Nₚ Fₚ Aₚ → STP g σ D N A c s g σₚ Dₚ Nₚ Aₚ cₚ sₚ → rlook ls 0 = some (.ref (Dₚ 0)) → rlook ls 1 = some (I (x1)) → Ew 17 (d + 3) 337 ls [] σₚ cₚ sₚ Q) (k : ∀ (z : Int) (σₚ : rS) (Dₚ Nₚ : Nat → Nat) (Fₚ : hF) (Aₚ : hA) (cₚ sₚ : Nat), PHI g σₚ Dₚ Nₚ Fₚ Aₚ → STP g σ D N A c s g σₚ Dₚ Nₚ Aₚ cₚ sₚ → (inr z) → Q (some (I z)) σₚ cₚ sₚ) : Ew 17 (d + 3) 239 ls [I y0] σ c s Q := by
  obtain ⟨HX, HT, hg0, hPF, hAB, hNZ, hGI, hI0, hI1, hI2, hI3, hI4, hI5, hI6, hI7, hI8, hI9⟩ := X
  have hset := SETI_f hI0.2.2.2.2.2.2.2.2.2.2.2.2.2.2.2.2.2
  have hJ0 := hI0
  unfold INV0 at hJ0
  obtain ⟨f0_0, f0_1, f0_2, f0_3, f0_4, f0_5, f0_6, f0_7, f0_8, f0_9, f0_10, f0_11, f0_12, f0_13, f0_14, f0_15, f0_16, f0_17⟩ := hJ0
  have hp : ∀ x, x < (V17_ve3).length → SPH g (ι_we3_2.getD x 0) = true := SPH_of (gs := [0]) (by intro j hj; simp at hj; subst hj; exact hg0) rfl (by decide +kernel)
  refine C17_ve3 (D := pul ι_we3_2 D) (N := pul ι_we3_2 N) (F := pul ι_we3_2 F) (A := pul ι_we3_2 A) (HWs_sub HX vs_we3_2 hp) (show F 0 5 = (D 25 : Int) from hPF (0, 0, 5, 25) (List.mem_of_getElem? (i := 24) rfl) hg0 hg0) (show F 25 0 = (D 26 : Int) from hPF (0, 25, 0, 26) (List.mem_of_getElem? (i := 25) rfl) hg0 hg0) (show F 0 6 = (D 27 : Int) from hPF (0, 0, 6, 27) (List.mem_of_getElem? (i := 26) rfl) hg0 hg0) (show F 27 0 = (D 28 : Int) from hPF (0, 27, 0, 28) (List.mem_of_getElem? (i := 27) rfl) hg0 hg0) (show F 6 0 = (D 7 : Int) from hPF (0, 6, 0, 7) (List.mem_of_getElem? (i := 6) rfl) hg0 hg0) (show F 0 16 = (D 32 : Int) from hPF (0, 0, 16, 32) (List.mem_of_getElem? (i := 31) rfl) hg0 hg0) (show F 0 1 = (D 10 : Int) from hPF (0, 0, 1, 10) (List.mem_of_getElem? (i := 9) rfl) hg0 hg0) (N 26 : Int) rfl (N 28 : Int) rfl (N 7 : Int) rfl (N 32 : Int) rfl (N 10 : Int) rfl (F 6 1) rfl (F 25 1) rfl (F 27 1) rfl (A 10) rfl hl0 hl1 hl3 hl4 (show inr (x1) by assumption) (show inr y0 by assumption) (show 0 ≤ (F 25 1) ∧ (F 25 1) ≤ ((N 26 : Int)) ∧ ((N 26 : Int)) ≤ 65536 by assumption) (show 0 ≤ (F 27 1) ∧ (F 27 1) ≤ ((N 28 : Int)) ∧ ((N 28 : Int)) ≤ 65536 by assumption) (show 0 ≤ (F 6 1) ∧ (F 6 1) ≤ ((N 7 : Int)) ∧ ((N 7 : Int)) ≤ 65536 by assumption) (show (F 6 1) ≤ 16384 by assumption) (show ((N 32 : Int)) = 2 by assumption) (show 1 ≤ ((A 10)) 2 ∧ ((A 10)) 2 ≤ 65536 by omega) (show 0 ≤ ((A 10)) 8 ∧ ((A 10)) 8 ≤ 11 by omega) (show 0 ≤ ((A 10)) 6 ∧ ((A 10)) 6 ≤ 255 by omega) (show ((N 10 : Int)) = 10 by assumption) (fun  ls σ F_c337 A_c337  lc337_0 lc337_1 H O hS_c337 hA_c337     jc337_0 => ?_) (fun z σₚ Fₚ Aₚ Hₚ O sf sa q0 q1 => ?_)
  · skip
    have sd : SD [] (pul ι_we3_2 D) (pul ι_we3_2 D) := SD_refl
    have sn : SD [] (pul ι_we3_2 N) (pul ι_we3_2 N) := SD_refl
    refine hc337   _ _ (glu ι_we3_2 D (pul ι_we3_2 D)) (glu ι_we3_2 N (pul ι_we3_2 N)) (glu ι_we3_2 F F_c337) (glu ι_we3_2 A A_c337) _ _ ⟨HWs_call HX VPH_3 vs_we3_2 hp H O, STC_call HT HX vs_we3_2 hp O, hg0, PFI_glue (dl := []) hPF hS_c337 hA_c337 sd (by decide +kernel) (rexc_of (l := []) (by decide +kernel) ?_), ABS_glue hAB hS_c337 (by decide +kernel), NZ_glue hNZ vs_we3_2 hp sn (by decide +kernel), hGI, ?_, ?_, ?_, ?_, ?_, ?_, ?_, ?_, ?_, ?_⟩ ⟨(STP0_call (STY_call vs_we3_2 hp O) (sd 0 rfl) (RM_call vs_we3_2 O)), unt1_of (x := 10) (by decide +kernel) (fun p hp => funext (hA_c337 p hp))⟩ lc337_0 lc337_1
    · intro e he h1 h2
      cases he
    · exact INV0_eq (EQD_glue hS_c337 hA_c337 sd sn (by decide +kernel)) hI0
    · exact fun h => INV1_eq (EQD_glue hS_c337 hA_c337 sd sn (by decide +kernel)) (hI1 h)
    · exact fun h => INV2_eq (EQD_glue hS_c337 hA_c337 sd sn (by decide +kernel)) (hI2 h)
    · exact fun h => INV3_eq (EQD_glue hS_c337 hA_c337 sd sn (by decide +kernel)) (hI3 h)
    · exact fun h => INV4_eq (EQD_glue hS_c337 hA_c337 sd sn (by decide +kernel)) (hI4 h)
    · exact fun h => INV5_eq (EQD_glue hS_c337 hA_c337 sd sn (by decide +kernel)) (hI5 h)
    · exact fun h => INV6_eq (EQD_glue hS_c337 hA_c337 sd sn (by decide +kernel)) (hI6 h)
    · exact fun h => INV7_eq (EQD_glue hS_c337 hA_c337 sd sn (by decide +kernel)) (hI7 h)
    · exact fun h => INV8_eq (EQD_glue hS_c337 hA_c337 sd sn (by decide +kernel)) (hI8 h)
    · exact fun h => INV9_eq (EQD_glue hS_c337 hA_c337 sd sn (by decide +kernel)) (hI9 h)
  · skip
    have sd : SD [] (pul ι_we3_2 D) (pul ι_we3_2 D) := SD_refl
    have sn : SD [] (pul ι_we3_2 N) (pul ι_we3_2 N) := SD_refl
    refine k z _ (glu ι_we3_2 D (pul ι_we3_2 D)) (glu ι_we3_2 N (pul ι_we3_2 N)) (glu ι_we3_2 F Fₚ) (glu ι_we3_2 A Aₚ) _ _ ⟨HWs_call HX VPH_3 vs_we3_2 hp Hₚ O, STC_call HT HX vs_we3_2 hp O, hg0, PFI_glue (dl := []) hPF sf sa sd (by decide +kernel) (rexc_of (l := []) (by decide +kernel) ?_), ABS_glue hAB sf (by decide +kernel), NZ_glue hNZ vs_we3_2 hp sn (by decide +kernel), hGI, ?_, ?_, ?_, ?_, ?_, ?_, ?_, ?_, ?_, ?_⟩ ⟨(STP0_call (STY_call vs_we3_2 hp O) (sd 0 rfl) (RM_call vs_we3_2 O)), unt1_of (x := 10) (by decide +kernel) (fun p hp => funext (sa p hp))⟩ (show inr z by assumption)
    · intro e he h1 h2
      cases he
    · exact INV0_eq (EQD_glue sf sa sd sn (by decide +kernel)) hI0
    · exact fun h => INV1_eq (EQD_glue sf sa sd sn (by decide +kernel)) (hI1 h)
    · exact fun h => INV2_eq (EQD_glue sf sa sd sn (by decide +kernel)) (hI2 h)
    · exact fun h => INV3_eq (EQD_glue sf sa sd sn (by decide +kernel)) (hI3 h)
    · exact fun h => INV4_eq (EQD_glue sf sa sd sn (by decide +kernel)) (hI4 h)
    · exact fun h => INV5_eq (EQD_glue sf sa sd sn (by decide +kernel)) (hI5 h)
    · exact fun h => INV6_eq (EQD_glue sf sa sd sn (by decide +kernel)) (hI6 h)
    · exact fun h => INV7_eq (EQD_glue sf sa sd sn (by decide +kernel)) (hI7 h)
    · exact fun h => INV8_eq (EQD_glue sf sa sd sn (by decide +kernel)) (hI8 h)
    · exact fun h => INV9_eq (EQD_glue sf sa sd sn (by decide +kernel)) (hI9 h)
def ι_we4_2 : List Nat := [0, 6, 25, 26, 27, 28, 7, 32, 29, 75, 199, 10]
theorem vs_we4_2 : VS VPH V17_ve4 ι_we4_2 := VS_of (by decide +kernel)
set_option maxRecDepth 20000 in
theorem T_we4_2 {g : Nat → Bool} {σ : rS} {D N : Nat → Nat} {F : hF} {A : hA} {d c s : Nat} {Q : wQ} (X : PHI g σ D N F A) (hg5 : g 5 = true) {x1 y0 : Int} {ls : rO} (hl0 : rlook ls 0 = some (.ref (D 0))) (hl1 : rlook ls 1 = some (I x1)) (hl3 : rlook ls 3 = some (I (4))) (hl4 : rlook ls 4 = some (.ref (D 6))) (h0 : inr x1) (h1 : inr y0) (x_0 : (F 6 1) ≤ 16384) (hc337 : ∀ (ls : rO) (σₚ : rS) (Dₚ Nₚ : Nat → Nat) (Fₚ : hF) (Aₚ : hA) (cₚ sₚ : Nat), PHI g σₚ Dₚ Nₚ Fₚ Aₚ → STP g σ D N A c s g σₚ Dₚ Nₚ Aₚ cₚ sₚ → rlook ls 0 = some (.ref (Dₚ 0)) → rlook ls 1 = some (I (x1)) → Ew 17 (d + 3) 337 ls [] σₚ cₚ sₚ Q) (k : ∀ (z : Int) (σₚ : rS) (Dₚ Nₚ : Nat → Nat) (Fₚ : hF) (Aₚ : hA) (cₚ sₚ : Nat), PHI g σₚ Dₚ Nₚ Fₚ Aₚ → STP g σ D N A c s g σₚ Dₚ Nₚ Aₚ cₚ sₚ → (inr z) → Q (some (I z)) σₚ cₚ sₚ) : Ew 17 (d + 3) 239 ls [I y0] σ c s Q := by
  obtain ⟨HX, HT, hg0, hPF, hAB, hNZ, hGI, hI0, hI1, hI2, hI3, hI4, hI5, hI6, hI7, hI8, hI9⟩ := X
  have hset := SETI_f hI0.2.2.2.2.2.2.2.2.2.2.2.2.2.2.2.2.2
  have hJ0 := hI0
  unfold INV0 at hJ0
  obtain ⟨f0_0, f0_1, f0_2, f0_3, f0_4, f0_5, f0_6, f0_7, f0_8, f0_9, f0_10, f0_11, f0_12, f0_13, f0_14, f0_15, f0_16, f0_17⟩ := hJ0
  have hJ5 := hI5 hg5
  unfold INV5 at hJ5
  obtain ⟨f5_0, f5_1, f5_2, f5_3, f5_4, f5_5, f5_6, f5_7, f5_8, f5_9, f5_10, f5_11, f5_12, f5_13, f5_14, f5_15, f5_16, f5_17, f5_18, f5_19, f5_20, f5_21⟩ := hJ5
  have hp : ∀ x, x < (V17_ve4).length → SPH g (ι_we4_2.getD x 0) = true := SPH_of (gs := [0, 5]) (by intro j hj; simp at hj; rcases hj with rfl | rfl <;> assumption) rfl (by decide +kernel)
  refine C17_ve4 (D := pul ι_we4_2 D) (N := pul ι_we4_2 N) (F := pul ι_we4_2 F) (A := pul ι_we4_2 A) (HWs_sub HX vs_we4_2 hp) (show F 0 5 = (D 25 : Int) from hPF (0, 0, 5, 25) (List.mem_of_getElem? (i := 24) rfl) hg0 hg0) (show F 25 0 = (D 26 : Int) from hPF (0, 25, 0, 26) (List.mem_of_getElem? (i := 25) rfl) hg0 hg0) (show F 0 6 = (D 27 : Int) from hPF (0, 0, 6, 27) (List.mem_of_getElem? (i := 26) rfl) hg0 hg0) (show F 27 0 = (D 28 : Int) from hPF (0, 27, 0, 28) (List.mem_of_getElem? (i := 27) rfl) hg0 hg0) (show F 6 0 = (D 7 : Int) from hPF (0, 6, 0, 7) (List.mem_of_getElem? (i := 6) rfl) hg0 hg0) (show F 0 16 = (D 32 : Int) from hPF (0, 0, 16, 32) (List.mem_of_getElem? (i := 31) rfl) hg0 hg0) (show F 0 13 = (D 29 : Int) from hPF (0, 0, 13, 29) (List.mem_of_getElem? (i := 28) rfl) hg0 hg0) (show F 0 11 = (D 75 : Int) from hPF (0, 0, 11, 75) (List.mem_of_getElem? (i := 74) rfl) hg0 hg5) (show F 75 18 = (D 199 : Int) from hPF (0, 75, 18, 199) (List.mem_of_getElem? (i := 198) rfl) hg5 hg5) (show F 0 1 = (D 10 : Int) from hPF (0, 0, 1, 10) (List.mem_of_getElem? (i := 9) rfl) hg0 hg0) (N 26 : Int) rfl (N 28 : Int) rfl (N 7 : Int) rfl (N 32 : Int) rfl (N 29 : Int) rfl (N 199 : Int) rfl (N 10 : Int) rfl (F 6 1) rfl (F 25 1) rfl (F 27 1) rfl (A 10) rfl hl0 hl1 hl3 hl4 (show inr (x1) by assumption) (show inr y0 by assumption) (show 0 ≤ (F 25 1) ∧ (F 25 1) ≤ ((N 26 : Int)) ∧ ((N 26 : Int)) ≤ 65536 by assumption) (show 0 ≤ (F 27 1) ∧ (F 27 1) ≤ ((N 28 : Int)) ∧ ((N 28 : Int)) ≤ 65536 by assumption) (show 0 ≤ (F 6 1) ∧ (F 6 1) ≤ ((N 7 : Int)) ∧ ((N 7 : Int)) ≤ 65536 by assumption) (show (F 6 1) ≤ 16384 by assumption) (show ((N 32 : Int)) = 2 by assumption) (show ((N 29 : Int)) = 13 by assumption) (show ((N 199 : Int)) = 13 by omega) (show 1 ≤ ((A 10)) 2 ∧ ((A 10)) 2 ≤ 65536 by omega) (show 0 ≤ ((A 10)) 8 ∧ ((A 10)) 8 ≤ 11 by omega) (show 0 ≤ ((A 10)) 6 ∧ ((A 10)) 6 ≤ 255 by omega) (show ((N 10 : Int)) = 10 by assumption) (fun  ls σ F_c337 A_c337  lc337_0 lc337_1 H O hS_c337 hA_c337     jc337_0 => ?_) (fun z σₚ Fₚ Aₚ Hₚ O sf sa q0 q1 => ?_)
  · skip
    have sd : SD [] (pul ι_we4_2 D) (pul ι_we4_2 D) := SD_refl
    have sn : SD [] (pul ι_we4_2 N) (pul ι_we4_2 N) := SD_refl
    refine hc337   _ _ (glu ι_we4_2 D (pul ι_we4_2 D)) (glu ι_we4_2 N (pul ι_we4_2 N)) (glu ι_we4_2 F F_c337) (glu ι_we4_2 A A_c337) _ _ ⟨HWs_call HX VPH_3 vs_we4_2 hp H O, STC_call HT HX vs_we4_2 hp O, hg0, PFI_glue (dl := []) hPF hS_c337 hA_c337 sd (by decide +kernel) (rexc_of (l := []) (by decide +kernel) ?_), ABS_glue hAB hS_c337 (by decide +kernel), NZ_glue hNZ vs_we4_2 hp sn (by decide +kernel), hGI, ?_, ?_, ?_, ?_, ?_, ?_, ?_, ?_, ?_, ?_⟩ ⟨(STP0_call (STY_call vs_we4_2 hp O) (sd 0 rfl) (RM_call vs_we4_2 O)), unt1_of (x := 10) (by decide +kernel) (fun p hp => funext (hA_c337 p hp))⟩ lc337_0 lc337_1
    · intro e he h1 h2
      cases he
    · exact INV0_eq (EQD_glue hS_c337 hA_c337 sd sn (by decide +kernel)) hI0
    · exact fun h => INV1_eq (EQD_glue hS_c337 hA_c337 sd sn (by decide +kernel)) (hI1 h)
    · exact fun h => INV2_eq (EQD_glue hS_c337 hA_c337 sd sn (by decide +kernel)) (hI2 h)
    · exact fun h => INV3_eq (EQD_glue hS_c337 hA_c337 sd sn (by decide +kernel)) (hI3 h)
    · exact fun h => INV4_eq (EQD_glue hS_c337 hA_c337 sd sn (by decide +kernel)) (hI4 h)
    · exact fun h => INV5_eq (EQD_glue hS_c337 hA_c337 sd sn (by decide +kernel)) (hI5 h)
    · exact fun h => INV6_eq (EQD_glue hS_c337 hA_c337 sd sn (by decide +kernel)) (hI6 h)
    · exact fun h => INV7_eq (EQD_glue hS_c337 hA_c337 sd sn (by decide +kernel)) (hI7 h)
    · exact fun h => INV8_eq (EQD_glue hS_c337 hA_c337 sd sn (by decide +kernel)) (hI8 h)
    · exact fun h => INV9_eq (EQD_glue hS_c337 hA_c337 sd sn (by decide +kernel)) (hI9 h)
  · skip
    have sd : SD [] (pul ι_we4_2 D) (pul ι_we4_2 D) := SD_refl
    have sn : SD [] (pul ι_we4_2 N) (pul ι_we4_2 N) := SD_refl
    refine k z _ (glu ι_we4_2 D (pul ι_we4_2 D)) (glu ι_we4_2 N (pul ι_we4_2 N)) (glu ι_we4_2 F Fₚ) (glu ι_we4_2 A Aₚ) _ _ ⟨HWs_call HX VPH_3 vs_we4_2 hp Hₚ O, STC_call HT HX vs_we4_2 hp O, hg0, PFI_glue (dl := []) hPF sf sa sd (by decide +kernel) (rexc_of (l := []) (by decide +kernel) ?_), ABS_glue hAB sf (by decide +kernel), NZ_glue hNZ vs_we4_2 hp sn (by decide +kernel), hGI, ?_, ?_, ?_, ?_, ?_, ?_, ?_, ?_, ?_, ?_⟩ ⟨(STP0_call (STY_call vs_we4_2 hp O) (sd 0 rfl) (RM_call vs_we4_2 O)), unt1_of (x := 10) (by decide +kernel) (fun p hp => funext (sa p hp))⟩ (show inr z by assumption)
    · intro e he h1 h2
      cases he
    · exact INV0_eq (EQD_glue sf sa sd sn (by decide +kernel)) hI0
    · exact fun h => INV1_eq (EQD_glue sf sa sd sn (by decide +kernel)) (hI1 h)
    · exact fun h => INV2_eq (EQD_glue sf sa sd sn (by decide +kernel)) (hI2 h)
    · exact fun h => INV3_eq (EQD_glue sf sa sd sn (by decide +kernel)) (hI3 h)
    · exact fun h => INV4_eq (EQD_glue sf sa sd sn (by decide +kernel)) (hI4 h)
    · exact fun h => INV5_eq (EQD_glue sf sa sd sn (by decide +kernel)) (hI5 h)
    · exact fun h => INV6_eq (EQD_glue sf sa sd sn (by decide +kernel)) (hI6 h)
    · exact fun h => INV7_eq (EQD_glue sf sa sd sn (by decide +kernel)) (hI7 h)
    · exact fun h => INV8_eq (EQD_glue sf sa sd sn (by decide +kernel)) (hI8 h)
    · exact fun h => INV9_eq (EQD_glue sf sa sd sn (by decide +kernel)) (hI9 h)
def ι_we5_2 : List Nat := [0, 6, 25, 26, 7, 32, 10]
theorem vs_we5_2 : VS VPH V17_ve5 ι_we5_2 := VS_of (by decide +kernel)
set_option maxRecDepth 20000 in
theorem T_we5_2 {g : Nat → Bool} {σ : rS} {D N : Nat → Nat} {F : hF} {A : hA} {d c s : Nat} {Q : wQ} (X : PHI g σ D N F A)  {x1 : Int} {ls : rO} (hl0 : rlook ls 0 = some (.ref (D 0))) (hl1 : rlook ls 1 = some (I x1)) (hl3 : rlook ls 3 = some (I (5))) (hl4 : rlook ls 4 = some (.ref (D 6))) (h0 : inr x1) (x_0 : (F 6 1) ≤ 16384) (hc337 : ∀ (ls : rO) (σₚ : rS) (Dₚ Nₚ : Nat → Nat) (Fₚ : hF) (Aₚ : hA) (cₚ sₚ : Nat), PHI g σₚ Dₚ Nₚ Fₚ Aₚ → STP g σ D N A c s g σₚ Dₚ Nₚ Aₚ cₚ sₚ → rlook ls 0 = some (.ref (Dₚ 0)) → rlook ls 1 = some (I (x1)) → Ew 17 (d + 3) 337 ls [] σₚ cₚ sₚ Q) (k : ∀ (z : Int) (σₚ : rS) (Dₚ Nₚ : Nat → Nat) (Fₚ : hF) (Aₚ : hA) (cₚ sₚ : Nat), PHI g σₚ Dₚ Nₚ Fₚ Aₚ → STP g σ D N A c s g σₚ Dₚ Nₚ Aₚ cₚ sₚ → (inr z) → Q (some (I z)) σₚ cₚ sₚ) : Ew 17 (d + 3) 277 ls [] σ c s Q := by
  obtain ⟨HX, HT, hg0, hPF, hAB, hNZ, hGI, hI0, hI1, hI2, hI3, hI4, hI5, hI6, hI7, hI8, hI9⟩ := X
  have hset := SETI_f hI0.2.2.2.2.2.2.2.2.2.2.2.2.2.2.2.2.2
  have hJ0 := hI0
  unfold INV0 at hJ0
  obtain ⟨f0_0, f0_1, f0_2, f0_3, f0_4, f0_5, f0_6, f0_7, f0_8, f0_9, f0_10, f0_11, f0_12, f0_13, f0_14, f0_15, f0_16, f0_17⟩ := hJ0
  have hp : ∀ x, x < (V17_ve5).length → SPH g (ι_we5_2.getD x 0) = true := SPH_of (gs := [0]) (by intro j hj; simp at hj; subst hj; exact hg0) rfl (by decide +kernel)
  refine C17_ve5 (D := pul ι_we5_2 D) (N := pul ι_we5_2 N) (F := pul ι_we5_2 F) (A := pul ι_we5_2 A) (HWs_sub HX vs_we5_2 hp) (show F 0 5 = (D 25 : Int) from hPF (0, 0, 5, 25) (List.mem_of_getElem? (i := 24) rfl) hg0 hg0) (show F 25 0 = (D 26 : Int) from hPF (0, 25, 0, 26) (List.mem_of_getElem? (i := 25) rfl) hg0 hg0) (show F 6 0 = (D 7 : Int) from hPF (0, 6, 0, 7) (List.mem_of_getElem? (i := 6) rfl) hg0 hg0) (show F 0 16 = (D 32 : Int) from hPF (0, 0, 16, 32) (List.mem_of_getElem? (i := 31) rfl) hg0 hg0) (show F 0 1 = (D 10 : Int) from hPF (0, 0, 1, 10) (List.mem_of_getElem? (i := 9) rfl) hg0 hg0) (N 26 : Int) rfl (N 7 : Int) rfl (N 32 : Int) rfl (N 10 : Int) rfl (F 6 1) rfl (F 25 1) rfl (A 10) rfl hl0 hl1 hl3 hl4 (show inr (x1) by assumption) (show 0 ≤ (F 25 1) ∧ (F 25 1) ≤ ((N 26 : Int)) ∧ ((N 26 : Int)) ≤ 65536 by assumption) (show 0 ≤ (F 6 1) ∧ (F 6 1) ≤ ((N 7 : Int)) ∧ ((N 7 : Int)) ≤ 65536 by assumption) (show (F 6 1) ≤ 16384 by assumption) (show ((N 32 : Int)) = 2 by assumption) (show 1 ≤ ((A 10)) 2 ∧ ((A 10)) 2 ≤ 65536 by omega) (show 0 ≤ ((A 10)) 8 ∧ ((A 10)) 8 ≤ 11 by omega) (show 0 ≤ ((A 10)) 6 ∧ ((A 10)) 6 ≤ 255 by omega) (show ((N 10 : Int)) = 10 by assumption) (fun  ls σ F_c337 A_c337  lc337_0 lc337_1 H O hS_c337 hA_c337     jc337_0 => ?_) (fun z σₚ Fₚ Aₚ Hₚ O sf sa q0 q1 => ?_)
  · skip
    have sd : SD [] (pul ι_we5_2 D) (pul ι_we5_2 D) := SD_refl
    have sn : SD [] (pul ι_we5_2 N) (pul ι_we5_2 N) := SD_refl
    refine hc337   _ _ (glu ι_we5_2 D (pul ι_we5_2 D)) (glu ι_we5_2 N (pul ι_we5_2 N)) (glu ι_we5_2 F F_c337) (glu ι_we5_2 A A_c337) _ _ ⟨HWs_call HX VPH_3 vs_we5_2 hp H O, STC_call HT HX vs_we5_2 hp O, hg0, PFI_glue (dl := []) hPF hS_c337 hA_c337 sd (by decide +kernel) (rexc_of (l := []) (by decide +kernel) ?_), ABS_glue hAB hS_c337 (by decide +kernel), NZ_glue hNZ vs_we5_2 hp sn (by decide +kernel), hGI, ?_, ?_, ?_, ?_, ?_, ?_, ?_, ?_, ?_, ?_⟩ ⟨(STP0_call (STY_call vs_we5_2 hp O) (sd 0 rfl) (RM_call vs_we5_2 O)), unt1_of (x := 10) (by decide +kernel) (fun p hp => funext (hA_c337 p hp))⟩ lc337_0 lc337_1
    · intro e he h1 h2
      cases he
    · exact INV0_eq (EQD_glue hS_c337 hA_c337 sd sn (by decide +kernel)) hI0
    · exact fun h => INV1_eq (EQD_glue hS_c337 hA_c337 sd sn (by decide +kernel)) (hI1 h)
    · exact fun h => INV2_eq (EQD_glue hS_c337 hA_c337 sd sn (by decide +kernel)) (hI2 h)
    · exact fun h => INV3_eq (EQD_glue hS_c337 hA_c337 sd sn (by decide +kernel)) (hI3 h)
    · exact fun h => INV4_eq (EQD_glue hS_c337 hA_c337 sd sn (by decide +kernel)) (hI4 h)
    · exact fun h => INV5_eq (EQD_glue hS_c337 hA_c337 sd sn (by decide +kernel)) (hI5 h)
    · exact fun h => INV6_eq (EQD_glue hS_c337 hA_c337 sd sn (by decide +kernel)) (hI6 h)
    · exact fun h => INV7_eq (EQD_glue hS_c337 hA_c337 sd sn (by decide +kernel)) (hI7 h)
    · exact fun h => INV8_eq (EQD_glue hS_c337 hA_c337 sd sn (by decide +kernel)) (hI8 h)
    · exact fun h => INV9_eq (EQD_glue hS_c337 hA_c337 sd sn (by decide +kernel)) (hI9 h)
  · skip
    have sd : SD [] (pul ι_we5_2 D) (pul ι_we5_2 D) := SD_refl
    have sn : SD [] (pul ι_we5_2 N) (pul ι_we5_2 N) := SD_refl
    refine k z _ (glu ι_we5_2 D (pul ι_we5_2 D)) (glu ι_we5_2 N (pul ι_we5_2 N)) (glu ι_we5_2 F Fₚ) (glu ι_we5_2 A Aₚ) _ _ ⟨HWs_call HX VPH_3 vs_we5_2 hp Hₚ O, STC_call HT HX vs_we5_2 hp O, hg0, PFI_glue (dl := []) hPF sf sa sd (by decide +kernel) (rexc_of (l := []) (by decide +kernel) ?_), ABS_glue hAB sf (by decide +kernel), NZ_glue hNZ vs_we5_2 hp sn (by decide +kernel), hGI, ?_, ?_, ?_, ?_, ?_, ?_, ?_, ?_, ?_, ?_⟩ ⟨(STP0_call (STY_call vs_we5_2 hp O) (sd 0 rfl) (RM_call vs_we5_2 O)), unt1_of (x := 10) (by decide +kernel) (fun p hp => funext (sa p hp))⟩ (show inr z by assumption)
    · intro e he h1 h2
      cases he
    · exact INV0_eq (EQD_glue sf sa sd sn (by decide +kernel)) hI0
    · exact fun h => INV1_eq (EQD_glue sf sa sd sn (by decide +kernel)) (hI1 h)
    · exact fun h => INV2_eq (EQD_glue sf sa sd sn (by decide +kernel)) (hI2 h)
    · exact fun h => INV3_eq (EQD_glue sf sa sd sn (by decide +kernel)) (hI3 h)
    · exact fun h => INV4_eq (EQD_glue sf sa sd sn (by decide +kernel)) (hI4 h)
    · exact fun h => INV5_eq (EQD_glue sf sa sd sn (by decide +kernel)) (hI5 h)
    · exact fun h => INV6_eq (EQD_glue sf sa sd sn (by decide +kernel)) (hI6 h)
    · exact fun h => INV7_eq (EQD_glue sf sa sd sn (by decide +kernel)) (hI7 h)
    · exact fun h => INV8_eq (EQD_glue sf sa sd sn (by decide +kernel)) (hI8 h)
    · exact fun h => INV9_eq (EQD_glue sf sa sd sn (by decide +kernel)) (hI9 h)
def ι_we0_3 : List Nat := [0, 8, 25, 26, 27, 28, 9, 32, 10]
theorem vs_we0_3 : VS VPH V17_ve0 ι_we0_3 := VS_of (by decide +kernel)
set_option maxRecDepth 20000 in
theorem T_we0_3 {g : Nat → Bool} {σ : rS} {D N : Nat → Nat} {F : hF} {A : hA} {d c s : Nat} {Q : wQ} (X : PHI g σ D N F A)  {x1 y0 : Int} {ls : rO} (hl0 : rlook ls 0 = some (.ref (D 0))) (hl1 : rlook ls 1 = some (I x1)) (hl3 : rlook ls 3 = some (I (0))) (hl4 : rlook ls 4 = some (.ref (D 8))) (h0 : inr x1) (h1 : inr y0) (x_0 : (F 8 1) ≤ 16384) (hc337 : ∀ (ls : rO) (σₚ : rS) (Dₚ Nₚ : Nat → Nat) (Fₚ : hF) (Aₚ : hA) (cₚ sₚ : Nat), PHI g σₚ Dₚ Nₚ Fₚ Aₚ → STP g σ D N A c s g σₚ Dₚ Nₚ Aₚ cₚ sₚ → rlook ls 0 = some (.ref (Dₚ 0)) → rlook ls 1 = some (I (x1)) → Ew 17 (d + 3) 337 ls [] σₚ cₚ sₚ Q) (k : ∀ (z : Int) (σₚ : rS) (Dₚ Nₚ : Nat → Nat) (Fₚ : hF) (Aₚ : hA) (cₚ sₚ : Nat), PHI g σₚ Dₚ Nₚ Fₚ Aₚ → STP g σ D N A c s g σₚ Dₚ Nₚ Aₚ cₚ sₚ → (inr z) → Q (some (I z)) σₚ cₚ sₚ) : Ew 17 (d + 3) 239 ls [I y0] σ c s Q := by
  obtain ⟨HX, HT, hg0, hPF, hAB, hNZ, hGI, hI0, hI1, hI2, hI3, hI4, hI5, hI6, hI7, hI8, hI9⟩ := X
  have hset := SETI_f hI0.2.2.2.2.2.2.2.2.2.2.2.2.2.2.2.2.2
  have hJ0 := hI0
  unfold INV0 at hJ0
  obtain ⟨f0_0, f0_1, f0_2, f0_3, f0_4, f0_5, f0_6, f0_7, f0_8, f0_9, f0_10, f0_11, f0_12, f0_13, f0_14, f0_15, f0_16, f0_17⟩ := hJ0
  have hp : ∀ x, x < (V17_ve0).length → SPH g (ι_we0_3.getD x 0) = true := SPH_of (gs := [0]) (by intro j hj; simp at hj; subst hj; exact hg0) rfl (by decide +kernel)
  refine C17_ve0 (D := pul ι_we0_3 D) (N := pul ι_we0_3 N) (F := pul ι_we0_3 F) (A := pul ι_we0_3 A) (HWs_sub HX vs_we0_3 hp) (show F 0 5 = (D 25 : Int) from hPF (0, 0, 5, 25) (List.mem_of_getElem? (i := 24) rfl) hg0 hg0) (show F 25 0 = (D 26 : Int) from hPF (0, 25, 0, 26) (List.mem_of_getElem? (i := 25) rfl) hg0 hg0) (show F 0 6 = (D 27 : Int) from hPF (0, 0, 6, 27) (List.mem_of_getElem? (i := 26) rfl) hg0 hg0) (show F 27 0 = (D 28 : Int) from hPF (0, 27, 0, 28) (List.mem_of_getElem? (i := 27) rfl) hg0 hg0) (show F 8 0 = (D 9 : Int) from hPF (0, 8, 0, 9) (List.mem_of_getElem? (i := 8) rfl) hg0 hg0) (show F 0 16 = (D 32 : Int) from hPF (0, 0, 16, 32) (List.mem_of_getElem? (i := 31) rfl) hg0 hg0) (show F 0 1 = (D 10 : Int) from hPF (0, 0, 1, 10) (List.mem_of_getElem? (i := 9) rfl) hg0 hg0) (N 26 : Int) rfl (N 28 : Int) rfl (N 9 : Int) rfl (N 32 : Int) rfl (N 10 : Int) rfl (F 8 1) rfl (F 25 1) rfl (F 27 1) rfl (A 10) rfl hl0 hl1 hl3 hl4 (show inr (x1) by assumption) (show inr y0 by assumption) (show 0 ≤ (F 25 1) ∧ (F 25 1) ≤ ((N 26 : Int)) ∧ ((N 26 : Int)) ≤ 65536 by assumption) (show 0 ≤ (F 27 1) ∧ (F 27 1) ≤ ((N 28 : Int)) ∧ ((N 28 : Int)) ≤ 65536 by assumption) (show 0 ≤ (F 8 1) ∧ (F 8 1) ≤ ((N 9 : Int)) ∧ ((N 9 : Int)) ≤ 65536 by assumption) (show (F 8 1) ≤ 16384 by assumption) (show ((N 32 : Int)) = 2 by assumption) (show 1 ≤ ((A 10)) 2 ∧ ((A 10)) 2 ≤ 65536 by omega) (show 0 ≤ ((A 10)) 8 ∧ ((A 10)) 8 ≤ 11 by omega) (show 0 ≤ ((A 10)) 6 ∧ ((A 10)) 6 ≤ 255 by omega) (show ((N 10 : Int)) = 10 by assumption) (fun  ls σ F_c337 A_c337  lc337_0 lc337_1 H O hS_c337 hA_c337     jc337_0 => ?_) (fun z σₚ Fₚ Aₚ Hₚ O sf sa q0 q1 => ?_)
  · skip
    have sd : SD [] (pul ι_we0_3 D) (pul ι_we0_3 D) := SD_refl
    have sn : SD [] (pul ι_we0_3 N) (pul ι_we0_3 N) := SD_refl
    refine hc337   _ _ (glu ι_we0_3 D (pul ι_we0_3 D)) (glu ι_we0_3 N (pul ι_we0_3 N)) (glu ι_we0_3 F F_c337) (glu ι_we0_3 A A_c337) _ _ ⟨HWs_call HX VPH_3 vs_we0_3 hp H O, STC_call HT HX vs_we0_3 hp O, hg0, PFI_glue (dl := []) hPF hS_c337 hA_c337 sd (by decide +kernel) (rexc_of (l := []) (by decide +kernel) ?_), ABS_glue hAB hS_c337 (by decide +kernel), NZ_glue hNZ vs_we0_3 hp sn (by decide +kernel), hGI, ?_, ?_, ?_, ?_, ?_, ?_, ?_, ?_, ?_, ?_⟩ ⟨(STP0_call (STY_call vs_we0_3 hp O) (sd 0 rfl) (RM_call vs_we0_3 O)), unt1_of (x := 10) (by decide +kernel) (fun p hp => funext (hA_c337 p hp))⟩ lc337_0 lc337_1
    · intro e he h1 h2
      cases he
    · exact INV0_eq (EQD_glue hS_c337 hA_c337 sd sn (by decide +kernel)) hI0
    · exact fun h => INV1_eq (EQD_glue hS_c337 hA_c337 sd sn (by decide +kernel)) (hI1 h)
    · exact fun h => INV2_eq (EQD_glue hS_c337 hA_c337 sd sn (by decide +kernel)) (hI2 h)
    · exact fun h => INV3_eq (EQD_glue hS_c337 hA_c337 sd sn (by decide +kernel)) (hI3 h)
    · exact fun h => INV4_eq (EQD_glue hS_c337 hA_c337 sd sn (by decide +kernel)) (hI4 h)
    · exact fun h => INV5_eq (EQD_glue hS_c337 hA_c337 sd sn (by decide +kernel)) (hI5 h)
    · exact fun h => INV6_eq (EQD_glue hS_c337 hA_c337 sd sn (by decide +kernel)) (hI6 h)
    · exact fun h => INV7_eq (EQD_glue hS_c337 hA_c337 sd sn (by decide +kernel)) (hI7 h)
    · exact fun h => INV8_eq (EQD_glue hS_c337 hA_c337 sd sn (by decide +kernel)) (hI8 h)
    · exact fun h => INV9_eq (EQD_glue hS_c337 hA_c337 sd sn (by decide +kernel)) (hI9 h)
  · skip
    have sd : SD [] (pul ι_we0_3 D) (pul ι_we0_3 D) := SD_refl
    have sn : SD [] (pul ι_we0_3 N) (pul ι_we0_3 N) := SD_refl
    refine k z _ (glu ι_we0_3 D (pul ι_we0_3 D)) (glu ι_we0_3 N (pul ι_we0_3 N)) (glu ι_we0_3 F Fₚ) (glu ι_we0_3 A Aₚ) _ _ ⟨HWs_call HX VPH_3 vs_we0_3 hp Hₚ O, STC_call HT HX vs_we0_3 hp O, hg0, PFI_glue (dl := []) hPF sf sa sd (by decide +kernel) (rexc_of (l := []) (by decide +kernel) ?_), ABS_glue hAB sf (by decide +kernel), NZ_glue hNZ vs_we0_3 hp sn (by decide +kernel), hGI, ?_, ?_, ?_, ?_, ?_, ?_, ?_, ?_, ?_, ?_⟩ ⟨(STP0_call (STY_call vs_we0_3 hp O) (sd 0 rfl) (RM_call vs_we0_3 O)), unt1_of (x := 10) (by decide +kernel) (fun p hp => funext (sa p hp))⟩ (show inr z by assumption)
    · intro e he h1 h2
      cases he
    · exact INV0_eq (EQD_glue sf sa sd sn (by decide +kernel)) hI0
    · exact fun h => INV1_eq (EQD_glue sf sa sd sn (by decide +kernel)) (hI1 h)
    · exact fun h => INV2_eq (EQD_glue sf sa sd sn (by decide +kernel)) (hI2 h)
    · exact fun h => INV3_eq (EQD_glue sf sa sd sn (by decide +kernel)) (hI3 h)
    · exact fun h => INV4_eq (EQD_glue sf sa sd sn (by decide +kernel)) (hI4 h)
    · exact fun h => INV5_eq (EQD_glue sf sa sd sn (by decide +kernel)) (hI5 h)
    · exact fun h => INV6_eq (EQD_glue sf sa sd sn (by decide +kernel)) (hI6 h)
    · exact fun h => INV7_eq (EQD_glue sf sa sd sn (by decide +kernel)) (hI7 h)
    · exact fun h => INV8_eq (EQD_glue sf sa sd sn (by decide +kernel)) (hI8 h)
    · exact fun h => INV9_eq (EQD_glue sf sa sd sn (by decide +kernel)) (hI9 h)
def ι_we1_3 : List Nat := [0, 8, 25, 26, 27, 28, 9, 32, 10]
theorem vs_we1_3 : VS VPH V17_ve1 ι_we1_3 := VS_of (by decide +kernel)
set_option maxRecDepth 20000 in
theorem T_we1_3 {g : Nat → Bool} {σ : rS} {D N : Nat → Nat} {F : hF} {A : hA} {d c s : Nat} {Q : wQ} (X : PHI g σ D N F A)  {x1 y0 : Int} {ls : rO} (hl0 : rlook ls 0 = some (.ref (D 0))) (hl1 : rlook ls 1 = some (I x1)) (hl3 : rlook ls 3 = some (I (1))) (hl4 : rlook ls 4 = some (.ref (D 8))) (h0 : inr x1) (h1 : inr y0) (x_0 : (F 8 1) ≤ 16384) (hc337 : ∀ (ls : rO) (σₚ : rS) (Dₚ Nₚ : Nat → Nat) (Fₚ : hF) (Aₚ : hA) (cₚ sₚ : Nat), PHI g σₚ Dₚ Nₚ Fₚ Aₚ → STP g σ D N A c s g σₚ Dₚ Nₚ Aₚ cₚ sₚ → rlook ls 0 = some (.ref (Dₚ 0)) → rlook ls 1 = some (I (x1)) → Ew 17 (d + 3) 337 ls [] σₚ cₚ sₚ Q) (k : ∀ (z : Int) (σₚ : rS) (Dₚ Nₚ : Nat → Nat) (Fₚ : hF) (Aₚ : hA) (cₚ sₚ : Nat), PHI g σₚ Dₚ Nₚ Fₚ Aₚ → STP g σ D N A c s g σₚ Dₚ Nₚ Aₚ cₚ sₚ → (inr z) → Q (some (I z)) σₚ cₚ sₚ) : Ew 17 (d + 3) 239 ls [I y0] σ c s Q := by
  obtain ⟨HX, HT, hg0, hPF, hAB, hNZ, hGI, hI0, hI1, hI2, hI3, hI4, hI5, hI6, hI7, hI8, hI9⟩ := X
  have hset := SETI_f hI0.2.2.2.2.2.2.2.2.2.2.2.2.2.2.2.2.2
  have hJ0 := hI0
  unfold INV0 at hJ0
  obtain ⟨f0_0, f0_1, f0_2, f0_3, f0_4, f0_5, f0_6, f0_7, f0_8, f0_9, f0_10, f0_11, f0_12, f0_13, f0_14, f0_15, f0_16, f0_17⟩ := hJ0
  have hp : ∀ x, x < (V17_ve1).length → SPH g (ι_we1_3.getD x 0) = true := SPH_of (gs := [0]) (by intro j hj; simp at hj; subst hj; exact hg0) rfl (by decide +kernel)
  refine C17_ve1 (D := pul ι_we1_3 D) (N := pul ι_we1_3 N) (F := pul ι_we1_3 F) (A := pul ι_we1_3 A) (HWs_sub HX vs_we1_3 hp) (show F 0 5 = (D 25 : Int) from hPF (0, 0, 5, 25) (List.mem_of_getElem? (i := 24) rfl) hg0 hg0) (show F 25 0 = (D 26 : Int) from hPF (0, 25, 0, 26) (List.mem_of_getElem? (i := 25) rfl) hg0 hg0) (show F 0 6 = (D 27 : Int) from hPF (0, 0, 6, 27) (List.mem_of_getElem? (i := 26) rfl) hg0 hg0) (show F 27 0 = (D 28 : Int) from hPF (0, 27, 0, 28) (List.mem_of_getElem? (i := 27) rfl) hg0 hg0) (show F 8 0 = (D 9 : Int) from hPF (0, 8, 0, 9) (List.mem_of_getElem? (i := 8) rfl) hg0 hg0) (show F 0 16 = (D 32 : Int) from hPF (0, 0, 16, 32) (List.mem_of_getElem? (i := 31) rfl) hg0 hg0) (show F 0 1 = (D 10 : Int) from hPF (0, 0, 1, 10) (List.mem_of_getElem? (i := 9) rfl) hg0 hg0) (N 26 : Int) rfl (N 28 : Int) rfl (N 9 : Int) rfl (N 32 : Int) rfl (N 10 : Int) rfl (F 8 1) rfl (F 25 1) rfl (F 27 1) rfl (A 10) rfl hl0 hl1 hl3 hl4 (show inr (x1) by assumption) (show inr y0 by assumption) (show 0 ≤ (F 25 1) ∧ (F 25 1) ≤ ((N 26 : Int)) ∧ ((N 26 : Int)) ≤ 65536 by assumption) (show 0 ≤ (F 27 1) ∧ (F 27 1) ≤ ((N 28 : Int)) ∧ ((N 28 : Int)) ≤ 65536 by assumption) (show 0 ≤ (F 8 1) ∧ (F 8 1) ≤ ((N 9 : Int)) ∧ ((N 9 : Int)) ≤ 65536 by assumption) (show (F 8 1) ≤ 16384 by assumption) (show ((N 32 : Int)) = 2 by assumption) (show 1 ≤ ((A 10)) 2 ∧ ((A 10)) 2 ≤ 65536 by omega) (show 0 ≤ ((A 10)) 8 ∧ ((A 10)) 8 ≤ 11 by omega) (show 0 ≤ ((A 10)) 6 ∧ ((A 10)) 6 ≤ 255 by omega) (show ((N 10 : Int)) = 10 by assumption) (fun  ls σ F_c337 A_c337  lc337_0 lc337_1 H O hS_c337 hA_c337     jc337_0 => ?_) (fun z σₚ Fₚ Aₚ Hₚ O sf sa q0 q1 => ?_)
  · skip
    have sd : SD [] (pul ι_we1_3 D) (pul ι_we1_3 D) := SD_refl
    have sn : SD [] (pul ι_we1_3 N) (pul ι_we1_3 N) := SD_refl
    refine hc337   _ _ (glu ι_we1_3 D (pul ι_we1_3 D)) (glu ι_we1_3 N (pul ι_we1_3 N)) (glu ι_we1_3 F F_c337) (glu ι_we1_3 A A_c337) _ _ ⟨HWs_call HX VPH_3 vs_we1_3 hp H O, STC_call HT HX vs_we1_3 hp O, hg0, PFI_glue (dl := []) hPF hS_c337 hA_c337 sd (by decide +kernel) (rexc_of (l := []) (by decide +kernel) ?_), ABS_glue hAB hS_c337 (by decide +kernel), NZ_glue hNZ vs_we1_3 hp sn (by decide +kernel), hGI, ?_, ?_, ?_, ?_, ?_, ?_, ?_, ?_, ?_, ?_⟩ ⟨(STP0_call (STY_call vs_we1_3 hp O) (sd 0 rfl) (RM_call vs_we1_3 O)), unt1_of (x := 10) (by decide +kernel) (fun p hp => funext (hA_c337 p hp))⟩ lc337_0 lc337_1
    · intro e he h1 h2
      cases he
    · exact INV0_eq (EQD_glue hS_c337 hA_c337 sd sn (by decide +kernel)) hI0
    · exact fun h => INV1_eq (EQD_glue hS_c337 hA_c337 sd sn (by decide +kernel)) (hI1 h)
    · exact fun h => INV2_eq (EQD_glue hS_c337 hA_c337 sd sn (by decide +kernel)) (hI2 h)
    · exact fun h => INV3_eq (EQD_glue hS_c337 hA_c337 sd sn (by decide +kernel)) (hI3 h)
    · exact fun h => INV4_eq (EQD_glue hS_c337 hA_c337 sd sn (by decide +kernel)) (hI4 h)
    · exact fun h => INV5_eq (EQD_glue hS_c337 hA_c337 sd sn (by decide +kernel)) (hI5 h)
    · exact fun h => INV6_eq (EQD_glue hS_c337 hA_c337 sd sn (by decide +kernel)) (hI6 h)
    · exact fun h => INV7_eq (EQD_glue hS_c337 hA_c337 sd sn (by decide +kernel)) (hI7 h)
    · exact fun h => INV8_eq (EQD_glue hS_c337 hA_c337 sd sn (by decide +kernel)) (hI8 h)
    · exact fun h => INV9_eq (EQD_glue hS_c337 hA_c337 sd sn (by decide +kernel)) (hI9 h)
  · skip
    have sd : SD [] (pul ι_we1_3 D) (pul ι_we1_3 D) := SD_refl
    have sn : SD [] (pul ι_we1_3 N) (pul ι_we1_3 N) := SD_refl
    refine k z _ (glu ι_we1_3 D (pul ι_we1_3 D)) (glu ι_we1_3 N (pul ι_we1_3 N)) (glu ι_we1_3 F Fₚ) (glu ι_we1_3 A Aₚ) _ _ ⟨HWs_call HX VPH_3 vs_we1_3 hp Hₚ O, STC_call HT HX vs_we1_3 hp O, hg0, PFI_glue (dl := []) hPF sf sa sd (by decide +kernel) (rexc_of (l := []) (by decide +kernel) ?_), ABS_glue hAB sf (by decide +kernel), NZ_glue hNZ vs_we1_3 hp sn (by decide +kernel), hGI, ?_, ?_, ?_, ?_, ?_, ?_, ?_, ?_, ?_, ?_⟩ ⟨(STP0_call (STY_call vs_we1_3 hp O) (sd 0 rfl) (RM_call vs_we1_3 O)), unt1_of (x := 10) (by decide +kernel) (fun p hp => funext (sa p hp))⟩ (show inr z by assumption)
    · intro e he h1 h2
      cases he
    · exact INV0_eq (EQD_glue sf sa sd sn (by decide +kernel)) hI0
    · exact fun h => INV1_eq (EQD_glue sf sa sd sn (by decide +kernel)) (hI1 h)
    · exact fun h => INV2_eq (EQD_glue sf sa sd sn (by decide +kernel)) (hI2 h)
    · exact fun h => INV3_eq (EQD_glue sf sa sd sn (by decide +kernel)) (hI3 h)
    · exact fun h => INV4_eq (EQD_glue sf sa sd sn (by decide +kernel)) (hI4 h)
    · exact fun h => INV5_eq (EQD_glue sf sa sd sn (by decide +kernel)) (hI5 h)
    · exact fun h => INV6_eq (EQD_glue sf sa sd sn (by decide +kernel)) (hI6 h)
    · exact fun h => INV7_eq (EQD_glue sf sa sd sn (by decide +kernel)) (hI7 h)
    · exact fun h => INV8_eq (EQD_glue sf sa sd sn (by decide +kernel)) (hI8 h)
    · exact fun h => INV9_eq (EQD_glue sf sa sd sn (by decide +kernel)) (hI9 h)
def ι_we2_3 : List Nat := [0, 8, 25, 26, 27, 28, 9, 32, 10]
theorem vs_we2_3 : VS VPH V17_ve2 ι_we2_3 := VS_of (by decide +kernel)
set_option maxRecDepth 20000 in
theorem T_we2_3 {g : Nat → Bool} {σ : rS} {D N : Nat → Nat} {F : hF} {A : hA} {d c s : Nat} {Q : wQ} (X : PHI g σ D N F A)  {x1 y0 : Int} {ls : rO} (hl0 : rlook ls 0 = some (.ref (D 0))) (hl1 : rlook ls 1 = some (I x1)) (hl3 : rlook ls 3 = some (I (2))) (hl4 : rlook ls 4 = some (.ref (D 8))) (h0 : inr x1) (h1 : inr y0) (x_0 : (F 8 1) ≤ 16384) (hc337 : ∀ (ls : rO) (σₚ : rS) (Dₚ Nₚ : Nat → Nat) (Fₚ : hF) (Aₚ : hA) (cₚ sₚ : Nat), PHI g σₚ Dₚ Nₚ Fₚ Aₚ → STP g σ D N A c s g σₚ Dₚ Nₚ Aₚ cₚ sₚ → rlook ls 0 = some (.ref (Dₚ 0)) → rlook ls 1 = some (I (x1)) → Ew 17 (d + 3) 337 ls [] σₚ cₚ sₚ Q) (k : ∀ (z : Int) (σₚ : rS) (Dₚ Nₚ : Nat → Nat) (Fₚ : hF) (Aₚ : hA) (cₚ sₚ : Nat), PHI g σₚ Dₚ Nₚ Fₚ Aₚ → STP g σ D N A c s g σₚ Dₚ Nₚ Aₚ cₚ sₚ → (inr z) → Q (some (I z)) σₚ cₚ sₚ) : Ew 17 (d + 3) 239 ls [I y0] σ c s Q := by
  obtain ⟨HX, HT, hg0, hPF, hAB, hNZ, hGI, hI0, hI1, hI2, hI3, hI4, hI5, hI6, hI7, hI8, hI9⟩ := X
  have hset := SETI_f hI0.2.2.2.2.2.2.2.2.2.2.2.2.2.2.2.2.2
  have hJ0 := hI0
  unfold INV0 at hJ0
  obtain ⟨f0_0, f0_1, f0_2, f0_3, f0_4, f0_5, f0_6, f0_7, f0_8, f0_9, f0_10, f0_11, f0_12, f0_13, f0_14, f0_15, f0_16, f0_17⟩ := hJ0
  have hp : ∀ x, x < (V17_ve2).length → SPH g (ι_we2_3.getD x 0) = true := SPH_of (gs := [0]) (by intro j hj; simp at hj; subst hj; exact hg0) rfl (by decide +kernel)
  refine C17_ve2 (D := pul ι_we2_3 D) (N := pul ι_we2_3 N) (F := pul ι_we2_3 F) (A := pul ι_we2_3 A) (HWs_sub HX vs_we2_3 hp) (show F 0 5 = (D 25 : Int) from hPF (0, 0, 5, 25) (List.mem_of_getElem? (i := 24) rfl) hg0 hg0) (show F 25 0 = (D 26 : Int) from hPF (0, 25, 0, 26) (List.mem_of_getElem? (i := 25) rfl) hg0 hg0) (show F 0 6 = (D 27 : Int) from hPF (0, 0, 6, 27) (List.mem_of_getElem? (i := 26) rfl) hg0 hg0) (show F 27 0 = (D 28 : Int) from hPF (0, 27, 0, 28) (List.mem_of_getElem? (i := 27) rfl) hg0 hg0) (show F 8 0 = (D 9 : Int) from hPF (0, 8, 0, 9) (List.mem_of_getElem? (i := 8) rfl) hg0 hg0) (show F 0 16 = (D 32 : Int) from hPF (0, 0, 16, 32) (List.mem_of_getElem? (i := 31) rfl) hg0 hg0) (show F 0 1 = (D 10 : Int) from hPF (0, 0, 1, 10) (List.mem_of_getElem? (i := 9) rfl) hg0 hg0) (N 26 : Int) rfl (N 28 : Int) rfl (N 9 : Int) rfl (N 32 : Int) rfl (N 10 : Int) rfl (F 8 1) rfl (F 25 1) rfl (F 27 1) rfl (A 10) rfl hl0 hl1 hl3 hl4 (show inr (x1) by assumption) (show inr y0 by assumption) (show 0 ≤ (F 25 1) ∧ (F 25 1) ≤ ((N 26 : Int)) ∧ ((N 26 : Int)) ≤ 65536 by assumption) (show 0 ≤ (F 27 1) ∧ (F 27 1) ≤ ((N 28 : Int)) ∧ ((N 28 : Int)) ≤ 65536 by assumption) (show 0 ≤ (F 8 1) ∧ (F 8 1) ≤ ((N 9 : Int)) ∧ ((N 9 : Int)) ≤ 65536 by assumption) (show (F 8 1) ≤ 16384 by assumption) (show ((N 32 : Int)) = 2 by assumption) (show 1 ≤ ((A 10)) 2 ∧ ((A 10)) 2 ≤ 65536 by omega) (show 0 ≤ ((A 10)) 8 ∧ ((A 10)) 8 ≤ 11 by omega) (show 0 ≤ ((A 10)) 6 ∧ ((A 10)) 6 ≤ 255 by omega) (show ((N 10 : Int)) = 10 by assumption) (fun  ls σ F_c337 A_c337  lc337_0 lc337_1 H O hS_c337 hA_c337     jc337_0 => ?_) (fun z σₚ Fₚ Aₚ Hₚ O sf sa q0 q1 => ?_)
  · skip
    have sd : SD [] (pul ι_we2_3 D) (pul ι_we2_3 D) := SD_refl
    have sn : SD [] (pul ι_we2_3 N) (pul ι_we2_3 N) := SD_refl
    refine hc337   _ _ (glu ι_we2_3 D (pul ι_we2_3 D)) (glu ι_we2_3 N (pul ι_we2_3 N)) (glu ι_we2_3 F F_c337) (glu ι_we2_3 A A_c337) _ _ ⟨HWs_call HX VPH_3 vs_we2_3 hp H O, STC_call HT HX vs_we2_3 hp O, hg0, PFI_glue (dl := []) hPF hS_c337 hA_c337 sd (by decide +kernel) (rexc_of (l := []) (by decide +kernel) ?_), ABS_glue hAB hS_c337 (by decide +kernel), NZ_glue hNZ vs_we2_3 hp sn (by decide +kernel), hGI, ?_, ?_, ?_, ?_, ?_, ?_, ?_, ?_, ?_, ?_⟩ ⟨(STP0_call (STY_call vs_we2_3 hp O) (sd 0 rfl) (RM_call vs_we2_3 O)), unt1_of (x := 10) (by decide +kernel) (fun p hp => funext (hA_c337 p hp))⟩ lc337_0 lc337_1
    · intro e he h1 h2
      cases he
    · exact INV0_eq (EQD_glue hS_c337 hA_c337 sd sn (by decide +kernel)) hI0
    · exact fun h => INV1_eq (EQD_glue hS_c337 hA_c337 sd sn (by decide +kernel)) (hI1 h)
    · exact fun h => INV2_eq (EQD_glue hS_c337 hA_c337 sd sn (by decide +kernel)) (hI2 h)
    · exact fun h => INV3_eq (EQD_glue hS_c337 hA_c337 sd sn (by decide +kernel)) (hI3 h)
    · exact fun h => INV4_eq (EQD_glue hS_c337 hA_c337 sd sn (by decide +kernel)) (hI4 h)
    · exact fun h => INV5_eq (EQD_glue hS_c337 hA_c337 sd sn (by decide +kernel)) (hI5 h)
    · exact fun h => INV6_eq (EQD_glue hS_c337 hA_c337 sd sn (by decide +kernel)) (hI6 h)
    · exact fun h => INV7_eq (EQD_glue hS_c337 hA_c337 sd sn (by decide +kernel)) (hI7 h)
    · exact fun h => INV8_eq (EQD_glue hS_c337 hA_c337 sd sn (by decide +kernel)) (hI8 h)
    · exact fun h => INV9_eq (EQD_glue hS_c337 hA_c337 sd sn (by decide +kernel)) (hI9 h)
  · skip
    have sd : SD [] (pul ι_we2_3 D) (pul ι_we2_3 D) := SD_refl
    have sn : SD [] (pul ι_we2_3 N) (pul ι_we2_3 N) := SD_refl
    refine k z _ (glu ι_we2_3 D (pul ι_we2_3 D)) (glu ι_we2_3 N (pul ι_we2_3 N)) (glu ι_we2_3 F Fₚ) (glu ι_we2_3 A Aₚ) _ _ ⟨HWs_call HX VPH_3 vs_we2_3 hp Hₚ O, STC_call HT HX vs_we2_3 hp O, hg0, PFI_glue (dl := []) hPF sf sa sd (by decide +kernel) (rexc_of (l := []) (by decide +kernel) ?_), ABS_glue hAB sf (by decide +kernel), NZ_glue hNZ vs_we2_3 hp sn (by decide +kernel), hGI, ?_, ?_, ?_, ?_, ?_, ?_, ?_, ?_, ?_, ?_⟩ ⟨(STP0_call (STY_call vs_we2_3 hp O) (sd 0 rfl) (RM_call vs_we2_3 O)), unt1_of (x := 10) (by decide +kernel) (fun p hp => funext (sa p hp))⟩ (show inr z by assumption)
    · intro e he h1 h2
      cases he
    · exact INV0_eq (EQD_glue sf sa sd sn (by decide +kernel)) hI0
    · exact fun h => INV1_eq (EQD_glue sf sa sd sn (by decide +kernel)) (hI1 h)
    · exact fun h => INV2_eq (EQD_glue sf sa sd sn (by decide +kernel)) (hI2 h)
    · exact fun h => INV3_eq (EQD_glue sf sa sd sn (by decide +kernel)) (hI3 h)
    · exact fun h => INV4_eq (EQD_glue sf sa sd sn (by decide +kernel)) (hI4 h)
    · exact fun h => INV5_eq (EQD_glue sf sa sd sn (by decide +kernel)) (hI5 h)
    · exact fun h => INV6_eq (EQD_glue sf sa sd sn (by decide +kernel)) (hI6 h)
    · exact fun h => INV7_eq (EQD_glue sf sa sd sn (by decide +kernel)) (hI7 h)
    · exact fun h => INV8_eq (EQD_glue sf sa sd sn (by decide +kernel)) (hI8 h)
    · exact fun h => INV9_eq (EQD_glue sf sa sd sn (by decide +kernel)) (hI9 h)
def ι_we3_3 : List Nat := [0, 8, 25, 26, 27, 28, 9, 32, 10]
theorem vs_we3_3 : VS VPH V17_ve3 ι_we3_3 := VS_of (by decide +kernel)
set_option maxRecDepth 20000 in
theorem T_we3_3 {g : Nat → Bool} {σ : rS} {D N : Nat → Nat} {F : hF} {A : hA} {d c s : Nat} {Q : wQ} (X : PHI g σ D N F A)  {x1 y0 : Int} {ls : rO} (hl0 : rlook ls 0 = some (.ref (D 0))) (hl1 : rlook ls 1 = some (I x1)) (hl3 : rlook ls 3 = some (I (3))) (hl4 : rlook ls 4 = some (.ref (D 8))) (h0 : inr x1) (h1 : inr y0) (x_0 : (F 8 1) ≤ 16384) (hc337 : ∀ (ls : rO) (σₚ : rS) (Dₚ Nₚ : Nat → Nat) (Fₚ : hF) (Aₚ : hA) (cₚ sₚ : Nat), PHI g σₚ Dₚ Nₚ Fₚ Aₚ → STP g σ D N A c s g σₚ Dₚ Nₚ Aₚ cₚ sₚ → rlook ls 0 = some (.ref (Dₚ 0)) → rlook ls 1 = some (I (x1)) → Ew 17 (d + 3) 337 ls [] σₚ cₚ sₚ Q) (k : ∀ (z : Int) (σₚ : rS) (Dₚ Nₚ : Nat → Nat) (Fₚ : hF) (Aₚ : hA) (cₚ sₚ : Nat), PHI g σₚ Dₚ Nₚ Fₚ Aₚ → STP g σ D N A c s g σₚ Dₚ Nₚ Aₚ cₚ sₚ → (inr z) → Q (some (I z)) σₚ cₚ sₚ) : Ew 17 (d + 3) 239 ls [I y0] σ c s Q := by
  obtain ⟨HX, HT, hg0, hPF, hAB, hNZ, hGI, hI0, hI1, hI2, hI3, hI4, hI5, hI6, hI7, hI8, hI9⟩ := X
  have hset := SETI_f hI0.2.2.2.2.2.2.2.2.2.2.2.2.2.2.2.2.2
  have hJ0 := hI0
  unfold INV0 at hJ0
  obtain ⟨f0_0, f0_1, f0_2, f0_3, f0_4, f0_5, f0_6, f0_7, f0_8, f0_9, f0_10, f0_11, f0_12, f0_13, f0_14, f0_15, f0_16, f0_17⟩ := hJ0
  have hp : ∀ x, x < (V17_ve3).length → SPH g (ι_we3_3.getD x 0) = true := SPH_of (gs := [0]) (by intro j hj; simp at hj; subst hj; exact hg0) rfl (by decide +kernel)
  refine C17_ve3 (D := pul ι_we3_3 D) (N := pul ι_we3_3 N) (F := pul ι_we3_3 F) (A := pul ι_we3_3 A) (HWs_sub HX vs_we3_3 hp) (show F 0 5 = (D 25 : Int) from hPF (0, 0, 5, 25) (List.mem_of_getElem? (i := 24) rfl) hg0 hg0) (show F 25 0 = (D 26 : Int) from hPF (0, 25, 0, 26) (List.mem_of_getElem? (i := 25) rfl) hg0 hg0) (show F 0 6 = (D 27 : Int) from hPF (0, 0, 6, 27) (List.mem_of_getElem? (i := 26) rfl) hg0 hg0) (show F 27 0 = (D 28 : Int) from hPF (0, 27, 0, 28) (List.mem_of_getElem? (i := 27) rfl) hg0 hg0) (show F 8 0 = (D 9 : Int) from hPF (0, 8, 0, 9) (List.mem_of_getElem? (i := 8) rfl) hg0 hg0) (show F 0 16 = (D 32 : Int) from hPF (0, 0, 16, 32) (List.mem_of_getElem? (i := 31) rfl) hg0 hg0) (show F 0 1 = (D 10 : Int) from hPF (0, 0, 1, 10) (List.mem_of_getElem? (i := 9) rfl) hg0 hg0) (N 26 : Int) rfl (N 28 : Int) rfl (N 9 : Int) rfl (N 32 : Int) rfl (N 10 : Int) rfl (F 8 1) rfl (F 25 1) rfl (F 27 1) rfl (A 10) rfl hl0 hl1 hl3 hl4 (show inr (x1) by assumption) (show inr y0 by assumption) (show 0 ≤ (F 25 1) ∧ (F 25 1) ≤ ((N 26 : Int)) ∧ ((N 26 : Int)) ≤ 65536 by assumption) (show 0 ≤ (F 27 1) ∧ (F 27 1) ≤ ((N 28 : Int)) ∧ ((N 28 : Int)) ≤ 65536 by assumption) (show 0 ≤ (F 8 1) ∧ (F 8 1) ≤ ((N 9 : Int)) ∧ ((N 9 : Int)) ≤ 65536 by assumption) (show (F 8 1) ≤ 16384 by assumption) (show ((N 32 : Int)) = 2 by assumption) (show 1 ≤ ((A 10)) 2 ∧ ((A 10)) 2 ≤ 65536 by omega) (show 0 ≤ ((A 10)) 8 ∧ ((A 10)) 8 ≤ 11 by omega) (show 0 ≤ ((A 10)) 6 ∧ ((A 10)) 6 ≤ 255 by omega) (show ((N 10 : Int)) = 10 by assumption) (fun  ls σ F_c337 A_c337  lc337_0 lc337_1 H O hS_c337 hA_c337     jc337_0 => ?_) (fun z σₚ Fₚ Aₚ Hₚ O sf sa q0 q1 => ?_)
  · skip
    have sd : SD [] (pul ι_we3_3 D) (pul ι_we3_3 D) := SD_refl
    have sn : SD [] (pul ι_we3_3 N) (pul ι_we3_3 N) := SD_refl
    refine hc337   _ _ (glu ι_we3_3 D (pul ι_we3_3 D)) (glu ι_we3_3 N (pul ι_we3_3 N)) (glu ι_we3_3 F F_c337) (glu ι_we3_3 A A_c337) _ _ ⟨HWs_call HX VPH_3 vs_we3_3 hp H O, STC_call HT HX vs_we3_3 hp O, hg0, PFI_glue (dl := []) hPF hS_c337 hA_c337 sd (by decide +kernel) (rexc_of (l := []) (by decide +kernel) ?_), ABS_glue hAB hS_c337 (by decide +kernel), NZ_glue hNZ vs_we3_3 hp sn (by decide +kernel), hGI, ?_, ?_, ?_, ?_, ?_, ?_, ?_, ?_, ?_, ?_⟩ ⟨(STP0_call (STY_call vs_we3_3 hp O) (sd 0 rfl) (RM_call vs_we3_3 O)), unt1_of (x := 10) (by decide +kernel) (fun p hp => funext (hA_c337 p hp))⟩ lc337_0 lc337_1
    · intro e he h1 h2
      cases he
    · exact INV0_eq (EQD_glue hS_c337 hA_c337 sd sn (by decide +kernel)) hI0
    · exact fun h => INV1_eq (EQD_glue hS_c337 hA_c337 sd sn (by decide +kernel)) (hI1 h)
    · exact fun h => INV2_eq (EQD_glue hS_c337 hA_c337 sd sn (by decide +kernel)) (hI2 h)
    · exact fun h => INV3_eq (EQD_glue hS_c337 hA_c337 sd sn (by decide +kernel)) (hI3 h)
    · exact fun h => INV4_eq (EQD_glue hS_c337 hA_c337 sd sn (by decide +kernel)) (hI4 h)
    · exact fun h => INV5_eq (EQD_glue hS_c337 hA_c337 sd sn (by decide +kernel)) (hI5 h)
    · exact fun h => INV6_eq (EQD_glue hS_c337 hA_c337 sd sn (by decide +kernel)) (hI6 h)
    · exact fun h => INV7_eq (EQD_glue hS_c337 hA_c337 sd sn (by decide +kernel)) (hI7 h)
    · exact fun h => INV8_eq (EQD_glue hS_c337 hA_c337 sd sn (by decide +kernel)) (hI8 h)
    · exact fun h => INV9_eq (EQD_glue hS_c337 hA_c337 sd sn (by decide +kernel)) (hI9 h)
  · skip
    have sd : SD [] (pul ι_we3_3 D) (pul ι_we3_3 D) := SD_refl
    have sn : SD [] (pul ι_we3_3 N) (pul ι_we3_3 N) := SD_refl
    refine k z _ (glu ι_we3_3 D (pul ι_we3_3 D)) (glu ι_we3_3 N (pul ι_we3_3 N)) (glu ι_we3_3 F Fₚ) (glu ι_we3_3 A Aₚ) _ _ ⟨HWs_call HX VPH_3 vs_we3_3 hp Hₚ O, STC_call HT HX vs_we3_3 hp O, hg0, PFI_glue (dl := []) hPF sf sa sd (by decide +kernel) (rexc_of (l := []) (by decide +kernel) ?_), ABS_glue hAB sf (by decide +kernel), NZ_glue hNZ vs_we3_3 hp sn (by decide +kernel), hGI, ?_, ?_, ?_, ?_, ?_, ?_, ?_, ?_, ?_, ?_⟩ ⟨(STP0_call (STY_call vs_we3_3 hp O) (sd 0 rfl) (RM_call vs_we3_3 O)), unt1_of (x := 10) (by decide +kernel) (fun p hp => funext (sa p hp))⟩ (show inr z by assumption)
    · intro e he h1 h2
      cases he
    · exact INV0_eq (EQD_glue sf sa sd sn (by decide +kernel)) hI0
    · exact fun h => INV1_eq (EQD_glue sf sa sd sn (by decide +kernel)) (hI1 h)
    · exact fun h => INV2_eq (EQD_glue sf sa sd sn (by decide +kernel)) (hI2 h)
    · exact fun h => INV3_eq (EQD_glue sf sa sd sn (by decide +kernel)) (hI3 h)
    · exact fun h => INV4_eq (EQD_glue sf sa sd sn (by decide +kernel)) (hI4 h)
    · exact fun h => INV5_eq (EQD_glue sf sa sd sn (by decide +kernel)) (hI5 h)
    · exact fun h => INV6_eq (EQD_glue sf sa sd sn (by decide +kernel)) (hI6 h)
    · exact fun h => INV7_eq (EQD_glue sf sa sd sn (by decide +kernel)) (hI7 h)
    · exact fun h => INV8_eq (EQD_glue sf sa sd sn (by decide +kernel)) (hI8 h)
    · exact fun h => INV9_eq (EQD_glue sf sa sd sn (by decide +kernel)) (hI9 h)
def ι_we4_3 : List Nat := [0, 8, 25, 26, 27, 28, 9, 32, 29, 75, 199, 10]
theorem vs_we4_3 : VS VPH V17_ve4 ι_we4_3 := VS_of (by decide +kernel)
set_option maxRecDepth 20000 in
theorem T_we4_3 {g : Nat → Bool} {σ : rS} {D N : Nat → Nat} {F : hF} {A : hA} {d c s : Nat} {Q : wQ} (X : PHI g σ D N F A) (hg5 : g 5 = true) {x1 y0 : Int} {ls : rO} (hl0 : rlook ls 0 = some (.ref (D 0))) (hl1 : rlook ls 1 = some (I x1)) (hl3 : rlook ls 3 = some (I (4))) (hl4 : rlook ls 4 = some (.ref (D 8))) (h0 : inr x1) (h1 : inr y0) (x_0 : (F 8 1) ≤ 16384) (hc337 : ∀ (ls : rO) (σₚ : rS) (Dₚ Nₚ : Nat → Nat) (Fₚ : hF) (Aₚ : hA) (cₚ sₚ : Nat), PHI g σₚ Dₚ Nₚ Fₚ Aₚ → STP g σ D N A c s g σₚ Dₚ Nₚ Aₚ cₚ sₚ → rlook ls 0 = some (.ref (Dₚ 0)) → rlook ls 1 = some (I (x1)) → Ew 17 (d + 3) 337 ls [] σₚ cₚ sₚ Q) (k : ∀ (z : Int) (σₚ : rS) (Dₚ Nₚ : Nat → Nat) (Fₚ : hF) (Aₚ : hA) (cₚ sₚ : Nat), PHI g σₚ Dₚ Nₚ Fₚ Aₚ → STP g σ D N A c s g σₚ Dₚ Nₚ Aₚ cₚ sₚ → (inr z) → Q (some (I z)) σₚ cₚ sₚ) : Ew 17 (d + 3) 239 ls [I y0] σ c s Q := by
  obtain ⟨HX, HT, hg0, hPF, hAB, hNZ, hGI, hI0, hI1, hI2, hI3, hI4, hI5, hI6, hI7, hI8, hI9⟩ := X
  have hset := SETI_f hI0.2.2.2.2.2.2.2.2.2.2.2.2.2.2.2.2.2
  have hJ0 := hI0
  unfold INV0 at hJ0
  obtain ⟨f0_0, f0_1, f0_2, f0_3, f0_4, f0_5, f0_6, f0_7, f0_8, f0_9, f0_10, f0_11, f0_12, f0_13, f0_14, f0_15, f0_16, f0_17⟩ := hJ0
  have hJ5 := hI5 hg5
  unfold INV5 at hJ5
  obtain ⟨f5_0, f5_1, f5_2, f5_3, f5_4, f5_5, f5_6, f5_7, f5_8, f5_9, f5_10, f5_11, f5_12, f5_13, f5_14, f5_15, f5_16, f5_17, f5_18, f5_19, f5_20, f5_21⟩ := hJ5
  have hp : ∀ x, x < (V17_ve4).length → SPH g (ι_we4_3.getD x 0) = true := SPH_of (gs := [0, 5]) (by intro j hj; simp at hj; rcases hj with rfl | rfl <;> assumption) rfl (by decide +kernel)
  refine C17_ve4 (D := pul ι_we4_3 D) (N := pul ι_we4_3 N) (F := pul ι_we4_3 F) (A := pul ι_we4_3 A) (HWs_sub HX vs_we4_3 hp) (show F 0 5 = (D 25 : Int) from hPF (0, 0, 5, 25) (List.mem_of_getElem? (i := 24) rfl) hg0 hg0) (show F 25 0 = (D 26 : Int) from hPF (0, 25, 0, 26) (List.mem_of_getElem? (i := 25) rfl) hg0 hg0) (show F 0 6 = (D 27 : Int) from hPF (0, 0, 6, 27) (List.mem_of_getElem? (i := 26) rfl) hg0 hg0) (show F 27 0 = (D 28 : Int) from hPF (0, 27, 0, 28) (List.mem_of_getElem? (i := 27) rfl) hg0 hg0) (show F 8 0 = (D 9 : Int) from hPF (0, 8, 0, 9) (List.mem_of_getElem? (i := 8) rfl) hg0 hg0) (show F 0 16 = (D 32 : Int) from hPF (0, 0, 16, 32) (List.mem_of_getElem? (i := 31) rfl) hg0 hg0) (show F 0 13 = (D 29 : Int) from hPF (0, 0, 13, 29) (List.mem_of_getElem? (i := 28) rfl) hg0 hg0) (show F 0 11 = (D 75 : Int) from hPF (0, 0, 11, 75) (List.mem_of_getElem? (i := 74) rfl) hg0 hg5) (show F 75 18 = (D 199 : Int) from hPF (0, 75, 18, 199) (List.mem_of_getElem? (i := 198) rfl) hg5 hg5) (show F 0 1 = (D 10 : Int) from hPF (0, 0, 1, 10) (List.mem_of_getElem? (i := 9) rfl) hg0 hg0) (N 26 : Int) rfl (N 28 : Int) rfl (N 9 : Int) rfl (N 32 : Int) rfl (N 29 : Int) rfl (N 199 : Int) rfl (N 10 : Int) rfl (F 8 1) rfl (F 25 1) rfl (F 27 1) rfl (A 10) rfl hl0 hl1 hl3 hl4 (show inr (x1) by assumption) (show inr y0 by assumption) (show 0 ≤ (F 25 1) ∧ (F 25 1) ≤ ((N 26 : Int)) ∧ ((N 26 : Int)) ≤ 65536 by assumption) (show 0 ≤ (F 27 1) ∧ (F 27 1) ≤ ((N 28 : Int)) ∧ ((N 28 : Int)) ≤ 65536 by assumption) (show 0 ≤ (F 8 1) ∧ (F 8 1) ≤ ((N 9 : Int)) ∧ ((N 9 : Int)) ≤ 65536 by assumption) (show (F 8 1) ≤ 16384 by assumption) (show ((N 32 : Int)) = 2 by assumption) (show ((N 29 : Int)) = 13 by assumption) (show ((N 199 : Int)) = 13 by omega) (show 1 ≤ ((A 10)) 2 ∧ ((A 10)) 2 ≤ 65536 by omega) (show 0 ≤ ((A 10)) 8 ∧ ((A 10)) 8 ≤ 11 by omega) (show 0 ≤ ((A 10)) 6 ∧ ((A 10)) 6 ≤ 255 by omega) (show ((N 10 : Int)) = 10 by assumption) (fun  ls σ F_c337 A_c337  lc337_0 lc337_1 H O hS_c337 hA_c337     jc337_0 => ?_) (fun z σₚ Fₚ Aₚ Hₚ O sf sa q0 q1 => ?_)
  · skip
    have sd : SD [] (pul ι_we4_3 D) (pul ι_we4_3 D) := SD_refl
    have sn : SD [] (pul ι_we4_3 N) (pul ι_we4_3 N) := SD_refl
    refine hc337   _ _ (glu ι_we4_3 D (pul ι_we4_3 D)) (glu ι_we4_3 N (pul ι_we4_3 N)) (glu ι_we4_3 F F_c337) (glu ι_we4_3 A A_c337) _ _ ⟨HWs_call HX VPH_3 vs_we4_3 hp H O, STC_call HT HX vs_we4_3 hp O, hg0, PFI_glue (dl := []) hPF hS_c337 hA_c337 sd (by decide +kernel) (rexc_of (l := []) (by decide +kernel) ?_), ABS_glue hAB hS_c337 (by decide +kernel), NZ_glue hNZ vs_we4_3 hp sn (by decide +kernel), hGI, ?_, ?_, ?_, ?_, ?_, ?_, ?_, ?_, ?_, ?_⟩ ⟨(STP0_call (STY_call vs_we4_3 hp O) (sd 0 rfl) (RM_call vs_we4_3 O)), unt1_of (x := 10) (by decide +kernel) (fun p hp => funext (hA_c337 p hp))⟩ lc337_0 lc337_1
    · intro e he h1 h2
      cases he
    · exact INV0_eq (EQD_glue hS_c337 hA_c337 sd sn (by decide +kernel)) hI0
    · exact fun h => INV1_eq (EQD_glue hS_c337 hA_c337 sd sn (by decide +kernel)) (hI1 h)
    · exact fun h => INV2_eq (EQD_glue hS_c337 hA_c337 sd sn (by decide +kernel)) (hI2 h)
    · exact fun h => INV3_eq (EQD_glue hS_c337 hA_c337 sd sn (by decide +kernel)) (hI3 h)
    · exact fun h => INV4_eq (EQD_glue hS_c337 hA_c337 sd sn (by decide +kernel)) (hI4 h)
    · exact fun h => INV5_eq (EQD_glue hS_c337 hA_c337 sd sn (by decide +kernel)) (hI5 h)
    · exact fun h => INV6_eq (EQD_glue hS_c337 hA_c337 sd sn (by decide +kernel)) (hI6 h)
    · exact fun h => INV7_eq (EQD_glue hS_c337 hA_c337 sd sn (by decide +kernel)) (hI7 h)
    · exact fun h => INV8_eq (EQD_glue hS_c337 hA_c337 sd sn (by decide +kernel)) (hI8 h)
    · exact fun h => INV9_eq (EQD_glue hS_c337 hA_c337 sd sn (by decide +kernel)) (hI9 h)
  · skip
    have sd : SD [] (pul ι_we4_3 D) (pul ι_we4_3 D) := SD_refl
    have sn : SD [] (pul ι_we4_3 N) (pul ι_we4_3 N) := SD_refl
    refine k z _ (glu ι_we4_3 D (pul ι_we4_3 D)) (glu ι_we4_3 N (pul ι_we4_3 N)) (glu ι_we4_3 F Fₚ) (glu ι_we4_3 A Aₚ) _ _ ⟨HWs_call HX VPH_3 vs_we4_3 hp Hₚ O, STC_call HT HX vs_we4_3 hp O, hg0, PFI_glue (dl := []) hPF sf sa sd (by decide +kernel) (rexc_of (l := []) (by decide +kernel) ?_), ABS_glue hAB sf (by decide +kernel), NZ_glue hNZ vs_we4_3 hp sn (by decide +kernel), hGI, ?_, ?_, ?_, ?_, ?_, ?_, ?_, ?_, ?_, ?_⟩ ⟨(STP0_call (STY_call vs_we4_3 hp O) (sd 0 rfl) (RM_call vs_we4_3 O)), unt1_of (x := 10) (by decide +kernel) (fun p hp => funext (sa p hp))⟩ (show inr z by assumption)
    · intro e he h1 h2
      cases he
    · exact INV0_eq (EQD_glue sf sa sd sn (by decide +kernel)) hI0
    · exact fun h => INV1_eq (EQD_glue sf sa sd sn (by decide +kernel)) (hI1 h)
    · exact fun h => INV2_eq (EQD_glue sf sa sd sn (by decide +kernel)) (hI2 h)
    · exact fun h => INV3_eq (EQD_glue sf sa sd sn (by decide +kernel)) (hI3 h)
    · exact fun h => INV4_eq (EQD_glue sf sa sd sn (by decide +kernel)) (hI4 h)
    · exact fun h => INV5_eq (EQD_glue sf sa sd sn (by decide +kernel)) (hI5 h)
    · exact fun h => INV6_eq (EQD_glue sf sa sd sn (by decide +kernel)) (hI6 h)
    · exact fun h => INV7_eq (EQD_glue sf sa sd sn (by decide +kernel)) (hI7 h)
    · exact fun h => INV8_eq (EQD_glue sf sa sd sn (by decide +kernel)) (hI8 h)
    · exact fun h => INV9_eq (EQD_glue sf sa sd sn (by decide +kernel)) (hI9 h)
def ι_we5_3 : List Nat := [0, 8, 25, 26, 9, 32, 10]
theorem vs_we5_3 : VS VPH V17_ve5 ι_we5_3 := VS_of (by decide +kernel)
set_option maxRecDepth 20000 in
theorem T_we5_3 {g : Nat → Bool} {σ : rS} {D N : Nat → Nat} {F : hF} {A : hA} {d c s : Nat} {Q : wQ} (X : PHI g σ D N F A)  {x1 : Int} {ls : rO} (hl0 : rlook ls 0 = some (.ref (D 0))) (hl1 : rlook ls 1 = some (I x1)) (hl3 : rlook ls 3 = some (I (5))) (hl4 : rlook ls 4 = some (.ref (D 8))) (h0 : inr x1) (x_0 : (F 8 1) ≤ 16384) (hc337 : ∀ (ls : rO) (σₚ : rS) (Dₚ Nₚ : Nat → Nat) (Fₚ : hF) (Aₚ : hA) (cₚ sₚ : Nat), PHI g σₚ Dₚ Nₚ Fₚ Aₚ → STP g σ D N A c s g σₚ Dₚ Nₚ Aₚ cₚ sₚ → rlook ls 0 = some (.ref (Dₚ 0)) → rlook ls 1 = some (I (x1)) → Ew 17 (d + 3) 337 ls [] σₚ cₚ sₚ Q) (k : ∀ (z : Int) (σₚ : rS) (Dₚ Nₚ : Nat → Nat) (Fₚ : hF) (Aₚ : hA) (cₚ sₚ : Nat), PHI g σₚ Dₚ Nₚ Fₚ Aₚ → STP g σ D N A c s g σₚ Dₚ Nₚ Aₚ cₚ sₚ → (inr z) → Q (some (I z)) σₚ cₚ sₚ) : Ew 17 (d + 3) 277 ls [] σ c s Q := by
  obtain ⟨HX, HT, hg0, hPF, hAB, hNZ, hGI, hI0, hI1, hI2, hI3, hI4, hI5, hI6, hI7, hI8, hI9⟩ := X
  have hset := SETI_f hI0.2.2.2.2.2.2.2.2.2.2.2.2.2.2.2.2.2
  have hJ0 := hI0
  unfold INV0 at hJ0
  obtain ⟨f0_0, f0_1, f0_2, f0_3, f0_4, f0_5, f0_6, f0_7, f0_8, f0_9, f0_10, f0_11, f0_12, f0_13, f0_14, f0_15, f0_16, f0_17⟩ := hJ0
  have hp : ∀ x, x < (V17_ve5).length → SPH g (ι_we5_3.getD x 0) = true := SPH_of (gs := [0]) (by intro j hj; simp at hj; subst hj; exact hg0) rfl (by decide +kernel)
  refine C17_ve5 (D := pul ι_we5_3 D) (N := pul ι_we5_3 N) (F := pul ι_we5_3 F) (A := pul ι_we5_3 A) (HWs_sub HX vs_we5_3 hp) (show F 0 5 = (D 25 : Int) from hPF (0, 0, 5, 25) (List.mem_of_getElem? (i := 24) rfl) hg0 hg0) (show F 25 0 = (D 26 : Int) from hPF (0, 25, 0, 26) (List.mem_of_getElem? (i := 25) rfl) hg0 hg0) (show F 8 0 = (D 9 : Int) from hPF (0, 8, 0, 9) (List.mem_of_getElem? (i := 8) rfl) hg0 hg0) (show F 0 16 = (D 32 : Int) from hPF (0, 0, 16, 32) (List.mem_of_getElem? (i := 31) rfl) hg0 hg0) (show F 0 1 = (D 10 : Int) from hPF (0, 0, 1, 10) (List.mem_of_getElem? (i := 9) rfl) hg0 hg0) (N 26 : Int) rfl (N 9 : Int) rfl (N 32 : Int) rfl (N 10 : Int) rfl (F 8 1) rfl (F 25 1) rfl (A 10) rfl hl0 hl1 hl3 hl4 (show inr (x1) by assumption) (show 0 ≤ (F 25 1) ∧ (F 25 1) ≤ ((N 26 : Int)) ∧ ((N 26 : Int)) ≤ 65536 by assumption) (show 0 ≤ (F 8 1) ∧ (F 8 1) ≤ ((N 9 : Int)) ∧ ((N 9 : Int)) ≤ 65536 by assumption) (show (F 8 1) ≤ 16384 by assumption) (show ((N 32 : Int)) = 2 by assumption) (show 1 ≤ ((A 10)) 2 ∧ ((A 10)) 2 ≤ 65536 by omega) (show 0 ≤ ((A 10)) 8 ∧ ((A 10)) 8 ≤ 11 by omega) (show 0 ≤ ((A 10)) 6 ∧ ((A 10)) 6 ≤ 255 by omega) (show ((N 10 : Int)) = 10 by assumption) (fun  ls σ F_c337 A_c337  lc337_0 lc337_1 H O hS_c337 hA_c337     jc337_0 => ?_) (fun z σₚ Fₚ Aₚ Hₚ O sf sa q0 q1 => ?_)
  · skip
    have sd : SD [] (pul ι_we5_3 D) (pul ι_we5_3 D) := SD_refl
    have sn : SD [] (pul ι_we5_3 N) (pul ι_we5_3 N) := SD_refl
    refine hc337   _ _ (glu ι_we5_3 D (pul ι_we5_3 D)) (glu ι_we5_3 N (pul ι_we5_3 N)) (glu ι_we5_3 F F_c337) (glu ι_we5_3 A A_c337) _ _ ⟨HWs_call HX VPH_3 vs_we5_3 hp H O, STC_call HT HX vs_we5_3 hp O, hg0, PFI_glue (dl := []) hPF hS_c337 hA_c337 sd (by decide +kernel) (rexc_of (l := []) (by decide +kernel) ?_), ABS_glue hAB hS_c337 (by decide +kernel), NZ_glue hNZ vs_we5_3 hp sn (by decide +kernel), hGI, ?_, ?_, ?_, ?_, ?_, ?_, ?_, ?_, ?_, ?_⟩ ⟨(STP0_call (STY_call vs_we5_3 hp O) (sd 0 rfl) (RM_call vs_we5_3 O)), unt1_of (x := 10) (by decide +kernel) (fun p hp => funext (hA_c337 p hp))⟩ lc337_0 lc337_1
    · intro e he h1 h2
      cases he
    · exact INV0_eq (EQD_glue hS_c337 hA_c337 sd sn (by decide +kernel)) hI0
    · exact fun h => INV1_eq (EQD_glue hS_c337 hA_c337 sd sn (by decide +kernel)) (hI1 h)
    · exact fun h => INV2_eq (EQD_glue hS_c337 hA_c337 sd sn (by decide +kernel)) (hI2 h)
    · exact fun h => INV3_eq (EQD_glue hS_c337 hA_c337 sd sn (by decide +kernel)) (hI3 h)
    · exact fun h => INV4_eq (EQD_glue hS_c337 hA_c337 sd sn (by decide +kernel)) (hI4 h)
    · exact fun h => INV5_eq (EQD_glue hS_c337 hA_c337 sd sn (by decide +kernel)) (hI5 h)
    · exact fun h => INV6_eq (EQD_glue hS_c337 hA_c337 sd sn (by decide +kernel)) (hI6 h)
    · exact fun h => INV7_eq (EQD_glue hS_c337 hA_c337 sd sn (by decide +kernel)) (hI7 h)
    · exact fun h => INV8_eq (EQD_glue hS_c337 hA_c337 sd sn (by decide +kernel)) (hI8 h)
    · exact fun h => INV9_eq (EQD_glue hS_c337 hA_c337 sd sn (by decide +kernel)) (hI9 h)
  · skip
    have sd : SD [] (pul ι_we5_3 D) (pul ι_we5_3 D) := SD_refl
    have sn : SD [] (pul ι_we5_3 N) (pul ι_we5_3 N) := SD_refl
    refine k z _ (glu ι_we5_3 D (pul ι_we5_3 D)) (glu ι_we5_3 N (pul ι_we5_3 N)) (glu ι_we5_3 F Fₚ) (glu ι_we5_3 A Aₚ) _ _ ⟨HWs_call HX VPH_3 vs_we5_3 hp Hₚ O, STC_call HT HX vs_we5_3 hp O, hg0, PFI_glue (dl := []) hPF sf sa sd (by decide +kernel) (rexc_of (l := []) (by decide +kernel) ?_), ABS_glue hAB sf (by decide +kernel), NZ_glue hNZ vs_we5_3 hp sn (by decide +kernel), hGI, ?_, ?_, ?_, ?_, ?_, ?_, ?_, ?_, ?_, ?_⟩ ⟨(STP0_call (STY_call vs_we5_3 hp O) (sd 0 rfl) (RM_call vs_we5_3 O)), unt1_of (x := 10) (by decide +kernel) (fun p hp => funext (sa p hp))⟩ (show inr z by assumption)
    · intro e he h1 h2
      cases he
    · exact INV0_eq (EQD_glue sf sa sd sn (by decide +kernel)) hI0
    · exact fun h => INV1_eq (EQD_glue sf sa sd sn (by decide +kernel)) (hI1 h)
    · exact fun h => INV2_eq (EQD_glue sf sa sd sn (by decide +kernel)) (hI2 h)
    · exact fun h => INV3_eq (EQD_glue sf sa sd sn (by decide +kernel)) (hI3 h)
    · exact fun h => INV4_eq (EQD_glue sf sa sd sn (by decide +kernel)) (hI4 h)
    · exact fun h => INV5_eq (EQD_glue sf sa sd sn (by decide +kernel)) (hI5 h)
    · exact fun h => INV6_eq (EQD_glue sf sa sd sn (by decide +kernel)) (hI6 h)
    · exact fun h => INV7_eq (EQD_glue sf sa sd sn (by decide +kernel)) (hI7 h)
    · exact fun h => INV8_eq (EQD_glue sf sa sd sn (by decide +kernel)) (hI8 h)
    · exact fun h => INV9_eq (EQD_glue sf sa sd sn (by decide +kernel)) (hI9 h)
