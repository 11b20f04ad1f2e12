def ι_ua0_r0 : List Nat := [0, 2, 30, 3, 27, 28]
theorem vs_ua0_r0 : VS VPH V32_Row_Ir_c20_va0 ι_ua0_r0 := VS_of (by decide +kernel)
set_option maxRecDepth 20000 in
theorem T_ua0_r0 {Dc : DcS} {g : Nat → Bool} {σ : rS} {D N : Nat → Nat} {F : hF} {A : hA} {d c s : Nat} {Q : wQ} (X : PHI Dc g σ D N F A)  {a3 : Int}  (h1 : inr a3)  (hc41 : ∀ (ls : rO) (σₚ : rS) (Dₚ Nₚ : Nat → Nat) (Fₚ : hF) (Aₚ : hA) (cₚ sₚ : Nat), PHI Dc g σₚ Dₚ Nₚ Fₚ Aₚ → STP g σ D N A c s g σₚ Dₚ Nₚ Aₚ cₚ sₚ → EQD [(2, 1), (4, 1), (6, 1), (8, 1), (11, 1), (0, 18), (25, 1)] [3, 5, 7, 9, 12, 10, 29, 30, 32, 26] [] [] D N F A Dₚ Nₚ Fₚ Aₚ → rlook ls 0 = some (.ref (Dₚ 0)) → rlook ls 1 = some (.ref (Dₚ 2)) → rlook ls 3 = some (I (a3)) → ((Fₚ 27 1) = 0) → ((Fₚ 27 2) = 0) → Ew 32 (d + 1) 41 ls [.ref (Dₚ 0)] σₚ cₚ sₚ Q) (k : ∀ (z : Int) (σₚ : rS) (Dₚ Nₚ : Nat → Nat) (Fₚ : hF) (Aₚ : hA) (cₚ sₚ : Nat), PHI Dc g σₚ Dₚ Nₚ Fₚ Aₚ → STP g σ D N A c s g σₚ Dₚ Nₚ Aₚ cₚ sₚ → EQD [(2, 1), (4, 1), (6, 1), (8, 1), (11, 1), (0, 18), (25, 1)] [3, 5, 7, 9, 12, 10, 29, 30, 32, 26] [] [] D N F A Dₚ Nₚ Fₚ Aₚ → ((0 : Int) = 1) → Q (some (I z)) σₚ cₚ sₚ) : Ew 32 (d + 1) 0 (rargs 0 [.ref (D 0), .ref (D 2), I 0, I a3, .ref (D 30)]) [] σ c s Q := by
  obtain ⟨HX, HT, hg0, hPF, hAB, hNZ, hGI, hI0, hI1, hI2, hI3, hI4, hI5, hI6, hI7, hI8, hI9⟩ := X
  have hset := SETI_f hI0.2.2.2.2.2.2.2.2.2.2.2.2.2.2.2.2.2.2.2.2.2.2.2.2
  have hJ0 := hI0
  unfold INV0 at hJ0
  obtain ⟨f0_0, f0_1, f0_2, f0_3, f0_4, f0_5, f0_6, f0_7, f0_8, f0_9, f0_10, f0_11, f0_12, f0_13, f0_14, f0_15, f0_16, f0_17, f0_18, f0_19, f0_20, f0_21, f0_22, f0_23, f0_24⟩ := hJ0
  have hp : ∀ x, x < (V32_Row_Ir_c20_va0).length → SPH g (ι_ua0_r0.getD x 0) = true := SPH_of (gs := [0]) (by intro j hj; simp at hj; subst hj; exact hg0) rfl (by decide +kernel)
  refine C32_Row_Ir_c20_va0 (D := pul ι_ua0_r0 D) (N := pul ι_ua0_r0 N) (F := pul ι_ua0_r0 F) (A := pul ι_ua0_r0 A) (HWs_sub HX vs_ua0_r0 hp) (show F 2 0 = (D 3 : Int) from hPF (0, 2, 0, 3) (List.mem_of_getElem? (i := 2) rfl) hg0 hg0) (show F 0 6 = (D 27 : Int) from hPF (0, 0, 6, 27) (List.mem_of_getElem? (i := 26) rfl) hg0 hg0) (show F 27 0 = (D 28 : Int) from hPF (0, 27, 0, 28) (List.mem_of_getElem? (i := 27) rfl) hg0 hg0) (N 30 : Int) rfl (N 3 : Int) rfl (N 28 : Int) rfl (F 2 1) rfl (F 27 1) rfl    (show inr (0) by first | assumption | omega) (show inr (a3) by first | assumption | omega) (show 0 ≤ (F 2 1) ∧ (F 2 1) ≤ ((N 3 : Int)) ∧ ((N 3 : Int)) ≤ 65536 by first | assumption | omega) (show 0 ≤ (F 27 1) ∧ (F 27 1) ≤ ((N 28 : Int)) ∧ ((N 28 : Int)) ≤ 65536 by first | assumption | omega) (fun  ls σ F_c41 A_c41  lc41_0 lc41_1 lc41_3 H O hS_c41 hA_c41   yc41_4_1 eyc41_4_1 yc41_4_2 eyc41_4_2  jc41_0 jc41_1 jc41_2 jc41_3 => ?_) (fun z σₚ Fₚ Aₚ Hₚ O sf sa y4_1 ey4_1 q0 q1 q2 => ?_)
  · skip
    subst eyc41_4_1 eyc41_4_2
    have sd : SD [] (pul ι_ua0_r0 D) (pul ι_ua0_r0 D) := SD_refl
    have sn : SD [] (pul ι_ua0_r0 N) (pul ι_ua0_r0 N) := SD_refl
    refine hc41   _ _ (glu ι_ua0_r0 D (pul ι_ua0_r0 D)) (glu ι_ua0_r0 N (pul ι_ua0_r0 N)) (glu ι_ua0_r0 F F_c41) (glu ι_ua0_r0 A A_c41) _ _ ⟨HWs_call HX VPH_3 vs_ua0_r0 hp H O, STC_call HT HX vs_ua0_r0 hp O, hg0, PFI_glue (dl := []) hPF hS_c41 hA_c41 sd (by decide +kernel) (rexc_of (l := []) (by decide +kernel) ?_), ABS_glue hAB hS_c41 (by decide +kernel), NZ_glue hNZ vs_ua0_r0 hp sn (by decide +kernel), hGI, ?_, ?_, ?_, ?_, ?_, ?_, ?_, ?_, ?_, ?_⟩ ⟨(STP0_call (STY_call vs_ua0_r0 hp O) (sd 0 rfl) (RM_call vs_ua0_r0 O)), unt1_of (x := 10) (by decide +kernel) (fun p hp => funext (hA_c41 p hp))⟩ (EQD_glue hS_c41 hA_c41 sd sn (by decide +kernel)) lc41_0 lc41_1 lc41_3 (show (F_c41 4 1) = 0 by first | assumption | omega | rfl) (show (F_c41 4 2) = 0 by first | assumption | omega | rfl)
    · intro e he h1 h2
      cases he
    · skip
      exact ⟨QF0_0_eq (EQD_glue hS_c41 hA_c41 sd sn (by decide +kernel)) f0_0, QF0_1_eq (EQD_glue hS_c41 hA_c41 sd sn (by decide +kernel)) f0_1, QF0_2_eq (EQD_glue hS_c41 hA_c41 sd sn (by decide +kernel)) f0_2, QF0_3_eq (EQD_glue hS_c41 hA_c41 sd sn (by decide +kernel)) f0_3, QF0_4_eq (EQD_glue hS_c41 hA_c41 sd sn (by decide +kernel)) f0_4, QF0_5_eq (EQD_glue hS_c41 hA_c41 sd sn (by decide +kernel)) f0_5, show 0 ≤ (F_c41 4 1) ∧ (F_c41 4 1) ≤ ((N 28 : Int)) ∧ ((N 28 : Int)) ≤ 65536 from (by first | assumption | omega), QF0_7_eq (EQD_glue hS_c41 hA_c41 sd sn (by decide +kernel)) f0_7, QF0_8_eq (EQD_glue hS_c41 hA_c41 sd sn (by decide +kernel)) f0_8, QF0_9_eq (EQD_glue hS_c41 hA_c41 sd sn (by decide +kernel)) f0_9, QF0_10_eq (EQD_glue hS_c41 hA_c41 sd sn (by decide +kernel)) f0_10, QF0_11_eq (EQD_glue hS_c41 hA_c41 sd sn (by decide +kernel)) f0_11, QF0_12_eq (EQD_glue hS_c41 hA_c41 sd sn (by decide +kernel)) f0_12, QF0_13_eq (EQD_glue hS_c41 hA_c41 sd sn (by decide +kernel)) f0_13, QF0_14_eq (EQD_glue hS_c41 hA_c41 sd sn (by decide +kernel)) f0_14, QF0_15_eq (EQD_glue hS_c41 hA_c41 sd sn (by decide +kernel)) f0_15, QF0_16_eq (EQD_glue hS_c41 hA_c41 sd sn (by decide +kernel)) f0_16, QF0_17_eq (EQD_glue hS_c41 hA_c41 sd sn (by decide +kernel)) f0_17, QF0_18_eq (EQD_glue hS_c41 hA_c41 sd sn (by decide +kernel)) f0_18, QF0_19_eq (EQD_glue hS_c41 hA_c41 sd sn (by decide +kernel)) f0_19, QF0_20_eq (EQD_glue hS_c41 hA_c41 sd sn (by decide +kernel)) f0_20, QF0_21_eq (EQD_glue hS_c41 hA_c41 sd sn (by decide +kernel)) f0_21, QF0_22_eq (EQD_glue hS_c41 hA_c41 sd sn (by decide +kernel)) f0_22, QF0_23_eq (EQD_glue hS_c41 hA_c41 sd sn (by decide +kernel)) f0_23, QF0_24_eq (EQD_glue hS_c41 hA_c41 sd sn (by decide +kernel)) f0_24⟩
    · exact fun h => INV1_eq (EQD_glue hS_c41 hA_c41 sd sn (by decide +kernel)) (hI1 h)
    · exact fun h => INV2_eq (EQD_glue hS_c41 hA_c41 sd sn (by decide +kernel)) (hI2 h)
    · exact fun h => INV3_eq (EQD_glue hS_c41 hA_c41 sd sn (by decide +kernel)) (hI3 h)
    · exact fun h => INV4_eq (EQD_glue hS_c41 hA_c41 sd sn (by decide +kernel)) (hI4 h)
    · exact fun h => INV5_eq (EQD_glue hS_c41 hA_c41 sd sn (by decide +kernel)) (hI5 h)
    · exact fun h => INV6_eq (EQD_glue hS_c41 hA_c41 sd sn (by decide +kernel)) (hI6 h)
    · exact fun h => INV7_eq (EQD_glue hS_c41 hA_c41 sd sn (by decide +kernel)) (hI7 h)
    · exact fun h => INV8_eq (EQD_glue hS_c41 hA_c41 sd sn (by decide +kernel)) (hI8 h)
    · exact fun h => INV9_eq (EQD_glue hS_c41 hA_c41 sd sn (by decide +kernel)) (hI9 h)
  · skip
    subst ey4_1
    have sd : SD [] (pul ι_ua0_r0 D) (pul ι_ua0_r0 D) := SD_refl
    have sn : SD [] (pul ι_ua0_r0 N) (pul ι_ua0_r0 N) := SD_refl
    refine k z _ (glu ι_ua0_r0 D (pul ι_ua0_r0 D)) (glu ι_ua0_r0 N (pul ι_ua0_r0 N)) (glu ι_ua0_r0 F Fₚ) (glu ι_ua0_r0 A Aₚ) _ _ ⟨HWs_call HX VPH_3 vs_ua0_r0 hp Hₚ O, STC_call HT HX vs_ua0_r0 hp O, hg0, PFI_glue (dl := []) hPF sf sa sd (by decide +kernel) (rexc_of (l := []) (by decide +kernel) ?_), ABS_glue hAB sf (by decide +kernel), NZ_glue hNZ vs_ua0_r0 hp sn (by decide +kernel), hGI, ?_, ?_, ?_, ?_, ?_, ?_, ?_, ?_, ?_, ?_⟩ ⟨(STP0_call (STY_call vs_ua0_r0 hp O) (sd 0 rfl) (RM_call vs_ua0_r0 O)), unt1_of (x := 10) (by decide +kernel) (fun p hp => funext (sa p hp))⟩ (EQD_glue sf sa sd sn (by decide +kernel)) (show (0 : Int) = 1 by first | assumption | omega | rfl)
    · intro e he h1 h2
      cases he
    · skip
      exact ⟨QF0_0_eq (EQD_glue sf sa sd sn (by decide +kernel)) f0_0, QF0_1_eq (EQD_glue sf sa sd sn (by decide +kernel)) f0_1, QF0_2_eq (EQD_glue sf sa sd sn (by decide +kernel)) f0_2, QF0_3_eq (EQD_glue sf sa sd sn (by decide +kernel)) f0_3, QF0_4_eq (EQD_glue sf sa sd sn (by decide +kernel)) f0_4, QF0_5_eq (EQD_glue sf sa sd sn (by decide +kernel)) f0_5, show 0 ≤ (Fₚ 4 1) ∧ (Fₚ 4 1) ≤ ((N 28 : Int)) ∧ ((N 28 : Int)) ≤ 65536 from (by first | assumption | omega), QF0_7_eq (EQD_glue sf sa sd sn (by decide +kernel)) f0_7, QF0_8_eq (EQD_glue sf sa sd sn (by decide +kernel)) f0_8, QF0_9_eq (EQD_glue sf sa sd sn (by decide +kernel)) f0_9, QF0_10_eq (EQD_glue sf sa sd sn (by decide +kernel)) f0_10, QF0_11_eq (EQD_glue sf sa sd sn (by decide +kernel)) f0_11, QF0_12_eq (EQD_glue sf sa sd sn (by decide +kernel)) f0_12, QF0_13_eq (EQD_glue sf sa sd sn (by decide +kernel)) f0_13, QF0_14_eq (EQD_glue sf sa sd sn (by decide +kernel)) f0_14, QF0_15_eq (EQD_glue sf sa sd sn (by decide +kernel)) f0_15, QF0_16_eq (EQD_glue sf sa sd sn (by decide +kernel)) f0_16, QF0_17_eq (EQD_glue sf sa sd sn (by decide +kernel)) f0_17, QF0_18_eq (EQD_glue sf sa sd sn (by decide +kernel)) f0_18, QF0_19_eq (EQD_glue sf sa sd sn (by decide +kernel)) f0_19, QF0_20_eq (EQD_glue sf sa sd sn (by decide +kernel)) f0_20, QF0_21_eq (EQD_glue sf sa sd sn (by decide +kernel)) f0_21, QF0_22_eq (EQD_glue sf sa sd sn (by decide +kernel)) f0_22, QF0_23_eq (EQD_glue sf sa sd sn (by decide +kernel)) f0_23, QF0_24_eq (EQD_glue sf sa sd sn (by decide +kernel)) f0_24⟩
    · exact fun h => INV1_eq (EQD_glue sf sa sd sn (by decide +kernel)) (hI1 h)
    · exact fun h => INV2_eq (EQD_glue sf sa sd sn (by decide +kernel)) (hI2 h)
    · exact fun h => INV3_eq (EQD_glue sf sa sd sn (by decide +kernel)) (hI3 h)
    · exact fun h => INV4_eq (EQD_glue sf sa sd sn (by decide +kernel)) (hI4 h)
    · exact fun h => INV5_eq (EQD_glue sf sa sd sn (by decide +kernel)) (hI5 h)
    · exact fun h => INV6_eq (EQD_glue sf sa sd sn (by decide +kernel)) (hI6 h)
    · exact fun h => INV7_eq (EQD_glue sf sa sd sn (by decide +kernel)) (hI7 h)
    · exact fun h => INV8_eq (EQD_glue sf sa sd sn (by decide +kernel)) (hI8 h)
    · exact fun h => INV9_eq (EQD_glue sf sa sd sn (by decide +kernel)) (hI9 h)
def ι_ub0_r0 : List Nat := [0, 2, 30, 3, 27, 28, 41, 11, 12]
theorem vs_ub0_r0 : VS VPH V32_Row_Ir_vb0 ι_ub0_r0 := VS_of (by decide +kernel)
set_option maxRecDepth 20000 in
theorem T_ub0_r0 {Dc : DcS} {g : Nat → Bool} {σ : rS} {D N : Nat → Nat} {F : hF} {A : hA} {d c s : Nat} {Q : wQ} (X : PHI Dc g σ D N F A) (hg2 : g 2 = true) {x3 : Int} {ls : rO} (hl0 : rlook ls 0 = some (.ref (D 0))) (hl1 : rlook ls 1 = some (.ref (D 2))) (hl3 : rlook ls 3 = some (I x3)) (h0 : inr x3) (x_0 : (F 27 1) = 0) (x_1 : (F 27 2) = 0) (x_2 : 0 ≤ x3 ∧ x3 ≤ 65536) (k : ∀ (z : Int) (σₚ : rS) (Dₚ Nₚ : Nat → Nat) (Fₚ : hF) (Aₚ : hA) (cₚ sₚ : Nat), PHI Dc g σₚ Dₚ Nₚ Fₚ Aₚ → STP g σ D N A c s g σₚ Dₚ Nₚ Aₚ cₚ sₚ → EQD [(2, 1), (4, 1), (6, 1), (8, 1), (11, 1), (0, 18), (25, 1)] [3, 5, 7, 9, 12, 10, 29, 30, 32, 26] [] [] D N F A Dₚ Nₚ Fₚ Aₚ → (inr z) → ((Fₚ 27 2) = 0) → (RDQ 0 (sc ((A 3)) 0 ((F 2 1))) (sc ((A 12)) 0 ((F 11 1))) DCE (x3) (z) ((Fₚ 0 17)) (sc ((Aₚ 28)) 0 ((Fₚ 27 1)))) → Q (some (I z)) σₚ cₚ sₚ) : Ew 32 (d + 5) 44 ls [.ref (D 41)] σ c s Q := by
  obtain ⟨HX, HT, hg0, hPF, hAB, hNZ, hGI, hI0, hI1, hI2, hI3, hI4, hI5, hI6, hI7, hI8, hI9⟩ := X
  have hset := SETI_f hI0.2.2.2.2.2.2.2.2.2.2.2.2.2.2.2.2.2.2.2.2.2.2.2.2
  have hJ0 := hI0
  unfold INV0 at hJ0
  obtain ⟨f0_0, f0_1, f0_2, f0_3, f0_4, f0_5, f0_6, f0_7, f0_8, f0_9, f0_10, f0_11, f0_12, f0_13, f0_14, f0_15, f0_16, f0_17, f0_18, f0_19, f0_20, f0_21, f0_22, f0_23, f0_24⟩ := hJ0
  have hJ2 := hI2 hg2
  unfold INV2 at hJ2
  have f2_0 := hJ2
  have hp : ∀ x, x < (V32_Row_Ir_vb0).length → SPH g (ι_ub0_r0.getD x 0) = true := SPH_of (gs := [0, 2]) (by intro j hj; simp at hj; rcases hj with rfl | rfl <;> assumption) rfl (by decide +kernel)
  refine C32_Row_Ir_vb0 (D := pul ι_ub0_r0 D) (N := pul ι_ub0_r0 N) (F := pul ι_ub0_r0 F) (A := pul ι_ub0_r0 A) (HWs_sub HX vs_ub0_r0 hp) (show F 2 0 = (D 3 : Int) from hPF (0, 2, 0, 3) (List.mem_of_getElem? (i := 2) rfl) hg0 hg0) (show F 0 6 = (D 27 : Int) from hPF (0, 0, 6, 27) (List.mem_of_getElem? (i := 26) rfl) hg0 hg0) (show F 27 0 = (D 28 : Int) from hPF (0, 27, 0, 28) (List.mem_of_getElem? (i := 27) rfl) hg0 hg0) (show F 0 8 = (D 41 : Int) from hPF (0, 0, 8, 41) (List.mem_of_getElem? (i := 40) rfl) hg0 hg2) (show F 41 1 = (D 11 : Int) from hPF (0, 41, 1, 11) (List.mem_of_getElem? (i := 361) rfl) hg2 hg0) (show F 11 0 = (D 12 : Int) from hPF (0, 11, 0, 12) (List.mem_of_getElem? (i := 11) rfl) hg0 hg0) (N 30 : Int) rfl (N 3 : Int) rfl (N 28 : Int) rfl (N 12 : Int) rfl (F 0 17) rfl (F 2 1) rfl (F 27 1) rfl (F 27 2) rfl (F 11 1) rfl (A 3) rfl (A 28) rfl (A 12) rfl  hl0 hl1 hl3 (show inr (x3) by first | assumption | omega) (show 0 ≤ (F 2 1) ∧ (F 2 1) ≤ ((N 3 : Int)) ∧ ((N 3 : Int)) ≤ 65536 by first | assumption | omega) (show 0 ≤ (F 27 1) ∧ (F 27 1) ≤ ((N 28 : Int)) ∧ ((N 28 : Int)) ≤ 65536 by first | assumption | omega) (show (F 27 1) = 0 by first | assumption | omega) (show (F 27 2) = 0 by first | assumption | omega) (show 0 ≤ (x3) ∧ (x3) ≤ 65536 by first | assumption | omega) (show 0 ≤ (F 11 1) ∧ (F 11 1) ≤ ((N 12 : Int)) ∧ ((N 12 : Int)) ≤ 65536 by first | assumption | omega) (fun z σₚ Dₚ Nₚ Fₚ Aₚ cₚ sₚ Hₚ O sd sn sf sa pm5 m5 em5 y0_17 ey0_17 y4_1 ey4_1 y4_2 ey4_2 v5 ev5 q0 q1 q2 q3 => ?_)
  · skip
    subst em5 ey0_17 ey4_1 ey4_2 ev5
    have : Fₚ 1 1 = F 2 1 := sf 1 1 rfl
    have : Fₚ 7 1 = F 11 1 := sf 7 1 rfl
    have : Aₚ 3 = A 3 := funext (sa 3 rfl)
    have : Aₚ 8 = A 12 := funext (sa 8 rfl)
    refine k z _ (glu ι_ub0_r0 D Dₚ) (glu ι_ub0_r0 N Nₚ) (glu ι_ub0_r0 F Fₚ) (glu ι_ub0_r0 A Aₚ) _ _ ⟨HWs_call HX VPH_3 vs_ub0_r0 hp Hₚ O, STC_call HT HX vs_ub0_r0 hp O, hg0, PFI_glue (dl := [5]) hPF sf sa sd (by decide +kernel) (rexc_of (l := [(0, 27, 0, 28)]) (by decide +kernel) ?_), ABS_glue hAB sf (by decide +kernel), NZ_glue hNZ vs_ub0_r0 hp sn (by decide +kernel), hGI, ?_, ?_, ?_, ?_, ?_, ?_, ?_, ?_, ?_, ?_⟩ ⟨(STP0_call (STY_call vs_ub0_r0 hp O) (sd 0 rfl) (RM_call vs_ub0_r0 O)), unt1_of (x := 10) (by decide +kernel) (fun p hp => funext (sa p hp))⟩ (EQD_glue sf sa sd sn (by decide +kernel)) (show inr z by first | assumption | omega | rfl) (show (Fₚ 4 2) = 0 by first | assumption | omega | rfl) (show RDQ 0 (sc ((A 3)) 0 ((F 2 1))) (sc ((A 12)) 0 ((F 11 1))) DCE (x3) (z) ((Fₚ 0 17)) (sc ((Aₚ 5)) 0 ((Fₚ 4 1))) by first | assumption | omega | rfl)
    · intro e he h1 h2
      simp only [List.mem_cons, List.not_mem_nil, or_false] at he
      rcases he with rfl
      · exact pm5
    · skip
      exact ⟨QF0_0_eq (EQD_glue sf sa sd sn (by decide +kernel)) f0_0, QF0_1_eq (EQD_glue sf sa sd sn (by decide +kernel)) f0_1, QF0_2_eq (EQD_glue sf sa sd sn (by decide +kernel)) f0_2, QF0_3_eq (EQD_glue sf sa sd sn (by decide +kernel)) f0_3, QF0_4_eq (EQD_glue sf sa sd sn (by decide +kernel)) f0_4, QF0_5_eq (EQD_glue sf sa sd sn (by decide +kernel)) f0_5, show 0 ≤ (Fₚ 4 1) ∧ (Fₚ 4 1) ≤ ((Nₚ 5 : Int)) ∧ ((Nₚ 5 : Int)) ≤ 65536 from (by first | assumption | omega), QF0_7_eq (EQD_glue sf sa sd sn (by decide +kernel)) f0_7, QF0_8_eq (EQD_glue sf sa sd sn (by decide +kernel)) f0_8, QF0_9_eq (EQD_glue sf sa sd sn (by decide +kernel)) f0_9, QF0_10_eq (EQD_glue sf sa sd sn (by decide +kernel)) f0_10, QF0_11_eq (EQD_glue sf sa sd sn (by decide +kernel)) f0_11, QF0_12_eq (EQD_glue sf sa sd sn (by decide +kernel)) f0_12, QF0_13_eq (EQD_glue sf sa sd sn (by decide +kernel)) f0_13, QF0_14_eq (EQD_glue sf sa sd sn (by decide +kernel)) f0_14, QF0_15_eq (EQD_glue sf sa sd sn (by decide +kernel)) f0_15, QF0_16_eq (EQD_glue sf sa sd sn (by decide +kernel)) f0_16, QF0_17_eq (EQD_glue sf sa sd sn (by decide +kernel)) f0_17, QF0_18_eq (EQD_glue sf sa sd sn (by decide +kernel)) f0_18, QF0_19_eq (EQD_glue sf sa sd sn (by decide +kernel)) f0_19, QF0_20_eq (EQD_glue sf sa sd sn (by decide +kernel)) f0_20, QF0_21_eq (EQD_glue sf sa sd sn (by decide +kernel)) f0_21, QF0_22_eq (EQD_glue sf sa sd sn (by decide +kernel)) f0_22, QF0_23_eq (EQD_glue sf sa sd sn (by decide +kernel)) f0_23, QF0_24_eq (EQD_glue sf sa sd sn (by decide +kernel)) f0_24⟩
    · exact fun h => INV1_eq (EQD_glue sf sa sd sn (by decide +kernel)) (hI1 h)
    · exact fun h => INV2_eq (EQD_glue sf sa sd sn (by decide +kernel)) (hI2 h)
    · exact fun h => INV3_eq (EQD_glue sf sa sd sn (by decide +kernel)) (hI3 h)
    · exact fun h => INV4_eq (EQD_glue sf sa sd sn (by decide +kernel)) (hI4 h)
    · exact fun h => INV5_eq (EQD_glue sf sa sd sn (by decide +kernel)) (hI5 h)
    · exact fun h => INV6_eq (EQD_glue sf sa sd sn (by decide +kernel)) (hI6 h)
    · exact fun h => INV7_eq (EQD_glue sf sa sd sn (by decide +kernel)) (hI7 h)
    · exact fun h => INV8_eq (EQD_glue sf sa sd sn (by decide +kernel)) (hI8 h)
    · exact fun h => INV9_eq (EQD_glue sf sa sd sn (by decide +kernel)) (hI9 h)
def ι_ua0_r1 : List Nat := [0, 4, 30, 5, 27, 28]
theorem vs_ua0_r1 : VS VPH V32_Row_Ir_c20_va0 ι_ua0_r1 := VS_of (by decide +kernel)
set_option maxRecDepth 20000 in
theorem T_ua0_r1 {Dc : DcS} {g : Nat → Bool} {σ : rS} {D N : Nat → Nat} {F : hF} {A : hA} {d c s : Nat} {Q : wQ} (X : PHI Dc g σ D N F A)  {a3 : Int}  (h1 : inr a3)  (hc41 : ∀ (ls : rO) (σₚ : rS) (Dₚ Nₚ : Nat → Nat) (Fₚ : hF) (Aₚ : hA) (cₚ sₚ : Nat), PHI Dc g σₚ Dₚ Nₚ Fₚ Aₚ → STP g σ D N A c s g σₚ Dₚ Nₚ Aₚ cₚ sₚ → EQD [(2, 1), (4, 1), (6, 1), (8, 1), (11, 1), (0, 18), (25, 1)] [3, 5, 7, 9, 12, 10, 29, 30, 32, 26] [] [] D N F A Dₚ Nₚ Fₚ Aₚ → rlook ls 0 = some (.ref (Dₚ 0)) → rlook ls 1 = some (.ref (Dₚ 4)) → rlook ls 3 = some (I (a3)) → ((Fₚ 27 1) = 0) → ((Fₚ 27 2) = 0) → Ew 32 (d + 1) 41 ls [.ref (Dₚ 0)] σₚ cₚ sₚ Q) (k : ∀ (z : Int) (σₚ : rS) (Dₚ Nₚ : Nat → Nat) (Fₚ : hF) (Aₚ : hA) (cₚ sₚ : Nat), PHI Dc g σₚ Dₚ Nₚ Fₚ Aₚ → STP g σ D N A c s g σₚ Dₚ Nₚ Aₚ cₚ sₚ → EQD [(2, 1), (4, 1), (6, 1), (8, 1), (11, 1), (0, 18), (25, 1)] [3, 5, 7, 9, 12, 10, 29, 30, 32, 26] [] [] D N F A Dₚ Nₚ Fₚ Aₚ → ((0 : Int) = 1) → Q (some (I z)) σₚ cₚ sₚ) : Ew 32 (d + 1) 0 (rargs 0 [.ref (D 0), .ref (D 4), I 0, I a3, .ref (D 30)]) [] σ c s Q := by
  obtain ⟨HX, HT, hg0, hPF, hAB, hNZ, hGI, hI0, hI1, hI2, hI3, hI4, hI5, hI6, hI7, hI8, hI9⟩ := X
  have hset := SETI_f hI0.2.2.2.2.2.2.2.2.2.2.2.2.2.2.2.2.2.2.2.2.2.2.2.2
  have hJ0 := hI0
  unfold INV0 at hJ0
  obtain ⟨f0_0, f0_1, f0_2, f0_3, f0_4, f0_5, f0_6, f0_7, f0_8, f0_9, f0_10, f0_11, f0_12, f0_13, f0_14, f0_15, f0_16, f0_17, f0_18, f0_19, f0_20, f0_21, f0_22, f0_23, f0_24⟩ := hJ0
  have hp : ∀ x, x < (V32_Row_Ir_c20_va0).length → SPH g (ι_ua0_r1.getD x 0) = true := SPH_of (gs := [0]) (by intro j hj; simp at hj; subst hj; exact hg0) rfl (by decide +kernel)
  refine C32_Row_Ir_c20_va0 (D := pul ι_ua0_r1 D) (N := pul ι_ua0_r1 N) (F := pul ι_ua0_r1 F) (A := pul ι_ua0_r1 A) (HWs_sub HX vs_ua0_r1 hp) (show F 4 0 = (D 5 : Int) from hPF (0, 4, 0, 5) (List.mem_of_getElem? (i := 4) rfl) hg0 hg0) (show F 0 6 = (D 27 : Int) from hPF (0, 0, 6, 27) (List.mem_of_getElem? (i := 26) rfl) hg0 hg0) (show F 27 0 = (D 28 : Int) from hPF (0, 27, 0, 28) (List.mem_of_getElem? (i := 27) rfl) hg0 hg0) (N 30 : Int) rfl (N 5 : Int) rfl (N 28 : Int) rfl (F 4 1) rfl (F 27 1) rfl    (show inr (0) by first | assumption | omega) (show inr (a3) by first | assumption | omega) (show 0 ≤ (F 4 1) ∧ (F 4 1) ≤ ((N 5 : Int)) ∧ ((N 5 : Int)) ≤ 65536 by first | assumption | omega) (show 0 ≤ (F 27 1) ∧ (F 27 1) ≤ ((N 28 : Int)) ∧ ((N 28 : Int)) ≤ 65536 by first | assumption | omega) (fun  ls σ F_c41 A_c41  lc41_0 lc41_1 lc41_3 H O hS_c41 hA_c41   yc41_4_1 eyc41_4_1 yc41_4_2 eyc41_4_2  jc41_0 jc41_1 jc41_2 jc41_3 => ?_) (fun z σₚ Fₚ Aₚ Hₚ O sf sa y4_1 ey4_1 q0 q1 q2 => ?_)
  · skip
    subst eyc41_4_1 eyc41_4_2
    have sd : SD [] (pul ι_ua0_r1 D) (pul ι_ua0_r1 D) := SD_refl
    have sn : SD [] (pul ι_ua0_r1 N) (pul ι_ua0_r1 N) := SD_refl
    refine hc41   _ _ (glu ι_ua0_r1 D (pul ι_ua0_r1 D)) (glu ι_ua0_r1 N (pul ι_ua0_r1 N)) (glu ι_ua0_r1 F F_c41) (glu ι_ua0_r1 A A_c41) _ _ ⟨HWs_call HX VPH_3 vs_ua0_r1 hp H O, STC_call HT HX vs_ua0_r1 hp O, hg0, PFI_glue (dl := []) hPF hS_c41 hA_c41 sd (by decide +kernel) (rexc_of (l := []) (by decide +kernel) ?_), ABS_glue hAB hS_c41 (by decide +kernel), NZ_glue hNZ vs_ua0_r1 hp sn (by decide +kernel), hGI, ?_, ?_, ?_, ?_, ?_, ?_, ?_, ?_, ?_, ?_⟩ ⟨(STP0_call (STY_call vs_ua0_r1 hp O) (sd 0 rfl) (RM_call vs_ua0_r1 O)), unt1_of (x := 10) (by decide +kernel) (fun p hp => funext (hA_c41 p hp))⟩ (EQD_glue hS_c41 hA_c41 sd sn (by decide +kernel)) lc41_0 lc41_1 lc41_3 (show (F_c41 4 1) = 0 by first | assumption | omega | rfl) (show (F_c41 4 2) = 0 by first | assumption | omega | rfl)
    · intro e he h1 h2
      cases he
    · skip
      exact ⟨QF0_0_eq (EQD_glue hS_c41 hA_c41 sd sn (by decide +kernel)) f0_0, QF0_1_eq (EQD_glue hS_c41 hA_c41 sd sn (by decide +kernel)) f0_1, QF0_2_eq (EQD_glue hS_c41 hA_c41 sd sn (by decide +kernel)) f0_2, QF0_3_eq (EQD_glue hS_c41 hA_c41 sd sn (by decide +kernel)) f0_3, QF0_4_eq (EQD_glue hS_c41 hA_c41 sd sn (by decide +kernel)) f0_4, QF0_5_eq (EQD_glue hS_c41 hA_c41 sd sn (by decide +kernel)) f0_5, show 0 ≤ (F_c41 4 1) ∧ (F_c41 4 1) ≤ ((N 28 : Int)) ∧ ((N 28 : Int)) ≤ 65536 from (by first | assumption | omega), QF0_7_eq (EQD_glue hS_c41 hA_c41 sd sn (by decide +kernel)) f0_7, QF0_8_eq (EQD_glue hS_c41 hA_c41 sd sn (by decide +kernel)) f0_8, QF0_9_eq (EQD_glue hS_c41 hA_c41 sd sn (by decide +kernel)) f0_9, QF0_10_eq (EQD_glue hS_c41 hA_c41 sd sn (by decide +kernel)) f0_10, QF0_11_eq (EQD_glue hS_c41 hA_c41 sd sn (by decide +kernel)) f0_11, QF0_12_eq (EQD_glue hS_c41 hA_c41 sd sn (by decide +kernel)) f0_12, QF0_13_eq (EQD_glue hS_c41 hA_c41 sd sn (by decide +kernel)) f0_13, QF0_14_eq (EQD_glue hS_c41 hA_c41 sd sn (by decide +kernel)) f0_14, QF0_15_eq (EQD_glue hS_c41 hA_c41 sd sn (by decide +kernel)) f0_15, QF0_16_eq (EQD_glue hS_c41 hA_c41 sd sn (by decide +kernel)) f0_16, QF0_17_eq (EQD_glue hS_c41 hA_c41 sd sn (by decide +kernel)) f0_17, QF0_18_eq (EQD_glue hS_c41 hA_c41 sd sn (by decide +kernel)) f0_18, QF0_19_eq (EQD_glue hS_c41 hA_c41 sd sn (by decide +kernel)) f0_19, QF0_20_eq (EQD_glue hS_c41 hA_c41 sd sn (by decide +kernel)) f0_20, QF0_21_eq (EQD_glue hS_c41 hA_c41 sd sn (by decide +kernel)) f0_21, QF0_22_eq (EQD_glue hS_c41 hA_c41 sd sn (by decide +kernel)) f0_22, QF0_23_eq (EQD_glue hS_c41 hA_c41 sd sn (by decide +kernel)) f0_23, QF0_24_eq (EQD_glue hS_c41 hA_c41 sd sn (by decide +kernel)) f0_24⟩
    · exact fun h => INV1_eq (EQD_glue hS_c41 hA_c41 sd sn (by decide +kernel)) (hI1 h)
    · exact fun h => INV2_eq (EQD_glue hS_c41 hA_c41 sd sn (by decide +kernel)) (hI2 h)
    · exact fun h => INV3_eq (EQD_glue hS_c41 hA_c41 sd sn (by decide +kernel)) (hI3 h)
    · exact fun h => INV4_eq (EQD_glue hS_c41 hA_c41 sd sn (by decide +kernel)) (hI4 h)
    · exact fun h => INV5_eq (EQD_glue hS_c41 hA_c41 sd sn (by decide +kernel)) (hI5 h)
    · exact fun h => INV6_eq (EQD_glue hS_c41 hA_c41 sd sn (by decide +kernel)) (hI6 h)
    · exact fun h => INV7_eq (EQD_glue hS_c41 hA_c41 sd sn (by decide +kernel)) (hI7 h)
    · exact fun h => INV8_eq (EQD_glue hS_c41 hA_c41 sd sn (by decide +kernel)) (hI8 h)
    · exact fun h => INV9_eq (EQD_glue hS_c41 hA_c41 sd sn (by decide +kernel)) (hI9 h)
  · skip
    subst ey4_1
    have sd : SD [] (pul ι_ua0_r1 D) (pul ι_ua0_r1 D) := SD_refl
    have sn : SD [] (pul ι_ua0_r1 N) (pul ι_ua0_r1 N) := SD_refl
    refine k z _ (glu ι_ua0_r1 D (pul ι_ua0_r1 D)) (glu ι_ua0_r1 N (pul ι_ua0_r1 N)) (glu ι_ua0_r1 F Fₚ) (glu ι_ua0_r1 A Aₚ) _ _ ⟨HWs_call HX VPH_3 vs_ua0_r1 hp Hₚ O, STC_call HT HX vs_ua0_r1 hp O, hg0, PFI_glue (dl := []) hPF sf sa sd (by decide +kernel) (rexc_of (l := []) (by decide +kernel) ?_), ABS_glue hAB sf (by decide +kernel), NZ_glue hNZ vs_ua0_r1 hp sn (by decide +kernel), hGI, ?_, ?_, ?_, ?_, ?_, ?_, ?_, ?_, ?_, ?_⟩ ⟨(STP0_call (STY_call vs_ua0_r1 hp O) (sd 0 rfl) (RM_call vs_ua0_r1 O)), unt1_of (x := 10) (by decide +kernel) (fun p hp => funext (sa p hp))⟩ (EQD_glue sf sa sd sn (by decide +kernel)) (show (0 : Int) = 1 by first | assumption | omega | rfl)
    · intro e he h1 h2
      cases he
    · skip
      exact ⟨QF0_0_eq (EQD_glue sf sa sd sn (by decide +kernel)) f0_0, QF0_1_eq (EQD_glue sf sa sd sn (by decide +kernel)) f0_1, QF0_2_eq (EQD_glue sf sa sd sn (by decide +kernel)) f0_2, QF0_3_eq (EQD_glue sf sa sd sn (by decide +kernel)) f0_3, QF0_4_eq (EQD_glue sf sa sd sn (by decide +kernel)) f0_4, QF0_5_eq (EQD_glue sf sa sd sn (by decide +kernel)) f0_5, show 0 ≤ (Fₚ 4 1) ∧ (Fₚ 4 1) ≤ ((N 28 : Int)) ∧ ((N 28 : Int)) ≤ 65536 from (by first | assumption | omega), QF0_7_eq (EQD_glue sf sa sd sn (by decide +kernel)) f0_7, QF0_8_eq (EQD_glue sf sa sd sn (by decide +kernel)) f0_8, QF0_9_eq (EQD_glue sf sa sd sn (by decide +kernel)) f0_9, QF0_10_eq (EQD_glue sf sa sd sn (by decide +kernel)) f0_10, QF0_11_eq (EQD_glue sf sa sd sn (by decide +kernel)) f0_11, QF0_12_eq (EQD_glue sf sa sd sn (by decide +kernel)) f0_12, QF0_13_eq (EQD_glue sf sa sd sn (by decide +kernel)) f0_13, QF0_14_eq (EQD_glue sf sa sd sn (by decide +kernel)) f0_14, QF0_15_eq (EQD_glue sf sa sd sn (by decide +kernel)) f0_15, QF0_16_eq (EQD_glue sf sa sd sn (by decide +kernel)) f0_16, QF0_17_eq (EQD_glue sf sa sd sn (by decide +kernel)) f0_17, QF0_18_eq (EQD_glue sf sa sd sn (by decide +kernel)) f0_18, QF0_19_eq (EQD_glue sf sa sd sn (by decide +kernel)) f0_19, QF0_20_eq (EQD_glue sf sa sd sn (by decide +kernel)) f0_20, QF0_21_eq (EQD_glue sf sa sd sn (by decide +kernel)) f0_21, QF0_22_eq (EQD_glue sf sa sd sn (by decide +kernel)) f0_22, QF0_23_eq (EQD_glue sf sa sd sn (by decide +kernel)) f0_23, QF0_24_eq (EQD_glue sf sa sd sn (by decide +kernel)) f0_24⟩
    · exact fun h => INV1_eq (EQD_glue sf sa sd sn (by decide +kernel)) (hI1 h)
    · exact fun h => INV2_eq (EQD_glue sf sa sd sn (by decide +kernel)) (hI2 h)
    · exact fun h => INV3_eq (EQD_glue sf sa sd sn (by decide +kernel)) (hI3 h)
    · exact fun h => INV4_eq (EQD_glue sf sa sd sn (by decide +kernel)) (hI4 h)
    · exact fun h => INV5_eq (EQD_glue sf sa sd sn (by decide +kernel)) (hI5 h)
    · exact fun h => INV6_eq (EQD_glue sf sa sd sn (by decide +kernel)) (hI6 h)
    · exact fun h => INV7_eq (EQD_glue sf sa sd sn (by decide +kernel)) (hI7 h)
    · exact fun h => INV8_eq (EQD_glue sf sa sd sn (by decide +kernel)) (hI8 h)
    · exact fun h => INV9_eq (EQD_glue sf sa sd sn (by decide +kernel)) (hI9 h)
def ι_ub0_r1 : List Nat := [0, 4, 30, 5, 27, 28, 41, 11, 12]
theorem vs_ub0_r1 : VS VPH V32_Row_Ir_vb0 ι_ub0_r1 := VS_of (by decide +kernel)
set_option maxRecDepth 20000 in
theorem T_ub0_r1 {Dc : DcS} {g : Nat → Bool} {σ : rS} {D N : Nat → Nat} {F : hF} {A : hA} {d c s : Nat} {Q : wQ} (X : PHI Dc g σ D N F A) (hg2 : g 2 = true) {x3 : Int} {ls : rO} (hl0 : rlook ls 0 = some (.ref (D 0))) (hl1 : rlook ls 1 = some (.ref (D 4))) (hl3 : rlook ls 3 = some (I x3)) (h0 : inr x3) (x_0 : (F 27 1) = 0) (x_1 : (F 27 2) = 0) (x_2 : 0 ≤ x3 ∧ x3 ≤ 65536) (k : ∀ (z : Int) (σₚ : rS) (Dₚ Nₚ : Nat → Nat) (Fₚ : hF) (Aₚ : hA) (cₚ sₚ : Nat), PHI Dc g σₚ Dₚ Nₚ Fₚ Aₚ → STP g σ D N A c s g σₚ Dₚ Nₚ Aₚ cₚ sₚ → EQD [(2, 1), (4, 1), (6, 1), (8, 1), (11, 1), (0, 18), (25, 1)] [3, 5, 7, 9, 12, 10, 29, 30, 32, 26] [] [] D N F A Dₚ Nₚ Fₚ Aₚ → (inr z) → ((Fₚ 27 2) = 0) → (RDQ 0 (sc ((A 5)) 0 ((F 4 1))) (sc ((A 12)) 0 ((F 11 1))) DCE (x3) (z) ((Fₚ 0 17)) (sc ((Aₚ 28)) 0 ((Fₚ 27 1)))) → Q (some (I z)) σₚ cₚ sₚ) : Ew 32 (d + 5) 44 ls [.ref (D 41)] σ c s Q := by
  obtain ⟨HX, HT, hg0, hPF, hAB, hNZ, hGI, hI0, hI1, hI2, hI3, hI4, hI5, hI6, hI7, hI8, hI9⟩ := X
  have hset := SETI_f hI0.2.2.2.2.2.2.2.2.2.2.2.2.2.2.2.2.2.2.2.2.2.2.2.2
  have hJ0 := hI0
  unfold INV0 at hJ0
  obtain ⟨f0_0, f0_1, f0_2, f0_3, f0_4, f0_5, f0_6, f0_7, f0_8, f0_9, f0_10, f0_11, f0_12, f0_13, f0_14, f0_15, f0_16, f0_17, f0_18, f0_19, f0_20, f0_21, f0_22, f0_23, f0_24⟩ := hJ0
  have hJ2 := hI2 hg2
  unfold INV2 at hJ2
  have f2_0 := hJ2
  have hp : ∀ x, x < (V32_Row_Ir_vb0).length → SPH g (ι_ub0_r1.getD x 0) = true := SPH_of (gs := [0, 2]) (by intro j hj; simp at hj; rcases hj with rfl | rfl <;> assumption) rfl (by decide +kernel)
  refine C32_Row_Ir_vb0 (D := pul ι_ub0_r1 D) (N := pul ι_ub0_r1 N) (F := pul ι_ub0_r1 F) (A := pul ι_ub0_r1 A) (HWs_sub HX vs_ub0_r1 hp) (show F 4 0 = (D 5 : Int) from hPF (0, 4, 0, 5) (List.mem_of_getElem? (i := 4) rfl) hg0 hg0) (show F 0 6 = (D 27 : Int) from hPF (0, 0, 6, 27) (List.mem_of_getElem? (i := 26) rfl) hg0 hg0) (show F 27 0 = (D 28 : Int) from hPF (0, 27, 0, 28) (List.mem_of_getElem? (i := 27) rfl) hg0 hg0) (show F 0 8 = (D 41 : Int) from hPF (0, 0, 8, 41) (List.mem_of_getElem? (i := 40) rfl) hg0 hg2) (show F 41 1 = (D 11 : Int) from hPF (0, 41, 1, 11) (List.mem_of_getElem? (i := 361) rfl) hg2 hg0) (show F 11 0 = (D 12 : Int) from hPF (0, 11, 0, 12) (List.mem_of_getElem? (i := 11) rfl) hg0 hg0) (N 30 : Int) rfl (N 5 : Int) rfl (N 28 : Int) rfl (N 12 : Int) rfl (F 0 17) rfl (F 4 1) rfl (F 27 1) rfl (F 27 2) rfl (F 11 1) rfl (A 5) rfl (A 28) rfl (A 12) rfl  hl0 hl1 hl3 (show inr (x3) by first | assumption | omega) (show 0 ≤ (F 4 1) ∧ (F 4 1) ≤ ((N 5 : Int)) ∧ ((N 5 : Int)) ≤ 65536 by first | assumption | omega) (show 0 ≤ (F 27 1) ∧ (F 27 1) ≤ ((N 28 : Int)) ∧ ((N 28 : Int)) ≤ 65536 by first | assumption | omega) (show (F 27 1) = 0 by first | assumption | omega) (show (F 27 2) = 0 by first | assumption | omega) (show 0 ≤ (x3) ∧ (x3) ≤ 65536 by first | assumption | omega) (show 0 ≤ (F 11 1) ∧ (F 11 1) ≤ ((N 12 : Int)) ∧ ((N 12 : Int)) ≤ 65536 by first | assumption | omega) (fun z σₚ Dₚ Nₚ Fₚ Aₚ cₚ sₚ Hₚ O sd sn sf sa pm5 m5 em5 y0_17 ey0_17 y4_1 ey4_1 y4_2 ey4_2 v5 ev5 q0 q1 q2 q3 => ?_)
  · skip
    subst em5 ey0_17 ey4_1 ey4_2 ev5
    have : Fₚ 1 1 = F 4 1 := sf 1 1 rfl
    have : Fₚ 7 1 = F 11 1 := sf 7 1 rfl
    have : Aₚ 3 = A 5 := funext (sa 3 rfl)
    have : Aₚ 8 = A 12 := funext (sa 8 rfl)
    refine k z _ (glu ι_ub0_r1 D Dₚ) (glu ι_ub0_r1 N Nₚ) (glu ι_ub0_r1 F Fₚ) (glu ι_ub0_r1 A Aₚ) _ _ ⟨HWs_call HX VPH_3 vs_ub0_r1 hp Hₚ O, STC_call HT HX vs_ub0_r1 hp O, hg0, PFI_glue (dl := [5]) hPF sf sa sd (by decide +kernel) (rexc_of (l := [(0, 27, 0, 28)]) (by decide +kernel) ?_), ABS_glue hAB sf (by decide +kernel), NZ_glue hNZ vs_ub0_r1 hp sn (by decide +kernel), hGI, ?_, ?_, ?_, ?_, ?_, ?_, ?_, ?_, ?_, ?_⟩ ⟨(STP0_call (STY_call vs_ub0_r1 hp O) (sd 0 rfl) (RM_call vs_ub0_r1 O)), unt1_of (x := 10) (by decide +kernel) (fun p hp => funext (sa p hp))⟩ (EQD_glue sf sa sd sn (by decide +kernel)) (show inr z by first | assumption | omega | rfl) (show (Fₚ 4 2) = 0 by first | assumption | omega | rfl) (show RDQ 0 (sc ((A 5)) 0 ((F 4 1))) (sc ((A 12)) 0 ((F 11 1))) DCE (x3) (z) ((Fₚ 0 17)) (sc ((Aₚ 5)) 0 ((Fₚ 4 1))) by first | assumption | omega | rfl)
    · intro e he h1 h2
      simp only [List.mem_cons, List.not_mem_nil, or_false] at he
      rcases he with rfl
      · exact pm5
    · skip
      exact ⟨QF0_0_eq (EQD_glue sf sa sd sn (by decide +kernel)) f0_0, QF0_1_eq (EQD_glue sf sa sd sn (by decide +kernel)) f0_1, QF0_2_eq (EQD_glue sf sa sd sn (by decide +kernel)) f0_2, QF0_3_eq (EQD_glue sf sa sd sn (by decide +kernel)) f0_3, QF0_4_eq (EQD_glue sf sa sd sn (by decide +kernel)) f0_4, QF0_5_eq (EQD_glue sf sa sd sn (by decide +kernel)) f0_5, show 0 ≤ (Fₚ 4 1) ∧ (Fₚ 4 1) ≤ ((Nₚ 5 : Int)) ∧ ((Nₚ 5 : Int)) ≤ 65536 from (by first | assumption | omega), QF0_7_eq (EQD_glue sf sa sd sn (by decide +kernel)) f0_7, QF0_8_eq (EQD_glue sf sa sd sn (by decide +kernel)) f0_8, QF0_9_eq (EQD_glue sf sa sd sn (by decide +kernel)) f0_9, QF0_10_eq (EQD_glue sf sa sd sn (by decide +kernel)) f0_10, QF0_11_eq (EQD_glue sf sa sd sn (by decide +kernel)) f0_11, QF0_12_eq (EQD_glue sf sa sd sn (by decide +kernel)) f0_12, QF0_13_eq (EQD_glue sf sa sd sn (by decide +kernel)) f0_13, QF0_14_eq (EQD_glue sf sa sd sn (by decide +kernel)) f0_14, QF0_15_eq (EQD_glue sf sa sd sn (by decide +kernel)) f0_15, QF0_16_eq (EQD_glue sf sa sd sn (by decide +kernel)) f0_16, QF0_17_eq (EQD_glue sf sa sd sn (by decide +kernel)) f0_17, QF0_18_eq (EQD_glue sf sa sd sn (by decide +kernel)) f0_18, QF0_19_eq (EQD_glue sf sa sd sn (by decide +kernel)) f0_19, QF0_20_eq (EQD_glue sf sa sd sn (by decide +kernel)) f0_20, QF0_21_eq (EQD_glue sf sa sd sn (by decide +kernel)) f0_21, QF0_22_eq (EQD_glue sf sa sd sn (by decide +kernel)) f0_22, QF0_23_eq (EQD_glue sf sa sd sn (by decide +kernel)) f0_23, QF0_24_eq (EQD_glue sf sa sd sn (by decide +kernel)) f0_24⟩
    · exact fun h => INV1_eq (EQD_glue sf sa sd sn (by decide +kernel)) (hI1 h)
    · exact fun h => INV2_eq (EQD_glue sf sa sd sn (by decide +kernel)) (hI2 h)
    · exact fun h => INV3_eq (EQD_glue sf sa sd sn (by decide +kernel)) (hI3 h)
    · exact fun h => INV4_eq (EQD_glue sf sa sd sn (by decide +kernel)) (hI4 h)
    · exact fun h => INV5_eq (EQD_glue sf sa sd sn (by decide +kernel)) (hI5 h)
    · exact fun h => INV6_eq (EQD_glue sf sa sd sn (by decide +kernel)) (hI6 h)
    · exact fun h => INV7_eq (EQD_glue sf sa sd sn (by decide +kernel)) (hI7 h)
    · exact fun h => INV8_eq (EQD_glue sf sa sd sn (by decide +kernel)) (hI8 h)
    · exact fun h => INV9_eq (EQD_glue sf sa sd sn (by decide +kernel)) (hI9 h)
def ι_ua0_r2 : List Nat := [0, 6, 30, 7, 27, 28]
theorem vs_ua0_r2 : VS VPH V32_Row_Ir_c20_va0 ι_ua0_r2 := VS_of (by decide +kernel)
set_option maxRecDepth 20000 in
theorem T_ua0_r2 {Dc : DcS} {g : Nat → Bool} {σ : rS} {D N : Nat → Nat} {F : hF} {A : hA} {d c s : Nat} {Q : wQ} (X : PHI Dc g σ D N F A)  {a3 : Int}  (h1 : inr a3)  (hc41 : ∀ (ls : rO) (σₚ : rS) (Dₚ Nₚ : Nat → Nat) (Fₚ : hF) (Aₚ : hA) (cₚ sₚ : Nat), PHI Dc g σₚ Dₚ Nₚ Fₚ Aₚ → STP g σ D N A c s g σₚ Dₚ Nₚ Aₚ cₚ sₚ → EQD [(2, 1), (4, 1), (6, 1), (8, 1), (11, 1), (0, 18), (25, 1)] [3, 5, 7, 9, 12, 10, 29, 30, 32, 26] [] [] D N F A Dₚ Nₚ Fₚ Aₚ → rlook ls 0 = some (.ref (Dₚ 0)) → rlook ls 1 = some (.ref (Dₚ 6)) → rlook ls 3 = some (I (a3)) → ((Fₚ 27 1) = 0) → ((Fₚ 27 2) = 0) → Ew 32 (d + 1) 41 ls [.ref (Dₚ 0)] σₚ cₚ sₚ Q) (k : ∀ (z : Int) (σₚ : rS) (Dₚ Nₚ : Nat → Nat) (Fₚ : hF) (Aₚ : hA) (cₚ sₚ : Nat), PHI Dc g σₚ Dₚ Nₚ Fₚ Aₚ → STP g σ D N A c s g σₚ Dₚ Nₚ Aₚ cₚ sₚ → EQD [(2, 1), (4, 1), (6, 1), (8, 1), (11, 1), (0, 18), (25, 1)] [3, 5, 7, 9, 12, 10, 29, 30, 32, 26] [] [] D N F A Dₚ Nₚ Fₚ Aₚ → ((0 : Int) = 1) → Q (some (I z)) σₚ cₚ sₚ) : Ew 32 (d + 1) 0 (rargs 0 [.ref (D 0), .ref (D 6), I 0, I a3, .ref (D 30)]) [] σ c s Q := by
  obtain ⟨HX, HT, hg0, hPF, hAB, hNZ, hGI, hI0, hI1, hI2, hI3, hI4, hI5, hI6, hI7, hI8, hI9⟩ := X
  have hset := SETI_f hI0.2.2.2.2.2.2.2.2.2.2.2.2.2.2.2.2.2.2.2.2.2.2.2.2
  have hJ0 := hI0
  unfold INV0 at hJ0
  obtain ⟨f0_0, f0_1, f0_2, f0_3, f0_4, f0_5, f0_6, f0_7, f0_8, f0_9, f0_10, f0_11, f0_12, f0_13, f0_14, f0_15, f0_16, f0_17, f0_18, f0_19, f0_20, f0_21, f0_22, f0_23, f0_24⟩ := hJ0
  have hp : ∀ x, x < (V32_Row_Ir_c20_va0).length → SPH g (ι_ua0_r2.getD x 0) = true := SPH_of (gs := [0]) (by intro j hj; simp at hj; subst hj; exact hg0) rfl (by decide +kernel)
  refine C32_Row_Ir_c20_va0 (D := pul ι_ua0_r2 D) (N := pul ι_ua0_r2 N) (F := pul ι_ua0_r2 F) (A := pul ι_ua0_r2 A) (HWs_sub HX vs_ua0_r2 hp) (show F 6 0 = (D 7 : Int) from hPF (0, 6, 0, 7) (List.mem_of_getElem? (i := 6) rfl) hg0 hg0) (show F 0 6 = (D 27 : Int) from hPF (0, 0, 6, 27) (List.mem_of_getElem? (i := 26) rfl) hg0 hg0) (show F 27 0 = (D 28 : Int) from hPF (0, 27, 0, 28) (List.mem_of_getElem? (i := 27) rfl) hg0 hg0) (N 30 : Int) rfl (N 7 : Int) rfl (N 28 : Int) rfl (F 6 1) rfl (F 27 1) rfl    (show inr (0) by first | assumption | omega) (show inr (a3) by first | assumption | omega) (show 0 ≤ (F 6 1) ∧ (F 6 1) ≤ ((N 7 : Int)) ∧ ((N 7 : Int)) ≤ 65536 by first | assumption | omega) (show 0 ≤ (F 27 1) ∧ (F 27 1) ≤ ((N 28 : Int)) ∧ ((N 28 : Int)) ≤ 65536 by first | assumption | omega) (fun  ls σ F_c41 A_c41  lc41_0 lc41_1 lc41_3 H O hS_c41 hA_c41   yc41_4_1 eyc41_4_1 yc41_4_2 eyc41_4_2  jc41_0 jc41_1 jc41_2 jc41_3 => ?_) (fun z σₚ Fₚ Aₚ Hₚ O sf sa y4_1 ey4_1 q0 q1 q2 => ?_)
  · skip
    subst eyc41_4_1 eyc41_4_2
    have sd : SD [] (pul ι_ua0_r2 D) (pul ι_ua0_r2 D) := SD_refl
    have sn : SD [] (pul ι_ua0_r2 N) (pul ι_ua0_r2 N) := SD_refl
    refine hc41   _ _ (glu ι_ua0_r2 D (pul ι_ua0_r2 D)) (glu ι_ua0_r2 N (pul ι_ua0_r2 N)) (glu ι_ua0_r2 F F_c41) (glu ι_ua0_r2 A A_c41) _ _ ⟨HWs_call HX VPH_3 vs_ua0_r2 hp H O, STC_call HT HX vs_ua0_r2 hp O, hg0, PFI_glue (dl := []) hPF hS_c41 hA_c41 sd (by decide +kernel) (rexc_of (l := []) (by decide +kernel) ?_), ABS_glue hAB hS_c41 (by decide +kernel), NZ_glue hNZ vs_ua0_r2 hp sn (by decide +kernel), hGI, ?_, ?_, ?_, ?_, ?_, ?_, ?_, ?_, ?_, ?_⟩ ⟨(STP0_call (STY_call vs_ua0_r2 hp O) (sd 0 rfl) (RM_call vs_ua0_r2 O)), unt1_of (x := 10) (by decide +kernel) (fun p hp => funext (hA_c41 p hp))⟩ (EQD_glue hS_c41 hA_c41 sd sn (by decide +kernel)) lc41_0 lc41_1 lc41_3 (show (F_c41 4 1) = 0 by first | assumption | omega | rfl) (show (F_c41 4 2) = 0 by first | assumption | omega | rfl)
    · intro e he h1 h2
      cases he
    · skip
      exact ⟨QF0_0_eq (EQD_glue hS_c41 hA_c41 sd sn (by decide +kernel)) f0_0, QF0_1_eq (EQD_glue hS_c41 hA_c41 sd sn (by decide +kernel)) f0_1, QF0_2_eq (EQD_glue hS_c41 hA_c41 sd sn (by decide +kernel)) f0_2, QF0_3_eq (EQD_glue hS_c41 hA_c41 sd sn (by decide +kernel)) f0_3, QF0_4_eq (EQD_glue hS_c41 hA_c41 sd sn (by decide +kernel)) f0_4, QF0_5_eq (EQD_glue hS_c41 hA_c41 sd sn (by decide +kernel)) f0_5, show 0 ≤ (F_c41 4 1) ∧ (F_c41 4 1) ≤ ((N 28 : Int)) ∧ ((N 28 : Int)) ≤ 65536 from (by first | assumption | omega), QF0_7_eq (EQD_glue hS_c41 hA_c41 sd sn (by decide +kernel)) f0_7, QF0_8_eq (EQD_glue hS_c41 hA_c41 sd sn (by decide +kernel)) f0_8, QF0_9_eq (EQD_glue hS_c41 hA_c41 sd sn (by decide +kernel)) f0_9, QF0_10_eq (EQD_glue hS_c41 hA_c41 sd sn (by decide +kernel)) f0_10, QF0_11_eq (EQD_glue hS_c41 hA_c41 sd sn (by decide +kernel)) f0_11, QF0_12_eq (EQD_glue hS_c41 hA_c41 sd sn (by decide +kernel)) f0_12, QF0_13_eq (EQD_glue hS_c41 hA_c41 sd sn (by decide +kernel)) f0_13, QF0_14_eq (EQD_glue hS_c41 hA_c41 sd sn (by decide +kernel)) f0_14, QF0_15_eq (EQD_glue hS_c41 hA_c41 sd sn (by decide +kernel)) f0_15, QF0_16_eq (EQD_glue hS_c41 hA_c41 sd sn (by decide +kernel)) f0_16, QF0_17_eq (EQD_glue hS_c41 hA_c41 sd sn (by decide +kernel)) f0_17, QF0_18_eq (EQD_glue hS_c41 hA_c41 sd sn (by decide +kernel)) f0_18, QF0_19_eq (EQD_glue hS_c41 hA_c41 sd sn (by decide +kernel)) f0_19, QF0_20_eq (EQD_glue hS_c41 hA_c41 sd sn (by decide +kernel)) f0_20, QF0_21_eq (EQD_glue hS_c41 hA_c41 sd sn (by decide +kernel)) f0_21, QF0_22_eq (EQD_glue hS_c41 hA_c41 sd sn (by decide +kernel)) f0_22, QF0_23_eq (EQD_glue hS_c41 hA_c41 sd sn (by decide +kernel)) f0_23, QF0_24_eq (EQD_glue hS_c41 hA_c41 sd sn (by decide +kernel)) f0_24⟩
    · exact fun h => INV1_eq (EQD_glue hS_c41 hA_c41 sd sn (by decide +kernel)) (hI1 h)
    · exact fun h => INV2_eq (EQD_glue hS_c41 hA_c41 sd sn (by decide +kernel)) (hI2 h)
    · exact fun h => INV3_eq (EQD_glue hS_c41 hA_c41 sd sn (by decide +kernel)) (hI3 h)
    · exact fun h => INV4_eq (EQD_glue hS_c41 hA_c41 sd sn (by decide +kernel)) (hI4 h)
    · exact fun h => INV5_eq (EQD_glue hS_c41 hA_c41 sd sn (by decide +kernel)) (hI5 h)
    · exact fun h => INV6_eq (EQD_glue hS_c41 hA_c41 sd sn (by decide +kernel)) (hI6 h)
    · exact fun h => INV7_eq (EQD_glue hS_c41 hA_c41 sd sn (by decide +kernel)) (hI7 h)
    · exact fun h => INV8_eq (EQD_glue hS_c41 hA_c41 sd sn (by decide +kernel)) (hI8 h)
    · exact fun h => INV9_eq (EQD_glue hS_c41 hA_c41 sd sn (by decide +kernel)) (hI9 h)
  · skip
    subst ey4_1
    have sd : SD [] (pul ι_ua0_r2 D) (pul ι_ua0_r2 D) := SD_refl
    have sn : SD [] (pul ι_ua0_r2 N) (pul ι_ua0_r2 N) := SD_refl
    refine k z _ (glu ι_ua0_r2 D (pul ι_ua0_r2 D)) (glu ι_ua0_r2 N (pul ι_ua0_r2 N)) (glu ι_ua0_r2 F Fₚ) (glu ι_ua0_r2 A Aₚ) _ _ ⟨HWs_call HX VPH_3 vs_ua0_r2 hp Hₚ O, STC_call HT HX vs_ua0_r2 hp O, hg0, PFI_glue (dl := []) hPF sf sa sd (by decide +kernel) (rexc_of (l := []) (by decide +kernel) ?_), ABS_glue hAB sf (by decide +kernel), NZ_glue hNZ vs_ua0_r2 hp sn (by decide +kernel), hGI, ?_, ?_, ?_, ?_, ?_, ?_, ?_, ?_, ?_, ?_⟩ ⟨(STP0_call (STY_call vs_ua0_r2 hp O) (sd 0 rfl) (RM_call vs_ua0_r2 O)), unt1_of (x := 10) (by decide +kernel) (fun p hp => funext (sa p hp))⟩ (EQD_glue sf sa sd sn (by decide +kernel)) (show (0 : Int) = 1 by first | assumption | omega | rfl)
    · intro e he h1 h2
      cases he
    · skip
      exact ⟨QF0_0_eq (EQD_glue sf sa sd sn (by decide +kernel)) f0_0, QF0_1_eq (EQD_glue sf sa sd sn (by decide +kernel)) f0_1, QF0_2_eq (EQD_glue sf sa sd sn (by decide +kernel)) f0_2, QF0_3_eq (EQD_glue sf sa sd sn (by decide +kernel)) f0_3, QF0_4_eq (EQD_glue sf sa sd sn (by decide +kernel)) f0_4, QF0_5_eq (EQD_glue sf sa sd sn (by decide +kernel)) f0_5, show 0 ≤ (Fₚ 4 1) ∧ (Fₚ 4 1) ≤ ((N 28 : Int)) ∧ ((N 28 : Int)) ≤ 65536 from (by first | assumption | omega), QF0_7_eq (EQD_glue sf sa sd sn (by decide +kernel)) f0_7, QF0_8_eq (EQD_glue sf sa sd sn (by decide +kernel)) f0_8, QF0_9_eq (EQD_glue sf sa sd sn (by decide +kernel)) f0_9, QF0_10_eq (EQD_glue sf sa sd sn (by decide +kernel)) f0_10, QF0_11_eq (EQD_glue sf sa sd sn (by decide +kernel)) f0_11, QF0_12_eq (EQD_glue sf sa sd sn (by decide +kernel)) f0_12, QF0_13_eq (EQD_glue sf sa sd sn (by decide +kernel)) f0_13, QF0_14_eq (EQD_glue sf sa sd sn (by decide +kernel)) f0_14, QF0_15_eq (EQD_glue sf sa sd sn (by decide +kernel)) f0_15, QF0_16_eq (EQD_glue sf sa sd sn (by decide +kernel)) f0_16, QF0_17_eq (EQD_glue sf sa sd sn (by decide +kernel)) f0_17, QF0_18_eq (EQD_glue sf sa sd sn (by decide +kernel)) f0_18, QF0_19_eq (EQD_glue sf sa sd sn (by decide +kernel)) f0_19, QF0_20_eq (EQD_glue sf sa sd sn (by decide +kernel)) f0_20, QF0_21_eq (EQD_glue sf sa sd sn (by decide +kernel)) f0_21, QF0_22_eq (EQD_glue sf sa sd sn (by decide +kernel)) f0_22, QF0_23_eq (EQD_glue sf sa sd sn (by decide +kernel)) f0_23, QF0_24_eq (EQD_glue sf sa sd sn (by decide +kernel)) f0_24⟩
    · exact fun h => INV1_eq (EQD_glue sf sa sd sn (by decide +kernel)) (hI1 h)
    · exact fun h => INV2_eq (EQD_glue sf sa sd sn (by decide +kernel)) (hI2 h)
    · exact fun h => INV3_eq (EQD_glue sf sa sd sn (by decide +kernel)) (hI3 h)
    · exact fun h => INV4_eq (EQD_glue sf sa sd sn (by decide +kernel)) (hI4 h)
    · exact fun h => INV5_eq (EQD_glue sf sa sd sn (by decide +kernel)) (hI5 h)
    · exact fun h => INV6_eq (EQD_glue sf sa sd sn (by decide +kernel)) (hI6 h)
    · exact fun h => INV7_eq (EQD_glue sf sa sd sn (by decide +kernel)) (hI7 h)
    · exact fun h => INV8_eq (EQD_glue sf sa sd sn (by decide +kernel)) (hI8 h)
    · exact fun h => INV9_eq (EQD_glue sf sa sd sn (by decide +kernel)) (hI9 h)
def ι_ub0_r2 : List Nat := [0, 6, 30, 7, 27, 28, 41, 11, 12]
theorem vs_ub0_r2 : VS VPH V32_Row_Ir_vb0 ι_ub0_r2 := VS_of (by decide +kernel)
set_option maxRecDepth 20000 in
theorem T_ub0_r2 {Dc : DcS} {g : Nat → Bool} {σ : rS} {D N : Nat → Nat} {F : hF} {A : hA} {d c s : Nat} {Q : wQ} (X : PHI Dc g σ D N F A) (hg2 : g 2 = true) {x3 : Int} {ls : rO} (hl0 : rlook ls 0 = some (.ref (D 0))) (hl1 : rlook ls 1 = some (.ref (D 6))) (hl3 : rlook ls 3 = some (I x3)) (h0 : inr x3) (x_0 : (F 27 1) = 0) (x_1 : (F 27 2) = 0) (x_2 : 0 ≤ x3 ∧ x3 ≤ 65536) (k : ∀ (z : Int) (σₚ : rS) (Dₚ Nₚ : Nat → Nat) (Fₚ : hF) (Aₚ : hA) (cₚ sₚ : Nat), PHI Dc g σₚ Dₚ Nₚ Fₚ Aₚ → STP g σ D N A c s g σₚ Dₚ Nₚ Aₚ cₚ sₚ → EQD [(2, 1), (4, 1), (6, 1), (8, 1), (11, 1), (0, 18), (25, 1)] [3, 5, 7, 9, 12, 10, 29, 30, 32, 26] [] [] D N F A Dₚ Nₚ Fₚ Aₚ → (inr z) → ((Fₚ 27 2) = 0) → (RDQ 0 (sc ((A 7)) 0 ((F 6 1))) (sc ((A 12)) 0 ((F 11 1))) DCE (x3) (z) ((Fₚ 0 17)) (sc ((Aₚ 28)) 0 ((Fₚ 27 1)))) → Q (some (I z)) σₚ cₚ sₚ) : Ew 32 (d + 5) 44 ls [.ref (D 41)] σ c s Q := by
  obtain ⟨HX, HT, hg0, hPF, hAB, hNZ, hGI, hI0, hI1, hI2, hI3, hI4, hI5, hI6, hI7, hI8, hI9⟩ := X
  have hset := SETI_f hI0.2.2.2.2.2.2.2.2.2.2.2.2.2.2.2.2.2.2.2.2.2.2.2.2
  have hJ0 := hI0
  unfold INV0 at hJ0
  obtain ⟨f0_0, f0_1, f0_2, f0_3, f0_4, f0_5, f0_6, f0_7, f0_8, f0_9, f0_10, f0_11, f0_12, f0_13, f0_14, f0_15, f0_16, f0_17, f0_18, f0_19, f0_20, f0_21, f0_22, f0_23, f0_24⟩ := hJ0
  have hJ2 := hI2 hg2
  unfold INV2 at hJ2
  have f2_0 := hJ2
  have hp : ∀ x, x < (V32_Row_Ir_vb0).length → SPH g (ι_ub0_r2.getD x 0) = true := SPH_of (gs := [0, 2]) (by intro j hj; simp at hj; rcases hj with rfl | rfl <;> assumption) rfl (by decide +kernel)
  refine C32_Row_Ir_vb0 (D := pul ι_ub0_r2 D) (N := pul ι_ub0_r2 N) (F := pul ι_ub0_r2 F) (A := pul ι_ub0_r2 A) (HWs_sub HX vs_ub0_r2 hp) (show F 6 0 = (D 7 : Int) from hPF (0, 6, 0, 7) (List.mem_of_getElem? (i := 6) rfl) hg0 hg0) (show F 0 6 = (D 27 : Int) from hPF (0, 0, 6, 27) (List.mem_of_getElem? (i := 26) rfl) hg0 hg0) (show F 27 0 = (D 28 : Int) from hPF (0, 27, 0, 28) (List.mem_of_getElem? (i := 27) rfl) hg0 hg0) (show F 0 8 = (D 41 : Int) from hPF (0, 0, 8, 41) (List.mem_of_getElem? (i := 40) rfl) hg0 hg2) (show F 41 1 = (D 11 : Int) from hPF (0, 41, 1, 11) (List.mem_of_getElem? (i := 361) rfl) hg2 hg0) (show F 11 0 = (D 12 : Int) from hPF (0, 11, 0, 12) (List.mem_of_getElem? (i := 11) rfl) hg0 hg0) (N 30 : Int) rfl (N 7 : Int) rfl (N 28 : Int) rfl (N 12 : Int) rfl (F 0 17) rfl (F 6 1) rfl (F 27 1) rfl (F 27 2) rfl (F 11 1) rfl (A 7) rfl (A 28) rfl (A 12) rfl  hl0 hl1 hl3 (show inr (x3) by first | assumption | omega) (show 0 ≤ (F 6 1) ∧ (F 6 1) ≤ ((N 7 : Int)) ∧ ((N 7 : Int)) ≤ 65536 by first | assumption | omega) (show 0 ≤ (F 27 1) ∧ (F 27 1) ≤ ((N 28 : Int)) ∧ ((N 28 : Int)) ≤ 65536 by first | assumption | omega) (show (F 27 1) = 0 by first | assumption | omega) (show (F 27 2) = 0 by first | assumption | omega) (show 0 ≤ (x3) ∧ (x3) ≤ 65536 by first | assumption | omega) (show 0 ≤ (F 11 1) ∧ (F 11 1) ≤ ((N 12 : Int)) ∧ ((N 12 : Int)) ≤ 65536 by first | assumption | omega) (fun z σₚ Dₚ Nₚ Fₚ Aₚ cₚ sₚ Hₚ O sd sn sf sa pm5 m5 em5 y0_17 ey0_17 y4_1 ey4_1 y4_2 ey4_2 v5 ev5 q0 q1 q2 q3 => ?_)
  · skip
    subst em5 ey0_17 ey4_1 ey4_2 ev5
    have : Fₚ 1 1 = F 6 1 := sf 1 1 rfl
    have : Fₚ 7 1 = F 11 1 := sf 7 1 rfl
    have : Aₚ 3 = A 7 := funext (sa 3 rfl)
    have : Aₚ 8 = A 12 := funext (sa 8 rfl)
    refine k z _ (glu ι_ub0_r2 D Dₚ) (glu ι_ub0_r2 N Nₚ) (glu ι_ub0_r2 F Fₚ) (glu ι_ub0_r2 A Aₚ) _ _ ⟨HWs_call HX VPH_3 vs_ub0_r2 hp Hₚ O, STC_call HT HX vs_ub0_r2 hp O, hg0, PFI_glue (dl := [5]) hPF sf sa sd (by decide +kernel) (rexc_of (l := [(0, 27, 0, 28)]) (by decide +kernel) ?_), ABS_glue hAB sf (by decide +kernel), NZ_glue hNZ vs_ub0_r2 hp sn (by decide +kernel), hGI, ?_, ?_, ?_, ?_, ?_, ?_, ?_, ?_, ?_, ?_⟩ ⟨(STP0_call (STY_call vs_ub0_r2 hp O) (sd 0 rfl) (RM_call vs_ub0_r2 O)), unt1_of (x := 10) (by decide +kernel) (fun p hp => funext (sa p hp))⟩ (EQD_glue sf sa sd sn (by decide +kernel)) (show inr z by first | assumption | omega | rfl) (show (Fₚ 4 2) = 0 by first | assumption | omega | rfl) (show RDQ 0 (sc ((A 7)) 0 ((F 6 1))) (sc ((A 12)) 0 ((F 11 1))) DCE (x3) (z) ((Fₚ 0 17)) (sc ((Aₚ 5)) 0 ((Fₚ 4 1))) by first | assumption | omega | rfl)
    · intro e he h1 h2
      simp only [List.mem_cons, List.not_mem_nil, or_false] at he
      rcases he with rfl
      · exact pm5
    · skip
      exact ⟨QF0_0_eq (EQD_glue sf sa sd sn (by decide +kernel)) f0_0, QF0_1_eq (EQD_glue sf sa sd sn (by decide +kernel)) f0_1, QF0_2_eq (EQD_glue sf sa sd sn (by decide +kernel)) f0_2, QF0_3_eq (EQD_glue sf sa sd sn (by decide +kernel)) f0_3, QF0_4_eq (EQD_glue sf sa sd sn (by decide +kernel)) f0_4, QF0_5_eq (EQD_glue sf sa sd sn (by decide +kernel)) f0_5, show 0 ≤ (Fₚ 4 1) ∧ (Fₚ 4 1) ≤ ((Nₚ 5 : Int)) ∧ ((Nₚ 5 : Int)) ≤ 65536 from (by first | assumption | omega), QF0_7_eq (EQD_glue sf sa sd sn (by decide +kernel)) f0_7, QF0_8_eq (EQD_glue sf sa sd sn (by decide +kernel)) f0_8, QF0_9_eq (EQD_glue sf sa sd sn (by decide +kernel)) f0_9, QF0_10_eq (EQD_glue sf sa sd sn (by decide +kernel)) f0_10, QF0_11_eq (EQD_glue sf sa sd sn (by decide +kernel)) f0_11, QF0_12_eq (EQD_glue sf sa sd sn (by decide +kernel)) f0_12, QF0_13_eq (EQD_glue sf sa sd sn (by decide +kernel)) f0_13, QF0_14_eq (EQD_glue sf sa sd sn (by decide +kernel)) f0_14, QF0_15_eq (EQD_glue sf sa sd sn (by decide +kernel)) f0_15, QF0_16_eq (EQD_glue sf sa sd sn (by decide +kernel)) f0_16, QF0_17_eq (EQD_glue sf sa sd sn (by decide +kernel)) f0_17, QF0_18_eq (EQD_glue sf sa sd sn (by decide +kernel)) f0_18, QF0_19_eq (EQD_glue sf sa sd sn (by decide +kernel)) f0_19, QF0_20_eq (EQD_glue sf sa sd sn (by decide +kernel)) f0_20, QF0_21_eq (EQD_glue sf sa sd sn (by decide +kernel)) f0_21, QF0_22_eq (EQD_glue sf sa sd sn (by decide +kernel)) f0_22, QF0_23_eq (EQD_glue sf sa sd sn (by decide +kernel)) f0_23, QF0_24_eq (EQD_glue sf sa sd sn (by decide +kernel)) f0_24⟩
    · exact fun h => INV1_eq (EQD_glue sf sa sd sn (by decide +kernel)) (hI1 h)
    · exact fun h => INV2_eq (EQD_glue sf sa sd sn (by decide +kernel)) (hI2 h)
    · exact fun h => INV3_eq (EQD_glue sf sa sd sn (by decide +kernel)) (hI3 h)
    · exact fun h => INV4_eq (EQD_glue sf sa sd sn (by decide +kernel)) (hI4 h)
    · exact fun h => INV5_eq (EQD_glue sf sa sd sn (by decide +kernel)) (hI5 h)
    · exact fun h => INV6_eq (EQD_glue sf sa sd sn (by decide +kernel)) (hI6 h)
    · exact fun h => INV7_eq (EQD_glue sf sa sd sn (by decide +kernel)) (hI7 h)
    · exact fun h => INV8_eq (EQD_glue sf sa sd sn (by decide +kernel)) (hI8 h)
    · exact fun h => INV9_eq (EQD_glue sf sa sd sn (by decide +kernel)) (hI9 h)
def ι_ua0_r3 : List Nat := [0, 8, 30, 9, 27, 28]
theorem vs_ua0_r3 : VS VPH V32_Row_Ir_c20_va0 ι_ua0_r3 := VS_of (by decide +kernel)
set_option maxRecDepth 20000 in
theorem T_ua0_r3 {Dc : DcS} {g : Nat → Bool} {σ : rS} {D N : Nat → Nat} {F : hF} {A : hA} {d c s : Nat} {Q : wQ} (X : PHI Dc g σ D N F A)  {a3 : Int}  (h1 : inr a3)  (hc41 : ∀ (ls : rO) (σₚ : rS) (Dₚ Nₚ : Nat → Nat) (Fₚ : hF) (Aₚ : hA) (cₚ sₚ : Nat), PHI Dc g σₚ Dₚ Nₚ Fₚ Aₚ → STP g σ D N A c s g σₚ Dₚ Nₚ Aₚ cₚ sₚ → EQD [(2, 1), (4, 1), (6, 1), (8, 1), (11, 1), (0, 18), (25, 1)] [3, 5, 7, 9, 12, 10, 29, 30, 32, 26] [] [] D N F A Dₚ Nₚ Fₚ Aₚ → rlook ls 0 = some (.ref (Dₚ 0)) → rlook ls 1 = some (.ref (Dₚ 8)) → rlook ls 3 = some (I (a3)) → ((Fₚ 27 1) = 0) → ((Fₚ 27 2) = 0) → Ew 32 (d + 1) 41 ls [.ref (Dₚ 0)] σₚ cₚ sₚ Q) (k : ∀ (z : Int) (σₚ : rS) (Dₚ Nₚ : Nat → Nat) (Fₚ : hF) (Aₚ : hA) (cₚ sₚ : Nat), PHI Dc g σₚ Dₚ Nₚ Fₚ Aₚ → STP g σ D N A c s g σₚ Dₚ Nₚ Aₚ cₚ sₚ → EQD [(2, 1), (4, 1), (6, 1), (8, 1), (11, 1), (0, 18), (25, 1)] [3, 5, 7, 9, 12, 10, 29, 30, 32, 26] [] [] D N F A Dₚ Nₚ Fₚ Aₚ → ((0 : Int) = 1) → Q (some (I z)) σₚ cₚ sₚ) : Ew 32 (d + 1) 0 (rargs 0 [.ref (D 0), .ref (D 8), I 0, I a3, .ref (D 30)]) [] σ c s Q := by
  obtain ⟨HX, HT, hg0, hPF, hAB, hNZ, hGI, hI0, hI1, hI2, hI3, hI4, hI5, hI6, hI7, hI8, hI9⟩ := X
  have hset := SETI_f hI0.2.2.2.2.2.2.2.2.2.2.2.2.2.2.2.2.2.2.2.2.2.2.2.2
  have hJ0 := hI0
  unfold INV0 at hJ0
  obtain ⟨f0_0, f0_1, f0_2, f0_3, f0_4, f0_5, f0_6, f0_7, f0_8, f0_9, f0_10, f0_11, f0_12, f0_13, f0_14, f0_15, f0_16, f0_17, f0_18, f0_19, f0_20, f0_21, f0_22, f0_23, f0_24⟩ := hJ0
  have hp : ∀ x, x < (V32_Row_Ir_c20_va0).length → SPH g (ι_ua0_r3.getD x 0) = true := SPH_of (gs := [0]) (by intro j hj; simp at hj; subst hj; exact hg0) rfl (by decide +kernel)
  refine C32_Row_Ir_c20_va0 (D := pul ι_ua0_r3 D) (N := pul ι_ua0_r3 N) (F := pul ι_ua0_r3 F) (A := pul ι_ua0_r3 A) (HWs_sub HX vs_ua0_r3 hp) (show F 8 0 = (D 9 : Int) from hPF (0, 8, 0, 9) (List.mem_of_getElem? (i := 8) rfl) hg0 hg0) (show F 0 6 = (D 27 : Int) from hPF (0, 0, 6, 27) (List.mem_of_getElem? (i := 26) rfl) hg0 hg0) (show F 27 0 = (D 28 : Int) from hPF (0, 27, 0, 28) (List.mem_of_getElem? (i := 27) rfl) hg0 hg0) (N 30 : Int) rfl (N 9 : Int) rfl (N 28 : Int) rfl (F 8 1) rfl (F 27 1) rfl    (show inr (0) by first | assumption | omega) (show inr (a3) by first | assumption | omega) (show 0 ≤ (F 8 1) ∧ (F 8 1) ≤ ((N 9 : Int)) ∧ ((N 9 : Int)) ≤ 65536 by first | assumption | omega) (show 0 ≤ (F 27 1) ∧ (F 27 1) ≤ ((N 28 : Int)) ∧ ((N 28 : Int)) ≤ 65536 by first | assumption | omega) (fun  ls σ F_c41 A_c41  lc41_0 lc41_1 lc41_3 H O hS_c41 hA_c41   yc41_4_1 eyc41_4_1 yc41_4_2 eyc41_4_2  jc41_0 jc41_1 jc41_2 jc41_3 => ?_) (fun z σₚ Fₚ Aₚ Hₚ O sf sa y4_1 ey4_1 q0 q1 q2 => ?_)
  · skip
    subst eyc41_4_1 eyc41_4_2
    have sd : SD [] (pul ι_ua0_r3 D) (pul ι_ua0_r3 D) := SD_refl
    have sn : SD [] (pul ι_ua0_r3 N) (pul ι_ua0_r3 N) := SD_refl
    refine hc41   _ _ (glu ι_ua0_r3 D (pul ι_ua0_r3 D)) (glu ι_ua0_r3 N (pul ι_ua0_r3 N)) (glu ι_ua0_r3 F F_c41) (glu ι_ua0_r3 A A_c41) _ _ ⟨HWs_call HX VPH_3 vs_ua0_r3 hp H O, STC_call HT HX vs_ua0_r3 hp O, hg0, PFI_glue (dl := []) hPF hS_c41 hA_c41 sd (by decide +kernel) (rexc_of (l := []) (by decide +kernel) ?_), ABS_glue hAB hS_c41 (by decide +kernel), NZ_glue hNZ vs_ua0_r3 hp sn (by decide +kernel), hGI, ?_, ?_, ?_, ?_, ?_, ?_, ?_, ?_, ?_, ?_⟩ ⟨(STP0_call (STY_call vs_ua0_r3 hp O) (sd 0 rfl) (RM_call vs_ua0_r3 O)), unt1_of (x := 10) (by decide +kernel) (fun p hp => funext (hA_c41 p hp))⟩ (EQD_glue hS_c41 hA_c41 sd sn (by decide +kernel)) lc41_0 lc41_1 lc41_3 (show (F_c41 4 1) = 0 by first | assumption | omega | rfl) (show (F_c41 4 2) = 0 by first | assumption | omega | rfl)
    · intro e he h1 h2
      cases he
    · skip
      exact ⟨QF0_0_eq (EQD_glue hS_c41 hA_c41 sd sn (by decide +kernel)) f0_0, QF0_1_eq (EQD_glue hS_c41 hA_c41 sd sn (by decide +kernel)) f0_1, QF0_2_eq (EQD_glue hS_c41 hA_c41 sd sn (by decide +kernel)) f0_2, QF0_3_eq (EQD_glue hS_c41 hA_c41 sd sn (by decide +kernel)) f0_3, QF0_4_eq (EQD_glue hS_c41 hA_c41 sd sn (by decide +kernel)) f0_4, QF0_5_eq (EQD_glue hS_c41 hA_c41 sd sn (by decide +kernel)) f0_5, show 0 ≤ (F_c41 4 1) ∧ (F_c41 4 1) ≤ ((N 28 : Int)) ∧ ((N 28 : Int)) ≤ 65536 from (by first | assumption | omega), QF0_7_eq (EQD_glue hS_c41 hA_c41 sd sn (by decide +kernel)) f0_7, QF0_8_eq (EQD_glue hS_c41 hA_c41 sd sn (by decide +kernel)) f0_8, QF0_9_eq (EQD_glue hS_c41 hA_c41 sd sn (by decide +kernel)) f0_9, QF0_10_eq (EQD_glue hS_c41 hA_c41 sd sn (by decide +kernel)) f0_10, QF0_11_eq (EQD_glue hS_c41 hA_c41 sd sn (by decide +kernel)) f0_11, QF0_12_eq (EQD_glue hS_c41 hA_c41 sd sn (by decide +kernel)) f0_12, QF0_13_eq (EQD_glue hS_c41 hA_c41 sd sn (by decide +kernel)) f0_13, QF0_14_eq (EQD_glue hS_c41 hA_c41 sd sn (by decide +kernel)) f0_14, QF0_15_eq (EQD_glue hS_c41 hA_c41 sd sn (by decide +kernel)) f0_15, QF0_16_eq (EQD_glue hS_c41 hA_c41 sd sn (by decide +kernel)) f0_16, QF0_17_eq (EQD_glue hS_c41 hA_c41 sd sn (by decide +kernel)) f0_17, QF0_18_eq (EQD_glue hS_c41 hA_c41 sd sn (by decide +kernel)) f0_18, QF0_19_eq (EQD_glue hS_c41 hA_c41 sd sn (by decide +kernel)) f0_19, QF0_20_eq (EQD_glue hS_c41 hA_c41 sd sn (by decide +kernel)) f0_20, QF0_21_eq (EQD_glue hS_c41 hA_c41 sd sn (by decide +kernel)) f0_21, QF0_22_eq (EQD_glue hS_c41 hA_c41 sd sn (by decide +kernel)) f0_22, QF0_23_eq (EQD_glue hS_c41 hA_c41 sd sn (by decide +kernel)) f0_23, QF0_24_eq (EQD_glue hS_c41 hA_c41 sd sn (by decide +kernel)) f0_24⟩
    · exact fun h => INV1_eq (EQD_glue hS_c41 hA_c41 sd sn (by decide +kernel)) (hI1 h)
    · exact fun h => INV2_eq (EQD_glue hS_c41 hA_c41 sd sn (by decide +kernel)) (hI2 h)
    · exact fun h => INV3_eq (EQD_glue hS_c41 hA_c41 sd sn (by decide +kernel)) (hI3 h)
    · exact fun h => INV4_eq (EQD_glue hS_c41 hA_c41 sd sn (by decide +kernel)) (hI4 h)
    · exact fun h => INV5_eq (EQD_glue hS_c41 hA_c41 sd sn (by decide +kernel)) (hI5 h)
    · exact fun h => INV6_eq (EQD_glue hS_c41 hA_c41 sd sn (by decide +kernel)) (hI6 h)
    · exact fun h => INV7_eq (EQD_glue hS_c41 hA_c41 sd sn (by decide +kernel)) (hI7 h)
    · exact fun h => INV8_eq (EQD_glue hS_c41 hA_c41 sd sn (by decide +kernel)) (hI8 h)
    · exact fun h => INV9_eq (EQD_glue hS_c41 hA_c41 sd sn (by decide +kernel)) (hI9 h)
  · skip
    subst ey4_1
    have sd : SD [] (pul ι_ua0_r3 D) (pul ι_ua0_r3 D) := SD_refl
    have sn : SD [] (pul ι_ua0_r3 N) (pul ι_ua0_r3 N) := SD_refl
    refine k z _ (glu ι_ua0_r3 D (pul ι_ua0_r3 D)) (glu ι_ua0_r3 N (pul ι_ua0_r3 N)) (glu ι_ua0_r3 F Fₚ) (glu ι_ua0_r3 A Aₚ) _ _ ⟨HWs_call HX VPH_3 vs_ua0_r3 hp Hₚ O, STC_call HT HX vs_ua0_r3 hp O, hg0, PFI_glue (dl := []) hPF sf sa sd (by decide +kernel) (rexc_of (l := []) (by decide +kernel) ?_), ABS_glue hAB sf (by decide +kernel), NZ_glue hNZ vs_ua0_r3 hp sn (by decide +kernel), hGI, ?_, ?_, ?_, ?_, ?_, ?_, ?_, ?_, ?_, ?_⟩ ⟨(STP0_call (STY_call vs_ua0_r3 hp O) (sd 0 rfl) (RM_call vs_ua0_r3 O)), unt1_of (x := 10) (by decide +kernel) (fun p hp => funext (sa p hp))⟩ (EQD_glue sf sa sd sn (by decide +kernel)) (show (0 : Int) = 1 by first | assumption | omega | rfl)
    · intro e he h1 h2
      cases he
    · skip
      exact ⟨QF0_0_eq (EQD_glue sf sa sd sn (by decide +kernel)) f0_0, QF0_1_eq (EQD_glue sf sa sd sn (by decide +kernel)) f0_1, QF0_2_eq (EQD_glue sf sa sd sn (by decide +kernel)) f0_2, QF0_3_eq (EQD_glue sf sa sd sn (by decide +kernel)) f0_3, QF0_4_eq (EQD_glue sf sa sd sn (by decide +kernel)) f0_4, QF0_5_eq (EQD_glue sf sa sd sn (by decide +kernel)) f0_5, show 0 ≤ (Fₚ 4 1) ∧ (Fₚ 4 1) ≤ ((N 28 : Int)) ∧ ((N 28 : Int)) ≤ 65536 from (by first | assumption | omega), QF0_7_eq (EQD_glue sf sa sd sn (by decide +kernel)) f0_7, QF0_8_eq (EQD_glue sf sa sd sn (by decide +kernel)) f0_8, QF0_9_eq (EQD_glue sf sa sd sn (by decide +kernel)) f0_9, QF0_10_eq (EQD_glue sf sa sd sn (by decide +kernel)) f0_10, QF0_11_eq (EQD_glue sf sa sd sn (by decide +kernel)) f0_11, QF0_12_eq (EQD_glue sf sa sd sn (by decide +kernel)) f0_12, QF0_13_eq (EQD_glue sf sa sd sn (by decide +kernel)) f0_13, QF0_14_eq (EQD_glue sf sa sd sn (by decide +kernel)) f0_14, QF0_15_eq (EQD_glue sf sa sd sn (by decide +kernel)) f0_15, QF0_16_eq (EQD_glue sf sa sd sn (by decide +kernel)) f0_16, QF0_17_eq (EQD_glue sf sa sd sn (by decide +kernel)) f0_17, QF0_18_eq (EQD_glue sf sa sd sn (by decide +kernel)) f0_18, QF0_19_eq (EQD_glue sf sa sd sn (by decide +kernel)) f0_19, QF0_20_eq (EQD_glue sf sa sd sn (by decide +kernel)) f0_20, QF0_21_eq (EQD_glue sf sa sd sn (by decide +kernel)) f0_21, QF0_22_eq (EQD_glue sf sa sd sn (by decide +kernel)) f0_22, QF0_23_eq (EQD_glue sf sa sd sn (by decide +kernel)) f0_23, QF0_24_eq (EQD_glue sf sa sd sn (by decide +kernel)) f0_24⟩
    · exact fun h => INV1_eq (EQD_glue sf sa sd sn (by decide +kernel)) (hI1 h)
    · exact fun h => INV2_eq (EQD_glue sf sa sd sn (by decide +kernel)) (hI2 h)
    · exact fun h => INV3_eq (EQD_glue sf sa sd sn (by decide +kernel)) (hI3 h)
    · exact fun h => INV4_eq (EQD_glue sf sa sd sn (by decide +kernel)) (hI4 h)
    · exact fun h => INV5_eq (EQD_glue sf sa sd sn (by decide +kernel)) (hI5 h)
    · exact fun h => INV6_eq (EQD_glue sf sa sd sn (by decide +kernel)) (hI6 h)
    · exact fun h => INV7_eq (EQD_glue sf sa sd sn (by decide +kernel)) (hI7 h)
    · exact fun h => INV8_eq (EQD_glue sf sa sd sn (by decide +kernel)) (hI8 h)
    · exact fun h => INV9_eq (EQD_glue sf sa sd sn (by decide +kernel)) (hI9 h)
def ι_ub0_r3 : List Nat := [0, 8, 30, 9, 27, 28, 41, 11, 12]
theorem vs_ub0_r3 : VS VPH V32_Row_Ir_vb0 ι_ub0_r3 := VS_of (by decide +kernel)
set_option maxRecDepth 20000 in
theorem T_ub0_r3 {Dc : DcS} {g : Nat → Bool} {σ : rS} {D N : Nat → Nat} {F : hF} {A : hA} {d c s : Nat} {Q : wQ} (X : PHI Dc g σ D N F A) (hg2 : g 2 = true) {x3 : Int} {ls : rO} (hl0 : rlook ls 0 = some (.ref (D 0))) (hl1 : rlook ls 1 = some (.ref (D 8))) (hl3 : rlook ls 3 = some (I x3)) (h0 : inr x3) (x_0 : (F 27 1) = 0) (x_1 : (F 27 2) = 0) (x_2 : 0 ≤ x3 ∧ x3 ≤ 65536) (k : ∀ (z : Int) (σₚ : rS) (Dₚ Nₚ : Nat → Nat) (Fₚ : hF) (Aₚ : hA) (cₚ sₚ : Nat), PHI Dc g σₚ Dₚ Nₚ Fₚ Aₚ → STP g σ D N A c s g σₚ Dₚ Nₚ Aₚ cₚ sₚ → EQD [(2, 1), (4, 1), (6, 1), (8, 1), (11, 1), (0, 18), (25, 1)] [3, 5, 7, 9, 12, 10, 29, 30, 32, 26] [] [] D N F A Dₚ Nₚ Fₚ Aₚ → (inr z) → ((Fₚ 27 2) = 0) → (RDQ 0 (sc ((A 9)) 0 ((F 8 1))) (sc ((A 12)) 0 ((F 11 1))) DCE (x3) (z) ((Fₚ 0 17)) (sc ((Aₚ 28)) 0 ((Fₚ 27 1)))) → Q (some (I z)) σₚ cₚ sₚ) : Ew 32 (d + 5) 44 ls [.ref (D 41)] σ c s Q := by
  obtain ⟨HX, HT, hg0, hPF, hAB, hNZ, hGI, hI0, hI1, hI2, hI3, hI4, hI5, hI6, hI7, hI8, hI9⟩ := X
  have hset := SETI_f hI0.2.2.2.2.2.2.2.2.2.2.2.2.2.2.2.2.2.2.2.2.2.2.2.2
  have hJ0 := hI0
  unfold INV0 at hJ0
  obtain ⟨f0_0, f0_1, f0_2, f0_3, f0_4, f0_5, f0_6, f0_7, f0_8, f0_9, f0_10, f0_11, f0_12, f0_13, f0_14, f0_15, f0_16, f0_17, f0_18, f0_19, f0_20, f0_21, f0_22, f0_23, f0_24⟩ := hJ0
  have hJ2 := hI2 hg2
  unfold INV2 at hJ2
  have f2_0 := hJ2
  have hp : ∀ x, x < (V32_Row_Ir_vb0).length → SPH g (ι_ub0_r3.getD x 0) = true := SPH_of (gs := [0, 2]) (by intro j hj; simp at hj; rcases hj with rfl | rfl <;> assumption) rfl (by decide +kernel)
  refine C32_Row_Ir_vb0 (D := pul ι_ub0_r3 D) (N := pul ι_ub0_r3 N) (F := pul ι_ub0_r3 F) (A := pul ι_ub0_r3 A) (HWs_sub HX vs_ub0_r3 hp) (show F 8 0 = (D 9 : Int) from hPF (0, 8, 0, 9) (List.mem_of_getElem? (i := 8) rfl) hg0 hg0) (show F 0 6 = (D 27 : Int) from hPF (0, 0, 6, 27) (List.mem_of_getElem? (i := 26) rfl) hg0 hg0) (show F 27 0 = (D 28 : Int) from hPF (0, 27, 0, 28) (List.mem_of_getElem? (i := 27) rfl) hg0 hg0) (show F 0 8 = (D 41 : Int) from hPF (0, 0, 8, 41) (List.mem_of_getElem? (i := 40) rfl) hg0 hg2) (show F 41 1 = (D 11 : Int) from hPF (0, 41, 1, 11) (List.mem_of_getElem? (i := 361) rfl) hg2 hg0) (show F 11 0 = (D 12 : Int) from hPF (0, 11, 0, 12) (List.mem_of_getElem? (i := 11) rfl) hg0 hg0) (N 30 : Int) rfl (N 9 : Int) rfl (N 28 : Int) rfl (N 12 : Int) rfl (F 0 17) rfl (F 8 1) rfl (F 27 1) rfl (F 27 2) rfl (F 11 1) rfl (A 9) rfl (A 28) rfl (A 12) rfl  hl0 hl1 hl3 (show inr (x3) by first | assumption | omega) (show 0 ≤ (F 8 1) ∧ (F 8 1) ≤ ((N 9 : Int)) ∧ ((N 9 : Int)) ≤ 65536 by first | assumption | omega) (show 0 ≤ (F 27 1) ∧ (F 27 1) ≤ ((N 28 : Int)) ∧ ((N 28 : Int)) ≤ 65536 by first | assumption | omega) (show (F 27 1) = 0 by first | assumption | omega) (show (F 27 2) = 0 by first | assumption | omega) (show 0 ≤ (x3) ∧ (x3) ≤ 65536 by first | assumption | omega) (show 0 ≤ (F 11 1) ∧ (F 11 1) ≤ ((N 12 : Int)) ∧ ((N 12 : Int)) ≤ 65536 by first | assumption | omega) (fun z σₚ Dₚ Nₚ Fₚ Aₚ cₚ sₚ Hₚ O sd sn sf sa pm5 m5 em5 y0_17 ey0_17 y4_1 ey4_1 y4_2 ey4_2 v5 ev5 q0 q1 q2 q3 => ?_)
  · skip
    subst em5 ey0_17 ey4_1 ey4_2 ev5
    have : Fₚ 1 1 = F 8 1 := sf 1 1 rfl
    have : Fₚ 7 1 = F 11 1 := sf 7 1 rfl
    have : Aₚ 3 = A 9 := funext (sa 3 rfl)
    have : Aₚ 8 = A 12 := funext (sa 8 rfl)
    refine k z _ (glu ι_ub0_r3 D Dₚ) (glu ι_ub0_r3 N Nₚ) (glu ι_ub0_r3 F Fₚ) (glu ι_ub0_r3 A Aₚ) _ _ ⟨HWs_call HX VPH_3 vs_ub0_r3 hp Hₚ O, STC_call HT HX vs_ub0_r3 hp O, hg0, PFI_glue (dl := [5]) hPF sf sa sd (by decide +kernel) (rexc_of (l := [(0, 27, 0, 28)]) (by decide +kernel) ?_), ABS_glue hAB sf (by decide +kernel), NZ_glue hNZ vs_ub0_r3 hp sn (by decide +kernel), hGI, ?_, ?_, ?_, ?_, ?_, ?_, ?_, ?_, ?_, ?_⟩ ⟨(STP0_call (STY_call vs_ub0_r3 hp O) (sd 0 rfl) (RM_call vs_ub0_r3 O)), unt1_of (x := 10) (by decide +kernel) (fun p hp => funext (sa p hp))⟩ (EQD_glue sf sa sd sn (by decide +kernel)) (show inr z by first | assumption | omega | rfl) (show (Fₚ 4 2) = 0 by first | assumption | omega | rfl) (show RDQ 0 (sc ((A 9)) 0 ((F 8 1))) (sc ((A 12)) 0 ((F 11 1))) DCE (x3) (z) ((Fₚ 0 17)) (sc ((Aₚ 5)) 0 ((Fₚ 4 1))) by first | assumption | omega | rfl)
    · intro e he h1 h2
      simp only [List.mem_cons, List.not_mem_nil, or_false] at he
      rcases he with rfl
      · exact pm5
    · skip
      exact ⟨QF0_0_eq (EQD_glue sf sa sd sn (by decide +kernel)) f0_0, QF0_1_eq (EQD_glue sf sa sd sn (by decide +kernel)) f0_1, QF0_2_eq (EQD_glue sf sa sd sn (by decide +kernel)) f0_2, QF0_3_eq (EQD_glue sf sa sd sn (by decide +kernel)) f0_3, QF0_4_eq (EQD_glue sf sa sd sn (by decide +kernel)) f0_4, QF0_5_eq (EQD_glue sf sa sd sn (by decide +kernel)) f0_5, show 0 ≤ (Fₚ 4 1) ∧ (Fₚ 4 1) ≤ ((Nₚ 5 : Int)) ∧ ((Nₚ 5 : Int)) ≤ 65536 from (by first | assumption | omega), QF0_7_eq (EQD_glue sf sa sd sn (by decide +kernel)) f0_7, QF0_8_eq (EQD_glue sf sa sd sn (by decide +kernel)) f0_8, QF0_9_eq (EQD_glue sf sa sd sn (by decide +kernel)) f0_9, QF0_10_eq (EQD_glue sf sa sd sn (by decide +kernel)) f0_10, QF0_11_eq (EQD_glue sf sa sd sn (by decide +kernel)) f0_11, QF0_12_eq (EQD_glue sf sa sd sn (by decide +kernel)) f0_12, QF0_13_eq (EQD_glue sf sa sd sn (by decide +kernel)) f0_13, QF0_14_eq (EQD_glue sf sa sd sn (by decide +kernel)) f0_14, QF0_15_eq (EQD_glue sf sa sd sn (by decide +kernel)) f0_15, QF0_16_eq (EQD_glue sf sa sd sn (by decide +kernel)) f0_16, QF0_17_eq (EQD_glue sf sa sd sn (by decide +kernel)) f0_17, QF0_18_eq (EQD_glue sf sa sd sn (by decide +kernel)) f0_18, QF0_19_eq (EQD_glue sf sa sd sn (by decide +kernel)) f0_19, QF0_20_eq (EQD_glue sf sa sd sn (by decide +kernel)) f0_20, QF0_21_eq (EQD_glue sf sa sd sn (by decide +kernel)) f0_21, QF0_22_eq (EQD_glue sf sa sd sn (by decide +kernel)) f0_22, QF0_23_eq (EQD_glue sf sa sd sn (by decide +kernel)) f0_23, QF0_24_eq (EQD_glue sf sa sd sn (by decide +kernel)) f0_24⟩
    · exact fun h => INV1_eq (EQD_glue sf sa sd sn (by decide +kernel)) (hI1 h)
    · exact fun h => INV2_eq (EQD_glue sf sa sd sn (by decide +kernel)) (hI2 h)
    · exact fun h => INV3_eq (EQD_glue sf sa sd sn (by decide +kernel)) (hI3 h)
    · exact fun h => INV4_eq (EQD_glue sf sa sd sn (by decide +kernel)) (hI4 h)
    · exact fun h => INV5_eq (EQD_glue sf sa sd sn (by decide +kernel)) (hI5 h)
    · exact fun h => INV6_eq (EQD_glue sf sa sd sn (by decide +kernel)) (hI6 h)
    · exact fun h => INV7_eq (EQD_glue sf sa sd sn (by decide +kernel)) (hI7 h)
    · exact fun h => INV8_eq (EQD_glue sf sa sd sn (by decide +kernel)) (hI8 h)
    · exact fun h => INV9_eq (EQD_glue sf sa sd sn (by decide +kernel)) (hI9 h)
def ι_ua0_w : List Nat := [0, 25, 31, 26, 27, 28]
theorem vs_ua0_w : VS VPH V32_Row_Ir_c20_va0 ι_ua0_w := VS_of (by decide +kernel)
set_option maxRecDepth 20000 in
theorem T_ua0_w {Dc : DcS} {g : Nat → Bool} {σ : rS} {D N : Nat → Nat} {F : hF} {A : hA} {d c s : Nat} {Q : wQ} (X : PHI Dc g σ D N F A)  {a3 : Int}  (h1 : inr a3)  (hc41 : ∀ (ls : rO) (σₚ : rS) (Dₚ Nₚ : Nat → Nat) (Fₚ : hF) (Aₚ : hA) (cₚ sₚ : Nat), PHI Dc g σₚ Dₚ Nₚ Fₚ Aₚ → STP g σ D N A c s g σₚ Dₚ Nₚ Aₚ cₚ sₚ → EQD [(2, 1), (4, 1), (6, 1), (8, 1), (11, 1), (0, 18), (25, 1)] [3, 5, 7, 9, 12, 10, 29, 30, 32, 26] [] [] D N F A Dₚ Nₚ Fₚ Aₚ → rlook ls 0 = some (.ref (Dₚ 0)) → rlook ls 1 = some (.ref (Dₚ 25)) → rlook ls 3 = some (I (a3)) → ((Fₚ 27 1) = 0) → ((Fₚ 27 2) = 0) → ((Aₚ 199) = (A 199)) → ((((Dₚ 2 : Nat) : Int)) = (((D 2 : Nat) : Int))) → ((((Dₚ 4 : Nat) : Int)) = (((D 4 : Nat) : Int))) → ((((Dₚ 6 : Nat) : Int)) = (((D 6 : Nat) : Int))) → ((((Dₚ 8 : Nat) : Int)) = (((D 8 : Nat) : Int))) → Ew 32 (d + 1) 41 ls [.ref (Dₚ 0)] σₚ cₚ sₚ Q) (k : ∀ (z : Int) (σₚ : rS) (Dₚ Nₚ : Nat → Nat) (Fₚ : hF) (Aₚ : hA) (cₚ sₚ : Nat), PHI Dc g σₚ Dₚ Nₚ Fₚ Aₚ → STP g σ D N A c s g σₚ Dₚ Nₚ Aₚ cₚ sₚ → EQD [(2, 1), (4, 1), (6, 1), (8, 1), (11, 1), (0, 18), (25, 1)] [3, 5, 7, 9, 12, 10, 29, 30, 32, 26] [] [] D N F A Dₚ Nₚ Fₚ Aₚ → ((0 : Int) = 1) → Q (some (I z)) σₚ cₚ sₚ) : Ew 32 (d + 1) 0 (rargs 0 [.ref (D 0), .ref (D 25), I 0, I a3, .ref (D 31)]) [] σ c s Q := by
  obtain ⟨HX, HT, hg0, hPF, hAB, hNZ, hGI, hI0, hI1, hI2, hI3, hI4, hI5, hI6, hI7, hI8, hI9⟩ := X
  have hset := SETI_f hI0.2.2.2.2.2.2.2.2.2.2.2.2.2.2.2.2.2.2.2.2.2.2.2.2
  have hJ0 := hI0
  unfold INV0 at hJ0
  obtain ⟨f0_0, f0_1, f0_2, f0_3, f0_4, f0_5, f0_6, f0_7, f0_8, f0_9, f0_10, f0_11, f0_12, f0_13, f0_14, f0_15, f0_16, f0_17, f0_18, f0_19, f0_20, f0_21, f0_22, f0_23, f0_24⟩ := hJ0
  have hp : ∀ x, x < (V32_Row_Ir_c20_va0).length → SPH g (ι_ua0_w.getD x 0) = true := SPH_of (gs := [0]) (by intro j hj; simp at hj; subst hj; exact hg0) rfl (by decide +kernel)
  refine C32_Row_Ir_c20_va0 (D := pul ι_ua0_w D) (N := pul ι_ua0_w N) (F := pul ι_ua0_w F) (A := pul ι_ua0_w A) (HWs_sub HX vs_ua0_w hp) (show F 25 0 = (D 26 : Int) from hPF (0, 25, 0, 26) (List.mem_of_getElem? (i := 25) rfl) hg0 hg0) (show F 0 6 = (D 27 : Int) from hPF (0, 0, 6, 27) (List.mem_of_getElem? (i := 26) rfl) hg0 hg0) (show F 27 0 = (D 28 : Int) from hPF (0, 27, 0, 28) (List.mem_of_getElem? (i := 27) rfl) hg0 hg0) (N 31 : Int) rfl (N 26 : Int) rfl (N 28 : Int) rfl (F 25 1) rfl (F 27 1) rfl    (show inr (0) by first | assumption | omega) (show inr (a3) by first | assumption | omega) (show 0 ≤ (F 25 1) ∧ (F 25 1) ≤ ((N 26 : Int)) ∧ ((N 26 : Int)) ≤ 65536 by first | assumption | omega) (show 0 ≤ (F 27 1) ∧ (F 27 1) ≤ ((N 28 : Int)) ∧ ((N 28 : Int)) ≤ 65536 by first | assumption | omega) (fun  ls σ F_c41 A_c41  lc41_0 lc41_1 lc41_3 H O hS_c41 hA_c41   yc41_4_1 eyc41_4_1 yc41_4_2 eyc41_4_2  jc41_0 jc41_1 jc41_2 jc41_3 => ?_) (fun z σₚ Fₚ Aₚ Hₚ O sf sa y4_1 ey4_1 q0 q1 q2 => ?_)
  · skip
    subst eyc41_4_1 eyc41_4_2
    have sd : SD [] (pul ι_ua0_w D) (pul ι_ua0_w D) := SD_refl
    have sn : SD [] (pul ι_ua0_w N) (pul ι_ua0_w N) := SD_refl
    refine hc41   _ _ (glu ι_ua0_w D (pul ι_ua0_w D)) (glu ι_ua0_w N (pul ι_ua0_w N)) (glu ι_ua0_w F F_c41) (glu ι_ua0_w A A_c41) _ _ ⟨HWs_call HX VPH_3 vs_ua0_w hp H O, STC_call HT HX vs_ua0_w hp O, hg0, PFI_glue (dl := []) hPF hS_c41 hA_c41 sd (by decide +kernel) (rexc_of (l := []) (by decide +kernel) ?_), ABS_glue hAB hS_c41 (by decide +kernel), NZ_glue hNZ vs_ua0_w hp sn (by decide +kernel), hGI, ?_, ?_, ?_, ?_, ?_, ?_, ?_, ?_, ?_, ?_⟩ ⟨(STP0_call (STY_call vs_ua0_w hp O) (sd 0 rfl) (RM_call vs_ua0_w O)), unt1_of (x := 10) (by decide +kernel) (fun p hp => funext (hA_c41 p hp))⟩ (EQD_glue hS_c41 hA_c41 sd sn (by decide +kernel)) lc41_0 lc41_1 lc41_3 (show (F_c41 4 1) = 0 by first | assumption | omega | rfl) (show (F_c41 4 2) = 0 by first | assumption | omega | rfl) (show (A 199) = (A 199) by first | assumption | omega | rfl) (show (((D 2 : Nat) : Int)) = (((D 2 : Nat) : Int)) by first | assumption | omega | rfl) (show (((D 4 : Nat) : Int)) = (((D 4 : Nat) : Int)) by first | assumption | omega | rfl) (show (((D 6 : Nat) : Int)) = (((D 6 : Nat) : Int)) by first | assumption | omega | rfl) (show (((D 8 : Nat) : Int)) = (((D 8 : Nat) : Int)) by first | assumption | omega | rfl)
    · intro e he h1 h2
      cases he
    · skip
      exact ⟨QF0_0_eq (EQD_glue hS_c41 hA_c41 sd sn (by decide +kernel)) f0_0, QF0_1_eq (EQD_glue hS_c41 hA_c41 sd sn (by decide +kernel)) f0_1, QF0_2_eq (EQD_glue hS_c41 hA_c41 sd sn (by decide +kernel)) f0_2, QF0_3_eq (EQD_glue hS_c41 hA_c41 sd sn (by decide +kernel)) f0_3, QF0_4_eq (EQD_glue hS_c41 hA_c41 sd sn (by decide +kernel)) f0_4, QF0_5_eq (EQD_glue hS_c41 hA_c41 sd sn (by decide +kernel)) f0_5, show 0 ≤ (F_c41 4 1) ∧ (F_c41 4 1) ≤ ((N 28 : Int)) ∧ ((N 28 : Int)) ≤ 65536 from (by first | assumption | omega), QF0_7_eq (EQD_glue hS_c41 hA_c41 sd sn (by decide +kernel)) f0_7, QF0_8_eq (EQD_glue hS_c41 hA_c41 sd sn (by decide +kernel)) f0_8, QF0_9_eq (EQD_glue hS_c41 hA_c41 sd sn (by decide +kernel)) f0_9, QF0_10_eq (EQD_glue hS_c41 hA_c41 sd sn (by decide +kernel)) f0_10, QF0_11_eq (EQD_glue hS_c41 hA_c41 sd sn (by decide +kernel)) f0_11, QF0_12_eq (EQD_glue hS_c41 hA_c41 sd sn (by decide +kernel)) f0_12, QF0_13_eq (EQD_glue hS_c41 hA_c41 sd sn (by decide +kernel)) f0_13, QF0_14_eq (EQD_glue hS_c41 hA_c41 sd sn (by decide +kernel)) f0_14, QF0_15_eq (EQD_glue hS_c41 hA_c41 sd sn (by decide +kernel)) f0_15, QF0_16_eq (EQD_glue hS_c41 hA_c41 sd sn (by decide +kernel)) f0_16, QF0_17_eq (EQD_glue hS_c41 hA_c41 sd sn (by decide +kernel)) f0_17, QF0_18_eq (EQD_glue hS_c41 hA_c41 sd sn (by decide +kernel)) f0_18, QF0_19_eq (EQD_glue hS_c41 hA_c41 sd sn (by decide +kernel)) f0_19, QF0_20_eq (EQD_glue hS_c41 hA_c41 sd sn (by decide +kernel)) f0_20, QF0_21_eq (EQD_glue hS_c41 hA_c41 sd sn (by decide +kernel)) f0_21, QF0_22_eq (EQD_glue hS_c41 hA_c41 sd sn (by decide +kernel)) f0_22, QF0_23_eq (EQD_glue hS_c41 hA_c41 sd sn (by decide +kernel)) f0_23, QF0_24_eq (EQD_glue hS_c41 hA_c41 sd sn (by decide +kernel)) f0_24⟩
    · exact fun h => INV1_eq (EQD_glue hS_c41 hA_c41 sd sn (by decide +kernel)) (hI1 h)
    · exact fun h => INV2_eq (EQD_glue hS_c41 hA_c41 sd sn (by decide +kernel)) (hI2 h)
    · exact fun h => INV3_eq (EQD_glue hS_c41 hA_c41 sd sn (by decide +kernel)) (hI3 h)
    · exact fun h => INV4_eq (EQD_glue hS_c41 hA_c41 sd sn (by decide +kernel)) (hI4 h)
    · exact fun h => INV5_eq (EQD_glue hS_c41 hA_c41 sd sn (by decide +kernel)) (hI5 h)
    · exact fun h => INV6_eq (EQD_glue hS_c41 hA_c41 sd sn (by decide +kernel)) (hI6 h)
    · exact fun h => INV7_eq (EQD_glue hS_c41 hA_c41 sd sn (by decide +kernel)) (hI7 h)
    · exact fun h => INV8_eq (EQD_glue hS_c41 hA_c41 sd sn (by decide +kernel)) (hI8 h)
    · exact fun h => INV9_eq (EQD_glue hS_c41 hA_c41 sd sn (by decide +kernel)) (hI9 h)
  · skip
    subst ey4_1
    have sd : SD [] (pul ι_ua0_w D) (pul ι_ua0_w D) := SD_refl
    have sn : SD [] (pul ι_ua0_w N) (pul ι_ua0_w N) := SD_refl
    refine k z _ (glu ι_ua0_w D (pul ι_ua0_w D)) (glu ι_ua0_w N (pul ι_ua0_w N)) (glu ι_ua0_w F Fₚ) (glu ι_ua0_w A Aₚ) _ _ ⟨HWs_call HX VPH_3 vs_ua0_w hp Hₚ O, STC_call HT HX vs_ua0_w hp O, hg0, PFI_glue (dl := []) hPF sf sa sd (by decide +kernel) (rexc_of (l := []) (by decide +kernel) ?_), ABS_glue hAB sf (by decide +kernel), NZ_glue hNZ vs_ua0_w hp sn (by decide +kernel), hGI, ?_, ?_, ?_, ?_, ?_, ?_, ?_, ?_, ?_, ?_⟩ ⟨(STP0_call (STY_call vs_ua0_w hp O) (sd 0 rfl) (RM_call vs_ua0_w O)), unt1_of (x := 10) (by decide +kernel) (fun p hp => funext (sa p hp))⟩ (EQD_glue sf sa sd sn (by decide +kernel)) (show (0 : Int) = 1 by first | assumption | omega | rfl)
    · intro e he h1 h2
      cases he
    · skip
      exact ⟨QF0_0_eq (EQD_glue sf sa sd sn (by decide +kernel)) f0_0, QF0_1_eq (EQD_glue sf sa sd sn (by decide +kernel)) f0_1, QF0_2_eq (EQD_glue sf sa sd sn (by decide +kernel)) f0_2, QF0_3_eq (EQD_glue sf sa sd sn (by decide +kernel)) f0_3, QF0_4_eq (EQD_glue sf sa sd sn (by decide +kernel)) f0_4, QF0_5_eq (EQD_glue sf sa sd sn (by decide +kernel)) f0_5, show 0 ≤ (Fₚ 4 1) ∧ (Fₚ 4 1) ≤ ((N 28 : Int)) ∧ ((N 28 : Int)) ≤ 65536 from (by first | assumption | omega), QF0_7_eq (EQD_glue sf sa sd sn (by decide +kernel)) f0_7, QF0_8_eq (EQD_glue sf sa sd sn (by decide +kernel)) f0_8, QF0_9_eq (EQD_glue sf sa sd sn (by decide +kernel)) f0_9, QF0_10_eq (EQD_glue sf sa sd sn (by decide +kernel)) f0_10, QF0_11_eq (EQD_glue sf sa sd sn (by decide +kernel)) f0_11, QF0_12_eq (EQD_glue sf sa sd sn (by decide +kernel)) f0_12, QF0_13_eq (EQD_glue sf sa sd sn (by decide +kernel)) f0_13, QF0_14_eq (EQD_glue sf sa sd sn (by decide +kernel)) f0_14, QF0_15_eq (EQD_glue sf sa sd sn (by decide +kernel)) f0_15, QF0_16_eq (EQD_glue sf sa sd sn (by decide +kernel)) f0_16, QF0_17_eq (EQD_glue sf sa sd sn (by decide +kernel)) f0_17, QF0_18_eq (EQD_glue sf sa sd sn (by decide +kernel)) f0_18, QF0_19_eq (EQD_glue sf sa sd sn (by decide +kernel)) f0_19, QF0_20_eq (EQD_glue sf sa sd sn (by decide +kernel)) f0_20, QF0_21_eq (EQD_glue sf sa sd sn (by decide +kernel)) f0_21, QF0_22_eq (EQD_glue sf sa sd sn (by decide +kernel)) f0_22, QF0_23_eq (EQD_glue sf sa sd sn (by decide +kernel)) f0_23, QF0_24_eq (EQD_glue sf sa sd sn (by decide +kernel)) f0_24⟩
    · exact fun h => INV1_eq (EQD_glue sf sa sd sn (by decide +kernel)) (hI1 h)
    · exact fun h => INV2_eq (EQD_glue sf sa sd sn (by decide +kernel)) (hI2 h)
    · exact fun h => INV3_eq (EQD_glue sf sa sd sn (by decide +kernel)) (hI3 h)
    · exact fun h => INV4_eq (EQD_glue sf sa sd sn (by decide +kernel)) (hI4 h)
    · exact fun h => INV5_eq (EQD_glue sf sa sd sn (by decide +kernel)) (hI5 h)
    · exact fun h => INV6_eq (EQD_glue sf sa sd sn (by decide +kernel)) (hI6 h)
    · exact fun h => INV7_eq (EQD_glue sf sa sd sn (by decide +kernel)) (hI7 h)
    · exact fun h => INV8_eq (EQD_glue sf sa sd sn (by decide +kernel)) (hI8 h)
    · exact fun h => INV9_eq (EQD_glue sf sa sd sn (by decide +kernel)) (hI9 h)
def ι_ub0_w : List Nat := [0, 25, 31, 26, 27, 28, 41, 11, 12]
theorem vs_ub0_w : VS VPH V32_Row_Ir_vb0 ι_ub0_w := VS_of (by decide +kernel)
set_option maxRecDepth 20000 in
theorem T_ub0_w {Dc : DcS} {g : Nat → Bool} {σ : rS} {D N : Nat → Nat} {F : hF} {A : hA} {d c s : Nat} {Q : wQ} (X : PHI Dc g σ D N F A) (hg2 : g 2 = true) {x3 : Int} {ls : rO} (hl0 : rlook ls 0 = some (.ref (D 0))) (hl1 : rlook ls 1 = some (.ref (D 25))) (hl3 : rlook ls 3 = some (I x3)) (h0 : inr x3) (x_0 : (F 27 1) = 0) (x_1 : (F 27 2) = 0) (x_2 : 0 ≤ x3 ∧ x3 ≤ 65536) (k : ∀ (z : Int) (σₚ : rS) (Dₚ Nₚ : Nat → Nat) (Fₚ : hF) (Aₚ : hA) (cₚ sₚ : Nat), PHI Dc g σₚ Dₚ Nₚ Fₚ Aₚ → STP g σ D N A c s g σₚ Dₚ Nₚ Aₚ cₚ sₚ → EQD [(2, 1), (4, 1), (6, 1), (8, 1), (11, 1), (0, 18), (25, 1)] [3, 5, 7, 9, 12, 10, 29, 30, 32, 26] [] [] D N F A Dₚ Nₚ Fₚ Aₚ → (inr z) → ((Fₚ 27 2) = 0) → (RDQ 0 (sc ((A 26)) 0 ((F 25 1))) (sc ((A 12)) 0 ((F 11 1))) DCE (x3) (z) ((Fₚ 0 17)) (sc ((Aₚ 28)) 0 ((Fₚ 27 1)))) → ((Aₚ 199) = (A 199)) → ((((Dₚ 2 : Nat) : Int)) = (((D 2 : Nat) : Int))) → ((((Dₚ 4 : Nat) : Int)) = (((D 4 : Nat) : Int))) → ((((Dₚ 6 : Nat) : Int)) = (((D 6 : Nat) : Int))) → ((((Dₚ 8 : Nat) : Int)) = (((D 8 : Nat) : Int))) → Q (some (I z)) σₚ cₚ sₚ) : Ew 32 (d + 5) 44 ls [.ref (D 41)] σ c s Q := by
  obtain ⟨HX, HT, hg0, hPF, hAB, hNZ, hGI, hI0, hI1, hI2, hI3, hI4, hI5, hI6, hI7, hI8, hI9⟩ := X
  have hset := SETI_f hI0.2.2.2.2.2.2.2.2.2.2.2.2.2.2.2.2.2.2.2.2.2.2.2.2
  have hJ0 := hI0
  unfold INV0 at hJ0
  obtain ⟨f0_0, f0_1, f0_2, f0_3, f0_4, f0_5, f0_6, f0_7, f0_8, f0_9, f0_10, f0_11, f0_12, f0_13, f0_14, f0_15, f0_16, f0_17, f0_18, f0_19, f0_20, f0_21, f0_22, f0_23, f0_24⟩ := hJ0
  have hJ2 := hI2 hg2
  unfold INV2 at hJ2
  have f2_0 := hJ2
  have hp : ∀ x, x < (V32_Row_Ir_vb0).length → SPH g (ι_ub0_w.getD x 0) = true := SPH_of (gs := [0, 2]) (by intro j hj; simp at hj; rcases hj with rfl | rfl <;> assumption) rfl (by decide +kernel)
  refine C32_Row_Ir_vb0 (D := pul ι_ub0_w D) (N := pul ι_ub0_w N) (F := pul ι_ub0_w F) (A := pul ι_ub0_w A) (HWs_sub HX vs_ub0_w hp) (show F 25 0 = (D 26 : Int) from hPF (0, 25, 0, 26) (List.mem_of_getElem? (i := 25) rfl) hg0 hg0) (show F 0 6 = (D 27 : Int) from hPF (0, 0, 6, 27) (List.mem_of_getElem? (i := 26) rfl) hg0 hg0) (show F 27 0 = (D 28 : Int) from hPF (0, 27, 0, 28) (List.mem_of_getElem? (i := 27) rfl) hg0 hg0) (show F 0 8 = (D 41 : Int) from hPF (0, 0, 8, 41) (List.mem_of_getElem? (i := 40) rfl) hg0 hg2) (show F 41 1 = (D 11 : Int) from hPF (0, 41, 1, 11) (List.mem_of_getElem? (i := 361) rfl) hg2 hg0) (show F 11 0 = (D 12 : Int) from hPF (0, 11, 0, 12) (List.mem_of_getElem? (i := 11) rfl) hg0 hg0) (N 31 : Int) rfl (N 26 : Int) rfl (N 28 : Int) rfl (N 12 : Int) rfl (F 0 17) rfl (F 25 1) rfl (F 27 1) rfl (F 27 2) rfl (F 11 1) rfl (A 26) rfl (A 28) rfl (A 12) rfl  hl0 hl1 hl3 (show inr (x3) by first | assumption | omega) (show 0 ≤ (F 25 1) ∧ (F 25 1) ≤ ((N 26 : Int)) ∧ ((N 26 : Int)) ≤ 65536 by first | assumption | omega) (show 0 ≤ (F 27 1) ∧ (F 27 1) ≤ ((N 28 : Int)) ∧ ((N 28 : Int)) ≤ 65536 by first | assumption | omega) (show (F 27 1) = 0 by first | assumption | omega) (show (F 27 2) = 0 by first | assumption | omega) (show 0 ≤ (x3) ∧ (x3) ≤ 65536 by first | assumption | omega) (show 0 ≤ (F 11 1) ∧ (F 11 1) ≤ ((N 12 : Int)) ∧ ((N 12 : Int)) ≤ 65536 by first | assumption | omega) (fun z σₚ Dₚ Nₚ Fₚ Aₚ cₚ sₚ Hₚ O sd sn sf sa pm5 m5 em5 y0_17 ey0_17 y4_1 ey4_1 y4_2 ey4_2 v5 ev5 q0 q1 q2 q3 => ?_)
  · skip
    subst em5 ey0_17 ey4_1 ey4_2 ev5
    have : Fₚ 7 1 = F 11 1 := sf 7 1 rfl
    have : Fₚ 1 1 = F 25 1 := sf 1 1 rfl
    have : Aₚ 8 = A 12 := funext (sa 8 rfl)
    have : Aₚ 3 = A 26 := funext (sa 3 rfl)
    refine k z _ (glu ι_ub0_w D Dₚ) (glu ι_ub0_w N Nₚ) (glu ι_ub0_w F Fₚ) (glu ι_ub0_w A Aₚ) _ _ ⟨HWs_call HX VPH_3 vs_ub0_w hp Hₚ O, STC_call HT HX vs_ub0_w hp O, hg0, PFI_glue (dl := [5]) hPF sf sa sd (by decide +kernel) (rexc_of (l := [(0, 27, 0, 28)]) (by decide +kernel) ?_), ABS_glue hAB sf (by decide +kernel), NZ_glue hNZ vs_ub0_w hp sn (by decide +kernel), hGI, ?_, ?_, ?_, ?_, ?_, ?_, ?_, ?_, ?_, ?_⟩ ⟨(STP0_call (STY_call vs_ub0_w hp O) (sd 0 rfl) (RM_call vs_ub0_w O)), unt1_of (x := 10) (by decide +kernel) (fun p hp => funext (sa p hp))⟩ (EQD_glue sf sa sd sn (by decide +kernel)) (show inr z by first | assumption | omega | rfl) (show (Fₚ 4 2) = 0 by first | assumption | omega | rfl) (show RDQ 0 (sc ((A 26)) 0 ((F 25 1))) (sc ((A 12)) 0 ((F 11 1))) DCE (x3) (z) ((Fₚ 0 17)) (sc ((Aₚ 5)) 0 ((Fₚ 4 1))) by first | assumption | omega | rfl) (show (A 199) = (A 199) by first | assumption | omega | rfl) (show (((D 2 : Nat) : Int)) = (((D 2 : Nat) : Int)) by first | assumption | omega | rfl) (show (((D 4 : Nat) : Int)) = (((D 4 : Nat) : Int)) by first | assumption | omega | rfl) (show (((D 6 : Nat) : Int)) = (((D 6 : Nat) : Int)) by first | assumption | omega | rfl) (show (((D 8 : Nat) : Int)) = (((D 8 : Nat) : Int)) by first | assumption | omega | rfl)
    · intro e he h1 h2
      simp only [List.mem_cons, List.not_mem_nil, or_false] at he
      rcases he with rfl
      · exact pm5
    · skip
      exact ⟨QF0_0_eq (EQD_glue sf sa sd sn (by decide +kernel)) f0_0, QF0_1_eq (EQD_glue sf sa sd sn (by decide +kernel)) f0_1, QF0_2_eq (EQD_glue sf sa sd sn (by decide +kernel)) f0_2, QF0_3_eq (EQD_glue sf sa sd sn (by decide +kernel)) f0_3, QF0_4_eq (EQD_glue sf sa sd sn (by decide +kernel)) f0_4, QF0_5_eq (EQD_glue sf sa sd sn (by decide +kernel)) f0_5, show 0 ≤ (Fₚ 4 1) ∧ (Fₚ 4 1) ≤ ((Nₚ 5 : Int)) ∧ ((Nₚ 5 : Int)) ≤ 65536 from (by first | assumption | omega), QF0_7_eq (EQD_glue sf sa sd sn (by decide +kernel)) f0_7, QF0_8_eq (EQD_glue sf sa sd sn (by decide +kernel)) f0_8, QF0_9_eq (EQD_glue sf sa sd sn (by decide +kernel)) f0_9, QF0_10_eq (EQD_glue sf sa sd sn (by decide +kernel)) f0_10, QF0_11_eq (EQD_glue sf sa sd sn (by decide +kernel)) f0_11, QF0_12_eq (EQD_glue sf sa sd sn (by decide +kernel)) f0_12, QF0_13_eq (EQD_glue sf sa sd sn (by decide +kernel)) f0_13, QF0_14_eq (EQD_glue sf sa sd sn (by decide +kernel)) f0_14, QF0_15_eq (EQD_glue sf sa sd sn (by decide +kernel)) f0_15, QF0_16_eq (EQD_glue sf sa sd sn (by decide +kernel)) f0_16, QF0_17_eq (EQD_glue sf sa sd sn (by decide +kernel)) f0_17, QF0_18_eq (EQD_glue sf sa sd sn (by decide +kernel)) f0_18, QF0_19_eq (EQD_glue sf sa sd sn (by decide +kernel)) f0_19, QF0_20_eq (EQD_glue sf sa sd sn (by decide +kernel)) f0_20, QF0_21_eq (EQD_glue sf sa sd sn (by decide +kernel)) f0_21, QF0_22_eq (EQD_glue sf sa sd sn (by decide +kernel)) f0_22, QF0_23_eq (EQD_glue sf sa sd sn (by decide +kernel)) f0_23, QF0_24_eq (EQD_glue sf sa sd sn (by decide +kernel)) f0_24⟩
    · exact fun h => INV1_eq (EQD_glue sf sa sd sn (by decide +kernel)) (hI1 h)
    · exact fun h => INV2_eq (EQD_glue sf sa sd sn (by decide +kernel)) (hI2 h)
    · exact fun h => INV3_eq (EQD_glue sf sa sd sn (by decide +kernel)) (hI3 h)
    · exact fun h => INV4_eq (EQD_glue sf sa sd sn (by decide +kernel)) (hI4 h)
    · exact fun h => INV5_eq (EQD_glue sf sa sd sn (by decide +kernel)) (hI5 h)
    · exact fun h => INV6_eq (EQD_glue sf sa sd sn (by decide +kernel)) (hI6 h)
    · exact fun h => INV7_eq (EQD_glue sf sa sd sn (by decide +kernel)) (hI7 h)
    · exact fun h => INV8_eq (EQD_glue sf sa sd sn (by decide +kernel)) (hI8 h)
    · exact fun h => INV9_eq (EQD_glue sf sa sd sn (by decide +kernel)) (hI9 h)

