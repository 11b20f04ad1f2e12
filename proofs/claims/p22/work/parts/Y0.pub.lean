/-! set, history, forget over the state -/
def ι_history : List Nat := [0, 1, 2, 3, 4, 5, 6, 7, 8, 9, 11, 12]
theorem vs_history : VS VPH V14 ι_history := VS_of (by decide +kernel)
set_option maxRecDepth 20000 in
theorem T_history {g : Nat → Bool} {σ : rS} {D N : Nat → Nat} {F : hF} {A : hA} {d c s : Nat} {Q : wQ} (X : PHI g σ D N F A)  {a1 : Int}  (h0 : inr a1)  (k : ∀ (z : Int) (σₚ : rS) (Dₚ Nₚ : Nat → Nat) (Fₚ : hF) (Aₚ : hA) (cₚ sₚ : Nat), PHI g σₚ Dₚ Nₚ Fₚ Aₚ → STP g σ D N A c s g σₚ Dₚ Nₚ Aₚ cₚ sₚ → (z = 0 ∨ z = 1) → (z = 1 ∧ 0 ≤ a1 ∧ a1 ≤ 3 ∨ z = 0 ∧ (a1 < 0 ∨ 3 < a1)) → Q (some (I z)) σₚ cₚ sₚ) : Ew 14 (d + 4) 0 (rargs 0 [.ref (D 0), I a1]) [] σ c s Q := by
  obtain ⟨HX, HT, hg0, hPF, hAB, hNZ, hGI, hI0, hI1, hI2, hI3, hI4, hI5, hI6, hI7, hI8, hI9⟩ := X
  have hset := SETI_f hI0.2.2.2.2.2.2.2.2.2.2.2.2.2.2.2.2.2
  have hJ0 := hI0
  unfold INV0 at hJ0
  obtain ⟨f0_0, f0_1, f0_2, f0_3, f0_4, f0_5, f0_6, f0_7, f0_8, f0_9, f0_10, f0_11, f0_12, f0_13, f0_14, f0_15, f0_16, f0_17⟩ := hJ0
  have hp : ∀ x, x < (V14).length → SPH g (ι_history.getD x 0) = true := SPH_of (gs := [0]) (by intro j hj; simp at hj; subst hj; exact hg0) rfl (by decide +kernel)
  refine C14x (D := pul ι_history D) (N := pul ι_history N) (F := pul ι_history F) (A := pul ι_history A) (HWs_sub HX vs_history hp) (show F 0 0 = (D 1 : Int) from hPF (0, 0, 0, 1) (List.mem_of_getElem? (i := 0) rfl) hg0 hg0) (show A 1 0 = (D 2 : Int) from hPF (1, 1, 0, 2) (List.mem_of_getElem? (i := 1) rfl) hg0 hg0) (show F 2 0 = (D 3 : Int) from hPF (0, 2, 0, 3) (List.mem_of_getElem? (i := 2) rfl) hg0 hg0) (show A 1 1 = (D 4 : Int) from hPF (1, 1, 1, 4) (List.mem_of_getElem? (i := 3) rfl) hg0 hg0) (show F 4 0 = (D 5 : Int) from hPF (0, 4, 0, 5) (List.mem_of_getElem? (i := 4) rfl) hg0 hg0) (show A 1 2 = (D 6 : Int) from hPF (1, 1, 2, 6) (List.mem_of_getElem? (i := 5) rfl) hg0 hg0) (show F 6 0 = (D 7 : Int) from hPF (0, 6, 0, 7) (List.mem_of_getElem? (i := 6) rfl) hg0 hg0) (show A 1 3 = (D 8 : Int) from hPF (1, 1, 3, 8) (List.mem_of_getElem? (i := 7) rfl) hg0 hg0) (show F 8 0 = (D 9 : Int) from hPF (0, 8, 0, 9) (List.mem_of_getElem? (i := 8) rfl) hg0 hg0) (show F 0 2 = (D 11 : Int) from hPF (0, 0, 2, 11) (List.mem_of_getElem? (i := 10) rfl) hg0 hg0) (show F 11 0 = (D 12 : Int) from hPF (0, 11, 0, 12) (List.mem_of_getElem? (i := 11) rfl) hg0 hg0) (N 1 : Int) rfl (N 3 : Int) rfl (N 5 : Int) rfl (N 7 : Int) rfl (N 9 : Int) rfl (N 12 : Int) rfl (F 2 1) rfl (F 4 1) rfl (F 6 1) rfl (F 8 1) rfl (F 11 1) rfl   (show inr (a1) by first | assumption | omega) (show ((N 1 : Int)) = 4 by first | assumption | omega) (show 0 ≤ (F 2 1) ∧ (F 2 1) ≤ ((N 3 : Int)) ∧ ((N 3 : Int)) ≤ 65536 by first | assumption | omega) (show 0 ≤ (F 4 1) ∧ (F 4 1) ≤ ((N 5 : Int)) ∧ ((N 5 : Int)) ≤ 65536 by first | assumption | omega) (show 0 ≤ (F 6 1) ∧ (F 6 1) ≤ ((N 7 : Int)) ∧ ((N 7 : Int)) ≤ 65536 by first | assumption | omega) (show 0 ≤ (F 8 1) ∧ (F 8 1) ≤ ((N 9 : Int)) ∧ ((N 9 : Int)) ≤ 65536 by first | assumption | omega) (show 0 ≤ (F 11 1) ∧ (F 11 1) ≤ ((N 12 : Int)) ∧ ((N 12 : Int)) ≤ 65536 by first | assumption | omega) (fun z σₚ Dₚ Nₚ Fₚ Aₚ cₚ sₚ Hₚ O sd sn sf sa pm11 m11 em11 y10_1 ey10_1 q0 q1 q2 q3 q4 q5 q6 => ?_)
  · skip
    subst em11 ey10_1
    refine k z _ (glu ι_history D Dₚ) (glu ι_history N Nₚ) (glu ι_history F Fₚ) (glu ι_history A Aₚ) _ _ ⟨HWs_call HX VPH_3 vs_history hp Hₚ O, STC_call HT HX vs_history hp O, hg0, PFI_glue (dl := [11]) hPF sf sa sd (by decide +kernel) (rexc_of (l := [(0, 11, 0, 12)]) (by decide +kernel) ?_), ABS_glue hAB sf (by decide +kernel), NZ_glue hNZ vs_history hp sn (by decide +kernel), hGI, ?_, ?_, ?_, ?_, ?_, ?_, ?_, ?_, ?_, ?_⟩ ⟨(STP0_call (STY_call vs_history hp O) (sd 0 rfl) (RM_call vs_history O)), unt1_of (x := 10) (by decide +kernel) (fun p hp => funext (sa p hp))⟩ (show z = 0 ∨ z = 1 by first | assumption | omega) (show z = 1 ∧ 0 ≤ a1 ∧ a1 ≤ 3 ∨ z = 0 ∧ (a1 < 0 ∨ 3 < a1) by first | assumption | omega)
    · intro e he h1 h2
      simp only [List.mem_cons, List.not_mem_nil, or_false] at he
      rcases he with rfl
      · exact pm11
    · skip
      exact ⟨QF0_0_eq (EQD_glue sf sa sd sn (by decide +kernel)) f0_0, QF0_1_eq (EQD_glue sf sa sd sn (by decide +kernel)) f0_1, QF0_2_eq (EQD_glue sf sa sd sn (by decide +kernel)) f0_2, QF0_3_eq (EQD_glue sf sa sd sn (by decide +kernel)) f0_3, show 0 ≤ (Fₚ 10 1) ∧ (Fₚ 10 1) ≤ ((Nₚ 11 : Int)) ∧ ((Nₚ 11 : Int)) ≤ 65536 from (by first | assumption | omega), QF0_5_eq (EQD_glue sf sa sd sn (by decide +kernel)) f0_5, QF0_6_eq (EQD_glue sf sa sd sn (by decide +kernel)) f0_6, QF0_7_eq (EQD_glue sf sa sd sn (by decide +kernel)) f0_7, QF0_8_eq (EQD_glue sf sa sd sn (by decide +kernel)) f0_8, QF0_9_eq (EQD_glue sf sa sd sn (by decide +kernel)) f0_9, QF0_10_eq (EQD_glue sf sa sd sn (by decide +kernel)) f0_10, QF0_11_eq (EQD_glue sf sa sd sn (by decide +kernel)) f0_11, QF0_12_eq (EQD_glue sf sa sd sn (by decide +kernel)) f0_12, QF0_13_eq (EQD_glue sf sa sd sn (by decide +kernel)) f0_13, QF0_14_eq (EQD_glue sf sa sd sn (by decide +kernel)) f0_14, QF0_15_eq (EQD_glue sf sa sd sn (by decide +kernel)) f0_15, QF0_16_eq (EQD_glue sf sa sd sn (by decide +kernel)) f0_16, QF0_17_eq (EQD_glue sf sa sd sn (by decide +kernel)) f0_17⟩
    · exact fun h => INV1_eq (EQD_glue sf sa sd sn (by decide +kernel)) (hI1 h)
    · exact fun h => INV2_eq (EQD_glue sf sa sd sn (by decide +kernel)) (hI2 h)
    · exact fun h => INV3_eq (EQD_glue sf sa sd sn (by decide +kernel)) (hI3 h)
    · exact fun h => INV4_eq (EQD_glue sf sa sd sn (by decide +kernel)) (hI4 h)
    · exact fun h => INV5_eq (EQD_glue sf sa sd sn (by decide +kernel)) (hI5 h)
    · exact fun h => INV6_eq (EQD_glue sf sa sd sn (by decide +kernel)) (hI6 h)
    · exact fun h => INV7_eq (EQD_glue sf sa sd sn (by decide +kernel)) (hI7 h)
    · exact fun h => INV8_eq (EQD_glue sf sa sd sn (by decide +kernel)) (hI8 h)
    · exact fun h => INV9_eq (EQD_glue sf sa sd sn (by decide +kernel)) (hI9 h)
def ι_get : List Nat := [0, 10]
theorem vs_get : VS VPH V10 ι_get := VS_of (by decide +kernel)
set_option maxRecDepth 20000 in
theorem T_get {g : Nat → Bool} {σ : rS} {D N : Nat → Nat} {F : hF} {A : hA} {d c s : Nat} {Q : wQ} (X : PHI g σ D N F A)  {a1 : Int}  (h0 : inr a1)  (k : ∀ (z : Int) (σₚ : rS) (Dₚ Nₚ : Nat → Nat) (Fₚ : hF) (Aₚ : hA) (cₚ sₚ : Nat), PHI g σₚ Dₚ Nₚ Fₚ Aₚ → STP g σ D N A c s g σₚ Dₚ Nₚ Aₚ cₚ sₚ → (inr z) → (0 ≤ a1 ∧ a1 ≤ 9 ∧ z = ((A 10)) (a1) ∨ (a1 < 0 ∨ 9 < a1) ∧ z = -1) → Q (some (I z)) σₚ cₚ sₚ) : Ew 10 (d + 1) 0 (rargs 0 [.ref (D 0), I a1]) [] σ c s Q := by
  obtain ⟨HX, HT, hg0, hPF, hAB, hNZ, hGI, hI0, hI1, hI2, hI3, hI4, hI5, hI6, hI7, hI8, hI9⟩ := X
  have hset := SETI_f hI0.2.2.2.2.2.2.2.2.2.2.2.2.2.2.2.2.2
  have hJ0 := hI0
  unfold INV0 at hJ0
  obtain ⟨f0_0, f0_1, f0_2, f0_3, f0_4, f0_5, f0_6, f0_7, f0_8, f0_9, f0_10, f0_11, f0_12, f0_13, f0_14, f0_15, f0_16, f0_17⟩ := hJ0
  have hp : ∀ x, x < (V10).length → SPH g (ι_get.getD x 0) = true := SPH_of (gs := [0]) (by intro j hj; simp at hj; subst hj; exact hg0) rfl (by decide +kernel)
  refine C10x (D := pul ι_get D) (N := pul ι_get N) (F := pul ι_get F) (A := pul ι_get A) (HWs_sub HX vs_get hp) (show F 0 1 = (D 10 : Int) from hPF (0, 0, 1, 10) (List.mem_of_getElem? (i := 9) rfl) hg0 hg0) (N 10 : Int) rfl  (A 10) rfl  (show inr (a1) by first | assumption | omega) (show ((N 10 : Int)) = 10 by first | assumption | omega) (fun z σₚ Fₚ Aₚ Hₚ O sf sa q0 q1 => ?_)
  · skip
    have sd : SD [] (pul ι_get D) (pul ι_get D) := SD_refl
    have sn : SD [] (pul ι_get N) (pul ι_get N) := SD_refl
    have : Aₚ 1 = A 10 := funext (sa 1 rfl)
    refine k z _ (glu ι_get D (pul ι_get D)) (glu ι_get N (pul ι_get N)) (glu ι_get F Fₚ) (glu ι_get A Aₚ) _ _ ⟨HWs_call HX VPH_3 vs_get hp Hₚ O, STC_call HT HX vs_get hp O, hg0, PFI_glue (dl := []) hPF sf sa sd (by decide +kernel) (rexc_of (l := []) (by decide +kernel) ?_), ABS_glue hAB sf (by decide +kernel), NZ_glue hNZ vs_get hp sn (by decide +kernel), hGI, ?_, ?_, ?_, ?_, ?_, ?_, ?_, ?_, ?_, ?_⟩ ⟨(STP0_call (STY_call vs_get hp O) (sd 0 rfl) (RM_call vs_get O)), unt1_of (x := 10) (by decide +kernel) (fun p hp => funext (sa p hp))⟩ (show inr z by first | assumption | omega) (show 0 ≤ a1 ∧ a1 ≤ 9 ∧ z = ((A 10)) (a1) ∨ (a1 < 0 ∨ 9 < a1) ∧ z = -1 by first | assumption | omega)
    · intro e he h1 h2
      cases he
    · exact INV0_eq (EQD_glue sf sa sd sn (by decide +kernel)) hI0
    · exact fun h => INV1_eq (EQD_glue sf sa sd sn (by decide +kernel)) (hI1 h)
    · exact fun h => INV2_eq (EQD_glue sf sa sd sn (by decide +kernel)) (hI2 h)
    · exact fun h => INV3_eq (EQD_glue sf sa sd sn (by decide +kernel)) (hI3 h)
    · exact fun h => INV4_eq (EQD_glue sf sa sd sn (by decide +kernel)) (hI4 h)
    · exact fun h => INV5_eq (EQD_glue sf sa sd sn (by decide +kernel)) (hI5 h)
    · exact fun h => INV6_eq (EQD_glue sf sa sd sn (by decide +kernel)) (hI6 h)
    · exact fun h => INV7_eq (EQD_glue sf sa sd sn (by decide +kernel)) (hI7 h)
    · exact fun h => INV8_eq (EQD_glue sf sa sd sn (by decide +kernel)) (hI8 h)
    · exact fun h => INV9_eq (EQD_glue sf sa sd sn (by decide +kernel)) (hI9 h)
def ι_set : List Nat := [0, 10]
theorem vs_set : VS VPH V9 ι_set := VS_of (by decide +kernel)
set_option maxRecDepth 20000 in
theorem T_set {g : Nat → Bool} {σ : rS} {D N : Nat → Nat} {F : hF} {A : hA} {d c s : Nat} {Q : wQ} (X : PHI g σ D N F A)  {a1 a2 : Int}  (h0 : inr a1) (h1 : inr a2)  (k : ∀ (z : Int) (σₚ : rS) (Dₚ Nₚ : Nat → Nat) (Fₚ : hF) (Aₚ : hA) (cₚ sₚ : Nat), PHI g σₚ Dₚ Nₚ Fₚ Aₚ → STP0 g σ D N c s g σₚ Dₚ Nₚ cₚ sₚ → (z = 0 ∨ z = 1) → (a1 = 3 ∧ (z = 1 ∧ andI (a2) (-62) = 64 ∨ z = 0 ∧ andI (a2) (-62) ≠ 64) ∨ (a1 < 0 ∨ 9 < a1) ∧ z = 0 ∨ 0 ≤ a1 ∧ a1 ≤ 9 ∧ a1 ≠ 3 ∧ (z = 1 ∧ mlo (a1) ≤ a2 ∧ a2 ≤ mhi (a1) ∨ z = 0 ∧ (a2 < mlo (a1) ∨ mhi (a1) < a2))) → (UPD (z) ((A 10)) ((Aₚ 10)) (a1) (a2)) → Q (some (I z)) σₚ cₚ sₚ) : Ew 9 (d + 2) 0 (rargs 0 [.ref (D 0), I a1, I a2]) [] σ c s Q := by
  obtain ⟨HX, HT, hg0, hPF, hAB, hNZ, hGI, hI0, hI1, hI2, hI3, hI4, hI5, hI6, hI7, hI8, hI9⟩ := X
  have hset := SETI_f hI0.2.2.2.2.2.2.2.2.2.2.2.2.2.2.2.2.2
  have hJ0 := hI0
  unfold INV0 at hJ0
  obtain ⟨f0_0, f0_1, f0_2, f0_3, f0_4, f0_5, f0_6, f0_7, f0_8, f0_9, f0_10, f0_11, f0_12, f0_13, f0_14, f0_15, f0_16, f0_17⟩ := hJ0
  have hp : ∀ x, x < (V9).length → SPH g (ι_set.getD x 0) = true := SPH_of (gs := [0]) (by intro j hj; simp at hj; subst hj; exact hg0) rfl (by decide +kernel)
  refine C9x (D := pul ι_set D) (N := pul ι_set N) (F := pul ι_set F) (A := pul ι_set A) (HWs_sub HX vs_set hp) (show F 0 1 = (D 10 : Int) from hPF (0, 0, 1, 10) (List.mem_of_getElem? (i := 9) rfl) hg0 hg0) (N 10 : Int) rfl  (A 10) rfl  (show inr (a1) by first | assumption | omega) (show inr (a2) by first | assumption | omega) (show SETI ((A 10)) by assumption) (show ((N 10 : Int)) = 10 by first | assumption | omega) (fun z σₚ Fₚ Aₚ Hₚ O sf sa v1 ev1 q0 q1 q2 q3 => ?_)
  · skip
    subst ev1
    have sd : SD [] (pul ι_set D) (pul ι_set D) := SD_refl
    have sn : SD [] (pul ι_set N) (pul ι_set N) := SD_refl
    refine k z _ (glu ι_set D (pul ι_set D)) (glu ι_set N (pul ι_set N)) (glu ι_set F Fₚ) (glu ι_set A Aₚ) _ _ ⟨HWs_call HX VPH_3 vs_set hp Hₚ O, STC_call HT HX vs_set hp O, hg0, PFI_glue (dl := []) hPF sf sa sd (by decide +kernel) (rexc_of (l := []) (by decide +kernel) ?_), ABS_glue hAB sf (by decide +kernel), NZ_glue hNZ vs_set hp sn (by decide +kernel), hGI, ?_, ?_, ?_, ?_, ?_, ?_, ?_, ?_, ?_, ?_⟩ (STP0_call (STY_call vs_set hp O) (sd 0 rfl) (RM_call vs_set O)) (show z = 0 ∨ z = 1 by first | assumption | omega) (show a1 = 3 ∧ (z = 1 ∧ andI (a2) (-62) = 64 ∨ z = 0 ∧ andI (a2) (-62) ≠ 64) ∨ (a1 < 0 ∨ 9 < a1) ∧ z = 0 ∨ 0 ≤ a1 ∧ a1 ≤ 9 ∧ a1 ≠ 3 ∧ (z = 1 ∧ mlo (a1) ≤ a2 ∧ a2 ≤ mhi (a1) ∨ z = 0 ∧ (a2 < mlo (a1) ∨ mhi (a1) < a2)) by first | assumption | omega) (show UPD (z) ((A 10)) ((Aₚ 1)) (a1) (a2) by first | assumption | omega)
    · intro e he h1 h2
      cases he
    · skip
      exact ⟨QF0_0_eq (EQD_glue sf sa sd sn (by decide +kernel)) f0_0, QF0_1_eq (EQD_glue sf sa sd sn (by decide +kernel)) f0_1, QF0_2_eq (EQD_glue sf sa sd sn (by decide +kernel)) f0_2, QF0_3_eq (EQD_glue sf sa sd sn (by decide +kernel)) f0_3, QF0_4_eq (EQD_glue sf sa sd sn (by decide +kernel)) f0_4, QF0_5_eq (EQD_glue sf sa sd sn (by decide +kernel)) f0_5, QF0_6_eq (EQD_glue sf sa sd sn (by decide +kernel)) f0_6, QF0_7_eq (EQD_glue sf sa sd sn (by decide +kernel)) f0_7, QF0_8_eq (EQD_glue sf sa sd sn (by decide +kernel)) f0_8, QF0_9_eq (EQD_glue sf sa sd sn (by decide +kernel)) f0_9, QF0_10_eq (EQD_glue sf sa sd sn (by decide +kernel)) f0_10, QF0_11_eq (EQD_glue sf sa sd sn (by decide +kernel)) f0_11, QF0_12_eq (EQD_glue sf sa sd sn (by decide +kernel)) f0_12, QF0_13_eq (EQD_glue sf sa sd sn (by decide +kernel)) f0_13, QF0_14_eq (EQD_glue sf sa sd sn (by decide +kernel)) f0_14, QF0_15_eq (EQD_glue sf sa sd sn (by decide +kernel)) f0_15, QF0_16_eq (EQD_glue sf sa sd sn (by decide +kernel)) f0_16, show SETI ((Aₚ 1)) from (by first | assumption | (simp only [*]; done))⟩
    · exact fun h => INV1_eq (EQD_glue sf sa sd sn (by decide +kernel)) (hI1 h)
    · exact fun h => INV2_eq (EQD_glue sf sa sd sn (by decide +kernel)) (hI2 h)
    · exact fun h => INV3_eq (EQD_glue sf sa sd sn (by decide +kernel)) (hI3 h)
    · exact fun h => INV4_eq (EQD_glue sf sa sd sn (by decide +kernel)) (hI4 h)
    · exact fun h => INV5_eq (EQD_glue sf sa sd sn (by decide +kernel)) (hI5 h)
    · exact fun h => INV6_eq (EQD_glue sf sa sd sn (by decide +kernel)) (hI6 h)
    · exact fun h => INV7_eq (EQD_glue sf sa sd sn (by decide +kernel)) (hI7 h)
    · exact fun h => INV8_eq (EQD_glue sf sa sd sn (by decide +kernel)) (hI8 h)
    · exact fun h => INV9_eq (EQD_glue sf sa sd sn (by decide +kernel)) (hI9 h)
def ι_bound : List Nat := [0, 10]
theorem vs_bound : VS VPH V21 ι_bound := VS_of (by decide +kernel)
set_option maxRecDepth 20000 in
theorem T_bound {g : Nat → Bool} {σ : rS} {D N : Nat → Nat} {F : hF} {A : hA} {d c s : Nat} {Q : wQ} (X : PHI g σ D N F A)  {a1 a2 : Int}  (h0 : inr a1) (h1 : inr a2)  (k : ∀ (z : Int) (σₚ : rS) (Dₚ Nₚ : Nat → Nat) (Fₚ : hF) (Aₚ : hA) (cₚ sₚ : Nat), PHI g σₚ Dₚ Nₚ Fₚ Aₚ → STP g σ D N A c s g σₚ Dₚ Nₚ Aₚ cₚ sₚ → (inr z) → (z = BNA ((A 10)) (a1) (a2)) → Q (some (I z)) σₚ cₚ sₚ) : Ew 21 (d + 3) 0 (rargs 0 [.ref (D 0), I a1, I a2]) [] σ c s Q := by
  obtain ⟨HX, HT, hg0, hPF, hAB, hNZ, hGI, hI0, hI1, hI2, hI3, hI4, hI5, hI6, hI7, hI8, hI9⟩ := X
  have hset := SETI_f hI0.2.2.2.2.2.2.2.2.2.2.2.2.2.2.2.2.2
  have hJ0 := hI0
  unfold INV0 at hJ0
  obtain ⟨f0_0, f0_1, f0_2, f0_3, f0_4, f0_5, f0_6, f0_7, f0_8, f0_9, f0_10, f0_11, f0_12, f0_13, f0_14, f0_15, f0_16, f0_17⟩ := hJ0
  have hp : ∀ x, x < (V21).length → SPH g (ι_bound.getD x 0) = true := SPH_of (gs := [0]) (by intro j hj; simp at hj; subst hj; exact hg0) rfl (by decide +kernel)
  refine C21x (D := pul ι_bound D) (N := pul ι_bound N) (F := pul ι_bound F) (A := pul ι_bound A) (HWs_sub HX vs_bound hp) (show F 0 1 = (D 10 : Int) from hPF (0, 0, 1, 10) (List.mem_of_getElem? (i := 9) rfl) hg0 hg0) (N 10 : Int) rfl  (A 10) rfl  (show inr (a1) by first | assumption | omega) (show inr (a2) by first | assumption | omega) (show 1 ≤ ((A 10)) 2 ∧ ((A 10)) 2 ≤ 65536 by first | assumption | omega) (show 0 ≤ ((A 10)) 8 ∧ ((A 10)) 8 ≤ 11 by first | assumption | omega) (show 0 ≤ ((A 10)) 6 ∧ ((A 10)) 6 ≤ 255 by first | assumption | omega) (show ((N 10 : Int)) = 10 by first | assumption | omega) (fun z σₚ Fₚ Aₚ Hₚ O sf sa q0 q1 => ?_)
  · skip
    have sd : SD [] (pul ι_bound D) (pul ι_bound D) := SD_refl
    have sn : SD [] (pul ι_bound N) (pul ι_bound N) := SD_refl
    have : Aₚ 1 = A 10 := funext (sa 1 rfl)
    refine k z _ (glu ι_bound D (pul ι_bound D)) (glu ι_bound N (pul ι_bound N)) (glu ι_bound F Fₚ) (glu ι_bound A Aₚ) _ _ ⟨HWs_call HX VPH_3 vs_bound hp Hₚ O, STC_call HT HX vs_bound hp O, hg0, PFI_glue (dl := []) hPF sf sa sd (by decide +kernel) (rexc_of (l := []) (by decide +kernel) ?_), ABS_glue hAB sf (by decide +kernel), NZ_glue hNZ vs_bound hp sn (by decide +kernel), hGI, ?_, ?_, ?_, ?_, ?_, ?_, ?_, ?_, ?_, ?_⟩ ⟨(STP0_call (STY_call vs_bound hp O) (sd 0 rfl) (RM_call vs_bound O)), unt1_of (x := 10) (by decide +kernel) (fun p hp => funext (sa p hp))⟩ (show inr z by first | assumption | omega) (show z = BNA ((A 10)) (a1) (a2) by first | assumption | omega)
    · intro e he h1 h2
      cases he
    · exact INV0_eq (EQD_glue sf sa sd sn (by decide +kernel)) hI0
    · exact fun h => INV1_eq (EQD_glue sf sa sd sn (by decide +kernel)) (hI1 h)
    · exact fun h => INV2_eq (EQD_glue sf sa sd sn (by decide +kernel)) (hI2 h)
    · exact fun h => INV3_eq (EQD_glue sf sa sd sn (by decide +kernel)) (hI3 h)
    · exact fun h => INV4_eq (EQD_glue sf sa sd sn (by decide +kernel)) (hI4 h)
    · exact fun h => INV5_eq (EQD_glue sf sa sd sn (by decide +kernel)) (hI5 h)
    · exact fun h => INV6_eq (EQD_glue sf sa sd sn (by decide +kernel)) (hI6 h)
    · exact fun h => INV7_eq (EQD_glue sf sa sd sn (by decide +kernel)) (hI7 h)
    · exact fun h => INV8_eq (EQD_glue sf sa sd sn (by decide +kernel)) (hI8 h)
    · exact fun h => INV9_eq (EQD_glue sf sa sd sn (by decide +kernel)) (hI9 h)
def ι_forget : List Nat := [0, 13, 16, 17, 18, 11, 14]
theorem vs_forget : VS VPH V16 ι_forget := VS_of (by decide +kernel)
set_option maxRecDepth 20000 in
theorem T_forget {g : Nat → Bool} {σ : rS} {D N : Nat → Nat} {F : hF} {A : hA} {d c s : Nat} {Q : wQ} (X : PHI g σ D N F A)  {a1 : Int}  (h0 : inr a1)  (k : ∀ (z : Int) (σₚ : rS) (Dₚ Nₚ : Nat → Nat) (Fₚ : hF) (Aₚ : hA) (cₚ sₚ : Nat), PHI g σₚ Dₚ Nₚ Fₚ Aₚ → STP g σ D N A c s g σₚ Dₚ Nₚ Aₚ cₚ sₚ → (z = 0 ∨ z = 1) → (z = 1 ∧ (a1 = 0 ∨ a1 = 1) ∨ z = 0 ∧ a1 ≠ 0 ∧ a1 ≠ 1) → Q (some (I z)) σₚ cₚ sₚ) : Ew 16 (d + 2) 0 (rargs 0 [.ref (D 0), I a1]) [] σ c s Q := by
  obtain ⟨HX, HT, hg0, hPF, hAB, hNZ, hGI, hI0, hI1, hI2, hI3, hI4, hI5, hI6, hI7, hI8, hI9⟩ := X
  have hset := SETI_f hI0.2.2.2.2.2.2.2.2.2.2.2.2.2.2.2.2.2
  have hJ0 := hI0
  unfold INV0 at hJ0
  obtain ⟨f0_0, f0_1, f0_2, f0_3, f0_4, f0_5, f0_6, f0_7, f0_8, f0_9, f0_10, f0_11, f0_12, f0_13, f0_14, f0_15, f0_16, f0_17⟩ := hJ0
  have hp : ∀ x, x < (V16).length → SPH g (ι_forget.getD x 0) = true := SPH_of (gs := [0]) (by intro j hj; simp at hj; subst hj; exact hg0) rfl (by decide +kernel)
  refine C16x (D := pul ι_forget D) (N := pul ι_forget N) (F := pul ι_forget F) (A := pul ι_forget A) (HWs_sub HX vs_forget hp) (show F 0 3 = (D 13 : Int) from hPF (0, 0, 3, 13) (List.mem_of_getElem? (i := 12) rfl) hg0 hg0) (show F 13 1 = (D 16 : Int) from hPF (0, 13, 1, 16) (List.mem_of_getElem? (i := 15) rfl) hg0 hg0) (show F 16 1 = (D 17 : Int) from hPF (0, 16, 1, 17) (List.mem_of_getElem? (i := 16) rfl) hg0 hg0) (show F 16 2 = (D 18 : Int) from hPF (0, 16, 2, 18) (List.mem_of_getElem? (i := 17) rfl) hg0 hg0) (show F 0 2 = (D 11 : Int) from hPF (0, 0, 2, 11) (List.mem_of_getElem? (i := 10) rfl) hg0 hg0) (show F 13 0 = (D 14 : Int) from hPF (0, 13, 0, 14) (List.mem_of_getElem? (i := 13) rfl) hg0 hg0) (N 17 : Int) rfl (N 18 : Int) rfl (F 16 0) rfl (F 11 1) rfl (F 14 1) rfl (A 17) rfl  (show inr (a1) by first | assumption | omega) (show ((N 17 : Int)) = 3 ∧ ((N 18 : Int)) = 3 by first | assumption | omega) (show 0 ≤ (F 11 1) by first | assumption | omega) (show 0 ≤ (F 14 1) by first | assumption | omega) (fun z σₚ Fₚ Aₚ Hₚ O sf sa y2_0 ey2_0 y5_1 ey5_1 y6_1 ey6_1 v3 ev3 q0 q1 q2 q3 q4 => ?_)
  · skip
    subst ey2_0 ey5_1 ey6_1 ev3
    have sd : SD [] (pul ι_forget D) (pul ι_forget D) := SD_refl
    have sn : SD [] (pul ι_forget N) (pul ι_forget N) := SD_refl
    refine k z _ (glu ι_forget D (pul ι_forget D)) (glu ι_forget N (pul ι_forget N)) (glu ι_forget F Fₚ) (glu ι_forget A Aₚ) _ _ ⟨HWs_call HX VPH_3 vs_forget hp Hₚ O, STC_call HT HX vs_forget hp O, hg0, PFI_glue (dl := []) hPF sf sa sd (by decide +kernel) (rexc_of (l := []) (by decide +kernel) ?_), ABS_glue hAB sf (by decide +kernel), NZ_glue hNZ vs_forget hp sn (by decide +kernel), hGI, ?_, ?_, ?_, ?_, ?_, ?_, ?_, ?_, ?_, ?_⟩ ⟨(STP0_call (STY_call vs_forget hp O) (sd 0 rfl) (RM_call vs_forget O)), unt1_of (x := 10) (by decide +kernel) (fun p hp => funext (sa p hp))⟩ (show z = 0 ∨ z = 1 by first | assumption | omega) (show z = 1 ∧ (a1 = 0 ∨ a1 = 1) ∨ z = 0 ∧ a1 ≠ 0 ∧ a1 ≠ 1 by first | assumption | omega)
    · intro e he h1 h2
      cases he
    · skip
      exact ⟨QF0_0_eq (EQD_glue sf sa sd sn (by decide +kernel)) f0_0, QF0_1_eq (EQD_glue sf sa sd sn (by decide +kernel)) f0_1, QF0_2_eq (EQD_glue sf sa sd sn (by decide +kernel)) f0_2, QF0_3_eq (EQD_glue sf sa sd sn (by decide +kernel)) f0_3, show 0 ≤ (Fₚ 5 1) ∧ (Fₚ 5 1) ≤ ((N 12 : Int)) ∧ ((N 12 : Int)) ≤ 65536 from (by first | assumption | omega), QF0_5_eq (EQD_glue sf sa sd sn (by decide +kernel)) f0_5, QF0_6_eq (EQD_glue sf sa sd sn (by decide +kernel)) f0_6, show 0 ≤ (Fₚ 6 1) ∧ (Fₚ 6 1) ≤ ((N 15 : Int)) ∧ ((N 15 : Int)) ≤ 65536 from (by first | assumption | omega), QF0_8_eq (EQD_glue sf sa sd sn (by decide +kernel)) f0_8, QF0_9_eq (EQD_glue sf sa sd sn (by decide +kernel)) f0_9, QF0_10_eq (EQD_glue sf sa sd sn (by decide +kernel)) f0_10, QF0_11_eq (EQD_glue sf sa sd sn (by decide +kernel)) f0_11, QF0_12_eq (EQD_glue sf sa sd sn (by decide +kernel)) f0_12, QF0_13_eq (EQD_glue sf sa sd sn (by decide +kernel)) f0_13, QF0_14_eq (EQD_glue sf sa sd sn (by decide +kernel)) f0_14, QF0_15_eq (EQD_glue sf sa sd sn (by decide +kernel)) f0_15, QF0_16_eq (EQD_glue sf sa sd sn (by decide +kernel)) f0_16, QF0_17_eq (EQD_glue sf sa sd sn (by decide +kernel)) f0_17⟩
    · exact fun h => INV1_eq (EQD_glue sf sa sd sn (by decide +kernel)) (hI1 h)
    · exact fun h => INV2_eq (EQD_glue sf sa sd sn (by decide +kernel)) (hI2 h)
    · exact fun h => INV3_eq (EQD_glue sf sa sd sn (by decide +kernel)) (hI3 h)
    · exact fun h => INV4_eq (EQD_glue sf sa sd sn (by decide +kernel)) (hI4 h)
    · exact fun h => INV5_eq (EQD_glue sf sa sd sn (by decide +kernel)) (hI5 h)
    · exact fun h => INV6_eq (EQD_glue sf sa sd sn (by decide +kernel)) (hI6 h)
    · intro hq
      have hJ7 := hI7 hq
      unfold INV7 at hJ7
      obtain ⟨f7_0, f7_1, f7_2, f7_3, f7_4, f7_5, f7_6, f7_7, f7_8, f7_9, f7_10, f7_11, f7_12, f7_13, f7_14, f7_15, f7_16, f7_17⟩ := hJ7
      exact ⟨QF7_0_eq (EQD_glue sf sa sd sn (by decide +kernel)) f7_0, QF7_1_eq (EQD_glue sf sa sd sn (by decide +kernel)) f7_1, QF7_2_eq (EQD_glue sf sa sd sn (by decide +kernel)) f7_2, QF7_3_eq (EQD_glue sf sa sd sn (by decide +kernel)) f7_3, QF7_4_eq (EQD_glue sf sa sd sn (by decide +kernel)) f7_4, QF7_5_eq (EQD_glue sf sa sd sn (by decide +kernel)) f7_5, QF7_6_eq (EQD_glue sf sa sd sn (by decide +kernel)) f7_6, show HID ((Fₚ 2 0) = -1 ∨ (Fₚ 2 0) = (((D 259 : Nat) : Int)) ∧ 0 ≤ (F 259 3) ∧ (F 259 3) ≤ 11) from (by rcases q3 with ⟨e0, e1, e2, e3⟩ | ⟨e0, e1, e2, e3⟩ <;> first | (simp only [e0, e1, e2, e3]; exact f7_7) | exact Or.inl e0 | exact Or.inl e1 | exact Or.inl e2 | exact Or.inl e3), show HID ((Fₚ 2 0) = -1 ∨ LNG ((A 260)) ((F 259 3))) from (by rcases q3 with ⟨e0, e1, e2, e3⟩ | ⟨e0, e1, e2, e3⟩ <;> first | (simp only [e0, e1, e2, e3]; exact f7_8) | exact Or.inl e0 | exact Or.inl e1 | exact Or.inl e2 | exact Or.inl e3), show HID (((Aₚ 3)) 0 = -1 ∨ ((Aₚ 3)) 0 = (((D 283 : Nat) : Int))) from (by rcases q3 with ⟨e0, e1, e2, e3⟩ | ⟨e0, e1, e2, e3⟩ <;> first | (simp only [e0, e1, e2, e3]; exact f7_9) | exact Or.inl e0 | exact Or.inl e1 | exact Or.inl e2 | exact Or.inl e3), show HID (((Aₚ 3)) 1 = -1 ∨ ((Aₚ 3)) 1 = (((D 292 : Nat) : Int))) from (by rcases q3 with ⟨e0, e1, e2, e3⟩ | ⟨e0, e1, e2, e3⟩ <;> first | (simp only [e0, e1, e2, e3]; exact f7_10) | exact Or.inl e0 | exact Or.inl e1 | exact Or.inl e2 | exact Or.inl e3), show HID (((Aₚ 3)) 2 = -1 ∨ ((Aₚ 3)) 2 = (((D 301 : Nat) : Int))) from (by rcases q3 with ⟨e0, e1, e2, e3⟩ | ⟨e0, e1, e2, e3⟩ <;> first | (simp only [e0, e1, e2, e3]; exact f7_11) | exact Or.inl e0 | exact Or.inl e1 | exact Or.inl e2 | exact Or.inl e3), show HID (((Aₚ 3)) 0 = -1 ∨ SL ((A 284)) ((F 283 1)) ((F 283 0)) ((A 285)) ((A 286)) ((A 287)) ((A 289)) ((A 290)) ((A 291))) from (by rcases q3 with ⟨e0, e1, e2, e3⟩ | ⟨e0, e1, e2, e3⟩ <;> first | (simp only [e0, e1, e2, e3]; exact f7_12) | exact Or.inl e0 | exact Or.inl e1 | exact Or.inl e2 | exact Or.inl e3), show HID (((Aₚ 3)) 1 = -1 ∨ SL ((A 293)) ((F 292 1)) ((F 292 0)) ((A 294)) ((A 295)) ((A 296)) ((A 298)) ((A 299)) ((A 300))) from (by rcases q3 with ⟨e0, e1, e2, e3⟩ | ⟨e0, e1, e2, e3⟩ <;> first | (simp only [e0, e1, e2, e3]; exact f7_13) | exact Or.inl e0 | exact Or.inl e1 | exact Or.inl e2 | exact Or.inl e3), show HID (((Aₚ 3)) 2 = -1 ∨ SL ((A 302)) ((F 301 1)) ((F 301 0)) ((A 303)) ((A 304)) ((A 305)) ((A 307)) ((A 308)) ((A 309))) from (by rcases q3 with ⟨e0, e1, e2, e3⟩ | ⟨e0, e1, e2, e3⟩ <;> first | (simp only [e0, e1, e2, e3]; exact f7_14) | exact Or.inl e0 | exact Or.inl e1 | exact Or.inl e2 | exact Or.inl e3), show HID (((Aₚ 3)) 0 = -1 ∨ (F 283 0) ≤ 9) from (by rcases q3 with ⟨e0, e1, e2, e3⟩ | ⟨e0, e1, e2, e3⟩ <;> first | (simp only [e0, e1, e2, e3]; exact f7_15) | exact Or.inl e0 | exact Or.inl e1 | exact Or.inl e2 | exact Or.inl e3), show HID (((Aₚ 3)) 1 = -1 ∨ (F 292 0) ≤ 8) from (by rcases q3 with ⟨e0, e1, e2, e3⟩ | ⟨e0, e1, e2, e3⟩ <;> first | (simp only [e0, e1, e2, e3]; exact f7_16) | exact Or.inl e0 | exact Or.inl e1 | exact Or.inl e2 | exact Or.inl e3), show HID (((Aₚ 3)) 2 = -1 ∨ (F 301 0) ≤ 9) from (by rcases q3 with ⟨e0, e1, e2, e3⟩ | ⟨e0, e1, e2, e3⟩ <;> first | (simp only [e0, e1, e2, e3]; exact f7_17) | exact Or.inl e0 | exact Or.inl e1 | exact Or.inl e2 | exact Or.inl e3)⟩
    · exact fun h => INV8_eq (EQD_glue sf sa sd sn (by decide +kernel)) (hI8 h)
    · intro hq
      have hJ9 := hI9 hq
      unfold INV9 at hJ9
      obtain ⟨f9_0, f9_1, f9_2, f9_3⟩ := hJ9
      exact ⟨show (Fₚ 2 0) = -1 from (by first | assumption | omega), show ((Aₚ 3)) 0 = -1 from (by first | assumption | omega), show ((Aₚ 3)) 1 = -1 from (by first | assumption | omega), show ((Aₚ 3)) 2 = -1 from (by first | assumption | omega)⟩
