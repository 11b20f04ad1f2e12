section
/-! T2c.pub -/
def ι_feed : List Nat := [0, 1, 2, 3, 4, 5, 6, 7, 8, 9]
theorem vs_feed : VS VPH V1 ι_feed := VS_of (by decide +kernel)
set_option maxRecDepth 20000 in
theorem T_feed {Dc : DcS} {g : Nat → Bool} {σ : rS} {D N : Nat → Nat} {F : hF} {A : hA} {d c s : Nat} {Q : wQ} (X : PHI Dc g σ D N F A)  {a1 a2 a3 a4 a5 : Int}  (h0 : inr a1) (h1 : inr a2) (h2 : inr a3) (h3 : inr a4) (h4 : inr a5)  (k : ∀ (z : Int) (σₚ : rS) (Dₚ Nₚ : Nat → Nat) (Fₚ : hF) (Aₚ : hA) (cₚ sₚ : Nat), PHI Dc g σₚ Dₚ Nₚ Fₚ Aₚ → STP g σ D N A c s g σₚ Dₚ Nₚ Aₚ cₚ sₚ → EQD [(11, 1), (0, 18), (25, 1)] [12, 10, 29, 30, 32, 26] [] [] D N F A Dₚ Nₚ Fₚ Aₚ → (z = 0 ∨ z = 1) → (0 ≤ a1 ∧ a1 ≤ 3 ∨ z = 0) → (IMP (a1 = 0) (CHQ (((sc ((A 3)) 0 ((F 2 1))).length : Int) + 16 ≤ 65536) (sc ((A 3)) 0 ((F 2 1))) (sc ((A 3)) 0 ((F 2 1)) ++ fdL (a2) (a3) (a4) (a5) 16) (z) (sc ((Aₚ 3)) 0 ((Fₚ 2 1))))) → (IMP (a1 = 1) (CHQ (((sc ((A 5)) 0 ((F 4 1))).length : Int) + 16 ≤ 65536) (sc ((A 5)) 0 ((F 4 1))) (sc ((A 5)) 0 ((F 4 1)) ++ fdL (a2) (a3) (a4) (a5) 16) (z) (sc ((Aₚ 5)) 0 ((Fₚ 4 1))))) → (IMP (a1 = 2) (CHQ (((sc ((A 7)) 0 ((F 6 1))).length : Int) + 16 ≤ 65536) (sc ((A 7)) 0 ((F 6 1))) (sc ((A 7)) 0 ((F 6 1)) ++ fdL (a2) (a3) (a4) (a5) 16) (z) (sc ((Aₚ 7)) 0 ((Fₚ 6 1))))) → (IMP (a1 = 3) (CHQ (((sc ((A 9)) 0 ((F 8 1))).length : Int) + 16 ≤ 65536) (sc ((A 9)) 0 ((F 8 1))) (sc ((A 9)) 0 ((F 8 1)) ++ fdL (a2) (a3) (a4) (a5) 16) (z) (sc ((Aₚ 9)) 0 ((Fₚ 8 1))))) → (IMP (a1 ≠ 0) (sc ((Aₚ 3)) 0 ((Fₚ 2 1)) = sc ((A 3)) 0 ((F 2 1)))) → (IMP (a1 ≠ 1) (sc ((Aₚ 5)) 0 ((Fₚ 4 1)) = sc ((A 5)) 0 ((F 4 1)))) → (IMP (a1 ≠ 2) (sc ((Aₚ 7)) 0 ((Fₚ 6 1)) = sc ((A 7)) 0 ((F 6 1)))) → (IMP (a1 ≠ 3) (sc ((Aₚ 9)) 0 ((Fₚ 8 1)) = sc ((A 9)) 0 ((F 8 1)))) → Q (some (I z)) σₚ cₚ sₚ) : Ew 1 (d + 4) 0 (rargs 0 [.ref (D 0), I a1, I a2, I a3, I a4, I a5]) [] σ c s Q := by
  obtain ⟨HX, HT, hg0, hPF, hAB, hNZ, hGI, hI0, hI1, hI2, hI3, hI4, hI5, hI6, hI7, hI8, hI9⟩ := X
  have hset := SETI_f hI0.2.2.2.2.2.2.2.2.2.2.2.2.2.2.2.2.2.2.2.2.2.2.2.2
  have hJ0 := hI0
  unfold INV0 at hJ0
  obtain ⟨f0_0, f0_1, f0_2, f0_3, f0_4, f0_5, f0_6, f0_7, f0_8, f0_9, f0_10, f0_11, f0_12, f0_13, f0_14, f0_15, f0_16, f0_17, f0_18, f0_19, f0_20, f0_21, f0_22, f0_23, f0_24⟩ := hJ0
  have hp : ∀ x, x < (V1).length → SPH g (ι_feed.getD x 0) = true := SPH_of (gs := [0]) (by intro j hj; simp at hj; subst hj; exact hg0) rfl (by decide +kernel)
  refine C1p (D := pul ι_feed D) (N := pul ι_feed N) (F := pul ι_feed F) (A := pul ι_feed A) (HWs_sub HX vs_feed hp) (show F 0 0 = (D 1 : Int) from hPF (0, 0, 0, 1) (List.mem_of_getElem? (i := 0) rfl) hg0 hg0) (show A 1 0 = (D 2 : Int) from hPF (1, 1, 0, 2) (List.mem_of_getElem? (i := 1) rfl) hg0 hg0) (show F 2 0 = (D 3 : Int) from hPF (0, 2, 0, 3) (List.mem_of_getElem? (i := 2) rfl) hg0 hg0) (show A 1 1 = (D 4 : Int) from hPF (1, 1, 1, 4) (List.mem_of_getElem? (i := 3) rfl) hg0 hg0) (show F 4 0 = (D 5 : Int) from hPF (0, 4, 0, 5) (List.mem_of_getElem? (i := 4) rfl) hg0 hg0) (show A 1 2 = (D 6 : Int) from hPF (1, 1, 2, 6) (List.mem_of_getElem? (i := 5) rfl) hg0 hg0) (show F 6 0 = (D 7 : Int) from hPF (0, 6, 0, 7) (List.mem_of_getElem? (i := 6) rfl) hg0 hg0) (show A 1 3 = (D 8 : Int) from hPF (1, 1, 3, 8) (List.mem_of_getElem? (i := 7) rfl) hg0 hg0) (show F 8 0 = (D 9 : Int) from hPF (0, 8, 0, 9) (List.mem_of_getElem? (i := 8) rfl) hg0 hg0) (N 1 : Int) rfl (N 3 : Int) rfl (N 5 : Int) rfl (N 7 : Int) rfl (N 9 : Int) rfl (F 2 1) rfl (F 2 2) rfl (F 4 1) rfl (F 4 2) rfl (F 6 1) rfl (F 6 2) rfl (F 8 1) rfl (F 8 2) rfl (A 3) rfl (A 5) rfl (A 7) rfl (A 9) rfl   (show inr (a1) by first | assumption | omega) (show inr (a2) by first | assumption | omega) (show inr (a3) by first | assumption | omega) (show inr (a4) by first | assumption | omega) (show inr (a5) by first | assumption | omega) (show ((N 1 : Int)) = 4 from f0_9) (show 0 ≤ (F 2 1) ∧ (F 2 1) ≤ ((N 3 : Int)) ∧ ((N 3 : Int)) ≤ 65536 from f0_0) (show 0 ≤ (F 4 1) ∧ (F 4 1) ≤ ((N 5 : Int)) ∧ ((N 5 : Int)) ≤ 65536 from f0_1) (show 0 ≤ (F 6 1) ∧ (F 6 1) ≤ ((N 7 : Int)) ∧ ((N 7 : Int)) ≤ 65536 from f0_2) (show 0 ≤ (F 8 1) ∧ (F 8 1) ≤ ((N 9 : Int)) ∧ ((N 9 : Int)) ≤ 65536 from f0_3) (show (F 2 2) = 0 from f0_17) (show (F 4 2) = 0 from f0_18) (show (F 6 2) = 0 from f0_19) (show (F 8 2) = 0 from f0_20) (fun z σₚ Dₚ Nₚ Fₚ Aₚ cₚ sₚ Hₚ O sd sn sf sa pm3 pm5 pm7 pm9 m3 em3 m5 em5 m7 em7 m9 em9 y2_1 ey2_1 y2_2 ey2_2 y4_1 ey4_1 y4_2 ey4_2 y6_1 ey6_1 y6_2 ey6_2 y8_1 ey8_1 y8_2 ey8_2 v3 ev3 v5 ev5 v7 ev7 v9 ev9 q0 q1 q2 q3 q4 q5 q6 q7 q8 q9 q10 q11 q12 q13 q14 q15 q16 q17 => ?_)
  · skip
    subst em3 em5 em7 em9 ey2_1 ey2_2 ey4_1 ey4_2 ey6_1 ey6_2 ey8_1 ey8_2 ev3 ev5 ev7 ev9
    refine k z _ (glu ι_feed D Dₚ) (glu ι_feed N Nₚ) (glu ι_feed F Fₚ) (glu ι_feed A Aₚ) _ _ ⟨HWs_call HX VPH_3 vs_feed hp Hₚ O, STC_call HT HX vs_feed hp O, hg0, PFI_glue (dl := [3, 5, 7, 9]) hPF sf sa sd (by decide +kernel) (rexc_of (l := [(0, 2, 0, 3), (0, 4, 0, 5), (0, 6, 0, 7), (0, 8, 0, 9)]) (by decide +kernel) ?_), ABS_glue hAB sf (by decide +kernel), NZ_glue hNZ vs_feed hp sn (by decide +kernel), hGI, ?_, ?_, ?_, ?_, ?_, ?_, ?_, ?_, ?_, ?_⟩ ⟨(STP0_call (STY_call vs_feed hp O) (sd 0 rfl) (RM_call vs_feed O)), unt1_of (x := 10) (by decide +kernel) (fun p hp => funext (sa p hp))⟩ (EQD_glue sf sa sd sn (by decide +kernel)) (show z = 0 ∨ z = 1 by first | assumption | omega | rfl) (show 0 ≤ a1 ∧ a1 ≤ 3 ∨ z = 0 by first | assumption | omega | rfl) (show IMP (a1 = 0) (CHQ (((sc ((A 3)) 0 ((F 2 1))).length : Int) + 16 ≤ 65536) (sc ((A 3)) 0 ((F 2 1))) (sc ((A 3)) 0 ((F 2 1)) ++ fdL (a2) (a3) (a4) (a5) 16) (z) (sc ((Aₚ 3)) 0 ((Fₚ 2 1)))) by first | assumption | omega | rfl) (show IMP (a1 = 1) (CHQ (((sc ((A 5)) 0 ((F 4 1))).length : Int) + 16 ≤ 65536) (sc ((A 5)) 0 ((F 4 1))) (sc ((A 5)) 0 ((F 4 1)) ++ fdL (a2) (a3) (a4) (a5) 16) (z) (sc ((Aₚ 5)) 0 ((Fₚ 4 1)))) by first | assumption | omega | rfl) (show IMP (a1 = 2) (CHQ (((sc ((A 7)) 0 ((F 6 1))).length : Int) + 16 ≤ 65536) (sc ((A 7)) 0 ((F 6 1))) (sc ((A 7)) 0 ((F 6 1)) ++ fdL (a2) (a3) (a4) (a5) 16) (z) (sc ((Aₚ 7)) 0 ((Fₚ 6 1)))) by first | assumption | omega | rfl) (show IMP (a1 = 3) (CHQ (((sc ((A 9)) 0 ((F 8 1))).length : Int) + 16 ≤ 65536) (sc ((A 9)) 0 ((F 8 1))) (sc ((A 9)) 0 ((F 8 1)) ++ fdL (a2) (a3) (a4) (a5) 16) (z) (sc ((Aₚ 9)) 0 ((Fₚ 8 1)))) by first | assumption | omega | rfl) (show IMP (a1 ≠ 0) (sc ((Aₚ 3)) 0 ((Fₚ 2 1)) = sc ((A 3)) 0 ((F 2 1))) by first | assumption | omega | rfl) (show IMP (a1 ≠ 1) (sc ((Aₚ 5)) 0 ((Fₚ 4 1)) = sc ((A 5)) 0 ((F 4 1))) by first | assumption | omega | rfl) (show IMP (a1 ≠ 2) (sc ((Aₚ 7)) 0 ((Fₚ 6 1)) = sc ((A 7)) 0 ((F 6 1))) by first | assumption | omega | rfl) (show IMP (a1 ≠ 3) (sc ((Aₚ 9)) 0 ((Fₚ 8 1)) = sc ((A 9)) 0 ((F 8 1))) by first | assumption | omega | rfl)
    · intro e he h1 h2
      simp only [List.mem_cons, List.not_mem_nil, or_false] at he
      rcases he with rfl | rfl | rfl | rfl
      · exact pm3
      · exact pm5
      · exact pm7
      · exact pm9
    · skip
      exact ⟨show 0 ≤ (Fₚ 2 1) ∧ (Fₚ 2 1) ≤ ((Nₚ 3 : Int)) ∧ ((Nₚ 3 : Int)) ≤ 65536 from (by first | assumption | omega), show 0 ≤ (Fₚ 4 1) ∧ (Fₚ 4 1) ≤ ((Nₚ 5 : Int)) ∧ ((Nₚ 5 : Int)) ≤ 65536 from (by first | assumption | omega), show 0 ≤ (Fₚ 6 1) ∧ (Fₚ 6 1) ≤ ((Nₚ 7 : Int)) ∧ ((Nₚ 7 : Int)) ≤ 65536 from (by first | assumption | omega), show 0 ≤ (Fₚ 8 1) ∧ (Fₚ 8 1) ≤ ((Nₚ 9 : Int)) ∧ ((Nₚ 9 : Int)) ≤ 65536 from (by first | assumption | omega), QF0_4_eq (EQD_glue sf sa sd sn (by decide +kernel)) f0_4, QF0_5_eq (EQD_glue sf sa sd sn (by decide +kernel)) f0_5, QF0_6_eq (EQD_glue sf sa sd sn (by decide +kernel)) f0_6, QF0_7_eq (EQD_glue sf sa sd sn (by decide +kernel)) f0_7, QF0_8_eq (EQD_glue sf sa sd sn (by decide +kernel)) f0_8, QF0_9_eq (EQD_glue sf sa sd sn (by decide +kernel)) f0_9, QF0_10_eq (EQD_glue sf sa sd sn (by decide +kernel)) f0_10, QF0_11_eq (EQD_glue sf sa sd sn (by decide +kernel)) f0_11, QF0_12_eq (EQD_glue sf sa sd sn (by decide +kernel)) f0_12, QF0_13_eq (EQD_glue sf sa sd sn (by decide +kernel)) f0_13, QF0_14_eq (EQD_glue sf sa sd sn (by decide +kernel)) f0_14, QF0_15_eq (EQD_glue sf sa sd sn (by decide +kernel)) f0_15, QF0_16_eq (EQD_glue sf sa sd sn (by decide +kernel)) f0_16, show (Fₚ 2 2) = 0 from (by first | assumption | omega), show (Fₚ 4 2) = 0 from (by first | assumption | omega), show (Fₚ 6 2) = 0 from (by first | assumption | omega), show (Fₚ 8 2) = 0 from (by first | assumption | omega), QF0_21_eq (EQD_glue sf sa sd sn (by decide +kernel)) f0_21, QF0_22_eq (EQD_glue sf sa sd sn (by decide +kernel)) f0_22, QF0_23_eq (EQD_glue sf sa sd sn (by decide +kernel)) f0_23, QF0_24_eq (EQD_glue sf sa sd sn (by decide +kernel)) f0_24⟩
    · exact fun h => INV1_eq (EQD_glue sf sa sd sn (by decide +kernel)) (hI1 h)
    · exact fun h => INV2_eq (EQD_glue sf sa sd sn (by decide +kernel)) (hI2 h)
    · exact fun h => INV3_eq (EQD_glue sf sa sd sn (by decide +kernel)) (hI3 h)
    · exact fun h => INV4_eq (EQD_glue sf sa sd sn (by decide +kernel)) (hI4 h)
    · exact fun h => INV5_eq (EQD_glue sf sa sd sn (by decide +kernel)) (hI5 h)
    · exact fun h => INV6_eq (EQD_glue sf sa sd sn (by decide +kernel)) (hI6 h)
    · exact fun h => INV7_eq (EQD_glue sf sa sd sn (by decide +kernel)) (hI7 h)
    · exact fun h => INV8_eq (EQD_glue sf sa sd sn (by decide +kernel)) (hI8 h)
    · exact fun h => INV9_eq (EQD_glue sf sa sd sn (by decide +kernel)) (hI9 h)
def ι_give : List Nat := [0, 1, 2, 3, 4, 5, 6, 7, 8, 9]
theorem vs_give : VS VPH V2 ι_give := VS_of (by decide +kernel)
set_option maxRecDepth 20000 in
theorem T_give {Dc : DcS} {g : Nat → Bool} {σ : rS} {D N : Nat → Nat} {F : hF} {A : hA} {d c s : Nat} {Q : wQ} (X : PHI Dc g σ D N F A)  {a1 a2 a3 : Int}  (h0 : inr a1) (h1 : inr a2) (h2 : inrJ a3)  (k : ∀ (z : Int) (σₚ : rS) (Dₚ Nₚ : Nat → Nat) (Fₚ : hF) (Aₚ : hA) (cₚ sₚ : Nat), PHI Dc g σₚ Dₚ Nₚ Fₚ Aₚ → STP g σ D N A c s g σₚ Dₚ Nₚ Aₚ cₚ sₚ → EQD [(11, 1), (0, 18), (25, 1)] [12, 10, 29, 30, 32, 26] [] [] D N F A Dₚ Nₚ Fₚ Aₚ → (z = 0 ∨ z = 1) → (0 ≤ a1 ∧ a1 ≤ 3 ∨ z = 0) → (IMP (a1 = 0) (CHQ ((1 ≤ a2 ∧ a2 ≤ 8) ∧ ((sc ((A 3)) 0 ((F 2 1))).length : Int) + a2 ≤ 65536) (sc ((A 3)) 0 ((F 2 1))) (sc ((A 3)) 0 ((F 2 1)) ++ beB (a3) (a2)) (z) (sc ((Aₚ 3)) 0 ((Fₚ 2 1))))) → (IMP (a1 = 1) (CHQ ((1 ≤ a2 ∧ a2 ≤ 8) ∧ ((sc ((A 5)) 0 ((F 4 1))).length : Int) + a2 ≤ 65536) (sc ((A 5)) 0 ((F 4 1))) (sc ((A 5)) 0 ((F 4 1)) ++ beB (a3) (a2)) (z) (sc ((Aₚ 5)) 0 ((Fₚ 4 1))))) → (IMP (a1 = 2) (CHQ ((1 ≤ a2 ∧ a2 ≤ 8) ∧ ((sc ((A 7)) 0 ((F 6 1))).length : Int) + a2 ≤ 65536) (sc ((A 7)) 0 ((F 6 1))) (sc ((A 7)) 0 ((F 6 1)) ++ beB (a3) (a2)) (z) (sc ((Aₚ 7)) 0 ((Fₚ 6 1))))) → (IMP (a1 = 3) (CHQ ((1 ≤ a2 ∧ a2 ≤ 8) ∧ ((sc ((A 9)) 0 ((F 8 1))).length : Int) + a2 ≤ 65536) (sc ((A 9)) 0 ((F 8 1))) (sc ((A 9)) 0 ((F 8 1)) ++ beB (a3) (a2)) (z) (sc ((Aₚ 9)) 0 ((Fₚ 8 1))))) → (IMP (a1 ≠ 0) (sc ((Aₚ 3)) 0 ((Fₚ 2 1)) = sc ((A 3)) 0 ((F 2 1)))) → (IMP (a1 ≠ 1) (sc ((Aₚ 5)) 0 ((Fₚ 4 1)) = sc ((A 5)) 0 ((F 4 1)))) → (IMP (a1 ≠ 2) (sc ((Aₚ 7)) 0 ((Fₚ 6 1)) = sc ((A 7)) 0 ((F 6 1)))) → (IMP (a1 ≠ 3) (sc ((Aₚ 9)) 0 ((Fₚ 8 1)) = sc ((A 9)) 0 ((F 8 1)))) → Q (some (I z)) σₚ cₚ sₚ) : Ew 2 (d + 4) 0 (rargs 0 [.ref (D 0), I a1, I a2, J a3]) [] σ c s Q := by
  obtain ⟨HX, HT, hg0, hPF, hAB, hNZ, hGI, hI0, hI1, hI2, hI3, hI4, hI5, hI6, hI7, hI8, hI9⟩ := X
  have hset := SETI_f hI0.2.2.2.2.2.2.2.2.2.2.2.2.2.2.2.2.2.2.2.2.2.2.2.2
  have hJ0 := hI0
  unfold INV0 at hJ0
  obtain ⟨f0_0, f0_1, f0_2, f0_3, f0_4, f0_5, f0_6, f0_7, f0_8, f0_9, f0_10, f0_11, f0_12, f0_13, f0_14, f0_15, f0_16, f0_17, f0_18, f0_19, f0_20, f0_21, f0_22, f0_23, f0_24⟩ := hJ0
  have hp : ∀ x, x < (V2).length → SPH g (ι_give.getD x 0) = true := SPH_of (gs := [0]) (by intro j hj; simp at hj; subst hj; exact hg0) rfl (by decide +kernel)
  refine C2p (D := pul ι_give D) (N := pul ι_give N) (F := pul ι_give F) (A := pul ι_give A) (HWs_sub HX vs_give hp) (show F 0 0 = (D 1 : Int) from hPF (0, 0, 0, 1) (List.mem_of_getElem? (i := 0) rfl) hg0 hg0) (show A 1 0 = (D 2 : Int) from hPF (1, 1, 0, 2) (List.mem_of_getElem? (i := 1) rfl) hg0 hg0) (show F 2 0 = (D 3 : Int) from hPF (0, 2, 0, 3) (List.mem_of_getElem? (i := 2) rfl) hg0 hg0) (show A 1 1 = (D 4 : Int) from hPF (1, 1, 1, 4) (List.mem_of_getElem? (i := 3) rfl) hg0 hg0) (show F 4 0 = (D 5 : Int) from hPF (0, 4, 0, 5) (List.mem_of_getElem? (i := 4) rfl) hg0 hg0) (show A 1 2 = (D 6 : Int) from hPF (1, 1, 2, 6) (List.mem_of_getElem? (i := 5) rfl) hg0 hg0) (show F 6 0 = (D 7 : Int) from hPF (0, 6, 0, 7) (List.mem_of_getElem? (i := 6) rfl) hg0 hg0) (show A 1 3 = (D 8 : Int) from hPF (1, 1, 3, 8) (List.mem_of_getElem? (i := 7) rfl) hg0 hg0) (show F 8 0 = (D 9 : Int) from hPF (0, 8, 0, 9) (List.mem_of_getElem? (i := 8) rfl) hg0 hg0) (N 1 : Int) rfl (N 3 : Int) rfl (N 5 : Int) rfl (N 7 : Int) rfl (N 9 : Int) rfl (F 2 1) rfl (F 2 2) rfl (F 4 1) rfl (F 4 2) rfl (F 6 1) rfl (F 6 2) rfl (F 8 1) rfl (F 8 2) rfl (A 3) rfl (A 5) rfl (A 7) rfl (A 9) rfl   (show inr (a1) by first | assumption | omega) (show inr (a2) by first | assumption | omega) (show inrJ (a3) by first | assumption | omega) (show ((N 1 : Int)) = 4 from f0_9) (show 0 ≤ (F 2 1) ∧ (F 2 1) ≤ ((N 3 : Int)) ∧ ((N 3 : Int)) ≤ 65536 from f0_0) (show 0 ≤ (F 4 1) ∧ (F 4 1) ≤ ((N 5 : Int)) ∧ ((N 5 : Int)) ≤ 65536 from f0_1) (show 0 ≤ (F 6 1) ∧ (F 6 1) ≤ ((N 7 : Int)) ∧ ((N 7 : Int)) ≤ 65536 from f0_2) (show 0 ≤ (F 8 1) ∧ (F 8 1) ≤ ((N 9 : Int)) ∧ ((N 9 : Int)) ≤ 65536 from f0_3) (show (F 2 2) = 0 from f0_17) (show (F 4 2) = 0 from f0_18) (show (F 6 2) = 0 from f0_19) (show (F 8 2) = 0 from f0_20) (fun z σₚ Dₚ Nₚ Fₚ Aₚ cₚ sₚ Hₚ O sd sn sf sa pm3 pm5 pm7 pm9 m3 em3 m5 em5 m7 em7 m9 em9 y2_1 ey2_1 y2_2 ey2_2 y4_1 ey4_1 y4_2 ey4_2 y6_1 ey6_1 y6_2 ey6_2 y8_1 ey8_1 y8_2 ey8_2 v3 ev3 v5 ev5 v7 ev7 v9 ev9 q0 q1 q2 q3 q4 q5 q6 q7 q8 q9 q10 q11 q12 q13 q14 q15 q16 q17 => ?_)
  · skip
    subst em3 em5 em7 em9 ey2_1 ey2_2 ey4_1 ey4_2 ey6_1 ey6_2 ey8_1 ey8_2 ev3 ev5 ev7 ev9
    refine k z _ (glu ι_give D Dₚ) (glu ι_give N Nₚ) (glu ι_give F Fₚ) (glu ι_give A Aₚ) _ _ ⟨HWs_call HX VPH_3 vs_give hp Hₚ O, STC_call HT HX vs_give hp O, hg0, PFI_glue (dl := [3, 5, 7, 9]) hPF sf sa sd (by decide +kernel) (rexc_of (l := [(0, 2, 0, 3), (0, 4, 0, 5), (0, 6, 0, 7), (0, 8, 0, 9)]) (by decide +kernel) ?_), ABS_glue hAB sf (by decide +kernel), NZ_glue hNZ vs_give hp sn (by decide +kernel), hGI, ?_, ?_, ?_, ?_, ?_, ?_, ?_, ?_, ?_, ?_⟩ ⟨(STP0_call (STY_call vs_give hp O) (sd 0 rfl) (RM_call vs_give O)), unt1_of (x := 10) (by decide +kernel) (fun p hp => funext (sa p hp))⟩ (EQD_glue sf sa sd sn (by decide +kernel)) (show z = 0 ∨ z = 1 by first | assumption | omega | rfl) (show 0 ≤ a1 ∧ a1 ≤ 3 ∨ z = 0 by first | assumption | omega | rfl) (show IMP (a1 = 0) (CHQ ((1 ≤ a2 ∧ a2 ≤ 8) ∧ ((sc ((A 3)) 0 ((F 2 1))).length : Int) + a2 ≤ 65536) (sc ((A 3)) 0 ((F 2 1))) (sc ((A 3)) 0 ((F 2 1)) ++ beB (a3) (a2)) (z) (sc ((Aₚ 3)) 0 ((Fₚ 2 1)))) by first | assumption | omega | rfl) (show IMP (a1 = 1) (CHQ ((1 ≤ a2 ∧ a2 ≤ 8) ∧ ((sc ((A 5)) 0 ((F 4 1))).length : Int) + a2 ≤ 65536) (sc ((A 5)) 0 ((F 4 1))) (sc ((A 5)) 0 ((F 4 1)) ++ beB (a3) (a2)) (z) (sc ((Aₚ 5)) 0 ((Fₚ 4 1)))) by first | assumption | omega | rfl) (show IMP (a1 = 2) (CHQ ((1 ≤ a2 ∧ a2 ≤ 8) ∧ ((sc ((A 7)) 0 ((F 6 1))).length : Int) + a2 ≤ 65536) (sc ((A 7)) 0 ((F 6 1))) (sc ((A 7)) 0 ((F 6 1)) ++ beB (a3) (a2)) (z) (sc ((Aₚ 7)) 0 ((Fₚ 6 1)))) by first | assumption | omega | rfl) (show IMP (a1 = 3) (CHQ ((1 ≤ a2 ∧ a2 ≤ 8) ∧ ((sc ((A 9)) 0 ((F 8 1))).length : Int) + a2 ≤ 65536) (sc ((A 9)) 0 ((F 8 1))) (sc ((A 9)) 0 ((F 8 1)) ++ beB (a3) (a2)) (z) (sc ((Aₚ 9)) 0 ((Fₚ 8 1)))) by first | assumption | omega | rfl) (show IMP (a1 ≠ 0) (sc ((Aₚ 3)) 0 ((Fₚ 2 1)) = sc ((A 3)) 0 ((F 2 1))) by first | assumption | omega | rfl) (show IMP (a1 ≠ 1) (sc ((Aₚ 5)) 0 ((Fₚ 4 1)) = sc ((A 5)) 0 ((F 4 1))) by first | assumption | omega | rfl) (show IMP (a1 ≠ 2) (sc ((Aₚ 7)) 0 ((Fₚ 6 1)) = sc ((A 7)) 0 ((F 6 1))) by first | assumption | omega | rfl) (show IMP (a1 ≠ 3) (sc ((Aₚ 9)) 0 ((Fₚ 8 1)) = sc ((A 9)) 0 ((F 8 1))) by first | assumption | omega | rfl)
    · intro e he h1 h2
      simp only [List.mem_cons, List.not_mem_nil, or_false] at he
      rcases he with rfl | rfl | rfl | rfl
      · exact pm3
      · exact pm5
      · exact pm7
      · exact pm9
    · skip
      exact ⟨show 0 ≤ (Fₚ 2 1) ∧ (Fₚ 2 1) ≤ ((Nₚ 3 : Int)) ∧ ((Nₚ 3 : Int)) ≤ 65536 from (by first | assumption | omega), show 0 ≤ (Fₚ 4 1) ∧ (Fₚ 4 1) ≤ ((Nₚ 5 : Int)) ∧ ((Nₚ 5 : Int)) ≤ 65536 from (by first | assumption | omega), show 0 ≤ (Fₚ 6 1) ∧ (Fₚ 6 1) ≤ ((Nₚ 7 : Int)) ∧ ((Nₚ 7 : Int)) ≤ 65536 from (by first | assumption | omega), show 0 ≤ (Fₚ 8 1) ∧ (Fₚ 8 1) ≤ ((Nₚ 9 : Int)) ∧ ((Nₚ 9 : Int)) ≤ 65536 from (by first | assumption | omega), QF0_4_eq (EQD_glue sf sa sd sn (by decide +kernel)) f0_4, QF0_5_eq (EQD_glue sf sa sd sn (by decide +kernel)) f0_5, QF0_6_eq (EQD_glue sf sa sd sn (by decide +kernel)) f0_6, QF0_7_eq (EQD_glue sf sa sd sn (by decide +kernel)) f0_7, QF0_8_eq (EQD_glue sf sa sd sn (by decide +kernel)) f0_8, QF0_9_eq (EQD_glue sf sa sd sn (by decide +kernel)) f0_9, QF0_10_eq (EQD_glue sf sa sd sn (by decide +kernel)) f0_10, QF0_11_eq (EQD_glue sf sa sd sn (by decide +kernel)) f0_11, QF0_12_eq (EQD_glue sf sa sd sn (by decide +kernel)) f0_12, QF0_13_eq (EQD_glue sf sa sd sn (by decide +kernel)) f0_13, QF0_14_eq (EQD_glue sf sa sd sn (by decide +kernel)) f0_14, QF0_15_eq (EQD_glue sf sa sd sn (by decide +kernel)) f0_15, QF0_16_eq (EQD_glue sf sa sd sn (by decide +kernel)) f0_16, show (Fₚ 2 2) = 0 from (by first | assumption | omega), show (Fₚ 4 2) = 0 from (by first | assumption | omega), show (Fₚ 6 2) = 0 from (by first | assumption | omega), show (Fₚ 8 2) = 0 from (by first | assumption | omega), QF0_21_eq (EQD_glue sf sa sd sn (by decide +kernel)) f0_21, QF0_22_eq (EQD_glue sf sa sd sn (by decide +kernel)) f0_22, QF0_23_eq (EQD_glue sf sa sd sn (by decide +kernel)) f0_23, QF0_24_eq (EQD_glue sf sa sd sn (by decide +kernel)) f0_24⟩
    · exact fun h => INV1_eq (EQD_glue sf sa sd sn (by decide +kernel)) (hI1 h)
    · exact fun h => INV2_eq (EQD_glue sf sa sd sn (by decide +kernel)) (hI2 h)
    · exact fun h => INV3_eq (EQD_glue sf sa sd sn (by decide +kernel)) (hI3 h)
    · exact fun h => INV4_eq (EQD_glue sf sa sd sn (by decide +kernel)) (hI4 h)
    · exact fun h => INV5_eq (EQD_glue sf sa sd sn (by decide +kernel)) (hI5 h)
    · exact fun h => INV6_eq (EQD_glue sf sa sd sn (by decide +kernel)) (hI6 h)
    · exact fun h => INV7_eq (EQD_glue sf sa sd sn (by decide +kernel)) (hI7 h)
    · exact fun h => INV8_eq (EQD_glue sf sa sd sn (by decide +kernel)) (hI8 h)
    · exact fun h => INV9_eq (EQD_glue sf sa sd sn (by decide +kernel)) (hI9 h)
def ι_again : List Nat := [0, 1, 2, 3, 4, 5, 6, 7, 8, 9]
theorem vs_again : VS VPH V3 ι_again := VS_of (by decide +kernel)
set_option maxRecDepth 20000 in
theorem T_again {Dc : DcS} {g : Nat → Bool} {σ : rS} {D N : Nat → Nat} {F : hF} {A : hA} {d c s : Nat} {Q : wQ} (X : PHI Dc g σ D N F A)  {a1 a2 a3 : Int}  (h0 : inr a1) (h1 : inr a2) (h2 : inr a3)  (k : ∀ (z : Int) (σₚ : rS) (Dₚ Nₚ : Nat → Nat) (Fₚ : hF) (Aₚ : hA) (cₚ sₚ : Nat), PHI Dc g σₚ Dₚ Nₚ Fₚ Aₚ → STP g σ D N A c s g σₚ Dₚ Nₚ Aₚ cₚ sₚ → EQD [(11, 1), (0, 18), (25, 1)] [12, 10, 29, 30, 32, 26] [] [] D N F A Dₚ Nₚ Fₚ Aₚ → (z = 0 ∨ z = 1) → (0 ≤ a1 ∧ a1 ≤ 3 ∨ z = 0) → (IMP (a1 = 0) (CHQ ((1 ≤ a2 ∧ a2 ≤ ((sc ((A 3)) 0 ((F 2 1))).length : Int)) ∧ 0 ≤ a3 ∧ a2 * a3 ≤ 65536 - ((sc ((A 3)) 0 ((F 2 1))).length : Int)) (sc ((A 3)) 0 ((F 2 1))) (cpb (sc ((A 3)) 0 ((F 2 1))) (a2) (a2 * a3 : Int).toNat) (z) (sc ((Aₚ 3)) 0 ((Fₚ 2 1))))) → (IMP (a1 = 1) (CHQ ((1 ≤ a2 ∧ a2 ≤ ((sc ((A 5)) 0 ((F 4 1))).length : Int)) ∧ 0 ≤ a3 ∧ a2 * a3 ≤ 65536 - ((sc ((A 5)) 0 ((F 4 1))).length : Int)) (sc ((A 5)) 0 ((F 4 1))) (cpb (sc ((A 5)) 0 ((F 4 1))) (a2) (a2 * a3 : Int).toNat) (z) (sc ((Aₚ 5)) 0 ((Fₚ 4 1))))) → (IMP (a1 = 2) (CHQ ((1 ≤ a2 ∧ a2 ≤ ((sc ((A 7)) 0 ((F 6 1))).length : Int)) ∧ 0 ≤ a3 ∧ a2 * a3 ≤ 65536 - ((sc ((A 7)) 0 ((F 6 1))).length : Int)) (sc ((A 7)) 0 ((F 6 1))) (cpb (sc ((A 7)) 0 ((F 6 1))) (a2) (a2 * a3 : Int).toNat) (z) (sc ((Aₚ 7)) 0 ((Fₚ 6 1))))) → (IMP (a1 = 3) (CHQ ((1 ≤ a2 ∧ a2 ≤ ((sc ((A 9)) 0 ((F 8 1))).length : Int)) ∧ 0 ≤ a3 ∧ a2 * a3 ≤ 65536 - ((sc ((A 9)) 0 ((F 8 1))).length : Int)) (sc ((A 9)) 0 ((F 8 1))) (cpb (sc ((A 9)) 0 ((F 8 1))) (a2) (a2 * a3 : Int).toNat) (z) (sc ((Aₚ 9)) 0 ((Fₚ 8 1))))) → (IMP (a1 ≠ 0) (sc ((Aₚ 3)) 0 ((Fₚ 2 1)) = sc ((A 3)) 0 ((F 2 1)))) → (IMP (a1 ≠ 1) (sc ((Aₚ 5)) 0 ((Fₚ 4 1)) = sc ((A 5)) 0 ((F 4 1)))) → (IMP (a1 ≠ 2) (sc ((Aₚ 7)) 0 ((Fₚ 6 1)) = sc ((A 7)) 0 ((F 6 1)))) → (IMP (a1 ≠ 3) (sc ((Aₚ 9)) 0 ((Fₚ 8 1)) = sc ((A 9)) 0 ((F 8 1)))) → Q (some (I z)) σₚ cₚ sₚ) : Ew 3 (d + 3) 0 (rargs 0 [.ref (D 0), I a1, I a2, I a3]) [] σ c s Q := by
  obtain ⟨HX, HT, hg0, hPF, hAB, hNZ, hGI, hI0, hI1, hI2, hI3, hI4, hI5, hI6, hI7, hI8, hI9⟩ := X
  have hset := SETI_f hI0.2.2.2.2.2.2.2.2.2.2.2.2.2.2.2.2.2.2.2.2.2.2.2.2
  have hJ0 := hI0
  unfold INV0 at hJ0
  obtain ⟨f0_0, f0_1, f0_2, f0_3, f0_4, f0_5, f0_6, f0_7, f0_8, f0_9, f0_10, f0_11, f0_12, f0_13, f0_14, f0_15, f0_16, f0_17, f0_18, f0_19, f0_20, f0_21, f0_22, f0_23, f0_24⟩ := hJ0
  have hp : ∀ x, x < (V3).length → SPH g (ι_again.getD x 0) = true := SPH_of (gs := [0]) (by intro j hj; simp at hj; subst hj; exact hg0) rfl (by decide +kernel)
  refine C3p (D := pul ι_again D) (N := pul ι_again N) (F := pul ι_again F) (A := pul ι_again A) (HWs_sub HX vs_again hp) (show F 0 0 = (D 1 : Int) from hPF (0, 0, 0, 1) (List.mem_of_getElem? (i := 0) rfl) hg0 hg0) (show A 1 0 = (D 2 : Int) from hPF (1, 1, 0, 2) (List.mem_of_getElem? (i := 1) rfl) hg0 hg0) (show F 2 0 = (D 3 : Int) from hPF (0, 2, 0, 3) (List.mem_of_getElem? (i := 2) rfl) hg0 hg0) (show A 1 1 = (D 4 : Int) from hPF (1, 1, 1, 4) (List.mem_of_getElem? (i := 3) rfl) hg0 hg0) (show F 4 0 = (D 5 : Int) from hPF (0, 4, 0, 5) (List.mem_of_getElem? (i := 4) rfl) hg0 hg0) (show A 1 2 = (D 6 : Int) from hPF (1, 1, 2, 6) (List.mem_of_getElem? (i := 5) rfl) hg0 hg0) (show F 6 0 = (D 7 : Int) from hPF (0, 6, 0, 7) (List.mem_of_getElem? (i := 6) rfl) hg0 hg0) (show A 1 3 = (D 8 : Int) from hPF (1, 1, 3, 8) (List.mem_of_getElem? (i := 7) rfl) hg0 hg0) (show F 8 0 = (D 9 : Int) from hPF (0, 8, 0, 9) (List.mem_of_getElem? (i := 8) rfl) hg0 hg0) (N 1 : Int) rfl (N 3 : Int) rfl (N 5 : Int) rfl (N 7 : Int) rfl (N 9 : Int) rfl (F 2 1) rfl (F 2 2) rfl (F 4 1) rfl (F 4 2) rfl (F 6 1) rfl (F 6 2) rfl (F 8 1) rfl (F 8 2) rfl (A 3) rfl (A 5) rfl (A 7) rfl (A 9) rfl   (show inr (a1) by first | assumption | omega) (show inr (a2) by first | assumption | omega) (show inr (a3) by first | assumption | omega) (show ((N 1 : Int)) = 4 from f0_9) (show 0 ≤ (F 2 1) ∧ (F 2 1) ≤ ((N 3 : Int)) ∧ ((N 3 : Int)) ≤ 65536 from f0_0) (show 0 ≤ (F 4 1) ∧ (F 4 1) ≤ ((N 5 : Int)) ∧ ((N 5 : Int)) ≤ 65536 from f0_1) (show 0 ≤ (F 6 1) ∧ (F 6 1) ≤ ((N 7 : Int)) ∧ ((N 7 : Int)) ≤ 65536 from f0_2) (show 0 ≤ (F 8 1) ∧ (F 8 1) ≤ ((N 9 : Int)) ∧ ((N 9 : Int)) ≤ 65536 from f0_3) (show (F 2 2) = 0 from f0_17) (show (F 4 2) = 0 from f0_18) (show (F 6 2) = 0 from f0_19) (show (F 8 2) = 0 from f0_20) (fun z σₚ Dₚ Nₚ Fₚ Aₚ cₚ sₚ Hₚ O sd sn sf sa pm3 pm5 pm7 pm9 m3 em3 m5 em5 m7 em7 m9 em9 y2_1 ey2_1 y2_2 ey2_2 y4_1 ey4_1 y4_2 ey4_2 y6_1 ey6_1 y6_2 ey6_2 y8_1 ey8_1 y8_2 ey8_2 v3 ev3 v5 ev5 v7 ev7 v9 ev9 q0 q1 q2 q3 q4 q5 q6 q7 q8 q9 q10 q11 q12 q13 q14 q15 q16 q17 => ?_)
  · skip
    subst em3 em5 em7 em9 ey2_1 ey2_2 ey4_1 ey4_2 ey6_1 ey6_2 ey8_1 ey8_2 ev3 ev5 ev7 ev9
    refine k z _ (glu ι_again D Dₚ) (glu ι_again N Nₚ) (glu ι_again F Fₚ) (glu ι_again A Aₚ) _ _ ⟨HWs_call HX VPH_3 vs_again hp Hₚ O, STC_call HT HX vs_again hp O, hg0, PFI_glue (dl := [3, 5, 7, 9]) hPF sf sa sd (by decide +kernel) (rexc_of (l := [(0, 2, 0, 3), (0, 4, 0, 5), (0, 6, 0, 7), (0, 8, 0, 9)]) (by decide +kernel) ?_), ABS_glue hAB sf (by decide +kernel), NZ_glue hNZ vs_again hp sn (by decide +kernel), hGI, ?_, ?_, ?_, ?_, ?_, ?_, ?_, ?_, ?_, ?_⟩ ⟨(STP0_call (STY_call vs_again hp O) (sd 0 rfl) (RM_call vs_again O)), unt1_of (x := 10) (by decide +kernel) (fun p hp => funext (sa p hp))⟩ (EQD_glue sf sa sd sn (by decide +kernel)) (show z = 0 ∨ z = 1 by first | assumption | omega | rfl) (show 0 ≤ a1 ∧ a1 ≤ 3 ∨ z = 0 by first | assumption | omega | rfl) (show IMP (a1 = 0) (CHQ ((1 ≤ a2 ∧ a2 ≤ ((sc ((A 3)) 0 ((F 2 1))).length : Int)) ∧ 0 ≤ a3 ∧ a2 * a3 ≤ 65536 - ((sc ((A 3)) 0 ((F 2 1))).length : Int)) (sc ((A 3)) 0 ((F 2 1))) (cpb (sc ((A 3)) 0 ((F 2 1))) (a2) (a2 * a3 : Int).toNat) (z) (sc ((Aₚ 3)) 0 ((Fₚ 2 1)))) by first | assumption | omega | rfl) (show IMP (a1 = 1) (CHQ ((1 ≤ a2 ∧ a2 ≤ ((sc ((A 5)) 0 ((F 4 1))).length : Int)) ∧ 0 ≤ a3 ∧ a2 * a3 ≤ 65536 - ((sc ((A 5)) 0 ((F 4 1))).length : Int)) (sc ((A 5)) 0 ((F 4 1))) (cpb (sc ((A 5)) 0 ((F 4 1))) (a2) (a2 * a3 : Int).toNat) (z) (sc ((Aₚ 5)) 0 ((Fₚ 4 1)))) by first | assumption | omega | rfl) (show IMP (a1 = 2) (CHQ ((1 ≤ a2 ∧ a2 ≤ ((sc ((A 7)) 0 ((F 6 1))).length : Int)) ∧ 0 ≤ a3 ∧ a2 * a3 ≤ 65536 - ((sc ((A 7)) 0 ((F 6 1))).length : Int)) (sc ((A 7)) 0 ((F 6 1))) (cpb (sc ((A 7)) 0 ((F 6 1))) (a2) (a2 * a3 : Int).toNat) (z) (sc ((Aₚ 7)) 0 ((Fₚ 6 1)))) by first | assumption | omega | rfl) (show IMP (a1 = 3) (CHQ ((1 ≤ a2 ∧ a2 ≤ ((sc ((A 9)) 0 ((F 8 1))).length : Int)) ∧ 0 ≤ a3 ∧ a2 * a3 ≤ 65536 - ((sc ((A 9)) 0 ((F 8 1))).length : Int)) (sc ((A 9)) 0 ((F 8 1))) (cpb (sc ((A 9)) 0 ((F 8 1))) (a2) (a2 * a3 : Int).toNat) (z) (sc ((Aₚ 9)) 0 ((Fₚ 8 1)))) by first | assumption | omega | rfl) (show IMP (a1 ≠ 0) (sc ((Aₚ 3)) 0 ((Fₚ 2 1)) = sc ((A 3)) 0 ((F 2 1))) by first | assumption | omega | rfl) (show IMP (a1 ≠ 1) (sc ((Aₚ 5)) 0 ((Fₚ 4 1)) = sc ((A 5)) 0 ((F 4 1))) by first | assumption | omega | rfl) (show IMP (a1 ≠ 2) (sc ((Aₚ 7)) 0 ((Fₚ 6 1)) = sc ((A 7)) 0 ((F 6 1))) by first | assumption | omega | rfl) (show IMP (a1 ≠ 3) (sc ((Aₚ 9)) 0 ((Fₚ 8 1)) = sc ((A 9)) 0 ((F 8 1))) by first | assumption | omega | rfl)
    · intro e he h1 h2
      simp only [List.mem_cons, List.not_mem_nil, or_false] at he
      rcases he with rfl | rfl | rfl | rfl
      · exact pm3
      · exact pm5
      · exact pm7
      · exact pm9
    · skip
      exact ⟨show 0 ≤ (Fₚ 2 1) ∧ (Fₚ 2 1) ≤ ((Nₚ 3 : Int)) ∧ ((Nₚ 3 : Int)) ≤ 65536 from (by first | assumption | omega), show 0 ≤ (Fₚ 4 1) ∧ (Fₚ 4 1) ≤ ((Nₚ 5 : Int)) ∧ ((Nₚ 5 : Int)) ≤ 65536 from (by first | assumption | omega), show 0 ≤ (Fₚ 6 1) ∧ (Fₚ 6 1) ≤ ((Nₚ 7 : Int)) ∧ ((Nₚ 7 : Int)) ≤ 65536 from (by first | assumption | omega), show 0 ≤ (Fₚ 8 1) ∧ (Fₚ 8 1) ≤ ((Nₚ 9 : Int)) ∧ ((Nₚ 9 : Int)) ≤ 65536 from (by first | assumption | omega), QF0_4_eq (EQD_glue sf sa sd sn (by decide +kernel)) f0_4, QF0_5_eq (EQD_glue sf sa sd sn (by decide +kernel)) f0_5, QF0_6_eq (EQD_glue sf sa sd sn (by decide +kernel)) f0_6, QF0_7_eq (EQD_glue sf sa sd sn (by decide +kernel)) f0_7, QF0_8_eq (EQD_glue sf sa sd sn (by decide +kernel)) f0_8, QF0_9_eq (EQD_glue sf sa sd sn (by decide +kernel)) f0_9, QF0_10_eq (EQD_glue sf sa sd sn (by decide +kernel)) f0_10, QF0_11_eq (EQD_glue sf sa sd sn (by decide +kernel)) f0_11, QF0_12_eq (EQD_glue sf sa sd sn (by decide +kernel)) f0_12, QF0_13_eq (EQD_glue sf sa sd sn (by decide +kernel)) f0_13, QF0_14_eq (EQD_glue sf sa sd sn (by decide +kernel)) f0_14, QF0_15_eq (EQD_glue sf sa sd sn (by decide +kernel)) f0_15, QF0_16_eq (EQD_glue sf sa sd sn (by decide +kernel)) f0_16, show (Fₚ 2 2) = 0 from (by first | assumption | omega), show (Fₚ 4 2) = 0 from (by first | assumption | omega), show (Fₚ 6 2) = 0 from (by first | assumption | omega), show (Fₚ 8 2) = 0 from (by first | assumption | omega), QF0_21_eq (EQD_glue sf sa sd sn (by decide +kernel)) f0_21, QF0_22_eq (EQD_glue sf sa sd sn (by decide +kernel)) f0_22, QF0_23_eq (EQD_glue sf sa sd sn (by decide +kernel)) f0_23, QF0_24_eq (EQD_glue sf sa sd sn (by decide +kernel)) f0_24⟩
    · exact fun h => INV1_eq (EQD_glue sf sa sd sn (by decide +kernel)) (hI1 h)
    · exact fun h => INV2_eq (EQD_glue sf sa sd sn (by decide +kernel)) (hI2 h)
    · exact fun h => INV3_eq (EQD_glue sf sa sd sn (by decide +kernel)) (hI3 h)
    · exact fun h => INV4_eq (EQD_glue sf sa sd sn (by decide +kernel)) (hI4 h)
    · exact fun h => INV5_eq (EQD_glue sf sa sd sn (by decide +kernel)) (hI5 h)
    · exact fun h => INV6_eq (EQD_glue sf sa sd sn (by decide +kernel)) (hI6 h)
    · exact fun h => INV7_eq (EQD_glue sf sa sd sn (by decide +kernel)) (hI7 h)
    · exact fun h => INV8_eq (EQD_glue sf sa sd sn (by decide +kernel)) (hI8 h)
    · exact fun h => INV9_eq (EQD_glue sf sa sd sn (by decide +kernel)) (hI9 h)
def ι_cut : List Nat := [0, 1, 2, 3, 4, 5, 6, 7, 8, 9]
theorem vs_cut : VS VPH V4 ι_cut := VS_of (by decide +kernel)
set_option maxRecDepth 20000 in
theorem T_cut {Dc : DcS} {g : Nat → Bool} {σ : rS} {D N : Nat → Nat} {F : hF} {A : hA} {d c s : Nat} {Q : wQ} (X : PHI Dc g σ D N F A)  {a1 a2 : Int}  (h0 : inr a1) (h1 : inr a2)  (k : ∀ (z : Int) (σₚ : rS) (Dₚ Nₚ : Nat → Nat) (Fₚ : hF) (Aₚ : hA) (cₚ sₚ : Nat), PHI Dc g σₚ Dₚ Nₚ Fₚ Aₚ → STP g σ D N A c s g σₚ Dₚ Nₚ Aₚ cₚ sₚ → EQD [(11, 1), (0, 18), (25, 1)] [3, 5, 7, 9, 12, 10, 29, 30, 32, 26] [] [] D N F A Dₚ Nₚ Fₚ Aₚ → (z = 0 ∨ z = 1) → (0 ≤ a1 ∧ a1 ≤ 3 ∨ z = 0) → (IMP (a1 = 0) (CHQ (0 ≤ a2 ∧ a2 ≤ ((sc ((A 3)) 0 ((F 2 1))).length : Int)) (sc ((A 3)) 0 ((F 2 1))) ((sc ((A 3)) 0 ((F 2 1))).take (a2 : Int).toNat) (z) (sc ((Aₚ 3)) 0 ((Fₚ 2 1))))) → (IMP (a1 = 1) (CHQ (0 ≤ a2 ∧ a2 ≤ ((sc ((A 5)) 0 ((F 4 1))).length : Int)) (sc ((A 5)) 0 ((F 4 1))) ((sc ((A 5)) 0 ((F 4 1))).take (a2 : Int).toNat) (z) (sc ((Aₚ 5)) 0 ((Fₚ 4 1))))) → (IMP (a1 = 2) (CHQ (0 ≤ a2 ∧ a2 ≤ ((sc ((A 7)) 0 ((F 6 1))).length : Int)) (sc ((A 7)) 0 ((F 6 1))) ((sc ((A 7)) 0 ((F 6 1))).take (a2 : Int).toNat) (z) (sc ((Aₚ 7)) 0 ((Fₚ 6 1))))) → (IMP (a1 = 3) (CHQ (0 ≤ a2 ∧ a2 ≤ ((sc ((A 9)) 0 ((F 8 1))).length : Int)) (sc ((A 9)) 0 ((F 8 1))) ((sc ((A 9)) 0 ((F 8 1))).take (a2 : Int).toNat) (z) (sc ((Aₚ 9)) 0 ((Fₚ 8 1))))) → (IMP (a1 ≠ 0) (sc ((Aₚ 3)) 0 ((Fₚ 2 1)) = sc ((A 3)) 0 ((F 2 1)))) → (IMP (a1 ≠ 1) (sc ((Aₚ 5)) 0 ((Fₚ 4 1)) = sc ((A 5)) 0 ((F 4 1)))) → (IMP (a1 ≠ 2) (sc ((Aₚ 7)) 0 ((Fₚ 6 1)) = sc ((A 7)) 0 ((F 6 1)))) → (IMP (a1 ≠ 3) (sc ((Aₚ 9)) 0 ((Fₚ 8 1)) = sc ((A 9)) 0 ((F 8 1)))) → Q (some (I z)) σₚ cₚ sₚ) : Ew 4 (d + 1) 0 (rargs 0 [.ref (D 0), I a1, I a2]) [] σ c s Q := by
  obtain ⟨HX, HT, hg0, hPF, hAB, hNZ, hGI, hI0, hI1, hI2, hI3, hI4, hI5, hI6, hI7, hI8, hI9⟩ := X
  have hset := SETI_f hI0.2.2.2.2.2.2.2.2.2.2.2.2.2.2.2.2.2.2.2.2.2.2.2.2
  have hJ0 := hI0
  unfold INV0 at hJ0
  obtain ⟨f0_0, f0_1, f0_2, f0_3, f0_4, f0_5, f0_6, f0_7, f0_8, f0_9, f0_10, f0_11, f0_12, f0_13, f0_14, f0_15, f0_16, f0_17, f0_18, f0_19, f0_20, f0_21, f0_22, f0_23, f0_24⟩ := hJ0
  have hp : ∀ x, x < (V4).length → SPH g (ι_cut.getD x 0) = true := SPH_of (gs := [0]) (by intro j hj; simp at hj; subst hj; exact hg0) rfl (by decide +kernel)
  refine C4p (D := pul ι_cut D) (N := pul ι_cut N) (F := pul ι_cut F) (A := pul ι_cut A) (HWs_sub HX vs_cut hp) (show F 0 0 = (D 1 : Int) from hPF (0, 0, 0, 1) (List.mem_of_getElem? (i := 0) rfl) hg0 hg0) (show A 1 0 = (D 2 : Int) from hPF (1, 1, 0, 2) (List.mem_of_getElem? (i := 1) rfl) hg0 hg0) (show F 2 0 = (D 3 : Int) from hPF (0, 2, 0, 3) (List.mem_of_getElem? (i := 2) rfl) hg0 hg0) (show A 1 1 = (D 4 : Int) from hPF (1, 1, 1, 4) (List.mem_of_getElem? (i := 3) rfl) hg0 hg0) (show F 4 0 = (D 5 : Int) from hPF (0, 4, 0, 5) (List.mem_of_getElem? (i := 4) rfl) hg0 hg0) (show A 1 2 = (D 6 : Int) from hPF (1, 1, 2, 6) (List.mem_of_getElem? (i := 5) rfl) hg0 hg0) (show F 6 0 = (D 7 : Int) from hPF (0, 6, 0, 7) (List.mem_of_getElem? (i := 6) rfl) hg0 hg0) (show A 1 3 = (D 8 : Int) from hPF (1, 1, 3, 8) (List.mem_of_getElem? (i := 7) rfl) hg0 hg0) (show F 8 0 = (D 9 : Int) from hPF (0, 8, 0, 9) (List.mem_of_getElem? (i := 8) rfl) hg0 hg0) (N 1 : Int) rfl (N 3 : Int) rfl (N 5 : Int) rfl (N 7 : Int) rfl (N 9 : Int) rfl (F 2 1) rfl (F 2 2) rfl (F 4 1) rfl (F 4 2) rfl (F 6 1) rfl (F 6 2) rfl (F 8 1) rfl (F 8 2) rfl (A 3) rfl (A 5) rfl (A 7) rfl (A 9) rfl   (show inr (a1) by first | assumption | omega) (show inr (a2) by first | assumption | omega) (show ((N 1 : Int)) = 4 from f0_9) (show 0 ≤ (F 2 1) ∧ (F 2 1) ≤ ((N 3 : Int)) ∧ ((N 3 : Int)) ≤ 65536 from f0_0) (show 0 ≤ (F 4 1) ∧ (F 4 1) ≤ ((N 5 : Int)) ∧ ((N 5 : Int)) ≤ 65536 from f0_1) (show 0 ≤ (F 6 1) ∧ (F 6 1) ≤ ((N 7 : Int)) ∧ ((N 7 : Int)) ≤ 65536 from f0_2) (show 0 ≤ (F 8 1) ∧ (F 8 1) ≤ ((N 9 : Int)) ∧ ((N 9 : Int)) ≤ 65536 from f0_3) (show (F 2 2) = 0 from f0_17) (show (F 4 2) = 0 from f0_18) (show (F 6 2) = 0 from f0_19) (show (F 8 2) = 0 from f0_20) (fun z σₚ Fₚ Aₚ Hₚ O sf sa y2_1 ey2_1 y4_1 ey4_1 y6_1 ey6_1 y8_1 ey8_1 q0 q1 q2 q3 q4 q5 q6 q7 q8 q9 q10 q11 q12 q13 q14 q15 q16 q17 => ?_)
  · skip
    subst ey2_1 ey4_1 ey6_1 ey8_1
    have sd : SD [] (pul ι_cut D) (pul ι_cut D) := SD_refl
    have sn : SD [] (pul ι_cut N) (pul ι_cut N) := SD_refl
    have : Aₚ 3 = A 3 := funext (sa 3 rfl)
    have : Aₚ 5 = A 5 := funext (sa 5 rfl)
    have : Aₚ 7 = A 7 := funext (sa 7 rfl)
    have : Aₚ 9 = A 9 := funext (sa 9 rfl)
    refine k z _ (glu ι_cut D (pul ι_cut D)) (glu ι_cut N (pul ι_cut N)) (glu ι_cut F Fₚ) (glu ι_cut A Aₚ) _ _ ⟨HWs_call HX VPH_3 vs_cut hp Hₚ O, STC_call HT HX vs_cut hp O, hg0, PFI_glue (dl := []) hPF sf sa sd (by decide +kernel) (rexc_of (l := []) (by decide +kernel) ?_), ABS_glue hAB sf (by decide +kernel), NZ_glue hNZ vs_cut hp sn (by decide +kernel), hGI, ?_, ?_, ?_, ?_, ?_, ?_, ?_, ?_, ?_, ?_⟩ ⟨(STP0_call (STY_call vs_cut hp O) (sd 0 rfl) (RM_call vs_cut O)), unt1_of (x := 10) (by decide +kernel) (fun p hp => funext (sa p hp))⟩ (EQD_glue sf sa sd sn (by decide +kernel)) (show z = 0 ∨ z = 1 by first | assumption | omega | rfl) (show 0 ≤ a1 ∧ a1 ≤ 3 ∨ z = 0 by first | assumption | omega | rfl) (show IMP (a1 = 0) (CHQ (0 ≤ a2 ∧ a2 ≤ ((sc ((A 3)) 0 ((F 2 1))).length : Int)) (sc ((A 3)) 0 ((F 2 1))) ((sc ((A 3)) 0 ((F 2 1))).take (a2 : Int).toNat) (z) (sc ((Aₚ 3)) 0 ((Fₚ 2 1)))) by first | assumption | (rw [show Aₚ 3 = A 3 from funext (sa 3 rfl)]; assumption) | omega | rfl) (show IMP (a1 = 1) (CHQ (0 ≤ a2 ∧ a2 ≤ ((sc ((A 5)) 0 ((F 4 1))).length : Int)) (sc ((A 5)) 0 ((F 4 1))) ((sc ((A 5)) 0 ((F 4 1))).take (a2 : Int).toNat) (z) (sc ((Aₚ 5)) 0 ((Fₚ 4 1)))) by first | assumption | (rw [show Aₚ 5 = A 5 from funext (sa 5 rfl)]; assumption) | omega | rfl) (show IMP (a1 = 2) (CHQ (0 ≤ a2 ∧ a2 ≤ ((sc ((A 7)) 0 ((F 6 1))).length : Int)) (sc ((A 7)) 0 ((F 6 1))) ((sc ((A 7)) 0 ((F 6 1))).take (a2 : Int).toNat) (z) (sc ((Aₚ 7)) 0 ((Fₚ 6 1)))) by first | assumption | (rw [show Aₚ 7 = A 7 from funext (sa 7 rfl)]; assumption) | omega | rfl) (show IMP (a1 = 3) (CHQ (0 ≤ a2 ∧ a2 ≤ ((sc ((A 9)) 0 ((F 8 1))).length : Int)) (sc ((A 9)) 0 ((F 8 1))) ((sc ((A 9)) 0 ((F 8 1))).take (a2 : Int).toNat) (z) (sc ((Aₚ 9)) 0 ((Fₚ 8 1)))) by first | assumption | (rw [show Aₚ 9 = A 9 from funext (sa 9 rfl)]; assumption) | omega | rfl) (show IMP (a1 ≠ 0) (sc ((Aₚ 3)) 0 ((Fₚ 2 1)) = sc ((A 3)) 0 ((F 2 1))) by first | assumption | (rw [show Aₚ 3 = A 3 from funext (sa 3 rfl)]; assumption) | omega | rfl) (show IMP (a1 ≠ 1) (sc ((Aₚ 5)) 0 ((Fₚ 4 1)) = sc ((A 5)) 0 ((F 4 1))) by first | assumption | (rw [show Aₚ 5 = A 5 from funext (sa 5 rfl)]; assumption) | omega | rfl) (show IMP (a1 ≠ 2) (sc ((Aₚ 7)) 0 ((Fₚ 6 1)) = sc ((A 7)) 0 ((F 6 1))) by first | assumption | (rw [show Aₚ 7 = A 7 from funext (sa 7 rfl)]; assumption) | omega | rfl) (show IMP (a1 ≠ 3) (sc ((Aₚ 9)) 0 ((Fₚ 8 1)) = sc ((A 9)) 0 ((F 8 1))) by first | assumption | (rw [show Aₚ 9 = A 9 from funext (sa 9 rfl)]; assumption) | omega | rfl)
    · intro e he h1 h2
      cases he
    · skip
      exact ⟨show 0 ≤ (Fₚ 2 1) ∧ (Fₚ 2 1) ≤ ((N 3 : Int)) ∧ ((N 3 : Int)) ≤ 65536 from (by first | assumption | omega), show 0 ≤ (Fₚ 4 1) ∧ (Fₚ 4 1) ≤ ((N 5 : Int)) ∧ ((N 5 : Int)) ≤ 65536 from (by first | assumption | omega), show 0 ≤ (Fₚ 6 1) ∧ (Fₚ 6 1) ≤ ((N 7 : Int)) ∧ ((N 7 : Int)) ≤ 65536 from (by first | assumption | omega), show 0 ≤ (Fₚ 8 1) ∧ (Fₚ 8 1) ≤ ((N 9 : Int)) ∧ ((N 9 : Int)) ≤ 65536 from (by first | assumption | omega), QF0_4_eq (EQD_glue sf sa sd sn (by decide +kernel)) f0_4, QF0_5_eq (EQD_glue sf sa sd sn (by decide +kernel)) f0_5, QF0_6_eq (EQD_glue sf sa sd sn (by decide +kernel)) f0_6, QF0_7_eq (EQD_glue sf sa sd sn (by decide +kernel)) f0_7, QF0_8_eq (EQD_glue sf sa sd sn (by decide +kernel)) f0_8, QF0_9_eq (EQD_glue sf sa sd sn (by decide +kernel)) f0_9, QF0_10_eq (EQD_glue sf sa sd sn (by decide +kernel)) f0_10, QF0_11_eq (EQD_glue sf sa sd sn (by decide +kernel)) f0_11, QF0_12_eq (EQD_glue sf sa sd sn (by decide +kernel)) f0_12, QF0_13_eq (EQD_glue sf sa sd sn (by decide +kernel)) f0_13, QF0_14_eq (EQD_glue sf sa sd sn (by decide +kernel)) f0_14, QF0_15_eq (EQD_glue sf sa sd sn (by decide +kernel)) f0_15, QF0_16_eq (EQD_glue sf sa sd sn (by decide +kernel)) f0_16, QF0_17_eq (EQD_glue sf sa sd sn (by decide +kernel)) f0_17, QF0_18_eq (EQD_glue sf sa sd sn (by decide +kernel)) f0_18, QF0_19_eq (EQD_glue sf sa sd sn (by decide +kernel)) f0_19, QF0_20_eq (EQD_glue sf sa sd sn (by decide +kernel)) f0_20, QF0_21_eq (EQD_glue sf sa sd sn (by decide +kernel)) f0_21, QF0_22_eq (EQD_glue sf sa sd sn (by decide +kernel)) f0_22, QF0_23_eq (EQD_glue sf sa sd sn (by decide +kernel)) f0_23, QF0_24_eq (EQD_glue sf sa sd sn (by decide +kernel)) f0_24⟩
    · exact fun h => INV1_eq (EQD_glue sf sa sd sn (by decide +kernel)) (hI1 h)
    · exact fun h => INV2_eq (EQD_glue sf sa sd sn (by decide +kernel)) (hI2 h)
    · exact fun h => INV3_eq (EQD_glue sf sa sd sn (by decide +kernel)) (hI3 h)
    · exact fun h => INV4_eq (EQD_glue sf sa sd sn (by decide +kernel)) (hI4 h)
    · exact fun h => INV5_eq (EQD_glue sf sa sd sn (by decide +kernel)) (hI5 h)
    · exact fun h => INV6_eq (EQD_glue sf sa sd sn (by decide +kernel)) (hI6 h)
    · exact fun h => INV7_eq (EQD_glue sf sa sd sn (by decide +kernel)) (hI7 h)
    · exact fun h => INV8_eq (EQD_glue sf sa sd sn (by decide +kernel)) (hI8 h)
    · exact fun h => INV9_eq (EQD_glue sf sa sd sn (by decide +kernel)) (hI9 h)
def ι_size : List Nat := [0, 1, 2, 3, 4, 5, 6, 7, 8, 9]
theorem vs_size : VS VPH V6 ι_size := VS_of (by decide +kernel)
set_option maxRecDepth 20000 in
theorem T_size {Dc : DcS} {g : Nat → Bool} {σ : rS} {D N : Nat → Nat} {F : hF} {A : hA} {d c s : Nat} {Q : wQ} (X : PHI Dc g σ D N F A)  {a1 : Int}  (h0 : inr a1)  (k : ∀ (z : Int) (σₚ : rS) (Dₚ Nₚ : Nat → Nat) (Fₚ : hF) (Aₚ : hA) (cₚ sₚ : Nat), PHI Dc g σₚ Dₚ Nₚ Fₚ Aₚ → STP g σ D N A c s g σₚ Dₚ Nₚ Aₚ cₚ sₚ → EQD [(2, 1), (4, 1), (6, 1), (8, 1), (11, 1), (0, 18), (25, 1)] [3, 5, 7, 9, 12, 10, 29, 30, 32, 26] [] [] D N F A Dₚ Nₚ Fₚ Aₚ → (inr z) → (0 ≤ a1 ∧ a1 ≤ 3 ∨ z = -1) → (IMP (a1 = 0) (z = ((sc ((A 3)) 0 ((F 2 1))).length : Int))) → (IMP (a1 = 1) (z = ((sc ((A 5)) 0 ((F 4 1))).length : Int))) → (IMP (a1 = 2) (z = ((sc ((A 7)) 0 ((F 6 1))).length : Int))) → (IMP (a1 = 3) (z = ((sc ((A 9)) 0 ((F 8 1))).length : Int))) → Q (some (I z)) σₚ cₚ sₚ) : Ew 6 (d + 1) 0 (rargs 0 [.ref (D 0), I a1]) [] σ c s Q := by
  obtain ⟨HX, HT, hg0, hPF, hAB, hNZ, hGI, hI0, hI1, hI2, hI3, hI4, hI5, hI6, hI7, hI8, hI9⟩ := X
  have hset := SETI_f hI0.2.2.2.2.2.2.2.2.2.2.2.2.2.2.2.2.2.2.2.2.2.2.2.2
  have hJ0 := hI0
  unfold INV0 at hJ0
  obtain ⟨f0_0, f0_1, f0_2, f0_3, f0_4, f0_5, f0_6, f0_7, f0_8, f0_9, f0_10, f0_11, f0_12, f0_13, f0_14, f0_15, f0_16, f0_17, f0_18, f0_19, f0_20, f0_21, f0_22, f0_23, f0_24⟩ := hJ0
  have hp : ∀ x, x < (V6).length → SPH g (ι_size.getD x 0) = true := SPH_of (gs := [0]) (by intro j hj; simp at hj; subst hj; exact hg0) rfl (by decide +kernel)
  refine C6p (D := pul ι_size D) (N := pul ι_size N) (F := pul ι_size F) (A := pul ι_size A) (HWs_sub HX vs_size hp) (show F 0 0 = (D 1 : Int) from hPF (0, 0, 0, 1) (List.mem_of_getElem? (i := 0) rfl) hg0 hg0) (show A 1 0 = (D 2 : Int) from hPF (1, 1, 0, 2) (List.mem_of_getElem? (i := 1) rfl) hg0 hg0) (show F 2 0 = (D 3 : Int) from hPF (0, 2, 0, 3) (List.mem_of_getElem? (i := 2) rfl) hg0 hg0) (show A 1 1 = (D 4 : Int) from hPF (1, 1, 1, 4) (List.mem_of_getElem? (i := 3) rfl) hg0 hg0) (show F 4 0 = (D 5 : Int) from hPF (0, 4, 0, 5) (List.mem_of_getElem? (i := 4) rfl) hg0 hg0) (show A 1 2 = (D 6 : Int) from hPF (1, 1, 2, 6) (List.mem_of_getElem? (i := 5) rfl) hg0 hg0) (show F 6 0 = (D 7 : Int) from hPF (0, 6, 0, 7) (List.mem_of_getElem? (i := 6) rfl) hg0 hg0) (show A 1 3 = (D 8 : Int) from hPF (1, 1, 3, 8) (List.mem_of_getElem? (i := 7) rfl) hg0 hg0) (show F 8 0 = (D 9 : Int) from hPF (0, 8, 0, 9) (List.mem_of_getElem? (i := 8) rfl) hg0 hg0) (N 1 : Int) rfl (N 3 : Int) rfl (N 5 : Int) rfl (N 7 : Int) rfl (N 9 : Int) rfl (F 2 1) rfl (F 4 1) rfl (F 6 1) rfl (F 8 1) rfl (A 3) rfl (A 5) rfl (A 7) rfl (A 9) rfl   (show inr (a1) by first | assumption | omega) (show ((N 1 : Int)) = 4 from f0_9) (show 0 ≤ (F 2 1) ∧ (F 2 1) ≤ ((N 3 : Int)) ∧ ((N 3 : Int)) ≤ 65536 from f0_0) (show 0 ≤ (F 4 1) ∧ (F 4 1) ≤ ((N 5 : Int)) ∧ ((N 5 : Int)) ≤ 65536 from f0_1) (show 0 ≤ (F 6 1) ∧ (F 6 1) ≤ ((N 7 : Int)) ∧ ((N 7 : Int)) ≤ 65536 from f0_2) (show 0 ≤ (F 8 1) ∧ (F 8 1) ≤ ((N 9 : Int)) ∧ ((N 9 : Int)) ≤ 65536 from f0_3) (fun z σₚ Fₚ Aₚ Hₚ O sf sa q0 q1 q2 q3 q4 q5 => ?_)
  · skip
    have sd : SD [] (pul ι_size D) (pul ι_size D) := SD_refl
    have sn : SD [] (pul ι_size N) (pul ι_size N) := SD_refl
    have : Fₚ 2 1 = F 2 1 := sf 2 1 rfl
    have : Aₚ 3 = A 3 := funext (sa 3 rfl)
    have : Fₚ 4 1 = F 4 1 := sf 4 1 rfl
    have : Aₚ 5 = A 5 := funext (sa 5 rfl)
    have : Fₚ 6 1 = F 6 1 := sf 6 1 rfl
    have : Aₚ 7 = A 7 := funext (sa 7 rfl)
    have : Fₚ 8 1 = F 8 1 := sf 8 1 rfl
    have : Aₚ 9 = A 9 := funext (sa 9 rfl)
    refine k z _ (glu ι_size D (pul ι_size D)) (glu ι_size N (pul ι_size N)) (glu ι_size F Fₚ) (glu ι_size A Aₚ) _ _ ⟨HWs_call HX VPH_3 vs_size hp Hₚ O, STC_call HT HX vs_size hp O, hg0, PFI_glue (dl := []) hPF sf sa sd (by decide +kernel) (rexc_of (l := []) (by decide +kernel) ?_), ABS_glue hAB sf (by decide +kernel), NZ_glue hNZ vs_size hp sn (by decide +kernel), hGI, ?_, ?_, ?_, ?_, ?_, ?_, ?_, ?_, ?_, ?_⟩ ⟨(STP0_call (STY_call vs_size hp O) (sd 0 rfl) (RM_call vs_size O)), unt1_of (x := 10) (by decide +kernel) (fun p hp => funext (sa p hp))⟩ (EQD_glue sf sa sd sn (by decide +kernel)) (show inr z by first | assumption | omega | rfl) (show 0 ≤ a1 ∧ a1 ≤ 3 ∨ z = -1 by first | assumption | omega | rfl) (show IMP (a1 = 0) (z = ((sc ((A 3)) 0 ((F 2 1))).length : Int)) by first | assumption | omega | rfl) (show IMP (a1 = 1) (z = ((sc ((A 5)) 0 ((F 4 1))).length : Int)) by first | assumption | omega | rfl) (show IMP (a1 = 2) (z = ((sc ((A 7)) 0 ((F 6 1))).length : Int)) by first | assumption | omega | rfl) (show IMP (a1 = 3) (z = ((sc ((A 9)) 0 ((F 8 1))).length : Int)) by first | assumption | omega | rfl)
    · intro e he h1 h2
      cases he
    · exact INV0_eq (EQD_glue sf sa sd sn (by decide +kernel)) hI0
    · exact fun h => INV1_eq (EQD_glue sf sa sd sn (by decide +kernel)) (hI1 h)
    · exact fun h => INV2_eq (EQD_glue sf sa sd sn (by decide +kernel)) (hI2 h)
    · exact fun h => INV3_eq (EQD_glue sf sa sd sn (by decide +kernel)) (hI3 h)
    · exact fun h => INV4_eq (EQD_glue sf sa sd sn (by decide +kernel)) (hI4 h)
    · exact fun h => INV5_eq (EQD_glue sf sa sd sn (by decide +kernel)) (hI5 h)
    · exact fun h => INV6_eq (EQD_glue sf sa sd sn (by decide +kernel)) (hI6 h)
    · exact fun h => INV7_eq (EQD_glue sf sa sd sn (by decide +kernel)) (hI7 h)
    · exact fun h => INV8_eq (EQD_glue sf sa sd sn (by decide +kernel)) (hI8 h)
    · exact fun h => INV9_eq (EQD_glue sf sa sd sn (by decide +kernel)) (hI9 h)
def ι_byteAt : List Nat := [0, 1, 2, 3, 4, 5, 6, 7, 8, 9]
theorem vs_byteAt : VS VPH V7 ι_byteAt := VS_of (by decide +kernel)
set_option maxRecDepth 20000 in
theorem T_byteAt {Dc : DcS} {g : Nat → Bool} {σ : rS} {D N : Nat → Nat} {F : hF} {A : hA} {d c s : Nat} {Q : wQ} (X : PHI Dc g σ D N F A)  {a1 a2 : Int}  (h0 : inr a1) (h1 : inr a2)  (k : ∀ (z : Int) (σₚ : rS) (Dₚ Nₚ : Nat → Nat) (Fₚ : hF) (Aₚ : hA) (cₚ sₚ : Nat), PHI Dc g σₚ Dₚ Nₚ Fₚ Aₚ → STP g σ D N A c s g σₚ Dₚ Nₚ Aₚ cₚ sₚ → EQD [(2, 1), (4, 1), (6, 1), (8, 1), (11, 1), (0, 18), (25, 1)] [3, 5, 7, 9, 12, 10, 29, 30, 32, 26] [] [] D N F A Dₚ Nₚ Fₚ Aₚ → (inr z) → (0 ≤ a1 ∧ a1 ≤ 3 ∨ z = -1) → (IMP (a1 = 0) ((0 ≤ a2 ∧ a2 < ((sc ((A 3)) 0 ((F 2 1))).length : Int)) ∧ z = ap (sc ((A 3)) 0 ((F 2 1))) (a2) ∨ ¬ (0 ≤ a2 ∧ a2 < ((sc ((A 3)) 0 ((F 2 1))).length : Int)) ∧ z = -1)) → (IMP (a1 = 1) ((0 ≤ a2 ∧ a2 < ((sc ((A 5)) 0 ((F 4 1))).length : Int)) ∧ z = ap (sc ((A 5)) 0 ((F 4 1))) (a2) ∨ ¬ (0 ≤ a2 ∧ a2 < ((sc ((A 5)) 0 ((F 4 1))).length : Int)) ∧ z = -1)) → (IMP (a1 = 2) ((0 ≤ a2 ∧ a2 < ((sc ((A 7)) 0 ((F 6 1))).length : Int)) ∧ z = ap (sc ((A 7)) 0 ((F 6 1))) (a2) ∨ ¬ (0 ≤ a2 ∧ a2 < ((sc ((A 7)) 0 ((F 6 1))).length : Int)) ∧ z = -1)) → (IMP (a1 = 3) ((0 ≤ a2 ∧ a2 < ((sc ((A 9)) 0 ((F 8 1))).length : Int)) ∧ z = ap (sc ((A 9)) 0 ((F 8 1))) (a2) ∨ ¬ (0 ≤ a2 ∧ a2 < ((sc ((A 9)) 0 ((F 8 1))).length : Int)) ∧ z = -1)) → Q (some (I z)) σₚ cₚ sₚ) : Ew 7 (d + 1) 0 (rargs 0 [.ref (D 0), I a1, I a2]) [] σ c s Q := by
  obtain ⟨HX, HT, hg0, hPF, hAB, hNZ, hGI, hI0, hI1, hI2, hI3, hI4, hI5, hI6, hI7, hI8, hI9⟩ := X
  have hset := SETI_f hI0.2.2.2.2.2.2.2.2.2.2.2.2.2.2.2.2.2.2.2.2.2.2.2.2
  have hJ0 := hI0
  unfold INV0 at hJ0
  obtain ⟨f0_0, f0_1, f0_2, f0_3, f0_4, f0_5, f0_6, f0_7, f0_8, f0_9, f0_10, f0_11, f0_12, f0_13, f0_14, f0_15, f0_16, f0_17, f0_18, f0_19, f0_20, f0_21, f0_22, f0_23, f0_24⟩ := hJ0
  have hp : ∀ x, x < (V7).length → SPH g (ι_byteAt.getD x 0) = true := SPH_of (gs := [0]) (by intro j hj; simp at hj; subst hj; exact hg0) rfl (by decide +kernel)
  refine C7p (D := pul ι_byteAt D) (N := pul ι_byteAt N) (F := pul ι_byteAt F) (A := pul ι_byteAt A) (HWs_sub HX vs_byteAt hp) (show F 0 0 = (D 1 : Int) from hPF (0, 0, 0, 1) (List.mem_of_getElem? (i := 0) rfl) hg0 hg0) (show A 1 0 = (D 2 : Int) from hPF (1, 1, 0, 2) (List.mem_of_getElem? (i := 1) rfl) hg0 hg0) (show F 2 0 = (D 3 : Int) from hPF (0, 2, 0, 3) (List.mem_of_getElem? (i := 2) rfl) hg0 hg0) (show A 1 1 = (D 4 : Int) from hPF (1, 1, 1, 4) (List.mem_of_getElem? (i := 3) rfl) hg0 hg0) (show F 4 0 = (D 5 : Int) from hPF (0, 4, 0, 5) (List.mem_of_getElem? (i := 4) rfl) hg0 hg0) (show A 1 2 = (D 6 : Int) from hPF (1, 1, 2, 6) (List.mem_of_getElem? (i := 5) rfl) hg0 hg0) (show F 6 0 = (D 7 : Int) from hPF (0, 6, 0, 7) (List.mem_of_getElem? (i := 6) rfl) hg0 hg0) (show A 1 3 = (D 8 : Int) from hPF (1, 1, 3, 8) (List.mem_of_getElem? (i := 7) rfl) hg0 hg0) (show F 8 0 = (D 9 : Int) from hPF (0, 8, 0, 9) (List.mem_of_getElem? (i := 8) rfl) hg0 hg0) (N 1 : Int) rfl (N 3 : Int) rfl (N 5 : Int) rfl (N 7 : Int) rfl (N 9 : Int) rfl (F 2 1) rfl (F 4 1) rfl (F 6 1) rfl (F 8 1) rfl (A 3) rfl (A 5) rfl (A 7) rfl (A 9) rfl   (show inr (a1) by first | assumption | omega) (show inr (a2) by first | assumption | omega) (show ((N 1 : Int)) = 4 from f0_9) (show 0 ≤ (F 2 1) ∧ (F 2 1) ≤ ((N 3 : Int)) ∧ ((N 3 : Int)) ≤ 65536 from f0_0) (show 0 ≤ (F 4 1) ∧ (F 4 1) ≤ ((N 5 : Int)) ∧ ((N 5 : Int)) ≤ 65536 from f0_1) (show 0 ≤ (F 6 1) ∧ (F 6 1) ≤ ((N 7 : Int)) ∧ ((N 7 : Int)) ≤ 65536 from f0_2) (show 0 ≤ (F 8 1) ∧ (F 8 1) ≤ ((N 9 : Int)) ∧ ((N 9 : Int)) ≤ 65536 from f0_3) (fun z σₚ Fₚ Aₚ Hₚ O sf sa q0 q1 q2 q3 q4 q5 => ?_)
  · skip
    have sd : SD [] (pul ι_byteAt D) (pul ι_byteAt D) := SD_refl
    have sn : SD [] (pul ι_byteAt N) (pul ι_byteAt N) := SD_refl
    have : Fₚ 2 1 = F 2 1 := sf 2 1 rfl
    have : Aₚ 3 = A 3 := funext (sa 3 rfl)
    have : Fₚ 4 1 = F 4 1 := sf 4 1 rfl
    have : Aₚ 5 = A 5 := funext (sa 5 rfl)
    have : Fₚ 6 1 = F 6 1 := sf 6 1 rfl
    have : Aₚ 7 = A 7 := funext (sa 7 rfl)
    have : Fₚ 8 1 = F 8 1 := sf 8 1 rfl
    have : Aₚ 9 = A 9 := funext (sa 9 rfl)
    refine k z _ (glu ι_byteAt D (pul ι_byteAt D)) (glu ι_byteAt N (pul ι_byteAt N)) (glu ι_byteAt F Fₚ) (glu ι_byteAt A Aₚ) _ _ ⟨HWs_call HX VPH_3 vs_byteAt hp Hₚ O, STC_call HT HX vs_byteAt hp O, hg0, PFI_glue (dl := []) hPF sf sa sd (by decide +kernel) (rexc_of (l := []) (by decide +kernel) ?_), ABS_glue hAB sf (by decide +kernel), NZ_glue hNZ vs_byteAt hp sn (by decide +kernel), hGI, ?_, ?_, ?_, ?_, ?_, ?_, ?_, ?_, ?_, ?_⟩ ⟨(STP0_call (STY_call vs_byteAt hp O) (sd 0 rfl) (RM_call vs_byteAt O)), unt1_of (x := 10) (by decide +kernel) (fun p hp => funext (sa p hp))⟩ (EQD_glue sf sa sd sn (by decide +kernel)) (show inr z by first | assumption | omega | rfl) (show 0 ≤ a1 ∧ a1 ≤ 3 ∨ z = -1 by first | assumption | omega | rfl) (show IMP (a1 = 0) ((0 ≤ a2 ∧ a2 < ((sc ((A 3)) 0 ((F 2 1))).length : Int)) ∧ z = ap (sc ((A 3)) 0 ((F 2 1))) (a2) ∨ ¬ (0 ≤ a2 ∧ a2 < ((sc ((A 3)) 0 ((F 2 1))).length : Int)) ∧ z = -1) by first | assumption | omega | rfl) (show IMP (a1 = 1) ((0 ≤ a2 ∧ a2 < ((sc ((A 5)) 0 ((F 4 1))).length : Int)) ∧ z = ap (sc ((A 5)) 0 ((F 4 1))) (a2) ∨ ¬ (0 ≤ a2 ∧ a2 < ((sc ((A 5)) 0 ((F 4 1))).length : Int)) ∧ z = -1) by first | assumption | omega | rfl) (show IMP (a1 = 2) ((0 ≤ a2 ∧ a2 < ((sc ((A 7)) 0 ((F 6 1))).length : Int)) ∧ z = ap (sc ((A 7)) 0 ((F 6 1))) (a2) ∨ ¬ (0 ≤ a2 ∧ a2 < ((sc ((A 7)) 0 ((F 6 1))).length : Int)) ∧ z = -1) by first | assumption | omega | rfl) (show IMP (a1 = 3) ((0 ≤ a2 ∧ a2 < ((sc ((A 9)) 0 ((F 8 1))).length : Int)) ∧ z = ap (sc ((A 9)) 0 ((F 8 1))) (a2) ∨ ¬ (0 ≤ a2 ∧ a2 < ((sc ((A 9)) 0 ((F 8 1))).length : Int)) ∧ z = -1) by first | assumption | omega | rfl)
    · intro e he h1 h2
      cases he
    · exact INV0_eq (EQD_glue sf sa sd sn (by decide +kernel)) hI0
    · exact fun h => INV1_eq (EQD_glue sf sa sd sn (by decide +kernel)) (hI1 h)
    · exact fun h => INV2_eq (EQD_glue sf sa sd sn (by decide +kernel)) (hI2 h)
    · exact fun h => INV3_eq (EQD_glue sf sa sd sn (by decide +kernel)) (hI3 h)
    · exact fun h => INV4_eq (EQD_glue sf sa sd sn (by decide +kernel)) (hI4 h)
    · exact fun h => INV5_eq (EQD_glue sf sa sd sn (by decide +kernel)) (hI5 h)
    · exact fun h => INV6_eq (EQD_glue sf sa sd sn (by decide +kernel)) (hI6 h)
    · exact fun h => INV7_eq (EQD_glue sf sa sd sn (by decide +kernel)) (hI7 h)
    · exact fun h => INV8_eq (EQD_glue sf sa sd sn (by decide +kernel)) (hI8 h)
    · exact fun h => INV9_eq (EQD_glue sf sa sd sn (by decide +kernel)) (hI9 h)
def ι_differ : List Nat := [0, 1, 2, 3, 4, 5, 6, 7, 8, 9]
theorem vs_differ : VS VPH V8 ι_differ := VS_of (by decide +kernel)
set_option maxRecDepth 20000 in
theorem T_differ {Dc : DcS} {g : Nat → Bool} {σ : rS} {D N : Nat → Nat} {F : hF} {A : hA} {d c s : Nat} {Q : wQ} (X : PHI Dc g σ D N F A)  {a1 a2 : Int}  (h0 : inr a1) (h1 : inr a2)  (k : ∀ (z : Int) (σₚ : rS) (Dₚ Nₚ : Nat → Nat) (Fₚ : hF) (Aₚ : hA) (cₚ sₚ : Nat), PHI Dc g σₚ Dₚ Nₚ Fₚ Aₚ → STP g σ D N A c s g σₚ Dₚ Nₚ Aₚ cₚ sₚ → EQD [(2, 1), (4, 1), (6, 1), (8, 1), (11, 1), (0, 18), (25, 1)] [3, 5, 7, 9, 12, 10, 29, 30, 32, 26] [] [] D N F A Dₚ Nₚ Fₚ Aₚ → (inr z) → (DFP (rw4 (sc ((A 3)) 0 ((F 2 1))) (sc ((A 5)) 0 ((F 4 1))) (sc ((A 7)) 0 ((F 6 1))) (sc ((A 9)) 0 ((F 8 1)))) (a1) (a2) (z)) → Q (some (I z)) σₚ cₚ sₚ) : Ew 8 (d + 1) 0 (rargs 0 [.ref (D 0), I a1, I a2]) [] σ c s Q := by
  obtain ⟨HX, HT, hg0, hPF, hAB, hNZ, hGI, hI0, hI1, hI2, hI3, hI4, hI5, hI6, hI7, hI8, hI9⟩ := X
  have hset := SETI_f hI0.2.2.2.2.2.2.2.2.2.2.2.2.2.2.2.2.2.2.2.2.2.2.2.2
  have hJ0 := hI0
  unfold INV0 at hJ0
  obtain ⟨f0_0, f0_1, f0_2, f0_3, f0_4, f0_5, f0_6, f0_7, f0_8, f0_9, f0_10, f0_11, f0_12, f0_13, f0_14, f0_15, f0_16, f0_17, f0_18, f0_19, f0_20, f0_21, f0_22, f0_23, f0_24⟩ := hJ0
  have hp : ∀ x, x < (V8).length → SPH g (ι_differ.getD x 0) = true := SPH_of (gs := [0]) (by intro j hj; simp at hj; subst hj; exact hg0) rfl (by decide +kernel)
  refine C8p (D := pul ι_differ D) (N := pul ι_differ N) (F := pul ι_differ F) (A := pul ι_differ A) (HWs_sub HX vs_differ hp) (show F 0 0 = (D 1 : Int) from hPF (0, 0, 0, 1) (List.mem_of_getElem? (i := 0) rfl) hg0 hg0) (show A 1 0 = (D 2 : Int) from hPF (1, 1, 0, 2) (List.mem_of_getElem? (i := 1) rfl) hg0 hg0) (show F 2 0 = (D 3 : Int) from hPF (0, 2, 0, 3) (List.mem_of_getElem? (i := 2) rfl) hg0 hg0) (show A 1 1 = (D 4 : Int) from hPF (1, 1, 1, 4) (List.mem_of_getElem? (i := 3) rfl) hg0 hg0) (show F 4 0 = (D 5 : Int) from hPF (0, 4, 0, 5) (List.mem_of_getElem? (i := 4) rfl) hg0 hg0) (show A 1 2 = (D 6 : Int) from hPF (1, 1, 2, 6) (List.mem_of_getElem? (i := 5) rfl) hg0 hg0) (show F 6 0 = (D 7 : Int) from hPF (0, 6, 0, 7) (List.mem_of_getElem? (i := 6) rfl) hg0 hg0) (show A 1 3 = (D 8 : Int) from hPF (1, 1, 3, 8) (List.mem_of_getElem? (i := 7) rfl) hg0 hg0) (show F 8 0 = (D 9 : Int) from hPF (0, 8, 0, 9) (List.mem_of_getElem? (i := 8) rfl) hg0 hg0) (N 1 : Int) rfl (N 3 : Int) rfl (N 5 : Int) rfl (N 7 : Int) rfl (N 9 : Int) rfl (F 2 1) rfl (F 4 1) rfl (F 6 1) rfl (F 8 1) rfl (A 3) rfl (A 5) rfl (A 7) rfl (A 9) rfl   (show inr (a1) by first | assumption | omega) (show inr (a2) by first | assumption | omega) (show ((N 1 : Int)) = 4 from f0_9) (show 0 ≤ (F 2 1) ∧ (F 2 1) ≤ ((N 3 : Int)) ∧ ((N 3 : Int)) ≤ 65536 from f0_0) (show 0 ≤ (F 4 1) ∧ (F 4 1) ≤ ((N 5 : Int)) ∧ ((N 5 : Int)) ≤ 65536 from f0_1) (show 0 ≤ (F 6 1) ∧ (F 6 1) ≤ ((N 7 : Int)) ∧ ((N 7 : Int)) ≤ 65536 from f0_2) (show 0 ≤ (F 8 1) ∧ (F 8 1) ≤ ((N 9 : Int)) ∧ ((N 9 : Int)) ≤ 65536 from f0_3) (fun z σₚ Fₚ Aₚ Hₚ O sf sa q0 q1 => ?_)
  · skip
    have sd : SD [] (pul ι_differ D) (pul ι_differ D) := SD_refl
    have sn : SD [] (pul ι_differ N) (pul ι_differ N) := SD_refl
    have : Fₚ 2 1 = F 2 1 := sf 2 1 rfl
    have : Fₚ 4 1 = F 4 1 := sf 4 1 rfl
    have : Fₚ 6 1 = F 6 1 := sf 6 1 rfl
    have : Fₚ 8 1 = F 8 1 := sf 8 1 rfl
    have : Aₚ 3 = A 3 := funext (sa 3 rfl)
    have : Aₚ 5 = A 5 := funext (sa 5 rfl)
    have : Aₚ 7 = A 7 := funext (sa 7 rfl)
    have : Aₚ 9 = A 9 := funext (sa 9 rfl)
    refine k z _ (glu ι_differ D (pul ι_differ D)) (glu ι_differ N (pul ι_differ N)) (glu ι_differ F Fₚ) (glu ι_differ A Aₚ) _ _ ⟨HWs_call HX VPH_3 vs_differ hp Hₚ O, STC_call HT HX vs_differ hp O, hg0, PFI_glue (dl := []) hPF sf sa sd (by decide +kernel) (rexc_of (l := []) (by decide +kernel) ?_), ABS_glue hAB sf (by decide +kernel), NZ_glue hNZ vs_differ hp sn (by decide +kernel), hGI, ?_, ?_, ?_, ?_, ?_, ?_, ?_, ?_, ?_, ?_⟩ ⟨(STP0_call (STY_call vs_differ hp O) (sd 0 rfl) (RM_call vs_differ O)), unt1_of (x := 10) (by decide +kernel) (fun p hp => funext (sa p hp))⟩ (EQD_glue sf sa sd sn (by decide +kernel)) (show inr z by first | assumption | omega | rfl) (show DFP (rw4 (sc ((A 3)) 0 ((F 2 1))) (sc ((A 5)) 0 ((F 4 1))) (sc ((A 7)) 0 ((F 6 1))) (sc ((A 9)) 0 ((F 8 1)))) (a1) (a2) (z) by first | assumption | omega | rfl)
    · intro e he h1 h2
      cases he
    · exact INV0_eq (EQD_glue sf sa sd sn (by decide +kernel)) hI0
    · exact fun h => INV1_eq (EQD_glue sf sa sd sn (by decide +kernel)) (hI1 h)
    · exact fun h => INV2_eq (EQD_glue sf sa sd sn (by decide +kernel)) (hI2 h)
    · exact fun h => INV3_eq (EQD_glue sf sa sd sn (by decide +kernel)) (hI3 h)
    · exact fun h => INV4_eq (EQD_glue sf sa sd sn (by decide +kernel)) (hI4 h)
    · exact fun h => INV5_eq (EQD_glue sf sa sd sn (by decide +kernel)) (hI5 h)
    · exact fun h => INV6_eq (EQD_glue sf sa sd sn (by decide +kernel)) (hI6 h)
    · exact fun h => INV7_eq (EQD_glue sf sa sd sn (by decide +kernel)) (hI7 h)
    · exact fun h => INV8_eq (EQD_glue sf sa sd sn (by decide +kernel)) (hI8 h)
    · exact fun h => INV9_eq (EQD_glue sf sa sd sn (by decide +kernel)) (hI9 h)
def ι_narrow : List Nat := [0, 1, 2, 3, 4, 5, 6, 7, 8, 9]
theorem vs_narrow : VS VPH V11 ι_narrow := VS_of (by decide +kernel)
set_option maxRecDepth 20000 in
theorem T_narrow {Dc : DcS} {g : Nat → Bool} {σ : rS} {D N : Nat → Nat} {F : hF} {A : hA} {d c s : Nat} {Q : wQ} (X : PHI Dc g σ D N F A)  {a1 a2 a3 a4 : Int}  (h0 : inr a1) (h1 : inr a2) (h2 : inr a3) (h3 : inr a4)  (k : ∀ (z : Int) (σₚ : rS) (Dₚ Nₚ : Nat → Nat) (Fₚ : hF) (Aₚ : hA) (cₚ sₚ : Nat), PHI Dc g σₚ Dₚ Nₚ Fₚ Aₚ → STP g σ D N A c s g σₚ Dₚ Nₚ Aₚ cₚ sₚ → EQD [(2, 1), (4, 1), (6, 1), (8, 1), (11, 1), (0, 18), (25, 1)] [3, 5, 7, 9, 12, 10, 29, 30, 32, 26] [] [] D N F A Dₚ Nₚ Fₚ Aₚ → (inr z) → (0 ≤ a1 ∧ a1 ≤ 3 ∨ z = 0) → (IMP (a1 = 0) (z = NSL (prL (sc ((A 3)) 0 ((F 2 1))) (a2) (a3)) (a4))) → (IMP (a1 = 1) (z = NSL (prL (sc ((A 5)) 0 ((F 4 1))) (a2) (a3)) (a4))) → (IMP (a1 = 2) (z = NSL (prL (sc ((A 7)) 0 ((F 6 1))) (a2) (a3)) (a4))) → (IMP (a1 = 3) (z = NSL (prL (sc ((A 9)) 0 ((F 8 1))) (a2) (a3)) (a4))) → Q (some (I z)) σₚ cₚ sₚ) : Ew 11 (d + 3) 0 (rargs 0 [.ref (D 0), I a1, I a2, I a3, I a4]) [] σ c s Q := by
  obtain ⟨HX, HT, hg0, hPF, hAB, hNZ, hGI, hI0, hI1, hI2, hI3, hI4, hI5, hI6, hI7, hI8, hI9⟩ := X
  have hset := SETI_f hI0.2.2.2.2.2.2.2.2.2.2.2.2.2.2.2.2.2.2.2.2.2.2.2.2
  have hJ0 := hI0
  unfold INV0 at hJ0
  obtain ⟨f0_0, f0_1, f0_2, f0_3, f0_4, f0_5, f0_6, f0_7, f0_8, f0_9, f0_10, f0_11, f0_12, f0_13, f0_14, f0_15, f0_16, f0_17, f0_18, f0_19, f0_20, f0_21, f0_22, f0_23, f0_24⟩ := hJ0
  have hp : ∀ x, x < (V11).length → SPH g (ι_narrow.getD x 0) = true := SPH_of (gs := [0]) (by intro j hj; simp at hj; subst hj; exact hg0) rfl (by decide +kernel)
  refine C11p (D := pul ι_narrow D) (N := pul ι_narrow N) (F := pul ι_narrow F) (A := pul ι_narrow A) (HWs_sub HX vs_narrow hp) (show F 0 0 = (D 1 : Int) from hPF (0, 0, 0, 1) (List.mem_of_getElem? (i := 0) rfl) hg0 hg0) (show A 1 0 = (D 2 : Int) from hPF (1, 1, 0, 2) (List.mem_of_getElem? (i := 1) rfl) hg0 hg0) (show F 2 0 = (D 3 : Int) from hPF (0, 2, 0, 3) (List.mem_of_getElem? (i := 2) rfl) hg0 hg0) (show A 1 1 = (D 4 : Int) from hPF (1, 1, 1, 4) (List.mem_of_getElem? (i := 3) rfl) hg0 hg0) (show F 4 0 = (D 5 : Int) from hPF (0, 4, 0, 5) (List.mem_of_getElem? (i := 4) rfl) hg0 hg0) (show A 1 2 = (D 6 : Int) from hPF (1, 1, 2, 6) (List.mem_of_getElem? (i := 5) rfl) hg0 hg0) (show F 6 0 = (D 7 : Int) from hPF (0, 6, 0, 7) (List.mem_of_getElem? (i := 6) rfl) hg0 hg0) (show A 1 3 = (D 8 : Int) from hPF (1, 1, 3, 8) (List.mem_of_getElem? (i := 7) rfl) hg0 hg0) (show F 8 0 = (D 9 : Int) from hPF (0, 8, 0, 9) (List.mem_of_getElem? (i := 8) rfl) hg0 hg0) (N 1 : Int) rfl (N 3 : Int) rfl (N 5 : Int) rfl (N 7 : Int) rfl (N 9 : Int) rfl (F 2 1) rfl (F 4 1) rfl (F 6 1) rfl (F 8 1) rfl (A 3) rfl (A 5) rfl (A 7) rfl (A 9) rfl   (show inr (a1) by first | assumption | omega) (show inr (a2) by first | assumption | omega) (show inr (a3) by first | assumption | omega) (show inr (a4) by first | assumption | omega) (show ((N 1 : Int)) = 4 from f0_9) (show 0 ≤ (F 2 1) ∧ (F 2 1) ≤ ((N 3 : Int)) ∧ ((N 3 : Int)) ≤ 65536 from f0_0) (show 0 ≤ (F 4 1) ∧ (F 4 1) ≤ ((N 5 : Int)) ∧ ((N 5 : Int)) ≤ 65536 from f0_1) (show 0 ≤ (F 6 1) ∧ (F 6 1) ≤ ((N 7 : Int)) ∧ ((N 7 : Int)) ≤ 65536 from f0_2) (show 0 ≤ (F 8 1) ∧ (F 8 1) ≤ ((N 9 : Int)) ∧ ((N 9 : Int)) ≤ 65536 from f0_3) (fun z σₚ Fₚ Aₚ Hₚ O sf sa q0 q1 q2 q3 q4 q5 => ?_)
  · skip
    have sd : SD [] (pul ι_narrow D) (pul ι_narrow D) := SD_refl
    have sn : SD [] (pul ι_narrow N) (pul ι_narrow N) := SD_refl
    have : Fₚ 2 1 = F 2 1 := sf 2 1 rfl
    have : Aₚ 3 = A 3 := funext (sa 3 rfl)
    have : Fₚ 4 1 = F 4 1 := sf 4 1 rfl
    have : Aₚ 5 = A 5 := funext (sa 5 rfl)
    have : Fₚ 6 1 = F 6 1 := sf 6 1 rfl
    have : Aₚ 7 = A 7 := funext (sa 7 rfl)
    have : Fₚ 8 1 = F 8 1 := sf 8 1 rfl
    have : Aₚ 9 = A 9 := funext (sa 9 rfl)
    refine k z _ (glu ι_narrow D (pul ι_narrow D)) (glu ι_narrow N (pul ι_narrow N)) (glu ι_narrow F Fₚ) (glu ι_narrow A Aₚ) _ _ ⟨HWs_call HX VPH_3 vs_narrow hp Hₚ O, STC_call HT HX vs_narrow hp O, hg0, PFI_glue (dl := []) hPF sf sa sd (by decide +kernel) (rexc_of (l := []) (by decide +kernel) ?_), ABS_glue hAB sf (by decide +kernel), NZ_glue hNZ vs_narrow hp sn (by decide +kernel), hGI, ?_, ?_, ?_, ?_, ?_, ?_, ?_, ?_, ?_, ?_⟩ ⟨(STP0_call (STY_call vs_narrow hp O) (sd 0 rfl) (RM_call vs_narrow O)), unt1_of (x := 10) (by decide +kernel) (fun p hp => funext (sa p hp))⟩ (EQD_glue sf sa sd sn (by decide +kernel)) (show inr z by first | assumption | omega | rfl) (show 0 ≤ a1 ∧ a1 ≤ 3 ∨ z = 0 by first | assumption | omega | rfl) (show IMP (a1 = 0) (z = NSL (prL (sc ((A 3)) 0 ((F 2 1))) (a2) (a3)) (a4)) by first | assumption | omega | rfl) (show IMP (a1 = 1) (z = NSL (prL (sc ((A 5)) 0 ((F 4 1))) (a2) (a3)) (a4)) by first | assumption | omega | rfl) (show IMP (a1 = 2) (z = NSL (prL (sc ((A 7)) 0 ((F 6 1))) (a2) (a3)) (a4)) by first | assumption | omega | rfl) (show IMP (a1 = 3) (z = NSL (prL (sc ((A 9)) 0 ((F 8 1))) (a2) (a3)) (a4)) by first | assumption | omega | rfl)
    · intro e he h1 h2
      cases he
    · exact INV0_eq (EQD_glue sf sa sd sn (by decide +kernel)) hI0
    · exact fun h => INV1_eq (EQD_glue sf sa sd sn (by decide +kernel)) (hI1 h)
    · exact fun h => INV2_eq (EQD_glue sf sa sd sn (by decide +kernel)) (hI2 h)
    · exact fun h => INV3_eq (EQD_glue sf sa sd sn (by decide +kernel)) (hI3 h)
    · exact fun h => INV4_eq (EQD_glue sf sa sd sn (by decide +kernel)) (hI4 h)
    · exact fun h => INV5_eq (EQD_glue sf sa sd sn (by decide +kernel)) (hI5 h)
    · exact fun h => INV6_eq (EQD_glue sf sa sd sn (by decide +kernel)) (hI6 h)
    · exact fun h => INV7_eq (EQD_glue sf sa sd sn (by decide +kernel)) (hI7 h)
    · exact fun h => INV8_eq (EQD_glue sf sa sd sn (by decide +kernel)) (hI8 h)
    · exact fun h => INV9_eq (EQD_glue sf sa sd sn (by decide +kernel)) (hI9 h)
def ι_wide : List Nat := [0, 1, 2, 3, 4, 5, 6, 7, 8, 9]
theorem vs_wide : VS VPH V12 ι_wide := VS_of (by decide +kernel)
set_option maxRecDepth 20000 in
theorem T_wide {Dc : DcS} {g : Nat → Bool} {σ : rS} {D N : Nat → Nat} {F : hF} {A : hA} {d c s : Nat} {Q : wQ} (X : PHI Dc g σ D N F A)  {a1 a2 a3 a4 : Int}  (h0 : inr a1) (h1 : inr a2) (h2 : inr a3) (h3 : inrJ a4)  (k : ∀ (z : Int) (σₚ : rS) (Dₚ Nₚ : Nat → Nat) (Fₚ : hF) (Aₚ : hA) (cₚ sₚ : Nat), PHI Dc g σₚ Dₚ Nₚ Fₚ Aₚ → STP g σ D N A c s g σₚ Dₚ Nₚ Aₚ cₚ sₚ → EQD [(2, 1), (4, 1), (6, 1), (8, 1), (11, 1), (0, 18), (25, 1)] [3, 5, 7, 9, 12, 10, 29, 30, 32, 26] [] [] D N F A Dₚ Nₚ Fₚ Aₚ → (inrJ z) → (0 ≤ a1 ∧ a1 ≤ 3 ∨ z = 0) → (IMP (a1 = 0) (z = WDX (prL (sc ((A 3)) 0 ((F 2 1))) (a2) (a3)) (a4))) → (IMP (a1 = 1) (z = WDX (prL (sc ((A 5)) 0 ((F 4 1))) (a2) (a3)) (a4))) → (IMP (a1 = 2) (z = WDX (prL (sc ((A 7)) 0 ((F 6 1))) (a2) (a3)) (a4))) → (IMP (a1 = 3) (z = WDX (prL (sc ((A 9)) 0 ((F 8 1))) (a2) (a3)) (a4))) → Q (some (J z)) σₚ cₚ sₚ) : Ew 12 (d + 4) 0 (rargs 0 [.ref (D 0), I a1, I a2, I a3, J a4]) [] σ c s Q := by
  obtain ⟨HX, HT, hg0, hPF, hAB, hNZ, hGI, hI0, hI1, hI2, hI3, hI4, hI5, hI6, hI7, hI8, hI9⟩ := X
  have hset := SETI_f hI0.2.2.2.2.2.2.2.2.2.2.2.2.2.2.2.2.2.2.2.2.2.2.2.2
  have hJ0 := hI0
  unfold INV0 at hJ0
  obtain ⟨f0_0, f0_1, f0_2, f0_3, f0_4, f0_5, f0_6, f0_7, f0_8, f0_9, f0_10, f0_11, f0_12, f0_13, f0_14, f0_15, f0_16, f0_17, f0_18, f0_19, f0_20, f0_21, f0_22, f0_23, f0_24⟩ := hJ0
  have hp : ∀ x, x < (V12).length → SPH g (ι_wide.getD x 0) = true := SPH_of (gs := [0]) (by intro j hj; simp at hj; subst hj; exact hg0) rfl (by decide +kernel)
  refine C12p (D := pul ι_wide D) (N := pul ι_wide N) (F := pul ι_wide F) (A := pul ι_wide A) (HWs_sub HX vs_wide hp) (show F 0 0 = (D 1 : Int) from hPF (0, 0, 0, 1) (List.mem_of_getElem? (i := 0) rfl) hg0 hg0) (show A 1 0 = (D 2 : Int) from hPF (1, 1, 0, 2) (List.mem_of_getElem? (i := 1) rfl) hg0 hg0) (show F 2 0 = (D 3 : Int) from hPF (0, 2, 0, 3) (List.mem_of_getElem? (i := 2) rfl) hg0 hg0) (show A 1 1 = (D 4 : Int) from hPF (1, 1, 1, 4) (List.mem_of_getElem? (i := 3) rfl) hg0 hg0) (show F 4 0 = (D 5 : Int) from hPF (0, 4, 0, 5) (List.mem_of_getElem? (i := 4) rfl) hg0 hg0) (show A 1 2 = (D 6 : Int) from hPF (1, 1, 2, 6) (List.mem_of_getElem? (i := 5) rfl) hg0 hg0) (show F 6 0 = (D 7 : Int) from hPF (0, 6, 0, 7) (List.mem_of_getElem? (i := 6) rfl) hg0 hg0) (show A 1 3 = (D 8 : Int) from hPF (1, 1, 3, 8) (List.mem_of_getElem? (i := 7) rfl) hg0 hg0) (show F 8 0 = (D 9 : Int) from hPF (0, 8, 0, 9) (List.mem_of_getElem? (i := 8) rfl) hg0 hg0) (N 1 : Int) rfl (N 3 : Int) rfl (N 5 : Int) rfl (N 7 : Int) rfl (N 9 : Int) rfl (F 2 1) rfl (F 4 1) rfl (F 6 1) rfl (F 8 1) rfl (A 3) rfl (A 5) rfl (A 7) rfl (A 9) rfl   (show inr (a1) by first | assumption | omega) (show inr (a2) by first | assumption | omega) (show inr (a3) by first | assumption | omega) (show inrJ (a4) by first | assumption | omega) (show ((N 1 : Int)) = 4 from f0_9) (show 0 ≤ (F 2 1) ∧ (F 2 1) ≤ ((N 3 : Int)) ∧ ((N 3 : Int)) ≤ 65536 from f0_0) (show 0 ≤ (F 4 1) ∧ (F 4 1) ≤ ((N 5 : Int)) ∧ ((N 5 : Int)) ≤ 65536 from f0_1) (show 0 ≤ (F 6 1) ∧ (F 6 1) ≤ ((N 7 : Int)) ∧ ((N 7 : Int)) ≤ 65536 from f0_2) (show 0 ≤ (F 8 1) ∧ (F 8 1) ≤ ((N 9 : Int)) ∧ ((N 9 : Int)) ≤ 65536 from f0_3) (fun z σₚ Fₚ Aₚ Hₚ O sf sa q0 q1 q2 q3 q4 q5 => ?_)
  · skip
    have sd : SD [] (pul ι_wide D) (pul ι_wide D) := SD_refl
    have sn : SD [] (pul ι_wide N) (pul ι_wide N) := SD_refl
    have : Fₚ 2 1 = F 2 1 := sf 2 1 rfl
    have : Aₚ 3 = A 3 := funext (sa 3 rfl)
    have : Fₚ 4 1 = F 4 1 := sf 4 1 rfl
    have : Aₚ 5 = A 5 := funext (sa 5 rfl)
    have : Fₚ 6 1 = F 6 1 := sf 6 1 rfl
    have : Aₚ 7 = A 7 := funext (sa 7 rfl)
    have : Fₚ 8 1 = F 8 1 := sf 8 1 rfl
    have : Aₚ 9 = A 9 := funext (sa 9 rfl)
    refine k z _ (glu ι_wide D (pul ι_wide D)) (glu ι_wide N (pul ι_wide N)) (glu ι_wide F Fₚ) (glu ι_wide A Aₚ) _ _ ⟨HWs_call HX VPH_3 vs_wide hp Hₚ O, STC_call HT HX vs_wide hp O, hg0, PFI_glue (dl := []) hPF sf sa sd (by decide +kernel) (rexc_of (l := []) (by decide +kernel) ?_), ABS_glue hAB sf (by decide +kernel), NZ_glue hNZ vs_wide hp sn (by decide +kernel), hGI, ?_, ?_, ?_, ?_, ?_, ?_, ?_, ?_, ?_, ?_⟩ ⟨(STP0_call (STY_call vs_wide hp O) (sd 0 rfl) (RM_call vs_wide O)), unt1_of (x := 10) (by decide +kernel) (fun p hp => funext (sa p hp))⟩ (EQD_glue sf sa sd sn (by decide +kernel)) (show inrJ z by first | assumption | omega | rfl) (show 0 ≤ a1 ∧ a1 ≤ 3 ∨ z = 0 by first | assumption | omega | rfl) (show IMP (a1 = 0) (z = WDX (prL (sc ((A 3)) 0 ((F 2 1))) (a2) (a3)) (a4)) by first | assumption | omega | rfl) (show IMP (a1 = 1) (z = WDX (prL (sc ((A 5)) 0 ((F 4 1))) (a2) (a3)) (a4)) by first | assumption | omega | rfl) (show IMP (a1 = 2) (z = WDX (prL (sc ((A 7)) 0 ((F 6 1))) (a2) (a3)) (a4)) by first | assumption | omega | rfl) (show IMP (a1 = 3) (z = WDX (prL (sc ((A 9)) 0 ((F 8 1))) (a2) (a3)) (a4)) by first | assumption | omega | rfl)
    · intro e he h1 h2
      cases he
    · exact INV0_eq (EQD_glue sf sa sd sn (by decide +kernel)) hI0
    · exact fun h => INV1_eq (EQD_glue sf sa sd sn (by decide +kernel)) (hI1 h)
    · exact fun h => INV2_eq (EQD_glue sf sa sd sn (by decide +kernel)) (hI2 h)
    · exact fun h => INV3_eq (EQD_glue sf sa sd sn (by decide +kernel)) (hI3 h)
    · exact fun h => INV4_eq (EQD_glue sf sa sd sn (by decide +kernel)) (hI4 h)
    · exact fun h => INV5_eq (EQD_glue sf sa sd sn (by decide +kernel)) (hI5 h)
    · exact fun h => INV6_eq (EQD_glue sf sa sd sn (by decide +kernel)) (hI6 h)
    · exact fun h => INV7_eq (EQD_glue sf sa sd sn (by decide +kernel)) (hI7 h)
    · exact fun h => INV8_eq (EQD_glue sf sa sd sn (by decide +kernel)) (hI8 h)
    · exact fun h => INV9_eq (EQD_glue sf sa sd sn (by decide +kernel)) (hI9 h)


end
section
/-! T2d.pub -/
def ι_poly : List Nat := [0, 1, 2, 3, 4, 5, 6, 7, 8, 9]
theorem vs_poly : VS VPH V13 ι_poly := VS_of (by decide +kernel)
set_option maxRecDepth 20000 in
theorem T_poly {Dc : DcS} {g : Nat → Bool} {σ : rS} {D N : Nat → Nat} {F : hF} {A : hA} {d c s : Nat} {Q : wQ} (X : PHI Dc g σ D N F A)  {a1 a2 a3 a4 : Int}  (h0 : inr a1) (h1 : inr a2) (h2 : inr a3) (h3 : inr a4) (h4 : a4 = 0 ∨ a4 = 1)  (k : ∀ (z : Int) (σₚ : rS) (Dₚ Nₚ : Nat → Nat) (Fₚ : hF) (Aₚ : hA) (cₚ sₚ : Nat), PHI Dc g σₚ Dₚ Nₚ Fₚ Aₚ → STP g σ D N A c s g σₚ Dₚ Nₚ Aₚ cₚ sₚ → EQD [(2, 1), (4, 1), (6, 1), (8, 1), (11, 1), (0, 18), (25, 1)] [3, 5, 7, 9, 12, 10, 29, 30, 32, 26] [] [] D N F A Dₚ Nₚ Fₚ Aₚ → (inr z) → (0 ≤ a1 ∧ a1 ≤ 3 ∨ z = 0) → (IMP (a1 = 0) (z = plY (prL (sc ((A 3)) 0 ((F 2 1))) (a2) (a3)) (a4))) → (IMP (a1 = 1) (z = plY (prL (sc ((A 5)) 0 ((F 4 1))) (a2) (a3)) (a4))) → (IMP (a1 = 2) (z = plY (prL (sc ((A 7)) 0 ((F 6 1))) (a2) (a3)) (a4))) → (IMP (a1 = 3) (z = plY (prL (sc ((A 9)) 0 ((F 8 1))) (a2) (a3)) (a4))) → Q (some (I z)) σₚ cₚ sₚ) : Ew 13 (d + 2) 0 (rargs 0 [.ref (D 0), I a1, I a2, I a3, I a4]) [] σ c s Q := by
  obtain ⟨HX, HT, hg0, hPF, hAB, hNZ, hGI, hI0, hI1, hI2, hI3, hI4, hI5, hI6, hI7, hI8, hI9⟩ := X
  have hset := SETI_f hI0.2.2.2.2.2.2.2.2.2.2.2.2.2.2.2.2.2.2.2.2.2.2.2.2
  have hJ0 := hI0
  unfold INV0 at hJ0
  obtain ⟨f0_0, f0_1, f0_2, f0_3, f0_4, f0_5, f0_6, f0_7, f0_8, f0_9, f0_10, f0_11, f0_12, f0_13, f0_14, f0_15, f0_16, f0_17, f0_18, f0_19, f0_20, f0_21, f0_22, f0_23, f0_24⟩ := hJ0
  have hp : ∀ x, x < (V13).length → SPH g (ι_poly.getD x 0) = true := SPH_of (gs := [0]) (by intro j hj; simp at hj; subst hj; exact hg0) rfl (by decide +kernel)
  refine C13p (D := pul ι_poly D) (N := pul ι_poly N) (F := pul ι_poly F) (A := pul ι_poly A) (HWs_sub HX vs_poly hp) HT (show F 0 0 = (D 1 : Int) from hPF (0, 0, 0, 1) (List.mem_of_getElem? (i := 0) rfl) hg0 hg0) (show A 1 0 = (D 2 : Int) from hPF (1, 1, 0, 2) (List.mem_of_getElem? (i := 1) rfl) hg0 hg0) (show F 2 0 = (D 3 : Int) from hPF (0, 2, 0, 3) (List.mem_of_getElem? (i := 2) rfl) hg0 hg0) (show A 1 1 = (D 4 : Int) from hPF (1, 1, 1, 4) (List.mem_of_getElem? (i := 3) rfl) hg0 hg0) (show F 4 0 = (D 5 : Int) from hPF (0, 4, 0, 5) (List.mem_of_getElem? (i := 4) rfl) hg0 hg0) (show A 1 2 = (D 6 : Int) from hPF (1, 1, 2, 6) (List.mem_of_getElem? (i := 5) rfl) hg0 hg0) (show F 6 0 = (D 7 : Int) from hPF (0, 6, 0, 7) (List.mem_of_getElem? (i := 6) rfl) hg0 hg0) (show A 1 3 = (D 8 : Int) from hPF (1, 1, 3, 8) (List.mem_of_getElem? (i := 7) rfl) hg0 hg0) (show F 8 0 = (D 9 : Int) from hPF (0, 8, 0, 9) (List.mem_of_getElem? (i := 8) rfl) hg0 hg0) (N 1 : Int) rfl (N 3 : Int) rfl (N 5 : Int) rfl (N 7 : Int) rfl (N 9 : Int) rfl (F 2 1) rfl (F 4 1) rfl (F 6 1) rfl (F 8 1) rfl (A 3) rfl (A 5) rfl (A 7) rfl (A 9) rfl   (show inr (a1) by first | assumption | omega) (show inr (a2) by first | assumption | omega) (show inr (a3) by first | assumption | omega) (show inr (a4) by first | assumption | omega) (show (a4) = 0 ∨ (a4) = 1 by first | assumption | omega) (show ((N 1 : Int)) = 4 by first | assumption | omega) (show 0 ≤ (F 2 1) ∧ (F 2 1) ≤ ((N 3 : Int)) ∧ ((N 3 : Int)) ≤ 65536 by first | assumption | omega) (show 0 ≤ (F 4 1) ∧ (F 4 1) ≤ ((N 5 : Int)) ∧ ((N 5 : Int)) ≤ 65536 by first | assumption | omega) (show 0 ≤ (F 6 1) ∧ (F 6 1) ≤ ((N 7 : Int)) ∧ ((N 7 : Int)) ≤ 65536 by first | assumption | omega) (show 0 ≤ (F 8 1) ∧ (F 8 1) ≤ ((N 9 : Int)) ∧ ((N 9 : Int)) ≤ 65536 by first | assumption | omega) (fun z σₚ Fₚ Aₚ Hₚ O sf sa q0 q1 q2 q3 q4 q5 => ?_)
  · skip
    have sd : SD [] (pul ι_poly D) (pul ι_poly D) := SD_refl
    have sn : SD [] (pul ι_poly N) (pul ι_poly N) := SD_refl
    have : Fₚ 2 1 = F 2 1 := sf 2 1 rfl
    have : Aₚ 3 = A 3 := funext (sa 3 rfl)
    have : Fₚ 4 1 = F 4 1 := sf 4 1 rfl
    have : Aₚ 5 = A 5 := funext (sa 5 rfl)
    have : Fₚ 6 1 = F 6 1 := sf 6 1 rfl
    have : Aₚ 7 = A 7 := funext (sa 7 rfl)
    have : Fₚ 8 1 = F 8 1 := sf 8 1 rfl
    have : Aₚ 9 = A 9 := funext (sa 9 rfl)
    refine k z _ (glu ι_poly D (pul ι_poly D)) (glu ι_poly N (pul ι_poly N)) (glu ι_poly F Fₚ) (glu ι_poly A Aₚ) _ _ ⟨HWs_call HX VPH_3 vs_poly hp Hₚ O, STC_call HT HX vs_poly hp O, hg0, PFI_glue (dl := []) hPF sf sa sd (by decide +kernel) (rexc_of (l := []) (by decide +kernel) ?_), ABS_glue hAB sf (by decide +kernel), NZ_glue hNZ vs_poly hp sn (by decide +kernel), hGI, ?_, ?_, ?_, ?_, ?_, ?_, ?_, ?_, ?_, ?_⟩ ⟨(STP0_call (STY_call vs_poly hp O) (sd 0 rfl) (RM_call vs_poly O)), unt1_of (x := 10) (by decide +kernel) (fun p hp => funext (sa p hp))⟩ (EQD_glue sf sa sd sn (by decide +kernel)) (show inr z by first | assumption | omega | rfl) (show 0 ≤ a1 ∧ a1 ≤ 3 ∨ z = 0 by first | assumption | omega | rfl) (show IMP (a1 = 0) (z = plY (prL (sc ((A 3)) 0 ((F 2 1))) (a2) (a3)) (a4)) by first | assumption | omega | rfl) (show IMP (a1 = 1) (z = plY (prL (sc ((A 5)) 0 ((F 4 1))) (a2) (a3)) (a4)) by first | assumption | omega | rfl) (show IMP (a1 = 2) (z = plY (prL (sc ((A 7)) 0 ((F 6 1))) (a2) (a3)) (a4)) by first | assumption | omega | rfl) (show IMP (a1 = 3) (z = plY (prL (sc ((A 9)) 0 ((F 8 1))) (a2) (a3)) (a4)) by first | assumption | omega | rfl)
    · intro e he h1 h2
      cases he
    · exact INV0_eq (EQD_glue sf sa sd sn (by decide +kernel)) hI0
    · exact fun h => INV1_eq (EQD_glue sf sa sd sn (by decide +kernel)) (hI1 h)
    · exact fun h => INV2_eq (EQD_glue sf sa sd sn (by decide +kernel)) (hI2 h)
    · exact fun h => INV3_eq (EQD_glue sf sa sd sn (by decide +kernel)) (hI3 h)
    · exact fun h => INV4_eq (EQD_glue sf sa sd sn (by decide +kernel)) (hI4 h)
    · exact fun h => INV5_eq (EQD_glue sf sa sd sn (by decide +kernel)) (hI5 h)
    · exact fun h => INV6_eq (EQD_glue sf sa sd sn (by decide +kernel)) (hI6 h)
    · exact fun h => INV7_eq (EQD_glue sf sa sd sn (by decide +kernel)) (hI7 h)
    · exact fun h => INV8_eq (EQD_glue sf sa sd sn (by decide +kernel)) (hI8 h)
    · exact fun h => INV9_eq (EQD_glue sf sa sd sn (by decide +kernel)) (hI9 h)
def ι_history : List Nat := [0, 1, 2, 3, 4, 5, 6, 7, 8, 9, 11, 12]
theorem vs_history : VS VPH V14 ι_history := VS_of (by decide +kernel)
set_option maxRecDepth 20000 in
theorem T_history {Dc : DcS} {g : Nat → Bool} {σ : rS} {D N : Nat → Nat} {F : hF} {A : hA} {d c s : Nat} {Q : wQ} (X : PHI Dc g σ D N F A)  {a1 : Int}  (h0 : inr a1)  (k : ∀ (z : Int) (σₚ : rS) (Dₚ Nₚ : Nat → Nat) (Fₚ : hF) (Aₚ : hA) (cₚ sₚ : Nat), PHI Dc g σₚ Dₚ Nₚ Fₚ Aₚ → STP g σ D N A c s g σₚ Dₚ Nₚ Aₚ cₚ sₚ → EQD [(2, 1), (4, 1), (6, 1), (8, 1), (0, 18), (25, 1)] [3, 5, 7, 9, 10, 29, 30, 32, 26] [] [] D N F A Dₚ Nₚ Fₚ Aₚ → (z = 0 ∨ z = 1) → (z = 1 ∧ 0 ≤ a1 ∧ a1 ≤ 3 ∨ z = 0 ∧ (a1 < 0 ∨ 3 < a1)) → (IMP (a1 = 0) (sc ((Aₚ 12)) 0 ((Fₚ 11 1)) = sc ((A 3)) 0 ((F 2 1)))) → (IMP (a1 = 1) (sc ((Aₚ 12)) 0 ((Fₚ 11 1)) = sc ((A 5)) 0 ((F 4 1)))) → (IMP (a1 = 2) (sc ((Aₚ 12)) 0 ((Fₚ 11 1)) = sc ((A 7)) 0 ((F 6 1)))) → (IMP (a1 = 3) (sc ((Aₚ 12)) 0 ((Fₚ 11 1)) = sc ((A 9)) 0 ((F 8 1)))) → (IMP (¬ (0 ≤ a1 ∧ a1 ≤ 3)) (sc ((Aₚ 12)) 0 ((Fₚ 11 1)) = sc ((A 12)) 0 ((F 11 1)))) → Q (some (I z)) σₚ cₚ sₚ) : Ew 14 (d + 4) 0 (rargs 0 [.ref (D 0), I a1]) [] σ c s Q := by
  obtain ⟨HX, HT, hg0, hPF, hAB, hNZ, hGI, hI0, hI1, hI2, hI3, hI4, hI5, hI6, hI7, hI8, hI9⟩ := X
  have hset := SETI_f hI0.2.2.2.2.2.2.2.2.2.2.2.2.2.2.2.2.2.2.2.2.2.2.2.2
  have hJ0 := hI0
  unfold INV0 at hJ0
  obtain ⟨f0_0, f0_1, f0_2, f0_3, f0_4, f0_5, f0_6, f0_7, f0_8, f0_9, f0_10, f0_11, f0_12, f0_13, f0_14, f0_15, f0_16, f0_17, f0_18, f0_19, f0_20, f0_21, f0_22, f0_23, f0_24⟩ := hJ0
  have hp : ∀ x, x < (V14).length → SPH g (ι_history.getD x 0) = true := SPH_of (gs := [0]) (by intro j hj; simp at hj; subst hj; exact hg0) rfl (by decide +kernel)
  refine C14p (D := pul ι_history D) (N := pul ι_history N) (F := pul ι_history F) (A := pul ι_history A) (HWs_sub HX vs_history hp) (show F 0 0 = (D 1 : Int) from hPF (0, 0, 0, 1) (List.mem_of_getElem? (i := 0) rfl) hg0 hg0) (show A 1 0 = (D 2 : Int) from hPF (1, 1, 0, 2) (List.mem_of_getElem? (i := 1) rfl) hg0 hg0) (show F 2 0 = (D 3 : Int) from hPF (0, 2, 0, 3) (List.mem_of_getElem? (i := 2) rfl) hg0 hg0) (show A 1 1 = (D 4 : Int) from hPF (1, 1, 1, 4) (List.mem_of_getElem? (i := 3) rfl) hg0 hg0) (show F 4 0 = (D 5 : Int) from hPF (0, 4, 0, 5) (List.mem_of_getElem? (i := 4) rfl) hg0 hg0) (show A 1 2 = (D 6 : Int) from hPF (1, 1, 2, 6) (List.mem_of_getElem? (i := 5) rfl) hg0 hg0) (show F 6 0 = (D 7 : Int) from hPF (0, 6, 0, 7) (List.mem_of_getElem? (i := 6) rfl) hg0 hg0) (show A 1 3 = (D 8 : Int) from hPF (1, 1, 3, 8) (List.mem_of_getElem? (i := 7) rfl) hg0 hg0) (show F 8 0 = (D 9 : Int) from hPF (0, 8, 0, 9) (List.mem_of_getElem? (i := 8) rfl) hg0 hg0) (show F 0 2 = (D 11 : Int) from hPF (0, 0, 2, 11) (List.mem_of_getElem? (i := 10) rfl) hg0 hg0) (show F 11 0 = (D 12 : Int) from hPF (0, 11, 0, 12) (List.mem_of_getElem? (i := 11) rfl) hg0 hg0) (N 1 : Int) rfl (N 3 : Int) rfl (N 5 : Int) rfl (N 7 : Int) rfl (N 9 : Int) rfl (N 12 : Int) rfl (F 2 1) rfl (F 4 1) rfl (F 6 1) rfl (F 8 1) rfl (F 11 1) rfl (A 3) rfl (A 5) rfl (A 7) rfl (A 9) rfl (A 12) rfl   (show inr (a1) by first | assumption | omega) (show ((N 1 : Int)) = 4 by first | assumption | omega) (show 0 ≤ (F 2 1) ∧ (F 2 1) ≤ ((N 3 : Int)) ∧ ((N 3 : Int)) ≤ 65536 by first | assumption | omega) (show 0 ≤ (F 4 1) ∧ (F 4 1) ≤ ((N 5 : Int)) ∧ ((N 5 : Int)) ≤ 65536 by first | assumption | omega) (show 0 ≤ (F 6 1) ∧ (F 6 1) ≤ ((N 7 : Int)) ∧ ((N 7 : Int)) ≤ 65536 by first | assumption | omega) (show 0 ≤ (F 8 1) ∧ (F 8 1) ≤ ((N 9 : Int)) ∧ ((N 9 : Int)) ≤ 65536 by first | assumption | omega) (show 0 ≤ (F 11 1) ∧ (F 11 1) ≤ ((N 12 : Int)) ∧ ((N 12 : Int)) ≤ 65536 by first | assumption | omega) (fun z σₚ Dₚ Nₚ Fₚ Aₚ cₚ sₚ Hₚ O sd sn sf sa pm11 m11 em11 y10_1 ey10_1 v11 ev11 q0 q1 q2 q3 q4 q5 q6 q7 q8 q9 q10 q11 => ?_)
  · skip
    subst em11 ey10_1 ev11
    have : Fₚ 2 1 = F 2 1 := sf 2 1 rfl
    have : Aₚ 3 = A 3 := funext (sa 3 rfl)
    have : Fₚ 4 1 = F 4 1 := sf 4 1 rfl
    have : Aₚ 5 = A 5 := funext (sa 5 rfl)
    have : Fₚ 6 1 = F 6 1 := sf 6 1 rfl
    have : Aₚ 7 = A 7 := funext (sa 7 rfl)
    have : Fₚ 8 1 = F 8 1 := sf 8 1 rfl
    have : Aₚ 9 = A 9 := funext (sa 9 rfl)
    refine k z _ (glu ι_history D Dₚ) (glu ι_history N Nₚ) (glu ι_history F Fₚ) (glu ι_history A Aₚ) _ _ ⟨HWs_call HX VPH_3 vs_history hp Hₚ O, STC_call HT HX vs_history hp O, hg0, PFI_glue (dl := [11]) hPF sf sa sd (by decide +kernel) (rexc_of (l := [(0, 11, 0, 12)]) (by decide +kernel) ?_), ABS_glue hAB sf (by decide +kernel), NZ_glue hNZ vs_history hp sn (by decide +kernel), hGI, ?_, ?_, ?_, ?_, ?_, ?_, ?_, ?_, ?_, ?_⟩ ⟨(STP0_call (STY_call vs_history hp O) (sd 0 rfl) (RM_call vs_history O)), unt1_of (x := 10) (by decide +kernel) (fun p hp => funext (sa p hp))⟩ (EQD_glue sf sa sd sn (by decide +kernel)) (show z = 0 ∨ z = 1 by first | assumption | omega | rfl) (show z = 1 ∧ 0 ≤ a1 ∧ a1 ≤ 3 ∨ z = 0 ∧ (a1 < 0 ∨ 3 < a1) by first | assumption | omega | rfl) (show IMP (a1 = 0) (sc ((Aₚ 11)) 0 ((Fₚ 10 1)) = sc ((A 3)) 0 ((F 2 1))) by first | assumption | omega | rfl) (show IMP (a1 = 1) (sc ((Aₚ 11)) 0 ((Fₚ 10 1)) = sc ((A 5)) 0 ((F 4 1))) by first | assumption | omega | rfl) (show IMP (a1 = 2) (sc ((Aₚ 11)) 0 ((Fₚ 10 1)) = sc ((A 7)) 0 ((F 6 1))) by first | assumption | omega | rfl) (show IMP (a1 = 3) (sc ((Aₚ 11)) 0 ((Fₚ 10 1)) = sc ((A 9)) 0 ((F 8 1))) by first | assumption | omega | rfl) (show IMP (¬ (0 ≤ a1 ∧ a1 ≤ 3)) (sc ((Aₚ 11)) 0 ((Fₚ 10 1)) = sc ((A 12)) 0 ((F 11 1))) by first | assumption | omega | rfl)
    · intro e he h1 h2
      simp only [List.mem_cons, List.not_mem_nil, or_false] at he
      rcases he with rfl
      · exact pm11
    · skip
      exact ⟨QF0_0_eq (EQD_glue sf sa sd sn (by decide +kernel)) f0_0, QF0_1_eq (EQD_glue sf sa sd sn (by decide +kernel)) f0_1, QF0_2_eq (EQD_glue sf sa sd sn (by decide +kernel)) f0_2, QF0_3_eq (EQD_glue sf sa sd sn (by decide +kernel)) f0_3, show 0 ≤ (Fₚ 10 1) ∧ (Fₚ 10 1) ≤ ((Nₚ 11 : Int)) ∧ ((Nₚ 11 : Int)) ≤ 65536 from (by first | assumption | omega), QF0_5_eq (EQD_glue sf sa sd sn (by decide +kernel)) f0_5, QF0_6_eq (EQD_glue sf sa sd sn (by decide +kernel)) f0_6, QF0_7_eq (EQD_glue sf sa sd sn (by decide +kernel)) f0_7, QF0_8_eq (EQD_glue sf sa sd sn (by decide +kernel)) f0_8, QF0_9_eq (EQD_glue sf sa sd sn (by decide +kernel)) f0_9, QF0_10_eq (EQD_glue sf sa sd sn (by decide +kernel)) f0_10, QF0_11_eq (EQD_glue sf sa sd sn (by decide +kernel)) f0_11, QF0_12_eq (EQD_glue sf sa sd sn (by decide +kernel)) f0_12, QF0_13_eq (EQD_glue sf sa sd sn (by decide +kernel)) f0_13, QF0_14_eq (EQD_glue sf sa sd sn (by decide +kernel)) f0_14, QF0_15_eq (EQD_glue sf sa sd sn (by decide +kernel)) f0_15, QF0_16_eq (EQD_glue sf sa sd sn (by decide +kernel)) f0_16, QF0_17_eq (EQD_glue sf sa sd sn (by decide +kernel)) f0_17, QF0_18_eq (EQD_glue sf sa sd sn (by decide +kernel)) f0_18, QF0_19_eq (EQD_glue sf sa sd sn (by decide +kernel)) f0_19, QF0_20_eq (EQD_glue sf sa sd sn (by decide +kernel)) f0_20, QF0_21_eq (EQD_glue sf sa sd sn (by decide +kernel)) f0_21, QF0_22_eq (EQD_glue sf sa sd sn (by decide +kernel)) f0_22, QF0_23_eq (EQD_glue sf sa sd sn (by decide +kernel)) f0_23, QF0_24_eq (EQD_glue sf sa sd sn (by decide +kernel)) f0_24⟩
    · exact fun h => INV1_eq (EQD_glue sf sa sd sn (by decide +kernel)) (hI1 h)
    · exact fun h => INV2_eq (EQD_glue sf sa sd sn (by decide +kernel)) (hI2 h)
    · exact fun h => INV3_eq (EQD_glue sf sa sd sn (by decide +kernel)) (hI3 h)
    · exact fun h => INV4_eq (EQD_glue sf sa sd sn (by decide +kernel)) (hI4 h)
    · exact fun h => INV5_eq (EQD_glue sf sa sd sn (by decide +kernel)) (hI5 h)
    · exact fun h => INV6_eq (EQD_glue sf sa sd sn (by decide +kernel)) (hI6 h)
    · exact fun h => INV7_eq (EQD_glue sf sa sd sn (by decide +kernel)) (hI7 h)
    · exact fun h => INV8_eq (EQD_glue sf sa sd sn (by decide +kernel)) (hI8 h)
    · exact fun h => INV9_eq (EQD_glue sf sa sd sn (by decide +kernel)) (hI9 h)
def ι_kind : List Nat := [0, 1, 2, 3, 4, 5, 6, 7, 8, 9]
theorem vs_kind : VS VPH V19 ι_kind := VS_of (by decide +kernel)
set_option maxRecDepth 20000 in
theorem T_kind {Dc : DcS} {g : Nat → Bool} {σ : rS} {D N : Nat → Nat} {F : hF} {A : hA} {d c s : Nat} {Q : wQ} (X : PHI Dc g σ D N F A)  {a1 : Int}  (h0 : inr a1)  (k : ∀ (z : Int) (σₚ : rS) (Dₚ Nₚ : Nat → Nat) (Fₚ : hF) (Aₚ : hA) (cₚ sₚ : Nat), PHI Dc g σₚ Dₚ Nₚ Fₚ Aₚ → STP g σ D N A c s g σₚ Dₚ Nₚ Aₚ cₚ sₚ → EQD [(2, 1), (4, 1), (6, 1), (8, 1), (11, 1), (0, 18), (25, 1)] [3, 5, 7, 9, 12, 10, 29, 30, 32, 26] [] [] D N F A Dₚ Nₚ Fₚ Aₚ → (inr z) → (0 ≤ a1 ∧ a1 ≤ 3 ∨ z = -1) → (IMP (a1 = 0) (z = knF (sc ((A 3)) 0 ((F 2 1))))) → (IMP (a1 = 1) (z = knF (sc ((A 5)) 0 ((F 4 1))))) → (IMP (a1 = 2) (z = knF (sc ((A 7)) 0 ((F 6 1))))) → (IMP (a1 = 3) (z = knF (sc ((A 9)) 0 ((F 8 1))))) → Q (some (I z)) σₚ cₚ sₚ) : Ew 19 (d + 3) 0 (rargs 0 [.ref (D 0), I a1]) [] σ c s Q := by
  obtain ⟨HX, HT, hg0, hPF, hAB, hNZ, hGI, hI0, hI1, hI2, hI3, hI4, hI5, hI6, hI7, hI8, hI9⟩ := X
  have hset := SETI_f hI0.2.2.2.2.2.2.2.2.2.2.2.2.2.2.2.2.2.2.2.2.2.2.2.2
  have hJ0 := hI0
  unfold INV0 at hJ0
  obtain ⟨f0_0, f0_1, f0_2, f0_3, f0_4, f0_5, f0_6, f0_7, f0_8, f0_9, f0_10, f0_11, f0_12, f0_13, f0_14, f0_15, f0_16, f0_17, f0_18, f0_19, f0_20, f0_21, f0_22, f0_23, f0_24⟩ := hJ0
  have hp : ∀ x, x < (V19).length → SPH g (ι_kind.getD x 0) = true := SPH_of (gs := [0]) (by intro j hj; simp at hj; subst hj; exact hg0) rfl (by decide +kernel)
  refine C19p (D := pul ι_kind D) (N := pul ι_kind N) (F := pul ι_kind F) (A := pul ι_kind A) (HWs_sub HX vs_kind hp) HT (show F 0 0 = (D 1 : Int) from hPF (0, 0, 0, 1) (List.mem_of_getElem? (i := 0) rfl) hg0 hg0) (show A 1 0 = (D 2 : Int) from hPF (1, 1, 0, 2) (List.mem_of_getElem? (i := 1) rfl) hg0 hg0) (show F 2 0 = (D 3 : Int) from hPF (0, 2, 0, 3) (List.mem_of_getElem? (i := 2) rfl) hg0 hg0) (show A 1 1 = (D 4 : Int) from hPF (1, 1, 1, 4) (List.mem_of_getElem? (i := 3) rfl) hg0 hg0) (show F 4 0 = (D 5 : Int) from hPF (0, 4, 0, 5) (List.mem_of_getElem? (i := 4) rfl) hg0 hg0) (show A 1 2 = (D 6 : Int) from hPF (1, 1, 2, 6) (List.mem_of_getElem? (i := 5) rfl) hg0 hg0) (show F 6 0 = (D 7 : Int) from hPF (0, 6, 0, 7) (List.mem_of_getElem? (i := 6) rfl) hg0 hg0) (show A 1 3 = (D 8 : Int) from hPF (1, 1, 3, 8) (List.mem_of_getElem? (i := 7) rfl) hg0 hg0) (show F 8 0 = (D 9 : Int) from hPF (0, 8, 0, 9) (List.mem_of_getElem? (i := 8) rfl) hg0 hg0) (N 1 : Int) rfl (N 3 : Int) rfl (N 5 : Int) rfl (N 7 : Int) rfl (N 9 : Int) rfl (F 2 1) rfl (F 4 1) rfl (F 6 1) rfl (F 8 1) rfl (A 3) rfl (A 5) rfl (A 7) rfl (A 9) rfl   (show inr (a1) by first | assumption | omega) (show ((N 1 : Int)) = 4 by first | assumption | omega) (show 0 ≤ (F 2 1) ∧ (F 2 1) ≤ ((N 3 : Int)) ∧ ((N 3 : Int)) ≤ 65536 by first | assumption | omega) (show 0 ≤ (F 4 1) ∧ (F 4 1) ≤ ((N 5 : Int)) ∧ ((N 5 : Int)) ≤ 65536 by first | assumption | omega) (show 0 ≤ (F 6 1) ∧ (F 6 1) ≤ ((N 7 : Int)) ∧ ((N 7 : Int)) ≤ 65536 by first | assumption | omega) (show 0 ≤ (F 8 1) ∧ (F 8 1) ≤ ((N 9 : Int)) ∧ ((N 9 : Int)) ≤ 65536 by first | assumption | omega) (fun z σₚ Fₚ Aₚ Hₚ O sf sa q0 q1 q2 q3 q4 q5 => ?_)
  · skip
    have sd : SD [] (pul ι_kind D) (pul ι_kind D) := SD_refl
    have sn : SD [] (pul ι_kind N) (pul ι_kind N) := SD_refl
    have : Fₚ 2 1 = F 2 1 := sf 2 1 rfl
    have : Aₚ 3 = A 3 := funext (sa 3 rfl)
    have : Fₚ 4 1 = F 4 1 := sf 4 1 rfl
    have : Aₚ 5 = A 5 := funext (sa 5 rfl)
    have : Fₚ 6 1 = F 6 1 := sf 6 1 rfl
    have : Aₚ 7 = A 7 := funext (sa 7 rfl)
    have : Fₚ 8 1 = F 8 1 := sf 8 1 rfl
    have : Aₚ 9 = A 9 := funext (sa 9 rfl)
    refine k z _ (glu ι_kind D (pul ι_kind D)) (glu ι_kind N (pul ι_kind N)) (glu ι_kind F Fₚ) (glu ι_kind A Aₚ) _ _ ⟨HWs_call HX VPH_3 vs_kind hp Hₚ O, STC_call HT HX vs_kind hp O, hg0, PFI_glue (dl := []) hPF sf sa sd (by decide +kernel) (rexc_of (l := []) (by decide +kernel) ?_), ABS_glue hAB sf (by decide +kernel), NZ_glue hNZ vs_kind hp sn (by decide +kernel), hGI, ?_, ?_, ?_, ?_, ?_, ?_, ?_, ?_, ?_, ?_⟩ ⟨(STP0_call (STY_call vs_kind hp O) (sd 0 rfl) (RM_call vs_kind O)), unt1_of (x := 10) (by decide +kernel) (fun p hp => funext (sa p hp))⟩ (EQD_glue sf sa sd sn (by decide +kernel)) (show inr z by first | assumption | omega | rfl) (show 0 ≤ a1 ∧ a1 ≤ 3 ∨ z = -1 by first | assumption | omega | rfl) (show IMP (a1 = 0) (z = knF (sc ((A 3)) 0 ((F 2 1)))) by first | assumption | omega | rfl) (show IMP (a1 = 1) (z = knF (sc ((A 5)) 0 ((F 4 1)))) by first | assumption | omega | rfl) (show IMP (a1 = 2) (z = knF (sc ((A 7)) 0 ((F 6 1)))) by first | assumption | omega | rfl) (show IMP (a1 = 3) (z = knF (sc ((A 9)) 0 ((F 8 1)))) by first | assumption | omega | rfl)
    · intro e he h1 h2
      cases he
    · exact INV0_eq (EQD_glue sf sa sd sn (by decide +kernel)) hI0
    · exact fun h => INV1_eq (EQD_glue sf sa sd sn (by decide +kernel)) (hI1 h)
    · exact fun h => INV2_eq (EQD_glue sf sa sd sn (by decide +kernel)) (hI2 h)
    · exact fun h => INV3_eq (EQD_glue sf sa sd sn (by decide +kernel)) (hI3 h)
    · exact fun h => INV4_eq (EQD_glue sf sa sd sn (by decide +kernel)) (hI4 h)
    · exact fun h => INV5_eq (EQD_glue sf sa sd sn (by decide +kernel)) (hI5 h)
    · exact fun h => INV6_eq (EQD_glue sf sa sd sn (by decide +kernel)) (hI6 h)
    · exact fun h => INV7_eq (EQD_glue sf sa sd sn (by decide +kernel)) (hI7 h)
    · exact fun h => INV8_eq (EQD_glue sf sa sd sn (by decide +kernel)) (hI8 h)
    · exact fun h => INV9_eq (EQD_glue sf sa sd sn (by decide +kernel)) (hI9 h)
def ι_get : List Nat := [0, 10]
theorem vs_get : VS VPH V10 ι_get := VS_of (by decide +kernel)
set_option maxRecDepth 20000 in
theorem T_get {Dc : DcS} {g : Nat → Bool} {σ : rS} {D N : Nat → Nat} {F : hF} {A : hA} {d c s : Nat} {Q : wQ} (X : PHI Dc g σ D N F A)  {a1 : Int}  (h0 : inr a1)  (k : ∀ (z : Int) (σₚ : rS) (Dₚ Nₚ : Nat → Nat) (Fₚ : hF) (Aₚ : hA) (cₚ sₚ : Nat), PHI Dc g σₚ Dₚ Nₚ Fₚ Aₚ → STP g σ D N A c s g σₚ Dₚ Nₚ Aₚ cₚ sₚ → EQD [(2, 1), (4, 1), (6, 1), (8, 1), (11, 1), (0, 18), (25, 1)] [3, 5, 7, 9, 12, 10, 29, 30, 32, 26] [] [] D N F A Dₚ Nₚ Fₚ Aₚ → (inr z) → (0 ≤ a1 ∧ a1 ≤ 9 ∧ z = ((A 10)) (a1) ∨ (a1 < 0 ∨ 9 < a1) ∧ z = -1) → Q (some (I z)) σₚ cₚ sₚ) : Ew 10 (d + 1) 0 (rargs 0 [.ref (D 0), I a1]) [] σ c s Q := by
  obtain ⟨HX, HT, hg0, hPF, hAB, hNZ, hGI, hI0, hI1, hI2, hI3, hI4, hI5, hI6, hI7, hI8, hI9⟩ := X
  have hset := SETI_f hI0.2.2.2.2.2.2.2.2.2.2.2.2.2.2.2.2.2.2.2.2.2.2.2.2
  have hJ0 := hI0
  unfold INV0 at hJ0
  obtain ⟨f0_0, f0_1, f0_2, f0_3, f0_4, f0_5, f0_6, f0_7, f0_8, f0_9, f0_10, f0_11, f0_12, f0_13, f0_14, f0_15, f0_16, f0_17, f0_18, f0_19, f0_20, f0_21, f0_22, f0_23, f0_24⟩ := hJ0
  have hp : ∀ x, x < (V10).length → SPH g (ι_get.getD x 0) = true := SPH_of (gs := [0]) (by intro j hj; simp at hj; subst hj; exact hg0) rfl (by decide +kernel)
  refine C10x (D := pul ι_get D) (N := pul ι_get N) (F := pul ι_get F) (A := pul ι_get A) (HWs_sub HX vs_get hp) (show F 0 1 = (D 10 : Int) from hPF (0, 0, 1, 10) (List.mem_of_getElem? (i := 9) rfl) hg0 hg0) (N 10 : Int) rfl  (A 10) rfl   (show inr (a1) by first | assumption | omega) (show ((N 10 : Int)) = 10 by first | assumption | omega) (fun z σₚ Fₚ Aₚ Hₚ O sf sa q0 q1 => ?_)
  · skip
    have sd : SD [] (pul ι_get D) (pul ι_get D) := SD_refl
    have sn : SD [] (pul ι_get N) (pul ι_get N) := SD_refl
    have : Aₚ 1 = A 10 := funext (sa 1 rfl)
    refine k z _ (glu ι_get D (pul ι_get D)) (glu ι_get N (pul ι_get N)) (glu ι_get F Fₚ) (glu ι_get A Aₚ) _ _ ⟨HWs_call HX VPH_3 vs_get hp Hₚ O, STC_call HT HX vs_get hp O, hg0, PFI_glue (dl := []) hPF sf sa sd (by decide +kernel) (rexc_of (l := []) (by decide +kernel) ?_), ABS_glue hAB sf (by decide +kernel), NZ_glue hNZ vs_get hp sn (by decide +kernel), hGI, ?_, ?_, ?_, ?_, ?_, ?_, ?_, ?_, ?_, ?_⟩ ⟨(STP0_call (STY_call vs_get hp O) (sd 0 rfl) (RM_call vs_get O)), unt1_of (x := 10) (by decide +kernel) (fun p hp => funext (sa p hp))⟩ (EQD_glue sf sa sd sn (by decide +kernel)) (show inr z by first | assumption | omega | rfl) (show 0 ≤ a1 ∧ a1 ≤ 9 ∧ z = ((A 10)) (a1) ∨ (a1 < 0 ∨ 9 < a1) ∧ z = -1 by first | assumption | omega | rfl)
    · intro e he h1 h2
      cases he
    · exact INV0_eq (EQD_glue sf sa sd sn (by decide +kernel)) hI0
    · exact fun h => INV1_eq (EQD_glue sf sa sd sn (by decide +kernel)) (hI1 h)
    · exact fun h => INV2_eq (EQD_glue sf sa sd sn (by decide +kernel)) (hI2 h)
    · exact fun h => INV3_eq (EQD_glue sf sa sd sn (by decide +kernel)) (hI3 h)
    · exact fun h => INV4_eq (EQD_glue sf sa sd sn (by decide +kernel)) (hI4 h)
    · exact fun h => INV5_eq (EQD_glue sf sa sd sn (by decide +kernel)) (hI5 h)
    · exact fun h => INV6_eq (EQD_glue sf sa sd sn (by decide +kernel)) (hI6 h)
    · exact fun h => INV7_eq (EQD_glue sf sa sd sn (by decide +kernel)) (hI7 h)
    · exact fun h => INV8_eq (EQD_glue sf sa sd sn (by decide +kernel)) (hI8 h)
    · exact fun h => INV9_eq (EQD_glue sf sa sd sn (by decide +kernel)) (hI9 h)
def ι_strayed : List Nat := [0, 32]
theorem vs_strayed : VS VPH V23 ι_strayed := VS_of (by decide +kernel)
set_option maxRecDepth 20000 in
theorem T_strayed {Dc : DcS} {g : Nat → Bool} {σ : rS} {D N : Nat → Nat} {F : hF} {A : hA} {d c s : Nat} {Q : wQ} (X : PHI Dc g σ D N F A)  {a1 : Int}  (h0 : inr a1)  (k : ∀ (z : Int) (σₚ : rS) (Dₚ Nₚ : Nat → Nat) (Fₚ : hF) (Aₚ : hA) (cₚ sₚ : Nat), PHI Dc g σₚ Dₚ Nₚ Fₚ Aₚ → STP g σ D N A c s g σₚ Dₚ Nₚ Aₚ cₚ sₚ → EQD [(2, 1), (4, 1), (6, 1), (8, 1), (11, 1), (0, 18), (25, 1)] [3, 5, 7, 9, 12, 10, 29, 30, 32, 26] [] [] D N F A Dₚ Nₚ Fₚ Aₚ → (inr z) → ((a1 = 0 ∧ z = ((A 32)) 0 ∨ a1 = 1 ∧ z = ((A 32)) 1 ∨ a1 ≠ 0 ∧ a1 ≠ 1 ∧ z = -1)) → Q (some (I z)) σₚ cₚ sₚ) : Ew 23 (d + 0) 0 (rargs 0 [.ref (D 0), I a1]) [] σ c s Q := by
  obtain ⟨HX, HT, hg0, hPF, hAB, hNZ, hGI, hI0, hI1, hI2, hI3, hI4, hI5, hI6, hI7, hI8, hI9⟩ := X
  have hset := SETI_f hI0.2.2.2.2.2.2.2.2.2.2.2.2.2.2.2.2.2.2.2.2.2.2.2.2
  have hJ0 := hI0
  unfold INV0 at hJ0
  obtain ⟨f0_0, f0_1, f0_2, f0_3, f0_4, f0_5, f0_6, f0_7, f0_8, f0_9, f0_10, f0_11, f0_12, f0_13, f0_14, f0_15, f0_16, f0_17, f0_18, f0_19, f0_20, f0_21, f0_22, f0_23, f0_24⟩ := hJ0
  have hp : ∀ x, x < (V23).length → SPH g (ι_strayed.getD x 0) = true := SPH_of (gs := [0]) (by intro j hj; simp at hj; subst hj; exact hg0) rfl (by decide +kernel)
  refine C23p (D := pul ι_strayed D) (N := pul ι_strayed N) (F := pul ι_strayed F) (A := pul ι_strayed A) (HWs_sub HX vs_strayed hp) (show F 0 16 = (D 32 : Int) from hPF (0, 0, 16, 32) (List.mem_of_getElem? (i := 31) rfl) hg0 hg0) (N 32 : Int) rfl  (A 32) rfl   (show inr (a1) by first | assumption | omega) (show ((N 32 : Int)) = 2 by first | assumption | omega) (fun z σₚ Fₚ Aₚ Hₚ O sf sa q0 q1 => ?_)
  · skip
    have sd : SD [] (pul ι_strayed D) (pul ι_strayed D) := SD_refl
    have sn : SD [] (pul ι_strayed N) (pul ι_strayed N) := SD_refl
    have : Aₚ 1 = A 32 := funext (sa 1 rfl)
    refine k z _ (glu ι_strayed D (pul ι_strayed D)) (glu ι_strayed N (pul ι_strayed N)) (glu ι_strayed F Fₚ) (glu ι_strayed A Aₚ) _ _ ⟨HWs_call HX VPH_3 vs_strayed hp Hₚ O, STC_call HT HX vs_strayed hp O, hg0, PFI_glue (dl := []) hPF sf sa sd (by decide +kernel) (rexc_of (l := []) (by decide +kernel) ?_), ABS_glue hAB sf (by decide +kernel), NZ_glue hNZ vs_strayed hp sn (by decide +kernel), hGI, ?_, ?_, ?_, ?_, ?_, ?_, ?_, ?_, ?_, ?_⟩ ⟨(STP0_call (STY_call vs_strayed hp O) (sd 0 rfl) (RM_call vs_strayed O)), unt1_of (x := 10) (by decide +kernel) (fun p hp => funext (sa p hp))⟩ (EQD_glue sf sa sd sn (by decide +kernel)) (show inr z by first | assumption | omega | rfl) (show (a1 = 0 ∧ z = ((A 32)) 0 ∨ a1 = 1 ∧ z = ((A 32)) 1 ∨ a1 ≠ 0 ∧ a1 ≠ 1 ∧ z = -1) by first | assumption | omega | rfl)
    · intro e he h1 h2
      cases he
    · exact INV0_eq (EQD_glue sf sa sd sn (by decide +kernel)) hI0
    · exact fun h => INV1_eq (EQD_glue sf sa sd sn (by decide +kernel)) (hI1 h)
    · exact fun h => INV2_eq (EQD_glue sf sa sd sn (by decide +kernel)) (hI2 h)
    · exact fun h => INV3_eq (EQD_glue sf sa sd sn (by decide +kernel)) (hI3 h)
    · exact fun h => INV4_eq (EQD_glue sf sa sd sn (by decide +kernel)) (hI4 h)
    · exact fun h => INV5_eq (EQD_glue sf sa sd sn (by decide +kernel)) (hI5 h)
    · exact fun h => INV6_eq (EQD_glue sf sa sd sn (by decide +kernel)) (hI6 h)
    · exact fun h => INV7_eq (EQD_glue sf sa sd sn (by decide +kernel)) (hI7 h)
    · exact fun h => INV8_eq (EQD_glue sf sa sd sn (by decide +kernel)) (hI8 h)
    · exact fun h => INV9_eq (EQD_glue sf sa sd sn (by decide +kernel)) (hI9 h)
def ι_about : List Nat := [0, 29, 30, 13, 14, 11]
theorem vs_about : VS VPH V22 ι_about := VS_of (by decide +kernel)
set_option maxRecDepth 20000 in
theorem T_about {Dc : DcS} {g : Nat → Bool} {σ : rS} {D N : Nat → Nat} {F : hF} {A : hA} {d c s : Nat} {Q : wQ} (X : PHI Dc g σ D N F A)  {a1 : Int}  (h0 : inr a1)  (k : ∀ (z : Int) (σₚ : rS) (Dₚ Nₚ : Nat → Nat) (Fₚ : hF) (Aₚ : hA) (cₚ sₚ : Nat), PHI Dc g σₚ Dₚ Nₚ Fₚ Aₚ → STP g σ D N A c s g σₚ Dₚ Nₚ Aₚ cₚ sₚ → EQD [(2, 1), (4, 1), (6, 1), (8, 1), (11, 1), (0, 18), (25, 1)] [3, 5, 7, 9, 12, 10, 29, 30, 32, 26] [] [] D N F A Dₚ Nₚ Fₚ Aₚ → (inr z) → ((z : Int) = abF ((F 0 18)) (fun i => ((A 29)) (i + 1)) (((A 30)) 0, ((A 30)) 1, ((A 30)) 2, ((A 30)) 3, ((A 30)) 4) ((F 11 1)) ((F 14 1)) ((F 13 2)) (a1)) → Q (some (I z)) σₚ cₚ sₚ) : Ew 22 (d + 0) 0 (rargs 0 [.ref (D 0), I a1]) [] σ c s Q := by
  obtain ⟨HX, HT, hg0, hPF, hAB, hNZ, hGI, hI0, hI1, hI2, hI3, hI4, hI5, hI6, hI7, hI8, hI9⟩ := X
  have hset := SETI_f hI0.2.2.2.2.2.2.2.2.2.2.2.2.2.2.2.2.2.2.2.2.2.2.2.2
  have hJ0 := hI0
  unfold INV0 at hJ0
  obtain ⟨f0_0, f0_1, f0_2, f0_3, f0_4, f0_5, f0_6, f0_7, f0_8, f0_9, f0_10, f0_11, f0_12, f0_13, f0_14, f0_15, f0_16, f0_17, f0_18, f0_19, f0_20, f0_21, f0_22, f0_23, f0_24⟩ := hJ0
  have hp : ∀ x, x < (V22).length → SPH g (ι_about.getD x 0) = true := SPH_of (gs := [0]) (by intro j hj; simp at hj; subst hj; exact hg0) rfl (by decide +kernel)
  refine C22p (D := pul ι_about D) (N := pul ι_about N) (F := pul ι_about F) (A := pul ι_about A) (HWs_sub HX vs_about hp) (show F 0 13 = (D 29 : Int) from hPF (0, 0, 13, 29) (List.mem_of_getElem? (i := 28) rfl) hg0 hg0) (show F 0 14 = (D 30 : Int) from hPF (0, 0, 14, 30) (List.mem_of_getElem? (i := 29) rfl) hg0 hg0) (show F 0 3 = (D 13 : Int) from hPF (0, 0, 3, 13) (List.mem_of_getElem? (i := 12) rfl) hg0 hg0) (show F 13 0 = (D 14 : Int) from hPF (0, 13, 0, 14) (List.mem_of_getElem? (i := 13) rfl) hg0 hg0) (show F 0 2 = (D 11 : Int) from hPF (0, 0, 2, 11) (List.mem_of_getElem? (i := 10) rfl) hg0 hg0) (N 29 : Int) rfl (N 30 : Int) rfl (F 0 18) rfl (F 13 2) rfl (F 14 1) rfl (F 11 1) rfl (A 29) rfl (A 30) rfl   (show inr (a1) by first | assumption | omega) (show ((N 29 : Int)) = 13 by first | assumption | omega) (show ((N 30 : Int)) = 5 by first | assumption | omega) (show (F 14 1) = (F 14 1) by first | assumption | omega) (fun z σₚ Fₚ Aₚ Hₚ O sf sa q0 q1 => ?_)
  · skip
    have sd : SD [] (pul ι_about D) (pul ι_about D) := SD_refl
    have sn : SD [] (pul ι_about N) (pul ι_about N) := SD_refl
    have : Fₚ 0 18 = F 0 18 := sf 0 18 rfl
    have : Fₚ 5 1 = F 11 1 := sf 5 1 rfl
    have : Fₚ 3 2 = F 13 2 := sf 3 2 rfl
    have : Fₚ 4 1 = F 14 1 := sf 4 1 rfl
    have : Aₚ 1 = A 29 := funext (sa 1 rfl)
    have : Aₚ 2 = A 30 := funext (sa 2 rfl)
    refine k z _ (glu ι_about D (pul ι_about D)) (glu ι_about N (pul ι_about N)) (glu ι_about F Fₚ) (glu ι_about A Aₚ) _ _ ⟨HWs_call HX VPH_3 vs_about hp Hₚ O, STC_call HT HX vs_about hp O, hg0, PFI_glue (dl := []) hPF sf sa sd (by decide +kernel) (rexc_of (l := []) (by decide +kernel) ?_), ABS_glue hAB sf (by decide +kernel), NZ_glue hNZ vs_about hp sn (by decide +kernel), hGI, ?_, ?_, ?_, ?_, ?_, ?_, ?_, ?_, ?_, ?_⟩ ⟨(STP0_call (STY_call vs_about hp O) (sd 0 rfl) (RM_call vs_about O)), unt1_of (x := 10) (by decide +kernel) (fun p hp => funext (sa p hp))⟩ (EQD_glue sf sa sd sn (by decide +kernel)) (show inr z by first | assumption | omega | rfl) (show (z : Int) = abF ((F 0 18)) (fun i => ((A 29)) (i + 1)) (((A 30)) 0, ((A 30)) 1, ((A 30)) 2, ((A 30)) 3, ((A 30)) 4) ((F 11 1)) ((F 14 1)) ((F 13 2)) (a1) by first | assumption | omega | rfl)
    · intro e he h1 h2
      cases he
    · exact INV0_eq (EQD_glue sf sa sd sn (by decide +kernel)) hI0
    · exact fun h => INV1_eq (EQD_glue sf sa sd sn (by decide +kernel)) (hI1 h)
    · exact fun h => INV2_eq (EQD_glue sf sa sd sn (by decide +kernel)) (hI2 h)
    · exact fun h => INV3_eq (EQD_glue sf sa sd sn (by decide +kernel)) (hI3 h)
    · exact fun h => INV4_eq (EQD_glue sf sa sd sn (by decide +kernel)) (hI4 h)
    · exact fun h => INV5_eq (EQD_glue sf sa sd sn (by decide +kernel)) (hI5 h)
    · exact fun h => INV6_eq (EQD_glue sf sa sd sn (by decide +kernel)) (hI6 h)
    · exact fun h => INV7_eq (EQD_glue sf sa sd sn (by decide +kernel)) (hI7 h)
    · exact fun h => INV8_eq (EQD_glue sf sa sd sn (by decide +kernel)) (hI8 h)
    · exact fun h => INV9_eq (EQD_glue sf sa sd sn (by decide +kernel)) (hI9 h)
def ι_set : List Nat := [0, 10]
theorem vs_set : VS VPH V9 ι_set := VS_of (by decide +kernel)
set_option maxRecDepth 20000 in
theorem T_set {Dc : DcS} {g : Nat → Bool} {σ : rS} {D N : Nat → Nat} {F : hF} {A : hA} {d c s : Nat} {Q : wQ} (X : PHI Dc g σ D N F A)  {a1 a2 : Int}  (h0 : inr a1) (h1 : inr a2)  (k : ∀ (z : Int) (σₚ : rS) (Dₚ Nₚ : Nat → Nat) (Fₚ : hF) (Aₚ : hA) (cₚ sₚ : Nat), PHI Dc g σₚ Dₚ Nₚ Fₚ Aₚ → STP0 g σ D N c s g σₚ Dₚ Nₚ cₚ sₚ → EQD [(2, 1), (4, 1), (6, 1), (8, 1), (11, 1), (0, 18), (25, 1)] [3, 5, 7, 9, 12, 29, 30, 32, 26] [] [] D N F A Dₚ Nₚ Fₚ Aₚ → (z = 0 ∨ z = 1) → (a1 = 3 ∧ (z = 1 ∧ andI (a2) (-62) = 64 ∨ z = 0 ∧ andI (a2) (-62) ≠ 64) ∨ (a1 < 0 ∨ 9 < a1) ∧ z = 0 ∨ 0 ≤ a1 ∧ a1 ≤ 9 ∧ a1 ≠ 3 ∧ (z = 1 ∧ mlo (a1) ≤ a2 ∧ a2 ≤ mhi (a1) ∨ z = 0 ∧ (a2 < mlo (a1) ∨ mhi (a1) < a2))) → (UPD (z) ((A 10)) ((Aₚ 10)) (a1) (a2)) → Q (some (I z)) σₚ cₚ sₚ) : Ew 9 (d + 2) 0 (rargs 0 [.ref (D 0), I a1, I a2]) [] σ c s Q := by
  obtain ⟨HX, HT, hg0, hPF, hAB, hNZ, hGI, hI0, hI1, hI2, hI3, hI4, hI5, hI6, hI7, hI8, hI9⟩ := X
  have hset := SETI_f hI0.2.2.2.2.2.2.2.2.2.2.2.2.2.2.2.2.2.2.2.2.2.2.2.2
  have hJ0 := hI0
  unfold INV0 at hJ0
  obtain ⟨f0_0, f0_1, f0_2, f0_3, f0_4, f0_5, f0_6, f0_7, f0_8, f0_9, f0_10, f0_11, f0_12, f0_13, f0_14, f0_15, f0_16, f0_17, f0_18, f0_19, f0_20, f0_21, f0_22, f0_23, f0_24⟩ := hJ0
  have hp : ∀ x, x < (V9).length → SPH g (ι_set.getD x 0) = true := SPH_of (gs := [0]) (by intro j hj; simp at hj; subst hj; exact hg0) rfl (by decide +kernel)
  refine C9x (D := pul ι_set D) (N := pul ι_set N) (F := pul ι_set F) (A := pul ι_set A) (HWs_sub HX vs_set hp) (show F 0 1 = (D 10 : Int) from hPF (0, 0, 1, 10) (List.mem_of_getElem? (i := 9) rfl) hg0 hg0) (N 10 : Int) rfl  (A 10) rfl   (show inr (a1) by first | assumption | omega) (show inr (a2) by first | assumption | omega) (show SETI ((A 10)) by assumption) (show ((N 10 : Int)) = 10 by first | assumption | omega) (fun z σₚ Fₚ Aₚ Hₚ O sf sa v1 ev1 q0 q1 q2 q3 => ?_)
  · skip
    subst ev1
    have sd : SD [] (pul ι_set D) (pul ι_set D) := SD_refl
    have sn : SD [] (pul ι_set N) (pul ι_set N) := SD_refl
    refine k z _ (glu ι_set D (pul ι_set D)) (glu ι_set N (pul ι_set N)) (glu ι_set F Fₚ) (glu ι_set A Aₚ) _ _ ⟨HWs_call HX VPH_3 vs_set hp Hₚ O, STC_call HT HX vs_set hp O, hg0, PFI_glue (dl := []) hPF sf sa sd (by decide +kernel) (rexc_of (l := []) (by decide +kernel) ?_), ABS_glue hAB sf (by decide +kernel), NZ_glue hNZ vs_set hp sn (by decide +kernel), hGI, ?_, ?_, ?_, ?_, ?_, ?_, ?_, ?_, ?_, ?_⟩ (STP0_call (STY_call vs_set hp O) (sd 0 rfl) (RM_call vs_set O)) (EQD_glue sf sa sd sn (by decide +kernel)) (show z = 0 ∨ z = 1 by first | assumption | omega | rfl) (show a1 = 3 ∧ (z = 1 ∧ andI (a2) (-62) = 64 ∨ z = 0 ∧ andI (a2) (-62) ≠ 64) ∨ (a1 < 0 ∨ 9 < a1) ∧ z = 0 ∨ 0 ≤ a1 ∧ a1 ≤ 9 ∧ a1 ≠ 3 ∧ (z = 1 ∧ mlo (a1) ≤ a2 ∧ a2 ≤ mhi (a1) ∨ z = 0 ∧ (a2 < mlo (a1) ∨ mhi (a1) < a2)) by first | assumption | omega | rfl) (show UPD (z) ((A 10)) ((Aₚ 1)) (a1) (a2) by first | assumption | omega | rfl)
    · intro e he h1 h2
      cases he
    · skip
      exact ⟨QF0_0_eq (EQD_glue sf sa sd sn (by decide +kernel)) f0_0, QF0_1_eq (EQD_glue sf sa sd sn (by decide +kernel)) f0_1, QF0_2_eq (EQD_glue sf sa sd sn (by decide +kernel)) f0_2, QF0_3_eq (EQD_glue sf sa sd sn (by decide +kernel)) f0_3, QF0_4_eq (EQD_glue sf sa sd sn (by decide +kernel)) f0_4, QF0_5_eq (EQD_glue sf sa sd sn (by decide +kernel)) f0_5, QF0_6_eq (EQD_glue sf sa sd sn (by decide +kernel)) f0_6, QF0_7_eq (EQD_glue sf sa sd sn (by decide +kernel)) f0_7, QF0_8_eq (EQD_glue sf sa sd sn (by decide +kernel)) f0_8, QF0_9_eq (EQD_glue sf sa sd sn (by decide +kernel)) f0_9, QF0_10_eq (EQD_glue sf sa sd sn (by decide +kernel)) f0_10, QF0_11_eq (EQD_glue sf sa sd sn (by decide +kernel)) f0_11, QF0_12_eq (EQD_glue sf sa sd sn (by decide +kernel)) f0_12, QF0_13_eq (EQD_glue sf sa sd sn (by decide +kernel)) f0_13, QF0_14_eq (EQD_glue sf sa sd sn (by decide +kernel)) f0_14, QF0_15_eq (EQD_glue sf sa sd sn (by decide +kernel)) f0_15, QF0_16_eq (EQD_glue sf sa sd sn (by decide +kernel)) f0_16, QF0_17_eq (EQD_glue sf sa sd sn (by decide +kernel)) f0_17, QF0_18_eq (EQD_glue sf sa sd sn (by decide +kernel)) f0_18, QF0_19_eq (EQD_glue sf sa sd sn (by decide +kernel)) f0_19, QF0_20_eq (EQD_glue sf sa sd sn (by decide +kernel)) f0_20, QF0_21_eq (EQD_glue sf sa sd sn (by decide +kernel)) f0_21, QF0_22_eq (EQD_glue sf sa sd sn (by decide +kernel)) f0_22, QF0_23_eq (EQD_glue sf sa sd sn (by decide +kernel)) f0_23, show SETI ((Aₚ 1)) from (by first | assumption | (simp only [*]; done))⟩
    · exact fun h => INV1_eq (EQD_glue sf sa sd sn (by decide +kernel)) (hI1 h)
    · exact fun h => INV2_eq (EQD_glue sf sa sd sn (by decide +kernel)) (hI2 h)
    · exact fun h => INV3_eq (EQD_glue sf sa sd sn (by decide +kernel)) (hI3 h)
    · exact fun h => INV4_eq (EQD_glue sf sa sd sn (by decide +kernel)) (hI4 h)
    · exact fun h => INV5_eq (EQD_glue sf sa sd sn (by decide +kernel)) (hI5 h)
    · exact fun h => INV6_eq (EQD_glue sf sa sd sn (by decide +kernel)) (hI6 h)
    · exact fun h => INV7_eq (EQD_glue sf sa sd sn (by decide +kernel)) (hI7 h)
    · exact fun h => INV8_eq (EQD_glue sf sa sd sn (by decide +kernel)) (hI8 h)
    · exact fun h => INV9_eq (EQD_glue sf sa sd sn (by decide +kernel)) (hI9 h)
def ι_bound : List Nat := [0, 10]
theorem vs_bound : VS VPH V21 ι_bound := VS_of (by decide +kernel)
set_option maxRecDepth 20000 in
theorem T_bound {Dc : DcS} {g : Nat → Bool} {σ : rS} {D N : Nat → Nat} {F : hF} {A : hA} {d c s : Nat} {Q : wQ} (X : PHI Dc g σ D N F A)  {a1 a2 : Int}  (h0 : inr a1) (h1 : inr a2)  (k : ∀ (z : Int) (σₚ : rS) (Dₚ Nₚ : Nat → Nat) (Fₚ : hF) (Aₚ : hA) (cₚ sₚ : Nat), PHI Dc g σₚ Dₚ Nₚ Fₚ Aₚ → STP g σ D N A c s g σₚ Dₚ Nₚ Aₚ cₚ sₚ → EQD [(2, 1), (4, 1), (6, 1), (8, 1), (11, 1), (0, 18), (25, 1)] [3, 5, 7, 9, 12, 10, 29, 30, 32, 26] [] [] D N F A Dₚ Nₚ Fₚ Aₚ → (inr z) → (z = BNA ((A 10)) (a1) (a2)) → Q (some (I z)) σₚ cₚ sₚ) : Ew 21 (d + 3) 0 (rargs 0 [.ref (D 0), I a1, I a2]) [] σ c s Q := by
  obtain ⟨HX, HT, hg0, hPF, hAB, hNZ, hGI, hI0, hI1, hI2, hI3, hI4, hI5, hI6, hI7, hI8, hI9⟩ := X
  have hset := SETI_f hI0.2.2.2.2.2.2.2.2.2.2.2.2.2.2.2.2.2.2.2.2.2.2.2.2
  have hJ0 := hI0
  unfold INV0 at hJ0
  obtain ⟨f0_0, f0_1, f0_2, f0_3, f0_4, f0_5, f0_6, f0_7, f0_8, f0_9, f0_10, f0_11, f0_12, f0_13, f0_14, f0_15, f0_16, f0_17, f0_18, f0_19, f0_20, f0_21, f0_22, f0_23, f0_24⟩ := hJ0
  have hp : ∀ x, x < (V21).length → SPH g (ι_bound.getD x 0) = true := SPH_of (gs := [0]) (by intro j hj; simp at hj; subst hj; exact hg0) rfl (by decide +kernel)
  refine C21x (D := pul ι_bound D) (N := pul ι_bound N) (F := pul ι_bound F) (A := pul ι_bound A) (HWs_sub HX vs_bound hp) (show F 0 1 = (D 10 : Int) from hPF (0, 0, 1, 10) (List.mem_of_getElem? (i := 9) rfl) hg0 hg0) (N 10 : Int) rfl  (A 10) rfl   (show inr (a1) by first | assumption | omega) (show inr (a2) by first | assumption | omega) (show 1 ≤ ((A 10)) 2 ∧ ((A 10)) 2 ≤ 65536 by first | assumption | omega) (show 0 ≤ ((A 10)) 8 ∧ ((A 10)) 8 ≤ 11 by first | assumption | omega) (show 0 ≤ ((A 10)) 6 ∧ ((A 10)) 6 ≤ 255 by first | assumption | omega) (show ((N 10 : Int)) = 10 by first | assumption | omega) (fun z σₚ Fₚ Aₚ Hₚ O sf sa q0 q1 => ?_)
  · skip
    have sd : SD [] (pul ι_bound D) (pul ι_bound D) := SD_refl
    have sn : SD [] (pul ι_bound N) (pul ι_bound N) := SD_refl
    have : Aₚ 1 = A 10 := funext (sa 1 rfl)
    refine k z _ (glu ι_bound D (pul ι_bound D)) (glu ι_bound N (pul ι_bound N)) (glu ι_bound F Fₚ) (glu ι_bound A Aₚ) _ _ ⟨HWs_call HX VPH_3 vs_bound hp Hₚ O, STC_call HT HX vs_bound hp O, hg0, PFI_glue (dl := []) hPF sf sa sd (by decide +kernel) (rexc_of (l := []) (by decide +kernel) ?_), ABS_glue hAB sf (by decide +kernel), NZ_glue hNZ vs_bound hp sn (by decide +kernel), hGI, ?_, ?_, ?_, ?_, ?_, ?_, ?_, ?_, ?_, ?_⟩ ⟨(STP0_call (STY_call vs_bound hp O) (sd 0 rfl) (RM_call vs_bound O)), unt1_of (x := 10) (by decide +kernel) (fun p hp => funext (sa p hp))⟩ (EQD_glue sf sa sd sn (by decide +kernel)) (show inr z by first | assumption | omega | rfl) (show z = BNA ((A 10)) (a1) (a2) by first | assumption | omega | rfl)
    · intro e he h1 h2
      cases he
    · exact INV0_eq (EQD_glue sf sa sd sn (by decide +kernel)) hI0
    · exact fun h => INV1_eq (EQD_glue sf sa sd sn (by decide +kernel)) (hI1 h)
    · exact fun h => INV2_eq (EQD_glue sf sa sd sn (by decide +kernel)) (hI2 h)
    · exact fun h => INV3_eq (EQD_glue sf sa sd sn (by decide +kernel)) (hI3 h)
    · exact fun h => INV4_eq (EQD_glue sf sa sd sn (by decide +kernel)) (hI4 h)
    · exact fun h => INV5_eq (EQD_glue sf sa sd sn (by decide +kernel)) (hI5 h)
    · exact fun h => INV6_eq (EQD_glue sf sa sd sn (by decide +kernel)) (hI6 h)
    · exact fun h => INV7_eq (EQD_glue sf sa sd sn (by decide +kernel)) (hI7 h)
    · exact fun h => INV8_eq (EQD_glue sf sa sd sn (by decide +kernel)) (hI8 h)
    · exact fun h => INV9_eq (EQD_glue sf sa sd sn (by decide +kernel)) (hI9 h)
def ι_forget : List Nat := [0, 13, 16, 17, 18, 11, 14]
theorem vs_forget : VS VPH V16 ι_forget := VS_of (by decide +kernel)
set_option maxRecDepth 20000 in
theorem T_forget {Dc : DcS} {g : Nat → Bool} {σ : rS} {D N : Nat → Nat} {F : hF} {A : hA} {d c s : Nat} {Q : wQ} (X : PHI Dc g σ D N F A)  {a1 : Int}  (h0 : inr a1)  (k : ∀ (z : Int) (σₚ : rS) (Dₚ Nₚ : Nat → Nat) (Fₚ : hF) (Aₚ : hA) (cₚ sₚ : Nat), PHI (fgD a1 Dc) g σₚ Dₚ Nₚ Fₚ Aₚ → STP g σ D N A c s g σₚ Dₚ Nₚ Aₚ cₚ sₚ → EQD [(2, 1), (4, 1), (6, 1), (8, 1), (0, 18), (25, 1)] [3, 5, 7, 9, 12, 10, 29, 30, 32, 26] [] [] D N F A Dₚ Nₚ Fₚ Aₚ → (z = 0 ∨ z = 1) → (z = 1 ∧ (a1 = 0 ∨ a1 = 1) ∨ z = 0 ∧ a1 ≠ 0 ∧ a1 ≠ 1) → (a1 = 0 ∧ (Fₚ 11 1) = 0 ∨ a1 ≠ 0 ∧ (Fₚ 11 1) = (F 11 1)) → Q (some (I z)) σₚ cₚ sₚ) : Ew 16 (d + 2) 0 (rargs 0 [.ref (D 0), I a1]) [] σ c s Q := by
  obtain ⟨HX, HT, hg0, hPF, hAB, hNZ, hGI, hI0, hI1, hI2, hI3, hI4, hI5, hI6, hI7, hI8, hI9⟩ := X
  have hset := SETI_f hI0.2.2.2.2.2.2.2.2.2.2.2.2.2.2.2.2.2.2.2.2.2.2.2.2
  have hJ0 := hI0
  unfold INV0 at hJ0
  obtain ⟨f0_0, f0_1, f0_2, f0_3, f0_4, f0_5, f0_6, f0_7, f0_8, f0_9, f0_10, f0_11, f0_12, f0_13, f0_14, f0_15, f0_16, f0_17, f0_18, f0_19, f0_20, f0_21, f0_22, f0_23, f0_24⟩ := hJ0
  have hp : ∀ x, x < (V16).length → SPH g (ι_forget.getD x 0) = true := SPH_of (gs := [0]) (by intro j hj; simp at hj; subst hj; exact hg0) rfl (by decide +kernel)
  refine C16p (D := pul ι_forget D) (N := pul ι_forget N) (F := pul ι_forget F) (A := pul ι_forget A) (HWs_sub HX vs_forget hp) (show F 0 3 = (D 13 : Int) from hPF (0, 0, 3, 13) (List.mem_of_getElem? (i := 12) rfl) hg0 hg0) (show F 13 1 = (D 16 : Int) from hPF (0, 13, 1, 16) (List.mem_of_getElem? (i := 15) rfl) hg0 hg0) (show F 16 1 = (D 17 : Int) from hPF (0, 16, 1, 17) (List.mem_of_getElem? (i := 16) rfl) hg0 hg0) (show F 16 2 = (D 18 : Int) from hPF (0, 16, 2, 18) (List.mem_of_getElem? (i := 17) rfl) hg0 hg0) (show F 0 2 = (D 11 : Int) from hPF (0, 0, 2, 11) (List.mem_of_getElem? (i := 10) rfl) hg0 hg0) (show F 13 0 = (D 14 : Int) from hPF (0, 13, 0, 14) (List.mem_of_getElem? (i := 13) rfl) hg0 hg0) (N 17 : Int) rfl (N 18 : Int) rfl (F 13 2) rfl (F 16 0) rfl (F 11 1) rfl (F 14 1) rfl (A 17) rfl (A 18) rfl   (show inr (a1) by first | assumption | omega) (show ((N 17 : Int)) = 3 ∧ ((N 18 : Int)) = 3 by first | assumption | omega) (show 0 ≤ (F 11 1) by first | assumption | omega) (show 0 ≤ (F 14 1) by first | assumption | omega) (fun z σₚ Fₚ Aₚ Hₚ O sf sa y1_2 ey1_2 y2_0 ey2_0 y5_1 ey5_1 y6_1 ey6_1 v3 ev3 v4 ev4 q0 q1 q2 q3 q4 q5 q6 q7 q8 => ?_)
  · skip
    subst ey1_2 ey2_0 ey5_1 ey6_1 ev3 ev4
    have sd : SD [] (pul ι_forget D) (pul ι_forget D) := SD_refl
    have sn : SD [] (pul ι_forget N) (pul ι_forget N) := SD_refl
    refine k z _ (glu ι_forget D (pul ι_forget D)) (glu ι_forget N (pul ι_forget N)) (glu ι_forget F Fₚ) (glu ι_forget A Aₚ) _ _ ⟨HWs_call HX VPH_3 vs_forget hp Hₚ O, STC_call HT HX vs_forget hp O, hg0, PFI_glue (dl := []) hPF sf sa sd (by decide +kernel) (rexc_of (l := []) (by decide +kernel) ?_), ABS_glue hAB sf (by decide +kernel), NZ_glue hNZ vs_forget hp sn (by decide +kernel), hGI, ?_, ?_, ?_, ?_, ?_, ?_, ?_, ?_, ?_, ?_⟩ ⟨(STP0_call (STY_call vs_forget hp O) (sd 0 rfl) (RM_call vs_forget O)), unt1_of (x := 10) (by decide +kernel) (fun p hp => funext (sa p hp))⟩ (EQD_glue sf sa sd sn (by decide +kernel)) (show z = 0 ∨ z = 1 by first | assumption | omega | rfl) (show z = 1 ∧ (a1 = 0 ∨ a1 = 1) ∨ z = 0 ∧ a1 ≠ 0 ∧ a1 ≠ 1 by first | assumption | omega | rfl) (show a1 = 0 ∧ (Fₚ 5 1) = 0 ∨ a1 ≠ 0 ∧ (Fₚ 5 1) = (F 11 1) by first | assumption | omega | rfl)
    · intro e he h1 h2
      cases he
    · skip
      exact ⟨QF0_0_eq (EQD_glue sf sa sd sn (by decide +kernel)) f0_0, QF0_1_eq (EQD_glue sf sa sd sn (by decide +kernel)) f0_1, QF0_2_eq (EQD_glue sf sa sd sn (by decide +kernel)) f0_2, QF0_3_eq (EQD_glue sf sa sd sn (by decide +kernel)) f0_3, show 0 ≤ (Fₚ 5 1) ∧ (Fₚ 5 1) ≤ ((N 12 : Int)) ∧ ((N 12 : Int)) ≤ 65536 from (by first | assumption | omega), QF0_5_eq (EQD_glue sf sa sd sn (by decide +kernel)) f0_5, QF0_6_eq (EQD_glue sf sa sd sn (by decide +kernel)) f0_6, show 0 ≤ (Fₚ 6 1) ∧ (Fₚ 6 1) ≤ ((N 15 : Int)) ∧ ((N 15 : Int)) ≤ 65536 from (by first | assumption | omega), QF0_8_eq (EQD_glue sf sa sd sn (by decide +kernel)) f0_8, QF0_9_eq (EQD_glue sf sa sd sn (by decide +kernel)) f0_9, QF0_10_eq (EQD_glue sf sa sd sn (by decide +kernel)) f0_10, QF0_11_eq (EQD_glue sf sa sd sn (by decide +kernel)) f0_11, QF0_12_eq (EQD_glue sf sa sd sn (by decide +kernel)) f0_12, QF0_13_eq (EQD_glue sf sa sd sn (by decide +kernel)) f0_13, QF0_14_eq (EQD_glue sf sa sd sn (by decide +kernel)) f0_14, QF0_15_eq (EQD_glue sf sa sd sn (by decide +kernel)) f0_15, QF0_16_eq (EQD_glue sf sa sd sn (by decide +kernel)) f0_16, QF0_17_eq (EQD_glue sf sa sd sn (by decide +kernel)) f0_17, QF0_18_eq (EQD_glue sf sa sd sn (by decide +kernel)) f0_18, QF0_19_eq (EQD_glue sf sa sd sn (by decide +kernel)) f0_19, QF0_20_eq (EQD_glue sf sa sd sn (by decide +kernel)) f0_20, show DCK (fgD a1 Dc) (sc ((A 15)) 0 ((Fₚ 6 1))) ((Fₚ 1 2)) ((Aₚ 4)) from (fg_K f0_21 (by omega) (by omega) q8), show DCo (fgD a1 Dc) from (fg_o f0_22), show DCl (fgD a1 Dc) from (fg_l f0_23), QF0_24_eq (EQD_glue sf sa sd sn (by decide +kernel)) f0_24⟩
    · exact fun h => INV1_eq (EQD_glue sf sa sd sn (by decide +kernel)) (hI1 h)
    · exact fun h => INV2_eq (EQD_glue sf sa sd sn (by decide +kernel)) (hI2 h)
    · exact fun h => INV3_eq (EQD_glue sf sa sd sn (by decide +kernel)) (hI3 h)
    · exact fun h => INV4_eq (EQD_glue sf sa sd sn (by decide +kernel)) (hI4 h)
    · exact fun h => INV5_eq (EQD_glue sf sa sd sn (by decide +kernel)) (hI5 h)
    · exact fun h => INV6_eq (EQD_glue sf sa sd sn (by decide +kernel)) (hI6 h)
    · intro hq
      have hJ7 := hI7 hq
      unfold INV7 at hJ7
      obtain ⟨f7_0, f7_1, f7_2, f7_3, f7_4, f7_5, f7_6, f7_7, f7_8, f7_9, f7_10, f7_11, f7_12, f7_13, f7_14, f7_15, f7_16, f7_17, f7_18, f7_19, f7_20, f7_21, f7_22⟩ := hJ7
      exact ⟨QF7_0_eq (EQD_glue sf sa sd sn (by decide +kernel)) f7_0, QF7_1_eq (EQD_glue sf sa sd sn (by decide +kernel)) f7_1, QF7_2_eq (EQD_glue sf sa sd sn (by decide +kernel)) f7_2, QF7_3_eq (EQD_glue sf sa sd sn (by decide +kernel)) f7_3, QF7_4_eq (EQD_glue sf sa sd sn (by decide +kernel)) f7_4, QF7_5_eq (EQD_glue sf sa sd sn (by decide +kernel)) f7_5, QF7_6_eq (EQD_glue sf sa sd sn (by decide +kernel)) f7_6, show HID ((Fₚ 2 0) = -1 ∨ (Fₚ 2 0) = (((D 259 : Nat) : Int)) ∧ 0 ≤ (F 259 3) ∧ (F 259 3) ≤ 11) from (by rcases q3 with ⟨e0, e1, e2, e3⟩ | ⟨e0, e1, e2, e3⟩ <;> first | (simp only [e0, e1, e2, e3]; exact f7_7) | exact Or.inl e0 | exact Or.inl e1 | exact Or.inl e2 | exact Or.inl e3), show HID ((Fₚ 2 0) = -1 ∨ LNG ((A 260)) ((F 259 3))) from (by rcases q3 with ⟨e0, e1, e2, e3⟩ | ⟨e0, e1, e2, e3⟩ <;> first | (simp only [e0, e1, e2, e3]; exact f7_8) | exact Or.inl e0 | exact Or.inl e1 | exact Or.inl e2 | exact Or.inl e3), show HID (((Aₚ 3)) 0 = -1 ∨ ((Aₚ 3)) 0 = (((D 283 : Nat) : Int))) from (by rcases q3 with ⟨e0, e1, e2, e3⟩ | ⟨e0, e1, e2, e3⟩ <;> first | (simp only [e0, e1, e2, e3]; exact f7_9) | exact Or.inl e0 | exact Or.inl e1 | exact Or.inl e2 | exact Or.inl e3), show HID (((Aₚ 3)) 1 = -1 ∨ ((Aₚ 3)) 1 = (((D 292 : Nat) : Int))) from (by rcases q3 with ⟨e0, e1, e2, e3⟩ | ⟨e0, e1, e2, e3⟩ <;> first | (simp only [e0, e1, e2, e3]; exact f7_10) | exact Or.inl e0 | exact Or.inl e1 | exact Or.inl e2 | exact Or.inl e3), show HID (((Aₚ 3)) 2 = -1 ∨ ((Aₚ 3)) 2 = (((D 301 : Nat) : Int))) from (by rcases q3 with ⟨e0, e1, e2, e3⟩ | ⟨e0, e1, e2, e3⟩ <;> first | (simp only [e0, e1, e2, e3]; exact f7_11) | exact Or.inl e0 | exact Or.inl e1 | exact Or.inl e2 | exact Or.inl e3), show HID (((Aₚ 3)) 0 = -1 ∨ SL ((A 284)) ((F 283 1)) ((F 283 0)) ((A 285)) ((A 286)) ((A 287)) ((A 289)) ((A 290)) ((A 291))) from (by rcases q3 with ⟨e0, e1, e2, e3⟩ | ⟨e0, e1, e2, e3⟩ <;> first | (simp only [e0, e1, e2, e3]; exact f7_12) | exact Or.inl e0 | exact Or.inl e1 | exact Or.inl e2 | exact Or.inl e3), show HID (((Aₚ 3)) 1 = -1 ∨ SL ((A 293)) ((F 292 1)) ((F 292 0)) ((A 294)) ((A 295)) ((A 296)) ((A 298)) ((A 299)) ((A 300))) from (by rcases q3 with ⟨e0, e1, e2, e3⟩ | ⟨e0, e1, e2, e3⟩ <;> first | (simp only [e0, e1, e2, e3]; exact f7_13) | exact Or.inl e0 | exact Or.inl e1 | exact Or.inl e2 | exact Or.inl e3), show HID (((Aₚ 3)) 2 = -1 ∨ SL ((A 302)) ((F 301 1)) ((F 301 0)) ((A 303)) ((A 304)) ((A 305)) ((A 307)) ((A 308)) ((A 309))) from (by rcases q3 with ⟨e0, e1, e2, e3⟩ | ⟨e0, e1, e2, e3⟩ <;> first | (simp only [e0, e1, e2, e3]; exact f7_14) | exact Or.inl e0 | exact Or.inl e1 | exact Or.inl e2 | exact Or.inl e3), show HID (((Aₚ 3)) 0 = -1 ∨ (F 283 0) ≤ 9) from (by rcases q3 with ⟨e0, e1, e2, e3⟩ | ⟨e0, e1, e2, e3⟩ <;> first | (simp only [e0, e1, e2, e3]; exact f7_15) | exact Or.inl e0 | exact Or.inl e1 | exact Or.inl e2 | exact Or.inl e3), show HID (((Aₚ 3)) 1 = -1 ∨ (F 292 0) ≤ 8) from (by rcases q3 with ⟨e0, e1, e2, e3⟩ | ⟨e0, e1, e2, e3⟩ <;> first | (simp only [e0, e1, e2, e3]; exact f7_16) | exact Or.inl e0 | exact Or.inl e1 | exact Or.inl e2 | exact Or.inl e3), show HID (((Aₚ 3)) 2 = -1 ∨ (F 301 0) ≤ 9) from (by rcases q3 with ⟨e0, e1, e2, e3⟩ | ⟨e0, e1, e2, e3⟩ <;> first | (simp only [e0, e1, e2, e3]; exact f7_17) | exact Or.inl e0 | exact Or.inl e1 | exact Or.inl e2 | exact Or.inl e3), show DCQ (fgD a1 Dc).2.2.1 ((Fₚ 2 0)) ((F 259 3)) ((A 262)) from (fg_Q f7_18 (by omega) (by omega)), show DCT ((fgD a1 Dc).2.2.2.1 0) (((Aₚ 3)) 0) ((F 283 0)) ((F 283 1)) ((A 284)) from (fg_T f7_19 (by omega) (by by_cases c : a1 = 1; exact .inl c; exact .inr (q8 c 0).1)), show DCT ((fgD a1 Dc).2.2.2.1 1) (((Aₚ 3)) 1) ((F 292 0)) ((F 292 1)) ((A 293)) from (fg_T f7_20 (by omega) (by by_cases c : a1 = 1; exact .inl c; exact .inr (q8 c 1).1)), show DCT ((fgD a1 Dc).2.2.2.1 2) (((Aₚ 3)) 2) ((F 301 0)) ((F 301 1)) ((A 302)) from (fg_T f7_21 (by omega) (by by_cases c : a1 = 1; exact .inl c; exact .inr (q8 c 2).1)), show DCW (fgD a1 Dc).2.2.1 ((Fₚ 2 0)) ((F 259 3)) ((A 260)) ((A 262)) ((A 261)) from (fg_W f7_22 (by omega) (by omega))⟩
    · exact fun h => INV8_eq (EQD_glue sf sa sd sn (by decide +kernel)) (hI8 h)
    · intro hq
      have hJ9 := hI9 hq
      unfold INV9 at hJ9
      obtain ⟨f9_0, f9_1, f9_2, f9_3, f9_4, f9_5, f9_6, f9_7⟩ := hJ9
      exact ⟨show (Fₚ 2 0) = -1 from (by first | assumption | omega), show ((Aₚ 3)) 0 = -1 from (by first | assumption | omega), show ((Aₚ 3)) 1 = -1 from (by first | assumption | omega), show ((Aₚ 3)) 2 = -1 from (by first | assumption | omega), show (fgD a1 Dc).2.2.1.1 = 0 from (fg_0 f9_4), show ((fgD a1 Dc).2.2.2.1 0).1 < 0 from (fg_t f9_5), show ((fgD a1 Dc).2.2.2.1 1).1 < 0 from (fg_t f9_6), show ((fgD a1 Dc).2.2.2.1 2).1 < 0 from (fg_t f9_7)⟩
def ι_join : List Nat := [0, 1, 2, 3, 4, 5, 6, 7, 8, 9]
theorem vs_join : VS VPH V5 ι_join := VS_of (by decide +kernel)
set_option maxRecDepth 20000 in
theorem T_join {Dc : DcS} {g : Nat → Bool} {σ : rS} {D N : Nat → Nat} {F : hF} {A : hA} {d c s : Nat} {Q : wQ} (X : PHI Dc g σ D N F A)  {a1 a2 a3 a4 : Int}  (h0 : inr a1) (h1 : inr a2) (h2 : inr a3) (h3 : inr a4)  (k : ∀ (z : Int) (σₚ : rS) (Dₚ Nₚ : Nat → Nat) (Fₚ : hF) (Aₚ : hA) (cₚ sₚ : Nat), PHI Dc g σₚ Dₚ Nₚ Fₚ Aₚ → STP g σ D N A c s g σₚ Dₚ Nₚ Aₚ cₚ sₚ → EQD [(11, 1), (0, 18), (25, 1)] [12, 10, 29, 30, 32, 26] [] [] D N F A Dₚ Nₚ Fₚ Aₚ → (z = 0 ∨ z = 1) → (JNP (rw4 (sc ((A 3)) 0 ((F 2 1))) (sc ((A 5)) 0 ((F 4 1))) (sc ((A 7)) 0 ((F 6 1))) (sc ((A 9)) 0 ((F 8 1)))) (rw4 (sc ((Aₚ 3)) 0 ((Fₚ 2 1))) (sc ((Aₚ 5)) 0 ((Fₚ 4 1))) (sc ((Aₚ 7)) 0 ((Fₚ 6 1))) (sc ((Aₚ 9)) 0 ((Fₚ 8 1)))) (a1) (a2) (a3) (a4) (z)) → Q (some (I z)) σₚ cₚ sₚ) : Ew 5 (d + 2) 0 (rargs 0 [.ref (D 0), I a1, I a2, I a3, I a4]) [] σ c s Q := by
  obtain ⟨HX, HT, hg0, hPF, hAB, hNZ, hGI, hI0, hI1, hI2, hI3, hI4, hI5, hI6, hI7, hI8, hI9⟩ := X
  have hset := SETI_f hI0.2.2.2.2.2.2.2.2.2.2.2.2.2.2.2.2.2.2.2.2.2.2.2.2
  have hJ0 := hI0
  unfold INV0 at hJ0
  obtain ⟨f0_0, f0_1, f0_2, f0_3, f0_4, f0_5, f0_6, f0_7, f0_8, f0_9, f0_10, f0_11, f0_12, f0_13, f0_14, f0_15, f0_16, f0_17, f0_18, f0_19, f0_20, f0_21, f0_22, f0_23, f0_24⟩ := hJ0
  have hp : ∀ x, x < (V5).length → SPH g (ι_join.getD x 0) = true := SPH_of (gs := [0]) (by intro j hj; simp at hj; subst hj; exact hg0) rfl (by decide +kernel)
  refine C5p (D := pul ι_join D) (N := pul ι_join N) (F := pul ι_join F) (A := pul ι_join A) (HWs_sub HX vs_join hp) (show F 0 0 = (D 1 : Int) from hPF (0, 0, 0, 1) (List.mem_of_getElem? (i := 0) rfl) hg0 hg0) (show A 1 0 = (D 2 : Int) from hPF (1, 1, 0, 2) (List.mem_of_getElem? (i := 1) rfl) hg0 hg0) (show F 2 0 = (D 3 : Int) from hPF (0, 2, 0, 3) (List.mem_of_getElem? (i := 2) rfl) hg0 hg0) (show A 1 1 = (D 4 : Int) from hPF (1, 1, 1, 4) (List.mem_of_getElem? (i := 3) rfl) hg0 hg0) (show F 4 0 = (D 5 : Int) from hPF (0, 4, 0, 5) (List.mem_of_getElem? (i := 4) rfl) hg0 hg0) (show A 1 2 = (D 6 : Int) from hPF (1, 1, 2, 6) (List.mem_of_getElem? (i := 5) rfl) hg0 hg0) (show F 6 0 = (D 7 : Int) from hPF (0, 6, 0, 7) (List.mem_of_getElem? (i := 6) rfl) hg0 hg0) (show A 1 3 = (D 8 : Int) from hPF (1, 1, 3, 8) (List.mem_of_getElem? (i := 7) rfl) hg0 hg0) (show F 8 0 = (D 9 : Int) from hPF (0, 8, 0, 9) (List.mem_of_getElem? (i := 8) rfl) hg0 hg0) (N 1 : Int) rfl (N 3 : Int) rfl (N 5 : Int) rfl (N 7 : Int) rfl (N 9 : Int) rfl (F 2 1) rfl (F 2 2) rfl (F 4 1) rfl (F 4 2) rfl (F 6 1) rfl (F 6 2) rfl (F 8 1) rfl (F 8 2) rfl (A 3) rfl (A 5) rfl (A 7) rfl (A 9) rfl   (show inr (a1) by first | assumption | omega) (show inr (a2) by first | assumption | omega) (show inr (a3) by first | assumption | omega) (show inr (a4) by first | assumption | omega) (show ((N 1 : Int)) = 4 by first | assumption | omega) (show 0 ≤ (F 2 1) ∧ (F 2 1) ≤ ((N 3 : Int)) ∧ ((N 3 : Int)) ≤ 65536 by first | assumption | omega) (show 0 ≤ (F 4 1) ∧ (F 4 1) ≤ ((N 5 : Int)) ∧ ((N 5 : Int)) ≤ 65536 by first | assumption | omega) (show 0 ≤ (F 6 1) ∧ (F 6 1) ≤ ((N 7 : Int)) ∧ ((N 7 : Int)) ≤ 65536 by first | assumption | omega) (show 0 ≤ (F 8 1) ∧ (F 8 1) ≤ ((N 9 : Int)) ∧ ((N 9 : Int)) ≤ 65536 by first | assumption | omega) (show (F 2 2) = 0 by first | assumption | omega) (show (F 4 2) = 0 by first | assumption | omega) (show (F 6 2) = 0 by first | assumption | omega) (show (F 8 2) = 0 by first | assumption | omega) (fun z σₚ Dₚ Nₚ Fₚ Aₚ cₚ sₚ Hₚ O sd sn sf sa pm3 pm5 pm7 pm9 m3 em3 m5 em5 m7 em7 m9 em9 y2_1 ey2_1 y4_1 ey4_1 y6_1 ey6_1 y8_1 ey8_1 v3 ev3 v5 ev5 v7 ev7 v9 ev9 q0 q1 q2 q3 q4 q5 q6 q7 q8 q9 => ?_)
  · skip
    subst em3 em5 em7 em9 ey2_1 ey4_1 ey6_1 ey8_1 ev3 ev5 ev7 ev9
    refine k z _ (glu ι_join D Dₚ) (glu ι_join N Nₚ) (glu ι_join F Fₚ) (glu ι_join A Aₚ) _ _ ⟨HWs_call HX VPH_3 vs_join hp Hₚ O, STC_call HT HX vs_join hp O, hg0, PFI_glue (dl := [3, 5, 7, 9]) hPF sf sa sd (by decide +kernel) (rexc_of (l := [(0, 2, 0, 3), (0, 4, 0, 5), (0, 6, 0, 7), (0, 8, 0, 9)]) (by decide +kernel) ?_), ABS_glue hAB sf (by decide +kernel), NZ_glue hNZ vs_join hp sn (by decide +kernel), hGI, ?_, ?_, ?_, ?_, ?_, ?_, ?_, ?_, ?_, ?_⟩ ⟨(STP0_call (STY_call vs_join hp O) (sd 0 rfl) (RM_call vs_join O)), unt1_of (x := 10) (by decide +kernel) (fun p hp => funext (sa p hp))⟩ (EQD_glue sf sa sd sn (by decide +kernel)) (show z = 0 ∨ z = 1 by first | assumption | omega | rfl) (show JNP (rw4 (sc ((A 3)) 0 ((F 2 1))) (sc ((A 5)) 0 ((F 4 1))) (sc ((A 7)) 0 ((F 6 1))) (sc ((A 9)) 0 ((F 8 1)))) (rw4 (sc ((Aₚ 3)) 0 ((Fₚ 2 1))) (sc ((Aₚ 5)) 0 ((Fₚ 4 1))) (sc ((Aₚ 7)) 0 ((Fₚ 6 1))) (sc ((Aₚ 9)) 0 ((Fₚ 8 1)))) (a1) (a2) (a3) (a4) (z) by first | assumption | omega | rfl)
    · intro e he h1 h2
      simp only [List.mem_cons, List.not_mem_nil, or_false] at he
      rcases he with rfl | rfl | rfl | rfl
      · exact pm3
      · exact pm5
      · exact pm7
      · exact pm9
    · skip
      exact ⟨show 0 ≤ (Fₚ 2 1) ∧ (Fₚ 2 1) ≤ ((Nₚ 3 : Int)) ∧ ((Nₚ 3 : Int)) ≤ 65536 from (by first | assumption | omega), show 0 ≤ (Fₚ 4 1) ∧ (Fₚ 4 1) ≤ ((Nₚ 5 : Int)) ∧ ((Nₚ 5 : Int)) ≤ 65536 from (by first | assumption | omega), show 0 ≤ (Fₚ 6 1) ∧ (Fₚ 6 1) ≤ ((Nₚ 7 : Int)) ∧ ((Nₚ 7 : Int)) ≤ 65536 from (by first | assumption | omega), show 0 ≤ (Fₚ 8 1) ∧ (Fₚ 8 1) ≤ ((Nₚ 9 : Int)) ∧ ((Nₚ 9 : Int)) ≤ 65536 from (by first | assumption | omega), QF0_4_eq (EQD_glue sf sa sd sn (by decide +kernel)) f0_4, QF0_5_eq (EQD_glue sf sa sd sn (by decide +kernel)) f0_5, QF0_6_eq (EQD_glue sf sa sd sn (by decide +kernel)) f0_6, QF0_7_eq (EQD_glue sf sa sd sn (by decide +kernel)) f0_7, QF0_8_eq (EQD_glue sf sa sd sn (by decide +kernel)) f0_8, QF0_9_eq (EQD_glue sf sa sd sn (by decide +kernel)) f0_9, QF0_10_eq (EQD_glue sf sa sd sn (by decide +kernel)) f0_10, QF0_11_eq (EQD_glue sf sa sd sn (by decide +kernel)) f0_11, QF0_12_eq (EQD_glue sf sa sd sn (by decide +kernel)) f0_12, QF0_13_eq (EQD_glue sf sa sd sn (by decide +kernel)) f0_13, QF0_14_eq (EQD_glue sf sa sd sn (by decide +kernel)) f0_14, QF0_15_eq (EQD_glue sf sa sd sn (by decide +kernel)) f0_15, QF0_16_eq (EQD_glue sf sa sd sn (by decide +kernel)) f0_16, QF0_17_eq (EQD_glue sf sa sd sn (by decide +kernel)) f0_17, QF0_18_eq (EQD_glue sf sa sd sn (by decide +kernel)) f0_18, QF0_19_eq (EQD_glue sf sa sd sn (by decide +kernel)) f0_19, QF0_20_eq (EQD_glue sf sa sd sn (by decide +kernel)) f0_20, QF0_21_eq (EQD_glue sf sa sd sn (by decide +kernel)) f0_21, QF0_22_eq (EQD_glue sf sa sd sn (by decide +kernel)) f0_22, QF0_23_eq (EQD_glue sf sa sd sn (by decide +kernel)) f0_23, QF0_24_eq (EQD_glue sf sa sd sn (by decide +kernel)) f0_24⟩
    · exact fun h => INV1_eq (EQD_glue sf sa sd sn (by decide +kernel)) (hI1 h)
    · exact fun h => INV2_eq (EQD_glue sf sa sd sn (by decide +kernel)) (hI2 h)
    · exact fun h => INV3_eq (EQD_glue sf sa sd sn (by decide +kernel)) (hI3 h)
    · exact fun h => INV4_eq (EQD_glue sf sa sd sn (by decide +kernel)) (hI4 h)
    · exact fun h => INV5_eq (EQD_glue sf sa sd sn (by decide +kernel)) (hI5 h)
    · exact fun h => INV6_eq (EQD_glue sf sa sd sn (by decide +kernel)) (hI6 h)
    · exact fun h => INV7_eq (EQD_glue sf sa sd sn (by decide +kernel)) (hI7 h)
    · exact fun h => INV8_eq (EQD_glue sf sa sd sn (by decide +kernel)) (hI8 h)
    · exact fun h => INV9_eq (EQD_glue sf sa sd sn (by decide +kernel)) (hI9 h)


end
section
/-! Y0s.ref -/
theorem M67x {σ0 σ : rS} {D N : Nat → Nat} {F : hF} {A : hA} {d c s : Nat} {Q : wQ} (H : HS σ0 σ D N F A) {a1 a2 a3 : Int} (h0 : inr (a1)) (h1 : inr (a2)) (h2 : inr (a3)) (k : ∀ (z : Int) σ Fₚ Aₚ, HS σ0 σ D N Fₚ Aₚ → SF [] F Fₚ → SA [] A Aₚ → ((z) = 0 ∨ (z) = 1) → ((z) = 1 ∧ (a2) ≤ (a1) ∧ (a1) ≤ (a3) ∨ (z) = 0 ∧ ((a1) < (a2) ∨ (a3) < (a1))) → Q (some (I z)) σ c s) : Ew 67 (d + 0) 0 (rargs 0 [I a1, I a2, I a3]) [] σ c s Q := by
  refine Ew_of (pcₚ := 1) (fun _ => x_iload_n rfl rfl) ?_
  refine Ew_of (pcₚ := 2) (fun _ => x_iload_n rfl rfl) ?_
  refine w_icmplt (t := 14) rfl rfl (show inr (a1) from h0) (show inr (a2) from h1) (fun b1 => ?_) (fun b1 => ?_)
  · refine Ew_of (pcₚ := 15) (fun _ => x_iconst rfl) ?_
    exact w_ireturn rfl (k (0) σ _ _ H (SF_refl) (SA_refl) (show (0) = 0 ∨ (0) = 1 by first | exact q_45 | omega) (show (0) = 1 ∧ a2 ≤ a1 ∧ a1 ≤ a3 ∨ (0) = 0 ∧ (a1 < a2 ∨ a3 < a1) by first | exact q_4997 b1 | omega))
  · refine Ew_of (pcₚ := 6) (fun _ => x_iload_n rfl rfl) ?_
    refine Ew_of (pcₚ := 7) (fun _ => x_iload_n rfl rfl) ?_
    refine w_icmpgt (t := 14) rfl rfl (show inr (a1) from h0) (show inr (a3) from h2) (fun b2 => ?_) (fun b2 => ?_)
    · refine Ew_of (pcₚ := 15) (fun _ => x_iconst rfl) ?_
      exact w_ireturn rfl (k (0) σ _ _ H (SF_refl) (SA_refl) (show (0) = 0 ∨ (0) = 1 by first | exact q_45 | omega) (show (0) = 1 ∧ a2 ≤ a1 ∧ a1 ≤ a3 ∨ (0) = 0 ∧ (a1 < a2 ∨ a3 < a1) by first | exact q_4998 b2 | omega))
    · refine Ew_of (pcₚ := 11) (fun _ => x_iconst rfl) ?_
      refine Ew_of (pcₚ := 15) (fun _ => x_goto rfl rfl) ?_
      exact w_ireturn rfl (k (1) σ _ _ H (SF_refl) (SA_refl) (show (1) = 0 ∨ (1) = 1 by first | exact q_49 | omega) (show (1) = 1 ∧ a2 ≤ a1 ∧ a1 ≤ a3 ∨ (1) = 0 ∧ (a1 < a2 ∨ a3 < a1) by first | exact q_4999 b1 b2 | omega))

theorem M68x {σ0 σ : rS} {D N : Nat → Nat} {F : hF} {A : hA} {d c s : Nat} {Q : wQ} (H : HS σ0 σ D N F A) {a1 a2 : Int} (h0 : inr (a1)) (h1 : inr (a2)) (k : ∀ (z : Int) σ Fₚ Aₚ, HS σ0 σ D N Fₚ Aₚ → SF [] F Fₚ → SA [] A Aₚ → ((z) = 0 ∨ (z) = 1) → ((a1) = 3 ∧ ((z) = 1 ∧ 64 ≤ (a2) ∧ (a2) ≤ 127 ∧ andI ((a2)) 2 = 0 ∨ (z) = 0 ∧ ((a2) < 64 ∨ 127 < (a2) ∨ andI ((a2)) 2 ≠ 0)) ∨ ((a1) < 0 ∨ 9 < (a1)) ∧ (z) = 0 ∨ 0 ≤ (a1) ∧ (a1) ≤ 9 ∧ (a1) ≠ 3 ∧ ((z) = 1 ∧ mlo ((a1)) ≤ (a2) ∧ (a2) ≤ mhi ((a1)) ∨ (z) = 0 ∧ ((a2) < mlo ((a1)) ∨ mhi ((a1)) < (a2)))) → Q (some (I z)) σ c s) : Ew 68 (d + 1) 0 (rargs 0 [I a1, I a2]) [] σ c s Q := by
  refine Ew_of (pcₚ := 1) (fun _ => x_iload_n rfl rfl) ?_
  by_cases b1 : a1 = 0
  · refine w_tsk 0 52 rfl (show inr (a1) from h0) (by omega) (by decide) rfl rfl ?_
    have hm : mlo ((a1)) = 0 ∧ mhi ((a1)) = 3 := by rw [show (a1) = (0 : Int) by omega]; decide
    refine Ew_of (pcₚ := 53) (fun _ => x_iload_n rfl rfl) ?_
    refine Ew_of (pcₚ := 54) (fun _ => x_iconst rfl) ?_
    refine Ew_of (pcₚ := 55) (fun _ => x_iconst rfl) ?_
    refine w_stat24 rfl rfl (by rfl) (M67x H (show inr (a2) from h1) (show inr (0) from q_2) (show inr (3) from q_246) (fun z6 σ F2 A3 H hS4 hA5 pz6_0 pz6_1 => ⟨rretB rfl pz6_0, ?_⟩))
    exact w_ireturn rfl (k (z6) σ _ _ H (SF_trans (SF_refl) hS4 (any_sub rfl)) (SA_trans (SA_refl) hA5 (any_subA rfl)) (show (z6) = 0 ∨ (z6) = 1 from pz6_0) (show a1 = 3 ∧ ((z6) = 1 ∧ 64 ≤ a2 ∧ a2 ≤ 127 ∧ andI (a2) 2 = 0 ∨ (z6) = 0 ∧ (a2 < 64 ∨ 127 < a2 ∨ andI (a2) 2 ≠ 0)) ∨ (a1 < 0 ∨ 9 < a1) ∧ (z6) = 0 ∨ 0 ≤ a1 ∧ a1 ≤ 9 ∧ a1 ≠ 3 ∧ ((z6) = 1 ∧ mlo (a1) ≤ a2 ∧ a2 ≤ mhi (a1) ∨ (z6) = 0 ∧ (a2 < mlo (a1) ∨ mhi (a1) < a2)) by omega))
  ·
    by_cases b7 : a1 = 1
    · refine w_tsk 1 59 rfl (show inr (a1) from h0) (by omega) (by decide) rfl rfl ?_
      have hm : mlo ((a1)) = 3 ∧ mhi ((a1)) = 8 := by rw [show (a1) = (1 : Int) by omega]; decide
      refine Ew_of (pcₚ := 60) (fun _ => x_iload_n rfl rfl) ?_
      refine Ew_of (pcₚ := 61) (fun _ => x_iconst rfl) ?_
      refine Ew_of (pcₚ := 63) (fun _ => x_bipush (z := 8) rfl (by decide)) ?_
      refine w_stat24 rfl rfl (by rfl) (M67x H (show inr (a2) from h1) (show inr (3) from q_246) (show inr (8) from q_141) (fun z12 σ F8 A9 H hS10 hA11 pz12_0 pz12_1 => ⟨rretB rfl pz12_0, ?_⟩))
      exact w_ireturn rfl (k (z12) σ _ _ H (SF_trans (SF_refl) hS10 (any_sub rfl)) (SA_trans (SA_refl) hA11 (any_subA rfl)) (show (z12) = 0 ∨ (z12) = 1 from pz12_0) (show a1 = 3 ∧ ((z12) = 1 ∧ 64 ≤ a2 ∧ a2 ≤ 127 ∧ andI (a2) 2 = 0 ∨ (z12) = 0 ∧ (a2 < 64 ∨ 127 < a2 ∨ andI (a2) 2 ≠ 0)) ∨ (a1 < 0 ∨ 9 < a1) ∧ (z12) = 0 ∨ 0 ≤ a1 ∧ a1 ≤ 9 ∧ a1 ≠ 3 ∧ ((z12) = 1 ∧ mlo (a1) ≤ a2 ∧ a2 ≤ mhi (a1) ∨ (z12) = 0 ∧ (a2 < mlo (a1) ∨ mhi (a1) < a2)) by omega))
    ·
      by_cases b13 : a1 = 2
      · refine w_tsk 2 67 rfl (show inr (a1) from h0) (by omega) (by decide) rfl rfl ?_
        have hm : mlo ((a1)) = 1 ∧ mhi ((a1)) = 65536 := by rw [show (a1) = (2 : Int) by omega]; decide
        refine Ew_of (pcₚ := 68) (fun _ => x_iload_n rfl rfl) ?_
        refine Ew_of (pcₚ := 69) (fun _ => x_iconst rfl) ?_
        refine Ew_of (pcₚ := 71) (fun _ => x_ldc (z := 65536) rfl (by decide)) ?_
        refine w_stat24 rfl rfl (by rfl) (M67x H (show inr (a2) from h1) (show inr (1) from q_135) (show inr (65536) from q_52) (fun z18 σ F14 A15 H hS16 hA17 pz18_0 pz18_1 => ⟨rretB rfl pz18_0, ?_⟩))
        exact w_ireturn rfl (k (z18) σ _ _ H (SF_trans (SF_refl) hS16 (any_sub rfl)) (SA_trans (SA_refl) hA17 (any_subA rfl)) (show (z18) = 0 ∨ (z18) = 1 from pz18_0) (show a1 = 3 ∧ ((z18) = 1 ∧ 64 ≤ a2 ∧ a2 ≤ 127 ∧ andI (a2) 2 = 0 ∨ (z18) = 0 ∧ (a2 < 64 ∨ 127 < a2 ∨ andI (a2) 2 ≠ 0)) ∨ (a1 < 0 ∨ 9 < a1) ∧ (z18) = 0 ∨ 0 ≤ a1 ∧ a1 ≤ 9 ∧ a1 ≠ 3 ∧ ((z18) = 1 ∧ mlo (a1) ≤ a2 ∧ a2 ≤ mhi (a1) ∨ (z18) = 0 ∧ (a2 < mlo (a1) ∨ mhi (a1) < a2)) by omega))
      ·
        by_cases b19 : a1 = 3
        · refine w_tsk 3 75 rfl (show inr (a1) from h0) (by omega) (by decide) rfl rfl ?_
          refine Ew_of (pcₚ := 76) (fun _ => x_iload_n rfl rfl) ?_
          refine Ew_of (pcₚ := 78) (fun _ => x_bipush (z := 64) rfl (by decide)) ?_
          refine Ew_of (pcₚ := 80) (fun _ => x_bipush (z := 127) rfl (by decide)) ?_
          refine w_stat24 rfl rfl (by rfl) (M67x H (show inr (a2) from h1) (show inr (64) from q_151) (show inr (127) from q_1119) (fun z24 σ F20 A21 H hS22 hA23 pz24_0 pz24_1 => ⟨rretB rfl pz24_0, ?_⟩))
          refine w_ifeq (t := 96) rfl rfl (show inr (z24) from q_138 pz24_0) (fun b25 => ?_) (fun b25 => ?_)
          · refine Ew_of (pcₚ := 97) (fun _ => x_iconst rfl) ?_
            exact w_ireturn rfl (k (0) σ _ _ H (SF_trans (SF_refl) hS22 (any_sub rfl)) (SA_trans (SA_refl) hA23 (any_subA rfl)) (show (0) = 0 ∨ (0) = 1 by first | exact q_45 | omega) (show a1 = 3 ∧ ((0) = 1 ∧ 64 ≤ a2 ∧ a2 ≤ 127 ∧ andI (a2) 2 = 0 ∨ (0) = 0 ∧ (a2 < 64 ∨ 127 < a2 ∨ andI (a2) 2 ≠ 0)) ∨ (a1 < 0 ∨ 9 < a1) ∧ (0) = 0 ∨ 0 ≤ a1 ∧ a1 ≤ 9 ∧ a1 ≠ 3 ∧ ((0) = 1 ∧ mlo (a1) ≤ a2 ∧ a2 ≤ mhi (a1) ∨ (0) = 0 ∧ (a2 < mlo (a1) ∨ mhi (a1) < a2)) by omega))
          · refine Ew_of (pcₚ := 87) (fun _ => x_iload_n rfl rfl) ?_
            refine Ew_of (pcₚ := 88) (fun _ => x_iconst rfl) ?_
            refine w_iandE rfl (show inr (a2) from h1) (show inr (2) from q_122) (fun z26 gz26 gaz26 gbz26 gez26 => ?_)
            refine w_ifne (t := 96) rfl rfl (show inr (z26) from gz26) (fun b27 => ?_) (fun b27 => ?_)
            · refine Ew_of (pcₚ := 97) (fun _ => x_iconst rfl) ?_
              exact w_ireturn rfl (k (0) σ _ _ H (SF_trans (SF_refl) hS22 (any_sub rfl)) (SA_trans (SA_refl) hA23 (any_subA rfl)) (show (0) = 0 ∨ (0) = 1 by first | exact q_45 | omega) (show a1 = 3 ∧ ((0) = 1 ∧ 64 ≤ a2 ∧ a2 ≤ 127 ∧ andI (a2) 2 = 0 ∨ (0) = 0 ∧ (a2 < 64 ∨ 127 < a2 ∨ andI (a2) 2 ≠ 0)) ∨ (a1 < 0 ∨ 9 < a1) ∧ (0) = 0 ∨ 0 ≤ a1 ∧ a1 ≤ 9 ∧ a1 ≠ 3 ∧ ((0) = 1 ∧ mlo (a1) ≤ a2 ∧ a2 ≤ mhi (a1) ∨ (0) = 0 ∧ (a2 < mlo (a1) ∨ mhi (a1) < a2)) by omega))
            · refine Ew_of (pcₚ := 93) (fun _ => x_iconst rfl) ?_
              refine Ew_of (pcₚ := 97) (fun _ => x_goto rfl rfl) ?_
              exact w_ireturn rfl (k (1) σ _ _ H (SF_trans (SF_refl) hS22 (any_sub rfl)) (SA_trans (SA_refl) hA23 (any_subA rfl)) (show (1) = 0 ∨ (1) = 1 by first | exact q_49 | omega) (show a1 = 3 ∧ ((1) = 1 ∧ 64 ≤ a2 ∧ a2 ≤ 127 ∧ andI (a2) 2 = 0 ∨ (1) = 0 ∧ (a2 < 64 ∨ 127 < a2 ∨ andI (a2) 2 ≠ 0)) ∨ (a1 < 0 ∨ 9 < a1) ∧ (1) = 0 ∨ 0 ≤ a1 ∧ a1 ≤ 9 ∧ a1 ≠ 3 ∧ ((1) = 1 ∧ mlo (a1) ≤ a2 ∧ a2 ≤ mhi (a1) ∨ (1) = 0 ∧ (a2 < mlo (a1) ∨ mhi (a1) < a2)) by omega))
        ·
          by_cases b28 : a1 = 4
          · refine w_tsk 4 98 rfl (show inr (a1) from h0) (by omega) (by decide) rfl rfl ?_
            have hm : mlo ((a1)) = 4 ∧ mhi ((a1)) = 7 := by rw [show (a1) = (4 : Int) by omega]; decide
            refine Ew_of (pcₚ := 99) (fun _ => x_iload_n rfl rfl) ?_
            refine Ew_of (pcₚ := 100) (fun _ => x_iconst rfl) ?_
            refine Ew_of (pcₚ := 102) (fun _ => x_bipush (z := 7) rfl (by decide)) ?_
            refine w_stat24 rfl rfl (by rfl) (M67x H (show inr (a2) from h1) (show inr (4) from q_216) (show inr (7) from q_597) (fun z33 σ F29 A30 H hS31 hA32 pz33_0 pz33_1 => ⟨rretB rfl pz33_0, ?_⟩))
            exact w_ireturn rfl (k (z33) σ _ _ H (SF_trans (SF_refl) hS31 (any_sub rfl)) (SA_trans (SA_refl) hA32 (any_subA rfl)) (show (z33) = 0 ∨ (z33) = 1 from pz33_0) (show a1 = 3 ∧ ((z33) = 1 ∧ 64 ≤ a2 ∧ a2 ≤ 127 ∧ andI (a2) 2 = 0 ∨ (z33) = 0 ∧ (a2 < 64 ∨ 127 < a2 ∨ andI (a2) 2 ≠ 0)) ∨ (a1 < 0 ∨ 9 < a1) ∧ (z33) = 0 ∨ 0 ≤ a1 ∧ a1 ≤ 9 ∧ a1 ≠ 3 ∧ ((z33) = 1 ∧ mlo (a1) ≤ a2 ∧ a2 ≤ mhi (a1) ∨ (z33) = 0 ∧ (a2 < mlo (a1) ∨ mhi (a1) < a2)) by omega))
          ·
            by_cases b34 : a1 = 5
            · refine w_tsk 5 131 rfl (show inr (a1) from h0) (by omega) (by decide) rfl rfl ?_
              have hm : mlo ((a1)) = -2147483648 ∧ mhi ((a1)) = 2147483647 := mlo_df (by omega)
              refine Ew_of (pcₚ := 132) (fun _ => x_iload_n rfl rfl) ?_
              refine Ew_of (pcₚ := 133) (fun _ => x_iconst rfl) ?_
              refine w_icmpeq (t := 142) rfl rfl (show inr (a1) from h0) (show inr (5) from q_727) (fun b35 => ?_) (fun b35 => ?_)
              · refine Ew_of (pcₚ := 143) (fun _ => x_iconst rfl) ?_
                refine Ew_of (pcₚ := 147) (fun _ => x_goto rfl rfl) ?_
                exact w_ireturn rfl (k (1) σ _ _ H (SF_refl) (SA_refl) (show (1) = 0 ∨ (1) = 1 by first | exact q_49 | omega) (show a1 = 3 ∧ ((1) = 1 ∧ 64 ≤ a2 ∧ a2 ≤ 127 ∧ andI (a2) 2 = 0 ∨ (1) = 0 ∧ (a2 < 64 ∨ 127 < a2 ∨ andI (a2) 2 ≠ 0)) ∨ (a1 < 0 ∨ 9 < a1) ∧ (1) = 0 ∨ 0 ≤ a1 ∧ a1 ≤ 9 ∧ a1 ≠ 3 ∧ ((1) = 1 ∧ mlo (a1) ≤ a2 ∧ a2 ≤ mhi (a1) ∨ (1) = 0 ∧ (a2 < mlo (a1) ∨ mhi (a1) < a2)) by first | exact q_5077 b35 h1 hm | omega))
              · refine Ew_of (pcₚ := 137) (fun _ => x_iload_n rfl rfl) ?_
                refine Ew_of (pcₚ := 139) (fun _ => x_bipush (z := 9) rfl (by decide)) ?_
                refine w_icmpne (t := 146) rfl rfl (show inr (a1) from h0) (show inr (9) from q_291) (fun b36 => ?_) (fun b36 => ?_)
                · refine Ew_of (pcₚ := 147) (fun _ => x_iconst rfl) ?_
                  exact w_ireturn rfl (k (0) σ _ _ H (SF_refl) (SA_refl) (show (0) = 0 ∨ (0) = 1 by first | exact q_45 | omega) (show a1 = 3 ∧ ((0) = 1 ∧ 64 ≤ a2 ∧ a2 ≤ 127 ∧ andI (a2) 2 = 0 ∨ (0) = 0 ∧ (a2 < 64 ∨ 127 < a2 ∨ andI (a2) 2 ≠ 0)) ∨ (a1 < 0 ∨ 9 < a1) ∧ (0) = 0 ∨ 0 ≤ a1 ∧ a1 ≤ 9 ∧ a1 ≠ 3 ∧ ((0) = 1 ∧ mlo (a1) ≤ a2 ∧ a2 ≤ mhi (a1) ∨ (0) = 0 ∧ (a2 < mlo (a1) ∨ mhi (a1) < a2)) by omega))
                · refine Ew_of (pcₚ := 143) (fun _ => x_iconst rfl) ?_
                  refine Ew_of (pcₚ := 147) (fun _ => x_goto rfl rfl) ?_
                  exact w_ireturn rfl (k (1) σ _ _ H (SF_refl) (SA_refl) (show (1) = 0 ∨ (1) = 1 by first | exact q_49 | omega) (show a1 = 3 ∧ ((1) = 1 ∧ 64 ≤ a2 ∧ a2 ≤ 127 ∧ andI (a2) 2 = 0 ∨ (1) = 0 ∧ (a2 < 64 ∨ 127 < a2 ∨ andI (a2) 2 ≠ 0)) ∨ (a1 < 0 ∨ 9 < a1) ∧ (1) = 0 ∨ 0 ≤ a1 ∧ a1 ≤ 9 ∧ a1 ≠ 3 ∧ ((1) = 1 ∧ mlo (a1) ≤ a2 ∧ a2 ≤ mhi (a1) ∨ (1) = 0 ∧ (a2 < mlo (a1) ∨ mhi (a1) < a2)) by first | exact q_5078 b34 b36 h1 hm | omega))
            ·
              by_cases b37 : a1 = 6
              · refine w_tsk 6 106 rfl (show inr (a1) from h0) (by omega) (by decide) rfl rfl ?_
                have hm : mlo ((a1)) = 0 ∧ mhi ((a1)) = 255 := by rw [show (a1) = (6 : Int) by omega]; decide
                refine Ew_of (pcₚ := 107) (fun _ => x_iload_n rfl rfl) ?_
                refine Ew_of (pcₚ := 108) (fun _ => x_iconst rfl) ?_
                refine Ew_of (pcₚ := 111) (fun _ => x_sipush (z := 255) rfl (by decide)) ?_
                refine w_stat24 rfl rfl (by rfl) (M67x H (show inr (a2) from h1) (show inr (0) from q_2) (show inr (255) from q_297) (fun z42 σ F38 A39 H hS40 hA41 pz42_0 pz42_1 => ⟨rretB rfl pz42_0, ?_⟩))
                exact w_ireturn rfl (k (z42) σ _ _ H (SF_trans (SF_refl) hS40 (any_sub rfl)) (SA_trans (SA_refl) hA41 (any_subA rfl)) (show (z42) = 0 ∨ (z42) = 1 from pz42_0) (show a1 = 3 ∧ ((z42) = 1 ∧ 64 ≤ a2 ∧ a2 ≤ 127 ∧ andI (a2) 2 = 0 ∨ (z42) = 0 ∧ (a2 < 64 ∨ 127 < a2 ∨ andI (a2) 2 ≠ 0)) ∨ (a1 < 0 ∨ 9 < a1) ∧ (z42) = 0 ∨ 0 ≤ a1 ∧ a1 ≤ 9 ∧ a1 ≠ 3 ∧ ((z42) = 1 ∧ mlo (a1) ≤ a2 ∧ a2 ≤ mhi (a1) ∨ (z42) = 0 ∧ (a2 < mlo (a1) ∨ mhi (a1) < a2)) by omega))
              ·
                by_cases b43 : a1 = 7
                · refine w_tsk 7 115 rfl (show inr (a1) from h0) (by omega) (by decide) rfl rfl ?_
                  have hm : mlo ((a1)) = 0 ∧ mhi ((a1)) = 15 := by rw [show (a1) = (7 : Int) by omega]; decide
                  refine Ew_of (pcₚ := 116) (fun _ => x_iload_n rfl rfl) ?_
                  refine Ew_of (pcₚ := 117) (fun _ => x_iconst rfl) ?_
                  refine Ew_of (pcₚ := 119) (fun _ => x_bipush (z := 15) rfl (by decide)) ?_
                  refine w_stat24 rfl rfl (by rfl) (M67x H (show inr (a2) from h1) (show inr (0) from q_2) (show inr (15) from q_399) (fun z48 σ F44 A45 H hS46 hA47 pz48_0 pz48_1 => ⟨rretB rfl pz48_0, ?_⟩))
                  exact w_ireturn rfl (k (z48) σ _ _ H (SF_trans (SF_refl) hS46 (any_sub rfl)) (SA_trans (SA_refl) hA47 (any_subA rfl)) (show (z48) = 0 ∨ (z48) = 1 from pz48_0) (show a1 = 3 ∧ ((z48) = 1 ∧ 64 ≤ a2 ∧ a2 ≤ 127 ∧ andI (a2) 2 = 0 ∨ (z48) = 0 ∧ (a2 < 64 ∨ 127 < a2 ∨ andI (a2) 2 ≠ 0)) ∨ (a1 < 0 ∨ 9 < a1) ∧ (z48) = 0 ∨ 0 ≤ a1 ∧ a1 ≤ 9 ∧ a1 ≠ 3 ∧ ((z48) = 1 ∧ mlo (a1) ≤ a2 ∧ a2 ≤ mhi (a1) ∨ (z48) = 0 ∧ (a2 < mlo (a1) ∨ mhi (a1) < a2)) by omega))
                ·
                  by_cases b49 : a1 = 8
                  · refine w_tsk 8 123 rfl (show inr (a1) from h0) (by omega) (by decide) rfl rfl ?_
                    have hm : mlo ((a1)) = 0 ∧ mhi ((a1)) = 11 := by rw [show (a1) = (8 : Int) by omega]; decide
                    refine Ew_of (pcₚ := 124) (fun _ => x_iload_n rfl rfl) ?_
                    refine Ew_of (pcₚ := 125) (fun _ => x_iconst rfl) ?_
                    refine Ew_of (pcₚ := 127) (fun _ => x_bipush (z := 11) rfl (by decide)) ?_
                    refine w_stat24 rfl rfl (by rfl) (M67x H (show inr (a2) from h1) (show inr (0) from q_2) (show inr (11) from q_326) (fun z54 σ F50 A51 H hS52 hA53 pz54_0 pz54_1 => ⟨rretB rfl pz54_0, ?_⟩))
                    exact w_ireturn rfl (k (z54) σ _ _ H (SF_trans (SF_refl) hS52 (any_sub rfl)) (SA_trans (SA_refl) hA53 (any_subA rfl)) (show (z54) = 0 ∨ (z54) = 1 from pz54_0) (show a1 = 3 ∧ ((z54) = 1 ∧ 64 ≤ a2 ∧ a2 ≤ 127 ∧ andI (a2) 2 = 0 ∨ (z54) = 0 ∧ (a2 < 64 ∨ 127 < a2 ∨ andI (a2) 2 ≠ 0)) ∨ (a1 < 0 ∨ 9 < a1) ∧ (z54) = 0 ∨ 0 ≤ a1 ∧ a1 ≤ 9 ∧ a1 ≠ 3 ∧ ((z54) = 1 ∧ mlo (a1) ≤ a2 ∧ a2 ≤ mhi (a1) ∨ (z54) = 0 ∧ (a2 < mlo (a1) ∨ mhi (a1) < a2)) by omega))
                  ·
                    refine w_tsd 131 rfl (show inr (a1) from h0) (by omega) rfl ?_
                    have hm : mlo ((a1)) = -2147483648 ∧ mhi ((a1)) = 2147483647 := mlo_df (by omega)
                    refine Ew_of (pcₚ := 132) (fun _ => x_iload_n rfl rfl) ?_
                    refine Ew_of (pcₚ := 133) (fun _ => x_iconst rfl) ?_
                    refine w_icmpeq (t := 142) rfl rfl (show inr (a1) from h0) (show inr (5) from q_727) (fun b55 => ?_) (fun b55 => ?_)
                    · refine Ew_of (pcₚ := 143) (fun _ => x_iconst rfl) ?_
                      refine Ew_of (pcₚ := 147) (fun _ => x_goto rfl rfl) ?_
                      exact w_ireturn rfl (k (1) σ _ _ H (SF_refl) (SA_refl) (show (1) = 0 ∨ (1) = 1 by first | exact q_49 | omega) (show a1 = 3 ∧ ((1) = 1 ∧ 64 ≤ a2 ∧ a2 ≤ 127 ∧ andI (a2) 2 = 0 ∨ (1) = 0 ∧ (a2 < 64 ∨ 127 < a2 ∨ andI (a2) 2 ≠ 0)) ∨ (a1 < 0 ∨ 9 < a1) ∧ (1) = 0 ∨ 0 ≤ a1 ∧ a1 ≤ 9 ∧ a1 ≠ 3 ∧ ((1) = 1 ∧ mlo (a1) ≤ a2 ∧ a2 ≤ mhi (a1) ∨ (1) = 0 ∧ (a2 < mlo (a1) ∨ mhi (a1) < a2)) by first | exact q_5077 b55 h1 hm | omega))
                    · refine Ew_of (pcₚ := 137) (fun _ => x_iload_n rfl rfl) ?_
                      refine Ew_of (pcₚ := 139) (fun _ => x_bipush (z := 9) rfl (by decide)) ?_
                      refine w_icmpne (t := 146) rfl rfl (show inr (a1) from h0) (show inr (9) from q_291) (fun b56 => ?_) (fun b56 => ?_)
                      · refine Ew_of (pcₚ := 147) (fun _ => x_iconst rfl) ?_
                        exact w_ireturn rfl (k (0) σ _ _ H (SF_refl) (SA_refl) (show (0) = 0 ∨ (0) = 1 by first | exact q_45 | omega) (show a1 = 3 ∧ ((0) = 1 ∧ 64 ≤ a2 ∧ a2 ≤ 127 ∧ andI (a2) 2 = 0 ∨ (0) = 0 ∧ (a2 < 64 ∨ 127 < a2 ∨ andI (a2) 2 ≠ 0)) ∨ (a1 < 0 ∨ 9 < a1) ∧ (0) = 0 ∨ 0 ≤ a1 ∧ a1 ≤ 9 ∧ a1 ≠ 3 ∧ ((0) = 1 ∧ mlo (a1) ≤ a2 ∧ a2 ≤ mhi (a1) ∨ (0) = 0 ∧ (a2 < mlo (a1) ∨ mhi (a1) < a2)) by omega))
                      · refine Ew_of (pcₚ := 143) (fun _ => x_iconst rfl) ?_
                        refine Ew_of (pcₚ := 147) (fun _ => x_goto rfl rfl) ?_
                        exact w_ireturn rfl (k (1) σ _ _ H (SF_refl) (SA_refl) (show (1) = 0 ∨ (1) = 1 by first | exact q_49 | omega) (show a1 = 3 ∧ ((1) = 1 ∧ 64 ≤ a2 ∧ a2 ≤ 127 ∧ andI (a2) 2 = 0 ∨ (1) = 0 ∧ (a2 < 64 ∨ 127 < a2 ∨ andI (a2) 2 ≠ 0)) ∨ (a1 < 0 ∨ 9 < a1) ∧ (1) = 0 ∨ 0 ≤ a1 ∧ a1 ≤ 9 ∧ a1 ≠ 3 ∧ ((1) = 1 ∧ mlo (a1) ≤ a2 ∧ a2 ≤ mhi (a1) ∨ (1) = 0 ∧ (a2 < mlo (a1) ∨ mhi (a1) < a2)) by first | exact q_5079 b56 h1 hm | omega))

theorem M69x {σ0 σ : rS} {D N : Nat → Nat} {F : hF} {A : hA} {d c s : Nat} {Q : wQ} (H : HS σ0 σ D N F A) {a1 a2 : Int} (w12 : Int → Int) (ew12 : A 12 = w12) (h0 : inr (a1)) (h1 : inr (a2)) (h2 : SE ((w12))) (h3 : andI (((w12)) 3) 2 = 0) (k : ∀ (z : Int) σ Fₚ Aₚ, HS σ0 σ D N Fₚ Aₚ → SF [] F Fₚ → SA [12] A Aₚ → ∀ v12 : Int → Int, Aₚ 12 = v12 → ((z) = 0 ∨ (z) = 1) → (SE ((v12))) → (andI (((v12)) 3) 2 = 0) → ((a1) = 3 ∧ ((z) = 1 ∧ 64 ≤ (a2) ∧ (a2) ≤ 127 ∧ andI ((a2)) 2 = 0 ∨ (z) = 0 ∧ ((a2) < 64 ∨ 127 < (a2) ∨ andI ((a2)) 2 ≠ 0)) ∨ ((a1) < 0 ∨ 9 < (a1)) ∧ (z) = 0 ∨ 0 ≤ (a1) ∧ (a1) ≤ 9 ∧ (a1) ≠ 3 ∧ ((z) = 1 ∧ mlo ((a1)) ≤ (a2) ∧ (a2) ≤ mhi ((a1)) ∨ (z) = 0 ∧ ((a2) < mlo ((a1)) ∨ mhi ((a1)) < (a2)))) → (UPD ((z)) ((w12)) ((v12)) ((a1)) ((a2))) → Q (some (I z)) σ c s) : Ew 69 (d + 2) 0 (rargs 0 [.ref (D 0), I a1, I a2]) [] σ c s Q := by
  refine Ew_of (pcₚ := 1) (fun _ => x_iload_n rfl rfl) ?_
  refine Ew_of (pcₚ := 2) (fun _ => x_iload_n rfl rfl) ?_
  refine w_stat24 rfl rfl (by rfl) (M68x H (show inr (a1) from h0) (show inr (a2) from h1) (fun z5 σ F1 A2 H hS3 hA4 pz5_0 pz5_1 => ⟨rretB rfl pz5_0, ?_⟩))
  refine w_ifne (t := 10) rfl rfl (show inr (z5) from q_138 pz5_0) (fun b6 => ?_) (fun b6 => ?_)
  · have : SE (upd1 ((w12)) ((a1)) ((a2))) := SE_of (by assumption) (by omega)
    have hU : UPD 1 (w12) (upd1 (w12) ((a1)) ((a2))) ((a1)) ((a2)) := .inl ⟨rfl, rfl⟩
    have h3b : andI ((upd1 (w12) ((a1)) ((a2))) 3) 2 = 0 := by by_cases q : (a1) = 3; (rw [q, upd1_s]; omega); (rw [upd1_o (fun e => q e.symm)]; assumption)
    refine Ew_of (pcₚ := 11) (fun _ => x_aload_n rfl rfl) ?_
    refine w_gT H (o := 0) (t := 12) rfl (H.perm 0 rfl) rfl rfl rfl rfl rfl rfl ?_
    refine Ew_of (pcₚ := 15) (fun _ => x_iload_n rfl rfl) ?_
    refine Ew_of (pcₚ := 16) (fun _ => x_iload_n rfl rfl) ?_
    refine w_sI H (o := 12) (n := 10) rfl (H.perm 12 rfl) rfl rfl (H.fix 12 rfl rfl) (show 0 ≤ a1 ∧ a1 < ((10 : Nat) : Int) by omega) (by decide) (show (-2147483648 : Int) ≤ a2 ∧ a2 ≤ 2147483647 from q_31 h1) (fun σ H => ?_)
    refine Ew_of (pcₚ := 18) (fun _ => x_iconst rfl) ?_
    exact w_ireturn rfl (k (1) σ _ _ H (SF_trans (SF_refl) hS3 (any_sub rfl)) (SA_upd (SA_trans (SA_refl) hA4 (any_subA rfl)) rfl) (upd1 (w12) (a1) (a2)) (congrArg (fun q => upd1 q (a1) (a2)) ((funext (hA4 12 rfl)).trans (ew12))) (show (1) = 0 ∨ (1) = 1 by first | exact q_49 | omega) (show SE ((upd1 (w12) (a1) (a2))) by assumption) (show andI (((upd1 (w12) (a1) (a2))) 3) 2 = 0 from h3b) (show a1 = 3 ∧ ((1) = 1 ∧ 64 ≤ a2 ∧ a2 ≤ 127 ∧ andI (a2) 2 = 0 ∨ (1) = 0 ∧ (a2 < 64 ∨ 127 < a2 ∨ andI (a2) 2 ≠ 0)) ∨ (a1 < 0 ∨ 9 < a1) ∧ (1) = 0 ∨ 0 ≤ a1 ∧ a1 ≤ 9 ∧ a1 ≠ 3 ∧ ((1) = 1 ∧ mlo (a1) ≤ a2 ∧ a2 ≤ mhi (a1) ∨ (1) = 0 ∧ (a2 < mlo (a1) ∨ mhi (a1) < a2)) by omega) (hU))
  · have hU : UPD 0 (w12) (w12) ((a1)) ((a2)) := .inr ⟨rfl, rfl⟩
    refine Ew_of (pcₚ := 9) (fun _ => x_iconst rfl) ?_
    exact w_ireturn rfl (k (0) σ _ _ H (SF_trans (SF_refl) hS3 (any_sub rfl)) (SA_trans (SA_refl) hA4 (any_subA rfl)) (w12) ((funext (hA4 12 rfl)).trans (ew12)) (show (0) = 0 ∨ (0) = 1 by first | exact q_45 | omega) (h2) (show andI (((w12)) 3) 2 = 0 from h3) (show a1 = 3 ∧ ((0) = 1 ∧ 64 ≤ a2 ∧ a2 ≤ 127 ∧ andI (a2) 2 = 0 ∨ (0) = 0 ∧ (a2 < 64 ∨ 127 < a2 ∨ andI (a2) 2 ≠ 0)) ∨ (a1 < 0 ∨ 9 < a1) ∧ (0) = 0 ∨ 0 ≤ a1 ∧ a1 ≤ 9 ∧ a1 ≠ 3 ∧ ((0) = 1 ∧ mlo (a1) ≤ a2 ∧ a2 ≤ mhi (a1) ∨ (0) = 0 ∧ (a2 < mlo (a1) ∨ mhi (a1) < a2)) by omega) (hU))

theorem M70x {σ0 σ : rS} {D N : Nat → Nat} {F : hF} {A : hA} {d c s : Nat} {Q : wQ} (H : HS σ0 σ D N F A) {a1 : Int} (w12 : Int → Int) (ew12 : A 12 = w12) (h0 : inr (a1)) (k : ∀ (z : Int) σ Fₚ Aₚ, HS σ0 σ D N Fₚ Aₚ → SF [] F Fₚ → SA [] A Aₚ → (inr (z)) → (0 ≤ (a1) ∧ (a1) ≤ 9 ∧ (z) = ((w12)) ((a1)) ∨ ((a1) < 0 ∨ 9 < (a1)) ∧ (z) = -1) → Q (some (I z)) σ c s) : Ew 70 (d + 1) 0 (rargs 0 [.ref (D 0), I a1]) [] σ c s Q := by
  refine Ew_of (pcₚ := 1) (fun _ => x_iload_n rfl rfl) ?_
  refine Ew_of (pcₚ := 2) (fun _ => x_iconst rfl) ?_
  refine Ew_of (pcₚ := 4) (fun _ => x_bipush (z := 9) rfl (by decide)) ?_
  refine w_stat24 rfl rfl (by rfl) (M67x H (show inr (a1) from h0) (show inr (0) from q_2) (show inr (9) from q_291) (fun z5 σ F1 A2 H hS3 hA4 pz5_0 pz5_1 => ⟨rretB rfl pz5_0, ?_⟩))
  refine w_ifeq (t := 19) rfl rfl (show inr (z5) from q_138 pz5_0) (fun b6 => ?_) (fun b6 => ?_)
  · refine Ew_of (pcₚ := 20) (fun _ => x_iconst rfl) ?_
    exact w_ireturn rfl (k ((-1)) σ _ _ H (SF_trans (SF_refl) hS3 (any_sub rfl)) (SA_trans (SA_refl) hA4 (any_subA rfl)) (show inr ((-1)) from q_63) (show 0 ≤ a1 ∧ a1 ≤ 9 ∧ ((-1)) = ((w12)) (a1) ∨ (a1 < 0 ∨ 9 < a1) ∧ ((-1)) = -1 by omega))
  · refine Ew_of (pcₚ := 11) (fun _ => x_aload_n rfl rfl) ?_
    refine w_gT H (o := 0) (t := 12) rfl (H.perm 0 rfl) rfl rfl rfl rfl rfl rfl ?_
    refine Ew_of (pcₚ := 15) (fun _ => x_iload_n rfl rfl) ?_
    refine w_lI H (o := 12) (n := 10) rfl (H.perm 12 rfl) rfl rfl (H.fix 12 rfl rfl) (show 0 ≤ a1 ∧ a1 < ((10 : Nat) : Int) by omega) (by decide) (fun v7 ev7 qv7 => ?_)
    have qv7 : (-2147483648 : Int) ≤ v7 ∧ v7 ≤ 2147483647 := qv7
    have ev7 : (w12) (a1) = v7 := (congrFun ((funext (hA4 12 rfl)).trans (ew12)) (a1)).symm.trans ev7
    refine Ew_of (pcₚ := 20) (fun _ => x_goto rfl rfl) ?_
    exact w_ireturn rfl (k (v7) σ _ _ H (SF_trans (SF_refl) hS3 (any_sub rfl)) (SA_trans (SA_refl) hA4 (any_subA rfl)) (show inr (v7) from q_18 qv7) (show 0 ≤ a1 ∧ a1 ≤ 9 ∧ (v7) = ((w12)) (a1) ∨ (a1 < 0 ∨ 9 < a1) ∧ (v7) = -1 by omega))


end
