/-! write in pieces, over the state: what is packed -/
def ι_wd1_0 : List Nat := [0, 2, 25, 26, 3, 41, 10, 11, 12, 33, 34, 35, 42, 43, 39, 40, 36, 37, 38, 31]
theorem vs_wd1_0 : VS VPH V17_vd1 ι_wd1_0 := VS_of (by decide +kernel)
set_option maxRecDepth 20000 in
theorem T_wd1_0 {g : Nat → Bool} {σ : rS} {D N : Nat → Nat} {F : hF} {A : hA} {d c s : Nat} {Q : wQ} (X : PHI g σ D N F A) (hg1 : g 1 = true) (hg2 : g 2 = true) {x1 : Int} {ls : rO} (hl0 : rlook ls 0 = some (.ref (D 0))) (hl1 : rlook ls 1 = some (I x1)) (hl3 : rlook ls 3 = some (I (1))) (hl4 : rlook ls 4 = some (.ref (D 2))) (hl5 : rlook ls 5 = some (I (1))) (h0 : inr x1) (x_0 : (F 2 1) ≤ 16384) (x_1 : (F 2 1) + (F 11 1) ≤ 16384) (x_2 : (F 25 1) = 0) (hc236 : ∀ (tc236_2 : Int) (tc236_3 : Int) (ls : rO) (σₚ : rS) (Dₚ Nₚ : Nat → Nat) (Fₚ : hF) (Aₚ : hA) (cₚ sₚ : Nat), PHI g σₚ Dₚ Nₚ Fₚ Aₚ → STP g σ D N A c s g σₚ Dₚ Nₚ Aₚ cₚ sₚ → rlook ls 0 = some (.ref (Dₚ 0)) → rlook ls 1 = some (I (x1)) → rlook ls 3 = some (I (1)) → rlook ls 4 = some (.ref (Dₚ 2)) → ((Fₚ 2 1) ≤ 16384) → (tc236_2 = 1) → (0 ≤ tc236_3 ∧ tc236_3 ≤ 65536) → Ew 17 (d + 7) 236 ls [.ref (Dₚ 31), I tc236_3, I tc236_2, .ref (Dₚ 25), .ref (Dₚ 0)] σₚ cₚ sₚ Q) (k : ∀ (z : Int) (σₚ : rS) (Dₚ Nₚ : Nat → Nat) (Fₚ : hF) (Aₚ : hA) (cₚ sₚ : Nat), PHI g σₚ Dₚ Nₚ Fₚ Aₚ → STP g σ D N A c s g σₚ Dₚ Nₚ Aₚ cₚ sₚ → (inr z) → Q (some (I z)) σₚ cₚ sₚ) : Ew 17 (d + 7) 120 ls [.ref (D 41)] σ c s Q := by
  obtain ⟨HX, HT, hg0, hPF, hAB, hNZ, hGI, hI0, hI1, hI2, hI3, hI4, hI5, hI6, hI7, hI8, hI9⟩ := X
  have hset := SETI_f hI0.2.2.2.2.2.2.2.2.2.2.2.2.2.2.2.2.2
  have hJ0 := hI0
  unfold INV0 at hJ0
  obtain ⟨f0_0, f0_1, f0_2, f0_3, f0_4, f0_5, f0_6, f0_7, f0_8, f0_9, f0_10, f0_11, f0_12, f0_13, f0_14, f0_15, f0_16, f0_17⟩ := hJ0
  have hJ1 := hI1 hg1
  unfold INV1 at hJ1
  obtain ⟨f1_0, f1_1, f1_2, f1_3⟩ := hJ1
  have hJ2 := hI2 hg2
  unfold INV2 at hJ2
  have f2_0 := hJ2
  have hp : ∀ x, x < (V17_vd1).length → SPH g (ι_wd1_0.getD x 0) = true := SPH_of (gs := [0, 1, 2]) (by intro j hj; simp at hj; rcases hj with rfl | rfl | rfl <;> assumption) rfl (by decide +kernel)
  refine C17_vd1 (D := pul ι_wd1_0 D) (N := pul ι_wd1_0 N) (F := pul ι_wd1_0 F) (A := pul ι_wd1_0 A) (HWs_sub HX vs_wd1_0 hp) (show F 0 5 = (D 25 : Int) from hPF (0, 0, 5, 25) (List.mem_of_getElem? (i := 24) rfl) hg0 hg0) (show F 25 0 = (D 26 : Int) from hPF (0, 25, 0, 26) (List.mem_of_getElem? (i := 25) rfl) hg0 hg0) (show F 2 0 = (D 3 : Int) from hPF (0, 2, 0, 3) (List.mem_of_getElem? (i := 2) rfl) hg0 hg0) (show F 0 8 = (D 41 : Int) from hPF (0, 0, 8, 41) (List.mem_of_getElem? (i := 40) rfl) hg0 hg2) (show F 41 0 = (D 10 : Int) from hPF (0, 41, 0, 10) (List.mem_of_getElem? (i := 360) rfl) hg2 hg0) (show F 41 1 = (D 11 : Int) from hPF (0, 41, 1, 11) (List.mem_of_getElem? (i := 361) rfl) hg2 hg0) (show F 11 0 = (D 12 : Int) from hPF (0, 11, 0, 12) (List.mem_of_getElem? (i := 11) rfl) hg0 hg0) (show F 41 2 = (D 33 : Int) from hPF (0, 41, 2, 33) (List.mem_of_getElem? (i := 362) rfl) hg2 hg1) (show F 33 0 = (D 34 : Int) from hPF (0, 33, 0, 34) (List.mem_of_getElem? (i := 33) rfl) hg1 hg1) (show F 34 0 = (D 35 : Int) from hPF (0, 34, 0, 35) (List.mem_of_getElem? (i := 34) rfl) hg1 hg1) (show F 41 3 = (D 42 : Int) from hPF (0, 41, 3, 42) (List.mem_of_getElem? (i := 41) rfl) hg2 hg2) (show F 42 0 = (D 43 : Int) from hPF (0, 42, 0, 43) (List.mem_of_getElem? (i := 42) rfl) hg2 hg2) (show F 33 7 = (D 39 : Int) from hPF (0, 33, 7, 39) (List.mem_of_getElem? (i := 38) rfl) hg1 hg1) (show F 33 8 = (D 40 : Int) from hPF (0, 33, 8, 40) (List.mem_of_getElem? (i := 39) rfl) hg1 hg1) (show F 33 1 = (D 36 : Int) from hPF (0, 33, 1, 36) (List.mem_of_getElem? (i := 35) rfl) hg1 hg1) (show F 33 2 = (D 37 : Int) from hPF (0, 33, 2, 37) (List.mem_of_getElem? (i := 36) rfl) hg1 hg1) (show F 33 3 = (D 38 : Int) from hPF (0, 33, 3, 38) (List.mem_of_getElem? (i := 37) rfl) hg1 hg1) (show F 0 15 = (D 31 : Int) from hPF (0, 0, 15, 31) (List.mem_of_getElem? (i := 30) rfl) hg0 hg0) (N 26 : Int) rfl (N 3 : Int) rfl (N 10 : Int) rfl (N 12 : Int) rfl (N 35 : Int) rfl (N 43 : Int) rfl (N 39 : Int) rfl (N 40 : Int) rfl (N 36 : Int) rfl (N 37 : Int) rfl (N 38 : Int) rfl (N 31 : Int) rfl (F 2 1) rfl (F 25 1) rfl (F 11 1) rfl (F 34 1) rfl (F 42 1) rfl (A 10) rfl hl0 hl1 hl3 hl4 hl5 (show inr (x1) by first | assumption | omega) (show 0 ≤ (F 25 1) ∧ (F 25 1) ≤ ((N 26 : Int)) ∧ ((N 26 : Int)) ≤ 65536 by first | assumption | omega) (show (F 25 1) = 0 by first | assumption | omega) (show 0 ≤ (F 2 1) ∧ (F 2 1) ≤ ((N 3 : Int)) ∧ ((N 3 : Int)) ≤ 65536 by first | assumption | omega) (show ((N 10 : Int)) = 10 by first | assumption | omega) (show (F 11 1) + (F 2 1) ≤ 16384 by first | assumption | omega) (show 0 ≤ (F 11 1) ∧ (F 11 1) ≤ ((N 12 : Int)) ∧ ((N 12 : Int)) ≤ 65536 by first | assumption | omega) (show 0 ≤ (F 34 1) ∧ (F 34 1) ≤ ((N 35 : Int)) ∧ ((N 35 : Int)) ≤ 65536 by first | assumption | omega) (show 0 ≤ (F 42 1) ∧ (F 42 1) ≤ ((N 43 : Int)) ∧ ((N 43 : Int)) ≤ 65536 by first | assumption | omega) (show ((N 39 : Int)) = 0 ∨ ((N 39 : Int)) = 2048 by first | assumption | omega) (show ((N 40 : Int)) ≤ 16384 by first | assumption | omega) (show ((N 36 : Int)) = ((N 37 : Int)) ∧ ((N 38 : Int)) = ((N 37 : Int)) ∧ ((N 37 : Int)) ≤ 65536 ∧ (((N 37 : Int)) = 0 ∨ 64 ≤ ((N 37 : Int))) ∧ lgq (((N 37 : Int))) = 0 by first | assumption | omega) (show 1 ≤ ((A 10)) 2 ∧ ((A 10)) 2 ≤ 65536 by first | assumption | omega) (fun tc236_2 tc236_3 ls σ D_c236 N_c236 c_c236 s_c236 F_c236 A_c236  lc236_0 lc236_1 lc236_3 lc236_4 H O hD_c236 hN_c236 hS_c236 hA_c236 pmc236_3 pmc236_11 pmc236_13 pmc236_14 pmc236_15 pmc236_16 pmc236_17 pmc236_18 mc236_3 emc236_3 mc236_11 emc236_11 mc236_13 emc236_13 mc236_14 emc236_14 mc236_15 emc236_15 mc236_16 emc236_16 mc236_17 emc236_17 mc236_18 emc236_18 yc236_2_1 eyc236_2_1 yc236_10_1 eyc236_10_1 yc236_12_1 eyc236_12_1  jc236_0 jc236_1 jc236_2 jc236_3 jc236_4 jc236_5 jc236_6 jc236_7 jc236_8 jc236_9 => ?_) (fun z σₚ Dₚ Nₚ Fₚ Aₚ cₚ sₚ Hₚ O sd sn sf sa pm3 pm11 pm13 pm14 pm15 pm16 pm17 pm18 m3 em3 m11 em11 m13 em13 m14 em14 m15 em15 m16 em16 m17 em17 m18 em18 y2_1 ey2_1 y10_1 ey10_1 y12_1 ey12_1 q0 q1 q2 q3 q4 q5 q6 => ?_)
  · skip
    subst emc236_3 emc236_11 emc236_13 emc236_14 emc236_15 emc236_16 emc236_17 emc236_18 eyc236_2_1 eyc236_10_1 eyc236_12_1
    have : F_c236 1 1 = F 2 1 := hS_c236 1 1 rfl
    refine hc236 tc236_2 tc236_3  _ _ (glu ι_wd1_0 D D_c236) (glu ι_wd1_0 N N_c236) (glu ι_wd1_0 F F_c236) (glu ι_wd1_0 A A_c236) _ _ ⟨HWs_call HX VPH_3 vs_wd1_0 hp H O, STC_call HT HX vs_wd1_0 hp O, hg0, PFI_glue (dl := [3, 11, 13, 14, 15, 16, 17, 18]) hPF hS_c236 hA_c236 hD_c236 (by decide +kernel) (rexc_of (l := [(0, 25, 0, 26), (0, 34, 0, 35), (0, 33, 1, 36), (0, 33, 2, 37), (0, 33, 3, 38), (0, 33, 7, 39), (0, 33, 8, 40), (0, 42, 0, 43)]) (by decide +kernel) ?_), ABS_glue hAB hS_c236 (by decide +kernel), NZ_glue hNZ vs_wd1_0 hp hN_c236 (by decide +kernel), hGI, ?_, ?_, ?_, ?_, ?_, ?_, ?_, ?_, ?_, ?_⟩ ⟨(STP0_call (STY_call vs_wd1_0 hp O) (hD_c236 0 rfl) (RM_call vs_wd1_0 O)), unt1_of (x := 10) (by decide +kernel) (fun p hp => funext (hA_c236 p hp))⟩ lc236_0 lc236_1 lc236_3 lc236_4 (show (F_c236 1 1) ≤ 16384 by first | assumption | (rw [show F_c236 1 1 = F 2 1 from hS_c236 1 1 rfl]; assumption) | omega) (show tc236_2 = 1 by first | assumption | omega) (show 0 ≤ tc236_3 ∧ tc236_3 ≤ 65536 by first | assumption | omega)
    · intro e he h1 h2
      simp only [List.mem_cons, List.not_mem_nil, or_false] at he
      rcases he with rfl | rfl | rfl | rfl | rfl | rfl | rfl | rfl
      · exact pmc236_3
      · exact pmc236_11
      · exact pmc236_16
      · exact pmc236_17
      · exact pmc236_18
      · exact pmc236_14
      · exact pmc236_15
      · exact pmc236_13
    · skip
      exact ⟨QF0_0_eq (EQD_glue hS_c236 hA_c236 hD_c236 hN_c236 (by decide +kernel)) f0_0, QF0_1_eq (EQD_glue hS_c236 hA_c236 hD_c236 hN_c236 (by decide +kernel)) f0_1, QF0_2_eq (EQD_glue hS_c236 hA_c236 hD_c236 hN_c236 (by decide +kernel)) f0_2, QF0_3_eq (EQD_glue hS_c236 hA_c236 hD_c236 hN_c236 (by decide +kernel)) f0_3, QF0_4_eq (EQD_glue hS_c236 hA_c236 hD_c236 hN_c236 (by decide +kernel)) f0_4, show 0 ≤ (F_c236 2 1) ∧ (F_c236 2 1) ≤ ((N_c236 3 : Int)) ∧ ((N_c236 3 : Int)) ≤ 65536 from (by first | assumption | omega), QF0_6_eq (EQD_glue hS_c236 hA_c236 hD_c236 hN_c236 (by decide +kernel)) f0_6, QF0_7_eq (EQD_glue hS_c236 hA_c236 hD_c236 hN_c236 (by decide +kernel)) f0_7, QF0_8_eq (EQD_glue hS_c236 hA_c236 hD_c236 hN_c236 (by decide +kernel)) f0_8, QF0_9_eq (EQD_glue hS_c236 hA_c236 hD_c236 hN_c236 (by decide +kernel)) f0_9, QF0_10_eq (EQD_glue hS_c236 hA_c236 hD_c236 hN_c236 (by decide +kernel)) f0_10, QF0_11_eq (EQD_glue hS_c236 hA_c236 hD_c236 hN_c236 (by decide +kernel)) f0_11, QF0_12_eq (EQD_glue hS_c236 hA_c236 hD_c236 hN_c236 (by decide +kernel)) f0_12, QF0_13_eq (EQD_glue hS_c236 hA_c236 hD_c236 hN_c236 (by decide +kernel)) f0_13, QF0_14_eq (EQD_glue hS_c236 hA_c236 hD_c236 hN_c236 (by decide +kernel)) f0_14, QF0_15_eq (EQD_glue hS_c236 hA_c236 hD_c236 hN_c236 (by decide +kernel)) f0_15, QF0_16_eq (EQD_glue hS_c236 hA_c236 hD_c236 hN_c236 (by decide +kernel)) f0_16, QF0_17_eq (EQD_glue hS_c236 hA_c236 hD_c236 hN_c236 (by decide +kernel)) f0_17⟩
    · intro hq
      exact ⟨show 0 ≤ (F_c236 10 1) ∧ (F_c236 10 1) ≤ ((N_c236 11 : Int)) ∧ ((N_c236 11 : Int)) ≤ 65536 from (by first | assumption | omega), show ((N_c236 14 : Int)) = 0 ∨ ((N_c236 14 : Int)) = 2048 from (by first | assumption | omega), show ((N_c236 15 : Int)) ≤ 16384 from (by first | assumption | omega), show ((N_c236 16 : Int)) = ((N_c236 17 : Int)) ∧ ((N_c236 18 : Int)) = ((N_c236 17 : Int)) ∧ ((N_c236 17 : Int)) ≤ 65536 ∧ (((N_c236 17 : Int)) = 0 ∨ 64 ≤ ((N_c236 17 : Int))) ∧ lgq (((N_c236 17 : Int))) = 0 from (by first | assumption | omega)⟩
    · intro hq
      exact show 0 ≤ (F_c236 12 1) ∧ (F_c236 12 1) ≤ ((N_c236 13 : Int)) ∧ ((N_c236 13 : Int)) ≤ 65536 from (by first | assumption | omega)
    · exact fun h => INV3_eq (EQD_glue hS_c236 hA_c236 hD_c236 hN_c236 (by decide +kernel)) (hI3 h)
    · exact fun h => INV4_eq (EQD_glue hS_c236 hA_c236 hD_c236 hN_c236 (by decide +kernel)) (hI4 h)
    · exact fun h => INV5_eq (EQD_glue hS_c236 hA_c236 hD_c236 hN_c236 (by decide +kernel)) (hI5 h)
    · exact fun h => INV6_eq (EQD_glue hS_c236 hA_c236 hD_c236 hN_c236 (by decide +kernel)) (hI6 h)
    · exact fun h => INV7_eq (EQD_glue hS_c236 hA_c236 hD_c236 hN_c236 (by decide +kernel)) (hI7 h)
    · exact fun h => INV8_eq (EQD_glue hS_c236 hA_c236 hD_c236 hN_c236 (by decide +kernel)) (hI8 h)
    · exact fun h => INV9_eq (EQD_glue hS_c236 hA_c236 hD_c236 hN_c236 (by decide +kernel)) (hI9 h)
  · skip
    subst em3 em11 em13 em14 em15 em16 em17 em18 ey2_1 ey10_1 ey12_1
    refine k z _ (glu ι_wd1_0 D Dₚ) (glu ι_wd1_0 N Nₚ) (glu ι_wd1_0 F Fₚ) (glu ι_wd1_0 A Aₚ) _ _ ⟨HWs_call HX VPH_3 vs_wd1_0 hp Hₚ O, STC_call HT HX vs_wd1_0 hp O, hg0, PFI_glue (dl := [3, 11, 13, 14, 15, 16, 17, 18]) hPF sf sa sd (by decide +kernel) (rexc_of (l := [(0, 25, 0, 26), (0, 34, 0, 35), (0, 33, 1, 36), (0, 33, 2, 37), (0, 33, 3, 38), (0, 33, 7, 39), (0, 33, 8, 40), (0, 42, 0, 43)]) (by decide +kernel) ?_), ABS_glue hAB sf (by decide +kernel), NZ_glue hNZ vs_wd1_0 hp sn (by decide +kernel), hGI, ?_, ?_, ?_, ?_, ?_, ?_, ?_, ?_, ?_, ?_⟩ ⟨(STP0_call (STY_call vs_wd1_0 hp O) (sd 0 rfl) (RM_call vs_wd1_0 O)), unt1_of (x := 10) (by decide +kernel) (fun p hp => funext (sa p hp))⟩ (show inr z by first | assumption | omega)
    · intro e he h1 h2
      simp only [List.mem_cons, List.not_mem_nil, or_false] at he
      rcases he with rfl | rfl | rfl | rfl | rfl | rfl | rfl | rfl
      · exact pm3
      · exact pm11
      · exact pm16
      · exact pm17
      · exact pm18
      · exact pm14
      · exact pm15
      · exact pm13
    · skip
      exact ⟨QF0_0_eq (EQD_glue sf sa sd sn (by decide +kernel)) f0_0, QF0_1_eq (EQD_glue sf sa sd sn (by decide +kernel)) f0_1, QF0_2_eq (EQD_glue sf sa sd sn (by decide +kernel)) f0_2, QF0_3_eq (EQD_glue sf sa sd sn (by decide +kernel)) f0_3, QF0_4_eq (EQD_glue sf sa sd sn (by decide +kernel)) f0_4, show 0 ≤ (Fₚ 2 1) ∧ (Fₚ 2 1) ≤ ((Nₚ 3 : Int)) ∧ ((Nₚ 3 : Int)) ≤ 65536 from (by first | assumption | omega), QF0_6_eq (EQD_glue sf sa sd sn (by decide +kernel)) f0_6, QF0_7_eq (EQD_glue sf sa sd sn (by decide +kernel)) f0_7, QF0_8_eq (EQD_glue sf sa sd sn (by decide +kernel)) f0_8, QF0_9_eq (EQD_glue sf sa sd sn (by decide +kernel)) f0_9, QF0_10_eq (EQD_glue sf sa sd sn (by decide +kernel)) f0_10, QF0_11_eq (EQD_glue sf sa sd sn (by decide +kernel)) f0_11, QF0_12_eq (EQD_glue sf sa sd sn (by decide +kernel)) f0_12, QF0_13_eq (EQD_glue sf sa sd sn (by decide +kernel)) f0_13, QF0_14_eq (EQD_glue sf sa sd sn (by decide +kernel)) f0_14, QF0_15_eq (EQD_glue sf sa sd sn (by decide +kernel)) f0_15, QF0_16_eq (EQD_glue sf sa sd sn (by decide +kernel)) f0_16, QF0_17_eq (EQD_glue sf sa sd sn (by decide +kernel)) f0_17⟩
    · intro hq
      exact ⟨show 0 ≤ (Fₚ 10 1) ∧ (Fₚ 10 1) ≤ ((Nₚ 11 : Int)) ∧ ((Nₚ 11 : Int)) ≤ 65536 from (by first | assumption | omega), show ((Nₚ 14 : Int)) = 0 ∨ ((Nₚ 14 : Int)) = 2048 from (by first | assumption | omega), show ((Nₚ 15 : Int)) ≤ 16384 from (by first | assumption | omega), show ((Nₚ 16 : Int)) = ((Nₚ 17 : Int)) ∧ ((Nₚ 18 : Int)) = ((Nₚ 17 : Int)) ∧ ((Nₚ 17 : Int)) ≤ 65536 ∧ (((Nₚ 17 : Int)) = 0 ∨ 64 ≤ ((Nₚ 17 : Int))) ∧ lgq (((Nₚ 17 : Int))) = 0 from (by first | assumption | omega)⟩
    · intro hq
      exact show 0 ≤ (Fₚ 12 1) ∧ (Fₚ 12 1) ≤ ((Nₚ 13 : Int)) ∧ ((Nₚ 13 : Int)) ≤ 65536 from (by first | assumption | omega)
    · exact fun h => INV3_eq (EQD_glue sf sa sd sn (by decide +kernel)) (hI3 h)
    · exact fun h => INV4_eq (EQD_glue sf sa sd sn (by decide +kernel)) (hI4 h)
    · exact fun h => INV5_eq (EQD_glue sf sa sd sn (by decide +kernel)) (hI5 h)
    · exact fun h => INV6_eq (EQD_glue sf sa sd sn (by decide +kernel)) (hI6 h)
    · exact fun h => INV7_eq (EQD_glue sf sa sd sn (by decide +kernel)) (hI7 h)
    · exact fun h => INV8_eq (EQD_glue sf sa sd sn (by decide +kernel)) (hI8 h)
    · exact fun h => INV9_eq (EQD_glue sf sa sd sn (by decide +kernel)) (hI9 h)
def ι_wd1_1 : List Nat := [0, 4, 25, 26, 5, 41, 10, 11, 12, 33, 34, 35, 42, 43, 39, 40, 36, 37, 38, 31]
theorem vs_wd1_1 : VS VPH V17_vd1 ι_wd1_1 := VS_of (by decide +kernel)
set_option maxRecDepth 20000 in
theorem T_wd1_1 {g : Nat → Bool} {σ : rS} {D N : Nat → Nat} {F : hF} {A : hA} {d c s : Nat} {Q : wQ} (X : PHI g σ D N F A) (hg1 : g 1 = true) (hg2 : g 2 = true) {x1 : Int} {ls : rO} (hl0 : rlook ls 0 = some (.ref (D 0))) (hl1 : rlook ls 1 = some (I x1)) (hl3 : rlook ls 3 = some (I (1))) (hl4 : rlook ls 4 = some (.ref (D 4))) (hl5 : rlook ls 5 = some (I (1))) (h0 : inr x1) (x_0 : (F 4 1) ≤ 16384) (x_1 : (F 4 1) + (F 11 1) ≤ 16384) (x_2 : (F 25 1) = 0) (hc236 : ∀ (tc236_2 : Int) (tc236_3 : Int) (ls : rO) (σₚ : rS) (Dₚ Nₚ : Nat → Nat) (Fₚ : hF) (Aₚ : hA) (cₚ sₚ : Nat), PHI g σₚ Dₚ Nₚ Fₚ Aₚ → STP g σ D N A c s g σₚ Dₚ Nₚ Aₚ cₚ sₚ → rlook ls 0 = some (.ref (Dₚ 0)) → rlook ls 1 = some (I (x1)) → rlook ls 3 = some (I (1)) → rlook ls 4 = some (.ref (Dₚ 4)) → ((Fₚ 4 1) ≤ 16384) → (tc236_2 = 1) → (0 ≤ tc236_3 ∧ tc236_3 ≤ 65536) → Ew 17 (d + 7) 236 ls [.ref (Dₚ 31), I tc236_3, I tc236_2, .ref (Dₚ 25), .ref (Dₚ 0)] σₚ cₚ sₚ Q) (k : ∀ (z : Int) (σₚ : rS) (Dₚ Nₚ : Nat → Nat) (Fₚ : hF) (Aₚ : hA) (cₚ sₚ : Nat), PHI g σₚ Dₚ Nₚ Fₚ Aₚ → STP g σ D N A c s g σₚ Dₚ Nₚ Aₚ cₚ sₚ → (inr z) → Q (some (I z)) σₚ cₚ sₚ) : Ew 17 (d + 7) 120 ls [.ref (D 41)] σ c s Q := by
  obtain ⟨HX, HT, hg0, hPF, hAB, hNZ, hGI, hI0, hI1, hI2, hI3, hI4, hI5, hI6, hI7, hI8, hI9⟩ := X
  have hset := SETI_f hI0.2.2.2.2.2.2.2.2.2.2.2.2.2.2.2.2.2
  have hJ0 := hI0
  unfold INV0 at hJ0
  obtain ⟨f0_0, f0_1, f0_2, f0_3, f0_4, f0_5, f0_6, f0_7, f0_8, f0_9, f0_10, f0_11, f0_12, f0_13, f0_14, f0_15, f0_16, f0_17⟩ := hJ0
  have hJ1 := hI1 hg1
  unfold INV1 at hJ1
  obtain ⟨f1_0, f1_1, f1_2, f1_3⟩ := hJ1
  have hJ2 := hI2 hg2
  unfold INV2 at hJ2
  have f2_0 := hJ2
  have hp : ∀ x, x < (V17_vd1).length → SPH g (ι_wd1_1.getD x 0) = true := SPH_of (gs := [0, 1, 2]) (by intro j hj; simp at hj; rcases hj with rfl | rfl | rfl <;> assumption) rfl (by decide +kernel)
  refine C17_vd1 (D := pul ι_wd1_1 D) (N := pul ι_wd1_1 N) (F := pul ι_wd1_1 F) (A := pul ι_wd1_1 A) (HWs_sub HX vs_wd1_1 hp) (show F 0 5 = (D 25 : Int) from hPF (0, 0, 5, 25) (List.mem_of_getElem? (i := 24) rfl) hg0 hg0) (show F 25 0 = (D 26 : Int) from hPF (0, 25, 0, 26) (List.mem_of_getElem? (i := 25) rfl) hg0 hg0) (show F 4 0 = (D 5 : Int) from hPF (0, 4, 0, 5) (List.mem_of_getElem? (i := 4) rfl) hg0 hg0) (show F 0 8 = (D 41 : Int) from hPF (0, 0, 8, 41) (List.mem_of_getElem? (i := 40) rfl) hg0 hg2) (show F 41 0 = (D 10 : Int) from hPF (0, 41, 0, 10) (List.mem_of_getElem? (i := 360) rfl) hg2 hg0) (show F 41 1 = (D 11 : Int) from hPF (0, 41, 1, 11) (List.mem_of_getElem? (i := 361) rfl) hg2 hg0) (show F 11 0 = (D 12 : Int) from hPF (0, 11, 0, 12) (List.mem_of_getElem? (i := 11) rfl) hg0 hg0) (show F 41 2 = (D 33 : Int) from hPF (0, 41, 2, 33) (List.mem_of_getElem? (i := 362) rfl) hg2 hg1) (show F 33 0 = (D 34 : Int) from hPF (0, 33, 0, 34) (List.mem_of_getElem? (i := 33) rfl) hg1 hg1) (show F 34 0 = (D 35 : Int) from hPF (0, 34, 0, 35) (List.mem_of_getElem? (i := 34) rfl) hg1 hg1) (show F 41 3 = (D 42 : Int) from hPF (0, 41, 3, 42) (List.mem_of_getElem? (i := 41) rfl) hg2 hg2) (show F 42 0 = (D 43 : Int) from hPF (0, 42, 0, 43) (List.mem_of_getElem? (i := 42) rfl) hg2 hg2) (show F 33 7 = (D 39 : Int) from hPF (0, 33, 7, 39) (List.mem_of_getElem? (i := 38) rfl) hg1 hg1) (show F 33 8 = (D 40 : Int) from hPF (0, 33, 8, 40) (List.mem_of_getElem? (i := 39) rfl) hg1 hg1) (show F 33 1 = (D 36 : Int) from hPF (0, 33, 1, 36) (List.mem_of_getElem? (i := 35) rfl) hg1 hg1) (show F 33 2 = (D 37 : Int) from hPF (0, 33, 2, 37) (List.mem_of_getElem? (i := 36) rfl) hg1 hg1) (show F 33 3 = (D 38 : Int) from hPF (0, 33, 3, 38) (List.mem_of_getElem? (i := 37) rfl) hg1 hg1) (show F 0 15 = (D 31 : Int) from hPF (0, 0, 15, 31) (List.mem_of_getElem? (i := 30) rfl) hg0 hg0) (N 26 : Int) rfl (N 5 : Int) rfl (N 10 : Int) rfl (N 12 : Int) rfl (N 35 : Int) rfl (N 43 : Int) rfl (N 39 : Int) rfl (N 40 : Int) rfl (N 36 : Int) rfl (N 37 : Int) rfl (N 38 : Int) rfl (N 31 : Int) rfl (F 4 1) rfl (F 25 1) rfl (F 11 1) rfl (F 34 1) rfl (F 42 1) rfl (A 10) rfl hl0 hl1 hl3 hl4 hl5 (show inr (x1) by first | assumption | omega) (show 0 ≤ (F 25 1) ∧ (F 25 1) ≤ ((N 26 : Int)) ∧ ((N 26 : Int)) ≤ 65536 by first | assumption | omega) (show (F 25 1) = 0 by first | assumption | omega) (show 0 ≤ (F 4 1) ∧ (F 4 1) ≤ ((N 5 : Int)) ∧ ((N 5 : Int)) ≤ 65536 by first | assumption | omega) (show ((N 10 : Int)) = 10 by first | assumption | omega) (show (F 11 1) + (F 4 1) ≤ 16384 by first | assumption | omega) (show 0 ≤ (F 11 1) ∧ (F 11 1) ≤ ((N 12 : Int)) ∧ ((N 12 : Int)) ≤ 65536 by first | assumption | omega) (show 0 ≤ (F 34 1) ∧ (F 34 1) ≤ ((N 35 : Int)) ∧ ((N 35 : Int)) ≤ 65536 by first | assumption | omega) (show 0 ≤ (F 42 1) ∧ (F 42 1) ≤ ((N 43 : Int)) ∧ ((N 43 : Int)) ≤ 65536 by first | assumption | omega) (show ((N 39 : Int)) = 0 ∨ ((N 39 : Int)) = 2048 by first | assumption | omega) (show ((N 40 : Int)) ≤ 16384 by first | assumption | omega) (show ((N 36 : Int)) = ((N 37 : Int)) ∧ ((N 38 : Int)) = ((N 37 : Int)) ∧ ((N 37 : Int)) ≤ 65536 ∧ (((N 37 : Int)) = 0 ∨ 64 ≤ ((N 37 : Int))) ∧ lgq (((N 37 : Int))) = 0 by first | assumption | omega) (show 1 ≤ ((A 10)) 2 ∧ ((A 10)) 2 ≤ 65536 by first | assumption | omega) (fun tc236_2 tc236_3 ls σ D_c236 N_c236 c_c236 s_c236 F_c236 A_c236  lc236_0 lc236_1 lc236_3 lc236_4 H O hD_c236 hN_c236 hS_c236 hA_c236 pmc236_3 pmc236_11 pmc236_13 pmc236_14 pmc236_15 pmc236_16 pmc236_17 pmc236_18 mc236_3 emc236_3 mc236_11 emc236_11 mc236_13 emc236_13 mc236_14 emc236_14 mc236_15 emc236_15 mc236_16 emc236_16 mc236_17 emc236_17 mc236_18 emc236_18 yc236_2_1 eyc236_2_1 yc236_10_1 eyc236_10_1 yc236_12_1 eyc236_12_1  jc236_0 jc236_1 jc236_2 jc236_3 jc236_4 jc236_5 jc236_6 jc236_7 jc236_8 jc236_9 => ?_) (fun z σₚ Dₚ Nₚ Fₚ Aₚ cₚ sₚ Hₚ O sd sn sf sa pm3 pm11 pm13 pm14 pm15 pm16 pm17 pm18 m3 em3 m11 em11 m13 em13 m14 em14 m15 em15 m16 em16 m17 em17 m18 em18 y2_1 ey2_1 y10_1 ey10_1 y12_1 ey12_1 q0 q1 q2 q3 q4 q5 q6 => ?_)
  · skip
    subst emc236_3 emc236_11 emc236_13 emc236_14 emc236_15 emc236_16 emc236_17 emc236_18 eyc236_2_1 eyc236_10_1 eyc236_12_1
    have : F_c236 1 1 = F 4 1 := hS_c236 1 1 rfl
    refine hc236 tc236_2 tc236_3  _ _ (glu ι_wd1_1 D D_c236) (glu ι_wd1_1 N N_c236) (glu ι_wd1_1 F F_c236) (glu ι_wd1_1 A A_c236) _ _ ⟨HWs_call HX VPH_3 vs_wd1_1 hp H O, STC_call HT HX vs_wd1_1 hp O, hg0, PFI_glue (dl := [3, 11, 13, 14, 15, 16, 17, 18]) hPF hS_c236 hA_c236 hD_c236 (by decide +kernel) (rexc_of (l := [(0, 25, 0, 26), (0, 34, 0, 35), (0, 33, 1, 36), (0, 33, 2, 37), (0, 33, 3, 38), (0, 33, 7, 39), (0, 33, 8, 40), (0, 42, 0, 43)]) (by decide +kernel) ?_), ABS_glue hAB hS_c236 (by decide +kernel), NZ_glue hNZ vs_wd1_1 hp hN_c236 (by decide +kernel), hGI, ?_, ?_, ?_, ?_, ?_, ?_, ?_, ?_, ?_, ?_⟩ ⟨(STP0_call (STY_call vs_wd1_1 hp O) (hD_c236 0 rfl) (RM_call vs_wd1_1 O)), unt1_of (x := 10) (by decide +kernel) (fun p hp => funext (hA_c236 p hp))⟩ lc236_0 lc236_1 lc236_3 lc236_4 (show (F_c236 1 1) ≤ 16384 by first | assumption | (rw [show F_c236 1 1 = F 4 1 from hS_c236 1 1 rfl]; assumption) | omega) (show tc236_2 = 1 by first | assumption | omega) (show 0 ≤ tc236_3 ∧ tc236_3 ≤ 65536 by first | assumption | omega)
    · intro e he h1 h2
      simp only [List.mem_cons, List.not_mem_nil, or_false] at he
      rcases he with rfl | rfl | rfl | rfl | rfl | rfl | rfl | rfl
      · exact pmc236_3
      · exact pmc236_11
      · exact pmc236_16
      · exact pmc236_17
      · exact pmc236_18
      · exact pmc236_14
      · exact pmc236_15
      · exact pmc236_13
    · skip
      exact ⟨QF0_0_eq (EQD_glue hS_c236 hA_c236 hD_c236 hN_c236 (by decide +kernel)) f0_0, QF0_1_eq (EQD_glue hS_c236 hA_c236 hD_c236 hN_c236 (by decide +kernel)) f0_1, QF0_2_eq (EQD_glue hS_c236 hA_c236 hD_c236 hN_c236 (by decide +kernel)) f0_2, QF0_3_eq (EQD_glue hS_c236 hA_c236 hD_c236 hN_c236 (by decide +kernel)) f0_3, QF0_4_eq (EQD_glue hS_c236 hA_c236 hD_c236 hN_c236 (by decide +kernel)) f0_4, show 0 ≤ (F_c236 2 1) ∧ (F_c236 2 1) ≤ ((N_c236 3 : Int)) ∧ ((N_c236 3 : Int)) ≤ 65536 from (by first | assumption | omega), QF0_6_eq (EQD_glue hS_c236 hA_c236 hD_c236 hN_c236 (by decide +kernel)) f0_6, QF0_7_eq (EQD_glue hS_c236 hA_c236 hD_c236 hN_c236 (by decide +kernel)) f0_7, QF0_8_eq (EQD_glue hS_c236 hA_c236 hD_c236 hN_c236 (by decide +kernel)) f0_8, QF0_9_eq (EQD_glue hS_c236 hA_c236 hD_c236 hN_c236 (by decide +kernel)) f0_9, QF0_10_eq (EQD_glue hS_c236 hA_c236 hD_c236 hN_c236 (by decide +kernel)) f0_10, QF0_11_eq (EQD_glue hS_c236 hA_c236 hD_c236 hN_c236 (by decide +kernel)) f0_11, QF0_12_eq (EQD_glue hS_c236 hA_c236 hD_c236 hN_c236 (by decide +kernel)) f0_12, QF0_13_eq (EQD_glue hS_c236 hA_c236 hD_c236 hN_c236 (by decide +kernel)) f0_13, QF0_14_eq (EQD_glue hS_c236 hA_c236 hD_c236 hN_c236 (by decide +kernel)) f0_14, QF0_15_eq (EQD_glue hS_c236 hA_c236 hD_c236 hN_c236 (by decide +kernel)) f0_15, QF0_16_eq (EQD_glue hS_c236 hA_c236 hD_c236 hN_c236 (by decide +kernel)) f0_16, QF0_17_eq (EQD_glue hS_c236 hA_c236 hD_c236 hN_c236 (by decide +kernel)) f0_17⟩
    · intro hq
      exact ⟨show 0 ≤ (F_c236 10 1) ∧ (F_c236 10 1) ≤ ((N_c236 11 : Int)) ∧ ((N_c236 11 : Int)) ≤ 65536 from (by first | assumption | omega), show ((N_c236 14 : Int)) = 0 ∨ ((N_c236 14 : Int)) = 2048 from (by first | assumption | omega), show ((N_c236 15 : Int)) ≤ 16384 from (by first | assumption | omega), show ((N_c236 16 : Int)) = ((N_c236 17 : Int)) ∧ ((N_c236 18 : Int)) = ((N_c236 17 : Int)) ∧ ((N_c236 17 : Int)) ≤ 65536 ∧ (((N_c236 17 : Int)) = 0 ∨ 64 ≤ ((N_c236 17 : Int))) ∧ lgq (((N_c236 17 : Int))) = 0 from (by first | assumption | omega)⟩
    · intro hq
      exact show 0 ≤ (F_c236 12 1) ∧ (F_c236 12 1) ≤ ((N_c236 13 : Int)) ∧ ((N_c236 13 : Int)) ≤ 65536 from (by first | assumption | omega)
    · exact fun h => INV3_eq (EQD_glue hS_c236 hA_c236 hD_c236 hN_c236 (by decide +kernel)) (hI3 h)
    · exact fun h => INV4_eq (EQD_glue hS_c236 hA_c236 hD_c236 hN_c236 (by decide +kernel)) (hI4 h)
    · exact fun h => INV5_eq (EQD_glue hS_c236 hA_c236 hD_c236 hN_c236 (by decide +kernel)) (hI5 h)
    · exact fun h => INV6_eq (EQD_glue hS_c236 hA_c236 hD_c236 hN_c236 (by decide +kernel)) (hI6 h)
    · exact fun h => INV7_eq (EQD_glue hS_c236 hA_c236 hD_c236 hN_c236 (by decide +kernel)) (hI7 h)
    · exact fun h => INV8_eq (EQD_glue hS_c236 hA_c236 hD_c236 hN_c236 (by decide +kernel)) (hI8 h)
    · exact fun h => INV9_eq (EQD_glue hS_c236 hA_c236 hD_c236 hN_c236 (by decide +kernel)) (hI9 h)
  · skip
    subst em3 em11 em13 em14 em15 em16 em17 em18 ey2_1 ey10_1 ey12_1
    refine k z _ (glu ι_wd1_1 D Dₚ) (glu ι_wd1_1 N Nₚ) (glu ι_wd1_1 F Fₚ) (glu ι_wd1_1 A Aₚ) _ _ ⟨HWs_call HX VPH_3 vs_wd1_1 hp Hₚ O, STC_call HT HX vs_wd1_1 hp O, hg0, PFI_glue (dl := [3, 11, 13, 14, 15, 16, 17, 18]) hPF sf sa sd (by decide +kernel) (rexc_of (l := [(0, 25, 0, 26), (0, 34, 0, 35), (0, 33, 1, 36), (0, 33, 2, 37), (0, 33, 3, 38), (0, 33, 7, 39), (0, 33, 8, 40), (0, 42, 0, 43)]) (by decide +kernel) ?_), ABS_glue hAB sf (by decide +kernel), NZ_glue hNZ vs_wd1_1 hp sn (by decide +kernel), hGI, ?_, ?_, ?_, ?_, ?_, ?_, ?_, ?_, ?_, ?_⟩ ⟨(STP0_call (STY_call vs_wd1_1 hp O) (sd 0 rfl) (RM_call vs_wd1_1 O)), unt1_of (x := 10) (by decide +kernel) (fun p hp => funext (sa p hp))⟩ (show inr z by first | assumption | omega)
    · intro e he h1 h2
      simp only [List.mem_cons, List.not_mem_nil, or_false] at he
      rcases he with rfl | rfl | rfl | rfl | rfl | rfl | rfl | rfl
      · exact pm3
      · exact pm11
      · exact pm16
      · exact pm17
      · exact pm18
      · exact pm14
      · exact pm15
      · exact pm13
    · skip
      exact ⟨QF0_0_eq (EQD_glue sf sa sd sn (by decide +kernel)) f0_0, QF0_1_eq (EQD_glue sf sa sd sn (by decide +kernel)) f0_1, QF0_2_eq (EQD_glue sf sa sd sn (by decide +kernel)) f0_2, QF0_3_eq (EQD_glue sf sa sd sn (by decide +kernel)) f0_3, QF0_4_eq (EQD_glue sf sa sd sn (by decide +kernel)) f0_4, show 0 ≤ (Fₚ 2 1) ∧ (Fₚ 2 1) ≤ ((Nₚ 3 : Int)) ∧ ((Nₚ 3 : Int)) ≤ 65536 from (by first | assumption | omega), QF0_6_eq (EQD_glue sf sa sd sn (by decide +kernel)) f0_6, QF0_7_eq (EQD_glue sf sa sd sn (by decide +kernel)) f0_7, QF0_8_eq (EQD_glue sf sa sd sn (by decide +kernel)) f0_8, QF0_9_eq (EQD_glue sf sa sd sn (by decide +kernel)) f0_9, QF0_10_eq (EQD_glue sf sa sd sn (by decide +kernel)) f0_10, QF0_11_eq (EQD_glue sf sa sd sn (by decide +kernel)) f0_11, QF0_12_eq (EQD_glue sf sa sd sn (by decide +kernel)) f0_12, QF0_13_eq (EQD_glue sf sa sd sn (by decide +kernel)) f0_13, QF0_14_eq (EQD_glue sf sa sd sn (by decide +kernel)) f0_14, QF0_15_eq (EQD_glue sf sa sd sn (by decide +kernel)) f0_15, QF0_16_eq (EQD_glue sf sa sd sn (by decide +kernel)) f0_16, QF0_17_eq (EQD_glue sf sa sd sn (by decide +kernel)) f0_17⟩
    · intro hq
      exact ⟨show 0 ≤ (Fₚ 10 1) ∧ (Fₚ 10 1) ≤ ((Nₚ 11 : Int)) ∧ ((Nₚ 11 : Int)) ≤ 65536 from (by first | assumption | omega), show ((Nₚ 14 : Int)) = 0 ∨ ((Nₚ 14 : Int)) = 2048 from (by first | assumption | omega), show ((Nₚ 15 : Int)) ≤ 16384 from (by first | assumption | omega), show ((Nₚ 16 : Int)) = ((Nₚ 17 : Int)) ∧ ((Nₚ 18 : Int)) = ((Nₚ 17 : Int)) ∧ ((Nₚ 17 : Int)) ≤ 65536 ∧ (((Nₚ 17 : Int)) = 0 ∨ 64 ≤ ((Nₚ 17 : Int))) ∧ lgq (((Nₚ 17 : Int))) = 0 from (by first | assumption | omega)⟩
    · intro hq
      exact show 0 ≤ (Fₚ 12 1) ∧ (Fₚ 12 1) ≤ ((Nₚ 13 : Int)) ∧ ((Nₚ 13 : Int)) ≤ 65536 from (by first | assumption | omega)
    · exact fun h => INV3_eq (EQD_glue sf sa sd sn (by decide +kernel)) (hI3 h)
    · exact fun h => INV4_eq (EQD_glue sf sa sd sn (by decide +kernel)) (hI4 h)
    · exact fun h => INV5_eq (EQD_glue sf sa sd sn (by decide +kernel)) (hI5 h)
    · exact fun h => INV6_eq (EQD_glue sf sa sd sn (by decide +kernel)) (hI6 h)
    · exact fun h => INV7_eq (EQD_glue sf sa sd sn (by decide +kernel)) (hI7 h)
    · exact fun h => INV8_eq (EQD_glue sf sa sd sn (by decide +kernel)) (hI8 h)
    · exact fun h => INV9_eq (EQD_glue sf sa sd sn (by decide +kernel)) (hI9 h)
def ι_wd1_2 : List Nat := [0, 6, 25, 26, 7, 41, 10, 11, 12, 33, 34, 35, 42, 43, 39, 40, 36, 37, 38, 31]
theorem vs_wd1_2 : VS VPH V17_vd1 ι_wd1_2 := VS_of (by decide +kernel)
set_option maxRecDepth 20000 in
theorem T_wd1_2 {g : Nat → Bool} {σ : rS} {D N : Nat → Nat} {F : hF} {A : hA} {d c s : Nat} {Q : wQ} (X : PHI g σ D N F A) (hg1 : g 1 = true) (hg2 : g 2 = true) {x1 : Int} {ls : rO} (hl0 : rlook ls 0 = some (.ref (D 0))) (hl1 : rlook ls 1 = some (I x1)) (hl3 : rlook ls 3 = some (I (1))) (hl4 : rlook ls 4 = some (.ref (D 6))) (hl5 : rlook ls 5 = some (I (1))) (h0 : inr x1) (x_0 : (F 6 1) ≤ 16384) (x_1 : (F 6 1) + (F 11 1) ≤ 16384) (x_2 : (F 25 1) = 0) (hc236 : ∀ (tc236_2 : Int) (tc236_3 : Int) (ls : rO) (σₚ : rS) (Dₚ Nₚ : Nat → Nat) (Fₚ : hF) (Aₚ : hA) (cₚ sₚ : Nat), PHI g σₚ Dₚ Nₚ Fₚ Aₚ → STP g σ D N A c s g σₚ Dₚ Nₚ Aₚ cₚ sₚ → rlook ls 0 = some (.ref (Dₚ 0)) → rlook ls 1 = some (I (x1)) → rlook ls 3 = some (I (1)) → rlook ls 4 = some (.ref (Dₚ 6)) → ((Fₚ 6 1) ≤ 16384) → (tc236_2 = 1) → (0 ≤ tc236_3 ∧ tc236_3 ≤ 65536) → Ew 17 (d + 7) 236 ls [.ref (Dₚ 31), I tc236_3, I tc236_2, .ref (Dₚ 25), .ref (Dₚ 0)] σₚ cₚ sₚ Q) (k : ∀ (z : Int) (σₚ : rS) (Dₚ Nₚ : Nat → Nat) (Fₚ : hF) (Aₚ : hA) (cₚ sₚ : Nat), PHI g σₚ Dₚ Nₚ Fₚ Aₚ → STP g σ D N A c s g σₚ Dₚ Nₚ Aₚ cₚ sₚ → (inr z) → Q (some (I z)) σₚ cₚ sₚ) : Ew 17 (d + 7) 120 ls [.ref (D 41)] σ c s Q := by
  obtain ⟨HX, HT, hg0, hPF, hAB, hNZ, hGI, hI0, hI1, hI2, hI3, hI4, hI5, hI6, hI7, hI8, hI9⟩ := X
  have hset := SETI_f hI0.2.2.2.2.2.2.2.2.2.2.2.2.2.2.2.2.2
  have hJ0 := hI0
  unfold INV0 at hJ0
  obtain ⟨f0_0, f0_1, f0_2, f0_3, f0_4, f0_5, f0_6, f0_7, f0_8, f0_9, f0_10, f0_11, f0_12, f0_13, f0_14, f0_15, f0_16, f0_17⟩ := hJ0
  have hJ1 := hI1 hg1
  unfold INV1 at hJ1
  obtain ⟨f1_0, f1_1, f1_2, f1_3⟩ := hJ1
  have hJ2 := hI2 hg2
  unfold INV2 at hJ2
  have f2_0 := hJ2
  have hp : ∀ x, x < (V17_vd1).length → SPH g (ι_wd1_2.getD x 0) = true := SPH_of (gs := [0, 1, 2]) (by intro j hj; simp at hj; rcases hj with rfl | rfl | rfl <;> assumption) rfl (by decide +kernel)
  refine C17_vd1 (D := pul ι_wd1_2 D) (N := pul ι_wd1_2 N) (F := pul ι_wd1_2 F) (A := pul ι_wd1_2 A) (HWs_sub HX vs_wd1_2 hp) (show F 0 5 = (D 25 : Int) from hPF (0, 0, 5, 25) (List.mem_of_getElem? (i := 24) rfl) hg0 hg0) (show F 25 0 = (D 26 : Int) from hPF (0, 25, 0, 26) (List.mem_of_getElem? (i := 25) rfl) hg0 hg0) (show F 6 0 = (D 7 : Int) from hPF (0, 6, 0, 7) (List.mem_of_getElem? (i := 6) rfl) hg0 hg0) (show F 0 8 = (D 41 : Int) from hPF (0, 0, 8, 41) (List.mem_of_getElem? (i := 40) rfl) hg0 hg2) (show F 41 0 = (D 10 : Int) from hPF (0, 41, 0, 10) (List.mem_of_getElem? (i := 360) rfl) hg2 hg0) (show F 41 1 = (D 11 : Int) from hPF (0, 41, 1, 11) (List.mem_of_getElem? (i := 361) rfl) hg2 hg0) (show F 11 0 = (D 12 : Int) from hPF (0, 11, 0, 12) (List.mem_of_getElem? (i := 11) rfl) hg0 hg0) (show F 41 2 = (D 33 : Int) from hPF (0, 41, 2, 33) (List.mem_of_getElem? (i := 362) rfl) hg2 hg1) (show F 33 0 = (D 34 : Int) from hPF (0, 33, 0, 34) (List.mem_of_getElem? (i := 33) rfl) hg1 hg1) (show F 34 0 = (D 35 : Int) from hPF (0, 34, 0, 35) (List.mem_of_getElem? (i := 34) rfl) hg1 hg1) (show F 41 3 = (D 42 : Int) from hPF (0, 41, 3, 42) (List.mem_of_getElem? (i := 41) rfl) hg2 hg2) (show F 42 0 = (D 43 : Int) from hPF (0, 42, 0, 43) (List.mem_of_getElem? (i := 42) rfl) hg2 hg2) (show F 33 7 = (D 39 : Int) from hPF (0, 33, 7, 39) (List.mem_of_getElem? (i := 38) rfl) hg1 hg1) (show F 33 8 = (D 40 : Int) from hPF (0, 33, 8, 40) (List.mem_of_getElem? (i := 39) rfl) hg1 hg1) (show F 33 1 = (D 36 : Int) from hPF (0, 33, 1, 36) (List.mem_of_getElem? (i := 35) rfl) hg1 hg1) (show F 33 2 = (D 37 : Int) from hPF (0, 33, 2, 37) (List.mem_of_getElem? (i := 36) rfl) hg1 hg1) (show F 33 3 = (D 38 : Int) from hPF (0, 33, 3, 38) (List.mem_of_getElem? (i := 37) rfl) hg1 hg1) (show F 0 15 = (D 31 : Int) from hPF (0, 0, 15, 31) (List.mem_of_getElem? (i := 30) rfl) hg0 hg0) (N 26 : Int) rfl (N 7 : Int) rfl (N 10 : Int) rfl (N 12 : Int) rfl (N 35 : Int) rfl (N 43 : Int) rfl (N 39 : Int) rfl (N 40 : Int) rfl (N 36 : Int) rfl (N 37 : Int) rfl (N 38 : Int) rfl (N 31 : Int) rfl (F 6 1) rfl (F 25 1) rfl (F 11 1) rfl (F 34 1) rfl (F 42 1) rfl (A 10) rfl hl0 hl1 hl3 hl4 hl5 (show inr (x1) by first | assumption | omega) (show 0 ≤ (F 25 1) ∧ (F 25 1) ≤ ((N 26 : Int)) ∧ ((N 26 : Int)) ≤ 65536 by first | assumption | omega) (show (F 25 1) = 0 by first | assumption | omega) (show 0 ≤ (F 6 1) ∧ (F 6 1) ≤ ((N 7 : Int)) ∧ ((N 7 : Int)) ≤ 65536 by first | assumption | omega) (show ((N 10 : Int)) = 10 by first | assumption | omega) (show (F 11 1) + (F 6 1) ≤ 16384 by first | assumption | omega) (show 0 ≤ (F 11 1) ∧ (F 11 1) ≤ ((N 12 : Int)) ∧ ((N 12 : Int)) ≤ 65536 by first | assumption | omega) (show 0 ≤ (F 34 1) ∧ (F 34 1) ≤ ((N 35 : Int)) ∧ ((N 35 : Int)) ≤ 65536 by first | assumption | omega) (show 0 ≤ (F 42 1) ∧ (F 42 1) ≤ ((N 43 : Int)) ∧ ((N 43 : Int)) ≤ 65536 by first | assumption | omega) (show ((N 39 : Int)) = 0 ∨ ((N 39 : Int)) = 2048 by first | assumption | omega) (show ((N 40 : Int)) ≤ 16384 by first | assumption | omega) (show ((N 36 : Int)) = ((N 37 : Int)) ∧ ((N 38 : Int)) = ((N 37 : Int)) ∧ ((N 37 : Int)) ≤ 65536 ∧ (((N 37 : Int)) = 0 ∨ 64 ≤ ((N 37 : Int))) ∧ lgq (((N 37 : Int))) = 0 by first | assumption | omega) (show 1 ≤ ((A 10)) 2 ∧ ((A 10)) 2 ≤ 65536 by first | assumption | omega) (fun tc236_2 tc236_3 ls σ D_c236 N_c236 c_c236 s_c236 F_c236 A_c236  lc236_0 lc236_1 lc236_3 lc236_4 H O hD_c236 hN_c236 hS_c236 hA_c236 pmc236_3 pmc236_11 pmc236_13 pmc236_14 pmc236_15 pmc236_16 pmc236_17 pmc236_18 mc236_3 emc236_3 mc236_11 emc236_11 mc236_13 emc236_13 mc236_14 emc236_14 mc236_15 emc236_15 mc236_16 emc236_16 mc236_17 emc236_17 mc236_18 emc236_18 yc236_2_1 eyc236_2_1 yc236_10_1 eyc236_10_1 yc236_12_1 eyc236_12_1  jc236_0 jc236_1 jc236_2 jc236_3 jc236_4 jc236_5 jc236_6 jc236_7 jc236_8 jc236_9 => ?_) (fun z σₚ Dₚ Nₚ Fₚ Aₚ cₚ sₚ Hₚ O sd sn sf sa pm3 pm11 pm13 pm14 pm15 pm16 pm17 pm18 m3 em3 m11 em11 m13 em13 m14 em14 m15 em15 m16 em16 m17 em17 m18 em18 y2_1 ey2_1 y10_1 ey10_1 y12_1 ey12_1 q0 q1 q2 q3 q4 q5 q6 => ?_)
  · skip
    subst emc236_3 emc236_11 emc236_13 emc236_14 emc236_15 emc236_16 emc236_17 emc236_18 eyc236_2_1 eyc236_10_1 eyc236_12_1
    have : F_c236 1 1 = F 6 1 := hS_c236 1 1 rfl
    refine hc236 tc236_2 tc236_3  _ _ (glu ι_wd1_2 D D_c236) (glu ι_wd1_2 N N_c236) (glu ι_wd1_2 F F_c236) (glu ι_wd1_2 A A_c236) _ _ ⟨HWs_call HX VPH_3 vs_wd1_2 hp H O, STC_call HT HX vs_wd1_2 hp O, hg0, PFI_glue (dl := [3, 11, 13, 14, 15, 16, 17, 18]) hPF hS_c236 hA_c236 hD_c236 (by decide +kernel) (rexc_of (l := [(0, 25, 0, 26), (0, 34, 0, 35), (0, 33, 1, 36), (0, 33, 2, 37), (0, 33, 3, 38), (0, 33, 7, 39), (0, 33, 8, 40), (0, 42, 0, 43)]) (by decide +kernel) ?_), ABS_glue hAB hS_c236 (by decide +kernel), NZ_glue hNZ vs_wd1_2 hp hN_c236 (by decide +kernel), hGI, ?_, ?_, ?_, ?_, ?_, ?_, ?_, ?_, ?_, ?_⟩ ⟨(STP0_call (STY_call vs_wd1_2 hp O) (hD_c236 0 rfl) (RM_call vs_wd1_2 O)), unt1_of (x := 10) (by decide +kernel) (fun p hp => funext (hA_c236 p hp))⟩ lc236_0 lc236_1 lc236_3 lc236_4 (show (F_c236 1 1) ≤ 16384 by first | assumption | (rw [show F_c236 1 1 = F 6 1 from hS_c236 1 1 rfl]; assumption) | omega) (show tc236_2 = 1 by first | assumption | omega) (show 0 ≤ tc236_3 ∧ tc236_3 ≤ 65536 by first | assumption | omega)
    · intro e he h1 h2
      simp only [List.mem_cons, List.not_mem_nil, or_false] at he
      rcases he with rfl | rfl | rfl | rfl | rfl | rfl | rfl | rfl
      · exact pmc236_3
      · exact pmc236_11
      · exact pmc236_16
      · exact pmc236_17
      · exact pmc236_18
      · exact pmc236_14
      · exact pmc236_15
      · exact pmc236_13
    · skip
      exact ⟨QF0_0_eq (EQD_glue hS_c236 hA_c236 hD_c236 hN_c236 (by decide +kernel)) f0_0, QF0_1_eq (EQD_glue hS_c236 hA_c236 hD_c236 hN_c236 (by decide +kernel)) f0_1, QF0_2_eq (EQD_glue hS_c236 hA_c236 hD_c236 hN_c236 (by decide +kernel)) f0_2, QF0_3_eq (EQD_glue hS_c236 hA_c236 hD_c236 hN_c236 (by decide +kernel)) f0_3, QF0_4_eq (EQD_glue hS_c236 hA_c236 hD_c236 hN_c236 (by decide +kernel)) f0_4, show 0 ≤ (F_c236 2 1) ∧ (F_c236 2 1) ≤ ((N_c236 3 : Int)) ∧ ((N_c236 3 : Int)) ≤ 65536 from (by first | assumption | omega), QF0_6_eq (EQD_glue hS_c236 hA_c236 hD_c236 hN_c236 (by decide +kernel)) f0_6, QF0_7_eq (EQD_glue hS_c236 hA_c236 hD_c236 hN_c236 (by decide +kernel)) f0_7, QF0_8_eq (EQD_glue hS_c236 hA_c236 hD_c236 hN_c236 (by decide +kernel)) f0_8, QF0_9_eq (EQD_glue hS_c236 hA_c236 hD_c236 hN_c236 (by decide +kernel)) f0_9, QF0_10_eq (EQD_glue hS_c236 hA_c236 hD_c236 hN_c236 (by decide +kernel)) f0_10, QF0_11_eq (EQD_glue hS_c236 hA_c236 hD_c236 hN_c236 (by decide +kernel)) f0_11, QF0_12_eq (EQD_glue hS_c236 hA_c236 hD_c236 hN_c236 (by decide +kernel)) f0_12, QF0_13_eq (EQD_glue hS_c236 hA_c236 hD_c236 hN_c236 (by decide +kernel)) f0_13, QF0_14_eq (EQD_glue hS_c236 hA_c236 hD_c236 hN_c236 (by decide +kernel)) f0_14, QF0_15_eq (EQD_glue hS_c236 hA_c236 hD_c236 hN_c236 (by decide +kernel)) f0_15, QF0_16_eq (EQD_glue hS_c236 hA_c236 hD_c236 hN_c236 (by decide +kernel)) f0_16, QF0_17_eq (EQD_glue hS_c236 hA_c236 hD_c236 hN_c236 (by decide +kernel)) f0_17⟩
    · intro hq
      exact ⟨show 0 ≤ (F_c236 10 1) ∧ (F_c236 10 1) ≤ ((N_c236 11 : Int)) ∧ ((N_c236 11 : Int)) ≤ 65536 from (by first | assumption | omega), show ((N_c236 14 : Int)) = 0 ∨ ((N_c236 14 : Int)) = 2048 from (by first | assumption | omega), show ((N_c236 15 : Int)) ≤ 16384 from (by first | assumption | omega), show ((N_c236 16 : Int)) = ((N_c236 17 : Int)) ∧ ((N_c236 18 : Int)) = ((N_c236 17 : Int)) ∧ ((N_c236 17 : Int)) ≤ 65536 ∧ (((N_c236 17 : Int)) = 0 ∨ 64 ≤ ((N_c236 17 : Int))) ∧ lgq (((N_c236 17 : Int))) = 0 from (by first | assumption | omega)⟩
    · intro hq
      exact show 0 ≤ (F_c236 12 1) ∧ (F_c236 12 1) ≤ ((N_c236 13 : Int)) ∧ ((N_c236 13 : Int)) ≤ 65536 from (by first | assumption | omega)
    · exact fun h => INV3_eq (EQD_glue hS_c236 hA_c236 hD_c236 hN_c236 (by decide +kernel)) (hI3 h)
    · exact fun h => INV4_eq (EQD_glue hS_c236 hA_c236 hD_c236 hN_c236 (by decide +kernel)) (hI4 h)
    · exact fun h => INV5_eq (EQD_glue hS_c236 hA_c236 hD_c236 hN_c236 (by decide +kernel)) (hI5 h)
    · exact fun h => INV6_eq (EQD_glue hS_c236 hA_c236 hD_c236 hN_c236 (by decide +kernel)) (hI6 h)
    · exact fun h => INV7_eq (EQD_glue hS_c236 hA_c236 hD_c236 hN_c236 (by decide +kernel)) (hI7 h)
    · exact fun h => INV8_eq (EQD_glue hS_c236 hA_c236 hD_c236 hN_c236 (by decide +kernel)) (hI8 h)
    · exact fun h => INV9_eq (EQD_glue hS_c236 hA_c236 hD_c236 hN_c236 (by decide +kernel)) (hI9 h)
  · skip
    subst em3 em11 em13 em14 em15 em16 em17 em18 ey2_1 ey10_1 ey12_1
    refine k z _ (glu ι_wd1_2 D Dₚ) (glu ι_wd1_2 N Nₚ) (glu ι_wd1_2 F Fₚ) (glu ι_wd1_2 A Aₚ) _ _ ⟨HWs_call HX VPH_3 vs_wd1_2 hp Hₚ O, STC_call HT HX vs_wd1_2 hp O, hg0, PFI_glue (dl := [3, 11, 13, 14, 15, 16, 17, 18]) hPF sf sa sd (by decide +kernel) (rexc_of (l := [(0, 25, 0, 26), (0, 34, 0, 35), (0, 33, 1, 36), (0, 33, 2, 37), (0, 33, 3, 38), (0, 33, 7, 39), (0, 33, 8, 40), (0, 42, 0, 43)]) (by decide +kernel) ?_), ABS_glue hAB sf (by decide +kernel), NZ_glue hNZ vs_wd1_2 hp sn (by decide +kernel), hGI, ?_, ?_, ?_, ?_, ?_, ?_, ?_, ?_, ?_, ?_⟩ ⟨(STP0_call (STY_call vs_wd1_2 hp O) (sd 0 rfl) (RM_call vs_wd1_2 O)), unt1_of (x := 10) (by decide +kernel) (fun p hp => funext (sa p hp))⟩ (show inr z by first | assumption | omega)
    · intro e he h1 h2
      simp only [List.mem_cons, List.not_mem_nil, or_false] at he
      rcases he with rfl | rfl | rfl | rfl | rfl | rfl | rfl | rfl
      · exact pm3
      · exact pm11
      · exact pm16
      · exact pm17
      · exact pm18
      · exact pm14
      · exact pm15
      · exact pm13
    · skip
      exact ⟨QF0_0_eq (EQD_glue sf sa sd sn (by decide +kernel)) f0_0, QF0_1_eq (EQD_glue sf sa sd sn (by decide +kernel)) f0_1, QF0_2_eq (EQD_glue sf sa sd sn (by decide +kernel)) f0_2, QF0_3_eq (EQD_glue sf sa sd sn (by decide +kernel)) f0_3, QF0_4_eq (EQD_glue sf sa sd sn (by decide +kernel)) f0_4, show 0 ≤ (Fₚ 2 1) ∧ (Fₚ 2 1) ≤ ((Nₚ 3 : Int)) ∧ ((Nₚ 3 : Int)) ≤ 65536 from (by first | assumption | omega), QF0_6_eq (EQD_glue sf sa sd sn (by decide +kernel)) f0_6, QF0_7_eq (EQD_glue sf sa sd sn (by decide +kernel)) f0_7, QF0_8_eq (EQD_glue sf sa sd sn (by decide +kernel)) f0_8, QF0_9_eq (EQD_glue sf sa sd sn (by decide +kernel)) f0_9, QF0_10_eq (EQD_glue sf sa sd sn (by decide +kernel)) f0_10, QF0_11_eq (EQD_glue sf sa sd sn (by decide +kernel)) f0_11, QF0_12_eq (EQD_glue sf sa sd sn (by decide +kernel)) f0_12, QF0_13_eq (EQD_glue sf sa sd sn (by decide +kernel)) f0_13, QF0_14_eq (EQD_glue sf sa sd sn (by decide +kernel)) f0_14, QF0_15_eq (EQD_glue sf sa sd sn (by decide +kernel)) f0_15, QF0_16_eq (EQD_glue sf sa sd sn (by decide +kernel)) f0_16, QF0_17_eq (EQD_glue sf sa sd sn (by decide +kernel)) f0_17⟩
    · intro hq
      exact ⟨show 0 ≤ (Fₚ 10 1) ∧ (Fₚ 10 1) ≤ ((Nₚ 11 : Int)) ∧ ((Nₚ 11 : Int)) ≤ 65536 from (by first | assumption | omega), show ((Nₚ 14 : Int)) = 0 ∨ ((Nₚ 14 : Int)) = 2048 from (by first | assumption | omega), show ((Nₚ 15 : Int)) ≤ 16384 from (by first | assumption | omega), show ((Nₚ 16 : Int)) = ((Nₚ 17 : Int)) ∧ ((Nₚ 18 : Int)) = ((Nₚ 17 : Int)) ∧ ((Nₚ 17 : Int)) ≤ 65536 ∧ (((Nₚ 17 : Int)) = 0 ∨ 64 ≤ ((Nₚ 17 : Int))) ∧ lgq (((Nₚ 17 : Int))) = 0 from (by first | assumption | omega)⟩
    · intro hq
      exact show 0 ≤ (Fₚ 12 1) ∧ (Fₚ 12 1) ≤ ((Nₚ 13 : Int)) ∧ ((Nₚ 13 : Int)) ≤ 65536 from (by first | assumption | omega)
    · exact fun h => INV3_eq (EQD_glue sf sa sd sn (by decide +kernel)) (hI3 h)
    · exact fun h => INV4_eq (EQD_glue sf sa sd sn (by decide +kernel)) (hI4 h)
    · exact fun h => INV5_eq (EQD_glue sf sa sd sn (by decide +kernel)) (hI5 h)
    · exact fun h => INV6_eq (EQD_glue sf sa sd sn (by decide +kernel)) (hI6 h)
    · exact fun h => INV7_eq (EQD_glue sf sa sd sn (by decide +kernel)) (hI7 h)
    · exact fun h => INV8_eq (EQD_glue sf sa sd sn (by decide +kernel)) (hI8 h)
    · exact fun h => INV9_eq (EQD_glue sf sa sd sn (by decide +kernel)) (hI9 h)
def ι_wd1_3 : List Nat := [0, 8, 25, 26, 9, 41, 10, 11, 12, 33, 34, 35, 42, 43, 39, 40, 36, 37, 38, 31]
theorem vs_wd1_3 : VS VPH V17_vd1 ι_wd1_3 := VS_of (by decide +kernel)
set_option maxRecDepth 20000 in
theorem T_wd1_3 {g : Nat → Bool} {σ : rS} {D N : Nat → Nat} {F : hF} {A : hA} {d c s : Nat} {Q : wQ} (X : PHI g σ D N F A) (hg1 : g 1 = true) (hg2 : g 2 = true) {x1 : Int} {ls : rO} (hl0 : rlook ls 0 = some (.ref (D 0))) (hl1 : rlook ls 1 = some (I x1)) (hl3 : rlook ls 3 = some (I (1))) (hl4 : rlook ls 4 = some (.ref (D 8))) (hl5 : rlook ls 5 = some (I (1))) (h0 : inr x1) (x_0 : (F 8 1) ≤ 16384) (x_1 : (F 8 1) + (F 11 1) ≤ 16384) (x_2 : (F 25 1) = 0) (hc236 : ∀ (tc236_2 : Int) (tc236_3 : Int) (ls : rO) (σₚ : rS) (Dₚ Nₚ : Nat → Nat) (Fₚ : hF) (Aₚ : hA) (cₚ sₚ : Nat), PHI g σₚ Dₚ Nₚ Fₚ Aₚ → STP g σ D N A c s g σₚ Dₚ Nₚ Aₚ cₚ sₚ → rlook ls 0 = some (.ref (Dₚ 0)) → rlook ls 1 = some (I (x1)) → rlook ls 3 = some (I (1)) → rlook ls 4 = some (.ref (Dₚ 8)) → ((Fₚ 8 1) ≤ 16384) → (tc236_2 = 1) → (0 ≤ tc236_3 ∧ tc236_3 ≤ 65536) → Ew 17 (d + 7) 236 ls [.ref (Dₚ 31), I tc236_3, I tc236_2, .ref (Dₚ 25), .ref (Dₚ 0)] σₚ cₚ sₚ Q) (k : ∀ (z : Int) (σₚ : rS) (Dₚ Nₚ : Nat → Nat) (Fₚ : hF) (Aₚ : hA) (cₚ sₚ : Nat), PHI g σₚ Dₚ Nₚ Fₚ Aₚ → STP g σ D N A c s g σₚ Dₚ Nₚ Aₚ cₚ sₚ → (inr z) → Q (some (I z)) σₚ cₚ sₚ) : Ew 17 (d + 7) 120 ls [.ref (D 41)] σ c s Q := by
  obtain ⟨HX, HT, hg0, hPF, hAB, hNZ, hGI, hI0, hI1, hI2, hI3, hI4, hI5, hI6, hI7, hI8, hI9⟩ := X
  have hset := SETI_f hI0.2.2.2.2.2.2.2.2.2.2.2.2.2.2.2.2.2
  have hJ0 := hI0
  unfold INV0 at hJ0
  obtain ⟨f0_0, f0_1, f0_2, f0_3, f0_4, f0_5, f0_6, f0_7, f0_8, f0_9, f0_10, f0_11, f0_12, f0_13, f0_14, f0_15, f0_16, f0_17⟩ := hJ0
  have hJ1 := hI1 hg1
  unfold INV1 at hJ1
  obtain ⟨f1_0, f1_1, f1_2, f1_3⟩ := hJ1
  have hJ2 := hI2 hg2
  unfold INV2 at hJ2
  have f2_0 := hJ2
  have hp : ∀ x, x < (V17_vd1).length → SPH g (ι_wd1_3.getD x 0) = true := SPH_of (gs := [0, 1, 2]) (by intro j hj; simp at hj; rcases hj with rfl | rfl | rfl <;> assumption) rfl (by decide +kernel)
  refine C17_vd1 (D := pul ι_wd1_3 D) (N := pul ι_wd1_3 N) (F := pul ι_wd1_3 F) (A := pul ι_wd1_3 A) (HWs_sub HX vs_wd1_3 hp) (show F 0 5 = (D 25 : Int) from hPF (0, 0, 5, 25) (List.mem_of_getElem? (i := 24) rfl) hg0 hg0) (show F 25 0 = (D 26 : Int) from hPF (0, 25, 0, 26) (List.mem_of_getElem? (i := 25) rfl) hg0 hg0) (show F 8 0 = (D 9 : Int) from hPF (0, 8, 0, 9) (List.mem_of_getElem? (i := 8) rfl) hg0 hg0) (show F 0 8 = (D 41 : Int) from hPF (0, 0, 8, 41) (List.mem_of_getElem? (i := 40) rfl) hg0 hg2) (show F 41 0 = (D 10 : Int) from hPF (0, 41, 0, 10) (List.mem_of_getElem? (i := 360) rfl) hg2 hg0) (show F 41 1 = (D 11 : Int) from hPF (0, 41, 1, 11) (List.mem_of_getElem? (i := 361) rfl) hg2 hg0) (show F 11 0 = (D 12 : Int) from hPF (0, 11, 0, 12) (List.mem_of_getElem? (i := 11) rfl) hg0 hg0) (show F 41 2 = (D 33 : Int) from hPF (0, 41, 2, 33) (List.mem_of_getElem? (i := 362) rfl) hg2 hg1) (show F 33 0 = (D 34 : Int) from hPF (0, 33, 0, 34) (List.mem_of_getElem? (i := 33) rfl) hg1 hg1) (show F 34 0 = (D 35 : Int) from hPF (0, 34, 0, 35) (List.mem_of_getElem? (i := 34) rfl) hg1 hg1) (show F 41 3 = (D 42 : Int) from hPF (0, 41, 3, 42) (List.mem_of_getElem? (i := 41) rfl) hg2 hg2) (show F 42 0 = (D 43 : Int) from hPF (0, 42, 0, 43) (List.mem_of_getElem? (i := 42) rfl) hg2 hg2) (show F 33 7 = (D 39 : Int) from hPF (0, 33, 7, 39) (List.mem_of_getElem? (i := 38) rfl) hg1 hg1) (show F 33 8 = (D 40 : Int) from hPF (0, 33, 8, 40) (List.mem_of_getElem? (i := 39) rfl) hg1 hg1) (show F 33 1 = (D 36 : Int) from hPF (0, 33, 1, 36) (List.mem_of_getElem? (i := 35) rfl) hg1 hg1) (show F 33 2 = (D 37 : Int) from hPF (0, 33, 2, 37) (List.mem_of_getElem? (i := 36) rfl) hg1 hg1) (show F 33 3 = (D 38 : Int) from hPF (0, 33, 3, 38) (List.mem_of_getElem? (i := 37) rfl) hg1 hg1) (show F 0 15 = (D 31 : Int) from hPF (0, 0, 15, 31) (List.mem_of_getElem? (i := 30) rfl) hg0 hg0) (N 26 : Int) rfl (N 9 : Int) rfl (N 10 : Int) rfl (N 12 : Int) rfl (N 35 : Int) rfl (N 43 : Int) rfl (N 39 : Int) rfl (N 40 : Int) rfl (N 36 : Int) rfl (N 37 : Int) rfl (N 38 : Int) rfl (N 31 : Int) rfl (F 8 1) rfl (F 25 1) rfl (F 11 1) rfl (F 34 1) rfl (F 42 1) rfl (A 10) rfl hl0 hl1 hl3 hl4 hl5 (show inr (x1) by first | assumption | omega) (show 0 ≤ (F 25 1) ∧ (F 25 1) ≤ ((N 26 : Int)) ∧ ((N 26 : Int)) ≤ 65536 by first | assumption | omega) (show (F 25 1) = 0 by first | assumption | omega) (show 0 ≤ (F 8 1) ∧ (F 8 1) ≤ ((N 9 : Int)) ∧ ((N 9 : Int)) ≤ 65536 by first | assumption | omega) (show ((N 10 : Int)) = 10 by first | assumption | omega) (show (F 11 1) + (F 8 1) ≤ 16384 by first | assumption | omega) (show 0 ≤ (F 11 1) ∧ (F 11 1) ≤ ((N 12 : Int)) ∧ ((N 12 : Int)) ≤ 65536 by first | assumption | omega) (show 0 ≤ (F 34 1) ∧ (F 34 1) ≤ ((N 35 : Int)) ∧ ((N 35 : Int)) ≤ 65536 by first | assumption | omega) (show 0 ≤ (F 42 1) ∧ (F 42 1) ≤ ((N 43 : Int)) ∧ ((N 43 : Int)) ≤ 65536 by first | assumption | omega) (show ((N 39 : Int)) = 0 ∨ ((N 39 : Int)) = 2048 by first | assumption | omega) (show ((N 40 : Int)) ≤ 16384 by first | assumption | omega) (show ((N 36 : Int)) = ((N 37 : Int)) ∧ ((N 38 : Int)) = ((N 37 : Int)) ∧ ((N 37 : Int)) ≤ 65536 ∧ (((N 37 : Int)) = 0 ∨ 64 ≤ ((N 37 : Int))) ∧ lgq (((N 37 : Int))) = 0 by first | assumption | omega) (show 1 ≤ ((A 10)) 2 ∧ ((A 10)) 2 ≤ 65536 by first | assumption | omega) (fun tc236_2 tc236_3 ls σ D_c236 N_c236 c_c236 s_c236 F_c236 A_c236  lc236_0 lc236_1 lc236_3 lc236_4 H O hD_c236 hN_c236 hS_c236 hA_c236 pmc236_3 pmc236_11 pmc236_13 pmc236_14 pmc236_15 pmc236_16 pmc236_17 pmc236_18 mc236_3 emc236_3 mc236_11 emc236_11 mc236_13 emc236_13 mc236_14 emc236_14 mc236_15 emc236_15 mc236_16 emc236_16 mc236_17 emc236_17 mc236_18 emc236_18 yc236_2_1 eyc236_2_1 yc236_10_1 eyc236_10_1 yc236_12_1 eyc236_12_1  jc236_0 jc236_1 jc236_2 jc236_3 jc236_4 jc236_5 jc236_6 jc236_7 jc236_8 jc236_9 => ?_) (fun z σₚ Dₚ Nₚ Fₚ Aₚ cₚ sₚ Hₚ O sd sn sf sa pm3 pm11 pm13 pm14 pm15 pm16 pm17 pm18 m3 em3 m11 em11 m13 em13 m14 em14 m15 em15 m16 em16 m17 em17 m18 em18 y2_1 ey2_1 y10_1 ey10_1 y12_1 ey12_1 q0 q1 q2 q3 q4 q5 q6 => ?_)
  · skip
    subst emc236_3 emc236_11 emc236_13 emc236_14 emc236_15 emc236_16 emc236_17 emc236_18 eyc236_2_1 eyc236_10_1 eyc236_12_1
    have : F_c236 1 1 = F 8 1 := hS_c236 1 1 rfl
    refine hc236 tc236_2 tc236_3  _ _ (glu ι_wd1_3 D D_c236) (glu ι_wd1_3 N N_c236) (glu ι_wd1_3 F F_c236) (glu ι_wd1_3 A A_c236) _ _ ⟨HWs_call HX VPH_3 vs_wd1_3 hp H O, STC_call HT HX vs_wd1_3 hp O, hg0, PFI_glue (dl := [3, 11, 13, 14, 15, 16, 17, 18]) hPF hS_c236 hA_c236 hD_c236 (by decide +kernel) (rexc_of (l := [(0, 25, 0, 26), (0, 34, 0, 35), (0, 33, 1, 36), (0, 33, 2, 37), (0, 33, 3, 38), (0, 33, 7, 39), (0, 33, 8, 40), (0, 42, 0, 43)]) (by decide +kernel) ?_), ABS_glue hAB hS_c236 (by decide +kernel), NZ_glue hNZ vs_wd1_3 hp hN_c236 (by decide +kernel), hGI, ?_, ?_, ?_, ?_, ?_, ?_, ?_, ?_, ?_, ?_⟩ ⟨(STP0_call (STY_call vs_wd1_3 hp O) (hD_c236 0 rfl) (RM_call vs_wd1_3 O)), unt1_of (x := 10) (by decide +kernel) (fun p hp => funext (hA_c236 p hp))⟩ lc236_0 lc236_1 lc236_3 lc236_4 (show (F_c236 1 1) ≤ 16384 by first | assumption | (rw [show F_c236 1 1 = F 8 1 from hS_c236 1 1 rfl]; assumption) | omega) (show tc236_2 = 1 by first | assumption | omega) (show 0 ≤ tc236_3 ∧ tc236_3 ≤ 65536 by first | assumption | omega)
    · intro e he h1 h2
      simp only [List.mem_cons, List.not_mem_nil, or_false] at he
      rcases he with rfl | rfl | rfl | rfl | rfl | rfl | rfl | rfl
      · exact pmc236_3
      · exact pmc236_11
      · exact pmc236_16
      · exact pmc236_17
      · exact pmc236_18
      · exact pmc236_14
      · exact pmc236_15
      · exact pmc236_13
    · skip
      exact ⟨QF0_0_eq (EQD_glue hS_c236 hA_c236 hD_c236 hN_c236 (by decide +kernel)) f0_0, QF0_1_eq (EQD_glue hS_c236 hA_c236 hD_c236 hN_c236 (by decide +kernel)) f0_1, QF0_2_eq (EQD_glue hS_c236 hA_c236 hD_c236 hN_c236 (by decide +kernel)) f0_2, QF0_3_eq (EQD_glue hS_c236 hA_c236 hD_c236 hN_c236 (by decide +kernel)) f0_3, QF0_4_eq (EQD_glue hS_c236 hA_c236 hD_c236 hN_c236 (by decide +kernel)) f0_4, show 0 ≤ (F_c236 2 1) ∧ (F_c236 2 1) ≤ ((N_c236 3 : Int)) ∧ ((N_c236 3 : Int)) ≤ 65536 from (by first | assumption | omega), QF0_6_eq (EQD_glue hS_c236 hA_c236 hD_c236 hN_c236 (by decide +kernel)) f0_6, QF0_7_eq (EQD_glue hS_c236 hA_c236 hD_c236 hN_c236 (by decide +kernel)) f0_7, QF0_8_eq (EQD_glue hS_c236 hA_c236 hD_c236 hN_c236 (by decide +kernel)) f0_8, QF0_9_eq (EQD_glue hS_c236 hA_c236 hD_c236 hN_c236 (by decide +kernel)) f0_9, QF0_10_eq (EQD_glue hS_c236 hA_c236 hD_c236 hN_c236 (by decide +kernel)) f0_10, QF0_11_eq (EQD_glue hS_c236 hA_c236 hD_c236 hN_c236 (by decide +kernel)) f0_11, QF0_12_eq (EQD_glue hS_c236 hA_c236 hD_c236 hN_c236 (by decide +kernel)) f0_12, QF0_13_eq (EQD_glue hS_c236 hA_c236 hD_c236 hN_c236 (by decide +kernel)) f0_13, QF0_14_eq (EQD_glue hS_c236 hA_c236 hD_c236 hN_c236 (by decide +kernel)) f0_14, QF0_15_eq (EQD_glue hS_c236 hA_c236 hD_c236 hN_c236 (by decide +kernel)) f0_15, QF0_16_eq (EQD_glue hS_c236 hA_c236 hD_c236 hN_c236 (by decide +kernel)) f0_16, QF0_17_eq (EQD_glue hS_c236 hA_c236 hD_c236 hN_c236 (by decide +kernel)) f0_17⟩
    · intro hq
      exact ⟨show 0 ≤ (F_c236 10 1) ∧ (F_c236 10 1) ≤ ((N_c236 11 : Int)) ∧ ((N_c236 11 : Int)) ≤ 65536 from (by first | assumption | omega), show ((N_c236 14 : Int)) = 0 ∨ ((N_c236 14 : Int)) = 2048 from (by first | assumption | omega), show ((N_c236 15 : Int)) ≤ 16384 from (by first | assumption | omega), show ((N_c236 16 : Int)) = ((N_c236 17 : Int)) ∧ ((N_c236 18 : Int)) = ((N_c236 17 : Int)) ∧ ((N_c236 17 : Int)) ≤ 65536 ∧ (((N_c236 17 : Int)) = 0 ∨ 64 ≤ ((N_c236 17 : Int))) ∧ lgq (((N_c236 17 : Int))) = 0 from (by first | assumption | omega)⟩
    · intro hq
      exact show 0 ≤ (F_c236 12 1) ∧ (F_c236 12 1) ≤ ((N_c236 13 : Int)) ∧ ((N_c236 13 : Int)) ≤ 65536 from (by first | assumption | omega)
    · exact fun h => INV3_eq (EQD_glue hS_c236 hA_c236 hD_c236 hN_c236 (by decide +kernel)) (hI3 h)
    · exact fun h => INV4_eq (EQD_glue hS_c236 hA_c236 hD_c236 hN_c236 (by decide +kernel)) (hI4 h)
    · exact fun h => INV5_eq (EQD_glue hS_c236 hA_c236 hD_c236 hN_c236 (by decide +kernel)) (hI5 h)
    · exact fun h => INV6_eq (EQD_glue hS_c236 hA_c236 hD_c236 hN_c236 (by decide +kernel)) (hI6 h)
    · exact fun h => INV7_eq (EQD_glue hS_c236 hA_c236 hD_c236 hN_c236 (by decide +kernel)) (hI7 h)
    · exact fun h => INV8_eq (EQD_glue hS_c236 hA_c236 hD_c236 hN_c236 (by decide +kernel)) (hI8 h)
    · exact fun h => INV9_eq (EQD_glue hS_c236 hA_c236 hD_c236 hN_c236 (by decide +kernel)) (hI9 h)
  · skip
    subst em3 em11 em13 em14 em15 em16 em17 em18 ey2_1 ey10_1 ey12_1
    refine k z _ (glu ι_wd1_3 D Dₚ) (glu ι_wd1_3 N Nₚ) (glu ι_wd1_3 F Fₚ) (glu ι_wd1_3 A Aₚ) _ _ ⟨HWs_call HX VPH_3 vs_wd1_3 hp Hₚ O, STC_call HT HX vs_wd1_3 hp O, hg0, PFI_glue (dl := [3, 11, 13, 14, 15, 16, 17, 18]) hPF sf sa sd (by decide +kernel) (rexc_of (l := [(0, 25, 0, 26), (0, 34, 0, 35), (0, 33, 1, 36), (0, 33, 2, 37), (0, 33, 3, 38), (0, 33, 7, 39), (0, 33, 8, 40), (0, 42, 0, 43)]) (by decide +kernel) ?_), ABS_glue hAB sf (by decide +kernel), NZ_glue hNZ vs_wd1_3 hp sn (by decide +kernel), hGI, ?_, ?_, ?_, ?_, ?_, ?_, ?_, ?_, ?_, ?_⟩ ⟨(STP0_call (STY_call vs_wd1_3 hp O) (sd 0 rfl) (RM_call vs_wd1_3 O)), unt1_of (x := 10) (by decide +kernel) (fun p hp => funext (sa p hp))⟩ (show inr z by first | assumption | omega)
    · intro e he h1 h2
      simp only [List.mem_cons, List.not_mem_nil, or_false] at he
      rcases he with rfl | rfl | rfl | rfl | rfl | rfl | rfl | rfl
      · exact pm3
      · exact pm11
      · exact pm16
      · exact pm17
      · exact pm18
      · exact pm14
      · exact pm15
      · exact pm13
    · skip
      exact ⟨QF0_0_eq (EQD_glue sf sa sd sn (by decide +kernel)) f0_0, QF0_1_eq (EQD_glue sf sa sd sn (by decide +kernel)) f0_1, QF0_2_eq (EQD_glue sf sa sd sn (by decide +kernel)) f0_2, QF0_3_eq (EQD_glue sf sa sd sn (by decide +kernel)) f0_3, QF0_4_eq (EQD_glue sf sa sd sn (by decide +kernel)) f0_4, show 0 ≤ (Fₚ 2 1) ∧ (Fₚ 2 1) ≤ ((Nₚ 3 : Int)) ∧ ((Nₚ 3 : Int)) ≤ 65536 from (by first | assumption | omega), QF0_6_eq (EQD_glue sf sa sd sn (by decide +kernel)) f0_6, QF0_7_eq (EQD_glue sf sa sd sn (by decide +kernel)) f0_7, QF0_8_eq (EQD_glue sf sa sd sn (by decide +kernel)) f0_8, QF0_9_eq (EQD_glue sf sa sd sn (by decide +kernel)) f0_9, QF0_10_eq (EQD_glue sf sa sd sn (by decide +kernel)) f0_10, QF0_11_eq (EQD_glue sf sa sd sn (by decide +kernel)) f0_11, QF0_12_eq (EQD_glue sf sa sd sn (by decide +kernel)) f0_12, QF0_13_eq (EQD_glue sf sa sd sn (by decide +kernel)) f0_13, QF0_14_eq (EQD_glue sf sa sd sn (by decide +kernel)) f0_14, QF0_15_eq (EQD_glue sf sa sd sn (by decide +kernel)) f0_15, QF0_16_eq (EQD_glue sf sa sd sn (by decide +kernel)) f0_16, QF0_17_eq (EQD_glue sf sa sd sn (by decide +kernel)) f0_17⟩
    · intro hq
      exact ⟨show 0 ≤ (Fₚ 10 1) ∧ (Fₚ 10 1) ≤ ((Nₚ 11 : Int)) ∧ ((Nₚ 11 : Int)) ≤ 65536 from (by first | assumption | omega), show ((Nₚ 14 : Int)) = 0 ∨ ((Nₚ 14 : Int)) = 2048 from (by first | assumption | omega), show ((Nₚ 15 : Int)) ≤ 16384 from (by first | assumption | omega), show ((Nₚ 16 : Int)) = ((Nₚ 17 : Int)) ∧ ((Nₚ 18 : Int)) = ((Nₚ 17 : Int)) ∧ ((Nₚ 17 : Int)) ≤ 65536 ∧ (((Nₚ 17 : Int)) = 0 ∨ 64 ≤ ((Nₚ 17 : Int))) ∧ lgq (((Nₚ 17 : Int))) = 0 from (by first | assumption | omega)⟩
    · intro hq
      exact show 0 ≤ (Fₚ 12 1) ∧ (Fₚ 12 1) ≤ ((Nₚ 13 : Int)) ∧ ((Nₚ 13 : Int)) ≤ 65536 from (by first | assumption | omega)
    · exact fun h => INV3_eq (EQD_glue sf sa sd sn (by decide +kernel)) (hI3 h)
    · exact fun h => INV4_eq (EQD_glue sf sa sd sn (by decide +kernel)) (hI4 h)
    · exact fun h => INV5_eq (EQD_glue sf sa sd sn (by decide +kernel)) (hI5 h)
    · exact fun h => INV6_eq (EQD_glue sf sa sd sn (by decide +kernel)) (hI6 h)
    · exact fun h => INV7_eq (EQD_glue sf sa sd sn (by decide +kernel)) (hI7 h)
    · exact fun h => INV8_eq (EQD_glue sf sa sd sn (by decide +kernel)) (hI8 h)
    · exact fun h => INV9_eq (EQD_glue sf sa sd sn (by decide +kernel)) (hI9 h)
