/-! what is made, over the state -/
theorem ce_par8_2 : rat (mstat ++ ml_par) (κ_par8.getD 2 0) = some (.inr (1, 256, .int 0, [])) := (rat_mst (l := ml_par) (i := 2)).trans rfl
theorem ce_par8_3 : rat (mstat ++ ml_par) (κ_par8.getD 3 0) = some (.inr (1, 256, .int 0, [])) := (rat_mst (l := ml_par) (i := 3)).trans rfl
theorem ce_par8_4 : rat (mstat ++ ml_par) (κ_par8.getD 4 0) = some (.inr (1, 2048, .int 0, [])) := (rat_mst (l := ml_par) (i := 4)).trans rfl
theorem ce_par8_5 : rat (mstat ++ ml_par) (κ_par8.getD 5 0) = some (.inr (1, 256, .int 0, [])) := (rat_mst (l := ml_par) (i := 5)).trans rfl
theorem ce_par8_6 : rat (mstat ++ ml_par) (κ_par8.getD 6 0) = some (.inr (1, 12, .int 0, [])) := (rat_mst (l := ml_par) (i := 6)).trans rfl
theorem ce_par8_7 : rat (mstat ++ ml_par) (κ_par8.getD 7 0) = some (.inl (8, [.int 0, .int 12, .ref 19, .ref 20, .ref 21, .ref 22, .ref 23, .ref 24, .ref 25, .ref 26, .null, .int 0, .int 0])) := (rat_mst (l := ml_par) (i := 7)).trans rfl
theorem ce_par8_8 : rat (mstat ++ ml_par) (κ_par8.getD 8 0) = some (.inr (1, 12, .int 0, [])) := (rat_mst (l := ml_par) (i := 8)).trans rfl
theorem ce_par8_9 : rat (mstat ++ ml_par) (κ_par8.getD 9 0) = some (.inr (1, 12, .int 0, [])) := (rat_mst (l := ml_par) (i := 9)).trans rfl
theorem ce_par8_10 : rat (mstat ++ ml_par) (κ_par8.getD 10 0) = some (.inr (1, 12, .int 0, [])) := (rat_mst (l := ml_par) (i := 10)).trans rfl
theorem ce_par8_11 : rat (mstat ++ ml_par) (κ_par8.getD 11 0) = some (.inr (1, 12, .int 0, [])) := (rat_mst (l := ml_par) (i := 11)).trans rfl
theorem ce_par8_12 : rat (mstat ++ ml_par) (κ_par8.getD 12 0) = some (.inr (1, 12, .int 0, [])) := (rat_mst (l := ml_par) (i := 12)).trans rfl
theorem ce_par8_13 : rat (mstat ++ ml_par) (κ_par8.getD 13 0) = some (.inr (1, 64, .int 0, [])) := (rat_mst (l := ml_par) (i := 13)).trans rfl
theorem ce_par8_14 : rat (mstat ++ ml_par) (κ_par8.getD 14 0) = some (.inr (1, 64, .int 0, [])) := (rat_mst (l := ml_par) (i := 14)).trans rfl
theorem ce_par8_15 : rat (mstat ++ ml_par) (κ_par8.getD 15 0) = some (.inr (1, 64, .int 0, [])) := (rat_mst (l := ml_par) (i := 15)).trans rfl
theorem ce_par8_21 : rat (mstat ++ ml_par) (κ_par8.getD 21 0) = some (.inr (1, 256, .int 0, [])) := (rat_mst (l := ml_par) (i := 21)).trans rfl
theorem ce_par8_22 : rat (mstat ++ ml_par) (κ_par8.getD 22 0) = some (.inr (1, 512, .int 0, [])) := (rat_mst (l := ml_par) (i := 22)).trans rfl
theorem ce_par8_23 : rat (mstat ++ ml_par) (κ_par8.getD 23 0) = some (.inr (1, 512, .int 0, [])) := (rat_mst (l := ml_par) (i := 23)).trans rfl
theorem ce_par8_24 : rat (mstat ++ ml_par) (κ_par8.getD 24 0) = some (.inr (5, 3, .null, [(0, .ref 36), (1, .ref 45), (2, .ref 54)])) := (rat_mst (l := ml_par) (i := 24)).trans rfl
theorem ce_par8_25 : rat (mstat ++ ml_par) (κ_par8.getD 25 0) = some (.inl (8, [.int 0, .int 36, .ref 37, .ref 38, .ref 39, .ref 40, .ref 41, .ref 42, .ref 43, .ref 44, .null, .int 0, .int 0])) := (rat_mst (l := ml_par) (i := 25)).trans rfl
theorem ce_par8_26 : rat (mstat ++ ml_par) (κ_par8.getD 26 0) = some (.inr (1, 36, .int 0, [])) := (rat_mst (l := ml_par) (i := 26)).trans rfl
theorem ce_par8_27 : rat (mstat ++ ml_par) (κ_par8.getD 27 0) = some (.inr (1, 36, .int 0, [])) := (rat_mst (l := ml_par) (i := 27)).trans rfl
theorem ce_par8_28 : rat (mstat ++ ml_par) (κ_par8.getD 28 0) = some (.inr (1, 36, .int 0, [])) := (rat_mst (l := ml_par) (i := 28)).trans rfl
theorem ce_par8_29 : rat (mstat ++ ml_par) (κ_par8.getD 29 0) = some (.inr (1, 36, .int 0, [])) := (rat_mst (l := ml_par) (i := 29)).trans rfl
theorem ce_par8_30 : rat (mstat ++ ml_par) (κ_par8.getD 30 0) = some (.inr (1, 36, .int 0, [])) := (rat_mst (l := ml_par) (i := 30)).trans rfl
theorem ce_par8_31 : rat (mstat ++ ml_par) (κ_par8.getD 31 0) = some (.inr (1, 512, .int 0, [])) := (rat_mst (l := ml_par) (i := 31)).trans rfl
theorem ce_par8_32 : rat (mstat ++ ml_par) (κ_par8.getD 32 0) = some (.inr (1, 512, .int 0, [])) := (rat_mst (l := ml_par) (i := 32)).trans rfl
theorem ce_par8_33 : rat (mstat ++ ml_par) (κ_par8.getD 33 0) = some (.inr (1, 512, .int 0, [])) := (rat_mst (l := ml_par) (i := 33)).trans rfl
theorem ce_par8_34 : rat (mstat ++ ml_par) (κ_par8.getD 34 0) = some (.inl (8, [.int 0, .int 32, .ref 46, .ref 47, .ref 48, .ref 49, .ref 50, .ref 51, .ref 52, .ref 53, .null, .int 0, .int 0])) := (rat_mst (l := ml_par) (i := 34)).trans rfl
theorem ce_par8_35 : rat (mstat ++ ml_par) (κ_par8.getD 35 0) = some (.inr (1, 32, .int 0, [])) := (rat_mst (l := ml_par) (i := 35)).trans rfl
theorem ce_par8_36 : rat (mstat ++ ml_par) (κ_par8.getD 36 0) = some (.inr (1, 32, .int 0, [])) := (rat_mst (l := ml_par) (i := 36)).trans rfl
theorem ce_par8_37 : rat (mstat ++ ml_par) (κ_par8.getD 37 0) = some (.inr (1, 32, .int 0, [])) := (rat_mst (l := ml_par) (i := 37)).trans rfl
theorem ce_par8_38 : rat (mstat ++ ml_par) (κ_par8.getD 38 0) = some (.inr (1, 32, .int 0, [])) := (rat_mst (l := ml_par) (i := 38)).trans rfl
theorem ce_par8_39 : rat (mstat ++ ml_par) (κ_par8.getD 39 0) = some (.inr (1, 32, .int 0, [])) := (rat_mst (l := ml_par) (i := 39)).trans rfl
theorem ce_par8_40 : rat (mstat ++ ml_par) (κ_par8.getD 40 0) = some (.inr (1, 256, .int 0, [])) := (rat_mst (l := ml_par) (i := 40)).trans rfl
theorem ce_par8_41 : rat (mstat ++ ml_par) (κ_par8.getD 41 0) = some (.inr (1, 256, .int 0, [])) := (rat_mst (l := ml_par) (i := 41)).trans rfl
theorem ce_par8_42 : rat (mstat ++ ml_par) (κ_par8.getD 42 0) = some (.inr (1, 256, .int 0, [])) := (rat_mst (l := ml_par) (i := 42)).trans rfl
theorem ce_par8_43 : rat (mstat ++ ml_par) (κ_par8.getD 43 0) = some (.inl (8, [.int 0, .int 53, .ref 55, .ref 56, .ref 57, .ref 58, .ref 59, .ref 60, .ref 61, .ref 62, .null, .int 0, .int 0])) := (rat_mst (l := ml_par) (i := 43)).trans rfl
theorem ce_par8_44 : rat (mstat ++ ml_par) (κ_par8.getD 44 0) = some (.inr (1, 53, .int 0, [])) := (rat_mst (l := ml_par) (i := 44)).trans rfl
theorem ce_par8_45 : rat (mstat ++ ml_par) (κ_par8.getD 45 0) = some (.inr (1, 53, .int 0, [])) := (rat_mst (l := ml_par) (i := 45)).trans rfl
theorem ce_par8_46 : rat (mstat ++ ml_par) (κ_par8.getD 46 0) = some (.inr (1, 53, .int 0, [])) := (rat_mst (l := ml_par) (i := 46)).trans rfl
theorem ce_par8_47 : rat (mstat ++ ml_par) (κ_par8.getD 47 0) = some (.inr (1, 53, .int 0, [])) := (rat_mst (l := ml_par) (i := 47)).trans rfl
theorem ce_par8_48 : rat (mstat ++ ml_par) (κ_par8.getD 48 0) = some (.inr (1, 53, .int 0, [])) := (rat_mst (l := ml_par) (i := 48)).trans rfl
theorem ce_par8_49 : rat (mstat ++ ml_par) (κ_par8.getD 49 0) = some (.inr (1, 512, .int 0, [])) := (rat_mst (l := ml_par) (i := 49)).trans rfl
theorem ce_par8_50 : rat (mstat ++ ml_par) (κ_par8.getD 50 0) = some (.inr (1, 512, .int 0, [])) := (rat_mst (l := ml_par) (i := 50)).trans rfl
theorem ce_par8_51 : rat (mstat ++ ml_par) (κ_par8.getD 51 0) = some (.inr (1, 512, .int 0, [])) := (rat_mst (l := ml_par) (i := 51)).trans rfl
set_option maxRecDepth 100000 in
theorem T_mk_par8 {g : Nat → Bool} {σ : rS} {D N : Nat → Nat} {F : hF} {A : hA} {d c s : Nat} {Q : wQ} (X : PHI g σ D N F A) (hn8 : g 8 = false)  (k : ∀ (σₚ : rS) (Dₚ Nₚ : Nat → Nat) (Fₚ : hF) (Aₚ : hA) (cₚ sₚ : Nat), PHI (gset g [8]) σₚ Dₚ Nₚ Fₚ Aₚ → STP g σ D N A c s (gset g [8]) σₚ Dₚ Nₚ Aₚ cₚ sₚ → KEP g 19 D N F A Dₚ Nₚ Fₚ Aₚ → Q none σₚ cₚ sₚ) : Ew 116 (d + 3) 0 (rargs 0 [.ref (D 19)]) [] σ c s Q := by
  rw [Nat.add_comm d 3]
  obtain ⟨HX, HT, hg0, hPF, hAB, hNZ, hGI, hI0, hI1, hI2, hI3, hI4, hI5, hI6, hI7, hI8, hI9⟩ := X
  have hq := SPH_not (g := g) (ι := ι_par8) (W := W_par8) (gs := [8]) (by intro j hj; simp at hj; subst hj; exact hn8) rfl (by decide +kernel)
  have hm : mkin ι_par8 [8] = true := by decide +kernel
  have hmk : ∀ j ∈ ([8] : List Nat), g j = false := (by intro j hj; simp at hj; subst hj; exact hn8)
  have hhv : ∀ j ∈ ([] : List Nat), g j = true := (fun j hj => absurd hj (by simp))
  refine mk_ev (V := VPH) (W := W_par8) (ι := ι_par8) (κ := κ_par8) (x0 := 19) ev_par HX HT (by decide +kernel) hg0 rfl rfl fl_ok_par8 ?_ VPH_3 vs_par8 rfl rfl (kap_ok rfl (by decide +kernel)) mv_par8 hq (fun σₚ Hₚ HT' hst hlen => ?_)
  · intro k hk
    have hk : k < 5 := hk
    rcases (show k = 0 ∨ k = 1 ∨ k = 2 ∨ k = 3 ∨ k = 4 by omega) with rfl | rfl | rfl | rfl | rfl
    · exact ⟨fun h => absurd h (by decide), fun _ => by have := (show F 19 0 = (D 20 : Int) from hPF (0, 19, 0, 20) (List.mem_of_getElem? (i := 19) rfl) hg0 hg0); omega⟩
    · exact ⟨fun h => absurd h (by decide), fun _ => by have := (show F 19 1 = (D 22 : Int) from hPF (0, 19, 1, 22) (List.mem_of_getElem? (i := 21) rfl) hg0 hg0); omega⟩
    · exact ⟨fun h => absurd h (by decide), fun h => absurd h (by decide)⟩
    · exact ⟨fun _ => hAB (8, 19, 3) (List.mem_of_getElem? (i := 8) rfl) hn8, fun h => absurd h (by decide)⟩
    · exact ⟨fun _ => hAB (8, 19, 4) (List.mem_of_getElem? (i := 9) rfl) hn8, fun h => absurd h (by decide)⟩
  · have kp : KEP g 19 D N F A (glu ι_par8 D (fun x => (mrho (D 19) σ.length (F 19)) (κ_par8.getD x 0))) (glu ι_par8 N (mN κ_par8 (mstat ++ ml_par))) (glu ι_par8 F (mFd (mnu (F 19)) (mrho (D 19) σ.length (F 19)) κ_par8 (mstat ++ ml_par))) (glu ι_par8 A (mA (mnu (F 19)) (mrho (D 19) σ.length (F 19)) κ_par8 (mstat ++ ml_par))) := KEP_make (fun x a b => hq x a b) rfl rfl
    have hr := RM_make hNZ (show SPH g 19 = true from hg0) rfl kp
    have e1 : gset g [8] 1 = g 1 := gset_e rfl
    have e2 : gset g [8] 2 = g 2 := gset_e rfl
    have e3 : gset g [8] 3 = g 3 := gset_e rfl
    have e4 : gset g [8] 4 = g 4 := gset_e rfl
    have e5 : gset g [8] 5 = g 5 := gset_e rfl
    have e6 : gset g [8] 6 = g 6 := gset_e rfl
    have e7 : gset g [8] 7 = g 7 := gset_e rfl
    have e8 : gset g [8] 8 = true := gset_m rfl
    have hKC : KC (gset g [8]) = KC g + 51 := by unfold KC; simp only [e1, e2, e3, e4, e5, e6, e7, e8, hn8, kadd_t, kadd_f]; omega
    have hKS : KS (gset g [8]) = KS g + 8890 := by unfold KS; simp only [e1, e2, e3, e4, e5, e6, e7, e8, hn8, kadd_t, kadd_f]; omega
    refine k σₚ (glu ι_par8 D (fun x => (mrho (D 19) σ.length (F 19)) (κ_par8.getD x 0))) (glu ι_par8 N (mN κ_par8 (mstat ++ ml_par))) (glu ι_par8 F (mFd (mnu (F 19)) (mrho (D 19) σ.length (F 19)) κ_par8 (mstat ++ ml_par))) (glu ι_par8 A (mA (mnu (F 19)) (mrho (D 19) σ.length (F 19)) κ_par8 (mstat ++ ml_par))) _ _ ⟨HWs_make hm Hₚ, HT', gset_o hg0, PFI_mk (x0 := 19) hPF hGI hm hmk rfl hg0 rfl (by decide +kernel), ABS_mk (x0 := 19) (hv := []) hAB hhv rfl (by decide +kernel), NZ_make hm hNZ (by decide +kernel) (by decide +kernel) hg0, ⟨fun h => gset_o (hGI.1 (gset_n h rfl)), fun h => gset_o (hGI.2.1 (gset_n h rfl)), fun h => gset_o (hGI.2.2.1 (gset_n h rfl)), fun h => gset_o (hGI.2.2.2.1 (gset_n h rfl)), fun h => gset_o (hGI.2.2.2.2 (gset_n h rfl))⟩, INV0_eq (EQD_out (by decide +kernel)) hI0, fun h => INV1_eq (EQD_out (by decide +kernel)) (hI1 (gset_n h rfl)), fun h => INV2_eq (EQD_out (by decide +kernel)) (hI2 (gset_n h rfl)), fun h => INV3_eq (EQD_out (by decide +kernel)) (hI3 (gset_n h rfl)), fun h => INV4_eq (EQD_out (by decide +kernel)) (hI4 (gset_n h rfl)), fun h => INV5_eq (EQD_out (by decide +kernel)) (hI5 (gset_n h rfl)), fun h => INV6_eq (EQD_out (by decide +kernel)) (hI6 (gset_n h rfl)), fun h => INV7_eq (EQD_out (by decide +kernel)) (hI7 (gset_n h rfl)), ?_, fun h => INV9_eq (EQD_out (by decide +kernel)) (hI9 (gset_f h))⟩ ⟨⟨ST2_make (x0 := 19) (f := F 19) (κ := κ_par8) hm (by decide +kernel) hg0 kp hst hlen rfl rfl (by decide +kernel) (fun p hp hf => glu_s hf) vs_par8.2.1, rfl, ?_, ?_⟩, rfl⟩ kp
    · intro _
      have n311 : (glu ι_par8 N (mN κ_par8 (mstat ++ ml_par))) 311 = 256 := (mN_at ce_par8_2)
      have n312 : (glu ι_par8 N (mN κ_par8 (mstat ++ ml_par))) 312 = 256 := (mN_at ce_par8_3)
      have n313 : (glu ι_par8 N (mN κ_par8 (mstat ++ ml_par))) 313 = 2048 := (mN_at ce_par8_4)
      have n314 : (glu ι_par8 N (mN κ_par8 (mstat ++ ml_par))) 314 = 256 := (mN_at ce_par8_5)
      have n315 : (glu ι_par8 N (mN κ_par8 (mstat ++ ml_par))) 315 = 12 := (mN_at ce_par8_6)
      have n317 : (glu ι_par8 N (mN κ_par8 (mstat ++ ml_par))) 317 = 12 := (mN_at ce_par8_8)
      have n318 : (glu ι_par8 N (mN κ_par8 (mstat ++ ml_par))) 318 = 12 := (mN_at ce_par8_9)
      have n319 : (glu ι_par8 N (mN κ_par8 (mstat ++ ml_par))) 319 = 12 := (mN_at ce_par8_10)
      have n320 : (glu ι_par8 N (mN κ_par8 (mstat ++ ml_par))) 320 = 12 := (mN_at ce_par8_11)
      have n321 : (glu ι_par8 N (mN κ_par8 (mstat ++ ml_par))) 321 = 12 := (mN_at ce_par8_12)
      have n322 : (glu ι_par8 N (mN κ_par8 (mstat ++ ml_par))) 322 = 64 := (mN_at ce_par8_13)
      have n323 : (glu ι_par8 N (mN κ_par8 (mstat ++ ml_par))) 323 = 64 := (mN_at ce_par8_14)
      have n324 : (glu ι_par8 N (mN κ_par8 (mstat ++ ml_par))) 324 = 64 := (mN_at ce_par8_15)
      have n330 : (glu ι_par8 N (mN κ_par8 (mstat ++ ml_par))) 330 = 256 := (mN_at ce_par8_21)
      have n331 : (glu ι_par8 N (mN κ_par8 (mstat ++ ml_par))) 331 = 512 := (mN_at ce_par8_22)
      have n332 : (glu ι_par8 N (mN κ_par8 (mstat ++ ml_par))) 332 = 512 := (mN_at ce_par8_23)
      have n333 : (glu ι_par8 N (mN κ_par8 (mstat ++ ml_par))) 333 = 3 := (mN_at ce_par8_24)
      have n335 : (glu ι_par8 N (mN κ_par8 (mstat ++ ml_par))) 335 = 36 := (mN_at ce_par8_26)
      have n336 : (glu ι_par8 N (mN κ_par8 (mstat ++ ml_par))) 336 = 36 := (mN_at ce_par8_27)
      have n337 : (glu ι_par8 N (mN κ_par8 (mstat ++ ml_par))) 337 = 36 := (mN_at ce_par8_28)
      have n338 : (glu ι_par8 N (mN κ_par8 (mstat ++ ml_par))) 338 = 36 := (mN_at ce_par8_29)
      have n339 : (glu ι_par8 N (mN κ_par8 (mstat ++ ml_par))) 339 = 36 := (mN_at ce_par8_30)
      have n340 : (glu ι_par8 N (mN κ_par8 (mstat ++ ml_par))) 340 = 512 := (mN_at ce_par8_31)
      have n341 : (glu ι_par8 N (mN κ_par8 (mstat ++ ml_par))) 341 = 512 := (mN_at ce_par8_32)
      have n342 : (glu ι_par8 N (mN κ_par8 (mstat ++ ml_par))) 342 = 512 := (mN_at ce_par8_33)
      have n344 : (glu ι_par8 N (mN κ_par8 (mstat ++ ml_par))) 344 = 32 := (mN_at ce_par8_35)
      have n345 : (glu ι_par8 N (mN κ_par8 (mstat ++ ml_par))) 345 = 32 := (mN_at ce_par8_36)
      have n346 : (glu ι_par8 N (mN κ_par8 (mstat ++ ml_par))) 346 = 32 := (mN_at ce_par8_37)
      have n347 : (glu ι_par8 N (mN κ_par8 (mstat ++ ml_par))) 347 = 32 := (mN_at ce_par8_38)
      have n348 : (glu ι_par8 N (mN κ_par8 (mstat ++ ml_par))) 348 = 32 := (mN_at ce_par8_39)
      have n349 : (glu ι_par8 N (mN κ_par8 (mstat ++ ml_par))) 349 = 256 := (mN_at ce_par8_40)
      have n350 : (glu ι_par8 N (mN κ_par8 (mstat ++ ml_par))) 350 = 256 := (mN_at ce_par8_41)
      have n351 : (glu ι_par8 N (mN κ_par8 (mstat ++ ml_par))) 351 = 256 := (mN_at ce_par8_42)
      have n353 : (glu ι_par8 N (mN κ_par8 (mstat ++ ml_par))) 353 = 53 := (mN_at ce_par8_44)
      have n354 : (glu ι_par8 N (mN κ_par8 (mstat ++ ml_par))) 354 = 53 := (mN_at ce_par8_45)
      have n355 : (glu ι_par8 N (mN κ_par8 (mstat ++ ml_par))) 355 = 53 := (mN_at ce_par8_46)
      have n356 : (glu ι_par8 N (mN κ_par8 (mstat ++ ml_par))) 356 = 53 := (mN_at ce_par8_47)
      have n357 : (glu ι_par8 N (mN κ_par8 (mstat ++ ml_par))) 357 = 53 := (mN_at ce_par8_48)
      have n358 : (glu ι_par8 N (mN κ_par8 (mstat ++ ml_par))) 358 = 512 := (mN_at ce_par8_49)
      have n359 : (glu ι_par8 N (mN κ_par8 (mstat ++ ml_par))) 359 = 512 := (mN_at ce_par8_50)
      have n360 : (glu ι_par8 N (mN κ_par8 (mstat ++ ml_par))) 360 = 512 := (mN_at ce_par8_51)
      have f316_1 : (glu ι_par8 F (mFd (mnu (F 19)) (mrho (D 19) σ.length (F 19)) κ_par8 (mstat ++ ml_par))) 316 1 = 12 := (show (mFd (mnu (F 19)) (mrho (D 19) σ.length (F 19)) κ_par8 (mstat ++ ml_par)) 7 1 = 12 from (mFd_at (k := 1) ce_par8_7).trans (show ((12 : Int32)).toInt = 12 by decide))
      have f334_1 : (glu ι_par8 F (mFd (mnu (F 19)) (mrho (D 19) σ.length (F 19)) κ_par8 (mstat ++ ml_par))) 334 1 = 36 := (show (mFd (mnu (F 19)) (mrho (D 19) σ.length (F 19)) κ_par8 (mstat ++ ml_par)) 25 1 = 36 from (mFd_at (k := 1) ce_par8_25).trans (show ((36 : Int32)).toInt = 36 by decide))
      have f343_1 : (glu ι_par8 F (mFd (mnu (F 19)) (mrho (D 19) σ.length (F 19)) κ_par8 (mstat ++ ml_par))) 343 1 = 32 := (show (mFd (mnu (F 19)) (mrho (D 19) σ.length (F 19)) κ_par8 (mstat ++ ml_par)) 34 1 = 32 from (mFd_at (k := 1) ce_par8_34).trans (show ((32 : Int32)).toInt = 32 by decide))
      have f352_1 : (glu ι_par8 F (mFd (mnu (F 19)) (mrho (D 19) σ.length (F 19)) κ_par8 (mstat ++ ml_par))) 352 1 = 53 := (show (mFd (mnu (F 19)) (mrho (D 19) σ.length (F 19)) κ_par8 (mstat ++ ml_par)) 43 1 = 53 from (mFd_at (k := 1) ce_par8_43).trans (show ((53 : Int32)).toInt = 53 by decide))
      have a313 : (glu ι_par8 A (mA (mnu (F 19)) (mrho (D 19) σ.length (F 19)) κ_par8 (mstat ++ ml_par))) 313 = izl [] := (show (mA (mnu (F 19)) (mrho (D 19) σ.length (F 19)) κ_par8 (mstat ++ ml_par)) 4 = izl [] from mA_izl ce_par8_4 rfl)
      exact ⟨show ((((glu ι_par8 N (mN κ_par8 (mstat ++ ml_par))) 333 : Nat) : Int)) = 3 from (by omega), show CDZD (((((glu ι_par8 N (mN κ_par8 (mstat ++ ml_par))) 311 : Nat) : Int))) (((((glu ι_par8 N (mN κ_par8 (mstat ++ ml_par))) 312 : Nat) : Int))) (((((glu ι_par8 N (mN κ_par8 (mstat ++ ml_par))) 313 : Nat) : Int))) (((((glu ι_par8 N (mN κ_par8 (mstat ++ ml_par))) 314 : Nat) : Int))) (((((glu ι_par8 N (mN κ_par8 (mstat ++ ml_par))) 315 : Nat) : Int))) (((((glu ι_par8 N (mN κ_par8 (mstat ++ ml_par))) 330 : Nat) : Int))) (((((glu ι_par8 N (mN κ_par8 (mstat ++ ml_par))) 331 : Nat) : Int))) (((((glu ι_par8 N (mN κ_par8 (mstat ++ ml_par))) 332 : Nat) : Int))) from (by unfold CDZD; rw [n311, n312, n313, n314, n315, n330, n331, n332]; decide), show SHZD (((((glu ι_par8 N (mN κ_par8 (mstat ++ ml_par))) 317 : Nat) : Int))) (((((glu ι_par8 N (mN κ_par8 (mstat ++ ml_par))) 318 : Nat) : Int))) (((((glu ι_par8 N (mN κ_par8 (mstat ++ ml_par))) 319 : Nat) : Int))) (((((glu ι_par8 N (mN κ_par8 (mstat ++ ml_par))) 320 : Nat) : Int))) (((((glu ι_par8 N (mN κ_par8 (mstat ++ ml_par))) 321 : Nat) : Int))) (((((glu ι_par8 N (mN κ_par8 (mstat ++ ml_par))) 322 : Nat) : Int))) (((((glu ι_par8 N (mN κ_par8 (mstat ++ ml_par))) 323 : Nat) : Int))) (((((glu ι_par8 N (mN κ_par8 (mstat ++ ml_par))) 324 : Nat) : Int))) (((glu ι_par8 F (mFd (mnu (F 19)) (mrho (D 19) σ.length (F 19)) κ_par8 (mstat ++ ml_par))) 316 1)) 12 64 from (by unfold SHZD; rw [f316_1, n317, n318, n319, n320, n321, n322, n323, n324]; decide), show SHZD (((((glu ι_par8 N (mN κ_par8 (mstat ++ ml_par))) 335 : Nat) : Int))) (((((glu ι_par8 N (mN κ_par8 (mstat ++ ml_par))) 336 : Nat) : Int))) (((((glu ι_par8 N (mN κ_par8 (mstat ++ ml_par))) 337 : Nat) : Int))) (((((glu ι_par8 N (mN κ_par8 (mstat ++ ml_par))) 338 : Nat) : Int))) (((((glu ι_par8 N (mN κ_par8 (mstat ++ ml_par))) 339 : Nat) : Int))) (((((glu ι_par8 N (mN κ_par8 (mstat ++ ml_par))) 340 : Nat) : Int))) (((((glu ι_par8 N (mN κ_par8 (mstat ++ ml_par))) 341 : Nat) : Int))) (((((glu ι_par8 N (mN κ_par8 (mstat ++ ml_par))) 342 : Nat) : Int))) (((glu ι_par8 F (mFd (mnu (F 19)) (mrho (D 19) σ.length (F 19)) κ_par8 (mstat ++ ml_par))) 334 1)) 36 512 from (by unfold SHZD; rw [f334_1, n335, n336, n337, n338, n339, n340, n341, n342]; decide), show SHZD (((((glu ι_par8 N (mN κ_par8 (mstat ++ ml_par))) 344 : Nat) : Int))) (((((glu ι_par8 N (mN κ_par8 (mstat ++ ml_par))) 345 : Nat) : Int))) (((((glu ι_par8 N (mN κ_par8 (mstat ++ ml_par))) 346 : Nat) : Int))) (((((glu ι_par8 N (mN κ_par8 (mstat ++ ml_par))) 347 : Nat) : Int))) (((((glu ι_par8 N (mN κ_par8 (mstat ++ ml_par))) 348 : Nat) : Int))) (((((glu ι_par8 N (mN κ_par8 (mstat ++ ml_par))) 349 : Nat) : Int))) (((((glu ι_par8 N (mN κ_par8 (mstat ++ ml_par))) 350 : Nat) : Int))) (((((glu ι_par8 N (mN κ_par8 (mstat ++ ml_par))) 351 : Nat) : Int))) (((glu ι_par8 F (mFd (mnu (F 19)) (mrho (D 19) σ.length (F 19)) κ_par8 (mstat ++ ml_par))) 343 1)) 32 256 from (by unfold SHZD; rw [f343_1, n344, n345, n346, n347, n348, n349, n350, n351]; decide), show SHZD (((((glu ι_par8 N (mN κ_par8 (mstat ++ ml_par))) 353 : Nat) : Int))) (((((glu ι_par8 N (mN κ_par8 (mstat ++ ml_par))) 354 : Nat) : Int))) (((((glu ι_par8 N (mN κ_par8 (mstat ++ ml_par))) 355 : Nat) : Int))) (((((glu ι_par8 N (mN κ_par8 (mstat ++ ml_par))) 356 : Nat) : Int))) (((((glu ι_par8 N (mN κ_par8 (mstat ++ ml_par))) 357 : Nat) : Int))) (((((glu ι_par8 N (mN κ_par8 (mstat ++ ml_par))) 358 : Nat) : Int))) (((((glu ι_par8 N (mN κ_par8 (mstat ++ ml_par))) 359 : Nat) : Int))) (((((glu ι_par8 N (mN κ_par8 (mstat ++ ml_par))) 360 : Nat) : Int))) (((glu ι_par8 F (mFd (mnu (F 19)) (mrho (D 19) σ.length (F 19)) κ_par8 (mstat ++ ml_par))) 352 1)) 53 512 from (by unfold SHZD; rw [f352_1, n353, n354, n355, n356, n357, n358, n359, n360]; decide), show CEL (((glu ι_par8 A (mA (mnu (F 19)) (mrho (D 19) σ.length (F 19)) κ_par8 (mstat ++ ml_par))) 313)) from (by rw [a313]; exact CEL_0)⟩
    · have := hr.1
      unfold PCg
      omega
    · have := hr.2
      unfold PSg
      omega
