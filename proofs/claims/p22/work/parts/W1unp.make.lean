/-! what is made, over the state -/
theorem ce_unp_1 : rat (mstat ++ ml_unp) (κ_unp.getD 1 0) = some (.inl (12, [.ref 1010, .ref 13, .ref 36, .ref 64, .ref 67, .ref 69, .ref 70, .null, .int 0, .int 0, .null, .int 0, .null, .null, .int 0, .long 0, .int 0, .int 0, .int 0, .int 0, .int 0, .int 0])) := (rat_mst (l := ml_unp) (i := 1)).trans rfl
theorem ce_unp_3 : rat (mstat ++ ml_unp) (κ_unp.getD 3 0) = some (.inr (1, 256, .int 0, [])) := (rat_mst (l := ml_unp) (i := 3)).trans rfl
theorem ce_unp_4 : rat (mstat ++ ml_unp) (κ_unp.getD 4 0) = some (.inr (1, 256, .int 0, [])) := (rat_mst (l := ml_unp) (i := 4)).trans rfl
theorem ce_unp_5 : rat (mstat ++ ml_unp) (κ_unp.getD 5 0) = some (.inr (1, 2048, .int 0, [])) := (rat_mst (l := ml_unp) (i := 5)).trans rfl
theorem ce_unp_6 : rat (mstat ++ ml_unp) (κ_unp.getD 6 0) = some (.inr (1, 256, .int 0, [])) := (rat_mst (l := ml_unp) (i := 6)).trans rfl
theorem ce_unp_7 : rat (mstat ++ ml_unp) (κ_unp.getD 7 0) = some (.inr (1, 12, .int 0, [])) := (rat_mst (l := ml_unp) (i := 7)).trans rfl
theorem ce_unp_8 : rat (mstat ++ ml_unp) (κ_unp.getD 8 0) = some (.inl (8, [.int 0, .int 12, .ref 20, .ref 21, .ref 22, .ref 23, .ref 24, .ref 25, .ref 26, .ref 27, .null, .int 0, .int 0])) := (rat_mst (l := ml_unp) (i := 8)).trans rfl
theorem ce_unp_9 : rat (mstat ++ ml_unp) (κ_unp.getD 9 0) = some (.inr (1, 12, .int 0, [])) := (rat_mst (l := ml_unp) (i := 9)).trans rfl
theorem ce_unp_10 : rat (mstat ++ ml_unp) (κ_unp.getD 10 0) = some (.inr (1, 12, .int 0, [])) := (rat_mst (l := ml_unp) (i := 10)).trans rfl
theorem ce_unp_11 : rat (mstat ++ ml_unp) (κ_unp.getD 11 0) = some (.inr (1, 12, .int 0, [])) := (rat_mst (l := ml_unp) (i := 11)).trans rfl
theorem ce_unp_12 : rat (mstat ++ ml_unp) (κ_unp.getD 12 0) = some (.inr (1, 12, .int 0, [])) := (rat_mst (l := ml_unp) (i := 12)).trans rfl
theorem ce_unp_13 : rat (mstat ++ ml_unp) (κ_unp.getD 13 0) = some (.inr (1, 12, .int 0, [])) := (rat_mst (l := ml_unp) (i := 13)).trans rfl
theorem ce_unp_14 : rat (mstat ++ ml_unp) (κ_unp.getD 14 0) = some (.inr (1, 64, .int 0, [])) := (rat_mst (l := ml_unp) (i := 14)).trans rfl
theorem ce_unp_15 : rat (mstat ++ ml_unp) (κ_unp.getD 15 0) = some (.inr (1, 64, .int 0, [])) := (rat_mst (l := ml_unp) (i := 15)).trans rfl
theorem ce_unp_16 : rat (mstat ++ ml_unp) (κ_unp.getD 16 0) = some (.inr (1, 64, .int 0, [])) := (rat_mst (l := ml_unp) (i := 16)).trans rfl
theorem ce_unp_22 : rat (mstat ++ ml_unp) (κ_unp.getD 22 0) = some (.inr (1, 256, .int 0, [])) := (rat_mst (l := ml_unp) (i := 22)).trans rfl
theorem ce_unp_23 : rat (mstat ++ ml_unp) (κ_unp.getD 23 0) = some (.inr (1, 512, .int 0, [])) := (rat_mst (l := ml_unp) (i := 23)).trans rfl
theorem ce_unp_24 : rat (mstat ++ ml_unp) (κ_unp.getD 24 0) = some (.inr (1, 512, .int 0, [])) := (rat_mst (l := ml_unp) (i := 24)).trans rfl
theorem ce_unp_25 : rat (mstat ++ ml_unp) (κ_unp.getD 25 0) = some (.inr (5, 3, .null, [(0, .ref 37), (1, .ref 46), (2, .ref 55)])) := (rat_mst (l := ml_unp) (i := 25)).trans rfl
theorem ce_unp_26 : rat (mstat ++ ml_unp) (κ_unp.getD 26 0) = some (.inl (8, [.int 0, .int 36, .ref 38, .ref 39, .ref 40, .ref 41, .ref 42, .ref 43, .ref 44, .ref 45, .null, .int 0, .int 0])) := (rat_mst (l := ml_unp) (i := 26)).trans rfl
theorem ce_unp_27 : rat (mstat ++ ml_unp) (κ_unp.getD 27 0) = some (.inr (1, 36, .int 0, [])) := (rat_mst (l := ml_unp) (i := 27)).trans rfl
theorem ce_unp_28 : rat (mstat ++ ml_unp) (κ_unp.getD 28 0) = some (.inr (1, 36, .int 0, [])) := (rat_mst (l := ml_unp) (i := 28)).trans rfl
theorem ce_unp_29 : rat (mstat ++ ml_unp) (κ_unp.getD 29 0) = some (.inr (1, 36, .int 0, [])) := (rat_mst (l := ml_unp) (i := 29)).trans rfl
theorem ce_unp_30 : rat (mstat ++ ml_unp) (κ_unp.getD 30 0) = some (.inr (1, 36, .int 0, [])) := (rat_mst (l := ml_unp) (i := 30)).trans rfl
theorem ce_unp_31 : rat (mstat ++ ml_unp) (κ_unp.getD 31 0) = some (.inr (1, 36, .int 0, [])) := (rat_mst (l := ml_unp) (i := 31)).trans rfl
theorem ce_unp_32 : rat (mstat ++ ml_unp) (κ_unp.getD 32 0) = some (.inr (1, 512, .int 0, [])) := (rat_mst (l := ml_unp) (i := 32)).trans rfl
theorem ce_unp_33 : rat (mstat ++ ml_unp) (κ_unp.getD 33 0) = some (.inr (1, 512, .int 0, [])) := (rat_mst (l := ml_unp) (i := 33)).trans rfl
theorem ce_unp_34 : rat (mstat ++ ml_unp) (κ_unp.getD 34 0) = some (.inr (1, 512, .int 0, [])) := (rat_mst (l := ml_unp) (i := 34)).trans rfl
theorem ce_unp_35 : rat (mstat ++ ml_unp) (κ_unp.getD 35 0) = some (.inl (8, [.int 0, .int 32, .ref 47, .ref 48, .ref 49, .ref 50, .ref 51, .ref 52, .ref 53, .ref 54, .null, .int 0, .int 0])) := (rat_mst (l := ml_unp) (i := 35)).trans rfl
theorem ce_unp_36 : rat (mstat ++ ml_unp) (κ_unp.getD 36 0) = some (.inr (1, 32, .int 0, [])) := (rat_mst (l := ml_unp) (i := 36)).trans rfl
theorem ce_unp_37 : rat (mstat ++ ml_unp) (κ_unp.getD 37 0) = some (.inr (1, 32, .int 0, [])) := (rat_mst (l := ml_unp) (i := 37)).trans rfl
theorem ce_unp_38 : rat (mstat ++ ml_unp) (κ_unp.getD 38 0) = some (.inr (1, 32, .int 0, [])) := (rat_mst (l := ml_unp) (i := 38)).trans rfl
theorem ce_unp_39 : rat (mstat ++ ml_unp) (κ_unp.getD 39 0) = some (.inr (1, 32, .int 0, [])) := (rat_mst (l := ml_unp) (i := 39)).trans rfl
theorem ce_unp_40 : rat (mstat ++ ml_unp) (κ_unp.getD 40 0) = some (.inr (1, 32, .int 0, [])) := (rat_mst (l := ml_unp) (i := 40)).trans rfl
theorem ce_unp_41 : rat (mstat ++ ml_unp) (κ_unp.getD 41 0) = some (.inr (1, 256, .int 0, [])) := (rat_mst (l := ml_unp) (i := 41)).trans rfl
theorem ce_unp_42 : rat (mstat ++ ml_unp) (κ_unp.getD 42 0) = some (.inr (1, 256, .int 0, [])) := (rat_mst (l := ml_unp) (i := 42)).trans rfl
theorem ce_unp_43 : rat (mstat ++ ml_unp) (κ_unp.getD 43 0) = some (.inr (1, 256, .int 0, [])) := (rat_mst (l := ml_unp) (i := 43)).trans rfl
theorem ce_unp_44 : rat (mstat ++ ml_unp) (κ_unp.getD 44 0) = some (.inl (8, [.int 0, .int 53, .ref 56, .ref 57, .ref 58, .ref 59, .ref 60, .ref 61, .ref 62, .ref 63, .null, .int 0, .int 0])) := (rat_mst (l := ml_unp) (i := 44)).trans rfl
theorem ce_unp_45 : rat (mstat ++ ml_unp) (κ_unp.getD 45 0) = some (.inr (1, 53, .int 0, [])) := (rat_mst (l := ml_unp) (i := 45)).trans rfl
theorem ce_unp_46 : rat (mstat ++ ml_unp) (κ_unp.getD 46 0) = some (.inr (1, 53, .int 0, [])) := (rat_mst (l := ml_unp) (i := 46)).trans rfl
theorem ce_unp_47 : rat (mstat ++ ml_unp) (κ_unp.getD 47 0) = some (.inr (1, 53, .int 0, [])) := (rat_mst (l := ml_unp) (i := 47)).trans rfl
theorem ce_unp_48 : rat (mstat ++ ml_unp) (κ_unp.getD 48 0) = some (.inr (1, 53, .int 0, [])) := (rat_mst (l := ml_unp) (i := 48)).trans rfl
theorem ce_unp_49 : rat (mstat ++ ml_unp) (κ_unp.getD 49 0) = some (.inr (1, 53, .int 0, [])) := (rat_mst (l := ml_unp) (i := 49)).trans rfl
theorem ce_unp_50 : rat (mstat ++ ml_unp) (κ_unp.getD 50 0) = some (.inr (1, 512, .int 0, [])) := (rat_mst (l := ml_unp) (i := 50)).trans rfl
theorem ce_unp_51 : rat (mstat ++ ml_unp) (κ_unp.getD 51 0) = some (.inr (1, 512, .int 0, [])) := (rat_mst (l := ml_unp) (i := 51)).trans rfl
theorem ce_unp_52 : rat (mstat ++ ml_unp) (κ_unp.getD 52 0) = some (.inr (1, 512, .int 0, [])) := (rat_mst (l := ml_unp) (i := 52)).trans rfl
theorem ce_unp_54 : rat (mstat ++ ml_unp) (κ_unp.getD 54 0) = some (.inr (5, 3, .null, [])) := (rat_mst (l := ml_unp) (i := 54)).trans rfl
theorem ce_unp_55 : rat (mstat ++ ml_unp) (κ_unp.getD 55 0) = some (.inr (2, 3, .long 0, [(0, .long 1), (1, .long 4), (2, .long 8)])) := (rat_mst (l := ml_unp) (i := 55)).trans rfl
theorem ce_unp_56 : rat (mstat ++ ml_unp) (κ_unp.getD 56 0) = some (.inl (7, [.ref 68, .int 0, .int 0, .int 0, .int 0])) := (rat_mst (l := ml_unp) (i := 56)).trans rfl
theorem ce_unp_57 : rat (mstat ++ ml_unp) (κ_unp.getD 57 0) = some (.inr (0, 0, .int 0, [])) := (rat_mst (l := ml_unp) (i := 57)).trans rfl
theorem ce_unp_59 : rat (mstat ++ ml_unp) (κ_unp.getD 59 0) = some (.inr (1, 3, .int 0, [])) := (rat_mst (l := ml_unp) (i := 59)).trans rfl
set_option maxRecDepth 100000 in
theorem T_mk_unp {g : Nat → Bool} {σ : rS} {D N : Nat → Nat} {F : hF} {A : hA} {d c s : Nat} {Q : wQ} (X : PHI g σ D N F A) (hn6 : g 6 = false) (hg4 : g 4 = true) (k : ∀ (σₚ : rS) (Dₚ Nₚ : Nat → Nat) (Fₚ : hF) (Aₚ : hA) (cₚ sₚ : Nat), PHI (gset g [6]) σₚ Dₚ Nₚ Fₚ Aₚ → STP g σ D N A c s (gset g [6]) σₚ Dₚ Nₚ Aₚ cₚ sₚ → KEP g 0 D N F A Dₚ Nₚ Fₚ Aₚ → Q (some (.ref (Dₚ 200))) σₚ cₚ sₚ) : Ew 40 (d + 4) 0 (rargs 0 [.ref (D 0)]) [] σ c s Q := by
  rw [Nat.add_comm d 4]
  obtain ⟨HX, HT, hg0, hPF, hAB, hNZ, hGI, hI0, hI1, hI2, hI3, hI4, hI5, hI6, hI7, hI8, hI9⟩ := X
  have hq := SPH_not (g := g) (ι := ι_unp) (W := W_unp) (gs := [6]) (by intro j hj; simp at hj; subst hj; exact hn6) rfl (by decide +kernel)
  have hm : mkin ι_unp [6] = true := by decide +kernel
  have hmk : ∀ j ∈ ([6] : List Nat), g j = false := (by intro j hj; simp at hj; subst hj; exact hn6)
  have hhv : ∀ j ∈ ([4] : List Nat), g j = true := (by intro j hj; simp at hj; subst hj; exact hg4)
  refine mk_ev (V := VPH) (W := W_unp) (ι := ι_unp) (κ := κ_unp) (x0 := 0) ev_unp HX HT (by decide +kernel) hg0 rfl rfl fl_ok_unp ?_ VPH_3 vs_unp rfl rfl (kap_ok rfl (by decide +kernel)) mv_unp hq (fun σₚ Hₚ HT' hst hlen => ?_)
  · intro k hk
    have hk : k < 19 := hk
    rcases (show k = 0 ∨ k = 1 ∨ k = 2 ∨ k = 3 ∨ k = 4 ∨ k = 5 ∨ k = 6 ∨ k = 7 ∨ k = 8 ∨ k = 9 ∨ k = 10 ∨ k = 11 ∨ k = 12 ∨ k = 13 ∨ k = 14 ∨ k = 15 ∨ k = 16 ∨ k = 17 ∨ k = 18 by omega) with rfl | rfl | rfl | rfl | rfl | rfl | rfl | rfl | rfl | rfl | rfl | rfl | rfl | rfl | rfl | rfl | rfl | rfl | rfl
    · exact ⟨fun h => absurd h (by decide), fun _ => by have := (show F 0 0 = (D 1 : Int) from hPF (0, 0, 0, 1) (List.mem_of_getElem? (i := 0) rfl) hg0 hg0); omega⟩
    · exact ⟨fun h => absurd h (by decide), fun _ => by have := (show F 0 1 = (D 10 : Int) from hPF (0, 0, 1, 10) (List.mem_of_getElem? (i := 9) rfl) hg0 hg0); omega⟩
    · exact ⟨fun h => absurd h (by decide), fun _ => by have := (show F 0 2 = (D 11 : Int) from hPF (0, 0, 2, 11) (List.mem_of_getElem? (i := 10) rfl) hg0 hg0); omega⟩
    · exact ⟨fun h => absurd h (by decide), fun _ => by have := (show F 0 3 = (D 13 : Int) from hPF (0, 0, 3, 13) (List.mem_of_getElem? (i := 12) rfl) hg0 hg0); omega⟩
    · exact ⟨fun h => absurd h (by decide), fun _ => by have := (show F 0 4 = (D 19 : Int) from hPF (0, 0, 4, 19) (List.mem_of_getElem? (i := 18) rfl) hg0 hg0); omega⟩
    · exact ⟨fun h => absurd h (by decide), fun _ => by have := (show F 0 5 = (D 25 : Int) from hPF (0, 0, 5, 25) (List.mem_of_getElem? (i := 24) rfl) hg0 hg0); omega⟩
    · exact ⟨fun h => absurd h (by decide), fun _ => by have := (show F 0 6 = (D 27 : Int) from hPF (0, 0, 6, 27) (List.mem_of_getElem? (i := 26) rfl) hg0 hg0); omega⟩
    · exact ⟨fun h => absurd h (by decide), fun h => absurd h (by decide)⟩
    · exact ⟨fun h => absurd h (by decide), fun h => absurd h (by decide)⟩
    · exact ⟨fun h => absurd h (by decide), fun h => absurd h (by decide)⟩
    · exact ⟨fun h => absurd h (by decide), fun _ => by have := (show F 0 10 = (D 47 : Int) from hPF (0, 0, 10, 47) (List.mem_of_getElem? (i := 46) rfl) hg0 hg4); omega⟩
    · exact ⟨fun h => absurd h (by decide), fun h => absurd h (by decide)⟩
    · exact ⟨fun _ => hAB (6, 0, 12) (List.mem_of_getElem? (i := 5) rfl) hn6, fun h => absurd h (by decide)⟩
    · exact ⟨fun h => absurd h (by decide), fun _ => by have := (show F 0 13 = (D 29 : Int) from hPF (0, 0, 13, 29) (List.mem_of_getElem? (i := 28) rfl) hg0 hg0); omega⟩
    · exact ⟨fun h => absurd h (by decide), fun _ => by have := (show F 0 14 = (D 30 : Int) from hPF (0, 0, 14, 30) (List.mem_of_getElem? (i := 29) rfl) hg0 hg0); omega⟩
    · exact ⟨fun h => absurd h (by decide), fun _ => by have := (show F 0 15 = (D 31 : Int) from hPF (0, 0, 15, 31) (List.mem_of_getElem? (i := 30) rfl) hg0 hg0); omega⟩
    · exact ⟨fun h => absurd h (by decide), fun _ => by have := (show F 0 16 = (D 32 : Int) from hPF (0, 0, 16, 32) (List.mem_of_getElem? (i := 31) rfl) hg0 hg0); omega⟩
    · exact ⟨fun h => absurd h (by decide), fun h => absurd h (by decide)⟩
    · exact ⟨fun h => absurd h (by decide), fun h => absurd h (by decide)⟩
  · have kp : KEP g 0 D N F A (glu ι_unp D (fun x => (mrho (D 0) σ.length (F 0)) (κ_unp.getD x 0))) (glu ι_unp N (mN κ_unp (mstat ++ ml_unp))) (glu ι_unp F (mFd (mnu (F 0)) (mrho (D 0) σ.length (F 0)) κ_unp (mstat ++ ml_unp))) (glu ι_unp A (mA (mnu (F 0)) (mrho (D 0) σ.length (F 0)) κ_unp (mstat ++ ml_unp))) := KEP_make (fun x a b => hq x a b) rfl rfl
    have hr := RM_make hNZ (show SPH g 0 = true from hg0) rfl kp
    have e1 : gset g [6] 1 = g 1 := gset_e rfl
    have e2 : gset g [6] 2 = g 2 := gset_e rfl
    have e3 : gset g [6] 3 = g 3 := gset_e rfl
    have e4 : gset g [6] 4 = g 4 := gset_e rfl
    have e5 : gset g [6] 5 = g 5 := gset_e rfl
    have e6 : gset g [6] 6 = true := gset_m rfl
    have e7 : gset g [6] 7 = g 7 := gset_e rfl
    have e8 : gset g [6] 8 = g 8 := gset_e rfl
    have hKC : KC (gset g [6]) = KC g + 59 := by unfold KC; simp only [e1, e2, e3, e4, e5, e6, e7, e8, hn6, kadd_t, kadd_f]; omega
    have hKS : KS (gset g [6]) = KS g + 8932 := by unfold KS; simp only [e1, e2, e3, e4, e5, e6, e7, e8, hn6, kadd_t, kadd_f]; omega
    refine k σₚ (glu ι_unp D (fun x => (mrho (D 0) σ.length (F 0)) (κ_unp.getD x 0))) (glu ι_unp N (mN κ_unp (mstat ++ ml_unp))) (glu ι_unp F (mFd (mnu (F 0)) (mrho (D 0) σ.length (F 0)) κ_unp (mstat ++ ml_unp))) (glu ι_unp A (mA (mnu (F 0)) (mrho (D 0) σ.length (F 0)) κ_unp (mstat ++ ml_unp))) _ _ ⟨HWs_make hm Hₚ, HT', gset_o hg0, PFI_mk (x0 := 0) hPF hGI hm hmk rfl hg0 rfl (by decide +kernel), ABS_mk (x0 := 0) (hv := [4]) hAB hhv rfl (by decide +kernel), NZ_make hm hNZ (by decide +kernel) (by decide +kernel) hg0, ⟨fun h => gset_o (hGI.1 (gset_n h rfl)), fun h => gset_o (hGI.2.1 (gset_n h rfl)), fun h => gset_o (hGI.2.2.1 (gset_n h rfl)), fun h => gset_o (hGI.2.2.2.1 (gset_n h rfl)), fun _ => gset_o hg4⟩, INV0_eq (EQD_out (by decide +kernel)) hI0, fun h => INV1_eq (EQD_out (by decide +kernel)) (hI1 (gset_n h rfl)), fun h => INV2_eq (EQD_out (by decide +kernel)) (hI2 (gset_n h rfl)), fun h => INV3_eq (EQD_out (by decide +kernel)) (hI3 (gset_n h rfl)), fun h => INV4_eq (EQD_out (by decide +kernel)) (hI4 (gset_n h rfl)), fun h => INV5_eq (EQD_out (by decide +kernel)) (hI5 (gset_n h rfl)), ?_, fun h => INV7_eq (EQD_out (by decide +kernel)) (hI7 (gset_n h rfl)), fun h => INV8_eq (EQD_out (by decide +kernel)) (hI8 (gset_n h rfl)), fun h => INV9_eq (EQD_out (by decide +kernel)) (hI9 (gset_f h))⟩ ⟨⟨ST2_make (x0 := 0) (f := F 0) (κ := κ_unp) hm (by decide +kernel) hg0 kp hst hlen rfl rfl (by decide +kernel) (fun p hp hf => glu_s hf) vs_unp.2.1, rfl, ?_, ?_⟩, rfl⟩ kp
    · intro _
      have n202 : (glu ι_unp N (mN κ_unp (mstat ++ ml_unp))) 202 = 256 := (mN_at ce_unp_3)
      have n203 : (glu ι_unp N (mN κ_unp (mstat ++ ml_unp))) 203 = 256 := (mN_at ce_unp_4)
      have n204 : (glu ι_unp N (mN κ_unp (mstat ++ ml_unp))) 204 = 2048 := (mN_at ce_unp_5)
      have n205 : (glu ι_unp N (mN κ_unp (mstat ++ ml_unp))) 205 = 256 := (mN_at ce_unp_6)
      have n206 : (glu ι_unp N (mN κ_unp (mstat ++ ml_unp))) 206 = 12 := (mN_at ce_unp_7)
      have n208 : (glu ι_unp N (mN κ_unp (mstat ++ ml_unp))) 208 = 12 := (mN_at ce_unp_9)
      have n209 : (glu ι_unp N (mN κ_unp (mstat ++ ml_unp))) 209 = 12 := (mN_at ce_unp_10)
      have n210 : (glu ι_unp N (mN κ_unp (mstat ++ ml_unp))) 210 = 12 := (mN_at ce_unp_11)
      have n211 : (glu ι_unp N (mN κ_unp (mstat ++ ml_unp))) 211 = 12 := (mN_at ce_unp_12)
      have n212 : (glu ι_unp N (mN κ_unp (mstat ++ ml_unp))) 212 = 12 := (mN_at ce_unp_13)
      have n213 : (glu ι_unp N (mN κ_unp (mstat ++ ml_unp))) 213 = 64 := (mN_at ce_unp_14)
      have n214 : (glu ι_unp N (mN κ_unp (mstat ++ ml_unp))) 214 = 64 := (mN_at ce_unp_15)
      have n215 : (glu ι_unp N (mN κ_unp (mstat ++ ml_unp))) 215 = 64 := (mN_at ce_unp_16)
      have n221 : (glu ι_unp N (mN κ_unp (mstat ++ ml_unp))) 221 = 256 := (mN_at ce_unp_22)
      have n222 : (glu ι_unp N (mN κ_unp (mstat ++ ml_unp))) 222 = 512 := (mN_at ce_unp_23)
      have n223 : (glu ι_unp N (mN κ_unp (mstat ++ ml_unp))) 223 = 512 := (mN_at ce_unp_24)
      have n224 : (glu ι_unp N (mN κ_unp (mstat ++ ml_unp))) 224 = 3 := (mN_at ce_unp_25)
      have n226 : (glu ι_unp N (mN κ_unp (mstat ++ ml_unp))) 226 = 36 := (mN_at ce_unp_27)
      have n227 : (glu ι_unp N (mN κ_unp (mstat ++ ml_unp))) 227 = 36 := (mN_at ce_unp_28)
      have n228 : (glu ι_unp N (mN κ_unp (mstat ++ ml_unp))) 228 = 36 := (mN_at ce_unp_29)
      have n229 : (glu ι_unp N (mN κ_unp (mstat ++ ml_unp))) 229 = 36 := (mN_at ce_unp_30)
      have n230 : (glu ι_unp N (mN κ_unp (mstat ++ ml_unp))) 230 = 36 := (mN_at ce_unp_31)
      have n231 : (glu ι_unp N (mN κ_unp (mstat ++ ml_unp))) 231 = 512 := (mN_at ce_unp_32)
      have n232 : (glu ι_unp N (mN κ_unp (mstat ++ ml_unp))) 232 = 512 := (mN_at ce_unp_33)
      have n233 : (glu ι_unp N (mN κ_unp (mstat ++ ml_unp))) 233 = 512 := (mN_at ce_unp_34)
      have n235 : (glu ι_unp N (mN κ_unp (mstat ++ ml_unp))) 235 = 32 := (mN_at ce_unp_36)
      have n236 : (glu ι_unp N (mN κ_unp (mstat ++ ml_unp))) 236 = 32 := (mN_at ce_unp_37)
      have n237 : (glu ι_unp N (mN κ_unp (mstat ++ ml_unp))) 237 = 32 := (mN_at ce_unp_38)
      have n238 : (glu ι_unp N (mN κ_unp (mstat ++ ml_unp))) 238 = 32 := (mN_at ce_unp_39)
      have n239 : (glu ι_unp N (mN κ_unp (mstat ++ ml_unp))) 239 = 32 := (mN_at ce_unp_40)
      have n240 : (glu ι_unp N (mN κ_unp (mstat ++ ml_unp))) 240 = 256 := (mN_at ce_unp_41)
      have n241 : (glu ι_unp N (mN κ_unp (mstat ++ ml_unp))) 241 = 256 := (mN_at ce_unp_42)
      have n242 : (glu ι_unp N (mN κ_unp (mstat ++ ml_unp))) 242 = 256 := (mN_at ce_unp_43)
      have n244 : (glu ι_unp N (mN κ_unp (mstat ++ ml_unp))) 244 = 53 := (mN_at ce_unp_45)
      have n245 : (glu ι_unp N (mN κ_unp (mstat ++ ml_unp))) 245 = 53 := (mN_at ce_unp_46)
      have n246 : (glu ι_unp N (mN κ_unp (mstat ++ ml_unp))) 246 = 53 := (mN_at ce_unp_47)
      have n247 : (glu ι_unp N (mN κ_unp (mstat ++ ml_unp))) 247 = 53 := (mN_at ce_unp_48)
      have n248 : (glu ι_unp N (mN κ_unp (mstat ++ ml_unp))) 248 = 53 := (mN_at ce_unp_49)
      have n249 : (glu ι_unp N (mN κ_unp (mstat ++ ml_unp))) 249 = 512 := (mN_at ce_unp_50)
      have n250 : (glu ι_unp N (mN κ_unp (mstat ++ ml_unp))) 250 = 512 := (mN_at ce_unp_51)
      have n251 : (glu ι_unp N (mN κ_unp (mstat ++ ml_unp))) 251 = 512 := (mN_at ce_unp_52)
      have n253 : (glu ι_unp N (mN κ_unp (mstat ++ ml_unp))) 253 = 3 := (mN_at ce_unp_54)
      have n254 : (glu ι_unp N (mN κ_unp (mstat ++ ml_unp))) 254 = 3 := (mN_at ce_unp_55)
      have n256 : (glu ι_unp N (mN κ_unp (mstat ++ ml_unp))) 256 = 0 := (mN_at ce_unp_57)
      have n258 : (glu ι_unp N (mN κ_unp (mstat ++ ml_unp))) 258 = 3 := (mN_at ce_unp_59)
      have f200_15 : (glu ι_unp F (mFd (mnu (F 0)) (mrho (D 0) σ.length (F 0)) κ_unp (mstat ++ ml_unp))) 200 15 = 0 := (show (mFd (mnu (F 0)) (mrho (D 0) σ.length (F 0)) κ_unp (mstat ++ ml_unp)) 1 15 = 0 from (mFd_at (k := 15) ce_unp_1).trans (show ((0 : Int64)).toInt = 0 by decide))
      have f207_1 : (glu ι_unp F (mFd (mnu (F 0)) (mrho (D 0) σ.length (F 0)) κ_unp (mstat ++ ml_unp))) 207 1 = 12 := (show (mFd (mnu (F 0)) (mrho (D 0) σ.length (F 0)) κ_unp (mstat ++ ml_unp)) 8 1 = 12 from (mFd_at (k := 1) ce_unp_8).trans (show ((12 : Int32)).toInt = 12 by decide))
      have f225_1 : (glu ι_unp F (mFd (mnu (F 0)) (mrho (D 0) σ.length (F 0)) κ_unp (mstat ++ ml_unp))) 225 1 = 36 := (show (mFd (mnu (F 0)) (mrho (D 0) σ.length (F 0)) κ_unp (mstat ++ ml_unp)) 26 1 = 36 from (mFd_at (k := 1) ce_unp_26).trans (show ((36 : Int32)).toInt = 36 by decide))
      have f234_1 : (glu ι_unp F (mFd (mnu (F 0)) (mrho (D 0) σ.length (F 0)) κ_unp (mstat ++ ml_unp))) 234 1 = 32 := (show (mFd (mnu (F 0)) (mrho (D 0) σ.length (F 0)) κ_unp (mstat ++ ml_unp)) 35 1 = 32 from (mFd_at (k := 1) ce_unp_35).trans (show ((32 : Int32)).toInt = 32 by decide))
      have f243_1 : (glu ι_unp F (mFd (mnu (F 0)) (mrho (D 0) σ.length (F 0)) κ_unp (mstat ++ ml_unp))) 243 1 = 53 := (show (mFd (mnu (F 0)) (mrho (D 0) σ.length (F 0)) κ_unp (mstat ++ ml_unp)) 44 1 = 53 from (mFd_at (k := 1) ce_unp_44).trans (show ((53 : Int32)).toInt = 53 by decide))
      have f255_1 : (glu ι_unp F (mFd (mnu (F 0)) (mrho (D 0) σ.length (F 0)) κ_unp (mstat ++ ml_unp))) 255 1 = 0 := (show (mFd (mnu (F 0)) (mrho (D 0) σ.length (F 0)) κ_unp (mstat ++ ml_unp)) 56 1 = 0 from (mFd_at (k := 1) ce_unp_56).trans (show ((0 : Int32)).toInt = 0 by decide))
      have a204 : (glu ι_unp A (mA (mnu (F 0)) (mrho (D 0) σ.length (F 0)) κ_unp (mstat ++ ml_unp))) 204 = izl [] := (show (mA (mnu (F 0)) (mrho (D 0) σ.length (F 0)) κ_unp (mstat ++ ml_unp)) 5 = izl [] from mA_izl ce_unp_5 rfl)
      exact ⟨show 0 ≤ ((glu ι_unp F (mFd (mnu (F 0)) (mrho (D 0) σ.length (F 0)) κ_unp (mstat ++ ml_unp))) 200 15) from (by omega), show 0 ≤ ((glu ι_unp F (mFd (mnu (F 0)) (mrho (D 0) σ.length (F 0)) κ_unp (mstat ++ ml_unp))) 255 1) ∧ ((glu ι_unp F (mFd (mnu (F 0)) (mrho (D 0) σ.length (F 0)) κ_unp (mstat ++ ml_unp))) 255 1) ≤ ((((glu ι_unp N (mN κ_unp (mstat ++ ml_unp))) 256 : Nat) : Int)) ∧ ((((glu ι_unp N (mN κ_unp (mstat ++ ml_unp))) 256 : Nat) : Int)) ≤ 65536 from (by omega), show ((((glu ι_unp N (mN κ_unp (mstat ++ ml_unp))) 254 : Nat) : Int)) = 3 ∧ ((((glu ι_unp N (mN κ_unp (mstat ++ ml_unp))) 258 : Nat) : Int)) = 3 ∧ ((((glu ι_unp N (mN κ_unp (mstat ++ ml_unp))) 253 : Nat) : Int)) = 3 ∧ ((((glu ι_unp N (mN κ_unp (mstat ++ ml_unp))) 224 : Nat) : Int)) = 3 from (by omega), show SHZD (((((glu ι_unp N (mN κ_unp (mstat ++ ml_unp))) 226 : Nat) : Int))) (((((glu ι_unp N (mN κ_unp (mstat ++ ml_unp))) 227 : Nat) : Int))) (((((glu ι_unp N (mN κ_unp (mstat ++ ml_unp))) 228 : Nat) : Int))) (((((glu ι_unp N (mN κ_unp (mstat ++ ml_unp))) 229 : Nat) : Int))) (((((glu ι_unp N (mN κ_unp (mstat ++ ml_unp))) 230 : Nat) : Int))) (((((glu ι_unp N (mN κ_unp (mstat ++ ml_unp))) 231 : Nat) : Int))) (((((glu ι_unp N (mN κ_unp (mstat ++ ml_unp))) 232 : Nat) : Int))) (((((glu ι_unp N (mN κ_unp (mstat ++ ml_unp))) 233 : Nat) : Int))) (((glu ι_unp F (mFd (mnu (F 0)) (mrho (D 0) σ.length (F 0)) κ_unp (mstat ++ ml_unp))) 225 1)) 36 512 from (by unfold SHZD; rw [f225_1, n226, n227, n228, n229, n230, n231, n232, n233]; decide), show SHZD (((((glu ι_unp N (mN κ_unp (mstat ++ ml_unp))) 235 : Nat) : Int))) (((((glu ι_unp N (mN κ_unp (mstat ++ ml_unp))) 236 : Nat) : Int))) (((((glu ι_unp N (mN κ_unp (mstat ++ ml_unp))) 237 : Nat) : Int))) (((((glu ι_unp N (mN κ_unp (mstat ++ ml_unp))) 238 : Nat) : Int))) (((((glu ι_unp N (mN κ_unp (mstat ++ ml_unp))) 239 : Nat) : Int))) (((((glu ι_unp N (mN κ_unp (mstat ++ ml_unp))) 240 : Nat) : Int))) (((((glu ι_unp N (mN κ_unp (mstat ++ ml_unp))) 241 : Nat) : Int))) (((((glu ι_unp N (mN κ_unp (mstat ++ ml_unp))) 242 : Nat) : Int))) (((glu ι_unp F (mFd (mnu (F 0)) (mrho (D 0) σ.length (F 0)) κ_unp (mstat ++ ml_unp))) 234 1)) 32 256 from (by unfold SHZD; rw [f234_1, n235, n236, n237, n238, n239, n240, n241, n242]; decide), show SHZD (((((glu ι_unp N (mN κ_unp (mstat ++ ml_unp))) 244 : Nat) : Int))) (((((glu ι_unp N (mN κ_unp (mstat ++ ml_unp))) 245 : Nat) : Int))) (((((glu ι_unp N (mN κ_unp (mstat ++ ml_unp))) 246 : Nat) : Int))) (((((glu ι_unp N (mN κ_unp (mstat ++ ml_unp))) 247 : Nat) : Int))) (((((glu ι_unp N (mN κ_unp (mstat ++ ml_unp))) 248 : Nat) : Int))) (((((glu ι_unp N (mN κ_unp (mstat ++ ml_unp))) 249 : Nat) : Int))) (((((glu ι_unp N (mN κ_unp (mstat ++ ml_unp))) 250 : Nat) : Int))) (((((glu ι_unp N (mN κ_unp (mstat ++ ml_unp))) 251 : Nat) : Int))) (((glu ι_unp F (mFd (mnu (F 0)) (mrho (D 0) σ.length (F 0)) κ_unp (mstat ++ ml_unp))) 243 1)) 53 512 from (by unfold SHZD; rw [f243_1, n244, n245, n246, n247, n248, n249, n250, n251]; decide), show CDZD (((((glu ι_unp N (mN κ_unp (mstat ++ ml_unp))) 202 : Nat) : Int))) (((((glu ι_unp N (mN κ_unp (mstat ++ ml_unp))) 203 : Nat) : Int))) (((((glu ι_unp N (mN κ_unp (mstat ++ ml_unp))) 204 : Nat) : Int))) (((((glu ι_unp N (mN κ_unp (mstat ++ ml_unp))) 205 : Nat) : Int))) (((((glu ι_unp N (mN κ_unp (mstat ++ ml_unp))) 206 : Nat) : Int))) (((((glu ι_unp N (mN κ_unp (mstat ++ ml_unp))) 221 : Nat) : Int))) (((((glu ι_unp N (mN κ_unp (mstat ++ ml_unp))) 222 : Nat) : Int))) (((((glu ι_unp N (mN κ_unp (mstat ++ ml_unp))) 223 : Nat) : Int))) from (by unfold CDZD; rw [n202, n203, n204, n205, n206, n221, n222, n223]; decide), show SHZD (((((glu ι_unp N (mN κ_unp (mstat ++ ml_unp))) 208 : Nat) : Int))) (((((glu ι_unp N (mN κ_unp (mstat ++ ml_unp))) 209 : Nat) : Int))) (((((glu ι_unp N (mN κ_unp (mstat ++ ml_unp))) 210 : Nat) : Int))) (((((glu ι_unp N (mN κ_unp (mstat ++ ml_unp))) 211 : Nat) : Int))) (((((glu ι_unp N (mN κ_unp (mstat ++ ml_unp))) 212 : Nat) : Int))) (((((glu ι_unp N (mN κ_unp (mstat ++ ml_unp))) 213 : Nat) : Int))) (((((glu ι_unp N (mN κ_unp (mstat ++ ml_unp))) 214 : Nat) : Int))) (((((glu ι_unp N (mN κ_unp (mstat ++ ml_unp))) 215 : Nat) : Int))) (((glu ι_unp F (mFd (mnu (F 0)) (mrho (D 0) σ.length (F 0)) κ_unp (mstat ++ ml_unp))) 207 1)) 12 64 from (by unfold SHZD; rw [f207_1, n208, n209, n210, n211, n212, n213, n214, n215]; decide), show CEL (((glu ι_unp A (mA (mnu (F 0)) (mrho (D 0) σ.length (F 0)) κ_unp (mstat ++ ml_unp))) 204)) from (by rw [a204]; exact CEL_0)⟩
    · have := hr.1
      unfold PCg
      omega
    · have := hr.2
      unfold PSg
      omega
