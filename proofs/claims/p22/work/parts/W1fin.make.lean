/-! what is made, over the state -/
theorem ce_fin_2 : rat (mstat ++ ml_fin) (κ_fin.getD 2 0) = some (.inl (7, [.ref 14, .int 0, .int 0, .int 0, .int 0])) := (rat_mst (l := ml_fin) (i := 2)).trans rfl
theorem ce_fin_3 : rat (mstat ++ ml_fin) (κ_fin.getD 3 0) = some (.inr (0, 0, .int 0, [])) := (rat_mst (l := ml_fin) (i := 3)).trans rfl
theorem ce_fin_4 : rat (mstat ++ ml_fin) (κ_fin.getD 4 0) = some (.inr (1, 0, .int 0, [])) := (rat_mst (l := ml_fin) (i := 4)).trans rfl
theorem ce_fin_5 : rat (mstat ++ ml_fin) (κ_fin.getD 5 0) = some (.inr (1, 0, .int 0, [])) := (rat_mst (l := ml_fin) (i := 5)).trans rfl
theorem ce_fin_6 : rat (mstat ++ ml_fin) (κ_fin.getD 6 0) = some (.inr (1, 0, .int 0, [])) := (rat_mst (l := ml_fin) (i := 6)).trans rfl
theorem ce_fin_7 : rat (mstat ++ ml_fin) (κ_fin.getD 7 0) = some (.inr (1, 0, .int 0, [])) := (rat_mst (l := ml_fin) (i := 7)).trans rfl
theorem ce_fin_8 : rat (mstat ++ ml_fin) (κ_fin.getD 8 0) = some (.inr (1, 0, .int 0, [])) := (rat_mst (l := ml_fin) (i := 8)).trans rfl
set_option maxRecDepth 100000 in
theorem T_mk_fin {g : Nat → Bool} {σ : rS} {D N : Nat → Nat} {F : hF} {A : hA} {d c s : Nat} {Q : wQ} (X : PHI g σ D N F A) (hn1 : g 1 = false)  (k : ∀ (σₚ : rS) (Dₚ Nₚ : Nat → Nat) (Fₚ : hF) (Aₚ : hA) (cₚ sₚ : Nat), PHI (gset g [1]) σₚ Dₚ Nₚ Fₚ Aₚ → STP g σ D N A c s (gset g [1]) σₚ Dₚ Nₚ Aₚ cₚ sₚ → KEP g 0 D N F A Dₚ Nₚ Fₚ Aₚ → Q (some (.ref (Dₚ 33))) σₚ cₚ sₚ) : Ew 35 (d + 3) 0 (rargs 0 [.ref (D 0)]) [] σ c s Q := by
  rw [Nat.add_comm d 3]
  obtain ⟨HX, HT, hg0, hPF, hAB, hNZ, hGI, hI0, hI1, hI2, hI3, hI4, hI5, hI6, hI7, hI8, hI9⟩ := X
  have hq := SPH_not (g := g) (ι := ι_fin) (W := W_fin) (gs := [1]) (by intro j hj; simp at hj; subst hj; exact hn1) rfl (by decide +kernel)
  have hm : mkin ι_fin [1] = true := by decide +kernel
  have hmk : ∀ j ∈ ([1] : List Nat), g j = false := (by intro j hj; simp at hj; subst hj; exact hn1)
  have hhv : ∀ j ∈ ([] : List Nat), g j = true := (fun j hj => absurd hj (by simp))
  refine mk_ev (V := VPH) (W := W_fin) (ι := ι_fin) (κ := κ_fin) (x0 := 0) ev_fin HX HT (by decide +kernel) hg0 rfl rfl fl_ok_fin ?_ VPH_3 vs_fin rfl rfl (kap_ok rfl (by decide +kernel)) mv_fin hq (fun σₚ Hₚ HT' hst hlen => ?_)
  · intro k hk
    have hk : k < 19 := hk
    rcases (show k = 0 ∨ k = 1 ∨ k = 2 ∨ k = 3 ∨ k = 4 ∨ k = 5 ∨ k = 6 ∨ k = 7 ∨ k = 8 ∨ k = 9 ∨ k = 10 ∨ k = 11 ∨ k = 12 ∨ k = 13 ∨ k = 14 ∨ k = 15 ∨ k = 16 ∨ k = 17 ∨ k = 18 by omega) with rfl | rfl | rfl | rfl | rfl | rfl | rfl | rfl | rfl | rfl | rfl | rfl | rfl | rfl | rfl | rfl | rfl | rfl | rfl
    · exact ⟨fun h => absurd h (by decide), fun _ => by have := (show F 0 0 = (D 1 : Int) from hPF (0, 0, 0, 1) (List.mem_of_getElem? (i := 0) rfl) hg0 hg0); omega⟩
    · exact ⟨fun h => absurd h (by decide), fun _ => by have := (show F 0 1 = (D 10 : Int) from hPF (0, 0, 1, 10) (List.mem_of_getElem? (i := 9) rfl) hg0 hg0); omega⟩
    · exact ⟨fun h => absurd h (by decide), fun _ => by have := (show F 0 2 = (D 11 : Int) from hPF (0, 0, 2, 11) (List.mem_of_getElem? (i := 10) rfl) hg0 hg0); omega⟩
    · exact ⟨fun h => absurd h (by decide), fun _ => by have := (show F 0 3 = (D 13 : Int) from hPF (0, 0, 3, 13) (List.mem_of_getElem? (i := 12) rfl) hg0 hg0); omega⟩
    · exact ⟨fun h => absurd h (by decide), fun _ => by have := (show F 0 4 = (D 19 : Int) from hPF (0, 0, 4, 19) (List.mem_of_getElem? (i := 18) rfl) hg0 hg0); omega⟩
    · exact ⟨fun h => absurd h (by decide), fun _ => by have := (show F 0 5 = (D 25 : Int) from hPF (0, 0, 5, 25) (List.mem_of_getElem? (i := 24) rfl) hg0 hg0); omega⟩
    · exact ⟨fun h => absurd h (by decide), fun _ => by have := (show F 0 6 = (D 27 : Int) from hPF (0, 0, 6, 27) (List.mem_of_getElem? (i := 26) rfl) hg0 hg0); omega⟩
    · exact ⟨fun _ => hAB (1, 0, 7) (List.mem_of_getElem? (i := 0) rfl) hn1, fun h => absurd h (by decide)⟩
    · exact ⟨fun h => absurd h (by decide), fun h => absurd h (by decide)⟩
    · exact ⟨fun h => absurd h (by decide), fun h => absurd h (by decide)⟩
    · exact ⟨fun h => absurd h (by decide), fun h => absurd h (by decide)⟩
    · exact ⟨fun h => absurd h (by decide), fun h => absurd h (by decide)⟩
    · exact ⟨fun h => absurd h (by decide), fun h => absurd h (by decide)⟩
    · exact ⟨fun h => absurd h (by decide), fun _ => by have := (show F 0 13 = (D 29 : Int) from hPF (0, 0, 13, 29) (List.mem_of_getElem? (i := 28) rfl) hg0 hg0); omega⟩
    · exact ⟨fun h => absurd h (by decide), fun _ => by have := (show F 0 14 = (D 30 : Int) from hPF (0, 0, 14, 30) (List.mem_of_getElem? (i := 29) rfl) hg0 hg0); omega⟩
    · exact ⟨fun h => absurd h (by decide), fun _ => by have := (show F 0 15 = (D 31 : Int) from hPF (0, 0, 15, 31) (List.mem_of_getElem? (i := 30) rfl) hg0 hg0); omega⟩
    · exact ⟨fun h => absurd h (by decide), fun _ => by have := (show F 0 16 = (D 32 : Int) from hPF (0, 0, 16, 32) (List.mem_of_getElem? (i := 31) rfl) hg0 hg0); omega⟩
    · exact ⟨fun h => absurd h (by decide), fun h => absurd h (by decide)⟩
    · exact ⟨fun h => absurd h (by decide), fun h => absurd h (by decide)⟩
  · have kp : KEP g 0 D N F A (glu ι_fin D (fun x => (mrho (D 0) σ.length (F 0)) (κ_fin.getD x 0))) (glu ι_fin N (mN κ_fin (mstat ++ ml_fin))) (glu ι_fin F (mFd (mnu (F 0)) (mrho (D 0) σ.length (F 0)) κ_fin (mstat ++ ml_fin))) (glu ι_fin A (mA (mnu (F 0)) (mrho (D 0) σ.length (F 0)) κ_fin (mstat ++ ml_fin))) := KEP_make (fun x a b => hq x a b) rfl rfl
    have hr := RM_make hNZ (show SPH g 0 = true from hg0) rfl kp
    have e1 : gset g [1] 1 = true := gset_m rfl
    have e2 : gset g [1] 2 = g 2 := gset_e rfl
    have e3 : gset g [1] 3 = g 3 := gset_e rfl
    have e4 : gset g [1] 4 = g 4 := gset_e rfl
    have e5 : gset g [1] 5 = g 5 := gset_e rfl
    have e6 : gset g [1] 6 = g 6 := gset_e rfl
    have e7 : gset g [1] 7 = g 7 := gset_e rfl
    have e8 : gset g [1] 8 = g 8 := gset_e rfl
    have hKC : KC (gset g [1]) = KC g + 8 := by unfold KC; simp only [e1, e2, e3, e4, e5, e6, e7, e8, hn1, kadd_t, kadd_f]; omega
    have hKS : KS (gset g [1]) = KS g + 24 := by unfold KS; simp only [e1, e2, e3, e4, e5, e6, e7, e8, hn1, kadd_t, kadd_f]; omega
    refine k σₚ (glu ι_fin D (fun x => (mrho (D 0) σ.length (F 0)) (κ_fin.getD x 0))) (glu ι_fin N (mN κ_fin (mstat ++ ml_fin))) (glu ι_fin F (mFd (mnu (F 0)) (mrho (D 0) σ.length (F 0)) κ_fin (mstat ++ ml_fin))) (glu ι_fin A (mA (mnu (F 0)) (mrho (D 0) σ.length (F 0)) κ_fin (mstat ++ ml_fin))) _ _ ⟨HWs_make hm Hₚ, HT', gset_o hg0, PFI_mk (x0 := 0) hPF hGI hm hmk rfl hg0 rfl (by decide +kernel), ABS_mk (x0 := 0) (hv := []) hAB hhv rfl (by decide +kernel), NZ_make hm hNZ (by decide +kernel) (by decide +kernel) hg0, ⟨fun h => gset_o (hGI.1 (gset_n h rfl)), fun h => gset_o (hGI.2.1 (gset_n h rfl)), fun h => gset_o (hGI.2.2.1 (gset_n h rfl)), fun h => gset_o (hGI.2.2.2.1 (gset_n h rfl)), fun h => gset_o (hGI.2.2.2.2 (gset_n h rfl))⟩, INV0_eq (EQD_out (by decide +kernel)) hI0, ?_, fun h => INV2_eq (EQD_out (by decide +kernel)) (hI2 (gset_n h rfl)), fun h => INV3_eq (EQD_out (by decide +kernel)) (hI3 (gset_n h rfl)), fun h => INV4_eq (EQD_out (by decide +kernel)) (hI4 (gset_n h rfl)), fun h => INV5_eq (EQD_out (by decide +kernel)) (hI5 (gset_n h rfl)), fun h => INV6_eq (EQD_out (by decide +kernel)) (hI6 (gset_n h rfl)), fun h => INV7_eq (EQD_out (by decide +kernel)) (hI7 (gset_n h rfl)), fun h => INV8_eq (EQD_out (by decide +kernel)) (hI8 (gset_n h rfl)), fun h => INV9_eq (EQD_out (by decide +kernel)) (hI9 (gset_f h))⟩ ⟨⟨ST2_make (x0 := 0) (f := F 0) (κ := κ_fin) hm (by decide +kernel) hg0 kp hst hlen rfl rfl (by decide +kernel) (fun p hp hf => glu_s hf) vs_fin.2.1, rfl, ?_, ?_⟩, rfl⟩ kp
    · intro _
      have n35 : (glu ι_fin N (mN κ_fin (mstat ++ ml_fin))) 35 = 0 := (mN_at ce_fin_3)
      have n36 : (glu ι_fin N (mN κ_fin (mstat ++ ml_fin))) 36 = 0 := (mN_at ce_fin_4)
      have n37 : (glu ι_fin N (mN κ_fin (mstat ++ ml_fin))) 37 = 0 := (mN_at ce_fin_5)
      have n38 : (glu ι_fin N (mN κ_fin (mstat ++ ml_fin))) 38 = 0 := (mN_at ce_fin_6)
      have n39 : (glu ι_fin N (mN κ_fin (mstat ++ ml_fin))) 39 = 0 := (mN_at ce_fin_7)
      have n40 : (glu ι_fin N (mN κ_fin (mstat ++ ml_fin))) 40 = 0 := (mN_at ce_fin_8)
      have f34_1 : (glu ι_fin F (mFd (mnu (F 0)) (mrho (D 0) σ.length (F 0)) κ_fin (mstat ++ ml_fin))) 34 1 = 0 := (show (mFd (mnu (F 0)) (mrho (D 0) σ.length (F 0)) κ_fin (mstat ++ ml_fin)) 2 1 = 0 from (mFd_at (k := 1) ce_fin_2).trans (show ((0 : Int32)).toInt = 0 by decide))
      exact ⟨show 0 ≤ ((glu ι_fin F (mFd (mnu (F 0)) (mrho (D 0) σ.length (F 0)) κ_fin (mstat ++ ml_fin))) 34 1) ∧ ((glu ι_fin F (mFd (mnu (F 0)) (mrho (D 0) σ.length (F 0)) κ_fin (mstat ++ ml_fin))) 34 1) ≤ ((((glu ι_fin N (mN κ_fin (mstat ++ ml_fin))) 35 : Nat) : Int)) ∧ ((((glu ι_fin N (mN κ_fin (mstat ++ ml_fin))) 35 : Nat) : Int)) ≤ 65536 from (by omega), show ((((glu ι_fin N (mN κ_fin (mstat ++ ml_fin))) 39 : Nat) : Int)) = 0 ∨ ((((glu ι_fin N (mN κ_fin (mstat ++ ml_fin))) 39 : Nat) : Int)) = 2048 from (by omega), show ((((glu ι_fin N (mN κ_fin (mstat ++ ml_fin))) 40 : Nat) : Int)) ≤ 16384 from (by omega), show ((((glu ι_fin N (mN κ_fin (mstat ++ ml_fin))) 36 : Nat) : Int)) = ((((glu ι_fin N (mN κ_fin (mstat ++ ml_fin))) 37 : Nat) : Int)) ∧ ((((glu ι_fin N (mN κ_fin (mstat ++ ml_fin))) 38 : Nat) : Int)) = ((((glu ι_fin N (mN κ_fin (mstat ++ ml_fin))) 37 : Nat) : Int)) ∧ ((((glu ι_fin N (mN κ_fin (mstat ++ ml_fin))) 37 : Nat) : Int)) ≤ 65536 ∧ (((((glu ι_fin N (mN κ_fin (mstat ++ ml_fin))) 37 : Nat) : Int)) = 0 ∨ 64 ≤ ((((glu ι_fin N (mN κ_fin (mstat ++ ml_fin))) 37 : Nat) : Int))) ∧ lgq (((((glu ι_fin N (mN κ_fin (mstat ++ ml_fin))) 37 : Nat) : Int))) = 0 from (by try unfold lgq; omega)⟩
    · have := hr.1
      unfold PCg
      omega
    · have := hr.2
      unfold PSg
      omega
