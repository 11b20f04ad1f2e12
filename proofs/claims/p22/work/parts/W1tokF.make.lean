/-! what is made, over the state -/
theorem ce_tokF_2 : rat (mstat ++ ml_tokF) (κ_tokF.getD 2 0) = some (.inl (7, [.ref 15, .int 0, .int 0, .int 0, .int 0])) := (rat_mst (l := ml_tokF) (i := 3)).trans rfl
theorem ce_tokF_3 : rat (mstat ++ ml_tokF) (κ_tokF.getD 3 0) = some (.inr (0, 0, .int 0, [])) := (rat_mst (l := ml_tokF) (i := 4)).trans rfl
theorem ce_tokF_4 : rat (mstat ++ ml_tokF) (κ_tokF.getD 4 0) = some (.inr (1, 0, .int 0, [])) := (rat_mst (l := ml_tokF) (i := 5)).trans rfl
theorem ce_tokF_5 : rat (mstat ++ ml_tokF) (κ_tokF.getD 5 0) = some (.inr (1, 0, .int 0, [])) := (rat_mst (l := ml_tokF) (i := 6)).trans rfl
theorem ce_tokF_6 : rat (mstat ++ ml_tokF) (κ_tokF.getD 6 0) = some (.inr (1, 0, .int 0, [])) := (rat_mst (l := ml_tokF) (i := 7)).trans rfl
theorem ce_tokF_7 : rat (mstat ++ ml_tokF) (κ_tokF.getD 7 0) = some (.inr (1, 0, .int 0, [])) := (rat_mst (l := ml_tokF) (i := 8)).trans rfl
theorem ce_tokF_8 : rat (mstat ++ ml_tokF) (κ_tokF.getD 8 0) = some (.inr (1, 0, .int 0, [])) := (rat_mst (l := ml_tokF) (i := 9)).trans rfl
theorem ce_tokF_10 : rat (mstat ++ ml_tokF) (κ_tokF.getD 10 0) = some (.inl (7, [.ref 22, .int 0, .int 0, .int 0, .int 0])) := (rat_mst (l := ml_tokF) (i := 10)).trans rfl
theorem ce_tokF_11 : rat (mstat ++ ml_tokF) (κ_tokF.getD 11 0) = some (.inr (0, 0, .int 0, [])) := (rat_mst (l := ml_tokF) (i := 11)).trans rfl
set_option maxRecDepth 100000 in
theorem T_mk_tokF {g : Nat → Bool} {σ : rS} {D N : Nat → Nat} {F : hF} {A : hA} {d c s : Nat} {Q : wQ} (X : PHI g σ D N F A) (hn1 : g 1 = false) (hn2 : g 2 = false)  (k : ∀ (σₚ : rS) (Dₚ Nₚ : Nat → Nat) (Fₚ : hF) (Aₚ : hA) (cₚ sₚ : Nat), PHI (gset g [1, 2]) σₚ Dₚ Nₚ Fₚ Aₚ → STP g σ D N A c s (gset g [1, 2]) σₚ Dₚ Nₚ Aₚ cₚ sₚ → KEP g 0 D N F A Dₚ Nₚ Fₚ Aₚ → Q (some (.ref (Dₚ 41))) σₚ cₚ sₚ) : Ew 36 (d + 4) 0 (rargs 0 [.ref (D 0)]) [] σ c s Q := by
  rw [Nat.add_comm d 4]
  obtain ⟨HX, HT, hg0, hPF, hAB, hNZ, hGI, hI0, hI1, hI2, hI3, hI4, hI5, hI6, hI7, hI8, hI9⟩ := X
  have hq := SPH_not (g := g) (ι := ι_tokF) (W := W_tokF) (gs := [1, 2]) (by intro j hj; simp at hj; rcases hj with rfl | rfl <;> assumption) rfl (by decide +kernel)
  have hm : mkin ι_tokF [1, 2] = true := by decide +kernel
  have hmk : ∀ j ∈ ([1, 2] : List Nat), g j = false := (by intro j hj; simp at hj; rcases hj with rfl | rfl <;> assumption)
  have hhv : ∀ j ∈ ([] : List Nat), g j = true := (fun j hj => absurd hj (by simp))
  refine mk_ev (V := VPH) (W := W_tokF) (ι := ι_tokF) (κ := κ_tokF) (x0 := 0) ev_tokF HX HT (by decide +kernel) hg0 rfl rfl fl_ok_tokF ?_ VPH_3 vs_tokF rfl rfl (kap_ok rfl (by decide +kernel)) mv_tokF hq (fun σₚ Hₚ HT' hst hlen => ?_)
  · intro k hk
    have hk : k < 19 := hk
    rcases (show k = 0 ∨ k = 1 ∨ k = 2 ∨ k = 3 ∨ k = 4 ∨ k = 5 ∨ k = 6 ∨ k = 7 ∨ k = 8 ∨ k = 9 ∨ k = 10 ∨ k = 11 ∨ k = 12 ∨ k = 13 ∨ k = 14 ∨ k = 15 ∨ k = 16 ∨ k = 17 ∨ k = 18 by omega) with rfl | rfl | rfl | rfl | rfl | rfl | rfl | rfl | rfl | rfl | rfl | rfl | rfl | rfl | rfl | rfl | rfl | rfl | rfl
    · exact ⟨fun h => absurd h (by decide), fun _ => by have := (show F 0 0 = (D 1 : Int) from hPF (0, 0, 0, 1) (List.mem_of_getElem? (i := 0) rfl) hg0 hg0); omega⟩
    · exact ⟨fun h => absurd h (by decide), fun _ => by have := (show F 0 1 = (D 10 : Int) from hPF (0, 0, 1, 10) (List.mem_of_getElem? (i := 9) rfl) hg0 hg0); omega⟩
    · exact ⟨fun h => absurd h (by decide), fun _ => by have := (show F 0 2 = (D 11 : Int) from hPF (0, 0, 2, 11) (List.mem_of_getElem? (i := 10) rfl) hg0 hg0); omega⟩
    · exact ⟨fun h => absurd h (by decide), fun _ => by have := (show F 0 3 = (D 13 : Int) from hPF (0, 0, 3, 13) (List.mem_of_getElem? (i := 12) rfl) hg0 hg0); omega⟩
    · exact ⟨fun h => absurd h (by decide), fun _ => by have := (show F 0 4 = (D 19 : Int) from hPF (0, 0, 4, 19) (List.mem_of_getElem? (i := 18) rfl) hg0 hg0); omega⟩
    · exact ⟨fun h => absurd h (by decide), fun _ => by have := (show F 0 5 = (D 25 : Int) from hPF (0, 0, 5, 25) (List.mem_of_getElem? (i := 24) rfl) hg0 hg0); omega⟩
    · exact ⟨fun h => absurd h (by decide), fun _ => by have := (show F 0 6 = (D 27 : Int) from hPF (0, 0, 6, 27) (List.mem_of_getElem? (i := 26) rfl) hg0 hg0); omega⟩
    · exact ⟨fun _ => hAB (1, 0, 7) (List.mem_of_getElem? (i := 0) rfl) hn1, fun h => absurd h (by decide)⟩
    · exact ⟨fun _ => hAB (2, 0, 8) (List.mem_of_getElem? (i := 1) rfl) hn2, fun h => absurd h (by decide)⟩
    · exact ⟨fun h => absurd h (by decide), fun h => absurd h (by decide)⟩
    · exact ⟨fun h => absurd h (by decide), fun h => absurd h (by decide)⟩
    · exact ⟨fun h => absurd h (by decide), fun h => absurd h (by decide)⟩
    · exact ⟨fun h => absurd h (by decide), fun h => absurd h (by decide)⟩
    · exact ⟨fun h => absurd h (by decide), fun _ => by have := (show F 0 13 = (D 29 : Int) from hPF (0, 0, 13, 29) (List.mem_of_getElem? (i := 28) rfl) hg0 hg0); omega⟩
    · exact ⟨fun h => absurd h (by decide), fun _ => by have := (show F 0 14 = (D 30 : Int) from hPF (0, 0, 14, 30) (List.mem_of_getElem? (i := 29) rfl) hg0 hg0); omega⟩
    · exact ⟨fun h => absurd h (by decide), fun _ => by have := (show F 0 15 = (D 31 : Int) from hPF (0, 0, 15, 31) (List.mem_of_getElem? (i := 30) rfl) hg0 hg0); omega⟩
    · exact ⟨fun h => absurd h (by decide), fun _ => by have := (show F 0 16 = (D 32 : Int) from hPF (0, 0, 16, 32) (List.mem_of_getElem? (i := 31) rfl) hg0 hg0); omega⟩
    · exact ⟨fun h => absurd h (by decide), fun h => absurd h (by decide)⟩
    · exact ⟨fun h => absurd h (by decide), fun h => absurd h (by decide)⟩
  · have kp : KEP g 0 D N F A (glu ι_tokF D (fun x => (mrho (D 0) σ.length (F 0)) (κ_tokF.getD x 0))) (glu ι_tokF N (mN κ_tokF (mstat ++ ml_tokF))) (glu ι_tokF F (mFd (mnu (F 0)) (mrho (D 0) σ.length (F 0)) κ_tokF (mstat ++ ml_tokF))) (glu ι_tokF A (mA (mnu (F 0)) (mrho (D 0) σ.length (F 0)) κ_tokF (mstat ++ ml_tokF))) := KEP_make (fun x a b => hq x a b) rfl rfl
    have hr := RM_make hNZ (show SPH g 0 = true from hg0) rfl kp
    have e1 : gset g [1, 2] 1 = true := gset_m rfl
    have e2 : gset g [1, 2] 2 = true := gset_m rfl
    have e3 : gset g [1, 2] 3 = g 3 := gset_e rfl
    have e4 : gset g [1, 2] 4 = g 4 := gset_e rfl
    have e5 : gset g [1, 2] 5 = g 5 := gset_e rfl
    have e6 : gset g [1, 2] 6 = g 6 := gset_e rfl
    have e7 : gset g [1, 2] 7 = g 7 := gset_e rfl
    have e8 : gset g [1, 2] 8 = g 8 := gset_e rfl
    have hKC : KC (gset g [1, 2]) = KC g + 11 := by unfold KC; simp only [e1, e2, e3, e4, e5, e6, e7, e8, hn1, hn2, kadd_t, kadd_f]; omega
    have hKS : KS (gset g [1, 2]) = KS g + 42 := by unfold KS; simp only [e1, e2, e3, e4, e5, e6, e7, e8, hn1, hn2, kadd_t, kadd_f]; omega
    refine k σₚ (glu ι_tokF D (fun x => (mrho (D 0) σ.length (F 0)) (κ_tokF.getD x 0))) (glu ι_tokF N (mN κ_tokF (mstat ++ ml_tokF))) (glu ι_tokF F (mFd (mnu (F 0)) (mrho (D 0) σ.length (F 0)) κ_tokF (mstat ++ ml_tokF))) (glu ι_tokF A (mA (mnu (F 0)) (mrho (D 0) σ.length (F 0)) κ_tokF (mstat ++ ml_tokF))) _ _ ⟨HWs_make hm Hₚ, HT', gset_o hg0, PFI_mk (x0 := 0) hPF hGI hm hmk rfl hg0 rfl (by decide +kernel), ABS_mk (x0 := 0) (hv := []) hAB hhv rfl (by decide +kernel), NZ_make hm hNZ (by decide +kernel) (by decide +kernel) hg0, ⟨fun _ => gset_m rfl, fun h => gset_o (hGI.2.1 (gset_n h rfl)), fun h => gset_o (hGI.2.2.1 (gset_n h rfl)), fun h => gset_o (hGI.2.2.2.1 (gset_n h rfl)), fun h => gset_o (hGI.2.2.2.2 (gset_n h rfl))⟩, INV0_eq (EQD_out (by decide +kernel)) hI0, ?_, ?_, fun h => INV3_eq (EQD_out (by decide +kernel)) (hI3 (gset_n h rfl)), fun h => INV4_eq (EQD_out (by decide +kernel)) (hI4 (gset_n h rfl)), fun h => INV5_eq (EQD_out (by decide +kernel)) (hI5 (gset_n h rfl)), fun h => INV6_eq (EQD_out (by decide +kernel)) (hI6 (gset_n h rfl)), fun h => INV7_eq (EQD_out (by decide +kernel)) (hI7 (gset_n h rfl)), fun h => INV8_eq (EQD_out (by decide +kernel)) (hI8 (gset_n h rfl)), fun h => INV9_eq (EQD_out (by decide +kernel)) (hI9 (gset_f h))⟩ ⟨⟨ST2_make (x0 := 0) (f := F 0) (κ := κ_tokF) hm (by decide +kernel) hg0 kp hst hlen rfl rfl (by decide +kernel) (fun p hp hf => glu_s hf) vs_tokF.2.1, rfl, ?_, ?_⟩, rfl⟩ kp
    · intro _
      have n35 : (glu ι_tokF N (mN κ_tokF (mstat ++ ml_tokF))) 35 = 0 := (mN_at ce_tokF_3)
      have n36 : (glu ι_tokF N (mN κ_tokF (mstat ++ ml_tokF))) 36 = 0 := (mN_at ce_tokF_4)
      have n37 : (glu ι_tokF N (mN κ_tokF (mstat ++ ml_tokF))) 37 = 0 := (mN_at ce_tokF_5)
      have n38 : (glu ι_tokF N (mN κ_tokF (mstat ++ ml_tokF))) 38 = 0 := (mN_at ce_tokF_6)
      have n39 : (glu ι_tokF N (mN κ_tokF (mstat ++ ml_tokF))) 39 = 0 := (mN_at ce_tokF_7)
      have n40 : (glu ι_tokF N (mN κ_tokF (mstat ++ ml_tokF))) 40 = 0 := (mN_at ce_tokF_8)
      have f34_1 : (glu ι_tokF F (mFd (mnu (F 0)) (mrho (D 0) σ.length (F 0)) κ_tokF (mstat ++ ml_tokF))) 34 1 = 0 := (show (mFd (mnu (F 0)) (mrho (D 0) σ.length (F 0)) κ_tokF (mstat ++ ml_tokF)) 2 1 = 0 from (mFd_at (k := 1) ce_tokF_2).trans (show ((0 : Int32)).toInt = 0 by decide))
      exact ⟨show 0 ≤ ((glu ι_tokF F (mFd (mnu (F 0)) (mrho (D 0) σ.length (F 0)) κ_tokF (mstat ++ ml_tokF))) 34 1) ∧ ((glu ι_tokF F (mFd (mnu (F 0)) (mrho (D 0) σ.length (F 0)) κ_tokF (mstat ++ ml_tokF))) 34 1) ≤ ((((glu ι_tokF N (mN κ_tokF (mstat ++ ml_tokF))) 35 : Nat) : Int)) ∧ ((((glu ι_tokF N (mN κ_tokF (mstat ++ ml_tokF))) 35 : Nat) : Int)) ≤ 65536 from (by omega), show ((((glu ι_tokF N (mN κ_tokF (mstat ++ ml_tokF))) 39 : Nat) : Int)) = 0 ∨ ((((glu ι_tokF N (mN κ_tokF (mstat ++ ml_tokF))) 39 : Nat) : Int)) = 2048 from (by omega), show ((((glu ι_tokF N (mN κ_tokF (mstat ++ ml_tokF))) 40 : Nat) : Int)) ≤ 16384 from (by omega), show ((((glu ι_tokF N (mN κ_tokF (mstat ++ ml_tokF))) 36 : Nat) : Int)) = ((((glu ι_tokF N (mN κ_tokF (mstat ++ ml_tokF))) 37 : Nat) : Int)) ∧ ((((glu ι_tokF N (mN κ_tokF (mstat ++ ml_tokF))) 38 : Nat) : Int)) = ((((glu ι_tokF N (mN κ_tokF (mstat ++ ml_tokF))) 37 : Nat) : Int)) ∧ ((((glu ι_tokF N (mN κ_tokF (mstat ++ ml_tokF))) 37 : Nat) : Int)) ≤ 65536 ∧ (((((glu ι_tokF N (mN κ_tokF (mstat ++ ml_tokF))) 37 : Nat) : Int)) = 0 ∨ 64 ≤ ((((glu ι_tokF N (mN κ_tokF (mstat ++ ml_tokF))) 37 : Nat) : Int))) ∧ lgq (((((glu ι_tokF N (mN κ_tokF (mstat ++ ml_tokF))) 37 : Nat) : Int))) = 0 from (by try unfold lgq; omega)⟩
    · intro _
      have n43 : (glu ι_tokF N (mN κ_tokF (mstat ++ ml_tokF))) 43 = 0 := (mN_at ce_tokF_11)
      have f42_1 : (glu ι_tokF F (mFd (mnu (F 0)) (mrho (D 0) σ.length (F 0)) κ_tokF (mstat ++ ml_tokF))) 42 1 = 0 := (show (mFd (mnu (F 0)) (mrho (D 0) σ.length (F 0)) κ_tokF (mstat ++ ml_tokF)) 10 1 = 0 from (mFd_at (k := 1) ce_tokF_10).trans (show ((0 : Int32)).toInt = 0 by decide))
      exact show 0 ≤ ((glu ι_tokF F (mFd (mnu (F 0)) (mrho (D 0) σ.length (F 0)) κ_tokF (mstat ++ ml_tokF))) 42 1) ∧ ((glu ι_tokF F (mFd (mnu (F 0)) (mrho (D 0) σ.length (F 0)) κ_tokF (mstat ++ ml_tokF))) 42 1) ≤ ((((glu ι_tokF N (mN κ_tokF (mstat ++ ml_tokF))) 43 : Nat) : Int)) ∧ ((((glu ι_tokF N (mN κ_tokF (mstat ++ ml_tokF))) 43 : Nat) : Int)) ≤ 65536 from (by omega)
    · have := hr.1
      unfold PCg
      omega
    · have := hr.2
      unfold PSg
      omega
