/-! what is made, over the state -/
theorem ce_tok_2 : rat (mstat ++ ml_tok) (κ_tok.getD 2 0) = some (.inl (7, [.ref 14, .int 0, .int 0, .int 0, .int 0])) := (rat_mst (l := ml_tok) (i := 2)).trans rfl
theorem ce_tok_3 : rat (mstat ++ ml_tok) (κ_tok.getD 3 0) = some (.inr (0, 0, .int 0, [])) := (rat_mst (l := ml_tok) (i := 3)).trans rfl
set_option maxRecDepth 100000 in
theorem T_mk_tok {g : Nat → Bool} {σ : rS} {D N : Nat → Nat} {F : hF} {A : hA} {d c s : Nat} {Q : wQ} (X : PHI g σ D N F A) (hn2 : g 2 = false) (hg1 : g 1 = true) (k : ∀ (σₚ : rS) (Dₚ Nₚ : Nat → Nat) (Fₚ : hF) (Aₚ : hA) (cₚ sₚ : Nat), PHI (gset g [2]) σₚ Dₚ Nₚ Fₚ Aₚ → STP g σ D N A c s (gset g [2]) σₚ Dₚ Nₚ Aₚ cₚ sₚ → KEP g 0 D N F A Dₚ Nₚ Fₚ Aₚ → Q (some (.ref (Dₚ 41))) σₚ cₚ sₚ) : Ew 36 (d + 3) 0 (rargs 0 [.ref (D 0)]) [] σ c s Q := by
  rw [Nat.add_comm d 3]
  obtain ⟨HX, HT, hg0, hPF, hAB, hNZ, hGI, hI0, hI1, hI2, hI3, hI4, hI5, hI6, hI7, hI8, hI9⟩ := X
  have hq := SPH_not (g := g) (ι := ι_tok) (W := W_tok) (gs := [2]) (by intro j hj; simp at hj; subst hj; exact hn2) rfl (by decide +kernel)
  have hm : mkin ι_tok [2] = true := by decide +kernel
  have hmk : ∀ j ∈ ([2] : List Nat), g j = false := (by intro j hj; simp at hj; subst hj; exact hn2)
  have hhv : ∀ j ∈ ([1] : List Nat), g j = true := (by intro j hj; simp at hj; subst hj; exact hg1)
  refine mk_ev (V := VPH) (W := W_tok) (ι := ι_tok) (κ := κ_tok) (x0 := 0) ev_tok HX HT (by decide +kernel) hg0 rfl rfl fl_ok_tok ?_ VPH_3 vs_tok rfl rfl (kap_ok rfl (by decide +kernel)) mv_tok hq (fun σₚ Hₚ HT' hst hlen => ?_)
  · intro k hk
    have hk : k < 19 := hk
    rcases (show k = 0 ∨ k = 1 ∨ k = 2 ∨ k = 3 ∨ k = 4 ∨ k = 5 ∨ k = 6 ∨ k = 7 ∨ k = 8 ∨ k = 9 ∨ k = 10 ∨ k = 11 ∨ k = 12 ∨ k = 13 ∨ k = 14 ∨ k = 15 ∨ k = 16 ∨ k = 17 ∨ k = 18 by omega) with rfl | rfl | rfl | rfl | rfl | rfl | rfl | rfl | rfl | rfl | rfl | rfl | rfl | rfl | rfl | rfl | rfl | rfl | rfl
    · exact ⟨fun h => absurd h (by decide), fun _ => by have := (show F 0 0 = (D 1 : Int) from hPF (0, 0, 0, 1) (List.mem_of_getElem? (i := 0) rfl) hg0 hg0); omega⟩
    · exact ⟨fun h => absurd h (by decide), fun _ => by have := (show F 0 1 = (D 10 : Int) from hPF (0, 0, 1, 10) (List.mem_of_getElem? (i := 9) rfl) hg0 hg0); omega⟩
    · exact ⟨fun h => absurd h (by decide), fun _ => by have := (show F 0 2 = (D 11 : Int) from hPF (0, 0, 2, 11) (List.mem_of_getElem? (i := 10) rfl) hg0 hg0); omega⟩
    · exact ⟨fun h => absurd h (by decide), fun _ => by have := (show F 0 3 = (D 13 : Int) from hPF (0, 0, 3, 13) (List.mem_of_getElem? (i := 12) rfl) hg0 hg0); omega⟩
    · exact ⟨fun h => absurd h (by decide), fun _ => by have := (show F 0 4 = (D 19 : Int) from hPF (0, 0, 4, 19) (List.mem_of_getElem? (i := 18) rfl) hg0 hg0); omega⟩
    · exact ⟨fun h => absurd h (by decide), fun _ => by have := (show F 0 5 = (D 25 : Int) from hPF (0, 0, 5, 25) (List.mem_of_getElem? (i := 24) rfl) hg0 hg0); omega⟩
    · exact ⟨fun h => absurd h (by decide), fun _ => by have := (show F 0 6 = (D 27 : Int) from hPF (0, 0, 6, 27) (List.mem_of_getElem? (i := 26) rfl) hg0 hg0); omega⟩
    · exact ⟨fun h => absurd h (by decide), fun _ => by have := (show F 0 7 = (D 33 : Int) from hPF (0, 0, 7, 33) (List.mem_of_getElem? (i := 32) rfl) hg0 hg1); omega⟩
    · exact ⟨fun _ => hAB (2, 0, 8) (List.mem_of_getElem? (i := 1) rfl) hn2, fun h => absurd h (by decide)⟩
    · exact ⟨fun h => absurd h (by decide), fun h => absurd h (by decide)⟩
    · exact ⟨fun h => absurd h (by decide), fun h => absurd h (by decide)⟩
    · exact ⟨fun h => absurd h (by decide), fun h => absurd h (by decide)⟩
    · exact ⟨fun h => absurd h (by decide), fun h => absurd h (by decide)⟩
    · exact ⟨fun h => absurd h (by decide), fun _ => by have := (show F 0 13 = (D 29 : Int) from hPF (0, 0, 13, 29) (List.mem_of_getElem? (i := 28) rfl) hg0 hg0); omega⟩
    · exact ⟨fun h => absurd h (by decide), fun _ => by have := (show F 0 14 = (D 30 : Int) from hPF (0, 0, 14, 30) (List.mem_of_getElem? (i := 29) rfl) hg0 hg0); omega⟩
    · exact ⟨fun h => absurd h (by decide), fun _ => by have := (show F 0 15 = (D 31 : Int) from hPF (0, 0, 15, 31) (List.mem_of_getElem? (i := 30) rfl) hg0 hg0); omega⟩
    · exact ⟨fun h => absurd h (by decide), fun _ => by have := (show F 0 16 = (D 32 : Int) from hPF (0, 0, 16, 32) (List.mem_of_getElem? (i := 31) rfl) hg0 hg0); omega⟩
    · exact ⟨fun h => absurd h (by decide), fun h => absurd h (by decide)⟩
    · exact ⟨fun h => absurd h (by decide), fun h => absurd h (by decide)⟩
  · have kp : KEP g 0 D N F A (glu ι_tok D (fun x => (mrho (D 0) σ.length (F 0)) (κ_tok.getD x 0))) (glu ι_tok N (mN κ_tok (mstat ++ ml_tok))) (glu ι_tok F (mFd (mnu (F 0)) (mrho (D 0) σ.length (F 0)) κ_tok (mstat ++ ml_tok))) (glu ι_tok A (mA (mnu (F 0)) (mrho (D 0) σ.length (F 0)) κ_tok (mstat ++ ml_tok))) := KEP_make (fun x a b => hq x a b) rfl rfl
    have hr := RM_make hNZ (show SPH g 0 = true from hg0) rfl kp
    have e1 : gset g [2] 1 = g 1 := gset_e rfl
    have e2 : gset g [2] 2 = true := gset_m rfl
    have e3 : gset g [2] 3 = g 3 := gset_e rfl
    have e4 : gset g [2] 4 = g 4 := gset_e rfl
    have e5 : gset g [2] 5 = g 5 := gset_e rfl
    have e6 : gset g [2] 6 = g 6 := gset_e rfl
    have e7 : gset g [2] 7 = g 7 := gset_e rfl
    have e8 : gset g [2] 8 = g 8 := gset_e rfl
    have hKC : KC (gset g [2]) = KC g + 3 := by unfold KC; simp only [e1, e2, e3, e4, e5, e6, e7, e8, hn2, kadd_t, kadd_f]; omega
    have hKS : KS (gset g [2]) = KS g + 18 := by unfold KS; simp only [e1, e2, e3, e4, e5, e6, e7, e8, hn2, kadd_t, kadd_f]; omega
    refine k σₚ (glu ι_tok D (fun x => (mrho (D 0) σ.length (F 0)) (κ_tok.getD x 0))) (glu ι_tok N (mN κ_tok (mstat ++ ml_tok))) (glu ι_tok F (mFd (mnu (F 0)) (mrho (D 0) σ.length (F 0)) κ_tok (mstat ++ ml_tok))) (glu ι_tok A (mA (mnu (F 0)) (mrho (D 0) σ.length (F 0)) κ_tok (mstat ++ ml_tok))) _ _ ⟨HWs_make hm Hₚ, HT', gset_o hg0, PFI_mk (x0 := 0) hPF hGI hm hmk rfl hg0 rfl (by decide +kernel), ABS_mk (x0 := 0) (hv := [1]) hAB hhv rfl (by decide +kernel), NZ_make hm hNZ (by decide +kernel) (by decide +kernel) hg0, ⟨fun _ => gset_o hg1, fun h => gset_o (hGI.2.1 (gset_n h rfl)), fun h => gset_o (hGI.2.2.1 (gset_n h rfl)), fun h => gset_o (hGI.2.2.2.1 (gset_n h rfl)), fun h => gset_o (hGI.2.2.2.2 (gset_n h rfl))⟩, INV0_eq (EQD_out (by decide +kernel)) hI0, fun h => INV1_eq (EQD_out (by decide +kernel)) (hI1 (gset_n h rfl)), ?_, fun h => INV3_eq (EQD_out (by decide +kernel)) (hI3 (gset_n h rfl)), fun h => INV4_eq (EQD_out (by decide +kernel)) (hI4 (gset_n h rfl)), fun h => INV5_eq (EQD_out (by decide +kernel)) (hI5 (gset_n h rfl)), fun h => INV6_eq (EQD_out (by decide +kernel)) (hI6 (gset_n h rfl)), fun h => INV7_eq (EQD_out (by decide +kernel)) (hI7 (gset_n h rfl)), fun h => INV8_eq (EQD_out (by decide +kernel)) (hI8 (gset_n h rfl)), fun h => INV9_eq (EQD_out (by decide +kernel)) (hI9 (gset_f h))⟩ ⟨⟨ST2_make (x0 := 0) (f := F 0) (κ := κ_tok) hm (by decide +kernel) hg0 kp hst hlen rfl rfl (by decide +kernel) (fun p hp hf => glu_s hf) vs_tok.2.1, rfl, ?_, ?_⟩, rfl⟩ kp
    · intro _
      have n43 : (glu ι_tok N (mN κ_tok (mstat ++ ml_tok))) 43 = 0 := (mN_at ce_tok_3)
      have f42_1 : (glu ι_tok F (mFd (mnu (F 0)) (mrho (D 0) σ.length (F 0)) κ_tok (mstat ++ ml_tok))) 42 1 = 0 := (show (mFd (mnu (F 0)) (mrho (D 0) σ.length (F 0)) κ_tok (mstat ++ ml_tok)) 2 1 = 0 from (mFd_at (k := 1) ce_tok_2).trans (show ((0 : Int32)).toInt = 0 by decide))
      exact show 0 ≤ ((glu ι_tok F (mFd (mnu (F 0)) (mrho (D 0) σ.length (F 0)) κ_tok (mstat ++ ml_tok))) 42 1) ∧ ((glu ι_tok F (mFd (mnu (F 0)) (mrho (D 0) σ.length (F 0)) κ_tok (mstat ++ ml_tok))) 42 1) ≤ ((((glu ι_tok N (mN κ_tok (mstat ++ ml_tok))) 43 : Nat) : Int)) ∧ ((((glu ι_tok N (mN κ_tok (mstat ++ ml_tok))) 43 : Nat) : Int)) ≤ 65536 from (by omega)
    · have := hr.1
      unfold PCg
      omega
    · have := hr.2
      unfold PSg
      omega
