/-! what is made, over the state -/
theorem ce_par7_0 : rat (mstat ++ ml_par) (κ_par7.getD 0 0) = some (.inl (4, [.ref 1000, .ref 1001, .float 2, .ref 12, .ref 35])) := (rat_mst (l := ml_par) (i := 0)).trans rfl
theorem ce_par7_1 : rat (mstat ++ ml_par) (κ_par7.getD 1 0) = some (.inl (3, [.ref 13, .ref 14, .ref 15, .int 0, .ref 16, .ref 17, .ref 18, .ref 27, .ref 29, .ref 31, .ref 32, .ref 33, .ref 34, .int 0, .int 0, .int 0, .int 0])) := (rat_mst (l := ml_par) (i := 1)).trans rfl
theorem ce_par7_2 : rat (mstat ++ ml_par) (κ_par7.getD 2 0) = some (.inr (1, 256, .int 0, [])) := (rat_mst (l := ml_par) (i := 2)).trans rfl
theorem ce_par7_3 : rat (mstat ++ ml_par) (κ_par7.getD 3 0) = some (.inr (1, 256, .int 0, [])) := (rat_mst (l := ml_par) (i := 3)).trans rfl
theorem ce_par7_4 : rat (mstat ++ ml_par) (κ_par7.getD 4 0) = some (.inr (1, 2048, .int 0, [])) := (rat_mst (l := ml_par) (i := 4)).trans rfl
theorem ce_par7_5 : rat (mstat ++ ml_par) (κ_par7.getD 5 0) = some (.inr (1, 256, .int 0, [])) := (rat_mst (l := ml_par) (i := 5)).trans rfl
theorem ce_par7_6 : rat (mstat ++ ml_par) (κ_par7.getD 6 0) = some (.inr (1, 12, .int 0, [])) := (rat_mst (l := ml_par) (i := 6)).trans rfl
theorem ce_par7_7 : rat (mstat ++ ml_par) (κ_par7.getD 7 0) = some (.inl (8, [.int 0, .int 12, .ref 19, .ref 20, .ref 21, .ref 22, .ref 23, .ref 24, .ref 25, .ref 26, .null, .int 0, .int 0])) := (rat_mst (l := ml_par) (i := 7)).trans rfl
theorem ce_par7_8 : rat (mstat ++ ml_par) (κ_par7.getD 8 0) = some (.inr (1, 12, .int 0, [])) := (rat_mst (l := ml_par) (i := 8)).trans rfl
theorem ce_par7_9 : rat (mstat ++ ml_par) (κ_par7.getD 9 0) = some (.inr (1, 12, .int 0, [])) := (rat_mst (l := ml_par) (i := 9)).trans rfl
theorem ce_par7_10 : rat (mstat ++ ml_par) (κ_par7.getD 10 0) = some (.inr (1, 12, .int 0, [])) := (rat_mst (l := ml_par) (i := 10)).trans rfl
theorem ce_par7_11 : rat (mstat ++ ml_par) (κ_par7.getD 11 0) = some (.inr (1, 12, .int 0, [])) := (rat_mst (l := ml_par) (i := 11)).trans rfl
theorem ce_par7_12 : rat (mstat ++ ml_par) (κ_par7.getD 12 0) = some (.inr (1, 12, .int 0, [])) := (rat_mst (l := ml_par) (i := 12)).trans rfl
theorem ce_par7_13 : rat (mstat ++ ml_par) (κ_par7.getD 13 0) = some (.inr (1, 64, .int 0, [])) := (rat_mst (l := ml_par) (i := 13)).trans rfl
theorem ce_par7_14 : rat (mstat ++ ml_par) (κ_par7.getD 14 0) = some (.inr (1, 64, .int 0, [])) := (rat_mst (l := ml_par) (i := 14)).trans rfl
theorem ce_par7_15 : rat (mstat ++ ml_par) (κ_par7.getD 15 0) = some (.inr (1, 64, .int 0, [])) := (rat_mst (l := ml_par) (i := 15)).trans rfl
theorem ce_par7_16 : rat (mstat ++ ml_par) (κ_par7.getD 16 0) = some (.inl (7, [.ref 28, .int 0, .int 0, .int 0, .int 0])) := (rat_mst (l := ml_par) (i := 16)).trans rfl
theorem ce_par7_17 : rat (mstat ++ ml_par) (κ_par7.getD 17 0) = some (.inr (0, 0, .int 0, [])) := (rat_mst (l := ml_par) (i := 17)).trans rfl
theorem ce_par7_18 : rat (mstat ++ ml_par) (κ_par7.getD 18 0) = some (.inl (7, [.ref 30, .int 0, .int 0, .int 0, .int 0])) := (rat_mst (l := ml_par) (i := 18)).trans rfl
theorem ce_par7_19 : rat (mstat ++ ml_par) (κ_par7.getD 19 0) = some (.inr (0, 0, .int 0, [])) := (rat_mst (l := ml_par) (i := 19)).trans rfl
theorem ce_par7_20 : rat (mstat ++ ml_par) (κ_par7.getD 20 0) = some (.inl (2, [.null, .int 0, .int 0])) := (rat_mst (l := ml_par) (i := 20)).trans rfl
theorem ce_par7_21 : rat (mstat ++ ml_par) (κ_par7.getD 21 0) = some (.inr (1, 256, .int 0, [])) := (rat_mst (l := ml_par) (i := 21)).trans rfl
theorem ce_par7_22 : rat (mstat ++ ml_par) (κ_par7.getD 22 0) = some (.inr (1, 512, .int 0, [])) := (rat_mst (l := ml_par) (i := 22)).trans rfl
theorem ce_par7_23 : rat (mstat ++ ml_par) (κ_par7.getD 23 0) = some (.inr (1, 512, .int 0, [])) := (rat_mst (l := ml_par) (i := 23)).trans rfl
theorem ce_par7_24 : rat (mstat ++ ml_par) (κ_par7.getD 24 0) = some (.inr (5, 3, .null, [(0, .ref 36), (1, .ref 45), (2, .ref 54)])) := (rat_mst (l := ml_par) (i := 24)).trans rfl
theorem ce_par7_25 : rat (mstat ++ ml_par) (κ_par7.getD 25 0) = some (.inl (8, [.int 0, .int 36, .ref 37, .ref 38, .ref 39, .ref 40, .ref 41, .ref 42, .ref 43, .ref 44, .null, .int 0, .int 0])) := (rat_mst (l := ml_par) (i := 25)).trans rfl
theorem ce_par7_26 : rat (mstat ++ ml_par) (κ_par7.getD 26 0) = some (.inr (1, 36, .int 0, [])) := (rat_mst (l := ml_par) (i := 26)).trans rfl
theorem ce_par7_27 : rat (mstat ++ ml_par) (κ_par7.getD 27 0) = some (.inr (1, 36, .int 0, [])) := (rat_mst (l := ml_par) (i := 27)).trans rfl
theorem ce_par7_28 : rat (mstat ++ ml_par) (κ_par7.getD 28 0) = some (.inr (1, 36, .int 0, [])) := (rat_mst (l := ml_par) (i := 28)).trans rfl
theorem ce_par7_29 : rat (mstat ++ ml_par) (κ_par7.getD 29 0) = some (.inr (1, 36, .int 0, [])) := (rat_mst (l := ml_par) (i := 29)).trans rfl
theorem ce_par7_30 : rat (mstat ++ ml_par) (κ_par7.getD 30 0) = some (.inr (1, 36, .int 0, [])) := (rat_mst (l := ml_par) (i := 30)).trans rfl
theorem ce_par7_31 : rat (mstat ++ ml_par) (κ_par7.getD 31 0) = some (.inr (1, 512, .int 0, [])) := (rat_mst (l := ml_par) (i := 31)).trans rfl
theorem ce_par7_32 : rat (mstat ++ ml_par) (κ_par7.getD 32 0) = some (.inr (1, 512, .int 0, [])) := (rat_mst (l := ml_par) (i := 32)).trans rfl
theorem ce_par7_33 : rat (mstat ++ ml_par) (κ_par7.getD 33 0) = some (.inr (1, 512, .int 0, [])) := (rat_mst (l := ml_par) (i := 33)).trans rfl
theorem ce_par7_34 : rat (mstat ++ ml_par) (κ_par7.getD 34 0) = some (.inl (8, [.int 0, .int 32, .ref 46, .ref 47, .ref 48, .ref 49, .ref 50, .ref 51, .ref 52, .ref 53, .null, .int 0, .int 0])) := (rat_mst (l := ml_par) (i := 34)).trans rfl
theorem ce_par7_35 : rat (mstat ++ ml_par) (κ_par7.getD 35 0) = some (.inr (1, 32, .int 0, [])) := (rat_mst (l := ml_par) (i := 35)).trans rfl
theorem ce_par7_36 : rat (mstat ++ ml_par) (κ_par7.getD 36 0) = some (.inr (1, 32, .int 0, [])) := (rat_mst (l := ml_par) (i := 36)).trans rfl
theorem ce_par7_37 : rat (mstat ++ ml_par) (κ_par7.getD 37 0) = some (.inr (1, 32, .int 0, [])) := (rat_mst (l := ml_par) (i := 37)).trans rfl
theorem ce_par7_38 : rat (mstat ++ ml_par) (κ_par7.getD 38 0) = some (.inr (1, 32, .int 0, [])) := (rat_mst (l := ml_par) (i := 38)).trans rfl
theorem ce_par7_39 : rat (mstat ++ ml_par) (κ_par7.getD 39 0) = some (.inr (1, 32, .int 0, [])) := (rat_mst (l := ml_par) (i := 39)).trans rfl
theorem ce_par7_40 : rat (mstat ++ ml_par) (κ_par7.getD 40 0) = some (.inr (1, 256, .int 0, [])) := (rat_mst (l := ml_par) (i := 40)).trans rfl
theorem ce_par7_41 : rat (mstat ++ ml_par) (κ_par7.getD 41 0) = some (.inr (1, 256, .int 0, [])) := (rat_mst (l := ml_par) (i := 41)).trans rfl
theorem ce_par7_42 : rat (mstat ++ ml_par) (κ_par7.getD 42 0) = some (.inr (1, 256, .int 0, [])) := (rat_mst (l := ml_par) (i := 42)).trans rfl
theorem ce_par7_43 : rat (mstat ++ ml_par) (κ_par7.getD 43 0) = some (.inl (8, [.int 0, .int 53, .ref 55, .ref 56, .ref 57, .ref 58, .ref 59, .ref 60, .ref 61, .ref 62, .null, .int 0, .int 0])) := (rat_mst (l := ml_par) (i := 43)).trans rfl
theorem ce_par7_44 : rat (mstat ++ ml_par) (κ_par7.getD 44 0) = some (.inr (1, 53, .int 0, [])) := (rat_mst (l := ml_par) (i := 44)).trans rfl
theorem ce_par7_45 : rat (mstat ++ ml_par) (κ_par7.getD 45 0) = some (.inr (1, 53, .int 0, [])) := (rat_mst (l := ml_par) (i := 45)).trans rfl
theorem ce_par7_46 : rat (mstat ++ ml_par) (κ_par7.getD 46 0) = some (.inr (1, 53, .int 0, [])) := (rat_mst (l := ml_par) (i := 46)).trans rfl
theorem ce_par7_47 : rat (mstat ++ ml_par) (κ_par7.getD 47 0) = some (.inr (1, 53, .int 0, [])) := (rat_mst (l := ml_par) (i := 47)).trans rfl
theorem ce_par7_48 : rat (mstat ++ ml_par) (κ_par7.getD 48 0) = some (.inr (1, 53, .int 0, [])) := (rat_mst (l := ml_par) (i := 48)).trans rfl
theorem ce_par7_49 : rat (mstat ++ ml_par) (κ_par7.getD 49 0) = some (.inr (1, 512, .int 0, [])) := (rat_mst (l := ml_par) (i := 49)).trans rfl
theorem ce_par7_50 : rat (mstat ++ ml_par) (κ_par7.getD 50 0) = some (.inr (1, 512, .int 0, [])) := (rat_mst (l := ml_par) (i := 50)).trans rfl
theorem ce_par7_51 : rat (mstat ++ ml_par) (κ_par7.getD 51 0) = some (.inr (1, 512, .int 0, [])) := (rat_mst (l := ml_par) (i := 51)).trans rfl
theorem T_mk_par7 {g : Nat → Bool} {σ : rS} {D N : Nat → Nat} {F : hF} {A : hA} {d c s : Nat} {Q : wQ} (X : PHI g σ D N F A) (hg7 : g 7 = false) (hn3 : F 13 3 = -1) (hn4 : F 13 4 = -1) (k : ∀ (σ' : rS) (D' N' : Nat → Nat) (F' : hF) (A' : hA), PHI (gset g [7]) σ' D' N' F' A' → STY g σ D σ' D' → KEP g 13 D N F A D' N' F' A' → Q none σ' (c + 51) (s + 8890)) : Ew 116 (3 + d) 0 (rargs 0 [.ref (D 13)]) [] σ c s Q := by
  obtain ⟨HX, HT, hg0, hPF, hAB, hI0, hI1, hI2, hI3, hI4, hI5, hI6, hI7, hI8⟩ := X
  have hq := SPH_not (g := g) (ι := ι_par7) (W := W_par7) (gs := [7]) (by intro j hj; simp at hj; subst hj; exact hg7) rfl (by decide +kernel)
  refine mk_ev (V := VPH) (W := W_par7) (ι := ι_par7) (κ := κ_par7) (x0 := 13) ev_par HX HT (by decide +kernel) hg0 rfl rfl fl_ok_par7 ?_ VPH_3 vs_par7 rfl rfl (kap_ok rfl (by decide +kernel)) mv_par7 hq (fun σ' H' HT' hst hlen => ?_)
  · intro k hk
    have hk : k < 5 := hk
    rcases (show k = 0 ∨ k = 1 ∨ k = 2 ∨ k = 3 ∨ k = 4 by omega) with rfl | rfl | rfl | rfl | rfl
    · exact ⟨fun h => absurd h (by decide), fun _ => by have := (show F 13 0 = (D 14 : Int) from hPF (0, 13, 0, 14) (List.mem_of_getElem? (i := 13) rfl) hg0 hg0); omega⟩
    · exact ⟨fun h => absurd h (by decide), fun _ => by have := (show F 13 1 = (D 16 : Int) from hPF (0, 13, 1, 16) (List.mem_of_getElem? (i := 15) rfl) hg0 hg0); omega⟩
    · exact ⟨fun h => absurd h (by decide), fun h => absurd h (by decide)⟩
    · exact ⟨fun _ => hn3, fun h => absurd h (by decide)⟩
    · exact ⟨fun _ => hn4, fun h => absurd h (by decide)⟩
  · have kp : KEP g 13 D N F A (glu ι_par7 D (fun x => mrho (D 13) σ.length (F 13) (κ_par7.getD x 0))) (glu ι_par7 N (mN κ_par7 (mstat ++ ml_par))) (glu ι_par7 F (mFd (mnu (F 13)) (mrho (D 13) σ.length (F 13)) κ_par7 (mstat ++ ml_par))) (glu ι_par7 A (mA (mnu (F 13)) (mrho (D 13) σ.length (F 13)) κ_par7 (mstat ++ ml_par))) := KEP_make (fun x a b => hq x a b) rfl rfl
    refine k σ' _ _ _ _ ⟨HWs_make (by decide +kernel) H', HT', gset_o hg0, PFI_make (l := [(0, 0, 3, 13), (0, 13, 0, 14), (0, 13, 1, 16), (0, 13, 3, 259), (0, 259, 0, 260), (0, 259, 1, 261), (0, 259, 2, 262), (0, 259, 4, 263), (0, 259, 5, 264), (0, 259, 6, 265), (0, 265, 2, 266), (0, 265, 3, 267), (0, 265, 4, 268), (0, 265, 5, 269), (0, 265, 6, 270), (0, 265, 7, 271), (0, 265, 8, 272), (0, 265, 9, 273), (0, 259, 7, 274), (0, 274, 0, 275), (0, 259, 8, 276), (0, 276, 0, 277), (0, 259, 9, 278), (0, 259, 10, 279), (0, 259, 11, 280), (0, 259, 12, 281), (0, 13, 4, 282), (1, 282, 0, 283), (0, 283, 2, 284), (0, 283, 3, 285), (0, 283, 4, 286), (0, 283, 5, 287), (0, 283, 6, 288), (0, 283, 7, 289), (0, 283, 8, 290), (0, 283, 9, 291), (1, 282, 1, 292), (0, 292, 2, 293), (0, 292, 3, 294), (0, 292, 4, 295), (0, 292, 5, 296), (0, 292, 6, 297), (0, 292, 7, 298), (0, 292, 8, 299), (0, 292, 9, 300), (1, 282, 2, 301), (0, 301, 2, 302), (0, 301, 3, 303), (0, 301, 4, 304), (0, 301, 5, 305), (0, 301, 6, 306), (0, 301, 7, 307), (0, 301, 8, 308), (0, 301, 9, 309)]) hPF (by decide +kernel) (by decide +kernel) ?_, ABS_make hAB (by decide +kernel), hI0, fun h => hI1 (gset_n h rfl), fun h => hI2 (gset_n h rfl), fun h => hI3 (gset_n h rfl), fun h => hI4 (gset_n h rfl), fun h => hI5 (gset_n h rfl), fun h => hI6 (gset_n h rfl), ?_, fun h => hI8 (gset_n h rfl)⟩ (STY_make (x0 := 13) (by decide +kernel) (show SPH g 13 = true from hg0) kp hst hlen) kp
    · intro e he h1 h2
      simp only [List.mem_cons, List.not_mem_nil, or_false] at he
      rcases he with rfl | rfl | rfl | rfl | rfl | rfl | rfl | rfl | rfl | rfl | rfl | rfl | rfl | rfl | rfl | rfl | rfl | rfl | rfl | rfl | rfl | rfl | rfl | rfl | rfl | rfl | rfl | rfl | rfl | rfl | rfl | rfl | rfl | rfl | rfl | rfl | rfl | rfl | rfl | rfl | rfl | rfl | rfl | rfl | rfl | rfl | rfl | rfl | rfl | rfl | rfl | rfl | rfl | rfl
      · exact (show F 0 3 = (D 13 : Int) from hPF (0, 0, 3, 13) (List.mem_of_getElem? (i := 12) rfl) hg0 hg0)
      · show (mFd (mnu (F 13)) (mrho (D 13) σ.length (F 13)) κ_par7 (mstat ++ ml_par)) 0 0 = (D 14 : Int)
        rw [mFd_at ce_par7_0]
        show (((F 13 0).toNat : Nat) : Int) = (D 14 : Int)
        have := (show F 13 0 = (D 14 : Int) from hPF (0, 13, 0, 14) (List.mem_of_getElem? (i := 13) rfl) hg0 hg0)
        omega
      · show (mFd (mnu (F 13)) (mrho (D 13) σ.length (F 13)) κ_par7 (mstat ++ ml_par)) 0 1 = (D 16 : Int)
        rw [mFd_at ce_par7_0]
        show (((F 13 1).toNat : Nat) : Int) = (D 16 : Int)
        have := (show F 13 1 = (D 16 : Int) from hPF (0, 13, 1, 16) (List.mem_of_getElem? (i := 15) rfl) hg0 hg0)
        omega
      · show (mFd (mnu (F 13)) (mrho (D 13) σ.length (F 13)) κ_par7 (mstat ++ ml_par)) 0 3 = ((mrho (D 13) σ.length (F 13) 12 : Nat) : Int)
        rw [mFd_at ce_par7_0]
        rfl
      · show (mFd (mnu (F 13)) (mrho (D 13) σ.length (F 13)) κ_par7 (mstat ++ ml_par)) 1 0 = ((mrho (D 13) σ.length (F 13) 13 : Nat) : Int)
        rw [mFd_at ce_par7_1]
        rfl
      · show (mFd (mnu (F 13)) (mrho (D 13) σ.length (F 13)) κ_par7 (mstat ++ ml_par)) 1 1 = ((mrho (D 13) σ.length (F 13) 14 : Nat) : Int)
        rw [mFd_at ce_par7_1]
        rfl
      · show (mFd (mnu (F 13)) (mrho (D 13) σ.length (F 13)) κ_par7 (mstat ++ ml_par)) 1 2 = ((mrho (D 13) σ.length (F 13) 15 : Nat) : Int)
        rw [mFd_at ce_par7_1]
        rfl
      · show (mFd (mnu (F 13)) (mrho (D 13) σ.length (F 13)) κ_par7 (mstat ++ ml_par)) 1 4 = ((mrho (D 13) σ.length (F 13) 16 : Nat) : Int)
        rw [mFd_at ce_par7_1]
        rfl
      · show (mFd (mnu (F 13)) (mrho (D 13) σ.length (F 13)) κ_par7 (mstat ++ ml_par)) 1 5 = ((mrho (D 13) σ.length (F 13) 17 : Nat) : Int)
        rw [mFd_at ce_par7_1]
        rfl
      · show (mFd (mnu (F 13)) (mrho (D 13) σ.length (F 13)) κ_par7 (mstat ++ ml_par)) 1 6 = ((mrho (D 13) σ.length (F 13) 18 : Nat) : Int)
        rw [mFd_at ce_par7_1]
        rfl
      · show (mFd (mnu (F 13)) (mrho (D 13) σ.length (F 13)) κ_par7 (mstat ++ ml_par)) 7 2 = ((mrho (D 13) σ.length (F 13) 19 : Nat) : Int)
        rw [mFd_at ce_par7_7]
        rfl
      · show (mFd (mnu (F 13)) (mrho (D 13) σ.length (F 13)) κ_par7 (mstat ++ ml_par)) 7 3 = ((mrho (D 13) σ.length (F 13) 20 : Nat) : Int)
        rw [mFd_at ce_par7_7]
        rfl
      · show (mFd (mnu (F 13)) (mrho (D 13) σ.length (F 13)) κ_par7 (mstat ++ ml_par)) 7 4 = ((mrho (D 13) σ.length (F 13) 21 : Nat) : Int)
        rw [mFd_at ce_par7_7]
        rfl
      · show (mFd (mnu (F 13)) (mrho (D 13) σ.length (F 13)) κ_par7 (mstat ++ ml_par)) 7 5 = ((mrho (D 13) σ.length (F 13) 22 : Nat) : Int)
        rw [mFd_at ce_par7_7]
        rfl
      · show (mFd (mnu (F 13)) (mrho (D 13) σ.length (F 13)) κ_par7 (mstat ++ ml_par)) 7 6 = ((mrho (D 13) σ.length (F 13) 23 : Nat) : Int)
        rw [mFd_at ce_par7_7]
        rfl
      · show (mFd (mnu (F 13)) (mrho (D 13) σ.length (F 13)) κ_par7 (mstat ++ ml_par)) 7 7 = ((mrho (D 13) σ.length (F 13) 24 : Nat) : Int)
        rw [mFd_at ce_par7_7]
        rfl
      · show (mFd (mnu (F 13)) (mrho (D 13) σ.length (F 13)) κ_par7 (mstat ++ ml_par)) 7 8 = ((mrho (D 13) σ.length (F 13) 25 : Nat) : Int)
        rw [mFd_at ce_par7_7]
        rfl
      · show (mFd (mnu (F 13)) (mrho (D 13) σ.length (F 13)) κ_par7 (mstat ++ ml_par)) 7 9 = ((mrho (D 13) σ.length (F 13) 26 : Nat) : Int)
        rw [mFd_at ce_par7_7]
        rfl
      · show (mFd (mnu (F 13)) (mrho (D 13) σ.length (F 13)) κ_par7 (mstat ++ ml_par)) 1 7 = ((mrho (D 13) σ.length (F 13) 27 : Nat) : Int)
        rw [mFd_at ce_par7_1]
        rfl
      · show (mFd (mnu (F 13)) (mrho (D 13) σ.length (F 13)) κ_par7 (mstat ++ ml_par)) 16 0 = ((mrho (D 13) σ.length (F 13) 28 : Nat) : Int)
        rw [mFd_at ce_par7_16]
        rfl
      · show (mFd (mnu (F 13)) (mrho (D 13) σ.length (F 13)) κ_par7 (mstat ++ ml_par)) 1 8 = ((mrho (D 13) σ.length (F 13) 29 : Nat) : Int)
        rw [mFd_at ce_par7_1]
        rfl
      · show (mFd (mnu (F 13)) (mrho (D 13) σ.length (F 13)) κ_par7 (mstat ++ ml_par)) 18 0 = ((mrho (D 13) σ.length (F 13) 30 : Nat) : Int)
        rw [mFd_at ce_par7_18]
        rfl
      · show (mFd (mnu (F 13)) (mrho (D 13) σ.length (F 13)) κ_par7 (mstat ++ ml_par)) 1 9 = ((mrho (D 13) σ.length (F 13) 31 : Nat) : Int)
        rw [mFd_at ce_par7_1]
        rfl
      · show (mFd (mnu (F 13)) (mrho (D 13) σ.length (F 13)) κ_par7 (mstat ++ ml_par)) 1 10 = ((mrho (D 13) σ.length (F 13) 32 : Nat) : Int)
        rw [mFd_at ce_par7_1]
        rfl
      · show (mFd (mnu (F 13)) (mrho (D 13) σ.length (F 13)) κ_par7 (mstat ++ ml_par)) 1 11 = ((mrho (D 13) σ.length (F 13) 33 : Nat) : Int)
        rw [mFd_at ce_par7_1]
        rfl
      · show (mFd (mnu (F 13)) (mrho (D 13) σ.length (F 13)) κ_par7 (mstat ++ ml_par)) 1 12 = ((mrho (D 13) σ.length (F 13) 34 : Nat) : Int)
        rw [mFd_at ce_par7_1]
        rfl
      · show (mFd (mnu (F 13)) (mrho (D 13) σ.length (F 13)) κ_par7 (mstat ++ ml_par)) 0 4 = ((mrho (D 13) σ.length (F 13) 35 : Nat) : Int)
        rw [mFd_at ce_par7_0]
        rfl
      · show (mA (mnu (F 13)) (mrho (D 13) σ.length (F 13)) κ_par7 (mstat ++ ml_par)) 24 0 = ((mrho (D 13) σ.length (F 13) 36 : Nat) : Int)
        rw [mA_at ce_par7_24]
        rfl
      · show (mFd (mnu (F 13)) (mrho (D 13) σ.length (F 13)) κ_par7 (mstat ++ ml_par)) 25 2 = ((mrho (D 13) σ.length (F 13) 37 : Nat) : Int)
        rw [mFd_at ce_par7_25]
        rfl
      · show (mFd (mnu (F 13)) (mrho (D 13) σ.length (F 13)) κ_par7 (mstat ++ ml_par)) 25 3 = ((mrho (D 13) σ.length (F 13) 38 : Nat) : Int)
        rw [mFd_at ce_par7_25]
        rfl
      · show (mFd (mnu (F 13)) (mrho (D 13) σ.length (F 13)) κ_par7 (mstat ++ ml_par)) 25 4 = ((mrho (D 13) σ.length (F 13) 39 : Nat) : Int)
        rw [mFd_at ce_par7_25]
        rfl
      · show (mFd (mnu (F 13)) (mrho (D 13) σ.length (F 13)) κ_par7 (mstat ++ ml_par)) 25 5 = ((mrho (D 13) σ.length (F 13) 40 : Nat) : Int)
        rw [mFd_at ce_par7_25]
        rfl
      · show (mFd (mnu (F 13)) (mrho (D 13) σ.length (F 13)) κ_par7 (mstat ++ ml_par)) 25 6 = ((mrho (D 13) σ.length (F 13) 41 : Nat) : Int)
        rw [mFd_at ce_par7_25]
        rfl
      · show (mFd (mnu (F 13)) (mrho (D 13) σ.length (F 13)) κ_par7 (mstat ++ ml_par)) 25 7 = ((mrho (D 13) σ.length (F 13) 42 : Nat) : Int)
        rw [mFd_at ce_par7_25]
        rfl
      · show (mFd (mnu (F 13)) (mrho (D 13) σ.length (F 13)) κ_par7 (mstat ++ ml_par)) 25 8 = ((mrho (D 13) σ.length (F 13) 43 : Nat) : Int)
        rw [mFd_at ce_par7_25]
        rfl
      · show (mFd (mnu (F 13)) (mrho (D 13) σ.length (F 13)) κ_par7 (mstat ++ ml_par)) 25 9 = ((mrho (D 13) σ.length (F 13) 44 : Nat) : Int)
        rw [mFd_at ce_par7_25]
        rfl
      · show (mA (mnu (F 13)) (mrho (D 13) σ.length (F 13)) κ_par7 (mstat ++ ml_par)) 24 1 = ((mrho (D 13) σ.length (F 13) 45 : Nat) : Int)
        rw [mA_at ce_par7_24]
        rfl
      · show (mFd (mnu (F 13)) (mrho (D 13) σ.length (F 13)) κ_par7 (mstat ++ ml_par)) 34 2 = ((mrho (D 13) σ.length (F 13) 46 : Nat) : Int)
        rw [mFd_at ce_par7_34]
        rfl
      · show (mFd (mnu (F 13)) (mrho (D 13) σ.length (F 13)) κ_par7 (mstat ++ ml_par)) 34 3 = ((mrho (D 13) σ.length (F 13) 47 : Nat) : Int)
        rw [mFd_at ce_par7_34]
        rfl
      · show (mFd (mnu (F 13)) (mrho (D 13) σ.length (F 13)) κ_par7 (mstat ++ ml_par)) 34 4 = ((mrho (D 13) σ.length (F 13) 48 : Nat) : Int)
        rw [mFd_at ce_par7_34]
        rfl
      · show (mFd (mnu (F 13)) (mrho (D 13) σ.length (F 13)) κ_par7 (mstat ++ ml_par)) 34 5 = ((mrho (D 13) σ.length (F 13) 49 : Nat) : Int)
        rw [mFd_at ce_par7_34]
        rfl
      · show (mFd (mnu (F 13)) (mrho (D 13) σ.length (F 13)) κ_par7 (mstat ++ ml_par)) 34 6 = ((mrho (D 13) σ.length (F 13) 50 : Nat) : Int)
        rw [mFd_at ce_par7_34]
        rfl
      · show (mFd (mnu (F 13)) (mrho (D 13) σ.length (F 13)) κ_par7 (mstat ++ ml_par)) 34 7 = ((mrho (D 13) σ.length (F 13) 51 : Nat) : Int)
        rw [mFd_at ce_par7_34]
        rfl
      · show (mFd (mnu (F 13)) (mrho (D 13) σ.length (F 13)) κ_par7 (mstat ++ ml_par)) 34 8 = ((mrho (D 13) σ.length (F 13) 52 : Nat) : Int)
        rw [mFd_at ce_par7_34]
        rfl
      · show (mFd (mnu (F 13)) (mrho (D 13) σ.length (F 13)) κ_par7 (mstat ++ ml_par)) 34 9 = ((mrho (D 13) σ.length (F 13) 53 : Nat) : Int)
        rw [mFd_at ce_par7_34]
        rfl
      · show (mA (mnu (F 13)) (mrho (D 13) σ.length (F 13)) κ_par7 (mstat ++ ml_par)) 24 2 = ((mrho (D 13) σ.length (F 13) 54 : Nat) : Int)
        rw [mA_at ce_par7_24]
        rfl
      · show (mFd (mnu (F 13)) (mrho (D 13) σ.length (F 13)) κ_par7 (mstat ++ ml_par)) 43 2 = ((mrho (D 13) σ.length (F 13) 55 : Nat) : Int)
        rw [mFd_at ce_par7_43]
        rfl
      · show (mFd (mnu (F 13)) (mrho (D 13) σ.length (F 13)) κ_par7 (mstat ++ ml_par)) 43 3 = ((mrho (D 13) σ.length (F 13) 56 : Nat) : Int)
        rw [mFd_at ce_par7_43]
        rfl
      · show (mFd (mnu (F 13)) (mrho (D 13) σ.length (F 13)) κ_par7 (mstat ++ ml_par)) 43 4 = ((mrho (D 13) σ.length (F 13) 57 : Nat) : Int)
        rw [mFd_at ce_par7_43]
        rfl
      · show (mFd (mnu (F 13)) (mrho (D 13) σ.length (F 13)) κ_par7 (mstat ++ ml_par)) 43 5 = ((mrho (D 13) σ.length (F 13) 58 : Nat) : Int)
        rw [mFd_at ce_par7_43]
        rfl
      · show (mFd (mnu (F 13)) (mrho (D 13) σ.length (F 13)) κ_par7 (mstat ++ ml_par)) 43 6 = ((mrho (D 13) σ.length (F 13) 59 : Nat) : Int)
        rw [mFd_at ce_par7_43]
        rfl
      · show (mFd (mnu (F 13)) (mrho (D 13) σ.length (F 13)) κ_par7 (mstat ++ ml_par)) 43 7 = ((mrho (D 13) σ.length (F 13) 60 : Nat) : Int)
        rw [mFd_at ce_par7_43]
        rfl
      · show (mFd (mnu (F 13)) (mrho (D 13) σ.length (F 13)) κ_par7 (mstat ++ ml_par)) 43 8 = ((mrho (D 13) σ.length (F 13) 61 : Nat) : Int)
        rw [mFd_at ce_par7_43]
        rfl
      · show (mFd (mnu (F 13)) (mrho (D 13) σ.length (F 13)) κ_par7 (mstat ++ ml_par)) 43 9 = ((mrho (D 13) σ.length (F 13) 62 : Nat) : Int)
        rw [mFd_at ce_par7_43]
        rfl
    · intro _
      have n260 : (glu ι_par7 N (mN κ_par7 (mstat ++ ml_par))) 260 = 256 := (mN_at ce_par7_2)
      have n261 : (glu ι_par7 N (mN κ_par7 (mstat ++ ml_par))) 261 = 256 := (mN_at ce_par7_3)
      have n262 : (glu ι_par7 N (mN κ_par7 (mstat ++ ml_par))) 262 = 2048 := (mN_at ce_par7_4)
      have n263 : (glu ι_par7 N (mN κ_par7 (mstat ++ ml_par))) 263 = 256 := (mN_at ce_par7_5)
      have n264 : (glu ι_par7 N (mN κ_par7 (mstat ++ ml_par))) 264 = 12 := (mN_at ce_par7_6)
      have n266 : (glu ι_par7 N (mN κ_par7 (mstat ++ ml_par))) 266 = 12 := (mN_at ce_par7_8)
      have n267 : (glu ι_par7 N (mN κ_par7 (mstat ++ ml_par))) 267 = 12 := (mN_at ce_par7_9)
      have n268 : (glu ι_par7 N (mN κ_par7 (mstat ++ ml_par))) 268 = 12 := (mN_at ce_par7_10)
      have n269 : (glu ι_par7 N (mN κ_par7 (mstat ++ ml_par))) 269 = 12 := (mN_at ce_par7_11)
      have n270 : (glu ι_par7 N (mN κ_par7 (mstat ++ ml_par))) 270 = 12 := (mN_at ce_par7_12)
      have n271 : (glu ι_par7 N (mN κ_par7 (mstat ++ ml_par))) 271 = 64 := (mN_at ce_par7_13)
      have n272 : (glu ι_par7 N (mN κ_par7 (mstat ++ ml_par))) 272 = 64 := (mN_at ce_par7_14)
      have n273 : (glu ι_par7 N (mN κ_par7 (mstat ++ ml_par))) 273 = 64 := (mN_at ce_par7_15)
      have n279 : (glu ι_par7 N (mN κ_par7 (mstat ++ ml_par))) 279 = 256 := (mN_at ce_par7_21)
      have n280 : (glu ι_par7 N (mN κ_par7 (mstat ++ ml_par))) 280 = 512 := (mN_at ce_par7_22)
      have n281 : (glu ι_par7 N (mN κ_par7 (mstat ++ ml_par))) 281 = 512 := (mN_at ce_par7_23)
      have n282 : (glu ι_par7 N (mN κ_par7 (mstat ++ ml_par))) 282 = 3 := (mN_at ce_par7_24)
      have n284 : (glu ι_par7 N (mN κ_par7 (mstat ++ ml_par))) 284 = 36 := (mN_at ce_par7_26)
      have n285 : (glu ι_par7 N (mN κ_par7 (mstat ++ ml_par))) 285 = 36 := (mN_at ce_par7_27)
      have n286 : (glu ι_par7 N (mN κ_par7 (mstat ++ ml_par))) 286 = 36 := (mN_at ce_par7_28)
      have n287 : (glu ι_par7 N (mN κ_par7 (mstat ++ ml_par))) 287 = 36 := (mN_at ce_par7_29)
      have n288 : (glu ι_par7 N (mN κ_par7 (mstat ++ ml_par))) 288 = 36 := (mN_at ce_par7_30)
      have n289 : (glu ι_par7 N (mN κ_par7 (mstat ++ ml_par))) 289 = 512 := (mN_at ce_par7_31)
      have n290 : (glu ι_par7 N (mN κ_par7 (mstat ++ ml_par))) 290 = 512 := (mN_at ce_par7_32)
      have n291 : (glu ι_par7 N (mN κ_par7 (mstat ++ ml_par))) 291 = 512 := (mN_at ce_par7_33)
      have n293 : (glu ι_par7 N (mN κ_par7 (mstat ++ ml_par))) 293 = 32 := (mN_at ce_par7_35)
      have n294 : (glu ι_par7 N (mN κ_par7 (mstat ++ ml_par))) 294 = 32 := (mN_at ce_par7_36)
      have n295 : (glu ι_par7 N (mN κ_par7 (mstat ++ ml_par))) 295 = 32 := (mN_at ce_par7_37)
      have n296 : (glu ι_par7 N (mN κ_par7 (mstat ++ ml_par))) 296 = 32 := (mN_at ce_par7_38)
      have n297 : (glu ι_par7 N (mN κ_par7 (mstat ++ ml_par))) 297 = 32 := (mN_at ce_par7_39)
      have n298 : (glu ι_par7 N (mN κ_par7 (mstat ++ ml_par))) 298 = 256 := (mN_at ce_par7_40)
      have n299 : (glu ι_par7 N (mN κ_par7 (mstat ++ ml_par))) 299 = 256 := (mN_at ce_par7_41)
      have n300 : (glu ι_par7 N (mN κ_par7 (mstat ++ ml_par))) 300 = 256 := (mN_at ce_par7_42)
      have n302 : (glu ι_par7 N (mN κ_par7 (mstat ++ ml_par))) 302 = 53 := (mN_at ce_par7_44)
      have n303 : (glu ι_par7 N (mN κ_par7 (mstat ++ ml_par))) 303 = 53 := (mN_at ce_par7_45)
      have n304 : (glu ι_par7 N (mN κ_par7 (mstat ++ ml_par))) 304 = 53 := (mN_at ce_par7_46)
      have n305 : (glu ι_par7 N (mN κ_par7 (mstat ++ ml_par))) 305 = 53 := (mN_at ce_par7_47)
      have n306 : (glu ι_par7 N (mN κ_par7 (mstat ++ ml_par))) 306 = 53 := (mN_at ce_par7_48)
      have n307 : (glu ι_par7 N (mN κ_par7 (mstat ++ ml_par))) 307 = 512 := (mN_at ce_par7_49)
      have n308 : (glu ι_par7 N (mN κ_par7 (mstat ++ ml_par))) 308 = 512 := (mN_at ce_par7_50)
      have n309 : (glu ι_par7 N (mN κ_par7 (mstat ++ ml_par))) 309 = 512 := (mN_at ce_par7_51)
      have f265_1 : (glu ι_par7 F (mFd (mnu (F 13)) (mrho (D 13) σ.length (F 13)) κ_par7 (mstat ++ ml_par))) 265 1 = 12 := (show (mFd (mnu (F 13)) (mrho (D 13) σ.length (F 13)) κ_par7 (mstat ++ ml_par)) 7 1 = 12 from (mFd_at (k := 1) ce_par7_7).trans (show ((12 : Int32)).toInt = 12 by decide))
      have f283_1 : (glu ι_par7 F (mFd (mnu (F 13)) (mrho (D 13) σ.length (F 13)) κ_par7 (mstat ++ ml_par))) 283 1 = 36 := (show (mFd (mnu (F 13)) (mrho (D 13) σ.length (F 13)) κ_par7 (mstat ++ ml_par)) 25 1 = 36 from (mFd_at (k := 1) ce_par7_25).trans (show ((36 : Int32)).toInt = 36 by decide))
      have f292_1 : (glu ι_par7 F (mFd (mnu (F 13)) (mrho (D 13) σ.length (F 13)) κ_par7 (mstat ++ ml_par))) 292 1 = 32 := (show (mFd (mnu (F 13)) (mrho (D 13) σ.length (F 13)) κ_par7 (mstat ++ ml_par)) 34 1 = 32 from (mFd_at (k := 1) ce_par7_34).trans (show ((32 : Int32)).toInt = 32 by decide))
      have f301_1 : (glu ι_par7 F (mFd (mnu (F 13)) (mrho (D 13) σ.length (F 13)) κ_par7 (mstat ++ ml_par))) 301 1 = 53 := (show (mFd (mnu (F 13)) (mrho (D 13) σ.length (F 13)) κ_par7 (mstat ++ ml_par)) 43 1 = 53 from (mFd_at (k := 1) ce_par7_43).trans (show ((53 : Int32)).toInt = 53 by decide))
      exact ⟨show ((((glu ι_par7 N (mN κ_par7 (mstat ++ ml_par))) 282 : Nat) : Int)) = 3 from (by omega), show CDZD (((((glu ι_par7 N (mN κ_par7 (mstat ++ ml_par))) 260 : Nat) : Int))) (((((glu ι_par7 N (mN κ_par7 (mstat ++ ml_par))) 261 : Nat) : Int))) (((((glu ι_par7 N (mN κ_par7 (mstat ++ ml_par))) 262 : Nat) : Int))) (((((glu ι_par7 N (mN κ_par7 (mstat ++ ml_par))) 263 : Nat) : Int))) (((((glu ι_par7 N (mN κ_par7 (mstat ++ ml_par))) 264 : Nat) : Int))) (((((glu ι_par7 N (mN κ_par7 (mstat ++ ml_par))) 279 : Nat) : Int))) (((((glu ι_par7 N (mN κ_par7 (mstat ++ ml_par))) 280 : Nat) : Int))) (((((glu ι_par7 N (mN κ_par7 (mstat ++ ml_par))) 281 : Nat) : Int))) from (by unfold CDZD; omega), show SHZD (((((glu ι_par7 N (mN κ_par7 (mstat ++ ml_par))) 266 : Nat) : Int))) (((((glu ι_par7 N (mN κ_par7 (mstat ++ ml_par))) 267 : Nat) : Int))) (((((glu ι_par7 N (mN κ_par7 (mstat ++ ml_par))) 268 : Nat) : Int))) (((((glu ι_par7 N (mN κ_par7 (mstat ++ ml_par))) 269 : Nat) : Int))) (((((glu ι_par7 N (mN κ_par7 (mstat ++ ml_par))) 270 : Nat) : Int))) (((((glu ι_par7 N (mN κ_par7 (mstat ++ ml_par))) 271 : Nat) : Int))) (((((glu ι_par7 N (mN κ_par7 (mstat ++ ml_par))) 272 : Nat) : Int))) (((((glu ι_par7 N (mN κ_par7 (mstat ++ ml_par))) 273 : Nat) : Int))) (((glu ι_par7 F (mFd (mnu (F 13)) (mrho (D 13) σ.length (F 13)) κ_par7 (mstat ++ ml_par))) 265 1)) 12 64 from (by unfold SHZD; omega), show SHZD (((((glu ι_par7 N (mN κ_par7 (mstat ++ ml_par))) 284 : Nat) : Int))) (((((glu ι_par7 N (mN κ_par7 (mstat ++ ml_par))) 285 : Nat) : Int))) (((((glu ι_par7 N (mN κ_par7 (mstat ++ ml_par))) 286 : Nat) : Int))) (((((glu ι_par7 N (mN κ_par7 (mstat ++ ml_par))) 287 : Nat) : Int))) (((((glu ι_par7 N (mN κ_par7 (mstat ++ ml_par))) 288 : Nat) : Int))) (((((glu ι_par7 N (mN κ_par7 (mstat ++ ml_par))) 289 : Nat) : Int))) (((((glu ι_par7 N (mN κ_par7 (mstat ++ ml_par))) 290 : Nat) : Int))) (((((glu ι_par7 N (mN κ_par7 (mstat ++ ml_par))) 291 : Nat) : Int))) (((glu ι_par7 F (mFd (mnu (F 13)) (mrho (D 13) σ.length (F 13)) κ_par7 (mstat ++ ml_par))) 283 1)) 36 512 from (by unfold SHZD; omega), show SHZD (((((glu ι_par7 N (mN κ_par7 (mstat ++ ml_par))) 293 : Nat) : Int))) (((((glu ι_par7 N (mN κ_par7 (mstat ++ ml_par))) 294 : Nat) : Int))) (((((glu ι_par7 N (mN κ_par7 (mstat ++ ml_par))) 295 : Nat) : Int))) (((((glu ι_par7 N (mN κ_par7 (mstat ++ ml_par))) 296 : Nat) : Int))) (((((glu ι_par7 N (mN κ_par7 (mstat ++ ml_par))) 297 : Nat) : Int))) (((((glu ι_par7 N (mN κ_par7 (mstat ++ ml_par))) 298 : Nat) : Int))) (((((glu ι_par7 N (mN κ_par7 (mstat ++ ml_par))) 299 : Nat) : Int))) (((((glu ι_par7 N (mN κ_par7 (mstat ++ ml_par))) 300 : Nat) : Int))) (((glu ι_par7 F (mFd (mnu (F 13)) (mrho (D 13) σ.length (F 13)) κ_par7 (mstat ++ ml_par))) 292 1)) 32 256 from (by unfold SHZD; omega), show SHZD (((((glu ι_par7 N (mN κ_par7 (mstat ++ ml_par))) 302 : Nat) : Int))) (((((glu ι_par7 N (mN κ_par7 (mstat ++ ml_par))) 303 : Nat) : Int))) (((((glu ι_par7 N (mN κ_par7 (mstat ++ ml_par))) 304 : Nat) : Int))) (((((glu ι_par7 N (mN κ_par7 (mstat ++ ml_par))) 305 : Nat) : Int))) (((((glu ι_par7 N (mN κ_par7 (mstat ++ ml_par))) 306 : Nat) : Int))) (((((glu ι_par7 N (mN κ_par7 (mstat ++ ml_par))) 307 : Nat) : Int))) (((((glu ι_par7 N (mN κ_par7 (mstat ++ ml_par))) 308 : Nat) : Int))) (((((glu ι_par7 N (mN κ_par7 (mstat ++ ml_par))) 309 : Nat) : Int))) (((glu ι_par7 F (mFd (mnu (F 13)) (mrho (D 13) σ.length (F 13)) κ_par7 (mstat ++ ml_par))) 301 1)) 53 512 from (by unfold SHZD; omega), show CEL (((glu ι_par7 A (mA (mnu (F 13)) (mrho (D 13) σ.length (F 13)) κ_par7 (mstat ++ ml_par))) 262)) from fun i => (show 0 ≤ (mA (mnu (F 13)) (mrho (D 13) σ.length (F 13)) κ_par7 (mstat ++ ml_par)) 4 i ∧ (mA (mnu (F 13)) (mrho (D 13) σ.length (F 13)) κ_par7 (mstat ++ ml_par)) 4 i ≤ 3071 by rw [mA_at ce_par7_4]; exact (show 0 ≤ ((0 : Int32)).toInt ∧ ((0 : Int32)).toInt ≤ 3071 by decide))⟩
theorem ce_par8_0 : rat (mstat ++ ml_par) (κ_par8.getD 0 0) = some (.inl (4, [.ref 1000, .ref 1001, .float 2, .ref 12, .ref 35])) := (rat_mst (l := ml_par) (i := 0)).trans rfl
theorem ce_par8_1 : rat (mstat ++ ml_par) (κ_par8.getD 1 0) = some (.inl (3, [.ref 13, .ref 14, .ref 15, .int 0, .ref 16, .ref 17, .ref 18, .ref 27, .ref 29, .ref 31, .ref 32, .ref 33, .ref 34, .int 0, .int 0, .int 0, .int 0])) := (rat_mst (l := ml_par) (i := 1)).trans rfl
theorem ce_par8_2 : rat (mstat ++ ml_par) (κ_par8.getD 2 0) = some (.inr (1, 256, .int 0, [])) := (rat_mst (l := ml_par) (i := 2)).trans rfl
theorem ce_par8_3 : rat (mstat ++ ml_par) (κ_par8.getD 3 0) = some (.inr (1, 256, .int 0, [])) := (rat_mst (l := ml_par) (i := 3)).trans rfl
theorem ce_par8_4 : rat (mstat ++ ml_par) (κ_par8.getD 4 0) = some (.inr (1, 2048, .int 0, [])) := (rat_mst (l := ml_par) (i := 4)).trans rfl
theorem ce_par8_5 : rat (mstat ++ ml_par) (κ_par8.getD 5 0) = some (.inr (1, 256, .int 0, [])) := (rat_mst (l := ml_par) (i := 5)).trans rfl
theorem ce_par8_6 : rat (mstat ++ ml_par) (κ_par8.getD 6 0) = some (.inr (1, 12, .int 0, [])) := (rat_mst (l := ml_par) (i := 6)).trans rfl
theorem ce_par8_7 : rat (mstat ++ ml_par) (κ_par8.getD 7 0) = some (.inl (8, [.int 0, .int 12, .ref 19, .ref 20, .ref 21, .ref 22, .ref 23, .ref 24, .ref 25, .ref 26, .null, .int 0, .int 0])) := (rat_mst (l := ml_par) (i := 7)).trans rfl
theorem ce_par8_8 : rat (mstat ++ ml_par) (κ_par8.getD 8 0) = some (.inr (1, 12, .int 0, [])) := (rat_mst (l := ml_par) (i := 8)).trans rfl
theorem ce_par8_9 : rat (mstat ++ ml_par) (κ_par8.getD 9 0) = some (.inr (1, 12, .int 0, [])) := (rat_mst (l := ml_par) (i := 9)).trans rfl
theorem ce_par8_10 : rat (mstat ++ ml_par) (κ_par8.getD 10 0) = some (.inr (1, 12, .int 0, [])) := (rat_mst (l := ml_par) (i := 10)).trans rfl
theorem ce_par8_11 : rat (mstat ++ ml_par) (κ_par8.getD 11 0) = some (.inr (1, 12, .int 0, [])) := (rat_mst (l := ml_par) (i := 11)).trans rfl
theorem ce_par8_12 : rat (mstat ++ ml_par) (κ_par8.getD 12 0) = some (.inr (1, 12, .int 0, [])) := (rat_mst (l := ml_par) (i := 12)).trans rfl
theorem ce_par8_13 : rat (mstat ++ ml_par) (κ_par8.getD 13 0) = some (.inr (1, 64, .int 0, [])) := (rat_mst (l := ml_par) (i := 13)).trans rfl
theorem ce_par8_14 : rat (mstat ++ ml_par) (κ_par8.getD 14 0) = some (.inr (1, 64, .int 0, [])) := (rat_mst (l := ml_par) (i := 14)).trans rfl
theorem ce_par8_15 : rat (mstat ++ ml_par) (κ_par8.getD 15 0) = some (.inr (1, 64, .int 0, [])) := (rat_mst (l := ml_par) (i := 15)).trans rfl
theorem ce_par8_16 : rat (mstat ++ ml_par) (κ_par8.getD 16 0) = some (.inl (7, [.ref 28, .int 0, .int 0, .int 0, .int 0])) := (rat_mst (l := ml_par) (i := 16)).trans rfl
theorem ce_par8_17 : rat (mstat ++ ml_par) (κ_par8.getD 17 0) = some (.inr (0, 0, .int 0, [])) := (rat_mst (l := ml_par) (i := 17)).trans rfl
theorem ce_par8_18 : rat (mstat ++ ml_par) (κ_par8.getD 18 0) = some (.inl (7, [.ref 30, .int 0, .int 0, .int 0, .int 0])) := (rat_mst (l := ml_par) (i := 18)).trans rfl
theorem ce_par8_19 : rat (mstat ++ ml_par) (κ_par8.getD 19 0) = some (.inr (0, 0, .int 0, [])) := (rat_mst (l := ml_par) (i := 19)).trans rfl
theorem ce_par8_20 : rat (mstat ++ ml_par) (κ_par8.getD 20 0) = some (.inl (2, [.null, .int 0, .int 0])) := (rat_mst (l := ml_par) (i := 20)).trans rfl
theorem ce_par8_21 : rat (mstat ++ ml_par) (κ_par8.getD 21 0) = some (.inr (1, 256, .int 0, [])) := (rat_mst (l := ml_par) (i := 21)).trans rfl
theorem ce_par8_22 : rat (mstat ++ ml_par) (κ_par8.getD 22 0) = some (.inr (1, 512, .int 0, [])) := (rat_mst (l := ml_par) (i := 22)).trans rfl
theorem ce_par8_23 : rat (mstat ++ ml_par) (κ_par8.getD 23 0) = some (.inr (1, 512, .int 0, [])) := (rat_mst (l := ml_par) (i := 23)).trans rfl
theorem ce_par8_24 : rat (mstat ++ ml_par) (κ_par8.getD 24 0) = some (.inr (5, 3, .null, [(0, .ref 36), (1, .ref 45), (2, .ref 54)])) := (rat_mst (l := ml_par) (i := 24)).trans rfl
theorem ce_par8_25 : rat (mstat ++ ml_par) (κ_par8.getD 25 0) = some (.inl (8, [.int 0, .int 36, .ref 37, .ref 38, .ref 39, .ref 40, .ref 41, .ref 42, .ref 43, .ref 44, .null, .int 0, .int 0])) := (rat_mst (l := ml_par) (i := 25)).trans rfl
theorem ce_par8_26 : rat (mstat ++ ml_par) (κ_par8.getD 26 0) = some (.inr (1, 36, .int 0, [])) := (rat_mst (l := ml_par) (i := 26)).trans rfl
theorem ce_par8_27 : rat (mstat ++ ml_par) (κ_par8.getD 27 0) = some (.inr (1, 36, .int 0, [])) := (rat_mst (l := ml_par) (i := 27)).trans rfl
theorem ce_par8_28 : rat (mstat ++ ml_par) (κ_par8.getD 28 0) = some (.inr (1, 36, .int 0, [])) := (rat_mst (l := ml_par) (i := 28)).trans rfl
theorem ce_par8_29 : rat (mstat ++ ml_par) (κ_par8.getD 29 0) = some (.inr (1, 36, .int 0, [])) := (rat_mst (l := ml_par) (i := 29)).trans rfl
theorem ce_par8_30 : rat (mstat ++ ml_par) (κ_par8.getD 30 0) = some (.inr (1, 36, .int 0, [])) := (rat_mst (l := ml_par) (i := 30)).trans rfl
theorem ce_par8_31 : rat (mstat ++ ml_par) (κ_par8.getD 31 0) = some (.inr (1, 512, .int 0, [])) := (rat_mst (l := ml_par) (i := 31)).trans rfl
theorem ce_par8_32 : rat (mstat ++ ml_par) (κ_par8.getD 32 0) = some (.inr (1, 512, .int 0, [])) := (rat_mst (l := ml_par) (i := 32)).trans rfl
theorem ce_par8_33 : rat (mstat ++ ml_par) (κ_par8.getD 33 0) = some (.inr (1, 512, .int 0, [])) := (rat_mst (l := ml_par) (i := 33)).trans rfl
theorem ce_par8_34 : rat (mstat ++ ml_par) (κ_par8.getD 34 0) = some (.inl (8, [.int 0, .int 32, .ref 46, .ref 47, .ref 48, .ref 49, .ref 50, .ref 51, .ref 52, .ref 53, .null, .int 0, .int 0])) := (rat_mst (l := ml_par) (i := 34)).trans rfl
theorem ce_par8_35 : rat (mstat ++ ml_par) (κ_par8.getD 35 0) = some (.inr (1, 32, .int 0, [])) := (rat_mst (l := ml_par) (i := 35)).trans rfl
theorem ce_par8_36 : rat (mstat ++ ml_par) (κ_par8.getD 36 0) = some (.inr (1, 32, .int 0, [])) := (rat_mst (l := ml_par) (i := 36)).trans rfl
theorem ce_par8_37 : rat (mstat ++ ml_par) (κ_par8.getD 37 0) = some (.inr (1, 32, .int 0, [])) := (rat_mst (l := ml_par) (i := 37)).trans rfl
theorem ce_par8_38 : rat (mstat ++ ml_par) (κ_par8.getD 38 0) = some (.inr (1, 32, .int 0, [])) := (rat_mst (l := ml_par) (i := 38)).trans rfl
theorem ce_par8_39 : rat (mstat ++ ml_par) (κ_par8.getD 39 0) = some (.inr (1, 32, .int 0, [])) := (rat_mst (l := ml_par) (i := 39)).trans rfl
theorem ce_par8_40 : rat (mstat ++ ml_par) (κ_par8.getD 40 0) = some (.inr (1, 256, .int 0, [])) := (rat_mst (l := ml_par) (i := 40)).trans rfl
theorem ce_par8_41 : rat (mstat ++ ml_par) (κ_par8.getD 41 0) = some (.inr (1, 256, .int 0, [])) := (rat_mst (l := ml_par) (i := 41)).trans rfl
theorem ce_par8_42 : rat (mstat ++ ml_par) (κ_par8.getD 42 0) = some (.inr (1, 256, .int 0, [])) := (rat_mst (l := ml_par) (i := 42)).trans rfl
theorem ce_par8_43 : rat (mstat ++ ml_par) (κ_par8.getD 43 0) = some (.inl (8, [.int 0, .int 53, .ref 55, .ref 56, .ref 57, .ref 58, .ref 59, .ref 60, .ref 61, .ref 62, .null, .int 0, .int 0])) := (rat_mst (l := ml_par) (i := 43)).trans rfl
theorem ce_par8_44 : rat (mstat ++ ml_par) (κ_par8.getD 44 0) = some (.inr (1, 53, .int 0, [])) := (rat_mst (l := ml_par) (i := 44)).trans rfl
theorem ce_par8_45 : rat (mstat ++ ml_par) (κ_par8.getD 45 0) = some (.inr (1, 53, .int 0, [])) := (rat_mst (l := ml_par) (i := 45)).trans rfl
theorem ce_par8_46 : rat (mstat ++ ml_par) (κ_par8.getD 46 0) = some (.inr (1, 53, .int 0, [])) := (rat_mst (l := ml_par) (i := 46)).trans rfl
theorem ce_par8_47 : rat (mstat ++ ml_par) (κ_par8.getD 47 0) = some (.inr (1, 53, .int 0, [])) := (rat_mst (l := ml_par) (i := 47)).trans rfl
theorem ce_par8_48 : rat (mstat ++ ml_par) (κ_par8.getD 48 0) = some (.inr (1, 53, .int 0, [])) := (rat_mst (l := ml_par) (i := 48)).trans rfl
theorem ce_par8_49 : rat (mstat ++ ml_par) (κ_par8.getD 49 0) = some (.inr (1, 512, .int 0, [])) := (rat_mst (l := ml_par) (i := 49)).trans rfl
theorem ce_par8_50 : rat (mstat ++ ml_par) (κ_par8.getD 50 0) = some (.inr (1, 512, .int 0, [])) := (rat_mst (l := ml_par) (i := 50)).trans rfl
theorem ce_par8_51 : rat (mstat ++ ml_par) (κ_par8.getD 51 0) = some (.inr (1, 512, .int 0, [])) := (rat_mst (l := ml_par) (i := 51)).trans rfl
theorem T_mk_par8 {g : Nat → Bool} {σ : rS} {D N : Nat → Nat} {F : hF} {A : hA} {d c s : Nat} {Q : wQ} (X : PHI g σ D N F A) (hg8 : g 8 = false) (hn3 : F 19 3 = -1) (hn4 : F 19 4 = -1) (k : ∀ (σ' : rS) (D' N' : Nat → Nat) (F' : hF) (A' : hA), PHI (gset g [8]) σ' D' N' F' A' → STY g σ D σ' D' → KEP g 19 D N F A D' N' F' A' → Q none σ' (c + 51) (s + 8890)) : Ew 116 (3 + d) 0 (rargs 0 [.ref (D 19)]) [] σ c s Q := by
  obtain ⟨HX, HT, hg0, hPF, hAB, hI0, hI1, hI2, hI3, hI4, hI5, hI6, hI7, hI8⟩ := X
  have hq := SPH_not (g := g) (ι := ι_par8) (W := W_par8) (gs := [8]) (by intro j hj; simp at hj; subst hj; exact hg8) rfl (by decide +kernel)
  refine mk_ev (V := VPH) (W := W_par8) (ι := ι_par8) (κ := κ_par8) (x0 := 19) ev_par HX HT (by decide +kernel) hg0 rfl rfl fl_ok_par8 ?_ VPH_3 vs_par8 rfl rfl (kap_ok rfl (by decide +kernel)) mv_par8 hq (fun σ' H' HT' hst hlen => ?_)
  · intro k hk
    have hk : k < 5 := hk
    rcases (show k = 0 ∨ k = 1 ∨ k = 2 ∨ k = 3 ∨ k = 4 by omega) with rfl | rfl | rfl | rfl | rfl
    · exact ⟨fun h => absurd h (by decide), fun _ => by have := (show F 19 0 = (D 20 : Int) from hPF (0, 19, 0, 20) (List.mem_of_getElem? (i := 19) rfl) hg0 hg0); omega⟩
    · exact ⟨fun h => absurd h (by decide), fun _ => by have := (show F 19 1 = (D 22 : Int) from hPF (0, 19, 1, 22) (List.mem_of_getElem? (i := 21) rfl) hg0 hg0); omega⟩
    · exact ⟨fun h => absurd h (by decide), fun h => absurd h (by decide)⟩
    · exact ⟨fun _ => hn3, fun h => absurd h (by decide)⟩
    · exact ⟨fun _ => hn4, fun h => absurd h (by decide)⟩
  · have kp : KEP g 19 D N F A (glu ι_par8 D (fun x => mrho (D 19) σ.length (F 19) (κ_par8.getD x 0))) (glu ι_par8 N (mN κ_par8 (mstat ++ ml_par))) (glu ι_par8 F (mFd (mnu (F 19)) (mrho (D 19) σ.length (F 19)) κ_par8 (mstat ++ ml_par))) (glu ι_par8 A (mA (mnu (F 19)) (mrho (D 19) σ.length (F 19)) κ_par8 (mstat ++ ml_par))) := KEP_make (fun x a b => hq x a b) rfl rfl
    refine k σ' _ _ _ _ ⟨HWs_make (by decide +kernel) H', HT', gset_o hg0, PFI_make (l := [(0, 0, 4, 19), (0, 19, 0, 20), (0, 19, 1, 22), (0, 19, 3, 310), (0, 310, 0, 311), (0, 310, 1, 312), (0, 310, 2, 313), (0, 310, 4, 314), (0, 310, 5, 315), (0, 310, 6, 316), (0, 316, 2, 317), (0, 316, 3, 318), (0, 316, 4, 319), (0, 316, 5, 320), (0, 316, 6, 321), (0, 316, 7, 322), (0, 316, 8, 323), (0, 316, 9, 324), (0, 310, 7, 325), (0, 325, 0, 326), (0, 310, 8, 327), (0, 327, 0, 328), (0, 310, 9, 329), (0, 310, 10, 330), (0, 310, 11, 331), (0, 310, 12, 332), (0, 19, 4, 333), (1, 333, 0, 334), (0, 334, 2, 335), (0, 334, 3, 336), (0, 334, 4, 337), (0, 334, 5, 338), (0, 334, 6, 339), (0, 334, 7, 340), (0, 334, 8, 341), (0, 334, 9, 342), (1, 333, 1, 343), (0, 343, 2, 344), (0, 343, 3, 345), (0, 343, 4, 346), (0, 343, 5, 347), (0, 343, 6, 348), (0, 343, 7, 349), (0, 343, 8, 350), (0, 343, 9, 351), (1, 333, 2, 352), (0, 352, 2, 353), (0, 352, 3, 354), (0, 352, 4, 355), (0, 352, 5, 356), (0, 352, 6, 357), (0, 352, 7, 358), (0, 352, 8, 359), (0, 352, 9, 360)]) hPF (by decide +kernel) (by decide +kernel) ?_, ABS_make hAB (by decide +kernel), hI0, fun h => hI1 (gset_n h rfl), fun h => hI2 (gset_n h rfl), fun h => hI3 (gset_n h rfl), fun h => hI4 (gset_n h rfl), fun h => hI5 (gset_n h rfl), fun h => hI6 (gset_n h rfl), fun h => hI7 (gset_n h rfl), ?_⟩ (STY_make (x0 := 19) (by decide +kernel) (show SPH g 19 = true from hg0) kp hst hlen) kp
    · intro e he h1 h2
      simp only [List.mem_cons, List.not_mem_nil, or_false] at he
      rcases he with rfl | rfl | rfl | rfl | rfl | rfl | rfl | rfl | rfl | rfl | rfl | rfl | rfl | rfl | rfl | rfl | rfl | rfl | rfl | rfl | rfl | rfl | rfl | rfl | rfl | rfl | rfl | rfl | rfl | rfl | rfl | rfl | rfl | rfl | rfl | rfl | rfl | rfl | rfl | rfl | rfl | rfl | rfl | rfl | rfl | rfl | rfl | rfl | rfl | rfl | rfl | rfl | rfl | rfl
      · exact (show F 0 4 = (D 19 : Int) from hPF (0, 0, 4, 19) (List.mem_of_getElem? (i := 18) rfl) hg0 hg0)
      · show (mFd (mnu (F 19)) (mrho (D 19) σ.length (F 19)) κ_par8 (mstat ++ ml_par)) 0 0 = (D 20 : Int)
        rw [mFd_at ce_par8_0]
        show (((F 19 0).toNat : Nat) : Int) = (D 20 : Int)
        have := (show F 19 0 = (D 20 : Int) from hPF (0, 19, 0, 20) (List.mem_of_getElem? (i := 19) rfl) hg0 hg0)
        omega
      · show (mFd (mnu (F 19)) (mrho (D 19) σ.length (F 19)) κ_par8 (mstat ++ ml_par)) 0 1 = (D 22 : Int)
        rw [mFd_at ce_par8_0]
        show (((F 19 1).toNat : Nat) : Int) = (D 22 : Int)
        have := (show F 19 1 = (D 22 : Int) from hPF (0, 19, 1, 22) (List.mem_of_getElem? (i := 21) rfl) hg0 hg0)
        omega
      · show (mFd (mnu (F 19)) (mrho (D 19) σ.length (F 19)) κ_par8 (mstat ++ ml_par)) 0 3 = ((mrho (D 19) σ.length (F 19) 12 : Nat) : Int)
        rw [mFd_at ce_par8_0]
        rfl
      · show (mFd (mnu (F 19)) (mrho (D 19) σ.length (F 19)) κ_par8 (mstat ++ ml_par)) 1 0 = ((mrho (D 19) σ.length (F 19) 13 : Nat) : Int)
        rw [mFd_at ce_par8_1]
        rfl
      · show (mFd (mnu (F 19)) (mrho (D 19) σ.length (F 19)) κ_par8 (mstat ++ ml_par)) 1 1 = ((mrho (D 19) σ.length (F 19) 14 : Nat) : Int)
        rw [mFd_at ce_par8_1]
        rfl
      · show (mFd (mnu (F 19)) (mrho (D 19) σ.length (F 19)) κ_par8 (mstat ++ ml_par)) 1 2 = ((mrho (D 19) σ.length (F 19) 15 : Nat) : Int)
        rw [mFd_at ce_par8_1]
        rfl
      · show (mFd (mnu (F 19)) (mrho (D 19) σ.length (F 19)) κ_par8 (mstat ++ ml_par)) 1 4 = ((mrho (D 19) σ.length (F 19) 16 : Nat) : Int)
        rw [mFd_at ce_par8_1]
        rfl
      · show (mFd (mnu (F 19)) (mrho (D 19) σ.length (F 19)) κ_par8 (mstat ++ ml_par)) 1 5 = ((mrho (D 19) σ.length (F 19) 17 : Nat) : Int)
        rw [mFd_at ce_par8_1]
        rfl
      · show (mFd (mnu (F 19)) (mrho (D 19) σ.length (F 19)) κ_par8 (mstat ++ ml_par)) 1 6 = ((mrho (D 19) σ.length (F 19) 18 : Nat) : Int)
        rw [mFd_at ce_par8_1]
        rfl
      · show (mFd (mnu (F 19)) (mrho (D 19) σ.length (F 19)) κ_par8 (mstat ++ ml_par)) 7 2 = ((mrho (D 19) σ.length (F 19) 19 : Nat) : Int)
        rw [mFd_at ce_par8_7]
        rfl
      · show (mFd (mnu (F 19)) (mrho (D 19) σ.length (F 19)) κ_par8 (mstat ++ ml_par)) 7 3 = ((mrho (D 19) σ.length (F 19) 20 : Nat) : Int)
        rw [mFd_at ce_par8_7]
        rfl
      · show (mFd (mnu (F 19)) (mrho (D 19) σ.length (F 19)) κ_par8 (mstat ++ ml_par)) 7 4 = ((mrho (D 19) σ.length (F 19) 21 : Nat) : Int)
        rw [mFd_at ce_par8_7]
        rfl
      · show (mFd (mnu (F 19)) (mrho (D 19) σ.length (F 19)) κ_par8 (mstat ++ ml_par)) 7 5 = ((mrho (D 19) σ.length (F 19) 22 : Nat) : Int)
        rw [mFd_at ce_par8_7]
        rfl
      · show (mFd (mnu (F 19)) (mrho (D 19) σ.length (F 19)) κ_par8 (mstat ++ ml_par)) 7 6 = ((mrho (D 19) σ.length (F 19) 23 : Nat) : Int)
        rw [mFd_at ce_par8_7]
        rfl
      · show (mFd (mnu (F 19)) (mrho (D 19) σ.length (F 19)) κ_par8 (mstat ++ ml_par)) 7 7 = ((mrho (D 19) σ.length (F 19) 24 : Nat) : Int)
        rw [mFd_at ce_par8_7]
        rfl
      · show (mFd (mnu (F 19)) (mrho (D 19) σ.length (F 19)) κ_par8 (mstat ++ ml_par)) 7 8 = ((mrho (D 19) σ.length (F 19) 25 : Nat) : Int)
        rw [mFd_at ce_par8_7]
        rfl
      · show (mFd (mnu (F 19)) (mrho (D 19) σ.length (F 19)) κ_par8 (mstat ++ ml_par)) 7 9 = ((mrho (D 19) σ.length (F 19) 26 : Nat) : Int)
        rw [mFd_at ce_par8_7]
        rfl
      · show (mFd (mnu (F 19)) (mrho (D 19) σ.length (F 19)) κ_par8 (mstat ++ ml_par)) 1 7 = ((mrho (D 19) σ.length (F 19) 27 : Nat) : Int)
        rw [mFd_at ce_par8_1]
        rfl
      · show (mFd (mnu (F 19)) (mrho (D 19) σ.length (F 19)) κ_par8 (mstat ++ ml_par)) 16 0 = ((mrho (D 19) σ.length (F 19) 28 : Nat) : Int)
        rw [mFd_at ce_par8_16]
        rfl
      · show (mFd (mnu (F 19)) (mrho (D 19) σ.length (F 19)) κ_par8 (mstat ++ ml_par)) 1 8 = ((mrho (D 19) σ.length (F 19) 29 : Nat) : Int)
        rw [mFd_at ce_par8_1]
        rfl
      · show (mFd (mnu (F 19)) (mrho (D 19) σ.length (F 19)) κ_par8 (mstat ++ ml_par)) 18 0 = ((mrho (D 19) σ.length (F 19) 30 : Nat) : Int)
        rw [mFd_at ce_par8_18]
        rfl
      · show (mFd (mnu (F 19)) (mrho (D 19) σ.length (F 19)) κ_par8 (mstat ++ ml_par)) 1 9 = ((mrho (D 19) σ.length (F 19) 31 : Nat) : Int)
        rw [mFd_at ce_par8_1]
        rfl
      · show (mFd (mnu (F 19)) (mrho (D 19) σ.length (F 19)) κ_par8 (mstat ++ ml_par)) 1 10 = ((mrho (D 19) σ.length (F 19) 32 : Nat) : Int)
        rw [mFd_at ce_par8_1]
        rfl
      · show (mFd (mnu (F 19)) (mrho (D 19) σ.length (F 19)) κ_par8 (mstat ++ ml_par)) 1 11 = ((mrho (D 19) σ.length (F 19) 33 : Nat) : Int)
        rw [mFd_at ce_par8_1]
        rfl
      · show (mFd (mnu (F 19)) (mrho (D 19) σ.length (F 19)) κ_par8 (mstat ++ ml_par)) 1 12 = ((mrho (D 19) σ.length (F 19) 34 : Nat) : Int)
        rw [mFd_at ce_par8_1]
        rfl
      · show (mFd (mnu (F 19)) (mrho (D 19) σ.length (F 19)) κ_par8 (mstat ++ ml_par)) 0 4 = ((mrho (D 19) σ.length (F 19) 35 : Nat) : Int)
        rw [mFd_at ce_par8_0]
        rfl
      · show (mA (mnu (F 19)) (mrho (D 19) σ.length (F 19)) κ_par8 (mstat ++ ml_par)) 24 0 = ((mrho (D 19) σ.length (F 19) 36 : Nat) : Int)
        rw [mA_at ce_par8_24]
        rfl
      · show (mFd (mnu (F 19)) (mrho (D 19) σ.length (F 19)) κ_par8 (mstat ++ ml_par)) 25 2 = ((mrho (D 19) σ.length (F 19) 37 : Nat) : Int)
        rw [mFd_at ce_par8_25]
        rfl
      · show (mFd (mnu (F 19)) (mrho (D 19) σ.length (F 19)) κ_par8 (mstat ++ ml_par)) 25 3 = ((mrho (D 19) σ.length (F 19) 38 : Nat) : Int)
        rw [mFd_at ce_par8_25]
        rfl
      · show (mFd (mnu (F 19)) (mrho (D 19) σ.length (F 19)) κ_par8 (mstat ++ ml_par)) 25 4 = ((mrho (D 19) σ.length (F 19) 39 : Nat) : Int)
        rw [mFd_at ce_par8_25]
        rfl
      · show (mFd (mnu (F 19)) (mrho (D 19) σ.length (F 19)) κ_par8 (mstat ++ ml_par)) 25 5 = ((mrho (D 19) σ.length (F 19) 40 : Nat) : Int)
        rw [mFd_at ce_par8_25]
        rfl
      · show (mFd (mnu (F 19)) (mrho (D 19) σ.length (F 19)) κ_par8 (mstat ++ ml_par)) 25 6 = ((mrho (D 19) σ.length (F 19) 41 : Nat) : Int)
        rw [mFd_at ce_par8_25]
        rfl
      · show (mFd (mnu (F 19)) (mrho (D 19) σ.length (F 19)) κ_par8 (mstat ++ ml_par)) 25 7 = ((mrho (D 19) σ.length (F 19) 42 : Nat) : Int)
        rw [mFd_at ce_par8_25]
        rfl
      · show (mFd (mnu (F 19)) (mrho (D 19) σ.length (F 19)) κ_par8 (mstat ++ ml_par)) 25 8 = ((mrho (D 19) σ.length (F 19) 43 : Nat) : Int)
        rw [mFd_at ce_par8_25]
        rfl
      · show (mFd (mnu (F 19)) (mrho (D 19) σ.length (F 19)) κ_par8 (mstat ++ ml_par)) 25 9 = ((mrho (D 19) σ.length (F 19) 44 : Nat) : Int)
        rw [mFd_at ce_par8_25]
        rfl
      · show (mA (mnu (F 19)) (mrho (D 19) σ.length (F 19)) κ_par8 (mstat ++ ml_par)) 24 1 = ((mrho (D 19) σ.length (F 19) 45 : Nat) : Int)
        rw [mA_at ce_par8_24]
        rfl
      · show (mFd (mnu (F 19)) (mrho (D 19) σ.length (F 19)) κ_par8 (mstat ++ ml_par)) 34 2 = ((mrho (D 19) σ.length (F 19) 46 : Nat) : Int)
        rw [mFd_at ce_par8_34]
        rfl
      · show (mFd (mnu (F 19)) (mrho (D 19) σ.length (F 19)) κ_par8 (mstat ++ ml_par)) 34 3 = ((mrho (D 19) σ.length (F 19) 47 : Nat) : Int)
        rw [mFd_at ce_par8_34]
        rfl
      · show (mFd (mnu (F 19)) (mrho (D 19) σ.length (F 19)) κ_par8 (mstat ++ ml_par)) 34 4 = ((mrho (D 19) σ.length (F 19) 48 : Nat) : Int)
        rw [mFd_at ce_par8_34]
        rfl
      · show (mFd (mnu (F 19)) (mrho (D 19) σ.length (F 19)) κ_par8 (mstat ++ ml_par)) 34 5 = ((mrho (D 19) σ.length (F 19) 49 : Nat) : Int)
        rw [mFd_at ce_par8_34]
        rfl
      · show (mFd (mnu (F 19)) (mrho (D 19) σ.length (F 19)) κ_par8 (mstat ++ ml_par)) 34 6 = ((mrho (D 19) σ.length (F 19) 50 : Nat) : Int)
        rw [mFd_at ce_par8_34]
        rfl
      · show (mFd (mnu (F 19)) (mrho (D 19) σ.length (F 19)) κ_par8 (mstat ++ ml_par)) 34 7 = ((mrho (D 19) σ.length (F 19) 51 : Nat) : Int)
        rw [mFd_at ce_par8_34]
        rfl
      · show (mFd (mnu (F 19)) (mrho (D 19) σ.length (F 19)) κ_par8 (mstat ++ ml_par)) 34 8 = ((mrho (D 19) σ.length (F 19) 52 : Nat) : Int)
        rw [mFd_at ce_par8_34]
        rfl
      · show (mFd (mnu (F 19)) (mrho (D 19) σ.length (F 19)) κ_par8 (mstat ++ ml_par)) 34 9 = ((mrho (D 19) σ.length (F 19) 53 : Nat) : Int)
        rw [mFd_at ce_par8_34]
        rfl
      · show (mA (mnu (F 19)) (mrho (D 19) σ.length (F 19)) κ_par8 (mstat ++ ml_par)) 24 2 = ((mrho (D 19) σ.length (F 19) 54 : Nat) : Int)
        rw [mA_at ce_par8_24]
        rfl
      · show (mFd (mnu (F 19)) (mrho (D 19) σ.length (F 19)) κ_par8 (mstat ++ ml_par)) 43 2 = ((mrho (D 19) σ.length (F 19) 55 : Nat) : Int)
        rw [mFd_at ce_par8_43]
        rfl
      · show (mFd (mnu (F 19)) (mrho (D 19) σ.length (F 19)) κ_par8 (mstat ++ ml_par)) 43 3 = ((mrho (D 19) σ.length (F 19) 56 : Nat) : Int)
        rw [mFd_at ce_par8_43]
        rfl
      · show (mFd (mnu (F 19)) (mrho (D 19) σ.length (F 19)) κ_par8 (mstat ++ ml_par)) 43 4 = ((mrho (D 19) σ.length (F 19) 57 : Nat) : Int)
        rw [mFd_at ce_par8_43]
        rfl
      · show (mFd (mnu (F 19)) (mrho (D 19) σ.length (F 19)) κ_par8 (mstat ++ ml_par)) 43 5 = ((mrho (D 19) σ.length (F 19) 58 : Nat) : Int)
        rw [mFd_at ce_par8_43]
        rfl
      · show (mFd (mnu (F 19)) (mrho (D 19) σ.length (F 19)) κ_par8 (mstat ++ ml_par)) 43 6 = ((mrho (D 19) σ.length (F 19) 59 : Nat) : Int)
        rw [mFd_at ce_par8_43]
        rfl
      · show (mFd (mnu (F 19)) (mrho (D 19) σ.length (F 19)) κ_par8 (mstat ++ ml_par)) 43 7 = ((mrho (D 19) σ.length (F 19) 60 : Nat) : Int)
        rw [mFd_at ce_par8_43]
        rfl
      · show (mFd (mnu (F 19)) (mrho (D 19) σ.length (F 19)) κ_par8 (mstat ++ ml_par)) 43 8 = ((mrho (D 19) σ.length (F 19) 61 : Nat) : Int)
        rw [mFd_at ce_par8_43]
        rfl
      · show (mFd (mnu (F 19)) (mrho (D 19) σ.length (F 19)) κ_par8 (mstat ++ ml_par)) 43 9 = ((mrho (D 19) σ.length (F 19) 62 : Nat) : Int)
        rw [mFd_at ce_par8_43]
        rfl
    · intro _
      have n311 : (glu ι_par8 N (mN κ_par8 (mstat ++ ml_par))) 311 = 256 := (mN_at ce_par8_2)
      have n312 : (glu ι_par8 N (mN κ_par8 (mstat ++ ml_par))) 312 = 256 := (mN_at ce_par8_3)
      have n313 : (glu ι_par8 N (mN κ_par8 (mstat ++ ml_par))) 313 = 2048 := (mN_at ce_par8_4)
      have n314 : (glu ι_par8 N (mN κ_par8 (mstat ++ ml_par))) 314 = 256 := (mN_at ce_par8_5)
      have n315 : (glu ι_par8 N (mN κ_par8 (mstat ++ ml_par))) 315 = 12 := (mN_at ce_par8_6)
      have n317 : (glu ι_par8 N (mN κ_par8 (mstat ++ ml_par))) 317 = 12 := (mN_at ce_par8_8)
      have n318 : (glu ι_par8 N (mN κ_par8 (mstat ++ ml_par))) 318 = 12 := (mN_at ce_par8_9)
      have n319 : (glu ι_par8 N (mN κ_par8 (mstat ++ ml_par))) 319 = 12 := (mN_at ce_par8_10)
      have n320 : (glu ι_par8 N (mN κ_par8 (mstat ++ ml_par))) 320 = 12 := (mN_at ce_par8_11)
      have n321 : (glu ι_par8 N (mN κ_par8 (mstat ++ ml_par))) 321 = 12 := (mN_at ce_par8_12)
      have n322 : (glu ι_par8 N (mN κ_par8 (mstat ++ ml_par))) 322 = 64 := (mN_at ce_par8_13)
      have n323 : (glu ι_par8 N (mN κ_par8 (mstat ++ ml_par))) 323 = 64 := (mN_at ce_par8_14)
      have n324 : (glu ι_par8 N (mN κ_par8 (mstat ++ ml_par))) 324 = 64 := (mN_at ce_par8_15)
      have n330 : (glu ι_par8 N (mN κ_par8 (mstat ++ ml_par))) 330 = 256 := (mN_at ce_par8_21)
      have n331 : (glu ι_par8 N (mN κ_par8 (mstat ++ ml_par))) 331 = 512 := (mN_at ce_par8_22)
      have n332 : (glu ι_par8 N (mN κ_par8 (mstat ++ ml_par))) 332 = 512 := (mN_at ce_par8_23)
      have n333 : (glu ι_par8 N (mN κ_par8 (mstat ++ ml_par))) 333 = 3 := (mN_at ce_par8_24)
      have n335 : (glu ι_par8 N (mN κ_par8 (mstat ++ ml_par))) 335 = 36 := (mN_at ce_par8_26)
      have n336 : (glu ι_par8 N (mN κ_par8 (mstat ++ ml_par))) 336 = 36 := (mN_at ce_par8_27)
      have n337 : (glu ι_par8 N (mN κ_par8 (mstat ++ ml_par))) 337 = 36 := (mN_at ce_par8_28)
      have n338 : (glu ι_par8 N (mN κ_par8 (mstat ++ ml_par))) 338 = 36 := (mN_at ce_par8_29)
      have n339 : (glu ι_par8 N (mN κ_par8 (mstat ++ ml_par))) 339 = 36 := (mN_at ce_par8_30)
      have n340 : (glu ι_par8 N (mN κ_par8 (mstat ++ ml_par))) 340 = 512 := (mN_at ce_par8_31)
      have n341 : (glu ι_par8 N (mN κ_par8 (mstat ++ ml_par))) 341 = 512 := (mN_at ce_par8_32)
      have n342 : (glu ι_par8 N (mN κ_par8 (mstat ++ ml_par))) 342 = 512 := (mN_at ce_par8_33)
      have n344 : (glu ι_par8 N (mN κ_par8 (mstat ++ ml_par))) 344 = 32 := (mN_at ce_par8_35)
      have n345 : (glu ι_par8 N (mN κ_par8 (mstat ++ ml_par))) 345 = 32 := (mN_at ce_par8_36)
      have n346 : (glu ι_par8 N (mN κ_par8 (mstat ++ ml_par))) 346 = 32 := (mN_at ce_par8_37)
      have n347 : (glu ι_par8 N (mN κ_par8 (mstat ++ ml_par))) 347 = 32 := (mN_at ce_par8_38)
      have n348 : (glu ι_par8 N (mN κ_par8 (mstat ++ ml_par))) 348 = 32 := (mN_at ce_par8_39)
      have n349 : (glu ι_par8 N (mN κ_par8 (mstat ++ ml_par))) 349 = 256 := (mN_at ce_par8_40)
      have n350 : (glu ι_par8 N (mN κ_par8 (mstat ++ ml_par))) 350 = 256 := (mN_at ce_par8_41)
      have n351 : (glu ι_par8 N (mN κ_par8 (mstat ++ ml_par))) 351 = 256 := (mN_at ce_par8_42)
      have n353 : (glu ι_par8 N (mN κ_par8 (mstat ++ ml_par))) 353 = 53 := (mN_at ce_par8_44)
      have n354 : (glu ι_par8 N (mN κ_par8 (mstat ++ ml_par))) 354 = 53 := (mN_at ce_par8_45)
      have n355 : (glu ι_par8 N (mN κ_par8 (mstat ++ ml_par))) 355 = 53 := (mN_at ce_par8_46)
      have n356 : (glu ι_par8 N (mN κ_par8 (mstat ++ ml_par))) 356 = 53 := (mN_at ce_par8_47)
      have n357 : (glu ι_par8 N (mN κ_par8 (mstat ++ ml_par))) 357 = 53 := (mN_at ce_par8_48)
      have n358 : (glu ι_par8 N (mN κ_par8 (mstat ++ ml_par))) 358 = 512 := (mN_at ce_par8_49)
      have n359 : (glu ι_par8 N (mN κ_par8 (mstat ++ ml_par))) 359 = 512 := (mN_at ce_par8_50)
      have n360 : (glu ι_par8 N (mN κ_par8 (mstat ++ ml_par))) 360 = 512 := (mN_at ce_par8_51)
      have f316_1 : (glu ι_par8 F (mFd (mnu (F 19)) (mrho (D 19) σ.length (F 19)) κ_par8 (mstat ++ ml_par))) 316 1 = 12 := (show (mFd (mnu (F 19)) (mrho (D 19) σ.length (F 19)) κ_par8 (mstat ++ ml_par)) 7 1 = 12 from (mFd_at (k := 1) ce_par8_7).trans (show ((12 : Int32)).toInt = 12 by decide))
      have f334_1 : (glu ι_par8 F (mFd (mnu (F 19)) (mrho (D 19) σ.length (F 19)) κ_par8 (mstat ++ ml_par))) 334 1 = 36 := (show (mFd (mnu (F 19)) (mrho (D 19) σ.length (F 19)) κ_par8 (mstat ++ ml_par)) 25 1 = 36 from (mFd_at (k := 1) ce_par8_25).trans (show ((36 : Int32)).toInt = 36 by decide))
      have f343_1 : (glu ι_par8 F (mFd (mnu (F 19)) (mrho (D 19) σ.length (F 19)) κ_par8 (mstat ++ ml_par))) 343 1 = 32 := (show (mFd (mnu (F 19)) (mrho (D 19) σ.length (F 19)) κ_par8 (mstat ++ ml_par)) 34 1 = 32 from (mFd_at (k := 1) ce_par8_34).trans (show ((32 : Int32)).toInt = 32 by decide))
      have f352_1 : (glu ι_par8 F (mFd (mnu (F 19)) (mrho (D 19) σ.length (F 19)) κ_par8 (mstat ++ ml_par))) 352 1 = 53 := (show (mFd (mnu (F 19)) (mrho (D 19) σ.length (F 19)) κ_par8 (mstat ++ ml_par)) 43 1 = 53 from (mFd_at (k := 1) ce_par8_43).trans (show ((53 : Int32)).toInt = 53 by decide))
      exact ⟨show ((((glu ι_par8 N (mN κ_par8 (mstat ++ ml_par))) 333 : Nat) : Int)) = 3 from (by omega), show CDZD (((((glu ι_par8 N (mN κ_par8 (mstat ++ ml_par))) 311 : Nat) : Int))) (((((glu ι_par8 N (mN κ_par8 (mstat ++ ml_par))) 312 : Nat) : Int))) (((((glu ι_par8 N (mN κ_par8 (mstat ++ ml_par))) 313 : Nat) : Int))) (((((glu ι_par8 N (mN κ_par8 (mstat ++ ml_par))) 314 : Nat) : Int))) (((((glu ι_par8 N (mN κ_par8 (mstat ++ ml_par))) 315 : Nat) : Int))) (((((glu ι_par8 N (mN κ_par8 (mstat ++ ml_par))) 330 : Nat) : Int))) (((((glu ι_par8 N (mN κ_par8 (mstat ++ ml_par))) 331 : Nat) : Int))) (((((glu ι_par8 N (mN κ_par8 (mstat ++ ml_par))) 332 : Nat) : Int))) from (by unfold CDZD; omega), show SHZD (((((glu ι_par8 N (mN κ_par8 (mstat ++ ml_par))) 317 : Nat) : Int))) (((((glu ι_par8 N (mN κ_par8 (mstat ++ ml_par))) 318 : Nat) : Int))) (((((glu ι_par8 N (mN κ_par8 (mstat ++ ml_par))) 319 : Nat) : Int))) (((((glu ι_par8 N (mN κ_par8 (mstat ++ ml_par))) 320 : Nat) : Int))) (((((glu ι_par8 N (mN κ_par8 (mstat ++ ml_par))) 321 : Nat) : Int))) (((((glu ι_par8 N (mN κ_par8 (mstat ++ ml_par))) 322 : Nat) : Int))) (((((glu ι_par8 N (mN κ_par8 (mstat ++ ml_par))) 323 : Nat) : Int))) (((((glu ι_par8 N (mN κ_par8 (mstat ++ ml_par))) 324 : Nat) : Int))) (((glu ι_par8 F (mFd (mnu (F 19)) (mrho (D 19) σ.length (F 19)) κ_par8 (mstat ++ ml_par))) 316 1)) 12 64 from (by unfold SHZD; omega), show SHZD (((((glu ι_par8 N (mN κ_par8 (mstat ++ ml_par))) 335 : Nat) : Int))) (((((glu ι_par8 N (mN κ_par8 (mstat ++ ml_par))) 336 : Nat) : Int))) (((((glu ι_par8 N (mN κ_par8 (mstat ++ ml_par))) 337 : Nat) : Int))) (((((glu ι_par8 N (mN κ_par8 (mstat ++ ml_par))) 338 : Nat) : Int))) (((((glu ι_par8 N (mN κ_par8 (mstat ++ ml_par))) 339 : Nat) : Int))) (((((glu ι_par8 N (mN κ_par8 (mstat ++ ml_par))) 340 : Nat) : Int))) (((((glu ι_par8 N (mN κ_par8 (mstat ++ ml_par))) 341 : Nat) : Int))) (((((glu ι_par8 N (mN κ_par8 (mstat ++ ml_par))) 342 : Nat) : Int))) (((glu ι_par8 F (mFd (mnu (F 19)) (mrho (D 19) σ.length (F 19)) κ_par8 (mstat ++ ml_par))) 334 1)) 36 512 from (by unfold SHZD; omega), show SHZD (((((glu ι_par8 N (mN κ_par8 (mstat ++ ml_par))) 344 : Nat) : Int))) (((((glu ι_par8 N (mN κ_par8 (mstat ++ ml_par))) 345 : Nat) : Int))) (((((glu ι_par8 N (mN κ_par8 (mstat ++ ml_par))) 346 : Nat) : Int))) (((((glu ι_par8 N (mN κ_par8 (mstat ++ ml_par))) 347 : Nat) : Int))) (((((glu ι_par8 N (mN κ_par8 (mstat ++ ml_par))) 348 : Nat) : Int))) (((((glu ι_par8 N (mN κ_par8 (mstat ++ ml_par))) 349 : Nat) : Int))) (((((glu ι_par8 N (mN κ_par8 (mstat ++ ml_par))) 350 : Nat) : Int))) (((((glu ι_par8 N (mN κ_par8 (mstat ++ ml_par))) 351 : Nat) : Int))) (((glu ι_par8 F (mFd (mnu (F 19)) (mrho (D 19) σ.length (F 19)) κ_par8 (mstat ++ ml_par))) 343 1)) 32 256 from (by unfold SHZD; omega), show SHZD (((((glu ι_par8 N (mN κ_par8 (mstat ++ ml_par))) 353 : Nat) : Int))) (((((glu ι_par8 N (mN κ_par8 (mstat ++ ml_par))) 354 : Nat) : Int))) (((((glu ι_par8 N (mN κ_par8 (mstat ++ ml_par))) 355 : Nat) : Int))) (((((glu ι_par8 N (mN κ_par8 (mstat ++ ml_par))) 356 : Nat) : Int))) (((((glu ι_par8 N (mN κ_par8 (mstat ++ ml_par))) 357 : Nat) : Int))) (((((glu ι_par8 N (mN κ_par8 (mstat ++ ml_par))) 358 : Nat) : Int))) (((((glu ι_par8 N (mN κ_par8 (mstat ++ ml_par))) 359 : Nat) : Int))) (((((glu ι_par8 N (mN κ_par8 (mstat ++ ml_par))) 360 : Nat) : Int))) (((glu ι_par8 F (mFd (mnu (F 19)) (mrho (D 19) σ.length (F 19)) κ_par8 (mstat ++ ml_par))) 352 1)) 53 512 from (by unfold SHZD; omega), show CEL (((glu ι_par8 A (mA (mnu (F 19)) (mrho (D 19) σ.length (F 19)) κ_par8 (mstat ++ ml_par))) 313)) from fun i => (show 0 ≤ (mA (mnu (F 19)) (mrho (D 19) σ.length (F 19)) κ_par8 (mstat ++ ml_par)) 4 i ∧ (mA (mnu (F 19)) (mrho (D 19) σ.length (F 19)) κ_par8 (mstat ++ ml_par)) 4 i ≤ 3071 by rw [mA_at ce_par8_4]; exact (show 0 ≤ ((0 : Int32)).toInt ∧ ((0 : Int32)).toInt ≤ 3071 by decide))⟩
