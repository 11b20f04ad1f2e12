/-! a new PackHouse -/
def fl_ini : List Value := [.null, .null, .null, .null, .null, .null, .null, .null, .null, .null, .null, .null, .null, .null, .null, .null, .null, .int 0, .int 0]
def ml_ini : rS := [.inl (0, [.ref 12, .ref 21, .ref 22, .ref 24, .ref 30, .ref 36, .ref 38, .null, .null, .null, .null, .null, .null, .ref 40, .ref 41, .ref 42, .ref 43, .int 0, .int 0]), .inr (4, 4, .null, [(0, .ref 13), (1, .ref 15), (2, .ref 17), (3, .ref 19)]), .inl (7, [.ref 14, .int 0, .int 0, .int 0, .int 0]), .inr (0, 0, .int 0, []), .inl (7, [.ref 16, .int 0, .int 0, .int 0, .int 0]), .inr (0, 0, .int 0, []), .inl (7, [.ref 18, .int 0, .int 0, .int 0, .int 0]), .inr (0, 0, .int 0, []), .inl (7, [.ref 20, .int 0, .int 0, .int 0, .int 0]), .inr (0, 0, .int 0, []), .inr (1, 10, .int 0, [(0, .int 2), (1, .int 4), (2, .int 65536), (3, .int 100), (4, .int 4), (5, .int 0), (6, .int 0), (7, .int 3), (8, .int 6), (9, .int 0)]), .inl (7, [.ref 23, .int 0, .int 0, .int 0, .int 0]), .inr (0, 0, .int 0, []), .inl (4, [.ref 25, .ref 27, .int 0, .null, .null]), .inl (7, [.ref 26, .int 0, .int 0, .int 0, .int 0]), .inr (0, 0, .int 0, []), .inl (9, [.null, .ref 28, .ref 29]), .inr (5, 3, .null, []), .inr (2, 3, .long 0, [(0, .long 1), (1, .long 4), (2, .long 8)]), .inl (4, [.ref 31, .ref 33, .int 0, .null, .null]), .inl (7, [.ref 32, .int 0, .int 0, .int 0, .int 0]), .inr (0, 0, .int 0, []), .inl (9, [.null, .ref 34, .ref 35]), .inr (5, 3, .null, []), .inr (2, 3, .long 0, [(0, .long 1), (1, .long 4), (2, .long 8)]), .inl (7, [.ref 37, .int 0, .int 0, .int 0, .int 0]), .inr (0, 0, .int 0, []), .inl (7, [.ref 39, .int 0, .int 0, .int 0, .int 0]), .inr (0, 0, .int 0, []), .inr (1, 13, .int 0, []), .inr (1, 5, .int 0, []), .inr (1, 5, .int 0, []), .inr (1, 2, .int 0, [])]
theorem ev_ini : mrun 261 3 0 0 (rargs 0 [.ref 11]) [] (mstat ++ [.inl (0, fl_ini)]) 0 0 = some (none, mstat ++ ml_ini, 32, 112) := meq_of (by decide +kernel)
def W_ini : vV := [(0, 0, [(4, 0), (4, 0), (4, 0), (4, 0), (4, 0), (4, 0), (4, 0), (4, 0), (4, 0), (4, 0), (4, 0), (4, 0), (4, 0), (4, 0), (4, 0), (4, 0), (4, 0), (0, 0), (0, 0)]), (1, 4, []), (0, 7, [(4, 0), (0, 0), (1, 0), (0, 0), (0, 0)]), (1, 0, []), (0, 7, [(4, 0), (0, 0), (1, 0), (0, 0), (0, 0)]), (1, 0, []), (0, 7, [(4, 0), (0, 0), (1, 0), (0, 0), (0, 0)]), (1, 0, []), (0, 7, [(4, 0), (0, 0), (1, 0), (0, 0), (0, 0)]), (1, 0, []), (1, 1, []), (0, 7, [(4, 0), (0, 0), (1, 0), (0, 0), (0, 0)]), (1, 0, []), (0, 4, [(4, 0), (4, 0), (0, 0), (4, 0), (4, 0)]), (0, 7, [(4, 0), (0, 0), (1, 0), (0, 0), (0, 0)]), (1, 0, []), (0, 9, [(4, 0), (4, 0), (4, 0)]), (1, 5, []), (1, 2, []), (0, 4, [(4, 0), (4, 0), (0, 0), (4, 0), (4, 0)]), (0, 7, [(4, 0), (0, 0), (1, 0), (0, 0), (0, 0)]), (1, 0, []), (0, 9, [(4, 0), (4, 0), (4, 0)]), (1, 5, []), (1, 2, []), (0, 7, [(4, 0), (0, 0), (1, 0), (0, 0), (0, 0)]), (1, 0, []), (0, 7, [(4, 0), (0, 0), (1, 0), (0, 0), (0, 0)]), (1, 0, []), (1, 1, []), (1, 1, []), (1, 1, []), (1, 1, [])]
def ι_ini : List Nat := [0, 1, 2, 3, 4, 5, 6, 7, 8, 9, 10, 11, 12, 13, 14, 15, 16, 17, 18, 19, 20, 21, 22, 23, 24, 25, 26, 27, 28, 29, 30, 31, 32]
def κ_ini : List Nat := [11, 12, 13, 14, 15, 16, 17, 18, 19, 20, 21, 22, 23, 24, 25, 26, 27, 28, 29, 30, 31, 32, 33, 34, 35, 36, 37, 38, 39, 40, 41, 42, 43]
theorem vs_ini : VS VPH W_ini ι_ini := VS_of (by decide +kernel)
theorem mv_ini : mV W_ini κ_ini (mstat ++ ml_ini) = true := by decide +kernel
def g0 : Nat → Bool := fun j => Nat.beq j 0
theorem ce_ini_0 : rat (mstat ++ ml_ini) (κ_ini.getD 0 0) = some (.inl (0, [.ref 12, .ref 21, .ref 22, .ref 24, .ref 30, .ref 36, .ref 38, .null, .null, .null, .null, .null, .null, .ref 40, .ref 41, .ref 42, .ref 43, .int 0, .int 0])) := (rat_mst (l := ml_ini) (i := 0)).trans rfl
theorem ce_ini_1 : rat (mstat ++ ml_ini) (κ_ini.getD 1 0) = some (.inr (4, 4, .null, [(0, .ref 13), (1, .ref 15), (2, .ref 17), (3, .ref 19)])) := (rat_mst (l := ml_ini) (i := 1)).trans rfl
theorem ce_ini_2 : rat (mstat ++ ml_ini) (κ_ini.getD 2 0) = some (.inl (7, [.ref 14, .int 0, .int 0, .int 0, .int 0])) := (rat_mst (l := ml_ini) (i := 2)).trans rfl
theorem ce_ini_3 : rat (mstat ++ ml_ini) (κ_ini.getD 3 0) = some (.inr (0, 0, .int 0, [])) := (rat_mst (l := ml_ini) (i := 3)).trans rfl
theorem ce_ini_4 : rat (mstat ++ ml_ini) (κ_ini.getD 4 0) = some (.inl (7, [.ref 16, .int 0, .int 0, .int 0, .int 0])) := (rat_mst (l := ml_ini) (i := 4)).trans rfl
theorem ce_ini_5 : rat (mstat ++ ml_ini) (κ_ini.getD 5 0) = some (.inr (0, 0, .int 0, [])) := (rat_mst (l := ml_ini) (i := 5)).trans rfl
theorem ce_ini_6 : rat (mstat ++ ml_ini) (κ_ini.getD 6 0) = some (.inl (7, [.ref 18, .int 0, .int 0, .int 0, .int 0])) := (rat_mst (l := ml_ini) (i := 6)).trans rfl
theorem ce_ini_7 : rat (mstat ++ ml_ini) (κ_ini.getD 7 0) = some (.inr (0, 0, .int 0, [])) := (rat_mst (l := ml_ini) (i := 7)).trans rfl
theorem ce_ini_8 : rat (mstat ++ ml_ini) (κ_ini.getD 8 0) = some (.inl (7, [.ref 20, .int 0, .int 0, .int 0, .int 0])) := (rat_mst (l := ml_ini) (i := 8)).trans rfl
theorem ce_ini_9 : rat (mstat ++ ml_ini) (κ_ini.getD 9 0) = some (.inr (0, 0, .int 0, [])) := (rat_mst (l := ml_ini) (i := 9)).trans rfl
theorem ce_ini_10 : rat (mstat ++ ml_ini) (κ_ini.getD 10 0) = some (.inr (1, 10, .int 0, [(0, .int 2), (1, .int 4), (2, .int 65536), (3, .int 100), (4, .int 4), (5, .int 0), (6, .int 0), (7, .int 3), (8, .int 6), (9, .int 0)])) := (rat_mst (l := ml_ini) (i := 10)).trans rfl
theorem ce_ini_11 : rat (mstat ++ ml_ini) (κ_ini.getD 11 0) = some (.inl (7, [.ref 23, .int 0, .int 0, .int 0, .int 0])) := (rat_mst (l := ml_ini) (i := 11)).trans rfl
theorem ce_ini_12 : rat (mstat ++ ml_ini) (κ_ini.getD 12 0) = some (.inr (0, 0, .int 0, [])) := (rat_mst (l := ml_ini) (i := 12)).trans rfl
theorem ce_ini_13 : rat (mstat ++ ml_ini) (κ_ini.getD 13 0) = some (.inl (4, [.ref 25, .ref 27, .int 0, .null, .null])) := (rat_mst (l := ml_ini) (i := 13)).trans rfl
theorem ce_ini_14 : rat (mstat ++ ml_ini) (κ_ini.getD 14 0) = some (.inl (7, [.ref 26, .int 0, .int 0, .int 0, .int 0])) := (rat_mst (l := ml_ini) (i := 14)).trans rfl
theorem ce_ini_15 : rat (mstat ++ ml_ini) (κ_ini.getD 15 0) = some (.inr (0, 0, .int 0, [])) := (rat_mst (l := ml_ini) (i := 15)).trans rfl
theorem ce_ini_16 : rat (mstat ++ ml_ini) (κ_ini.getD 16 0) = some (.inl (9, [.null, .ref 28, .ref 29])) := (rat_mst (l := ml_ini) (i := 16)).trans rfl
theorem ce_ini_17 : rat (mstat ++ ml_ini) (κ_ini.getD 17 0) = some (.inr (5, 3, .null, [])) := (rat_mst (l := ml_ini) (i := 17)).trans rfl
theorem ce_ini_18 : rat (mstat ++ ml_ini) (κ_ini.getD 18 0) = some (.inr (2, 3, .long 0, [(0, .long 1), (1, .long 4), (2, .long 8)])) := (rat_mst (l := ml_ini) (i := 18)).trans rfl
theorem ce_ini_19 : rat (mstat ++ ml_ini) (κ_ini.getD 19 0) = some (.inl (4, [.ref 31, .ref 33, .int 0, .null, .null])) := (rat_mst (l := ml_ini) (i := 19)).trans rfl
theorem ce_ini_20 : rat (mstat ++ ml_ini) (κ_ini.getD 20 0) = some (.inl (7, [.ref 32, .int 0, .int 0, .int 0, .int 0])) := (rat_mst (l := ml_ini) (i := 20)).trans rfl
theorem ce_ini_21 : rat (mstat ++ ml_ini) (κ_ini.getD 21 0) = some (.inr (0, 0, .int 0, [])) := (rat_mst (l := ml_ini) (i := 21)).trans rfl
theorem ce_ini_22 : rat (mstat ++ ml_ini) (κ_ini.getD 22 0) = some (.inl (9, [.null, .ref 34, .ref 35])) := (rat_mst (l := ml_ini) (i := 22)).trans rfl
theorem ce_ini_23 : rat (mstat ++ ml_ini) (κ_ini.getD 23 0) = some (.inr (5, 3, .null, [])) := (rat_mst (l := ml_ini) (i := 23)).trans rfl
theorem ce_ini_24 : rat (mstat ++ ml_ini) (κ_ini.getD 24 0) = some (.inr (2, 3, .long 0, [(0, .long 1), (1, .long 4), (2, .long 8)])) := (rat_mst (l := ml_ini) (i := 24)).trans rfl
theorem ce_ini_25 : rat (mstat ++ ml_ini) (κ_ini.getD 25 0) = some (.inl (7, [.ref 37, .int 0, .int 0, .int 0, .int 0])) := (rat_mst (l := ml_ini) (i := 25)).trans rfl
theorem ce_ini_26 : rat (mstat ++ ml_ini) (κ_ini.getD 26 0) = some (.inr (0, 0, .int 0, [])) := (rat_mst (l := ml_ini) (i := 26)).trans rfl
theorem ce_ini_27 : rat (mstat ++ ml_ini) (κ_ini.getD 27 0) = some (.inl (7, [.ref 39, .int 0, .int 0, .int 0, .int 0])) := (rat_mst (l := ml_ini) (i := 27)).trans rfl
theorem ce_ini_28 : rat (mstat ++ ml_ini) (κ_ini.getD 28 0) = some (.inr (0, 0, .int 0, [])) := (rat_mst (l := ml_ini) (i := 28)).trans rfl
theorem ce_ini_29 : rat (mstat ++ ml_ini) (κ_ini.getD 29 0) = some (.inr (1, 13, .int 0, [])) := (rat_mst (l := ml_ini) (i := 29)).trans rfl
theorem ce_ini_30 : rat (mstat ++ ml_ini) (κ_ini.getD 30 0) = some (.inr (1, 5, .int 0, [])) := (rat_mst (l := ml_ini) (i := 30)).trans rfl
theorem ce_ini_31 : rat (mstat ++ ml_ini) (κ_ini.getD 31 0) = some (.inr (1, 5, .int 0, [])) := (rat_mst (l := ml_ini) (i := 31)).trans rfl
theorem ce_ini_32 : rat (mstat ++ ml_ini) (κ_ini.getD 32 0) = some (.inr (1, 2, .int 0, [])) := (rat_mst (l := ml_ini) (i := 32)).trans rfl
set_option maxRecDepth 100000 in
theorem PHI_ini {σ σₚ : rS} (h12 : 12 ≤ σ.length) (hI : mI mnu0 (mr0 σ.length) 12 (σ.length + 1) (σ ++ [.inl (0, fl_ini)]) (mstat ++ ml_ini) σₚ) : PHI g0 σₚ (glu ι_ini (fun _ => 0) (fun x => mr0 σ.length (κ_ini.getD x 0))) (glu ι_ini (fun _ => 0) (mN κ_ini (mstat ++ ml_ini))) (glu ι_ini (fun _ _ => 0) (mFd mnu0 (mr0 σ.length) κ_ini (mstat ++ ml_ini))) (glu ι_ini (fun _ _ => 0) (mA mnu0 (mr0 σ.length) κ_ini (mstat ++ ml_ini))) := by
  have H := mHW (mr0_F h12) hI mv_ini
  refine ⟨HWs_congr (HWs_new (D := fun _ => 0) (N := fun _ => 0) (F := fun _ _ => 0) (A := fun _ _ => 0) VPH_3 vs_ini H) (fun x hx hs => ?_), mk_ST (mr0_F h12) hI, rfl, fun e he h1 h2 => ?_, fun e he hb => ?_, fun x hx => ?_, ⟨fun h => Bool.noConfusion h, fun h => Bool.noConfusion h, fun h => Bool.noConfusion h, fun h => Bool.noConfusion h, fun h => Bool.noConfusion h⟩, ?_, fun h => Bool.noConfusion h, fun h => Bool.noConfusion h, fun h => Bool.noConfusion h, fun h => Bool.noConfusion h, fun h => Bool.noConfusion h, fun h => Bool.noConfusion h, fun h => Bool.noConfusion h, fun h => Bool.noConfusion h, ?_⟩
  · have w := List.all_eq_true.mp (show (List.range VPH.length).all (fun x => !(SPH g0 x) || (fnd x ι_ini).isSome) = true by decide +kernel) x (List.mem_range.mpr hx)
    rw [hs] at w
    exact w
  · have w := List.all_eq_true.mp (show PFT.all (fun e => !(SPH g0 e.2.1 && SPH g0 e.2.2.2) || ([(0, 0, 0, 1), (1, 1, 0, 2), (0, 2, 0, 3), (1, 1, 1, 4), (0, 4, 0, 5), (1, 1, 2, 6), (0, 6, 0, 7), (1, 1, 3, 8), (0, 8, 0, 9), (0, 0, 1, 10), (0, 0, 2, 11), (0, 11, 0, 12), (0, 0, 3, 13), (0, 13, 0, 14), (0, 14, 0, 15), (0, 13, 1, 16), (0, 16, 1, 17), (0, 16, 2, 18), (0, 0, 4, 19), (0, 19, 0, 20), (0, 20, 0, 21), (0, 19, 1, 22), (0, 22, 1, 23), (0, 22, 2, 24), (0, 0, 5, 25), (0, 25, 0, 26), (0, 0, 6, 27), (0, 27, 0, 28), (0, 0, 13, 29), (0, 0, 14, 30), (0, 0, 15, 31), (0, 0, 16, 32)] : List (Nat × Nat × Nat × Nat)).any (fun q => decide (q = e))) = true by decide +kernel) e he
    rw [h1, h2] at w
    have w : ([(0, 0, 0, 1), (1, 1, 0, 2), (0, 2, 0, 3), (1, 1, 1, 4), (0, 4, 0, 5), (1, 1, 2, 6), (0, 6, 0, 7), (1, 1, 3, 8), (0, 8, 0, 9), (0, 0, 1, 10), (0, 0, 2, 11), (0, 11, 0, 12), (0, 0, 3, 13), (0, 13, 0, 14), (0, 14, 0, 15), (0, 13, 1, 16), (0, 16, 1, 17), (0, 16, 2, 18), (0, 0, 4, 19), (0, 19, 0, 20), (0, 20, 0, 21), (0, 19, 1, 22), (0, 22, 1, 23), (0, 22, 2, 24), (0, 0, 5, 25), (0, 25, 0, 26), (0, 0, 6, 27), (0, 27, 0, 28), (0, 0, 13, 29), (0, 0, 14, 30), (0, 0, 15, 31), (0, 0, 16, 32)] : List (Nat × Nat × Nat × Nat)).any (fun q => decide (q = e)) = true := w
    obtain ⟨q, q1, q2⟩ := List.any_eq_true.mp w
    have q2 := of_decide_eq_true q2
    subst q2
    clear w h1 h2 he
    simp only [List.mem_cons, List.not_mem_nil, or_false] at q1
    rcases q1 with rfl | rfl | rfl | rfl | rfl | rfl | rfl | rfl | rfl | rfl | rfl | rfl | rfl | rfl | rfl | rfl | rfl | rfl | rfl | rfl | rfl | rfl | rfl | rfl | rfl | rfl | rfl | rfl | rfl | rfl | rfl | rfl
    · show (mFd mnu0 (mr0 σ.length) κ_ini (mstat ++ ml_ini)) 0 0 = ((mr0 σ.length 12 : Nat) : Int)
      rw [mFd_at ce_ini_0]
      rfl
    · show (mA mnu0 (mr0 σ.length) κ_ini (mstat ++ ml_ini)) 1 0 = ((mr0 σ.length 13 : Nat) : Int)
      rw [mA_at ce_ini_1]
      rfl
    · show (mFd mnu0 (mr0 σ.length) κ_ini (mstat ++ ml_ini)) 2 0 = ((mr0 σ.length 14 : Nat) : Int)
      rw [mFd_at ce_ini_2]
      rfl
    · show (mA mnu0 (mr0 σ.length) κ_ini (mstat ++ ml_ini)) 1 1 = ((mr0 σ.length 15 : Nat) : Int)
      rw [mA_at ce_ini_1]
      rfl
    · show (mFd mnu0 (mr0 σ.length) κ_ini (mstat ++ ml_ini)) 4 0 = ((mr0 σ.length 16 : Nat) : Int)
      rw [mFd_at ce_ini_4]
      rfl
    · show (mA mnu0 (mr0 σ.length) κ_ini (mstat ++ ml_ini)) 1 2 = ((mr0 σ.length 17 : Nat) : Int)
      rw [mA_at ce_ini_1]
      rfl
    · show (mFd mnu0 (mr0 σ.length) κ_ini (mstat ++ ml_ini)) 6 0 = ((mr0 σ.length 18 : Nat) : Int)
      rw [mFd_at ce_ini_6]
      rfl
    · show (mA mnu0 (mr0 σ.length) κ_ini (mstat ++ ml_ini)) 1 3 = ((mr0 σ.length 19 : Nat) : Int)
      rw [mA_at ce_ini_1]
      rfl
    · show (mFd mnu0 (mr0 σ.length) κ_ini (mstat ++ ml_ini)) 8 0 = ((mr0 σ.length 20 : Nat) : Int)
      rw [mFd_at ce_ini_8]
      rfl
    · show (mFd mnu0 (mr0 σ.length) κ_ini (mstat ++ ml_ini)) 0 1 = ((mr0 σ.length 21 : Nat) : Int)
      rw [mFd_at ce_ini_0]
      rfl
    · show (mFd mnu0 (mr0 σ.length) κ_ini (mstat ++ ml_ini)) 0 2 = ((mr0 σ.length 22 : Nat) : Int)
      rw [mFd_at ce_ini_0]
      rfl
    · show (mFd mnu0 (mr0 σ.length) κ_ini (mstat ++ ml_ini)) 11 0 = ((mr0 σ.length 23 : Nat) : Int)
      rw [mFd_at ce_ini_11]
      rfl
    · show (mFd mnu0 (mr0 σ.length) κ_ini (mstat ++ ml_ini)) 0 3 = ((mr0 σ.length 24 : Nat) : Int)
      rw [mFd_at ce_ini_0]
      rfl
    · show (mFd mnu0 (mr0 σ.length) κ_ini (mstat ++ ml_ini)) 13 0 = ((mr0 σ.length 25 : Nat) : Int)
      rw [mFd_at ce_ini_13]
      rfl
    · show (mFd mnu0 (mr0 σ.length) κ_ini (mstat ++ ml_ini)) 14 0 = ((mr0 σ.length 26 : Nat) : Int)
      rw [mFd_at ce_ini_14]
      rfl
    · show (mFd mnu0 (mr0 σ.length) κ_ini (mstat ++ ml_ini)) 13 1 = ((mr0 σ.length 27 : Nat) : Int)
      rw [mFd_at ce_ini_13]
      rfl
    · show (mFd mnu0 (mr0 σ.length) κ_ini (mstat ++ ml_ini)) 16 1 = ((mr0 σ.length 28 : Nat) : Int)
      rw [mFd_at ce_ini_16]
      rfl
    · show (mFd mnu0 (mr0 σ.length) κ_ini (mstat ++ ml_ini)) 16 2 = ((mr0 σ.length 29 : Nat) : Int)
      rw [mFd_at ce_ini_16]
      rfl
    · show (mFd mnu0 (mr0 σ.length) κ_ini (mstat ++ ml_ini)) 0 4 = ((mr0 σ.length 30 : Nat) : Int)
      rw [mFd_at ce_ini_0]
      rfl
    · show (mFd mnu0 (mr0 σ.length) κ_ini (mstat ++ ml_ini)) 19 0 = ((mr0 σ.length 31 : Nat) : Int)
      rw [mFd_at ce_ini_19]
      rfl
    · show (mFd mnu0 (mr0 σ.length) κ_ini (mstat ++ ml_ini)) 20 0 = ((mr0 σ.length 32 : Nat) : Int)
      rw [mFd_at ce_ini_20]
      rfl
    · show (mFd mnu0 (mr0 σ.length) κ_ini (mstat ++ ml_ini)) 19 1 = ((mr0 σ.length 33 : Nat) : Int)
      rw [mFd_at ce_ini_19]
      rfl
    · show (mFd mnu0 (mr0 σ.length) κ_ini (mstat ++ ml_ini)) 22 1 = ((mr0 σ.length 34 : Nat) : Int)
      rw [mFd_at ce_ini_22]
      rfl
    · show (mFd mnu0 (mr0 σ.length) κ_ini (mstat ++ ml_ini)) 22 2 = ((mr0 σ.length 35 : Nat) : Int)
      rw [mFd_at ce_ini_22]
      rfl
    · show (mFd mnu0 (mr0 σ.length) κ_ini (mstat ++ ml_ini)) 0 5 = ((mr0 σ.length 36 : Nat) : Int)
      rw [mFd_at ce_ini_0]
      rfl
    · show (mFd mnu0 (mr0 σ.length) κ_ini (mstat ++ ml_ini)) 25 0 = ((mr0 σ.length 37 : Nat) : Int)
      rw [mFd_at ce_ini_25]
      rfl
    · show (mFd mnu0 (mr0 σ.length) κ_ini (mstat ++ ml_ini)) 0 6 = ((mr0 σ.length 38 : Nat) : Int)
      rw [mFd_at ce_ini_0]
      rfl
    · show (mFd mnu0 (mr0 σ.length) κ_ini (mstat ++ ml_ini)) 27 0 = ((mr0 σ.length 39 : Nat) : Int)
      rw [mFd_at ce_ini_27]
      rfl
    · show (mFd mnu0 (mr0 σ.length) κ_ini (mstat ++ ml_ini)) 0 13 = ((mr0 σ.length 40 : Nat) : Int)
      rw [mFd_at ce_ini_0]
      rfl
    · show (mFd mnu0 (mr0 σ.length) κ_ini (mstat ++ ml_ini)) 0 14 = ((mr0 σ.length 41 : Nat) : Int)
      rw [mFd_at ce_ini_0]
      rfl
    · show (mFd mnu0 (mr0 σ.length) κ_ini (mstat ++ ml_ini)) 0 15 = ((mr0 σ.length 42 : Nat) : Int)
      rw [mFd_at ce_ini_0]
      rfl
    · show (mFd mnu0 (mr0 σ.length) κ_ini (mstat ++ ml_ini)) 0 16 = ((mr0 σ.length 43 : Nat) : Int)
      rw [mFd_at ce_ini_0]
      rfl
  · simp only [ABT, List.mem_cons, List.not_mem_nil, or_false] at he
    rcases he with rfl | rfl | rfl | rfl | rfl | rfl | rfl | rfl | rfl | rfl
    · show (mFd mnu0 (mr0 σ.length) κ_ini (mstat ++ ml_ini)) 0 7 = -1
      rw [mFd_at ce_ini_0]
      rfl
    · show (mFd mnu0 (mr0 σ.length) κ_ini (mstat ++ ml_ini)) 0 8 = -1
      rw [mFd_at ce_ini_0]
      rfl
    · show (mFd mnu0 (mr0 σ.length) κ_ini (mstat ++ ml_ini)) 0 9 = -1
      rw [mFd_at ce_ini_0]
      rfl
    · show (mFd mnu0 (mr0 σ.length) κ_ini (mstat ++ ml_ini)) 0 10 = -1
      rw [mFd_at ce_ini_0]
      rfl
    · show (mFd mnu0 (mr0 σ.length) κ_ini (mstat ++ ml_ini)) 0 11 = -1
      rw [mFd_at ce_ini_0]
      rfl
    · show (mFd mnu0 (mr0 σ.length) κ_ini (mstat ++ ml_ini)) 0 12 = -1
      rw [mFd_at ce_ini_0]
      rfl
    · show (mFd mnu0 (mr0 σ.length) κ_ini (mstat ++ ml_ini)) 13 3 = -1
      rw [mFd_at ce_ini_13]
      rfl
    · show (mFd mnu0 (mr0 σ.length) κ_ini (mstat ++ ml_ini)) 13 4 = -1
      rw [mFd_at ce_ini_13]
      rfl
    · show (mFd mnu0 (mr0 σ.length) κ_ini (mstat ++ ml_ini)) 19 3 = -1
      rw [mFd_at ce_ini_19]
      rfl
    · show (mFd mnu0 (mr0 σ.length) κ_ini (mstat ++ ml_ini)) 19 4 = -1
      rw [mFd_at ce_ini_19]
      rfl
  · cases hf : fnd x ι_ini with
    | none =>
      rw [glu_n hf]
      refine ⟨fun _ => rfl, fun hs => ?_⟩
      have w := List.all_eq_true.mp (show (List.range VPH.length).all (fun x => !(SPH g0 x) || (fnd x ι_ini).isSome) = true by decide +kernel) x (List.mem_range.mpr hx)
      rw [hs, hf] at w
      cases w
    | some p =>
      have w := fnd_lt hf
      rw [glu_s hf]
      have u := List.all_eq_true.mp (show (List.range ι_ini.length).all (fun p => SPH g0 (ι_ini.getD p 0) && (Nat.beq (FXT.getD (ι_ini.getD p 0) 0) 0 || Nat.beq ((mN κ_ini (mstat ++ ml_ini)) p + 1) (FXT.getD (ι_ini.getD p 0) 0))) = true by decide +kernel) p (List.mem_range.mpr w.1)
      rw [Bool.and_eq_true, Bool.or_eq_true, w.2] at u
      refine ⟨fun q => (by rw [u.1] at q; cases q), fun _ h0 => ?_⟩
      rcases u.2 with u | u
      · exact absurd (Nat.eq_of_beq_eq_true u) h0
      · exact Nat.eq_of_beq_eq_true u
  · skip
    have n1 : (glu ι_ini (fun _ => 0) (mN κ_ini (mstat ++ ml_ini))) 1 = 4 := (mN_at ce_ini_1)
    have n3 : (glu ι_ini (fun _ => 0) (mN κ_ini (mstat ++ ml_ini))) 3 = 0 := (mN_at ce_ini_3)
    have n5 : (glu ι_ini (fun _ => 0) (mN κ_ini (mstat ++ ml_ini))) 5 = 0 := (mN_at ce_ini_5)
    have n7 : (glu ι_ini (fun _ => 0) (mN κ_ini (mstat ++ ml_ini))) 7 = 0 := (mN_at ce_ini_7)
    have n9 : (glu ι_ini (fun _ => 0) (mN κ_ini (mstat ++ ml_ini))) 9 = 0 := (mN_at ce_ini_9)
    have n10 : (glu ι_ini (fun _ => 0) (mN κ_ini (mstat ++ ml_ini))) 10 = 10 := (mN_at ce_ini_10)
    have n12 : (glu ι_ini (fun _ => 0) (mN κ_ini (mstat ++ ml_ini))) 12 = 0 := (mN_at ce_ini_12)
    have n15 : (glu ι_ini (fun _ => 0) (mN κ_ini (mstat ++ ml_ini))) 15 = 0 := (mN_at ce_ini_15)
    have n17 : (glu ι_ini (fun _ => 0) (mN κ_ini (mstat ++ ml_ini))) 17 = 3 := (mN_at ce_ini_17)
    have n18 : (glu ι_ini (fun _ => 0) (mN κ_ini (mstat ++ ml_ini))) 18 = 3 := (mN_at ce_ini_18)
    have n21 : (glu ι_ini (fun _ => 0) (mN κ_ini (mstat ++ ml_ini))) 21 = 0 := (mN_at ce_ini_21)
    have n23 : (glu ι_ini (fun _ => 0) (mN κ_ini (mstat ++ ml_ini))) 23 = 3 := (mN_at ce_ini_23)
    have n24 : (glu ι_ini (fun _ => 0) (mN κ_ini (mstat ++ ml_ini))) 24 = 3 := (mN_at ce_ini_24)
    have n26 : (glu ι_ini (fun _ => 0) (mN κ_ini (mstat ++ ml_ini))) 26 = 0 := (mN_at ce_ini_26)
    have n28 : (glu ι_ini (fun _ => 0) (mN κ_ini (mstat ++ ml_ini))) 28 = 0 := (mN_at ce_ini_28)
    have n29 : (glu ι_ini (fun _ => 0) (mN κ_ini (mstat ++ ml_ini))) 29 = 13 := (mN_at ce_ini_29)
    have n30 : (glu ι_ini (fun _ => 0) (mN κ_ini (mstat ++ ml_ini))) 30 = 5 := (mN_at ce_ini_30)
    have n31 : (glu ι_ini (fun _ => 0) (mN κ_ini (mstat ++ ml_ini))) 31 = 5 := (mN_at ce_ini_31)
    have n32 : (glu ι_ini (fun _ => 0) (mN κ_ini (mstat ++ ml_ini))) 32 = 2 := (mN_at ce_ini_32)
    have f2_1 : (glu ι_ini (fun _ _ => 0) (mFd mnu0 (mr0 σ.length) κ_ini (mstat ++ ml_ini))) 2 1 = 0 := (show (mFd mnu0 (mr0 σ.length) κ_ini (mstat ++ ml_ini)) 2 1 = 0 from (mFd_at (k := 1) ce_ini_2).trans (show ((0 : Int32)).toInt = 0 by decide))
    have f4_1 : (glu ι_ini (fun _ _ => 0) (mFd mnu0 (mr0 σ.length) κ_ini (mstat ++ ml_ini))) 4 1 = 0 := (show (mFd mnu0 (mr0 σ.length) κ_ini (mstat ++ ml_ini)) 4 1 = 0 from (mFd_at (k := 1) ce_ini_4).trans (show ((0 : Int32)).toInt = 0 by decide))
    have f6_1 : (glu ι_ini (fun _ _ => 0) (mFd mnu0 (mr0 σ.length) κ_ini (mstat ++ ml_ini))) 6 1 = 0 := (show (mFd mnu0 (mr0 σ.length) κ_ini (mstat ++ ml_ini)) 6 1 = 0 from (mFd_at (k := 1) ce_ini_6).trans (show ((0 : Int32)).toInt = 0 by decide))
    have f8_1 : (glu ι_ini (fun _ _ => 0) (mFd mnu0 (mr0 σ.length) κ_ini (mstat ++ ml_ini))) 8 1 = 0 := (show (mFd mnu0 (mr0 σ.length) κ_ini (mstat ++ ml_ini)) 8 1 = 0 from (mFd_at (k := 1) ce_ini_8).trans (show ((0 : Int32)).toInt = 0 by decide))
    have f11_1 : (glu ι_ini (fun _ _ => 0) (mFd mnu0 (mr0 σ.length) κ_ini (mstat ++ ml_ini))) 11 1 = 0 := (show (mFd mnu0 (mr0 σ.length) κ_ini (mstat ++ ml_ini)) 11 1 = 0 from (mFd_at (k := 1) ce_ini_11).trans (show ((0 : Int32)).toInt = 0 by decide))
    have f14_1 : (glu ι_ini (fun _ _ => 0) (mFd mnu0 (mr0 σ.length) κ_ini (mstat ++ ml_ini))) 14 1 = 0 := (show (mFd mnu0 (mr0 σ.length) κ_ini (mstat ++ ml_ini)) 14 1 = 0 from (mFd_at (k := 1) ce_ini_14).trans (show ((0 : Int32)).toInt = 0 by decide))
    have f20_1 : (glu ι_ini (fun _ _ => 0) (mFd mnu0 (mr0 σ.length) κ_ini (mstat ++ ml_ini))) 20 1 = 0 := (show (mFd mnu0 (mr0 σ.length) κ_ini (mstat ++ ml_ini)) 20 1 = 0 from (mFd_at (k := 1) ce_ini_20).trans (show ((0 : Int32)).toInt = 0 by decide))
    have f25_1 : (glu ι_ini (fun _ _ => 0) (mFd mnu0 (mr0 σ.length) κ_ini (mstat ++ ml_ini))) 25 1 = 0 := (show (mFd mnu0 (mr0 σ.length) κ_ini (mstat ++ ml_ini)) 25 1 = 0 from (mFd_at (k := 1) ce_ini_25).trans (show ((0 : Int32)).toInt = 0 by decide))
    have f27_1 : (glu ι_ini (fun _ _ => 0) (mFd mnu0 (mr0 σ.length) κ_ini (mstat ++ ml_ini))) 27 1 = 0 := (show (mFd mnu0 (mr0 σ.length) κ_ini (mstat ++ ml_ini)) 27 1 = 0 from (mFd_at (k := 1) ce_ini_27).trans (show ((0 : Int32)).toInt = 0 by decide))
    have a10 : (glu ι_ini (fun _ _ => 0) (mA mnu0 (mr0 σ.length) κ_ini (mstat ++ ml_ini))) 10 = izl [(0, .int 2), (1, .int 4), (2, .int 65536), (3, .int 100), (4, .int 4), (5, .int 0), (6, .int 0), (7, .int 3), (8, .int 6), (9, .int 0)] := (show (mA mnu0 (mr0 σ.length) κ_ini (mstat ++ ml_ini)) 10 = izl [(0, .int 2), (1, .int 4), (2, .int 65536), (3, .int 100), (4, .int 4), (5, .int 0), (6, .int 0), (7, .int 3), (8, .int 6), (9, .int 0)] from mA_izl ce_ini_10 rfl)
    exact ⟨show 0 ≤ ((glu ι_ini (fun _ _ => 0) (mFd mnu0 (mr0 σ.length) κ_ini (mstat ++ ml_ini))) 2 1) ∧ ((glu ι_ini (fun _ _ => 0) (mFd mnu0 (mr0 σ.length) κ_ini (mstat ++ ml_ini))) 2 1) ≤ ((((glu ι_ini (fun _ => 0) (mN κ_ini (mstat ++ ml_ini))) 3 : Nat) : Int)) ∧ ((((glu ι_ini (fun _ => 0) (mN κ_ini (mstat ++ ml_ini))) 3 : Nat) : Int)) ≤ 65536 from (by omega), show 0 ≤ ((glu ι_ini (fun _ _ => 0) (mFd mnu0 (mr0 σ.length) κ_ini (mstat ++ ml_ini))) 4 1) ∧ ((glu ι_ini (fun _ _ => 0) (mFd mnu0 (mr0 σ.length) κ_ini (mstat ++ ml_ini))) 4 1) ≤ ((((glu ι_ini (fun _ => 0) (mN κ_ini (mstat ++ ml_ini))) 5 : Nat) : Int)) ∧ ((((glu ι_ini (fun _ => 0) (mN κ_ini (mstat ++ ml_ini))) 5 : Nat) : Int)) ≤ 65536 from (by omega), show 0 ≤ ((glu ι_ini (fun _ _ => 0) (mFd mnu0 (mr0 σ.length) κ_ini (mstat ++ ml_ini))) 6 1) ∧ ((glu ι_ini (fun _ _ => 0) (mFd mnu0 (mr0 σ.length) κ_ini (mstat ++ ml_ini))) 6 1) ≤ ((((glu ι_ini (fun _ => 0) (mN κ_ini (mstat ++ ml_ini))) 7 : Nat) : Int)) ∧ ((((glu ι_ini (fun _ => 0) (mN κ_ini (mstat ++ ml_ini))) 7 : Nat) : Int)) ≤ 65536 from (by omega), show 0 ≤ ((glu ι_ini (fun _ _ => 0) (mFd mnu0 (mr0 σ.length) κ_ini (mstat ++ ml_ini))) 8 1) ∧ ((glu ι_ini (fun _ _ => 0) (mFd mnu0 (mr0 σ.length) κ_ini (mstat ++ ml_ini))) 8 1) ≤ ((((glu ι_ini (fun _ => 0) (mN κ_ini (mstat ++ ml_ini))) 9 : Nat) : Int)) ∧ ((((glu ι_ini (fun _ => 0) (mN κ_ini (mstat ++ ml_ini))) 9 : Nat) : Int)) ≤ 65536 from (by omega), show 0 ≤ ((glu ι_ini (fun _ _ => 0) (mFd mnu0 (mr0 σ.length) κ_ini (mstat ++ ml_ini))) 11 1) ∧ ((glu ι_ini (fun _ _ => 0) (mFd mnu0 (mr0 σ.length) κ_ini (mstat ++ ml_ini))) 11 1) ≤ ((((glu ι_ini (fun _ => 0) (mN κ_ini (mstat ++ ml_ini))) 12 : Nat) : Int)) ∧ ((((glu ι_ini (fun _ => 0) (mN κ_ini (mstat ++ ml_ini))) 12 : Nat) : Int)) ≤ 65536 from (by omega), show 0 ≤ ((glu ι_ini (fun _ _ => 0) (mFd mnu0 (mr0 σ.length) κ_ini (mstat ++ ml_ini))) 25 1) ∧ ((glu ι_ini (fun _ _ => 0) (mFd mnu0 (mr0 σ.length) κ_ini (mstat ++ ml_ini))) 25 1) ≤ ((((glu ι_ini (fun _ => 0) (mN κ_ini (mstat ++ ml_ini))) 26 : Nat) : Int)) ∧ ((((glu ι_ini (fun _ => 0) (mN κ_ini (mstat ++ ml_ini))) 26 : Nat) : Int)) ≤ 65536 from (by omega), show 0 ≤ ((glu ι_ini (fun _ _ => 0) (mFd mnu0 (mr0 σ.length) κ_ini (mstat ++ ml_ini))) 27 1) ∧ ((glu ι_ini (fun _ _ => 0) (mFd mnu0 (mr0 σ.length) κ_ini (mstat ++ ml_ini))) 27 1) ≤ ((((glu ι_ini (fun _ => 0) (mN κ_ini (mstat ++ ml_ini))) 28 : Nat) : Int)) ∧ ((((glu ι_ini (fun _ => 0) (mN κ_ini (mstat ++ ml_ini))) 28 : Nat) : Int)) ≤ 65536 from (by omega), show 0 ≤ ((glu ι_ini (fun _ _ => 0) (mFd mnu0 (mr0 σ.length) κ_ini (mstat ++ ml_ini))) 14 1) ∧ ((glu ι_ini (fun _ _ => 0) (mFd mnu0 (mr0 σ.length) κ_ini (mstat ++ ml_ini))) 14 1) ≤ ((((glu ι_ini (fun _ => 0) (mN κ_ini (mstat ++ ml_ini))) 15 : Nat) : Int)) ∧ ((((glu ι_ini (fun _ => 0) (mN κ_ini (mstat ++ ml_ini))) 15 : Nat) : Int)) ≤ 65536 from (by omega), show 0 ≤ ((glu ι_ini (fun _ _ => 0) (mFd mnu0 (mr0 σ.length) κ_ini (mstat ++ ml_ini))) 20 1) ∧ ((glu ι_ini (fun _ _ => 0) (mFd mnu0 (mr0 σ.length) κ_ini (mstat ++ ml_ini))) 20 1) ≤ ((((glu ι_ini (fun _ => 0) (mN κ_ini (mstat ++ ml_ini))) 21 : Nat) : Int)) ∧ ((((glu ι_ini (fun _ => 0) (mN κ_ini (mstat ++ ml_ini))) 21 : Nat) : Int)) ≤ 65536 from (by omega), show ((((glu ι_ini (fun _ => 0) (mN κ_ini (mstat ++ ml_ini))) 1 : Nat) : Int)) = 4 from (by omega), show ((((glu ι_ini (fun _ => 0) (mN κ_ini (mstat ++ ml_ini))) 10 : Nat) : Int)) = 10 from (by omega), show ((((glu ι_ini (fun _ => 0) (mN κ_ini (mstat ++ ml_ini))) 29 : Nat) : Int)) = 13 from (by omega), show ((((glu ι_ini (fun _ => 0) (mN κ_ini (mstat ++ ml_ini))) 30 : Nat) : Int)) = 5 from (by omega), show ((((glu ι_ini (fun _ => 0) (mN κ_ini (mstat ++ ml_ini))) 31 : Nat) : Int)) = 5 from (by omega), show ((((glu ι_ini (fun _ => 0) (mN κ_ini (mstat ++ ml_ini))) 32 : Nat) : Int)) = 2 from (by omega), show ((((glu ι_ini (fun _ => 0) (mN κ_ini (mstat ++ ml_ini))) 17 : Nat) : Int)) = 3 ∧ ((((glu ι_ini (fun _ => 0) (mN κ_ini (mstat ++ ml_ini))) 18 : Nat) : Int)) = 3 from (by omega), show ((((glu ι_ini (fun _ => 0) (mN κ_ini (mstat ++ ml_ini))) 23 : Nat) : Int)) = 3 ∧ ((((glu ι_ini (fun _ => 0) (mN κ_ini (mstat ++ ml_ini))) 24 : Nat) : Int)) = 3 from (by omega), show SETI (((glu ι_ini (fun _ _ => 0) (mA mnu0 (mr0 σ.length) κ_ini (mstat ++ ml_ini))) 10)) from (by rw [a10]; unfold SETI; decide)⟩
  · intro _
    have f16_0 : (glu ι_ini (fun _ _ => 0) (mFd mnu0 (mr0 σ.length) κ_ini (mstat ++ ml_ini))) 16 0 = -1 := (show (mFd mnu0 (mr0 σ.length) κ_ini (mstat ++ ml_ini)) 16 0 = -1 from (mFd_at (k := 0) ce_ini_16).trans rfl)
    exact ⟨show ((glu ι_ini (fun _ _ => 0) (mFd mnu0 (mr0 σ.length) κ_ini (mstat ++ ml_ini))) 16 0) = -1 from (by omega), show (((glu ι_ini (fun _ _ => 0) (mA mnu0 (mr0 σ.length) κ_ini (mstat ++ ml_ini))) 17)) 0 = -1 from (by show (mA mnu0 (mr0 σ.length) κ_ini (mstat ++ ml_ini)) 17 0 = -1; rw [mA_at ce_ini_17]; rfl), show (((glu ι_ini (fun _ _ => 0) (mA mnu0 (mr0 σ.length) κ_ini (mstat ++ ml_ini))) 17)) 1 = -1 from (by show (mA mnu0 (mr0 σ.length) κ_ini (mstat ++ ml_ini)) 17 1 = -1; rw [mA_at ce_ini_17]; rfl), show (((glu ι_ini (fun _ _ => 0) (mA mnu0 (mr0 σ.length) κ_ini (mstat ++ ml_ini))) 17)) 2 = -1 from (by show (mA mnu0 (mr0 σ.length) κ_ini (mstat ++ ml_ini)) 17 2 = -1; rw [mA_at ce_ini_17]; rfl)⟩
