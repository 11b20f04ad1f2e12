/-! the law: its start -/
theorem PCg_nn {g : Nat → Bool} {N : Nat → Nat} : 0 ≤ PCg g N ∧ 0 ≤ PSg g N := by
  have k : ∀ (b : Bool) (n : Int), 0 ≤ n → 0 ≤ kadd b n := fun b n h => by cases b <;> first | exact h | exact Int.le_refl _
  have z : ∀ n, vs (fun _ => 0) n = 0 := fun n => by induction n with | zero => rfl | succ n ih => show vs (fun _ => 0) n + 0 = 0; omega
  have a := vs_le (f := fun _ => 0) (h := fun x => pC (N x)) (n := VPH.length) (fun x _ => pC_nn _)
  have b := vs_le (f := fun _ => 0) (h := fun x => pS (N x)) (n := VPH.length) (fun x _ => pS_nn _)
  rw [z] at a b
  unfold PCg PSg KC KS
  have := k (g 1) 8 (by decide); have := k (g 2) 3 (by decide); have := k (g 3) 3 (by decide); have := k (g 4) 28 (by decide); have := k (g 5) 125 (by decide); have := k (g 6) 59 (by decide); have := k (g 7) 51 (by decide); have := k (g 8) 51 (by decide)
  have := k (g 1) 24 (by decide); have := k (g 2) 18 (by decide); have := k (g 3) 14 (by decide); have := k (g 4) 1112 (by decide); have := k (g 5) 18162 (by decide); have := k (g 6) 8932 (by decide); have := k (g 7) 8890 (by decide); have := k (g 8) 8890 (by decide)
  constructor <;> omega
set_option maxRecDepth 100000 in
theorem EQS_ini {ρ : Nat → Nat} : EQS ((glu ι_ini (fun _ _ => 0) (mA mnu0 ρ κ_ini (mstat ++ ml_ini))) 10) ((hzA κ_rin (mstat ++ ml_rin)) 12) := fun k h0 h1 => by
  rcases (show k = 0 ∨ k = 1 ∨ k = 2 ∨ k = 3 ∨ k = 4 ∨ k = 5 ∨ k = 6 ∨ k = 7 ∨ k = 8 ∨ k = 9 by omega) with rfl | rfl | rfl | rfl | rfl | rfl | rfl | rfl | rfl | rfl <;> rfl
set_option maxRecDepth 100000 in
theorem law_start {d L : Nat} {xs : Nat → Int} {σ : rS} {Q : wQ} (HT : STC σ) (hc : SCR σ L xs) (h12 : σ.length = 12) (hx : ∀ j, inr (xs j)) (hL : L ≤ 3072) (hQ : ∀ (g : Nat → Bool) (σ : rS) (D N : Nat → Nat) (F : hF) (A : hA) (c s : Nat), PHI g σ D N F A → (c : Int) ≤ (119 : Nat) + PCg g N → (s : Int) ≤ (1481247 : Nat) + PSg g N → Q (some (I 1)) σ c s) : Ew 455 (d + 14) 0 (rargs 0 [.ref 11]) [] σ 0 0 Q := by
  refine w_new rfl ?_
  show Ew 455 (d + 14) 3 _ [.ref σ.length] (σ ++ [.inl (0, fl_ini)]) _ _ Q
  refine Ew_of (pcₚ := 4) (fun _ => x_dup rfl rfl) ?_
  refine w_callk rfl (fun rec => rinvs rfl rfl rat_ae rec) rfl (mk_newR (e := d + 10) (d := 3) ev_ini HT rfl (by omega) (fun σ1 hI1 => ⟨rfl, ?_⟩))
  have X1 := PHI_ini (by omega) hI1
  have e1 : σ1.length = σ.length + 1 + ((mstat ++ ml_ini).length - 12) := hI1.2.2.2.1
  have e2 : (mstat ++ ml_ini).length = 44 := by rw [List.length_append, mstat_len]; rfl
  have hc1 : SCR σ1 L xs := by obtain ⟨dv, ov, q1, q2⟩ := hc; exact ⟨dv, ov, by rw [mk_stay hI1 (by omega) (by omega)]; exact q1, q2⟩
  refine Ew_of (pcₚ := 8) (fun _ => x_astore_n rfl) ?_
  refine w_new rfl ?_
  show Ew 455 (d + 14) 11 _ [.ref σ1.length] (σ1 ++ [.inl (1, fl_rin)]) _ _ Q
  refine Ew_of (pcₚ := 12) (fun _ => x_dup rfl rfl) ?_
  refine w_callk rfl (fun rec => rinvs rfl rfl rat_ae rec) rfl (mk_newR (e := d + 11) (d := 2) ev_rin X1.2.1 rfl (by omega) (fun σ2 hI2 => ⟨rfl, ?_⟩))
  have Y2 := RHI_ini (by omega) hI2
  have X2 := PHI_keep X1 (mk_ST (mr0_F (by omega)) hI2) (fun x hx hp => mk_stay hI2 (by have := X1.1.lo x hx hp; omega) (X1.1.lt hx hp))
  have hc2 : SCR σ2 L xs := by obtain ⟨dv, ov, q1, q2⟩ := hc1; exact ⟨dv, ov, by rw [mk_stay hI2 (by omega) (by omega)]; exact q1, q2⟩
  have hs := (fun x hx hp o ho e => by have a := X1.1.lt hx hp; have b := hzD_ge (a := σ1.length) (κ := κ_rin) (by decide +kernel) ho; rw [← e] at b; omega : SEP g0 (glu ι_ini (fun _ => 0) (fun x => mr0 σ.length (κ_ini.getD x 0))) (hzD (mr0 σ1.length) κ_rin))
  refine Ew_of (pcₚ := 16) (fun _ => x_astore_n rfl) ?_
  refine Ew_of (pcₚ := 17) (fun _ => x_iconst rfl) ?_
  refine Ew_of (pcₚ := 18) (fun _ => x_istore_n rfl) ?_
  have nn := PCg_nn (g := g0) (N := (glu ι_ini (fun _ => 0) (mN κ_ini (mstat ++ ml_ini))))
  refine law_loop (CB := 119) (SB := 1481247) hx hL hQ (L + 1) X2 Y2 hs hc2 EQS_ini (i := 0) ⟨by decide, by decide⟩ (by omega) (rk_o (rk_o (rk_o rfl rfl rfl) rfl rfl) rfl rfl) (rk_o (rk_o rk_s rfl rfl) rfl rfl) (rk_o rk_s rfl rfl) rk_s ?_ ?_
  · omega
  · omega
