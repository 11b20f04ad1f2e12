/-- Writer.tell -/
theorem M403b {σ0 σ : rS} {D N : Nat → Nat} {F : hF} {A : hA} {d c s : Nat} {Q : wQ} (H : HS σ0 σ D N F A) {a1 a2 a3 a4 a5 : Int} (w66 : Int → Int) (ew66 : A 66 = w66) (w67 : Int → Int) (ew67 : A 67 = w67) (w68 : Int → Int) (ew68 : A 68 = w68) (h0 : inr (a1)) (h1 : inr (a2)) (h2 : inr (a3)) (h3 : inr (a4)) (h4 : inr (a5)) (h5 : 0 ≤ (a1) ∧ (a1) ≤ 2 ∧ 0 ≤ (a2) ∧ (a2) ≤ 8000) (h6 : 0 ≤ (a3) ∧ (a3) ≤ 63 ∧ 0 ≤ (a4) ∧ (a4) ≤ 31) (k : ∀ σ F' A', HS σ0 σ D N F' A' → SF [] F F' → SA [66, 67, 68] A A' → ∀ v66 : Int → Int, A' 66 = v66 → ∀ v67 : Int → Int, A' 67 = v67 → ∀ v68 : Int → Int, A' 68 = v68 → ((v66) = upd1 ((w66)) (8001 * (a1) + (a2)) ((a3))) → ((v67) = upd1 ((w67)) (8001 * (a1) + (a2)) ((a4))) → ((v68) = upd1 ((w68)) (8001 * (a1) + (a2)) ((a5))) → Q none σ c s) : Ew 403 (d + 0) 0 (rargs 0 [.ref (D 6), I a1, I a2, I a3, I a4, I a5]) [] σ c s Q := by
  refine Ew_of (pc' := 1) (fun _ => x_aload_n rfl rfl) ?_
  refine w_gT H (o := 6) (t := 66) rfl (H.perm 6 rfl) rfl rfl rfl rfl rfl rfl ?_
  refine Ew_of (pc' := 7) (fun _ => x_sipush (z := 8001) rfl (by decide)) ?_
  refine Ew_of (pc' := 8) (fun _ => x_iload_n rfl rfl) ?_
  refine w_imul rfl ?_
  refine Ew_of (pc' := 10) (fun _ => x_iload_n rfl rfl) ?_
  refine w_iadd rfl ?_
  refine Ew_of (pc' := 12) (fun _ => x_iload_n rfl rfl) ?_
  refine w_sI H (o := 66) (n := 24003) rfl (H.perm 66 rfl) rfl rfl (H.fix 66 rfl rfl) (show 0 ≤ ((8001 * a1) + a2) ∧ ((8001 * a1) + a2) < ((24003 : Nat) : Int) by omega) (by decide) (show (0 : Int) ≤ a3 ∧ a3 ≤ 63 by omega) (fun σ H => ?_)
  refine Ew_of (pc' := 14) (fun _ => x_aload_n rfl rfl) ?_
  refine w_gT H (o := 6) (t := 67) rfl (H.perm 6 rfl) rfl rfl rfl rfl rfl rfl ?_
  refine Ew_of (pc' := 20) (fun _ => x_sipush (z := 8001) rfl (by decide)) ?_
  refine Ew_of (pc' := 21) (fun _ => x_iload_n rfl rfl) ?_
  refine w_imul rfl ?_
  refine Ew_of (pc' := 23) (fun _ => x_iload_n rfl rfl) ?_
  refine w_iadd rfl ?_
  refine Ew_of (pc' := 26) (fun _ => x_iload rfl rfl) ?_
  refine w_sI H (o := 67) (n := 24003) rfl (H.perm 67 rfl) rfl rfl (H.fix 67 rfl rfl) (show 0 ≤ ((8001 * a1) + a2) ∧ ((8001 * a1) + a2) < ((24003 : Nat) : Int) by omega) (by decide) (show (0 : Int) ≤ a4 ∧ a4 ≤ 31 by omega) (fun σ H => ?_)
  refine Ew_of (pc' := 28) (fun _ => x_aload_n rfl rfl) ?_
  refine w_gT H (o := 6) (t := 68) rfl (H.perm 6 rfl) rfl rfl rfl rfl rfl rfl ?_
  refine Ew_of (pc' := 34) (fun _ => x_sipush (z := 8001) rfl (by decide)) ?_
  refine Ew_of (pc' := 35) (fun _ => x_iload_n rfl rfl) ?_
  refine w_imul rfl ?_
  refine Ew_of (pc' := 37) (fun _ => x_iload_n rfl rfl) ?_
  refine w_iadd rfl ?_
  refine Ew_of (pc' := 40) (fun _ => x_iload rfl rfl) ?_
  refine w_sI H (o := 68) (n := 24003) rfl (H.perm 68 rfl) rfl rfl (H.fix 68 rfl rfl) (show 0 ≤ ((8001 * a1) + a2) ∧ ((8001 * a1) + a2) < ((24003 : Nat) : Int) by omega) (by decide) (show (-2147483648 : Int) ≤ a5 ∧ a5 ≤ 2147483647 by omega) (fun σ H => ?_)
  have : ((upd1 (w66) (((8001 * a1) + a2)) (a3))) = upd1 ((w66)) (8001 * (a1) + (a2)) ((a3)) := rfl
  have : ((upd1 (w67) (((8001 * a1) + a2)) (a4))) = upd1 ((w67)) (8001 * (a1) + (a2)) ((a4)) := rfl
  have : ((upd1 (w68) (((8001 * a1) + a2)) (a5))) = upd1 ((w68)) (8001 * (a1) + (a2)) ((a5)) := rfl
  exact w_ret rfl (k σ _ _ H (SF_refl) (SA_upd (SA_upd (SA_upd (SA_refl) rfl) rfl) rfl) (upd1 (w66) (((8001 * a1) + a2)) (a3)) (congrArg (fun q => upd1 q (((8001 * a1) + a2)) (a3)) (ew66)) (upd1 (w67) (((8001 * a1) + a2)) (a4)) (congrArg (fun q => upd1 q (((8001 * a1) + a2)) (a4)) (ew67)) (upd1 (w68) (((8001 * a1) + a2)) (a5)) (congrArg (fun q => upd1 q (((8001 * a1) + a2)) (a5)) (ew68)) (show (upd1 (w66) (((8001 * a1) + a2)) (a3)) = upd1 ((w66)) (8001 * a1 + a2) (a3) by assumption) (show (upd1 (w67) (((8001 * a1) + a2)) (a4)) = upd1 ((w67)) (8001 * a1 + a2) (a4) by assumption) (show (upd1 (w68) (((8001 * a1) + a2)) (a5)) = upd1 ((w68)) (8001 * a1 + a2) (a5) by assumption))
