/-- Writer.tell -/
theorem M403b {σ0 σ : rS} {D N : Nat → Nat} {F : hF} {A : hA} {d c s : Nat} {Q : wQ} (H : HS σ0 σ D N F A) {a1 a2 a3 a4 a5 : Int} (w66 : Int → Int) (ew66 : A 66 = w66) (w67 : Int → Int) (ew67 : A 67 = w67) (h0 : inr (a1)) (h1 : inr (a2)) (h2 : inr (a3)) (h3 : inr (a4)) (h4 : inr (a5)) (h5 : 0 ≤ (a1) ∧ (a1) ≤ 2 ∧ 0 ≤ (a2) ∧ (a2) ≤ 8000) (h6 : 0 ≤ (a3) ∧ (a3) ≤ 63 ∧ 0 ≤ (a4) ∧ (a4) ≤ 31) (k : ∀ σ Fₚ Aₚ, HS σ0 σ D N Fₚ Aₚ → SF [] F Fₚ → SA [66, 67, 68] A Aₚ → ∀ v66 : Int → Int, Aₚ 66 = v66 → ∀ v67 : Int → Int, Aₚ 67 = v67 → ((v66) = upd1 ((w66)) (8001 * (a1) + (a2)) ((a3))) → ((v67) = upd1 ((w67)) (8001 * (a1) + (a2)) ((a4))) → Q none σ c s) : Ew 403 (d + 0) 0 (rargs 0 [.ref (D 6), I a1, I a2, I a3, I a4, I a5]) [] σ c s Q := by
  refine Ew_of (pcₚ := 1) (fun _ => x_aload_n rfl rfl) ?_
  refine w_gT H (o := 6) (t := 66) rfl (H.perm 6 rfl) rfl rfl rfl rfl rfl rfl ?_
  refine Ew_of (pcₚ := 7) (fun _ => x_sipush (z := 8001) rfl (by decide)) ?_
  refine Ew_of (pcₚ := 8) (fun _ => x_iload_n rfl rfl) ?_
  refine w_imul rfl ?_
  refine Ew_of (pcₚ := 10) (fun _ => x_iload_n rfl rfl) ?_
  refine w_iadd rfl ?_
  refine Ew_of (pcₚ := 12) (fun _ => x_iload_n rfl rfl) ?_
  refine w_sI H (o := 66) (n := 24003) rfl (H.perm 66 rfl) rfl rfl (H.fix 66 rfl rfl) (show 0 ≤ ((8001 * a1) + a2) ∧ ((8001 * a1) + a2) < ((24003 : Nat) : Int) from q_1773 h5) (by decide) (show (0 : Int) ≤ a3 ∧ a3 ≤ 63 from q_1772 h6) (fun σ H => ?_)
  refine Ew_of (pcₚ := 14) (fun _ => x_aload_n rfl rfl) ?_
  refine w_gT H (o := 6) (t := 67) rfl (H.perm 6 rfl) rfl rfl rfl rfl rfl rfl ?_
  refine Ew_of (pcₚ := 20) (fun _ => x_sipush (z := 8001) rfl (by decide)) ?_
  refine Ew_of (pcₚ := 21) (fun _ => x_iload_n rfl rfl) ?_
  refine w_imul rfl ?_
  refine Ew_of (pcₚ := 23) (fun _ => x_iload_n rfl rfl) ?_
  refine w_iadd rfl ?_
  refine Ew_of (pcₚ := 26) (fun _ => x_iload rfl rfl) ?_
  refine w_sI H (o := 67) (n := 24003) rfl (H.perm 67 rfl) rfl rfl (H.fix 67 rfl rfl) (show 0 ≤ ((8001 * a1) + a2) ∧ ((8001 * a1) + a2) < ((24003 : Nat) : Int) from q_1773 h5) (by decide) (show (0 : Int) ≤ a4 ∧ a4 ≤ 31 from q_1774 h6) (fun σ H => ?_)
  refine Ew_of (pcₚ := 28) (fun _ => x_aload_n rfl rfl) ?_
  refine w_gT H (o := 6) (t := 68) rfl (H.perm 6 rfl) rfl rfl rfl rfl rfl rfl ?_
  refine Ew_of (pcₚ := 34) (fun _ => x_sipush (z := 8001) rfl (by decide)) ?_
  refine Ew_of (pcₚ := 35) (fun _ => x_iload_n rfl rfl) ?_
  refine w_imul rfl ?_
  refine Ew_of (pcₚ := 37) (fun _ => x_iload_n rfl rfl) ?_
  refine w_iadd rfl ?_
  refine Ew_of (pcₚ := 40) (fun _ => x_iload rfl rfl) ?_
  refine w_sI H (o := 68) (n := 24003) rfl (H.perm 68 rfl) rfl rfl (H.fix 68 rfl rfl) (show 0 ≤ ((8001 * a1) + a2) ∧ ((8001 * a1) + a2) < ((24003 : Nat) : Int) from q_1773 h5) (by decide) (show (-2147483648 : Int) ≤ a5 ∧ a5 ≤ 2147483647 from q_61 h4) (fun σ H => ?_)
  have : ((upd1 (w66) (((8001 * a1) + a2)) (a3))) = upd1 ((w66)) (8001 * (a1) + (a2)) ((a3)) := rfl
  have : ((upd1 (w67) (((8001 * a1) + a2)) (a4))) = upd1 ((w67)) (8001 * (a1) + (a2)) ((a4)) := rfl
  exact w_ret rfl (k σ _ _ H (SF_refl) (SA_upd (SA_upd (SA_upd (SA_refl) rfl) rfl) rfl) (upd1 (w66) (((8001 * a1) + a2)) (a3)) (congrArg (fun q => upd1 q (((8001 * a1) + a2)) (a3)) (ew66)) (upd1 (w67) (((8001 * a1) + a2)) (a4)) (congrArg (fun q => upd1 q (((8001 * a1) + a2)) (a4)) (ew67)) (show (upd1 (w66) (((8001 * a1) + a2)) (a3)) = upd1 ((w66)) (8001 * a1 + a2) (a3) by assumption) (show (upd1 (w67) (((8001 * a1) + a2)) (a4)) = upd1 ((w67)) (8001 * a1 + a2) (a4) by assumption))
