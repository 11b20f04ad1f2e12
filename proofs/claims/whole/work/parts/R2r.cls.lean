/-- PackHouse.isPart: #1 -/
theorem C27_Rowp {σE : rS} {D N : Nat → Nat} {F : hF} {A : hA} {d c s : Nat} {Q : wQ} (H : HW V27_Row σE D N F A) {a2 a3 : Int} (u0_1 : Int) (eu0_1 : F 0 1 = u0_1) (h0 : inr (a2)) (h1 : inr (a3)) (k : ∀ (z : Int) (σ : rS) (F' : hF) (A' : hA), HW V27_Row σ D N F' A' → OUT (V27_Row).length D N σE c s D N σ c s → SF [] F F' → SA [] A A' → ((z) = 0 ∨ (z) = 1) → ((z) = 1 ∧ 0 ≤ (a2) ∧ (a2) ≤ (a3) ∧ (a3) ≤ (u0_1) ∨ (z) = 0 ∧ ¬ (0 ≤ (a2) ∧ (a2) ≤ (a3) ∧ (a3) ≤ (u0_1))) → Q (some (I z)) σ c s) : Ew 27 (d + 0) 0 (rargs 0 [.ref (D 0), I a2, I a3]) [] σE c s Q := by
  have O := OUT_refl (n := (V27_Row).length) (D := D) (N := N) (σ := σE) (c := c) (s := s)
  have HE := H
  have r1 : HID ((-2147483648 : Int) ≤ u0_1 ∧ u0_1 ≤ 2147483647) := krg_e (show (-2147483648 : Int) ≤ F 0 1 ∧ F 0 1 ≤ 2147483647 from H.krg 0 1 (by decide)) (show F 0 1 = u0_1 from (eu0_1))
  replace eu0_1 := HIDm eu0_1
  refine Ew_of (pc' := 1) (fun _ => x_iconst rfl) ?_
  refine Ew_of (pc' := 2) (fun _ => x_iload_n rfl rfl) ?_
  refine w_icmpgt (t := 22) rfl rfl (show inr (0) by omega) (show inr (a2) by omega) (fun b2 => ?_) (fun b2 => ?_)
  · refine Ew_of (pc' := 23) (fun _ => x_iconst rfl) ?_
    exact w_ireturn rfl (k (0) _ _ _ H O (SF_refl) (SA_refl) (show (0) = 0 ∨ (0) = 1 by omega) (show (0) = 1 ∧ 0 ≤ a2 ∧ a2 ≤ a3 ∧ a3 ≤ (u0_1) ∨ (0) = 0 ∧ ¬ (0 ≤ a2 ∧ a2 ≤ a3 ∧ a3 ≤ (u0_1)) by have qh0 := HIDe r1; omega))
  · refine Ew_of (pc' := 6) (fun _ => x_iload_n rfl rfl) ?_
    refine Ew_of (pc' := 7) (fun _ => x_iload_n rfl rfl) ?_
    refine w_icmpgt (t := 22) rfl rfl (show inr (a2) by omega) (show inr (a3) by omega) (fun b3 => ?_) (fun b3 => ?_)
    · refine Ew_of (pc' := 23) (fun _ => x_iconst rfl) ?_
      exact w_ireturn rfl (k (0) _ _ _ H O (SF_refl) (SA_refl) (show (0) = 0 ∨ (0) = 1 by omega) (show (0) = 1 ∧ 0 ≤ a2 ∧ a2 ≤ a3 ∧ a3 ≤ (u0_1) ∨ (0) = 0 ∧ ¬ (0 ≤ a2 ∧ a2 ≤ a3 ∧ a3 ≤ (u0_1)) by have qh0 := HIDe r1; omega))
    · refine Ew_of (pc' := 11) (fun _ => x_iload_n rfl rfl) ?_
      refine Ew_of (pc' := 12) (fun _ => x_aload_n rfl rfl) ?_
      refine v_g H (o := 0) (v := I (u0_1)) rfl rfl rfl rfl rfl (congrArg (fun z : Int => I z) ((eu0_1) : F 0 1 = u0_1)) ?_
      refine w_icmpgt (t := 22) rfl rfl (show inr (a3) by omega) (show inr (u0_1) by have qh0 := HIDe r1; omega) (fun b4 => ?_) (fun b4 => ?_)
      · refine Ew_of (pc' := 23) (fun _ => x_iconst rfl) ?_
        exact w_ireturn rfl (k (0) _ _ _ H O (SF_refl) (SA_refl) (show (0) = 0 ∨ (0) = 1 by omega) (show (0) = 1 ∧ 0 ≤ a2 ∧ a2 ≤ a3 ∧ a3 ≤ (u0_1) ∨ (0) = 0 ∧ ¬ (0 ≤ a2 ∧ a2 ≤ a3 ∧ a3 ≤ (u0_1)) by have qh0 := HIDe r1; omega))
      · refine Ew_of (pc' := 19) (fun _ => x_iconst rfl) ?_
        refine Ew_of (pc' := 23) (fun _ => x_goto rfl rfl) ?_
        exact w_ireturn rfl (k (1) _ _ _ H O (SF_refl) (SA_refl) (show (1) = 0 ∨ (1) = 1 by omega) (show (1) = 1 ∧ 0 ≤ a2 ∧ a2 ≤ a3 ∧ a3 ≤ (u0_1) ∨ (1) = 0 ∧ ¬ (0 ≤ a2 ∧ a2 ≤ a3 ∧ a3 ≤ (u0_1)) by have qh0 := HIDe r1; omega))
