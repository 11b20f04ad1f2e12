/-- Row.clear: this -/
theorem C156h {σE : rS} {D N : Nat → Nat} {F : hF} {A : hA} {d c s : Nat} {Q : wQ} (H : HW V156 σE D N F A)  (u0_1 : Int) (eu0_1 : F 0 1 = u0_1) (u0_2 : Int) (eu0_2 : F 0 2 = u0_2) (u0_3 : Int) (eu0_3 : F 0 3 = u0_3) (u0_4 : Int) (eu0_4 : F 0 4 = u0_4) (k : ∀ (σ : rS) (F' : hF) (A' : hA), HW V156 σ D N F' A' → OUT (V156).length D N σE c s D N σ c s → SF [(0, 1), (0, 2), (0, 3), (0, 4)] F F' → SA [] A A' → ∀ y0_1 : Int, F' 0 1 = y0_1 → ∀ y0_2 : Int, F' 0 2 = y0_2 → ∀ y0_3 : Int, F' 0 3 = y0_3 → ∀ y0_4 : Int, F' 0 4 = y0_4 → ((y0_1) = 0 ∧ (y0_4) = 0 ∧ (y0_2) = 0) → ((y0_3) = 0) → Q none σ c s) : Ew 156 (d + 0) 0 (rargs 0 [.ref (D 0)]) [] σE c s Q := by
  have O := OUT_refl (n := (V156).length) (D := D) (N := N) (σ := σE) (c := c) (s := s)
  have HE := H
  have r1 : (-2147483648 : Int) ≤ u0_1 ∧ u0_1 ≤ 2147483647 := by have h1 : (-2147483648 : Int) ≤ F 0 1 ∧ F 0 1 ≤ 2147483647 := H.krg 0 1 (by decide); rw [show F 0 1 = u0_1 from (eu0_1)] at h1; exact h1
  have r2 : (0 : Int) ≤ u0_2 ∧ u0_2 ≤ 1 := by have h1 : (0 : Int) ≤ F 0 2 ∧ F 0 2 ≤ 1 := H.krg 0 2 (by decide); rw [show F 0 2 = u0_2 from (eu0_2)] at h1; exact h1
  have r3 : (-2147483648 : Int) ≤ u0_3 ∧ u0_3 ≤ 2147483647 := by have h1 : (-2147483648 : Int) ≤ F 0 3 ∧ F 0 3 ≤ 2147483647 := H.krg 0 3 (by decide); rw [show F 0 3 = u0_3 from (eu0_3)] at h1; exact h1
  have r4 : (-2147483648 : Int) ≤ u0_4 ∧ u0_4 ≤ 2147483647 := by have h1 : (-2147483648 : Int) ≤ F 0 4 ∧ F 0 4 ≤ 2147483647 := H.krg 0 4 (by decide); rw [show F 0 4 = u0_4 from (eu0_4)] at h1; exact h1
  refine Ew_of (pc' := 1) (fun _ => x_aload_n rfl rfl) ?_
  refine Ew_of (pc' := 2) (fun _ => x_iconst rfl) ?_
  refine v_p H (o := 0) (z := 0) (v := I (0)) rfl rfl rfl rfl rfl rfl rfl rfl (show (-2147483648 : Int) ≤ 0 ∧ 0 ≤ 2147483647 by omega) (fun σ H O' => ?_)
  have O := OUT_trans O O'
  refine Ew_of (pc' := 6) (fun _ => x_aload_n rfl rfl) ?_
  refine Ew_of (pc' := 7) (fun _ => x_iconst rfl) ?_
  refine v_p H (o := 0) (z := 0) (v := I (0)) rfl rfl rfl rfl rfl rfl rfl (rfit_b (by omega)) (show (0 : Int) ≤ 0 ∧ 0 ≤ 1 by omega) (fun σ H O' => ?_)
  have O := OUT_trans O O'
  refine Ew_of (pc' := 11) (fun _ => x_aload_n rfl rfl) ?_
  refine Ew_of (pc' := 12) (fun _ => x_iconst rfl) ?_
  refine v_p H (o := 0) (z := 0) (v := I (0)) rfl rfl rfl rfl rfl rfl rfl rfl (show (-2147483648 : Int) ≤ 0 ∧ 0 ≤ 2147483647 by omega) (fun σ H O' => ?_)
  have O := OUT_trans O O'
  refine Ew_of (pc' := 16) (fun _ => x_aload_n rfl rfl) ?_
  refine Ew_of (pc' := 17) (fun _ => x_iconst rfl) ?_
  refine v_p H (o := 0) (z := 0) (v := I (0)) rfl rfl rfl rfl rfl rfl rfl rfl (show (-2147483648 : Int) ≤ 0 ∧ 0 ≤ 2147483647 by omega) (fun σ H O' => ?_)
  have O := OUT_trans O O'
  exact w_ret rfl (k _ _ _ H O (SF_upd (SF_upd (SF_upd (SF_upd (SF_refl) rfl) rfl) rfl) rfl) (SA_refl) (0) (rfl) (0) (rfl) (0) (rfl) (0) (rfl) (show (0) = 0 ∧ (0) = 0 ∧ (0) = 0 by omega) (show (0) = 0 by omega))
/-- Row.endBits: this, this.bytes -/
theorem C165h {σE : rS} {D N : Nat → Nat} {F : hF} {A : hA} {d c s : Nat} {Q : wQ} (H : HW V165 σE D N F A)  (pf1 : F 0 0 = (D 1 : Int)) (n1 : Int) (en1 : (N 1 : Int) = n1) (u0_1 : Int) (eu0_1 : F 0 1 = u0_1) (u0_2 : Int) (eu0_2 : F 0 2 = u0_2) (u0_3 : Int) (eu0_3 : F 0 3 = u0_3) (u0_4 : Int) (eu0_4 : F 0 4 = u0_4) (w1 : Int → Int) (ew1 : A 1 = w1) (h0 : 0 ≤ (u0_1) ∧ (u0_1) ≤ (n1) ∧ (n1) ≤ 65536) (h1 : 0 ≤ (u0_4)) (k : ∀ (σ : rS) (F' : hF) (A' : hA), HW V165 σ D N F' A' → OUT (V165).length D N σE c s D N σ c s → SF [(0, 1), (0, 2), (0, 3), (0, 4)] F F' → SA [1] A A' → ∀ y0_1 : Int, F' 0 1 = y0_1 → ∀ y0_2 : Int, F' 0 2 = y0_2 → ∀ y0_3 : Int, F' 0 3 = y0_3 → ∀ y0_4 : Int, F' 0 4 = y0_4 → ∀ v1 : Int → Int, A' 1 = v1 → (0 ≤ (y0_1) ∧ (y0_1) ≤ (n1) ∧ (n1) ≤ 65536) → ((y0_4) = 0 ∧ (u0_1) ≤ (y0_1)) → ((y0_3) = 0) → (IMP ((u0_4) ≤ 7 ∧ ((u0_4) = 0 ∨ (u0_1) < (n1))) (RBE ((u0_2)) ((w1)) ((u0_1)) ((u0_3)) ((u0_4)) ((y0_2)) ((v1)) ((y0_1)) 0 0)) → ((y0_1) ≤ (u0_1) + 1) → Q none σ c s) : Ew 165 (d + 0) 0 (rargs 0 [.ref (D 0)]) [] σE c s Q := by
  have O := OUT_refl (n := (V165).length) (D := D) (N := N) (σ := σE) (c := c) (s := s)
  have HE := H
  have r1 : (-2147483648 : Int) ≤ u0_1 ∧ u0_1 ≤ 2147483647 := by have h1 : (-2147483648 : Int) ≤ F 0 1 ∧ F 0 1 ≤ 2147483647 := H.krg 0 1 (by decide); rw [show F 0 1 = u0_1 from (eu0_1)] at h1; exact h1
  have r2 : (0 : Int) ≤ u0_2 ∧ u0_2 ≤ 1 := by have h1 : (0 : Int) ≤ F 0 2 ∧ F 0 2 ≤ 1 := H.krg 0 2 (by decide); rw [show F 0 2 = u0_2 from (eu0_2)] at h1; exact h1
  have r3 : (-2147483648 : Int) ≤ u0_3 ∧ u0_3 ≤ 2147483647 := by have h1 : (-2147483648 : Int) ≤ F 0 3 ∧ F 0 3 ≤ 2147483647 := H.krg 0 3 (by decide); rw [show F 0 3 = u0_3 from (eu0_3)] at h1; exact h1
  have r4 : (-2147483648 : Int) ≤ u0_4 ∧ u0_4 ≤ 2147483647 := by have h1 : (-2147483648 : Int) ≤ F 0 4 ∧ F 0 4 ≤ 2147483647 := H.krg 0 4 (by decide); rw [show F 0 4 = u0_4 from (eu0_4)] at h1; exact h1
  have r5 : (0 : Int) ≤ n1 ∧ n1 ≤ 1000000 := by have h1 := H.nle 1 (by decide); have h2 : (N 1 : Int) = n1 := en1; omega
  refine Ew_of (pc' := 1) (fun _ => x_aload_n rfl rfl) ?_
  refine v_g H (o := 0) (v := I (u0_4)) rfl rfl rfl rfl rfl (congrArg (fun z : Int => I z) ((eu0_4) : F 0 4 = u0_4)) ?_
  refine w_ifle (t := 43) rfl rfl (show inr (u0_4) by omega) (fun b6 => ?_) (fun b6 => ?_)
  · refine Ew_of (pc' := 44) (fun _ => x_aload_n rfl rfl) ?_
    refine v_g H (o := 0) (v := I (u0_4)) rfl rfl rfl rfl rfl (congrArg (fun z : Int => I z) ((eu0_4) : F 0 4 = u0_4)) ?_
    refine w_ifle (t := 55) rfl rfl (show inr (u0_4) by omega) (fun b7 => ?_) (fun b7 => ?_)
    · refine Ew_of (pc' := 56) (fun _ => x_aload_n rfl rfl) ?_
      refine Ew_of (pc' := 57) (fun _ => x_iconst rfl) ?_
      refine v_p H (o := 0) (z := 0) (v := I (0)) rfl rfl rfl rfl rfl rfl rfl rfl (show (-2147483648 : Int) ≤ 0 ∧ 0 ≤ 2147483647 by omega) (fun σ H O' => ?_)
      have O := OUT_trans O O'
      refine Ew_of (pc' := 61) (fun _ => x_aload_n rfl rfl) ?_
      refine Ew_of (pc' := 62) (fun _ => x_iconst rfl) ?_
      refine v_p H (o := 0) (z := 0) (v := I (0)) rfl rfl rfl rfl rfl rfl rfl rfl (show (-2147483648 : Int) ≤ 0 ∧ 0 ≤ 2147483647 by omega) (fun σ H O' => ?_)
      have O := OUT_trans O O'
      have : IMP ((u0_4) ≤ 7 ∧ ((u0_4) = 0 ∨ (u0_1) < (n1))) (RBE ((u0_2)) ((w1)) ((u0_1)) ((u0_3)) ((u0_4)) ((u0_2)) ((w1)) ((u0_1)) 0 0) := fun q => by have q1 := q.1; have q2 := q.2; first | exact RBE_y (by omega) (by omega) hub rfl | exact RBE_0 (by omega) | omega
      exact w_ret rfl (k _ _ _ H O (SF_upd (SF_upd (SF_refl) rfl) rfl) (SA_refl) (u0_1) ((eu0_1)) (u0_2) ((eu0_2)) (0) (rfl) (0) (rfl) (w1) (ew1) (show 0 ≤ (u0_1) ∧ (u0_1) ≤ (n1) ∧ (n1) ≤ 65536 by omega) (show (0) = 0 ∧ (u0_1) ≤ (u0_1) by omega) (show (0) = 0 by omega) (show IMP ((u0_4) ≤ 7 ∧ ((u0_4) = 0 ∨ (u0_1) < (n1))) (RBE ((u0_2)) ((w1)) ((u0_1)) ((u0_3)) ((u0_4)) ((u0_2)) ((w1)) ((u0_1)) 0 0) by assumption) (show (u0_1) ≤ (u0_1) + 1 by omega))
    · refine Ew_of (pc' := 51) (fun _ => x_aload_n rfl rfl) ?_
      refine Ew_of (pc' := 52) (fun _ => x_iconst rfl) ?_
      refine v_p H (o := 0) (z := 1) (v := I (1)) rfl rfl rfl rfl rfl rfl rfl (rfit_b (by omega)) (show (0 : Int) ≤ 1 ∧ 1 ≤ 1 by omega) (fun σ H O' => ?_)
      have O := OUT_trans O O'
      refine Ew_of (pc' := 56) (fun _ => x_aload_n rfl rfl) ?_
      refine Ew_of (pc' := 57) (fun _ => x_iconst rfl) ?_
      refine v_p H (o := 0) (z := 0) (v := I (0)) rfl rfl rfl rfl rfl rfl rfl rfl (show (-2147483648 : Int) ≤ 0 ∧ 0 ≤ 2147483647 by omega) (fun σ H O' => ?_)
      have O := OUT_trans O O'
      refine Ew_of (pc' := 61) (fun _ => x_aload_n rfl rfl) ?_
      refine Ew_of (pc' := 62) (fun _ => x_iconst rfl) ?_
      refine v_p H (o := 0) (z := 0) (v := I (0)) rfl rfl rfl rfl rfl rfl rfl rfl (show (-2147483648 : Int) ≤ 0 ∧ 0 ≤ 2147483647 by omega) (fun σ H O' => ?_)
      have O := OUT_trans O O'
      have : IMP ((u0_4) ≤ 7 ∧ ((u0_4) = 0 ∨ (u0_1) < (n1))) (RBE ((u0_2)) ((w1)) ((u0_1)) ((u0_3)) ((u0_4)) ((1)) ((w1)) ((u0_1)) 0 0) := fun q => by have q1 := q.1; have q2 := q.2; first | exact RBE_y (by omega) (by omega) hub rfl | exact RBE_0 (by omega) | omega
      exact w_ret rfl (k _ _ _ H O (SF_upd (SF_upd (SF_upd (SF_refl) rfl) rfl) rfl) (SA_refl) (u0_1) ((eu0_1)) (1) (rfl) (0) (rfl) (0) (rfl) (w1) (ew1) (show 0 ≤ (u0_1) ∧ (u0_1) ≤ (n1) ∧ (n1) ≤ 65536 by omega) (show (0) = 0 ∧ (u0_1) ≤ (u0_1) by omega) (show (0) = 0 by omega) (show IMP ((u0_4) ≤ 7 ∧ ((u0_4) = 0 ∨ (u0_1) < (n1))) (RBE ((u0_2)) ((w1)) ((u0_1)) ((u0_3)) ((u0_4)) ((1)) ((w1)) ((u0_1)) 0 0) by assumption) (show (u0_1) ≤ (u0_1) + 1 by omega))
  · refine Ew_of (pc' := 8) (fun _ => x_aload_n rfl rfl) ?_
    refine v_g H (o := 0) (v := I (u0_1)) rfl rfl rfl rfl rfl (congrArg (fun z : Int => I z) ((eu0_1) : F 0 1 = u0_1)) ?_
    refine Ew_of (pc' := 12) (fun _ => x_aload_n rfl rfl) ?_
    refine v_g H (o := 0) (v := .ref (D 1)) rfl rfl rfl rfl rfl (vrf (pf1)) ?_
    refine v_len H (o := 1) rfl rfl rfl rfl (n := n1) (en1) ?_
    refine w_icmpge (t := 43) rfl rfl (show inr (u0_1) by omega) (show inr (n1) by omega) (fun b8 => ?_) (fun b8 => ?_)
    · refine Ew_of (pc' := 44) (fun _ => x_aload_n rfl rfl) ?_
      refine v_g H (o := 0) (v := I (u0_4)) rfl rfl rfl rfl rfl (congrArg (fun z : Int => I z) ((eu0_4) : F 0 4 = u0_4)) ?_
      refine w_ifle (t := 55) rfl rfl (show inr (u0_4) by omega) (fun b9 => ?_) (fun b9 => ?_)
      · refine Ew_of (pc' := 56) (fun _ => x_aload_n rfl rfl) ?_
        refine Ew_of (pc' := 57) (fun _ => x_iconst rfl) ?_
        refine v_p H (o := 0) (z := 0) (v := I (0)) rfl rfl rfl rfl rfl rfl rfl rfl (show (-2147483648 : Int) ≤ 0 ∧ 0 ≤ 2147483647 by omega) (fun σ H O' => ?_)
        have O := OUT_trans O O'
        refine Ew_of (pc' := 61) (fun _ => x_aload_n rfl rfl) ?_
        refine Ew_of (pc' := 62) (fun _ => x_iconst rfl) ?_
        refine v_p H (o := 0) (z := 0) (v := I (0)) rfl rfl rfl rfl rfl rfl rfl rfl (show (-2147483648 : Int) ≤ 0 ∧ 0 ≤ 2147483647 by omega) (fun σ H O' => ?_)
        have O := OUT_trans O O'
        have : IMP ((u0_4) ≤ 7 ∧ ((u0_4) = 0 ∨ (u0_1) < (n1))) (RBE ((u0_2)) ((w1)) ((u0_1)) ((u0_3)) ((u0_4)) ((u0_2)) ((w1)) ((u0_1)) 0 0) := fun q => by have q1 := q.1; have q2 := q.2; first | exact RBE_y (by omega) (by omega) hub rfl | exact RBE_0 (by omega) | omega
        exact w_ret rfl (k _ _ _ H O (SF_upd (SF_upd (SF_refl) rfl) rfl) (SA_refl) (u0_1) ((eu0_1)) (u0_2) ((eu0_2)) (0) (rfl) (0) (rfl) (w1) (ew1) (show 0 ≤ (u0_1) ∧ (u0_1) ≤ (n1) ∧ (n1) ≤ 65536 by omega) (show (0) = 0 ∧ (u0_1) ≤ (u0_1) by omega) (show (0) = 0 by omega) (show IMP ((u0_4) ≤ 7 ∧ ((u0_4) = 0 ∨ (u0_1) < (n1))) (RBE ((u0_2)) ((w1)) ((u0_1)) ((u0_3)) ((u0_4)) ((u0_2)) ((w1)) ((u0_1)) 0 0) by assumption) (show (u0_1) ≤ (u0_1) + 1 by omega))
      · refine Ew_of (pc' := 51) (fun _ => x_aload_n rfl rfl) ?_
        refine Ew_of (pc' := 52) (fun _ => x_iconst rfl) ?_
        refine v_p H (o := 0) (z := 1) (v := I (1)) rfl rfl rfl rfl rfl rfl rfl (rfit_b (by omega)) (show (0 : Int) ≤ 1 ∧ 1 ≤ 1 by omega) (fun σ H O' => ?_)
        have O := OUT_trans O O'
        refine Ew_of (pc' := 56) (fun _ => x_aload_n rfl rfl) ?_
        refine Ew_of (pc' := 57) (fun _ => x_iconst rfl) ?_
        refine v_p H (o := 0) (z := 0) (v := I (0)) rfl rfl rfl rfl rfl rfl rfl rfl (show (-2147483648 : Int) ≤ 0 ∧ 0 ≤ 2147483647 by omega) (fun σ H O' => ?_)
        have O := OUT_trans O O'
        refine Ew_of (pc' := 61) (fun _ => x_aload_n rfl rfl) ?_
        refine Ew_of (pc' := 62) (fun _ => x_iconst rfl) ?_
        refine v_p H (o := 0) (z := 0) (v := I (0)) rfl rfl rfl rfl rfl rfl rfl rfl (show (-2147483648 : Int) ≤ 0 ∧ 0 ≤ 2147483647 by omega) (fun σ H O' => ?_)
        have O := OUT_trans O O'
        have : IMP ((u0_4) ≤ 7 ∧ ((u0_4) = 0 ∨ (u0_1) < (n1))) (RBE ((u0_2)) ((w1)) ((u0_1)) ((u0_3)) ((u0_4)) ((1)) ((w1)) ((u0_1)) 0 0) := fun q => by have q1 := q.1; have q2 := q.2; first | exact RBE_y (by omega) (by omega) hub rfl | exact RBE_0 (by omega) | omega
        exact w_ret rfl (k _ _ _ H O (SF_upd (SF_upd (SF_upd (SF_refl) rfl) rfl) rfl) (SA_refl) (u0_1) ((eu0_1)) (1) (rfl) (0) (rfl) (0) (rfl) (w1) (ew1) (show 0 ≤ (u0_1) ∧ (u0_1) ≤ (n1) ∧ (n1) ≤ 65536 by omega) (show (0) = 0 ∧ (u0_1) ≤ (u0_1) by omega) (show (0) = 0 by omega) (show IMP ((u0_4) ≤ 7 ∧ ((u0_4) = 0 ∨ (u0_1) < (n1))) (RBE ((u0_2)) ((w1)) ((u0_1)) ((u0_3)) ((u0_4)) ((1)) ((w1)) ((u0_1)) 0 0) by assumption) (show (u0_1) ≤ (u0_1) + 1 by omega))
    · refine Ew_of (pc' := 20) (fun _ => x_aload_n rfl rfl) ?_
      refine v_g H (o := 0) (v := .ref (D 1)) rfl rfl rfl rfl rfl (vrf (pf1)) ?_
      refine Ew_of (pc' := 24) (fun _ => x_aload_n rfl rfl) ?_
      refine Ew_of (pc' := 25) (fun _ => x_dup rfl rfl) ?_
      refine v_g H (o := 0) (v := I (u0_1)) rfl rfl rfl rfl rfl (congrArg (fun z : Int => I z) ((eu0_1) : F 0 1 = u0_1)) ?_
      refine Ew_of (pc' := 29) (fun _ => x_dup_x1 rfl rfl) ?_
      refine Ew_of (pc' := 30) (fun _ => x_iconst rfl) ?_
      refine w_iadd rfl ?_
      refine v_p H (o := 0) (z := (u0_1 + 1)) (v := I ((u0_1 + 1))) rfl rfl rfl rfl rfl rfl rfl rfl (show (-2147483648 : Int) ≤ (u0_1 + 1) ∧ (u0_1 + 1) ≤ 2147483647 by omega) (fun σ H O' => ?_)
      have O := OUT_trans O O'
      refine Ew_of (pc' := 35) (fun _ => x_aload_n rfl rfl) ?_
      refine v_g H (o := 0) (v := I (u0_3)) rfl rfl rfl rfl rfl (congrArg (fun z : Int => I z) ((eu0_3) : (updF F 0 1 ((u0_1 + 1))) 0 3 = u0_3)) ?_
      refine v_i2b rfl (fun z10 gz10 uz10 => ?_)
      have hu_ := uz10
      refine v_sB H (o := 1) rfl rfl rfl rfl (n := n1) (en1) (show 0 ≤ u0_1 ∧ u0_1 < n1 by omega) (fun z11 σ qz11 uz11 H O' => ?_)
      have O := OUT_trans O O'
      have hub := (uz11).trans hu_
      refine Ew_of (pc' := 55) (fun _ => x_goto rfl rfl) ?_
      refine Ew_of (pc' := 56) (fun _ => x_aload_n rfl rfl) ?_
      refine Ew_of (pc' := 57) (fun _ => x_iconst rfl) ?_
      refine v_p H (o := 0) (z := 0) (v := I (0)) rfl rfl rfl rfl rfl rfl rfl rfl (show (-2147483648 : Int) ≤ 0 ∧ 0 ≤ 2147483647 by omega) (fun σ H O' => ?_)
      have O := OUT_trans O O'
      refine Ew_of (pc' := 61) (fun _ => x_aload_n rfl rfl) ?_
      refine Ew_of (pc' := 62) (fun _ => x_iconst rfl) ?_
      refine v_p H (o := 0) (z := 0) (v := I (0)) rfl rfl rfl rfl rfl rfl rfl rfl (show (-2147483648 : Int) ≤ 0 ∧ 0 ≤ 2147483647 by omega) (fun σ H O' => ?_)
      have O := OUT_trans O O'
      have : IMP ((u0_4) ≤ 7 ∧ ((u0_4) = 0 ∨ (u0_1) < (n1))) (RBE ((u0_2)) ((w1)) ((u0_1)) ((u0_3)) ((u0_4)) ((u0_2)) ((upd1 (w1) (u0_1) (z11))) (((u0_1 + 1))) 0 0) := fun q => by have q1 := q.1; have q2 := q.2; first | exact RBE_y (by omega) (by omega) hub rfl | exact RBE_0 (by omega) | omega
      exact w_ret rfl (k _ _ _ H O (SF_upd (SF_upd (SF_upd (SF_refl) rfl) rfl) rfl) (SA_upd (SA_refl) rfl) ((u0_1 + 1)) (rfl) (u0_2) ((eu0_2)) (0) (rfl) (0) (rfl) (upd1 (w1) (u0_1) (z11)) (congrArg (fun q => upd1 q (u0_1) (z11)) (ew1)) (show 0 ≤ ((u0_1 + 1)) ∧ ((u0_1 + 1)) ≤ (n1) ∧ (n1) ≤ 65536 by omega) (show (0) = 0 ∧ (u0_1) ≤ ((u0_1 + 1)) by omega) (show (0) = 0 by omega) (show IMP ((u0_4) ≤ 7 ∧ ((u0_4) = 0 ∨ (u0_1) < (n1))) (RBE ((u0_2)) ((w1)) ((u0_1)) ((u0_3)) ((u0_4)) ((u0_2)) ((upd1 (w1) (u0_1) (z11))) (((u0_1 + 1))) 0 0) by assumption) (show ((u0_1 + 1)) ≤ (u0_1) + 1 by omega))
abbrev V171 : vV := [(0, 8, [(0, 0), (0, 0), (4, 0), (4, 0), (4, 0), (4, 0), (4, 0), (4, 0), (4, 0), (4, 0), (4, 0), (0, 0), (0, 0)]), (1, 1, []), (1, 1, []), (1, 1, []), (1, 1, []), (1, 1, []), (1, 1, []), (1, 1, []), (1, 1, [])]
/-- Share.symbolOf: this, this.points, this.masses, this.mostBits, this.starts, this.symbolAt, this.numberAt, this.placeOf, this.used -/
theorem C171 {σE : rS} {D N : Nat → Nat} {F : hF} {A : hA} {d c s : Nat} {Q : wQ} (H : HW V171 σE D N F A) {a1 : Int} (pf1 : F 0 2 = (D 1 : Int)) (pf2 : F 0 3 = (D 2 : Int)) (pf3 : F 0 4 = (D 3 : Int)) (pf4 : F 0 5 = (D 4 : Int)) (pf5 : F 0 7 = (D 5 : Int)) (pf6 : F 0 8 = (D 6 : Int)) (pf7 : F 0 9 = (D 7 : Int)) (pf8 : F 0 6 = (D 8 : Int)) (n1 : Int) (en1 : (N 1 : Int) = n1) (n2 : Int) (en2 : (N 2 : Int) = n2) (n3 : Int) (en3 : (N 3 : Int) = n3) (n4 : Int) (en4 : (N 4 : Int) = n4) (n5 : Int) (en5 : (N 5 : Int) = n5) (n6 : Int) (en6 : (N 6 : Int) = n6) (n7 : Int) (en7 : (N 7 : Int) = n7) (n8 : Int) (en8 : (N 8 : Int) = n8) (u0_0 : Int) (eu0_0 : F 0 0 = u0_0) (u0_1 : Int) (eu0_1 : F 0 1 = u0_1) (w1 : Int → Int) (ew1 : A 1 = w1) (w2 : Int → Int) (ew2 : A 2 = w2) (w3 : Int → Int) (ew3 : A 3 = w3) (w4 : Int → Int) (ew4 : A 4 = w4) (w5 : Int → Int) (ew5 : A 5 = w5) (w6 : Int → Int) (ew6 : A 6 = w6) (w7 : Int → Int) (ew7 : A 7 = w7) (h0 : inr (a1)) (h1 : SL ((w1)) ((u0_1)) ((u0_0)) ((w2)) ((w3)) ((w4)) ((w5)) ((w6)) ((w7))) (h2 : (n1) = (u0_1) ∧ (n2) = (u0_1) ∧ (n3) = (u0_1) ∧ (n4) = (u0_1) ∧ (n8) = (u0_1) ∧ (n6) = (n5) ∧ (n7) = (n5) ∧ p2 ((u0_0)) ≤ (n5)) (h3 : 0 ≤ (a1) ∧ (a1) < p2 ((u0_0))) (k : ∀ (z : Int) (σ : rS) (F' : hF) (A' : hA), HW V171 σ D N F' A' → OUT (V171).length D N σE c s D N σ c s → SF [] F F' → SA [] A A' → (inr (z)) → ((z) = ((w5)) (a1)) → (0 ≤ (z) ∧ (z) < ((u0_1))) → (((w1)) (z) ≠ 0) → Q (some (I z)) σ c s) : Ew 171 (d + 0) 0 (rargs 0 [.ref (D 0), I a1]) [] σE c s Q := by
  have O := OUT_refl (n := (V171).length) (D := D) (N := N) (σ := σE) (c := c) (s := s)
  have HE := H
  have r1 : (-2147483648 : Int) ≤ u0_0 ∧ u0_0 ≤ 2147483647 := by have h1 : (-2147483648 : Int) ≤ F 0 0 ∧ F 0 0 ≤ 2147483647 := H.krg 0 0 (by decide); rw [show F 0 0 = u0_0 from (eu0_0)] at h1; exact h1
  have r2 : (-2147483648 : Int) ≤ u0_1 ∧ u0_1 ≤ 2147483647 := by have h1 : (-2147483648 : Int) ≤ F 0 1 ∧ F 0 1 ≤ 2147483647 := H.krg 0 1 (by decide); rw [show F 0 1 = u0_1 from (eu0_1)] at h1; exact h1
  have r3 : (0 : Int) ≤ n1 ∧ n1 ≤ 1000000 := by have h1 := H.nle 1 (by decide); have h2 : (N 1 : Int) = n1 := en1; omega
  have r4 : (0 : Int) ≤ n2 ∧ n2 ≤ 1000000 := by have h1 := H.nle 2 (by decide); have h2 : (N 2 : Int) = n2 := en2; omega
  have r5 : (0 : Int) ≤ n3 ∧ n3 ≤ 1000000 := by have h1 := H.nle 3 (by decide); have h2 : (N 3 : Int) = n3 := en3; omega
  have r6 : (0 : Int) ≤ n4 ∧ n4 ≤ 1000000 := by have h1 := H.nle 4 (by decide); have h2 : (N 4 : Int) = n4 := en4; omega
  have r7 : (0 : Int) ≤ n5 ∧ n5 ≤ 1000000 := by have h1 := H.nle 5 (by decide); have h2 : (N 5 : Int) = n5 := en5; omega
  have r8 : (0 : Int) ≤ n6 ∧ n6 ≤ 1000000 := by have h1 := H.nle 6 (by decide); have h2 : (N 6 : Int) = n6 := en6; omega
  have r9 : (0 : Int) ≤ n7 ∧ n7 ≤ 1000000 := by have h1 := H.nle 7 (by decide); have h2 : (N 7 : Int) = n7 := en7; omega
  have r10 : (0 : Int) ≤ n8 ∧ n8 ≤ 1000000 := by have h1 := H.nle 8 (by decide); have h2 : (N 8 : Int) = n8 := en8; omega
  refine Ew_of (pc' := 1) (fun _ => x_aload_n rfl rfl) ?_
  refine v_g H (o := 0) (v := .ref (D 5)) rfl rfl rfl rfl rfl (vrf (pf5)) ?_
  refine Ew_of (pc' := 5) (fun _ => x_iload_n rfl rfl) ?_
  refine v_lI H (o := 5) rfl rfl rfl rfl (n := n5) (en5) (show 0 ≤ a1 ∧ a1 < n5 by omega) (fun v11 ev11 qv11 => ?_)
  have ev11 : (w5) (a1) = v11 := (congrFun (ew5) (a1)).symm.trans ev11
  have hSL : SL ((w1)) ((u0_1)) ((u0_0)) ((w2)) ((w3)) ((w4)) ((w5)) ((w6)) ((w7)) := by assumption
  have hq := SL_sym hSL (k := (a1)) (by omega) (by omega)
  rw [ev11] at hq
  exact w_ireturn rfl (k (v11) _ _ _ H O (SF_refl) (SA_refl) (show inr (v11) by omega) (show (v11) = ((w5)) a1 by omega) (show 0 ≤ (v11) ∧ (v11) < ((u0_1)) by omega) (show ((w1)) (v11) ≠ 0 by omega))
abbrev V172 : vV := [(0, 8, [(0, 0), (0, 0), (4, 0), (4, 0), (4, 0), (4, 0), (4, 0), (4, 0), (4, 0), (4, 0), (4, 0), (0, 0), (0, 0)]), (1, 1, []), (1, 1, []), (1, 1, []), (1, 1, []), (1, 1, []), (1, 1, []), (1, 1, []), (1, 1, [])]
/-- Share.bitsBehind: this, this.points, this.masses, this.mostBits, this.starts, this.symbolAt, this.numberAt, this.placeOf, this.used -/
theorem C172 {σE : rS} {D N : Nat → Nat} {F : hF} {A : hA} {d c s : Nat} {Q : wQ} (H : HW V172 σE D N F A) {a1 : Int} (pf1 : F 0 2 = (D 1 : Int)) (pf2 : F 0 3 = (D 2 : Int)) (pf3 : F 0 4 = (D 3 : Int)) (pf4 : F 0 5 = (D 4 : Int)) (pf5 : F 0 7 = (D 5 : Int)) (pf6 : F 0 8 = (D 6 : Int)) (pf7 : F 0 9 = (D 7 : Int)) (pf8 : F 0 6 = (D 8 : Int)) (n1 : Int) (en1 : (N 1 : Int) = n1) (n2 : Int) (en2 : (N 2 : Int) = n2) (n3 : Int) (en3 : (N 3 : Int) = n3) (n4 : Int) (en4 : (N 4 : Int) = n4) (n5 : Int) (en5 : (N 5 : Int) = n5) (n6 : Int) (en6 : (N 6 : Int) = n6) (n7 : Int) (en7 : (N 7 : Int) = n7) (n8 : Int) (en8 : (N 8 : Int) = n8) (u0_0 : Int) (eu0_0 : F 0 0 = u0_0) (u0_1 : Int) (eu0_1 : F 0 1 = u0_1) (w1 : Int → Int) (ew1 : A 1 = w1) (w2 : Int → Int) (ew2 : A 2 = w2) (w3 : Int → Int) (ew3 : A 3 = w3) (w4 : Int → Int) (ew4 : A 4 = w4) (w5 : Int → Int) (ew5 : A 5 = w5) (w6 : Int → Int) (ew6 : A 6 = w6) (w7 : Int → Int) (ew7 : A 7 = w7) (h0 : inr (a1)) (h1 : SL ((w1)) ((u0_1)) ((u0_0)) ((w2)) ((w3)) ((w4)) ((w5)) ((w6)) ((w7))) (h2 : (n1) = (u0_1) ∧ (n2) = (u0_1) ∧ (n3) = (u0_1) ∧ (n4) = (u0_1) ∧ (n8) = (u0_1) ∧ (n6) = (n5) ∧ (n7) = (n5) ∧ p2 ((u0_0)) ≤ (n5)) (h3 : 0 ≤ (a1) ∧ (a1) < p2 ((u0_0))) (k : ∀ (z : Int) (σ : rS) (F' : hF) (A' : hA), HW V172 σ D N F' A' → OUT (V172).length D N σE c s D N σ c s → SF [] F F' → SA [] A A' → (inr (z)) → (BB ((w1)) ((u0_0)) ((w5)) (a1) (z)) → (0 ≤ (z) ∧ (z) ≤ ((u0_0))) → Q (some (I z)) σ c s) : Ew 172 (d + 0) 0 (rargs 0 [.ref (D 0), I a1]) [] σE c s Q := by
  have O := OUT_refl (n := (V172).length) (D := D) (N := N) (σ := σE) (c := c) (s := s)
  have HE := H
  have r1 : (-2147483648 : Int) ≤ u0_0 ∧ u0_0 ≤ 2147483647 := by have h1 : (-2147483648 : Int) ≤ F 0 0 ∧ F 0 0 ≤ 2147483647 := H.krg 0 0 (by decide); rw [show F 0 0 = u0_0 from (eu0_0)] at h1; exact h1
  have r2 : (-2147483648 : Int) ≤ u0_1 ∧ u0_1 ≤ 2147483647 := by have h1 : (-2147483648 : Int) ≤ F 0 1 ∧ F 0 1 ≤ 2147483647 := H.krg 0 1 (by decide); rw [show F 0 1 = u0_1 from (eu0_1)] at h1; exact h1
  have r3 : (0 : Int) ≤ n1 ∧ n1 ≤ 1000000 := by have h1 := H.nle 1 (by decide); have h2 : (N 1 : Int) = n1 := en1; omega
  have r4 : (0 : Int) ≤ n2 ∧ n2 ≤ 1000000 := by have h1 := H.nle 2 (by decide); have h2 : (N 2 : Int) = n2 := en2; omega
  have r5 : (0 : Int) ≤ n3 ∧ n3 ≤ 1000000 := by have h1 := H.nle 3 (by decide); have h2 : (N 3 : Int) = n3 := en3; omega
  have r6 : (0 : Int) ≤ n4 ∧ n4 ≤ 1000000 := by have h1 := H.nle 4 (by decide); have h2 : (N 4 : Int) = n4 := en4; omega
  have r7 : (0 : Int) ≤ n5 ∧ n5 ≤ 1000000 := by have h1 := H.nle 5 (by decide); have h2 : (N 5 : Int) = n5 := en5; omega
  have r8 : (0 : Int) ≤ n6 ∧ n6 ≤ 1000000 := by have h1 := H.nle 6 (by decide); have h2 : (N 6 : Int) = n6 := en6; omega
  have r9 : (0 : Int) ≤ n7 ∧ n7 ≤ 1000000 := by have h1 := H.nle 7 (by decide); have h2 : (N 7 : Int) = n7 := en7; omega
  have r10 : (0 : Int) ≤ n8 ∧ n8 ≤ 1000000 := by have h1 := H.nle 8 (by decide); have h2 : (N 8 : Int) = n8 := en8; omega
  have hSL : SL ((w1)) ((u0_1)) ((u0_0)) ((w2)) ((w3)) ((w4)) ((w5)) ((w6)) ((w7)) := by assumption
  have hq := SL_sym hSL (k := (a1)) (by omega) (by omega)
  have hf := SHD_f hSL.1
  refine Ew_of (pc' := 1) (fun _ => x_aload_n rfl rfl) ?_
  refine v_g H (o := 0) (v := .ref (D 3)) rfl rfl rfl rfl rfl (vrf (pf3)) ?_
  refine Ew_of (pc' := 5) (fun _ => x_aload_n rfl rfl) ?_
  refine v_g H (o := 0) (v := .ref (D 5)) rfl rfl rfl rfl rfl (vrf (pf5)) ?_
  refine Ew_of (pc' := 9) (fun _ => x_iload_n rfl rfl) ?_
  refine v_lI H (o := 5) rfl rfl rfl rfl (n := n5) (en5) (show 0 ≤ a1 ∧ a1 < n5 by omega) (fun v11 ev11 qv11 => ?_)
  have ev11 : (w5) (a1) = v11 := (congrFun (ew5) (a1)).symm.trans ev11
  have hsy := ev11
  rw [hsy] at hq
  refine v_lI H (o := 3) rfl rfl rfl rfl (n := n3) (en3) (show 0 ≤ v11 ∧ v11 < n3 by omega) (fun v12 ev12 qv12 => ?_)
  have ev12 : (w3) (v11) = v12 := (congrFun (ew3) (v11)).symm.trans ev12
  have hbi := ev12
  refine Ew_of (pc' := 12) (fun _ => x_istore_n rfl) ?_
  refine Ew_of (pc' := 13) (fun _ => x_aload_n rfl (rk_o (rfl) rfl rfl)) ?_
  refine v_g H (o := 0) (v := .ref (D 6)) rfl rfl rfl rfl rfl (vrf (pf6)) ?_
  refine Ew_of (pc' := 17) (fun _ => x_iload_n rfl (rk_o (rfl) rfl rfl)) ?_
  refine v_lI H (o := 6) rfl rfl rfl rfl (n := n6) (en6) (show 0 ≤ a1 ∧ a1 < n6 by omega) (fun v13 ev13 qv13 => ?_)
  have ev13 : (w6) (a1) = v13 := (congrFun (ew6) (a1)).symm.trans ev13
  have hnu := ev13
  refine Ew_of (pc' := 19) (fun _ => x_aload_n rfl (rk_o (rfl) rfl rfl)) ?_
  refine v_g H (o := 0) (v := I (u0_0)) rfl rfl rfl rfl rfl (congrArg (fun z : Int => I z) ((eu0_0) : F 0 0 = u0_0)) ?_
  refine Ew_of (pc' := 23) (fun _ => x_iload_n rfl rk_s) ?_
  refine w_isub rfl ?_
  refine Ew_of (pc' := 25) (fun _ => x_iconst rfl) ?_
  refine w_iadd rfl ?_
  refine w_ishrX rfl (show inr (v13) by omega) (fun z14 gz14 dz14 => ?_)
  have hb0 := hq.2.2.2.2.2.2.2.2.1
  have hbb := BB_of hSL (k := (a1)) (b := (v12)) (z := (z14)) (by omega) (by omega) (by rw [hsy]; omega) (by rw [← hq.2.2.2.1, hnu]; have hb9 := hq.2.2.2.2.2.2.2.2.2 hq.2.2.2.2.1; have hb8 : ((u0_0)) - (v12) < 10 := p2_lt (by omega) (by rw [show p2 10 = 1024 from by decide, ← hbi]; omega); omega)
  refine w_ifle (t := 36) rfl rfl (show inr (z14) by omega) (fun b15 => ?_) (fun b15 => ?_)
  · refine Ew_of (pc' := 37) (fun _ => x_iload_n rfl rk_s) ?_
    have hqq : BB ((w1)) ((u0_0)) ((w5)) (a1) ((v12)) := by first | exact hbb.2.2.1 (by omega) | exact hbb.2.2.2 (by omega)
    have hqr := hqq.1
    have hqs := hqq.2.1
    exact w_ireturn rfl (k (v12) _ _ _ H O (SF_refl) (SA_refl) (show inr (v12) by omega) (show BB ((w1)) ((u0_0)) ((w5)) a1 (v12) by assumption) (show 0 ≤ (v12) ∧ (v12) ≤ ((u0_0)) by omega))
  · refine Ew_of (pc' := 31) (fun _ => x_iload_n rfl rk_s) ?_
    refine Ew_of (pc' := 32) (fun _ => x_iconst rfl) ?_
    refine w_isub rfl ?_
    refine Ew_of (pc' := 37) (fun _ => x_goto rfl rfl) ?_
    have hqq : BB ((w1)) ((u0_0)) ((w5)) (a1) (((v12 - 1))) := by first | exact hbb.2.2.1 (by omega) | exact hbb.2.2.2 (by omega)
    have hqr := hqq.1
    have hqs := hqq.2.1
    exact w_ireturn rfl (k ((v12 - 1)) _ _ _ H O (SF_refl) (SA_refl) (show inr ((v12 - 1)) by omega) (show BB ((w1)) ((u0_0)) ((w5)) a1 ((v12 - 1)) by assumption) (show 0 ≤ ((v12 - 1)) ∧ ((v12 - 1)) ≤ ((u0_0)) by omega))
abbrev V173 : vV := [(0, 8, [(0, 0), (0, 0), (4, 0), (4, 0), (4, 0), (4, 0), (4, 0), (4, 0), (4, 0), (4, 0), (4, 0), (0, 0), (0, 0)]), (1, 1, []), (1, 1, []), (1, 1, []), (1, 1, []), (1, 1, []), (1, 1, []), (1, 1, []), (1, 1, [])]
/-- Share.baseBehind: this, this.points, this.masses, this.mostBits, this.starts, this.symbolAt, this.numberAt, this.placeOf, this.used -/
theorem C173 {σE : rS} {D N : Nat → Nat} {F : hF} {A : hA} {d c s : Nat} {Q : wQ} (H : HW V173 σE D N F A) {a1 : Int} (pf1 : F 0 2 = (D 1 : Int)) (pf2 : F 0 3 = (D 2 : Int)) (pf3 : F 0 4 = (D 3 : Int)) (pf4 : F 0 5 = (D 4 : Int)) (pf5 : F 0 7 = (D 5 : Int)) (pf6 : F 0 8 = (D 6 : Int)) (pf7 : F 0 9 = (D 7 : Int)) (pf8 : F 0 6 = (D 8 : Int)) (n1 : Int) (en1 : (N 1 : Int) = n1) (n2 : Int) (en2 : (N 2 : Int) = n2) (n3 : Int) (en3 : (N 3 : Int) = n3) (n4 : Int) (en4 : (N 4 : Int) = n4) (n5 : Int) (en5 : (N 5 : Int) = n5) (n6 : Int) (en6 : (N 6 : Int) = n6) (n7 : Int) (en7 : (N 7 : Int) = n7) (n8 : Int) (en8 : (N 8 : Int) = n8) (u0_0 : Int) (eu0_0 : F 0 0 = u0_0) (u0_1 : Int) (eu0_1 : F 0 1 = u0_1) (w1 : Int → Int) (ew1 : A 1 = w1) (w2 : Int → Int) (ew2 : A 2 = w2) (w3 : Int → Int) (ew3 : A 3 = w3) (w4 : Int → Int) (ew4 : A 4 = w4) (w5 : Int → Int) (ew5 : A 5 = w5) (w6 : Int → Int) (ew6 : A 6 = w6) (w7 : Int → Int) (ew7 : A 7 = w7) (h0 : inr (a1)) (h1 : SL ((w1)) ((u0_1)) ((u0_0)) ((w2)) ((w3)) ((w4)) ((w5)) ((w6)) ((w7))) (h2 : (n1) = (u0_1) ∧ (n2) = (u0_1) ∧ (n3) = (u0_1) ∧ (n4) = (u0_1) ∧ (n8) = (u0_1) ∧ (n6) = (n5) ∧ (n7) = (n5) ∧ p2 ((u0_0)) ≤ (n5)) (h3 : 0 ≤ (a1) ∧ (a1) < p2 ((u0_0))) (k : ∀ (z : Int) (σ : rS) (F' : hF) (A' : hA), HW V173 σ D N F' A' → OUT (V173).length D N σE c s D N σ c s → SF [] F F' → SA [] A A' → (inr (z)) → (BAS ((w1)) ((u0_0)) ((w5)) (a1) (z)) → (0 ≤ (z) ∧ (z) < p2 ((u0_0))) → Q (some (I z)) σ c s) : Ew 173 (d + 1) 0 (rargs 0 [.ref (D 0), I a1]) [] σE c s Q := by
  have O := OUT_refl (n := (V173).length) (D := D) (N := N) (σ := σE) (c := c) (s := s)
  have HE := H
  have r1 : (-2147483648 : Int) ≤ u0_0 ∧ u0_0 ≤ 2147483647 := by have h1 : (-2147483648 : Int) ≤ F 0 0 ∧ F 0 0 ≤ 2147483647 := H.krg 0 0 (by decide); rw [show F 0 0 = u0_0 from (eu0_0)] at h1; exact h1
  have r2 : (-2147483648 : Int) ≤ u0_1 ∧ u0_1 ≤ 2147483647 := by have h1 : (-2147483648 : Int) ≤ F 0 1 ∧ F 0 1 ≤ 2147483647 := H.krg 0 1 (by decide); rw [show F 0 1 = u0_1 from (eu0_1)] at h1; exact h1
  have r3 : (0 : Int) ≤ n1 ∧ n1 ≤ 1000000 := by have h1 := H.nle 1 (by decide); have h2 : (N 1 : Int) = n1 := en1; omega
  have r4 : (0 : Int) ≤ n2 ∧ n2 ≤ 1000000 := by have h1 := H.nle 2 (by decide); have h2 : (N 2 : Int) = n2 := en2; omega
  have r5 : (0 : Int) ≤ n3 ∧ n3 ≤ 1000000 := by have h1 := H.nle 3 (by decide); have h2 : (N 3 : Int) = n3 := en3; omega
  have r6 : (0 : Int) ≤ n4 ∧ n4 ≤ 1000000 := by have h1 := H.nle 4 (by decide); have h2 : (N 4 : Int) = n4 := en4; omega
  have r7 : (0 : Int) ≤ n5 ∧ n5 ≤ 1000000 := by have h1 := H.nle 5 (by decide); have h2 : (N 5 : Int) = n5 := en5; omega
  have r8 : (0 : Int) ≤ n6 ∧ n6 ≤ 1000000 := by have h1 := H.nle 6 (by decide); have h2 : (N 6 : Int) = n6 := en6; omega
  have r9 : (0 : Int) ≤ n7 ∧ n7 ≤ 1000000 := by have h1 := H.nle 7 (by decide); have h2 : (N 7 : Int) = n7 := en7; omega
  have r10 : (0 : Int) ≤ n8 ∧ n8 ≤ 1000000 := by have h1 := H.nle 8 (by decide); have h2 : (N 8 : Int) = n8 := en8; omega
  have hSL : SL ((w1)) ((u0_1)) ((u0_0)) ((w2)) ((w3)) ((w4)) ((w5)) ((w6)) ((w7)) := by assumption
  have hq := SL_sym hSL (k := (a1)) (by omega) (by omega)
  have hf := SHD_f hSL.1
  refine Ew_of (pc' := 1) (fun _ => x_aload_n rfl rfl) ?_
  refine v_g H (o := 0) (v := .ref (D 6)) rfl rfl rfl rfl rfl (vrf (pf6)) ?_
  refine Ew_of (pc' := 5) (fun _ => x_iload_n rfl rfl) ?_
  refine v_lI H (o := 6) rfl rfl rfl rfl (n := n6) (en6) (show 0 ≤ a1 ∧ a1 < n6 by omega) (fun v11 ev11 qv11 => ?_)
  have ev11 : (w6) (a1) = v11 := (congrFun (ew6) (a1)).symm.trans ev11
  have hnu := ev11
  refine Ew_of (pc' := 7) (fun _ => x_aload_n rfl rfl) ?_
  refine Ew_of (pc' := 8) (fun _ => x_iload_n rfl rfl) ?_
  refine v_inv H (o := 0) rfl rfl rfl rfl rfl rfl (by rfl) (C172 (D := pul [0, 1, 2, 3, 4, 5, 6, 7, 8] D) (N := pul [0, 1, 2, 3, 4, 5, 6, 7, 8] N) (HW_sub H (VS_of (show vsub V173 V172 [0, 1, 2, 3, 4, 5, 6, 7, 8] = true by decide +kernel))) (pf1) (pf2) (pf3) (pf4) (pf5) (pf6) (pf7) (pf8) (n1) (en1) (n2) (en2) (n3) (en3) (n4) (en4) (n5) (en5) (n6) (en6) (n7) (en7) (n8) (en8) (u0_0) ((eu0_0)) (u0_1) ((eu0_1)) (w1) (ew1) (w2) (ew2) (w3) (ew3) (w4) (ew4) (w5) (ew5) (w6) (ew6) (w7) (ew7) (show inr (a1) by omega) (show SL ((w1)) ((u0_1)) ((u0_0)) ((w2)) ((w3)) ((w4)) ((w5)) ((w6)) ((w7)) by assumption) (show (n1) = (u0_1) ∧ (n2) = (u0_1) ∧ (n3) = (u0_1) ∧ (n4) = (u0_1) ∧ (n8) = (u0_1) ∧ (n6) = (n5) ∧ (n7) = (n5) ∧ p2 ((u0_0)) ≤ (n5) by omega) (show 0 ≤ (a1) ∧ (a1) < p2 ((u0_0)) by omega) (fun z12 σ12 F12' A12' H' O' hS12 hA12 pz12_0 pz12_1 pz12_2 => ⟨rfl, ?_⟩))
  refine v_back (c := c) (s := s) H (show vsub V173 V172 [0, 1, 2, 3, 4, 5, 6, 7, 8] = true by decide +kernel) H' O' (fun F12 A12 H O' eF12 eA12 => ?_)
  have O := OUT_trans O O'
  -- Share.bitsBehind
  have hbb := pz12_1
  have hm := BB_mul (by omega) hbb
  rw [← hq.2.2.2.1, hnu] at hm
  have hpp := p2_pos ((z12))
  refine w_ishlT rfl (show 0 ≤ z12 ∧ z12 ≤ 31 by omega) ?_
  refine Ew_of (pc' := 13) (fun _ => x_iconst rfl) ?_
  refine Ew_of (pc' := 14) (fun _ => x_aload_n rfl rfl) ?_
  refine v_g H (o := 0) (v := I (u0_0)) rfl rfl rfl rfl rfl (congrArg (fun z : Int => I z) ((((show F12 0 0 = F 0 0 from (eF12 0 0).trans (hS12 0 0 rfl))).trans (eu0_0)) : F12 0 0 = u0_0)) ?_
  refine w_ishl1 rfl (show 0 ≤ u0_0 ∧ u0_0 ≤ 31 by omega) ?_
  refine w_isub rfl ?_
  have hbs : BAS ((w1)) ((u0_0)) ((w5)) (a1) ((((v11 * p2 (z12)) - p2 (u0_0)))) := BAS_of (by omega) hbb (by rw [← hq.2.2.2.1, hnu])
  have hbt := hbs _ hbb
  exact w_ireturn rfl (k (((v11 * p2 (z12)) - p2 (u0_0))) _ _ _ H O (SF_trans (SF_refl) (SF_glu (ι := [0, 1, 2, 3, 4, 5, 6, 7, 8]) hS12 eF12 (by decide +kernel)) (any_sub (l' := []) rfl)) (SA_trans (SA_refl) (SA_glu (ι := [0, 1, 2, 3, 4, 5, 6, 7, 8]) hA12 eA12 (by decide +kernel)) (any_subA (l' := []) rfl)) (show inr (((v11 * p2 (z12)) - p2 (u0_0))) by omega) (show BAS ((w1)) ((u0_0)) ((w5)) a1 (((v11 * p2 (z12)) - p2 (u0_0))) by assumption) (show 0 ≤ (((v11 * p2 (z12)) - p2 (u0_0))) ∧ (((v11 * p2 (z12)) - p2 (u0_0))) < p2 ((u0_0)) by omega))
abbrev V174 : vV := [(0, 8, [(0, 0), (0, 0), (4, 0), (4, 0), (4, 0), (4, 0), (4, 0), (4, 0), (4, 0), (4, 0), (4, 0), (0, 0), (0, 0)]), (1, 1, []), (1, 1, []), (1, 1, []), (1, 1, []), (1, 1, []), (1, 1, []), (1, 1, []), (1, 1, [])]
/-- Share.lowestPlace: this, this.points, this.masses, this.mostBits, this.starts, this.symbolAt, this.numberAt, this.placeOf, this.used -/
theorem C174 {σE : rS} {D N : Nat → Nat} {F : hF} {A : hA} {d c s : Nat} {Q : wQ} (H : HW V174 σE D N F A) {a1 : Int} (pf1 : F 0 2 = (D 1 : Int)) (pf2 : F 0 3 = (D 2 : Int)) (pf3 : F 0 4 = (D 3 : Int)) (pf4 : F 0 5 = (D 4 : Int)) (pf5 : F 0 7 = (D 5 : Int)) (pf6 : F 0 8 = (D 6 : Int)) (pf7 : F 0 9 = (D 7 : Int)) (pf8 : F 0 6 = (D 8 : Int)) (n1 : Int) (en1 : (N 1 : Int) = n1) (n2 : Int) (en2 : (N 2 : Int) = n2) (n3 : Int) (en3 : (N 3 : Int) = n3) (n4 : Int) (en4 : (N 4 : Int) = n4) (n5 : Int) (en5 : (N 5 : Int) = n5) (n6 : Int) (en6 : (N 6 : Int) = n6) (n7 : Int) (en7 : (N 7 : Int) = n7) (n8 : Int) (en8 : (N 8 : Int) = n8) (u0_0 : Int) (eu0_0 : F 0 0 = u0_0) (u0_1 : Int) (eu0_1 : F 0 1 = u0_1) (w1 : Int → Int) (ew1 : A 1 = w1) (w2 : Int → Int) (ew2 : A 2 = w2) (w3 : Int → Int) (ew3 : A 3 = w3) (w4 : Int → Int) (ew4 : A 4 = w4) (w5 : Int → Int) (ew5 : A 5 = w5) (w6 : Int → Int) (ew6 : A 6 = w6) (w7 : Int → Int) (ew7 : A 7 = w7) (h0 : inr (a1)) (h1 : SL ((w1)) ((u0_1)) ((u0_0)) ((w2)) ((w3)) ((w4)) ((w5)) ((w6)) ((w7))) (h2 : (n1) = (u0_1) ∧ (n2) = (u0_1) ∧ (n3) = (u0_1) ∧ (n4) = (u0_1) ∧ (n8) = (u0_1) ∧ (n6) = (n5) ∧ (n7) = (n5) ∧ p2 ((u0_0)) ≤ (n5)) (h3 : 0 ≤ (a1) ∧ (a1) < ((u0_1)) ∧ ((w1)) (a1) ≠ 0) (k : ∀ (z : Int) (σ : rS) (F' : hF) (A' : hA), HW V174 σ D N F' A' → OUT (V174).length D N σE c s D N σ c s → SF [] F F' → SA [] A A' → (inr (z)) → (0 ≤ (z) ∧ (z) < p2 ((u0_0))) → (((w5)) (z) = (a1) ∧ XN ((w1)) ((w5)) (z) = mass (((w1)) (a1))) → Q (some (I z)) σ c s) : Ew 174 (d + 0) 0 (rargs 0 [.ref (D 0), I a1]) [] σE c s Q := by
  have O := OUT_refl (n := (V174).length) (D := D) (N := N) (σ := σE) (c := c) (s := s)
  have HE := H
  have r1 : (-2147483648 : Int) ≤ u0_0 ∧ u0_0 ≤ 2147483647 := by have h1 : (-2147483648 : Int) ≤ F 0 0 ∧ F 0 0 ≤ 2147483647 := H.krg 0 0 (by decide); rw [show F 0 0 = u0_0 from (eu0_0)] at h1; exact h1
  have r2 : (-2147483648 : Int) ≤ u0_1 ∧ u0_1 ≤ 2147483647 := by have h1 : (-2147483648 : Int) ≤ F 0 1 ∧ F 0 1 ≤ 2147483647 := H.krg 0 1 (by decide); rw [show F 0 1 = u0_1 from (eu0_1)] at h1; exact h1
  have r3 : (0 : Int) ≤ n1 ∧ n1 ≤ 1000000 := by have h1 := H.nle 1 (by decide); have h2 : (N 1 : Int) = n1 := en1; omega
  have r4 : (0 : Int) ≤ n2 ∧ n2 ≤ 1000000 := by have h1 := H.nle 2 (by decide); have h2 : (N 2 : Int) = n2 := en2; omega
  have r5 : (0 : Int) ≤ n3 ∧ n3 ≤ 1000000 := by have h1 := H.nle 3 (by decide); have h2 : (N 3 : Int) = n3 := en3; omega
  have r6 : (0 : Int) ≤ n4 ∧ n4 ≤ 1000000 := by have h1 := H.nle 4 (by decide); have h2 : (N 4 : Int) = n4 := en4; omega
  have r7 : (0 : Int) ≤ n5 ∧ n5 ≤ 1000000 := by have h1 := H.nle 5 (by decide); have h2 : (N 5 : Int) = n5 := en5; omega
  have r8 : (0 : Int) ≤ n6 ∧ n6 ≤ 1000000 := by have h1 := H.nle 6 (by decide); have h2 : (N 6 : Int) = n6 := en6; omega
  have r9 : (0 : Int) ≤ n7 ∧ n7 ≤ 1000000 := by have h1 := H.nle 7 (by decide); have h2 : (N 7 : Int) = n7 := en7; omega
  have r10 : (0 : Int) ≤ n8 ∧ n8 ≤ 1000000 := by have h1 := H.nle 8 (by decide); have h2 : (N 8 : Int) = n8 := en8; omega
  have hSL : SL ((w1)) ((u0_1)) ((u0_0)) ((w2)) ((w3)) ((w4)) ((w5)) ((w6)) ((w7)) := by assumption
  have hms := mass_eq (((w1)) (a1))
  have hat := SHD_at hSL.1 (s := (a1)) (by omega) (by omega)
  have hpl := PL_at hSL (s := (a1)) (i := 0) (by omega) (by omega) (by omega) (by omega)
  rw [Int.add_zero, Int.add_zero] at hpl
  refine Ew_of (pc' := 1) (fun _ => x_aload_n rfl rfl) ?_
  refine v_g H (o := 0) (v := .ref (D 7)) rfl rfl rfl rfl rfl (vrf (pf7)) ?_
  refine Ew_of (pc' := 5) (fun _ => x_aload_n rfl rfl) ?_
  refine v_g H (o := 0) (v := .ref (D 4)) rfl rfl rfl rfl rfl (vrf (pf4)) ?_
  refine Ew_of (pc' := 9) (fun _ => x_iload_n rfl rfl) ?_
  refine v_lI H (o := 4) rfl rfl rfl rfl (n := n4) (en4) (show 0 ≤ a1 ∧ a1 < n4 by omega) (fun v11 ev11 qv11 => ?_)
  have ev11 : (w4) (a1) = v11 := (congrFun (ew4) (a1)).symm.trans ev11
  have hst := ev11
  rw [hst] at hpl
  refine v_lI H (o := 7) rfl rfl rfl rfl (n := n7) (en7) (show 0 ≤ v11 ∧ v11 < n7 by omega) (fun v12 ev12 qv12 => ?_)
  have ev12 : (w7) (v11) = v12 := (congrFun (ew7) (v11)).symm.trans ev12
  have hpe := ev12
  rw [hpe] at hpl
  exact w_ireturn rfl (k (v12) _ _ _ H O (SF_refl) (SA_refl) (show inr (v12) by omega) (show 0 ≤ (v12) ∧ (v12) < p2 ((u0_0)) by omega) (show ((w5)) (v12) = a1 ∧ XN ((w1)) ((w5)) (v12) = mass (((w1)) a1) by omega))
abbrev V175 : vV := [(0, 8, [(0, 0), (0, 0), (4, 0), (4, 0), (4, 0), (4, 0), (4, 0), (4, 0), (4, 0), (4, 0), (4, 0), (0, 0), (0, 0)]), (1, 1, []), (1, 1, []), (1, 1, []), (1, 1, []), (1, 1, []), (1, 1, []), (1, 1, []), (1, 1, [])]
/-- Share.bitsAhead: this, this.points, this.masses, this.mostBits, this.starts, this.symbolAt, this.numberAt, this.placeOf, this.used -/
theorem C175 {σE : rS} {D N : Nat → Nat} {F : hF} {A : hA} {d c s : Nat} {Q : wQ} (H : HW V175 σE D N F A) {a1 a2 : Int} (pf1 : F 0 2 = (D 1 : Int)) (pf2 : F 0 3 = (D 2 : Int)) (pf3 : F 0 4 = (D 3 : Int)) (pf4 : F 0 5 = (D 4 : Int)) (pf5 : F 0 7 = (D 5 : Int)) (pf6 : F 0 8 = (D 6 : Int)) (pf7 : F 0 9 = (D 7 : Int)) (pf8 : F 0 6 = (D 8 : Int)) (n1 : Int) (en1 : (N 1 : Int) = n1) (n2 : Int) (en2 : (N 2 : Int) = n2) (n3 : Int) (en3 : (N 3 : Int) = n3) (n4 : Int) (en4 : (N 4 : Int) = n4) (n5 : Int) (en5 : (N 5 : Int) = n5) (n6 : Int) (en6 : (N 6 : Int) = n6) (n7 : Int) (en7 : (N 7 : Int) = n7) (n8 : Int) (en8 : (N 8 : Int) = n8) (u0_0 : Int) (eu0_0 : F 0 0 = u0_0) (u0_1 : Int) (eu0_1 : F 0 1 = u0_1) (w1 : Int → Int) (ew1 : A 1 = w1) (w2 : Int → Int) (ew2 : A 2 = w2) (w3 : Int → Int) (ew3 : A 3 = w3) (w4 : Int → Int) (ew4 : A 4 = w4) (w5 : Int → Int) (ew5 : A 5 = w5) (w6 : Int → Int) (ew6 : A 6 = w6) (w7 : Int → Int) (ew7 : A 7 = w7) (h0 : inr (a1)) (h1 : inr (a2)) (h2 : SL ((w1)) ((u0_1)) ((u0_0)) ((w2)) ((w3)) ((w4)) ((w5)) ((w6)) ((w7))) (h3 : (n1) = (u0_1) ∧ (n2) = (u0_1) ∧ (n3) = (u0_1) ∧ (n4) = (u0_1) ∧ (n8) = (u0_1) ∧ (n6) = (n5) ∧ (n7) = (n5) ∧ p2 ((u0_0)) ≤ (n5)) (h4 : 0 ≤ (a1) ∧ (a1) < p2 ((u0_0))) (h5 : 0 ≤ (a2) ∧ (a2) < ((u0_1)) ∧ ((w1)) (a2) ≠ 0) (k : ∀ (z : Int) (σ : rS) (F' : hF) (A' : hA), HW V175 σ D N F' A' → OUT (V175).length D N σE c s D N σ c s → SF [] F F' → SA [] A A' → (inr (z)) → (BA (mass (((w1)) (a2))) ((u0_0)) (a1) (z)) → (0 ≤ (z) ∧ (z) ≤ ((u0_0))) → Q (some (I z)) σ c s) : Ew 175 (d + 0) 0 (rargs 0 [.ref (D 0), I a1, I a2]) [] σE c s Q := by
  have O := OUT_refl (n := (V175).length) (D := D) (N := N) (σ := σE) (c := c) (s := s)
  have HE := H
  have r1 : (-2147483648 : Int) ≤ u0_0 ∧ u0_0 ≤ 2147483647 := by have h1 : (-2147483648 : Int) ≤ F 0 0 ∧ F 0 0 ≤ 2147483647 := H.krg 0 0 (by decide); rw [show F 0 0 = u0_0 from (eu0_0)] at h1; exact h1
  have r2 : (-2147483648 : Int) ≤ u0_1 ∧ u0_1 ≤ 2147483647 := by have h1 : (-2147483648 : Int) ≤ F 0 1 ∧ F 0 1 ≤ 2147483647 := H.krg 0 1 (by decide); rw [show F 0 1 = u0_1 from (eu0_1)] at h1; exact h1
  have r3 : (0 : Int) ≤ n1 ∧ n1 ≤ 1000000 := by have h1 := H.nle 1 (by decide); have h2 : (N 1 : Int) = n1 := en1; omega
  have r4 : (0 : Int) ≤ n2 ∧ n2 ≤ 1000000 := by have h1 := H.nle 2 (by decide); have h2 : (N 2 : Int) = n2 := en2; omega
  have r5 : (0 : Int) ≤ n3 ∧ n3 ≤ 1000000 := by have h1 := H.nle 3 (by decide); have h2 : (N 3 : Int) = n3 := en3; omega
  have r6 : (0 : Int) ≤ n4 ∧ n4 ≤ 1000000 := by have h1 := H.nle 4 (by decide); have h2 : (N 4 : Int) = n4 := en4; omega
  have r7 : (0 : Int) ≤ n5 ∧ n5 ≤ 1000000 := by have h1 := H.nle 5 (by decide); have h2 : (N 5 : Int) = n5 := en5; omega
  have r8 : (0 : Int) ≤ n6 ∧ n6 ≤ 1000000 := by have h1 := H.nle 6 (by decide); have h2 : (N 6 : Int) = n6 := en6; omega
  have r9 : (0 : Int) ≤ n7 ∧ n7 ≤ 1000000 := by have h1 := H.nle 7 (by decide); have h2 : (N 7 : Int) = n7 := en7; omega
  have r10 : (0 : Int) ≤ n8 ∧ n8 ≤ 1000000 := by have h1 := H.nle 8 (by decide); have h2 : (N 8 : Int) = n8 := en8; omega
  have hSL : SL ((w1)) ((u0_1)) ((u0_0)) ((w2)) ((w3)) ((w4)) ((w5)) ((w6)) ((w7)) := by assumption
  have hms := mass_eq (((w1)) (a2))
  have hat := SHD_at hSL.1 (s := (a2)) (by omega) (by omega)
  have hf := SHD_f hSL.1
  refine Ew_of (pc' := 1) (fun _ => x_aload_n rfl rfl) ?_
  refine v_g H (o := 0) (v := .ref (D 3)) rfl rfl rfl rfl rfl (vrf (pf3)) ?_
  refine Ew_of (pc' := 5) (fun _ => x_iload_n rfl rfl) ?_
  refine v_lI H (o := 3) rfl rfl rfl rfl (n := n3) (en3) (show 0 ≤ a2 ∧ a2 < n3 by omega) (fun v11 ev11 qv11 => ?_)
  have ev11 : (w3) (a2) = v11 := (congrFun (ew3) (a2)).symm.trans ev11
  have hbi := ev11
  have hba := fun z ez => BA_of (m := mass (((w1)) (a2))) (L := ((u0_0))) (y := (a1)) (b := (v11)) (z := z) ⟨by omega, by omega⟩ (by omega) (by omega) (by omega) (by omega) (by rw [← hbi]; exact hSL.2.2.2.2.1 _ (by omega) (by omega)) ez
  have hb1 := hba _ rfl
  refine Ew_of (pc' := 7) (fun _ => x_istore_n rfl) ?_
  refine Ew_of (pc' := 8) (fun _ => x_iload_n rfl (rk_o (rfl) rfl rfl)) ?_
  refine Ew_of (pc' := 9) (fun _ => x_iconst rfl) ?_
  refine Ew_of (pc' := 10) (fun _ => x_aload_n rfl (rk_o (rfl) rfl rfl)) ?_
  refine v_g H (o := 0) (v := I (u0_0)) rfl rfl rfl rfl rfl (congrArg (fun z : Int => I z) ((eu0_0) : F 0 0 = u0_0)) ?_
  refine w_ishl1 rfl (show 0 ≤ u0_0 ∧ u0_0 ≤ 31 by omega) ?_
  refine w_iadd rfl ?_
  refine Ew_of (pc' := 16) (fun _ => x_iload_n rfl rk_s) ?_
  refine w_ishrX rfl (show inr ((a1 + p2 (u0_0))) by omega) (fun z13 gz13 dz13 => ?_)
  have hz : ((z13) : Int) = ((a1) + p2 ((u0_0))) / p2 ((v11)) := by omega
  have hb2 := hba _ hz
  refine Ew_of (pc' := 18) (fun _ => x_aload_n rfl (rk_o (rfl) rfl rfl)) ?_
  refine v_g H (o := 0) (v := .ref (D 2)) rfl rfl rfl rfl rfl (vrf (pf2)) ?_
  refine Ew_of (pc' := 22) (fun _ => x_iload_n rfl (rk_o (rfl) rfl rfl)) ?_
  refine v_lI H (o := 2) rfl rfl rfl rfl (n := n2) (en2) (show 0 ≤ a2 ∧ a2 < n2 by omega) (fun v14 ev14 qv14 => ?_)
  have ev14 : (w2) (a2) = v14 := (congrFun (ew2) (a2)).symm.trans ev14
  have hma := ev14
  rw [hSL.2.2.1 _ (by omega) (by omega)] at hma
  refine w_icmpge (t := 32) rfl rfl (show inr (z13) by omega) (show inr (v14) by omega) (fun b15 => ?_) (fun b15 => ?_)
  · refine Ew_of (pc' := 33) (fun _ => x_iload_n rfl rk_s) ?_
    have hqq : BA (mass (((w1)) (a2))) ((u0_0)) (a1) ((v11)) := by first | exact hb2.2.2.1 (by omega) | exact hb2.2.2.2 (by omega)
    have hqr := hqq.1
    have hqs := hqq.2.1
    exact w_ireturn rfl (k (v11) _ _ _ H O (SF_refl) (SA_refl) (show inr (v11) by omega) (show BA (mass (((w1)) a2)) ((u0_0)) a1 (v11) by assumption) (show 0 ≤ (v11) ∧ (v11) ≤ ((u0_0)) by omega))
  · refine Ew_of (pc' := 27) (fun _ => x_iload_n rfl rk_s) ?_
    refine Ew_of (pc' := 28) (fun _ => x_iconst rfl) ?_
    refine w_isub rfl ?_
    refine Ew_of (pc' := 33) (fun _ => x_goto rfl rfl) ?_
    have hqq : BA (mass (((w1)) (a2))) ((u0_0)) (a1) (((v11 - 1))) := by first | exact hb2.2.2.1 (by omega) | exact hb2.2.2.2 (by omega)
    have hqr := hqq.1
    have hqs := hqq.2.1
    exact w_ireturn rfl (k ((v11 - 1)) _ _ _ H O (SF_refl) (SA_refl) (show inr ((v11 - 1)) by omega) (show BA (mass (((w1)) a2)) ((u0_0)) a1 ((v11 - 1)) by assumption) (show 0 ≤ ((v11 - 1)) ∧ ((v11 - 1)) ≤ ((u0_0)) by omega))
abbrev V176 : vV := [(0, 8, [(0, 0), (0, 0), (4, 0), (4, 0), (4, 0), (4, 0), (4, 0), (4, 0), (4, 0), (4, 0), (4, 0), (0, 0), (0, 0)]), (1, 1, []), (1, 1, []), (1, 1, []), (1, 1, []), (1, 1, []), (1, 1, []), (1, 1, []), (1, 1, [])]
/-- Share.placeAhead: this, this.points, this.masses, this.mostBits, this.starts, this.symbolAt, this.numberAt, this.placeOf, this.used -/
theorem C176 {σE : rS} {D N : Nat → Nat} {F : hF} {A : hA} {d c s : Nat} {Q : wQ} (H : HW V176 σE D N F A) {a1 a2 a3 : Int} (pf1 : F 0 2 = (D 1 : Int)) (pf2 : F 0 3 = (D 2 : Int)) (pf3 : F 0 4 = (D 3 : Int)) (pf4 : F 0 5 = (D 4 : Int)) (pf5 : F 0 7 = (D 5 : Int)) (pf6 : F 0 8 = (D 6 : Int)) (pf7 : F 0 9 = (D 7 : Int)) (pf8 : F 0 6 = (D 8 : Int)) (n1 : Int) (en1 : (N 1 : Int) = n1) (n2 : Int) (en2 : (N 2 : Int) = n2) (n3 : Int) (en3 : (N 3 : Int) = n3) (n4 : Int) (en4 : (N 4 : Int) = n4) (n5 : Int) (en5 : (N 5 : Int) = n5) (n6 : Int) (en6 : (N 6 : Int) = n6) (n7 : Int) (en7 : (N 7 : Int) = n7) (n8 : Int) (en8 : (N 8 : Int) = n8) (u0_0 : Int) (eu0_0 : F 0 0 = u0_0) (u0_1 : Int) (eu0_1 : F 0 1 = u0_1) (w1 : Int → Int) (ew1 : A 1 = w1) (w2 : Int → Int) (ew2 : A 2 = w2) (w3 : Int → Int) (ew3 : A 3 = w3) (w4 : Int → Int) (ew4 : A 4 = w4) (w5 : Int → Int) (ew5 : A 5 = w5) (w6 : Int → Int) (ew6 : A 6 = w6) (w7 : Int → Int) (ew7 : A 7 = w7) (h0 : inr (a1)) (h1 : inr (a2)) (h2 : inr (a3)) (h3 : SL ((w1)) ((u0_1)) ((u0_0)) ((w2)) ((w3)) ((w4)) ((w5)) ((w6)) ((w7))) (h4 : (n1) = (u0_1) ∧ (n2) = (u0_1) ∧ (n3) = (u0_1) ∧ (n4) = (u0_1) ∧ (n8) = (u0_1) ∧ (n6) = (n5) ∧ (n7) = (n5) ∧ p2 ((u0_0)) ≤ (n5)) (h5 : 0 ≤ (a1) ∧ (a1) < p2 ((u0_0))) (h6 : 0 ≤ (a2) ∧ (a2) < ((u0_1)) ∧ ((w1)) (a2) ≠ 0) (h7 : BA (mass (((w1)) (a2))) ((u0_0)) (a1) (a3)) (k : ∀ (z : Int) (σ : rS) (F' : hF) (A' : hA), HW V176 σ D N F' A' → OUT (V176).length D N σE c s D N σ c s → SF [] F F' → SA [] A A' → (inr (z)) → (0 ≤ (z) ∧ (z) < p2 ((u0_0))) → (((w5)) (z) = (a2) ∧ XN ((w1)) ((w5)) (z) = ((a1) + p2 ((u0_0))) / p2 (a3)) → Q (some (I z)) σ c s) : Ew 176 (d + 0) 0 (rargs 0 [.ref (D 0), I a1, I a2, I a3]) [] σE c s Q := by
  have O := OUT_refl (n := (V176).length) (D := D) (N := N) (σ := σE) (c := c) (s := s)
  have HE := H
  have r1 : (-2147483648 : Int) ≤ u0_0 ∧ u0_0 ≤ 2147483647 := by have h1 : (-2147483648 : Int) ≤ F 0 0 ∧ F 0 0 ≤ 2147483647 := H.krg 0 0 (by decide); rw [show F 0 0 = u0_0 from (eu0_0)] at h1; exact h1
  have r2 : (-2147483648 : Int) ≤ u0_1 ∧ u0_1 ≤ 2147483647 := by have h1 : (-2147483648 : Int) ≤ F 0 1 ∧ F 0 1 ≤ 2147483647 := H.krg 0 1 (by decide); rw [show F 0 1 = u0_1 from (eu0_1)] at h1; exact h1
  have r3 : (0 : Int) ≤ n1 ∧ n1 ≤ 1000000 := by have h1 := H.nle 1 (by decide); have h2 : (N 1 : Int) = n1 := en1; omega
  have r4 : (0 : Int) ≤ n2 ∧ n2 ≤ 1000000 := by have h1 := H.nle 2 (by decide); have h2 : (N 2 : Int) = n2 := en2; omega
  have r5 : (0 : Int) ≤ n3 ∧ n3 ≤ 1000000 := by have h1 := H.nle 3 (by decide); have h2 : (N 3 : Int) = n3 := en3; omega
  have r6 : (0 : Int) ≤ n4 ∧ n4 ≤ 1000000 := by have h1 := H.nle 4 (by decide); have h2 : (N 4 : Int) = n4 := en4; omega
  have r7 : (0 : Int) ≤ n5 ∧ n5 ≤ 1000000 := by have h1 := H.nle 5 (by decide); have h2 : (N 5 : Int) = n5 := en5; omega
  have r8 : (0 : Int) ≤ n6 ∧ n6 ≤ 1000000 := by have h1 := H.nle 6 (by decide); have h2 : (N 6 : Int) = n6 := en6; omega
  have r9 : (0 : Int) ≤ n7 ∧ n7 ≤ 1000000 := by have h1 := H.nle 7 (by decide); have h2 : (N 7 : Int) = n7 := en7; omega
  have r10 : (0 : Int) ≤ n8 ∧ n8 ≤ 1000000 := by have h1 := H.nle 8 (by decide); have h2 : (N 8 : Int) = n8 := en8; omega
  have hSL : SL ((w1)) ((u0_1)) ((u0_0)) ((w2)) ((w3)) ((w4)) ((w5)) ((w6)) ((w7)) := by assumption
  have hba : BA (mass (((w1)) (a2))) ((u0_0)) (a1) (a3) := by assumption
  have hbr := hba.1
  have hbs := hba.2.1
  have hbt := hba.2.2.1
  have hbu := hba.2.2.2
  have hf := SHD_f hSL.1
  have hat := SHD_at hSL.1 (s := (a2)) (by omega) (by omega)
  have hpl := PL_at hSL (s := (a2)) (i := ((a1) + p2 ((u0_0))) / p2 (a3) - mass (((w1)) (a2))) (by omega) (by omega) (by omega) (by omega)
  refine Ew_of (pc' := 1) (fun _ => x_aload_n rfl rfl) ?_
  refine v_g H (o := 0) (v := .ref (D 7)) rfl rfl rfl rfl rfl (vrf (pf7)) ?_
  refine Ew_of (pc' := 5) (fun _ => x_aload_n rfl rfl) ?_
  refine v_g H (o := 0) (v := .ref (D 4)) rfl rfl rfl rfl rfl (vrf (pf4)) ?_
  refine Ew_of (pc' := 9) (fun _ => x_iload_n rfl rfl) ?_
  refine v_lI H (o := 4) rfl rfl rfl rfl (n := n4) (en4) (show 0 ≤ a2 ∧ a2 < n4 by omega) (fun v11 ev11 qv11 => ?_)
  have ev11 : (w4) (a2) = v11 := (congrFun (ew4) (a2)).symm.trans ev11
  have hst := ev11
  rw [hst] at hpl
  obtain ⟨ix, hix⟩ : ∃ ix, ix = (v11) + (((a1) + p2 ((u0_0))) / p2 (a3) - mass (((w1)) (a2))) := ⟨_, rfl⟩
  rw [← hix] at hpl
  refine Ew_of (pc' := 11) (fun _ => x_iload_n rfl rfl) ?_
  refine Ew_of (pc' := 12) (fun _ => x_iconst rfl) ?_
  refine Ew_of (pc' := 13) (fun _ => x_aload_n rfl rfl) ?_
  refine v_g H (o := 0) (v := I (u0_0)) rfl rfl rfl rfl rfl (congrArg (fun z : Int => I z) ((eu0_0) : F 0 0 = u0_0)) ?_
  refine w_ishl1 rfl (show 0 ≤ u0_0 ∧ u0_0 ≤ 31 by omega) ?_
  refine w_iadd rfl ?_
  refine Ew_of (pc' := 19) (fun _ => x_iload_n rfl rfl) ?_
  refine w_ishrX rfl (show inr ((a1 + p2 (u0_0))) by omega) (fun z13 gz13 dz13 => ?_)
  have hz : ((z13) : Int) = ((a1) + p2 ((u0_0))) / p2 (a3) := by omega
  refine w_iadd rfl ?_
  refine Ew_of (pc' := 22) (fun _ => x_aload_n rfl rfl) ?_
  refine v_g H (o := 0) (v := .ref (D 2)) rfl rfl rfl rfl rfl (vrf (pf2)) ?_
  refine Ew_of (pc' := 26) (fun _ => x_iload_n rfl rfl) ?_
  refine v_lI H (o := 2) rfl rfl rfl rfl (n := n2) (en2) (show 0 ≤ a2 ∧ a2 < n2 by omega) (fun v14 ev14 qv14 => ?_)
  have ev14 : (w2) (a2) = v14 := (congrFun (ew2) (a2)).symm.trans ev14
  have hma := ev14
  rw [hSL.2.2.1 _ (by omega) (by omega)] at hma
  refine w_isub rfl ?_
  have hie : ix = (((v11 + z13) - v14)) := by omega
  rw [hie] at hpl
  refine v_lI H (o := 7) rfl rfl rfl rfl (n := n7) (en7) (show 0 ≤ ((v11 + z13) - v14) ∧ ((v11 + z13) - v14) < n7 by omega) (fun v15 ev15 qv15 => ?_)
  have ev15 : (w7) (((v11 + z13) - v14)) = v15 := (congrFun (ew7) (((v11 + z13) - v14))).symm.trans ev15
  rw [ev15] at hpl
  exact w_ireturn rfl (k (v15) _ _ _ H O (SF_refl) (SA_refl) (show inr (v15) by omega) (show 0 ≤ (v15) ∧ (v15) < p2 ((u0_0)) by omega) (show ((w5)) (v15) = a2 ∧ XN ((w1)) ((w5)) (v15) = (a1 + p2 ((u0_0))) / p2 a3 by omega))
abbrev V177_Ir : vV := [(0, 8, [(0, 0), (0, 0), (4, 0), (4, 0), (4, 0), (4, 0), (4, 0), (4, 0), (4, 0), (4, 0), (4, 0), (0, 0), (0, 0)]), (1, 1, []), (1, 1, []), (1, 1, []), (1, 1, []), (1, 1, []), (1, 1, []), (1, 1, []), (1, 1, []), (1, 1, [])]
/-- Share.costOf: this, #1, this.points, this.masses, this.mostBits, this.starts, this.symbolAt, this.numberAt, this.placeOf, this.used -/
theorem C177_Ir {σE : rS} {D N : Nat → Nat} {F : hF} {A : hA} {d c s : Nat} {Q : wQ} (H : HW V177_Ir σE D N F A) {a2 : Int} (pf2 : F 0 2 = (D 2 : Int)) (pf3 : F 0 3 = (D 3 : Int)) (pf4 : F 0 4 = (D 4 : Int)) (pf5 : F 0 5 = (D 5 : Int)) (pf6 : F 0 7 = (D 6 : Int)) (pf7 : F 0 8 = (D 7 : Int)) (pf8 : F 0 9 = (D 8 : Int)) (pf9 : F 0 6 = (D 9 : Int)) (n1 : Int) (en1 : (N 1 : Int) = n1) (n2 : Int) (en2 : (N 2 : Int) = n2) (n3 : Int) (en3 : (N 3 : Int) = n3) (n4 : Int) (en4 : (N 4 : Int) = n4) (n5 : Int) (en5 : (N 5 : Int) = n5) (n6 : Int) (en6 : (N 6 : Int) = n6) (n7 : Int) (en7 : (N 7 : Int) = n7) (n8 : Int) (en8 : (N 8 : Int) = n8) (n9 : Int) (en9 : (N 9 : Int) = n9) (u0_0 : Int) (eu0_0 : F 0 0 = u0_0) (u0_1 : Int) (eu0_1 : F 0 1 = u0_1) (w1 : Int → Int) (ew1 : A 1 = w1) (w2 : Int → Int) (ew2 : A 2 = w2) (w3 : Int → Int) (ew3 : A 3 = w3) (w4 : Int → Int) (ew4 : A 4 = w4) (w5 : Int → Int) (ew5 : A 5 = w5) (w6 : Int → Int) (ew6 : A 6 = w6) (w7 : Int → Int) (ew7 : A 7 = w7) (w8 : Int → Int) (ew8 : A 8 = w8) (h0 : inr (a2)) (h1 : SL ((w2)) ((u0_1)) ((u0_0)) ((w3)) ((w4)) ((w5)) ((w6)) ((w7)) ((w8))) (h2 : (n2) = (u0_1) ∧ (n3) = (u0_1) ∧ (n4) = (u0_1) ∧ (n5) = (u0_1) ∧ (n9) = (u0_1) ∧ (n7) = (n6) ∧ (n8) = (n6) ∧ p2 ((u0_0)) ≤ (n6)) (h3 : 1 ≤ (a2) ∧ (a2) ≤ (n1) ∧ (a2) ≤ 65536) (h4 : RWO ((w1)) ((w2)) ((u0_1)) (a2)) (k : ∀ (z : Int) (σ : rS) (F' : hF) (A' : hA), HW V177_Ir σ D N F' A' → OUT (V177_Ir).length D N σE c s D N σ c s → SF [] F F' → SA [] A A' → (inr (z)) → (0 ≤ (z) ∧ (z) ≤ 9 * (a2)) → (COST (cutP ((u0_1)) ((w2))) ((u0_0)) ((w1)) ((a2)) ((z))) → Q (some (I z)) σ c s) : Ew 177 (d + 1) 0 (rargs 0 [.ref (D 0), .ref (D 1), I a2]) [] σE c s Q := by
  have O := OUT_refl (n := (V177_Ir).length) (D := D) (N := N) (σ := σE) (c := c) (s := s)
  have HE := H
  have r1 : (-2147483648 : Int) ≤ u0_0 ∧ u0_0 ≤ 2147483647 := by have h1 : (-2147483648 : Int) ≤ F 0 0 ∧ F 0 0 ≤ 2147483647 := H.krg 0 0 (by decide); rw [show F 0 0 = u0_0 from (eu0_0)] at h1; exact h1
  have r2 : (-2147483648 : Int) ≤ u0_1 ∧ u0_1 ≤ 2147483647 := by have h1 : (-2147483648 : Int) ≤ F 0 1 ∧ F 0 1 ≤ 2147483647 := H.krg 0 1 (by decide); rw [show F 0 1 = u0_1 from (eu0_1)] at h1; exact h1
  have r3 : (0 : Int) ≤ n1 ∧ n1 ≤ 1000000 := by have h1 := H.nle 1 (by decide); have h2 : (N 1 : Int) = n1 := en1; omega
  have r4 : (0 : Int) ≤ n2 ∧ n2 ≤ 1000000 := by have h1 := H.nle 2 (by decide); have h2 : (N 2 : Int) = n2 := en2; omega
  have r5 : (0 : Int) ≤ n3 ∧ n3 ≤ 1000000 := by have h1 := H.nle 3 (by decide); have h2 : (N 3 : Int) = n3 := en3; omega
  have r6 : (0 : Int) ≤ n4 ∧ n4 ≤ 1000000 := by have h1 := H.nle 4 (by decide); have h2 : (N 4 : Int) = n4 := en4; omega
  have r7 : (0 : Int) ≤ n5 ∧ n5 ≤ 1000000 := by have h1 := H.nle 5 (by decide); have h2 : (N 5 : Int) = n5 := en5; omega
  have r8 : (0 : Int) ≤ n6 ∧ n6 ≤ 1000000 := by have h1 := H.nle 6 (by decide); have h2 : (N 6 : Int) = n6 := en6; omega
  have r9 : (0 : Int) ≤ n7 ∧ n7 ≤ 1000000 := by have h1 := H.nle 7 (by decide); have h2 : (N 7 : Int) = n7 := en7; omega
  have r10 : (0 : Int) ≤ n8 ∧ n8 ≤ 1000000 := by have h1 := H.nle 8 (by decide); have h2 : (N 8 : Int) = n8 := en8; omega
  have r11 : (0 : Int) ≤ n9 ∧ n9 ≤ 1000000 := by have h1 := H.nle 9 (by decide); have h2 : (N 9 : Int) = n9 := en9; omega
  obtain ⟨bi_, ba_, hLD, hBIA⟩ := SL_LD (show SL ((w2)) ((u0_1)) ((u0_0)) ((w3)) ((w4)) ((w5)) ((w6)) ((w7)) ((w8)) by assumption)
  have hSL : SL ((w2)) ((u0_1)) ((u0_0)) ((w3)) ((w4)) ((w5)) ((w6)) ((w7)) ((w8)) := by assumption
  have hf := SHD_f hSL.1
  have hrw : RWO ((w1)) ((w2)) ((u0_1)) (a2) := by assumption
  refine Ew_of (pc' := 1) (fun _ => x_aload_n rfl rfl) ?_
  refine Ew_of (pc' := 2) (fun _ => x_aload_n rfl rfl) ?_
  refine Ew_of (pc' := 3) (fun _ => x_iload_n rfl rfl) ?_
  refine Ew_of (pc' := 4) (fun _ => x_iconst rfl) ?_
  refine w_isub rfl ?_
  refine v_lI H (o := 1) rfl rfl rfl rfl (n := n1) (en1) (show 0 ≤ (a2 - 1) ∧ (a2 - 1) < n1 by omega) (fun v12 ev12 qv12 => ?_)
  have ev12 : (w1) ((a2 - 1)) = v12 := (congrFun (ew1) ((a2 - 1))).symm.trans ev12
  have hr1 := hrw ((a2) - 1) (by omega) (by omega)
  have hrr := ev12
  rw [ev12] at hr1
  refine v_inv H (o := 0) rfl rfl rfl rfl rfl rfl (by rfl) (C174 (D := pul [0, 2, 3, 4, 5, 6, 7, 8, 9] D) (N := pul [0, 2, 3, 4, 5, 6, 7, 8, 9] N) (HW_sub H (VS_of (show vsub V177_Ir V174 [0, 2, 3, 4, 5, 6, 7, 8, 9] = true by decide +kernel))) (pf2) (pf3) (pf4) (pf5) (pf6) (pf7) (pf8) (pf9) (n2) (en2) (n3) (en3) (n4) (en4) (n5) (en5) (n6) (en6) (n7) (en7) (n8) (en8) (n9) (en9) (u0_0) ((eu0_0)) (u0_1) ((eu0_1)) (w2) (ew2) (w3) (ew3) (w4) (ew4) (w5) (ew5) (w6) (ew6) (w7) (ew7) (w8) (ew8) (show inr (v12) by omega) (show SL ((w2)) ((u0_1)) ((u0_0)) ((w3)) ((w4)) ((w5)) ((w6)) ((w7)) ((w8)) by assumption) (show (n2) = (u0_1) ∧ (n3) = (u0_1) ∧ (n4) = (u0_1) ∧ (n5) = (u0_1) ∧ (n9) = (u0_1) ∧ (n7) = (n6) ∧ (n8) = (n6) ∧ p2 ((u0_0)) ≤ (n6) by omega) (show 0 ≤ (v12) ∧ (v12) < ((u0_1)) ∧ ((w2)) (v12) ≠ 0 by omega) (fun z13 σ13 F13' A13' H' O' hS13 hA13 pz13_0 pz13_1 pz13_2 => ⟨rfl, ?_⟩))
  refine v_back (c := c) (s := s) H (show vsub V177_Ir V174 [0, 2, 3, 4, 5, 6, 7, 8, 9] = true by decide +kernel) H' O' (fun F13 A13 H O' eF13 eA13 => ?_)
  have O := OUT_trans O O'
  -- Share.lowestPlace
  refine Ew_of (pc' := 10) (fun _ => x_istore_n rfl) ?_
  refine Ew_of (pc' := 11) (fun _ => x_aload_n rfl (rk_o (rfl) rfl rfl)) ?_
  refine v_g H (o := 0) (v := I (u0_0)) rfl rfl rfl rfl rfl (congrArg (fun z : Int => I z) ((((show F13 0 0 = F 0 0 from (eF13 0 0).trans (hS13 0 0 rfl))).trans (eu0_0)) : F13 0 0 = u0_0)) ?_
  refine Ew_of (pc' := 16) (fun _ => x_istore rfl) ?_
  refine Ew_of (pc' := 17) (fun _ => x_iload_n rfl (rk_o (rk_o (rfl) rfl rfl) rfl rfl)) ?_
  refine Ew_of (pc' := 18) (fun _ => x_iconst rfl) ?_
  refine w_isub rfl ?_
  refine Ew_of (pc' := 21) (fun _ => x_istore rfl) ?_
  have : CHN ((w6)) bi_ ba_ ((u0_0)) ((w1)) ((a2)) ((a2) - 2 - ((a2) - 2) : Int).toNat ((z13)) ((u0_0)) := CHN_0 (SL_LOW (by omega) pz13_2.1 pz13_2.2) hrr (by omega) (by omega)
  suffices hl21 : ∀ (m : Nat), ∀ (ls : rO) (σ : rS) (F_21 : hF) (A_21 : hA) (x21_3 : Int) (x21_4 : Int) (x21_5 : Int), rlook ls 0 = some (.ref (D 0)) → rlook ls 1 = some (.ref (D 1)) → rlook ls 3 = some (I (x21_3)) → rlook ls 4 = some (I (x21_4)) → rlook ls 5 = some (I (x21_5)) → HW V177_Ir σ D N F_21 A_21 → OUT (V177_Ir).length D N σE c s D N σ c s → SF [] F13 F_21 → SA [] A13 A_21 → (inr (x21_3)) → (inr (x21_4)) → (inr (x21_5)) → ((x21_5) ≤ ((a2 - 2))) → (((a2 - 2)) ≤ (x21_5) ∨ ((-1)) ≤ (x21_5)) → (0 ≤ (x21_3) ∧ (x21_3) < p2 ((u0_0))) → (0 ≤ (x21_4) ∧ (x21_4) ≤ 9 * ((a2) - 1 - (x21_5))) → (-1 ≤ (x21_5)) → (CHN ((w6)) bi_ ba_ ((u0_0)) ((w1)) ((a2)) ((a2) - 2 - (x21_5) : Int).toNat ((x21_3)) ((x21_4))) → ((x21_5) - ((-1))).toNat = m → Ew 177 (d + 1) 21 ls [] σ c s Q from
    hl21 _ _ _ _ _ (z13) (u0_0) ((a2 - 2)) (rk_o (rk_o (rk_o (rfl) rfl rfl) rfl rfl) rfl rfl) (rk_o (rk_o (rk_o (rfl) rfl rfl) rfl rfl) rfl rfl) (rk_o (rk_o (rk_s) rfl rfl) rfl rfl) (rk_o (rk_s) rfl rfl) (rk_s) H O (SF_refl) (SA_refl)     (show inr (z13) by omega) (show inr (u0_0) by omega) (show inr ((a2 - 2)) by omega) (show ((a2 - 2)) ≤ ((a2 - 2)) by omega) (show ((a2 - 2)) ≤ ((a2 - 2)) ∨ ((-1)) ≤ ((a2 - 2)) by omega) (show 0 ≤ (z13) ∧ (z13) < p2 ((u0_0)) by omega) (show 0 ≤ (u0_0) ∧ (u0_0) ≤ 9 * ((a2) - 1 - ((a2 - 2))) by omega) (show -1 ≤ ((a2 - 2)) by omega) (show CHN ((w6)) bi_ ba_ ((u0_0)) ((w1)) ((a2)) ((a2) - 2 - ((a2 - 2)) : Int).toNat ((z13)) ((u0_0)) by assumption) rfl
  as_aux_lemma =>
  intro m
  induction m using Nat.strongRecOn with
  | _ m ih21 =>
    intro ls σ F_21 A_21 x21_3 x21_4 x21_5 l21_0 l21_1 l21_3 l21_4 l21_5 H O hS_21 hA_21     j21_0 j21_1 j21_2 j21_3 j21_4 j21_5 j21_6 j21_7 j21_8 hm21
    have j21_c : CHN ((w6)) bi_ ba_ ((u0_0)) ((w1)) ((a2)) ((a2) - 2 - (x21_5) : Int).toNat ((x21_3)) ((x21_4)) := by assumption
    refine Ew_of (pc' := 23) (fun _ => x_iload rfl l21_5) ?_
    refine w_iflt (t := 62) rfl rfl (show inr (x21_5) by omega) (fun b14 => ?_) (fun b14 => ?_)
    · refine Ew_of (pc' := 64) (fun _ => x_iload rfl l21_4) ?_
      have : COST (cutP ((u0_1)) ((w2))) ((u0_0)) ((w1)) ((a2)) ((x21_4)) := ⟨_, _, _, _, hLD, by have h := j21_c; rw [show (a2) - 2 - (x21_5) = (a2) - 1 by omega] at h; exact h⟩
      exact w_ireturn rfl (k (x21_4) _ _ _ H O (SF_trans (SF_trans (SF_refl) (SF_glu (ι := [0, 2, 3, 4, 5, 6, 7, 8, 9]) hS13 eF13 (by decide +kernel)) (any_sub (l' := []) rfl)) hS_21 (any_sub rfl)) (SA_trans (SA_trans (SA_refl) (SA_glu (ι := [0, 2, 3, 4, 5, 6, 7, 8, 9]) hA13 eA13 (by decide +kernel)) (any_subA (l' := []) rfl)) hA_21 (any_subA rfl)) (show inr (x21_4) by omega) (show 0 ≤ (x21_4) ∧ (x21_4) ≤ 9 * a2 by omega) (show COST (cutP ((u0_1)) ((w2))) ((u0_0)) ((w1)) (a2) ((x21_4)) by assumption))
    · refine Ew_of (pc' := 27) (fun _ => x_aload_n rfl l21_0) ?_
      refine Ew_of (pc' := 28) (fun _ => x_iload_n rfl l21_3) ?_
      refine Ew_of (pc' := 29) (fun _ => x_aload_n rfl l21_1) ?_
      refine Ew_of (pc' := 31) (fun _ => x_iload rfl l21_5) ?_
      refine v_lI H (o := 1) rfl rfl rfl rfl (n := n1) (en1) (show 0 ≤ x21_5 ∧ x21_5 < n1 by omega) (fun v15 ev15 qv15 => ?_)
      have ev15 : (w1) (x21_5) = v15 := (congrFun ((funext (hA_21 1 rfl)).trans (((show A13 1 = A 1 from (eA13 1))).trans (ew1))) (x21_5)).symm.trans ev15
      have hr2 := hrw ((x21_5)) (by omega) (by omega)
      have he2 := ev15
      rw [he2] at hr2
      refine v_inv H (o := 0) rfl rfl rfl rfl rfl rfl (by rfl) (C175 (D := pul [0, 2, 3, 4, 5, 6, 7, 8, 9] D) (N := pul [0, 2, 3, 4, 5, 6, 7, 8, 9] N) (HW_sub H (VS_of (show vsub V177_Ir V175 [0, 2, 3, 4, 5, 6, 7, 8, 9] = true by decide +kernel))) ((((hS_21 0 2 rfl).trans ((show F13 0 2 = F 0 2 from (eF13 0 2).trans (hS13 0 2 rfl))))).trans (pf2)) ((((hS_21 0 3 rfl).trans ((show F13 0 3 = F 0 3 from (eF13 0 3).trans (hS13 0 3 rfl))))).trans (pf3)) ((((hS_21 0 4 rfl).trans ((show F13 0 4 = F 0 4 from (eF13 0 4).trans (hS13 0 4 rfl))))).trans (pf4)) ((((hS_21 0 5 rfl).trans ((show F13 0 5 = F 0 5 from (eF13 0 5).trans (hS13 0 5 rfl))))).trans (pf5)) ((((hS_21 0 7 rfl).trans ((show F13 0 7 = F 0 7 from (eF13 0 7).trans (hS13 0 7 rfl))))).trans (pf6)) ((((hS_21 0 8 rfl).trans ((show F13 0 8 = F 0 8 from (eF13 0 8).trans (hS13 0 8 rfl))))).trans (pf7)) ((((hS_21 0 9 rfl).trans ((show F13 0 9 = F 0 9 from (eF13 0 9).trans (hS13 0 9 rfl))))).trans (pf8)) ((((hS_21 0 6 rfl).trans ((show F13 0 6 = F 0 6 from (eF13 0 6).trans (hS13 0 6 rfl))))).trans (pf9)) (n2) (en2) (n3) (en3) (n4) (en4) (n5) (en5) (n6) (en6) (n7) (en7) (n8) (en8) (n9) (en9) (u0_0) ((((hS_21 0 0 rfl).trans ((show F13 0 0 = F 0 0 from (eF13 0 0).trans (hS13 0 0 rfl)))).trans (eu0_0))) (u0_1) ((((hS_21 0 1 rfl).trans ((show F13 0 1 = F 0 1 from (eF13 0 1).trans (hS13 0 1 rfl)))).trans (eu0_1))) (w2) ((funext (hA_21 2 rfl)).trans (((show A13 2 = A 2 from (eA13 2).trans (funext (hA13 1 rfl)))).trans (ew2))) (w3) ((funext (hA_21 3 rfl)).trans (((show A13 3 = A 3 from (eA13 3).trans (funext (hA13 2 rfl)))).trans (ew3))) (w4) ((funext (hA_21 4 rfl)).trans (((show A13 4 = A 4 from (eA13 4).trans (funext (hA13 3 rfl)))).trans (ew4))) (w5) ((funext (hA_21 5 rfl)).trans (((show A13 5 = A 5 from (eA13 5).trans (funext (hA13 4 rfl)))).trans (ew5))) (w6) ((funext (hA_21 6 rfl)).trans (((show A13 6 = A 6 from (eA13 6).trans (funext (hA13 5 rfl)))).trans (ew6))) (w7) ((funext (hA_21 7 rfl)).trans (((show A13 7 = A 7 from (eA13 7).trans (funext (hA13 6 rfl)))).trans (ew7))) (w8) ((funext (hA_21 8 rfl)).trans (((show A13 8 = A 8 from (eA13 8).trans (funext (hA13 7 rfl)))).trans (ew8))) (show inr (x21_3) by omega) (show inr (v15) by omega) (show SL ((w2)) ((u0_1)) ((u0_0)) ((w3)) ((w4)) ((w5)) ((w6)) ((w7)) ((w8)) by assumption) (show (n2) = (u0_1) ∧ (n3) = (u0_1) ∧ (n4) = (u0_1) ∧ (n5) = (u0_1) ∧ (n9) = (u0_1) ∧ (n7) = (n6) ∧ (n8) = (n6) ∧ p2 ((u0_0)) ≤ (n6) by omega) (show 0 ≤ (x21_3) ∧ (x21_3) < p2 ((u0_0)) by omega) (show 0 ≤ (v15) ∧ (v15) < ((u0_1)) ∧ ((w2)) (v15) ≠ 0 by omega) (fun z16 σ16 F16' A16' H' O' hS16 hA16 pz16_0 pz16_1 pz16_2 => ⟨rfl, ?_⟩))
      refine v_back (c := c) (s := s) H (show vsub V177_Ir V175 [0, 2, 3, 4, 5, 6, 7, 8, 9] = true by decide +kernel) H' O' (fun F16 A16 H O' eF16 eA16 => ?_)
      have O := OUT_trans O O'
      -- Share.bitsAhead
      refine Ew_of (pc' := 37) (fun _ => x_istore rfl) ?_
      refine Ew_of (pc' := 39) (fun _ => x_iload rfl (rk_o (l21_4) rfl rfl)) ?_
      refine Ew_of (pc' := 41) (fun _ => x_iload rfl rk_s) ?_
      refine w_iadd rfl ?_
      refine Ew_of (pc' := 44) (fun _ => x_istore rfl) ?_
      refine Ew_of (pc' := 45) (fun _ => x_aload_n rfl (rk_o (rk_o (l21_0) rfl rfl) rfl rfl)) ?_
      refine Ew_of (pc' := 46) (fun _ => x_iload_n rfl (rk_o (rk_o (l21_3) rfl rfl) rfl rfl)) ?_
      refine Ew_of (pc' := 47) (fun _ => x_aload_n rfl (rk_o (rk_o (l21_1) rfl rfl) rfl rfl)) ?_
      refine Ew_of (pc' := 49) (fun _ => x_iload rfl (rk_o (rk_o (l21_5) rfl rfl) rfl rfl)) ?_
      refine v_lI H (o := 1) rfl rfl rfl rfl (n := n1) (en1) (show 0 ≤ x21_5 ∧ x21_5 < n1 by omega) (fun v17 ev17 qv17 => ?_)
      have ev17 : (w1) (x21_5) = v17 := (congrFun (((show A16 1 = A_21 1 from (eA16 1))).trans ((funext (hA_21 1 rfl)).trans (((show A13 1 = A 1 from (eA13 1))).trans (ew1)))) (x21_5)).symm.trans ev17
      have hr3 := hrw ((x21_5)) (by omega) (by omega)
      have he3 := ev17
      rw [he3] at hr3
      refine Ew_of (pc' := 52) (fun _ => x_iload rfl (rk_o (rk_s) rfl rfl)) ?_
      have hb5 : BA (mass (((w2)) ((v17)))) ((u0_0)) ((x21_3)) ((z16)) := by rw [← he3, he2]; exact pz16_1
      obtain ⟨q2_, hq2_⟩ : ∃ q : Int, q = (v17) := ⟨_, rfl⟩
      have hb6 := hb5
      rw [← hq2_] at hb6
      refine v_inv H (o := 0) rfl rfl rfl rfl rfl rfl (by rfl) (C176 (D := pul [0, 2, 3, 4, 5, 6, 7, 8, 9] D) (N := pul [0, 2, 3, 4, 5, 6, 7, 8, 9] N) (HW_sub H (VS_of (show vsub V177_Ir V176 [0, 2, 3, 4, 5, 6, 7, 8, 9] = true by decide +kernel))) ((((((show F16 0 2 = F_21 0 2 from (eF16 0 2).trans (hS16 0 2 rfl))).trans (hS_21 0 2 rfl)).trans ((show F13 0 2 = F 0 2 from (eF13 0 2).trans (hS13 0 2 rfl))))).trans (pf2)) ((((((show F16 0 3 = F_21 0 3 from (eF16 0 3).trans (hS16 0 3 rfl))).trans (hS_21 0 3 rfl)).trans ((show F13 0 3 = F 0 3 from (eF13 0 3).trans (hS13 0 3 rfl))))).trans (pf3)) ((((((show F16 0 4 = F_21 0 4 from (eF16 0 4).trans (hS16 0 4 rfl))).trans (hS_21 0 4 rfl)).trans ((show F13 0 4 = F 0 4 from (eF13 0 4).trans (hS13 0 4 rfl))))).trans (pf4)) ((((((show F16 0 5 = F_21 0 5 from (eF16 0 5).trans (hS16 0 5 rfl))).trans (hS_21 0 5 rfl)).trans ((show F13 0 5 = F 0 5 from (eF13 0 5).trans (hS13 0 5 rfl))))).trans (pf5)) ((((((show F16 0 7 = F_21 0 7 from (eF16 0 7).trans (hS16 0 7 rfl))).trans (hS_21 0 7 rfl)).trans ((show F13 0 7 = F 0 7 from (eF13 0 7).trans (hS13 0 7 rfl))))).trans (pf6)) ((((((show F16 0 8 = F_21 0 8 from (eF16 0 8).trans (hS16 0 8 rfl))).trans (hS_21 0 8 rfl)).trans ((show F13 0 8 = F 0 8 from (eF13 0 8).trans (hS13 0 8 rfl))))).trans (pf7)) ((((((show F16 0 9 = F_21 0 9 from (eF16 0 9).trans (hS16 0 9 rfl))).trans (hS_21 0 9 rfl)).trans ((show F13 0 9 = F 0 9 from (eF13 0 9).trans (hS13 0 9 rfl))))).trans (pf8)) ((((((show F16 0 6 = F_21 0 6 from (eF16 0 6).trans (hS16 0 6 rfl))).trans (hS_21 0 6 rfl)).trans ((show F13 0 6 = F 0 6 from (eF13 0 6).trans (hS13 0 6 rfl))))).trans (pf9)) (n2) (en2) (n3) (en3) (n4) (en4) (n5) (en5) (n6) (en6) (n7) (en7) (n8) (en8) (n9) (en9) (u0_0) ((((((show F16 0 0 = F_21 0 0 from (eF16 0 0).trans (hS16 0 0 rfl))).trans (hS_21 0 0 rfl)).trans ((show F13 0 0 = F 0 0 from (eF13 0 0).trans (hS13 0 0 rfl)))).trans (eu0_0))) (u0_1) ((((((show F16 0 1 = F_21 0 1 from (eF16 0 1).trans (hS16 0 1 rfl))).trans (hS_21 0 1 rfl)).trans ((show F13 0 1 = F 0 1 from (eF13 0 1).trans (hS13 0 1 rfl)))).trans (eu0_1))) (w2) (((show A16 2 = A_21 2 from (eA16 2).trans (funext (hA16 1 rfl)))).trans ((funext (hA_21 2 rfl)).trans (((show A13 2 = A 2 from (eA13 2).trans (funext (hA13 1 rfl)))).trans (ew2)))) (w3) (((show A16 3 = A_21 3 from (eA16 3).trans (funext (hA16 2 rfl)))).trans ((funext (hA_21 3 rfl)).trans (((show A13 3 = A 3 from (eA13 3).trans (funext (hA13 2 rfl)))).trans (ew3)))) (w4) (((show A16 4 = A_21 4 from (eA16 4).trans (funext (hA16 3 rfl)))).trans ((funext (hA_21 4 rfl)).trans (((show A13 4 = A 4 from (eA13 4).trans (funext (hA13 3 rfl)))).trans (ew4)))) (w5) (((show A16 5 = A_21 5 from (eA16 5).trans (funext (hA16 4 rfl)))).trans ((funext (hA_21 5 rfl)).trans (((show A13 5 = A 5 from (eA13 5).trans (funext (hA13 4 rfl)))).trans (ew5)))) (w6) (((show A16 6 = A_21 6 from (eA16 6).trans (funext (hA16 5 rfl)))).trans ((funext (hA_21 6 rfl)).trans (((show A13 6 = A 6 from (eA13 6).trans (funext (hA13 5 rfl)))).trans (ew6)))) (w7) (((show A16 7 = A_21 7 from (eA16 7).trans (funext (hA16 6 rfl)))).trans ((funext (hA_21 7 rfl)).trans (((show A13 7 = A 7 from (eA13 7).trans (funext (hA13 6 rfl)))).trans (ew7)))) (w8) (((show A16 8 = A_21 8 from (eA16 8).trans (funext (hA16 7 rfl)))).trans ((funext (hA_21 8 rfl)).trans (((show A13 8 = A 8 from (eA13 8).trans (funext (hA13 7 rfl)))).trans (ew8)))) (show inr (x21_3) by omega) (show inr (v17) by omega) (show inr (z16) by omega) (show SL ((w2)) ((u0_1)) ((u0_0)) ((w3)) ((w4)) ((w5)) ((w6)) ((w7)) ((w8)) by assumption) (show (n2) = (u0_1) ∧ (n3) = (u0_1) ∧ (n4) = (u0_1) ∧ (n5) = (u0_1) ∧ (n9) = (u0_1) ∧ (n7) = (n6) ∧ (n8) = (n6) ∧ p2 ((u0_0)) ≤ (n6) by omega) (show 0 ≤ (x21_3) ∧ (x21_3) < p2 ((u0_0)) by omega) (show 0 ≤ (v17) ∧ (v17) < ((u0_1)) ∧ ((w2)) (v17) ≠ 0 by omega) (show BA (mass (((w2)) (v17))) ((u0_0)) (x21_3) (z16) by assumption) (fun z18 σ18 F18' A18' H' O' hS18 hA18 pz18_0 pz18_1 pz18_2 => ⟨rfl, ?_⟩))
      refine v_back (c := c) (s := s) H (show vsub V177_Ir V176 [0, 2, 3, 4, 5, 6, 7, 8, 9] = true by decide +kernel) H' O' (fun F18 A18 H O' eF18 eA18 => ?_)
      have O := OUT_trans O O'
      -- Share.placeAhead
      have hpa := pz18_2
      have hLE := SL_LEAD hSL hBIA (r := (z18)) (s := q2_) (st := (x21_3)) (b := (z16)) (by omega) (by rw [hq2_]; exact hpa.1) (by omega) hb6 hpa.2
      obtain ⟨q5, hq5⟩ : ∃ q : Int, q = (x21_5) := ⟨_, rfl⟩
      have hrc : ((w1)) q5 = q2_ := by rw [hq5, hq2_]; exact he3
      refine Ew_of (pc' := 56) (fun _ => x_istore_n rfl) ?_
      refine Ew_of (pc' := 59) (fun _ => x_iinc (len := 3) rfl (rk_o (rk_o (rk_o (l21_5) rfl rfl) rfl rfl) rfl rfl)) ?_
      refine Ew_of (pc' := 21) (fun _ => x_goto rfl rfl) ?_
      have : CHN ((w6)) bi_ ba_ ((u0_0)) ((w1)) ((a2)) ((a2) - 2 - ((x21_5 + (-1))) : Int).toNat ((z18)) (((x21_4 + z16))) := CHN_s (i := ((x21_5 + (-1))) + 1) j21_c (by omega) (by omega) (by omega) (by rw [show ((x21_5 + (-1))) + 1 = q5 by omega, hrc]; exact hLE.1) (by rw [hLE.2])
      exact ih21 _ (by omega) _ _ _ _ (z18) ((x21_4 + z16)) ((x21_5 + (-1))) (rk_o (rk_o (rk_o (rk_o (l21_0) rfl rfl) rfl rfl) rfl rfl) rfl rfl) (rk_o (rk_o (rk_o (rk_o (l21_1) rfl rfl) rfl rfl) rfl rfl) rfl rfl) (rk_o (rk_s) rfl rfl) (rk_o (rk_o (rk_s) rfl rfl) rfl rfl) (rk_s) H O (SF_trans (SF_trans (hS_21) (SF_glu (ι := [0, 2, 3, 4, 5, 6, 7, 8, 9]) hS16 eF16 (by decide +kernel)) (any_sub (l' := []) rfl)) (SF_glu (ι := [0, 2, 3, 4, 5, 6, 7, 8, 9]) hS18 eF18 (by decide +kernel)) (any_sub (l' := []) rfl)) (SA_trans (SA_trans (hA_21) (SA_glu (ι := [0, 2, 3, 4, 5, 6, 7, 8, 9]) hA16 eA16 (by decide +kernel)) (any_subA (l' := []) rfl)) (SA_glu (ι := [0, 2, 3, 4, 5, 6, 7, 8, 9]) hA18 eA18 (by decide +kernel)) (any_subA (l' := []) rfl))     (show inr (z18) by omega) (show inr ((x21_4 + z16)) by omega) (show inr ((x21_5 + (-1))) by omega) (show ((x21_5 + (-1))) ≤ ((a2 - 2)) by omega) (show ((a2 - 2)) ≤ ((x21_5 + (-1))) ∨ ((-1)) ≤ ((x21_5 + (-1))) by omega) (show 0 ≤ (z18) ∧ (z18) < p2 ((u0_0)) by omega) (show 0 ≤ ((x21_4 + z16)) ∧ ((x21_4 + z16)) ≤ 9 * ((a2) - 1 - ((x21_5 + (-1)))) by omega) (show -1 ≤ ((x21_5 + (-1))) by omega) (show CHN ((w6)) bi_ ba_ ((u0_0)) ((w1)) ((a2)) ((a2) - 2 - ((x21_5 + (-1))) : Int).toNat ((z18)) (((x21_4 + z16))) by assumption) rfl
abbrev V170_Ir : vV := [(0, 8, [(0, 0), (0, 0), (4, 0), (4, 0), (4, 0), (4, 0), (4, 0), (4, 0), (4, 0), (4, 0), (4, 0), (0, 0), (0, 0)]), (1, 1, []), (1, 1, [])]
/-- Share.holds: this, #1, this.points -/
theorem C170_Ir {σE : rS} {D N : Nat → Nat} {F : hF} {A : hA} {d c s : Nat} {Q : wQ} (H : HW V170_Ir σE D N F A)  (pf2 : F 0 2 = (D 2 : Int)) (n1 : Int) (en1 : (N 1 : Int) = n1) (n2 : Int) (en2 : (N 2 : Int) = n2) (u0_1 : Int) (eu0_1 : F 0 1 = u0_1) (w1 : Int → Int) (ew1 : A 1 = w1) (w2 : Int → Int) (ew2 : A 2 = w2) (h0 : (n2) = ((u0_1))) (k : ∀ (z : Int) (σ : rS) (F' : hF) (A' : hA), HW V170_Ir σ D N F' A' → OUT (V170_Ir).length D N σE c s D N σ c s → SF [] F F' → SA [] A A' → ((z) = 0 ∨ (z) = 1) → (HLD ((w1)) ((w2)) ((u0_1)) ((n1)) (z)) → ((z) = 1 ∨ NHL ((w1)) ((w2)) ((u0_1)) ((n1))) → Q (some (I z)) σ c s) : Ew 170 (d + 0) 0 (rargs 0 [.ref (D 0), .ref (D 1)]) [] σE c s Q := by
  have O := OUT_refl (n := (V170_Ir).length) (D := D) (N := N) (σ := σE) (c := c) (s := s)
  have HE := H
  have r1 : (-2147483648 : Int) ≤ u0_1 ∧ u0_1 ≤ 2147483647 := by have h1 : (-2147483648 : Int) ≤ F 0 1 ∧ F 0 1 ≤ 2147483647 := H.krg 0 1 (by decide); rw [show F 0 1 = u0_1 from (eu0_1)] at h1; exact h1
  have r2 : (0 : Int) ≤ n1 ∧ n1 ≤ 1000000 := by have h1 := H.nle 1 (by decide); have h2 : (N 1 : Int) = n1 := en1; omega
  have r3 : (0 : Int) ≤ n2 ∧ n2 ≤ 1000000 := by have h1 := H.nle 2 (by decide); have h2 : (N 2 : Int) = n2 := en2; omega
  refine Ew_of (pc' := 1) (fun _ => x_iconst rfl) ?_
  refine Ew_of (pc' := 2) (fun _ => x_istore_n rfl) ?_
  have h0 : HLP ((w1)) ((w2)) ((u0_1)) 0 := fun s a b => by omega
  suffices hl2 : ∀ (m : Nat), ∀ (ls : rO) (σ : rS) (F_2 : hF) (A_2 : hA) (x2_2 : Int), rlook ls 0 = some (.ref (D 0)) → rlook ls 1 = some (.ref (D 1)) → rlook ls 2 = some (I (x2_2)) → HW V170_Ir σ D N F_2 A_2 → OUT (V170_Ir).length D N σE c s D N σ c s → SF [] F F_2 → SA [] A A_2 → (inr (x2_2)) → ((0) ≤ (x2_2)) → ((x2_2) ≤ (0) ∨ (x2_2) ≤ ((n1))) → (HLP ((w1)) ((w2)) ((u0_1)) (x2_2)) → (((n1)) - (x2_2)).toNat = m → Ew 170 (d + 0) 2 ls [] σ c s Q from
    hl2 _ _ _ _ _ (0) (rk_o (rfl) rfl rfl) (rk_o (rfl) rfl rfl) (rk_s) H O (SF_refl) (SA_refl)     (show inr (0) by omega) (show (0) ≤ (0) by omega) (show (0) ≤ (0) ∨ (0) ≤ ((n1)) by omega) (show HLP ((w1)) ((w2)) ((u0_1)) (0) by assumption) rfl
  as_aux_lemma =>
  intro m
  induction m using Nat.strongRecOn with
  | _ m ih2 =>
    intro ls σ F_2 A_2 x2_2 l2_0 l2_1 l2_2 H O hS_2 hA_2     j2_0 j2_1 j2_2 j2_3 hm2
    refine Ew_of (pc' := 3) (fun _ => x_iload_n rfl l2_2) ?_
    refine Ew_of (pc' := 4) (fun _ => x_aload_n rfl l2_1) ?_
    refine v_len H (o := 1) rfl rfl rfl rfl (n := n1) (en1) ?_
    refine w_icmpge (t := 39) rfl rfl (show inr (x2_2) by omega) (show inr (n1) by omega) (fun b4 => ?_) (fun b4 => ?_)
    · have : (1 : Int) = 1 ∨ NHL ((w1)) ((w2)) ((u0_1)) ((n1)) := .inl rfl
      have hle : (x2_2) = (n1) := by omega
      have hye : HLD ((w1)) ((w2)) ((u0_1)) ((n1)) 1 := fun _ => by rw [← hle]; assumption
      refine Ew_of (pc' := 40) (fun _ => x_iconst rfl) ?_
      exact w_ireturn rfl (k (1) _ _ _ H O (SF_trans (SF_refl) hS_2 (any_sub rfl)) (SA_trans (SA_refl) hA_2 (any_subA rfl)) (show (1) = 0 ∨ (1) = 1 by omega) (show HLD ((w1)) ((w2)) ((u0_1)) ((n1)) (1) by assumption) (show (1) = 1 ∨ NHL ((w1)) ((w2)) ((u0_1)) ((n1)) by assumption))
    · refine Ew_of (pc' := 9) (fun _ => x_aload_n rfl l2_1) ?_
      refine Ew_of (pc' := 10) (fun _ => x_iload_n rfl l2_2) ?_
      refine v_lI H (o := 1) rfl rfl rfl rfl (n := n1) (en1) (show 0 ≤ x2_2 ∧ x2_2 < n1 by omega) (fun v5 ev5 qv5 => ?_)
      have ev5 : (w1) (x2_2) = v5 := (congrFun ((funext (hA_2 1 rfl)).trans (ew1)) (x2_2)).symm.trans ev5
      refine w_ifle (t := 33) rfl rfl (show inr (v5) by omega) (fun b6 => ?_) (fun b6 => ?_)
      · refine Ew_of (pc' := 36) (fun _ => x_iinc (len := 3) rfl (l2_2)) ?_
        refine Ew_of (pc' := 2) (fun _ => x_goto rfl rfl) ?_
        have h1 : HLP ((w1)) ((w2)) ((u0_1)) ((x2_2 + 1)) := HLP_s (by assumption) rfl (fun q => by omega)
        exact ih2 _ (by omega) _ _ _ _ ((x2_2 + 1)) (rk_o (l2_0) rfl rfl) (rk_o (l2_1) rfl rfl) (rk_s) H O (hS_2) (hA_2)     (show inr ((x2_2 + 1)) by omega) (show (0) ≤ ((x2_2 + 1)) by omega) (show ((x2_2 + 1)) ≤ (0) ∨ ((x2_2 + 1)) ≤ ((n1)) by omega) (show HLP ((w1)) ((w2)) ((u0_1)) ((x2_2 + 1)) by assumption) rfl
      · refine Ew_of (pc' := 15) (fun _ => x_iload_n rfl l2_2) ?_
        refine Ew_of (pc' := 16) (fun _ => x_aload_n rfl l2_0) ?_
        refine v_g H (o := 0) (v := I (u0_1)) rfl rfl rfl rfl rfl (congrArg (fun z : Int => I z) (((hS_2 0 1 rfl).trans (eu0_1)) : F_2 0 1 = u0_1)) ?_
        refine w_icmpge (t := 31) rfl rfl (show inr (x2_2) by omega) (show inr (u0_1) by omega) (fun b7 => ?_) (fun b7 => ?_)
        · have hno : HLD ((w1)) ((w2)) ((u0_1)) ((n1)) 0 := fun q => by omega
          have : (0 : Int) = 1 ∨ NHL ((w1)) ((w2)) ((u0_1)) ((n1)) := .inr ⟨(x2_2), by omega, by omega, by omega, by omega⟩
          refine Ew_of (pc' := 32) (fun _ => x_iconst rfl) ?_
          exact w_ireturn rfl (k (0) _ _ _ H O (SF_trans (SF_refl) hS_2 (any_sub rfl)) (SA_trans (SA_refl) hA_2 (any_subA rfl)) (show (0) = 0 ∨ (0) = 1 by omega) (show HLD ((w1)) ((w2)) ((u0_1)) ((n1)) (0) by assumption) (show (0) = 1 ∨ NHL ((w1)) ((w2)) ((u0_1)) ((n1)) by assumption))
        · refine Ew_of (pc' := 23) (fun _ => x_aload_n rfl l2_0) ?_
          refine v_g H (o := 0) (v := .ref (D 2)) rfl rfl rfl rfl rfl (vrf (((hS_2 0 2 rfl)).trans (pf2))) ?_
          refine Ew_of (pc' := 27) (fun _ => x_iload_n rfl l2_2) ?_
          refine v_lI H (o := 2) rfl rfl rfl rfl (n := n2) (en2) (show 0 ≤ x2_2 ∧ x2_2 < n2 by omega) (fun v8 ev8 qv8 => ?_)
          have ev8 : (w2) (x2_2) = v8 := (congrFun ((funext (hA_2 2 rfl)).trans (ew2)) (x2_2)).symm.trans ev8
          refine w_ifne (t := 33) rfl rfl (show inr (v8) by omega) (fun b9 => ?_) (fun b9 => ?_)
          · refine Ew_of (pc' := 36) (fun _ => x_iinc (len := 3) rfl (l2_2)) ?_
            refine Ew_of (pc' := 2) (fun _ => x_goto rfl rfl) ?_
            have h1 : HLP ((w1)) ((w2)) ((u0_1)) ((x2_2 + 1)) := HLP_s (by assumption) rfl (fun q => by omega)
            exact ih2 _ (by omega) _ _ _ _ ((x2_2 + 1)) (rk_o (l2_0) rfl rfl) (rk_o (l2_1) rfl rfl) (rk_s) H O (hS_2) (hA_2)     (show inr ((x2_2 + 1)) by omega) (show (0) ≤ ((x2_2 + 1)) by omega) (show ((x2_2 + 1)) ≤ (0) ∨ ((x2_2 + 1)) ≤ ((n1)) by omega) (show HLP ((w1)) ((w2)) ((u0_1)) ((x2_2 + 1)) by assumption) rfl
          · have hno : HLD ((w1)) ((w2)) ((u0_1)) ((n1)) 0 := fun q => by omega
            have : (0 : Int) = 1 ∨ NHL ((w1)) ((w2)) ((u0_1)) ((n1)) := .inr ⟨(x2_2), by omega, by omega, by omega, by omega⟩
            refine Ew_of (pc' := 32) (fun _ => x_iconst rfl) ?_
            exact w_ireturn rfl (k (0) _ _ _ H O (SF_trans (SF_refl) hS_2 (any_sub rfl)) (SA_trans (SA_refl) hA_2 (any_subA rfl)) (show (0) = 0 ∨ (0) = 1 by omega) (show HLD ((w1)) ((w2)) ((u0_1)) ((n1)) (0) by assumption) (show (0) = 1 ∨ NHL ((w1)) ((w2)) ((u0_1)) ((n1)) by assumption))
abbrev V182 : vV := [(0, 8, [(0, 0), (0, 0), (4, 0), (4, 0), (4, 0), (4, 0), (4, 0), (4, 0), (4, 0), (4, 0), (4, 0), (0, 0), (0, 0)]), (1, 1, [])]
/-- Share.zerosBehind: this, this.points -/
theorem C182 {σE : rS} {D N : Nat → Nat} {F : hF} {A : hA} {d c s : Nat} {Q : wQ} (H : HW V182 σE D N F A) {a1 : Int} (pf1 : F 0 2 = (D 1 : Int)) (n1 : Int) (en1 : (N 1 : Int) = n1) (u0_1 : Int) (eu0_1 : F 0 1 = u0_1) (w1 : Int → Int) (ew1 : A 1 = w1) (h0 : inr (a1)) (h1 : (n1) = ((u0_1))) (h2 : 0 ≤ (a1) ∧ (a1) < ((u0_1))) (h3 : 1 ≤ ((u0_1)) ∧ ((u0_1)) ≤ 64) (k : ∀ (z : Int) (σ : rS) (F' : hF) (A' : hA), HW V182 σ D N F' A' → OUT (V182).length D N σE c s D N σ c s → SF [] F F' → SA [] A A' → (inr (z)) → (0 ≤ (z) ∧ (a1) + (z) < ((u0_1))) → (ZRS ((w1)) ((a1) + 1) ((a1) + (z) + 1)) → (IMP ((a1) + (z) + 1 < ((u0_1))) (((w1)) ((a1) + (z) + 1) ≠ 0)) → Q (some (I z)) σ c s) : Ew 182 (d + 0) 0 (rargs 0 [.ref (D 0), I a1]) [] σE c s Q := by
  have O := OUT_refl (n := (V182).length) (D := D) (N := N) (σ := σE) (c := c) (s := s)
  have HE := H
  have r1 : (-2147483648 : Int) ≤ u0_1 ∧ u0_1 ≤ 2147483647 := by have h1 : (-2147483648 : Int) ≤ F 0 1 ∧ F 0 1 ≤ 2147483647 := H.krg 0 1 (by decide); rw [show F 0 1 = u0_1 from (eu0_1)] at h1; exact h1
  have r2 : (0 : Int) ≤ n1 ∧ n1 ≤ 1000000 := by have h1 := H.nle 1 (by decide); have h2 : (N 1 : Int) = n1 := en1; omega
  refine Ew_of (pc' := 1) (fun _ => x_iconst rfl) ?_
  refine Ew_of (pc' := 2) (fun _ => x_istore_n rfl) ?_
  refine Ew_of (pc' := 3) (fun _ => x_iload_n rfl (rk_o (rfl) rfl rfl)) ?_
  refine Ew_of (pc' := 4) (fun _ => x_iconst rfl) ?_
  refine w_iadd rfl ?_
  refine Ew_of (pc' := 6) (fun _ => x_istore_n rfl) ?_
  have h0 : ZRS ((w1)) ((a1) + 1) ((a1) + 1) := fun j a b => by omega
  suffices hl6 : ∀ (m : Nat), ∀ (ls : rO) (σ : rS) (F_6 : hF) (A_6 : hA) (x6_2 : Int) (x6_3 : Int), rlook ls 0 = some (.ref (D 0)) → rlook ls 2 = some (I (x6_2)) → rlook ls 3 = some (I (x6_3)) → HW V182 σ D N F_6 A_6 → OUT (V182).length D N σE c s D N σ c s → SF [] F F_6 → SA [] A A_6 → (inr (x6_2)) → (inr (x6_3)) → ((x6_2) = (x6_3) - ((a1) + 1)) → ((a1) + 1 ≤ (x6_3) ∧ (x6_3) ≤ ((u0_1))) → (ZRS ((w1)) ((a1) + 1) (x6_3)) → (((u0_1)) - (x6_3)).toNat = m → Ew 182 (d + 0) 6 ls [] σ c s Q from
    hl6 _ _ _ _ _ (0) ((a1 + 1)) (rk_o (rk_o (rfl) rfl rfl) rfl rfl) (rk_o (rk_s) rfl rfl) (rk_s) H O (SF_refl) (SA_refl)     (show inr (0) by omega) (show inr ((a1 + 1)) by omega) (show (0) = ((a1 + 1)) - ((a1) + 1) by omega) (show (a1) + 1 ≤ ((a1 + 1)) ∧ ((a1 + 1)) ≤ ((u0_1)) by omega) (show ZRS ((w1)) ((a1) + 1) ((a1 + 1)) by assumption) rfl
  as_aux_lemma =>
  intro m
  induction m using Nat.strongRecOn with
  | _ m ih6 =>
    intro ls σ F_6 A_6 x6_2 x6_3 l6_0 l6_2 l6_3 H O hS_6 hA_6     j6_0 j6_1 j6_2 j6_3 j6_4 hm6
    refine Ew_of (pc' := 7) (fun _ => x_iload_n rfl l6_3) ?_
    refine Ew_of (pc' := 8) (fun _ => x_aload_n rfl l6_0) ?_
    refine v_g H (o := 0) (v := I (u0_1)) rfl rfl rfl rfl rfl (congrArg (fun z : Int => I z) (((hS_6 0 1 rfl).trans (eu0_1)) : F_6 0 1 = u0_1)) ?_
    refine w_icmpge (t := 32) rfl rfl (show inr (x6_3) by omega) (show inr (u0_1) by omega) (fun b3 => ?_) (fun b3 => ?_)
    · have h3 : IMP ((a1) + (x6_2) + 1 < ((u0_1))) (((w1)) ((a1) + (x6_2) + 1) ≠ 0) := fun q => by rw [show (a1) + (x6_2) + 1 = (x6_3) by omega]; omega
      have h2 : ZRS ((w1)) ((a1) + 1) ((a1) + (x6_2) + 1) := by rw [show (a1) + (x6_2) + 1 = (x6_3) by omega]; assumption
      refine Ew_of (pc' := 33) (fun _ => x_iload_n rfl l6_2) ?_
      exact w_ireturn rfl (k (x6_2) _ _ _ H O (SF_trans (SF_refl) hS_6 (any_sub rfl)) (SA_trans (SA_refl) hA_6 (any_subA rfl)) (show inr (x6_2) by omega) (show 0 ≤ (x6_2) ∧ a1 + (x6_2) < ((u0_1)) by omega) (show ZRS ((w1)) (a1 + 1) (a1 + (x6_2) + 1) by assumption) (show IMP (a1 + (x6_2) + 1 < ((u0_1))) (((w1)) (a1 + (x6_2) + 1) ≠ 0) by assumption))
    · refine Ew_of (pc' := 15) (fun _ => x_aload_n rfl l6_0) ?_
      refine v_g H (o := 0) (v := .ref (D 1)) rfl rfl rfl rfl rfl (vrf (((hS_6 0 2 rfl)).trans (pf1))) ?_
      refine Ew_of (pc' := 19) (fun _ => x_iload_n rfl l6_3) ?_
      refine v_lI H (o := 1) rfl rfl rfl rfl (n := n1) (en1) (show 0 ≤ x6_3 ∧ x6_3 < n1 by omega) (fun v4 ev4 qv4 => ?_)
      have ev4 : (w1) (x6_3) = v4 := (congrFun ((funext (hA_6 1 rfl)).trans (ew1)) (x6_3)).symm.trans ev4
      refine w_ifne (t := 32) rfl rfl (show inr (v4) by omega) (fun b5 => ?_) (fun b5 => ?_)
      · have h3 : IMP ((a1) + (x6_2) + 1 < ((u0_1))) (((w1)) ((a1) + (x6_2) + 1) ≠ 0) := fun q => by rw [show (a1) + (x6_2) + 1 = (x6_3) by omega]; omega
        have h2 : ZRS ((w1)) ((a1) + 1) ((a1) + (x6_2) + 1) := by rw [show (a1) + (x6_2) + 1 = (x6_3) by omega]; assumption
        refine Ew_of (pc' := 33) (fun _ => x_iload_n rfl l6_2) ?_
        exact w_ireturn rfl (k (x6_2) _ _ _ H O (SF_trans (SF_refl) hS_6 (any_sub rfl)) (SA_trans (SA_refl) hA_6 (any_subA rfl)) (show inr (x6_2) by omega) (show 0 ≤ (x6_2) ∧ a1 + (x6_2) < ((u0_1)) by omega) (show ZRS ((w1)) (a1 + 1) (a1 + (x6_2) + 1) by assumption) (show IMP (a1 + (x6_2) + 1 < ((u0_1))) (((w1)) (a1 + (x6_2) + 1) ≠ 0) by assumption))
      · refine Ew_of (pc' := 26) (fun _ => x_iinc (len := 3) rfl (l6_2)) ?_
        refine Ew_of (pc' := 29) (fun _ => x_iinc (len := 3) rfl (rk_o (l6_3) rfl rfl)) ?_
        refine Ew_of (pc' := 6) (fun _ => x_goto rfl rfl) ?_
        have h1 : ZRS ((w1)) ((a1) + 1) ((x6_3 + 1)) := ZRS_s (by assumption) rfl (by omega)
        exact ih6 _ (by omega) _ _ _ _ ((x6_2 + 1)) ((x6_3 + 1)) (rk_o (rk_o (l6_0) rfl rfl) rfl rfl) (rk_o (rk_s) rfl rfl) (rk_s) H O (hS_6) (hA_6)     (show inr ((x6_2 + 1)) by omega) (show inr ((x6_3 + 1)) by omega) (show ((x6_2 + 1)) = ((x6_3 + 1)) - ((a1) + 1) by omega) (show (a1) + 1 ≤ ((x6_3 + 1)) ∧ ((x6_3 + 1)) ≤ ((u0_1)) by omega) (show ZRS ((w1)) ((a1) + 1) ((x6_3 + 1)) by assumption) rfl
