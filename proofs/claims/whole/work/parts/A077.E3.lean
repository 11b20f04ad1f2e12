theorem len_V156_oz_E3cls : (V156).length = 1 := by decide +kernel
def oz_E3clsl_0 : List (Nat × Nat) := [(0, 1), (0, 2), (0, 3), (0, 4)]
theorem oz_E3cls_1 : (oz_E3clsl_0).all (fun p => !tbz 30 (Nat.add (Nat.mul 32 p.1) p.2)) = true := by decide +kernel

theorem C156h {σE : rS} {D N : Nat → Nat} {F : hF} {A : hA} {d c s : Nat} {Q : wQ} (H : HW V156 σE D N F A)  (u0_1 : Int) (eu0_1 : F 0 1 = u0_1) (u0_2 : Int) (eu0_2 : F 0 2 = u0_2) (u0_3 : Int) (eu0_3 : F 0 3 = u0_3) (u0_4 : Int) (eu0_4 : F 0 4 = u0_4) (k : ∀ (σ : rS) (Fₚ : hF) (Aₚ : hA), HW V156 σ D N Fₚ Aₚ → OUT (V156).length D N σE c s D N σ c s → SF [(0, 1), (0, 2), (0, 3), (0, 4)] F Fₚ → SA [] A Aₚ → ∀ y0_1 : Int, Fₚ 0 1 = y0_1 → ∀ y0_2 : Int, Fₚ 0 2 = y0_2 → ∀ y0_3 : Int, Fₚ 0 3 = y0_3 → ∀ y0_4 : Int, Fₚ 0 4 = y0_4 → ((y0_1) = 0 ∧ (y0_4) = 0 ∧ (y0_2) = 0) → ((y0_3) = 0) → Q none σ c s) : Ew 156 (d + 0) 0 (rargs 0 [.ref (D 0)]) [] σE c s Q := by
  have O := OUT_refl (n := (V156).length) (D := D) (N := N) (σ := σE) (c := c) (s := s)
  have HE := H
  have r1 : (-2147483648 : Int) ≤ u0_1 ∧ u0_1 ≤ 2147483647 := rngE (show (-2147483648 : Int) ≤ F 0 1 ∧ F 0 1 ≤ 2147483647 from H.krg 0 1 (ltn len_V156_oz_E3cls rfl)) (show F 0 1 = u0_1 from (eu0_1))
  have r2 : (0 : Int) ≤ u0_2 ∧ u0_2 ≤ 1 := rngE (show (0 : Int) ≤ F 0 2 ∧ F 0 2 ≤ 1 from H.krg 0 2 (ltn len_V156_oz_E3cls rfl)) (show F 0 2 = u0_2 from (eu0_2))
  have r3 : (-2147483648 : Int) ≤ u0_3 ∧ u0_3 ≤ 2147483647 := rngE (show (-2147483648 : Int) ≤ F 0 3 ∧ F 0 3 ≤ 2147483647 from H.krg 0 3 (ltn len_V156_oz_E3cls rfl)) (show F 0 3 = u0_3 from (eu0_3))
  have r4 : (-2147483648 : Int) ≤ u0_4 ∧ u0_4 ≤ 2147483647 := rngE (show (-2147483648 : Int) ≤ F 0 4 ∧ F 0 4 ≤ 2147483647 from H.krg 0 4 (ltn len_V156_oz_E3cls rfl)) (show F 0 4 = u0_4 from (eu0_4))
  refine Ew_of (pcₚ := 1) (fun _ => x_aload_n rfl rfl) ?_
  refine Ew_of (pcₚ := 2) (fun _ => x_iconst rfl) ?_
  refine v_p H (o := 0) (z := 0) (v := I (0)) rfl rfl rfl rfl rfl rfl rfl rfl (show (-2147483648 : Int) ≤ 0 ∧ 0 ≤ 2147483647 from q_22) (fun σ H Oₚ => ?_)
  have O := OUT_trans O Oₚ
  have cFu5 : SF oz_E3clsl_0 F (updF F 0 1 (0)) := SF_upd (SF_refl) rfl
  have mFu5 := SFm_of cFu5 oz_E3cls_1
  refine Ew_of (pcₚ := 6) (fun _ => x_aload_n rfl rfl) ?_
  refine Ew_of (pcₚ := 7) (fun _ => x_iconst rfl) ?_
  refine v_p H (o := 0) (z := 0) (v := I (0)) rfl rfl rfl rfl rfl rfl rfl (rfit_b (by omega)) (show (0 : Int) ≤ 0 ∧ 0 ≤ 1 from q_32) (fun σ H Oₚ => ?_)
  have O := OUT_trans O Oₚ
  have cFu6 : SF oz_E3clsl_0 F (updF (updF F 0 1 (0)) 0 2 (0)) := SF_upd (cFu5) rfl
  have mFu6 := SFm_of cFu6 oz_E3cls_1
  refine Ew_of (pcₚ := 11) (fun _ => x_aload_n rfl rfl) ?_
  refine Ew_of (pcₚ := 12) (fun _ => x_iconst rfl) ?_
  refine v_p H (o := 0) (z := 0) (v := I (0)) rfl rfl rfl rfl rfl rfl rfl rfl (show (-2147483648 : Int) ≤ 0 ∧ 0 ≤ 2147483647 from q_22) (fun σ H Oₚ => ?_)
  have O := OUT_trans O Oₚ
  have cFu7 : SF oz_E3clsl_0 F (updF (updF (updF F 0 1 (0)) 0 2 (0)) 0 3 (0)) := SF_upd (cFu6) rfl
  have mFu7 := SFm_of cFu7 oz_E3cls_1
  refine Ew_of (pcₚ := 16) (fun _ => x_aload_n rfl rfl) ?_
  refine Ew_of (pcₚ := 17) (fun _ => x_iconst rfl) ?_
  refine v_p H (o := 0) (z := 0) (v := I (0)) rfl rfl rfl rfl rfl rfl rfl rfl (show (-2147483648 : Int) ≤ 0 ∧ 0 ≤ 2147483647 from q_22) (fun σ H Oₚ => ?_)
  have O := OUT_trans O Oₚ
  have cFu8 : SF oz_E3clsl_0 F (updF (updF (updF (updF F 0 1 (0)) 0 2 (0)) 0 3 (0)) 0 4 (0)) := SF_upd (cFu7) rfl
  have mFu8 := SFm_of cFu8 oz_E3cls_1
  exact w_ret rfl (k _ _ _ H O (cFu8) (SA_refl) (0) (rfl) (0) (rfl) (0) (rfl) (0) (rfl) (show (0) = 0 ∧ (0) = 0 ∧ (0) = 0 by first | exact q_3495 | omega) (show (0) = 0 by first | exact q_34 | omega))
theorem len_V165_oz_E3cls : (V165).length = 2 := by decide +kernel
def oz_E3clsl_1 : List Nat := [1]
theorem oz_E3cls_3 : (oz_E3clsl_1).all (fun p => !tbz 2 p) = true := by decide +kernel

theorem C165h {σE : rS} {D N : Nat → Nat} {F : hF} {A : hA} {d c s : Nat} {Q : wQ} (H : HW V165 σE D N F A)  (pf1 : F 0 0 = (D 1 : Int)) (n1 : Int) (en1 : (N 1 : Int) = n1) (u0_1 : Int) (eu0_1 : F 0 1 = u0_1) (u0_2 : Int) (eu0_2 : F 0 2 = u0_2) (u0_3 : Int) (eu0_3 : F 0 3 = u0_3) (u0_4 : Int) (eu0_4 : F 0 4 = u0_4) (w1 : Int → Int) (ew1 : A 1 = w1) (h0 : 0 ≤ (u0_1) ∧ (u0_1) ≤ (n1) ∧ (n1) ≤ 65536) (h1 : 0 ≤ (u0_4)) (k : ∀ (σ : rS) (Fₚ : hF) (Aₚ : hA), HW V165 σ D N Fₚ Aₚ → OUT (V165).length D N σE c s D N σ c s → SF [(0, 1), (0, 2), (0, 3), (0, 4)] F Fₚ → SA [1] A Aₚ → ∀ y0_1 : Int, Fₚ 0 1 = y0_1 → ∀ y0_2 : Int, Fₚ 0 2 = y0_2 → ∀ y0_3 : Int, Fₚ 0 3 = y0_3 → ∀ y0_4 : Int, Fₚ 0 4 = y0_4 → ∀ v1 : Int → Int, Aₚ 1 = v1 → (0 ≤ (y0_1) ∧ (y0_1) ≤ (n1) ∧ (n1) ≤ 65536) → ((y0_4) = 0 ∧ (u0_1) ≤ (y0_1)) → ((y0_3) = 0) → (IMP ((u0_4) ≤ 7 ∧ ((u0_4) = 0 ∨ (u0_1) < (n1))) (RBE ((u0_2)) ((w1)) ((u0_1)) ((u0_3)) ((u0_4)) ((y0_2)) ((v1)) ((y0_1)) 0 0)) → ((y0_1) ≤ (u0_1) + 1) → Q none σ c s) : Ew 165 (d + 0) 0 (rargs 0 [.ref (D 0)]) [] σE c s Q := by
  have O := OUT_refl (n := (V165).length) (D := D) (N := N) (σ := σE) (c := c) (s := s)
  have HE := H
  have r1 : (-2147483648 : Int) ≤ u0_1 ∧ u0_1 ≤ 2147483647 := rngE (show (-2147483648 : Int) ≤ F 0 1 ∧ F 0 1 ≤ 2147483647 from H.krg 0 1 (ltn len_V165_oz_E3cls rfl)) (show F 0 1 = u0_1 from (eu0_1))
  have r2 : (0 : Int) ≤ u0_2 ∧ u0_2 ≤ 1 := rngE (show (0 : Int) ≤ F 0 2 ∧ F 0 2 ≤ 1 from H.krg 0 2 (ltn len_V165_oz_E3cls rfl)) (show F 0 2 = u0_2 from (eu0_2))
  have r3 : (-2147483648 : Int) ≤ u0_3 ∧ u0_3 ≤ 2147483647 := rngE (show (-2147483648 : Int) ≤ F 0 3 ∧ F 0 3 ≤ 2147483647 from H.krg 0 3 (ltn len_V165_oz_E3cls rfl)) (show F 0 3 = u0_3 from (eu0_3))
  have r4 : (-2147483648 : Int) ≤ u0_4 ∧ u0_4 ≤ 2147483647 := rngE (show (-2147483648 : Int) ≤ F 0 4 ∧ F 0 4 ≤ 2147483647 from H.krg 0 4 (ltn len_V165_oz_E3cls rfl)) (show F 0 4 = u0_4 from (eu0_4))
  have r5 : (0 : Int) ≤ n1 ∧ n1 ≤ 1000000 := nleE (H.nle 1 (ltn len_V165_oz_E3cls rfl)) (show (N 1 : Int) = n1 from en1)
  refine Ew_of (pcₚ := 1) (fun _ => x_aload_n rfl rfl) ?_
  refine v_g H (o := 0) (v := I (u0_4)) rfl rfl rfl rfl rfl (congrArg (fun z : Int => I z) ((eu0_4) : F 0 4 = u0_4)) ?_
  refine w_ifle (t := 43) rfl rfl (show inr (u0_4) from q_1207 h1 r4) (fun b6 => ?_) (fun b6 => ?_)
  · refine Ew_of (pcₚ := 44) (fun _ => x_aload_n rfl rfl) ?_
    refine v_g H (o := 0) (v := I (u0_4)) rfl rfl rfl rfl rfl (congrArg (fun z : Int => I z) ((eu0_4) : F 0 4 = u0_4)) ?_
    refine w_ifle (t := 55) rfl rfl (show inr (u0_4) from q_3496 b6 h1) (fun b7 => ?_) (fun b7 => ?_)
    · refine Ew_of (pcₚ := 56) (fun _ => x_aload_n rfl rfl) ?_
      refine Ew_of (pcₚ := 57) (fun _ => x_iconst rfl) ?_
      refine v_p H (o := 0) (z := 0) (v := I (0)) rfl rfl rfl rfl rfl rfl rfl rfl (show (-2147483648 : Int) ≤ 0 ∧ 0 ≤ 2147483647 from q_22) (fun σ H Oₚ => ?_)
      have O := OUT_trans O Oₚ
      have cFu8 : SF oz_E3clsl_0 F (updF F 0 3 (0)) := SF_upd (SF_refl) rfl
      have mFu8 := SFm_of cFu8 oz_E3cls_1
      refine Ew_of (pcₚ := 61) (fun _ => x_aload_n rfl rfl) ?_
      refine Ew_of (pcₚ := 62) (fun _ => x_iconst rfl) ?_
      refine v_p H (o := 0) (z := 0) (v := I (0)) rfl rfl rfl rfl rfl rfl rfl rfl (show (-2147483648 : Int) ≤ 0 ∧ 0 ≤ 2147483647 from q_22) (fun σ H Oₚ => ?_)
      have O := OUT_trans O Oₚ
      have cFu9 : SF oz_E3clsl_0 F (updF (updF F 0 3 (0)) 0 4 (0)) := SF_upd (cFu8) rfl
      have mFu9 := SFm_of cFu9 oz_E3cls_1
      have : IMP ((u0_4) ≤ 7 ∧ ((u0_4) = 0 ∨ (u0_1) < (n1))) (RBE ((u0_2)) ((w1)) ((u0_1)) ((u0_3)) ((u0_4)) ((u0_2)) ((w1)) ((u0_1)) 0 0) := fun q => by have q1 := q.1; have q2 := q.2; first | exact RBE_y (by omega) (by omega) hub rfl | exact RBE_0 (by omega) | omega
      exact w_ret rfl (k _ _ _ H O (cFu9) (SA_refl) (u0_1) ((eu0_1)) (u0_2) ((eu0_2)) (0) (rfl) (0) (rfl) (w1) (ew1) (show 0 ≤ (u0_1) ∧ (u0_1) ≤ (n1) ∧ (n1) ≤ 65536 from h0) (show (0) = 0 ∧ (u0_1) ≤ (u0_1) by first | exact q_3498 | omega) (show (0) = 0 by first | exact q_34 | omega) (show IMP ((u0_4) ≤ 7 ∧ ((u0_4) = 0 ∨ (u0_1) < (n1))) (RBE ((u0_2)) ((w1)) ((u0_1)) ((u0_3)) ((u0_4)) ((u0_2)) ((w1)) ((u0_1)) 0 0) by assumption) (show (u0_1) ≤ (u0_1) + 1 from q_3497))
    · refine Ew_of (pcₚ := 51) (fun _ => x_aload_n rfl rfl) ?_
      refine Ew_of (pcₚ := 52) (fun _ => x_iconst rfl) ?_
      refine v_p H (o := 0) (z := 1) (v := I (1)) rfl rfl rfl rfl rfl rfl rfl (rfit_b (by omega)) (show (0 : Int) ≤ 1 ∧ 1 ≤ 1 from q_35) (fun σ H Oₚ => ?_)
      have O := OUT_trans O Oₚ
      have cFu10 : SF oz_E3clsl_0 F (updF F 0 2 (1)) := SF_upd (SF_refl) rfl
      have mFu10 := SFm_of cFu10 oz_E3cls_1
      refine Ew_of (pcₚ := 56) (fun _ => x_aload_n rfl rfl) ?_
      refine Ew_of (pcₚ := 57) (fun _ => x_iconst rfl) ?_
      refine v_p H (o := 0) (z := 0) (v := I (0)) rfl rfl rfl rfl rfl rfl rfl rfl (show (-2147483648 : Int) ≤ 0 ∧ 0 ≤ 2147483647 from q_22) (fun σ H Oₚ => ?_)
      have O := OUT_trans O Oₚ
      have cFu11 : SF oz_E3clsl_0 F (updF (updF F 0 2 (1)) 0 3 (0)) := SF_upd (cFu10) rfl
      have mFu11 := SFm_of cFu11 oz_E3cls_1
      refine Ew_of (pcₚ := 61) (fun _ => x_aload_n rfl rfl) ?_
      refine Ew_of (pcₚ := 62) (fun _ => x_iconst rfl) ?_
      refine v_p H (o := 0) (z := 0) (v := I (0)) rfl rfl rfl rfl rfl rfl rfl rfl (show (-2147483648 : Int) ≤ 0 ∧ 0 ≤ 2147483647 from q_22) (fun σ H Oₚ => ?_)
      have O := OUT_trans O Oₚ
      have cFu12 : SF oz_E3clsl_0 F (updF (updF (updF F 0 2 (1)) 0 3 (0)) 0 4 (0)) := SF_upd (cFu11) rfl
      have mFu12 := SFm_of cFu12 oz_E3cls_1
      have : IMP ((u0_4) ≤ 7 ∧ ((u0_4) = 0 ∨ (u0_1) < (n1))) (RBE ((u0_2)) ((w1)) ((u0_1)) ((u0_3)) ((u0_4)) ((1)) ((w1)) ((u0_1)) 0 0) := fun q => by have q1 := q.1; have q2 := q.2; first | exact RBE_y (by omega) (by omega) hub rfl | exact RBE_0 (by omega) | omega
      exact w_ret rfl (k _ _ _ H O (cFu12) (SA_refl) (u0_1) ((eu0_1)) (1) (rfl) (0) (rfl) (0) (rfl) (w1) (ew1) (show 0 ≤ (u0_1) ∧ (u0_1) ≤ (n1) ∧ (n1) ≤ 65536 from h0) (show (0) = 0 ∧ (u0_1) ≤ (u0_1) by first | exact q_3498 | omega) (show (0) = 0 by first | exact q_34 | omega) (show IMP ((u0_4) ≤ 7 ∧ ((u0_4) = 0 ∨ (u0_1) < (n1))) (RBE ((u0_2)) ((w1)) ((u0_1)) ((u0_3)) ((u0_4)) ((1)) ((w1)) ((u0_1)) 0 0) by assumption) (show (u0_1) ≤ (u0_1) + 1 from q_3497))
  · refine Ew_of (pcₚ := 8) (fun _ => x_aload_n rfl rfl) ?_
    refine v_g H (o := 0) (v := I (u0_1)) rfl rfl rfl rfl rfl (congrArg (fun z : Int => I z) ((eu0_1) : F 0 1 = u0_1)) ?_
    refine Ew_of (pcₚ := 12) (fun _ => x_aload_n rfl rfl) ?_
    refine v_g H (o := 0) (v := .ref (D 1)) rfl rfl rfl rfl rfl (vrf (pf1)) ?_
    refine v_len H (o := 1) rfl rfl rfl rfl (n := n1) (en1) ?_
    refine w_icmpge (t := 43) rfl rfl (show inr (u0_1) from q_38 h0) (show inr (n1) from q_37 r5) (fun b13 => ?_) (fun b13 => ?_)
    · refine Ew_of (pcₚ := 44) (fun _ => x_aload_n rfl rfl) ?_
      refine v_g H (o := 0) (v := I (u0_4)) rfl rfl rfl rfl rfl (congrArg (fun z : Int => I z) ((eu0_4) : F 0 4 = u0_4)) ?_
      refine w_ifle (t := 55) rfl rfl (show inr (u0_4) from q_3499 b6 r4) (fun b14 => ?_) (fun b14 => ?_)
      · refine Ew_of (pcₚ := 56) (fun _ => x_aload_n rfl rfl) ?_
        refine Ew_of (pcₚ := 57) (fun _ => x_iconst rfl) ?_
        refine v_p H (o := 0) (z := 0) (v := I (0)) rfl rfl rfl rfl rfl rfl rfl rfl (show (-2147483648 : Int) ≤ 0 ∧ 0 ≤ 2147483647 from q_22) (fun σ H Oₚ => ?_)
        have O := OUT_trans O Oₚ
        have cFu15 : SF oz_E3clsl_0 F (updF F 0 3 (0)) := SF_upd (SF_refl) rfl
        have mFu15 := SFm_of cFu15 oz_E3cls_1
        refine Ew_of (pcₚ := 61) (fun _ => x_aload_n rfl rfl) ?_
        refine Ew_of (pcₚ := 62) (fun _ => x_iconst rfl) ?_
        refine v_p H (o := 0) (z := 0) (v := I (0)) rfl rfl rfl rfl rfl rfl rfl rfl (show (-2147483648 : Int) ≤ 0 ∧ 0 ≤ 2147483647 from q_22) (fun σ H Oₚ => ?_)
        have O := OUT_trans O Oₚ
        have cFu16 : SF oz_E3clsl_0 F (updF (updF F 0 3 (0)) 0 4 (0)) := SF_upd (cFu15) rfl
        have mFu16 := SFm_of cFu16 oz_E3cls_1
        have : IMP ((u0_4) ≤ 7 ∧ ((u0_4) = 0 ∨ (u0_1) < (n1))) (RBE ((u0_2)) ((w1)) ((u0_1)) ((u0_3)) ((u0_4)) ((u0_2)) ((w1)) ((u0_1)) 0 0) := fun q => by have q1 := q.1; have q2 := q.2; first | exact RBE_y (by omega) (by omega) hub rfl | exact RBE_0 (by omega) | omega
        exact w_ret rfl (k _ _ _ H O (cFu16) (SA_refl) (u0_1) ((eu0_1)) (u0_2) ((eu0_2)) (0) (rfl) (0) (rfl) (w1) (ew1) (show 0 ≤ (u0_1) ∧ (u0_1) ≤ (n1) ∧ (n1) ≤ 65536 from h0) (show (0) = 0 ∧ (u0_1) ≤ (u0_1) by first | exact q_3498 | omega) (show (0) = 0 by first | exact q_34 | omega) (show IMP ((u0_4) ≤ 7 ∧ ((u0_4) = 0 ∨ (u0_1) < (n1))) (RBE ((u0_2)) ((w1)) ((u0_1)) ((u0_3)) ((u0_4)) ((u0_2)) ((w1)) ((u0_1)) 0 0) by assumption) (show (u0_1) ≤ (u0_1) + 1 from q_3497))
      · refine Ew_of (pcₚ := 51) (fun _ => x_aload_n rfl rfl) ?_
        refine Ew_of (pcₚ := 52) (fun _ => x_iconst rfl) ?_
        refine v_p H (o := 0) (z := 1) (v := I (1)) rfl rfl rfl rfl rfl rfl rfl (rfit_b (by omega)) (show (0 : Int) ≤ 1 ∧ 1 ≤ 1 from q_35) (fun σ H Oₚ => ?_)
        have O := OUT_trans O Oₚ
        have cFu17 : SF oz_E3clsl_0 F (updF F 0 2 (1)) := SF_upd (SF_refl) rfl
        have mFu17 := SFm_of cFu17 oz_E3cls_1
        refine Ew_of (pcₚ := 56) (fun _ => x_aload_n rfl rfl) ?_
        refine Ew_of (pcₚ := 57) (fun _ => x_iconst rfl) ?_
        refine v_p H (o := 0) (z := 0) (v := I (0)) rfl rfl rfl rfl rfl rfl rfl rfl (show (-2147483648 : Int) ≤ 0 ∧ 0 ≤ 2147483647 from q_22) (fun σ H Oₚ => ?_)
        have O := OUT_trans O Oₚ
        have cFu18 : SF oz_E3clsl_0 F (updF (updF F 0 2 (1)) 0 3 (0)) := SF_upd (cFu17) rfl
        have mFu18 := SFm_of cFu18 oz_E3cls_1
        refine Ew_of (pcₚ := 61) (fun _ => x_aload_n rfl rfl) ?_
        refine Ew_of (pcₚ := 62) (fun _ => x_iconst rfl) ?_
        refine v_p H (o := 0) (z := 0) (v := I (0)) rfl rfl rfl rfl rfl rfl rfl rfl (show (-2147483648 : Int) ≤ 0 ∧ 0 ≤ 2147483647 from q_22) (fun σ H Oₚ => ?_)
        have O := OUT_trans O Oₚ
        have cFu19 : SF oz_E3clsl_0 F (updF (updF (updF F 0 2 (1)) 0 3 (0)) 0 4 (0)) := SF_upd (cFu18) rfl
        have mFu19 := SFm_of cFu19 oz_E3cls_1
        have : IMP ((u0_4) ≤ 7 ∧ ((u0_4) = 0 ∨ (u0_1) < (n1))) (RBE ((u0_2)) ((w1)) ((u0_1)) ((u0_3)) ((u0_4)) ((1)) ((w1)) ((u0_1)) 0 0) := fun q => by have q1 := q.1; have q2 := q.2; first | exact RBE_y (by omega) (by omega) hub rfl | exact RBE_0 (by omega) | omega
        exact w_ret rfl (k _ _ _ H O (cFu19) (SA_refl) (u0_1) ((eu0_1)) (1) (rfl) (0) (rfl) (0) (rfl) (w1) (ew1) (show 0 ≤ (u0_1) ∧ (u0_1) ≤ (n1) ∧ (n1) ≤ 65536 from h0) (show (0) = 0 ∧ (u0_1) ≤ (u0_1) by first | exact q_3498 | omega) (show (0) = 0 by first | exact q_34 | omega) (show IMP ((u0_4) ≤ 7 ∧ ((u0_4) = 0 ∨ (u0_1) < (n1))) (RBE ((u0_2)) ((w1)) ((u0_1)) ((u0_3)) ((u0_4)) ((1)) ((w1)) ((u0_1)) 0 0) by assumption) (show (u0_1) ≤ (u0_1) + 1 from q_3497))
    · refine Ew_of (pcₚ := 20) (fun _ => x_aload_n rfl rfl) ?_
      refine v_g H (o := 0) (v := .ref (D 1)) rfl rfl rfl rfl rfl (vrf (pf1)) ?_
      refine Ew_of (pcₚ := 24) (fun _ => x_aload_n rfl rfl) ?_
      refine Ew_of (pcₚ := 25) (fun _ => x_dup rfl rfl) ?_
      refine v_g H (o := 0) (v := I (u0_1)) rfl rfl rfl rfl rfl (congrArg (fun z : Int => I z) ((eu0_1) : F 0 1 = u0_1)) ?_
      refine Ew_of (pcₚ := 29) (fun _ => x_dup_x1 rfl rfl) ?_
      refine Ew_of (pcₚ := 30) (fun _ => x_iconst rfl) ?_
      refine w_iadd rfl ?_
      refine v_p H (o := 0) (z := (u0_1 + 1)) (v := I ((u0_1 + 1))) rfl rfl rfl rfl rfl rfl rfl rfl (show (-2147483648 : Int) ≤ (u0_1 + 1) ∧ (u0_1 + 1) ≤ 2147483647 from q_40 b13 h0) (fun σ H Oₚ => ?_)
      have O := OUT_trans O Oₚ
      have cFu20 : SF oz_E3clsl_0 F (updF F 0 1 ((u0_1 + 1))) := SF_upd (SF_refl) rfl
      have mFu20 := SFm_of cFu20 oz_E3cls_1
      refine Ew_of (pcₚ := 35) (fun _ => x_aload_n rfl rfl) ?_
      refine v_g H (o := 0) (v := I (u0_3)) rfl rfl rfl rfl rfl (congrArg (fun z : Int => I z) ((eu0_3) : (updF F 0 1 ((u0_1 + 1))) 0 3 = u0_3)) ?_
      refine v_i2b rfl (fun z21 gz21 uz21 => ?_)
      have hu_ := uz21
      refine v_sB H (o := 1) rfl rfl rfl rfl (n := n1) (en1) (show 0 ≤ u0_1 ∧ u0_1 < n1 from q_41 b13 h0) (fun z22 σ qz22 uz22 H Oₚ => ?_)
      have O := OUT_trans O Oₚ
      have cAu23 : SA oz_E3clsl_1 A (updA A 1 (u0_1) (z22)) := SA_upd (SA_refl) rfl
      have mAu23 := SAm_of cAu23 oz_E3cls_3
      have hub := (uz22).trans hu_
      refine Ew_of (pcₚ := 55) (fun _ => x_goto rfl rfl) ?_
      refine Ew_of (pcₚ := 56) (fun _ => x_aload_n rfl rfl) ?_
      refine Ew_of (pcₚ := 57) (fun _ => x_iconst rfl) ?_
      refine v_p H (o := 0) (z := 0) (v := I (0)) rfl rfl rfl rfl rfl rfl rfl rfl (show (-2147483648 : Int) ≤ 0 ∧ 0 ≤ 2147483647 from q_22) (fun σ H Oₚ => ?_)
      have O := OUT_trans O Oₚ
      have cFu24 : SF oz_E3clsl_0 F (updF (updF F 0 1 ((u0_1 + 1))) 0 3 (0)) := SF_upd (cFu20) rfl
      have mFu24 := SFm_of cFu24 oz_E3cls_1
      refine Ew_of (pcₚ := 61) (fun _ => x_aload_n rfl rfl) ?_
      refine Ew_of (pcₚ := 62) (fun _ => x_iconst rfl) ?_
      refine v_p H (o := 0) (z := 0) (v := I (0)) rfl rfl rfl rfl rfl rfl rfl rfl (show (-2147483648 : Int) ≤ 0 ∧ 0 ≤ 2147483647 from q_22) (fun σ H Oₚ => ?_)
      have O := OUT_trans O Oₚ
      have cFu25 : SF oz_E3clsl_0 F (updF (updF (updF F 0 1 ((u0_1 + 1))) 0 3 (0)) 0 4 (0)) := SF_upd (cFu24) rfl
      have mFu25 := SFm_of cFu25 oz_E3cls_1
      have : IMP ((u0_4) ≤ 7 ∧ ((u0_4) = 0 ∨ (u0_1) < (n1))) (RBE ((u0_2)) ((w1)) ((u0_1)) ((u0_3)) ((u0_4)) ((u0_2)) ((upd1 (w1) (u0_1) (z22))) (((u0_1 + 1))) 0 0) := fun q => by have q1 := q.1; have q2 := q.2; first | exact RBE_y (by omega) (by omega) hub rfl | exact RBE_0 (by omega) | omega
      exact w_ret rfl (k _ _ _ H O (cFu25) (cAu23) ((u0_1 + 1)) (rfl) (u0_2) ((eu0_2)) (0) (rfl) (0) (rfl) (upd1 (w1) (u0_1) (z22)) (congrArg (fun q => upd1 q (u0_1) (z22)) (ew1)) (show 0 ≤ ((u0_1 + 1)) ∧ ((u0_1 + 1)) ≤ (n1) ∧ (n1) ≤ 65536 from q_42 b13 h0) (show (0) = 0 ∧ (u0_1) ≤ ((u0_1 + 1)) by first | exact q_3501 | omega) (show (0) = 0 by first | exact q_34 | omega) (show IMP ((u0_4) ≤ 7 ∧ ((u0_4) = 0 ∨ (u0_1) < (n1))) (RBE ((u0_2)) ((w1)) ((u0_1)) ((u0_3)) ((u0_4)) ((u0_2)) ((upd1 (w1) (u0_1) (z22))) (((u0_1 + 1))) 0 0) by assumption) (show ((u0_1 + 1)) ≤ (u0_1) + 1 from q_3500))
abbrev V171 : vV := [(0, 8, [(0, 0), (0, 0), (4, 0), (4, 0), (4, 0), (4, 0), (4, 0), (4, 0), (4, 0), (4, 0), (4, 0), (0, 0), (0, 0)]), (1, 1, []), (1, 1, []), (1, 1, []), (1, 1, []), (1, 1, []), (1, 1, []), (1, 1, []), (1, 1, [])]
theorem len_V171_oz_E3cls : (V171).length = 9 := by decide +kernel

theorem C171 {σE : rS} {D N : Nat → Nat} {F : hF} {A : hA} {d c s : Nat} {Q : wQ} (H : HW V171 σE D N F A) {a1 : Int} (pf1 : F 0 2 = (D 1 : Int)) (pf2 : F 0 3 = (D 2 : Int)) (pf3 : F 0 4 = (D 3 : Int)) (pf4 : F 0 5 = (D 4 : Int)) (pf5 : F 0 7 = (D 5 : Int)) (pf6 : F 0 8 = (D 6 : Int)) (pf7 : F 0 9 = (D 7 : Int)) (pf8 : F 0 6 = (D 8 : Int)) (n1 : Int) (en1 : (N 1 : Int) = n1) (n2 : Int) (en2 : (N 2 : Int) = n2) (n3 : Int) (en3 : (N 3 : Int) = n3) (n4 : Int) (en4 : (N 4 : Int) = n4) (n5 : Int) (en5 : (N 5 : Int) = n5) (n6 : Int) (en6 : (N 6 : Int) = n6) (n7 : Int) (en7 : (N 7 : Int) = n7) (n8 : Int) (en8 : (N 8 : Int) = n8) (u0_0 : Int) (eu0_0 : F 0 0 = u0_0) (u0_1 : Int) (eu0_1 : F 0 1 = u0_1) (w1 : Int → Int) (ew1 : A 1 = w1) (w2 : Int → Int) (ew2 : A 2 = w2) (w3 : Int → Int) (ew3 : A 3 = w3) (w4 : Int → Int) (ew4 : A 4 = w4) (w5 : Int → Int) (ew5 : A 5 = w5) (w6 : Int → Int) (ew6 : A 6 = w6) (w7 : Int → Int) (ew7 : A 7 = w7) (h0 : inr (a1)) (h1 : SL ((w1)) ((u0_1)) ((u0_0)) ((w2)) ((w3)) ((w4)) ((w5)) ((w6)) ((w7))) (h2 : (n1) = (u0_1) ∧ (n2) = (u0_1) ∧ (n3) = (u0_1) ∧ (n4) = (u0_1) ∧ (n8) = (u0_1) ∧ (n6) = (n5) ∧ (n7) = (n5) ∧ p2 ((u0_0)) ≤ (n5)) (h3 : 0 ≤ (a1) ∧ (a1) < p2 ((u0_0))) (k : ∀ (z : Int) (σ : rS) (Fₚ : hF) (Aₚ : hA), HW V171 σ D N Fₚ Aₚ → OUT (V171).length D N σE c s D N σ c s → SF [] F Fₚ → SA [] A Aₚ → (inr (z)) → ((z) = ((w5)) (a1)) → (0 ≤ (z) ∧ (z) < ((u0_1))) → (((w1)) (z) ≠ 0) → Q (some (I z)) σ c s) : Ew 171 (d + 0) 0 (rargs 0 [.ref (D 0), I a1]) [] σE c s Q := by
  have O := OUT_refl (n := (V171).length) (D := D) (N := N) (σ := σE) (c := c) (s := s)
  have HE := H
  have r1 : (-2147483648 : Int) ≤ u0_0 ∧ u0_0 ≤ 2147483647 := rngE (show (-2147483648 : Int) ≤ F 0 0 ∧ F 0 0 ≤ 2147483647 from H.krg 0 0 (ltn len_V171_oz_E3cls rfl)) (show F 0 0 = u0_0 from (eu0_0))
  have r2 : (-2147483648 : Int) ≤ u0_1 ∧ u0_1 ≤ 2147483647 := rngE (show (-2147483648 : Int) ≤ F 0 1 ∧ F 0 1 ≤ 2147483647 from H.krg 0 1 (ltn len_V171_oz_E3cls rfl)) (show F 0 1 = u0_1 from (eu0_1))
  have r3 : (0 : Int) ≤ n1 ∧ n1 ≤ 1000000 := nleE (H.nle 1 (ltn len_V171_oz_E3cls rfl)) (show (N 1 : Int) = n1 from en1)
  have r4 : (0 : Int) ≤ n2 ∧ n2 ≤ 1000000 := nleE (H.nle 2 (ltn len_V171_oz_E3cls rfl)) (show (N 2 : Int) = n2 from en2)
  have r5 : (0 : Int) ≤ n3 ∧ n3 ≤ 1000000 := nleE (H.nle 3 (ltn len_V171_oz_E3cls rfl)) (show (N 3 : Int) = n3 from en3)
  have r6 : (0 : Int) ≤ n4 ∧ n4 ≤ 1000000 := nleE (H.nle 4 (ltn len_V171_oz_E3cls rfl)) (show (N 4 : Int) = n4 from en4)
  have r7 : (0 : Int) ≤ n5 ∧ n5 ≤ 1000000 := nleE (H.nle 5 (ltn len_V171_oz_E3cls rfl)) (show (N 5 : Int) = n5 from en5)
  have r8 : (0 : Int) ≤ n6 ∧ n6 ≤ 1000000 := nleE (H.nle 6 (ltn len_V171_oz_E3cls rfl)) (show (N 6 : Int) = n6 from en6)
  have r9 : (0 : Int) ≤ n7 ∧ n7 ≤ 1000000 := nleE (H.nle 7 (ltn len_V171_oz_E3cls rfl)) (show (N 7 : Int) = n7 from en7)
  have r10 : (0 : Int) ≤ n8 ∧ n8 ≤ 1000000 := nleE (H.nle 8 (ltn len_V171_oz_E3cls rfl)) (show (N 8 : Int) = n8 from en8)
  refine Ew_of (pcₚ := 1) (fun _ => x_aload_n rfl rfl) ?_
  refine v_g H (o := 0) (v := .ref (D 5)) rfl rfl rfl rfl rfl (vrf (pf5)) ?_
  refine Ew_of (pcₚ := 5) (fun _ => x_iload_n rfl rfl) ?_
  refine v_lI H (o := 5) rfl rfl rfl rfl (n := n5) (en5) (show 0 ≤ a1 ∧ a1 < n5 from q_190 h2 h3) (fun v11 ev11 qv11 => ?_)
  have ev11 : (w5) (a1) = v11 := (congrFun (ew5) (a1)).symm.trans ev11
  have hSL : SL ((w1)) ((u0_1)) ((u0_0)) ((w2)) ((w3)) ((w4)) ((w5)) ((w6)) ((w7)) := h1
  have hq := SL_sym hSL (k := (a1)) (by omega) (by omega)
  rw [ev11] at hq
  exact w_ireturn rfl (k (v11) _ _ _ H O (SF_refl) (SA_refl) (show inr (v11) from qv11) (show (v11) = ((w5)) a1 from q_121 ev11) (show 0 ≤ (v11) ∧ (v11) < ((u0_1)) by omega) (show ((w1)) (v11) ≠ 0 by omega))
abbrev V172 : vV := [(0, 8, [(0, 0), (0, 0), (4, 0), (4, 0), (4, 0), (4, 0), (4, 0), (4, 0), (4, 0), (4, 0), (4, 0), (0, 0), (0, 0)]), (1, 1, []), (1, 1, []), (1, 1, []), (1, 1, []), (1, 1, []), (1, 1, []), (1, 1, []), (1, 1, [])]
theorem len_V172_oz_E3cls : (V172).length = 9 := by decide +kernel

theorem C172 {σE : rS} {D N : Nat → Nat} {F : hF} {A : hA} {d c s : Nat} {Q : wQ} (H : HW V172 σE D N F A) {a1 : Int} (pf1 : F 0 2 = (D 1 : Int)) (pf2 : F 0 3 = (D 2 : Int)) (pf3 : F 0 4 = (D 3 : Int)) (pf4 : F 0 5 = (D 4 : Int)) (pf5 : F 0 7 = (D 5 : Int)) (pf6 : F 0 8 = (D 6 : Int)) (pf7 : F 0 9 = (D 7 : Int)) (pf8 : F 0 6 = (D 8 : Int)) (n1 : Int) (en1 : (N 1 : Int) = n1) (n2 : Int) (en2 : (N 2 : Int) = n2) (n3 : Int) (en3 : (N 3 : Int) = n3) (n4 : Int) (en4 : (N 4 : Int) = n4) (n5 : Int) (en5 : (N 5 : Int) = n5) (n6 : Int) (en6 : (N 6 : Int) = n6) (n7 : Int) (en7 : (N 7 : Int) = n7) (n8 : Int) (en8 : (N 8 : Int) = n8) (u0_0 : Int) (eu0_0 : F 0 0 = u0_0) (u0_1 : Int) (eu0_1 : F 0 1 = u0_1) (w1 : Int → Int) (ew1 : A 1 = w1) (w2 : Int → Int) (ew2 : A 2 = w2) (w3 : Int → Int) (ew3 : A 3 = w3) (w4 : Int → Int) (ew4 : A 4 = w4) (w5 : Int → Int) (ew5 : A 5 = w5) (w6 : Int → Int) (ew6 : A 6 = w6) (w7 : Int → Int) (ew7 : A 7 = w7) (h0 : inr (a1)) (h1 : SL ((w1)) ((u0_1)) ((u0_0)) ((w2)) ((w3)) ((w4)) ((w5)) ((w6)) ((w7))) (h2 : (n1) = (u0_1) ∧ (n2) = (u0_1) ∧ (n3) = (u0_1) ∧ (n4) = (u0_1) ∧ (n8) = (u0_1) ∧ (n6) = (n5) ∧ (n7) = (n5) ∧ p2 ((u0_0)) ≤ (n5)) (h3 : 0 ≤ (a1) ∧ (a1) < p2 ((u0_0))) (k : ∀ (z : Int) (σ : rS) (Fₚ : hF) (Aₚ : hA), HW V172 σ D N Fₚ Aₚ → OUT (V172).length D N σE c s D N σ c s → SF [] F Fₚ → SA [] A Aₚ → (inr (z)) → (BB ((w1)) ((u0_0)) ((w5)) (a1) (z)) → (0 ≤ (z) ∧ (z) ≤ ((u0_0))) → Q (some (I z)) σ c s) : Ew 172 (d + 0) 0 (rargs 0 [.ref (D 0), I a1]) [] σE c s Q := by
  have O := OUT_refl (n := (V172).length) (D := D) (N := N) (σ := σE) (c := c) (s := s)
  have HE := H
  have r1 : (-2147483648 : Int) ≤ u0_0 ∧ u0_0 ≤ 2147483647 := rngE (show (-2147483648 : Int) ≤ F 0 0 ∧ F 0 0 ≤ 2147483647 from H.krg 0 0 (ltn len_V172_oz_E3cls rfl)) (show F 0 0 = u0_0 from (eu0_0))
  have r2 : (-2147483648 : Int) ≤ u0_1 ∧ u0_1 ≤ 2147483647 := rngE (show (-2147483648 : Int) ≤ F 0 1 ∧ F 0 1 ≤ 2147483647 from H.krg 0 1 (ltn len_V172_oz_E3cls rfl)) (show F 0 1 = u0_1 from (eu0_1))
  have r3 : (0 : Int) ≤ n1 ∧ n1 ≤ 1000000 := nleE (H.nle 1 (ltn len_V172_oz_E3cls rfl)) (show (N 1 : Int) = n1 from en1)
  have r4 : (0 : Int) ≤ n2 ∧ n2 ≤ 1000000 := nleE (H.nle 2 (ltn len_V172_oz_E3cls rfl)) (show (N 2 : Int) = n2 from en2)
  have r5 : (0 : Int) ≤ n3 ∧ n3 ≤ 1000000 := nleE (H.nle 3 (ltn len_V172_oz_E3cls rfl)) (show (N 3 : Int) = n3 from en3)
  have r6 : (0 : Int) ≤ n4 ∧ n4 ≤ 1000000 := nleE (H.nle 4 (ltn len_V172_oz_E3cls rfl)) (show (N 4 : Int) = n4 from en4)
  have r7 : (0 : Int) ≤ n5 ∧ n5 ≤ 1000000 := nleE (H.nle 5 (ltn len_V172_oz_E3cls rfl)) (show (N 5 : Int) = n5 from en5)
  have r8 : (0 : Int) ≤ n6 ∧ n6 ≤ 1000000 := nleE (H.nle 6 (ltn len_V172_oz_E3cls rfl)) (show (N 6 : Int) = n6 from en6)
  have r9 : (0 : Int) ≤ n7 ∧ n7 ≤ 1000000 := nleE (H.nle 7 (ltn len_V172_oz_E3cls rfl)) (show (N 7 : Int) = n7 from en7)
  have r10 : (0 : Int) ≤ n8 ∧ n8 ≤ 1000000 := nleE (H.nle 8 (ltn len_V172_oz_E3cls rfl)) (show (N 8 : Int) = n8 from en8)
  have hSL : SL ((w1)) ((u0_1)) ((u0_0)) ((w2)) ((w3)) ((w4)) ((w5)) ((w6)) ((w7)) := h1
  have hq := SL_sym hSL (k := (a1)) (by omega) (by omega)
  have hf := SHD_f hSL.1
  refine Ew_of (pcₚ := 1) (fun _ => x_aload_n rfl rfl) ?_
  refine v_g H (o := 0) (v := .ref (D 3)) rfl rfl rfl rfl rfl (vrf (pf3)) ?_
  refine Ew_of (pcₚ := 5) (fun _ => x_aload_n rfl rfl) ?_
  refine v_g H (o := 0) (v := .ref (D 5)) rfl rfl rfl rfl rfl (vrf (pf5)) ?_
  refine Ew_of (pcₚ := 9) (fun _ => x_iload_n rfl rfl) ?_
  refine v_lI H (o := 5) rfl rfl rfl rfl (n := n5) (en5) (show 0 ≤ a1 ∧ a1 < n5 from q_190 h2 h3) (fun v11 ev11 qv11 => ?_)
  have ev11 : (w5) (a1) = v11 := (congrFun (ew5) (a1)).symm.trans ev11
  have hsy := ev11
  rw [hsy] at hq
  refine v_lI H (o := 3) rfl rfl rfl rfl (n := n3) (en3) (show 0 ≤ v11 ∧ v11 < n3 by omega) (fun v12 ev12 qv12 => ?_)
  have ev12 : (w3) (v11) = v12 := (congrFun (ew3) (v11)).symm.trans ev12
  have hbi := ev12
  refine Ew_of (pcₚ := 12) (fun _ => x_istore_n rfl) ?_
  refine Ew_of (pcₚ := 13) (fun _ => x_aload_n rfl (rk_o (rfl) rfl rfl)) ?_
  refine v_g H (o := 0) (v := .ref (D 6)) rfl rfl rfl rfl rfl (vrf (pf6)) ?_
  refine Ew_of (pcₚ := 17) (fun _ => x_iload_n rfl (rk_o (rfl) rfl rfl)) ?_
  refine v_lI H (o := 6) rfl rfl rfl rfl (n := n6) (en6) (show 0 ≤ a1 ∧ a1 < n6 from q_3502 h2 h3) (fun v13 ev13 qv13 => ?_)
  have ev13 : (w6) (a1) = v13 := (congrFun (ew6) (a1)).symm.trans ev13
  have hnu := ev13
  refine Ew_of (pcₚ := 19) (fun _ => x_aload_n rfl (rk_o (rfl) rfl rfl)) ?_
  refine v_g H (o := 0) (v := I (u0_0)) rfl rfl rfl rfl rfl (congrArg (fun z : Int => I z) ((eu0_0) : F 0 0 = u0_0)) ?_
  refine Ew_of (pcₚ := 23) (fun _ => x_iload_n rfl rk_s) ?_
  refine w_isub rfl ?_
  refine Ew_of (pcₚ := 25) (fun _ => x_iconst rfl) ?_
  refine w_iadd rfl ?_
  refine w_ishrX rfl (show inr (v13) from qv13) (fun z14 gz14 dz14 => ?_)
  have hb0 := hq.2.2.2.2.2.2.2.2.1
  have hbb := BB_of hSL (k := (a1)) (b := (v12)) (z := (z14)) (by omega) (by omega) (by rw [hsy]; omega) (by rw [← hq.2.2.2.1, hnu]; have hb9 := hq.2.2.2.2.2.2.2.2.2 hq.2.2.2.2.1; have hb8 : ((u0_0)) - (v12) < 10 := p2_lt (by omega) (by rw [show p2 10 = 1024 from by decide, ← hbi]; omega); omega)
  refine w_ifle (t := 36) rfl rfl (show inr (z14) by omega) (fun b15 => ?_) (fun b15 => ?_)
  · refine Ew_of (pcₚ := 37) (fun _ => x_iload_n rfl rk_s) ?_
    have hqq : BB ((w1)) ((u0_0)) ((w5)) (a1) ((v12)) := by first | exact hbb.2.2.1 (by omega) | exact hbb.2.2.2 (by omega)
    have hqr := hqq.1
    have hqs := hqq.2.1
    exact w_ireturn rfl (k (v12) _ _ _ H O (SF_refl) (SA_refl) (show inr (v12) from qv12) (hqq) (show 0 ≤ (v12) ∧ (v12) ≤ ((u0_0)) by omega))
  · refine Ew_of (pcₚ := 31) (fun _ => x_iload_n rfl rk_s) ?_
    refine Ew_of (pcₚ := 32) (fun _ => x_iconst rfl) ?_
    refine w_isub rfl ?_
    refine Ew_of (pcₚ := 37) (fun _ => x_goto rfl rfl) ?_
    have hqq : BB ((w1)) ((u0_0)) ((w5)) (a1) (((v12 - 1))) := by first | exact hbb.2.2.1 (by omega) | exact hbb.2.2.2 (by omega)
    have hqr := hqq.1
    have hqs := hqq.2.1
    exact w_ireturn rfl (k ((v12 - 1)) _ _ _ H O (SF_refl) (SA_refl) (show inr ((v12 - 1)) by omega) (hqq) (show 0 ≤ ((v12 - 1)) ∧ ((v12 - 1)) ≤ ((u0_0)) by omega))
abbrev V173 : vV := [(0, 8, [(0, 0), (0, 0), (4, 0), (4, 0), (4, 0), (4, 0), (4, 0), (4, 0), (4, 0), (4, 0), (4, 0), (0, 0), (0, 0)]), (1, 1, []), (1, 1, []), (1, 1, []), (1, 1, []), (1, 1, []), (1, 1, []), (1, 1, []), (1, 1, [])]
theorem len_V173_oz_E3cls : (V173).length = 9 := by decide +kernel
theorem oz_E3cls_7 : vsub V173 V172 [0, 1, 2, 3, 4, 5, 6, 7, 8] = true := by decide +kernel
def oz_E3clsl_2 : List (Nat × Nat) := []
theorem oz_E3cls_8 : (oz_E3clsl_2).all (fun p => !tbz 0 (Nat.add (Nat.mul 32 p.1) p.2)) = true := by decide +kernel
def oz_E3clsl_3 : List Nat := []
theorem oz_E3cls_9 : (oz_E3clsl_3).all (fun p => !tbz 0 p) = true := by decide +kernel
def oz_E3clsl_4 : List Nat := [0, 1, 2, 3, 4, 5, 6, 7, 8]
theorem oz_E3cls_10 : okc oz_E3clsl_4 37843603729803343561216 = true := by decide +kernel

theorem C173 {σE : rS} {D N : Nat → Nat} {F : hF} {A : hA} {d c s : Nat} {Q : wQ} (H : HW V173 σE D N F A) {a1 : Int} (pf1 : F 0 2 = (D 1 : Int)) (pf2 : F 0 3 = (D 2 : Int)) (pf3 : F 0 4 = (D 3 : Int)) (pf4 : F 0 5 = (D 4 : Int)) (pf5 : F 0 7 = (D 5 : Int)) (pf6 : F 0 8 = (D 6 : Int)) (pf7 : F 0 9 = (D 7 : Int)) (pf8 : F 0 6 = (D 8 : Int)) (n1 : Int) (en1 : (N 1 : Int) = n1) (n2 : Int) (en2 : (N 2 : Int) = n2) (n3 : Int) (en3 : (N 3 : Int) = n3) (n4 : Int) (en4 : (N 4 : Int) = n4) (n5 : Int) (en5 : (N 5 : Int) = n5) (n6 : Int) (en6 : (N 6 : Int) = n6) (n7 : Int) (en7 : (N 7 : Int) = n7) (n8 : Int) (en8 : (N 8 : Int) = n8) (u0_0 : Int) (eu0_0 : F 0 0 = u0_0) (u0_1 : Int) (eu0_1 : F 0 1 = u0_1) (w1 : Int → Int) (ew1 : A 1 = w1) (w2 : Int → Int) (ew2 : A 2 = w2) (w3 : Int → Int) (ew3 : A 3 = w3) (w4 : Int → Int) (ew4 : A 4 = w4) (w5 : Int → Int) (ew5 : A 5 = w5) (w6 : Int → Int) (ew6 : A 6 = w6) (w7 : Int → Int) (ew7 : A 7 = w7) (h0 : inr (a1)) (h1 : SL ((w1)) ((u0_1)) ((u0_0)) ((w2)) ((w3)) ((w4)) ((w5)) ((w6)) ((w7))) (h2 : (n1) = (u0_1) ∧ (n2) = (u0_1) ∧ (n3) = (u0_1) ∧ (n4) = (u0_1) ∧ (n8) = (u0_1) ∧ (n6) = (n5) ∧ (n7) = (n5) ∧ p2 ((u0_0)) ≤ (n5)) (h3 : 0 ≤ (a1) ∧ (a1) < p2 ((u0_0))) (k : ∀ (z : Int) (σ : rS) (Fₚ : hF) (Aₚ : hA), HW V173 σ D N Fₚ Aₚ → OUT (V173).length D N σE c s D N σ c s → SF [] F Fₚ → SA [] A Aₚ → (inr (z)) → (BAS ((w1)) ((u0_0)) ((w5)) (a1) (z)) → (0 ≤ (z) ∧ (z) < p2 ((u0_0))) → Q (some (I z)) σ c s) : Ew 173 (d + 1) 0 (rargs 0 [.ref (D 0), I a1]) [] σE c s Q := by
  have O := OUT_refl (n := (V173).length) (D := D) (N := N) (σ := σE) (c := c) (s := s)
  have HE := H
  have r1 : (-2147483648 : Int) ≤ u0_0 ∧ u0_0 ≤ 2147483647 := rngE (show (-2147483648 : Int) ≤ F 0 0 ∧ F 0 0 ≤ 2147483647 from H.krg 0 0 (ltn len_V173_oz_E3cls rfl)) (show F 0 0 = u0_0 from (eu0_0))
  have r2 : (-2147483648 : Int) ≤ u0_1 ∧ u0_1 ≤ 2147483647 := rngE (show (-2147483648 : Int) ≤ F 0 1 ∧ F 0 1 ≤ 2147483647 from H.krg 0 1 (ltn len_V173_oz_E3cls rfl)) (show F 0 1 = u0_1 from (eu0_1))
  have r3 : (0 : Int) ≤ n1 ∧ n1 ≤ 1000000 := nleE (H.nle 1 (ltn len_V173_oz_E3cls rfl)) (show (N 1 : Int) = n1 from en1)
  have r4 : (0 : Int) ≤ n2 ∧ n2 ≤ 1000000 := nleE (H.nle 2 (ltn len_V173_oz_E3cls rfl)) (show (N 2 : Int) = n2 from en2)
  have r5 : (0 : Int) ≤ n3 ∧ n3 ≤ 1000000 := nleE (H.nle 3 (ltn len_V173_oz_E3cls rfl)) (show (N 3 : Int) = n3 from en3)
  have r6 : (0 : Int) ≤ n4 ∧ n4 ≤ 1000000 := nleE (H.nle 4 (ltn len_V173_oz_E3cls rfl)) (show (N 4 : Int) = n4 from en4)
  have r7 : (0 : Int) ≤ n5 ∧ n5 ≤ 1000000 := nleE (H.nle 5 (ltn len_V173_oz_E3cls rfl)) (show (N 5 : Int) = n5 from en5)
  have r8 : (0 : Int) ≤ n6 ∧ n6 ≤ 1000000 := nleE (H.nle 6 (ltn len_V173_oz_E3cls rfl)) (show (N 6 : Int) = n6 from en6)
  have r9 : (0 : Int) ≤ n7 ∧ n7 ≤ 1000000 := nleE (H.nle 7 (ltn len_V173_oz_E3cls rfl)) (show (N 7 : Int) = n7 from en7)
  have r10 : (0 : Int) ≤ n8 ∧ n8 ≤ 1000000 := nleE (H.nle 8 (ltn len_V173_oz_E3cls rfl)) (show (N 8 : Int) = n8 from en8)
  have hSL : SL ((w1)) ((u0_1)) ((u0_0)) ((w2)) ((w3)) ((w4)) ((w5)) ((w6)) ((w7)) := h1
  have hq := SL_sym hSL (k := (a1)) (by omega) (by omega)
  have hf := SHD_f hSL.1
  refine Ew_of (pcₚ := 1) (fun _ => x_aload_n rfl rfl) ?_
  refine v_g H (o := 0) (v := .ref (D 6)) rfl rfl rfl rfl rfl (vrf (pf6)) ?_
  refine Ew_of (pcₚ := 5) (fun _ => x_iload_n rfl rfl) ?_
  refine v_lI H (o := 6) rfl rfl rfl rfl (n := n6) (en6) (show 0 ≤ a1 ∧ a1 < n6 from q_3502 h2 h3) (fun v11 ev11 qv11 => ?_)
  have ev11 : (w6) (a1) = v11 := (congrFun (ew6) (a1)).symm.trans ev11
  have hnu := ev11
  refine Ew_of (pcₚ := 7) (fun _ => x_aload_n rfl rfl) ?_
  refine Ew_of (pcₚ := 8) (fun _ => x_iload_n rfl rfl) ?_
  refine v_inv H (o := 0) rfl rfl rfl rfl rfl rfl (by rfl) (C172 (D := puc 37843603729803343561216 D) (N := puc 37843603729803343561216 N) (HW_subc H oz_E3cls_7 oz_E3cls_10) (pf1) (pf2) (pf3) (pf4) (pf5) (pf6) (pf7) (pf8) (n1) (en1) (n2) (en2) (n3) (en3) (n4) (en4) (n5) (en5) (n6) (en6) (n7) (en7) (n8) (en8) (u0_0) ((eu0_0)) (u0_1) ((eu0_1)) (w1) (ew1) (w2) (ew2) (w3) (ew3) (w4) (ew4) (w5) (ew5) (w6) (ew6) (w7) (ew7) (show inr (a1) from h0) (hSL) (show (n1) = (u0_1) ∧ (n2) = (u0_1) ∧ (n3) = (u0_1) ∧ (n4) = (u0_1) ∧ (n8) = (u0_1) ∧ (n6) = (n5) ∧ (n7) = (n5) ∧ p2 ((u0_0)) ≤ (n5) from h2) (show 0 ≤ (a1) ∧ (a1) < p2 ((u0_0)) from h3) (fun z12 σ12 F12ₚ A12ₚ Hₚ Oₚ hS12 hA12 pz12_0 pz12_1 pz12_2 => ⟨rfl, ?_⟩))
  refine v_backc (c := c) (s := s) H oz_E3cls_7 oz_E3cls_10 Hₚ Oₚ (fun F12 A12 H Oₚ eF12 eA12 => ?_)
  have O := OUT_trans O Oₚ
  -- Share.bitsBehind
  have cF12 : SF oz_E3clsl_2 F F12 := SF_trans (SF_refl) (SF_gluc (ι := oz_E3clsl_4) oz_E3cls_10 hS12 eF12 (by decide +kernel)) (any_sub (lₚ := []) (by decide +kernel))
  have mF12 := SFm_of cF12 oz_E3cls_8
  have cA12 : SA oz_E3clsl_3 A A12 := SA_trans (SA_refl) (SA_gluc (ι := oz_E3clsl_4) oz_E3cls_10 hA12 eA12 (by decide +kernel)) (any_subA (lₚ := []) (by decide +kernel))
  have mA12 := SAm_of cA12 oz_E3cls_9
  have hbb := pz12_1
  have hm := BB_mul (by omega) hbb
  rw [← hq.2.2.2.1, hnu] at hm
  have hpp := p2_pos ((z12))
  refine w_ishlT rfl (show 0 ≤ z12 ∧ z12 ≤ 31 by omega) ?_
  refine Ew_of (pcₚ := 13) (fun _ => x_iconst rfl) ?_
  refine Ew_of (pcₚ := 14) (fun _ => x_aload_n rfl rfl) ?_
  refine v_g H (o := 0) (v := I (u0_0)) rfl rfl rfl rfl rfl (congrArg (fun z : Int => I z) (((mF12 0 0 rfl).trans (eu0_0)) : F12 0 0 = u0_0)) ?_
  refine w_ishl1 rfl (show 0 ≤ u0_0 ∧ u0_0 ≤ 31 by omega) ?_
  refine w_isub rfl ?_
  have hbs : BAS ((w1)) ((u0_0)) ((w5)) (a1) ((((v11 * p2 (z12)) - p2 (u0_0)))) := BAS_of (by omega) hbb (by rw [← hq.2.2.2.1, hnu])
  have hbt := hbs _ hbb
  exact w_ireturn rfl (k (((v11 * p2 (z12)) - p2 (u0_0))) _ _ _ H O (cF12) (cA12) (show inr (((v11 * p2 (z12)) - p2 (u0_0))) by omega) (hbs) (show 0 ≤ (((v11 * p2 (z12)) - p2 (u0_0))) ∧ (((v11 * p2 (z12)) - p2 (u0_0))) < p2 ((u0_0)) by omega))
abbrev V174 : vV := [(0, 8, [(0, 0), (0, 0), (4, 0), (4, 0), (4, 0), (4, 0), (4, 0), (4, 0), (4, 0), (4, 0), (4, 0), (0, 0), (0, 0)]), (1, 1, []), (1, 1, []), (1, 1, []), (1, 1, []), (1, 1, []), (1, 1, []), (1, 1, []), (1, 1, [])]
theorem len_V174_oz_E3cls : (V174).length = 9 := by decide +kernel

theorem C174 {σE : rS} {D N : Nat → Nat} {F : hF} {A : hA} {d c s : Nat} {Q : wQ} (H : HW V174 σE D N F A) {a1 : Int} (pf1 : F 0 2 = (D 1 : Int)) (pf2 : F 0 3 = (D 2 : Int)) (pf3 : F 0 4 = (D 3 : Int)) (pf4 : F 0 5 = (D 4 : Int)) (pf5 : F 0 7 = (D 5 : Int)) (pf6 : F 0 8 = (D 6 : Int)) (pf7 : F 0 9 = (D 7 : Int)) (pf8 : F 0 6 = (D 8 : Int)) (n1 : Int) (en1 : (N 1 : Int) = n1) (n2 : Int) (en2 : (N 2 : Int) = n2) (n3 : Int) (en3 : (N 3 : Int) = n3) (n4 : Int) (en4 : (N 4 : Int) = n4) (n5 : Int) (en5 : (N 5 : Int) = n5) (n6 : Int) (en6 : (N 6 : Int) = n6) (n7 : Int) (en7 : (N 7 : Int) = n7) (n8 : Int) (en8 : (N 8 : Int) = n8) (u0_0 : Int) (eu0_0 : F 0 0 = u0_0) (u0_1 : Int) (eu0_1 : F 0 1 = u0_1) (w1 : Int → Int) (ew1 : A 1 = w1) (w2 : Int → Int) (ew2 : A 2 = w2) (w3 : Int → Int) (ew3 : A 3 = w3) (w4 : Int → Int) (ew4 : A 4 = w4) (w5 : Int → Int) (ew5 : A 5 = w5) (w6 : Int → Int) (ew6 : A 6 = w6) (w7 : Int → Int) (ew7 : A 7 = w7) (h0 : inr (a1)) (h1 : SL ((w1)) ((u0_1)) ((u0_0)) ((w2)) ((w3)) ((w4)) ((w5)) ((w6)) ((w7))) (h2 : (n1) = (u0_1) ∧ (n2) = (u0_1) ∧ (n3) = (u0_1) ∧ (n4) = (u0_1) ∧ (n8) = (u0_1) ∧ (n6) = (n5) ∧ (n7) = (n5) ∧ p2 ((u0_0)) ≤ (n5)) (h3 : 0 ≤ (a1) ∧ (a1) < ((u0_1)) ∧ ((w1)) (a1) ≠ 0) (k : ∀ (z : Int) (σ : rS) (Fₚ : hF) (Aₚ : hA), HW V174 σ D N Fₚ Aₚ → OUT (V174).length D N σE c s D N σ c s → SF [] F Fₚ → SA [] A Aₚ → (inr (z)) → (0 ≤ (z) ∧ (z) < p2 ((u0_0))) → (((w5)) (z) = (a1) ∧ XN ((w1)) ((w5)) (z) = mass (((w1)) (a1))) → Q (some (I z)) σ c s) : Ew 174 (d + 0) 0 (rargs 0 [.ref (D 0), I a1]) [] σE c s Q := by
  have O := OUT_refl (n := (V174).length) (D := D) (N := N) (σ := σE) (c := c) (s := s)
  have HE := H
  have r1 : (-2147483648 : Int) ≤ u0_0 ∧ u0_0 ≤ 2147483647 := rngE (show (-2147483648 : Int) ≤ F 0 0 ∧ F 0 0 ≤ 2147483647 from H.krg 0 0 (ltn len_V174_oz_E3cls rfl)) (show F 0 0 = u0_0 from (eu0_0))
  have r2 : (-2147483648 : Int) ≤ u0_1 ∧ u0_1 ≤ 2147483647 := rngE (show (-2147483648 : Int) ≤ F 0 1 ∧ F 0 1 ≤ 2147483647 from H.krg 0 1 (ltn len_V174_oz_E3cls rfl)) (show F 0 1 = u0_1 from (eu0_1))
  have r3 : (0 : Int) ≤ n1 ∧ n1 ≤ 1000000 := nleE (H.nle 1 (ltn len_V174_oz_E3cls rfl)) (show (N 1 : Int) = n1 from en1)
  have r4 : (0 : Int) ≤ n2 ∧ n2 ≤ 1000000 := nleE (H.nle 2 (ltn len_V174_oz_E3cls rfl)) (show (N 2 : Int) = n2 from en2)
  have r5 : (0 : Int) ≤ n3 ∧ n3 ≤ 1000000 := nleE (H.nle 3 (ltn len_V174_oz_E3cls rfl)) (show (N 3 : Int) = n3 from en3)
  have r6 : (0 : Int) ≤ n4 ∧ n4 ≤ 1000000 := nleE (H.nle 4 (ltn len_V174_oz_E3cls rfl)) (show (N 4 : Int) = n4 from en4)
  have r7 : (0 : Int) ≤ n5 ∧ n5 ≤ 1000000 := nleE (H.nle 5 (ltn len_V174_oz_E3cls rfl)) (show (N 5 : Int) = n5 from en5)
  have r8 : (0 : Int) ≤ n6 ∧ n6 ≤ 1000000 := nleE (H.nle 6 (ltn len_V174_oz_E3cls rfl)) (show (N 6 : Int) = n6 from en6)
  have r9 : (0 : Int) ≤ n7 ∧ n7 ≤ 1000000 := nleE (H.nle 7 (ltn len_V174_oz_E3cls rfl)) (show (N 7 : Int) = n7 from en7)
  have r10 : (0 : Int) ≤ n8 ∧ n8 ≤ 1000000 := nleE (H.nle 8 (ltn len_V174_oz_E3cls rfl)) (show (N 8 : Int) = n8 from en8)
  have hSL : SL ((w1)) ((u0_1)) ((u0_0)) ((w2)) ((w3)) ((w4)) ((w5)) ((w6)) ((w7)) := h1
  have hms := mass_eq (((w1)) (a1))
  have hat := SHD_at hSL.1 (s := (a1)) (by omega) (by omega)
  have hpl := PL_at hSL (s := (a1)) (i := 0) (by omega) (by omega) (by omega) (by omega)
  rw [Int.add_zero, Int.add_zero] at hpl
  refine Ew_of (pcₚ := 1) (fun _ => x_aload_n rfl rfl) ?_
  refine v_g H (o := 0) (v := .ref (D 7)) rfl rfl rfl rfl rfl (vrf (pf7)) ?_
  refine Ew_of (pcₚ := 5) (fun _ => x_aload_n rfl rfl) ?_
  refine v_g H (o := 0) (v := .ref (D 4)) rfl rfl rfl rfl rfl (vrf (pf4)) ?_
  refine Ew_of (pcₚ := 9) (fun _ => x_iload_n rfl rfl) ?_
  refine v_lI H (o := 4) rfl rfl rfl rfl (n := n4) (en4) (show 0 ≤ a1 ∧ a1 < n4 from q_3503 h2 h3) (fun v11 ev11 qv11 => ?_)
  have ev11 : (w4) (a1) = v11 := (congrFun (ew4) (a1)).symm.trans ev11
  have hst := ev11
  rw [hst] at hpl
  refine v_lI H (o := 7) rfl rfl rfl rfl (n := n7) (en7) (show 0 ≤ v11 ∧ v11 < n7 by omega) (fun v12 ev12 qv12 => ?_)
  have ev12 : (w7) (v11) = v12 := (congrFun (ew7) (v11)).symm.trans ev12
  have hpe := ev12
  rw [hpe] at hpl
  exact w_ireturn rfl (k (v12) _ _ _ H O (SF_refl) (SA_refl) (show inr (v12) from qv12) (show 0 ≤ (v12) ∧ (v12) < p2 ((u0_0)) by omega) (show ((w5)) (v12) = a1 ∧ XN ((w1)) ((w5)) (v12) = mass (((w1)) a1) by omega))
abbrev V175 : vV := [(0, 8, [(0, 0), (0, 0), (4, 0), (4, 0), (4, 0), (4, 0), (4, 0), (4, 0), (4, 0), (4, 0), (4, 0), (0, 0), (0, 0)]), (1, 1, []), (1, 1, []), (1, 1, []), (1, 1, []), (1, 1, []), (1, 1, []), (1, 1, []), (1, 1, [])]
theorem len_V175_oz_E3cls : (V175).length = 9 := by decide +kernel

theorem C175 {σE : rS} {D N : Nat → Nat} {F : hF} {A : hA} {d c s : Nat} {Q : wQ} (H : HW V175 σE D N F A) {a1 a2 : Int} (pf1 : F 0 2 = (D 1 : Int)) (pf2 : F 0 3 = (D 2 : Int)) (pf3 : F 0 4 = (D 3 : Int)) (pf4 : F 0 5 = (D 4 : Int)) (pf5 : F 0 7 = (D 5 : Int)) (pf6 : F 0 8 = (D 6 : Int)) (pf7 : F 0 9 = (D 7 : Int)) (pf8 : F 0 6 = (D 8 : Int)) (n1 : Int) (en1 : (N 1 : Int) = n1) (n2 : Int) (en2 : (N 2 : Int) = n2) (n3 : Int) (en3 : (N 3 : Int) = n3) (n4 : Int) (en4 : (N 4 : Int) = n4) (n5 : Int) (en5 : (N 5 : Int) = n5) (n6 : Int) (en6 : (N 6 : Int) = n6) (n7 : Int) (en7 : (N 7 : Int) = n7) (n8 : Int) (en8 : (N 8 : Int) = n8) (u0_0 : Int) (eu0_0 : F 0 0 = u0_0) (u0_1 : Int) (eu0_1 : F 0 1 = u0_1) (w1 : Int → Int) (ew1 : A 1 = w1) (w2 : Int → Int) (ew2 : A 2 = w2) (w3 : Int → Int) (ew3 : A 3 = w3) (w4 : Int → Int) (ew4 : A 4 = w4) (w5 : Int → Int) (ew5 : A 5 = w5) (w6 : Int → Int) (ew6 : A 6 = w6) (w7 : Int → Int) (ew7 : A 7 = w7) (h0 : inr (a1)) (h1 : inr (a2)) (h2 : SL ((w1)) ((u0_1)) ((u0_0)) ((w2)) ((w3)) ((w4)) ((w5)) ((w6)) ((w7))) (h3 : (n1) = (u0_1) ∧ (n2) = (u0_1) ∧ (n3) = (u0_1) ∧ (n4) = (u0_1) ∧ (n8) = (u0_1) ∧ (n6) = (n5) ∧ (n7) = (n5) ∧ p2 ((u0_0)) ≤ (n5)) (h4 : 0 ≤ (a1) ∧ (a1) < p2 ((u0_0))) (h5 : 0 ≤ (a2) ∧ (a2) < ((u0_1)) ∧ ((w1)) (a2) ≠ 0) (k : ∀ (z : Int) (σ : rS) (Fₚ : hF) (Aₚ : hA), HW V175 σ D N Fₚ Aₚ → OUT (V175).length D N σE c s D N σ c s → SF [] F Fₚ → SA [] A Aₚ → (inr (z)) → (BA (mass (((w1)) (a2))) ((u0_0)) (a1) (z)) → (0 ≤ (z) ∧ (z) ≤ ((u0_0))) → Q (some (I z)) σ c s) : Ew 175 (d + 0) 0 (rargs 0 [.ref (D 0), I a1, I a2]) [] σE c s Q := by
  have O := OUT_refl (n := (V175).length) (D := D) (N := N) (σ := σE) (c := c) (s := s)
  have HE := H
  have r1 : (-2147483648 : Int) ≤ u0_0 ∧ u0_0 ≤ 2147483647 := rngE (show (-2147483648 : Int) ≤ F 0 0 ∧ F 0 0 ≤ 2147483647 from H.krg 0 0 (ltn len_V175_oz_E3cls rfl)) (show F 0 0 = u0_0 from (eu0_0))
  have r2 : (-2147483648 : Int) ≤ u0_1 ∧ u0_1 ≤ 2147483647 := rngE (show (-2147483648 : Int) ≤ F 0 1 ∧ F 0 1 ≤ 2147483647 from H.krg 0 1 (ltn len_V175_oz_E3cls rfl)) (show F 0 1 = u0_1 from (eu0_1))
  have r3 : (0 : Int) ≤ n1 ∧ n1 ≤ 1000000 := nleE (H.nle 1 (ltn len_V175_oz_E3cls rfl)) (show (N 1 : Int) = n1 from en1)
  have r4 : (0 : Int) ≤ n2 ∧ n2 ≤ 1000000 := nleE (H.nle 2 (ltn len_V175_oz_E3cls rfl)) (show (N 2 : Int) = n2 from en2)
  have r5 : (0 : Int) ≤ n3 ∧ n3 ≤ 1000000 := nleE (H.nle 3 (ltn len_V175_oz_E3cls rfl)) (show (N 3 : Int) = n3 from en3)
  have r6 : (0 : Int) ≤ n4 ∧ n4 ≤ 1000000 := nleE (H.nle 4 (ltn len_V175_oz_E3cls rfl)) (show (N 4 : Int) = n4 from en4)
  have r7 : (0 : Int) ≤ n5 ∧ n5 ≤ 1000000 := nleE (H.nle 5 (ltn len_V175_oz_E3cls rfl)) (show (N 5 : Int) = n5 from en5)
  have r8 : (0 : Int) ≤ n6 ∧ n6 ≤ 1000000 := nleE (H.nle 6 (ltn len_V175_oz_E3cls rfl)) (show (N 6 : Int) = n6 from en6)
  have r9 : (0 : Int) ≤ n7 ∧ n7 ≤ 1000000 := nleE (H.nle 7 (ltn len_V175_oz_E3cls rfl)) (show (N 7 : Int) = n7 from en7)
  have r10 : (0 : Int) ≤ n8 ∧ n8 ≤ 1000000 := nleE (H.nle 8 (ltn len_V175_oz_E3cls rfl)) (show (N 8 : Int) = n8 from en8)
  have hSL : SL ((w1)) ((u0_1)) ((u0_0)) ((w2)) ((w3)) ((w4)) ((w5)) ((w6)) ((w7)) := h2
  have hms := mass_eq (((w1)) (a2))
  have hat := SHD_at hSL.1 (s := (a2)) (by omega) (by omega)
  have hf := SHD_f hSL.1
  refine Ew_of (pcₚ := 1) (fun _ => x_aload_n rfl rfl) ?_
  refine v_g H (o := 0) (v := .ref (D 3)) rfl rfl rfl rfl rfl (vrf (pf3)) ?_
  refine Ew_of (pcₚ := 5) (fun _ => x_iload_n rfl rfl) ?_
  refine v_lI H (o := 3) rfl rfl rfl rfl (n := n3) (en3) (show 0 ≤ a2 ∧ a2 < n3 from q_3504 h3 h5) (fun v11 ev11 qv11 => ?_)
  have ev11 : (w3) (a2) = v11 := (congrFun (ew3) (a2)).symm.trans ev11
  have hbi := ev11
  have hba := fun z ez => BA_of (m := mass (((w1)) (a2))) (L := ((u0_0))) (y := (a1)) (b := (v11)) (z := z) ⟨by omega, by omega⟩ (by omega) (by omega) (by omega) (by omega) (by rw [← hbi]; exact hSL.2.2.2.2.1 _ (by omega) (by omega)) ez
  have hb1 := hba _ rfl
  refine Ew_of (pcₚ := 7) (fun _ => x_istore_n rfl) ?_
  refine Ew_of (pcₚ := 8) (fun _ => x_iload_n rfl (rk_o (rfl) rfl rfl)) ?_
  refine Ew_of (pcₚ := 9) (fun _ => x_iconst rfl) ?_
  refine Ew_of (pcₚ := 10) (fun _ => x_aload_n rfl (rk_o (rfl) rfl rfl)) ?_
  refine v_g H (o := 0) (v := I (u0_0)) rfl rfl rfl rfl rfl (congrArg (fun z : Int => I z) ((eu0_0) : F 0 0 = u0_0)) ?_
  refine w_ishl1 rfl (show 0 ≤ u0_0 ∧ u0_0 ≤ 31 by omega) ?_
  refine w_iadd rfl ?_
  refine Ew_of (pcₚ := 16) (fun _ => x_iload_n rfl rk_s) ?_
  refine w_ishrX rfl (show inr ((a1 + p2 (u0_0))) from q_3505 h3 h4 r7) (fun z13 gz13 dz13 => ?_)
  have hz : ((z13) : Int) = ((a1) + p2 ((u0_0))) / p2 ((v11)) := by omega
  have hb2 := hba _ hz
  refine Ew_of (pcₚ := 18) (fun _ => x_aload_n rfl (rk_o (rfl) rfl rfl)) ?_
  refine v_g H (o := 0) (v := .ref (D 2)) rfl rfl rfl rfl rfl (vrf (pf2)) ?_
  refine Ew_of (pcₚ := 22) (fun _ => x_iload_n rfl (rk_o (rfl) rfl rfl)) ?_
  refine v_lI H (o := 2) rfl rfl rfl rfl (n := n2) (en2) (show 0 ≤ a2 ∧ a2 < n2 from q_3506 h3 h5) (fun v14 ev14 qv14 => ?_)
  have ev14 : (w2) (a2) = v14 := (congrFun (ew2) (a2)).symm.trans ev14
  have hma := ev14
  rw [hSL.2.2.1 _ (by omega) (by omega)] at hma
  refine w_icmpge (t := 32) rfl rfl (show inr (z13) by omega) (show inr (v14) from qv14) (fun b15 => ?_) (fun b15 => ?_)
  · refine Ew_of (pcₚ := 33) (fun _ => x_iload_n rfl rk_s) ?_
    have hqq : BA (mass (((w1)) (a2))) ((u0_0)) (a1) ((v11)) := by first | exact hb2.2.2.1 (by omega) | exact hb2.2.2.2 (by omega)
    have hqr := hqq.1
    have hqs := hqq.2.1
    exact w_ireturn rfl (k (v11) _ _ _ H O (SF_refl) (SA_refl) (show inr (v11) from qv11) (hqq) (show 0 ≤ (v11) ∧ (v11) ≤ ((u0_0)) by omega))
  · refine Ew_of (pcₚ := 27) (fun _ => x_iload_n rfl rk_s) ?_
    refine Ew_of (pcₚ := 28) (fun _ => x_iconst rfl) ?_
    refine w_isub rfl ?_
    refine Ew_of (pcₚ := 33) (fun _ => x_goto rfl rfl) ?_
    have hqq : BA (mass (((w1)) (a2))) ((u0_0)) (a1) (((v11 - 1))) := by first | exact hb2.2.2.1 (by omega) | exact hb2.2.2.2 (by omega)
    have hqr := hqq.1
    have hqs := hqq.2.1
    exact w_ireturn rfl (k ((v11 - 1)) _ _ _ H O (SF_refl) (SA_refl) (show inr ((v11 - 1)) by omega) (hqq) (show 0 ≤ ((v11 - 1)) ∧ ((v11 - 1)) ≤ ((u0_0)) by omega))
abbrev V176 : vV := [(0, 8, [(0, 0), (0, 0), (4, 0), (4, 0), (4, 0), (4, 0), (4, 0), (4, 0), (4, 0), (4, 0), (4, 0), (0, 0), (0, 0)]), (1, 1, []), (1, 1, []), (1, 1, []), (1, 1, []), (1, 1, []), (1, 1, []), (1, 1, []), (1, 1, [])]
theorem len_V176_oz_E3cls : (V176).length = 9 := by decide +kernel

theorem C176 {σE : rS} {D N : Nat → Nat} {F : hF} {A : hA} {d c s : Nat} {Q : wQ} (H : HW V176 σE D N F A) {a1 a2 a3 : Int} (pf1 : F 0 2 = (D 1 : Int)) (pf2 : F 0 3 = (D 2 : Int)) (pf3 : F 0 4 = (D 3 : Int)) (pf4 : F 0 5 = (D 4 : Int)) (pf5 : F 0 7 = (D 5 : Int)) (pf6 : F 0 8 = (D 6 : Int)) (pf7 : F 0 9 = (D 7 : Int)) (pf8 : F 0 6 = (D 8 : Int)) (n1 : Int) (en1 : (N 1 : Int) = n1) (n2 : Int) (en2 : (N 2 : Int) = n2) (n3 : Int) (en3 : (N 3 : Int) = n3) (n4 : Int) (en4 : (N 4 : Int) = n4) (n5 : Int) (en5 : (N 5 : Int) = n5) (n6 : Int) (en6 : (N 6 : Int) = n6) (n7 : Int) (en7 : (N 7 : Int) = n7) (n8 : Int) (en8 : (N 8 : Int) = n8) (u0_0 : Int) (eu0_0 : F 0 0 = u0_0) (u0_1 : Int) (eu0_1 : F 0 1 = u0_1) (w1 : Int → Int) (ew1 : A 1 = w1) (w2 : Int → Int) (ew2 : A 2 = w2) (w3 : Int → Int) (ew3 : A 3 = w3) (w4 : Int → Int) (ew4 : A 4 = w4) (w5 : Int → Int) (ew5 : A 5 = w5) (w6 : Int → Int) (ew6 : A 6 = w6) (w7 : Int → Int) (ew7 : A 7 = w7) (h0 : inr (a1)) (h1 : inr (a2)) (h2 : inr (a3)) (h3 : SL ((w1)) ((u0_1)) ((u0_0)) ((w2)) ((w3)) ((w4)) ((w5)) ((w6)) ((w7))) (h4 : (n1) = (u0_1) ∧ (n2) = (u0_1) ∧ (n3) = (u0_1) ∧ (n4) = (u0_1) ∧ (n8) = (u0_1) ∧ (n6) = (n5) ∧ (n7) = (n5) ∧ p2 ((u0_0)) ≤ (n5)) (h5 : 0 ≤ (a1) ∧ (a1) < p2 ((u0_0))) (h6 : 0 ≤ (a2) ∧ (a2) < ((u0_1)) ∧ ((w1)) (a2) ≠ 0) (h7 : BA (mass (((w1)) (a2))) ((u0_0)) (a1) (a3)) (k : ∀ (z : Int) (σ : rS) (Fₚ : hF) (Aₚ : hA), HW V176 σ D N Fₚ Aₚ → OUT (V176).length D N σE c s D N σ c s → SF [] F Fₚ → SA [] A Aₚ → (inr (z)) → (0 ≤ (z) ∧ (z) < p2 ((u0_0))) → (((w5)) (z) = (a2) ∧ XN ((w1)) ((w5)) (z) = ((a1) + p2 ((u0_0))) / p2 (a3)) → Q (some (I z)) σ c s) : Ew 176 (d + 0) 0 (rargs 0 [.ref (D 0), I a1, I a2, I a3]) [] σE c s Q := by
  have O := OUT_refl (n := (V176).length) (D := D) (N := N) (σ := σE) (c := c) (s := s)
  have HE := H
  have r1 : (-2147483648 : Int) ≤ u0_0 ∧ u0_0 ≤ 2147483647 := rngE (show (-2147483648 : Int) ≤ F 0 0 ∧ F 0 0 ≤ 2147483647 from H.krg 0 0 (ltn len_V176_oz_E3cls rfl)) (show F 0 0 = u0_0 from (eu0_0))
  have r2 : (-2147483648 : Int) ≤ u0_1 ∧ u0_1 ≤ 2147483647 := rngE (show (-2147483648 : Int) ≤ F 0 1 ∧ F 0 1 ≤ 2147483647 from H.krg 0 1 (ltn len_V176_oz_E3cls rfl)) (show F 0 1 = u0_1 from (eu0_1))
  have r3 : (0 : Int) ≤ n1 ∧ n1 ≤ 1000000 := nleE (H.nle 1 (ltn len_V176_oz_E3cls rfl)) (show (N 1 : Int) = n1 from en1)
  have r4 : (0 : Int) ≤ n2 ∧ n2 ≤ 1000000 := nleE (H.nle 2 (ltn len_V176_oz_E3cls rfl)) (show (N 2 : Int) = n2 from en2)
  have r5 : (0 : Int) ≤ n3 ∧ n3 ≤ 1000000 := nleE (H.nle 3 (ltn len_V176_oz_E3cls rfl)) (show (N 3 : Int) = n3 from en3)
  have r6 : (0 : Int) ≤ n4 ∧ n4 ≤ 1000000 := nleE (H.nle 4 (ltn len_V176_oz_E3cls rfl)) (show (N 4 : Int) = n4 from en4)
  have r7 : (0 : Int) ≤ n5 ∧ n5 ≤ 1000000 := nleE (H.nle 5 (ltn len_V176_oz_E3cls rfl)) (show (N 5 : Int) = n5 from en5)
  have r8 : (0 : Int) ≤ n6 ∧ n6 ≤ 1000000 := nleE (H.nle 6 (ltn len_V176_oz_E3cls rfl)) (show (N 6 : Int) = n6 from en6)
  have r9 : (0 : Int) ≤ n7 ∧ n7 ≤ 1000000 := nleE (H.nle 7 (ltn len_V176_oz_E3cls rfl)) (show (N 7 : Int) = n7 from en7)
  have r10 : (0 : Int) ≤ n8 ∧ n8 ≤ 1000000 := nleE (H.nle 8 (ltn len_V176_oz_E3cls rfl)) (show (N 8 : Int) = n8 from en8)
  have hSL : SL ((w1)) ((u0_1)) ((u0_0)) ((w2)) ((w3)) ((w4)) ((w5)) ((w6)) ((w7)) := h3
  have hba : BA (mass (((w1)) (a2))) ((u0_0)) (a1) (a3) := h7
  have hbr := hba.1
  have hbs := hba.2.1
  have hbt := hba.2.2.1
  have hbu := hba.2.2.2
  have hf := SHD_f hSL.1
  have hat := SHD_at hSL.1 (s := (a2)) (by omega) (by omega)
  have hpl := PL_at hSL (s := (a2)) (i := ((a1) + p2 ((u0_0))) / p2 (a3) - mass (((w1)) (a2))) (by omega) (by omega) (by omega) (by omega)
  refine Ew_of (pcₚ := 1) (fun _ => x_aload_n rfl rfl) ?_
  refine v_g H (o := 0) (v := .ref (D 7)) rfl rfl rfl rfl rfl (vrf (pf7)) ?_
  refine Ew_of (pcₚ := 5) (fun _ => x_aload_n rfl rfl) ?_
  refine v_g H (o := 0) (v := .ref (D 4)) rfl rfl rfl rfl rfl (vrf (pf4)) ?_
  refine Ew_of (pcₚ := 9) (fun _ => x_iload_n rfl rfl) ?_
  refine v_lI H (o := 4) rfl rfl rfl rfl (n := n4) (en4) (show 0 ≤ a2 ∧ a2 < n4 from q_3503 h4 h6) (fun v11 ev11 qv11 => ?_)
  have ev11 : (w4) (a2) = v11 := (congrFun (ew4) (a2)).symm.trans ev11
  have hst := ev11
  rw [hst] at hpl
  obtain ⟨ix, hix⟩ : ∃ ix, ix = (v11) + (((a1) + p2 ((u0_0))) / p2 (a3) - mass (((w1)) (a2))) := ⟨_, rfl⟩
  rw [← hix] at hpl
  refine Ew_of (pcₚ := 11) (fun _ => x_iload_n rfl rfl) ?_
  refine Ew_of (pcₚ := 12) (fun _ => x_iconst rfl) ?_
  refine Ew_of (pcₚ := 13) (fun _ => x_aload_n rfl rfl) ?_
  refine v_g H (o := 0) (v := I (u0_0)) rfl rfl rfl rfl rfl (congrArg (fun z : Int => I z) ((eu0_0) : F 0 0 = u0_0)) ?_
  refine w_ishl1 rfl (show 0 ≤ u0_0 ∧ u0_0 ≤ 31 by omega) ?_
  refine w_iadd rfl ?_
  refine Ew_of (pcₚ := 19) (fun _ => x_iload_n rfl rfl) ?_
  refine w_ishrX rfl (show inr ((a1 + p2 (u0_0))) from q_3505 h4 h5 r7) (fun z13 gz13 dz13 => ?_)
  have hz : ((z13) : Int) = ((a1) + p2 ((u0_0))) / p2 (a3) := by omega
  refine w_iadd rfl ?_
  refine Ew_of (pcₚ := 22) (fun _ => x_aload_n rfl rfl) ?_
  refine v_g H (o := 0) (v := .ref (D 2)) rfl rfl rfl rfl rfl (vrf (pf2)) ?_
  refine Ew_of (pcₚ := 26) (fun _ => x_iload_n rfl rfl) ?_
  refine v_lI H (o := 2) rfl rfl rfl rfl (n := n2) (en2) (show 0 ≤ a2 ∧ a2 < n2 from q_3506 h4 h6) (fun v14 ev14 qv14 => ?_)
  have ev14 : (w2) (a2) = v14 := (congrFun (ew2) (a2)).symm.trans ev14
  have hma := ev14
  rw [hSL.2.2.1 _ (by omega) (by omega)] at hma
  refine w_isub rfl ?_
  have hie : ix = (((v11 + z13) - v14)) := by omega
  rw [hie] at hpl
  refine v_lI H (o := 7) rfl rfl rfl rfl (n := n7) (en7) (show 0 ≤ ((v11 + z13) - v14) ∧ ((v11 + z13) - v14) < n7 by omega) (fun v15 ev15 qv15 => ?_)
  have ev15 : (w7) (((v11 + z13) - v14)) = v15 := (congrFun (ew7) (((v11 + z13) - v14))).symm.trans ev15
  rw [ev15] at hpl
  exact w_ireturn rfl (k (v15) _ _ _ H O (SF_refl) (SA_refl) (show inr (v15) from qv15) (show 0 ≤ (v15) ∧ (v15) < p2 ((u0_0)) by omega) (show ((w5)) (v15) = a2 ∧ XN ((w1)) ((w5)) (v15) = (a1 + p2 ((u0_0))) / p2 a3 by omega))
abbrev V177_Ir : vV := [(0, 8, [(0, 0), (0, 0), (4, 0), (4, 0), (4, 0), (4, 0), (4, 0), (4, 0), (4, 0), (4, 0), (4, 0), (0, 0), (0, 0)]), (1, 1, []), (1, 1, []), (1, 1, []), (1, 1, []), (1, 1, []), (1, 1, []), (1, 1, []), (1, 1, []), (1, 1, [])]
abbrev V170_Ir : vV := [(0, 8, [(0, 0), (0, 0), (4, 0), (4, 0), (4, 0), (4, 0), (4, 0), (4, 0), (4, 0), (4, 0), (4, 0), (0, 0), (0, 0)]), (1, 1, []), (1, 1, [])]
theorem len_V170_Ir_oz_E3cls : (V170_Ir).length = 3 := by decide +kernel

theorem C170_Ir {σE : rS} {D N : Nat → Nat} {F : hF} {A : hA} {d c s : Nat} {Q : wQ} (H : HW V170_Ir σE D N F A)  (pf2 : F 0 2 = (D 2 : Int)) (n1 : Int) (en1 : (N 1 : Int) = n1) (n2 : Int) (en2 : (N 2 : Int) = n2) (u0_1 : Int) (eu0_1 : F 0 1 = u0_1) (w1 : Int → Int) (ew1 : A 1 = w1) (w2 : Int → Int) (ew2 : A 2 = w2) (h0 : (n2) = ((u0_1))) (k : ∀ (z : Int) (σ : rS) (Fₚ : hF) (Aₚ : hA), HW V170_Ir σ D N Fₚ Aₚ → OUT (V170_Ir).length D N σE c s D N σ c s → SF [] F Fₚ → SA [] A Aₚ → ((z) = 0 ∨ (z) = 1) → (HLD ((w1)) ((w2)) ((u0_1)) ((n1)) (z)) → ((z) = 1 ∨ NHL ((w1)) ((w2)) ((u0_1)) ((n1))) → Q (some (I z)) σ c s) : Ew 170 (d + 0) 0 (rargs 0 [.ref (D 0), .ref (D 1)]) [] σE c s Q := by
  have O := OUT_refl (n := (V170_Ir).length) (D := D) (N := N) (σ := σE) (c := c) (s := s)
  have HE := H
  have r1 : (-2147483648 : Int) ≤ u0_1 ∧ u0_1 ≤ 2147483647 := rngE (show (-2147483648 : Int) ≤ F 0 1 ∧ F 0 1 ≤ 2147483647 from H.krg 0 1 (ltn len_V170_Ir_oz_E3cls rfl)) (show F 0 1 = u0_1 from (eu0_1))
  have r2 : (0 : Int) ≤ n1 ∧ n1 ≤ 1000000 := nleE (H.nle 1 (ltn len_V170_Ir_oz_E3cls rfl)) (show (N 1 : Int) = n1 from en1)
  have r3 : (0 : Int) ≤ n2 ∧ n2 ≤ 1000000 := nleE (H.nle 2 (ltn len_V170_Ir_oz_E3cls rfl)) (show (N 2 : Int) = n2 from en2)
  refine Ew_of (pcₚ := 1) (fun _ => x_iconst rfl) ?_
  refine Ew_of (pcₚ := 2) (fun _ => x_istore_n rfl) ?_
  have h0 : HLP ((w1)) ((w2)) ((u0_1)) 0 := fun s a b => by omega
  suffices hl2 : ∀ (m : Nat), ∀ (ls : rO) (σ : rS) (F_2 : hF) (A_2 : hA) (x2_2 : Int), rlook ls 0 = some (.ref (D 0)) → rlook ls 1 = some (.ref (D 1)) → rlook ls 2 = some (I (x2_2)) → HW V170_Ir σ D N F_2 A_2 → OUT (V170_Ir).length D N σE c s D N σ c s → SF [] F F_2 → SA [] A A_2 → (inr (x2_2)) → ((0) ≤ (x2_2)) → ((x2_2) ≤ (0) ∨ (x2_2) ≤ ((n1))) → (HLP ((w1)) ((w2)) ((u0_1)) (x2_2)) → (((n1)) - (x2_2)).toNat = m → Ew 170 (d + 0) 2 ls [] σ c s Q from
    hl2 _ _ _ _ _ (0) (rk_o (rfl) rfl rfl) (rk_o (rfl) rfl rfl) (rk_s) H O (SF_refl) (SA_refl)     (show inr (0) from q_2) (show (0) ≤ (0) from q_1) (show (0) ≤ (0) ∨ (0) ≤ ((n1)) from q_5) (h0) rfl
  as_aux_lemma =>
  intro m
  induction m using Nat.strongRecOn with
  | _ m ih2 =>
    intro ls σ F_2 A_2 x2_2 l2_0 l2_1 l2_2 H O hS_2 hA_2     j2_0 j2_1 j2_2 j2_3 hm2
    have cF_2 : SF oz_E3clsl_2 F F_2 := SF_trans (SF_refl) hS_2 (any_sub (by decide +kernel))
    have mF_2 := SFm_of cF_2 oz_E3cls_8
    have cA_2 : SA oz_E3clsl_3 A A_2 := SA_trans (SA_refl) hA_2 (any_subA (by decide +kernel))
    have mA_2 := SAm_of cA_2 oz_E3cls_9
    refine Ew_of (pcₚ := 3) (fun _ => x_iload_n rfl l2_2) ?_
    refine Ew_of (pcₚ := 4) (fun _ => x_aload_n rfl l2_1) ?_
    refine v_len H (o := 1) rfl rfl rfl rfl (n := n1) (en1) ?_
    refine w_icmpge (t := 39) rfl rfl (show inr (x2_2) from j2_0) (show inr (n1) from q_37 r2) (fun b4 => ?_) (fun b4 => ?_)
    · have : (1 : Int) = 1 ∨ NHL ((w1)) ((w2)) ((u0_1)) ((n1)) := .inl rfl
      have hle : (x2_2) = (n1) := q_3517 b4 j2_2 r2
      have hye : HLD ((w1)) ((w2)) ((u0_1)) ((n1)) 1 := fun _ => by rw [← hle]; assumption
      refine Ew_of (pcₚ := 40) (fun _ => x_iconst rfl) ?_
      exact w_ireturn rfl (k (1) _ _ _ H O (cF_2) (cA_2) (show (1) = 0 ∨ (1) = 1 by first | exact q_49 | omega) (hye) (show (1) = 1 ∨ NHL ((w1)) ((w2)) ((u0_1)) ((n1)) by assumption))
    · refine Ew_of (pcₚ := 9) (fun _ => x_aload_n rfl l2_1) ?_
      refine Ew_of (pcₚ := 10) (fun _ => x_iload_n rfl l2_2) ?_
      refine v_lI H (o := 1) rfl rfl rfl rfl (n := n1) (en1) (show 0 ≤ x2_2 ∧ x2_2 < n1 from q_3518 b4 j2_1) (fun v5 ev5 qv5 => ?_)
      have ev5 : (w1) (x2_2) = v5 := (congrFun ((funext (mA_2 1 rfl)).trans (ew1)) (x2_2)).symm.trans ev5
      refine w_ifle (t := 33) rfl rfl (show inr (v5) from qv5) (fun b6 => ?_) (fun b6 => ?_)
      · refine Ew_of (pcₚ := 36) (fun _ => x_iinc (len := 3) rfl (l2_2)) ?_
        refine Ew_of (pcₚ := 2) (fun _ => x_goto rfl rfl) ?_
        have h1 : HLP ((w1)) ((w2)) ((u0_1)) ((x2_2 + 1)) := HLP_s (by assumption) rfl (fun q => by omega)
        exact ih2 _ (msE hm2 q_16 (q_17 b4)) _ _ _ _ ((x2_2 + 1)) (rk_o (l2_0) rfl rfl) (rk_o (l2_1) rfl rfl) (rk_s) H O (hS_2) (hA_2)     (show inr ((x2_2 + 1)) from q_3519 b4 j2_1 r2) (show (0) ≤ ((x2_2 + 1)) from q_14 j2_1) (show ((x2_2 + 1)) ≤ (0) ∨ ((x2_2 + 1)) ≤ ((n1)) from q_13 b4) (h1) rfl
      · refine Ew_of (pcₚ := 15) (fun _ => x_iload_n rfl l2_2) ?_
        refine Ew_of (pcₚ := 16) (fun _ => x_aload_n rfl l2_0) ?_
        refine v_g H (o := 0) (v := I (u0_1)) rfl rfl rfl rfl rfl (congrArg (fun z : Int => I z) (((mF_2 0 1 rfl).trans (eu0_1)) : F_2 0 1 = u0_1)) ?_
        refine w_icmpge (t := 31) rfl rfl (show inr (x2_2) from j2_0) (show inr (u0_1) from q_18 r1) (fun b7 => ?_) (fun b7 => ?_)
        · have hno : HLD ((w1)) ((w2)) ((u0_1)) ((n1)) 0 := fun q => by omega
          have : (0 : Int) = 1 ∨ NHL ((w1)) ((w2)) ((u0_1)) ((n1)) := .inr ⟨(x2_2), by omega, by omega, by omega, by omega⟩
          refine Ew_of (pcₚ := 32) (fun _ => x_iconst rfl) ?_
          exact w_ireturn rfl (k (0) _ _ _ H O (cF_2) (cA_2) (show (0) = 0 ∨ (0) = 1 by first | exact q_45 | omega) (hno) (show (0) = 1 ∨ NHL ((w1)) ((w2)) ((u0_1)) ((n1)) by assumption))
        · refine Ew_of (pcₚ := 23) (fun _ => x_aload_n rfl l2_0) ?_
          refine v_g H (o := 0) (v := .ref (D 2)) rfl rfl rfl rfl rfl (vrf ((mF_2 0 2 rfl).trans (pf2))) ?_
          refine Ew_of (pcₚ := 27) (fun _ => x_iload_n rfl l2_2) ?_
          refine v_lI H (o := 2) rfl rfl rfl rfl (n := n2) (en2) (show 0 ≤ x2_2 ∧ x2_2 < n2 by omega) (fun v8 ev8 qv8 => ?_)
          have ev8 : (w2) (x2_2) = v8 := (congrFun ((funext (mA_2 2 rfl)).trans (ew2)) (x2_2)).symm.trans ev8
          refine w_ifne (t := 33) rfl rfl (show inr (v8) from qv8) (fun b9 => ?_) (fun b9 => ?_)
          · refine Ew_of (pcₚ := 36) (fun _ => x_iinc (len := 3) rfl (l2_2)) ?_
            refine Ew_of (pcₚ := 2) (fun _ => x_goto rfl rfl) ?_
            have h1 : HLP ((w1)) ((w2)) ((u0_1)) ((x2_2 + 1)) := HLP_s (by assumption) rfl (fun q => by omega)
            exact ih2 _ (msE hm2 q_16 (q_17 b4)) _ _ _ _ ((x2_2 + 1)) (rk_o (l2_0) rfl rfl) (rk_o (l2_1) rfl rfl) (rk_s) H O (hS_2) (hA_2)     (show inr ((x2_2 + 1)) from q_3519 b4 j2_1 r2) (show (0) ≤ ((x2_2 + 1)) from q_14 j2_1) (show ((x2_2 + 1)) ≤ (0) ∨ ((x2_2 + 1)) ≤ ((n1)) from q_13 b4) (h1) rfl
          · have hno : HLD ((w1)) ((w2)) ((u0_1)) ((n1)) 0 := fun q => by omega
            have : (0 : Int) = 1 ∨ NHL ((w1)) ((w2)) ((u0_1)) ((n1)) := .inr ⟨(x2_2), by omega, by omega, by omega, by omega⟩
            refine Ew_of (pcₚ := 32) (fun _ => x_iconst rfl) ?_
            exact w_ireturn rfl (k (0) _ _ _ H O (cF_2) (cA_2) (show (0) = 0 ∨ (0) = 1 by first | exact q_45 | omega) (hno) (show (0) = 1 ∨ NHL ((w1)) ((w2)) ((u0_1)) ((n1)) by assumption))
abbrev V182 : vV := [(0, 8, [(0, 0), (0, 0), (4, 0), (4, 0), (4, 0), (4, 0), (4, 0), (4, 0), (4, 0), (4, 0), (4, 0), (0, 0), (0, 0)]), (1, 1, [])]
theorem len_V182_oz_E3cls : (V182).length = 2 := by decide +kernel

theorem C182 {σE : rS} {D N : Nat → Nat} {F : hF} {A : hA} {d c s : Nat} {Q : wQ} (H : HW V182 σE D N F A) {a1 : Int} (pf1 : F 0 2 = (D 1 : Int)) (n1 : Int) (en1 : (N 1 : Int) = n1) (u0_1 : Int) (eu0_1 : F 0 1 = u0_1) (w1 : Int → Int) (ew1 : A 1 = w1) (h0 : inr (a1)) (h1 : (n1) = ((u0_1))) (h2 : 0 ≤ (a1) ∧ (a1) < ((u0_1))) (h3 : 1 ≤ ((u0_1)) ∧ ((u0_1)) ≤ 64) (k : ∀ (z : Int) (σ : rS) (Fₚ : hF) (Aₚ : hA), HW V182 σ D N Fₚ Aₚ → OUT (V182).length D N σE c s D N σ c s → SF [] F Fₚ → SA [] A Aₚ → (inr (z)) → (0 ≤ (z) ∧ (a1) + (z) < ((u0_1))) → (ZRS ((w1)) ((a1) + 1) ((a1) + (z) + 1)) → (IMP ((a1) + (z) + 1 < ((u0_1))) (((w1)) ((a1) + (z) + 1) ≠ 0)) → Q (some (I z)) σ c s) : Ew 182 (d + 0) 0 (rargs 0 [.ref (D 0), I a1]) [] σE c s Q := by
  have O := OUT_refl (n := (V182).length) (D := D) (N := N) (σ := σE) (c := c) (s := s)
  have HE := H
  have r1 : (-2147483648 : Int) ≤ u0_1 ∧ u0_1 ≤ 2147483647 := rngE (show (-2147483648 : Int) ≤ F 0 1 ∧ F 0 1 ≤ 2147483647 from H.krg 0 1 (ltn len_V182_oz_E3cls rfl)) (show F 0 1 = u0_1 from (eu0_1))
  have r2 : (0 : Int) ≤ n1 ∧ n1 ≤ 1000000 := nleE (H.nle 1 (ltn len_V182_oz_E3cls rfl)) (show (N 1 : Int) = n1 from en1)
  refine Ew_of (pcₚ := 1) (fun _ => x_iconst rfl) ?_
  refine Ew_of (pcₚ := 2) (fun _ => x_istore_n rfl) ?_
  refine Ew_of (pcₚ := 3) (fun _ => x_iload_n rfl (rk_o (rfl) rfl rfl)) ?_
  refine Ew_of (pcₚ := 4) (fun _ => x_iconst rfl) ?_
  refine w_iadd rfl ?_
  refine Ew_of (pcₚ := 6) (fun _ => x_istore_n rfl) ?_
  have h0 : ZRS ((w1)) ((a1) + 1) ((a1) + 1) := fun j a b => by omega
  suffices hl6 : ∀ (m : Nat), ∀ (ls : rO) (σ : rS) (F_6 : hF) (A_6 : hA) (x6_2 : Int) (x6_3 : Int), rlook ls 0 = some (.ref (D 0)) → rlook ls 2 = some (I (x6_2)) → rlook ls 3 = some (I (x6_3)) → HW V182 σ D N F_6 A_6 → OUT (V182).length D N σE c s D N σ c s → SF [] F F_6 → SA [] A A_6 → (inr (x6_2)) → (inr (x6_3)) → ((x6_2) = (x6_3) - ((a1) + 1)) → ((a1) + 1 ≤ (x6_3) ∧ (x6_3) ≤ ((u0_1))) → (ZRS ((w1)) ((a1) + 1) (x6_3)) → (((u0_1)) - (x6_3)).toNat = m → Ew 182 (d + 0) 6 ls [] σ c s Q from
    hl6 _ _ _ _ _ (0) ((a1 + 1)) (rk_o (rk_o (rfl) rfl rfl) rfl rfl) (rk_o (rk_s) rfl rfl) (rk_s) H O (SF_refl) (SA_refl)     (show inr (0) from q_2) (show inr ((a1 + 1)) from q_3522 h2 h3) (show (0) = ((a1 + 1)) - ((a1) + 1) from q_3521) (show (a1) + 1 ≤ ((a1 + 1)) ∧ ((a1 + 1)) ≤ ((u0_1)) from q_3520 h2) (h0) rfl
  as_aux_lemma =>
  intro m
  induction m using Nat.strongRecOn with
  | _ m ih6 =>
    intro ls σ F_6 A_6 x6_2 x6_3 l6_0 l6_2 l6_3 H O hS_6 hA_6     j6_0 j6_1 j6_2 j6_3 j6_4 hm6
    have cF_6 : SF oz_E3clsl_2 F F_6 := SF_trans (SF_refl) hS_6 (any_sub (by decide +kernel))
    have mF_6 := SFm_of cF_6 oz_E3cls_8
    have cA_6 : SA oz_E3clsl_3 A A_6 := SA_trans (SA_refl) hA_6 (any_subA (by decide +kernel))
    have mA_6 := SAm_of cA_6 oz_E3cls_9
    refine Ew_of (pcₚ := 7) (fun _ => x_iload_n rfl l6_3) ?_
    refine Ew_of (pcₚ := 8) (fun _ => x_aload_n rfl l6_0) ?_
    refine v_g H (o := 0) (v := I (u0_1)) rfl rfl rfl rfl rfl (congrArg (fun z : Int => I z) (((mF_6 0 1 rfl).trans (eu0_1)) : F_6 0 1 = u0_1)) ?_
    refine w_icmpge (t := 32) rfl rfl (show inr (x6_3) from j6_1) (show inr (u0_1) from q_3523 h3) (fun b3 => ?_) (fun b3 => ?_)
    · have h3 : IMP ((a1) + (x6_2) + 1 < ((u0_1))) (((w1)) ((a1) + (x6_2) + 1) ≠ 0) := fun q => by rw [show (a1) + (x6_2) + 1 = (x6_3) by omega]; omega
      have h2 : ZRS ((w1)) ((a1) + 1) ((a1) + (x6_2) + 1) := by rw [show (a1) + (x6_2) + 1 = (x6_3) by omega]; assumption
      refine Ew_of (pcₚ := 33) (fun _ => x_iload_n rfl l6_2) ?_
      exact w_ireturn rfl (k (x6_2) _ _ _ H O (cF_6) (cA_6) (show inr (x6_2) from j6_0) (show 0 ≤ (x6_2) ∧ a1 + (x6_2) < ((u0_1)) from q_3524 j6_2 j6_3) (h2) (show IMP (a1 + (x6_2) + 1 < ((u0_1))) (((w1)) (a1 + (x6_2) + 1) ≠ 0) by assumption))
    · refine Ew_of (pcₚ := 15) (fun _ => x_aload_n rfl l6_0) ?_
      refine v_g H (o := 0) (v := .ref (D 1)) rfl rfl rfl rfl rfl (vrf ((mF_6 0 2 rfl).trans (pf1))) ?_
      refine Ew_of (pcₚ := 19) (fun _ => x_iload_n rfl l6_3) ?_
      refine v_lI H (o := 1) rfl rfl rfl rfl (n := n1) (en1) (show 0 ≤ x6_3 ∧ x6_3 < n1 from q_3525 b3 h1 h2 j6_3) (fun v4 ev4 qv4 => ?_)
      have ev4 : (w1) (x6_3) = v4 := (congrFun ((funext (mA_6 1 rfl)).trans (ew1)) (x6_3)).symm.trans ev4
      refine w_ifne (t := 32) rfl rfl (show inr (v4) from qv4) (fun b5 => ?_) (fun b5 => ?_)
      · have h3 : IMP ((a1) + (x6_2) + 1 < ((u0_1))) (((w1)) ((a1) + (x6_2) + 1) ≠ 0) := fun q => by rw [show (a1) + (x6_2) + 1 = (x6_3) by omega]; omega
        have h2 : ZRS ((w1)) ((a1) + 1) ((a1) + (x6_2) + 1) := by rw [show (a1) + (x6_2) + 1 = (x6_3) by omega]; assumption
        refine Ew_of (pcₚ := 33) (fun _ => x_iload_n rfl l6_2) ?_
        exact w_ireturn rfl (k (x6_2) _ _ _ H O (cF_6) (cA_6) (show inr (x6_2) from j6_0) (show 0 ≤ (x6_2) ∧ a1 + (x6_2) < ((u0_1)) from q_3526 b3 j6_2 j6_3) (h2) (show IMP (a1 + (x6_2) + 1 < ((u0_1))) (((w1)) (a1 + (x6_2) + 1) ≠ 0) by assumption))
      · refine Ew_of (pcₚ := 26) (fun _ => x_iinc (len := 3) rfl (l6_2)) ?_
        refine Ew_of (pcₚ := 29) (fun _ => x_iinc (len := 3) rfl (rk_o (l6_3) rfl rfl)) ?_
        refine Ew_of (pcₚ := 6) (fun _ => x_goto rfl rfl) ?_
        have h1 : ZRS ((w1)) ((a1) + 1) ((x6_3 + 1)) := ZRS_s (by assumption) rfl (by omega)
        exact ih6 _ (msE hm6 q_16 (q_17 b3)) _ _ _ _ ((x6_2 + 1)) ((x6_3 + 1)) (rk_o (rk_o (l6_0) rfl rfl) rfl rfl) (rk_o (rk_s) rfl rfl) (rk_s) H O (hS_6) (hA_6)     (show inr ((x6_2 + 1)) from q_3530 b3 h2 h3 j6_0 j6_2) (show inr ((x6_3 + 1)) from q_3529 b3 h3 j6_1) (show ((x6_2 + 1)) = ((x6_3 + 1)) - ((a1) + 1) from q_3528 j6_2) (show (a1) + 1 ≤ ((x6_3 + 1)) ∧ ((x6_3 + 1)) ≤ ((u0_1)) from q_3527 b3 j6_3) (h1) rfl

