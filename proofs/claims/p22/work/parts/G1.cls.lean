abbrev V186 : vV := [(0, 9, [(4, 0), (4, 0), (4, 0)]), (1, 5, []), (1, 2, [])]
theorem len_V186_oz_G1cls : (V186).length = 3 := by decide +kernel
def oz_G1clsl_0 : List (Nat × Nat) := [(0, 0)]
theorem oz_G1cls_1 : (oz_G1clsl_0).all (fun p => !tbz 1 (Nat.add (Nat.mul 32 p.1) p.2)) = true := by decide +kernel
def oz_G1clsl_1 : List Nat := [1, 2]
theorem oz_G1cls_2 : (oz_G1clsl_1).all (fun p => !tbz 6 p) = true := by decide +kernel
/-- Stand.clear: this, this.tables, this.latest -/
theorem C186 {σE : rS} {D N : Nat → Nat} {F : hF} {A : hA} {d c s : Nat} {Q : wQ} (H : HW V186 σE D N F A)  (pf1 : F 0 1 = (D 1 : Int)) (pf2 : F 0 2 = (D 2 : Int)) (n1 : Int) (en1 : (N 1 : Int) = n1) (n2 : Int) (en2 : (N 2 : Int) = n2) (u0_0 : Int) (eu0_0 : F 0 0 = u0_0) (w1 : Int → Int) (ew1 : A 1 = w1) (h0 : (n1) = 3 ∧ (n2) = 3) (k : ∀ (σ : rS) (Fₚ : hF) (Aₚ : hA), HW V186 σ D N Fₚ Aₚ → OUT (V186).length D N σE c s D N σ c s → SF [(0, 0)] F Fₚ → SA [1, 2] A Aₚ → ∀ y0_0 : Int, Fₚ 0 0 = y0_0 → ∀ v1 : Int → Int, Aₚ 1 = v1 → ((y0_0) = -1) → (((v1)) 0 = -1 ∧ ((v1)) 1 = -1 ∧ ((v1)) 2 = -1) → Q none σ c s) : Ew 186 (d + 0) 0 (rargs 0 [.ref (D 0)]) [] σE c s Q := by
  have O := OUT_refl (n := (V186).length) (D := D) (N := N) (σ := σE) (c := c) (s := s)
  have HE := H
  have r1 : (0 : Int) ≤ n1 ∧ n1 ≤ 1000000 := nleE (H.nle 1 (ltn len_V186_oz_G1cls rfl)) (show (N 1 : Int) = n1 from en1)
  have r2 : (0 : Int) ≤ n2 ∧ n2 ≤ 1000000 := nleE (H.nle 2 (ltn len_V186_oz_G1cls rfl)) (show (N 2 : Int) = n2 from en2)
  refine Ew_of (pcₚ := 1) (fun _ => x_aload_n rfl rfl) ?_
  refine v_null rfl ?_
  refine v_p H (o := 0) (z := -1) (v := .null) rfl rfl rfl rfl rfl rfl rfl rfl (show (-1 : Int) ≤ -1 from q_1936) (fun σ H Oₚ => ?_)
  have O := OUT_trans O Oₚ
  have cFu3 : SF oz_G1clsl_0 F (updF F 0 0 (-1)) := SF_upd (SF_refl) rfl
  have mFu3 := SFm_of cFu3 oz_G1cls_1
  refine Ew_of (pcₚ := 6) (fun _ => x_iconst rfl) ?_
  refine Ew_of (pcₚ := 7) (fun _ => x_istore_n rfl) ?_
  have h0 : ∀ i, 0 ≤ i → i < 0 → ((w1)) i = -1 := fun i a b => by omega
  suffices hl7 : ∀ (m : Nat), ∀ (ls : rO) (σ : rS) (F_7 : hF) (A_7 : hA) (x7_1 : Int), rlook ls 0 = some (.ref (D 0)) → rlook ls 1 = some (I (x7_1)) → HW V186 σ D N F_7 A_7 → OUT (V186).length D N σE c s D N σ c s → SF [] (updF F 0 0 (-1)) F_7 → SA [1] A A_7 → ∀ w7_1 : Int → Int, A_7 1 = w7_1 → (inr (x7_1)) → ((0) ≤ (x7_1)) → ((x7_1) ≤ (0) ∨ (x7_1) ≤ (3)) → (∀ i, 0 ≤ i → i < (x7_1) → ((w7_1)) i = -1) → (((-1)) = -1) → ((3) - (x7_1)).toNat = m → Ew 186 (d + 0) 7 ls [] σ c s Q from
    hl7 _ _ _ _ _ (0) (rk_o (rfl) rfl rfl) (rk_s) H O (SF_refl) (SA_refl)    (w1) (ew1) (show inr (0) from q_20) (show (0) ≤ (0) from q_25) (show (0) ≤ (0) ∨ (0) ≤ (3) from q_1534) (show ∀ i, 0 ≤ i → i < (0) → ((w1)) i = -1 by assumption) (show ((-1)) = -1 from q_3474) rfl
  as_aux_lemma =>
  intro m
  induction m using Nat.strongRecOn with
  | _ m ih7 =>
    intro ls σ F_7 A_7 x7_1 l7_0 l7_1 H O hS_7 hA_7    w7_1 ew7_1 j7_0 j7_1 j7_2 j7_3 j7_4 hm7
    have cF_7 : SF oz_G1clsl_0 F F_7 := SF_trans (cFu3) hS_7 (any_sub (by decide +kernel))
    have mF_7 := SFm_of cF_7 oz_G1cls_1
    have cA_7 : SA oz_G1clsl_1 A A_7 := SA_trans (SA_refl) hA_7 (any_subA (by decide +kernel))
    have mA_7 := SAm_of cA_7 oz_G1cls_2
    have hnu : ∀ i, 0 ≤ i → i < (x7_1) → ((w7_1)) i = -1 := by assumption
    refine Ew_of (pcₚ := 8) (fun _ => x_iload_n rfl l7_1) ?_
    refine Ew_of (pcₚ := 9) (fun _ => x_iconst rfl) ?_
    refine w_icmpge (t := 25) rfl rfl (show inr (x7_1) from j7_0) (show inr (3) from q_66) (fun b4 => ?_) (fun b4 => ?_)
    · have hl1 : (x7_1) = 3 := q_3475 b4 j7_2
      have q0 := hnu 0 (by omega) (by omega)
      have q1 := hnu 1 (by omega) (by omega)
      have q2 := hnu 2 (by omega) (by omega)
      refine Ew_of (pcₚ := 26) (fun _ => x_aload_n rfl l7_0) ?_
      refine v_g H (o := 0) (v := .ref (D 2)) rfl rfl rfl rfl rfl (vrf ((mF_7 0 2 rfl).trans (pf2))) ?_
      refine Ew_of (pcₚ := 30) (fun _ => x_iconst rfl) ?_
      refine Ew_of (pcₚ := 31) (fun _ => x_lconst (z := 1) rfl (by decide)) ?_
      refine v_sJ H (o := 2) (z := 1) rfl rfl rfl rfl (n := n2) (en2) (show 0 ≤ 0 ∧ 0 < n2 by omega) (show inrJ (1) from q_1338) (fun σ H Oₚ => ?_)
      have O := OUT_trans O Oₚ
      have cAu5 : SA oz_G1clsl_1 A (updA A_7 2 (0) (1)) := SA_upd (cA_7) rfl
      have mAu5 := SAm_of cAu5 oz_G1cls_2
      refine Ew_of (pcₚ := 33) (fun _ => x_aload_n rfl l7_0) ?_
      refine v_g H (o := 0) (v := .ref (D 2)) rfl rfl rfl rfl rfl (vrf ((mF_7 0 2 rfl).trans (pf2))) ?_
      refine Ew_of (pcₚ := 37) (fun _ => x_iconst rfl) ?_
      refine Ew_of (pcₚ := 40) (fun _ => x_ldc2 (z := 4) rfl (by decide)) ?_
      refine v_sJ H (o := 2) (z := 4) rfl rfl rfl rfl (n := n2) (en2) (show 0 ≤ 1 ∧ 1 < n2 by omega) (show inrJ (4) from q_2480) (fun σ H Oₚ => ?_)
      have O := OUT_trans O Oₚ
      have cAu6 : SA oz_G1clsl_1 A (updA (updA A_7 2 (0) (1)) 2 (1) (4)) := SA_upd (cAu5) rfl
      have mAu6 := SAm_of cAu6 oz_G1cls_2
      refine Ew_of (pcₚ := 42) (fun _ => x_aload_n rfl l7_0) ?_
      refine v_g H (o := 0) (v := .ref (D 2)) rfl rfl rfl rfl rfl (vrf ((mF_7 0 2 rfl).trans (pf2))) ?_
      refine Ew_of (pcₚ := 46) (fun _ => x_iconst rfl) ?_
      refine Ew_of (pcₚ := 49) (fun _ => x_ldc2 (z := 8) rfl (by decide)) ?_
      refine v_sJ H (o := 2) (z := 8) rfl rfl rfl rfl (n := n2) (en2) (show 0 ≤ 2 ∧ 2 < n2 by omega) (show inrJ (8) from q_2481) (fun σ H Oₚ => ?_)
      have O := OUT_trans O Oₚ
      have cAu7 : SA oz_G1clsl_1 A (updA (updA (updA A_7 2 (0) (1)) 2 (1) (4)) 2 (2) (8)) := SA_upd (cAu6) rfl
      have mAu7 := SAm_of cAu7 oz_G1cls_2
      exact w_ret rfl (k _ _ _ H O (cF_7) (cAu7) ((-1)) ((hS_7 0 0 rfl)) (w7_1) (ew7_1) (show ((-1)) = -1 by first | exact q_3474 | omega) (show ((w7_1)) 0 = -1 ∧ ((w7_1)) 1 = -1 ∧ ((w7_1)) 2 = -1 by omega))
    · refine Ew_of (pcₚ := 13) (fun _ => x_aload_n rfl l7_0) ?_
      refine v_g H (o := 0) (v := .ref (D 1)) rfl rfl rfl rfl rfl (vrf ((mF_7 0 1 rfl).trans (pf1))) ?_
      refine Ew_of (pcₚ := 17) (fun _ => x_iload_n rfl l7_1) ?_
      refine v_null rfl ?_
      refine v_sR H (o := 1) (z := (-1)) (v := .null) rfl rfl rfl rfl rfl (n := n1) (en1) (show 0 ≤ x7_1 ∧ x7_1 < n1 by omega) (show (-1 : Int) ≤ (-1) from q_1936) (rfl) (rkinN) (fun σ H Oₚ => ?_)
      have O := OUT_trans O Oₚ
      have cAu8 : SA oz_G1clsl_1 A (updA A_7 1 (x7_1) ((-1))) := SA_upd (cA_7) rfl
      have mAu8 := SAm_of cAu8 oz_G1cls_2
      refine Ew_of (pcₚ := 22) (fun _ => x_iinc (len := 3) rfl (l7_1)) ?_
      refine Ew_of (pcₚ := 7) (fun _ => x_goto rfl rfl) ?_
      have hn1 : ∀ i, 0 ≤ i → i < ((x7_1 + 1)) → ((upd1 (w7_1) (x7_1) ((-1)))) i = -1 := NU_s hnu rfl
      exact ih7 _ (msE hm7 q_595 (q_596 b4)) _ _ _ _ ((x7_1 + 1)) (rk_o (l7_0) rfl rfl) (rk_s) H O (hS_7) (SA_upd (hA_7) rfl)    (upd1 (w7_1) (x7_1) ((-1))) (congrArg (fun q => upd1 q (x7_1) ((-1))) (ew7_1)) (show inr ((x7_1 + 1)) from q_1542 b4 j7_1) (show (0) ≤ ((x7_1 + 1)) from q_29 j7_1) (show ((x7_1 + 1)) ≤ (0) ∨ ((x7_1 + 1)) ≤ (3) from q_1541 b4) (show ∀ i, 0 ≤ i → i < ((x7_1 + 1)) → ((upd1 (w7_1) (x7_1) ((-1)))) i = -1 from hn1) (show ((-1)) = -1 from q_3474) rfl
abbrev V187_Stand : vV := [(0, 9, [(4, 0), (4, 0), (4, 0)]), (0, 9, [(4, 0), (4, 0), (4, 0)]), (1, 5, []), (1, 2, []), (1, 5, []), (1, 2, [])]
theorem len_V187_Stand_oz_G1cls : (V187_Stand).length = 6 := by decide +kernel
def oz_G1clsl_2 : List Nat := [2, 3]
theorem oz_G1cls_4 : (oz_G1clsl_2).all (fun p => !tbz 12 p) = true := by decide +kernel
/-- Stand.become: this, #1, this.tables, this.latest, #1.tables, #1.latest -/
theorem C187_Stand {σE : rS} {D N : Nat → Nat} {F : hF} {A : hA} {d c s : Nat} {Q : wQ} (H : HW V187_Stand σE D N F A)  (pf2 : F 0 1 = (D 2 : Int)) (pf3 : F 0 2 = (D 3 : Int)) (pf4 : F 1 1 = (D 4 : Int)) (pf5 : F 1 2 = (D 5 : Int)) (n2 : Int) (en2 : (N 2 : Int) = n2) (n3 : Int) (en3 : (N 3 : Int) = n3) (n4 : Int) (en4 : (N 4 : Int) = n4) (n5 : Int) (en5 : (N 5 : Int) = n5) (u0_0 : Int) (eu0_0 : F 0 0 = u0_0) (u1_0 : Int) (eu1_0 : F 1 0 = u1_0) (w2 : Int → Int) (ew2 : A 2 = w2) (w4 : Int → Int) (ew4 : A 4 = w4) (hk4 : ∀ i, 0 ≤ i → i < 3 → rkin PP.2.2.2.2.2.1 σE 5 (if (w4 i) < 0 then Value.null else .ref ((w4 i)).toNat) = true) (h0 : (n2) = 3 ∧ (n3) = 3) (h1 : (n4) = 3 ∧ (n5) = 3) (k : ∀ (σ : rS) (Fₚ : hF) (Aₚ : hA), HW V187_Stand σ D N Fₚ Aₚ → OUT (V187_Stand).length D N σE c s D N σ c s → SF [(0, 0)] F Fₚ → SA [2, 3] A Aₚ → ∀ y0_0 : Int, Fₚ 0 0 = y0_0 → ∀ v2 : Int → Int, Aₚ 2 = v2 → ((y0_0) = (u1_0)) → (((v2)) 0 = ((w4)) 0) → (((v2)) 1 = ((w4)) 1) → (((v2)) 2 = ((w4)) 2) → Q none σ c s) : Ew 187 (d + 0) 0 (rargs 0 [.ref (D 0), .ref (D 1)]) [] σE c s Q := by
  have O := OUT_refl (n := (V187_Stand).length) (D := D) (N := N) (σ := σE) (c := c) (s := s)
  have HE := H
  have r1 : (0 : Int) ≤ n2 ∧ n2 ≤ 1000000 := nleE (H.nle 2 (ltn len_V187_Stand_oz_G1cls rfl)) (show (N 2 : Int) = n2 from en2)
  have r2 : (0 : Int) ≤ n3 ∧ n3 ≤ 1000000 := nleE (H.nle 3 (ltn len_V187_Stand_oz_G1cls rfl)) (show (N 3 : Int) = n3 from en3)
  have r3 : (0 : Int) ≤ n4 ∧ n4 ≤ 1000000 := nleE (H.nle 4 (ltn len_V187_Stand_oz_G1cls rfl)) (show (N 4 : Int) = n4 from en4)
  have r4 : (0 : Int) ≤ n5 ∧ n5 ≤ 1000000 := nleE (H.nle 5 (ltn len_V187_Stand_oz_G1cls rfl)) (show (N 5 : Int) = n5 from en5)
  refine Ew_of (pcₚ := 1) (fun _ => x_aload_n rfl rfl) ?_
  refine Ew_of (pcₚ := 2) (fun _ => x_aload_n rfl rfl) ?_
  have r5 : (-1 : Int) ≤ u1_0 := Int.le_trans (show (-1 : Int) ≤ F 1 0 from H.krg 1 0 (ltn len_V187_Stand_oz_G1cls rfl)) (Int.le_of_eq (show F 1 0 = u1_0 from (eu1_0)))
  refine v_g H (o := 1) (v := (if u1_0 < 0 then Value.null else .ref (u1_0).toNat)) rfl rfl rfl rfl rfl (congrArg (fun z : Int => if z < 0 then Value.null else .ref z.toNat) (show F 1 0 = u1_0 from (eu1_0))) ?_
  refine v_p H (o := 0) (z := u1_0) (v := (if u1_0 < 0 then Value.null else .ref (u1_0).toNat)) rfl rfl rfl rfl rfl rfl rfl (rfitP rfl (fun _ => rfl)) (show (-1 : Int) ≤ u1_0 from r5) (fun σ H Oₚ => ?_)
  have O := OUT_trans O Oₚ
  have cFu6 : SF oz_G1clsl_0 F (updF F 0 0 (u1_0)) := SF_upd (SF_refl) rfl
  have mFu6 := SFm_of cFu6 oz_G1cls_1
  refine Ew_of (pcₚ := 9) (fun _ => x_iconst rfl) ?_
  refine Ew_of (pcₚ := 10) (fun _ => x_istore_n rfl) ?_
  have h0 : SM3 ((w2)) ((w4)) 0 := fun i a b => by omega
  suffices hl10 : ∀ (m : Nat), ∀ (ls : rO) (σ : rS) (F_10 : hF) (A_10 : hA) (x10_2 : Int), rlook ls 0 = some (.ref (D 0)) → rlook ls 1 = some (.ref (D 1)) → rlook ls 2 = some (I (x10_2)) → HW V187_Stand σ D N F_10 A_10 → OUT (V187_Stand).length D N σE c s D N σ c s → SF [] (updF F 0 0 (u1_0)) F_10 → SA [2, 3] A A_10 → ∀ w10_2 : Int → Int, A_10 2 = w10_2 → (inr (x10_2)) → ((0) ≤ (x10_2)) → ((x10_2) ≤ (0) ∨ (x10_2) ≤ (3)) → (SM3 ((w10_2)) ((w4)) (x10_2)) → ((u1_0) = (u1_0)) → ((3) - (x10_2)).toNat = m → Ew 187 (d + 0) 10 ls [] σ c s Q from
    hl10 _ _ _ _ _ (0) (rk_o (rfl) rfl rfl) (rk_o (rfl) rfl rfl) (rk_s) H O (SF_refl) (SA_refl)    (w2) (ew2) (show inr (0) from q_20) (show (0) ≤ (0) from q_25) (show (0) ≤ (0) ∨ (0) ≤ (3) from q_1534) (show SM3 ((w2)) ((w4)) (0) from h0) (show (u1_0) = (u1_0) from q_42) rfl
  as_aux_lemma =>
  intro m
  induction m using Nat.strongRecOn with
  | _ m ih10 =>
    intro ls σ F_10 A_10 x10_2 l10_0 l10_1 l10_2 H O hS_10 hA_10    w10_2 ew10_2 j10_0 j10_1 j10_2 j10_3 j10_4 hm10
    have cF_10 : SF oz_G1clsl_0 F F_10 := SF_trans (cFu6) hS_10 (any_sub (by decide +kernel))
    have mF_10 := SFm_of cF_10 oz_G1cls_1
    have cA_10 : SA oz_G1clsl_2 A A_10 := SA_trans (SA_refl) hA_10 (any_subA (by decide +kernel))
    have mA_10 := SAm_of cA_10 oz_G1cls_4
    refine Ew_of (pcₚ := 11) (fun _ => x_iload_n rfl l10_2) ?_
    refine Ew_of (pcₚ := 12) (fun _ => x_iconst rfl) ?_
    refine w_icmpge (t := 45) rfl rfl (show inr (x10_2) from j10_0) (show inr (3) from q_66) (fun b7 => ?_) (fun b7 => ?_)
    · have hsm : SM3 ((w10_2)) ((w4)) (x10_2) := j10_3
      have q0 := hsm 0 (by omega) (by omega)
      have q1 := hsm 1 (by omega) (by omega)
      have q2 := hsm 2 (by omega) (by omega)
      exact w_ret rfl (k _ _ _ H O (cF_10) (cA_10) (u1_0) ((hS_10 0 0 rfl)) (w10_2) (ew10_2) (show (u1_0) = (u1_0) from j10_4) (show ((w10_2)) 0 = ((w4)) 0 by omega) (show ((w10_2)) 1 = ((w4)) 1 by omega) (show ((w10_2)) 2 = ((w4)) 2 by omega))
    · refine Ew_of (pcₚ := 16) (fun _ => x_aload_n rfl l10_0) ?_
      refine v_g H (o := 0) (v := .ref (D 2)) rfl rfl rfl rfl rfl (vrf ((mF_10 0 1 rfl).trans (pf2))) ?_
      refine Ew_of (pcₚ := 20) (fun _ => x_iload_n rfl l10_2) ?_
      refine Ew_of (pcₚ := 21) (fun _ => x_aload_n rfl l10_1) ?_
      refine v_g H (o := 1) (v := .ref (D 4)) rfl rfl rfl rfl rfl (vrf ((mF_10 1 1 rfl).trans (pf4))) ?_
      refine Ew_of (pcₚ := 25) (fun _ => x_iload_n rfl l10_2) ?_
      have r8 : (-1 : Int) ≤ (w4) (x10_2) := by have h1 : (-1 : Int) ≤ A_10 4 (x10_2) := H.arg 4 (x10_2) (by decide) rfl; rw [show A_10 4 (x10_2) = (w4) (x10_2) from (congrFun ((funext (mA_10 4 rfl)).trans (ew4)) (x10_2))] at h1; exact h1
      refine v_lR H (o := 4) rfl rfl rfl rfl rfl (n := n4) (en4) (show 0 ≤ x10_2 ∧ x10_2 < n4 from q_3476 b7 h1 j10_1) (z := (w4) (x10_2)) (v := (if (w4) (x10_2) < 0 then Value.null else .ref ((w4) (x10_2)).toNat)) (show A_10 4 (x10_2) = (w4) (x10_2) from (congrFun ((funext (mA_10 4 rfl)).trans (ew4)) (x10_2))) (rfl) ?_
      refine v_sR H (o := 2) (z := (w4) (x10_2)) (v := (if (w4) (x10_2) < 0 then Value.null else .ref ((w4) (x10_2)).toNat)) rfl rfl rfl rfl rfl (n := n2) (en2) (show 0 ≤ x10_2 ∧ x10_2 < n2 by omega) (show (-1 : Int) ≤ (w4) (x10_2) from r8) (rfl) (rkin_out HE H O (hk4 (x10_2) (by omega) (by omega))) (fun σ H Oₚ => ?_)
      have O := OUT_trans O Oₚ
      have cAu9 : SA oz_G1clsl_2 A (updA A_10 2 (x10_2) ((w4) (x10_2))) := SA_upd (cA_10) rfl
      have mAu9 := SAm_of cAu9 oz_G1cls_4
      refine Ew_of (pcₚ := 28) (fun _ => x_aload_n rfl l10_0) ?_
      refine v_g H (o := 0) (v := .ref (D 3)) rfl rfl rfl rfl rfl (vrf ((mF_10 0 2 rfl).trans (pf3))) ?_
      refine Ew_of (pcₚ := 32) (fun _ => x_iload_n rfl l10_2) ?_
      refine Ew_of (pcₚ := 33) (fun _ => x_aload_n rfl l10_1) ?_
      refine v_g H (o := 1) (v := .ref (D 5)) rfl rfl rfl rfl rfl (vrf ((mF_10 1 2 rfl).trans (pf5))) ?_
      refine Ew_of (pcₚ := 37) (fun _ => x_iload_n rfl l10_2) ?_
      refine v_lJ H (o := 5) rfl rfl rfl rfl (n := n5) (en5) (show 0 ≤ x10_2 ∧ x10_2 < n5 from q_3477 b7 h1 j10_1) (fun v10 ev10 qv10 => ?_)
      have ev10 : (A 5) (x10_2) = v10 := (congrFun (funext (mAu9 5 rfl)) (x10_2)).symm.trans ev10
      refine v_sJ H (o := 3) (z := v10) rfl rfl rfl rfl (n := n3) (en3) (show 0 ≤ x10_2 ∧ x10_2 < n3 by omega) (show inrJ (v10) from qv10) (fun σ H Oₚ => ?_)
      have O := OUT_trans O Oₚ
      have cAu11 : SA oz_G1clsl_2 A (updA (updA A_10 2 (x10_2) ((w4) (x10_2))) 3 (x10_2) (v10)) := SA_upd (cAu9) rfl
      have mAu11 := SAm_of cAu11 oz_G1cls_4
      refine Ew_of (pcₚ := 42) (fun _ => x_iinc (len := 3) rfl (l10_2)) ?_
      refine Ew_of (pcₚ := 10) (fun _ => x_goto rfl rfl) ?_
      have h1 : SM3 ((upd1 (w10_2) (x10_2) ((w4) (x10_2)))) ((w4)) ((x10_2 + 1)) := SM3_s (by assumption) rfl rfl
      exact ih10 _ (msE hm10 q_595 (q_596 b7)) _ _ _ _ ((x10_2 + 1)) (rk_o (l10_0) rfl rfl) (rk_o (l10_1) rfl rfl) (rk_s) H O (hS_10) (SA_upd (SA_upd (hA_10) rfl) rfl)    (upd1 (w10_2) (x10_2) ((w4) (x10_2))) (congrArg (fun q => upd1 q (x10_2) ((w4) (x10_2))) (ew10_2)) (show inr ((x10_2 + 1)) from q_1542 b7 j10_1) (show (0) ≤ ((x10_2 + 1)) from q_29 j10_1) (show ((x10_2 + 1)) ≤ (0) ∨ ((x10_2 + 1)) ≤ (3) from q_1541 b7) (show SM3 ((upd1 (w10_2) (x10_2) ((w4) (x10_2)))) ((w4)) ((x10_2 + 1)) from h1) (show (u1_0) = (u1_0) from j10_4) rfl
abbrev V114 : vV := [(0, 4, [(4, 0), (4, 0), (0, 0), (4, 0), (4, 0)]), (0, 9, [(4, 0), (4, 0), (4, 0)]), (1, 5, []), (1, 2, []), (0, 7, [(4, 0), (0, 0), (1, 0), (0, 0), (0, 0)])]
theorem len_V114_oz_G1cls : (V114).length = 5 := by decide +kernel
theorem oz_G1cls_6 : vsub V114 V156 [4] = true := by decide +kernel
theorem oz_G1cls_7 : vsub V114 V186 [1, 2, 3] = true := by decide +kernel
def oz_G1clsl_3 : List (Nat × Nat) := [(0, 2), (1, 0), (4, 1), (4, 2), (4, 3), (4, 4)]
theorem oz_G1cls_8 : (oz_G1clsl_3).all (fun p => !tbz 10208471007628153903901238222957341310980 (Nat.add (Nat.mul 32 p.1) p.2)) = true := by decide +kernel
def oz_G1clsl_4 : List Nat := [4]
theorem oz_G1cls_9 : okc oz_G1clsl_4 4 = true := by decide +kernel
def oz_G1clsl_5 : List Nat := [1, 2, 3]
theorem oz_G1cls_10 : okc oz_G1clsl_5 787457 = true := by decide +kernel
/-- Dictionary.clear: this, this.stand, this.stand.tables, this.stand.latest, this.content -/
theorem C114 {σE : rS} {D N : Nat → Nat} {F : hF} {A : hA} {d c s : Nat} {Q : wQ} (H : HW V114 σE D N F A)  (pf1 : F 0 1 = (D 1 : Int)) (pf2 : F 1 1 = (D 2 : Int)) (pf3 : F 1 2 = (D 3 : Int)) (pf4 : F 0 0 = (D 4 : Int)) (n2 : Int) (en2 : (N 2 : Int) = n2) (n3 : Int) (en3 : (N 3 : Int) = n3) (u0_2 : Int) (eu0_2 : F 0 2 = u0_2) (u1_0 : Int) (eu1_0 : F 1 0 = u1_0) (u4_1 : Int) (eu4_1 : F 4 1 = u4_1) (w2 : Int → Int) (ew2 : A 2 = w2) (h0 : (n2) = 3 ∧ (n3) = 3) (k : ∀ (σ : rS) (Fₚ : hF) (Aₚ : hA), HW V114 σ D N Fₚ Aₚ → OUT (V114).length D N σE c s D N σ c s → SF [(0, 2), (1, 0), (4, 1), (4, 2), (4, 3), (4, 4)] F Fₚ → SA [2, 3] A Aₚ → ∀ y0_2 : Int, Fₚ 0 2 = y0_2 → ∀ y1_0 : Int, Fₚ 1 0 = y1_0 → ∀ y4_1 : Int, Fₚ 4 1 = y4_1 → ∀ v2 : Int → Int, Aₚ 2 = v2 → ((y1_0) = -1) → (((v2)) 0 = -1 ∧ ((v2)) 1 = -1 ∧ ((v2)) 2 = -1) → ((y0_2) = 0) → ((y4_1) = 0) → Q none σ c s) : Ew 114 (d + 1) 0 (rargs 0 [.ref (D 0)]) [] σE c s Q := by
  have O := OUT_refl (n := (V114).length) (D := D) (N := N) (σ := σE) (c := c) (s := s)
  have HE := H
  have r1 : (-2147483648 : Int) ≤ u0_2 ∧ u0_2 ≤ 2147483647 := rngE (show (-2147483648 : Int) ≤ F 0 2 ∧ F 0 2 ≤ 2147483647 from H.krg 0 2 (ltn len_V114_oz_G1cls rfl)) (show F 0 2 = u0_2 from (eu0_2))
  have r2 : (-2147483648 : Int) ≤ u4_1 ∧ u4_1 ≤ 2147483647 := rngE (show (-2147483648 : Int) ≤ F 4 1 ∧ F 4 1 ≤ 2147483647 from H.krg 4 1 (ltn len_V114_oz_G1cls rfl)) (show F 4 1 = u4_1 from (eu4_1))
  have r3 : (0 : Int) ≤ n2 ∧ n2 ≤ 1000000 := nleE (H.nle 2 (ltn len_V114_oz_G1cls rfl)) (show (N 2 : Int) = n2 from en2)
  have r4 : (0 : Int) ≤ n3 ∧ n3 ≤ 1000000 := nleE (H.nle 3 (ltn len_V114_oz_G1cls rfl)) (show (N 3 : Int) = n3 from en3)
  refine Ew_of (pcₚ := 1) (fun _ => x_aload_n rfl rfl) ?_
  refine v_g H (o := 0) (v := .ref (D 4)) rfl rfl rfl rfl rfl (vrf (pf4)) ?_
  have r5 : (0 : Int) ≤ F 4 2 ∧ F 4 2 ≤ 1 := H.krg 4 2 (ltn len_V114_oz_G1cls rfl)
  have r6 : (-2147483648 : Int) ≤ F 4 4 ∧ F 4 4 ≤ 2147483647 := H.krg 4 4 (ltn len_V114_oz_G1cls rfl)
  refine v_inv H (o := 4) rfl rfl rfl rfl rfl rfl (by rfl) (C156h (D := puc 4 D) (N := puc 4 N) (HW_subc H oz_G1cls_6 oz_G1cls_9) (u4_1) ((eu4_1)) (F 4 2) (rfl) (F 4 4) (rfl)  (fun σ7 F7ₚ A7ₚ Hₚ Oₚ hS7 hA7 y7_0_1 ey7_0_1 y7_0_2 ey7_0_2 y7_0_4 ey7_0_4 pz7_0 => ⟨rfl, ?_⟩))
  refine v_backc (c := c) (s := s) H oz_G1cls_6 oz_G1cls_9 Hₚ Oₚ (fun F7 A7 H Oₚ eF7 eA7 => ?_)
  have O := OUT_trans O Oₚ
  -- Row.clear
  have cF7 : SF oz_G1clsl_3 F F7 := SF_trans (SF_refl) (SF_gluc (ι := oz_G1clsl_4) oz_G1cls_9 hS7 eF7 (by decide +kernel)) (any_sub (lₚ := [(4, 1), (4, 2), (4, 3), (4, 4)]) (by decide +kernel))
  have mF7 := SFm_of cF7 oz_G1cls_8
  have cA7 : SA oz_G1clsl_2 A A7 := SA_trans (SA_refl) (SA_gluc (ι := oz_G1clsl_4) oz_G1cls_9 hA7 eA7 (by decide +kernel)) (any_subA (lₚ := []) (by decide +kernel))
  have mA7 := SAm_of cA7 oz_G1cls_4
  have r8 : (-2147483648 : Int) ≤ y7_0_1 ∧ y7_0_1 ≤ 2147483647 := rngE (show (-2147483648 : Int) ≤ F7 4 1 ∧ F7 4 1 ≤ 2147483647 from H.krg 4 1 (ltn len_V114_oz_G1cls rfl)) (show F7 4 1 = y7_0_1 from ((eF7 4 1).trans ey7_0_1))
  have r9 : (0 : Int) ≤ y7_0_2 ∧ y7_0_2 ≤ 1 := rngE (show (0 : Int) ≤ F7 4 2 ∧ F7 4 2 ≤ 1 from H.krg 4 2 (ltn len_V114_oz_G1cls rfl)) (show F7 4 2 = y7_0_2 from ((eF7 4 2).trans ey7_0_2))
  have r10 : (-2147483648 : Int) ≤ y7_0_4 ∧ y7_0_4 ≤ 2147483647 := rngE (show (-2147483648 : Int) ≤ F7 4 4 ∧ F7 4 4 ≤ 2147483647 from H.krg 4 4 (ltn len_V114_oz_G1cls rfl)) (show F7 4 4 = y7_0_4 from ((eF7 4 4).trans ey7_0_4))
  refine Ew_of (pcₚ := 8) (fun _ => x_aload_n rfl rfl) ?_
  refine v_g H (o := 0) (v := .ref (D 1)) rfl rfl rfl rfl rfl (vrf ((mF7 0 1 rfl).trans (pf1))) ?_
  refine v_inv H (o := 1) rfl rfl rfl rfl rfl rfl (by rfl) (C186 (D := puc 787457 D) (N := puc 787457 N) (HW_subc H oz_G1cls_7 oz_G1cls_10) ((mF7 1 1 rfl).trans (pf2)) ((mF7 1 2 rfl).trans (pf3)) (n2) (en2) (n3) (en3) (u1_0) ((((show F7 1 0 = F 1 0 from (eF7 1 0))).trans (eu1_0))) (w2) (((show A7 2 = A 2 from (eA7 2))).trans (ew2)) (show (n2) = 3 ∧ (n3) = 3 from h0) (fun σ11 F11ₚ A11ₚ Hₚ Oₚ hS11 hA11 y11_0_0 ey11_0_0 w11_1 ew11_1 pz11_0 pz11_1 => ⟨rfl, ?_⟩))
  refine v_backc (c := c) (s := s) H oz_G1cls_7 oz_G1cls_10 Hₚ Oₚ (fun F11 A11 H Oₚ eF11 eA11 => ?_)
  have O := OUT_trans O Oₚ
  -- Stand.clear
  have cF11 : SF oz_G1clsl_3 F F11 := SF_trans (cF7) (SF_gluc (ι := oz_G1clsl_5) oz_G1cls_10 hS11 eF11 (by decide +kernel)) (any_sub (lₚ := [(1, 0)]) (by decide +kernel))
  have mF11 := SFm_of cF11 oz_G1cls_8
  have cA11 : SA oz_G1clsl_2 A A11 := SA_trans (cA7) (SA_gluc (ι := oz_G1clsl_5) oz_G1cls_10 hA11 eA11 (by decide +kernel)) (any_subA (lₚ := [2, 3]) (by decide +kernel))
  have mA11 := SAm_of cA11 oz_G1cls_4
  refine Ew_of (pcₚ := 15) (fun _ => x_aload_n rfl rfl) ?_
  refine Ew_of (pcₚ := 16) (fun _ => x_iconst rfl) ?_
  refine v_p H (o := 0) (z := 0) (v := I (0)) rfl rfl rfl rfl rfl rfl rfl rfl (show (-2147483648 : Int) ≤ 0 ∧ 0 ≤ 2147483647 from q_240) (fun σ H Oₚ => ?_)
  have O := OUT_trans O Oₚ
  have cFu12 : SF oz_G1clsl_3 F (updF F11 0 2 (0)) := SF_upd (cF11) rfl
  have mFu12 := SFm_of cFu12 oz_G1cls_8
  exact w_ret rfl (k _ _ _ H O (cFu12) (cA11) (0) (rfl) (y11_0_0) (((eF11 1 0).trans ey11_0_0)) (y7_0_1) ((((show F11 4 1 = F7 4 1 from (eF11 4 1))).trans ((eF7 4 1).trans ey7_0_1))) (w11_1) ((eA11 2).trans ew11_1) (show (y11_0_0) = -1 from pz11_0) (show ((w11_1)) 0 = -1 ∧ ((w11_1)) 1 = -1 ∧ ((w11_1)) 2 = -1 from pz11_1) (show (0) = 0 by first | exact q_64 | omega) (show (y7_0_1) = 0 from q_3478 pz7_0))
abbrev V119_Br : vV := [(0, 4, [(4, 0), (4, 0), (0, 0), (4, 0), (4, 0)]), (1, 0, []), (0, 7, [(4, 0), (0, 0), (1, 0), (0, 0), (0, 0)]), (1, 0, []), (0, 9, [(4, 0), (4, 0), (4, 0)]), (1, 2, [])]
theorem len_V119_Br_oz_G1cls : (V119_Br).length = 6 := by decide +kernel
theorem oz_G1cls_12 : vsub V119_Br V161_Br [2, 1, 3] = true := by decide +kernel
theorem oz_G1cls_13 : vmov V119_Br [2, 1, 3] [2] = true := by decide +kernel
theorem oz_G1cls_14 : vsub V119_Br V42_Br [1] = true := by decide +kernel
def oz_G1clsl_6 : List (Nat × Nat) := [(2, 0), (2, 1), (2, 2)]
theorem oz_G1cls_15 : (oz_G1clsl_6).all (fun p => !tbz 129127208515966861312 (Nat.add (Nat.mul 32 p.1) p.2)) = true := by decide +kernel
def oz_G1clsl_7 : List Nat := [3, 5]
theorem oz_G1cls_16 : (oz_G1clsl_7).all (fun p => !tbz 40 p) = true := by decide +kernel
def oz_G1clsl_8 : List Nat := [3]
theorem oz_G1cls_17 : (oz_G1clsl_8).all (fun p => !tbz 8 p) = true := by decide +kernel
def oz_G1clsl_9 : List Nat := [2, 1, 3]
theorem oz_G1cls_18 : okc oz_G1clsl_9 786946 = true := by decide +kernel
def oz_G1clsl_10 : List Nat := [1]
theorem oz_G1cls_19 : okc oz_G1clsl_10 1 = true := by decide +kernel
/-- Dictionary.hearLatest: this, #1, this.content, this.content.bytes, this.stand, this.stand.latest -/
theorem C119_Br {σE : rS} {D N : Nat → Nat} {F : hF} {A : hA} {d c s : Nat} {Q : wQ} (H : HW V119_Br σE D N F A) {a2 a3 : Int} (pf2 : F 0 0 = (D 2 : Int)) (pf3 : F 2 0 = (D 3 : Int)) (pf4 : F 0 1 = (D 4 : Int)) (pf5 : F 4 2 = (D 5 : Int)) (n1 : Int) (en1 : (N 1 : Int) = n1) (n3 : Int) (en3 : (N 3 : Int) = n3) (n5 : Int) (en5 : (N 5 : Int) = n5) (u2_1 : Int) (eu2_1 : F 2 1 = u2_1) (h0 : inr (a2)) (h1 : inr (a3)) (h2 : 0 ≤ (u2_1) ∧ (u2_1) ≤ (n3) ∧ (n3) ≤ 65536) (h3 : (u2_1) = 0) (h4 : 0 ≤ (a2) ∧ (a2) ≤ 65536 ∧ 0 ≤ (a3) ∧ (a3) ≤ (n1) ∧ (n1) ≤ 65536) (h5 : (n5) = 3) (k : ∀ (z : Int) (σ : rS) (Dₚ Nₚ : Nat → Nat) (Fₚ : hF) (Aₚ : hA) (cₚ sₚ : Nat), HW V119_Br σ Dₚ Nₚ Fₚ Aₚ → OUT (V119_Br).length D N σE c s Dₚ Nₚ σ cₚ sₚ → SD [3] D Dₚ → SD [3] N Nₚ → SF [(2, 0), (2, 1), (2, 2)] F Fₚ → SA [3, 5] A Aₚ → Fₚ 2 0 = (Dₚ 3 : Int) → ∀ m3 : Int, (Nₚ 3 : Int) = m3 → ∀ y2_1 : Int, Fₚ 2 1 = y2_1 → (inr (z)) → (0 ≤ (y2_1) ∧ (y2_1) ≤ (m3) ∧ (m3) ≤ 65536) → (-4 ≤ (z) ∧ (z) ≤ 65536) → ((z) < 0 ∨ (y2_1) = (z)) → Q (some (I z)) σ cₚ sₚ) : Ew 119 (d + 3) 0 (rargs 0 [.ref (D 0), .ref (D 1), I a2, I a3]) [] σE c s Q := by
  have O := OUT_refl (n := (V119_Br).length) (D := D) (N := N) (σ := σE) (c := c) (s := s)
  have HE := H
  have r1 : (-2147483648 : Int) ≤ u2_1 ∧ u2_1 ≤ 2147483647 := rngE (show (-2147483648 : Int) ≤ F 2 1 ∧ F 2 1 ≤ 2147483647 from H.krg 2 1 (ltn len_V119_Br_oz_G1cls rfl)) (show F 2 1 = u2_1 from (eu2_1))
  have r2 : (0 : Int) ≤ n1 ∧ n1 ≤ 1000000 := nleE (H.nle 1 (ltn len_V119_Br_oz_G1cls rfl)) (show (N 1 : Int) = n1 from en1)
  have r3 : (0 : Int) ≤ n3 ∧ n3 ≤ 1000000 := nleE (H.nle 3 (ltn len_V119_Br_oz_G1cls rfl)) (show (N 3 : Int) = n3 from en3)
  have r4 : (0 : Int) ≤ n5 ∧ n5 ≤ 1000000 := nleE (H.nle 5 (ltn len_V119_Br_oz_G1cls rfl)) (show (N 5 : Int) = n5 from en5)
  refine Ew_of (pcₚ := 1) (fun _ => x_iload_n rfl rfl) ?_
  refine Ew_of (pcₚ := 2) (fun _ => x_iload_n rfl rfl) ?_
  refine w_isub rfl ?_
  refine Ew_of (pcₚ := 5) (fun _ => x_bipush (z := 12) rfl (by decide)) ?_
  refine w_isub rfl ?_
  refine Ew_of (pcₚ := 8) (fun _ => x_istore rfl) ?_
  refine Ew_of (pcₚ := 10) (fun _ => x_iload rfl rk_s) ?_
  refine w_ifge (t := 15) rfl rfl (show inr (((a3 - a2) - 12)) from q_3479 h4) (fun b5 => ?_) (fun b5 => ?_)
  · refine Ew_of (pcₚ := 16) (fun _ => x_iconst rfl) ?_
    refine Ew_of (pcₚ := 18) (fun _ => x_istore rfl) ?_
    suffices hl18 : ∀ (m : Nat), ∀ (ls : rO) (σ : rS) (F_18 : hF) (A_18 : hA) (x18_5 : Int), rlook ls 0 = some (.ref (D 0)) → rlook ls 1 = some (.ref (D 1)) → rlook ls 2 = some (I (a2)) → rlook ls 4 = some (I (((a3 - a2) - 12))) → rlook ls 5 = some (I (x18_5)) → HW V119_Br σ D N F_18 A_18 → OUT (V119_Br).length D N σE c s D N σ c s → SF [] F F_18 → SA [5] A A_18 → (inr (x18_5)) → ((0) ≤ (x18_5)) → ((x18_5) ≤ (0) ∨ (x18_5) ≤ (3)) → ((3) - (x18_5)).toNat = m → Ew 119 (d + 3) 18 ls [] σ c s Q from
      hl18 _ _ _ _ _ (0) (rk_o (rk_o (rfl) rfl rfl) rfl rfl) (rk_o (rk_o (rfl) rfl rfl) rfl rfl) (rk_o (rk_o (rfl) rfl rfl) rfl rfl) (rk_o (rk_s) rfl rfl) (rk_s) H O (SF_refl) (SA_refl)     (show inr (0) from q_20) (show (0) ≤ (0) from q_25) (show (0) ≤ (0) ∨ (0) ≤ (3) from q_1534) rfl
    as_aux_lemma =>
    intro m
    induction m using Nat.strongRecOn with
    | _ m ih18 =>
      intro ls σ F_18 A_18 x18_5 l18_0 l18_1 l18_2 l18_4 l18_5 H O hS_18 hA_18     j18_0 j18_1 j18_2 hm18
      have cF_18 : SF oz_G1clsl_6 F F_18 := SF_trans (SF_refl) hS_18 (any_sub (by decide +kernel))
      have mF_18 := SFm_of cF_18 oz_G1cls_15
      have cA_18 : SA oz_G1clsl_7 A A_18 := SA_trans (SA_refl) hA_18 (any_subA (by decide +kernel))
      have mA_18 := SAm_of cA_18 oz_G1cls_16
      refine Ew_of (pcₚ := 20) (fun _ => x_iload rfl l18_5) ?_
      refine Ew_of (pcₚ := 21) (fun _ => x_iconst rfl) ?_
      refine w_icmpge (t := 86) rfl rfl (show inr (x18_5) from j18_0) (show inr (3) from q_66) (fun b6 => ?_) (fun b6 => ?_)
      · refine Ew_of (pcₚ := 87) (fun _ => x_aload_n rfl l18_0) ?_
        refine v_g H (o := 0) (v := .ref (D 2)) rfl rfl rfl rfl rfl (vrf ((mF_18 0 0 rfl).trans (pf2))) ?_
        refine Ew_of (pcₚ := 91) (fun _ => x_aload_n rfl l18_1) ?_
        refine Ew_of (pcₚ := 92) (fun _ => x_iload_n rfl l18_2) ?_
        refine Ew_of (pcₚ := 94) (fun _ => x_bipush (z := 12) rfl (by decide)) ?_
        refine w_iadd rfl ?_
        refine Ew_of (pcₚ := 97) (fun _ => x_iload rfl l18_4) ?_
        refine v_inv H (o := 2) rfl rfl rfl rfl rfl rfl (by rfl) (C161_Br (D := puc 786946 D) (N := puc 786946 N) (HW_subc H oz_G1cls_12 oz_G1cls_18) (((hS_18 2 0 rfl)).trans (pf3)) (n1) (en1) (n3) (en3) (u2_1) (((hS_18 2 1 rfl).trans (eu2_1))) (A 3) (funext (hA_18 3 rfl)) (show inr ((a2 + 12)) from q_3482 h4) (show inr (((a3 - a2) - 12)) from q_3481 b5 h4) (show 0 ≤ (u2_1) ∧ (u2_1) ≤ (n3) ∧ (n3) ≤ 65536 from h2) (show (((a3 - a2) - 12)) < 0 ∨ 0 ≤ ((a2 + 12)) ∧ ((a2 + 12)) + (((a3 - a2) - 12)) ≤ (n1) from q_3480 h4) (fun σ7 D7ₚ N7ₚ F7ₚ A7ₚ c7 s7 Hₚ Oₚ hD7 hN7 hS7 hA7 pm7_2 m7_2 em7_2 y7_0_1 ey7_0_1 w7_2 ew7_2 pz7_0 pz7_1 pz7_2 => ⟨rfl, ?_⟩))
        refine v_backMc (c := c) (s := s) H oz_G1cls_12 oz_G1cls_18 Hₚ Oₚ hD7 oz_G1cls_13 (fun D7 N7 F7 A7 H Oₚ eD7 eN7 eF7 eA7 => ?_)
        have O := OUT_trans O Oₚ
        -- Row.addPart
        have cF7 : SF oz_G1clsl_6 F F7 := SF_trans (cF_18) (SF_gluc (ι := oz_G1clsl_9) oz_G1cls_18 hS7 eF7 (by decide +kernel)) (any_sub (lₚ := [(2, 0), (2, 1), (2, 2)]) (by decide +kernel))
        have mF7 := SFm_of cF7 oz_G1cls_15
        have cA7 : SA oz_G1clsl_7 A A7 := SA_trans (cA_18) (SA_gluc (ι := oz_G1clsl_9) oz_G1cls_18 hA7 eA7 (by decide +kernel)) (any_subA (lₚ := [3]) (by decide +kernel))
        have mA7 := SAm_of cA7 oz_G1cls_16
        have cD7 : SD oz_G1clsl_8 D D7 := SD_trans (SD_refl) (SD_gluc (ι := oz_G1clsl_9) oz_G1cls_18 hD7 eD7 (by decide +kernel)) (any_subA (lₚ := [3]) (by decide +kernel))
        have mD7 := SDm_of cD7 oz_G1cls_17
        have cN7 : SD oz_G1clsl_8 N N7 := SD_trans (SD_refl) (SD_gluc (ι := oz_G1clsl_9) oz_G1cls_18 hN7 eN7 (by decide +kernel)) (any_subA (lₚ := [3]) (by decide +kernel))
        have mN7 := SDm_of cN7 oz_G1cls_17
        have pf7_2_0 : F7 2 0 = (D7 3 : Int) := (eF7 2 0).trans (pm7_2.trans (congrArg (fun q : Nat => (q : Int)) (eD7 3).symm))
        have r8 : (0 : Int) ≤ m7_2 ∧ m7_2 ≤ 1000000 := nleE (H.nle 3 (ltn len_V119_Br_oz_G1cls rfl)) (show (N7 3 : Int) = m7_2 from (congrArg (fun q : Nat => (q : Int)) (eN7 3)).trans em7_2)
        have r9 : (-2147483648 : Int) ≤ y7_0_1 ∧ y7_0_1 ≤ 2147483647 := rngE (show (-2147483648 : Int) ≤ F7 2 1 ∧ F7 2 1 ≤ 2147483647 from H.krg 2 1 (ltn len_V119_Br_oz_G1cls rfl)) (show F7 2 1 = y7_0_1 from ((eF7 2 1).trans ey7_0_1))
        refine Ew_of (pcₚ := 102) (fun _ => x_iload rfl l18_4) ?_
        exact w_ireturn rfl (k (((a3 - a2) - 12)) _ _ _ _ _ _ _ H O (cD7) (cN7) (cF7) (cA7) (pf7_2_0) (m7_2) ((congrArg (fun q : Nat => (q : Int)) (eN7 3)).trans em7_2) (y7_0_1) (((eF7 2 1).trans ey7_0_1)) (show inr (((a3 - a2) - 12)) from q_3481 b5 h4) (show 0 ≤ (y7_0_1) ∧ (y7_0_1) ≤ (m7_2) ∧ (m7_2) ≤ 65536 from pz7_0) (show -4 ≤ (((a3 - a2) - 12)) ∧ (((a3 - a2) - 12)) ≤ 65536 by first | exact q_3484 b5 h4 | omega) (show (((a3 - a2) - 12)) < 0 ∨ (y7_0_1) = (((a3 - a2) - 12)) by first | exact q_3483 b5 h3 h4 pz7_0 pz7_1 | omega))
      · refine Ew_of (pcₚ := 25) (fun _ => x_aload_n rfl l18_0) ?_
        refine v_g H (o := 0) (v := .ref (D 4)) rfl rfl rfl rfl rfl (vrf ((mF_18 0 1 rfl).trans (pf4))) ?_
        refine v_g H (o := 4) (v := .ref (D 5)) rfl rfl rfl rfl rfl (vrf ((mF_18 4 2 rfl).trans (pf5))) ?_
        refine Ew_of (pcₚ := 33) (fun _ => x_iload rfl l18_5) ?_
        refine Ew_of (pcₚ := 34) (fun _ => x_aload_n rfl l18_1) ?_
        refine Ew_of (pcₚ := 35) (fun _ => x_iload_n rfl l18_2) ?_
        refine Ew_of (pcₚ := 36) (fun _ => x_iconst rfl) ?_
        refine Ew_of (pcₚ := 38) (fun _ => x_iload rfl l18_5) ?_
        refine w_imul rfl ?_
        refine w_iadd rfl ?_
        refine Ew_of (pcₚ := 41) (fun _ => x_iconst rfl) ?_
        refine w_stat25 rfl rfl (by rfl) (C42_Br (D := puc 1 D) (N := puc 1 N) (HW_subc H oz_G1cls_14 oz_G1cls_19) (n1) (en1) (show inr ((a2 + (4 * x18_5))) from q_3486 b6 h4 j18_1) (show inr (4) from q_2) (show (4) ≤ 0 ∨ 0 ≤ ((a2 + (4 * x18_5))) ∧ ((a2 + (4 * x18_5))) + (4) ≤ (n1) from q_3485 b5 b6 h4 j18_1) (show 0 ≤ (4) from q_2565) (fun z10 σ10 F10ₚ A10ₚ Hₚ Oₚ hS10 hA10 pz10_0 pz10_1 => ⟨rfl, ?_⟩))
        refine v_backc (c := c) (s := s) H oz_G1cls_14 oz_G1cls_19 Hₚ Oₚ (fun F10 A10 H Oₚ eF10 eA10 => ?_)
        have O := OUT_trans O Oₚ
        -- PackHouse.number
        have cF10 : SF oz_G1clsl_6 F F10 := SF_trans (cF_18) (SF_gluc (ι := oz_G1clsl_10) oz_G1cls_19 hS10 eF10 (by decide +kernel)) (any_sub (lₚ := []) (by decide +kernel))
        have mF10 := SFm_of cF10 oz_G1cls_15
        have cA10 : SA oz_G1clsl_7 A A10 := SA_trans (cA_18) (SA_gluc (ι := oz_G1clsl_10) oz_G1cls_19 hA10 eA10 (by decide +kernel)) (any_subA (lₚ := []) (by decide +kernel))
        have mA10 := SAm_of cA10 oz_G1cls_16
        refine v_sJ H (o := 5) (z := z10) rfl rfl rfl rfl (n := n5) (en5) (show 0 ≤ x18_5 ∧ x18_5 < n5 from q_3487 b6 h5 j18_1) (show inrJ (z10) from pz10_0) (fun σ H Oₚ => ?_)
        have O := OUT_trans O Oₚ
        have cAu11 : SA oz_G1clsl_7 A (updA A10 5 (x18_5) (z10)) := SA_upd (cA10) rfl
        have mAu11 := SAm_of cAu11 oz_G1cls_16
        refine Ew_of (pcₚ := 46) (fun _ => x_aload_n rfl l18_0) ?_
        refine v_g H (o := 0) (v := .ref (D 4)) rfl rfl rfl rfl rfl (vrf ((mF10 0 1 rfl).trans (pf4))) ?_
        refine v_g H (o := 4) (v := .ref (D 5)) rfl rfl rfl rfl rfl (vrf ((mF10 4 2 rfl).trans (pf5))) ?_
        refine Ew_of (pcₚ := 54) (fun _ => x_iload rfl l18_5) ?_
        refine v_lJ H (o := 5) rfl rfl rfl rfl (n := n5) (en5) (show 0 ≤ x18_5 ∧ x18_5 < n5 from q_3487 b6 h5 j18_1) (fun v12 ev12 qv12 => ?_)
        have ev12 : (upd1 (A_18 5) (x18_5) (z10)) (x18_5) = v12 := (congrFun (congrArg (fun q => upd1 q (x18_5) (z10)) ((show A10 5 = A_18 5 from (eA10 5)))) (x18_5)).symm.trans ev12
        refine Ew_of (pcₚ := 56) (fun _ => x_lconst (z := 0) rfl (by decide)) ?_
        refine w_lcmp rfl (show inrJ (v12) from qv12) (show inrJ (0) from q_81) (fun z13 gz13 gaz13 gbz13 => ?_)
        refine w_ifeq (t := 77) rfl rfl (show inr (z13) from gz13) (fun b14 => ?_) (fun b14 => ?_)
        · refine Ew_of (pcₚ := 79) (fun _ => x_bipush (z := -4) rfl (by decide)) ?_
          exact w_ireturn rfl (k ((-4)) _ _ _ _ _ _ _ H O (SD_refl) (SD_refl) (cF10) (cAu11) (((((show F10 2 0 = F_18 2 0 from (eF10 2 0))).trans (hS_18 2 0 rfl))).trans (pf3)) (n3) (en3) (u2_1) (((((show F10 2 1 = F_18 2 1 from (eF10 2 1))).trans (hS_18 2 1 rfl)).trans (eu2_1))) (show inr ((-4)) from q_318) (show 0 ≤ (u2_1) ∧ (u2_1) ≤ (n3) ∧ (n3) ≤ 65536 from h2) (show -4 ≤ ((-4)) ∧ ((-4)) ≤ 65536 by first | exact q_3489 | omega) (show ((-4)) < 0 ∨ (u2_1) = ((-4)) by first | exact q_3488 | omega))
        · refine Ew_of (pcₚ := 61) (fun _ => x_aload_n rfl l18_0) ?_
          refine v_g H (o := 0) (v := .ref (D 4)) rfl rfl rfl rfl rfl (vrf ((mF10 0 1 rfl).trans (pf4))) ?_
          refine v_g H (o := 4) (v := .ref (D 5)) rfl rfl rfl rfl rfl (vrf ((mF10 4 2 rfl).trans (pf5))) ?_
          refine Ew_of (pcₚ := 69) (fun _ => x_iload rfl l18_5) ?_
          refine v_lJ H (o := 5) rfl rfl rfl rfl (n := n5) (en5) (show 0 ≤ x18_5 ∧ x18_5 < n5 from q_3487 b6 h5 j18_1) (fun v15 ev15 qv15 => ?_)
          have ev15 : (upd1 (A_18 5) (x18_5) (z10)) (x18_5) = v15 := (congrFun (congrArg (fun q => upd1 q (x18_5) (z10)) ((show A10 5 = A_18 5 from (eA10 5)))) (x18_5)).symm.trans ev15
          refine Ew_of (pcₚ := 72) (fun _ => x_iload rfl l18_4) ?_
          refine w_i2l rfl (show inr (((a3 - a2) - 12)) from q_3481 b5 h4) ?_
          refine w_lcmp rfl (show inrJ (v15) from qv15) (show inrJ (((a3 - a2) - 12)) from q_3490 b5 h4) (fun z16 gz16 gaz16 gbz16 => ?_)
          refine w_ifle (t := 80) rfl rfl (show inr (z16) from gz16) (fun b17 => ?_) (fun b17 => ?_)
          · refine Ew_of (pcₚ := 83) (fun _ => x_iinc (len := 3) rfl (l18_5)) ?_
            refine Ew_of (pcₚ := 18) (fun _ => x_goto rfl rfl) ?_
            exact ih18 _ (msE hm18 q_595 (q_596 b6)) _ _ _ _ ((x18_5 + 1)) (rk_o (l18_0) rfl rfl) (rk_o (l18_1) rfl rfl) (rk_o (l18_2) rfl rfl) (rk_o (l18_4) rfl rfl) (rk_s) H O (SF_trans (hS_18) (SF_gluc (ι := oz_G1clsl_10) oz_G1cls_19 hS10 eF10 (by decide +kernel)) (any_sub (lₚ := []) (by decide +kernel))) (SA_upd (SA_trans (hA_18) (SA_gluc (ι := oz_G1clsl_10) oz_G1cls_19 hA10 eA10 (by decide +kernel)) (any_subA (lₚ := []) (by decide +kernel))) rfl)     (show inr ((x18_5 + 1)) from q_1542 b6 j18_1) (show (0) ≤ ((x18_5 + 1)) from q_29 j18_1) (show ((x18_5 + 1)) ≤ (0) ∨ ((x18_5 + 1)) ≤ (3) from q_1541 b6) rfl
          · refine Ew_of (pcₚ := 79) (fun _ => x_bipush (z := -4) rfl (by decide)) ?_
            exact w_ireturn rfl (k ((-4)) _ _ _ _ _ _ _ H O (SD_refl) (SD_refl) (cF10) (cAu11) (((((show F10 2 0 = F_18 2 0 from (eF10 2 0))).trans (hS_18 2 0 rfl))).trans (pf3)) (n3) (en3) (u2_1) (((((show F10 2 1 = F_18 2 1 from (eF10 2 1))).trans (hS_18 2 1 rfl)).trans (eu2_1))) (show inr ((-4)) from q_318) (show 0 ≤ (u2_1) ∧ (u2_1) ≤ (n3) ∧ (n3) ≤ 65536 from h2) (show -4 ≤ ((-4)) ∧ ((-4)) ≤ 65536 by first | exact q_3489 | omega) (show ((-4)) < 0 ∨ (u2_1) = ((-4)) by first | exact q_3488 | omega))
  · refine Ew_of (pcₚ := 14) (fun _ => x_iconst rfl) ?_
    exact w_ireturn rfl (k ((-1)) _ _ _ _ _ _ _ H O (SD_refl) (SD_refl) (SF_refl) (SA_refl) (pf3) (n3) (en3) (u2_1) ((eu2_1)) (show inr ((-1)) from q_16) (show 0 ≤ (u2_1) ∧ (u2_1) ≤ (n3) ∧ (n3) ≤ 65536 from h2) (show -4 ≤ ((-1)) ∧ ((-1)) ≤ 65536 by first | exact q_3492 | omega) (show ((-1)) < 0 ∨ (u2_1) = ((-1)) by first | exact q_3491 | omega))
