section
/-! G1.cls -/
abbrev V186 : vV := [(0, 9, [(4, 0), (4, 0), (4, 0)]), (1, 5, []), (1, 2, [])]
theorem len_V186_oz_G1cls : (V186).length = 3 := by decide +kernel
def oz_G1clsl_0 : List (Nat × Nat) := [(0, 0)]
theorem oz_G1cls_1 : (oz_G1clsl_0).all (fun p => !tbz 1 (Nat.add (Nat.mul 32 p.1) p.2)) = true := by decide +kernel
def oz_G1clsl_1 : List Nat := [1, 2]
theorem oz_G1cls_2 : (oz_G1clsl_1).all (fun p => !tbz 6 p) = true := by decide +kernel

theorem C186 {σE : rS} {D N : Nat → Nat} {F : hF} {A : hA} {d c s : Nat} {Q : wQ} (H : HW V186 σE D N F A)  (pf1 : F 0 1 = (D 1 : Int)) (pf2 : F 0 2 = (D 2 : Int)) (n1 : Int) (en1 : (N 1 : Int) = n1) (n2 : Int) (en2 : (N 2 : Int) = n2) (u0_0 : Int) (eu0_0 : F 0 0 = u0_0) (w1 : Int → Int) (ew1 : A 1 = w1) (w2 : Int → Int) (ew2 : A 2 = w2) (h0 : (n1) = 3 ∧ (n2) = 3) (k : ∀ (σ : rS) (Fₚ : hF) (Aₚ : hA), HW V186 σ D N Fₚ Aₚ → OUT (V186).length D N σE c s D N σ c s → SF [(0, 0)] F Fₚ → SA [1, 2] A Aₚ → ∀ y0_0 : Int, Fₚ 0 0 = y0_0 → ∀ v1 : Int → Int, Aₚ 1 = v1 → ∀ v2 : Int → Int, Aₚ 2 = v2 → ((y0_0) = -1) → (((v1)) 0 = -1 ∧ ((v1)) 1 = -1 ∧ ((v1)) 2 = -1) → (((v2)) 0 = 1 ∧ ((v2)) 1 = 4 ∧ ((v2)) 2 = 8) → Q none σ c s) : Ew 186 (d + 0) 0 (rargs 0 [.ref (D 0)]) [] σE c s Q := by
  have O := OUT_refl (n := (V186).length) (D := D) (N := N) (σ := σE) (c := c) (s := s)
  have HE := H
  have r1 : (0 : Int) ≤ n1 ∧ n1 ≤ 1000000 := nleE (H.nle 1 (ltn len_V186_oz_G1cls rfl)) (show (N 1 : Int) = n1 from en1)
  have r2 : (0 : Int) ≤ n2 ∧ n2 ≤ 1000000 := nleE (H.nle 2 (ltn len_V186_oz_G1cls rfl)) (show (N 2 : Int) = n2 from en2)
  refine Ew_of (pcₚ := 1) (fun _ => x_aload_n rfl rfl) ?_
  refine v_null rfl ?_
  refine v_p H (o := 0) (z := -1) (v := .null) rfl rfl rfl rfl rfl rfl rfl rfl (show (-1 : Int) ≤ -1 from q_2231) (fun σ H Oₚ => ?_)
  have O := OUT_trans O Oₚ
  have cFu3 : SF oz_G1clsl_0 F (updF F 0 0 (-1)) := SF_upd (SF_refl) rfl
  have mFu3 := SFm_of cFu3 oz_G1cls_1
  refine Ew_of (pcₚ := 6) (fun _ => x_iconst rfl) ?_
  refine Ew_of (pcₚ := 7) (fun _ => x_istore_n rfl) ?_
  have h0 : ∀ i, 0 ≤ i → i < 0 → ((w1)) i = -1 := fun i a b => by omega
  suffices hl7 : ∀ (m : Nat), ∀ (ls : rO) (σ : rS) (F_7 : hF) (A_7 : hA) (x7_1 : Int), rlook ls 0 = some (.ref (D 0)) → rlook ls 1 = some (I (x7_1)) → HW V186 σ D N F_7 A_7 → OUT (V186).length D N σE c s D N σ c s → SF [] (updF F 0 0 (-1)) F_7 → SA [1] A A_7 → ∀ w7_1 : Int → Int, A_7 1 = w7_1 → (inr (x7_1)) → ((0) ≤ (x7_1)) → ((x7_1) ≤ (0) ∨ (x7_1) ≤ (3)) → (∀ i, 0 ≤ i → i < (x7_1) → ((w7_1)) i = -1) → (((-1)) = -1) → ((3) - (x7_1)).toNat = m → Ew 186 (d + 0) 7 ls [] σ c s Q from
    hl7 _ _ _ _ _ (0) (rk_o (rfl) rfl rfl) (rk_s) H O (SF_refl) (SA_refl)    (w1) (ew1) (show inr (0) from q_2) (show (0) ≤ (0) from q_1) (show (0) ≤ (0) ∨ (0) ≤ (3) from q_1793) (h0) (show ((-1)) = -1 from q_3830) rfl
  as_aux_lemma =>
  intro m
  induction m using Nat.strongRecOn with
  | _ m ih7 =>
    intro ls σ F_7 A_7 x7_1 l7_0 l7_1 H O hS_7 hA_7    w7_1 ew7_1 j7_0 j7_1 j7_2 j7_3 j7_4 hm7
    have cF_7 : SF oz_G1clsl_0 F F_7 := SF_trans (cFu3) hS_7 (any_sub (by decide +kernel))
    have mF_7 := SFm_of cF_7 oz_G1cls_1
    have cA_7 : SA oz_G1clsl_1 A A_7 := SA_trans (SA_refl) hA_7 (any_subA (by decide +kernel))
    have mA_7 := SAm_of cA_7 oz_G1cls_2
    have hnu : ∀ i, 0 ≤ i → i < (x7_1) → ((w7_1)) i = -1 := by assumption
    refine Ew_of (pcₚ := 8) (fun _ => x_iload_n rfl l7_1) ?_
    refine Ew_of (pcₚ := 9) (fun _ => x_iconst rfl) ?_
    refine w_icmpge (t := 25) rfl rfl (show inr (x7_1) from j7_0) (show inr (3) from q_246) (fun b4 => ?_) (fun b4 => ?_)
    · have hl1 : (x7_1) = 3 := q_3831 b4 j7_2
      have q0 := hnu 0 (by omega) (by omega)
      have q1 := hnu 1 (by omega) (by omega)
      have q2 := hnu 2 (by omega) (by omega)
      refine Ew_of (pcₚ := 26) (fun _ => x_aload_n rfl l7_0) ?_
      refine v_g H (o := 0) (v := .ref (D 2)) rfl rfl rfl rfl rfl (vrf ((mF_7 0 2 rfl).trans (pf2))) ?_
      refine Ew_of (pcₚ := 30) (fun _ => x_iconst rfl) ?_
      refine Ew_of (pcₚ := 31) (fun _ => x_lconst (z := 1) rfl (by decide)) ?_
      refine v_sJ H (o := 2) (z := 1) rfl rfl rfl rfl (n := n2) (en2) (show 0 ≤ 0 ∧ 0 < n2 by omega) (show inrJ (1) from q_1587) (fun σ H Oₚ => ?_)
      have O := OUT_trans O Oₚ
      have cAu5 : SA oz_G1clsl_1 A (updA A_7 2 (0) (1)) := SA_upd (cA_7) rfl
      have mAu5 := SAm_of cAu5 oz_G1cls_2
      refine Ew_of (pcₚ := 33) (fun _ => x_aload_n rfl l7_0) ?_
      refine v_g H (o := 0) (v := .ref (D 2)) rfl rfl rfl rfl rfl (vrf ((mF_7 0 2 rfl).trans (pf2))) ?_
      refine Ew_of (pcₚ := 37) (fun _ => x_iconst rfl) ?_
      refine Ew_of (pcₚ := 40) (fun _ => x_ldc2 (z := 4) rfl (by decide)) ?_
      refine v_sJ H (o := 2) (z := 4) rfl rfl rfl rfl (n := n2) (en2) (show 0 ≤ 1 ∧ 1 < n2 by omega) (show inrJ (4) from q_2873) (fun σ H Oₚ => ?_)
      have O := OUT_trans O Oₚ
      have cAu6 : SA oz_G1clsl_1 A (updA (updA A_7 2 (0) (1)) 2 (1) (4)) := SA_upd (cAu5) rfl
      have mAu6 := SAm_of cAu6 oz_G1cls_2
      refine Ew_of (pcₚ := 42) (fun _ => x_aload_n rfl l7_0) ?_
      refine v_g H (o := 0) (v := .ref (D 2)) rfl rfl rfl rfl rfl (vrf ((mF_7 0 2 rfl).trans (pf2))) ?_
      refine Ew_of (pcₚ := 46) (fun _ => x_iconst rfl) ?_
      refine Ew_of (pcₚ := 49) (fun _ => x_ldc2 (z := 8) rfl (by decide)) ?_
      refine v_sJ H (o := 2) (z := 8) rfl rfl rfl rfl (n := n2) (en2) (show 0 ≤ 2 ∧ 2 < n2 by omega) (show inrJ (8) from q_2874) (fun σ H Oₚ => ?_)
      have O := OUT_trans O Oₚ
      have cAu7 : SA oz_G1clsl_1 A (updA (updA (updA A_7 2 (0) (1)) 2 (1) (4)) 2 (2) (8)) := SA_upd (cAu6) rfl
      have mAu7 := SAm_of cAu7 oz_G1cls_2
      have hla : ((upd1 (upd1 (upd1 (w2) (0) (1)) (1) (4)) (2) (8))) 0 = 1 ∧ ((upd1 (upd1 (upd1 (w2) (0) (1)) (1) (4)) (2) (8))) 1 = 4 ∧ ((upd1 (upd1 (upd1 (w2) (0) (1)) (1) (4)) (2) (8))) 2 = 8 := ⟨by rw [upd1_o (by decide), upd1_o (by decide), upd1_s], by rw [upd1_o (by decide), upd1_s], upd1_s⟩
      exact w_ret rfl (k _ _ _ H O (cF_7) (cAu7) ((-1)) ((hS_7 0 0 rfl)) (w7_1) (ew7_1) (upd1 (upd1 (upd1 (w2) (0) (1)) (1) (4)) (2) (8)) (congrArg (fun q => upd1 q (2) (8)) (congrArg (fun q => upd1 q (1) (4)) (congrArg (fun q => upd1 q (0) (1)) ((funext (hA_7 2 rfl)).trans (ew2))))) (show ((-1)) = -1 by first | exact q_3830 | omega) (show ((w7_1)) 0 = -1 ∧ ((w7_1)) 1 = -1 ∧ ((w7_1)) 2 = -1 by omega) (show ((upd1 (upd1 (upd1 (w2) (0) (1)) (1) (4)) (2) (8))) 0 = 1 ∧ ((upd1 (upd1 (upd1 (w2) (0) (1)) (1) (4)) (2) (8))) 1 = 4 ∧ ((upd1 (upd1 (upd1 (w2) (0) (1)) (1) (4)) (2) (8))) 2 = 8 from hla))
    · refine Ew_of (pcₚ := 13) (fun _ => x_aload_n rfl l7_0) ?_
      refine v_g H (o := 0) (v := .ref (D 1)) rfl rfl rfl rfl rfl (vrf ((mF_7 0 1 rfl).trans (pf1))) ?_
      refine Ew_of (pcₚ := 17) (fun _ => x_iload_n rfl l7_1) ?_
      refine v_null rfl ?_
      refine v_sR H (o := 1) (z := (-1)) (v := .null) rfl rfl rfl rfl rfl (n := n1) (en1) (show 0 ≤ x7_1 ∧ x7_1 < n1 by omega) (show (-1 : Int) ≤ (-1) from q_2231) (rfl) (rkinN) (fun σ H Oₚ => ?_)
      have O := OUT_trans O Oₚ
      have cAu8 : SA oz_G1clsl_1 A (updA A_7 1 (x7_1) ((-1))) := SA_upd (cA_7) rfl
      have mAu8 := SAm_of cAu8 oz_G1cls_2
      refine Ew_of (pcₚ := 22) (fun _ => x_iinc (len := 3) rfl (l7_1)) ?_
      refine Ew_of (pcₚ := 7) (fun _ => x_goto rfl rfl) ?_
      have hn1 : ∀ i, 0 ≤ i → i < ((x7_1 + 1)) → ((upd1 (w7_1) (x7_1) ((-1)))) i = -1 := NU_s hnu rfl
      exact ih7 _ (msE hm7 q_813 (q_814 b4)) _ _ _ _ ((x7_1 + 1)) (rk_o (l7_0) rfl rfl) (rk_s) H O (hS_7) (SA_upd (hA_7) rfl)    (upd1 (w7_1) (x7_1) ((-1))) (congrArg (fun q => upd1 q (x7_1) ((-1))) (ew7_1)) (show inr ((x7_1 + 1)) from q_1804 b4 j7_1) (show (0) ≤ ((x7_1 + 1)) from q_14 j7_1) (show ((x7_1 + 1)) ≤ (0) ∨ ((x7_1 + 1)) ≤ (3) from q_1803 b4) (hn1) (show ((-1)) = -1 from q_3830) rfl
abbrev V187_Stand : vV := [(0, 9, [(4, 0), (4, 0), (4, 0)]), (0, 9, [(4, 0), (4, 0), (4, 0)]), (1, 5, []), (1, 2, []), (1, 5, []), (1, 2, [])]
theorem len_V187_Stand_oz_G1cls : (V187_Stand).length = 6 := by decide +kernel
def oz_G1clsl_2 : List Nat := [2, 3]
theorem oz_G1cls_4 : (oz_G1clsl_2).all (fun p => !tbz 12 p) = true := by decide +kernel

theorem C187_Stand {σE : rS} {D N : Nat → Nat} {F : hF} {A : hA} {d c s : Nat} {Q : wQ} (H : HW V187_Stand σE D N F A)  (pf2 : F 0 1 = (D 2 : Int)) (pf3 : F 0 2 = (D 3 : Int)) (pf4 : F 1 1 = (D 4 : Int)) (pf5 : F 1 2 = (D 5 : Int)) (n2 : Int) (en2 : (N 2 : Int) = n2) (n3 : Int) (en3 : (N 3 : Int) = n3) (n4 : Int) (en4 : (N 4 : Int) = n4) (n5 : Int) (en5 : (N 5 : Int) = n5) (u0_0 : Int) (eu0_0 : F 0 0 = u0_0) (u1_0 : Int) (eu1_0 : F 1 0 = u1_0) (w2 : Int → Int) (ew2 : A 2 = w2) (w3 : Int → Int) (ew3 : A 3 = w3) (w4 : Int → Int) (ew4 : A 4 = w4) (w5 : Int → Int) (ew5 : A 5 = w5) (hk4 : ∀ i, 0 ≤ i → i < 3 → rkin PP.2.2.2.2.2.1 σE 5 (if (w4 i) < 0 then Value.null else .ref ((w4 i)).toNat) = true) (h0 : (n2) = 3 ∧ (n3) = 3) (h1 : (n4) = 3 ∧ (n5) = 3) (k : ∀ (σ : rS) (Fₚ : hF) (Aₚ : hA), HW V187_Stand σ D N Fₚ Aₚ → OUT (V187_Stand).length D N σE c s D N σ c s → SF [(0, 0)] F Fₚ → SA [2, 3] A Aₚ → ∀ y0_0 : Int, Fₚ 0 0 = y0_0 → ∀ v2 : Int → Int, Aₚ 2 = v2 → ∀ v3 : Int → Int, Aₚ 3 = v3 → ((y0_0) = (u1_0)) → (((v2)) 0 = ((w4)) 0) → (((v2)) 1 = ((w4)) 1) → (((v2)) 2 = ((w4)) 2) → (((v3)) 0 = ((w5)) 0) → (((v3)) 1 = ((w5)) 1) → (((v3)) 2 = ((w5)) 2) → Q none σ c s) : Ew 187 (d + 0) 0 (rargs 0 [.ref (D 0), .ref (D 1)]) [] σE c s Q := by
  have O := OUT_refl (n := (V187_Stand).length) (D := D) (N := N) (σ := σE) (c := c) (s := s)
  have HE := H
  have r1 : (0 : Int) ≤ n2 ∧ n2 ≤ 1000000 := nleE (H.nle 2 (ltn len_V187_Stand_oz_G1cls rfl)) (show (N 2 : Int) = n2 from en2)
  have r2 : (0 : Int) ≤ n3 ∧ n3 ≤ 1000000 := nleE (H.nle 3 (ltn len_V187_Stand_oz_G1cls rfl)) (show (N 3 : Int) = n3 from en3)
  have r3 : (0 : Int) ≤ n4 ∧ n4 ≤ 1000000 := nleE (H.nle 4 (ltn len_V187_Stand_oz_G1cls rfl)) (show (N 4 : Int) = n4 from en4)
  have r4 : (0 : Int) ≤ n5 ∧ n5 ≤ 1000000 := nleE (H.nle 5 (ltn len_V187_Stand_oz_G1cls rfl)) (show (N 5 : Int) = n5 from en5)
  refine Ew_of (pcₚ := 1) (fun _ => x_aload_n rfl rfl) ?_
  refine Ew_of (pcₚ := 2) (fun _ => x_aload_n rfl rfl) ?_
  have r5 : (-1 : Int) ≤ u1_0 := Int.le_trans (show (-1 : Int) ≤ F 1 0 from H.krg 1 0 (ltn len_V187_Stand_oz_G1cls rfl)) (Int.le_of_eq (show F 1 0 = u1_0 from (eu1_0)))
  refine v_g H (o := 1) (v := (if u1_0 < 0 then Value.null else .ref (u1_0).toNat)) rfl rfl rfl rfl rfl (congrArg (fun z : Int => if z < 0 then Value.null else .ref z.toNat) (show F 1 0 = u1_0 from (eu1_0))) ?_
  refine v_p H (o := 0) (z := u1_0) (v := (if u1_0 < 0 then Value.null else .ref (u1_0).toNat)) rfl rfl rfl rfl rfl rfl rfl (rfitP rfl (fun _ => rfl)) (show (-1 : Int) ≤ u1_0 from r5) (fun σ H Oₚ => ?_)
  have O := OUT_trans O Oₚ
  have cFu6 : SF oz_G1clsl_0 F (updF F 0 0 (u1_0)) := SF_upd (SF_refl) rfl
  have mFu6 := SFm_of cFu6 oz_G1cls_1
  refine Ew_of (pcₚ := 9) (fun _ => x_iconst rfl) ?_
  refine Ew_of (pcₚ := 10) (fun _ => x_istore_n rfl) ?_
  have h0 : SM3 ((w2)) ((w4)) 0 := fun i a b => by omega
  have h0l : SM3 ((w3)) ((w5)) 0 := fun i a b => by omega
  suffices hl10 : ∀ (m : Nat), ∀ (ls : rO) (σ : rS) (F_10 : hF) (A_10 : hA) (x10_2 : Int), rlook ls 0 = some (.ref (D 0)) → rlook ls 1 = some (.ref (D 1)) → rlook ls 2 = some (I (x10_2)) → HW V187_Stand σ D N F_10 A_10 → OUT (V187_Stand).length D N σE c s D N σ c s → SF [] (updF F 0 0 (u1_0)) F_10 → SA [2, 3] A A_10 → ∀ w10_2 : Int → Int, A_10 2 = w10_2 → ∀ w10_3 : Int → Int, A_10 3 = w10_3 → (inr (x10_2)) → ((0) ≤ (x10_2)) → ((x10_2) ≤ (0) ∨ (x10_2) ≤ (3)) → (SM3 ((w10_2)) ((w4)) (x10_2)) → (SM3 ((w10_3)) ((w5)) (x10_2)) → ((u1_0) = (u1_0)) → ((3) - (x10_2)).toNat = m → Ew 187 (d + 0) 10 ls [] σ c s Q from
    hl10 _ _ _ _ _ (0) (rk_o (rfl) rfl rfl) (rk_o (rfl) rfl rfl) (rk_s) H O (SF_refl) (SA_refl)    (w2) (ew2) (w3) (ew3) (show inr (0) from q_2) (show (0) ≤ (0) from q_1) (show (0) ≤ (0) ∨ (0) ≤ (3) from q_1793) (h0) (show SM3 ((w3)) ((w5)) (0) by assumption) (show (u1_0) = (u1_0) from q_303) rfl
  as_aux_lemma =>
  intro m
  induction m using Nat.strongRecOn with
  | _ m ih10 =>
    intro ls σ F_10 A_10 x10_2 l10_0 l10_1 l10_2 H O hS_10 hA_10    w10_2 ew10_2 w10_3 ew10_3 j10_0 j10_1 j10_2 j10_3 j10_4 j10_5 hm10
    have cF_10 : SF oz_G1clsl_0 F F_10 := SF_trans (cFu6) hS_10 (any_sub (by decide +kernel))
    have mF_10 := SFm_of cF_10 oz_G1cls_1
    have cA_10 : SA oz_G1clsl_2 A A_10 := SA_trans (SA_refl) hA_10 (any_subA (by decide +kernel))
    have mA_10 := SAm_of cA_10 oz_G1cls_4
    refine Ew_of (pcₚ := 11) (fun _ => x_iload_n rfl l10_2) ?_
    refine Ew_of (pcₚ := 12) (fun _ => x_iconst rfl) ?_
    refine w_icmpge (t := 45) rfl rfl (show inr (x10_2) from j10_0) (show inr (3) from q_246) (fun b7 => ?_) (fun b7 => ?_)
    · have hsm : SM3 ((w10_2)) ((w4)) (x10_2) := j10_3
      have q0 := hsm 0 (by omega) (by omega)
      have q1 := hsm 1 (by omega) (by omega)
      have q2 := hsm 2 (by omega) (by omega)
      have hsl_ : SM3 ((w10_3)) ((w5)) (x10_2) := j10_4
      have u0 := hsl_ 0 (by omega) (by omega)
      have u1 := hsl_ 1 (by omega) (by omega)
      have u2 := hsl_ 2 (by omega) (by omega)
      exact w_ret rfl (k _ _ _ H O (cF_10) (cA_10) (u1_0) ((hS_10 0 0 rfl)) (w10_2) (ew10_2) (w10_3) (ew10_3) (show (u1_0) = (u1_0) from j10_5) (show ((w10_2)) 0 = ((w4)) 0 by omega) (show ((w10_2)) 1 = ((w4)) 1 by omega) (show ((w10_2)) 2 = ((w4)) 2 by omega) (show ((w10_3)) 0 = ((w5)) 0 by omega) (show ((w10_3)) 1 = ((w5)) 1 by omega) (show ((w10_3)) 2 = ((w5)) 2 by omega))
    · refine Ew_of (pcₚ := 16) (fun _ => x_aload_n rfl l10_0) ?_
      refine v_g H (o := 0) (v := .ref (D 2)) rfl rfl rfl rfl rfl (vrf ((mF_10 0 1 rfl).trans (pf2))) ?_
      refine Ew_of (pcₚ := 20) (fun _ => x_iload_n rfl l10_2) ?_
      refine Ew_of (pcₚ := 21) (fun _ => x_aload_n rfl l10_1) ?_
      refine v_g H (o := 1) (v := .ref (D 4)) rfl rfl rfl rfl rfl (vrf ((mF_10 1 1 rfl).trans (pf4))) ?_
      refine Ew_of (pcₚ := 25) (fun _ => x_iload_n rfl l10_2) ?_
      have r8 : (-1 : Int) ≤ (w4) (x10_2) := by have h1 : (-1 : Int) ≤ A_10 4 (x10_2) := H.arg 4 (x10_2) (by decide) rfl; rw [show A_10 4 (x10_2) = (w4) (x10_2) from (congrFun ((funext (mA_10 4 rfl)).trans (ew4)) (x10_2))] at h1; exact h1
      refine v_lR H (o := 4) rfl rfl rfl rfl rfl (n := n4) (en4) (show 0 ≤ x10_2 ∧ x10_2 < n4 from q_3832 b7 h1 j10_1) (z := (w4) (x10_2)) (v := (if (w4) (x10_2) < 0 then Value.null else .ref ((w4) (x10_2)).toNat)) (show A_10 4 (x10_2) = (w4) (x10_2) from (congrFun ((funext (mA_10 4 rfl)).trans (ew4)) (x10_2))) (rfl) ?_
      refine v_sR H (o := 2) (z := (w4) (x10_2)) (v := (if (w4) (x10_2) < 0 then Value.null else .ref ((w4) (x10_2)).toNat)) rfl rfl rfl rfl rfl (n := n2) (en2) (show 0 ≤ x10_2 ∧ x10_2 < n2 by omega) (show (-1 : Int) ≤ (w4) (x10_2) from r8) (rfl) (rkin_out HE H O (hk4 (x10_2) (by omega) (by omega))) (fun σ H Oₚ => ?_)
      have O := OUT_trans O Oₚ
      have cAu9 : SA oz_G1clsl_2 A (updA A_10 2 (x10_2) ((w4) (x10_2))) := SA_upd (cA_10) rfl
      have mAu9 := SAm_of cAu9 oz_G1cls_4
      refine Ew_of (pcₚ := 28) (fun _ => x_aload_n rfl l10_0) ?_
      refine v_g H (o := 0) (v := .ref (D 3)) rfl rfl rfl rfl rfl (vrf ((mF_10 0 2 rfl).trans (pf3))) ?_
      refine Ew_of (pcₚ := 32) (fun _ => x_iload_n rfl l10_2) ?_
      refine Ew_of (pcₚ := 33) (fun _ => x_aload_n rfl l10_1) ?_
      refine v_g H (o := 1) (v := .ref (D 5)) rfl rfl rfl rfl rfl (vrf ((mF_10 1 2 rfl).trans (pf5))) ?_
      refine Ew_of (pcₚ := 37) (fun _ => x_iload_n rfl l10_2) ?_
      refine v_lJ H (o := 5) rfl rfl rfl rfl (n := n5) (en5) (show 0 ≤ x10_2 ∧ x10_2 < n5 from q_3833 b7 h1 j10_1) (fun v10 ev10 qv10 => ?_)
      have ev10 : (w5) (x10_2) = v10 := (congrFun ((funext (mAu9 5 rfl)).trans (ew5)) (x10_2)).symm.trans ev10
      have hvl := ev10
      refine v_sJ H (o := 3) (z := v10) rfl rfl rfl rfl (n := n3) (en3) (show 0 ≤ x10_2 ∧ x10_2 < n3 by omega) (show inrJ (v10) from qv10) (fun σ H Oₚ => ?_)
      have O := OUT_trans O Oₚ
      have cAu11 : SA oz_G1clsl_2 A (updA (updA A_10 2 (x10_2) ((w4) (x10_2))) 3 (x10_2) (v10)) := SA_upd (cAu9) rfl
      have mAu11 := SAm_of cAu11 oz_G1cls_4
      refine Ew_of (pcₚ := 42) (fun _ => x_iinc (len := 3) rfl (l10_2)) ?_
      refine Ew_of (pcₚ := 10) (fun _ => x_goto rfl rfl) ?_
      have h1 : SM3 ((upd1 (w10_2) (x10_2) ((w4) (x10_2)))) ((w4)) ((x10_2 + 1)) := SM3_s (by assumption) rfl rfl
      have h1l : SM3 ((upd1 (w10_3) (x10_2) (v10))) ((w5)) ((x10_2 + 1)) := SM3_s (by assumption) rfl (by exact hvl.symm)
      exact ih10 _ (msE hm10 q_813 (q_814 b7)) _ _ _ _ ((x10_2 + 1)) (rk_o (l10_0) rfl rfl) (rk_o (l10_1) rfl rfl) (rk_s) H O (hS_10) (SA_upd (SA_upd (hA_10) rfl) rfl)    (upd1 (w10_2) (x10_2) ((w4) (x10_2))) (congrArg (fun q => upd1 q (x10_2) ((w4) (x10_2))) (ew10_2)) (upd1 (w10_3) (x10_2) (v10)) (congrArg (fun q => upd1 q (x10_2) (v10)) (ew10_3)) (show inr ((x10_2 + 1)) from q_1804 b7 j10_1) (show (0) ≤ ((x10_2 + 1)) from q_14 j10_1) (show ((x10_2 + 1)) ≤ (0) ∨ ((x10_2 + 1)) ≤ (3) from q_1803 b7) (h1) (show SM3 ((upd1 (w10_3) (x10_2) (v10))) ((w5)) ((x10_2 + 1)) by assumption) (show (u1_0) = (u1_0) from j10_5) rfl
abbrev V114 : vV := [(0, 4, [(4, 0), (4, 0), (0, 0), (4, 0), (4, 0)]), (0, 9, [(4, 0), (4, 0), (4, 0)]), (1, 5, []), (1, 2, []), (0, 7, [(4, 0), (0, 0), (1, 0), (0, 0), (0, 0)])]
theorem len_V114_oz_G1cls : (V114).length = 5 := by decide +kernel
theorem oz_G1cls_6 : vsub V114 V156 [4] = true := by decide +kernel
theorem oz_G1cls_7 : vsub V114 V186 [1, 2, 3] = true := by decide +kernel
def oz_G1clsl_3 : List (Nat × Nat) := [(0, 2), (1, 0), (4, 1), (4, 2), (4, 3), (4, 4)]
theorem oz_G1cls_8 : (oz_G1clsl_3).all (fun p => !tbz 10208471007628153903901238222957341310980 (Nat.add (Nat.mul 32 p.1) p.2)) = true := by decide +kernel
def oz_G1clsl_4 : List Nat := [4]
theorem oz_G1cls_9 : okc oz_G1clsl_4 4 = true := by decide +kernel
def oz_G1clsl_5 : List Nat := [1, 2, 3]
theorem oz_G1cls_10 : okc oz_G1clsl_5 787457 = true := by decide +kernel

theorem C114 {σE : rS} {D N : Nat → Nat} {F : hF} {A : hA} {d c s : Nat} {Q : wQ} (H : HW V114 σE D N F A)  (pf1 : F 0 1 = (D 1 : Int)) (pf2 : F 1 1 = (D 2 : Int)) (pf3 : F 1 2 = (D 3 : Int)) (pf4 : F 0 0 = (D 4 : Int)) (n2 : Int) (en2 : (N 2 : Int) = n2) (n3 : Int) (en3 : (N 3 : Int) = n3) (u0_2 : Int) (eu0_2 : F 0 2 = u0_2) (u1_0 : Int) (eu1_0 : F 1 0 = u1_0) (u4_1 : Int) (eu4_1 : F 4 1 = u4_1) (u4_2 : Int) (eu4_2 : F 4 2 = u4_2) (w2 : Int → Int) (ew2 : A 2 = w2) (w3 : Int → Int) (ew3 : A 3 = w3) (h0 : (n2) = 3 ∧ (n3) = 3) (k : ∀ (σ : rS) (Fₚ : hF) (Aₚ : hA), HW V114 σ D N Fₚ Aₚ → OUT (V114).length D N σE c s D N σ c s → SF [(0, 2), (1, 0), (4, 1), (4, 2), (4, 3), (4, 4)] F Fₚ → SA [2, 3] A Aₚ → ∀ y0_2 : Int, Fₚ 0 2 = y0_2 → ∀ y1_0 : Int, Fₚ 1 0 = y1_0 → ∀ y4_1 : Int, Fₚ 4 1 = y4_1 → ∀ y4_2 : Int, Fₚ 4 2 = y4_2 → ∀ v2 : Int → Int, Aₚ 2 = v2 → ∀ v3 : Int → Int, Aₚ 3 = v3 → ((y1_0) = -1) → (((v2)) 0 = -1 ∧ ((v2)) 1 = -1 ∧ ((v2)) 2 = -1) → ((y0_2) = 0) → ((y4_1) = 0) → (((v3)) 0 = 1 ∧ ((v3)) 1 = 4 ∧ ((v3)) 2 = 8) → ((y4_2) = 0) → Q none σ c s) : Ew 114 (d + 1) 0 (rargs 0 [.ref (D 0)]) [] σE c s Q := by
  have O := OUT_refl (n := (V114).length) (D := D) (N := N) (σ := σE) (c := c) (s := s)
  have HE := H
  have r1 : (-2147483648 : Int) ≤ u0_2 ∧ u0_2 ≤ 2147483647 := rngE (show (-2147483648 : Int) ≤ F 0 2 ∧ F 0 2 ≤ 2147483647 from H.krg 0 2 (ltn len_V114_oz_G1cls rfl)) (show F 0 2 = u0_2 from (eu0_2))
  have r2 : (-2147483648 : Int) ≤ u4_1 ∧ u4_1 ≤ 2147483647 := rngE (show (-2147483648 : Int) ≤ F 4 1 ∧ F 4 1 ≤ 2147483647 from H.krg 4 1 (ltn len_V114_oz_G1cls rfl)) (show F 4 1 = u4_1 from (eu4_1))
  have r3 : (0 : Int) ≤ u4_2 ∧ u4_2 ≤ 1 := rngE (show (0 : Int) ≤ F 4 2 ∧ F 4 2 ≤ 1 from H.krg 4 2 (ltn len_V114_oz_G1cls rfl)) (show F 4 2 = u4_2 from (eu4_2))
  have r4 : (0 : Int) ≤ n2 ∧ n2 ≤ 1000000 := nleE (H.nle 2 (ltn len_V114_oz_G1cls rfl)) (show (N 2 : Int) = n2 from en2)
  have r5 : (0 : Int) ≤ n3 ∧ n3 ≤ 1000000 := nleE (H.nle 3 (ltn len_V114_oz_G1cls rfl)) (show (N 3 : Int) = n3 from en3)
  refine Ew_of (pcₚ := 1) (fun _ => x_aload_n rfl rfl) ?_
  refine v_g H (o := 0) (v := .ref (D 4)) rfl rfl rfl rfl rfl (vrf (pf4)) ?_
  have r6 : (-2147483648 : Int) ≤ F 4 3 ∧ F 4 3 ≤ 2147483647 := H.krg 4 3 (ltn len_V114_oz_G1cls rfl)
  have r7 : (-2147483648 : Int) ≤ F 4 4 ∧ F 4 4 ≤ 2147483647 := H.krg 4 4 (ltn len_V114_oz_G1cls rfl)
  refine v_inv H (o := 4) rfl rfl rfl rfl rfl rfl (by rfl) (C156h (D := puc 4 D) (N := puc 4 N) (HW_subc H oz_G1cls_6 oz_G1cls_9) (u4_1) ((eu4_1)) (u4_2) ((eu4_2)) (F 4 3) (rfl) (F 4 4) (rfl)  (fun σ8 F8ₚ A8ₚ Hₚ Oₚ hS8 hA8 y8_0_1 ey8_0_1 y8_0_2 ey8_0_2 y8_0_3 ey8_0_3 y8_0_4 ey8_0_4 pz8_0 pz8_1 => ⟨rfl, ?_⟩))
  refine v_backc (c := c) (s := s) H oz_G1cls_6 oz_G1cls_9 Hₚ Oₚ (fun F8 A8 H Oₚ eF8 eA8 => ?_)
  have O := OUT_trans O Oₚ
  -- Row.clear
  have cF8 : SF oz_G1clsl_3 F F8 := SF_trans (SF_refl) (SF_gluc (ι := oz_G1clsl_4) oz_G1cls_9 hS8 eF8 (by decide +kernel)) (any_sub (lₚ := [(4, 1), (4, 2), (4, 3), (4, 4)]) (by decide +kernel))
  have mF8 := SFm_of cF8 oz_G1cls_8
  have cA8 : SA oz_G1clsl_2 A A8 := SA_trans (SA_refl) (SA_gluc (ι := oz_G1clsl_4) oz_G1cls_9 hA8 eA8 (by decide +kernel)) (any_subA (lₚ := []) (by decide +kernel))
  have mA8 := SAm_of cA8 oz_G1cls_4
  have r9 : (-2147483648 : Int) ≤ y8_0_1 ∧ y8_0_1 ≤ 2147483647 := rngE (show (-2147483648 : Int) ≤ F8 4 1 ∧ F8 4 1 ≤ 2147483647 from H.krg 4 1 (ltn len_V114_oz_G1cls rfl)) (show F8 4 1 = y8_0_1 from ((eF8 4 1).trans ey8_0_1))
  have r10 : (0 : Int) ≤ y8_0_2 ∧ y8_0_2 ≤ 1 := rngE (show (0 : Int) ≤ F8 4 2 ∧ F8 4 2 ≤ 1 from H.krg 4 2 (ltn len_V114_oz_G1cls rfl)) (show F8 4 2 = y8_0_2 from ((eF8 4 2).trans ey8_0_2))
  have r11 : (-2147483648 : Int) ≤ y8_0_3 ∧ y8_0_3 ≤ 2147483647 := rngE (show (-2147483648 : Int) ≤ F8 4 3 ∧ F8 4 3 ≤ 2147483647 from H.krg 4 3 (ltn len_V114_oz_G1cls rfl)) (show F8 4 3 = y8_0_3 from ((eF8 4 3).trans ey8_0_3))
  have r12 : (-2147483648 : Int) ≤ y8_0_4 ∧ y8_0_4 ≤ 2147483647 := rngE (show (-2147483648 : Int) ≤ F8 4 4 ∧ F8 4 4 ≤ 2147483647 from H.krg 4 4 (ltn len_V114_oz_G1cls rfl)) (show F8 4 4 = y8_0_4 from ((eF8 4 4).trans ey8_0_4))
  refine Ew_of (pcₚ := 8) (fun _ => x_aload_n rfl rfl) ?_
  refine v_g H (o := 0) (v := .ref (D 1)) rfl rfl rfl rfl rfl (vrf ((mF8 0 1 rfl).trans (pf1))) ?_
  refine v_inv H (o := 1) rfl rfl rfl rfl rfl rfl (by rfl) (C186 (D := puc 787457 D) (N := puc 787457 N) (HW_subc H oz_G1cls_7 oz_G1cls_10) ((mF8 1 1 rfl).trans (pf2)) ((mF8 1 2 rfl).trans (pf3)) (n2) (en2) (n3) (en3) (u1_0) ((((show F8 1 0 = F 1 0 from (eF8 1 0))).trans (eu1_0))) (w2) (((show A8 2 = A 2 from (eA8 2))).trans (ew2)) (w3) (((show A8 3 = A 3 from (eA8 3))).trans (ew3)) (show (n2) = 3 ∧ (n3) = 3 from h0) (fun σ13 F13ₚ A13ₚ Hₚ Oₚ hS13 hA13 y13_0_0 ey13_0_0 w13_1 ew13_1 w13_2 ew13_2 pz13_0 pz13_1 pz13_2 => ⟨rfl, ?_⟩))
  refine v_backc (c := c) (s := s) H oz_G1cls_7 oz_G1cls_10 Hₚ Oₚ (fun F13 A13 H Oₚ eF13 eA13 => ?_)
  have O := OUT_trans O Oₚ
  -- Stand.clear
  have cF13 : SF oz_G1clsl_3 F F13 := SF_trans (cF8) (SF_gluc (ι := oz_G1clsl_5) oz_G1cls_10 hS13 eF13 (by decide +kernel)) (any_sub (lₚ := [(1, 0)]) (by decide +kernel))
  have mF13 := SFm_of cF13 oz_G1cls_8
  have cA13 : SA oz_G1clsl_2 A A13 := SA_trans (cA8) (SA_gluc (ι := oz_G1clsl_5) oz_G1cls_10 hA13 eA13 (by decide +kernel)) (any_subA (lₚ := [2, 3]) (by decide +kernel))
  have mA13 := SAm_of cA13 oz_G1cls_4
  refine Ew_of (pcₚ := 15) (fun _ => x_aload_n rfl rfl) ?_
  refine Ew_of (pcₚ := 16) (fun _ => x_iconst rfl) ?_
  refine v_p H (o := 0) (z := 0) (v := I (0)) rfl rfl rfl rfl rfl rfl rfl rfl (show (-2147483648 : Int) ≤ 0 ∧ 0 ≤ 2147483647 from q_22) (fun σ H Oₚ => ?_)
  have O := OUT_trans O Oₚ
  have cFu14 : SF oz_G1clsl_3 F (updF F13 0 2 (0)) := SF_upd (cF13) rfl
  have mFu14 := SFm_of cFu14 oz_G1cls_8
  exact w_ret rfl (k _ _ _ H O (cFu14) (cA13) (0) (rfl) (y13_0_0) (((eF13 1 0).trans ey13_0_0)) (y8_0_1) ((((show F13 4 1 = F8 4 1 from (eF13 4 1))).trans ((eF8 4 1).trans ey8_0_1))) (y8_0_2) ((((show F13 4 2 = F8 4 2 from (eF13 4 2))).trans ((eF8 4 2).trans ey8_0_2))) (w13_1) ((eA13 2).trans ew13_1) (w13_2) ((eA13 3).trans ew13_2) (show (y13_0_0) = -1 from pz13_0) (show ((w13_1)) 0 = -1 ∧ ((w13_1)) 1 = -1 ∧ ((w13_1)) 2 = -1 from pz13_1) (show (0) = 0 by first | exact q_34 | omega) (show (y8_0_1) = 0 from q_3835 pz8_0) (show ((w13_2)) 0 = 1 ∧ ((w13_2)) 1 = 4 ∧ ((w13_2)) 2 = 8 from pz13_2) (show (y8_0_2) = 0 from q_3834 pz8_0))
abbrev V119_Br : vV := [(0, 4, [(4, 0), (4, 0), (0, 0), (4, 0), (4, 0)]), (1, 0, []), (0, 7, [(4, 0), (0, 0), (1, 0), (0, 0), (0, 0)]), (1, 0, []), (0, 9, [(4, 0), (4, 0), (4, 0)]), (1, 2, [])]
theorem len_V119_Br_oz_G1cls : (V119_Br).length = 6 := by decide +kernel
theorem oz_G1cls_12 : vsub V119_Br V161_Br [2, 1, 3] = true := by decide +kernel
theorem oz_G1cls_13 : vmov V119_Br [2, 1, 3] [2] = true := by decide +kernel
theorem oz_G1cls_14 : vsub V119_Br V42_Br [1] = true := by decide +kernel
def oz_G1clsl_6 : List (Nat × Nat) := [(2, 0), (2, 1), (2, 2)]
theorem oz_G1cls_15 : (oz_G1clsl_6).all (fun p => !tbz 129127208515966861312 (Nat.add (Nat.mul 32 p.1) p.2)) = true := by decide +kernel
def oz_G1clsl_7 : List Nat := [3, 5]
theorem oz_G1cls_16 : (oz_G1clsl_7).all (fun p => !tbz 40 p) = true := by decide +kernel
def oz_G1clsl_8 : List Nat := [3]
theorem oz_G1cls_17 : (oz_G1clsl_8).all (fun p => !tbz 8 p) = true := by decide +kernel
def oz_G1clsl_9 : List Nat := [2, 1, 3]
theorem oz_G1cls_18 : okc oz_G1clsl_9 786946 = true := by decide +kernel
def oz_G1clsl_10 : List Nat := [1]
theorem oz_G1cls_19 : okc oz_G1clsl_10 1 = true := by decide +kernel

theorem C119_Br {σE : rS} {D N : Nat → Nat} {F : hF} {A : hA} {d c s : Nat} {Q : wQ} (H : HW V119_Br σE D N F A) {a2 a3 : Int} (pf2 : F 0 0 = (D 2 : Int)) (pf3 : F 2 0 = (D 3 : Int)) (pf4 : F 0 1 = (D 4 : Int)) (pf5 : F 4 2 = (D 5 : Int)) (n1 : Int) (en1 : (N 1 : Int) = n1) (n3 : Int) (en3 : (N 3 : Int) = n3) (n5 : Int) (en5 : (N 5 : Int) = n5) (u2_1 : Int) (eu2_1 : F 2 1 = u2_1) (u2_2 : Int) (eu2_2 : F 2 2 = u2_2) (w1 : Int → Int) (ew1 : A 1 = w1) (w3 : Int → Int) (ew3 : A 3 = w3) (w5 : Int → Int) (ew5 : A 5 = w5) (h0 : inr (a2)) (h1 : inr (a3)) (h2 : 0 ≤ (u2_1) ∧ (u2_1) ≤ (n3) ∧ (n3) ≤ 65536) (h3 : (u2_1) = 0) (h4 : (u2_2) = 0) (h5 : 0 ≤ (a2) ∧ (a2) ≤ 65536 ∧ 0 ≤ (a3) ∧ (a3) ≤ (n1) ∧ (n1) ≤ 65536) (h6 : (n5) = 3) (k : ∀ (z : Int) (σ : rS) (Dₚ Nₚ : Nat → Nat) (Fₚ : hF) (Aₚ : hA) (cₚ sₚ : Nat), HW V119_Br σ Dₚ Nₚ Fₚ Aₚ → OUT (V119_Br).length D N σE c s Dₚ Nₚ σ cₚ sₚ → SD [3] D Dₚ → SD [3] N Nₚ → SF [(2, 0), (2, 1), (2, 2)] F Fₚ → SA [3, 5] A Aₚ → Fₚ 2 0 = (Dₚ 3 : Int) → ∀ m3 : Int, (Nₚ 3 : Int) = m3 → ∀ y2_1 : Int, Fₚ 2 1 = y2_1 → ∀ y2_2 : Int, Fₚ 2 2 = y2_2 → ∀ v3 : Int → Int, Aₚ 3 = v3 → ∀ v5 : Int → Int, Aₚ 5 = v5 → (inr (z)) → (0 ≤ (y2_1) ∧ (y2_1) ≤ (m3) ∧ (m3) ≤ 65536) → (-4 ≤ (z) ∧ (z) ≤ 65536) → ((z) < 0 ∨ (y2_1) = (z)) → (LNH (ub8 ((w1))) ((a3)) ((a2)) ((z)) ((v5)) (sc ((v3)) 0 ((y2_1)))) → ((z) < 0 ∨ (y2_2) = 0) → Q (some (I z)) σ cₚ sₚ) : Ew 119 (d + 3) 0 (rargs 0 [.ref (D 0), .ref (D 1), I a2, I a3]) [] σE c s Q := by
  have O := OUT_refl (n := (V119_Br).length) (D := D) (N := N) (σ := σE) (c := c) (s := s)
  have HE := H
  have r1 : (-2147483648 : Int) ≤ u2_1 ∧ u2_1 ≤ 2147483647 := rngE (show (-2147483648 : Int) ≤ F 2 1 ∧ F 2 1 ≤ 2147483647 from H.krg 2 1 (ltn len_V119_Br_oz_G1cls rfl)) (show F 2 1 = u2_1 from (eu2_1))
  have r2 : (0 : Int) ≤ u2_2 ∧ u2_2 ≤ 1 := rngE (show (0 : Int) ≤ F 2 2 ∧ F 2 2 ≤ 1 from H.krg 2 2 (ltn len_V119_Br_oz_G1cls rfl)) (show F 2 2 = u2_2 from (eu2_2))
  have r3 : (0 : Int) ≤ n1 ∧ n1 ≤ 1000000 := nleE (H.nle 1 (ltn len_V119_Br_oz_G1cls rfl)) (show (N 1 : Int) = n1 from en1)
  have r4 : (0 : Int) ≤ n3 ∧ n3 ≤ 1000000 := nleE (H.nle 3 (ltn len_V119_Br_oz_G1cls rfl)) (show (N 3 : Int) = n3 from en3)
  have r5 : (0 : Int) ≤ n5 ∧ n5 ≤ 1000000 := nleE (H.nle 5 (ltn len_V119_Br_oz_G1cls rfl)) (show (N 5 : Int) = n5 from en5)
  refine Ew_of (pcₚ := 1) (fun _ => x_iload_n rfl rfl) ?_
  refine Ew_of (pcₚ := 2) (fun _ => x_iload_n rfl rfl) ?_
  refine w_isub rfl ?_
  refine Ew_of (pcₚ := 5) (fun _ => x_bipush (z := 12) rfl (by decide)) ?_
  refine w_isub rfl ?_
  refine Ew_of (pcₚ := 8) (fun _ => x_istore rfl) ?_
  refine Ew_of (pcₚ := 10) (fun _ => x_iload rfl rk_s) ?_
  refine w_ifge (t := 15) rfl rfl (show inr (((a3 - a2) - 12)) from q_3836 h5) (fun b6 => ?_) (fun b6 => ?_)
  · refine Ew_of (pcₚ := 16) (fun _ => x_iconst rfl) ?_
    refine Ew_of (pcₚ := 18) (fun _ => x_istore rfl) ?_
    have : LNL (ub8 ((w1))) ((a3)) ((a2)) ((0 : Int)) ((w5)) := LNL_0
    suffices hl18 : ∀ (m : Nat), ∀ (ls : rO) (σ : rS) (F_18 : hF) (A_18 : hA) (x18_5 : Int), rlook ls 0 = some (.ref (D 0)) → rlook ls 1 = some (.ref (D 1)) → rlook ls 2 = some (I (a2)) → rlook ls 4 = some (I (((a3 - a2) - 12))) → rlook ls 5 = some (I (x18_5)) → HW V119_Br σ D N F_18 A_18 → OUT (V119_Br).length D N σE c s D N σ c s → SF [] F F_18 → SA [5] A A_18 → ∀ w18_5 : Int → Int, A_18 5 = w18_5 → (inr (x18_5)) → ((0) ≤ (x18_5)) → ((x18_5) ≤ (0) ∨ (x18_5) ≤ (3)) → (LNL (ub8 ((w1))) ((a3)) ((a2)) ((x18_5)) ((w18_5))) → ((3) - (x18_5)).toNat = m → Ew 119 (d + 3) 18 ls [] σ c s Q from
      hl18 _ _ _ _ _ (0) (rk_o (rk_o (rfl) rfl rfl) rfl rfl) (rk_o (rk_o (rfl) rfl rfl) rfl rfl) (rk_o (rk_o (rfl) rfl rfl) rfl rfl) (rk_o (rk_s) rfl rfl) (rk_s) H O (SF_refl) (SA_refl)    (w5) (ew5) (show inr (0) from q_2) (show (0) ≤ (0) from q_1) (show (0) ≤ (0) ∨ (0) ≤ (3) from q_1793) (show LNL (ub8 ((w1))) ((a3)) ((a2)) ((0)) ((w5)) by assumption) rfl
    as_aux_lemma =>
    intro m
    induction m using Nat.strongRecOn with
    | _ m ih18 =>
      intro ls σ F_18 A_18 x18_5 l18_0 l18_1 l18_2 l18_4 l18_5 H O hS_18 hA_18    w18_5 ew18_5 j18_0 j18_1 j18_2 j18_3 hm18
      have cF_18 : SF oz_G1clsl_6 F F_18 := SF_trans (SF_refl) hS_18 (any_sub (by decide +kernel))
      have mF_18 := SFm_of cF_18 oz_G1cls_15
      have cA_18 : SA oz_G1clsl_7 A A_18 := SA_trans (SA_refl) hA_18 (any_subA (by decide +kernel))
      have mA_18 := SAm_of cA_18 oz_G1cls_16
      have j18_l : LNL (ub8 ((w1))) ((a3)) ((a2)) ((x18_5)) ((w18_5)) := j18_3
      refine Ew_of (pcₚ := 20) (fun _ => x_iload rfl l18_5) ?_
      refine Ew_of (pcₚ := 21) (fun _ => x_iconst rfl) ?_
      refine w_icmpge (t := 86) rfl rfl (show inr (x18_5) from j18_0) (show inr (3) from q_246) (fun b7 => ?_) (fun b7 => ?_)
      · have hL3 : LNL (ub8 ((w1))) ((a3)) ((a2)) (3) ((w18_5)) := by have h := j18_l; rw [show (x18_5) = 3 by omega] at h; exact h
        refine Ew_of (pcₚ := 87) (fun _ => x_aload_n rfl l18_0) ?_
        refine v_g H (o := 0) (v := .ref (D 2)) rfl rfl rfl rfl rfl (vrf ((mF_18 0 0 rfl).trans (pf2))) ?_
        refine Ew_of (pcₚ := 91) (fun _ => x_aload_n rfl l18_1) ?_
        refine Ew_of (pcₚ := 92) (fun _ => x_iload_n rfl l18_2) ?_
        refine Ew_of (pcₚ := 94) (fun _ => x_bipush (z := 12) rfl (by decide)) ?_
        refine w_iadd rfl ?_
        refine Ew_of (pcₚ := 97) (fun _ => x_iload rfl l18_4) ?_
        refine v_inv H (o := 2) rfl rfl rfl rfl rfl rfl (by rfl) (C161_Br (D := puc 786946 D) (N := puc 786946 N) (HW_subc H oz_G1cls_12 oz_G1cls_18) (((hS_18 2 0 rfl)).trans (pf3)) (n1) (en1) (n3) (en3) (u2_1) (((hS_18 2 1 rfl).trans (eu2_1))) (u2_2) (((hS_18 2 2 rfl).trans (eu2_2))) (w1) ((funext (mA_18 1 rfl)).trans (ew1)) (w3) ((funext (hA_18 3 rfl)).trans (ew3)) (show inr ((a2 + 12)) from q_3839 h5) (show inr (((a3 - a2) - 12)) from q_3838 b6 h5) (show 0 ≤ (u2_1) ∧ (u2_1) ≤ (n3) ∧ (n3) ≤ 65536 from h2) (show (((a3 - a2) - 12)) < 0 ∨ 0 ≤ ((a2 + 12)) ∧ ((a2 + 12)) + (((a3 - a2) - 12)) ≤ (n1) from q_3837 h5) (fun σ8 D8ₚ N8ₚ F8ₚ A8ₚ c8 s8 Hₚ Oₚ hD8 hN8 hS8 hA8 pm8_2 m8_2 em8_2 y8_0_1 ey8_0_1 y8_0_2 ey8_0_2 w8_2 ew8_2 pz8_0 pz8_1 pz8_2 pz8_3 => ⟨rfl, ?_⟩))
        refine v_backMc (c := c) (s := s) H oz_G1cls_12 oz_G1cls_18 Hₚ Oₚ hD8 oz_G1cls_13 (fun D8 N8 F8 A8 H Oₚ eD8 eN8 eF8 eA8 => ?_)
        have O := OUT_trans O Oₚ
        -- Row.addPart
        have cF8 : SF oz_G1clsl_6 F F8 := SF_trans (cF_18) (SF_gluc (ι := oz_G1clsl_9) oz_G1cls_18 hS8 eF8 (by decide +kernel)) (any_sub (lₚ := [(2, 0), (2, 1), (2, 2)]) (by decide +kernel))
        have mF8 := SFm_of cF8 oz_G1cls_15
        have cA8 : SA oz_G1clsl_7 A A8 := SA_trans (cA_18) (SA_gluc (ι := oz_G1clsl_9) oz_G1cls_18 hA8 eA8 (by decide +kernel)) (any_subA (lₚ := [3]) (by decide +kernel))
        have mA8 := SAm_of cA8 oz_G1cls_16
        have cD8 : SD oz_G1clsl_8 D D8 := SD_trans (SD_refl) (SD_gluc (ι := oz_G1clsl_9) oz_G1cls_18 hD8 eD8 (by decide +kernel)) (any_subA (lₚ := [3]) (by decide +kernel))
        have mD8 := SDm_of cD8 oz_G1cls_17
        have cN8 : SD oz_G1clsl_8 N N8 := SD_trans (SD_refl) (SD_gluc (ι := oz_G1clsl_9) oz_G1cls_18 hN8 eN8 (by decide +kernel)) (any_subA (lₚ := [3]) (by decide +kernel))
        have mN8 := SDm_of cN8 oz_G1cls_17
        have pf8_2_0 : F8 2 0 = (D8 3 : Int) := (eF8 2 0).trans (pm8_2.trans (congrArg (fun q : Nat => (q : Int)) (eD8 3).symm))
        have r9 : (0 : Int) ≤ m8_2 ∧ m8_2 ≤ 1000000 := nleE (H.nle 3 (ltn len_V119_Br_oz_G1cls rfl)) (show (N8 3 : Int) = m8_2 from (congrArg (fun q : Nat => (q : Int)) (eN8 3)).trans em8_2)
        have r10 : (-2147483648 : Int) ≤ y8_0_1 ∧ y8_0_1 ≤ 2147483647 := rngE (show (-2147483648 : Int) ≤ F8 2 1 ∧ F8 2 1 ≤ 2147483647 from H.krg 2 1 (ltn len_V119_Br_oz_G1cls rfl)) (show F8 2 1 = y8_0_1 from ((eF8 2 1).trans ey8_0_1))
        have r11 : (0 : Int) ≤ y8_0_2 ∧ y8_0_2 ≤ 1 := rngE (show (0 : Int) ≤ F8 2 2 ∧ F8 2 2 ≤ 1 from H.krg 2 2 (ltn len_V119_Br_oz_G1cls rfl)) (show F8 2 2 = y8_0_2 from ((eF8 2 2).trans ey8_0_2))
        have hap := RAP_from (a := 0) (pz8_3 (by omega)) (by omega) (by omega) (by rw [sc_lenI (by omega)]; omega) (by omega)
        have hbu := hap.1
        refine Ew_of (pcₚ := 102) (fun _ => x_iload rfl l18_4) ?_
        have : LNH (ub8 ((w1))) ((a3)) ((a2)) ((((a3 - a2) - 12))) ((w18_5)) (sc ((w8_2)) 0 ((y8_0_1))) := .inr (.inr ⟨by omega, by omega, hL3, by rw [hap.2, sc_nil (show (u2_1) ≤ 0 from q_3840 h3), List.nil_append, show (a2) + 12 + (((a3 - a2) - 12)) = (a3) by omega]; exact sc_u⟩)
        exact w_ireturn rfl (k (((a3 - a2) - 12)) _ _ _ _ _ _ _ H O (cD8) (cN8) (cF8) (cA8) (pf8_2_0) (m8_2) ((congrArg (fun q : Nat => (q : Int)) (eN8 3)).trans em8_2) (y8_0_1) (((eF8 2 1).trans ey8_0_1)) (y8_0_2) (((eF8 2 2).trans ey8_0_2)) (w8_2) ((eA8 3).trans ew8_2) (w18_5) (((show A8 5 = A_18 5 from (eA8 5))).trans (ew18_5)) (show inr (((a3 - a2) - 12)) from q_3838 b6 h5) (show 0 ≤ (y8_0_1) ∧ (y8_0_1) ≤ (m8_2) ∧ (m8_2) ≤ 65536 from pz8_0) (show -4 ≤ (((a3 - a2) - 12)) ∧ (((a3 - a2) - 12)) ≤ 65536 by first | exact q_3842 b6 h5 | omega) (show (((a3 - a2) - 12)) < 0 ∨ (y8_0_1) = (((a3 - a2) - 12)) by first | exact q_3841 b6 h3 h5 pz8_0 pz8_1 | omega) (show LNH (ub8 ((w1))) (a3) (a2) ((((a3 - a2) - 12))) ((w18_5)) (sc ((w8_2)) 0 ((y8_0_1))) by assumption) (show (((a3 - a2) - 12)) < 0 ∨ (y8_0_2) = 0 by omega))
      · refine Ew_of (pcₚ := 25) (fun _ => x_aload_n rfl l18_0) ?_
        refine v_g H (o := 0) (v := .ref (D 4)) rfl rfl rfl rfl rfl (vrf ((mF_18 0 1 rfl).trans (pf4))) ?_
        refine v_g H (o := 4) (v := .ref (D 5)) rfl rfl rfl rfl rfl (vrf ((mF_18 4 2 rfl).trans (pf5))) ?_
        refine Ew_of (pcₚ := 33) (fun _ => x_iload rfl l18_5) ?_
        refine Ew_of (pcₚ := 34) (fun _ => x_aload_n rfl l18_1) ?_
        refine Ew_of (pcₚ := 35) (fun _ => x_iload_n rfl l18_2) ?_
        refine Ew_of (pcₚ := 36) (fun _ => x_iconst rfl) ?_
        refine Ew_of (pcₚ := 38) (fun _ => x_iload rfl l18_5) ?_
        refine w_imul rfl ?_
        refine w_iadd rfl ?_
        refine Ew_of (pcₚ := 41) (fun _ => x_iconst rfl) ?_
        refine w_stat25 rfl rfl (by rfl) (C42_Br (D := puc 1 D) (N := puc 1 N) (HW_subc H oz_G1cls_14 oz_G1cls_19) (n1) (en1) (w1) ((funext (mA_18 1 rfl)).trans (ew1)) (show inr ((a2 + (4 * x18_5))) from q_3844 b7 h5 j18_1) (show inr (4) from q_216) (show (4) ≤ 0 ∨ 0 ≤ ((a2 + (4 * x18_5))) ∧ ((a2 + (4 * x18_5))) + (4) ≤ (n1) from q_3843 b6 b7 h5 j18_1) (show 0 ≤ (4) ∧ (4) ≤ 8 from q_623) (fun z12 σ12 F12ₚ A12ₚ Hₚ Oₚ hS12 hA12 pz12_0 pz12_1 pz12_2 => ⟨rfl, ?_⟩))
        refine v_backc (c := c) (s := s) H oz_G1cls_14 oz_G1cls_19 Hₚ Oₚ (fun F12 A12 H Oₚ eF12 eA12 => ?_)
        have O := OUT_trans O Oₚ
        -- PackHouse.number
        have cF12 : SF oz_G1clsl_6 F F12 := SF_trans (cF_18) (SF_gluc (ι := oz_G1clsl_10) oz_G1cls_19 hS12 eF12 (by decide +kernel)) (any_sub (lₚ := []) (by decide +kernel))
        have mF12 := SFm_of cF12 oz_G1cls_15
        have cA12 : SA oz_G1clsl_7 A A12 := SA_trans (cA_18) (SA_gluc (ι := oz_G1clsl_10) oz_G1cls_19 hA12 eA12 (by decide +kernel)) (any_subA (lₚ := []) (by decide +kernel))
        have mA12 := SAm_of cA12 oz_G1cls_16
        have hN4 : z12 = nvl (ub8 ((w1))) ((a2) + 4 * (x18_5)) 4 := (nmb_nn pz12_2 (by omega) pz12_0).trans nvl_u
        have hN0 : 0 ≤ z12 := by rw [hN4]; exact (nvl_rng (f := ub8 ((w1))) (n := 4) (a := (a2) + 4 * (x18_5))).1
        refine v_sJ H (o := 5) (z := z12) rfl rfl rfl rfl (n := n5) (en5) (show 0 ≤ x18_5 ∧ x18_5 < n5 from q_3845 b7 h6 j18_1) (show inrJ (z12) from pz12_0) (fun σ H Oₚ => ?_)
        have O := OUT_trans O Oₚ
        have cAu13 : SA oz_G1clsl_7 A (updA A12 5 (x18_5) (z12)) := SA_upd (cA12) rfl
        have mAu13 := SAm_of cAu13 oz_G1cls_16
        refine Ew_of (pcₚ := 46) (fun _ => x_aload_n rfl l18_0) ?_
        refine v_g H (o := 0) (v := .ref (D 4)) rfl rfl rfl rfl rfl (vrf ((mF12 0 1 rfl).trans (pf4))) ?_
        refine v_g H (o := 4) (v := .ref (D 5)) rfl rfl rfl rfl rfl (vrf ((mF12 4 2 rfl).trans (pf5))) ?_
        refine Ew_of (pcₚ := 54) (fun _ => x_iload rfl l18_5) ?_
        refine v_lJ H (o := 5) rfl rfl rfl rfl (n := n5) (en5) (show 0 ≤ x18_5 ∧ x18_5 < n5 from q_3845 b7 h6 j18_1) (fun v14 ev14 qv14 => ?_)
        have ev14 : (upd1 (w18_5) (x18_5) (z12)) (x18_5) = v14 := (congrFun (congrArg (fun q => upd1 q (x18_5) (z12)) (((show A12 5 = A_18 5 from (eA12 5))).trans (ew18_5))) (x18_5)).symm.trans ev14
        have hq := ev14
        rw [upd1_s] at hq
        refine Ew_of (pcₚ := 56) (fun _ => x_lconst (z := 0) rfl (by decide)) ?_
        refine w_lcmp rfl (show inrJ (v14) from qv14) (show inrJ (0) from q_340) (fun z15 gz15 gaz15 gbz15 => ?_)
        refine w_ifeq (t := 77) rfl rfl (show inr (z15) from gz15) (fun b16 => ?_) (fun b16 => ?_)
        · refine Ew_of (pcₚ := 79) (fun _ => x_bipush (z := -4) rfl (by decide)) ?_
          have : LNH (ub8 ((w1))) ((a3)) ((a2)) (((-4))) ((upd1 (w18_5) (x18_5) (z12))) (sc ((w3)) 0 ((u2_1))) := LNH_4 (by omega) (by omega) (j := (x18_5)) (by omega) hN4 (by omega)
          exact w_ireturn rfl (k ((-4)) _ _ _ _ _ _ _ H O (SD_refl) (SD_refl) (cF12) (cAu13) (((((show F12 2 0 = F_18 2 0 from (eF12 2 0))).trans (hS_18 2 0 rfl))).trans (pf3)) (n3) (en3) (u2_1) (((((show F12 2 1 = F_18 2 1 from (eF12 2 1))).trans (hS_18 2 1 rfl)).trans (eu2_1))) (u2_2) (((((show F12 2 2 = F_18 2 2 from (eF12 2 2))).trans (hS_18 2 2 rfl)).trans (eu2_2))) (w3) (((show A12 3 = A_18 3 from (eA12 3))).trans ((funext (hA_18 3 rfl)).trans (ew3))) (upd1 (w18_5) (x18_5) (z12)) (congrArg (fun q => upd1 q (x18_5) (z12)) (((show A12 5 = A_18 5 from (eA12 5))).trans (ew18_5))) (show inr ((-4)) from q_558) (show 0 ≤ (u2_1) ∧ (u2_1) ≤ (n3) ∧ (n3) ≤ 65536 from h2) (show -4 ≤ ((-4)) ∧ ((-4)) ≤ 65536 by first | exact q_3848 | omega) (show ((-4)) < 0 ∨ (u2_1) = ((-4)) by first | exact q_3847 | omega) (show LNH (ub8 ((w1))) (a3) (a2) (((-4))) ((upd1 (w18_5) (x18_5) (z12))) (sc ((w3)) 0 ((u2_1))) by assumption) (show ((-4)) < 0 ∨ (u2_2) = 0 by first | exact q_3846 | omega))
        · refine Ew_of (pcₚ := 61) (fun _ => x_aload_n rfl l18_0) ?_
          refine v_g H (o := 0) (v := .ref (D 4)) rfl rfl rfl rfl rfl (vrf ((mF12 0 1 rfl).trans (pf4))) ?_
          refine v_g H (o := 4) (v := .ref (D 5)) rfl rfl rfl rfl rfl (vrf ((mF12 4 2 rfl).trans (pf5))) ?_
          refine Ew_of (pcₚ := 69) (fun _ => x_iload rfl l18_5) ?_
          refine v_lJ H (o := 5) rfl rfl rfl rfl (n := n5) (en5) (show 0 ≤ x18_5 ∧ x18_5 < n5 from q_3845 b7 h6 j18_1) (fun v17 ev17 qv17 => ?_)
          have ev17 : (upd1 (w18_5) (x18_5) (z12)) (x18_5) = v17 := (congrFun (congrArg (fun q => upd1 q (x18_5) (z12)) (((show A12 5 = A_18 5 from (eA12 5))).trans (ew18_5))) (x18_5)).symm.trans ev17
          have hq2 := ev17
          rw [upd1_s] at hq2
          refine Ew_of (pcₚ := 72) (fun _ => x_iload rfl l18_4) ?_
          refine w_i2l rfl (show inr (((a3 - a2) - 12)) from q_3838 b6 h5) ?_
          refine w_lcmp rfl (show inrJ (v17) from qv17) (show inrJ (((a3 - a2) - 12)) from q_3849 b6 h5) (fun z18 gz18 gaz18 gbz18 => ?_)
          refine w_ifle (t := 80) rfl rfl (show inr (z18) from gz18) (fun b19 => ?_) (fun b19 => ?_)
          · refine Ew_of (pcₚ := 83) (fun _ => x_iinc (len := 3) rfl (l18_5)) ?_
            refine Ew_of (pcₚ := 18) (fun _ => x_goto rfl rfl) ?_
            have : LNL (ub8 ((w1))) ((a3)) ((a2)) (((x18_5 + 1))) ((upd1 (w18_5) (x18_5) (z12))) := LNL_s j18_l hN4 (by omega) (by omega) (by omega)
            exact ih18 _ (msE hm18 q_813 (q_814 b7)) _ _ _ _ ((x18_5 + 1)) (rk_o (l18_0) rfl rfl) (rk_o (l18_1) rfl rfl) (rk_o (l18_2) rfl rfl) (rk_o (l18_4) rfl rfl) (rk_s) H O (SF_trans (hS_18) (SF_gluc (ι := oz_G1clsl_10) oz_G1cls_19 hS12 eF12 (by decide +kernel)) (any_sub (lₚ := []) (by decide +kernel))) (SA_upd (SA_trans (hA_18) (SA_gluc (ι := oz_G1clsl_10) oz_G1cls_19 hA12 eA12 (by decide +kernel)) (any_subA (lₚ := []) (by decide +kernel))) rfl)    (upd1 (w18_5) (x18_5) (z12)) (congrArg (fun q => upd1 q (x18_5) (z12)) (((show A12 5 = A_18 5 from (eA12 5))).trans (ew18_5))) (show inr ((x18_5 + 1)) from q_1804 b7 j18_1) (show (0) ≤ ((x18_5 + 1)) from q_14 j18_1) (show ((x18_5 + 1)) ≤ (0) ∨ ((x18_5 + 1)) ≤ (3) from q_1803 b7) (show LNL (ub8 ((w1))) ((a3)) ((a2)) (((x18_5 + 1))) ((upd1 (w18_5) (x18_5) (z12))) by assumption) rfl
          · refine Ew_of (pcₚ := 79) (fun _ => x_bipush (z := -4) rfl (by decide)) ?_
            have : LNH (ub8 ((w1))) ((a3)) ((a2)) (((-4))) ((upd1 (w18_5) (x18_5) (z12))) (sc ((w3)) 0 ((u2_1))) := LNH_4 (by omega) (by omega) (j := (x18_5)) (by omega) hN4 (by omega)
            exact w_ireturn rfl (k ((-4)) _ _ _ _ _ _ _ H O (SD_refl) (SD_refl) (cF12) (cAu13) (((((show F12 2 0 = F_18 2 0 from (eF12 2 0))).trans (hS_18 2 0 rfl))).trans (pf3)) (n3) (en3) (u2_1) (((((show F12 2 1 = F_18 2 1 from (eF12 2 1))).trans (hS_18 2 1 rfl)).trans (eu2_1))) (u2_2) (((((show F12 2 2 = F_18 2 2 from (eF12 2 2))).trans (hS_18 2 2 rfl)).trans (eu2_2))) (w3) (((show A12 3 = A_18 3 from (eA12 3))).trans ((funext (hA_18 3 rfl)).trans (ew3))) (upd1 (w18_5) (x18_5) (z12)) (congrArg (fun q => upd1 q (x18_5) (z12)) (((show A12 5 = A_18 5 from (eA12 5))).trans (ew18_5))) (show inr ((-4)) from q_558) (show 0 ≤ (u2_1) ∧ (u2_1) ≤ (n3) ∧ (n3) ≤ 65536 from h2) (show -4 ≤ ((-4)) ∧ ((-4)) ≤ 65536 by first | exact q_3848 | omega) (show ((-4)) < 0 ∨ (u2_1) = ((-4)) by first | exact q_3847 | omega) (show LNH (ub8 ((w1))) (a3) (a2) (((-4))) ((upd1 (w18_5) (x18_5) (z12))) (sc ((w3)) 0 ((u2_1))) by assumption) (show ((-4)) < 0 ∨ (u2_2) = 0 by first | exact q_3846 | omega))
  · refine Ew_of (pcₚ := 14) (fun _ => x_iconst rfl) ?_
    have : LNH (ub8 ((w1))) ((a3)) ((a2)) (((-1))) ((w5)) (sc ((w3)) 0 ((u2_1))) := .inl ⟨by omega, by omega⟩
    exact w_ireturn rfl (k ((-1)) _ _ _ _ _ _ _ H O (SD_refl) (SD_refl) (SF_refl) (SA_refl) (pf3) (n3) (en3) (u2_1) ((eu2_1)) (u2_2) ((eu2_2)) (w3) (ew3) (w5) (ew5) (show inr ((-1)) from q_63) (show 0 ≤ (u2_1) ∧ (u2_1) ≤ (n3) ∧ (n3) ≤ 65536 from h2) (show -4 ≤ ((-1)) ∧ ((-1)) ≤ 65536 by first | exact q_3852 | omega) (show ((-1)) < 0 ∨ (u2_1) = ((-1)) by first | exact q_3851 | omega) (show LNH (ub8 ((w1))) (a3) (a2) (((-1))) ((w5)) (sc ((w3)) 0 ((u2_1))) by assumption) (show ((-1)) < 0 ∨ (u2_2) = 0 by first | exact q_3850 | omega))


end
section
/-! G1b.cls -/
theorem len_V171_oz_G1bcls : (V171).length = 9 := by decide +kernel

theorem C171o {σE : rS} {D N : Nat → Nat} {F : hF} {A : hA} {d c s : Nat} {Q : wQ} (H : HW V171 σE D N F A) {a1 : Int} (pf1 : F 0 2 = (D 1 : Int)) (pf2 : F 0 3 = (D 2 : Int)) (pf3 : F 0 4 = (D 3 : Int)) (pf4 : F 0 5 = (D 4 : Int)) (pf5 : F 0 7 = (D 5 : Int)) (pf6 : F 0 8 = (D 6 : Int)) (pf7 : F 0 9 = (D 7 : Int)) (pf8 : F 0 6 = (D 8 : Int)) (n1 : Int) (en1 : (N 1 : Int) = n1) (n2 : Int) (en2 : (N 2 : Int) = n2) (n3 : Int) (en3 : (N 3 : Int) = n3) (n4 : Int) (en4 : (N 4 : Int) = n4) (n5 : Int) (en5 : (N 5 : Int) = n5) (n6 : Int) (en6 : (N 6 : Int) = n6) (n7 : Int) (en7 : (N 7 : Int) = n7) (n8 : Int) (en8 : (N 8 : Int) = n8) (u0_0 : Int) (eu0_0 : F 0 0 = u0_0) (u0_1 : Int) (eu0_1 : F 0 1 = u0_1) (w1 : Int → Int) (ew1 : A 1 = w1) (w2 : Int → Int) (ew2 : A 2 = w2) (w3 : Int → Int) (ew3 : A 3 = w3) (w4 : Int → Int) (ew4 : A 4 = w4) (w5 : Int → Int) (ew5 : A 5 = w5) (w6 : Int → Int) (ew6 : A 6 = w6) (w7 : Int → Int) (ew7 : A 7 = w7) (h0 : inr (a1)) (h1 : SL ((w1)) ((u0_1)) ((u0_0)) ((w2)) ((w3)) ((w4)) ((w5)) ((w6)) ((w7))) (h2 : SZD ((n1)) ((n2)) ((n3)) ((n4)) ((n8)) ((n5)) ((n6)) ((n7)) ((u0_1)) ((u0_0))) (h3 : 0 ≤ (a1) ∧ (a1) < p2 ((u0_0))) (k : ∀ (z : Int) (σ : rS) (Fₚ : hF) (Aₚ : hA), HW V171 σ D N Fₚ Aₚ → OUT (V171).length D N σE c s D N σ c s → SF [] F Fₚ → SA [] A Aₚ → (inr (z)) → ((z) = ((w5)) (a1)) → (0 ≤ (z) ∧ (z) < ((u0_1))) → (((w1)) (z) ≠ 0) → Q (some (I z)) σ c s) : Ew 171 (d + 0) 0 (rargs 0 [.ref (D 0), I a1]) [] σE c s Q := by
  have O := OUT_refl (n := (V171).length) (D := D) (N := N) (σ := σE) (c := c) (s := s)
  have HE := H
  have r1 : (-2147483648 : Int) ≤ u0_0 ∧ u0_0 ≤ 2147483647 := rngE (show (-2147483648 : Int) ≤ F 0 0 ∧ F 0 0 ≤ 2147483647 from H.krg 0 0 (ltn len_V171_oz_G1bcls rfl)) (show F 0 0 = u0_0 from (eu0_0))
  have r2 : (-2147483648 : Int) ≤ u0_1 ∧ u0_1 ≤ 2147483647 := rngE (show (-2147483648 : Int) ≤ F 0 1 ∧ F 0 1 ≤ 2147483647 from H.krg 0 1 (ltn len_V171_oz_G1bcls rfl)) (show F 0 1 = u0_1 from (eu0_1))
  have r3 : (0 : Int) ≤ n1 ∧ n1 ≤ 1000000 := nleE (H.nle 1 (ltn len_V171_oz_G1bcls rfl)) (show (N 1 : Int) = n1 from en1)
  have r4 : (0 : Int) ≤ n2 ∧ n2 ≤ 1000000 := nleE (H.nle 2 (ltn len_V171_oz_G1bcls rfl)) (show (N 2 : Int) = n2 from en2)
  have r5 : (0 : Int) ≤ n3 ∧ n3 ≤ 1000000 := nleE (H.nle 3 (ltn len_V171_oz_G1bcls rfl)) (show (N 3 : Int) = n3 from en3)
  have r6 : (0 : Int) ≤ n4 ∧ n4 ≤ 1000000 := nleE (H.nle 4 (ltn len_V171_oz_G1bcls rfl)) (show (N 4 : Int) = n4 from en4)
  have r7 : (0 : Int) ≤ n5 ∧ n5 ≤ 1000000 := nleE (H.nle 5 (ltn len_V171_oz_G1bcls rfl)) (show (N 5 : Int) = n5 from en5)
  have r8 : (0 : Int) ≤ n6 ∧ n6 ≤ 1000000 := nleE (H.nle 6 (ltn len_V171_oz_G1bcls rfl)) (show (N 6 : Int) = n6 from en6)
  have r9 : (0 : Int) ≤ n7 ∧ n7 ≤ 1000000 := nleE (H.nle 7 (ltn len_V171_oz_G1bcls rfl)) (show (N 7 : Int) = n7 from en7)
  have r10 : (0 : Int) ≤ n8 ∧ n8 ≤ 1000000 := nleE (H.nle 8 (ltn len_V171_oz_G1bcls rfl)) (show (N 8 : Int) = n8 from en8)
  have hszd : SZD ((n1)) ((n2)) ((n3)) ((n4)) ((n8)) ((n5)) ((n6)) ((n7)) ((u0_1)) ((u0_0)) := h2
  unfold SZD at hszd
  refine Ew_of (pcₚ := 1) (fun _ => x_aload_n rfl rfl) ?_
  refine v_g H (o := 0) (v := .ref (D 5)) rfl rfl rfl rfl rfl (vrf (pf5)) ?_
  refine Ew_of (pcₚ := 5) (fun _ => x_iload_n rfl rfl) ?_
  refine v_lI H (o := 5) rfl rfl rfl rfl (n := n5) (en5) (show 0 ≤ a1 ∧ a1 < n5 by omega) (fun v11 ev11 qv11 => ?_)
  have ev11 : (w5) (a1) = v11 := (congrFun (ew5) (a1)).symm.trans ev11
  have hSL : SL ((w1)) ((u0_1)) ((u0_0)) ((w2)) ((w3)) ((w4)) ((w5)) ((w6)) ((w7)) := h1
  have hq := SL_sym hSL (k := (a1)) (by omega) (by omega)
  rw [ev11] at hq
  exact w_ireturn rfl (k (v11) _ _ _ H O (SF_refl) (SA_refl) (show inr (v11) from qv11) (show (v11) = ((w5)) a1 from q_121 ev11) (show 0 ≤ (v11) ∧ (v11) < ((u0_1)) by omega) (show ((w1)) (v11) ≠ 0 by omega))
theorem len_V172_oz_G1bcls : (V172).length = 9 := by decide +kernel

theorem C172o {σE : rS} {D N : Nat → Nat} {F : hF} {A : hA} {d c s : Nat} {Q : wQ} (H : HW V172 σE D N F A) {a1 : Int} (pf1 : F 0 2 = (D 1 : Int)) (pf2 : F 0 3 = (D 2 : Int)) (pf3 : F 0 4 = (D 3 : Int)) (pf4 : F 0 5 = (D 4 : Int)) (pf5 : F 0 7 = (D 5 : Int)) (pf6 : F 0 8 = (D 6 : Int)) (pf7 : F 0 9 = (D 7 : Int)) (pf8 : F 0 6 = (D 8 : Int)) (n1 : Int) (en1 : (N 1 : Int) = n1) (n2 : Int) (en2 : (N 2 : Int) = n2) (n3 : Int) (en3 : (N 3 : Int) = n3) (n4 : Int) (en4 : (N 4 : Int) = n4) (n5 : Int) (en5 : (N 5 : Int) = n5) (n6 : Int) (en6 : (N 6 : Int) = n6) (n7 : Int) (en7 : (N 7 : Int) = n7) (n8 : Int) (en8 : (N 8 : Int) = n8) (u0_0 : Int) (eu0_0 : F 0 0 = u0_0) (u0_1 : Int) (eu0_1 : F 0 1 = u0_1) (w1 : Int → Int) (ew1 : A 1 = w1) (w2 : Int → Int) (ew2 : A 2 = w2) (w3 : Int → Int) (ew3 : A 3 = w3) (w4 : Int → Int) (ew4 : A 4 = w4) (w5 : Int → Int) (ew5 : A 5 = w5) (w6 : Int → Int) (ew6 : A 6 = w6) (w7 : Int → Int) (ew7 : A 7 = w7) (h0 : inr (a1)) (h1 : SL ((w1)) ((u0_1)) ((u0_0)) ((w2)) ((w3)) ((w4)) ((w5)) ((w6)) ((w7))) (h2 : SZD ((n1)) ((n2)) ((n3)) ((n4)) ((n8)) ((n5)) ((n6)) ((n7)) ((u0_1)) ((u0_0))) (h3 : 0 ≤ (a1) ∧ (a1) < p2 ((u0_0))) (k : ∀ (z : Int) (σ : rS) (Fₚ : hF) (Aₚ : hA), HW V172 σ D N Fₚ Aₚ → OUT (V172).length D N σE c s D N σ c s → SF [] F Fₚ → SA [] A Aₚ → (inr (z)) → (BB ((w1)) ((u0_0)) ((w5)) (a1) (z)) → (0 ≤ (z) ∧ (z) ≤ ((u0_0))) → Q (some (I z)) σ c s) : Ew 172 (d + 0) 0 (rargs 0 [.ref (D 0), I a1]) [] σE c s Q := by
  have O := OUT_refl (n := (V172).length) (D := D) (N := N) (σ := σE) (c := c) (s := s)
  have HE := H
  have r1 : (-2147483648 : Int) ≤ u0_0 ∧ u0_0 ≤ 2147483647 := rngE (show (-2147483648 : Int) ≤ F 0 0 ∧ F 0 0 ≤ 2147483647 from H.krg 0 0 (ltn len_V172_oz_G1bcls rfl)) (show F 0 0 = u0_0 from (eu0_0))
  have r2 : (-2147483648 : Int) ≤ u0_1 ∧ u0_1 ≤ 2147483647 := rngE (show (-2147483648 : Int) ≤ F 0 1 ∧ F 0 1 ≤ 2147483647 from H.krg 0 1 (ltn len_V172_oz_G1bcls rfl)) (show F 0 1 = u0_1 from (eu0_1))
  have r3 : (0 : Int) ≤ n1 ∧ n1 ≤ 1000000 := nleE (H.nle 1 (ltn len_V172_oz_G1bcls rfl)) (show (N 1 : Int) = n1 from en1)
  have r4 : (0 : Int) ≤ n2 ∧ n2 ≤ 1000000 := nleE (H.nle 2 (ltn len_V172_oz_G1bcls rfl)) (show (N 2 : Int) = n2 from en2)
  have r5 : (0 : Int) ≤ n3 ∧ n3 ≤ 1000000 := nleE (H.nle 3 (ltn len_V172_oz_G1bcls rfl)) (show (N 3 : Int) = n3 from en3)
  have r6 : (0 : Int) ≤ n4 ∧ n4 ≤ 1000000 := nleE (H.nle 4 (ltn len_V172_oz_G1bcls rfl)) (show (N 4 : Int) = n4 from en4)
  have r7 : (0 : Int) ≤ n5 ∧ n5 ≤ 1000000 := nleE (H.nle 5 (ltn len_V172_oz_G1bcls rfl)) (show (N 5 : Int) = n5 from en5)
  have r8 : (0 : Int) ≤ n6 ∧ n6 ≤ 1000000 := nleE (H.nle 6 (ltn len_V172_oz_G1bcls rfl)) (show (N 6 : Int) = n6 from en6)
  have r9 : (0 : Int) ≤ n7 ∧ n7 ≤ 1000000 := nleE (H.nle 7 (ltn len_V172_oz_G1bcls rfl)) (show (N 7 : Int) = n7 from en7)
  have r10 : (0 : Int) ≤ n8 ∧ n8 ≤ 1000000 := nleE (H.nle 8 (ltn len_V172_oz_G1bcls rfl)) (show (N 8 : Int) = n8 from en8)
  have hszd : SZD ((n1)) ((n2)) ((n3)) ((n4)) ((n8)) ((n5)) ((n6)) ((n7)) ((u0_1)) ((u0_0)) := h2
  unfold SZD at hszd
  have hSL : SL ((w1)) ((u0_1)) ((u0_0)) ((w2)) ((w3)) ((w4)) ((w5)) ((w6)) ((w7)) := h1
  have hq := SL_sym hSL (k := (a1)) (by omega) (by omega)
  have hf := SHD_f hSL.1
  refine Ew_of (pcₚ := 1) (fun _ => x_aload_n rfl rfl) ?_
  refine v_g H (o := 0) (v := .ref (D 3)) rfl rfl rfl rfl rfl (vrf (pf3)) ?_
  refine Ew_of (pcₚ := 5) (fun _ => x_aload_n rfl rfl) ?_
  refine v_g H (o := 0) (v := .ref (D 5)) rfl rfl rfl rfl rfl (vrf (pf5)) ?_
  refine Ew_of (pcₚ := 9) (fun _ => x_iload_n rfl rfl) ?_
  refine v_lI H (o := 5) rfl rfl rfl rfl (n := n5) (en5) (show 0 ≤ a1 ∧ a1 < n5 by omega) (fun v11 ev11 qv11 => ?_)
  have ev11 : (w5) (a1) = v11 := (congrFun (ew5) (a1)).symm.trans ev11
  have hsy := ev11
  rw [hsy] at hq
  refine v_lI H (o := 3) rfl rfl rfl rfl (n := n3) (en3) (show 0 ≤ v11 ∧ v11 < n3 by omega) (fun v12 ev12 qv12 => ?_)
  have ev12 : (w3) (v11) = v12 := (congrFun (ew3) (v11)).symm.trans ev12
  have hbi := ev12
  refine Ew_of (pcₚ := 12) (fun _ => x_istore_n rfl) ?_
  refine Ew_of (pcₚ := 13) (fun _ => x_aload_n rfl (rk_o (rfl) rfl rfl)) ?_
  refine v_g H (o := 0) (v := .ref (D 6)) rfl rfl rfl rfl rfl (vrf (pf6)) ?_
  refine Ew_of (pcₚ := 17) (fun _ => x_iload_n rfl (rk_o (rfl) rfl rfl)) ?_
  refine v_lI H (o := 6) rfl rfl rfl rfl (n := n6) (en6) (show 0 ≤ a1 ∧ a1 < n6 by omega) (fun v13 ev13 qv13 => ?_)
  have ev13 : (w6) (a1) = v13 := (congrFun (ew6) (a1)).symm.trans ev13
  have hnu := ev13
  refine Ew_of (pcₚ := 19) (fun _ => x_aload_n rfl (rk_o (rfl) rfl rfl)) ?_
  refine v_g H (o := 0) (v := I (u0_0)) rfl rfl rfl rfl rfl (congrArg (fun z : Int => I z) ((eu0_0) : F 0 0 = u0_0)) ?_
  refine Ew_of (pcₚ := 23) (fun _ => x_iload_n rfl rk_s) ?_
  refine w_isub rfl ?_
  refine Ew_of (pcₚ := 25) (fun _ => x_iconst rfl) ?_
  refine w_iadd rfl ?_
  refine w_ishrX rfl (show inr (v13) from qv13) (fun z14 gz14 dz14 => ?_)
  have hb0 := hq.2.2.2.2.2.2.2.2.1
  have hbb := BB_of hSL (k := (a1)) (b := (v12)) (z := (z14)) (by omega) (by omega) (by rw [hsy]; omega) (by rw [← hq.2.2.2.1, hnu]; have hb9 := hq.2.2.2.2.2.2.2.2.2 hq.2.2.2.2.1; have hb8 : ((u0_0)) - (v12) < 10 := p2_lt (by omega) (by rw [show p2 10 = 1024 from by decide, ← hbi]; omega); omega)
  refine w_ifle (t := 36) rfl rfl (show inr (z14) by omega) (fun b15 => ?_) (fun b15 => ?_)
  · refine Ew_of (pcₚ := 37) (fun _ => x_iload_n rfl rk_s) ?_
    have hqq : BB ((w1)) ((u0_0)) ((w5)) (a1) ((v12)) := by first | exact hbb.2.2.1 (by omega) | exact hbb.2.2.2 (by omega)
    have hqr := hqq.1
    have hqs := hqq.2.1
    exact w_ireturn rfl (k (v12) _ _ _ H O (SF_refl) (SA_refl) (show inr (v12) from qv12) (hqq) (show 0 ≤ (v12) ∧ (v12) ≤ ((u0_0)) by omega))
  · refine Ew_of (pcₚ := 31) (fun _ => x_iload_n rfl rk_s) ?_
    refine Ew_of (pcₚ := 32) (fun _ => x_iconst rfl) ?_
    refine w_isub rfl ?_
    refine Ew_of (pcₚ := 37) (fun _ => x_goto rfl rfl) ?_
    have hqq : BB ((w1)) ((u0_0)) ((w5)) (a1) (((v12 - 1))) := by first | exact hbb.2.2.1 (by omega) | exact hbb.2.2.2 (by omega)
    have hqr := hqq.1
    have hqs := hqq.2.1
    exact w_ireturn rfl (k ((v12 - 1)) _ _ _ H O (SF_refl) (SA_refl) (show inr ((v12 - 1)) by omega) (hqq) (show 0 ≤ ((v12 - 1)) ∧ ((v12 - 1)) ≤ ((u0_0)) by omega))
theorem len_V173_oz_G1bcls : (V173).length = 9 := by decide +kernel
theorem oz_G1bcls_3 : vsub V173 V172 [0, 1, 2, 3, 4, 5, 6, 7, 8] = true := by decide +kernel
def oz_G1bclsl_0 : List (Nat × Nat) := []
theorem oz_G1bcls_4 : (oz_G1bclsl_0).all (fun p => !tbz 0 (Nat.add (Nat.mul 32 p.1) p.2)) = true := by decide +kernel
def oz_G1bclsl_1 : List Nat := []
theorem oz_G1bcls_5 : (oz_G1bclsl_1).all (fun p => !tbz 0 p) = true := by decide +kernel
def oz_G1bclsl_2 : List Nat := [0, 1, 2, 3, 4, 5, 6, 7, 8]
theorem oz_G1bcls_6 : okc oz_G1bclsl_2 37843603729803343561216 = true := by decide +kernel

theorem C173o {σE : rS} {D N : Nat → Nat} {F : hF} {A : hA} {d c s : Nat} {Q : wQ} (H : HW V173 σE D N F A) {a1 : Int} (pf1 : F 0 2 = (D 1 : Int)) (pf2 : F 0 3 = (D 2 : Int)) (pf3 : F 0 4 = (D 3 : Int)) (pf4 : F 0 5 = (D 4 : Int)) (pf5 : F 0 7 = (D 5 : Int)) (pf6 : F 0 8 = (D 6 : Int)) (pf7 : F 0 9 = (D 7 : Int)) (pf8 : F 0 6 = (D 8 : Int)) (n1 : Int) (en1 : (N 1 : Int) = n1) (n2 : Int) (en2 : (N 2 : Int) = n2) (n3 : Int) (en3 : (N 3 : Int) = n3) (n4 : Int) (en4 : (N 4 : Int) = n4) (n5 : Int) (en5 : (N 5 : Int) = n5) (n6 : Int) (en6 : (N 6 : Int) = n6) (n7 : Int) (en7 : (N 7 : Int) = n7) (n8 : Int) (en8 : (N 8 : Int) = n8) (u0_0 : Int) (eu0_0 : F 0 0 = u0_0) (u0_1 : Int) (eu0_1 : F 0 1 = u0_1) (w1 : Int → Int) (ew1 : A 1 = w1) (w2 : Int → Int) (ew2 : A 2 = w2) (w3 : Int → Int) (ew3 : A 3 = w3) (w4 : Int → Int) (ew4 : A 4 = w4) (w5 : Int → Int) (ew5 : A 5 = w5) (w6 : Int → Int) (ew6 : A 6 = w6) (w7 : Int → Int) (ew7 : A 7 = w7) (h0 : inr (a1)) (h1 : SL ((w1)) ((u0_1)) ((u0_0)) ((w2)) ((w3)) ((w4)) ((w5)) ((w6)) ((w7))) (h2 : SZD ((n1)) ((n2)) ((n3)) ((n4)) ((n8)) ((n5)) ((n6)) ((n7)) ((u0_1)) ((u0_0))) (h3 : 0 ≤ (a1) ∧ (a1) < p2 ((u0_0))) (k : ∀ (z : Int) (σ : rS) (Fₚ : hF) (Aₚ : hA), HW V173 σ D N Fₚ Aₚ → OUT (V173).length D N σE c s D N σ c s → SF [] F Fₚ → SA [] A Aₚ → (inr (z)) → (BAS ((w1)) ((u0_0)) ((w5)) (a1) (z)) → (0 ≤ (z) ∧ (z) < p2 ((u0_0))) → Q (some (I z)) σ c s) : Ew 173 (d + 1) 0 (rargs 0 [.ref (D 0), I a1]) [] σE c s Q := by
  have O := OUT_refl (n := (V173).length) (D := D) (N := N) (σ := σE) (c := c) (s := s)
  have HE := H
  have r1 : (-2147483648 : Int) ≤ u0_0 ∧ u0_0 ≤ 2147483647 := rngE (show (-2147483648 : Int) ≤ F 0 0 ∧ F 0 0 ≤ 2147483647 from H.krg 0 0 (ltn len_V173_oz_G1bcls rfl)) (show F 0 0 = u0_0 from (eu0_0))
  have r2 : (-2147483648 : Int) ≤ u0_1 ∧ u0_1 ≤ 2147483647 := rngE (show (-2147483648 : Int) ≤ F 0 1 ∧ F 0 1 ≤ 2147483647 from H.krg 0 1 (ltn len_V173_oz_G1bcls rfl)) (show F 0 1 = u0_1 from (eu0_1))
  have r3 : (0 : Int) ≤ n1 ∧ n1 ≤ 1000000 := nleE (H.nle 1 (ltn len_V173_oz_G1bcls rfl)) (show (N 1 : Int) = n1 from en1)
  have r4 : (0 : Int) ≤ n2 ∧ n2 ≤ 1000000 := nleE (H.nle 2 (ltn len_V173_oz_G1bcls rfl)) (show (N 2 : Int) = n2 from en2)
  have r5 : (0 : Int) ≤ n3 ∧ n3 ≤ 1000000 := nleE (H.nle 3 (ltn len_V173_oz_G1bcls rfl)) (show (N 3 : Int) = n3 from en3)
  have r6 : (0 : Int) ≤ n4 ∧ n4 ≤ 1000000 := nleE (H.nle 4 (ltn len_V173_oz_G1bcls rfl)) (show (N 4 : Int) = n4 from en4)
  have r7 : (0 : Int) ≤ n5 ∧ n5 ≤ 1000000 := nleE (H.nle 5 (ltn len_V173_oz_G1bcls rfl)) (show (N 5 : Int) = n5 from en5)
  have r8 : (0 : Int) ≤ n6 ∧ n6 ≤ 1000000 := nleE (H.nle 6 (ltn len_V173_oz_G1bcls rfl)) (show (N 6 : Int) = n6 from en6)
  have r9 : (0 : Int) ≤ n7 ∧ n7 ≤ 1000000 := nleE (H.nle 7 (ltn len_V173_oz_G1bcls rfl)) (show (N 7 : Int) = n7 from en7)
  have r10 : (0 : Int) ≤ n8 ∧ n8 ≤ 1000000 := nleE (H.nle 8 (ltn len_V173_oz_G1bcls rfl)) (show (N 8 : Int) = n8 from en8)
  have hszd : SZD ((n1)) ((n2)) ((n3)) ((n4)) ((n8)) ((n5)) ((n6)) ((n7)) ((u0_1)) ((u0_0)) := h2
  unfold SZD at hszd
  have hSL : SL ((w1)) ((u0_1)) ((u0_0)) ((w2)) ((w3)) ((w4)) ((w5)) ((w6)) ((w7)) := h1
  have hq := SL_sym hSL (k := (a1)) (by omega) (by omega)
  have hf := SHD_f hSL.1
  refine Ew_of (pcₚ := 1) (fun _ => x_aload_n rfl rfl) ?_
  refine v_g H (o := 0) (v := .ref (D 6)) rfl rfl rfl rfl rfl (vrf (pf6)) ?_
  refine Ew_of (pcₚ := 5) (fun _ => x_iload_n rfl rfl) ?_
  refine v_lI H (o := 6) rfl rfl rfl rfl (n := n6) (en6) (show 0 ≤ a1 ∧ a1 < n6 by omega) (fun v11 ev11 qv11 => ?_)
  have ev11 : (w6) (a1) = v11 := (congrFun (ew6) (a1)).symm.trans ev11
  have hnu := ev11
  refine Ew_of (pcₚ := 7) (fun _ => x_aload_n rfl rfl) ?_
  refine Ew_of (pcₚ := 8) (fun _ => x_iload_n rfl rfl) ?_
  refine v_inv H (o := 0) rfl rfl rfl rfl rfl rfl (by rfl) (C172o (D := puc 37843603729803343561216 D) (N := puc 37843603729803343561216 N) (HW_subc H oz_G1bcls_3 oz_G1bcls_6) (pf1) (pf2) (pf3) (pf4) (pf5) (pf6) (pf7) (pf8) (n1) (en1) (n2) (en2) (n3) (en3) (n4) (en4) (n5) (en5) (n6) (en6) (n7) (en7) (n8) (en8) (u0_0) ((eu0_0)) (u0_1) ((eu0_1)) (w1) (ew1) (w2) (ew2) (w3) (ew3) (w4) (ew4) (w5) (ew5) (w6) (ew6) (w7) (ew7) (show inr (a1) from h0) (hSL) (h2) (show 0 ≤ (a1) ∧ (a1) < p2 ((u0_0)) from h3) (fun z12 σ12 F12ₚ A12ₚ Hₚ Oₚ hS12 hA12 pz12_0 pz12_1 pz12_2 => ⟨rfl, ?_⟩))
  refine v_backc (c := c) (s := s) H oz_G1bcls_3 oz_G1bcls_6 Hₚ Oₚ (fun F12 A12 H Oₚ eF12 eA12 => ?_)
  have O := OUT_trans O Oₚ
  -- Share.bitsBehind
  have cF12 : SF oz_G1bclsl_0 F F12 := SF_trans (SF_refl) (SF_gluc (ι := oz_G1bclsl_2) oz_G1bcls_6 hS12 eF12 (by decide +kernel)) (any_sub (lₚ := []) (by decide +kernel))
  have mF12 := SFm_of cF12 oz_G1bcls_4
  have cA12 : SA oz_G1bclsl_1 A A12 := SA_trans (SA_refl) (SA_gluc (ι := oz_G1bclsl_2) oz_G1bcls_6 hA12 eA12 (by decide +kernel)) (any_subA (lₚ := []) (by decide +kernel))
  have mA12 := SAm_of cA12 oz_G1bcls_5
  have hbb := pz12_1
  have hm := BB_mul (by omega) hbb
  rw [← hq.2.2.2.1, hnu] at hm
  have hpp := p2_pos ((z12))
  refine w_ishlT rfl (show 0 ≤ z12 ∧ z12 ≤ 31 by omega) ?_
  refine Ew_of (pcₚ := 13) (fun _ => x_iconst rfl) ?_
  refine Ew_of (pcₚ := 14) (fun _ => x_aload_n rfl rfl) ?_
  refine v_g H (o := 0) (v := I (u0_0)) rfl rfl rfl rfl rfl (congrArg (fun z : Int => I z) (((mF12 0 0 rfl).trans (eu0_0)) : F12 0 0 = u0_0)) ?_
  refine w_ishl1 rfl (show 0 ≤ u0_0 ∧ u0_0 ≤ 31 by omega) ?_
  refine w_isub rfl ?_
  have hbs : BAS ((w1)) ((u0_0)) ((w5)) (a1) ((((v11 * p2 (z12)) - p2 (u0_0)))) := BAS_of (by omega) hbb (by rw [← hq.2.2.2.1, hnu])
  have hbt := hbs _ hbb
  exact w_ireturn rfl (k (((v11 * p2 (z12)) - p2 (u0_0))) _ _ _ H O (cF12) (cA12) (show inr (((v11 * p2 (z12)) - p2 (u0_0))) by omega) (hbs) (show 0 ≤ (((v11 * p2 (z12)) - p2 (u0_0))) ∧ (((v11 * p2 (z12)) - p2 (u0_0))) < p2 ((u0_0)) by omega))
theorem len_V174_oz_G1bcls : (V174).length = 9 := by decide +kernel

theorem C174o {σE : rS} {D N : Nat → Nat} {F : hF} {A : hA} {d c s : Nat} {Q : wQ} (H : HW V174 σE D N F A) {a1 : Int} (pf1 : F 0 2 = (D 1 : Int)) (pf2 : F 0 3 = (D 2 : Int)) (pf3 : F 0 4 = (D 3 : Int)) (pf4 : F 0 5 = (D 4 : Int)) (pf5 : F 0 7 = (D 5 : Int)) (pf6 : F 0 8 = (D 6 : Int)) (pf7 : F 0 9 = (D 7 : Int)) (pf8 : F 0 6 = (D 8 : Int)) (n1 : Int) (en1 : (N 1 : Int) = n1) (n2 : Int) (en2 : (N 2 : Int) = n2) (n3 : Int) (en3 : (N 3 : Int) = n3) (n4 : Int) (en4 : (N 4 : Int) = n4) (n5 : Int) (en5 : (N 5 : Int) = n5) (n6 : Int) (en6 : (N 6 : Int) = n6) (n7 : Int) (en7 : (N 7 : Int) = n7) (n8 : Int) (en8 : (N 8 : Int) = n8) (u0_0 : Int) (eu0_0 : F 0 0 = u0_0) (u0_1 : Int) (eu0_1 : F 0 1 = u0_1) (w1 : Int → Int) (ew1 : A 1 = w1) (w2 : Int → Int) (ew2 : A 2 = w2) (w3 : Int → Int) (ew3 : A 3 = w3) (w4 : Int → Int) (ew4 : A 4 = w4) (w5 : Int → Int) (ew5 : A 5 = w5) (w6 : Int → Int) (ew6 : A 6 = w6) (w7 : Int → Int) (ew7 : A 7 = w7) (h0 : inr (a1)) (h1 : SL ((w1)) ((u0_1)) ((u0_0)) ((w2)) ((w3)) ((w4)) ((w5)) ((w6)) ((w7))) (h2 : SZD ((n1)) ((n2)) ((n3)) ((n4)) ((n8)) ((n5)) ((n6)) ((n7)) ((u0_1)) ((u0_0))) (h3 : 0 ≤ (a1) ∧ (a1) < ((u0_1)) ∧ ((w1)) (a1) ≠ 0) (k : ∀ (z : Int) (σ : rS) (Fₚ : hF) (Aₚ : hA), HW V174 σ D N Fₚ Aₚ → OUT (V174).length D N σE c s D N σ c s → SF [] F Fₚ → SA [] A Aₚ → (inr (z)) → (0 ≤ (z) ∧ (z) < p2 ((u0_0))) → (((w5)) (z) = (a1) ∧ XN ((w1)) ((w5)) (z) = mass (((w1)) (a1))) → Q (some (I z)) σ c s) : Ew 174 (d + 0) 0 (rargs 0 [.ref (D 0), I a1]) [] σE c s Q := by
  have O := OUT_refl (n := (V174).length) (D := D) (N := N) (σ := σE) (c := c) (s := s)
  have HE := H
  have r1 : (-2147483648 : Int) ≤ u0_0 ∧ u0_0 ≤ 2147483647 := rngE (show (-2147483648 : Int) ≤ F 0 0 ∧ F 0 0 ≤ 2147483647 from H.krg 0 0 (ltn len_V174_oz_G1bcls rfl)) (show F 0 0 = u0_0 from (eu0_0))
  have r2 : (-2147483648 : Int) ≤ u0_1 ∧ u0_1 ≤ 2147483647 := rngE (show (-2147483648 : Int) ≤ F 0 1 ∧ F 0 1 ≤ 2147483647 from H.krg 0 1 (ltn len_V174_oz_G1bcls rfl)) (show F 0 1 = u0_1 from (eu0_1))
  have r3 : (0 : Int) ≤ n1 ∧ n1 ≤ 1000000 := nleE (H.nle 1 (ltn len_V174_oz_G1bcls rfl)) (show (N 1 : Int) = n1 from en1)
  have r4 : (0 : Int) ≤ n2 ∧ n2 ≤ 1000000 := nleE (H.nle 2 (ltn len_V174_oz_G1bcls rfl)) (show (N 2 : Int) = n2 from en2)
  have r5 : (0 : Int) ≤ n3 ∧ n3 ≤ 1000000 := nleE (H.nle 3 (ltn len_V174_oz_G1bcls rfl)) (show (N 3 : Int) = n3 from en3)
  have r6 : (0 : Int) ≤ n4 ∧ n4 ≤ 1000000 := nleE (H.nle 4 (ltn len_V174_oz_G1bcls rfl)) (show (N 4 : Int) = n4 from en4)
  have r7 : (0 : Int) ≤ n5 ∧ n5 ≤ 1000000 := nleE (H.nle 5 (ltn len_V174_oz_G1bcls rfl)) (show (N 5 : Int) = n5 from en5)
  have r8 : (0 : Int) ≤ n6 ∧ n6 ≤ 1000000 := nleE (H.nle 6 (ltn len_V174_oz_G1bcls rfl)) (show (N 6 : Int) = n6 from en6)
  have r9 : (0 : Int) ≤ n7 ∧ n7 ≤ 1000000 := nleE (H.nle 7 (ltn len_V174_oz_G1bcls rfl)) (show (N 7 : Int) = n7 from en7)
  have r10 : (0 : Int) ≤ n8 ∧ n8 ≤ 1000000 := nleE (H.nle 8 (ltn len_V174_oz_G1bcls rfl)) (show (N 8 : Int) = n8 from en8)
  have hszd : SZD ((n1)) ((n2)) ((n3)) ((n4)) ((n8)) ((n5)) ((n6)) ((n7)) ((u0_1)) ((u0_0)) := h2
  unfold SZD at hszd
  have hSL : SL ((w1)) ((u0_1)) ((u0_0)) ((w2)) ((w3)) ((w4)) ((w5)) ((w6)) ((w7)) := h1
  have hms := mass_eq (((w1)) (a1))
  have hat := SHD_at hSL.1 (s := (a1)) (by omega) (by omega)
  have hpl := PL_at hSL (s := (a1)) (i := 0) (by omega) (by omega) (by omega) (by omega)
  rw [Int.add_zero, Int.add_zero] at hpl
  refine Ew_of (pcₚ := 1) (fun _ => x_aload_n rfl rfl) ?_
  refine v_g H (o := 0) (v := .ref (D 7)) rfl rfl rfl rfl rfl (vrf (pf7)) ?_
  refine Ew_of (pcₚ := 5) (fun _ => x_aload_n rfl rfl) ?_
  refine v_g H (o := 0) (v := .ref (D 4)) rfl rfl rfl rfl rfl (vrf (pf4)) ?_
  refine Ew_of (pcₚ := 9) (fun _ => x_iload_n rfl rfl) ?_
  refine v_lI H (o := 4) rfl rfl rfl rfl (n := n4) (en4) (show 0 ≤ a1 ∧ a1 < n4 by omega) (fun v11 ev11 qv11 => ?_)
  have ev11 : (w4) (a1) = v11 := (congrFun (ew4) (a1)).symm.trans ev11
  have hst := ev11
  rw [hst] at hpl
  refine v_lI H (o := 7) rfl rfl rfl rfl (n := n7) (en7) (show 0 ≤ v11 ∧ v11 < n7 by omega) (fun v12 ev12 qv12 => ?_)
  have ev12 : (w7) (v11) = v12 := (congrFun (ew7) (v11)).symm.trans ev12
  have hpe := ev12
  rw [hpe] at hpl
  exact w_ireturn rfl (k (v12) _ _ _ H O (SF_refl) (SA_refl) (show inr (v12) from qv12) (show 0 ≤ (v12) ∧ (v12) < p2 ((u0_0)) by omega) (show ((w5)) (v12) = a1 ∧ XN ((w1)) ((w5)) (v12) = mass (((w1)) a1) by omega))
theorem len_V175_oz_G1bcls : (V175).length = 9 := by decide +kernel

theorem C175o {σE : rS} {D N : Nat → Nat} {F : hF} {A : hA} {d c s : Nat} {Q : wQ} (H : HW V175 σE D N F A) {a1 a2 : Int} (pf1 : F 0 2 = (D 1 : Int)) (pf2 : F 0 3 = (D 2 : Int)) (pf3 : F 0 4 = (D 3 : Int)) (pf4 : F 0 5 = (D 4 : Int)) (pf5 : F 0 7 = (D 5 : Int)) (pf6 : F 0 8 = (D 6 : Int)) (pf7 : F 0 9 = (D 7 : Int)) (pf8 : F 0 6 = (D 8 : Int)) (n1 : Int) (en1 : (N 1 : Int) = n1) (n2 : Int) (en2 : (N 2 : Int) = n2) (n3 : Int) (en3 : (N 3 : Int) = n3) (n4 : Int) (en4 : (N 4 : Int) = n4) (n5 : Int) (en5 : (N 5 : Int) = n5) (n6 : Int) (en6 : (N 6 : Int) = n6) (n7 : Int) (en7 : (N 7 : Int) = n7) (n8 : Int) (en8 : (N 8 : Int) = n8) (u0_0 : Int) (eu0_0 : F 0 0 = u0_0) (u0_1 : Int) (eu0_1 : F 0 1 = u0_1) (w1 : Int → Int) (ew1 : A 1 = w1) (w2 : Int → Int) (ew2 : A 2 = w2) (w3 : Int → Int) (ew3 : A 3 = w3) (w4 : Int → Int) (ew4 : A 4 = w4) (w5 : Int → Int) (ew5 : A 5 = w5) (w6 : Int → Int) (ew6 : A 6 = w6) (w7 : Int → Int) (ew7 : A 7 = w7) (h0 : inr (a1)) (h1 : inr (a2)) (h2 : SL ((w1)) ((u0_1)) ((u0_0)) ((w2)) ((w3)) ((w4)) ((w5)) ((w6)) ((w7))) (h3 : SZD ((n1)) ((n2)) ((n3)) ((n4)) ((n8)) ((n5)) ((n6)) ((n7)) ((u0_1)) ((u0_0))) (h4 : 0 ≤ (a1) ∧ (a1) < p2 ((u0_0))) (h5 : 0 ≤ (a2) ∧ (a2) < ((u0_1)) ∧ ((w1)) (a2) ≠ 0) (k : ∀ (z : Int) (σ : rS) (Fₚ : hF) (Aₚ : hA), HW V175 σ D N Fₚ Aₚ → OUT (V175).length D N σE c s D N σ c s → SF [] F Fₚ → SA [] A Aₚ → (inr (z)) → (BA (mass (((w1)) (a2))) ((u0_0)) (a1) (z)) → (0 ≤ (z) ∧ (z) ≤ ((u0_0))) → Q (some (I z)) σ c s) : Ew 175 (d + 0) 0 (rargs 0 [.ref (D 0), I a1, I a2]) [] σE c s Q := by
  have O := OUT_refl (n := (V175).length) (D := D) (N := N) (σ := σE) (c := c) (s := s)
  have HE := H
  have r1 : (-2147483648 : Int) ≤ u0_0 ∧ u0_0 ≤ 2147483647 := rngE (show (-2147483648 : Int) ≤ F 0 0 ∧ F 0 0 ≤ 2147483647 from H.krg 0 0 (ltn len_V175_oz_G1bcls rfl)) (show F 0 0 = u0_0 from (eu0_0))
  have r2 : (-2147483648 : Int) ≤ u0_1 ∧ u0_1 ≤ 2147483647 := rngE (show (-2147483648 : Int) ≤ F 0 1 ∧ F 0 1 ≤ 2147483647 from H.krg 0 1 (ltn len_V175_oz_G1bcls rfl)) (show F 0 1 = u0_1 from (eu0_1))
  have r3 : (0 : Int) ≤ n1 ∧ n1 ≤ 1000000 := nleE (H.nle 1 (ltn len_V175_oz_G1bcls rfl)) (show (N 1 : Int) = n1 from en1)
  have r4 : (0 : Int) ≤ n2 ∧ n2 ≤ 1000000 := nleE (H.nle 2 (ltn len_V175_oz_G1bcls rfl)) (show (N 2 : Int) = n2 from en2)
  have r5 : (0 : Int) ≤ n3 ∧ n3 ≤ 1000000 := nleE (H.nle 3 (ltn len_V175_oz_G1bcls rfl)) (show (N 3 : Int) = n3 from en3)
  have r6 : (0 : Int) ≤ n4 ∧ n4 ≤ 1000000 := nleE (H.nle 4 (ltn len_V175_oz_G1bcls rfl)) (show (N 4 : Int) = n4 from en4)
  have r7 : (0 : Int) ≤ n5 ∧ n5 ≤ 1000000 := nleE (H.nle 5 (ltn len_V175_oz_G1bcls rfl)) (show (N 5 : Int) = n5 from en5)
  have r8 : (0 : Int) ≤ n6 ∧ n6 ≤ 1000000 := nleE (H.nle 6 (ltn len_V175_oz_G1bcls rfl)) (show (N 6 : Int) = n6 from en6)
  have r9 : (0 : Int) ≤ n7 ∧ n7 ≤ 1000000 := nleE (H.nle 7 (ltn len_V175_oz_G1bcls rfl)) (show (N 7 : Int) = n7 from en7)
  have r10 : (0 : Int) ≤ n8 ∧ n8 ≤ 1000000 := nleE (H.nle 8 (ltn len_V175_oz_G1bcls rfl)) (show (N 8 : Int) = n8 from en8)
  have hszd : SZD ((n1)) ((n2)) ((n3)) ((n4)) ((n8)) ((n5)) ((n6)) ((n7)) ((u0_1)) ((u0_0)) := h3
  unfold SZD at hszd
  have hSL : SL ((w1)) ((u0_1)) ((u0_0)) ((w2)) ((w3)) ((w4)) ((w5)) ((w6)) ((w7)) := h2
  have hms := mass_eq (((w1)) (a2))
  have hat := SHD_at hSL.1 (s := (a2)) (by omega) (by omega)
  have hf := SHD_f hSL.1
  refine Ew_of (pcₚ := 1) (fun _ => x_aload_n rfl rfl) ?_
  refine v_g H (o := 0) (v := .ref (D 3)) rfl rfl rfl rfl rfl (vrf (pf3)) ?_
  refine Ew_of (pcₚ := 5) (fun _ => x_iload_n rfl rfl) ?_
  refine v_lI H (o := 3) rfl rfl rfl rfl (n := n3) (en3) (show 0 ≤ a2 ∧ a2 < n3 by omega) (fun v11 ev11 qv11 => ?_)
  have ev11 : (w3) (a2) = v11 := (congrFun (ew3) (a2)).symm.trans ev11
  have hbi := ev11
  have hba := fun z ez => BA_of (m := mass (((w1)) (a2))) (L := ((u0_0))) (y := (a1)) (b := (v11)) (z := z) ⟨by omega, by omega⟩ (by omega) (by omega) (by omega) (by omega) (by rw [← hbi]; exact hSL.2.2.2.2.1 _ (by omega) (by omega)) ez
  have hb1 := hba _ rfl
  refine Ew_of (pcₚ := 7) (fun _ => x_istore_n rfl) ?_
  refine Ew_of (pcₚ := 8) (fun _ => x_iload_n rfl (rk_o (rfl) rfl rfl)) ?_
  refine Ew_of (pcₚ := 9) (fun _ => x_iconst rfl) ?_
  refine Ew_of (pcₚ := 10) (fun _ => x_aload_n rfl (rk_o (rfl) rfl rfl)) ?_
  refine v_g H (o := 0) (v := I (u0_0)) rfl rfl rfl rfl rfl (congrArg (fun z : Int => I z) ((eu0_0) : F 0 0 = u0_0)) ?_
  refine w_ishl1 rfl (show 0 ≤ u0_0 ∧ u0_0 ≤ 31 by omega) ?_
  refine w_iadd rfl ?_
  refine Ew_of (pcₚ := 16) (fun _ => x_iload_n rfl rk_s) ?_
  refine w_ishrX rfl (show inr ((a1 + p2 (u0_0))) by omega) (fun z13 gz13 dz13 => ?_)
  have hz : ((z13) : Int) = ((a1) + p2 ((u0_0))) / p2 ((v11)) := by omega
  have hb2 := hba _ hz
  refine Ew_of (pcₚ := 18) (fun _ => x_aload_n rfl (rk_o (rfl) rfl rfl)) ?_
  refine v_g H (o := 0) (v := .ref (D 2)) rfl rfl rfl rfl rfl (vrf (pf2)) ?_
  refine Ew_of (pcₚ := 22) (fun _ => x_iload_n rfl (rk_o (rfl) rfl rfl)) ?_
  refine v_lI H (o := 2) rfl rfl rfl rfl (n := n2) (en2) (show 0 ≤ a2 ∧ a2 < n2 by omega) (fun v14 ev14 qv14 => ?_)
  have ev14 : (w2) (a2) = v14 := (congrFun (ew2) (a2)).symm.trans ev14
  have hma := ev14
  rw [hSL.2.2.1 _ (by omega) (by omega)] at hma
  refine w_icmpge (t := 32) rfl rfl (show inr (z13) by omega) (show inr (v14) from qv14) (fun b15 => ?_) (fun b15 => ?_)
  · refine Ew_of (pcₚ := 33) (fun _ => x_iload_n rfl rk_s) ?_
    have hqq : BA (mass (((w1)) (a2))) ((u0_0)) (a1) ((v11)) := by first | exact hb2.2.2.1 (by omega) | exact hb2.2.2.2 (by omega)
    have hqr := hqq.1
    have hqs := hqq.2.1
    exact w_ireturn rfl (k (v11) _ _ _ H O (SF_refl) (SA_refl) (show inr (v11) from qv11) (hqq) (show 0 ≤ (v11) ∧ (v11) ≤ ((u0_0)) by omega))
  · refine Ew_of (pcₚ := 27) (fun _ => x_iload_n rfl rk_s) ?_
    refine Ew_of (pcₚ := 28) (fun _ => x_iconst rfl) ?_
    refine w_isub rfl ?_
    refine Ew_of (pcₚ := 33) (fun _ => x_goto rfl rfl) ?_
    have hqq : BA (mass (((w1)) (a2))) ((u0_0)) (a1) (((v11 - 1))) := by first | exact hb2.2.2.1 (by omega) | exact hb2.2.2.2 (by omega)
    have hqr := hqq.1
    have hqs := hqq.2.1
    exact w_ireturn rfl (k ((v11 - 1)) _ _ _ H O (SF_refl) (SA_refl) (show inr ((v11 - 1)) by omega) (hqq) (show 0 ≤ ((v11 - 1)) ∧ ((v11 - 1)) ≤ ((u0_0)) by omega))
theorem len_V176_oz_G1bcls : (V176).length = 9 := by decide +kernel

theorem C176o {σE : rS} {D N : Nat → Nat} {F : hF} {A : hA} {d c s : Nat} {Q : wQ} (H : HW V176 σE D N F A) {a1 a2 a3 : Int} (pf1 : F 0 2 = (D 1 : Int)) (pf2 : F 0 3 = (D 2 : Int)) (pf3 : F 0 4 = (D 3 : Int)) (pf4 : F 0 5 = (D 4 : Int)) (pf5 : F 0 7 = (D 5 : Int)) (pf6 : F 0 8 = (D 6 : Int)) (pf7 : F 0 9 = (D 7 : Int)) (pf8 : F 0 6 = (D 8 : Int)) (n1 : Int) (en1 : (N 1 : Int) = n1) (n2 : Int) (en2 : (N 2 : Int) = n2) (n3 : Int) (en3 : (N 3 : Int) = n3) (n4 : Int) (en4 : (N 4 : Int) = n4) (n5 : Int) (en5 : (N 5 : Int) = n5) (n6 : Int) (en6 : (N 6 : Int) = n6) (n7 : Int) (en7 : (N 7 : Int) = n7) (n8 : Int) (en8 : (N 8 : Int) = n8) (u0_0 : Int) (eu0_0 : F 0 0 = u0_0) (u0_1 : Int) (eu0_1 : F 0 1 = u0_1) (w1 : Int → Int) (ew1 : A 1 = w1) (w2 : Int → Int) (ew2 : A 2 = w2) (w3 : Int → Int) (ew3 : A 3 = w3) (w4 : Int → Int) (ew4 : A 4 = w4) (w5 : Int → Int) (ew5 : A 5 = w5) (w6 : Int → Int) (ew6 : A 6 = w6) (w7 : Int → Int) (ew7 : A 7 = w7) (h0 : inr (a1)) (h1 : inr (a2)) (h2 : inr (a3)) (h3 : SL ((w1)) ((u0_1)) ((u0_0)) ((w2)) ((w3)) ((w4)) ((w5)) ((w6)) ((w7))) (h4 : SZD ((n1)) ((n2)) ((n3)) ((n4)) ((n8)) ((n5)) ((n6)) ((n7)) ((u0_1)) ((u0_0))) (h5 : 0 ≤ (a1) ∧ (a1) < p2 ((u0_0))) (h6 : 0 ≤ (a2) ∧ (a2) < ((u0_1)) ∧ ((w1)) (a2) ≠ 0) (h7 : BA (mass (((w1)) (a2))) ((u0_0)) (a1) (a3)) (k : ∀ (z : Int) (σ : rS) (Fₚ : hF) (Aₚ : hA), HW V176 σ D N Fₚ Aₚ → OUT (V176).length D N σE c s D N σ c s → SF [] F Fₚ → SA [] A Aₚ → (inr (z)) → (0 ≤ (z) ∧ (z) < p2 ((u0_0))) → (((w5)) (z) = (a2) ∧ XN ((w1)) ((w5)) (z) = ((a1) + p2 ((u0_0))) / p2 (a3)) → Q (some (I z)) σ c s) : Ew 176 (d + 0) 0 (rargs 0 [.ref (D 0), I a1, I a2, I a3]) [] σE c s Q := by
  have O := OUT_refl (n := (V176).length) (D := D) (N := N) (σ := σE) (c := c) (s := s)
  have HE := H
  have r1 : (-2147483648 : Int) ≤ u0_0 ∧ u0_0 ≤ 2147483647 := rngE (show (-2147483648 : Int) ≤ F 0 0 ∧ F 0 0 ≤ 2147483647 from H.krg 0 0 (ltn len_V176_oz_G1bcls rfl)) (show F 0 0 = u0_0 from (eu0_0))
  have r2 : (-2147483648 : Int) ≤ u0_1 ∧ u0_1 ≤ 2147483647 := rngE (show (-2147483648 : Int) ≤ F 0 1 ∧ F 0 1 ≤ 2147483647 from H.krg 0 1 (ltn len_V176_oz_G1bcls rfl)) (show F 0 1 = u0_1 from (eu0_1))
  have r3 : (0 : Int) ≤ n1 ∧ n1 ≤ 1000000 := nleE (H.nle 1 (ltn len_V176_oz_G1bcls rfl)) (show (N 1 : Int) = n1 from en1)
  have r4 : (0 : Int) ≤ n2 ∧ n2 ≤ 1000000 := nleE (H.nle 2 (ltn len_V176_oz_G1bcls rfl)) (show (N 2 : Int) = n2 from en2)
  have r5 : (0 : Int) ≤ n3 ∧ n3 ≤ 1000000 := nleE (H.nle 3 (ltn len_V176_oz_G1bcls rfl)) (show (N 3 : Int) = n3 from en3)
  have r6 : (0 : Int) ≤ n4 ∧ n4 ≤ 1000000 := nleE (H.nle 4 (ltn len_V176_oz_G1bcls rfl)) (show (N 4 : Int) = n4 from en4)
  have r7 : (0 : Int) ≤ n5 ∧ n5 ≤ 1000000 := nleE (H.nle 5 (ltn len_V176_oz_G1bcls rfl)) (show (N 5 : Int) = n5 from en5)
  have r8 : (0 : Int) ≤ n6 ∧ n6 ≤ 1000000 := nleE (H.nle 6 (ltn len_V176_oz_G1bcls rfl)) (show (N 6 : Int) = n6 from en6)
  have r9 : (0 : Int) ≤ n7 ∧ n7 ≤ 1000000 := nleE (H.nle 7 (ltn len_V176_oz_G1bcls rfl)) (show (N 7 : Int) = n7 from en7)
  have r10 : (0 : Int) ≤ n8 ∧ n8 ≤ 1000000 := nleE (H.nle 8 (ltn len_V176_oz_G1bcls rfl)) (show (N 8 : Int) = n8 from en8)
  have hszd : SZD ((n1)) ((n2)) ((n3)) ((n4)) ((n8)) ((n5)) ((n6)) ((n7)) ((u0_1)) ((u0_0)) := h4
  unfold SZD at hszd
  have hSL : SL ((w1)) ((u0_1)) ((u0_0)) ((w2)) ((w3)) ((w4)) ((w5)) ((w6)) ((w7)) := h3
  have hba : BA (mass (((w1)) (a2))) ((u0_0)) (a1) (a3) := h7
  have hbr := hba.1
  have hbs := hba.2.1
  have hbt := hba.2.2.1
  have hbu := hba.2.2.2
  have hf := SHD_f hSL.1
  have hat := SHD_at hSL.1 (s := (a2)) (by omega) (by omega)
  have hpl := PL_at hSL (s := (a2)) (i := ((a1) + p2 ((u0_0))) / p2 (a3) - mass (((w1)) (a2))) (by omega) (by omega) (by omega) (by omega)
  refine Ew_of (pcₚ := 1) (fun _ => x_aload_n rfl rfl) ?_
  refine v_g H (o := 0) (v := .ref (D 7)) rfl rfl rfl rfl rfl (vrf (pf7)) ?_
  refine Ew_of (pcₚ := 5) (fun _ => x_aload_n rfl rfl) ?_
  refine v_g H (o := 0) (v := .ref (D 4)) rfl rfl rfl rfl rfl (vrf (pf4)) ?_
  refine Ew_of (pcₚ := 9) (fun _ => x_iload_n rfl rfl) ?_
  refine v_lI H (o := 4) rfl rfl rfl rfl (n := n4) (en4) (show 0 ≤ a2 ∧ a2 < n4 by omega) (fun v11 ev11 qv11 => ?_)
  have ev11 : (w4) (a2) = v11 := (congrFun (ew4) (a2)).symm.trans ev11
  have hst := ev11
  rw [hst] at hpl
  obtain ⟨ix, hix⟩ : ∃ ix, ix = (v11) + (((a1) + p2 ((u0_0))) / p2 (a3) - mass (((w1)) (a2))) := ⟨_, rfl⟩
  rw [← hix] at hpl
  refine Ew_of (pcₚ := 11) (fun _ => x_iload_n rfl rfl) ?_
  refine Ew_of (pcₚ := 12) (fun _ => x_iconst rfl) ?_
  refine Ew_of (pcₚ := 13) (fun _ => x_aload_n rfl rfl) ?_
  refine v_g H (o := 0) (v := I (u0_0)) rfl rfl rfl rfl rfl (congrArg (fun z : Int => I z) ((eu0_0) : F 0 0 = u0_0)) ?_
  refine w_ishl1 rfl (show 0 ≤ u0_0 ∧ u0_0 ≤ 31 by omega) ?_
  refine w_iadd rfl ?_
  refine Ew_of (pcₚ := 19) (fun _ => x_iload_n rfl rfl) ?_
  refine w_ishrX rfl (show inr ((a1 + p2 (u0_0))) by omega) (fun z13 gz13 dz13 => ?_)
  have hz : ((z13) : Int) = ((a1) + p2 ((u0_0))) / p2 (a3) := by omega
  refine w_iadd rfl ?_
  refine Ew_of (pcₚ := 22) (fun _ => x_aload_n rfl rfl) ?_
  refine v_g H (o := 0) (v := .ref (D 2)) rfl rfl rfl rfl rfl (vrf (pf2)) ?_
  refine Ew_of (pcₚ := 26) (fun _ => x_iload_n rfl rfl) ?_
  refine v_lI H (o := 2) rfl rfl rfl rfl (n := n2) (en2) (show 0 ≤ a2 ∧ a2 < n2 by omega) (fun v14 ev14 qv14 => ?_)
  have ev14 : (w2) (a2) = v14 := (congrFun (ew2) (a2)).symm.trans ev14
  have hma := ev14
  rw [hSL.2.2.1 _ (by omega) (by omega)] at hma
  refine w_isub rfl ?_
  have hie : ix = (((v11 + z13) - v14)) := by omega
  rw [hie] at hpl
  refine v_lI H (o := 7) rfl rfl rfl rfl (n := n7) (en7) (show 0 ≤ ((v11 + z13) - v14) ∧ ((v11 + z13) - v14) < n7 by omega) (fun v15 ev15 qv15 => ?_)
  have ev15 : (w7) (((v11 + z13) - v14)) = v15 := (congrFun (ew7) (((v11 + z13) - v14))).symm.trans ev15
  rw [ev15] at hpl
  exact w_ireturn rfl (k (v15) _ _ _ H O (SF_refl) (SA_refl) (show inr (v15) from qv15) (show 0 ≤ (v15) ∧ (v15) < p2 ((u0_0)) by omega) (show ((w5)) (v15) = a2 ∧ XN ((w1)) ((w5)) (v15) = (a1 + p2 ((u0_0))) / p2 a3 by omega))
theorem len_V177_Ir_oz_G1bcls : (V177_Ir).length = 10 := by decide +kernel
theorem oz_G1bcls_11 : vsub V177_Ir V174 [0, 2, 3, 4, 5, 6, 7, 8, 9] = true := by decide +kernel
theorem oz_G1bcls_12 : vsub V177_Ir V175 [0, 2, 3, 4, 5, 6, 7, 8, 9] = true := by decide +kernel
theorem oz_G1bcls_13 : vsub V177_Ir V176 [0, 2, 3, 4, 5, 6, 7, 8, 9] = true := by decide +kernel
def oz_G1bclsl_3 : List Nat := [0, 2, 3, 4, 5, 6, 7, 8, 9]
theorem oz_G1bcls_14 : okc oz_G1bclsl_3 42575211634361579078656 = true := by decide +kernel

theorem C177_Iro {σE : rS} {D N : Nat → Nat} {F : hF} {A : hA} {d c s : Nat} {Q : wQ} (H : HW V177_Ir σE D N F A) {a2 : Int} (pf2 : F 0 2 = (D 2 : Int)) (pf3 : F 0 3 = (D 3 : Int)) (pf4 : F 0 4 = (D 4 : Int)) (pf5 : F 0 5 = (D 5 : Int)) (pf6 : F 0 7 = (D 6 : Int)) (pf7 : F 0 8 = (D 7 : Int)) (pf8 : F 0 9 = (D 8 : Int)) (pf9 : F 0 6 = (D 9 : Int)) (n1 : Int) (en1 : (N 1 : Int) = n1) (n2 : Int) (en2 : (N 2 : Int) = n2) (n3 : Int) (en3 : (N 3 : Int) = n3) (n4 : Int) (en4 : (N 4 : Int) = n4) (n5 : Int) (en5 : (N 5 : Int) = n5) (n6 : Int) (en6 : (N 6 : Int) = n6) (n7 : Int) (en7 : (N 7 : Int) = n7) (n8 : Int) (en8 : (N 8 : Int) = n8) (n9 : Int) (en9 : (N 9 : Int) = n9) (u0_0 : Int) (eu0_0 : F 0 0 = u0_0) (u0_1 : Int) (eu0_1 : F 0 1 = u0_1) (w1 : Int → Int) (ew1 : A 1 = w1) (w2 : Int → Int) (ew2 : A 2 = w2) (w3 : Int → Int) (ew3 : A 3 = w3) (w4 : Int → Int) (ew4 : A 4 = w4) (w5 : Int → Int) (ew5 : A 5 = w5) (w6 : Int → Int) (ew6 : A 6 = w6) (w7 : Int → Int) (ew7 : A 7 = w7) (w8 : Int → Int) (ew8 : A 8 = w8) (h0 : inr (a2)) (h1 : SL ((w2)) ((u0_1)) ((u0_0)) ((w3)) ((w4)) ((w5)) ((w6)) ((w7)) ((w8))) (h2 : SZD ((n2)) ((n3)) ((n4)) ((n5)) ((n9)) ((n6)) ((n7)) ((n8)) ((u0_1)) ((u0_0))) (h3 : 1 ≤ (a2) ∧ (a2) ≤ (n1) ∧ (a2) ≤ 65536) (h4 : RWO ((w1)) ((w2)) ((u0_1)) (a2)) (k : ∀ (z : Int) (σ : rS) (Fₚ : hF) (Aₚ : hA), HW V177_Ir σ D N Fₚ Aₚ → OUT (V177_Ir).length D N σE c s D N σ c s → SF [] F Fₚ → SA [] A Aₚ → (inr (z)) → (0 ≤ (z) ∧ (z) ≤ 9 * (a2)) → (COST (cutP ((u0_1)) ((w2))) ((u0_0)) ((w1)) ((a2)) ((z))) → Q (some (I z)) σ c s) : Ew 177 (d + 1) 0 (rargs 0 [.ref (D 0), .ref (D 1), I a2]) [] σE c s Q := by
  have O := OUT_refl (n := (V177_Ir).length) (D := D) (N := N) (σ := σE) (c := c) (s := s)
  have HE := H
  have r1 : (-2147483648 : Int) ≤ u0_0 ∧ u0_0 ≤ 2147483647 := rngE (show (-2147483648 : Int) ≤ F 0 0 ∧ F 0 0 ≤ 2147483647 from H.krg 0 0 (ltn len_V177_Ir_oz_G1bcls rfl)) (show F 0 0 = u0_0 from (eu0_0))
  have r2 : (-2147483648 : Int) ≤ u0_1 ∧ u0_1 ≤ 2147483647 := rngE (show (-2147483648 : Int) ≤ F 0 1 ∧ F 0 1 ≤ 2147483647 from H.krg 0 1 (ltn len_V177_Ir_oz_G1bcls rfl)) (show F 0 1 = u0_1 from (eu0_1))
  have r3 : (0 : Int) ≤ n1 ∧ n1 ≤ 1000000 := nleE (H.nle 1 (ltn len_V177_Ir_oz_G1bcls rfl)) (show (N 1 : Int) = n1 from en1)
  have r4 : (0 : Int) ≤ n2 ∧ n2 ≤ 1000000 := nleE (H.nle 2 (ltn len_V177_Ir_oz_G1bcls rfl)) (show (N 2 : Int) = n2 from en2)
  have r5 : (0 : Int) ≤ n3 ∧ n3 ≤ 1000000 := nleE (H.nle 3 (ltn len_V177_Ir_oz_G1bcls rfl)) (show (N 3 : Int) = n3 from en3)
  have r6 : (0 : Int) ≤ n4 ∧ n4 ≤ 1000000 := nleE (H.nle 4 (ltn len_V177_Ir_oz_G1bcls rfl)) (show (N 4 : Int) = n4 from en4)
  have r7 : (0 : Int) ≤ n5 ∧ n5 ≤ 1000000 := nleE (H.nle 5 (ltn len_V177_Ir_oz_G1bcls rfl)) (show (N 5 : Int) = n5 from en5)
  have r8 : (0 : Int) ≤ n6 ∧ n6 ≤ 1000000 := nleE (H.nle 6 (ltn len_V177_Ir_oz_G1bcls rfl)) (show (N 6 : Int) = n6 from en6)
  have r9 : (0 : Int) ≤ n7 ∧ n7 ≤ 1000000 := nleE (H.nle 7 (ltn len_V177_Ir_oz_G1bcls rfl)) (show (N 7 : Int) = n7 from en7)
  have r10 : (0 : Int) ≤ n8 ∧ n8 ≤ 1000000 := nleE (H.nle 8 (ltn len_V177_Ir_oz_G1bcls rfl)) (show (N 8 : Int) = n8 from en8)
  have r11 : (0 : Int) ≤ n9 ∧ n9 ≤ 1000000 := nleE (H.nle 9 (ltn len_V177_Ir_oz_G1bcls rfl)) (show (N 9 : Int) = n9 from en9)
  have hszd : SZD ((n2)) ((n3)) ((n4)) ((n5)) ((n9)) ((n6)) ((n7)) ((n8)) ((u0_1)) ((u0_0)) := h2
  unfold SZD at hszd
  obtain ⟨bi_, ba_, hLD, hBIA⟩ := SL_LD (h1)
  have hSL : SL ((w2)) ((u0_1)) ((u0_0)) ((w3)) ((w4)) ((w5)) ((w6)) ((w7)) ((w8)) := h1
  have hf := SHD_f hSL.1
  have hrw : RWO ((w1)) ((w2)) ((u0_1)) (a2) := h4
  refine Ew_of (pcₚ := 1) (fun _ => x_aload_n rfl rfl) ?_
  refine Ew_of (pcₚ := 2) (fun _ => x_aload_n rfl rfl) ?_
  refine Ew_of (pcₚ := 3) (fun _ => x_iload_n rfl rfl) ?_
  refine Ew_of (pcₚ := 4) (fun _ => x_iconst rfl) ?_
  refine w_isub rfl ?_
  refine v_lI H (o := 1) rfl rfl rfl rfl (n := n1) (en1) (show 0 ≤ (a2 - 1) ∧ (a2 - 1) < n1 from q_3507 h3) (fun v12 ev12 qv12 => ?_)
  have ev12 : (w1) ((a2 - 1)) = v12 := (congrFun (ew1) ((a2 - 1))).symm.trans ev12
  have hr1 := hrw ((a2) - 1) (by omega) (by omega)
  have hrr := ev12
  rw [ev12] at hr1
  refine v_inv H (o := 0) rfl rfl rfl rfl rfl rfl (by rfl) (C174o (D := puc 42575211634361579078656 D) (N := puc 42575211634361579078656 N) (HW_subc H oz_G1bcls_11 oz_G1bcls_14) (pf2) (pf3) (pf4) (pf5) (pf6) (pf7) (pf8) (pf9) (n2) (en2) (n3) (en3) (n4) (en4) (n5) (en5) (n6) (en6) (n7) (en7) (n8) (en8) (n9) (en9) (u0_0) ((eu0_0)) (u0_1) ((eu0_1)) (w2) (ew2) (w3) (ew3) (w4) (ew4) (w5) (ew5) (w6) (ew6) (w7) (ew7) (w8) (ew8) (show inr (v12) from qv12) (hSL) (h2) (show 0 ≤ (v12) ∧ (v12) < ((u0_1)) ∧ ((w2)) (v12) ≠ 0 by omega) (fun z13 σ13 F13ₚ A13ₚ Hₚ Oₚ hS13 hA13 pz13_0 pz13_1 pz13_2 => ⟨rfl, ?_⟩))
  refine v_backc (c := c) (s := s) H oz_G1bcls_11 oz_G1bcls_14 Hₚ Oₚ (fun F13 A13 H Oₚ eF13 eA13 => ?_)
  have O := OUT_trans O Oₚ
  -- Share.lowestPlace
  have cF13 : SF oz_G1bclsl_0 F F13 := SF_trans (SF_refl) (SF_gluc (ι := oz_G1bclsl_3) oz_G1bcls_14 hS13 eF13 (by decide +kernel)) (any_sub (lₚ := []) (by decide +kernel))
  have mF13 := SFm_of cF13 oz_G1bcls_4
  have cA13 : SA oz_G1bclsl_1 A A13 := SA_trans (SA_refl) (SA_gluc (ι := oz_G1bclsl_3) oz_G1bcls_14 hA13 eA13 (by decide +kernel)) (any_subA (lₚ := []) (by decide +kernel))
  have mA13 := SAm_of cA13 oz_G1bcls_5
  refine Ew_of (pcₚ := 10) (fun _ => x_istore_n rfl) ?_
  refine Ew_of (pcₚ := 11) (fun _ => x_aload_n rfl (rk_o (rfl) rfl rfl)) ?_
  refine v_g H (o := 0) (v := I (u0_0)) rfl rfl rfl rfl rfl (congrArg (fun z : Int => I z) (((mF13 0 0 rfl).trans (eu0_0)) : F13 0 0 = u0_0)) ?_
  refine Ew_of (pcₚ := 16) (fun _ => x_istore rfl) ?_
  refine Ew_of (pcₚ := 17) (fun _ => x_iload_n rfl (rk_o (rk_o (rfl) rfl rfl) rfl rfl)) ?_
  refine Ew_of (pcₚ := 18) (fun _ => x_iconst rfl) ?_
  refine w_isub rfl ?_
  refine Ew_of (pcₚ := 21) (fun _ => x_istore rfl) ?_
  have : CHN ((w6)) bi_ ba_ ((u0_0)) ((w1)) ((a2)) ((a2) - 2 - ((a2) - 2) : Int).toNat ((z13)) ((u0_0)) := CHN_0 (SL_LOW (by omega) pz13_2.1 pz13_2.2) hrr (by omega) (by omega)
  suffices hl21 : ∀ (m : Nat), ∀ (ls : rO) (σ : rS) (F_21 : hF) (A_21 : hA) (x21_3 : Int) (x21_4 : Int) (x21_5 : Int), rlook ls 0 = some (.ref (D 0)) → rlook ls 1 = some (.ref (D 1)) → rlook ls 3 = some (I (x21_3)) → rlook ls 4 = some (I (x21_4)) → rlook ls 5 = some (I (x21_5)) → HW V177_Ir σ D N F_21 A_21 → OUT (V177_Ir).length D N σE c s D N σ c s → SF [] F13 F_21 → SA [] A13 A_21 → (inr (x21_3)) → (inr (x21_4)) → (inr (x21_5)) → ((x21_5) ≤ ((a2 - 2))) → (((a2 - 2)) ≤ (x21_5) ∨ ((-1)) ≤ (x21_5)) → (0 ≤ (x21_3) ∧ (x21_3) < p2 ((u0_0))) → (0 ≤ (x21_4) ∧ (x21_4) ≤ 9 * ((a2) - 1 - (x21_5))) → (-1 ≤ (x21_5)) → (CHN ((w6)) bi_ ba_ ((u0_0)) ((w1)) ((a2)) ((a2) - 2 - (x21_5) : Int).toNat ((x21_3)) ((x21_4))) → ((x21_5) - ((-1))).toNat = m → Ew 177 (d + 1) 21 ls [] σ c s Q from
    hl21 _ _ _ _ _ (z13) (u0_0) ((a2 - 2)) (rk_o (rk_o (rk_o (rfl) rfl rfl) rfl rfl) rfl rfl) (rk_o (rk_o (rk_o (rfl) rfl rfl) rfl rfl) rfl rfl) (rk_o (rk_o (rk_s) rfl rfl) rfl rfl) (rk_o (rk_s) rfl rfl) (rk_s) H O (SF_refl) (SA_refl)     (show inr (z13) from pz13_0) (show inr (u0_0) from q_18 r1) (show inr ((a2 - 2)) from q_3511 h3) (show ((a2 - 2)) ≤ ((a2 - 2)) from q_3510) (show ((a2 - 2)) ≤ ((a2 - 2)) ∨ ((-1)) ≤ ((a2 - 2)) from q_3509) (show 0 ≤ (z13) ∧ (z13) < p2 ((u0_0)) from pz13_1) (show 0 ≤ (u0_0) ∧ (u0_0) ≤ 9 * ((a2) - 1 - ((a2 - 2))) by omega) (show -1 ≤ ((a2 - 2)) from q_3508 h3) (show CHN ((w6)) bi_ ba_ ((u0_0)) ((w1)) ((a2)) ((a2) - 2 - ((a2 - 2)) : Int).toNat ((z13)) ((u0_0)) by assumption) rfl
  as_aux_lemma =>
  intro m
  induction m using Nat.strongRecOn with
  | _ m ih21 =>
    intro ls σ F_21 A_21 x21_3 x21_4 x21_5 l21_0 l21_1 l21_3 l21_4 l21_5 H O hS_21 hA_21     j21_0 j21_1 j21_2 j21_3 j21_4 j21_5 j21_6 j21_7 j21_8 hm21
    have cF_21 : SF oz_G1bclsl_0 F F_21 := SF_trans (cF13) hS_21 (any_sub (by decide +kernel))
    have mF_21 := SFm_of cF_21 oz_G1bcls_4
    have cA_21 : SA oz_G1bclsl_1 A A_21 := SA_trans (cA13) hA_21 (any_subA (by decide +kernel))
    have mA_21 := SAm_of cA_21 oz_G1bcls_5
    have j21_c : CHN ((w6)) bi_ ba_ ((u0_0)) ((w1)) ((a2)) ((a2) - 2 - (x21_5) : Int).toNat ((x21_3)) ((x21_4)) := by assumption
    refine Ew_of (pcₚ := 23) (fun _ => x_iload rfl l21_5) ?_
    refine w_iflt (t := 62) rfl rfl (show inr (x21_5) from j21_2) (fun b14 => ?_) (fun b14 => ?_)
    · refine Ew_of (pcₚ := 64) (fun _ => x_iload rfl l21_4) ?_
      have : COST (cutP ((u0_1)) ((w2))) ((u0_0)) ((w1)) ((a2)) ((x21_4)) := ⟨_, _, _, _, hLD, by have h := j21_c; rw [show (a2) - 2 - (x21_5) = (a2) - 1 by omega] at h; exact h⟩
      exact w_ireturn rfl (k (x21_4) _ _ _ H O (cF_21) (cA_21) (show inr (x21_4) from j21_1) (show 0 ≤ (x21_4) ∧ (x21_4) ≤ 9 * a2 from q_3512 j21_6 j21_7) (show COST (cutP ((u0_1)) ((w2))) ((u0_0)) ((w1)) (a2) ((x21_4)) by assumption))
    · refine Ew_of (pcₚ := 27) (fun _ => x_aload_n rfl l21_0) ?_
      refine Ew_of (pcₚ := 28) (fun _ => x_iload_n rfl l21_3) ?_
      refine Ew_of (pcₚ := 29) (fun _ => x_aload_n rfl l21_1) ?_
      refine Ew_of (pcₚ := 31) (fun _ => x_iload rfl l21_5) ?_
      refine v_lI H (o := 1) rfl rfl rfl rfl (n := n1) (en1) (show 0 ≤ x21_5 ∧ x21_5 < n1 from q_3513 b14 h3 j21_6) (fun v15 ev15 qv15 => ?_)
      have ev15 : (w1) (x21_5) = v15 := (congrFun ((funext (mA_21 1 rfl)).trans (ew1)) (x21_5)).symm.trans ev15
      have hr2 := hrw ((x21_5)) (by omega) (by omega)
      have he2 := ev15
      rw [he2] at hr2
      refine v_inv H (o := 0) rfl rfl rfl rfl rfl rfl (by rfl) (C175o (D := puc 42575211634361579078656 D) (N := puc 42575211634361579078656 N) (HW_subc H oz_G1bcls_12 oz_G1bcls_14) ((mF_21 0 2 rfl).trans (pf2)) ((mF_21 0 3 rfl).trans (pf3)) ((mF_21 0 4 rfl).trans (pf4)) ((mF_21 0 5 rfl).trans (pf5)) ((mF_21 0 7 rfl).trans (pf6)) ((mF_21 0 8 rfl).trans (pf7)) ((mF_21 0 9 rfl).trans (pf8)) ((mF_21 0 6 rfl).trans (pf9)) (n2) (en2) (n3) (en3) (n4) (en4) (n5) (en5) (n6) (en6) (n7) (en7) (n8) (en8) (n9) (en9) (u0_0) (((mF_21 0 0 rfl).trans (eu0_0))) (u0_1) (((mF_21 0 1 rfl).trans (eu0_1))) (w2) ((funext (mA_21 2 rfl)).trans (ew2)) (w3) ((funext (mA_21 3 rfl)).trans (ew3)) (w4) ((funext (mA_21 4 rfl)).trans (ew4)) (w5) ((funext (mA_21 5 rfl)).trans (ew5)) (w6) ((funext (mA_21 6 rfl)).trans (ew6)) (w7) ((funext (mA_21 7 rfl)).trans (ew7)) (w8) ((funext (mA_21 8 rfl)).trans (ew8)) (show inr (x21_3) from j21_0) (show inr (v15) from qv15) (hSL) (h2) (show 0 ≤ (x21_3) ∧ (x21_3) < p2 ((u0_0)) from j21_5) (show 0 ≤ (v15) ∧ (v15) < ((u0_1)) ∧ ((w2)) (v15) ≠ 0 by omega) (fun z16 σ16 F16ₚ A16ₚ Hₚ Oₚ hS16 hA16 pz16_0 pz16_1 pz16_2 => ⟨rfl, ?_⟩))
      refine v_backc (c := c) (s := s) H oz_G1bcls_12 oz_G1bcls_14 Hₚ Oₚ (fun F16 A16 H Oₚ eF16 eA16 => ?_)
      have O := OUT_trans O Oₚ
      -- Share.bitsAhead
      have cF16 : SF oz_G1bclsl_0 F F16 := SF_trans (cF_21) (SF_gluc (ι := oz_G1bclsl_3) oz_G1bcls_14 hS16 eF16 (by decide +kernel)) (any_sub (lₚ := []) (by decide +kernel))
      have mF16 := SFm_of cF16 oz_G1bcls_4
      have cA16 : SA oz_G1bclsl_1 A A16 := SA_trans (cA_21) (SA_gluc (ι := oz_G1bclsl_3) oz_G1bcls_14 hA16 eA16 (by decide +kernel)) (any_subA (lₚ := []) (by decide +kernel))
      have mA16 := SAm_of cA16 oz_G1bcls_5
      refine Ew_of (pcₚ := 37) (fun _ => x_istore rfl) ?_
      refine Ew_of (pcₚ := 39) (fun _ => x_iload rfl (rk_o (l21_4) rfl rfl)) ?_
      refine Ew_of (pcₚ := 41) (fun _ => x_iload rfl rk_s) ?_
      refine w_iadd rfl ?_
      refine Ew_of (pcₚ := 44) (fun _ => x_istore rfl) ?_
      refine Ew_of (pcₚ := 45) (fun _ => x_aload_n rfl (rk_o (rk_o (l21_0) rfl rfl) rfl rfl)) ?_
      refine Ew_of (pcₚ := 46) (fun _ => x_iload_n rfl (rk_o (rk_o (l21_3) rfl rfl) rfl rfl)) ?_
      refine Ew_of (pcₚ := 47) (fun _ => x_aload_n rfl (rk_o (rk_o (l21_1) rfl rfl) rfl rfl)) ?_
      refine Ew_of (pcₚ := 49) (fun _ => x_iload rfl (rk_o (rk_o (l21_5) rfl rfl) rfl rfl)) ?_
      refine v_lI H (o := 1) rfl rfl rfl rfl (n := n1) (en1) (show 0 ≤ x21_5 ∧ x21_5 < n1 from q_3513 b14 h3 j21_6) (fun v17 ev17 qv17 => ?_)
      have ev17 : (w1) (x21_5) = v17 := (congrFun ((funext (mA16 1 rfl)).trans (ew1)) (x21_5)).symm.trans ev17
      have hr3 := hrw ((x21_5)) (by omega) (by omega)
      have he3 := ev17
      rw [he3] at hr3
      refine Ew_of (pcₚ := 52) (fun _ => x_iload rfl (rk_o (rk_s) rfl rfl)) ?_
      have hb5 : BA (mass (((w2)) ((v17)))) ((u0_0)) ((x21_3)) ((z16)) := by rw [← he3, he2]; exact pz16_1
      obtain ⟨q2_, hq2_⟩ : ∃ q : Int, q = (v17) := ⟨_, rfl⟩
      have hb6 := hb5
      rw [← hq2_] at hb6
      refine v_inv H (o := 0) rfl rfl rfl rfl rfl rfl (by rfl) (C176o (D := puc 42575211634361579078656 D) (N := puc 42575211634361579078656 N) (HW_subc H oz_G1bcls_13 oz_G1bcls_14) ((mF16 0 2 rfl).trans (pf2)) ((mF16 0 3 rfl).trans (pf3)) ((mF16 0 4 rfl).trans (pf4)) ((mF16 0 5 rfl).trans (pf5)) ((mF16 0 7 rfl).trans (pf6)) ((mF16 0 8 rfl).trans (pf7)) ((mF16 0 9 rfl).trans (pf8)) ((mF16 0 6 rfl).trans (pf9)) (n2) (en2) (n3) (en3) (n4) (en4) (n5) (en5) (n6) (en6) (n7) (en7) (n8) (en8) (n9) (en9) (u0_0) (((mF16 0 0 rfl).trans (eu0_0))) (u0_1) (((mF16 0 1 rfl).trans (eu0_1))) (w2) ((funext (mA16 2 rfl)).trans (ew2)) (w3) ((funext (mA16 3 rfl)).trans (ew3)) (w4) ((funext (mA16 4 rfl)).trans (ew4)) (w5) ((funext (mA16 5 rfl)).trans (ew5)) (w6) ((funext (mA16 6 rfl)).trans (ew6)) (w7) ((funext (mA16 7 rfl)).trans (ew7)) (w8) ((funext (mA16 8 rfl)).trans (ew8)) (show inr (x21_3) from j21_0) (show inr (v17) from qv17) (show inr (z16) from pz16_0) (hSL) (h2) (show 0 ≤ (x21_3) ∧ (x21_3) < p2 ((u0_0)) from j21_5) (show 0 ≤ (v17) ∧ (v17) < ((u0_1)) ∧ ((w2)) (v17) ≠ 0 by omega) (hb5) (fun z18 σ18 F18ₚ A18ₚ Hₚ Oₚ hS18 hA18 pz18_0 pz18_1 pz18_2 => ⟨rfl, ?_⟩))
      refine v_backc (c := c) (s := s) H oz_G1bcls_13 oz_G1bcls_14 Hₚ Oₚ (fun F18 A18 H Oₚ eF18 eA18 => ?_)
      have O := OUT_trans O Oₚ
      -- Share.placeAhead
      have cF18 : SF oz_G1bclsl_0 F F18 := SF_trans (cF16) (SF_gluc (ι := oz_G1bclsl_3) oz_G1bcls_14 hS18 eF18 (by decide +kernel)) (any_sub (lₚ := []) (by decide +kernel))
      have mF18 := SFm_of cF18 oz_G1bcls_4
      have cA18 : SA oz_G1bclsl_1 A A18 := SA_trans (cA16) (SA_gluc (ι := oz_G1bclsl_3) oz_G1bcls_14 hA18 eA18 (by decide +kernel)) (any_subA (lₚ := []) (by decide +kernel))
      have mA18 := SAm_of cA18 oz_G1bcls_5
      have hpa := pz18_2
      have hLE := SL_LEAD hSL hBIA (r := (z18)) (s := q2_) (st := (x21_3)) (b := (z16)) (by omega) (by rw [hq2_]; exact hpa.1) (by omega) hb6 hpa.2
      obtain ⟨q5, hq5⟩ : ∃ q : Int, q = (x21_5) := ⟨_, rfl⟩
      have hrc : ((w1)) q5 = q2_ := by rw [hq5, hq2_]; exact he3
      refine Ew_of (pcₚ := 56) (fun _ => x_istore_n rfl) ?_
      refine Ew_of (pcₚ := 59) (fun _ => x_iinc (len := 3) rfl (rk_o (rk_o (rk_o (l21_5) rfl rfl) rfl rfl) rfl rfl)) ?_
      refine Ew_of (pcₚ := 21) (fun _ => x_goto rfl rfl) ?_
      have : CHN ((w6)) bi_ ba_ ((u0_0)) ((w1)) ((a2)) ((a2) - 2 - ((x21_5 + (-1))) : Int).toNat ((z18)) (((x21_4 + z16))) := CHN_s (i := ((x21_5 + (-1))) + 1) j21_c (by omega) (by omega) (by omega) (by rw [show ((x21_5 + (-1))) + 1 = q5 by omega, hrc]; exact hLE.1) (by rw [hLE.2])
      exact ih21 _ (msE hm21 q_432 (q_433 b14)) _ _ _ _ (z18) ((x21_4 + z16)) ((x21_5 + (-1))) (rk_o (rk_o (rk_o (rk_o (l21_0) rfl rfl) rfl rfl) rfl rfl) rfl rfl) (rk_o (rk_o (rk_o (rk_o (l21_1) rfl rfl) rfl rfl) rfl rfl) rfl rfl) (rk_o (rk_s) rfl rfl) (rk_o (rk_o (rk_s) rfl rfl) rfl rfl) (rk_s) H O (SF_trans (SF_trans (hS_21) (SF_gluc (ι := oz_G1bclsl_3) oz_G1bcls_14 hS16 eF16 (by decide +kernel)) (any_sub (lₚ := []) (by decide +kernel))) (SF_gluc (ι := oz_G1bclsl_3) oz_G1bcls_14 hS18 eF18 (by decide +kernel)) (any_sub (lₚ := []) (by decide +kernel))) (SA_trans (SA_trans (hA_21) (SA_gluc (ι := oz_G1bclsl_3) oz_G1bcls_14 hA16 eA16 (by decide +kernel)) (any_subA (lₚ := []) (by decide +kernel))) (SA_gluc (ι := oz_G1bclsl_3) oz_G1bcls_14 hA18 eA18 (by decide +kernel)) (any_subA (lₚ := []) (by decide +kernel)))     (show inr (z18) from pz18_0) (show inr ((x21_4 + z16)) by omega) (show inr ((x21_5 + (-1))) from q_431 b14 j21_2) (show ((x21_5 + (-1))) ≤ ((a2 - 2)) from q_3516 j21_6) (show ((a2 - 2)) ≤ ((x21_5 + (-1))) ∨ ((-1)) ≤ ((x21_5 + (-1))) from q_3515 b14) (show 0 ≤ (z18) ∧ (z18) < p2 ((u0_0)) from pz18_1) (show 0 ≤ ((x21_4 + z16)) ∧ ((x21_4 + z16)) ≤ 9 * ((a2) - 1 - ((x21_5 + (-1)))) by omega) (show -1 ≤ ((x21_5 + (-1))) from q_3514 b14) (show CHN ((w6)) bi_ ba_ ((u0_0)) ((w1)) ((a2)) ((a2) - 2 - ((x21_5 + (-1))) : Int).toNat ((z18)) (((x21_4 + z16))) by assumption) rfl


end
section
/-! G2.cls -/
abbrev V118_Br_c10 : vV := [(0, 4, [(4, 0), (4, 0), (0, 0), (4, 0), (4, 0)]), (1, 0, []), (0, 9, [(4, 0), (4, 0), (4, 0)]), (1, 5, []), (1, 5, []), (0, 8, [(0, 0), (0, 0), (4, 0), (4, 0), (4, 0), (4, 0), (4, 0), (4, 0), (4, 0), (4, 0), (4, 0), (0, 0), (0, 0)]), (1, 1, []), (1, 1, []), (1, 1, []), (1, 1, []), (1, 1, []), (1, 1, []), (1, 1, []), (1, 1, [])]
theorem len_V118_Br_c10_oz_G2cls : (V118_Br_c10).length = 14 := by decide +kernel
theorem oz_G2cls_1 : vsub V118_Br_c10 V184_Br [5, 1, 11, 6, 7, 8, 9, 10, 12, 13] = true := by decide +kernel
def oz_G2clsl_0 : List Nat := [3, 6, 7, 8, 9, 10, 11, 12, 13]
theorem oz_G2cls_2 : (oz_G2clsl_0).all (fun p => !tbz 16328 p) = true := by decide +kernel
def oz_G2clsl_1 : List (Nat × Nat) := [(5, 0), (5, 10), (5, 11), (5, 12)]
theorem oz_G2cls_3 : (oz_G2clsl_1).all (fun p => !tbz 10477505238025243020602216565743032967913380400594944 (Nat.add (Nat.mul 32 p.1) p.2)) = true := by decide +kernel
def oz_G2clsl_2 : List Nat := [5, 1, 11, 6, 7, 8, 9, 10, 12, 13]
theorem oz_G2cls_4 : okc oz_G2clsl_2 31488832103906706239259141 = true := by decide +kernel

theorem C118_Br_c10 {σE : rS} {D N : Nat → Nat} {F : hF} {A : hA} {d c s : Nat} {Q : wQ} (H : HW V118_Br_c10 σE D N F A) (HT : STC σE) {a3 a4 : Int} (pf2 : HID (F 0 1 = (D 2 : Int))) (pf3 : HID (F 2 1 = (D 3 : Int))) (pf4 : HID (F 0 4 = (D 4 : Int))) (pf5 : HID (A 4 0 = (D 5 : Int))) (pf6 : HID (F 5 2 = (D 6 : Int))) (pf7 : HID (F 5 3 = (D 7 : Int))) (pf8 : HID (F 5 4 = (D 8 : Int))) (pf9 : HID (F 5 5 = (D 9 : Int))) (pf10 : HID (F 5 6 = (D 10 : Int))) (pf11 : HID (F 5 7 = (D 11 : Int))) (pf12 : HID (F 5 8 = (D 12 : Int))) (pf13 : HID (F 5 9 = (D 13 : Int))) (n1 : Int) (en1 : HID ((N 1 : Int) = n1)) (n3 : Int) (en3 : HID ((N 3 : Int) = n3)) (n4 : Int) (en4 : HID ((N 4 : Int) = n4)) (n6 : Int) (en6 : HID ((N 6 : Int) = n6)) (n7 : Int) (en7 : HID ((N 7 : Int) = n7)) (n8 : Int) (en8 : HID ((N 8 : Int) = n8)) (n9 : Int) (en9 : HID ((N 9 : Int) = n9)) (n10 : Int) (en10 : HID ((N 10 : Int) = n10)) (n11 : Int) (en11 : HID ((N 11 : Int) = n11)) (n12 : Int) (en12 : HID ((N 12 : Int) = n12)) (n13 : Int) (en13 : HID ((N 13 : Int) = n13)) (u5_0 : Int) (eu5_0 : HID (F 5 0 = u5_0)) (u5_1 : Int) (eu5_1 : HID (F 5 1 = u5_1)) (w1 : Int → Int) (ew1 : A 1 = w1) (w3 : Int → Int) (ew3 : A 3 = w3) (w6 : Int → Int) (ew6 : A 6 = w6) (w7 : Int → Int) (ew7 : A 7 = w7) (w8 : Int → Int) (ew8 : A 8 = w8) (w9 : Int → Int) (ew9 : A 9 = w9) (w11 : Int → Int) (ew11 : A 11 = w11) (w12 : Int → Int) (ew12 : A 12 = w12) (w13 : Int → Int) (ew13 : A 13 = w13) (h0 : inr (0)) (h1 : inr (a3)) (h2 : inr (a4)) (h3 : (a3) = -1 ∨ 0 ≤ (a3) ∧ (a3) ≤ (a4)) (h4 : 0 ≤ (a4) ∧ (a4) ≤ (n1) ∧ (n1) ≤ 65536) (h5 : (n3) = 3 ∧ (n4) = 3) (h6 : SHZD ((n6)) ((n7)) ((n8)) ((n9)) ((n10)) ((n11)) ((n12)) ((n13)) ((u5_1)) 36 512) (k : ∀ (z : Int) (σ : rS) (Fₚ : hF) (Aₚ : hA), HW V118_Br_c10 σ D N Fₚ Aₚ → OUT (V118_Br_c10).length D N σE c s D N σ c s → SF [(5, 0), (5, 10), (5, 11), (5, 12)] F Fₚ → SA [3, 6, 7, 8, 9, 10, 11, 12, 13] A Aₚ → ∀ y5_0 : Int, Fₚ 5 0 = y5_0 → ∀ v3 : Int → Int, Aₚ 3 = v3 → ∀ v6 : Int → Int, Aₚ 6 = v6 → ∀ v7 : Int → Int, Aₚ 7 = v7 → ∀ v8 : Int → Int, Aₚ 8 = v8 → ∀ v9 : Int → Int, Aₚ 9 = v9 → ∀ v11 : Int → Int, Aₚ 11 = v11 → ∀ v12 : Int → Int, Aₚ 12 = v12 → ∀ v13 : Int → Int, Aₚ 13 = v13 → (inr (z)) → ((z) = -1 ∨ 0 ≤ (a3) ∧ (a3) ≤ (z) ∧ (z) ≤ (a4)) → ((z) = -1 ∨ SL ((v6)) ((u5_1)) ((y5_0)) ((v7)) ((v8)) ((v9)) ((v11)) ((v12)) ((v13))) → (((v3)) 0 = (((D 5 : Nat) : Int))) → ((z) = -1 ∨ (y5_0) ≤ 9) → (LNT (ub8 ((w1))) ((a4)) 2 ((a3)) ((z)) ((y5_0)) ((v6))) → (0 = 0 ∨ ((v3)) 0 = ((w3)) 0) → (0 = 1 ∨ ((v3)) 1 = ((w3)) 1) → (0 = 2 ∨ ((v3)) 2 = ((w3)) 2) → Q (some (I z)) σ c s) : Ew 118 (d + 2) 0 (rargs 0 [.ref (D 0), I 0, .ref (D 1), I a3, I a4]) [] σE c s Q := by
  have O := OUT_refl (n := (V118_Br_c10).length) (D := D) (N := N) (σ := σE) (c := c) (s := s)
  have HE := H
  have r1 : (-2147483648 : Int) ≤ u5_0 ∧ u5_0 ≤ 2147483647 := rngE (show (-2147483648 : Int) ≤ F 5 0 ∧ F 5 0 ≤ 2147483647 from H.krg 5 0 (ltn len_V118_Br_c10_oz_G2cls rfl)) (show F 5 0 = u5_0 from (eu5_0))
  have r2 : (-2147483648 : Int) ≤ u5_1 ∧ u5_1 ≤ 2147483647 := rngE (show (-2147483648 : Int) ≤ F 5 1 ∧ F 5 1 ≤ 2147483647 from H.krg 5 1 (ltn len_V118_Br_c10_oz_G2cls rfl)) (show F 5 1 = u5_1 from (eu5_1))
  have r3 : (0 : Int) ≤ n1 ∧ n1 ≤ 1000000 := nleE (H.nle 1 (ltn len_V118_Br_c10_oz_G2cls rfl)) (show (N 1 : Int) = n1 from en1)
  have r4 : (0 : Int) ≤ n3 ∧ n3 ≤ 1000000 := nleE (H.nle 3 (ltn len_V118_Br_c10_oz_G2cls rfl)) (show (N 3 : Int) = n3 from en3)
  have r5 : (0 : Int) ≤ n4 ∧ n4 ≤ 1000000 := nleE (H.nle 4 (ltn len_V118_Br_c10_oz_G2cls rfl)) (show (N 4 : Int) = n4 from en4)
  have r6 : (0 : Int) ≤ n6 ∧ n6 ≤ 1000000 := nleE (H.nle 6 (ltn len_V118_Br_c10_oz_G2cls rfl)) (show (N 6 : Int) = n6 from en6)
  have r7 : (0 : Int) ≤ n7 ∧ n7 ≤ 1000000 := nleE (H.nle 7 (ltn len_V118_Br_c10_oz_G2cls rfl)) (show (N 7 : Int) = n7 from en7)
  have r8 : (0 : Int) ≤ n8 ∧ n8 ≤ 1000000 := nleE (H.nle 8 (ltn len_V118_Br_c10_oz_G2cls rfl)) (show (N 8 : Int) = n8 from en8)
  have r9 : (0 : Int) ≤ n9 ∧ n9 ≤ 1000000 := nleE (H.nle 9 (ltn len_V118_Br_c10_oz_G2cls rfl)) (show (N 9 : Int) = n9 from en9)
  have r10 : (0 : Int) ≤ n10 ∧ n10 ≤ 1000000 := nleE (H.nle 10 (ltn len_V118_Br_c10_oz_G2cls rfl)) (show (N 10 : Int) = n10 from en10)
  have r11 : (0 : Int) ≤ n11 ∧ n11 ≤ 1000000 := nleE (H.nle 11 (ltn len_V118_Br_c10_oz_G2cls rfl)) (show (N 11 : Int) = n11 from en11)
  have r12 : (0 : Int) ≤ n12 ∧ n12 ≤ 1000000 := nleE (H.nle 12 (ltn len_V118_Br_c10_oz_G2cls rfl)) (show (N 12 : Int) = n12 from en12)
  have r13 : (0 : Int) ≤ n13 ∧ n13 ≤ 1000000 := nleE (H.nle 13 (ltn len_V118_Br_c10_oz_G2cls rfl)) (show (N 13 : Int) = n13 from en13)
  have hsz : SHZD ((n6)) ((n7)) ((n8)) ((n9)) ((n10)) ((n11)) ((n12)) ((n13)) ((u5_1)) 36 512 := h6
  unfold SHZD at hsz
  refine Ew_of (pcₚ := 1) (fun _ => x_aload_n rfl rfl) ?_
  refine v_g H (o := 0) (v := .ref (D 2)) rfl rfl rfl rfl rfl (vrf (pf2)) ?_
  refine v_g H (o := 2) (v := .ref (D 3)) rfl rfl rfl rfl rfl (vrf (pf3)) ?_
  refine Ew_of (pcₚ := 8) (fun _ => x_iload_n rfl rfl) ?_
  refine Ew_of (pcₚ := 9) (fun _ => x_aload_n rfl rfl) ?_
  refine v_g H (o := 0) (v := .ref (D 4)) rfl rfl rfl rfl rfl (vrf (pf4)) ?_
  refine Ew_of (pcₚ := 13) (fun _ => x_iload_n rfl rfl) ?_
  refine v_lR H (o := 4) rfl rfl rfl rfl rfl (n := n4) (en4) (show 0 ≤ 0 ∧ 0 < n4 from q_3853 h5 r5) (z := ((D 5 : Nat) : Int)) (v := .ref (D 5)) (pf5) (vrf rfl) ?_
  have hu := fun j (hj : j ≠ 0) => upd1_o (a := ((w3))) (j := 0) (z := (((D 5 : Nat) : Int))) (i := j) hj
  have hs := upd1_s (a := ((w3))) (j := 0) (z := (((D 5 : Nat) : Int)))
  have hu0 : (0 : Int) = 0 ∨ upd1 ((w3)) 0 ((((D 5 : Nat) : Int))) 0 = ((w3)) 0 := by by_cases w : (0 : Int) = 0; exact .inl (by omega); exact .inr (hu 0 w)
  have hu1 : (0 : Int) = 1 ∨ upd1 ((w3)) 0 ((((D 5 : Nat) : Int))) 1 = ((w3)) 1 := by by_cases w : (1 : Int) = 0; exact .inl (by omega); exact .inr (hu 1 w)
  have hu2 : (0 : Int) = 2 ∨ upd1 ((w3)) 0 ((((D 5 : Nat) : Int))) 2 = ((w3)) 2 := by by_cases w : (2 : Int) = 0; exact .inl (by omega); exact .inr (hu 2 w)
  refine v_sR H (o := 3) (z := ((D 5 : Nat) : Int)) (v := .ref (D 5)) rfl rfl rfl rfl rfl (n := n3) (en3) (show 0 ≤ 0 ∧ 0 < n3 from q_3854 h5 r4) (show (-1 : Int) ≤ ((D 5 : Nat) : Int) by omega) (vrf rfl) (rkinR H (x := 5) rfl rfl rfl) (fun σ H Oₚ => ?_)
  have O := OUT_trans O Oₚ
  have cAu14 : SA oz_G2clsl_0 A (updA A 3 (0) (((D 5 : Nat) : Int))) := SA_upd (SA_refl) rfl
  have mAu14 := SAm_of cAu14 oz_G2cls_2
  refine Ew_of (pcₚ := 16) (fun _ => x_iload_n rfl rfl) ?_
  refine w_ifge (t := 23) rfl rfl (show inr (a3) from h1) (fun b15 => ?_) (fun b15 => ?_)
  · refine Ew_of (pcₚ := 24) (fun _ => x_aload_n rfl rfl) ?_
    refine v_g H (o := 0) (v := .ref (D 4)) rfl rfl rfl rfl rfl (vrf (pf4)) ?_
    refine Ew_of (pcₚ := 28) (fun _ => x_iload_n rfl rfl) ?_
    refine v_lR H (o := 4) rfl rfl rfl rfl rfl (n := n4) (en4) (show 0 ≤ 0 ∧ 0 < n4 from q_3853 h5 r5) (z := ((D 5 : Nat) : Int)) (v := .ref (D 5)) ((mAu14 4 rfl 0).trans (pf5)) (vrf rfl) ?_
    refine Ew_of (pcₚ := 30) (fun _ => x_aload_n rfl rfl) ?_
    refine Ew_of (pcₚ := 31) (fun _ => x_iload_n rfl rfl) ?_
    refine Ew_of (pcₚ := 33) (fun _ => x_iload rfl rfl) ?_
    refine Ew_of (pcₚ := 36) (fun _ => x_getstatic rfl) ?_
    refine Ew_of (pcₚ := 37) (fun _ => x_iload_n rfl rfl) ?_
    refine v_stI (STC_out HT HE O) (b := 2) (n := 3) rfl rfl rfl rfl (show 0 ≤ 0 ∧ 0 < 3 from q_3855) (fun v16 ev16 qv16 => ?_)
    have hgo := ev16
    have hgv : ((v16) : Int) = 9 := by rw [← hgo]; rfl
    have hpg : p2 ((v16)) = 512 := by rw [hgv]; decide
    refine v_inv H (o := 5) rfl rfl rfl rfl rfl rfl (by rfl) (C184_Br (D := puc 31488832103906706239259141 D) (N := puc 31488832103906706239259141 N) (HW_subc H oz_G2cls_1 oz_G2cls_4) (pf11) (pf6) (pf7) (pf8) (pf9) (pf10) (pf12) (pf13) (n1) (en1) (n11) (en11) (n6) (en6) (n7) (en7) (n8) (en8) (n9) (en9) (n10) (en10) (n12) (en12) (n13) (en13) (u5_0) ((eu5_0)) (u5_1) ((eu5_1)) (w1) ((funext (mAu14 1 rfl)).trans (ew1)) (w11) (ew11) (w6) (ew6) (w7) (ew7) (w8) (ew8) (w9) (ew9) (w12) (ew12) (w13) (ew13) (show inr (a3) from h1) (show inr (a4) from h2) (show inr (v16) from qv16) (show 0 ≤ (a3) ∧ (a3) ≤ (a4) ∧ (a4) ≤ (n1) ∧ (n1) ≤ 65536 from q_3856 b15 h3 h4) (show 5 ≤ (v16) ∧ (v16) ≤ 9 ∧ p2 (v16) ≤ (n11) by omega) (show (n6) = (u5_1) ∧ (n7) = (u5_1) ∧ (n8) = (u5_1) ∧ (n9) = (u5_1) ∧ (n10) = (u5_1) ∧ (n12) = (n11) ∧ (n13) = (n11) ∧ 1 ≤ (u5_1) ∧ (u5_1) ≤ 64 by omega) (fun z17 σ17 F17ₚ A17ₚ Hₚ Oₚ hS17 hA17 y17_0_0 (ey17_0_0 : HID _) w17_2 ew17_2 w17_3 ew17_3 w17_4 ew17_4 w17_5 ew17_5 w17_6 ew17_6 w17_8 ew17_8 w17_9 ew17_9 (pq17_0 : HID _) pz17_0 pz17_1 pz17_2 pz17_3 pz17_4 => ⟨rfl, ?_⟩))
    refine v_backc (c := c) (s := s) H oz_G2cls_1 oz_G2cls_4 Hₚ Oₚ (fun F17 A17 H Oₚ eF17 eA17 => ?_)
    have O := OUT_trans O Oₚ
    -- Share.hear
    have cF17 : SF oz_G2clsl_1 F F17 := SF_trans (SF_refl) (SF_gluc (ι := oz_G2clsl_2) oz_G2cls_4 hS17 eF17 (by decide +kernel)) (any_sub (lₚ := [(5, 0), (5, 10), (5, 11), (5, 12)]) (by decide +kernel))
    have mF17 := SFm_of cF17 oz_G2cls_3
    have cA17 : SA oz_G2clsl_0 A A17 := SA_trans (cAu14) (SA_gluc (ι := oz_G2clsl_2) oz_G2cls_4 hA17 eA17 (by decide +kernel)) (any_subA (lₚ := [6, 7, 8, 9, 10, 11, 12, 13]) (by decide +kernel))
    have mA17 := SAm_of cA17 oz_G2cls_2
    have pl17_0 : HID (F17 5 10 = (D 1 : Int)) := (eF17 5 10).trans (pq17_0)
    have r18 : (-2147483648 : Int) ≤ y17_0_0 ∧ y17_0_0 ≤ 2147483647 := rngE (show (-2147483648 : Int) ≤ F17 5 0 ∧ F17 5 0 ≤ 2147483647 from H.krg 5 0 (ltn len_V118_Br_c10_oz_G2cls rfl)) (show F17 5 0 = y17_0_0 from ((eF17 5 0).trans ey17_0_0))
    have hlt : LNT (ub8 ((w1))) ((a4)) 2 ((a3)) ((z17)) ((y17_0_0)) ((w17_3)) := by first | assumption | exact .inr ⟨by omega, by have h := pz17_4; rw [hgv, show (u5_1) = 36 by omega] at h; exact h⟩
    exact w_ireturn rfl (k (z17) _ _ _ H O (cF17) (cA17) (y17_0_0) (((eF17 5 0).trans ey17_0_0)) (upd1 (w3) (0) (((D 5 : Nat) : Int))) (((show A17 3 = (updA A 3 (0) (((D 5 : Nat) : Int))) 3 from (eA17 3))).trans (congrArg (fun q => upd1 q (0) (((D 5 : Nat) : Int))) (ew3))) (w17_3) ((eA17 6).trans ew17_3) (w17_4) ((eA17 7).trans ew17_4) (w17_5) ((eA17 8).trans ew17_5) (w17_6) ((eA17 9).trans ew17_6) (w17_2) ((eA17 11).trans ew17_2) (w17_8) ((eA17 12).trans ew17_8) (w17_9) ((eA17 13).trans ew17_9) (show inr (z17) from pz17_0) (show (z17) = -1 ∨ 0 ≤ (a3) ∧ (a3) ≤ (z17) ∧ (z17) ≤ (a4) by omega) (pz17_3) (show ((upd1 (w3) (0) (((D 5 : Nat) : Int)))) 0 = (((D 5 : Nat) : Int)) by omega) (show (z17) = -1 ∨ (y17_0_0) ≤ 9 by omega) (hlt) (show 0 = 0 ∨ ((upd1 (w3) (0) (((D 5 : Nat) : Int)))) 0 = ((w3)) 0 by first | exact q_3857 | omega) (show 0 = 1 ∨ ((upd1 (w3) (0) (((D 5 : Nat) : Int)))) 1 = ((w3)) 1 by omega) (show 0 = 2 ∨ ((upd1 (w3) (0) (((D 5 : Nat) : Int)))) 2 = ((w3)) 2 by omega))
  · have hno : (-1 : Int) = -1 ∨ SL ((w6)) ((u5_1)) ((u5_0)) ((w7)) ((w8)) ((w9)) ((w11)) ((w12)) ((w13)) := .inl rfl
    have hnt : LNT (ub8 ((w1))) ((a4)) 2 ((a3)) ((-1 : Int)) ((u5_0)) ((w6)) := .inl ⟨by omega, rfl⟩
    refine Ew_of (pcₚ := 20) (fun _ => x_iconst rfl) ?_
    refine Ew_of (pcₚ := 41) (fun _ => x_goto rfl rfl) ?_
    have hlt : LNT (ub8 ((w1))) ((a4)) 2 ((a3)) (((-1))) ((u5_0)) ((w6)) := by first | assumption | exact .inr ⟨by omega, by have h := pz17_4; rw [hgv, show (u5_1) = 36 by omega] at h; exact h⟩
    exact w_ireturn rfl (k ((-1)) _ _ _ H O (SF_refl) (cAu14) (u5_0) ((eu5_0)) (upd1 (w3) (0) (((D 5 : Nat) : Int))) (congrArg (fun q => upd1 q (0) (((D 5 : Nat) : Int))) (ew3)) (w6) (ew6) (w7) (ew7) (w8) (ew8) (w9) (ew9) (w11) (ew11) (w12) (ew12) (w13) (ew13) (show inr ((-1)) from q_63) (show ((-1)) = -1 ∨ 0 ≤ (a3) ∧ (a3) ≤ ((-1)) ∧ ((-1)) ≤ (a4) by first | exact q_3859 | omega) (show ((-1)) = -1 ∨ SL ((w6)) ((u5_1)) ((u5_0)) ((w7)) ((w8)) ((w9)) ((w11)) ((w12)) ((w13)) by assumption) (show ((upd1 (w3) (0) (((D 5 : Nat) : Int)))) 0 = (((D 5 : Nat) : Int)) by omega) (show ((-1)) = -1 ∨ (u5_0) ≤ 9 by first | exact q_3858 | omega) (hlt) (show 0 = 0 ∨ ((upd1 (w3) (0) (((D 5 : Nat) : Int)))) 0 = ((w3)) 0 by first | exact q_3857 | omega) (show 0 = 1 ∨ ((upd1 (w3) (0) (((D 5 : Nat) : Int)))) 1 = ((w3)) 1 by omega) (show 0 = 2 ∨ ((upd1 (w3) (0) (((D 5 : Nat) : Int)))) 2 = ((w3)) 2 by omega))
abbrev V118_Br_c11 : vV := [(0, 4, [(4, 0), (4, 0), (0, 0), (4, 0), (4, 0)]), (1, 0, []), (0, 9, [(4, 0), (4, 0), (4, 0)]), (1, 5, []), (1, 5, []), (0, 8, [(0, 0), (0, 0), (4, 0), (4, 0), (4, 0), (4, 0), (4, 0), (4, 0), (4, 0), (4, 0), (4, 0), (0, 0), (0, 0)]), (1, 1, []), (1, 1, []), (1, 1, []), (1, 1, []), (1, 1, []), (1, 1, []), (1, 1, []), (1, 1, [])]
theorem len_V118_Br_c11_oz_G2cls : (V118_Br_c11).length = 14 := by decide +kernel
theorem oz_G2cls_6 : vsub V118_Br_c11 V184_Br [5, 1, 11, 6, 7, 8, 9, 10, 12, 13] = true := by decide +kernel

theorem C118_Br_c11 {σE : rS} {D N : Nat → Nat} {F : hF} {A : hA} {d c s : Nat} {Q : wQ} (H : HW V118_Br_c11 σE D N F A) (HT : STC σE) {a3 a4 : Int} (pf2 : HID (F 0 1 = (D 2 : Int))) (pf3 : HID (F 2 1 = (D 3 : Int))) (pf4 : HID (F 0 4 = (D 4 : Int))) (pf5 : HID (A 4 1 = (D 5 : Int))) (pf6 : HID (F 5 2 = (D 6 : Int))) (pf7 : HID (F 5 3 = (D 7 : Int))) (pf8 : HID (F 5 4 = (D 8 : Int))) (pf9 : HID (F 5 5 = (D 9 : Int))) (pf10 : HID (F 5 6 = (D 10 : Int))) (pf11 : HID (F 5 7 = (D 11 : Int))) (pf12 : HID (F 5 8 = (D 12 : Int))) (pf13 : HID (F 5 9 = (D 13 : Int))) (n1 : Int) (en1 : HID ((N 1 : Int) = n1)) (n3 : Int) (en3 : HID ((N 3 : Int) = n3)) (n4 : Int) (en4 : HID ((N 4 : Int) = n4)) (n6 : Int) (en6 : HID ((N 6 : Int) = n6)) (n7 : Int) (en7 : HID ((N 7 : Int) = n7)) (n8 : Int) (en8 : HID ((N 8 : Int) = n8)) (n9 : Int) (en9 : HID ((N 9 : Int) = n9)) (n10 : Int) (en10 : HID ((N 10 : Int) = n10)) (n11 : Int) (en11 : HID ((N 11 : Int) = n11)) (n12 : Int) (en12 : HID ((N 12 : Int) = n12)) (n13 : Int) (en13 : HID ((N 13 : Int) = n13)) (u5_0 : Int) (eu5_0 : HID (F 5 0 = u5_0)) (u5_1 : Int) (eu5_1 : HID (F 5 1 = u5_1)) (w1 : Int → Int) (ew1 : A 1 = w1) (w3 : Int → Int) (ew3 : A 3 = w3) (w6 : Int → Int) (ew6 : A 6 = w6) (w7 : Int → Int) (ew7 : A 7 = w7) (w8 : Int → Int) (ew8 : A 8 = w8) (w9 : Int → Int) (ew9 : A 9 = w9) (w11 : Int → Int) (ew11 : A 11 = w11) (w12 : Int → Int) (ew12 : A 12 = w12) (w13 : Int → Int) (ew13 : A 13 = w13) (h0 : inr (1)) (h1 : inr (a3)) (h2 : inr (a4)) (h3 : (a3) = -1 ∨ 0 ≤ (a3) ∧ (a3) ≤ (a4)) (h4 : 0 ≤ (a4) ∧ (a4) ≤ (n1) ∧ (n1) ≤ 65536) (h5 : (n3) = 3 ∧ (n4) = 3) (h6 : SHZD ((n6)) ((n7)) ((n8)) ((n9)) ((n10)) ((n11)) ((n12)) ((n13)) ((u5_1)) 32 256) (k : ∀ (z : Int) (σ : rS) (Fₚ : hF) (Aₚ : hA), HW V118_Br_c11 σ D N Fₚ Aₚ → OUT (V118_Br_c11).length D N σE c s D N σ c s → SF [(5, 0), (5, 10), (5, 11), (5, 12)] F Fₚ → SA [3, 6, 7, 8, 9, 10, 11, 12, 13] A Aₚ → ∀ y5_0 : Int, Fₚ 5 0 = y5_0 → ∀ v3 : Int → Int, Aₚ 3 = v3 → ∀ v6 : Int → Int, Aₚ 6 = v6 → ∀ v7 : Int → Int, Aₚ 7 = v7 → ∀ v8 : Int → Int, Aₚ 8 = v8 → ∀ v9 : Int → Int, Aₚ 9 = v9 → ∀ v11 : Int → Int, Aₚ 11 = v11 → ∀ v12 : Int → Int, Aₚ 12 = v12 → ∀ v13 : Int → Int, Aₚ 13 = v13 → (inr (z)) → ((z) = -1 ∨ 0 ≤ (a3) ∧ (a3) ≤ (z) ∧ (z) ≤ (a4)) → ((z) = -1 ∨ SL ((v6)) ((u5_1)) ((y5_0)) ((v7)) ((v8)) ((v9)) ((v11)) ((v12)) ((v13))) → (((v3)) 1 = (((D 5 : Nat) : Int))) → ((z) = -1 ∨ (y5_0) ≤ 8) → (LNT (ub8 ((w1))) ((a4)) 0 ((a3)) ((z)) ((y5_0)) ((v6))) → (1 = 0 ∨ ((v3)) 0 = ((w3)) 0) → (1 = 1 ∨ ((v3)) 1 = ((w3)) 1) → (1 = 2 ∨ ((v3)) 2 = ((w3)) 2) → Q (some (I z)) σ c s) : Ew 118 (d + 2) 0 (rargs 0 [.ref (D 0), I 1, .ref (D 1), I a3, I a4]) [] σE c s Q := by
  have O := OUT_refl (n := (V118_Br_c11).length) (D := D) (N := N) (σ := σE) (c := c) (s := s)
  have HE := H
  have r1 : (-2147483648 : Int) ≤ u5_0 ∧ u5_0 ≤ 2147483647 := rngE (show (-2147483648 : Int) ≤ F 5 0 ∧ F 5 0 ≤ 2147483647 from H.krg 5 0 (ltn len_V118_Br_c11_oz_G2cls rfl)) (show F 5 0 = u5_0 from (eu5_0))
  have r2 : (-2147483648 : Int) ≤ u5_1 ∧ u5_1 ≤ 2147483647 := rngE (show (-2147483648 : Int) ≤ F 5 1 ∧ F 5 1 ≤ 2147483647 from H.krg 5 1 (ltn len_V118_Br_c11_oz_G2cls rfl)) (show F 5 1 = u5_1 from (eu5_1))
  have r3 : (0 : Int) ≤ n1 ∧ n1 ≤ 1000000 := nleE (H.nle 1 (ltn len_V118_Br_c11_oz_G2cls rfl)) (show (N 1 : Int) = n1 from en1)
  have r4 : (0 : Int) ≤ n3 ∧ n3 ≤ 1000000 := nleE (H.nle 3 (ltn len_V118_Br_c11_oz_G2cls rfl)) (show (N 3 : Int) = n3 from en3)
  have r5 : (0 : Int) ≤ n4 ∧ n4 ≤ 1000000 := nleE (H.nle 4 (ltn len_V118_Br_c11_oz_G2cls rfl)) (show (N 4 : Int) = n4 from en4)
  have r6 : (0 : Int) ≤ n6 ∧ n6 ≤ 1000000 := nleE (H.nle 6 (ltn len_V118_Br_c11_oz_G2cls rfl)) (show (N 6 : Int) = n6 from en6)
  have r7 : (0 : Int) ≤ n7 ∧ n7 ≤ 1000000 := nleE (H.nle 7 (ltn len_V118_Br_c11_oz_G2cls rfl)) (show (N 7 : Int) = n7 from en7)
  have r8 : (0 : Int) ≤ n8 ∧ n8 ≤ 1000000 := nleE (H.nle 8 (ltn len_V118_Br_c11_oz_G2cls rfl)) (show (N 8 : Int) = n8 from en8)
  have r9 : (0 : Int) ≤ n9 ∧ n9 ≤ 1000000 := nleE (H.nle 9 (ltn len_V118_Br_c11_oz_G2cls rfl)) (show (N 9 : Int) = n9 from en9)
  have r10 : (0 : Int) ≤ n10 ∧ n10 ≤ 1000000 := nleE (H.nle 10 (ltn len_V118_Br_c11_oz_G2cls rfl)) (show (N 10 : Int) = n10 from en10)
  have r11 : (0 : Int) ≤ n11 ∧ n11 ≤ 1000000 := nleE (H.nle 11 (ltn len_V118_Br_c11_oz_G2cls rfl)) (show (N 11 : Int) = n11 from en11)
  have r12 : (0 : Int) ≤ n12 ∧ n12 ≤ 1000000 := nleE (H.nle 12 (ltn len_V118_Br_c11_oz_G2cls rfl)) (show (N 12 : Int) = n12 from en12)
  have r13 : (0 : Int) ≤ n13 ∧ n13 ≤ 1000000 := nleE (H.nle 13 (ltn len_V118_Br_c11_oz_G2cls rfl)) (show (N 13 : Int) = n13 from en13)
  have hsz : SHZD ((n6)) ((n7)) ((n8)) ((n9)) ((n10)) ((n11)) ((n12)) ((n13)) ((u5_1)) 32 256 := h6
  unfold SHZD at hsz
  refine Ew_of (pcₚ := 1) (fun _ => x_aload_n rfl rfl) ?_
  refine v_g H (o := 0) (v := .ref (D 2)) rfl rfl rfl rfl rfl (vrf (pf2)) ?_
  refine v_g H (o := 2) (v := .ref (D 3)) rfl rfl rfl rfl rfl (vrf (pf3)) ?_
  refine Ew_of (pcₚ := 8) (fun _ => x_iload_n rfl rfl) ?_
  refine Ew_of (pcₚ := 9) (fun _ => x_aload_n rfl rfl) ?_
  refine v_g H (o := 0) (v := .ref (D 4)) rfl rfl rfl rfl rfl (vrf (pf4)) ?_
  refine Ew_of (pcₚ := 13) (fun _ => x_iload_n rfl rfl) ?_
  refine v_lR H (o := 4) rfl rfl rfl rfl rfl (n := n4) (en4) (show 0 ≤ 1 ∧ 1 < n4 from q_3860 h5 r5) (z := ((D 5 : Nat) : Int)) (v := .ref (D 5)) (pf5) (vrf rfl) ?_
  have hu := fun j (hj : j ≠ 1) => upd1_o (a := ((w3))) (j := 1) (z := (((D 5 : Nat) : Int))) (i := j) hj
  have hs := upd1_s (a := ((w3))) (j := 1) (z := (((D 5 : Nat) : Int)))
  have hu0 : (1 : Int) = 0 ∨ upd1 ((w3)) 1 ((((D 5 : Nat) : Int))) 0 = ((w3)) 0 := by by_cases w : (0 : Int) = 1; exact .inl (by omega); exact .inr (hu 0 w)
  have hu1 : (1 : Int) = 1 ∨ upd1 ((w3)) 1 ((((D 5 : Nat) : Int))) 1 = ((w3)) 1 := by by_cases w : (1 : Int) = 1; exact .inl (by omega); exact .inr (hu 1 w)
  have hu2 : (1 : Int) = 2 ∨ upd1 ((w3)) 1 ((((D 5 : Nat) : Int))) 2 = ((w3)) 2 := by by_cases w : (2 : Int) = 1; exact .inl (by omega); exact .inr (hu 2 w)
  refine v_sR H (o := 3) (z := ((D 5 : Nat) : Int)) (v := .ref (D 5)) rfl rfl rfl rfl rfl (n := n3) (en3) (show 0 ≤ 1 ∧ 1 < n3 from q_3861 h5 r4) (show (-1 : Int) ≤ ((D 5 : Nat) : Int) by omega) (vrf rfl) (rkinR H (x := 5) rfl rfl rfl) (fun σ H Oₚ => ?_)
  have O := OUT_trans O Oₚ
  have cAu14 : SA oz_G2clsl_0 A (updA A 3 (1) (((D 5 : Nat) : Int))) := SA_upd (SA_refl) rfl
  have mAu14 := SAm_of cAu14 oz_G2cls_2
  refine Ew_of (pcₚ := 16) (fun _ => x_iload_n rfl rfl) ?_
  refine w_ifge (t := 23) rfl rfl (show inr (a3) from h1) (fun b15 => ?_) (fun b15 => ?_)
  · refine Ew_of (pcₚ := 24) (fun _ => x_aload_n rfl rfl) ?_
    refine v_g H (o := 0) (v := .ref (D 4)) rfl rfl rfl rfl rfl (vrf (pf4)) ?_
    refine Ew_of (pcₚ := 28) (fun _ => x_iload_n rfl rfl) ?_
    refine v_lR H (o := 4) rfl rfl rfl rfl rfl (n := n4) (en4) (show 0 ≤ 1 ∧ 1 < n4 from q_3860 h5 r5) (z := ((D 5 : Nat) : Int)) (v := .ref (D 5)) ((mAu14 4 rfl 1).trans (pf5)) (vrf rfl) ?_
    refine Ew_of (pcₚ := 30) (fun _ => x_aload_n rfl rfl) ?_
    refine Ew_of (pcₚ := 31) (fun _ => x_iload_n rfl rfl) ?_
    refine Ew_of (pcₚ := 33) (fun _ => x_iload rfl rfl) ?_
    refine Ew_of (pcₚ := 36) (fun _ => x_getstatic rfl) ?_
    refine Ew_of (pcₚ := 37) (fun _ => x_iload_n rfl rfl) ?_
    refine v_stI (STC_out HT HE O) (b := 2) (n := 3) rfl rfl rfl rfl (show 0 ≤ 1 ∧ 1 < 3 from q_3862) (fun v16 ev16 qv16 => ?_)
    have hgo := ev16
    have hgv : ((v16) : Int) = 8 := by rw [← hgo]; rfl
    have hpg : p2 ((v16)) = 256 := by rw [hgv]; decide
    refine v_inv H (o := 5) rfl rfl rfl rfl rfl rfl (by rfl) (C184_Br (D := puc 31488832103906706239259141 D) (N := puc 31488832103906706239259141 N) (HW_subc H oz_G2cls_6 oz_G2cls_4) (pf11) (pf6) (pf7) (pf8) (pf9) (pf10) (pf12) (pf13) (n1) (en1) (n11) (en11) (n6) (en6) (n7) (en7) (n8) (en8) (n9) (en9) (n10) (en10) (n12) (en12) (n13) (en13) (u5_0) ((eu5_0)) (u5_1) ((eu5_1)) (w1) ((funext (mAu14 1 rfl)).trans (ew1)) (w11) (ew11) (w6) (ew6) (w7) (ew7) (w8) (ew8) (w9) (ew9) (w12) (ew12) (w13) (ew13) (show inr (a3) from h1) (show inr (a4) from h2) (show inr (v16) from qv16) (show 0 ≤ (a3) ∧ (a3) ≤ (a4) ∧ (a4) ≤ (n1) ∧ (n1) ≤ 65536 from q_3856 b15 h3 h4) (show 5 ≤ (v16) ∧ (v16) ≤ 9 ∧ p2 (v16) ≤ (n11) by omega) (show (n6) = (u5_1) ∧ (n7) = (u5_1) ∧ (n8) = (u5_1) ∧ (n9) = (u5_1) ∧ (n10) = (u5_1) ∧ (n12) = (n11) ∧ (n13) = (n11) ∧ 1 ≤ (u5_1) ∧ (u5_1) ≤ 64 by omega) (fun z17 σ17 F17ₚ A17ₚ Hₚ Oₚ hS17 hA17 y17_0_0 (ey17_0_0 : HID _) w17_2 ew17_2 w17_3 ew17_3 w17_4 ew17_4 w17_5 ew17_5 w17_6 ew17_6 w17_8 ew17_8 w17_9 ew17_9 (pq17_0 : HID _) pz17_0 pz17_1 pz17_2 pz17_3 pz17_4 => ⟨rfl, ?_⟩))
    refine v_backc (c := c) (s := s) H oz_G2cls_6 oz_G2cls_4 Hₚ Oₚ (fun F17 A17 H Oₚ eF17 eA17 => ?_)
    have O := OUT_trans O Oₚ
    -- Share.hear
    have cF17 : SF oz_G2clsl_1 F F17 := SF_trans (SF_refl) (SF_gluc (ι := oz_G2clsl_2) oz_G2cls_4 hS17 eF17 (by decide +kernel)) (any_sub (lₚ := [(5, 0), (5, 10), (5, 11), (5, 12)]) (by decide +kernel))
    have mF17 := SFm_of cF17 oz_G2cls_3
    have cA17 : SA oz_G2clsl_0 A A17 := SA_trans (cAu14) (SA_gluc (ι := oz_G2clsl_2) oz_G2cls_4 hA17 eA17 (by decide +kernel)) (any_subA (lₚ := [6, 7, 8, 9, 10, 11, 12, 13]) (by decide +kernel))
    have mA17 := SAm_of cA17 oz_G2cls_2
    have pl17_0 : HID (F17 5 10 = (D 1 : Int)) := (eF17 5 10).trans (pq17_0)
    have r18 : (-2147483648 : Int) ≤ y17_0_0 ∧ y17_0_0 ≤ 2147483647 := rngE (show (-2147483648 : Int) ≤ F17 5 0 ∧ F17 5 0 ≤ 2147483647 from H.krg 5 0 (ltn len_V118_Br_c11_oz_G2cls rfl)) (show F17 5 0 = y17_0_0 from ((eF17 5 0).trans ey17_0_0))
    have hlt : LNT (ub8 ((w1))) ((a4)) 0 ((a3)) ((z17)) ((y17_0_0)) ((w17_3)) := by first | assumption | exact .inr ⟨by omega, by have h := pz17_4; rw [hgv, show (u5_1) = 32 by omega] at h; exact h⟩
    exact w_ireturn rfl (k (z17) _ _ _ H O (cF17) (cA17) (y17_0_0) (((eF17 5 0).trans ey17_0_0)) (upd1 (w3) (1) (((D 5 : Nat) : Int))) (((show A17 3 = (updA A 3 (1) (((D 5 : Nat) : Int))) 3 from (eA17 3))).trans (congrArg (fun q => upd1 q (1) (((D 5 : Nat) : Int))) (ew3))) (w17_3) ((eA17 6).trans ew17_3) (w17_4) ((eA17 7).trans ew17_4) (w17_5) ((eA17 8).trans ew17_5) (w17_6) ((eA17 9).trans ew17_6) (w17_2) ((eA17 11).trans ew17_2) (w17_8) ((eA17 12).trans ew17_8) (w17_9) ((eA17 13).trans ew17_9) (show inr (z17) from pz17_0) (show (z17) = -1 ∨ 0 ≤ (a3) ∧ (a3) ≤ (z17) ∧ (z17) ≤ (a4) by omega) (pz17_3) (show ((upd1 (w3) (1) (((D 5 : Nat) : Int)))) 1 = (((D 5 : Nat) : Int)) by omega) (show (z17) = -1 ∨ (y17_0_0) ≤ 8 by omega) (hlt) (show 1 = 0 ∨ ((upd1 (w3) (1) (((D 5 : Nat) : Int)))) 0 = ((w3)) 0 by omega) (show 1 = 1 ∨ ((upd1 (w3) (1) (((D 5 : Nat) : Int)))) 1 = ((w3)) 1 by first | exact q_3863 | omega) (show 1 = 2 ∨ ((upd1 (w3) (1) (((D 5 : Nat) : Int)))) 2 = ((w3)) 2 by omega))
  · have hno : (-1 : Int) = -1 ∨ SL ((w6)) ((u5_1)) ((u5_0)) ((w7)) ((w8)) ((w9)) ((w11)) ((w12)) ((w13)) := .inl rfl
    have hnt : LNT (ub8 ((w1))) ((a4)) 0 ((a3)) ((-1 : Int)) ((u5_0)) ((w6)) := .inl ⟨by omega, rfl⟩
    refine Ew_of (pcₚ := 20) (fun _ => x_iconst rfl) ?_
    refine Ew_of (pcₚ := 41) (fun _ => x_goto rfl rfl) ?_
    have hlt : LNT (ub8 ((w1))) ((a4)) 0 ((a3)) (((-1))) ((u5_0)) ((w6)) := by first | assumption | exact .inr ⟨by omega, by have h := pz17_4; rw [hgv, show (u5_1) = 32 by omega] at h; exact h⟩
    exact w_ireturn rfl (k ((-1)) _ _ _ H O (SF_refl) (cAu14) (u5_0) ((eu5_0)) (upd1 (w3) (1) (((D 5 : Nat) : Int))) (congrArg (fun q => upd1 q (1) (((D 5 : Nat) : Int))) (ew3)) (w6) (ew6) (w7) (ew7) (w8) (ew8) (w9) (ew9) (w11) (ew11) (w12) (ew12) (w13) (ew13) (show inr ((-1)) from q_63) (show ((-1)) = -1 ∨ 0 ≤ (a3) ∧ (a3) ≤ ((-1)) ∧ ((-1)) ≤ (a4) by first | exact q_3859 | omega) (show ((-1)) = -1 ∨ SL ((w6)) ((u5_1)) ((u5_0)) ((w7)) ((w8)) ((w9)) ((w11)) ((w12)) ((w13)) by assumption) (show ((upd1 (w3) (1) (((D 5 : Nat) : Int)))) 1 = (((D 5 : Nat) : Int)) by omega) (show ((-1)) = -1 ∨ (u5_0) ≤ 8 by first | exact q_3864 | omega) (hlt) (show 1 = 0 ∨ ((upd1 (w3) (1) (((D 5 : Nat) : Int)))) 0 = ((w3)) 0 by omega) (show 1 = 1 ∨ ((upd1 (w3) (1) (((D 5 : Nat) : Int)))) 1 = ((w3)) 1 by first | exact q_3863 | omega) (show 1 = 2 ∨ ((upd1 (w3) (1) (((D 5 : Nat) : Int)))) 2 = ((w3)) 2 by omega))
abbrev V118_Br_c12 : vV := [(0, 4, [(4, 0), (4, 0), (0, 0), (4, 0), (4, 0)]), (1, 0, []), (0, 9, [(4, 0), (4, 0), (4, 0)]), (1, 5, []), (1, 5, []), (0, 8, [(0, 0), (0, 0), (4, 0), (4, 0), (4, 0), (4, 0), (4, 0), (4, 0), (4, 0), (4, 0), (4, 0), (0, 0), (0, 0)]), (1, 1, []), (1, 1, []), (1, 1, []), (1, 1, []), (1, 1, []), (1, 1, []), (1, 1, []), (1, 1, [])]
theorem len_V118_Br_c12_oz_G2cls : (V118_Br_c12).length = 14 := by decide +kernel
theorem oz_G2cls_8 : vsub V118_Br_c12 V184_Br [5, 1, 11, 6, 7, 8, 9, 10, 12, 13] = true := by decide +kernel

theorem C118_Br_c12 {σE : rS} {D N : Nat → Nat} {F : hF} {A : hA} {d c s : Nat} {Q : wQ} (H : HW V118_Br_c12 σE D N F A) (HT : STC σE) {a3 a4 : Int} (pf2 : HID (F 0 1 = (D 2 : Int))) (pf3 : HID (F 2 1 = (D 3 : Int))) (pf4 : HID (F 0 4 = (D 4 : Int))) (pf5 : HID (A 4 2 = (D 5 : Int))) (pf6 : HID (F 5 2 = (D 6 : Int))) (pf7 : HID (F 5 3 = (D 7 : Int))) (pf8 : HID (F 5 4 = (D 8 : Int))) (pf9 : HID (F 5 5 = (D 9 : Int))) (pf10 : HID (F 5 6 = (D 10 : Int))) (pf11 : HID (F 5 7 = (D 11 : Int))) (pf12 : HID (F 5 8 = (D 12 : Int))) (pf13 : HID (F 5 9 = (D 13 : Int))) (n1 : Int) (en1 : HID ((N 1 : Int) = n1)) (n3 : Int) (en3 : HID ((N 3 : Int) = n3)) (n4 : Int) (en4 : HID ((N 4 : Int) = n4)) (n6 : Int) (en6 : HID ((N 6 : Int) = n6)) (n7 : Int) (en7 : HID ((N 7 : Int) = n7)) (n8 : Int) (en8 : HID ((N 8 : Int) = n8)) (n9 : Int) (en9 : HID ((N 9 : Int) = n9)) (n10 : Int) (en10 : HID ((N 10 : Int) = n10)) (n11 : Int) (en11 : HID ((N 11 : Int) = n11)) (n12 : Int) (en12 : HID ((N 12 : Int) = n12)) (n13 : Int) (en13 : HID ((N 13 : Int) = n13)) (u5_0 : Int) (eu5_0 : HID (F 5 0 = u5_0)) (u5_1 : Int) (eu5_1 : HID (F 5 1 = u5_1)) (w1 : Int → Int) (ew1 : A 1 = w1) (w3 : Int → Int) (ew3 : A 3 = w3) (w6 : Int → Int) (ew6 : A 6 = w6) (w7 : Int → Int) (ew7 : A 7 = w7) (w8 : Int → Int) (ew8 : A 8 = w8) (w9 : Int → Int) (ew9 : A 9 = w9) (w11 : Int → Int) (ew11 : A 11 = w11) (w12 : Int → Int) (ew12 : A 12 = w12) (w13 : Int → Int) (ew13 : A 13 = w13) (h0 : inr (2)) (h1 : inr (a3)) (h2 : inr (a4)) (h3 : (a3) = -1 ∨ 0 ≤ (a3) ∧ (a3) ≤ (a4)) (h4 : 0 ≤ (a4) ∧ (a4) ≤ (n1) ∧ (n1) ≤ 65536) (h5 : (n3) = 3 ∧ (n4) = 3) (h6 : SHZD ((n6)) ((n7)) ((n8)) ((n9)) ((n10)) ((n11)) ((n12)) ((n13)) ((u5_1)) 53 512) (k : ∀ (z : Int) (σ : rS) (Fₚ : hF) (Aₚ : hA), HW V118_Br_c12 σ D N Fₚ Aₚ → OUT (V118_Br_c12).length D N σE c s D N σ c s → SF [(5, 0), (5, 10), (5, 11), (5, 12)] F Fₚ → SA [3, 6, 7, 8, 9, 10, 11, 12, 13] A Aₚ → ∀ y5_0 : Int, Fₚ 5 0 = y5_0 → ∀ v3 : Int → Int, Aₚ 3 = v3 → ∀ v6 : Int → Int, Aₚ 6 = v6 → ∀ v7 : Int → Int, Aₚ 7 = v7 → ∀ v8 : Int → Int, Aₚ 8 = v8 → ∀ v9 : Int → Int, Aₚ 9 = v9 → ∀ v11 : Int → Int, Aₚ 11 = v11 → ∀ v12 : Int → Int, Aₚ 12 = v12 → ∀ v13 : Int → Int, Aₚ 13 = v13 → (inr (z)) → ((z) = -1 ∨ 0 ≤ (a3) ∧ (a3) ≤ (z) ∧ (z) ≤ (a4)) → ((z) = -1 ∨ SL ((v6)) ((u5_1)) ((y5_0)) ((v7)) ((v8)) ((v9)) ((v11)) ((v12)) ((v13))) → (((v3)) 2 = (((D 5 : Nat) : Int))) → ((z) = -1 ∨ (y5_0) ≤ 9) → (LNT (ub8 ((w1))) ((a4)) 1 ((a3)) ((z)) ((y5_0)) ((v6))) → (2 = 0 ∨ ((v3)) 0 = ((w3)) 0) → (2 = 1 ∨ ((v3)) 1 = ((w3)) 1) → (2 = 2 ∨ ((v3)) 2 = ((w3)) 2) → Q (some (I z)) σ c s) : Ew 118 (d + 2) 0 (rargs 0 [.ref (D 0), I 2, .ref (D 1), I a3, I a4]) [] σE c s Q := by
  have O := OUT_refl (n := (V118_Br_c12).length) (D := D) (N := N) (σ := σE) (c := c) (s := s)
  have HE := H
  have r1 : (-2147483648 : Int) ≤ u5_0 ∧ u5_0 ≤ 2147483647 := rngE (show (-2147483648 : Int) ≤ F 5 0 ∧ F 5 0 ≤ 2147483647 from H.krg 5 0 (ltn len_V118_Br_c12_oz_G2cls rfl)) (show F 5 0 = u5_0 from (eu5_0))
  have r2 : (-2147483648 : Int) ≤ u5_1 ∧ u5_1 ≤ 2147483647 := rngE (show (-2147483648 : Int) ≤ F 5 1 ∧ F 5 1 ≤ 2147483647 from H.krg 5 1 (ltn len_V118_Br_c12_oz_G2cls rfl)) (show F 5 1 = u5_1 from (eu5_1))
  have r3 : (0 : Int) ≤ n1 ∧ n1 ≤ 1000000 := nleE (H.nle 1 (ltn len_V118_Br_c12_oz_G2cls rfl)) (show (N 1 : Int) = n1 from en1)
  have r4 : (0 : Int) ≤ n3 ∧ n3 ≤ 1000000 := nleE (H.nle 3 (ltn len_V118_Br_c12_oz_G2cls rfl)) (show (N 3 : Int) = n3 from en3)
  have r5 : (0 : Int) ≤ n4 ∧ n4 ≤ 1000000 := nleE (H.nle 4 (ltn len_V118_Br_c12_oz_G2cls rfl)) (show (N 4 : Int) = n4 from en4)
  have r6 : (0 : Int) ≤ n6 ∧ n6 ≤ 1000000 := nleE (H.nle 6 (ltn len_V118_Br_c12_oz_G2cls rfl)) (show (N 6 : Int) = n6 from en6)
  have r7 : (0 : Int) ≤ n7 ∧ n7 ≤ 1000000 := nleE (H.nle 7 (ltn len_V118_Br_c12_oz_G2cls rfl)) (show (N 7 : Int) = n7 from en7)
  have r8 : (0 : Int) ≤ n8 ∧ n8 ≤ 1000000 := nleE (H.nle 8 (ltn len_V118_Br_c12_oz_G2cls rfl)) (show (N 8 : Int) = n8 from en8)
  have r9 : (0 : Int) ≤ n9 ∧ n9 ≤ 1000000 := nleE (H.nle 9 (ltn len_V118_Br_c12_oz_G2cls rfl)) (show (N 9 : Int) = n9 from en9)
  have r10 : (0 : Int) ≤ n10 ∧ n10 ≤ 1000000 := nleE (H.nle 10 (ltn len_V118_Br_c12_oz_G2cls rfl)) (show (N 10 : Int) = n10 from en10)
  have r11 : (0 : Int) ≤ n11 ∧ n11 ≤ 1000000 := nleE (H.nle 11 (ltn len_V118_Br_c12_oz_G2cls rfl)) (show (N 11 : Int) = n11 from en11)
  have r12 : (0 : Int) ≤ n12 ∧ n12 ≤ 1000000 := nleE (H.nle 12 (ltn len_V118_Br_c12_oz_G2cls rfl)) (show (N 12 : Int) = n12 from en12)
  have r13 : (0 : Int) ≤ n13 ∧ n13 ≤ 1000000 := nleE (H.nle 13 (ltn len_V118_Br_c12_oz_G2cls rfl)) (show (N 13 : Int) = n13 from en13)
  have hsz : SHZD ((n6)) ((n7)) ((n8)) ((n9)) ((n10)) ((n11)) ((n12)) ((n13)) ((u5_1)) 53 512 := h6
  unfold SHZD at hsz
  refine Ew_of (pcₚ := 1) (fun _ => x_aload_n rfl rfl) ?_
  refine v_g H (o := 0) (v := .ref (D 2)) rfl rfl rfl rfl rfl (vrf (pf2)) ?_
  refine v_g H (o := 2) (v := .ref (D 3)) rfl rfl rfl rfl rfl (vrf (pf3)) ?_
  refine Ew_of (pcₚ := 8) (fun _ => x_iload_n rfl rfl) ?_
  refine Ew_of (pcₚ := 9) (fun _ => x_aload_n rfl rfl) ?_
  refine v_g H (o := 0) (v := .ref (D 4)) rfl rfl rfl rfl rfl (vrf (pf4)) ?_
  refine Ew_of (pcₚ := 13) (fun _ => x_iload_n rfl rfl) ?_
  refine v_lR H (o := 4) rfl rfl rfl rfl rfl (n := n4) (en4) (show 0 ≤ 2 ∧ 2 < n4 from q_3865 h5) (z := ((D 5 : Nat) : Int)) (v := .ref (D 5)) (pf5) (vrf rfl) ?_
  have hu := fun j (hj : j ≠ 2) => upd1_o (a := ((w3))) (j := 2) (z := (((D 5 : Nat) : Int))) (i := j) hj
  have hs := upd1_s (a := ((w3))) (j := 2) (z := (((D 5 : Nat) : Int)))
  have hu0 : (2 : Int) = 0 ∨ upd1 ((w3)) 2 ((((D 5 : Nat) : Int))) 0 = ((w3)) 0 := by by_cases w : (0 : Int) = 2; exact .inl (by omega); exact .inr (hu 0 w)
  have hu1 : (2 : Int) = 1 ∨ upd1 ((w3)) 2 ((((D 5 : Nat) : Int))) 1 = ((w3)) 1 := by by_cases w : (1 : Int) = 2; exact .inl (by omega); exact .inr (hu 1 w)
  have hu2 : (2 : Int) = 2 ∨ upd1 ((w3)) 2 ((((D 5 : Nat) : Int))) 2 = ((w3)) 2 := by by_cases w : (2 : Int) = 2; exact .inl (by omega); exact .inr (hu 2 w)
  refine v_sR H (o := 3) (z := ((D 5 : Nat) : Int)) (v := .ref (D 5)) rfl rfl rfl rfl rfl (n := n3) (en3) (show 0 ≤ 2 ∧ 2 < n3 from q_3866 h5) (show (-1 : Int) ≤ ((D 5 : Nat) : Int) by omega) (vrf rfl) (rkinR H (x := 5) rfl rfl rfl) (fun σ H Oₚ => ?_)
  have O := OUT_trans O Oₚ
  have cAu14 : SA oz_G2clsl_0 A (updA A 3 (2) (((D 5 : Nat) : Int))) := SA_upd (SA_refl) rfl
  have mAu14 := SAm_of cAu14 oz_G2cls_2
  refine Ew_of (pcₚ := 16) (fun _ => x_iload_n rfl rfl) ?_
  refine w_ifge (t := 23) rfl rfl (show inr (a3) from h1) (fun b15 => ?_) (fun b15 => ?_)
  · refine Ew_of (pcₚ := 24) (fun _ => x_aload_n rfl rfl) ?_
    refine v_g H (o := 0) (v := .ref (D 4)) rfl rfl rfl rfl rfl (vrf (pf4)) ?_
    refine Ew_of (pcₚ := 28) (fun _ => x_iload_n rfl rfl) ?_
    refine v_lR H (o := 4) rfl rfl rfl rfl rfl (n := n4) (en4) (show 0 ≤ 2 ∧ 2 < n4 from q_3865 h5) (z := ((D 5 : Nat) : Int)) (v := .ref (D 5)) ((mAu14 4 rfl 2).trans (pf5)) (vrf rfl) ?_
    refine Ew_of (pcₚ := 30) (fun _ => x_aload_n rfl rfl) ?_
    refine Ew_of (pcₚ := 31) (fun _ => x_iload_n rfl rfl) ?_
    refine Ew_of (pcₚ := 33) (fun _ => x_iload rfl rfl) ?_
    refine Ew_of (pcₚ := 36) (fun _ => x_getstatic rfl) ?_
    refine Ew_of (pcₚ := 37) (fun _ => x_iload_n rfl rfl) ?_
    refine v_stI (STC_out HT HE O) (b := 2) (n := 3) rfl rfl rfl rfl (show 0 ≤ 2 ∧ 2 < 3 from q_3867) (fun v16 ev16 qv16 => ?_)
    have hgo := ev16
    have hgv : ((v16) : Int) = 9 := by rw [← hgo]; rfl
    have hpg : p2 ((v16)) = 512 := by rw [hgv]; decide
    refine v_inv H (o := 5) rfl rfl rfl rfl rfl rfl (by rfl) (C184_Br (D := puc 31488832103906706239259141 D) (N := puc 31488832103906706239259141 N) (HW_subc H oz_G2cls_8 oz_G2cls_4) (pf11) (pf6) (pf7) (pf8) (pf9) (pf10) (pf12) (pf13) (n1) (en1) (n11) (en11) (n6) (en6) (n7) (en7) (n8) (en8) (n9) (en9) (n10) (en10) (n12) (en12) (n13) (en13) (u5_0) ((eu5_0)) (u5_1) ((eu5_1)) (w1) ((funext (mAu14 1 rfl)).trans (ew1)) (w11) (ew11) (w6) (ew6) (w7) (ew7) (w8) (ew8) (w9) (ew9) (w12) (ew12) (w13) (ew13) (show inr (a3) from h1) (show inr (a4) from h2) (show inr (v16) from qv16) (show 0 ≤ (a3) ∧ (a3) ≤ (a4) ∧ (a4) ≤ (n1) ∧ (n1) ≤ 65536 from q_3856 b15 h3 h4) (show 5 ≤ (v16) ∧ (v16) ≤ 9 ∧ p2 (v16) ≤ (n11) by omega) (show (n6) = (u5_1) ∧ (n7) = (u5_1) ∧ (n8) = (u5_1) ∧ (n9) = (u5_1) ∧ (n10) = (u5_1) ∧ (n12) = (n11) ∧ (n13) = (n11) ∧ 1 ≤ (u5_1) ∧ (u5_1) ≤ 64 by omega) (fun z17 σ17 F17ₚ A17ₚ Hₚ Oₚ hS17 hA17 y17_0_0 (ey17_0_0 : HID _) w17_2 ew17_2 w17_3 ew17_3 w17_4 ew17_4 w17_5 ew17_5 w17_6 ew17_6 w17_8 ew17_8 w17_9 ew17_9 (pq17_0 : HID _) pz17_0 pz17_1 pz17_2 pz17_3 pz17_4 => ⟨rfl, ?_⟩))
    refine v_backc (c := c) (s := s) H oz_G2cls_8 oz_G2cls_4 Hₚ Oₚ (fun F17 A17 H Oₚ eF17 eA17 => ?_)
    have O := OUT_trans O Oₚ
    -- Share.hear
    have cF17 : SF oz_G2clsl_1 F F17 := SF_trans (SF_refl) (SF_gluc (ι := oz_G2clsl_2) oz_G2cls_4 hS17 eF17 (by decide +kernel)) (any_sub (lₚ := [(5, 0), (5, 10), (5, 11), (5, 12)]) (by decide +kernel))
    have mF17 := SFm_of cF17 oz_G2cls_3
    have cA17 : SA oz_G2clsl_0 A A17 := SA_trans (cAu14) (SA_gluc (ι := oz_G2clsl_2) oz_G2cls_4 hA17 eA17 (by decide +kernel)) (any_subA (lₚ := [6, 7, 8, 9, 10, 11, 12, 13]) (by decide +kernel))
    have mA17 := SAm_of cA17 oz_G2cls_2
    have pl17_0 : HID (F17 5 10 = (D 1 : Int)) := (eF17 5 10).trans (pq17_0)
    have r18 : (-2147483648 : Int) ≤ y17_0_0 ∧ y17_0_0 ≤ 2147483647 := rngE (show (-2147483648 : Int) ≤ F17 5 0 ∧ F17 5 0 ≤ 2147483647 from H.krg 5 0 (ltn len_V118_Br_c12_oz_G2cls rfl)) (show F17 5 0 = y17_0_0 from ((eF17 5 0).trans ey17_0_0))
    have hlt : LNT (ub8 ((w1))) ((a4)) 1 ((a3)) ((z17)) ((y17_0_0)) ((w17_3)) := by first | assumption | exact .inr ⟨by omega, by have h := pz17_4; rw [hgv, show (u5_1) = 53 by omega] at h; exact h⟩
    exact w_ireturn rfl (k (z17) _ _ _ H O (cF17) (cA17) (y17_0_0) (((eF17 5 0).trans ey17_0_0)) (upd1 (w3) (2) (((D 5 : Nat) : Int))) (((show A17 3 = (updA A 3 (2) (((D 5 : Nat) : Int))) 3 from (eA17 3))).trans (congrArg (fun q => upd1 q (2) (((D 5 : Nat) : Int))) (ew3))) (w17_3) ((eA17 6).trans ew17_3) (w17_4) ((eA17 7).trans ew17_4) (w17_5) ((eA17 8).trans ew17_5) (w17_6) ((eA17 9).trans ew17_6) (w17_2) ((eA17 11).trans ew17_2) (w17_8) ((eA17 12).trans ew17_8) (w17_9) ((eA17 13).trans ew17_9) (show inr (z17) from pz17_0) (show (z17) = -1 ∨ 0 ≤ (a3) ∧ (a3) ≤ (z17) ∧ (z17) ≤ (a4) by omega) (pz17_3) (show ((upd1 (w3) (2) (((D 5 : Nat) : Int)))) 2 = (((D 5 : Nat) : Int)) by omega) (show (z17) = -1 ∨ (y17_0_0) ≤ 9 by omega) (hlt) (show 2 = 0 ∨ ((upd1 (w3) (2) (((D 5 : Nat) : Int)))) 0 = ((w3)) 0 by omega) (show 2 = 1 ∨ ((upd1 (w3) (2) (((D 5 : Nat) : Int)))) 1 = ((w3)) 1 by omega) (show 2 = 2 ∨ ((upd1 (w3) (2) (((D 5 : Nat) : Int)))) 2 = ((w3)) 2 by first | exact q_3868 | omega))
  · have hno : (-1 : Int) = -1 ∨ SL ((w6)) ((u5_1)) ((u5_0)) ((w7)) ((w8)) ((w9)) ((w11)) ((w12)) ((w13)) := .inl rfl
    have hnt : LNT (ub8 ((w1))) ((a4)) 1 ((a3)) ((-1 : Int)) ((u5_0)) ((w6)) := .inl ⟨by omega, rfl⟩
    refine Ew_of (pcₚ := 20) (fun _ => x_iconst rfl) ?_
    refine Ew_of (pcₚ := 41) (fun _ => x_goto rfl rfl) ?_
    have hlt : LNT (ub8 ((w1))) ((a4)) 1 ((a3)) (((-1))) ((u5_0)) ((w6)) := by first | assumption | exact .inr ⟨by omega, by have h := pz17_4; rw [hgv, show (u5_1) = 53 by omega] at h; exact h⟩
    exact w_ireturn rfl (k ((-1)) _ _ _ H O (SF_refl) (cAu14) (u5_0) ((eu5_0)) (upd1 (w3) (2) (((D 5 : Nat) : Int))) (congrArg (fun q => upd1 q (2) (((D 5 : Nat) : Int))) (ew3)) (w6) (ew6) (w7) (ew7) (w8) (ew8) (w9) (ew9) (w11) (ew11) (w12) (ew12) (w13) (ew13) (show inr ((-1)) from q_63) (show ((-1)) = -1 ∨ 0 ≤ (a3) ∧ (a3) ≤ ((-1)) ∧ ((-1)) ≤ (a4) by first | exact q_3859 | omega) (show ((-1)) = -1 ∨ SL ((w6)) ((u5_1)) ((u5_0)) ((w7)) ((w8)) ((w9)) ((w11)) ((w12)) ((w13)) by assumption) (show ((upd1 (w3) (2) (((D 5 : Nat) : Int)))) 2 = (((D 5 : Nat) : Int)) by omega) (show ((-1)) = -1 ∨ (u5_0) ≤ 9 by first | exact q_3858 | omega) (hlt) (show 2 = 0 ∨ ((upd1 (w3) (2) (((D 5 : Nat) : Int)))) 0 = ((w3)) 0 by omega) (show 2 = 1 ∨ ((upd1 (w3) (2) (((D 5 : Nat) : Int)))) 1 = ((w3)) 1 by omega) (show 2 = 2 ∨ ((upd1 (w3) (2) (((D 5 : Nat) : Int)))) 2 = ((w3)) 2 by first | exact q_3868 | omega))


end
