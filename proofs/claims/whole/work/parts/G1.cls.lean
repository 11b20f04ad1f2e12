abbrev V186 : vV := [(0, 9, [(4, 0), (4, 0), (4, 0)]), (1, 5, []), (1, 2, [])]
/-- Stand.clear: this, this.tables, this.latest -/
theorem C186 {σE : rS} {D N : Nat → Nat} {F : hF} {A : hA} {d c s : Nat} {Q : wQ} (H : HW V186 σE D N F A)  (pf1 : F 0 1 = (D 1 : Int)) (pf2 : F 0 2 = (D 2 : Int)) (n1 : Int) (en1 : (N 1 : Int) = n1) (n2 : Int) (en2 : (N 2 : Int) = n2) (u0_0 : Int) (eu0_0 : F 0 0 = u0_0) (w1 : Int → Int) (ew1 : A 1 = w1) (w2 : Int → Int) (ew2 : A 2 = w2) (h0 : (n1) = 3 ∧ (n2) = 3) (k : ∀ (σ : rS) (F' : hF) (A' : hA), HW V186 σ D N F' A' → OUT (V186).length D N σE c s D N σ c s → SF [(0, 0)] F F' → SA [1, 2] A A' → ∀ y0_0 : Int, F' 0 0 = y0_0 → ∀ v1 : Int → Int, A' 1 = v1 → ∀ v2 : Int → Int, A' 2 = v2 → ((y0_0) = -1) → (((v1)) 0 = -1 ∧ ((v1)) 1 = -1 ∧ ((v1)) 2 = -1) → (((v2)) 0 = 1 ∧ ((v2)) 1 = 4 ∧ ((v2)) 2 = 8) → Q none σ c s) : Ew 186 (d + 0) 0 (rargs 0 [.ref (D 0)]) [] σE c s Q := by
  have O := OUT_refl (n := (V186).length) (D := D) (N := N) (σ := σE) (c := c) (s := s)
  have HE := H
  have r1 : (0 : Int) ≤ n1 ∧ n1 ≤ 1000000 := by have h1 := H.nle 1 (by decide); have h2 : (N 1 : Int) = n1 := en1; omega
  have r2 : (0 : Int) ≤ n2 ∧ n2 ≤ 1000000 := by have h1 := H.nle 2 (by decide); have h2 : (N 2 : Int) = n2 := en2; omega
  refine Ew_of (pc' := 1) (fun _ => x_aload_n rfl rfl) ?_
  refine v_null rfl ?_
  refine v_p H (o := 0) (z := -1) (v := .null) rfl rfl rfl rfl rfl rfl rfl rfl (show (-1 : Int) ≤ -1 by omega) (fun σ H O' => ?_)
  have O := OUT_trans O O'
  refine Ew_of (pc' := 6) (fun _ => x_iconst rfl) ?_
  refine Ew_of (pc' := 7) (fun _ => x_istore_n rfl) ?_
  have h0 : ∀ i, 0 ≤ i → i < 0 → ((w1)) i = -1 := fun i a b => by omega
  suffices hl7 : ∀ (m : Nat), ∀ (ls : rO) (σ : rS) (F_7 : hF) (A_7 : hA) (x7_1 : Int), rlook ls 0 = some (.ref (D 0)) → rlook ls 1 = some (I (x7_1)) → HW V186 σ D N F_7 A_7 → OUT (V186).length D N σE c s D N σ c s → SF [] (updF F 0 0 (-1)) F_7 → SA [1] A A_7 → ∀ w7_1 : Int → Int, A_7 1 = w7_1 → (inr (x7_1)) → ((0) ≤ (x7_1)) → ((x7_1) ≤ (0) ∨ (x7_1) ≤ (3)) → (∀ i, 0 ≤ i → i < (x7_1) → ((w7_1)) i = -1) → (((-1)) = -1) → ((3) - (x7_1)).toNat = m → Ew 186 (d + 0) 7 ls [] σ c s Q from
    hl7 _ _ _ _ _ (0) (rk_o (rfl) rfl rfl) (rk_s) H O (SF_refl) (SA_refl)    (w1) (ew1) (show inr (0) by omega) (show (0) ≤ (0) by omega) (show (0) ≤ (0) ∨ (0) ≤ (3) by omega) (show ∀ i, 0 ≤ i → i < (0) → ((w1)) i = -1 by assumption) (show ((-1)) = -1 by omega) rfl
  as_aux_lemma =>
  intro m
  induction m using Nat.strongRecOn with
  | _ m ih7 =>
    intro ls σ F_7 A_7 x7_1 l7_0 l7_1 H O hS_7 hA_7    w7_1 ew7_1 j7_0 j7_1 j7_2 j7_3 j7_4 hm7
    have hnu : ∀ i, 0 ≤ i → i < (x7_1) → ((w7_1)) i = -1 := by assumption
    refine Ew_of (pc' := 8) (fun _ => x_iload_n rfl l7_1) ?_
    refine Ew_of (pc' := 9) (fun _ => x_iconst rfl) ?_
    refine w_icmpge (t := 25) rfl rfl (show inr (x7_1) by omega) (show inr (3) by omega) (fun b3 => ?_) (fun b3 => ?_)
    · have hl1 : (x7_1) = 3 := by omega
      have q0 := hnu 0 (by omega) (by omega)
      have q1 := hnu 1 (by omega) (by omega)
      have q2 := hnu 2 (by omega) (by omega)
      refine Ew_of (pc' := 26) (fun _ => x_aload_n rfl l7_0) ?_
      refine v_g H (o := 0) (v := .ref (D 2)) rfl rfl rfl rfl rfl (vrf (((hS_7 0 2 rfl)).trans (pf2))) ?_
      refine Ew_of (pc' := 30) (fun _ => x_iconst rfl) ?_
      refine Ew_of (pc' := 31) (fun _ => x_lconst (z := 1) rfl (by decide)) ?_
      refine v_sJ H (o := 2) (z := 1) rfl rfl rfl rfl (n := n2) (en2) (show 0 ≤ 0 ∧ 0 < n2 by omega) (show inrJ (1) by omega) (fun σ H O' => ?_)
      have O := OUT_trans O O'
      refine Ew_of (pc' := 33) (fun _ => x_aload_n rfl l7_0) ?_
      refine v_g H (o := 0) (v := .ref (D 2)) rfl rfl rfl rfl rfl (vrf (((hS_7 0 2 rfl)).trans (pf2))) ?_
      refine Ew_of (pc' := 37) (fun _ => x_iconst rfl) ?_
      refine Ew_of (pc' := 40) (fun _ => x_ldc2 (z := 4) rfl (by decide)) ?_
      refine v_sJ H (o := 2) (z := 4) rfl rfl rfl rfl (n := n2) (en2) (show 0 ≤ 1 ∧ 1 < n2 by omega) (show inrJ (4) by omega) (fun σ H O' => ?_)
      have O := OUT_trans O O'
      refine Ew_of (pc' := 42) (fun _ => x_aload_n rfl l7_0) ?_
      refine v_g H (o := 0) (v := .ref (D 2)) rfl rfl rfl rfl rfl (vrf (((hS_7 0 2 rfl)).trans (pf2))) ?_
      refine Ew_of (pc' := 46) (fun _ => x_iconst rfl) ?_
      refine Ew_of (pc' := 49) (fun _ => x_ldc2 (z := 8) rfl (by decide)) ?_
      refine v_sJ H (o := 2) (z := 8) rfl rfl rfl rfl (n := n2) (en2) (show 0 ≤ 2 ∧ 2 < n2 by omega) (show inrJ (8) by omega) (fun σ H O' => ?_)
      have O := OUT_trans O O'
      have hla : ((upd1 (upd1 (upd1 (w2) (0) (1)) (1) (4)) (2) (8))) 0 = 1 ∧ ((upd1 (upd1 (upd1 (w2) (0) (1)) (1) (4)) (2) (8))) 1 = 4 ∧ ((upd1 (upd1 (upd1 (w2) (0) (1)) (1) (4)) (2) (8))) 2 = 8 := ⟨by rw [upd1_o (by decide), upd1_o (by decide), upd1_s], by rw [upd1_o (by decide), upd1_s], upd1_s⟩
      exact w_ret rfl (k _ _ _ H O (SF_trans (SF_upd (SF_refl) rfl) hS_7 (any_sub rfl)) (SA_upd (SA_upd (SA_upd (SA_trans (SA_refl) hA_7 (any_subA rfl)) rfl) rfl) rfl) ((-1)) ((hS_7 0 0 rfl)) (w7_1) (ew7_1) (upd1 (upd1 (upd1 (w2) (0) (1)) (1) (4)) (2) (8)) (congrArg (fun q => upd1 q (2) (8)) (congrArg (fun q => upd1 q (1) (4)) (congrArg (fun q => upd1 q (0) (1)) ((funext (hA_7 2 rfl)).trans (ew2))))) (show ((-1)) = -1 by omega) (show ((w7_1)) 0 = -1 ∧ ((w7_1)) 1 = -1 ∧ ((w7_1)) 2 = -1 by omega) (show ((upd1 (upd1 (upd1 (w2) (0) (1)) (1) (4)) (2) (8))) 0 = 1 ∧ ((upd1 (upd1 (upd1 (w2) (0) (1)) (1) (4)) (2) (8))) 1 = 4 ∧ ((upd1 (upd1 (upd1 (w2) (0) (1)) (1) (4)) (2) (8))) 2 = 8 by omega))
    · refine Ew_of (pc' := 13) (fun _ => x_aload_n rfl l7_0) ?_
      refine v_g H (o := 0) (v := .ref (D 1)) rfl rfl rfl rfl rfl (vrf (((hS_7 0 1 rfl)).trans (pf1))) ?_
      refine Ew_of (pc' := 17) (fun _ => x_iload_n rfl l7_1) ?_
      refine v_null rfl ?_
      refine v_sR H (o := 1) (z := (-1)) (v := .null) rfl rfl rfl rfl rfl (n := n1) (en1) (show 0 ≤ x7_1 ∧ x7_1 < n1 by omega) (show (-1 : Int) ≤ (-1) by omega) (rfl) (rkinN) (fun σ H O' => ?_)
      have O := OUT_trans O O'
      refine Ew_of (pc' := 22) (fun _ => x_iinc (len := 3) rfl (l7_1)) ?_
      refine Ew_of (pc' := 7) (fun _ => x_goto rfl rfl) ?_
      have hn1 : ∀ i, 0 ≤ i → i < ((x7_1 + 1)) → ((upd1 (w7_1) (x7_1) ((-1)))) i = -1 := NU_s hnu rfl
      exact ih7 _ (by omega) _ _ _ _ ((x7_1 + 1)) (rk_o (l7_0) rfl rfl) (rk_s) H O (hS_7) (SA_upd (hA_7) rfl)    (upd1 (w7_1) (x7_1) ((-1))) (congrArg (fun q => upd1 q (x7_1) ((-1))) (ew7_1)) (show inr ((x7_1 + 1)) by omega) (show (0) ≤ ((x7_1 + 1)) by omega) (show ((x7_1 + 1)) ≤ (0) ∨ ((x7_1 + 1)) ≤ (3) by omega) (show ∀ i, 0 ≤ i → i < ((x7_1 + 1)) → ((upd1 (w7_1) (x7_1) ((-1)))) i = -1 by assumption) (show ((-1)) = -1 by omega) rfl
abbrev V187_Stand : vV := [(0, 9, [(4, 0), (4, 0), (4, 0)]), (0, 9, [(4, 0), (4, 0), (4, 0)]), (1, 5, []), (1, 2, []), (1, 5, []), (1, 2, [])]
/-- Stand.become: this, #1, this.tables, this.latest, #1.tables, #1.latest -/
theorem C187_Stand {σE : rS} {D N : Nat → Nat} {F : hF} {A : hA} {d c s : Nat} {Q : wQ} (H : HW V187_Stand σE D N F A)  (pf2 : F 0 1 = (D 2 : Int)) (pf3 : F 0 2 = (D 3 : Int)) (pf4 : F 1 1 = (D 4 : Int)) (pf5 : F 1 2 = (D 5 : Int)) (n2 : Int) (en2 : (N 2 : Int) = n2) (n3 : Int) (en3 : (N 3 : Int) = n3) (n4 : Int) (en4 : (N 4 : Int) = n4) (n5 : Int) (en5 : (N 5 : Int) = n5) (u0_0 : Int) (eu0_0 : F 0 0 = u0_0) (u1_0 : Int) (eu1_0 : F 1 0 = u1_0) (w2 : Int → Int) (ew2 : A 2 = w2) (w3 : Int → Int) (ew3 : A 3 = w3) (w4 : Int → Int) (ew4 : A 4 = w4) (w5 : Int → Int) (ew5 : A 5 = w5) (hk4 : ∀ i, 0 ≤ i → i < 3 → rkin PP.2.2.2.2.2.1 σE 5 (if (w4 i) < 0 then Value.null else .ref ((w4 i)).toNat) = true) (h0 : (n2) = 3 ∧ (n3) = 3) (h1 : (n4) = 3 ∧ (n5) = 3) (k : ∀ (σ : rS) (F' : hF) (A' : hA), HW V187_Stand σ D N F' A' → OUT (V187_Stand).length D N σE c s D N σ c s → SF [(0, 0)] F F' → SA [2, 3] A A' → ∀ y0_0 : Int, F' 0 0 = y0_0 → ∀ v2 : Int → Int, A' 2 = v2 → ∀ v3 : Int → Int, A' 3 = v3 → ((y0_0) = (u1_0)) → (((v2)) 0 = ((w4)) 0) → (((v2)) 1 = ((w4)) 1) → (((v2)) 2 = ((w4)) 2) → (((v3)) 0 = ((w5)) 0) → (((v3)) 1 = ((w5)) 1) → (((v3)) 2 = ((w5)) 2) → Q none σ c s) : Ew 187 (d + 0) 0 (rargs 0 [.ref (D 0), .ref (D 1)]) [] σE c s Q := by
  have O := OUT_refl (n := (V187_Stand).length) (D := D) (N := N) (σ := σE) (c := c) (s := s)
  have HE := H
  have r1 : (0 : Int) ≤ n2 ∧ n2 ≤ 1000000 := by have h1 := H.nle 2 (by decide); have h2 : (N 2 : Int) = n2 := en2; omega
  have r2 : (0 : Int) ≤ n3 ∧ n3 ≤ 1000000 := by have h1 := H.nle 3 (by decide); have h2 : (N 3 : Int) = n3 := en3; omega
  have r3 : (0 : Int) ≤ n4 ∧ n4 ≤ 1000000 := by have h1 := H.nle 4 (by decide); have h2 : (N 4 : Int) = n4 := en4; omega
  have r4 : (0 : Int) ≤ n5 ∧ n5 ≤ 1000000 := by have h1 := H.nle 5 (by decide); have h2 : (N 5 : Int) = n5 := en5; omega
  refine Ew_of (pc' := 1) (fun _ => x_aload_n rfl rfl) ?_
  refine Ew_of (pc' := 2) (fun _ => x_aload_n rfl rfl) ?_
  have r5 : (-1 : Int) ≤ u1_0 := by have h1 : (-1 : Int) ≤ F 1 0 := H.krg 1 0 (by decide); rw [show F 1 0 = u1_0 from (eu1_0)] at h1; exact h1
  refine v_g H (o := 1) (v := (if u1_0 < 0 then Value.null else .ref (u1_0).toNat)) rfl rfl rfl rfl rfl (congrArg (fun z : Int => if z < 0 then Value.null else .ref z.toNat) (show F 1 0 = u1_0 from (eu1_0))) ?_
  refine v_p H (o := 0) (z := u1_0) (v := (if u1_0 < 0 then Value.null else .ref (u1_0).toNat)) rfl rfl rfl rfl rfl rfl rfl (rfitP rfl (fun _ => rfl)) (show (-1 : Int) ≤ u1_0 by omega) (fun σ H O' => ?_)
  have O := OUT_trans O O'
  refine Ew_of (pc' := 9) (fun _ => x_iconst rfl) ?_
  refine Ew_of (pc' := 10) (fun _ => x_istore_n rfl) ?_
  have h0 : SM3 ((w2)) ((w4)) 0 := fun i a b => by omega
  have h0l : SM3 ((w3)) ((w5)) 0 := fun i a b => by omega
  suffices hl10 : ∀ (m : Nat), ∀ (ls : rO) (σ : rS) (F_10 : hF) (A_10 : hA) (x10_2 : Int), rlook ls 0 = some (.ref (D 0)) → rlook ls 1 = some (.ref (D 1)) → rlook ls 2 = some (I (x10_2)) → HW V187_Stand σ D N F_10 A_10 → OUT (V187_Stand).length D N σE c s D N σ c s → SF [] (updF F 0 0 (u1_0)) F_10 → SA [2, 3] A A_10 → ∀ w10_2 : Int → Int, A_10 2 = w10_2 → ∀ w10_3 : Int → Int, A_10 3 = w10_3 → (inr (x10_2)) → ((0) ≤ (x10_2)) → ((x10_2) ≤ (0) ∨ (x10_2) ≤ (3)) → (SM3 ((w10_2)) ((w4)) (x10_2)) → (SM3 ((w10_3)) ((w5)) (x10_2)) → ((u1_0) = (u1_0)) → ((3) - (x10_2)).toNat = m → Ew 187 (d + 0) 10 ls [] σ c s Q from
    hl10 _ _ _ _ _ (0) (rk_o (rfl) rfl rfl) (rk_o (rfl) rfl rfl) (rk_s) H O (SF_refl) (SA_refl)    (w2) (ew2) (w3) (ew3) (show inr (0) by omega) (show (0) ≤ (0) by omega) (show (0) ≤ (0) ∨ (0) ≤ (3) by omega) (show SM3 ((w2)) ((w4)) (0) by assumption) (show SM3 ((w3)) ((w5)) (0) by assumption) (show (u1_0) = (u1_0) by omega) rfl
  as_aux_lemma =>
  intro m
  induction m using Nat.strongRecOn with
  | _ m ih10 =>
    intro ls σ F_10 A_10 x10_2 l10_0 l10_1 l10_2 H O hS_10 hA_10    w10_2 ew10_2 w10_3 ew10_3 j10_0 j10_1 j10_2 j10_3 j10_4 j10_5 hm10
    refine Ew_of (pc' := 11) (fun _ => x_iload_n rfl l10_2) ?_
    refine Ew_of (pc' := 12) (fun _ => x_iconst rfl) ?_
    refine w_icmpge (t := 45) rfl rfl (show inr (x10_2) by omega) (show inr (3) by omega) (fun b6 => ?_) (fun b6 => ?_)
    · have hsm : SM3 ((w10_2)) ((w4)) (x10_2) := by assumption
      have q0 := hsm 0 (by omega) (by omega)
      have q1 := hsm 1 (by omega) (by omega)
      have q2 := hsm 2 (by omega) (by omega)
      have hsl_ : SM3 ((w10_3)) ((w5)) (x10_2) := by assumption
      have u0 := hsl_ 0 (by omega) (by omega)
      have u1 := hsl_ 1 (by omega) (by omega)
      have u2 := hsl_ 2 (by omega) (by omega)
      exact w_ret rfl (k _ _ _ H O (SF_trans (SF_upd (SF_refl) rfl) hS_10 (any_sub rfl)) (SA_trans (SA_refl) hA_10 (any_subA rfl)) (u1_0) ((hS_10 0 0 rfl)) (w10_2) (ew10_2) (w10_3) (ew10_3) (show (u1_0) = (u1_0) by omega) (show ((w10_2)) 0 = ((w4)) 0 by omega) (show ((w10_2)) 1 = ((w4)) 1 by omega) (show ((w10_2)) 2 = ((w4)) 2 by omega) (show ((w10_3)) 0 = ((w5)) 0 by omega) (show ((w10_3)) 1 = ((w5)) 1 by omega) (show ((w10_3)) 2 = ((w5)) 2 by omega))
    · refine Ew_of (pc' := 16) (fun _ => x_aload_n rfl l10_0) ?_
      refine v_g H (o := 0) (v := .ref (D 2)) rfl rfl rfl rfl rfl (vrf (((hS_10 0 1 rfl)).trans (pf2))) ?_
      refine Ew_of (pc' := 20) (fun _ => x_iload_n rfl l10_2) ?_
      refine Ew_of (pc' := 21) (fun _ => x_aload_n rfl l10_1) ?_
      refine v_g H (o := 1) (v := .ref (D 4)) rfl rfl rfl rfl rfl (vrf (((hS_10 1 1 rfl)).trans (pf4))) ?_
      refine Ew_of (pc' := 25) (fun _ => x_iload_n rfl l10_2) ?_
      have r7 : (-1 : Int) ≤ (w4) (x10_2) := by have h1 : (-1 : Int) ≤ A_10 4 (x10_2) := H.arg 4 (x10_2) (by decide) rfl; rw [show A_10 4 (x10_2) = (w4) (x10_2) from (congrFun ((funext (hA_10 4 rfl)).trans (ew4)) (x10_2))] at h1; exact h1
      refine v_lR H (o := 4) rfl rfl rfl rfl rfl (n := n4) (en4) (show 0 ≤ x10_2 ∧ x10_2 < n4 by omega) (z := (w4) (x10_2)) (v := (if (w4) (x10_2) < 0 then Value.null else .ref ((w4) (x10_2)).toNat)) (show A_10 4 (x10_2) = (w4) (x10_2) from (congrFun ((funext (hA_10 4 rfl)).trans (ew4)) (x10_2))) (rfl) ?_
      refine v_sR H (o := 2) (z := (w4) (x10_2)) (v := (if (w4) (x10_2) < 0 then Value.null else .ref ((w4) (x10_2)).toNat)) rfl rfl rfl rfl rfl (n := n2) (en2) (show 0 ≤ x10_2 ∧ x10_2 < n2 by omega) (show (-1 : Int) ≤ (w4) (x10_2) by omega) (rfl) (rkin_out HE H O (hk4 (x10_2) (by omega) (by omega))) (fun σ H O' => ?_)
      have O := OUT_trans O O'
      refine Ew_of (pc' := 28) (fun _ => x_aload_n rfl l10_0) ?_
      refine v_g H (o := 0) (v := .ref (D 3)) rfl rfl rfl rfl rfl (vrf (((hS_10 0 2 rfl)).trans (pf3))) ?_
      refine Ew_of (pc' := 32) (fun _ => x_iload_n rfl l10_2) ?_
      refine Ew_of (pc' := 33) (fun _ => x_aload_n rfl l10_1) ?_
      refine v_g H (o := 1) (v := .ref (D 5)) rfl rfl rfl rfl rfl (vrf (((hS_10 1 2 rfl)).trans (pf5))) ?_
      refine Ew_of (pc' := 37) (fun _ => x_iload_n rfl l10_2) ?_
      refine v_lJ H (o := 5) rfl rfl rfl rfl (n := n5) (en5) (show 0 ≤ x10_2 ∧ x10_2 < n5 by omega) (fun v8 ev8 qv8 => ?_)
      have ev8 : (w5) (x10_2) = v8 := (congrFun ((funext (hA_10 5 rfl)).trans (ew5)) (x10_2)).symm.trans ev8
      have hvl := ev8
      refine v_sJ H (o := 3) (z := v8) rfl rfl rfl rfl (n := n3) (en3) (show 0 ≤ x10_2 ∧ x10_2 < n3 by omega) (show inrJ (v8) by omega) (fun σ H O' => ?_)
      have O := OUT_trans O O'
      refine Ew_of (pc' := 42) (fun _ => x_iinc (len := 3) rfl (l10_2)) ?_
      refine Ew_of (pc' := 10) (fun _ => x_goto rfl rfl) ?_
      have h1 : SM3 ((upd1 (w10_2) (x10_2) ((w4) (x10_2)))) ((w4)) ((x10_2 + 1)) := SM3_s (by assumption) rfl rfl
      have h1l : SM3 ((upd1 (w10_3) (x10_2) (v8))) ((w5)) ((x10_2 + 1)) := SM3_s (by assumption) rfl (by first | rfl | exact hvl.symm)
      exact ih10 _ (by omega) _ _ _ _ ((x10_2 + 1)) (rk_o (l10_0) rfl rfl) (rk_o (l10_1) rfl rfl) (rk_s) H O (hS_10) (SA_upd (SA_upd (hA_10) rfl) rfl)    (upd1 (w10_2) (x10_2) ((w4) (x10_2))) (congrArg (fun q => upd1 q (x10_2) ((w4) (x10_2))) (ew10_2)) (upd1 (w10_3) (x10_2) (v8)) (congrArg (fun q => upd1 q (x10_2) (v8)) (ew10_3)) (show inr ((x10_2 + 1)) by omega) (show (0) ≤ ((x10_2 + 1)) by omega) (show ((x10_2 + 1)) ≤ (0) ∨ ((x10_2 + 1)) ≤ (3) by omega) (show SM3 ((upd1 (w10_2) (x10_2) ((w4) (x10_2)))) ((w4)) ((x10_2 + 1)) by assumption) (show SM3 ((upd1 (w10_3) (x10_2) (v8))) ((w5)) ((x10_2 + 1)) by assumption) (show (u1_0) = (u1_0) by omega) rfl
abbrev V114 : vV := [(0, 4, [(4, 0), (4, 0), (0, 0), (4, 0), (4, 0)]), (0, 9, [(4, 0), (4, 0), (4, 0)]), (1, 5, []), (1, 2, []), (0, 7, [(4, 0), (0, 0), (1, 0), (0, 0), (0, 0)])]
/-- Dictionary.clear: this, this.stand, this.stand.tables, this.stand.latest, this.content -/
theorem C114 {σE : rS} {D N : Nat → Nat} {F : hF} {A : hA} {d c s : Nat} {Q : wQ} (H : HW V114 σE D N F A)  (pf1 : F 0 1 = (D 1 : Int)) (pf2 : F 1 1 = (D 2 : Int)) (pf3 : F 1 2 = (D 3 : Int)) (pf4 : F 0 0 = (D 4 : Int)) (n2 : Int) (en2 : (N 2 : Int) = n2) (n3 : Int) (en3 : (N 3 : Int) = n3) (u0_2 : Int) (eu0_2 : F 0 2 = u0_2) (u1_0 : Int) (eu1_0 : F 1 0 = u1_0) (u4_1 : Int) (eu4_1 : F 4 1 = u4_1) (u4_2 : Int) (eu4_2 : F 4 2 = u4_2) (w2 : Int → Int) (ew2 : A 2 = w2) (w3 : Int → Int) (ew3 : A 3 = w3) (h0 : (n2) = 3 ∧ (n3) = 3) (k : ∀ (σ : rS) (F' : hF) (A' : hA), HW V114 σ D N F' A' → OUT (V114).length D N σE c s D N σ c s → SF [(0, 2), (1, 0), (4, 1), (4, 2), (4, 3), (4, 4)] F F' → SA [2, 3] A A' → ∀ y0_2 : Int, F' 0 2 = y0_2 → ∀ y1_0 : Int, F' 1 0 = y1_0 → ∀ y4_1 : Int, F' 4 1 = y4_1 → ∀ y4_2 : Int, F' 4 2 = y4_2 → ∀ v2 : Int → Int, A' 2 = v2 → ∀ v3 : Int → Int, A' 3 = v3 → ((y1_0) = -1) → (((v2)) 0 = -1 ∧ ((v2)) 1 = -1 ∧ ((v2)) 2 = -1) → ((y0_2) = 0) → ((y4_1) = 0) → (((v3)) 0 = 1 ∧ ((v3)) 1 = 4 ∧ ((v3)) 2 = 8) → ((y4_2) = 0) → Q none σ c s) : Ew 114 (d + 1) 0 (rargs 0 [.ref (D 0)]) [] σE c s Q := by
  have O := OUT_refl (n := (V114).length) (D := D) (N := N) (σ := σE) (c := c) (s := s)
  have HE := H
  have r1 : (-2147483648 : Int) ≤ u0_2 ∧ u0_2 ≤ 2147483647 := by have h1 : (-2147483648 : Int) ≤ F 0 2 ∧ F 0 2 ≤ 2147483647 := H.krg 0 2 (by decide); rw [show F 0 2 = u0_2 from (eu0_2)] at h1; exact h1
  have r2 : (-2147483648 : Int) ≤ u4_1 ∧ u4_1 ≤ 2147483647 := by have h1 : (-2147483648 : Int) ≤ F 4 1 ∧ F 4 1 ≤ 2147483647 := H.krg 4 1 (by decide); rw [show F 4 1 = u4_1 from (eu4_1)] at h1; exact h1
  have r3 : (0 : Int) ≤ u4_2 ∧ u4_2 ≤ 1 := by have h1 : (0 : Int) ≤ F 4 2 ∧ F 4 2 ≤ 1 := H.krg 4 2 (by decide); rw [show F 4 2 = u4_2 from (eu4_2)] at h1; exact h1
  have r4 : (0 : Int) ≤ n2 ∧ n2 ≤ 1000000 := by have h1 := H.nle 2 (by decide); have h2 : (N 2 : Int) = n2 := en2; omega
  have r5 : (0 : Int) ≤ n3 ∧ n3 ≤ 1000000 := by have h1 := H.nle 3 (by decide); have h2 : (N 3 : Int) = n3 := en3; omega
  refine Ew_of (pc' := 1) (fun _ => x_aload_n rfl rfl) ?_
  refine v_g H (o := 0) (v := .ref (D 4)) rfl rfl rfl rfl rfl (vrf (pf4)) ?_
  have r6 : (-2147483648 : Int) ≤ F 4 3 ∧ F 4 3 ≤ 2147483647 := by have h1 : (-2147483648 : Int) ≤ F 4 3 ∧ F 4 3 ≤ 2147483647 := H.krg 4 3 (by decide); rw [show F 4 3 = F 4 3 from rfl] at h1; exact h1
  have r7 : (-2147483648 : Int) ≤ F 4 4 ∧ F 4 4 ≤ 2147483647 := by have h1 : (-2147483648 : Int) ≤ F 4 4 ∧ F 4 4 ≤ 2147483647 := H.krg 4 4 (by decide); rw [show F 4 4 = F 4 4 from rfl] at h1; exact h1
  refine v_inv H (o := 4) rfl rfl rfl rfl rfl rfl (by rfl) (C156h (D := pul [4] D) (N := pul [4] N) (HW_sub H (VS_of (show vsub V114 V156 [4] = true by decide +kernel))) (u4_1) ((eu4_1)) (u4_2) ((eu4_2)) (F 4 3) (rfl) (F 4 4) (rfl)  (fun σ8 F8' A8' H' O' hS8 hA8 y8_0_1 ey8_0_1 y8_0_2 ey8_0_2 y8_0_3 ey8_0_3 y8_0_4 ey8_0_4 pz8_0 pz8_1 => ⟨rfl, ?_⟩))
  refine v_back (c := c) (s := s) H (show vsub V114 V156 [4] = true by decide +kernel) H' O' (fun F8 A8 H O' eF8 eA8 => ?_)
  have O := OUT_trans O O'
  -- Row.clear
  have r9 : (-2147483648 : Int) ≤ y8_0_1 ∧ y8_0_1 ≤ 2147483647 := by have h1 : (-2147483648 : Int) ≤ F8 4 1 ∧ F8 4 1 ≤ 2147483647 := H.krg 4 1 (by decide); rw [show F8 4 1 = y8_0_1 from ((eF8 4 1).trans ey8_0_1)] at h1; exact h1
  have r10 : (0 : Int) ≤ y8_0_2 ∧ y8_0_2 ≤ 1 := by have h1 : (0 : Int) ≤ F8 4 2 ∧ F8 4 2 ≤ 1 := H.krg 4 2 (by decide); rw [show F8 4 2 = y8_0_2 from ((eF8 4 2).trans ey8_0_2)] at h1; exact h1
  have r11 : (-2147483648 : Int) ≤ y8_0_3 ∧ y8_0_3 ≤ 2147483647 := by have h1 : (-2147483648 : Int) ≤ F8 4 3 ∧ F8 4 3 ≤ 2147483647 := H.krg 4 3 (by decide); rw [show F8 4 3 = y8_0_3 from ((eF8 4 3).trans ey8_0_3)] at h1; exact h1
  have r12 : (-2147483648 : Int) ≤ y8_0_4 ∧ y8_0_4 ≤ 2147483647 := by have h1 : (-2147483648 : Int) ≤ F8 4 4 ∧ F8 4 4 ≤ 2147483647 := H.krg 4 4 (by decide); rw [show F8 4 4 = y8_0_4 from ((eF8 4 4).trans ey8_0_4)] at h1; exact h1
  refine Ew_of (pc' := 8) (fun _ => x_aload_n rfl rfl) ?_
  refine v_g H (o := 0) (v := .ref (D 1)) rfl rfl rfl rfl rfl (vrf ((((show F8 0 1 = F 0 1 from (eF8 0 1)))).trans (pf1))) ?_
  refine v_inv H (o := 1) rfl rfl rfl rfl rfl rfl (by rfl) (C186 (D := pul [1, 2, 3] D) (N := pul [1, 2, 3] N) (HW_sub H (VS_of (show vsub V114 V186 [1, 2, 3] = true by decide +kernel))) ((((show F8 1 1 = F 1 1 from (eF8 1 1)))).trans (pf2)) ((((show F8 1 2 = F 1 2 from (eF8 1 2)))).trans (pf3)) (n2) (en2) (n3) (en3) (u1_0) ((((show F8 1 0 = F 1 0 from (eF8 1 0))).trans (eu1_0))) (w2) (((show A8 2 = A 2 from (eA8 2))).trans (ew2)) (w3) (((show A8 3 = A 3 from (eA8 3))).trans (ew3)) (show (n2) = 3 ∧ (n3) = 3 by omega) (fun σ13 F13' A13' H' O' hS13 hA13 y13_0_0 ey13_0_0 w13_1 ew13_1 w13_2 ew13_2 pz13_0 pz13_1 pz13_2 => ⟨rfl, ?_⟩))
  refine v_back (c := c) (s := s) H (show vsub V114 V186 [1, 2, 3] = true by decide +kernel) H' O' (fun F13 A13 H O' eF13 eA13 => ?_)
  have O := OUT_trans O O'
  -- Stand.clear
  refine Ew_of (pc' := 15) (fun _ => x_aload_n rfl rfl) ?_
  refine Ew_of (pc' := 16) (fun _ => x_iconst rfl) ?_
  refine v_p H (o := 0) (z := 0) (v := I (0)) rfl rfl rfl rfl rfl rfl rfl rfl (show (-2147483648 : Int) ≤ 0 ∧ 0 ≤ 2147483647 by omega) (fun σ H O' => ?_)
  have O := OUT_trans O O'
  exact w_ret rfl (k _ _ _ H O (SF_upd (SF_trans (SF_trans (SF_refl) (SF_glu (ι := [4]) hS8 eF8 (by decide +kernel)) (any_sub (l' := [(4, 1), (4, 2), (4, 3), (4, 4)]) rfl)) (SF_glu (ι := [1, 2, 3]) hS13 eF13 (by decide +kernel)) (any_sub (l' := [(1, 0)]) rfl)) rfl) (SA_trans (SA_trans (SA_refl) (SA_glu (ι := [4]) hA8 eA8 (by decide +kernel)) (any_subA (l' := []) rfl)) (SA_glu (ι := [1, 2, 3]) hA13 eA13 (by decide +kernel)) (any_subA (l' := [2, 3]) rfl)) (0) (rfl) (y13_0_0) (((eF13 1 0).trans ey13_0_0)) (y8_0_1) ((((show F13 4 1 = F8 4 1 from (eF13 4 1))).trans ((eF8 4 1).trans ey8_0_1))) (y8_0_2) ((((show F13 4 2 = F8 4 2 from (eF13 4 2))).trans ((eF8 4 2).trans ey8_0_2))) (w13_1) ((eA13 2).trans ew13_1) (w13_2) ((eA13 3).trans ew13_2) (show (y13_0_0) = -1 by omega) (show ((w13_1)) 0 = -1 ∧ ((w13_1)) 1 = -1 ∧ ((w13_1)) 2 = -1 by omega) (show (0) = 0 by omega) (show (y8_0_1) = 0 by omega) (show ((w13_2)) 0 = 1 ∧ ((w13_2)) 1 = 4 ∧ ((w13_2)) 2 = 8 by omega) (show (y8_0_2) = 0 by omega))
abbrev V119_Br : vV := [(0, 4, [(4, 0), (4, 0), (0, 0), (4, 0), (4, 0)]), (1, 0, []), (0, 7, [(4, 0), (0, 0), (1, 0), (0, 0), (0, 0)]), (1, 0, []), (0, 9, [(4, 0), (4, 0), (4, 0)]), (1, 2, [])]
/-- Dictionary.hearLatest: this, #1, this.content, this.content.bytes, this.stand, this.stand.latest -/
theorem C119_Br {σE : rS} {D N : Nat → Nat} {F : hF} {A : hA} {d c s : Nat} {Q : wQ} (H : HW V119_Br σE D N F A) {a2 a3 : Int} (pf2 : F 0 0 = (D 2 : Int)) (pf3 : F 2 0 = (D 3 : Int)) (pf4 : F 0 1 = (D 4 : Int)) (pf5 : F 4 2 = (D 5 : Int)) (n1 : Int) (en1 : (N 1 : Int) = n1) (n3 : Int) (en3 : (N 3 : Int) = n3) (n5 : Int) (en5 : (N 5 : Int) = n5) (u2_1 : Int) (eu2_1 : F 2 1 = u2_1) (u2_2 : Int) (eu2_2 : F 2 2 = u2_2) (w1 : Int → Int) (ew1 : A 1 = w1) (w3 : Int → Int) (ew3 : A 3 = w3) (w5 : Int → Int) (ew5 : A 5 = w5) (h0 : inr (a2)) (h1 : inr (a3)) (h2 : 0 ≤ (u2_1) ∧ (u2_1) ≤ (n3) ∧ (n3) ≤ 65536) (h3 : (u2_1) = 0) (h4 : (u2_2) = 0) (h5 : 0 ≤ (a2) ∧ (a2) ≤ 65536 ∧ 0 ≤ (a3) ∧ (a3) ≤ (n1) ∧ (n1) ≤ 65536) (h6 : (n5) = 3) (k : ∀ (z : Int) (σ : rS) (D' N' : Nat → Nat) (F' : hF) (A' : hA) (c' s' : Nat), HW V119_Br σ D' N' F' A' → OUT (V119_Br).length D N σE c s D' N' σ c' s' → SD [3] D D' → SD [3] N N' → SF [(2, 0), (2, 1), (2, 2)] F F' → SA [3, 5] A A' → F' 2 0 = (D' 3 : Int) → ∀ m3 : Int, (N' 3 : Int) = m3 → ∀ y2_1 : Int, F' 2 1 = y2_1 → ∀ y2_2 : Int, F' 2 2 = y2_2 → ∀ v3 : Int → Int, A' 3 = v3 → ∀ v5 : Int → Int, A' 5 = v5 → (inr (z)) → (0 ≤ (y2_1) ∧ (y2_1) ≤ (m3) ∧ (m3) ≤ 65536) → (-4 ≤ (z) ∧ (z) ≤ 65536) → ((z) < 0 ∨ (y2_1) = (z)) → (LNH (ub8 ((w1))) ((a3)) ((a2)) ((z)) ((v5)) (sc ((v3)) 0 ((y2_1)))) → ((z) < 0 ∨ (y2_2) = 0) → Q (some (I z)) σ c' s') : Ew 119 (d + 3) 0 (rargs 0 [.ref (D 0), .ref (D 1), I a2, I a3]) [] σE c s Q := by
  have O := OUT_refl (n := (V119_Br).length) (D := D) (N := N) (σ := σE) (c := c) (s := s)
  have HE := H
  have r1 : (-2147483648 : Int) ≤ u2_1 ∧ u2_1 ≤ 2147483647 := by have h1 : (-2147483648 : Int) ≤ F 2 1 ∧ F 2 1 ≤ 2147483647 := H.krg 2 1 (by decide); rw [show F 2 1 = u2_1 from (eu2_1)] at h1; exact h1
  have r2 : (0 : Int) ≤ u2_2 ∧ u2_2 ≤ 1 := by have h1 : (0 : Int) ≤ F 2 2 ∧ F 2 2 ≤ 1 := H.krg 2 2 (by decide); rw [show F 2 2 = u2_2 from (eu2_2)] at h1; exact h1
  have r3 : (0 : Int) ≤ n1 ∧ n1 ≤ 1000000 := by have h1 := H.nle 1 (by decide); have h2 : (N 1 : Int) = n1 := en1; omega
  have r4 : (0 : Int) ≤ n3 ∧ n3 ≤ 1000000 := by have h1 := H.nle 3 (by decide); have h2 : (N 3 : Int) = n3 := en3; omega
  have r5 : (0 : Int) ≤ n5 ∧ n5 ≤ 1000000 := by have h1 := H.nle 5 (by decide); have h2 : (N 5 : Int) = n5 := en5; omega
  refine Ew_of (pc' := 1) (fun _ => x_iload_n rfl rfl) ?_
  refine Ew_of (pc' := 2) (fun _ => x_iload_n rfl rfl) ?_
  refine w_isub rfl ?_
  refine Ew_of (pc' := 5) (fun _ => x_bipush (z := 12) rfl (by decide)) ?_
  refine w_isub rfl ?_
  refine Ew_of (pc' := 8) (fun _ => x_istore rfl) ?_
  refine Ew_of (pc' := 10) (fun _ => x_iload rfl rk_s) ?_
  refine w_ifge (t := 15) rfl rfl (show inr (((a3 - a2) - 12)) by omega) (fun b6 => ?_) (fun b6 => ?_)
  · refine Ew_of (pc' := 16) (fun _ => x_iconst rfl) ?_
    refine Ew_of (pc' := 18) (fun _ => x_istore rfl) ?_
    have : LNL (ub8 ((w1))) ((a3)) ((a2)) ((0 : Int)) ((w5)) := LNL_0
    suffices hl18 : ∀ (m : Nat), ∀ (ls : rO) (σ : rS) (F_18 : hF) (A_18 : hA) (x18_5 : Int), rlook ls 0 = some (.ref (D 0)) → rlook ls 1 = some (.ref (D 1)) → rlook ls 2 = some (I (a2)) → rlook ls 4 = some (I (((a3 - a2) - 12))) → rlook ls 5 = some (I (x18_5)) → HW V119_Br σ D N F_18 A_18 → OUT (V119_Br).length D N σE c s D N σ c s → SF [] F F_18 → SA [5] A A_18 → ∀ w18_5 : Int → Int, A_18 5 = w18_5 → (inr (x18_5)) → ((0) ≤ (x18_5)) → ((x18_5) ≤ (0) ∨ (x18_5) ≤ (3)) → (LNL (ub8 ((w1))) ((a3)) ((a2)) ((x18_5)) ((w18_5))) → ((3) - (x18_5)).toNat = m → Ew 119 (d + 3) 18 ls [] σ c s Q from
      hl18 _ _ _ _ _ (0) (rk_o (rk_o (rfl) rfl rfl) rfl rfl) (rk_o (rk_o (rfl) rfl rfl) rfl rfl) (rk_o (rk_o (rfl) rfl rfl) rfl rfl) (rk_o (rk_s) rfl rfl) (rk_s) H O (SF_refl) (SA_refl)    (w5) (ew5) (show inr (0) by omega) (show (0) ≤ (0) by omega) (show (0) ≤ (0) ∨ (0) ≤ (3) by omega) (show LNL (ub8 ((w1))) ((a3)) ((a2)) ((0)) ((w5)) by assumption) rfl
    as_aux_lemma =>
    intro m
    induction m using Nat.strongRecOn with
    | _ m ih18 =>
      intro ls σ F_18 A_18 x18_5 l18_0 l18_1 l18_2 l18_4 l18_5 H O hS_18 hA_18    w18_5 ew18_5 j18_0 j18_1 j18_2 j18_3 hm18
      have j18_l : LNL (ub8 ((w1))) ((a3)) ((a2)) ((x18_5)) ((w18_5)) := by assumption
      refine Ew_of (pc' := 20) (fun _ => x_iload rfl l18_5) ?_
      refine Ew_of (pc' := 21) (fun _ => x_iconst rfl) ?_
      refine w_icmpge (t := 86) rfl rfl (show inr (x18_5) by omega) (show inr (3) by omega) (fun b7 => ?_) (fun b7 => ?_)
      · have hL3 : LNL (ub8 ((w1))) ((a3)) ((a2)) (3) ((w18_5)) := by have h := j18_l; rw [show (x18_5) = 3 by omega] at h; exact h
        refine Ew_of (pc' := 87) (fun _ => x_aload_n rfl l18_0) ?_
        refine v_g H (o := 0) (v := .ref (D 2)) rfl rfl rfl rfl rfl (vrf (((hS_18 0 0 rfl)).trans (pf2))) ?_
        refine Ew_of (pc' := 91) (fun _ => x_aload_n rfl l18_1) ?_
        refine Ew_of (pc' := 92) (fun _ => x_iload_n rfl l18_2) ?_
        refine Ew_of (pc' := 94) (fun _ => x_bipush (z := 12) rfl (by decide)) ?_
        refine w_iadd rfl ?_
        refine Ew_of (pc' := 97) (fun _ => x_iload rfl l18_4) ?_
        refine v_inv H (o := 2) rfl rfl rfl rfl rfl rfl (by rfl) (C161_Br (D := pul [2, 1, 3] D) (N := pul [2, 1, 3] N) (HW_sub H (VS_of (show vsub V119_Br V161_Br [2, 1, 3] = true by decide +kernel))) (((hS_18 2 0 rfl)).trans (pf3)) (n1) (en1) (n3) (en3) (u2_1) (((hS_18 2 1 rfl).trans (eu2_1))) (u2_2) (((hS_18 2 2 rfl).trans (eu2_2))) (w1) ((funext (hA_18 1 rfl)).trans (ew1)) (w3) ((funext (hA_18 3 rfl)).trans (ew3)) (show inr ((a2 + 12)) by omega) (show inr (((a3 - a2) - 12)) by omega) (show 0 ≤ (u2_1) ∧ (u2_1) ≤ (n3) ∧ (n3) ≤ 65536 by omega) (show (((a3 - a2) - 12)) < 0 ∨ 0 ≤ ((a2 + 12)) ∧ ((a2 + 12)) + (((a3 - a2) - 12)) ≤ (n1) by omega) (fun σ8 D8' N8' F8' A8' c8 s8 H' O' hD8 hN8 hS8 hA8 pm8_2 m8_2 em8_2 y8_0_1 ey8_0_1 y8_0_2 ey8_0_2 w8_2 ew8_2 pz8_0 pz8_1 pz8_2 pz8_3 => ⟨rfl, ?_⟩))
        refine v_backM (c := c) (s := s) H (show vsub V119_Br V161_Br [2, 1, 3] = true by decide +kernel) H' O' hD8 (show vmov V119_Br [2, 1, 3] [2] = true by decide +kernel) (fun D8 N8 F8 A8 H O' eD8 eN8 eF8 eA8 => ?_)
        have O := OUT_trans O O'
        -- Row.addPart
        have pf8_0_0 : F8 0 0 = (D8 2 : Int) := ((show F8 0 0 = F_18 0 0 from (eF8 0 0))).trans ((((hS_18 0 0 rfl)).trans (pf2)).trans (congrArg (fun q : Nat => (q : Int)) ((show D8 2 = D 2 from (eD8 2).trans (hD8 0 rfl))).symm))
        have pf8_0_1 : F8 0 1 = (D8 4 : Int) := ((show F8 0 1 = F_18 0 1 from (eF8 0 1))).trans ((((hS_18 0 1 rfl)).trans (pf4)).trans (congrArg (fun q : Nat => (q : Int)) ((show D8 4 = D 4 from (eD8 4))).symm))
        have pf8_2_0 : F8 2 0 = (D8 3 : Int) := (eF8 2 0).trans (pm8_2.trans (congrArg (fun q : Nat => (q : Int)) (eD8 3).symm))
        have pf8_4_2 : F8 4 2 = (D8 5 : Int) := ((show F8 4 2 = F_18 4 2 from (eF8 4 2))).trans ((((hS_18 4 2 rfl)).trans (pf5)).trans (congrArg (fun q : Nat => (q : Int)) ((show D8 5 = D 5 from (eD8 5))).symm))
        have r9 : (0 : Int) ≤ m8_2 ∧ m8_2 ≤ 1000000 := by have h1 := H.nle 3 (by decide); have h2 : (N8 3 : Int) = m8_2 := (congrArg (fun q : Nat => (q : Int)) (eN8 3)).trans em8_2; omega
        have r10 : (-2147483648 : Int) ≤ y8_0_1 ∧ y8_0_1 ≤ 2147483647 := by have h1 : (-2147483648 : Int) ≤ F8 2 1 ∧ F8 2 1 ≤ 2147483647 := H.krg 2 1 (by decide); rw [show F8 2 1 = y8_0_1 from ((eF8 2 1).trans ey8_0_1)] at h1; exact h1
        have r11 : (0 : Int) ≤ y8_0_2 ∧ y8_0_2 ≤ 1 := by have h1 : (0 : Int) ≤ F8 2 2 ∧ F8 2 2 ≤ 1 := H.krg 2 2 (by decide); rw [show F8 2 2 = y8_0_2 from ((eF8 2 2).trans ey8_0_2)] at h1; exact h1
        have hap := RAP_from (a := 0) (pz8_3 (by omega)) (by omega) (by omega) (by rw [sc_lenI (by omega)]; omega) (by omega)
        have hbu := hap.1
        refine Ew_of (pc' := 102) (fun _ => x_iload rfl l18_4) ?_
        have : LNH (ub8 ((w1))) ((a3)) ((a2)) ((((a3 - a2) - 12))) ((w18_5)) (sc ((w8_2)) 0 ((y8_0_1))) := .inr (.inr ⟨by omega, by omega, hL3, by rw [hap.2, sc_nil (Int.le_refl _), List.nil_append, show (a2) + 12 + (((a3 - a2) - 12)) = (a3) by omega]; exact sc_u⟩)
        exact w_ireturn rfl (k (((a3 - a2) - 12)) _ _ _ _ _ _ _ H O (SD_trans (SD_refl) (SD_glu (ι := [2, 1, 3]) hD8 eD8 (by decide +kernel)) (any_subA (l' := [3]) rfl)) (SD_trans (SD_refl) (SD_glu (ι := [2, 1, 3]) hN8 eN8 (by decide +kernel)) (any_subA (l' := [3]) rfl)) (SF_trans (SF_trans (SF_refl) hS_18 (any_sub rfl)) (SF_glu (ι := [2, 1, 3]) hS8 eF8 (by decide +kernel)) (any_sub (l' := [(2, 0), (2, 1), (2, 2)]) rfl)) (SA_trans (SA_trans (SA_refl) hA_18 (any_subA rfl)) (SA_glu (ι := [2, 1, 3]) hA8 eA8 (by decide +kernel)) (any_subA (l' := [3]) rfl)) (pf8_2_0) (m8_2) ((congrArg (fun q : Nat => (q : Int)) (eN8 3)).trans em8_2) (y8_0_1) (((eF8 2 1).trans ey8_0_1)) (y8_0_2) (((eF8 2 2).trans ey8_0_2)) (w8_2) ((eA8 3).trans ew8_2) (w18_5) (((show A8 5 = A_18 5 from (eA8 5))).trans (ew18_5)) (show inr (((a3 - a2) - 12)) by omega) (show 0 ≤ (y8_0_1) ∧ (y8_0_1) ≤ (m8_2) ∧ (m8_2) ≤ 65536 by omega) (show -4 ≤ (((a3 - a2) - 12)) ∧ (((a3 - a2) - 12)) ≤ 65536 by omega) (show (((a3 - a2) - 12)) < 0 ∨ (y8_0_1) = (((a3 - a2) - 12)) by omega) (show LNH (ub8 ((w1))) (a3) (a2) ((((a3 - a2) - 12))) ((w18_5)) (sc ((w8_2)) 0 ((y8_0_1))) by assumption) (show (((a3 - a2) - 12)) < 0 ∨ (y8_0_2) = 0 by omega))
      · refine Ew_of (pc' := 25) (fun _ => x_aload_n rfl l18_0) ?_
        refine v_g H (o := 0) (v := .ref (D 4)) rfl rfl rfl rfl rfl (vrf (((hS_18 0 1 rfl)).trans (pf4))) ?_
        refine v_g H (o := 4) (v := .ref (D 5)) rfl rfl rfl rfl rfl (vrf (((hS_18 4 2 rfl)).trans (pf5))) ?_
        refine Ew_of (pc' := 33) (fun _ => x_iload rfl l18_5) ?_
        refine Ew_of (pc' := 34) (fun _ => x_aload_n rfl l18_1) ?_
        refine Ew_of (pc' := 35) (fun _ => x_iload_n rfl l18_2) ?_
        refine Ew_of (pc' := 36) (fun _ => x_iconst rfl) ?_
        refine Ew_of (pc' := 38) (fun _ => x_iload rfl l18_5) ?_
        refine w_imul rfl ?_
        refine w_iadd rfl ?_
        refine Ew_of (pc' := 41) (fun _ => x_iconst rfl) ?_
        refine w_stat25 rfl rfl (by rfl) (C42_Br (D := pul [1] D) (N := pul [1] N) (HW_sub H (VS_of (show vsub V119_Br V42_Br [1] = true by decide +kernel))) (n1) (en1) (w1) ((funext (hA_18 1 rfl)).trans (ew1)) (show inr ((a2 + (4 * x18_5))) by omega) (show inr (4) by omega) (show (4) ≤ 0 ∨ 0 ≤ ((a2 + (4 * x18_5))) ∧ ((a2 + (4 * x18_5))) + (4) ≤ (n1) by omega) (show 0 ≤ (4) ∧ (4) ≤ 8 by omega) (fun z12 σ12 F12' A12' H' O' hS12 hA12 pz12_0 pz12_1 pz12_2 => ⟨rfl, ?_⟩))
        refine v_back (c := c) (s := s) H (show vsub V119_Br V42_Br [1] = true by decide +kernel) H' O' (fun F12 A12 H O' eF12 eA12 => ?_)
        have O := OUT_trans O O'
        -- PackHouse.number
        have hN4 : z12 = nvl (ub8 ((w1))) ((a2) + 4 * (x18_5)) 4 := (nmb_nn pz12_2 (by omega) pz12_0).trans nvl_u
        refine v_sJ H (o := 5) (z := z12) rfl rfl rfl rfl (n := n5) (en5) (show 0 ≤ x18_5 ∧ x18_5 < n5 by omega) (show inrJ (z12) by omega) (fun σ H O' => ?_)
        have O := OUT_trans O O'
        refine Ew_of (pc' := 46) (fun _ => x_aload_n rfl l18_0) ?_
        refine v_g H (o := 0) (v := .ref (D 4)) rfl rfl rfl rfl rfl (vrf (((((show F12 0 1 = F_18 0 1 from (eF12 0 1))).trans (hS_18 0 1 rfl))).trans (pf4))) ?_
        refine v_g H (o := 4) (v := .ref (D 5)) rfl rfl rfl rfl rfl (vrf (((((show F12 4 2 = F_18 4 2 from (eF12 4 2))).trans (hS_18 4 2 rfl))).trans (pf5))) ?_
        refine Ew_of (pc' := 54) (fun _ => x_iload rfl l18_5) ?_
        refine v_lJ H (o := 5) rfl rfl rfl rfl (n := n5) (en5) (show 0 ≤ x18_5 ∧ x18_5 < n5 by omega) (fun v13 ev13 qv13 => ?_)
        have ev13 : (upd1 (w18_5) (x18_5) (z12)) (x18_5) = v13 := (congrFun (congrArg (fun q => upd1 q (x18_5) (z12)) (((show A12 5 = A_18 5 from (eA12 5))).trans (ew18_5))) (x18_5)).symm.trans ev13
        have hq := ev13
        rw [upd1_s] at hq
        refine Ew_of (pc' := 56) (fun _ => x_lconst (z := 0) rfl (by decide)) ?_
        refine w_lcmp rfl (show inrJ (v13) by omega) (show inrJ (0) by omega) (fun z14 gz14 gaz14 gbz14 => ?_)
        refine w_ifeq (t := 77) rfl rfl (show inr (z14) by omega) (fun b15 => ?_) (fun b15 => ?_)
        · refine Ew_of (pc' := 79) (fun _ => x_bipush (z := -4) rfl (by decide)) ?_
          have : LNH (ub8 ((w1))) ((a3)) ((a2)) (((-4))) ((upd1 (w18_5) (x18_5) (z12))) (sc ((w3)) 0 ((u2_1))) := LNH_4 (by omega) (by omega) (j := (x18_5)) (by omega) hN4 (by omega)
          exact w_ireturn rfl (k ((-4)) _ _ _ _ _ _ _ H O (SD_refl) (SD_refl) (SF_trans (SF_trans (SF_refl) hS_18 (any_sub rfl)) (SF_glu (ι := [1]) hS12 eF12 (by decide +kernel)) (any_sub (l' := []) rfl)) (SA_upd (SA_trans (SA_trans (SA_refl) hA_18 (any_subA rfl)) (SA_glu (ι := [1]) hA12 eA12 (by decide +kernel)) (any_subA (l' := []) rfl)) rfl) (((((show F12 2 0 = F_18 2 0 from (eF12 2 0))).trans (hS_18 2 0 rfl))).trans (pf3)) (n3) (en3) (u2_1) (((((show F12 2 1 = F_18 2 1 from (eF12 2 1))).trans (hS_18 2 1 rfl)).trans (eu2_1))) (u2_2) (((((show F12 2 2 = F_18 2 2 from (eF12 2 2))).trans (hS_18 2 2 rfl)).trans (eu2_2))) (w3) (((show A12 3 = A_18 3 from (eA12 3))).trans ((funext (hA_18 3 rfl)).trans (ew3))) (upd1 (w18_5) (x18_5) (z12)) (congrArg (fun q => upd1 q (x18_5) (z12)) (((show A12 5 = A_18 5 from (eA12 5))).trans (ew18_5))) (show inr ((-4)) by omega) (show 0 ≤ (u2_1) ∧ (u2_1) ≤ (n3) ∧ (n3) ≤ 65536 by omega) (show -4 ≤ ((-4)) ∧ ((-4)) ≤ 65536 by omega) (show ((-4)) < 0 ∨ (u2_1) = ((-4)) by omega) (show LNH (ub8 ((w1))) (a3) (a2) (((-4))) ((upd1 (w18_5) (x18_5) (z12))) (sc ((w3)) 0 ((u2_1))) by assumption) (show ((-4)) < 0 ∨ (u2_2) = 0 by omega))
        · refine Ew_of (pc' := 61) (fun _ => x_aload_n rfl l18_0) ?_
          refine v_g H (o := 0) (v := .ref (D 4)) rfl rfl rfl rfl rfl (vrf (((((show F12 0 1 = F_18 0 1 from (eF12 0 1))).trans (hS_18 0 1 rfl))).trans (pf4))) ?_
          refine v_g H (o := 4) (v := .ref (D 5)) rfl rfl rfl rfl rfl (vrf (((((show F12 4 2 = F_18 4 2 from (eF12 4 2))).trans (hS_18 4 2 rfl))).trans (pf5))) ?_
          refine Ew_of (pc' := 69) (fun _ => x_iload rfl l18_5) ?_
          refine v_lJ H (o := 5) rfl rfl rfl rfl (n := n5) (en5) (show 0 ≤ x18_5 ∧ x18_5 < n5 by omega) (fun v16 ev16 qv16 => ?_)
          have ev16 : (upd1 (w18_5) (x18_5) (z12)) (x18_5) = v16 := (congrFun (congrArg (fun q => upd1 q (x18_5) (z12)) (((show A12 5 = A_18 5 from (eA12 5))).trans (ew18_5))) (x18_5)).symm.trans ev16
          have hq2 := ev16
          rw [upd1_s] at hq2
          refine Ew_of (pc' := 72) (fun _ => x_iload rfl l18_4) ?_
          refine w_i2l rfl (show inr (((a3 - a2) - 12)) by omega) ?_
          refine w_lcmp rfl (show inrJ (v16) by omega) (show inrJ (((a3 - a2) - 12)) by omega) (fun z17 gz17 gaz17 gbz17 => ?_)
          refine w_ifle (t := 80) rfl rfl (show inr (z17) by omega) (fun b18 => ?_) (fun b18 => ?_)
          · refine Ew_of (pc' := 83) (fun _ => x_iinc (len := 3) rfl (l18_5)) ?_
            refine Ew_of (pc' := 18) (fun _ => x_goto rfl rfl) ?_
            have : LNL (ub8 ((w1))) ((a3)) ((a2)) (((x18_5 + 1))) ((upd1 (w18_5) (x18_5) (z12))) := LNL_s j18_l hN4 (by omega) (by omega) (by omega)
            exact ih18 _ (by omega) _ _ _ _ ((x18_5 + 1)) (rk_o (l18_0) rfl rfl) (rk_o (l18_1) rfl rfl) (rk_o (l18_2) rfl rfl) (rk_o (l18_4) rfl rfl) (rk_s) H O (SF_trans (hS_18) (SF_glu (ι := [1]) hS12 eF12 (by decide +kernel)) (any_sub (l' := []) rfl)) (SA_upd (SA_trans (hA_18) (SA_glu (ι := [1]) hA12 eA12 (by decide +kernel)) (any_subA (l' := []) rfl)) rfl)    (upd1 (w18_5) (x18_5) (z12)) (congrArg (fun q => upd1 q (x18_5) (z12)) (((show A12 5 = A_18 5 from (eA12 5))).trans (ew18_5))) (show inr ((x18_5 + 1)) by omega) (show (0) ≤ ((x18_5 + 1)) by omega) (show ((x18_5 + 1)) ≤ (0) ∨ ((x18_5 + 1)) ≤ (3) by omega) (show LNL (ub8 ((w1))) ((a3)) ((a2)) (((x18_5 + 1))) ((upd1 (w18_5) (x18_5) (z12))) by assumption) rfl
          · refine Ew_of (pc' := 79) (fun _ => x_bipush (z := -4) rfl (by decide)) ?_
            have : LNH (ub8 ((w1))) ((a3)) ((a2)) (((-4))) ((upd1 (w18_5) (x18_5) (z12))) (sc ((w3)) 0 ((u2_1))) := LNH_4 (by omega) (by omega) (j := (x18_5)) (by omega) hN4 (by omega)
            exact w_ireturn rfl (k ((-4)) _ _ _ _ _ _ _ H O (SD_refl) (SD_refl) (SF_trans (SF_trans (SF_refl) hS_18 (any_sub rfl)) (SF_glu (ι := [1]) hS12 eF12 (by decide +kernel)) (any_sub (l' := []) rfl)) (SA_upd (SA_trans (SA_trans (SA_refl) hA_18 (any_subA rfl)) (SA_glu (ι := [1]) hA12 eA12 (by decide +kernel)) (any_subA (l' := []) rfl)) rfl) (((((show F12 2 0 = F_18 2 0 from (eF12 2 0))).trans (hS_18 2 0 rfl))).trans (pf3)) (n3) (en3) (u2_1) (((((show F12 2 1 = F_18 2 1 from (eF12 2 1))).trans (hS_18 2 1 rfl)).trans (eu2_1))) (u2_2) (((((show F12 2 2 = F_18 2 2 from (eF12 2 2))).trans (hS_18 2 2 rfl)).trans (eu2_2))) (w3) (((show A12 3 = A_18 3 from (eA12 3))).trans ((funext (hA_18 3 rfl)).trans (ew3))) (upd1 (w18_5) (x18_5) (z12)) (congrArg (fun q => upd1 q (x18_5) (z12)) (((show A12 5 = A_18 5 from (eA12 5))).trans (ew18_5))) (show inr ((-4)) by omega) (show 0 ≤ (u2_1) ∧ (u2_1) ≤ (n3) ∧ (n3) ≤ 65536 by omega) (show -4 ≤ ((-4)) ∧ ((-4)) ≤ 65536 by omega) (show ((-4)) < 0 ∨ (u2_1) = ((-4)) by omega) (show LNH (ub8 ((w1))) (a3) (a2) (((-4))) ((upd1 (w18_5) (x18_5) (z12))) (sc ((w3)) 0 ((u2_1))) by assumption) (show ((-4)) < 0 ∨ (u2_2) = 0 by omega))
  · refine Ew_of (pc' := 14) (fun _ => x_iconst rfl) ?_
    have : LNH (ub8 ((w1))) ((a3)) ((a2)) (((-1))) ((w5)) (sc ((w3)) 0 ((u2_1))) := .inl ⟨by omega, by omega⟩
    exact w_ireturn rfl (k ((-1)) _ _ _ _ _ _ _ H O (SD_refl) (SD_refl) (SF_refl) (SA_refl) (pf3) (n3) (en3) (u2_1) ((eu2_1)) (u2_2) ((eu2_2)) (w3) (ew3) (w5) (ew5) (show inr ((-1)) by omega) (show 0 ≤ (u2_1) ∧ (u2_1) ≤ (n3) ∧ (n3) ≤ 65536 by omega) (show -4 ≤ ((-1)) ∧ ((-1)) ≤ 65536 by omega) (show ((-1)) < 0 ∨ (u2_1) = ((-1)) by omega) (show LNH (ub8 ((w1))) (a3) (a2) (((-1))) ((w5)) (sc ((w3)) 0 ((u2_1))) by assumption) (show ((-1)) < 0 ∨ (u2_2) = 0 by omega))
