/-- java/util/Arrays.fill: #1 -/
theorem C459_Irf {σE : rS} {D N : Nat → Nat} {F : hF} {A : hA} {d c s : Nat} {Q : wQ} (H : HW V459_Ir σE D N F A) {a2 a3 a4 : Int} (n0 : Int) (en0 : (N 0 : Int) = n0) (w0 : Int → Int) (ew0 : A 0 = w0) (h0 : inr (a2)) (h1 : inr (a3)) (h2 : inr (a4)) (h3 : 0 ≤ (a2) ∧ (a2) ≤ (a3) ∧ (a3) ≤ (n0)) (k : ∀ (σ : rS) (F' : hF) (A' : hA), HW V459_Ir σ D N F' A' → OUT (V459_Ir).length D N σE c s D N σ c s → SF [] F F' → SA [0] A A' → ∀ v0 : Int → Int, A' 0 = v0 → (FIL ((w0)) ((v0)) (a2) (a3) (a4)) → Q none σ c s) : Ew 459 (d + 1) 0 (rargs 0 [.ref (D 0), I a2, I a3, I a4]) [] σE c s Q := by
  have O := OUT_refl (n := (V459_Ir).length) (D := D) (N := N) (σ := σE) (c := c) (s := s)
  have HE := H
  have r1 : (0 : Int) ≤ n0 ∧ n0 ≤ 1000000 := by have h1 := H.nle 0 (by decide); have h2 : (N 0 : Int) = n0 := en0; omega
  refine Ew_of (pc' := 1) (fun _ => x_aload_n rfl rfl) ?_
  refine v_len H (o := 0) rfl rfl rfl rfl (n := n0) (en0) ?_
  refine Ew_of (pc' := 3) (fun _ => x_iload_n rfl rfl) ?_
  refine Ew_of (pc' := 4) (fun _ => x_iload_n rfl rfl) ?_
  refine w_stat24 rfl rfl (by rfl) (C460 (D := pul [] D) (N := pul [] N) (HW_sub H (VS_of (show vsub V459_Ir V460 [] = true by decide +kernel))) (show inr (n0) by omega) (show inr (a2) by omega) (show inr (a3) by omega) (show 0 ≤ (a2) ∧ (a2) ≤ (a3) ∧ (a3) ≤ (n0) by omega) (fun σ2 F2' A2' H' O' hS2 hA2 => ⟨rfl, ?_⟩))
  refine v_back (c := c) (s := s) H (show vsub V459_Ir V460 [] = true by decide +kernel) H' O' (fun F2 A2 H O' eF2 eA2 => ?_)
  have O := OUT_trans O O'
  -- java/util/Arrays.rangeCheck
  refine Ew_of (pc' := 8) (fun _ => x_iload_n rfl rfl) ?_
  refine Ew_of (pc' := 10) (fun _ => x_istore rfl) ?_
  have hf0 : FIL ((w0)) ((w0)) (a2) (a2) (a4) := FIL_0
  suffices hl10 : ∀ (m : Nat), ∀ (ls : rO) (σ : rS) (F_10 : hF) (A_10 : hA) (x10_4 : Int), rlook ls 0 = some (.ref (D 0)) → rlook ls 2 = some (I (a3)) → rlook ls 3 = some (I (a4)) → rlook ls 4 = some (I (x10_4)) → HW V459_Ir σ D N F_10 A_10 → OUT (V459_Ir).length D N σE c s D N σ c s → SF [] F2 F_10 → SA [0] A2 A_10 → ∀ w10_0 : Int → Int, A_10 0 = w10_0 → (inr (x10_4)) → ((a2) ≤ (x10_4)) → ((x10_4) ≤ (a2) ∨ (x10_4) ≤ ((a3))) → (FIL ((w0)) ((w10_0)) (a2) (x10_4) (a4)) → (((a3)) - (x10_4)).toNat = m → Ew 459 (d + 1) 10 ls [] σ c s Q from
    hl10 _ _ _ _ _ (a2) (rk_o (rfl) rfl rfl) (rk_o (rfl) rfl rfl) (rk_o (rfl) rfl rfl) (rk_s) H O (SF_refl) (SA_refl)    (w0) (((show A2 0 = A 0 from (eA2 0))).trans (ew0)) (show inr (a2) by omega) (show (a2) ≤ (a2) by omega) (show (a2) ≤ (a2) ∨ (a2) ≤ ((a3)) by omega) (show FIL ((w0)) ((w0)) (a2) (a2) (a4) by assumption) rfl
  as_aux_lemma =>
  intro m
  induction m using Nat.strongRecOn with
  | _ m ih10 =>
    intro ls σ F_10 A_10 x10_4 l10_0 l10_2 l10_3 l10_4 H O hS_10 hA_10    w10_0 ew10_0 j10_0 j10_1 j10_2 j10_3 hm10
    refine Ew_of (pc' := 12) (fun _ => x_iload rfl l10_4) ?_
    refine Ew_of (pc' := 13) (fun _ => x_iload_n rfl l10_2) ?_
    refine w_icmpge (t := 27) rfl rfl (show inr (x10_4) by omega) (show inr (a3) by omega) (fun b3 => ?_) (fun b3 => ?_)
    · have hl4 : (x10_4) = (a3) := by omega
      have hfe : FIL ((w0)) ((w10_0)) (a2) (a3) (a4) := by rw [← hl4]; assumption
      exact w_ret rfl (k _ _ _ H O (SF_trans (SF_trans (SF_refl) (SF_glu (ι := []) hS2 eF2 (by decide +kernel)) (any_sub (l' := []) rfl)) hS_10 (any_sub rfl)) (SA_trans (SA_trans (SA_refl) (SA_glu (ι := []) hA2 eA2 (by decide +kernel)) (any_subA (l' := []) rfl)) hA_10 (any_subA rfl)) (w10_0) (ew10_0) (show FIL ((w0)) ((w10_0)) a2 a3 a4 by assumption))
    · refine Ew_of (pc' := 17) (fun _ => x_aload_n rfl l10_0) ?_
      refine Ew_of (pc' := 19) (fun _ => x_iload rfl l10_4) ?_
      refine Ew_of (pc' := 20) (fun _ => x_iload_n rfl l10_3) ?_
      refine v_sI H (o := 0) (z := a4) rfl rfl rfl rfl (n := n0) (en0) (show 0 ≤ x10_4 ∧ x10_4 < n0 by omega) (show inr (a4) by omega) (fun σ H O' => ?_)
      have O := OUT_trans O O'
      refine Ew_of (pc' := 24) (fun _ => x_iinc (len := 3) rfl (l10_4)) ?_
      refine Ew_of (pc' := 10) (fun _ => x_goto rfl rfl) ?_
      have hf1 : FIL ((w0)) ((upd1 (w10_0) (x10_4) (a4))) (a2) ((x10_4 + 1)) (a4) := FIL_s (by assumption) (by omega) rfl
      exact ih10 _ (by omega) _ _ _ _ ((x10_4 + 1)) (rk_o (l10_0) rfl rfl) (rk_o (l10_2) rfl rfl) (rk_o (l10_3) rfl rfl) (rk_s) H O (hS_10) (SA_upd (hA_10) rfl)    (upd1 (w10_0) (x10_4) (a4)) (congrArg (fun q => upd1 q (x10_4) (a4)) (ew10_0)) (show inr ((x10_4 + 1)) by omega) (show (a2) ≤ ((x10_4 + 1)) by omega) (show ((x10_4 + 1)) ≤ (a2) ∨ ((x10_4 + 1)) ≤ ((a3)) by omega) (show FIL ((w0)) ((upd1 (w10_0) (x10_4) (a4))) (a2) ((x10_4 + 1)) (a4) by assumption) rfl
abbrev V103 : vV := [(0, 3, [(4, 0), (4, 0), (4, 0), (0, 0), (4, 0), (4, 0), (4, 0), (4, 0), (4, 0), (4, 0), (4, 0), (4, 0), (4, 0), (0, 0), (0, 0), (0, 0), (0, 0)]), (1, 1, []), (1, 1, []), (1, 1, [])]
/-- Codes.lay: this, this.lengths, this.codes, this.cells -/
theorem C103 {σE : rS} {D N : Nat → Nat} {F : hF} {A : hA} {d c s : Nat} {Q : wQ} (H : HW V103 σE D N F A)  (pf1 : F 0 0 = (D 1 : Int)) (pf2 : F 0 1 = (D 2 : Int)) (pf3 : F 0 2 = (D 3 : Int)) (n1 : Int) (en1 : (N 1 : Int) = n1) (n2 : Int) (en2 : (N 2 : Int) = n2) (n3 : Int) (en3 : (N 3 : Int) = n3) (u0_3 : Int) (eu0_3 : F 0 3 = u0_3) (w1 : Int → Int) (ew1 : A 1 = w1) (w2 : Int → Int) (ew2 : A 2 = w2) (w3 : Int → Int) (ew3 : A 3 = w3) (h0 : (n1) = 256 ∧ (n2) = 256 ∧ (n3) = 2048) (h1 : 0 ≤ ((u0_3)) ∧ ((u0_3)) ≤ 11) (h2 : LNG ((w1)) ((u0_3))) (h3 : CEL ((w3))) (k : ∀ (σ : rS) (F' : hF) (A' : hA), HW V103 σ D N F' A' → OUT (V103).length D N σE c s D N σ c s → SF [] F F' → SA [2, 3] A A' → ∀ v2 : Int → Int, A' 2 = v2 → ∀ v3 : Int → Int, A' 3 = v3 → (CEL ((v3))) → (CDX ((w1)) ((u0_3)) ((v3)) ((v2))) → Q none σ c s) : Ew 103 (d + 2) 0 (rargs 0 [.ref (D 0)]) [] σE c s Q := by
  have O := OUT_refl (n := (V103).length) (D := D) (N := N) (σ := σE) (c := c) (s := s)
  have HE := H
  have r1 : (-2147483648 : Int) ≤ u0_3 ∧ u0_3 ≤ 2147483647 := by have h1 : (-2147483648 : Int) ≤ F 0 3 ∧ F 0 3 ≤ 2147483647 := H.krg 0 3 (by decide); rw [show F 0 3 = u0_3 from (eu0_3)] at h1; exact h1
  have r2 : (0 : Int) ≤ n1 ∧ n1 ≤ 1000000 := by have h1 := H.nle 1 (by decide); have h2 : (N 1 : Int) = n1 := en1; omega
  have r3 : (0 : Int) ≤ n2 ∧ n2 ≤ 1000000 := by have h1 := H.nle 2 (by decide); have h2 : (N 2 : Int) = n2 := en2; omega
  have r4 : (0 : Int) ≤ n3 ∧ n3 ≤ 1000000 := by have h1 := H.nle 3 (by decide); have h2 : (N 3 : Int) = n3 := en3; omega
  refine Ew_of (pc' := 1) (fun _ => x_iconst rfl) ?_
  refine Ew_of (pc' := 2) (fun _ => x_istore_n rfl) ?_
  refine Ew_of (pc' := 3) (fun _ => x_iconst rfl) ?_
  refine Ew_of (pc' := 4) (fun _ => x_istore_n rfl) ?_
  have : CLI ((w1)) ((u0_3)) 1 0 0 ((w3)) ((w2)) := CLI_0 rfl rfl rfl
  suffices hl4 : ∀ (m : Nat), ∀ (ls : rO) (σ : rS) (F_4 : hF) (A_4 : hA) (x4_1 : Int) (x4_2 : Int), rlook ls 0 = some (.ref (D 0)) → rlook ls 1 = some (I (x4_1)) → rlook ls 2 = some (I (x4_2)) → HW V103 σ D N F_4 A_4 → OUT (V103).length D N σE c s D N σ c s → SF [] F F_4 → SA [2, 3] A A_4 → ∀ w4_2 : Int → Int, A_4 2 = w4_2 → ∀ w4_3 : Int → Int, A_4 3 = w4_3 → (inr (x4_1)) → (inr (x4_2)) → ((1) ≤ (x4_2)) → ((x4_2) ≤ (1) ∨ (x4_2) ≤ (((u0_3) + 1))) → (0 ≤ (x4_1) ∧ (x4_1) ≤ 2048) → (CEL ((w4_3))) → (CLI ((w1)) ((u0_3)) ((x4_2)) 0 ((x4_1)) ((w4_3)) ((w4_2))) → ((((u0_3) + 1)) - (x4_2)).toNat = m → Ew 103 (d + 2) 4 ls [] σ c s Q from
    hl4 _ _ _ _ _ (0) (1) (rk_o (rk_o (rfl) rfl rfl) rfl rfl) (rk_o (rk_s) rfl rfl) (rk_s) H O (SF_refl) (SA_refl)    (w2) (ew2) (w3) (ew3) (show inr (0) by omega) (show inr (1) by omega) (show (1) ≤ (1) by omega) (show (1) ≤ (1) ∨ (1) ≤ (((u0_3) + 1)) by omega) (show 0 ≤ (0) ∧ (0) ≤ 2048 by omega) (show CEL ((w3)) by assumption) (show CLI ((w1)) ((u0_3)) ((1)) 0 ((0)) ((w3)) ((w2)) by assumption) rfl
  as_aux_lemma =>
  intro m
  induction m using Nat.strongRecOn with
  | _ m ih4 =>
    intro ls σ F_4 A_4 x4_1 x4_2 l4_0 l4_1 l4_2 H O hS_4 hA_4    w4_2 ew4_2 w4_3 ew4_3 j4_0 j4_1 j4_2 j4_3 j4_4 j4_5 j4_6 hm4
    have j4_c : CLI ((w1)) ((u0_3)) ((x4_2)) 0 ((x4_1)) ((w4_3)) ((w4_2)) := by assumption
    refine Ew_of (pc' := 5) (fun _ => x_iload_n rfl l4_2) ?_
    refine Ew_of (pc' := 6) (fun _ => x_aload_n rfl l4_0) ?_
    refine v_g H (o := 0) (v := I (u0_3)) rfl rfl rfl rfl rfl (congrArg (fun z : Int => I z) (((hS_4 0 3 rfl).trans (eu0_3)) : F_4 0 3 = u0_3)) ?_
    refine w_icmpgt (t := 109) rfl rfl (show inr (x4_2) by omega) (show inr (u0_3) by omega) (fun b5 => ?_) (fun b5 => ?_)
    · have : CDX ((w1)) ((u0_3)) ((w4_3)) ((w4_2)) := CDX_of j4_c rfl (by omega)
      exact w_ret rfl (k _ _ _ H O (SF_trans (SF_refl) hS_4 (any_sub rfl)) (SA_trans (SA_refl) hA_4 (any_subA rfl)) (w4_2) (ew4_2) (w4_3) (ew4_3) (show CEL ((w4_3)) by assumption) (show CDX ((w1)) ((u0_3)) ((w4_3)) ((w4_2)) by assumption))
    · refine Ew_of (pc' := 13) (fun _ => x_iconst rfl) ?_
      refine Ew_of (pc' := 14) (fun _ => x_iload_n rfl l4_2) ?_
      refine Ew_of (pc' := 15) (fun _ => x_iconst rfl) ?_
      refine w_isub rfl ?_
      refine w_ishl1 rfl (show 0 ≤ (x4_2 - 1) ∧ (x4_2 - 1) ≤ 31 by omega) ?_
      have hpw : p2 ((x4_2) - 1) ≤ p2 10 := p2_mono (by omega)
      have hp10 : p2 10 = 1024 := by decide
      have hpp := p2_pos ((x4_2) - 1)
      refine Ew_of (pc' := 18) (fun _ => x_istore_n rfl) ?_
      refine Ew_of (pc' := 19) (fun _ => x_aload_n rfl (rk_o (l4_0) rfl rfl)) ?_
      refine v_g H (o := 0) (v := I (u0_3)) rfl rfl rfl rfl rfl (congrArg (fun z : Int => I z) (((hS_4 0 3 rfl).trans (eu0_3)) : F_4 0 3 = u0_3)) ?_
      refine Ew_of (pc' := 23) (fun _ => x_iconst rfl) ?_
      refine w_iadd rfl ?_
      refine Ew_of (pc' := 25) (fun _ => x_iload_n rfl (rk_o (l4_2) rfl rfl)) ?_
      refine w_isub rfl ?_
      refine Ew_of (pc' := 28) (fun _ => x_istore rfl) ?_
      refine Ew_of (pc' := 29) (fun _ => x_iconst rfl) ?_
      refine Ew_of (pc' := 31) (fun _ => x_istore rfl) ?_
      suffices hl31 : ∀ (m : Nat), ∀ (ls : rO) (σ : rS) (F_31 : hF) (A_31 : hA) (x31_1 : Int) (x31_5 : Int), rlook ls 0 = some (.ref (D 0)) → rlook ls 1 = some (I (x31_1)) → rlook ls 2 = some (I (x4_2)) → rlook ls 3 = some (I (p2 ((x4_2 - 1)))) → rlook ls 4 = some (I (((u0_3 + 1) - x4_2))) → rlook ls 5 = some (I (x31_5)) → HW V103 σ D N F_31 A_31 → OUT (V103).length D N σE c s D N σ c s → SF [] F_4 F_31 → SA [2, 3] A_4 A_31 → ∀ w31_2 : Int → Int, A_31 2 = w31_2 → ∀ w31_3 : Int → Int, A_31 3 = w31_3 → (inr (x31_1)) → (inr (x31_5)) → ((0) ≤ (x31_5)) → ((x31_5) ≤ (0) ∨ (x31_5) ≤ ((256))) → (0 ≤ (x31_1) ∧ (x31_1) ≤ 2048) → (CEL ((w31_3))) → (CLI ((w1)) ((u0_3)) ((x4_2)) ((x31_5)) ((x31_1)) ((w31_3)) ((w31_2))) → (((256)) - (x31_5)).toNat = m → Ew 103 (d + 2) 31 ls [] σ c s Q from
        hl31 _ _ _ _ _ (x4_1) (0) (rk_o (rk_o (rk_o (l4_0) rfl rfl) rfl rfl) rfl rfl) (rk_o (rk_o (rk_o (l4_1) rfl rfl) rfl rfl) rfl rfl) (rk_o (rk_o (rk_o (l4_2) rfl rfl) rfl rfl) rfl rfl) (rk_o (rk_o (rk_s) rfl rfl) rfl rfl) (rk_o (rk_s) rfl rfl) (rk_s) H O (SF_refl) (SA_refl)    (w4_2) (ew4_2) (w4_3) (ew4_3) (show inr (x4_1) by omega) (show inr (0) by omega) (show (0) ≤ (0) by omega) (show (0) ≤ (0) ∨ (0) ≤ ((256)) by omega) (show 0 ≤ (x4_1) ∧ (x4_1) ≤ 2048 by omega) (show CEL ((w4_3)) by assumption) (show CLI ((w1)) ((u0_3)) ((x4_2)) ((0)) ((x4_1)) ((w4_3)) ((w4_2)) by assumption) rfl
      as_aux_lemma =>
      intro m
      induction m using Nat.strongRecOn with
      | _ m ih31 =>
        intro ls σ F_31 A_31 x31_1 x31_5 l31_0 l31_1 l31_2 l31_3 l31_4 l31_5 H O hS_31 hA_31    w31_2 ew31_2 w31_3 ew31_3 j31_0 j31_1 j31_2 j31_3 j31_4 j31_5 j31_6 hm31
        have j31_c : CLI ((w1)) ((u0_3)) ((x4_2)) ((x31_5)) ((x31_1)) ((w31_3)) ((w31_2)) := by assumption
        refine Ew_of (pc' := 33) (fun _ => x_iload rfl l31_5) ?_
        refine Ew_of (pc' := 36) (fun _ => x_sipush (z := 256) rfl (by decide)) ?_
        refine w_icmpge (t := 103) rfl rfl (show inr (x31_5) by omega) (show inr (256) by omega) (fun b7 => ?_) (fun b7 => ?_)
        · refine Ew_of (pc' := 106) (fun _ => x_iinc (len := 3) rfl (l31_2)) ?_
          refine Ew_of (pc' := 4) (fun _ => x_goto rfl rfl) ?_
          have : CLI ((w1)) ((u0_3)) (((x4_2 + 1))) 0 ((x31_1)) ((w31_3)) ((w31_2)) := CLI_w j31_c (by omega) (by omega) rfl rfl
          exact ih4 _ (by omega) _ _ _ _ (x31_1) ((x4_2 + 1)) (rk_o (l31_0) rfl rfl) (rk_o (l31_1) rfl rfl) (rk_s) H O (SF_trans (hS_4) hS_31 (any_sub rfl)) (SA_trans (hA_4) hA_31 (any_subA rfl))    (w31_2) (ew31_2) (w31_3) (ew31_3) (show inr (x31_1) by omega) (show inr ((x4_2 + 1)) by omega) (show (1) ≤ ((x4_2 + 1)) by omega) (show ((x4_2 + 1)) ≤ (1) ∨ ((x4_2 + 1)) ≤ (((u0_3) + 1)) by omega) (show 0 ≤ (x31_1) ∧ (x31_1) ≤ 2048 by omega) (show CEL ((w31_3)) by assumption) (show CLI ((w1)) ((u0_3)) (((x4_2 + 1))) 0 ((x31_1)) ((w31_3)) ((w31_2)) by assumption) rfl
        · refine Ew_of (pc' := 40) (fun _ => x_aload_n rfl l31_0) ?_
          refine v_g H (o := 0) (v := .ref (D 1)) rfl rfl rfl rfl rfl (vrf ((((hS_31 0 0 rfl).trans (hS_4 0 0 rfl))).trans (pf1))) ?_
          refine Ew_of (pc' := 45) (fun _ => x_iload rfl l31_5) ?_
          refine v_lI H (o := 1) rfl rfl rfl rfl (n := n1) (en1) (show 0 ≤ x31_5 ∧ x31_5 < n1 by omega) (fun v8 ev8 qv8 => ?_)
          have ev8 : (w1) (x31_5) = v8 := (congrFun ((funext (hA_31 1 rfl)).trans ((funext (hA_4 1 rfl)).trans (ew1))) (x31_5)).symm.trans ev8
          have hgv := ev8
          refine Ew_of (pc' := 48) (fun _ => x_iload rfl l31_4) ?_
          refine w_icmpne (t := 97) rfl rfl (show inr (v8) by omega) (show inr (((u0_3 + 1) - x4_2)) by omega) (fun b9 => ?_) (fun b9 => ?_)
          · refine Ew_of (pc' := 100) (fun _ => x_iinc (len := 3) rfl (l31_5)) ?_
            refine Ew_of (pc' := 31) (fun _ => x_goto rfl rfl) ?_
            have : CLI ((w1)) ((u0_3)) ((x4_2)) (((x31_5 + 1))) ((x31_1)) ((w31_3)) ((w31_2)) := by first | exact CLI_y j31_c (by omega) (by omega) (by omega) hfil rfl rfl (by omega) (by rw [hcz]) rfl | exact CLI_n j31_c (by omega) (by omega) rfl | exact CLI_r j31_c (by omega) (by omega) (by omega) rfl (by omega)
            exact ih31 _ (by omega) _ _ _ _ (x31_1) ((x31_5 + 1)) (rk_o (l31_0) rfl rfl) (rk_o (l31_1) rfl rfl) (rk_o (l31_2) rfl rfl) (rk_o (l31_3) rfl rfl) (rk_o (l31_4) rfl rfl) (rk_s) H O (hS_31) (hA_31)    (w31_2) (ew31_2) (w31_3) (ew31_3) (show inr (x31_1) by omega) (show inr ((x31_5 + 1)) by omega) (show (0) ≤ ((x31_5 + 1)) by omega) (show ((x31_5 + 1)) ≤ (0) ∨ ((x31_5 + 1)) ≤ ((256)) by omega) (show 0 ≤ (x31_1) ∧ (x31_1) ≤ 2048 by omega) (show CEL ((w31_3)) by assumption) (show CLI ((w1)) ((u0_3)) ((x4_2)) (((x31_5 + 1))) ((x31_1)) ((w31_3)) ((w31_2)) by assumption) rfl
          · refine Ew_of (pc' := 52) (fun _ => x_iload_n rfl l31_1) ?_
            refine Ew_of (pc' := 53) (fun _ => x_iload_n rfl l31_3) ?_
            refine w_iadd rfl ?_
            refine Ew_of (pc' := 55) (fun _ => x_aload_n rfl l31_0) ?_
            refine v_g H (o := 0) (v := .ref (D 3)) rfl rfl rfl rfl rfl (vrf ((((hS_31 0 2 rfl).trans (hS_4 0 2 rfl))).trans (pf3))) ?_
            refine v_len H (o := 3) rfl rfl rfl rfl (n := n3) (en3) ?_
            refine w_icmpgt (t := 97) rfl rfl (show inr ((x31_1 + p2 ((x4_2 - 1)))) by omega) (show inr (n3) by omega) (fun b10 => ?_) (fun b10 => ?_)
            · refine Ew_of (pc' := 100) (fun _ => x_iinc (len := 3) rfl (l31_5)) ?_
              refine Ew_of (pc' := 31) (fun _ => x_goto rfl rfl) ?_
              have : CLI ((w1)) ((u0_3)) ((x4_2)) (((x31_5 + 1))) ((x31_1)) ((w31_3)) ((w31_2)) := by first | exact CLI_y j31_c (by omega) (by omega) (by omega) hfil rfl rfl (by omega) (by rw [hcz]) rfl | exact CLI_n j31_c (by omega) (by omega) rfl | exact CLI_r j31_c (by omega) (by omega) (by omega) rfl (by omega)
              exact ih31 _ (by omega) _ _ _ _ (x31_1) ((x31_5 + 1)) (rk_o (l31_0) rfl rfl) (rk_o (l31_1) rfl rfl) (rk_o (l31_2) rfl rfl) (rk_o (l31_3) rfl rfl) (rk_o (l31_4) rfl rfl) (rk_s) H O (hS_31) (hA_31)    (w31_2) (ew31_2) (w31_3) (ew31_3) (show inr (x31_1) by omega) (show inr ((x31_5 + 1)) by omega) (show (0) ≤ ((x31_5 + 1)) by omega) (show ((x31_5 + 1)) ≤ (0) ∨ ((x31_5 + 1)) ≤ ((256)) by omega) (show 0 ≤ (x31_1) ∧ (x31_1) ≤ 2048 by omega) (show CEL ((w31_3)) by assumption) (show CLI ((w1)) ((u0_3)) ((x4_2)) (((x31_5 + 1))) ((x31_1)) ((w31_3)) ((w31_2)) by assumption) rfl
            · refine Ew_of (pc' := 63) (fun _ => x_aload_n rfl l31_0) ?_
              refine v_g H (o := 0) (v := .ref (D 2)) rfl rfl rfl rfl rfl (vrf ((((hS_31 0 1 rfl).trans (hS_4 0 1 rfl))).trans (pf2))) ?_
              refine Ew_of (pc' := 68) (fun _ => x_iload rfl l31_5) ?_
              refine Ew_of (pc' := 69) (fun _ => x_iload_n rfl l31_1) ?_
              refine Ew_of (pc' := 70) (fun _ => x_iload_n rfl l31_2) ?_
              refine Ew_of (pc' := 71) (fun _ => x_iconst rfl) ?_
              refine w_isub rfl ?_
              refine w_ishrX rfl (show inr (x31_1) by omega) (fun z11 gz11 dz11 => ?_)
              have hcz : (z11) = (x31_1) / p2 ((x4_2) - 1) := by first | omega | (have h := (show 0 ≤ (x4_2) - 1 ∧ (x4_2) - 1 ≤ 31 by omega); omega)
              refine v_sI H (o := 2) (z := z11) rfl rfl rfl rfl (n := n2) (en2) (show 0 ≤ x31_5 ∧ x31_5 < n2 by omega) (show inr (z11) by omega) (fun σ H O' => ?_)
              have O := OUT_trans O O'
              refine Ew_of (pc' := 75) (fun _ => x_aload_n rfl l31_0) ?_
              refine v_g H (o := 0) (v := .ref (D 3)) rfl rfl rfl rfl rfl (vrf ((((hS_31 0 2 rfl).trans (hS_4 0 2 rfl))).trans (pf3))) ?_
              refine Ew_of (pc' := 79) (fun _ => x_iload_n rfl l31_1) ?_
              refine Ew_of (pc' := 80) (fun _ => x_iload_n rfl l31_1) ?_
              refine Ew_of (pc' := 81) (fun _ => x_iload_n rfl l31_3) ?_
              refine w_iadd rfl ?_
              refine Ew_of (pc' := 84) (fun _ => x_iload rfl l31_4) ?_
              refine Ew_of (pc' := 86) (fun _ => x_bipush (z := 8) rfl (by decide)) ?_
              refine w_ishlK 8 256 (by decide) (by decide) rfl (fun z12 gz12 dz12 => ?_)
              refine Ew_of (pc' := 89) (fun _ => x_iload rfl l31_5) ?_
              refine w_iorX 8 256 rfl rfl (fun z13 gz13 dz13 => ?_)
              refine w_stat24 rfl rfl (by rfl) (C459_Irf (D := pul [3] D) (N := pul [3] N) (HW_sub H (VS_of (show vsub V103 V459_Ir [3] = true by decide +kernel))) (n3) (en3) (w31_3) (ew31_3) (show inr (x31_1) by omega) (show inr ((x31_1 + p2 ((x4_2 - 1)))) by omega) (show inr (z13) by omega) (show 0 ≤ (x31_1) ∧ (x31_1) ≤ ((x31_1 + p2 ((x4_2 - 1)))) ∧ ((x31_1 + p2 ((x4_2 - 1)))) ≤ (n3) by omega) (fun σ14 F14' A14' H' O' hS14 hA14 w14_0 ew14_0 pz14_0 => ⟨rfl, ?_⟩))
              refine v_back (c := c) (s := s) H (show vsub V103 V459_Ir [3] = true by decide +kernel) H' O' (fun F14 A14 H O' eF14 eA14 => ?_)
              have O := OUT_trans O O'
              -- java/util/Arrays.fill
              have hfil := pz14_0
              have hce : CEL ((w14_0)) := CEL_fil (by assumption) pz14_0 (by omega)
              refine Ew_of (pc' := 94) (fun _ => x_iload_n rfl l31_1) ?_
              refine Ew_of (pc' := 95) (fun _ => x_iload_n rfl l31_3) ?_
              refine w_iadd rfl ?_
              refine Ew_of (pc' := 97) (fun _ => x_istore_n rfl) ?_
              refine Ew_of (pc' := 100) (fun _ => x_iinc (len := 3) rfl (rk_o (l31_5) rfl rfl)) ?_
              refine Ew_of (pc' := 31) (fun _ => x_goto rfl rfl) ?_
              have : CLI ((w1)) ((u0_3)) ((x4_2)) (((x31_5 + 1))) (((x31_1 + p2 ((x4_2 - 1))))) ((w14_0)) ((upd1 (w31_2) (x31_5) (z11))) := by first | exact CLI_y j31_c (by omega) (by omega) (by omega) hfil rfl rfl (by omega) (by rw [hcz]) rfl | exact CLI_n j31_c (by omega) (by omega) rfl | exact CLI_r j31_c (by omega) (by omega) (by omega) rfl (by omega)
              exact ih31 _ (by omega) _ _ _ _ ((x31_1 + p2 ((x4_2 - 1)))) ((x31_5 + 1)) (rk_o (rk_o (l31_0) rfl rfl) rfl rfl) (rk_o (rk_s) rfl rfl) (rk_o (rk_o (l31_2) rfl rfl) rfl rfl) (rk_o (rk_o (l31_3) rfl rfl) rfl rfl) (rk_o (rk_o (l31_4) rfl rfl) rfl rfl) (rk_s) H O (SF_trans (hS_31) (SF_glu (ι := [3]) hS14 eF14 (by decide +kernel)) (any_sub (l' := []) rfl)) (SA_trans (SA_upd (hA_31) rfl) (SA_glu (ι := [3]) hA14 eA14 (by decide +kernel)) (any_subA (l' := [3]) rfl))    (upd1 (w31_2) (x31_5) (z11)) (((show A14 2 = (updA A_31 2 (x31_5) (z11)) 2 from (eA14 2))).trans (congrArg (fun q => upd1 q (x31_5) (z11)) (ew31_2))) (w14_0) ((eA14 3).trans ew14_0) (show inr ((x31_1 + p2 ((x4_2 - 1)))) by omega) (show inr ((x31_5 + 1)) by omega) (show (0) ≤ ((x31_5 + 1)) by omega) (show ((x31_5 + 1)) ≤ (0) ∨ ((x31_5 + 1)) ≤ ((256)) by omega) (show 0 ≤ ((x31_1 + p2 ((x4_2 - 1)))) ∧ ((x31_1 + p2 ((x4_2 - 1)))) ≤ 2048 by omega) (show CEL ((w14_0)) by assumption) (show CLI ((w1)) ((u0_3)) ((x4_2)) (((x31_5 + 1))) (((x31_1 + p2 ((x4_2 - 1))))) ((w14_0)) ((upd1 (w31_2) (x31_5) (z11))) by assumption) rfl
abbrev V109 : vV := [(0, 3, [(4, 0), (4, 0), (4, 0), (0, 0), (4, 0), (4, 0), (4, 0), (4, 0), (4, 0), (4, 0), (4, 0), (4, 0), (4, 0), (0, 0), (0, 0), (0, 0), (0, 0)]), (1, 1, []), (1, 1, []), (1, 1, []), (1, 1, [])]
set_option maxHeartbeats 16000000 in
/-- Codes.complete: this, this.weights, this.lengths, this.codes, this.cells -/
theorem C109 {σE : rS} {D N : Nat → Nat} {F : hF} {A : hA} {d c s : Nat} {Q : wQ} (H : HW V109 σE D N F A) {a1 : Int} (pf1 : F 0 4 = (D 1 : Int)) (pf2 : F 0 0 = (D 2 : Int)) (pf3 : F 0 1 = (D 3 : Int)) (pf4 : F 0 2 = (D 4 : Int)) (n1 : Int) (en1 : (N 1 : Int) = n1) (n2 : Int) (en2 : (N 2 : Int) = n2) (n3 : Int) (en3 : (N 3 : Int) = n3) (n4 : Int) (en4 : (N 4 : Int) = n4) (u0_3 : Int) (eu0_3 : F 0 3 = u0_3) (w1 : Int → Int) (ew1 : A 1 = w1) (w2 : Int → Int) (ew2 : A 2 = w2) (w3 : Int → Int) (ew3 : A 3 = w3) (w4 : Int → Int) (ew4 : A 4 = w4) (h0 : inr (a1)) (h1 : (n1) = 256 ∧ (n2) = 256 ∧ (n3) = 256 ∧ (n4) = 2048) (h2 : 1 ≤ (a1) ∧ (a1) ≤ 255) (h3 : WTS ((w1)) (a1)) (h4 : CEL ((w4))) (k : ∀ (z : Int) (σ : rS) (F' : hF) (A' : hA), HW V109 σ D N F' A' → OUT (V109).length D N σE c s D N σ c s → SF [(0, 3)] F F' → SA [1, 2, 3, 4] A A' → ∀ y0_3 : Int, F' 0 3 = y0_3 → ∀ v2 : Int → Int, A' 2 = v2 → ∀ v3 : Int → Int, A' 3 = v3 → ∀ v4 : Int → Int, A' 4 = v4 → ((z) = 0 ∨ (z) = 1) → ((z) = 0 ∨ 0 ≤ (y0_3) ∧ (y0_3) ≤ 11) → ((z) = 0 ∨ LNG ((v2)) ((y0_3))) → (CEL ((v4))) → (CMA ((w1)) ((a1)) ((z)) ((y0_3)) ((v2))) → (IMP ((z) = 1) (CI ((v2)) ((y0_3)))) → (IMP ((z) = 1) (CDX ((v2)) ((y0_3)) ((v4)) ((v3)))) → Q (some (I z)) σ c s) : Ew 109 (d + 3) 0 (rargs 0 [.ref (D 0), I a1]) [] σE c s Q := by
  have O := OUT_refl (n := (V109).length) (D := D) (N := N) (σ := σE) (c := c) (s := s)
  have HE := H
  have r1 : (-2147483648 : Int) ≤ u0_3 ∧ u0_3 ≤ 2147483647 := by have h1 : (-2147483648 : Int) ≤ F 0 3 ∧ F 0 3 ≤ 2147483647 := H.krg 0 3 (by decide); rw [show F 0 3 = u0_3 from (eu0_3)] at h1; exact h1
  have r2 : (0 : Int) ≤ n1 ∧ n1 ≤ 1000000 := by have h1 := H.nle 1 (by decide); have h2 : (N 1 : Int) = n1 := en1; omega
  have r3 : (0 : Int) ≤ n2 ∧ n2 ≤ 1000000 := by have h1 := H.nle 2 (by decide); have h2 : (N 2 : Int) = n2 := en2; omega
  have r4 : (0 : Int) ≤ n3 ∧ n3 ≤ 1000000 := by have h1 := H.nle 3 (by decide); have h2 : (N 3 : Int) = n3 := en3; omega
  have r5 : (0 : Int) ≤ n4 ∧ n4 ≤ 1000000 := by have h1 := H.nle 4 (by decide); have h2 : (N 4 : Int) = n4 := en4; omega
  have hwt : WTS ((w1)) (a1) := by assumption
  refine Ew_of (pc' := 1) (fun _ => x_iconst rfl) ?_
  refine Ew_of (pc' := 2) (fun _ => x_istore_n rfl) ?_
  refine Ew_of (pc' := 3) (fun _ => x_iconst rfl) ?_
  refine Ew_of (pc' := 4) (fun _ => x_istore_n rfl) ?_
  refine Ew_of (pc' := 5) (fun _ => x_iconst rfl) ?_
  refine Ew_of (pc' := 7) (fun _ => x_istore rfl) ?_
  have hw0 : WSM ((w1)) 0 0 := fun i a b => by omega
  have : su (fun i => wk (((w1)) i)) (0 : Int).toNat = 0 := rfl
  have : su (fun i => on1 (((w1)) i)) (0 : Int).toNat = 0 := rfl
  suffices hl7 : ∀ (m : Nat), ∀ (ls : rO) (σ : rS) (F_7 : hF) (A_7 : hA) (x7_2 : Int) (x7_3 : Int) (x7_4 : Int), rlook ls 0 = some (.ref (D 0)) → rlook ls 1 = some (I (a1)) → rlook ls 2 = some (I (x7_2)) → rlook ls 3 = some (I (x7_3)) → rlook ls 4 = some (I (x7_4)) → HW V109 σ D N F_7 A_7 → OUT (V109).length D N σE c s D N σ c s → SF [] F F_7 → SA [] A A_7 → (inr (x7_2)) → (inr (x7_3)) → (inr (x7_4)) → ((0) ≤ (x7_4)) → ((x7_4) ≤ (0) ∨ (x7_4) ≤ ((a1))) → (0 ≤ (x7_2) ∧ (x7_2) ≤ 16384 * (x7_4)) → (0 ≤ (x7_3) ∧ (x7_3) ≤ (x7_4)) → (WSM ((w1)) (x7_4) (x7_2)) → ((x7_2) = su (fun i => wk (((w1)) i)) ((x7_4) : Int).toNat) → ((x7_3) = su (fun i => on1 (((w1)) i)) ((x7_4) : Int).toNat) → (((a1)) - (x7_4)).toNat = m → Ew 109 (d + 3) 7 ls [] σ c s Q from
    hl7 _ _ _ _ _ (0) (0) (0) (rk_o (rk_o (rk_o (rfl) rfl rfl) rfl rfl) rfl rfl) (rk_o (rk_o (rk_o (rfl) rfl rfl) rfl rfl) rfl rfl) (rk_o (rk_o (rk_s) rfl rfl) rfl rfl) (rk_o (rk_s) rfl rfl) (rk_s) H O (SF_refl) (SA_refl)     (show inr (0) by omega) (show inr (0) by omega) (show inr (0) by omega) (show (0) ≤ (0) by omega) (show (0) ≤ (0) ∨ (0) ≤ ((a1)) by omega) (show 0 ≤ (0) ∧ (0) ≤ 16384 * (0) by omega) (show 0 ≤ (0) ∧ (0) ≤ (0) by omega) (show WSM ((w1)) (0) (0) by assumption) (show (0) = su (fun i => wk (((w1)) i)) ((0) : Int).toNat by omega) (show (0) = su (fun i => on1 (((w1)) i)) ((0) : Int).toNat by omega) rfl
  as_aux_lemma =>
  intro m
  induction m using Nat.strongRecOn with
  | _ m ih7 =>
    intro ls σ F_7 A_7 x7_2 x7_3 x7_4 l7_0 l7_1 l7_2 l7_3 l7_4 H O hS_7 hA_7     j7_0 j7_1 j7_2 j7_3 j7_4 j7_5 j7_6 j7_7 j7_8 j7_9 hm7
    refine Ew_of (pc' := 9) (fun _ => x_iload rfl l7_4) ?_
    refine Ew_of (pc' := 10) (fun _ => x_iload_n rfl l7_1) ?_
    refine w_icmpge (t := 66) rfl rfl (show inr (x7_4) by omega) (show inr (a1) by omega) (fun b6 => ?_) (fun b6 => ?_)
    · have hl4 : (x7_4) = (a1) := by omega
      have hws : WSM ((w1)) (a1) (x7_2) := by rw [← hl4]; assumption
      obtain ⟨q2, hq2⟩ : ∃ q : Int, q = (x7_2) := ⟨_, rfl⟩
      have hsm : q2 = su (fun i => wk (((w1)) i)) ((a1) : Int).toNat := by rw [← hl4]; omega
      obtain ⟨q3, hq3⟩ : ∃ q : Int, q = (x7_3) := ⟨_, rfl⟩
      have hon_ : q3 = su (fun i => on1 (((w1)) i)) ((a1) : Int).toNat := by rw [← hl4]; omega
      refine Ew_of (pc' := 67) (fun _ => x_iload_n rfl l7_2) ?_
      refine w_ifeq (t := 77) rfl rfl (show inr (x7_2) by omega) (fun b7 => ?_) (fun b7 => ?_)
      · have hno : (0 : Int) = 0 ∨ LNG ((w2)) ((u0_3)) := .inl rfl
        have : CMA ((w1)) ((a1)) (0) ((u0_3)) ((w2)) := fun I a e h => ⟨fun _ T2 g2 => by first | exact DSA_0 h hsm (by omega) rfl | exact DSA_t h hsm (by omega) rfl, fun z => absurd rfl z⟩
        have : IMP ((0 : Int) = 1) (CI ((w2)) ((u0_3))) := fun z => absurd z (by decide)
        have : IMP ((0 : Int) = 1) (CDX ((w2)) ((u0_3)) ((w4)) ((w3))) := fun z => absurd z (by decide)
        refine Ew_of (pc' := 78) (fun _ => x_iconst rfl) ?_
        exact w_ireturn rfl (k (0) _ _ _ H O (SF_trans (SF_refl) hS_7 (any_sub rfl)) (SA_trans (SA_refl) hA_7 (any_subA rfl)) (u0_3) (((hS_7 0 3 rfl).trans (eu0_3))) (w2) ((funext (hA_7 2 rfl)).trans (ew2)) (w3) ((funext (hA_7 3 rfl)).trans (ew3)) (w4) ((funext (hA_7 4 rfl)).trans (ew4)) (show (0) = 0 ∨ (0) = 1 by omega) (show (0) = 0 ∨ 0 ≤ (u0_3) ∧ (u0_3) ≤ 11 by omega) (show (0) = 0 ∨ LNG ((w2)) ((u0_3)) by assumption) (show CEL ((w4)) by assumption) (show CMA ((w1)) (a1) ((0)) ((u0_3)) ((w2)) by assumption) (show IMP ((0) = 1) (CI ((w2)) ((u0_3))) by assumption) (show IMP ((0) = 1) (CDX ((w2)) ((u0_3)) ((w4)) ((w3))) by assumption))
      · refine Ew_of (pc' := 71) (fun _ => x_iload_n rfl l7_2) ?_
        refine Ew_of (pc' := 74) (fun _ => x_sipush (z := 2048) rfl (by decide)) ?_
        refine w_icmplt (t := 79) rfl rfl (show inr (x7_2) by omega) (show inr (2048) by omega) (fun b8 => ?_) (fun b8 => ?_)
        · refine Ew_of (pc' := 80) (fun _ => x_aload_n rfl l7_0) ?_
          refine Ew_of (pc' := 81) (fun _ => x_iload_n rfl l7_2) ?_
          refine w_stat25 rfl rfl (by rfl) (C45 (D := pul [] D) (N := pul [] N) (HW_sub H (VS_of (show vsub V109 V45 [] = true by decide +kernel))) (show inr (x7_2) by omega) (show 1 ≤ (x7_2) by omega) (fun z9 σ9 F9' A9' H' O' hS9 hA9 pz9_0 pz9_1 pz9_2 => ⟨rfl, ?_⟩))
          refine v_back (c := c) (s := s) H (show vsub V109 V45 [] = true by decide +kernel) H' O' (fun F9 A9 H O' eF9 eA9 => ?_)
          have O := OUT_trans O O'
          -- PackHouse.highestBit
          have h10 : z9 < 11 := p2_lt (by omega) (by rw [show p2 11 = 2048 from by decide]; omega)
          have hps := p2_s (y := z9) (by omega)
          have hp11 : p2 (z9) ≤ p2 10 := p2_mono (by omega)
          have hp12 : p2 10 = 1024 := by decide
          refine Ew_of (pc' := 85) (fun _ => x_iconst rfl) ?_
          refine w_iadd rfl ?_
          refine v_p H (o := 0) (z := (z9 + 1)) (v := I ((z9 + 1))) rfl rfl rfl rfl rfl rfl rfl rfl (show (-2147483648 : Int) ≤ (z9 + 1) ∧ (z9 + 1) ≤ 2147483647 by omega) (fun σ H O' => ?_)
          have O := OUT_trans O O'
          refine Ew_of (pc' := 90) (fun _ => x_iconst rfl) ?_
          refine Ew_of (pc' := 91) (fun _ => x_aload_n rfl l7_0) ?_
          refine v_g H (o := 0) (v := I ((z9 + 1))) rfl rfl rfl rfl rfl (congrArg (fun z : Int => I z) (rfl : (updF F9 0 3 ((z9 + 1))) 0 3 = (z9 + 1))) ?_
          refine w_ishl1 rfl (show 0 ≤ (z9 + 1) ∧ (z9 + 1) ≤ 31 by omega) ?_
          refine Ew_of (pc' := 96) (fun _ => x_iload_n rfl l7_2) ?_
          refine w_isub rfl ?_
          refine Ew_of (pc' := 99) (fun _ => x_istore rfl) ?_
          refine Ew_of (pc' := 100) (fun _ => x_iload_n rfl (rk_o (l7_3) rfl rfl)) ?_
          refine Ew_of (pc' := 102) (fun _ => x_iload rfl rk_s) ?_
          refine Ew_of (pc' := 103) (fun _ => x_iconst rfl) ?_
          have hc111 : ∀ (tc111_0 : Int), ∀ (ls : rO) (σ : rS) (F_c111 : hF) (A_c111 : hA) , rlook ls 0 = some (.ref (D 0)) → rlook ls 1 = some (I (a1)) → rlook ls 4 = some (I ((p2 ((z9 + 1)) - x7_2))) → HW V109 σ D N F_c111 A_c111 → OUT (V109).length D N σE c s D N σ c s → SF [] (updF F9 0 3 ((z9 + 1))) F_c111 → SA [] A9 A_c111 → (inr (tc111_0)) → ((((p2 ((z9 + 1)) - x7_2)) ≠ (1) ∧ (tc111_0) = (0)) ∨ (((p2 ((z9 + 1)) - x7_2)) = (1) ∧ (tc111_0) = (1))) → Ew 109 (d + 3) 111 ls [I (tc111_0), I (x7_3)] σ c s Q := by
           as_aux_lemma =>
            intro tc111_0 ls σ F_c111 A_c111  lc111_0 lc111_1 lc111_4 H O hS_c111 hA_c111     jc111_0 jc111_1
            refine w_iadd rfl ?_
            refine Ew_of (pc' := 113) (fun _ => x_istore_n rfl) ?_
            refine Ew_of (pc' := 115) (fun _ => x_iload rfl (rk_o (lc111_4) rfl rfl)) ?_
            refine Ew_of (pc' := 117) (fun _ => x_iload rfl (rk_o (lc111_4) rfl rfl)) ?_
            refine Ew_of (pc' := 118) (fun _ => x_iconst rfl) ?_
            refine w_isub rfl ?_
            refine w_iandE rfl (show inr ((p2 ((z9 + 1)) - x7_2)) by omega) (show inr (((p2 ((z9 + 1)) - x7_2) - 1)) by omega) (fun z11 gz11 gaz11 gbz11 gez11 => ?_)
            have hge := gez11
            obtain ⟨q4, hq4⟩ : ∃ q : Int, q = ((p2 ((z9 + 1)) - x7_2)) := ⟨_, rfl⟩
            refine w_ifne (t := 128) rfl rfl (show inr (z11) by omega) (fun b12 => ?_) (fun b12 => ?_)
            · have hno : (0 : Int) = 0 ∨ LNG ((w2)) (((z9 + 1))) := .inl rfl
              have : CMA ((w1)) ((a1)) (0) (((z9 + 1))) ((w2)) := fun I a e h => ⟨fun _ T2 g2 => by first | exact DSA_p (k := z9) (rest := ((p2 ((z9 + 1)) - x7_2))) h hsm (by omega) (by omega) (by omega) (fun q => absurd (((and_pow (by omega)).mpr q).symm.trans hge) (by omega)) (by first | rfl | omega) rfl | exact DSA_o (k := z9) (ones := q3) (rest := ((p2 ((z9 + 1)) - x7_2))) h hsm hon_ (by omega) (by omega) (by omega) (by first | rfl | omega) (by omega) rfl, fun z => absurd rfl z⟩
              have : IMP ((0 : Int) = 1) (CI ((w2)) (((z9 + 1)))) := fun z => absurd z (by decide)
              have : IMP ((0 : Int) = 1) (CDX ((w2)) (((z9 + 1))) ((w4)) ((w3))) := fun z => absurd z (by decide)
              refine Ew_of (pc' := 129) (fun _ => x_iconst rfl) ?_
              exact w_ireturn rfl (k (0) _ _ _ H O (SF_trans (SF_upd (SF_trans (SF_trans (SF_refl) hS_7 (any_sub rfl)) (SF_glu (ι := []) hS9 eF9 (by decide +kernel)) (any_sub (l' := []) rfl)) rfl) hS_c111 (any_sub rfl)) (SA_trans (SA_trans (SA_trans (SA_refl) hA_7 (any_subA rfl)) (SA_glu (ι := []) hA9 eA9 (by decide +kernel)) (any_subA (l' := []) rfl)) hA_c111 (any_subA rfl)) ((z9 + 1)) ((hS_c111 0 3 rfl)) (w2) ((funext (hA_c111 2 rfl)).trans (((show A9 2 = A_7 2 from (eA9 2))).trans ((funext (hA_7 2 rfl)).trans (ew2)))) (w3) ((funext (hA_c111 3 rfl)).trans (((show A9 3 = A_7 3 from (eA9 3))).trans ((funext (hA_7 3 rfl)).trans (ew3)))) (w4) ((funext (hA_c111 4 rfl)).trans (((show A9 4 = A_7 4 from (eA9 4))).trans ((funext (hA_7 4 rfl)).trans (ew4)))) (show (0) = 0 ∨ (0) = 1 by omega) (show (0) = 0 ∨ 0 ≤ ((z9 + 1)) ∧ ((z9 + 1)) ≤ 11 by omega) (show (0) = 0 ∨ LNG ((w2)) (((z9 + 1))) by assumption) (show CEL ((w4)) by assumption) (show CMA ((w1)) (a1) ((0)) (((z9 + 1))) ((w2)) by assumption) (show IMP ((0) = 1) (CI ((w2)) (((z9 + 1)))) by assumption) (show IMP ((0) = 1) (CDX ((w2)) (((z9 + 1))) ((w4)) ((w3))) by assumption))
            · refine Ew_of (pc' := 124) (fun _ => x_iload_n rfl rk_s) ?_
              refine Ew_of (pc' := 125) (fun _ => x_iconst rfl) ?_
              refine w_icmpge (t := 130) rfl rfl (show inr ((x7_3 + tc111_0)) by omega) (show inr (2) by omega) (fun b13 => ?_) (fun b13 => ?_)
              · refine Ew_of (pc' := 131) (fun _ => x_aload_n rfl (rk_o (lc111_0) rfl rfl)) ?_
                refine v_g H (o := 0) (v := .ref (D 1)) rfl rfl rfl rfl rfl (vrf (((((hS_c111 0 4 rfl).trans ((show F9 0 4 = F_7 0 4 from (eF9 0 4)))).trans (hS_7 0 4 rfl))).trans (pf1))) ?_
                refine Ew_of (pc' := 135) (fun _ => x_iload_n rfl (rk_o (lc111_1) rfl rfl)) ?_
                refine Ew_of (pc' := 137) (fun _ => x_iload rfl (rk_o (lc111_4) rfl rfl)) ?_
                refine w_stat25 rfl rfl (by rfl) (C45 (D := pul [] D) (N := pul [] N) (HW_sub H (VS_of (show vsub V109 V45 [] = true by decide +kernel))) (show inr ((p2 ((z9 + 1)) - x7_2)) by omega) (show 1 ≤ ((p2 ((z9 + 1)) - x7_2)) by omega) (fun z14 σ14 F14' A14' H' O' hS14 hA14 pz14_0 pz14_1 pz14_2 => ⟨rfl, ?_⟩))
                refine v_back (c := c) (s := s) H (show vsub V109 V45 [] = true by decide +kernel) H' O' (fun F14 A14 H O' eF14 eA14 => ?_)
                have O := OUT_trans O O'
                -- PackHouse.highestBit
                have hle : z14 < z9 + 1 := p2_lt (by omega) (by omega)
                have hip : IP (((p2 ((z9 + 1)) - x7_2))) := (and_pow (by omega)).mp (hge.trans (by omega))
                have hrr : p2 (z14) = ((p2 ((z9 + 1)) - x7_2)) := IP_eq hip (by omega) (by omega) (by omega)
                have hds := desc_ok (w := ((w1))) (n := (a1)) (sum := q2) (z := z9) (r := z14) (by omega) hsm (by omega) (by omega) (by omega) (by omega) (by omega)
                have hou := on1_upd (w := ((w1))) (n := (a1)) (v := z14 + 1) (by omega)
                have hoo := on1_eq (z14 + 1)
                have hr1 : z14 = 0 ∧ ((p2 ((z9 + 1)) - x7_2)) = 1 ∨ 1 ≤ z14 ∧ 2 ≤ ((p2 ((z9 + 1)) - x7_2)) := by rcases (show z14 = 0 ∨ 1 ≤ z14 by omega) with z | z; (exact .inl ⟨z, by rw [← hrr, z]; decide⟩); (exact .inr ⟨z, by rw [← hrr]; have := p2_mono (x := 1) (y := z14) z; rw [show p2 1 = 2 by decide] at this; exact this⟩)
                have hci := CI_of (w := upd1 ((w1)) (a1) (z14 + 1)) (n := (a1)) (t := z9 + 1) (by omega) (by omega) (by omega) (by omega) hds.2.1 hds.2.2 (by omega)
                refine Ew_of (pc' := 141) (fun _ => x_iconst rfl) ?_
                refine w_iadd rfl ?_
                have hwg : WGB (upd1 ((w1)) (a1) (((z14 + 1)))) (((z9 + 1))) ((a1) + 1) := WGB_of hwt hws (by omega) (by omega) (by omega) rfl
                refine v_sI H (o := 1) (z := (z14 + 1)) rfl rfl rfl rfl (n := n1) (en1) (show 0 ≤ a1 ∧ a1 < n1 by omega) (show inr ((z14 + 1)) by omega) (fun σ H O' => ?_)
                have O := OUT_trans O O'
                refine Ew_of (pc' := 144) (fun _ => x_aload_n rfl (rk_o (lc111_0) rfl rfl)) ?_
                refine v_g H (o := 0) (v := .ref (D 2)) rfl rfl rfl rfl rfl (vrf (((((((show F14 0 0 = F_c111 0 0 from (eF14 0 0))).trans (hS_c111 0 0 rfl)).trans ((show F9 0 0 = F_7 0 0 from (eF9 0 0)))).trans (hS_7 0 0 rfl))).trans (pf2))) ?_
                refine Ew_of (pc' := 148) (fun _ => x_iconst rfl) ?_
                refine v_fil H (t := 2) (v := 0) rfl rfl rfl rfl rfl (show inr (0) by omega) (fun σ A15 H O' hA15 ga15 => ?_)
                have O := OUT_trans O O'
                refine Ew_of (pc' := 152) (fun _ => x_iconst rfl) ?_
                refine Ew_of (pc' := 154) (fun _ => x_istore rfl) ?_
                have hl0 : LNG ((A15 2)) (((z9 + 1))) := fun s a b => by rw [ga15 s]; omega
                have : LWI ((A15 2)) ((upd1 (w1) (a1) ((z14 + 1)))) ((a1)) (((z9 + 1))) 0 := LWI_0 (fun i => ga15 i)
                suffices hl154 : ∀ (m : Nat), ∀ (ls : rO) (σ : rS) (F_154 : hF) (A_154 : hA) (x154_5 : Int), rlook ls 0 = some (.ref (D 0)) → rlook ls 1 = some (I (a1)) → rlook ls 5 = some (I (x154_5)) → HW V109 σ D N F_154 A_154 → OUT (V109).length D N σE c s D N σ c s → SF [] F14 F_154 → SA [2] A15 A_154 → ∀ w154_2 : Int → Int, A_154 2 = w154_2 → (inr (x154_5)) → ((0) ≤ (x154_5)) → ((x154_5) ≤ (0) ∨ (x154_5) ≤ (((a1) + 1))) → (LNG ((w154_2)) (((z9 + 1)))) → (LWI ((w154_2)) ((upd1 (w1) (a1) ((z14 + 1)))) ((a1)) (((z9 + 1))) ((x154_5))) → ((((a1) + 1)) - (x154_5)).toNat = m → Ew 109 (d + 3) 154 ls [] σ c s Q from
                  hl154 _ _ _ _ _ (0) (rk_o (rk_o (lc111_0) rfl rfl) rfl rfl) (rk_o (rk_o (lc111_1) rfl rfl) rfl rfl) (rk_s) H O (SF_refl) (SA_refl)    (A15 2) (rfl) (show inr (0) by omega) (show (0) ≤ (0) by omega) (show (0) ≤ (0) ∨ (0) ≤ (((a1) + 1)) by omega) (show LNG ((A15 2)) (((z9 + 1))) by assumption) (show LWI ((A15 2)) ((upd1 (w1) (a1) ((z14 + 1)))) ((a1)) (((z9 + 1))) ((0)) by assumption) rfl
                as_aux_lemma =>
                intro m
                induction m using Nat.strongRecOn with
                | _ m ih154 =>
                  intro ls σ F_154 A_154 x154_5 l154_0 l154_1 l154_5 H O hS_154 hA_154    w154_2 ew154_2 j154_0 j154_1 j154_2 j154_3 j154_4 hm154
                  have j154_w : LWI ((w154_2)) ((upd1 (w1) (a1) ((z14 + 1)))) ((a1)) (((z9 + 1))) ((x154_5)) := by assumption
                  refine Ew_of (pc' := 156) (fun _ => x_iload rfl l154_5) ?_
                  refine Ew_of (pc' := 157) (fun _ => x_iload_n rfl l154_1) ?_
                  refine w_icmpgt (t := 201) rfl rfl (show inr (x154_5) by omega) (show inr (a1) by omega) (fun b16 => ?_) (fun b16 => ?_)
                  · have hlw_ := LWI_e j154_w (by omega)
                    have hcl : CI ((w154_2)) (((z9 + 1))) := CI_congr hci (fun i a b => hlw_ i a b)
                    refine Ew_of (pc' := 202) (fun _ => x_aload_n rfl l154_0) ?_
                    refine v_inv H (o := 0) rfl rfl rfl rfl rfl rfl (by rfl) (C103 (D := pul [0, 2, 3, 4] D) (N := pul [0, 2, 3, 4] N) (HW_sub H (VS_of (show vsub V109 V103 [0, 2, 3, 4] = true by decide +kernel))) (((((((hS_154 0 0 rfl).trans ((show F14 0 0 = F_c111 0 0 from (eF14 0 0)))).trans (hS_c111 0 0 rfl)).trans ((show F9 0 0 = F_7 0 0 from (eF9 0 0)))).trans (hS_7 0 0 rfl))).trans (pf2)) (((((((hS_154 0 1 rfl).trans ((show F14 0 1 = F_c111 0 1 from (eF14 0 1)))).trans (hS_c111 0 1 rfl)).trans ((show F9 0 1 = F_7 0 1 from (eF9 0 1)))).trans (hS_7 0 1 rfl))).trans (pf3)) (((((((hS_154 0 2 rfl).trans ((show F14 0 2 = F_c111 0 2 from (eF14 0 2)))).trans (hS_c111 0 2 rfl)).trans ((show F9 0 2 = F_7 0 2 from (eF9 0 2)))).trans (hS_7 0 2 rfl))).trans (pf4)) (n2) (en2) (n3) (en3) (n4) (en4) ((z9 + 1)) ((((hS_154 0 3 rfl).trans ((show F14 0 3 = F_c111 0 3 from (eF14 0 3)))).trans (hS_c111 0 3 rfl))) (w154_2) (ew154_2) (w3) ((funext (hA_154 3 rfl)).trans ((funext (hA15 3 rfl)).trans (((show A14 3 = A_c111 3 from (eA14 3))).trans ((funext (hA_c111 3 rfl)).trans (((show A9 3 = A_7 3 from (eA9 3))).trans ((funext (hA_7 3 rfl)).trans (ew3))))))) (w4) ((funext (hA_154 4 rfl)).trans ((funext (hA15 4 rfl)).trans (((show A14 4 = A_c111 4 from (eA14 4))).trans ((funext (hA_c111 4 rfl)).trans (((show A9 4 = A_7 4 from (eA9 4))).trans ((funext (hA_7 4 rfl)).trans (ew4))))))) (show (n2) = 256 ∧ (n3) = 256 ∧ (n4) = 2048 by omega) (show 0 ≤ (((z9 + 1))) ∧ (((z9 + 1))) ≤ 11 by omega) (show LNG ((w154_2)) (((z9 + 1))) by assumption) (show CEL ((w4)) by assumption) (fun σ17 F17' A17' H' O' hS17 hA17 w17_2 ew17_2 w17_3 ew17_3 pz17_0 pz17_1 => ⟨rfl, ?_⟩))
                    refine v_back (c := c) (s := s) H (show vsub V109 V103 [0, 2, 3, 4] = true by decide +kernel) H' O' (fun F17 A17 H O' eF17 eA17 => ?_)
                    have O := OUT_trans O O'
                    -- Codes.lay
                    refine Ew_of (pc' := 206) (fun _ => x_iconst rfl) ?_
                    have hye : (1 : Int) = 0 ∨ LNG ((w154_2)) (((z9 + 1))) := .inr (by assumption)
                    have : IMP ((1 : Int) = 1) (CI ((w154_2)) (((z9 + 1)))) := fun _ => hcl
                    have : IMP ((1 : Int) = 1) (CDX ((w154_2)) (((z9 + 1))) ((w17_3)) ((w17_2))) := fun _ => pz17_1
                    have : CMA ((w1)) ((a1)) (1) (((z9 + 1))) ((w154_2)) := fun I a e h => ⟨fun z => absurd z (by decide), fun _ => DSA_y (k := z9) (r := z14) (ones := q3) (rest := q4) h hsm hon_ (by omega) (by omega) (by omega) (by omega) (by omega) (by omega) (by omega) (by omega) rfl (by omega) hlw_⟩
                    exact w_ireturn rfl (k (1) _ _ _ H O (SF_trans (SF_trans (SF_trans (SF_trans (SF_upd (SF_trans (SF_trans (SF_refl) hS_7 (any_sub rfl)) (SF_glu (ι := []) hS9 eF9 (by decide +kernel)) (any_sub (l' := []) rfl)) rfl) hS_c111 (any_sub rfl)) (SF_glu (ι := []) hS14 eF14 (by decide +kernel)) (any_sub (l' := []) rfl)) hS_154 (any_sub rfl)) (SF_glu (ι := [0, 2, 3, 4]) hS17 eF17 (by decide +kernel)) (any_sub (l' := []) rfl)) (SA_trans (SA_trans (SA_trans (SA_upd (SA_trans (SA_trans (SA_trans (SA_trans (SA_refl) hA_7 (any_subA rfl)) (SA_glu (ι := []) hA9 eA9 (by decide +kernel)) (any_subA (l' := []) rfl)) hA_c111 (any_subA rfl)) (SA_glu (ι := []) hA14 eA14 (by decide +kernel)) (any_subA (l' := []) rfl)) rfl) hA15 (any_subA rfl)) hA_154 (any_subA rfl)) (SA_glu (ι := [0, 2, 3, 4]) hA17 eA17 (by decide +kernel)) (any_subA (l' := [3, 4]) rfl)) ((z9 + 1)) ((((((show F17 0 3 = F_154 0 3 from (eF17 0 3).trans (hS17 0 3 rfl))).trans (hS_154 0 3 rfl)).trans ((show F14 0 3 = F_c111 0 3 from (eF14 0 3)))).trans (hS_c111 0 3 rfl))) (w154_2) (((show A17 2 = A_154 2 from (eA17 2).trans (funext (hA17 1 rfl)))).trans (ew154_2)) (w17_2) ((eA17 3).trans ew17_2) (w17_3) ((eA17 4).trans ew17_3) (show (1) = 0 ∨ (1) = 1 by omega) (show (1) = 0 ∨ 0 ≤ ((z9 + 1)) ∧ ((z9 + 1)) ≤ 11 by omega) (show (1) = 0 ∨ LNG ((w154_2)) (((z9 + 1))) by assumption) (show CEL ((w17_3)) by assumption) (show CMA ((w1)) (a1) ((1)) (((z9 + 1))) ((w154_2)) by assumption) (show IMP ((1) = 1) (CI ((w154_2)) (((z9 + 1)))) by assumption) (show IMP ((1) = 1) (CDX ((w154_2)) (((z9 + 1))) ((w17_3)) ((w17_2))) by assumption))
                  · have hwx := hwg ((x154_5)) (by omega) (by omega)
                    have hlwe := lw_eq ((upd1 (w1) (a1) ((z14 + 1)))) ((a1)) (((z9 + 1))) ((x154_5))
                    refine Ew_of (pc' := 161) (fun _ => x_aload_n rfl l154_0) ?_
                    refine v_g H (o := 0) (v := .ref (D 2)) rfl rfl rfl rfl rfl (vrf (((((((hS_154 0 0 rfl).trans ((show F14 0 0 = F_c111 0 0 from (eF14 0 0)))).trans (hS_c111 0 0 rfl)).trans ((show F9 0 0 = F_7 0 0 from (eF9 0 0)))).trans (hS_7 0 0 rfl))).trans (pf2))) ?_
                    refine Ew_of (pc' := 166) (fun _ => x_iload rfl l154_5) ?_
                    refine Ew_of (pc' := 167) (fun _ => x_aload_n rfl l154_0) ?_
                    refine v_g H (o := 0) (v := .ref (D 1)) rfl rfl rfl rfl rfl (vrf (((((((hS_154 0 4 rfl).trans ((show F14 0 4 = F_c111 0 4 from (eF14 0 4)))).trans (hS_c111 0 4 rfl)).trans ((show F9 0 4 = F_7 0 4 from (eF9 0 4)))).trans (hS_7 0 4 rfl))).trans (pf1))) ?_
                    refine Ew_of (pc' := 172) (fun _ => x_iload rfl l154_5) ?_
                    refine v_lI H (o := 1) rfl rfl rfl rfl (n := n1) (en1) (show 0 ≤ x154_5 ∧ x154_5 < n1 by omega) (fun v18 ev18 qv18 => ?_)
                    have ev18 : (upd1 (w1) (a1) ((z14 + 1))) (x154_5) = v18 := (congrFun ((funext (hA_154 1 rfl)).trans ((funext (hA15 1 rfl)).trans (congrArg (fun q => upd1 q (a1) ((z14 + 1))) (((show A14 1 = A_c111 1 from (eA14 1))).trans ((funext (hA_c111 1 rfl)).trans (((show A9 1 = A_7 1 from (eA9 1))).trans ((funext (hA_7 1 rfl)).trans (ew1)))))))) (x154_5)).symm.trans ev18
                    refine w_ifne (t := 180) rfl rfl (show inr (v18) by omega) (fun b19 => ?_) (fun b19 => ?_)
                    · refine Ew_of (pc' := 181) (fun _ => x_aload_n rfl l154_0) ?_
                      refine v_g H (o := 0) (v := I ((z9 + 1))) rfl rfl rfl rfl rfl (congrArg (fun z : Int => I z) ((((hS_154 0 3 rfl).trans ((show F14 0 3 = F_c111 0 3 from (eF14 0 3)))).trans (hS_c111 0 3 rfl)) : F_154 0 3 = (z9 + 1))) ?_
                      refine Ew_of (pc' := 185) (fun _ => x_iconst rfl) ?_
                      refine w_iadd rfl ?_
                      refine Ew_of (pc' := 187) (fun _ => x_aload_n rfl l154_0) ?_
                      refine v_g H (o := 0) (v := .ref (D 1)) rfl rfl rfl rfl rfl (vrf (((((((hS_154 0 4 rfl).trans ((show F14 0 4 = F_c111 0 4 from (eF14 0 4)))).trans (hS_c111 0 4 rfl)).trans ((show F9 0 4 = F_7 0 4 from (eF9 0 4)))).trans (hS_7 0 4 rfl))).trans (pf1))) ?_
                      refine Ew_of (pc' := 192) (fun _ => x_iload rfl l154_5) ?_
                      refine v_lI H (o := 1) rfl rfl rfl rfl (n := n1) (en1) (show 0 ≤ x154_5 ∧ x154_5 < n1 by omega) (fun v20 ev20 qv20 => ?_)
                      have ev20 : (upd1 (w1) (a1) ((z14 + 1))) (x154_5) = v20 := (congrFun ((funext (hA_154 1 rfl)).trans ((funext (hA15 1 rfl)).trans (congrArg (fun q => upd1 q (a1) ((z14 + 1))) (((show A14 1 = A_c111 1 from (eA14 1))).trans ((funext (hA_c111 1 rfl)).trans (((show A9 1 = A_7 1 from (eA9 1))).trans ((funext (hA_7 1 rfl)).trans (ew1)))))))) (x154_5)).symm.trans ev20
                      refine w_isub rfl ?_
                      have hsb : 0 ≤ (((((z9 + 1) + 1) - v20)) : Int) ∧ (((((z9 + 1) + 1) - v20)) : Int) ≤ (((z9 + 1))) := by omega
                      have hlv : ((((z9 + 1) + 1) - v20)) = lw ((upd1 (w1) (a1) ((z14 + 1)))) ((a1)) (((z9 + 1))) ((x154_5)) := by omega
                      refine v_sI H (o := 2) (z := (((z9 + 1) + 1) - v20)) rfl rfl rfl rfl (n := n2) (en2) (show 0 ≤ x154_5 ∧ x154_5 < n2 by omega) (show inr ((((z9 + 1) + 1) - v20)) by omega) (fun σ H O' => ?_)
                      have O := OUT_trans O O'
                      refine Ew_of (pc' := 198) (fun _ => x_iinc (len := 3) rfl (l154_5)) ?_
                      refine Ew_of (pc' := 154) (fun _ => x_goto rfl rfl) ?_
                      have hl1 : LNG ((upd1 (w154_2) (x154_5) ((((z9 + 1) + 1) - v20)))) (((z9 + 1))) := LNG_upd (by assumption) (by omega) hsb
                      have : LWI ((upd1 (w154_2) (x154_5) ((((z9 + 1) + 1) - v20)))) ((upd1 (w1) (a1) ((z14 + 1)))) ((a1)) (((z9 + 1))) (((x154_5 + 1))) := LWI_s j154_w hlv rfl
                      exact ih154 _ (by omega) _ _ _ _ ((x154_5 + 1)) (rk_o (l154_0) rfl rfl) (rk_o (l154_1) rfl rfl) (rk_s) H O (hS_154) (SA_upd (hA_154) rfl)    (upd1 (w154_2) (x154_5) ((((z9 + 1) + 1) - v20))) (congrArg (fun q => upd1 q (x154_5) ((((z9 + 1) + 1) - v20))) (ew154_2)) (show inr ((x154_5 + 1)) by omega) (show (0) ≤ ((x154_5 + 1)) by omega) (show ((x154_5 + 1)) ≤ (0) ∨ ((x154_5 + 1)) ≤ (((a1) + 1)) by omega) (show LNG ((upd1 (w154_2) (x154_5) ((((z9 + 1) + 1) - v20)))) (((z9 + 1))) by assumption) (show LWI ((upd1 (w154_2) (x154_5) ((((z9 + 1) + 1) - v20)))) ((upd1 (w1) (a1) ((z14 + 1)))) ((a1)) (((z9 + 1))) (((x154_5 + 1))) by assumption) rfl
                    · refine Ew_of (pc' := 177) (fun _ => x_iconst rfl) ?_
                      refine Ew_of (pc' := 194) (fun _ => x_goto rfl rfl) ?_
                      have hsb : 0 ≤ ((0) : Int) ∧ ((0) : Int) ≤ (((z9 + 1))) := by omega
                      have hlv : (0) = lw ((upd1 (w1) (a1) ((z14 + 1)))) ((a1)) (((z9 + 1))) ((x154_5)) := by omega
                      refine v_sI H (o := 2) (z := 0) rfl rfl rfl rfl (n := n2) (en2) (show 0 ≤ x154_5 ∧ x154_5 < n2 by omega) (show inr (0) by omega) (fun σ H O' => ?_)
                      have O := OUT_trans O O'
                      refine Ew_of (pc' := 198) (fun _ => x_iinc (len := 3) rfl (l154_5)) ?_
                      refine Ew_of (pc' := 154) (fun _ => x_goto rfl rfl) ?_
                      have hl1 : LNG ((upd1 (w154_2) (x154_5) (0))) (((z9 + 1))) := LNG_upd (by assumption) (by omega) hsb
                      have : LWI ((upd1 (w154_2) (x154_5) (0))) ((upd1 (w1) (a1) ((z14 + 1)))) ((a1)) (((z9 + 1))) (((x154_5 + 1))) := LWI_s j154_w hlv rfl
                      exact ih154 _ (by omega) _ _ _ _ ((x154_5 + 1)) (rk_o (l154_0) rfl rfl) (rk_o (l154_1) rfl rfl) (rk_s) H O (hS_154) (SA_upd (hA_154) rfl)    (upd1 (w154_2) (x154_5) (0)) (congrArg (fun q => upd1 q (x154_5) (0)) (ew154_2)) (show inr ((x154_5 + 1)) by omega) (show (0) ≤ ((x154_5 + 1)) by omega) (show ((x154_5 + 1)) ≤ (0) ∨ ((x154_5 + 1)) ≤ (((a1) + 1)) by omega) (show LNG ((upd1 (w154_2) (x154_5) (0))) (((z9 + 1))) by assumption) (show LWI ((upd1 (w154_2) (x154_5) (0))) ((upd1 (w1) (a1) ((z14 + 1)))) ((a1)) (((z9 + 1))) (((x154_5 + 1))) by assumption) rfl
              · have hno : (0 : Int) = 0 ∨ LNG ((w2)) (((z9 + 1))) := .inl rfl
                have : CMA ((w1)) ((a1)) (0) (((z9 + 1))) ((w2)) := fun I a e h => ⟨fun _ T2 g2 => by first | exact DSA_p (k := z9) (rest := ((p2 ((z9 + 1)) - x7_2))) h hsm (by omega) (by omega) (by omega) (fun q => absurd (((and_pow (by omega)).mpr q).symm.trans hge) (by omega)) (by first | rfl | omega) rfl | exact DSA_o (k := z9) (ones := q3) (rest := ((p2 ((z9 + 1)) - x7_2))) h hsm hon_ (by omega) (by omega) (by omega) (by first | rfl | omega) (by omega) rfl, fun z => absurd rfl z⟩
                have : IMP ((0 : Int) = 1) (CI ((w2)) (((z9 + 1)))) := fun z => absurd z (by decide)
                have : IMP ((0 : Int) = 1) (CDX ((w2)) (((z9 + 1))) ((w4)) ((w3))) := fun z => absurd z (by decide)
                refine Ew_of (pc' := 129) (fun _ => x_iconst rfl) ?_
                exact w_ireturn rfl (k (0) _ _ _ H O (SF_trans (SF_upd (SF_trans (SF_trans (SF_refl) hS_7 (any_sub rfl)) (SF_glu (ι := []) hS9 eF9 (by decide +kernel)) (any_sub (l' := []) rfl)) rfl) hS_c111 (any_sub rfl)) (SA_trans (SA_trans (SA_trans (SA_refl) hA_7 (any_subA rfl)) (SA_glu (ι := []) hA9 eA9 (by decide +kernel)) (any_subA (l' := []) rfl)) hA_c111 (any_subA rfl)) ((z9 + 1)) ((hS_c111 0 3 rfl)) (w2) ((funext (hA_c111 2 rfl)).trans (((show A9 2 = A_7 2 from (eA9 2))).trans ((funext (hA_7 2 rfl)).trans (ew2)))) (w3) ((funext (hA_c111 3 rfl)).trans (((show A9 3 = A_7 3 from (eA9 3))).trans ((funext (hA_7 3 rfl)).trans (ew3)))) (w4) ((funext (hA_c111 4 rfl)).trans (((show A9 4 = A_7 4 from (eA9 4))).trans ((funext (hA_7 4 rfl)).trans (ew4)))) (show (0) = 0 ∨ (0) = 1 by omega) (show (0) = 0 ∨ 0 ≤ ((z9 + 1)) ∧ ((z9 + 1)) ≤ 11 by omega) (show (0) = 0 ∨ LNG ((w2)) (((z9 + 1))) by assumption) (show CEL ((w4)) by assumption) (show CMA ((w1)) (a1) ((0)) (((z9 + 1))) ((w2)) by assumption) (show IMP ((0) = 1) (CI ((w2)) (((z9 + 1)))) by assumption) (show IMP ((0) = 1) (CDX ((w2)) (((z9 + 1))) ((w4)) ((w3))) by assumption))
          refine w_icmpne (t := 110) rfl rfl (show inr ((p2 ((z9 + 1)) - x7_2)) by omega) (show inr (1) by omega) (fun b21 => ?_) (fun b21 => ?_)
          · refine Ew_of (pc' := 111) (fun _ => x_iconst rfl) ?_
            exact hc111 (0) _ _ _ _  (rk_o (l7_0) rfl rfl) (rk_o (l7_1) rfl rfl) (rk_s) H O (SF_refl) (SA_refl)     (show inr (0) by omega) (show (((p2 ((z9 + 1)) - x7_2)) ≠ (1) ∧ (0) = (0)) ∨ (((p2 ((z9 + 1)) - x7_2)) = (1) ∧ (0) = (1)) by omega)
          · refine Ew_of (pc' := 107) (fun _ => x_iconst rfl) ?_
            refine Ew_of (pc' := 111) (fun _ => x_goto rfl rfl) ?_
            exact hc111 (1) _ _ _ _  (rk_o (l7_0) rfl rfl) (rk_o (l7_1) rfl rfl) (rk_s) H O (SF_refl) (SA_refl)     (show inr (1) by omega) (show (((p2 ((z9 + 1)) - x7_2)) ≠ (1) ∧ (1) = (0)) ∨ (((p2 ((z9 + 1)) - x7_2)) = (1) ∧ (1) = (1)) by omega)
        · have hno : (0 : Int) = 0 ∨ LNG ((w2)) ((u0_3)) := .inl rfl
          have : CMA ((w1)) ((a1)) (0) ((u0_3)) ((w2)) := fun I a e h => ⟨fun _ T2 g2 => by first | exact DSA_0 h hsm (by omega) rfl | exact DSA_t h hsm (by omega) rfl, fun z => absurd rfl z⟩
          have : IMP ((0 : Int) = 1) (CI ((w2)) ((u0_3))) := fun z => absurd z (by decide)
          have : IMP ((0 : Int) = 1) (CDX ((w2)) ((u0_3)) ((w4)) ((w3))) := fun z => absurd z (by decide)
          refine Ew_of (pc' := 78) (fun _ => x_iconst rfl) ?_
          exact w_ireturn rfl (k (0) _ _ _ H O (SF_trans (SF_refl) hS_7 (any_sub rfl)) (SA_trans (SA_refl) hA_7 (any_subA rfl)) (u0_3) (((hS_7 0 3 rfl).trans (eu0_3))) (w2) ((funext (hA_7 2 rfl)).trans (ew2)) (w3) ((funext (hA_7 3 rfl)).trans (ew3)) (w4) ((funext (hA_7 4 rfl)).trans (ew4)) (show (0) = 0 ∨ (0) = 1 by omega) (show (0) = 0 ∨ 0 ≤ (u0_3) ∧ (u0_3) ≤ 11 by omega) (show (0) = 0 ∨ LNG ((w2)) ((u0_3)) by assumption) (show CEL ((w4)) by assumption) (show CMA ((w1)) (a1) ((0)) ((u0_3)) ((w2)) by assumption) (show IMP ((0) = 1) (CI ((w2)) ((u0_3))) by assumption) (show IMP ((0) = 1) (CDX ((w2)) ((u0_3)) ((w4)) ((w3))) by assumption))
    · have hwb := hwt ((x7_4)) (by omega) (by omega)
      have hpw : p2 (((w1)) (x7_4) - 1) ≤ p2 14 := p2_mono (by omega)
      have hp14 : p2 14 = 16384 := by decide
      have hpq := p2_pos (((w1)) (x7_4) - 1)
      have hsw := su_s (f := fun i => wk (((w1)) i)) (i := (x7_4)) (by omega)
      have hso := su_s (f := fun i => on1 (((w1)) i)) (i := (x7_4)) (by omega)
      have hwk := wk_eq (((w1)) (x7_4))
      have hon := on1_eq (((w1)) (x7_4))
      refine Ew_of (pc' := 14) (fun _ => x_iload_n rfl l7_2) ?_
      refine Ew_of (pc' := 15) (fun _ => x_aload_n rfl l7_0) ?_
      refine v_g H (o := 0) (v := .ref (D 1)) rfl rfl rfl rfl rfl (vrf (((hS_7 0 4 rfl)).trans (pf1))) ?_
      refine Ew_of (pc' := 20) (fun _ => x_iload rfl l7_4) ?_
      refine v_lI H (o := 1) rfl rfl rfl rfl (n := n1) (en1) (show 0 ≤ x7_4 ∧ x7_4 < n1 by omega) (fun v22 ev22 qv22 => ?_)
      have ev22 : (w1) (x7_4) = v22 := (congrFun ((funext (hA_7 1 rfl)).trans (ew1)) (x7_4)).symm.trans ev22
      have hc39 : ∀ (tc39_0 : Int), ∀ (ls : rO) (σ : rS) (F_c39 : hF) (A_c39 : hA) , rlook ls 0 = some (.ref (D 0)) → rlook ls 1 = some (I (a1)) → rlook ls 3 = some (I (x7_3)) → rlook ls 4 = some (I (x7_4)) → HW V109 σ D N F_c39 A_c39 → OUT (V109).length D N σE c s D N σ c s → SF [] F_7 F_c39 → SA [] A_7 A_c39 → (inr (tc39_0)) → (((v22) ≤ (0) ∧ (tc39_0) = (0)) ∨ ((v22) > (0) ∧ -2147483648 ≤ ((w1) (x7_4)) ∧ ((w1) (x7_4)) ≤ 2147483647 ∧ (tc39_0) = (p2 (((w1) (x7_4) - 1))))) → Ew 109 (d + 3) 39 ls [I (tc39_0), I (x7_2)] σ c s Q := by
       as_aux_lemma =>
        intro tc39_0 ls σ F_c39 A_c39  lc39_0 lc39_1 lc39_3 lc39_4 H O hS_c39 hA_c39     jc39_0 jc39_1
        refine w_iadd rfl ?_
        refine Ew_of (pc' := 41) (fun _ => x_istore_n rfl) ?_
        refine Ew_of (pc' := 42) (fun _ => x_iload_n rfl (rk_o (lc39_3) rfl rfl)) ?_
        refine Ew_of (pc' := 43) (fun _ => x_aload_n rfl (rk_o (lc39_0) rfl rfl)) ?_
        refine v_g H (o := 0) (v := .ref (D 1)) rfl rfl rfl rfl rfl (vrf ((((hS_c39 0 4 rfl).trans (hS_7 0 4 rfl))).trans (pf1))) ?_
        refine Ew_of (pc' := 48) (fun _ => x_iload rfl (rk_o (lc39_4) rfl rfl)) ?_
        refine v_lI H (o := 1) rfl rfl rfl rfl (n := n1) (en1) (show 0 ≤ x7_4 ∧ x7_4 < n1 by omega) (fun v23 ev23 qv23 => ?_)
        have ev23 : (w1) (x7_4) = v23 := (congrFun ((funext (hA_c39 1 rfl)).trans ((funext (hA_7 1 rfl)).trans (ew1))) (x7_4)).symm.trans ev23
        refine Ew_of (pc' := 50) (fun _ => x_iconst rfl) ?_
        refine w_icmpne (t := 57) rfl rfl (show inr (v23) by omega) (show inr (1) by omega) (fun b24 => ?_) (fun b24 => ?_)
        · refine Ew_of (pc' := 58) (fun _ => x_iconst rfl) ?_
          refine w_iadd rfl ?_
          refine Ew_of (pc' := 60) (fun _ => x_istore_n rfl) ?_
          refine Ew_of (pc' := 63) (fun _ => x_iinc (len := 3) rfl (rk_o (rk_o (lc39_4) rfl rfl) rfl rfl)) ?_
          refine Ew_of (pc' := 7) (fun _ => x_goto rfl rfl) ?_
          have hw1 : WSM ((w1)) ((x7_4 + 1)) ((x7_2 + tc39_0)) := WSM_s (by assumption) rfl (by omega) (fun q => by omega)
          exact ih7 _ (by omega) _ _ _ _ ((x7_2 + tc39_0)) ((x7_3 + 0)) ((x7_4 + 1)) (rk_o (rk_o (rk_o (lc39_0) rfl rfl) rfl rfl) rfl rfl) (rk_o (rk_o (rk_o (lc39_1) rfl rfl) rfl rfl) rfl rfl) (rk_o (rk_o (rk_s) rfl rfl) rfl rfl) (rk_o (rk_s) rfl rfl) (rk_s) H O (SF_trans (hS_7) hS_c39 (any_sub rfl)) (SA_trans (hA_7) hA_c39 (any_subA rfl))     (show inr ((x7_2 + tc39_0)) by omega) (show inr ((x7_3 + 0)) by omega) (show inr ((x7_4 + 1)) by omega) (show (0) ≤ ((x7_4 + 1)) by omega) (show ((x7_4 + 1)) ≤ (0) ∨ ((x7_4 + 1)) ≤ ((a1)) by omega) (show 0 ≤ ((x7_2 + tc39_0)) ∧ ((x7_2 + tc39_0)) ≤ 16384 * ((x7_4 + 1)) by omega) (show 0 ≤ ((x7_3 + 0)) ∧ ((x7_3 + 0)) ≤ ((x7_4 + 1)) by omega) (show WSM ((w1)) ((x7_4 + 1)) ((x7_2 + tc39_0)) by assumption) (show ((x7_2 + tc39_0)) = su (fun i => wk (((w1)) i)) (((x7_4 + 1)) : Int).toNat by omega) (show ((x7_3 + 0)) = su (fun i => on1 (((w1)) i)) (((x7_4 + 1)) : Int).toNat by omega) rfl
        · refine Ew_of (pc' := 54) (fun _ => x_iconst rfl) ?_
          refine Ew_of (pc' := 58) (fun _ => x_goto rfl rfl) ?_
          refine w_iadd rfl ?_
          refine Ew_of (pc' := 60) (fun _ => x_istore_n rfl) ?_
          refine Ew_of (pc' := 63) (fun _ => x_iinc (len := 3) rfl (rk_o (rk_o (lc39_4) rfl rfl) rfl rfl)) ?_
          refine Ew_of (pc' := 7) (fun _ => x_goto rfl rfl) ?_
          have hw1 : WSM ((w1)) ((x7_4 + 1)) ((x7_2 + tc39_0)) := WSM_s (by assumption) rfl (by omega) (fun q => by omega)
          exact ih7 _ (by omega) _ _ _ _ ((x7_2 + tc39_0)) ((x7_3 + 1)) ((x7_4 + 1)) (rk_o (rk_o (rk_o (lc39_0) rfl rfl) rfl rfl) rfl rfl) (rk_o (rk_o (rk_o (lc39_1) rfl rfl) rfl rfl) rfl rfl) (rk_o (rk_o (rk_s) rfl rfl) rfl rfl) (rk_o (rk_s) rfl rfl) (rk_s) H O (SF_trans (hS_7) hS_c39 (any_sub rfl)) (SA_trans (hA_7) hA_c39 (any_subA rfl))     (show inr ((x7_2 + tc39_0)) by omega) (show inr ((x7_3 + 1)) by omega) (show inr ((x7_4 + 1)) by omega) (show (0) ≤ ((x7_4 + 1)) by omega) (show ((x7_4 + 1)) ≤ (0) ∨ ((x7_4 + 1)) ≤ ((a1)) by omega) (show 0 ≤ ((x7_2 + tc39_0)) ∧ ((x7_2 + tc39_0)) ≤ 16384 * ((x7_4 + 1)) by omega) (show 0 ≤ ((x7_3 + 1)) ∧ ((x7_3 + 1)) ≤ ((x7_4 + 1)) by omega) (show WSM ((w1)) ((x7_4 + 1)) ((x7_2 + tc39_0)) by assumption) (show ((x7_2 + tc39_0)) = su (fun i => wk (((w1)) i)) (((x7_4 + 1)) : Int).toNat by omega) (show ((x7_3 + 1)) = su (fun i => on1 (((w1)) i)) (((x7_4 + 1)) : Int).toNat by omega) rfl
      refine w_ifle (t := 38) rfl rfl (show inr (v22) by omega) (fun b25 => ?_) (fun b25 => ?_)
      · refine Ew_of (pc' := 39) (fun _ => x_iconst rfl) ?_
        exact hc39 (0) _ _ _ _  (l7_0) (l7_1) (l7_3) (l7_4) H O (SF_refl) (SA_refl)     (show inr (0) by omega) (show ((v22) ≤ (0) ∧ (0) = (0)) ∨ ((v22) > (0) ∧ -2147483648 ≤ ((w1) (x7_4)) ∧ ((w1) (x7_4)) ≤ 2147483647 ∧ (0) = (p2 (((w1) (x7_4) - 1)))) by omega)
      · refine Ew_of (pc' := 25) (fun _ => x_iconst rfl) ?_
        refine Ew_of (pc' := 26) (fun _ => x_aload_n rfl l7_0) ?_
        refine v_g H (o := 0) (v := .ref (D 1)) rfl rfl rfl rfl rfl (vrf (((hS_7 0 4 rfl)).trans (pf1))) ?_
        refine Ew_of (pc' := 31) (fun _ => x_iload rfl l7_4) ?_
        refine v_lI H (o := 1) rfl rfl rfl rfl (n := n1) (en1) (show 0 ≤ x7_4 ∧ x7_4 < n1 by omega) (fun v26 ev26 qv26 => ?_)
        have ev26 : (w1) (x7_4) = v26 := (congrFun ((funext (hA_7 1 rfl)).trans (ew1)) (x7_4)).symm.trans ev26
        refine Ew_of (pc' := 33) (fun _ => x_iconst rfl) ?_
        refine w_isub rfl ?_
        have hve : p2 (((v26 - 1))) = p2 (((w1)) (x7_4) - 1) := by congr 1; omega
        refine w_ishl1 rfl (show 0 ≤ (v26 - 1) ∧ (v26 - 1) ≤ 31 by omega) ?_
        refine Ew_of (pc' := 39) (fun _ => x_goto rfl rfl) ?_
        exact hc39 (p2 ((v26 - 1))) _ _ _ _  (l7_0) (l7_1) (l7_3) (l7_4) H O (SF_refl) (SA_refl)     (show inr (p2 ((v26 - 1))) by omega) (show ((v22) ≤ (0) ∧ (p2 ((v26 - 1))) = (0)) ∨ ((v22) > (0) ∧ -2147483648 ≤ ((w1) (x7_4)) ∧ ((w1) (x7_4)) ≤ 2147483647 ∧ (p2 ((v26 - 1))) = (p2 (((w1) (x7_4) - 1)))) by omega)
abbrev V108_Br : vV := [(0, 3, [(4, 0), (4, 0), (4, 0), (0, 0), (4, 0), (4, 0), (4, 0), (4, 0), (4, 0), (4, 0), (4, 0), (4, 0), (4, 0), (0, 0), (0, 0), (0, 0), (0, 0)]), (1, 0, []), (1, 1, []), (0, 8, [(0, 0), (0, 0), (4, 0), (4, 0), (4, 0), (4, 0), (4, 0), (4, 0), (4, 0), (4, 0), (4, 0), (0, 0), (0, 0)]), (1, 1, []), (1, 1, []), (1, 1, []), (1, 1, []), (1, 1, []), (1, 1, []), (1, 1, []), (1, 1, []), (0, 2, [(4, 0), (0, 0), (0, 0)])]
set_option maxHeartbeats 16000000 in
/-- Codes.hearByStates: this, #1, this.weights, this.weightShare, this.weightShare.points, this.weightShare.masses, this.weightShare.mostBits, this.weightShare.starts, this.weightShare.used, this.weightShare.numberAt, this.weightShare.symbolAt, this.weightShare.placeOf, this.source -/
theorem C108_Br {σE : rS} {D N : Nat → Nat} {F : hF} {A : hA} {d c s : Nat} {Q : wQ} (H : HW V108_Br σE D N F A) {a2 a3 : Int} (pf2 : F 0 4 = (D 2 : Int)) (pf3 : F 0 6 = (D 3 : Int)) (pf4 : F 3 2 = (D 4 : Int)) (pf5 : F 3 3 = (D 5 : Int)) (pf6 : F 3 4 = (D 6 : Int)) (pf7 : F 3 5 = (D 7 : Int)) (pf8 : F 3 6 = (D 8 : Int)) (pf9 : F 3 8 = (D 9 : Int)) (pf10 : F 3 7 = (D 10 : Int)) (pf11 : F 3 9 = (D 11 : Int)) (pf12 : F 0 9 = (D 12 : Int)) (n1 : Int) (en1 : (N 1 : Int) = n1) (n2 : Int) (en2 : (N 2 : Int) = n2) (n4 : Int) (en4 : (N 4 : Int) = n4) (n5 : Int) (en5 : (N 5 : Int) = n5) (n6 : Int) (en6 : (N 6 : Int) = n6) (n7 : Int) (en7 : (N 7 : Int) = n7) (n8 : Int) (en8 : (N 8 : Int) = n8) (n9 : Int) (en9 : (N 9 : Int) = n9) (n10 : Int) (en10 : (N 10 : Int) = n10) (n11 : Int) (en11 : (N 11 : Int) = n11) (u3_1 : Int) (eu3_1 : F 3 1 = u3_1) (w1 : Int → Int) (ew1 : A 1 = w1) (w2 : Int → Int) (ew2 : A 2 = w2) (h0 : inr (a2)) (h1 : inr (a3)) (h2 : 0 ≤ (a2) ∧ (a2) ≤ 65536 ∧ 0 ≤ (a3) ∧ (a3) ≤ (n1) ∧ (n1) ≤ 65536 ∧ (a2) ≤ (a3)) (h3 : (n2) = 256) (h4 : (n4) = (u3_1) ∧ (n5) = (u3_1) ∧ (n6) = (u3_1) ∧ (n7) = (u3_1) ∧ (n8) = (u3_1) ∧ (n9) = (n10) ∧ (n11) = (n10) ∧ 1 ≤ (u3_1) ∧ (u3_1) ≤ 64 ∧ (u3_1) = 12 ∧ (n10) = 64) (k : ∀ (z : Int) (σ : rS) (F' : hF) (A' : hA), HW V108_Br σ D N F' A' → OUT (V108_Br).length D N σE c s D N σ c s → SF [(3, 0), (3, 10), (3, 11), (3, 12), (12, 0), (12, 1), (12, 2)] F F' → SA [2, 4, 5, 6, 7, 8, 9, 10, 11] A A' → ∀ v2 : Int → Int, A' 2 = v2 → (inr (z)) → (0 ≤ (z) ∧ (z) ≤ 255) → (WTS ((v2)) (z)) → (WBA (ub8 ((w1))) ((a2)) ((a3)) ((z)) 0 ((v2))) → Q (some (I z)) σ c s) : Ew 108 (d + 2) 0 (rargs 0 [.ref (D 0), .ref (D 1), I a2, I a3]) [] σE c s Q := by
  have O := OUT_refl (n := (V108_Br).length) (D := D) (N := N) (σ := σE) (c := c) (s := s)
  have HE := H
  have r1 : (-2147483648 : Int) ≤ u3_1 ∧ u3_1 ≤ 2147483647 := by have h1 : (-2147483648 : Int) ≤ F 3 1 ∧ F 3 1 ≤ 2147483647 := H.krg 3 1 (by decide); rw [show F 3 1 = u3_1 from (eu3_1)] at h1; exact h1
  have r2 : (0 : Int) ≤ n1 ∧ n1 ≤ 1000000 := by have h1 := H.nle 1 (by decide); have h2 : (N 1 : Int) = n1 := en1; omega
  have r3 : (0 : Int) ≤ n2 ∧ n2 ≤ 1000000 := by have h1 := H.nle 2 (by decide); have h2 : (N 2 : Int) = n2 := en2; omega
  have r4 : (0 : Int) ≤ n4 ∧ n4 ≤ 1000000 := by have h1 := H.nle 4 (by decide); have h2 : (N 4 : Int) = n4 := en4; omega
  have r5 : (0 : Int) ≤ n5 ∧ n5 ≤ 1000000 := by have h1 := H.nle 5 (by decide); have h2 : (N 5 : Int) = n5 := en5; omega
  have r6 : (0 : Int) ≤ n6 ∧ n6 ≤ 1000000 := by have h1 := H.nle 6 (by decide); have h2 : (N 6 : Int) = n6 := en6; omega
  have r7 : (0 : Int) ≤ n7 ∧ n7 ≤ 1000000 := by have h1 := H.nle 7 (by decide); have h2 : (N 7 : Int) = n7 := en7; omega
  have r8 : (0 : Int) ≤ n8 ∧ n8 ≤ 1000000 := by have h1 := H.nle 8 (by decide); have h2 : (N 8 : Int) = n8 := en8; omega
  have r9 : (0 : Int) ≤ n9 ∧ n9 ≤ 1000000 := by have h1 := H.nle 9 (by decide); have h2 : (N 9 : Int) = n9 := en9; omega
  have r10 : (0 : Int) ≤ n10 ∧ n10 ≤ 1000000 := by have h1 := H.nle 10 (by decide); have h2 : (N 10 : Int) = n10 := en10; omega
  have r11 : (0 : Int) ≤ n11 ∧ n11 ≤ 1000000 := by have h1 := H.nle 11 (by decide); have h2 : (N 11 : Int) = n11 := en11; omega
  refine Ew_of (pc' := 1) (fun _ => x_aload_n rfl rfl) ?_
  refine v_g H (o := 0) (v := .ref (D 3)) rfl rfl rfl rfl rfl (vrf (pf3)) ?_
  refine Ew_of (pc' := 5) (fun _ => x_aload_n rfl rfl) ?_
  refine Ew_of (pc' := 6) (fun _ => x_iload_n rfl rfl) ?_
  refine Ew_of (pc' := 7) (fun _ => x_iload_n rfl rfl) ?_
  have hp6 : p2 6 = 64 := by decide
  refine Ew_of (pc' := 9) (fun _ => x_bipush (z := 6) rfl (by decide)) ?_
  have r12 : (-2147483648 : Int) ≤ F 3 0 ∧ F 3 0 ≤ 2147483647 := by have h1 : (-2147483648 : Int) ≤ F 3 0 ∧ F 3 0 ≤ 2147483647 := H.krg 3 0 (by decide); rw [show F 3 0 = F 3 0 from rfl] at h1; exact h1
  refine v_inv H (o := 3) rfl rfl rfl rfl rfl rfl (by rfl) (C184_Br (D := pul [3, 1, 10, 4, 5, 6, 7, 8, 9, 11] D) (N := pul [3, 1, 10, 4, 5, 6, 7, 8, 9, 11] N) (HW_sub H (VS_of (show vsub V108_Br V184_Br [3, 1, 10, 4, 5, 6, 7, 8, 9, 11] = true by decide +kernel))) (pf10) (pf4) (pf5) (pf6) (pf7) (pf8) (pf9) (pf11) (n1) (en1) (n10) (en10) (n4) (en4) (n5) (en5) (n6) (en6) (n7) (en7) (n8) (en8) (n9) (en9) (n11) (en11) (F 3 0) (rfl) (u3_1) ((eu3_1)) (w1) (ew1) (A 10) (rfl) (A 4) (rfl) (A 5) (rfl) (A 6) (rfl) (A 7) (rfl) (A 9) (rfl) (A 11) (rfl) (show inr (a2) by omega) (show inr (a3) by omega) (show inr (6) by omega) (show 0 ≤ (a2) ∧ (a2) ≤ (a3) ∧ (a3) ≤ (n1) ∧ (n1) ≤ 65536 by omega) (show 5 ≤ (6) ∧ (6) ≤ 9 ∧ p2 (6) ≤ (n10) by omega) (show (n4) = (u3_1) ∧ (n5) = (u3_1) ∧ (n6) = (u3_1) ∧ (n7) = (u3_1) ∧ (n8) = (u3_1) ∧ (n9) = (n10) ∧ (n11) = (n10) ∧ 1 ≤ (u3_1) ∧ (u3_1) ≤ 64 by omega) (fun z13 σ13 F13' A13' H' O' hS13 hA13 y13_0_0 ey13_0_0 w13_2 ew13_2 w13_3 ew13_3 w13_4 ew13_4 w13_5 ew13_5 w13_6 ew13_6 w13_8 ew13_8 w13_9 ew13_9 pq13_0 pz13_0 pz13_1 pz13_2 pz13_3 pz13_4 => ⟨rfl, ?_⟩))
  refine v_back (c := c) (s := s) H (show vsub V108_Br V184_Br [3, 1, 10, 4, 5, 6, 7, 8, 9, 11] = true by decide +kernel) H' O' (fun F13 A13 H O' eF13 eA13 => ?_)
  have O := OUT_trans O O'
  -- Share.hear
  have pl13_0 : F13 3 10 = (D 1 : Int) := (eF13 3 10).trans (pq13_0)
  have r14 : (-2147483648 : Int) ≤ y13_0_0 ∧ y13_0_0 ≤ 2147483647 := by have h1 : (-2147483648 : Int) ≤ F13 3 0 ∧ F13 3 0 ≤ 2147483647 := H.krg 3 0 (by decide); rw [show F13 3 0 = y13_0_0 from ((eF13 3 0).trans ey13_0_0)] at h1; exact h1
  obtain ⟨ok_, oo_, en_, WP_, hQ_, hc_⟩ := pz13_4
  rw [show (u3_1) - 1 = 11 by omega] at hQ_
  obtain ⟨q4, hq4⟩ : ∃ q : Int, q = (z13) := ⟨_, rfl⟩
  have hdr : (z13) ≠ -1 → ok_ = 1 ∧ (y13_0_0) = oo_ ∧ q4 = en_ ∧ ∀ i, 0 ≤ i → i < 12 → ((w13_3)) i = WP_ i := fun z => by rcases hc_ with ⟨x, y⟩ | ⟨x, y, y2, w, u⟩; (exact absurd y z); (exact ⟨x, w, by omega, fun i a b => u i a (by omega)⟩)
  have hd0 : (z13) = -1 → ok_ = 0 := fun z => by rcases hc_ with ⟨x, y⟩ | ⟨x, y, y2, w, u⟩; (exact x); (omega)
  refine Ew_of (pc' := 14) (fun _ => x_istore rfl) ?_
  refine Ew_of (pc' := 16) (fun _ => x_iload rfl rk_s) ?_
  refine w_iflt (t := 52) rfl rfl (show inr (z13) by omega) (fun b15 => ?_) (fun b15 => ?_)
  · have hwz : WTS ((w2)) 0 := fun i a b => by omega
    have : WBA (ub8 ((w1))) ((a2)) ((a3)) (0) 0 ((w2)) := by first | exact WBA_s hQ_ (hd0 (by omega)) rfl | exact WBA_o hQ_ (by omega) hop (by omega) rfl | exact WBA_l hQ_ (by omega) ho1 (by omega) rfl
    refine Ew_of (pc' := 53) (fun _ => x_iconst rfl) ?_
    exact w_ireturn rfl (k (0) _ _ _ H O (SF_trans (SF_refl) (SF_glu (ι := [3, 1, 10, 4, 5, 6, 7, 8, 9, 11]) hS13 eF13 (by decide +kernel)) (any_sub (l' := [(3, 0), (3, 10), (3, 11), (3, 12)]) rfl)) (SA_trans (SA_refl) (SA_glu (ι := [3, 1, 10, 4, 5, 6, 7, 8, 9, 11]) hA13 eA13 (by decide +kernel)) (any_subA (l' := [4, 5, 6, 7, 8, 9, 10, 11]) rfl)) (w2) (((show A13 2 = A 2 from (eA13 2))).trans (ew2)) (show inr (0) by omega) (show 0 ≤ (0) ∧ (0) ≤ 255 by omega) (show WTS ((w2)) (0) by assumption) (show WBA (ub8 ((w1))) (a2) (a3) ((0)) 0 ((w2)) by assumption))
  · have hsl : SL ((w13_3)) ((u3_1)) ((y13_0_0)) ((w13_4)) ((w13_5)) ((w13_6)) ((w13_2)) ((w13_8)) ((w13_9)) := Or.resolve_left pz13_3 (by omega)
    have hor : 5 ≤ (y13_0_0) ∧ (y13_0_0) ≤ 6 := by omega
    have hpo : p2 ((y13_0_0)) ≤ p2 6 := p2_mono (by omega)
    have har : (a2) ≤ (z13) ∧ (z13) ≤ (a3) := by omega
    obtain ⟨k1_, k2_, k3_, k4_⟩ := hdr (by omega)
    subst k3_
    refine Ew_of (pc' := 20) (fun _ => x_aload_n rfl (rk_o (rfl) rfl rfl)) ?_
    refine v_g H (o := 0) (v := .ref (D 12)) rfl rfl rfl rfl rfl (vrf ((((show F13 0 9 = F 0 9 from (eF13 0 9)))).trans (pf12))) ?_
    refine Ew_of (pc' := 24) (fun _ => x_aload_n rfl (rk_o (rfl) rfl rfl)) ?_
    refine Ew_of (pc' := 26) (fun _ => x_iload rfl rk_s) ?_
    refine Ew_of (pc' := 27) (fun _ => x_iload_n rfl (rk_o (rfl) rfl rfl)) ?_
    have r16 : (-2147483648 : Int) ≤ F 12 1 ∧ F 12 1 ≤ 2147483647 := by have h1 : (-2147483648 : Int) ≤ F13 12 1 ∧ F13 12 1 ≤ 2147483647 := H.krg 12 1 (by decide); rw [show F13 12 1 = F 12 1 from ((show F13 12 1 = F 12 1 from (eF13 12 1)))] at h1; exact h1
    have r17 : (-2147483648 : Int) ≤ F 12 2 ∧ F 12 2 ≤ 2147483647 := by have h1 : (-2147483648 : Int) ≤ F13 12 2 ∧ F13 12 2 ≤ 2147483647 := H.krg 12 2 (by decide); rw [show F13 12 2 = F 12 2 from ((show F13 12 2 = F 12 2 from (eF13 12 2)))] at h1; exact h1
    refine v_inv H (o := 12) rfl rfl rfl rfl rfl rfl (by rfl) (C93_Br (D := pul [12, 1] D) (N := pul [12, 1] N) (HW_sub H (VS_of (show vsub V108_Br V93_Br [12, 1] = true by decide +kernel))) (n1) (en1) (F 12 1) (((show F13 12 1 = F 12 1 from (eF13 12 1)))) (F 12 2) (((show F13 12 2 = F 12 2 from (eF13 12 2)))) (w1) (((show A13 1 = A 1 from (eA13 1).trans (funext (hA13 1 rfl)))).trans (ew1)) (show inr (z13) by omega) (show inr (a3) by omega) (show 0 ≤ (z13) ∧ (a3) ≤ (n1) ∧ (n1) ≤ 65536 ∧ 0 ≤ (a3) ∧ (z13) ≤ 200000 by omega) (fun z18 σ18 F18' A18' H' O' hS18 hA18 y18_0_1 ey18_0_1 y18_0_2 ey18_0_2 pq18_0 pz18_0 pz18_1 pz18_2 pz18_3 => ⟨rretB rfl pz18_0, ?_⟩))
    refine v_back (c := c) (s := s) H (show vsub V108_Br V93_Br [12, 1] = true by decide +kernel) H' O' (fun F18 A18 H O' eF18 eA18 => ?_)
    have O := OUT_trans O O'
    -- BitSource.begin
    have pl18_0 : F18 12 0 = (D 1 : Int) := (eF18 12 0).trans (pq18_0)
    have r19 : (-2147483648 : Int) ≤ y18_0_1 ∧ y18_0_1 ≤ 2147483647 := by have h1 : (-2147483648 : Int) ≤ F18 12 1 ∧ F18 12 1 ≤ 2147483647 := H.krg 12 1 (by decide); rw [show F18 12 1 = y18_0_1 from ((eF18 12 1).trans ey18_0_1)] at h1; exact h1
    have r20 : (-2147483648 : Int) ≤ y18_0_2 ∧ y18_0_2 ≤ 2147483647 := by have h1 : (-2147483648 : Int) ≤ F18 12 2 ∧ F18 12 2 ≤ 2147483647 := H.krg 12 2 (by decide); rw [show F18 12 2 = y18_0_2 from ((eF18 12 2).trans ey18_0_2)] at h1; exact h1
    have hop := pz18_3
    rw [← hq4] at hop
    refine w_ifeq (t := 52) rfl rfl (show inr (z18) by omega) (fun b21 => ?_) (fun b21 => ?_)
    · have hwz : WTS ((w2)) 0 := fun i a b => by omega
      have : WBA (ub8 ((w1))) ((a2)) ((a3)) (0) 0 ((w2)) := by first | exact WBA_s hQ_ (hd0 (by omega)) rfl | exact WBA_o hQ_ (by omega) hop (by omega) rfl | exact WBA_l hQ_ (by omega) ho1 (by omega) rfl
      refine Ew_of (pc' := 53) (fun _ => x_iconst rfl) ?_
      exact w_ireturn rfl (k (0) _ _ _ H O (SF_trans (SF_trans (SF_refl) (SF_glu (ι := [3, 1, 10, 4, 5, 6, 7, 8, 9, 11]) hS13 eF13 (by decide +kernel)) (any_sub (l' := [(3, 0), (3, 10), (3, 11), (3, 12)]) rfl)) (SF_glu (ι := [12, 1]) hS18 eF18 (by decide +kernel)) (any_sub (l' := [(12, 0), (12, 1), (12, 2)]) rfl)) (SA_trans (SA_trans (SA_refl) (SA_glu (ι := [3, 1, 10, 4, 5, 6, 7, 8, 9, 11]) hA13 eA13 (by decide +kernel)) (any_subA (l' := [4, 5, 6, 7, 8, 9, 10, 11]) rfl)) (SA_glu (ι := [12, 1]) hA18 eA18 (by decide +kernel)) (any_subA (l' := []) rfl)) (w2) (((show A18 2 = A13 2 from (eA18 2))).trans (((show A13 2 = A 2 from (eA13 2))).trans (ew2))) (show inr (0) by omega) (show 0 ≤ (0) ∧ (0) ≤ 255 by omega) (show WTS ((w2)) (0) by assumption) (show WBA (ub8 ((w1))) (a2) (a3) ((0)) 0 ((w2)) by assumption))
    · have ho1 : OPS (ub8 ((w1))) (q4) ((a3)) 1 ((y18_0_2)) := by have h := hop; rw [show z18 = 1 by omega] at h; exact h
      obtain ⟨ql, hql⟩ : ∃ q : Int, q = (y18_0_2) := ⟨_, rfl⟩
      rw [← hql] at ho1
      refine Ew_of (pc' := 34) (fun _ => x_aload_n rfl (rk_o (rfl) rfl rfl)) ?_
      refine v_g H (o := 0) (v := .ref (D 12)) rfl rfl rfl rfl rfl (vrf (((((show F18 0 9 = F13 0 9 from (eF18 0 9))).trans ((show F13 0 9 = F 0 9 from (eF13 0 9))))).trans (pf12))) ?_
      refine v_g H (o := 12) (v := I (y18_0_2)) rfl rfl rfl rfl rfl (congrArg (fun z : Int => I z) (((eF18 12 2).trans ey18_0_2) : F18 12 2 = y18_0_2)) ?_
      refine Ew_of (pc' := 41) (fun _ => x_iconst rfl) ?_
      refine Ew_of (pc' := 42) (fun _ => x_aload_n rfl (rk_o (rfl) rfl rfl)) ?_
      refine v_g H (o := 0) (v := .ref (D 3)) rfl rfl rfl rfl rfl (vrf (((((show F18 0 6 = F13 0 6 from (eF18 0 6))).trans ((show F13 0 6 = F 0 6 from (eF13 0 6))))).trans (pf3))) ?_
      refine v_g H (o := 3) (v := I (y13_0_0)) rfl rfl rfl rfl rfl (congrArg (fun z : Int => I z) ((((show F18 3 0 = F13 3 0 from (eF18 3 0))).trans ((eF13 3 0).trans ey13_0_0)) : F18 3 0 = y13_0_0)) ?_
      refine w_imul rfl ?_
      refine w_icmpge (t := 54) rfl rfl (show inr (y18_0_2) by omega) (show inr ((2 * y13_0_0)) by omega) (fun b22 => ?_) (fun b22 => ?_)
      · refine Ew_of (pc' := 55) (fun _ => x_aload_n rfl (rk_o (rfl) rfl rfl)) ?_
        refine v_g H (o := 0) (v := .ref (D 12)) rfl rfl rfl rfl rfl (vrf (((((show F18 0 9 = F13 0 9 from (eF18 0 9))).trans ((show F13 0 9 = F 0 9 from (eF13 0 9))))).trans (pf12))) ?_
        refine Ew_of (pc' := 59) (fun _ => x_aload_n rfl (rk_o (rfl) rfl rfl)) ?_
        refine v_g H (o := 0) (v := .ref (D 3)) rfl rfl rfl rfl rfl (vrf (((((show F18 0 6 = F13 0 6 from (eF18 0 6))).trans ((show F13 0 6 = F 0 6 from (eF13 0 6))))).trans (pf3))) ?_
        refine v_g H (o := 3) (v := I (y13_0_0)) rfl rfl rfl rfl rfl (congrArg (fun z : Int => I z) ((((show F18 3 0 = F13 3 0 from (eF18 3 0))).trans ((eF13 3 0).trans ey13_0_0)) : F18 3 0 = y13_0_0)) ?_
        refine v_inv H (o := 12) rfl rfl rfl rfl rfl rfl (by rfl) (C95 (D := pul [12, 1] D) (N := pul [12, 1] N) (HW_sub H (VS_of (show vsub V108_Br V95 [12, 1] = true by decide +kernel))) (pl18_0) (n1) (en1) (y18_0_1) (((eF18 12 1).trans ey18_0_1)) (y18_0_2) (((eF18 12 2).trans ey18_0_2)) (w1) (((show A18 1 = A13 1 from (eA18 1).trans (funext (hA18 1 rfl)))).trans (((show A13 1 = A 1 from (eA13 1).trans (funext (hA13 1 rfl)))).trans (ew1))) (show inr (y13_0_0) by omega) (show 0 ≤ (y13_0_0) ∧ (y13_0_0) ≤ 31 by omega) (show 0 ≤ (y18_0_1) ∧ (y18_0_1) ≤ 65536 ∧ (y18_0_2) ≤ 8 * ((n1) - (y18_0_1)) ∧ (n1) ≤ 65536 by omega) (show -100 ≤ (y18_0_2) by omega) (fun z23 σ23 F23' A23' H' O' hS23 hA23 y23_0_2 ey23_0_2 pz23_0 pz23_1 pz23_2 pz23_3 => ⟨rfl, ?_⟩))
        refine v_back (c := c) (s := s) H (show vsub V108_Br V95 [12, 1] = true by decide +kernel) H' O' (fun F23 A23 H O' eF23 eA23 => ?_)
        have O := OUT_trans O O'
        -- BitSource.take
        have r24 : (-2147483648 : Int) ≤ y23_0_2 ∧ y23_0_2 ≤ 2147483647 := by have h1 : (-2147483648 : Int) ≤ F23 12 2 ∧ F23 12 2 ≤ 2147483647 := H.krg 12 2 (by decide); rw [show F23 12 2 = y23_0_2 from ((eF23 12 2).trans ey23_0_2)] at h1; exact h1
        have hv1 := pz23_3
        rw [pk_y (by omega)] at hv1
        refine w_l2i rfl ?_
        refine Ew_of (pc' := 71) (fun _ => x_istore rfl) ?_
        refine Ew_of (pc' := 72) (fun _ => x_aload_n rfl (rk_o (rk_o (rfl) rfl rfl) rfl rfl)) ?_
        refine v_g H (o := 0) (v := .ref (D 12)) rfl rfl rfl rfl rfl (vrf ((((((show F23 0 9 = F18 0 9 from (eF23 0 9))).trans ((show F18 0 9 = F13 0 9 from (eF18 0 9)))).trans ((show F13 0 9 = F 0 9 from (eF13 0 9))))).trans (pf12))) ?_
        refine Ew_of (pc' := 76) (fun _ => x_aload_n rfl (rk_o (rk_o (rfl) rfl rfl) rfl rfl)) ?_
        refine v_g H (o := 0) (v := .ref (D 3)) rfl rfl rfl rfl rfl (vrf ((((((show F23 0 6 = F18 0 6 from (eF23 0 6))).trans ((show F18 0 6 = F13 0 6 from (eF18 0 6)))).trans ((show F13 0 6 = F 0 6 from (eF13 0 6))))).trans (pf3))) ?_
        refine v_g H (o := 3) (v := I (y13_0_0)) rfl rfl rfl rfl rfl (congrArg (fun z : Int => I z) (((((show F23 3 0 = F18 3 0 from (eF23 3 0))).trans ((show F18 3 0 = F13 3 0 from (eF18 3 0)))).trans ((eF13 3 0).trans ey13_0_0)) : F23 3 0 = y13_0_0)) ?_
        refine v_inv H (o := 12) rfl rfl rfl rfl rfl rfl (by rfl) (C95 (D := pul [12, 1] D) (N := pul [12, 1] N) (HW_sub H (VS_of (show vsub V108_Br V95 [12, 1] = true by decide +kernel))) ((((show F23 12 0 = F18 12 0 from (eF23 12 0).trans (hS23 0 0 rfl)))).trans (pl18_0)) (n1) (en1) (y18_0_1) ((((show F23 12 1 = F18 12 1 from (eF23 12 1).trans (hS23 0 1 rfl))).trans ((eF18 12 1).trans ey18_0_1))) (y23_0_2) (((eF23 12 2).trans ey23_0_2)) (w1) (((show A23 1 = A18 1 from (eA23 1).trans (funext (hA23 1 rfl)))).trans (((show A18 1 = A13 1 from (eA18 1).trans (funext (hA18 1 rfl)))).trans (((show A13 1 = A 1 from (eA13 1).trans (funext (hA13 1 rfl)))).trans (ew1)))) (show inr (y13_0_0) by omega) (show 0 ≤ (y13_0_0) ∧ (y13_0_0) ≤ 31 by omega) (show 0 ≤ (y18_0_1) ∧ (y18_0_1) ≤ 65536 ∧ (y23_0_2) ≤ 8 * ((n1) - (y18_0_1)) ∧ (n1) ≤ 65536 by omega) (show -100 ≤ (y23_0_2) by omega) (fun z25 σ25 F25' A25' H' O' hS25 hA25 y25_0_2 ey25_0_2 pz25_0 pz25_1 pz25_2 pz25_3 => ⟨rfl, ?_⟩))
        refine v_back (c := c) (s := s) H (show vsub V108_Br V95 [12, 1] = true by decide +kernel) H' O' (fun F25 A25 H O' eF25 eA25 => ?_)
        have O := OUT_trans O O'
        -- BitSource.take
        have r26 : (-2147483648 : Int) ≤ y25_0_2 ∧ y25_0_2 ≤ 2147483647 := by have h1 : (-2147483648 : Int) ≤ F25 12 2 ∧ F25 12 2 ≤ 2147483647 := H.krg 12 2 (by decide); rw [show F25 12 2 = y25_0_2 from ((eF25 12 2).trans ey25_0_2)] at h1; exact h1
        have hv2 := pz25_3
        rw [pk_y (by omega)] at hv2
        refine w_l2i rfl ?_
        refine Ew_of (pc' := 88) (fun _ => x_istore rfl) ?_
        refine Ew_of (pc' := 89) (fun _ => x_iconst rfl) ?_
        refine Ew_of (pc' := 91) (fun _ => x_istore rfl) ?_
        have hw0 : WTS ((w2)) 0 := fun i a b => by omega
        have : WBO (ub8 ((w1))) ((a2)) ((a3)) (WP_) (oo_) (q4) ((z23)) ((z25)) ((y25_0_2)) ((0)) ((w2)) := WBO_0 hQ_ (by omega) ho1 (by omega) (by rw [← k2_]; exact hv1) (by omega) (by rw [← k2_]; exact hv2) (by omega) (by omega) rfl
        suffices hl91 : ∀ (m : Nat), ∀ (ls : rO) (σ : rS) (F_91 : hF) (A_91 : hA) (x91_5 : Int) (x91_6 : Int) (x91_7 : Int), rlook ls 0 = some (.ref (D 0)) → rlook ls 5 = some (I (x91_5)) → rlook ls 6 = some (I (x91_6)) → rlook ls 7 = some (I (x91_7)) → HW V108_Br σ D N F_91 A_91 → OUT (V108_Br).length D N σE c s D N σ c s → SF [(12, 2)] F25 F_91 → SA [2] A25 A_91 → ∀ y91_12_2 : Int, F_91 12 2 = y91_12_2 → ∀ w91_2 : Int → Int, A_91 2 = w91_2 → (inr (x91_5)) → (inr (x91_6)) → (inr (x91_7)) → ((0) ≤ (x91_7)) → ((x91_7) ≤ (0) ∨ (x91_7) ≤ ((254))) → (0 ≤ (x91_5) ∧ (x91_5) < p2 ((y13_0_0))) → (0 ≤ (x91_6) ∧ (x91_6) < p2 ((y13_0_0))) → (0 ≤ (y91_12_2) ∧ (y91_12_2) ≤ 8 * ((n1) - (y18_0_1))) → (WTS ((w91_2)) (x91_7)) → (WBO (ub8 ((w1))) ((a2)) ((a3)) (WP_) (oo_) (q4) ((x91_5)) ((x91_6)) ((y91_12_2)) ((x91_7)) ((w91_2))) → (((254)) - (x91_7)).toNat = m → Ew 108 (d + 2) 91 ls [] σ c s Q from
          hl91 _ _ _ _ _ (z23) (z25) (0) (rk_o (rk_o (rk_o (rk_o (rfl) rfl rfl) rfl rfl) rfl rfl) rfl rfl) (rk_o (rk_o (rk_s) rfl rfl) rfl rfl) (rk_o (rk_s) rfl rfl) (rk_s) H O (SF_refl) (SA_refl)   (y25_0_2) (((eF25 12 2).trans ey25_0_2)) (w2) (((show A25 2 = A23 2 from (eA25 2))).trans (((show A23 2 = A18 2 from (eA23 2))).trans (((show A18 2 = A13 2 from (eA18 2))).trans (((show A13 2 = A 2 from (eA13 2))).trans (ew2))))) (show inr (z23) by omega) (show inr (z25) by omega) (show inr (0) by omega) (show (0) ≤ (0) by omega) (show (0) ≤ (0) ∨ (0) ≤ ((254)) by omega) (show 0 ≤ (z23) ∧ (z23) < p2 ((y13_0_0)) by omega) (show 0 ≤ (z25) ∧ (z25) < p2 ((y13_0_0)) by omega) (show 0 ≤ (y25_0_2) ∧ (y25_0_2) ≤ 8 * ((n1) - (y18_0_1)) by omega) (show WTS ((w2)) (0) by assumption) (show WBO (ub8 ((w1))) ((a2)) ((a3)) (WP_) (oo_) (q4) ((z23)) ((z25)) ((y25_0_2)) ((0)) ((w2)) by assumption) rfl
        as_aux_lemma =>
        intro m
        induction m using Nat.strongRecOn with
        | _ m ih91 =>
          intro ls σ F_91 A_91 x91_5 x91_6 x91_7 l91_0 l91_5 l91_6 l91_7 H O hS_91 hA_91   y91_12_2 ey91_12_2 w91_2 ew91_2 j91_0 j91_1 j91_2 j91_3 j91_4 j91_5 j91_6 j91_7 j91_8 j91_9 hm91
          try clear pz13_1
          try clear pz13_2
          try clear pz18_2
          have r27 : (-2147483648 : Int) ≤ y91_12_2 ∧ y91_12_2 ≤ 2147483647 := by have h1 : (-2147483648 : Int) ≤ F_91 12 2 ∧ F_91 12 2 ≤ 2147483647 := H.krg 12 2 (by decide); rw [show F_91 12 2 = y91_12_2 from (ey91_12_2)] at h1; exact h1
          have hpo2 : p2 oo_ = p2 ((y13_0_0)) := by rw [k2_]
          have j91_o : WBO (ub8 ((w1))) ((a2)) ((a3)) (WP_) (oo_) (q4) ((x91_5)) ((x91_6)) ((y91_12_2)) ((x91_7)) ((w91_2)) := by assumption
          refine Ew_of (pc' := 93) (fun _ => x_iload rfl l91_7) ?_
          refine Ew_of (pc' := 96) (fun _ => x_sipush (z := 254) rfl (by decide)) ?_
          refine w_icmpge (t := 197) rfl rfl (show inr (x91_7) by omega) (show inr (254) by omega) (fun b28 => ?_) (fun b28 => ?_)
          · have hwz2 : WTS ((w91_2)) 0 := fun i a b => by omega
            have : WBA (ub8 ((w1))) ((a2)) ((a3)) (0) 0 ((w91_2)) := WBO_n j91_o (by omega) rfl
            refine Ew_of (pc' := 198) (fun _ => x_iconst rfl) ?_
            exact w_ireturn rfl (k (0) _ _ _ H O (SF_trans (SF_trans (SF_trans (SF_trans (SF_trans (SF_refl) (SF_glu (ι := [3, 1, 10, 4, 5, 6, 7, 8, 9, 11]) hS13 eF13 (by decide +kernel)) (any_sub (l' := [(3, 0), (3, 10), (3, 11), (3, 12)]) rfl)) (SF_glu (ι := [12, 1]) hS18 eF18 (by decide +kernel)) (any_sub (l' := [(12, 0), (12, 1), (12, 2)]) rfl)) (SF_glu (ι := [12, 1]) hS23 eF23 (by decide +kernel)) (any_sub (l' := [(12, 2)]) rfl)) (SF_glu (ι := [12, 1]) hS25 eF25 (by decide +kernel)) (any_sub (l' := [(12, 2)]) rfl)) hS_91 (any_sub rfl)) (SA_trans (SA_trans (SA_trans (SA_trans (SA_trans (SA_refl) (SA_glu (ι := [3, 1, 10, 4, 5, 6, 7, 8, 9, 11]) hA13 eA13 (by decide +kernel)) (any_subA (l' := [4, 5, 6, 7, 8, 9, 10, 11]) rfl)) (SA_glu (ι := [12, 1]) hA18 eA18 (by decide +kernel)) (any_subA (l' := []) rfl)) (SA_glu (ι := [12, 1]) hA23 eA23 (by decide +kernel)) (any_subA (l' := []) rfl)) (SA_glu (ι := [12, 1]) hA25 eA25 (by decide +kernel)) (any_subA (l' := []) rfl)) hA_91 (any_subA rfl)) (w91_2) (ew91_2) (show inr (0) by omega) (show 0 ≤ (0) ∧ (0) ≤ 255 by omega) (show WTS ((w91_2)) (0) by assumption) (show WBA (ub8 ((w1))) (a2) (a3) ((0)) 0 ((w91_2)) by assumption))
          · refine Ew_of (pc' := 100) (fun _ => x_aload_n rfl l91_0) ?_
            refine v_g H (o := 0) (v := .ref (D 2)) rfl rfl rfl rfl rfl (vrf (((((((hS_91 0 4 rfl).trans ((show F25 0 4 = F23 0 4 from (eF25 0 4)))).trans ((show F23 0 4 = F18 0 4 from (eF23 0 4)))).trans ((show F18 0 4 = F13 0 4 from (eF18 0 4)))).trans ((show F13 0 4 = F 0 4 from (eF13 0 4))))).trans (pf2))) ?_
            refine Ew_of (pc' := 105) (fun _ => x_iload rfl l91_7) ?_
            refine Ew_of (pc' := 106) (fun _ => x_aload_n rfl l91_0) ?_
            refine v_g H (o := 0) (v := .ref (D 3)) rfl rfl rfl rfl rfl (vrf (((((((hS_91 0 6 rfl).trans ((show F25 0 6 = F23 0 6 from (eF25 0 6)))).trans ((show F23 0 6 = F18 0 6 from (eF23 0 6)))).trans ((show F18 0 6 = F13 0 6 from (eF18 0 6)))).trans ((show F13 0 6 = F 0 6 from (eF13 0 6))))).trans (pf3))) ?_
            refine Ew_of (pc' := 111) (fun _ => x_iload rfl l91_5) ?_
            refine v_inv H (o := 3) rfl rfl rfl rfl rfl rfl (by rfl) (C171 (D := pul [3, 4, 5, 6, 7, 10, 9, 11, 8] D) (N := pul [3, 4, 5, 6, 7, 10, 9, 11, 8] N) (HW_sub H (VS_of (show vsub V108_Br V171 [3, 4, 5, 6, 7, 10, 9, 11, 8] = true by decide +kernel))) (((((((hS_91 3 2 rfl).trans ((show F25 3 2 = F23 3 2 from (eF25 3 2)))).trans ((show F23 3 2 = F18 3 2 from (eF23 3 2)))).trans ((show F18 3 2 = F13 3 2 from (eF18 3 2)))).trans ((show F13 3 2 = F 3 2 from (eF13 3 2).trans (hS13 0 2 rfl))))).trans (pf4)) (((((((hS_91 3 3 rfl).trans ((show F25 3 3 = F23 3 3 from (eF25 3 3)))).trans ((show F23 3 3 = F18 3 3 from (eF23 3 3)))).trans ((show F18 3 3 = F13 3 3 from (eF18 3 3)))).trans ((show F13 3 3 = F 3 3 from (eF13 3 3).trans (hS13 0 3 rfl))))).trans (pf5)) (((((((hS_91 3 4 rfl).trans ((show F25 3 4 = F23 3 4 from (eF25 3 4)))).trans ((show F23 3 4 = F18 3 4 from (eF23 3 4)))).trans ((show F18 3 4 = F13 3 4 from (eF18 3 4)))).trans ((show F13 3 4 = F 3 4 from (eF13 3 4).trans (hS13 0 4 rfl))))).trans (pf6)) (((((((hS_91 3 5 rfl).trans ((show F25 3 5 = F23 3 5 from (eF25 3 5)))).trans ((show F23 3 5 = F18 3 5 from (eF23 3 5)))).trans ((show F18 3 5 = F13 3 5 from (eF18 3 5)))).trans ((show F13 3 5 = F 3 5 from (eF13 3 5).trans (hS13 0 5 rfl))))).trans (pf7)) (((((((hS_91 3 7 rfl).trans ((show F25 3 7 = F23 3 7 from (eF25 3 7)))).trans ((show F23 3 7 = F18 3 7 from (eF23 3 7)))).trans ((show F18 3 7 = F13 3 7 from (eF18 3 7)))).trans ((show F13 3 7 = F 3 7 from (eF13 3 7).trans (hS13 0 7 rfl))))).trans (pf10)) (((((((hS_91 3 8 rfl).trans ((show F25 3 8 = F23 3 8 from (eF25 3 8)))).trans ((show F23 3 8 = F18 3 8 from (eF23 3 8)))).trans ((show F18 3 8 = F13 3 8 from (eF18 3 8)))).trans ((show F13 3 8 = F 3 8 from (eF13 3 8).trans (hS13 0 8 rfl))))).trans (pf9)) (((((((hS_91 3 9 rfl).trans ((show F25 3 9 = F23 3 9 from (eF25 3 9)))).trans ((show F23 3 9 = F18 3 9 from (eF23 3 9)))).trans ((show F18 3 9 = F13 3 9 from (eF18 3 9)))).trans ((show F13 3 9 = F 3 9 from (eF13 3 9).trans (hS13 0 9 rfl))))).trans (pf11)) (((((((hS_91 3 6 rfl).trans ((show F25 3 6 = F23 3 6 from (eF25 3 6)))).trans ((show F23 3 6 = F18 3 6 from (eF23 3 6)))).trans ((show F18 3 6 = F13 3 6 from (eF18 3 6)))).trans ((show F13 3 6 = F 3 6 from (eF13 3 6).trans (hS13 0 6 rfl))))).trans (pf8)) (n4) (en4) (n5) (en5) (n6) (en6) (n7) (en7) (n10) (en10) (n9) (en9) (n11) (en11) (n8) (en8) (y13_0_0) ((((((hS_91 3 0 rfl).trans ((show F25 3 0 = F23 3 0 from (eF25 3 0)))).trans ((show F23 3 0 = F18 3 0 from (eF23 3 0)))).trans ((show F18 3 0 = F13 3 0 from (eF18 3 0)))).trans ((eF13 3 0).trans ey13_0_0))) (u3_1) (((((((hS_91 3 1 rfl).trans ((show F25 3 1 = F23 3 1 from (eF25 3 1)))).trans ((show F23 3 1 = F18 3 1 from (eF23 3 1)))).trans ((show F18 3 1 = F13 3 1 from (eF18 3 1)))).trans ((show F13 3 1 = F 3 1 from (eF13 3 1).trans (hS13 0 1 rfl)))).trans (eu3_1))) (w13_3) ((funext (hA_91 4 rfl)).trans (((show A25 4 = A23 4 from (eA25 4))).trans (((show A23 4 = A18 4 from (eA23 4))).trans (((show A18 4 = A13 4 from (eA18 4))).trans ((eA13 4).trans ew13_3))))) (w13_4) ((funext (hA_91 5 rfl)).trans (((show A25 5 = A23 5 from (eA25 5))).trans (((show A23 5 = A18 5 from (eA23 5))).trans (((show A18 5 = A13 5 from (eA18 5))).trans ((eA13 5).trans ew13_4))))) (w13_5) ((funext (hA_91 6 rfl)).trans (((show A25 6 = A23 6 from (eA25 6))).trans (((show A23 6 = A18 6 from (eA23 6))).trans (((show A18 6 = A13 6 from (eA18 6))).trans ((eA13 6).trans ew13_5))))) (w13_6) ((funext (hA_91 7 rfl)).trans (((show A25 7 = A23 7 from (eA25 7))).trans (((show A23 7 = A18 7 from (eA23 7))).trans (((show A18 7 = A13 7 from (eA18 7))).trans ((eA13 7).trans ew13_6))))) (w13_2) ((funext (hA_91 10 rfl)).trans (((show A25 10 = A23 10 from (eA25 10))).trans (((show A23 10 = A18 10 from (eA23 10))).trans (((show A18 10 = A13 10 from (eA18 10))).trans ((eA13 10).trans ew13_2))))) (w13_8) ((funext (hA_91 9 rfl)).trans (((show A25 9 = A23 9 from (eA25 9))).trans (((show A23 9 = A18 9 from (eA23 9))).trans (((show A18 9 = A13 9 from (eA18 9))).trans ((eA13 9).trans ew13_8))))) (w13_9) ((funext (hA_91 11 rfl)).trans (((show A25 11 = A23 11 from (eA25 11))).trans (((show A23 11 = A18 11 from (eA23 11))).trans (((show A18 11 = A13 11 from (eA18 11))).trans ((eA13 11).trans ew13_9))))) (show inr (x91_5) by omega) (show SL ((w13_3)) ((u3_1)) ((y13_0_0)) ((w13_4)) ((w13_5)) ((w13_6)) ((w13_2)) ((w13_8)) ((w13_9)) by assumption) (show (n4) = (u3_1) ∧ (n5) = (u3_1) ∧ (n6) = (u3_1) ∧ (n7) = (u3_1) ∧ (n8) = (u3_1) ∧ (n9) = (n10) ∧ (n11) = (n10) ∧ p2 ((y13_0_0)) ≤ (n10) by omega) (show 0 ≤ (x91_5) ∧ (x91_5) < p2 ((y13_0_0)) by omega) (fun z29 σ29 F29' A29' H' O' hS29 hA29 pz29_0 pz29_1 pz29_2 pz29_3 => ⟨rfl, ?_⟩))
            refine v_back (c := c) (s := s) H (show vsub V108_Br V171 [3, 4, 5, 6, 7, 10, 9, 11, 8] = true by decide +kernel) H' O' (fun F29 A29 H O' eF29 eA29 => ?_)
            have O := OUT_trans O O'
            -- Share.symbolOf
            have hsy5 : (z29) = ((w13_2)) ((x91_5)) := pz29_1
            refine v_sI H (o := 2) (z := z29) rfl rfl rfl rfl (n := n2) (en2) (show 0 ≤ x91_7 ∧ x91_7 < n2 by omega) (show inr (z29) by omega) (fun σ H O' => ?_)
            have O := OUT_trans O O'
            refine Ew_of (pc' := 116) (fun _ => x_aload_n rfl l91_0) ?_
            refine v_g H (o := 0) (v := .ref (D 3)) rfl rfl rfl rfl rfl (vrf (((((((((show F29 0 6 = F_91 0 6 from (eF29 0 6))).trans (hS_91 0 6 rfl)).trans ((show F25 0 6 = F23 0 6 from (eF25 0 6)))).trans ((show F23 0 6 = F18 0 6 from (eF23 0 6)))).trans ((show F18 0 6 = F13 0 6 from (eF18 0 6)))).trans ((show F13 0 6 = F 0 6 from (eF13 0 6))))).trans (pf3))) ?_
            refine Ew_of (pc' := 121) (fun _ => x_iload rfl l91_5) ?_
            refine v_inv H (o := 3) rfl rfl rfl rfl rfl rfl (by rfl) (C172 (D := pul [3, 4, 5, 6, 7, 10, 9, 11, 8] D) (N := pul [3, 4, 5, 6, 7, 10, 9, 11, 8] N) (HW_sub H (VS_of (show vsub V108_Br V172 [3, 4, 5, 6, 7, 10, 9, 11, 8] = true by decide +kernel))) (((((((((show F29 3 2 = F_91 3 2 from (eF29 3 2).trans (hS29 0 2 rfl))).trans (hS_91 3 2 rfl)).trans ((show F25 3 2 = F23 3 2 from (eF25 3 2)))).trans ((show F23 3 2 = F18 3 2 from (eF23 3 2)))).trans ((show F18 3 2 = F13 3 2 from (eF18 3 2)))).trans ((show F13 3 2 = F 3 2 from (eF13 3 2).trans (hS13 0 2 rfl))))).trans (pf4)) (((((((((show F29 3 3 = F_91 3 3 from (eF29 3 3).trans (hS29 0 3 rfl))).trans (hS_91 3 3 rfl)).trans ((show F25 3 3 = F23 3 3 from (eF25 3 3)))).trans ((show F23 3 3 = F18 3 3 from (eF23 3 3)))).trans ((show F18 3 3 = F13 3 3 from (eF18 3 3)))).trans ((show F13 3 3 = F 3 3 from (eF13 3 3).trans (hS13 0 3 rfl))))).trans (pf5)) (((((((((show F29 3 4 = F_91 3 4 from (eF29 3 4).trans (hS29 0 4 rfl))).trans (hS_91 3 4 rfl)).trans ((show F25 3 4 = F23 3 4 from (eF25 3 4)))).trans ((show F23 3 4 = F18 3 4 from (eF23 3 4)))).trans ((show F18 3 4 = F13 3 4 from (eF18 3 4)))).trans ((show F13 3 4 = F 3 4 from (eF13 3 4).trans (hS13 0 4 rfl))))).trans (pf6)) (((((((((show F29 3 5 = F_91 3 5 from (eF29 3 5).trans (hS29 0 5 rfl))).trans (hS_91 3 5 rfl)).trans ((show F25 3 5 = F23 3 5 from (eF25 3 5)))).trans ((show F23 3 5 = F18 3 5 from (eF23 3 5)))).trans ((show F18 3 5 = F13 3 5 from (eF18 3 5)))).trans ((show F13 3 5 = F 3 5 from (eF13 3 5).trans (hS13 0 5 rfl))))).trans (pf7)) (((((((((show F29 3 7 = F_91 3 7 from (eF29 3 7).trans (hS29 0 7 rfl))).trans (hS_91 3 7 rfl)).trans ((show F25 3 7 = F23 3 7 from (eF25 3 7)))).trans ((show F23 3 7 = F18 3 7 from (eF23 3 7)))).trans ((show F18 3 7 = F13 3 7 from (eF18 3 7)))).trans ((show F13 3 7 = F 3 7 from (eF13 3 7).trans (hS13 0 7 rfl))))).trans (pf10)) (((((((((show F29 3 8 = F_91 3 8 from (eF29 3 8).trans (hS29 0 8 rfl))).trans (hS_91 3 8 rfl)).trans ((show F25 3 8 = F23 3 8 from (eF25 3 8)))).trans ((show F23 3 8 = F18 3 8 from (eF23 3 8)))).trans ((show F18 3 8 = F13 3 8 from (eF18 3 8)))).trans ((show F13 3 8 = F 3 8 from (eF13 3 8).trans (hS13 0 8 rfl))))).trans (pf9)) (((((((((show F29 3 9 = F_91 3 9 from (eF29 3 9).trans (hS29 0 9 rfl))).trans (hS_91 3 9 rfl)).trans ((show F25 3 9 = F23 3 9 from (eF25 3 9)))).trans ((show F23 3 9 = F18 3 9 from (eF23 3 9)))).trans ((show F18 3 9 = F13 3 9 from (eF18 3 9)))).trans ((show F13 3 9 = F 3 9 from (eF13 3 9).trans (hS13 0 9 rfl))))).trans (pf11)) (((((((((show F29 3 6 = F_91 3 6 from (eF29 3 6).trans (hS29 0 6 rfl))).trans (hS_91 3 6 rfl)).trans ((show F25 3 6 = F23 3 6 from (eF25 3 6)))).trans ((show F23 3 6 = F18 3 6 from (eF23 3 6)))).trans ((show F18 3 6 = F13 3 6 from (eF18 3 6)))).trans ((show F13 3 6 = F 3 6 from (eF13 3 6).trans (hS13 0 6 rfl))))).trans (pf8)) (n4) (en4) (n5) (en5) (n6) (en6) (n7) (en7) (n10) (en10) (n9) (en9) (n11) (en11) (n8) (en8) (y13_0_0) ((((((((show F29 3 0 = F_91 3 0 from (eF29 3 0).trans (hS29 0 0 rfl))).trans (hS_91 3 0 rfl)).trans ((show F25 3 0 = F23 3 0 from (eF25 3 0)))).trans ((show F23 3 0 = F18 3 0 from (eF23 3 0)))).trans ((show F18 3 0 = F13 3 0 from (eF18 3 0)))).trans ((eF13 3 0).trans ey13_0_0))) (u3_1) (((((((((show F29 3 1 = F_91 3 1 from (eF29 3 1).trans (hS29 0 1 rfl))).trans (hS_91 3 1 rfl)).trans ((show F25 3 1 = F23 3 1 from (eF25 3 1)))).trans ((show F23 3 1 = F18 3 1 from (eF23 3 1)))).trans ((show F18 3 1 = F13 3 1 from (eF18 3 1)))).trans ((show F13 3 1 = F 3 1 from (eF13 3 1).trans (hS13 0 1 rfl)))).trans (eu3_1))) (w13_3) (((show A29 4 = A_91 4 from (eA29 4).trans (funext (hA29 1 rfl)))).trans ((funext (hA_91 4 rfl)).trans (((show A25 4 = A23 4 from (eA25 4))).trans (((show A23 4 = A18 4 from (eA23 4))).trans (((show A18 4 = A13 4 from (eA18 4))).trans ((eA13 4).trans ew13_3)))))) (w13_4) (((show A29 5 = A_91 5 from (eA29 5).trans (funext (hA29 2 rfl)))).trans ((funext (hA_91 5 rfl)).trans (((show A25 5 = A23 5 from (eA25 5))).trans (((show A23 5 = A18 5 from (eA23 5))).trans (((show A18 5 = A13 5 from (eA18 5))).trans ((eA13 5).trans ew13_4)))))) (w13_5) (((show A29 6 = A_91 6 from (eA29 6).trans (funext (hA29 3 rfl)))).trans ((funext (hA_91 6 rfl)).trans (((show A25 6 = A23 6 from (eA25 6))).trans (((show A23 6 = A18 6 from (eA23 6))).trans (((show A18 6 = A13 6 from (eA18 6))).trans ((eA13 6).trans ew13_5)))))) (w13_6) (((show A29 7 = A_91 7 from (eA29 7).trans (funext (hA29 4 rfl)))).trans ((funext (hA_91 7 rfl)).trans (((show A25 7 = A23 7 from (eA25 7))).trans (((show A23 7 = A18 7 from (eA23 7))).trans (((show A18 7 = A13 7 from (eA18 7))).trans ((eA13 7).trans ew13_6)))))) (w13_2) (((show A29 10 = A_91 10 from (eA29 10).trans (funext (hA29 5 rfl)))).trans ((funext (hA_91 10 rfl)).trans (((show A25 10 = A23 10 from (eA25 10))).trans (((show A23 10 = A18 10 from (eA23 10))).trans (((show A18 10 = A13 10 from (eA18 10))).trans ((eA13 10).trans ew13_2)))))) (w13_8) (((show A29 9 = A_91 9 from (eA29 9).trans (funext (hA29 6 rfl)))).trans ((funext (hA_91 9 rfl)).trans (((show A25 9 = A23 9 from (eA25 9))).trans (((show A23 9 = A18 9 from (eA23 9))).trans (((show A18 9 = A13 9 from (eA18 9))).trans ((eA13 9).trans ew13_8)))))) (w13_9) (((show A29 11 = A_91 11 from (eA29 11).trans (funext (hA29 7 rfl)))).trans ((funext (hA_91 11 rfl)).trans (((show A25 11 = A23 11 from (eA25 11))).trans (((show A23 11 = A18 11 from (eA23 11))).trans (((show A18 11 = A13 11 from (eA18 11))).trans ((eA13 11).trans ew13_9)))))) (show inr (x91_5) by omega) (show SL ((w13_3)) ((u3_1)) ((y13_0_0)) ((w13_4)) ((w13_5)) ((w13_6)) ((w13_2)) ((w13_8)) ((w13_9)) by assumption) (show (n4) = (u3_1) ∧ (n5) = (u3_1) ∧ (n6) = (u3_1) ∧ (n7) = (u3_1) ∧ (n8) = (u3_1) ∧ (n9) = (n10) ∧ (n11) = (n10) ∧ p2 ((y13_0_0)) ≤ (n10) by omega) (show 0 ≤ (x91_5) ∧ (x91_5) < p2 ((y13_0_0)) by omega) (fun z30 σ30 F30' A30' H' O' hS30 hA30 pz30_0 pz30_1 pz30_2 => ⟨rfl, ?_⟩))
            refine v_back (c := c) (s := s) H (show vsub V108_Br V172 [3, 4, 5, 6, 7, 10, 9, 11, 8] = true by decide +kernel) H' O' (fun F30 A30 H O' eF30 eA30 => ?_)
            have O := OUT_trans O O'
            -- Share.bitsBehind
            have hbb5 := pz30_1
            refine Ew_of (pc' := 126) (fun _ => x_istore rfl) ?_
            refine Ew_of (pc' := 127) (fun _ => x_aload_n rfl (rk_o (l91_0) rfl rfl)) ?_
            refine v_g H (o := 0) (v := .ref (D 12)) rfl rfl rfl rfl rfl (vrf ((((((((((show F30 0 9 = F29 0 9 from (eF30 0 9))).trans ((show F29 0 9 = F_91 0 9 from (eF29 0 9)))).trans (hS_91 0 9 rfl)).trans ((show F25 0 9 = F23 0 9 from (eF25 0 9)))).trans ((show F23 0 9 = F18 0 9 from (eF23 0 9)))).trans ((show F18 0 9 = F13 0 9 from (eF18 0 9)))).trans ((show F13 0 9 = F 0 9 from (eF13 0 9))))).trans (pf12))) ?_
            refine v_g H (o := 12) (v := I (y91_12_2)) rfl rfl rfl rfl rfl (congrArg (fun z : Int => I z) (((((show F30 12 2 = F29 12 2 from (eF30 12 2))).trans ((show F29 12 2 = F_91 12 2 from (eF29 12 2)))).trans (ey91_12_2)) : F30 12 2 = y91_12_2)) ?_
            refine Ew_of (pc' := 135) (fun _ => x_iload rfl rk_s) ?_
            refine w_icmpge (t := 161) rfl rfl (show inr (y91_12_2) by omega) (show inr (z30) by omega) (fun b31 => ?_) (fun b31 => ?_)
            · refine Ew_of (pc' := 162) (fun _ => x_aload_n rfl (rk_o (l91_0) rfl rfl)) ?_
              refine v_g H (o := 0) (v := .ref (D 3)) rfl rfl rfl rfl rfl (vrf ((((((((((show F30 0 6 = F29 0 6 from (eF30 0 6))).trans ((show F29 0 6 = F_91 0 6 from (eF29 0 6)))).trans (hS_91 0 6 rfl)).trans ((show F25 0 6 = F23 0 6 from (eF25 0 6)))).trans ((show F23 0 6 = F18 0 6 from (eF23 0 6)))).trans ((show F18 0 6 = F13 0 6 from (eF18 0 6)))).trans ((show F13 0 6 = F 0 6 from (eF13 0 6))))).trans (pf3))) ?_
              refine Ew_of (pc' := 167) (fun _ => x_iload rfl (rk_o (l91_5) rfl rfl)) ?_
              refine v_inv H (o := 3) rfl rfl rfl rfl rfl rfl (by rfl) (C173 (D := pul [3, 4, 5, 6, 7, 10, 9, 11, 8] D) (N := pul [3, 4, 5, 6, 7, 10, 9, 11, 8] N) (HW_sub H (VS_of (show vsub V108_Br V173 [3, 4, 5, 6, 7, 10, 9, 11, 8] = true by decide +kernel))) ((((((((((show F30 3 2 = F29 3 2 from (eF30 3 2).trans (hS30 0 2 rfl))).trans ((show F29 3 2 = F_91 3 2 from (eF29 3 2).trans (hS29 0 2 rfl)))).trans (hS_91 3 2 rfl)).trans ((show F25 3 2 = F23 3 2 from (eF25 3 2)))).trans ((show F23 3 2 = F18 3 2 from (eF23 3 2)))).trans ((show F18 3 2 = F13 3 2 from (eF18 3 2)))).trans ((show F13 3 2 = F 3 2 from (eF13 3 2).trans (hS13 0 2 rfl))))).trans (pf4)) ((((((((((show F30 3 3 = F29 3 3 from (eF30 3 3).trans (hS30 0 3 rfl))).trans ((show F29 3 3 = F_91 3 3 from (eF29 3 3).trans (hS29 0 3 rfl)))).trans (hS_91 3 3 rfl)).trans ((show F25 3 3 = F23 3 3 from (eF25 3 3)))).trans ((show F23 3 3 = F18 3 3 from (eF23 3 3)))).trans ((show F18 3 3 = F13 3 3 from (eF18 3 3)))).trans ((show F13 3 3 = F 3 3 from (eF13 3 3).trans (hS13 0 3 rfl))))).trans (pf5)) ((((((((((show F30 3 4 = F29 3 4 from (eF30 3 4).trans (hS30 0 4 rfl))).trans ((show F29 3 4 = F_91 3 4 from (eF29 3 4).trans (hS29 0 4 rfl)))).trans (hS_91 3 4 rfl)).trans ((show F25 3 4 = F23 3 4 from (eF25 3 4)))).trans ((show F23 3 4 = F18 3 4 from (eF23 3 4)))).trans ((show F18 3 4 = F13 3 4 from (eF18 3 4)))).trans ((show F13 3 4 = F 3 4 from (eF13 3 4).trans (hS13 0 4 rfl))))).trans (pf6)) ((((((((((show F30 3 5 = F29 3 5 from (eF30 3 5).trans (hS30 0 5 rfl))).trans ((show F29 3 5 = F_91 3 5 from (eF29 3 5).trans (hS29 0 5 rfl)))).trans (hS_91 3 5 rfl)).trans ((show F25 3 5 = F23 3 5 from (eF25 3 5)))).trans ((show F23 3 5 = F18 3 5 from (eF23 3 5)))).trans ((show F18 3 5 = F13 3 5 from (eF18 3 5)))).trans ((show F13 3 5 = F 3 5 from (eF13 3 5).trans (hS13 0 5 rfl))))).trans (pf7)) ((((((((((show F30 3 7 = F29 3 7 from (eF30 3 7).trans (hS30 0 7 rfl))).trans ((show F29 3 7 = F_91 3 7 from (eF29 3 7).trans (hS29 0 7 rfl)))).trans (hS_91 3 7 rfl)).trans ((show F25 3 7 = F23 3 7 from (eF25 3 7)))).trans ((show F23 3 7 = F18 3 7 from (eF23 3 7)))).trans ((show F18 3 7 = F13 3 7 from (eF18 3 7)))).trans ((show F13 3 7 = F 3 7 from (eF13 3 7).trans (hS13 0 7 rfl))))).trans (pf10)) ((((((((((show F30 3 8 = F29 3 8 from (eF30 3 8).trans (hS30 0 8 rfl))).trans ((show F29 3 8 = F_91 3 8 from (eF29 3 8).trans (hS29 0 8 rfl)))).trans (hS_91 3 8 rfl)).trans ((show F25 3 8 = F23 3 8 from (eF25 3 8)))).trans ((show F23 3 8 = F18 3 8 from (eF23 3 8)))).trans ((show F18 3 8 = F13 3 8 from (eF18 3 8)))).trans ((show F13 3 8 = F 3 8 from (eF13 3 8).trans (hS13 0 8 rfl))))).trans (pf9)) ((((((((((show F30 3 9 = F29 3 9 from (eF30 3 9).trans (hS30 0 9 rfl))).trans ((show F29 3 9 = F_91 3 9 from (eF29 3 9).trans (hS29 0 9 rfl)))).trans (hS_91 3 9 rfl)).trans ((show F25 3 9 = F23 3 9 from (eF25 3 9)))).trans ((show F23 3 9 = F18 3 9 from (eF23 3 9)))).trans ((show F18 3 9 = F13 3 9 from (eF18 3 9)))).trans ((show F13 3 9 = F 3 9 from (eF13 3 9).trans (hS13 0 9 rfl))))).trans (pf11)) ((((((((((show F30 3 6 = F29 3 6 from (eF30 3 6).trans (hS30 0 6 rfl))).trans ((show F29 3 6 = F_91 3 6 from (eF29 3 6).trans (hS29 0 6 rfl)))).trans (hS_91 3 6 rfl)).trans ((show F25 3 6 = F23 3 6 from (eF25 3 6)))).trans ((show F23 3 6 = F18 3 6 from (eF23 3 6)))).trans ((show F18 3 6 = F13 3 6 from (eF18 3 6)))).trans ((show F13 3 6 = F 3 6 from (eF13 3 6).trans (hS13 0 6 rfl))))).trans (pf8)) (n4) (en4) (n5) (en5) (n6) (en6) (n7) (en7) (n10) (en10) (n9) (en9) (n11) (en11) (n8) (en8) (y13_0_0) (((((((((show F30 3 0 = F29 3 0 from (eF30 3 0).trans (hS30 0 0 rfl))).trans ((show F29 3 0 = F_91 3 0 from (eF29 3 0).trans (hS29 0 0 rfl)))).trans (hS_91 3 0 rfl)).trans ((show F25 3 0 = F23 3 0 from (eF25 3 0)))).trans ((show F23 3 0 = F18 3 0 from (eF23 3 0)))).trans ((show F18 3 0 = F13 3 0 from (eF18 3 0)))).trans ((eF13 3 0).trans ey13_0_0))) (u3_1) ((((((((((show F30 3 1 = F29 3 1 from (eF30 3 1).trans (hS30 0 1 rfl))).trans ((show F29 3 1 = F_91 3 1 from (eF29 3 1).trans (hS29 0 1 rfl)))).trans (hS_91 3 1 rfl)).trans ((show F25 3 1 = F23 3 1 from (eF25 3 1)))).trans ((show F23 3 1 = F18 3 1 from (eF23 3 1)))).trans ((show F18 3 1 = F13 3 1 from (eF18 3 1)))).trans ((show F13 3 1 = F 3 1 from (eF13 3 1).trans (hS13 0 1 rfl)))).trans (eu3_1))) (w13_3) (((show A30 4 = (updA A29 2 (x91_7) (z29)) 4 from (eA30 4).trans (funext (hA30 1 rfl)))).trans (((show A29 4 = A_91 4 from (eA29 4).trans (funext (hA29 1 rfl)))).trans ((funext (hA_91 4 rfl)).trans (((show A25 4 = A23 4 from (eA25 4))).trans (((show A23 4 = A18 4 from (eA23 4))).trans (((show A18 4 = A13 4 from (eA18 4))).trans ((eA13 4).trans ew13_3))))))) (w13_4) (((show A30 5 = (updA A29 2 (x91_7) (z29)) 5 from (eA30 5).trans (funext (hA30 2 rfl)))).trans (((show A29 5 = A_91 5 from (eA29 5).trans (funext (hA29 2 rfl)))).trans ((funext (hA_91 5 rfl)).trans (((show A25 5 = A23 5 from (eA25 5))).trans (((show A23 5 = A18 5 from (eA23 5))).trans (((show A18 5 = A13 5 from (eA18 5))).trans ((eA13 5).trans ew13_4))))))) (w13_5) (((show A30 6 = (updA A29 2 (x91_7) (z29)) 6 from (eA30 6).trans (funext (hA30 3 rfl)))).trans (((show A29 6 = A_91 6 from (eA29 6).trans (funext (hA29 3 rfl)))).trans ((funext (hA_91 6 rfl)).trans (((show A25 6 = A23 6 from (eA25 6))).trans (((show A23 6 = A18 6 from (eA23 6))).trans (((show A18 6 = A13 6 from (eA18 6))).trans ((eA13 6).trans ew13_5))))))) (w13_6) (((show A30 7 = (updA A29 2 (x91_7) (z29)) 7 from (eA30 7).trans (funext (hA30 4 rfl)))).trans (((show A29 7 = A_91 7 from (eA29 7).trans (funext (hA29 4 rfl)))).trans ((funext (hA_91 7 rfl)).trans (((show A25 7 = A23 7 from (eA25 7))).trans (((show A23 7 = A18 7 from (eA23 7))).trans (((show A18 7 = A13 7 from (eA18 7))).trans ((eA13 7).trans ew13_6))))))) (w13_2) (((show A30 10 = (updA A29 2 (x91_7) (z29)) 10 from (eA30 10).trans (funext (hA30 5 rfl)))).trans (((show A29 10 = A_91 10 from (eA29 10).trans (funext (hA29 5 rfl)))).trans ((funext (hA_91 10 rfl)).trans (((show A25 10 = A23 10 from (eA25 10))).trans (((show A23 10 = A18 10 from (eA23 10))).trans (((show A18 10 = A13 10 from (eA18 10))).trans ((eA13 10).trans ew13_2))))))) (w13_8) (((show A30 9 = (updA A29 2 (x91_7) (z29)) 9 from (eA30 9).trans (funext (hA30 6 rfl)))).trans (((show A29 9 = A_91 9 from (eA29 9).trans (funext (hA29 6 rfl)))).trans ((funext (hA_91 9 rfl)).trans (((show A25 9 = A23 9 from (eA25 9))).trans (((show A23 9 = A18 9 from (eA23 9))).trans (((show A18 9 = A13 9 from (eA18 9))).trans ((eA13 9).trans ew13_8))))))) (w13_9) (((show A30 11 = (updA A29 2 (x91_7) (z29)) 11 from (eA30 11).trans (funext (hA30 7 rfl)))).trans (((show A29 11 = A_91 11 from (eA29 11).trans (funext (hA29 7 rfl)))).trans ((funext (hA_91 11 rfl)).trans (((show A25 11 = A23 11 from (eA25 11))).trans (((show A23 11 = A18 11 from (eA23 11))).trans (((show A18 11 = A13 11 from (eA18 11))).trans ((eA13 11).trans ew13_9))))))) (show inr (x91_5) by omega) (show SL ((w13_3)) ((u3_1)) ((y13_0_0)) ((w13_4)) ((w13_5)) ((w13_6)) ((w13_2)) ((w13_8)) ((w13_9)) by assumption) (show (n4) = (u3_1) ∧ (n5) = (u3_1) ∧ (n6) = (u3_1) ∧ (n7) = (u3_1) ∧ (n8) = (u3_1) ∧ (n9) = (n10) ∧ (n11) = (n10) ∧ p2 ((y13_0_0)) ≤ (n10) by omega) (show 0 ≤ (x91_5) ∧ (x91_5) < p2 ((y13_0_0)) by omega) (fun z32 σ32 F32' A32' H' O' hS32 hA32 pz32_0 pz32_1 pz32_2 => ⟨rfl, ?_⟩))
              refine v_back (c := c) (s := s) H (show vsub V108_Br V173 [3, 4, 5, 6, 7, 10, 9, 11, 8] = true by decide +kernel) H' O' (fun F32 A32 H O' eF32 eA32 => ?_)
              have O := OUT_trans O O'
              -- Share.baseBehind
              refine Ew_of (pc' := 171) (fun _ => x_aload_n rfl (rk_o (l91_0) rfl rfl)) ?_
              refine v_g H (o := 0) (v := .ref (D 12)) rfl rfl rfl rfl rfl (vrf (((((((((((show F32 0 9 = F30 0 9 from (eF32 0 9))).trans ((show F30 0 9 = F29 0 9 from (eF30 0 9)))).trans ((show F29 0 9 = F_91 0 9 from (eF29 0 9)))).trans (hS_91 0 9 rfl)).trans ((show F25 0 9 = F23 0 9 from (eF25 0 9)))).trans ((show F23 0 9 = F18 0 9 from (eF23 0 9)))).trans ((show F18 0 9 = F13 0 9 from (eF18 0 9)))).trans ((show F13 0 9 = F 0 9 from (eF13 0 9))))).trans (pf12))) ?_
              refine Ew_of (pc' := 176) (fun _ => x_iload rfl rk_s) ?_
              refine v_inv H (o := 12) rfl rfl rfl rfl rfl rfl (by rfl) (C95 (D := pul [12, 1] D) (N := pul [12, 1] N) (HW_sub H (VS_of (show vsub V108_Br V95 [12, 1] = true by decide +kernel))) (((((((((show F32 12 0 = F30 12 0 from (eF32 12 0))).trans ((show F30 12 0 = F29 12 0 from (eF30 12 0)))).trans ((show F29 12 0 = F_91 12 0 from (eF29 12 0)))).trans (hS_91 12 0 rfl)).trans ((show F25 12 0 = F23 12 0 from (eF25 12 0).trans (hS25 0 0 rfl)))).trans ((show F23 12 0 = F18 12 0 from (eF23 12 0).trans (hS23 0 0 rfl))))).trans (pl18_0)) (n1) (en1) (y18_0_1) (((((((((show F32 12 1 = F30 12 1 from (eF32 12 1))).trans ((show F30 12 1 = F29 12 1 from (eF30 12 1)))).trans ((show F29 12 1 = F_91 12 1 from (eF29 12 1)))).trans (hS_91 12 1 rfl)).trans ((show F25 12 1 = F23 12 1 from (eF25 12 1).trans (hS25 0 1 rfl)))).trans ((show F23 12 1 = F18 12 1 from (eF23 12 1).trans (hS23 0 1 rfl)))).trans ((eF18 12 1).trans ey18_0_1))) (y91_12_2) ((((((show F32 12 2 = F30 12 2 from (eF32 12 2))).trans ((show F30 12 2 = F29 12 2 from (eF30 12 2)))).trans ((show F29 12 2 = F_91 12 2 from (eF29 12 2)))).trans (ey91_12_2))) (w1) (((show A32 1 = A30 1 from (eA32 1))).trans (((show A30 1 = (updA A29 2 (x91_7) (z29)) 1 from (eA30 1))).trans (((show A29 1 = A_91 1 from (eA29 1))).trans ((funext (hA_91 1 rfl)).trans (((show A25 1 = A23 1 from (eA25 1).trans (funext (hA25 1 rfl)))).trans (((show A23 1 = A18 1 from (eA23 1).trans (funext (hA23 1 rfl)))).trans (((show A18 1 = A13 1 from (eA18 1).trans (funext (hA18 1 rfl)))).trans (((show A13 1 = A 1 from (eA13 1).trans (funext (hA13 1 rfl)))).trans (ew1))))))))) (show inr (z30) by omega) (show 0 ≤ (z30) ∧ (z30) ≤ 31 by omega) (show 0 ≤ (y18_0_1) ∧ (y18_0_1) ≤ 65536 ∧ (y91_12_2) ≤ 8 * ((n1) - (y18_0_1)) ∧ (n1) ≤ 65536 by omega) (show -100 ≤ (y91_12_2) by omega) (fun z33 σ33 F33' A33' H' O' hS33 hA33 y33_0_2 ey33_0_2 pz33_0 pz33_1 pz33_2 pz33_3 => ⟨rfl, ?_⟩))
              refine v_back (c := c) (s := s) H (show vsub V108_Br V95 [12, 1] = true by decide +kernel) H' O' (fun F33 A33 H O' eF33 eA33 => ?_)
              have O := OUT_trans O O'
              -- BitSource.take
              have r34 : (-2147483648 : Int) ≤ y33_0_2 ∧ y33_0_2 ≤ 2147483647 := by have h1 : (-2147483648 : Int) ≤ F33 12 2 ∧ F33 12 2 ≤ 2147483647 := H.krg 12 2 (by decide); rw [show F33 12 2 = y33_0_2 from ((eF33 12 2).trans ey33_0_2)] at h1; exact h1
              have hv8 := pz33_3
              rw [pk_y (by omega)] at hv8
              refine w_l2i rfl ?_
              have hT5 := TST_s hsl (by omega) k4_ (by omega) (by omega) hbb5 pz32_1 hsy5 k2_
              have hbas := pz32_1 _ pz30_1
              refine w_iadd rfl ?_
              refine Ew_of (pc' := 183) (fun _ => x_istore rfl) ?_
              refine Ew_of (pc' := 185) (fun _ => x_iload rfl (rk_o (rk_o (l91_6) rfl rfl) rfl rfl)) ?_
              refine Ew_of (pc' := 187) (fun _ => x_istore rfl) ?_
              refine Ew_of (pc' := 189) (fun _ => x_iload rfl (rk_o (rk_s) rfl rfl)) ?_
              refine Ew_of (pc' := 191) (fun _ => x_istore rfl) ?_
              refine Ew_of (pc' := 194) (fun _ => x_iinc (len := 3) rfl (rk_o (rk_o (rk_o (rk_o (l91_7) rfl rfl) rfl rfl) rfl rfl) rfl rfl)) ?_
              refine Ew_of (pc' := 91) (fun _ => x_goto rfl rfl) ?_
              have hw1 : WTS ((upd1 (w91_2) (x91_7) (z29))) ((x91_7 + 1)) := WTS_s (by assumption) rfl (by omega)
              have : WBO (ub8 ((w1))) ((a2)) ((a3)) (WP_) (oo_) (q4) ((x91_6)) (((z32 + z33))) ((y33_0_2)) (((x91_7 + 1))) ((upd1 (w91_2) (x91_7) (z29))) := WBO_s j91_o (by omega) (by omega) (by omega) hT5 rfl (by omega) hv8 (by omega) rfl (by omega) (by omega) rfl
              exact ih91 _ (by omega) _ _ _ _ (x91_6) ((z32 + z33)) ((x91_7 + 1)) (rk_o (rk_o (rk_o (rk_o (rk_o (l91_0) rfl rfl) rfl rfl) rfl rfl) rfl rfl) rfl rfl) (rk_o (rk_o (rk_s) rfl rfl) rfl rfl) (rk_o (rk_s) rfl rfl) (rk_s) H O (SF_trans (SF_trans (SF_trans (SF_trans (hS_91) (SF_glu (ι := [3, 4, 5, 6, 7, 10, 9, 11, 8]) hS29 eF29 (by decide +kernel)) (any_sub (l' := []) rfl)) (SF_glu (ι := [3, 4, 5, 6, 7, 10, 9, 11, 8]) hS30 eF30 (by decide +kernel)) (any_sub (l' := []) rfl)) (SF_glu (ι := [3, 4, 5, 6, 7, 10, 9, 11, 8]) hS32 eF32 (by decide +kernel)) (any_sub (l' := []) rfl)) (SF_glu (ι := [12, 1]) hS33 eF33 (by decide +kernel)) (any_sub (l' := [(12, 2)]) rfl)) (SA_trans (SA_trans (SA_trans (SA_upd (SA_trans (hA_91) (SA_glu (ι := [3, 4, 5, 6, 7, 10, 9, 11, 8]) hA29 eA29 (by decide +kernel)) (any_subA (l' := []) rfl)) rfl) (SA_glu (ι := [3, 4, 5, 6, 7, 10, 9, 11, 8]) hA30 eA30 (by decide +kernel)) (any_subA (l' := []) rfl)) (SA_glu (ι := [3, 4, 5, 6, 7, 10, 9, 11, 8]) hA32 eA32 (by decide +kernel)) (any_subA (l' := []) rfl)) (SA_glu (ι := [12, 1]) hA33 eA33 (by decide +kernel)) (any_subA (l' := []) rfl))   (y33_0_2) (((eF33 12 2).trans ey33_0_2)) (upd1 (w91_2) (x91_7) (z29)) (((show A33 2 = A32 2 from (eA33 2))).trans (((show A32 2 = A30 2 from (eA32 2))).trans (((show A30 2 = (updA A29 2 (x91_7) (z29)) 2 from (eA30 2))).trans (congrArg (fun q => upd1 q (x91_7) (z29)) (((show A29 2 = A_91 2 from (eA29 2))).trans (ew91_2)))))) (show inr (x91_6) by omega) (show inr ((z32 + z33)) by omega) (show inr ((x91_7 + 1)) by omega) (show (0) ≤ ((x91_7 + 1)) by omega) (show ((x91_7 + 1)) ≤ (0) ∨ ((x91_7 + 1)) ≤ ((254)) by omega) (show 0 ≤ (x91_6) ∧ (x91_6) < p2 ((y13_0_0)) by omega) (show 0 ≤ ((z32 + z33)) ∧ ((z32 + z33)) < p2 ((y13_0_0)) by omega) (show 0 ≤ (y33_0_2) ∧ (y33_0_2) ≤ 8 * ((n1) - (y18_0_1)) by omega) (show WTS ((upd1 (w91_2) (x91_7) (z29))) ((x91_7 + 1)) by assumption) (show WBO (ub8 ((w1))) ((a2)) ((a3)) (WP_) (oo_) (q4) ((x91_6)) (((z32 + z33))) ((y33_0_2)) (((x91_7 + 1))) ((upd1 (w91_2) (x91_7) (z29))) by assumption) rfl
            · refine Ew_of (pc' := 139) (fun _ => x_aload_n rfl (rk_o (l91_0) rfl rfl)) ?_
              refine v_g H (o := 0) (v := .ref (D 2)) rfl rfl rfl rfl rfl (vrf ((((((((((show F30 0 4 = F29 0 4 from (eF30 0 4))).trans ((show F29 0 4 = F_91 0 4 from (eF29 0 4)))).trans (hS_91 0 4 rfl)).trans ((show F25 0 4 = F23 0 4 from (eF25 0 4)))).trans ((show F23 0 4 = F18 0 4 from (eF23 0 4)))).trans ((show F18 0 4 = F13 0 4 from (eF18 0 4)))).trans ((show F13 0 4 = F 0 4 from (eF13 0 4))))).trans (pf2))) ?_
              refine Ew_of (pc' := 144) (fun _ => x_iload rfl (rk_o (l91_7) rfl rfl)) ?_
              refine Ew_of (pc' := 145) (fun _ => x_iconst rfl) ?_
              refine w_iadd rfl ?_
              refine Ew_of (pc' := 147) (fun _ => x_aload_n rfl (rk_o (l91_0) rfl rfl)) ?_
              refine v_g H (o := 0) (v := .ref (D 3)) rfl rfl rfl rfl rfl (vrf ((((((((((show F30 0 6 = F29 0 6 from (eF30 0 6))).trans ((show F29 0 6 = F_91 0 6 from (eF29 0 6)))).trans (hS_91 0 6 rfl)).trans ((show F25 0 6 = F23 0 6 from (eF25 0 6)))).trans ((show F23 0 6 = F18 0 6 from (eF23 0 6)))).trans ((show F18 0 6 = F13 0 6 from (eF18 0 6)))).trans ((show F13 0 6 = F 0 6 from (eF13 0 6))))).trans (pf3))) ?_
              refine Ew_of (pc' := 152) (fun _ => x_iload rfl (rk_o (l91_6) rfl rfl)) ?_
              refine v_inv H (o := 3) rfl rfl rfl rfl rfl rfl (by rfl) (C171 (D := pul [3, 4, 5, 6, 7, 10, 9, 11, 8] D) (N := pul [3, 4, 5, 6, 7, 10, 9, 11, 8] N) (HW_sub H (VS_of (show vsub V108_Br V171 [3, 4, 5, 6, 7, 10, 9, 11, 8] = true by decide +kernel))) ((((((((((show F30 3 2 = F29 3 2 from (eF30 3 2).trans (hS30 0 2 rfl))).trans ((show F29 3 2 = F_91 3 2 from (eF29 3 2).trans (hS29 0 2 rfl)))).trans (hS_91 3 2 rfl)).trans ((show F25 3 2 = F23 3 2 from (eF25 3 2)))).trans ((show F23 3 2 = F18 3 2 from (eF23 3 2)))).trans ((show F18 3 2 = F13 3 2 from (eF18 3 2)))).trans ((show F13 3 2 = F 3 2 from (eF13 3 2).trans (hS13 0 2 rfl))))).trans (pf4)) ((((((((((show F30 3 3 = F29 3 3 from (eF30 3 3).trans (hS30 0 3 rfl))).trans ((show F29 3 3 = F_91 3 3 from (eF29 3 3).trans (hS29 0 3 rfl)))).trans (hS_91 3 3 rfl)).trans ((show F25 3 3 = F23 3 3 from (eF25 3 3)))).trans ((show F23 3 3 = F18 3 3 from (eF23 3 3)))).trans ((show F18 3 3 = F13 3 3 from (eF18 3 3)))).trans ((show F13 3 3 = F 3 3 from (eF13 3 3).trans (hS13 0 3 rfl))))).trans (pf5)) ((((((((((show F30 3 4 = F29 3 4 from (eF30 3 4).trans (hS30 0 4 rfl))).trans ((show F29 3 4 = F_91 3 4 from (eF29 3 4).trans (hS29 0 4 rfl)))).trans (hS_91 3 4 rfl)).trans ((show F25 3 4 = F23 3 4 from (eF25 3 4)))).trans ((show F23 3 4 = F18 3 4 from (eF23 3 4)))).trans ((show F18 3 4 = F13 3 4 from (eF18 3 4)))).trans ((show F13 3 4 = F 3 4 from (eF13 3 4).trans (hS13 0 4 rfl))))).trans (pf6)) ((((((((((show F30 3 5 = F29 3 5 from (eF30 3 5).trans (hS30 0 5 rfl))).trans ((show F29 3 5 = F_91 3 5 from (eF29 3 5).trans (hS29 0 5 rfl)))).trans (hS_91 3 5 rfl)).trans ((show F25 3 5 = F23 3 5 from (eF25 3 5)))).trans ((show F23 3 5 = F18 3 5 from (eF23 3 5)))).trans ((show F18 3 5 = F13 3 5 from (eF18 3 5)))).trans ((show F13 3 5 = F 3 5 from (eF13 3 5).trans (hS13 0 5 rfl))))).trans (pf7)) ((((((((((show F30 3 7 = F29 3 7 from (eF30 3 7).trans (hS30 0 7 rfl))).trans ((show F29 3 7 = F_91 3 7 from (eF29 3 7).trans (hS29 0 7 rfl)))).trans (hS_91 3 7 rfl)).trans ((show F25 3 7 = F23 3 7 from (eF25 3 7)))).trans ((show F23 3 7 = F18 3 7 from (eF23 3 7)))).trans ((show F18 3 7 = F13 3 7 from (eF18 3 7)))).trans ((show F13 3 7 = F 3 7 from (eF13 3 7).trans (hS13 0 7 rfl))))).trans (pf10)) ((((((((((show F30 3 8 = F29 3 8 from (eF30 3 8).trans (hS30 0 8 rfl))).trans ((show F29 3 8 = F_91 3 8 from (eF29 3 8).trans (hS29 0 8 rfl)))).trans (hS_91 3 8 rfl)).trans ((show F25 3 8 = F23 3 8 from (eF25 3 8)))).trans ((show F23 3 8 = F18 3 8 from (eF23 3 8)))).trans ((show F18 3 8 = F13 3 8 from (eF18 3 8)))).trans ((show F13 3 8 = F 3 8 from (eF13 3 8).trans (hS13 0 8 rfl))))).trans (pf9)) ((((((((((show F30 3 9 = F29 3 9 from (eF30 3 9).trans (hS30 0 9 rfl))).trans ((show F29 3 9 = F_91 3 9 from (eF29 3 9).trans (hS29 0 9 rfl)))).trans (hS_91 3 9 rfl)).trans ((show F25 3 9 = F23 3 9 from (eF25 3 9)))).trans ((show F23 3 9 = F18 3 9 from (eF23 3 9)))).trans ((show F18 3 9 = F13 3 9 from (eF18 3 9)))).trans ((show F13 3 9 = F 3 9 from (eF13 3 9).trans (hS13 0 9 rfl))))).trans (pf11)) ((((((((((show F30 3 6 = F29 3 6 from (eF30 3 6).trans (hS30 0 6 rfl))).trans ((show F29 3 6 = F_91 3 6 from (eF29 3 6).trans (hS29 0 6 rfl)))).trans (hS_91 3 6 rfl)).trans ((show F25 3 6 = F23 3 6 from (eF25 3 6)))).trans ((show F23 3 6 = F18 3 6 from (eF23 3 6)))).trans ((show F18 3 6 = F13 3 6 from (eF18 3 6)))).trans ((show F13 3 6 = F 3 6 from (eF13 3 6).trans (hS13 0 6 rfl))))).trans (pf8)) (n4) (en4) (n5) (en5) (n6) (en6) (n7) (en7) (n10) (en10) (n9) (en9) (n11) (en11) (n8) (en8) (y13_0_0) (((((((((show F30 3 0 = F29 3 0 from (eF30 3 0).trans (hS30 0 0 rfl))).trans ((show F29 3 0 = F_91 3 0 from (eF29 3 0).trans (hS29 0 0 rfl)))).trans (hS_91 3 0 rfl)).trans ((show F25 3 0 = F23 3 0 from (eF25 3 0)))).trans ((show F23 3 0 = F18 3 0 from (eF23 3 0)))).trans ((show F18 3 0 = F13 3 0 from (eF18 3 0)))).trans ((eF13 3 0).trans ey13_0_0))) (u3_1) ((((((((((show F30 3 1 = F29 3 1 from (eF30 3 1).trans (hS30 0 1 rfl))).trans ((show F29 3 1 = F_91 3 1 from (eF29 3 1).trans (hS29 0 1 rfl)))).trans (hS_91 3 1 rfl)).trans ((show F25 3 1 = F23 3 1 from (eF25 3 1)))).trans ((show F23 3 1 = F18 3 1 from (eF23 3 1)))).trans ((show F18 3 1 = F13 3 1 from (eF18 3 1)))).trans ((show F13 3 1 = F 3 1 from (eF13 3 1).trans (hS13 0 1 rfl)))).trans (eu3_1))) (w13_3) (((show A30 4 = (updA A29 2 (x91_7) (z29)) 4 from (eA30 4).trans (funext (hA30 1 rfl)))).trans (((show A29 4 = A_91 4 from (eA29 4).trans (funext (hA29 1 rfl)))).trans ((funext (hA_91 4 rfl)).trans (((show A25 4 = A23 4 from (eA25 4))).trans (((show A23 4 = A18 4 from (eA23 4))).trans (((show A18 4 = A13 4 from (eA18 4))).trans ((eA13 4).trans ew13_3))))))) (w13_4) (((show A30 5 = (updA A29 2 (x91_7) (z29)) 5 from (eA30 5).trans (funext (hA30 2 rfl)))).trans (((show A29 5 = A_91 5 from (eA29 5).trans (funext (hA29 2 rfl)))).trans ((funext (hA_91 5 rfl)).trans (((show A25 5 = A23 5 from (eA25 5))).trans (((show A23 5 = A18 5 from (eA23 5))).trans (((show A18 5 = A13 5 from (eA18 5))).trans ((eA13 5).trans ew13_4))))))) (w13_5) (((show A30 6 = (updA A29 2 (x91_7) (z29)) 6 from (eA30 6).trans (funext (hA30 3 rfl)))).trans (((show A29 6 = A_91 6 from (eA29 6).trans (funext (hA29 3 rfl)))).trans ((funext (hA_91 6 rfl)).trans (((show A25 6 = A23 6 from (eA25 6))).trans (((show A23 6 = A18 6 from (eA23 6))).trans (((show A18 6 = A13 6 from (eA18 6))).trans ((eA13 6).trans ew13_5))))))) (w13_6) (((show A30 7 = (updA A29 2 (x91_7) (z29)) 7 from (eA30 7).trans (funext (hA30 4 rfl)))).trans (((show A29 7 = A_91 7 from (eA29 7).trans (funext (hA29 4 rfl)))).trans ((funext (hA_91 7 rfl)).trans (((show A25 7 = A23 7 from (eA25 7))).trans (((show A23 7 = A18 7 from (eA23 7))).trans (((show A18 7 = A13 7 from (eA18 7))).trans ((eA13 7).trans ew13_6))))))) (w13_2) (((show A30 10 = (updA A29 2 (x91_7) (z29)) 10 from (eA30 10).trans (funext (hA30 5 rfl)))).trans (((show A29 10 = A_91 10 from (eA29 10).trans (funext (hA29 5 rfl)))).trans ((funext (hA_91 10 rfl)).trans (((show A25 10 = A23 10 from (eA25 10))).trans (((show A23 10 = A18 10 from (eA23 10))).trans (((show A18 10 = A13 10 from (eA18 10))).trans ((eA13 10).trans ew13_2))))))) (w13_8) (((show A30 9 = (updA A29 2 (x91_7) (z29)) 9 from (eA30 9).trans (funext (hA30 6 rfl)))).trans (((show A29 9 = A_91 9 from (eA29 9).trans (funext (hA29 6 rfl)))).trans ((funext (hA_91 9 rfl)).trans (((show A25 9 = A23 9 from (eA25 9))).trans (((show A23 9 = A18 9 from (eA23 9))).trans (((show A18 9 = A13 9 from (eA18 9))).trans ((eA13 9).trans ew13_8))))))) (w13_9) (((show A30 11 = (updA A29 2 (x91_7) (z29)) 11 from (eA30 11).trans (funext (hA30 7 rfl)))).trans (((show A29 11 = A_91 11 from (eA29 11).trans (funext (hA29 7 rfl)))).trans ((funext (hA_91 11 rfl)).trans (((show A25 11 = A23 11 from (eA25 11))).trans (((show A23 11 = A18 11 from (eA23 11))).trans (((show A18 11 = A13 11 from (eA18 11))).trans ((eA13 11).trans ew13_9))))))) (show inr (x91_6) by omega) (show SL ((w13_3)) ((u3_1)) ((y13_0_0)) ((w13_4)) ((w13_5)) ((w13_6)) ((w13_2)) ((w13_8)) ((w13_9)) by assumption) (show (n4) = (u3_1) ∧ (n5) = (u3_1) ∧ (n6) = (u3_1) ∧ (n7) = (u3_1) ∧ (n8) = (u3_1) ∧ (n9) = (n10) ∧ (n11) = (n10) ∧ p2 ((y13_0_0)) ≤ (n10) by omega) (show 0 ≤ (x91_6) ∧ (x91_6) < p2 ((y13_0_0)) by omega) (fun z35 σ35 F35' A35' H' O' hS35 hA35 pz35_0 pz35_1 pz35_2 pz35_3 => ⟨rfl, ?_⟩))
              refine v_back (c := c) (s := s) H (show vsub V108_Br V171 [3, 4, 5, 6, 7, 10, 9, 11, 8] = true by decide +kernel) H' O' (fun F35 A35 H O' eF35 eA35 => ?_)
              have O := OUT_trans O O'
              -- Share.symbolOf
              have hsy6 : (z35) = ((w13_2)) ((x91_6)) := pz35_1
              obtain ⟨z5, hT5⟩ := TST_b hsl (by omega) k4_ (by omega) (by omega) hbb5 hsy5 k2_
              obtain ⟨b6, z6, hT6⟩ := TST_x hsl (by omega) k4_ (by omega) (by omega) hsy6 k2_
              refine v_sI H (o := 2) (z := z35) rfl rfl rfl rfl (n := n2) (en2) (show 0 ≤ (x91_7 + 1) ∧ (x91_7 + 1) < n2 by omega) (show inr (z35) by omega) (fun σ H O' => ?_)
              have O := OUT_trans O O'
              have hw2 : WTS ((upd1 (upd1 (w91_2) (x91_7) (z29)) ((x91_7 + 1)) (z35))) ((x91_7) + 2) := WTS_s (WTS_s (by assumption) rfl (by omega)) (by omega) (by omega)
              refine Ew_of (pc' := 158) (fun _ => x_iload rfl (rk_o (l91_7) rfl rfl)) ?_
              refine Ew_of (pc' := 159) (fun _ => x_iconst rfl) ?_
              refine w_iadd rfl ?_
              have : WBA (ub8 ((w1))) ((a2)) ((a3)) (((x91_7 + 2))) 0 ((upd1 (upd1 (w91_2) (x91_7) (z29)) ((x91_7 + 1)) (z35))) := WBO_e j91_o (by omega) (by omega) (by omega) hT5 rfl hT6 rfl (by omega) rfl rfl
              exact w_ireturn rfl (k ((x91_7 + 2)) _ _ _ H O (SF_trans (SF_trans (SF_trans (SF_trans (SF_trans (SF_trans (SF_trans (SF_trans (SF_refl) (SF_glu (ι := [3, 1, 10, 4, 5, 6, 7, 8, 9, 11]) hS13 eF13 (by decide +kernel)) (any_sub (l' := [(3, 0), (3, 10), (3, 11), (3, 12)]) rfl)) (SF_glu (ι := [12, 1]) hS18 eF18 (by decide +kernel)) (any_sub (l' := [(12, 0), (12, 1), (12, 2)]) rfl)) (SF_glu (ι := [12, 1]) hS23 eF23 (by decide +kernel)) (any_sub (l' := [(12, 2)]) rfl)) (SF_glu (ι := [12, 1]) hS25 eF25 (by decide +kernel)) (any_sub (l' := [(12, 2)]) rfl)) hS_91 (any_sub rfl)) (SF_glu (ι := [3, 4, 5, 6, 7, 10, 9, 11, 8]) hS29 eF29 (by decide +kernel)) (any_sub (l' := []) rfl)) (SF_glu (ι := [3, 4, 5, 6, 7, 10, 9, 11, 8]) hS30 eF30 (by decide +kernel)) (any_sub (l' := []) rfl)) (SF_glu (ι := [3, 4, 5, 6, 7, 10, 9, 11, 8]) hS35 eF35 (by decide +kernel)) (any_sub (l' := []) rfl)) (SA_upd (SA_trans (SA_trans (SA_upd (SA_trans (SA_trans (SA_trans (SA_trans (SA_trans (SA_trans (SA_refl) (SA_glu (ι := [3, 1, 10, 4, 5, 6, 7, 8, 9, 11]) hA13 eA13 (by decide +kernel)) (any_subA (l' := [4, 5, 6, 7, 8, 9, 10, 11]) rfl)) (SA_glu (ι := [12, 1]) hA18 eA18 (by decide +kernel)) (any_subA (l' := []) rfl)) (SA_glu (ι := [12, 1]) hA23 eA23 (by decide +kernel)) (any_subA (l' := []) rfl)) (SA_glu (ι := [12, 1]) hA25 eA25 (by decide +kernel)) (any_subA (l' := []) rfl)) hA_91 (any_subA rfl)) (SA_glu (ι := [3, 4, 5, 6, 7, 10, 9, 11, 8]) hA29 eA29 (by decide +kernel)) (any_subA (l' := []) rfl)) rfl) (SA_glu (ι := [3, 4, 5, 6, 7, 10, 9, 11, 8]) hA30 eA30 (by decide +kernel)) (any_subA (l' := []) rfl)) (SA_glu (ι := [3, 4, 5, 6, 7, 10, 9, 11, 8]) hA35 eA35 (by decide +kernel)) (any_subA (l' := []) rfl)) rfl) (upd1 (upd1 (w91_2) (x91_7) (z29)) ((x91_7 + 1)) (z35)) (congrArg (fun q => upd1 q ((x91_7 + 1)) (z35)) (((show A35 2 = A30 2 from (eA35 2))).trans (((show A30 2 = (updA A29 2 (x91_7) (z29)) 2 from (eA30 2))).trans (congrArg (fun q => upd1 q (x91_7) (z29)) (((show A29 2 = A_91 2 from (eA29 2))).trans (ew91_2)))))) (show inr ((x91_7 + 2)) by omega) (show 0 ≤ ((x91_7 + 2)) ∧ ((x91_7 + 2)) ≤ 255 by omega) (show WTS ((upd1 (upd1 (w91_2) (x91_7) (z29)) ((x91_7 + 1)) (z35))) ((x91_7 + 2)) by assumption) (show WBA (ub8 ((w1))) (a2) (a3) (((x91_7 + 2))) 0 ((upd1 (upd1 (w91_2) (x91_7) (z29)) ((x91_7 + 1)) (z35))) by assumption))
      · have hwz : WTS ((w2)) 0 := fun i a b => by omega
        have : WBA (ub8 ((w1))) ((a2)) ((a3)) (0) 0 ((w2)) := by first | exact WBA_s hQ_ (hd0 (by omega)) rfl | exact WBA_o hQ_ (by omega) hop (by omega) rfl | exact WBA_l hQ_ (by omega) ho1 (by omega) rfl
        refine Ew_of (pc' := 53) (fun _ => x_iconst rfl) ?_
        exact w_ireturn rfl (k (0) _ _ _ H O (SF_trans (SF_trans (SF_refl) (SF_glu (ι := [3, 1, 10, 4, 5, 6, 7, 8, 9, 11]) hS13 eF13 (by decide +kernel)) (any_sub (l' := [(3, 0), (3, 10), (3, 11), (3, 12)]) rfl)) (SF_glu (ι := [12, 1]) hS18 eF18 (by decide +kernel)) (any_sub (l' := [(12, 0), (12, 1), (12, 2)]) rfl)) (SA_trans (SA_trans (SA_refl) (SA_glu (ι := [3, 1, 10, 4, 5, 6, 7, 8, 9, 11]) hA13 eA13 (by decide +kernel)) (any_subA (l' := [4, 5, 6, 7, 8, 9, 10, 11]) rfl)) (SA_glu (ι := [12, 1]) hA18 eA18 (by decide +kernel)) (any_subA (l' := []) rfl)) (w2) (((show A18 2 = A13 2 from (eA18 2))).trans (((show A13 2 = A 2 from (eA13 2))).trans (ew2))) (show inr (0) by omega) (show 0 ≤ (0) ∧ (0) ≤ 255 by omega) (show WTS ((w2)) (0) by assumption) (show WBA (ub8 ((w1))) (a2) (a3) ((0)) 0 ((w2)) by assumption))
