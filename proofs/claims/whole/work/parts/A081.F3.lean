theorem len_V459_Ir_oz_F3cls : (V459_Ir).length = 1 := by decide +kernel
theorem oz_F3cls_1 : vsub V459_Ir V460 [] = true := by decide +kernel
def oz_F3clsl_0 : List (Nat × Nat) := []
theorem oz_F3cls_2 : (oz_F3clsl_0).all (fun p => !tbz 0 (Nat.add (Nat.mul 32 p.1) p.2)) = true := by decide +kernel
def oz_F3clsl_1 : List Nat := [0]
theorem oz_F3cls_3 : (oz_F3clsl_1).all (fun p => !tbz 1 p) = true := by decide +kernel
def oz_F3clsl_2 : List Nat := []
theorem oz_F3cls_4 : okc oz_F3clsl_2 0 = true := by decide +kernel

theorem C459_Irf {σE : rS} {D N : Nat → Nat} {F : hF} {A : hA} {d c s : Nat} {Q : wQ} (H : HW V459_Ir σE D N F A) {a2 a3 a4 : Int} (n0 : Int) (en0 : (N 0 : Int) = n0) (w0 : Int → Int) (ew0 : A 0 = w0) (h0 : inr (a2)) (h1 : inr (a3)) (h2 : inr (a4)) (h3 : 0 ≤ (a2) ∧ (a2) ≤ (a3) ∧ (a3) ≤ (n0)) (k : ∀ (σ : rS) (Fₚ : hF) (Aₚ : hA), HW V459_Ir σ D N Fₚ Aₚ → OUT (V459_Ir).length D N σE c s D N σ c s → SF [] F Fₚ → SA [0] A Aₚ → ∀ v0 : Int → Int, Aₚ 0 = v0 → (FIL ((w0)) ((v0)) (a2) (a3) (a4)) → Q none σ c s) : Ew 459 (d + 1) 0 (rargs 0 [.ref (D 0), I a2, I a3, I a4]) [] σE c s Q := by
  have O := OUT_refl (n := (V459_Ir).length) (D := D) (N := N) (σ := σE) (c := c) (s := s)
  have HE := H
  have r1 : (0 : Int) ≤ n0 ∧ n0 ≤ 1000000 := nleE (H.nle 0 (ltn len_V459_Ir_oz_F3cls rfl)) (show (N 0 : Int) = n0 from en0)
  refine Ew_of (pcₚ := 1) (fun _ => x_aload_n rfl rfl) ?_
  refine v_len H (o := 0) rfl rfl rfl rfl (n := n0) (en0) ?_
  refine Ew_of (pcₚ := 3) (fun _ => x_iload_n rfl rfl) ?_
  refine Ew_of (pcₚ := 4) (fun _ => x_iload_n rfl rfl) ?_
  refine w_stat24 rfl rfl (by rfl) (C460 (D := puc 0 D) (N := puc 0 N) (HW_subc H oz_F3cls_1 oz_F3cls_4) (show inr (n0) from q_37 r1) (show inr (a2) from h0) (show inr (a3) from h1) (show 0 ≤ (a2) ∧ (a2) ≤ (a3) ∧ (a3) ≤ (n0) from h3) (fun σ2 F2ₚ A2ₚ Hₚ Oₚ hS2 hA2 => ⟨rfl, ?_⟩))
  refine v_backc (c := c) (s := s) H oz_F3cls_1 oz_F3cls_4 Hₚ Oₚ (fun F2 A2 H Oₚ eF2 eA2 => ?_)
  have O := OUT_trans O Oₚ
  -- java/util/Arrays.rangeCheck
  have cF2 : SF oz_F3clsl_0 F F2 := SF_trans (SF_refl) (SF_gluc (ι := oz_F3clsl_2) oz_F3cls_4 hS2 eF2 (by decide +kernel)) (any_sub (lₚ := []) (by decide +kernel))
  have mF2 := SFm_of cF2 oz_F3cls_2
  have cA2 : SA oz_F3clsl_1 A A2 := SA_trans (SA_refl) (SA_gluc (ι := oz_F3clsl_2) oz_F3cls_4 hA2 eA2 (by decide +kernel)) (any_subA (lₚ := []) (by decide +kernel))
  have mA2 := SAm_of cA2 oz_F3cls_3
  refine Ew_of (pcₚ := 8) (fun _ => x_iload_n rfl rfl) ?_
  refine Ew_of (pcₚ := 10) (fun _ => x_istore rfl) ?_
  have hf0 : FIL ((w0)) ((w0)) (a2) (a2) (a4) := FIL_0
  suffices hl10 : ∀ (m : Nat), ∀ (ls : rO) (σ : rS) (F_10 : hF) (A_10 : hA) (x10_4 : Int), rlook ls 0 = some (.ref (D 0)) → rlook ls 2 = some (I (a3)) → rlook ls 3 = some (I (a4)) → rlook ls 4 = some (I (x10_4)) → HW V459_Ir σ D N F_10 A_10 → OUT (V459_Ir).length D N σE c s D N σ c s → SF [] F2 F_10 → SA [0] A2 A_10 → ∀ w10_0 : Int → Int, A_10 0 = w10_0 → (inr (x10_4)) → ((a2) ≤ (x10_4)) → ((x10_4) ≤ (a2) ∨ (x10_4) ≤ ((a3))) → (FIL ((w0)) ((w10_0)) (a2) (x10_4) (a4)) → (((a3)) - (x10_4)).toNat = m → Ew 459 (d + 1) 10 ls [] σ c s Q from
    hl10 _ _ _ _ _ (a2) (rk_o (rfl) rfl rfl) (rk_o (rfl) rfl rfl) (rk_o (rfl) rfl rfl) (rk_s) H O (SF_refl) (SA_refl)    (w0) (((show A2 0 = A 0 from (eA2 0))).trans (ew0)) (show inr (a2) from h0) (show (a2) ≤ (a2) from q_43) (show (a2) ≤ (a2) ∨ (a2) ≤ ((a3)) from q_156) (hf0) rfl
  as_aux_lemma =>
  intro m
  induction m using Nat.strongRecOn with
  | _ m ih10 =>
    intro ls σ F_10 A_10 x10_4 l10_0 l10_2 l10_3 l10_4 H O hS_10 hA_10    w10_0 ew10_0 j10_0 j10_1 j10_2 j10_3 hm10
    have cF_10 : SF oz_F3clsl_0 F F_10 := SF_trans (cF2) hS_10 (any_sub (by decide +kernel))
    have mF_10 := SFm_of cF_10 oz_F3cls_2
    have cA_10 : SA oz_F3clsl_1 A A_10 := SA_trans (cA2) hA_10 (any_subA (by decide +kernel))
    have mA_10 := SAm_of cA_10 oz_F3cls_3
    refine Ew_of (pcₚ := 12) (fun _ => x_iload rfl l10_4) ?_
    refine Ew_of (pcₚ := 13) (fun _ => x_iload_n rfl l10_2) ?_
    refine w_icmpge (t := 27) rfl rfl (show inr (x10_4) from j10_0) (show inr (a3) from h1) (fun b3 => ?_) (fun b3 => ?_)
    · have hl4 : (x10_4) = (a3) := q_3670 b3 h3 j10_2
      have hfe : FIL ((w0)) ((w10_0)) (a2) (a3) (a4) := by rw [← hl4]; assumption
      exact w_ret rfl (k _ _ _ H O (cF_10) (cA_10) (w10_0) (ew10_0) (hfe))
    · refine Ew_of (pcₚ := 17) (fun _ => x_aload_n rfl l10_0) ?_
      refine Ew_of (pcₚ := 19) (fun _ => x_iload rfl l10_4) ?_
      refine Ew_of (pcₚ := 20) (fun _ => x_iload_n rfl l10_3) ?_
      refine v_sI H (o := 0) (z := a4) rfl rfl rfl rfl (n := n0) (en0) (show 0 ≤ x10_4 ∧ x10_4 < n0 from q_2928 b3 h3 j10_1) (show inr (a4) from h2) (fun σ H Oₚ => ?_)
      have O := OUT_trans O Oₚ
      have cAu4 : SA oz_F3clsl_1 A (updA A_10 0 (x10_4) (a4)) := SA_upd (cA_10) rfl
      have mAu4 := SAm_of cAu4 oz_F3cls_3
      refine Ew_of (pcₚ := 24) (fun _ => x_iinc (len := 3) rfl (l10_4)) ?_
      refine Ew_of (pcₚ := 10) (fun _ => x_goto rfl rfl) ?_
      have hf1 : FIL ((w0)) ((upd1 (w10_0) (x10_4) (a4))) (a2) ((x10_4 + 1)) (a4) := FIL_s (by assumption) (by omega) rfl
      exact ih10 _ (msE hm10 q_16 (q_17 b3)) _ _ _ _ ((x10_4 + 1)) (rk_o (l10_0) rfl rfl) (rk_o (l10_2) rfl rfl) (rk_o (l10_3) rfl rfl) (rk_s) H O (hS_10) (SA_upd (hA_10) rfl)    (upd1 (w10_0) (x10_4) (a4)) (congrArg (fun q => upd1 q (x10_4) (a4)) (ew10_0)) (show inr ((x10_4 + 1)) from q_2929 b3 h3 j10_0 r1) (show (a2) ≤ ((x10_4 + 1)) from q_161 j10_1) (show ((x10_4 + 1)) ≤ (a2) ∨ ((x10_4 + 1)) ≤ ((a3)) from q_160 b3) (hf1) rfl
abbrev V103 : vV := [(0, 3, [(4, 0), (4, 0), (4, 0), (0, 0), (4, 0), (4, 0), (4, 0), (4, 0), (4, 0), (4, 0), (4, 0), (4, 0), (4, 0), (0, 0), (0, 0), (0, 0), (0, 0)]), (1, 1, []), (1, 1, []), (1, 1, [])]
theorem len_V103_oz_F3cls : (V103).length = 4 := by decide +kernel
theorem oz_F3cls_6 : vsub V103 V459_Ir [3] = true := by decide +kernel
def oz_F3clsl_3 : List Nat := [2, 3]
theorem oz_F3cls_7 : (oz_F3clsl_3).all (fun p => !tbz 12 p) = true := by decide +kernel
def oz_F3clsl_4 : List Nat := [3]
theorem oz_F3cls_8 : okc oz_F3clsl_4 3 = true := by decide +kernel

theorem C103 {σE : rS} {D N : Nat → Nat} {F : hF} {A : hA} {d c s : Nat} {Q : wQ} (H : HW V103 σE D N F A)  (pf1 : F 0 0 = (D 1 : Int)) (pf2 : F 0 1 = (D 2 : Int)) (pf3 : F 0 2 = (D 3 : Int)) (n1 : Int) (en1 : (N 1 : Int) = n1) (n2 : Int) (en2 : (N 2 : Int) = n2) (n3 : Int) (en3 : (N 3 : Int) = n3) (u0_3 : Int) (eu0_3 : F 0 3 = u0_3) (w1 : Int → Int) (ew1 : A 1 = w1) (w2 : Int → Int) (ew2 : A 2 = w2) (w3 : Int → Int) (ew3 : A 3 = w3) (h0 : (n1) = 256 ∧ (n2) = 256 ∧ (n3) = 2048) (h1 : 0 ≤ ((u0_3)) ∧ ((u0_3)) ≤ 11) (h2 : LNG ((w1)) ((u0_3))) (h3 : CEL ((w3))) (k : ∀ (σ : rS) (Fₚ : hF) (Aₚ : hA), HW V103 σ D N Fₚ Aₚ → OUT (V103).length D N σE c s D N σ c s → SF [] F Fₚ → SA [2, 3] A Aₚ → ∀ v2 : Int → Int, Aₚ 2 = v2 → ∀ v3 : Int → Int, Aₚ 3 = v3 → (CEL ((v3))) → (CDX ((w1)) ((u0_3)) ((v3)) ((v2))) → Q none σ c s) : Ew 103 (d + 2) 0 (rargs 0 [.ref (D 0)]) [] σE c s Q := by
  have O := OUT_refl (n := (V103).length) (D := D) (N := N) (σ := σE) (c := c) (s := s)
  have HE := H
  have r1 : (-2147483648 : Int) ≤ u0_3 ∧ u0_3 ≤ 2147483647 := rngE (show (-2147483648 : Int) ≤ F 0 3 ∧ F 0 3 ≤ 2147483647 from H.krg 0 3 (ltn len_V103_oz_F3cls rfl)) (show F 0 3 = u0_3 from (eu0_3))
  have r2 : (0 : Int) ≤ n1 ∧ n1 ≤ 1000000 := nleE (H.nle 1 (ltn len_V103_oz_F3cls rfl)) (show (N 1 : Int) = n1 from en1)
  have r3 : (0 : Int) ≤ n2 ∧ n2 ≤ 1000000 := nleE (H.nle 2 (ltn len_V103_oz_F3cls rfl)) (show (N 2 : Int) = n2 from en2)
  have r4 : (0 : Int) ≤ n3 ∧ n3 ≤ 1000000 := nleE (H.nle 3 (ltn len_V103_oz_F3cls rfl)) (show (N 3 : Int) = n3 from en3)
  refine Ew_of (pcₚ := 1) (fun _ => x_iconst rfl) ?_
  refine Ew_of (pcₚ := 2) (fun _ => x_istore_n rfl) ?_
  refine Ew_of (pcₚ := 3) (fun _ => x_iconst rfl) ?_
  refine Ew_of (pcₚ := 4) (fun _ => x_istore_n rfl) ?_
  have : CLI ((w1)) ((u0_3)) 1 0 0 ((w3)) ((w2)) := CLI_0 rfl rfl rfl
  suffices hl4 : ∀ (m : Nat), ∀ (ls : rO) (σ : rS) (F_4 : hF) (A_4 : hA) (x4_1 : Int) (x4_2 : Int), rlook ls 0 = some (.ref (D 0)) → rlook ls 1 = some (I (x4_1)) → rlook ls 2 = some (I (x4_2)) → HW V103 σ D N F_4 A_4 → OUT (V103).length D N σE c s D N σ c s → SF [] F F_4 → SA [2, 3] A A_4 → ∀ w4_2 : Int → Int, A_4 2 = w4_2 → ∀ w4_3 : Int → Int, A_4 3 = w4_3 → (inr (x4_1)) → (inr (x4_2)) → ((1) ≤ (x4_2)) → ((x4_2) ≤ (1) ∨ (x4_2) ≤ (((u0_3) + 1))) → (0 ≤ (x4_1) ∧ (x4_1) ≤ 2048) → (CEL ((w4_3))) → (CLI ((w1)) ((u0_3)) ((x4_2)) 0 ((x4_1)) ((w4_3)) ((w4_2))) → ((((u0_3) + 1)) - (x4_2)).toNat = m → Ew 103 (d + 2) 4 ls [] σ c s Q from
    hl4 _ _ _ _ _ (0) (1) (rk_o (rk_o (rfl) rfl rfl) rfl rfl) (rk_o (rk_s) rfl rfl) (rk_s) H O (SF_refl) (SA_refl)    (w2) (ew2) (w3) (ew3) (show inr (0) from q_2) (show inr (1) from q_135) (show (1) ≤ (1) from q_1387) (show (1) ≤ (1) ∨ (1) ≤ (((u0_3) + 1)) from q_1388) (show 0 ≤ (0) ∧ (0) ≤ 2048 from q_3671) (h3) (show CLI ((w1)) ((u0_3)) ((1)) 0 ((0)) ((w3)) ((w2)) by assumption) rfl
  as_aux_lemma =>
  intro m
  induction m using Nat.strongRecOn with
  | _ m ih4 =>
    intro ls σ F_4 A_4 x4_1 x4_2 l4_0 l4_1 l4_2 H O hS_4 hA_4    w4_2 ew4_2 w4_3 ew4_3 j4_0 j4_1 j4_2 j4_3 j4_4 j4_5 j4_6 hm4
    have cF_4 : SF oz_F3clsl_0 F F_4 := SF_trans (SF_refl) hS_4 (any_sub (by decide +kernel))
    have mF_4 := SFm_of cF_4 oz_F3cls_2
    have cA_4 : SA oz_F3clsl_3 A A_4 := SA_trans (SA_refl) hA_4 (any_subA (by decide +kernel))
    have mA_4 := SAm_of cA_4 oz_F3cls_7
    have j4_c : CLI ((w1)) ((u0_3)) ((x4_2)) 0 ((x4_1)) ((w4_3)) ((w4_2)) := j4_6
    refine Ew_of (pcₚ := 5) (fun _ => x_iload_n rfl l4_2) ?_
    refine Ew_of (pcₚ := 6) (fun _ => x_aload_n rfl l4_0) ?_
    refine v_g H (o := 0) (v := I (u0_3)) rfl rfl rfl rfl rfl (congrArg (fun z : Int => I z) (((mF_4 0 3 rfl).trans (eu0_3)) : F_4 0 3 = u0_3)) ?_
    refine w_icmpgt (t := 109) rfl rfl (show inr (x4_2) from j4_1) (show inr (u0_3) from q_1389 h1) (fun b5 => ?_) (fun b5 => ?_)
    · have : CDX ((w1)) ((u0_3)) ((w4_3)) ((w4_2)) := CDX_of j4_c rfl (by omega)
      exact w_ret rfl (k _ _ _ H O (cF_4) (cA_4) (w4_2) (ew4_2) (w4_3) (ew4_3) (j4_5) (show CDX ((w1)) ((u0_3)) ((w4_3)) ((w4_2)) by assumption))
    · refine Ew_of (pcₚ := 13) (fun _ => x_iconst rfl) ?_
      refine Ew_of (pcₚ := 14) (fun _ => x_iload_n rfl l4_2) ?_
      refine Ew_of (pcₚ := 15) (fun _ => x_iconst rfl) ?_
      refine w_isub rfl ?_
      refine w_ishl1 rfl (show 0 ≤ (x4_2 - 1) ∧ (x4_2 - 1) ≤ 31 from q_3672 b5 h1 j4_2) ?_
      have hpw : p2 ((x4_2) - 1) ≤ p2 10 := p2_mono (by omega)
      have hp10 : p2 10 = 1024 := by decide
      have hpp := p2_pos ((x4_2) - 1)
      refine Ew_of (pcₚ := 18) (fun _ => x_istore_n rfl) ?_
      refine Ew_of (pcₚ := 19) (fun _ => x_aload_n rfl (rk_o (l4_0) rfl rfl)) ?_
      refine v_g H (o := 0) (v := I (u0_3)) rfl rfl rfl rfl rfl (congrArg (fun z : Int => I z) (((mF_4 0 3 rfl).trans (eu0_3)) : F_4 0 3 = u0_3)) ?_
      refine Ew_of (pcₚ := 23) (fun _ => x_iconst rfl) ?_
      refine w_iadd rfl ?_
      refine Ew_of (pcₚ := 25) (fun _ => x_iload_n rfl (rk_o (l4_2) rfl rfl)) ?_
      refine w_isub rfl ?_
      refine Ew_of (pcₚ := 28) (fun _ => x_istore rfl) ?_
      refine Ew_of (pcₚ := 29) (fun _ => x_iconst rfl) ?_
      refine Ew_of (pcₚ := 31) (fun _ => x_istore rfl) ?_
      suffices hl31 : ∀ (m : Nat), ∀ (ls : rO) (σ : rS) (F_31 : hF) (A_31 : hA) (x31_1 : Int) (x31_5 : Int), rlook ls 0 = some (.ref (D 0)) → rlook ls 1 = some (I (x31_1)) → rlook ls 2 = some (I (x4_2)) → rlook ls 3 = some (I (p2 ((x4_2 - 1)))) → rlook ls 4 = some (I (((u0_3 + 1) - x4_2))) → rlook ls 5 = some (I (x31_5)) → HW V103 σ D N F_31 A_31 → OUT (V103).length D N σE c s D N σ c s → SF [] F_4 F_31 → SA [2, 3] A_4 A_31 → ∀ w31_2 : Int → Int, A_31 2 = w31_2 → ∀ w31_3 : Int → Int, A_31 3 = w31_3 → (inr (x31_1)) → (inr (x31_5)) → ((0) ≤ (x31_5)) → ((x31_5) ≤ (0) ∨ (x31_5) ≤ ((256))) → (0 ≤ (x31_1) ∧ (x31_1) ≤ 2048) → (CEL ((w31_3))) → (CLI ((w1)) ((u0_3)) ((x4_2)) ((x31_5)) ((x31_1)) ((w31_3)) ((w31_2))) → (((256)) - (x31_5)).toNat = m → Ew 103 (d + 2) 31 ls [] σ c s Q from
        hl31 _ _ _ _ _ (x4_1) (0) (rk_o (rk_o (rk_o (l4_0) rfl rfl) rfl rfl) rfl rfl) (rk_o (rk_o (rk_o (l4_1) rfl rfl) rfl rfl) rfl rfl) (rk_o (rk_o (rk_o (l4_2) rfl rfl) rfl rfl) rfl rfl) (rk_o (rk_o (rk_s) rfl rfl) rfl rfl) (rk_o (rk_s) rfl rfl) (rk_s) H O (SF_refl) (SA_refl)    (w4_2) (ew4_2) (w4_3) (ew4_3) (show inr (x4_1) from j4_0) (show inr (0) from q_2) (show (0) ≤ (0) from q_1) (show (0) ≤ (0) ∨ (0) ≤ ((256)) from q_0) (show 0 ≤ (x4_1) ∧ (x4_1) ≤ 2048 from j4_4) (j4_5) (j4_c) rfl
      as_aux_lemma =>
      intro m
      induction m using Nat.strongRecOn with
      | _ m ih31 =>
        intro ls σ F_31 A_31 x31_1 x31_5 l31_0 l31_1 l31_2 l31_3 l31_4 l31_5 H O hS_31 hA_31    w31_2 ew31_2 w31_3 ew31_3 j31_0 j31_1 j31_2 j31_3 j31_4 j31_5 j31_6 hm31
        have cF_31 : SF oz_F3clsl_0 F F_31 := SF_trans (cF_4) hS_31 (any_sub (by decide +kernel))
        have mF_31 := SFm_of cF_31 oz_F3cls_2
        have cA_31 : SA oz_F3clsl_3 A A_31 := SA_trans (cA_4) hA_31 (any_subA (by decide +kernel))
        have mA_31 := SAm_of cA_31 oz_F3cls_7
        have j31_c : CLI ((w1)) ((u0_3)) ((x4_2)) ((x31_5)) ((x31_1)) ((w31_3)) ((w31_2)) := j31_6
        refine Ew_of (pcₚ := 33) (fun _ => x_iload rfl l31_5) ?_
        refine Ew_of (pcₚ := 36) (fun _ => x_sipush (z := 256) rfl (by decide)) ?_
        refine w_icmpge (t := 103) rfl rfl (show inr (x31_5) from j31_1) (show inr (256) from q_3) (fun b7 => ?_) (fun b7 => ?_)
        · refine Ew_of (pcₚ := 106) (fun _ => x_iinc (len := 3) rfl (l31_2)) ?_
          refine Ew_of (pcₚ := 4) (fun _ => x_goto rfl rfl) ?_
          have : CLI ((w1)) ((u0_3)) (((x4_2 + 1))) 0 ((x31_1)) ((w31_3)) ((w31_2)) := CLI_w j31_c (by omega) (by omega) rfl rfl
          exact ih4 _ (msE hm4 q_77 (q_890 b5)) _ _ _ _ (x31_1) ((x4_2 + 1)) (rk_o (l31_0) rfl rfl) (rk_o (l31_1) rfl rfl) (rk_s) H O (SF_trans (hS_4) hS_31 (any_sub (by decide +kernel))) (SA_trans (hA_4) hA_31 (any_subA (by decide +kernel)))    (w31_2) (ew31_2) (w31_3) (ew31_3) (show inr (x31_1) from j31_0) (show inr ((x4_2 + 1)) from q_3673 b5 h1 j4_2) (show (1) ≤ ((x4_2 + 1)) from q_888 j4_2) (show ((x4_2 + 1)) ≤ (1) ∨ ((x4_2 + 1)) ≤ (((u0_3) + 1)) from q_1390 b5) (show 0 ≤ (x31_1) ∧ (x31_1) ≤ 2048 from j31_4) (j31_5) (show CLI ((w1)) ((u0_3)) (((x4_2 + 1))) 0 ((x31_1)) ((w31_3)) ((w31_2)) by assumption) rfl
        · refine Ew_of (pcₚ := 40) (fun _ => x_aload_n rfl l31_0) ?_
          refine v_g H (o := 0) (v := .ref (D 1)) rfl rfl rfl rfl rfl (vrf ((mF_31 0 0 rfl).trans (pf1))) ?_
          refine Ew_of (pcₚ := 45) (fun _ => x_iload rfl l31_5) ?_
          refine v_lI H (o := 1) rfl rfl rfl rfl (n := n1) (en1) (show 0 ≤ x31_5 ∧ x31_5 < n1 from q_3674 b7 h0 j31_2) (fun v8 ev8 qv8 => ?_)
          have ev8 : (w1) (x31_5) = v8 := (congrFun ((funext (mA_31 1 rfl)).trans (ew1)) (x31_5)).symm.trans ev8
          have hgv := ev8
          refine Ew_of (pcₚ := 48) (fun _ => x_iload rfl l31_4) ?_
          refine w_icmpne (t := 97) rfl rfl (show inr (v8) from qv8) (show inr (((u0_3 + 1) - x4_2)) from q_3675 b5 h1 j4_2) (fun b9 => ?_) (fun b9 => ?_)
          · refine Ew_of (pcₚ := 100) (fun _ => x_iinc (len := 3) rfl (l31_5)) ?_
            refine Ew_of (pcₚ := 31) (fun _ => x_goto rfl rfl) ?_
            have : CLI ((w1)) ((u0_3)) ((x4_2)) (((x31_5 + 1))) ((x31_1)) ((w31_3)) ((w31_2)) := by exact CLI_n j31_c (by omega) (by omega) rfl
            exact ih31 _ (msE hm31 q_26 (q_27 b7)) _ _ _ _ (x31_1) ((x31_5 + 1)) (rk_o (l31_0) rfl rfl) (rk_o (l31_1) rfl rfl) (rk_o (l31_2) rfl rfl) (rk_o (l31_3) rfl rfl) (rk_o (l31_4) rfl rfl) (rk_s) H O (hS_31) (hA_31)    (w31_2) (ew31_2) (w31_3) (ew31_3) (show inr (x31_1) from j31_0) (show inr ((x31_5 + 1)) from q_25 b7 j31_2) (show (0) ≤ ((x31_5 + 1)) from q_14 j31_2) (show ((x31_5 + 1)) ≤ (0) ∨ ((x31_5 + 1)) ≤ ((256)) from q_24 b7) (show 0 ≤ (x31_1) ∧ (x31_1) ≤ 2048 from j31_4) (j31_5) (show CLI ((w1)) ((u0_3)) ((x4_2)) (((x31_5 + 1))) ((x31_1)) ((w31_3)) ((w31_2)) by assumption) rfl
          · refine Ew_of (pcₚ := 52) (fun _ => x_iload_n rfl l31_1) ?_
            refine Ew_of (pcₚ := 53) (fun _ => x_iload_n rfl l31_3) ?_
            refine w_iadd rfl ?_
            refine Ew_of (pcₚ := 55) (fun _ => x_aload_n rfl l31_0) ?_
            refine v_g H (o := 0) (v := .ref (D 3)) rfl rfl rfl rfl rfl (vrf ((mF_31 0 2 rfl).trans (pf3))) ?_
            refine v_len H (o := 3) rfl rfl rfl rfl (n := n3) (en3) ?_
            refine w_icmpgt (t := 97) rfl rfl (show inr ((x31_1 + p2 ((x4_2 - 1)))) by omega) (show inr (n3) from q_37 r4) (fun b10 => ?_) (fun b10 => ?_)
            · refine Ew_of (pcₚ := 100) (fun _ => x_iinc (len := 3) rfl (l31_5)) ?_
              refine Ew_of (pcₚ := 31) (fun _ => x_goto rfl rfl) ?_
              have : CLI ((w1)) ((u0_3)) ((x4_2)) (((x31_5 + 1))) ((x31_1)) ((w31_3)) ((w31_2)) := by exact CLI_r j31_c (by omega) (by omega) (by omega) rfl (by omega)
              exact ih31 _ (msE hm31 q_26 (q_27 b7)) _ _ _ _ (x31_1) ((x31_5 + 1)) (rk_o (l31_0) rfl rfl) (rk_o (l31_1) rfl rfl) (rk_o (l31_2) rfl rfl) (rk_o (l31_3) rfl rfl) (rk_o (l31_4) rfl rfl) (rk_s) H O (hS_31) (hA_31)    (w31_2) (ew31_2) (w31_3) (ew31_3) (show inr (x31_1) from j31_0) (show inr ((x31_5 + 1)) from q_25 b7 j31_2) (show (0) ≤ ((x31_5 + 1)) from q_14 j31_2) (show ((x31_5 + 1)) ≤ (0) ∨ ((x31_5 + 1)) ≤ ((256)) from q_24 b7) (show 0 ≤ (x31_1) ∧ (x31_1) ≤ 2048 from j31_4) (j31_5) (show CLI ((w1)) ((u0_3)) ((x4_2)) (((x31_5 + 1))) ((x31_1)) ((w31_3)) ((w31_2)) by assumption) rfl
            · refine Ew_of (pcₚ := 63) (fun _ => x_aload_n rfl l31_0) ?_
              refine v_g H (o := 0) (v := .ref (D 2)) rfl rfl rfl rfl rfl (vrf ((mF_31 0 1 rfl).trans (pf2))) ?_
              refine Ew_of (pcₚ := 68) (fun _ => x_iload rfl l31_5) ?_
              refine Ew_of (pcₚ := 69) (fun _ => x_iload_n rfl l31_1) ?_
              refine Ew_of (pcₚ := 70) (fun _ => x_iload_n rfl l31_2) ?_
              refine Ew_of (pcₚ := 71) (fun _ => x_iconst rfl) ?_
              refine w_isub rfl ?_
              refine w_ishrX rfl (show inr (x31_1) from j31_0) (fun z11 gz11 dz11 => ?_)
              have hcz : (z11) = (x31_1) / p2 ((x4_2) - 1) := by omega
              refine v_sI H (o := 2) (z := z11) rfl rfl rfl rfl (n := n2) (en2) (show 0 ≤ x31_5 ∧ x31_5 < n2 from q_3676 b7 h0 j31_2) (show inr (z11) by omega) (fun σ H Oₚ => ?_)
              have O := OUT_trans O Oₚ
              have cAu12 : SA oz_F3clsl_3 A (updA A_31 2 (x31_5) (z11)) := SA_upd (cA_31) rfl
              have mAu12 := SAm_of cAu12 oz_F3cls_7
              refine Ew_of (pcₚ := 75) (fun _ => x_aload_n rfl l31_0) ?_
              refine v_g H (o := 0) (v := .ref (D 3)) rfl rfl rfl rfl rfl (vrf ((mF_31 0 2 rfl).trans (pf3))) ?_
              refine Ew_of (pcₚ := 79) (fun _ => x_iload_n rfl l31_1) ?_
              refine Ew_of (pcₚ := 80) (fun _ => x_iload_n rfl l31_1) ?_
              refine Ew_of (pcₚ := 81) (fun _ => x_iload_n rfl l31_3) ?_
              refine w_iadd rfl ?_
              refine Ew_of (pcₚ := 84) (fun _ => x_iload rfl l31_4) ?_
              refine Ew_of (pcₚ := 86) (fun _ => x_bipush (z := 8) rfl (by decide)) ?_
              refine w_ishlK 8 256 (by decide) (by decide) rfl (fun z13 gz13 dz13 => ?_)
              refine Ew_of (pcₚ := 89) (fun _ => x_iload rfl l31_5) ?_
              refine w_iorX 8 256 rfl rfl (fun z14 gz14 dz14 => ?_)
              refine w_stat24 rfl rfl (by rfl) (C459_Irf (D := puc 3 D) (N := puc 3 N) (HW_subc H oz_F3cls_6 oz_F3cls_8) (n3) (en3) (w31_3) (ew31_3) (show inr (x31_1) from j31_0) (show inr ((x31_1 + p2 ((x4_2 - 1)))) by omega) (show inr (z14) by omega) (show 0 ≤ (x31_1) ∧ (x31_1) ≤ ((x31_1 + p2 ((x4_2 - 1)))) ∧ ((x31_1 + p2 ((x4_2 - 1)))) ≤ (n3) by omega) (fun σ15 F15ₚ A15ₚ Hₚ Oₚ hS15 hA15 w15_0 ew15_0 pz15_0 => ⟨rfl, ?_⟩))
              refine v_backc (c := c) (s := s) H oz_F3cls_6 oz_F3cls_8 Hₚ Oₚ (fun F15 A15 H Oₚ eF15 eA15 => ?_)
              have O := OUT_trans O Oₚ
              -- java/util/Arrays.fill
              have cF15 : SF oz_F3clsl_0 F F15 := SF_trans (cF_31) (SF_gluc (ι := oz_F3clsl_4) oz_F3cls_8 hS15 eF15 (by decide +kernel)) (any_sub (lₚ := []) (by decide +kernel))
              have mF15 := SFm_of cF15 oz_F3cls_2
              have cA15 : SA oz_F3clsl_3 A A15 := SA_trans (cAu12) (SA_gluc (ι := oz_F3clsl_4) oz_F3cls_8 hA15 eA15 (by decide +kernel)) (any_subA (lₚ := [3]) (by decide +kernel))
              have mA15 := SAm_of cA15 oz_F3cls_7
              have hfil := pz15_0
              have hce : CEL ((w15_0)) := CEL_fil (by assumption) pz15_0 (by omega)
              refine Ew_of (pcₚ := 94) (fun _ => x_iload_n rfl l31_1) ?_
              refine Ew_of (pcₚ := 95) (fun _ => x_iload_n rfl l31_3) ?_
              refine w_iadd rfl ?_
              refine Ew_of (pcₚ := 97) (fun _ => x_istore_n rfl) ?_
              refine Ew_of (pcₚ := 100) (fun _ => x_iinc (len := 3) rfl (rk_o (l31_5) rfl rfl)) ?_
              refine Ew_of (pcₚ := 31) (fun _ => x_goto rfl rfl) ?_
              have : CLI ((w1)) ((u0_3)) ((x4_2)) (((x31_5 + 1))) (((x31_1 + p2 ((x4_2 - 1))))) ((w15_0)) ((upd1 (w31_2) (x31_5) (z11))) := by exact CLI_y j31_c (by omega) (by omega) (by omega) hfil rfl rfl (by omega) (by rw [hcz]) rfl
              exact ih31 _ (msE hm31 q_26 (q_27 b7)) _ _ _ _ ((x31_1 + p2 ((x4_2 - 1)))) ((x31_5 + 1)) (rk_o (rk_o (l31_0) rfl rfl) rfl rfl) (rk_o (rk_s) rfl rfl) (rk_o (rk_o (l31_2) rfl rfl) rfl rfl) (rk_o (rk_o (l31_3) rfl rfl) rfl rfl) (rk_o (rk_o (l31_4) rfl rfl) rfl rfl) (rk_s) H O (SF_trans (hS_31) (SF_gluc (ι := oz_F3clsl_4) oz_F3cls_8 hS15 eF15 (by decide +kernel)) (any_sub (lₚ := []) (by decide +kernel))) (SA_trans (SA_upd (hA_31) rfl) (SA_gluc (ι := oz_F3clsl_4) oz_F3cls_8 hA15 eA15 (by decide +kernel)) (any_subA (lₚ := [3]) (by decide +kernel)))    (upd1 (w31_2) (x31_5) (z11)) (((show A15 2 = (updA A_31 2 (x31_5) (z11)) 2 from (eA15 2))).trans (congrArg (fun q => upd1 q (x31_5) (z11)) (ew31_2))) (w15_0) ((eA15 3).trans ew15_0) (show inr ((x31_1 + p2 ((x4_2 - 1)))) by omega) (show inr ((x31_5 + 1)) from q_25 b7 j31_2) (show (0) ≤ ((x31_5 + 1)) from q_14 j31_2) (show ((x31_5 + 1)) ≤ (0) ∨ ((x31_5 + 1)) ≤ ((256)) from q_24 b7) (show 0 ≤ ((x31_1 + p2 ((x4_2 - 1)))) ∧ ((x31_1 + p2 ((x4_2 - 1)))) ≤ 2048 by omega) (hce) (show CLI ((w1)) ((u0_3)) ((x4_2)) (((x31_5 + 1))) (((x31_1 + p2 ((x4_2 - 1))))) ((w15_0)) ((upd1 (w31_2) (x31_5) (z11))) by assumption) rfl
abbrev V109 : vV := [(0, 3, [(4, 0), (4, 0), (4, 0), (0, 0), (4, 0), (4, 0), (4, 0), (4, 0), (4, 0), (4, 0), (4, 0), (4, 0), (4, 0), (0, 0), (0, 0), (0, 0), (0, 0)]), (1, 1, []), (1, 1, []), (1, 1, []), (1, 1, [])]
theorem len_V109_oz_F3cls : (V109).length = 5 := by decide +kernel
theorem oz_F3cls_10 : vsub V109 V45 [] = true := by decide +kernel
theorem oz_F3cls_11 : vsub V109 V103 [0, 2, 3, 4] = true := by decide +kernel
def oz_F3clsl_5 : List (Nat × Nat) := [(0, 3)]
theorem oz_F3cls_12 : (oz_F3clsl_5).all (fun p => !tbz 8 (Nat.add (Nat.mul 32 p.1) p.2)) = true := by decide +kernel
def oz_F3clsl_6 : List Nat := [1, 2, 3, 4]
theorem oz_F3cls_13 : (oz_F3clsl_6).all (fun p => !tbz 30 p) = true := by decide +kernel
def oz_F3clsl_7 : List Nat := [0, 2, 3, 4]
theorem oz_F3cls_14 : okc oz_F3clsl_7 537658368 = true := by decide +kernel
set_option maxHeartbeats 16000000 in
theorem C109 {σE : rS} {D N : Nat → Nat} {F : hF} {A : hA} {d c s : Nat} {Q : wQ} (H : HW V109 σE D N F A) {a1 : Int} (pf1 : F 0 4 = (D 1 : Int)) (pf2 : F 0 0 = (D 2 : Int)) (pf3 : F 0 1 = (D 3 : Int)) (pf4 : F 0 2 = (D 4 : Int)) (n1 : Int) (en1 : (N 1 : Int) = n1) (n2 : Int) (en2 : (N 2 : Int) = n2) (n3 : Int) (en3 : (N 3 : Int) = n3) (n4 : Int) (en4 : (N 4 : Int) = n4) (u0_3 : Int) (eu0_3 : F 0 3 = u0_3) (w1 : Int → Int) (ew1 : A 1 = w1) (w2 : Int → Int) (ew2 : A 2 = w2) (w3 : Int → Int) (ew3 : A 3 = w3) (w4 : Int → Int) (ew4 : A 4 = w4) (h0 : inr (a1)) (h1 : (n1) = 256 ∧ (n2) = 256 ∧ (n3) = 256 ∧ (n4) = 2048) (h2 : 1 ≤ (a1) ∧ (a1) ≤ 255) (h3 : WTS ((w1)) (a1)) (h4 : CEL ((w4))) (k : ∀ (z : Int) (σ : rS) (Fₚ : hF) (Aₚ : hA), HW V109 σ D N Fₚ Aₚ → OUT (V109).length D N σE c s D N σ c s → SF [(0, 3)] F Fₚ → SA [1, 2, 3, 4] A Aₚ → ∀ y0_3 : Int, Fₚ 0 3 = y0_3 → ∀ v2 : Int → Int, Aₚ 2 = v2 → ∀ v3 : Int → Int, Aₚ 3 = v3 → ∀ v4 : Int → Int, Aₚ 4 = v4 → ((z) = 0 ∨ (z) = 1) → ((z) = 0 ∨ 0 ≤ (y0_3) ∧ (y0_3) ≤ 11) → ((z) = 0 ∨ LNG ((v2)) ((y0_3))) → (CEL ((v4))) → (CMA ((w1)) ((a1)) ((z)) ((y0_3)) ((v2))) → (IMP ((z) = 1) (CI ((v2)) ((y0_3)))) → (IMP ((z) = 1) (CDX ((v2)) ((y0_3)) ((v4)) ((v3)))) → Q (some (I z)) σ c s) : Ew 109 (d + 3) 0 (rargs 0 [.ref (D 0), I a1]) [] σE c s Q := by
  have O := OUT_refl (n := (V109).length) (D := D) (N := N) (σ := σE) (c := c) (s := s)
  have HE := H
  have r1 : (-2147483648 : Int) ≤ u0_3 ∧ u0_3 ≤ 2147483647 := rngE (show (-2147483648 : Int) ≤ F 0 3 ∧ F 0 3 ≤ 2147483647 from H.krg 0 3 (ltn len_V109_oz_F3cls rfl)) (show F 0 3 = u0_3 from (eu0_3))
  have r2 : (0 : Int) ≤ n1 ∧ n1 ≤ 1000000 := nleE (H.nle 1 (ltn len_V109_oz_F3cls rfl)) (show (N 1 : Int) = n1 from en1)
  have r3 : (0 : Int) ≤ n2 ∧ n2 ≤ 1000000 := nleE (H.nle 2 (ltn len_V109_oz_F3cls rfl)) (show (N 2 : Int) = n2 from en2)
  have r4 : (0 : Int) ≤ n3 ∧ n3 ≤ 1000000 := nleE (H.nle 3 (ltn len_V109_oz_F3cls rfl)) (show (N 3 : Int) = n3 from en3)
  have r5 : (0 : Int) ≤ n4 ∧ n4 ≤ 1000000 := nleE (H.nle 4 (ltn len_V109_oz_F3cls rfl)) (show (N 4 : Int) = n4 from en4)
  have hwt : WTS ((w1)) (a1) := h3
  refine Ew_of (pcₚ := 1) (fun _ => x_iconst rfl) ?_
  refine Ew_of (pcₚ := 2) (fun _ => x_istore_n rfl) ?_
  refine Ew_of (pcₚ := 3) (fun _ => x_iconst rfl) ?_
  refine Ew_of (pcₚ := 4) (fun _ => x_istore_n rfl) ?_
  refine Ew_of (pcₚ := 5) (fun _ => x_iconst rfl) ?_
  refine Ew_of (pcₚ := 7) (fun _ => x_istore rfl) ?_
  have hw0 : WSM ((w1)) 0 0 := fun i a b => by omega
  have : su (fun i => wk (((w1)) i)) (0 : Int).toNat = 0 := rfl
  have : su (fun i => on1 (((w1)) i)) (0 : Int).toNat = 0 := rfl
  suffices hl7 : ∀ (m : Nat), ∀ (ls : rO) (σ : rS) (F_7 : hF) (A_7 : hA) (x7_2 : Int) (x7_3 : Int) (x7_4 : Int), rlook ls 0 = some (.ref (D 0)) → rlook ls 1 = some (I (a1)) → rlook ls 2 = some (I (x7_2)) → rlook ls 3 = some (I (x7_3)) → rlook ls 4 = some (I (x7_4)) → HW V109 σ D N F_7 A_7 → OUT (V109).length D N σE c s D N σ c s → SF [] F F_7 → SA [] A A_7 → (inr (x7_2)) → (inr (x7_3)) → (inr (x7_4)) → ((0) ≤ (x7_4)) → ((x7_4) ≤ (0) ∨ (x7_4) ≤ ((a1))) → (0 ≤ (x7_2) ∧ (x7_2) ≤ 16384 * (x7_4)) → (0 ≤ (x7_3) ∧ (x7_3) ≤ (x7_4)) → (WSM ((w1)) (x7_4) (x7_2)) → ((x7_2) = su (fun i => wk (((w1)) i)) ((x7_4) : Int).toNat) → ((x7_3) = su (fun i => on1 (((w1)) i)) ((x7_4) : Int).toNat) → (((a1)) - (x7_4)).toNat = m → Ew 109 (d + 3) 7 ls [] σ c s Q from
    hl7 _ _ _ _ _ (0) (0) (0) (rk_o (rk_o (rk_o (rfl) rfl rfl) rfl rfl) rfl rfl) (rk_o (rk_o (rk_o (rfl) rfl rfl) rfl rfl) rfl rfl) (rk_o (rk_o (rk_s) rfl rfl) rfl rfl) (rk_o (rk_s) rfl rfl) (rk_s) H O (SF_refl) (SA_refl)     (show inr (0) from q_2) (show inr (0) from q_2) (show inr (0) from q_2) (show (0) ≤ (0) from q_1) (show (0) ≤ (0) ∨ (0) ≤ ((a1)) from q_5) (show 0 ≤ (0) ∧ (0) ≤ 16384 * (0) from q_1450) (show 0 ≤ (0) ∧ (0) ≤ (0) from q_4) (hw0) (show (0) = su (fun i => wk (((w1)) i)) ((0) : Int).toNat by omega) (show (0) = su (fun i => on1 (((w1)) i)) ((0) : Int).toNat by omega) rfl
  as_aux_lemma =>
  intro m
  induction m using Nat.strongRecOn with
  | _ m ih7 =>
    intro ls σ F_7 A_7 x7_2 x7_3 x7_4 l7_0 l7_1 l7_2 l7_3 l7_4 H O hS_7 hA_7     j7_0 j7_1 j7_2 j7_3 j7_4 j7_5 j7_6 j7_7 j7_8 j7_9 hm7
    have cF_7 : SF oz_F3clsl_5 F F_7 := SF_trans (SF_refl) hS_7 (any_sub (by decide +kernel))
    have mF_7 := SFm_of cF_7 oz_F3cls_12
    have cA_7 : SA oz_F3clsl_6 A A_7 := SA_trans (SA_refl) hA_7 (any_subA (by decide +kernel))
    have mA_7 := SAm_of cA_7 oz_F3cls_13
    refine Ew_of (pcₚ := 9) (fun _ => x_iload rfl l7_4) ?_
    refine Ew_of (pcₚ := 10) (fun _ => x_iload_n rfl l7_1) ?_
    refine w_icmpge (t := 66) rfl rfl (show inr (x7_4) from j7_2) (show inr (a1) from h0) (fun b6 => ?_) (fun b6 => ?_)
    · have hl4 : (x7_4) = (a1) := q_3677 b6 h2 j7_4
      have hws : WSM ((w1)) (a1) (x7_2) := by rw [← hl4]; assumption
      obtain ⟨q2, hq2⟩ : ∃ q : Int, q = (x7_2) := ⟨_, rfl⟩
      have hsm : q2 = su (fun i => wk (((w1)) i)) ((a1) : Int).toNat := by rw [← hl4]; omega
      obtain ⟨q3, hq3⟩ : ∃ q : Int, q = (x7_3) := ⟨_, rfl⟩
      have hon_ : q3 = su (fun i => on1 (((w1)) i)) ((a1) : Int).toNat := by rw [← hl4]; omega
      refine Ew_of (pcₚ := 67) (fun _ => x_iload_n rfl l7_2) ?_
      refine w_ifeq (t := 77) rfl rfl (show inr (x7_2) from j7_0) (fun b7 => ?_) (fun b7 => ?_)
      · have hno : (0 : Int) = 0 ∨ LNG ((w2)) ((u0_3)) := .inl rfl
        have : CMA ((w1)) ((a1)) (0) ((u0_3)) ((w2)) := fun I a e h => ⟨fun _ T2 g2 => by exact DSA_0 h hsm (by omega) rfl, fun z => absurd rfl z⟩
        have : IMP ((0 : Int) = 1) (CI ((w2)) ((u0_3))) := fun z => absurd z (by decide)
        have : IMP ((0 : Int) = 1) (CDX ((w2)) ((u0_3)) ((w4)) ((w3))) := fun z => absurd z (by decide)
        refine Ew_of (pcₚ := 78) (fun _ => x_iconst rfl) ?_
        exact w_ireturn rfl (k (0) _ _ _ H O (cF_7) (cA_7) (u0_3) (((hS_7 0 3 rfl).trans (eu0_3))) (w2) ((funext (hA_7 2 rfl)).trans (ew2)) (w3) ((funext (hA_7 3 rfl)).trans (ew3)) (w4) ((funext (hA_7 4 rfl)).trans (ew4)) (show (0) = 0 ∨ (0) = 1 by first | exact q_45 | omega) (show (0) = 0 ∨ 0 ≤ (u0_3) ∧ (u0_3) ≤ 11 by first | exact q_3678 | omega) (show (0) = 0 ∨ LNG ((w2)) ((u0_3)) by assumption) (h4) (show CMA ((w1)) (a1) ((0)) ((u0_3)) ((w2)) by assumption) (show IMP ((0) = 1) (CI ((w2)) ((u0_3))) by assumption) (show IMP ((0) = 1) (CDX ((w2)) ((u0_3)) ((w4)) ((w3))) by assumption))
      · refine Ew_of (pcₚ := 71) (fun _ => x_iload_n rfl l7_2) ?_
        refine Ew_of (pcₚ := 74) (fun _ => x_sipush (z := 2048) rfl (by decide)) ?_
        refine w_icmplt (t := 79) rfl rfl (show inr (x7_2) from j7_0) (show inr (2048) from q_926) (fun b8 => ?_) (fun b8 => ?_)
        · refine Ew_of (pcₚ := 80) (fun _ => x_aload_n rfl l7_0) ?_
          refine Ew_of (pcₚ := 81) (fun _ => x_iload_n rfl l7_2) ?_
          refine w_stat25 rfl rfl (by rfl) (C45 (D := puc 0 D) (N := puc 0 N) (HW_subc H oz_F3cls_10 oz_F3cls_4) (show inr (x7_2) from j7_0) (show 1 ≤ (x7_2) by omega) (fun z9 σ9 F9ₚ A9ₚ Hₚ Oₚ hS9 hA9 pz9_0 pz9_1 pz9_2 => ⟨rfl, ?_⟩))
          refine v_backc (c := c) (s := s) H oz_F3cls_10 oz_F3cls_4 Hₚ Oₚ (fun F9 A9 H Oₚ eF9 eA9 => ?_)
          have O := OUT_trans O Oₚ
          -- PackHouse.highestBit
          have cF9 : SF oz_F3clsl_5 F F9 := SF_trans (cF_7) (SF_gluc (ι := oz_F3clsl_2) oz_F3cls_4 hS9 eF9 (by decide +kernel)) (any_sub (lₚ := []) (by decide +kernel))
          have mF9 := SFm_of cF9 oz_F3cls_12
          have cA9 : SA oz_F3clsl_6 A A9 := SA_trans (cA_7) (SA_gluc (ι := oz_F3clsl_2) oz_F3cls_4 hA9 eA9 (by decide +kernel)) (any_subA (lₚ := []) (by decide +kernel))
          have mA9 := SAm_of cA9 oz_F3cls_13
          have h10 : z9 < 11 := p2_lt (by omega) (by rw [show p2 11 = 2048 from by decide]; omega)
          have hps := p2_s (y := z9) (by omega)
          have hp11 : p2 (z9) ≤ p2 10 := p2_mono (by omega)
          have hp12 : p2 10 = 1024 := by decide
          refine Ew_of (pcₚ := 85) (fun _ => x_iconst rfl) ?_
          refine w_iadd rfl ?_
          refine v_p H (o := 0) (z := (z9 + 1)) (v := I ((z9 + 1))) rfl rfl rfl rfl rfl rfl rfl rfl (show (-2147483648 : Int) ≤ (z9 + 1) ∧ (z9 + 1) ≤ 2147483647 from q_3679 h10 pz9_1) (fun σ H Oₚ => ?_)
          have O := OUT_trans O Oₚ
          have cFu10 : SF oz_F3clsl_5 F (updF F9 0 3 ((z9 + 1))) := SF_upd (cF9) rfl
          have mFu10 := SFm_of cFu10 oz_F3cls_12
          refine Ew_of (pcₚ := 90) (fun _ => x_iconst rfl) ?_
          refine Ew_of (pcₚ := 91) (fun _ => x_aload_n rfl l7_0) ?_
          refine v_g H (o := 0) (v := I ((z9 + 1))) rfl rfl rfl rfl rfl (congrArg (fun z : Int => I z) (rfl : (updF F9 0 3 ((z9 + 1))) 0 3 = (z9 + 1))) ?_
          refine w_ishl1 rfl (show 0 ≤ (z9 + 1) ∧ (z9 + 1) ≤ 31 from q_3680 h10 pz9_1) ?_
          refine Ew_of (pcₚ := 96) (fun _ => x_iload_n rfl l7_2) ?_
          refine w_isub rfl ?_
          refine Ew_of (pcₚ := 99) (fun _ => x_istore rfl) ?_
          refine Ew_of (pcₚ := 100) (fun _ => x_iload_n rfl (rk_o (l7_3) rfl rfl)) ?_
          refine Ew_of (pcₚ := 102) (fun _ => x_iload rfl rk_s) ?_
          refine Ew_of (pcₚ := 103) (fun _ => x_iconst rfl) ?_
          have hc111 : ∀ (tc111_0 : Int), ∀ (ls : rO) (σ : rS) (F_c111 : hF) (A_c111 : hA) , rlook ls 0 = some (.ref (D 0)) → rlook ls 1 = some (I (a1)) → rlook ls 4 = some (I ((p2 ((z9 + 1)) - x7_2))) → HW V109 σ D N F_c111 A_c111 → OUT (V109).length D N σE c s D N σ c s → SF [] (updF F9 0 3 ((z9 + 1))) F_c111 → SA [] A9 A_c111 → (inr (tc111_0)) → ((((p2 ((z9 + 1)) - x7_2)) ≠ (1) ∧ (tc111_0) = (0)) ∨ (((p2 ((z9 + 1)) - x7_2)) = (1) ∧ (tc111_0) = (1))) → Ew 109 (d + 3) 111 ls [I (tc111_0), I (x7_3)] σ c s Q := by
           as_aux_lemma =>
            intro tc111_0 ls σ F_c111 A_c111  lc111_0 lc111_1 lc111_4 H O hS_c111 hA_c111     jc111_0 jc111_1
            have cF_c111 : SF oz_F3clsl_5 F F_c111 := SF_trans (cFu10) hS_c111 (any_sub (by decide +kernel))
            have mF_c111 := SFm_of cF_c111 oz_F3cls_12
            have cA_c111 : SA oz_F3clsl_6 A A_c111 := SA_trans (cA9) hA_c111 (any_subA (by decide +kernel))
            have mA_c111 := SAm_of cA_c111 oz_F3cls_13
            refine w_iadd rfl ?_
            refine Ew_of (pcₚ := 113) (fun _ => x_istore_n rfl) ?_
            refine Ew_of (pcₚ := 115) (fun _ => x_iload rfl (rk_o (lc111_4) rfl rfl)) ?_
            refine Ew_of (pcₚ := 117) (fun _ => x_iload rfl (rk_o (lc111_4) rfl rfl)) ?_
            refine Ew_of (pcₚ := 118) (fun _ => x_iconst rfl) ?_
            refine w_isub rfl ?_
            refine w_iandE rfl (show inr ((p2 ((z9 + 1)) - x7_2)) by omega) (show inr (((p2 ((z9 + 1)) - x7_2) - 1)) by omega) (fun z12 gz12 gaz12 gbz12 gez12 => ?_)
            have hge := gez12
            obtain ⟨q4, hq4⟩ : ∃ q : Int, q = ((p2 ((z9 + 1)) - x7_2)) := ⟨_, rfl⟩
            refine w_ifne (t := 128) rfl rfl (show inr (z12) from gz12) (fun b13 => ?_) (fun b13 => ?_)
            · have hno : (0 : Int) = 0 ∨ LNG ((w2)) (((z9 + 1))) := .inl rfl
              have : CMA ((w1)) ((a1)) (0) (((z9 + 1))) ((w2)) := fun I a e h => ⟨fun _ T2 g2 => by exact DSA_p (k := z9) (rest := ((p2 ((z9 + 1)) - x7_2))) h hsm (by omega) (by omega) (by omega) (fun q => absurd (((and_pow (by omega)).mpr q).symm.trans hge) (by omega)) (by omega) rfl, fun z => absurd rfl z⟩
              have : IMP ((0 : Int) = 1) (CI ((w2)) (((z9 + 1)))) := fun z => absurd z (by decide)
              have : IMP ((0 : Int) = 1) (CDX ((w2)) (((z9 + 1))) ((w4)) ((w3))) := fun z => absurd z (by decide)
              refine Ew_of (pcₚ := 129) (fun _ => x_iconst rfl) ?_
              exact w_ireturn rfl (k (0) _ _ _ H O (cF_c111) (cA_c111) ((z9 + 1)) ((hS_c111 0 3 rfl)) (w2) ((funext (hA_c111 2 rfl)).trans (((show A9 2 = A_7 2 from (eA9 2))).trans ((funext (hA_7 2 rfl)).trans (ew2)))) (w3) ((funext (hA_c111 3 rfl)).trans (((show A9 3 = A_7 3 from (eA9 3))).trans ((funext (hA_7 3 rfl)).trans (ew3)))) (w4) ((funext (hA_c111 4 rfl)).trans (((show A9 4 = A_7 4 from (eA9 4))).trans ((funext (hA_7 4 rfl)).trans (ew4)))) (show (0) = 0 ∨ (0) = 1 by first | exact q_45 | omega) (show (0) = 0 ∨ 0 ≤ ((z9 + 1)) ∧ ((z9 + 1)) ≤ 11 by first | exact q_3681 | omega) (show (0) = 0 ∨ LNG ((w2)) (((z9 + 1))) by assumption) (h4) (show CMA ((w1)) (a1) ((0)) (((z9 + 1))) ((w2)) by assumption) (show IMP ((0) = 1) (CI ((w2)) (((z9 + 1)))) by assumption) (show IMP ((0) = 1) (CDX ((w2)) (((z9 + 1))) ((w4)) ((w3))) by assumption))
            · refine Ew_of (pcₚ := 124) (fun _ => x_iload_n rfl rk_s) ?_
              refine Ew_of (pcₚ := 125) (fun _ => x_iconst rfl) ?_
              refine w_icmpge (t := 130) rfl rfl (show inr ((x7_3 + tc111_0)) from q_3682 h2 hl4 j7_1 j7_6 jc111_0 jc111_1) (show inr (2) from q_122) (fun b14 => ?_) (fun b14 => ?_)
              · refine Ew_of (pcₚ := 131) (fun _ => x_aload_n rfl (rk_o (lc111_0) rfl rfl)) ?_
                refine v_g H (o := 0) (v := .ref (D 1)) rfl rfl rfl rfl rfl (vrf ((mF_c111 0 4 rfl).trans (pf1))) ?_
                refine Ew_of (pcₚ := 135) (fun _ => x_iload_n rfl (rk_o (lc111_1) rfl rfl)) ?_
                refine Ew_of (pcₚ := 137) (fun _ => x_iload rfl (rk_o (lc111_4) rfl rfl)) ?_
                refine w_stat25 rfl rfl (by rfl) (C45 (D := puc 0 D) (N := puc 0 N) (HW_subc H oz_F3cls_10 oz_F3cls_4) (show inr ((p2 ((z9 + 1)) - x7_2)) by omega) (show 1 ≤ ((p2 ((z9 + 1)) - x7_2)) by omega) (fun z15 σ15 F15ₚ A15ₚ Hₚ Oₚ hS15 hA15 pz15_0 pz15_1 pz15_2 => ⟨rfl, ?_⟩))
                refine v_backc (c := c) (s := s) H oz_F3cls_10 oz_F3cls_4 Hₚ Oₚ (fun F15 A15 H Oₚ eF15 eA15 => ?_)
                have O := OUT_trans O Oₚ
                -- PackHouse.highestBit
                have cF15 : SF oz_F3clsl_5 F F15 := SF_trans (cF_c111) (SF_gluc (ι := oz_F3clsl_2) oz_F3cls_4 hS15 eF15 (by decide +kernel)) (any_sub (lₚ := []) (by decide +kernel))
                have mF15 := SFm_of cF15 oz_F3cls_12
                have cA15 : SA oz_F3clsl_6 A A15 := SA_trans (cA_c111) (SA_gluc (ι := oz_F3clsl_2) oz_F3cls_4 hA15 eA15 (by decide +kernel)) (any_subA (lₚ := []) (by decide +kernel))
                have mA15 := SAm_of cA15 oz_F3cls_13
                have hle : z15 < z9 + 1 := p2_lt (by omega) (by omega)
                have hip : IP (((p2 ((z9 + 1)) - x7_2))) := (and_pow (by omega)).mp (hge.trans (by omega))
                have hrr : p2 (z15) = ((p2 ((z9 + 1)) - x7_2)) := IP_eq hip (by omega) (by omega) (by omega)
                have hds := desc_ok (w := ((w1))) (n := (a1)) (sum := q2) (z := z9) (r := z15) (by omega) hsm (by omega) (by omega) (by omega) (by omega) (by omega)
                have hou := on1_upd (w := ((w1))) (n := (a1)) (v := z15 + 1) (by omega)
                have hoo := on1_eq (z15 + 1)
                have hr1 : z15 = 0 ∧ ((p2 ((z9 + 1)) - x7_2)) = 1 ∨ 1 ≤ z15 ∧ 2 ≤ ((p2 ((z9 + 1)) - x7_2)) := by rcases (show z15 = 0 ∨ 1 ≤ z15 by omega) with z | z; (exact .inl ⟨z, by rw [← hrr, z]; decide⟩); (exact .inr ⟨z, by rw [← hrr]; have := p2_mono (x := 1) (y := z15) z; rw [show p2 1 = 2 by decide] at this; exact this⟩)
                have hci := CI_of (w := upd1 ((w1)) (a1) (z15 + 1)) (n := (a1)) (t := z9 + 1) (by omega) (by omega) (by omega) (by omega) hds.2.1 hds.2.2 (by omega)
                refine Ew_of (pcₚ := 141) (fun _ => x_iconst rfl) ?_
                refine w_iadd rfl ?_
                have hwg : WGB (upd1 ((w1)) (a1) (((z15 + 1)))) (((z9 + 1))) ((a1) + 1) := WGB_of hwt hws (by omega) (by omega) (by omega) rfl
                refine v_sI H (o := 1) (z := (z15 + 1)) rfl rfl rfl rfl (n := n1) (en1) (show 0 ≤ a1 ∧ a1 < n1 from q_3683 h1 h2) (show inr ((z15 + 1)) from q_2057 pz15_1) (fun σ H Oₚ => ?_)
                have O := OUT_trans O Oₚ
                have cAu16 : SA oz_F3clsl_6 A (updA A15 1 (a1) ((z15 + 1))) := SA_upd (cA15) rfl
                have mAu16 := SAm_of cAu16 oz_F3cls_13
                refine Ew_of (pcₚ := 144) (fun _ => x_aload_n rfl (rk_o (lc111_0) rfl rfl)) ?_
                refine v_g H (o := 0) (v := .ref (D 2)) rfl rfl rfl rfl rfl (vrf ((mF15 0 0 rfl).trans (pf2))) ?_
                refine Ew_of (pcₚ := 148) (fun _ => x_iconst rfl) ?_
                refine v_fil H (t := 2) (v := 0) rfl rfl rfl rfl rfl (show inr (0) from q_2) (fun σ A17 H Oₚ hA17 ga17 => ?_)
                have O := OUT_trans O Oₚ
                have cA17 : SA oz_F3clsl_6 A A17 := SA_trans (cAu16) hA17 (any_subA (by decide +kernel))
                have mA17 := SAm_of cA17 oz_F3cls_13
                refine Ew_of (pcₚ := 152) (fun _ => x_iconst rfl) ?_
                refine Ew_of (pcₚ := 154) (fun _ => x_istore rfl) ?_
                have hl0 : LNG ((A17 2)) (((z9 + 1))) := fun s a b => by rw [ga17 s]; omega
                have : LWI ((A17 2)) ((upd1 (w1) (a1) ((z15 + 1)))) ((a1)) (((z9 + 1))) 0 := LWI_0 (fun i => ga17 i)
                suffices hl154 : ∀ (m : Nat), ∀ (ls : rO) (σ : rS) (F_154 : hF) (A_154 : hA) (x154_5 : Int), rlook ls 0 = some (.ref (D 0)) → rlook ls 1 = some (I (a1)) → rlook ls 5 = some (I (x154_5)) → HW V109 σ D N F_154 A_154 → OUT (V109).length D N σE c s D N σ c s → SF [] F15 F_154 → SA [2] A17 A_154 → ∀ w154_2 : Int → Int, A_154 2 = w154_2 → (inr (x154_5)) → ((0) ≤ (x154_5)) → ((x154_5) ≤ (0) ∨ (x154_5) ≤ (((a1) + 1))) → (LNG ((w154_2)) (((z9 + 1)))) → (LWI ((w154_2)) ((upd1 (w1) (a1) ((z15 + 1)))) ((a1)) (((z9 + 1))) ((x154_5))) → ((((a1) + 1)) - (x154_5)).toNat = m → Ew 109 (d + 3) 154 ls [] σ c s Q from
                  hl154 _ _ _ _ _ (0) (rk_o (rk_o (lc111_0) rfl rfl) rfl rfl) (rk_o (rk_o (lc111_1) rfl rfl) rfl rfl) (rk_s) H O (SF_refl) (SA_refl)    (A17 2) (rfl) (show inr (0) from q_2) (show (0) ≤ (0) from q_1) (show (0) ≤ (0) ∨ (0) ≤ (((a1) + 1)) from q_3684) (hl0) (show LWI ((A17 2)) ((upd1 (w1) (a1) ((z15 + 1)))) ((a1)) (((z9 + 1))) ((0)) by assumption) rfl
                as_aux_lemma =>
                intro m
                induction m using Nat.strongRecOn with
                | _ m ih154 =>
                  intro ls σ F_154 A_154 x154_5 l154_0 l154_1 l154_5 H O hS_154 hA_154    w154_2 ew154_2 j154_0 j154_1 j154_2 j154_3 j154_4 hm154
                  have cF_154 : SF oz_F3clsl_5 F F_154 := SF_trans (cF15) hS_154 (any_sub (by decide +kernel))
                  have mF_154 := SFm_of cF_154 oz_F3cls_12
                  have cA_154 : SA oz_F3clsl_6 A A_154 := SA_trans (cA17) hA_154 (any_subA (by decide +kernel))
                  have mA_154 := SAm_of cA_154 oz_F3cls_13
                  have j154_w : LWI ((w154_2)) ((upd1 (w1) (a1) ((z15 + 1)))) ((a1)) (((z9 + 1))) ((x154_5)) := j154_4
                  refine Ew_of (pcₚ := 156) (fun _ => x_iload rfl l154_5) ?_
                  refine Ew_of (pcₚ := 157) (fun _ => x_iload_n rfl l154_1) ?_
                  refine w_icmpgt (t := 201) rfl rfl (show inr (x154_5) from j154_0) (show inr (a1) from h0) (fun b18 => ?_) (fun b18 => ?_)
                  · have hlw_ := LWI_e j154_w (by omega)
                    have hcl : CI ((w154_2)) (((z9 + 1))) := CI_congr hci (fun i a b => hlw_ i a b)
                    refine Ew_of (pcₚ := 202) (fun _ => x_aload_n rfl l154_0) ?_
                    refine v_inv H (o := 0) rfl rfl rfl rfl rfl rfl (by rfl) (C103 (D := puc 537658368 D) (N := puc 537658368 N) (HW_subc H oz_F3cls_11 oz_F3cls_14) ((mF_154 0 0 rfl).trans (pf2)) ((mF_154 0 1 rfl).trans (pf3)) ((mF_154 0 2 rfl).trans (pf4)) (n2) (en2) (n3) (en3) (n4) (en4) ((z9 + 1)) ((((hS_154 0 3 rfl).trans ((show F15 0 3 = F_c111 0 3 from (eF15 0 3)))).trans (hS_c111 0 3 rfl))) (w154_2) (ew154_2) (w3) ((funext (hA_154 3 rfl)).trans ((funext (hA17 3 rfl)).trans (((show A15 3 = A_c111 3 from (eA15 3))).trans ((funext (hA_c111 3 rfl)).trans (((show A9 3 = A_7 3 from (eA9 3))).trans ((funext (hA_7 3 rfl)).trans (ew3))))))) (w4) ((funext (hA_154 4 rfl)).trans ((funext (hA17 4 rfl)).trans (((show A15 4 = A_c111 4 from (eA15 4))).trans ((funext (hA_c111 4 rfl)).trans (((show A9 4 = A_7 4 from (eA9 4))).trans ((funext (hA_7 4 rfl)).trans (ew4))))))) (show (n2) = 256 ∧ (n3) = 256 ∧ (n4) = 2048 from q_3686 h1) (show 0 ≤ (((z9 + 1))) ∧ (((z9 + 1))) ≤ 11 from q_3685 h10 pz9_1) (j154_3) (h4) (fun σ19 F19ₚ A19ₚ Hₚ Oₚ hS19 hA19 w19_2 ew19_2 w19_3 ew19_3 pz19_0 pz19_1 => ⟨rfl, ?_⟩))
                    refine v_backc (c := c) (s := s) H oz_F3cls_11 oz_F3cls_14 Hₚ Oₚ (fun F19 A19 H Oₚ eF19 eA19 => ?_)
                    have O := OUT_trans O Oₚ
                    -- Codes.lay
                    have cF19 : SF oz_F3clsl_5 F F19 := SF_trans (cF_154) (SF_gluc (ι := oz_F3clsl_7) oz_F3cls_14 hS19 eF19 (by decide +kernel)) (any_sub (lₚ := []) (by decide +kernel))
                    have mF19 := SFm_of cF19 oz_F3cls_12
                    have cA19 : SA oz_F3clsl_6 A A19 := SA_trans (cA_154) (SA_gluc (ι := oz_F3clsl_7) oz_F3cls_14 hA19 eA19 (by decide +kernel)) (any_subA (lₚ := [3, 4]) (by decide +kernel))
                    have mA19 := SAm_of cA19 oz_F3cls_13
                    refine Ew_of (pcₚ := 206) (fun _ => x_iconst rfl) ?_
                    have hye : (1 : Int) = 0 ∨ LNG ((w154_2)) (((z9 + 1))) := .inr (by assumption)
                    have : IMP ((1 : Int) = 1) (CI ((w154_2)) (((z9 + 1)))) := fun _ => hcl
                    have : IMP ((1 : Int) = 1) (CDX ((w154_2)) (((z9 + 1))) ((w19_3)) ((w19_2))) := fun _ => pz19_1
                    have : CMA ((w1)) ((a1)) (1) (((z9 + 1))) ((w154_2)) := fun I a e h => ⟨fun z => absurd z (by decide), fun _ => DSA_y (k := z9) (r := z15) (ones := q3) (rest := q4) h hsm hon_ (by omega) (by omega) (by omega) (by omega) (by omega) (by omega) (by omega) (by omega) rfl (by omega) hlw_⟩
                    exact w_ireturn rfl (k (1) _ _ _ H O (cF19) (cA19) ((z9 + 1)) ((((((show F19 0 3 = F_154 0 3 from (eF19 0 3).trans (hS19 0 3 rfl))).trans (hS_154 0 3 rfl)).trans ((show F15 0 3 = F_c111 0 3 from (eF15 0 3)))).trans (hS_c111 0 3 rfl))) (w154_2) (((show A19 2 = A_154 2 from (eA19 2).trans (funext (hA19 1 rfl)))).trans (ew154_2)) (w19_2) ((eA19 3).trans ew19_2) (w19_3) ((eA19 4).trans ew19_3) (show (1) = 0 ∨ (1) = 1 by first | exact q_49 | omega) (show (1) = 0 ∨ 0 ≤ ((z9 + 1)) ∧ ((z9 + 1)) ≤ 11 by first | exact q_3687 h10 pz9_1 | omega) (show (1) = 0 ∨ LNG ((w154_2)) (((z9 + 1))) by assumption) (pz19_0) (show CMA ((w1)) (a1) ((1)) (((z9 + 1))) ((w154_2)) by assumption) (show IMP ((1) = 1) (CI ((w154_2)) (((z9 + 1)))) by assumption) (show IMP ((1) = 1) (CDX ((w154_2)) (((z9 + 1))) ((w19_3)) ((w19_2))) by assumption))
                  · have hwx := hwg ((x154_5)) (by omega) (by omega)
                    have hlwe := lw_eq ((upd1 (w1) (a1) ((z15 + 1)))) ((a1)) (((z9 + 1))) ((x154_5))
                    refine Ew_of (pcₚ := 161) (fun _ => x_aload_n rfl l154_0) ?_
                    refine v_g H (o := 0) (v := .ref (D 2)) rfl rfl rfl rfl rfl (vrf ((mF_154 0 0 rfl).trans (pf2))) ?_
                    refine Ew_of (pcₚ := 166) (fun _ => x_iload rfl l154_5) ?_
                    refine Ew_of (pcₚ := 167) (fun _ => x_aload_n rfl l154_0) ?_
                    refine v_g H (o := 0) (v := .ref (D 1)) rfl rfl rfl rfl rfl (vrf ((mF_154 0 4 rfl).trans (pf1))) ?_
                    refine Ew_of (pcₚ := 172) (fun _ => x_iload rfl l154_5) ?_
                    refine v_lI H (o := 1) rfl rfl rfl rfl (n := n1) (en1) (show 0 ≤ x154_5 ∧ x154_5 < n1 from q_3688 b18 h1 h2 j154_1) (fun v20 ev20 qv20 => ?_)
                    have ev20 : (upd1 (w1) (a1) ((z15 + 1))) (x154_5) = v20 := (congrFun ((funext (hA_154 1 rfl)).trans ((funext (hA17 1 rfl)).trans (congrArg (fun q => upd1 q (a1) ((z15 + 1))) (((show A15 1 = A_c111 1 from (eA15 1))).trans ((funext (hA_c111 1 rfl)).trans (((show A9 1 = A_7 1 from (eA9 1))).trans ((funext (hA_7 1 rfl)).trans (ew1)))))))) (x154_5)).symm.trans ev20
                    refine w_ifne (t := 180) rfl rfl (show inr (v20) from qv20) (fun b21 => ?_) (fun b21 => ?_)
                    · refine Ew_of (pcₚ := 181) (fun _ => x_aload_n rfl l154_0) ?_
                      refine v_g H (o := 0) (v := I ((z9 + 1))) rfl rfl rfl rfl rfl (congrArg (fun z : Int => I z) ((((hS_154 0 3 rfl).trans ((show F15 0 3 = F_c111 0 3 from (eF15 0 3)))).trans (hS_c111 0 3 rfl)) : F_154 0 3 = (z9 + 1))) ?_
                      refine Ew_of (pcₚ := 185) (fun _ => x_iconst rfl) ?_
                      refine w_iadd rfl ?_
                      refine Ew_of (pcₚ := 187) (fun _ => x_aload_n rfl l154_0) ?_
                      refine v_g H (o := 0) (v := .ref (D 1)) rfl rfl rfl rfl rfl (vrf ((mF_154 0 4 rfl).trans (pf1))) ?_
                      refine Ew_of (pcₚ := 192) (fun _ => x_iload rfl l154_5) ?_
                      refine v_lI H (o := 1) rfl rfl rfl rfl (n := n1) (en1) (show 0 ≤ x154_5 ∧ x154_5 < n1 from q_3688 b18 h1 h2 j154_1) (fun v22 ev22 qv22 => ?_)
                      have ev22 : (upd1 (w1) (a1) ((z15 + 1))) (x154_5) = v22 := (congrFun ((funext (hA_154 1 rfl)).trans ((funext (hA17 1 rfl)).trans (congrArg (fun q => upd1 q (a1) ((z15 + 1))) (((show A15 1 = A_c111 1 from (eA15 1))).trans ((funext (hA_c111 1 rfl)).trans (((show A9 1 = A_7 1 from (eA9 1))).trans ((funext (hA_7 1 rfl)).trans (ew1)))))))) (x154_5)).symm.trans ev22
                      refine w_isub rfl ?_
                      have hsb : 0 ≤ (((((z9 + 1) + 1) - v22)) : Int) ∧ (((((z9 + 1) + 1) - v22)) : Int) ≤ (((z9 + 1))) := by omega
                      have hlv : ((((z9 + 1) + 1) - v22)) = lw ((upd1 (w1) (a1) ((z15 + 1)))) ((a1)) (((z9 + 1))) ((x154_5)) := by omega
                      refine v_sI H (o := 2) (z := (((z9 + 1) + 1) - v22)) rfl rfl rfl rfl (n := n2) (en2) (show 0 ≤ x154_5 ∧ x154_5 < n2 from q_3690 b18 h1 h2 j154_1) (show inr ((((z9 + 1) + 1) - v22)) from q_3689 h10 hsb) (fun σ H Oₚ => ?_)
                      have O := OUT_trans O Oₚ
                      have cAu23 : SA oz_F3clsl_6 A (updA A_154 2 (x154_5) ((((z9 + 1) + 1) - v22))) := SA_upd (cA_154) rfl
                      have mAu23 := SAm_of cAu23 oz_F3cls_13
                      refine Ew_of (pcₚ := 198) (fun _ => x_iinc (len := 3) rfl (l154_5)) ?_
                      refine Ew_of (pcₚ := 154) (fun _ => x_goto rfl rfl) ?_
                      have hl1 : LNG ((upd1 (w154_2) (x154_5) ((((z9 + 1) + 1) - v22)))) (((z9 + 1))) := LNG_upd (by assumption) (by omega) hsb
                      have : LWI ((upd1 (w154_2) (x154_5) ((((z9 + 1) + 1) - v22)))) ((upd1 (w1) (a1) ((z15 + 1)))) ((a1)) (((z9 + 1))) (((x154_5 + 1))) := LWI_s j154_w hlv rfl
                      exact ih154 _ (msE hm154 q_77 (q_890 b18)) _ _ _ _ ((x154_5 + 1)) (rk_o (l154_0) rfl rfl) (rk_o (l154_1) rfl rfl) (rk_s) H O (hS_154) (SA_upd (hA_154) rfl)    (upd1 (w154_2) (x154_5) ((((z9 + 1) + 1) - v22))) (congrArg (fun q => upd1 q (x154_5) ((((z9 + 1) + 1) - v22))) (ew154_2)) (show inr ((x154_5 + 1)) from q_3692 b18 h2 j154_1) (show (0) ≤ ((x154_5 + 1)) from q_14 j154_1) (show ((x154_5 + 1)) ≤ (0) ∨ ((x154_5 + 1)) ≤ (((a1) + 1)) from q_3691 b18) (hl1) (show LWI ((upd1 (w154_2) (x154_5) ((((z9 + 1) + 1) - v22)))) ((upd1 (w1) (a1) ((z15 + 1)))) ((a1)) (((z9 + 1))) (((x154_5 + 1))) by assumption) rfl
                    · refine Ew_of (pcₚ := 177) (fun _ => x_iconst rfl) ?_
                      refine Ew_of (pcₚ := 194) (fun _ => x_goto rfl rfl) ?_
                      have hsb : 0 ≤ ((0) : Int) ∧ ((0) : Int) ≤ (((z9 + 1))) := q_3693 pz9_1
                      have hlv : (0) = lw ((upd1 (w1) (a1) ((z15 + 1)))) ((a1)) (((z9 + 1))) ((x154_5)) := by omega
                      refine v_sI H (o := 2) (z := 0) rfl rfl rfl rfl (n := n2) (en2) (show 0 ≤ x154_5 ∧ x154_5 < n2 from q_3690 b18 h1 h2 j154_1) (show inr (0) from q_2) (fun σ H Oₚ => ?_)
                      have O := OUT_trans O Oₚ
                      have cAu24 : SA oz_F3clsl_6 A (updA A_154 2 (x154_5) (0)) := SA_upd (cA_154) rfl
                      have mAu24 := SAm_of cAu24 oz_F3cls_13
                      refine Ew_of (pcₚ := 198) (fun _ => x_iinc (len := 3) rfl (l154_5)) ?_
                      refine Ew_of (pcₚ := 154) (fun _ => x_goto rfl rfl) ?_
                      have hl1 : LNG ((upd1 (w154_2) (x154_5) (0))) (((z9 + 1))) := LNG_upd (by assumption) (by omega) hsb
                      have : LWI ((upd1 (w154_2) (x154_5) (0))) ((upd1 (w1) (a1) ((z15 + 1)))) ((a1)) (((z9 + 1))) (((x154_5 + 1))) := LWI_s j154_w hlv rfl
                      exact ih154 _ (msE hm154 q_77 (q_890 b18)) _ _ _ _ ((x154_5 + 1)) (rk_o (l154_0) rfl rfl) (rk_o (l154_1) rfl rfl) (rk_s) H O (hS_154) (SA_upd (hA_154) rfl)    (upd1 (w154_2) (x154_5) (0)) (congrArg (fun q => upd1 q (x154_5) (0)) (ew154_2)) (show inr ((x154_5 + 1)) from q_3692 b18 h2 j154_1) (show (0) ≤ ((x154_5 + 1)) from q_14 j154_1) (show ((x154_5 + 1)) ≤ (0) ∨ ((x154_5 + 1)) ≤ (((a1) + 1)) from q_3691 b18) (hl1) (show LWI ((upd1 (w154_2) (x154_5) (0))) ((upd1 (w1) (a1) ((z15 + 1)))) ((a1)) (((z9 + 1))) (((x154_5 + 1))) by assumption) rfl
              · have hno : (0 : Int) = 0 ∨ LNG ((w2)) (((z9 + 1))) := .inl rfl
                have : CMA ((w1)) ((a1)) (0) (((z9 + 1))) ((w2)) := fun I a e h => ⟨fun _ T2 g2 => by exact DSA_o (k := z9) (ones := q3) (rest := ((p2 ((z9 + 1)) - x7_2))) h hsm hon_ (by omega) (by omega) (by omega) (by omega) (by omega) rfl, fun z => absurd rfl z⟩
                have : IMP ((0 : Int) = 1) (CI ((w2)) (((z9 + 1)))) := fun z => absurd z (by decide)
                have : IMP ((0 : Int) = 1) (CDX ((w2)) (((z9 + 1))) ((w4)) ((w3))) := fun z => absurd z (by decide)
                refine Ew_of (pcₚ := 129) (fun _ => x_iconst rfl) ?_
                exact w_ireturn rfl (k (0) _ _ _ H O (cF_c111) (cA_c111) ((z9 + 1)) ((hS_c111 0 3 rfl)) (w2) ((funext (hA_c111 2 rfl)).trans (((show A9 2 = A_7 2 from (eA9 2))).trans ((funext (hA_7 2 rfl)).trans (ew2)))) (w3) ((funext (hA_c111 3 rfl)).trans (((show A9 3 = A_7 3 from (eA9 3))).trans ((funext (hA_7 3 rfl)).trans (ew3)))) (w4) ((funext (hA_c111 4 rfl)).trans (((show A9 4 = A_7 4 from (eA9 4))).trans ((funext (hA_7 4 rfl)).trans (ew4)))) (show (0) = 0 ∨ (0) = 1 by first | exact q_45 | omega) (show (0) = 0 ∨ 0 ≤ ((z9 + 1)) ∧ ((z9 + 1)) ≤ 11 by first | exact q_3681 | omega) (show (0) = 0 ∨ LNG ((w2)) (((z9 + 1))) by assumption) (h4) (show CMA ((w1)) (a1) ((0)) (((z9 + 1))) ((w2)) by assumption) (show IMP ((0) = 1) (CI ((w2)) (((z9 + 1)))) by assumption) (show IMP ((0) = 1) (CDX ((w2)) (((z9 + 1))) ((w4)) ((w3))) by assumption))
          refine w_icmpne (t := 110) rfl rfl (show inr ((p2 ((z9 + 1)) - x7_2)) by omega) (show inr (1) from q_135) (fun b25 => ?_) (fun b25 => ?_)
          · refine Ew_of (pcₚ := 111) (fun _ => x_iconst rfl) ?_
            exact hc111 (0) _ _ _ _  (rk_o (l7_0) rfl rfl) (rk_o (l7_1) rfl rfl) (rk_s) H O (SF_refl) (SA_refl)     (show inr (0) from q_2) (show (((p2 ((z9 + 1)) - x7_2)) ≠ (1) ∧ (0) = (0)) ∨ (((p2 ((z9 + 1)) - x7_2)) = (1) ∧ (0) = (1)) from q_3694 b25)
          · refine Ew_of (pcₚ := 107) (fun _ => x_iconst rfl) ?_
            refine Ew_of (pcₚ := 111) (fun _ => x_goto rfl rfl) ?_
            exact hc111 (1) _ _ _ _  (rk_o (l7_0) rfl rfl) (rk_o (l7_1) rfl rfl) (rk_s) H O (SF_refl) (SA_refl)     (show inr (1) from q_135) (show (((p2 ((z9 + 1)) - x7_2)) ≠ (1) ∧ (1) = (0)) ∨ (((p2 ((z9 + 1)) - x7_2)) = (1) ∧ (1) = (1)) from q_3695 b25)
        · have hno : (0 : Int) = 0 ∨ LNG ((w2)) ((u0_3)) := .inl rfl
          have : CMA ((w1)) ((a1)) (0) ((u0_3)) ((w2)) := fun I a e h => ⟨fun _ T2 g2 => by exact DSA_t h hsm (by omega) rfl, fun z => absurd rfl z⟩
          have : IMP ((0 : Int) = 1) (CI ((w2)) ((u0_3))) := fun z => absurd z (by decide)
          have : IMP ((0 : Int) = 1) (CDX ((w2)) ((u0_3)) ((w4)) ((w3))) := fun z => absurd z (by decide)
          refine Ew_of (pcₚ := 78) (fun _ => x_iconst rfl) ?_
          exact w_ireturn rfl (k (0) _ _ _ H O (cF_7) (cA_7) (u0_3) (((hS_7 0 3 rfl).trans (eu0_3))) (w2) ((funext (hA_7 2 rfl)).trans (ew2)) (w3) ((funext (hA_7 3 rfl)).trans (ew3)) (w4) ((funext (hA_7 4 rfl)).trans (ew4)) (show (0) = 0 ∨ (0) = 1 by first | exact q_45 | omega) (show (0) = 0 ∨ 0 ≤ (u0_3) ∧ (u0_3) ≤ 11 by first | exact q_3678 | omega) (show (0) = 0 ∨ LNG ((w2)) ((u0_3)) by assumption) (h4) (show CMA ((w1)) (a1) ((0)) ((u0_3)) ((w2)) by assumption) (show IMP ((0) = 1) (CI ((w2)) ((u0_3))) by assumption) (show IMP ((0) = 1) (CDX ((w2)) ((u0_3)) ((w4)) ((w3))) by assumption))
    · have hwb := hwt ((x7_4)) (by omega) (by omega)
      have hpw : p2 (((w1)) (x7_4) - 1) ≤ p2 14 := p2_mono (by omega)
      have hp14 : p2 14 = 16384 := by decide
      have hpq := p2_pos (((w1)) (x7_4) - 1)
      have hsw := su_s (f := fun i => wk (((w1)) i)) (i := (x7_4)) (by omega)
      have hso := su_s (f := fun i => on1 (((w1)) i)) (i := (x7_4)) (by omega)
      have hwk := wk_eq (((w1)) (x7_4))
      have hon := on1_eq (((w1)) (x7_4))
      refine Ew_of (pcₚ := 14) (fun _ => x_iload_n rfl l7_2) ?_
      refine Ew_of (pcₚ := 15) (fun _ => x_aload_n rfl l7_0) ?_
      refine v_g H (o := 0) (v := .ref (D 1)) rfl rfl rfl rfl rfl (vrf ((mF_7 0 4 rfl).trans (pf1))) ?_
      refine Ew_of (pcₚ := 20) (fun _ => x_iload rfl l7_4) ?_
      refine v_lI H (o := 1) rfl rfl rfl rfl (n := n1) (en1) (show 0 ≤ x7_4 ∧ x7_4 < n1 from q_3696 b6 h1 h2 j7_3 r2) (fun v26 ev26 qv26 => ?_)
      have ev26 : (w1) (x7_4) = v26 := (congrFun ((funext (hA_7 1 rfl)).trans (ew1)) (x7_4)).symm.trans ev26
      have hc39 : ∀ (tc39_0 : Int), ∀ (ls : rO) (σ : rS) (F_c39 : hF) (A_c39 : hA) , rlook ls 0 = some (.ref (D 0)) → rlook ls 1 = some (I (a1)) → rlook ls 3 = some (I (x7_3)) → rlook ls 4 = some (I (x7_4)) → HW V109 σ D N F_c39 A_c39 → OUT (V109).length D N σE c s D N σ c s → SF [] F_7 F_c39 → SA [] A_7 A_c39 → (inr (tc39_0)) → (((v26) ≤ (0) ∧ (tc39_0) = (0)) ∨ ((v26) > (0) ∧ -2147483648 ≤ ((w1) (x7_4)) ∧ ((w1) (x7_4)) ≤ 2147483647 ∧ (tc39_0) = (p2 (((w1) (x7_4) - 1))))) → Ew 109 (d + 3) 39 ls [I (tc39_0), I (x7_2)] σ c s Q := by
       as_aux_lemma =>
        intro tc39_0 ls σ F_c39 A_c39  lc39_0 lc39_1 lc39_3 lc39_4 H O hS_c39 hA_c39     jc39_0 jc39_1
        have cF_c39 : SF oz_F3clsl_5 F F_c39 := SF_trans (cF_7) hS_c39 (any_sub (by decide +kernel))
        have mF_c39 := SFm_of cF_c39 oz_F3cls_12
        have cA_c39 : SA oz_F3clsl_6 A A_c39 := SA_trans (cA_7) hA_c39 (any_subA (by decide +kernel))
        have mA_c39 := SAm_of cA_c39 oz_F3cls_13
        refine w_iadd rfl ?_
        refine Ew_of (pcₚ := 41) (fun _ => x_istore_n rfl) ?_
        refine Ew_of (pcₚ := 42) (fun _ => x_iload_n rfl (rk_o (lc39_3) rfl rfl)) ?_
        refine Ew_of (pcₚ := 43) (fun _ => x_aload_n rfl (rk_o (lc39_0) rfl rfl)) ?_
        refine v_g H (o := 0) (v := .ref (D 1)) rfl rfl rfl rfl rfl (vrf ((mF_c39 0 4 rfl).trans (pf1))) ?_
        refine Ew_of (pcₚ := 48) (fun _ => x_iload rfl (rk_o (lc39_4) rfl rfl)) ?_
        refine v_lI H (o := 1) rfl rfl rfl rfl (n := n1) (en1) (show 0 ≤ x7_4 ∧ x7_4 < n1 from q_3696 b6 h1 h2 j7_3 r2) (fun v27 ev27 qv27 => ?_)
        have ev27 : (w1) (x7_4) = v27 := (congrFun ((funext (hA_c39 1 rfl)).trans ((funext (hA_7 1 rfl)).trans (ew1))) (x7_4)).symm.trans ev27
        refine Ew_of (pcₚ := 50) (fun _ => x_iconst rfl) ?_
        refine w_icmpne (t := 57) rfl rfl (show inr (v27) from qv27) (show inr (1) from q_135) (fun b28 => ?_) (fun b28 => ?_)
        · refine Ew_of (pcₚ := 58) (fun _ => x_iconst rfl) ?_
          refine w_iadd rfl ?_
          refine Ew_of (pcₚ := 60) (fun _ => x_istore_n rfl) ?_
          refine Ew_of (pcₚ := 63) (fun _ => x_iinc (len := 3) rfl (rk_o (rk_o (lc39_4) rfl rfl) rfl rfl)) ?_
          refine Ew_of (pcₚ := 7) (fun _ => x_goto rfl rfl) ?_
          have hw1 : WSM ((w1)) ((x7_4 + 1)) ((x7_2 + tc39_0)) := WSM_s (by assumption) rfl (by omega) (fun q => by omega)
          exact ih7 _ (msE hm7 q_16 (q_17 b6)) _ _ _ _ ((x7_2 + tc39_0)) ((x7_3 + 0)) ((x7_4 + 1)) (rk_o (rk_o (rk_o (lc39_0) rfl rfl) rfl rfl) rfl rfl) (rk_o (rk_o (rk_o (lc39_1) rfl rfl) rfl rfl) rfl rfl) (rk_o (rk_o (rk_s) rfl rfl) rfl rfl) (rk_o (rk_s) rfl rfl) (rk_s) H O (SF_trans (hS_7) hS_c39 (any_sub (by decide +kernel))) (SA_trans (hA_7) hA_c39 (any_subA (by decide +kernel)))     (show inr ((x7_2 + tc39_0)) by omega) (show inr ((x7_3 + 0)) from q_1464 j7_1 j7_6) (show inr ((x7_4 + 1)) from q_3697 b6 h2 j7_5) (show (0) ≤ ((x7_4 + 1)) from q_1462 j7_5) (show ((x7_4 + 1)) ≤ (0) ∨ ((x7_4 + 1)) ≤ ((a1)) from q_13 b6) (show 0 ≤ ((x7_2 + tc39_0)) ∧ ((x7_2 + tc39_0)) ≤ 16384 * ((x7_4 + 1)) by omega) (show 0 ≤ ((x7_3 + 0)) ∧ ((x7_3 + 0)) ≤ ((x7_4 + 1)) from q_1461 j7_6) (hw1) (show ((x7_2 + tc39_0)) = su (fun i => wk (((w1)) i)) (((x7_4 + 1)) : Int).toNat by omega) (show ((x7_3 + 0)) = su (fun i => on1 (((w1)) i)) (((x7_4 + 1)) : Int).toNat by omega) rfl
        · refine Ew_of (pcₚ := 54) (fun _ => x_iconst rfl) ?_
          refine Ew_of (pcₚ := 58) (fun _ => x_goto rfl rfl) ?_
          refine w_iadd rfl ?_
          refine Ew_of (pcₚ := 60) (fun _ => x_istore_n rfl) ?_
          refine Ew_of (pcₚ := 63) (fun _ => x_iinc (len := 3) rfl (rk_o (rk_o (lc39_4) rfl rfl) rfl rfl)) ?_
          refine Ew_of (pcₚ := 7) (fun _ => x_goto rfl rfl) ?_
          have hw1 : WSM ((w1)) ((x7_4 + 1)) ((x7_2 + tc39_0)) := WSM_s (by assumption) rfl (by omega) (fun q => by omega)
          exact ih7 _ (msE hm7 q_16 (q_17 b6)) _ _ _ _ ((x7_2 + tc39_0)) ((x7_3 + 1)) ((x7_4 + 1)) (rk_o (rk_o (rk_o (lc39_0) rfl rfl) rfl rfl) rfl rfl) (rk_o (rk_o (rk_o (lc39_1) rfl rfl) rfl rfl) rfl rfl) (rk_o (rk_o (rk_s) rfl rfl) rfl rfl) (rk_o (rk_s) rfl rfl) (rk_s) H O (SF_trans (hS_7) hS_c39 (any_sub (by decide +kernel))) (SA_trans (hA_7) hA_c39 (any_subA (by decide +kernel)))     (show inr ((x7_2 + tc39_0)) by omega) (show inr ((x7_3 + 1)) from q_3698 b6 h2 j7_6) (show inr ((x7_4 + 1)) from q_3697 b6 h2 j7_5) (show (0) ≤ ((x7_4 + 1)) from q_1462 j7_5) (show ((x7_4 + 1)) ≤ (0) ∨ ((x7_4 + 1)) ≤ ((a1)) from q_13 b6) (show 0 ≤ ((x7_2 + tc39_0)) ∧ ((x7_2 + tc39_0)) ≤ 16384 * ((x7_4 + 1)) by omega) (show 0 ≤ ((x7_3 + 1)) ∧ ((x7_3 + 1)) ≤ ((x7_4 + 1)) from q_1465 j7_6) (hw1) (show ((x7_2 + tc39_0)) = su (fun i => wk (((w1)) i)) (((x7_4 + 1)) : Int).toNat by omega) (show ((x7_3 + 1)) = su (fun i => on1 (((w1)) i)) (((x7_4 + 1)) : Int).toNat by omega) rfl
      refine w_ifle (t := 38) rfl rfl (show inr (v26) from qv26) (fun b29 => ?_) (fun b29 => ?_)
      · refine Ew_of (pcₚ := 39) (fun _ => x_iconst rfl) ?_
        exact hc39 (0) _ _ _ _  (l7_0) (l7_1) (l7_3) (l7_4) H O (SF_refl) (SA_refl)     (show inr (0) from q_2) (show ((v26) ≤ (0) ∧ (0) = (0)) ∨ ((v26) > (0) ∧ -2147483648 ≤ ((w1) (x7_4)) ∧ ((w1) (x7_4)) ≤ 2147483647 ∧ (0) = (p2 (((w1) (x7_4) - 1)))) from q_3699 b29)
      · refine Ew_of (pcₚ := 25) (fun _ => x_iconst rfl) ?_
        refine Ew_of (pcₚ := 26) (fun _ => x_aload_n rfl l7_0) ?_
        refine v_g H (o := 0) (v := .ref (D 1)) rfl rfl rfl rfl rfl (vrf ((mF_7 0 4 rfl).trans (pf1))) ?_
        refine Ew_of (pcₚ := 31) (fun _ => x_iload rfl l7_4) ?_
        refine v_lI H (o := 1) rfl rfl rfl rfl (n := n1) (en1) (show 0 ≤ x7_4 ∧ x7_4 < n1 from q_3696 b6 h1 h2 j7_3 r2) (fun v30 ev30 qv30 => ?_)
        have ev30 : (w1) (x7_4) = v30 := (congrFun ((funext (hA_7 1 rfl)).trans (ew1)) (x7_4)).symm.trans ev30
        refine Ew_of (pcₚ := 33) (fun _ => x_iconst rfl) ?_
        refine w_isub rfl ?_
        have hve : p2 (((v30 - 1))) = p2 (((w1)) (x7_4) - 1) := by congr 1; omega
        refine w_ishl1 rfl (show 0 ≤ (v30 - 1) ∧ (v30 - 1) ≤ 31 by omega) ?_
        refine Ew_of (pcₚ := 39) (fun _ => x_goto rfl rfl) ?_
        exact hc39 (p2 ((v30 - 1))) _ _ _ _  (l7_0) (l7_1) (l7_3) (l7_4) H O (SF_refl) (SA_refl)     (show inr (p2 ((v30 - 1))) by omega) (show ((v26) ≤ (0) ∧ (p2 ((v30 - 1))) = (0)) ∨ ((v26) > (0) ∧ -2147483648 ≤ ((w1) (x7_4)) ∧ ((w1) (x7_4)) ≤ 2147483647 ∧ (p2 ((v30 - 1))) = (p2 (((w1) (x7_4) - 1)))) from q_3700 b29 ev26 ev30 hve qv30)
abbrev V108_Br : vV := [(0, 3, [(4, 0), (4, 0), (4, 0), (0, 0), (4, 0), (4, 0), (4, 0), (4, 0), (4, 0), (4, 0), (4, 0), (4, 0), (4, 0), (0, 0), (0, 0), (0, 0), (0, 0)]), (1, 0, []), (1, 1, []), (0, 8, [(0, 0), (0, 0), (4, 0), (4, 0), (4, 0), (4, 0), (4, 0), (4, 0), (4, 0), (4, 0), (4, 0), (0, 0), (0, 0)]), (1, 1, []), (1, 1, []), (1, 1, []), (1, 1, []), (1, 1, []), (1, 1, []), (1, 1, []), (1, 1, []), (0, 2, [(4, 0), (0, 0), (0, 0)])]
theorem len_V108_Br_oz_F3cls : (V108_Br).length = 13 := by decide +kernel
theorem oz_F3cls_16 : vsub V108_Br V184_Br [3, 1, 10, 4, 5, 6, 7, 8, 9, 11] = true := by decide +kernel
theorem oz_F3cls_17 : vsub V108_Br V93_Br [12, 1] = true := by decide +kernel
theorem oz_F3cls_18 : vsub V108_Br V95 [12, 1] = true := by decide +kernel
theorem oz_F3cls_19 : vsub V108_Br V171 [3, 4, 5, 6, 7, 10, 9, 11, 8] = true := by decide +kernel
theorem oz_F3cls_20 : vsub V108_Br V172 [3, 4, 5, 6, 7, 10, 9, 11, 8] = true := by decide +kernel
theorem oz_F3cls_21 : vsub V108_Br V173 [3, 4, 5, 6, 7, 10, 9, 11, 8] = true := by decide +kernel
def oz_F3clsl_8 : List (Nat × Nat) := [(3, 0), (3, 10), (3, 11), (3, 12), (12, 0), (12, 1), (12, 2)]
theorem oz_F3cls_22 : (oz_F3clsl_8).all (fun p => !tbz 275814043374761354485953280701005296635558174893258126675638053829720052400480474280467850481259170521854512512106496 (Nat.add (Nat.mul 32 p.1) p.2)) = true := by decide +kernel
def oz_F3clsl_9 : List Nat := [2, 4, 5, 6, 7, 8, 9, 10, 11]
theorem oz_F3cls_23 : (oz_F3clsl_9).all (fun p => !tbz 4084 p) = true := by decide +kernel
def oz_F3clsl_10 : List Nat := [3, 1, 10, 4, 5, 6, 7, 8, 9, 11]
theorem oz_F3cls_24 : okc oz_F3clsl_10 26638943243156203424449027 = true := by decide +kernel
def oz_F3clsl_11 : List Nat := [12, 1]
theorem oz_F3cls_25 : okc oz_F3clsl_11 524 = true := by decide +kernel
def oz_F3clsl_12 : List Nat := [3, 4, 5, 6, 7, 10, 9, 11, 8]
theorem oz_F3cls_26 : okc oz_F3clsl_12 37880551437274713425923 = true := by decide +kernel
set_option maxHeartbeats 16000000 in
theorem C108_Br {σE : rS} {D N : Nat → Nat} {F : hF} {A : hA} {d c s : Nat} {Q : wQ} (H : HW V108_Br σE D N F A) {a2 a3 : Int} (pf2 : F 0 4 = (D 2 : Int)) (pf3 : F 0 6 = (D 3 : Int)) (pf4 : F 3 2 = (D 4 : Int)) (pf5 : F 3 3 = (D 5 : Int)) (pf6 : F 3 4 = (D 6 : Int)) (pf7 : F 3 5 = (D 7 : Int)) (pf8 : F 3 6 = (D 8 : Int)) (pf9 : F 3 8 = (D 9 : Int)) (pf10 : F 3 7 = (D 10 : Int)) (pf11 : F 3 9 = (D 11 : Int)) (pf12 : F 0 9 = (D 12 : Int)) (n1 : Int) (en1 : (N 1 : Int) = n1) (n2 : Int) (en2 : (N 2 : Int) = n2) (n4 : Int) (en4 : (N 4 : Int) = n4) (n5 : Int) (en5 : (N 5 : Int) = n5) (n6 : Int) (en6 : (N 6 : Int) = n6) (n7 : Int) (en7 : (N 7 : Int) = n7) (n8 : Int) (en8 : (N 8 : Int) = n8) (n9 : Int) (en9 : (N 9 : Int) = n9) (n10 : Int) (en10 : (N 10 : Int) = n10) (n11 : Int) (en11 : (N 11 : Int) = n11) (u3_1 : Int) (eu3_1 : F 3 1 = u3_1) (w1 : Int → Int) (ew1 : A 1 = w1) (w2 : Int → Int) (ew2 : A 2 = w2) (h0 : inr (a2)) (h1 : inr (a3)) (h2 : 0 ≤ (a2) ∧ (a2) ≤ 65536 ∧ 0 ≤ (a3) ∧ (a3) ≤ (n1) ∧ (n1) ≤ 65536 ∧ (a2) ≤ (a3)) (h3 : (n2) = 256) (h4 : (n4) = (u3_1) ∧ (n5) = (u3_1) ∧ (n6) = (u3_1) ∧ (n7) = (u3_1) ∧ (n8) = (u3_1) ∧ (n9) = (n10) ∧ (n11) = (n10) ∧ 1 ≤ (u3_1) ∧ (u3_1) ≤ 64 ∧ (u3_1) = 12 ∧ (n10) = 64) (k : ∀ (z : Int) (σ : rS) (Fₚ : hF) (Aₚ : hA), HW V108_Br σ D N Fₚ Aₚ → OUT (V108_Br).length D N σE c s D N σ c s → SF [(3, 0), (3, 10), (3, 11), (3, 12), (12, 0), (12, 1), (12, 2)] F Fₚ → SA [2, 4, 5, 6, 7, 8, 9, 10, 11] A Aₚ → ∀ v2 : Int → Int, Aₚ 2 = v2 → (inr (z)) → (0 ≤ (z) ∧ (z) ≤ 255) → (WTS ((v2)) (z)) → (WBA (ub8 ((w1))) ((a2)) ((a3)) ((z)) 0 ((v2))) → Q (some (I z)) σ c s) : Ew 108 (d + 2) 0 (rargs 0 [.ref (D 0), .ref (D 1), I a2, I a3]) [] σE c s Q := by
  have O := OUT_refl (n := (V108_Br).length) (D := D) (N := N) (σ := σE) (c := c) (s := s)
  have HE := H
  have r1 : (-2147483648 : Int) ≤ u3_1 ∧ u3_1 ≤ 2147483647 := rngE (show (-2147483648 : Int) ≤ F 3 1 ∧ F 3 1 ≤ 2147483647 from H.krg 3 1 (ltn len_V108_Br_oz_F3cls rfl)) (show F 3 1 = u3_1 from (eu3_1))
  have r2 : (0 : Int) ≤ n1 ∧ n1 ≤ 1000000 := nleE (H.nle 1 (ltn len_V108_Br_oz_F3cls rfl)) (show (N 1 : Int) = n1 from en1)
  have r3 : (0 : Int) ≤ n2 ∧ n2 ≤ 1000000 := nleE (H.nle 2 (ltn len_V108_Br_oz_F3cls rfl)) (show (N 2 : Int) = n2 from en2)
  have r4 : (0 : Int) ≤ n4 ∧ n4 ≤ 1000000 := nleE (H.nle 4 (ltn len_V108_Br_oz_F3cls rfl)) (show (N 4 : Int) = n4 from en4)
  have r5 : (0 : Int) ≤ n5 ∧ n5 ≤ 1000000 := nleE (H.nle 5 (ltn len_V108_Br_oz_F3cls rfl)) (show (N 5 : Int) = n5 from en5)
  have r6 : (0 : Int) ≤ n6 ∧ n6 ≤ 1000000 := nleE (H.nle 6 (ltn len_V108_Br_oz_F3cls rfl)) (show (N 6 : Int) = n6 from en6)
  have r7 : (0 : Int) ≤ n7 ∧ n7 ≤ 1000000 := nleE (H.nle 7 (ltn len_V108_Br_oz_F3cls rfl)) (show (N 7 : Int) = n7 from en7)
  have r8 : (0 : Int) ≤ n8 ∧ n8 ≤ 1000000 := nleE (H.nle 8 (ltn len_V108_Br_oz_F3cls rfl)) (show (N 8 : Int) = n8 from en8)
  have r9 : (0 : Int) ≤ n9 ∧ n9 ≤ 1000000 := nleE (H.nle 9 (ltn len_V108_Br_oz_F3cls rfl)) (show (N 9 : Int) = n9 from en9)
  have r10 : (0 : Int) ≤ n10 ∧ n10 ≤ 1000000 := nleE (H.nle 10 (ltn len_V108_Br_oz_F3cls rfl)) (show (N 10 : Int) = n10 from en10)
  have r11 : (0 : Int) ≤ n11 ∧ n11 ≤ 1000000 := nleE (H.nle 11 (ltn len_V108_Br_oz_F3cls rfl)) (show (N 11 : Int) = n11 from en11)
  refine Ew_of (pcₚ := 1) (fun _ => x_aload_n rfl rfl) ?_
  refine v_g H (o := 0) (v := .ref (D 3)) rfl rfl rfl rfl rfl (vrf (pf3)) ?_
  refine Ew_of (pcₚ := 5) (fun _ => x_aload_n rfl rfl) ?_
  refine Ew_of (pcₚ := 6) (fun _ => x_iload_n rfl rfl) ?_
  refine Ew_of (pcₚ := 7) (fun _ => x_iload_n rfl rfl) ?_
  have hp6 : p2 6 = 64 := by decide
  refine Ew_of (pcₚ := 9) (fun _ => x_bipush (z := 6) rfl (by decide)) ?_
  have r12 : (-2147483648 : Int) ≤ F 3 0 ∧ F 3 0 ≤ 2147483647 := H.krg 3 0 (ltn len_V108_Br_oz_F3cls rfl)
  refine v_inv H (o := 3) rfl rfl rfl rfl rfl rfl (by rfl) (C184_Br (D := puc 26638943243156203424449027 D) (N := puc 26638943243156203424449027 N) (HW_subc H oz_F3cls_16 oz_F3cls_24) (pf10) (pf4) (pf5) (pf6) (pf7) (pf8) (pf9) (pf11) (n1) (en1) (n10) (en10) (n4) (en4) (n5) (en5) (n6) (en6) (n7) (en7) (n8) (en8) (n9) (en9) (n11) (en11) (F 3 0) (rfl) (u3_1) ((eu3_1)) (w1) (ew1) (A 10) (rfl) (A 4) (rfl) (A 5) (rfl) (A 6) (rfl) (A 7) (rfl) (A 9) (rfl) (A 11) (rfl) (show inr (a2) from h0) (show inr (a3) from h1) (show inr (6) from q_756) (show 0 ≤ (a2) ∧ (a2) ≤ (a3) ∧ (a3) ≤ (n1) ∧ (n1) ≤ 65536 from q_3703 h2) (show 5 ≤ (6) ∧ (6) ≤ 9 ∧ p2 (6) ≤ (n10) from q_3702 h4 hp6) (show (n4) = (u3_1) ∧ (n5) = (u3_1) ∧ (n6) = (u3_1) ∧ (n7) = (u3_1) ∧ (n8) = (u3_1) ∧ (n9) = (n10) ∧ (n11) = (n10) ∧ 1 ≤ (u3_1) ∧ (u3_1) ≤ 64 from q_3701 h4) (fun z13 σ13 F13ₚ A13ₚ Hₚ Oₚ hS13 hA13 y13_0_0 ey13_0_0 w13_2 ew13_2 w13_3 ew13_3 w13_4 ew13_4 w13_5 ew13_5 w13_6 ew13_6 w13_8 ew13_8 w13_9 ew13_9 pq13_0 pz13_0 pz13_1 pz13_2 pz13_3 pz13_4 => ⟨rfl, ?_⟩))
  refine v_backc (c := c) (s := s) H oz_F3cls_16 oz_F3cls_24 Hₚ Oₚ (fun F13 A13 H Oₚ eF13 eA13 => ?_)
  have O := OUT_trans O Oₚ
  -- Share.hear
  have cF13 : SF oz_F3clsl_8 F F13 := SF_trans (SF_refl) (SF_gluc (ι := oz_F3clsl_10) oz_F3cls_24 hS13 eF13 (by decide +kernel)) (any_sub (lₚ := [(3, 0), (3, 10), (3, 11), (3, 12)]) (by decide +kernel))
  have mF13 := SFm_of cF13 oz_F3cls_22
  have cA13 : SA oz_F3clsl_9 A A13 := SA_trans (SA_refl) (SA_gluc (ι := oz_F3clsl_10) oz_F3cls_24 hA13 eA13 (by decide +kernel)) (any_subA (lₚ := [4, 5, 6, 7, 8, 9, 10, 11]) (by decide +kernel))
  have mA13 := SAm_of cA13 oz_F3cls_23
  have pl13_0 : F13 3 10 = (D 1 : Int) := (eF13 3 10).trans (pq13_0)
  have r14 : (-2147483648 : Int) ≤ y13_0_0 ∧ y13_0_0 ≤ 2147483647 := rngE (show (-2147483648 : Int) ≤ F13 3 0 ∧ F13 3 0 ≤ 2147483647 from H.krg 3 0 (ltn len_V108_Br_oz_F3cls rfl)) (show F13 3 0 = y13_0_0 from ((eF13 3 0).trans ey13_0_0))
  obtain ⟨ok_, oo_, en_, WP_, hQ_, hc_⟩ := pz13_4
  rw [show (u3_1) - 1 = 11 by omega] at hQ_
  obtain ⟨q4, hq4⟩ : ∃ q : Int, q = (z13) := ⟨_, rfl⟩
  have hdr : (z13) ≠ -1 → ok_ = 1 ∧ (y13_0_0) = oo_ ∧ q4 = en_ ∧ ∀ i, 0 ≤ i → i < 12 → ((w13_3)) i = WP_ i := fun z => by rcases hc_ with ⟨x, y⟩ | ⟨x, y, y2, w, u⟩; (exact absurd y z); (exact ⟨x, w, by omega, fun i a b => u i a (by omega)⟩)
  have hd0 : (z13) = -1 → ok_ = 0 := fun z => by rcases hc_ with ⟨x, y⟩ | ⟨x, y, y2, w, u⟩; (exact x); (omega)
  refine Ew_of (pcₚ := 14) (fun _ => x_istore rfl) ?_
  refine Ew_of (pcₚ := 16) (fun _ => x_iload rfl rk_s) ?_
  refine w_iflt (t := 52) rfl rfl (show inr (z13) from pz13_0) (fun b15 => ?_) (fun b15 => ?_)
  · have hwz : WTS ((w2)) 0 := fun i a b => by omega
    have : WBA (ub8 ((w1))) ((a2)) ((a3)) (0) 0 ((w2)) := by exact WBA_s hQ_ (hd0 (by omega)) rfl
    refine Ew_of (pcₚ := 53) (fun _ => x_iconst rfl) ?_
    exact w_ireturn rfl (k (0) _ _ _ H O (cF13) (cA13) (w2) (((show A13 2 = A 2 from (eA13 2))).trans (ew2)) (show inr (0) from q_2) (show 0 ≤ (0) ∧ (0) ≤ 255 by first | exact q_1407 | omega) (hwz) (show WBA (ub8 ((w1))) (a2) (a3) ((0)) 0 ((w2)) by assumption))
  · have hsl : SL ((w13_3)) ((u3_1)) ((y13_0_0)) ((w13_4)) ((w13_5)) ((w13_6)) ((w13_2)) ((w13_8)) ((w13_9)) := Or.resolve_left pz13_3 (by omega)
    have hor : 5 ≤ (y13_0_0) ∧ (y13_0_0) ≤ 6 := q_3704 b15 pz13_2 r14
    have hpo : p2 ((y13_0_0)) ≤ p2 6 := p2_mono (by omega)
    have har : (a2) ≤ (z13) ∧ (z13) ≤ (a3) := q_3705 b15 h2 pz13_1 pz13_3
    obtain ⟨k1_, k2_, k3_, k4_⟩ := hdr (by omega)
    subst k3_
    refine Ew_of (pcₚ := 20) (fun _ => x_aload_n rfl (rk_o (rfl) rfl rfl)) ?_
    refine v_g H (o := 0) (v := .ref (D 12)) rfl rfl rfl rfl rfl (vrf ((mF13 0 9 rfl).trans (pf12))) ?_
    refine Ew_of (pcₚ := 24) (fun _ => x_aload_n rfl (rk_o (rfl) rfl rfl)) ?_
    refine Ew_of (pcₚ := 26) (fun _ => x_iload rfl rk_s) ?_
    refine Ew_of (pcₚ := 27) (fun _ => x_iload_n rfl (rk_o (rfl) rfl rfl)) ?_
    have r16 : (-2147483648 : Int) ≤ F 12 1 ∧ F 12 1 ≤ 2147483647 := rngE (show (-2147483648 : Int) ≤ F13 12 1 ∧ F13 12 1 ≤ 2147483647 from H.krg 12 1 (ltn len_V108_Br_oz_F3cls rfl)) (show F13 12 1 = F 12 1 from ((show F13 12 1 = F 12 1 from (eF13 12 1))))
    have r17 : (-2147483648 : Int) ≤ F 12 2 ∧ F 12 2 ≤ 2147483647 := rngE (show (-2147483648 : Int) ≤ F13 12 2 ∧ F13 12 2 ≤ 2147483647 from H.krg 12 2 (ltn len_V108_Br_oz_F3cls rfl)) (show F13 12 2 = F 12 2 from ((show F13 12 2 = F 12 2 from (eF13 12 2))))
    refine v_inv H (o := 12) rfl rfl rfl rfl rfl rfl (by rfl) (C93_Br (D := puc 524 D) (N := puc 524 N) (HW_subc H oz_F3cls_17 oz_F3cls_25) (n1) (en1) (F 12 1) (((show F13 12 1 = F 12 1 from (eF13 12 1)))) (F 12 2) (((show F13 12 2 = F 12 2 from (eF13 12 2)))) (w1) ((funext (mA13 1 rfl)).trans (ew1)) (show inr (z13) by omega) (show inr (a3) by omega) (show 0 ≤ (z13) ∧ (a3) ≤ (n1) ∧ (n1) ≤ 65536 ∧ 0 ≤ (a3) ∧ (z13) ≤ 200000 by omega) (fun z18 σ18 F18ₚ A18ₚ Hₚ Oₚ hS18 hA18 y18_0_1 ey18_0_1 y18_0_2 ey18_0_2 pq18_0 pz18_0 pz18_1 pz18_2 pz18_3 => ⟨rretB rfl pz18_0, ?_⟩))
    refine v_backc (c := c) (s := s) H oz_F3cls_17 oz_F3cls_25 Hₚ Oₚ (fun F18 A18 H Oₚ eF18 eA18 => ?_)
    have O := OUT_trans O Oₚ
    -- BitSource.begin
    have cF18 : SF oz_F3clsl_8 F F18 := SF_trans (cF13) (SF_gluc (ι := oz_F3clsl_11) oz_F3cls_25 hS18 eF18 (by decide +kernel)) (any_sub (lₚ := [(12, 0), (12, 1), (12, 2)]) (by decide +kernel))
    have mF18 := SFm_of cF18 oz_F3cls_22
    have cA18 : SA oz_F3clsl_9 A A18 := SA_trans (cA13) (SA_gluc (ι := oz_F3clsl_11) oz_F3cls_25 hA18 eA18 (by decide +kernel)) (any_subA (lₚ := []) (by decide +kernel))
    have mA18 := SAm_of cA18 oz_F3cls_23
    have pl18_0 : F18 12 0 = (D 1 : Int) := (eF18 12 0).trans (pq18_0)
    have r19 : (-2147483648 : Int) ≤ y18_0_1 ∧ y18_0_1 ≤ 2147483647 := rngE (show (-2147483648 : Int) ≤ F18 12 1 ∧ F18 12 1 ≤ 2147483647 from H.krg 12 1 (ltn len_V108_Br_oz_F3cls rfl)) (show F18 12 1 = y18_0_1 from ((eF18 12 1).trans ey18_0_1))
    have r20 : (-2147483648 : Int) ≤ y18_0_2 ∧ y18_0_2 ≤ 2147483647 := rngE (show (-2147483648 : Int) ≤ F18 12 2 ∧ F18 12 2 ≤ 2147483647 from H.krg 12 2 (ltn len_V108_Br_oz_F3cls rfl)) (show F18 12 2 = y18_0_2 from ((eF18 12 2).trans ey18_0_2))
    have hop := pz18_3
    rw [← hq4] at hop
    refine w_ifeq (t := 52) rfl rfl (show inr (z18) from q_138 pz18_0) (fun b21 => ?_) (fun b21 => ?_)
    · have hwz : WTS ((w2)) 0 := fun i a b => by omega
      have : WBA (ub8 ((w1))) ((a2)) ((a3)) (0) 0 ((w2)) := by exact WBA_o hQ_ (by omega) hop (by omega) rfl
      refine Ew_of (pcₚ := 53) (fun _ => x_iconst rfl) ?_
      exact w_ireturn rfl (k (0) _ _ _ H O (cF18) (cA18) (w2) (((show A18 2 = A13 2 from (eA18 2))).trans (((show A13 2 = A 2 from (eA13 2))).trans (ew2))) (show inr (0) from q_2) (show 0 ≤ (0) ∧ (0) ≤ 255 by first | exact q_1407 | omega) (hwz) (show WBA (ub8 ((w1))) (a2) (a3) ((0)) 0 ((w2)) by assumption))
    · have ho1 : OPS (ub8 ((w1))) (q4) ((a3)) 1 ((y18_0_2)) := by have h := hop; rw [show z18 = 1 by omega] at h; exact h
      obtain ⟨ql, hql⟩ : ∃ q : Int, q = (y18_0_2) := ⟨_, rfl⟩
      rw [← hql] at ho1
      refine Ew_of (pcₚ := 34) (fun _ => x_aload_n rfl (rk_o (rfl) rfl rfl)) ?_
      refine v_g H (o := 0) (v := .ref (D 12)) rfl rfl rfl rfl rfl (vrf ((mF18 0 9 rfl).trans (pf12))) ?_
      refine v_g H (o := 12) (v := I (y18_0_2)) rfl rfl rfl rfl rfl (congrArg (fun z : Int => I z) (((eF18 12 2).trans ey18_0_2) : F18 12 2 = y18_0_2)) ?_
      refine Ew_of (pcₚ := 41) (fun _ => x_iconst rfl) ?_
      refine Ew_of (pcₚ := 42) (fun _ => x_aload_n rfl (rk_o (rfl) rfl rfl)) ?_
      refine v_g H (o := 0) (v := .ref (D 3)) rfl rfl rfl rfl rfl (vrf ((mF18 0 6 rfl).trans (pf3))) ?_
      refine v_g H (o := 3) (v := I (y13_0_0)) rfl rfl rfl rfl rfl (congrArg (fun z : Int => I z) ((((show F18 3 0 = F13 3 0 from (eF18 3 0))).trans ((eF13 3 0).trans ey13_0_0)) : F18 3 0 = y13_0_0)) ?_
      refine w_imul rfl ?_
      refine w_icmpge (t := 54) rfl rfl (show inr (y18_0_2) from q_18 r20) (show inr ((2 * y13_0_0)) by omega) (fun b22 => ?_) (fun b22 => ?_)
      · refine Ew_of (pcₚ := 55) (fun _ => x_aload_n rfl (rk_o (rfl) rfl rfl)) ?_
        refine v_g H (o := 0) (v := .ref (D 12)) rfl rfl rfl rfl rfl (vrf ((mF18 0 9 rfl).trans (pf12))) ?_
        refine Ew_of (pcₚ := 59) (fun _ => x_aload_n rfl (rk_o (rfl) rfl rfl)) ?_
        refine v_g H (o := 0) (v := .ref (D 3)) rfl rfl rfl rfl rfl (vrf ((mF18 0 6 rfl).trans (pf3))) ?_
        refine v_g H (o := 3) (v := I (y13_0_0)) rfl rfl rfl rfl rfl (congrArg (fun z : Int => I z) ((((show F18 3 0 = F13 3 0 from (eF18 3 0))).trans ((eF13 3 0).trans ey13_0_0)) : F18 3 0 = y13_0_0)) ?_
        refine v_inv H (o := 12) rfl rfl rfl rfl rfl rfl (by rfl) (C95 (D := puc 524 D) (N := puc 524 N) (HW_subc H oz_F3cls_18 oz_F3cls_25) (pl18_0) (n1) (en1) (y18_0_1) (((eF18 12 1).trans ey18_0_1)) (y18_0_2) (((eF18 12 2).trans ey18_0_2)) (w1) ((funext (mA18 1 rfl)).trans (ew1)) (show inr (y13_0_0) by omega) (show 0 ≤ (y13_0_0) ∧ (y13_0_0) ≤ 31 by omega) (show 0 ≤ (y18_0_1) ∧ (y18_0_1) ≤ 65536 ∧ (y18_0_2) ≤ 8 * ((n1) - (y18_0_1)) ∧ (n1) ≤ 65536 by omega) (show -100 ≤ (y18_0_2) from q_3706 pz18_2) (fun z23 σ23 F23ₚ A23ₚ Hₚ Oₚ hS23 hA23 y23_0_2 ey23_0_2 pz23_0 pz23_1 pz23_2 pz23_3 => ⟨rfl, ?_⟩))
        refine v_backc (c := c) (s := s) H oz_F3cls_18 oz_F3cls_25 Hₚ Oₚ (fun F23 A23 H Oₚ eF23 eA23 => ?_)
        have O := OUT_trans O Oₚ
        -- BitSource.take
        have cF23 : SF oz_F3clsl_8 F F23 := SF_trans (cF18) (SF_gluc (ι := oz_F3clsl_11) oz_F3cls_25 hS23 eF23 (by decide +kernel)) (any_sub (lₚ := [(12, 2)]) (by decide +kernel))
        have mF23 := SFm_of cF23 oz_F3cls_22
        have cA23 : SA oz_F3clsl_9 A A23 := SA_trans (cA18) (SA_gluc (ι := oz_F3clsl_11) oz_F3cls_25 hA23 eA23 (by decide +kernel)) (any_subA (lₚ := []) (by decide +kernel))
        have mA23 := SAm_of cA23 oz_F3cls_23
        have r24 : (-2147483648 : Int) ≤ y23_0_2 ∧ y23_0_2 ≤ 2147483647 := rngE (show (-2147483648 : Int) ≤ F23 12 2 ∧ F23 12 2 ≤ 2147483647 from H.krg 12 2 (ltn len_V108_Br_oz_F3cls rfl)) (show F23 12 2 = y23_0_2 from ((eF23 12 2).trans ey23_0_2))
        have hv1 := pz23_3
        rw [pk_y (by omega)] at hv1
        refine w_l2i rfl ?_
        refine Ew_of (pcₚ := 71) (fun _ => x_istore rfl) ?_
        refine Ew_of (pcₚ := 72) (fun _ => x_aload_n rfl (rk_o (rk_o (rfl) rfl rfl) rfl rfl)) ?_
        refine v_g H (o := 0) (v := .ref (D 12)) rfl rfl rfl rfl rfl (vrf ((mF23 0 9 rfl).trans (pf12))) ?_
        refine Ew_of (pcₚ := 76) (fun _ => x_aload_n rfl (rk_o (rk_o (rfl) rfl rfl) rfl rfl)) ?_
        refine v_g H (o := 0) (v := .ref (D 3)) rfl rfl rfl rfl rfl (vrf ((mF23 0 6 rfl).trans (pf3))) ?_
        refine v_g H (o := 3) (v := I (y13_0_0)) rfl rfl rfl rfl rfl (congrArg (fun z : Int => I z) (((((show F23 3 0 = F18 3 0 from (eF23 3 0))).trans ((show F18 3 0 = F13 3 0 from (eF18 3 0)))).trans ((eF13 3 0).trans ey13_0_0)) : F23 3 0 = y13_0_0)) ?_
        refine v_inv H (o := 12) rfl rfl rfl rfl rfl rfl (by rfl) (C95 (D := puc 524 D) (N := puc 524 N) (HW_subc H oz_F3cls_18 oz_F3cls_25) ((((show F23 12 0 = F18 12 0 from (eF23 12 0).trans (hS23 0 0 rfl)))).trans (pl18_0)) (n1) (en1) (y18_0_1) ((((show F23 12 1 = F18 12 1 from (eF23 12 1).trans (hS23 0 1 rfl))).trans ((eF18 12 1).trans ey18_0_1))) (y23_0_2) (((eF23 12 2).trans ey23_0_2)) (w1) ((funext (mA23 1 rfl)).trans (ew1)) (show inr (y13_0_0) by omega) (show 0 ≤ (y13_0_0) ∧ (y13_0_0) ≤ 31 by omega) (show 0 ≤ (y18_0_1) ∧ (y18_0_1) ≤ 65536 ∧ (y23_0_2) ≤ 8 * ((n1) - (y18_0_1)) ∧ (n1) ≤ 65536 by omega) (show -100 ≤ (y23_0_2) by omega) (fun z25 σ25 F25ₚ A25ₚ Hₚ Oₚ hS25 hA25 y25_0_2 ey25_0_2 pz25_0 pz25_1 pz25_2 pz25_3 => ⟨rfl, ?_⟩))
        refine v_backc (c := c) (s := s) H oz_F3cls_18 oz_F3cls_25 Hₚ Oₚ (fun F25 A25 H Oₚ eF25 eA25 => ?_)
        have O := OUT_trans O Oₚ
        -- BitSource.take
        have cF25 : SF oz_F3clsl_8 F F25 := SF_trans (cF23) (SF_gluc (ι := oz_F3clsl_11) oz_F3cls_25 hS25 eF25 (by decide +kernel)) (any_sub (lₚ := [(12, 2)]) (by decide +kernel))
        have mF25 := SFm_of cF25 oz_F3cls_22
        have cA25 : SA oz_F3clsl_9 A A25 := SA_trans (cA23) (SA_gluc (ι := oz_F3clsl_11) oz_F3cls_25 hA25 eA25 (by decide +kernel)) (any_subA (lₚ := []) (by decide +kernel))
        have mA25 := SAm_of cA25 oz_F3cls_23
        have r26 : (-2147483648 : Int) ≤ y25_0_2 ∧ y25_0_2 ≤ 2147483647 := rngE (show (-2147483648 : Int) ≤ F25 12 2 ∧ F25 12 2 ≤ 2147483647 from H.krg 12 2 (ltn len_V108_Br_oz_F3cls rfl)) (show F25 12 2 = y25_0_2 from ((eF25 12 2).trans ey25_0_2))
        have hv2 := pz25_3
        rw [pk_y (by omega)] at hv2
        refine w_l2i rfl ?_
        refine Ew_of (pcₚ := 88) (fun _ => x_istore rfl) ?_
        refine Ew_of (pcₚ := 89) (fun _ => x_iconst rfl) ?_
        refine Ew_of (pcₚ := 91) (fun _ => x_istore rfl) ?_
        have hw0 : WTS ((w2)) 0 := fun i a b => by omega
        have : WBO (ub8 ((w1))) ((a2)) ((a3)) (WP_) (oo_) (q4) ((z23)) ((z25)) ((y25_0_2)) ((0)) ((w2)) := WBO_0 hQ_ (by omega) ho1 (by omega) (by rw [← k2_]; exact hv1) (by omega) (by rw [← k2_]; exact hv2) (by omega) (by omega) rfl
        suffices hl91 : ∀ (m : Nat), ∀ (ls : rO) (σ : rS) (F_91 : hF) (A_91 : hA) (x91_5 : Int) (x91_6 : Int) (x91_7 : Int), rlook ls 0 = some (.ref (D 0)) → rlook ls 5 = some (I (x91_5)) → rlook ls 6 = some (I (x91_6)) → rlook ls 7 = some (I (x91_7)) → HW V108_Br σ D N F_91 A_91 → OUT (V108_Br).length D N σE c s D N σ c s → SF [(12, 2)] F25 F_91 → SA [2] A25 A_91 → ∀ y91_12_2 : Int, F_91 12 2 = y91_12_2 → ∀ w91_2 : Int → Int, A_91 2 = w91_2 → (inr (x91_5)) → (inr (x91_6)) → (inr (x91_7)) → ((0) ≤ (x91_7)) → ((x91_7) ≤ (0) ∨ (x91_7) ≤ ((254))) → (0 ≤ (x91_5) ∧ (x91_5) < p2 ((y13_0_0))) → (0 ≤ (x91_6) ∧ (x91_6) < p2 ((y13_0_0))) → (0 ≤ (y91_12_2) ∧ (y91_12_2) ≤ 8 * ((n1) - (y18_0_1))) → (WTS ((w91_2)) (x91_7)) → (WBO (ub8 ((w1))) ((a2)) ((a3)) (WP_) (oo_) (q4) ((x91_5)) ((x91_6)) ((y91_12_2)) ((x91_7)) ((w91_2))) → (((254)) - (x91_7)).toNat = m → Ew 108 (d + 2) 91 ls [] σ c s Q from
          hl91 _ _ _ _ _ (z23) (z25) (0) (rk_o (rk_o (rk_o (rk_o (rfl) rfl rfl) rfl rfl) rfl rfl) rfl rfl) (rk_o (rk_o (rk_s) rfl rfl) rfl rfl) (rk_o (rk_s) rfl rfl) (rk_s) H O (SF_refl) (SA_refl)   (y25_0_2) (((eF25 12 2).trans ey25_0_2)) (w2) (((show A25 2 = A23 2 from (eA25 2))).trans (((show A23 2 = A18 2 from (eA23 2))).trans (((show A18 2 = A13 2 from (eA18 2))).trans (((show A13 2 = A 2 from (eA13 2))).trans (ew2))))) (show inr (z23) by omega) (show inr (z25) by omega) (show inr (0) from q_2) (show (0) ≤ (0) from q_1) (show (0) ≤ (0) ∨ (0) ≤ ((254)) from q_3707) (show 0 ≤ (z23) ∧ (z23) < p2 ((y13_0_0)) from pz23_1) (show 0 ≤ (z25) ∧ (z25) < p2 ((y13_0_0)) from pz25_1) (show 0 ≤ (y25_0_2) ∧ (y25_0_2) ≤ 8 * ((n1) - (y18_0_1)) by omega) (hw0) (show WBO (ub8 ((w1))) ((a2)) ((a3)) (WP_) (oo_) (q4) ((z23)) ((z25)) ((y25_0_2)) ((0)) ((w2)) by assumption) rfl
        as_aux_lemma =>
        intro m
        induction m using Nat.strongRecOn with
        | _ m ih91 =>
          intro ls σ F_91 A_91 x91_5 x91_6 x91_7 l91_0 l91_5 l91_6 l91_7 H O hS_91 hA_91   y91_12_2 ey91_12_2 w91_2 ew91_2 j91_0 j91_1 j91_2 j91_3 j91_4 j91_5 j91_6 j91_7 j91_8 j91_9 hm91
          have cF_91 : SF oz_F3clsl_8 F F_91 := SF_trans (cF25) hS_91 (any_sub (by decide +kernel))
          have mF_91 := SFm_of cF_91 oz_F3cls_22
          have cA_91 : SA oz_F3clsl_9 A A_91 := SA_trans (cA25) hA_91 (any_subA (by decide +kernel))
          have mA_91 := SAm_of cA_91 oz_F3cls_23
          try clear pz13_1
          try clear pz13_2
          try clear pz18_2
          have r27 : (-2147483648 : Int) ≤ y91_12_2 ∧ y91_12_2 ≤ 2147483647 := rngE (show (-2147483648 : Int) ≤ F_91 12 2 ∧ F_91 12 2 ≤ 2147483647 from H.krg 12 2 (ltn len_V108_Br_oz_F3cls rfl)) (show F_91 12 2 = y91_12_2 from (ey91_12_2))
          have hpo2 : p2 oo_ = p2 ((y13_0_0)) := by rw [k2_]
          have j91_o : WBO (ub8 ((w1))) ((a2)) ((a3)) (WP_) (oo_) (q4) ((x91_5)) ((x91_6)) ((y91_12_2)) ((x91_7)) ((w91_2)) := j91_9
          refine Ew_of (pcₚ := 93) (fun _ => x_iload rfl l91_7) ?_
          refine Ew_of (pcₚ := 96) (fun _ => x_sipush (z := 254) rfl (by decide)) ?_
          refine w_icmpge (t := 197) rfl rfl (show inr (x91_7) from j91_2) (show inr (254) from q_1215) (fun b28 => ?_) (fun b28 => ?_)
          · have hwz2 : WTS ((w91_2)) 0 := fun i a b => by omega
            have : WBA (ub8 ((w1))) ((a2)) ((a3)) (0) 0 ((w91_2)) := WBO_n j91_o (by omega) rfl
            refine Ew_of (pcₚ := 198) (fun _ => x_iconst rfl) ?_
            exact w_ireturn rfl (k (0) _ _ _ H O (cF_91) (cA_91) (w91_2) (ew91_2) (show inr (0) from q_2) (show 0 ≤ (0) ∧ (0) ≤ 255 by first | exact q_1407 | omega) (hwz2) (show WBA (ub8 ((w1))) (a2) (a3) ((0)) 0 ((w91_2)) by assumption))
          · refine Ew_of (pcₚ := 100) (fun _ => x_aload_n rfl l91_0) ?_
            refine v_g H (o := 0) (v := .ref (D 2)) rfl rfl rfl rfl rfl (vrf ((mF_91 0 4 rfl).trans (pf2))) ?_
            refine Ew_of (pcₚ := 105) (fun _ => x_iload rfl l91_7) ?_
            refine Ew_of (pcₚ := 106) (fun _ => x_aload_n rfl l91_0) ?_
            refine v_g H (o := 0) (v := .ref (D 3)) rfl rfl rfl rfl rfl (vrf ((mF_91 0 6 rfl).trans (pf3))) ?_
            refine Ew_of (pcₚ := 111) (fun _ => x_iload rfl l91_5) ?_
            refine v_inv H (o := 3) rfl rfl rfl rfl rfl rfl (by rfl) (C171 (D := puc 37880551437274713425923 D) (N := puc 37880551437274713425923 N) (HW_subc H oz_F3cls_19 oz_F3cls_26) ((mF_91 3 2 rfl).trans (pf4)) ((mF_91 3 3 rfl).trans (pf5)) ((mF_91 3 4 rfl).trans (pf6)) ((mF_91 3 5 rfl).trans (pf7)) ((mF_91 3 7 rfl).trans (pf10)) ((mF_91 3 8 rfl).trans (pf9)) ((mF_91 3 9 rfl).trans (pf11)) ((mF_91 3 6 rfl).trans (pf8)) (n4) (en4) (n5) (en5) (n6) (en6) (n7) (en7) (n10) (en10) (n9) (en9) (n11) (en11) (n8) (en8) (y13_0_0) ((((((hS_91 3 0 rfl).trans ((show F25 3 0 = F23 3 0 from (eF25 3 0)))).trans ((show F23 3 0 = F18 3 0 from (eF23 3 0)))).trans ((show F18 3 0 = F13 3 0 from (eF18 3 0)))).trans ((eF13 3 0).trans ey13_0_0))) (u3_1) (((mF_91 3 1 rfl).trans (eu3_1))) (w13_3) ((funext (hA_91 4 rfl)).trans (((show A25 4 = A23 4 from (eA25 4))).trans (((show A23 4 = A18 4 from (eA23 4))).trans (((show A18 4 = A13 4 from (eA18 4))).trans ((eA13 4).trans ew13_3))))) (w13_4) ((funext (hA_91 5 rfl)).trans (((show A25 5 = A23 5 from (eA25 5))).trans (((show A23 5 = A18 5 from (eA23 5))).trans (((show A18 5 = A13 5 from (eA18 5))).trans ((eA13 5).trans ew13_4))))) (w13_5) ((funext (hA_91 6 rfl)).trans (((show A25 6 = A23 6 from (eA25 6))).trans (((show A23 6 = A18 6 from (eA23 6))).trans (((show A18 6 = A13 6 from (eA18 6))).trans ((eA13 6).trans ew13_5))))) (w13_6) ((funext (hA_91 7 rfl)).trans (((show A25 7 = A23 7 from (eA25 7))).trans (((show A23 7 = A18 7 from (eA23 7))).trans (((show A18 7 = A13 7 from (eA18 7))).trans ((eA13 7).trans ew13_6))))) (w13_2) ((funext (hA_91 10 rfl)).trans (((show A25 10 = A23 10 from (eA25 10))).trans (((show A23 10 = A18 10 from (eA23 10))).trans (((show A18 10 = A13 10 from (eA18 10))).trans ((eA13 10).trans ew13_2))))) (w13_8) ((funext (hA_91 9 rfl)).trans (((show A25 9 = A23 9 from (eA25 9))).trans (((show A23 9 = A18 9 from (eA23 9))).trans (((show A18 9 = A13 9 from (eA18 9))).trans ((eA13 9).trans ew13_8))))) (w13_9) ((funext (hA_91 11 rfl)).trans (((show A25 11 = A23 11 from (eA25 11))).trans (((show A23 11 = A18 11 from (eA23 11))).trans (((show A18 11 = A13 11 from (eA18 11))).trans ((eA13 11).trans ew13_9))))) (show inr (x91_5) from j91_0) (show SL ((w13_3)) ((u3_1)) ((y13_0_0)) ((w13_4)) ((w13_5)) ((w13_6)) ((w13_2)) ((w13_8)) ((w13_9)) by assumption) (show (n4) = (u3_1) ∧ (n5) = (u3_1) ∧ (n6) = (u3_1) ∧ (n7) = (u3_1) ∧ (n8) = (u3_1) ∧ (n9) = (n10) ∧ (n11) = (n10) ∧ p2 ((y13_0_0)) ≤ (n10) by omega) (show 0 ≤ (x91_5) ∧ (x91_5) < p2 ((y13_0_0)) from j91_5) (fun z29 σ29 F29ₚ A29ₚ Hₚ Oₚ hS29 hA29 pz29_0 pz29_1 pz29_2 pz29_3 => ⟨rfl, ?_⟩))
            refine v_backc (c := c) (s := s) H oz_F3cls_19 oz_F3cls_26 Hₚ Oₚ (fun F29 A29 H Oₚ eF29 eA29 => ?_)
            have O := OUT_trans O Oₚ
            -- Share.symbolOf
            have cF29 : SF oz_F3clsl_8 F F29 := SF_trans (cF_91) (SF_gluc (ι := oz_F3clsl_12) oz_F3cls_26 hS29 eF29 (by decide +kernel)) (any_sub (lₚ := []) (by decide +kernel))
            have mF29 := SFm_of cF29 oz_F3cls_22
            have cA29 : SA oz_F3clsl_9 A A29 := SA_trans (cA_91) (SA_gluc (ι := oz_F3clsl_12) oz_F3cls_26 hA29 eA29 (by decide +kernel)) (any_subA (lₚ := []) (by decide +kernel))
            have mA29 := SAm_of cA29 oz_F3cls_23
            have hsy5 : (z29) = ((w13_2)) ((x91_5)) := pz29_1
            refine v_sI H (o := 2) (z := z29) rfl rfl rfl rfl (n := n2) (en2) (show 0 ≤ x91_7 ∧ x91_7 < n2 by omega) (show inr (z29) from pz29_0) (fun σ H Oₚ => ?_)
            have O := OUT_trans O Oₚ
            have cAu30 : SA oz_F3clsl_9 A (updA A29 2 (x91_7) (z29)) := SA_upd (cA29) rfl
            have mAu30 := SAm_of cAu30 oz_F3cls_23
            refine Ew_of (pcₚ := 116) (fun _ => x_aload_n rfl l91_0) ?_
            refine v_g H (o := 0) (v := .ref (D 3)) rfl rfl rfl rfl rfl (vrf ((mF29 0 6 rfl).trans (pf3))) ?_
            refine Ew_of (pcₚ := 121) (fun _ => x_iload rfl l91_5) ?_
            refine v_inv H (o := 3) rfl rfl rfl rfl rfl rfl (by rfl) (C172 (D := puc 37880551437274713425923 D) (N := puc 37880551437274713425923 N) (HW_subc H oz_F3cls_20 oz_F3cls_26) ((mF29 3 2 rfl).trans (pf4)) ((mF29 3 3 rfl).trans (pf5)) ((mF29 3 4 rfl).trans (pf6)) ((mF29 3 5 rfl).trans (pf7)) ((mF29 3 7 rfl).trans (pf10)) ((mF29 3 8 rfl).trans (pf9)) ((mF29 3 9 rfl).trans (pf11)) ((mF29 3 6 rfl).trans (pf8)) (n4) (en4) (n5) (en5) (n6) (en6) (n7) (en7) (n10) (en10) (n9) (en9) (n11) (en11) (n8) (en8) (y13_0_0) ((((((((show F29 3 0 = F_91 3 0 from (eF29 3 0).trans (hS29 0 0 rfl))).trans (hS_91 3 0 rfl)).trans ((show F25 3 0 = F23 3 0 from (eF25 3 0)))).trans ((show F23 3 0 = F18 3 0 from (eF23 3 0)))).trans ((show F18 3 0 = F13 3 0 from (eF18 3 0)))).trans ((eF13 3 0).trans ey13_0_0))) (u3_1) (((mF29 3 1 rfl).trans (eu3_1))) (w13_3) (((show A29 4 = A_91 4 from (eA29 4).trans (funext (hA29 1 rfl)))).trans ((funext (hA_91 4 rfl)).trans (((show A25 4 = A23 4 from (eA25 4))).trans (((show A23 4 = A18 4 from (eA23 4))).trans (((show A18 4 = A13 4 from (eA18 4))).trans ((eA13 4).trans ew13_3)))))) (w13_4) (((show A29 5 = A_91 5 from (eA29 5).trans (funext (hA29 2 rfl)))).trans ((funext (hA_91 5 rfl)).trans (((show A25 5 = A23 5 from (eA25 5))).trans (((show A23 5 = A18 5 from (eA23 5))).trans (((show A18 5 = A13 5 from (eA18 5))).trans ((eA13 5).trans ew13_4)))))) (w13_5) (((show A29 6 = A_91 6 from (eA29 6).trans (funext (hA29 3 rfl)))).trans ((funext (hA_91 6 rfl)).trans (((show A25 6 = A23 6 from (eA25 6))).trans (((show A23 6 = A18 6 from (eA23 6))).trans (((show A18 6 = A13 6 from (eA18 6))).trans ((eA13 6).trans ew13_5)))))) (w13_6) (((show A29 7 = A_91 7 from (eA29 7).trans (funext (hA29 4 rfl)))).trans ((funext (hA_91 7 rfl)).trans (((show A25 7 = A23 7 from (eA25 7))).trans (((show A23 7 = A18 7 from (eA23 7))).trans (((show A18 7 = A13 7 from (eA18 7))).trans ((eA13 7).trans ew13_6)))))) (w13_2) (((show A29 10 = A_91 10 from (eA29 10).trans (funext (hA29 5 rfl)))).trans ((funext (hA_91 10 rfl)).trans (((show A25 10 = A23 10 from (eA25 10))).trans (((show A23 10 = A18 10 from (eA23 10))).trans (((show A18 10 = A13 10 from (eA18 10))).trans ((eA13 10).trans ew13_2)))))) (w13_8) (((show A29 9 = A_91 9 from (eA29 9).trans (funext (hA29 6 rfl)))).trans ((funext (hA_91 9 rfl)).trans (((show A25 9 = A23 9 from (eA25 9))).trans (((show A23 9 = A18 9 from (eA23 9))).trans (((show A18 9 = A13 9 from (eA18 9))).trans ((eA13 9).trans ew13_8)))))) (w13_9) (((show A29 11 = A_91 11 from (eA29 11).trans (funext (hA29 7 rfl)))).trans ((funext (hA_91 11 rfl)).trans (((show A25 11 = A23 11 from (eA25 11))).trans (((show A23 11 = A18 11 from (eA23 11))).trans (((show A18 11 = A13 11 from (eA18 11))).trans ((eA13 11).trans ew13_9)))))) (show inr (x91_5) from j91_0) (show SL ((w13_3)) ((u3_1)) ((y13_0_0)) ((w13_4)) ((w13_5)) ((w13_6)) ((w13_2)) ((w13_8)) ((w13_9)) by assumption) (show (n4) = (u3_1) ∧ (n5) = (u3_1) ∧ (n6) = (u3_1) ∧ (n7) = (u3_1) ∧ (n8) = (u3_1) ∧ (n9) = (n10) ∧ (n11) = (n10) ∧ p2 ((y13_0_0)) ≤ (n10) by omega) (show 0 ≤ (x91_5) ∧ (x91_5) < p2 ((y13_0_0)) from j91_5) (fun z31 σ31 F31ₚ A31ₚ Hₚ Oₚ hS31 hA31 pz31_0 pz31_1 pz31_2 => ⟨rfl, ?_⟩))
            refine v_backc (c := c) (s := s) H oz_F3cls_20 oz_F3cls_26 Hₚ Oₚ (fun F31 A31 H Oₚ eF31 eA31 => ?_)
            have O := OUT_trans O Oₚ
            -- Share.bitsBehind
            have cF31 : SF oz_F3clsl_8 F F31 := SF_trans (cF29) (SF_gluc (ι := oz_F3clsl_12) oz_F3cls_26 hS31 eF31 (by decide +kernel)) (any_sub (lₚ := []) (by decide +kernel))
            have mF31 := SFm_of cF31 oz_F3cls_22
            have cA31 : SA oz_F3clsl_9 A A31 := SA_trans (cAu30) (SA_gluc (ι := oz_F3clsl_12) oz_F3cls_26 hA31 eA31 (by decide +kernel)) (any_subA (lₚ := []) (by decide +kernel))
            have mA31 := SAm_of cA31 oz_F3cls_23
            have hbb5 := pz31_1
            refine Ew_of (pcₚ := 126) (fun _ => x_istore rfl) ?_
            refine Ew_of (pcₚ := 127) (fun _ => x_aload_n rfl (rk_o (l91_0) rfl rfl)) ?_
            refine v_g H (o := 0) (v := .ref (D 12)) rfl rfl rfl rfl rfl (vrf ((mF31 0 9 rfl).trans (pf12))) ?_
            refine v_g H (o := 12) (v := I (y91_12_2)) rfl rfl rfl rfl rfl (congrArg (fun z : Int => I z) (((((show F31 12 2 = F29 12 2 from (eF31 12 2))).trans ((show F29 12 2 = F_91 12 2 from (eF29 12 2)))).trans (ey91_12_2)) : F31 12 2 = y91_12_2)) ?_
            refine Ew_of (pcₚ := 135) (fun _ => x_iload rfl rk_s) ?_
            refine w_icmpge (t := 161) rfl rfl (show inr (y91_12_2) from q_3708 j91_7 r27) (show inr (z31) from pz31_0) (fun b32 => ?_) (fun b32 => ?_)
            · refine Ew_of (pcₚ := 162) (fun _ => x_aload_n rfl (rk_o (l91_0) rfl rfl)) ?_
              refine v_g H (o := 0) (v := .ref (D 3)) rfl rfl rfl rfl rfl (vrf ((mF31 0 6 rfl).trans (pf3))) ?_
              refine Ew_of (pcₚ := 167) (fun _ => x_iload rfl (rk_o (l91_5) rfl rfl)) ?_
              refine v_inv H (o := 3) rfl rfl rfl rfl rfl rfl (by rfl) (C173 (D := puc 37880551437274713425923 D) (N := puc 37880551437274713425923 N) (HW_subc H oz_F3cls_21 oz_F3cls_26) ((mF31 3 2 rfl).trans (pf4)) ((mF31 3 3 rfl).trans (pf5)) ((mF31 3 4 rfl).trans (pf6)) ((mF31 3 5 rfl).trans (pf7)) ((mF31 3 7 rfl).trans (pf10)) ((mF31 3 8 rfl).trans (pf9)) ((mF31 3 9 rfl).trans (pf11)) ((mF31 3 6 rfl).trans (pf8)) (n4) (en4) (n5) (en5) (n6) (en6) (n7) (en7) (n10) (en10) (n9) (en9) (n11) (en11) (n8) (en8) (y13_0_0) (((((((((show F31 3 0 = F29 3 0 from (eF31 3 0).trans (hS31 0 0 rfl))).trans ((show F29 3 0 = F_91 3 0 from (eF29 3 0).trans (hS29 0 0 rfl)))).trans (hS_91 3 0 rfl)).trans ((show F25 3 0 = F23 3 0 from (eF25 3 0)))).trans ((show F23 3 0 = F18 3 0 from (eF23 3 0)))).trans ((show F18 3 0 = F13 3 0 from (eF18 3 0)))).trans ((eF13 3 0).trans ey13_0_0))) (u3_1) (((mF31 3 1 rfl).trans (eu3_1))) (w13_3) (((show A31 4 = (updA A29 2 (x91_7) (z29)) 4 from (eA31 4).trans (funext (hA31 1 rfl)))).trans (((show A29 4 = A_91 4 from (eA29 4).trans (funext (hA29 1 rfl)))).trans ((funext (hA_91 4 rfl)).trans (((show A25 4 = A23 4 from (eA25 4))).trans (((show A23 4 = A18 4 from (eA23 4))).trans (((show A18 4 = A13 4 from (eA18 4))).trans ((eA13 4).trans ew13_3))))))) (w13_4) (((show A31 5 = (updA A29 2 (x91_7) (z29)) 5 from (eA31 5).trans (funext (hA31 2 rfl)))).trans (((show A29 5 = A_91 5 from (eA29 5).trans (funext (hA29 2 rfl)))).trans ((funext (hA_91 5 rfl)).trans (((show A25 5 = A23 5 from (eA25 5))).trans (((show A23 5 = A18 5 from (eA23 5))).trans (((show A18 5 = A13 5 from (eA18 5))).trans ((eA13 5).trans ew13_4))))))) (w13_5) (((show A31 6 = (updA A29 2 (x91_7) (z29)) 6 from (eA31 6).trans (funext (hA31 3 rfl)))).trans (((show A29 6 = A_91 6 from (eA29 6).trans (funext (hA29 3 rfl)))).trans ((funext (hA_91 6 rfl)).trans (((show A25 6 = A23 6 from (eA25 6))).trans (((show A23 6 = A18 6 from (eA23 6))).trans (((show A18 6 = A13 6 from (eA18 6))).trans ((eA13 6).trans ew13_5))))))) (w13_6) (((show A31 7 = (updA A29 2 (x91_7) (z29)) 7 from (eA31 7).trans (funext (hA31 4 rfl)))).trans (((show A29 7 = A_91 7 from (eA29 7).trans (funext (hA29 4 rfl)))).trans ((funext (hA_91 7 rfl)).trans (((show A25 7 = A23 7 from (eA25 7))).trans (((show A23 7 = A18 7 from (eA23 7))).trans (((show A18 7 = A13 7 from (eA18 7))).trans ((eA13 7).trans ew13_6))))))) (w13_2) (((show A31 10 = (updA A29 2 (x91_7) (z29)) 10 from (eA31 10).trans (funext (hA31 5 rfl)))).trans (((show A29 10 = A_91 10 from (eA29 10).trans (funext (hA29 5 rfl)))).trans ((funext (hA_91 10 rfl)).trans (((show A25 10 = A23 10 from (eA25 10))).trans (((show A23 10 = A18 10 from (eA23 10))).trans (((show A18 10 = A13 10 from (eA18 10))).trans ((eA13 10).trans ew13_2))))))) (w13_8) (((show A31 9 = (updA A29 2 (x91_7) (z29)) 9 from (eA31 9).trans (funext (hA31 6 rfl)))).trans (((show A29 9 = A_91 9 from (eA29 9).trans (funext (hA29 6 rfl)))).trans ((funext (hA_91 9 rfl)).trans (((show A25 9 = A23 9 from (eA25 9))).trans (((show A23 9 = A18 9 from (eA23 9))).trans (((show A18 9 = A13 9 from (eA18 9))).trans ((eA13 9).trans ew13_8))))))) (w13_9) (((show A31 11 = (updA A29 2 (x91_7) (z29)) 11 from (eA31 11).trans (funext (hA31 7 rfl)))).trans (((show A29 11 = A_91 11 from (eA29 11).trans (funext (hA29 7 rfl)))).trans ((funext (hA_91 11 rfl)).trans (((show A25 11 = A23 11 from (eA25 11))).trans (((show A23 11 = A18 11 from (eA23 11))).trans (((show A18 11 = A13 11 from (eA18 11))).trans ((eA13 11).trans ew13_9))))))) (show inr (x91_5) from j91_0) (show SL ((w13_3)) ((u3_1)) ((y13_0_0)) ((w13_4)) ((w13_5)) ((w13_6)) ((w13_2)) ((w13_8)) ((w13_9)) by assumption) (show (n4) = (u3_1) ∧ (n5) = (u3_1) ∧ (n6) = (u3_1) ∧ (n7) = (u3_1) ∧ (n8) = (u3_1) ∧ (n9) = (n10) ∧ (n11) = (n10) ∧ p2 ((y13_0_0)) ≤ (n10) by omega) (show 0 ≤ (x91_5) ∧ (x91_5) < p2 ((y13_0_0)) from j91_5) (fun z33 σ33 F33ₚ A33ₚ Hₚ Oₚ hS33 hA33 pz33_0 pz33_1 pz33_2 => ⟨rfl, ?_⟩))
              refine v_backc (c := c) (s := s) H oz_F3cls_21 oz_F3cls_26 Hₚ Oₚ (fun F33 A33 H Oₚ eF33 eA33 => ?_)
              have O := OUT_trans O Oₚ
              -- Share.baseBehind
              have cF33 : SF oz_F3clsl_8 F F33 := SF_trans (cF31) (SF_gluc (ι := oz_F3clsl_12) oz_F3cls_26 hS33 eF33 (by decide +kernel)) (any_sub (lₚ := []) (by decide +kernel))
              have mF33 := SFm_of cF33 oz_F3cls_22
              have cA33 : SA oz_F3clsl_9 A A33 := SA_trans (cA31) (SA_gluc (ι := oz_F3clsl_12) oz_F3cls_26 hA33 eA33 (by decide +kernel)) (any_subA (lₚ := []) (by decide +kernel))
              have mA33 := SAm_of cA33 oz_F3cls_23
              refine Ew_of (pcₚ := 171) (fun _ => x_aload_n rfl (rk_o (l91_0) rfl rfl)) ?_
              refine v_g H (o := 0) (v := .ref (D 12)) rfl rfl rfl rfl rfl (vrf ((mF33 0 9 rfl).trans (pf12))) ?_
              refine Ew_of (pcₚ := 176) (fun _ => x_iload rfl rk_s) ?_
              refine v_inv H (o := 12) rfl rfl rfl rfl rfl rfl (by rfl) (C95 (D := puc 524 D) (N := puc 524 N) (HW_subc H oz_F3cls_18 oz_F3cls_25) (((((((((show F33 12 0 = F31 12 0 from (eF33 12 0))).trans ((show F31 12 0 = F29 12 0 from (eF31 12 0)))).trans ((show F29 12 0 = F_91 12 0 from (eF29 12 0)))).trans (hS_91 12 0 rfl)).trans ((show F25 12 0 = F23 12 0 from (eF25 12 0).trans (hS25 0 0 rfl)))).trans ((show F23 12 0 = F18 12 0 from (eF23 12 0).trans (hS23 0 0 rfl))))).trans (pl18_0)) (n1) (en1) (y18_0_1) (((((((((show F33 12 1 = F31 12 1 from (eF33 12 1))).trans ((show F31 12 1 = F29 12 1 from (eF31 12 1)))).trans ((show F29 12 1 = F_91 12 1 from (eF29 12 1)))).trans (hS_91 12 1 rfl)).trans ((show F25 12 1 = F23 12 1 from (eF25 12 1).trans (hS25 0 1 rfl)))).trans ((show F23 12 1 = F18 12 1 from (eF23 12 1).trans (hS23 0 1 rfl)))).trans ((eF18 12 1).trans ey18_0_1))) (y91_12_2) ((((((show F33 12 2 = F31 12 2 from (eF33 12 2))).trans ((show F31 12 2 = F29 12 2 from (eF31 12 2)))).trans ((show F29 12 2 = F_91 12 2 from (eF29 12 2)))).trans (ey91_12_2))) (w1) ((funext (mA33 1 rfl)).trans (ew1)) (show inr (z31) from pz31_0) (show 0 ≤ (z31) ∧ (z31) ≤ 31 by omega) (show 0 ≤ (y18_0_1) ∧ (y18_0_1) ≤ 65536 ∧ (y91_12_2) ≤ 8 * ((n1) - (y18_0_1)) ∧ (n1) ≤ 65536 by omega) (show -100 ≤ (y91_12_2) from q_3709 j91_7) (fun z34 σ34 F34ₚ A34ₚ Hₚ Oₚ hS34 hA34 y34_0_2 ey34_0_2 pz34_0 pz34_1 pz34_2 pz34_3 => ⟨rfl, ?_⟩))
              refine v_backc (c := c) (s := s) H oz_F3cls_18 oz_F3cls_25 Hₚ Oₚ (fun F34 A34 H Oₚ eF34 eA34 => ?_)
              have O := OUT_trans O Oₚ
              -- BitSource.take
              have cF34 : SF oz_F3clsl_8 F F34 := SF_trans (cF33) (SF_gluc (ι := oz_F3clsl_11) oz_F3cls_25 hS34 eF34 (by decide +kernel)) (any_sub (lₚ := [(12, 2)]) (by decide +kernel))
              have mF34 := SFm_of cF34 oz_F3cls_22
              have cA34 : SA oz_F3clsl_9 A A34 := SA_trans (cA33) (SA_gluc (ι := oz_F3clsl_11) oz_F3cls_25 hA34 eA34 (by decide +kernel)) (any_subA (lₚ := []) (by decide +kernel))
              have mA34 := SAm_of cA34 oz_F3cls_23
              have r35 : (-2147483648 : Int) ≤ y34_0_2 ∧ y34_0_2 ≤ 2147483647 := rngE (show (-2147483648 : Int) ≤ F34 12 2 ∧ F34 12 2 ≤ 2147483647 from H.krg 12 2 (ltn len_V108_Br_oz_F3cls rfl)) (show F34 12 2 = y34_0_2 from ((eF34 12 2).trans ey34_0_2))
              have hv8 := pz34_3
              rw [pk_y (by omega)] at hv8
              refine w_l2i rfl ?_
              have hT5 := TST_s hsl (by omega) k4_ (by omega) (by omega) hbb5 pz33_1 hsy5 k2_
              have hbas := pz33_1 _ pz31_1
              refine w_iadd rfl ?_
              refine Ew_of (pcₚ := 183) (fun _ => x_istore rfl) ?_
              refine Ew_of (pcₚ := 185) (fun _ => x_iload rfl (rk_o (rk_o (l91_6) rfl rfl) rfl rfl)) ?_
              refine Ew_of (pcₚ := 187) (fun _ => x_istore rfl) ?_
              refine Ew_of (pcₚ := 189) (fun _ => x_iload rfl (rk_o (rk_s) rfl rfl)) ?_
              refine Ew_of (pcₚ := 191) (fun _ => x_istore rfl) ?_
              refine Ew_of (pcₚ := 194) (fun _ => x_iinc (len := 3) rfl (rk_o (rk_o (rk_o (rk_o (l91_7) rfl rfl) rfl rfl) rfl rfl) rfl rfl)) ?_
              refine Ew_of (pcₚ := 91) (fun _ => x_goto rfl rfl) ?_
              have hw1 : WTS ((upd1 (w91_2) (x91_7) (z29))) ((x91_7 + 1)) := WTS_s (by assumption) rfl (by omega)
              have : WBO (ub8 ((w1))) ((a2)) ((a3)) (WP_) (oo_) (q4) ((x91_6)) (((z33 + z34))) ((y34_0_2)) (((x91_7 + 1))) ((upd1 (w91_2) (x91_7) (z29))) := WBO_s j91_o (by omega) (by omega) (by omega) hT5 rfl (by omega) hv8 (by omega) rfl (by omega) (by omega) rfl
              exact ih91 _ (msE hm91 q_3713 (q_3714 b28)) _ _ _ _ (x91_6) ((z33 + z34)) ((x91_7 + 1)) (rk_o (rk_o (rk_o (rk_o (rk_o (l91_0) rfl rfl) rfl rfl) rfl rfl) rfl rfl) rfl rfl) (rk_o (rk_o (rk_s) rfl rfl) rfl rfl) (rk_o (rk_s) rfl rfl) (rk_s) H O (SF_trans (SF_trans (SF_trans (SF_trans (hS_91) (SF_gluc (ι := oz_F3clsl_12) oz_F3cls_26 hS29 eF29 (by decide +kernel)) (any_sub (lₚ := []) (by decide +kernel))) (SF_gluc (ι := oz_F3clsl_12) oz_F3cls_26 hS31 eF31 (by decide +kernel)) (any_sub (lₚ := []) (by decide +kernel))) (SF_gluc (ι := oz_F3clsl_12) oz_F3cls_26 hS33 eF33 (by decide +kernel)) (any_sub (lₚ := []) (by decide +kernel))) (SF_gluc (ι := oz_F3clsl_11) oz_F3cls_25 hS34 eF34 (by decide +kernel)) (any_sub (lₚ := [(12, 2)]) (by decide +kernel))) (SA_trans (SA_trans (SA_trans (SA_upd (SA_trans (hA_91) (SA_gluc (ι := oz_F3clsl_12) oz_F3cls_26 hA29 eA29 (by decide +kernel)) (any_subA (lₚ := []) (by decide +kernel))) rfl) (SA_gluc (ι := oz_F3clsl_12) oz_F3cls_26 hA31 eA31 (by decide +kernel)) (any_subA (lₚ := []) (by decide +kernel))) (SA_gluc (ι := oz_F3clsl_12) oz_F3cls_26 hA33 eA33 (by decide +kernel)) (any_subA (lₚ := []) (by decide +kernel))) (SA_gluc (ι := oz_F3clsl_11) oz_F3cls_25 hA34 eA34 (by decide +kernel)) (any_subA (lₚ := []) (by decide +kernel)))   (y34_0_2) (((eF34 12 2).trans ey34_0_2)) (upd1 (w91_2) (x91_7) (z29)) (((show A34 2 = A33 2 from (eA34 2))).trans (((show A33 2 = A31 2 from (eA33 2))).trans (((show A31 2 = (updA A29 2 (x91_7) (z29)) 2 from (eA31 2))).trans (congrArg (fun q => upd1 q (x91_7) (z29)) (((show A29 2 = A_91 2 from (eA29 2))).trans (ew91_2)))))) (show inr (x91_6) from j91_1) (show inr ((z33 + z34)) by omega) (show inr ((x91_7 + 1)) from q_3712 b28 j91_3) (show (0) ≤ ((x91_7 + 1)) from q_14 j91_3) (show ((x91_7 + 1)) ≤ (0) ∨ ((x91_7 + 1)) ≤ ((254)) from q_3711 b28) (show 0 ≤ (x91_6) ∧ (x91_6) < p2 ((y13_0_0)) from j91_6) (show 0 ≤ ((z33 + z34)) ∧ ((z33 + z34)) < p2 ((y13_0_0)) by omega) (show 0 ≤ (y34_0_2) ∧ (y34_0_2) ≤ 8 * ((n1) - (y18_0_1)) from q_3710 b32 j91_7 pz31_2 pz34_2) (hw1) (show WBO (ub8 ((w1))) ((a2)) ((a3)) (WP_) (oo_) (q4) ((x91_6)) (((z33 + z34))) ((y34_0_2)) (((x91_7 + 1))) ((upd1 (w91_2) (x91_7) (z29))) by assumption) rfl
            · refine Ew_of (pcₚ := 139) (fun _ => x_aload_n rfl (rk_o (l91_0) rfl rfl)) ?_
              refine v_g H (o := 0) (v := .ref (D 2)) rfl rfl rfl rfl rfl (vrf ((mF31 0 4 rfl).trans (pf2))) ?_
              refine Ew_of (pcₚ := 144) (fun _ => x_iload rfl (rk_o (l91_7) rfl rfl)) ?_
              refine Ew_of (pcₚ := 145) (fun _ => x_iconst rfl) ?_
              refine w_iadd rfl ?_
              refine Ew_of (pcₚ := 147) (fun _ => x_aload_n rfl (rk_o (l91_0) rfl rfl)) ?_
              refine v_g H (o := 0) (v := .ref (D 3)) rfl rfl rfl rfl rfl (vrf ((mF31 0 6 rfl).trans (pf3))) ?_
              refine Ew_of (pcₚ := 152) (fun _ => x_iload rfl (rk_o (l91_6) rfl rfl)) ?_
              refine v_inv H (o := 3) rfl rfl rfl rfl rfl rfl (by rfl) (C171 (D := puc 37880551437274713425923 D) (N := puc 37880551437274713425923 N) (HW_subc H oz_F3cls_19 oz_F3cls_26) ((mF31 3 2 rfl).trans (pf4)) ((mF31 3 3 rfl).trans (pf5)) ((mF31 3 4 rfl).trans (pf6)) ((mF31 3 5 rfl).trans (pf7)) ((mF31 3 7 rfl).trans (pf10)) ((mF31 3 8 rfl).trans (pf9)) ((mF31 3 9 rfl).trans (pf11)) ((mF31 3 6 rfl).trans (pf8)) (n4) (en4) (n5) (en5) (n6) (en6) (n7) (en7) (n10) (en10) (n9) (en9) (n11) (en11) (n8) (en8) (y13_0_0) (((((((((show F31 3 0 = F29 3 0 from (eF31 3 0).trans (hS31 0 0 rfl))).trans ((show F29 3 0 = F_91 3 0 from (eF29 3 0).trans (hS29 0 0 rfl)))).trans (hS_91 3 0 rfl)).trans ((show F25 3 0 = F23 3 0 from (eF25 3 0)))).trans ((show F23 3 0 = F18 3 0 from (eF23 3 0)))).trans ((show F18 3 0 = F13 3 0 from (eF18 3 0)))).trans ((eF13 3 0).trans ey13_0_0))) (u3_1) (((mF31 3 1 rfl).trans (eu3_1))) (w13_3) (((show A31 4 = (updA A29 2 (x91_7) (z29)) 4 from (eA31 4).trans (funext (hA31 1 rfl)))).trans (((show A29 4 = A_91 4 from (eA29 4).trans (funext (hA29 1 rfl)))).trans ((funext (hA_91 4 rfl)).trans (((show A25 4 = A23 4 from (eA25 4))).trans (((show A23 4 = A18 4 from (eA23 4))).trans (((show A18 4 = A13 4 from (eA18 4))).trans ((eA13 4).trans ew13_3))))))) (w13_4) (((show A31 5 = (updA A29 2 (x91_7) (z29)) 5 from (eA31 5).trans (funext (hA31 2 rfl)))).trans (((show A29 5 = A_91 5 from (eA29 5).trans (funext (hA29 2 rfl)))).trans ((funext (hA_91 5 rfl)).trans (((show A25 5 = A23 5 from (eA25 5))).trans (((show A23 5 = A18 5 from (eA23 5))).trans (((show A18 5 = A13 5 from (eA18 5))).trans ((eA13 5).trans ew13_4))))))) (w13_5) (((show A31 6 = (updA A29 2 (x91_7) (z29)) 6 from (eA31 6).trans (funext (hA31 3 rfl)))).trans (((show A29 6 = A_91 6 from (eA29 6).trans (funext (hA29 3 rfl)))).trans ((funext (hA_91 6 rfl)).trans (((show A25 6 = A23 6 from (eA25 6))).trans (((show A23 6 = A18 6 from (eA23 6))).trans (((show A18 6 = A13 6 from (eA18 6))).trans ((eA13 6).trans ew13_5))))))) (w13_6) (((show A31 7 = (updA A29 2 (x91_7) (z29)) 7 from (eA31 7).trans (funext (hA31 4 rfl)))).trans (((show A29 7 = A_91 7 from (eA29 7).trans (funext (hA29 4 rfl)))).trans ((funext (hA_91 7 rfl)).trans (((show A25 7 = A23 7 from (eA25 7))).trans (((show A23 7 = A18 7 from (eA23 7))).trans (((show A18 7 = A13 7 from (eA18 7))).trans ((eA13 7).trans ew13_6))))))) (w13_2) (((show A31 10 = (updA A29 2 (x91_7) (z29)) 10 from (eA31 10).trans (funext (hA31 5 rfl)))).trans (((show A29 10 = A_91 10 from (eA29 10).trans (funext (hA29 5 rfl)))).trans ((funext (hA_91 10 rfl)).trans (((show A25 10 = A23 10 from (eA25 10))).trans (((show A23 10 = A18 10 from (eA23 10))).trans (((show A18 10 = A13 10 from (eA18 10))).trans ((eA13 10).trans ew13_2))))))) (w13_8) (((show A31 9 = (updA A29 2 (x91_7) (z29)) 9 from (eA31 9).trans (funext (hA31 6 rfl)))).trans (((show A29 9 = A_91 9 from (eA29 9).trans (funext (hA29 6 rfl)))).trans ((funext (hA_91 9 rfl)).trans (((show A25 9 = A23 9 from (eA25 9))).trans (((show A23 9 = A18 9 from (eA23 9))).trans (((show A18 9 = A13 9 from (eA18 9))).trans ((eA13 9).trans ew13_8))))))) (w13_9) (((show A31 11 = (updA A29 2 (x91_7) (z29)) 11 from (eA31 11).trans (funext (hA31 7 rfl)))).trans (((show A29 11 = A_91 11 from (eA29 11).trans (funext (hA29 7 rfl)))).trans ((funext (hA_91 11 rfl)).trans (((show A25 11 = A23 11 from (eA25 11))).trans (((show A23 11 = A18 11 from (eA23 11))).trans (((show A18 11 = A13 11 from (eA18 11))).trans ((eA13 11).trans ew13_9))))))) (show inr (x91_6) from j91_1) (show SL ((w13_3)) ((u3_1)) ((y13_0_0)) ((w13_4)) ((w13_5)) ((w13_6)) ((w13_2)) ((w13_8)) ((w13_9)) by assumption) (show (n4) = (u3_1) ∧ (n5) = (u3_1) ∧ (n6) = (u3_1) ∧ (n7) = (u3_1) ∧ (n8) = (u3_1) ∧ (n9) = (n10) ∧ (n11) = (n10) ∧ p2 ((y13_0_0)) ≤ (n10) by omega) (show 0 ≤ (x91_6) ∧ (x91_6) < p2 ((y13_0_0)) from j91_6) (fun z36 σ36 F36ₚ A36ₚ Hₚ Oₚ hS36 hA36 pz36_0 pz36_1 pz36_2 pz36_3 => ⟨rfl, ?_⟩))
              refine v_backc (c := c) (s := s) H oz_F3cls_19 oz_F3cls_26 Hₚ Oₚ (fun F36 A36 H Oₚ eF36 eA36 => ?_)
              have O := OUT_trans O Oₚ
              -- Share.symbolOf
              have cF36 : SF oz_F3clsl_8 F F36 := SF_trans (cF31) (SF_gluc (ι := oz_F3clsl_12) oz_F3cls_26 hS36 eF36 (by decide +kernel)) (any_sub (lₚ := []) (by decide +kernel))
              have mF36 := SFm_of cF36 oz_F3cls_22
              have cA36 : SA oz_F3clsl_9 A A36 := SA_trans (cA31) (SA_gluc (ι := oz_F3clsl_12) oz_F3cls_26 hA36 eA36 (by decide +kernel)) (any_subA (lₚ := []) (by decide +kernel))
              have mA36 := SAm_of cA36 oz_F3cls_23
              have hsy6 : (z36) = ((w13_2)) ((x91_6)) := pz36_1
              obtain ⟨z5, hT5⟩ := TST_b hsl (by omega) k4_ (by omega) (by omega) hbb5 hsy5 k2_
              obtain ⟨b6, z6, hT6⟩ := TST_x hsl (by omega) k4_ (by omega) (by omega) hsy6 k2_
              refine v_sI H (o := 2) (z := z36) rfl rfl rfl rfl (n := n2) (en2) (show 0 ≤ (x91_7 + 1) ∧ (x91_7 + 1) < n2 by omega) (show inr (z36) from pz36_0) (fun σ H Oₚ => ?_)
              have O := OUT_trans O Oₚ
              have cAu37 : SA oz_F3clsl_9 A (updA A36 2 ((x91_7 + 1)) (z36)) := SA_upd (cA36) rfl
              have mAu37 := SAm_of cAu37 oz_F3cls_23
              have hw2 : WTS ((upd1 (upd1 (w91_2) (x91_7) (z29)) ((x91_7 + 1)) (z36))) ((x91_7) + 2) := WTS_s (WTS_s (by assumption) rfl (by omega)) (by omega) (by omega)
              refine Ew_of (pcₚ := 158) (fun _ => x_iload rfl (rk_o (l91_7) rfl rfl)) ?_
              refine Ew_of (pcₚ := 159) (fun _ => x_iconst rfl) ?_
              refine w_iadd rfl ?_
              have : WBA (ub8 ((w1))) ((a2)) ((a3)) (((x91_7 + 2))) 0 ((upd1 (upd1 (w91_2) (x91_7) (z29)) ((x91_7 + 1)) (z36))) := WBO_e j91_o (by omega) (by omega) (by omega) hT5 rfl hT6 rfl (by omega) rfl rfl
              exact w_ireturn rfl (k ((x91_7 + 2)) _ _ _ H O (cF36) (cAu37) (upd1 (upd1 (w91_2) (x91_7) (z29)) ((x91_7 + 1)) (z36)) (congrArg (fun q => upd1 q ((x91_7 + 1)) (z36)) (((show A36 2 = A31 2 from (eA36 2))).trans (((show A31 2 = (updA A29 2 (x91_7) (z29)) 2 from (eA31 2))).trans (congrArg (fun q => upd1 q (x91_7) (z29)) (((show A29 2 = A_91 2 from (eA29 2))).trans (ew91_2)))))) (show inr ((x91_7 + 2)) from q_3716 b28 j91_3) (show 0 ≤ ((x91_7 + 2)) ∧ ((x91_7 + 2)) ≤ 255 by first | exact q_3715 b28 j91_3 | omega) (hw2) (show WBA (ub8 ((w1))) (a2) (a3) (((x91_7 + 2))) 0 ((upd1 (upd1 (w91_2) (x91_7) (z29)) ((x91_7 + 1)) (z36))) by assumption))
      · have hwz : WTS ((w2)) 0 := fun i a b => by omega
        have : WBA (ub8 ((w1))) ((a2)) ((a3)) (0) 0 ((w2)) := by exact WBA_l hQ_ (by omega) ho1 (by omega) rfl
        refine Ew_of (pcₚ := 53) (fun _ => x_iconst rfl) ?_
        exact w_ireturn rfl (k (0) _ _ _ H O (cF18) (cA18) (w2) (((show A18 2 = A13 2 from (eA18 2))).trans (((show A13 2 = A 2 from (eA13 2))).trans (ew2))) (show inr (0) from q_2) (show 0 ≤ (0) ∧ (0) ≤ 255 by first | exact q_1407 | omega) (hwz) (show WBA (ub8 ((w1))) (a2) (a3) ((0)) 0 ((w2)) by assumption))

