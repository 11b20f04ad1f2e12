abbrev V132_Ir : vV := [(1, 1, [])]
theorem len_V132_Ir_oz_J1cls : (V132_Ir).length = 1 := by decide +kernel
/-- Packer.windowFor: #1 -/
theorem C132_Ir {σE : rS} {D N : Nat → Nat} {F : hF} {A : hA} {d c s : Nat} {Q : wQ} (H : HW V132_Ir σE D N F A) {a2 : Int} (n0 : Int) (en0 : HID ((N 0 : Int) = n0)) (w0 : Int → Int) (ew0 : A 0 = w0) (h0 : inr (a2)) (h1 : (n0) = 10) (h2 : 0 ≤ ((w0)) 8 ∧ ((w0)) 8 ≤ 11) (h3 : 0 ≤ (a2) ∧ (a2) ≤ 16384) (k : ∀ (z : Int) (σ : rS) (Fₚ : hF) (Aₚ : hA), HW V132_Ir σ D N Fₚ Aₚ → OUT (V132_Ir).length D N σE c s D N σ c s → SF [] F Fₚ → SA [] A Aₚ → (inr (z)) → (0 ≤ (z) ∧ (z) ≤ 2097152) → Q (some (I z)) σ c s) : Ew 132 (d + 0) 0 (rargs 0 [.ref (D 0), I a2]) [] σE c s Q := by
  have O := OUT_refl (n := (V132_Ir).length) (D := D) (N := N) (σ := σE) (c := c) (s := s)
  have HE := H
  have r1 : (0 : Int) ≤ n0 ∧ n0 ≤ 1000000 := nleE (H.nle 0 (ltn len_V132_Ir_oz_J1cls rfl)) (show (N 0 : Int) = n0 from en0)
  refine Ew_of (pcₚ := 1) (fun _ => x_aload_n rfl rfl) ?_
  refine Ew_of (pcₚ := 3) (fun _ => x_bipush (z := 7) rfl (by decide)) ?_
  refine v_lI H (o := 0) rfl rfl rfl rfl (n := n0) (en0) (show 0 ≤ 7 ∧ 7 < n0 from q_3855 h1 r1) (fun v2 ev2 qv2 => ?_)
  have ev2 : (w0) (7) = v2 := (congrFun (ew0) (7)).symm.trans ev2
  refine Ew_of (pcₚ := 5) (fun _ => x_iconst rfl) ?_
  refine w_iand rfl (show inr (v2) from qv2) (show inr (4) from q_2) (fun z3 gz3 gaz3 gbz3 => ?_)
  refine w_ifeq (t := 13) rfl rfl (show inr (z3) from gz3) (fun b4 => ?_) (fun b4 => ?_)
  · refine Ew_of (pcₚ := 14) (fun _ => x_iconst rfl) ?_
    refine Ew_of (pcₚ := 16) (fun _ => x_bipush (z := 10) rfl (by decide)) ?_
    refine Ew_of (pcₚ := 17) (fun _ => x_aload_n rfl rfl) ?_
    refine Ew_of (pcₚ := 19) (fun _ => x_bipush (z := 8) rfl (by decide)) ?_
    refine v_lI H (o := 0) rfl rfl rfl rfl (n := n0) (en0) (show 0 ≤ 8 ∧ 8 < n0 from q_3856 h1 r1) (fun v5 ev5 qv5 => ?_)
    have ev5 : (w0) (8) = v5 := (congrFun (ew0) (8)).symm.trans ev5
    refine w_iadd rfl ?_
    have hpw : p2 (((10 + v5))) ≤ p2 21 := p2_mono (by omega)
    have hp21 : p2 21 = 2097152 := by decide
    have hpp := p2_pos (((10 + v5)))
    refine w_ishl1 rfl (show 0 ≤ (10 + v5) ∧ (10 + v5) ≤ 31 from q_3857 ev5 h2) ?_
    exact w_ireturn rfl (k (p2 ((10 + v5))) _ _ _ H O (SF_refl) (SA_refl) (show inr (p2 ((10 + v5))) by omega) (show 0 ≤ (p2 ((10 + v5))) ∧ (p2 ((10 + v5))) ≤ 2097152 by omega))
  · refine Ew_of (pcₚ := 10) (fun _ => x_iload_n rfl rfl) ?_
    refine Ew_of (pcₚ := 22) (fun _ => x_goto rfl rfl) ?_
    exact w_ireturn rfl (k (a2) _ _ _ H O (SF_refl) (SA_refl) (show inr (a2) from h0) (show 0 ≤ (a2) ∧ (a2) ≤ 2097152 from q_3858 h3))
abbrev V133_Ir : vV := [(1, 1, [])]
theorem len_V133_Ir_oz_J1cls : (V133_Ir).length = 1 := by decide +kernel
theorem oz_J1cls_2 : vsub V133_Ir V132_Ir [0] = true := by decide +kernel
def oz_J1clsl_0 : List (Nat × Nat) := []
theorem oz_J1cls_3 : (oz_J1clsl_0).all (fun p => !tbz 0 (Nat.add (Nat.mul 32 p.1) p.2)) = true := by decide +kernel
def oz_J1clsl_1 : List Nat := []
theorem oz_J1cls_4 : (oz_J1clsl_1).all (fun p => !tbz 0 p) = true := by decide +kernel
def oz_J1clsl_2 : List Nat := [0]
theorem oz_J1cls_5 : okc oz_J1clsl_2 0 = true := by decide +kernel
/-- Packer.rowLength: #1 -/
theorem C133_Ir {σE : rS} {D N : Nat → Nat} {F : hF} {A : hA} {d c s : Nat} {Q : wQ} (H : HW V133_Ir σE D N F A) {a2 : Int} (n0 : Int) (en0 : HID ((N 0 : Int) = n0)) (w0 : Int → Int) (ew0 : A 0 = w0) (h0 : inr (a2)) (h1 : (n0) = 10) (h2 : 0 ≤ ((w0)) 8 ∧ ((w0)) 8 ≤ 11) (h3 : 1 ≤ ((w0)) 2 ∧ ((w0)) 2 ≤ 65536) (h4 : 0 ≤ (a2) ∧ (a2) ≤ 16384) (k : ∀ (z : Int) (σ : rS) (Fₚ : hF) (Aₚ : hA), HW V133_Ir σ D N Fₚ Aₚ → OUT (V133_Ir).length D N σE c s D N σ c s → SF [] F Fₚ → SA [] A Aₚ → (inr (z)) → (1 ≤ (z) ∧ (z) ≤ 65536) → Q (some (I z)) σ c s) : Ew 133 (d + 1) 0 (rargs 0 [.ref (D 0), I a2]) [] σE c s Q := by
  have O := OUT_refl (n := (V133_Ir).length) (D := D) (N := N) (σ := σE) (c := c) (s := s)
  have HE := H
  have r1 : (0 : Int) ≤ n0 ∧ n0 ≤ 1000000 := nleE (H.nle 0 (ltn len_V133_Ir_oz_J1cls rfl)) (show (N 0 : Int) = n0 from en0)
  refine Ew_of (pcₚ := 2) (fun _ => x_ldc (z := 131072) rfl (by decide)) ?_
  refine Ew_of (pcₚ := 3) (fun _ => x_aload_n rfl rfl) ?_
  refine Ew_of (pcₚ := 4) (fun _ => x_iload_n rfl rfl) ?_
  refine w_stat24 rfl rfl (by rfl) (C132_Ir (D := puc 0 D) (N := puc 0 N) (HW_subc H oz_J1cls_2 oz_J1cls_5) (n0) (en0) (w0) (ew0) (show inr (a2) from h0) (show (n0) = 10 from h1) (show 0 ≤ ((w0)) 8 ∧ ((w0)) 8 ≤ 11 from h2) (show 0 ≤ (a2) ∧ (a2) ≤ 16384 from h4) (fun z2 σ2 F2ₚ A2ₚ Hₚ Oₚ hS2 hA2 pz2_0 pz2_1 => ⟨rfl, ?_⟩))
  refine v_backc (c := c) (s := s) H oz_J1cls_2 oz_J1cls_5 Hₚ Oₚ (fun F2 A2 H Oₚ eF2 eA2 => ?_)
  have O := OUT_trans O Oₚ
  -- Packer.windowFor
  have cF2 : SF oz_J1clsl_0 F F2 := SF_trans (SF_refl) (SF_gluc (ι := oz_J1clsl_2) oz_J1cls_5 hS2 eF2 (by decide +kernel)) (any_sub (lₚ := []) (by decide +kernel))
  have mF2 := SFm_of cF2 oz_J1cls_3
  have cA2 : SA oz_J1clsl_1 A A2 := SA_trans (SA_refl) (SA_gluc (ι := oz_J1clsl_2) oz_J1cls_5 hA2 eA2 (by decide +kernel)) (any_subA (lₚ := []) (by decide +kernel))
  have mA2 := SAm_of cA2 oz_J1cls_4
  refine v_min rfl rfl (show inr (131072) from q_1604) (show inr (z2) from pz2_0) (fun z3 gz3 => ?_)
  refine Ew_of (pcₚ := 11) (fun _ => x_istore_n rfl) ?_
  refine Ew_of (pcₚ := 12) (fun _ => x_iconst rfl) ?_
  refine Ew_of (pcₚ := 13) (fun _ => x_aload_n rfl (rk_o (rfl) rfl rfl)) ?_
  refine Ew_of (pcₚ := 14) (fun _ => x_iconst rfl) ?_
  refine v_lI H (o := 0) rfl rfl rfl rfl (n := n0) (en0) (show 0 ≤ 2 ∧ 2 < n0 from q_3071 h1 r1) (fun v4 ev4 qv4 => ?_)
  have ev4 : (w0) (2) = v4 := (congrFun ((funext (mA2 0 rfl)).trans (ew0)) (2)).symm.trans ev4
  refine Ew_of (pcₚ := 16) (fun _ => x_iload_n rfl rk_s) ?_
  refine v_min rfl rfl (show inr (v4) from qv4) (show inr (z3) from q_3859 gz3 pz2_1) (fun z5 gz5 => ?_)
  refine v_max rfl rfl (show inr (1) from q_23) (show inr (z5) from q_3860 gz3 gz5 pz2_1 qv4) (fun z6 gz6 => ?_)
  exact w_ireturn rfl (k (z6) _ _ _ H O (cF2) (cA2) (show inr (z6) from q_3862 gz5 gz6 qv4) (show 1 ≤ (z6) ∧ (z6) ≤ 65536 from q_3861 ev4 gz5 gz6 h3))
abbrev V135_Row : vV := [(0, 6, [(4, 0), (4, 0), (4, 0), (4, 0), (4, 0), (4, 0), (4, 0), (4, 0), (4, 0), (4, 0), (4, 0), (4, 0), (4, 0), (4, 0), (4, 0), (0, 0), (0, 0), (4, 0), (4, 0)]), (0, 7, [(4, 0), (0, 0), (1, 0), (0, 0), (0, 0)]), (1, 0, []), (1, 1, [])]
theorem len_V135_Row_oz_J1cls : (V135_Row).length = 4 := by decide +kernel
theorem oz_J1cls_7 : vsub V135_Row V160 [1, 2] = true := by decide +kernel
theorem oz_J1cls_8 : vmov V135_Row [1, 2] [1] = true := by decide +kernel
theorem oz_J1cls_9 : vsub V135_Row V159 [1, 2] = true := by decide +kernel
def oz_J1clsl_3 : List (Nat × Nat) := [(1, 0), (1, 1), (1, 2)]
theorem oz_J1cls_10 : (oz_J1clsl_3).all (fun p => !tbz 30064771072 (Nat.add (Nat.mul 32 p.1) p.2)) = true := by decide +kernel
def oz_J1clsl_4 : List Nat := [2]
theorem oz_J1cls_11 : (oz_J1clsl_4).all (fun p => !tbz 4 p) = true := by decide +kernel
def oz_J1clsl_5 : List Nat := [1, 2]
theorem oz_J1cls_12 : okc oz_J1clsl_5 1025 = true := by decide +kernel
set_option maxHeartbeats 16000000 in
/-- Packer.packHead: this, #1, #1.bytes, this.settings -/
theorem C135_Row {σE : rS} {D N : Nat → Nat} {F : hF} {A : hA} {d c s : Nat} {Q : wQ} (H : HW V135_Row σE D N F A) {a2 a3 : Int} (pf2 : HID (F 1 0 = (D 2 : Int))) (pf3 : HID (F 0 0 = (D 3 : Int))) (n2 : Int) (en2 : HID ((N 2 : Int) = n2)) (n3 : Int) (en3 : HID ((N 3 : Int) = n3)) (u1_1 : Int) (eu1_1 : HID (F 1 1 = u1_1)) (h0 : inr (a2)) (h1 : inr (a3)) (h2 : 0 ≤ (u1_1) ∧ (u1_1) ≤ (n2) ∧ (n2) ≤ 65536) (h3 : (n3) = 10) (h4 : -16384 ≤ (a2) ∧ (a2) ≤ 16384) (k : ∀ (σ : rS) (Dₚ Nₚ : Nat → Nat) (Fₚ : hF) (Aₚ : hA) (cₚ sₚ : Nat), HW V135_Row σ Dₚ Nₚ Fₚ Aₚ → OUT (V135_Row).length D N σE c s Dₚ Nₚ σ cₚ sₚ → SD [2] D Dₚ → SD [2] N Nₚ → SF [(1, 0), (1, 1), (1, 2)] F Fₚ → SA [2] A Aₚ → Fₚ 1 0 = (Dₚ 2 : Int) → ∀ m2 : Int, (Nₚ 2 : Int) = m2 → ∀ y1_1 : Int, Fₚ 1 1 = y1_1 → (0 ≤ (y1_1) ∧ (y1_1) ≤ (m2) ∧ (m2) ≤ 65536) → ((u1_1) ≤ (y1_1)) → Q none σ cₚ sₚ) : Ew 135 (d + 3) 0 (rargs 0 [.ref (D 0), .ref (D 1), I a2, I a3]) [] σE c s Q := by
  have O := OUT_refl (n := (V135_Row).length) (D := D) (N := N) (σ := σE) (c := c) (s := s)
  have HE := H
  have r1 : (-2147483648 : Int) ≤ u1_1 ∧ u1_1 ≤ 2147483647 := rngE (show (-2147483648 : Int) ≤ F 1 1 ∧ F 1 1 ≤ 2147483647 from H.krg 1 1 (ltn len_V135_Row_oz_J1cls rfl)) (show F 1 1 = u1_1 from (eu1_1))
  have r2 : (0 : Int) ≤ n2 ∧ n2 ≤ 1000000 := nleE (H.nle 2 (ltn len_V135_Row_oz_J1cls rfl)) (show (N 2 : Int) = n2 from en2)
  have r3 : (0 : Int) ≤ n3 ∧ n3 ≤ 1000000 := nleE (H.nle 3 (ltn len_V135_Row_oz_J1cls rfl)) (show (N 3 : Int) = n3 from en3)
  refine Ew_of (pcₚ := 1) (fun _ => x_aload_n rfl rfl) ?_
  refine v_g H (o := 0) (v := .ref (D 3)) rfl rfl rfl rfl rfl (vrf (pf3)) ?_
  refine Ew_of (pcₚ := 6) (fun _ => x_bipush (z := 7) rfl (by decide)) ?_
  refine v_lI H (o := 3) rfl rfl rfl rfl (n := n3) (en3) (show 0 ≤ 7 ∧ 7 < n3 from q_3855 h3 r3) (fun v4 ev4 qv4 => ?_)
  have ev4 : (A 3) (7) = v4 := (congrFun (rfl : A 3 = A 3) (7)).symm.trans ev4
  refine Ew_of (pcₚ := 9) (fun _ => x_istore rfl) ?_
  have hc21 : ∀ (tc21_0 : Int), ∀ (ls : rO) (σ : rS) (F_c21 : hF) (A_c21 : hA) , rlook ls 0 = some (.ref (D 0)) → rlook ls 1 = some (.ref (D 1)) → rlook ls 2 = some (I (a2)) → rlook ls 3 = some (I (a3)) → rlook ls 4 = some (I (v4)) → HW V135_Row σ D N F_c21 A_c21 → OUT (V135_Row).length D N σE c s D N σ c s → SF [] F F_c21 → SA [] A A_c21 → (inr (tc21_0)) → ((tc21_0) = 0 ∨ (tc21_0) = 1) → Ew 135 (d + 3) 21 ls [I (tc21_0)] σ c s Q := by
   as_aux_lemma =>
    intro tc21_0 ls σ F_c21 A_c21  lc21_0 lc21_1 lc21_2 lc21_3 lc21_4 H O hS_c21 hA_c21     jc21_0 jc21_1
    have cF_c21 : SF oz_J1clsl_3 F F_c21 := SF_trans (SF_refl) hS_c21 (any_sub (by decide +kernel))
    have mF_c21 := SFm_of cF_c21 oz_J1cls_10
    have cA_c21 : SA oz_J1clsl_4 A A_c21 := SA_trans (SA_refl) hA_c21 (any_subA (by decide +kernel))
    have mA_c21 := SAm_of cA_c21 oz_J1cls_11
    refine Ew_of (pcₚ := 23) (fun _ => x_istore rfl) ?_
    refine Ew_of (pcₚ := 24) (fun _ => x_iconst rfl) ?_
    refine Ew_of (pcₚ := 26) (fun _ => x_istore rfl) ?_
    have hc61 : ∀ (ls : rO) (σ : rS) (F_c61 : hF) (A_c61 : hA) (xc61_6 : Int), rlook ls 0 = some (.ref (D 0)) → rlook ls 1 = some (.ref (D 1)) → rlook ls 2 = some (I (a2)) → rlook ls 3 = some (I (a3)) → rlook ls 4 = some (I (v4)) → rlook ls 5 = some (I (tc21_0)) → rlook ls 6 = some (I (xc61_6)) → HW V135_Row σ D N F_c61 A_c61 → OUT (V135_Row).length D N σE c s D N σ c s → SF [] F_c21 F_c61 → SA [] A_c21 A_c61 → (inr (xc61_6)) → (0 ≤ (xc61_6) ∧ (xc61_6) ≤ 2) → Ew 135 (d + 3) 61 ls [] σ c s Q := by
     as_aux_lemma =>
      intro  ls σ F_c61 A_c61 xc61_6 lc61_0 lc61_1 lc61_2 lc61_3 lc61_4 lc61_5 lc61_6 H O hS_c61 hA_c61     jc61_0 jc61_1
      have cF_c61 : SF oz_J1clsl_3 F F_c61 := SF_trans (cF_c21) hS_c61 (any_sub (by decide +kernel))
      have mF_c61 := SFm_of cF_c61 oz_J1cls_10
      have cA_c61 : SA oz_J1clsl_4 A A_c61 := SA_trans (cA_c21) hA_c61 (any_subA (by decide +kernel))
      have mA_c61 := SAm_of cA_c61 oz_J1cls_11
      refine Ew_of (pcₚ := 62) (fun _ => x_iconst rfl) ?_
      refine Ew_of (pcₚ := 64) (fun _ => x_istore rfl) ?_
      have hc101 : ∀ (ls : rO) (σ : rS) (F_c101 : hF) (A_c101 : hA) (xc101_7 : Int), rlook ls 0 = some (.ref (D 0)) → rlook ls 1 = some (.ref (D 1)) → rlook ls 2 = some (I (a2)) → rlook ls 3 = some (I (a3)) → rlook ls 4 = some (I (v4)) → rlook ls 5 = some (I (tc21_0)) → rlook ls 6 = some (I (xc61_6)) → rlook ls 7 = some (I (xc101_7)) → HW V135_Row σ D N F_c101 A_c101 → OUT (V135_Row).length D N σE c s D N σ c s → SF [] F_c61 F_c101 → SA [] A_c61 A_c101 → (inr (xc101_7)) → (0 ≤ (xc101_7) ∧ (xc101_7) ≤ 3) → Ew 135 (d + 3) 101 ls [] σ c s Q := by
       as_aux_lemma =>
        intro  ls σ F_c101 A_c101 xc101_7 lc101_0 lc101_1 lc101_2 lc101_3 lc101_4 lc101_5 lc101_6 lc101_7 H O hS_c101 hA_c101     jc101_0 jc101_1
        have cF_c101 : SF oz_J1clsl_3 F F_c101 := SF_trans (cF_c61) hS_c101 (any_sub (by decide +kernel))
        have mF_c101 := SFm_of cF_c101 oz_J1cls_10
        have cA_c101 : SA oz_J1clsl_4 A A_c101 := SA_trans (cA_c61) hA_c101 (any_subA (by decide +kernel))
        have mA_c101 := SAm_of cA_c101 oz_J1cls_11
        refine Ew_of (pcₚ := 102) (fun _ => x_aload_n rfl lc101_1) ?_
        refine Ew_of (pcₚ := 105) (fun _ => x_ldc2 (z := -47205080) rfl (by decide)) ?_
        refine Ew_of (pcₚ := 106) (fun _ => x_iconst rfl) ?_
        refine v_inv H (o := 1) rfl rfl rfl rfl rfl rfl (by rfl) (C160 (D := puc 1025 D) (N := puc 1025 N) (HW_subc H oz_J1cls_7 oz_J1cls_12) (((((hS_c101 1 0 rfl).trans (hS_c61 1 0 rfl)).trans (hS_c21 1 0 rfl))).trans (pf2)) (n2) (en2) (u1_1) (((((hS_c101 1 1 rfl).trans (hS_c61 1 1 rfl)).trans (hS_c21 1 1 rfl)).trans (eu1_1))) (show inrJ ((-47205080)) from q_3863) (show inr (4) from q_2) (show 0 ≤ (u1_1) ∧ (u1_1) ≤ (n2) ∧ (n2) ≤ 65536 from h2) (fun σ5 D5ₚ N5ₚ F5ₚ A5ₚ c5 s5 Hₚ Oₚ hD5 hN5 hS5 hA5 (pm5_1 : HID _) m5_1 (em5_1 : HID _) y5_0_1 (ey5_0_1 : HID _) pz5_0 pz5_1 => ⟨rfl, ?_⟩))
        refine v_backMc (c := c) (s := s) H oz_J1cls_7 oz_J1cls_12 Hₚ Oₚ hD5 oz_J1cls_8 (fun D5 N5 F5 A5 H Oₚ eD5 eN5 eF5 eA5 => ?_)
        have O := OUT_trans O Oₚ
        -- Row.addNumber
        have cF5 : SF oz_J1clsl_3 F F5 := SF_trans (cF_c101) (SF_gluc (ι := oz_J1clsl_5) oz_J1cls_12 hS5 eF5 (by decide +kernel)) (any_sub (lₚ := [(1, 0), (1, 1), (1, 2)]) (by decide +kernel))
        have mF5 := SFm_of cF5 oz_J1cls_10
        have cA5 : SA oz_J1clsl_4 A A5 := SA_trans (cA_c101) (SA_gluc (ι := oz_J1clsl_5) oz_J1cls_12 hA5 eA5 (by decide +kernel)) (any_subA (lₚ := [2]) (by decide +kernel))
        have mA5 := SAm_of cA5 oz_J1cls_11
        have cD5 : SD oz_J1clsl_4 D D5 := SD_trans (SD_refl) (SD_gluc (ι := oz_J1clsl_5) oz_J1cls_12 hD5 eD5 (by decide +kernel)) (any_subA (lₚ := [2]) (by decide +kernel))
        have mD5 := SDm_of cD5 oz_J1cls_11
        have cN5 : SD oz_J1clsl_4 N N5 := SD_trans (SD_refl) (SD_gluc (ι := oz_J1clsl_5) oz_J1cls_12 hN5 eN5 (by decide +kernel)) (any_subA (lₚ := [2]) (by decide +kernel))
        have mN5 := SDm_of cN5 oz_J1cls_11
        have pf5_1_0 : HID (F5 1 0 = (D5 2 : Int)) := (eF5 1 0).trans (pm5_1.trans (congrArg (fun q : Nat => (q : Int)) (eD5 2).symm))
        have r6 : (0 : Int) ≤ m5_1 ∧ m5_1 ≤ 1000000 := nleE (H.nle 2 (ltn len_V135_Row_oz_J1cls rfl)) (show (N5 2 : Int) = m5_1 from (congrArg (fun q : Nat => (q : Int)) (eN5 2)).trans em5_1)
        have r7 : (-2147483648 : Int) ≤ y5_0_1 ∧ y5_0_1 ≤ 2147483647 := rngE (show (-2147483648 : Int) ≤ F5 1 1 ∧ F5 1 1 ≤ 2147483647 from H.krg 1 1 (ltn len_V135_Row_oz_J1cls rfl)) (show F5 1 1 = y5_0_1 from ((eF5 1 1).trans ey5_0_1))
        have hc1 : (u1_1) ≤ (y5_0_1) := by omega
        try clear pz5_1
        refine Ew_of (pcₚ := 110) (fun _ => x_aload_n rfl lc101_1) ?_
        refine Ew_of (pcₚ := 112) (fun _ => x_iload rfl lc101_6) ?_
        refine Ew_of (pcₚ := 114) (fun _ => x_bipush (z := 6) rfl (by decide)) ?_
        refine w_ishlA rfl (fun z8 gz8 => ?_)
        refine Ew_of (pcₚ := 117) (fun _ => x_iload rfl lc101_5) ?_
        have hc126 : ∀ (tc126_0 : Int), ∀ (ls : rO) (σ : rS) (F_c126 : hF) (A_c126 : hA) , rlook ls 0 = some (.ref (D5 0)) → rlook ls 1 = some (.ref (D5 1)) → rlook ls 2 = some (I (a2)) → rlook ls 3 = some (I (a3)) → rlook ls 4 = some (I (v4)) → rlook ls 5 = some (I (tc21_0)) → rlook ls 6 = some (I (xc61_6)) → rlook ls 7 = some (I (xc101_7)) → HW V135_Row σ D5 N5 F_c126 A_c126 → OUT (V135_Row).length D N σE c s D5 N5 σ (c + c5) (s + s5) → SF [] F5 F_c126 → SA [] A5 A_c126 → (inr (tc126_0)) → (((tc21_0) = (0) ∧ (tc126_0) = (0)) ∨ ((tc21_0) ≠ (0) ∧ (tc126_0) = (32))) → Ew 135 (d + 3) 126 ls [I (tc126_0), I (z8), .ref (D5 1)] σ (c + c5) (s + s5) Q := by
         as_aux_lemma =>
          intro tc126_0 ls σ F_c126 A_c126  lc126_0 lc126_1 lc126_2 lc126_3 lc126_4 lc126_5 lc126_6 lc126_7 H O hS_c126 hA_c126     jc126_0 jc126_1
          have cF_c126 : SF oz_J1clsl_3 F F_c126 := SF_trans (cF5) hS_c126 (any_sub (by decide +kernel))
          have mF_c126 := SFm_of cF_c126 oz_J1cls_10
          have cA_c126 : SA oz_J1clsl_4 A A_c126 := SA_trans (cA5) hA_c126 (any_subA (by decide +kernel))
          have mA_c126 := SAm_of cA_c126 oz_J1cls_11
          try clear pz5_1
          refine w_ior rfl (fun z9 gz9 => ?_)
          have hc139 : ∀ (tc139_0 : Int), ∀ (ls : rO) (σ : rS) (F_c139 : hF) (A_c139 : hA) , rlook ls 0 = some (.ref (D5 0)) → rlook ls 1 = some (.ref (D5 1)) → rlook ls 2 = some (I (a2)) → rlook ls 3 = some (I (a3)) → rlook ls 5 = some (I (tc21_0)) → rlook ls 6 = some (I (xc61_6)) → rlook ls 7 = some (I (xc101_7)) → HW V135_Row σ D5 N5 F_c139 A_c139 → OUT (V135_Row).length D N σE c s D5 N5 σ (c + c5) (s + s5) → SF [] F_c126 F_c139 → SA [] A_c126 A_c139 → (inr (tc139_0)) → Ew 135 (d + 3) 139 ls [I (tc139_0), I (z9), .ref (D5 1)] σ (c + c5) (s + s5) Q := by
           as_aux_lemma =>
            intro tc139_0 ls σ F_c139 A_c139  lc139_0 lc139_1 lc139_2 lc139_3 lc139_5 lc139_6 lc139_7 H O hS_c139 hA_c139     jc139_0
            have cF_c139 : SF oz_J1clsl_3 F F_c139 := SF_trans (cF_c126) hS_c139 (any_sub (by decide +kernel))
            have mF_c139 := SFm_of cF_c139 oz_J1cls_10
            have cA_c139 : SA oz_J1clsl_4 A A_c139 := SA_trans (cA_c126) hA_c139 (any_subA (by decide +kernel))
            have mA_c139 := SAm_of cA_c139 oz_J1cls_11
            refine w_ior rfl (fun z10 gz10 => ?_)
            refine Ew_of (pcₚ := 142) (fun _ => x_iload rfl lc139_7) ?_
            refine w_ior rfl (fun z11 gz11 => ?_)
            refine v_inv H (o := 1) rfl rfl rfl rfl rfl rfl (by rfl) (C159 (D := puc 1025 D5) (N := puc 1025 N5) (HW_subc H oz_J1cls_9 oz_J1cls_12) ((((hS_c139 1 0 rfl).trans (hS_c126 1 0 rfl))).trans (pf5_1_0)) (m5_1) ((congrArg (fun q : Nat => (q : Int)) (eN5 2)).trans em5_1) (y5_0_1) ((((hS_c139 1 1 rfl).trans (hS_c126 1 1 rfl)).trans ((eF5 1 1).trans ey5_0_1))) (show inr (z11) from gz11) (show 0 ≤ (y5_0_1) ∧ (y5_0_1) ≤ (m5_1) ∧ (m5_1) ≤ 65536 from pz5_0) (fun σ12 D12ₚ N12ₚ F12ₚ A12ₚ c12 s12 Hₚ Oₚ hD12 hN12 hS12 hA12 (pm12_1 : HID _) m12_1 (em12_1 : HID _) y12_0_1 (ey12_0_1 : HID _) pz12_0 pz12_1 pz12_2 => ⟨rfl, ?_⟩))
            refine v_backMc (c := (c + c5)) (s := (s + s5)) H oz_J1cls_9 oz_J1cls_12 Hₚ Oₚ hD12 oz_J1cls_8 (fun D12 N12 F12 A12 H Oₚ eD12 eN12 eF12 eA12 => ?_)
            have O := OUT_trans O Oₚ
            -- Row.add
            have cF12 : SF oz_J1clsl_3 F F12 := SF_trans (cF_c139) (SF_gluc (ι := oz_J1clsl_5) oz_J1cls_12 hS12 eF12 (by decide +kernel)) (any_sub (lₚ := [(1, 0), (1, 1), (1, 2)]) (by decide +kernel))
            have mF12 := SFm_of cF12 oz_J1cls_10
            have cA12 : SA oz_J1clsl_4 A A12 := SA_trans (cA_c139) (SA_gluc (ι := oz_J1clsl_5) oz_J1cls_12 hA12 eA12 (by decide +kernel)) (any_subA (lₚ := [2]) (by decide +kernel))
            have mA12 := SAm_of cA12 oz_J1cls_11
            have cD12 : SD oz_J1clsl_4 D D12 := SD_trans (cD5) (SD_gluc (ι := oz_J1clsl_5) oz_J1cls_12 hD12 eD12 (by decide +kernel)) (any_subA (lₚ := [2]) (by decide +kernel))
            have mD12 := SDm_of cD12 oz_J1cls_11
            have cN12 : SD oz_J1clsl_4 N N12 := SD_trans (cN5) (SD_gluc (ι := oz_J1clsl_5) oz_J1cls_12 hN12 eN12 (by decide +kernel)) (any_subA (lₚ := [2]) (by decide +kernel))
            have mN12 := SDm_of cN12 oz_J1cls_11
            have pf12_1_0 : HID (F12 1 0 = (D12 2 : Int)) := (eF12 1 0).trans (pm12_1.trans (congrArg (fun q : Nat => (q : Int)) (eD12 2).symm))
            have r13 : (0 : Int) ≤ m12_1 ∧ m12_1 ≤ 1000000 := nleE (H.nle 2 (ltn len_V135_Row_oz_J1cls rfl)) (show (N12 2 : Int) = m12_1 from (congrArg (fun q : Nat => (q : Int)) (eN12 2)).trans em12_1)
            have r14 : (-2147483648 : Int) ≤ y12_0_1 ∧ y12_0_1 ≤ 2147483647 := rngE (show (-2147483648 : Int) ≤ F12 1 1 ∧ F12 1 1 ≤ 2147483647 from H.krg 1 1 (ltn len_V135_Row_oz_J1cls rfl)) (show F12 1 1 = y12_0_1 from ((eF12 1 1).trans ey12_0_1))
            have hc164 : ∀ (ls : rO) (σ : rS) (D_c164 N_c164 : Nat → Nat) (c_c164 s_c164 : Nat) (F_c164 : hF) (A_c164 : hA) , rlook ls 1 = some (.ref (D_c164 1)) → rlook ls 2 = some (I (a2)) → rlook ls 3 = some (I (a3)) → rlook ls 5 = some (I (tc21_0)) → rlook ls 6 = some (I (xc61_6)) → rlook ls 7 = some (I (xc101_7)) → HW V135_Row σ D_c164 N_c164 F_c164 A_c164 → OUT (V135_Row).length D N σE c s D_c164 N_c164 σ c_c164 s_c164 → SD [2] D12 D_c164 → SD [2] N12 N_c164 → SF [(1, 0), (1, 1), (1, 2)] F12 F_c164 → SA [2] A12 A_c164 → F_c164 1 0 = (D_c164 2 : Int) → ∀ mc164_2 : Int, (N_c164 2 : Int) = mc164_2 → ∀ yc164_1_1 : Int, F_c164 1 1 = yc164_1_1 → (0 ≤ (yc164_1_1) ∧ (yc164_1_1) ≤ (mc164_2) ∧ (mc164_2) ≤ 65536) → ((u1_1) ≤ (yc164_1_1)) → Ew 135 (d + 3) 164 ls [] σ c_c164 s_c164 Q := by
             as_aux_lemma =>
              intro  ls σ D_c164 N_c164 c_c164 s_c164 F_c164 A_c164  lc164_1 lc164_2 lc164_3 lc164_5 lc164_6 lc164_7 H O hD_c164 hN_c164 hS_c164 hA_c164 pmc164_2 mc164_2 emc164_2 yc164_1_1 eyc164_1_1  jc164_0 jc164_1
              have cF_c164 : SF oz_J1clsl_3 F F_c164 := SF_trans (cF12) hS_c164 (any_sub (by decide +kernel))
              have mF_c164 := SFm_of cF_c164 oz_J1cls_10
              have cA_c164 : SA oz_J1clsl_4 A A_c164 := SA_trans (cA12) hA_c164 (any_subA (by decide +kernel))
              have mA_c164 := SAm_of cA_c164 oz_J1cls_11
              have cD_c164 : SD oz_J1clsl_4 D D_c164 := SD_trans (cD12) hD_c164 (any_subA (by decide +kernel))
              have mD_c164 := SDm_of cD_c164 oz_J1cls_11
              have cN_c164 : SD oz_J1clsl_4 N N_c164 := SD_trans (cN12) hN_c164 (any_subA (by decide +kernel))
              have mN_c164 := SDm_of cN_c164 oz_J1cls_11
              replace pmc164_2 := HIDm pmc164_2
              replace emc164_2 := HIDm emc164_2
              replace eyc164_1_1 := HIDm eyc164_1_1
              try clear pz12_1
              have r15 : (0 : Int) ≤ mc164_2 ∧ mc164_2 ≤ 1000000 := nleE (H.nle 2 (ltn len_V135_Row_oz_J1cls rfl)) (show (N_c164 2 : Int) = mc164_2 from emc164_2)
              have r16 : (-2147483648 : Int) ≤ yc164_1_1 ∧ yc164_1_1 ≤ 2147483647 := rngE (show (-2147483648 : Int) ≤ F_c164 1 1 ∧ F_c164 1 1 ≤ 2147483647 from H.krg 1 1 (ltn len_V135_Row_oz_J1cls rfl)) (show F_c164 1 1 = yc164_1_1 from (eyc164_1_1))
              try clear pz12_1
              refine Ew_of (pcₚ := 165) (fun _ => x_aload_n rfl lc164_1) ?_
              refine Ew_of (pcₚ := 166) (fun _ => x_iload_n rfl lc164_3) ?_
              refine w_i2l rfl (show inr (a3) from h1) ?_
              refine Ew_of (pcₚ := 169) (fun _ => x_iload rfl lc164_7) ?_
              refine Ew_of (pcₚ := 170) (fun _ => x_iconst rfl) ?_
              have hc179 : ∀ (tc179_0 : Int), ∀ (ls : rO) (σ : rS) (F_c179 : hF) (A_c179 : hA) , rlook ls 1 = some (.ref (D_c164 1)) → rlook ls 2 = some (I (a2)) → rlook ls 5 = some (I (tc21_0)) → rlook ls 6 = some (I (xc61_6)) → HW V135_Row σ D_c164 N_c164 F_c179 A_c179 → OUT (V135_Row).length D N σE c s D_c164 N_c164 σ c_c164 s_c164 → SF [] F_c164 F_c179 → SA [] A_c164 A_c179 → (inr (tc179_0)) → (((xc101_7) ≠ (3) ∧ (tc179_0) = (xc101_7)) ∨ ((xc101_7) = (3) ∧ (tc179_0) = (4))) → Ew 135 (d + 3) 179 ls [I (tc179_0), J (a3), .ref (D_c164 1)] σ c_c164 s_c164 Q := by
               as_aux_lemma =>
                intro tc179_0 ls σ F_c179 A_c179  lc179_1 lc179_2 lc179_5 lc179_6 H O hS_c179 hA_c179     jc179_0 jc179_1
                have cF_c179 : SF oz_J1clsl_3 F F_c179 := SF_trans (cF_c164) hS_c179 (any_sub (by decide +kernel))
                have mF_c179 := SFm_of cF_c179 oz_J1cls_10
                have cA_c179 : SA oz_J1clsl_4 A A_c179 := SA_trans (cA_c164) hA_c179 (any_subA (by decide +kernel))
                have mA_c179 := SAm_of cA_c179 oz_J1cls_11
                refine v_inv H (o := 1) rfl rfl rfl rfl rfl rfl (by rfl) (C160 (D := puc 1025 D_c164) (N := puc 1025 N_c164) (HW_subc H oz_J1cls_7 oz_J1cls_12) (((hS_c179 1 0 rfl)).trans (pmc164_2)) (mc164_2) (emc164_2) (yc164_1_1) (((hS_c179 1 1 rfl).trans (eyc164_1_1))) (show inrJ (a3) from q_428 h1) (show inr (tc179_0) from jc179_0) (show 0 ≤ (yc164_1_1) ∧ (yc164_1_1) ≤ (mc164_2) ∧ (mc164_2) ≤ 65536 from jc164_0) (fun σ17 D17ₚ N17ₚ F17ₚ A17ₚ c17 s17 Hₚ Oₚ hD17 hN17 hS17 hA17 (pm17_1 : HID _) m17_1 (em17_1 : HID _) y17_0_1 (ey17_0_1 : HID _) pz17_0 pz17_1 => ⟨rfl, ?_⟩))
                refine v_backMc (c := c_c164) (s := s_c164) H oz_J1cls_7 oz_J1cls_12 Hₚ Oₚ hD17 oz_J1cls_8 (fun D17 N17 F17 A17 H Oₚ eD17 eN17 eF17 eA17 => ?_)
                have O := OUT_trans O Oₚ
                -- Row.addNumber
                have cF17 : SF oz_J1clsl_3 F F17 := SF_trans (cF_c179) (SF_gluc (ι := oz_J1clsl_5) oz_J1cls_12 hS17 eF17 (by decide +kernel)) (any_sub (lₚ := [(1, 0), (1, 1), (1, 2)]) (by decide +kernel))
                have mF17 := SFm_of cF17 oz_J1cls_10
                have cA17 : SA oz_J1clsl_4 A A17 := SA_trans (cA_c179) (SA_gluc (ι := oz_J1clsl_5) oz_J1cls_12 hA17 eA17 (by decide +kernel)) (any_subA (lₚ := [2]) (by decide +kernel))
                have mA17 := SAm_of cA17 oz_J1cls_11
                have cD17 : SD oz_J1clsl_4 D D17 := SD_trans (cD_c164) (SD_gluc (ι := oz_J1clsl_5) oz_J1cls_12 hD17 eD17 (by decide +kernel)) (any_subA (lₚ := [2]) (by decide +kernel))
                have mD17 := SDm_of cD17 oz_J1cls_11
                have cN17 : SD oz_J1clsl_4 N N17 := SD_trans (cN_c164) (SD_gluc (ι := oz_J1clsl_5) oz_J1cls_12 hN17 eN17 (by decide +kernel)) (any_subA (lₚ := [2]) (by decide +kernel))
                have mN17 := SDm_of cN17 oz_J1cls_11
                have pf17_1_0 : HID (F17 1 0 = (D17 2 : Int)) := (eF17 1 0).trans (pm17_1.trans (congrArg (fun q : Nat => (q : Int)) (eD17 2).symm))
                have r18 : (0 : Int) ≤ m17_1 ∧ m17_1 ≤ 1000000 := nleE (H.nle 2 (ltn len_V135_Row_oz_J1cls rfl)) (show (N17 2 : Int) = m17_1 from (congrArg (fun q : Nat => (q : Int)) (eN17 2)).trans em17_1)
                have r19 : (-2147483648 : Int) ≤ y17_0_1 ∧ y17_0_1 ≤ 2147483647 := rngE (show (-2147483648 : Int) ≤ F17 1 1 ∧ F17 1 1 ≤ 2147483647 from H.krg 1 1 (ltn len_V135_Row_oz_J1cls rfl)) (show F17 1 1 = y17_0_1 from ((eF17 1 1).trans ey17_0_1))
                have hc3 : (u1_1) ≤ (y17_0_1) := q_3864 jc164_1 pz17_1
                try clear pz17_1
                refine Ew_of (pcₚ := 183) (fun _ => x_aload_n rfl lc179_1) ?_
                refine Ew_of (pcₚ := 185) (fun _ => x_iload rfl lc179_6) ?_
                refine Ew_of (pcₚ := 186) (fun _ => x_iconst rfl) ?_
                have hc200 : ∀ (tc200_0 : Int), ∀ (ls : rO) (σ : rS) (F_c200 : hF) (A_c200 : hA) , rlook ls 5 = some (I (tc21_0)) → rlook ls 6 = some (I (xc61_6)) → HW V135_Row σ D17 N17 F_c200 A_c200 → OUT (V135_Row).length D N σE c s D17 N17 σ (c_c164 + c17) (s_c164 + s17) → SF [] F17 F_c200 → SA [] A17 A_c200 → (inrJ (tc200_0)) → (((xc61_6) ≠ (1) ∧ (tc200_0) = (a2)) ∨ ((xc61_6) = (1) ∧ (tc200_0) = ((a2 - 256)))) → Ew 135 (d + 3) 200 ls [J (tc200_0), .ref (D17 1)] σ (c_c164 + c17) (s_c164 + s17) Q := by
                 as_aux_lemma =>
                  intro tc200_0 ls σ F_c200 A_c200  lc200_5 lc200_6 H O hS_c200 hA_c200     jc200_0 jc200_1
                  have cF_c200 : SF oz_J1clsl_3 F F_c200 := SF_trans (cF17) hS_c200 (any_sub (by decide +kernel))
                  have mF_c200 := SFm_of cF_c200 oz_J1cls_10
                  have cA_c200 : SA oz_J1clsl_4 A A_c200 := SA_trans (cA17) hA_c200 (any_subA (by decide +kernel))
                  have mA_c200 := SAm_of cA_c200 oz_J1cls_11
                  try clear pz17_1
                  have hc222 : ∀ (tc222_0 : Int), ∀ (ls : rO) (σ : rS) (F_c222 : hF) (A_c222 : hA) , HW V135_Row σ D17 N17 F_c222 A_c222 → OUT (V135_Row).length D N σE c s D17 N17 σ (c_c164 + c17) (s_c164 + s17) → SF [] F_c200 F_c222 → SA [] A_c200 A_c222 → (inr (tc222_0)) → Ew 135 (d + 3) 222 ls [I (tc222_0), J (tc200_0), .ref (D17 1)] σ (c_c164 + c17) (s_c164 + s17) Q := by
                   as_aux_lemma =>
                    intro tc222_0 ls σ F_c222 A_c222   H O hS_c222 hA_c222     jc222_0
                    have cF_c222 : SF oz_J1clsl_3 F F_c222 := SF_trans (cF_c200) hS_c222 (any_sub (by decide +kernel))
                    have mF_c222 := SFm_of cF_c222 oz_J1cls_10
                    have cA_c222 : SA oz_J1clsl_4 A A_c222 := SA_trans (cA_c200) hA_c222 (any_subA (by decide +kernel))
                    have mA_c222 := SAm_of cA_c222 oz_J1cls_11
                    refine v_inv H (o := 1) rfl rfl rfl rfl rfl rfl (by rfl) (C160 (D := puc 1025 D17) (N := puc 1025 N17) (HW_subc H oz_J1cls_7 oz_J1cls_12) ((((hS_c222 1 0 rfl).trans (hS_c200 1 0 rfl))).trans (pf17_1_0)) (m17_1) ((congrArg (fun q : Nat => (q : Int)) (eN17 2)).trans em17_1) (y17_0_1) ((((hS_c222 1 1 rfl).trans (hS_c200 1 1 rfl)).trans ((eF17 1 1).trans ey17_0_1))) (show inrJ (tc200_0) from jc200_0) (show inr (tc222_0) from jc222_0) (show 0 ≤ (y17_0_1) ∧ (y17_0_1) ≤ (m17_1) ∧ (m17_1) ≤ 65536 from pz17_0) (fun σ20 D20ₚ N20ₚ F20ₚ A20ₚ c20 s20 Hₚ Oₚ hD20 hN20 hS20 hA20 (pm20_1 : HID _) m20_1 (em20_1 : HID _) y20_0_1 (ey20_0_1 : HID _) pz20_0 pz20_1 => ⟨rfl, ?_⟩))
                    refine v_backMc (c := (c_c164 + c17)) (s := (s_c164 + s17)) H oz_J1cls_7 oz_J1cls_12 Hₚ Oₚ hD20 oz_J1cls_8 (fun D20 N20 F20 A20 H Oₚ eD20 eN20 eF20 eA20 => ?_)
                    have O := OUT_trans O Oₚ
                    -- Row.addNumber
                    have cF20 : SF oz_J1clsl_3 F F20 := SF_trans (cF_c222) (SF_gluc (ι := oz_J1clsl_5) oz_J1cls_12 hS20 eF20 (by decide +kernel)) (any_sub (lₚ := [(1, 0), (1, 1), (1, 2)]) (by decide +kernel))
                    have mF20 := SFm_of cF20 oz_J1cls_10
                    have cA20 : SA oz_J1clsl_4 A A20 := SA_trans (cA_c222) (SA_gluc (ι := oz_J1clsl_5) oz_J1cls_12 hA20 eA20 (by decide +kernel)) (any_subA (lₚ := [2]) (by decide +kernel))
                    have mA20 := SAm_of cA20 oz_J1cls_11
                    have cD20 : SD oz_J1clsl_4 D D20 := SD_trans (cD17) (SD_gluc (ι := oz_J1clsl_5) oz_J1cls_12 hD20 eD20 (by decide +kernel)) (any_subA (lₚ := [2]) (by decide +kernel))
                    have mD20 := SDm_of cD20 oz_J1cls_11
                    have cN20 : SD oz_J1clsl_4 N N20 := SD_trans (cN17) (SD_gluc (ι := oz_J1clsl_5) oz_J1cls_12 hN20 eN20 (by decide +kernel)) (any_subA (lₚ := [2]) (by decide +kernel))
                    have mN20 := SDm_of cN20 oz_J1cls_11
                    have pf20_1_0 : HID (F20 1 0 = (D20 2 : Int)) := (eF20 1 0).trans (pm20_1.trans (congrArg (fun q : Nat => (q : Int)) (eD20 2).symm))
                    have r21 : (0 : Int) ≤ m20_1 ∧ m20_1 ≤ 1000000 := nleE (H.nle 2 (ltn len_V135_Row_oz_J1cls rfl)) (show (N20 2 : Int) = m20_1 from (congrArg (fun q : Nat => (q : Int)) (eN20 2)).trans em20_1)
                    have r22 : (-2147483648 : Int) ≤ y20_0_1 ∧ y20_0_1 ≤ 2147483647 := rngE (show (-2147483648 : Int) ≤ F20 1 1 ∧ F20 1 1 ≤ 2147483647 from H.krg 1 1 (ltn len_V135_Row_oz_J1cls rfl)) (show F20 1 1 = y20_0_1 from ((eF20 1 1).trans ey20_0_1))
                    have hc4 : (u1_1) ≤ (y20_0_1) := q_3864 hc3 pz20_1
                    try clear pz20_1
                    exact w_ret rfl (k _ _ _ _ _ _ _ H O (cD20) (cN20) (cF20) (cA20) (pf20_1_0) (m20_1) ((congrArg (fun q : Nat => (q : Int)) (eN20 2)).trans em20_1) (y20_0_1) (((eF20 1 1).trans ey20_0_1)) (show 0 ≤ (y20_0_1) ∧ (y20_0_1) ≤ (m20_1) ∧ (m20_1) ≤ 65536 from pz20_0) (show (u1_1) ≤ (y20_0_1) from hc4))
                  refine Ew_of (pcₚ := 202) (fun _ => x_iload rfl lc200_6) ?_
                  refine w_ifle (t := 212) rfl rfl (show inr (xc61_6) from jc61_0) (fun b23 => ?_) (fun b23 => ?_)
                  · refine Ew_of (pcₚ := 214) (fun _ => x_iload rfl lc200_5) ?_
                    refine w_ifeq (t := 221) rfl rfl (show inr (tc21_0) from jc21_0) (fun b24 => ?_) (fun b24 => ?_)
                    · refine Ew_of (pcₚ := 222) (fun _ => x_iconst rfl) ?_
                      exact hc222 (0) _ _ _ _   H O (SF_refl) (SA_refl)     (show inr (0) from q_20)
                    · refine Ew_of (pcₚ := 218) (fun _ => x_iconst rfl) ?_
                      refine Ew_of (pcₚ := 222) (fun _ => x_goto rfl rfl) ?_
                      exact hc222 (1) _ _ _ _   H O (SF_refl) (SA_refl)     (show inr (1) from q_23)
                  · refine Ew_of (pcₚ := 206) (fun _ => x_iconst rfl) ?_
                    refine Ew_of (pcₚ := 208) (fun _ => x_iload rfl lc200_6) ?_
                    refine w_ishlA rfl (fun z25 gz25 => ?_)
                    refine Ew_of (pcₚ := 222) (fun _ => x_goto rfl rfl) ?_
                    exact hc222 (z25) _ _ _ _   H O (SF_refl) (SA_refl)     (show inr (z25) from gz25)
                refine w_icmpne (t := 198) rfl rfl (show inr (xc61_6) from jc61_0) (show inr (1) from q_23) (fun b26 => ?_) (fun b26 => ?_)
                · refine Ew_of (pcₚ := 199) (fun _ => x_iload_n rfl lc179_2) ?_
                  refine w_i2l rfl (show inr (a2) from h0) ?_
                  refine Ew_stk (congrArg (fun qz : Nat => ([J (a2), .ref qz] : List Value)) (show D17 1 = D_c164 1 from ((show D17 1 = D_c164 1 from (eD17 1).trans (hD17 0 rfl)))).symm) ?_
                  exact hc200 (a2) _ _ _ _  (lc179_5) (lc179_6) H O (SF_refl) (SA_refl)     (show inrJ (a2) from q_3865 h4) (show ((xc61_6) ≠ (1) ∧ (a2) = (a2)) ∨ ((xc61_6) = (1) ∧ (a2) = ((a2 - 256))) from q_2460 b26)
                · refine Ew_of (pcₚ := 190) (fun _ => x_iload_n rfl lc179_2) ?_
                  refine Ew_of (pcₚ := 193) (fun _ => x_sipush (z := 256) rfl (by decide)) ?_
                  refine w_isub rfl ?_
                  refine w_i2l rfl (show inr ((a2 - 256)) from q_3866 h4) ?_
                  refine Ew_of (pcₚ := 200) (fun _ => x_goto rfl rfl) ?_
                  refine Ew_stk (congrArg (fun qz : Nat => ([J ((a2 - 256)), .ref qz] : List Value)) (show D17 1 = D_c164 1 from ((show D17 1 = D_c164 1 from (eD17 1).trans (hD17 0 rfl)))).symm) ?_
                  exact hc200 ((a2 - 256)) _ _ _ _  (lc179_5) (lc179_6) H O (SF_refl) (SA_refl)     (show inrJ ((a2 - 256)) from q_3867 h4) (show ((xc61_6) ≠ (1) ∧ ((a2 - 256)) = (a2)) ∨ ((xc61_6) = (1) ∧ ((a2 - 256)) = ((a2 - 256))) from q_2462 b26)
              refine w_icmpne (t := 177) rfl rfl (show inr (xc101_7) from jc101_0) (show inr (3) from q_66) (fun b27 => ?_) (fun b27 => ?_)
              · refine Ew_of (pcₚ := 179) (fun _ => x_iload rfl lc164_7) ?_
                exact hc179 (xc101_7) _ _ _ _  (lc164_1) (lc164_2) (lc164_5) (lc164_6) H O (SF_refl) (SA_refl)     (show inr (xc101_7) from jc101_0) (show ((xc101_7) ≠ (3) ∧ (xc101_7) = (xc101_7)) ∨ ((xc101_7) = (3) ∧ (xc101_7) = (4)) from q_814 b27)
              · refine Ew_of (pcₚ := 174) (fun _ => x_iconst rfl) ?_
                refine Ew_of (pcₚ := 179) (fun _ => x_goto rfl rfl) ?_
                exact hc179 (4) _ _ _ _  (lc164_1) (lc164_2) (lc164_5) (lc164_6) H O (SF_refl) (SA_refl)     (show inr (4) from q_2) (show ((xc101_7) ≠ (3) ∧ (4) = (xc101_7)) ∨ ((xc101_7) = (3) ∧ (4) = (4)) from q_815 b27)
            have hc2 : (u1_1) ≤ (y12_0_1) := by omega
            try clear pz12_1
            refine Ew_of (pcₚ := 148) (fun _ => x_iload rfl lc139_5) ?_
            refine w_ifne (t := 164) rfl rfl (show inr (tc21_0) from jc21_0) (fun b28 => ?_) (fun b28 => ?_)
            · exact hc164  _ _ _ _ _ _ _ _  ((lc139_1).trans (congrArg (fun q : Nat => some (Value.ref q)) (((show D12 1 = D5 1 from (eD12 1).trans (hD12 0 rfl)))).symm)) (lc139_2) (lc139_3) (lc139_5) (lc139_6) (lc139_7) H O (SD_refl) (SD_refl) (SF_refl) (SA_refl) (pf12_1_0) (m12_1) ((congrArg (fun q : Nat => (q : Int)) (eN12 2)).trans em12_1) (y12_0_1) (((eF12 1 1).trans ey12_0_1))  (show 0 ≤ (y12_0_1) ∧ (y12_0_1) ≤ (m12_1) ∧ (m12_1) ≤ 65536 from pz12_0) (show (u1_1) ≤ (y12_0_1) from hc2)
            · refine Ew_of (pcₚ := 152) (fun _ => x_aload_n rfl lc139_1) ?_
              refine Ew_of (pcₚ := 153) (fun _ => x_aload_n rfl lc139_0) ?_
              refine Ew_stk (show ([.ref (D5 0), .ref (D5 1)] : List Value) = [.ref (D12 0), .ref (D12 1)] by rw [show D12 0 = D5 0 from ((show D12 0 = D5 0 from (eD12 0))), show D12 1 = D5 1 from ((show D12 1 = D5 1 from (eD12 1).trans (hD12 0 rfl)))]) ?_
              refine v_g H (o := 0) (v := .ref (D12 3)) rfl rfl rfl rfl rfl (vrf ((mF12 0 0 rfl).trans ((pf3).trans (congrArg (fun q : Nat => (q : Int)) (mD12 3 rfl).symm)))) ?_
              refine Ew_of (pcₚ := 158) (fun _ => x_bipush (z := 8) rfl (by decide)) ?_
              refine v_lI H (o := 3) rfl rfl rfl rfl (n := n3) ((congrArg (fun q : Nat => (q : Int)) (mN12 3 rfl)).trans (en3)) (show 0 ≤ 8 ∧ 8 < n3 from q_3856 h3 r3) (fun v29 ev29 qv29 => ?_)
              have ev29 : (A 3) (8) = v29 := (congrFun (funext (mA12 3 rfl)) (8)).symm.trans ev29
              refine Ew_of (pcₚ := 160) (fun _ => x_iconst rfl) ?_
              refine w_ishlA rfl (fun z30 gz30 => ?_)
              refine v_inv H (o := 1) rfl rfl rfl rfl rfl rfl (by rfl) (C159 (D := puc 1025 D12) (N := puc 1025 N12) (HW_subc H oz_J1cls_9 oz_J1cls_12) (pf12_1_0) (m12_1) ((congrArg (fun q : Nat => (q : Int)) (eN12 2)).trans em12_1) (y12_0_1) (((eF12 1 1).trans ey12_0_1)) (show inr (z30) from gz30) (show 0 ≤ (y12_0_1) ∧ (y12_0_1) ≤ (m12_1) ∧ (m12_1) ≤ 65536 from pz12_0) (fun σ31 D31ₚ N31ₚ F31ₚ A31ₚ c31 s31 Hₚ Oₚ hD31 hN31 hS31 hA31 (pm31_1 : HID _) m31_1 (em31_1 : HID _) y31_0_1 (ey31_0_1 : HID _) pz31_0 pz31_1 pz31_2 => ⟨rfl, ?_⟩))
              refine v_backMc (c := ((c + c5) + c12)) (s := ((s + s5) + s12)) H oz_J1cls_9 oz_J1cls_12 Hₚ Oₚ hD31 oz_J1cls_8 (fun D31 N31 F31 A31 H Oₚ eD31 eN31 eF31 eA31 => ?_)
              have O := OUT_trans O Oₚ
              -- Row.add
              have cF31 : SF oz_J1clsl_3 F F31 := SF_trans (cF12) (SF_gluc (ι := oz_J1clsl_5) oz_J1cls_12 hS31 eF31 (by decide +kernel)) (any_sub (lₚ := [(1, 0), (1, 1), (1, 2)]) (by decide +kernel))
              have mF31 := SFm_of cF31 oz_J1cls_10
              have cA31 : SA oz_J1clsl_4 A A31 := SA_trans (cA12) (SA_gluc (ι := oz_J1clsl_5) oz_J1cls_12 hA31 eA31 (by decide +kernel)) (any_subA (lₚ := [2]) (by decide +kernel))
              have mA31 := SAm_of cA31 oz_J1cls_11
              have cD31 : SD oz_J1clsl_4 D D31 := SD_trans (cD12) (SD_gluc (ι := oz_J1clsl_5) oz_J1cls_12 hD31 eD31 (by decide +kernel)) (any_subA (lₚ := [2]) (by decide +kernel))
              have mD31 := SDm_of cD31 oz_J1cls_11
              have cN31 : SD oz_J1clsl_4 N N31 := SD_trans (cN12) (SD_gluc (ι := oz_J1clsl_5) oz_J1cls_12 hN31 eN31 (by decide +kernel)) (any_subA (lₚ := [2]) (by decide +kernel))
              have mN31 := SDm_of cN31 oz_J1cls_11
              have pf31_1_0 : HID (F31 1 0 = (D31 2 : Int)) := (eF31 1 0).trans (pm31_1.trans (congrArg (fun q : Nat => (q : Int)) (eD31 2).symm))
              have r32 : (0 : Int) ≤ m31_1 ∧ m31_1 ≤ 1000000 := nleE (H.nle 2 (ltn len_V135_Row_oz_J1cls rfl)) (show (N31 2 : Int) = m31_1 from (congrArg (fun q : Nat => (q : Int)) (eN31 2)).trans em31_1)
              have r33 : (-2147483648 : Int) ≤ y31_0_1 ∧ y31_0_1 ≤ 2147483647 := rngE (show (-2147483648 : Int) ≤ F31 1 1 ∧ F31 1 1 ≤ 2147483647 from H.krg 1 1 (ltn len_V135_Row_oz_J1cls rfl)) (show F31 1 1 = y31_0_1 from ((eF31 1 1).trans ey31_0_1))
              exact hc164  _ _ _ _ _ _ _ _  ((lc139_1).trans (congrArg (fun q : Nat => some (Value.ref q)) ((((show D31 1 = D12 1 from (eD31 1).trans (hD31 0 rfl))).trans ((show D12 1 = D5 1 from (eD12 1).trans (hD12 0 rfl))))).symm)) (lc139_2) (lc139_3) (lc139_5) (lc139_6) (lc139_7) H O (SD_trans (SD_refl) (SD_gluc (ι := oz_J1clsl_5) oz_J1cls_12 hD31 eD31 (by decide +kernel)) (any_subA (lₚ := [2]) (by decide +kernel))) (SD_trans (SD_refl) (SD_gluc (ι := oz_J1clsl_5) oz_J1cls_12 hN31 eN31 (by decide +kernel)) (any_subA (lₚ := [2]) (by decide +kernel))) (SF_trans (SF_refl) (SF_gluc (ι := oz_J1clsl_5) oz_J1cls_12 hS31 eF31 (by decide +kernel)) (any_sub (lₚ := [(1, 0), (1, 1), (1, 2)]) (by decide +kernel))) (SA_trans (SA_refl) (SA_gluc (ι := oz_J1clsl_5) oz_J1cls_12 hA31 eA31 (by decide +kernel)) (any_subA (lₚ := [2]) (by decide +kernel))) (pf31_1_0) (m31_1) ((congrArg (fun q : Nat => (q : Int)) (eN31 2)).trans em31_1) (y31_0_1) (((eF31 1 1).trans ey31_0_1))  (show 0 ≤ (y31_0_1) ∧ (y31_0_1) ≤ (m31_1) ∧ (m31_1) ≤ 65536 from pz31_0) (show (u1_1) ≤ (y31_0_1) by omega)
          refine Ew_of (pcₚ := 129) (fun _ => x_iload rfl lc126_4) ?_
          refine Ew_of (pcₚ := 130) (fun _ => x_iconst rfl) ?_
          refine w_iand rfl (show inr (v4) from qv4) (show inr (1) from q_23) (fun z34 gz34 gaz34 gbz34 => ?_)
          refine w_ifeq (t := 138) rfl rfl (show inr (z34) from gz34) (fun b35 => ?_) (fun b35 => ?_)
          · refine Ew_of (pcₚ := 139) (fun _ => x_iconst rfl) ?_
            exact hc139 (0) _ _ _ _  (lc126_0) (lc126_1) (lc126_2) (lc126_3) (lc126_5) (lc126_6) (lc126_7) H O (SF_refl) (SA_refl)     (show inr (0) from q_20)
          · refine Ew_of (pcₚ := 135) (fun _ => x_iconst rfl) ?_
            refine Ew_of (pcₚ := 139) (fun _ => x_goto rfl rfl) ?_
            exact hc139 (4) _ _ _ _  (lc126_0) (lc126_1) (lc126_2) (lc126_3) (lc126_5) (lc126_6) (lc126_7) H O (SF_refl) (SA_refl)     (show inr (4) from q_2)
        refine w_ifeq (t := 125) rfl rfl (show inr (tc21_0) from jc21_0) (fun b36 => ?_) (fun b36 => ?_)
        · refine Ew_of (pcₚ := 126) (fun _ => x_iconst rfl) ?_
          refine Ew_stk (congrArg (fun qz : Nat => ([I (0), I (z8), .ref qz] : List Value)) (show D5 1 = D 1 from mD5 1 rfl).symm) ?_
          exact hc126 (0) _ _ _ _  ((lc101_0).trans (congrArg (fun q : Nat => some (Value.ref q)) (mD5 0 rfl).symm)) ((lc101_1).trans (congrArg (fun q : Nat => some (Value.ref q)) (mD5 1 rfl).symm)) (lc101_2) (lc101_3) (lc101_4) (lc101_5) (lc101_6) (lc101_7) H O (SF_refl) (SA_refl)     (show inr (0) from q_20) (show ((tc21_0) = (0) ∧ (0) = (0)) ∨ ((tc21_0) ≠ (0) ∧ (0) = (32)) from q_2470 b36)
        · refine Ew_of (pcₚ := 122) (fun _ => x_bipush (z := 32) rfl (by decide)) ?_
          refine Ew_of (pcₚ := 126) (fun _ => x_goto rfl rfl) ?_
          refine Ew_stk (congrArg (fun qz : Nat => ([I (32), I (z8), .ref qz] : List Value)) (show D5 1 = D 1 from mD5 1 rfl).symm) ?_
          exact hc126 (32) _ _ _ _  ((lc101_0).trans (congrArg (fun q : Nat => some (Value.ref q)) (mD5 0 rfl).symm)) ((lc101_1).trans (congrArg (fun q : Nat => some (Value.ref q)) (mD5 1 rfl).symm)) (lc101_2) (lc101_3) (lc101_4) (lc101_5) (lc101_6) (lc101_7) H O (SF_refl) (SA_refl)     (show inr (32) from q_417) (show ((tc21_0) = (0) ∧ (32) = (0)) ∨ ((tc21_0) ≠ (0) ∧ (32) = (32)) from q_2471 b36)
      refine Ew_of (pcₚ := 66) (fun _ => x_iload rfl (rk_o (lc61_4) rfl rfl)) ?_
      refine Ew_of (pcₚ := 68) (fun _ => x_bipush (z := 8) rfl (by decide)) ?_
      refine w_iand rfl (show inr (v4) from qv4) (show inr (8) from q_96) (fun z37 gz37 gaz37 gbz37 => ?_)
      refine w_ifeq (t := 101) rfl rfl (show inr (z37) from gz37) (fun b38 => ?_) (fun b38 => ?_)
      · exact hc101  _ _ _ _ (0) (rk_o (lc61_0) rfl rfl) (rk_o (lc61_1) rfl rfl) (rk_o (lc61_2) rfl rfl) (rk_o (lc61_3) rfl rfl) (rk_o (lc61_4) rfl rfl) (rk_o (lc61_5) rfl rfl) (rk_o (lc61_6) rfl rfl) (rk_s) H O (SF_refl) (SA_refl)     (show inr (0) from q_20) (show 0 ≤ (0) ∧ (0) ≤ 3 from q_309)
      · refine Ew_of (pcₚ := 73) (fun _ => x_iload_n rfl (rk_o (lc61_3) rfl rfl)) ?_
        refine w_ifeq (t := 101) rfl rfl (show inr (a3) from h1) (fun b39 => ?_) (fun b39 => ?_)
        · exact hc101  _ _ _ _ (0) (rk_o (lc61_0) rfl rfl) (rk_o (lc61_1) rfl rfl) (rk_o (lc61_2) rfl rfl) (rk_o (lc61_3) rfl rfl) (rk_o (lc61_4) rfl rfl) (rk_o (lc61_5) rfl rfl) (rk_o (lc61_6) rfl rfl) (rk_s) H O (SF_refl) (SA_refl)     (show inr (0) from q_20) (show 0 ≤ (0) ∧ (0) ≤ 3 from q_309)
        · refine Ew_of (pcₚ := 77) (fun _ => x_iload_n rfl (rk_o (lc61_3) rfl rfl)) ?_
          refine Ew_of (pcₚ := 79) (fun _ => x_bipush (z := 8) rfl (by decide)) ?_
          refine w_iushrA rfl (fun z40 gz40 => ?_)
          refine w_ifne (t := 87) rfl rfl (show inr (z40) from gz40) (fun b41 => ?_) (fun b41 => ?_)
          · refine Ew_of (pcₚ := 88) (fun _ => x_iload_n rfl (rk_o (lc61_3) rfl rfl)) ?_
            refine Ew_of (pcₚ := 90) (fun _ => x_bipush (z := 16) rfl (by decide)) ?_
            refine w_iushrA rfl (fun z42 gz42 => ?_)
            refine w_ifne (t := 98) rfl rfl (show inr (z42) from gz42) (fun b43 => ?_) (fun b43 => ?_)
            · refine Ew_of (pcₚ := 99) (fun _ => x_iconst rfl) ?_
              refine Ew_of (pcₚ := 101) (fun _ => x_istore rfl) ?_
              exact hc101  _ _ _ _ (3) (rk_o (rk_o (lc61_0) rfl rfl) rfl rfl) (rk_o (rk_o (lc61_1) rfl rfl) rfl rfl) (rk_o (rk_o (lc61_2) rfl rfl) rfl rfl) (rk_o (rk_o (lc61_3) rfl rfl) rfl rfl) (rk_o (rk_o (lc61_4) rfl rfl) rfl rfl) (rk_o (rk_o (lc61_5) rfl rfl) rfl rfl) (rk_o (rk_o (lc61_6) rfl rfl) rfl rfl) (rk_s) H O (SF_refl) (SA_refl)     (show inr (3) from q_66) (show 0 ≤ (3) ∧ (3) ≤ 3 from q_307)
            · refine Ew_of (pcₚ := 95) (fun _ => x_iconst rfl) ?_
              refine Ew_of (pcₚ := 99) (fun _ => x_goto rfl rfl) ?_
              refine Ew_of (pcₚ := 101) (fun _ => x_istore rfl) ?_
              exact hc101  _ _ _ _ (2) (rk_o (rk_o (lc61_0) rfl rfl) rfl rfl) (rk_o (rk_o (lc61_1) rfl rfl) rfl rfl) (rk_o (rk_o (lc61_2) rfl rfl) rfl rfl) (rk_o (rk_o (lc61_3) rfl rfl) rfl rfl) (rk_o (rk_o (lc61_4) rfl rfl) rfl rfl) (rk_o (rk_o (lc61_5) rfl rfl) rfl rfl) (rk_o (rk_o (lc61_6) rfl rfl) rfl rfl) (rk_s) H O (SF_refl) (SA_refl)     (show inr (2) from q_55) (show 0 ≤ (2) ∧ (2) ≤ 3 from q_289)
          · refine Ew_of (pcₚ := 84) (fun _ => x_iconst rfl) ?_
            refine Ew_of (pcₚ := 99) (fun _ => x_goto rfl rfl) ?_
            refine Ew_of (pcₚ := 101) (fun _ => x_istore rfl) ?_
            exact hc101  _ _ _ _ (1) (rk_o (rk_o (lc61_0) rfl rfl) rfl rfl) (rk_o (rk_o (lc61_1) rfl rfl) rfl rfl) (rk_o (rk_o (lc61_2) rfl rfl) rfl rfl) (rk_o (rk_o (lc61_3) rfl rfl) rfl rfl) (rk_o (rk_o (lc61_4) rfl rfl) rfl rfl) (rk_o (rk_o (lc61_5) rfl rfl) rfl rfl) (rk_o (rk_o (lc61_6) rfl rfl) rfl rfl) (rk_s) H O (SF_refl) (SA_refl)     (show inr (1) from q_23) (show 0 ≤ (1) ∧ (1) ≤ 3 from q_308)
    refine Ew_of (pcₚ := 28) (fun _ => x_iload rfl (rk_o (rk_s) rfl rfl)) ?_
    refine w_ifne (t := 38) rfl rfl (show inr (tc21_0) from jc21_0) (fun b44 => ?_) (fun b44 => ?_)
    · refine Ew_of (pcₚ := 39) (fun _ => x_iload_n rfl (rk_o (rk_o (lc21_2) rfl rfl) rfl rfl)) ?_
      refine Ew_of (pcₚ := 42) (fun _ => x_sipush (z := 256) rfl (by decide)) ?_
      refine w_icmplt (t := 49) rfl rfl (show inr (a2) from h0) (show inr (256) from q_716) (fun b45 => ?_) (fun b45 => ?_)
      · refine Ew_of (pcₚ := 51) (fun _ => x_iload rfl (rk_o (rk_s) rfl rfl)) ?_
        refine w_ifeq (t := 58) rfl rfl (show inr (tc21_0) from jc21_0) (fun b46 => ?_) (fun b46 => ?_)
        · refine Ew_of (pcₚ := 59) (fun _ => x_iconst rfl) ?_
          refine Ew_of (pcₚ := 61) (fun _ => x_istore rfl) ?_
          exact hc61  _ _ _ _ (2) (rk_o (rk_o (rk_o (lc21_0) rfl rfl) rfl rfl) rfl rfl) (rk_o (rk_o (rk_o (lc21_1) rfl rfl) rfl rfl) rfl rfl) (rk_o (rk_o (rk_o (lc21_2) rfl rfl) rfl rfl) rfl rfl) (rk_o (rk_o (rk_o (lc21_3) rfl rfl) rfl rfl) rfl rfl) (rk_o (rk_o (rk_o (lc21_4) rfl rfl) rfl rfl) rfl rfl) (rk_o (rk_o (rk_s) rfl rfl) rfl rfl) (rk_s) H O (SF_refl) (SA_refl)     (show inr (2) from q_55) (show 0 ≤ (2) ∧ (2) ≤ 2 from q_2306)
        · refine Ew_of (pcₚ := 55) (fun _ => x_iconst rfl) ?_
          refine Ew_of (pcₚ := 59) (fun _ => x_goto rfl rfl) ?_
          refine Ew_of (pcₚ := 61) (fun _ => x_istore rfl) ?_
          exact hc61  _ _ _ _ (0) (rk_o (rk_o (rk_o (lc21_0) rfl rfl) rfl rfl) rfl rfl) (rk_o (rk_o (rk_o (lc21_1) rfl rfl) rfl rfl) rfl rfl) (rk_o (rk_o (rk_o (lc21_2) rfl rfl) rfl rfl) rfl rfl) (rk_o (rk_o (rk_o (lc21_3) rfl rfl) rfl rfl) rfl rfl) (rk_o (rk_o (rk_o (lc21_4) rfl rfl) rfl rfl) rfl rfl) (rk_o (rk_o (rk_s) rfl rfl) rfl rfl) (rk_s) H O (SF_refl) (SA_refl)     (show inr (0) from q_20) (show 0 ≤ (0) ∧ (0) ≤ 2 from q_2305)
      · refine Ew_of (pcₚ := 46) (fun _ => x_iconst rfl) ?_
        refine Ew_of (pcₚ := 59) (fun _ => x_goto rfl rfl) ?_
        refine Ew_of (pcₚ := 61) (fun _ => x_istore rfl) ?_
        exact hc61  _ _ _ _ (1) (rk_o (rk_o (rk_o (lc21_0) rfl rfl) rfl rfl) rfl rfl) (rk_o (rk_o (rk_o (lc21_1) rfl rfl) rfl rfl) rfl rfl) (rk_o (rk_o (rk_o (lc21_2) rfl rfl) rfl rfl) rfl rfl) (rk_o (rk_o (rk_o (lc21_3) rfl rfl) rfl rfl) rfl rfl) (rk_o (rk_o (rk_o (lc21_4) rfl rfl) rfl rfl) rfl rfl) (rk_o (rk_o (rk_s) rfl rfl) rfl rfl) (rk_s) H O (SF_refl) (SA_refl)     (show inr (1) from q_23) (show 0 ≤ (1) ∧ (1) ≤ 2 from q_2307)
    · refine Ew_of (pcₚ := 33) (fun _ => x_iload rfl (rk_o (rk_o (lc21_4) rfl rfl) rfl rfl)) ?_
      refine Ew_of (pcₚ := 34) (fun _ => x_iconst rfl) ?_
      refine w_iand rfl (show inr (v4) from qv4) (show inr (2) from q_55) (fun z47 gz47 gaz47 gbz47 => ?_)
      refine w_ifeq (t := 61) rfl rfl (show inr (z47) from gz47) (fun b48 => ?_) (fun b48 => ?_)
      · exact hc61  _ _ _ _ (0) (rk_o (rk_o (lc21_0) rfl rfl) rfl rfl) (rk_o (rk_o (lc21_1) rfl rfl) rfl rfl) (rk_o (rk_o (lc21_2) rfl rfl) rfl rfl) (rk_o (rk_o (lc21_3) rfl rfl) rfl rfl) (rk_o (rk_o (lc21_4) rfl rfl) rfl rfl) (rk_o (rk_s) rfl rfl) (rk_s) H O (SF_refl) (SA_refl)     (show inr (0) from q_20) (show 0 ≤ (0) ∧ (0) ≤ 2 from q_2305)
      · refine Ew_of (pcₚ := 39) (fun _ => x_iload_n rfl (rk_o (rk_o (lc21_2) rfl rfl) rfl rfl)) ?_
        refine Ew_of (pcₚ := 42) (fun _ => x_sipush (z := 256) rfl (by decide)) ?_
        refine w_icmplt (t := 49) rfl rfl (show inr (a2) from h0) (show inr (256) from q_716) (fun b49 => ?_) (fun b49 => ?_)
        · refine Ew_of (pcₚ := 51) (fun _ => x_iload rfl (rk_o (rk_s) rfl rfl)) ?_
          refine w_ifeq (t := 58) rfl rfl (show inr (tc21_0) from jc21_0) (fun b50 => ?_) (fun b50 => ?_)
          · refine Ew_of (pcₚ := 59) (fun _ => x_iconst rfl) ?_
            refine Ew_of (pcₚ := 61) (fun _ => x_istore rfl) ?_
            exact hc61  _ _ _ _ (2) (rk_o (rk_o (rk_o (lc21_0) rfl rfl) rfl rfl) rfl rfl) (rk_o (rk_o (rk_o (lc21_1) rfl rfl) rfl rfl) rfl rfl) (rk_o (rk_o (rk_o (lc21_2) rfl rfl) rfl rfl) rfl rfl) (rk_o (rk_o (rk_o (lc21_3) rfl rfl) rfl rfl) rfl rfl) (rk_o (rk_o (rk_o (lc21_4) rfl rfl) rfl rfl) rfl rfl) (rk_o (rk_o (rk_s) rfl rfl) rfl rfl) (rk_s) H O (SF_refl) (SA_refl)     (show inr (2) from q_55) (show 0 ≤ (2) ∧ (2) ≤ 2 from q_2306)
          · refine Ew_of (pcₚ := 55) (fun _ => x_iconst rfl) ?_
            refine Ew_of (pcₚ := 59) (fun _ => x_goto rfl rfl) ?_
            refine Ew_of (pcₚ := 61) (fun _ => x_istore rfl) ?_
            exact hc61  _ _ _ _ (0) (rk_o (rk_o (rk_o (lc21_0) rfl rfl) rfl rfl) rfl rfl) (rk_o (rk_o (rk_o (lc21_1) rfl rfl) rfl rfl) rfl rfl) (rk_o (rk_o (rk_o (lc21_2) rfl rfl) rfl rfl) rfl rfl) (rk_o (rk_o (rk_o (lc21_3) rfl rfl) rfl rfl) rfl rfl) (rk_o (rk_o (rk_o (lc21_4) rfl rfl) rfl rfl) rfl rfl) (rk_o (rk_o (rk_s) rfl rfl) rfl rfl) (rk_s) H O (SF_refl) (SA_refl)     (show inr (0) from q_20) (show 0 ≤ (0) ∧ (0) ≤ 2 from q_2305)
        · refine Ew_of (pcₚ := 46) (fun _ => x_iconst rfl) ?_
          refine Ew_of (pcₚ := 59) (fun _ => x_goto rfl rfl) ?_
          refine Ew_of (pcₚ := 61) (fun _ => x_istore rfl) ?_
          exact hc61  _ _ _ _ (1) (rk_o (rk_o (rk_o (lc21_0) rfl rfl) rfl rfl) rfl rfl) (rk_o (rk_o (rk_o (lc21_1) rfl rfl) rfl rfl) rfl rfl) (rk_o (rk_o (rk_o (lc21_2) rfl rfl) rfl rfl) rfl rfl) (rk_o (rk_o (rk_o (lc21_3) rfl rfl) rfl rfl) rfl rfl) (rk_o (rk_o (rk_o (lc21_4) rfl rfl) rfl rfl) rfl rfl) (rk_o (rk_o (rk_s) rfl rfl) rfl rfl) (rk_s) H O (SF_refl) (SA_refl)     (show inr (1) from q_23) (show 0 ≤ (1) ∧ (1) ≤ 2 from q_2307)
  refine Ew_of (pcₚ := 11) (fun _ => x_iload rfl rk_s) ?_
  refine Ew_of (pcₚ := 12) (fun _ => x_iconst rfl) ?_
  refine w_iand rfl (show inr (v4) from qv4) (show inr (4) from q_2) (fun z51 gz51 gaz51 gbz51 => ?_)
  refine w_ifeq (t := 20) rfl rfl (show inr (z51) from gz51) (fun b52 => ?_) (fun b52 => ?_)
  · refine Ew_of (pcₚ := 21) (fun _ => x_iconst rfl) ?_
    exact hc21 (0) _ _ _ _  (rk_o (rfl) rfl rfl) (rk_o (rfl) rfl rfl) (rk_o (rfl) rfl rfl) (rk_o (rfl) rfl rfl) (rk_s) H O (SF_refl) (SA_refl)     (show inr (0) from q_20) (show (0) = 0 ∨ (0) = 1 from q_1)
  · refine Ew_of (pcₚ := 17) (fun _ => x_iconst rfl) ?_
    refine Ew_of (pcₚ := 21) (fun _ => x_goto rfl rfl) ?_
    exact hc21 (1) _ _ _ _  (rk_o (rfl) rfl rfl) (rk_o (rfl) rfl rfl) (rk_o (rfl) rfl rfl) (rk_o (rfl) rfl rfl) (rk_s) H O (SF_refl) (SA_refl)     (show inr (1) from q_23) (show (1) = 0 ∨ (1) = 1 from q_5)
abbrev V138_Br : vV := [(1, 0, [])]
theorem len_V138_Br_oz_J1cls : (V138_Br).length = 1 := by decide +kernel
/-- Packer.areSame: #1 -/
theorem C138_Br {σE : rS} {D N : Nat → Nat} {F : hF} {A : hA} {d c s : Nat} {Q : wQ} (H : HW V138_Br σE D N F A) {a2 a3 : Int} (n0 : Int) (en0 : HID ((N 0 : Int) = n0)) (w0 : Int → Int) (ew0 : A 0 = w0) (h0 : inr (a2)) (h1 : inr (a3)) (h2 : 0 ≤ (a2) ∧ (a2) ≤ 65536 ∧ (a3) ≤ (n0) ∧ (n0) ≤ 65536) (k : ∀ (z : Int) (σ : rS) (Fₚ : hF) (Aₚ : hA), HW V138_Br σ D N Fₚ Aₚ → OUT (V138_Br).length D N σE c s D N σ c s → SF [] F Fₚ → SA [] A Aₚ → ((z) = 0 ∨ (z) = 1) → ((z) = 1 ∨ DIF ((w0)) (a2) (a3)) → Q (some (I z)) σ c s) : Ew 138 (d + 0) 0 (rargs 0 [.ref (D 0), I a2, I a3]) [] σE c s Q := by
  have O := OUT_refl (n := (V138_Br).length) (D := D) (N := N) (σ := σE) (c := c) (s := s)
  have HE := H
  have r1 : (0 : Int) ≤ n0 ∧ n0 ≤ 1000000 := nleE (H.nle 0 (ltn len_V138_Br_oz_J1cls rfl)) (show (N 0 : Int) = n0 from en0)
  refine Ew_of (pcₚ := 1) (fun _ => x_iload_n rfl rfl) ?_
  refine Ew_of (pcₚ := 2) (fun _ => x_iconst rfl) ?_
  refine w_iadd rfl ?_
  refine Ew_of (pcₚ := 4) (fun _ => x_istore_n rfl) ?_
  suffices hl4 : ∀ (m : Nat), ∀ (ls : rO) (σ : rS) (F_4 : hF) (A_4 : hA) (x4_3 : Int), rlook ls 0 = some (.ref (D 0)) → rlook ls 1 = some (I (a2)) → rlook ls 2 = some (I (a3)) → rlook ls 3 = some (I (x4_3)) → HW V138_Br σ D N F_4 A_4 → OUT (V138_Br).length D N σE c s D N σ c s → SF [] F F_4 → SA [] A A_4 → (inr (x4_3)) → (((a2 + 1)) ≤ (x4_3)) → ((x4_3) ≤ ((a2 + 1)) ∨ (x4_3) ≤ ((a3))) → (((a3)) - (x4_3)).toNat = m → Ew 138 (d + 0) 4 ls [] σ c s Q from
    hl4 _ _ _ _ _ ((a2 + 1)) (rk_o (rfl) rfl rfl) (rk_o (rfl) rfl rfl) (rk_o (rfl) rfl rfl) (rk_s) H O (SF_refl) (SA_refl)     (show inr ((a2 + 1)) from q_3870 h2) (show ((a2 + 1)) ≤ ((a2 + 1)) from q_3869) (show ((a2 + 1)) ≤ ((a2 + 1)) ∨ ((a2 + 1)) ≤ ((a3)) from q_3868) rfl
  as_aux_lemma =>
  intro m
  induction m using Nat.strongRecOn with
  | _ m ih4 =>
    intro ls σ F_4 A_4 x4_3 l4_0 l4_1 l4_2 l4_3 H O hS_4 hA_4     j4_0 j4_1 j4_2 hm4
    have cF_4 : SF oz_J1clsl_0 F F_4 := SF_trans (SF_refl) hS_4 (any_sub (by decide +kernel))
    have mF_4 := SFm_of cF_4 oz_J1cls_3
    have cA_4 : SA oz_J1clsl_1 A A_4 := SA_trans (SA_refl) hA_4 (any_subA (by decide +kernel))
    have mA_4 := SAm_of cA_4 oz_J1cls_4
    refine Ew_of (pcₚ := 5) (fun _ => x_iload_n rfl l4_3) ?_
    refine Ew_of (pcₚ := 6) (fun _ => x_iload_n rfl l4_2) ?_
    refine w_icmpge (t := 26) rfl rfl (show inr (x4_3) from j4_0) (show inr (a3) from h1) (fun b2 => ?_) (fun b2 => ?_)
    · have hsm : (1 : Int) = 1 ∨ DIF ((w0)) (a2) (a3) := .inl rfl
      refine Ew_of (pcₚ := 27) (fun _ => x_iconst rfl) ?_
      exact w_ireturn rfl (k (1) _ _ _ H O (cF_4) (cA_4) (show (1) = 0 ∨ (1) = 1 by first | exact q_5 | omega) (show (1) = 1 ∨ DIF ((w0)) a2 a3 by assumption))
    · refine Ew_of (pcₚ := 10) (fun _ => x_aload_n rfl l4_0) ?_
      refine Ew_of (pcₚ := 11) (fun _ => x_iload_n rfl l4_3) ?_
      refine v_lB H (o := 0) rfl rfl rfl rfl (n := n0) (en0) (show 0 ≤ x4_3 ∧ x4_3 < n0 from q_3871 b2 h2 j4_1) (fun v3 ev3 qv3 => ?_)
      have ev3 : (w0) (x4_3) = v3 := (congrFun ((funext (mA_4 0 rfl)).trans (ew0)) (x4_3)).symm.trans ev3
      refine Ew_of (pcₚ := 13) (fun _ => x_aload_n rfl l4_0) ?_
      refine Ew_of (pcₚ := 14) (fun _ => x_iload_n rfl l4_1) ?_
      refine v_lB H (o := 0) rfl rfl rfl rfl (n := n0) (en0) (show 0 ≤ a2 ∧ a2 < n0 from q_3872 b2 h2 j4_1 r1) (fun v4 ev4 qv4 => ?_)
      have ev4 : (w0) (a2) = v4 := (congrFun ((funext (mA_4 0 rfl)).trans (ew0)) (a2)).symm.trans ev4
      refine w_icmpeq (t := 20) rfl rfl (show inr (v3) from q_2536 qv3) (show inr (v4) from q_2536 qv4) (fun b5 => ?_) (fun b5 => ?_)
      · refine Ew_of (pcₚ := 23) (fun _ => x_iinc (len := 3) rfl (l4_3)) ?_
        refine Ew_of (pcₚ := 4) (fun _ => x_goto rfl rfl) ?_
        exact ih4 _ (msE hm4 q_31 (q_34 b2)) _ _ _ _ ((x4_3 + 1)) (rk_o (l4_0) rfl rfl) (rk_o (l4_1) rfl rfl) (rk_o (l4_2) rfl rfl) (rk_s) H O (hS_4) (hA_4)     (show inr ((x4_3 + 1)) from q_3875 b2 h2 j4_0) (show ((a2 + 1)) ≤ ((x4_3 + 1)) from q_3874 j4_1) (show ((x4_3 + 1)) ≤ ((a2 + 1)) ∨ ((x4_3 + 1)) ≤ ((a3)) from q_3873 b2) rfl
      · have hdf : (0 : Int) = 1 ∨ DIF ((w0)) (a2) (a3) := .inr ⟨(x4_3), by omega, by omega, by omega⟩
        refine Ew_of (pcₚ := 19) (fun _ => x_iconst rfl) ?_
        exact w_ireturn rfl (k (0) _ _ _ H O (cF_4) (cA_4) (show (0) = 0 ∨ (0) = 1 by first | exact q_1 | omega) (show (0) = 1 ∨ DIF ((w0)) a2 a3 by assumption))
abbrev V145_S7 : vV := []
theorem len_V145_S7_oz_J1cls : (V145_S7).length = 0 := by decide +kernel
/-- Packer.symbolFor:  -/
theorem C145_S7 {σE : rS} {D N : Nat → Nat} {F : hF} {A : hA} {d c s : Nat} {Q : wQ} (H : HW V145_S7 σE D N F A) (HT : STC σE) {a1 : Int} (h0 : inr (a1)) (k : ∀ (z : Int) (σ : rS) (Fₚ : hF) (Aₚ : hA), HW V145_S7 σ D N Fₚ Aₚ → OUT (V145_S7).length D N σE c s D N σ c s → SF [] F Fₚ → SA [] A Aₚ → (inr (z)) → (0 ≤ (z) ∧ (z) < 36) → Q (some (I z)) σ c s) : Ew 145 (d + 0) 0 (rargs 0 [I a1, .ref 7]) [] σE c s Q := by
  have O := OUT_refl (n := (V145_S7).length) (D := D) (N := N) (σ := σE) (c := c) (s := s)
  have HE := H
  refine Ew_of (pcₚ := 1) (fun _ => x_aload_n rfl rfl) ?_
  refine v_stL (STC_out HT HE O) (b := 7) (n := 36) rfl rfl rfl ?_
  refine Ew_of (pcₚ := 3) (fun _ => x_iconst rfl) ?_
  refine w_isub rfl ?_
  refine Ew_of (pcₚ := 5) (fun _ => x_istore_n rfl) ?_
  suffices hl5 : ∀ (m : Nat), ∀ (ls : rO) (σ : rS) (F_5 : hF) (A_5 : hA) (x5_2 : Int), rlook ls 0 = some (I (a1)) → rlook ls 1 = some (.ref 7) → rlook ls 2 = some (I (x5_2)) → HW V145_S7 σ D N F_5 A_5 → OUT (V145_S7).length D N σE c s D N σ c s → SF [] F F_5 → SA [] A A_5 → (inr (x5_2)) → ((x5_2) ≤ ((36 - 1))) → (((36 - 1)) ≤ (x5_2) ∨ (0) ≤ (x5_2)) → ((x5_2) - (0)).toNat = m → Ew 145 (d + 0) 5 ls [] σ c s Q from
    hl5 _ _ _ _ _ ((36 - 1)) (rk_o (rfl) rfl rfl) (rk_o (rfl) rfl rfl) (rk_s) H O (SF_refl) (SA_refl)     (show inr ((36 - 1)) from q_3878) (show ((36 - 1)) ≤ ((36 - 1)) from q_3877) (show ((36 - 1)) ≤ ((36 - 1)) ∨ (0) ≤ ((36 - 1)) from q_3876) rfl
  as_aux_lemma =>
  intro m
  induction m using Nat.strongRecOn with
  | _ m ih5 =>
    intro ls σ F_5 A_5 x5_2 l5_0 l5_1 l5_2 H O hS_5 hA_5     j5_0 j5_1 j5_2 hm5
    have cF_5 : SF oz_J1clsl_0 F F_5 := SF_trans (SF_refl) hS_5 (any_sub (by decide +kernel))
    have mF_5 := SFm_of cF_5 oz_J1cls_3
    have cA_5 : SA oz_J1clsl_1 A A_5 := SA_trans (SA_refl) hA_5 (any_subA (by decide +kernel))
    have mA_5 := SAm_of cA_5 oz_J1cls_4
    refine Ew_of (pcₚ := 6) (fun _ => x_iload_n rfl l5_2) ?_
    refine w_ifle (t := 22) rfl rfl (show inr (x5_2) from j5_0) (fun b1 => ?_) (fun b1 => ?_)
    · refine Ew_of (pcₚ := 23) (fun _ => x_iload_n rfl l5_2) ?_
      exact w_ireturn rfl (k (x5_2) _ _ _ H O (cF_5) (cA_5) (show inr (x5_2) from j5_0) (show 0 ≤ (x5_2) ∧ (x5_2) < 36 from q_3879 b1 j5_2))
    · refine Ew_of (pcₚ := 10) (fun _ => x_aload_n rfl l5_1) ?_
      refine Ew_of (pcₚ := 11) (fun _ => x_iload_n rfl l5_2) ?_
      refine v_stI (STC_out HT HE O) (b := 7) (n := 36) rfl rfl rfl rfl (show 0 ≤ x5_2 ∧ x5_2 < 36 from q_3880 b1 j5_1) (fun v2 ev2 qv2 => ?_)
      refine Ew_of (pcₚ := 13) (fun _ => x_iload_n rfl l5_0) ?_
      refine w_icmple (t := 22) rfl rfl (show inr (v2) from qv2) (show inr (a1) from h0) (fun b3 => ?_) (fun b3 => ?_)
      · refine Ew_of (pcₚ := 23) (fun _ => x_iload_n rfl l5_2) ?_
        exact w_ireturn rfl (k (x5_2) _ _ _ H O (cF_5) (cA_5) (show inr (x5_2) from j5_0) (show 0 ≤ (x5_2) ∧ (x5_2) < 36 from q_3880 b1 j5_1))
      · refine Ew_of (pcₚ := 19) (fun _ => x_iinc (len := 3) rfl (l5_2)) ?_
        refine Ew_of (pcₚ := 5) (fun _ => x_goto rfl rfl) ?_
        exact ih5 _ (msE hm5 q_316 (q_317 b1)) _ _ _ _ ((x5_2 + (-1))) (rk_o (l5_0) rfl rfl) (rk_o (l5_1) rfl rfl) (rk_s) H O (hS_5) (hA_5)     (show inr ((x5_2 + (-1))) from q_3883 b1 j5_1) (show ((x5_2 + (-1))) ≤ ((36 - 1)) from q_3882 j5_1) (show ((36 - 1)) ≤ ((x5_2 + (-1))) ∨ (0) ≤ ((x5_2 + (-1))) from q_3881 b1) rfl
abbrev V145_S9 : vV := []
theorem len_V145_S9_oz_J1cls : (V145_S9).length = 0 := by decide +kernel
/-- Packer.symbolFor:  -/
theorem C145_S9 {σE : rS} {D N : Nat → Nat} {F : hF} {A : hA} {d c s : Nat} {Q : wQ} (H : HW V145_S9 σE D N F A) (HT : STC σE) {a1 : Int} (h0 : inr (a1)) (k : ∀ (z : Int) (σ : rS) (Fₚ : hF) (Aₚ : hA), HW V145_S9 σ D N Fₚ Aₚ → OUT (V145_S9).length D N σE c s D N σ c s → SF [] F Fₚ → SA [] A Aₚ → (inr (z)) → (0 ≤ (z) ∧ (z) < 53) → Q (some (I z)) σ c s) : Ew 145 (d + 0) 0 (rargs 0 [I a1, .ref 9]) [] σE c s Q := by
  have O := OUT_refl (n := (V145_S9).length) (D := D) (N := N) (σ := σE) (c := c) (s := s)
  have HE := H
  refine Ew_of (pcₚ := 1) (fun _ => x_aload_n rfl rfl) ?_
  refine v_stL (STC_out HT HE O) (b := 9) (n := 53) rfl rfl rfl ?_
  refine Ew_of (pcₚ := 3) (fun _ => x_iconst rfl) ?_
  refine w_isub rfl ?_
  refine Ew_of (pcₚ := 5) (fun _ => x_istore_n rfl) ?_
  suffices hl5 : ∀ (m : Nat), ∀ (ls : rO) (σ : rS) (F_5 : hF) (A_5 : hA) (x5_2 : Int), rlook ls 0 = some (I (a1)) → rlook ls 1 = some (.ref 9) → rlook ls 2 = some (I (x5_2)) → HW V145_S9 σ D N F_5 A_5 → OUT (V145_S9).length D N σE c s D N σ c s → SF [] F F_5 → SA [] A A_5 → (inr (x5_2)) → ((x5_2) ≤ ((53 - 1))) → (((53 - 1)) ≤ (x5_2) ∨ (0) ≤ (x5_2)) → ((x5_2) - (0)).toNat = m → Ew 145 (d + 0) 5 ls [] σ c s Q from
    hl5 _ _ _ _ _ ((53 - 1)) (rk_o (rfl) rfl rfl) (rk_o (rfl) rfl rfl) (rk_s) H O (SF_refl) (SA_refl)     (show inr ((53 - 1)) from q_3886) (show ((53 - 1)) ≤ ((53 - 1)) from q_3885) (show ((53 - 1)) ≤ ((53 - 1)) ∨ (0) ≤ ((53 - 1)) from q_3884) rfl
  as_aux_lemma =>
  intro m
  induction m using Nat.strongRecOn with
  | _ m ih5 =>
    intro ls σ F_5 A_5 x5_2 l5_0 l5_1 l5_2 H O hS_5 hA_5     j5_0 j5_1 j5_2 hm5
    have cF_5 : SF oz_J1clsl_0 F F_5 := SF_trans (SF_refl) hS_5 (any_sub (by decide +kernel))
    have mF_5 := SFm_of cF_5 oz_J1cls_3
    have cA_5 : SA oz_J1clsl_1 A A_5 := SA_trans (SA_refl) hA_5 (any_subA (by decide +kernel))
    have mA_5 := SAm_of cA_5 oz_J1cls_4
    refine Ew_of (pcₚ := 6) (fun _ => x_iload_n rfl l5_2) ?_
    refine w_ifle (t := 22) rfl rfl (show inr (x5_2) from j5_0) (fun b1 => ?_) (fun b1 => ?_)
    · refine Ew_of (pcₚ := 23) (fun _ => x_iload_n rfl l5_2) ?_
      exact w_ireturn rfl (k (x5_2) _ _ _ H O (cF_5) (cA_5) (show inr (x5_2) from j5_0) (show 0 ≤ (x5_2) ∧ (x5_2) < 53 from q_3887 b1 j5_2))
    · refine Ew_of (pcₚ := 10) (fun _ => x_aload_n rfl l5_1) ?_
      refine Ew_of (pcₚ := 11) (fun _ => x_iload_n rfl l5_2) ?_
      refine v_stI (STC_out HT HE O) (b := 9) (n := 53) rfl rfl rfl rfl (show 0 ≤ x5_2 ∧ x5_2 < 53 from q_3888 b1 j5_1) (fun v2 ev2 qv2 => ?_)
      refine Ew_of (pcₚ := 13) (fun _ => x_iload_n rfl l5_0) ?_
      refine w_icmple (t := 22) rfl rfl (show inr (v2) from qv2) (show inr (a1) from h0) (fun b3 => ?_) (fun b3 => ?_)
      · refine Ew_of (pcₚ := 23) (fun _ => x_iload_n rfl l5_2) ?_
        exact w_ireturn rfl (k (x5_2) _ _ _ H O (cF_5) (cA_5) (show inr (x5_2) from j5_0) (show 0 ≤ (x5_2) ∧ (x5_2) < 53 from q_3888 b1 j5_1))
      · refine Ew_of (pcₚ := 19) (fun _ => x_iinc (len := 3) rfl (l5_2)) ?_
        refine Ew_of (pcₚ := 5) (fun _ => x_goto rfl rfl) ?_
        exact ih5 _ (msE hm5 q_316 (q_317 b1)) _ _ _ _ ((x5_2 + (-1))) (rk_o (l5_0) rfl rfl) (rk_o (l5_1) rfl rfl) (rk_s) H O (hS_5) (hA_5)     (show inr ((x5_2 + (-1))) from q_3891 b1 j5_1) (show ((x5_2 + (-1))) ≤ ((53 - 1)) from q_3890 j5_1) (show ((53 - 1)) ≤ ((x5_2 + (-1))) ∨ (0) ≤ ((x5_2 + (-1))) from q_3889 b1) rfl
abbrev V152 : vV := [(0, 6, [(4, 0), (4, 0), (4, 0), (4, 0), (4, 0), (4, 0), (4, 0), (4, 0), (4, 0), (4, 0), (4, 0), (4, 0), (4, 0), (4, 0), (4, 0), (0, 0), (0, 0), (4, 0), (4, 0)]), (0, 7, [(4, 0), (0, 0), (1, 0), (0, 0), (0, 0)]), (1, 0, []), (1, 7, []), (1, 1, []), (0, 5, [(4, 0), (4, 0), (4, 0), (4, 0), (0, 0), (0, 0), (0, 0), (4, 0), (4, 0), (0, 0), (0, 0), (0, 0), (0, 0), (0, 0), (0, 0), (0, 0), (0, 0), (0, 0), (0, 0)]), (1, 1, []), (1, 1, []), (1, 1, []), (1, 1, []), (1, 1, [])]
theorem len_V152_oz_J1cls : (V152).length = 11 := by decide +kernel
theorem oz_J1cls_17 : vsub V152 V164 [1, 2] = true := by decide +kernel
def oz_J1clsl_6 : List (Nat × Nat) := [(1, 1), (1, 2), (1, 3), (1, 4)]
theorem oz_J1cls_18 : (oz_J1clsl_6).all (fun p => !tbz 128849018880 (Nat.add (Nat.mul 32 p.1) p.2)) = true := by decide +kernel
/-- Packer.packAdditional: this, this.packed, this.packed.bytes, this.symbols, this.numbers, this.finder, this.finder.literals, this.finder.lengths, this.symbols.0, this.symbols.1, this.symbols.2 -/
theorem C152 {σE : rS} {D N : Nat → Nat} {F : hF} {A : hA} {d c s : Nat} {Q : wQ} (H : HW V152 σE D N F A) (HT : STC σE) {a1 : Int} (pf1 : HID (F 0 8 = (D 1 : Int))) (pf2 : HID (F 1 0 = (D 2 : Int))) (pf3 : HID (F 0 13 = (D 3 : Int))) (pf4 : HID (F 0 14 = (D 4 : Int))) (pf5 : HID (F 0 1 = (D 5 : Int))) (pf6 : HID (F 5 1 = (D 6 : Int))) (pf7 : HID (F 5 2 = (D 7 : Int))) (pf8 : HID (A 3 0 = (D 8 : Int))) (pf9 : HID (A 3 1 = (D 9 : Int))) (pf10 : HID (A 3 2 = (D 10 : Int))) (n2 : Int) (en2 : HID ((N 2 : Int) = n2)) (n3 : Int) (en3 : HID ((N 3 : Int) = n3)) (n4 : Int) (en4 : HID ((N 4 : Int) = n4)) (n6 : Int) (en6 : HID ((N 6 : Int) = n6)) (n7 : Int) (en7 : HID ((N 7 : Int) = n7)) (n8 : Int) (en8 : HID ((N 8 : Int) = n8)) (n9 : Int) (en9 : HID ((N 9 : Int) = n9)) (n10 : Int) (en10 : HID ((N 10 : Int) = n10)) (u1_1 : Int) (eu1_1 : HID (F 1 1 = u1_1)) (u1_4 : Int) (eu1_4 : HID (F 1 4 = u1_4)) (w8 : Int → Int) (ew8 : A 8 = w8) (w9 : Int → Int) (ew9 : A 9 = w9) (w10 : Int → Int) (ew10 : A 10 = w10) (h0 : inr (a1)) (h1 : 0 ≤ (u1_1) ∧ (u1_1) ≤ (n2) ∧ (n2) ≤ 65536) (h2 : 0 ≤ (u1_4) ∧ (u1_4) ≤ 7) (h3 : (n3) = 3) (h4 : 0 ≤ (a1) ∧ (a1) < (n4) ∧ (a1) < (n6) ∧ (a1) < (n7)) (h5 : (a1) < (n8)) (h6 : (a1) < (n9)) (h7 : (a1) < (n10)) (h8 : 0 ≤ ((w8)) (a1) ∧ ((w8)) (a1) ≤ 35) (h9 : 0 ≤ ((w9)) (a1) ∧ ((w9)) (a1) ≤ 31) (h10 : 0 ≤ ((w10)) (a1) ∧ ((w10)) (a1) ≤ 52) (k : ∀ (σ : rS) (Fₚ : hF) (Aₚ : hA), HW V152 σ D N Fₚ Aₚ → OUT (V152).length D N σE c s D N σ c s → SF [(1, 1), (1, 2), (1, 3), (1, 4)] F Fₚ → SA [2] A Aₚ → ∀ y1_1 : Int, Fₚ 1 1 = y1_1 → ∀ y1_4 : Int, Fₚ 1 4 = y1_4 → (0 ≤ (y1_1) ∧ (y1_1) ≤ (n2) ∧ (n2) ≤ 65536) → (0 ≤ (y1_4) ∧ (y1_4) ≤ 7) → ((u1_1) ≤ (y1_1)) → Q none σ c s) : Ew 152 (d + 1) 0 (rargs 0 [.ref (D 0), I a1]) [] σE c s Q := by
  have O := OUT_refl (n := (V152).length) (D := D) (N := N) (σ := σE) (c := c) (s := s)
  have HE := H
  have r1 : (-2147483648 : Int) ≤ u1_1 ∧ u1_1 ≤ 2147483647 := rngE (show (-2147483648 : Int) ≤ F 1 1 ∧ F 1 1 ≤ 2147483647 from H.krg 1 1 (ltn len_V152_oz_J1cls rfl)) (show F 1 1 = u1_1 from (eu1_1))
  have r2 : (-2147483648 : Int) ≤ u1_4 ∧ u1_4 ≤ 2147483647 := rngE (show (-2147483648 : Int) ≤ F 1 4 ∧ F 1 4 ≤ 2147483647 from H.krg 1 4 (ltn len_V152_oz_J1cls rfl)) (show F 1 4 = u1_4 from (eu1_4))
  have r3 : (0 : Int) ≤ n2 ∧ n2 ≤ 1000000 := nleE (H.nle 2 (ltn len_V152_oz_J1cls rfl)) (show (N 2 : Int) = n2 from en2)
  have r4 : (0 : Int) ≤ n3 ∧ n3 ≤ 1000000 := nleE (H.nle 3 (ltn len_V152_oz_J1cls rfl)) (show (N 3 : Int) = n3 from en3)
  have r5 : (0 : Int) ≤ n4 ∧ n4 ≤ 1000000 := nleE (H.nle 4 (ltn len_V152_oz_J1cls rfl)) (show (N 4 : Int) = n4 from en4)
  have r6 : (0 : Int) ≤ n6 ∧ n6 ≤ 1000000 := nleE (H.nle 6 (ltn len_V152_oz_J1cls rfl)) (show (N 6 : Int) = n6 from en6)
  have r7 : (0 : Int) ≤ n7 ∧ n7 ≤ 1000000 := nleE (H.nle 7 (ltn len_V152_oz_J1cls rfl)) (show (N 7 : Int) = n7 from en7)
  have r8 : (0 : Int) ≤ n8 ∧ n8 ≤ 1000000 := nleE (H.nle 8 (ltn len_V152_oz_J1cls rfl)) (show (N 8 : Int) = n8 from en8)
  have r9 : (0 : Int) ≤ n9 ∧ n9 ≤ 1000000 := nleE (H.nle 9 (ltn len_V152_oz_J1cls rfl)) (show (N 9 : Int) = n9 from en9)
  have r10 : (0 : Int) ≤ n10 ∧ n10 ≤ 1000000 := nleE (H.nle 10 (ltn len_V152_oz_J1cls rfl)) (show (N 10 : Int) = n10 from en10)
  refine Ew_of (pcₚ := 1) (fun _ => x_aload_n rfl rfl) ?_
  refine v_g H (o := 0) (v := .ref (D 3)) rfl rfl rfl rfl rfl (vrf (pf3)) ?_
  refine Ew_of (pcₚ := 5) (fun _ => x_iconst rfl) ?_
  refine v_lR H (o := 3) rfl rfl rfl rfl rfl (n := n3) (en3) (show 0 ≤ 0 ∧ 0 < n3 from q_2745 h3 r4) (z := ((D 8 : Nat) : Int)) (v := .ref (D 8)) (pf8) (vrf rfl) ?_
  refine Ew_of (pcₚ := 7) (fun _ => x_iload_n rfl rfl) ?_
  refine v_lI H (o := 8) rfl rfl rfl rfl (n := n8) (en8) (show 0 ≤ a1 ∧ a1 < n8 from q_3892 h4 h5) (fun v11 ev11 qv11 => ?_)
  have ev11 : (w8) (a1) = v11 := (congrFun (ew8) (a1)).symm.trans ev11
  refine Ew_of (pcₚ := 9) (fun _ => x_istore_n rfl) ?_
  refine Ew_of (pcₚ := 10) (fun _ => x_aload_n rfl (rk_o (rfl) rfl rfl)) ?_
  refine v_g H (o := 0) (v := .ref (D 3)) rfl rfl rfl rfl rfl (vrf (pf3)) ?_
  refine Ew_of (pcₚ := 14) (fun _ => x_iconst rfl) ?_
  refine v_lR H (o := 3) rfl rfl rfl rfl rfl (n := n3) (en3) (show 0 ≤ 2 ∧ 2 < n3 from q_2748 h3) (z := ((D 10 : Nat) : Int)) (v := .ref (D 10)) (pf10) (vrf rfl) ?_
  refine Ew_of (pcₚ := 16) (fun _ => x_iload_n rfl (rk_o (rfl) rfl rfl)) ?_
  refine v_lI H (o := 10) rfl rfl rfl rfl (n := n10) (en10) (show 0 ≤ a1 ∧ a1 < n10 from q_3892 h4 h7) (fun v12 ev12 qv12 => ?_)
  have ev12 : (w10) (a1) = v12 := (congrFun (ew10) (a1)).symm.trans ev12
  refine Ew_of (pcₚ := 18) (fun _ => x_istore_n rfl) ?_
  refine Ew_of (pcₚ := 19) (fun _ => x_aload_n rfl (rk_o (rk_o (rfl) rfl rfl) rfl rfl)) ?_
  refine v_g H (o := 0) (v := .ref (D 1)) rfl rfl rfl rfl rfl (vrf (pf1)) ?_
  refine Ew_of (pcₚ := 23) (fun _ => x_aload_n rfl (rk_o (rk_o (rfl) rfl rfl) rfl rfl)) ?_
  refine v_g H (o := 0) (v := .ref (D 5)) rfl rfl rfl rfl rfl (vrf (pf5)) ?_
  refine v_g H (o := 5) (v := .ref (D 6)) rfl rfl rfl rfl rfl (vrf (pf6)) ?_
  refine Ew_of (pcₚ := 30) (fun _ => x_iload_n rfl (rk_o (rk_o (rfl) rfl rfl) rfl rfl)) ?_
  refine v_lI H (o := 6) rfl rfl rfl rfl (n := n6) (en6) (show 0 ≤ a1 ∧ a1 < n6 from q_3893 h4) (fun v13 ev13 qv13 => ?_)
  have ev13 : (A 6) (a1) = v13 := (congrFun (rfl : A 6 = A 6) (a1)).symm.trans ev13
  refine Ew_of (pcₚ := 34) (fun _ => x_getstatic rfl) ?_
  refine Ew_of (pcₚ := 35) (fun _ => x_iload_n rfl (rk_o (rk_s) rfl rfl)) ?_
  refine v_stI (STC_out HT HE O) (b := 7) (n := 36) rfl rfl rfl rfl (show 0 ≤ v11 ∧ v11 < 36 from q_3894 ev11 h8) (fun v14 ev14 qv14 => ?_)
  refine w_isubA rfl (fun z15 gz15 => ?_)
  refine Ew_of (pcₚ := 40) (fun _ => x_getstatic rfl) ?_
  refine Ew_of (pcₚ := 41) (fun _ => x_iload_n rfl (rk_o (rk_s) rfl rfl)) ?_
  refine v_stI (STC_out HT HE O) (b := 8) (n := 36) rfl rfl rfl rfl (show 0 ≤ v11 ∧ v11 < 36 from q_3894 ev11 h8) (fun v16 ev16 qv16 => ?_)
  have hsta := stl_in 8 0 16 (by decide) (by rw [show (stl 8).length = 36 from rfl]; omega) ev16
  refine v_inv H (o := 1) rfl rfl rfl rfl rfl rfl (by rfl) (C164 (D := puc 1025 D) (N := puc 1025 N) (HW_subc H oz_J1cls_17 oz_J1cls_12) (pf2) (n2) (en2) (u1_1) ((eu1_1)) (u1_4) ((eu1_4)) (show inr (z15) from gz15) (show inr (v16) from qv16) (show 0 ≤ (u1_1) ∧ (u1_1) ≤ (n2) ∧ (n2) ≤ 65536 from h1) (show 0 ≤ (v16) ∧ (v16) ≤ 31 by omega) (show 0 ≤ (u1_4) ∧ (u1_4) ≤ 7 from h2) (fun σ17 F17ₚ A17ₚ Hₚ Oₚ hS17 hA17 y17_0_1 (ey17_0_1 : HID _) y17_0_4 (ey17_0_4 : HID _) pz17_0 pz17_1 pz17_2 => ⟨rfl, ?_⟩))
  refine v_backc (c := c) (s := s) H oz_J1cls_17 oz_J1cls_12 Hₚ Oₚ (fun F17 A17 H Oₚ eF17 eA17 => ?_)
  have O := OUT_trans O Oₚ
  -- Row.addBits
  have cF17 : SF oz_J1clsl_6 F F17 := SF_trans (SF_refl) (SF_gluc (ι := oz_J1clsl_5) oz_J1cls_12 hS17 eF17 (by decide +kernel)) (any_sub (lₚ := [(1, 1), (1, 2), (1, 3), (1, 4)]) (by decide +kernel))
  have mF17 := SFm_of cF17 oz_J1cls_18
  have cA17 : SA oz_J1clsl_4 A A17 := SA_trans (SA_refl) (SA_gluc (ι := oz_J1clsl_5) oz_J1cls_12 hA17 eA17 (by decide +kernel)) (any_subA (lₚ := [2]) (by decide +kernel))
  have mA17 := SAm_of cA17 oz_J1cls_11
  have r18 : (-2147483648 : Int) ≤ y17_0_1 ∧ y17_0_1 ≤ 2147483647 := rngE (show (-2147483648 : Int) ≤ F17 1 1 ∧ F17 1 1 ≤ 2147483647 from H.krg 1 1 (ltn len_V152_oz_J1cls rfl)) (show F17 1 1 = y17_0_1 from ((eF17 1 1).trans ey17_0_1))
  have r19 : (-2147483648 : Int) ≤ y17_0_4 ∧ y17_0_4 ≤ 2147483647 := rngE (show (-2147483648 : Int) ≤ F17 1 4 ∧ F17 1 4 ≤ 2147483647 from H.krg 1 4 (ltn len_V152_oz_J1cls rfl)) (show F17 1 4 = y17_0_4 from ((eF17 1 4).trans ey17_0_4))
  refine Ew_of (pcₚ := 46) (fun _ => x_aload_n rfl (rk_o (rk_o (rfl) rfl rfl) rfl rfl)) ?_
  refine v_g H (o := 0) (v := .ref (D 1)) rfl rfl rfl rfl rfl (vrf ((mF17 0 8 rfl).trans (pf1))) ?_
  refine Ew_of (pcₚ := 50) (fun _ => x_aload_n rfl (rk_o (rk_o (rfl) rfl rfl) rfl rfl)) ?_
  refine v_g H (o := 0) (v := .ref (D 5)) rfl rfl rfl rfl rfl (vrf ((mF17 0 1 rfl).trans (pf5))) ?_
  refine v_g H (o := 5) (v := .ref (D 7)) rfl rfl rfl rfl rfl (vrf ((mF17 5 2 rfl).trans (pf7))) ?_
  refine Ew_of (pcₚ := 57) (fun _ => x_iload_n rfl (rk_o (rk_o (rfl) rfl rfl) rfl rfl)) ?_
  refine v_lI H (o := 7) rfl rfl rfl rfl (n := n7) (en7) (show 0 ≤ a1 ∧ a1 < n7 from q_3895 h4) (fun v20 ev20 qv20 => ?_)
  have ev20 : (A 7) (a1) = v20 := (congrFun (funext (mA17 7 rfl)) (a1)).symm.trans ev20
  refine Ew_of (pcₚ := 61) (fun _ => x_getstatic rfl) ?_
  refine Ew_of (pcₚ := 62) (fun _ => x_iload_n rfl rk_s) ?_
  refine v_stI (STC_out HT HE O) (b := 9) (n := 53) rfl rfl rfl rfl (show 0 ≤ v12 ∧ v12 < 53 from q_3896 ev12 h10) (fun v21 ev21 qv21 => ?_)
  refine w_isubA rfl (fun z22 gz22 => ?_)
  refine Ew_of (pcₚ := 67) (fun _ => x_getstatic rfl) ?_
  refine Ew_of (pcₚ := 68) (fun _ => x_iload_n rfl rk_s) ?_
  refine v_stI (STC_out HT HE O) (b := 10) (n := 53) rfl rfl rfl rfl (show 0 ≤ v12 ∧ v12 < 53 from q_3896 ev12 h10) (fun v23 ev23 qv23 => ?_)
  have hstb := stl_in 10 0 16 (by decide) (by rw [show (stl 10).length = 53 from rfl]; omega) ev23
  refine v_inv H (o := 1) rfl rfl rfl rfl rfl rfl (by rfl) (C164 (D := puc 1025 D) (N := puc 1025 N) (HW_subc H oz_J1cls_17 oz_J1cls_12) ((mF17 1 0 rfl).trans (pf2)) (n2) (en2) (y17_0_1) (((eF17 1 1).trans ey17_0_1)) (y17_0_4) (((eF17 1 4).trans ey17_0_4)) (show inr (z22) from gz22) (show inr (v23) from qv23) (show 0 ≤ (y17_0_1) ∧ (y17_0_1) ≤ (n2) ∧ (n2) ≤ 65536 from pz17_0) (show 0 ≤ (v23) ∧ (v23) ≤ 31 by omega) (show 0 ≤ (y17_0_4) ∧ (y17_0_4) ≤ 7 from pz17_2) (fun σ24 F24ₚ A24ₚ Hₚ Oₚ hS24 hA24 y24_0_1 (ey24_0_1 : HID _) y24_0_4 (ey24_0_4 : HID _) pz24_0 pz24_1 pz24_2 => ⟨rfl, ?_⟩))
  refine v_backc (c := c) (s := s) H oz_J1cls_17 oz_J1cls_12 Hₚ Oₚ (fun F24 A24 H Oₚ eF24 eA24 => ?_)
  have O := OUT_trans O Oₚ
  -- Row.addBits
  have cF24 : SF oz_J1clsl_6 F F24 := SF_trans (cF17) (SF_gluc (ι := oz_J1clsl_5) oz_J1cls_12 hS24 eF24 (by decide +kernel)) (any_sub (lₚ := [(1, 1), (1, 2), (1, 3), (1, 4)]) (by decide +kernel))
  have mF24 := SFm_of cF24 oz_J1cls_18
  have cA24 : SA oz_J1clsl_4 A A24 := SA_trans (cA17) (SA_gluc (ι := oz_J1clsl_5) oz_J1cls_12 hA24 eA24 (by decide +kernel)) (any_subA (lₚ := [2]) (by decide +kernel))
  have mA24 := SAm_of cA24 oz_J1cls_11
  have r25 : (-2147483648 : Int) ≤ y24_0_1 ∧ y24_0_1 ≤ 2147483647 := rngE (show (-2147483648 : Int) ≤ F24 1 1 ∧ F24 1 1 ≤ 2147483647 from H.krg 1 1 (ltn len_V152_oz_J1cls rfl)) (show F24 1 1 = y24_0_1 from ((eF24 1 1).trans ey24_0_1))
  have r26 : (-2147483648 : Int) ≤ y24_0_4 ∧ y24_0_4 ≤ 2147483647 := rngE (show (-2147483648 : Int) ≤ F24 1 4 ∧ F24 1 4 ≤ 2147483647 from H.krg 1 4 (ltn len_V152_oz_J1cls rfl)) (show F24 1 4 = y24_0_4 from ((eF24 1 4).trans ey24_0_4))
  refine Ew_of (pcₚ := 73) (fun _ => x_aload_n rfl (rk_o (rk_o (rfl) rfl rfl) rfl rfl)) ?_
  refine v_g H (o := 0) (v := .ref (D 1)) rfl rfl rfl rfl rfl (vrf ((mF24 0 8 rfl).trans (pf1))) ?_
  refine Ew_of (pcₚ := 77) (fun _ => x_aload_n rfl (rk_o (rk_o (rfl) rfl rfl) rfl rfl)) ?_
  refine v_g H (o := 0) (v := .ref (D 4)) rfl rfl rfl rfl rfl (vrf ((mF24 0 14 rfl).trans (pf4))) ?_
  refine Ew_of (pcₚ := 81) (fun _ => x_iload_n rfl (rk_o (rk_o (rfl) rfl rfl) rfl rfl)) ?_
  refine v_lI H (o := 4) rfl rfl rfl rfl (n := n4) (en4) (show 0 ≤ a1 ∧ a1 < n4 from q_3897 h4) (fun v27 ev27 qv27 => ?_)
  have ev27 : (A 4) (a1) = v27 := (congrFun (funext (mA24 4 rfl)) (a1)).symm.trans ev27
  refine Ew_of (pcₚ := 83) (fun _ => x_aload_n rfl (rk_o (rk_o (rfl) rfl rfl) rfl rfl)) ?_
  refine v_g H (o := 0) (v := .ref (D 3)) rfl rfl rfl rfl rfl (vrf ((mF24 0 13 rfl).trans (pf3))) ?_
  refine Ew_of (pcₚ := 87) (fun _ => x_iconst rfl) ?_
  refine v_lR H (o := 3) rfl rfl rfl rfl rfl (n := n3) (en3) (show 0 ≤ 1 ∧ 1 < n3 from q_2747 h3 r4) (z := ((D 9 : Nat) : Int)) (v := .ref (D 9)) ((mA24 3 rfl 1).trans (pf9)) (vrf rfl) ?_
  refine Ew_of (pcₚ := 89) (fun _ => x_iload_n rfl (rk_o (rk_o (rfl) rfl rfl) rfl rfl)) ?_
  refine v_lI H (o := 9) rfl rfl rfl rfl (n := n9) (en9) (show 0 ≤ a1 ∧ a1 < n9 from q_3892 h4 h6) (fun v28 ev28 qv28 => ?_)
  have ev28 : (w9) (a1) = v28 := (congrFun ((funext (mA24 9 rfl)).trans (ew9)) (a1)).symm.trans ev28
  refine v_inv H (o := 1) rfl rfl rfl rfl rfl rfl (by rfl) (C164 (D := puc 1025 D) (N := puc 1025 N) (HW_subc H oz_J1cls_17 oz_J1cls_12) ((mF24 1 0 rfl).trans (pf2)) (n2) (en2) (y24_0_1) (((eF24 1 1).trans ey24_0_1)) (y24_0_4) (((eF24 1 4).trans ey24_0_4)) (show inr (v27) from qv27) (show inr (v28) from qv28) (show 0 ≤ (y24_0_1) ∧ (y24_0_1) ≤ (n2) ∧ (n2) ≤ 65536 from pz24_0) (show 0 ≤ (v28) ∧ (v28) ≤ 31 from q_3898 ev28 h9) (show 0 ≤ (y24_0_4) ∧ (y24_0_4) ≤ 7 from pz24_2) (fun σ29 F29ₚ A29ₚ Hₚ Oₚ hS29 hA29 y29_0_1 (ey29_0_1 : HID _) y29_0_4 (ey29_0_4 : HID _) pz29_0 pz29_1 pz29_2 => ⟨rfl, ?_⟩))
  refine v_backc (c := c) (s := s) H oz_J1cls_17 oz_J1cls_12 Hₚ Oₚ (fun F29 A29 H Oₚ eF29 eA29 => ?_)
  have O := OUT_trans O Oₚ
  -- Row.addBits
  have cF29 : SF oz_J1clsl_6 F F29 := SF_trans (cF24) (SF_gluc (ι := oz_J1clsl_5) oz_J1cls_12 hS29 eF29 (by decide +kernel)) (any_sub (lₚ := [(1, 1), (1, 2), (1, 3), (1, 4)]) (by decide +kernel))
  have mF29 := SFm_of cF29 oz_J1cls_18
  have cA29 : SA oz_J1clsl_4 A A29 := SA_trans (cA24) (SA_gluc (ι := oz_J1clsl_5) oz_J1cls_12 hA29 eA29 (by decide +kernel)) (any_subA (lₚ := [2]) (by decide +kernel))
  have mA29 := SAm_of cA29 oz_J1cls_11
  have r30 : (-2147483648 : Int) ≤ y29_0_1 ∧ y29_0_1 ≤ 2147483647 := rngE (show (-2147483648 : Int) ≤ F29 1 1 ∧ F29 1 1 ≤ 2147483647 from H.krg 1 1 (ltn len_V152_oz_J1cls rfl)) (show F29 1 1 = y29_0_1 from ((eF29 1 1).trans ey29_0_1))
  have r31 : (-2147483648 : Int) ≤ y29_0_4 ∧ y29_0_4 ≤ 2147483647 := rngE (show (-2147483648 : Int) ≤ F29 1 4 ∧ F29 1 4 ≤ 2147483647 from H.krg 1 4 (ltn len_V152_oz_J1cls rfl)) (show F29 1 4 = y29_0_4 from ((eF29 1 4).trans ey29_0_4))
  exact w_ret rfl (k _ _ _ H O (cF29) (cA29) (y29_0_1) (((eF29 1 1).trans ey29_0_1)) (y29_0_4) (((eF29 1 4).trans ey29_0_4)) (show 0 ≤ (y29_0_1) ∧ (y29_0_1) ≤ (n2) ∧ (n2) ≤ 65536 from pz29_0) (show 0 ≤ (y29_0_4) ∧ (y29_0_4) ≤ 7 from pz29_2) (show (u1_1) ≤ (y29_0_1) from q_3899 pz17_1 pz24_1 pz29_1))
abbrev V137 : vV := [(0, 6, [(4, 0), (4, 0), (4, 0), (4, 0), (4, 0), (4, 0), (4, 0), (4, 0), (4, 0), (4, 0), (4, 0), (4, 0), (4, 0), (4, 0), (4, 0), (0, 0), (0, 0), (4, 0), (4, 0)]), (1, 1, []), (1, 1, []), (0, 5, [(4, 0), (4, 0), (4, 0), (4, 0), (0, 0), (0, 0), (0, 0), (4, 0), (4, 0), (0, 0), (0, 0), (0, 0), (0, 0), (0, 0), (0, 0), (0, 0), (0, 0), (0, 0), (0, 0)])]
theorem len_V137_oz_J1cls : (V137).length = 4 := by decide +kernel
def oz_J1clsl_7 : List Nat := [1]
theorem oz_J1cls_20 : (oz_J1clsl_7).all (fun p => !tbz 2 p) = true := by decide +kernel
/-- Packer.countPacked: this, this.counts, this.modes, this.finder -/
theorem C137 {σE : rS} {D N : Nat → Nat} {F : hF} {A : hA} {d c s : Nat} {Q : wQ} (H : HW V137 σE D N F A)  (pf1 : HID (F 0 18 = (D 1 : Int))) (pf2 : HID (F 0 17 = (D 2 : Int))) (pf3 : HID (F 0 1 = (D 3 : Int))) (n1 : Int) (en1 : HID ((N 1 : Int) = n1)) (n2 : Int) (en2 : HID ((N 2 : Int) = n2)) (u0_16 : Int) (eu0_16 : HID (F 0 16 = u0_16)) (w2 : Int → Int) (ew2 : A 2 = w2) (h0 : (n1) = 13 ∧ (n2) = 3) (h1 : 0 ≤ (u0_16) ∧ (u0_16) ≤ 3) (h2 : M03 ((w2))) (k : ∀ (σ : rS) (Fₚ : hF) (Aₚ : hA), HW V137 σ D N Fₚ Aₚ → OUT (V137).length D N σE c s D N σ c s → SF [] F Fₚ → SA [1] A Aₚ → Q none σ c s) : Ew 137 (d + 0) 0 (rargs 0 [.ref (D 0)]) [] σE c s Q := by
  have O := OUT_refl (n := (V137).length) (D := D) (N := N) (σ := σE) (c := c) (s := s)
  have HE := H
  have r1 : (-2147483648 : Int) ≤ u0_16 ∧ u0_16 ≤ 2147483647 := rngE (show (-2147483648 : Int) ≤ F 0 16 ∧ F 0 16 ≤ 2147483647 from H.krg 0 16 (ltn len_V137_oz_J1cls rfl)) (show F 0 16 = u0_16 from (eu0_16))
  have r2 : (0 : Int) ≤ n1 ∧ n1 ≤ 1000000 := nleE (H.nle 1 (ltn len_V137_oz_J1cls rfl)) (show (N 1 : Int) = n1 from en1)
  have r3 : (0 : Int) ≤ n2 ∧ n2 ≤ 1000000 := nleE (H.nle 2 (ltn len_V137_oz_J1cls rfl)) (show (N 2 : Int) = n2 from en2)
  have hmo : M03 ((w2)) := h2
  refine Ew_of (pcₚ := 1) (fun _ => x_aload_n rfl rfl) ?_
  refine v_g H (o := 0) (v := .ref (D 1)) rfl rfl rfl rfl rfl (vrf (pf1)) ?_
  refine Ew_of (pcₚ := 5) (fun _ => x_iconst rfl) ?_
  refine Ew_of (pcₚ := 6) (fun _ => x_dup2 rfl rfl rfl) ?_
  refine v_lI H (o := 1) rfl rfl rfl rfl (n := n1) (en1) (show 0 ≤ 3 ∧ 3 < n1 from q_3900 h0 r2) (fun v4 ev4 qv4 => ?_)
  have ev4 : (A 1) (3) = v4 := (congrFun (rfl : A 1 = A 1) (3)).symm.trans ev4
  refine Ew_of (pcₚ := 8) (fun _ => x_iconst rfl) ?_
  refine w_iaddA rfl (fun z5 gz5 => ?_)
  refine v_sI H (o := 1) (z := z5) rfl rfl rfl rfl (n := n1) (en1) (show 0 ≤ 3 ∧ 3 < n1 from q_3900 h0 r2) (show inr (z5) from gz5) (fun σ H Oₚ => ?_)
  have O := OUT_trans O Oₚ
  have cAu6 : SA oz_J1clsl_7 A (updA A 1 (3) (z5)) := SA_upd (SA_refl) rfl
  have mAu6 := SAm_of cAu6 oz_J1cls_20
  refine Ew_of (pcₚ := 11) (fun _ => x_aload_n rfl rfl) ?_
  refine v_g H (o := 0) (v := .ref (D 1)) rfl rfl rfl rfl rfl (vrf (pf1)) ?_
  refine Ew_of (pcₚ := 15) (fun _ => x_iconst rfl) ?_
  refine Ew_of (pcₚ := 16) (fun _ => x_dup2 rfl rfl rfl) ?_
  refine v_lI H (o := 1) rfl rfl rfl rfl (n := n1) (en1) (show 0 ≤ 4 ∧ 4 < n1 from q_3901 h0 r2) (fun v7 ev7 qv7 => ?_)
  have ev7 : (upd1 (A 1) (3) (z5)) (4) = v7 := (congrFun (rfl : (updA A 1 (3) (z5)) 1 = upd1 (A 1) (3) (z5)) (4)).symm.trans ev7
  refine Ew_of (pcₚ := 18) (fun _ => x_aload_n rfl rfl) ?_
  refine v_g H (o := 0) (v := .ref (D 3)) rfl rfl rfl rfl rfl (vrf (pf3)) ?_
  have r8 : (-2147483648 : Int) ≤ F 3 4 ∧ F 3 4 ≤ 2147483647 := H.krg 3 4 (ltn len_V137_oz_J1cls rfl)
  refine v_g H (o := 3) (v := I (F 3 4)) rfl rfl rfl rfl rfl (congrArg (fun z : Int => I z) (rfl : F 3 4 = F 3 4)) ?_
  refine w_iaddA rfl (fun z9 gz9 => ?_)
  refine v_sI H (o := 1) (z := z9) rfl rfl rfl rfl (n := n1) (en1) (show 0 ≤ 4 ∧ 4 < n1 from q_3901 h0 r2) (show inr (z9) from gz9) (fun σ H Oₚ => ?_)
  have O := OUT_trans O Oₚ
  have cAu10 : SA oz_J1clsl_7 A (updA (updA A 1 (3) (z5)) 1 (4) (z9)) := SA_upd (cAu6) rfl
  have mAu10 := SAm_of cAu10 oz_J1cls_20
  refine Ew_of (pcₚ := 27) (fun _ => x_aload_n rfl rfl) ?_
  refine v_g H (o := 0) (v := .ref (D 1)) rfl rfl rfl rfl rfl (vrf (pf1)) ?_
  refine Ew_of (pcₚ := 31) (fun _ => x_iconst rfl) ?_
  refine Ew_of (pcₚ := 32) (fun _ => x_aload_n rfl rfl) ?_
  refine v_g H (o := 0) (v := I (u0_16)) rfl rfl rfl rfl rfl (congrArg (fun z : Int => I z) ((eu0_16) : F 0 16 = u0_16)) ?_
  refine w_iadd rfl ?_
  refine Ew_of (pcₚ := 37) (fun _ => x_dup2 rfl rfl rfl) ?_
  refine v_lI H (o := 1) rfl rfl rfl rfl (n := n1) (en1) (show 0 ≤ (5 + u0_16) ∧ (5 + u0_16) < n1 from q_3902 h0 h1 r2) (fun v11 ev11 qv11 => ?_)
  have ev11 : (upd1 (upd1 (A 1) (3) (z5)) (4) (z9)) ((5 + u0_16)) = v11 := (congrFun (rfl : (updA (updA A 1 (3) (z5)) 1 (4) (z9)) 1 = upd1 (upd1 (A 1) (3) (z5)) (4) (z9)) ((5 + u0_16))).symm.trans ev11
  refine Ew_of (pcₚ := 39) (fun _ => x_iconst rfl) ?_
  refine w_iaddA rfl (fun z12 gz12 => ?_)
  refine v_sI H (o := 1) (z := z12) rfl rfl rfl rfl (n := n1) (en1) (show 0 ≤ (5 + u0_16) ∧ (5 + u0_16) < n1 from q_3902 h0 h1 r2) (show inr (z12) from gz12) (fun σ H Oₚ => ?_)
  have O := OUT_trans O Oₚ
  have cAu13 : SA oz_J1clsl_7 A (updA (updA (updA A 1 (3) (z5)) 1 (4) (z9)) 1 ((5 + u0_16)) (z12)) := SA_upd (cAu10) rfl
  have mAu13 := SAm_of cAu13 oz_J1cls_20
  refine Ew_of (pcₚ := 42) (fun _ => x_iconst rfl) ?_
  refine Ew_of (pcₚ := 43) (fun _ => x_istore_n rfl) ?_
  suffices hl43 : ∀ (m : Nat), ∀ (ls : rO) (σ : rS) (F_43 : hF) (A_43 : hA) (x43_1 : Int), rlook ls 0 = some (.ref (D 0)) → rlook ls 1 = some (I (x43_1)) → HW V137 σ D N F_43 A_43 → OUT (V137).length D N σE c s D N σ c s → SF [] F F_43 → SA [1] (updA (updA (updA A 1 (3) (z5)) 1 (4) (z9)) 1 ((5 + u0_16)) (z12)) A_43 → (inr (x43_1)) → ((0) ≤ (x43_1)) → ((x43_1) ≤ (0) ∨ (x43_1) ≤ (3)) → ((3) - (x43_1)).toNat = m → Ew 137 (d + 0) 43 ls [] σ c s Q from
    hl43 _ _ _ _ _ (0) (rk_o (rfl) rfl rfl) (rk_s) H O (SF_refl) (SA_refl)     (show inr (0) from q_20) (show (0) ≤ (0) from q_25) (show (0) ≤ (0) ∨ (0) ≤ (3) from q_1534) rfl
  as_aux_lemma =>
  intro m
  induction m using Nat.strongRecOn with
  | _ m ih43 =>
    intro ls σ F_43 A_43 x43_1 l43_0 l43_1 H O hS_43 hA_43     j43_0 j43_1 j43_2 hm43
    have cF_43 : SF oz_J1clsl_0 F F_43 := SF_trans (SF_refl) hS_43 (any_sub (by decide +kernel))
    have mF_43 := SFm_of cF_43 oz_J1cls_3
    have cA_43 : SA oz_J1clsl_7 A A_43 := SA_trans (cAu13) hA_43 (any_subA (by decide +kernel))
    have mA_43 := SAm_of cA_43 oz_J1cls_20
    refine Ew_of (pcₚ := 44) (fun _ => x_iload_n rfl l43_1) ?_
    refine Ew_of (pcₚ := 45) (fun _ => x_iconst rfl) ?_
    refine w_icmpge (t := 82) rfl rfl (show inr (x43_1) from j43_0) (show inr (3) from q_66) (fun b14 => ?_) (fun b14 => ?_)
    · exact w_ret rfl (k _ _ _ H O (cF_43) (cA_43))
    · refine Ew_of (pcₚ := 49) (fun _ => x_aload_n rfl l43_0) ?_
      refine v_g H (o := 0) (v := .ref (D 3)) rfl rfl rfl rfl rfl (vrf ((mF_43 0 1 rfl).trans (pf3))) ?_
      refine v_g H (o := 3) (v := I (F 3 4)) rfl rfl rfl rfl rfl (congrArg (fun z : Int => I z) ((mF_43 3 4 rfl) : F_43 3 4 = F 3 4)) ?_
      refine w_ifle (t := 82) rfl rfl (show inr (F 3 4) from q_22 r8) (fun b15 => ?_) (fun b15 => ?_)
      · exact w_ret rfl (k _ _ _ H O (cF_43) (cA_43))
      · refine Ew_of (pcₚ := 59) (fun _ => x_aload_n rfl l43_0) ?_
        refine v_g H (o := 0) (v := .ref (D 1)) rfl rfl rfl rfl rfl (vrf ((mF_43 0 18 rfl).trans (pf1))) ?_
        refine Ew_of (pcₚ := 64) (fun _ => x_bipush (z := 9) rfl (by decide)) ?_
        refine Ew_of (pcₚ := 65) (fun _ => x_aload_n rfl l43_0) ?_
        refine v_g H (o := 0) (v := .ref (D 2)) rfl rfl rfl rfl rfl (vrf ((mF_43 0 17 rfl).trans (pf2))) ?_
        refine Ew_of (pcₚ := 69) (fun _ => x_iload_n rfl l43_1) ?_
        refine v_lI H (o := 2) rfl rfl rfl rfl (n := n2) (en2) (show 0 ≤ x43_1 ∧ x43_1 < n2 from q_3903 b14 h0 j43_1) (fun v16 ev16 qv16 => ?_)
        have ev16 : (w2) (x43_1) = v16 := (congrFun ((funext (mA_43 2 rfl)).trans (ew2)) (x43_1)).symm.trans ev16
        have hmv := hmo ((x43_1)) (by omega) (by omega)
        rw [ev16] at hmv
        refine w_iadd rfl ?_
        refine Ew_of (pcₚ := 72) (fun _ => x_dup2 rfl rfl rfl) ?_
        refine v_lI H (o := 1) rfl rfl rfl rfl (n := n1) (en1) (show 0 ≤ (9 + v16) ∧ (9 + v16) < n1 by omega) (fun v17 ev17 qv17 => ?_)
        have ev17 : (A_43 1) ((9 + v16)) = v17 := (congrFun (rfl : A_43 1 = A_43 1) ((9 + v16))).symm.trans ev17
        refine Ew_of (pcₚ := 74) (fun _ => x_iconst rfl) ?_
        refine w_iaddA rfl (fun z18 gz18 => ?_)
        refine v_sI H (o := 1) (z := z18) rfl rfl rfl rfl (n := n1) (en1) (show 0 ≤ (9 + v16) ∧ (9 + v16) < n1 by omega) (show inr (z18) from gz18) (fun σ H Oₚ => ?_)
        have O := OUT_trans O Oₚ
        have cAu19 : SA oz_J1clsl_7 A (updA A_43 1 ((9 + v16)) (z18)) := SA_upd (cA_43) rfl
        have mAu19 := SAm_of cAu19 oz_J1cls_20
        refine Ew_of (pcₚ := 79) (fun _ => x_iinc (len := 3) rfl (l43_1)) ?_
        refine Ew_of (pcₚ := 43) (fun _ => x_goto rfl rfl) ?_
        exact ih43 _ (msE hm43 q_595 (q_596 b14)) _ _ _ _ ((x43_1 + 1)) (rk_o (l43_0) rfl rfl) (rk_s) H O (hS_43) (SA_upd (hA_43) rfl)     (show inr ((x43_1 + 1)) from q_1542 b14 j43_1) (show (0) ≤ ((x43_1 + 1)) from q_29 j43_1) (show ((x43_1 + 1)) ≤ (0) ∨ ((x43_1 + 1)) ≤ (3) from q_1541 b14) rfl
abbrev V141_Codes : vV := [(0, 6, [(4, 0), (4, 0), (4, 0), (4, 0), (4, 0), (4, 0), (4, 0), (4, 0), (4, 0), (4, 0), (4, 0), (4, 0), (4, 0), (4, 0), (4, 0), (0, 0), (0, 0), (4, 0), (4, 0)]), (0, 3, [(4, 0), (4, 0), (4, 0), (0, 0), (4, 0), (4, 0), (4, 0), (4, 0), (4, 0), (4, 0), (4, 0), (4, 0), (4, 0), (0, 0), (0, 0), (0, 0), (0, 0)]), (0, 7, [(4, 0), (0, 0), (1, 0), (0, 0), (0, 0)]), (1, 0, []), (1, 1, [])]
theorem len_V141_Codes_oz_J1cls : (V141_Codes).length = 5 := by decide +kernel
theorem oz_J1cls_22 : vsub V141_Codes V112_Br [1, 3, 4] = true := by decide +kernel
def oz_J1clsl_8 : List Nat := [1, 3, 4]
theorem oz_J1cls_23 : okc oz_J1clsl_8 1050113 = true := by decide +kernel
set_option maxHeartbeats 16000000 in
/-- Packer.codedSize: this, #1, this.literals, this.literals.bytes, #1.lengths -/
theorem C141_Codes {σE : rS} {D N : Nat → Nat} {F : hF} {A : hA} {d c s : Nat} {Q : wQ} (H : HW V141_Codes σE D N F A) {a2 : Int} (pf2 : HID (F 0 9 = (D 2 : Int))) (pf3 : HID (F 2 0 = (D 3 : Int))) (pf4 : HID (F 1 0 = (D 4 : Int))) (n3 : Int) (en3 : HID ((N 3 : Int) = n3)) (n4 : Int) (en4 : HID ((N 4 : Int) = n4)) (u1_3 : Int) (eu1_3 : HID (F 1 3 = u1_3)) (u2_1 : Int) (eu2_1 : HID (F 2 1 = u2_1)) (w4 : Int → Int) (ew4 : A 4 = w4) (h0 : inr (a2)) (h1 : 0 ≤ (u2_1) ∧ (u2_1) ≤ (n3) ∧ (n3) ≤ 65536) (h2 : 0 ≤ (a2) ∧ (a2) ≤ 65536) (h3 : 0 ≤ (u1_3) ∧ (u1_3) ≤ 11) (h4 : LNG ((w4)) ((u1_3))) (h5 : (n4) = 256) (k : ∀ (z : Int) (σ : rS) (Fₚ : hF) (Aₚ : hA), HW V141_Codes σ D N Fₚ Aₚ → OUT (V141_Codes).length D N σE c s D N σ c s → SF [] F Fₚ → SA [] A Aₚ → (inr (z)) → (0 ≤ (z) ∧ (z) ≤ 1000000) → Q (some (I z)) σ c s) : Ew 141 (d + 1) 0 (rargs 0 [.ref (D 0), .ref (D 1), I a2]) [] σE c s Q := by
  have O := OUT_refl (n := (V141_Codes).length) (D := D) (N := N) (σ := σE) (c := c) (s := s)
  have HE := H
  have r1 : (-2147483648 : Int) ≤ u1_3 ∧ u1_3 ≤ 2147483647 := rngE (show (-2147483648 : Int) ≤ F 1 3 ∧ F 1 3 ≤ 2147483647 from H.krg 1 3 (ltn len_V141_Codes_oz_J1cls rfl)) (show F 1 3 = u1_3 from (eu1_3))
  have r2 : (-2147483648 : Int) ≤ u2_1 ∧ u2_1 ≤ 2147483647 := rngE (show (-2147483648 : Int) ≤ F 2 1 ∧ F 2 1 ≤ 2147483647 from H.krg 2 1 (ltn len_V141_Codes_oz_J1cls rfl)) (show F 2 1 = u2_1 from (eu2_1))
  have r3 : (0 : Int) ≤ n3 ∧ n3 ≤ 1000000 := nleE (H.nle 3 (ltn len_V141_Codes_oz_J1cls rfl)) (show (N 3 : Int) = n3 from en3)
  have r4 : (0 : Int) ≤ n4 ∧ n4 ≤ 1000000 := nleE (H.nle 4 (ltn len_V141_Codes_oz_J1cls rfl)) (show (N 4 : Int) = n4 from en4)
  refine Ew_of (pcₚ := 1) (fun _ => x_aload_n rfl rfl) ?_
  refine v_g H (o := 0) (v := .ref (D 2)) rfl rfl rfl rfl rfl (vrf (pf2)) ?_
  refine v_g H (o := 2) (v := I (u2_1)) rfl rfl rfl rfl rfl (congrArg (fun z : Int => I z) ((eu2_1) : F 2 1 = u2_1)) ?_
  refine Ew_of (pcₚ := 8) (fun _ => x_istore_n rfl) ?_
  refine Ew_of (pcₚ := 9) (fun _ => x_iload_n rfl rk_s) ?_
  refine Ew_of (pcₚ := 12) (fun _ => x_sipush (z := 1024) rfl (by decide)) ?_
  have hc20 : ∀ (tc20_0 : Int), ∀ (ls : rO) (σ : rS) (F_c20 : hF) (A_c20 : hA) , rlook ls 0 = some (.ref (D 0)) → rlook ls 1 = some (.ref (D 1)) → rlook ls 2 = some (I (a2)) → rlook ls 3 = some (I (u2_1)) → HW V141_Codes σ D N F_c20 A_c20 → OUT (V141_Codes).length D N σE c s D N σ c s → SF [] F F_c20 → SA [] A A_c20 → (inr (tc20_0)) → (((u2_1) ≥ (1024) ∧ (tc20_0) = (4)) ∨ ((u2_1) < (1024) ∧ (tc20_0) = (1))) → Ew 141 (d + 1) 20 ls [I (tc20_0)] σ c s Q := by
   as_aux_lemma =>
    intro tc20_0 ls σ F_c20 A_c20  lc20_0 lc20_1 lc20_2 lc20_3 H O hS_c20 hA_c20     jc20_0 jc20_1
    have cF_c20 : SF oz_J1clsl_0 F F_c20 := SF_trans (SF_refl) hS_c20 (any_sub (by decide +kernel))
    have mF_c20 := SFm_of cF_c20 oz_J1cls_3
    have cA_c20 : SA oz_J1clsl_1 A A_c20 := SA_trans (SA_refl) hA_c20 (any_subA (by decide +kernel))
    have mA_c20 := SAm_of cA_c20 oz_J1cls_4
    refine Ew_of (pcₚ := 22) (fun _ => x_istore rfl) ?_
    refine Ew_of (pcₚ := 23) (fun _ => x_iload_n rfl (rk_o (lc20_3) rfl rfl)) ?_
    refine Ew_of (pcₚ := 25) (fun _ => x_iload rfl rk_s) ?_
    refine w_iadd rfl ?_
    refine Ew_of (pcₚ := 27) (fun _ => x_iconst rfl) ?_
    refine w_isub rfl ?_
    refine Ew_of (pcₚ := 30) (fun _ => x_iload rfl rk_s) ?_
    refine w_idiv rfl (show inr (((u2_1 + tc20_0) - 1)) ∧ 0 ≤ ((u2_1 + tc20_0) - 1) from q_3905 h1 jc20_1) (show inr (tc20_0) ∧ 0 < tc20_0 from q_3904 jc20_0 jc20_1) ?_
    have hea : 0 ≤ (((((u2_1 + tc20_0) - 1) / tc20_0)) : Int) ∧ (((((u2_1 + tc20_0) - 1) / tc20_0)) : Int) ≤ 65536 := by rcases (show ((tc20_0) : Int) = 1 ∨ ((tc20_0) : Int) = 4 by omega) with q | q <;> rw [q] <;> omega
    refine Ew_of (pcₚ := 33) (fun _ => x_istore rfl) ?_
    refine Ew_of (pcₚ := 34) (fun _ => x_iload_n rfl (rk_o (rk_o (lc20_2) rfl rfl) rfl rfl)) ?_
    refine Ew_of (pcₚ := 36) (fun _ => x_iload rfl (rk_o (rk_s) rfl rfl)) ?_
    refine Ew_of (pcₚ := 37) (fun _ => x_iconst rfl) ?_
    have hc46 : ∀ (tc46_0 : Int), ∀ (ls : rO) (σ : rS) (F_c46 : hF) (A_c46 : hA) , rlook ls 0 = some (.ref (D 0)) → rlook ls 1 = some (.ref (D 1)) → rlook ls 3 = some (I (u2_1)) → rlook ls 4 = some (I (tc20_0)) → rlook ls 5 = some (I ((((u2_1 + tc20_0) - 1) / tc20_0))) → HW V141_Codes σ D N F_c46 A_c46 → OUT (V141_Codes).length D N σE c s D N σ c s → SF [] F_c20 F_c46 → SA [] A_c20 A_c46 → (inr (tc46_0)) → (((tc20_0) ≠ (4) ∧ (tc46_0) = (0)) ∨ ((tc20_0) = (4) ∧ (tc46_0) = (6))) → Ew 141 (d + 1) 46 ls [I (tc46_0), I (a2)] σ c s Q := by
     as_aux_lemma =>
      intro tc46_0 ls σ F_c46 A_c46  lc46_0 lc46_1 lc46_3 lc46_4 lc46_5 H O hS_c46 hA_c46     jc46_0 jc46_1
      have cF_c46 : SF oz_J1clsl_0 F F_c46 := SF_trans (cF_c20) hS_c46 (any_sub (by decide +kernel))
      have mF_c46 := SFm_of cF_c46 oz_J1cls_3
      have cA_c46 : SA oz_J1clsl_1 A A_c46 := SA_trans (cA_c20) hA_c46 (any_subA (by decide +kernel))
      have mA_c46 := SAm_of cA_c46 oz_J1cls_4
      refine w_iadd rfl ?_
      refine Ew_of (pcₚ := 49) (fun _ => x_istore rfl) ?_
      refine Ew_of (pcₚ := 50) (fun _ => x_iconst rfl) ?_
      refine Ew_of (pcₚ := 52) (fun _ => x_istore rfl) ?_
      suffices hl52 : ∀ (m : Nat), ∀ (ls : rO) (σ : rS) (F_52 : hF) (A_52 : hA) (x52_6 : Int) (x52_7 : Int), rlook ls 0 = some (.ref (D 0)) → rlook ls 1 = some (.ref (D 1)) → rlook ls 3 = some (I (u2_1)) → rlook ls 4 = some (I (tc20_0)) → rlook ls 5 = some (I ((((u2_1 + tc20_0) - 1) / tc20_0))) → rlook ls 6 = some (I (x52_6)) → rlook ls 7 = some (I (x52_7)) → HW V141_Codes σ D N F_52 A_52 → OUT (V141_Codes).length D N σE c s D N σ c s → SF [] F_c46 F_52 → SA [] A_c46 A_52 → (inr (x52_6)) → (inr (x52_7)) → ((0) ≤ (x52_7)) → ((x52_7) ≤ (0) ∨ (x52_7) ≤ ((tc20_0))) → (0 ≤ (x52_6) ∧ (x52_6) ≤ 65542 + 100000 * (x52_7)) → (((tc20_0)) - (x52_7)).toNat = m → Ew 141 (d + 1) 52 ls [] σ c s Q from
        hl52 _ _ _ _ _ ((a2 + tc46_0)) (0) (rk_o (rk_o (lc46_0) rfl rfl) rfl rfl) (rk_o (rk_o (lc46_1) rfl rfl) rfl rfl) (rk_o (rk_o (lc46_3) rfl rfl) rfl rfl) (rk_o (rk_o (lc46_4) rfl rfl) rfl rfl) (rk_o (rk_o (lc46_5) rfl rfl) rfl rfl) (rk_o (rk_s) rfl rfl) (rk_s) H O (SF_refl) (SA_refl)     (show inr ((a2 + tc46_0)) from q_3907 h2 jc46_0 jc46_1) (show inr (0) from q_20) (show (0) ≤ (0) from q_25) (show (0) ≤ (0) ∨ (0) ≤ ((tc20_0)) from q_24) (show 0 ≤ ((a2 + tc46_0)) ∧ ((a2 + tc46_0)) ≤ 65542 + 100000 * (0) from q_3906 h2 jc46_1) rfl
      as_aux_lemma =>
      intro m
      induction m using Nat.strongRecOn with
      | _ m ih52 =>
        intro ls σ F_52 A_52 x52_6 x52_7 l52_0 l52_1 l52_3 l52_4 l52_5 l52_6 l52_7 H O hS_52 hA_52     j52_0 j52_1 j52_2 j52_3 j52_4 hm52
        have cF_52 : SF oz_J1clsl_0 F F_52 := SF_trans (cF_c46) hS_52 (any_sub (by decide +kernel))
        have mF_52 := SFm_of cF_52 oz_J1cls_3
        have cA_52 : SA oz_J1clsl_1 A A_52 := SA_trans (cA_c46) hA_52 (any_subA (by decide +kernel))
        have mA_52 := SAm_of cA_52 oz_J1cls_4
        refine Ew_of (pcₚ := 54) (fun _ => x_iload rfl l52_7) ?_
        refine Ew_of (pcₚ := 56) (fun _ => x_iload rfl l52_4) ?_
        refine w_icmpge (t := 108) rfl rfl (show inr (x52_7) from j52_1) (show inr (tc20_0) from jc20_0) (fun b5 => ?_) (fun b5 => ?_)
        · refine Ew_of (pcₚ := 110) (fun _ => x_iload rfl l52_4) ?_
          refine Ew_of (pcₚ := 111) (fun _ => x_iconst rfl) ?_
          refine w_icmpne (t := 131) rfl rfl (show inr (tc20_0) from jc20_0) (show inr (1) from q_23) (fun b6 => ?_) (fun b6 => ?_)
          · refine Ew_of (pcₚ := 133) (fun _ => x_iload rfl l52_6) ?_
            refine Ew_of (pcₚ := 134) (fun _ => x_iload_n rfl l52_3) ?_
            refine Ew_of (pcₚ := 137) (fun _ => x_sipush (z := 16384) rfl (by decide)) ?_
            refine w_icmpge (t := 152) rfl rfl (show inr (u2_1) from q_884 h1) (show inr (16384) from q_2050) (fun b7 => ?_) (fun b7 => ?_)
            · refine Ew_of (pcₚ := 153) (fun _ => x_iconst rfl) ?_
              refine w_iadd rfl ?_
              exact w_ireturn rfl (k ((x52_6 + 5)) _ _ _ H O (cF_52) (cA_52) (show inr ((x52_6 + 5)) by omega) (show 0 ≤ ((x52_6 + 5)) ∧ ((x52_6 + 5)) ≤ 1000000 by omega))
            · refine Ew_of (pcₚ := 142) (fun _ => x_iload rfl l52_6) ?_
              refine Ew_of (pcₚ := 145) (fun _ => x_sipush (z := 16384) rfl (by decide)) ?_
              refine w_icmpge (t := 152) rfl rfl (show inr (x52_6) from j52_0) (show inr (16384) from q_2050) (fun b8 => ?_) (fun b8 => ?_)
              · refine Ew_of (pcₚ := 153) (fun _ => x_iconst rfl) ?_
                refine w_iadd rfl ?_
                exact w_ireturn rfl (k ((x52_6 + 5)) _ _ _ H O (cF_52) (cA_52) (show inr ((x52_6 + 5)) by omega) (show 0 ≤ ((x52_6 + 5)) ∧ ((x52_6 + 5)) ≤ 1000000 by omega))
              · refine Ew_of (pcₚ := 149) (fun _ => x_iconst rfl) ?_
                refine Ew_of (pcₚ := 153) (fun _ => x_goto rfl rfl) ?_
                refine w_iadd rfl ?_
                exact w_ireturn rfl (k ((x52_6 + 4)) _ _ _ H O (cF_52) (cA_52) (show inr ((x52_6 + 4)) from q_3909 b8 j52_4) (show 0 ≤ ((x52_6 + 4)) ∧ ((x52_6 + 4)) ≤ 1000000 by first | exact q_3908 b8 j52_4 | omega))
          · refine Ew_of (pcₚ := 116) (fun _ => x_iload rfl l52_6) ?_
            refine Ew_of (pcₚ := 119) (fun _ => x_sipush (z := 1024) rfl (by decide)) ?_
            refine w_icmpge (t := 129) rfl rfl (show inr (x52_6) from j52_0) (show inr (1024) from q_1842) (fun b9 => ?_) (fun b9 => ?_)
            · refine Ew_of (pcₚ := 130) (fun _ => x_iconst rfl) ?_
              exact w_ireturn rfl (k (0) _ _ _ H O (cF_52) (cA_52) (show inr (0) from q_20) (show 0 ≤ (0) ∧ (0) ≤ 1000000 by first | exact q_3910 | omega))
            · refine Ew_of (pcₚ := 124) (fun _ => x_iload rfl l52_6) ?_
              refine Ew_of (pcₚ := 125) (fun _ => x_iconst rfl) ?_
              refine w_iadd rfl ?_
              refine Ew_of (pcₚ := 130) (fun _ => x_goto rfl rfl) ?_
              exact w_ireturn rfl (k ((x52_6 + 3)) _ _ _ H O (cF_52) (cA_52) (show inr ((x52_6 + 3)) from q_3912 b9 j52_4) (show 0 ≤ ((x52_6 + 3)) ∧ ((x52_6 + 3)) ≤ 1000000 by first | exact q_3911 b9 j52_4 | omega))
        · have hpa := prod_bd (x := (x52_7)) (y := ((((u2_1 + tc20_0) - 1) / tc20_0))) (a := 3) (b := 65536) (by omega) (by omega) (by omega) (by omega)
          have hpb := prod_bd (x := (x52_7) + 1) (y := ((((u2_1 + tc20_0) - 1) / tc20_0))) (a := 4) (b := 65536) (by omega) (by omega) (by omega) (by omega)
          refine Ew_of (pcₚ := 60) (fun _ => x_aload_n rfl l52_1) ?_
          refine Ew_of (pcₚ := 61) (fun _ => x_aload_n rfl l52_0) ?_
          refine v_g H (o := 0) (v := .ref (D 2)) rfl rfl rfl rfl rfl (vrf ((mF_52 0 9 rfl).trans (pf2))) ?_
          refine v_g H (o := 2) (v := .ref (D 3)) rfl rfl rfl rfl rfl (vrf ((mF_52 2 0 rfl).trans (pf3))) ?_
          refine Ew_of (pcₚ := 69) (fun _ => x_iload rfl l52_7) ?_
          refine Ew_of (pcₚ := 71) (fun _ => x_iload rfl l52_5) ?_
          refine w_imul rfl ?_
          refine Ew_of (pcₚ := 73) (fun _ => x_iload_n rfl l52_3) ?_
          refine Ew_of (pcₚ := 75) (fun _ => x_iload rfl l52_7) ?_
          refine Ew_of (pcₚ := 76) (fun _ => x_iconst rfl) ?_
          refine w_iadd rfl ?_
          refine Ew_of (pcₚ := 79) (fun _ => x_iload rfl l52_5) ?_
          refine w_imul rfl ?_
          refine v_min rfl rfl (show inr (u2_1) from q_884 h1) (show inr (((x52_7 + 1) * (((u2_1 + tc20_0) - 1) / tc20_0))) by omega) (fun z10 gz10 => ?_)
          refine v_inv H (o := 1) rfl rfl rfl rfl rfl rfl (by rfl) (C112_Br (D := puc 1050113 D) (N := puc 1050113 N) (HW_subc H oz_J1cls_22 oz_J1cls_23) ((mF_52 1 0 rfl).trans (pf4)) (n3) (en3) (n4) (en4) (u1_3) (((mF_52 1 3 rfl).trans (eu1_3))) (w4) ((funext (mA_52 4 rfl)).trans (ew4)) (show inr ((x52_7 * (((u2_1 + tc20_0) - 1) / tc20_0))) by omega) (show inr (z10) by omega) (show 0 ≤ ((x52_7 * (((u2_1 + tc20_0) - 1) / tc20_0))) ∧ (z10) ≤ (n3) ∧ (n3) ≤ 65536 by omega) (show 0 ≤ ((u1_3)) ∧ ((u1_3)) ≤ 11 from h3) (show LNG ((w4)) ((u1_3)) from h4) (show (n4) = 256 from h5) (fun z11 σ11 F11ₚ A11ₚ Hₚ Oₚ hS11 hA11 pz11_0 pz11_1 => ⟨rfl, ?_⟩))
          refine v_backc (c := c) (s := s) H oz_J1cls_22 oz_J1cls_23 Hₚ Oₚ (fun F11 A11 H Oₚ eF11 eA11 => ?_)
          have O := OUT_trans O Oₚ
          -- Codes.packedSize
          have cF11 : SF oz_J1clsl_0 F F11 := SF_trans (cF_52) (SF_gluc (ι := oz_J1clsl_8) oz_J1cls_23 hS11 eF11 (by decide +kernel)) (any_sub (lₚ := []) (by decide +kernel))
          have mF11 := SFm_of cF11 oz_J1cls_3
          have cA11 : SA oz_J1clsl_1 A A11 := SA_trans (cA_52) (SA_gluc (ι := oz_J1clsl_8) oz_J1cls_23 hA11 eA11 (by decide +kernel)) (any_subA (lₚ := []) (by decide +kernel))
          have mA11 := SAm_of cA11 oz_J1cls_4
          have hps := pz11_1
          refine Ew_of (pcₚ := 88) (fun _ => x_istore rfl) ?_
          refine Ew_of (pcₚ := 90) (fun _ => x_iload rfl rk_s) ?_
          refine w_ifne (t := 95) rfl rfl (show inr (z11) from pz11_0) (fun b12 => ?_) (fun b12 => ?_)
          · refine Ew_of (pcₚ := 97) (fun _ => x_iload rfl (rk_o (l52_6) rfl rfl)) ?_
            refine Ew_of (pcₚ := 99) (fun _ => x_iload rfl rk_s) ?_
            refine w_iadd rfl ?_
            refine Ew_of (pcₚ := 102) (fun _ => x_istore rfl) ?_
            refine Ew_of (pcₚ := 105) (fun _ => x_iinc (len := 3) rfl (rk_o (rk_o (l52_7) rfl rfl) rfl rfl)) ?_
            refine Ew_of (pcₚ := 52) (fun _ => x_goto rfl rfl) ?_
            exact ih52 _ (msE hm52 q_31 (q_34 b5)) _ _ _ _ ((x52_6 + z11)) ((x52_7 + 1)) (rk_o (rk_o (rk_o (l52_0) rfl rfl) rfl rfl) rfl rfl) (rk_o (rk_o (rk_o (l52_1) rfl rfl) rfl rfl) rfl rfl) (rk_o (rk_o (rk_o (l52_3) rfl rfl) rfl rfl) rfl rfl) (rk_o (rk_o (rk_o (l52_4) rfl rfl) rfl rfl) rfl rfl) (rk_o (rk_o (rk_o (l52_5) rfl rfl) rfl rfl) rfl rfl) (rk_o (rk_s) rfl rfl) (rk_s) H O (SF_trans (hS_52) (SF_gluc (ι := oz_J1clsl_8) oz_J1cls_23 hS11 eF11 (by decide +kernel)) (any_sub (lₚ := []) (by decide +kernel))) (SA_trans (hA_52) (SA_gluc (ι := oz_J1clsl_8) oz_J1cls_23 hA11 eA11 (by decide +kernel)) (any_subA (lₚ := []) (by decide +kernel)))     (show inr ((x52_6 + z11)) by omega) (show inr ((x52_7 + 1)) from q_3915 b5 j52_3 j52_4 jc20_1) (show (0) ≤ ((x52_7 + 1)) from q_3914 j52_4) (show ((x52_7 + 1)) ≤ (0) ∨ ((x52_7 + 1)) ≤ ((tc20_0)) from q_33 b5) (show 0 ≤ ((x52_6 + z11)) ∧ ((x52_6 + z11)) ≤ 65542 + 100000 * ((x52_7 + 1)) from q_3913 j52_4 pz11_1) rfl
          · refine Ew_of (pcₚ := 94) (fun _ => x_iconst rfl) ?_
            exact w_ireturn rfl (k (0) _ _ _ H O (cF11) (cA11) (show inr (0) from q_20) (show 0 ≤ (0) ∧ (0) ≤ 1000000 by first | exact q_3910 | omega))
    refine w_icmpne (t := 45) rfl rfl (show inr (tc20_0) from jc20_0) (show inr (4) from q_2) (fun b13 => ?_) (fun b13 => ?_)
    · refine Ew_of (pcₚ := 46) (fun _ => x_iconst rfl) ?_
      exact hc46 (0) _ _ _ _  (rk_o (rk_o (lc20_0) rfl rfl) rfl rfl) (rk_o (rk_o (lc20_1) rfl rfl) rfl rfl) (rk_o (rk_o (lc20_3) rfl rfl) rfl rfl) (rk_o (rk_s) rfl rfl) (rk_s) H O (SF_refl) (SA_refl)     (show inr (0) from q_20) (show ((tc20_0) ≠ (4) ∧ (0) = (0)) ∨ ((tc20_0) = (4) ∧ (0) = (6)) from q_3916 b13)
    · refine Ew_of (pcₚ := 42) (fun _ => x_bipush (z := 6) rfl (by decide)) ?_
      refine Ew_of (pcₚ := 46) (fun _ => x_goto rfl rfl) ?_
      exact hc46 (6) _ _ _ _  (rk_o (rk_o (lc20_0) rfl rfl) rfl rfl) (rk_o (rk_o (lc20_1) rfl rfl) rfl rfl) (rk_o (rk_o (lc20_3) rfl rfl) rfl rfl) (rk_o (rk_s) rfl rfl) (rk_s) H O (SF_refl) (SA_refl)     (show inr (6) from q_545) (show ((tc20_0) ≠ (4) ∧ (6) = (0)) ∨ ((tc20_0) = (4) ∧ (6) = (6)) from q_3917 b13)
  refine w_icmpge (t := 19) rfl rfl (show inr (u2_1) from q_884 h1) (show inr (1024) from q_1842) (fun b14 => ?_) (fun b14 => ?_)
  · refine Ew_of (pcₚ := 20) (fun _ => x_iconst rfl) ?_
    exact hc20 (4) _ _ _ _  (rk_o (rfl) rfl rfl) (rk_o (rfl) rfl rfl) (rk_o (rfl) rfl rfl) (rk_s) H O (SF_refl) (SA_refl)     (show inr (4) from q_2) (show ((u2_1) ≥ (1024) ∧ (4) = (4)) ∨ ((u2_1) < (1024) ∧ (4) = (1)) from q_3918 b14)
  · refine Ew_of (pcₚ := 16) (fun _ => x_iconst rfl) ?_
    refine Ew_of (pcₚ := 20) (fun _ => x_goto rfl rfl) ?_
    exact hc20 (1) _ _ _ _  (rk_o (rfl) rfl rfl) (rk_o (rfl) rfl rfl) (rk_o (rfl) rfl rfl) (rk_s) H O (SF_refl) (SA_refl)     (show inr (1) from q_23) (show ((u2_1) ≥ (1024) ∧ (1) = (4)) ∨ ((u2_1) < (1024) ∧ (1) = (1)) from q_3919 b14)
