abbrev V132_Ir : vV := [(1, 1, [])]
/-- Packer.windowFor: #1 -/
theorem C132_Ir {σE : rS} {D N : Nat → Nat} {F : hF} {A : hA} {d c s : Nat} {Q : wQ} (H : HW V132_Ir σE D N F A) {a2 : Int} (n0 : Int) (en0 : (N 0 : Int) = n0) (w0 : Int → Int) (ew0 : A 0 = w0) (h0 : inr (a2)) (h1 : (n0) = 10) (h2 : 0 ≤ ((w0)) 8 ∧ ((w0)) 8 ≤ 11) (h3 : 0 ≤ (a2) ∧ (a2) ≤ 16384) (k : ∀ (z : Int) (σ : rS) (F' : hF) (A' : hA), HW V132_Ir σ D N F' A' → OUT (V132_Ir).length D N σE c s D N σ c s → SF [] F F' → SA [] A A' → (inr (z)) → (0 ≤ (z) ∧ (z) ≤ 2097152) → Q (some (I z)) σ c s) : Ew 132 (d + 0) 0 (rargs 0 [.ref (D 0), I a2]) [] σE c s Q := by
  have O := OUT_refl (n := (V132_Ir).length) (D := D) (N := N) (σ := σE) (c := c) (s := s)
  have HE := H
  replace en0 := HIDm en0
  have r1 : (0 : Int) ≤ n0 ∧ n0 ≤ 1000000 := by have h1 := H.nle 0 (by decide); have h2 : (N 0 : Int) = n0 := en0; omega
  refine Ew_of (pc' := 1) (fun _ => x_aload_n rfl rfl) ?_
  refine Ew_of (pc' := 3) (fun _ => x_bipush (z := 7) rfl (by decide)) ?_
  refine v_lI H (o := 0) rfl rfl rfl rfl (n := n0) (en0) (show 0 ≤ 7 ∧ 7 < n0 by omega) (fun v2 ev2 qv2 => ?_)
  have ev2 : (w0) (7) = v2 := (congrFun (ew0) (7)).symm.trans ev2
  refine Ew_of (pc' := 5) (fun _ => x_iconst rfl) ?_
  refine w_iand rfl (show inr (v2) by omega) (show inr (4) by omega) (fun z3 gz3 gaz3 gbz3 => ?_)
  refine w_ifeq (t := 13) rfl rfl (show inr (z3) by omega) (fun b4 => ?_) (fun b4 => ?_)
  · refine Ew_of (pc' := 14) (fun _ => x_iconst rfl) ?_
    refine Ew_of (pc' := 16) (fun _ => x_bipush (z := 10) rfl (by decide)) ?_
    refine Ew_of (pc' := 17) (fun _ => x_aload_n rfl rfl) ?_
    refine Ew_of (pc' := 19) (fun _ => x_bipush (z := 8) rfl (by decide)) ?_
    refine v_lI H (o := 0) rfl rfl rfl rfl (n := n0) (en0) (show 0 ≤ 8 ∧ 8 < n0 by omega) (fun v5 ev5 qv5 => ?_)
    have ev5 : (w0) (8) = v5 := (congrFun (ew0) (8)).symm.trans ev5
    refine w_iadd rfl ?_
    have hpw : p2 (((10 + v5))) ≤ p2 21 := p2_mono (by omega)
    have hp21 : p2 21 = 2097152 := by decide
    have hpp := p2_pos (((10 + v5)))
    refine w_ishl1 rfl (show 0 ≤ (10 + v5) ∧ (10 + v5) ≤ 31 by omega) ?_
    exact w_ireturn rfl (k (p2 ((10 + v5))) _ _ _ H O (SF_refl) (SA_refl) (show inr (p2 ((10 + v5))) by omega) (show 0 ≤ (p2 ((10 + v5))) ∧ (p2 ((10 + v5))) ≤ 2097152 by omega))
  · refine Ew_of (pc' := 10) (fun _ => x_iload_n rfl rfl) ?_
    refine Ew_of (pc' := 22) (fun _ => x_goto rfl rfl) ?_
    exact w_ireturn rfl (k (a2) _ _ _ H O (SF_refl) (SA_refl) (show inr (a2) by omega) (show 0 ≤ (a2) ∧ (a2) ≤ 2097152 by omega))
abbrev V133_Ir : vV := [(1, 1, [])]
/-- Packer.rowLength: #1 -/
theorem C133_Ir {σE : rS} {D N : Nat → Nat} {F : hF} {A : hA} {d c s : Nat} {Q : wQ} (H : HW V133_Ir σE D N F A) {a2 : Int} (n0 : Int) (en0 : (N 0 : Int) = n0) (w0 : Int → Int) (ew0 : A 0 = w0) (h0 : inr (a2)) (h1 : (n0) = 10) (h2 : 0 ≤ ((w0)) 8 ∧ ((w0)) 8 ≤ 11) (h3 : 1 ≤ ((w0)) 2 ∧ ((w0)) 2 ≤ 65536) (h4 : 0 ≤ (a2) ∧ (a2) ≤ 16384) (k : ∀ (z : Int) (σ : rS) (F' : hF) (A' : hA), HW V133_Ir σ D N F' A' → OUT (V133_Ir).length D N σE c s D N σ c s → SF [] F F' → SA [] A A' → (inr (z)) → (1 ≤ (z) ∧ (z) ≤ 65536) → Q (some (I z)) σ c s) : Ew 133 (d + 1) 0 (rargs 0 [.ref (D 0), I a2]) [] σE c s Q := by
  have O := OUT_refl (n := (V133_Ir).length) (D := D) (N := N) (σ := σE) (c := c) (s := s)
  have HE := H
  replace en0 := HIDm en0
  have r1 : (0 : Int) ≤ n0 ∧ n0 ≤ 1000000 := by have h1 := H.nle 0 (by decide); have h2 : (N 0 : Int) = n0 := en0; omega
  refine Ew_of (pc' := 2) (fun _ => x_ldc (z := 131072) rfl (by decide)) ?_
  refine Ew_of (pc' := 3) (fun _ => x_aload_n rfl rfl) ?_
  refine Ew_of (pc' := 4) (fun _ => x_iload_n rfl rfl) ?_
  refine w_stat24 rfl rfl (by rfl) (C132_Ir (D := pul [0] D) (N := pul [0] N) (HW_sub H (VS_of (show vsub V133_Ir V132_Ir [0] = true by decide +kernel))) (n0) (en0) (w0) (ew0) (show inr (a2) by omega) (show (n0) = 10 by omega) (show 0 ≤ ((w0)) 8 ∧ ((w0)) 8 ≤ 11 by omega) (show 0 ≤ (a2) ∧ (a2) ≤ 16384 by omega) (fun z2 σ2 F2' A2' H' O' hS2 hA2 pz2_0 pz2_1 => ⟨rfl, ?_⟩))
  refine v_back (c := c) (s := s) H (show vsub V133_Ir V132_Ir [0] = true by decide +kernel) H' O' (fun F2 A2 H O' eF2 eA2 => ?_)
  have O := OUT_trans O O'
  -- Packer.windowFor
  refine v_min rfl rfl (show inr (131072) by omega) (show inr (z2) by omega) (fun z3 gz3 => ?_)
  refine Ew_of (pc' := 11) (fun _ => x_istore_n rfl) ?_
  refine Ew_of (pc' := 12) (fun _ => x_iconst rfl) ?_
  refine Ew_of (pc' := 13) (fun _ => x_aload_n rfl (rk_o (rfl) rfl rfl)) ?_
  refine Ew_of (pc' := 14) (fun _ => x_iconst rfl) ?_
  refine v_lI H (o := 0) rfl rfl rfl rfl (n := n0) (en0) (show 0 ≤ 2 ∧ 2 < n0 by omega) (fun v4 ev4 qv4 => ?_)
  have ev4 : (w0) (2) = v4 := (congrFun (((show A2 0 = A 0 from (eA2 0).trans (funext (hA2 0 rfl)))).trans (ew0)) (2)).symm.trans ev4
  refine Ew_of (pc' := 16) (fun _ => x_iload_n rfl rk_s) ?_
  refine v_min rfl rfl (show inr (v4) by omega) (show inr (z3) by omega) (fun z5 gz5 => ?_)
  refine v_max rfl rfl (show inr (1) by omega) (show inr (z5) by omega) (fun z6 gz6 => ?_)
  exact w_ireturn rfl (k (z6) _ _ _ H O (SF_trans (SF_refl) (SF_glu (ι := [0]) hS2 eF2 (by decide +kernel)) (any_sub (l' := []) rfl)) (SA_trans (SA_refl) (SA_glu (ι := [0]) hA2 eA2 (by decide +kernel)) (any_subA (l' := []) rfl)) (show inr (z6) by omega) (show 1 ≤ (z6) ∧ (z6) ≤ 65536 by omega))
abbrev V135_Row : vV := [(0, 6, [(4, 0), (4, 0), (4, 0), (4, 0), (4, 0), (4, 0), (4, 0), (4, 0), (4, 0), (4, 0), (4, 0), (4, 0), (4, 0), (4, 0), (4, 0), (0, 0), (0, 0), (4, 0), (4, 0)]), (0, 7, [(4, 0), (0, 0), (1, 0), (0, 0), (0, 0)]), (1, 0, []), (1, 1, [])]
set_option maxHeartbeats 16000000 in
/-- Packer.packHead: this, #1, #1.bytes, this.settings -/
theorem C135_Row {σE : rS} {D N : Nat → Nat} {F : hF} {A : hA} {d c s : Nat} {Q : wQ} (H : HW V135_Row σE D N F A) {a2 a3 : Int} (pf2 : F 1 0 = (D 2 : Int)) (pf3 : F 0 0 = (D 3 : Int)) (n2 : Int) (en2 : (N 2 : Int) = n2) (n3 : Int) (en3 : (N 3 : Int) = n3) (u1_1 : Int) (eu1_1 : F 1 1 = u1_1) (h0 : inr (a2)) (h1 : inr (a3)) (h2 : 0 ≤ (u1_1) ∧ (u1_1) ≤ (n2) ∧ (n2) ≤ 65536) (h3 : (n3) = 10) (h4 : -16384 ≤ (a2) ∧ (a2) ≤ 16384) (k : ∀ (σ : rS) (D' N' : Nat → Nat) (F' : hF) (A' : hA) (c' s' : Nat), HW V135_Row σ D' N' F' A' → OUT (V135_Row).length D N σE c s D' N' σ c' s' → SD [2] D D' → SD [2] N N' → SF [(1, 0), (1, 1), (1, 2)] F F' → SA [2] A A' → F' 1 0 = (D' 2 : Int) → ∀ m2 : Int, (N' 2 : Int) = m2 → ∀ y1_1 : Int, F' 1 1 = y1_1 → (0 ≤ (y1_1) ∧ (y1_1) ≤ (m2) ∧ (m2) ≤ 65536) → ((u1_1) ≤ (y1_1)) → Q none σ c' s') : Ew 135 (d + 3) 0 (rargs 0 [.ref (D 0), .ref (D 1), I a2, I a3]) [] σE c s Q := by
  have O := OUT_refl (n := (V135_Row).length) (D := D) (N := N) (σ := σE) (c := c) (s := s)
  have HE := H
  have r1 : (-2147483648 : Int) ≤ u1_1 ∧ u1_1 ≤ 2147483647 := by have h1 : (-2147483648 : Int) ≤ F 1 1 ∧ F 1 1 ≤ 2147483647 := H.krg 1 1 (by decide); rw [show F 1 1 = u1_1 from (eu1_1)] at h1; exact h1
  replace pf2 := HIDm pf2
  replace pf3 := HIDm pf3
  replace en2 := HIDm en2
  replace en3 := HIDm en3
  replace eu1_1 := HIDm eu1_1
  have r2 : (0 : Int) ≤ n2 ∧ n2 ≤ 1000000 := by have h1 := H.nle 2 (by decide); have h2 : (N 2 : Int) = n2 := en2; omega
  have r3 : (0 : Int) ≤ n3 ∧ n3 ≤ 1000000 := by have h1 := H.nle 3 (by decide); have h2 : (N 3 : Int) = n3 := en3; omega
  refine Ew_of (pc' := 1) (fun _ => x_aload_n rfl rfl) ?_
  refine v_g H (o := 0) (v := .ref (D 3)) rfl rfl rfl rfl rfl (vrf (pf3)) ?_
  refine Ew_of (pc' := 6) (fun _ => x_bipush (z := 7) rfl (by decide)) ?_
  refine v_lI H (o := 3) rfl rfl rfl rfl (n := n3) (en3) (show 0 ≤ 7 ∧ 7 < n3 by omega) (fun v4 ev4 qv4 => ?_)
  have ev4 : (A 3) (7) = v4 := (congrFun (rfl : A 3 = A 3) (7)).symm.trans ev4
  refine Ew_of (pc' := 9) (fun _ => x_istore rfl) ?_
  have hc21 : ∀ (tc21_0 : Int), ∀ (ls : rO) (σ : rS) (F_c21 : hF) (A_c21 : hA) , rlook ls 0 = some (.ref (D 0)) → rlook ls 1 = some (.ref (D 1)) → rlook ls 2 = some (I (a2)) → rlook ls 3 = some (I (a3)) → rlook ls 4 = some (I (v4)) → HW V135_Row σ D N F_c21 A_c21 → OUT (V135_Row).length D N σE c s D N σ c s → SF [] F F_c21 → SA [] A A_c21 → (inr (tc21_0)) → ((tc21_0) = 0 ∨ (tc21_0) = 1) → Ew 135 (d + 3) 21 ls [I (tc21_0)] σ c s Q := by
   as_aux_lemma =>
    intro tc21_0 ls σ F_c21 A_c21  lc21_0 lc21_1 lc21_2 lc21_3 lc21_4 H O hS_c21 hA_c21     jc21_0 jc21_1
    refine Ew_of (pc' := 23) (fun _ => x_istore rfl) ?_
    refine Ew_of (pc' := 24) (fun _ => x_iconst rfl) ?_
    refine Ew_of (pc' := 26) (fun _ => x_istore rfl) ?_
    have hc61 : ∀ (ls : rO) (σ : rS) (F_c61 : hF) (A_c61 : hA) (xc61_6 : Int), rlook ls 0 = some (.ref (D 0)) → rlook ls 1 = some (.ref (D 1)) → rlook ls 2 = some (I (a2)) → rlook ls 3 = some (I (a3)) → rlook ls 4 = some (I (v4)) → rlook ls 5 = some (I (tc21_0)) → rlook ls 6 = some (I (xc61_6)) → HW V135_Row σ D N F_c61 A_c61 → OUT (V135_Row).length D N σE c s D N σ c s → SF [] F_c21 F_c61 → SA [] A_c21 A_c61 → (inr (xc61_6)) → (0 ≤ (xc61_6) ∧ (xc61_6) ≤ 2) → Ew 135 (d + 3) 61 ls [] σ c s Q := by
     as_aux_lemma =>
      intro  ls σ F_c61 A_c61 xc61_6 lc61_0 lc61_1 lc61_2 lc61_3 lc61_4 lc61_5 lc61_6 H O hS_c61 hA_c61     jc61_0 jc61_1
      refine Ew_of (pc' := 62) (fun _ => x_iconst rfl) ?_
      refine Ew_of (pc' := 64) (fun _ => x_istore rfl) ?_
      have hc101 : ∀ (ls : rO) (σ : rS) (F_c101 : hF) (A_c101 : hA) (xc101_7 : Int), rlook ls 0 = some (.ref (D 0)) → rlook ls 1 = some (.ref (D 1)) → rlook ls 2 = some (I (a2)) → rlook ls 3 = some (I (a3)) → rlook ls 4 = some (I (v4)) → rlook ls 5 = some (I (tc21_0)) → rlook ls 6 = some (I (xc61_6)) → rlook ls 7 = some (I (xc101_7)) → HW V135_Row σ D N F_c101 A_c101 → OUT (V135_Row).length D N σE c s D N σ c s → SF [] F_c61 F_c101 → SA [] A_c61 A_c101 → (inr (xc101_7)) → (0 ≤ (xc101_7) ∧ (xc101_7) ≤ 3) → Ew 135 (d + 3) 101 ls [] σ c s Q := by
       as_aux_lemma =>
        intro  ls σ F_c101 A_c101 xc101_7 lc101_0 lc101_1 lc101_2 lc101_3 lc101_4 lc101_5 lc101_6 lc101_7 H O hS_c101 hA_c101     jc101_0 jc101_1
        refine Ew_of (pc' := 102) (fun _ => x_aload_n rfl lc101_1) ?_
        refine Ew_of (pc' := 105) (fun _ => x_ldc2 (z := -47205080) rfl (by decide)) ?_
        refine Ew_of (pc' := 106) (fun _ => x_iconst rfl) ?_
        have r5 : (0 : Int) ≤ F 1 2 ∧ F 1 2 ≤ 1 := by have h1 : (0 : Int) ≤ F_c101 1 2 ∧ F_c101 1 2 ≤ 1 := H.krg 1 2 (by decide); rw [show F_c101 1 2 = F 1 2 from (((hS_c101 1 2 rfl).trans (hS_c61 1 2 rfl)).trans (hS_c21 1 2 rfl))] at h1; exact h1
        refine v_inv H (o := 1) rfl rfl rfl rfl rfl rfl (by rfl) (C160 (D := pul [1, 2] D) (N := pul [1, 2] N) (HW_sub H (VS_of (show vsub V135_Row V160 [1, 2] = true by decide +kernel))) (((((hS_c101 1 0 rfl).trans (hS_c61 1 0 rfl)).trans (hS_c21 1 0 rfl))).trans (pf2)) (n2) (en2) (u1_1) (((((hS_c101 1 1 rfl).trans (hS_c61 1 1 rfl)).trans (hS_c21 1 1 rfl)).trans (eu1_1))) (F 1 2) ((((hS_c101 1 2 rfl).trans (hS_c61 1 2 rfl)).trans (hS_c21 1 2 rfl))) (A 2) ((funext (hA_c101 2 rfl)).trans ((funext (hA_c61 2 rfl)).trans (funext (hA_c21 2 rfl)))) (show inrJ ((-47205080)) by omega) (show inr (4) by omega) (show 0 ≤ (u1_1) ∧ (u1_1) ≤ (n2) ∧ (n2) ≤ 65536 by omega) (show 0 ≤ (4) ∧ (4) ≤ 8 by omega) (fun σ6 D6' N6' F6' A6' c6 s6 H' O' hD6 hN6 hS6 hA6 pm6_1 m6_1 em6_1 y6_0_1 ey6_0_1 y6_0_2 ey6_0_2 w6_1 ew6_1 pz6_0 pz6_1 pz6_2 => ⟨rfl, ?_⟩))
        replace pm6_1 := HIDm pm6_1
        replace em6_1 := HIDm em6_1
        replace ey6_0_1 := HIDm ey6_0_1
        replace ey6_0_2 := HIDm ey6_0_2
        refine v_backM (c := c) (s := s) H (show vsub V135_Row V160 [1, 2] = true by decide +kernel) H' O' hD6 (show vmov V135_Row [1, 2] [1] = true by decide +kernel) (fun D6 N6 F6 A6 H O' eD6 eN6 eF6 eA6 => ?_)
        have O := OUT_trans O O'
        -- Row.addNumber
        have pf6_0_0 : HID (F6 0 0 = (D6 3 : Int)) := ((show F6 0 0 = F_c101 0 0 from (eF6 0 0))).trans ((((((hS_c101 0 0 rfl).trans (hS_c61 0 0 rfl)).trans (hS_c21 0 0 rfl))).trans (pf3)).trans (congrArg (fun q : Nat => (q : Int)) ((show D6 3 = D 3 from (eD6 3))).symm))
        have pf6_1_0 : HID (F6 1 0 = (D6 2 : Int)) := (eF6 1 0).trans (pm6_1.trans (congrArg (fun q : Nat => (q : Int)) (eD6 2).symm))
        have r7 : (0 : Int) ≤ m6_1 ∧ m6_1 ≤ 1000000 := by have h1 := H.nle 2 (by decide); have h2 : (N6 2 : Int) = m6_1 := (congrArg (fun q : Nat => (q : Int)) (eN6 2)).trans em6_1; omega
        have r8 : (-2147483648 : Int) ≤ y6_0_1 ∧ y6_0_1 ≤ 2147483647 := by have h1 : (-2147483648 : Int) ≤ F6 1 1 ∧ F6 1 1 ≤ 2147483647 := H.krg 1 1 (by decide); rw [show F6 1 1 = y6_0_1 from ((eF6 1 1).trans ey6_0_1)] at h1; exact h1
        have r9 : (0 : Int) ≤ y6_0_2 ∧ y6_0_2 ≤ 1 := by have h1 : (0 : Int) ≤ F6 1 2 ∧ F6 1 2 ≤ 1 := H.krg 1 2 (by decide); rw [show F6 1 2 = y6_0_2 from ((eF6 1 2).trans ey6_0_2)] at h1; exact h1
        have hc1 : (u1_1) ≤ (y6_0_1) := by omega
        try clear pz6_1
        refine Ew_of (pc' := 110) (fun _ => x_aload_n rfl lc101_1) ?_
        refine Ew_of (pc' := 112) (fun _ => x_iload rfl lc101_6) ?_
        refine Ew_of (pc' := 114) (fun _ => x_bipush (z := 6) rfl (by decide)) ?_
        refine w_ishlA rfl (fun z10 gz10 => ?_)
        refine Ew_of (pc' := 117) (fun _ => x_iload rfl lc101_5) ?_
        have hc126 : ∀ (tc126_0 : Int), ∀ (ls : rO) (σ : rS) (F_c126 : hF) (A_c126 : hA) , rlook ls 0 = some (.ref (D6 0)) → rlook ls 1 = some (.ref (D6 1)) → rlook ls 2 = some (I (a2)) → rlook ls 3 = some (I (a3)) → rlook ls 4 = some (I (v4)) → rlook ls 5 = some (I (tc21_0)) → rlook ls 6 = some (I (xc61_6)) → rlook ls 7 = some (I (xc101_7)) → HW V135_Row σ D6 N6 F_c126 A_c126 → OUT (V135_Row).length D N σE c s D6 N6 σ (c + c6) (s + s6) → SF [] F6 F_c126 → SA [] A6 A_c126 → (inr (tc126_0)) → (((tc21_0) = (0) ∧ (tc126_0) = (0)) ∨ ((tc21_0) ≠ (0) ∧ (tc126_0) = (32))) → Ew 135 (d + 3) 126 ls [I (tc126_0), I (z10), .ref (D6 1)] σ (c + c6) (s + s6) Q := by
         as_aux_lemma =>
          intro tc126_0 ls σ F_c126 A_c126  lc126_0 lc126_1 lc126_2 lc126_3 lc126_4 lc126_5 lc126_6 lc126_7 H O hS_c126 hA_c126     jc126_0 jc126_1
          try clear pz6_1
          refine w_ior rfl (fun z11 gz11 => ?_)
          have hc139 : ∀ (tc139_0 : Int), ∀ (ls : rO) (σ : rS) (F_c139 : hF) (A_c139 : hA) , rlook ls 0 = some (.ref (D6 0)) → rlook ls 1 = some (.ref (D6 1)) → rlook ls 2 = some (I (a2)) → rlook ls 3 = some (I (a3)) → rlook ls 5 = some (I (tc21_0)) → rlook ls 6 = some (I (xc61_6)) → rlook ls 7 = some (I (xc101_7)) → HW V135_Row σ D6 N6 F_c139 A_c139 → OUT (V135_Row).length D N σE c s D6 N6 σ (c + c6) (s + s6) → SF [] F_c126 F_c139 → SA [] A_c126 A_c139 → (inr (tc139_0)) → Ew 135 (d + 3) 139 ls [I (tc139_0), I (z11), .ref (D6 1)] σ (c + c6) (s + s6) Q := by
           as_aux_lemma =>
            intro tc139_0 ls σ F_c139 A_c139  lc139_0 lc139_1 lc139_2 lc139_3 lc139_5 lc139_6 lc139_7 H O hS_c139 hA_c139     jc139_0
            refine w_ior rfl (fun z12 gz12 => ?_)
            refine Ew_of (pc' := 142) (fun _ => x_iload rfl lc139_7) ?_
            refine w_ior rfl (fun z13 gz13 => ?_)
            refine v_inv H (o := 1) rfl rfl rfl rfl rfl rfl (by rfl) (C159 (D := pul [1, 2] D6) (N := pul [1, 2] N6) (HW_sub H (VS_of (show vsub V135_Row V159 [1, 2] = true by decide +kernel))) ((((hS_c139 1 0 rfl).trans (hS_c126 1 0 rfl))).trans (pf6_1_0)) (m6_1) ((congrArg (fun q : Nat => (q : Int)) (eN6 2)).trans em6_1) (y6_0_1) ((((hS_c139 1 1 rfl).trans (hS_c126 1 1 rfl)).trans ((eF6 1 1).trans ey6_0_1))) (y6_0_2) ((((hS_c139 1 2 rfl).trans (hS_c126 1 2 rfl)).trans ((eF6 1 2).trans ey6_0_2))) (w6_1) ((funext (hA_c139 2 rfl)).trans ((funext (hA_c126 2 rfl)).trans ((eA6 2).trans ew6_1))) (show inr (z13) by omega) (show 0 ≤ (y6_0_1) ∧ (y6_0_1) ≤ (m6_1) ∧ (m6_1) ≤ 65536 by omega) (fun σ14 D14' N14' F14' A14' c14 s14 H' O' hD14 hN14 hS14 hA14 pm14_1 m14_1 em14_1 y14_0_1 ey14_0_1 y14_0_2 ey14_0_2 w14_1 ew14_1 pz14_0 pz14_1 pz14_2 pz14_3 => ⟨rfl, ?_⟩))
            replace pm14_1 := HIDm pm14_1
            replace em14_1 := HIDm em14_1
            replace ey14_0_1 := HIDm ey14_0_1
            replace ey14_0_2 := HIDm ey14_0_2
            refine v_backM (c := (c + c6)) (s := (s + s6)) H (show vsub V135_Row V159 [1, 2] = true by decide +kernel) H' O' hD14 (show vmov V135_Row [1, 2] [1] = true by decide +kernel) (fun D14 N14 F14 A14 H O' eD14 eN14 eF14 eA14 => ?_)
            have O := OUT_trans O O'
            -- Row.add
            have pf14_0_0 : HID (F14 0 0 = (D14 3 : Int)) := ((show F14 0 0 = F_c139 0 0 from (eF14 0 0))).trans (((((hS_c139 0 0 rfl).trans (hS_c126 0 0 rfl))).trans (pf6_0_0)).trans (congrArg (fun q : Nat => (q : Int)) ((show D14 3 = D6 3 from (eD14 3))).symm))
            have pf14_1_0 : HID (F14 1 0 = (D14 2 : Int)) := (eF14 1 0).trans (pm14_1.trans (congrArg (fun q : Nat => (q : Int)) (eD14 2).symm))
            have r15 : (0 : Int) ≤ m14_1 ∧ m14_1 ≤ 1000000 := by have h1 := H.nle 2 (by decide); have h2 : (N14 2 : Int) = m14_1 := (congrArg (fun q : Nat => (q : Int)) (eN14 2)).trans em14_1; omega
            have r16 : (-2147483648 : Int) ≤ y14_0_1 ∧ y14_0_1 ≤ 2147483647 := by have h1 : (-2147483648 : Int) ≤ F14 1 1 ∧ F14 1 1 ≤ 2147483647 := H.krg 1 1 (by decide); rw [show F14 1 1 = y14_0_1 from ((eF14 1 1).trans ey14_0_1)] at h1; exact h1
            have r17 : (0 : Int) ≤ y14_0_2 ∧ y14_0_2 ≤ 1 := by have h1 : (0 : Int) ≤ F14 1 2 ∧ F14 1 2 ≤ 1 := H.krg 1 2 (by decide); rw [show F14 1 2 = y14_0_2 from ((eF14 1 2).trans ey14_0_2)] at h1; exact h1
            have hc164 : ∀ (ls : rO) (σ : rS) (D_c164 N_c164 : Nat → Nat) (c_c164 s_c164 : Nat) (F_c164 : hF) (A_c164 : hA) , rlook ls 1 = some (.ref (D_c164 1)) → rlook ls 2 = some (I (a2)) → rlook ls 3 = some (I (a3)) → rlook ls 5 = some (I (tc21_0)) → rlook ls 6 = some (I (xc61_6)) → rlook ls 7 = some (I (xc101_7)) → HW V135_Row σ D_c164 N_c164 F_c164 A_c164 → OUT (V135_Row).length D N σE c s D_c164 N_c164 σ c_c164 s_c164 → SD [2] D14 D_c164 → SD [2] N14 N_c164 → SF [(1, 0), (1, 1), (1, 2)] F14 F_c164 → SA [2] A14 A_c164 → F_c164 1 0 = (D_c164 2 : Int) → ∀ mc164_2 : Int, (N_c164 2 : Int) = mc164_2 → ∀ yc164_1_1 : Int, F_c164 1 1 = yc164_1_1 → (0 ≤ (yc164_1_1) ∧ (yc164_1_1) ≤ (mc164_2) ∧ (mc164_2) ≤ 65536) → ((u1_1) ≤ (yc164_1_1)) → Ew 135 (d + 3) 164 ls [] σ c_c164 s_c164 Q := by
             as_aux_lemma =>
              intro  ls σ D_c164 N_c164 c_c164 s_c164 F_c164 A_c164  lc164_1 lc164_2 lc164_3 lc164_5 lc164_6 lc164_7 H O hD_c164 hN_c164 hS_c164 hA_c164 pmc164_2 mc164_2 emc164_2 yc164_1_1 eyc164_1_1  jc164_0 jc164_1
              replace pmc164_2 := HIDm pmc164_2
              replace emc164_2 := HIDm emc164_2
              replace eyc164_1_1 := HIDm eyc164_1_1
              try clear pz14_1
              have pf_c164_0_0 : HID (F_c164 0 0 = (D_c164 3 : Int)) := (hS_c164 0 0 rfl).trans ((pf14_0_0).trans (congrArg (fun q : Nat => (q : Int)) (hD_c164 3 rfl).symm))
              have r18 : (0 : Int) ≤ mc164_2 ∧ mc164_2 ≤ 1000000 := by have h1 := H.nle 2 (by decide); have h2 : (N_c164 2 : Int) = mc164_2 := emc164_2; omega
              have r19 : (-2147483648 : Int) ≤ yc164_1_1 ∧ yc164_1_1 ≤ 2147483647 := by have h1 : (-2147483648 : Int) ≤ F_c164 1 1 ∧ F_c164 1 1 ≤ 2147483647 := H.krg 1 1 (by decide); rw [show F_c164 1 1 = yc164_1_1 from (eyc164_1_1)] at h1; exact h1
              try clear pz14_1
              refine Ew_of (pc' := 165) (fun _ => x_aload_n rfl lc164_1) ?_
              refine Ew_of (pc' := 166) (fun _ => x_iload_n rfl lc164_3) ?_
              refine w_i2l rfl (show inr (a3) by omega) ?_
              refine Ew_of (pc' := 169) (fun _ => x_iload rfl lc164_7) ?_
              refine Ew_of (pc' := 170) (fun _ => x_iconst rfl) ?_
              have hc179 : ∀ (tc179_0 : Int), ∀ (ls : rO) (σ : rS) (F_c179 : hF) (A_c179 : hA) , rlook ls 1 = some (.ref (D_c164 1)) → rlook ls 2 = some (I (a2)) → rlook ls 5 = some (I (tc21_0)) → rlook ls 6 = some (I (xc61_6)) → HW V135_Row σ D_c164 N_c164 F_c179 A_c179 → OUT (V135_Row).length D N σE c s D_c164 N_c164 σ c_c164 s_c164 → SF [] F_c164 F_c179 → SA [] A_c164 A_c179 → (inr (tc179_0)) → (((xc101_7) ≠ (3) ∧ (tc179_0) = (xc101_7)) ∨ ((xc101_7) = (3) ∧ (tc179_0) = (4))) → Ew 135 (d + 3) 179 ls [I (tc179_0), J (a3), .ref (D_c164 1)] σ c_c164 s_c164 Q := by
               as_aux_lemma =>
                intro tc179_0 ls σ F_c179 A_c179  lc179_1 lc179_2 lc179_5 lc179_6 H O hS_c179 hA_c179     jc179_0 jc179_1
                have r20 : (0 : Int) ≤ F_c164 1 2 ∧ F_c164 1 2 ≤ 1 := by have h1 : (0 : Int) ≤ F_c179 1 2 ∧ F_c179 1 2 ≤ 1 := H.krg 1 2 (by decide); rw [show F_c179 1 2 = F_c164 1 2 from (hS_c179 1 2 rfl)] at h1; exact h1
                refine v_inv H (o := 1) rfl rfl rfl rfl rfl rfl (by rfl) (C160 (D := pul [1, 2] D_c164) (N := pul [1, 2] N_c164) (HW_sub H (VS_of (show vsub V135_Row V160 [1, 2] = true by decide +kernel))) (((hS_c179 1 0 rfl)).trans (pmc164_2)) (mc164_2) (emc164_2) (yc164_1_1) (((hS_c179 1 1 rfl).trans (eyc164_1_1))) (F_c164 1 2) ((hS_c179 1 2 rfl)) (A_c164 2) (funext (hA_c179 2 rfl)) (show inrJ (a3) by omega) (show inr (tc179_0) by omega) (show 0 ≤ (yc164_1_1) ∧ (yc164_1_1) ≤ (mc164_2) ∧ (mc164_2) ≤ 65536 by omega) (show 0 ≤ (tc179_0) ∧ (tc179_0) ≤ 8 by omega) (fun σ21 D21' N21' F21' A21' c21 s21 H' O' hD21 hN21 hS21 hA21 pm21_1 m21_1 em21_1 y21_0_1 ey21_0_1 y21_0_2 ey21_0_2 w21_1 ew21_1 pz21_0 pz21_1 pz21_2 => ⟨rfl, ?_⟩))
                replace pm21_1 := HIDm pm21_1
                replace em21_1 := HIDm em21_1
                replace ey21_0_1 := HIDm ey21_0_1
                replace ey21_0_2 := HIDm ey21_0_2
                refine v_backM (c := c_c164) (s := s_c164) H (show vsub V135_Row V160 [1, 2] = true by decide +kernel) H' O' hD21 (show vmov V135_Row [1, 2] [1] = true by decide +kernel) (fun D21 N21 F21 A21 H O' eD21 eN21 eF21 eA21 => ?_)
                have O := OUT_trans O O'
                -- Row.addNumber
                have pf21_0_0 : HID (F21 0 0 = (D21 3 : Int)) := ((show F21 0 0 = F_c179 0 0 from (eF21 0 0))).trans ((((hS_c179 0 0 rfl)).trans (pf_c164_0_0)).trans (congrArg (fun q : Nat => (q : Int)) ((show D21 3 = D_c164 3 from (eD21 3))).symm))
                have pf21_1_0 : HID (F21 1 0 = (D21 2 : Int)) := (eF21 1 0).trans (pm21_1.trans (congrArg (fun q : Nat => (q : Int)) (eD21 2).symm))
                have r22 : (0 : Int) ≤ m21_1 ∧ m21_1 ≤ 1000000 := by have h1 := H.nle 2 (by decide); have h2 : (N21 2 : Int) = m21_1 := (congrArg (fun q : Nat => (q : Int)) (eN21 2)).trans em21_1; omega
                have r23 : (-2147483648 : Int) ≤ y21_0_1 ∧ y21_0_1 ≤ 2147483647 := by have h1 : (-2147483648 : Int) ≤ F21 1 1 ∧ F21 1 1 ≤ 2147483647 := H.krg 1 1 (by decide); rw [show F21 1 1 = y21_0_1 from ((eF21 1 1).trans ey21_0_1)] at h1; exact h1
                have r24 : (0 : Int) ≤ y21_0_2 ∧ y21_0_2 ≤ 1 := by have h1 : (0 : Int) ≤ F21 1 2 ∧ F21 1 2 ≤ 1 := H.krg 1 2 (by decide); rw [show F21 1 2 = y21_0_2 from ((eF21 1 2).trans ey21_0_2)] at h1; exact h1
                have hc3 : (u1_1) ≤ (y21_0_1) := by omega
                try clear pz21_1
                refine Ew_of (pc' := 183) (fun _ => x_aload_n rfl lc179_1) ?_
                refine Ew_of (pc' := 185) (fun _ => x_iload rfl lc179_6) ?_
                refine Ew_of (pc' := 186) (fun _ => x_iconst rfl) ?_
                have hc200 : ∀ (tc200_0 : Int), ∀ (ls : rO) (σ : rS) (F_c200 : hF) (A_c200 : hA) , rlook ls 5 = some (I (tc21_0)) → rlook ls 6 = some (I (xc61_6)) → HW V135_Row σ D21 N21 F_c200 A_c200 → OUT (V135_Row).length D N σE c s D21 N21 σ (c_c164 + c21) (s_c164 + s21) → SF [] F21 F_c200 → SA [] A21 A_c200 → (inrJ (tc200_0)) → (((xc61_6) ≠ (1) ∧ (tc200_0) = (a2)) ∨ ((xc61_6) = (1) ∧ (tc200_0) = ((a2 - 256)))) → Ew 135 (d + 3) 200 ls [J (tc200_0), .ref (D21 1)] σ (c_c164 + c21) (s_c164 + s21) Q := by
                 as_aux_lemma =>
                  intro tc200_0 ls σ F_c200 A_c200  lc200_5 lc200_6 H O hS_c200 hA_c200     jc200_0 jc200_1
                  try clear pz21_1
                  have hc222 : ∀ (tc222_0 : Int), ∀ (ls : rO) (σ : rS) (F_c222 : hF) (A_c222 : hA) , HW V135_Row σ D21 N21 F_c222 A_c222 → OUT (V135_Row).length D N σE c s D21 N21 σ (c_c164 + c21) (s_c164 + s21) → SF [] F_c200 F_c222 → SA [] A_c200 A_c222 → (inr (tc222_0)) → (0 ≤ (tc222_0) ∧ (tc222_0) ≤ 8) → Ew 135 (d + 3) 222 ls [I (tc222_0), J (tc200_0), .ref (D21 1)] σ (c_c164 + c21) (s_c164 + s21) Q := by
                   as_aux_lemma =>
                    intro tc222_0 ls σ F_c222 A_c222   H O hS_c222 hA_c222     jc222_0 jc222_1
                    refine v_inv H (o := 1) rfl rfl rfl rfl rfl rfl (by rfl) (C160 (D := pul [1, 2] D21) (N := pul [1, 2] N21) (HW_sub H (VS_of (show vsub V135_Row V160 [1, 2] = true by decide +kernel))) ((((hS_c222 1 0 rfl).trans (hS_c200 1 0 rfl))).trans (pf21_1_0)) (m21_1) ((congrArg (fun q : Nat => (q : Int)) (eN21 2)).trans em21_1) (y21_0_1) ((((hS_c222 1 1 rfl).trans (hS_c200 1 1 rfl)).trans ((eF21 1 1).trans ey21_0_1))) (y21_0_2) ((((hS_c222 1 2 rfl).trans (hS_c200 1 2 rfl)).trans ((eF21 1 2).trans ey21_0_2))) (w21_1) ((funext (hA_c222 2 rfl)).trans ((funext (hA_c200 2 rfl)).trans ((eA21 2).trans ew21_1))) (show inrJ (tc200_0) by omega) (show inr (tc222_0) by omega) (show 0 ≤ (y21_0_1) ∧ (y21_0_1) ≤ (m21_1) ∧ (m21_1) ≤ 65536 by omega) (show 0 ≤ (tc222_0) ∧ (tc222_0) ≤ 8 by omega) (fun σ25 D25' N25' F25' A25' c25 s25 H' O' hD25 hN25 hS25 hA25 pm25_1 m25_1 em25_1 y25_0_1 ey25_0_1 y25_0_2 ey25_0_2 w25_1 ew25_1 pz25_0 pz25_1 pz25_2 => ⟨rfl, ?_⟩))
                    replace pm25_1 := HIDm pm25_1
                    replace em25_1 := HIDm em25_1
                    replace ey25_0_1 := HIDm ey25_0_1
                    replace ey25_0_2 := HIDm ey25_0_2
                    refine v_backM (c := (c_c164 + c21)) (s := (s_c164 + s21)) H (show vsub V135_Row V160 [1, 2] = true by decide +kernel) H' O' hD25 (show vmov V135_Row [1, 2] [1] = true by decide +kernel) (fun D25 N25 F25 A25 H O' eD25 eN25 eF25 eA25 => ?_)
                    have O := OUT_trans O O'
                    -- Row.addNumber
                    have pf25_0_0 : HID (F25 0 0 = (D25 3 : Int)) := ((show F25 0 0 = F_c222 0 0 from (eF25 0 0))).trans (((((hS_c222 0 0 rfl).trans (hS_c200 0 0 rfl))).trans (pf21_0_0)).trans (congrArg (fun q : Nat => (q : Int)) ((show D25 3 = D21 3 from (eD25 3))).symm))
                    have pf25_1_0 : HID (F25 1 0 = (D25 2 : Int)) := (eF25 1 0).trans (pm25_1.trans (congrArg (fun q : Nat => (q : Int)) (eD25 2).symm))
                    have r26 : (0 : Int) ≤ m25_1 ∧ m25_1 ≤ 1000000 := by have h1 := H.nle 2 (by decide); have h2 : (N25 2 : Int) = m25_1 := (congrArg (fun q : Nat => (q : Int)) (eN25 2)).trans em25_1; omega
                    have r27 : (-2147483648 : Int) ≤ y25_0_1 ∧ y25_0_1 ≤ 2147483647 := by have h1 : (-2147483648 : Int) ≤ F25 1 1 ∧ F25 1 1 ≤ 2147483647 := H.krg 1 1 (by decide); rw [show F25 1 1 = y25_0_1 from ((eF25 1 1).trans ey25_0_1)] at h1; exact h1
                    have r28 : (0 : Int) ≤ y25_0_2 ∧ y25_0_2 ≤ 1 := by have h1 : (0 : Int) ≤ F25 1 2 ∧ F25 1 2 ≤ 1 := H.krg 1 2 (by decide); rw [show F25 1 2 = y25_0_2 from ((eF25 1 2).trans ey25_0_2)] at h1; exact h1
                    have hc4 : (u1_1) ≤ (y25_0_1) := by omega
                    try clear pz25_1
                    exact w_ret rfl (k _ _ _ _ _ _ _ H O (SD_trans (SD_trans (SD_trans (SD_trans (SD_trans (SD_refl) (SD_glu (ι := [1, 2]) hD6 eD6 (by decide +kernel)) (any_subA (l' := [2]) rfl)) (SD_glu (ι := [1, 2]) hD14 eD14 (by decide +kernel)) (any_subA (l' := [2]) rfl)) hD_c164 (any_subA rfl)) (SD_glu (ι := [1, 2]) hD21 eD21 (by decide +kernel)) (any_subA (l' := [2]) rfl)) (SD_glu (ι := [1, 2]) hD25 eD25 (by decide +kernel)) (any_subA (l' := [2]) rfl)) (SD_trans (SD_trans (SD_trans (SD_trans (SD_trans (SD_refl) (SD_glu (ι := [1, 2]) hN6 eN6 (by decide +kernel)) (any_subA (l' := [2]) rfl)) (SD_glu (ι := [1, 2]) hN14 eN14 (by decide +kernel)) (any_subA (l' := [2]) rfl)) hN_c164 (any_subA rfl)) (SD_glu (ι := [1, 2]) hN21 eN21 (by decide +kernel)) (any_subA (l' := [2]) rfl)) (SD_glu (ι := [1, 2]) hN25 eN25 (by decide +kernel)) (any_subA (l' := [2]) rfl)) (SF_trans (SF_trans (SF_trans (SF_trans (SF_trans (SF_trans (SF_trans (SF_trans (SF_trans (SF_trans (SF_trans (SF_trans (SF_trans (SF_refl) hS_c21 (any_sub rfl)) hS_c61 (any_sub rfl)) hS_c101 (any_sub rfl)) (SF_glu (ι := [1, 2]) hS6 eF6 (by decide +kernel)) (any_sub (l' := [(1, 0), (1, 1), (1, 2)]) rfl)) hS_c126 (any_sub rfl)) hS_c139 (any_sub rfl)) (SF_glu (ι := [1, 2]) hS14 eF14 (by decide +kernel)) (any_sub (l' := [(1, 0), (1, 1), (1, 2)]) rfl)) hS_c164 (any_sub rfl)) hS_c179 (any_sub rfl)) (SF_glu (ι := [1, 2]) hS21 eF21 (by decide +kernel)) (any_sub (l' := [(1, 0), (1, 1), (1, 2)]) rfl)) hS_c200 (any_sub rfl)) hS_c222 (any_sub rfl)) (SF_glu (ι := [1, 2]) hS25 eF25 (by decide +kernel)) (any_sub (l' := [(1, 0), (1, 1), (1, 2)]) rfl)) (SA_trans (SA_trans (SA_trans (SA_trans (SA_trans (SA_trans (SA_trans (SA_trans (SA_trans (SA_trans (SA_trans (SA_trans (SA_trans (SA_refl) hA_c21 (any_subA rfl)) hA_c61 (any_subA rfl)) hA_c101 (any_subA rfl)) (SA_glu (ι := [1, 2]) hA6 eA6 (by decide +kernel)) (any_subA (l' := [2]) rfl)) hA_c126 (any_subA rfl)) hA_c139 (any_subA rfl)) (SA_glu (ι := [1, 2]) hA14 eA14 (by decide +kernel)) (any_subA (l' := [2]) rfl)) hA_c164 (any_subA rfl)) hA_c179 (any_subA rfl)) (SA_glu (ι := [1, 2]) hA21 eA21 (by decide +kernel)) (any_subA (l' := [2]) rfl)) hA_c200 (any_subA rfl)) hA_c222 (any_subA rfl)) (SA_glu (ι := [1, 2]) hA25 eA25 (by decide +kernel)) (any_subA (l' := [2]) rfl)) (pf25_1_0) (m25_1) ((congrArg (fun q : Nat => (q : Int)) (eN25 2)).trans em25_1) (y25_0_1) (((eF25 1 1).trans ey25_0_1)) (show 0 ≤ (y25_0_1) ∧ (y25_0_1) ≤ (m25_1) ∧ (m25_1) ≤ 65536 by omega) (show (u1_1) ≤ (y25_0_1) by omega))
                  refine Ew_of (pc' := 202) (fun _ => x_iload rfl lc200_6) ?_
                  refine w_ifle (t := 212) rfl rfl (show inr (xc61_6) by omega) (fun b29 => ?_) (fun b29 => ?_)
                  · refine Ew_of (pc' := 214) (fun _ => x_iload rfl lc200_5) ?_
                    refine w_ifeq (t := 221) rfl rfl (show inr (tc21_0) by omega) (fun b30 => ?_) (fun b30 => ?_)
                    · refine Ew_of (pc' := 222) (fun _ => x_iconst rfl) ?_
                      exact hc222 (0) _ _ _ _   H O (SF_refl) (SA_refl)     (show inr (0) by omega) (show 0 ≤ (0) ∧ (0) ≤ 8 by omega)
                    · refine Ew_of (pc' := 218) (fun _ => x_iconst rfl) ?_
                      refine Ew_of (pc' := 222) (fun _ => x_goto rfl rfl) ?_
                      exact hc222 (1) _ _ _ _   H O (SF_refl) (SA_refl)     (show inr (1) by omega) (show 0 ≤ (1) ∧ (1) ≤ 8 by omega)
                  · refine Ew_of (pc' := 206) (fun _ => x_iconst rfl) ?_
                    refine Ew_of (pc' := 208) (fun _ => x_iload rfl lc200_6) ?_
                    refine w_ishl1 rfl (show 0 ≤ xc61_6 ∧ xc61_6 ≤ 31 by omega) ?_
                    have hp8 : p2 ((xc61_6)) ≤ p2 2 := p2_mono (by omega)
                    have hp9 : p2 2 = 4 := by decide
                    have hp7 := p2_pos ((xc61_6))
                    refine Ew_of (pc' := 222) (fun _ => x_goto rfl rfl) ?_
                    exact hc222 (p2 (xc61_6)) _ _ _ _   H O (SF_refl) (SA_refl)     (show inr (p2 (xc61_6)) by omega) (show 0 ≤ (p2 (xc61_6)) ∧ (p2 (xc61_6)) ≤ 8 by omega)
                refine w_icmpne (t := 198) rfl rfl (show inr (xc61_6) by omega) (show inr (1) by omega) (fun b32 => ?_) (fun b32 => ?_)
                · refine Ew_of (pc' := 199) (fun _ => x_iload_n rfl lc179_2) ?_
                  refine w_i2l rfl (show inr (a2) by omega) ?_
                  refine Ew_stk (show ([J (a2), .ref (D_c164 1)] : List Value) = [J (a2), .ref (D21 1)] by rw [show D21 1 = D_c164 1 from ((show D21 1 = D_c164 1 from (eD21 1).trans (hD21 0 rfl)))]) ?_
                  exact hc200 (a2) _ _ _ _  (lc179_5) (lc179_6) H O (SF_refl) (SA_refl)     (show inrJ (a2) by omega) (show ((xc61_6) ≠ (1) ∧ (a2) = (a2)) ∨ ((xc61_6) = (1) ∧ (a2) = ((a2 - 256))) by omega)
                · refine Ew_of (pc' := 190) (fun _ => x_iload_n rfl lc179_2) ?_
                  refine Ew_of (pc' := 193) (fun _ => x_sipush (z := 256) rfl (by decide)) ?_
                  refine w_isub rfl ?_
                  refine w_i2l rfl (show inr ((a2 - 256)) by omega) ?_
                  refine Ew_of (pc' := 200) (fun _ => x_goto rfl rfl) ?_
                  refine Ew_stk (show ([J ((a2 - 256)), .ref (D_c164 1)] : List Value) = [J ((a2 - 256)), .ref (D21 1)] by rw [show D21 1 = D_c164 1 from ((show D21 1 = D_c164 1 from (eD21 1).trans (hD21 0 rfl)))]) ?_
                  exact hc200 ((a2 - 256)) _ _ _ _  (lc179_5) (lc179_6) H O (SF_refl) (SA_refl)     (show inrJ ((a2 - 256)) by omega) (show ((xc61_6) ≠ (1) ∧ ((a2 - 256)) = (a2)) ∨ ((xc61_6) = (1) ∧ ((a2 - 256)) = ((a2 - 256))) by omega)
              refine w_icmpne (t := 177) rfl rfl (show inr (xc101_7) by omega) (show inr (3) by omega) (fun b33 => ?_) (fun b33 => ?_)
              · refine Ew_of (pc' := 179) (fun _ => x_iload rfl lc164_7) ?_
                exact hc179 (xc101_7) _ _ _ _  (lc164_1) (lc164_2) (lc164_5) (lc164_6) H O (SF_refl) (SA_refl)     (show inr (xc101_7) by omega) (show ((xc101_7) ≠ (3) ∧ (xc101_7) = (xc101_7)) ∨ ((xc101_7) = (3) ∧ (xc101_7) = (4)) by omega)
              · refine Ew_of (pc' := 174) (fun _ => x_iconst rfl) ?_
                refine Ew_of (pc' := 179) (fun _ => x_goto rfl rfl) ?_
                exact hc179 (4) _ _ _ _  (lc164_1) (lc164_2) (lc164_5) (lc164_6) H O (SF_refl) (SA_refl)     (show inr (4) by omega) (show ((xc101_7) ≠ (3) ∧ (4) = (xc101_7)) ∨ ((xc101_7) = (3) ∧ (4) = (4)) by omega)
            have hc2 : (u1_1) ≤ (y14_0_1) := by omega
            try clear pz14_1
            refine Ew_of (pc' := 148) (fun _ => x_iload rfl lc139_5) ?_
            refine w_ifne (t := 164) rfl rfl (show inr (tc21_0) by omega) (fun b34 => ?_) (fun b34 => ?_)
            · exact hc164  _ _ _ _ _ _ _ _  ((lc139_1).trans (congrArg (fun q : Nat => some (Value.ref q)) (((show D14 1 = D6 1 from (eD14 1).trans (hD14 0 rfl)))).symm)) (lc139_2) (lc139_3) (lc139_5) (lc139_6) (lc139_7) H O (SD_refl) (SD_refl) (SF_refl) (SA_refl) (pf14_1_0) (m14_1) ((congrArg (fun q : Nat => (q : Int)) (eN14 2)).trans em14_1) (y14_0_1) (((eF14 1 1).trans ey14_0_1))  (show 0 ≤ (y14_0_1) ∧ (y14_0_1) ≤ (m14_1) ∧ (m14_1) ≤ 65536 by omega) (show (u1_1) ≤ (y14_0_1) by omega)
            · refine Ew_of (pc' := 152) (fun _ => x_aload_n rfl lc139_1) ?_
              refine Ew_of (pc' := 153) (fun _ => x_aload_n rfl lc139_0) ?_
              refine Ew_stk (show ([.ref (D6 0), .ref (D6 1)] : List Value) = [.ref (D14 0), .ref (D14 1)] by rw [show D14 0 = D6 0 from ((show D14 0 = D6 0 from (eD14 0))), show D14 1 = D6 1 from ((show D14 1 = D6 1 from (eD14 1).trans (hD14 0 rfl)))]) ?_
              refine v_g H (o := 0) (v := .ref (D14 3)) rfl rfl rfl rfl rfl (vrf (pf14_0_0)) ?_
              refine Ew_of (pc' := 158) (fun _ => x_bipush (z := 8) rfl (by decide)) ?_
              refine v_lI H (o := 3) rfl rfl rfl rfl (n := n3) ((congrArg (fun q : Nat => (q : Int)) (show N14 3 = N6 3 from (eN14 3))).trans ((congrArg (fun q : Nat => (q : Int)) (show N6 3 = N 3 from (eN6 3))).trans (en3))) (show 0 ≤ 8 ∧ 8 < n3 by omega) (fun v35 ev35 qv35 => ?_)
              have ev35 : (A 3) (8) = v35 := (congrFun (((show A14 3 = A_c139 3 from (eA14 3))).trans ((funext (hA_c139 3 rfl)).trans ((funext (hA_c126 3 rfl)).trans (((show A6 3 = A_c101 3 from (eA6 3))).trans ((funext (hA_c101 3 rfl)).trans ((funext (hA_c61 3 rfl)).trans (funext (hA_c21 3 rfl)))))))) (8)).symm.trans ev35
              refine Ew_of (pc' := 160) (fun _ => x_iconst rfl) ?_
              refine w_ishlA rfl (fun z36 gz36 => ?_)
              refine v_inv H (o := 1) rfl rfl rfl rfl rfl rfl (by rfl) (C159 (D := pul [1, 2] D14) (N := pul [1, 2] N14) (HW_sub H (VS_of (show vsub V135_Row V159 [1, 2] = true by decide +kernel))) (pf14_1_0) (m14_1) ((congrArg (fun q : Nat => (q : Int)) (eN14 2)).trans em14_1) (y14_0_1) (((eF14 1 1).trans ey14_0_1)) (y14_0_2) (((eF14 1 2).trans ey14_0_2)) (w14_1) ((eA14 2).trans ew14_1) (show inr (z36) by omega) (show 0 ≤ (y14_0_1) ∧ (y14_0_1) ≤ (m14_1) ∧ (m14_1) ≤ 65536 by omega) (fun σ37 D37' N37' F37' A37' c37 s37 H' O' hD37 hN37 hS37 hA37 pm37_1 m37_1 em37_1 y37_0_1 ey37_0_1 y37_0_2 ey37_0_2 w37_1 ew37_1 pz37_0 pz37_1 pz37_2 pz37_3 => ⟨rfl, ?_⟩))
              replace pm37_1 := HIDm pm37_1
              replace em37_1 := HIDm em37_1
              replace ey37_0_1 := HIDm ey37_0_1
              replace ey37_0_2 := HIDm ey37_0_2
              refine v_backM (c := ((c + c6) + c14)) (s := ((s + s6) + s14)) H (show vsub V135_Row V159 [1, 2] = true by decide +kernel) H' O' hD37 (show vmov V135_Row [1, 2] [1] = true by decide +kernel) (fun D37 N37 F37 A37 H O' eD37 eN37 eF37 eA37 => ?_)
              have O := OUT_trans O O'
              -- Row.add
              have pf37_0_0 : HID (F37 0 0 = (D37 3 : Int)) := ((show F37 0 0 = F14 0 0 from (eF37 0 0))).trans ((pf14_0_0).trans (congrArg (fun q : Nat => (q : Int)) ((show D37 3 = D14 3 from (eD37 3))).symm))
              have pf37_1_0 : HID (F37 1 0 = (D37 2 : Int)) := (eF37 1 0).trans (pm37_1.trans (congrArg (fun q : Nat => (q : Int)) (eD37 2).symm))
              have r38 : (0 : Int) ≤ m37_1 ∧ m37_1 ≤ 1000000 := by have h1 := H.nle 2 (by decide); have h2 : (N37 2 : Int) = m37_1 := (congrArg (fun q : Nat => (q : Int)) (eN37 2)).trans em37_1; omega
              have r39 : (-2147483648 : Int) ≤ y37_0_1 ∧ y37_0_1 ≤ 2147483647 := by have h1 : (-2147483648 : Int) ≤ F37 1 1 ∧ F37 1 1 ≤ 2147483647 := H.krg 1 1 (by decide); rw [show F37 1 1 = y37_0_1 from ((eF37 1 1).trans ey37_0_1)] at h1; exact h1
              have r40 : (0 : Int) ≤ y37_0_2 ∧ y37_0_2 ≤ 1 := by have h1 : (0 : Int) ≤ F37 1 2 ∧ F37 1 2 ≤ 1 := H.krg 1 2 (by decide); rw [show F37 1 2 = y37_0_2 from ((eF37 1 2).trans ey37_0_2)] at h1; exact h1
              exact hc164  _ _ _ _ _ _ _ _  ((lc139_1).trans (congrArg (fun q : Nat => some (Value.ref q)) ((((show D37 1 = D14 1 from (eD37 1).trans (hD37 0 rfl))).trans ((show D14 1 = D6 1 from (eD14 1).trans (hD14 0 rfl))))).symm)) (lc139_2) (lc139_3) (lc139_5) (lc139_6) (lc139_7) H O (SD_trans (SD_refl) (SD_glu (ι := [1, 2]) hD37 eD37 (by decide +kernel)) (any_subA (l' := [2]) rfl)) (SD_trans (SD_refl) (SD_glu (ι := [1, 2]) hN37 eN37 (by decide +kernel)) (any_subA (l' := [2]) rfl)) (SF_trans (SF_refl) (SF_glu (ι := [1, 2]) hS37 eF37 (by decide +kernel)) (any_sub (l' := [(1, 0), (1, 1), (1, 2)]) rfl)) (SA_trans (SA_refl) (SA_glu (ι := [1, 2]) hA37 eA37 (by decide +kernel)) (any_subA (l' := [2]) rfl)) (pf37_1_0) (m37_1) ((congrArg (fun q : Nat => (q : Int)) (eN37 2)).trans em37_1) (y37_0_1) (((eF37 1 1).trans ey37_0_1))  (show 0 ≤ (y37_0_1) ∧ (y37_0_1) ≤ (m37_1) ∧ (m37_1) ≤ 65536 by omega) (show (u1_1) ≤ (y37_0_1) by omega)
          refine Ew_of (pc' := 129) (fun _ => x_iload rfl lc126_4) ?_
          refine Ew_of (pc' := 130) (fun _ => x_iconst rfl) ?_
          refine w_iand rfl (show inr (v4) by omega) (show inr (1) by omega) (fun z41 gz41 gaz41 gbz41 => ?_)
          refine w_ifeq (t := 138) rfl rfl (show inr (z41) by omega) (fun b42 => ?_) (fun b42 => ?_)
          · refine Ew_of (pc' := 139) (fun _ => x_iconst rfl) ?_
            exact hc139 (0) _ _ _ _  (lc126_0) (lc126_1) (lc126_2) (lc126_3) (lc126_5) (lc126_6) (lc126_7) H O (SF_refl) (SA_refl)     (show inr (0) by omega)
          · refine Ew_of (pc' := 135) (fun _ => x_iconst rfl) ?_
            refine Ew_of (pc' := 139) (fun _ => x_goto rfl rfl) ?_
            exact hc139 (4) _ _ _ _  (lc126_0) (lc126_1) (lc126_2) (lc126_3) (lc126_5) (lc126_6) (lc126_7) H O (SF_refl) (SA_refl)     (show inr (4) by omega)
        refine w_ifeq (t := 125) rfl rfl (show inr (tc21_0) by omega) (fun b43 => ?_) (fun b43 => ?_)
        · refine Ew_of (pc' := 126) (fun _ => x_iconst rfl) ?_
          refine Ew_stk (show ([I (0), I (z10), .ref (D 1)] : List Value) = [I (0), I (z10), .ref (D6 1)] by rw [show D6 1 = D 1 from ((show D6 1 = D 1 from (eD6 1).trans (hD6 0 rfl)))]) ?_
          exact hc126 (0) _ _ _ _  ((lc101_0).trans (congrArg (fun q : Nat => some (Value.ref q)) (((show D6 0 = D 0 from (eD6 0)))).symm)) ((lc101_1).trans (congrArg (fun q : Nat => some (Value.ref q)) (((show D6 1 = D 1 from (eD6 1).trans (hD6 0 rfl)))).symm)) (lc101_2) (lc101_3) (lc101_4) (lc101_5) (lc101_6) (lc101_7) H O (SF_refl) (SA_refl)     (show inr (0) by omega) (show ((tc21_0) = (0) ∧ (0) = (0)) ∨ ((tc21_0) ≠ (0) ∧ (0) = (32)) by omega)
        · refine Ew_of (pc' := 122) (fun _ => x_bipush (z := 32) rfl (by decide)) ?_
          refine Ew_of (pc' := 126) (fun _ => x_goto rfl rfl) ?_
          refine Ew_stk (show ([I (32), I (z10), .ref (D 1)] : List Value) = [I (32), I (z10), .ref (D6 1)] by rw [show D6 1 = D 1 from ((show D6 1 = D 1 from (eD6 1).trans (hD6 0 rfl)))]) ?_
          exact hc126 (32) _ _ _ _  ((lc101_0).trans (congrArg (fun q : Nat => some (Value.ref q)) (((show D6 0 = D 0 from (eD6 0)))).symm)) ((lc101_1).trans (congrArg (fun q : Nat => some (Value.ref q)) (((show D6 1 = D 1 from (eD6 1).trans (hD6 0 rfl)))).symm)) (lc101_2) (lc101_3) (lc101_4) (lc101_5) (lc101_6) (lc101_7) H O (SF_refl) (SA_refl)     (show inr (32) by omega) (show ((tc21_0) = (0) ∧ (32) = (0)) ∨ ((tc21_0) ≠ (0) ∧ (32) = (32)) by omega)
      refine Ew_of (pc' := 66) (fun _ => x_iload rfl (rk_o (lc61_4) rfl rfl)) ?_
      refine Ew_of (pc' := 68) (fun _ => x_bipush (z := 8) rfl (by decide)) ?_
      refine w_iand rfl (show inr (v4) by omega) (show inr (8) by omega) (fun z44 gz44 gaz44 gbz44 => ?_)
      refine w_ifeq (t := 101) rfl rfl (show inr (z44) by omega) (fun b45 => ?_) (fun b45 => ?_)
      · exact hc101  _ _ _ _ (0) (rk_o (lc61_0) rfl rfl) (rk_o (lc61_1) rfl rfl) (rk_o (lc61_2) rfl rfl) (rk_o (lc61_3) rfl rfl) (rk_o (lc61_4) rfl rfl) (rk_o (lc61_5) rfl rfl) (rk_o (lc61_6) rfl rfl) (rk_s) H O (SF_refl) (SA_refl)     (show inr (0) by omega) (show 0 ≤ (0) ∧ (0) ≤ 3 by omega)
      · refine Ew_of (pc' := 73) (fun _ => x_iload_n rfl (rk_o (lc61_3) rfl rfl)) ?_
        refine w_ifeq (t := 101) rfl rfl (show inr (a3) by omega) (fun b46 => ?_) (fun b46 => ?_)
        · exact hc101  _ _ _ _ (0) (rk_o (lc61_0) rfl rfl) (rk_o (lc61_1) rfl rfl) (rk_o (lc61_2) rfl rfl) (rk_o (lc61_3) rfl rfl) (rk_o (lc61_4) rfl rfl) (rk_o (lc61_5) rfl rfl) (rk_o (lc61_6) rfl rfl) (rk_s) H O (SF_refl) (SA_refl)     (show inr (0) by omega) (show 0 ≤ (0) ∧ (0) ≤ 3 by omega)
        · refine Ew_of (pc' := 77) (fun _ => x_iload_n rfl (rk_o (lc61_3) rfl rfl)) ?_
          refine Ew_of (pc' := 79) (fun _ => x_bipush (z := 8) rfl (by decide)) ?_
          refine w_iushrA rfl (fun z47 gz47 => ?_)
          refine w_ifne (t := 87) rfl rfl (show inr (z47) by omega) (fun b48 => ?_) (fun b48 => ?_)
          · refine Ew_of (pc' := 88) (fun _ => x_iload_n rfl (rk_o (lc61_3) rfl rfl)) ?_
            refine Ew_of (pc' := 90) (fun _ => x_bipush (z := 16) rfl (by decide)) ?_
            refine w_iushrA rfl (fun z49 gz49 => ?_)
            refine w_ifne (t := 98) rfl rfl (show inr (z49) by omega) (fun b50 => ?_) (fun b50 => ?_)
            · refine Ew_of (pc' := 99) (fun _ => x_iconst rfl) ?_
              refine Ew_of (pc' := 101) (fun _ => x_istore rfl) ?_
              exact hc101  _ _ _ _ (3) (rk_o (rk_o (lc61_0) rfl rfl) rfl rfl) (rk_o (rk_o (lc61_1) rfl rfl) rfl rfl) (rk_o (rk_o (lc61_2) rfl rfl) rfl rfl) (rk_o (rk_o (lc61_3) rfl rfl) rfl rfl) (rk_o (rk_o (lc61_4) rfl rfl) rfl rfl) (rk_o (rk_o (lc61_5) rfl rfl) rfl rfl) (rk_o (rk_o (lc61_6) rfl rfl) rfl rfl) (rk_s) H O (SF_refl) (SA_refl)     (show inr (3) by omega) (show 0 ≤ (3) ∧ (3) ≤ 3 by omega)
            · refine Ew_of (pc' := 95) (fun _ => x_iconst rfl) ?_
              refine Ew_of (pc' := 99) (fun _ => x_goto rfl rfl) ?_
              refine Ew_of (pc' := 101) (fun _ => x_istore rfl) ?_
              exact hc101  _ _ _ _ (2) (rk_o (rk_o (lc61_0) rfl rfl) rfl rfl) (rk_o (rk_o (lc61_1) rfl rfl) rfl rfl) (rk_o (rk_o (lc61_2) rfl rfl) rfl rfl) (rk_o (rk_o (lc61_3) rfl rfl) rfl rfl) (rk_o (rk_o (lc61_4) rfl rfl) rfl rfl) (rk_o (rk_o (lc61_5) rfl rfl) rfl rfl) (rk_o (rk_o (lc61_6) rfl rfl) rfl rfl) (rk_s) H O (SF_refl) (SA_refl)     (show inr (2) by omega) (show 0 ≤ (2) ∧ (2) ≤ 3 by omega)
          · refine Ew_of (pc' := 84) (fun _ => x_iconst rfl) ?_
            refine Ew_of (pc' := 99) (fun _ => x_goto rfl rfl) ?_
            refine Ew_of (pc' := 101) (fun _ => x_istore rfl) ?_
            exact hc101  _ _ _ _ (1) (rk_o (rk_o (lc61_0) rfl rfl) rfl rfl) (rk_o (rk_o (lc61_1) rfl rfl) rfl rfl) (rk_o (rk_o (lc61_2) rfl rfl) rfl rfl) (rk_o (rk_o (lc61_3) rfl rfl) rfl rfl) (rk_o (rk_o (lc61_4) rfl rfl) rfl rfl) (rk_o (rk_o (lc61_5) rfl rfl) rfl rfl) (rk_o (rk_o (lc61_6) rfl rfl) rfl rfl) (rk_s) H O (SF_refl) (SA_refl)     (show inr (1) by omega) (show 0 ≤ (1) ∧ (1) ≤ 3 by omega)
    refine Ew_of (pc' := 28) (fun _ => x_iload rfl (rk_o (rk_s) rfl rfl)) ?_
    refine w_ifne (t := 38) rfl rfl (show inr (tc21_0) by omega) (fun b51 => ?_) (fun b51 => ?_)
    · refine Ew_of (pc' := 39) (fun _ => x_iload_n rfl (rk_o (rk_o (lc21_2) rfl rfl) rfl rfl)) ?_
      refine Ew_of (pc' := 42) (fun _ => x_sipush (z := 256) rfl (by decide)) ?_
      refine w_icmplt (t := 49) rfl rfl (show inr (a2) by omega) (show inr (256) by omega) (fun b52 => ?_) (fun b52 => ?_)
      · refine Ew_of (pc' := 51) (fun _ => x_iload rfl (rk_o (rk_s) rfl rfl)) ?_
        refine w_ifeq (t := 58) rfl rfl (show inr (tc21_0) by omega) (fun b53 => ?_) (fun b53 => ?_)
        · refine Ew_of (pc' := 59) (fun _ => x_iconst rfl) ?_
          refine Ew_of (pc' := 61) (fun _ => x_istore rfl) ?_
          exact hc61  _ _ _ _ (2) (rk_o (rk_o (rk_o (lc21_0) rfl rfl) rfl rfl) rfl rfl) (rk_o (rk_o (rk_o (lc21_1) rfl rfl) rfl rfl) rfl rfl) (rk_o (rk_o (rk_o (lc21_2) rfl rfl) rfl rfl) rfl rfl) (rk_o (rk_o (rk_o (lc21_3) rfl rfl) rfl rfl) rfl rfl) (rk_o (rk_o (rk_o (lc21_4) rfl rfl) rfl rfl) rfl rfl) (rk_o (rk_o (rk_s) rfl rfl) rfl rfl) (rk_s) H O (SF_refl) (SA_refl)     (show inr (2) by omega) (show 0 ≤ (2) ∧ (2) ≤ 2 by omega)
        · refine Ew_of (pc' := 55) (fun _ => x_iconst rfl) ?_
          refine Ew_of (pc' := 59) (fun _ => x_goto rfl rfl) ?_
          refine Ew_of (pc' := 61) (fun _ => x_istore rfl) ?_
          exact hc61  _ _ _ _ (0) (rk_o (rk_o (rk_o (lc21_0) rfl rfl) rfl rfl) rfl rfl) (rk_o (rk_o (rk_o (lc21_1) rfl rfl) rfl rfl) rfl rfl) (rk_o (rk_o (rk_o (lc21_2) rfl rfl) rfl rfl) rfl rfl) (rk_o (rk_o (rk_o (lc21_3) rfl rfl) rfl rfl) rfl rfl) (rk_o (rk_o (rk_o (lc21_4) rfl rfl) rfl rfl) rfl rfl) (rk_o (rk_o (rk_s) rfl rfl) rfl rfl) (rk_s) H O (SF_refl) (SA_refl)     (show inr (0) by omega) (show 0 ≤ (0) ∧ (0) ≤ 2 by omega)
      · refine Ew_of (pc' := 46) (fun _ => x_iconst rfl) ?_
        refine Ew_of (pc' := 59) (fun _ => x_goto rfl rfl) ?_
        refine Ew_of (pc' := 61) (fun _ => x_istore rfl) ?_
        exact hc61  _ _ _ _ (1) (rk_o (rk_o (rk_o (lc21_0) rfl rfl) rfl rfl) rfl rfl) (rk_o (rk_o (rk_o (lc21_1) rfl rfl) rfl rfl) rfl rfl) (rk_o (rk_o (rk_o (lc21_2) rfl rfl) rfl rfl) rfl rfl) (rk_o (rk_o (rk_o (lc21_3) rfl rfl) rfl rfl) rfl rfl) (rk_o (rk_o (rk_o (lc21_4) rfl rfl) rfl rfl) rfl rfl) (rk_o (rk_o (rk_s) rfl rfl) rfl rfl) (rk_s) H O (SF_refl) (SA_refl)     (show inr (1) by omega) (show 0 ≤ (1) ∧ (1) ≤ 2 by omega)
    · refine Ew_of (pc' := 33) (fun _ => x_iload rfl (rk_o (rk_o (lc21_4) rfl rfl) rfl rfl)) ?_
      refine Ew_of (pc' := 34) (fun _ => x_iconst rfl) ?_
      refine w_iand rfl (show inr (v4) by omega) (show inr (2) by omega) (fun z54 gz54 gaz54 gbz54 => ?_)
      refine w_ifeq (t := 61) rfl rfl (show inr (z54) by omega) (fun b55 => ?_) (fun b55 => ?_)
      · exact hc61  _ _ _ _ (0) (rk_o (rk_o (lc21_0) rfl rfl) rfl rfl) (rk_o (rk_o (lc21_1) rfl rfl) rfl rfl) (rk_o (rk_o (lc21_2) rfl rfl) rfl rfl) (rk_o (rk_o (lc21_3) rfl rfl) rfl rfl) (rk_o (rk_o (lc21_4) rfl rfl) rfl rfl) (rk_o (rk_s) rfl rfl) (rk_s) H O (SF_refl) (SA_refl)     (show inr (0) by omega) (show 0 ≤ (0) ∧ (0) ≤ 2 by omega)
      · refine Ew_of (pc' := 39) (fun _ => x_iload_n rfl (rk_o (rk_o (lc21_2) rfl rfl) rfl rfl)) ?_
        refine Ew_of (pc' := 42) (fun _ => x_sipush (z := 256) rfl (by decide)) ?_
        refine w_icmplt (t := 49) rfl rfl (show inr (a2) by omega) (show inr (256) by omega) (fun b56 => ?_) (fun b56 => ?_)
        · refine Ew_of (pc' := 51) (fun _ => x_iload rfl (rk_o (rk_s) rfl rfl)) ?_
          refine w_ifeq (t := 58) rfl rfl (show inr (tc21_0) by omega) (fun b57 => ?_) (fun b57 => ?_)
          · refine Ew_of (pc' := 59) (fun _ => x_iconst rfl) ?_
            refine Ew_of (pc' := 61) (fun _ => x_istore rfl) ?_
            exact hc61  _ _ _ _ (2) (rk_o (rk_o (rk_o (lc21_0) rfl rfl) rfl rfl) rfl rfl) (rk_o (rk_o (rk_o (lc21_1) rfl rfl) rfl rfl) rfl rfl) (rk_o (rk_o (rk_o (lc21_2) rfl rfl) rfl rfl) rfl rfl) (rk_o (rk_o (rk_o (lc21_3) rfl rfl) rfl rfl) rfl rfl) (rk_o (rk_o (rk_o (lc21_4) rfl rfl) rfl rfl) rfl rfl) (rk_o (rk_o (rk_s) rfl rfl) rfl rfl) (rk_s) H O (SF_refl) (SA_refl)     (show inr (2) by omega) (show 0 ≤ (2) ∧ (2) ≤ 2 by omega)
          · refine Ew_of (pc' := 55) (fun _ => x_iconst rfl) ?_
            refine Ew_of (pc' := 59) (fun _ => x_goto rfl rfl) ?_
            refine Ew_of (pc' := 61) (fun _ => x_istore rfl) ?_
            exact hc61  _ _ _ _ (0) (rk_o (rk_o (rk_o (lc21_0) rfl rfl) rfl rfl) rfl rfl) (rk_o (rk_o (rk_o (lc21_1) rfl rfl) rfl rfl) rfl rfl) (rk_o (rk_o (rk_o (lc21_2) rfl rfl) rfl rfl) rfl rfl) (rk_o (rk_o (rk_o (lc21_3) rfl rfl) rfl rfl) rfl rfl) (rk_o (rk_o (rk_o (lc21_4) rfl rfl) rfl rfl) rfl rfl) (rk_o (rk_o (rk_s) rfl rfl) rfl rfl) (rk_s) H O (SF_refl) (SA_refl)     (show inr (0) by omega) (show 0 ≤ (0) ∧ (0) ≤ 2 by omega)
        · refine Ew_of (pc' := 46) (fun _ => x_iconst rfl) ?_
          refine Ew_of (pc' := 59) (fun _ => x_goto rfl rfl) ?_
          refine Ew_of (pc' := 61) (fun _ => x_istore rfl) ?_
          exact hc61  _ _ _ _ (1) (rk_o (rk_o (rk_o (lc21_0) rfl rfl) rfl rfl) rfl rfl) (rk_o (rk_o (rk_o (lc21_1) rfl rfl) rfl rfl) rfl rfl) (rk_o (rk_o (rk_o (lc21_2) rfl rfl) rfl rfl) rfl rfl) (rk_o (rk_o (rk_o (lc21_3) rfl rfl) rfl rfl) rfl rfl) (rk_o (rk_o (rk_o (lc21_4) rfl rfl) rfl rfl) rfl rfl) (rk_o (rk_o (rk_s) rfl rfl) rfl rfl) (rk_s) H O (SF_refl) (SA_refl)     (show inr (1) by omega) (show 0 ≤ (1) ∧ (1) ≤ 2 by omega)
  refine Ew_of (pc' := 11) (fun _ => x_iload rfl rk_s) ?_
  refine Ew_of (pc' := 12) (fun _ => x_iconst rfl) ?_
  refine w_iand rfl (show inr (v4) by omega) (show inr (4) by omega) (fun z58 gz58 gaz58 gbz58 => ?_)
  refine w_ifeq (t := 20) rfl rfl (show inr (z58) by omega) (fun b59 => ?_) (fun b59 => ?_)
  · refine Ew_of (pc' := 21) (fun _ => x_iconst rfl) ?_
    exact hc21 (0) _ _ _ _  (rk_o (rfl) rfl rfl) (rk_o (rfl) rfl rfl) (rk_o (rfl) rfl rfl) (rk_o (rfl) rfl rfl) (rk_s) H O (SF_refl) (SA_refl)     (show inr (0) by omega) (show (0) = 0 ∨ (0) = 1 by omega)
  · refine Ew_of (pc' := 17) (fun _ => x_iconst rfl) ?_
    refine Ew_of (pc' := 21) (fun _ => x_goto rfl rfl) ?_
    exact hc21 (1) _ _ _ _  (rk_o (rfl) rfl rfl) (rk_o (rfl) rfl rfl) (rk_o (rfl) rfl rfl) (rk_o (rfl) rfl rfl) (rk_s) H O (SF_refl) (SA_refl)     (show inr (1) by omega) (show (1) = 0 ∨ (1) = 1 by omega)
abbrev V138_Br : vV := [(1, 0, [])]
/-- Packer.areSame: #1 -/
theorem C138_Br {σE : rS} {D N : Nat → Nat} {F : hF} {A : hA} {d c s : Nat} {Q : wQ} (H : HW V138_Br σE D N F A) {a2 a3 : Int} (n0 : Int) (en0 : (N 0 : Int) = n0) (w0 : Int → Int) (ew0 : A 0 = w0) (h0 : inr (a2)) (h1 : inr (a3)) (h2 : 0 ≤ (a2) ∧ (a2) ≤ 65536 ∧ (a3) ≤ (n0) ∧ (n0) ≤ 65536) (k : ∀ (z : Int) (σ : rS) (F' : hF) (A' : hA), HW V138_Br σ D N F' A' → OUT (V138_Br).length D N σE c s D N σ c s → SF [] F F' → SA [] A A' → ((z) = 0 ∨ (z) = 1) → ((z) = 1 ∨ DIF ((w0)) (a2) (a3)) → ((z) = 0 ∨ (∀ k, (a2) ≤ k → k < (a3) → ((w0)) k = ((w0)) ((a2)))) → Q (some (I z)) σ c s) : Ew 138 (d + 0) 0 (rargs 0 [.ref (D 0), I a2, I a3]) [] σE c s Q := by
  have O := OUT_refl (n := (V138_Br).length) (D := D) (N := N) (σ := σE) (c := c) (s := s)
  have HE := H
  replace en0 := HIDm en0
  have r1 : (0 : Int) ≤ n0 ∧ n0 ≤ 1000000 := by have h1 := H.nle 0 (by decide); have h2 : (N 0 : Int) = n0 := en0; omega
  refine Ew_of (pc' := 1) (fun _ => x_iload_n rfl rfl) ?_
  refine Ew_of (pc' := 2) (fun _ => x_iconst rfl) ?_
  refine w_iadd rfl ?_
  refine Ew_of (pc' := 4) (fun _ => x_istore_n rfl) ?_
  have : ∀ k, (a2) ≤ k → k < (a2) + 1 → ((w0)) k = ((w0)) ((a2)) := fun k a b => by rw [show k = (a2) by omega]
  suffices hl4 : ∀ (m : Nat), ∀ (ls : rO) (σ : rS) (F_4 : hF) (A_4 : hA) (x4_3 : Int), rlook ls 0 = some (.ref (D 0)) → rlook ls 1 = some (I (a2)) → rlook ls 2 = some (I (a3)) → rlook ls 3 = some (I (x4_3)) → HW V138_Br σ D N F_4 A_4 → OUT (V138_Br).length D N σE c s D N σ c s → SF [] F F_4 → SA [] A A_4 → (inr (x4_3)) → (((a2 + 1)) ≤ (x4_3)) → ((x4_3) ≤ ((a2 + 1)) ∨ (x4_3) ≤ ((a3))) → ((a2) + 1 ≤ (x4_3)) → (∀ k, (a2) ≤ k → k < (x4_3) → ((w0)) k = ((w0)) ((a2))) → (((a3)) - (x4_3)).toNat = m → Ew 138 (d + 0) 4 ls [] σ c s Q from
    hl4 _ _ _ _ _ ((a2 + 1)) (rk_o (rfl) rfl rfl) (rk_o (rfl) rfl rfl) (rk_o (rfl) rfl rfl) (rk_s) H O (SF_refl) (SA_refl)     (show inr ((a2 + 1)) by omega) (show ((a2 + 1)) ≤ ((a2 + 1)) by omega) (show ((a2 + 1)) ≤ ((a2 + 1)) ∨ ((a2 + 1)) ≤ ((a3)) by omega) (show (a2) + 1 ≤ ((a2 + 1)) by omega) (show ∀ k, (a2) ≤ k → k < ((a2 + 1)) → ((w0)) k = ((w0)) ((a2)) by assumption) rfl
  as_aux_lemma =>
  intro m
  induction m using Nat.strongRecOn with
  | _ m ih4 =>
    intro ls σ F_4 A_4 x4_3 l4_0 l4_1 l4_2 l4_3 H O hS_4 hA_4     j4_0 j4_1 j4_2 j4_3 j4_4 hm4
    have j4_a : ∀ k, (a2) ≤ k → k < (x4_3) → ((w0)) k = ((w0)) ((a2)) := by assumption
    obtain ⟨ql3, hql3⟩ : ∃ q : Int, q = (x4_3) := ⟨_, rfl⟩
    refine Ew_of (pc' := 5) (fun _ => x_iload_n rfl l4_3) ?_
    refine Ew_of (pc' := 6) (fun _ => x_iload_n rfl l4_2) ?_
    refine w_icmpge (t := 26) rfl rfl (show inr (x4_3) by omega) (show inr (a3) by omega) (fun b2 => ?_) (fun b2 => ?_)
    · have hsm : (1 : Int) = 1 ∨ DIF ((w0)) (a2) (a3) := .inl rfl
      have : (1 : Int) = 0 ∨ (∀ k, (a2) ≤ k → k < (a3) → ((w0)) k = ((w0)) ((a2))) := .inr (fun k a b => j4_a k a (by omega))
      refine Ew_of (pc' := 27) (fun _ => x_iconst rfl) ?_
      exact w_ireturn rfl (k (1) _ _ _ H O (SF_trans (SF_refl) hS_4 (any_sub rfl)) (SA_trans (SA_refl) hA_4 (any_subA rfl)) (show (1) = 0 ∨ (1) = 1 by omega) (show (1) = 1 ∨ DIF ((w0)) a2 a3 by assumption) (show (1) = 0 ∨ (∀ k, a2 ≤ k → k < a3 → ((w0)) k = ((w0)) (a2)) by assumption))
    · refine Ew_of (pc' := 10) (fun _ => x_aload_n rfl l4_0) ?_
      refine Ew_of (pc' := 11) (fun _ => x_iload_n rfl l4_3) ?_
      refine v_lB H (o := 0) rfl rfl rfl rfl (n := n0) (en0) (show 0 ≤ x4_3 ∧ x4_3 < n0 by omega) (fun v3 ev3 qv3 => ?_)
      have ev3 : (w0) (x4_3) = v3 := (congrFun ((funext (hA_4 0 rfl)).trans (ew0)) (x4_3)).symm.trans ev3
      refine Ew_of (pc' := 13) (fun _ => x_aload_n rfl l4_0) ?_
      refine Ew_of (pc' := 14) (fun _ => x_iload_n rfl l4_1) ?_
      refine v_lB H (o := 0) rfl rfl rfl rfl (n := n0) (en0) (show 0 ≤ a2 ∧ a2 < n0 by omega) (fun v4 ev4 qv4 => ?_)
      have ev4 : (w0) (a2) = v4 := (congrFun ((funext (hA_4 0 rfl)).trans (ew0)) (a2)).symm.trans ev4
      have hd1 := ev3
      have hd0 := ev4
      refine w_icmpeq (t := 20) rfl rfl (show inr (v3) by omega) (show inr (v4) by omega) (fun b5 => ?_) (fun b5 => ?_)
      · refine Ew_of (pc' := 23) (fun _ => x_iinc (len := 3) rfl (l4_3)) ?_
        refine Ew_of (pc' := 4) (fun _ => x_goto rfl rfl) ?_
        have : ∀ k, (a2) ≤ k → k < ((x4_3 + 1)) → ((w0)) k = ((w0)) ((a2)) := fun k a b => by by_cases e : k = ql3; (rw [e, hql3, hd1, hd0]; omega); exact j4_a k a (by omega)
        exact ih4 _ (by omega) _ _ _ _ ((x4_3 + 1)) (rk_o (l4_0) rfl rfl) (rk_o (l4_1) rfl rfl) (rk_o (l4_2) rfl rfl) (rk_s) H O (hS_4) (hA_4)     (show inr ((x4_3 + 1)) by omega) (show ((a2 + 1)) ≤ ((x4_3 + 1)) by omega) (show ((x4_3 + 1)) ≤ ((a2 + 1)) ∨ ((x4_3 + 1)) ≤ ((a3)) by omega) (show (a2) + 1 ≤ ((x4_3 + 1)) by omega) (show ∀ k, (a2) ≤ k → k < ((x4_3 + 1)) → ((w0)) k = ((w0)) ((a2)) by assumption) rfl
      · have hdf : (0 : Int) = 1 ∨ DIF ((w0)) (a2) (a3) := .inr ⟨(x4_3), by omega, by omega, by omega⟩
        have : (0 : Int) = 0 ∨ (∀ k, (a2) ≤ k → k < (a3) → ((w0)) k = ((w0)) ((a2))) := .inl rfl
        refine Ew_of (pc' := 19) (fun _ => x_iconst rfl) ?_
        exact w_ireturn rfl (k (0) _ _ _ H O (SF_trans (SF_refl) hS_4 (any_sub rfl)) (SA_trans (SA_refl) hA_4 (any_subA rfl)) (show (0) = 0 ∨ (0) = 1 by omega) (show (0) = 1 ∨ DIF ((w0)) a2 a3 by assumption) (show (0) = 0 ∨ (∀ k, a2 ≤ k → k < a3 → ((w0)) k = ((w0)) (a2)) by assumption))
abbrev V145_S7 : vV := []
/-- Packer.symbolFor:  -/
theorem C145_S7 {σE : rS} {D N : Nat → Nat} {F : hF} {A : hA} {d c s : Nat} {Q : wQ} (H : HW V145_S7 σE D N F A) (HT : STC σE) {a1 : Int} (h0 : inr (a1)) (k : ∀ (z : Int) (σ : rS) (F' : hF) (A' : hA), HW V145_S7 σ D N F' A' → OUT (V145_S7).length D N σE c s D N σ c s → SF [] F F' → SA [] A A' → (inr (z)) → (0 ≤ (z) ∧ (z) < 36) → ((z) = gsB lBs ((a1)) 36) → Q (some (I z)) σ c s) : Ew 145 (d + 0) 0 (rargs 0 [I a1, .ref 7]) [] σE c s Q := by
  have O := OUT_refl (n := (V145_S7).length) (D := D) (N := N) (σ := σE) (c := c) (s := s)
  have HE := H
  refine Ew_of (pc' := 1) (fun _ => x_aload_n rfl rfl) ?_
  refine v_stL (STC_out HT HE O) (b := 7) (n := 36) rfl rfl rfl ?_
  refine Ew_of (pc' := 3) (fun _ => x_iconst rfl) ?_
  refine w_isub rfl ?_
  refine Ew_of (pc' := 5) (fun _ => x_istore_n rfl) ?_
  have : ∀ i, 35 < i → i < 36 → (a1) < lBs i := fun i a b => absurd b (by omega)
  suffices hl5 : ∀ (m : Nat), ∀ (ls : rO) (σ : rS) (F_5 : hF) (A_5 : hA) (x5_2 : Int), rlook ls 0 = some (I (a1)) → rlook ls 1 = some (.ref 7) → rlook ls 2 = some (I (x5_2)) → HW V145_S7 σ D N F_5 A_5 → OUT (V145_S7).length D N σE c s D N σ c s → SF [] F F_5 → SA [] A A_5 → (inr (x5_2)) → (0 ≤ (x5_2) ∧ (x5_2) < 36) → (∀ i, (x5_2) < i → i < 36 → (a1) < lBs i) → ((x5_2)).toNat = m → Ew 145 (d + 0) 5 ls [] σ c s Q from
    hl5 _ _ _ _ _ ((36 - 1)) (rk_o (rfl) rfl rfl) (rk_o (rfl) rfl rfl) (rk_s) H O (SF_refl) (SA_refl)     (show inr ((36 - 1)) by omega) (show 0 ≤ ((36 - 1)) ∧ ((36 - 1)) < 36 by omega) (show ∀ i, ((36 - 1)) < i → i < 36 → (a1) < lBs i by assumption) rfl
  as_aux_lemma =>
  intro m
  induction m using Nat.strongRecOn with
  | _ m ih5 =>
    intro ls σ F_5 A_5 x5_2 l5_0 l5_1 l5_2 H O hS_5 hA_5     j5_0 j5_1 j5_2 hm5
    have j5_g : ∀ i, (x5_2) < i → i < 36 → (a1) < lBs i := by assumption
    obtain ⟨ql2, hql2⟩ : ∃ q : Int, q = (x5_2) := ⟨_, rfl⟩
    refine Ew_of (pc' := 6) (fun _ => x_iload_n rfl l5_2) ?_
    refine w_ifle (t := 22) rfl rfl (show inr (x5_2) by omega) (fun b1 => ?_) (fun b1 => ?_)
    · have : (x5_2) = gsB lBs ((a1)) 36 := (gsB_is (n := 36) (by omega) (by omega) (by first | exact .inl (by omega) | exact .inr (by omega)) (fun i a b => j5_g i a (by omega))).symm
      refine Ew_of (pc' := 23) (fun _ => x_iload_n rfl l5_2) ?_
      exact w_ireturn rfl (k (x5_2) _ _ _ H O (SF_trans (SF_refl) hS_5 (any_sub rfl)) (SA_trans (SA_refl) hA_5 (any_subA rfl)) (show inr (x5_2) by omega) (show 0 ≤ (x5_2) ∧ (x5_2) < 36 by omega) (show (x5_2) = gsB lBs (a1) 36 by assumption))
    · refine Ew_of (pc' := 10) (fun _ => x_aload_n rfl l5_1) ?_
      refine Ew_of (pc' := 11) (fun _ => x_iload_n rfl l5_2) ?_
      refine v_stI (STC_out HT HE O) (b := 7) (n := 36) rfl rfl rfl rfl (show 0 ≤ x5_2 ∧ x5_2 < 36 by omega) (fun v2 ev2 qv2 => ?_)
      have hfna : (v2) = lBs ((x5_2)) := by have h := stl_fn 7 lBs 36 (by decide +kernel) (by omega) ev2; rw [show ((((x5_2) : Int).toNat : Nat) : Int) = (x5_2) by omega] at h; exact h
      refine Ew_of (pc' := 13) (fun _ => x_iload_n rfl l5_0) ?_
      refine w_icmple (t := 22) rfl rfl (show inr (v2) by omega) (show inr (a1) by omega) (fun b3 => ?_) (fun b3 => ?_)
      · have : (x5_2) = gsB lBs ((a1)) 36 := (gsB_is (n := 36) (by omega) (by omega) (by first | exact .inl (by omega) | exact .inr (by omega)) (fun i a b => j5_g i a (by omega))).symm
        refine Ew_of (pc' := 23) (fun _ => x_iload_n rfl l5_2) ?_
        exact w_ireturn rfl (k (x5_2) _ _ _ H O (SF_trans (SF_refl) hS_5 (any_sub rfl)) (SA_trans (SA_refl) hA_5 (any_subA rfl)) (show inr (x5_2) by omega) (show 0 ≤ (x5_2) ∧ (x5_2) < 36 by omega) (show (x5_2) = gsB lBs (a1) 36 by assumption))
      · refine Ew_of (pc' := 19) (fun _ => x_iinc (len := 3) rfl (l5_2)) ?_
        refine Ew_of (pc' := 5) (fun _ => x_goto rfl rfl) ?_
        have : ∀ i, ((x5_2 + (-1))) < i → i < 36 → (a1) < lBs i := fun i a b => by by_cases e : i = ql2; (rw [e, hql2, ← hfna]; omega); exact j5_g i (by omega) b
        exact ih5 _ (by omega) _ _ _ _ ((x5_2 + (-1))) (rk_o (l5_0) rfl rfl) (rk_o (l5_1) rfl rfl) (rk_s) H O (hS_5) (hA_5)     (show inr ((x5_2 + (-1))) by omega) (show 0 ≤ ((x5_2 + (-1))) ∧ ((x5_2 + (-1))) < 36 by omega) (show ∀ i, ((x5_2 + (-1))) < i → i < 36 → (a1) < lBs i by assumption) rfl
abbrev V145_S9 : vV := []
/-- Packer.symbolFor:  -/
theorem C145_S9 {σE : rS} {D N : Nat → Nat} {F : hF} {A : hA} {d c s : Nat} {Q : wQ} (H : HW V145_S9 σE D N F A) (HT : STC σE) {a1 : Int} (h0 : inr (a1)) (k : ∀ (z : Int) (σ : rS) (F' : hF) (A' : hA), HW V145_S9 σ D N F' A' → OUT (V145_S9).length D N σE c s D N σ c s → SF [] F F' → SA [] A A' → (inr (z)) → (0 ≤ (z) ∧ (z) < 53) → ((z) = gsB mBs ((a1)) 53) → Q (some (I z)) σ c s) : Ew 145 (d + 0) 0 (rargs 0 [I a1, .ref 9]) [] σE c s Q := by
  have O := OUT_refl (n := (V145_S9).length) (D := D) (N := N) (σ := σE) (c := c) (s := s)
  have HE := H
  refine Ew_of (pc' := 1) (fun _ => x_aload_n rfl rfl) ?_
  refine v_stL (STC_out HT HE O) (b := 9) (n := 53) rfl rfl rfl ?_
  refine Ew_of (pc' := 3) (fun _ => x_iconst rfl) ?_
  refine w_isub rfl ?_
  refine Ew_of (pc' := 5) (fun _ => x_istore_n rfl) ?_
  have : ∀ i, 52 < i → i < 53 → (a1) < mBs i := fun i a b => absurd b (by omega)
  suffices hl5 : ∀ (m : Nat), ∀ (ls : rO) (σ : rS) (F_5 : hF) (A_5 : hA) (x5_2 : Int), rlook ls 0 = some (I (a1)) → rlook ls 1 = some (.ref 9) → rlook ls 2 = some (I (x5_2)) → HW V145_S9 σ D N F_5 A_5 → OUT (V145_S9).length D N σE c s D N σ c s → SF [] F F_5 → SA [] A A_5 → (inr (x5_2)) → (0 ≤ (x5_2) ∧ (x5_2) < 53) → (∀ i, (x5_2) < i → i < 53 → (a1) < mBs i) → ((x5_2)).toNat = m → Ew 145 (d + 0) 5 ls [] σ c s Q from
    hl5 _ _ _ _ _ ((53 - 1)) (rk_o (rfl) rfl rfl) (rk_o (rfl) rfl rfl) (rk_s) H O (SF_refl) (SA_refl)     (show inr ((53 - 1)) by omega) (show 0 ≤ ((53 - 1)) ∧ ((53 - 1)) < 53 by omega) (show ∀ i, ((53 - 1)) < i → i < 53 → (a1) < mBs i by assumption) rfl
  as_aux_lemma =>
  intro m
  induction m using Nat.strongRecOn with
  | _ m ih5 =>
    intro ls σ F_5 A_5 x5_2 l5_0 l5_1 l5_2 H O hS_5 hA_5     j5_0 j5_1 j5_2 hm5
    have j5_g : ∀ i, (x5_2) < i → i < 53 → (a1) < mBs i := by assumption
    obtain ⟨ql2, hql2⟩ : ∃ q : Int, q = (x5_2) := ⟨_, rfl⟩
    refine Ew_of (pc' := 6) (fun _ => x_iload_n rfl l5_2) ?_
    refine w_ifle (t := 22) rfl rfl (show inr (x5_2) by omega) (fun b1 => ?_) (fun b1 => ?_)
    · have : (x5_2) = gsB mBs ((a1)) 53 := (gsB_is (n := 53) (by omega) (by omega) (by first | exact .inl (by omega) | exact .inr (by omega)) (fun i a b => j5_g i a (by omega))).symm
      refine Ew_of (pc' := 23) (fun _ => x_iload_n rfl l5_2) ?_
      exact w_ireturn rfl (k (x5_2) _ _ _ H O (SF_trans (SF_refl) hS_5 (any_sub rfl)) (SA_trans (SA_refl) hA_5 (any_subA rfl)) (show inr (x5_2) by omega) (show 0 ≤ (x5_2) ∧ (x5_2) < 53 by omega) (show (x5_2) = gsB mBs (a1) 53 by assumption))
    · refine Ew_of (pc' := 10) (fun _ => x_aload_n rfl l5_1) ?_
      refine Ew_of (pc' := 11) (fun _ => x_iload_n rfl l5_2) ?_
      refine v_stI (STC_out HT HE O) (b := 9) (n := 53) rfl rfl rfl rfl (show 0 ≤ x5_2 ∧ x5_2 < 53 by omega) (fun v2 ev2 qv2 => ?_)
      have hfna : (v2) = mBs ((x5_2)) := by have h := stl_fn 9 mBs 53 (by decide +kernel) (by omega) ev2; rw [show ((((x5_2) : Int).toNat : Nat) : Int) = (x5_2) by omega] at h; exact h
      refine Ew_of (pc' := 13) (fun _ => x_iload_n rfl l5_0) ?_
      refine w_icmple (t := 22) rfl rfl (show inr (v2) by omega) (show inr (a1) by omega) (fun b3 => ?_) (fun b3 => ?_)
      · have : (x5_2) = gsB mBs ((a1)) 53 := (gsB_is (n := 53) (by omega) (by omega) (by first | exact .inl (by omega) | exact .inr (by omega)) (fun i a b => j5_g i a (by omega))).symm
        refine Ew_of (pc' := 23) (fun _ => x_iload_n rfl l5_2) ?_
        exact w_ireturn rfl (k (x5_2) _ _ _ H O (SF_trans (SF_refl) hS_5 (any_sub rfl)) (SA_trans (SA_refl) hA_5 (any_subA rfl)) (show inr (x5_2) by omega) (show 0 ≤ (x5_2) ∧ (x5_2) < 53 by omega) (show (x5_2) = gsB mBs (a1) 53 by assumption))
      · refine Ew_of (pc' := 19) (fun _ => x_iinc (len := 3) rfl (l5_2)) ?_
        refine Ew_of (pc' := 5) (fun _ => x_goto rfl rfl) ?_
        have : ∀ i, ((x5_2 + (-1))) < i → i < 53 → (a1) < mBs i := fun i a b => by by_cases e : i = ql2; (rw [e, hql2, ← hfna]; omega); exact j5_g i (by omega) b
        exact ih5 _ (by omega) _ _ _ _ ((x5_2 + (-1))) (rk_o (l5_0) rfl rfl) (rk_o (l5_1) rfl rfl) (rk_s) H O (hS_5) (hA_5)     (show inr ((x5_2 + (-1))) by omega) (show 0 ≤ ((x5_2 + (-1))) ∧ ((x5_2 + (-1))) < 53 by omega) (show ∀ i, ((x5_2 + (-1))) < i → i < 53 → (a1) < mBs i by assumption) rfl
abbrev V152 : vV := [(0, 6, [(4, 0), (4, 0), (4, 0), (4, 0), (4, 0), (4, 0), (4, 0), (4, 0), (4, 0), (4, 0), (4, 0), (4, 0), (4, 0), (4, 0), (4, 0), (0, 0), (0, 0), (4, 0), (4, 0)]), (0, 7, [(4, 0), (0, 0), (1, 0), (0, 0), (0, 0)]), (1, 0, []), (1, 7, []), (1, 1, []), (0, 5, [(4, 0), (4, 0), (4, 0), (4, 0), (0, 0), (0, 0), (0, 0), (4, 0), (4, 0), (0, 0), (0, 0), (0, 0), (0, 0), (0, 0), (0, 0), (0, 0), (0, 0), (0, 0), (0, 0)]), (1, 1, []), (1, 1, []), (1, 1, []), (1, 1, []), (1, 1, [])]
/-- Packer.packAdditional: this, this.packed, this.packed.bytes, this.symbols, this.numbers, this.finder, this.finder.literals, this.finder.lengths, this.symbols.0, this.symbols.1, this.symbols.2 -/
theorem C152 {σE : rS} {D N : Nat → Nat} {F : hF} {A : hA} {d c s : Nat} {Q : wQ} (H : HW V152 σE D N F A) (HT : STC σE) {a1 : Int} (pf1 : F 0 8 = (D 1 : Int)) (pf2 : F 1 0 = (D 2 : Int)) (pf3 : F 0 13 = (D 3 : Int)) (pf4 : F 0 14 = (D 4 : Int)) (pf5 : F 0 1 = (D 5 : Int)) (pf6 : F 5 1 = (D 6 : Int)) (pf7 : F 5 2 = (D 7 : Int)) (pf8 : A 3 0 = (D 8 : Int)) (pf9 : A 3 1 = (D 9 : Int)) (pf10 : A 3 2 = (D 10 : Int)) (n2 : Int) (en2 : (N 2 : Int) = n2) (n3 : Int) (en3 : (N 3 : Int) = n3) (n4 : Int) (en4 : (N 4 : Int) = n4) (n6 : Int) (en6 : (N 6 : Int) = n6) (n7 : Int) (en7 : (N 7 : Int) = n7) (n8 : Int) (en8 : (N 8 : Int) = n8) (n9 : Int) (en9 : (N 9 : Int) = n9) (n10 : Int) (en10 : (N 10 : Int) = n10) (u1_1 : Int) (eu1_1 : F 1 1 = u1_1) (u1_2 : Int) (eu1_2 : F 1 2 = u1_2) (u1_3 : Int) (eu1_3 : F 1 3 = u1_3) (u1_4 : Int) (eu1_4 : F 1 4 = u1_4) (w2 : Int → Int) (ew2 : A 2 = w2) (w4 : Int → Int) (ew4 : A 4 = w4) (w6 : Int → Int) (ew6 : A 6 = w6) (w7 : Int → Int) (ew7 : A 7 = w7) (w8 : Int → Int) (ew8 : A 8 = w8) (w9 : Int → Int) (ew9 : A 9 = w9) (w10 : Int → Int) (ew10 : A 10 = w10) (h0 : inr (a1)) (h1 : 0 ≤ (u1_1) ∧ (u1_1) ≤ (n2) ∧ (n2) ≤ 65536) (h2 : 0 ≤ (u1_4) ∧ (u1_4) ≤ 7) (h3 : (n3) = 3) (h4 : 0 ≤ (a1) ∧ (a1) < (n4) ∧ (a1) < (n6) ∧ (a1) < (n7)) (h5 : (a1) < (n8)) (h6 : (a1) < (n9)) (h7 : (a1) < (n10)) (h8 : 0 ≤ ((w8)) (a1) ∧ ((w8)) (a1) ≤ 35) (h9 : 0 ≤ ((w9)) (a1) ∧ ((w9)) (a1) ≤ 31) (h10 : 0 ≤ ((w10)) (a1) ∧ ((w10)) (a1) ≤ 52) (k : ∀ (σ : rS) (F' : hF) (A' : hA), HW V152 σ D N F' A' → OUT (V152).length D N σE c s D N σ c s → SF [(1, 1), (1, 2), (1, 3), (1, 4)] F F' → SA [2] A A' → ∀ y1_1 : Int, F' 1 1 = y1_1 → ∀ y1_2 : Int, F' 1 2 = y1_2 → ∀ y1_3 : Int, F' 1 3 = y1_3 → ∀ y1_4 : Int, F' 1 4 = y1_4 → ∀ v2 : Int → Int, A' 2 = v2 → (0 ≤ (y1_1) ∧ (y1_1) ≤ (n2) ∧ (n2) ≤ 65536) → (0 ≤ (y1_4) ∧ (y1_4) ≤ 7) → ((u1_1) ≤ (y1_1)) → (IMP (0 ≤ (u1_3) ∧ (u1_3) < p2 ((u1_4)) ∧ (u1_1) + 7 ≤ (n2) ∧ ((w9)) ((a1)) ≤ 14 ∧ (0 ≤ ((w6)) ((a1)) ∧ lBs (((w8)) ((a1))) ≤ ((w6)) ((a1)) ∧ ((w6)) ((a1)) ≤ 16384) ∧ (0 ≤ ((w7)) ((a1)) ∧ mBs (((w10)) ((a1))) ≤ ((w7)) ((a1)) ∧ ((w7)) ((a1)) ≤ 16384)) (RBA ((u1_2)) ((w2)) ((u1_1)) ((u1_3)) ((u1_4)) ((y1_2)) ((v2)) ((y1_1)) ((y1_3)) ((y1_4)) (XC ((w6)) ((w7)) ((w4)) ((w8)) ((w9)) ((w10)) ((a1))) ∧ (0 ≤ (y1_3) ∧ (y1_3) < p2 ((y1_4))) ∧ 8 * (y1_1) + (y1_4) ≤ 8 * (u1_1) + (u1_4) + 42)) → Q none σ c s) : Ew 152 (d + 1) 0 (rargs 0 [.ref (D 0), I a1]) [] σE c s Q := by
  have O := OUT_refl (n := (V152).length) (D := D) (N := N) (σ := σE) (c := c) (s := s)
  have HE := H
  have r1 : (-2147483648 : Int) ≤ u1_1 ∧ u1_1 ≤ 2147483647 := by have h1 : (-2147483648 : Int) ≤ F 1 1 ∧ F 1 1 ≤ 2147483647 := H.krg 1 1 (by decide); rw [show F 1 1 = u1_1 from (eu1_1)] at h1; exact h1
  have r2 : (0 : Int) ≤ u1_2 ∧ u1_2 ≤ 1 := by have h1 : (0 : Int) ≤ F 1 2 ∧ F 1 2 ≤ 1 := H.krg 1 2 (by decide); rw [show F 1 2 = u1_2 from (eu1_2)] at h1; exact h1
  have r3 : (-2147483648 : Int) ≤ u1_3 ∧ u1_3 ≤ 2147483647 := by have h1 : (-2147483648 : Int) ≤ F 1 3 ∧ F 1 3 ≤ 2147483647 := H.krg 1 3 (by decide); rw [show F 1 3 = u1_3 from (eu1_3)] at h1; exact h1
  have r4 : (-2147483648 : Int) ≤ u1_4 ∧ u1_4 ≤ 2147483647 := by have h1 : (-2147483648 : Int) ≤ F 1 4 ∧ F 1 4 ≤ 2147483647 := H.krg 1 4 (by decide); rw [show F 1 4 = u1_4 from (eu1_4)] at h1; exact h1
  replace pf1 := HIDm pf1
  replace pf2 := HIDm pf2
  replace pf3 := HIDm pf3
  replace pf4 := HIDm pf4
  replace pf5 := HIDm pf5
  replace pf6 := HIDm pf6
  replace pf7 := HIDm pf7
  replace pf8 := HIDm pf8
  replace pf9 := HIDm pf9
  replace pf10 := HIDm pf10
  replace en2 := HIDm en2
  replace en3 := HIDm en3
  replace en4 := HIDm en4
  replace en6 := HIDm en6
  replace en7 := HIDm en7
  replace en8 := HIDm en8
  replace en9 := HIDm en9
  replace en10 := HIDm en10
  replace eu1_1 := HIDm eu1_1
  replace eu1_2 := HIDm eu1_2
  replace eu1_3 := HIDm eu1_3
  replace eu1_4 := HIDm eu1_4
  have r5 : (0 : Int) ≤ n2 ∧ n2 ≤ 1000000 := by have h1 := H.nle 2 (by decide); have h2 : (N 2 : Int) = n2 := en2; omega
  have r6 : (0 : Int) ≤ n3 ∧ n3 ≤ 1000000 := by have h1 := H.nle 3 (by decide); have h2 : (N 3 : Int) = n3 := en3; omega
  have r7 : (0 : Int) ≤ n4 ∧ n4 ≤ 1000000 := by have h1 := H.nle 4 (by decide); have h2 : (N 4 : Int) = n4 := en4; omega
  have r8 : (0 : Int) ≤ n6 ∧ n6 ≤ 1000000 := by have h1 := H.nle 6 (by decide); have h2 : (N 6 : Int) = n6 := en6; omega
  have r9 : (0 : Int) ≤ n7 ∧ n7 ≤ 1000000 := by have h1 := H.nle 7 (by decide); have h2 : (N 7 : Int) = n7 := en7; omega
  have r10 : (0 : Int) ≤ n8 ∧ n8 ≤ 1000000 := by have h1 := H.nle 8 (by decide); have h2 : (N 8 : Int) = n8 := en8; omega
  have r11 : (0 : Int) ≤ n9 ∧ n9 ≤ 1000000 := by have h1 := H.nle 9 (by decide); have h2 : (N 9 : Int) = n9 := en9; omega
  have r12 : (0 : Int) ≤ n10 ∧ n10 ≤ 1000000 := by have h1 := H.nle 10 (by decide); have h2 : (N 10 : Int) = n10 := en10; omega
  refine Ew_of (pc' := 1) (fun _ => x_aload_n rfl rfl) ?_
  refine v_g H (o := 0) (v := .ref (D 3)) rfl rfl rfl rfl rfl (vrf (pf3)) ?_
  refine Ew_of (pc' := 5) (fun _ => x_iconst rfl) ?_
  refine v_lR H (o := 3) rfl rfl rfl rfl rfl (n := n3) (en3) (show 0 ≤ 0 ∧ 0 < n3 by omega) (z := ((D 8 : Nat) : Int)) (v := .ref (D 8)) (pf8) (vrf rfl) ?_
  refine Ew_of (pc' := 7) (fun _ => x_iload_n rfl rfl) ?_
  refine v_lI H (o := 8) rfl rfl rfl rfl (n := n8) (en8) (show 0 ≤ a1 ∧ a1 < n8 by omega) (fun v13 ev13 qv13 => ?_)
  have ev13 : (w8) (a1) = v13 := (congrFun (ew8) (a1)).symm.trans ev13
  have hy0 := ev13
  refine Ew_of (pc' := 9) (fun _ => x_istore_n rfl) ?_
  refine Ew_of (pc' := 10) (fun _ => x_aload_n rfl (rk_o (rfl) rfl rfl)) ?_
  refine v_g H (o := 0) (v := .ref (D 3)) rfl rfl rfl rfl rfl (vrf (pf3)) ?_
  refine Ew_of (pc' := 14) (fun _ => x_iconst rfl) ?_
  refine v_lR H (o := 3) rfl rfl rfl rfl rfl (n := n3) (en3) (show 0 ≤ 2 ∧ 2 < n3 by omega) (z := ((D 10 : Nat) : Int)) (v := .ref (D 10)) (pf10) (vrf rfl) ?_
  refine Ew_of (pc' := 16) (fun _ => x_iload_n rfl (rk_o (rfl) rfl rfl)) ?_
  refine v_lI H (o := 10) rfl rfl rfl rfl (n := n10) (en10) (show 0 ≤ a1 ∧ a1 < n10 by omega) (fun v14 ev14 qv14 => ?_)
  have ev14 : (w10) (a1) = v14 := (congrFun (ew10) (a1)).symm.trans ev14
  have hy2 := ev14
  refine Ew_of (pc' := 18) (fun _ => x_istore_n rfl) ?_
  refine Ew_of (pc' := 19) (fun _ => x_aload_n rfl (rk_o (rk_o (rfl) rfl rfl) rfl rfl)) ?_
  refine v_g H (o := 0) (v := .ref (D 1)) rfl rfl rfl rfl rfl (vrf (pf1)) ?_
  refine Ew_of (pc' := 23) (fun _ => x_aload_n rfl (rk_o (rk_o (rfl) rfl rfl) rfl rfl)) ?_
  refine v_g H (o := 0) (v := .ref (D 5)) rfl rfl rfl rfl rfl (vrf (pf5)) ?_
  refine v_g H (o := 5) (v := .ref (D 6)) rfl rfl rfl rfl rfl (vrf (pf6)) ?_
  refine Ew_of (pc' := 30) (fun _ => x_iload_n rfl (rk_o (rk_o (rfl) rfl rfl) rfl rfl)) ?_
  refine v_lI H (o := 6) rfl rfl rfl rfl (n := n6) (en6) (show 0 ≤ a1 ∧ a1 < n6 by omega) (fun v15 ev15 qv15 => ?_)
  have ev15 : (w6) (a1) = v15 := (congrFun (ew6) (a1)).symm.trans ev15
  have hll := ev15
  refine Ew_of (pc' := 34) (fun _ => x_getstatic rfl) ?_
  refine Ew_of (pc' := 35) (fun _ => x_iload_n rfl (rk_o (rk_s) rfl rfl)) ?_
  refine v_stI (STC_out HT HE O) (b := 7) (n := 36) rfl rfl rfl rfl (show 0 ≤ v13 ∧ v13 < 36 by omega) (fun v16 ev16 qv16 => ?_)
  have hfna : (v16) = lBs ((v13)) := by have h := stl_fn 7 lBs 36 (by decide +kernel) (by omega) ev16; rw [show ((((v13) : Int).toNat : Nat) : Int) = (v13) by omega] at h; exact h
  have hstc := stl_in 7 0 65536 (by decide) (by rw [show (stl 7).length = 36 from rfl]; omega) ev16
  refine w_isubE rfl ?_
  have g17 : inr (sbI (v15) (v16)) := toI_inr _
  refine Ew_of (pc' := 40) (fun _ => x_getstatic rfl) ?_
  refine Ew_of (pc' := 41) (fun _ => x_iload_n rfl (rk_o (rk_s) rfl rfl)) ?_
  refine v_stI (STC_out HT HE O) (b := 8) (n := 36) rfl rfl rfl rfl (show 0 ≤ v13 ∧ v13 < 36 by omega) (fun v18 ev18 qv18 => ?_)
  have hsta := stl_in 8 0 16 (by decide) (by rw [show (stl 8).length = 36 from rfl]; omega) ev18
  have hfnb : (v18) = lB ((v13)) := by have h := stl_fn 8 lB 36 (by decide +kernel) (by omega) ev18; rw [show ((((v13) : Int).toNat : Nat) : Int) = (v13) by omega] at h; exact h
  have hx1 : 0 ≤ ((w6)) ((a1)) → ((w6)) ((a1)) ≤ 65536 → btw (((sbI (v15) (v16)))) ((v18)) = btw (((w6)) ((a1)) - lBs (((w8)) ((a1)))) (lB (((w8)) ((a1)))) := fun qa qb => by rw [hll] at qa qb; rw [hfnb, hll, hy0, ← hfna, sbI_v ⟨by omega, by omega⟩]
  have hb42 : IMP (lBs (((w8)) ((a1))) ≤ 16384) ((v18) ≤ 14) := fun h => by rw [hfnb]; exact lB14 (by omega) (by rw [← hy0]; exact h)
  refine v_inv H (o := 1) rfl rfl rfl rfl rfl rfl (by rfl) (C164 (D := pul [1, 2] D) (N := pul [1, 2] N) (HW_sub H (VS_of (show vsub V152 V164 [1, 2] = true by decide +kernel))) (pf2) (n2) (en2) (u1_1) ((eu1_1)) (u1_2) ((eu1_2)) (u1_3) ((eu1_3)) (u1_4) ((eu1_4)) (w2) (ew2) (show inr ((sbI (v15) (v16))) by omega) (show inr (v18) by omega) (show 0 ≤ (u1_1) ∧ (u1_1) ≤ (n2) ∧ (n2) ≤ 65536 by omega) (show 0 ≤ (v18) ∧ (v18) ≤ 31 by omega) (show 0 ≤ (u1_4) ∧ (u1_4) ≤ 7 by omega) (fun σ19 F19' A19' H' O' hS19 hA19 y19_0_1 ey19_0_1 y19_0_2 ey19_0_2 y19_0_3 ey19_0_3 y19_0_4 ey19_0_4 w19_1 ew19_1 pz19_0 pz19_1 pz19_2 pz19_3 => ⟨rfl, ?_⟩))
  replace ey19_0_1 := HIDm ey19_0_1
  replace ey19_0_2 := HIDm ey19_0_2
  replace ey19_0_3 := HIDm ey19_0_3
  replace ey19_0_4 := HIDm ey19_0_4
  refine v_back (c := c) (s := s) H (show vsub V152 V164 [1, 2] = true by decide +kernel) H' O' (fun F19 A19 H O' eF19 eA19 => ?_)
  have O := OUT_trans O O'
  -- Row.addBits
  have r20 : (-2147483648 : Int) ≤ y19_0_1 ∧ y19_0_1 ≤ 2147483647 := by have h1 : (-2147483648 : Int) ≤ F19 1 1 ∧ F19 1 1 ≤ 2147483647 := H.krg 1 1 (by decide); rw [show F19 1 1 = y19_0_1 from ((eF19 1 1).trans ey19_0_1)] at h1; exact h1
  have r21 : (0 : Int) ≤ y19_0_2 ∧ y19_0_2 ≤ 1 := by have h1 : (0 : Int) ≤ F19 1 2 ∧ F19 1 2 ≤ 1 := H.krg 1 2 (by decide); rw [show F19 1 2 = y19_0_2 from ((eF19 1 2).trans ey19_0_2)] at h1; exact h1
  have r22 : (-2147483648 : Int) ≤ y19_0_3 ∧ y19_0_3 ≤ 2147483647 := by have h1 : (-2147483648 : Int) ≤ F19 1 3 ∧ F19 1 3 ≤ 2147483647 := H.krg 1 3 (by decide); rw [show F19 1 3 = y19_0_3 from ((eF19 1 3).trans ey19_0_3)] at h1; exact h1
  have r23 : (-2147483648 : Int) ≤ y19_0_4 ∧ y19_0_4 ≤ 2147483647 := by have h1 : (-2147483648 : Int) ≤ F19 1 4 ∧ F19 1 4 ≤ 2147483647 := H.krg 1 4 (by decide); rw [show F19 1 4 = y19_0_4 from ((eF19 1 4).trans ey19_0_4)] at h1; exact h1
  have ht1 := pz19_3
  refine Ew_of (pc' := 46) (fun _ => x_aload_n rfl (rk_o (rk_o (rfl) rfl rfl) rfl rfl)) ?_
  refine v_g H (o := 0) (v := .ref (D 1)) rfl rfl rfl rfl rfl (vrf ((((show F19 0 8 = F 0 8 from (eF19 0 8)))).trans (pf1))) ?_
  refine Ew_of (pc' := 50) (fun _ => x_aload_n rfl (rk_o (rk_o (rfl) rfl rfl) rfl rfl)) ?_
  refine v_g H (o := 0) (v := .ref (D 5)) rfl rfl rfl rfl rfl (vrf ((((show F19 0 1 = F 0 1 from (eF19 0 1)))).trans (pf5))) ?_
  refine v_g H (o := 5) (v := .ref (D 7)) rfl rfl rfl rfl rfl (vrf ((((show F19 5 2 = F 5 2 from (eF19 5 2)))).trans (pf7))) ?_
  refine Ew_of (pc' := 57) (fun _ => x_iload_n rfl (rk_o (rk_o (rfl) rfl rfl) rfl rfl)) ?_
  refine v_lI H (o := 7) rfl rfl rfl rfl (n := n7) (en7) (show 0 ≤ a1 ∧ a1 < n7 by omega) (fun v24 ev24 qv24 => ?_)
  have ev24 : (w7) (a1) = v24 := (congrFun (((show A19 7 = A 7 from (eA19 7))).trans (ew7)) (a1)).symm.trans ev24
  have hml := ev24
  refine Ew_of (pc' := 61) (fun _ => x_getstatic rfl) ?_
  refine Ew_of (pc' := 62) (fun _ => x_iload_n rfl rk_s) ?_
  refine v_stI (STC_out HT HE O) (b := 9) (n := 53) rfl rfl rfl rfl (show 0 ≤ v14 ∧ v14 < 53 by omega) (fun v25 ev25 qv25 => ?_)
  have hfnc : (v25) = mBs ((v14)) := by have h := stl_fn 9 mBs 53 (by decide +kernel) (by omega) ev25; rw [show ((((v14) : Int).toNat : Nat) : Int) = (v14) by omega] at h; exact h
  have hstd := stl_in 9 0 131072 (by decide) (by rw [show (stl 9).length = 53 from rfl]; omega) ev25
  refine w_isubE rfl ?_
  have g26 : inr (sbI (v24) (v25)) := toI_inr _
  refine Ew_of (pc' := 67) (fun _ => x_getstatic rfl) ?_
  refine Ew_of (pc' := 68) (fun _ => x_iload_n rfl rk_s) ?_
  refine v_stI (STC_out HT HE O) (b := 10) (n := 53) rfl rfl rfl rfl (show 0 ≤ v14 ∧ v14 < 53 by omega) (fun v27 ev27 qv27 => ?_)
  have hstb := stl_in 10 0 16 (by decide) (by rw [show (stl 10).length = 53 from rfl]; omega) ev27
  have hfnd : (v27) = mB ((v14)) := by have h := stl_fn 10 mB 53 (by decide +kernel) (by omega) ev27; rw [show ((((v14) : Int).toNat : Nat) : Int) = (v14) by omega] at h; exact h
  have hx2 : 0 ≤ ((w7)) ((a1)) → ((w7)) ((a1)) ≤ 65536 → btw (((sbI (v24) (v25)))) ((v27)) = btw (((w7)) ((a1)) - mBs (((w10)) ((a1)))) (mB (((w10)) ((a1)))) := fun qa qb => by rw [hml] at qa qb; rw [hfnd, hml, hy2, ← hfnc, sbI_v ⟨by omega, by omega⟩]
  have hb69 : IMP (mBs (((w10)) ((a1))) ≤ 16384) ((v27) ≤ 14) := fun h => by rw [hfnd]; exact mB14 (by omega) (by rw [← hy2]; exact h)
  refine v_inv H (o := 1) rfl rfl rfl rfl rfl rfl (by rfl) (C164 (D := pul [1, 2] D) (N := pul [1, 2] N) (HW_sub H (VS_of (show vsub V152 V164 [1, 2] = true by decide +kernel))) ((((show F19 1 0 = F 1 0 from (eF19 1 0).trans (hS19 0 0 rfl)))).trans (pf2)) (n2) (en2) (y19_0_1) (((eF19 1 1).trans ey19_0_1)) (y19_0_2) (((eF19 1 2).trans ey19_0_2)) (y19_0_3) (((eF19 1 3).trans ey19_0_3)) (y19_0_4) (((eF19 1 4).trans ey19_0_4)) (w19_1) ((eA19 2).trans ew19_1) (show inr ((sbI (v24) (v25))) by omega) (show inr (v27) by omega) (show 0 ≤ (y19_0_1) ∧ (y19_0_1) ≤ (n2) ∧ (n2) ≤ 65536 by omega) (show 0 ≤ (v27) ∧ (v27) ≤ 31 by omega) (show 0 ≤ (y19_0_4) ∧ (y19_0_4) ≤ 7 by omega) (fun σ28 F28' A28' H' O' hS28 hA28 y28_0_1 ey28_0_1 y28_0_2 ey28_0_2 y28_0_3 ey28_0_3 y28_0_4 ey28_0_4 w28_1 ew28_1 pz28_0 pz28_1 pz28_2 pz28_3 => ⟨rfl, ?_⟩))
  replace ey28_0_1 := HIDm ey28_0_1
  replace ey28_0_2 := HIDm ey28_0_2
  replace ey28_0_3 := HIDm ey28_0_3
  replace ey28_0_4 := HIDm ey28_0_4
  refine v_back (c := c) (s := s) H (show vsub V152 V164 [1, 2] = true by decide +kernel) H' O' (fun F28 A28 H O' eF28 eA28 => ?_)
  have O := OUT_trans O O'
  -- Row.addBits
  have r29 : (-2147483648 : Int) ≤ y28_0_1 ∧ y28_0_1 ≤ 2147483647 := by have h1 : (-2147483648 : Int) ≤ F28 1 1 ∧ F28 1 1 ≤ 2147483647 := H.krg 1 1 (by decide); rw [show F28 1 1 = y28_0_1 from ((eF28 1 1).trans ey28_0_1)] at h1; exact h1
  have r30 : (0 : Int) ≤ y28_0_2 ∧ y28_0_2 ≤ 1 := by have h1 : (0 : Int) ≤ F28 1 2 ∧ F28 1 2 ≤ 1 := H.krg 1 2 (by decide); rw [show F28 1 2 = y28_0_2 from ((eF28 1 2).trans ey28_0_2)] at h1; exact h1
  have r31 : (-2147483648 : Int) ≤ y28_0_3 ∧ y28_0_3 ≤ 2147483647 := by have h1 : (-2147483648 : Int) ≤ F28 1 3 ∧ F28 1 3 ≤ 2147483647 := H.krg 1 3 (by decide); rw [show F28 1 3 = y28_0_3 from ((eF28 1 3).trans ey28_0_3)] at h1; exact h1
  have r32 : (-2147483648 : Int) ≤ y28_0_4 ∧ y28_0_4 ≤ 2147483647 := by have h1 : (-2147483648 : Int) ≤ F28 1 4 ∧ F28 1 4 ≤ 2147483647 := H.krg 1 4 (by decide); rw [show F28 1 4 = y28_0_4 from ((eF28 1 4).trans ey28_0_4)] at h1; exact h1
  have ht2 := pz28_3
  refine Ew_of (pc' := 73) (fun _ => x_aload_n rfl (rk_o (rk_o (rfl) rfl rfl) rfl rfl)) ?_
  refine v_g H (o := 0) (v := .ref (D 1)) rfl rfl rfl rfl rfl (vrf (((((show F28 0 8 = F19 0 8 from (eF28 0 8))).trans ((show F19 0 8 = F 0 8 from (eF19 0 8))))).trans (pf1))) ?_
  refine Ew_of (pc' := 77) (fun _ => x_aload_n rfl (rk_o (rk_o (rfl) rfl rfl) rfl rfl)) ?_
  refine v_g H (o := 0) (v := .ref (D 4)) rfl rfl rfl rfl rfl (vrf (((((show F28 0 14 = F19 0 14 from (eF28 0 14))).trans ((show F19 0 14 = F 0 14 from (eF19 0 14))))).trans (pf4))) ?_
  refine Ew_of (pc' := 81) (fun _ => x_iload_n rfl (rk_o (rk_o (rfl) rfl rfl) rfl rfl)) ?_
  refine v_lI H (o := 4) rfl rfl rfl rfl (n := n4) (en4) (show 0 ≤ a1 ∧ a1 < n4 by omega) (fun v33 ev33 qv33 => ?_)
  have ev33 : (w4) (a1) = v33 := (congrFun (((show A28 4 = A19 4 from (eA28 4))).trans (((show A19 4 = A 4 from (eA19 4))).trans (ew4))) (a1)).symm.trans ev33
  have hnu := ev33
  refine Ew_of (pc' := 83) (fun _ => x_aload_n rfl (rk_o (rk_o (rfl) rfl rfl) rfl rfl)) ?_
  refine v_g H (o := 0) (v := .ref (D 3)) rfl rfl rfl rfl rfl (vrf (((((show F28 0 13 = F19 0 13 from (eF28 0 13))).trans ((show F19 0 13 = F 0 13 from (eF19 0 13))))).trans (pf3))) ?_
  refine Ew_of (pc' := 87) (fun _ => x_iconst rfl) ?_
  refine v_lR H (o := 3) rfl rfl rfl rfl rfl (n := n3) (en3) (show 0 ≤ 1 ∧ 1 < n3 by omega) (z := ((D 9 : Nat) : Int)) (v := .ref (D 9)) ((congrFun ((((show A28 3 = A19 3 from (eA28 3))).trans ((show A19 3 = A 3 from (eA19 3))))) 1).trans (pf9)) (vrf rfl) ?_
  refine Ew_of (pc' := 89) (fun _ => x_iload_n rfl (rk_o (rk_o (rfl) rfl rfl) rfl rfl)) ?_
  refine v_lI H (o := 9) rfl rfl rfl rfl (n := n9) (en9) (show 0 ≤ a1 ∧ a1 < n9 by omega) (fun v34 ev34 qv34 => ?_)
  have ev34 : (w9) (a1) = v34 := (congrFun (((show A28 9 = A19 9 from (eA28 9))).trans (((show A19 9 = A 9 from (eA19 9))).trans (ew9))) (a1)).symm.trans ev34
  have hy1 := ev34
  have hx3 : btw ((v33)) ((v34)) = btw (((w4)) ((a1))) (((w9)) ((a1))) := by rw [hnu, hy1]
  refine v_inv H (o := 1) rfl rfl rfl rfl rfl rfl (by rfl) (C164 (D := pul [1, 2] D) (N := pul [1, 2] N) (HW_sub H (VS_of (show vsub V152 V164 [1, 2] = true by decide +kernel))) (((((show F28 1 0 = F19 1 0 from (eF28 1 0).trans (hS28 0 0 rfl))).trans ((show F19 1 0 = F 1 0 from (eF19 1 0).trans (hS19 0 0 rfl))))).trans (pf2)) (n2) (en2) (y28_0_1) (((eF28 1 1).trans ey28_0_1)) (y28_0_2) (((eF28 1 2).trans ey28_0_2)) (y28_0_3) (((eF28 1 3).trans ey28_0_3)) (y28_0_4) (((eF28 1 4).trans ey28_0_4)) (w28_1) ((eA28 2).trans ew28_1) (show inr (v33) by omega) (show inr (v34) by omega) (show 0 ≤ (y28_0_1) ∧ (y28_0_1) ≤ (n2) ∧ (n2) ≤ 65536 by omega) (show 0 ≤ (v34) ∧ (v34) ≤ 31 by omega) (show 0 ≤ (y28_0_4) ∧ (y28_0_4) ≤ 7 by omega) (fun σ35 F35' A35' H' O' hS35 hA35 y35_0_1 ey35_0_1 y35_0_2 ey35_0_2 y35_0_3 ey35_0_3 y35_0_4 ey35_0_4 w35_1 ew35_1 pz35_0 pz35_1 pz35_2 pz35_3 => ⟨rfl, ?_⟩))
  replace ey35_0_1 := HIDm ey35_0_1
  replace ey35_0_2 := HIDm ey35_0_2
  replace ey35_0_3 := HIDm ey35_0_3
  replace ey35_0_4 := HIDm ey35_0_4
  refine v_back (c := c) (s := s) H (show vsub V152 V164 [1, 2] = true by decide +kernel) H' O' (fun F35 A35 H O' eF35 eA35 => ?_)
  have O := OUT_trans O O'
  -- Row.addBits
  have r36 : (-2147483648 : Int) ≤ y35_0_1 ∧ y35_0_1 ≤ 2147483647 := by have h1 : (-2147483648 : Int) ≤ F35 1 1 ∧ F35 1 1 ≤ 2147483647 := H.krg 1 1 (by decide); rw [show F35 1 1 = y35_0_1 from ((eF35 1 1).trans ey35_0_1)] at h1; exact h1
  have r37 : (0 : Int) ≤ y35_0_2 ∧ y35_0_2 ≤ 1 := by have h1 : (0 : Int) ≤ F35 1 2 ∧ F35 1 2 ≤ 1 := H.krg 1 2 (by decide); rw [show F35 1 2 = y35_0_2 from ((eF35 1 2).trans ey35_0_2)] at h1; exact h1
  have r38 : (-2147483648 : Int) ≤ y35_0_3 ∧ y35_0_3 ≤ 2147483647 := by have h1 : (-2147483648 : Int) ≤ F35 1 3 ∧ F35 1 3 ≤ 2147483647 := H.krg 1 3 (by decide); rw [show F35 1 3 = y35_0_3 from ((eF35 1 3).trans ey35_0_3)] at h1; exact h1
  have r39 : (-2147483648 : Int) ≤ y35_0_4 ∧ y35_0_4 ≤ 2147483647 := by have h1 : (-2147483648 : Int) ≤ F35 1 4 ∧ F35 1 4 ≤ 2147483647 := H.krg 1 4 (by decide); rw [show F35 1 4 = y35_0_4 from ((eF35 1 4).trans ey35_0_4)] at h1; exact h1
  have : IMP (0 ≤ (u1_3) ∧ (u1_3) < p2 ((u1_4)) ∧ (u1_1) + 7 ≤ (n2) ∧ ((w9)) ((a1)) ≤ 14 ∧ (0 ≤ ((w6)) ((a1)) ∧ lBs (((w8)) ((a1))) ≤ ((w6)) ((a1)) ∧ ((w6)) ((a1)) ≤ 16384) ∧ (0 ≤ ((w7)) ((a1)) ∧ mBs (((w10)) ((a1))) ≤ ((w7)) ((a1)) ∧ ((w7)) ((a1)) ≤ 16384)) (RBA ((u1_2)) ((w2)) ((u1_1)) ((u1_3)) ((u1_4)) ((y35_0_2)) ((w35_1)) ((y35_0_1)) ((y35_0_3)) ((y35_0_4)) (XC ((w6)) ((w7)) ((w4)) ((w8)) ((w9)) ((w10)) ((a1))) ∧ (0 ≤ (y35_0_3) ∧ (y35_0_3) < p2 ((y35_0_4))) ∧ 8 * (y35_0_1) + (y35_0_4) ≤ 8 * (u1_1) + (u1_4) + 42) := fun q => by obtain ⟨qa, qb, q2, q3, q4, q5⟩ := q; have q4b := q4.2.1; have q4c := q4.2.2; have q5b := q5.2.1; have q5c := q5.2.2; have e1_ := hb42 (by omega); have e2_ := hb69 (by omega); have qy := q3; rw [hy1] at qy; obtain ⟨r1, h1, b1⟩ := ht1 ⟨by omega, qa, qb, by omega⟩; have h1a := h1.1; have h1b := h1.2; obtain ⟨r2, h2, b2⟩ := ht2 ⟨by omega, h1a, h1b, by omega⟩; have h2a := h2.1; have h2b := h2.2; obtain ⟨r3, h3, b3⟩ := pz35_3 ⟨by omega, h2a, h2b, by omega⟩; rw [hx1 q4.1 (by omega)] at r1; rw [hx2 q5.1 (by omega)] at r2; rw [hx3] at r3; exact ⟨RBA_t r1 (RBA_t r2 r3), h3, by omega⟩
  exact w_ret rfl (k _ _ _ H O (SF_trans (SF_trans (SF_trans (SF_refl) (SF_glu (ι := [1, 2]) hS19 eF19 (by decide +kernel)) (any_sub (l' := [(1, 1), (1, 2), (1, 3), (1, 4)]) rfl)) (SF_glu (ι := [1, 2]) hS28 eF28 (by decide +kernel)) (any_sub (l' := [(1, 1), (1, 2), (1, 3), (1, 4)]) rfl)) (SF_glu (ι := [1, 2]) hS35 eF35 (by decide +kernel)) (any_sub (l' := [(1, 1), (1, 2), (1, 3), (1, 4)]) rfl)) (SA_trans (SA_trans (SA_trans (SA_refl) (SA_glu (ι := [1, 2]) hA19 eA19 (by decide +kernel)) (any_subA (l' := [2]) rfl)) (SA_glu (ι := [1, 2]) hA28 eA28 (by decide +kernel)) (any_subA (l' := [2]) rfl)) (SA_glu (ι := [1, 2]) hA35 eA35 (by decide +kernel)) (any_subA (l' := [2]) rfl)) (y35_0_1) (((eF35 1 1).trans ey35_0_1)) (y35_0_2) (((eF35 1 2).trans ey35_0_2)) (y35_0_3) (((eF35 1 3).trans ey35_0_3)) (y35_0_4) (((eF35 1 4).trans ey35_0_4)) (w35_1) ((eA35 2).trans ew35_1) (show 0 ≤ (y35_0_1) ∧ (y35_0_1) ≤ (n2) ∧ (n2) ≤ 65536 by omega) (show 0 ≤ (y35_0_4) ∧ (y35_0_4) ≤ 7 by omega) (show (u1_1) ≤ (y35_0_1) by omega) (show IMP (0 ≤ (u1_3) ∧ (u1_3) < p2 ((u1_4)) ∧ (u1_1) + 7 ≤ (n2) ∧ ((w9)) (a1) ≤ 14 ∧ (0 ≤ ((w6)) (a1) ∧ lBs (((w8)) (a1)) ≤ ((w6)) (a1) ∧ ((w6)) (a1) ≤ 16384) ∧ (0 ≤ ((w7)) (a1) ∧ mBs (((w10)) (a1)) ≤ ((w7)) (a1) ∧ ((w7)) (a1) ≤ 16384)) (RBA ((u1_2)) ((w2)) ((u1_1)) ((u1_3)) ((u1_4)) ((y35_0_2)) ((w35_1)) ((y35_0_1)) ((y35_0_3)) ((y35_0_4)) (XC ((w6)) ((w7)) ((w4)) ((w8)) ((w9)) ((w10)) (a1)) ∧ (0 ≤ (y35_0_3) ∧ (y35_0_3) < p2 ((y35_0_4))) ∧ 8 * (y35_0_1) + (y35_0_4) ≤ 8 * (u1_1) + (u1_4) + 42) by assumption))
abbrev V137 : vV := [(0, 6, [(4, 0), (4, 0), (4, 0), (4, 0), (4, 0), (4, 0), (4, 0), (4, 0), (4, 0), (4, 0), (4, 0), (4, 0), (4, 0), (4, 0), (4, 0), (0, 0), (0, 0), (4, 0), (4, 0)]), (1, 1, []), (1, 1, []), (0, 5, [(4, 0), (4, 0), (4, 0), (4, 0), (0, 0), (0, 0), (0, 0), (4, 0), (4, 0), (0, 0), (0, 0), (0, 0), (0, 0), (0, 0), (0, 0), (0, 0), (0, 0), (0, 0), (0, 0)])]
/-- Packer.countPacked: this, this.counts, this.modes, this.finder -/
theorem C137 {σE : rS} {D N : Nat → Nat} {F : hF} {A : hA} {d c s : Nat} {Q : wQ} (H : HW V137 σE D N F A)  (pf1 : F 0 18 = (D 1 : Int)) (pf2 : F 0 17 = (D 2 : Int)) (pf3 : F 0 1 = (D 3 : Int)) (n1 : Int) (en1 : (N 1 : Int) = n1) (n2 : Int) (en2 : (N 2 : Int) = n2) (u0_16 : Int) (eu0_16 : F 0 16 = u0_16) (u3_4 : Int) (eu3_4 : F 3 4 = u3_4) (w1 : Int → Int) (ew1 : A 1 = w1) (w2 : Int → Int) (ew2 : A 2 = w2) (h0 : (n1) = 13 ∧ (n2) = 3) (h1 : 0 ≤ (u0_16) ∧ (u0_16) ≤ 3) (h2 : M03 ((w2))) (k : ∀ (σ : rS) (F' : hF) (A' : hA), HW V137 σ D N F' A' → OUT (V137).length D N σE c s D N σ c s → SF [] F F' → SA [1] A A' → ∀ v1 : Int → Int, A' 1 = v1 → (CNP ((w1)) ((v1)) ((u0_16)) ((u3_4)) ((w2))) → Q none σ c s) : Ew 137 (d + 0) 0 (rargs 0 [.ref (D 0)]) [] σE c s Q := by
  have O := OUT_refl (n := (V137).length) (D := D) (N := N) (σ := σE) (c := c) (s := s)
  have HE := H
  have r1 : (-2147483648 : Int) ≤ u0_16 ∧ u0_16 ≤ 2147483647 := by have h1 : (-2147483648 : Int) ≤ F 0 16 ∧ F 0 16 ≤ 2147483647 := H.krg 0 16 (by decide); rw [show F 0 16 = u0_16 from (eu0_16)] at h1; exact h1
  have r2 : (-2147483648 : Int) ≤ u3_4 ∧ u3_4 ≤ 2147483647 := by have h1 : (-2147483648 : Int) ≤ F 3 4 ∧ F 3 4 ≤ 2147483647 := H.krg 3 4 (by decide); rw [show F 3 4 = u3_4 from (eu3_4)] at h1; exact h1
  replace pf1 := HIDm pf1
  replace pf2 := HIDm pf2
  replace pf3 := HIDm pf3
  replace en1 := HIDm en1
  replace en2 := HIDm en2
  replace eu0_16 := HIDm eu0_16
  replace eu3_4 := HIDm eu3_4
  have r3 : (0 : Int) ≤ n1 ∧ n1 ≤ 1000000 := by have h1 := H.nle 1 (by decide); have h2 : (N 1 : Int) = n1 := en1; omega
  have r4 : (0 : Int) ≤ n2 ∧ n2 ≤ 1000000 := by have h1 := H.nle 2 (by decide); have h2 : (N 2 : Int) = n2 := en2; omega
  have hmo : M03 ((w2)) := by assumption
  refine Ew_of (pc' := 1) (fun _ => x_aload_n rfl rfl) ?_
  refine v_g H (o := 0) (v := .ref (D 1)) rfl rfl rfl rfl rfl (vrf (pf1)) ?_
  refine Ew_of (pc' := 5) (fun _ => x_iconst rfl) ?_
  refine Ew_of (pc' := 6) (fun _ => x_dup2 rfl rfl rfl) ?_
  refine v_lI H (o := 1) rfl rfl rfl rfl (n := n1) (en1) (show 0 ≤ 3 ∧ 3 < n1 by omega) (fun v5 ev5 qv5 => ?_)
  have ev5 : (w1) (3) = v5 := (congrFun (ew1) (3)).symm.trans ev5
  have hv7 := ev5
  refine Ew_of (pc' := 8) (fun _ => x_iconst rfl) ?_
  refine w_iaddE rfl ?_
  have g6 : inr (adI (v5) (1)) := toI_inr _
  refine v_sI H (o := 1) (z := (adI (v5) (1))) rfl rfl rfl rfl (n := n1) (en1) (show 0 ≤ 3 ∧ 3 < n1 by omega) (show inr ((adI (v5) (1))) by omega) (fun σ H O' => ?_)
  have O := OUT_trans O O'
  refine Ew_of (pc' := 11) (fun _ => x_aload_n rfl rfl) ?_
  refine v_g H (o := 0) (v := .ref (D 1)) rfl rfl rfl rfl rfl (vrf (pf1)) ?_
  refine Ew_of (pc' := 15) (fun _ => x_iconst rfl) ?_
  refine Ew_of (pc' := 16) (fun _ => x_dup2 rfl rfl rfl) ?_
  refine v_lI H (o := 1) rfl rfl rfl rfl (n := n1) (en1) (show 0 ≤ 4 ∧ 4 < n1 by omega) (fun v7 ev7 qv7 => ?_)
  have ev7 : (upd1 (w1) (3) ((adI (v5) (1)))) (4) = v7 := (congrFun (congrArg (fun q => upd1 q (3) ((adI (v5) (1)))) (ew1)) (4)).symm.trans ev7
  have hv17 := ev7
  refine Ew_of (pc' := 18) (fun _ => x_aload_n rfl rfl) ?_
  refine v_g H (o := 0) (v := .ref (D 3)) rfl rfl rfl rfl rfl (vrf (pf3)) ?_
  refine v_g H (o := 3) (v := I (u3_4)) rfl rfl rfl rfl rfl (congrArg (fun z : Int => I z) ((eu3_4) : F 3 4 = u3_4)) ?_
  refine w_iaddE rfl ?_
  have g8 : inr (adI (v7) (u3_4)) := toI_inr _
  refine v_sI H (o := 1) (z := (adI (v7) (u3_4))) rfl rfl rfl rfl (n := n1) (en1) (show 0 ≤ 4 ∧ 4 < n1 by omega) (show inr ((adI (v7) (u3_4))) by omega) (fun σ H O' => ?_)
  have O := OUT_trans O O'
  refine Ew_of (pc' := 27) (fun _ => x_aload_n rfl rfl) ?_
  refine v_g H (o := 0) (v := .ref (D 1)) rfl rfl rfl rfl rfl (vrf (pf1)) ?_
  refine Ew_of (pc' := 31) (fun _ => x_iconst rfl) ?_
  refine Ew_of (pc' := 32) (fun _ => x_aload_n rfl rfl) ?_
  refine v_g H (o := 0) (v := I (u0_16)) rfl rfl rfl rfl rfl (congrArg (fun z : Int => I z) ((eu0_16) : F 0 16 = u0_16)) ?_
  refine w_iadd rfl ?_
  refine Ew_of (pc' := 37) (fun _ => x_dup2 rfl rfl rfl) ?_
  refine v_lI H (o := 1) rfl rfl rfl rfl (n := n1) (en1) (show 0 ≤ (5 + u0_16) ∧ (5 + u0_16) < n1 by omega) (fun v9 ev9 qv9 => ?_)
  have ev9 : (upd1 (upd1 (w1) (3) ((adI (v5) (1)))) (4) ((adI (v7) (u3_4)))) ((5 + u0_16)) = v9 := (congrFun (congrArg (fun q => upd1 q (4) ((adI (v7) (u3_4)))) (congrArg (fun q => upd1 q (3) ((adI (v5) (1)))) (ew1))) ((5 + u0_16))).symm.trans ev9
  have hv38 := ev9
  refine Ew_of (pc' := 39) (fun _ => x_iconst rfl) ?_
  refine w_iaddE rfl ?_
  have g10 : inr (adI (v9) (1)) := toI_inr _
  refine v_sI H (o := 1) (z := (adI (v9) (1))) rfl rfl rfl rfl (n := n1) (en1) (show 0 ≤ (5 + u0_16) ∧ (5 + u0_16) < n1 by omega) (show inr ((adI (v9) (1))) by omega) (fun σ H O' => ?_)
  have O := OUT_trans O O'
  refine Ew_of (pc' := 42) (fun _ => x_iconst rfl) ?_
  refine Ew_of (pc' := 43) (fun _ => x_istore_n rfl) ?_
  have : CNL ((w1)) ((upd1 (upd1 (upd1 (w1) (3) ((adI (v5) (1)))) (4) ((adI (v7) (u3_4)))) ((5 + u0_16)) ((adI (v9) (1))))) ((u0_16)) ((u3_4)) ((w2)) (0) := CNL_0 (by omega) hv7 hv17 hv38 rfl
  suffices hl43 : ∀ (m : Nat), ∀ (ls : rO) (σ : rS) (F_43 : hF) (A_43 : hA) (x43_1 : Int), rlook ls 0 = some (.ref (D 0)) → rlook ls 1 = some (I (x43_1)) → HW V137 σ D N F_43 A_43 → OUT (V137).length D N σE c s D N σ c s → SF [] F F_43 → SA [1] (updA (updA (updA A 1 (3) ((adI (v5) (1)))) 1 (4) ((adI (v7) (u3_4)))) 1 ((5 + u0_16)) ((adI (v9) (1)))) A_43 → ∀ w43_1 : Int → Int, A_43 1 = w43_1 → (inr (x43_1)) → (0 ≤ (x43_1) ∧ (x43_1) ≤ 3) → ((x43_1) = 0 ∨ 1 ≤ (u3_4)) → (CNL ((w1)) ((w43_1)) ((u0_16)) ((u3_4)) ((w2)) ((x43_1))) → (3 - (x43_1)).toNat = m → Ew 137 (d + 0) 43 ls [] σ c s Q from
    hl43 _ _ _ _ _ (0) (rk_o (rfl) rfl rfl) (rk_s) H O (SF_refl) (SA_refl)    (upd1 (upd1 (upd1 (w1) (3) ((adI (v5) (1)))) (4) ((adI (v7) (u3_4)))) ((5 + u0_16)) ((adI (v9) (1)))) (congrArg (fun q => upd1 q ((5 + u0_16)) ((adI (v9) (1)))) (congrArg (fun q => upd1 q (4) ((adI (v7) (u3_4)))) (congrArg (fun q => upd1 q (3) ((adI (v5) (1)))) (ew1)))) (show inr (0) by omega) (show 0 ≤ (0) ∧ (0) ≤ 3 by omega) (show (0) = 0 ∨ 1 ≤ (u3_4) by omega) (show CNL ((w1)) ((upd1 (upd1 (upd1 (w1) (3) ((adI (v5) (1)))) (4) ((adI (v7) (u3_4)))) ((5 + u0_16)) ((adI (v9) (1))))) ((u0_16)) ((u3_4)) ((w2)) ((0)) by assumption) rfl
  as_aux_lemma =>
  intro m
  induction m using Nat.strongRecOn with
  | _ m ih43 =>
    intro ls σ F_43 A_43 x43_1 l43_0 l43_1 H O hS_43 hA_43    w43_1 ew43_1 j43_0 j43_1 j43_2 j43_3 hm43
    have j43_c : CNL ((w1)) ((w43_1)) ((u0_16)) ((u3_4)) ((w2)) ((x43_1)) := by assumption
    refine Ew_of (pc' := 44) (fun _ => x_iload_n rfl l43_1) ?_
    refine Ew_of (pc' := 45) (fun _ => x_iconst rfl) ?_
    refine w_icmpge (t := 82) rfl rfl (show inr (x43_1) by omega) (show inr (3) by omega) (fun b11 => ?_) (fun b11 => ?_)
    · have : CNP ((w1)) ((w43_1)) ((u0_16)) ((u3_4)) ((w2)) := CNL_e j43_c (by omega)
      exact w_ret rfl (k _ _ _ H O (SF_trans (SF_refl) hS_43 (any_sub rfl)) (SA_trans (SA_upd (SA_upd (SA_upd (SA_refl) rfl) rfl) rfl) hA_43 (any_subA rfl)) (w43_1) (ew43_1) (show CNP ((w1)) ((w43_1)) ((u0_16)) ((u3_4)) ((w2)) by assumption))
    · refine Ew_of (pc' := 49) (fun _ => x_aload_n rfl l43_0) ?_
      refine v_g H (o := 0) (v := .ref (D 3)) rfl rfl rfl rfl rfl (vrf (((hS_43 0 1 rfl)).trans (pf3))) ?_
      refine v_g H (o := 3) (v := I (u3_4)) rfl rfl rfl rfl rfl (congrArg (fun z : Int => I z) (((hS_43 3 4 rfl).trans (eu3_4)) : F_43 3 4 = u3_4)) ?_
      refine w_ifle (t := 82) rfl rfl (show inr (u3_4) by omega) (fun b12 => ?_) (fun b12 => ?_)
      · have : CNP ((w1)) ((w43_1)) ((u0_16)) ((u3_4)) ((w2)) := CNL_e j43_c (by omega)
        exact w_ret rfl (k _ _ _ H O (SF_trans (SF_refl) hS_43 (any_sub rfl)) (SA_trans (SA_upd (SA_upd (SA_upd (SA_refl) rfl) rfl) rfl) hA_43 (any_subA rfl)) (w43_1) (ew43_1) (show CNP ((w1)) ((w43_1)) ((u0_16)) ((u3_4)) ((w2)) by assumption))
      · refine Ew_of (pc' := 59) (fun _ => x_aload_n rfl l43_0) ?_
        refine v_g H (o := 0) (v := .ref (D 1)) rfl rfl rfl rfl rfl (vrf (((hS_43 0 18 rfl)).trans (pf1))) ?_
        refine Ew_of (pc' := 64) (fun _ => x_bipush (z := 9) rfl (by decide)) ?_
        refine Ew_of (pc' := 65) (fun _ => x_aload_n rfl l43_0) ?_
        refine v_g H (o := 0) (v := .ref (D 2)) rfl rfl rfl rfl rfl (vrf (((hS_43 0 17 rfl)).trans (pf2))) ?_
        refine Ew_of (pc' := 69) (fun _ => x_iload_n rfl l43_1) ?_
        refine v_lI H (o := 2) rfl rfl rfl rfl (n := n2) (en2) (show 0 ≤ x43_1 ∧ x43_1 < n2 by omega) (fun v13 ev13 qv13 => ?_)
        have ev13 : (w2) (x43_1) = v13 := (congrFun ((funext (hA_43 2 rfl)).trans (ew2)) (x43_1)).symm.trans ev13
        have hmv := hmo ((x43_1)) (by omega) (by omega)
        have hm70 := ev13
        rw [hm70] at hmv
        refine w_iadd rfl ?_
        refine Ew_of (pc' := 72) (fun _ => x_dup2 rfl rfl rfl) ?_
        refine v_lI H (o := 1) rfl rfl rfl rfl (n := n1) (en1) (show 0 ≤ (9 + v13) ∧ (9 + v13) < n1 by omega) (fun v14 ev14 qv14 => ?_)
        have ev14 : (w43_1) ((9 + v13)) = v14 := (congrFun (ew43_1) ((9 + v13))).symm.trans ev14
        have hv73 := ev14
        refine Ew_of (pc' := 74) (fun _ => x_iconst rfl) ?_
        refine w_iaddE rfl ?_
        have g15 : inr (adI (v14) (1)) := toI_inr _
        refine v_sI H (o := 1) (z := (adI (v14) (1))) rfl rfl rfl rfl (n := n1) (en1) (show 0 ≤ (9 + v13) ∧ (9 + v13) < n1 by omega) (show inr ((adI (v14) (1))) by omega) (fun σ H O' => ?_)
        have O := OUT_trans O O'
        refine Ew_of (pc' := 79) (fun _ => x_iinc (len := 3) rfl (l43_1)) ?_
        refine Ew_of (pc' := 43) (fun _ => x_goto rfl rfl) ?_
        have : CNL ((w1)) ((upd1 (w43_1) ((9 + v13)) ((adI (v14) (1))))) ((u0_16)) ((u3_4)) ((w2)) (((x43_1 + 1))) := CNL_s j43_c (by omega) rfl hm70 (by omega) hv73 rfl
        exact ih43 _ (by omega) _ _ _ _ ((x43_1 + 1)) (rk_o (l43_0) rfl rfl) (rk_s) H O (hS_43) (SA_upd (hA_43) rfl)    (upd1 (w43_1) ((9 + v13)) ((adI (v14) (1)))) (congrArg (fun q => upd1 q ((9 + v13)) ((adI (v14) (1)))) (ew43_1)) (show inr ((x43_1 + 1)) by omega) (show 0 ≤ ((x43_1 + 1)) ∧ ((x43_1 + 1)) ≤ 3 by omega) (show ((x43_1 + 1)) = 0 ∨ 1 ≤ (u3_4) by omega) (show CNL ((w1)) ((upd1 (w43_1) ((9 + v13)) ((adI (v14) (1))))) ((u0_16)) ((u3_4)) ((w2)) (((x43_1 + 1))) by assumption) rfl
abbrev V141_Codes : vV := [(0, 6, [(4, 0), (4, 0), (4, 0), (4, 0), (4, 0), (4, 0), (4, 0), (4, 0), (4, 0), (4, 0), (4, 0), (4, 0), (4, 0), (4, 0), (4, 0), (0, 0), (0, 0), (4, 0), (4, 0)]), (0, 3, [(4, 0), (4, 0), (4, 0), (0, 0), (4, 0), (4, 0), (4, 0), (4, 0), (4, 0), (4, 0), (4, 0), (4, 0), (4, 0), (0, 0), (0, 0), (0, 0), (0, 0)]), (0, 7, [(4, 0), (0, 0), (1, 0), (0, 0), (0, 0)]), (1, 0, []), (1, 1, [])]
set_option maxHeartbeats 16000000 in
/-- Packer.codedSize: this, #1, this.literals, this.literals.bytes, #1.lengths -/
theorem C141_Codes {σE : rS} {D N : Nat → Nat} {F : hF} {A : hA} {d c s : Nat} {Q : wQ} (H : HW V141_Codes σE D N F A) {a2 : Int} (pf2 : F 0 9 = (D 2 : Int)) (pf3 : F 2 0 = (D 3 : Int)) (pf4 : F 1 0 = (D 4 : Int)) (n3 : Int) (en3 : (N 3 : Int) = n3) (n4 : Int) (en4 : (N 4 : Int) = n4) (u1_3 : Int) (eu1_3 : F 1 3 = u1_3) (u2_1 : Int) (eu2_1 : F 2 1 = u2_1) (w3 : Int → Int) (ew3 : A 3 = w3) (w4 : Int → Int) (ew4 : A 4 = w4) (h0 : inr (a2)) (h1 : 0 ≤ (u2_1) ∧ (u2_1) ≤ (n3) ∧ (n3) ≤ 65536) (h2 : 0 ≤ (a2) ∧ (a2) ≤ 65536) (h3 : 0 ≤ (u1_3) ∧ (u1_3) ≤ 11) (h4 : LNG ((w4)) ((u1_3))) (h5 : (n4) = 256) (k : ∀ (z : Int) (σ : rS) (F' : hF) (A' : hA), HW V141_Codes σ D N F' A' → OUT (V141_Codes).length D N σE c s D N σ c s → SF [] F F' → SA [] A A' → (inr (z)) → (0 ≤ (z) ∧ (z) ≤ 1000000) → (CZF ((w4)) (ub8 ((w3))) ((u2_1)) ((a2)) ((z))) → Q (some (I z)) σ c s) : Ew 141 (d + 1) 0 (rargs 0 [.ref (D 0), .ref (D 1), I a2]) [] σE c s Q := by
  have O := OUT_refl (n := (V141_Codes).length) (D := D) (N := N) (σ := σE) (c := c) (s := s)
  have HE := H
  have r1 : (-2147483648 : Int) ≤ u1_3 ∧ u1_3 ≤ 2147483647 := by have h1 : (-2147483648 : Int) ≤ F 1 3 ∧ F 1 3 ≤ 2147483647 := H.krg 1 3 (by decide); rw [show F 1 3 = u1_3 from (eu1_3)] at h1; exact h1
  have r2 : (-2147483648 : Int) ≤ u2_1 ∧ u2_1 ≤ 2147483647 := by have h1 : (-2147483648 : Int) ≤ F 2 1 ∧ F 2 1 ≤ 2147483647 := H.krg 2 1 (by decide); rw [show F 2 1 = u2_1 from (eu2_1)] at h1; exact h1
  replace pf2 := HIDm pf2
  replace pf3 := HIDm pf3
  replace pf4 := HIDm pf4
  replace en3 := HIDm en3
  replace en4 := HIDm en4
  replace eu1_3 := HIDm eu1_3
  replace eu2_1 := HIDm eu2_1
  have r3 : (0 : Int) ≤ n3 ∧ n3 ≤ 1000000 := by have h1 := H.nle 3 (by decide); have h2 : (N 3 : Int) = n3 := en3; omega
  have r4 : (0 : Int) ≤ n4 ∧ n4 ≤ 1000000 := by have h1 := H.nle 4 (by decide); have h2 : (N 4 : Int) = n4 := en4; omega
  have hln0 : LNG ((w4)) ((u1_3)) := by assumption
  have hgn : ∀ k, 0 ≤ ((w4)) ((ub8 ((w3))) k) := fun k => (hln0 _ (u8_rng _).1 (by have := u8_rng (((w3)) k); show u8 _ < 256; omega)).1
  refine Ew_of (pc' := 1) (fun _ => x_aload_n rfl rfl) ?_
  refine v_g H (o := 0) (v := .ref (D 2)) rfl rfl rfl rfl rfl (vrf (pf2)) ?_
  refine v_g H (o := 2) (v := I (u2_1)) rfl rfl rfl rfl rfl (congrArg (fun z : Int => I z) ((eu2_1) : F 2 1 = u2_1)) ?_
  refine Ew_of (pc' := 8) (fun _ => x_istore_n rfl) ?_
  refine Ew_of (pc' := 9) (fun _ => x_iload_n rfl rk_s) ?_
  refine Ew_of (pc' := 12) (fun _ => x_sipush (z := 1024) rfl (by decide)) ?_
  have hc20 : ∀ (tc20_0 : Int), ∀ (ls : rO) (σ : rS) (F_c20 : hF) (A_c20 : hA) , rlook ls 0 = some (.ref (D 0)) → rlook ls 1 = some (.ref (D 1)) → rlook ls 2 = some (I (a2)) → rlook ls 3 = some (I (u2_1)) → HW V141_Codes σ D N F_c20 A_c20 → OUT (V141_Codes).length D N σE c s D N σ c s → SF [] F F_c20 → SA [] A A_c20 → (inr (tc20_0)) → (((u2_1) ≥ (1024) ∧ (tc20_0) = (4)) ∨ ((u2_1) < (1024) ∧ (tc20_0) = (1))) → Ew 141 (d + 1) 20 ls [I (tc20_0)] σ c s Q := by
   as_aux_lemma =>
    intro tc20_0 ls σ F_c20 A_c20  lc20_0 lc20_1 lc20_2 lc20_3 H O hS_c20 hA_c20     jc20_0 jc20_1
    refine Ew_of (pc' := 22) (fun _ => x_istore rfl) ?_
    refine Ew_of (pc' := 23) (fun _ => x_iload_n rfl (rk_o (lc20_3) rfl rfl)) ?_
    refine Ew_of (pc' := 25) (fun _ => x_iload rfl rk_s) ?_
    refine w_iadd rfl ?_
    refine Ew_of (pc' := 27) (fun _ => x_iconst rfl) ?_
    refine w_isub rfl ?_
    refine Ew_of (pc' := 30) (fun _ => x_iload rfl rk_s) ?_
    refine w_idiv rfl (show inr (((u2_1 + tc20_0) - 1)) ∧ 0 ≤ ((u2_1 + tc20_0) - 1) by omega) (show inr (tc20_0) ∧ 0 < tc20_0 by omega) ?_
    have hea : 0 ≤ (((((u2_1 + tc20_0) - 1) / tc20_0)) : Int) ∧ (((((u2_1 + tc20_0) - 1) / tc20_0)) : Int) ≤ 65536 := by rcases (show ((tc20_0) : Int) = 1 ∨ ((tc20_0) : Int) = 4 by omega) with q | q <;> rw [q] <;> omega
    have hec : ((tc20_0) : Int) = 1 ∧ (((((u2_1 + tc20_0) - 1) / tc20_0)) : Int) = (u2_1) ∨ ((tc20_0) : Int) = 4 ∧ (((((u2_1 + tc20_0) - 1) / tc20_0)) : Int) = ((u2_1) + 3) / 4 := by rcases (show ((tc20_0) : Int) = 1 ∨ ((tc20_0) : Int) = 4 by omega) with q | q; (left; rw [q]; omega); (right; rw [q]; omega)
    refine Ew_of (pc' := 33) (fun _ => x_istore rfl) ?_
    refine Ew_of (pc' := 34) (fun _ => x_iload_n rfl (rk_o (rk_o (lc20_2) rfl rfl) rfl rfl)) ?_
    refine Ew_of (pc' := 36) (fun _ => x_iload rfl (rk_o (rk_s) rfl rfl)) ?_
    refine Ew_of (pc' := 37) (fun _ => x_iconst rfl) ?_
    have hc46 : ∀ (tc46_0 : Int), ∀ (ls : rO) (σ : rS) (F_c46 : hF) (A_c46 : hA) , rlook ls 0 = some (.ref (D 0)) → rlook ls 1 = some (.ref (D 1)) → rlook ls 3 = some (I (u2_1)) → rlook ls 4 = some (I (tc20_0)) → rlook ls 5 = some (I ((((u2_1 + tc20_0) - 1) / tc20_0))) → HW V141_Codes σ D N F_c46 A_c46 → OUT (V141_Codes).length D N σE c s D N σ c s → SF [] F_c20 F_c46 → SA [] A_c20 A_c46 → (inr (tc46_0)) → (((tc20_0) ≠ (4) ∧ (tc46_0) = (0)) ∨ ((tc20_0) = (4) ∧ (tc46_0) = (6))) → Ew 141 (d + 1) 46 ls [I (tc46_0), I (a2)] σ c s Q := by
     as_aux_lemma =>
      intro tc46_0 ls σ F_c46 A_c46  lc46_0 lc46_1 lc46_3 lc46_4 lc46_5 H O hS_c46 hA_c46     jc46_0 jc46_1
      refine w_iadd rfl ?_
      obtain ⟨qb, hqb⟩ : ∃ q : Int, q = ((a2 + tc46_0)) := ⟨_, rfl⟩
      have hqb2 : (tc20_0) = 1 ∧ qb = (a2) ∨ (tc20_0) = 4 ∧ qb = (a2) + 6 := by omega
      refine Ew_of (pc' := 49) (fun _ => x_istore rfl) ?_
      refine Ew_of (pc' := 50) (fun _ => x_iconst rfl) ?_
      refine Ew_of (pc' := 52) (fun _ => x_istore rfl) ?_
      have : ((a2 + tc46_0)) = qb + PZ ((w4)) (ub8 ((w3))) ((u2_1)) (((((u2_1 + tc20_0) - 1) / tc20_0))) ((0) : Int).toNat := by rw [PZ_0 (by omega)]; omega
      have : ∀ k, 0 ≤ k → k < mnI ((u2_1)) ((0) * ((((u2_1 + tc20_0) - 1) / tc20_0))) → ((w4)) ((ub8 ((w3))) k) ≠ 0 := fun k a b => by rw [Int.zero_mul, mnI_r (by omega)] at b; omega
      suffices hl52 : ∀ (m : Nat), ∀ (ls : rO) (σ : rS) (F_52 : hF) (A_52 : hA) (x52_6 : Int) (x52_7 : Int), rlook ls 0 = some (.ref (D 0)) → rlook ls 1 = some (.ref (D 1)) → rlook ls 3 = some (I (u2_1)) → rlook ls 4 = some (I (tc20_0)) → rlook ls 5 = some (I ((((u2_1 + tc20_0) - 1) / tc20_0))) → rlook ls 6 = some (I (x52_6)) → rlook ls 7 = some (I (x52_7)) → HW V141_Codes σ D N F_52 A_52 → OUT (V141_Codes).length D N σE c s D N σ c s → SF [] F_c46 F_52 → SA [] A_c46 A_52 → (inr (x52_6)) → (inr (x52_7)) → ((0) ≤ (x52_7)) → ((x52_7) ≤ (0) ∨ (x52_7) ≤ ((tc20_0))) → (0 ≤ (x52_6) ∧ (x52_6) ≤ 65542 + 100000 * (x52_7)) → ((x52_6) = qb + PZ ((w4)) (ub8 ((w3))) ((u2_1)) (((((u2_1 + tc20_0) - 1) / tc20_0))) ((x52_7) : Int).toNat) → (∀ k, 0 ≤ k → k < mnI ((u2_1)) ((x52_7) * ((((u2_1 + tc20_0) - 1) / tc20_0))) → ((w4)) ((ub8 ((w3))) k) ≠ 0) → (((tc20_0)) - (x52_7)).toNat = m → Ew 141 (d + 1) 52 ls [] σ c s Q from
        hl52 _ _ _ _ _ ((a2 + tc46_0)) (0) (rk_o (rk_o (lc46_0) rfl rfl) rfl rfl) (rk_o (rk_o (lc46_1) rfl rfl) rfl rfl) (rk_o (rk_o (lc46_3) rfl rfl) rfl rfl) (rk_o (rk_o (lc46_4) rfl rfl) rfl rfl) (rk_o (rk_o (lc46_5) rfl rfl) rfl rfl) (rk_o (rk_s) rfl rfl) (rk_s) H O (SF_refl) (SA_refl)     (show inr ((a2 + tc46_0)) by omega) (show inr (0) by omega) (show (0) ≤ (0) by omega) (show (0) ≤ (0) ∨ (0) ≤ ((tc20_0)) by omega) (show 0 ≤ ((a2 + tc46_0)) ∧ ((a2 + tc46_0)) ≤ 65542 + 100000 * (0) by omega) (show ((a2 + tc46_0)) = qb + PZ ((w4)) (ub8 ((w3))) ((u2_1)) (((((u2_1 + tc20_0) - 1) / tc20_0))) ((0) : Int).toNat by assumption) (show ∀ k, 0 ≤ k → k < mnI ((u2_1)) ((0) * ((((u2_1 + tc20_0) - 1) / tc20_0))) → ((w4)) ((ub8 ((w3))) k) ≠ 0 by assumption) rfl
      as_aux_lemma =>
      intro m
      induction m using Nat.strongRecOn with
      | _ m ih52 =>
        intro ls σ F_52 A_52 x52_6 x52_7 l52_0 l52_1 l52_3 l52_4 l52_5 l52_6 l52_7 H O hS_52 hA_52     j52_0 j52_1 j52_2 j52_3 j52_4 j52_5 j52_6 hm52
        have j52_s : (x52_6) = qb + PZ ((w4)) (ub8 ((w3))) ((u2_1)) (((((u2_1 + tc20_0) - 1) / tc20_0))) ((x52_7) : Int).toNat := by assumption
        have j52_c : ∀ k, 0 ≤ k → k < mnI ((u2_1)) ((x52_7) * ((((u2_1 + tc20_0) - 1) / tc20_0))) → ((w4)) ((ub8 ((w3))) k) ≠ 0 := by assumption
        refine Ew_of (pc' := 54) (fun _ => x_iload rfl l52_7) ?_
        refine Ew_of (pc' := 56) (fun _ => x_iload rfl l52_4) ?_
        refine w_icmpge (t := 108) rfl rfl (show inr (x52_7) by omega) (show inr (tc20_0) by omega) (fun b5 => ?_) (fun b5 => ?_)
        · have hcod : ∀ k, 0 ≤ k → k < (u2_1) → ((w4)) ((ub8 ((w3))) k) ≠ 0 := fun k a b => j52_c k a (by rcases hec with ⟨q, q2⟩ | ⟨q, q2⟩; (rw [show (x52_7) = 1 by omega, Int.one_mul, q2, mnI_l (Int.le_refl _)]; omega); (rw [show (x52_7) = 4 by omega, mnI_l (by omega)]; omega))
          have htot : (x52_6) = (a2) + STZ ((w4)) (ub8 ((w3))) ((u2_1)) := by rcases hec with ⟨q, q2⟩ | ⟨q, q2⟩; (have h := j52_s; rw [show (x52_7) = 1 by omega, q2, PZ_1 (by omega)] at h; omega); (have h := j52_s; rw [show (x52_7) = 4 by omega] at h; have h4 := PZ_4 (G := ((w4))) (L := (ub8 ((w3)))) (n := (u2_1)) (c := ((((u2_1 + tc20_0) - 1) / tc20_0))) (by omega) (by omega); omega)
          refine Ew_of (pc' := 110) (fun _ => x_iload rfl l52_4) ?_
          refine Ew_of (pc' := 111) (fun _ => x_iconst rfl) ?_
          refine w_icmpne (t := 131) rfl rfl (show inr (tc20_0) by omega) (show inr (1) by omega) (fun b6 => ?_) (fun b6 => ?_)
          · refine Ew_of (pc' := 133) (fun _ => x_iload rfl l52_6) ?_
            refine Ew_of (pc' := 134) (fun _ => x_iload_n rfl l52_3) ?_
            refine Ew_of (pc' := 137) (fun _ => x_sipush (z := 16384) rfl (by decide)) ?_
            refine w_icmpge (t := 152) rfl rfl (show inr (u2_1) by omega) (show inr (16384) by omega) (fun b7 => ?_) (fun b7 => ?_)
            · refine Ew_of (pc' := 153) (fun _ => x_iconst rfl) ?_
              refine w_iadd rfl ?_
              have : CZF ((w4)) (ub8 ((w3))) ((u2_1)) ((a2)) (((x52_6 + 5))) := .inr ⟨hcod, by by_cases q : (u2_1) < 16384 ∧ (x52_6) < 16384; (exact .inr (.inl ⟨by omega, by omega, by omega, by omega⟩)); exact .inr (.inr ⟨by omega, by omega, by omega⟩)⟩
              exact w_ireturn rfl (k ((x52_6 + 5)) _ _ _ H O (SF_trans (SF_trans (SF_trans (SF_refl) hS_c20 (any_sub rfl)) hS_c46 (any_sub rfl)) hS_52 (any_sub rfl)) (SA_trans (SA_trans (SA_trans (SA_refl) hA_c20 (any_subA rfl)) hA_c46 (any_subA rfl)) hA_52 (any_subA rfl)) (show inr ((x52_6 + 5)) by omega) (show 0 ≤ ((x52_6 + 5)) ∧ ((x52_6 + 5)) ≤ 1000000 by omega) (show CZF ((w4)) (ub8 ((w3))) ((u2_1)) (a2) (((x52_6 + 5))) by assumption))
            · refine Ew_of (pc' := 142) (fun _ => x_iload rfl l52_6) ?_
              refine Ew_of (pc' := 145) (fun _ => x_sipush (z := 16384) rfl (by decide)) ?_
              refine w_icmpge (t := 152) rfl rfl (show inr (x52_6) by omega) (show inr (16384) by omega) (fun b8 => ?_) (fun b8 => ?_)
              · refine Ew_of (pc' := 153) (fun _ => x_iconst rfl) ?_
                refine w_iadd rfl ?_
                have : CZF ((w4)) (ub8 ((w3))) ((u2_1)) ((a2)) (((x52_6 + 5))) := .inr ⟨hcod, by by_cases q : (u2_1) < 16384 ∧ (x52_6) < 16384; (exact .inr (.inl ⟨by omega, by omega, by omega, by omega⟩)); exact .inr (.inr ⟨by omega, by omega, by omega⟩)⟩
                exact w_ireturn rfl (k ((x52_6 + 5)) _ _ _ H O (SF_trans (SF_trans (SF_trans (SF_refl) hS_c20 (any_sub rfl)) hS_c46 (any_sub rfl)) hS_52 (any_sub rfl)) (SA_trans (SA_trans (SA_trans (SA_refl) hA_c20 (any_subA rfl)) hA_c46 (any_subA rfl)) hA_52 (any_subA rfl)) (show inr ((x52_6 + 5)) by omega) (show 0 ≤ ((x52_6 + 5)) ∧ ((x52_6 + 5)) ≤ 1000000 by omega) (show CZF ((w4)) (ub8 ((w3))) ((u2_1)) (a2) (((x52_6 + 5))) by assumption))
              · refine Ew_of (pc' := 149) (fun _ => x_iconst rfl) ?_
                refine Ew_of (pc' := 153) (fun _ => x_goto rfl rfl) ?_
                refine w_iadd rfl ?_
                have : CZF ((w4)) (ub8 ((w3))) ((u2_1)) ((a2)) (((x52_6 + 4))) := .inr ⟨hcod, by by_cases q : (u2_1) < 16384 ∧ (x52_6) < 16384; (exact .inr (.inl ⟨by omega, by omega, by omega, by omega⟩)); exact .inr (.inr ⟨by omega, by omega, by omega⟩)⟩
                exact w_ireturn rfl (k ((x52_6 + 4)) _ _ _ H O (SF_trans (SF_trans (SF_trans (SF_refl) hS_c20 (any_sub rfl)) hS_c46 (any_sub rfl)) hS_52 (any_sub rfl)) (SA_trans (SA_trans (SA_trans (SA_refl) hA_c20 (any_subA rfl)) hA_c46 (any_subA rfl)) hA_52 (any_subA rfl)) (show inr ((x52_6 + 4)) by omega) (show 0 ≤ ((x52_6 + 4)) ∧ ((x52_6 + 4)) ≤ 1000000 by omega) (show CZF ((w4)) (ub8 ((w3))) ((u2_1)) (a2) (((x52_6 + 4))) by assumption))
          · refine Ew_of (pc' := 116) (fun _ => x_iload rfl l52_6) ?_
            refine Ew_of (pc' := 119) (fun _ => x_sipush (z := 1024) rfl (by decide)) ?_
            refine w_icmpge (t := 129) rfl rfl (show inr (x52_6) by omega) (show inr (1024) by omega) (fun b9 => ?_) (fun b9 => ?_)
            · refine Ew_of (pc' := 130) (fun _ => x_iconst rfl) ?_
              have : CZF ((w4)) (ub8 ((w3))) ((u2_1)) ((a2)) ((0)) := by by_cases q : (x52_6) < 1024; (exact .inr ⟨hcod, .inl ⟨by omega, by omega, by omega⟩⟩); exact .inl ⟨by omega, .inr ⟨by omega, by omega⟩⟩
              exact w_ireturn rfl (k (0) _ _ _ H O (SF_trans (SF_trans (SF_trans (SF_refl) hS_c20 (any_sub rfl)) hS_c46 (any_sub rfl)) hS_52 (any_sub rfl)) (SA_trans (SA_trans (SA_trans (SA_refl) hA_c20 (any_subA rfl)) hA_c46 (any_subA rfl)) hA_52 (any_subA rfl)) (show inr (0) by omega) (show 0 ≤ (0) ∧ (0) ≤ 1000000 by omega) (show CZF ((w4)) (ub8 ((w3))) ((u2_1)) (a2) ((0)) by assumption))
            · refine Ew_of (pc' := 124) (fun _ => x_iload rfl l52_6) ?_
              refine Ew_of (pc' := 125) (fun _ => x_iconst rfl) ?_
              refine w_iadd rfl ?_
              refine Ew_of (pc' := 130) (fun _ => x_goto rfl rfl) ?_
              have : CZF ((w4)) (ub8 ((w3))) ((u2_1)) ((a2)) (((x52_6 + 3))) := by by_cases q : (x52_6) < 1024; (exact .inr ⟨hcod, .inl ⟨by omega, by omega, by omega⟩⟩); exact .inl ⟨by omega, .inr ⟨by omega, by omega⟩⟩
              exact w_ireturn rfl (k ((x52_6 + 3)) _ _ _ H O (SF_trans (SF_trans (SF_trans (SF_refl) hS_c20 (any_sub rfl)) hS_c46 (any_sub rfl)) hS_52 (any_sub rfl)) (SA_trans (SA_trans (SA_trans (SA_refl) hA_c20 (any_subA rfl)) hA_c46 (any_subA rfl)) hA_52 (any_subA rfl)) (show inr ((x52_6 + 3)) by omega) (show 0 ≤ ((x52_6 + 3)) ∧ ((x52_6 + 3)) ≤ 1000000 by omega) (show CZF ((w4)) (ub8 ((w3))) ((u2_1)) (a2) (((x52_6 + 3))) by assumption))
        · have hpa := prod_bd (x := (x52_7)) (y := ((((u2_1 + tc20_0) - 1) / tc20_0))) (a := 3) (b := 65536) (by omega) (by omega) (by omega) (by omega)
          have hpb := prod_bd (x := (x52_7) + 1) (y := ((((u2_1 + tc20_0) - 1) / tc20_0))) (a := 4) (b := 65536) (by omega) (by omega) (by omega) (by omega)
          have hpd : ((x52_7) + 1) * ((((u2_1 + tc20_0) - 1) / tc20_0)) = (x52_7) * ((((u2_1 + tc20_0) - 1) / tc20_0)) + ((((u2_1 + tc20_0) - 1) / tc20_0)) := by rw [Int.add_mul, Int.one_mul]
          have hpn : (x52_7) * ((((u2_1 + tc20_0) - 1) / tc20_0)) ≤ (u2_1) := by rcases hec with ⟨q, q2⟩ | ⟨q, q2⟩; (rw [show (x52_7) = 0 by omega, Int.zero_mul]; omega); (have h := Int.mul_le_mul_of_nonneg_right (show (x52_7) ≤ 3 by omega) (show 0 ≤ ((((u2_1 + tc20_0) - 1) / tc20_0)) by omega); omega)
          obtain ⟨ql7, hql7⟩ : ∃ q : Int, q = (x52_7) := ⟨_, rfl⟩
          refine Ew_of (pc' := 60) (fun _ => x_aload_n rfl l52_1) ?_
          refine Ew_of (pc' := 61) (fun _ => x_aload_n rfl l52_0) ?_
          refine v_g H (o := 0) (v := .ref (D 2)) rfl rfl rfl rfl rfl (vrf (((((hS_52 0 9 rfl).trans (hS_c46 0 9 rfl)).trans (hS_c20 0 9 rfl))).trans (pf2))) ?_
          refine v_g H (o := 2) (v := .ref (D 3)) rfl rfl rfl rfl rfl (vrf (((((hS_52 2 0 rfl).trans (hS_c46 2 0 rfl)).trans (hS_c20 2 0 rfl))).trans (pf3))) ?_
          refine Ew_of (pc' := 69) (fun _ => x_iload rfl l52_7) ?_
          refine Ew_of (pc' := 71) (fun _ => x_iload rfl l52_5) ?_
          refine w_imul rfl ?_
          refine Ew_of (pc' := 73) (fun _ => x_iload_n rfl l52_3) ?_
          refine Ew_of (pc' := 75) (fun _ => x_iload rfl l52_7) ?_
          refine Ew_of (pc' := 76) (fun _ => x_iconst rfl) ?_
          refine w_iadd rfl ?_
          refine Ew_of (pc' := 79) (fun _ => x_iload rfl l52_5) ?_
          refine w_imul rfl ?_
          refine v_min rfl rfl (show inr (u2_1) by omega) (show inr (((x52_7 + 1) * (((u2_1 + tc20_0) - 1) / tc20_0))) by omega) (fun z10 gz10 => ?_)
          have hmn : ((z10) : Int) = mnI ((u2_1)) ((ql7 + 1) * ((((u2_1 + tc20_0) - 1) / tc20_0))) := by rw [hql7]; exact mnI_e (by omega)
          refine v_inv H (o := 1) rfl rfl rfl rfl rfl rfl (by rfl) (C112_Br (D := pul [1, 3, 4] D) (N := pul [1, 3, 4] N) (HW_sub H (VS_of (show vsub V141_Codes V112_Br [1, 3, 4] = true by decide +kernel))) (((((hS_52 1 0 rfl).trans (hS_c46 1 0 rfl)).trans (hS_c20 1 0 rfl))).trans (pf4)) (n3) (en3) (n4) (en4) (u1_3) (((((hS_52 1 3 rfl).trans (hS_c46 1 3 rfl)).trans (hS_c20 1 3 rfl)).trans (eu1_3))) (w3) ((funext (hA_52 3 rfl)).trans ((funext (hA_c46 3 rfl)).trans ((funext (hA_c20 3 rfl)).trans (ew3)))) (w4) ((funext (hA_52 4 rfl)).trans ((funext (hA_c46 4 rfl)).trans ((funext (hA_c20 4 rfl)).trans (ew4)))) (show inr ((x52_7 * (((u2_1 + tc20_0) - 1) / tc20_0))) by omega) (show inr (z10) by omega) (show 0 ≤ ((x52_7 * (((u2_1 + tc20_0) - 1) / tc20_0))) ∧ ((x52_7 * (((u2_1 + tc20_0) - 1) / tc20_0))) ≤ (z10) ∧ (z10) ≤ (n3) ∧ (n3) ≤ 65536 by omega) (show 0 ≤ ((u1_3)) ∧ ((u1_3)) ≤ 11 by omega) (show LNG ((w4)) ((u1_3)) by assumption) (show (n4) = 256 by omega) (fun z11 σ11 F11' A11' H' O' hS11 hA11 pz11_0 pz11_1 pz11_2 => ⟨rfl, ?_⟩))
          refine v_back (c := c) (s := s) H (show vsub V141_Codes V112_Br [1, 3, 4] = true by decide +kernel) H' O' (fun F11 A11 H O' eF11 eA11 => ?_)
          have O := OUT_trans O O'
          -- Codes.packedSize
          have hps := pz11_1
          have hps2 := pz11_2
          refine Ew_of (pc' := 88) (fun _ => x_istore rfl) ?_
          refine Ew_of (pc' := 90) (fun _ => x_iload rfl rk_s) ?_
          refine w_ifne (t := 95) rfl rfl (show inr (z11) by omega) (fun b12 => ?_) (fun b12 => ?_)
          · have hz83 := z1F_p hps2 (by omega)
            refine Ew_of (pc' := 97) (fun _ => x_iload rfl (rk_o (l52_6) rfl rfl)) ?_
            refine Ew_of (pc' := 99) (fun _ => x_iload rfl rk_s) ?_
            refine w_iadd rfl ?_
            refine Ew_of (pc' := 102) (fun _ => x_istore rfl) ?_
            refine Ew_of (pc' := 105) (fun _ => x_iinc (len := 3) rfl (rk_o (rk_o (l52_7) rfl rfl) rfl rfl)) ?_
            refine Ew_of (pc' := 52) (fun _ => x_goto rfl rfl) ?_
            have : ((x52_6 + z11)) = qb + PZ ((w4)) (ub8 ((w3))) ((u2_1)) (((((u2_1 + tc20_0) - 1) / tc20_0))) (((x52_7 + 1)) : Int).toNat := by rw [PZ_s (k := ql7) (m := ((x52_7 + 1))) (by omega) (by omega) (by rw [hql7]) hmn hz83, hql7, ← Int.add_assoc, ← j52_s]
            have : ∀ k, 0 ≤ k → k < mnI ((u2_1)) (((x52_7 + 1)) * ((((u2_1 + tc20_0) - 1) / tc20_0))) → ((w4)) ((ub8 ((w3))) k) ≠ 0 := fun k a b => by by_cases q : k < ql7 * ((((u2_1 + tc20_0) - 1) / tc20_0)); (exact j52_c k a (by rw [mnI_r (by omega), ← hql7]; exact q)); (rw [hql7] at q; exact z1F_n hps2 (by omega) k (by omega) (by rw [hmn, hql7]; exact b))
            exact ih52 _ (by omega) _ _ _ _ ((x52_6 + z11)) ((x52_7 + 1)) (rk_o (rk_o (rk_o (l52_0) rfl rfl) rfl rfl) rfl rfl) (rk_o (rk_o (rk_o (l52_1) rfl rfl) rfl rfl) rfl rfl) (rk_o (rk_o (rk_o (l52_3) rfl rfl) rfl rfl) rfl rfl) (rk_o (rk_o (rk_o (l52_4) rfl rfl) rfl rfl) rfl rfl) (rk_o (rk_o (rk_o (l52_5) rfl rfl) rfl rfl) rfl rfl) (rk_o (rk_s) rfl rfl) (rk_s) H O (SF_trans (hS_52) (SF_glu (ι := [1, 3, 4]) hS11 eF11 (by decide +kernel)) (any_sub (l' := []) rfl)) (SA_trans (hA_52) (SA_glu (ι := [1, 3, 4]) hA11 eA11 (by decide +kernel)) (any_subA (l' := []) rfl))     (show inr ((x52_6 + z11)) by omega) (show inr ((x52_7 + 1)) by omega) (show (0) ≤ ((x52_7 + 1)) by omega) (show ((x52_7 + 1)) ≤ (0) ∨ ((x52_7 + 1)) ≤ ((tc20_0)) by omega) (show 0 ≤ ((x52_6 + z11)) ∧ ((x52_6 + z11)) ≤ 65542 + 100000 * ((x52_7 + 1)) by omega) (show ((x52_6 + z11)) = qb + PZ ((w4)) (ub8 ((w3))) ((u2_1)) (((((u2_1 + tc20_0) - 1) / tc20_0))) (((x52_7 + 1)) : Int).toNat by assumption) (show ∀ k, 0 ≤ k → k < mnI ((u2_1)) (((x52_7 + 1)) * ((((u2_1 + tc20_0) - 1) / tc20_0))) → ((w4)) ((ub8 ((w3))) k) ≠ 0 by assumption) rfl
          · refine Ew_of (pc' := 94) (fun _ => x_iconst rfl) ?_
            have : CZF ((w4)) (ub8 ((w3))) ((u2_1)) ((a2)) (0) := .inl ⟨rfl, .inl (by have h := hps2; rw [show z11 = 0 by omega] at h; obtain ⟨k, a, b, c⟩ := PSZ_0 h hgn; exact ⟨k, by omega, by omega, c⟩)⟩
            exact w_ireturn rfl (k (0) _ _ _ H O (SF_trans (SF_trans (SF_trans (SF_trans (SF_refl) hS_c20 (any_sub rfl)) hS_c46 (any_sub rfl)) hS_52 (any_sub rfl)) (SF_glu (ι := [1, 3, 4]) hS11 eF11 (by decide +kernel)) (any_sub (l' := []) rfl)) (SA_trans (SA_trans (SA_trans (SA_trans (SA_refl) hA_c20 (any_subA rfl)) hA_c46 (any_subA rfl)) hA_52 (any_subA rfl)) (SA_glu (ι := [1, 3, 4]) hA11 eA11 (by decide +kernel)) (any_subA (l' := []) rfl)) (show inr (0) by omega) (show 0 ≤ (0) ∧ (0) ≤ 1000000 by omega) (show CZF ((w4)) (ub8 ((w3))) ((u2_1)) (a2) ((0)) by assumption))
    refine w_icmpne (t := 45) rfl rfl (show inr (tc20_0) by omega) (show inr (4) by omega) (fun b13 => ?_) (fun b13 => ?_)
    · refine Ew_of (pc' := 46) (fun _ => x_iconst rfl) ?_
      exact hc46 (0) _ _ _ _  (rk_o (rk_o (lc20_0) rfl rfl) rfl rfl) (rk_o (rk_o (lc20_1) rfl rfl) rfl rfl) (rk_o (rk_o (lc20_3) rfl rfl) rfl rfl) (rk_o (rk_s) rfl rfl) (rk_s) H O (SF_refl) (SA_refl)     (show inr (0) by omega) (show ((tc20_0) ≠ (4) ∧ (0) = (0)) ∨ ((tc20_0) = (4) ∧ (0) = (6)) by omega)
    · refine Ew_of (pc' := 42) (fun _ => x_bipush (z := 6) rfl (by decide)) ?_
      refine Ew_of (pc' := 46) (fun _ => x_goto rfl rfl) ?_
      exact hc46 (6) _ _ _ _  (rk_o (rk_o (lc20_0) rfl rfl) rfl rfl) (rk_o (rk_o (lc20_1) rfl rfl) rfl rfl) (rk_o (rk_o (lc20_3) rfl rfl) rfl rfl) (rk_o (rk_s) rfl rfl) (rk_s) H O (SF_refl) (SA_refl)     (show inr (6) by omega) (show ((tc20_0) ≠ (4) ∧ (6) = (0)) ∨ ((tc20_0) = (4) ∧ (6) = (6)) by omega)
  refine w_icmpge (t := 19) rfl rfl (show inr (u2_1) by omega) (show inr (1024) by omega) (fun b14 => ?_) (fun b14 => ?_)
  · refine Ew_of (pc' := 20) (fun _ => x_iconst rfl) ?_
    exact hc20 (4) _ _ _ _  (rk_o (rfl) rfl rfl) (rk_o (rfl) rfl rfl) (rk_o (rfl) rfl rfl) (rk_s) H O (SF_refl) (SA_refl)     (show inr (4) by omega) (show ((u2_1) ≥ (1024) ∧ (4) = (4)) ∨ ((u2_1) < (1024) ∧ (4) = (1)) by omega)
  · refine Ew_of (pc' := 16) (fun _ => x_iconst rfl) ?_
    refine Ew_of (pc' := 20) (fun _ => x_goto rfl rfl) ?_
    exact hc20 (1) _ _ _ _  (rk_o (rfl) rfl rfl) (rk_o (rfl) rfl rfl) (rk_o (rfl) rfl rfl) (rk_s) H O (SF_refl) (SA_refl)     (show inr (1) by omega) (show ((u2_1) ≥ (1024) ∧ (1) = (4)) ∨ ((u2_1) < (1024) ∧ (1) = (1)) by omega)
