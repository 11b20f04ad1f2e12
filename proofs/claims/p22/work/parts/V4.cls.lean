abbrev V17_ve4 : vV := [(0, 0, [(4, 0), (4, 0), (4, 0), (4, 0), (4, 0), (4, 0), (4, 0), (4, 0), (4, 0), (4, 0), (4, 0), (4, 0), (4, 0), (4, 0), (4, 0), (4, 0), (4, 0), (0, 0), (0, 0)]), (0, 7, [(4, 0), (0, 0), (1, 0), (0, 0), (0, 0)]), (0, 7, [(4, 0), (0, 0), (1, 0), (0, 0), (0, 0)]), (1, 0, []), (0, 7, [(4, 0), (0, 0), (1, 0), (0, 0), (0, 0)]), (1, 0, []), (1, 0, []), (1, 1, []), (1, 1, []), (0, 6, [(4, 0), (4, 0), (4, 0), (4, 0), (4, 0), (4, 0), (4, 0), (4, 0), (4, 0), (4, 0), (4, 0), (4, 0), (4, 0), (4, 0), (4, 0), (0, 0), (0, 0), (4, 0), (4, 0)]), (1, 1, []), (1, 1, [])]
theorem len_V17_ve4_oz_V4cls : (V17_ve4).length = 12 := by decide +kernel
theorem oz_V4cls_1 : vsub V17_ve4 V34 [0, 11] = true := by decide +kernel
theorem oz_V4cls_2 : vsub V17_ve4 V29_Row_Row [4, 1, 5, 6] = true := by decide +kernel
def oz_V4clsl_0 : List Nat := [7, 8]
theorem oz_V4cls_3 : (oz_V4clsl_0).all (fun p => !tbz 384 p) = true := by decide +kernel
def oz_V4clsl_1 : List (Nat × Nat) := []
theorem oz_V4cls_4 : (oz_V4clsl_1).all (fun p => !tbz 0 (Nat.add (Nat.mul 32 p.1) p.2)) = true := by decide +kernel
def oz_V4clsl_2 : List Nat := [0, 11]
theorem oz_V4cls_5 : okc oz_V4clsl_2 5632 = true := by decide +kernel
def oz_V4clsl_3 : List Nat := [4, 1, 5, 6]
theorem oz_V4cls_6 : okc oz_V4clsl_3 806617604 = true := by decide +kernel
/-- PackHouse.write: this, @F, this.written, this.written.bytes, this.content, this.content.bytes, @F.bytes, this.strays, this.packCounts, this.packer, this.packer.counts, this.settings -/
theorem C17_ve4 {σE : rS} {D N : Nat → Nat} {F : hF} {A : hA} {d c s : Nat} {Q : wQ} (H : HW V17_ve4 σE D N F A) {x1 y0 : Int} (pf2 : HID (F 0 5 = (D 2 : Int))) (pf3 : HID (F 2 0 = (D 3 : Int))) (pf4 : HID (F 0 6 = (D 4 : Int))) (pf5 : HID (F 4 0 = (D 5 : Int))) (pf6 : HID (F 1 0 = (D 6 : Int))) (pf7 : HID (F 0 16 = (D 7 : Int))) (pf8 : HID (F 0 13 = (D 8 : Int))) (pf9 : HID (F 0 11 = (D 9 : Int))) (pf10 : HID (F 9 18 = (D 10 : Int))) (pf11 : HID (F 0 1 = (D 11 : Int))) (n3 : Int) (en3 : HID ((N 3 : Int) = n3)) (n5 : Int) (en5 : HID ((N 5 : Int) = n5)) (n6 : Int) (en6 : HID ((N 6 : Int) = n6)) (n7 : Int) (en7 : HID ((N 7 : Int) = n7)) (n8 : Int) (en8 : HID ((N 8 : Int) = n8)) (n10 : Int) (en10 : HID ((N 10 : Int) = n10)) (n11 : Int) (en11 : HID ((N 11 : Int) = n11)) (u1_1 : Int) (eu1_1 : HID (F 1 1 = u1_1)) (u2_1 : Int) (eu2_1 : HID (F 2 1 = u2_1)) (u4_1 : Int) (eu4_1 : HID (F 4 1 = u4_1)) (w11 : Int → Int) (ew11 : A 11 = w11) {ls : rO} (hl0 : rlook ls 0 = some (.ref (D 0))) (hl1 : rlook ls 1 = some (I (x1))) (hl3 : rlook ls 3 = some (I (4))) (hl4 : rlook ls 4 = some (.ref (D 1))) (h0 : inr (x1)) (h1 : inr y0) (h2 : 0 ≤ (u2_1) ∧ (u2_1) ≤ (n3) ∧ (n3) ≤ 65536) (h3 : 0 ≤ (u4_1) ∧ (u4_1) ≤ (n5) ∧ (n5) ≤ 65536) (h4 : 0 ≤ (u1_1) ∧ (u1_1) ≤ (n6) ∧ (n6) ≤ 65536) (h5 : (u1_1) ≤ 16384) (h6 : (n7) = 2) (h7 : (n8) = 13) (h8 : (n10) = 13) (h9 : 1 ≤ ((w11)) 2 ∧ ((w11)) 2 ≤ 65536) (h10 : 0 ≤ ((w11)) 8 ∧ ((w11)) 8 ≤ 11) (h11 : 0 ≤ ((w11)) 6 ∧ ((w11)) 6 ≤ 255) (h12 : (n11) = 10) (hc337 : ∀ (ls : rO) (σ : rS) (F_c337 : hF) (A_c337 : hA) , rlook ls 0 = some (.ref (D 0)) → rlook ls 1 = some (I (x1)) → HW V17_ve4 σ D N F_c337 A_c337 → OUT (V17_ve4).length D N σE c s D N σ c s → SF [] F F_c337 → SA [7, 8] A A_c337 → (0 ≤ (u2_1) ∧ (u2_1) ≤ (n3) ∧ (n3) ≤ 65536) → Ew 17 (d + 3) 337 ls [] σ c s Q) (k : ∀ (z : Int) (σ : rS) (Fₚ : hF) (Aₚ : hA), HW V17_ve4 σ D N Fₚ Aₚ → OUT (V17_ve4).length D N σE c s D N σ c s → SF [] F Fₚ → SA [7, 8] A Aₚ → (inr (z)) → ((0 : Int) = 1) → Q (some (I z)) σ c s) : Ew 17 (d + 3) 239 ls [I (y0)] σE c s Q := by
  have O := OUT_refl (n := (V17_ve4).length) (D := D) (N := N) (σ := σE) (c := c) (s := s)
  have HE := H
  have r7 : HID ((0 : Int) ≤ n7 ∧ n7 ≤ 1000000) := nrng (H.nle 7 (ltn len_V17_ve4_oz_V4cls rfl)) (show (N 7 : Int) = n7 from en7)
  have r8 : HID ((0 : Int) ≤ n8 ∧ n8 ≤ 1000000) := nrng (H.nle 8 (ltn len_V17_ve4_oz_V4cls rfl)) (show (N 8 : Int) = n8 from en8)
  refine Ew_of (pcₚ := 241) (fun _ => x_istore rfl) ?_
  refine Ew_of (pcₚ := 242) (fun _ => x_aload_n rfl (rk_o (hl0) rfl rfl)) ?_
  refine v_g H (o := 0) (v := .ref (D 7)) rfl rfl rfl rfl rfl (vrf (pf7)) ?_
  refine Ew_of (pcₚ := 246) (fun _ => x_iconst rfl) ?_
  refine Ew_of (pcₚ := 247) (fun _ => x_dup2 rfl rfl rfl) ?_
  refine v_lI H (o := 7) rfl rfl rfl rfl (n := n7) (en7) (show 0 ≤ 0 ∧ 0 < n7 from q_4047 (HIDe r7) h6) (fun v11 ev11 (qv11 : HID _) => ?_)
  have ev11 : (A 7) (0) = v11 := (congrFun (rfl : A 7 = A 7) (0)).symm.trans ev11
  refine Ew_of (pcₚ := 250) (fun _ => x_iload rfl rk_s) ?_
  refine Ew_of (pcₚ := 252) (fun _ => x_aload rfl (rk_o (hl4) rfl rfl)) ?_
  refine v_g H (o := 1) (v := I (u1_1)) rfl rfl rfl rfl rfl (congrArg (fun z : Int => I z) ((eu1_1) : F 1 1 = u1_1)) ?_
  refine w_icmpne (t := 274) rfl rfl (show inr (y0) from h1) (show inr (u1_1) from q_3077 h4 h5) (fun b12 => ?_) (fun b12 => ?_)
  · refine Ew_of (pcₚ := 275) (fun _ => x_iconst rfl) ?_
    refine w_iaddA rfl (fun z13 gz13 => ?_)
    refine v_sI H (o := 7) (z := z13) rfl rfl rfl rfl (n := n7) (en7) (show 0 ≤ 0 ∧ 0 < n7 from q_4047 (HIDe r7) h6) (show inr (z13) from gz13) (fun σ H Oₚ => ?_)
    have O := OUT_trans O Oₚ
    have cAu14 : SA oz_V4clsl_0 A (updA A 7 (0) (z13)) := SA_upd (SA_refl) rfl
    have mAu14 := SAm_of cAu14 oz_V4cls_3
    refine Ew_of (pcₚ := 278) (fun _ => x_aload_n rfl (rk_o (hl0) rfl rfl)) ?_
    refine v_g H (o := 0) (v := .ref (D 7)) rfl rfl rfl rfl rfl (vrf (pf7)) ?_
    refine Ew_of (pcₚ := 282) (fun _ => x_iconst rfl) ?_
    refine Ew_of (pcₚ := 283) (fun _ => x_dup2 rfl rfl rfl) ?_
    refine v_lI H (o := 7) rfl rfl rfl rfl (n := n7) (en7) (show 0 ≤ 1 ∧ 1 < n7 from q_4077 h6) (fun v15 ev15 (qv15 : HID _) => ?_)
    have ev15 : (upd1 (A 7) (0) (z13)) (1) = v15 := (congrFun (rfl : (updA A 7 (0) (z13)) 7 = upd1 (A 7) (0) (z13)) (1)).symm.trans ev15
    refine Ew_of (pcₚ := 285) (fun _ => x_aload_n rfl (rk_o (hl0) rfl rfl)) ?_
    refine v_g H (o := 0) (v := .ref (D 2)) rfl rfl rfl rfl rfl (vrf (pf2)) ?_
    refine v_g H (o := 2) (v := I (u2_1)) rfl rfl rfl rfl rfl (congrArg (fun z : Int => I z) ((eu2_1) : F 2 1 = u2_1)) ?_
    refine Ew_of (pcₚ := 292) (fun _ => x_aload_n rfl (rk_o (hl0) rfl rfl)) ?_
    refine Ew_of (pcₚ := 293) (fun _ => x_iload_n rfl (rk_o (hl3) rfl rfl)) ?_
    refine Ew_of (pcₚ := 295) (fun _ => x_aload rfl (rk_o (hl4) rfl rfl)) ?_
    refine v_g H (o := 1) (v := I (u1_1)) rfl rfl rfl rfl rfl (congrArg (fun z : Int => I z) ((eu1_1) : F 1 1 = u1_1)) ?_
    refine v_inv H (o := 0) rfl rfl rfl rfl rfl rfl (by rfl) (C34 (D := puc 5632 D) (N := puc 5632 N) (HW_subc H oz_V4cls_1 oz_V4cls_5) (pf11) (n11) (en11) (w11) ((funext (mAu14 11 rfl)).trans (ew11)) (show inr (4) from q_2) (show inr (u1_1) from q_3077 h4 h5) (show 0 ≤ (u1_1) ∧ (u1_1) ≤ 16384 from q_4318 h4 h5) (show 1 ≤ ((w11)) 2 ∧ ((w11)) 2 ≤ 65536 from h9) (show 0 ≤ ((w11)) 8 ∧ ((w11)) 8 ≤ 11 from h10) (show 0 ≤ ((w11)) 6 ∧ ((w11)) 6 ≤ 255 from h11) (show (n11) = 10 from h12) (fun z16 σ16 F16ₚ A16ₚ Hₚ Oₚ hS16 hA16 pz16_0 => ⟨rfl, ?_⟩))
    refine v_backc (c := c) (s := s) H oz_V4cls_1 oz_V4cls_5 Hₚ Oₚ (fun F16 A16 H Oₚ eF16 eA16 => ?_)
    have O := OUT_trans O Oₚ
    -- PackHouse.boundOf
    have cF16 : SF oz_V4clsl_1 F F16 := SF_trans (SF_refl) (SF_gluc (ι := oz_V4clsl_2) oz_V4cls_5 hS16 eF16 (by decide +kernel)) (any_sub (lₚ := []) (by decide +kernel))
    have mF16 := SFm_of cF16 oz_V4cls_4
    have cA16 : SA oz_V4clsl_0 A A16 := SA_trans (cAu14) (SA_gluc (ι := oz_V4clsl_2) oz_V4cls_5 hA16 eA16 (by decide +kernel)) (any_subA (lₚ := []) (by decide +kernel))
    have mA16 := SAm_of cA16 oz_V4cls_3
    have hc309 : ∀ (tc309_0 : Int), ∀ (ls : rO) (σ : rS) (F_c309 : hF) (A_c309 : hA) , rlook ls 0 = some (.ref (D 0)) → rlook ls 1 = some (I (x1)) → rlook ls 3 = some (I (4)) → HW V17_ve4 σ D N F_c309 A_c309 → OUT (V17_ve4).length D N σE c s D N σ c s → SF [] F16 F_c309 → SA [] A16 A_c309 → (inr (tc309_0)) → (((u2_1) ≤ (z16) ∧ (tc309_0) = (0)) ∨ ((u2_1) > (z16) ∧ (tc309_0) = (1))) → Ew 17 (d + 3) 309 ls [I (tc309_0), I (v15), I (1), .ref (D 7)] σ c s Q := by
     as_aux_lemma =>
      intro tc309_0 ls σ F_c309 A_c309  lc309_0 lc309_1 lc309_3 H O hS_c309 hA_c309     jc309_0 jc309_1
      have cF_c309 : SF oz_V4clsl_1 F F_c309 := SF_trans (cF16) hS_c309 (any_sub (by decide +kernel))
      have mF_c309 := SFm_of cF_c309 oz_V4cls_4
      have cA_c309 : SA oz_V4clsl_0 A A_c309 := SA_trans (cA16) hA_c309 (any_subA (by decide +kernel))
      have mA_c309 := SAm_of cA_c309 oz_V4cls_3
      refine w_iaddA rfl (fun z17 gz17 => ?_)
      refine v_sI H (o := 7) (z := z17) rfl rfl rfl rfl (n := n7) (en7) (show 0 ≤ 1 ∧ 1 < n7 from q_4077 h6) (show inr (z17) from gz17) (fun σ H Oₚ => ?_)
      have O := OUT_trans O Oₚ
      have cAu18 : SA oz_V4clsl_0 A (updA A_c309 7 (1) (z17)) := SA_upd (cA_c309) rfl
      have mAu18 := SAm_of cAu18 oz_V4cls_3
      refine Ew_of (pcₚ := 312) (fun _ => x_iload_n rfl lc309_3) ?_
      refine Ew_of (pcₚ := 313) (fun _ => x_iconst rfl) ?_
      refine w_icmpne (t := 337) rfl rfl (show inr (4) from q_2) (show inr (4) from q_2) (fun b19 => ?_) (fun b19 => ?_)
      · exact absurd b19 (by omega)
      · refine Ew_of (pcₚ := 317) (fun _ => x_aload_n rfl lc309_0) ?_
        refine v_g H (o := 0) (v := .ref (D 9)) rfl rfl rfl rfl rfl (vrf ((mF_c309 0 11 rfl).trans (pf9))) ?_
        refine v_g H (o := 9) (v := .ref (D 10)) rfl rfl rfl rfl rfl (vrf ((mF_c309 9 18 rfl).trans (pf10))) ?_
        refine Ew_of (pcₚ := 324) (fun _ => x_iconst rfl) ?_
        refine Ew_of (pcₚ := 325) (fun _ => x_aload_n rfl lc309_0) ?_
        refine v_g H (o := 0) (v := .ref (D 8)) rfl rfl rfl rfl rfl (vrf ((mF_c309 0 13 rfl).trans (pf8))) ?_
        refine Ew_of (pcₚ := 329) (fun _ => x_iconst rfl) ?_
        refine Ew_of (pcₚ := 330) (fun _ => x_aload_n rfl lc309_0) ?_
        refine v_g H (o := 0) (v := .ref (D 8)) rfl rfl rfl rfl rfl (vrf ((mF_c309 0 13 rfl).trans (pf8))) ?_
        refine v_len H (o := 8) rfl rfl rfl rfl (n := n8) (en8) ?_
        refine v_cpy H (t := 8) (t0 := 10) rfl rfl rfl rfl rfl rfl rfl rfl (n := n8) (en8) (n0 := n10) (en10) (show 0 ≤ n8 ∧ 0 ≤ 0 ∧ 0 ≤ 0 ∧ 0 + n8 ≤ n10 ∧ 0 + n8 ≤ n8 from q_4416 (HIDe r8) h7 h8) (fun σ A20 H Oₚ hA20 ga20 gb20 => ?_)
        have gb20 : ∀ i, i < 0 ∨ 0 + n8 ≤ i → A20 8 i = (A 8) i := fun i a => (gb20 i a).trans (congrFun ((funext (hA_c309 8 rfl)).trans ((show A16 8 = (updA A 7 (0) (z13)) 8 from (eA16 8)))) i)
        have ga20 : ∀ i, 0 ≤ i → i < 0 + n8 → A20 8 i = (A 10) (0 + (i - 0)) := fun i a b => (ga20 i a b).trans (congrFun (funext (mAu18 10 rfl)) _)
        have O := OUT_trans O Oₚ
        have cA20 : SA oz_V4clsl_0 A A20 := SA_trans (cAu18) hA20 (any_subA (by decide +kernel))
        have mA20 := SAm_of cA20 oz_V4cls_3
        exact hc337  _ _ _ _  (lc309_0) (lc309_1) H O (SF_trans (SF_trans (SF_refl) (SF_gluc (ι := oz_V4clsl_2) oz_V4cls_5 hS16 eF16 (by decide +kernel)) (any_sub (lₚ := []) (by decide +kernel))) hS_c309 (any_sub (by decide +kernel))) (SA_trans (SA_upd (SA_trans (SA_trans (SA_upd (SA_refl) rfl) (SA_gluc (ι := oz_V4clsl_2) oz_V4cls_5 hA16 eA16 (by decide +kernel)) (any_subA (lₚ := []) (by decide +kernel))) hA_c309 (any_subA (by decide +kernel))) rfl) hA20 (any_subA (by decide +kernel)))     (show 0 ≤ (u2_1) ∧ (u2_1) ≤ (n3) ∧ (n3) ≤ 65536 from h2)
    refine w_icmple (t := 308) rfl rfl (show inr (u2_1) from q_884 h2) (show inr (z16) from pz16_0) (fun b21 => ?_) (fun b21 => ?_)
    · refine Ew_of (pcₚ := 309) (fun _ => x_iconst rfl) ?_
      exact hc309 (0) _ _ _ _  (rk_o (hl0) rfl rfl) (rk_o (hl1) rfl rfl) (rk_o (hl3) rfl rfl) H O (SF_refl) (SA_refl)     (show inr (0) from q_20) (show ((u2_1) ≤ (z16) ∧ (0) = (0)) ∨ ((u2_1) > (z16) ∧ (0) = (1)) from q_2508 b21)
    · refine Ew_of (pcₚ := 305) (fun _ => x_iconst rfl) ?_
      refine Ew_of (pcₚ := 309) (fun _ => x_goto rfl rfl) ?_
      exact hc309 (1) _ _ _ _  (rk_o (hl0) rfl rfl) (rk_o (hl1) rfl rfl) (rk_o (hl3) rfl rfl) H O (SF_refl) (SA_refl)     (show inr (1) from q_23) (show ((u2_1) ≤ (z16) ∧ (1) = (0)) ∨ ((u2_1) > (z16) ∧ (1) = (1)) from q_2509 b21)
  · refine Ew_of (pcₚ := 259) (fun _ => x_aload_n rfl (rk_o (hl0) rfl rfl)) ?_
    refine v_g H (o := 0) (v := .ref (D 4)) rfl rfl rfl rfl rfl (vrf (pf4)) ?_
    refine Ew_of (pcₚ := 264) (fun _ => x_aload rfl (rk_o (hl4) rfl rfl)) ?_
    refine w_stat24 rfl rfl (by rfl) (C29_Row_Row (D := puc 806617604 D) (N := puc 806617604 N) (HW_subc H oz_V4cls_2 oz_V4cls_6) (pf5) (pf6) (n5) (en5) (n6) (en6) (u4_1) ((eu4_1)) (u1_1) ((eu1_1)) (show 0 ≤ (u4_1) ∧ (u4_1) ≤ (n5) ∧ (n5) ≤ 65536 from h3) (show 0 ≤ (u1_1) ∧ (u1_1) ≤ (n6) ∧ (n6) ≤ 65536 from h4) (fun z22 σ22 F22ₚ A22ₚ Hₚ Oₚ hS22 hA22 pz22_0 => ⟨rfl, ?_⟩))
    refine v_backc (c := c) (s := s) H oz_V4cls_2 oz_V4cls_6 Hₚ Oₚ (fun F22 A22 H Oₚ eF22 eA22 => ?_)
    have O := OUT_trans O Oₚ
    -- PackHouse.firstUnlike
    have cF22 : SF oz_V4clsl_1 F F22 := SF_trans (SF_refl) (SF_gluc (ι := oz_V4clsl_3) oz_V4cls_6 hS22 eF22 (by decide +kernel)) (any_sub (lₚ := []) (by decide +kernel))
    have mF22 := SFm_of cF22 oz_V4cls_4
    have cA22 : SA oz_V4clsl_0 A A22 := SA_trans (SA_refl) (SA_gluc (ι := oz_V4clsl_3) oz_V4cls_6 hA22 eA22 (by decide +kernel)) (any_subA (lₚ := []) (by decide +kernel))
    have mA22 := SAm_of cA22 oz_V4cls_3
    refine w_ifge (t := 274) rfl rfl (show inr (z22) from pz22_0) (fun b23 => ?_) (fun b23 => ?_)
    · refine Ew_of (pcₚ := 275) (fun _ => x_iconst rfl) ?_
      refine w_iaddA rfl (fun z24 gz24 => ?_)
      refine v_sI H (o := 7) (z := z24) rfl rfl rfl rfl (n := n7) (en7) (show 0 ≤ 0 ∧ 0 < n7 from q_4047 (HIDe r7) h6) (show inr (z24) from gz24) (fun σ H Oₚ => ?_)
      have O := OUT_trans O Oₚ
      have cAu25 : SA oz_V4clsl_0 A (updA A22 7 (0) (z24)) := SA_upd (cA22) rfl
      have mAu25 := SAm_of cAu25 oz_V4cls_3
      refine Ew_of (pcₚ := 278) (fun _ => x_aload_n rfl (rk_o (hl0) rfl rfl)) ?_
      refine v_g H (o := 0) (v := .ref (D 7)) rfl rfl rfl rfl rfl (vrf ((mF22 0 16 rfl).trans (pf7))) ?_
      refine Ew_of (pcₚ := 282) (fun _ => x_iconst rfl) ?_
      refine Ew_of (pcₚ := 283) (fun _ => x_dup2 rfl rfl rfl) ?_
      refine v_lI H (o := 7) rfl rfl rfl rfl (n := n7) (en7) (show 0 ≤ 1 ∧ 1 < n7 from q_4077 h6) (fun v26 ev26 (qv26 : HID _) => ?_)
      have ev26 : (upd1 (A 7) (0) (z24)) (1) = v26 := (congrFun (congrArg (fun q => upd1 q (0) (z24)) ((show A22 7 = A 7 from (eA22 7)))) (1)).symm.trans ev26
      refine Ew_of (pcₚ := 285) (fun _ => x_aload_n rfl (rk_o (hl0) rfl rfl)) ?_
      refine v_g H (o := 0) (v := .ref (D 2)) rfl rfl rfl rfl rfl (vrf ((mF22 0 5 rfl).trans (pf2))) ?_
      refine v_g H (o := 2) (v := I (u2_1)) rfl rfl rfl rfl rfl (congrArg (fun z : Int => I z) (((mF22 2 1 rfl).trans (eu2_1)) : F22 2 1 = u2_1)) ?_
      refine Ew_of (pcₚ := 292) (fun _ => x_aload_n rfl (rk_o (hl0) rfl rfl)) ?_
      refine Ew_of (pcₚ := 293) (fun _ => x_iload_n rfl (rk_o (hl3) rfl rfl)) ?_
      refine Ew_of (pcₚ := 295) (fun _ => x_aload rfl (rk_o (hl4) rfl rfl)) ?_
      refine v_g H (o := 1) (v := I (u1_1)) rfl rfl rfl rfl rfl (congrArg (fun z : Int => I z) (((mF22 1 1 rfl).trans (eu1_1)) : F22 1 1 = u1_1)) ?_
      refine v_inv H (o := 0) rfl rfl rfl rfl rfl rfl (by rfl) (C34 (D := puc 5632 D) (N := puc 5632 N) (HW_subc H oz_V4cls_1 oz_V4cls_5) ((mF22 0 1 rfl).trans (pf11)) (n11) (en11) (w11) ((funext (mAu25 11 rfl)).trans (ew11)) (show inr (4) from q_2) (show inr (u1_1) from q_3077 h4 h5) (show 0 ≤ (u1_1) ∧ (u1_1) ≤ 16384 from q_4318 h4 h5) (show 1 ≤ ((w11)) 2 ∧ ((w11)) 2 ≤ 65536 from h9) (show 0 ≤ ((w11)) 8 ∧ ((w11)) 8 ≤ 11 from h10) (show 0 ≤ ((w11)) 6 ∧ ((w11)) 6 ≤ 255 from h11) (show (n11) = 10 from h12) (fun z27 σ27 F27ₚ A27ₚ Hₚ Oₚ hS27 hA27 pz27_0 => ⟨rfl, ?_⟩))
      refine v_backc (c := c) (s := s) H oz_V4cls_1 oz_V4cls_5 Hₚ Oₚ (fun F27 A27 H Oₚ eF27 eA27 => ?_)
      have O := OUT_trans O Oₚ
      -- PackHouse.boundOf
      have cF27 : SF oz_V4clsl_1 F F27 := SF_trans (cF22) (SF_gluc (ι := oz_V4clsl_2) oz_V4cls_5 hS27 eF27 (by decide +kernel)) (any_sub (lₚ := []) (by decide +kernel))
      have mF27 := SFm_of cF27 oz_V4cls_4
      have cA27 : SA oz_V4clsl_0 A A27 := SA_trans (cAu25) (SA_gluc (ι := oz_V4clsl_2) oz_V4cls_5 hA27 eA27 (by decide +kernel)) (any_subA (lₚ := []) (by decide +kernel))
      have mA27 := SAm_of cA27 oz_V4cls_3
      have hc309 : ∀ (tc309_0 : Int), ∀ (ls : rO) (σ : rS) (F_c309 : hF) (A_c309 : hA) , rlook ls 0 = some (.ref (D 0)) → rlook ls 1 = some (I (x1)) → rlook ls 3 = some (I (4)) → HW V17_ve4 σ D N F_c309 A_c309 → OUT (V17_ve4).length D N σE c s D N σ c s → SF [] F27 F_c309 → SA [] A27 A_c309 → (inr (tc309_0)) → (((u2_1) ≤ (z27) ∧ (tc309_0) = (0)) ∨ ((u2_1) > (z27) ∧ (tc309_0) = (1))) → Ew 17 (d + 3) 309 ls [I (tc309_0), I (v26), I (1), .ref (D 7)] σ c s Q := by
       as_aux_lemma =>
        intro tc309_0 ls σ F_c309 A_c309  lc309_0 lc309_1 lc309_3 H O hS_c309 hA_c309     jc309_0 jc309_1
        have cF_c309 : SF oz_V4clsl_1 F F_c309 := SF_trans (cF27) hS_c309 (any_sub (by decide +kernel))
        have mF_c309 := SFm_of cF_c309 oz_V4cls_4
        have cA_c309 : SA oz_V4clsl_0 A A_c309 := SA_trans (cA27) hA_c309 (any_subA (by decide +kernel))
        have mA_c309 := SAm_of cA_c309 oz_V4cls_3
        refine w_iaddA rfl (fun z28 gz28 => ?_)
        refine v_sI H (o := 7) (z := z28) rfl rfl rfl rfl (n := n7) (en7) (show 0 ≤ 1 ∧ 1 < n7 from q_4077 h6) (show inr (z28) from gz28) (fun σ H Oₚ => ?_)
        have O := OUT_trans O Oₚ
        have cAu29 : SA oz_V4clsl_0 A (updA A_c309 7 (1) (z28)) := SA_upd (cA_c309) rfl
        have mAu29 := SAm_of cAu29 oz_V4cls_3
        refine Ew_of (pcₚ := 312) (fun _ => x_iload_n rfl lc309_3) ?_
        refine Ew_of (pcₚ := 313) (fun _ => x_iconst rfl) ?_
        refine w_icmpne (t := 337) rfl rfl (show inr (4) from q_2) (show inr (4) from q_2) (fun b30 => ?_) (fun b30 => ?_)
        · exact absurd b30 (by omega)
        · refine Ew_of (pcₚ := 317) (fun _ => x_aload_n rfl lc309_0) ?_
          refine v_g H (o := 0) (v := .ref (D 9)) rfl rfl rfl rfl rfl (vrf ((mF_c309 0 11 rfl).trans (pf9))) ?_
          refine v_g H (o := 9) (v := .ref (D 10)) rfl rfl rfl rfl rfl (vrf ((mF_c309 9 18 rfl).trans (pf10))) ?_
          refine Ew_of (pcₚ := 324) (fun _ => x_iconst rfl) ?_
          refine Ew_of (pcₚ := 325) (fun _ => x_aload_n rfl lc309_0) ?_
          refine v_g H (o := 0) (v := .ref (D 8)) rfl rfl rfl rfl rfl (vrf ((mF_c309 0 13 rfl).trans (pf8))) ?_
          refine Ew_of (pcₚ := 329) (fun _ => x_iconst rfl) ?_
          refine Ew_of (pcₚ := 330) (fun _ => x_aload_n rfl lc309_0) ?_
          refine v_g H (o := 0) (v := .ref (D 8)) rfl rfl rfl rfl rfl (vrf ((mF_c309 0 13 rfl).trans (pf8))) ?_
          refine v_len H (o := 8) rfl rfl rfl rfl (n := n8) (en8) ?_
          refine v_cpy H (t := 8) (t0 := 10) rfl rfl rfl rfl rfl rfl rfl rfl (n := n8) (en8) (n0 := n10) (en10) (show 0 ≤ n8 ∧ 0 ≤ 0 ∧ 0 ≤ 0 ∧ 0 + n8 ≤ n10 ∧ 0 + n8 ≤ n8 from q_4416 (HIDe r8) h7 h8) (fun σ A31 H Oₚ hA31 ga31 gb31 => ?_)
          have gb31 : ∀ i, i < 0 ∨ 0 + n8 ≤ i → A31 8 i = (A 8) i := fun i a => (gb31 i a).trans (congrFun ((funext (hA_c309 8 rfl)).trans (((show A27 8 = (updA A22 7 (0) (z24)) 8 from (eA27 8))).trans ((show A22 8 = A 8 from (eA22 8))))) i)
          have ga31 : ∀ i, 0 ≤ i → i < 0 + n8 → A31 8 i = (A 10) (0 + (i - 0)) := fun i a b => (ga31 i a b).trans (congrFun (funext (mAu29 10 rfl)) _)
          have O := OUT_trans O Oₚ
          have cA31 : SA oz_V4clsl_0 A A31 := SA_trans (cAu29) hA31 (any_subA (by decide +kernel))
          have mA31 := SAm_of cA31 oz_V4cls_3
          exact hc337  _ _ _ _  (lc309_0) (lc309_1) H O (SF_trans (SF_trans (SF_trans (SF_refl) (SF_gluc (ι := oz_V4clsl_3) oz_V4cls_6 hS22 eF22 (by decide +kernel)) (any_sub (lₚ := []) (by decide +kernel))) (SF_gluc (ι := oz_V4clsl_2) oz_V4cls_5 hS27 eF27 (by decide +kernel)) (any_sub (lₚ := []) (by decide +kernel))) hS_c309 (any_sub (by decide +kernel))) (SA_trans (SA_upd (SA_trans (SA_trans (SA_upd (SA_trans (SA_refl) (SA_gluc (ι := oz_V4clsl_3) oz_V4cls_6 hA22 eA22 (by decide +kernel)) (any_subA (lₚ := []) (by decide +kernel))) rfl) (SA_gluc (ι := oz_V4clsl_2) oz_V4cls_5 hA27 eA27 (by decide +kernel)) (any_subA (lₚ := []) (by decide +kernel))) hA_c309 (any_subA (by decide +kernel))) rfl) hA31 (any_subA (by decide +kernel)))     (show 0 ≤ (u2_1) ∧ (u2_1) ≤ (n3) ∧ (n3) ≤ 65536 from h2)
      refine w_icmple (t := 308) rfl rfl (show inr (u2_1) from q_884 h2) (show inr (z27) from pz27_0) (fun b32 => ?_) (fun b32 => ?_)
      · refine Ew_of (pcₚ := 309) (fun _ => x_iconst rfl) ?_
        exact hc309 (0) _ _ _ _  (rk_o (hl0) rfl rfl) (rk_o (hl1) rfl rfl) (rk_o (hl3) rfl rfl) H O (SF_refl) (SA_refl)     (show inr (0) from q_20) (show ((u2_1) ≤ (z27) ∧ (0) = (0)) ∨ ((u2_1) > (z27) ∧ (0) = (1)) from q_2508 b32)
      · refine Ew_of (pcₚ := 305) (fun _ => x_iconst rfl) ?_
        refine Ew_of (pcₚ := 309) (fun _ => x_goto rfl rfl) ?_
        exact hc309 (1) _ _ _ _  (rk_o (hl0) rfl rfl) (rk_o (hl1) rfl rfl) (rk_o (hl3) rfl rfl) H O (SF_refl) (SA_refl)     (show inr (1) from q_23) (show ((u2_1) ≤ (z27) ∧ (1) = (0)) ∨ ((u2_1) > (z27) ∧ (1) = (1)) from q_2509 b32)
    · refine Ew_of (pcₚ := 271) (fun _ => x_iconst rfl) ?_
      refine Ew_of (pcₚ := 275) (fun _ => x_goto rfl rfl) ?_
      refine w_iaddA rfl (fun z33 gz33 => ?_)
      refine v_sI H (o := 7) (z := z33) rfl rfl rfl rfl (n := n7) (en7) (show 0 ≤ 0 ∧ 0 < n7 from q_4047 (HIDe r7) h6) (show inr (z33) from gz33) (fun σ H Oₚ => ?_)
      have O := OUT_trans O Oₚ
      have cAu34 : SA oz_V4clsl_0 A (updA A22 7 (0) (z33)) := SA_upd (cA22) rfl
      have mAu34 := SAm_of cAu34 oz_V4cls_3
      refine Ew_of (pcₚ := 278) (fun _ => x_aload_n rfl (rk_o (hl0) rfl rfl)) ?_
      refine v_g H (o := 0) (v := .ref (D 7)) rfl rfl rfl rfl rfl (vrf ((mF22 0 16 rfl).trans (pf7))) ?_
      refine Ew_of (pcₚ := 282) (fun _ => x_iconst rfl) ?_
      refine Ew_of (pcₚ := 283) (fun _ => x_dup2 rfl rfl rfl) ?_
      refine v_lI H (o := 7) rfl rfl rfl rfl (n := n7) (en7) (show 0 ≤ 1 ∧ 1 < n7 from q_4077 h6) (fun v35 ev35 (qv35 : HID _) => ?_)
      have ev35 : (upd1 (A 7) (0) (z33)) (1) = v35 := (congrFun (congrArg (fun q => upd1 q (0) (z33)) ((show A22 7 = A 7 from (eA22 7)))) (1)).symm.trans ev35
      refine Ew_of (pcₚ := 285) (fun _ => x_aload_n rfl (rk_o (hl0) rfl rfl)) ?_
      refine v_g H (o := 0) (v := .ref (D 2)) rfl rfl rfl rfl rfl (vrf ((mF22 0 5 rfl).trans (pf2))) ?_
      refine v_g H (o := 2) (v := I (u2_1)) rfl rfl rfl rfl rfl (congrArg (fun z : Int => I z) (((mF22 2 1 rfl).trans (eu2_1)) : F22 2 1 = u2_1)) ?_
      refine Ew_of (pcₚ := 292) (fun _ => x_aload_n rfl (rk_o (hl0) rfl rfl)) ?_
      refine Ew_of (pcₚ := 293) (fun _ => x_iload_n rfl (rk_o (hl3) rfl rfl)) ?_
      refine Ew_of (pcₚ := 295) (fun _ => x_aload rfl (rk_o (hl4) rfl rfl)) ?_
      refine v_g H (o := 1) (v := I (u1_1)) rfl rfl rfl rfl rfl (congrArg (fun z : Int => I z) (((mF22 1 1 rfl).trans (eu1_1)) : F22 1 1 = u1_1)) ?_
      refine v_inv H (o := 0) rfl rfl rfl rfl rfl rfl (by rfl) (C34 (D := puc 5632 D) (N := puc 5632 N) (HW_subc H oz_V4cls_1 oz_V4cls_5) ((mF22 0 1 rfl).trans (pf11)) (n11) (en11) (w11) ((funext (mAu34 11 rfl)).trans (ew11)) (show inr (4) from q_2) (show inr (u1_1) from q_3077 h4 h5) (show 0 ≤ (u1_1) ∧ (u1_1) ≤ 16384 from q_4318 h4 h5) (show 1 ≤ ((w11)) 2 ∧ ((w11)) 2 ≤ 65536 from h9) (show 0 ≤ ((w11)) 8 ∧ ((w11)) 8 ≤ 11 from h10) (show 0 ≤ ((w11)) 6 ∧ ((w11)) 6 ≤ 255 from h11) (show (n11) = 10 from h12) (fun z36 σ36 F36ₚ A36ₚ Hₚ Oₚ hS36 hA36 pz36_0 => ⟨rfl, ?_⟩))
      refine v_backc (c := c) (s := s) H oz_V4cls_1 oz_V4cls_5 Hₚ Oₚ (fun F36 A36 H Oₚ eF36 eA36 => ?_)
      have O := OUT_trans O Oₚ
      -- PackHouse.boundOf
      have cF36 : SF oz_V4clsl_1 F F36 := SF_trans (cF22) (SF_gluc (ι := oz_V4clsl_2) oz_V4cls_5 hS36 eF36 (by decide +kernel)) (any_sub (lₚ := []) (by decide +kernel))
      have mF36 := SFm_of cF36 oz_V4cls_4
      have cA36 : SA oz_V4clsl_0 A A36 := SA_trans (cAu34) (SA_gluc (ι := oz_V4clsl_2) oz_V4cls_5 hA36 eA36 (by decide +kernel)) (any_subA (lₚ := []) (by decide +kernel))
      have mA36 := SAm_of cA36 oz_V4cls_3
      have hc309 : ∀ (tc309_0 : Int), ∀ (ls : rO) (σ : rS) (F_c309 : hF) (A_c309 : hA) , rlook ls 0 = some (.ref (D 0)) → rlook ls 1 = some (I (x1)) → rlook ls 3 = some (I (4)) → HW V17_ve4 σ D N F_c309 A_c309 → OUT (V17_ve4).length D N σE c s D N σ c s → SF [] F36 F_c309 → SA [] A36 A_c309 → (inr (tc309_0)) → (((u2_1) ≤ (z36) ∧ (tc309_0) = (0)) ∨ ((u2_1) > (z36) ∧ (tc309_0) = (1))) → Ew 17 (d + 3) 309 ls [I (tc309_0), I (v35), I (1), .ref (D 7)] σ c s Q := by
       as_aux_lemma =>
        intro tc309_0 ls σ F_c309 A_c309  lc309_0 lc309_1 lc309_3 H O hS_c309 hA_c309     jc309_0 jc309_1
        have cF_c309 : SF oz_V4clsl_1 F F_c309 := SF_trans (cF36) hS_c309 (any_sub (by decide +kernel))
        have mF_c309 := SFm_of cF_c309 oz_V4cls_4
        have cA_c309 : SA oz_V4clsl_0 A A_c309 := SA_trans (cA36) hA_c309 (any_subA (by decide +kernel))
        have mA_c309 := SAm_of cA_c309 oz_V4cls_3
        refine w_iaddA rfl (fun z37 gz37 => ?_)
        refine v_sI H (o := 7) (z := z37) rfl rfl rfl rfl (n := n7) (en7) (show 0 ≤ 1 ∧ 1 < n7 from q_4077 h6) (show inr (z37) from gz37) (fun σ H Oₚ => ?_)
        have O := OUT_trans O Oₚ
        have cAu38 : SA oz_V4clsl_0 A (updA A_c309 7 (1) (z37)) := SA_upd (cA_c309) rfl
        have mAu38 := SAm_of cAu38 oz_V4cls_3
        refine Ew_of (pcₚ := 312) (fun _ => x_iload_n rfl lc309_3) ?_
        refine Ew_of (pcₚ := 313) (fun _ => x_iconst rfl) ?_
        refine w_icmpne (t := 337) rfl rfl (show inr (4) from q_2) (show inr (4) from q_2) (fun b39 => ?_) (fun b39 => ?_)
        · exact absurd b39 (by omega)
        · refine Ew_of (pcₚ := 317) (fun _ => x_aload_n rfl lc309_0) ?_
          refine v_g H (o := 0) (v := .ref (D 9)) rfl rfl rfl rfl rfl (vrf ((mF_c309 0 11 rfl).trans (pf9))) ?_
          refine v_g H (o := 9) (v := .ref (D 10)) rfl rfl rfl rfl rfl (vrf ((mF_c309 9 18 rfl).trans (pf10))) ?_
          refine Ew_of (pcₚ := 324) (fun _ => x_iconst rfl) ?_
          refine Ew_of (pcₚ := 325) (fun _ => x_aload_n rfl lc309_0) ?_
          refine v_g H (o := 0) (v := .ref (D 8)) rfl rfl rfl rfl rfl (vrf ((mF_c309 0 13 rfl).trans (pf8))) ?_
          refine Ew_of (pcₚ := 329) (fun _ => x_iconst rfl) ?_
          refine Ew_of (pcₚ := 330) (fun _ => x_aload_n rfl lc309_0) ?_
          refine v_g H (o := 0) (v := .ref (D 8)) rfl rfl rfl rfl rfl (vrf ((mF_c309 0 13 rfl).trans (pf8))) ?_
          refine v_len H (o := 8) rfl rfl rfl rfl (n := n8) (en8) ?_
          refine v_cpy H (t := 8) (t0 := 10) rfl rfl rfl rfl rfl rfl rfl rfl (n := n8) (en8) (n0 := n10) (en10) (show 0 ≤ n8 ∧ 0 ≤ 0 ∧ 0 ≤ 0 ∧ 0 + n8 ≤ n10 ∧ 0 + n8 ≤ n8 from q_4416 (HIDe r8) h7 h8) (fun σ A40 H Oₚ hA40 ga40 gb40 => ?_)
          have gb40 : ∀ i, i < 0 ∨ 0 + n8 ≤ i → A40 8 i = (A 8) i := fun i a => (gb40 i a).trans (congrFun ((funext (hA_c309 8 rfl)).trans (((show A36 8 = (updA A22 7 (0) (z33)) 8 from (eA36 8))).trans ((show A22 8 = A 8 from (eA22 8))))) i)
          have ga40 : ∀ i, 0 ≤ i → i < 0 + n8 → A40 8 i = (A 10) (0 + (i - 0)) := fun i a b => (ga40 i a b).trans (congrFun (funext (mAu38 10 rfl)) _)
          have O := OUT_trans O Oₚ
          have cA40 : SA oz_V4clsl_0 A A40 := SA_trans (cAu38) hA40 (any_subA (by decide +kernel))
          have mA40 := SAm_of cA40 oz_V4cls_3
          exact hc337  _ _ _ _  (lc309_0) (lc309_1) H O (SF_trans (SF_trans (SF_trans (SF_refl) (SF_gluc (ι := oz_V4clsl_3) oz_V4cls_6 hS22 eF22 (by decide +kernel)) (any_sub (lₚ := []) (by decide +kernel))) (SF_gluc (ι := oz_V4clsl_2) oz_V4cls_5 hS36 eF36 (by decide +kernel)) (any_sub (lₚ := []) (by decide +kernel))) hS_c309 (any_sub (by decide +kernel))) (SA_trans (SA_upd (SA_trans (SA_trans (SA_upd (SA_trans (SA_refl) (SA_gluc (ι := oz_V4clsl_3) oz_V4cls_6 hA22 eA22 (by decide +kernel)) (any_subA (lₚ := []) (by decide +kernel))) rfl) (SA_gluc (ι := oz_V4clsl_2) oz_V4cls_5 hA36 eA36 (by decide +kernel)) (any_subA (lₚ := []) (by decide +kernel))) hA_c309 (any_subA (by decide +kernel))) rfl) hA40 (any_subA (by decide +kernel)))     (show 0 ≤ (u2_1) ∧ (u2_1) ≤ (n3) ∧ (n3) ≤ 65536 from h2)
      refine w_icmple (t := 308) rfl rfl (show inr (u2_1) from q_884 h2) (show inr (z36) from pz36_0) (fun b41 => ?_) (fun b41 => ?_)
      · refine Ew_of (pcₚ := 309) (fun _ => x_iconst rfl) ?_
        exact hc309 (0) _ _ _ _  (rk_o (hl0) rfl rfl) (rk_o (hl1) rfl rfl) (rk_o (hl3) rfl rfl) H O (SF_refl) (SA_refl)     (show inr (0) from q_20) (show ((u2_1) ≤ (z36) ∧ (0) = (0)) ∨ ((u2_1) > (z36) ∧ (0) = (1)) from q_2508 b41)
      · refine Ew_of (pcₚ := 305) (fun _ => x_iconst rfl) ?_
        refine Ew_of (pcₚ := 309) (fun _ => x_goto rfl rfl) ?_
        exact hc309 (1) _ _ _ _  (rk_o (hl0) rfl rfl) (rk_o (hl1) rfl rfl) (rk_o (hl3) rfl rfl) H O (SF_refl) (SA_refl)     (show inr (1) from q_23) (show ((u2_1) ≤ (z36) ∧ (1) = (0)) ∨ ((u2_1) > (z36) ∧ (1) = (1)) from q_2509 b41)
abbrev V17_ve5 : vV := [(0, 0, [(4, 0), (4, 0), (4, 0), (4, 0), (4, 0), (4, 0), (4, 0), (4, 0), (4, 0), (4, 0), (4, 0), (4, 0), (4, 0), (4, 0), (4, 0), (4, 0), (4, 0), (0, 0), (0, 0)]), (0, 7, [(4, 0), (0, 0), (1, 0), (0, 0), (0, 0)]), (0, 7, [(4, 0), (0, 0), (1, 0), (0, 0), (0, 0)]), (1, 0, []), (1, 0, []), (1, 1, []), (1, 1, [])]
theorem len_V17_ve5_oz_V4cls : (V17_ve5).length = 7 := by decide +kernel
theorem oz_V4cls_8 : vsub V17_ve5 V34 [0, 6] = true := by decide +kernel
def oz_V4clsl_4 : List Nat := [5]
theorem oz_V4cls_9 : (oz_V4clsl_4).all (fun p => !tbz 32 p) = true := by decide +kernel
def oz_V4clsl_5 : List Nat := [0, 6]
theorem oz_V4cls_10 : okc oz_V4clsl_5 3072 = true := by decide +kernel
/-- PackHouse.write: this, @F, this.written, this.written.bytes, @F.bytes, this.strays, this.settings -/
theorem C17_ve5 {σE : rS} {D N : Nat → Nat} {F : hF} {A : hA} {d c s : Nat} {Q : wQ} (H : HW V17_ve5 σE D N F A) {x1 : Int} (pf2 : HID (F 0 5 = (D 2 : Int))) (pf3 : HID (F 2 0 = (D 3 : Int))) (pf4 : HID (F 1 0 = (D 4 : Int))) (pf5 : HID (F 0 16 = (D 5 : Int))) (pf6 : HID (F 0 1 = (D 6 : Int))) (n3 : Int) (en3 : HID ((N 3 : Int) = n3)) (n4 : Int) (en4 : HID ((N 4 : Int) = n4)) (n5 : Int) (en5 : HID ((N 5 : Int) = n5)) (n6 : Int) (en6 : HID ((N 6 : Int) = n6)) (u1_1 : Int) (eu1_1 : HID (F 1 1 = u1_1)) (u2_1 : Int) (eu2_1 : HID (F 2 1 = u2_1)) (w6 : Int → Int) (ew6 : A 6 = w6) {ls : rO} (hl0 : rlook ls 0 = some (.ref (D 0))) (hl1 : rlook ls 1 = some (I (x1))) (hl3 : rlook ls 3 = some (I (5))) (hl4 : rlook ls 4 = some (.ref (D 1))) (h0 : inr (x1)) (h1 : 0 ≤ (u2_1) ∧ (u2_1) ≤ (n3) ∧ (n3) ≤ 65536) (h2 : 0 ≤ (u1_1) ∧ (u1_1) ≤ (n4) ∧ (n4) ≤ 65536) (h3 : (u1_1) ≤ 16384) (h4 : (n5) = 2) (h5 : 1 ≤ ((w6)) 2 ∧ ((w6)) 2 ≤ 65536) (h6 : 0 ≤ ((w6)) 8 ∧ ((w6)) 8 ≤ 11) (h7 : 0 ≤ ((w6)) 6 ∧ ((w6)) 6 ≤ 255) (h8 : (n6) = 10) (hc337 : ∀ (ls : rO) (σ : rS) (F_c337 : hF) (A_c337 : hA) , rlook ls 0 = some (.ref (D 0)) → rlook ls 1 = some (I (x1)) → HW V17_ve5 σ D N F_c337 A_c337 → OUT (V17_ve5).length D N σE c s D N σ c s → SF [] F F_c337 → SA [5] A A_c337 → (0 ≤ (u2_1) ∧ (u2_1) ≤ (n3) ∧ (n3) ≤ 65536) → Ew 17 (d + 3) 337 ls [] σ c s Q) (k : ∀ (z : Int) (σ : rS) (Fₚ : hF) (Aₚ : hA), HW V17_ve5 σ D N Fₚ Aₚ → OUT (V17_ve5).length D N σE c s D N σ c s → SF [] F Fₚ → SA [5] A Aₚ → (inr (z)) → ((0 : Int) = 1) → Q (some (I z)) σ c s) : Ew 17 (d + 3) 277 ls [] σE c s Q := by
  have O := OUT_refl (n := (V17_ve5).length) (D := D) (N := N) (σ := σE) (c := c) (s := s)
  have HE := H
  refine Ew_of (pcₚ := 278) (fun _ => x_aload_n rfl hl0) ?_
  refine v_g H (o := 0) (v := .ref (D 5)) rfl rfl rfl rfl rfl (vrf (pf5)) ?_
  refine Ew_of (pcₚ := 282) (fun _ => x_iconst rfl) ?_
  refine Ew_of (pcₚ := 283) (fun _ => x_dup2 rfl rfl rfl) ?_
  refine v_lI H (o := 5) rfl rfl rfl rfl (n := n5) (en5) (show 0 ≤ 1 ∧ 1 < n5 from q_4077 h4) (fun v7 ev7 (qv7 : HID _) => ?_)
  have ev7 : (A 5) (1) = v7 := (congrFun (rfl : A 5 = A 5) (1)).symm.trans ev7
  refine Ew_of (pcₚ := 285) (fun _ => x_aload_n rfl hl0) ?_
  refine v_g H (o := 0) (v := .ref (D 2)) rfl rfl rfl rfl rfl (vrf (pf2)) ?_
  refine v_g H (o := 2) (v := I (u2_1)) rfl rfl rfl rfl rfl (congrArg (fun z : Int => I z) ((eu2_1) : F 2 1 = u2_1)) ?_
  refine Ew_of (pcₚ := 292) (fun _ => x_aload_n rfl hl0) ?_
  refine Ew_of (pcₚ := 293) (fun _ => x_iload_n rfl hl3) ?_
  refine Ew_of (pcₚ := 295) (fun _ => x_aload rfl hl4) ?_
  refine v_g H (o := 1) (v := I (u1_1)) rfl rfl rfl rfl rfl (congrArg (fun z : Int => I z) ((eu1_1) : F 1 1 = u1_1)) ?_
  refine v_inv H (o := 0) rfl rfl rfl rfl rfl rfl (by rfl) (C34 (D := puc 3072 D) (N := puc 3072 N) (HW_subc H oz_V4cls_8 oz_V4cls_10) (pf6) (n6) (en6) (w6) (ew6) (show inr (5) from q_509) (show inr (u1_1) from q_3077 h2 h3) (show 0 ≤ (u1_1) ∧ (u1_1) ≤ 16384 from q_4318 h2 h3) (show 1 ≤ ((w6)) 2 ∧ ((w6)) 2 ≤ 65536 from h5) (show 0 ≤ ((w6)) 8 ∧ ((w6)) 8 ≤ 11 from h6) (show 0 ≤ ((w6)) 6 ∧ ((w6)) 6 ≤ 255 from h7) (show (n6) = 10 from h8) (fun z8 σ8 F8ₚ A8ₚ Hₚ Oₚ hS8 hA8 pz8_0 => ⟨rfl, ?_⟩))
  refine v_backc (c := c) (s := s) H oz_V4cls_8 oz_V4cls_10 Hₚ Oₚ (fun F8 A8 H Oₚ eF8 eA8 => ?_)
  have O := OUT_trans O Oₚ
  -- PackHouse.boundOf
  have cF8 : SF oz_V4clsl_1 F F8 := SF_trans (SF_refl) (SF_gluc (ι := oz_V4clsl_5) oz_V4cls_10 hS8 eF8 (by decide +kernel)) (any_sub (lₚ := []) (by decide +kernel))
  have mF8 := SFm_of cF8 oz_V4cls_4
  have cA8 : SA oz_V4clsl_4 A A8 := SA_trans (SA_refl) (SA_gluc (ι := oz_V4clsl_5) oz_V4cls_10 hA8 eA8 (by decide +kernel)) (any_subA (lₚ := []) (by decide +kernel))
  have mA8 := SAm_of cA8 oz_V4cls_9
  have hc309 : ∀ (tc309_0 : Int), ∀ (ls : rO) (σ : rS) (F_c309 : hF) (A_c309 : hA) , rlook ls 0 = some (.ref (D 0)) → rlook ls 1 = some (I (x1)) → rlook ls 3 = some (I (5)) → HW V17_ve5 σ D N F_c309 A_c309 → OUT (V17_ve5).length D N σE c s D N σ c s → SF [] F8 F_c309 → SA [] A8 A_c309 → (inr (tc309_0)) → (((u2_1) ≤ (z8) ∧ (tc309_0) = (0)) ∨ ((u2_1) > (z8) ∧ (tc309_0) = (1))) → Ew 17 (d + 3) 309 ls [I (tc309_0), I (v7), I (1), .ref (D 5)] σ c s Q := by
   as_aux_lemma =>
    intro tc309_0 ls σ F_c309 A_c309  lc309_0 lc309_1 lc309_3 H O hS_c309 hA_c309     jc309_0 jc309_1
    have cF_c309 : SF oz_V4clsl_1 F F_c309 := SF_trans (cF8) hS_c309 (any_sub (by decide +kernel))
    have mF_c309 := SFm_of cF_c309 oz_V4cls_4
    have cA_c309 : SA oz_V4clsl_4 A A_c309 := SA_trans (cA8) hA_c309 (any_subA (by decide +kernel))
    have mA_c309 := SAm_of cA_c309 oz_V4cls_9
    refine w_iaddA rfl (fun z9 gz9 => ?_)
    refine v_sI H (o := 5) (z := z9) rfl rfl rfl rfl (n := n5) (en5) (show 0 ≤ 1 ∧ 1 < n5 from q_4077 h4) (show inr (z9) from gz9) (fun σ H Oₚ => ?_)
    have O := OUT_trans O Oₚ
    have cAu10 : SA oz_V4clsl_4 A (updA A_c309 5 (1) (z9)) := SA_upd (cA_c309) rfl
    have mAu10 := SAm_of cAu10 oz_V4cls_9
    refine Ew_of (pcₚ := 312) (fun _ => x_iload_n rfl lc309_3) ?_
    refine Ew_of (pcₚ := 313) (fun _ => x_iconst rfl) ?_
    refine w_icmpne (t := 337) rfl rfl (show inr (5) from q_509) (show inr (4) from q_2) (fun b11 => ?_) (fun b11 => ?_)
    · exact hc337  _ _ _ _  (lc309_0) (lc309_1) H O (SF_trans (SF_trans (SF_refl) (SF_gluc (ι := oz_V4clsl_5) oz_V4cls_10 hS8 eF8 (by decide +kernel)) (any_sub (lₚ := []) (by decide +kernel))) hS_c309 (any_sub (by decide +kernel))) (SA_upd (SA_trans (SA_trans (SA_refl) (SA_gluc (ι := oz_V4clsl_5) oz_V4cls_10 hA8 eA8 (by decide +kernel)) (any_subA (lₚ := []) (by decide +kernel))) hA_c309 (any_subA (by decide +kernel))) rfl)     (show 0 ≤ (u2_1) ∧ (u2_1) ≤ (n3) ∧ (n3) ≤ 65536 from h1)
    · exact absurd b11 (by omega)
  refine w_icmple (t := 308) rfl rfl (show inr (u2_1) from q_884 h1) (show inr (z8) from pz8_0) (fun b12 => ?_) (fun b12 => ?_)
  · refine Ew_of (pcₚ := 309) (fun _ => x_iconst rfl) ?_
    exact hc309 (0) _ _ _ _  (hl0) (hl1) (hl3) H O (SF_refl) (SA_refl)     (show inr (0) from q_20) (show ((u2_1) ≤ (z8) ∧ (0) = (0)) ∨ ((u2_1) > (z8) ∧ (0) = (1)) from q_2508 b12)
  · refine Ew_of (pcₚ := 305) (fun _ => x_iconst rfl) ?_
    refine Ew_of (pcₚ := 309) (fun _ => x_goto rfl rfl) ?_
    exact hc309 (1) _ _ _ _  (hl0) (hl1) (hl3) H O (SF_refl) (SA_refl)     (show inr (1) from q_23) (show ((u2_1) ≤ (z8) ∧ (1) = (0)) ∨ ((u2_1) > (z8) ∧ (1) = (1)) from q_2509 b12)
