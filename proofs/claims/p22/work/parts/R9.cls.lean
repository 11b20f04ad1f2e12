abbrev V17_ve0 : vV := [(0, 0, [(4, 0), (4, 0), (4, 0), (4, 0), (4, 0), (4, 0), (4, 0), (4, 0), (4, 0), (4, 0), (4, 0), (4, 0), (4, 0), (4, 0), (4, 0), (4, 0), (4, 0), (0, 0), (0, 0)]), (0, 7, [(4, 0), (0, 0), (1, 0), (0, 0), (0, 0)]), (0, 7, [(4, 0), (0, 0), (1, 0), (0, 0), (0, 0)]), (1, 0, []), (0, 7, [(4, 0), (0, 0), (1, 0), (0, 0), (0, 0)]), (1, 0, []), (1, 0, []), (1, 1, []), (1, 1, [])]
theorem len_V17_ve0_oz_R9cls : (V17_ve0).length = 9 := by decide +kernel
theorem oz_R9cls_1 : vsub V17_ve0 V34 [0, 8] = true := by decide +kernel
theorem oz_R9cls_2 : vsub V17_ve0 V29_Row_Row [4, 1, 5, 6] = true := by decide +kernel
def oz_R9clsl_0 : List Nat := [7]
theorem oz_R9cls_3 : (oz_R9clsl_0).all (fun p => !tbz 128 p) = true := by decide +kernel
def oz_R9clsl_1 : List (Nat × Nat) := []
theorem oz_R9cls_4 : (oz_R9clsl_1).all (fun p => !tbz 0 (Nat.add (Nat.mul 32 p.1) p.2)) = true := by decide +kernel
def oz_R9clsl_2 : List Nat := [0, 8]
theorem oz_R9cls_5 : okc oz_R9clsl_2 4096 = true := by decide +kernel
def oz_R9clsl_3 : List Nat := [4, 1, 5, 6]
theorem oz_R9cls_6 : okc oz_R9clsl_3 806617604 = true := by decide +kernel
/-- PackHouse.write: this, @F, this.written, this.written.bytes, this.content, this.content.bytes, @F.bytes, this.strays, this.settings -/
theorem C17_ve0 {σE : rS} {D N : Nat → Nat} {F : hF} {A : hA} {d c s : Nat} {Q : wQ} (H : HW V17_ve0 σE D N F A) {x1 y0 : Int} (pf2 : HID (F 0 5 = (D 2 : Int))) (pf3 : HID (F 2 0 = (D 3 : Int))) (pf4 : HID (F 0 6 = (D 4 : Int))) (pf5 : HID (F 4 0 = (D 5 : Int))) (pf6 : HID (F 1 0 = (D 6 : Int))) (pf7 : HID (F 0 16 = (D 7 : Int))) (pf8 : HID (F 0 1 = (D 8 : Int))) (n3 : Int) (en3 : HID ((N 3 : Int) = n3)) (n5 : Int) (en5 : HID ((N 5 : Int) = n5)) (n6 : Int) (en6 : HID ((N 6 : Int) = n6)) (n7 : Int) (en7 : HID ((N 7 : Int) = n7)) (n8 : Int) (en8 : HID ((N 8 : Int) = n8)) (u1_1 : Int) (eu1_1 : HID (F 1 1 = u1_1)) (u2_1 : Int) (eu2_1 : HID (F 2 1 = u2_1)) (u4_1 : Int) (eu4_1 : HID (F 4 1 = u4_1)) (w8 : Int → Int) (ew8 : A 8 = w8) {ls : rO} (hl0 : rlook ls 0 = some (.ref (D 0))) (hl1 : rlook ls 1 = some (I (x1))) (hl3 : rlook ls 3 = some (I (0))) (hl4 : rlook ls 4 = some (.ref (D 1))) (h0 : inr (x1)) (h1 : inr y0) (h2 : 0 ≤ (u2_1) ∧ (u2_1) ≤ (n3) ∧ (n3) ≤ 65536) (h3 : 0 ≤ (u4_1) ∧ (u4_1) ≤ (n5) ∧ (n5) ≤ 65536) (h4 : 0 ≤ (u1_1) ∧ (u1_1) ≤ (n6) ∧ (n6) ≤ 65536) (h5 : (u1_1) ≤ 16384) (h6 : (n7) = 2) (h7 : 1 ≤ ((w8)) 2 ∧ ((w8)) 2 ≤ 65536) (h8 : 0 ≤ ((w8)) 8 ∧ ((w8)) 8 ≤ 11) (h9 : 0 ≤ ((w8)) 6 ∧ ((w8)) 6 ≤ 255) (h10 : (n8) = 10) (hc337 : ∀ (ls : rO) (σ : rS) (F_c337 : hF) (A_c337 : hA) , rlook ls 0 = some (.ref (D 0)) → rlook ls 1 = some (I (x1)) → HW V17_ve0 σ D N F_c337 A_c337 → OUT (V17_ve0).length D N σE c s D N σ c s → SF [] F F_c337 → SA [7] A A_c337 → (0 ≤ (u2_1) ∧ (u2_1) ≤ (n3) ∧ (n3) ≤ 65536) → Ew 17 (d + 3) 337 ls [] σ c s Q) (k : ∀ (z : Int) (σ : rS) (Fₚ : hF) (Aₚ : hA), HW V17_ve0 σ D N Fₚ Aₚ → OUT (V17_ve0).length D N σE c s D N σ c s → SF [] F Fₚ → SA [7] A Aₚ → (inr (z)) → ((0 : Int) = 1) → Q (some (I z)) σ c s) : Ew 17 (d + 3) 239 ls [I (y0)] σE c s Q := by
  have O := OUT_refl (n := (V17_ve0).length) (D := D) (N := N) (σ := σE) (c := c) (s := s)
  have HE := H
  have r7 : HID ((0 : Int) ≤ n7 ∧ n7 ≤ 1000000) := nrng (H.nle 7 (ltn len_V17_ve0_oz_R9cls rfl)) (show (N 7 : Int) = n7 from en7)
  refine Ew_of (pcₚ := 241) (fun _ => x_istore rfl) ?_
  refine Ew_of (pcₚ := 242) (fun _ => x_aload_n rfl (rk_o (hl0) rfl rfl)) ?_
  refine v_g H (o := 0) (v := .ref (D 7)) rfl rfl rfl rfl rfl (vrf (pf7)) ?_
  refine Ew_of (pcₚ := 246) (fun _ => x_iconst rfl) ?_
  refine Ew_of (pcₚ := 247) (fun _ => x_dup2 rfl rfl rfl) ?_
  refine v_lI H (o := 7) rfl rfl rfl rfl (n := n7) (en7) (show 0 ≤ 0 ∧ 0 < n7 from q_4047 (HIDe r7) h6) (fun v9 ev9 (qv9 : HID _) => ?_)
  have ev9 : (A 7) (0) = v9 := (congrFun (rfl : A 7 = A 7) (0)).symm.trans ev9
  refine Ew_of (pcₚ := 250) (fun _ => x_iload rfl rk_s) ?_
  refine Ew_of (pcₚ := 252) (fun _ => x_aload rfl (rk_o (hl4) rfl rfl)) ?_
  refine v_g H (o := 1) (v := I (u1_1)) rfl rfl rfl rfl rfl (congrArg (fun z : Int => I z) ((eu1_1) : F 1 1 = u1_1)) ?_
  refine w_icmpne (t := 274) rfl rfl (show inr (y0) from h1) (show inr (u1_1) from q_3077 h4 h5) (fun b10 => ?_) (fun b10 => ?_)
  · refine Ew_of (pcₚ := 275) (fun _ => x_iconst rfl) ?_
    refine w_iaddA rfl (fun z11 gz11 => ?_)
    refine v_sI H (o := 7) (z := z11) rfl rfl rfl rfl (n := n7) (en7) (show 0 ≤ 0 ∧ 0 < n7 from q_4047 (HIDe r7) h6) (show inr (z11) from gz11) (fun σ H Oₚ => ?_)
    have O := OUT_trans O Oₚ
    have cAu12 : SA oz_R9clsl_0 A (updA A 7 (0) (z11)) := SA_upd (SA_refl) rfl
    have mAu12 := SAm_of cAu12 oz_R9cls_3
    refine Ew_of (pcₚ := 278) (fun _ => x_aload_n rfl (rk_o (hl0) rfl rfl)) ?_
    refine v_g H (o := 0) (v := .ref (D 7)) rfl rfl rfl rfl rfl (vrf (pf7)) ?_
    refine Ew_of (pcₚ := 282) (fun _ => x_iconst rfl) ?_
    refine Ew_of (pcₚ := 283) (fun _ => x_dup2 rfl rfl rfl) ?_
    refine v_lI H (o := 7) rfl rfl rfl rfl (n := n7) (en7) (show 0 ≤ 1 ∧ 1 < n7 from q_4077 h6) (fun v13 ev13 (qv13 : HID _) => ?_)
    have ev13 : (upd1 (A 7) (0) (z11)) (1) = v13 := (congrFun (rfl : (updA A 7 (0) (z11)) 7 = upd1 (A 7) (0) (z11)) (1)).symm.trans ev13
    refine Ew_of (pcₚ := 285) (fun _ => x_aload_n rfl (rk_o (hl0) rfl rfl)) ?_
    refine v_g H (o := 0) (v := .ref (D 2)) rfl rfl rfl rfl rfl (vrf (pf2)) ?_
    refine v_g H (o := 2) (v := I (u2_1)) rfl rfl rfl rfl rfl (congrArg (fun z : Int => I z) ((eu2_1) : F 2 1 = u2_1)) ?_
    refine Ew_of (pcₚ := 292) (fun _ => x_aload_n rfl (rk_o (hl0) rfl rfl)) ?_
    refine Ew_of (pcₚ := 293) (fun _ => x_iload_n rfl (rk_o (hl3) rfl rfl)) ?_
    refine Ew_of (pcₚ := 295) (fun _ => x_aload rfl (rk_o (hl4) rfl rfl)) ?_
    refine v_g H (o := 1) (v := I (u1_1)) rfl rfl rfl rfl rfl (congrArg (fun z : Int => I z) ((eu1_1) : F 1 1 = u1_1)) ?_
    refine v_inv H (o := 0) rfl rfl rfl rfl rfl rfl (by rfl) (C34 (D := puc 4096 D) (N := puc 4096 N) (HW_subc H oz_R9cls_1 oz_R9cls_5) (pf8) (n8) (en8) (w8) ((funext (mAu12 8 rfl)).trans (ew8)) (show inr (0) from q_20) (show inr (u1_1) from q_3077 h4 h5) (show 0 ≤ (u1_1) ∧ (u1_1) ≤ 16384 from q_4318 h4 h5) (show 1 ≤ ((w8)) 2 ∧ ((w8)) 2 ≤ 65536 from h7) (show 0 ≤ ((w8)) 8 ∧ ((w8)) 8 ≤ 11 from h8) (show 0 ≤ ((w8)) 6 ∧ ((w8)) 6 ≤ 255 from h9) (show (n8) = 10 from h10) (fun z14 σ14 F14ₚ A14ₚ Hₚ Oₚ hS14 hA14 pz14_0 => ⟨rfl, ?_⟩))
    refine v_backc (c := c) (s := s) H oz_R9cls_1 oz_R9cls_5 Hₚ Oₚ (fun F14 A14 H Oₚ eF14 eA14 => ?_)
    have O := OUT_trans O Oₚ
    -- PackHouse.boundOf
    have cF14 : SF oz_R9clsl_1 F F14 := SF_trans (SF_refl) (SF_gluc (ι := oz_R9clsl_2) oz_R9cls_5 hS14 eF14 (by decide +kernel)) (any_sub (lₚ := []) (by decide +kernel))
    have mF14 := SFm_of cF14 oz_R9cls_4
    have cA14 : SA oz_R9clsl_0 A A14 := SA_trans (cAu12) (SA_gluc (ι := oz_R9clsl_2) oz_R9cls_5 hA14 eA14 (by decide +kernel)) (any_subA (lₚ := []) (by decide +kernel))
    have mA14 := SAm_of cA14 oz_R9cls_3
    have hc309 : ∀ (tc309_0 : Int), ∀ (ls : rO) (σ : rS) (F_c309 : hF) (A_c309 : hA) , rlook ls 0 = some (.ref (D 0)) → rlook ls 1 = some (I (x1)) → rlook ls 3 = some (I (0)) → HW V17_ve0 σ D N F_c309 A_c309 → OUT (V17_ve0).length D N σE c s D N σ c s → SF [] F14 F_c309 → SA [] A14 A_c309 → (inr (tc309_0)) → (((u2_1) ≤ (z14) ∧ (tc309_0) = (0)) ∨ ((u2_1) > (z14) ∧ (tc309_0) = (1))) → Ew 17 (d + 3) 309 ls [I (tc309_0), I (v13), I (1), .ref (D 7)] σ c s Q := by
     as_aux_lemma =>
      intro tc309_0 ls σ F_c309 A_c309  lc309_0 lc309_1 lc309_3 H O hS_c309 hA_c309     jc309_0 jc309_1
      have cF_c309 : SF oz_R9clsl_1 F F_c309 := SF_trans (cF14) hS_c309 (any_sub (by decide +kernel))
      have mF_c309 := SFm_of cF_c309 oz_R9cls_4
      have cA_c309 : SA oz_R9clsl_0 A A_c309 := SA_trans (cA14) hA_c309 (any_subA (by decide +kernel))
      have mA_c309 := SAm_of cA_c309 oz_R9cls_3
      refine w_iaddA rfl (fun z15 gz15 => ?_)
      refine v_sI H (o := 7) (z := z15) rfl rfl rfl rfl (n := n7) (en7) (show 0 ≤ 1 ∧ 1 < n7 from q_4077 h6) (show inr (z15) from gz15) (fun σ H Oₚ => ?_)
      have O := OUT_trans O Oₚ
      have cAu16 : SA oz_R9clsl_0 A (updA A_c309 7 (1) (z15)) := SA_upd (cA_c309) rfl
      have mAu16 := SAm_of cAu16 oz_R9cls_3
      refine Ew_of (pcₚ := 312) (fun _ => x_iload_n rfl lc309_3) ?_
      refine Ew_of (pcₚ := 313) (fun _ => x_iconst rfl) ?_
      refine w_icmpne (t := 337) rfl rfl (show inr (0) from q_20) (show inr (4) from q_2) (fun b17 => ?_) (fun b17 => ?_)
      · exact hc337  _ _ _ _  (lc309_0) (lc309_1) H O (SF_trans (SF_trans (SF_refl) (SF_gluc (ι := oz_R9clsl_2) oz_R9cls_5 hS14 eF14 (by decide +kernel)) (any_sub (lₚ := []) (by decide +kernel))) hS_c309 (any_sub (by decide +kernel))) (SA_upd (SA_trans (SA_trans (SA_upd (SA_refl) rfl) (SA_gluc (ι := oz_R9clsl_2) oz_R9cls_5 hA14 eA14 (by decide +kernel)) (any_subA (lₚ := []) (by decide +kernel))) hA_c309 (any_subA (by decide +kernel))) rfl)     (show 0 ≤ (u2_1) ∧ (u2_1) ≤ (n3) ∧ (n3) ≤ 65536 from h2)
      · exact absurd b17 (by omega)
    refine w_icmple (t := 308) rfl rfl (show inr (u2_1) from q_884 h2) (show inr (z14) from pz14_0) (fun b18 => ?_) (fun b18 => ?_)
    · refine Ew_of (pcₚ := 309) (fun _ => x_iconst rfl) ?_
      exact hc309 (0) _ _ _ _  (rk_o (hl0) rfl rfl) (rk_o (hl1) rfl rfl) (rk_o (hl3) rfl rfl) H O (SF_refl) (SA_refl)     (show inr (0) from q_20) (show ((u2_1) ≤ (z14) ∧ (0) = (0)) ∨ ((u2_1) > (z14) ∧ (0) = (1)) from q_2508 b18)
    · refine Ew_of (pcₚ := 305) (fun _ => x_iconst rfl) ?_
      refine Ew_of (pcₚ := 309) (fun _ => x_goto rfl rfl) ?_
      exact hc309 (1) _ _ _ _  (rk_o (hl0) rfl rfl) (rk_o (hl1) rfl rfl) (rk_o (hl3) rfl rfl) H O (SF_refl) (SA_refl)     (show inr (1) from q_23) (show ((u2_1) ≤ (z14) ∧ (1) = (0)) ∨ ((u2_1) > (z14) ∧ (1) = (1)) from q_2509 b18)
  · refine Ew_of (pcₚ := 259) (fun _ => x_aload_n rfl (rk_o (hl0) rfl rfl)) ?_
    refine v_g H (o := 0) (v := .ref (D 4)) rfl rfl rfl rfl rfl (vrf (pf4)) ?_
    refine Ew_of (pcₚ := 264) (fun _ => x_aload rfl (rk_o (hl4) rfl rfl)) ?_
    refine w_stat24 rfl rfl (by rfl) (C29_Row_Row (D := puc 806617604 D) (N := puc 806617604 N) (HW_subc H oz_R9cls_2 oz_R9cls_6) (pf5) (pf6) (n5) (en5) (n6) (en6) (u4_1) ((eu4_1)) (u1_1) ((eu1_1)) (show 0 ≤ (u4_1) ∧ (u4_1) ≤ (n5) ∧ (n5) ≤ 65536 from h3) (show 0 ≤ (u1_1) ∧ (u1_1) ≤ (n6) ∧ (n6) ≤ 65536 from h4) (fun z19 σ19 F19ₚ A19ₚ Hₚ Oₚ hS19 hA19 pz19_0 => ⟨rfl, ?_⟩))
    refine v_backc (c := c) (s := s) H oz_R9cls_2 oz_R9cls_6 Hₚ Oₚ (fun F19 A19 H Oₚ eF19 eA19 => ?_)
    have O := OUT_trans O Oₚ
    -- PackHouse.firstUnlike
    have cF19 : SF oz_R9clsl_1 F F19 := SF_trans (SF_refl) (SF_gluc (ι := oz_R9clsl_3) oz_R9cls_6 hS19 eF19 (by decide +kernel)) (any_sub (lₚ := []) (by decide +kernel))
    have mF19 := SFm_of cF19 oz_R9cls_4
    have cA19 : SA oz_R9clsl_0 A A19 := SA_trans (SA_refl) (SA_gluc (ι := oz_R9clsl_3) oz_R9cls_6 hA19 eA19 (by decide +kernel)) (any_subA (lₚ := []) (by decide +kernel))
    have mA19 := SAm_of cA19 oz_R9cls_3
    refine w_ifge (t := 274) rfl rfl (show inr (z19) from pz19_0) (fun b20 => ?_) (fun b20 => ?_)
    · refine Ew_of (pcₚ := 275) (fun _ => x_iconst rfl) ?_
      refine w_iaddA rfl (fun z21 gz21 => ?_)
      refine v_sI H (o := 7) (z := z21) rfl rfl rfl rfl (n := n7) (en7) (show 0 ≤ 0 ∧ 0 < n7 from q_4047 (HIDe r7) h6) (show inr (z21) from gz21) (fun σ H Oₚ => ?_)
      have O := OUT_trans O Oₚ
      have cAu22 : SA oz_R9clsl_0 A (updA A19 7 (0) (z21)) := SA_upd (cA19) rfl
      have mAu22 := SAm_of cAu22 oz_R9cls_3
      refine Ew_of (pcₚ := 278) (fun _ => x_aload_n rfl (rk_o (hl0) rfl rfl)) ?_
      refine v_g H (o := 0) (v := .ref (D 7)) rfl rfl rfl rfl rfl (vrf ((mF19 0 16 rfl).trans (pf7))) ?_
      refine Ew_of (pcₚ := 282) (fun _ => x_iconst rfl) ?_
      refine Ew_of (pcₚ := 283) (fun _ => x_dup2 rfl rfl rfl) ?_
      refine v_lI H (o := 7) rfl rfl rfl rfl (n := n7) (en7) (show 0 ≤ 1 ∧ 1 < n7 from q_4077 h6) (fun v23 ev23 (qv23 : HID _) => ?_)
      have ev23 : (upd1 (A 7) (0) (z21)) (1) = v23 := (congrFun (congrArg (fun q => upd1 q (0) (z21)) ((show A19 7 = A 7 from (eA19 7)))) (1)).symm.trans ev23
      refine Ew_of (pcₚ := 285) (fun _ => x_aload_n rfl (rk_o (hl0) rfl rfl)) ?_
      refine v_g H (o := 0) (v := .ref (D 2)) rfl rfl rfl rfl rfl (vrf ((mF19 0 5 rfl).trans (pf2))) ?_
      refine v_g H (o := 2) (v := I (u2_1)) rfl rfl rfl rfl rfl (congrArg (fun z : Int => I z) (((mF19 2 1 rfl).trans (eu2_1)) : F19 2 1 = u2_1)) ?_
      refine Ew_of (pcₚ := 292) (fun _ => x_aload_n rfl (rk_o (hl0) rfl rfl)) ?_
      refine Ew_of (pcₚ := 293) (fun _ => x_iload_n rfl (rk_o (hl3) rfl rfl)) ?_
      refine Ew_of (pcₚ := 295) (fun _ => x_aload rfl (rk_o (hl4) rfl rfl)) ?_
      refine v_g H (o := 1) (v := I (u1_1)) rfl rfl rfl rfl rfl (congrArg (fun z : Int => I z) (((mF19 1 1 rfl).trans (eu1_1)) : F19 1 1 = u1_1)) ?_
      refine v_inv H (o := 0) rfl rfl rfl rfl rfl rfl (by rfl) (C34 (D := puc 4096 D) (N := puc 4096 N) (HW_subc H oz_R9cls_1 oz_R9cls_5) ((mF19 0 1 rfl).trans (pf8)) (n8) (en8) (w8) ((funext (mAu22 8 rfl)).trans (ew8)) (show inr (0) from q_20) (show inr (u1_1) from q_3077 h4 h5) (show 0 ≤ (u1_1) ∧ (u1_1) ≤ 16384 from q_4318 h4 h5) (show 1 ≤ ((w8)) 2 ∧ ((w8)) 2 ≤ 65536 from h7) (show 0 ≤ ((w8)) 8 ∧ ((w8)) 8 ≤ 11 from h8) (show 0 ≤ ((w8)) 6 ∧ ((w8)) 6 ≤ 255 from h9) (show (n8) = 10 from h10) (fun z24 σ24 F24ₚ A24ₚ Hₚ Oₚ hS24 hA24 pz24_0 => ⟨rfl, ?_⟩))
      refine v_backc (c := c) (s := s) H oz_R9cls_1 oz_R9cls_5 Hₚ Oₚ (fun F24 A24 H Oₚ eF24 eA24 => ?_)
      have O := OUT_trans O Oₚ
      -- PackHouse.boundOf
      have cF24 : SF oz_R9clsl_1 F F24 := SF_trans (cF19) (SF_gluc (ι := oz_R9clsl_2) oz_R9cls_5 hS24 eF24 (by decide +kernel)) (any_sub (lₚ := []) (by decide +kernel))
      have mF24 := SFm_of cF24 oz_R9cls_4
      have cA24 : SA oz_R9clsl_0 A A24 := SA_trans (cAu22) (SA_gluc (ι := oz_R9clsl_2) oz_R9cls_5 hA24 eA24 (by decide +kernel)) (any_subA (lₚ := []) (by decide +kernel))
      have mA24 := SAm_of cA24 oz_R9cls_3
      have hc309 : ∀ (tc309_0 : Int), ∀ (ls : rO) (σ : rS) (F_c309 : hF) (A_c309 : hA) , rlook ls 0 = some (.ref (D 0)) → rlook ls 1 = some (I (x1)) → rlook ls 3 = some (I (0)) → HW V17_ve0 σ D N F_c309 A_c309 → OUT (V17_ve0).length D N σE c s D N σ c s → SF [] F24 F_c309 → SA [] A24 A_c309 → (inr (tc309_0)) → (((u2_1) ≤ (z24) ∧ (tc309_0) = (0)) ∨ ((u2_1) > (z24) ∧ (tc309_0) = (1))) → Ew 17 (d + 3) 309 ls [I (tc309_0), I (v23), I (1), .ref (D 7)] σ c s Q := by
       as_aux_lemma =>
        intro tc309_0 ls σ F_c309 A_c309  lc309_0 lc309_1 lc309_3 H O hS_c309 hA_c309     jc309_0 jc309_1
        have cF_c309 : SF oz_R9clsl_1 F F_c309 := SF_trans (cF24) hS_c309 (any_sub (by decide +kernel))
        have mF_c309 := SFm_of cF_c309 oz_R9cls_4
        have cA_c309 : SA oz_R9clsl_0 A A_c309 := SA_trans (cA24) hA_c309 (any_subA (by decide +kernel))
        have mA_c309 := SAm_of cA_c309 oz_R9cls_3
        refine w_iaddA rfl (fun z25 gz25 => ?_)
        refine v_sI H (o := 7) (z := z25) rfl rfl rfl rfl (n := n7) (en7) (show 0 ≤ 1 ∧ 1 < n7 from q_4077 h6) (show inr (z25) from gz25) (fun σ H Oₚ => ?_)
        have O := OUT_trans O Oₚ
        have cAu26 : SA oz_R9clsl_0 A (updA A_c309 7 (1) (z25)) := SA_upd (cA_c309) rfl
        have mAu26 := SAm_of cAu26 oz_R9cls_3
        refine Ew_of (pcₚ := 312) (fun _ => x_iload_n rfl lc309_3) ?_
        refine Ew_of (pcₚ := 313) (fun _ => x_iconst rfl) ?_
        refine w_icmpne (t := 337) rfl rfl (show inr (0) from q_20) (show inr (4) from q_2) (fun b27 => ?_) (fun b27 => ?_)
        · exact hc337  _ _ _ _  (lc309_0) (lc309_1) H O (SF_trans (SF_trans (SF_trans (SF_refl) (SF_gluc (ι := oz_R9clsl_3) oz_R9cls_6 hS19 eF19 (by decide +kernel)) (any_sub (lₚ := []) (by decide +kernel))) (SF_gluc (ι := oz_R9clsl_2) oz_R9cls_5 hS24 eF24 (by decide +kernel)) (any_sub (lₚ := []) (by decide +kernel))) hS_c309 (any_sub (by decide +kernel))) (SA_upd (SA_trans (SA_trans (SA_upd (SA_trans (SA_refl) (SA_gluc (ι := oz_R9clsl_3) oz_R9cls_6 hA19 eA19 (by decide +kernel)) (any_subA (lₚ := []) (by decide +kernel))) rfl) (SA_gluc (ι := oz_R9clsl_2) oz_R9cls_5 hA24 eA24 (by decide +kernel)) (any_subA (lₚ := []) (by decide +kernel))) hA_c309 (any_subA (by decide +kernel))) rfl)     (show 0 ≤ (u2_1) ∧ (u2_1) ≤ (n3) ∧ (n3) ≤ 65536 from h2)
        · exact absurd b27 (by omega)
      refine w_icmple (t := 308) rfl rfl (show inr (u2_1) from q_884 h2) (show inr (z24) from pz24_0) (fun b28 => ?_) (fun b28 => ?_)
      · refine Ew_of (pcₚ := 309) (fun _ => x_iconst rfl) ?_
        exact hc309 (0) _ _ _ _  (rk_o (hl0) rfl rfl) (rk_o (hl1) rfl rfl) (rk_o (hl3) rfl rfl) H O (SF_refl) (SA_refl)     (show inr (0) from q_20) (show ((u2_1) ≤ (z24) ∧ (0) = (0)) ∨ ((u2_1) > (z24) ∧ (0) = (1)) from q_2508 b28)
      · refine Ew_of (pcₚ := 305) (fun _ => x_iconst rfl) ?_
        refine Ew_of (pcₚ := 309) (fun _ => x_goto rfl rfl) ?_
        exact hc309 (1) _ _ _ _  (rk_o (hl0) rfl rfl) (rk_o (hl1) rfl rfl) (rk_o (hl3) rfl rfl) H O (SF_refl) (SA_refl)     (show inr (1) from q_23) (show ((u2_1) ≤ (z24) ∧ (1) = (0)) ∨ ((u2_1) > (z24) ∧ (1) = (1)) from q_2509 b28)
    · refine Ew_of (pcₚ := 271) (fun _ => x_iconst rfl) ?_
      refine Ew_of (pcₚ := 275) (fun _ => x_goto rfl rfl) ?_
      refine w_iaddA rfl (fun z29 gz29 => ?_)
      refine v_sI H (o := 7) (z := z29) rfl rfl rfl rfl (n := n7) (en7) (show 0 ≤ 0 ∧ 0 < n7 from q_4047 (HIDe r7) h6) (show inr (z29) from gz29) (fun σ H Oₚ => ?_)
      have O := OUT_trans O Oₚ
      have cAu30 : SA oz_R9clsl_0 A (updA A19 7 (0) (z29)) := SA_upd (cA19) rfl
      have mAu30 := SAm_of cAu30 oz_R9cls_3
      refine Ew_of (pcₚ := 278) (fun _ => x_aload_n rfl (rk_o (hl0) rfl rfl)) ?_
      refine v_g H (o := 0) (v := .ref (D 7)) rfl rfl rfl rfl rfl (vrf ((mF19 0 16 rfl).trans (pf7))) ?_
      refine Ew_of (pcₚ := 282) (fun _ => x_iconst rfl) ?_
      refine Ew_of (pcₚ := 283) (fun _ => x_dup2 rfl rfl rfl) ?_
      refine v_lI H (o := 7) rfl rfl rfl rfl (n := n7) (en7) (show 0 ≤ 1 ∧ 1 < n7 from q_4077 h6) (fun v31 ev31 (qv31 : HID _) => ?_)
      have ev31 : (upd1 (A 7) (0) (z29)) (1) = v31 := (congrFun (congrArg (fun q => upd1 q (0) (z29)) ((show A19 7 = A 7 from (eA19 7)))) (1)).symm.trans ev31
      refine Ew_of (pcₚ := 285) (fun _ => x_aload_n rfl (rk_o (hl0) rfl rfl)) ?_
      refine v_g H (o := 0) (v := .ref (D 2)) rfl rfl rfl rfl rfl (vrf ((mF19 0 5 rfl).trans (pf2))) ?_
      refine v_g H (o := 2) (v := I (u2_1)) rfl rfl rfl rfl rfl (congrArg (fun z : Int => I z) (((mF19 2 1 rfl).trans (eu2_1)) : F19 2 1 = u2_1)) ?_
      refine Ew_of (pcₚ := 292) (fun _ => x_aload_n rfl (rk_o (hl0) rfl rfl)) ?_
      refine Ew_of (pcₚ := 293) (fun _ => x_iload_n rfl (rk_o (hl3) rfl rfl)) ?_
      refine Ew_of (pcₚ := 295) (fun _ => x_aload rfl (rk_o (hl4) rfl rfl)) ?_
      refine v_g H (o := 1) (v := I (u1_1)) rfl rfl rfl rfl rfl (congrArg (fun z : Int => I z) (((mF19 1 1 rfl).trans (eu1_1)) : F19 1 1 = u1_1)) ?_
      refine v_inv H (o := 0) rfl rfl rfl rfl rfl rfl (by rfl) (C34 (D := puc 4096 D) (N := puc 4096 N) (HW_subc H oz_R9cls_1 oz_R9cls_5) ((mF19 0 1 rfl).trans (pf8)) (n8) (en8) (w8) ((funext (mAu30 8 rfl)).trans (ew8)) (show inr (0) from q_20) (show inr (u1_1) from q_3077 h4 h5) (show 0 ≤ (u1_1) ∧ (u1_1) ≤ 16384 from q_4318 h4 h5) (show 1 ≤ ((w8)) 2 ∧ ((w8)) 2 ≤ 65536 from h7) (show 0 ≤ ((w8)) 8 ∧ ((w8)) 8 ≤ 11 from h8) (show 0 ≤ ((w8)) 6 ∧ ((w8)) 6 ≤ 255 from h9) (show (n8) = 10 from h10) (fun z32 σ32 F32ₚ A32ₚ Hₚ Oₚ hS32 hA32 pz32_0 => ⟨rfl, ?_⟩))
      refine v_backc (c := c) (s := s) H oz_R9cls_1 oz_R9cls_5 Hₚ Oₚ (fun F32 A32 H Oₚ eF32 eA32 => ?_)
      have O := OUT_trans O Oₚ
      -- PackHouse.boundOf
      have cF32 : SF oz_R9clsl_1 F F32 := SF_trans (cF19) (SF_gluc (ι := oz_R9clsl_2) oz_R9cls_5 hS32 eF32 (by decide +kernel)) (any_sub (lₚ := []) (by decide +kernel))
      have mF32 := SFm_of cF32 oz_R9cls_4
      have cA32 : SA oz_R9clsl_0 A A32 := SA_trans (cAu30) (SA_gluc (ι := oz_R9clsl_2) oz_R9cls_5 hA32 eA32 (by decide +kernel)) (any_subA (lₚ := []) (by decide +kernel))
      have mA32 := SAm_of cA32 oz_R9cls_3
      have hc309 : ∀ (tc309_0 : Int), ∀ (ls : rO) (σ : rS) (F_c309 : hF) (A_c309 : hA) , rlook ls 0 = some (.ref (D 0)) → rlook ls 1 = some (I (x1)) → rlook ls 3 = some (I (0)) → HW V17_ve0 σ D N F_c309 A_c309 → OUT (V17_ve0).length D N σE c s D N σ c s → SF [] F32 F_c309 → SA [] A32 A_c309 → (inr (tc309_0)) → (((u2_1) ≤ (z32) ∧ (tc309_0) = (0)) ∨ ((u2_1) > (z32) ∧ (tc309_0) = (1))) → Ew 17 (d + 3) 309 ls [I (tc309_0), I (v31), I (1), .ref (D 7)] σ c s Q := by
       as_aux_lemma =>
        intro tc309_0 ls σ F_c309 A_c309  lc309_0 lc309_1 lc309_3 H O hS_c309 hA_c309     jc309_0 jc309_1
        have cF_c309 : SF oz_R9clsl_1 F F_c309 := SF_trans (cF32) hS_c309 (any_sub (by decide +kernel))
        have mF_c309 := SFm_of cF_c309 oz_R9cls_4
        have cA_c309 : SA oz_R9clsl_0 A A_c309 := SA_trans (cA32) hA_c309 (any_subA (by decide +kernel))
        have mA_c309 := SAm_of cA_c309 oz_R9cls_3
        refine w_iaddA rfl (fun z33 gz33 => ?_)
        refine v_sI H (o := 7) (z := z33) rfl rfl rfl rfl (n := n7) (en7) (show 0 ≤ 1 ∧ 1 < n7 from q_4077 h6) (show inr (z33) from gz33) (fun σ H Oₚ => ?_)
        have O := OUT_trans O Oₚ
        have cAu34 : SA oz_R9clsl_0 A (updA A_c309 7 (1) (z33)) := SA_upd (cA_c309) rfl
        have mAu34 := SAm_of cAu34 oz_R9cls_3
        refine Ew_of (pcₚ := 312) (fun _ => x_iload_n rfl lc309_3) ?_
        refine Ew_of (pcₚ := 313) (fun _ => x_iconst rfl) ?_
        refine w_icmpne (t := 337) rfl rfl (show inr (0) from q_20) (show inr (4) from q_2) (fun b35 => ?_) (fun b35 => ?_)
        · exact hc337  _ _ _ _  (lc309_0) (lc309_1) H O (SF_trans (SF_trans (SF_trans (SF_refl) (SF_gluc (ι := oz_R9clsl_3) oz_R9cls_6 hS19 eF19 (by decide +kernel)) (any_sub (lₚ := []) (by decide +kernel))) (SF_gluc (ι := oz_R9clsl_2) oz_R9cls_5 hS32 eF32 (by decide +kernel)) (any_sub (lₚ := []) (by decide +kernel))) hS_c309 (any_sub (by decide +kernel))) (SA_upd (SA_trans (SA_trans (SA_upd (SA_trans (SA_refl) (SA_gluc (ι := oz_R9clsl_3) oz_R9cls_6 hA19 eA19 (by decide +kernel)) (any_subA (lₚ := []) (by decide +kernel))) rfl) (SA_gluc (ι := oz_R9clsl_2) oz_R9cls_5 hA32 eA32 (by decide +kernel)) (any_subA (lₚ := []) (by decide +kernel))) hA_c309 (any_subA (by decide +kernel))) rfl)     (show 0 ≤ (u2_1) ∧ (u2_1) ≤ (n3) ∧ (n3) ≤ 65536 from h2)
        · exact absurd b35 (by omega)
      refine w_icmple (t := 308) rfl rfl (show inr (u2_1) from q_884 h2) (show inr (z32) from pz32_0) (fun b36 => ?_) (fun b36 => ?_)
      · refine Ew_of (pcₚ := 309) (fun _ => x_iconst rfl) ?_
        exact hc309 (0) _ _ _ _  (rk_o (hl0) rfl rfl) (rk_o (hl1) rfl rfl) (rk_o (hl3) rfl rfl) H O (SF_refl) (SA_refl)     (show inr (0) from q_20) (show ((u2_1) ≤ (z32) ∧ (0) = (0)) ∨ ((u2_1) > (z32) ∧ (0) = (1)) from q_2508 b36)
      · refine Ew_of (pcₚ := 305) (fun _ => x_iconst rfl) ?_
        refine Ew_of (pcₚ := 309) (fun _ => x_goto rfl rfl) ?_
        exact hc309 (1) _ _ _ _  (rk_o (hl0) rfl rfl) (rk_o (hl1) rfl rfl) (rk_o (hl3) rfl rfl) H O (SF_refl) (SA_refl)     (show inr (1) from q_23) (show ((u2_1) ≤ (z32) ∧ (1) = (0)) ∨ ((u2_1) > (z32) ∧ (1) = (1)) from q_2509 b36)
abbrev V17_ve1 : vV := [(0, 0, [(4, 0), (4, 0), (4, 0), (4, 0), (4, 0), (4, 0), (4, 0), (4, 0), (4, 0), (4, 0), (4, 0), (4, 0), (4, 0), (4, 0), (4, 0), (4, 0), (4, 0), (0, 0), (0, 0)]), (0, 7, [(4, 0), (0, 0), (1, 0), (0, 0), (0, 0)]), (0, 7, [(4, 0), (0, 0), (1, 0), (0, 0), (0, 0)]), (1, 0, []), (0, 7, [(4, 0), (0, 0), (1, 0), (0, 0), (0, 0)]), (1, 0, []), (1, 0, []), (1, 1, []), (1, 1, [])]
theorem len_V17_ve1_oz_R9cls : (V17_ve1).length = 9 := by decide +kernel
theorem oz_R9cls_8 : vsub V17_ve1 V34 [0, 8] = true := by decide +kernel
theorem oz_R9cls_9 : vsub V17_ve1 V29_Row_Row [4, 1, 5, 6] = true := by decide +kernel
/-- PackHouse.write: this, @F, this.written, this.written.bytes, this.content, this.content.bytes, @F.bytes, this.strays, this.settings -/
theorem C17_ve1 {σE : rS} {D N : Nat → Nat} {F : hF} {A : hA} {d c s : Nat} {Q : wQ} (H : HW V17_ve1 σE D N F A) {x1 y0 : Int} (pf2 : HID (F 0 5 = (D 2 : Int))) (pf3 : HID (F 2 0 = (D 3 : Int))) (pf4 : HID (F 0 6 = (D 4 : Int))) (pf5 : HID (F 4 0 = (D 5 : Int))) (pf6 : HID (F 1 0 = (D 6 : Int))) (pf7 : HID (F 0 16 = (D 7 : Int))) (pf8 : HID (F 0 1 = (D 8 : Int))) (n3 : Int) (en3 : HID ((N 3 : Int) = n3)) (n5 : Int) (en5 : HID ((N 5 : Int) = n5)) (n6 : Int) (en6 : HID ((N 6 : Int) = n6)) (n7 : Int) (en7 : HID ((N 7 : Int) = n7)) (n8 : Int) (en8 : HID ((N 8 : Int) = n8)) (u1_1 : Int) (eu1_1 : HID (F 1 1 = u1_1)) (u2_1 : Int) (eu2_1 : HID (F 2 1 = u2_1)) (u4_1 : Int) (eu4_1 : HID (F 4 1 = u4_1)) (w8 : Int → Int) (ew8 : A 8 = w8) {ls : rO} (hl0 : rlook ls 0 = some (.ref (D 0))) (hl1 : rlook ls 1 = some (I (x1))) (hl3 : rlook ls 3 = some (I (1))) (hl4 : rlook ls 4 = some (.ref (D 1))) (h0 : inr (x1)) (h1 : inr y0) (h2 : 0 ≤ (u2_1) ∧ (u2_1) ≤ (n3) ∧ (n3) ≤ 65536) (h3 : 0 ≤ (u4_1) ∧ (u4_1) ≤ (n5) ∧ (n5) ≤ 65536) (h4 : 0 ≤ (u1_1) ∧ (u1_1) ≤ (n6) ∧ (n6) ≤ 65536) (h5 : (u1_1) ≤ 16384) (h6 : (n7) = 2) (h7 : 1 ≤ ((w8)) 2 ∧ ((w8)) 2 ≤ 65536) (h8 : 0 ≤ ((w8)) 8 ∧ ((w8)) 8 ≤ 11) (h9 : 0 ≤ ((w8)) 6 ∧ ((w8)) 6 ≤ 255) (h10 : (n8) = 10) (hc337 : ∀ (ls : rO) (σ : rS) (F_c337 : hF) (A_c337 : hA) , rlook ls 0 = some (.ref (D 0)) → rlook ls 1 = some (I (x1)) → HW V17_ve1 σ D N F_c337 A_c337 → OUT (V17_ve1).length D N σE c s D N σ c s → SF [] F F_c337 → SA [7] A A_c337 → (0 ≤ (u2_1) ∧ (u2_1) ≤ (n3) ∧ (n3) ≤ 65536) → Ew 17 (d + 3) 337 ls [] σ c s Q) (k : ∀ (z : Int) (σ : rS) (Fₚ : hF) (Aₚ : hA), HW V17_ve1 σ D N Fₚ Aₚ → OUT (V17_ve1).length D N σE c s D N σ c s → SF [] F Fₚ → SA [7] A Aₚ → (inr (z)) → ((0 : Int) = 1) → Q (some (I z)) σ c s) : Ew 17 (d + 3) 239 ls [I (y0)] σE c s Q := by
  have O := OUT_refl (n := (V17_ve1).length) (D := D) (N := N) (σ := σE) (c := c) (s := s)
  have HE := H
  have r7 : HID ((0 : Int) ≤ n7 ∧ n7 ≤ 1000000) := nrng (H.nle 7 (ltn len_V17_ve1_oz_R9cls rfl)) (show (N 7 : Int) = n7 from en7)
  refine Ew_of (pcₚ := 241) (fun _ => x_istore rfl) ?_
  refine Ew_of (pcₚ := 242) (fun _ => x_aload_n rfl (rk_o (hl0) rfl rfl)) ?_
  refine v_g H (o := 0) (v := .ref (D 7)) rfl rfl rfl rfl rfl (vrf (pf7)) ?_
  refine Ew_of (pcₚ := 246) (fun _ => x_iconst rfl) ?_
  refine Ew_of (pcₚ := 247) (fun _ => x_dup2 rfl rfl rfl) ?_
  refine v_lI H (o := 7) rfl rfl rfl rfl (n := n7) (en7) (show 0 ≤ 0 ∧ 0 < n7 from q_4047 (HIDe r7) h6) (fun v9 ev9 (qv9 : HID _) => ?_)
  have ev9 : (A 7) (0) = v9 := (congrFun (rfl : A 7 = A 7) (0)).symm.trans ev9
  refine Ew_of (pcₚ := 250) (fun _ => x_iload rfl rk_s) ?_
  refine Ew_of (pcₚ := 252) (fun _ => x_aload rfl (rk_o (hl4) rfl rfl)) ?_
  refine v_g H (o := 1) (v := I (u1_1)) rfl rfl rfl rfl rfl (congrArg (fun z : Int => I z) ((eu1_1) : F 1 1 = u1_1)) ?_
  refine w_icmpne (t := 274) rfl rfl (show inr (y0) from h1) (show inr (u1_1) from q_3077 h4 h5) (fun b10 => ?_) (fun b10 => ?_)
  · refine Ew_of (pcₚ := 275) (fun _ => x_iconst rfl) ?_
    refine w_iaddA rfl (fun z11 gz11 => ?_)
    refine v_sI H (o := 7) (z := z11) rfl rfl rfl rfl (n := n7) (en7) (show 0 ≤ 0 ∧ 0 < n7 from q_4047 (HIDe r7) h6) (show inr (z11) from gz11) (fun σ H Oₚ => ?_)
    have O := OUT_trans O Oₚ
    have cAu12 : SA oz_R9clsl_0 A (updA A 7 (0) (z11)) := SA_upd (SA_refl) rfl
    have mAu12 := SAm_of cAu12 oz_R9cls_3
    refine Ew_of (pcₚ := 278) (fun _ => x_aload_n rfl (rk_o (hl0) rfl rfl)) ?_
    refine v_g H (o := 0) (v := .ref (D 7)) rfl rfl rfl rfl rfl (vrf (pf7)) ?_
    refine Ew_of (pcₚ := 282) (fun _ => x_iconst rfl) ?_
    refine Ew_of (pcₚ := 283) (fun _ => x_dup2 rfl rfl rfl) ?_
    refine v_lI H (o := 7) rfl rfl rfl rfl (n := n7) (en7) (show 0 ≤ 1 ∧ 1 < n7 from q_4077 h6) (fun v13 ev13 (qv13 : HID _) => ?_)
    have ev13 : (upd1 (A 7) (0) (z11)) (1) = v13 := (congrFun (rfl : (updA A 7 (0) (z11)) 7 = upd1 (A 7) (0) (z11)) (1)).symm.trans ev13
    refine Ew_of (pcₚ := 285) (fun _ => x_aload_n rfl (rk_o (hl0) rfl rfl)) ?_
    refine v_g H (o := 0) (v := .ref (D 2)) rfl rfl rfl rfl rfl (vrf (pf2)) ?_
    refine v_g H (o := 2) (v := I (u2_1)) rfl rfl rfl rfl rfl (congrArg (fun z : Int => I z) ((eu2_1) : F 2 1 = u2_1)) ?_
    refine Ew_of (pcₚ := 292) (fun _ => x_aload_n rfl (rk_o (hl0) rfl rfl)) ?_
    refine Ew_of (pcₚ := 293) (fun _ => x_iload_n rfl (rk_o (hl3) rfl rfl)) ?_
    refine Ew_of (pcₚ := 295) (fun _ => x_aload rfl (rk_o (hl4) rfl rfl)) ?_
    refine v_g H (o := 1) (v := I (u1_1)) rfl rfl rfl rfl rfl (congrArg (fun z : Int => I z) ((eu1_1) : F 1 1 = u1_1)) ?_
    refine v_inv H (o := 0) rfl rfl rfl rfl rfl rfl (by rfl) (C34 (D := puc 4096 D) (N := puc 4096 N) (HW_subc H oz_R9cls_8 oz_R9cls_5) (pf8) (n8) (en8) (w8) ((funext (mAu12 8 rfl)).trans (ew8)) (show inr (1) from q_23) (show inr (u1_1) from q_3077 h4 h5) (show 0 ≤ (u1_1) ∧ (u1_1) ≤ 16384 from q_4318 h4 h5) (show 1 ≤ ((w8)) 2 ∧ ((w8)) 2 ≤ 65536 from h7) (show 0 ≤ ((w8)) 8 ∧ ((w8)) 8 ≤ 11 from h8) (show 0 ≤ ((w8)) 6 ∧ ((w8)) 6 ≤ 255 from h9) (show (n8) = 10 from h10) (fun z14 σ14 F14ₚ A14ₚ Hₚ Oₚ hS14 hA14 pz14_0 => ⟨rfl, ?_⟩))
    refine v_backc (c := c) (s := s) H oz_R9cls_8 oz_R9cls_5 Hₚ Oₚ (fun F14 A14 H Oₚ eF14 eA14 => ?_)
    have O := OUT_trans O Oₚ
    -- PackHouse.boundOf
    have cF14 : SF oz_R9clsl_1 F F14 := SF_trans (SF_refl) (SF_gluc (ι := oz_R9clsl_2) oz_R9cls_5 hS14 eF14 (by decide +kernel)) (any_sub (lₚ := []) (by decide +kernel))
    have mF14 := SFm_of cF14 oz_R9cls_4
    have cA14 : SA oz_R9clsl_0 A A14 := SA_trans (cAu12) (SA_gluc (ι := oz_R9clsl_2) oz_R9cls_5 hA14 eA14 (by decide +kernel)) (any_subA (lₚ := []) (by decide +kernel))
    have mA14 := SAm_of cA14 oz_R9cls_3
    have hc309 : ∀ (tc309_0 : Int), ∀ (ls : rO) (σ : rS) (F_c309 : hF) (A_c309 : hA) , rlook ls 0 = some (.ref (D 0)) → rlook ls 1 = some (I (x1)) → rlook ls 3 = some (I (1)) → HW V17_ve1 σ D N F_c309 A_c309 → OUT (V17_ve1).length D N σE c s D N σ c s → SF [] F14 F_c309 → SA [] A14 A_c309 → (inr (tc309_0)) → (((u2_1) ≤ (z14) ∧ (tc309_0) = (0)) ∨ ((u2_1) > (z14) ∧ (tc309_0) = (1))) → Ew 17 (d + 3) 309 ls [I (tc309_0), I (v13), I (1), .ref (D 7)] σ c s Q := by
     as_aux_lemma =>
      intro tc309_0 ls σ F_c309 A_c309  lc309_0 lc309_1 lc309_3 H O hS_c309 hA_c309     jc309_0 jc309_1
      have cF_c309 : SF oz_R9clsl_1 F F_c309 := SF_trans (cF14) hS_c309 (any_sub (by decide +kernel))
      have mF_c309 := SFm_of cF_c309 oz_R9cls_4
      have cA_c309 : SA oz_R9clsl_0 A A_c309 := SA_trans (cA14) hA_c309 (any_subA (by decide +kernel))
      have mA_c309 := SAm_of cA_c309 oz_R9cls_3
      refine w_iaddA rfl (fun z15 gz15 => ?_)
      refine v_sI H (o := 7) (z := z15) rfl rfl rfl rfl (n := n7) (en7) (show 0 ≤ 1 ∧ 1 < n7 from q_4077 h6) (show inr (z15) from gz15) (fun σ H Oₚ => ?_)
      have O := OUT_trans O Oₚ
      have cAu16 : SA oz_R9clsl_0 A (updA A_c309 7 (1) (z15)) := SA_upd (cA_c309) rfl
      have mAu16 := SAm_of cAu16 oz_R9cls_3
      refine Ew_of (pcₚ := 312) (fun _ => x_iload_n rfl lc309_3) ?_
      refine Ew_of (pcₚ := 313) (fun _ => x_iconst rfl) ?_
      refine w_icmpne (t := 337) rfl rfl (show inr (1) from q_23) (show inr (4) from q_2) (fun b17 => ?_) (fun b17 => ?_)
      · exact hc337  _ _ _ _  (lc309_0) (lc309_1) H O (SF_trans (SF_trans (SF_refl) (SF_gluc (ι := oz_R9clsl_2) oz_R9cls_5 hS14 eF14 (by decide +kernel)) (any_sub (lₚ := []) (by decide +kernel))) hS_c309 (any_sub (by decide +kernel))) (SA_upd (SA_trans (SA_trans (SA_upd (SA_refl) rfl) (SA_gluc (ι := oz_R9clsl_2) oz_R9cls_5 hA14 eA14 (by decide +kernel)) (any_subA (lₚ := []) (by decide +kernel))) hA_c309 (any_subA (by decide +kernel))) rfl)     (show 0 ≤ (u2_1) ∧ (u2_1) ≤ (n3) ∧ (n3) ≤ 65536 from h2)
      · exact absurd b17 (by omega)
    refine w_icmple (t := 308) rfl rfl (show inr (u2_1) from q_884 h2) (show inr (z14) from pz14_0) (fun b18 => ?_) (fun b18 => ?_)
    · refine Ew_of (pcₚ := 309) (fun _ => x_iconst rfl) ?_
      exact hc309 (0) _ _ _ _  (rk_o (hl0) rfl rfl) (rk_o (hl1) rfl rfl) (rk_o (hl3) rfl rfl) H O (SF_refl) (SA_refl)     (show inr (0) from q_20) (show ((u2_1) ≤ (z14) ∧ (0) = (0)) ∨ ((u2_1) > (z14) ∧ (0) = (1)) from q_2508 b18)
    · refine Ew_of (pcₚ := 305) (fun _ => x_iconst rfl) ?_
      refine Ew_of (pcₚ := 309) (fun _ => x_goto rfl rfl) ?_
      exact hc309 (1) _ _ _ _  (rk_o (hl0) rfl rfl) (rk_o (hl1) rfl rfl) (rk_o (hl3) rfl rfl) H O (SF_refl) (SA_refl)     (show inr (1) from q_23) (show ((u2_1) ≤ (z14) ∧ (1) = (0)) ∨ ((u2_1) > (z14) ∧ (1) = (1)) from q_2509 b18)
  · refine Ew_of (pcₚ := 259) (fun _ => x_aload_n rfl (rk_o (hl0) rfl rfl)) ?_
    refine v_g H (o := 0) (v := .ref (D 4)) rfl rfl rfl rfl rfl (vrf (pf4)) ?_
    refine Ew_of (pcₚ := 264) (fun _ => x_aload rfl (rk_o (hl4) rfl rfl)) ?_
    refine w_stat24 rfl rfl (by rfl) (C29_Row_Row (D := puc 806617604 D) (N := puc 806617604 N) (HW_subc H oz_R9cls_9 oz_R9cls_6) (pf5) (pf6) (n5) (en5) (n6) (en6) (u4_1) ((eu4_1)) (u1_1) ((eu1_1)) (show 0 ≤ (u4_1) ∧ (u4_1) ≤ (n5) ∧ (n5) ≤ 65536 from h3) (show 0 ≤ (u1_1) ∧ (u1_1) ≤ (n6) ∧ (n6) ≤ 65536 from h4) (fun z19 σ19 F19ₚ A19ₚ Hₚ Oₚ hS19 hA19 pz19_0 => ⟨rfl, ?_⟩))
    refine v_backc (c := c) (s := s) H oz_R9cls_9 oz_R9cls_6 Hₚ Oₚ (fun F19 A19 H Oₚ eF19 eA19 => ?_)
    have O := OUT_trans O Oₚ
    -- PackHouse.firstUnlike
    have cF19 : SF oz_R9clsl_1 F F19 := SF_trans (SF_refl) (SF_gluc (ι := oz_R9clsl_3) oz_R9cls_6 hS19 eF19 (by decide +kernel)) (any_sub (lₚ := []) (by decide +kernel))
    have mF19 := SFm_of cF19 oz_R9cls_4
    have cA19 : SA oz_R9clsl_0 A A19 := SA_trans (SA_refl) (SA_gluc (ι := oz_R9clsl_3) oz_R9cls_6 hA19 eA19 (by decide +kernel)) (any_subA (lₚ := []) (by decide +kernel))
    have mA19 := SAm_of cA19 oz_R9cls_3
    refine w_ifge (t := 274) rfl rfl (show inr (z19) from pz19_0) (fun b20 => ?_) (fun b20 => ?_)
    · refine Ew_of (pcₚ := 275) (fun _ => x_iconst rfl) ?_
      refine w_iaddA rfl (fun z21 gz21 => ?_)
      refine v_sI H (o := 7) (z := z21) rfl rfl rfl rfl (n := n7) (en7) (show 0 ≤ 0 ∧ 0 < n7 from q_4047 (HIDe r7) h6) (show inr (z21) from gz21) (fun σ H Oₚ => ?_)
      have O := OUT_trans O Oₚ
      have cAu22 : SA oz_R9clsl_0 A (updA A19 7 (0) (z21)) := SA_upd (cA19) rfl
      have mAu22 := SAm_of cAu22 oz_R9cls_3
      refine Ew_of (pcₚ := 278) (fun _ => x_aload_n rfl (rk_o (hl0) rfl rfl)) ?_
      refine v_g H (o := 0) (v := .ref (D 7)) rfl rfl rfl rfl rfl (vrf ((mF19 0 16 rfl).trans (pf7))) ?_
      refine Ew_of (pcₚ := 282) (fun _ => x_iconst rfl) ?_
      refine Ew_of (pcₚ := 283) (fun _ => x_dup2 rfl rfl rfl) ?_
      refine v_lI H (o := 7) rfl rfl rfl rfl (n := n7) (en7) (show 0 ≤ 1 ∧ 1 < n7 from q_4077 h6) (fun v23 ev23 (qv23 : HID _) => ?_)
      have ev23 : (upd1 (A 7) (0) (z21)) (1) = v23 := (congrFun (congrArg (fun q => upd1 q (0) (z21)) ((show A19 7 = A 7 from (eA19 7)))) (1)).symm.trans ev23
      refine Ew_of (pcₚ := 285) (fun _ => x_aload_n rfl (rk_o (hl0) rfl rfl)) ?_
      refine v_g H (o := 0) (v := .ref (D 2)) rfl rfl rfl rfl rfl (vrf ((mF19 0 5 rfl).trans (pf2))) ?_
      refine v_g H (o := 2) (v := I (u2_1)) rfl rfl rfl rfl rfl (congrArg (fun z : Int => I z) (((mF19 2 1 rfl).trans (eu2_1)) : F19 2 1 = u2_1)) ?_
      refine Ew_of (pcₚ := 292) (fun _ => x_aload_n rfl (rk_o (hl0) rfl rfl)) ?_
      refine Ew_of (pcₚ := 293) (fun _ => x_iload_n rfl (rk_o (hl3) rfl rfl)) ?_
      refine Ew_of (pcₚ := 295) (fun _ => x_aload rfl (rk_o (hl4) rfl rfl)) ?_
      refine v_g H (o := 1) (v := I (u1_1)) rfl rfl rfl rfl rfl (congrArg (fun z : Int => I z) (((mF19 1 1 rfl).trans (eu1_1)) : F19 1 1 = u1_1)) ?_
      refine v_inv H (o := 0) rfl rfl rfl rfl rfl rfl (by rfl) (C34 (D := puc 4096 D) (N := puc 4096 N) (HW_subc H oz_R9cls_8 oz_R9cls_5) ((mF19 0 1 rfl).trans (pf8)) (n8) (en8) (w8) ((funext (mAu22 8 rfl)).trans (ew8)) (show inr (1) from q_23) (show inr (u1_1) from q_3077 h4 h5) (show 0 ≤ (u1_1) ∧ (u1_1) ≤ 16384 from q_4318 h4 h5) (show 1 ≤ ((w8)) 2 ∧ ((w8)) 2 ≤ 65536 from h7) (show 0 ≤ ((w8)) 8 ∧ ((w8)) 8 ≤ 11 from h8) (show 0 ≤ ((w8)) 6 ∧ ((w8)) 6 ≤ 255 from h9) (show (n8) = 10 from h10) (fun z24 σ24 F24ₚ A24ₚ Hₚ Oₚ hS24 hA24 pz24_0 => ⟨rfl, ?_⟩))
      refine v_backc (c := c) (s := s) H oz_R9cls_8 oz_R9cls_5 Hₚ Oₚ (fun F24 A24 H Oₚ eF24 eA24 => ?_)
      have O := OUT_trans O Oₚ
      -- PackHouse.boundOf
      have cF24 : SF oz_R9clsl_1 F F24 := SF_trans (cF19) (SF_gluc (ι := oz_R9clsl_2) oz_R9cls_5 hS24 eF24 (by decide +kernel)) (any_sub (lₚ := []) (by decide +kernel))
      have mF24 := SFm_of cF24 oz_R9cls_4
      have cA24 : SA oz_R9clsl_0 A A24 := SA_trans (cAu22) (SA_gluc (ι := oz_R9clsl_2) oz_R9cls_5 hA24 eA24 (by decide +kernel)) (any_subA (lₚ := []) (by decide +kernel))
      have mA24 := SAm_of cA24 oz_R9cls_3
      have hc309 : ∀ (tc309_0 : Int), ∀ (ls : rO) (σ : rS) (F_c309 : hF) (A_c309 : hA) , rlook ls 0 = some (.ref (D 0)) → rlook ls 1 = some (I (x1)) → rlook ls 3 = some (I (1)) → HW V17_ve1 σ D N F_c309 A_c309 → OUT (V17_ve1).length D N σE c s D N σ c s → SF [] F24 F_c309 → SA [] A24 A_c309 → (inr (tc309_0)) → (((u2_1) ≤ (z24) ∧ (tc309_0) = (0)) ∨ ((u2_1) > (z24) ∧ (tc309_0) = (1))) → Ew 17 (d + 3) 309 ls [I (tc309_0), I (v23), I (1), .ref (D 7)] σ c s Q := by
       as_aux_lemma =>
        intro tc309_0 ls σ F_c309 A_c309  lc309_0 lc309_1 lc309_3 H O hS_c309 hA_c309     jc309_0 jc309_1
        have cF_c309 : SF oz_R9clsl_1 F F_c309 := SF_trans (cF24) hS_c309 (any_sub (by decide +kernel))
        have mF_c309 := SFm_of cF_c309 oz_R9cls_4
        have cA_c309 : SA oz_R9clsl_0 A A_c309 := SA_trans (cA24) hA_c309 (any_subA (by decide +kernel))
        have mA_c309 := SAm_of cA_c309 oz_R9cls_3
        refine w_iaddA rfl (fun z25 gz25 => ?_)
        refine v_sI H (o := 7) (z := z25) rfl rfl rfl rfl (n := n7) (en7) (show 0 ≤ 1 ∧ 1 < n7 from q_4077 h6) (show inr (z25) from gz25) (fun σ H Oₚ => ?_)
        have O := OUT_trans O Oₚ
        have cAu26 : SA oz_R9clsl_0 A (updA A_c309 7 (1) (z25)) := SA_upd (cA_c309) rfl
        have mAu26 := SAm_of cAu26 oz_R9cls_3
        refine Ew_of (pcₚ := 312) (fun _ => x_iload_n rfl lc309_3) ?_
        refine Ew_of (pcₚ := 313) (fun _ => x_iconst rfl) ?_
        refine w_icmpne (t := 337) rfl rfl (show inr (1) from q_23) (show inr (4) from q_2) (fun b27 => ?_) (fun b27 => ?_)
        · exact hc337  _ _ _ _  (lc309_0) (lc309_1) H O (SF_trans (SF_trans (SF_trans (SF_refl) (SF_gluc (ι := oz_R9clsl_3) oz_R9cls_6 hS19 eF19 (by decide +kernel)) (any_sub (lₚ := []) (by decide +kernel))) (SF_gluc (ι := oz_R9clsl_2) oz_R9cls_5 hS24 eF24 (by decide +kernel)) (any_sub (lₚ := []) (by decide +kernel))) hS_c309 (any_sub (by decide +kernel))) (SA_upd (SA_trans (SA_trans (SA_upd (SA_trans (SA_refl) (SA_gluc (ι := oz_R9clsl_3) oz_R9cls_6 hA19 eA19 (by decide +kernel)) (any_subA (lₚ := []) (by decide +kernel))) rfl) (SA_gluc (ι := oz_R9clsl_2) oz_R9cls_5 hA24 eA24 (by decide +kernel)) (any_subA (lₚ := []) (by decide +kernel))) hA_c309 (any_subA (by decide +kernel))) rfl)     (show 0 ≤ (u2_1) ∧ (u2_1) ≤ (n3) ∧ (n3) ≤ 65536 from h2)
        · exact absurd b27 (by omega)
      refine w_icmple (t := 308) rfl rfl (show inr (u2_1) from q_884 h2) (show inr (z24) from pz24_0) (fun b28 => ?_) (fun b28 => ?_)
      · refine Ew_of (pcₚ := 309) (fun _ => x_iconst rfl) ?_
        exact hc309 (0) _ _ _ _  (rk_o (hl0) rfl rfl) (rk_o (hl1) rfl rfl) (rk_o (hl3) rfl rfl) H O (SF_refl) (SA_refl)     (show inr (0) from q_20) (show ((u2_1) ≤ (z24) ∧ (0) = (0)) ∨ ((u2_1) > (z24) ∧ (0) = (1)) from q_2508 b28)
      · refine Ew_of (pcₚ := 305) (fun _ => x_iconst rfl) ?_
        refine Ew_of (pcₚ := 309) (fun _ => x_goto rfl rfl) ?_
        exact hc309 (1) _ _ _ _  (rk_o (hl0) rfl rfl) (rk_o (hl1) rfl rfl) (rk_o (hl3) rfl rfl) H O (SF_refl) (SA_refl)     (show inr (1) from q_23) (show ((u2_1) ≤ (z24) ∧ (1) = (0)) ∨ ((u2_1) > (z24) ∧ (1) = (1)) from q_2509 b28)
    · refine Ew_of (pcₚ := 271) (fun _ => x_iconst rfl) ?_
      refine Ew_of (pcₚ := 275) (fun _ => x_goto rfl rfl) ?_
      refine w_iaddA rfl (fun z29 gz29 => ?_)
      refine v_sI H (o := 7) (z := z29) rfl rfl rfl rfl (n := n7) (en7) (show 0 ≤ 0 ∧ 0 < n7 from q_4047 (HIDe r7) h6) (show inr (z29) from gz29) (fun σ H Oₚ => ?_)
      have O := OUT_trans O Oₚ
      have cAu30 : SA oz_R9clsl_0 A (updA A19 7 (0) (z29)) := SA_upd (cA19) rfl
      have mAu30 := SAm_of cAu30 oz_R9cls_3
      refine Ew_of (pcₚ := 278) (fun _ => x_aload_n rfl (rk_o (hl0) rfl rfl)) ?_
      refine v_g H (o := 0) (v := .ref (D 7)) rfl rfl rfl rfl rfl (vrf ((mF19 0 16 rfl).trans (pf7))) ?_
      refine Ew_of (pcₚ := 282) (fun _ => x_iconst rfl) ?_
      refine Ew_of (pcₚ := 283) (fun _ => x_dup2 rfl rfl rfl) ?_
      refine v_lI H (o := 7) rfl rfl rfl rfl (n := n7) (en7) (show 0 ≤ 1 ∧ 1 < n7 from q_4077 h6) (fun v31 ev31 (qv31 : HID _) => ?_)
      have ev31 : (upd1 (A 7) (0) (z29)) (1) = v31 := (congrFun (congrArg (fun q => upd1 q (0) (z29)) ((show A19 7 = A 7 from (eA19 7)))) (1)).symm.trans ev31
      refine Ew_of (pcₚ := 285) (fun _ => x_aload_n rfl (rk_o (hl0) rfl rfl)) ?_
      refine v_g H (o := 0) (v := .ref (D 2)) rfl rfl rfl rfl rfl (vrf ((mF19 0 5 rfl).trans (pf2))) ?_
      refine v_g H (o := 2) (v := I (u2_1)) rfl rfl rfl rfl rfl (congrArg (fun z : Int => I z) (((mF19 2 1 rfl).trans (eu2_1)) : F19 2 1 = u2_1)) ?_
      refine Ew_of (pcₚ := 292) (fun _ => x_aload_n rfl (rk_o (hl0) rfl rfl)) ?_
      refine Ew_of (pcₚ := 293) (fun _ => x_iload_n rfl (rk_o (hl3) rfl rfl)) ?_
      refine Ew_of (pcₚ := 295) (fun _ => x_aload rfl (rk_o (hl4) rfl rfl)) ?_
      refine v_g H (o := 1) (v := I (u1_1)) rfl rfl rfl rfl rfl (congrArg (fun z : Int => I z) (((mF19 1 1 rfl).trans (eu1_1)) : F19 1 1 = u1_1)) ?_
      refine v_inv H (o := 0) rfl rfl rfl rfl rfl rfl (by rfl) (C34 (D := puc 4096 D) (N := puc 4096 N) (HW_subc H oz_R9cls_8 oz_R9cls_5) ((mF19 0 1 rfl).trans (pf8)) (n8) (en8) (w8) ((funext (mAu30 8 rfl)).trans (ew8)) (show inr (1) from q_23) (show inr (u1_1) from q_3077 h4 h5) (show 0 ≤ (u1_1) ∧ (u1_1) ≤ 16384 from q_4318 h4 h5) (show 1 ≤ ((w8)) 2 ∧ ((w8)) 2 ≤ 65536 from h7) (show 0 ≤ ((w8)) 8 ∧ ((w8)) 8 ≤ 11 from h8) (show 0 ≤ ((w8)) 6 ∧ ((w8)) 6 ≤ 255 from h9) (show (n8) = 10 from h10) (fun z32 σ32 F32ₚ A32ₚ Hₚ Oₚ hS32 hA32 pz32_0 => ⟨rfl, ?_⟩))
      refine v_backc (c := c) (s := s) H oz_R9cls_8 oz_R9cls_5 Hₚ Oₚ (fun F32 A32 H Oₚ eF32 eA32 => ?_)
      have O := OUT_trans O Oₚ
      -- PackHouse.boundOf
      have cF32 : SF oz_R9clsl_1 F F32 := SF_trans (cF19) (SF_gluc (ι := oz_R9clsl_2) oz_R9cls_5 hS32 eF32 (by decide +kernel)) (any_sub (lₚ := []) (by decide +kernel))
      have mF32 := SFm_of cF32 oz_R9cls_4
      have cA32 : SA oz_R9clsl_0 A A32 := SA_trans (cAu30) (SA_gluc (ι := oz_R9clsl_2) oz_R9cls_5 hA32 eA32 (by decide +kernel)) (any_subA (lₚ := []) (by decide +kernel))
      have mA32 := SAm_of cA32 oz_R9cls_3
      have hc309 : ∀ (tc309_0 : Int), ∀ (ls : rO) (σ : rS) (F_c309 : hF) (A_c309 : hA) , rlook ls 0 = some (.ref (D 0)) → rlook ls 1 = some (I (x1)) → rlook ls 3 = some (I (1)) → HW V17_ve1 σ D N F_c309 A_c309 → OUT (V17_ve1).length D N σE c s D N σ c s → SF [] F32 F_c309 → SA [] A32 A_c309 → (inr (tc309_0)) → (((u2_1) ≤ (z32) ∧ (tc309_0) = (0)) ∨ ((u2_1) > (z32) ∧ (tc309_0) = (1))) → Ew 17 (d + 3) 309 ls [I (tc309_0), I (v31), I (1), .ref (D 7)] σ c s Q := by
       as_aux_lemma =>
        intro tc309_0 ls σ F_c309 A_c309  lc309_0 lc309_1 lc309_3 H O hS_c309 hA_c309     jc309_0 jc309_1
        have cF_c309 : SF oz_R9clsl_1 F F_c309 := SF_trans (cF32) hS_c309 (any_sub (by decide +kernel))
        have mF_c309 := SFm_of cF_c309 oz_R9cls_4
        have cA_c309 : SA oz_R9clsl_0 A A_c309 := SA_trans (cA32) hA_c309 (any_subA (by decide +kernel))
        have mA_c309 := SAm_of cA_c309 oz_R9cls_3
        refine w_iaddA rfl (fun z33 gz33 => ?_)
        refine v_sI H (o := 7) (z := z33) rfl rfl rfl rfl (n := n7) (en7) (show 0 ≤ 1 ∧ 1 < n7 from q_4077 h6) (show inr (z33) from gz33) (fun σ H Oₚ => ?_)
        have O := OUT_trans O Oₚ
        have cAu34 : SA oz_R9clsl_0 A (updA A_c309 7 (1) (z33)) := SA_upd (cA_c309) rfl
        have mAu34 := SAm_of cAu34 oz_R9cls_3
        refine Ew_of (pcₚ := 312) (fun _ => x_iload_n rfl lc309_3) ?_
        refine Ew_of (pcₚ := 313) (fun _ => x_iconst rfl) ?_
        refine w_icmpne (t := 337) rfl rfl (show inr (1) from q_23) (show inr (4) from q_2) (fun b35 => ?_) (fun b35 => ?_)
        · exact hc337  _ _ _ _  (lc309_0) (lc309_1) H O (SF_trans (SF_trans (SF_trans (SF_refl) (SF_gluc (ι := oz_R9clsl_3) oz_R9cls_6 hS19 eF19 (by decide +kernel)) (any_sub (lₚ := []) (by decide +kernel))) (SF_gluc (ι := oz_R9clsl_2) oz_R9cls_5 hS32 eF32 (by decide +kernel)) (any_sub (lₚ := []) (by decide +kernel))) hS_c309 (any_sub (by decide +kernel))) (SA_upd (SA_trans (SA_trans (SA_upd (SA_trans (SA_refl) (SA_gluc (ι := oz_R9clsl_3) oz_R9cls_6 hA19 eA19 (by decide +kernel)) (any_subA (lₚ := []) (by decide +kernel))) rfl) (SA_gluc (ι := oz_R9clsl_2) oz_R9cls_5 hA32 eA32 (by decide +kernel)) (any_subA (lₚ := []) (by decide +kernel))) hA_c309 (any_subA (by decide +kernel))) rfl)     (show 0 ≤ (u2_1) ∧ (u2_1) ≤ (n3) ∧ (n3) ≤ 65536 from h2)
        · exact absurd b35 (by omega)
      refine w_icmple (t := 308) rfl rfl (show inr (u2_1) from q_884 h2) (show inr (z32) from pz32_0) (fun b36 => ?_) (fun b36 => ?_)
      · refine Ew_of (pcₚ := 309) (fun _ => x_iconst rfl) ?_
        exact hc309 (0) _ _ _ _  (rk_o (hl0) rfl rfl) (rk_o (hl1) rfl rfl) (rk_o (hl3) rfl rfl) H O (SF_refl) (SA_refl)     (show inr (0) from q_20) (show ((u2_1) ≤ (z32) ∧ (0) = (0)) ∨ ((u2_1) > (z32) ∧ (0) = (1)) from q_2508 b36)
      · refine Ew_of (pcₚ := 305) (fun _ => x_iconst rfl) ?_
        refine Ew_of (pcₚ := 309) (fun _ => x_goto rfl rfl) ?_
        exact hc309 (1) _ _ _ _  (rk_o (hl0) rfl rfl) (rk_o (hl1) rfl rfl) (rk_o (hl3) rfl rfl) H O (SF_refl) (SA_refl)     (show inr (1) from q_23) (show ((u2_1) ≤ (z32) ∧ (1) = (0)) ∨ ((u2_1) > (z32) ∧ (1) = (1)) from q_2509 b36)
abbrev V17_ve2 : vV := [(0, 0, [(4, 0), (4, 0), (4, 0), (4, 0), (4, 0), (4, 0), (4, 0), (4, 0), (4, 0), (4, 0), (4, 0), (4, 0), (4, 0), (4, 0), (4, 0), (4, 0), (4, 0), (0, 0), (0, 0)]), (0, 7, [(4, 0), (0, 0), (1, 0), (0, 0), (0, 0)]), (0, 7, [(4, 0), (0, 0), (1, 0), (0, 0), (0, 0)]), (1, 0, []), (0, 7, [(4, 0), (0, 0), (1, 0), (0, 0), (0, 0)]), (1, 0, []), (1, 0, []), (1, 1, []), (1, 1, [])]
theorem len_V17_ve2_oz_R9cls : (V17_ve2).length = 9 := by decide +kernel
theorem oz_R9cls_11 : vsub V17_ve2 V34 [0, 8] = true := by decide +kernel
theorem oz_R9cls_12 : vsub V17_ve2 V29_Row_Row [4, 1, 5, 6] = true := by decide +kernel
/-- PackHouse.write: this, @F, this.written, this.written.bytes, this.content, this.content.bytes, @F.bytes, this.strays, this.settings -/
theorem C17_ve2 {σE : rS} {D N : Nat → Nat} {F : hF} {A : hA} {d c s : Nat} {Q : wQ} (H : HW V17_ve2 σE D N F A) {x1 y0 : Int} (pf2 : HID (F 0 5 = (D 2 : Int))) (pf3 : HID (F 2 0 = (D 3 : Int))) (pf4 : HID (F 0 6 = (D 4 : Int))) (pf5 : HID (F 4 0 = (D 5 : Int))) (pf6 : HID (F 1 0 = (D 6 : Int))) (pf7 : HID (F 0 16 = (D 7 : Int))) (pf8 : HID (F 0 1 = (D 8 : Int))) (n3 : Int) (en3 : HID ((N 3 : Int) = n3)) (n5 : Int) (en5 : HID ((N 5 : Int) = n5)) (n6 : Int) (en6 : HID ((N 6 : Int) = n6)) (n7 : Int) (en7 : HID ((N 7 : Int) = n7)) (n8 : Int) (en8 : HID ((N 8 : Int) = n8)) (u1_1 : Int) (eu1_1 : HID (F 1 1 = u1_1)) (u2_1 : Int) (eu2_1 : HID (F 2 1 = u2_1)) (u4_1 : Int) (eu4_1 : HID (F 4 1 = u4_1)) (w8 : Int → Int) (ew8 : A 8 = w8) {ls : rO} (hl0 : rlook ls 0 = some (.ref (D 0))) (hl1 : rlook ls 1 = some (I (x1))) (hl3 : rlook ls 3 = some (I (2))) (hl4 : rlook ls 4 = some (.ref (D 1))) (h0 : inr (x1)) (h1 : inr y0) (h2 : 0 ≤ (u2_1) ∧ (u2_1) ≤ (n3) ∧ (n3) ≤ 65536) (h3 : 0 ≤ (u4_1) ∧ (u4_1) ≤ (n5) ∧ (n5) ≤ 65536) (h4 : 0 ≤ (u1_1) ∧ (u1_1) ≤ (n6) ∧ (n6) ≤ 65536) (h5 : (u1_1) ≤ 16384) (h6 : (n7) = 2) (h7 : 1 ≤ ((w8)) 2 ∧ ((w8)) 2 ≤ 65536) (h8 : 0 ≤ ((w8)) 8 ∧ ((w8)) 8 ≤ 11) (h9 : 0 ≤ ((w8)) 6 ∧ ((w8)) 6 ≤ 255) (h10 : (n8) = 10) (hc337 : ∀ (ls : rO) (σ : rS) (F_c337 : hF) (A_c337 : hA) , rlook ls 0 = some (.ref (D 0)) → rlook ls 1 = some (I (x1)) → HW V17_ve2 σ D N F_c337 A_c337 → OUT (V17_ve2).length D N σE c s D N σ c s → SF [] F F_c337 → SA [7] A A_c337 → (0 ≤ (u2_1) ∧ (u2_1) ≤ (n3) ∧ (n3) ≤ 65536) → Ew 17 (d + 3) 337 ls [] σ c s Q) (k : ∀ (z : Int) (σ : rS) (Fₚ : hF) (Aₚ : hA), HW V17_ve2 σ D N Fₚ Aₚ → OUT (V17_ve2).length D N σE c s D N σ c s → SF [] F Fₚ → SA [7] A Aₚ → (inr (z)) → ((0 : Int) = 1) → Q (some (I z)) σ c s) : Ew 17 (d + 3) 239 ls [I (y0)] σE c s Q := by
  have O := OUT_refl (n := (V17_ve2).length) (D := D) (N := N) (σ := σE) (c := c) (s := s)
  have HE := H
  have r7 : HID ((0 : Int) ≤ n7 ∧ n7 ≤ 1000000) := nrng (H.nle 7 (ltn len_V17_ve2_oz_R9cls rfl)) (show (N 7 : Int) = n7 from en7)
  refine Ew_of (pcₚ := 241) (fun _ => x_istore rfl) ?_
  refine Ew_of (pcₚ := 242) (fun _ => x_aload_n rfl (rk_o (hl0) rfl rfl)) ?_
  refine v_g H (o := 0) (v := .ref (D 7)) rfl rfl rfl rfl rfl (vrf (pf7)) ?_
  refine Ew_of (pcₚ := 246) (fun _ => x_iconst rfl) ?_
  refine Ew_of (pcₚ := 247) (fun _ => x_dup2 rfl rfl rfl) ?_
  refine v_lI H (o := 7) rfl rfl rfl rfl (n := n7) (en7) (show 0 ≤ 0 ∧ 0 < n7 from q_4047 (HIDe r7) h6) (fun v9 ev9 (qv9 : HID _) => ?_)
  have ev9 : (A 7) (0) = v9 := (congrFun (rfl : A 7 = A 7) (0)).symm.trans ev9
  refine Ew_of (pcₚ := 250) (fun _ => x_iload rfl rk_s) ?_
  refine Ew_of (pcₚ := 252) (fun _ => x_aload rfl (rk_o (hl4) rfl rfl)) ?_
  refine v_g H (o := 1) (v := I (u1_1)) rfl rfl rfl rfl rfl (congrArg (fun z : Int => I z) ((eu1_1) : F 1 1 = u1_1)) ?_
  refine w_icmpne (t := 274) rfl rfl (show inr (y0) from h1) (show inr (u1_1) from q_3077 h4 h5) (fun b10 => ?_) (fun b10 => ?_)
  · refine Ew_of (pcₚ := 275) (fun _ => x_iconst rfl) ?_
    refine w_iaddA rfl (fun z11 gz11 => ?_)
    refine v_sI H (o := 7) (z := z11) rfl rfl rfl rfl (n := n7) (en7) (show 0 ≤ 0 ∧ 0 < n7 from q_4047 (HIDe r7) h6) (show inr (z11) from gz11) (fun σ H Oₚ => ?_)
    have O := OUT_trans O Oₚ
    have cAu12 : SA oz_R9clsl_0 A (updA A 7 (0) (z11)) := SA_upd (SA_refl) rfl
    have mAu12 := SAm_of cAu12 oz_R9cls_3
    refine Ew_of (pcₚ := 278) (fun _ => x_aload_n rfl (rk_o (hl0) rfl rfl)) ?_
    refine v_g H (o := 0) (v := .ref (D 7)) rfl rfl rfl rfl rfl (vrf (pf7)) ?_
    refine Ew_of (pcₚ := 282) (fun _ => x_iconst rfl) ?_
    refine Ew_of (pcₚ := 283) (fun _ => x_dup2 rfl rfl rfl) ?_
    refine v_lI H (o := 7) rfl rfl rfl rfl (n := n7) (en7) (show 0 ≤ 1 ∧ 1 < n7 from q_4077 h6) (fun v13 ev13 (qv13 : HID _) => ?_)
    have ev13 : (upd1 (A 7) (0) (z11)) (1) = v13 := (congrFun (rfl : (updA A 7 (0) (z11)) 7 = upd1 (A 7) (0) (z11)) (1)).symm.trans ev13
    refine Ew_of (pcₚ := 285) (fun _ => x_aload_n rfl (rk_o (hl0) rfl rfl)) ?_
    refine v_g H (o := 0) (v := .ref (D 2)) rfl rfl rfl rfl rfl (vrf (pf2)) ?_
    refine v_g H (o := 2) (v := I (u2_1)) rfl rfl rfl rfl rfl (congrArg (fun z : Int => I z) ((eu2_1) : F 2 1 = u2_1)) ?_
    refine Ew_of (pcₚ := 292) (fun _ => x_aload_n rfl (rk_o (hl0) rfl rfl)) ?_
    refine Ew_of (pcₚ := 293) (fun _ => x_iload_n rfl (rk_o (hl3) rfl rfl)) ?_
    refine Ew_of (pcₚ := 295) (fun _ => x_aload rfl (rk_o (hl4) rfl rfl)) ?_
    refine v_g H (o := 1) (v := I (u1_1)) rfl rfl rfl rfl rfl (congrArg (fun z : Int => I z) ((eu1_1) : F 1 1 = u1_1)) ?_
    refine v_inv H (o := 0) rfl rfl rfl rfl rfl rfl (by rfl) (C34 (D := puc 4096 D) (N := puc 4096 N) (HW_subc H oz_R9cls_11 oz_R9cls_5) (pf8) (n8) (en8) (w8) ((funext (mAu12 8 rfl)).trans (ew8)) (show inr (2) from q_55) (show inr (u1_1) from q_3077 h4 h5) (show 0 ≤ (u1_1) ∧ (u1_1) ≤ 16384 from q_4318 h4 h5) (show 1 ≤ ((w8)) 2 ∧ ((w8)) 2 ≤ 65536 from h7) (show 0 ≤ ((w8)) 8 ∧ ((w8)) 8 ≤ 11 from h8) (show 0 ≤ ((w8)) 6 ∧ ((w8)) 6 ≤ 255 from h9) (show (n8) = 10 from h10) (fun z14 σ14 F14ₚ A14ₚ Hₚ Oₚ hS14 hA14 pz14_0 => ⟨rfl, ?_⟩))
    refine v_backc (c := c) (s := s) H oz_R9cls_11 oz_R9cls_5 Hₚ Oₚ (fun F14 A14 H Oₚ eF14 eA14 => ?_)
    have O := OUT_trans O Oₚ
    -- PackHouse.boundOf
    have cF14 : SF oz_R9clsl_1 F F14 := SF_trans (SF_refl) (SF_gluc (ι := oz_R9clsl_2) oz_R9cls_5 hS14 eF14 (by decide +kernel)) (any_sub (lₚ := []) (by decide +kernel))
    have mF14 := SFm_of cF14 oz_R9cls_4
    have cA14 : SA oz_R9clsl_0 A A14 := SA_trans (cAu12) (SA_gluc (ι := oz_R9clsl_2) oz_R9cls_5 hA14 eA14 (by decide +kernel)) (any_subA (lₚ := []) (by decide +kernel))
    have mA14 := SAm_of cA14 oz_R9cls_3
    have hc309 : ∀ (tc309_0 : Int), ∀ (ls : rO) (σ : rS) (F_c309 : hF) (A_c309 : hA) , rlook ls 0 = some (.ref (D 0)) → rlook ls 1 = some (I (x1)) → rlook ls 3 = some (I (2)) → HW V17_ve2 σ D N F_c309 A_c309 → OUT (V17_ve2).length D N σE c s D N σ c s → SF [] F14 F_c309 → SA [] A14 A_c309 → (inr (tc309_0)) → (((u2_1) ≤ (z14) ∧ (tc309_0) = (0)) ∨ ((u2_1) > (z14) ∧ (tc309_0) = (1))) → Ew 17 (d + 3) 309 ls [I (tc309_0), I (v13), I (1), .ref (D 7)] σ c s Q := by
     as_aux_lemma =>
      intro tc309_0 ls σ F_c309 A_c309  lc309_0 lc309_1 lc309_3 H O hS_c309 hA_c309     jc309_0 jc309_1
      have cF_c309 : SF oz_R9clsl_1 F F_c309 := SF_trans (cF14) hS_c309 (any_sub (by decide +kernel))
      have mF_c309 := SFm_of cF_c309 oz_R9cls_4
      have cA_c309 : SA oz_R9clsl_0 A A_c309 := SA_trans (cA14) hA_c309 (any_subA (by decide +kernel))
      have mA_c309 := SAm_of cA_c309 oz_R9cls_3
      refine w_iaddA rfl (fun z15 gz15 => ?_)
      refine v_sI H (o := 7) (z := z15) rfl rfl rfl rfl (n := n7) (en7) (show 0 ≤ 1 ∧ 1 < n7 from q_4077 h6) (show inr (z15) from gz15) (fun σ H Oₚ => ?_)
      have O := OUT_trans O Oₚ
      have cAu16 : SA oz_R9clsl_0 A (updA A_c309 7 (1) (z15)) := SA_upd (cA_c309) rfl
      have mAu16 := SAm_of cAu16 oz_R9cls_3
      refine Ew_of (pcₚ := 312) (fun _ => x_iload_n rfl lc309_3) ?_
      refine Ew_of (pcₚ := 313) (fun _ => x_iconst rfl) ?_
      refine w_icmpne (t := 337) rfl rfl (show inr (2) from q_55) (show inr (4) from q_2) (fun b17 => ?_) (fun b17 => ?_)
      · exact hc337  _ _ _ _  (lc309_0) (lc309_1) H O (SF_trans (SF_trans (SF_refl) (SF_gluc (ι := oz_R9clsl_2) oz_R9cls_5 hS14 eF14 (by decide +kernel)) (any_sub (lₚ := []) (by decide +kernel))) hS_c309 (any_sub (by decide +kernel))) (SA_upd (SA_trans (SA_trans (SA_upd (SA_refl) rfl) (SA_gluc (ι := oz_R9clsl_2) oz_R9cls_5 hA14 eA14 (by decide +kernel)) (any_subA (lₚ := []) (by decide +kernel))) hA_c309 (any_subA (by decide +kernel))) rfl)     (show 0 ≤ (u2_1) ∧ (u2_1) ≤ (n3) ∧ (n3) ≤ 65536 from h2)
      · exact absurd b17 (by omega)
    refine w_icmple (t := 308) rfl rfl (show inr (u2_1) from q_884 h2) (show inr (z14) from pz14_0) (fun b18 => ?_) (fun b18 => ?_)
    · refine Ew_of (pcₚ := 309) (fun _ => x_iconst rfl) ?_
      exact hc309 (0) _ _ _ _  (rk_o (hl0) rfl rfl) (rk_o (hl1) rfl rfl) (rk_o (hl3) rfl rfl) H O (SF_refl) (SA_refl)     (show inr (0) from q_20) (show ((u2_1) ≤ (z14) ∧ (0) = (0)) ∨ ((u2_1) > (z14) ∧ (0) = (1)) from q_2508 b18)
    · refine Ew_of (pcₚ := 305) (fun _ => x_iconst rfl) ?_
      refine Ew_of (pcₚ := 309) (fun _ => x_goto rfl rfl) ?_
      exact hc309 (1) _ _ _ _  (rk_o (hl0) rfl rfl) (rk_o (hl1) rfl rfl) (rk_o (hl3) rfl rfl) H O (SF_refl) (SA_refl)     (show inr (1) from q_23) (show ((u2_1) ≤ (z14) ∧ (1) = (0)) ∨ ((u2_1) > (z14) ∧ (1) = (1)) from q_2509 b18)
  · refine Ew_of (pcₚ := 259) (fun _ => x_aload_n rfl (rk_o (hl0) rfl rfl)) ?_
    refine v_g H (o := 0) (v := .ref (D 4)) rfl rfl rfl rfl rfl (vrf (pf4)) ?_
    refine Ew_of (pcₚ := 264) (fun _ => x_aload rfl (rk_o (hl4) rfl rfl)) ?_
    refine w_stat24 rfl rfl (by rfl) (C29_Row_Row (D := puc 806617604 D) (N := puc 806617604 N) (HW_subc H oz_R9cls_12 oz_R9cls_6) (pf5) (pf6) (n5) (en5) (n6) (en6) (u4_1) ((eu4_1)) (u1_1) ((eu1_1)) (show 0 ≤ (u4_1) ∧ (u4_1) ≤ (n5) ∧ (n5) ≤ 65536 from h3) (show 0 ≤ (u1_1) ∧ (u1_1) ≤ (n6) ∧ (n6) ≤ 65536 from h4) (fun z19 σ19 F19ₚ A19ₚ Hₚ Oₚ hS19 hA19 pz19_0 => ⟨rfl, ?_⟩))
    refine v_backc (c := c) (s := s) H oz_R9cls_12 oz_R9cls_6 Hₚ Oₚ (fun F19 A19 H Oₚ eF19 eA19 => ?_)
    have O := OUT_trans O Oₚ
    -- PackHouse.firstUnlike
    have cF19 : SF oz_R9clsl_1 F F19 := SF_trans (SF_refl) (SF_gluc (ι := oz_R9clsl_3) oz_R9cls_6 hS19 eF19 (by decide +kernel)) (any_sub (lₚ := []) (by decide +kernel))
    have mF19 := SFm_of cF19 oz_R9cls_4
    have cA19 : SA oz_R9clsl_0 A A19 := SA_trans (SA_refl) (SA_gluc (ι := oz_R9clsl_3) oz_R9cls_6 hA19 eA19 (by decide +kernel)) (any_subA (lₚ := []) (by decide +kernel))
    have mA19 := SAm_of cA19 oz_R9cls_3
    refine w_ifge (t := 274) rfl rfl (show inr (z19) from pz19_0) (fun b20 => ?_) (fun b20 => ?_)
    · refine Ew_of (pcₚ := 275) (fun _ => x_iconst rfl) ?_
      refine w_iaddA rfl (fun z21 gz21 => ?_)
      refine v_sI H (o := 7) (z := z21) rfl rfl rfl rfl (n := n7) (en7) (show 0 ≤ 0 ∧ 0 < n7 from q_4047 (HIDe r7) h6) (show inr (z21) from gz21) (fun σ H Oₚ => ?_)
      have O := OUT_trans O Oₚ
      have cAu22 : SA oz_R9clsl_0 A (updA A19 7 (0) (z21)) := SA_upd (cA19) rfl
      have mAu22 := SAm_of cAu22 oz_R9cls_3
      refine Ew_of (pcₚ := 278) (fun _ => x_aload_n rfl (rk_o (hl0) rfl rfl)) ?_
      refine v_g H (o := 0) (v := .ref (D 7)) rfl rfl rfl rfl rfl (vrf ((mF19 0 16 rfl).trans (pf7))) ?_
      refine Ew_of (pcₚ := 282) (fun _ => x_iconst rfl) ?_
      refine Ew_of (pcₚ := 283) (fun _ => x_dup2 rfl rfl rfl) ?_
      refine v_lI H (o := 7) rfl rfl rfl rfl (n := n7) (en7) (show 0 ≤ 1 ∧ 1 < n7 from q_4077 h6) (fun v23 ev23 (qv23 : HID _) => ?_)
      have ev23 : (upd1 (A 7) (0) (z21)) (1) = v23 := (congrFun (congrArg (fun q => upd1 q (0) (z21)) ((show A19 7 = A 7 from (eA19 7)))) (1)).symm.trans ev23
      refine Ew_of (pcₚ := 285) (fun _ => x_aload_n rfl (rk_o (hl0) rfl rfl)) ?_
      refine v_g H (o := 0) (v := .ref (D 2)) rfl rfl rfl rfl rfl (vrf ((mF19 0 5 rfl).trans (pf2))) ?_
      refine v_g H (o := 2) (v := I (u2_1)) rfl rfl rfl rfl rfl (congrArg (fun z : Int => I z) (((mF19 2 1 rfl).trans (eu2_1)) : F19 2 1 = u2_1)) ?_
      refine Ew_of (pcₚ := 292) (fun _ => x_aload_n rfl (rk_o (hl0) rfl rfl)) ?_
      refine Ew_of (pcₚ := 293) (fun _ => x_iload_n rfl (rk_o (hl3) rfl rfl)) ?_
      refine Ew_of (pcₚ := 295) (fun _ => x_aload rfl (rk_o (hl4) rfl rfl)) ?_
      refine v_g H (o := 1) (v := I (u1_1)) rfl rfl rfl rfl rfl (congrArg (fun z : Int => I z) (((mF19 1 1 rfl).trans (eu1_1)) : F19 1 1 = u1_1)) ?_
      refine v_inv H (o := 0) rfl rfl rfl rfl rfl rfl (by rfl) (C34 (D := puc 4096 D) (N := puc 4096 N) (HW_subc H oz_R9cls_11 oz_R9cls_5) ((mF19 0 1 rfl).trans (pf8)) (n8) (en8) (w8) ((funext (mAu22 8 rfl)).trans (ew8)) (show inr (2) from q_55) (show inr (u1_1) from q_3077 h4 h5) (show 0 ≤ (u1_1) ∧ (u1_1) ≤ 16384 from q_4318 h4 h5) (show 1 ≤ ((w8)) 2 ∧ ((w8)) 2 ≤ 65536 from h7) (show 0 ≤ ((w8)) 8 ∧ ((w8)) 8 ≤ 11 from h8) (show 0 ≤ ((w8)) 6 ∧ ((w8)) 6 ≤ 255 from h9) (show (n8) = 10 from h10) (fun z24 σ24 F24ₚ A24ₚ Hₚ Oₚ hS24 hA24 pz24_0 => ⟨rfl, ?_⟩))
      refine v_backc (c := c) (s := s) H oz_R9cls_11 oz_R9cls_5 Hₚ Oₚ (fun F24 A24 H Oₚ eF24 eA24 => ?_)
      have O := OUT_trans O Oₚ
      -- PackHouse.boundOf
      have cF24 : SF oz_R9clsl_1 F F24 := SF_trans (cF19) (SF_gluc (ι := oz_R9clsl_2) oz_R9cls_5 hS24 eF24 (by decide +kernel)) (any_sub (lₚ := []) (by decide +kernel))
      have mF24 := SFm_of cF24 oz_R9cls_4
      have cA24 : SA oz_R9clsl_0 A A24 := SA_trans (cAu22) (SA_gluc (ι := oz_R9clsl_2) oz_R9cls_5 hA24 eA24 (by decide +kernel)) (any_subA (lₚ := []) (by decide +kernel))
      have mA24 := SAm_of cA24 oz_R9cls_3
      have hc309 : ∀ (tc309_0 : Int), ∀ (ls : rO) (σ : rS) (F_c309 : hF) (A_c309 : hA) , rlook ls 0 = some (.ref (D 0)) → rlook ls 1 = some (I (x1)) → rlook ls 3 = some (I (2)) → HW V17_ve2 σ D N F_c309 A_c309 → OUT (V17_ve2).length D N σE c s D N σ c s → SF [] F24 F_c309 → SA [] A24 A_c309 → (inr (tc309_0)) → (((u2_1) ≤ (z24) ∧ (tc309_0) = (0)) ∨ ((u2_1) > (z24) ∧ (tc309_0) = (1))) → Ew 17 (d + 3) 309 ls [I (tc309_0), I (v23), I (1), .ref (D 7)] σ c s Q := by
       as_aux_lemma =>
        intro tc309_0 ls σ F_c309 A_c309  lc309_0 lc309_1 lc309_3 H O hS_c309 hA_c309     jc309_0 jc309_1
        have cF_c309 : SF oz_R9clsl_1 F F_c309 := SF_trans (cF24) hS_c309 (any_sub (by decide +kernel))
        have mF_c309 := SFm_of cF_c309 oz_R9cls_4
        have cA_c309 : SA oz_R9clsl_0 A A_c309 := SA_trans (cA24) hA_c309 (any_subA (by decide +kernel))
        have mA_c309 := SAm_of cA_c309 oz_R9cls_3
        refine w_iaddA rfl (fun z25 gz25 => ?_)
        refine v_sI H (o := 7) (z := z25) rfl rfl rfl rfl (n := n7) (en7) (show 0 ≤ 1 ∧ 1 < n7 from q_4077 h6) (show inr (z25) from gz25) (fun σ H Oₚ => ?_)
        have O := OUT_trans O Oₚ
        have cAu26 : SA oz_R9clsl_0 A (updA A_c309 7 (1) (z25)) := SA_upd (cA_c309) rfl
        have mAu26 := SAm_of cAu26 oz_R9cls_3
        refine Ew_of (pcₚ := 312) (fun _ => x_iload_n rfl lc309_3) ?_
        refine Ew_of (pcₚ := 313) (fun _ => x_iconst rfl) ?_
        refine w_icmpne (t := 337) rfl rfl (show inr (2) from q_55) (show inr (4) from q_2) (fun b27 => ?_) (fun b27 => ?_)
        · exact hc337  _ _ _ _  (lc309_0) (lc309_1) H O (SF_trans (SF_trans (SF_trans (SF_refl) (SF_gluc (ι := oz_R9clsl_3) oz_R9cls_6 hS19 eF19 (by decide +kernel)) (any_sub (lₚ := []) (by decide +kernel))) (SF_gluc (ι := oz_R9clsl_2) oz_R9cls_5 hS24 eF24 (by decide +kernel)) (any_sub (lₚ := []) (by decide +kernel))) hS_c309 (any_sub (by decide +kernel))) (SA_upd (SA_trans (SA_trans (SA_upd (SA_trans (SA_refl) (SA_gluc (ι := oz_R9clsl_3) oz_R9cls_6 hA19 eA19 (by decide +kernel)) (any_subA (lₚ := []) (by decide +kernel))) rfl) (SA_gluc (ι := oz_R9clsl_2) oz_R9cls_5 hA24 eA24 (by decide +kernel)) (any_subA (lₚ := []) (by decide +kernel))) hA_c309 (any_subA (by decide +kernel))) rfl)     (show 0 ≤ (u2_1) ∧ (u2_1) ≤ (n3) ∧ (n3) ≤ 65536 from h2)
        · exact absurd b27 (by omega)
      refine w_icmple (t := 308) rfl rfl (show inr (u2_1) from q_884 h2) (show inr (z24) from pz24_0) (fun b28 => ?_) (fun b28 => ?_)
      · refine Ew_of (pcₚ := 309) (fun _ => x_iconst rfl) ?_
        exact hc309 (0) _ _ _ _  (rk_o (hl0) rfl rfl) (rk_o (hl1) rfl rfl) (rk_o (hl3) rfl rfl) H O (SF_refl) (SA_refl)     (show inr (0) from q_20) (show ((u2_1) ≤ (z24) ∧ (0) = (0)) ∨ ((u2_1) > (z24) ∧ (0) = (1)) from q_2508 b28)
      · refine Ew_of (pcₚ := 305) (fun _ => x_iconst rfl) ?_
        refine Ew_of (pcₚ := 309) (fun _ => x_goto rfl rfl) ?_
        exact hc309 (1) _ _ _ _  (rk_o (hl0) rfl rfl) (rk_o (hl1) rfl rfl) (rk_o (hl3) rfl rfl) H O (SF_refl) (SA_refl)     (show inr (1) from q_23) (show ((u2_1) ≤ (z24) ∧ (1) = (0)) ∨ ((u2_1) > (z24) ∧ (1) = (1)) from q_2509 b28)
    · refine Ew_of (pcₚ := 271) (fun _ => x_iconst rfl) ?_
      refine Ew_of (pcₚ := 275) (fun _ => x_goto rfl rfl) ?_
      refine w_iaddA rfl (fun z29 gz29 => ?_)
      refine v_sI H (o := 7) (z := z29) rfl rfl rfl rfl (n := n7) (en7) (show 0 ≤ 0 ∧ 0 < n7 from q_4047 (HIDe r7) h6) (show inr (z29) from gz29) (fun σ H Oₚ => ?_)
      have O := OUT_trans O Oₚ
      have cAu30 : SA oz_R9clsl_0 A (updA A19 7 (0) (z29)) := SA_upd (cA19) rfl
      have mAu30 := SAm_of cAu30 oz_R9cls_3
      refine Ew_of (pcₚ := 278) (fun _ => x_aload_n rfl (rk_o (hl0) rfl rfl)) ?_
      refine v_g H (o := 0) (v := .ref (D 7)) rfl rfl rfl rfl rfl (vrf ((mF19 0 16 rfl).trans (pf7))) ?_
      refine Ew_of (pcₚ := 282) (fun _ => x_iconst rfl) ?_
      refine Ew_of (pcₚ := 283) (fun _ => x_dup2 rfl rfl rfl) ?_
      refine v_lI H (o := 7) rfl rfl rfl rfl (n := n7) (en7) (show 0 ≤ 1 ∧ 1 < n7 from q_4077 h6) (fun v31 ev31 (qv31 : HID _) => ?_)
      have ev31 : (upd1 (A 7) (0) (z29)) (1) = v31 := (congrFun (congrArg (fun q => upd1 q (0) (z29)) ((show A19 7 = A 7 from (eA19 7)))) (1)).symm.trans ev31
      refine Ew_of (pcₚ := 285) (fun _ => x_aload_n rfl (rk_o (hl0) rfl rfl)) ?_
      refine v_g H (o := 0) (v := .ref (D 2)) rfl rfl rfl rfl rfl (vrf ((mF19 0 5 rfl).trans (pf2))) ?_
      refine v_g H (o := 2) (v := I (u2_1)) rfl rfl rfl rfl rfl (congrArg (fun z : Int => I z) (((mF19 2 1 rfl).trans (eu2_1)) : F19 2 1 = u2_1)) ?_
      refine Ew_of (pcₚ := 292) (fun _ => x_aload_n rfl (rk_o (hl0) rfl rfl)) ?_
      refine Ew_of (pcₚ := 293) (fun _ => x_iload_n rfl (rk_o (hl3) rfl rfl)) ?_
      refine Ew_of (pcₚ := 295) (fun _ => x_aload rfl (rk_o (hl4) rfl rfl)) ?_
      refine v_g H (o := 1) (v := I (u1_1)) rfl rfl rfl rfl rfl (congrArg (fun z : Int => I z) (((mF19 1 1 rfl).trans (eu1_1)) : F19 1 1 = u1_1)) ?_
      refine v_inv H (o := 0) rfl rfl rfl rfl rfl rfl (by rfl) (C34 (D := puc 4096 D) (N := puc 4096 N) (HW_subc H oz_R9cls_11 oz_R9cls_5) ((mF19 0 1 rfl).trans (pf8)) (n8) (en8) (w8) ((funext (mAu30 8 rfl)).trans (ew8)) (show inr (2) from q_55) (show inr (u1_1) from q_3077 h4 h5) (show 0 ≤ (u1_1) ∧ (u1_1) ≤ 16384 from q_4318 h4 h5) (show 1 ≤ ((w8)) 2 ∧ ((w8)) 2 ≤ 65536 from h7) (show 0 ≤ ((w8)) 8 ∧ ((w8)) 8 ≤ 11 from h8) (show 0 ≤ ((w8)) 6 ∧ ((w8)) 6 ≤ 255 from h9) (show (n8) = 10 from h10) (fun z32 σ32 F32ₚ A32ₚ Hₚ Oₚ hS32 hA32 pz32_0 => ⟨rfl, ?_⟩))
      refine v_backc (c := c) (s := s) H oz_R9cls_11 oz_R9cls_5 Hₚ Oₚ (fun F32 A32 H Oₚ eF32 eA32 => ?_)
      have O := OUT_trans O Oₚ
      -- PackHouse.boundOf
      have cF32 : SF oz_R9clsl_1 F F32 := SF_trans (cF19) (SF_gluc (ι := oz_R9clsl_2) oz_R9cls_5 hS32 eF32 (by decide +kernel)) (any_sub (lₚ := []) (by decide +kernel))
      have mF32 := SFm_of cF32 oz_R9cls_4
      have cA32 : SA oz_R9clsl_0 A A32 := SA_trans (cAu30) (SA_gluc (ι := oz_R9clsl_2) oz_R9cls_5 hA32 eA32 (by decide +kernel)) (any_subA (lₚ := []) (by decide +kernel))
      have mA32 := SAm_of cA32 oz_R9cls_3
      have hc309 : ∀ (tc309_0 : Int), ∀ (ls : rO) (σ : rS) (F_c309 : hF) (A_c309 : hA) , rlook ls 0 = some (.ref (D 0)) → rlook ls 1 = some (I (x1)) → rlook ls 3 = some (I (2)) → HW V17_ve2 σ D N F_c309 A_c309 → OUT (V17_ve2).length D N σE c s D N σ c s → SF [] F32 F_c309 → SA [] A32 A_c309 → (inr (tc309_0)) → (((u2_1) ≤ (z32) ∧ (tc309_0) = (0)) ∨ ((u2_1) > (z32) ∧ (tc309_0) = (1))) → Ew 17 (d + 3) 309 ls [I (tc309_0), I (v31), I (1), .ref (D 7)] σ c s Q := by
       as_aux_lemma =>
        intro tc309_0 ls σ F_c309 A_c309  lc309_0 lc309_1 lc309_3 H O hS_c309 hA_c309     jc309_0 jc309_1
        have cF_c309 : SF oz_R9clsl_1 F F_c309 := SF_trans (cF32) hS_c309 (any_sub (by decide +kernel))
        have mF_c309 := SFm_of cF_c309 oz_R9cls_4
        have cA_c309 : SA oz_R9clsl_0 A A_c309 := SA_trans (cA32) hA_c309 (any_subA (by decide +kernel))
        have mA_c309 := SAm_of cA_c309 oz_R9cls_3
        refine w_iaddA rfl (fun z33 gz33 => ?_)
        refine v_sI H (o := 7) (z := z33) rfl rfl rfl rfl (n := n7) (en7) (show 0 ≤ 1 ∧ 1 < n7 from q_4077 h6) (show inr (z33) from gz33) (fun σ H Oₚ => ?_)
        have O := OUT_trans O Oₚ
        have cAu34 : SA oz_R9clsl_0 A (updA A_c309 7 (1) (z33)) := SA_upd (cA_c309) rfl
        have mAu34 := SAm_of cAu34 oz_R9cls_3
        refine Ew_of (pcₚ := 312) (fun _ => x_iload_n rfl lc309_3) ?_
        refine Ew_of (pcₚ := 313) (fun _ => x_iconst rfl) ?_
        refine w_icmpne (t := 337) rfl rfl (show inr (2) from q_55) (show inr (4) from q_2) (fun b35 => ?_) (fun b35 => ?_)
        · exact hc337  _ _ _ _  (lc309_0) (lc309_1) H O (SF_trans (SF_trans (SF_trans (SF_refl) (SF_gluc (ι := oz_R9clsl_3) oz_R9cls_6 hS19 eF19 (by decide +kernel)) (any_sub (lₚ := []) (by decide +kernel))) (SF_gluc (ι := oz_R9clsl_2) oz_R9cls_5 hS32 eF32 (by decide +kernel)) (any_sub (lₚ := []) (by decide +kernel))) hS_c309 (any_sub (by decide +kernel))) (SA_upd (SA_trans (SA_trans (SA_upd (SA_trans (SA_refl) (SA_gluc (ι := oz_R9clsl_3) oz_R9cls_6 hA19 eA19 (by decide +kernel)) (any_subA (lₚ := []) (by decide +kernel))) rfl) (SA_gluc (ι := oz_R9clsl_2) oz_R9cls_5 hA32 eA32 (by decide +kernel)) (any_subA (lₚ := []) (by decide +kernel))) hA_c309 (any_subA (by decide +kernel))) rfl)     (show 0 ≤ (u2_1) ∧ (u2_1) ≤ (n3) ∧ (n3) ≤ 65536 from h2)
        · exact absurd b35 (by omega)
      refine w_icmple (t := 308) rfl rfl (show inr (u2_1) from q_884 h2) (show inr (z32) from pz32_0) (fun b36 => ?_) (fun b36 => ?_)
      · refine Ew_of (pcₚ := 309) (fun _ => x_iconst rfl) ?_
        exact hc309 (0) _ _ _ _  (rk_o (hl0) rfl rfl) (rk_o (hl1) rfl rfl) (rk_o (hl3) rfl rfl) H O (SF_refl) (SA_refl)     (show inr (0) from q_20) (show ((u2_1) ≤ (z32) ∧ (0) = (0)) ∨ ((u2_1) > (z32) ∧ (0) = (1)) from q_2508 b36)
      · refine Ew_of (pcₚ := 305) (fun _ => x_iconst rfl) ?_
        refine Ew_of (pcₚ := 309) (fun _ => x_goto rfl rfl) ?_
        exact hc309 (1) _ _ _ _  (rk_o (hl0) rfl rfl) (rk_o (hl1) rfl rfl) (rk_o (hl3) rfl rfl) H O (SF_refl) (SA_refl)     (show inr (1) from q_23) (show ((u2_1) ≤ (z32) ∧ (1) = (0)) ∨ ((u2_1) > (z32) ∧ (1) = (1)) from q_2509 b36)
abbrev V17_ve3 : vV := [(0, 0, [(4, 0), (4, 0), (4, 0), (4, 0), (4, 0), (4, 0), (4, 0), (4, 0), (4, 0), (4, 0), (4, 0), (4, 0), (4, 0), (4, 0), (4, 0), (4, 0), (4, 0), (0, 0), (0, 0)]), (0, 7, [(4, 0), (0, 0), (1, 0), (0, 0), (0, 0)]), (0, 7, [(4, 0), (0, 0), (1, 0), (0, 0), (0, 0)]), (1, 0, []), (0, 7, [(4, 0), (0, 0), (1, 0), (0, 0), (0, 0)]), (1, 0, []), (1, 0, []), (1, 1, []), (1, 1, [])]
theorem len_V17_ve3_oz_R9cls : (V17_ve3).length = 9 := by decide +kernel
theorem oz_R9cls_14 : vsub V17_ve3 V34 [0, 8] = true := by decide +kernel
theorem oz_R9cls_15 : vsub V17_ve3 V29_Row_Row [4, 1, 5, 6] = true := by decide +kernel
/-- PackHouse.write: this, @F, this.written, this.written.bytes, this.content, this.content.bytes, @F.bytes, this.strays, this.settings -/
theorem C17_ve3 {σE : rS} {D N : Nat → Nat} {F : hF} {A : hA} {d c s : Nat} {Q : wQ} (H : HW V17_ve3 σE D N F A) {x1 y0 : Int} (pf2 : HID (F 0 5 = (D 2 : Int))) (pf3 : HID (F 2 0 = (D 3 : Int))) (pf4 : HID (F 0 6 = (D 4 : Int))) (pf5 : HID (F 4 0 = (D 5 : Int))) (pf6 : HID (F 1 0 = (D 6 : Int))) (pf7 : HID (F 0 16 = (D 7 : Int))) (pf8 : HID (F 0 1 = (D 8 : Int))) (n3 : Int) (en3 : HID ((N 3 : Int) = n3)) (n5 : Int) (en5 : HID ((N 5 : Int) = n5)) (n6 : Int) (en6 : HID ((N 6 : Int) = n6)) (n7 : Int) (en7 : HID ((N 7 : Int) = n7)) (n8 : Int) (en8 : HID ((N 8 : Int) = n8)) (u1_1 : Int) (eu1_1 : HID (F 1 1 = u1_1)) (u2_1 : Int) (eu2_1 : HID (F 2 1 = u2_1)) (u4_1 : Int) (eu4_1 : HID (F 4 1 = u4_1)) (w8 : Int → Int) (ew8 : A 8 = w8) {ls : rO} (hl0 : rlook ls 0 = some (.ref (D 0))) (hl1 : rlook ls 1 = some (I (x1))) (hl3 : rlook ls 3 = some (I (3))) (hl4 : rlook ls 4 = some (.ref (D 1))) (h0 : inr (x1)) (h1 : inr y0) (h2 : 0 ≤ (u2_1) ∧ (u2_1) ≤ (n3) ∧ (n3) ≤ 65536) (h3 : 0 ≤ (u4_1) ∧ (u4_1) ≤ (n5) ∧ (n5) ≤ 65536) (h4 : 0 ≤ (u1_1) ∧ (u1_1) ≤ (n6) ∧ (n6) ≤ 65536) (h5 : (u1_1) ≤ 16384) (h6 : (n7) = 2) (h7 : 1 ≤ ((w8)) 2 ∧ ((w8)) 2 ≤ 65536) (h8 : 0 ≤ ((w8)) 8 ∧ ((w8)) 8 ≤ 11) (h9 : 0 ≤ ((w8)) 6 ∧ ((w8)) 6 ≤ 255) (h10 : (n8) = 10) (hc337 : ∀ (ls : rO) (σ : rS) (F_c337 : hF) (A_c337 : hA) , rlook ls 0 = some (.ref (D 0)) → rlook ls 1 = some (I (x1)) → HW V17_ve3 σ D N F_c337 A_c337 → OUT (V17_ve3).length D N σE c s D N σ c s → SF [] F F_c337 → SA [7] A A_c337 → (0 ≤ (u2_1) ∧ (u2_1) ≤ (n3) ∧ (n3) ≤ 65536) → Ew 17 (d + 3) 337 ls [] σ c s Q) (k : ∀ (z : Int) (σ : rS) (Fₚ : hF) (Aₚ : hA), HW V17_ve3 σ D N Fₚ Aₚ → OUT (V17_ve3).length D N σE c s D N σ c s → SF [] F Fₚ → SA [7] A Aₚ → (inr (z)) → ((0 : Int) = 1) → Q (some (I z)) σ c s) : Ew 17 (d + 3) 239 ls [I (y0)] σE c s Q := by
  have O := OUT_refl (n := (V17_ve3).length) (D := D) (N := N) (σ := σE) (c := c) (s := s)
  have HE := H
  have r7 : HID ((0 : Int) ≤ n7 ∧ n7 ≤ 1000000) := nrng (H.nle 7 (ltn len_V17_ve3_oz_R9cls rfl)) (show (N 7 : Int) = n7 from en7)
  refine Ew_of (pcₚ := 241) (fun _ => x_istore rfl) ?_
  refine Ew_of (pcₚ := 242) (fun _ => x_aload_n rfl (rk_o (hl0) rfl rfl)) ?_
  refine v_g H (o := 0) (v := .ref (D 7)) rfl rfl rfl rfl rfl (vrf (pf7)) ?_
  refine Ew_of (pcₚ := 246) (fun _ => x_iconst rfl) ?_
  refine Ew_of (pcₚ := 247) (fun _ => x_dup2 rfl rfl rfl) ?_
  refine v_lI H (o := 7) rfl rfl rfl rfl (n := n7) (en7) (show 0 ≤ 0 ∧ 0 < n7 from q_4047 (HIDe r7) h6) (fun v9 ev9 (qv9 : HID _) => ?_)
  have ev9 : (A 7) (0) = v9 := (congrFun (rfl : A 7 = A 7) (0)).symm.trans ev9
  refine Ew_of (pcₚ := 250) (fun _ => x_iload rfl rk_s) ?_
  refine Ew_of (pcₚ := 252) (fun _ => x_aload rfl (rk_o (hl4) rfl rfl)) ?_
  refine v_g H (o := 1) (v := I (u1_1)) rfl rfl rfl rfl rfl (congrArg (fun z : Int => I z) ((eu1_1) : F 1 1 = u1_1)) ?_
  refine w_icmpne (t := 274) rfl rfl (show inr (y0) from h1) (show inr (u1_1) from q_3077 h4 h5) (fun b10 => ?_) (fun b10 => ?_)
  · refine Ew_of (pcₚ := 275) (fun _ => x_iconst rfl) ?_
    refine w_iaddA rfl (fun z11 gz11 => ?_)
    refine v_sI H (o := 7) (z := z11) rfl rfl rfl rfl (n := n7) (en7) (show 0 ≤ 0 ∧ 0 < n7 from q_4047 (HIDe r7) h6) (show inr (z11) from gz11) (fun σ H Oₚ => ?_)
    have O := OUT_trans O Oₚ
    have cAu12 : SA oz_R9clsl_0 A (updA A 7 (0) (z11)) := SA_upd (SA_refl) rfl
    have mAu12 := SAm_of cAu12 oz_R9cls_3
    refine Ew_of (pcₚ := 278) (fun _ => x_aload_n rfl (rk_o (hl0) rfl rfl)) ?_
    refine v_g H (o := 0) (v := .ref (D 7)) rfl rfl rfl rfl rfl (vrf (pf7)) ?_
    refine Ew_of (pcₚ := 282) (fun _ => x_iconst rfl) ?_
    refine Ew_of (pcₚ := 283) (fun _ => x_dup2 rfl rfl rfl) ?_
    refine v_lI H (o := 7) rfl rfl rfl rfl (n := n7) (en7) (show 0 ≤ 1 ∧ 1 < n7 from q_4077 h6) (fun v13 ev13 (qv13 : HID _) => ?_)
    have ev13 : (upd1 (A 7) (0) (z11)) (1) = v13 := (congrFun (rfl : (updA A 7 (0) (z11)) 7 = upd1 (A 7) (0) (z11)) (1)).symm.trans ev13
    refine Ew_of (pcₚ := 285) (fun _ => x_aload_n rfl (rk_o (hl0) rfl rfl)) ?_
    refine v_g H (o := 0) (v := .ref (D 2)) rfl rfl rfl rfl rfl (vrf (pf2)) ?_
    refine v_g H (o := 2) (v := I (u2_1)) rfl rfl rfl rfl rfl (congrArg (fun z : Int => I z) ((eu2_1) : F 2 1 = u2_1)) ?_
    refine Ew_of (pcₚ := 292) (fun _ => x_aload_n rfl (rk_o (hl0) rfl rfl)) ?_
    refine Ew_of (pcₚ := 293) (fun _ => x_iload_n rfl (rk_o (hl3) rfl rfl)) ?_
    refine Ew_of (pcₚ := 295) (fun _ => x_aload rfl (rk_o (hl4) rfl rfl)) ?_
    refine v_g H (o := 1) (v := I (u1_1)) rfl rfl rfl rfl rfl (congrArg (fun z : Int => I z) ((eu1_1) : F 1 1 = u1_1)) ?_
    refine v_inv H (o := 0) rfl rfl rfl rfl rfl rfl (by rfl) (C34 (D := puc 4096 D) (N := puc 4096 N) (HW_subc H oz_R9cls_14 oz_R9cls_5) (pf8) (n8) (en8) (w8) ((funext (mAu12 8 rfl)).trans (ew8)) (show inr (3) from q_66) (show inr (u1_1) from q_3077 h4 h5) (show 0 ≤ (u1_1) ∧ (u1_1) ≤ 16384 from q_4318 h4 h5) (show 1 ≤ ((w8)) 2 ∧ ((w8)) 2 ≤ 65536 from h7) (show 0 ≤ ((w8)) 8 ∧ ((w8)) 8 ≤ 11 from h8) (show 0 ≤ ((w8)) 6 ∧ ((w8)) 6 ≤ 255 from h9) (show (n8) = 10 from h10) (fun z14 σ14 F14ₚ A14ₚ Hₚ Oₚ hS14 hA14 pz14_0 => ⟨rfl, ?_⟩))
    refine v_backc (c := c) (s := s) H oz_R9cls_14 oz_R9cls_5 Hₚ Oₚ (fun F14 A14 H Oₚ eF14 eA14 => ?_)
    have O := OUT_trans O Oₚ
    -- PackHouse.boundOf
    have cF14 : SF oz_R9clsl_1 F F14 := SF_trans (SF_refl) (SF_gluc (ι := oz_R9clsl_2) oz_R9cls_5 hS14 eF14 (by decide +kernel)) (any_sub (lₚ := []) (by decide +kernel))
    have mF14 := SFm_of cF14 oz_R9cls_4
    have cA14 : SA oz_R9clsl_0 A A14 := SA_trans (cAu12) (SA_gluc (ι := oz_R9clsl_2) oz_R9cls_5 hA14 eA14 (by decide +kernel)) (any_subA (lₚ := []) (by decide +kernel))
    have mA14 := SAm_of cA14 oz_R9cls_3
    have hc309 : ∀ (tc309_0 : Int), ∀ (ls : rO) (σ : rS) (F_c309 : hF) (A_c309 : hA) , rlook ls 0 = some (.ref (D 0)) → rlook ls 1 = some (I (x1)) → rlook ls 3 = some (I (3)) → HW V17_ve3 σ D N F_c309 A_c309 → OUT (V17_ve3).length D N σE c s D N σ c s → SF [] F14 F_c309 → SA [] A14 A_c309 → (inr (tc309_0)) → (((u2_1) ≤ (z14) ∧ (tc309_0) = (0)) ∨ ((u2_1) > (z14) ∧ (tc309_0) = (1))) → Ew 17 (d + 3) 309 ls [I (tc309_0), I (v13), I (1), .ref (D 7)] σ c s Q := by
     as_aux_lemma =>
      intro tc309_0 ls σ F_c309 A_c309  lc309_0 lc309_1 lc309_3 H O hS_c309 hA_c309     jc309_0 jc309_1
      have cF_c309 : SF oz_R9clsl_1 F F_c309 := SF_trans (cF14) hS_c309 (any_sub (by decide +kernel))
      have mF_c309 := SFm_of cF_c309 oz_R9cls_4
      have cA_c309 : SA oz_R9clsl_0 A A_c309 := SA_trans (cA14) hA_c309 (any_subA (by decide +kernel))
      have mA_c309 := SAm_of cA_c309 oz_R9cls_3
      refine w_iaddA rfl (fun z15 gz15 => ?_)
      refine v_sI H (o := 7) (z := z15) rfl rfl rfl rfl (n := n7) (en7) (show 0 ≤ 1 ∧ 1 < n7 from q_4077 h6) (show inr (z15) from gz15) (fun σ H Oₚ => ?_)
      have O := OUT_trans O Oₚ
      have cAu16 : SA oz_R9clsl_0 A (updA A_c309 7 (1) (z15)) := SA_upd (cA_c309) rfl
      have mAu16 := SAm_of cAu16 oz_R9cls_3
      refine Ew_of (pcₚ := 312) (fun _ => x_iload_n rfl lc309_3) ?_
      refine Ew_of (pcₚ := 313) (fun _ => x_iconst rfl) ?_
      refine w_icmpne (t := 337) rfl rfl (show inr (3) from q_66) (show inr (4) from q_2) (fun b17 => ?_) (fun b17 => ?_)
      · exact hc337  _ _ _ _  (lc309_0) (lc309_1) H O (SF_trans (SF_trans (SF_refl) (SF_gluc (ι := oz_R9clsl_2) oz_R9cls_5 hS14 eF14 (by decide +kernel)) (any_sub (lₚ := []) (by decide +kernel))) hS_c309 (any_sub (by decide +kernel))) (SA_upd (SA_trans (SA_trans (SA_upd (SA_refl) rfl) (SA_gluc (ι := oz_R9clsl_2) oz_R9cls_5 hA14 eA14 (by decide +kernel)) (any_subA (lₚ := []) (by decide +kernel))) hA_c309 (any_subA (by decide +kernel))) rfl)     (show 0 ≤ (u2_1) ∧ (u2_1) ≤ (n3) ∧ (n3) ≤ 65536 from h2)
      · exact absurd b17 (by omega)
    refine w_icmple (t := 308) rfl rfl (show inr (u2_1) from q_884 h2) (show inr (z14) from pz14_0) (fun b18 => ?_) (fun b18 => ?_)
    · refine Ew_of (pcₚ := 309) (fun _ => x_iconst rfl) ?_
      exact hc309 (0) _ _ _ _  (rk_o (hl0) rfl rfl) (rk_o (hl1) rfl rfl) (rk_o (hl3) rfl rfl) H O (SF_refl) (SA_refl)     (show inr (0) from q_20) (show ((u2_1) ≤ (z14) ∧ (0) = (0)) ∨ ((u2_1) > (z14) ∧ (0) = (1)) from q_2508 b18)
    · refine Ew_of (pcₚ := 305) (fun _ => x_iconst rfl) ?_
      refine Ew_of (pcₚ := 309) (fun _ => x_goto rfl rfl) ?_
      exact hc309 (1) _ _ _ _  (rk_o (hl0) rfl rfl) (rk_o (hl1) rfl rfl) (rk_o (hl3) rfl rfl) H O (SF_refl) (SA_refl)     (show inr (1) from q_23) (show ((u2_1) ≤ (z14) ∧ (1) = (0)) ∨ ((u2_1) > (z14) ∧ (1) = (1)) from q_2509 b18)
  · refine Ew_of (pcₚ := 259) (fun _ => x_aload_n rfl (rk_o (hl0) rfl rfl)) ?_
    refine v_g H (o := 0) (v := .ref (D 4)) rfl rfl rfl rfl rfl (vrf (pf4)) ?_
    refine Ew_of (pcₚ := 264) (fun _ => x_aload rfl (rk_o (hl4) rfl rfl)) ?_
    refine w_stat24 rfl rfl (by rfl) (C29_Row_Row (D := puc 806617604 D) (N := puc 806617604 N) (HW_subc H oz_R9cls_15 oz_R9cls_6) (pf5) (pf6) (n5) (en5) (n6) (en6) (u4_1) ((eu4_1)) (u1_1) ((eu1_1)) (show 0 ≤ (u4_1) ∧ (u4_1) ≤ (n5) ∧ (n5) ≤ 65536 from h3) (show 0 ≤ (u1_1) ∧ (u1_1) ≤ (n6) ∧ (n6) ≤ 65536 from h4) (fun z19 σ19 F19ₚ A19ₚ Hₚ Oₚ hS19 hA19 pz19_0 => ⟨rfl, ?_⟩))
    refine v_backc (c := c) (s := s) H oz_R9cls_15 oz_R9cls_6 Hₚ Oₚ (fun F19 A19 H Oₚ eF19 eA19 => ?_)
    have O := OUT_trans O Oₚ
    -- PackHouse.firstUnlike
    have cF19 : SF oz_R9clsl_1 F F19 := SF_trans (SF_refl) (SF_gluc (ι := oz_R9clsl_3) oz_R9cls_6 hS19 eF19 (by decide +kernel)) (any_sub (lₚ := []) (by decide +kernel))
    have mF19 := SFm_of cF19 oz_R9cls_4
    have cA19 : SA oz_R9clsl_0 A A19 := SA_trans (SA_refl) (SA_gluc (ι := oz_R9clsl_3) oz_R9cls_6 hA19 eA19 (by decide +kernel)) (any_subA (lₚ := []) (by decide +kernel))
    have mA19 := SAm_of cA19 oz_R9cls_3
    refine w_ifge (t := 274) rfl rfl (show inr (z19) from pz19_0) (fun b20 => ?_) (fun b20 => ?_)
    · refine Ew_of (pcₚ := 275) (fun _ => x_iconst rfl) ?_
      refine w_iaddA rfl (fun z21 gz21 => ?_)
      refine v_sI H (o := 7) (z := z21) rfl rfl rfl rfl (n := n7) (en7) (show 0 ≤ 0 ∧ 0 < n7 from q_4047 (HIDe r7) h6) (show inr (z21) from gz21) (fun σ H Oₚ => ?_)
      have O := OUT_trans O Oₚ
      have cAu22 : SA oz_R9clsl_0 A (updA A19 7 (0) (z21)) := SA_upd (cA19) rfl
      have mAu22 := SAm_of cAu22 oz_R9cls_3
      refine Ew_of (pcₚ := 278) (fun _ => x_aload_n rfl (rk_o (hl0) rfl rfl)) ?_
      refine v_g H (o := 0) (v := .ref (D 7)) rfl rfl rfl rfl rfl (vrf ((mF19 0 16 rfl).trans (pf7))) ?_
      refine Ew_of (pcₚ := 282) (fun _ => x_iconst rfl) ?_
      refine Ew_of (pcₚ := 283) (fun _ => x_dup2 rfl rfl rfl) ?_
      refine v_lI H (o := 7) rfl rfl rfl rfl (n := n7) (en7) (show 0 ≤ 1 ∧ 1 < n7 from q_4077 h6) (fun v23 ev23 (qv23 : HID _) => ?_)
      have ev23 : (upd1 (A 7) (0) (z21)) (1) = v23 := (congrFun (congrArg (fun q => upd1 q (0) (z21)) ((show A19 7 = A 7 from (eA19 7)))) (1)).symm.trans ev23
      refine Ew_of (pcₚ := 285) (fun _ => x_aload_n rfl (rk_o (hl0) rfl rfl)) ?_
      refine v_g H (o := 0) (v := .ref (D 2)) rfl rfl rfl rfl rfl (vrf ((mF19 0 5 rfl).trans (pf2))) ?_
      refine v_g H (o := 2) (v := I (u2_1)) rfl rfl rfl rfl rfl (congrArg (fun z : Int => I z) (((mF19 2 1 rfl).trans (eu2_1)) : F19 2 1 = u2_1)) ?_
      refine Ew_of (pcₚ := 292) (fun _ => x_aload_n rfl (rk_o (hl0) rfl rfl)) ?_
      refine Ew_of (pcₚ := 293) (fun _ => x_iload_n rfl (rk_o (hl3) rfl rfl)) ?_
      refine Ew_of (pcₚ := 295) (fun _ => x_aload rfl (rk_o (hl4) rfl rfl)) ?_
      refine v_g H (o := 1) (v := I (u1_1)) rfl rfl rfl rfl rfl (congrArg (fun z : Int => I z) (((mF19 1 1 rfl).trans (eu1_1)) : F19 1 1 = u1_1)) ?_
      refine v_inv H (o := 0) rfl rfl rfl rfl rfl rfl (by rfl) (C34 (D := puc 4096 D) (N := puc 4096 N) (HW_subc H oz_R9cls_14 oz_R9cls_5) ((mF19 0 1 rfl).trans (pf8)) (n8) (en8) (w8) ((funext (mAu22 8 rfl)).trans (ew8)) (show inr (3) from q_66) (show inr (u1_1) from q_3077 h4 h5) (show 0 ≤ (u1_1) ∧ (u1_1) ≤ 16384 from q_4318 h4 h5) (show 1 ≤ ((w8)) 2 ∧ ((w8)) 2 ≤ 65536 from h7) (show 0 ≤ ((w8)) 8 ∧ ((w8)) 8 ≤ 11 from h8) (show 0 ≤ ((w8)) 6 ∧ ((w8)) 6 ≤ 255 from h9) (show (n8) = 10 from h10) (fun z24 σ24 F24ₚ A24ₚ Hₚ Oₚ hS24 hA24 pz24_0 => ⟨rfl, ?_⟩))
      refine v_backc (c := c) (s := s) H oz_R9cls_14 oz_R9cls_5 Hₚ Oₚ (fun F24 A24 H Oₚ eF24 eA24 => ?_)
      have O := OUT_trans O Oₚ
      -- PackHouse.boundOf
      have cF24 : SF oz_R9clsl_1 F F24 := SF_trans (cF19) (SF_gluc (ι := oz_R9clsl_2) oz_R9cls_5 hS24 eF24 (by decide +kernel)) (any_sub (lₚ := []) (by decide +kernel))
      have mF24 := SFm_of cF24 oz_R9cls_4
      have cA24 : SA oz_R9clsl_0 A A24 := SA_trans (cAu22) (SA_gluc (ι := oz_R9clsl_2) oz_R9cls_5 hA24 eA24 (by decide +kernel)) (any_subA (lₚ := []) (by decide +kernel))
      have mA24 := SAm_of cA24 oz_R9cls_3
      have hc309 : ∀ (tc309_0 : Int), ∀ (ls : rO) (σ : rS) (F_c309 : hF) (A_c309 : hA) , rlook ls 0 = some (.ref (D 0)) → rlook ls 1 = some (I (x1)) → rlook ls 3 = some (I (3)) → HW V17_ve3 σ D N F_c309 A_c309 → OUT (V17_ve3).length D N σE c s D N σ c s → SF [] F24 F_c309 → SA [] A24 A_c309 → (inr (tc309_0)) → (((u2_1) ≤ (z24) ∧ (tc309_0) = (0)) ∨ ((u2_1) > (z24) ∧ (tc309_0) = (1))) → Ew 17 (d + 3) 309 ls [I (tc309_0), I (v23), I (1), .ref (D 7)] σ c s Q := by
       as_aux_lemma =>
        intro tc309_0 ls σ F_c309 A_c309  lc309_0 lc309_1 lc309_3 H O hS_c309 hA_c309     jc309_0 jc309_1
        have cF_c309 : SF oz_R9clsl_1 F F_c309 := SF_trans (cF24) hS_c309 (any_sub (by decide +kernel))
        have mF_c309 := SFm_of cF_c309 oz_R9cls_4
        have cA_c309 : SA oz_R9clsl_0 A A_c309 := SA_trans (cA24) hA_c309 (any_subA (by decide +kernel))
        have mA_c309 := SAm_of cA_c309 oz_R9cls_3
        refine w_iaddA rfl (fun z25 gz25 => ?_)
        refine v_sI H (o := 7) (z := z25) rfl rfl rfl rfl (n := n7) (en7) (show 0 ≤ 1 ∧ 1 < n7 from q_4077 h6) (show inr (z25) from gz25) (fun σ H Oₚ => ?_)
        have O := OUT_trans O Oₚ
        have cAu26 : SA oz_R9clsl_0 A (updA A_c309 7 (1) (z25)) := SA_upd (cA_c309) rfl
        have mAu26 := SAm_of cAu26 oz_R9cls_3
        refine Ew_of (pcₚ := 312) (fun _ => x_iload_n rfl lc309_3) ?_
        refine Ew_of (pcₚ := 313) (fun _ => x_iconst rfl) ?_
        refine w_icmpne (t := 337) rfl rfl (show inr (3) from q_66) (show inr (4) from q_2) (fun b27 => ?_) (fun b27 => ?_)
        · exact hc337  _ _ _ _  (lc309_0) (lc309_1) H O (SF_trans (SF_trans (SF_trans (SF_refl) (SF_gluc (ι := oz_R9clsl_3) oz_R9cls_6 hS19 eF19 (by decide +kernel)) (any_sub (lₚ := []) (by decide +kernel))) (SF_gluc (ι := oz_R9clsl_2) oz_R9cls_5 hS24 eF24 (by decide +kernel)) (any_sub (lₚ := []) (by decide +kernel))) hS_c309 (any_sub (by decide +kernel))) (SA_upd (SA_trans (SA_trans (SA_upd (SA_trans (SA_refl) (SA_gluc (ι := oz_R9clsl_3) oz_R9cls_6 hA19 eA19 (by decide +kernel)) (any_subA (lₚ := []) (by decide +kernel))) rfl) (SA_gluc (ι := oz_R9clsl_2) oz_R9cls_5 hA24 eA24 (by decide +kernel)) (any_subA (lₚ := []) (by decide +kernel))) hA_c309 (any_subA (by decide +kernel))) rfl)     (show 0 ≤ (u2_1) ∧ (u2_1) ≤ (n3) ∧ (n3) ≤ 65536 from h2)
        · exact absurd b27 (by omega)
      refine w_icmple (t := 308) rfl rfl (show inr (u2_1) from q_884 h2) (show inr (z24) from pz24_0) (fun b28 => ?_) (fun b28 => ?_)
      · refine Ew_of (pcₚ := 309) (fun _ => x_iconst rfl) ?_
        exact hc309 (0) _ _ _ _  (rk_o (hl0) rfl rfl) (rk_o (hl1) rfl rfl) (rk_o (hl3) rfl rfl) H O (SF_refl) (SA_refl)     (show inr (0) from q_20) (show ((u2_1) ≤ (z24) ∧ (0) = (0)) ∨ ((u2_1) > (z24) ∧ (0) = (1)) from q_2508 b28)
      · refine Ew_of (pcₚ := 305) (fun _ => x_iconst rfl) ?_
        refine Ew_of (pcₚ := 309) (fun _ => x_goto rfl rfl) ?_
        exact hc309 (1) _ _ _ _  (rk_o (hl0) rfl rfl) (rk_o (hl1) rfl rfl) (rk_o (hl3) rfl rfl) H O (SF_refl) (SA_refl)     (show inr (1) from q_23) (show ((u2_1) ≤ (z24) ∧ (1) = (0)) ∨ ((u2_1) > (z24) ∧ (1) = (1)) from q_2509 b28)
    · refine Ew_of (pcₚ := 271) (fun _ => x_iconst rfl) ?_
      refine Ew_of (pcₚ := 275) (fun _ => x_goto rfl rfl) ?_
      refine w_iaddA rfl (fun z29 gz29 => ?_)
      refine v_sI H (o := 7) (z := z29) rfl rfl rfl rfl (n := n7) (en7) (show 0 ≤ 0 ∧ 0 < n7 from q_4047 (HIDe r7) h6) (show inr (z29) from gz29) (fun σ H Oₚ => ?_)
      have O := OUT_trans O Oₚ
      have cAu30 : SA oz_R9clsl_0 A (updA A19 7 (0) (z29)) := SA_upd (cA19) rfl
      have mAu30 := SAm_of cAu30 oz_R9cls_3
      refine Ew_of (pcₚ := 278) (fun _ => x_aload_n rfl (rk_o (hl0) rfl rfl)) ?_
      refine v_g H (o := 0) (v := .ref (D 7)) rfl rfl rfl rfl rfl (vrf ((mF19 0 16 rfl).trans (pf7))) ?_
      refine Ew_of (pcₚ := 282) (fun _ => x_iconst rfl) ?_
      refine Ew_of (pcₚ := 283) (fun _ => x_dup2 rfl rfl rfl) ?_
      refine v_lI H (o := 7) rfl rfl rfl rfl (n := n7) (en7) (show 0 ≤ 1 ∧ 1 < n7 from q_4077 h6) (fun v31 ev31 (qv31 : HID _) => ?_)
      have ev31 : (upd1 (A 7) (0) (z29)) (1) = v31 := (congrFun (congrArg (fun q => upd1 q (0) (z29)) ((show A19 7 = A 7 from (eA19 7)))) (1)).symm.trans ev31
      refine Ew_of (pcₚ := 285) (fun _ => x_aload_n rfl (rk_o (hl0) rfl rfl)) ?_
      refine v_g H (o := 0) (v := .ref (D 2)) rfl rfl rfl rfl rfl (vrf ((mF19 0 5 rfl).trans (pf2))) ?_
      refine v_g H (o := 2) (v := I (u2_1)) rfl rfl rfl rfl rfl (congrArg (fun z : Int => I z) (((mF19 2 1 rfl).trans (eu2_1)) : F19 2 1 = u2_1)) ?_
      refine Ew_of (pcₚ := 292) (fun _ => x_aload_n rfl (rk_o (hl0) rfl rfl)) ?_
      refine Ew_of (pcₚ := 293) (fun _ => x_iload_n rfl (rk_o (hl3) rfl rfl)) ?_
      refine Ew_of (pcₚ := 295) (fun _ => x_aload rfl (rk_o (hl4) rfl rfl)) ?_
      refine v_g H (o := 1) (v := I (u1_1)) rfl rfl rfl rfl rfl (congrArg (fun z : Int => I z) (((mF19 1 1 rfl).trans (eu1_1)) : F19 1 1 = u1_1)) ?_
      refine v_inv H (o := 0) rfl rfl rfl rfl rfl rfl (by rfl) (C34 (D := puc 4096 D) (N := puc 4096 N) (HW_subc H oz_R9cls_14 oz_R9cls_5) ((mF19 0 1 rfl).trans (pf8)) (n8) (en8) (w8) ((funext (mAu30 8 rfl)).trans (ew8)) (show inr (3) from q_66) (show inr (u1_1) from q_3077 h4 h5) (show 0 ≤ (u1_1) ∧ (u1_1) ≤ 16384 from q_4318 h4 h5) (show 1 ≤ ((w8)) 2 ∧ ((w8)) 2 ≤ 65536 from h7) (show 0 ≤ ((w8)) 8 ∧ ((w8)) 8 ≤ 11 from h8) (show 0 ≤ ((w8)) 6 ∧ ((w8)) 6 ≤ 255 from h9) (show (n8) = 10 from h10) (fun z32 σ32 F32ₚ A32ₚ Hₚ Oₚ hS32 hA32 pz32_0 => ⟨rfl, ?_⟩))
      refine v_backc (c := c) (s := s) H oz_R9cls_14 oz_R9cls_5 Hₚ Oₚ (fun F32 A32 H Oₚ eF32 eA32 => ?_)
      have O := OUT_trans O Oₚ
      -- PackHouse.boundOf
      have cF32 : SF oz_R9clsl_1 F F32 := SF_trans (cF19) (SF_gluc (ι := oz_R9clsl_2) oz_R9cls_5 hS32 eF32 (by decide +kernel)) (any_sub (lₚ := []) (by decide +kernel))
      have mF32 := SFm_of cF32 oz_R9cls_4
      have cA32 : SA oz_R9clsl_0 A A32 := SA_trans (cAu30) (SA_gluc (ι := oz_R9clsl_2) oz_R9cls_5 hA32 eA32 (by decide +kernel)) (any_subA (lₚ := []) (by decide +kernel))
      have mA32 := SAm_of cA32 oz_R9cls_3
      have hc309 : ∀ (tc309_0 : Int), ∀ (ls : rO) (σ : rS) (F_c309 : hF) (A_c309 : hA) , rlook ls 0 = some (.ref (D 0)) → rlook ls 1 = some (I (x1)) → rlook ls 3 = some (I (3)) → HW V17_ve3 σ D N F_c309 A_c309 → OUT (V17_ve3).length D N σE c s D N σ c s → SF [] F32 F_c309 → SA [] A32 A_c309 → (inr (tc309_0)) → (((u2_1) ≤ (z32) ∧ (tc309_0) = (0)) ∨ ((u2_1) > (z32) ∧ (tc309_0) = (1))) → Ew 17 (d + 3) 309 ls [I (tc309_0), I (v31), I (1), .ref (D 7)] σ c s Q := by
       as_aux_lemma =>
        intro tc309_0 ls σ F_c309 A_c309  lc309_0 lc309_1 lc309_3 H O hS_c309 hA_c309     jc309_0 jc309_1
        have cF_c309 : SF oz_R9clsl_1 F F_c309 := SF_trans (cF32) hS_c309 (any_sub (by decide +kernel))
        have mF_c309 := SFm_of cF_c309 oz_R9cls_4
        have cA_c309 : SA oz_R9clsl_0 A A_c309 := SA_trans (cA32) hA_c309 (any_subA (by decide +kernel))
        have mA_c309 := SAm_of cA_c309 oz_R9cls_3
        refine w_iaddA rfl (fun z33 gz33 => ?_)
        refine v_sI H (o := 7) (z := z33) rfl rfl rfl rfl (n := n7) (en7) (show 0 ≤ 1 ∧ 1 < n7 from q_4077 h6) (show inr (z33) from gz33) (fun σ H Oₚ => ?_)
        have O := OUT_trans O Oₚ
        have cAu34 : SA oz_R9clsl_0 A (updA A_c309 7 (1) (z33)) := SA_upd (cA_c309) rfl
        have mAu34 := SAm_of cAu34 oz_R9cls_3
        refine Ew_of (pcₚ := 312) (fun _ => x_iload_n rfl lc309_3) ?_
        refine Ew_of (pcₚ := 313) (fun _ => x_iconst rfl) ?_
        refine w_icmpne (t := 337) rfl rfl (show inr (3) from q_66) (show inr (4) from q_2) (fun b35 => ?_) (fun b35 => ?_)
        · exact hc337  _ _ _ _  (lc309_0) (lc309_1) H O (SF_trans (SF_trans (SF_trans (SF_refl) (SF_gluc (ι := oz_R9clsl_3) oz_R9cls_6 hS19 eF19 (by decide +kernel)) (any_sub (lₚ := []) (by decide +kernel))) (SF_gluc (ι := oz_R9clsl_2) oz_R9cls_5 hS32 eF32 (by decide +kernel)) (any_sub (lₚ := []) (by decide +kernel))) hS_c309 (any_sub (by decide +kernel))) (SA_upd (SA_trans (SA_trans (SA_upd (SA_trans (SA_refl) (SA_gluc (ι := oz_R9clsl_3) oz_R9cls_6 hA19 eA19 (by decide +kernel)) (any_subA (lₚ := []) (by decide +kernel))) rfl) (SA_gluc (ι := oz_R9clsl_2) oz_R9cls_5 hA32 eA32 (by decide +kernel)) (any_subA (lₚ := []) (by decide +kernel))) hA_c309 (any_subA (by decide +kernel))) rfl)     (show 0 ≤ (u2_1) ∧ (u2_1) ≤ (n3) ∧ (n3) ≤ 65536 from h2)
        · exact absurd b35 (by omega)
      refine w_icmple (t := 308) rfl rfl (show inr (u2_1) from q_884 h2) (show inr (z32) from pz32_0) (fun b36 => ?_) (fun b36 => ?_)
      · refine Ew_of (pcₚ := 309) (fun _ => x_iconst rfl) ?_
        exact hc309 (0) _ _ _ _  (rk_o (hl0) rfl rfl) (rk_o (hl1) rfl rfl) (rk_o (hl3) rfl rfl) H O (SF_refl) (SA_refl)     (show inr (0) from q_20) (show ((u2_1) ≤ (z32) ∧ (0) = (0)) ∨ ((u2_1) > (z32) ∧ (0) = (1)) from q_2508 b36)
      · refine Ew_of (pcₚ := 305) (fun _ => x_iconst rfl) ?_
        refine Ew_of (pcₚ := 309) (fun _ => x_goto rfl rfl) ?_
        exact hc309 (1) _ _ _ _  (rk_o (hl0) rfl rfl) (rk_o (hl1) rfl rfl) (rk_o (hl3) rfl rfl) H O (SF_refl) (SA_refl)     (show inr (1) from q_23) (show ((u2_1) ≤ (z32) ∧ (1) = (0)) ∨ ((u2_1) > (z32) ∧ (1) = (1)) from q_2509 b36)
abbrev V17_vg : vV := [(0, 0, [(4, 0), (4, 0), (4, 0), (4, 0), (4, 0), (4, 0), (4, 0), (4, 0), (4, 0), (4, 0), (4, 0), (4, 0), (4, 0), (4, 0), (4, 0), (4, 0), (4, 0), (0, 0), (0, 0)]), (1, 4, []), (0, 7, [(4, 0), (0, 0), (1, 0), (0, 0), (0, 0)]), (1, 0, []), (0, 7, [(4, 0), (0, 0), (1, 0), (0, 0), (0, 0)]), (1, 0, []), (0, 7, [(4, 0), (0, 0), (1, 0), (0, 0), (0, 0)]), (1, 0, []), (0, 7, [(4, 0), (0, 0), (1, 0), (0, 0), (0, 0)]), (1, 0, []), (0, 7, [(4, 0), (0, 0), (1, 0), (0, 0), (0, 0)]), (1, 0, [])]
theorem len_V17_vg_oz_R9cls : (V17_vg).length = 12 := by decide +kernel
theorem oz_R9cls_17 : vsub V17_vg V158_Row [2, 10, 3, 11] = true := by decide +kernel
theorem oz_R9cls_18 : vmov V17_vg [2, 10, 3, 11] [2] = true := by decide +kernel
theorem oz_R9cls_19 : vsub V17_vg V158_Row [4, 10, 5, 11] = true := by decide +kernel
theorem oz_R9cls_20 : vmov V17_vg [4, 10, 5, 11] [2] = true := by decide +kernel
theorem oz_R9cls_21 : vsub V17_vg V158_Row [6, 10, 7, 11] = true := by decide +kernel
theorem oz_R9cls_22 : vmov V17_vg [6, 10, 7, 11] [2] = true := by decide +kernel
theorem oz_R9cls_23 : vsub V17_vg V158_Row [8, 10, 9, 11] = true := by decide +kernel
theorem oz_R9cls_24 : vmov V17_vg [8, 10, 9, 11] [2] = true := by decide +kernel
def oz_R9clsl_4 : List (Nat × Nat) := [(2, 0), (2, 1), (2, 2), (2, 3), (2, 4), (4, 0), (4, 1), (4, 2), (4, 3), (4, 4), (6, 0), (6, 1), (6, 2), (6, 3), (6, 4), (8, 0), (8, 1), (8, 2), (8, 3), (8, 4)]
theorem oz_R9cls_25 : (oz_R9clsl_4).all (fun p => !tbz 3589554766356802058325290689066312247140827750128844236490294584920361899393024 (Nat.add (Nat.mul 32 p.1) p.2)) = true := by decide +kernel
def oz_R9clsl_5 : List Nat := [3, 5, 7, 9]
theorem oz_R9cls_26 : (oz_R9clsl_5).all (fun p => !tbz 680 p) = true := by decide +kernel
def oz_R9clsl_6 : List Nat := [2, 10, 3, 11]
theorem oz_R9cls_27 : okc oz_R9clsl_6 1477186562 = true := by decide +kernel
def oz_R9clsl_7 : List Nat := [4, 10, 5, 11]
theorem oz_R9cls_28 : okc oz_R9clsl_7 1477710852 = true := by decide +kernel
def oz_R9clsl_8 : List Nat := [6, 10, 7, 11]
theorem oz_R9cls_29 : okc oz_R9clsl_8 1478235142 = true := by decide +kernel
def oz_R9clsl_9 : List Nat := [8, 10, 9, 11]
theorem oz_R9cls_30 : okc oz_R9clsl_9 1478759432 = true := by decide +kernel
/-- PackHouse.write: this, this.rows, this.rows.0, this.rows.0.bytes, this.rows.1, this.rows.1.bytes, this.rows.2, this.rows.2.bytes, this.rows.3, this.rows.3.bytes, this.written, this.written.bytes -/
theorem C17_vg {σE : rS} {D N : Nat → Nat} {F : hF} {A : hA} {d c s : Nat} {Q : wQ} (H : HW V17_vg σE D N F A) {x1 : Int} (pf1 : HID (F 0 0 = (D 1 : Int))) (pf2 : HID (A 1 0 = (D 2 : Int))) (pf3 : HID (F 2 0 = (D 3 : Int))) (pf4 : HID (A 1 1 = (D 4 : Int))) (pf5 : HID (F 4 0 = (D 5 : Int))) (pf6 : HID (A 1 2 = (D 6 : Int))) (pf7 : HID (F 6 0 = (D 7 : Int))) (pf8 : HID (A 1 3 = (D 8 : Int))) (pf9 : HID (F 8 0 = (D 9 : Int))) (pf10 : HID (F 0 5 = (D 10 : Int))) (pf11 : HID (F 10 0 = (D 11 : Int))) (n1 : Int) (en1 : HID ((N 1 : Int) = n1)) (n3 : Int) (en3 : HID ((N 3 : Int) = n3)) (n5 : Int) (en5 : HID ((N 5 : Int) = n5)) (n7 : Int) (en7 : HID ((N 7 : Int) = n7)) (n9 : Int) (en9 : HID ((N 9 : Int) = n9)) (n11 : Int) (en11 : HID ((N 11 : Int) = n11)) (u2_1 : Int) (eu2_1 : HID (F 2 1 = u2_1)) (u4_1 : Int) (eu4_1 : HID (F 4 1 = u4_1)) (u6_1 : Int) (eu6_1 : HID (F 6 1 = u6_1)) (u8_1 : Int) (eu8_1 : HID (F 8 1 = u8_1)) (u10_1 : Int) (eu10_1 : HID (F 10 1 = u10_1)) {ls : rO} (hl0 : rlook ls 0 = some (.ref (D 0))) (hl1 : rlook ls 1 = some (I (x1))) (h0 : inr (x1)) (h1 : (n1) = 4) (h2 : 0 ≤ (u2_1) ∧ (u2_1) ≤ (n3) ∧ (n3) ≤ 65536) (h3 : 0 ≤ (u4_1) ∧ (u4_1) ≤ (n5) ∧ (n5) ≤ 65536) (h4 : 0 ≤ (u6_1) ∧ (u6_1) ≤ (n7) ∧ (n7) ≤ 65536) (h5 : 0 ≤ (u8_1) ∧ (u8_1) ≤ (n9) ∧ (n9) ≤ 65536) (h6 : 0 ≤ (u10_1) ∧ (u10_1) ≤ (n11) ∧ (n11) ≤ 65536) (h7 : 0 ≤ (x1) ∧ (x1) ≤ 3) (k : ∀ (z : Int) (σ : rS) (Dₚ Nₚ : Nat → Nat) (Fₚ : hF) (Aₚ : hA) (cₚ sₚ : Nat), HW V17_vg σ Dₚ Nₚ Fₚ Aₚ → OUT (V17_vg).length D N σE c s Dₚ Nₚ σ cₚ sₚ → SD [3, 5, 7, 9] D Dₚ → SD [3, 5, 7, 9] N Nₚ → SF [(2, 0), (2, 1), (2, 2), (2, 3), (2, 4), (4, 0), (4, 1), (4, 2), (4, 3), (4, 4), (6, 0), (6, 1), (6, 2), (6, 3), (6, 4), (8, 0), (8, 1), (8, 2), (8, 3), (8, 4)] F Fₚ → SA [3, 5, 7, 9] A Aₚ → Fₚ 2 0 = (Dₚ 3 : Int) → Fₚ 4 0 = (Dₚ 5 : Int) → Fₚ 6 0 = (Dₚ 7 : Int) → Fₚ 8 0 = (Dₚ 9 : Int) → ∀ m3 : Int, (Nₚ 3 : Int) = m3 → ∀ m5 : Int, (Nₚ 5 : Int) = m5 → ∀ m7 : Int, (Nₚ 7 : Int) = m7 → ∀ m9 : Int, (Nₚ 9 : Int) = m9 → ∀ y2_1 : Int, Fₚ 2 1 = y2_1 → ∀ y4_1 : Int, Fₚ 4 1 = y4_1 → ∀ y6_1 : Int, Fₚ 6 1 = y6_1 → ∀ y8_1 : Int, Fₚ 8 1 = y8_1 → (inr (z)) → (0 ≤ (y2_1) ∧ (y2_1) ≤ (m3) ∧ (m3) ≤ 65536) → (0 ≤ (y4_1) ∧ (y4_1) ≤ (m5) ∧ (m5) ≤ 65536) → (0 ≤ (y6_1) ∧ (y6_1) ≤ (m7) ∧ (m7) ≤ 65536) → (0 ≤ (y8_1) ∧ (y8_1) ≤ (m9) ∧ (m9) ≤ 65536) → (0 ≤ (u10_1) ∧ (u10_1) ≤ (n11) ∧ (n11) ≤ 65536) → Q (some (I z)) σ cₚ sₚ) : Ew 17 (d + 4) 337 ls [] σE c s Q := by
  have O := OUT_refl (n := (V17_vg).length) (D := D) (N := N) (σ := σE) (c := c) (s := s)
  have HE := H
  have r6 : HID ((0 : Int) ≤ n1 ∧ n1 ≤ 1000000) := nrng (H.nle 1 (ltn len_V17_vg_oz_R9cls rfl)) (show (N 1 : Int) = n1 from en1)
  refine Ew_of (pcₚ := 338) (fun _ => x_aload_n rfl hl0) ?_
  refine v_g H (o := 0) (v := .ref (D 1)) rfl rfl rfl rfl rfl (vrf (pf1)) ?_
  refine Ew_of (pcₚ := 342) (fun _ => x_iload_n rfl hl1) ?_
  rcases (show x1 = 0 ∨ x1 = 1 ∨ x1 = 2 ∨ x1 = 3 by omega) with b12 | b12 | b12 | b12
  · refine v_lR H (o := 1) rfl rfl rfl rfl rfl (n := n1) (en1) (show 0 ≤ x1 ∧ x1 < n1 from q_4246 (HIDe r6) b12 h1 h7) (z := ((D 2 : Nat) : Int)) (v := .ref (D 2)) ((congrArg (A 1) b12).trans (pf2)) (vrf rfl) ?_
    refine Ew_of (pcₚ := 344) (fun _ => x_aload_n rfl hl0) ?_
    refine v_g H (o := 0) (v := .ref (D 10)) rfl rfl rfl rfl rfl (vrf (pf10)) ?_
    refine v_inv H (o := 2) rfl rfl rfl rfl rfl rfl (by rfl) (C158_Row (D := puc 1477186562 D) (N := puc 1477186562 N) (HW_subc H oz_R9cls_17 oz_R9cls_27) (pf3) (pf11) (n3) (en3) (n11) (en11) (u2_1) ((eu2_1)) (u10_1) ((eu10_1)) (show 0 ≤ (u2_1) ∧ (u2_1) ≤ (n3) ∧ (n3) ≤ 65536 from h2) (show 0 ≤ (u10_1) ∧ (u10_1) ≤ (n11) ∧ (n11) ≤ 65536 from h6) (fun σ13 D13ₚ N13ₚ F13ₚ A13ₚ c13 s13 Hₚ Oₚ hD13 hN13 hS13 hA13 (pm13_2 : HID _) m13_2 (em13_2 : HID _) y13_0_1 (ey13_0_1 : HID _) pz13_0 pz13_1 => ⟨rfl, ?_⟩))
    refine v_backMc (c := c) (s := s) H oz_R9cls_17 oz_R9cls_27 Hₚ Oₚ hD13 oz_R9cls_18 (fun D13 N13 F13 A13 H Oₚ eD13 eN13 eF13 eA13 => ?_)
    have O := OUT_trans O Oₚ
    -- Row.become
    have cF13 : SF oz_R9clsl_4 F F13 := SF_trans (SF_refl) (SF_gluc (ι := oz_R9clsl_6) oz_R9cls_27 hS13 eF13 (by decide +kernel)) (any_sub (lₚ := [(2, 0), (2, 1), (2, 2), (2, 3), (2, 4)]) (by decide +kernel))
    have mF13 := SFm_of cF13 oz_R9cls_25
    have cA13 : SA oz_R9clsl_5 A A13 := SA_trans (SA_refl) (SA_gluc (ι := oz_R9clsl_6) oz_R9cls_27 hA13 eA13 (by decide +kernel)) (any_subA (lₚ := [3]) (by decide +kernel))
    have mA13 := SAm_of cA13 oz_R9cls_26
    have cD13 : SD oz_R9clsl_5 D D13 := SD_trans (SD_refl) (SD_gluc (ι := oz_R9clsl_6) oz_R9cls_27 hD13 eD13 (by decide +kernel)) (any_subA (lₚ := [3]) (by decide +kernel))
    have mD13 := SDm_of cD13 oz_R9cls_26
    have cN13 : SD oz_R9clsl_5 N N13 := SD_trans (SD_refl) (SD_gluc (ι := oz_R9clsl_6) oz_R9cls_27 hN13 eN13 (by decide +kernel)) (any_subA (lₚ := [3]) (by decide +kernel))
    have mN13 := SDm_of cN13 oz_R9cls_26
    have pf13_2_0 : HID (F13 2 0 = (D13 3 : Int)) := (eF13 2 0).trans (pm13_2.trans (congrArg (fun q : Nat => (q : Int)) (eD13 3).symm))
    have pf13_4_0 : HID (F13 4 0 = (D13 5 : Int)) := ((show F13 4 0 = F 4 0 from (eF13 4 0))).trans ((pf5).trans (congrArg (fun q : Nat => (q : Int)) ((show D13 5 = D 5 from (eD13 5))).symm))
    have pf13_6_0 : HID (F13 6 0 = (D13 7 : Int)) := ((show F13 6 0 = F 6 0 from (eF13 6 0))).trans ((pf7).trans (congrArg (fun q : Nat => (q : Int)) ((show D13 7 = D 7 from (eD13 7))).symm))
    have pf13_8_0 : HID (F13 8 0 = (D13 9 : Int)) := ((show F13 8 0 = F 8 0 from (eF13 8 0))).trans ((pf9).trans (congrArg (fun q : Nat => (q : Int)) ((show D13 9 = D 9 from (eD13 9))).symm))
    refine Ew_of (pcₚ := 351) (fun _ => x_aload_n rfl hl0) ?_
    refine Ew_stk (congrArg (fun qz : Nat => ([.ref qz] : List Value)) (show D13 0 = D 0 from mD13 0 rfl).symm) ?_
    refine v_g H (o := 0) (v := .ref (D13 10)) rfl rfl rfl rfl rfl (vrf ((mF13 0 5 rfl).trans ((pf10).trans (congrArg (fun q : Nat => (q : Int)) (mD13 10 rfl).symm)))) ?_
    refine v_g H (o := 10) (v := I (u10_1)) rfl rfl rfl rfl rfl (congrArg (fun z : Int => I z) (((mF13 10 1 rfl).trans (eu10_1)) : F13 10 1 = u10_1)) ?_
    exact w_ireturn rfl (k (u10_1) _ _ _ _ _ _ _ H O (cD13) (cN13) (cF13) (cA13) (pf13_2_0) (pf13_4_0) (pf13_6_0) (pf13_8_0) (m13_2) ((congrArg (fun q : Nat => (q : Int)) (eN13 3)).trans em13_2) (n5) ((congrArg (fun q : Nat => (q : Int)) (show N13 5 = N 5 from (eN13 5))).trans (en5)) (n7) ((congrArg (fun q : Nat => (q : Int)) (show N13 7 = N 7 from (eN13 7))).trans (en7)) (n9) ((congrArg (fun q : Nat => (q : Int)) (show N13 9 = N 9 from (eN13 9))).trans (en9)) (y13_0_1) (((eF13 2 1).trans ey13_0_1)) (u4_1) ((((show F13 4 1 = F 4 1 from (eF13 4 1))).trans (eu4_1))) (u6_1) ((((show F13 6 1 = F 6 1 from (eF13 6 1))).trans (eu6_1))) (u8_1) ((((show F13 8 1 = F 8 1 from (eF13 8 1))).trans (eu8_1))) (show inr (u10_1) from q_884 h6) (show 0 ≤ (y13_0_1) ∧ (y13_0_1) ≤ (m13_2) ∧ (m13_2) ≤ 65536 from pz13_0) (show 0 ≤ (u4_1) ∧ (u4_1) ≤ (n5) ∧ (n5) ≤ 65536 from h3) (show 0 ≤ (u6_1) ∧ (u6_1) ≤ (n7) ∧ (n7) ≤ 65536 from h4) (show 0 ≤ (u8_1) ∧ (u8_1) ≤ (n9) ∧ (n9) ≤ 65536 from h5) (show 0 ≤ (u10_1) ∧ (u10_1) ≤ (n11) ∧ (n11) ≤ 65536 from h6))
  · refine v_lR H (o := 1) rfl rfl rfl rfl rfl (n := n1) (en1) (show 0 ≤ x1 ∧ x1 < n1 from q_4247 (HIDe r6) b12 h1 h7) (z := ((D 4 : Nat) : Int)) (v := .ref (D 4)) ((congrArg (A 1) b12).trans (pf4)) (vrf rfl) ?_
    refine Ew_of (pcₚ := 344) (fun _ => x_aload_n rfl hl0) ?_
    refine v_g H (o := 0) (v := .ref (D 10)) rfl rfl rfl rfl rfl (vrf (pf10)) ?_
    refine v_inv H (o := 4) rfl rfl rfl rfl rfl rfl (by rfl) (C158_Row (D := puc 1477710852 D) (N := puc 1477710852 N) (HW_subc H oz_R9cls_19 oz_R9cls_28) (pf5) (pf11) (n5) (en5) (n11) (en11) (u4_1) ((eu4_1)) (u10_1) ((eu10_1)) (show 0 ≤ (u4_1) ∧ (u4_1) ≤ (n5) ∧ (n5) ≤ 65536 from h3) (show 0 ≤ (u10_1) ∧ (u10_1) ≤ (n11) ∧ (n11) ≤ 65536 from h6) (fun σ16 D16ₚ N16ₚ F16ₚ A16ₚ c16 s16 Hₚ Oₚ hD16 hN16 hS16 hA16 (pm16_2 : HID _) m16_2 (em16_2 : HID _) y16_0_1 (ey16_0_1 : HID _) pz16_0 pz16_1 => ⟨rfl, ?_⟩))
    refine v_backMc (c := c) (s := s) H oz_R9cls_19 oz_R9cls_28 Hₚ Oₚ hD16 oz_R9cls_20 (fun D16 N16 F16 A16 H Oₚ eD16 eN16 eF16 eA16 => ?_)
    have O := OUT_trans O Oₚ
    -- Row.become
    have cF16 : SF oz_R9clsl_4 F F16 := SF_trans (SF_refl) (SF_gluc (ι := oz_R9clsl_7) oz_R9cls_28 hS16 eF16 (by decide +kernel)) (any_sub (lₚ := [(4, 0), (4, 1), (4, 2), (4, 3), (4, 4)]) (by decide +kernel))
    have mF16 := SFm_of cF16 oz_R9cls_25
    have cA16 : SA oz_R9clsl_5 A A16 := SA_trans (SA_refl) (SA_gluc (ι := oz_R9clsl_7) oz_R9cls_28 hA16 eA16 (by decide +kernel)) (any_subA (lₚ := [5]) (by decide +kernel))
    have mA16 := SAm_of cA16 oz_R9cls_26
    have cD16 : SD oz_R9clsl_5 D D16 := SD_trans (SD_refl) (SD_gluc (ι := oz_R9clsl_7) oz_R9cls_28 hD16 eD16 (by decide +kernel)) (any_subA (lₚ := [5]) (by decide +kernel))
    have mD16 := SDm_of cD16 oz_R9cls_26
    have cN16 : SD oz_R9clsl_5 N N16 := SD_trans (SD_refl) (SD_gluc (ι := oz_R9clsl_7) oz_R9cls_28 hN16 eN16 (by decide +kernel)) (any_subA (lₚ := [5]) (by decide +kernel))
    have mN16 := SDm_of cN16 oz_R9cls_26
    have pf16_2_0 : HID (F16 2 0 = (D16 3 : Int)) := ((show F16 2 0 = F 2 0 from (eF16 2 0))).trans ((pf3).trans (congrArg (fun q : Nat => (q : Int)) ((show D16 3 = D 3 from (eD16 3))).symm))
    have pf16_4_0 : HID (F16 4 0 = (D16 5 : Int)) := (eF16 4 0).trans (pm16_2.trans (congrArg (fun q : Nat => (q : Int)) (eD16 5).symm))
    have pf16_6_0 : HID (F16 6 0 = (D16 7 : Int)) := ((show F16 6 0 = F 6 0 from (eF16 6 0))).trans ((pf7).trans (congrArg (fun q : Nat => (q : Int)) ((show D16 7 = D 7 from (eD16 7))).symm))
    have pf16_8_0 : HID (F16 8 0 = (D16 9 : Int)) := ((show F16 8 0 = F 8 0 from (eF16 8 0))).trans ((pf9).trans (congrArg (fun q : Nat => (q : Int)) ((show D16 9 = D 9 from (eD16 9))).symm))
    refine Ew_of (pcₚ := 351) (fun _ => x_aload_n rfl hl0) ?_
    refine Ew_stk (congrArg (fun qz : Nat => ([.ref qz] : List Value)) (show D16 0 = D 0 from mD16 0 rfl).symm) ?_
    refine v_g H (o := 0) (v := .ref (D16 10)) rfl rfl rfl rfl rfl (vrf ((mF16 0 5 rfl).trans ((pf10).trans (congrArg (fun q : Nat => (q : Int)) (mD16 10 rfl).symm)))) ?_
    refine v_g H (o := 10) (v := I (u10_1)) rfl rfl rfl rfl rfl (congrArg (fun z : Int => I z) (((mF16 10 1 rfl).trans (eu10_1)) : F16 10 1 = u10_1)) ?_
    exact w_ireturn rfl (k (u10_1) _ _ _ _ _ _ _ H O (cD16) (cN16) (cF16) (cA16) (pf16_2_0) (pf16_4_0) (pf16_6_0) (pf16_8_0) (n3) ((congrArg (fun q : Nat => (q : Int)) (show N16 3 = N 3 from (eN16 3))).trans (en3)) (m16_2) ((congrArg (fun q : Nat => (q : Int)) (eN16 5)).trans em16_2) (n7) ((congrArg (fun q : Nat => (q : Int)) (show N16 7 = N 7 from (eN16 7))).trans (en7)) (n9) ((congrArg (fun q : Nat => (q : Int)) (show N16 9 = N 9 from (eN16 9))).trans (en9)) (u2_1) ((((show F16 2 1 = F 2 1 from (eF16 2 1))).trans (eu2_1))) (y16_0_1) (((eF16 4 1).trans ey16_0_1)) (u6_1) ((((show F16 6 1 = F 6 1 from (eF16 6 1))).trans (eu6_1))) (u8_1) ((((show F16 8 1 = F 8 1 from (eF16 8 1))).trans (eu8_1))) (show inr (u10_1) from q_884 h6) (show 0 ≤ (u2_1) ∧ (u2_1) ≤ (n3) ∧ (n3) ≤ 65536 from h2) (show 0 ≤ (y16_0_1) ∧ (y16_0_1) ≤ (m16_2) ∧ (m16_2) ≤ 65536 from pz16_0) (show 0 ≤ (u6_1) ∧ (u6_1) ≤ (n7) ∧ (n7) ≤ 65536 from h4) (show 0 ≤ (u8_1) ∧ (u8_1) ≤ (n9) ∧ (n9) ≤ 65536 from h5) (show 0 ≤ (u10_1) ∧ (u10_1) ≤ (n11) ∧ (n11) ≤ 65536 from h6))
  · refine v_lR H (o := 1) rfl rfl rfl rfl rfl (n := n1) (en1) (show 0 ≤ x1 ∧ x1 < n1 from q_4248 (HIDe r6) b12 h1 h7) (z := ((D 6 : Nat) : Int)) (v := .ref (D 6)) ((congrArg (A 1) b12).trans (pf6)) (vrf rfl) ?_
    refine Ew_of (pcₚ := 344) (fun _ => x_aload_n rfl hl0) ?_
    refine v_g H (o := 0) (v := .ref (D 10)) rfl rfl rfl rfl rfl (vrf (pf10)) ?_
    refine v_inv H (o := 6) rfl rfl rfl rfl rfl rfl (by rfl) (C158_Row (D := puc 1478235142 D) (N := puc 1478235142 N) (HW_subc H oz_R9cls_21 oz_R9cls_29) (pf7) (pf11) (n7) (en7) (n11) (en11) (u6_1) ((eu6_1)) (u10_1) ((eu10_1)) (show 0 ≤ (u6_1) ∧ (u6_1) ≤ (n7) ∧ (n7) ≤ 65536 from h4) (show 0 ≤ (u10_1) ∧ (u10_1) ≤ (n11) ∧ (n11) ≤ 65536 from h6) (fun σ19 D19ₚ N19ₚ F19ₚ A19ₚ c19 s19 Hₚ Oₚ hD19 hN19 hS19 hA19 (pm19_2 : HID _) m19_2 (em19_2 : HID _) y19_0_1 (ey19_0_1 : HID _) pz19_0 pz19_1 => ⟨rfl, ?_⟩))
    refine v_backMc (c := c) (s := s) H oz_R9cls_21 oz_R9cls_29 Hₚ Oₚ hD19 oz_R9cls_22 (fun D19 N19 F19 A19 H Oₚ eD19 eN19 eF19 eA19 => ?_)
    have O := OUT_trans O Oₚ
    -- Row.become
    have cF19 : SF oz_R9clsl_4 F F19 := SF_trans (SF_refl) (SF_gluc (ι := oz_R9clsl_8) oz_R9cls_29 hS19 eF19 (by decide +kernel)) (any_sub (lₚ := [(6, 0), (6, 1), (6, 2), (6, 3), (6, 4)]) (by decide +kernel))
    have mF19 := SFm_of cF19 oz_R9cls_25
    have cA19 : SA oz_R9clsl_5 A A19 := SA_trans (SA_refl) (SA_gluc (ι := oz_R9clsl_8) oz_R9cls_29 hA19 eA19 (by decide +kernel)) (any_subA (lₚ := [7]) (by decide +kernel))
    have mA19 := SAm_of cA19 oz_R9cls_26
    have cD19 : SD oz_R9clsl_5 D D19 := SD_trans (SD_refl) (SD_gluc (ι := oz_R9clsl_8) oz_R9cls_29 hD19 eD19 (by decide +kernel)) (any_subA (lₚ := [7]) (by decide +kernel))
    have mD19 := SDm_of cD19 oz_R9cls_26
    have cN19 : SD oz_R9clsl_5 N N19 := SD_trans (SD_refl) (SD_gluc (ι := oz_R9clsl_8) oz_R9cls_29 hN19 eN19 (by decide +kernel)) (any_subA (lₚ := [7]) (by decide +kernel))
    have mN19 := SDm_of cN19 oz_R9cls_26
    have pf19_2_0 : HID (F19 2 0 = (D19 3 : Int)) := ((show F19 2 0 = F 2 0 from (eF19 2 0))).trans ((pf3).trans (congrArg (fun q : Nat => (q : Int)) ((show D19 3 = D 3 from (eD19 3))).symm))
    have pf19_4_0 : HID (F19 4 0 = (D19 5 : Int)) := ((show F19 4 0 = F 4 0 from (eF19 4 0))).trans ((pf5).trans (congrArg (fun q : Nat => (q : Int)) ((show D19 5 = D 5 from (eD19 5))).symm))
    have pf19_6_0 : HID (F19 6 0 = (D19 7 : Int)) := (eF19 6 0).trans (pm19_2.trans (congrArg (fun q : Nat => (q : Int)) (eD19 7).symm))
    have pf19_8_0 : HID (F19 8 0 = (D19 9 : Int)) := ((show F19 8 0 = F 8 0 from (eF19 8 0))).trans ((pf9).trans (congrArg (fun q : Nat => (q : Int)) ((show D19 9 = D 9 from (eD19 9))).symm))
    refine Ew_of (pcₚ := 351) (fun _ => x_aload_n rfl hl0) ?_
    refine Ew_stk (congrArg (fun qz : Nat => ([.ref qz] : List Value)) (show D19 0 = D 0 from mD19 0 rfl).symm) ?_
    refine v_g H (o := 0) (v := .ref (D19 10)) rfl rfl rfl rfl rfl (vrf ((mF19 0 5 rfl).trans ((pf10).trans (congrArg (fun q : Nat => (q : Int)) (mD19 10 rfl).symm)))) ?_
    refine v_g H (o := 10) (v := I (u10_1)) rfl rfl rfl rfl rfl (congrArg (fun z : Int => I z) (((mF19 10 1 rfl).trans (eu10_1)) : F19 10 1 = u10_1)) ?_
    exact w_ireturn rfl (k (u10_1) _ _ _ _ _ _ _ H O (cD19) (cN19) (cF19) (cA19) (pf19_2_0) (pf19_4_0) (pf19_6_0) (pf19_8_0) (n3) ((congrArg (fun q : Nat => (q : Int)) (show N19 3 = N 3 from (eN19 3))).trans (en3)) (n5) ((congrArg (fun q : Nat => (q : Int)) (show N19 5 = N 5 from (eN19 5))).trans (en5)) (m19_2) ((congrArg (fun q : Nat => (q : Int)) (eN19 7)).trans em19_2) (n9) ((congrArg (fun q : Nat => (q : Int)) (show N19 9 = N 9 from (eN19 9))).trans (en9)) (u2_1) ((((show F19 2 1 = F 2 1 from (eF19 2 1))).trans (eu2_1))) (u4_1) ((((show F19 4 1 = F 4 1 from (eF19 4 1))).trans (eu4_1))) (y19_0_1) (((eF19 6 1).trans ey19_0_1)) (u8_1) ((((show F19 8 1 = F 8 1 from (eF19 8 1))).trans (eu8_1))) (show inr (u10_1) from q_884 h6) (show 0 ≤ (u2_1) ∧ (u2_1) ≤ (n3) ∧ (n3) ≤ 65536 from h2) (show 0 ≤ (u4_1) ∧ (u4_1) ≤ (n5) ∧ (n5) ≤ 65536 from h3) (show 0 ≤ (y19_0_1) ∧ (y19_0_1) ≤ (m19_2) ∧ (m19_2) ≤ 65536 from pz19_0) (show 0 ≤ (u8_1) ∧ (u8_1) ≤ (n9) ∧ (n9) ≤ 65536 from h5) (show 0 ≤ (u10_1) ∧ (u10_1) ≤ (n11) ∧ (n11) ≤ 65536 from h6))
  · refine v_lR H (o := 1) rfl rfl rfl rfl rfl (n := n1) (en1) (show 0 ≤ x1 ∧ x1 < n1 from q_4249 b12 h1 h7) (z := ((D 8 : Nat) : Int)) (v := .ref (D 8)) ((congrArg (A 1) b12).trans (pf8)) (vrf rfl) ?_
    refine Ew_of (pcₚ := 344) (fun _ => x_aload_n rfl hl0) ?_
    refine v_g H (o := 0) (v := .ref (D 10)) rfl rfl rfl rfl rfl (vrf (pf10)) ?_
    refine v_inv H (o := 8) rfl rfl rfl rfl rfl rfl (by rfl) (C158_Row (D := puc 1478759432 D) (N := puc 1478759432 N) (HW_subc H oz_R9cls_23 oz_R9cls_30) (pf9) (pf11) (n9) (en9) (n11) (en11) (u8_1) ((eu8_1)) (u10_1) ((eu10_1)) (show 0 ≤ (u8_1) ∧ (u8_1) ≤ (n9) ∧ (n9) ≤ 65536 from h5) (show 0 ≤ (u10_1) ∧ (u10_1) ≤ (n11) ∧ (n11) ≤ 65536 from h6) (fun σ22 D22ₚ N22ₚ F22ₚ A22ₚ c22 s22 Hₚ Oₚ hD22 hN22 hS22 hA22 (pm22_2 : HID _) m22_2 (em22_2 : HID _) y22_0_1 (ey22_0_1 : HID _) pz22_0 pz22_1 => ⟨rfl, ?_⟩))
    refine v_backMc (c := c) (s := s) H oz_R9cls_23 oz_R9cls_30 Hₚ Oₚ hD22 oz_R9cls_24 (fun D22 N22 F22 A22 H Oₚ eD22 eN22 eF22 eA22 => ?_)
    have O := OUT_trans O Oₚ
    -- Row.become
    have cF22 : SF oz_R9clsl_4 F F22 := SF_trans (SF_refl) (SF_gluc (ι := oz_R9clsl_9) oz_R9cls_30 hS22 eF22 (by decide +kernel)) (any_sub (lₚ := [(8, 0), (8, 1), (8, 2), (8, 3), (8, 4)]) (by decide +kernel))
    have mF22 := SFm_of cF22 oz_R9cls_25
    have cA22 : SA oz_R9clsl_5 A A22 := SA_trans (SA_refl) (SA_gluc (ι := oz_R9clsl_9) oz_R9cls_30 hA22 eA22 (by decide +kernel)) (any_subA (lₚ := [9]) (by decide +kernel))
    have mA22 := SAm_of cA22 oz_R9cls_26
    have cD22 : SD oz_R9clsl_5 D D22 := SD_trans (SD_refl) (SD_gluc (ι := oz_R9clsl_9) oz_R9cls_30 hD22 eD22 (by decide +kernel)) (any_subA (lₚ := [9]) (by decide +kernel))
    have mD22 := SDm_of cD22 oz_R9cls_26
    have cN22 : SD oz_R9clsl_5 N N22 := SD_trans (SD_refl) (SD_gluc (ι := oz_R9clsl_9) oz_R9cls_30 hN22 eN22 (by decide +kernel)) (any_subA (lₚ := [9]) (by decide +kernel))
    have mN22 := SDm_of cN22 oz_R9cls_26
    have pf22_2_0 : HID (F22 2 0 = (D22 3 : Int)) := ((show F22 2 0 = F 2 0 from (eF22 2 0))).trans ((pf3).trans (congrArg (fun q : Nat => (q : Int)) ((show D22 3 = D 3 from (eD22 3))).symm))
    have pf22_4_0 : HID (F22 4 0 = (D22 5 : Int)) := ((show F22 4 0 = F 4 0 from (eF22 4 0))).trans ((pf5).trans (congrArg (fun q : Nat => (q : Int)) ((show D22 5 = D 5 from (eD22 5))).symm))
    have pf22_6_0 : HID (F22 6 0 = (D22 7 : Int)) := ((show F22 6 0 = F 6 0 from (eF22 6 0))).trans ((pf7).trans (congrArg (fun q : Nat => (q : Int)) ((show D22 7 = D 7 from (eD22 7))).symm))
    have pf22_8_0 : HID (F22 8 0 = (D22 9 : Int)) := (eF22 8 0).trans (pm22_2.trans (congrArg (fun q : Nat => (q : Int)) (eD22 9).symm))
    refine Ew_of (pcₚ := 351) (fun _ => x_aload_n rfl hl0) ?_
    refine Ew_stk (congrArg (fun qz : Nat => ([.ref qz] : List Value)) (show D22 0 = D 0 from mD22 0 rfl).symm) ?_
    refine v_g H (o := 0) (v := .ref (D22 10)) rfl rfl rfl rfl rfl (vrf ((mF22 0 5 rfl).trans ((pf10).trans (congrArg (fun q : Nat => (q : Int)) (mD22 10 rfl).symm)))) ?_
    refine v_g H (o := 10) (v := I (u10_1)) rfl rfl rfl rfl rfl (congrArg (fun z : Int => I z) (((mF22 10 1 rfl).trans (eu10_1)) : F22 10 1 = u10_1)) ?_
    exact w_ireturn rfl (k (u10_1) _ _ _ _ _ _ _ H O (cD22) (cN22) (cF22) (cA22) (pf22_2_0) (pf22_4_0) (pf22_6_0) (pf22_8_0) (n3) ((congrArg (fun q : Nat => (q : Int)) (show N22 3 = N 3 from (eN22 3))).trans (en3)) (n5) ((congrArg (fun q : Nat => (q : Int)) (show N22 5 = N 5 from (eN22 5))).trans (en5)) (n7) ((congrArg (fun q : Nat => (q : Int)) (show N22 7 = N 7 from (eN22 7))).trans (en7)) (m22_2) ((congrArg (fun q : Nat => (q : Int)) (eN22 9)).trans em22_2) (u2_1) ((((show F22 2 1 = F 2 1 from (eF22 2 1))).trans (eu2_1))) (u4_1) ((((show F22 4 1 = F 4 1 from (eF22 4 1))).trans (eu4_1))) (u6_1) ((((show F22 6 1 = F 6 1 from (eF22 6 1))).trans (eu6_1))) (y22_0_1) (((eF22 8 1).trans ey22_0_1)) (show inr (u10_1) from q_884 h6) (show 0 ≤ (u2_1) ∧ (u2_1) ≤ (n3) ∧ (n3) ≤ 65536 from h2) (show 0 ≤ (u4_1) ∧ (u4_1) ≤ (n5) ∧ (n5) ≤ 65536 from h3) (show 0 ≤ (u6_1) ∧ (u6_1) ≤ (n7) ∧ (n7) ≤ 65536 from h4) (show 0 ≤ (y22_0_1) ∧ (y22_0_1) ≤ (m22_2) ∧ (m22_2) ≤ 65536 from pz22_0) (show 0 ≤ (u10_1) ∧ (u10_1) ≤ (n11) ∧ (n11) ≤ 65536 from h6))
