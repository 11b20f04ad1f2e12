abbrev V17_vE0 : vV := [(0, 0, [(4, 0), (4, 0), (4, 0), (4, 0), (4, 0), (4, 0), (4, 0), (4, 0), (4, 0), (4, 0), (4, 0), (4, 0), (4, 0), (4, 0), (4, 0), (4, 0), (4, 0), (0, 0), (0, 0)]), (0, 7, [(4, 0), (0, 0), (1, 0), (0, 0), (0, 0)]), (0, 7, [(4, 0), (0, 0), (1, 0), (0, 0), (0, 0)]), (1, 0, []), (0, 7, [(4, 0), (0, 0), (1, 0), (0, 0), (0, 0)]), (1, 0, []), (1, 0, []), (1, 1, []), (1, 1, [])]
theorem len_V17_vE0_oz_T9ecls : (V17_vE0).length = 9 := by decide +kernel
theorem oz_T9ecls_1 : vsub V17_vE0 V34 [0, 8] = true := by decide +kernel
theorem oz_T9ecls_2 : vsub V17_vE0 V29_Row_Row [4, 1, 5, 6] = true := by decide +kernel
def oz_T9eclsl_0 : List Nat := [7]
theorem oz_T9ecls_3 : (oz_T9eclsl_0).all (fun p => !tbz 128 p) = true := by decide +kernel
def oz_T9eclsl_1 : List (Nat × Nat) := []
theorem oz_T9ecls_4 : (oz_T9eclsl_1).all (fun p => !tbz 0 (Nat.add (Nat.mul 32 p.1) p.2)) = true := by decide +kernel
def oz_T9eclsl_2 : List Nat := [0, 8]
theorem oz_T9ecls_5 : okc oz_T9eclsl_2 4096 = true := by decide +kernel
def oz_T9eclsl_3 : List Nat := [4, 1, 5, 6]
theorem oz_T9ecls_6 : okc oz_T9eclsl_3 806617604 = true := by decide +kernel

theorem C17_vE0 {σE : rS} {D N : Nat → Nat} {F : hF} {A : hA} {d c s : Nat} {Q : wQ} (H : HW V17_vE0 σE D N F A) {x1 y0 : Int} (pf2 : HID (F 0 5 = (D 2 : Int))) (pf3 : HID (F 2 0 = (D 3 : Int))) (pf4 : HID (F 0 6 = (D 4 : Int))) (pf5 : HID (F 4 0 = (D 5 : Int))) (pf6 : HID (F 1 0 = (D 6 : Int))) (pf7 : HID (F 0 16 = (D 7 : Int))) (pf8 : HID (F 0 1 = (D 8 : Int))) (n3 : Int) (en3 : HID ((N 3 : Int) = n3)) (n5 : Int) (en5 : HID ((N 5 : Int) = n5)) (n6 : Int) (en6 : HID ((N 6 : Int) = n6)) (n7 : Int) (en7 : HID ((N 7 : Int) = n7)) (n8 : Int) (en8 : HID ((N 8 : Int) = n8)) (u1_1 : Int) (eu1_1 : HID (F 1 1 = u1_1)) (u2_1 : Int) (eu2_1 : HID (F 2 1 = u2_1)) (u4_1 : Int) (eu4_1 : HID (F 4 1 = u4_1)) (w8 : Int → Int) (ew8 : A 8 = w8) {ls : rO} (hl0 : rlook ls 0 = some (.ref (D 0))) (hl1 : rlook ls 1 = some (I (x1))) (hl3 : rlook ls 3 = some (I (0))) (hl4 : rlook ls 4 = some (.ref (D 1))) (h0 : inr (x1)) (h1 : inr y0) (h2 : 0 ≤ (u2_1) ∧ (u2_1) ≤ (n3) ∧ (n3) ≤ 65536) (h3 : 0 ≤ (u4_1) ∧ (u4_1) ≤ (n5) ∧ (n5) ≤ 65536) (h4 : 0 ≤ (u1_1) ∧ (u1_1) ≤ (n6) ∧ (n6) ≤ 65536) (h5 : (u1_1) ≤ 16384) (h6 : (n7) = 2) (h7 : 1 ≤ ((w8)) 2 ∧ ((w8)) 2 ≤ 65536) (h8 : 0 ≤ ((w8)) 8 ∧ ((w8)) 8 ≤ 11) (h9 : 0 ≤ ((w8)) 6 ∧ ((w8)) 6 ≤ 255) (h10 : (n8) = 10) (hc337 : ∀ (ls : rO) (σ : rS) (F_c337 : hF) (A_c337 : hA) , rlook ls 0 = some (.ref (D 0)) → rlook ls 1 = some (I (x1)) → HW V17_vE0 σ D N F_c337 A_c337 → OUT (V17_vE0).length D N σE c s D N σ c s → SF [] F F_c337 → SA [7] A A_c337 → ∀ wc337_7 : Int → Int, A_c337 7 = wc337_7 → (0 ≤ (u2_1) ∧ (u2_1) ≤ (n3) ∧ (n3) ≤ 65536) → (HID (STR (y0) ((u1_1)) (sc ((A 5)) 0 ((u4_1))) (sc ((A 6)) 0 ((u1_1))) (((A 7)) 0) (((wc337_7)) 0))) → (HID (((wc337_7)) 1 = w32 (((A 7)) 1 + (if BNA ((w8)) 0 ((u1_1)) < (u2_1) then 1 else 0)))) → Ew 17 (d + 3) 337 ls [] σ c s Q) (k : ∀ (z : Int) (σ : rS) (Fₚ : hF) (Aₚ : hA), HW V17_vE0 σ D N Fₚ Aₚ → OUT (V17_vE0).length D N σE c s D N σ c s → SF [] F Fₚ → SA [7] A Aₚ → (inr (z)) → ((0 : Int) = 1) → Q (some (I z)) σ c s) : Ew 17 (d + 3) 239 ls [I (y0)] σE c s Q := by
  have O := OUT_refl (n := (V17_vE0).length) (D := D) (N := N) (σ := σE) (c := c) (s := s)
  have HE := H
  have r1 : HID ((-2147483648 : Int) ≤ u1_1 ∧ u1_1 ≤ 2147483647) := krg_e (show (-2147483648 : Int) ≤ F 1 1 ∧ F 1 1 ≤ 2147483647 from H.krg 1 1 (ltn len_V17_vE0_oz_T9ecls rfl)) (show F 1 1 = u1_1 from (eu1_1))
  have r2 : HID ((-2147483648 : Int) ≤ u2_1 ∧ u2_1 ≤ 2147483647) := krg_e (show (-2147483648 : Int) ≤ F 2 1 ∧ F 2 1 ≤ 2147483647 from H.krg 2 1 (ltn len_V17_vE0_oz_T9ecls rfl)) (show F 2 1 = u2_1 from (eu2_1))
  have r3 : HID ((-2147483648 : Int) ≤ u4_1 ∧ u4_1 ≤ 2147483647) := krg_e (show (-2147483648 : Int) ≤ F 4 1 ∧ F 4 1 ≤ 2147483647 from H.krg 4 1 (ltn len_V17_vE0_oz_T9ecls rfl)) (show F 4 1 = u4_1 from (eu4_1))
  have r7 : HID ((0 : Int) ≤ n7 ∧ n7 ≤ 1000000) := nrng (H.nle 7 (ltn len_V17_vE0_oz_T9ecls rfl)) (show (N 7 : Int) = n7 from en7)
  refine Ew_of (pcₚ := 241) (fun _ => x_istore rfl) ?_
  refine Ew_of (pcₚ := 242) (fun _ => x_aload_n rfl (rk_o (hl0) rfl rfl)) ?_
  refine v_g H (o := 0) (v := .ref (D 7)) rfl rfl rfl rfl rfl (vrf (pf7)) ?_
  refine Ew_of (pcₚ := 246) (fun _ => x_iconst rfl) ?_
  refine Ew_of (pcₚ := 247) (fun _ => x_dup2 rfl rfl rfl) ?_
  refine v_lI H (o := 7) rfl rfl rfl rfl (n := n7) (en7) (show 0 ≤ 0 ∧ 0 < n7 from q_4457 (HIDe r7) h6) (fun v9 ev9 (qv9 : HID _) => ?_)
  have ev9 : (A 7) (0) = v9 := (congrFun (rfl : A 7 = A 7) (0)).symm.trans ev9
  have hv0 := ev9
  refine Ew_of (pcₚ := 250) (fun _ => x_iload rfl rk_s) ?_
  refine Ew_of (pcₚ := 252) (fun _ => x_aload rfl (rk_o (hl4) rfl rfl)) ?_
  refine v_g H (o := 1) (v := I (u1_1)) rfl rfl rfl rfl rfl (congrArg (fun z : Int => I z) ((eu1_1) : F 1 1 = u1_1)) ?_
  refine w_icmpne (t := 274) rfl rfl (show inr (y0) from h1) (show inr (u1_1) from q_3477 h4 h5) (fun b10 => ?_) (fun b10 => ?_)
  · refine Ew_of (pcₚ := 275) (fun _ => x_iconst rfl) ?_
    refine w_iaddE rfl ?_
    have g11 : inr (adI (v9) (1)) := toI_inr _
    have hs0 : HID (STR (y0) ((u1_1)) (sc ((A 5)) 0 ((u4_1))) (sc ((A 6)) 0 ((u1_1))) (((A 7)) 0) (((adI (v9) (1))))) := by unfold HID; first | exact STR_n hv0 (by (have qg0 := HIDe qv9; have qg1 := HIDe r1; have qg2 := HIDe r3; omega)) | exact STR_u hv0 pNONE_1 (by (have qg0 := HIDe qv9; have qg1 := HIDe r1; have qg2 := HIDe r3; omega)) | exact STR_y hv0 (by (have qg0 := HIDe qv9; have qg1 := HIDe r1; have qg2 := HIDe r3; omega)) pNONE_1 (by (have qg0 := HIDe qv9; have qg1 := HIDe r1; have qg2 := HIDe r3; omega))
    refine v_sI H (o := 7) (z := (adI (v9) (1))) rfl rfl rfl rfl (n := n7) (en7) (show 0 ≤ 0 ∧ 0 < n7 from q_4457 (HIDe r7) h6) (show inr ((adI (v9) (1))) from g11) (fun σ H Oₚ => ?_)
    have O := OUT_trans O Oₚ
    have cAu12 : SA oz_T9eclsl_0 A (updA A 7 (0) ((adI (v9) (1)))) := SA_upd (SA_refl) rfl
    have mAu12 := SAm_of cAu12 oz_T9ecls_3
    refine Ew_of (pcₚ := 278) (fun _ => x_aload_n rfl (rk_o (hl0) rfl rfl)) ?_
    refine v_g H (o := 0) (v := .ref (D 7)) rfl rfl rfl rfl rfl (vrf (pf7)) ?_
    refine Ew_of (pcₚ := 282) (fun _ => x_iconst rfl) ?_
    refine Ew_of (pcₚ := 283) (fun _ => x_dup2 rfl rfl rfl) ?_
    refine v_lI H (o := 7) rfl rfl rfl rfl (n := n7) (en7) (show 0 ≤ 1 ∧ 1 < n7 from q_4502 h6) (fun v13 ev13 (qv13 : HID _) => ?_)
    have ev13 : (upd1 (A 7) (0) ((adI (v9) (1)))) (1) = v13 := (congrFun (rfl : (updA A 7 (0) ((adI (v9) (1)))) 7 = upd1 (A 7) (0) ((adI (v9) (1)))) (1)).symm.trans ev13
    have hv1 : ((A 7)) 1 = (v13) := by have h := ev13; first | exact h | (rw [upd1_o (by decide)] at h; exact h)
    refine Ew_of (pcₚ := 285) (fun _ => x_aload_n rfl (rk_o (hl0) rfl rfl)) ?_
    refine v_g H (o := 0) (v := .ref (D 2)) rfl rfl rfl rfl rfl (vrf (pf2)) ?_
    refine v_g H (o := 2) (v := I (u2_1)) rfl rfl rfl rfl rfl (congrArg (fun z : Int => I z) ((eu2_1) : F 2 1 = u2_1)) ?_
    refine Ew_of (pcₚ := 292) (fun _ => x_aload_n rfl (rk_o (hl0) rfl rfl)) ?_
    refine Ew_of (pcₚ := 293) (fun _ => x_iload_n rfl (rk_o (hl3) rfl rfl)) ?_
    refine Ew_of (pcₚ := 295) (fun _ => x_aload rfl (rk_o (hl4) rfl rfl)) ?_
    refine v_g H (o := 1) (v := I (u1_1)) rfl rfl rfl rfl rfl (congrArg (fun z : Int => I z) ((eu1_1) : F 1 1 = u1_1)) ?_
    refine v_inv H (o := 0) rfl rfl rfl rfl rfl rfl (by rfl) (C34x (D := puc 4096 D) (N := puc 4096 N) (HW_subc H oz_T9ecls_1 oz_T9ecls_5) (pf8) (n8) (en8) (w8) ((funext (mAu12 8 rfl)).trans (ew8)) (show inr (0) from q_2) (show inr (u1_1) from q_3477 h4 h5) (show 0 ≤ (u1_1) ∧ (u1_1) ≤ 16384 from q_4843 h4 h5) (show 0 ≤ (0) ∧ (0) ≤ 5 from q_5068) (show 1 ≤ ((w8)) 2 ∧ ((w8)) 2 ≤ 65536 from h7) (show 0 ≤ ((w8)) 8 ∧ ((w8)) 8 ≤ 11 from h8) (show 0 ≤ ((w8)) 6 ∧ ((w8)) 6 ≤ 255 from h9) (show (n8) = 10 from h10) (fun z14 σ14 F14ₚ A14ₚ Hₚ Oₚ hS14 hA14 pz14_0 pz14_1 => ⟨rfl, ?_⟩))
    refine v_backc (c := c) (s := s) H oz_T9ecls_1 oz_T9ecls_5 Hₚ Oₚ (fun F14 A14 H Oₚ eF14 eA14 => ?_)
    have O := OUT_trans O Oₚ
    -- PackHouse.boundOf
    have cF14 : SF oz_T9eclsl_1 F F14 := SF_trans (SF_refl) (SF_gluc (ι := oz_T9eclsl_2) oz_T9ecls_5 hS14 eF14 (by decide +kernel)) (any_sub (lₚ := []) (by decide +kernel))
    have mF14 := SFm_of cF14 oz_T9ecls_4
    have cA14 : SA oz_T9eclsl_0 A A14 := SA_trans (cAu12) (SA_gluc (ι := oz_T9eclsl_2) oz_T9ecls_5 hA14 eA14 (by decide +kernel)) (any_subA (lₚ := []) (by decide +kernel))
    have mA14 := SAm_of cA14 oz_T9ecls_3
    have hbd := pz14_1
    (try clear pz14_1)
    refine w_icmple (t := 308) rfl rfl (show inr (u2_1) from q_38 h2) (show inr (z14) from pz14_0) (fun b15 => ?_) (fun b15 => ?_)
    · refine Ew_of (pcₚ := 309) (fun _ => x_iconst rfl) ?_
      refine w_iaddE rfl ?_
      have g16 : inr (adI (v13) (0)) := toI_inr _
      have hs1 : HID (((adI (v13) (0))) = w32 (((A 7)) 1 + (if BNA ((w8)) 0 ((u1_1)) < (u2_1) then 1 else 0))) := by unfold HID; exact BYN hv1 (by decide) (by (have qg0 := HIDe qv13; have qg1 := HIDe r1; have qg2 := HIDe r2; omega)) hbd (by first | exact .inl ⟨by (have qg0 := HIDe qv13; have qg1 := HIDe r1; have qg2 := HIDe r2; omega), rfl⟩ | exact .inr ⟨by (have qg0 := HIDe qv13; have qg1 := HIDe r1; have qg2 := HIDe r2; omega), rfl⟩)
      (try clear hbd)
      refine v_sI H (o := 7) (z := (adI (v13) (0))) rfl rfl rfl rfl (n := n7) (en7) (show 0 ≤ 1 ∧ 1 < n7 from q_4502 h6) (show inr ((adI (v13) (0))) from g16) (fun σ H Oₚ => ?_)
      have O := OUT_trans O Oₚ
      have cAu17 : SA oz_T9eclsl_0 A (updA A14 7 (1) ((adI (v13) (0)))) := SA_upd (cA14) rfl
      have mAu17 := SAm_of cAu17 oz_T9ecls_3
      have : HID (STR (y0) ((u1_1)) (sc ((A 5)) 0 ((u4_1))) (sc ((A 6)) 0 ((u1_1))) (((A 7)) 0) (((upd1 (upd1 (A 7) (0) ((adI (v9) (1)))) (1) ((adI (v13) (0))))) 0)) := by rw [upd1_o (by decide), upd1_s]; exact hs0
      have : HID (((upd1 (upd1 (A 7) (0) ((adI (v9) (1)))) (1) ((adI (v13) (0))))) 1 = w32 (((A 7)) 1 + (if BNA ((w8)) 0 ((u1_1)) < (u2_1) then 1 else 0))) := by rw [upd1_s]; exact hs1
      refine Ew_of (pcₚ := 312) (fun _ => x_iload_n rfl (rk_o (hl3) rfl rfl)) ?_
      refine Ew_of (pcₚ := 313) (fun _ => x_iconst rfl) ?_
      refine w_icmpne (t := 337) rfl rfl (show inr (0) from q_2) (show inr (4) from q_216) (fun b18 => ?_) (fun b18 => ?_)
      · exact hc337  _ _ _ _  (rk_o (hl0) rfl rfl) (rk_o (hl1) rfl rfl) H O (SF_trans (SF_refl) (SF_gluc (ι := oz_T9eclsl_2) oz_T9ecls_5 hS14 eF14 (by decide +kernel)) (any_sub (lₚ := []) (by decide +kernel))) (SA_upd (SA_trans (SA_upd (SA_refl) rfl) (SA_gluc (ι := oz_T9eclsl_2) oz_T9ecls_5 hA14 eA14 (by decide +kernel)) (any_subA (lₚ := []) (by decide +kernel))) rfl)    (upd1 (upd1 (A 7) (0) ((adI (v9) (1)))) (1) ((adI (v13) (0)))) (congrArg (fun q => upd1 q (1) ((adI (v13) (0)))) ((show A14 7 = (updA A 7 (0) ((adI (v9) (1)))) 7 from (eA14 7)))) (show 0 ≤ (u2_1) ∧ (u2_1) ≤ (n3) ∧ (n3) ≤ 65536 from h2) (show HID (STR (y0) ((u1_1)) (sc ((A 5)) 0 ((u4_1))) (sc ((A 6)) 0 ((u1_1))) (((A 7)) 0) (((upd1 (upd1 (A 7) (0) ((adI (v9) (1)))) (1) ((adI (v13) (0))))) 0)) by assumption) (show HID (((upd1 (upd1 (A 7) (0) ((adI (v9) (1)))) (1) ((adI (v13) (0))))) 1 = w32 (((A 7)) 1 + (if BNA ((w8)) 0 ((u1_1)) < (u2_1) then 1 else 0))) by assumption)
      · exact absurd b18 (by omega)
    · refine Ew_of (pcₚ := 305) (fun _ => x_iconst rfl) ?_
      refine Ew_of (pcₚ := 309) (fun _ => x_goto rfl rfl) ?_
      refine w_iaddE rfl ?_
      have g19 : inr (adI (v13) (1)) := toI_inr _
      have hs1 : HID (((adI (v13) (1))) = w32 (((A 7)) 1 + (if BNA ((w8)) 0 ((u1_1)) < (u2_1) then 1 else 0))) := by unfold HID; exact BYN hv1 (by decide) (by (have qg0 := HIDe qv13; have qg1 := HIDe r1; have qg2 := HIDe r2; omega)) hbd (by first | exact .inl ⟨by (have qg0 := HIDe qv13; have qg1 := HIDe r1; have qg2 := HIDe r2; omega), rfl⟩ | exact .inr ⟨by (have qg0 := HIDe qv13; have qg1 := HIDe r1; have qg2 := HIDe r2; omega), rfl⟩)
      (try clear hbd)
      refine v_sI H (o := 7) (z := (adI (v13) (1))) rfl rfl rfl rfl (n := n7) (en7) (show 0 ≤ 1 ∧ 1 < n7 from q_4502 h6) (show inr ((adI (v13) (1))) from g19) (fun σ H Oₚ => ?_)
      have O := OUT_trans O Oₚ
      have cAu20 : SA oz_T9eclsl_0 A (updA A14 7 (1) ((adI (v13) (1)))) := SA_upd (cA14) rfl
      have mAu20 := SAm_of cAu20 oz_T9ecls_3
      have : HID (STR (y0) ((u1_1)) (sc ((A 5)) 0 ((u4_1))) (sc ((A 6)) 0 ((u1_1))) (((A 7)) 0) (((upd1 (upd1 (A 7) (0) ((adI (v9) (1)))) (1) ((adI (v13) (1))))) 0)) := by rw [upd1_o (by decide), upd1_s]; exact hs0
      have : HID (((upd1 (upd1 (A 7) (0) ((adI (v9) (1)))) (1) ((adI (v13) (1))))) 1 = w32 (((A 7)) 1 + (if BNA ((w8)) 0 ((u1_1)) < (u2_1) then 1 else 0))) := by rw [upd1_s]; exact hs1
      refine Ew_of (pcₚ := 312) (fun _ => x_iload_n rfl (rk_o (hl3) rfl rfl)) ?_
      refine Ew_of (pcₚ := 313) (fun _ => x_iconst rfl) ?_
      refine w_icmpne (t := 337) rfl rfl (show inr (0) from q_2) (show inr (4) from q_216) (fun b21 => ?_) (fun b21 => ?_)
      · exact hc337  _ _ _ _  (rk_o (hl0) rfl rfl) (rk_o (hl1) rfl rfl) H O (SF_trans (SF_refl) (SF_gluc (ι := oz_T9eclsl_2) oz_T9ecls_5 hS14 eF14 (by decide +kernel)) (any_sub (lₚ := []) (by decide +kernel))) (SA_upd (SA_trans (SA_upd (SA_refl) rfl) (SA_gluc (ι := oz_T9eclsl_2) oz_T9ecls_5 hA14 eA14 (by decide +kernel)) (any_subA (lₚ := []) (by decide +kernel))) rfl)    (upd1 (upd1 (A 7) (0) ((adI (v9) (1)))) (1) ((adI (v13) (1)))) (congrArg (fun q => upd1 q (1) ((adI (v13) (1)))) ((show A14 7 = (updA A 7 (0) ((adI (v9) (1)))) 7 from (eA14 7)))) (show 0 ≤ (u2_1) ∧ (u2_1) ≤ (n3) ∧ (n3) ≤ 65536 from h2) (show HID (STR (y0) ((u1_1)) (sc ((A 5)) 0 ((u4_1))) (sc ((A 6)) 0 ((u1_1))) (((A 7)) 0) (((upd1 (upd1 (A 7) (0) ((adI (v9) (1)))) (1) ((adI (v13) (1))))) 0)) by assumption) (show HID (((upd1 (upd1 (A 7) (0) ((adI (v9) (1)))) (1) ((adI (v13) (1))))) 1 = w32 (((A 7)) 1 + (if BNA ((w8)) 0 ((u1_1)) < (u2_1) then 1 else 0))) by assumption)
      · exact absurd b21 (by omega)
  · refine Ew_of (pcₚ := 259) (fun _ => x_aload_n rfl (rk_o (hl0) rfl rfl)) ?_
    refine v_g H (o := 0) (v := .ref (D 4)) rfl rfl rfl rfl rfl (vrf (pf4)) ?_
    refine Ew_of (pcₚ := 264) (fun _ => x_aload rfl (rk_o (hl4) rfl rfl)) ?_
    refine w_stat24 rfl rfl (by rfl) (C29_Row_Rowp (D := puc 806617604 D) (N := puc 806617604 N) (HW_subc H oz_T9ecls_2 oz_T9ecls_6) (pf5) (pf6) (n5) (en5) (n6) (en6) (u4_1) ((eu4_1)) (u1_1) ((eu1_1)) (A 5) (rfl) (A 6) (rfl) (show 0 ≤ (u4_1) ∧ (u4_1) ≤ (n5) ∧ (n5) ≤ 65536 from h3) (show 0 ≤ (u1_1) ∧ (u1_1) ≤ (n6) ∧ (n6) ≤ 65536 from h4) (fun z22 σ22 F22ₚ A22ₚ Hₚ Oₚ hS22 hA22 pz22_0 pz22_1 => ⟨rfl, ?_⟩))
    refine v_backc (c := c) (s := s) H oz_T9ecls_2 oz_T9ecls_6 Hₚ Oₚ (fun F22 A22 H Oₚ eF22 eA22 => ?_)
    have O := OUT_trans O Oₚ
    -- PackHouse.firstUnlike
    have cF22 : SF oz_T9eclsl_1 F F22 := SF_trans (SF_refl) (SF_gluc (ι := oz_T9eclsl_3) oz_T9ecls_6 hS22 eF22 (by decide +kernel)) (any_sub (lₚ := []) (by decide +kernel))
    have mF22 := SFm_of cF22 oz_T9ecls_4
    have cA22 : SA oz_T9eclsl_0 A A22 := SA_trans (SA_refl) (SA_gluc (ι := oz_T9eclsl_3) oz_T9ecls_6 hA22 eA22 (by decide +kernel)) (any_subA (lₚ := []) (by decide +kernel))
    have mA22 := SAm_of cA22 oz_T9ecls_3
    refine w_ifge (t := 274) rfl rfl (show inr (z22) from pz22_0) (fun b23 => ?_) (fun b23 => ?_)
    · refine Ew_of (pcₚ := 275) (fun _ => x_iconst rfl) ?_
      refine w_iaddE rfl ?_
      have g24 : inr (adI (v9) (1)) := toI_inr _
      have hs0 : HID (STR (y0) ((u1_1)) (sc ((A 5)) 0 ((u4_1))) (sc ((A 6)) 0 ((u1_1))) (((A 7)) 0) (((adI (v9) (1))))) := by unfold HID; first | exact STR_n hv0 (by (have qg0 := HIDe qv9; have qg1 := HIDe r1; have qg2 := HIDe r3; omega)) | exact STR_u hv0 pz22_1 (by (have qg0 := HIDe qv9; have qg1 := HIDe r1; have qg2 := HIDe r3; omega)) | exact STR_y hv0 (by (have qg0 := HIDe qv9; have qg1 := HIDe r1; have qg2 := HIDe r3; omega)) pz22_1 (by (have qg0 := HIDe qv9; have qg1 := HIDe r1; have qg2 := HIDe r3; omega))
      refine v_sI H (o := 7) (z := (adI (v9) (1))) rfl rfl rfl rfl (n := n7) (en7) (show 0 ≤ 0 ∧ 0 < n7 from q_4457 (HIDe r7) h6) (show inr ((adI (v9) (1))) from g24) (fun σ H Oₚ => ?_)
      have O := OUT_trans O Oₚ
      have cAu25 : SA oz_T9eclsl_0 A (updA A22 7 (0) ((adI (v9) (1)))) := SA_upd (cA22) rfl
      have mAu25 := SAm_of cAu25 oz_T9ecls_3
      refine Ew_of (pcₚ := 278) (fun _ => x_aload_n rfl (rk_o (hl0) rfl rfl)) ?_
      refine v_g H (o := 0) (v := .ref (D 7)) rfl rfl rfl rfl rfl (vrf ((mF22 0 16 rfl).trans (pf7))) ?_
      refine Ew_of (pcₚ := 282) (fun _ => x_iconst rfl) ?_
      refine Ew_of (pcₚ := 283) (fun _ => x_dup2 rfl rfl rfl) ?_
      refine v_lI H (o := 7) rfl rfl rfl rfl (n := n7) (en7) (show 0 ≤ 1 ∧ 1 < n7 from q_4502 h6) (fun v26 ev26 (qv26 : HID _) => ?_)
      have ev26 : (upd1 (A 7) (0) ((adI (v9) (1)))) (1) = v26 := (congrFun (congrArg (fun q => upd1 q (0) ((adI (v9) (1)))) ((show A22 7 = A 7 from (eA22 7)))) (1)).symm.trans ev26
      have hv1 : ((A 7)) 1 = (v26) := by have h := ev26; first | exact h | (rw [upd1_o (by decide)] at h; exact h)
      refine Ew_of (pcₚ := 285) (fun _ => x_aload_n rfl (rk_o (hl0) rfl rfl)) ?_
      refine v_g H (o := 0) (v := .ref (D 2)) rfl rfl rfl rfl rfl (vrf ((mF22 0 5 rfl).trans (pf2))) ?_
      refine v_g H (o := 2) (v := I (u2_1)) rfl rfl rfl rfl rfl (congrArg (fun z : Int => I z) (((mF22 2 1 rfl).trans (eu2_1)) : F22 2 1 = u2_1)) ?_
      refine Ew_of (pcₚ := 292) (fun _ => x_aload_n rfl (rk_o (hl0) rfl rfl)) ?_
      refine Ew_of (pcₚ := 293) (fun _ => x_iload_n rfl (rk_o (hl3) rfl rfl)) ?_
      refine Ew_of (pcₚ := 295) (fun _ => x_aload rfl (rk_o (hl4) rfl rfl)) ?_
      refine v_g H (o := 1) (v := I (u1_1)) rfl rfl rfl rfl rfl (congrArg (fun z : Int => I z) (((mF22 1 1 rfl).trans (eu1_1)) : F22 1 1 = u1_1)) ?_
      refine v_inv H (o := 0) rfl rfl rfl rfl rfl rfl (by rfl) (C34x (D := puc 4096 D) (N := puc 4096 N) (HW_subc H oz_T9ecls_1 oz_T9ecls_5) ((mF22 0 1 rfl).trans (pf8)) (n8) (en8) (w8) ((funext (mAu25 8 rfl)).trans (ew8)) (show inr (0) from q_2) (show inr (u1_1) from q_3477 h4 h5) (show 0 ≤ (u1_1) ∧ (u1_1) ≤ 16384 from q_4843 h4 h5) (show 0 ≤ (0) ∧ (0) ≤ 5 from q_5068) (show 1 ≤ ((w8)) 2 ∧ ((w8)) 2 ≤ 65536 from h7) (show 0 ≤ ((w8)) 8 ∧ ((w8)) 8 ≤ 11 from h8) (show 0 ≤ ((w8)) 6 ∧ ((w8)) 6 ≤ 255 from h9) (show (n8) = 10 from h10) (fun z27 σ27 F27ₚ A27ₚ Hₚ Oₚ hS27 hA27 pz27_0 pz27_1 => ⟨rfl, ?_⟩))
      refine v_backc (c := c) (s := s) H oz_T9ecls_1 oz_T9ecls_5 Hₚ Oₚ (fun F27 A27 H Oₚ eF27 eA27 => ?_)
      have O := OUT_trans O Oₚ
      -- PackHouse.boundOf
      have cF27 : SF oz_T9eclsl_1 F F27 := SF_trans (cF22) (SF_gluc (ι := oz_T9eclsl_2) oz_T9ecls_5 hS27 eF27 (by decide +kernel)) (any_sub (lₚ := []) (by decide +kernel))
      have mF27 := SFm_of cF27 oz_T9ecls_4
      have cA27 : SA oz_T9eclsl_0 A A27 := SA_trans (cAu25) (SA_gluc (ι := oz_T9eclsl_2) oz_T9ecls_5 hA27 eA27 (by decide +kernel)) (any_subA (lₚ := []) (by decide +kernel))
      have mA27 := SAm_of cA27 oz_T9ecls_3
      have hbd := pz27_1
      (try clear pz27_1)
      refine w_icmple (t := 308) rfl rfl (show inr (u2_1) from q_38 h2) (show inr (z27) from pz27_0) (fun b28 => ?_) (fun b28 => ?_)
      · refine Ew_of (pcₚ := 309) (fun _ => x_iconst rfl) ?_
        refine w_iaddE rfl ?_
        have g29 : inr (adI (v26) (0)) := toI_inr _
        have hs1 : HID (((adI (v26) (0))) = w32 (((A 7)) 1 + (if BNA ((w8)) 0 ((u1_1)) < (u2_1) then 1 else 0))) := by unfold HID; exact BYN hv1 (by decide) (by (have qg0 := HIDe qv26; have qg1 := HIDe r1; have qg2 := HIDe r2; omega)) hbd (by first | exact .inl ⟨by (have qg0 := HIDe qv26; have qg1 := HIDe r1; have qg2 := HIDe r2; omega), rfl⟩ | exact .inr ⟨by (have qg0 := HIDe qv26; have qg1 := HIDe r1; have qg2 := HIDe r2; omega), rfl⟩)
        (try clear hbd)
        refine v_sI H (o := 7) (z := (adI (v26) (0))) rfl rfl rfl rfl (n := n7) (en7) (show 0 ≤ 1 ∧ 1 < n7 from q_4502 h6) (show inr ((adI (v26) (0))) from g29) (fun σ H Oₚ => ?_)
        have O := OUT_trans O Oₚ
        have cAu30 : SA oz_T9eclsl_0 A (updA A27 7 (1) ((adI (v26) (0)))) := SA_upd (cA27) rfl
        have mAu30 := SAm_of cAu30 oz_T9ecls_3
        have : HID (STR (y0) ((u1_1)) (sc ((A 5)) 0 ((u4_1))) (sc ((A 6)) 0 ((u1_1))) (((A 7)) 0) (((upd1 (upd1 (A 7) (0) ((adI (v9) (1)))) (1) ((adI (v26) (0))))) 0)) := by rw [upd1_o (by decide), upd1_s]; exact hs0
        have : HID (((upd1 (upd1 (A 7) (0) ((adI (v9) (1)))) (1) ((adI (v26) (0))))) 1 = w32 (((A 7)) 1 + (if BNA ((w8)) 0 ((u1_1)) < (u2_1) then 1 else 0))) := by rw [upd1_s]; exact hs1
        refine Ew_of (pcₚ := 312) (fun _ => x_iload_n rfl (rk_o (hl3) rfl rfl)) ?_
        refine Ew_of (pcₚ := 313) (fun _ => x_iconst rfl) ?_
        refine w_icmpne (t := 337) rfl rfl (show inr (0) from q_2) (show inr (4) from q_216) (fun b31 => ?_) (fun b31 => ?_)
        · exact hc337  _ _ _ _  (rk_o (hl0) rfl rfl) (rk_o (hl1) rfl rfl) H O (SF_trans (SF_trans (SF_refl) (SF_gluc (ι := oz_T9eclsl_3) oz_T9ecls_6 hS22 eF22 (by decide +kernel)) (any_sub (lₚ := []) (by decide +kernel))) (SF_gluc (ι := oz_T9eclsl_2) oz_T9ecls_5 hS27 eF27 (by decide +kernel)) (any_sub (lₚ := []) (by decide +kernel))) (SA_upd (SA_trans (SA_upd (SA_trans (SA_refl) (SA_gluc (ι := oz_T9eclsl_3) oz_T9ecls_6 hA22 eA22 (by decide +kernel)) (any_subA (lₚ := []) (by decide +kernel))) rfl) (SA_gluc (ι := oz_T9eclsl_2) oz_T9ecls_5 hA27 eA27 (by decide +kernel)) (any_subA (lₚ := []) (by decide +kernel))) rfl)    (upd1 (upd1 (A 7) (0) ((adI (v9) (1)))) (1) ((adI (v26) (0)))) (congrArg (fun q => upd1 q (1) ((adI (v26) (0)))) (((show A27 7 = (updA A22 7 (0) ((adI (v9) (1)))) 7 from (eA27 7))).trans (congrArg (fun q => upd1 q (0) ((adI (v9) (1)))) ((show A22 7 = A 7 from (eA22 7)))))) (show 0 ≤ (u2_1) ∧ (u2_1) ≤ (n3) ∧ (n3) ≤ 65536 from h2) (show HID (STR (y0) ((u1_1)) (sc ((A 5)) 0 ((u4_1))) (sc ((A 6)) 0 ((u1_1))) (((A 7)) 0) (((upd1 (upd1 (A 7) (0) ((adI (v9) (1)))) (1) ((adI (v26) (0))))) 0)) by assumption) (show HID (((upd1 (upd1 (A 7) (0) ((adI (v9) (1)))) (1) ((adI (v26) (0))))) 1 = w32 (((A 7)) 1 + (if BNA ((w8)) 0 ((u1_1)) < (u2_1) then 1 else 0))) by assumption)
        · exact absurd b31 (by omega)
      · refine Ew_of (pcₚ := 305) (fun _ => x_iconst rfl) ?_
        refine Ew_of (pcₚ := 309) (fun _ => x_goto rfl rfl) ?_
        refine w_iaddE rfl ?_
        have g32 : inr (adI (v26) (1)) := toI_inr _
        have hs1 : HID (((adI (v26) (1))) = w32 (((A 7)) 1 + (if BNA ((w8)) 0 ((u1_1)) < (u2_1) then 1 else 0))) := by unfold HID; exact BYN hv1 (by decide) (by (have qg0 := HIDe qv26; have qg1 := HIDe r1; have qg2 := HIDe r2; omega)) hbd (by first | exact .inl ⟨by (have qg0 := HIDe qv26; have qg1 := HIDe r1; have qg2 := HIDe r2; omega), rfl⟩ | exact .inr ⟨by (have qg0 := HIDe qv26; have qg1 := HIDe r1; have qg2 := HIDe r2; omega), rfl⟩)
        (try clear hbd)
        refine v_sI H (o := 7) (z := (adI (v26) (1))) rfl rfl rfl rfl (n := n7) (en7) (show 0 ≤ 1 ∧ 1 < n7 from q_4502 h6) (show inr ((adI (v26) (1))) from g32) (fun σ H Oₚ => ?_)
        have O := OUT_trans O Oₚ
        have cAu33 : SA oz_T9eclsl_0 A (updA A27 7 (1) ((adI (v26) (1)))) := SA_upd (cA27) rfl
        have mAu33 := SAm_of cAu33 oz_T9ecls_3
        have : HID (STR (y0) ((u1_1)) (sc ((A 5)) 0 ((u4_1))) (sc ((A 6)) 0 ((u1_1))) (((A 7)) 0) (((upd1 (upd1 (A 7) (0) ((adI (v9) (1)))) (1) ((adI (v26) (1))))) 0)) := by rw [upd1_o (by decide), upd1_s]; exact hs0
        have : HID (((upd1 (upd1 (A 7) (0) ((adI (v9) (1)))) (1) ((adI (v26) (1))))) 1 = w32 (((A 7)) 1 + (if BNA ((w8)) 0 ((u1_1)) < (u2_1) then 1 else 0))) := by rw [upd1_s]; exact hs1
        refine Ew_of (pcₚ := 312) (fun _ => x_iload_n rfl (rk_o (hl3) rfl rfl)) ?_
        refine Ew_of (pcₚ := 313) (fun _ => x_iconst rfl) ?_
        refine w_icmpne (t := 337) rfl rfl (show inr (0) from q_2) (show inr (4) from q_216) (fun b34 => ?_) (fun b34 => ?_)
        · exact hc337  _ _ _ _  (rk_o (hl0) rfl rfl) (rk_o (hl1) rfl rfl) H O (SF_trans (SF_trans (SF_refl) (SF_gluc (ι := oz_T9eclsl_3) oz_T9ecls_6 hS22 eF22 (by decide +kernel)) (any_sub (lₚ := []) (by decide +kernel))) (SF_gluc (ι := oz_T9eclsl_2) oz_T9ecls_5 hS27 eF27 (by decide +kernel)) (any_sub (lₚ := []) (by decide +kernel))) (SA_upd (SA_trans (SA_upd (SA_trans (SA_refl) (SA_gluc (ι := oz_T9eclsl_3) oz_T9ecls_6 hA22 eA22 (by decide +kernel)) (any_subA (lₚ := []) (by decide +kernel))) rfl) (SA_gluc (ι := oz_T9eclsl_2) oz_T9ecls_5 hA27 eA27 (by decide +kernel)) (any_subA (lₚ := []) (by decide +kernel))) rfl)    (upd1 (upd1 (A 7) (0) ((adI (v9) (1)))) (1) ((adI (v26) (1)))) (congrArg (fun q => upd1 q (1) ((adI (v26) (1)))) (((show A27 7 = (updA A22 7 (0) ((adI (v9) (1)))) 7 from (eA27 7))).trans (congrArg (fun q => upd1 q (0) ((adI (v9) (1)))) ((show A22 7 = A 7 from (eA22 7)))))) (show 0 ≤ (u2_1) ∧ (u2_1) ≤ (n3) ∧ (n3) ≤ 65536 from h2) (show HID (STR (y0) ((u1_1)) (sc ((A 5)) 0 ((u4_1))) (sc ((A 6)) 0 ((u1_1))) (((A 7)) 0) (((upd1 (upd1 (A 7) (0) ((adI (v9) (1)))) (1) ((adI (v26) (1))))) 0)) by assumption) (show HID (((upd1 (upd1 (A 7) (0) ((adI (v9) (1)))) (1) ((adI (v26) (1))))) 1 = w32 (((A 7)) 1 + (if BNA ((w8)) 0 ((u1_1)) < (u2_1) then 1 else 0))) by assumption)
        · exact absurd b34 (by omega)
    · refine Ew_of (pcₚ := 271) (fun _ => x_iconst rfl) ?_
      refine Ew_of (pcₚ := 275) (fun _ => x_goto rfl rfl) ?_
      refine w_iaddE rfl ?_
      have g35 : inr (adI (v9) (0)) := toI_inr _
      have hs0 : HID (STR (y0) ((u1_1)) (sc ((A 5)) 0 ((u4_1))) (sc ((A 6)) 0 ((u1_1))) (((A 7)) 0) (((adI (v9) (0))))) := by unfold HID; first | exact STR_n hv0 (by (have qg0 := HIDe qv9; have qg1 := HIDe r1; have qg2 := HIDe r3; omega)) | exact STR_u hv0 pz22_1 (by (have qg0 := HIDe qv9; have qg1 := HIDe r1; have qg2 := HIDe r3; omega)) | exact STR_y hv0 (by (have qg0 := HIDe qv9; have qg1 := HIDe r1; have qg2 := HIDe r3; omega)) pz22_1 (by (have qg0 := HIDe qv9; have qg1 := HIDe r1; have qg2 := HIDe r3; omega))
      refine v_sI H (o := 7) (z := (adI (v9) (0))) rfl rfl rfl rfl (n := n7) (en7) (show 0 ≤ 0 ∧ 0 < n7 from q_4457 (HIDe r7) h6) (show inr ((adI (v9) (0))) from g35) (fun σ H Oₚ => ?_)
      have O := OUT_trans O Oₚ
      have cAu36 : SA oz_T9eclsl_0 A (updA A22 7 (0) ((adI (v9) (0)))) := SA_upd (cA22) rfl
      have mAu36 := SAm_of cAu36 oz_T9ecls_3
      refine Ew_of (pcₚ := 278) (fun _ => x_aload_n rfl (rk_o (hl0) rfl rfl)) ?_
      refine v_g H (o := 0) (v := .ref (D 7)) rfl rfl rfl rfl rfl (vrf ((mF22 0 16 rfl).trans (pf7))) ?_
      refine Ew_of (pcₚ := 282) (fun _ => x_iconst rfl) ?_
      refine Ew_of (pcₚ := 283) (fun _ => x_dup2 rfl rfl rfl) ?_
      refine v_lI H (o := 7) rfl rfl rfl rfl (n := n7) (en7) (show 0 ≤ 1 ∧ 1 < n7 from q_4502 h6) (fun v37 ev37 (qv37 : HID _) => ?_)
      have ev37 : (upd1 (A 7) (0) ((adI (v9) (0)))) (1) = v37 := (congrFun (congrArg (fun q => upd1 q (0) ((adI (v9) (0)))) ((show A22 7 = A 7 from (eA22 7)))) (1)).symm.trans ev37
      have hv1 : ((A 7)) 1 = (v37) := by have h := ev37; first | exact h | (rw [upd1_o (by decide)] at h; exact h)
      refine Ew_of (pcₚ := 285) (fun _ => x_aload_n rfl (rk_o (hl0) rfl rfl)) ?_
      refine v_g H (o := 0) (v := .ref (D 2)) rfl rfl rfl rfl rfl (vrf ((mF22 0 5 rfl).trans (pf2))) ?_
      refine v_g H (o := 2) (v := I (u2_1)) rfl rfl rfl rfl rfl (congrArg (fun z : Int => I z) (((mF22 2 1 rfl).trans (eu2_1)) : F22 2 1 = u2_1)) ?_
      refine Ew_of (pcₚ := 292) (fun _ => x_aload_n rfl (rk_o (hl0) rfl rfl)) ?_
      refine Ew_of (pcₚ := 293) (fun _ => x_iload_n rfl (rk_o (hl3) rfl rfl)) ?_
      refine Ew_of (pcₚ := 295) (fun _ => x_aload rfl (rk_o (hl4) rfl rfl)) ?_
      refine v_g H (o := 1) (v := I (u1_1)) rfl rfl rfl rfl rfl (congrArg (fun z : Int => I z) (((mF22 1 1 rfl).trans (eu1_1)) : F22 1 1 = u1_1)) ?_
      refine v_inv H (o := 0) rfl rfl rfl rfl rfl rfl (by rfl) (C34x (D := puc 4096 D) (N := puc 4096 N) (HW_subc H oz_T9ecls_1 oz_T9ecls_5) ((mF22 0 1 rfl).trans (pf8)) (n8) (en8) (w8) ((funext (mAu36 8 rfl)).trans (ew8)) (show inr (0) from q_2) (show inr (u1_1) from q_3477 h4 h5) (show 0 ≤ (u1_1) ∧ (u1_1) ≤ 16384 from q_4843 h4 h5) (show 0 ≤ (0) ∧ (0) ≤ 5 from q_5068) (show 1 ≤ ((w8)) 2 ∧ ((w8)) 2 ≤ 65536 from h7) (show 0 ≤ ((w8)) 8 ∧ ((w8)) 8 ≤ 11 from h8) (show 0 ≤ ((w8)) 6 ∧ ((w8)) 6 ≤ 255 from h9) (show (n8) = 10 from h10) (fun z38 σ38 F38ₚ A38ₚ Hₚ Oₚ hS38 hA38 pz38_0 pz38_1 => ⟨rfl, ?_⟩))
      refine v_backc (c := c) (s := s) H oz_T9ecls_1 oz_T9ecls_5 Hₚ Oₚ (fun F38 A38 H Oₚ eF38 eA38 => ?_)
      have O := OUT_trans O Oₚ
      -- PackHouse.boundOf
      have cF38 : SF oz_T9eclsl_1 F F38 := SF_trans (cF22) (SF_gluc (ι := oz_T9eclsl_2) oz_T9ecls_5 hS38 eF38 (by decide +kernel)) (any_sub (lₚ := []) (by decide +kernel))
      have mF38 := SFm_of cF38 oz_T9ecls_4
      have cA38 : SA oz_T9eclsl_0 A A38 := SA_trans (cAu36) (SA_gluc (ι := oz_T9eclsl_2) oz_T9ecls_5 hA38 eA38 (by decide +kernel)) (any_subA (lₚ := []) (by decide +kernel))
      have mA38 := SAm_of cA38 oz_T9ecls_3
      have hbd := pz38_1
      (try clear pz38_1)
      refine w_icmple (t := 308) rfl rfl (show inr (u2_1) from q_38 h2) (show inr (z38) from pz38_0) (fun b39 => ?_) (fun b39 => ?_)
      · refine Ew_of (pcₚ := 309) (fun _ => x_iconst rfl) ?_
        refine w_iaddE rfl ?_
        have g40 : inr (adI (v37) (0)) := toI_inr _
        have hs1 : HID (((adI (v37) (0))) = w32 (((A 7)) 1 + (if BNA ((w8)) 0 ((u1_1)) < (u2_1) then 1 else 0))) := by unfold HID; exact BYN hv1 (by decide) (by (have qg0 := HIDe qv37; have qg1 := HIDe r1; have qg2 := HIDe r2; omega)) hbd (by first | exact .inl ⟨by (have qg0 := HIDe qv37; have qg1 := HIDe r1; have qg2 := HIDe r2; omega), rfl⟩ | exact .inr ⟨by (have qg0 := HIDe qv37; have qg1 := HIDe r1; have qg2 := HIDe r2; omega), rfl⟩)
        (try clear hbd)
        refine v_sI H (o := 7) (z := (adI (v37) (0))) rfl rfl rfl rfl (n := n7) (en7) (show 0 ≤ 1 ∧ 1 < n7 from q_4502 h6) (show inr ((adI (v37) (0))) from g40) (fun σ H Oₚ => ?_)
        have O := OUT_trans O Oₚ
        have cAu41 : SA oz_T9eclsl_0 A (updA A38 7 (1) ((adI (v37) (0)))) := SA_upd (cA38) rfl
        have mAu41 := SAm_of cAu41 oz_T9ecls_3
        have : HID (STR (y0) ((u1_1)) (sc ((A 5)) 0 ((u4_1))) (sc ((A 6)) 0 ((u1_1))) (((A 7)) 0) (((upd1 (upd1 (A 7) (0) ((adI (v9) (0)))) (1) ((adI (v37) (0))))) 0)) := by rw [upd1_o (by decide), upd1_s]; exact hs0
        have : HID (((upd1 (upd1 (A 7) (0) ((adI (v9) (0)))) (1) ((adI (v37) (0))))) 1 = w32 (((A 7)) 1 + (if BNA ((w8)) 0 ((u1_1)) < (u2_1) then 1 else 0))) := by rw [upd1_s]; exact hs1
        refine Ew_of (pcₚ := 312) (fun _ => x_iload_n rfl (rk_o (hl3) rfl rfl)) ?_
        refine Ew_of (pcₚ := 313) (fun _ => x_iconst rfl) ?_
        refine w_icmpne (t := 337) rfl rfl (show inr (0) from q_2) (show inr (4) from q_216) (fun b42 => ?_) (fun b42 => ?_)
        · exact hc337  _ _ _ _  (rk_o (hl0) rfl rfl) (rk_o (hl1) rfl rfl) H O (SF_trans (SF_trans (SF_refl) (SF_gluc (ι := oz_T9eclsl_3) oz_T9ecls_6 hS22 eF22 (by decide +kernel)) (any_sub (lₚ := []) (by decide +kernel))) (SF_gluc (ι := oz_T9eclsl_2) oz_T9ecls_5 hS38 eF38 (by decide +kernel)) (any_sub (lₚ := []) (by decide +kernel))) (SA_upd (SA_trans (SA_upd (SA_trans (SA_refl) (SA_gluc (ι := oz_T9eclsl_3) oz_T9ecls_6 hA22 eA22 (by decide +kernel)) (any_subA (lₚ := []) (by decide +kernel))) rfl) (SA_gluc (ι := oz_T9eclsl_2) oz_T9ecls_5 hA38 eA38 (by decide +kernel)) (any_subA (lₚ := []) (by decide +kernel))) rfl)    (upd1 (upd1 (A 7) (0) ((adI (v9) (0)))) (1) ((adI (v37) (0)))) (congrArg (fun q => upd1 q (1) ((adI (v37) (0)))) (((show A38 7 = (updA A22 7 (0) ((adI (v9) (0)))) 7 from (eA38 7))).trans (congrArg (fun q => upd1 q (0) ((adI (v9) (0)))) ((show A22 7 = A 7 from (eA22 7)))))) (show 0 ≤ (u2_1) ∧ (u2_1) ≤ (n3) ∧ (n3) ≤ 65536 from h2) (show HID (STR (y0) ((u1_1)) (sc ((A 5)) 0 ((u4_1))) (sc ((A 6)) 0 ((u1_1))) (((A 7)) 0) (((upd1 (upd1 (A 7) (0) ((adI (v9) (0)))) (1) ((adI (v37) (0))))) 0)) by assumption) (show HID (((upd1 (upd1 (A 7) (0) ((adI (v9) (0)))) (1) ((adI (v37) (0))))) 1 = w32 (((A 7)) 1 + (if BNA ((w8)) 0 ((u1_1)) < (u2_1) then 1 else 0))) by assumption)
        · exact absurd b42 (by omega)
      · refine Ew_of (pcₚ := 305) (fun _ => x_iconst rfl) ?_
        refine Ew_of (pcₚ := 309) (fun _ => x_goto rfl rfl) ?_
        refine w_iaddE rfl ?_
        have g43 : inr (adI (v37) (1)) := toI_inr _
        have hs1 : HID (((adI (v37) (1))) = w32 (((A 7)) 1 + (if BNA ((w8)) 0 ((u1_1)) < (u2_1) then 1 else 0))) := by unfold HID; exact BYN hv1 (by decide) (by (have qg0 := HIDe qv37; have qg1 := HIDe r1; have qg2 := HIDe r2; omega)) hbd (by first | exact .inl ⟨by (have qg0 := HIDe qv37; have qg1 := HIDe r1; have qg2 := HIDe r2; omega), rfl⟩ | exact .inr ⟨by (have qg0 := HIDe qv37; have qg1 := HIDe r1; have qg2 := HIDe r2; omega), rfl⟩)
        (try clear hbd)
        refine v_sI H (o := 7) (z := (adI (v37) (1))) rfl rfl rfl rfl (n := n7) (en7) (show 0 ≤ 1 ∧ 1 < n7 from q_4502 h6) (show inr ((adI (v37) (1))) from g43) (fun σ H Oₚ => ?_)
        have O := OUT_trans O Oₚ
        have cAu44 : SA oz_T9eclsl_0 A (updA A38 7 (1) ((adI (v37) (1)))) := SA_upd (cA38) rfl
        have mAu44 := SAm_of cAu44 oz_T9ecls_3
        have : HID (STR (y0) ((u1_1)) (sc ((A 5)) 0 ((u4_1))) (sc ((A 6)) 0 ((u1_1))) (((A 7)) 0) (((upd1 (upd1 (A 7) (0) ((adI (v9) (0)))) (1) ((adI (v37) (1))))) 0)) := by rw [upd1_o (by decide), upd1_s]; exact hs0
        have : HID (((upd1 (upd1 (A 7) (0) ((adI (v9) (0)))) (1) ((adI (v37) (1))))) 1 = w32 (((A 7)) 1 + (if BNA ((w8)) 0 ((u1_1)) < (u2_1) then 1 else 0))) := by rw [upd1_s]; exact hs1
        refine Ew_of (pcₚ := 312) (fun _ => x_iload_n rfl (rk_o (hl3) rfl rfl)) ?_
        refine Ew_of (pcₚ := 313) (fun _ => x_iconst rfl) ?_
        refine w_icmpne (t := 337) rfl rfl (show inr (0) from q_2) (show inr (4) from q_216) (fun b45 => ?_) (fun b45 => ?_)
        · exact hc337  _ _ _ _  (rk_o (hl0) rfl rfl) (rk_o (hl1) rfl rfl) H O (SF_trans (SF_trans (SF_refl) (SF_gluc (ι := oz_T9eclsl_3) oz_T9ecls_6 hS22 eF22 (by decide +kernel)) (any_sub (lₚ := []) (by decide +kernel))) (SF_gluc (ι := oz_T9eclsl_2) oz_T9ecls_5 hS38 eF38 (by decide +kernel)) (any_sub (lₚ := []) (by decide +kernel))) (SA_upd (SA_trans (SA_upd (SA_trans (SA_refl) (SA_gluc (ι := oz_T9eclsl_3) oz_T9ecls_6 hA22 eA22 (by decide +kernel)) (any_subA (lₚ := []) (by decide +kernel))) rfl) (SA_gluc (ι := oz_T9eclsl_2) oz_T9ecls_5 hA38 eA38 (by decide +kernel)) (any_subA (lₚ := []) (by decide +kernel))) rfl)    (upd1 (upd1 (A 7) (0) ((adI (v9) (0)))) (1) ((adI (v37) (1)))) (congrArg (fun q => upd1 q (1) ((adI (v37) (1)))) (((show A38 7 = (updA A22 7 (0) ((adI (v9) (0)))) 7 from (eA38 7))).trans (congrArg (fun q => upd1 q (0) ((adI (v9) (0)))) ((show A22 7 = A 7 from (eA22 7)))))) (show 0 ≤ (u2_1) ∧ (u2_1) ≤ (n3) ∧ (n3) ≤ 65536 from h2) (show HID (STR (y0) ((u1_1)) (sc ((A 5)) 0 ((u4_1))) (sc ((A 6)) 0 ((u1_1))) (((A 7)) 0) (((upd1 (upd1 (A 7) (0) ((adI (v9) (0)))) (1) ((adI (v37) (1))))) 0)) by assumption) (show HID (((upd1 (upd1 (A 7) (0) ((adI (v9) (0)))) (1) ((adI (v37) (1))))) 1 = w32 (((A 7)) 1 + (if BNA ((w8)) 0 ((u1_1)) < (u2_1) then 1 else 0))) by assumption)
        · exact absurd b45 (by omega)
abbrev V17_vE1 : vV := [(0, 0, [(4, 0), (4, 0), (4, 0), (4, 0), (4, 0), (4, 0), (4, 0), (4, 0), (4, 0), (4, 0), (4, 0), (4, 0), (4, 0), (4, 0), (4, 0), (4, 0), (4, 0), (0, 0), (0, 0)]), (0, 7, [(4, 0), (0, 0), (1, 0), (0, 0), (0, 0)]), (0, 7, [(4, 0), (0, 0), (1, 0), (0, 0), (0, 0)]), (1, 0, []), (0, 7, [(4, 0), (0, 0), (1, 0), (0, 0), (0, 0)]), (1, 0, []), (1, 0, []), (1, 1, []), (1, 1, [])]
theorem len_V17_vE1_oz_T9ecls : (V17_vE1).length = 9 := by decide +kernel
theorem oz_T9ecls_8 : vsub V17_vE1 V34 [0, 8] = true := by decide +kernel
theorem oz_T9ecls_9 : vsub V17_vE1 V29_Row_Row [4, 1, 5, 6] = true := by decide +kernel

theorem C17_vE1 {σE : rS} {D N : Nat → Nat} {F : hF} {A : hA} {d c s : Nat} {Q : wQ} (H : HW V17_vE1 σE D N F A) {x1 y0 : Int} (pf2 : HID (F 0 5 = (D 2 : Int))) (pf3 : HID (F 2 0 = (D 3 : Int))) (pf4 : HID (F 0 6 = (D 4 : Int))) (pf5 : HID (F 4 0 = (D 5 : Int))) (pf6 : HID (F 1 0 = (D 6 : Int))) (pf7 : HID (F 0 16 = (D 7 : Int))) (pf8 : HID (F 0 1 = (D 8 : Int))) (n3 : Int) (en3 : HID ((N 3 : Int) = n3)) (n5 : Int) (en5 : HID ((N 5 : Int) = n5)) (n6 : Int) (en6 : HID ((N 6 : Int) = n6)) (n7 : Int) (en7 : HID ((N 7 : Int) = n7)) (n8 : Int) (en8 : HID ((N 8 : Int) = n8)) (u1_1 : Int) (eu1_1 : HID (F 1 1 = u1_1)) (u2_1 : Int) (eu2_1 : HID (F 2 1 = u2_1)) (u4_1 : Int) (eu4_1 : HID (F 4 1 = u4_1)) (w8 : Int → Int) (ew8 : A 8 = w8) {ls : rO} (hl0 : rlook ls 0 = some (.ref (D 0))) (hl1 : rlook ls 1 = some (I (x1))) (hl3 : rlook ls 3 = some (I (1))) (hl4 : rlook ls 4 = some (.ref (D 1))) (h0 : inr (x1)) (h1 : inr y0) (h2 : 0 ≤ (u2_1) ∧ (u2_1) ≤ (n3) ∧ (n3) ≤ 65536) (h3 : 0 ≤ (u4_1) ∧ (u4_1) ≤ (n5) ∧ (n5) ≤ 65536) (h4 : 0 ≤ (u1_1) ∧ (u1_1) ≤ (n6) ∧ (n6) ≤ 65536) (h5 : (u1_1) ≤ 16384) (h6 : (n7) = 2) (h7 : 1 ≤ ((w8)) 2 ∧ ((w8)) 2 ≤ 65536) (h8 : 0 ≤ ((w8)) 8 ∧ ((w8)) 8 ≤ 11) (h9 : 0 ≤ ((w8)) 6 ∧ ((w8)) 6 ≤ 255) (h10 : (n8) = 10) (hc337 : ∀ (ls : rO) (σ : rS) (F_c337 : hF) (A_c337 : hA) , rlook ls 0 = some (.ref (D 0)) → rlook ls 1 = some (I (x1)) → HW V17_vE1 σ D N F_c337 A_c337 → OUT (V17_vE1).length D N σE c s D N σ c s → SF [] F F_c337 → SA [7] A A_c337 → ∀ wc337_7 : Int → Int, A_c337 7 = wc337_7 → (0 ≤ (u2_1) ∧ (u2_1) ≤ (n3) ∧ (n3) ≤ 65536) → (HID (STR (y0) ((u1_1)) (sc ((A 5)) 0 ((u4_1))) (sc ((A 6)) 0 ((u1_1))) (((A 7)) 0) (((wc337_7)) 0))) → (HID (((wc337_7)) 1 = w32 (((A 7)) 1 + (if BNA ((w8)) 1 ((u1_1)) < (u2_1) then 1 else 0)))) → Ew 17 (d + 3) 337 ls [] σ c s Q) (k : ∀ (z : Int) (σ : rS) (Fₚ : hF) (Aₚ : hA), HW V17_vE1 σ D N Fₚ Aₚ → OUT (V17_vE1).length D N σE c s D N σ c s → SF [] F Fₚ → SA [7] A Aₚ → (inr (z)) → ((0 : Int) = 1) → Q (some (I z)) σ c s) : Ew 17 (d + 3) 239 ls [I (y0)] σE c s Q := by
  have O := OUT_refl (n := (V17_vE1).length) (D := D) (N := N) (σ := σE) (c := c) (s := s)
  have HE := H
  have r1 : HID ((-2147483648 : Int) ≤ u1_1 ∧ u1_1 ≤ 2147483647) := krg_e (show (-2147483648 : Int) ≤ F 1 1 ∧ F 1 1 ≤ 2147483647 from H.krg 1 1 (ltn len_V17_vE1_oz_T9ecls rfl)) (show F 1 1 = u1_1 from (eu1_1))
  have r2 : HID ((-2147483648 : Int) ≤ u2_1 ∧ u2_1 ≤ 2147483647) := krg_e (show (-2147483648 : Int) ≤ F 2 1 ∧ F 2 1 ≤ 2147483647 from H.krg 2 1 (ltn len_V17_vE1_oz_T9ecls rfl)) (show F 2 1 = u2_1 from (eu2_1))
  have r3 : HID ((-2147483648 : Int) ≤ u4_1 ∧ u4_1 ≤ 2147483647) := krg_e (show (-2147483648 : Int) ≤ F 4 1 ∧ F 4 1 ≤ 2147483647 from H.krg 4 1 (ltn len_V17_vE1_oz_T9ecls rfl)) (show F 4 1 = u4_1 from (eu4_1))
  have r7 : HID ((0 : Int) ≤ n7 ∧ n7 ≤ 1000000) := nrng (H.nle 7 (ltn len_V17_vE1_oz_T9ecls rfl)) (show (N 7 : Int) = n7 from en7)
  refine Ew_of (pcₚ := 241) (fun _ => x_istore rfl) ?_
  refine Ew_of (pcₚ := 242) (fun _ => x_aload_n rfl (rk_o (hl0) rfl rfl)) ?_
  refine v_g H (o := 0) (v := .ref (D 7)) rfl rfl rfl rfl rfl (vrf (pf7)) ?_
  refine Ew_of (pcₚ := 246) (fun _ => x_iconst rfl) ?_
  refine Ew_of (pcₚ := 247) (fun _ => x_dup2 rfl rfl rfl) ?_
  refine v_lI H (o := 7) rfl rfl rfl rfl (n := n7) (en7) (show 0 ≤ 0 ∧ 0 < n7 from q_4457 (HIDe r7) h6) (fun v9 ev9 (qv9 : HID _) => ?_)
  have ev9 : (A 7) (0) = v9 := (congrFun (rfl : A 7 = A 7) (0)).symm.trans ev9
  have hv0 := ev9
  refine Ew_of (pcₚ := 250) (fun _ => x_iload rfl rk_s) ?_
  refine Ew_of (pcₚ := 252) (fun _ => x_aload rfl (rk_o (hl4) rfl rfl)) ?_
  refine v_g H (o := 1) (v := I (u1_1)) rfl rfl rfl rfl rfl (congrArg (fun z : Int => I z) ((eu1_1) : F 1 1 = u1_1)) ?_
  refine w_icmpne (t := 274) rfl rfl (show inr (y0) from h1) (show inr (u1_1) from q_3477 h4 h5) (fun b10 => ?_) (fun b10 => ?_)
  · refine Ew_of (pcₚ := 275) (fun _ => x_iconst rfl) ?_
    refine w_iaddE rfl ?_
    have g11 : inr (adI (v9) (1)) := toI_inr _
    have hs0 : HID (STR (y0) ((u1_1)) (sc ((A 5)) 0 ((u4_1))) (sc ((A 6)) 0 ((u1_1))) (((A 7)) 0) (((adI (v9) (1))))) := by unfold HID; first | exact STR_n hv0 (by (have qg0 := HIDe qv9; have qg1 := HIDe r1; have qg2 := HIDe r3; omega)) | exact STR_u hv0 pNONE_1 (by (have qg0 := HIDe qv9; have qg1 := HIDe r1; have qg2 := HIDe r3; omega)) | exact STR_y hv0 (by (have qg0 := HIDe qv9; have qg1 := HIDe r1; have qg2 := HIDe r3; omega)) pNONE_1 (by (have qg0 := HIDe qv9; have qg1 := HIDe r1; have qg2 := HIDe r3; omega))
    refine v_sI H (o := 7) (z := (adI (v9) (1))) rfl rfl rfl rfl (n := n7) (en7) (show 0 ≤ 0 ∧ 0 < n7 from q_4457 (HIDe r7) h6) (show inr ((adI (v9) (1))) from g11) (fun σ H Oₚ => ?_)
    have O := OUT_trans O Oₚ
    have cAu12 : SA oz_T9eclsl_0 A (updA A 7 (0) ((adI (v9) (1)))) := SA_upd (SA_refl) rfl
    have mAu12 := SAm_of cAu12 oz_T9ecls_3
    refine Ew_of (pcₚ := 278) (fun _ => x_aload_n rfl (rk_o (hl0) rfl rfl)) ?_
    refine v_g H (o := 0) (v := .ref (D 7)) rfl rfl rfl rfl rfl (vrf (pf7)) ?_
    refine Ew_of (pcₚ := 282) (fun _ => x_iconst rfl) ?_
    refine Ew_of (pcₚ := 283) (fun _ => x_dup2 rfl rfl rfl) ?_
    refine v_lI H (o := 7) rfl rfl rfl rfl (n := n7) (en7) (show 0 ≤ 1 ∧ 1 < n7 from q_4502 h6) (fun v13 ev13 (qv13 : HID _) => ?_)
    have ev13 : (upd1 (A 7) (0) ((adI (v9) (1)))) (1) = v13 := (congrFun (rfl : (updA A 7 (0) ((adI (v9) (1)))) 7 = upd1 (A 7) (0) ((adI (v9) (1)))) (1)).symm.trans ev13
    have hv1 : ((A 7)) 1 = (v13) := by have h := ev13; first | exact h | (rw [upd1_o (by decide)] at h; exact h)
    refine Ew_of (pcₚ := 285) (fun _ => x_aload_n rfl (rk_o (hl0) rfl rfl)) ?_
    refine v_g H (o := 0) (v := .ref (D 2)) rfl rfl rfl rfl rfl (vrf (pf2)) ?_
    refine v_g H (o := 2) (v := I (u2_1)) rfl rfl rfl rfl rfl (congrArg (fun z : Int => I z) ((eu2_1) : F 2 1 = u2_1)) ?_
    refine Ew_of (pcₚ := 292) (fun _ => x_aload_n rfl (rk_o (hl0) rfl rfl)) ?_
    refine Ew_of (pcₚ := 293) (fun _ => x_iload_n rfl (rk_o (hl3) rfl rfl)) ?_
    refine Ew_of (pcₚ := 295) (fun _ => x_aload rfl (rk_o (hl4) rfl rfl)) ?_
    refine v_g H (o := 1) (v := I (u1_1)) rfl rfl rfl rfl rfl (congrArg (fun z : Int => I z) ((eu1_1) : F 1 1 = u1_1)) ?_
    refine v_inv H (o := 0) rfl rfl rfl rfl rfl rfl (by rfl) (C34x (D := puc 4096 D) (N := puc 4096 N) (HW_subc H oz_T9ecls_8 oz_T9ecls_5) (pf8) (n8) (en8) (w8) ((funext (mAu12 8 rfl)).trans (ew8)) (show inr (1) from q_135) (show inr (u1_1) from q_3477 h4 h5) (show 0 ≤ (u1_1) ∧ (u1_1) ≤ 16384 from q_4843 h4 h5) (show 0 ≤ (1) ∧ (1) ≤ 5 from q_5069) (show 1 ≤ ((w8)) 2 ∧ ((w8)) 2 ≤ 65536 from h7) (show 0 ≤ ((w8)) 8 ∧ ((w8)) 8 ≤ 11 from h8) (show 0 ≤ ((w8)) 6 ∧ ((w8)) 6 ≤ 255 from h9) (show (n8) = 10 from h10) (fun z14 σ14 F14ₚ A14ₚ Hₚ Oₚ hS14 hA14 pz14_0 pz14_1 => ⟨rfl, ?_⟩))
    refine v_backc (c := c) (s := s) H oz_T9ecls_8 oz_T9ecls_5 Hₚ Oₚ (fun F14 A14 H Oₚ eF14 eA14 => ?_)
    have O := OUT_trans O Oₚ
    -- PackHouse.boundOf
    have cF14 : SF oz_T9eclsl_1 F F14 := SF_trans (SF_refl) (SF_gluc (ι := oz_T9eclsl_2) oz_T9ecls_5 hS14 eF14 (by decide +kernel)) (any_sub (lₚ := []) (by decide +kernel))
    have mF14 := SFm_of cF14 oz_T9ecls_4
    have cA14 : SA oz_T9eclsl_0 A A14 := SA_trans (cAu12) (SA_gluc (ι := oz_T9eclsl_2) oz_T9ecls_5 hA14 eA14 (by decide +kernel)) (any_subA (lₚ := []) (by decide +kernel))
    have mA14 := SAm_of cA14 oz_T9ecls_3
    have hbd := pz14_1
    (try clear pz14_1)
    refine w_icmple (t := 308) rfl rfl (show inr (u2_1) from q_38 h2) (show inr (z14) from pz14_0) (fun b15 => ?_) (fun b15 => ?_)
    · refine Ew_of (pcₚ := 309) (fun _ => x_iconst rfl) ?_
      refine w_iaddE rfl ?_
      have g16 : inr (adI (v13) (0)) := toI_inr _
      have hs1 : HID (((adI (v13) (0))) = w32 (((A 7)) 1 + (if BNA ((w8)) 1 ((u1_1)) < (u2_1) then 1 else 0))) := by unfold HID; exact BYN hv1 (by decide) (by (have qg0 := HIDe qv13; have qg1 := HIDe r1; have qg2 := HIDe r2; omega)) hbd (by first | exact .inl ⟨by (have qg0 := HIDe qv13; have qg1 := HIDe r1; have qg2 := HIDe r2; omega), rfl⟩ | exact .inr ⟨by (have qg0 := HIDe qv13; have qg1 := HIDe r1; have qg2 := HIDe r2; omega), rfl⟩)
      (try clear hbd)
      refine v_sI H (o := 7) (z := (adI (v13) (0))) rfl rfl rfl rfl (n := n7) (en7) (show 0 ≤ 1 ∧ 1 < n7 from q_4502 h6) (show inr ((adI (v13) (0))) from g16) (fun σ H Oₚ => ?_)
      have O := OUT_trans O Oₚ
      have cAu17 : SA oz_T9eclsl_0 A (updA A14 7 (1) ((adI (v13) (0)))) := SA_upd (cA14) rfl
      have mAu17 := SAm_of cAu17 oz_T9ecls_3
      have : HID (STR (y0) ((u1_1)) (sc ((A 5)) 0 ((u4_1))) (sc ((A 6)) 0 ((u1_1))) (((A 7)) 0) (((upd1 (upd1 (A 7) (0) ((adI (v9) (1)))) (1) ((adI (v13) (0))))) 0)) := by rw [upd1_o (by decide), upd1_s]; exact hs0
      have : HID (((upd1 (upd1 (A 7) (0) ((adI (v9) (1)))) (1) ((adI (v13) (0))))) 1 = w32 (((A 7)) 1 + (if BNA ((w8)) 1 ((u1_1)) < (u2_1) then 1 else 0))) := by rw [upd1_s]; exact hs1
      refine Ew_of (pcₚ := 312) (fun _ => x_iload_n rfl (rk_o (hl3) rfl rfl)) ?_
      refine Ew_of (pcₚ := 313) (fun _ => x_iconst rfl) ?_
      refine w_icmpne (t := 337) rfl rfl (show inr (1) from q_135) (show inr (4) from q_216) (fun b18 => ?_) (fun b18 => ?_)
      · exact hc337  _ _ _ _  (rk_o (hl0) rfl rfl) (rk_o (hl1) rfl rfl) H O (SF_trans (SF_refl) (SF_gluc (ι := oz_T9eclsl_2) oz_T9ecls_5 hS14 eF14 (by decide +kernel)) (any_sub (lₚ := []) (by decide +kernel))) (SA_upd (SA_trans (SA_upd (SA_refl) rfl) (SA_gluc (ι := oz_T9eclsl_2) oz_T9ecls_5 hA14 eA14 (by decide +kernel)) (any_subA (lₚ := []) (by decide +kernel))) rfl)    (upd1 (upd1 (A 7) (0) ((adI (v9) (1)))) (1) ((adI (v13) (0)))) (congrArg (fun q => upd1 q (1) ((adI (v13) (0)))) ((show A14 7 = (updA A 7 (0) ((adI (v9) (1)))) 7 from (eA14 7)))) (show 0 ≤ (u2_1) ∧ (u2_1) ≤ (n3) ∧ (n3) ≤ 65536 from h2) (show HID (STR (y0) ((u1_1)) (sc ((A 5)) 0 ((u4_1))) (sc ((A 6)) 0 ((u1_1))) (((A 7)) 0) (((upd1 (upd1 (A 7) (0) ((adI (v9) (1)))) (1) ((adI (v13) (0))))) 0)) by assumption) (show HID (((upd1 (upd1 (A 7) (0) ((adI (v9) (1)))) (1) ((adI (v13) (0))))) 1 = w32 (((A 7)) 1 + (if BNA ((w8)) 1 ((u1_1)) < (u2_1) then 1 else 0))) by assumption)
      · exact absurd b18 (by omega)
    · refine Ew_of (pcₚ := 305) (fun _ => x_iconst rfl) ?_
      refine Ew_of (pcₚ := 309) (fun _ => x_goto rfl rfl) ?_
      refine w_iaddE rfl ?_
      have g19 : inr (adI (v13) (1)) := toI_inr _
      have hs1 : HID (((adI (v13) (1))) = w32 (((A 7)) 1 + (if BNA ((w8)) 1 ((u1_1)) < (u2_1) then 1 else 0))) := by unfold HID; exact BYN hv1 (by decide) (by (have qg0 := HIDe qv13; have qg1 := HIDe r1; have qg2 := HIDe r2; omega)) hbd (by first | exact .inl ⟨by (have qg0 := HIDe qv13; have qg1 := HIDe r1; have qg2 := HIDe r2; omega), rfl⟩ | exact .inr ⟨by (have qg0 := HIDe qv13; have qg1 := HIDe r1; have qg2 := HIDe r2; omega), rfl⟩)
      (try clear hbd)
      refine v_sI H (o := 7) (z := (adI (v13) (1))) rfl rfl rfl rfl (n := n7) (en7) (show 0 ≤ 1 ∧ 1 < n7 from q_4502 h6) (show inr ((adI (v13) (1))) from g19) (fun σ H Oₚ => ?_)
      have O := OUT_trans O Oₚ
      have cAu20 : SA oz_T9eclsl_0 A (updA A14 7 (1) ((adI (v13) (1)))) := SA_upd (cA14) rfl
      have mAu20 := SAm_of cAu20 oz_T9ecls_3
      have : HID (STR (y0) ((u1_1)) (sc ((A 5)) 0 ((u4_1))) (sc ((A 6)) 0 ((u1_1))) (((A 7)) 0) (((upd1 (upd1 (A 7) (0) ((adI (v9) (1)))) (1) ((adI (v13) (1))))) 0)) := by rw [upd1_o (by decide), upd1_s]; exact hs0
      have : HID (((upd1 (upd1 (A 7) (0) ((adI (v9) (1)))) (1) ((adI (v13) (1))))) 1 = w32 (((A 7)) 1 + (if BNA ((w8)) 1 ((u1_1)) < (u2_1) then 1 else 0))) := by rw [upd1_s]; exact hs1
      refine Ew_of (pcₚ := 312) (fun _ => x_iload_n rfl (rk_o (hl3) rfl rfl)) ?_
      refine Ew_of (pcₚ := 313) (fun _ => x_iconst rfl) ?_
      refine w_icmpne (t := 337) rfl rfl (show inr (1) from q_135) (show inr (4) from q_216) (fun b21 => ?_) (fun b21 => ?_)
      · exact hc337  _ _ _ _  (rk_o (hl0) rfl rfl) (rk_o (hl1) rfl rfl) H O (SF_trans (SF_refl) (SF_gluc (ι := oz_T9eclsl_2) oz_T9ecls_5 hS14 eF14 (by decide +kernel)) (any_sub (lₚ := []) (by decide +kernel))) (SA_upd (SA_trans (SA_upd (SA_refl) rfl) (SA_gluc (ι := oz_T9eclsl_2) oz_T9ecls_5 hA14 eA14 (by decide +kernel)) (any_subA (lₚ := []) (by decide +kernel))) rfl)    (upd1 (upd1 (A 7) (0) ((adI (v9) (1)))) (1) ((adI (v13) (1)))) (congrArg (fun q => upd1 q (1) ((adI (v13) (1)))) ((show A14 7 = (updA A 7 (0) ((adI (v9) (1)))) 7 from (eA14 7)))) (show 0 ≤ (u2_1) ∧ (u2_1) ≤ (n3) ∧ (n3) ≤ 65536 from h2) (show HID (STR (y0) ((u1_1)) (sc ((A 5)) 0 ((u4_1))) (sc ((A 6)) 0 ((u1_1))) (((A 7)) 0) (((upd1 (upd1 (A 7) (0) ((adI (v9) (1)))) (1) ((adI (v13) (1))))) 0)) by assumption) (show HID (((upd1 (upd1 (A 7) (0) ((adI (v9) (1)))) (1) ((adI (v13) (1))))) 1 = w32 (((A 7)) 1 + (if BNA ((w8)) 1 ((u1_1)) < (u2_1) then 1 else 0))) by assumption)
      · exact absurd b21 (by omega)
  · refine Ew_of (pcₚ := 259) (fun _ => x_aload_n rfl (rk_o (hl0) rfl rfl)) ?_
    refine v_g H (o := 0) (v := .ref (D 4)) rfl rfl rfl rfl rfl (vrf (pf4)) ?_
    refine Ew_of (pcₚ := 264) (fun _ => x_aload rfl (rk_o (hl4) rfl rfl)) ?_
    refine w_stat24 rfl rfl (by rfl) (C29_Row_Rowp (D := puc 806617604 D) (N := puc 806617604 N) (HW_subc H oz_T9ecls_9 oz_T9ecls_6) (pf5) (pf6) (n5) (en5) (n6) (en6) (u4_1) ((eu4_1)) (u1_1) ((eu1_1)) (A 5) (rfl) (A 6) (rfl) (show 0 ≤ (u4_1) ∧ (u4_1) ≤ (n5) ∧ (n5) ≤ 65536 from h3) (show 0 ≤ (u1_1) ∧ (u1_1) ≤ (n6) ∧ (n6) ≤ 65536 from h4) (fun z22 σ22 F22ₚ A22ₚ Hₚ Oₚ hS22 hA22 pz22_0 pz22_1 => ⟨rfl, ?_⟩))
    refine v_backc (c := c) (s := s) H oz_T9ecls_9 oz_T9ecls_6 Hₚ Oₚ (fun F22 A22 H Oₚ eF22 eA22 => ?_)
    have O := OUT_trans O Oₚ
    -- PackHouse.firstUnlike
    have cF22 : SF oz_T9eclsl_1 F F22 := SF_trans (SF_refl) (SF_gluc (ι := oz_T9eclsl_3) oz_T9ecls_6 hS22 eF22 (by decide +kernel)) (any_sub (lₚ := []) (by decide +kernel))
    have mF22 := SFm_of cF22 oz_T9ecls_4
    have cA22 : SA oz_T9eclsl_0 A A22 := SA_trans (SA_refl) (SA_gluc (ι := oz_T9eclsl_3) oz_T9ecls_6 hA22 eA22 (by decide +kernel)) (any_subA (lₚ := []) (by decide +kernel))
    have mA22 := SAm_of cA22 oz_T9ecls_3
    refine w_ifge (t := 274) rfl rfl (show inr (z22) from pz22_0) (fun b23 => ?_) (fun b23 => ?_)
    · refine Ew_of (pcₚ := 275) (fun _ => x_iconst rfl) ?_
      refine w_iaddE rfl ?_
      have g24 : inr (adI (v9) (1)) := toI_inr _
      have hs0 : HID (STR (y0) ((u1_1)) (sc ((A 5)) 0 ((u4_1))) (sc ((A 6)) 0 ((u1_1))) (((A 7)) 0) (((adI (v9) (1))))) := by unfold HID; first | exact STR_n hv0 (by (have qg0 := HIDe qv9; have qg1 := HIDe r1; have qg2 := HIDe r3; omega)) | exact STR_u hv0 pz22_1 (by (have qg0 := HIDe qv9; have qg1 := HIDe r1; have qg2 := HIDe r3; omega)) | exact STR_y hv0 (by (have qg0 := HIDe qv9; have qg1 := HIDe r1; have qg2 := HIDe r3; omega)) pz22_1 (by (have qg0 := HIDe qv9; have qg1 := HIDe r1; have qg2 := HIDe r3; omega))
      refine v_sI H (o := 7) (z := (adI (v9) (1))) rfl rfl rfl rfl (n := n7) (en7) (show 0 ≤ 0 ∧ 0 < n7 from q_4457 (HIDe r7) h6) (show inr ((adI (v9) (1))) from g24) (fun σ H Oₚ => ?_)
      have O := OUT_trans O Oₚ
      have cAu25 : SA oz_T9eclsl_0 A (updA A22 7 (0) ((adI (v9) (1)))) := SA_upd (cA22) rfl
      have mAu25 := SAm_of cAu25 oz_T9ecls_3
      refine Ew_of (pcₚ := 278) (fun _ => x_aload_n rfl (rk_o (hl0) rfl rfl)) ?_
      refine v_g H (o := 0) (v := .ref (D 7)) rfl rfl rfl rfl rfl (vrf ((mF22 0 16 rfl).trans (pf7))) ?_
      refine Ew_of (pcₚ := 282) (fun _ => x_iconst rfl) ?_
      refine Ew_of (pcₚ := 283) (fun _ => x_dup2 rfl rfl rfl) ?_
      refine v_lI H (o := 7) rfl rfl rfl rfl (n := n7) (en7) (show 0 ≤ 1 ∧ 1 < n7 from q_4502 h6) (fun v26 ev26 (qv26 : HID _) => ?_)
      have ev26 : (upd1 (A 7) (0) ((adI (v9) (1)))) (1) = v26 := (congrFun (congrArg (fun q => upd1 q (0) ((adI (v9) (1)))) ((show A22 7 = A 7 from (eA22 7)))) (1)).symm.trans ev26
      have hv1 : ((A 7)) 1 = (v26) := by have h := ev26; first | exact h | (rw [upd1_o (by decide)] at h; exact h)
      refine Ew_of (pcₚ := 285) (fun _ => x_aload_n rfl (rk_o (hl0) rfl rfl)) ?_
      refine v_g H (o := 0) (v := .ref (D 2)) rfl rfl rfl rfl rfl (vrf ((mF22 0 5 rfl).trans (pf2))) ?_
      refine v_g H (o := 2) (v := I (u2_1)) rfl rfl rfl rfl rfl (congrArg (fun z : Int => I z) (((mF22 2 1 rfl).trans (eu2_1)) : F22 2 1 = u2_1)) ?_
      refine Ew_of (pcₚ := 292) (fun _ => x_aload_n rfl (rk_o (hl0) rfl rfl)) ?_
      refine Ew_of (pcₚ := 293) (fun _ => x_iload_n rfl (rk_o (hl3) rfl rfl)) ?_
      refine Ew_of (pcₚ := 295) (fun _ => x_aload rfl (rk_o (hl4) rfl rfl)) ?_
      refine v_g H (o := 1) (v := I (u1_1)) rfl rfl rfl rfl rfl (congrArg (fun z : Int => I z) (((mF22 1 1 rfl).trans (eu1_1)) : F22 1 1 = u1_1)) ?_
      refine v_inv H (o := 0) rfl rfl rfl rfl rfl rfl (by rfl) (C34x (D := puc 4096 D) (N := puc 4096 N) (HW_subc H oz_T9ecls_8 oz_T9ecls_5) ((mF22 0 1 rfl).trans (pf8)) (n8) (en8) (w8) ((funext (mAu25 8 rfl)).trans (ew8)) (show inr (1) from q_135) (show inr (u1_1) from q_3477 h4 h5) (show 0 ≤ (u1_1) ∧ (u1_1) ≤ 16384 from q_4843 h4 h5) (show 0 ≤ (1) ∧ (1) ≤ 5 from q_5069) (show 1 ≤ ((w8)) 2 ∧ ((w8)) 2 ≤ 65536 from h7) (show 0 ≤ ((w8)) 8 ∧ ((w8)) 8 ≤ 11 from h8) (show 0 ≤ ((w8)) 6 ∧ ((w8)) 6 ≤ 255 from h9) (show (n8) = 10 from h10) (fun z27 σ27 F27ₚ A27ₚ Hₚ Oₚ hS27 hA27 pz27_0 pz27_1 => ⟨rfl, ?_⟩))
      refine v_backc (c := c) (s := s) H oz_T9ecls_8 oz_T9ecls_5 Hₚ Oₚ (fun F27 A27 H Oₚ eF27 eA27 => ?_)
      have O := OUT_trans O Oₚ
      -- PackHouse.boundOf
      have cF27 : SF oz_T9eclsl_1 F F27 := SF_trans (cF22) (SF_gluc (ι := oz_T9eclsl_2) oz_T9ecls_5 hS27 eF27 (by decide +kernel)) (any_sub (lₚ := []) (by decide +kernel))
      have mF27 := SFm_of cF27 oz_T9ecls_4
      have cA27 : SA oz_T9eclsl_0 A A27 := SA_trans (cAu25) (SA_gluc (ι := oz_T9eclsl_2) oz_T9ecls_5 hA27 eA27 (by decide +kernel)) (any_subA (lₚ := []) (by decide +kernel))
      have mA27 := SAm_of cA27 oz_T9ecls_3
      have hbd := pz27_1
      (try clear pz27_1)
      refine w_icmple (t := 308) rfl rfl (show inr (u2_1) from q_38 h2) (show inr (z27) from pz27_0) (fun b28 => ?_) (fun b28 => ?_)
      · refine Ew_of (pcₚ := 309) (fun _ => x_iconst rfl) ?_
        refine w_iaddE rfl ?_
        have g29 : inr (adI (v26) (0)) := toI_inr _
        have hs1 : HID (((adI (v26) (0))) = w32 (((A 7)) 1 + (if BNA ((w8)) 1 ((u1_1)) < (u2_1) then 1 else 0))) := by unfold HID; exact BYN hv1 (by decide) (by (have qg0 := HIDe qv26; have qg1 := HIDe r1; have qg2 := HIDe r2; omega)) hbd (by first | exact .inl ⟨by (have qg0 := HIDe qv26; have qg1 := HIDe r1; have qg2 := HIDe r2; omega), rfl⟩ | exact .inr ⟨by (have qg0 := HIDe qv26; have qg1 := HIDe r1; have qg2 := HIDe r2; omega), rfl⟩)
        (try clear hbd)
        refine v_sI H (o := 7) (z := (adI (v26) (0))) rfl rfl rfl rfl (n := n7) (en7) (show 0 ≤ 1 ∧ 1 < n7 from q_4502 h6) (show inr ((adI (v26) (0))) from g29) (fun σ H Oₚ => ?_)
        have O := OUT_trans O Oₚ
        have cAu30 : SA oz_T9eclsl_0 A (updA A27 7 (1) ((adI (v26) (0)))) := SA_upd (cA27) rfl
        have mAu30 := SAm_of cAu30 oz_T9ecls_3
        have : HID (STR (y0) ((u1_1)) (sc ((A 5)) 0 ((u4_1))) (sc ((A 6)) 0 ((u1_1))) (((A 7)) 0) (((upd1 (upd1 (A 7) (0) ((adI (v9) (1)))) (1) ((adI (v26) (0))))) 0)) := by rw [upd1_o (by decide), upd1_s]; exact hs0
        have : HID (((upd1 (upd1 (A 7) (0) ((adI (v9) (1)))) (1) ((adI (v26) (0))))) 1 = w32 (((A 7)) 1 + (if BNA ((w8)) 1 ((u1_1)) < (u2_1) then 1 else 0))) := by rw [upd1_s]; exact hs1
        refine Ew_of (pcₚ := 312) (fun _ => x_iload_n rfl (rk_o (hl3) rfl rfl)) ?_
        refine Ew_of (pcₚ := 313) (fun _ => x_iconst rfl) ?_
        refine w_icmpne (t := 337) rfl rfl (show inr (1) from q_135) (show inr (4) from q_216) (fun b31 => ?_) (fun b31 => ?_)
        · exact hc337  _ _ _ _  (rk_o (hl0) rfl rfl) (rk_o (hl1) rfl rfl) H O (SF_trans (SF_trans (SF_refl) (SF_gluc (ι := oz_T9eclsl_3) oz_T9ecls_6 hS22 eF22 (by decide +kernel)) (any_sub (lₚ := []) (by decide +kernel))) (SF_gluc (ι := oz_T9eclsl_2) oz_T9ecls_5 hS27 eF27 (by decide +kernel)) (any_sub (lₚ := []) (by decide +kernel))) (SA_upd (SA_trans (SA_upd (SA_trans (SA_refl) (SA_gluc (ι := oz_T9eclsl_3) oz_T9ecls_6 hA22 eA22 (by decide +kernel)) (any_subA (lₚ := []) (by decide +kernel))) rfl) (SA_gluc (ι := oz_T9eclsl_2) oz_T9ecls_5 hA27 eA27 (by decide +kernel)) (any_subA (lₚ := []) (by decide +kernel))) rfl)    (upd1 (upd1 (A 7) (0) ((adI (v9) (1)))) (1) ((adI (v26) (0)))) (congrArg (fun q => upd1 q (1) ((adI (v26) (0)))) (((show A27 7 = (updA A22 7 (0) ((adI (v9) (1)))) 7 from (eA27 7))).trans (congrArg (fun q => upd1 q (0) ((adI (v9) (1)))) ((show A22 7 = A 7 from (eA22 7)))))) (show 0 ≤ (u2_1) ∧ (u2_1) ≤ (n3) ∧ (n3) ≤ 65536 from h2) (show HID (STR (y0) ((u1_1)) (sc ((A 5)) 0 ((u4_1))) (sc ((A 6)) 0 ((u1_1))) (((A 7)) 0) (((upd1 (upd1 (A 7) (0) ((adI (v9) (1)))) (1) ((adI (v26) (0))))) 0)) by assumption) (show HID (((upd1 (upd1 (A 7) (0) ((adI (v9) (1)))) (1) ((adI (v26) (0))))) 1 = w32 (((A 7)) 1 + (if BNA ((w8)) 1 ((u1_1)) < (u2_1) then 1 else 0))) by assumption)
        · exact absurd b31 (by omega)
      · refine Ew_of (pcₚ := 305) (fun _ => x_iconst rfl) ?_
        refine Ew_of (pcₚ := 309) (fun _ => x_goto rfl rfl) ?_
        refine w_iaddE rfl ?_
        have g32 : inr (adI (v26) (1)) := toI_inr _
        have hs1 : HID (((adI (v26) (1))) = w32 (((A 7)) 1 + (if BNA ((w8)) 1 ((u1_1)) < (u2_1) then 1 else 0))) := by unfold HID; exact BYN hv1 (by decide) (by (have qg0 := HIDe qv26; have qg1 := HIDe r1; have qg2 := HIDe r2; omega)) hbd (by first | exact .inl ⟨by (have qg0 := HIDe qv26; have qg1 := HIDe r1; have qg2 := HIDe r2; omega), rfl⟩ | exact .inr ⟨by (have qg0 := HIDe qv26; have qg1 := HIDe r1; have qg2 := HIDe r2; omega), rfl⟩)
        (try clear hbd)
        refine v_sI H (o := 7) (z := (adI (v26) (1))) rfl rfl rfl rfl (n := n7) (en7) (show 0 ≤ 1 ∧ 1 < n7 from q_4502 h6) (show inr ((adI (v26) (1))) from g32) (fun σ H Oₚ => ?_)
        have O := OUT_trans O Oₚ
        have cAu33 : SA oz_T9eclsl_0 A (updA A27 7 (1) ((adI (v26) (1)))) := SA_upd (cA27) rfl
        have mAu33 := SAm_of cAu33 oz_T9ecls_3
        have : HID (STR (y0) ((u1_1)) (sc ((A 5)) 0 ((u4_1))) (sc ((A 6)) 0 ((u1_1))) (((A 7)) 0) (((upd1 (upd1 (A 7) (0) ((adI (v9) (1)))) (1) ((adI (v26) (1))))) 0)) := by rw [upd1_o (by decide), upd1_s]; exact hs0
        have : HID (((upd1 (upd1 (A 7) (0) ((adI (v9) (1)))) (1) ((adI (v26) (1))))) 1 = w32 (((A 7)) 1 + (if BNA ((w8)) 1 ((u1_1)) < (u2_1) then 1 else 0))) := by rw [upd1_s]; exact hs1
        refine Ew_of (pcₚ := 312) (fun _ => x_iload_n rfl (rk_o (hl3) rfl rfl)) ?_
        refine Ew_of (pcₚ := 313) (fun _ => x_iconst rfl) ?_
        refine w_icmpne (t := 337) rfl rfl (show inr (1) from q_135) (show inr (4) from q_216) (fun b34 => ?_) (fun b34 => ?_)
        · exact hc337  _ _ _ _  (rk_o (hl0) rfl rfl) (rk_o (hl1) rfl rfl) H O (SF_trans (SF_trans (SF_refl) (SF_gluc (ι := oz_T9eclsl_3) oz_T9ecls_6 hS22 eF22 (by decide +kernel)) (any_sub (lₚ := []) (by decide +kernel))) (SF_gluc (ι := oz_T9eclsl_2) oz_T9ecls_5 hS27 eF27 (by decide +kernel)) (any_sub (lₚ := []) (by decide +kernel))) (SA_upd (SA_trans (SA_upd (SA_trans (SA_refl) (SA_gluc (ι := oz_T9eclsl_3) oz_T9ecls_6 hA22 eA22 (by decide +kernel)) (any_subA (lₚ := []) (by decide +kernel))) rfl) (SA_gluc (ι := oz_T9eclsl_2) oz_T9ecls_5 hA27 eA27 (by decide +kernel)) (any_subA (lₚ := []) (by decide +kernel))) rfl)    (upd1 (upd1 (A 7) (0) ((adI (v9) (1)))) (1) ((adI (v26) (1)))) (congrArg (fun q => upd1 q (1) ((adI (v26) (1)))) (((show A27 7 = (updA A22 7 (0) ((adI (v9) (1)))) 7 from (eA27 7))).trans (congrArg (fun q => upd1 q (0) ((adI (v9) (1)))) ((show A22 7 = A 7 from (eA22 7)))))) (show 0 ≤ (u2_1) ∧ (u2_1) ≤ (n3) ∧ (n3) ≤ 65536 from h2) (show HID (STR (y0) ((u1_1)) (sc ((A 5)) 0 ((u4_1))) (sc ((A 6)) 0 ((u1_1))) (((A 7)) 0) (((upd1 (upd1 (A 7) (0) ((adI (v9) (1)))) (1) ((adI (v26) (1))))) 0)) by assumption) (show HID (((upd1 (upd1 (A 7) (0) ((adI (v9) (1)))) (1) ((adI (v26) (1))))) 1 = w32 (((A 7)) 1 + (if BNA ((w8)) 1 ((u1_1)) < (u2_1) then 1 else 0))) by assumption)
        · exact absurd b34 (by omega)
    · refine Ew_of (pcₚ := 271) (fun _ => x_iconst rfl) ?_
      refine Ew_of (pcₚ := 275) (fun _ => x_goto rfl rfl) ?_
      refine w_iaddE rfl ?_
      have g35 : inr (adI (v9) (0)) := toI_inr _
      have hs0 : HID (STR (y0) ((u1_1)) (sc ((A 5)) 0 ((u4_1))) (sc ((A 6)) 0 ((u1_1))) (((A 7)) 0) (((adI (v9) (0))))) := by unfold HID; first | exact STR_n hv0 (by (have qg0 := HIDe qv9; have qg1 := HIDe r1; have qg2 := HIDe r3; omega)) | exact STR_u hv0 pz22_1 (by (have qg0 := HIDe qv9; have qg1 := HIDe r1; have qg2 := HIDe r3; omega)) | exact STR_y hv0 (by (have qg0 := HIDe qv9; have qg1 := HIDe r1; have qg2 := HIDe r3; omega)) pz22_1 (by (have qg0 := HIDe qv9; have qg1 := HIDe r1; have qg2 := HIDe r3; omega))
      refine v_sI H (o := 7) (z := (adI (v9) (0))) rfl rfl rfl rfl (n := n7) (en7) (show 0 ≤ 0 ∧ 0 < n7 from q_4457 (HIDe r7) h6) (show inr ((adI (v9) (0))) from g35) (fun σ H Oₚ => ?_)
      have O := OUT_trans O Oₚ
      have cAu36 : SA oz_T9eclsl_0 A (updA A22 7 (0) ((adI (v9) (0)))) := SA_upd (cA22) rfl
      have mAu36 := SAm_of cAu36 oz_T9ecls_3
      refine Ew_of (pcₚ := 278) (fun _ => x_aload_n rfl (rk_o (hl0) rfl rfl)) ?_
      refine v_g H (o := 0) (v := .ref (D 7)) rfl rfl rfl rfl rfl (vrf ((mF22 0 16 rfl).trans (pf7))) ?_
      refine Ew_of (pcₚ := 282) (fun _ => x_iconst rfl) ?_
      refine Ew_of (pcₚ := 283) (fun _ => x_dup2 rfl rfl rfl) ?_
      refine v_lI H (o := 7) rfl rfl rfl rfl (n := n7) (en7) (show 0 ≤ 1 ∧ 1 < n7 from q_4502 h6) (fun v37 ev37 (qv37 : HID _) => ?_)
      have ev37 : (upd1 (A 7) (0) ((adI (v9) (0)))) (1) = v37 := (congrFun (congrArg (fun q => upd1 q (0) ((adI (v9) (0)))) ((show A22 7 = A 7 from (eA22 7)))) (1)).symm.trans ev37
      have hv1 : ((A 7)) 1 = (v37) := by have h := ev37; first | exact h | (rw [upd1_o (by decide)] at h; exact h)
      refine Ew_of (pcₚ := 285) (fun _ => x_aload_n rfl (rk_o (hl0) rfl rfl)) ?_
      refine v_g H (o := 0) (v := .ref (D 2)) rfl rfl rfl rfl rfl (vrf ((mF22 0 5 rfl).trans (pf2))) ?_
      refine v_g H (o := 2) (v := I (u2_1)) rfl rfl rfl rfl rfl (congrArg (fun z : Int => I z) (((mF22 2 1 rfl).trans (eu2_1)) : F22 2 1 = u2_1)) ?_
      refine Ew_of (pcₚ := 292) (fun _ => x_aload_n rfl (rk_o (hl0) rfl rfl)) ?_
      refine Ew_of (pcₚ := 293) (fun _ => x_iload_n rfl (rk_o (hl3) rfl rfl)) ?_
      refine Ew_of (pcₚ := 295) (fun _ => x_aload rfl (rk_o (hl4) rfl rfl)) ?_
      refine v_g H (o := 1) (v := I (u1_1)) rfl rfl rfl rfl rfl (congrArg (fun z : Int => I z) (((mF22 1 1 rfl).trans (eu1_1)) : F22 1 1 = u1_1)) ?_
      refine v_inv H (o := 0) rfl rfl rfl rfl rfl rfl (by rfl) (C34x (D := puc 4096 D) (N := puc 4096 N) (HW_subc H oz_T9ecls_8 oz_T9ecls_5) ((mF22 0 1 rfl).trans (pf8)) (n8) (en8) (w8) ((funext (mAu36 8 rfl)).trans (ew8)) (show inr (1) from q_135) (show inr (u1_1) from q_3477 h4 h5) (show 0 ≤ (u1_1) ∧ (u1_1) ≤ 16384 from q_4843 h4 h5) (show 0 ≤ (1) ∧ (1) ≤ 5 from q_5069) (show 1 ≤ ((w8)) 2 ∧ ((w8)) 2 ≤ 65536 from h7) (show 0 ≤ ((w8)) 8 ∧ ((w8)) 8 ≤ 11 from h8) (show 0 ≤ ((w8)) 6 ∧ ((w8)) 6 ≤ 255 from h9) (show (n8) = 10 from h10) (fun z38 σ38 F38ₚ A38ₚ Hₚ Oₚ hS38 hA38 pz38_0 pz38_1 => ⟨rfl, ?_⟩))
      refine v_backc (c := c) (s := s) H oz_T9ecls_8 oz_T9ecls_5 Hₚ Oₚ (fun F38 A38 H Oₚ eF38 eA38 => ?_)
      have O := OUT_trans O Oₚ
      -- PackHouse.boundOf
      have cF38 : SF oz_T9eclsl_1 F F38 := SF_trans (cF22) (SF_gluc (ι := oz_T9eclsl_2) oz_T9ecls_5 hS38 eF38 (by decide +kernel)) (any_sub (lₚ := []) (by decide +kernel))
      have mF38 := SFm_of cF38 oz_T9ecls_4
      have cA38 : SA oz_T9eclsl_0 A A38 := SA_trans (cAu36) (SA_gluc (ι := oz_T9eclsl_2) oz_T9ecls_5 hA38 eA38 (by decide +kernel)) (any_subA (lₚ := []) (by decide +kernel))
      have mA38 := SAm_of cA38 oz_T9ecls_3
      have hbd := pz38_1
      (try clear pz38_1)
      refine w_icmple (t := 308) rfl rfl (show inr (u2_1) from q_38 h2) (show inr (z38) from pz38_0) (fun b39 => ?_) (fun b39 => ?_)
      · refine Ew_of (pcₚ := 309) (fun _ => x_iconst rfl) ?_
        refine w_iaddE rfl ?_
        have g40 : inr (adI (v37) (0)) := toI_inr _
        have hs1 : HID (((adI (v37) (0))) = w32 (((A 7)) 1 + (if BNA ((w8)) 1 ((u1_1)) < (u2_1) then 1 else 0))) := by unfold HID; exact BYN hv1 (by decide) (by (have qg0 := HIDe qv37; have qg1 := HIDe r1; have qg2 := HIDe r2; omega)) hbd (by first | exact .inl ⟨by (have qg0 := HIDe qv37; have qg1 := HIDe r1; have qg2 := HIDe r2; omega), rfl⟩ | exact .inr ⟨by (have qg0 := HIDe qv37; have qg1 := HIDe r1; have qg2 := HIDe r2; omega), rfl⟩)
        (try clear hbd)
        refine v_sI H (o := 7) (z := (adI (v37) (0))) rfl rfl rfl rfl (n := n7) (en7) (show 0 ≤ 1 ∧ 1 < n7 from q_4502 h6) (show inr ((adI (v37) (0))) from g40) (fun σ H Oₚ => ?_)
        have O := OUT_trans O Oₚ
        have cAu41 : SA oz_T9eclsl_0 A (updA A38 7 (1) ((adI (v37) (0)))) := SA_upd (cA38) rfl
        have mAu41 := SAm_of cAu41 oz_T9ecls_3
        have : HID (STR (y0) ((u1_1)) (sc ((A 5)) 0 ((u4_1))) (sc ((A 6)) 0 ((u1_1))) (((A 7)) 0) (((upd1 (upd1 (A 7) (0) ((adI (v9) (0)))) (1) ((adI (v37) (0))))) 0)) := by rw [upd1_o (by decide), upd1_s]; exact hs0
        have : HID (((upd1 (upd1 (A 7) (0) ((adI (v9) (0)))) (1) ((adI (v37) (0))))) 1 = w32 (((A 7)) 1 + (if BNA ((w8)) 1 ((u1_1)) < (u2_1) then 1 else 0))) := by rw [upd1_s]; exact hs1
        refine Ew_of (pcₚ := 312) (fun _ => x_iload_n rfl (rk_o (hl3) rfl rfl)) ?_
        refine Ew_of (pcₚ := 313) (fun _ => x_iconst rfl) ?_
        refine w_icmpne (t := 337) rfl rfl (show inr (1) from q_135) (show inr (4) from q_216) (fun b42 => ?_) (fun b42 => ?_)
        · exact hc337  _ _ _ _  (rk_o (hl0) rfl rfl) (rk_o (hl1) rfl rfl) H O (SF_trans (SF_trans (SF_refl) (SF_gluc (ι := oz_T9eclsl_3) oz_T9ecls_6 hS22 eF22 (by decide +kernel)) (any_sub (lₚ := []) (by decide +kernel))) (SF_gluc (ι := oz_T9eclsl_2) oz_T9ecls_5 hS38 eF38 (by decide +kernel)) (any_sub (lₚ := []) (by decide +kernel))) (SA_upd (SA_trans (SA_upd (SA_trans (SA_refl) (SA_gluc (ι := oz_T9eclsl_3) oz_T9ecls_6 hA22 eA22 (by decide +kernel)) (any_subA (lₚ := []) (by decide +kernel))) rfl) (SA_gluc (ι := oz_T9eclsl_2) oz_T9ecls_5 hA38 eA38 (by decide +kernel)) (any_subA (lₚ := []) (by decide +kernel))) rfl)    (upd1 (upd1 (A 7) (0) ((adI (v9) (0)))) (1) ((adI (v37) (0)))) (congrArg (fun q => upd1 q (1) ((adI (v37) (0)))) (((show A38 7 = (updA A22 7 (0) ((adI (v9) (0)))) 7 from (eA38 7))).trans (congrArg (fun q => upd1 q (0) ((adI (v9) (0)))) ((show A22 7 = A 7 from (eA22 7)))))) (show 0 ≤ (u2_1) ∧ (u2_1) ≤ (n3) ∧ (n3) ≤ 65536 from h2) (show HID (STR (y0) ((u1_1)) (sc ((A 5)) 0 ((u4_1))) (sc ((A 6)) 0 ((u1_1))) (((A 7)) 0) (((upd1 (upd1 (A 7) (0) ((adI (v9) (0)))) (1) ((adI (v37) (0))))) 0)) by assumption) (show HID (((upd1 (upd1 (A 7) (0) ((adI (v9) (0)))) (1) ((adI (v37) (0))))) 1 = w32 (((A 7)) 1 + (if BNA ((w8)) 1 ((u1_1)) < (u2_1) then 1 else 0))) by assumption)
        · exact absurd b42 (by omega)
      · refine Ew_of (pcₚ := 305) (fun _ => x_iconst rfl) ?_
        refine Ew_of (pcₚ := 309) (fun _ => x_goto rfl rfl) ?_
        refine w_iaddE rfl ?_
        have g43 : inr (adI (v37) (1)) := toI_inr _
        have hs1 : HID (((adI (v37) (1))) = w32 (((A 7)) 1 + (if BNA ((w8)) 1 ((u1_1)) < (u2_1) then 1 else 0))) := by unfold HID; exact BYN hv1 (by decide) (by (have qg0 := HIDe qv37; have qg1 := HIDe r1; have qg2 := HIDe r2; omega)) hbd (by first | exact .inl ⟨by (have qg0 := HIDe qv37; have qg1 := HIDe r1; have qg2 := HIDe r2; omega), rfl⟩ | exact .inr ⟨by (have qg0 := HIDe qv37; have qg1 := HIDe r1; have qg2 := HIDe r2; omega), rfl⟩)
        (try clear hbd)
        refine v_sI H (o := 7) (z := (adI (v37) (1))) rfl rfl rfl rfl (n := n7) (en7) (show 0 ≤ 1 ∧ 1 < n7 from q_4502 h6) (show inr ((adI (v37) (1))) from g43) (fun σ H Oₚ => ?_)
        have O := OUT_trans O Oₚ
        have cAu44 : SA oz_T9eclsl_0 A (updA A38 7 (1) ((adI (v37) (1)))) := SA_upd (cA38) rfl
        have mAu44 := SAm_of cAu44 oz_T9ecls_3
        have : HID (STR (y0) ((u1_1)) (sc ((A 5)) 0 ((u4_1))) (sc ((A 6)) 0 ((u1_1))) (((A 7)) 0) (((upd1 (upd1 (A 7) (0) ((adI (v9) (0)))) (1) ((adI (v37) (1))))) 0)) := by rw [upd1_o (by decide), upd1_s]; exact hs0
        have : HID (((upd1 (upd1 (A 7) (0) ((adI (v9) (0)))) (1) ((adI (v37) (1))))) 1 = w32 (((A 7)) 1 + (if BNA ((w8)) 1 ((u1_1)) < (u2_1) then 1 else 0))) := by rw [upd1_s]; exact hs1
        refine Ew_of (pcₚ := 312) (fun _ => x_iload_n rfl (rk_o (hl3) rfl rfl)) ?_
        refine Ew_of (pcₚ := 313) (fun _ => x_iconst rfl) ?_
        refine w_icmpne (t := 337) rfl rfl (show inr (1) from q_135) (show inr (4) from q_216) (fun b45 => ?_) (fun b45 => ?_)
        · exact hc337  _ _ _ _  (rk_o (hl0) rfl rfl) (rk_o (hl1) rfl rfl) H O (SF_trans (SF_trans (SF_refl) (SF_gluc (ι := oz_T9eclsl_3) oz_T9ecls_6 hS22 eF22 (by decide +kernel)) (any_sub (lₚ := []) (by decide +kernel))) (SF_gluc (ι := oz_T9eclsl_2) oz_T9ecls_5 hS38 eF38 (by decide +kernel)) (any_sub (lₚ := []) (by decide +kernel))) (SA_upd (SA_trans (SA_upd (SA_trans (SA_refl) (SA_gluc (ι := oz_T9eclsl_3) oz_T9ecls_6 hA22 eA22 (by decide +kernel)) (any_subA (lₚ := []) (by decide +kernel))) rfl) (SA_gluc (ι := oz_T9eclsl_2) oz_T9ecls_5 hA38 eA38 (by decide +kernel)) (any_subA (lₚ := []) (by decide +kernel))) rfl)    (upd1 (upd1 (A 7) (0) ((adI (v9) (0)))) (1) ((adI (v37) (1)))) (congrArg (fun q => upd1 q (1) ((adI (v37) (1)))) (((show A38 7 = (updA A22 7 (0) ((adI (v9) (0)))) 7 from (eA38 7))).trans (congrArg (fun q => upd1 q (0) ((adI (v9) (0)))) ((show A22 7 = A 7 from (eA22 7)))))) (show 0 ≤ (u2_1) ∧ (u2_1) ≤ (n3) ∧ (n3) ≤ 65536 from h2) (show HID (STR (y0) ((u1_1)) (sc ((A 5)) 0 ((u4_1))) (sc ((A 6)) 0 ((u1_1))) (((A 7)) 0) (((upd1 (upd1 (A 7) (0) ((adI (v9) (0)))) (1) ((adI (v37) (1))))) 0)) by assumption) (show HID (((upd1 (upd1 (A 7) (0) ((adI (v9) (0)))) (1) ((adI (v37) (1))))) 1 = w32 (((A 7)) 1 + (if BNA ((w8)) 1 ((u1_1)) < (u2_1) then 1 else 0))) by assumption)
        · exact absurd b45 (by omega)
abbrev V17_vE2 : vV := [(0, 0, [(4, 0), (4, 0), (4, 0), (4, 0), (4, 0), (4, 0), (4, 0), (4, 0), (4, 0), (4, 0), (4, 0), (4, 0), (4, 0), (4, 0), (4, 0), (4, 0), (4, 0), (0, 0), (0, 0)]), (0, 7, [(4, 0), (0, 0), (1, 0), (0, 0), (0, 0)]), (0, 7, [(4, 0), (0, 0), (1, 0), (0, 0), (0, 0)]), (1, 0, []), (0, 7, [(4, 0), (0, 0), (1, 0), (0, 0), (0, 0)]), (1, 0, []), (1, 0, []), (1, 1, []), (1, 1, [])]
theorem len_V17_vE2_oz_T9ecls : (V17_vE2).length = 9 := by decide +kernel
theorem oz_T9ecls_11 : vsub V17_vE2 V34 [0, 8] = true := by decide +kernel
theorem oz_T9ecls_12 : vsub V17_vE2 V29_Row_Row [4, 1, 5, 6] = true := by decide +kernel

theorem C17_vE2 {σE : rS} {D N : Nat → Nat} {F : hF} {A : hA} {d c s : Nat} {Q : wQ} (H : HW V17_vE2 σE D N F A) {x1 y0 : Int} (pf2 : HID (F 0 5 = (D 2 : Int))) (pf3 : HID (F 2 0 = (D 3 : Int))) (pf4 : HID (F 0 6 = (D 4 : Int))) (pf5 : HID (F 4 0 = (D 5 : Int))) (pf6 : HID (F 1 0 = (D 6 : Int))) (pf7 : HID (F 0 16 = (D 7 : Int))) (pf8 : HID (F 0 1 = (D 8 : Int))) (n3 : Int) (en3 : HID ((N 3 : Int) = n3)) (n5 : Int) (en5 : HID ((N 5 : Int) = n5)) (n6 : Int) (en6 : HID ((N 6 : Int) = n6)) (n7 : Int) (en7 : HID ((N 7 : Int) = n7)) (n8 : Int) (en8 : HID ((N 8 : Int) = n8)) (u1_1 : Int) (eu1_1 : HID (F 1 1 = u1_1)) (u2_1 : Int) (eu2_1 : HID (F 2 1 = u2_1)) (u4_1 : Int) (eu4_1 : HID (F 4 1 = u4_1)) (w8 : Int → Int) (ew8 : A 8 = w8) {ls : rO} (hl0 : rlook ls 0 = some (.ref (D 0))) (hl1 : rlook ls 1 = some (I (x1))) (hl3 : rlook ls 3 = some (I (2))) (hl4 : rlook ls 4 = some (.ref (D 1))) (h0 : inr (x1)) (h1 : inr y0) (h2 : 0 ≤ (u2_1) ∧ (u2_1) ≤ (n3) ∧ (n3) ≤ 65536) (h3 : 0 ≤ (u4_1) ∧ (u4_1) ≤ (n5) ∧ (n5) ≤ 65536) (h4 : 0 ≤ (u1_1) ∧ (u1_1) ≤ (n6) ∧ (n6) ≤ 65536) (h5 : (u1_1) ≤ 16384) (h6 : (n7) = 2) (h7 : 1 ≤ ((w8)) 2 ∧ ((w8)) 2 ≤ 65536) (h8 : 0 ≤ ((w8)) 8 ∧ ((w8)) 8 ≤ 11) (h9 : 0 ≤ ((w8)) 6 ∧ ((w8)) 6 ≤ 255) (h10 : (n8) = 10) (hc337 : ∀ (ls : rO) (σ : rS) (F_c337 : hF) (A_c337 : hA) , rlook ls 0 = some (.ref (D 0)) → rlook ls 1 = some (I (x1)) → HW V17_vE2 σ D N F_c337 A_c337 → OUT (V17_vE2).length D N σE c s D N σ c s → SF [] F F_c337 → SA [7] A A_c337 → ∀ wc337_7 : Int → Int, A_c337 7 = wc337_7 → (0 ≤ (u2_1) ∧ (u2_1) ≤ (n3) ∧ (n3) ≤ 65536) → (HID (STR (y0) ((u1_1)) (sc ((A 5)) 0 ((u4_1))) (sc ((A 6)) 0 ((u1_1))) (((A 7)) 0) (((wc337_7)) 0))) → (HID (((wc337_7)) 1 = w32 (((A 7)) 1 + (if BNA ((w8)) 2 ((u1_1)) < (u2_1) then 1 else 0)))) → Ew 17 (d + 3) 337 ls [] σ c s Q) (k : ∀ (z : Int) (σ : rS) (Fₚ : hF) (Aₚ : hA), HW V17_vE2 σ D N Fₚ Aₚ → OUT (V17_vE2).length D N σE c s D N σ c s → SF [] F Fₚ → SA [7] A Aₚ → (inr (z)) → ((0 : Int) = 1) → Q (some (I z)) σ c s) : Ew 17 (d + 3) 239 ls [I (y0)] σE c s Q := by
  have O := OUT_refl (n := (V17_vE2).length) (D := D) (N := N) (σ := σE) (c := c) (s := s)
  have HE := H
  have r1 : HID ((-2147483648 : Int) ≤ u1_1 ∧ u1_1 ≤ 2147483647) := krg_e (show (-2147483648 : Int) ≤ F 1 1 ∧ F 1 1 ≤ 2147483647 from H.krg 1 1 (ltn len_V17_vE2_oz_T9ecls rfl)) (show F 1 1 = u1_1 from (eu1_1))
  have r2 : HID ((-2147483648 : Int) ≤ u2_1 ∧ u2_1 ≤ 2147483647) := krg_e (show (-2147483648 : Int) ≤ F 2 1 ∧ F 2 1 ≤ 2147483647 from H.krg 2 1 (ltn len_V17_vE2_oz_T9ecls rfl)) (show F 2 1 = u2_1 from (eu2_1))
  have r3 : HID ((-2147483648 : Int) ≤ u4_1 ∧ u4_1 ≤ 2147483647) := krg_e (show (-2147483648 : Int) ≤ F 4 1 ∧ F 4 1 ≤ 2147483647 from H.krg 4 1 (ltn len_V17_vE2_oz_T9ecls rfl)) (show F 4 1 = u4_1 from (eu4_1))
  have r7 : HID ((0 : Int) ≤ n7 ∧ n7 ≤ 1000000) := nrng (H.nle 7 (ltn len_V17_vE2_oz_T9ecls rfl)) (show (N 7 : Int) = n7 from en7)
  refine Ew_of (pcₚ := 241) (fun _ => x_istore rfl) ?_
  refine Ew_of (pcₚ := 242) (fun _ => x_aload_n rfl (rk_o (hl0) rfl rfl)) ?_
  refine v_g H (o := 0) (v := .ref (D 7)) rfl rfl rfl rfl rfl (vrf (pf7)) ?_
  refine Ew_of (pcₚ := 246) (fun _ => x_iconst rfl) ?_
  refine Ew_of (pcₚ := 247) (fun _ => x_dup2 rfl rfl rfl) ?_
  refine v_lI H (o := 7) rfl rfl rfl rfl (n := n7) (en7) (show 0 ≤ 0 ∧ 0 < n7 from q_4457 (HIDe r7) h6) (fun v9 ev9 (qv9 : HID _) => ?_)
  have ev9 : (A 7) (0) = v9 := (congrFun (rfl : A 7 = A 7) (0)).symm.trans ev9
  have hv0 := ev9
  refine Ew_of (pcₚ := 250) (fun _ => x_iload rfl rk_s) ?_
  refine Ew_of (pcₚ := 252) (fun _ => x_aload rfl (rk_o (hl4) rfl rfl)) ?_
  refine v_g H (o := 1) (v := I (u1_1)) rfl rfl rfl rfl rfl (congrArg (fun z : Int => I z) ((eu1_1) : F 1 1 = u1_1)) ?_
  refine w_icmpne (t := 274) rfl rfl (show inr (y0) from h1) (show inr (u1_1) from q_3477 h4 h5) (fun b10 => ?_) (fun b10 => ?_)
  · refine Ew_of (pcₚ := 275) (fun _ => x_iconst rfl) ?_
    refine w_iaddE rfl ?_
    have g11 : inr (adI (v9) (1)) := toI_inr _
    have hs0 : HID (STR (y0) ((u1_1)) (sc ((A 5)) 0 ((u4_1))) (sc ((A 6)) 0 ((u1_1))) (((A 7)) 0) (((adI (v9) (1))))) := by unfold HID; first | exact STR_n hv0 (by (have qg0 := HIDe qv9; have qg1 := HIDe r1; have qg2 := HIDe r3; omega)) | exact STR_u hv0 pNONE_1 (by (have qg0 := HIDe qv9; have qg1 := HIDe r1; have qg2 := HIDe r3; omega)) | exact STR_y hv0 (by (have qg0 := HIDe qv9; have qg1 := HIDe r1; have qg2 := HIDe r3; omega)) pNONE_1 (by (have qg0 := HIDe qv9; have qg1 := HIDe r1; have qg2 := HIDe r3; omega))
    refine v_sI H (o := 7) (z := (adI (v9) (1))) rfl rfl rfl rfl (n := n7) (en7) (show 0 ≤ 0 ∧ 0 < n7 from q_4457 (HIDe r7) h6) (show inr ((adI (v9) (1))) from g11) (fun σ H Oₚ => ?_)
    have O := OUT_trans O Oₚ
    have cAu12 : SA oz_T9eclsl_0 A (updA A 7 (0) ((adI (v9) (1)))) := SA_upd (SA_refl) rfl
    have mAu12 := SAm_of cAu12 oz_T9ecls_3
    refine Ew_of (pcₚ := 278) (fun _ => x_aload_n rfl (rk_o (hl0) rfl rfl)) ?_
    refine v_g H (o := 0) (v := .ref (D 7)) rfl rfl rfl rfl rfl (vrf (pf7)) ?_
    refine Ew_of (pcₚ := 282) (fun _ => x_iconst rfl) ?_
    refine Ew_of (pcₚ := 283) (fun _ => x_dup2 rfl rfl rfl) ?_
    refine v_lI H (o := 7) rfl rfl rfl rfl (n := n7) (en7) (show 0 ≤ 1 ∧ 1 < n7 from q_4502 h6) (fun v13 ev13 (qv13 : HID _) => ?_)
    have ev13 : (upd1 (A 7) (0) ((adI (v9) (1)))) (1) = v13 := (congrFun (rfl : (updA A 7 (0) ((adI (v9) (1)))) 7 = upd1 (A 7) (0) ((adI (v9) (1)))) (1)).symm.trans ev13
    have hv1 : ((A 7)) 1 = (v13) := by have h := ev13; first | exact h | (rw [upd1_o (by decide)] at h; exact h)
    refine Ew_of (pcₚ := 285) (fun _ => x_aload_n rfl (rk_o (hl0) rfl rfl)) ?_
    refine v_g H (o := 0) (v := .ref (D 2)) rfl rfl rfl rfl rfl (vrf (pf2)) ?_
    refine v_g H (o := 2) (v := I (u2_1)) rfl rfl rfl rfl rfl (congrArg (fun z : Int => I z) ((eu2_1) : F 2 1 = u2_1)) ?_
    refine Ew_of (pcₚ := 292) (fun _ => x_aload_n rfl (rk_o (hl0) rfl rfl)) ?_
    refine Ew_of (pcₚ := 293) (fun _ => x_iload_n rfl (rk_o (hl3) rfl rfl)) ?_
    refine Ew_of (pcₚ := 295) (fun _ => x_aload rfl (rk_o (hl4) rfl rfl)) ?_
    refine v_g H (o := 1) (v := I (u1_1)) rfl rfl rfl rfl rfl (congrArg (fun z : Int => I z) ((eu1_1) : F 1 1 = u1_1)) ?_
    refine v_inv H (o := 0) rfl rfl rfl rfl rfl rfl (by rfl) (C34x (D := puc 4096 D) (N := puc 4096 N) (HW_subc H oz_T9ecls_11 oz_T9ecls_5) (pf8) (n8) (en8) (w8) ((funext (mAu12 8 rfl)).trans (ew8)) (show inr (2) from q_122) (show inr (u1_1) from q_3477 h4 h5) (show 0 ≤ (u1_1) ∧ (u1_1) ≤ 16384 from q_4843 h4 h5) (show 0 ≤ (2) ∧ (2) ≤ 5 from q_5070) (show 1 ≤ ((w8)) 2 ∧ ((w8)) 2 ≤ 65536 from h7) (show 0 ≤ ((w8)) 8 ∧ ((w8)) 8 ≤ 11 from h8) (show 0 ≤ ((w8)) 6 ∧ ((w8)) 6 ≤ 255 from h9) (show (n8) = 10 from h10) (fun z14 σ14 F14ₚ A14ₚ Hₚ Oₚ hS14 hA14 pz14_0 pz14_1 => ⟨rfl, ?_⟩))
    refine v_backc (c := c) (s := s) H oz_T9ecls_11 oz_T9ecls_5 Hₚ Oₚ (fun F14 A14 H Oₚ eF14 eA14 => ?_)
    have O := OUT_trans O Oₚ
    -- PackHouse.boundOf
    have cF14 : SF oz_T9eclsl_1 F F14 := SF_trans (SF_refl) (SF_gluc (ι := oz_T9eclsl_2) oz_T9ecls_5 hS14 eF14 (by decide +kernel)) (any_sub (lₚ := []) (by decide +kernel))
    have mF14 := SFm_of cF14 oz_T9ecls_4
    have cA14 : SA oz_T9eclsl_0 A A14 := SA_trans (cAu12) (SA_gluc (ι := oz_T9eclsl_2) oz_T9ecls_5 hA14 eA14 (by decide +kernel)) (any_subA (lₚ := []) (by decide +kernel))
    have mA14 := SAm_of cA14 oz_T9ecls_3
    have hbd := pz14_1
    (try clear pz14_1)
    refine w_icmple (t := 308) rfl rfl (show inr (u2_1) from q_38 h2) (show inr (z14) from pz14_0) (fun b15 => ?_) (fun b15 => ?_)
    · refine Ew_of (pcₚ := 309) (fun _ => x_iconst rfl) ?_
      refine w_iaddE rfl ?_
      have g16 : inr (adI (v13) (0)) := toI_inr _
      have hs1 : HID (((adI (v13) (0))) = w32 (((A 7)) 1 + (if BNA ((w8)) 2 ((u1_1)) < (u2_1) then 1 else 0))) := by unfold HID; exact BYN hv1 (by decide) (by (have qg0 := HIDe qv13; have qg1 := HIDe r1; have qg2 := HIDe r2; omega)) hbd (by first | exact .inl ⟨by (have qg0 := HIDe qv13; have qg1 := HIDe r1; have qg2 := HIDe r2; omega), rfl⟩ | exact .inr ⟨by (have qg0 := HIDe qv13; have qg1 := HIDe r1; have qg2 := HIDe r2; omega), rfl⟩)
      (try clear hbd)
      refine v_sI H (o := 7) (z := (adI (v13) (0))) rfl rfl rfl rfl (n := n7) (en7) (show 0 ≤ 1 ∧ 1 < n7 from q_4502 h6) (show inr ((adI (v13) (0))) from g16) (fun σ H Oₚ => ?_)
      have O := OUT_trans O Oₚ
      have cAu17 : SA oz_T9eclsl_0 A (updA A14 7 (1) ((adI (v13) (0)))) := SA_upd (cA14) rfl
      have mAu17 := SAm_of cAu17 oz_T9ecls_3
      have : HID (STR (y0) ((u1_1)) (sc ((A 5)) 0 ((u4_1))) (sc ((A 6)) 0 ((u1_1))) (((A 7)) 0) (((upd1 (upd1 (A 7) (0) ((adI (v9) (1)))) (1) ((adI (v13) (0))))) 0)) := by rw [upd1_o (by decide), upd1_s]; exact hs0
      have : HID (((upd1 (upd1 (A 7) (0) ((adI (v9) (1)))) (1) ((adI (v13) (0))))) 1 = w32 (((A 7)) 1 + (if BNA ((w8)) 2 ((u1_1)) < (u2_1) then 1 else 0))) := by rw [upd1_s]; exact hs1
      refine Ew_of (pcₚ := 312) (fun _ => x_iload_n rfl (rk_o (hl3) rfl rfl)) ?_
      refine Ew_of (pcₚ := 313) (fun _ => x_iconst rfl) ?_
      refine w_icmpne (t := 337) rfl rfl (show inr (2) from q_122) (show inr (4) from q_216) (fun b18 => ?_) (fun b18 => ?_)
      · exact hc337  _ _ _ _  (rk_o (hl0) rfl rfl) (rk_o (hl1) rfl rfl) H O (SF_trans (SF_refl) (SF_gluc (ι := oz_T9eclsl_2) oz_T9ecls_5 hS14 eF14 (by decide +kernel)) (any_sub (lₚ := []) (by decide +kernel))) (SA_upd (SA_trans (SA_upd (SA_refl) rfl) (SA_gluc (ι := oz_T9eclsl_2) oz_T9ecls_5 hA14 eA14 (by decide +kernel)) (any_subA (lₚ := []) (by decide +kernel))) rfl)    (upd1 (upd1 (A 7) (0) ((adI (v9) (1)))) (1) ((adI (v13) (0)))) (congrArg (fun q => upd1 q (1) ((adI (v13) (0)))) ((show A14 7 = (updA A 7 (0) ((adI (v9) (1)))) 7 from (eA14 7)))) (show 0 ≤ (u2_1) ∧ (u2_1) ≤ (n3) ∧ (n3) ≤ 65536 from h2) (show HID (STR (y0) ((u1_1)) (sc ((A 5)) 0 ((u4_1))) (sc ((A 6)) 0 ((u1_1))) (((A 7)) 0) (((upd1 (upd1 (A 7) (0) ((adI (v9) (1)))) (1) ((adI (v13) (0))))) 0)) by assumption) (show HID (((upd1 (upd1 (A 7) (0) ((adI (v9) (1)))) (1) ((adI (v13) (0))))) 1 = w32 (((A 7)) 1 + (if BNA ((w8)) 2 ((u1_1)) < (u2_1) then 1 else 0))) by assumption)
      · exact absurd b18 (by omega)
    · refine Ew_of (pcₚ := 305) (fun _ => x_iconst rfl) ?_
      refine Ew_of (pcₚ := 309) (fun _ => x_goto rfl rfl) ?_
      refine w_iaddE rfl ?_
      have g19 : inr (adI (v13) (1)) := toI_inr _
      have hs1 : HID (((adI (v13) (1))) = w32 (((A 7)) 1 + (if BNA ((w8)) 2 ((u1_1)) < (u2_1) then 1 else 0))) := by unfold HID; exact BYN hv1 (by decide) (by (have qg0 := HIDe qv13; have qg1 := HIDe r1; have qg2 := HIDe r2; omega)) hbd (by first | exact .inl ⟨by (have qg0 := HIDe qv13; have qg1 := HIDe r1; have qg2 := HIDe r2; omega), rfl⟩ | exact .inr ⟨by (have qg0 := HIDe qv13; have qg1 := HIDe r1; have qg2 := HIDe r2; omega), rfl⟩)
      (try clear hbd)
      refine v_sI H (o := 7) (z := (adI (v13) (1))) rfl rfl rfl rfl (n := n7) (en7) (show 0 ≤ 1 ∧ 1 < n7 from q_4502 h6) (show inr ((adI (v13) (1))) from g19) (fun σ H Oₚ => ?_)
      have O := OUT_trans O Oₚ
      have cAu20 : SA oz_T9eclsl_0 A (updA A14 7 (1) ((adI (v13) (1)))) := SA_upd (cA14) rfl
      have mAu20 := SAm_of cAu20 oz_T9ecls_3
      have : HID (STR (y0) ((u1_1)) (sc ((A 5)) 0 ((u4_1))) (sc ((A 6)) 0 ((u1_1))) (((A 7)) 0) (((upd1 (upd1 (A 7) (0) ((adI (v9) (1)))) (1) ((adI (v13) (1))))) 0)) := by rw [upd1_o (by decide), upd1_s]; exact hs0
      have : HID (((upd1 (upd1 (A 7) (0) ((adI (v9) (1)))) (1) ((adI (v13) (1))))) 1 = w32 (((A 7)) 1 + (if BNA ((w8)) 2 ((u1_1)) < (u2_1) then 1 else 0))) := by rw [upd1_s]; exact hs1
      refine Ew_of (pcₚ := 312) (fun _ => x_iload_n rfl (rk_o (hl3) rfl rfl)) ?_
      refine Ew_of (pcₚ := 313) (fun _ => x_iconst rfl) ?_
      refine w_icmpne (t := 337) rfl rfl (show inr (2) from q_122) (show inr (4) from q_216) (fun b21 => ?_) (fun b21 => ?_)
      · exact hc337  _ _ _ _  (rk_o (hl0) rfl rfl) (rk_o (hl1) rfl rfl) H O (SF_trans (SF_refl) (SF_gluc (ι := oz_T9eclsl_2) oz_T9ecls_5 hS14 eF14 (by decide +kernel)) (any_sub (lₚ := []) (by decide +kernel))) (SA_upd (SA_trans (SA_upd (SA_refl) rfl) (SA_gluc (ι := oz_T9eclsl_2) oz_T9ecls_5 hA14 eA14 (by decide +kernel)) (any_subA (lₚ := []) (by decide +kernel))) rfl)    (upd1 (upd1 (A 7) (0) ((adI (v9) (1)))) (1) ((adI (v13) (1)))) (congrArg (fun q => upd1 q (1) ((adI (v13) (1)))) ((show A14 7 = (updA A 7 (0) ((adI (v9) (1)))) 7 from (eA14 7)))) (show 0 ≤ (u2_1) ∧ (u2_1) ≤ (n3) ∧ (n3) ≤ 65536 from h2) (show HID (STR (y0) ((u1_1)) (sc ((A 5)) 0 ((u4_1))) (sc ((A 6)) 0 ((u1_1))) (((A 7)) 0) (((upd1 (upd1 (A 7) (0) ((adI (v9) (1)))) (1) ((adI (v13) (1))))) 0)) by assumption) (show HID (((upd1 (upd1 (A 7) (0) ((adI (v9) (1)))) (1) ((adI (v13) (1))))) 1 = w32 (((A 7)) 1 + (if BNA ((w8)) 2 ((u1_1)) < (u2_1) then 1 else 0))) by assumption)
      · exact absurd b21 (by omega)
  · refine Ew_of (pcₚ := 259) (fun _ => x_aload_n rfl (rk_o (hl0) rfl rfl)) ?_
    refine v_g H (o := 0) (v := .ref (D 4)) rfl rfl rfl rfl rfl (vrf (pf4)) ?_
    refine Ew_of (pcₚ := 264) (fun _ => x_aload rfl (rk_o (hl4) rfl rfl)) ?_
    refine w_stat24 rfl rfl (by rfl) (C29_Row_Rowp (D := puc 806617604 D) (N := puc 806617604 N) (HW_subc H oz_T9ecls_12 oz_T9ecls_6) (pf5) (pf6) (n5) (en5) (n6) (en6) (u4_1) ((eu4_1)) (u1_1) ((eu1_1)) (A 5) (rfl) (A 6) (rfl) (show 0 ≤ (u4_1) ∧ (u4_1) ≤ (n5) ∧ (n5) ≤ 65536 from h3) (show 0 ≤ (u1_1) ∧ (u1_1) ≤ (n6) ∧ (n6) ≤ 65536 from h4) (fun z22 σ22 F22ₚ A22ₚ Hₚ Oₚ hS22 hA22 pz22_0 pz22_1 => ⟨rfl, ?_⟩))
    refine v_backc (c := c) (s := s) H oz_T9ecls_12 oz_T9ecls_6 Hₚ Oₚ (fun F22 A22 H Oₚ eF22 eA22 => ?_)
    have O := OUT_trans O Oₚ
    -- PackHouse.firstUnlike
    have cF22 : SF oz_T9eclsl_1 F F22 := SF_trans (SF_refl) (SF_gluc (ι := oz_T9eclsl_3) oz_T9ecls_6 hS22 eF22 (by decide +kernel)) (any_sub (lₚ := []) (by decide +kernel))
    have mF22 := SFm_of cF22 oz_T9ecls_4
    have cA22 : SA oz_T9eclsl_0 A A22 := SA_trans (SA_refl) (SA_gluc (ι := oz_T9eclsl_3) oz_T9ecls_6 hA22 eA22 (by decide +kernel)) (any_subA (lₚ := []) (by decide +kernel))
    have mA22 := SAm_of cA22 oz_T9ecls_3
    refine w_ifge (t := 274) rfl rfl (show inr (z22) from pz22_0) (fun b23 => ?_) (fun b23 => ?_)
    · refine Ew_of (pcₚ := 275) (fun _ => x_iconst rfl) ?_
      refine w_iaddE rfl ?_
      have g24 : inr (adI (v9) (1)) := toI_inr _
      have hs0 : HID (STR (y0) ((u1_1)) (sc ((A 5)) 0 ((u4_1))) (sc ((A 6)) 0 ((u1_1))) (((A 7)) 0) (((adI (v9) (1))))) := by unfold HID; first | exact STR_n hv0 (by (have qg0 := HIDe qv9; have qg1 := HIDe r1; have qg2 := HIDe r3; omega)) | exact STR_u hv0 pz22_1 (by (have qg0 := HIDe qv9; have qg1 := HIDe r1; have qg2 := HIDe r3; omega)) | exact STR_y hv0 (by (have qg0 := HIDe qv9; have qg1 := HIDe r1; have qg2 := HIDe r3; omega)) pz22_1 (by (have qg0 := HIDe qv9; have qg1 := HIDe r1; have qg2 := HIDe r3; omega))
      refine v_sI H (o := 7) (z := (adI (v9) (1))) rfl rfl rfl rfl (n := n7) (en7) (show 0 ≤ 0 ∧ 0 < n7 from q_4457 (HIDe r7) h6) (show inr ((adI (v9) (1))) from g24) (fun σ H Oₚ => ?_)
      have O := OUT_trans O Oₚ
      have cAu25 : SA oz_T9eclsl_0 A (updA A22 7 (0) ((adI (v9) (1)))) := SA_upd (cA22) rfl
      have mAu25 := SAm_of cAu25 oz_T9ecls_3
      refine Ew_of (pcₚ := 278) (fun _ => x_aload_n rfl (rk_o (hl0) rfl rfl)) ?_
      refine v_g H (o := 0) (v := .ref (D 7)) rfl rfl rfl rfl rfl (vrf ((mF22 0 16 rfl).trans (pf7))) ?_
      refine Ew_of (pcₚ := 282) (fun _ => x_iconst rfl) ?_
      refine Ew_of (pcₚ := 283) (fun _ => x_dup2 rfl rfl rfl) ?_
      refine v_lI H (o := 7) rfl rfl rfl rfl (n := n7) (en7) (show 0 ≤ 1 ∧ 1 < n7 from q_4502 h6) (fun v26 ev26 (qv26 : HID _) => ?_)
      have ev26 : (upd1 (A 7) (0) ((adI (v9) (1)))) (1) = v26 := (congrFun (congrArg (fun q => upd1 q (0) ((adI (v9) (1)))) ((show A22 7 = A 7 from (eA22 7)))) (1)).symm.trans ev26
      have hv1 : ((A 7)) 1 = (v26) := by have h := ev26; first | exact h | (rw [upd1_o (by decide)] at h; exact h)
      refine Ew_of (pcₚ := 285) (fun _ => x_aload_n rfl (rk_o (hl0) rfl rfl)) ?_
      refine v_g H (o := 0) (v := .ref (D 2)) rfl rfl rfl rfl rfl (vrf ((mF22 0 5 rfl).trans (pf2))) ?_
      refine v_g H (o := 2) (v := I (u2_1)) rfl rfl rfl rfl rfl (congrArg (fun z : Int => I z) (((mF22 2 1 rfl).trans (eu2_1)) : F22 2 1 = u2_1)) ?_
      refine Ew_of (pcₚ := 292) (fun _ => x_aload_n rfl (rk_o (hl0) rfl rfl)) ?_
      refine Ew_of (pcₚ := 293) (fun _ => x_iload_n rfl (rk_o (hl3) rfl rfl)) ?_
      refine Ew_of (pcₚ := 295) (fun _ => x_aload rfl (rk_o (hl4) rfl rfl)) ?_
      refine v_g H (o := 1) (v := I (u1_1)) rfl rfl rfl rfl rfl (congrArg (fun z : Int => I z) (((mF22 1 1 rfl).trans (eu1_1)) : F22 1 1 = u1_1)) ?_
      refine v_inv H (o := 0) rfl rfl rfl rfl rfl rfl (by rfl) (C34x (D := puc 4096 D) (N := puc 4096 N) (HW_subc H oz_T9ecls_11 oz_T9ecls_5) ((mF22 0 1 rfl).trans (pf8)) (n8) (en8) (w8) ((funext (mAu25 8 rfl)).trans (ew8)) (show inr (2) from q_122) (show inr (u1_1) from q_3477 h4 h5) (show 0 ≤ (u1_1) ∧ (u1_1) ≤ 16384 from q_4843 h4 h5) (show 0 ≤ (2) ∧ (2) ≤ 5 from q_5070) (show 1 ≤ ((w8)) 2 ∧ ((w8)) 2 ≤ 65536 from h7) (show 0 ≤ ((w8)) 8 ∧ ((w8)) 8 ≤ 11 from h8) (show 0 ≤ ((w8)) 6 ∧ ((w8)) 6 ≤ 255 from h9) (show (n8) = 10 from h10) (fun z27 σ27 F27ₚ A27ₚ Hₚ Oₚ hS27 hA27 pz27_0 pz27_1 => ⟨rfl, ?_⟩))
      refine v_backc (c := c) (s := s) H oz_T9ecls_11 oz_T9ecls_5 Hₚ Oₚ (fun F27 A27 H Oₚ eF27 eA27 => ?_)
      have O := OUT_trans O Oₚ
      -- PackHouse.boundOf
      have cF27 : SF oz_T9eclsl_1 F F27 := SF_trans (cF22) (SF_gluc (ι := oz_T9eclsl_2) oz_T9ecls_5 hS27 eF27 (by decide +kernel)) (any_sub (lₚ := []) (by decide +kernel))
      have mF27 := SFm_of cF27 oz_T9ecls_4
      have cA27 : SA oz_T9eclsl_0 A A27 := SA_trans (cAu25) (SA_gluc (ι := oz_T9eclsl_2) oz_T9ecls_5 hA27 eA27 (by decide +kernel)) (any_subA (lₚ := []) (by decide +kernel))
      have mA27 := SAm_of cA27 oz_T9ecls_3
      have hbd := pz27_1
      (try clear pz27_1)
      refine w_icmple (t := 308) rfl rfl (show inr (u2_1) from q_38 h2) (show inr (z27) from pz27_0) (fun b28 => ?_) (fun b28 => ?_)
      · refine Ew_of (pcₚ := 309) (fun _ => x_iconst rfl) ?_
        refine w_iaddE rfl ?_
        have g29 : inr (adI (v26) (0)) := toI_inr _
        have hs1 : HID (((adI (v26) (0))) = w32 (((A 7)) 1 + (if BNA ((w8)) 2 ((u1_1)) < (u2_1) then 1 else 0))) := by unfold HID; exact BYN hv1 (by decide) (by (have qg0 := HIDe qv26; have qg1 := HIDe r1; have qg2 := HIDe r2; omega)) hbd (by first | exact .inl ⟨by (have qg0 := HIDe qv26; have qg1 := HIDe r1; have qg2 := HIDe r2; omega), rfl⟩ | exact .inr ⟨by (have qg0 := HIDe qv26; have qg1 := HIDe r1; have qg2 := HIDe r2; omega), rfl⟩)
        (try clear hbd)
        refine v_sI H (o := 7) (z := (adI (v26) (0))) rfl rfl rfl rfl (n := n7) (en7) (show 0 ≤ 1 ∧ 1 < n7 from q_4502 h6) (show inr ((adI (v26) (0))) from g29) (fun σ H Oₚ => ?_)
        have O := OUT_trans O Oₚ
        have cAu30 : SA oz_T9eclsl_0 A (updA A27 7 (1) ((adI (v26) (0)))) := SA_upd (cA27) rfl
        have mAu30 := SAm_of cAu30 oz_T9ecls_3
        have : HID (STR (y0) ((u1_1)) (sc ((A 5)) 0 ((u4_1))) (sc ((A 6)) 0 ((u1_1))) (((A 7)) 0) (((upd1 (upd1 (A 7) (0) ((adI (v9) (1)))) (1) ((adI (v26) (0))))) 0)) := by rw [upd1_o (by decide), upd1_s]; exact hs0
        have : HID (((upd1 (upd1 (A 7) (0) ((adI (v9) (1)))) (1) ((adI (v26) (0))))) 1 = w32 (((A 7)) 1 + (if BNA ((w8)) 2 ((u1_1)) < (u2_1) then 1 else 0))) := by rw [upd1_s]; exact hs1
        refine Ew_of (pcₚ := 312) (fun _ => x_iload_n rfl (rk_o (hl3) rfl rfl)) ?_
        refine Ew_of (pcₚ := 313) (fun _ => x_iconst rfl) ?_
        refine w_icmpne (t := 337) rfl rfl (show inr (2) from q_122) (show inr (4) from q_216) (fun b31 => ?_) (fun b31 => ?_)
        · exact hc337  _ _ _ _  (rk_o (hl0) rfl rfl) (rk_o (hl1) rfl rfl) H O (SF_trans (SF_trans (SF_refl) (SF_gluc (ι := oz_T9eclsl_3) oz_T9ecls_6 hS22 eF22 (by decide +kernel)) (any_sub (lₚ := []) (by decide +kernel))) (SF_gluc (ι := oz_T9eclsl_2) oz_T9ecls_5 hS27 eF27 (by decide +kernel)) (any_sub (lₚ := []) (by decide +kernel))) (SA_upd (SA_trans (SA_upd (SA_trans (SA_refl) (SA_gluc (ι := oz_T9eclsl_3) oz_T9ecls_6 hA22 eA22 (by decide +kernel)) (any_subA (lₚ := []) (by decide +kernel))) rfl) (SA_gluc (ι := oz_T9eclsl_2) oz_T9ecls_5 hA27 eA27 (by decide +kernel)) (any_subA (lₚ := []) (by decide +kernel))) rfl)    (upd1 (upd1 (A 7) (0) ((adI (v9) (1)))) (1) ((adI (v26) (0)))) (congrArg (fun q => upd1 q (1) ((adI (v26) (0)))) (((show A27 7 = (updA A22 7 (0) ((adI (v9) (1)))) 7 from (eA27 7))).trans (congrArg (fun q => upd1 q (0) ((adI (v9) (1)))) ((show A22 7 = A 7 from (eA22 7)))))) (show 0 ≤ (u2_1) ∧ (u2_1) ≤ (n3) ∧ (n3) ≤ 65536 from h2) (show HID (STR (y0) ((u1_1)) (sc ((A 5)) 0 ((u4_1))) (sc ((A 6)) 0 ((u1_1))) (((A 7)) 0) (((upd1 (upd1 (A 7) (0) ((adI (v9) (1)))) (1) ((adI (v26) (0))))) 0)) by assumption) (show HID (((upd1 (upd1 (A 7) (0) ((adI (v9) (1)))) (1) ((adI (v26) (0))))) 1 = w32 (((A 7)) 1 + (if BNA ((w8)) 2 ((u1_1)) < (u2_1) then 1 else 0))) by assumption)
        · exact absurd b31 (by omega)
      · refine Ew_of (pcₚ := 305) (fun _ => x_iconst rfl) ?_
        refine Ew_of (pcₚ := 309) (fun _ => x_goto rfl rfl) ?_
        refine w_iaddE rfl ?_
        have g32 : inr (adI (v26) (1)) := toI_inr _
        have hs1 : HID (((adI (v26) (1))) = w32 (((A 7)) 1 + (if BNA ((w8)) 2 ((u1_1)) < (u2_1) then 1 else 0))) := by unfold HID; exact BYN hv1 (by decide) (by (have qg0 := HIDe qv26; have qg1 := HIDe r1; have qg2 := HIDe r2; omega)) hbd (by first | exact .inl ⟨by (have qg0 := HIDe qv26; have qg1 := HIDe r1; have qg2 := HIDe r2; omega), rfl⟩ | exact .inr ⟨by (have qg0 := HIDe qv26; have qg1 := HIDe r1; have qg2 := HIDe r2; omega), rfl⟩)
        (try clear hbd)
        refine v_sI H (o := 7) (z := (adI (v26) (1))) rfl rfl rfl rfl (n := n7) (en7) (show 0 ≤ 1 ∧ 1 < n7 from q_4502 h6) (show inr ((adI (v26) (1))) from g32) (fun σ H Oₚ => ?_)
        have O := OUT_trans O Oₚ
        have cAu33 : SA oz_T9eclsl_0 A (updA A27 7 (1) ((adI (v26) (1)))) := SA_upd (cA27) rfl
        have mAu33 := SAm_of cAu33 oz_T9ecls_3
        have : HID (STR (y0) ((u1_1)) (sc ((A 5)) 0 ((u4_1))) (sc ((A 6)) 0 ((u1_1))) (((A 7)) 0) (((upd1 (upd1 (A 7) (0) ((adI (v9) (1)))) (1) ((adI (v26) (1))))) 0)) := by rw [upd1_o (by decide), upd1_s]; exact hs0
        have : HID (((upd1 (upd1 (A 7) (0) ((adI (v9) (1)))) (1) ((adI (v26) (1))))) 1 = w32 (((A 7)) 1 + (if BNA ((w8)) 2 ((u1_1)) < (u2_1) then 1 else 0))) := by rw [upd1_s]; exact hs1
        refine Ew_of (pcₚ := 312) (fun _ => x_iload_n rfl (rk_o (hl3) rfl rfl)) ?_
        refine Ew_of (pcₚ := 313) (fun _ => x_iconst rfl) ?_
        refine w_icmpne (t := 337) rfl rfl (show inr (2) from q_122) (show inr (4) from q_216) (fun b34 => ?_) (fun b34 => ?_)
        · exact hc337  _ _ _ _  (rk_o (hl0) rfl rfl) (rk_o (hl1) rfl rfl) H O (SF_trans (SF_trans (SF_refl) (SF_gluc (ι := oz_T9eclsl_3) oz_T9ecls_6 hS22 eF22 (by decide +kernel)) (any_sub (lₚ := []) (by decide +kernel))) (SF_gluc (ι := oz_T9eclsl_2) oz_T9ecls_5 hS27 eF27 (by decide +kernel)) (any_sub (lₚ := []) (by decide +kernel))) (SA_upd (SA_trans (SA_upd (SA_trans (SA_refl) (SA_gluc (ι := oz_T9eclsl_3) oz_T9ecls_6 hA22 eA22 (by decide +kernel)) (any_subA (lₚ := []) (by decide +kernel))) rfl) (SA_gluc (ι := oz_T9eclsl_2) oz_T9ecls_5 hA27 eA27 (by decide +kernel)) (any_subA (lₚ := []) (by decide +kernel))) rfl)    (upd1 (upd1 (A 7) (0) ((adI (v9) (1)))) (1) ((adI (v26) (1)))) (congrArg (fun q => upd1 q (1) ((adI (v26) (1)))) (((show A27 7 = (updA A22 7 (0) ((adI (v9) (1)))) 7 from (eA27 7))).trans (congrArg (fun q => upd1 q (0) ((adI (v9) (1)))) ((show A22 7 = A 7 from (eA22 7)))))) (show 0 ≤ (u2_1) ∧ (u2_1) ≤ (n3) ∧ (n3) ≤ 65536 from h2) (show HID (STR (y0) ((u1_1)) (sc ((A 5)) 0 ((u4_1))) (sc ((A 6)) 0 ((u1_1))) (((A 7)) 0) (((upd1 (upd1 (A 7) (0) ((adI (v9) (1)))) (1) ((adI (v26) (1))))) 0)) by assumption) (show HID (((upd1 (upd1 (A 7) (0) ((adI (v9) (1)))) (1) ((adI (v26) (1))))) 1 = w32 (((A 7)) 1 + (if BNA ((w8)) 2 ((u1_1)) < (u2_1) then 1 else 0))) by assumption)
        · exact absurd b34 (by omega)
    · refine Ew_of (pcₚ := 271) (fun _ => x_iconst rfl) ?_
      refine Ew_of (pcₚ := 275) (fun _ => x_goto rfl rfl) ?_
      refine w_iaddE rfl ?_
      have g35 : inr (adI (v9) (0)) := toI_inr _
      have hs0 : HID (STR (y0) ((u1_1)) (sc ((A 5)) 0 ((u4_1))) (sc ((A 6)) 0 ((u1_1))) (((A 7)) 0) (((adI (v9) (0))))) := by unfold HID; first | exact STR_n hv0 (by (have qg0 := HIDe qv9; have qg1 := HIDe r1; have qg2 := HIDe r3; omega)) | exact STR_u hv0 pz22_1 (by (have qg0 := HIDe qv9; have qg1 := HIDe r1; have qg2 := HIDe r3; omega)) | exact STR_y hv0 (by (have qg0 := HIDe qv9; have qg1 := HIDe r1; have qg2 := HIDe r3; omega)) pz22_1 (by (have qg0 := HIDe qv9; have qg1 := HIDe r1; have qg2 := HIDe r3; omega))
      refine v_sI H (o := 7) (z := (adI (v9) (0))) rfl rfl rfl rfl (n := n7) (en7) (show 0 ≤ 0 ∧ 0 < n7 from q_4457 (HIDe r7) h6) (show inr ((adI (v9) (0))) from g35) (fun σ H Oₚ => ?_)
      have O := OUT_trans O Oₚ
      have cAu36 : SA oz_T9eclsl_0 A (updA A22 7 (0) ((adI (v9) (0)))) := SA_upd (cA22) rfl
      have mAu36 := SAm_of cAu36 oz_T9ecls_3
      refine Ew_of (pcₚ := 278) (fun _ => x_aload_n rfl (rk_o (hl0) rfl rfl)) ?_
      refine v_g H (o := 0) (v := .ref (D 7)) rfl rfl rfl rfl rfl (vrf ((mF22 0 16 rfl).trans (pf7))) ?_
      refine Ew_of (pcₚ := 282) (fun _ => x_iconst rfl) ?_
      refine Ew_of (pcₚ := 283) (fun _ => x_dup2 rfl rfl rfl) ?_
      refine v_lI H (o := 7) rfl rfl rfl rfl (n := n7) (en7) (show 0 ≤ 1 ∧ 1 < n7 from q_4502 h6) (fun v37 ev37 (qv37 : HID _) => ?_)
      have ev37 : (upd1 (A 7) (0) ((adI (v9) (0)))) (1) = v37 := (congrFun (congrArg (fun q => upd1 q (0) ((adI (v9) (0)))) ((show A22 7 = A 7 from (eA22 7)))) (1)).symm.trans ev37
      have hv1 : ((A 7)) 1 = (v37) := by have h := ev37; first | exact h | (rw [upd1_o (by decide)] at h; exact h)
      refine Ew_of (pcₚ := 285) (fun _ => x_aload_n rfl (rk_o (hl0) rfl rfl)) ?_
      refine v_g H (o := 0) (v := .ref (D 2)) rfl rfl rfl rfl rfl (vrf ((mF22 0 5 rfl).trans (pf2))) ?_
      refine v_g H (o := 2) (v := I (u2_1)) rfl rfl rfl rfl rfl (congrArg (fun z : Int => I z) (((mF22 2 1 rfl).trans (eu2_1)) : F22 2 1 = u2_1)) ?_
      refine Ew_of (pcₚ := 292) (fun _ => x_aload_n rfl (rk_o (hl0) rfl rfl)) ?_
      refine Ew_of (pcₚ := 293) (fun _ => x_iload_n rfl (rk_o (hl3) rfl rfl)) ?_
      refine Ew_of (pcₚ := 295) (fun _ => x_aload rfl (rk_o (hl4) rfl rfl)) ?_
      refine v_g H (o := 1) (v := I (u1_1)) rfl rfl rfl rfl rfl (congrArg (fun z : Int => I z) (((mF22 1 1 rfl).trans (eu1_1)) : F22 1 1 = u1_1)) ?_
      refine v_inv H (o := 0) rfl rfl rfl rfl rfl rfl (by rfl) (C34x (D := puc 4096 D) (N := puc 4096 N) (HW_subc H oz_T9ecls_11 oz_T9ecls_5) ((mF22 0 1 rfl).trans (pf8)) (n8) (en8) (w8) ((funext (mAu36 8 rfl)).trans (ew8)) (show inr (2) from q_122) (show inr (u1_1) from q_3477 h4 h5) (show 0 ≤ (u1_1) ∧ (u1_1) ≤ 16384 from q_4843 h4 h5) (show 0 ≤ (2) ∧ (2) ≤ 5 from q_5070) (show 1 ≤ ((w8)) 2 ∧ ((w8)) 2 ≤ 65536 from h7) (show 0 ≤ ((w8)) 8 ∧ ((w8)) 8 ≤ 11 from h8) (show 0 ≤ ((w8)) 6 ∧ ((w8)) 6 ≤ 255 from h9) (show (n8) = 10 from h10) (fun z38 σ38 F38ₚ A38ₚ Hₚ Oₚ hS38 hA38 pz38_0 pz38_1 => ⟨rfl, ?_⟩))
      refine v_backc (c := c) (s := s) H oz_T9ecls_11 oz_T9ecls_5 Hₚ Oₚ (fun F38 A38 H Oₚ eF38 eA38 => ?_)
      have O := OUT_trans O Oₚ
      -- PackHouse.boundOf
      have cF38 : SF oz_T9eclsl_1 F F38 := SF_trans (cF22) (SF_gluc (ι := oz_T9eclsl_2) oz_T9ecls_5 hS38 eF38 (by decide +kernel)) (any_sub (lₚ := []) (by decide +kernel))
      have mF38 := SFm_of cF38 oz_T9ecls_4
      have cA38 : SA oz_T9eclsl_0 A A38 := SA_trans (cAu36) (SA_gluc (ι := oz_T9eclsl_2) oz_T9ecls_5 hA38 eA38 (by decide +kernel)) (any_subA (lₚ := []) (by decide +kernel))
      have mA38 := SAm_of cA38 oz_T9ecls_3
      have hbd := pz38_1
      (try clear pz38_1)
      refine w_icmple (t := 308) rfl rfl (show inr (u2_1) from q_38 h2) (show inr (z38) from pz38_0) (fun b39 => ?_) (fun b39 => ?_)
      · refine Ew_of (pcₚ := 309) (fun _ => x_iconst rfl) ?_
        refine w_iaddE rfl ?_
        have g40 : inr (adI (v37) (0)) := toI_inr _
        have hs1 : HID (((adI (v37) (0))) = w32 (((A 7)) 1 + (if BNA ((w8)) 2 ((u1_1)) < (u2_1) then 1 else 0))) := by unfold HID; exact BYN hv1 (by decide) (by (have qg0 := HIDe qv37; have qg1 := HIDe r1; have qg2 := HIDe r2; omega)) hbd (by first | exact .inl ⟨by (have qg0 := HIDe qv37; have qg1 := HIDe r1; have qg2 := HIDe r2; omega), rfl⟩ | exact .inr ⟨by (have qg0 := HIDe qv37; have qg1 := HIDe r1; have qg2 := HIDe r2; omega), rfl⟩)
        (try clear hbd)
        refine v_sI H (o := 7) (z := (adI (v37) (0))) rfl rfl rfl rfl (n := n7) (en7) (show 0 ≤ 1 ∧ 1 < n7 from q_4502 h6) (show inr ((adI (v37) (0))) from g40) (fun σ H Oₚ => ?_)
        have O := OUT_trans O Oₚ
        have cAu41 : SA oz_T9eclsl_0 A (updA A38 7 (1) ((adI (v37) (0)))) := SA_upd (cA38) rfl
        have mAu41 := SAm_of cAu41 oz_T9ecls_3
        have : HID (STR (y0) ((u1_1)) (sc ((A 5)) 0 ((u4_1))) (sc ((A 6)) 0 ((u1_1))) (((A 7)) 0) (((upd1 (upd1 (A 7) (0) ((adI (v9) (0)))) (1) ((adI (v37) (0))))) 0)) := by rw [upd1_o (by decide), upd1_s]; exact hs0
        have : HID (((upd1 (upd1 (A 7) (0) ((adI (v9) (0)))) (1) ((adI (v37) (0))))) 1 = w32 (((A 7)) 1 + (if BNA ((w8)) 2 ((u1_1)) < (u2_1) then 1 else 0))) := by rw [upd1_s]; exact hs1
        refine Ew_of (pcₚ := 312) (fun _ => x_iload_n rfl (rk_o (hl3) rfl rfl)) ?_
        refine Ew_of (pcₚ := 313) (fun _ => x_iconst rfl) ?_
        refine w_icmpne (t := 337) rfl rfl (show inr (2) from q_122) (show inr (4) from q_216) (fun b42 => ?_) (fun b42 => ?_)
        · exact hc337  _ _ _ _  (rk_o (hl0) rfl rfl) (rk_o (hl1) rfl rfl) H O (SF_trans (SF_trans (SF_refl) (SF_gluc (ι := oz_T9eclsl_3) oz_T9ecls_6 hS22 eF22 (by decide +kernel)) (any_sub (lₚ := []) (by decide +kernel))) (SF_gluc (ι := oz_T9eclsl_2) oz_T9ecls_5 hS38 eF38 (by decide +kernel)) (any_sub (lₚ := []) (by decide +kernel))) (SA_upd (SA_trans (SA_upd (SA_trans (SA_refl) (SA_gluc (ι := oz_T9eclsl_3) oz_T9ecls_6 hA22 eA22 (by decide +kernel)) (any_subA (lₚ := []) (by decide +kernel))) rfl) (SA_gluc (ι := oz_T9eclsl_2) oz_T9ecls_5 hA38 eA38 (by decide +kernel)) (any_subA (lₚ := []) (by decide +kernel))) rfl)    (upd1 (upd1 (A 7) (0) ((adI (v9) (0)))) (1) ((adI (v37) (0)))) (congrArg (fun q => upd1 q (1) ((adI (v37) (0)))) (((show A38 7 = (updA A22 7 (0) ((adI (v9) (0)))) 7 from (eA38 7))).trans (congrArg (fun q => upd1 q (0) ((adI (v9) (0)))) ((show A22 7 = A 7 from (eA22 7)))))) (show 0 ≤ (u2_1) ∧ (u2_1) ≤ (n3) ∧ (n3) ≤ 65536 from h2) (show HID (STR (y0) ((u1_1)) (sc ((A 5)) 0 ((u4_1))) (sc ((A 6)) 0 ((u1_1))) (((A 7)) 0) (((upd1 (upd1 (A 7) (0) ((adI (v9) (0)))) (1) ((adI (v37) (0))))) 0)) by assumption) (show HID (((upd1 (upd1 (A 7) (0) ((adI (v9) (0)))) (1) ((adI (v37) (0))))) 1 = w32 (((A 7)) 1 + (if BNA ((w8)) 2 ((u1_1)) < (u2_1) then 1 else 0))) by assumption)
        · exact absurd b42 (by omega)
      · refine Ew_of (pcₚ := 305) (fun _ => x_iconst rfl) ?_
        refine Ew_of (pcₚ := 309) (fun _ => x_goto rfl rfl) ?_
        refine w_iaddE rfl ?_
        have g43 : inr (adI (v37) (1)) := toI_inr _
        have hs1 : HID (((adI (v37) (1))) = w32 (((A 7)) 1 + (if BNA ((w8)) 2 ((u1_1)) < (u2_1) then 1 else 0))) := by unfold HID; exact BYN hv1 (by decide) (by (have qg0 := HIDe qv37; have qg1 := HIDe r1; have qg2 := HIDe r2; omega)) hbd (by first | exact .inl ⟨by (have qg0 := HIDe qv37; have qg1 := HIDe r1; have qg2 := HIDe r2; omega), rfl⟩ | exact .inr ⟨by (have qg0 := HIDe qv37; have qg1 := HIDe r1; have qg2 := HIDe r2; omega), rfl⟩)
        (try clear hbd)
        refine v_sI H (o := 7) (z := (adI (v37) (1))) rfl rfl rfl rfl (n := n7) (en7) (show 0 ≤ 1 ∧ 1 < n7 from q_4502 h6) (show inr ((adI (v37) (1))) from g43) (fun σ H Oₚ => ?_)
        have O := OUT_trans O Oₚ
        have cAu44 : SA oz_T9eclsl_0 A (updA A38 7 (1) ((adI (v37) (1)))) := SA_upd (cA38) rfl
        have mAu44 := SAm_of cAu44 oz_T9ecls_3
        have : HID (STR (y0) ((u1_1)) (sc ((A 5)) 0 ((u4_1))) (sc ((A 6)) 0 ((u1_1))) (((A 7)) 0) (((upd1 (upd1 (A 7) (0) ((adI (v9) (0)))) (1) ((adI (v37) (1))))) 0)) := by rw [upd1_o (by decide), upd1_s]; exact hs0
        have : HID (((upd1 (upd1 (A 7) (0) ((adI (v9) (0)))) (1) ((adI (v37) (1))))) 1 = w32 (((A 7)) 1 + (if BNA ((w8)) 2 ((u1_1)) < (u2_1) then 1 else 0))) := by rw [upd1_s]; exact hs1
        refine Ew_of (pcₚ := 312) (fun _ => x_iload_n rfl (rk_o (hl3) rfl rfl)) ?_
        refine Ew_of (pcₚ := 313) (fun _ => x_iconst rfl) ?_
        refine w_icmpne (t := 337) rfl rfl (show inr (2) from q_122) (show inr (4) from q_216) (fun b45 => ?_) (fun b45 => ?_)
        · exact hc337  _ _ _ _  (rk_o (hl0) rfl rfl) (rk_o (hl1) rfl rfl) H O (SF_trans (SF_trans (SF_refl) (SF_gluc (ι := oz_T9eclsl_3) oz_T9ecls_6 hS22 eF22 (by decide +kernel)) (any_sub (lₚ := []) (by decide +kernel))) (SF_gluc (ι := oz_T9eclsl_2) oz_T9ecls_5 hS38 eF38 (by decide +kernel)) (any_sub (lₚ := []) (by decide +kernel))) (SA_upd (SA_trans (SA_upd (SA_trans (SA_refl) (SA_gluc (ι := oz_T9eclsl_3) oz_T9ecls_6 hA22 eA22 (by decide +kernel)) (any_subA (lₚ := []) (by decide +kernel))) rfl) (SA_gluc (ι := oz_T9eclsl_2) oz_T9ecls_5 hA38 eA38 (by decide +kernel)) (any_subA (lₚ := []) (by decide +kernel))) rfl)    (upd1 (upd1 (A 7) (0) ((adI (v9) (0)))) (1) ((adI (v37) (1)))) (congrArg (fun q => upd1 q (1) ((adI (v37) (1)))) (((show A38 7 = (updA A22 7 (0) ((adI (v9) (0)))) 7 from (eA38 7))).trans (congrArg (fun q => upd1 q (0) ((adI (v9) (0)))) ((show A22 7 = A 7 from (eA22 7)))))) (show 0 ≤ (u2_1) ∧ (u2_1) ≤ (n3) ∧ (n3) ≤ 65536 from h2) (show HID (STR (y0) ((u1_1)) (sc ((A 5)) 0 ((u4_1))) (sc ((A 6)) 0 ((u1_1))) (((A 7)) 0) (((upd1 (upd1 (A 7) (0) ((adI (v9) (0)))) (1) ((adI (v37) (1))))) 0)) by assumption) (show HID (((upd1 (upd1 (A 7) (0) ((adI (v9) (0)))) (1) ((adI (v37) (1))))) 1 = w32 (((A 7)) 1 + (if BNA ((w8)) 2 ((u1_1)) < (u2_1) then 1 else 0))) by assumption)
        · exact absurd b45 (by omega)
abbrev V17_vE3 : vV := [(0, 0, [(4, 0), (4, 0), (4, 0), (4, 0), (4, 0), (4, 0), (4, 0), (4, 0), (4, 0), (4, 0), (4, 0), (4, 0), (4, 0), (4, 0), (4, 0), (4, 0), (4, 0), (0, 0), (0, 0)]), (0, 7, [(4, 0), (0, 0), (1, 0), (0, 0), (0, 0)]), (0, 7, [(4, 0), (0, 0), (1, 0), (0, 0), (0, 0)]), (1, 0, []), (0, 7, [(4, 0), (0, 0), (1, 0), (0, 0), (0, 0)]), (1, 0, []), (1, 0, []), (1, 1, []), (1, 1, [])]
theorem len_V17_vE3_oz_T9ecls : (V17_vE3).length = 9 := by decide +kernel
theorem oz_T9ecls_14 : vsub V17_vE3 V34 [0, 8] = true := by decide +kernel
theorem oz_T9ecls_15 : vsub V17_vE3 V29_Row_Row [4, 1, 5, 6] = true := by decide +kernel

theorem C17_vE3 {σE : rS} {D N : Nat → Nat} {F : hF} {A : hA} {d c s : Nat} {Q : wQ} (H : HW V17_vE3 σE D N F A) {x1 y0 : Int} (pf2 : HID (F 0 5 = (D 2 : Int))) (pf3 : HID (F 2 0 = (D 3 : Int))) (pf4 : HID (F 0 6 = (D 4 : Int))) (pf5 : HID (F 4 0 = (D 5 : Int))) (pf6 : HID (F 1 0 = (D 6 : Int))) (pf7 : HID (F 0 16 = (D 7 : Int))) (pf8 : HID (F 0 1 = (D 8 : Int))) (n3 : Int) (en3 : HID ((N 3 : Int) = n3)) (n5 : Int) (en5 : HID ((N 5 : Int) = n5)) (n6 : Int) (en6 : HID ((N 6 : Int) = n6)) (n7 : Int) (en7 : HID ((N 7 : Int) = n7)) (n8 : Int) (en8 : HID ((N 8 : Int) = n8)) (u1_1 : Int) (eu1_1 : HID (F 1 1 = u1_1)) (u2_1 : Int) (eu2_1 : HID (F 2 1 = u2_1)) (u4_1 : Int) (eu4_1 : HID (F 4 1 = u4_1)) (w8 : Int → Int) (ew8 : A 8 = w8) {ls : rO} (hl0 : rlook ls 0 = some (.ref (D 0))) (hl1 : rlook ls 1 = some (I (x1))) (hl3 : rlook ls 3 = some (I (3))) (hl4 : rlook ls 4 = some (.ref (D 1))) (h0 : inr (x1)) (h1 : inr y0) (h2 : 0 ≤ (u2_1) ∧ (u2_1) ≤ (n3) ∧ (n3) ≤ 65536) (h3 : 0 ≤ (u4_1) ∧ (u4_1) ≤ (n5) ∧ (n5) ≤ 65536) (h4 : 0 ≤ (u1_1) ∧ (u1_1) ≤ (n6) ∧ (n6) ≤ 65536) (h5 : (u1_1) ≤ 16384) (h6 : (n7) = 2) (h7 : 1 ≤ ((w8)) 2 ∧ ((w8)) 2 ≤ 65536) (h8 : 0 ≤ ((w8)) 8 ∧ ((w8)) 8 ≤ 11) (h9 : 0 ≤ ((w8)) 6 ∧ ((w8)) 6 ≤ 255) (h10 : (n8) = 10) (hc337 : ∀ (ls : rO) (σ : rS) (F_c337 : hF) (A_c337 : hA) , rlook ls 0 = some (.ref (D 0)) → rlook ls 1 = some (I (x1)) → HW V17_vE3 σ D N F_c337 A_c337 → OUT (V17_vE3).length D N σE c s D N σ c s → SF [] F F_c337 → SA [7] A A_c337 → ∀ wc337_7 : Int → Int, A_c337 7 = wc337_7 → (0 ≤ (u2_1) ∧ (u2_1) ≤ (n3) ∧ (n3) ≤ 65536) → (HID (STR (y0) ((u1_1)) (sc ((A 5)) 0 ((u4_1))) (sc ((A 6)) 0 ((u1_1))) (((A 7)) 0) (((wc337_7)) 0))) → (HID (((wc337_7)) 1 = w32 (((A 7)) 1 + (if BNA ((w8)) 3 ((u1_1)) < (u2_1) then 1 else 0)))) → Ew 17 (d + 3) 337 ls [] σ c s Q) (k : ∀ (z : Int) (σ : rS) (Fₚ : hF) (Aₚ : hA), HW V17_vE3 σ D N Fₚ Aₚ → OUT (V17_vE3).length D N σE c s D N σ c s → SF [] F Fₚ → SA [7] A Aₚ → (inr (z)) → ((0 : Int) = 1) → Q (some (I z)) σ c s) : Ew 17 (d + 3) 239 ls [I (y0)] σE c s Q := by
  have O := OUT_refl (n := (V17_vE3).length) (D := D) (N := N) (σ := σE) (c := c) (s := s)
  have HE := H
  have r1 : HID ((-2147483648 : Int) ≤ u1_1 ∧ u1_1 ≤ 2147483647) := krg_e (show (-2147483648 : Int) ≤ F 1 1 ∧ F 1 1 ≤ 2147483647 from H.krg 1 1 (ltn len_V17_vE3_oz_T9ecls rfl)) (show F 1 1 = u1_1 from (eu1_1))
  have r2 : HID ((-2147483648 : Int) ≤ u2_1 ∧ u2_1 ≤ 2147483647) := krg_e (show (-2147483648 : Int) ≤ F 2 1 ∧ F 2 1 ≤ 2147483647 from H.krg 2 1 (ltn len_V17_vE3_oz_T9ecls rfl)) (show F 2 1 = u2_1 from (eu2_1))
  have r3 : HID ((-2147483648 : Int) ≤ u4_1 ∧ u4_1 ≤ 2147483647) := krg_e (show (-2147483648 : Int) ≤ F 4 1 ∧ F 4 1 ≤ 2147483647 from H.krg 4 1 (ltn len_V17_vE3_oz_T9ecls rfl)) (show F 4 1 = u4_1 from (eu4_1))
  have r7 : HID ((0 : Int) ≤ n7 ∧ n7 ≤ 1000000) := nrng (H.nle 7 (ltn len_V17_vE3_oz_T9ecls rfl)) (show (N 7 : Int) = n7 from en7)
  refine Ew_of (pcₚ := 241) (fun _ => x_istore rfl) ?_
  refine Ew_of (pcₚ := 242) (fun _ => x_aload_n rfl (rk_o (hl0) rfl rfl)) ?_
  refine v_g H (o := 0) (v := .ref (D 7)) rfl rfl rfl rfl rfl (vrf (pf7)) ?_
  refine Ew_of (pcₚ := 246) (fun _ => x_iconst rfl) ?_
  refine Ew_of (pcₚ := 247) (fun _ => x_dup2 rfl rfl rfl) ?_
  refine v_lI H (o := 7) rfl rfl rfl rfl (n := n7) (en7) (show 0 ≤ 0 ∧ 0 < n7 from q_4457 (HIDe r7) h6) (fun v9 ev9 (qv9 : HID _) => ?_)
  have ev9 : (A 7) (0) = v9 := (congrFun (rfl : A 7 = A 7) (0)).symm.trans ev9
  have hv0 := ev9
  refine Ew_of (pcₚ := 250) (fun _ => x_iload rfl rk_s) ?_
  refine Ew_of (pcₚ := 252) (fun _ => x_aload rfl (rk_o (hl4) rfl rfl)) ?_
  refine v_g H (o := 1) (v := I (u1_1)) rfl rfl rfl rfl rfl (congrArg (fun z : Int => I z) ((eu1_1) : F 1 1 = u1_1)) ?_
  refine w_icmpne (t := 274) rfl rfl (show inr (y0) from h1) (show inr (u1_1) from q_3477 h4 h5) (fun b10 => ?_) (fun b10 => ?_)
  · refine Ew_of (pcₚ := 275) (fun _ => x_iconst rfl) ?_
    refine w_iaddE rfl ?_
    have g11 : inr (adI (v9) (1)) := toI_inr _
    have hs0 : HID (STR (y0) ((u1_1)) (sc ((A 5)) 0 ((u4_1))) (sc ((A 6)) 0 ((u1_1))) (((A 7)) 0) (((adI (v9) (1))))) := by unfold HID; first | exact STR_n hv0 (by (have qg0 := HIDe qv9; have qg1 := HIDe r1; have qg2 := HIDe r3; omega)) | exact STR_u hv0 pNONE_1 (by (have qg0 := HIDe qv9; have qg1 := HIDe r1; have qg2 := HIDe r3; omega)) | exact STR_y hv0 (by (have qg0 := HIDe qv9; have qg1 := HIDe r1; have qg2 := HIDe r3; omega)) pNONE_1 (by (have qg0 := HIDe qv9; have qg1 := HIDe r1; have qg2 := HIDe r3; omega))
    refine v_sI H (o := 7) (z := (adI (v9) (1))) rfl rfl rfl rfl (n := n7) (en7) (show 0 ≤ 0 ∧ 0 < n7 from q_4457 (HIDe r7) h6) (show inr ((adI (v9) (1))) from g11) (fun σ H Oₚ => ?_)
    have O := OUT_trans O Oₚ
    have cAu12 : SA oz_T9eclsl_0 A (updA A 7 (0) ((adI (v9) (1)))) := SA_upd (SA_refl) rfl
    have mAu12 := SAm_of cAu12 oz_T9ecls_3
    refine Ew_of (pcₚ := 278) (fun _ => x_aload_n rfl (rk_o (hl0) rfl rfl)) ?_
    refine v_g H (o := 0) (v := .ref (D 7)) rfl rfl rfl rfl rfl (vrf (pf7)) ?_
    refine Ew_of (pcₚ := 282) (fun _ => x_iconst rfl) ?_
    refine Ew_of (pcₚ := 283) (fun _ => x_dup2 rfl rfl rfl) ?_
    refine v_lI H (o := 7) rfl rfl rfl rfl (n := n7) (en7) (show 0 ≤ 1 ∧ 1 < n7 from q_4502 h6) (fun v13 ev13 (qv13 : HID _) => ?_)
    have ev13 : (upd1 (A 7) (0) ((adI (v9) (1)))) (1) = v13 := (congrFun (rfl : (updA A 7 (0) ((adI (v9) (1)))) 7 = upd1 (A 7) (0) ((adI (v9) (1)))) (1)).symm.trans ev13
    have hv1 : ((A 7)) 1 = (v13) := by have h := ev13; first | exact h | (rw [upd1_o (by decide)] at h; exact h)
    refine Ew_of (pcₚ := 285) (fun _ => x_aload_n rfl (rk_o (hl0) rfl rfl)) ?_
    refine v_g H (o := 0) (v := .ref (D 2)) rfl rfl rfl rfl rfl (vrf (pf2)) ?_
    refine v_g H (o := 2) (v := I (u2_1)) rfl rfl rfl rfl rfl (congrArg (fun z : Int => I z) ((eu2_1) : F 2 1 = u2_1)) ?_
    refine Ew_of (pcₚ := 292) (fun _ => x_aload_n rfl (rk_o (hl0) rfl rfl)) ?_
    refine Ew_of (pcₚ := 293) (fun _ => x_iload_n rfl (rk_o (hl3) rfl rfl)) ?_
    refine Ew_of (pcₚ := 295) (fun _ => x_aload rfl (rk_o (hl4) rfl rfl)) ?_
    refine v_g H (o := 1) (v := I (u1_1)) rfl rfl rfl rfl rfl (congrArg (fun z : Int => I z) ((eu1_1) : F 1 1 = u1_1)) ?_
    refine v_inv H (o := 0) rfl rfl rfl rfl rfl rfl (by rfl) (C34x (D := puc 4096 D) (N := puc 4096 N) (HW_subc H oz_T9ecls_14 oz_T9ecls_5) (pf8) (n8) (en8) (w8) ((funext (mAu12 8 rfl)).trans (ew8)) (show inr (3) from q_246) (show inr (u1_1) from q_3477 h4 h5) (show 0 ≤ (u1_1) ∧ (u1_1) ≤ 16384 from q_4843 h4 h5) (show 0 ≤ (3) ∧ (3) ≤ 5 from q_5071) (show 1 ≤ ((w8)) 2 ∧ ((w8)) 2 ≤ 65536 from h7) (show 0 ≤ ((w8)) 8 ∧ ((w8)) 8 ≤ 11 from h8) (show 0 ≤ ((w8)) 6 ∧ ((w8)) 6 ≤ 255 from h9) (show (n8) = 10 from h10) (fun z14 σ14 F14ₚ A14ₚ Hₚ Oₚ hS14 hA14 pz14_0 pz14_1 => ⟨rfl, ?_⟩))
    refine v_backc (c := c) (s := s) H oz_T9ecls_14 oz_T9ecls_5 Hₚ Oₚ (fun F14 A14 H Oₚ eF14 eA14 => ?_)
    have O := OUT_trans O Oₚ
    -- PackHouse.boundOf
    have cF14 : SF oz_T9eclsl_1 F F14 := SF_trans (SF_refl) (SF_gluc (ι := oz_T9eclsl_2) oz_T9ecls_5 hS14 eF14 (by decide +kernel)) (any_sub (lₚ := []) (by decide +kernel))
    have mF14 := SFm_of cF14 oz_T9ecls_4
    have cA14 : SA oz_T9eclsl_0 A A14 := SA_trans (cAu12) (SA_gluc (ι := oz_T9eclsl_2) oz_T9ecls_5 hA14 eA14 (by decide +kernel)) (any_subA (lₚ := []) (by decide +kernel))
    have mA14 := SAm_of cA14 oz_T9ecls_3
    have hbd := pz14_1
    (try clear pz14_1)
    refine w_icmple (t := 308) rfl rfl (show inr (u2_1) from q_38 h2) (show inr (z14) from pz14_0) (fun b15 => ?_) (fun b15 => ?_)
    · refine Ew_of (pcₚ := 309) (fun _ => x_iconst rfl) ?_
      refine w_iaddE rfl ?_
      have g16 : inr (adI (v13) (0)) := toI_inr _
      have hs1 : HID (((adI (v13) (0))) = w32 (((A 7)) 1 + (if BNA ((w8)) 3 ((u1_1)) < (u2_1) then 1 else 0))) := by unfold HID; exact BYN hv1 (by decide) (by (have qg0 := HIDe qv13; have qg1 := HIDe r1; have qg2 := HIDe r2; omega)) hbd (by first | exact .inl ⟨by (have qg0 := HIDe qv13; have qg1 := HIDe r1; have qg2 := HIDe r2; omega), rfl⟩ | exact .inr ⟨by (have qg0 := HIDe qv13; have qg1 := HIDe r1; have qg2 := HIDe r2; omega), rfl⟩)
      (try clear hbd)
      refine v_sI H (o := 7) (z := (adI (v13) (0))) rfl rfl rfl rfl (n := n7) (en7) (show 0 ≤ 1 ∧ 1 < n7 from q_4502 h6) (show inr ((adI (v13) (0))) from g16) (fun σ H Oₚ => ?_)
      have O := OUT_trans O Oₚ
      have cAu17 : SA oz_T9eclsl_0 A (updA A14 7 (1) ((adI (v13) (0)))) := SA_upd (cA14) rfl
      have mAu17 := SAm_of cAu17 oz_T9ecls_3
      have : HID (STR (y0) ((u1_1)) (sc ((A 5)) 0 ((u4_1))) (sc ((A 6)) 0 ((u1_1))) (((A 7)) 0) (((upd1 (upd1 (A 7) (0) ((adI (v9) (1)))) (1) ((adI (v13) (0))))) 0)) := by rw [upd1_o (by decide), upd1_s]; exact hs0
      have : HID (((upd1 (upd1 (A 7) (0) ((adI (v9) (1)))) (1) ((adI (v13) (0))))) 1 = w32 (((A 7)) 1 + (if BNA ((w8)) 3 ((u1_1)) < (u2_1) then 1 else 0))) := by rw [upd1_s]; exact hs1
      refine Ew_of (pcₚ := 312) (fun _ => x_iload_n rfl (rk_o (hl3) rfl rfl)) ?_
      refine Ew_of (pcₚ := 313) (fun _ => x_iconst rfl) ?_
      refine w_icmpne (t := 337) rfl rfl (show inr (3) from q_246) (show inr (4) from q_216) (fun b18 => ?_) (fun b18 => ?_)
      · exact hc337  _ _ _ _  (rk_o (hl0) rfl rfl) (rk_o (hl1) rfl rfl) H O (SF_trans (SF_refl) (SF_gluc (ι := oz_T9eclsl_2) oz_T9ecls_5 hS14 eF14 (by decide +kernel)) (any_sub (lₚ := []) (by decide +kernel))) (SA_upd (SA_trans (SA_upd (SA_refl) rfl) (SA_gluc (ι := oz_T9eclsl_2) oz_T9ecls_5 hA14 eA14 (by decide +kernel)) (any_subA (lₚ := []) (by decide +kernel))) rfl)    (upd1 (upd1 (A 7) (0) ((adI (v9) (1)))) (1) ((adI (v13) (0)))) (congrArg (fun q => upd1 q (1) ((adI (v13) (0)))) ((show A14 7 = (updA A 7 (0) ((adI (v9) (1)))) 7 from (eA14 7)))) (show 0 ≤ (u2_1) ∧ (u2_1) ≤ (n3) ∧ (n3) ≤ 65536 from h2) (show HID (STR (y0) ((u1_1)) (sc ((A 5)) 0 ((u4_1))) (sc ((A 6)) 0 ((u1_1))) (((A 7)) 0) (((upd1 (upd1 (A 7) (0) ((adI (v9) (1)))) (1) ((adI (v13) (0))))) 0)) by assumption) (show HID (((upd1 (upd1 (A 7) (0) ((adI (v9) (1)))) (1) ((adI (v13) (0))))) 1 = w32 (((A 7)) 1 + (if BNA ((w8)) 3 ((u1_1)) < (u2_1) then 1 else 0))) by assumption)
      · exact absurd b18 (by omega)
    · refine Ew_of (pcₚ := 305) (fun _ => x_iconst rfl) ?_
      refine Ew_of (pcₚ := 309) (fun _ => x_goto rfl rfl) ?_
      refine w_iaddE rfl ?_
      have g19 : inr (adI (v13) (1)) := toI_inr _
      have hs1 : HID (((adI (v13) (1))) = w32 (((A 7)) 1 + (if BNA ((w8)) 3 ((u1_1)) < (u2_1) then 1 else 0))) := by unfold HID; exact BYN hv1 (by decide) (by (have qg0 := HIDe qv13; have qg1 := HIDe r1; have qg2 := HIDe r2; omega)) hbd (by first | exact .inl ⟨by (have qg0 := HIDe qv13; have qg1 := HIDe r1; have qg2 := HIDe r2; omega), rfl⟩ | exact .inr ⟨by (have qg0 := HIDe qv13; have qg1 := HIDe r1; have qg2 := HIDe r2; omega), rfl⟩)
      (try clear hbd)
      refine v_sI H (o := 7) (z := (adI (v13) (1))) rfl rfl rfl rfl (n := n7) (en7) (show 0 ≤ 1 ∧ 1 < n7 from q_4502 h6) (show inr ((adI (v13) (1))) from g19) (fun σ H Oₚ => ?_)
      have O := OUT_trans O Oₚ
      have cAu20 : SA oz_T9eclsl_0 A (updA A14 7 (1) ((adI (v13) (1)))) := SA_upd (cA14) rfl
      have mAu20 := SAm_of cAu20 oz_T9ecls_3
      have : HID (STR (y0) ((u1_1)) (sc ((A 5)) 0 ((u4_1))) (sc ((A 6)) 0 ((u1_1))) (((A 7)) 0) (((upd1 (upd1 (A 7) (0) ((adI (v9) (1)))) (1) ((adI (v13) (1))))) 0)) := by rw [upd1_o (by decide), upd1_s]; exact hs0
      have : HID (((upd1 (upd1 (A 7) (0) ((adI (v9) (1)))) (1) ((adI (v13) (1))))) 1 = w32 (((A 7)) 1 + (if BNA ((w8)) 3 ((u1_1)) < (u2_1) then 1 else 0))) := by rw [upd1_s]; exact hs1
      refine Ew_of (pcₚ := 312) (fun _ => x_iload_n rfl (rk_o (hl3) rfl rfl)) ?_
      refine Ew_of (pcₚ := 313) (fun _ => x_iconst rfl) ?_
      refine w_icmpne (t := 337) rfl rfl (show inr (3) from q_246) (show inr (4) from q_216) (fun b21 => ?_) (fun b21 => ?_)
      · exact hc337  _ _ _ _  (rk_o (hl0) rfl rfl) (rk_o (hl1) rfl rfl) H O (SF_trans (SF_refl) (SF_gluc (ι := oz_T9eclsl_2) oz_T9ecls_5 hS14 eF14 (by decide +kernel)) (any_sub (lₚ := []) (by decide +kernel))) (SA_upd (SA_trans (SA_upd (SA_refl) rfl) (SA_gluc (ι := oz_T9eclsl_2) oz_T9ecls_5 hA14 eA14 (by decide +kernel)) (any_subA (lₚ := []) (by decide +kernel))) rfl)    (upd1 (upd1 (A 7) (0) ((adI (v9) (1)))) (1) ((adI (v13) (1)))) (congrArg (fun q => upd1 q (1) ((adI (v13) (1)))) ((show A14 7 = (updA A 7 (0) ((adI (v9) (1)))) 7 from (eA14 7)))) (show 0 ≤ (u2_1) ∧ (u2_1) ≤ (n3) ∧ (n3) ≤ 65536 from h2) (show HID (STR (y0) ((u1_1)) (sc ((A 5)) 0 ((u4_1))) (sc ((A 6)) 0 ((u1_1))) (((A 7)) 0) (((upd1 (upd1 (A 7) (0) ((adI (v9) (1)))) (1) ((adI (v13) (1))))) 0)) by assumption) (show HID (((upd1 (upd1 (A 7) (0) ((adI (v9) (1)))) (1) ((adI (v13) (1))))) 1 = w32 (((A 7)) 1 + (if BNA ((w8)) 3 ((u1_1)) < (u2_1) then 1 else 0))) by assumption)
      · exact absurd b21 (by omega)
  · refine Ew_of (pcₚ := 259) (fun _ => x_aload_n rfl (rk_o (hl0) rfl rfl)) ?_
    refine v_g H (o := 0) (v := .ref (D 4)) rfl rfl rfl rfl rfl (vrf (pf4)) ?_
    refine Ew_of (pcₚ := 264) (fun _ => x_aload rfl (rk_o (hl4) rfl rfl)) ?_
    refine w_stat24 rfl rfl (by rfl) (C29_Row_Rowp (D := puc 806617604 D) (N := puc 806617604 N) (HW_subc H oz_T9ecls_15 oz_T9ecls_6) (pf5) (pf6) (n5) (en5) (n6) (en6) (u4_1) ((eu4_1)) (u1_1) ((eu1_1)) (A 5) (rfl) (A 6) (rfl) (show 0 ≤ (u4_1) ∧ (u4_1) ≤ (n5) ∧ (n5) ≤ 65536 from h3) (show 0 ≤ (u1_1) ∧ (u1_1) ≤ (n6) ∧ (n6) ≤ 65536 from h4) (fun z22 σ22 F22ₚ A22ₚ Hₚ Oₚ hS22 hA22 pz22_0 pz22_1 => ⟨rfl, ?_⟩))
    refine v_backc (c := c) (s := s) H oz_T9ecls_15 oz_T9ecls_6 Hₚ Oₚ (fun F22 A22 H Oₚ eF22 eA22 => ?_)
    have O := OUT_trans O Oₚ
    -- PackHouse.firstUnlike
    have cF22 : SF oz_T9eclsl_1 F F22 := SF_trans (SF_refl) (SF_gluc (ι := oz_T9eclsl_3) oz_T9ecls_6 hS22 eF22 (by decide +kernel)) (any_sub (lₚ := []) (by decide +kernel))
    have mF22 := SFm_of cF22 oz_T9ecls_4
    have cA22 : SA oz_T9eclsl_0 A A22 := SA_trans (SA_refl) (SA_gluc (ι := oz_T9eclsl_3) oz_T9ecls_6 hA22 eA22 (by decide +kernel)) (any_subA (lₚ := []) (by decide +kernel))
    have mA22 := SAm_of cA22 oz_T9ecls_3
    refine w_ifge (t := 274) rfl rfl (show inr (z22) from pz22_0) (fun b23 => ?_) (fun b23 => ?_)
    · refine Ew_of (pcₚ := 275) (fun _ => x_iconst rfl) ?_
      refine w_iaddE rfl ?_
      have g24 : inr (adI (v9) (1)) := toI_inr _
      have hs0 : HID (STR (y0) ((u1_1)) (sc ((A 5)) 0 ((u4_1))) (sc ((A 6)) 0 ((u1_1))) (((A 7)) 0) (((adI (v9) (1))))) := by unfold HID; first | exact STR_n hv0 (by (have qg0 := HIDe qv9; have qg1 := HIDe r1; have qg2 := HIDe r3; omega)) | exact STR_u hv0 pz22_1 (by (have qg0 := HIDe qv9; have qg1 := HIDe r1; have qg2 := HIDe r3; omega)) | exact STR_y hv0 (by (have qg0 := HIDe qv9; have qg1 := HIDe r1; have qg2 := HIDe r3; omega)) pz22_1 (by (have qg0 := HIDe qv9; have qg1 := HIDe r1; have qg2 := HIDe r3; omega))
      refine v_sI H (o := 7) (z := (adI (v9) (1))) rfl rfl rfl rfl (n := n7) (en7) (show 0 ≤ 0 ∧ 0 < n7 from q_4457 (HIDe r7) h6) (show inr ((adI (v9) (1))) from g24) (fun σ H Oₚ => ?_)
      have O := OUT_trans O Oₚ
      have cAu25 : SA oz_T9eclsl_0 A (updA A22 7 (0) ((adI (v9) (1)))) := SA_upd (cA22) rfl
      have mAu25 := SAm_of cAu25 oz_T9ecls_3
      refine Ew_of (pcₚ := 278) (fun _ => x_aload_n rfl (rk_o (hl0) rfl rfl)) ?_
      refine v_g H (o := 0) (v := .ref (D 7)) rfl rfl rfl rfl rfl (vrf ((mF22 0 16 rfl).trans (pf7))) ?_
      refine Ew_of (pcₚ := 282) (fun _ => x_iconst rfl) ?_
      refine Ew_of (pcₚ := 283) (fun _ => x_dup2 rfl rfl rfl) ?_
      refine v_lI H (o := 7) rfl rfl rfl rfl (n := n7) (en7) (show 0 ≤ 1 ∧ 1 < n7 from q_4502 h6) (fun v26 ev26 (qv26 : HID _) => ?_)
      have ev26 : (upd1 (A 7) (0) ((adI (v9) (1)))) (1) = v26 := (congrFun (congrArg (fun q => upd1 q (0) ((adI (v9) (1)))) ((show A22 7 = A 7 from (eA22 7)))) (1)).symm.trans ev26
      have hv1 : ((A 7)) 1 = (v26) := by have h := ev26; first | exact h | (rw [upd1_o (by decide)] at h; exact h)
      refine Ew_of (pcₚ := 285) (fun _ => x_aload_n rfl (rk_o (hl0) rfl rfl)) ?_
      refine v_g H (o := 0) (v := .ref (D 2)) rfl rfl rfl rfl rfl (vrf ((mF22 0 5 rfl).trans (pf2))) ?_
      refine v_g H (o := 2) (v := I (u2_1)) rfl rfl rfl rfl rfl (congrArg (fun z : Int => I z) (((mF22 2 1 rfl).trans (eu2_1)) : F22 2 1 = u2_1)) ?_
      refine Ew_of (pcₚ := 292) (fun _ => x_aload_n rfl (rk_o (hl0) rfl rfl)) ?_
      refine Ew_of (pcₚ := 293) (fun _ => x_iload_n rfl (rk_o (hl3) rfl rfl)) ?_
      refine Ew_of (pcₚ := 295) (fun _ => x_aload rfl (rk_o (hl4) rfl rfl)) ?_
      refine v_g H (o := 1) (v := I (u1_1)) rfl rfl rfl rfl rfl (congrArg (fun z : Int => I z) (((mF22 1 1 rfl).trans (eu1_1)) : F22 1 1 = u1_1)) ?_
      refine v_inv H (o := 0) rfl rfl rfl rfl rfl rfl (by rfl) (C34x (D := puc 4096 D) (N := puc 4096 N) (HW_subc H oz_T9ecls_14 oz_T9ecls_5) ((mF22 0 1 rfl).trans (pf8)) (n8) (en8) (w8) ((funext (mAu25 8 rfl)).trans (ew8)) (show inr (3) from q_246) (show inr (u1_1) from q_3477 h4 h5) (show 0 ≤ (u1_1) ∧ (u1_1) ≤ 16384 from q_4843 h4 h5) (show 0 ≤ (3) ∧ (3) ≤ 5 from q_5071) (show 1 ≤ ((w8)) 2 ∧ ((w8)) 2 ≤ 65536 from h7) (show 0 ≤ ((w8)) 8 ∧ ((w8)) 8 ≤ 11 from h8) (show 0 ≤ ((w8)) 6 ∧ ((w8)) 6 ≤ 255 from h9) (show (n8) = 10 from h10) (fun z27 σ27 F27ₚ A27ₚ Hₚ Oₚ hS27 hA27 pz27_0 pz27_1 => ⟨rfl, ?_⟩))
      refine v_backc (c := c) (s := s) H oz_T9ecls_14 oz_T9ecls_5 Hₚ Oₚ (fun F27 A27 H Oₚ eF27 eA27 => ?_)
      have O := OUT_trans O Oₚ
      -- PackHouse.boundOf
      have cF27 : SF oz_T9eclsl_1 F F27 := SF_trans (cF22) (SF_gluc (ι := oz_T9eclsl_2) oz_T9ecls_5 hS27 eF27 (by decide +kernel)) (any_sub (lₚ := []) (by decide +kernel))
      have mF27 := SFm_of cF27 oz_T9ecls_4
      have cA27 : SA oz_T9eclsl_0 A A27 := SA_trans (cAu25) (SA_gluc (ι := oz_T9eclsl_2) oz_T9ecls_5 hA27 eA27 (by decide +kernel)) (any_subA (lₚ := []) (by decide +kernel))
      have mA27 := SAm_of cA27 oz_T9ecls_3
      have hbd := pz27_1
      (try clear pz27_1)
      refine w_icmple (t := 308) rfl rfl (show inr (u2_1) from q_38 h2) (show inr (z27) from pz27_0) (fun b28 => ?_) (fun b28 => ?_)
      · refine Ew_of (pcₚ := 309) (fun _ => x_iconst rfl) ?_
        refine w_iaddE rfl ?_
        have g29 : inr (adI (v26) (0)) := toI_inr _
        have hs1 : HID (((adI (v26) (0))) = w32 (((A 7)) 1 + (if BNA ((w8)) 3 ((u1_1)) < (u2_1) then 1 else 0))) := by unfold HID; exact BYN hv1 (by decide) (by (have qg0 := HIDe qv26; have qg1 := HIDe r1; have qg2 := HIDe r2; omega)) hbd (by first | exact .inl ⟨by (have qg0 := HIDe qv26; have qg1 := HIDe r1; have qg2 := HIDe r2; omega), rfl⟩ | exact .inr ⟨by (have qg0 := HIDe qv26; have qg1 := HIDe r1; have qg2 := HIDe r2; omega), rfl⟩)
        (try clear hbd)
        refine v_sI H (o := 7) (z := (adI (v26) (0))) rfl rfl rfl rfl (n := n7) (en7) (show 0 ≤ 1 ∧ 1 < n7 from q_4502 h6) (show inr ((adI (v26) (0))) from g29) (fun σ H Oₚ => ?_)
        have O := OUT_trans O Oₚ
        have cAu30 : SA oz_T9eclsl_0 A (updA A27 7 (1) ((adI (v26) (0)))) := SA_upd (cA27) rfl
        have mAu30 := SAm_of cAu30 oz_T9ecls_3
        have : HID (STR (y0) ((u1_1)) (sc ((A 5)) 0 ((u4_1))) (sc ((A 6)) 0 ((u1_1))) (((A 7)) 0) (((upd1 (upd1 (A 7) (0) ((adI (v9) (1)))) (1) ((adI (v26) (0))))) 0)) := by rw [upd1_o (by decide), upd1_s]; exact hs0
        have : HID (((upd1 (upd1 (A 7) (0) ((adI (v9) (1)))) (1) ((adI (v26) (0))))) 1 = w32 (((A 7)) 1 + (if BNA ((w8)) 3 ((u1_1)) < (u2_1) then 1 else 0))) := by rw [upd1_s]; exact hs1
        refine Ew_of (pcₚ := 312) (fun _ => x_iload_n rfl (rk_o (hl3) rfl rfl)) ?_
        refine Ew_of (pcₚ := 313) (fun _ => x_iconst rfl) ?_
        refine w_icmpne (t := 337) rfl rfl (show inr (3) from q_246) (show inr (4) from q_216) (fun b31 => ?_) (fun b31 => ?_)
        · exact hc337  _ _ _ _  (rk_o (hl0) rfl rfl) (rk_o (hl1) rfl rfl) H O (SF_trans (SF_trans (SF_refl) (SF_gluc (ι := oz_T9eclsl_3) oz_T9ecls_6 hS22 eF22 (by decide +kernel)) (any_sub (lₚ := []) (by decide +kernel))) (SF_gluc (ι := oz_T9eclsl_2) oz_T9ecls_5 hS27 eF27 (by decide +kernel)) (any_sub (lₚ := []) (by decide +kernel))) (SA_upd (SA_trans (SA_upd (SA_trans (SA_refl) (SA_gluc (ι := oz_T9eclsl_3) oz_T9ecls_6 hA22 eA22 (by decide +kernel)) (any_subA (lₚ := []) (by decide +kernel))) rfl) (SA_gluc (ι := oz_T9eclsl_2) oz_T9ecls_5 hA27 eA27 (by decide +kernel)) (any_subA (lₚ := []) (by decide +kernel))) rfl)    (upd1 (upd1 (A 7) (0) ((adI (v9) (1)))) (1) ((adI (v26) (0)))) (congrArg (fun q => upd1 q (1) ((adI (v26) (0)))) (((show A27 7 = (updA A22 7 (0) ((adI (v9) (1)))) 7 from (eA27 7))).trans (congrArg (fun q => upd1 q (0) ((adI (v9) (1)))) ((show A22 7 = A 7 from (eA22 7)))))) (show 0 ≤ (u2_1) ∧ (u2_1) ≤ (n3) ∧ (n3) ≤ 65536 from h2) (show HID (STR (y0) ((u1_1)) (sc ((A 5)) 0 ((u4_1))) (sc ((A 6)) 0 ((u1_1))) (((A 7)) 0) (((upd1 (upd1 (A 7) (0) ((adI (v9) (1)))) (1) ((adI (v26) (0))))) 0)) by assumption) (show HID (((upd1 (upd1 (A 7) (0) ((adI (v9) (1)))) (1) ((adI (v26) (0))))) 1 = w32 (((A 7)) 1 + (if BNA ((w8)) 3 ((u1_1)) < (u2_1) then 1 else 0))) by assumption)
        · exact absurd b31 (by omega)
      · refine Ew_of (pcₚ := 305) (fun _ => x_iconst rfl) ?_
        refine Ew_of (pcₚ := 309) (fun _ => x_goto rfl rfl) ?_
        refine w_iaddE rfl ?_
        have g32 : inr (adI (v26) (1)) := toI_inr _
        have hs1 : HID (((adI (v26) (1))) = w32 (((A 7)) 1 + (if BNA ((w8)) 3 ((u1_1)) < (u2_1) then 1 else 0))) := by unfold HID; exact BYN hv1 (by decide) (by (have qg0 := HIDe qv26; have qg1 := HIDe r1; have qg2 := HIDe r2; omega)) hbd (by first | exact .inl ⟨by (have qg0 := HIDe qv26; have qg1 := HIDe r1; have qg2 := HIDe r2; omega), rfl⟩ | exact .inr ⟨by (have qg0 := HIDe qv26; have qg1 := HIDe r1; have qg2 := HIDe r2; omega), rfl⟩)
        (try clear hbd)
        refine v_sI H (o := 7) (z := (adI (v26) (1))) rfl rfl rfl rfl (n := n7) (en7) (show 0 ≤ 1 ∧ 1 < n7 from q_4502 h6) (show inr ((adI (v26) (1))) from g32) (fun σ H Oₚ => ?_)
        have O := OUT_trans O Oₚ
        have cAu33 : SA oz_T9eclsl_0 A (updA A27 7 (1) ((adI (v26) (1)))) := SA_upd (cA27) rfl
        have mAu33 := SAm_of cAu33 oz_T9ecls_3
        have : HID (STR (y0) ((u1_1)) (sc ((A 5)) 0 ((u4_1))) (sc ((A 6)) 0 ((u1_1))) (((A 7)) 0) (((upd1 (upd1 (A 7) (0) ((adI (v9) (1)))) (1) ((adI (v26) (1))))) 0)) := by rw [upd1_o (by decide), upd1_s]; exact hs0
        have : HID (((upd1 (upd1 (A 7) (0) ((adI (v9) (1)))) (1) ((adI (v26) (1))))) 1 = w32 (((A 7)) 1 + (if BNA ((w8)) 3 ((u1_1)) < (u2_1) then 1 else 0))) := by rw [upd1_s]; exact hs1
        refine Ew_of (pcₚ := 312) (fun _ => x_iload_n rfl (rk_o (hl3) rfl rfl)) ?_
        refine Ew_of (pcₚ := 313) (fun _ => x_iconst rfl) ?_
        refine w_icmpne (t := 337) rfl rfl (show inr (3) from q_246) (show inr (4) from q_216) (fun b34 => ?_) (fun b34 => ?_)
        · exact hc337  _ _ _ _  (rk_o (hl0) rfl rfl) (rk_o (hl1) rfl rfl) H O (SF_trans (SF_trans (SF_refl) (SF_gluc (ι := oz_T9eclsl_3) oz_T9ecls_6 hS22 eF22 (by decide +kernel)) (any_sub (lₚ := []) (by decide +kernel))) (SF_gluc (ι := oz_T9eclsl_2) oz_T9ecls_5 hS27 eF27 (by decide +kernel)) (any_sub (lₚ := []) (by decide +kernel))) (SA_upd (SA_trans (SA_upd (SA_trans (SA_refl) (SA_gluc (ι := oz_T9eclsl_3) oz_T9ecls_6 hA22 eA22 (by decide +kernel)) (any_subA (lₚ := []) (by decide +kernel))) rfl) (SA_gluc (ι := oz_T9eclsl_2) oz_T9ecls_5 hA27 eA27 (by decide +kernel)) (any_subA (lₚ := []) (by decide +kernel))) rfl)    (upd1 (upd1 (A 7) (0) ((adI (v9) (1)))) (1) ((adI (v26) (1)))) (congrArg (fun q => upd1 q (1) ((adI (v26) (1)))) (((show A27 7 = (updA A22 7 (0) ((adI (v9) (1)))) 7 from (eA27 7))).trans (congrArg (fun q => upd1 q (0) ((adI (v9) (1)))) ((show A22 7 = A 7 from (eA22 7)))))) (show 0 ≤ (u2_1) ∧ (u2_1) ≤ (n3) ∧ (n3) ≤ 65536 from h2) (show HID (STR (y0) ((u1_1)) (sc ((A 5)) 0 ((u4_1))) (sc ((A 6)) 0 ((u1_1))) (((A 7)) 0) (((upd1 (upd1 (A 7) (0) ((adI (v9) (1)))) (1) ((adI (v26) (1))))) 0)) by assumption) (show HID (((upd1 (upd1 (A 7) (0) ((adI (v9) (1)))) (1) ((adI (v26) (1))))) 1 = w32 (((A 7)) 1 + (if BNA ((w8)) 3 ((u1_1)) < (u2_1) then 1 else 0))) by assumption)
        · exact absurd b34 (by omega)
    · refine Ew_of (pcₚ := 271) (fun _ => x_iconst rfl) ?_
      refine Ew_of (pcₚ := 275) (fun _ => x_goto rfl rfl) ?_
      refine w_iaddE rfl ?_
      have g35 : inr (adI (v9) (0)) := toI_inr _
      have hs0 : HID (STR (y0) ((u1_1)) (sc ((A 5)) 0 ((u4_1))) (sc ((A 6)) 0 ((u1_1))) (((A 7)) 0) (((adI (v9) (0))))) := by unfold HID; first | exact STR_n hv0 (by (have qg0 := HIDe qv9; have qg1 := HIDe r1; have qg2 := HIDe r3; omega)) | exact STR_u hv0 pz22_1 (by (have qg0 := HIDe qv9; have qg1 := HIDe r1; have qg2 := HIDe r3; omega)) | exact STR_y hv0 (by (have qg0 := HIDe qv9; have qg1 := HIDe r1; have qg2 := HIDe r3; omega)) pz22_1 (by (have qg0 := HIDe qv9; have qg1 := HIDe r1; have qg2 := HIDe r3; omega))
      refine v_sI H (o := 7) (z := (adI (v9) (0))) rfl rfl rfl rfl (n := n7) (en7) (show 0 ≤ 0 ∧ 0 < n7 from q_4457 (HIDe r7) h6) (show inr ((adI (v9) (0))) from g35) (fun σ H Oₚ => ?_)
      have O := OUT_trans O Oₚ
      have cAu36 : SA oz_T9eclsl_0 A (updA A22 7 (0) ((adI (v9) (0)))) := SA_upd (cA22) rfl
      have mAu36 := SAm_of cAu36 oz_T9ecls_3
      refine Ew_of (pcₚ := 278) (fun _ => x_aload_n rfl (rk_o (hl0) rfl rfl)) ?_
      refine v_g H (o := 0) (v := .ref (D 7)) rfl rfl rfl rfl rfl (vrf ((mF22 0 16 rfl).trans (pf7))) ?_
      refine Ew_of (pcₚ := 282) (fun _ => x_iconst rfl) ?_
      refine Ew_of (pcₚ := 283) (fun _ => x_dup2 rfl rfl rfl) ?_
      refine v_lI H (o := 7) rfl rfl rfl rfl (n := n7) (en7) (show 0 ≤ 1 ∧ 1 < n7 from q_4502 h6) (fun v37 ev37 (qv37 : HID _) => ?_)
      have ev37 : (upd1 (A 7) (0) ((adI (v9) (0)))) (1) = v37 := (congrFun (congrArg (fun q => upd1 q (0) ((adI (v9) (0)))) ((show A22 7 = A 7 from (eA22 7)))) (1)).symm.trans ev37
      have hv1 : ((A 7)) 1 = (v37) := by have h := ev37; first | exact h | (rw [upd1_o (by decide)] at h; exact h)
      refine Ew_of (pcₚ := 285) (fun _ => x_aload_n rfl (rk_o (hl0) rfl rfl)) ?_
      refine v_g H (o := 0) (v := .ref (D 2)) rfl rfl rfl rfl rfl (vrf ((mF22 0 5 rfl).trans (pf2))) ?_
      refine v_g H (o := 2) (v := I (u2_1)) rfl rfl rfl rfl rfl (congrArg (fun z : Int => I z) (((mF22 2 1 rfl).trans (eu2_1)) : F22 2 1 = u2_1)) ?_
      refine Ew_of (pcₚ := 292) (fun _ => x_aload_n rfl (rk_o (hl0) rfl rfl)) ?_
      refine Ew_of (pcₚ := 293) (fun _ => x_iload_n rfl (rk_o (hl3) rfl rfl)) ?_
      refine Ew_of (pcₚ := 295) (fun _ => x_aload rfl (rk_o (hl4) rfl rfl)) ?_
      refine v_g H (o := 1) (v := I (u1_1)) rfl rfl rfl rfl rfl (congrArg (fun z : Int => I z) (((mF22 1 1 rfl).trans (eu1_1)) : F22 1 1 = u1_1)) ?_
      refine v_inv H (o := 0) rfl rfl rfl rfl rfl rfl (by rfl) (C34x (D := puc 4096 D) (N := puc 4096 N) (HW_subc H oz_T9ecls_14 oz_T9ecls_5) ((mF22 0 1 rfl).trans (pf8)) (n8) (en8) (w8) ((funext (mAu36 8 rfl)).trans (ew8)) (show inr (3) from q_246) (show inr (u1_1) from q_3477 h4 h5) (show 0 ≤ (u1_1) ∧ (u1_1) ≤ 16384 from q_4843 h4 h5) (show 0 ≤ (3) ∧ (3) ≤ 5 from q_5071) (show 1 ≤ ((w8)) 2 ∧ ((w8)) 2 ≤ 65536 from h7) (show 0 ≤ ((w8)) 8 ∧ ((w8)) 8 ≤ 11 from h8) (show 0 ≤ ((w8)) 6 ∧ ((w8)) 6 ≤ 255 from h9) (show (n8) = 10 from h10) (fun z38 σ38 F38ₚ A38ₚ Hₚ Oₚ hS38 hA38 pz38_0 pz38_1 => ⟨rfl, ?_⟩))
      refine v_backc (c := c) (s := s) H oz_T9ecls_14 oz_T9ecls_5 Hₚ Oₚ (fun F38 A38 H Oₚ eF38 eA38 => ?_)
      have O := OUT_trans O Oₚ
      -- PackHouse.boundOf
      have cF38 : SF oz_T9eclsl_1 F F38 := SF_trans (cF22) (SF_gluc (ι := oz_T9eclsl_2) oz_T9ecls_5 hS38 eF38 (by decide +kernel)) (any_sub (lₚ := []) (by decide +kernel))
      have mF38 := SFm_of cF38 oz_T9ecls_4
      have cA38 : SA oz_T9eclsl_0 A A38 := SA_trans (cAu36) (SA_gluc (ι := oz_T9eclsl_2) oz_T9ecls_5 hA38 eA38 (by decide +kernel)) (any_subA (lₚ := []) (by decide +kernel))
      have mA38 := SAm_of cA38 oz_T9ecls_3
      have hbd := pz38_1
      (try clear pz38_1)
      refine w_icmple (t := 308) rfl rfl (show inr (u2_1) from q_38 h2) (show inr (z38) from pz38_0) (fun b39 => ?_) (fun b39 => ?_)
      · refine Ew_of (pcₚ := 309) (fun _ => x_iconst rfl) ?_
        refine w_iaddE rfl ?_
        have g40 : inr (adI (v37) (0)) := toI_inr _
        have hs1 : HID (((adI (v37) (0))) = w32 (((A 7)) 1 + (if BNA ((w8)) 3 ((u1_1)) < (u2_1) then 1 else 0))) := by unfold HID; exact BYN hv1 (by decide) (by (have qg0 := HIDe qv37; have qg1 := HIDe r1; have qg2 := HIDe r2; omega)) hbd (by first | exact .inl ⟨by (have qg0 := HIDe qv37; have qg1 := HIDe r1; have qg2 := HIDe r2; omega), rfl⟩ | exact .inr ⟨by (have qg0 := HIDe qv37; have qg1 := HIDe r1; have qg2 := HIDe r2; omega), rfl⟩)
        (try clear hbd)
        refine v_sI H (o := 7) (z := (adI (v37) (0))) rfl rfl rfl rfl (n := n7) (en7) (show 0 ≤ 1 ∧ 1 < n7 from q_4502 h6) (show inr ((adI (v37) (0))) from g40) (fun σ H Oₚ => ?_)
        have O := OUT_trans O Oₚ
        have cAu41 : SA oz_T9eclsl_0 A (updA A38 7 (1) ((adI (v37) (0)))) := SA_upd (cA38) rfl
        have mAu41 := SAm_of cAu41 oz_T9ecls_3
        have : HID (STR (y0) ((u1_1)) (sc ((A 5)) 0 ((u4_1))) (sc ((A 6)) 0 ((u1_1))) (((A 7)) 0) (((upd1 (upd1 (A 7) (0) ((adI (v9) (0)))) (1) ((adI (v37) (0))))) 0)) := by rw [upd1_o (by decide), upd1_s]; exact hs0
        have : HID (((upd1 (upd1 (A 7) (0) ((adI (v9) (0)))) (1) ((adI (v37) (0))))) 1 = w32 (((A 7)) 1 + (if BNA ((w8)) 3 ((u1_1)) < (u2_1) then 1 else 0))) := by rw [upd1_s]; exact hs1
        refine Ew_of (pcₚ := 312) (fun _ => x_iload_n rfl (rk_o (hl3) rfl rfl)) ?_
        refine Ew_of (pcₚ := 313) (fun _ => x_iconst rfl) ?_
        refine w_icmpne (t := 337) rfl rfl (show inr (3) from q_246) (show inr (4) from q_216) (fun b42 => ?_) (fun b42 => ?_)
        · exact hc337  _ _ _ _  (rk_o (hl0) rfl rfl) (rk_o (hl1) rfl rfl) H O (SF_trans (SF_trans (SF_refl) (SF_gluc (ι := oz_T9eclsl_3) oz_T9ecls_6 hS22 eF22 (by decide +kernel)) (any_sub (lₚ := []) (by decide +kernel))) (SF_gluc (ι := oz_T9eclsl_2) oz_T9ecls_5 hS38 eF38 (by decide +kernel)) (any_sub (lₚ := []) (by decide +kernel))) (SA_upd (SA_trans (SA_upd (SA_trans (SA_refl) (SA_gluc (ι := oz_T9eclsl_3) oz_T9ecls_6 hA22 eA22 (by decide +kernel)) (any_subA (lₚ := []) (by decide +kernel))) rfl) (SA_gluc (ι := oz_T9eclsl_2) oz_T9ecls_5 hA38 eA38 (by decide +kernel)) (any_subA (lₚ := []) (by decide +kernel))) rfl)    (upd1 (upd1 (A 7) (0) ((adI (v9) (0)))) (1) ((adI (v37) (0)))) (congrArg (fun q => upd1 q (1) ((adI (v37) (0)))) (((show A38 7 = (updA A22 7 (0) ((adI (v9) (0)))) 7 from (eA38 7))).trans (congrArg (fun q => upd1 q (0) ((adI (v9) (0)))) ((show A22 7 = A 7 from (eA22 7)))))) (show 0 ≤ (u2_1) ∧ (u2_1) ≤ (n3) ∧ (n3) ≤ 65536 from h2) (show HID (STR (y0) ((u1_1)) (sc ((A 5)) 0 ((u4_1))) (sc ((A 6)) 0 ((u1_1))) (((A 7)) 0) (((upd1 (upd1 (A 7) (0) ((adI (v9) (0)))) (1) ((adI (v37) (0))))) 0)) by assumption) (show HID (((upd1 (upd1 (A 7) (0) ((adI (v9) (0)))) (1) ((adI (v37) (0))))) 1 = w32 (((A 7)) 1 + (if BNA ((w8)) 3 ((u1_1)) < (u2_1) then 1 else 0))) by assumption)
        · exact absurd b42 (by omega)
      · refine Ew_of (pcₚ := 305) (fun _ => x_iconst rfl) ?_
        refine Ew_of (pcₚ := 309) (fun _ => x_goto rfl rfl) ?_
        refine w_iaddE rfl ?_
        have g43 : inr (adI (v37) (1)) := toI_inr _
        have hs1 : HID (((adI (v37) (1))) = w32 (((A 7)) 1 + (if BNA ((w8)) 3 ((u1_1)) < (u2_1) then 1 else 0))) := by unfold HID; exact BYN hv1 (by decide) (by (have qg0 := HIDe qv37; have qg1 := HIDe r1; have qg2 := HIDe r2; omega)) hbd (by first | exact .inl ⟨by (have qg0 := HIDe qv37; have qg1 := HIDe r1; have qg2 := HIDe r2; omega), rfl⟩ | exact .inr ⟨by (have qg0 := HIDe qv37; have qg1 := HIDe r1; have qg2 := HIDe r2; omega), rfl⟩)
        (try clear hbd)
        refine v_sI H (o := 7) (z := (adI (v37) (1))) rfl rfl rfl rfl (n := n7) (en7) (show 0 ≤ 1 ∧ 1 < n7 from q_4502 h6) (show inr ((adI (v37) (1))) from g43) (fun σ H Oₚ => ?_)
        have O := OUT_trans O Oₚ
        have cAu44 : SA oz_T9eclsl_0 A (updA A38 7 (1) ((adI (v37) (1)))) := SA_upd (cA38) rfl
        have mAu44 := SAm_of cAu44 oz_T9ecls_3
        have : HID (STR (y0) ((u1_1)) (sc ((A 5)) 0 ((u4_1))) (sc ((A 6)) 0 ((u1_1))) (((A 7)) 0) (((upd1 (upd1 (A 7) (0) ((adI (v9) (0)))) (1) ((adI (v37) (1))))) 0)) := by rw [upd1_o (by decide), upd1_s]; exact hs0
        have : HID (((upd1 (upd1 (A 7) (0) ((adI (v9) (0)))) (1) ((adI (v37) (1))))) 1 = w32 (((A 7)) 1 + (if BNA ((w8)) 3 ((u1_1)) < (u2_1) then 1 else 0))) := by rw [upd1_s]; exact hs1
        refine Ew_of (pcₚ := 312) (fun _ => x_iload_n rfl (rk_o (hl3) rfl rfl)) ?_
        refine Ew_of (pcₚ := 313) (fun _ => x_iconst rfl) ?_
        refine w_icmpne (t := 337) rfl rfl (show inr (3) from q_246) (show inr (4) from q_216) (fun b45 => ?_) (fun b45 => ?_)
        · exact hc337  _ _ _ _  (rk_o (hl0) rfl rfl) (rk_o (hl1) rfl rfl) H O (SF_trans (SF_trans (SF_refl) (SF_gluc (ι := oz_T9eclsl_3) oz_T9ecls_6 hS22 eF22 (by decide +kernel)) (any_sub (lₚ := []) (by decide +kernel))) (SF_gluc (ι := oz_T9eclsl_2) oz_T9ecls_5 hS38 eF38 (by decide +kernel)) (any_sub (lₚ := []) (by decide +kernel))) (SA_upd (SA_trans (SA_upd (SA_trans (SA_refl) (SA_gluc (ι := oz_T9eclsl_3) oz_T9ecls_6 hA22 eA22 (by decide +kernel)) (any_subA (lₚ := []) (by decide +kernel))) rfl) (SA_gluc (ι := oz_T9eclsl_2) oz_T9ecls_5 hA38 eA38 (by decide +kernel)) (any_subA (lₚ := []) (by decide +kernel))) rfl)    (upd1 (upd1 (A 7) (0) ((adI (v9) (0)))) (1) ((adI (v37) (1)))) (congrArg (fun q => upd1 q (1) ((adI (v37) (1)))) (((show A38 7 = (updA A22 7 (0) ((adI (v9) (0)))) 7 from (eA38 7))).trans (congrArg (fun q => upd1 q (0) ((adI (v9) (0)))) ((show A22 7 = A 7 from (eA22 7)))))) (show 0 ≤ (u2_1) ∧ (u2_1) ≤ (n3) ∧ (n3) ≤ 65536 from h2) (show HID (STR (y0) ((u1_1)) (sc ((A 5)) 0 ((u4_1))) (sc ((A 6)) 0 ((u1_1))) (((A 7)) 0) (((upd1 (upd1 (A 7) (0) ((adI (v9) (0)))) (1) ((adI (v37) (1))))) 0)) by assumption) (show HID (((upd1 (upd1 (A 7) (0) ((adI (v9) (0)))) (1) ((adI (v37) (1))))) 1 = w32 (((A 7)) 1 + (if BNA ((w8)) 3 ((u1_1)) < (u2_1) then 1 else 0))) by assumption)
        · exact absurd b45 (by omega)

