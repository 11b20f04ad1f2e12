abbrev V17_vE0 : vV := [(0, 0, [(4, 0), (4, 0), (4, 0), (4, 0), (4, 0), (4, 0), (4, 0), (4, 0), (4, 0), (4, 0), (4, 0), (4, 0), (4, 0), (4, 0), (4, 0), (4, 0), (4, 0), (0, 0), (0, 0)]), (0, 7, [(4, 0), (0, 0), (1, 0), (0, 0), (0, 0)]), (0, 7, [(4, 0), (0, 0), (1, 0), (0, 0), (0, 0)]), (1, 0, []), (0, 7, [(4, 0), (0, 0), (1, 0), (0, 0), (0, 0)]), (1, 0, []), (1, 0, []), (1, 1, []), (1, 1, [])]
/-- PackHouse.write: this, @F, this.written, this.written.bytes, this.content, this.content.bytes, @F.bytes, this.strays, this.settings -/
theorem C17_vE0 {σE : rS} {D N : Nat → Nat} {F : hF} {A : hA} {d c s : Nat} {Q : wQ} (H : HW V17_vE0 σE D N F A) {x1 y0 : Int} (pf2 : F 0 5 = (D 2 : Int)) (pf3 : F 2 0 = (D 3 : Int)) (pf4 : F 0 6 = (D 4 : Int)) (pf5 : F 4 0 = (D 5 : Int)) (pf6 : F 1 0 = (D 6 : Int)) (pf7 : F 0 16 = (D 7 : Int)) (pf8 : F 0 1 = (D 8 : Int)) (n3 : Int) (en3 : (N 3 : Int) = n3) (n5 : Int) (en5 : (N 5 : Int) = n5) (n6 : Int) (en6 : (N 6 : Int) = n6) (n7 : Int) (en7 : (N 7 : Int) = n7) (n8 : Int) (en8 : (N 8 : Int) = n8) (u1_1 : Int) (eu1_1 : F 1 1 = u1_1) (u2_1 : Int) (eu2_1 : F 2 1 = u2_1) (u4_1 : Int) (eu4_1 : F 4 1 = u4_1) (w8 : Int → Int) (ew8 : A 8 = w8) {ls : rO} (hl0 : rlook ls 0 = some (.ref (D 0))) (hl1 : rlook ls 1 = some (I (x1))) (hl3 : rlook ls 3 = some (I (0))) (hl4 : rlook ls 4 = some (.ref (D 1))) (h0 : inr (x1)) (h1 : inr y0) (h2 : 0 ≤ (u2_1) ∧ (u2_1) ≤ (n3) ∧ (n3) ≤ 65536) (h3 : 0 ≤ (u4_1) ∧ (u4_1) ≤ (n5) ∧ (n5) ≤ 65536) (h4 : 0 ≤ (u1_1) ∧ (u1_1) ≤ (n6) ∧ (n6) ≤ 65536) (h5 : (u1_1) ≤ 16384) (h6 : (n7) = 2) (h7 : 1 ≤ ((w8)) 2 ∧ ((w8)) 2 ≤ 65536) (h8 : 0 ≤ ((w8)) 8 ∧ ((w8)) 8 ≤ 11) (h9 : 0 ≤ ((w8)) 6 ∧ ((w8)) 6 ≤ 255) (h10 : (n8) = 10) (hc337 : ∀ (ls : rO) (σ : rS) (F_c337 : hF) (A_c337 : hA) , rlook ls 0 = some (.ref (D 0)) → rlook ls 1 = some (I (x1)) → HW V17_vE0 σ D N F_c337 A_c337 → OUT (V17_vE0).length D N σE c s D N σ c s → SF [] F F_c337 → SA [7] A A_c337 → ∀ wc337_7 : Int → Int, A_c337 7 = wc337_7 → (0 ≤ (u2_1) ∧ (u2_1) ≤ (n3) ∧ (n3) ≤ 65536) → (HID (STR (y0) ((u1_1)) (sc ((A 5)) 0 ((u4_1))) (sc ((A 6)) 0 ((u1_1))) (((A 7)) 0) (((wc337_7)) 0))) → (HID (((wc337_7)) 1 = w32 (((A 7)) 1 + (if BNA ((w8)) 0 ((u1_1)) < (u2_1) then 1 else 0)))) → Ew 17 (d + 3) 337 ls [] σ c s Q) (k : ∀ (z : Int) (σ : rS) (F' : hF) (A' : hA), HW V17_vE0 σ D N F' A' → OUT (V17_vE0).length D N σE c s D N σ c s → SF [] F F' → SA [7] A A' → (inr (z)) → ((0 : Int) = 1) → Q (some (I z)) σ c s) : Ew 17 (d + 3) 239 ls [I (y0)] σE c s Q := by
  have O := OUT_refl (n := (V17_vE0).length) (D := D) (N := N) (σ := σE) (c := c) (s := s)
  have HE := H
  have r1 : HID ((-2147483648 : Int) ≤ u1_1 ∧ u1_1 ≤ 2147483647) := krg_e (show (-2147483648 : Int) ≤ F 1 1 ∧ F 1 1 ≤ 2147483647 from H.krg 1 1 (by decide)) (show F 1 1 = u1_1 from (eu1_1))
  have r2 : HID ((-2147483648 : Int) ≤ u2_1 ∧ u2_1 ≤ 2147483647) := krg_e (show (-2147483648 : Int) ≤ F 2 1 ∧ F 2 1 ≤ 2147483647 from H.krg 2 1 (by decide)) (show F 2 1 = u2_1 from (eu2_1))
  have r3 : HID ((-2147483648 : Int) ≤ u4_1 ∧ u4_1 ≤ 2147483647) := krg_e (show (-2147483648 : Int) ≤ F 4 1 ∧ F 4 1 ≤ 2147483647 from H.krg 4 1 (by decide)) (show F 4 1 = u4_1 from (eu4_1))
  replace pf2 := HIDm pf2
  replace pf3 := HIDm pf3
  replace pf4 := HIDm pf4
  replace pf5 := HIDm pf5
  replace pf6 := HIDm pf6
  replace pf7 := HIDm pf7
  replace pf8 := HIDm pf8
  replace en3 := HIDm en3
  replace en5 := HIDm en5
  replace en6 := HIDm en6
  replace en7 := HIDm en7
  replace en8 := HIDm en8
  replace eu1_1 := HIDm eu1_1
  replace eu2_1 := HIDm eu2_1
  replace eu4_1 := HIDm eu4_1
  have r4 : HID ((0 : Int) ≤ n3 ∧ n3 ≤ 1000000) := nrng (H.nle 3 (by decide)) (show (N 3 : Int) = n3 from en3)
  have r5 : HID ((0 : Int) ≤ n5 ∧ n5 ≤ 1000000) := nrng (H.nle 5 (by decide)) (show (N 5 : Int) = n5 from en5)
  have r6 : HID ((0 : Int) ≤ n6 ∧ n6 ≤ 1000000) := nrng (H.nle 6 (by decide)) (show (N 6 : Int) = n6 from en6)
  have r7 : HID ((0 : Int) ≤ n7 ∧ n7 ≤ 1000000) := nrng (H.nle 7 (by decide)) (show (N 7 : Int) = n7 from en7)
  have r8 : HID ((0 : Int) ≤ n8 ∧ n8 ≤ 1000000) := nrng (H.nle 8 (by decide)) (show (N 8 : Int) = n8 from en8)
  refine Ew_of (pc' := 241) (fun _ => x_istore rfl) ?_
  refine Ew_of (pc' := 242) (fun _ => x_aload_n rfl (rk_o (hl0) rfl rfl)) ?_
  refine v_g H (o := 0) (v := .ref (D 7)) rfl rfl rfl rfl rfl (vrf (pf7)) ?_
  refine Ew_of (pc' := 246) (fun _ => x_iconst rfl) ?_
  refine Ew_of (pc' := 247) (fun _ => x_dup2 rfl rfl rfl) ?_
  refine v_lI H (o := 7) rfl rfl rfl rfl (n := n7) (en7) (show 0 ≤ 0 ∧ 0 < n7 by have qh0 := HIDe r7; omega) (fun v9 ev9 qv9 => ?_)
  replace qv9 := HIDm qv9
  have ev9 : (A 7) (0) = v9 := (congrFun (rfl : A 7 = A 7) (0)).symm.trans ev9
  have hv0 := ev9
  refine Ew_of (pc' := 250) (fun _ => x_iload rfl rk_s) ?_
  refine Ew_of (pc' := 252) (fun _ => x_aload rfl (rk_o (hl4) rfl rfl)) ?_
  refine v_g H (o := 1) (v := I (u1_1)) rfl rfl rfl rfl rfl (congrArg (fun z : Int => I z) ((eu1_1) : F 1 1 = u1_1)) ?_
  refine w_icmpne (t := 274) rfl rfl (show inr (y0) by omega) (show inr (u1_1) by have qh0 := HIDe r1; omega) (fun b10 => ?_) (fun b10 => ?_)
  · refine Ew_of (pc' := 275) (fun _ => x_iconst rfl) ?_
    refine w_iaddE rfl ?_
    have g11 : inr (adI (v9) (1)) := toI_inr _
    have hs0 : HID (STR (y0) ((u1_1)) (sc ((A 5)) 0 ((u4_1))) (sc ((A 6)) 0 ((u1_1))) (((A 7)) 0) (((adI (v9) (1))))) := by unfold HID; first | exact STR_n hv0 (by (have qg0 := HIDe qv9; have qg1 := HIDe r1; have qg2 := HIDe r3; omega)) | exact STR_u hv0 pNONE_1 (by (have qg0 := HIDe qv9; have qg1 := HIDe r1; have qg2 := HIDe r3; omega)) | exact STR_y hv0 (by (have qg0 := HIDe qv9; have qg1 := HIDe r1; have qg2 := HIDe r3; omega)) pNONE_1 (by (have qg0 := HIDe qv9; have qg1 := HIDe r1; have qg2 := HIDe r3; omega))
    refine v_sI H (o := 7) (z := (adI (v9) (1))) rfl rfl rfl rfl (n := n7) (en7) (show 0 ≤ 0 ∧ 0 < n7 by have qh0 := HIDe r7; omega) (show inr ((adI (v9) (1))) by have qh0 := HIDe qv9; omega) (fun σ H O' => ?_)
    have O := OUT_trans O O'
    refine Ew_of (pc' := 278) (fun _ => x_aload_n rfl (rk_o (hl0) rfl rfl)) ?_
    refine v_g H (o := 0) (v := .ref (D 7)) rfl rfl rfl rfl rfl (vrf (pf7)) ?_
    refine Ew_of (pc' := 282) (fun _ => x_iconst rfl) ?_
    refine Ew_of (pc' := 283) (fun _ => x_dup2 rfl rfl rfl) ?_
    refine v_lI H (o := 7) rfl rfl rfl rfl (n := n7) (en7) (show 0 ≤ 1 ∧ 1 < n7 by have qh0 := HIDe r7; omega) (fun v12 ev12 qv12 => ?_)
    replace qv12 := HIDm qv12
    have ev12 : (upd1 (A 7) (0) ((adI (v9) (1)))) (1) = v12 := (congrFun (rfl : (updA A 7 (0) ((adI (v9) (1)))) 7 = upd1 (A 7) (0) ((adI (v9) (1)))) (1)).symm.trans ev12
    have hv1 : ((A 7)) 1 = (v12) := by have h := ev12; first | exact h | (rw [upd1_o (by decide)] at h; exact h)
    refine Ew_of (pc' := 285) (fun _ => x_aload_n rfl (rk_o (hl0) rfl rfl)) ?_
    refine v_g H (o := 0) (v := .ref (D 2)) rfl rfl rfl rfl rfl (vrf (pf2)) ?_
    refine v_g H (o := 2) (v := I (u2_1)) rfl rfl rfl rfl rfl (congrArg (fun z : Int => I z) ((eu2_1) : F 2 1 = u2_1)) ?_
    refine Ew_of (pc' := 292) (fun _ => x_aload_n rfl (rk_o (hl0) rfl rfl)) ?_
    refine Ew_of (pc' := 293) (fun _ => x_iload_n rfl (rk_o (hl3) rfl rfl)) ?_
    refine Ew_of (pc' := 295) (fun _ => x_aload rfl (rk_o (hl4) rfl rfl)) ?_
    refine v_g H (o := 1) (v := I (u1_1)) rfl rfl rfl rfl rfl (congrArg (fun z : Int => I z) ((eu1_1) : F 1 1 = u1_1)) ?_
    refine v_inv H (o := 0) rfl rfl rfl rfl rfl rfl (by rfl) (C34x (D := pul [0, 8] D) (N := pul [0, 8] N) (HW_sub H (VS_of (show vsub V17_vE0 V34 [0, 8] = true by decide +kernel))) (pf8) (n8) (en8) (w8) (ew8) (show inr (0) by omega) (show inr (u1_1) by have qh0 := HIDe r1; omega) (show 0 ≤ (u1_1) ∧ (u1_1) ≤ 16384 by have qh0 := HIDe r1; omega) (show 0 ≤ (0) ∧ (0) ≤ 5 by omega) (show 1 ≤ ((w8)) 2 ∧ ((w8)) 2 ≤ 65536 by omega) (show 0 ≤ ((w8)) 8 ∧ ((w8)) 8 ≤ 11 by omega) (show 0 ≤ ((w8)) 6 ∧ ((w8)) 6 ≤ 255 by omega) (show (n8) = 10 by have qh0 := HIDe r8; omega) (fun z13 σ13 F13' A13' H' O' hS13 hA13 pz13_0 pz13_1 => ⟨rfl, ?_⟩))
    refine v_back (c := c) (s := s) H (show vsub V17_vE0 V34 [0, 8] = true by decide +kernel) H' O' (fun F13 A13 H O' eF13 eA13 => ?_)
    have O := OUT_trans O O'
    -- PackHouse.boundOf
    have hbd := pz13_1
    clear pz13_1
    refine w_icmple (t := 308) rfl rfl (show inr (u2_1) by have qh0 := HIDe r2; omega) (show inr (z13) by omega) (fun b14 => ?_) (fun b14 => ?_)
    · refine Ew_of (pc' := 309) (fun _ => x_iconst rfl) ?_
      refine w_iaddE rfl ?_
      have g15 : inr (adI (v12) (0)) := toI_inr _
      have hs1 : HID (((adI (v12) (0))) = w32 (((A 7)) 1 + (if BNA ((w8)) 0 ((u1_1)) < (u2_1) then 1 else 0))) := by unfold HID; exact BYN hv1 (by decide) (by (have qg0 := HIDe qv12; have qg1 := HIDe r1; have qg2 := HIDe r2; omega)) hbd (by first | exact .inl ⟨by (have qg0 := HIDe qv12; have qg1 := HIDe r1; have qg2 := HIDe r2; omega), rfl⟩ | exact .inr ⟨by (have qg0 := HIDe qv12; have qg1 := HIDe r1; have qg2 := HIDe r2; omega), rfl⟩)
      clear hbd
      refine v_sI H (o := 7) (z := (adI (v12) (0))) rfl rfl rfl rfl (n := n7) (en7) (show 0 ≤ 1 ∧ 1 < n7 by have qh0 := HIDe r7; omega) (show inr ((adI (v12) (0))) by have qh0 := HIDe qv12; omega) (fun σ H O' => ?_)
      have O := OUT_trans O O'
      have : HID (STR (y0) ((u1_1)) (sc ((A 5)) 0 ((u4_1))) (sc ((A 6)) 0 ((u1_1))) (((A 7)) 0) (((upd1 (upd1 (A 7) (0) ((adI (v9) (1)))) (1) ((adI (v12) (0))))) 0)) := by rw [upd1_o (by decide), upd1_s]; exact hs0
      have : HID (((upd1 (upd1 (A 7) (0) ((adI (v9) (1)))) (1) ((adI (v12) (0))))) 1 = w32 (((A 7)) 1 + (if BNA ((w8)) 0 ((u1_1)) < (u2_1) then 1 else 0))) := by rw [upd1_s]; exact hs1
      refine Ew_of (pc' := 312) (fun _ => x_iload_n rfl (rk_o (hl3) rfl rfl)) ?_
      refine Ew_of (pc' := 313) (fun _ => x_iconst rfl) ?_
      refine w_icmpne (t := 337) rfl rfl (show inr (0) by omega) (show inr (4) by omega) (fun b16 => ?_) (fun b16 => ?_)
      · exact hc337  _ _ _ _  (rk_o (hl0) rfl rfl) (rk_o (hl1) rfl rfl) H O (SF_trans (SF_refl) (SF_glu (ι := [0, 8]) hS13 eF13 (by decide +kernel)) (any_sub (l' := []) rfl)) (SA_upd (SA_trans (SA_upd (SA_refl) rfl) (SA_glu (ι := [0, 8]) hA13 eA13 (by decide +kernel)) (any_subA (l' := []) rfl)) rfl)    (upd1 (upd1 (A 7) (0) ((adI (v9) (1)))) (1) ((adI (v12) (0)))) (congrArg (fun q => upd1 q (1) ((adI (v12) (0)))) ((show A13 7 = (updA A 7 (0) ((adI (v9) (1)))) 7 from (eA13 7)))) (show 0 ≤ (u2_1) ∧ (u2_1) ≤ (n3) ∧ (n3) ≤ 65536 by have qh0 := HIDe r2; have qh1 := HIDe r4; omega) (by assumption) (by assumption)
      · exact absurd b16 (by omega)
    · refine Ew_of (pc' := 305) (fun _ => x_iconst rfl) ?_
      refine Ew_of (pc' := 309) (fun _ => x_goto rfl rfl) ?_
      refine w_iaddE rfl ?_
      have g17 : inr (adI (v12) (1)) := toI_inr _
      have hs1 : HID (((adI (v12) (1))) = w32 (((A 7)) 1 + (if BNA ((w8)) 0 ((u1_1)) < (u2_1) then 1 else 0))) := by unfold HID; exact BYN hv1 (by decide) (by (have qg0 := HIDe qv12; have qg1 := HIDe r1; have qg2 := HIDe r2; omega)) hbd (by first | exact .inl ⟨by (have qg0 := HIDe qv12; have qg1 := HIDe r1; have qg2 := HIDe r2; omega), rfl⟩ | exact .inr ⟨by (have qg0 := HIDe qv12; have qg1 := HIDe r1; have qg2 := HIDe r2; omega), rfl⟩)
      clear hbd
      refine v_sI H (o := 7) (z := (adI (v12) (1))) rfl rfl rfl rfl (n := n7) (en7) (show 0 ≤ 1 ∧ 1 < n7 by have qh0 := HIDe r7; omega) (show inr ((adI (v12) (1))) by have qh0 := HIDe qv12; omega) (fun σ H O' => ?_)
      have O := OUT_trans O O'
      have : HID (STR (y0) ((u1_1)) (sc ((A 5)) 0 ((u4_1))) (sc ((A 6)) 0 ((u1_1))) (((A 7)) 0) (((upd1 (upd1 (A 7) (0) ((adI (v9) (1)))) (1) ((adI (v12) (1))))) 0)) := by rw [upd1_o (by decide), upd1_s]; exact hs0
      have : HID (((upd1 (upd1 (A 7) (0) ((adI (v9) (1)))) (1) ((adI (v12) (1))))) 1 = w32 (((A 7)) 1 + (if BNA ((w8)) 0 ((u1_1)) < (u2_1) then 1 else 0))) := by rw [upd1_s]; exact hs1
      refine Ew_of (pc' := 312) (fun _ => x_iload_n rfl (rk_o (hl3) rfl rfl)) ?_
      refine Ew_of (pc' := 313) (fun _ => x_iconst rfl) ?_
      refine w_icmpne (t := 337) rfl rfl (show inr (0) by omega) (show inr (4) by omega) (fun b18 => ?_) (fun b18 => ?_)
      · exact hc337  _ _ _ _  (rk_o (hl0) rfl rfl) (rk_o (hl1) rfl rfl) H O (SF_trans (SF_refl) (SF_glu (ι := [0, 8]) hS13 eF13 (by decide +kernel)) (any_sub (l' := []) rfl)) (SA_upd (SA_trans (SA_upd (SA_refl) rfl) (SA_glu (ι := [0, 8]) hA13 eA13 (by decide +kernel)) (any_subA (l' := []) rfl)) rfl)    (upd1 (upd1 (A 7) (0) ((adI (v9) (1)))) (1) ((adI (v12) (1)))) (congrArg (fun q => upd1 q (1) ((adI (v12) (1)))) ((show A13 7 = (updA A 7 (0) ((adI (v9) (1)))) 7 from (eA13 7)))) (show 0 ≤ (u2_1) ∧ (u2_1) ≤ (n3) ∧ (n3) ≤ 65536 by have qh0 := HIDe r2; have qh1 := HIDe r4; omega) (by assumption) (by assumption)
      · exact absurd b18 (by omega)
  · refine Ew_of (pc' := 259) (fun _ => x_aload_n rfl (rk_o (hl0) rfl rfl)) ?_
    refine v_g H (o := 0) (v := .ref (D 4)) rfl rfl rfl rfl rfl (vrf (pf4)) ?_
    refine Ew_of (pc' := 264) (fun _ => x_aload rfl (rk_o (hl4) rfl rfl)) ?_
    refine w_stat24 rfl rfl (by rfl) (C29_Row_Rowp (D := pul [4, 1, 5, 6] D) (N := pul [4, 1, 5, 6] N) (HW_sub H (VS_of (show vsub V17_vE0 V29_Row_Row [4, 1, 5, 6] = true by decide +kernel))) (pf5) (pf6) (n5) (en5) (n6) (en6) (u4_1) ((eu4_1)) (u1_1) ((eu1_1)) (A 5) (rfl) (A 6) (rfl) (show 0 ≤ (u4_1) ∧ (u4_1) ≤ (n5) ∧ (n5) ≤ 65536 by have qh0 := HIDe r3; have qh1 := HIDe r5; omega) (show 0 ≤ (u1_1) ∧ (u1_1) ≤ (n6) ∧ (n6) ≤ 65536 by have qh0 := HIDe r1; have qh1 := HIDe r6; omega) (fun z19 σ19 F19' A19' H' O' hS19 hA19 pz19_0 pz19_1 => ⟨rfl, ?_⟩))
    refine v_back (c := c) (s := s) H (show vsub V17_vE0 V29_Row_Row [4, 1, 5, 6] = true by decide +kernel) H' O' (fun F19 A19 H O' eF19 eA19 => ?_)
    have O := OUT_trans O O'
    -- PackHouse.firstUnlike
    refine w_ifge (t := 274) rfl rfl (show inr (z19) by omega) (fun b20 => ?_) (fun b20 => ?_)
    · refine Ew_of (pc' := 275) (fun _ => x_iconst rfl) ?_
      refine w_iaddE rfl ?_
      have g21 : inr (adI (v9) (1)) := toI_inr _
      have hs0 : HID (STR (y0) ((u1_1)) (sc ((A 5)) 0 ((u4_1))) (sc ((A 6)) 0 ((u1_1))) (((A 7)) 0) (((adI (v9) (1))))) := by unfold HID; first | exact STR_n hv0 (by (have qg0 := HIDe qv9; have qg1 := HIDe r1; have qg2 := HIDe r3; omega)) | exact STR_u hv0 pz19_1 (by (have qg0 := HIDe qv9; have qg1 := HIDe r1; have qg2 := HIDe r3; omega)) | exact STR_y hv0 (by (have qg0 := HIDe qv9; have qg1 := HIDe r1; have qg2 := HIDe r3; omega)) pz19_1 (by (have qg0 := HIDe qv9; have qg1 := HIDe r1; have qg2 := HIDe r3; omega))
      refine v_sI H (o := 7) (z := (adI (v9) (1))) rfl rfl rfl rfl (n := n7) (en7) (show 0 ≤ 0 ∧ 0 < n7 by have qh0 := HIDe r7; omega) (show inr ((adI (v9) (1))) by have qh0 := HIDe qv9; omega) (fun σ H O' => ?_)
      have O := OUT_trans O O'
      refine Ew_of (pc' := 278) (fun _ => x_aload_n rfl (rk_o (hl0) rfl rfl)) ?_
      refine v_g H (o := 0) (v := .ref (D 7)) rfl rfl rfl rfl rfl (vrf ((((show F19 0 16 = F 0 16 from (eF19 0 16)))).trans (pf7))) ?_
      refine Ew_of (pc' := 282) (fun _ => x_iconst rfl) ?_
      refine Ew_of (pc' := 283) (fun _ => x_dup2 rfl rfl rfl) ?_
      refine v_lI H (o := 7) rfl rfl rfl rfl (n := n7) (en7) (show 0 ≤ 1 ∧ 1 < n7 by have qh0 := HIDe r7; omega) (fun v22 ev22 qv22 => ?_)
      replace qv22 := HIDm qv22
      have ev22 : (upd1 (A 7) (0) ((adI (v9) (1)))) (1) = v22 := (congrFun (congrArg (fun q => upd1 q (0) ((adI (v9) (1)))) ((show A19 7 = A 7 from (eA19 7)))) (1)).symm.trans ev22
      have hv1 : ((A 7)) 1 = (v22) := by have h := ev22; first | exact h | (rw [upd1_o (by decide)] at h; exact h)
      refine Ew_of (pc' := 285) (fun _ => x_aload_n rfl (rk_o (hl0) rfl rfl)) ?_
      refine v_g H (o := 0) (v := .ref (D 2)) rfl rfl rfl rfl rfl (vrf ((((show F19 0 5 = F 0 5 from (eF19 0 5)))).trans (pf2))) ?_
      refine v_g H (o := 2) (v := I (u2_1)) rfl rfl rfl rfl rfl (congrArg (fun z : Int => I z) ((((show F19 2 1 = F 2 1 from (eF19 2 1))).trans (eu2_1)) : F19 2 1 = u2_1)) ?_
      refine Ew_of (pc' := 292) (fun _ => x_aload_n rfl (rk_o (hl0) rfl rfl)) ?_
      refine Ew_of (pc' := 293) (fun _ => x_iload_n rfl (rk_o (hl3) rfl rfl)) ?_
      refine Ew_of (pc' := 295) (fun _ => x_aload rfl (rk_o (hl4) rfl rfl)) ?_
      refine v_g H (o := 1) (v := I (u1_1)) rfl rfl rfl rfl rfl (congrArg (fun z : Int => I z) ((((show F19 1 1 = F 1 1 from (eF19 1 1).trans (hS19 1 1 rfl))).trans (eu1_1)) : F19 1 1 = u1_1)) ?_
      refine v_inv H (o := 0) rfl rfl rfl rfl rfl rfl (by rfl) (C34x (D := pul [0, 8] D) (N := pul [0, 8] N) (HW_sub H (VS_of (show vsub V17_vE0 V34 [0, 8] = true by decide +kernel))) ((((show F19 0 1 = F 0 1 from (eF19 0 1)))).trans (pf8)) (n8) (en8) (w8) (((show A19 8 = A 8 from (eA19 8))).trans (ew8)) (show inr (0) by omega) (show inr (u1_1) by have qh0 := HIDe r1; omega) (show 0 ≤ (u1_1) ∧ (u1_1) ≤ 16384 by have qh0 := HIDe r1; omega) (show 0 ≤ (0) ∧ (0) ≤ 5 by omega) (show 1 ≤ ((w8)) 2 ∧ ((w8)) 2 ≤ 65536 by omega) (show 0 ≤ ((w8)) 8 ∧ ((w8)) 8 ≤ 11 by omega) (show 0 ≤ ((w8)) 6 ∧ ((w8)) 6 ≤ 255 by omega) (show (n8) = 10 by have qh0 := HIDe r8; omega) (fun z23 σ23 F23' A23' H' O' hS23 hA23 pz23_0 pz23_1 => ⟨rfl, ?_⟩))
      refine v_back (c := c) (s := s) H (show vsub V17_vE0 V34 [0, 8] = true by decide +kernel) H' O' (fun F23 A23 H O' eF23 eA23 => ?_)
      have O := OUT_trans O O'
      -- PackHouse.boundOf
      have hbd := pz23_1
      clear pz23_1
      refine w_icmple (t := 308) rfl rfl (show inr (u2_1) by have qh0 := HIDe r2; omega) (show inr (z23) by omega) (fun b24 => ?_) (fun b24 => ?_)
      · refine Ew_of (pc' := 309) (fun _ => x_iconst rfl) ?_
        refine w_iaddE rfl ?_
        have g25 : inr (adI (v22) (0)) := toI_inr _
        have hs1 : HID (((adI (v22) (0))) = w32 (((A 7)) 1 + (if BNA ((w8)) 0 ((u1_1)) < (u2_1) then 1 else 0))) := by unfold HID; exact BYN hv1 (by decide) (by (have qg0 := HIDe qv22; have qg1 := HIDe r1; have qg2 := HIDe r2; omega)) hbd (by first | exact .inl ⟨by (have qg0 := HIDe qv22; have qg1 := HIDe r1; have qg2 := HIDe r2; omega), rfl⟩ | exact .inr ⟨by (have qg0 := HIDe qv22; have qg1 := HIDe r1; have qg2 := HIDe r2; omega), rfl⟩)
        clear hbd
        refine v_sI H (o := 7) (z := (adI (v22) (0))) rfl rfl rfl rfl (n := n7) (en7) (show 0 ≤ 1 ∧ 1 < n7 by have qh0 := HIDe r7; omega) (show inr ((adI (v22) (0))) by have qh0 := HIDe qv22; omega) (fun σ H O' => ?_)
        have O := OUT_trans O O'
        have : HID (STR (y0) ((u1_1)) (sc ((A 5)) 0 ((u4_1))) (sc ((A 6)) 0 ((u1_1))) (((A 7)) 0) (((upd1 (upd1 (A 7) (0) ((adI (v9) (1)))) (1) ((adI (v22) (0))))) 0)) := by rw [upd1_o (by decide), upd1_s]; exact hs0
        have : HID (((upd1 (upd1 (A 7) (0) ((adI (v9) (1)))) (1) ((adI (v22) (0))))) 1 = w32 (((A 7)) 1 + (if BNA ((w8)) 0 ((u1_1)) < (u2_1) then 1 else 0))) := by rw [upd1_s]; exact hs1
        refine Ew_of (pc' := 312) (fun _ => x_iload_n rfl (rk_o (hl3) rfl rfl)) ?_
        refine Ew_of (pc' := 313) (fun _ => x_iconst rfl) ?_
        refine w_icmpne (t := 337) rfl rfl (show inr (0) by omega) (show inr (4) by omega) (fun b26 => ?_) (fun b26 => ?_)
        · exact hc337  _ _ _ _  (rk_o (hl0) rfl rfl) (rk_o (hl1) rfl rfl) H O (SF_trans (SF_trans (SF_refl) (SF_glu (ι := [4, 1, 5, 6]) hS19 eF19 (by decide +kernel)) (any_sub (l' := []) rfl)) (SF_glu (ι := [0, 8]) hS23 eF23 (by decide +kernel)) (any_sub (l' := []) rfl)) (SA_upd (SA_trans (SA_upd (SA_trans (SA_refl) (SA_glu (ι := [4, 1, 5, 6]) hA19 eA19 (by decide +kernel)) (any_subA (l' := []) rfl)) rfl) (SA_glu (ι := [0, 8]) hA23 eA23 (by decide +kernel)) (any_subA (l' := []) rfl)) rfl)    (upd1 (upd1 (A 7) (0) ((adI (v9) (1)))) (1) ((adI (v22) (0)))) (congrArg (fun q => upd1 q (1) ((adI (v22) (0)))) (((show A23 7 = (updA A19 7 (0) ((adI (v9) (1)))) 7 from (eA23 7))).trans (congrArg (fun q => upd1 q (0) ((adI (v9) (1)))) ((show A19 7 = A 7 from (eA19 7)))))) (show 0 ≤ (u2_1) ∧ (u2_1) ≤ (n3) ∧ (n3) ≤ 65536 by have qh0 := HIDe r2; have qh1 := HIDe r4; omega) (by assumption) (by assumption)
        · exact absurd b26 (by omega)
      · refine Ew_of (pc' := 305) (fun _ => x_iconst rfl) ?_
        refine Ew_of (pc' := 309) (fun _ => x_goto rfl rfl) ?_
        refine w_iaddE rfl ?_
        have g27 : inr (adI (v22) (1)) := toI_inr _
        have hs1 : HID (((adI (v22) (1))) = w32 (((A 7)) 1 + (if BNA ((w8)) 0 ((u1_1)) < (u2_1) then 1 else 0))) := by unfold HID; exact BYN hv1 (by decide) (by (have qg0 := HIDe qv22; have qg1 := HIDe r1; have qg2 := HIDe r2; omega)) hbd (by first | exact .inl ⟨by (have qg0 := HIDe qv22; have qg1 := HIDe r1; have qg2 := HIDe r2; omega), rfl⟩ | exact .inr ⟨by (have qg0 := HIDe qv22; have qg1 := HIDe r1; have qg2 := HIDe r2; omega), rfl⟩)
        clear hbd
        refine v_sI H (o := 7) (z := (adI (v22) (1))) rfl rfl rfl rfl (n := n7) (en7) (show 0 ≤ 1 ∧ 1 < n7 by have qh0 := HIDe r7; omega) (show inr ((adI (v22) (1))) by have qh0 := HIDe qv22; omega) (fun σ H O' => ?_)
        have O := OUT_trans O O'
        have : HID (STR (y0) ((u1_1)) (sc ((A 5)) 0 ((u4_1))) (sc ((A 6)) 0 ((u1_1))) (((A 7)) 0) (((upd1 (upd1 (A 7) (0) ((adI (v9) (1)))) (1) ((adI (v22) (1))))) 0)) := by rw [upd1_o (by decide), upd1_s]; exact hs0
        have : HID (((upd1 (upd1 (A 7) (0) ((adI (v9) (1)))) (1) ((adI (v22) (1))))) 1 = w32 (((A 7)) 1 + (if BNA ((w8)) 0 ((u1_1)) < (u2_1) then 1 else 0))) := by rw [upd1_s]; exact hs1
        refine Ew_of (pc' := 312) (fun _ => x_iload_n rfl (rk_o (hl3) rfl rfl)) ?_
        refine Ew_of (pc' := 313) (fun _ => x_iconst rfl) ?_
        refine w_icmpne (t := 337) rfl rfl (show inr (0) by omega) (show inr (4) by omega) (fun b28 => ?_) (fun b28 => ?_)
        · exact hc337  _ _ _ _  (rk_o (hl0) rfl rfl) (rk_o (hl1) rfl rfl) H O (SF_trans (SF_trans (SF_refl) (SF_glu (ι := [4, 1, 5, 6]) hS19 eF19 (by decide +kernel)) (any_sub (l' := []) rfl)) (SF_glu (ι := [0, 8]) hS23 eF23 (by decide +kernel)) (any_sub (l' := []) rfl)) (SA_upd (SA_trans (SA_upd (SA_trans (SA_refl) (SA_glu (ι := [4, 1, 5, 6]) hA19 eA19 (by decide +kernel)) (any_subA (l' := []) rfl)) rfl) (SA_glu (ι := [0, 8]) hA23 eA23 (by decide +kernel)) (any_subA (l' := []) rfl)) rfl)    (upd1 (upd1 (A 7) (0) ((adI (v9) (1)))) (1) ((adI (v22) (1)))) (congrArg (fun q => upd1 q (1) ((adI (v22) (1)))) (((show A23 7 = (updA A19 7 (0) ((adI (v9) (1)))) 7 from (eA23 7))).trans (congrArg (fun q => upd1 q (0) ((adI (v9) (1)))) ((show A19 7 = A 7 from (eA19 7)))))) (show 0 ≤ (u2_1) ∧ (u2_1) ≤ (n3) ∧ (n3) ≤ 65536 by have qh0 := HIDe r2; have qh1 := HIDe r4; omega) (by assumption) (by assumption)
        · exact absurd b28 (by omega)
    · refine Ew_of (pc' := 271) (fun _ => x_iconst rfl) ?_
      refine Ew_of (pc' := 275) (fun _ => x_goto rfl rfl) ?_
      refine w_iaddE rfl ?_
      have g29 : inr (adI (v9) (0)) := toI_inr _
      have hs0 : HID (STR (y0) ((u1_1)) (sc ((A 5)) 0 ((u4_1))) (sc ((A 6)) 0 ((u1_1))) (((A 7)) 0) (((adI (v9) (0))))) := by unfold HID; first | exact STR_n hv0 (by (have qg0 := HIDe qv9; have qg1 := HIDe r1; have qg2 := HIDe r3; omega)) | exact STR_u hv0 pz19_1 (by (have qg0 := HIDe qv9; have qg1 := HIDe r1; have qg2 := HIDe r3; omega)) | exact STR_y hv0 (by (have qg0 := HIDe qv9; have qg1 := HIDe r1; have qg2 := HIDe r3; omega)) pz19_1 (by (have qg0 := HIDe qv9; have qg1 := HIDe r1; have qg2 := HIDe r3; omega))
      refine v_sI H (o := 7) (z := (adI (v9) (0))) rfl rfl rfl rfl (n := n7) (en7) (show 0 ≤ 0 ∧ 0 < n7 by have qh0 := HIDe r7; omega) (show inr ((adI (v9) (0))) by have qh0 := HIDe qv9; omega) (fun σ H O' => ?_)
      have O := OUT_trans O O'
      refine Ew_of (pc' := 278) (fun _ => x_aload_n rfl (rk_o (hl0) rfl rfl)) ?_
      refine v_g H (o := 0) (v := .ref (D 7)) rfl rfl rfl rfl rfl (vrf ((((show F19 0 16 = F 0 16 from (eF19 0 16)))).trans (pf7))) ?_
      refine Ew_of (pc' := 282) (fun _ => x_iconst rfl) ?_
      refine Ew_of (pc' := 283) (fun _ => x_dup2 rfl rfl rfl) ?_
      refine v_lI H (o := 7) rfl rfl rfl rfl (n := n7) (en7) (show 0 ≤ 1 ∧ 1 < n7 by have qh0 := HIDe r7; omega) (fun v30 ev30 qv30 => ?_)
      replace qv30 := HIDm qv30
      have ev30 : (upd1 (A 7) (0) ((adI (v9) (0)))) (1) = v30 := (congrFun (congrArg (fun q => upd1 q (0) ((adI (v9) (0)))) ((show A19 7 = A 7 from (eA19 7)))) (1)).symm.trans ev30
      have hv1 : ((A 7)) 1 = (v30) := by have h := ev30; first | exact h | (rw [upd1_o (by decide)] at h; exact h)
      refine Ew_of (pc' := 285) (fun _ => x_aload_n rfl (rk_o (hl0) rfl rfl)) ?_
      refine v_g H (o := 0) (v := .ref (D 2)) rfl rfl rfl rfl rfl (vrf ((((show F19 0 5 = F 0 5 from (eF19 0 5)))).trans (pf2))) ?_
      refine v_g H (o := 2) (v := I (u2_1)) rfl rfl rfl rfl rfl (congrArg (fun z : Int => I z) ((((show F19 2 1 = F 2 1 from (eF19 2 1))).trans (eu2_1)) : F19 2 1 = u2_1)) ?_
      refine Ew_of (pc' := 292) (fun _ => x_aload_n rfl (rk_o (hl0) rfl rfl)) ?_
      refine Ew_of (pc' := 293) (fun _ => x_iload_n rfl (rk_o (hl3) rfl rfl)) ?_
      refine Ew_of (pc' := 295) (fun _ => x_aload rfl (rk_o (hl4) rfl rfl)) ?_
      refine v_g H (o := 1) (v := I (u1_1)) rfl rfl rfl rfl rfl (congrArg (fun z : Int => I z) ((((show F19 1 1 = F 1 1 from (eF19 1 1).trans (hS19 1 1 rfl))).trans (eu1_1)) : F19 1 1 = u1_1)) ?_
      refine v_inv H (o := 0) rfl rfl rfl rfl rfl rfl (by rfl) (C34x (D := pul [0, 8] D) (N := pul [0, 8] N) (HW_sub H (VS_of (show vsub V17_vE0 V34 [0, 8] = true by decide +kernel))) ((((show F19 0 1 = F 0 1 from (eF19 0 1)))).trans (pf8)) (n8) (en8) (w8) (((show A19 8 = A 8 from (eA19 8))).trans (ew8)) (show inr (0) by omega) (show inr (u1_1) by have qh0 := HIDe r1; omega) (show 0 ≤ (u1_1) ∧ (u1_1) ≤ 16384 by have qh0 := HIDe r1; omega) (show 0 ≤ (0) ∧ (0) ≤ 5 by omega) (show 1 ≤ ((w8)) 2 ∧ ((w8)) 2 ≤ 65536 by omega) (show 0 ≤ ((w8)) 8 ∧ ((w8)) 8 ≤ 11 by omega) (show 0 ≤ ((w8)) 6 ∧ ((w8)) 6 ≤ 255 by omega) (show (n8) = 10 by have qh0 := HIDe r8; omega) (fun z31 σ31 F31' A31' H' O' hS31 hA31 pz31_0 pz31_1 => ⟨rfl, ?_⟩))
      refine v_back (c := c) (s := s) H (show vsub V17_vE0 V34 [0, 8] = true by decide +kernel) H' O' (fun F31 A31 H O' eF31 eA31 => ?_)
      have O := OUT_trans O O'
      -- PackHouse.boundOf
      have hbd := pz31_1
      clear pz31_1
      refine w_icmple (t := 308) rfl rfl (show inr (u2_1) by have qh0 := HIDe r2; omega) (show inr (z31) by omega) (fun b32 => ?_) (fun b32 => ?_)
      · refine Ew_of (pc' := 309) (fun _ => x_iconst rfl) ?_
        refine w_iaddE rfl ?_
        have g33 : inr (adI (v30) (0)) := toI_inr _
        have hs1 : HID (((adI (v30) (0))) = w32 (((A 7)) 1 + (if BNA ((w8)) 0 ((u1_1)) < (u2_1) then 1 else 0))) := by unfold HID; exact BYN hv1 (by decide) (by (have qg0 := HIDe qv30; have qg1 := HIDe r1; have qg2 := HIDe r2; omega)) hbd (by first | exact .inl ⟨by (have qg0 := HIDe qv30; have qg1 := HIDe r1; have qg2 := HIDe r2; omega), rfl⟩ | exact .inr ⟨by (have qg0 := HIDe qv30; have qg1 := HIDe r1; have qg2 := HIDe r2; omega), rfl⟩)
        clear hbd
        refine v_sI H (o := 7) (z := (adI (v30) (0))) rfl rfl rfl rfl (n := n7) (en7) (show 0 ≤ 1 ∧ 1 < n7 by have qh0 := HIDe r7; omega) (show inr ((adI (v30) (0))) by have qh0 := HIDe qv30; omega) (fun σ H O' => ?_)
        have O := OUT_trans O O'
        have : HID (STR (y0) ((u1_1)) (sc ((A 5)) 0 ((u4_1))) (sc ((A 6)) 0 ((u1_1))) (((A 7)) 0) (((upd1 (upd1 (A 7) (0) ((adI (v9) (0)))) (1) ((adI (v30) (0))))) 0)) := by rw [upd1_o (by decide), upd1_s]; exact hs0
        have : HID (((upd1 (upd1 (A 7) (0) ((adI (v9) (0)))) (1) ((adI (v30) (0))))) 1 = w32 (((A 7)) 1 + (if BNA ((w8)) 0 ((u1_1)) < (u2_1) then 1 else 0))) := by rw [upd1_s]; exact hs1
        refine Ew_of (pc' := 312) (fun _ => x_iload_n rfl (rk_o (hl3) rfl rfl)) ?_
        refine Ew_of (pc' := 313) (fun _ => x_iconst rfl) ?_
        refine w_icmpne (t := 337) rfl rfl (show inr (0) by omega) (show inr (4) by omega) (fun b34 => ?_) (fun b34 => ?_)
        · exact hc337  _ _ _ _  (rk_o (hl0) rfl rfl) (rk_o (hl1) rfl rfl) H O (SF_trans (SF_trans (SF_refl) (SF_glu (ι := [4, 1, 5, 6]) hS19 eF19 (by decide +kernel)) (any_sub (l' := []) rfl)) (SF_glu (ι := [0, 8]) hS31 eF31 (by decide +kernel)) (any_sub (l' := []) rfl)) (SA_upd (SA_trans (SA_upd (SA_trans (SA_refl) (SA_glu (ι := [4, 1, 5, 6]) hA19 eA19 (by decide +kernel)) (any_subA (l' := []) rfl)) rfl) (SA_glu (ι := [0, 8]) hA31 eA31 (by decide +kernel)) (any_subA (l' := []) rfl)) rfl)    (upd1 (upd1 (A 7) (0) ((adI (v9) (0)))) (1) ((adI (v30) (0)))) (congrArg (fun q => upd1 q (1) ((adI (v30) (0)))) (((show A31 7 = (updA A19 7 (0) ((adI (v9) (0)))) 7 from (eA31 7))).trans (congrArg (fun q => upd1 q (0) ((adI (v9) (0)))) ((show A19 7 = A 7 from (eA19 7)))))) (show 0 ≤ (u2_1) ∧ (u2_1) ≤ (n3) ∧ (n3) ≤ 65536 by have qh0 := HIDe r2; have qh1 := HIDe r4; omega) (by assumption) (by assumption)
        · exact absurd b34 (by omega)
      · refine Ew_of (pc' := 305) (fun _ => x_iconst rfl) ?_
        refine Ew_of (pc' := 309) (fun _ => x_goto rfl rfl) ?_
        refine w_iaddE rfl ?_
        have g35 : inr (adI (v30) (1)) := toI_inr _
        have hs1 : HID (((adI (v30) (1))) = w32 (((A 7)) 1 + (if BNA ((w8)) 0 ((u1_1)) < (u2_1) then 1 else 0))) := by unfold HID; exact BYN hv1 (by decide) (by (have qg0 := HIDe qv30; have qg1 := HIDe r1; have qg2 := HIDe r2; omega)) hbd (by first | exact .inl ⟨by (have qg0 := HIDe qv30; have qg1 := HIDe r1; have qg2 := HIDe r2; omega), rfl⟩ | exact .inr ⟨by (have qg0 := HIDe qv30; have qg1 := HIDe r1; have qg2 := HIDe r2; omega), rfl⟩)
        clear hbd
        refine v_sI H (o := 7) (z := (adI (v30) (1))) rfl rfl rfl rfl (n := n7) (en7) (show 0 ≤ 1 ∧ 1 < n7 by have qh0 := HIDe r7; omega) (show inr ((adI (v30) (1))) by have qh0 := HIDe qv30; omega) (fun σ H O' => ?_)
        have O := OUT_trans O O'
        have : HID (STR (y0) ((u1_1)) (sc ((A 5)) 0 ((u4_1))) (sc ((A 6)) 0 ((u1_1))) (((A 7)) 0) (((upd1 (upd1 (A 7) (0) ((adI (v9) (0)))) (1) ((adI (v30) (1))))) 0)) := by rw [upd1_o (by decide), upd1_s]; exact hs0
        have : HID (((upd1 (upd1 (A 7) (0) ((adI (v9) (0)))) (1) ((adI (v30) (1))))) 1 = w32 (((A 7)) 1 + (if BNA ((w8)) 0 ((u1_1)) < (u2_1) then 1 else 0))) := by rw [upd1_s]; exact hs1
        refine Ew_of (pc' := 312) (fun _ => x_iload_n rfl (rk_o (hl3) rfl rfl)) ?_
        refine Ew_of (pc' := 313) (fun _ => x_iconst rfl) ?_
        refine w_icmpne (t := 337) rfl rfl (show inr (0) by omega) (show inr (4) by omega) (fun b36 => ?_) (fun b36 => ?_)
        · exact hc337  _ _ _ _  (rk_o (hl0) rfl rfl) (rk_o (hl1) rfl rfl) H O (SF_trans (SF_trans (SF_refl) (SF_glu (ι := [4, 1, 5, 6]) hS19 eF19 (by decide +kernel)) (any_sub (l' := []) rfl)) (SF_glu (ι := [0, 8]) hS31 eF31 (by decide +kernel)) (any_sub (l' := []) rfl)) (SA_upd (SA_trans (SA_upd (SA_trans (SA_refl) (SA_glu (ι := [4, 1, 5, 6]) hA19 eA19 (by decide +kernel)) (any_subA (l' := []) rfl)) rfl) (SA_glu (ι := [0, 8]) hA31 eA31 (by decide +kernel)) (any_subA (l' := []) rfl)) rfl)    (upd1 (upd1 (A 7) (0) ((adI (v9) (0)))) (1) ((adI (v30) (1)))) (congrArg (fun q => upd1 q (1) ((adI (v30) (1)))) (((show A31 7 = (updA A19 7 (0) ((adI (v9) (0)))) 7 from (eA31 7))).trans (congrArg (fun q => upd1 q (0) ((adI (v9) (0)))) ((show A19 7 = A 7 from (eA19 7)))))) (show 0 ≤ (u2_1) ∧ (u2_1) ≤ (n3) ∧ (n3) ≤ 65536 by have qh0 := HIDe r2; have qh1 := HIDe r4; omega) (by assumption) (by assumption)
        · exact absurd b36 (by omega)
abbrev V17_vE1 : vV := [(0, 0, [(4, 0), (4, 0), (4, 0), (4, 0), (4, 0), (4, 0), (4, 0), (4, 0), (4, 0), (4, 0), (4, 0), (4, 0), (4, 0), (4, 0), (4, 0), (4, 0), (4, 0), (0, 0), (0, 0)]), (0, 7, [(4, 0), (0, 0), (1, 0), (0, 0), (0, 0)]), (0, 7, [(4, 0), (0, 0), (1, 0), (0, 0), (0, 0)]), (1, 0, []), (0, 7, [(4, 0), (0, 0), (1, 0), (0, 0), (0, 0)]), (1, 0, []), (1, 0, []), (1, 1, []), (1, 1, [])]
/-- PackHouse.write: this, @F, this.written, this.written.bytes, this.content, this.content.bytes, @F.bytes, this.strays, this.settings -/
theorem C17_vE1 {σE : rS} {D N : Nat → Nat} {F : hF} {A : hA} {d c s : Nat} {Q : wQ} (H : HW V17_vE1 σE D N F A) {x1 y0 : Int} (pf2 : F 0 5 = (D 2 : Int)) (pf3 : F 2 0 = (D 3 : Int)) (pf4 : F 0 6 = (D 4 : Int)) (pf5 : F 4 0 = (D 5 : Int)) (pf6 : F 1 0 = (D 6 : Int)) (pf7 : F 0 16 = (D 7 : Int)) (pf8 : F 0 1 = (D 8 : Int)) (n3 : Int) (en3 : (N 3 : Int) = n3) (n5 : Int) (en5 : (N 5 : Int) = n5) (n6 : Int) (en6 : (N 6 : Int) = n6) (n7 : Int) (en7 : (N 7 : Int) = n7) (n8 : Int) (en8 : (N 8 : Int) = n8) (u1_1 : Int) (eu1_1 : F 1 1 = u1_1) (u2_1 : Int) (eu2_1 : F 2 1 = u2_1) (u4_1 : Int) (eu4_1 : F 4 1 = u4_1) (w8 : Int → Int) (ew8 : A 8 = w8) {ls : rO} (hl0 : rlook ls 0 = some (.ref (D 0))) (hl1 : rlook ls 1 = some (I (x1))) (hl3 : rlook ls 3 = some (I (1))) (hl4 : rlook ls 4 = some (.ref (D 1))) (h0 : inr (x1)) (h1 : inr y0) (h2 : 0 ≤ (u2_1) ∧ (u2_1) ≤ (n3) ∧ (n3) ≤ 65536) (h3 : 0 ≤ (u4_1) ∧ (u4_1) ≤ (n5) ∧ (n5) ≤ 65536) (h4 : 0 ≤ (u1_1) ∧ (u1_1) ≤ (n6) ∧ (n6) ≤ 65536) (h5 : (u1_1) ≤ 16384) (h6 : (n7) = 2) (h7 : 1 ≤ ((w8)) 2 ∧ ((w8)) 2 ≤ 65536) (h8 : 0 ≤ ((w8)) 8 ∧ ((w8)) 8 ≤ 11) (h9 : 0 ≤ ((w8)) 6 ∧ ((w8)) 6 ≤ 255) (h10 : (n8) = 10) (hc337 : ∀ (ls : rO) (σ : rS) (F_c337 : hF) (A_c337 : hA) , rlook ls 0 = some (.ref (D 0)) → rlook ls 1 = some (I (x1)) → HW V17_vE1 σ D N F_c337 A_c337 → OUT (V17_vE1).length D N σE c s D N σ c s → SF [] F F_c337 → SA [7] A A_c337 → ∀ wc337_7 : Int → Int, A_c337 7 = wc337_7 → (0 ≤ (u2_1) ∧ (u2_1) ≤ (n3) ∧ (n3) ≤ 65536) → (HID (STR (y0) ((u1_1)) (sc ((A 5)) 0 ((u4_1))) (sc ((A 6)) 0 ((u1_1))) (((A 7)) 0) (((wc337_7)) 0))) → (HID (((wc337_7)) 1 = w32 (((A 7)) 1 + (if BNA ((w8)) 1 ((u1_1)) < (u2_1) then 1 else 0)))) → Ew 17 (d + 3) 337 ls [] σ c s Q) (k : ∀ (z : Int) (σ : rS) (F' : hF) (A' : hA), HW V17_vE1 σ D N F' A' → OUT (V17_vE1).length D N σE c s D N σ c s → SF [] F F' → SA [7] A A' → (inr (z)) → ((0 : Int) = 1) → Q (some (I z)) σ c s) : Ew 17 (d + 3) 239 ls [I (y0)] σE c s Q := by
  have O := OUT_refl (n := (V17_vE1).length) (D := D) (N := N) (σ := σE) (c := c) (s := s)
  have HE := H
  have r1 : HID ((-2147483648 : Int) ≤ u1_1 ∧ u1_1 ≤ 2147483647) := krg_e (show (-2147483648 : Int) ≤ F 1 1 ∧ F 1 1 ≤ 2147483647 from H.krg 1 1 (by decide)) (show F 1 1 = u1_1 from (eu1_1))
  have r2 : HID ((-2147483648 : Int) ≤ u2_1 ∧ u2_1 ≤ 2147483647) := krg_e (show (-2147483648 : Int) ≤ F 2 1 ∧ F 2 1 ≤ 2147483647 from H.krg 2 1 (by decide)) (show F 2 1 = u2_1 from (eu2_1))
  have r3 : HID ((-2147483648 : Int) ≤ u4_1 ∧ u4_1 ≤ 2147483647) := krg_e (show (-2147483648 : Int) ≤ F 4 1 ∧ F 4 1 ≤ 2147483647 from H.krg 4 1 (by decide)) (show F 4 1 = u4_1 from (eu4_1))
  replace pf2 := HIDm pf2
  replace pf3 := HIDm pf3
  replace pf4 := HIDm pf4
  replace pf5 := HIDm pf5
  replace pf6 := HIDm pf6
  replace pf7 := HIDm pf7
  replace pf8 := HIDm pf8
  replace en3 := HIDm en3
  replace en5 := HIDm en5
  replace en6 := HIDm en6
  replace en7 := HIDm en7
  replace en8 := HIDm en8
  replace eu1_1 := HIDm eu1_1
  replace eu2_1 := HIDm eu2_1
  replace eu4_1 := HIDm eu4_1
  have r4 : HID ((0 : Int) ≤ n3 ∧ n3 ≤ 1000000) := nrng (H.nle 3 (by decide)) (show (N 3 : Int) = n3 from en3)
  have r5 : HID ((0 : Int) ≤ n5 ∧ n5 ≤ 1000000) := nrng (H.nle 5 (by decide)) (show (N 5 : Int) = n5 from en5)
  have r6 : HID ((0 : Int) ≤ n6 ∧ n6 ≤ 1000000) := nrng (H.nle 6 (by decide)) (show (N 6 : Int) = n6 from en6)
  have r7 : HID ((0 : Int) ≤ n7 ∧ n7 ≤ 1000000) := nrng (H.nle 7 (by decide)) (show (N 7 : Int) = n7 from en7)
  have r8 : HID ((0 : Int) ≤ n8 ∧ n8 ≤ 1000000) := nrng (H.nle 8 (by decide)) (show (N 8 : Int) = n8 from en8)
  refine Ew_of (pc' := 241) (fun _ => x_istore rfl) ?_
  refine Ew_of (pc' := 242) (fun _ => x_aload_n rfl (rk_o (hl0) rfl rfl)) ?_
  refine v_g H (o := 0) (v := .ref (D 7)) rfl rfl rfl rfl rfl (vrf (pf7)) ?_
  refine Ew_of (pc' := 246) (fun _ => x_iconst rfl) ?_
  refine Ew_of (pc' := 247) (fun _ => x_dup2 rfl rfl rfl) ?_
  refine v_lI H (o := 7) rfl rfl rfl rfl (n := n7) (en7) (show 0 ≤ 0 ∧ 0 < n7 by have qh0 := HIDe r7; omega) (fun v9 ev9 qv9 => ?_)
  replace qv9 := HIDm qv9
  have ev9 : (A 7) (0) = v9 := (congrFun (rfl : A 7 = A 7) (0)).symm.trans ev9
  have hv0 := ev9
  refine Ew_of (pc' := 250) (fun _ => x_iload rfl rk_s) ?_
  refine Ew_of (pc' := 252) (fun _ => x_aload rfl (rk_o (hl4) rfl rfl)) ?_
  refine v_g H (o := 1) (v := I (u1_1)) rfl rfl rfl rfl rfl (congrArg (fun z : Int => I z) ((eu1_1) : F 1 1 = u1_1)) ?_
  refine w_icmpne (t := 274) rfl rfl (show inr (y0) by omega) (show inr (u1_1) by have qh0 := HIDe r1; omega) (fun b10 => ?_) (fun b10 => ?_)
  · refine Ew_of (pc' := 275) (fun _ => x_iconst rfl) ?_
    refine w_iaddE rfl ?_
    have g11 : inr (adI (v9) (1)) := toI_inr _
    have hs0 : HID (STR (y0) ((u1_1)) (sc ((A 5)) 0 ((u4_1))) (sc ((A 6)) 0 ((u1_1))) (((A 7)) 0) (((adI (v9) (1))))) := by unfold HID; first | exact STR_n hv0 (by (have qg0 := HIDe qv9; have qg1 := HIDe r1; have qg2 := HIDe r3; omega)) | exact STR_u hv0 pNONE_1 (by (have qg0 := HIDe qv9; have qg1 := HIDe r1; have qg2 := HIDe r3; omega)) | exact STR_y hv0 (by (have qg0 := HIDe qv9; have qg1 := HIDe r1; have qg2 := HIDe r3; omega)) pNONE_1 (by (have qg0 := HIDe qv9; have qg1 := HIDe r1; have qg2 := HIDe r3; omega))
    refine v_sI H (o := 7) (z := (adI (v9) (1))) rfl rfl rfl rfl (n := n7) (en7) (show 0 ≤ 0 ∧ 0 < n7 by have qh0 := HIDe r7; omega) (show inr ((adI (v9) (1))) by have qh0 := HIDe qv9; omega) (fun σ H O' => ?_)
    have O := OUT_trans O O'
    refine Ew_of (pc' := 278) (fun _ => x_aload_n rfl (rk_o (hl0) rfl rfl)) ?_
    refine v_g H (o := 0) (v := .ref (D 7)) rfl rfl rfl rfl rfl (vrf (pf7)) ?_
    refine Ew_of (pc' := 282) (fun _ => x_iconst rfl) ?_
    refine Ew_of (pc' := 283) (fun _ => x_dup2 rfl rfl rfl) ?_
    refine v_lI H (o := 7) rfl rfl rfl rfl (n := n7) (en7) (show 0 ≤ 1 ∧ 1 < n7 by have qh0 := HIDe r7; omega) (fun v12 ev12 qv12 => ?_)
    replace qv12 := HIDm qv12
    have ev12 : (upd1 (A 7) (0) ((adI (v9) (1)))) (1) = v12 := (congrFun (rfl : (updA A 7 (0) ((adI (v9) (1)))) 7 = upd1 (A 7) (0) ((adI (v9) (1)))) (1)).symm.trans ev12
    have hv1 : ((A 7)) 1 = (v12) := by have h := ev12; first | exact h | (rw [upd1_o (by decide)] at h; exact h)
    refine Ew_of (pc' := 285) (fun _ => x_aload_n rfl (rk_o (hl0) rfl rfl)) ?_
    refine v_g H (o := 0) (v := .ref (D 2)) rfl rfl rfl rfl rfl (vrf (pf2)) ?_
    refine v_g H (o := 2) (v := I (u2_1)) rfl rfl rfl rfl rfl (congrArg (fun z : Int => I z) ((eu2_1) : F 2 1 = u2_1)) ?_
    refine Ew_of (pc' := 292) (fun _ => x_aload_n rfl (rk_o (hl0) rfl rfl)) ?_
    refine Ew_of (pc' := 293) (fun _ => x_iload_n rfl (rk_o (hl3) rfl rfl)) ?_
    refine Ew_of (pc' := 295) (fun _ => x_aload rfl (rk_o (hl4) rfl rfl)) ?_
    refine v_g H (o := 1) (v := I (u1_1)) rfl rfl rfl rfl rfl (congrArg (fun z : Int => I z) ((eu1_1) : F 1 1 = u1_1)) ?_
    refine v_inv H (o := 0) rfl rfl rfl rfl rfl rfl (by rfl) (C34x (D := pul [0, 8] D) (N := pul [0, 8] N) (HW_sub H (VS_of (show vsub V17_vE1 V34 [0, 8] = true by decide +kernel))) (pf8) (n8) (en8) (w8) (ew8) (show inr (1) by omega) (show inr (u1_1) by have qh0 := HIDe r1; omega) (show 0 ≤ (u1_1) ∧ (u1_1) ≤ 16384 by have qh0 := HIDe r1; omega) (show 0 ≤ (1) ∧ (1) ≤ 5 by omega) (show 1 ≤ ((w8)) 2 ∧ ((w8)) 2 ≤ 65536 by omega) (show 0 ≤ ((w8)) 8 ∧ ((w8)) 8 ≤ 11 by omega) (show 0 ≤ ((w8)) 6 ∧ ((w8)) 6 ≤ 255 by omega) (show (n8) = 10 by have qh0 := HIDe r8; omega) (fun z13 σ13 F13' A13' H' O' hS13 hA13 pz13_0 pz13_1 => ⟨rfl, ?_⟩))
    refine v_back (c := c) (s := s) H (show vsub V17_vE1 V34 [0, 8] = true by decide +kernel) H' O' (fun F13 A13 H O' eF13 eA13 => ?_)
    have O := OUT_trans O O'
    -- PackHouse.boundOf
    have hbd := pz13_1
    clear pz13_1
    refine w_icmple (t := 308) rfl rfl (show inr (u2_1) by have qh0 := HIDe r2; omega) (show inr (z13) by omega) (fun b14 => ?_) (fun b14 => ?_)
    · refine Ew_of (pc' := 309) (fun _ => x_iconst rfl) ?_
      refine w_iaddE rfl ?_
      have g15 : inr (adI (v12) (0)) := toI_inr _
      have hs1 : HID (((adI (v12) (0))) = w32 (((A 7)) 1 + (if BNA ((w8)) 1 ((u1_1)) < (u2_1) then 1 else 0))) := by unfold HID; exact BYN hv1 (by decide) (by (have qg0 := HIDe qv12; have qg1 := HIDe r1; have qg2 := HIDe r2; omega)) hbd (by first | exact .inl ⟨by (have qg0 := HIDe qv12; have qg1 := HIDe r1; have qg2 := HIDe r2; omega), rfl⟩ | exact .inr ⟨by (have qg0 := HIDe qv12; have qg1 := HIDe r1; have qg2 := HIDe r2; omega), rfl⟩)
      clear hbd
      refine v_sI H (o := 7) (z := (adI (v12) (0))) rfl rfl rfl rfl (n := n7) (en7) (show 0 ≤ 1 ∧ 1 < n7 by have qh0 := HIDe r7; omega) (show inr ((adI (v12) (0))) by have qh0 := HIDe qv12; omega) (fun σ H O' => ?_)
      have O := OUT_trans O O'
      have : HID (STR (y0) ((u1_1)) (sc ((A 5)) 0 ((u4_1))) (sc ((A 6)) 0 ((u1_1))) (((A 7)) 0) (((upd1 (upd1 (A 7) (0) ((adI (v9) (1)))) (1) ((adI (v12) (0))))) 0)) := by rw [upd1_o (by decide), upd1_s]; exact hs0
      have : HID (((upd1 (upd1 (A 7) (0) ((adI (v9) (1)))) (1) ((adI (v12) (0))))) 1 = w32 (((A 7)) 1 + (if BNA ((w8)) 1 ((u1_1)) < (u2_1) then 1 else 0))) := by rw [upd1_s]; exact hs1
      refine Ew_of (pc' := 312) (fun _ => x_iload_n rfl (rk_o (hl3) rfl rfl)) ?_
      refine Ew_of (pc' := 313) (fun _ => x_iconst rfl) ?_
      refine w_icmpne (t := 337) rfl rfl (show inr (1) by omega) (show inr (4) by omega) (fun b16 => ?_) (fun b16 => ?_)
      · exact hc337  _ _ _ _  (rk_o (hl0) rfl rfl) (rk_o (hl1) rfl rfl) H O (SF_trans (SF_refl) (SF_glu (ι := [0, 8]) hS13 eF13 (by decide +kernel)) (any_sub (l' := []) rfl)) (SA_upd (SA_trans (SA_upd (SA_refl) rfl) (SA_glu (ι := [0, 8]) hA13 eA13 (by decide +kernel)) (any_subA (l' := []) rfl)) rfl)    (upd1 (upd1 (A 7) (0) ((adI (v9) (1)))) (1) ((adI (v12) (0)))) (congrArg (fun q => upd1 q (1) ((adI (v12) (0)))) ((show A13 7 = (updA A 7 (0) ((adI (v9) (1)))) 7 from (eA13 7)))) (show 0 ≤ (u2_1) ∧ (u2_1) ≤ (n3) ∧ (n3) ≤ 65536 by have qh0 := HIDe r2; have qh1 := HIDe r4; omega) (by assumption) (by assumption)
      · exact absurd b16 (by omega)
    · refine Ew_of (pc' := 305) (fun _ => x_iconst rfl) ?_
      refine Ew_of (pc' := 309) (fun _ => x_goto rfl rfl) ?_
      refine w_iaddE rfl ?_
      have g17 : inr (adI (v12) (1)) := toI_inr _
      have hs1 : HID (((adI (v12) (1))) = w32 (((A 7)) 1 + (if BNA ((w8)) 1 ((u1_1)) < (u2_1) then 1 else 0))) := by unfold HID; exact BYN hv1 (by decide) (by (have qg0 := HIDe qv12; have qg1 := HIDe r1; have qg2 := HIDe r2; omega)) hbd (by first | exact .inl ⟨by (have qg0 := HIDe qv12; have qg1 := HIDe r1; have qg2 := HIDe r2; omega), rfl⟩ | exact .inr ⟨by (have qg0 := HIDe qv12; have qg1 := HIDe r1; have qg2 := HIDe r2; omega), rfl⟩)
      clear hbd
      refine v_sI H (o := 7) (z := (adI (v12) (1))) rfl rfl rfl rfl (n := n7) (en7) (show 0 ≤ 1 ∧ 1 < n7 by have qh0 := HIDe r7; omega) (show inr ((adI (v12) (1))) by have qh0 := HIDe qv12; omega) (fun σ H O' => ?_)
      have O := OUT_trans O O'
      have : HID (STR (y0) ((u1_1)) (sc ((A 5)) 0 ((u4_1))) (sc ((A 6)) 0 ((u1_1))) (((A 7)) 0) (((upd1 (upd1 (A 7) (0) ((adI (v9) (1)))) (1) ((adI (v12) (1))))) 0)) := by rw [upd1_o (by decide), upd1_s]; exact hs0
      have : HID (((upd1 (upd1 (A 7) (0) ((adI (v9) (1)))) (1) ((adI (v12) (1))))) 1 = w32 (((A 7)) 1 + (if BNA ((w8)) 1 ((u1_1)) < (u2_1) then 1 else 0))) := by rw [upd1_s]; exact hs1
      refine Ew_of (pc' := 312) (fun _ => x_iload_n rfl (rk_o (hl3) rfl rfl)) ?_
      refine Ew_of (pc' := 313) (fun _ => x_iconst rfl) ?_
      refine w_icmpne (t := 337) rfl rfl (show inr (1) by omega) (show inr (4) by omega) (fun b18 => ?_) (fun b18 => ?_)
      · exact hc337  _ _ _ _  (rk_o (hl0) rfl rfl) (rk_o (hl1) rfl rfl) H O (SF_trans (SF_refl) (SF_glu (ι := [0, 8]) hS13 eF13 (by decide +kernel)) (any_sub (l' := []) rfl)) (SA_upd (SA_trans (SA_upd (SA_refl) rfl) (SA_glu (ι := [0, 8]) hA13 eA13 (by decide +kernel)) (any_subA (l' := []) rfl)) rfl)    (upd1 (upd1 (A 7) (0) ((adI (v9) (1)))) (1) ((adI (v12) (1)))) (congrArg (fun q => upd1 q (1) ((adI (v12) (1)))) ((show A13 7 = (updA A 7 (0) ((adI (v9) (1)))) 7 from (eA13 7)))) (show 0 ≤ (u2_1) ∧ (u2_1) ≤ (n3) ∧ (n3) ≤ 65536 by have qh0 := HIDe r2; have qh1 := HIDe r4; omega) (by assumption) (by assumption)
      · exact absurd b18 (by omega)
  · refine Ew_of (pc' := 259) (fun _ => x_aload_n rfl (rk_o (hl0) rfl rfl)) ?_
    refine v_g H (o := 0) (v := .ref (D 4)) rfl rfl rfl rfl rfl (vrf (pf4)) ?_
    refine Ew_of (pc' := 264) (fun _ => x_aload rfl (rk_o (hl4) rfl rfl)) ?_
    refine w_stat24 rfl rfl (by rfl) (C29_Row_Rowp (D := pul [4, 1, 5, 6] D) (N := pul [4, 1, 5, 6] N) (HW_sub H (VS_of (show vsub V17_vE1 V29_Row_Row [4, 1, 5, 6] = true by decide +kernel))) (pf5) (pf6) (n5) (en5) (n6) (en6) (u4_1) ((eu4_1)) (u1_1) ((eu1_1)) (A 5) (rfl) (A 6) (rfl) (show 0 ≤ (u4_1) ∧ (u4_1) ≤ (n5) ∧ (n5) ≤ 65536 by have qh0 := HIDe r3; have qh1 := HIDe r5; omega) (show 0 ≤ (u1_1) ∧ (u1_1) ≤ (n6) ∧ (n6) ≤ 65536 by have qh0 := HIDe r1; have qh1 := HIDe r6; omega) (fun z19 σ19 F19' A19' H' O' hS19 hA19 pz19_0 pz19_1 => ⟨rfl, ?_⟩))
    refine v_back (c := c) (s := s) H (show vsub V17_vE1 V29_Row_Row [4, 1, 5, 6] = true by decide +kernel) H' O' (fun F19 A19 H O' eF19 eA19 => ?_)
    have O := OUT_trans O O'
    -- PackHouse.firstUnlike
    refine w_ifge (t := 274) rfl rfl (show inr (z19) by omega) (fun b20 => ?_) (fun b20 => ?_)
    · refine Ew_of (pc' := 275) (fun _ => x_iconst rfl) ?_
      refine w_iaddE rfl ?_
      have g21 : inr (adI (v9) (1)) := toI_inr _
      have hs0 : HID (STR (y0) ((u1_1)) (sc ((A 5)) 0 ((u4_1))) (sc ((A 6)) 0 ((u1_1))) (((A 7)) 0) (((adI (v9) (1))))) := by unfold HID; first | exact STR_n hv0 (by (have qg0 := HIDe qv9; have qg1 := HIDe r1; have qg2 := HIDe r3; omega)) | exact STR_u hv0 pz19_1 (by (have qg0 := HIDe qv9; have qg1 := HIDe r1; have qg2 := HIDe r3; omega)) | exact STR_y hv0 (by (have qg0 := HIDe qv9; have qg1 := HIDe r1; have qg2 := HIDe r3; omega)) pz19_1 (by (have qg0 := HIDe qv9; have qg1 := HIDe r1; have qg2 := HIDe r3; omega))
      refine v_sI H (o := 7) (z := (adI (v9) (1))) rfl rfl rfl rfl (n := n7) (en7) (show 0 ≤ 0 ∧ 0 < n7 by have qh0 := HIDe r7; omega) (show inr ((adI (v9) (1))) by have qh0 := HIDe qv9; omega) (fun σ H O' => ?_)
      have O := OUT_trans O O'
      refine Ew_of (pc' := 278) (fun _ => x_aload_n rfl (rk_o (hl0) rfl rfl)) ?_
      refine v_g H (o := 0) (v := .ref (D 7)) rfl rfl rfl rfl rfl (vrf ((((show F19 0 16 = F 0 16 from (eF19 0 16)))).trans (pf7))) ?_
      refine Ew_of (pc' := 282) (fun _ => x_iconst rfl) ?_
      refine Ew_of (pc' := 283) (fun _ => x_dup2 rfl rfl rfl) ?_
      refine v_lI H (o := 7) rfl rfl rfl rfl (n := n7) (en7) (show 0 ≤ 1 ∧ 1 < n7 by have qh0 := HIDe r7; omega) (fun v22 ev22 qv22 => ?_)
      replace qv22 := HIDm qv22
      have ev22 : (upd1 (A 7) (0) ((adI (v9) (1)))) (1) = v22 := (congrFun (congrArg (fun q => upd1 q (0) ((adI (v9) (1)))) ((show A19 7 = A 7 from (eA19 7)))) (1)).symm.trans ev22
      have hv1 : ((A 7)) 1 = (v22) := by have h := ev22; first | exact h | (rw [upd1_o (by decide)] at h; exact h)
      refine Ew_of (pc' := 285) (fun _ => x_aload_n rfl (rk_o (hl0) rfl rfl)) ?_
      refine v_g H (o := 0) (v := .ref (D 2)) rfl rfl rfl rfl rfl (vrf ((((show F19 0 5 = F 0 5 from (eF19 0 5)))).trans (pf2))) ?_
      refine v_g H (o := 2) (v := I (u2_1)) rfl rfl rfl rfl rfl (congrArg (fun z : Int => I z) ((((show F19 2 1 = F 2 1 from (eF19 2 1))).trans (eu2_1)) : F19 2 1 = u2_1)) ?_
      refine Ew_of (pc' := 292) (fun _ => x_aload_n rfl (rk_o (hl0) rfl rfl)) ?_
      refine Ew_of (pc' := 293) (fun _ => x_iload_n rfl (rk_o (hl3) rfl rfl)) ?_
      refine Ew_of (pc' := 295) (fun _ => x_aload rfl (rk_o (hl4) rfl rfl)) ?_
      refine v_g H (o := 1) (v := I (u1_1)) rfl rfl rfl rfl rfl (congrArg (fun z : Int => I z) ((((show F19 1 1 = F 1 1 from (eF19 1 1).trans (hS19 1 1 rfl))).trans (eu1_1)) : F19 1 1 = u1_1)) ?_
      refine v_inv H (o := 0) rfl rfl rfl rfl rfl rfl (by rfl) (C34x (D := pul [0, 8] D) (N := pul [0, 8] N) (HW_sub H (VS_of (show vsub V17_vE1 V34 [0, 8] = true by decide +kernel))) ((((show F19 0 1 = F 0 1 from (eF19 0 1)))).trans (pf8)) (n8) (en8) (w8) (((show A19 8 = A 8 from (eA19 8))).trans (ew8)) (show inr (1) by omega) (show inr (u1_1) by have qh0 := HIDe r1; omega) (show 0 ≤ (u1_1) ∧ (u1_1) ≤ 16384 by have qh0 := HIDe r1; omega) (show 0 ≤ (1) ∧ (1) ≤ 5 by omega) (show 1 ≤ ((w8)) 2 ∧ ((w8)) 2 ≤ 65536 by omega) (show 0 ≤ ((w8)) 8 ∧ ((w8)) 8 ≤ 11 by omega) (show 0 ≤ ((w8)) 6 ∧ ((w8)) 6 ≤ 255 by omega) (show (n8) = 10 by have qh0 := HIDe r8; omega) (fun z23 σ23 F23' A23' H' O' hS23 hA23 pz23_0 pz23_1 => ⟨rfl, ?_⟩))
      refine v_back (c := c) (s := s) H (show vsub V17_vE1 V34 [0, 8] = true by decide +kernel) H' O' (fun F23 A23 H O' eF23 eA23 => ?_)
      have O := OUT_trans O O'
      -- PackHouse.boundOf
      have hbd := pz23_1
      clear pz23_1
      refine w_icmple (t := 308) rfl rfl (show inr (u2_1) by have qh0 := HIDe r2; omega) (show inr (z23) by omega) (fun b24 => ?_) (fun b24 => ?_)
      · refine Ew_of (pc' := 309) (fun _ => x_iconst rfl) ?_
        refine w_iaddE rfl ?_
        have g25 : inr (adI (v22) (0)) := toI_inr _
        have hs1 : HID (((adI (v22) (0))) = w32 (((A 7)) 1 + (if BNA ((w8)) 1 ((u1_1)) < (u2_1) then 1 else 0))) := by unfold HID; exact BYN hv1 (by decide) (by (have qg0 := HIDe qv22; have qg1 := HIDe r1; have qg2 := HIDe r2; omega)) hbd (by first | exact .inl ⟨by (have qg0 := HIDe qv22; have qg1 := HIDe r1; have qg2 := HIDe r2; omega), rfl⟩ | exact .inr ⟨by (have qg0 := HIDe qv22; have qg1 := HIDe r1; have qg2 := HIDe r2; omega), rfl⟩)
        clear hbd
        refine v_sI H (o := 7) (z := (adI (v22) (0))) rfl rfl rfl rfl (n := n7) (en7) (show 0 ≤ 1 ∧ 1 < n7 by have qh0 := HIDe r7; omega) (show inr ((adI (v22) (0))) by have qh0 := HIDe qv22; omega) (fun σ H O' => ?_)
        have O := OUT_trans O O'
        have : HID (STR (y0) ((u1_1)) (sc ((A 5)) 0 ((u4_1))) (sc ((A 6)) 0 ((u1_1))) (((A 7)) 0) (((upd1 (upd1 (A 7) (0) ((adI (v9) (1)))) (1) ((adI (v22) (0))))) 0)) := by rw [upd1_o (by decide), upd1_s]; exact hs0
        have : HID (((upd1 (upd1 (A 7) (0) ((adI (v9) (1)))) (1) ((adI (v22) (0))))) 1 = w32 (((A 7)) 1 + (if BNA ((w8)) 1 ((u1_1)) < (u2_1) then 1 else 0))) := by rw [upd1_s]; exact hs1
        refine Ew_of (pc' := 312) (fun _ => x_iload_n rfl (rk_o (hl3) rfl rfl)) ?_
        refine Ew_of (pc' := 313) (fun _ => x_iconst rfl) ?_
        refine w_icmpne (t := 337) rfl rfl (show inr (1) by omega) (show inr (4) by omega) (fun b26 => ?_) (fun b26 => ?_)
        · exact hc337  _ _ _ _  (rk_o (hl0) rfl rfl) (rk_o (hl1) rfl rfl) H O (SF_trans (SF_trans (SF_refl) (SF_glu (ι := [4, 1, 5, 6]) hS19 eF19 (by decide +kernel)) (any_sub (l' := []) rfl)) (SF_glu (ι := [0, 8]) hS23 eF23 (by decide +kernel)) (any_sub (l' := []) rfl)) (SA_upd (SA_trans (SA_upd (SA_trans (SA_refl) (SA_glu (ι := [4, 1, 5, 6]) hA19 eA19 (by decide +kernel)) (any_subA (l' := []) rfl)) rfl) (SA_glu (ι := [0, 8]) hA23 eA23 (by decide +kernel)) (any_subA (l' := []) rfl)) rfl)    (upd1 (upd1 (A 7) (0) ((adI (v9) (1)))) (1) ((adI (v22) (0)))) (congrArg (fun q => upd1 q (1) ((adI (v22) (0)))) (((show A23 7 = (updA A19 7 (0) ((adI (v9) (1)))) 7 from (eA23 7))).trans (congrArg (fun q => upd1 q (0) ((adI (v9) (1)))) ((show A19 7 = A 7 from (eA19 7)))))) (show 0 ≤ (u2_1) ∧ (u2_1) ≤ (n3) ∧ (n3) ≤ 65536 by have qh0 := HIDe r2; have qh1 := HIDe r4; omega) (by assumption) (by assumption)
        · exact absurd b26 (by omega)
      · refine Ew_of (pc' := 305) (fun _ => x_iconst rfl) ?_
        refine Ew_of (pc' := 309) (fun _ => x_goto rfl rfl) ?_
        refine w_iaddE rfl ?_
        have g27 : inr (adI (v22) (1)) := toI_inr _
        have hs1 : HID (((adI (v22) (1))) = w32 (((A 7)) 1 + (if BNA ((w8)) 1 ((u1_1)) < (u2_1) then 1 else 0))) := by unfold HID; exact BYN hv1 (by decide) (by (have qg0 := HIDe qv22; have qg1 := HIDe r1; have qg2 := HIDe r2; omega)) hbd (by first | exact .inl ⟨by (have qg0 := HIDe qv22; have qg1 := HIDe r1; have qg2 := HIDe r2; omega), rfl⟩ | exact .inr ⟨by (have qg0 := HIDe qv22; have qg1 := HIDe r1; have qg2 := HIDe r2; omega), rfl⟩)
        clear hbd
        refine v_sI H (o := 7) (z := (adI (v22) (1))) rfl rfl rfl rfl (n := n7) (en7) (show 0 ≤ 1 ∧ 1 < n7 by have qh0 := HIDe r7; omega) (show inr ((adI (v22) (1))) by have qh0 := HIDe qv22; omega) (fun σ H O' => ?_)
        have O := OUT_trans O O'
        have : HID (STR (y0) ((u1_1)) (sc ((A 5)) 0 ((u4_1))) (sc ((A 6)) 0 ((u1_1))) (((A 7)) 0) (((upd1 (upd1 (A 7) (0) ((adI (v9) (1)))) (1) ((adI (v22) (1))))) 0)) := by rw [upd1_o (by decide), upd1_s]; exact hs0
        have : HID (((upd1 (upd1 (A 7) (0) ((adI (v9) (1)))) (1) ((adI (v22) (1))))) 1 = w32 (((A 7)) 1 + (if BNA ((w8)) 1 ((u1_1)) < (u2_1) then 1 else 0))) := by rw [upd1_s]; exact hs1
        refine Ew_of (pc' := 312) (fun _ => x_iload_n rfl (rk_o (hl3) rfl rfl)) ?_
        refine Ew_of (pc' := 313) (fun _ => x_iconst rfl) ?_
        refine w_icmpne (t := 337) rfl rfl (show inr (1) by omega) (show inr (4) by omega) (fun b28 => ?_) (fun b28 => ?_)
        · exact hc337  _ _ _ _  (rk_o (hl0) rfl rfl) (rk_o (hl1) rfl rfl) H O (SF_trans (SF_trans (SF_refl) (SF_glu (ι := [4, 1, 5, 6]) hS19 eF19 (by decide +kernel)) (any_sub (l' := []) rfl)) (SF_glu (ι := [0, 8]) hS23 eF23 (by decide +kernel)) (any_sub (l' := []) rfl)) (SA_upd (SA_trans (SA_upd (SA_trans (SA_refl) (SA_glu (ι := [4, 1, 5, 6]) hA19 eA19 (by decide +kernel)) (any_subA (l' := []) rfl)) rfl) (SA_glu (ι := [0, 8]) hA23 eA23 (by decide +kernel)) (any_subA (l' := []) rfl)) rfl)    (upd1 (upd1 (A 7) (0) ((adI (v9) (1)))) (1) ((adI (v22) (1)))) (congrArg (fun q => upd1 q (1) ((adI (v22) (1)))) (((show A23 7 = (updA A19 7 (0) ((adI (v9) (1)))) 7 from (eA23 7))).trans (congrArg (fun q => upd1 q (0) ((adI (v9) (1)))) ((show A19 7 = A 7 from (eA19 7)))))) (show 0 ≤ (u2_1) ∧ (u2_1) ≤ (n3) ∧ (n3) ≤ 65536 by have qh0 := HIDe r2; have qh1 := HIDe r4; omega) (by assumption) (by assumption)
        · exact absurd b28 (by omega)
    · refine Ew_of (pc' := 271) (fun _ => x_iconst rfl) ?_
      refine Ew_of (pc' := 275) (fun _ => x_goto rfl rfl) ?_
      refine w_iaddE rfl ?_
      have g29 : inr (adI (v9) (0)) := toI_inr _
      have hs0 : HID (STR (y0) ((u1_1)) (sc ((A 5)) 0 ((u4_1))) (sc ((A 6)) 0 ((u1_1))) (((A 7)) 0) (((adI (v9) (0))))) := by unfold HID; first | exact STR_n hv0 (by (have qg0 := HIDe qv9; have qg1 := HIDe r1; have qg2 := HIDe r3; omega)) | exact STR_u hv0 pz19_1 (by (have qg0 := HIDe qv9; have qg1 := HIDe r1; have qg2 := HIDe r3; omega)) | exact STR_y hv0 (by (have qg0 := HIDe qv9; have qg1 := HIDe r1; have qg2 := HIDe r3; omega)) pz19_1 (by (have qg0 := HIDe qv9; have qg1 := HIDe r1; have qg2 := HIDe r3; omega))
      refine v_sI H (o := 7) (z := (adI (v9) (0))) rfl rfl rfl rfl (n := n7) (en7) (show 0 ≤ 0 ∧ 0 < n7 by have qh0 := HIDe r7; omega) (show inr ((adI (v9) (0))) by have qh0 := HIDe qv9; omega) (fun σ H O' => ?_)
      have O := OUT_trans O O'
      refine Ew_of (pc' := 278) (fun _ => x_aload_n rfl (rk_o (hl0) rfl rfl)) ?_
      refine v_g H (o := 0) (v := .ref (D 7)) rfl rfl rfl rfl rfl (vrf ((((show F19 0 16 = F 0 16 from (eF19 0 16)))).trans (pf7))) ?_
      refine Ew_of (pc' := 282) (fun _ => x_iconst rfl) ?_
      refine Ew_of (pc' := 283) (fun _ => x_dup2 rfl rfl rfl) ?_
      refine v_lI H (o := 7) rfl rfl rfl rfl (n := n7) (en7) (show 0 ≤ 1 ∧ 1 < n7 by have qh0 := HIDe r7; omega) (fun v30 ev30 qv30 => ?_)
      replace qv30 := HIDm qv30
      have ev30 : (upd1 (A 7) (0) ((adI (v9) (0)))) (1) = v30 := (congrFun (congrArg (fun q => upd1 q (0) ((adI (v9) (0)))) ((show A19 7 = A 7 from (eA19 7)))) (1)).symm.trans ev30
      have hv1 : ((A 7)) 1 = (v30) := by have h := ev30; first | exact h | (rw [upd1_o (by decide)] at h; exact h)
      refine Ew_of (pc' := 285) (fun _ => x_aload_n rfl (rk_o (hl0) rfl rfl)) ?_
      refine v_g H (o := 0) (v := .ref (D 2)) rfl rfl rfl rfl rfl (vrf ((((show F19 0 5 = F 0 5 from (eF19 0 5)))).trans (pf2))) ?_
      refine v_g H (o := 2) (v := I (u2_1)) rfl rfl rfl rfl rfl (congrArg (fun z : Int => I z) ((((show F19 2 1 = F 2 1 from (eF19 2 1))).trans (eu2_1)) : F19 2 1 = u2_1)) ?_
      refine Ew_of (pc' := 292) (fun _ => x_aload_n rfl (rk_o (hl0) rfl rfl)) ?_
      refine Ew_of (pc' := 293) (fun _ => x_iload_n rfl (rk_o (hl3) rfl rfl)) ?_
      refine Ew_of (pc' := 295) (fun _ => x_aload rfl (rk_o (hl4) rfl rfl)) ?_
      refine v_g H (o := 1) (v := I (u1_1)) rfl rfl rfl rfl rfl (congrArg (fun z : Int => I z) ((((show F19 1 1 = F 1 1 from (eF19 1 1).trans (hS19 1 1 rfl))).trans (eu1_1)) : F19 1 1 = u1_1)) ?_
      refine v_inv H (o := 0) rfl rfl rfl rfl rfl rfl (by rfl) (C34x (D := pul [0, 8] D) (N := pul [0, 8] N) (HW_sub H (VS_of (show vsub V17_vE1 V34 [0, 8] = true by decide +kernel))) ((((show F19 0 1 = F 0 1 from (eF19 0 1)))).trans (pf8)) (n8) (en8) (w8) (((show A19 8 = A 8 from (eA19 8))).trans (ew8)) (show inr (1) by omega) (show inr (u1_1) by have qh0 := HIDe r1; omega) (show 0 ≤ (u1_1) ∧ (u1_1) ≤ 16384 by have qh0 := HIDe r1; omega) (show 0 ≤ (1) ∧ (1) ≤ 5 by omega) (show 1 ≤ ((w8)) 2 ∧ ((w8)) 2 ≤ 65536 by omega) (show 0 ≤ ((w8)) 8 ∧ ((w8)) 8 ≤ 11 by omega) (show 0 ≤ ((w8)) 6 ∧ ((w8)) 6 ≤ 255 by omega) (show (n8) = 10 by have qh0 := HIDe r8; omega) (fun z31 σ31 F31' A31' H' O' hS31 hA31 pz31_0 pz31_1 => ⟨rfl, ?_⟩))
      refine v_back (c := c) (s := s) H (show vsub V17_vE1 V34 [0, 8] = true by decide +kernel) H' O' (fun F31 A31 H O' eF31 eA31 => ?_)
      have O := OUT_trans O O'
      -- PackHouse.boundOf
      have hbd := pz31_1
      clear pz31_1
      refine w_icmple (t := 308) rfl rfl (show inr (u2_1) by have qh0 := HIDe r2; omega) (show inr (z31) by omega) (fun b32 => ?_) (fun b32 => ?_)
      · refine Ew_of (pc' := 309) (fun _ => x_iconst rfl) ?_
        refine w_iaddE rfl ?_
        have g33 : inr (adI (v30) (0)) := toI_inr _
        have hs1 : HID (((adI (v30) (0))) = w32 (((A 7)) 1 + (if BNA ((w8)) 1 ((u1_1)) < (u2_1) then 1 else 0))) := by unfold HID; exact BYN hv1 (by decide) (by (have qg0 := HIDe qv30; have qg1 := HIDe r1; have qg2 := HIDe r2; omega)) hbd (by first | exact .inl ⟨by (have qg0 := HIDe qv30; have qg1 := HIDe r1; have qg2 := HIDe r2; omega), rfl⟩ | exact .inr ⟨by (have qg0 := HIDe qv30; have qg1 := HIDe r1; have qg2 := HIDe r2; omega), rfl⟩)
        clear hbd
        refine v_sI H (o := 7) (z := (adI (v30) (0))) rfl rfl rfl rfl (n := n7) (en7) (show 0 ≤ 1 ∧ 1 < n7 by have qh0 := HIDe r7; omega) (show inr ((adI (v30) (0))) by have qh0 := HIDe qv30; omega) (fun σ H O' => ?_)
        have O := OUT_trans O O'
        have : HID (STR (y0) ((u1_1)) (sc ((A 5)) 0 ((u4_1))) (sc ((A 6)) 0 ((u1_1))) (((A 7)) 0) (((upd1 (upd1 (A 7) (0) ((adI (v9) (0)))) (1) ((adI (v30) (0))))) 0)) := by rw [upd1_o (by decide), upd1_s]; exact hs0
        have : HID (((upd1 (upd1 (A 7) (0) ((adI (v9) (0)))) (1) ((adI (v30) (0))))) 1 = w32 (((A 7)) 1 + (if BNA ((w8)) 1 ((u1_1)) < (u2_1) then 1 else 0))) := by rw [upd1_s]; exact hs1
        refine Ew_of (pc' := 312) (fun _ => x_iload_n rfl (rk_o (hl3) rfl rfl)) ?_
        refine Ew_of (pc' := 313) (fun _ => x_iconst rfl) ?_
        refine w_icmpne (t := 337) rfl rfl (show inr (1) by omega) (show inr (4) by omega) (fun b34 => ?_) (fun b34 => ?_)
        · exact hc337  _ _ _ _  (rk_o (hl0) rfl rfl) (rk_o (hl1) rfl rfl) H O (SF_trans (SF_trans (SF_refl) (SF_glu (ι := [4, 1, 5, 6]) hS19 eF19 (by decide +kernel)) (any_sub (l' := []) rfl)) (SF_glu (ι := [0, 8]) hS31 eF31 (by decide +kernel)) (any_sub (l' := []) rfl)) (SA_upd (SA_trans (SA_upd (SA_trans (SA_refl) (SA_glu (ι := [4, 1, 5, 6]) hA19 eA19 (by decide +kernel)) (any_subA (l' := []) rfl)) rfl) (SA_glu (ι := [0, 8]) hA31 eA31 (by decide +kernel)) (any_subA (l' := []) rfl)) rfl)    (upd1 (upd1 (A 7) (0) ((adI (v9) (0)))) (1) ((adI (v30) (0)))) (congrArg (fun q => upd1 q (1) ((adI (v30) (0)))) (((show A31 7 = (updA A19 7 (0) ((adI (v9) (0)))) 7 from (eA31 7))).trans (congrArg (fun q => upd1 q (0) ((adI (v9) (0)))) ((show A19 7 = A 7 from (eA19 7)))))) (show 0 ≤ (u2_1) ∧ (u2_1) ≤ (n3) ∧ (n3) ≤ 65536 by have qh0 := HIDe r2; have qh1 := HIDe r4; omega) (by assumption) (by assumption)
        · exact absurd b34 (by omega)
      · refine Ew_of (pc' := 305) (fun _ => x_iconst rfl) ?_
        refine Ew_of (pc' := 309) (fun _ => x_goto rfl rfl) ?_
        refine w_iaddE rfl ?_
        have g35 : inr (adI (v30) (1)) := toI_inr _
        have hs1 : HID (((adI (v30) (1))) = w32 (((A 7)) 1 + (if BNA ((w8)) 1 ((u1_1)) < (u2_1) then 1 else 0))) := by unfold HID; exact BYN hv1 (by decide) (by (have qg0 := HIDe qv30; have qg1 := HIDe r1; have qg2 := HIDe r2; omega)) hbd (by first | exact .inl ⟨by (have qg0 := HIDe qv30; have qg1 := HIDe r1; have qg2 := HIDe r2; omega), rfl⟩ | exact .inr ⟨by (have qg0 := HIDe qv30; have qg1 := HIDe r1; have qg2 := HIDe r2; omega), rfl⟩)
        clear hbd
        refine v_sI H (o := 7) (z := (adI (v30) (1))) rfl rfl rfl rfl (n := n7) (en7) (show 0 ≤ 1 ∧ 1 < n7 by have qh0 := HIDe r7; omega) (show inr ((adI (v30) (1))) by have qh0 := HIDe qv30; omega) (fun σ H O' => ?_)
        have O := OUT_trans O O'
        have : HID (STR (y0) ((u1_1)) (sc ((A 5)) 0 ((u4_1))) (sc ((A 6)) 0 ((u1_1))) (((A 7)) 0) (((upd1 (upd1 (A 7) (0) ((adI (v9) (0)))) (1) ((adI (v30) (1))))) 0)) := by rw [upd1_o (by decide), upd1_s]; exact hs0
        have : HID (((upd1 (upd1 (A 7) (0) ((adI (v9) (0)))) (1) ((adI (v30) (1))))) 1 = w32 (((A 7)) 1 + (if BNA ((w8)) 1 ((u1_1)) < (u2_1) then 1 else 0))) := by rw [upd1_s]; exact hs1
        refine Ew_of (pc' := 312) (fun _ => x_iload_n rfl (rk_o (hl3) rfl rfl)) ?_
        refine Ew_of (pc' := 313) (fun _ => x_iconst rfl) ?_
        refine w_icmpne (t := 337) rfl rfl (show inr (1) by omega) (show inr (4) by omega) (fun b36 => ?_) (fun b36 => ?_)
        · exact hc337  _ _ _ _  (rk_o (hl0) rfl rfl) (rk_o (hl1) rfl rfl) H O (SF_trans (SF_trans (SF_refl) (SF_glu (ι := [4, 1, 5, 6]) hS19 eF19 (by decide +kernel)) (any_sub (l' := []) rfl)) (SF_glu (ι := [0, 8]) hS31 eF31 (by decide +kernel)) (any_sub (l' := []) rfl)) (SA_upd (SA_trans (SA_upd (SA_trans (SA_refl) (SA_glu (ι := [4, 1, 5, 6]) hA19 eA19 (by decide +kernel)) (any_subA (l' := []) rfl)) rfl) (SA_glu (ι := [0, 8]) hA31 eA31 (by decide +kernel)) (any_subA (l' := []) rfl)) rfl)    (upd1 (upd1 (A 7) (0) ((adI (v9) (0)))) (1) ((adI (v30) (1)))) (congrArg (fun q => upd1 q (1) ((adI (v30) (1)))) (((show A31 7 = (updA A19 7 (0) ((adI (v9) (0)))) 7 from (eA31 7))).trans (congrArg (fun q => upd1 q (0) ((adI (v9) (0)))) ((show A19 7 = A 7 from (eA19 7)))))) (show 0 ≤ (u2_1) ∧ (u2_1) ≤ (n3) ∧ (n3) ≤ 65536 by have qh0 := HIDe r2; have qh1 := HIDe r4; omega) (by assumption) (by assumption)
        · exact absurd b36 (by omega)
abbrev V17_vE2 : vV := [(0, 0, [(4, 0), (4, 0), (4, 0), (4, 0), (4, 0), (4, 0), (4, 0), (4, 0), (4, 0), (4, 0), (4, 0), (4, 0), (4, 0), (4, 0), (4, 0), (4, 0), (4, 0), (0, 0), (0, 0)]), (0, 7, [(4, 0), (0, 0), (1, 0), (0, 0), (0, 0)]), (0, 7, [(4, 0), (0, 0), (1, 0), (0, 0), (0, 0)]), (1, 0, []), (0, 7, [(4, 0), (0, 0), (1, 0), (0, 0), (0, 0)]), (1, 0, []), (1, 0, []), (1, 1, []), (1, 1, [])]
/-- PackHouse.write: this, @F, this.written, this.written.bytes, this.content, this.content.bytes, @F.bytes, this.strays, this.settings -/
theorem C17_vE2 {σE : rS} {D N : Nat → Nat} {F : hF} {A : hA} {d c s : Nat} {Q : wQ} (H : HW V17_vE2 σE D N F A) {x1 y0 : Int} (pf2 : F 0 5 = (D 2 : Int)) (pf3 : F 2 0 = (D 3 : Int)) (pf4 : F 0 6 = (D 4 : Int)) (pf5 : F 4 0 = (D 5 : Int)) (pf6 : F 1 0 = (D 6 : Int)) (pf7 : F 0 16 = (D 7 : Int)) (pf8 : F 0 1 = (D 8 : Int)) (n3 : Int) (en3 : (N 3 : Int) = n3) (n5 : Int) (en5 : (N 5 : Int) = n5) (n6 : Int) (en6 : (N 6 : Int) = n6) (n7 : Int) (en7 : (N 7 : Int) = n7) (n8 : Int) (en8 : (N 8 : Int) = n8) (u1_1 : Int) (eu1_1 : F 1 1 = u1_1) (u2_1 : Int) (eu2_1 : F 2 1 = u2_1) (u4_1 : Int) (eu4_1 : F 4 1 = u4_1) (w8 : Int → Int) (ew8 : A 8 = w8) {ls : rO} (hl0 : rlook ls 0 = some (.ref (D 0))) (hl1 : rlook ls 1 = some (I (x1))) (hl3 : rlook ls 3 = some (I (2))) (hl4 : rlook ls 4 = some (.ref (D 1))) (h0 : inr (x1)) (h1 : inr y0) (h2 : 0 ≤ (u2_1) ∧ (u2_1) ≤ (n3) ∧ (n3) ≤ 65536) (h3 : 0 ≤ (u4_1) ∧ (u4_1) ≤ (n5) ∧ (n5) ≤ 65536) (h4 : 0 ≤ (u1_1) ∧ (u1_1) ≤ (n6) ∧ (n6) ≤ 65536) (h5 : (u1_1) ≤ 16384) (h6 : (n7) = 2) (h7 : 1 ≤ ((w8)) 2 ∧ ((w8)) 2 ≤ 65536) (h8 : 0 ≤ ((w8)) 8 ∧ ((w8)) 8 ≤ 11) (h9 : 0 ≤ ((w8)) 6 ∧ ((w8)) 6 ≤ 255) (h10 : (n8) = 10) (hc337 : ∀ (ls : rO) (σ : rS) (F_c337 : hF) (A_c337 : hA) , rlook ls 0 = some (.ref (D 0)) → rlook ls 1 = some (I (x1)) → HW V17_vE2 σ D N F_c337 A_c337 → OUT (V17_vE2).length D N σE c s D N σ c s → SF [] F F_c337 → SA [7] A A_c337 → ∀ wc337_7 : Int → Int, A_c337 7 = wc337_7 → (0 ≤ (u2_1) ∧ (u2_1) ≤ (n3) ∧ (n3) ≤ 65536) → (HID (STR (y0) ((u1_1)) (sc ((A 5)) 0 ((u4_1))) (sc ((A 6)) 0 ((u1_1))) (((A 7)) 0) (((wc337_7)) 0))) → (HID (((wc337_7)) 1 = w32 (((A 7)) 1 + (if BNA ((w8)) 2 ((u1_1)) < (u2_1) then 1 else 0)))) → Ew 17 (d + 3) 337 ls [] σ c s Q) (k : ∀ (z : Int) (σ : rS) (F' : hF) (A' : hA), HW V17_vE2 σ D N F' A' → OUT (V17_vE2).length D N σE c s D N σ c s → SF [] F F' → SA [7] A A' → (inr (z)) → ((0 : Int) = 1) → Q (some (I z)) σ c s) : Ew 17 (d + 3) 239 ls [I (y0)] σE c s Q := by
  have O := OUT_refl (n := (V17_vE2).length) (D := D) (N := N) (σ := σE) (c := c) (s := s)
  have HE := H
  have r1 : HID ((-2147483648 : Int) ≤ u1_1 ∧ u1_1 ≤ 2147483647) := krg_e (show (-2147483648 : Int) ≤ F 1 1 ∧ F 1 1 ≤ 2147483647 from H.krg 1 1 (by decide)) (show F 1 1 = u1_1 from (eu1_1))
  have r2 : HID ((-2147483648 : Int) ≤ u2_1 ∧ u2_1 ≤ 2147483647) := krg_e (show (-2147483648 : Int) ≤ F 2 1 ∧ F 2 1 ≤ 2147483647 from H.krg 2 1 (by decide)) (show F 2 1 = u2_1 from (eu2_1))
  have r3 : HID ((-2147483648 : Int) ≤ u4_1 ∧ u4_1 ≤ 2147483647) := krg_e (show (-2147483648 : Int) ≤ F 4 1 ∧ F 4 1 ≤ 2147483647 from H.krg 4 1 (by decide)) (show F 4 1 = u4_1 from (eu4_1))
  replace pf2 := HIDm pf2
  replace pf3 := HIDm pf3
  replace pf4 := HIDm pf4
  replace pf5 := HIDm pf5
  replace pf6 := HIDm pf6
  replace pf7 := HIDm pf7
  replace pf8 := HIDm pf8
  replace en3 := HIDm en3
  replace en5 := HIDm en5
  replace en6 := HIDm en6
  replace en7 := HIDm en7
  replace en8 := HIDm en8
  replace eu1_1 := HIDm eu1_1
  replace eu2_1 := HIDm eu2_1
  replace eu4_1 := HIDm eu4_1
  have r4 : HID ((0 : Int) ≤ n3 ∧ n3 ≤ 1000000) := nrng (H.nle 3 (by decide)) (show (N 3 : Int) = n3 from en3)
  have r5 : HID ((0 : Int) ≤ n5 ∧ n5 ≤ 1000000) := nrng (H.nle 5 (by decide)) (show (N 5 : Int) = n5 from en5)
  have r6 : HID ((0 : Int) ≤ n6 ∧ n6 ≤ 1000000) := nrng (H.nle 6 (by decide)) (show (N 6 : Int) = n6 from en6)
  have r7 : HID ((0 : Int) ≤ n7 ∧ n7 ≤ 1000000) := nrng (H.nle 7 (by decide)) (show (N 7 : Int) = n7 from en7)
  have r8 : HID ((0 : Int) ≤ n8 ∧ n8 ≤ 1000000) := nrng (H.nle 8 (by decide)) (show (N 8 : Int) = n8 from en8)
  refine Ew_of (pc' := 241) (fun _ => x_istore rfl) ?_
  refine Ew_of (pc' := 242) (fun _ => x_aload_n rfl (rk_o (hl0) rfl rfl)) ?_
  refine v_g H (o := 0) (v := .ref (D 7)) rfl rfl rfl rfl rfl (vrf (pf7)) ?_
  refine Ew_of (pc' := 246) (fun _ => x_iconst rfl) ?_
  refine Ew_of (pc' := 247) (fun _ => x_dup2 rfl rfl rfl) ?_
  refine v_lI H (o := 7) rfl rfl rfl rfl (n := n7) (en7) (show 0 ≤ 0 ∧ 0 < n7 by have qh0 := HIDe r7; omega) (fun v9 ev9 qv9 => ?_)
  replace qv9 := HIDm qv9
  have ev9 : (A 7) (0) = v9 := (congrFun (rfl : A 7 = A 7) (0)).symm.trans ev9
  have hv0 := ev9
  refine Ew_of (pc' := 250) (fun _ => x_iload rfl rk_s) ?_
  refine Ew_of (pc' := 252) (fun _ => x_aload rfl (rk_o (hl4) rfl rfl)) ?_
  refine v_g H (o := 1) (v := I (u1_1)) rfl rfl rfl rfl rfl (congrArg (fun z : Int => I z) ((eu1_1) : F 1 1 = u1_1)) ?_
  refine w_icmpne (t := 274) rfl rfl (show inr (y0) by omega) (show inr (u1_1) by have qh0 := HIDe r1; omega) (fun b10 => ?_) (fun b10 => ?_)
  · refine Ew_of (pc' := 275) (fun _ => x_iconst rfl) ?_
    refine w_iaddE rfl ?_
    have g11 : inr (adI (v9) (1)) := toI_inr _
    have hs0 : HID (STR (y0) ((u1_1)) (sc ((A 5)) 0 ((u4_1))) (sc ((A 6)) 0 ((u1_1))) (((A 7)) 0) (((adI (v9) (1))))) := by unfold HID; first | exact STR_n hv0 (by (have qg0 := HIDe qv9; have qg1 := HIDe r1; have qg2 := HIDe r3; omega)) | exact STR_u hv0 pNONE_1 (by (have qg0 := HIDe qv9; have qg1 := HIDe r1; have qg2 := HIDe r3; omega)) | exact STR_y hv0 (by (have qg0 := HIDe qv9; have qg1 := HIDe r1; have qg2 := HIDe r3; omega)) pNONE_1 (by (have qg0 := HIDe qv9; have qg1 := HIDe r1; have qg2 := HIDe r3; omega))
    refine v_sI H (o := 7) (z := (adI (v9) (1))) rfl rfl rfl rfl (n := n7) (en7) (show 0 ≤ 0 ∧ 0 < n7 by have qh0 := HIDe r7; omega) (show inr ((adI (v9) (1))) by have qh0 := HIDe qv9; omega) (fun σ H O' => ?_)
    have O := OUT_trans O O'
    refine Ew_of (pc' := 278) (fun _ => x_aload_n rfl (rk_o (hl0) rfl rfl)) ?_
    refine v_g H (o := 0) (v := .ref (D 7)) rfl rfl rfl rfl rfl (vrf (pf7)) ?_
    refine Ew_of (pc' := 282) (fun _ => x_iconst rfl) ?_
    refine Ew_of (pc' := 283) (fun _ => x_dup2 rfl rfl rfl) ?_
    refine v_lI H (o := 7) rfl rfl rfl rfl (n := n7) (en7) (show 0 ≤ 1 ∧ 1 < n7 by have qh0 := HIDe r7; omega) (fun v12 ev12 qv12 => ?_)
    replace qv12 := HIDm qv12
    have ev12 : (upd1 (A 7) (0) ((adI (v9) (1)))) (1) = v12 := (congrFun (rfl : (updA A 7 (0) ((adI (v9) (1)))) 7 = upd1 (A 7) (0) ((adI (v9) (1)))) (1)).symm.trans ev12
    have hv1 : ((A 7)) 1 = (v12) := by have h := ev12; first | exact h | (rw [upd1_o (by decide)] at h; exact h)
    refine Ew_of (pc' := 285) (fun _ => x_aload_n rfl (rk_o (hl0) rfl rfl)) ?_
    refine v_g H (o := 0) (v := .ref (D 2)) rfl rfl rfl rfl rfl (vrf (pf2)) ?_
    refine v_g H (o := 2) (v := I (u2_1)) rfl rfl rfl rfl rfl (congrArg (fun z : Int => I z) ((eu2_1) : F 2 1 = u2_1)) ?_
    refine Ew_of (pc' := 292) (fun _ => x_aload_n rfl (rk_o (hl0) rfl rfl)) ?_
    refine Ew_of (pc' := 293) (fun _ => x_iload_n rfl (rk_o (hl3) rfl rfl)) ?_
    refine Ew_of (pc' := 295) (fun _ => x_aload rfl (rk_o (hl4) rfl rfl)) ?_
    refine v_g H (o := 1) (v := I (u1_1)) rfl rfl rfl rfl rfl (congrArg (fun z : Int => I z) ((eu1_1) : F 1 1 = u1_1)) ?_
    refine v_inv H (o := 0) rfl rfl rfl rfl rfl rfl (by rfl) (C34x (D := pul [0, 8] D) (N := pul [0, 8] N) (HW_sub H (VS_of (show vsub V17_vE2 V34 [0, 8] = true by decide +kernel))) (pf8) (n8) (en8) (w8) (ew8) (show inr (2) by omega) (show inr (u1_1) by have qh0 := HIDe r1; omega) (show 0 ≤ (u1_1) ∧ (u1_1) ≤ 16384 by have qh0 := HIDe r1; omega) (show 0 ≤ (2) ∧ (2) ≤ 5 by omega) (show 1 ≤ ((w8)) 2 ∧ ((w8)) 2 ≤ 65536 by omega) (show 0 ≤ ((w8)) 8 ∧ ((w8)) 8 ≤ 11 by omega) (show 0 ≤ ((w8)) 6 ∧ ((w8)) 6 ≤ 255 by omega) (show (n8) = 10 by have qh0 := HIDe r8; omega) (fun z13 σ13 F13' A13' H' O' hS13 hA13 pz13_0 pz13_1 => ⟨rfl, ?_⟩))
    refine v_back (c := c) (s := s) H (show vsub V17_vE2 V34 [0, 8] = true by decide +kernel) H' O' (fun F13 A13 H O' eF13 eA13 => ?_)
    have O := OUT_trans O O'
    -- PackHouse.boundOf
    have hbd := pz13_1
    clear pz13_1
    refine w_icmple (t := 308) rfl rfl (show inr (u2_1) by have qh0 := HIDe r2; omega) (show inr (z13) by omega) (fun b14 => ?_) (fun b14 => ?_)
    · refine Ew_of (pc' := 309) (fun _ => x_iconst rfl) ?_
      refine w_iaddE rfl ?_
      have g15 : inr (adI (v12) (0)) := toI_inr _
      have hs1 : HID (((adI (v12) (0))) = w32 (((A 7)) 1 + (if BNA ((w8)) 2 ((u1_1)) < (u2_1) then 1 else 0))) := by unfold HID; exact BYN hv1 (by decide) (by (have qg0 := HIDe qv12; have qg1 := HIDe r1; have qg2 := HIDe r2; omega)) hbd (by first | exact .inl ⟨by (have qg0 := HIDe qv12; have qg1 := HIDe r1; have qg2 := HIDe r2; omega), rfl⟩ | exact .inr ⟨by (have qg0 := HIDe qv12; have qg1 := HIDe r1; have qg2 := HIDe r2; omega), rfl⟩)
      clear hbd
      refine v_sI H (o := 7) (z := (adI (v12) (0))) rfl rfl rfl rfl (n := n7) (en7) (show 0 ≤ 1 ∧ 1 < n7 by have qh0 := HIDe r7; omega) (show inr ((adI (v12) (0))) by have qh0 := HIDe qv12; omega) (fun σ H O' => ?_)
      have O := OUT_trans O O'
      have : HID (STR (y0) ((u1_1)) (sc ((A 5)) 0 ((u4_1))) (sc ((A 6)) 0 ((u1_1))) (((A 7)) 0) (((upd1 (upd1 (A 7) (0) ((adI (v9) (1)))) (1) ((adI (v12) (0))))) 0)) := by rw [upd1_o (by decide), upd1_s]; exact hs0
      have : HID (((upd1 (upd1 (A 7) (0) ((adI (v9) (1)))) (1) ((adI (v12) (0))))) 1 = w32 (((A 7)) 1 + (if BNA ((w8)) 2 ((u1_1)) < (u2_1) then 1 else 0))) := by rw [upd1_s]; exact hs1
      refine Ew_of (pc' := 312) (fun _ => x_iload_n rfl (rk_o (hl3) rfl rfl)) ?_
      refine Ew_of (pc' := 313) (fun _ => x_iconst rfl) ?_
      refine w_icmpne (t := 337) rfl rfl (show inr (2) by omega) (show inr (4) by omega) (fun b16 => ?_) (fun b16 => ?_)
      · exact hc337  _ _ _ _  (rk_o (hl0) rfl rfl) (rk_o (hl1) rfl rfl) H O (SF_trans (SF_refl) (SF_glu (ι := [0, 8]) hS13 eF13 (by decide +kernel)) (any_sub (l' := []) rfl)) (SA_upd (SA_trans (SA_upd (SA_refl) rfl) (SA_glu (ι := [0, 8]) hA13 eA13 (by decide +kernel)) (any_subA (l' := []) rfl)) rfl)    (upd1 (upd1 (A 7) (0) ((adI (v9) (1)))) (1) ((adI (v12) (0)))) (congrArg (fun q => upd1 q (1) ((adI (v12) (0)))) ((show A13 7 = (updA A 7 (0) ((adI (v9) (1)))) 7 from (eA13 7)))) (show 0 ≤ (u2_1) ∧ (u2_1) ≤ (n3) ∧ (n3) ≤ 65536 by have qh0 := HIDe r2; have qh1 := HIDe r4; omega) (by assumption) (by assumption)
      · exact absurd b16 (by omega)
    · refine Ew_of (pc' := 305) (fun _ => x_iconst rfl) ?_
      refine Ew_of (pc' := 309) (fun _ => x_goto rfl rfl) ?_
      refine w_iaddE rfl ?_
      have g17 : inr (adI (v12) (1)) := toI_inr _
      have hs1 : HID (((adI (v12) (1))) = w32 (((A 7)) 1 + (if BNA ((w8)) 2 ((u1_1)) < (u2_1) then 1 else 0))) := by unfold HID; exact BYN hv1 (by decide) (by (have qg0 := HIDe qv12; have qg1 := HIDe r1; have qg2 := HIDe r2; omega)) hbd (by first | exact .inl ⟨by (have qg0 := HIDe qv12; have qg1 := HIDe r1; have qg2 := HIDe r2; omega), rfl⟩ | exact .inr ⟨by (have qg0 := HIDe qv12; have qg1 := HIDe r1; have qg2 := HIDe r2; omega), rfl⟩)
      clear hbd
      refine v_sI H (o := 7) (z := (adI (v12) (1))) rfl rfl rfl rfl (n := n7) (en7) (show 0 ≤ 1 ∧ 1 < n7 by have qh0 := HIDe r7; omega) (show inr ((adI (v12) (1))) by have qh0 := HIDe qv12; omega) (fun σ H O' => ?_)
      have O := OUT_trans O O'
      have : HID (STR (y0) ((u1_1)) (sc ((A 5)) 0 ((u4_1))) (sc ((A 6)) 0 ((u1_1))) (((A 7)) 0) (((upd1 (upd1 (A 7) (0) ((adI (v9) (1)))) (1) ((adI (v12) (1))))) 0)) := by rw [upd1_o (by decide), upd1_s]; exact hs0
      have : HID (((upd1 (upd1 (A 7) (0) ((adI (v9) (1)))) (1) ((adI (v12) (1))))) 1 = w32 (((A 7)) 1 + (if BNA ((w8)) 2 ((u1_1)) < (u2_1) then 1 else 0))) := by rw [upd1_s]; exact hs1
      refine Ew_of (pc' := 312) (fun _ => x_iload_n rfl (rk_o (hl3) rfl rfl)) ?_
      refine Ew_of (pc' := 313) (fun _ => x_iconst rfl) ?_
      refine w_icmpne (t := 337) rfl rfl (show inr (2) by omega) (show inr (4) by omega) (fun b18 => ?_) (fun b18 => ?_)
      · exact hc337  _ _ _ _  (rk_o (hl0) rfl rfl) (rk_o (hl1) rfl rfl) H O (SF_trans (SF_refl) (SF_glu (ι := [0, 8]) hS13 eF13 (by decide +kernel)) (any_sub (l' := []) rfl)) (SA_upd (SA_trans (SA_upd (SA_refl) rfl) (SA_glu (ι := [0, 8]) hA13 eA13 (by decide +kernel)) (any_subA (l' := []) rfl)) rfl)    (upd1 (upd1 (A 7) (0) ((adI (v9) (1)))) (1) ((adI (v12) (1)))) (congrArg (fun q => upd1 q (1) ((adI (v12) (1)))) ((show A13 7 = (updA A 7 (0) ((adI (v9) (1)))) 7 from (eA13 7)))) (show 0 ≤ (u2_1) ∧ (u2_1) ≤ (n3) ∧ (n3) ≤ 65536 by have qh0 := HIDe r2; have qh1 := HIDe r4; omega) (by assumption) (by assumption)
      · exact absurd b18 (by omega)
  · refine Ew_of (pc' := 259) (fun _ => x_aload_n rfl (rk_o (hl0) rfl rfl)) ?_
    refine v_g H (o := 0) (v := .ref (D 4)) rfl rfl rfl rfl rfl (vrf (pf4)) ?_
    refine Ew_of (pc' := 264) (fun _ => x_aload rfl (rk_o (hl4) rfl rfl)) ?_
    refine w_stat24 rfl rfl (by rfl) (C29_Row_Rowp (D := pul [4, 1, 5, 6] D) (N := pul [4, 1, 5, 6] N) (HW_sub H (VS_of (show vsub V17_vE2 V29_Row_Row [4, 1, 5, 6] = true by decide +kernel))) (pf5) (pf6) (n5) (en5) (n6) (en6) (u4_1) ((eu4_1)) (u1_1) ((eu1_1)) (A 5) (rfl) (A 6) (rfl) (show 0 ≤ (u4_1) ∧ (u4_1) ≤ (n5) ∧ (n5) ≤ 65536 by have qh0 := HIDe r3; have qh1 := HIDe r5; omega) (show 0 ≤ (u1_1) ∧ (u1_1) ≤ (n6) ∧ (n6) ≤ 65536 by have qh0 := HIDe r1; have qh1 := HIDe r6; omega) (fun z19 σ19 F19' A19' H' O' hS19 hA19 pz19_0 pz19_1 => ⟨rfl, ?_⟩))
    refine v_back (c := c) (s := s) H (show vsub V17_vE2 V29_Row_Row [4, 1, 5, 6] = true by decide +kernel) H' O' (fun F19 A19 H O' eF19 eA19 => ?_)
    have O := OUT_trans O O'
    -- PackHouse.firstUnlike
    refine w_ifge (t := 274) rfl rfl (show inr (z19) by omega) (fun b20 => ?_) (fun b20 => ?_)
    · refine Ew_of (pc' := 275) (fun _ => x_iconst rfl) ?_
      refine w_iaddE rfl ?_
      have g21 : inr (adI (v9) (1)) := toI_inr _
      have hs0 : HID (STR (y0) ((u1_1)) (sc ((A 5)) 0 ((u4_1))) (sc ((A 6)) 0 ((u1_1))) (((A 7)) 0) (((adI (v9) (1))))) := by unfold HID; first | exact STR_n hv0 (by (have qg0 := HIDe qv9; have qg1 := HIDe r1; have qg2 := HIDe r3; omega)) | exact STR_u hv0 pz19_1 (by (have qg0 := HIDe qv9; have qg1 := HIDe r1; have qg2 := HIDe r3; omega)) | exact STR_y hv0 (by (have qg0 := HIDe qv9; have qg1 := HIDe r1; have qg2 := HIDe r3; omega)) pz19_1 (by (have qg0 := HIDe qv9; have qg1 := HIDe r1; have qg2 := HIDe r3; omega))
      refine v_sI H (o := 7) (z := (adI (v9) (1))) rfl rfl rfl rfl (n := n7) (en7) (show 0 ≤ 0 ∧ 0 < n7 by have qh0 := HIDe r7; omega) (show inr ((adI (v9) (1))) by have qh0 := HIDe qv9; omega) (fun σ H O' => ?_)
      have O := OUT_trans O O'
      refine Ew_of (pc' := 278) (fun _ => x_aload_n rfl (rk_o (hl0) rfl rfl)) ?_
      refine v_g H (o := 0) (v := .ref (D 7)) rfl rfl rfl rfl rfl (vrf ((((show F19 0 16 = F 0 16 from (eF19 0 16)))).trans (pf7))) ?_
      refine Ew_of (pc' := 282) (fun _ => x_iconst rfl) ?_
      refine Ew_of (pc' := 283) (fun _ => x_dup2 rfl rfl rfl) ?_
      refine v_lI H (o := 7) rfl rfl rfl rfl (n := n7) (en7) (show 0 ≤ 1 ∧ 1 < n7 by have qh0 := HIDe r7; omega) (fun v22 ev22 qv22 => ?_)
      replace qv22 := HIDm qv22
      have ev22 : (upd1 (A 7) (0) ((adI (v9) (1)))) (1) = v22 := (congrFun (congrArg (fun q => upd1 q (0) ((adI (v9) (1)))) ((show A19 7 = A 7 from (eA19 7)))) (1)).symm.trans ev22
      have hv1 : ((A 7)) 1 = (v22) := by have h := ev22; first | exact h | (rw [upd1_o (by decide)] at h; exact h)
      refine Ew_of (pc' := 285) (fun _ => x_aload_n rfl (rk_o (hl0) rfl rfl)) ?_
      refine v_g H (o := 0) (v := .ref (D 2)) rfl rfl rfl rfl rfl (vrf ((((show F19 0 5 = F 0 5 from (eF19 0 5)))).trans (pf2))) ?_
      refine v_g H (o := 2) (v := I (u2_1)) rfl rfl rfl rfl rfl (congrArg (fun z : Int => I z) ((((show F19 2 1 = F 2 1 from (eF19 2 1))).trans (eu2_1)) : F19 2 1 = u2_1)) ?_
      refine Ew_of (pc' := 292) (fun _ => x_aload_n rfl (rk_o (hl0) rfl rfl)) ?_
      refine Ew_of (pc' := 293) (fun _ => x_iload_n rfl (rk_o (hl3) rfl rfl)) ?_
      refine Ew_of (pc' := 295) (fun _ => x_aload rfl (rk_o (hl4) rfl rfl)) ?_
      refine v_g H (o := 1) (v := I (u1_1)) rfl rfl rfl rfl rfl (congrArg (fun z : Int => I z) ((((show F19 1 1 = F 1 1 from (eF19 1 1).trans (hS19 1 1 rfl))).trans (eu1_1)) : F19 1 1 = u1_1)) ?_
      refine v_inv H (o := 0) rfl rfl rfl rfl rfl rfl (by rfl) (C34x (D := pul [0, 8] D) (N := pul [0, 8] N) (HW_sub H (VS_of (show vsub V17_vE2 V34 [0, 8] = true by decide +kernel))) ((((show F19 0 1 = F 0 1 from (eF19 0 1)))).trans (pf8)) (n8) (en8) (w8) (((show A19 8 = A 8 from (eA19 8))).trans (ew8)) (show inr (2) by omega) (show inr (u1_1) by have qh0 := HIDe r1; omega) (show 0 ≤ (u1_1) ∧ (u1_1) ≤ 16384 by have qh0 := HIDe r1; omega) (show 0 ≤ (2) ∧ (2) ≤ 5 by omega) (show 1 ≤ ((w8)) 2 ∧ ((w8)) 2 ≤ 65536 by omega) (show 0 ≤ ((w8)) 8 ∧ ((w8)) 8 ≤ 11 by omega) (show 0 ≤ ((w8)) 6 ∧ ((w8)) 6 ≤ 255 by omega) (show (n8) = 10 by have qh0 := HIDe r8; omega) (fun z23 σ23 F23' A23' H' O' hS23 hA23 pz23_0 pz23_1 => ⟨rfl, ?_⟩))
      refine v_back (c := c) (s := s) H (show vsub V17_vE2 V34 [0, 8] = true by decide +kernel) H' O' (fun F23 A23 H O' eF23 eA23 => ?_)
      have O := OUT_trans O O'
      -- PackHouse.boundOf
      have hbd := pz23_1
      clear pz23_1
      refine w_icmple (t := 308) rfl rfl (show inr (u2_1) by have qh0 := HIDe r2; omega) (show inr (z23) by omega) (fun b24 => ?_) (fun b24 => ?_)
      · refine Ew_of (pc' := 309) (fun _ => x_iconst rfl) ?_
        refine w_iaddE rfl ?_
        have g25 : inr (adI (v22) (0)) := toI_inr _
        have hs1 : HID (((adI (v22) (0))) = w32 (((A 7)) 1 + (if BNA ((w8)) 2 ((u1_1)) < (u2_1) then 1 else 0))) := by unfold HID; exact BYN hv1 (by decide) (by (have qg0 := HIDe qv22; have qg1 := HIDe r1; have qg2 := HIDe r2; omega)) hbd (by first | exact .inl ⟨by (have qg0 := HIDe qv22; have qg1 := HIDe r1; have qg2 := HIDe r2; omega), rfl⟩ | exact .inr ⟨by (have qg0 := HIDe qv22; have qg1 := HIDe r1; have qg2 := HIDe r2; omega), rfl⟩)
        clear hbd
        refine v_sI H (o := 7) (z := (adI (v22) (0))) rfl rfl rfl rfl (n := n7) (en7) (show 0 ≤ 1 ∧ 1 < n7 by have qh0 := HIDe r7; omega) (show inr ((adI (v22) (0))) by have qh0 := HIDe qv22; omega) (fun σ H O' => ?_)
        have O := OUT_trans O O'
        have : HID (STR (y0) ((u1_1)) (sc ((A 5)) 0 ((u4_1))) (sc ((A 6)) 0 ((u1_1))) (((A 7)) 0) (((upd1 (upd1 (A 7) (0) ((adI (v9) (1)))) (1) ((adI (v22) (0))))) 0)) := by rw [upd1_o (by decide), upd1_s]; exact hs0
        have : HID (((upd1 (upd1 (A 7) (0) ((adI (v9) (1)))) (1) ((adI (v22) (0))))) 1 = w32 (((A 7)) 1 + (if BNA ((w8)) 2 ((u1_1)) < (u2_1) then 1 else 0))) := by rw [upd1_s]; exact hs1
        refine Ew_of (pc' := 312) (fun _ => x_iload_n rfl (rk_o (hl3) rfl rfl)) ?_
        refine Ew_of (pc' := 313) (fun _ => x_iconst rfl) ?_
        refine w_icmpne (t := 337) rfl rfl (show inr (2) by omega) (show inr (4) by omega) (fun b26 => ?_) (fun b26 => ?_)
        · exact hc337  _ _ _ _  (rk_o (hl0) rfl rfl) (rk_o (hl1) rfl rfl) H O (SF_trans (SF_trans (SF_refl) (SF_glu (ι := [4, 1, 5, 6]) hS19 eF19 (by decide +kernel)) (any_sub (l' := []) rfl)) (SF_glu (ι := [0, 8]) hS23 eF23 (by decide +kernel)) (any_sub (l' := []) rfl)) (SA_upd (SA_trans (SA_upd (SA_trans (SA_refl) (SA_glu (ι := [4, 1, 5, 6]) hA19 eA19 (by decide +kernel)) (any_subA (l' := []) rfl)) rfl) (SA_glu (ι := [0, 8]) hA23 eA23 (by decide +kernel)) (any_subA (l' := []) rfl)) rfl)    (upd1 (upd1 (A 7) (0) ((adI (v9) (1)))) (1) ((adI (v22) (0)))) (congrArg (fun q => upd1 q (1) ((adI (v22) (0)))) (((show A23 7 = (updA A19 7 (0) ((adI (v9) (1)))) 7 from (eA23 7))).trans (congrArg (fun q => upd1 q (0) ((adI (v9) (1)))) ((show A19 7 = A 7 from (eA19 7)))))) (show 0 ≤ (u2_1) ∧ (u2_1) ≤ (n3) ∧ (n3) ≤ 65536 by have qh0 := HIDe r2; have qh1 := HIDe r4; omega) (by assumption) (by assumption)
        · exact absurd b26 (by omega)
      · refine Ew_of (pc' := 305) (fun _ => x_iconst rfl) ?_
        refine Ew_of (pc' := 309) (fun _ => x_goto rfl rfl) ?_
        refine w_iaddE rfl ?_
        have g27 : inr (adI (v22) (1)) := toI_inr _
        have hs1 : HID (((adI (v22) (1))) = w32 (((A 7)) 1 + (if BNA ((w8)) 2 ((u1_1)) < (u2_1) then 1 else 0))) := by unfold HID; exact BYN hv1 (by decide) (by (have qg0 := HIDe qv22; have qg1 := HIDe r1; have qg2 := HIDe r2; omega)) hbd (by first | exact .inl ⟨by (have qg0 := HIDe qv22; have qg1 := HIDe r1; have qg2 := HIDe r2; omega), rfl⟩ | exact .inr ⟨by (have qg0 := HIDe qv22; have qg1 := HIDe r1; have qg2 := HIDe r2; omega), rfl⟩)
        clear hbd
        refine v_sI H (o := 7) (z := (adI (v22) (1))) rfl rfl rfl rfl (n := n7) (en7) (show 0 ≤ 1 ∧ 1 < n7 by have qh0 := HIDe r7; omega) (show inr ((adI (v22) (1))) by have qh0 := HIDe qv22; omega) (fun σ H O' => ?_)
        have O := OUT_trans O O'
        have : HID (STR (y0) ((u1_1)) (sc ((A 5)) 0 ((u4_1))) (sc ((A 6)) 0 ((u1_1))) (((A 7)) 0) (((upd1 (upd1 (A 7) (0) ((adI (v9) (1)))) (1) ((adI (v22) (1))))) 0)) := by rw [upd1_o (by decide), upd1_s]; exact hs0
        have : HID (((upd1 (upd1 (A 7) (0) ((adI (v9) (1)))) (1) ((adI (v22) (1))))) 1 = w32 (((A 7)) 1 + (if BNA ((w8)) 2 ((u1_1)) < (u2_1) then 1 else 0))) := by rw [upd1_s]; exact hs1
        refine Ew_of (pc' := 312) (fun _ => x_iload_n rfl (rk_o (hl3) rfl rfl)) ?_
        refine Ew_of (pc' := 313) (fun _ => x_iconst rfl) ?_
        refine w_icmpne (t := 337) rfl rfl (show inr (2) by omega) (show inr (4) by omega) (fun b28 => ?_) (fun b28 => ?_)
        · exact hc337  _ _ _ _  (rk_o (hl0) rfl rfl) (rk_o (hl1) rfl rfl) H O (SF_trans (SF_trans (SF_refl) (SF_glu (ι := [4, 1, 5, 6]) hS19 eF19 (by decide +kernel)) (any_sub (l' := []) rfl)) (SF_glu (ι := [0, 8]) hS23 eF23 (by decide +kernel)) (any_sub (l' := []) rfl)) (SA_upd (SA_trans (SA_upd (SA_trans (SA_refl) (SA_glu (ι := [4, 1, 5, 6]) hA19 eA19 (by decide +kernel)) (any_subA (l' := []) rfl)) rfl) (SA_glu (ι := [0, 8]) hA23 eA23 (by decide +kernel)) (any_subA (l' := []) rfl)) rfl)    (upd1 (upd1 (A 7) (0) ((adI (v9) (1)))) (1) ((adI (v22) (1)))) (congrArg (fun q => upd1 q (1) ((adI (v22) (1)))) (((show A23 7 = (updA A19 7 (0) ((adI (v9) (1)))) 7 from (eA23 7))).trans (congrArg (fun q => upd1 q (0) ((adI (v9) (1)))) ((show A19 7 = A 7 from (eA19 7)))))) (show 0 ≤ (u2_1) ∧ (u2_1) ≤ (n3) ∧ (n3) ≤ 65536 by have qh0 := HIDe r2; have qh1 := HIDe r4; omega) (by assumption) (by assumption)
        · exact absurd b28 (by omega)
    · refine Ew_of (pc' := 271) (fun _ => x_iconst rfl) ?_
      refine Ew_of (pc' := 275) (fun _ => x_goto rfl rfl) ?_
      refine w_iaddE rfl ?_
      have g29 : inr (adI (v9) (0)) := toI_inr _
      have hs0 : HID (STR (y0) ((u1_1)) (sc ((A 5)) 0 ((u4_1))) (sc ((A 6)) 0 ((u1_1))) (((A 7)) 0) (((adI (v9) (0))))) := by unfold HID; first | exact STR_n hv0 (by (have qg0 := HIDe qv9; have qg1 := HIDe r1; have qg2 := HIDe r3; omega)) | exact STR_u hv0 pz19_1 (by (have qg0 := HIDe qv9; have qg1 := HIDe r1; have qg2 := HIDe r3; omega)) | exact STR_y hv0 (by (have qg0 := HIDe qv9; have qg1 := HIDe r1; have qg2 := HIDe r3; omega)) pz19_1 (by (have qg0 := HIDe qv9; have qg1 := HIDe r1; have qg2 := HIDe r3; omega))
      refine v_sI H (o := 7) (z := (adI (v9) (0))) rfl rfl rfl rfl (n := n7) (en7) (show 0 ≤ 0 ∧ 0 < n7 by have qh0 := HIDe r7; omega) (show inr ((adI (v9) (0))) by have qh0 := HIDe qv9; omega) (fun σ H O' => ?_)
      have O := OUT_trans O O'
      refine Ew_of (pc' := 278) (fun _ => x_aload_n rfl (rk_o (hl0) rfl rfl)) ?_
      refine v_g H (o := 0) (v := .ref (D 7)) rfl rfl rfl rfl rfl (vrf ((((show F19 0 16 = F 0 16 from (eF19 0 16)))).trans (pf7))) ?_
      refine Ew_of (pc' := 282) (fun _ => x_iconst rfl) ?_
      refine Ew_of (pc' := 283) (fun _ => x_dup2 rfl rfl rfl) ?_
      refine v_lI H (o := 7) rfl rfl rfl rfl (n := n7) (en7) (show 0 ≤ 1 ∧ 1 < n7 by have qh0 := HIDe r7; omega) (fun v30 ev30 qv30 => ?_)
      replace qv30 := HIDm qv30
      have ev30 : (upd1 (A 7) (0) ((adI (v9) (0)))) (1) = v30 := (congrFun (congrArg (fun q => upd1 q (0) ((adI (v9) (0)))) ((show A19 7 = A 7 from (eA19 7)))) (1)).symm.trans ev30
      have hv1 : ((A 7)) 1 = (v30) := by have h := ev30; first | exact h | (rw [upd1_o (by decide)] at h; exact h)
      refine Ew_of (pc' := 285) (fun _ => x_aload_n rfl (rk_o (hl0) rfl rfl)) ?_
      refine v_g H (o := 0) (v := .ref (D 2)) rfl rfl rfl rfl rfl (vrf ((((show F19 0 5 = F 0 5 from (eF19 0 5)))).trans (pf2))) ?_
      refine v_g H (o := 2) (v := I (u2_1)) rfl rfl rfl rfl rfl (congrArg (fun z : Int => I z) ((((show F19 2 1 = F 2 1 from (eF19 2 1))).trans (eu2_1)) : F19 2 1 = u2_1)) ?_
      refine Ew_of (pc' := 292) (fun _ => x_aload_n rfl (rk_o (hl0) rfl rfl)) ?_
      refine Ew_of (pc' := 293) (fun _ => x_iload_n rfl (rk_o (hl3) rfl rfl)) ?_
      refine Ew_of (pc' := 295) (fun _ => x_aload rfl (rk_o (hl4) rfl rfl)) ?_
      refine v_g H (o := 1) (v := I (u1_1)) rfl rfl rfl rfl rfl (congrArg (fun z : Int => I z) ((((show F19 1 1 = F 1 1 from (eF19 1 1).trans (hS19 1 1 rfl))).trans (eu1_1)) : F19 1 1 = u1_1)) ?_
      refine v_inv H (o := 0) rfl rfl rfl rfl rfl rfl (by rfl) (C34x (D := pul [0, 8] D) (N := pul [0, 8] N) (HW_sub H (VS_of (show vsub V17_vE2 V34 [0, 8] = true by decide +kernel))) ((((show F19 0 1 = F 0 1 from (eF19 0 1)))).trans (pf8)) (n8) (en8) (w8) (((show A19 8 = A 8 from (eA19 8))).trans (ew8)) (show inr (2) by omega) (show inr (u1_1) by have qh0 := HIDe r1; omega) (show 0 ≤ (u1_1) ∧ (u1_1) ≤ 16384 by have qh0 := HIDe r1; omega) (show 0 ≤ (2) ∧ (2) ≤ 5 by omega) (show 1 ≤ ((w8)) 2 ∧ ((w8)) 2 ≤ 65536 by omega) (show 0 ≤ ((w8)) 8 ∧ ((w8)) 8 ≤ 11 by omega) (show 0 ≤ ((w8)) 6 ∧ ((w8)) 6 ≤ 255 by omega) (show (n8) = 10 by have qh0 := HIDe r8; omega) (fun z31 σ31 F31' A31' H' O' hS31 hA31 pz31_0 pz31_1 => ⟨rfl, ?_⟩))
      refine v_back (c := c) (s := s) H (show vsub V17_vE2 V34 [0, 8] = true by decide +kernel) H' O' (fun F31 A31 H O' eF31 eA31 => ?_)
      have O := OUT_trans O O'
      -- PackHouse.boundOf
      have hbd := pz31_1
      clear pz31_1
      refine w_icmple (t := 308) rfl rfl (show inr (u2_1) by have qh0 := HIDe r2; omega) (show inr (z31) by omega) (fun b32 => ?_) (fun b32 => ?_)
      · refine Ew_of (pc' := 309) (fun _ => x_iconst rfl) ?_
        refine w_iaddE rfl ?_
        have g33 : inr (adI (v30) (0)) := toI_inr _
        have hs1 : HID (((adI (v30) (0))) = w32 (((A 7)) 1 + (if BNA ((w8)) 2 ((u1_1)) < (u2_1) then 1 else 0))) := by unfold HID; exact BYN hv1 (by decide) (by (have qg0 := HIDe qv30; have qg1 := HIDe r1; have qg2 := HIDe r2; omega)) hbd (by first | exact .inl ⟨by (have qg0 := HIDe qv30; have qg1 := HIDe r1; have qg2 := HIDe r2; omega), rfl⟩ | exact .inr ⟨by (have qg0 := HIDe qv30; have qg1 := HIDe r1; have qg2 := HIDe r2; omega), rfl⟩)
        clear hbd
        refine v_sI H (o := 7) (z := (adI (v30) (0))) rfl rfl rfl rfl (n := n7) (en7) (show 0 ≤ 1 ∧ 1 < n7 by have qh0 := HIDe r7; omega) (show inr ((adI (v30) (0))) by have qh0 := HIDe qv30; omega) (fun σ H O' => ?_)
        have O := OUT_trans O O'
        have : HID (STR (y0) ((u1_1)) (sc ((A 5)) 0 ((u4_1))) (sc ((A 6)) 0 ((u1_1))) (((A 7)) 0) (((upd1 (upd1 (A 7) (0) ((adI (v9) (0)))) (1) ((adI (v30) (0))))) 0)) := by rw [upd1_o (by decide), upd1_s]; exact hs0
        have : HID (((upd1 (upd1 (A 7) (0) ((adI (v9) (0)))) (1) ((adI (v30) (0))))) 1 = w32 (((A 7)) 1 + (if BNA ((w8)) 2 ((u1_1)) < (u2_1) then 1 else 0))) := by rw [upd1_s]; exact hs1
        refine Ew_of (pc' := 312) (fun _ => x_iload_n rfl (rk_o (hl3) rfl rfl)) ?_
        refine Ew_of (pc' := 313) (fun _ => x_iconst rfl) ?_
        refine w_icmpne (t := 337) rfl rfl (show inr (2) by omega) (show inr (4) by omega) (fun b34 => ?_) (fun b34 => ?_)
        · exact hc337  _ _ _ _  (rk_o (hl0) rfl rfl) (rk_o (hl1) rfl rfl) H O (SF_trans (SF_trans (SF_refl) (SF_glu (ι := [4, 1, 5, 6]) hS19 eF19 (by decide +kernel)) (any_sub (l' := []) rfl)) (SF_glu (ι := [0, 8]) hS31 eF31 (by decide +kernel)) (any_sub (l' := []) rfl)) (SA_upd (SA_trans (SA_upd (SA_trans (SA_refl) (SA_glu (ι := [4, 1, 5, 6]) hA19 eA19 (by decide +kernel)) (any_subA (l' := []) rfl)) rfl) (SA_glu (ι := [0, 8]) hA31 eA31 (by decide +kernel)) (any_subA (l' := []) rfl)) rfl)    (upd1 (upd1 (A 7) (0) ((adI (v9) (0)))) (1) ((adI (v30) (0)))) (congrArg (fun q => upd1 q (1) ((adI (v30) (0)))) (((show A31 7 = (updA A19 7 (0) ((adI (v9) (0)))) 7 from (eA31 7))).trans (congrArg (fun q => upd1 q (0) ((adI (v9) (0)))) ((show A19 7 = A 7 from (eA19 7)))))) (show 0 ≤ (u2_1) ∧ (u2_1) ≤ (n3) ∧ (n3) ≤ 65536 by have qh0 := HIDe r2; have qh1 := HIDe r4; omega) (by assumption) (by assumption)
        · exact absurd b34 (by omega)
      · refine Ew_of (pc' := 305) (fun _ => x_iconst rfl) ?_
        refine Ew_of (pc' := 309) (fun _ => x_goto rfl rfl) ?_
        refine w_iaddE rfl ?_
        have g35 : inr (adI (v30) (1)) := toI_inr _
        have hs1 : HID (((adI (v30) (1))) = w32 (((A 7)) 1 + (if BNA ((w8)) 2 ((u1_1)) < (u2_1) then 1 else 0))) := by unfold HID; exact BYN hv1 (by decide) (by (have qg0 := HIDe qv30; have qg1 := HIDe r1; have qg2 := HIDe r2; omega)) hbd (by first | exact .inl ⟨by (have qg0 := HIDe qv30; have qg1 := HIDe r1; have qg2 := HIDe r2; omega), rfl⟩ | exact .inr ⟨by (have qg0 := HIDe qv30; have qg1 := HIDe r1; have qg2 := HIDe r2; omega), rfl⟩)
        clear hbd
        refine v_sI H (o := 7) (z := (adI (v30) (1))) rfl rfl rfl rfl (n := n7) (en7) (show 0 ≤ 1 ∧ 1 < n7 by have qh0 := HIDe r7; omega) (show inr ((adI (v30) (1))) by have qh0 := HIDe qv30; omega) (fun σ H O' => ?_)
        have O := OUT_trans O O'
        have : HID (STR (y0) ((u1_1)) (sc ((A 5)) 0 ((u4_1))) (sc ((A 6)) 0 ((u1_1))) (((A 7)) 0) (((upd1 (upd1 (A 7) (0) ((adI (v9) (0)))) (1) ((adI (v30) (1))))) 0)) := by rw [upd1_o (by decide), upd1_s]; exact hs0
        have : HID (((upd1 (upd1 (A 7) (0) ((adI (v9) (0)))) (1) ((adI (v30) (1))))) 1 = w32 (((A 7)) 1 + (if BNA ((w8)) 2 ((u1_1)) < (u2_1) then 1 else 0))) := by rw [upd1_s]; exact hs1
        refine Ew_of (pc' := 312) (fun _ => x_iload_n rfl (rk_o (hl3) rfl rfl)) ?_
        refine Ew_of (pc' := 313) (fun _ => x_iconst rfl) ?_
        refine w_icmpne (t := 337) rfl rfl (show inr (2) by omega) (show inr (4) by omega) (fun b36 => ?_) (fun b36 => ?_)
        · exact hc337  _ _ _ _  (rk_o (hl0) rfl rfl) (rk_o (hl1) rfl rfl) H O (SF_trans (SF_trans (SF_refl) (SF_glu (ι := [4, 1, 5, 6]) hS19 eF19 (by decide +kernel)) (any_sub (l' := []) rfl)) (SF_glu (ι := [0, 8]) hS31 eF31 (by decide +kernel)) (any_sub (l' := []) rfl)) (SA_upd (SA_trans (SA_upd (SA_trans (SA_refl) (SA_glu (ι := [4, 1, 5, 6]) hA19 eA19 (by decide +kernel)) (any_subA (l' := []) rfl)) rfl) (SA_glu (ι := [0, 8]) hA31 eA31 (by decide +kernel)) (any_subA (l' := []) rfl)) rfl)    (upd1 (upd1 (A 7) (0) ((adI (v9) (0)))) (1) ((adI (v30) (1)))) (congrArg (fun q => upd1 q (1) ((adI (v30) (1)))) (((show A31 7 = (updA A19 7 (0) ((adI (v9) (0)))) 7 from (eA31 7))).trans (congrArg (fun q => upd1 q (0) ((adI (v9) (0)))) ((show A19 7 = A 7 from (eA19 7)))))) (show 0 ≤ (u2_1) ∧ (u2_1) ≤ (n3) ∧ (n3) ≤ 65536 by have qh0 := HIDe r2; have qh1 := HIDe r4; omega) (by assumption) (by assumption)
        · exact absurd b36 (by omega)
abbrev V17_vE3 : vV := [(0, 0, [(4, 0), (4, 0), (4, 0), (4, 0), (4, 0), (4, 0), (4, 0), (4, 0), (4, 0), (4, 0), (4, 0), (4, 0), (4, 0), (4, 0), (4, 0), (4, 0), (4, 0), (0, 0), (0, 0)]), (0, 7, [(4, 0), (0, 0), (1, 0), (0, 0), (0, 0)]), (0, 7, [(4, 0), (0, 0), (1, 0), (0, 0), (0, 0)]), (1, 0, []), (0, 7, [(4, 0), (0, 0), (1, 0), (0, 0), (0, 0)]), (1, 0, []), (1, 0, []), (1, 1, []), (1, 1, [])]
/-- PackHouse.write: this, @F, this.written, this.written.bytes, this.content, this.content.bytes, @F.bytes, this.strays, this.settings -/
theorem C17_vE3 {σE : rS} {D N : Nat → Nat} {F : hF} {A : hA} {d c s : Nat} {Q : wQ} (H : HW V17_vE3 σE D N F A) {x1 y0 : Int} (pf2 : F 0 5 = (D 2 : Int)) (pf3 : F 2 0 = (D 3 : Int)) (pf4 : F 0 6 = (D 4 : Int)) (pf5 : F 4 0 = (D 5 : Int)) (pf6 : F 1 0 = (D 6 : Int)) (pf7 : F 0 16 = (D 7 : Int)) (pf8 : F 0 1 = (D 8 : Int)) (n3 : Int) (en3 : (N 3 : Int) = n3) (n5 : Int) (en5 : (N 5 : Int) = n5) (n6 : Int) (en6 : (N 6 : Int) = n6) (n7 : Int) (en7 : (N 7 : Int) = n7) (n8 : Int) (en8 : (N 8 : Int) = n8) (u1_1 : Int) (eu1_1 : F 1 1 = u1_1) (u2_1 : Int) (eu2_1 : F 2 1 = u2_1) (u4_1 : Int) (eu4_1 : F 4 1 = u4_1) (w8 : Int → Int) (ew8 : A 8 = w8) {ls : rO} (hl0 : rlook ls 0 = some (.ref (D 0))) (hl1 : rlook ls 1 = some (I (x1))) (hl3 : rlook ls 3 = some (I (3))) (hl4 : rlook ls 4 = some (.ref (D 1))) (h0 : inr (x1)) (h1 : inr y0) (h2 : 0 ≤ (u2_1) ∧ (u2_1) ≤ (n3) ∧ (n3) ≤ 65536) (h3 : 0 ≤ (u4_1) ∧ (u4_1) ≤ (n5) ∧ (n5) ≤ 65536) (h4 : 0 ≤ (u1_1) ∧ (u1_1) ≤ (n6) ∧ (n6) ≤ 65536) (h5 : (u1_1) ≤ 16384) (h6 : (n7) = 2) (h7 : 1 ≤ ((w8)) 2 ∧ ((w8)) 2 ≤ 65536) (h8 : 0 ≤ ((w8)) 8 ∧ ((w8)) 8 ≤ 11) (h9 : 0 ≤ ((w8)) 6 ∧ ((w8)) 6 ≤ 255) (h10 : (n8) = 10) (hc337 : ∀ (ls : rO) (σ : rS) (F_c337 : hF) (A_c337 : hA) , rlook ls 0 = some (.ref (D 0)) → rlook ls 1 = some (I (x1)) → HW V17_vE3 σ D N F_c337 A_c337 → OUT (V17_vE3).length D N σE c s D N σ c s → SF [] F F_c337 → SA [7] A A_c337 → ∀ wc337_7 : Int → Int, A_c337 7 = wc337_7 → (0 ≤ (u2_1) ∧ (u2_1) ≤ (n3) ∧ (n3) ≤ 65536) → (HID (STR (y0) ((u1_1)) (sc ((A 5)) 0 ((u4_1))) (sc ((A 6)) 0 ((u1_1))) (((A 7)) 0) (((wc337_7)) 0))) → (HID (((wc337_7)) 1 = w32 (((A 7)) 1 + (if BNA ((w8)) 3 ((u1_1)) < (u2_1) then 1 else 0)))) → Ew 17 (d + 3) 337 ls [] σ c s Q) (k : ∀ (z : Int) (σ : rS) (F' : hF) (A' : hA), HW V17_vE3 σ D N F' A' → OUT (V17_vE3).length D N σE c s D N σ c s → SF [] F F' → SA [7] A A' → (inr (z)) → ((0 : Int) = 1) → Q (some (I z)) σ c s) : Ew 17 (d + 3) 239 ls [I (y0)] σE c s Q := by
  have O := OUT_refl (n := (V17_vE3).length) (D := D) (N := N) (σ := σE) (c := c) (s := s)
  have HE := H
  have r1 : HID ((-2147483648 : Int) ≤ u1_1 ∧ u1_1 ≤ 2147483647) := krg_e (show (-2147483648 : Int) ≤ F 1 1 ∧ F 1 1 ≤ 2147483647 from H.krg 1 1 (by decide)) (show F 1 1 = u1_1 from (eu1_1))
  have r2 : HID ((-2147483648 : Int) ≤ u2_1 ∧ u2_1 ≤ 2147483647) := krg_e (show (-2147483648 : Int) ≤ F 2 1 ∧ F 2 1 ≤ 2147483647 from H.krg 2 1 (by decide)) (show F 2 1 = u2_1 from (eu2_1))
  have r3 : HID ((-2147483648 : Int) ≤ u4_1 ∧ u4_1 ≤ 2147483647) := krg_e (show (-2147483648 : Int) ≤ F 4 1 ∧ F 4 1 ≤ 2147483647 from H.krg 4 1 (by decide)) (show F 4 1 = u4_1 from (eu4_1))
  replace pf2 := HIDm pf2
  replace pf3 := HIDm pf3
  replace pf4 := HIDm pf4
  replace pf5 := HIDm pf5
  replace pf6 := HIDm pf6
  replace pf7 := HIDm pf7
  replace pf8 := HIDm pf8
  replace en3 := HIDm en3
  replace en5 := HIDm en5
  replace en6 := HIDm en6
  replace en7 := HIDm en7
  replace en8 := HIDm en8
  replace eu1_1 := HIDm eu1_1
  replace eu2_1 := HIDm eu2_1
  replace eu4_1 := HIDm eu4_1
  have r4 : HID ((0 : Int) ≤ n3 ∧ n3 ≤ 1000000) := nrng (H.nle 3 (by decide)) (show (N 3 : Int) = n3 from en3)
  have r5 : HID ((0 : Int) ≤ n5 ∧ n5 ≤ 1000000) := nrng (H.nle 5 (by decide)) (show (N 5 : Int) = n5 from en5)
  have r6 : HID ((0 : Int) ≤ n6 ∧ n6 ≤ 1000000) := nrng (H.nle 6 (by decide)) (show (N 6 : Int) = n6 from en6)
  have r7 : HID ((0 : Int) ≤ n7 ∧ n7 ≤ 1000000) := nrng (H.nle 7 (by decide)) (show (N 7 : Int) = n7 from en7)
  have r8 : HID ((0 : Int) ≤ n8 ∧ n8 ≤ 1000000) := nrng (H.nle 8 (by decide)) (show (N 8 : Int) = n8 from en8)
  refine Ew_of (pc' := 241) (fun _ => x_istore rfl) ?_
  refine Ew_of (pc' := 242) (fun _ => x_aload_n rfl (rk_o (hl0) rfl rfl)) ?_
  refine v_g H (o := 0) (v := .ref (D 7)) rfl rfl rfl rfl rfl (vrf (pf7)) ?_
  refine Ew_of (pc' := 246) (fun _ => x_iconst rfl) ?_
  refine Ew_of (pc' := 247) (fun _ => x_dup2 rfl rfl rfl) ?_
  refine v_lI H (o := 7) rfl rfl rfl rfl (n := n7) (en7) (show 0 ≤ 0 ∧ 0 < n7 by have qh0 := HIDe r7; omega) (fun v9 ev9 qv9 => ?_)
  replace qv9 := HIDm qv9
  have ev9 : (A 7) (0) = v9 := (congrFun (rfl : A 7 = A 7) (0)).symm.trans ev9
  have hv0 := ev9
  refine Ew_of (pc' := 250) (fun _ => x_iload rfl rk_s) ?_
  refine Ew_of (pc' := 252) (fun _ => x_aload rfl (rk_o (hl4) rfl rfl)) ?_
  refine v_g H (o := 1) (v := I (u1_1)) rfl rfl rfl rfl rfl (congrArg (fun z : Int => I z) ((eu1_1) : F 1 1 = u1_1)) ?_
  refine w_icmpne (t := 274) rfl rfl (show inr (y0) by omega) (show inr (u1_1) by have qh0 := HIDe r1; omega) (fun b10 => ?_) (fun b10 => ?_)
  · refine Ew_of (pc' := 275) (fun _ => x_iconst rfl) ?_
    refine w_iaddE rfl ?_
    have g11 : inr (adI (v9) (1)) := toI_inr _
    have hs0 : HID (STR (y0) ((u1_1)) (sc ((A 5)) 0 ((u4_1))) (sc ((A 6)) 0 ((u1_1))) (((A 7)) 0) (((adI (v9) (1))))) := by unfold HID; first | exact STR_n hv0 (by (have qg0 := HIDe qv9; have qg1 := HIDe r1; have qg2 := HIDe r3; omega)) | exact STR_u hv0 pNONE_1 (by (have qg0 := HIDe qv9; have qg1 := HIDe r1; have qg2 := HIDe r3; omega)) | exact STR_y hv0 (by (have qg0 := HIDe qv9; have qg1 := HIDe r1; have qg2 := HIDe r3; omega)) pNONE_1 (by (have qg0 := HIDe qv9; have qg1 := HIDe r1; have qg2 := HIDe r3; omega))
    refine v_sI H (o := 7) (z := (adI (v9) (1))) rfl rfl rfl rfl (n := n7) (en7) (show 0 ≤ 0 ∧ 0 < n7 by have qh0 := HIDe r7; omega) (show inr ((adI (v9) (1))) by have qh0 := HIDe qv9; omega) (fun σ H O' => ?_)
    have O := OUT_trans O O'
    refine Ew_of (pc' := 278) (fun _ => x_aload_n rfl (rk_o (hl0) rfl rfl)) ?_
    refine v_g H (o := 0) (v := .ref (D 7)) rfl rfl rfl rfl rfl (vrf (pf7)) ?_
    refine Ew_of (pc' := 282) (fun _ => x_iconst rfl) ?_
    refine Ew_of (pc' := 283) (fun _ => x_dup2 rfl rfl rfl) ?_
    refine v_lI H (o := 7) rfl rfl rfl rfl (n := n7) (en7) (show 0 ≤ 1 ∧ 1 < n7 by have qh0 := HIDe r7; omega) (fun v12 ev12 qv12 => ?_)
    replace qv12 := HIDm qv12
    have ev12 : (upd1 (A 7) (0) ((adI (v9) (1)))) (1) = v12 := (congrFun (rfl : (updA A 7 (0) ((adI (v9) (1)))) 7 = upd1 (A 7) (0) ((adI (v9) (1)))) (1)).symm.trans ev12
    have hv1 : ((A 7)) 1 = (v12) := by have h := ev12; first | exact h | (rw [upd1_o (by decide)] at h; exact h)
    refine Ew_of (pc' := 285) (fun _ => x_aload_n rfl (rk_o (hl0) rfl rfl)) ?_
    refine v_g H (o := 0) (v := .ref (D 2)) rfl rfl rfl rfl rfl (vrf (pf2)) ?_
    refine v_g H (o := 2) (v := I (u2_1)) rfl rfl rfl rfl rfl (congrArg (fun z : Int => I z) ((eu2_1) : F 2 1 = u2_1)) ?_
    refine Ew_of (pc' := 292) (fun _ => x_aload_n rfl (rk_o (hl0) rfl rfl)) ?_
    refine Ew_of (pc' := 293) (fun _ => x_iload_n rfl (rk_o (hl3) rfl rfl)) ?_
    refine Ew_of (pc' := 295) (fun _ => x_aload rfl (rk_o (hl4) rfl rfl)) ?_
    refine v_g H (o := 1) (v := I (u1_1)) rfl rfl rfl rfl rfl (congrArg (fun z : Int => I z) ((eu1_1) : F 1 1 = u1_1)) ?_
    refine v_inv H (o := 0) rfl rfl rfl rfl rfl rfl (by rfl) (C34x (D := pul [0, 8] D) (N := pul [0, 8] N) (HW_sub H (VS_of (show vsub V17_vE3 V34 [0, 8] = true by decide +kernel))) (pf8) (n8) (en8) (w8) (ew8) (show inr (3) by omega) (show inr (u1_1) by have qh0 := HIDe r1; omega) (show 0 ≤ (u1_1) ∧ (u1_1) ≤ 16384 by have qh0 := HIDe r1; omega) (show 0 ≤ (3) ∧ (3) ≤ 5 by omega) (show 1 ≤ ((w8)) 2 ∧ ((w8)) 2 ≤ 65536 by omega) (show 0 ≤ ((w8)) 8 ∧ ((w8)) 8 ≤ 11 by omega) (show 0 ≤ ((w8)) 6 ∧ ((w8)) 6 ≤ 255 by omega) (show (n8) = 10 by have qh0 := HIDe r8; omega) (fun z13 σ13 F13' A13' H' O' hS13 hA13 pz13_0 pz13_1 => ⟨rfl, ?_⟩))
    refine v_back (c := c) (s := s) H (show vsub V17_vE3 V34 [0, 8] = true by decide +kernel) H' O' (fun F13 A13 H O' eF13 eA13 => ?_)
    have O := OUT_trans O O'
    -- PackHouse.boundOf
    have hbd := pz13_1
    clear pz13_1
    refine w_icmple (t := 308) rfl rfl (show inr (u2_1) by have qh0 := HIDe r2; omega) (show inr (z13) by omega) (fun b14 => ?_) (fun b14 => ?_)
    · refine Ew_of (pc' := 309) (fun _ => x_iconst rfl) ?_
      refine w_iaddE rfl ?_
      have g15 : inr (adI (v12) (0)) := toI_inr _
      have hs1 : HID (((adI (v12) (0))) = w32 (((A 7)) 1 + (if BNA ((w8)) 3 ((u1_1)) < (u2_1) then 1 else 0))) := by unfold HID; exact BYN hv1 (by decide) (by (have qg0 := HIDe qv12; have qg1 := HIDe r1; have qg2 := HIDe r2; omega)) hbd (by first | exact .inl ⟨by (have qg0 := HIDe qv12; have qg1 := HIDe r1; have qg2 := HIDe r2; omega), rfl⟩ | exact .inr ⟨by (have qg0 := HIDe qv12; have qg1 := HIDe r1; have qg2 := HIDe r2; omega), rfl⟩)
      clear hbd
      refine v_sI H (o := 7) (z := (adI (v12) (0))) rfl rfl rfl rfl (n := n7) (en7) (show 0 ≤ 1 ∧ 1 < n7 by have qh0 := HIDe r7; omega) (show inr ((adI (v12) (0))) by have qh0 := HIDe qv12; omega) (fun σ H O' => ?_)
      have O := OUT_trans O O'
      have : HID (STR (y0) ((u1_1)) (sc ((A 5)) 0 ((u4_1))) (sc ((A 6)) 0 ((u1_1))) (((A 7)) 0) (((upd1 (upd1 (A 7) (0) ((adI (v9) (1)))) (1) ((adI (v12) (0))))) 0)) := by rw [upd1_o (by decide), upd1_s]; exact hs0
      have : HID (((upd1 (upd1 (A 7) (0) ((adI (v9) (1)))) (1) ((adI (v12) (0))))) 1 = w32 (((A 7)) 1 + (if BNA ((w8)) 3 ((u1_1)) < (u2_1) then 1 else 0))) := by rw [upd1_s]; exact hs1
      refine Ew_of (pc' := 312) (fun _ => x_iload_n rfl (rk_o (hl3) rfl rfl)) ?_
      refine Ew_of (pc' := 313) (fun _ => x_iconst rfl) ?_
      refine w_icmpne (t := 337) rfl rfl (show inr (3) by omega) (show inr (4) by omega) (fun b16 => ?_) (fun b16 => ?_)
      · exact hc337  _ _ _ _  (rk_o (hl0) rfl rfl) (rk_o (hl1) rfl rfl) H O (SF_trans (SF_refl) (SF_glu (ι := [0, 8]) hS13 eF13 (by decide +kernel)) (any_sub (l' := []) rfl)) (SA_upd (SA_trans (SA_upd (SA_refl) rfl) (SA_glu (ι := [0, 8]) hA13 eA13 (by decide +kernel)) (any_subA (l' := []) rfl)) rfl)    (upd1 (upd1 (A 7) (0) ((adI (v9) (1)))) (1) ((adI (v12) (0)))) (congrArg (fun q => upd1 q (1) ((adI (v12) (0)))) ((show A13 7 = (updA A 7 (0) ((adI (v9) (1)))) 7 from (eA13 7)))) (show 0 ≤ (u2_1) ∧ (u2_1) ≤ (n3) ∧ (n3) ≤ 65536 by have qh0 := HIDe r2; have qh1 := HIDe r4; omega) (by assumption) (by assumption)
      · exact absurd b16 (by omega)
    · refine Ew_of (pc' := 305) (fun _ => x_iconst rfl) ?_
      refine Ew_of (pc' := 309) (fun _ => x_goto rfl rfl) ?_
      refine w_iaddE rfl ?_
      have g17 : inr (adI (v12) (1)) := toI_inr _
      have hs1 : HID (((adI (v12) (1))) = w32 (((A 7)) 1 + (if BNA ((w8)) 3 ((u1_1)) < (u2_1) then 1 else 0))) := by unfold HID; exact BYN hv1 (by decide) (by (have qg0 := HIDe qv12; have qg1 := HIDe r1; have qg2 := HIDe r2; omega)) hbd (by first | exact .inl ⟨by (have qg0 := HIDe qv12; have qg1 := HIDe r1; have qg2 := HIDe r2; omega), rfl⟩ | exact .inr ⟨by (have qg0 := HIDe qv12; have qg1 := HIDe r1; have qg2 := HIDe r2; omega), rfl⟩)
      clear hbd
      refine v_sI H (o := 7) (z := (adI (v12) (1))) rfl rfl rfl rfl (n := n7) (en7) (show 0 ≤ 1 ∧ 1 < n7 by have qh0 := HIDe r7; omega) (show inr ((adI (v12) (1))) by have qh0 := HIDe qv12; omega) (fun σ H O' => ?_)
      have O := OUT_trans O O'
      have : HID (STR (y0) ((u1_1)) (sc ((A 5)) 0 ((u4_1))) (sc ((A 6)) 0 ((u1_1))) (((A 7)) 0) (((upd1 (upd1 (A 7) (0) ((adI (v9) (1)))) (1) ((adI (v12) (1))))) 0)) := by rw [upd1_o (by decide), upd1_s]; exact hs0
      have : HID (((upd1 (upd1 (A 7) (0) ((adI (v9) (1)))) (1) ((adI (v12) (1))))) 1 = w32 (((A 7)) 1 + (if BNA ((w8)) 3 ((u1_1)) < (u2_1) then 1 else 0))) := by rw [upd1_s]; exact hs1
      refine Ew_of (pc' := 312) (fun _ => x_iload_n rfl (rk_o (hl3) rfl rfl)) ?_
      refine Ew_of (pc' := 313) (fun _ => x_iconst rfl) ?_
      refine w_icmpne (t := 337) rfl rfl (show inr (3) by omega) (show inr (4) by omega) (fun b18 => ?_) (fun b18 => ?_)
      · exact hc337  _ _ _ _  (rk_o (hl0) rfl rfl) (rk_o (hl1) rfl rfl) H O (SF_trans (SF_refl) (SF_glu (ι := [0, 8]) hS13 eF13 (by decide +kernel)) (any_sub (l' := []) rfl)) (SA_upd (SA_trans (SA_upd (SA_refl) rfl) (SA_glu (ι := [0, 8]) hA13 eA13 (by decide +kernel)) (any_subA (l' := []) rfl)) rfl)    (upd1 (upd1 (A 7) (0) ((adI (v9) (1)))) (1) ((adI (v12) (1)))) (congrArg (fun q => upd1 q (1) ((adI (v12) (1)))) ((show A13 7 = (updA A 7 (0) ((adI (v9) (1)))) 7 from (eA13 7)))) (show 0 ≤ (u2_1) ∧ (u2_1) ≤ (n3) ∧ (n3) ≤ 65536 by have qh0 := HIDe r2; have qh1 := HIDe r4; omega) (by assumption) (by assumption)
      · exact absurd b18 (by omega)
  · refine Ew_of (pc' := 259) (fun _ => x_aload_n rfl (rk_o (hl0) rfl rfl)) ?_
    refine v_g H (o := 0) (v := .ref (D 4)) rfl rfl rfl rfl rfl (vrf (pf4)) ?_
    refine Ew_of (pc' := 264) (fun _ => x_aload rfl (rk_o (hl4) rfl rfl)) ?_
    refine w_stat24 rfl rfl (by rfl) (C29_Row_Rowp (D := pul [4, 1, 5, 6] D) (N := pul [4, 1, 5, 6] N) (HW_sub H (VS_of (show vsub V17_vE3 V29_Row_Row [4, 1, 5, 6] = true by decide +kernel))) (pf5) (pf6) (n5) (en5) (n6) (en6) (u4_1) ((eu4_1)) (u1_1) ((eu1_1)) (A 5) (rfl) (A 6) (rfl) (show 0 ≤ (u4_1) ∧ (u4_1) ≤ (n5) ∧ (n5) ≤ 65536 by have qh0 := HIDe r3; have qh1 := HIDe r5; omega) (show 0 ≤ (u1_1) ∧ (u1_1) ≤ (n6) ∧ (n6) ≤ 65536 by have qh0 := HIDe r1; have qh1 := HIDe r6; omega) (fun z19 σ19 F19' A19' H' O' hS19 hA19 pz19_0 pz19_1 => ⟨rfl, ?_⟩))
    refine v_back (c := c) (s := s) H (show vsub V17_vE3 V29_Row_Row [4, 1, 5, 6] = true by decide +kernel) H' O' (fun F19 A19 H O' eF19 eA19 => ?_)
    have O := OUT_trans O O'
    -- PackHouse.firstUnlike
    refine w_ifge (t := 274) rfl rfl (show inr (z19) by omega) (fun b20 => ?_) (fun b20 => ?_)
    · refine Ew_of (pc' := 275) (fun _ => x_iconst rfl) ?_
      refine w_iaddE rfl ?_
      have g21 : inr (adI (v9) (1)) := toI_inr _
      have hs0 : HID (STR (y0) ((u1_1)) (sc ((A 5)) 0 ((u4_1))) (sc ((A 6)) 0 ((u1_1))) (((A 7)) 0) (((adI (v9) (1))))) := by unfold HID; first | exact STR_n hv0 (by (have qg0 := HIDe qv9; have qg1 := HIDe r1; have qg2 := HIDe r3; omega)) | exact STR_u hv0 pz19_1 (by (have qg0 := HIDe qv9; have qg1 := HIDe r1; have qg2 := HIDe r3; omega)) | exact STR_y hv0 (by (have qg0 := HIDe qv9; have qg1 := HIDe r1; have qg2 := HIDe r3; omega)) pz19_1 (by (have qg0 := HIDe qv9; have qg1 := HIDe r1; have qg2 := HIDe r3; omega))
      refine v_sI H (o := 7) (z := (adI (v9) (1))) rfl rfl rfl rfl (n := n7) (en7) (show 0 ≤ 0 ∧ 0 < n7 by have qh0 := HIDe r7; omega) (show inr ((adI (v9) (1))) by have qh0 := HIDe qv9; omega) (fun σ H O' => ?_)
      have O := OUT_trans O O'
      refine Ew_of (pc' := 278) (fun _ => x_aload_n rfl (rk_o (hl0) rfl rfl)) ?_
      refine v_g H (o := 0) (v := .ref (D 7)) rfl rfl rfl rfl rfl (vrf ((((show F19 0 16 = F 0 16 from (eF19 0 16)))).trans (pf7))) ?_
      refine Ew_of (pc' := 282) (fun _ => x_iconst rfl) ?_
      refine Ew_of (pc' := 283) (fun _ => x_dup2 rfl rfl rfl) ?_
      refine v_lI H (o := 7) rfl rfl rfl rfl (n := n7) (en7) (show 0 ≤ 1 ∧ 1 < n7 by have qh0 := HIDe r7; omega) (fun v22 ev22 qv22 => ?_)
      replace qv22 := HIDm qv22
      have ev22 : (upd1 (A 7) (0) ((adI (v9) (1)))) (1) = v22 := (congrFun (congrArg (fun q => upd1 q (0) ((adI (v9) (1)))) ((show A19 7 = A 7 from (eA19 7)))) (1)).symm.trans ev22
      have hv1 : ((A 7)) 1 = (v22) := by have h := ev22; first | exact h | (rw [upd1_o (by decide)] at h; exact h)
      refine Ew_of (pc' := 285) (fun _ => x_aload_n rfl (rk_o (hl0) rfl rfl)) ?_
      refine v_g H (o := 0) (v := .ref (D 2)) rfl rfl rfl rfl rfl (vrf ((((show F19 0 5 = F 0 5 from (eF19 0 5)))).trans (pf2))) ?_
      refine v_g H (o := 2) (v := I (u2_1)) rfl rfl rfl rfl rfl (congrArg (fun z : Int => I z) ((((show F19 2 1 = F 2 1 from (eF19 2 1))).trans (eu2_1)) : F19 2 1 = u2_1)) ?_
      refine Ew_of (pc' := 292) (fun _ => x_aload_n rfl (rk_o (hl0) rfl rfl)) ?_
      refine Ew_of (pc' := 293) (fun _ => x_iload_n rfl (rk_o (hl3) rfl rfl)) ?_
      refine Ew_of (pc' := 295) (fun _ => x_aload rfl (rk_o (hl4) rfl rfl)) ?_
      refine v_g H (o := 1) (v := I (u1_1)) rfl rfl rfl rfl rfl (congrArg (fun z : Int => I z) ((((show F19 1 1 = F 1 1 from (eF19 1 1).trans (hS19 1 1 rfl))).trans (eu1_1)) : F19 1 1 = u1_1)) ?_
      refine v_inv H (o := 0) rfl rfl rfl rfl rfl rfl (by rfl) (C34x (D := pul [0, 8] D) (N := pul [0, 8] N) (HW_sub H (VS_of (show vsub V17_vE3 V34 [0, 8] = true by decide +kernel))) ((((show F19 0 1 = F 0 1 from (eF19 0 1)))).trans (pf8)) (n8) (en8) (w8) (((show A19 8 = A 8 from (eA19 8))).trans (ew8)) (show inr (3) by omega) (show inr (u1_1) by have qh0 := HIDe r1; omega) (show 0 ≤ (u1_1) ∧ (u1_1) ≤ 16384 by have qh0 := HIDe r1; omega) (show 0 ≤ (3) ∧ (3) ≤ 5 by omega) (show 1 ≤ ((w8)) 2 ∧ ((w8)) 2 ≤ 65536 by omega) (show 0 ≤ ((w8)) 8 ∧ ((w8)) 8 ≤ 11 by omega) (show 0 ≤ ((w8)) 6 ∧ ((w8)) 6 ≤ 255 by omega) (show (n8) = 10 by have qh0 := HIDe r8; omega) (fun z23 σ23 F23' A23' H' O' hS23 hA23 pz23_0 pz23_1 => ⟨rfl, ?_⟩))
      refine v_back (c := c) (s := s) H (show vsub V17_vE3 V34 [0, 8] = true by decide +kernel) H' O' (fun F23 A23 H O' eF23 eA23 => ?_)
      have O := OUT_trans O O'
      -- PackHouse.boundOf
      have hbd := pz23_1
      clear pz23_1
      refine w_icmple (t := 308) rfl rfl (show inr (u2_1) by have qh0 := HIDe r2; omega) (show inr (z23) by omega) (fun b24 => ?_) (fun b24 => ?_)
      · refine Ew_of (pc' := 309) (fun _ => x_iconst rfl) ?_
        refine w_iaddE rfl ?_
        have g25 : inr (adI (v22) (0)) := toI_inr _
        have hs1 : HID (((adI (v22) (0))) = w32 (((A 7)) 1 + (if BNA ((w8)) 3 ((u1_1)) < (u2_1) then 1 else 0))) := by unfold HID; exact BYN hv1 (by decide) (by (have qg0 := HIDe qv22; have qg1 := HIDe r1; have qg2 := HIDe r2; omega)) hbd (by first | exact .inl ⟨by (have qg0 := HIDe qv22; have qg1 := HIDe r1; have qg2 := HIDe r2; omega), rfl⟩ | exact .inr ⟨by (have qg0 := HIDe qv22; have qg1 := HIDe r1; have qg2 := HIDe r2; omega), rfl⟩)
        clear hbd
        refine v_sI H (o := 7) (z := (adI (v22) (0))) rfl rfl rfl rfl (n := n7) (en7) (show 0 ≤ 1 ∧ 1 < n7 by have qh0 := HIDe r7; omega) (show inr ((adI (v22) (0))) by have qh0 := HIDe qv22; omega) (fun σ H O' => ?_)
        have O := OUT_trans O O'
        have : HID (STR (y0) ((u1_1)) (sc ((A 5)) 0 ((u4_1))) (sc ((A 6)) 0 ((u1_1))) (((A 7)) 0) (((upd1 (upd1 (A 7) (0) ((adI (v9) (1)))) (1) ((adI (v22) (0))))) 0)) := by rw [upd1_o (by decide), upd1_s]; exact hs0
        have : HID (((upd1 (upd1 (A 7) (0) ((adI (v9) (1)))) (1) ((adI (v22) (0))))) 1 = w32 (((A 7)) 1 + (if BNA ((w8)) 3 ((u1_1)) < (u2_1) then 1 else 0))) := by rw [upd1_s]; exact hs1
        refine Ew_of (pc' := 312) (fun _ => x_iload_n rfl (rk_o (hl3) rfl rfl)) ?_
        refine Ew_of (pc' := 313) (fun _ => x_iconst rfl) ?_
        refine w_icmpne (t := 337) rfl rfl (show inr (3) by omega) (show inr (4) by omega) (fun b26 => ?_) (fun b26 => ?_)
        · exact hc337  _ _ _ _  (rk_o (hl0) rfl rfl) (rk_o (hl1) rfl rfl) H O (SF_trans (SF_trans (SF_refl) (SF_glu (ι := [4, 1, 5, 6]) hS19 eF19 (by decide +kernel)) (any_sub (l' := []) rfl)) (SF_glu (ι := [0, 8]) hS23 eF23 (by decide +kernel)) (any_sub (l' := []) rfl)) (SA_upd (SA_trans (SA_upd (SA_trans (SA_refl) (SA_glu (ι := [4, 1, 5, 6]) hA19 eA19 (by decide +kernel)) (any_subA (l' := []) rfl)) rfl) (SA_glu (ι := [0, 8]) hA23 eA23 (by decide +kernel)) (any_subA (l' := []) rfl)) rfl)    (upd1 (upd1 (A 7) (0) ((adI (v9) (1)))) (1) ((adI (v22) (0)))) (congrArg (fun q => upd1 q (1) ((adI (v22) (0)))) (((show A23 7 = (updA A19 7 (0) ((adI (v9) (1)))) 7 from (eA23 7))).trans (congrArg (fun q => upd1 q (0) ((adI (v9) (1)))) ((show A19 7 = A 7 from (eA19 7)))))) (show 0 ≤ (u2_1) ∧ (u2_1) ≤ (n3) ∧ (n3) ≤ 65536 by have qh0 := HIDe r2; have qh1 := HIDe r4; omega) (by assumption) (by assumption)
        · exact absurd b26 (by omega)
      · refine Ew_of (pc' := 305) (fun _ => x_iconst rfl) ?_
        refine Ew_of (pc' := 309) (fun _ => x_goto rfl rfl) ?_
        refine w_iaddE rfl ?_
        have g27 : inr (adI (v22) (1)) := toI_inr _
        have hs1 : HID (((adI (v22) (1))) = w32 (((A 7)) 1 + (if BNA ((w8)) 3 ((u1_1)) < (u2_1) then 1 else 0))) := by unfold HID; exact BYN hv1 (by decide) (by (have qg0 := HIDe qv22; have qg1 := HIDe r1; have qg2 := HIDe r2; omega)) hbd (by first | exact .inl ⟨by (have qg0 := HIDe qv22; have qg1 := HIDe r1; have qg2 := HIDe r2; omega), rfl⟩ | exact .inr ⟨by (have qg0 := HIDe qv22; have qg1 := HIDe r1; have qg2 := HIDe r2; omega), rfl⟩)
        clear hbd
        refine v_sI H (o := 7) (z := (adI (v22) (1))) rfl rfl rfl rfl (n := n7) (en7) (show 0 ≤ 1 ∧ 1 < n7 by have qh0 := HIDe r7; omega) (show inr ((adI (v22) (1))) by have qh0 := HIDe qv22; omega) (fun σ H O' => ?_)
        have O := OUT_trans O O'
        have : HID (STR (y0) ((u1_1)) (sc ((A 5)) 0 ((u4_1))) (sc ((A 6)) 0 ((u1_1))) (((A 7)) 0) (((upd1 (upd1 (A 7) (0) ((adI (v9) (1)))) (1) ((adI (v22) (1))))) 0)) := by rw [upd1_o (by decide), upd1_s]; exact hs0
        have : HID (((upd1 (upd1 (A 7) (0) ((adI (v9) (1)))) (1) ((adI (v22) (1))))) 1 = w32 (((A 7)) 1 + (if BNA ((w8)) 3 ((u1_1)) < (u2_1) then 1 else 0))) := by rw [upd1_s]; exact hs1
        refine Ew_of (pc' := 312) (fun _ => x_iload_n rfl (rk_o (hl3) rfl rfl)) ?_
        refine Ew_of (pc' := 313) (fun _ => x_iconst rfl) ?_
        refine w_icmpne (t := 337) rfl rfl (show inr (3) by omega) (show inr (4) by omega) (fun b28 => ?_) (fun b28 => ?_)
        · exact hc337  _ _ _ _  (rk_o (hl0) rfl rfl) (rk_o (hl1) rfl rfl) H O (SF_trans (SF_trans (SF_refl) (SF_glu (ι := [4, 1, 5, 6]) hS19 eF19 (by decide +kernel)) (any_sub (l' := []) rfl)) (SF_glu (ι := [0, 8]) hS23 eF23 (by decide +kernel)) (any_sub (l' := []) rfl)) (SA_upd (SA_trans (SA_upd (SA_trans (SA_refl) (SA_glu (ι := [4, 1, 5, 6]) hA19 eA19 (by decide +kernel)) (any_subA (l' := []) rfl)) rfl) (SA_glu (ι := [0, 8]) hA23 eA23 (by decide +kernel)) (any_subA (l' := []) rfl)) rfl)    (upd1 (upd1 (A 7) (0) ((adI (v9) (1)))) (1) ((adI (v22) (1)))) (congrArg (fun q => upd1 q (1) ((adI (v22) (1)))) (((show A23 7 = (updA A19 7 (0) ((adI (v9) (1)))) 7 from (eA23 7))).trans (congrArg (fun q => upd1 q (0) ((adI (v9) (1)))) ((show A19 7 = A 7 from (eA19 7)))))) (show 0 ≤ (u2_1) ∧ (u2_1) ≤ (n3) ∧ (n3) ≤ 65536 by have qh0 := HIDe r2; have qh1 := HIDe r4; omega) (by assumption) (by assumption)
        · exact absurd b28 (by omega)
    · refine Ew_of (pc' := 271) (fun _ => x_iconst rfl) ?_
      refine Ew_of (pc' := 275) (fun _ => x_goto rfl rfl) ?_
      refine w_iaddE rfl ?_
      have g29 : inr (adI (v9) (0)) := toI_inr _
      have hs0 : HID (STR (y0) ((u1_1)) (sc ((A 5)) 0 ((u4_1))) (sc ((A 6)) 0 ((u1_1))) (((A 7)) 0) (((adI (v9) (0))))) := by unfold HID; first | exact STR_n hv0 (by (have qg0 := HIDe qv9; have qg1 := HIDe r1; have qg2 := HIDe r3; omega)) | exact STR_u hv0 pz19_1 (by (have qg0 := HIDe qv9; have qg1 := HIDe r1; have qg2 := HIDe r3; omega)) | exact STR_y hv0 (by (have qg0 := HIDe qv9; have qg1 := HIDe r1; have qg2 := HIDe r3; omega)) pz19_1 (by (have qg0 := HIDe qv9; have qg1 := HIDe r1; have qg2 := HIDe r3; omega))
      refine v_sI H (o := 7) (z := (adI (v9) (0))) rfl rfl rfl rfl (n := n7) (en7) (show 0 ≤ 0 ∧ 0 < n7 by have qh0 := HIDe r7; omega) (show inr ((adI (v9) (0))) by have qh0 := HIDe qv9; omega) (fun σ H O' => ?_)
      have O := OUT_trans O O'
      refine Ew_of (pc' := 278) (fun _ => x_aload_n rfl (rk_o (hl0) rfl rfl)) ?_
      refine v_g H (o := 0) (v := .ref (D 7)) rfl rfl rfl rfl rfl (vrf ((((show F19 0 16 = F 0 16 from (eF19 0 16)))).trans (pf7))) ?_
      refine Ew_of (pc' := 282) (fun _ => x_iconst rfl) ?_
      refine Ew_of (pc' := 283) (fun _ => x_dup2 rfl rfl rfl) ?_
      refine v_lI H (o := 7) rfl rfl rfl rfl (n := n7) (en7) (show 0 ≤ 1 ∧ 1 < n7 by have qh0 := HIDe r7; omega) (fun v30 ev30 qv30 => ?_)
      replace qv30 := HIDm qv30
      have ev30 : (upd1 (A 7) (0) ((adI (v9) (0)))) (1) = v30 := (congrFun (congrArg (fun q => upd1 q (0) ((adI (v9) (0)))) ((show A19 7 = A 7 from (eA19 7)))) (1)).symm.trans ev30
      have hv1 : ((A 7)) 1 = (v30) := by have h := ev30; first | exact h | (rw [upd1_o (by decide)] at h; exact h)
      refine Ew_of (pc' := 285) (fun _ => x_aload_n rfl (rk_o (hl0) rfl rfl)) ?_
      refine v_g H (o := 0) (v := .ref (D 2)) rfl rfl rfl rfl rfl (vrf ((((show F19 0 5 = F 0 5 from (eF19 0 5)))).trans (pf2))) ?_
      refine v_g H (o := 2) (v := I (u2_1)) rfl rfl rfl rfl rfl (congrArg (fun z : Int => I z) ((((show F19 2 1 = F 2 1 from (eF19 2 1))).trans (eu2_1)) : F19 2 1 = u2_1)) ?_
      refine Ew_of (pc' := 292) (fun _ => x_aload_n rfl (rk_o (hl0) rfl rfl)) ?_
      refine Ew_of (pc' := 293) (fun _ => x_iload_n rfl (rk_o (hl3) rfl rfl)) ?_
      refine Ew_of (pc' := 295) (fun _ => x_aload rfl (rk_o (hl4) rfl rfl)) ?_
      refine v_g H (o := 1) (v := I (u1_1)) rfl rfl rfl rfl rfl (congrArg (fun z : Int => I z) ((((show F19 1 1 = F 1 1 from (eF19 1 1).trans (hS19 1 1 rfl))).trans (eu1_1)) : F19 1 1 = u1_1)) ?_
      refine v_inv H (o := 0) rfl rfl rfl rfl rfl rfl (by rfl) (C34x (D := pul [0, 8] D) (N := pul [0, 8] N) (HW_sub H (VS_of (show vsub V17_vE3 V34 [0, 8] = true by decide +kernel))) ((((show F19 0 1 = F 0 1 from (eF19 0 1)))).trans (pf8)) (n8) (en8) (w8) (((show A19 8 = A 8 from (eA19 8))).trans (ew8)) (show inr (3) by omega) (show inr (u1_1) by have qh0 := HIDe r1; omega) (show 0 ≤ (u1_1) ∧ (u1_1) ≤ 16384 by have qh0 := HIDe r1; omega) (show 0 ≤ (3) ∧ (3) ≤ 5 by omega) (show 1 ≤ ((w8)) 2 ∧ ((w8)) 2 ≤ 65536 by omega) (show 0 ≤ ((w8)) 8 ∧ ((w8)) 8 ≤ 11 by omega) (show 0 ≤ ((w8)) 6 ∧ ((w8)) 6 ≤ 255 by omega) (show (n8) = 10 by have qh0 := HIDe r8; omega) (fun z31 σ31 F31' A31' H' O' hS31 hA31 pz31_0 pz31_1 => ⟨rfl, ?_⟩))
      refine v_back (c := c) (s := s) H (show vsub V17_vE3 V34 [0, 8] = true by decide +kernel) H' O' (fun F31 A31 H O' eF31 eA31 => ?_)
      have O := OUT_trans O O'
      -- PackHouse.boundOf
      have hbd := pz31_1
      clear pz31_1
      refine w_icmple (t := 308) rfl rfl (show inr (u2_1) by have qh0 := HIDe r2; omega) (show inr (z31) by omega) (fun b32 => ?_) (fun b32 => ?_)
      · refine Ew_of (pc' := 309) (fun _ => x_iconst rfl) ?_
        refine w_iaddE rfl ?_
        have g33 : inr (adI (v30) (0)) := toI_inr _
        have hs1 : HID (((adI (v30) (0))) = w32 (((A 7)) 1 + (if BNA ((w8)) 3 ((u1_1)) < (u2_1) then 1 else 0))) := by unfold HID; exact BYN hv1 (by decide) (by (have qg0 := HIDe qv30; have qg1 := HIDe r1; have qg2 := HIDe r2; omega)) hbd (by first | exact .inl ⟨by (have qg0 := HIDe qv30; have qg1 := HIDe r1; have qg2 := HIDe r2; omega), rfl⟩ | exact .inr ⟨by (have qg0 := HIDe qv30; have qg1 := HIDe r1; have qg2 := HIDe r2; omega), rfl⟩)
        clear hbd
        refine v_sI H (o := 7) (z := (adI (v30) (0))) rfl rfl rfl rfl (n := n7) (en7) (show 0 ≤ 1 ∧ 1 < n7 by have qh0 := HIDe r7; omega) (show inr ((adI (v30) (0))) by have qh0 := HIDe qv30; omega) (fun σ H O' => ?_)
        have O := OUT_trans O O'
        have : HID (STR (y0) ((u1_1)) (sc ((A 5)) 0 ((u4_1))) (sc ((A 6)) 0 ((u1_1))) (((A 7)) 0) (((upd1 (upd1 (A 7) (0) ((adI (v9) (0)))) (1) ((adI (v30) (0))))) 0)) := by rw [upd1_o (by decide), upd1_s]; exact hs0
        have : HID (((upd1 (upd1 (A 7) (0) ((adI (v9) (0)))) (1) ((adI (v30) (0))))) 1 = w32 (((A 7)) 1 + (if BNA ((w8)) 3 ((u1_1)) < (u2_1) then 1 else 0))) := by rw [upd1_s]; exact hs1
        refine Ew_of (pc' := 312) (fun _ => x_iload_n rfl (rk_o (hl3) rfl rfl)) ?_
        refine Ew_of (pc' := 313) (fun _ => x_iconst rfl) ?_
        refine w_icmpne (t := 337) rfl rfl (show inr (3) by omega) (show inr (4) by omega) (fun b34 => ?_) (fun b34 => ?_)
        · exact hc337  _ _ _ _  (rk_o (hl0) rfl rfl) (rk_o (hl1) rfl rfl) H O (SF_trans (SF_trans (SF_refl) (SF_glu (ι := [4, 1, 5, 6]) hS19 eF19 (by decide +kernel)) (any_sub (l' := []) rfl)) (SF_glu (ι := [0, 8]) hS31 eF31 (by decide +kernel)) (any_sub (l' := []) rfl)) (SA_upd (SA_trans (SA_upd (SA_trans (SA_refl) (SA_glu (ι := [4, 1, 5, 6]) hA19 eA19 (by decide +kernel)) (any_subA (l' := []) rfl)) rfl) (SA_glu (ι := [0, 8]) hA31 eA31 (by decide +kernel)) (any_subA (l' := []) rfl)) rfl)    (upd1 (upd1 (A 7) (0) ((adI (v9) (0)))) (1) ((adI (v30) (0)))) (congrArg (fun q => upd1 q (1) ((adI (v30) (0)))) (((show A31 7 = (updA A19 7 (0) ((adI (v9) (0)))) 7 from (eA31 7))).trans (congrArg (fun q => upd1 q (0) ((adI (v9) (0)))) ((show A19 7 = A 7 from (eA19 7)))))) (show 0 ≤ (u2_1) ∧ (u2_1) ≤ (n3) ∧ (n3) ≤ 65536 by have qh0 := HIDe r2; have qh1 := HIDe r4; omega) (by assumption) (by assumption)
        · exact absurd b34 (by omega)
      · refine Ew_of (pc' := 305) (fun _ => x_iconst rfl) ?_
        refine Ew_of (pc' := 309) (fun _ => x_goto rfl rfl) ?_
        refine w_iaddE rfl ?_
        have g35 : inr (adI (v30) (1)) := toI_inr _
        have hs1 : HID (((adI (v30) (1))) = w32 (((A 7)) 1 + (if BNA ((w8)) 3 ((u1_1)) < (u2_1) then 1 else 0))) := by unfold HID; exact BYN hv1 (by decide) (by (have qg0 := HIDe qv30; have qg1 := HIDe r1; have qg2 := HIDe r2; omega)) hbd (by first | exact .inl ⟨by (have qg0 := HIDe qv30; have qg1 := HIDe r1; have qg2 := HIDe r2; omega), rfl⟩ | exact .inr ⟨by (have qg0 := HIDe qv30; have qg1 := HIDe r1; have qg2 := HIDe r2; omega), rfl⟩)
        clear hbd
        refine v_sI H (o := 7) (z := (adI (v30) (1))) rfl rfl rfl rfl (n := n7) (en7) (show 0 ≤ 1 ∧ 1 < n7 by have qh0 := HIDe r7; omega) (show inr ((adI (v30) (1))) by have qh0 := HIDe qv30; omega) (fun σ H O' => ?_)
        have O := OUT_trans O O'
        have : HID (STR (y0) ((u1_1)) (sc ((A 5)) 0 ((u4_1))) (sc ((A 6)) 0 ((u1_1))) (((A 7)) 0) (((upd1 (upd1 (A 7) (0) ((adI (v9) (0)))) (1) ((adI (v30) (1))))) 0)) := by rw [upd1_o (by decide), upd1_s]; exact hs0
        have : HID (((upd1 (upd1 (A 7) (0) ((adI (v9) (0)))) (1) ((adI (v30) (1))))) 1 = w32 (((A 7)) 1 + (if BNA ((w8)) 3 ((u1_1)) < (u2_1) then 1 else 0))) := by rw [upd1_s]; exact hs1
        refine Ew_of (pc' := 312) (fun _ => x_iload_n rfl (rk_o (hl3) rfl rfl)) ?_
        refine Ew_of (pc' := 313) (fun _ => x_iconst rfl) ?_
        refine w_icmpne (t := 337) rfl rfl (show inr (3) by omega) (show inr (4) by omega) (fun b36 => ?_) (fun b36 => ?_)
        · exact hc337  _ _ _ _  (rk_o (hl0) rfl rfl) (rk_o (hl1) rfl rfl) H O (SF_trans (SF_trans (SF_refl) (SF_glu (ι := [4, 1, 5, 6]) hS19 eF19 (by decide +kernel)) (any_sub (l' := []) rfl)) (SF_glu (ι := [0, 8]) hS31 eF31 (by decide +kernel)) (any_sub (l' := []) rfl)) (SA_upd (SA_trans (SA_upd (SA_trans (SA_refl) (SA_glu (ι := [4, 1, 5, 6]) hA19 eA19 (by decide +kernel)) (any_subA (l' := []) rfl)) rfl) (SA_glu (ι := [0, 8]) hA31 eA31 (by decide +kernel)) (any_subA (l' := []) rfl)) rfl)    (upd1 (upd1 (A 7) (0) ((adI (v9) (0)))) (1) ((adI (v30) (1)))) (congrArg (fun q => upd1 q (1) ((adI (v30) (1)))) (((show A31 7 = (updA A19 7 (0) ((adI (v9) (0)))) 7 from (eA31 7))).trans (congrArg (fun q => upd1 q (0) ((adI (v9) (0)))) ((show A19 7 = A 7 from (eA19 7)))))) (show 0 ≤ (u2_1) ∧ (u2_1) ≤ (n3) ∧ (n3) ≤ 65536 by have qh0 := HIDe r2; have qh1 := HIDe r4; omega) (by assumption) (by assumption)
        · exact absurd b36 (by omega)
