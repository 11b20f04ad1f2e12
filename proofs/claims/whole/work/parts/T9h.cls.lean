abbrev V17_vE4 : vV := [(0, 0, [(4, 0), (4, 0), (4, 0), (4, 0), (4, 0), (4, 0), (4, 0), (4, 0), (4, 0), (4, 0), (4, 0), (4, 0), (4, 0), (4, 0), (4, 0), (4, 0), (4, 0), (0, 0), (0, 0)]), (0, 7, [(4, 0), (0, 0), (1, 0), (0, 0), (0, 0)]), (0, 7, [(4, 0), (0, 0), (1, 0), (0, 0), (0, 0)]), (1, 0, []), (0, 7, [(4, 0), (0, 0), (1, 0), (0, 0), (0, 0)]), (1, 0, []), (1, 0, []), (1, 1, []), (1, 1, []), (1, 1, []), (0, 6, [(4, 0), (4, 0), (4, 0), (4, 0), (4, 0), (4, 0), (4, 0), (4, 0), (4, 0), (4, 0), (4, 0), (4, 0), (4, 0), (4, 0), (4, 0), (0, 0), (0, 0), (4, 0), (4, 0)]), (1, 1, [])]
/-- PackHouse.write: this, @F, this.written, this.written.bytes, this.content, this.content.bytes, @F.bytes, this.strays, this.settings, this.packCounts, this.packer, this.packer.counts -/
theorem C17_vE4 {σE : rS} {D N : Nat → Nat} {F : hF} {A : hA} {d c s : Nat} {Q : wQ} (H : HW V17_vE4 σE D N F A) {x1 y0 : Int} (pf2 : F 0 5 = (D 2 : Int)) (pf3 : F 2 0 = (D 3 : Int)) (pf4 : F 0 6 = (D 4 : Int)) (pf5 : F 4 0 = (D 5 : Int)) (pf6 : F 1 0 = (D 6 : Int)) (pf7 : F 0 16 = (D 7 : Int)) (pf8 : F 0 1 = (D 8 : Int)) (pf9 : F 0 13 = (D 9 : Int)) (pf10 : F 0 11 = (D 10 : Int)) (pf11 : F 10 18 = (D 11 : Int)) (n3 : Int) (en3 : (N 3 : Int) = n3) (n5 : Int) (en5 : (N 5 : Int) = n5) (n6 : Int) (en6 : (N 6 : Int) = n6) (n7 : Int) (en7 : (N 7 : Int) = n7) (n8 : Int) (en8 : (N 8 : Int) = n8) (n9 : Int) (en9 : (N 9 : Int) = n9) (n11 : Int) (en11 : (N 11 : Int) = n11) (u1_1 : Int) (eu1_1 : F 1 1 = u1_1) (u2_1 : Int) (eu2_1 : F 2 1 = u2_1) (u4_1 : Int) (eu4_1 : F 4 1 = u4_1) (w8 : Int → Int) (ew8 : A 8 = w8) {ls : rO} (hl0 : rlook ls 0 = some (.ref (D 0))) (hl1 : rlook ls 1 = some (I (x1))) (hl3 : rlook ls 3 = some (I (4))) (hl4 : rlook ls 4 = some (.ref (D 1))) (h0 : inr (x1)) (h1 : inr y0) (h2 : 0 ≤ (u2_1) ∧ (u2_1) ≤ (n3) ∧ (n3) ≤ 65536) (h3 : 0 ≤ (u4_1) ∧ (u4_1) ≤ (n5) ∧ (n5) ≤ 65536) (h4 : 0 ≤ (u1_1) ∧ (u1_1) ≤ (n6) ∧ (n6) ≤ 65536) (h5 : (u1_1) ≤ 16384) (h6 : (n7) = 2) (h7 : 1 ≤ ((w8)) 2 ∧ ((w8)) 2 ≤ 65536) (h8 : 0 ≤ ((w8)) 8 ∧ ((w8)) 8 ≤ 11) (h9 : 0 ≤ ((w8)) 6 ∧ ((w8)) 6 ≤ 255) (h10 : (n8) = 10) (h11 : (n9) = 13) (h12 : (n11) = 13) (hc337 : ∀ (ls : rO) (σ : rS) (F_c337 : hF) (A_c337 : hA) , rlook ls 0 = some (.ref (D 0)) → rlook ls 1 = some (I (x1)) → HW V17_vE4 σ D N F_c337 A_c337 → OUT (V17_vE4).length D N σE c s D N σ c s → SF [] F F_c337 → SA [7, 9] A A_c337 → ∀ wc337_7 : Int → Int, A_c337 7 = wc337_7 → ∀ wc337_9 : Int → Int, A_c337 9 = wc337_9 → (0 ≤ (u2_1) ∧ (u2_1) ≤ (n3) ∧ (n3) ≤ 65536) → (HID (STR (y0) ((u1_1)) (sc ((A 5)) 0 ((u4_1))) (sc ((A 6)) 0 ((u1_1))) (((A 7)) 0) (((wc337_7)) 0))) → (HID (((wc337_7)) 1 = w32 (((A 7)) 1 + (if BNA ((w8)) 4 ((u1_1)) < (u2_1) then 1 else 0)))) → (∀ i, 0 ≤ i → i < 0 + (n9) → ((wc337_9)) i = ((A 11)) (0 + (i - 0))) → Ew 17 (d + 3) 337 ls [] σ c s Q) (k : ∀ (z : Int) (σ : rS) (F' : hF) (A' : hA), HW V17_vE4 σ D N F' A' → OUT (V17_vE4).length D N σE c s D N σ c s → SF [] F F' → SA [7, 9] A A' → (inr (z)) → ((0 : Int) = 1) → Q (some (I z)) σ c s) : Ew 17 (d + 3) 239 ls [I (y0)] σE c s Q := by
  have O := OUT_refl (n := (V17_vE4).length) (D := D) (N := N) (σ := σE) (c := c) (s := s)
  have HE := H
  have r1 : HID ((-2147483648 : Int) ≤ u1_1 ∧ u1_1 ≤ 2147483647) := krg_e (show (-2147483648 : Int) ≤ F 1 1 ∧ F 1 1 ≤ 2147483647 from H.krg 1 1 (by decide)) (show F 1 1 = u1_1 from (eu1_1))
  have r2 : HID ((-2147483648 : Int) ≤ u2_1 ∧ u2_1 ≤ 2147483647) := krg_e (show (-2147483648 : Int) ≤ F 2 1 ∧ F 2 1 ≤ 2147483647 from H.krg 2 1 (by decide)) (show F 2 1 = u2_1 from (eu2_1))
  have r3 : HID ((-2147483648 : Int) ≤ u4_1 ∧ u4_1 ≤ 2147483647) := krg_e (show (-2147483648 : Int) ≤ F 4 1 ∧ F 4 1 ≤ 2147483647 from H.krg 4 1 (by decide)) (show F 4 1 = u4_1 from (eu4_1))
  replace pf2 := HIDm pf2
  replace pf3 := HIDm pf3
  replace pf4 := HIDm pf4
  replace pf5 := HIDm pf5
  replace pf6 := HIDm pf6
  replace pf7 := HIDm pf7
  replace pf8 := HIDm pf8
  replace pf9 := HIDm pf9
  replace pf10 := HIDm pf10
  replace pf11 := HIDm pf11
  replace en3 := HIDm en3
  replace en5 := HIDm en5
  replace en6 := HIDm en6
  replace en7 := HIDm en7
  replace en8 := HIDm en8
  replace en9 := HIDm en9
  replace en11 := HIDm en11
  replace eu1_1 := HIDm eu1_1
  replace eu2_1 := HIDm eu2_1
  replace eu4_1 := HIDm eu4_1
  have r4 : HID ((0 : Int) ≤ n3 ∧ n3 ≤ 1000000) := nrng (H.nle 3 (by decide)) (show (N 3 : Int) = n3 from en3)
  have r5 : HID ((0 : Int) ≤ n5 ∧ n5 ≤ 1000000) := nrng (H.nle 5 (by decide)) (show (N 5 : Int) = n5 from en5)
  have r6 : HID ((0 : Int) ≤ n6 ∧ n6 ≤ 1000000) := nrng (H.nle 6 (by decide)) (show (N 6 : Int) = n6 from en6)
  have r7 : HID ((0 : Int) ≤ n7 ∧ n7 ≤ 1000000) := nrng (H.nle 7 (by decide)) (show (N 7 : Int) = n7 from en7)
  have r8 : HID ((0 : Int) ≤ n8 ∧ n8 ≤ 1000000) := nrng (H.nle 8 (by decide)) (show (N 8 : Int) = n8 from en8)
  have r9 : HID ((0 : Int) ≤ n9 ∧ n9 ≤ 1000000) := nrng (H.nle 9 (by decide)) (show (N 9 : Int) = n9 from en9)
  have r10 : HID ((0 : Int) ≤ n11 ∧ n11 ≤ 1000000) := nrng (H.nle 11 (by decide)) (show (N 11 : Int) = n11 from en11)
  refine Ew_of (pc' := 241) (fun _ => x_istore rfl) ?_
  refine Ew_of (pc' := 242) (fun _ => x_aload_n rfl (rk_o (hl0) rfl rfl)) ?_
  refine v_g H (o := 0) (v := .ref (D 7)) rfl rfl rfl rfl rfl (vrf (pf7)) ?_
  refine Ew_of (pc' := 246) (fun _ => x_iconst rfl) ?_
  refine Ew_of (pc' := 247) (fun _ => x_dup2 rfl rfl rfl) ?_
  refine v_lI H (o := 7) rfl rfl rfl rfl (n := n7) (en7) (show 0 ≤ 0 ∧ 0 < n7 by have qh0 := HIDe r7; omega) (fun v11 ev11 qv11 => ?_)
  replace qv11 := HIDm qv11
  have ev11 : (A 7) (0) = v11 := (congrFun (rfl : A 7 = A 7) (0)).symm.trans ev11
  have hv0 := ev11
  refine Ew_of (pc' := 250) (fun _ => x_iload rfl rk_s) ?_
  refine Ew_of (pc' := 252) (fun _ => x_aload rfl (rk_o (hl4) rfl rfl)) ?_
  refine v_g H (o := 1) (v := I (u1_1)) rfl rfl rfl rfl rfl (congrArg (fun z : Int => I z) ((eu1_1) : F 1 1 = u1_1)) ?_
  refine w_icmpne (t := 274) rfl rfl (show inr (y0) by omega) (show inr (u1_1) by have qh0 := HIDe r1; omega) (fun b12 => ?_) (fun b12 => ?_)
  · refine Ew_of (pc' := 275) (fun _ => x_iconst rfl) ?_
    refine w_iaddE rfl ?_
    have g13 : inr (adI (v11) (1)) := toI_inr _
    have hs0 : HID (STR (y0) ((u1_1)) (sc ((A 5)) 0 ((u4_1))) (sc ((A 6)) 0 ((u1_1))) (((A 7)) 0) (((adI (v11) (1))))) := by unfold HID; first | exact STR_n hv0 (by (have qg0 := HIDe qv11; have qg1 := HIDe r1; have qg2 := HIDe r3; omega)) | exact STR_u hv0 pNONE_1 (by (have qg0 := HIDe qv11; have qg1 := HIDe r1; have qg2 := HIDe r3; omega)) | exact STR_y hv0 (by (have qg0 := HIDe qv11; have qg1 := HIDe r1; have qg2 := HIDe r3; omega)) pNONE_1 (by (have qg0 := HIDe qv11; have qg1 := HIDe r1; have qg2 := HIDe r3; omega))
    refine v_sI H (o := 7) (z := (adI (v11) (1))) rfl rfl rfl rfl (n := n7) (en7) (show 0 ≤ 0 ∧ 0 < n7 by have qh0 := HIDe r7; omega) (show inr ((adI (v11) (1))) by have qh0 := HIDe qv11; omega) (fun σ H O' => ?_)
    have O := OUT_trans O O'
    refine Ew_of (pc' := 278) (fun _ => x_aload_n rfl (rk_o (hl0) rfl rfl)) ?_
    refine v_g H (o := 0) (v := .ref (D 7)) rfl rfl rfl rfl rfl (vrf (pf7)) ?_
    refine Ew_of (pc' := 282) (fun _ => x_iconst rfl) ?_
    refine Ew_of (pc' := 283) (fun _ => x_dup2 rfl rfl rfl) ?_
    refine v_lI H (o := 7) rfl rfl rfl rfl (n := n7) (en7) (show 0 ≤ 1 ∧ 1 < n7 by have qh0 := HIDe r7; omega) (fun v14 ev14 qv14 => ?_)
    replace qv14 := HIDm qv14
    have ev14 : (upd1 (A 7) (0) ((adI (v11) (1)))) (1) = v14 := (congrFun (rfl : (updA A 7 (0) ((adI (v11) (1)))) 7 = upd1 (A 7) (0) ((adI (v11) (1)))) (1)).symm.trans ev14
    have hv1 : ((A 7)) 1 = (v14) := by have h := ev14; first | exact h | (rw [upd1_o (by decide)] at h; exact h)
    refine Ew_of (pc' := 285) (fun _ => x_aload_n rfl (rk_o (hl0) rfl rfl)) ?_
    refine v_g H (o := 0) (v := .ref (D 2)) rfl rfl rfl rfl rfl (vrf (pf2)) ?_
    refine v_g H (o := 2) (v := I (u2_1)) rfl rfl rfl rfl rfl (congrArg (fun z : Int => I z) ((eu2_1) : F 2 1 = u2_1)) ?_
    refine Ew_of (pc' := 292) (fun _ => x_aload_n rfl (rk_o (hl0) rfl rfl)) ?_
    refine Ew_of (pc' := 293) (fun _ => x_iload_n rfl (rk_o (hl3) rfl rfl)) ?_
    refine Ew_of (pc' := 295) (fun _ => x_aload rfl (rk_o (hl4) rfl rfl)) ?_
    refine v_g H (o := 1) (v := I (u1_1)) rfl rfl rfl rfl rfl (congrArg (fun z : Int => I z) ((eu1_1) : F 1 1 = u1_1)) ?_
    refine v_inv H (o := 0) rfl rfl rfl rfl rfl rfl (by rfl) (C34x (D := pul [0, 8] D) (N := pul [0, 8] N) (HW_sub H (VS_of (show vsub V17_vE4 V34 [0, 8] = true by decide +kernel))) (pf8) (n8) (en8) (w8) (ew8) (show inr (4) by omega) (show inr (u1_1) by have qh0 := HIDe r1; omega) (show 0 ≤ (u1_1) ∧ (u1_1) ≤ 16384 by have qh0 := HIDe r1; omega) (show 0 ≤ (4) ∧ (4) ≤ 5 by omega) (show 1 ≤ ((w8)) 2 ∧ ((w8)) 2 ≤ 65536 by omega) (show 0 ≤ ((w8)) 8 ∧ ((w8)) 8 ≤ 11 by omega) (show 0 ≤ ((w8)) 6 ∧ ((w8)) 6 ≤ 255 by omega) (show (n8) = 10 by have qh0 := HIDe r8; omega) (fun z15 σ15 F15' A15' H' O' hS15 hA15 pz15_0 pz15_1 => ⟨rfl, ?_⟩))
    refine v_back (c := c) (s := s) H (show vsub V17_vE4 V34 [0, 8] = true by decide +kernel) H' O' (fun F15 A15 H O' eF15 eA15 => ?_)
    have O := OUT_trans O O'
    -- PackHouse.boundOf
    have hbd := pz15_1
    clear pz15_1
    refine w_icmple (t := 308) rfl rfl (show inr (u2_1) by have qh0 := HIDe r2; omega) (show inr (z15) by omega) (fun b16 => ?_) (fun b16 => ?_)
    · refine Ew_of (pc' := 309) (fun _ => x_iconst rfl) ?_
      refine w_iaddE rfl ?_
      have g17 : inr (adI (v14) (0)) := toI_inr _
      have hs1 : HID (((adI (v14) (0))) = w32 (((A 7)) 1 + (if BNA ((w8)) 4 ((u1_1)) < (u2_1) then 1 else 0))) := by unfold HID; exact BYN hv1 (by decide) (by (have qg0 := HIDe qv14; have qg1 := HIDe r1; have qg2 := HIDe r2; omega)) hbd (by first | exact .inl ⟨by (have qg0 := HIDe qv14; have qg1 := HIDe r1; have qg2 := HIDe r2; omega), rfl⟩ | exact .inr ⟨by (have qg0 := HIDe qv14; have qg1 := HIDe r1; have qg2 := HIDe r2; omega), rfl⟩)
      clear hbd
      refine v_sI H (o := 7) (z := (adI (v14) (0))) rfl rfl rfl rfl (n := n7) (en7) (show 0 ≤ 1 ∧ 1 < n7 by have qh0 := HIDe r7; omega) (show inr ((adI (v14) (0))) by have qh0 := HIDe qv14; omega) (fun σ H O' => ?_)
      have O := OUT_trans O O'
      have : HID (STR (y0) ((u1_1)) (sc ((A 5)) 0 ((u4_1))) (sc ((A 6)) 0 ((u1_1))) (((A 7)) 0) (((upd1 (upd1 (A 7) (0) ((adI (v11) (1)))) (1) ((adI (v14) (0))))) 0)) := by rw [upd1_o (by decide), upd1_s]; exact hs0
      have : HID (((upd1 (upd1 (A 7) (0) ((adI (v11) (1)))) (1) ((adI (v14) (0))))) 1 = w32 (((A 7)) 1 + (if BNA ((w8)) 4 ((u1_1)) < (u2_1) then 1 else 0))) := by rw [upd1_s]; exact hs1
      refine Ew_of (pc' := 312) (fun _ => x_iload_n rfl (rk_o (hl3) rfl rfl)) ?_
      refine Ew_of (pc' := 313) (fun _ => x_iconst rfl) ?_
      refine w_icmpne (t := 337) rfl rfl (show inr (4) by omega) (show inr (4) by omega) (fun b18 => ?_) (fun b18 => ?_)
      · exact absurd b18 (by omega)
      · refine Ew_of (pc' := 317) (fun _ => x_aload_n rfl (rk_o (hl0) rfl rfl)) ?_
        refine v_g H (o := 0) (v := .ref (D 10)) rfl rfl rfl rfl rfl (vrf ((((show F15 0 11 = F 0 11 from (eF15 0 11).trans (hS15 0 11 rfl)))).trans (pf10))) ?_
        refine v_g H (o := 10) (v := .ref (D 11)) rfl rfl rfl rfl rfl (vrf ((((show F15 10 18 = F 10 18 from (eF15 10 18)))).trans (pf11))) ?_
        refine Ew_of (pc' := 324) (fun _ => x_iconst rfl) ?_
        refine Ew_of (pc' := 325) (fun _ => x_aload_n rfl (rk_o (hl0) rfl rfl)) ?_
        refine v_g H (o := 0) (v := .ref (D 9)) rfl rfl rfl rfl rfl (vrf ((((show F15 0 13 = F 0 13 from (eF15 0 13).trans (hS15 0 13 rfl)))).trans (pf9))) ?_
        refine Ew_of (pc' := 329) (fun _ => x_iconst rfl) ?_
        refine Ew_of (pc' := 330) (fun _ => x_aload_n rfl (rk_o (hl0) rfl rfl)) ?_
        refine v_g H (o := 0) (v := .ref (D 9)) rfl rfl rfl rfl rfl (vrf ((((show F15 0 13 = F 0 13 from (eF15 0 13).trans (hS15 0 13 rfl)))).trans (pf9))) ?_
        refine v_len H (o := 9) rfl rfl rfl rfl (n := n9) (en9) ?_
        refine v_cpy H (t := 9) (t0 := 11) rfl rfl rfl rfl rfl rfl rfl rfl (n := n9) (en9) (n0 := n11) (en11) (show 0 ≤ n9 ∧ 0 ≤ 0 ∧ 0 ≤ 0 ∧ 0 + n9 ≤ n11 ∧ 0 + n9 ≤ n9 by have qh0 := HIDe r10; have qh1 := HIDe r9; omega) (fun σ A19 H O' hA19 ga19 gb19 => ?_)
        have gb19 : ∀ i, i < 0 ∨ 0 + n9 ≤ i → A19 9 i = (A 9) i := fun i a => (gb19 i a).trans (congrFun ((show A15 9 = (updA A 7 (0) ((adI (v11) (1)))) 9 from (eA15 9))) i)
        have ga19 : ∀ i, 0 ≤ i → i < 0 + n9 → A19 9 i = (A 11) (0 + (i - 0)) := fun i a b => (ga19 i a b).trans (congrFun ((show A15 11 = (updA A 7 (0) ((adI (v11) (1)))) 11 from (eA15 11))) _)
        have O := OUT_trans O O'
        exact hc337  _ _ _ _  (rk_o (hl0) rfl rfl) (rk_o (hl1) rfl rfl) H O (SF_trans (SF_refl) (SF_glu (ι := [0, 8]) hS15 eF15 (by decide +kernel)) (any_sub (l' := []) rfl)) (SA_trans (SA_upd (SA_trans (SA_upd (SA_refl) rfl) (SA_glu (ι := [0, 8]) hA15 eA15 (by decide +kernel)) (any_subA (l' := []) rfl)) rfl) hA19 (any_subA rfl))    (upd1 (upd1 (A 7) (0) ((adI (v11) (1)))) (1) ((adI (v14) (0)))) ((funext (hA19 7 rfl)).trans (congrArg (fun q => upd1 q (1) ((adI (v14) (0)))) ((show A15 7 = (updA A 7 (0) ((adI (v11) (1)))) 7 from (eA15 7))))) (A19 9) (rfl) (show 0 ≤ (u2_1) ∧ (u2_1) ≤ (n3) ∧ (n3) ≤ 65536 by have qh0 := HIDe r2; have qh1 := HIDe r4; omega) (by assumption) (by assumption) (by assumption)
    · refine Ew_of (pc' := 305) (fun _ => x_iconst rfl) ?_
      refine Ew_of (pc' := 309) (fun _ => x_goto rfl rfl) ?_
      refine w_iaddE rfl ?_
      have g20 : inr (adI (v14) (1)) := toI_inr _
      have hs1 : HID (((adI (v14) (1))) = w32 (((A 7)) 1 + (if BNA ((w8)) 4 ((u1_1)) < (u2_1) then 1 else 0))) := by unfold HID; exact BYN hv1 (by decide) (by (have qg0 := HIDe qv14; have qg1 := HIDe r1; have qg2 := HIDe r2; omega)) hbd (by first | exact .inl ⟨by (have qg0 := HIDe qv14; have qg1 := HIDe r1; have qg2 := HIDe r2; omega), rfl⟩ | exact .inr ⟨by (have qg0 := HIDe qv14; have qg1 := HIDe r1; have qg2 := HIDe r2; omega), rfl⟩)
      clear hbd
      refine v_sI H (o := 7) (z := (adI (v14) (1))) rfl rfl rfl rfl (n := n7) (en7) (show 0 ≤ 1 ∧ 1 < n7 by have qh0 := HIDe r7; omega) (show inr ((adI (v14) (1))) by have qh0 := HIDe qv14; omega) (fun σ H O' => ?_)
      have O := OUT_trans O O'
      have : HID (STR (y0) ((u1_1)) (sc ((A 5)) 0 ((u4_1))) (sc ((A 6)) 0 ((u1_1))) (((A 7)) 0) (((upd1 (upd1 (A 7) (0) ((adI (v11) (1)))) (1) ((adI (v14) (1))))) 0)) := by rw [upd1_o (by decide), upd1_s]; exact hs0
      have : HID (((upd1 (upd1 (A 7) (0) ((adI (v11) (1)))) (1) ((adI (v14) (1))))) 1 = w32 (((A 7)) 1 + (if BNA ((w8)) 4 ((u1_1)) < (u2_1) then 1 else 0))) := by rw [upd1_s]; exact hs1
      refine Ew_of (pc' := 312) (fun _ => x_iload_n rfl (rk_o (hl3) rfl rfl)) ?_
      refine Ew_of (pc' := 313) (fun _ => x_iconst rfl) ?_
      refine w_icmpne (t := 337) rfl rfl (show inr (4) by omega) (show inr (4) by omega) (fun b21 => ?_) (fun b21 => ?_)
      · exact absurd b21 (by omega)
      · refine Ew_of (pc' := 317) (fun _ => x_aload_n rfl (rk_o (hl0) rfl rfl)) ?_
        refine v_g H (o := 0) (v := .ref (D 10)) rfl rfl rfl rfl rfl (vrf ((((show F15 0 11 = F 0 11 from (eF15 0 11).trans (hS15 0 11 rfl)))).trans (pf10))) ?_
        refine v_g H (o := 10) (v := .ref (D 11)) rfl rfl rfl rfl rfl (vrf ((((show F15 10 18 = F 10 18 from (eF15 10 18)))).trans (pf11))) ?_
        refine Ew_of (pc' := 324) (fun _ => x_iconst rfl) ?_
        refine Ew_of (pc' := 325) (fun _ => x_aload_n rfl (rk_o (hl0) rfl rfl)) ?_
        refine v_g H (o := 0) (v := .ref (D 9)) rfl rfl rfl rfl rfl (vrf ((((show F15 0 13 = F 0 13 from (eF15 0 13).trans (hS15 0 13 rfl)))).trans (pf9))) ?_
        refine Ew_of (pc' := 329) (fun _ => x_iconst rfl) ?_
        refine Ew_of (pc' := 330) (fun _ => x_aload_n rfl (rk_o (hl0) rfl rfl)) ?_
        refine v_g H (o := 0) (v := .ref (D 9)) rfl rfl rfl rfl rfl (vrf ((((show F15 0 13 = F 0 13 from (eF15 0 13).trans (hS15 0 13 rfl)))).trans (pf9))) ?_
        refine v_len H (o := 9) rfl rfl rfl rfl (n := n9) (en9) ?_
        refine v_cpy H (t := 9) (t0 := 11) rfl rfl rfl rfl rfl rfl rfl rfl (n := n9) (en9) (n0 := n11) (en11) (show 0 ≤ n9 ∧ 0 ≤ 0 ∧ 0 ≤ 0 ∧ 0 + n9 ≤ n11 ∧ 0 + n9 ≤ n9 by have qh0 := HIDe r10; have qh1 := HIDe r9; omega) (fun σ A22 H O' hA22 ga22 gb22 => ?_)
        have gb22 : ∀ i, i < 0 ∨ 0 + n9 ≤ i → A22 9 i = (A 9) i := fun i a => (gb22 i a).trans (congrFun ((show A15 9 = (updA A 7 (0) ((adI (v11) (1)))) 9 from (eA15 9))) i)
        have ga22 : ∀ i, 0 ≤ i → i < 0 + n9 → A22 9 i = (A 11) (0 + (i - 0)) := fun i a b => (ga22 i a b).trans (congrFun ((show A15 11 = (updA A 7 (0) ((adI (v11) (1)))) 11 from (eA15 11))) _)
        have O := OUT_trans O O'
        exact hc337  _ _ _ _  (rk_o (hl0) rfl rfl) (rk_o (hl1) rfl rfl) H O (SF_trans (SF_refl) (SF_glu (ι := [0, 8]) hS15 eF15 (by decide +kernel)) (any_sub (l' := []) rfl)) (SA_trans (SA_upd (SA_trans (SA_upd (SA_refl) rfl) (SA_glu (ι := [0, 8]) hA15 eA15 (by decide +kernel)) (any_subA (l' := []) rfl)) rfl) hA22 (any_subA rfl))    (upd1 (upd1 (A 7) (0) ((adI (v11) (1)))) (1) ((adI (v14) (1)))) ((funext (hA22 7 rfl)).trans (congrArg (fun q => upd1 q (1) ((adI (v14) (1)))) ((show A15 7 = (updA A 7 (0) ((adI (v11) (1)))) 7 from (eA15 7))))) (A22 9) (rfl) (show 0 ≤ (u2_1) ∧ (u2_1) ≤ (n3) ∧ (n3) ≤ 65536 by have qh0 := HIDe r2; have qh1 := HIDe r4; omega) (by assumption) (by assumption) (by assumption)
  · refine Ew_of (pc' := 259) (fun _ => x_aload_n rfl (rk_o (hl0) rfl rfl)) ?_
    refine v_g H (o := 0) (v := .ref (D 4)) rfl rfl rfl rfl rfl (vrf (pf4)) ?_
    refine Ew_of (pc' := 264) (fun _ => x_aload rfl (rk_o (hl4) rfl rfl)) ?_
    refine w_stat24 rfl rfl (by rfl) (C29_Row_Rowp (D := pul [4, 1, 5, 6] D) (N := pul [4, 1, 5, 6] N) (HW_sub H (VS_of (show vsub V17_vE4 V29_Row_Row [4, 1, 5, 6] = true by decide +kernel))) (pf5) (pf6) (n5) (en5) (n6) (en6) (u4_1) ((eu4_1)) (u1_1) ((eu1_1)) (A 5) (rfl) (A 6) (rfl) (show 0 ≤ (u4_1) ∧ (u4_1) ≤ (n5) ∧ (n5) ≤ 65536 by have qh0 := HIDe r3; have qh1 := HIDe r5; omega) (show 0 ≤ (u1_1) ∧ (u1_1) ≤ (n6) ∧ (n6) ≤ 65536 by have qh0 := HIDe r1; have qh1 := HIDe r6; omega) (fun z23 σ23 F23' A23' H' O' hS23 hA23 pz23_0 pz23_1 => ⟨rfl, ?_⟩))
    refine v_back (c := c) (s := s) H (show vsub V17_vE4 V29_Row_Row [4, 1, 5, 6] = true by decide +kernel) H' O' (fun F23 A23 H O' eF23 eA23 => ?_)
    have O := OUT_trans O O'
    -- PackHouse.firstUnlike
    refine w_ifge (t := 274) rfl rfl (show inr (z23) by omega) (fun b24 => ?_) (fun b24 => ?_)
    · refine Ew_of (pc' := 275) (fun _ => x_iconst rfl) ?_
      refine w_iaddE rfl ?_
      have g25 : inr (adI (v11) (1)) := toI_inr _
      have hs0 : HID (STR (y0) ((u1_1)) (sc ((A 5)) 0 ((u4_1))) (sc ((A 6)) 0 ((u1_1))) (((A 7)) 0) (((adI (v11) (1))))) := by unfold HID; first | exact STR_n hv0 (by (have qg0 := HIDe qv11; have qg1 := HIDe r1; have qg2 := HIDe r3; omega)) | exact STR_u hv0 pz23_1 (by (have qg0 := HIDe qv11; have qg1 := HIDe r1; have qg2 := HIDe r3; omega)) | exact STR_y hv0 (by (have qg0 := HIDe qv11; have qg1 := HIDe r1; have qg2 := HIDe r3; omega)) pz23_1 (by (have qg0 := HIDe qv11; have qg1 := HIDe r1; have qg2 := HIDe r3; omega))
      refine v_sI H (o := 7) (z := (adI (v11) (1))) rfl rfl rfl rfl (n := n7) (en7) (show 0 ≤ 0 ∧ 0 < n7 by have qh0 := HIDe r7; omega) (show inr ((adI (v11) (1))) by have qh0 := HIDe qv11; omega) (fun σ H O' => ?_)
      have O := OUT_trans O O'
      refine Ew_of (pc' := 278) (fun _ => x_aload_n rfl (rk_o (hl0) rfl rfl)) ?_
      refine v_g H (o := 0) (v := .ref (D 7)) rfl rfl rfl rfl rfl (vrf ((((show F23 0 16 = F 0 16 from (eF23 0 16)))).trans (pf7))) ?_
      refine Ew_of (pc' := 282) (fun _ => x_iconst rfl) ?_
      refine Ew_of (pc' := 283) (fun _ => x_dup2 rfl rfl rfl) ?_
      refine v_lI H (o := 7) rfl rfl rfl rfl (n := n7) (en7) (show 0 ≤ 1 ∧ 1 < n7 by have qh0 := HIDe r7; omega) (fun v26 ev26 qv26 => ?_)
      replace qv26 := HIDm qv26
      have ev26 : (upd1 (A 7) (0) ((adI (v11) (1)))) (1) = v26 := (congrFun (congrArg (fun q => upd1 q (0) ((adI (v11) (1)))) ((show A23 7 = A 7 from (eA23 7)))) (1)).symm.trans ev26
      have hv1 : ((A 7)) 1 = (v26) := by have h := ev26; first | exact h | (rw [upd1_o (by decide)] at h; exact h)
      refine Ew_of (pc' := 285) (fun _ => x_aload_n rfl (rk_o (hl0) rfl rfl)) ?_
      refine v_g H (o := 0) (v := .ref (D 2)) rfl rfl rfl rfl rfl (vrf ((((show F23 0 5 = F 0 5 from (eF23 0 5)))).trans (pf2))) ?_
      refine v_g H (o := 2) (v := I (u2_1)) rfl rfl rfl rfl rfl (congrArg (fun z : Int => I z) ((((show F23 2 1 = F 2 1 from (eF23 2 1))).trans (eu2_1)) : F23 2 1 = u2_1)) ?_
      refine Ew_of (pc' := 292) (fun _ => x_aload_n rfl (rk_o (hl0) rfl rfl)) ?_
      refine Ew_of (pc' := 293) (fun _ => x_iload_n rfl (rk_o (hl3) rfl rfl)) ?_
      refine Ew_of (pc' := 295) (fun _ => x_aload rfl (rk_o (hl4) rfl rfl)) ?_
      refine v_g H (o := 1) (v := I (u1_1)) rfl rfl rfl rfl rfl (congrArg (fun z : Int => I z) ((((show F23 1 1 = F 1 1 from (eF23 1 1).trans (hS23 1 1 rfl))).trans (eu1_1)) : F23 1 1 = u1_1)) ?_
      refine v_inv H (o := 0) rfl rfl rfl rfl rfl rfl (by rfl) (C34x (D := pul [0, 8] D) (N := pul [0, 8] N) (HW_sub H (VS_of (show vsub V17_vE4 V34 [0, 8] = true by decide +kernel))) ((((show F23 0 1 = F 0 1 from (eF23 0 1)))).trans (pf8)) (n8) (en8) (w8) (((show A23 8 = A 8 from (eA23 8))).trans (ew8)) (show inr (4) by omega) (show inr (u1_1) by have qh0 := HIDe r1; omega) (show 0 ≤ (u1_1) ∧ (u1_1) ≤ 16384 by have qh0 := HIDe r1; omega) (show 0 ≤ (4) ∧ (4) ≤ 5 by omega) (show 1 ≤ ((w8)) 2 ∧ ((w8)) 2 ≤ 65536 by omega) (show 0 ≤ ((w8)) 8 ∧ ((w8)) 8 ≤ 11 by omega) (show 0 ≤ ((w8)) 6 ∧ ((w8)) 6 ≤ 255 by omega) (show (n8) = 10 by have qh0 := HIDe r8; omega) (fun z27 σ27 F27' A27' H' O' hS27 hA27 pz27_0 pz27_1 => ⟨rfl, ?_⟩))
      refine v_back (c := c) (s := s) H (show vsub V17_vE4 V34 [0, 8] = true by decide +kernel) H' O' (fun F27 A27 H O' eF27 eA27 => ?_)
      have O := OUT_trans O O'
      -- PackHouse.boundOf
      have hbd := pz27_1
      clear pz27_1
      refine w_icmple (t := 308) rfl rfl (show inr (u2_1) by have qh0 := HIDe r2; omega) (show inr (z27) by omega) (fun b28 => ?_) (fun b28 => ?_)
      · refine Ew_of (pc' := 309) (fun _ => x_iconst rfl) ?_
        refine w_iaddE rfl ?_
        have g29 : inr (adI (v26) (0)) := toI_inr _
        have hs1 : HID (((adI (v26) (0))) = w32 (((A 7)) 1 + (if BNA ((w8)) 4 ((u1_1)) < (u2_1) then 1 else 0))) := by unfold HID; exact BYN hv1 (by decide) (by (have qg0 := HIDe qv26; have qg1 := HIDe r1; have qg2 := HIDe r2; omega)) hbd (by first | exact .inl ⟨by (have qg0 := HIDe qv26; have qg1 := HIDe r1; have qg2 := HIDe r2; omega), rfl⟩ | exact .inr ⟨by (have qg0 := HIDe qv26; have qg1 := HIDe r1; have qg2 := HIDe r2; omega), rfl⟩)
        clear hbd
        refine v_sI H (o := 7) (z := (adI (v26) (0))) rfl rfl rfl rfl (n := n7) (en7) (show 0 ≤ 1 ∧ 1 < n7 by have qh0 := HIDe r7; omega) (show inr ((adI (v26) (0))) by have qh0 := HIDe qv26; omega) (fun σ H O' => ?_)
        have O := OUT_trans O O'
        have : HID (STR (y0) ((u1_1)) (sc ((A 5)) 0 ((u4_1))) (sc ((A 6)) 0 ((u1_1))) (((A 7)) 0) (((upd1 (upd1 (A 7) (0) ((adI (v11) (1)))) (1) ((adI (v26) (0))))) 0)) := by rw [upd1_o (by decide), upd1_s]; exact hs0
        have : HID (((upd1 (upd1 (A 7) (0) ((adI (v11) (1)))) (1) ((adI (v26) (0))))) 1 = w32 (((A 7)) 1 + (if BNA ((w8)) 4 ((u1_1)) < (u2_1) then 1 else 0))) := by rw [upd1_s]; exact hs1
        refine Ew_of (pc' := 312) (fun _ => x_iload_n rfl (rk_o (hl3) rfl rfl)) ?_
        refine Ew_of (pc' := 313) (fun _ => x_iconst rfl) ?_
        refine w_icmpne (t := 337) rfl rfl (show inr (4) by omega) (show inr (4) by omega) (fun b30 => ?_) (fun b30 => ?_)
        · exact absurd b30 (by omega)
        · refine Ew_of (pc' := 317) (fun _ => x_aload_n rfl (rk_o (hl0) rfl rfl)) ?_
          refine v_g H (o := 0) (v := .ref (D 10)) rfl rfl rfl rfl rfl (vrf (((((show F27 0 11 = F23 0 11 from (eF27 0 11).trans (hS27 0 11 rfl))).trans ((show F23 0 11 = F 0 11 from (eF23 0 11))))).trans (pf10))) ?_
          refine v_g H (o := 10) (v := .ref (D 11)) rfl rfl rfl rfl rfl (vrf (((((show F27 10 18 = F23 10 18 from (eF27 10 18))).trans ((show F23 10 18 = F 10 18 from (eF23 10 18))))).trans (pf11))) ?_
          refine Ew_of (pc' := 324) (fun _ => x_iconst rfl) ?_
          refine Ew_of (pc' := 325) (fun _ => x_aload_n rfl (rk_o (hl0) rfl rfl)) ?_
          refine v_g H (o := 0) (v := .ref (D 9)) rfl rfl rfl rfl rfl (vrf (((((show F27 0 13 = F23 0 13 from (eF27 0 13).trans (hS27 0 13 rfl))).trans ((show F23 0 13 = F 0 13 from (eF23 0 13))))).trans (pf9))) ?_
          refine Ew_of (pc' := 329) (fun _ => x_iconst rfl) ?_
          refine Ew_of (pc' := 330) (fun _ => x_aload_n rfl (rk_o (hl0) rfl rfl)) ?_
          refine v_g H (o := 0) (v := .ref (D 9)) rfl rfl rfl rfl rfl (vrf (((((show F27 0 13 = F23 0 13 from (eF27 0 13).trans (hS27 0 13 rfl))).trans ((show F23 0 13 = F 0 13 from (eF23 0 13))))).trans (pf9))) ?_
          refine v_len H (o := 9) rfl rfl rfl rfl (n := n9) (en9) ?_
          refine v_cpy H (t := 9) (t0 := 11) rfl rfl rfl rfl rfl rfl rfl rfl (n := n9) (en9) (n0 := n11) (en11) (show 0 ≤ n9 ∧ 0 ≤ 0 ∧ 0 ≤ 0 ∧ 0 + n9 ≤ n11 ∧ 0 + n9 ≤ n9 by have qh0 := HIDe r10; have qh1 := HIDe r9; omega) (fun σ A31 H O' hA31 ga31 gb31 => ?_)
          have gb31 : ∀ i, i < 0 ∨ 0 + n9 ≤ i → A31 9 i = (A 9) i := fun i a => (gb31 i a).trans (congrFun (((show A27 9 = (updA A23 7 (0) ((adI (v11) (1)))) 9 from (eA27 9))).trans ((show A23 9 = A 9 from (eA23 9)))) i)
          have ga31 : ∀ i, 0 ≤ i → i < 0 + n9 → A31 9 i = (A 11) (0 + (i - 0)) := fun i a b => (ga31 i a b).trans (congrFun (((show A27 11 = (updA A23 7 (0) ((adI (v11) (1)))) 11 from (eA27 11))).trans ((show A23 11 = A 11 from (eA23 11)))) _)
          have O := OUT_trans O O'
          exact hc337  _ _ _ _  (rk_o (hl0) rfl rfl) (rk_o (hl1) rfl rfl) H O (SF_trans (SF_trans (SF_refl) (SF_glu (ι := [4, 1, 5, 6]) hS23 eF23 (by decide +kernel)) (any_sub (l' := []) rfl)) (SF_glu (ι := [0, 8]) hS27 eF27 (by decide +kernel)) (any_sub (l' := []) rfl)) (SA_trans (SA_upd (SA_trans (SA_upd (SA_trans (SA_refl) (SA_glu (ι := [4, 1, 5, 6]) hA23 eA23 (by decide +kernel)) (any_subA (l' := []) rfl)) rfl) (SA_glu (ι := [0, 8]) hA27 eA27 (by decide +kernel)) (any_subA (l' := []) rfl)) rfl) hA31 (any_subA rfl))    (upd1 (upd1 (A 7) (0) ((adI (v11) (1)))) (1) ((adI (v26) (0)))) ((funext (hA31 7 rfl)).trans (congrArg (fun q => upd1 q (1) ((adI (v26) (0)))) (((show A27 7 = (updA A23 7 (0) ((adI (v11) (1)))) 7 from (eA27 7))).trans (congrArg (fun q => upd1 q (0) ((adI (v11) (1)))) ((show A23 7 = A 7 from (eA23 7))))))) (A31 9) (rfl) (show 0 ≤ (u2_1) ∧ (u2_1) ≤ (n3) ∧ (n3) ≤ 65536 by have qh0 := HIDe r2; have qh1 := HIDe r4; omega) (by assumption) (by assumption) (by assumption)
      · refine Ew_of (pc' := 305) (fun _ => x_iconst rfl) ?_
        refine Ew_of (pc' := 309) (fun _ => x_goto rfl rfl) ?_
        refine w_iaddE rfl ?_
        have g32 : inr (adI (v26) (1)) := toI_inr _
        have hs1 : HID (((adI (v26) (1))) = w32 (((A 7)) 1 + (if BNA ((w8)) 4 ((u1_1)) < (u2_1) then 1 else 0))) := by unfold HID; exact BYN hv1 (by decide) (by (have qg0 := HIDe qv26; have qg1 := HIDe r1; have qg2 := HIDe r2; omega)) hbd (by first | exact .inl ⟨by (have qg0 := HIDe qv26; have qg1 := HIDe r1; have qg2 := HIDe r2; omega), rfl⟩ | exact .inr ⟨by (have qg0 := HIDe qv26; have qg1 := HIDe r1; have qg2 := HIDe r2; omega), rfl⟩)
        clear hbd
        refine v_sI H (o := 7) (z := (adI (v26) (1))) rfl rfl rfl rfl (n := n7) (en7) (show 0 ≤ 1 ∧ 1 < n7 by have qh0 := HIDe r7; omega) (show inr ((adI (v26) (1))) by have qh0 := HIDe qv26; omega) (fun σ H O' => ?_)
        have O := OUT_trans O O'
        have : HID (STR (y0) ((u1_1)) (sc ((A 5)) 0 ((u4_1))) (sc ((A 6)) 0 ((u1_1))) (((A 7)) 0) (((upd1 (upd1 (A 7) (0) ((adI (v11) (1)))) (1) ((adI (v26) (1))))) 0)) := by rw [upd1_o (by decide), upd1_s]; exact hs0
        have : HID (((upd1 (upd1 (A 7) (0) ((adI (v11) (1)))) (1) ((adI (v26) (1))))) 1 = w32 (((A 7)) 1 + (if BNA ((w8)) 4 ((u1_1)) < (u2_1) then 1 else 0))) := by rw [upd1_s]; exact hs1
        refine Ew_of (pc' := 312) (fun _ => x_iload_n rfl (rk_o (hl3) rfl rfl)) ?_
        refine Ew_of (pc' := 313) (fun _ => x_iconst rfl) ?_
        refine w_icmpne (t := 337) rfl rfl (show inr (4) by omega) (show inr (4) by omega) (fun b33 => ?_) (fun b33 => ?_)
        · exact absurd b33 (by omega)
        · refine Ew_of (pc' := 317) (fun _ => x_aload_n rfl (rk_o (hl0) rfl rfl)) ?_
          refine v_g H (o := 0) (v := .ref (D 10)) rfl rfl rfl rfl rfl (vrf (((((show F27 0 11 = F23 0 11 from (eF27 0 11).trans (hS27 0 11 rfl))).trans ((show F23 0 11 = F 0 11 from (eF23 0 11))))).trans (pf10))) ?_
          refine v_g H (o := 10) (v := .ref (D 11)) rfl rfl rfl rfl rfl (vrf (((((show F27 10 18 = F23 10 18 from (eF27 10 18))).trans ((show F23 10 18 = F 10 18 from (eF23 10 18))))).trans (pf11))) ?_
          refine Ew_of (pc' := 324) (fun _ => x_iconst rfl) ?_
          refine Ew_of (pc' := 325) (fun _ => x_aload_n rfl (rk_o (hl0) rfl rfl)) ?_
          refine v_g H (o := 0) (v := .ref (D 9)) rfl rfl rfl rfl rfl (vrf (((((show F27 0 13 = F23 0 13 from (eF27 0 13).trans (hS27 0 13 rfl))).trans ((show F23 0 13 = F 0 13 from (eF23 0 13))))).trans (pf9))) ?_
          refine Ew_of (pc' := 329) (fun _ => x_iconst rfl) ?_
          refine Ew_of (pc' := 330) (fun _ => x_aload_n rfl (rk_o (hl0) rfl rfl)) ?_
          refine v_g H (o := 0) (v := .ref (D 9)) rfl rfl rfl rfl rfl (vrf (((((show F27 0 13 = F23 0 13 from (eF27 0 13).trans (hS27 0 13 rfl))).trans ((show F23 0 13 = F 0 13 from (eF23 0 13))))).trans (pf9))) ?_
          refine v_len H (o := 9) rfl rfl rfl rfl (n := n9) (en9) ?_
          refine v_cpy H (t := 9) (t0 := 11) rfl rfl rfl rfl rfl rfl rfl rfl (n := n9) (en9) (n0 := n11) (en11) (show 0 ≤ n9 ∧ 0 ≤ 0 ∧ 0 ≤ 0 ∧ 0 + n9 ≤ n11 ∧ 0 + n9 ≤ n9 by have qh0 := HIDe r10; have qh1 := HIDe r9; omega) (fun σ A34 H O' hA34 ga34 gb34 => ?_)
          have gb34 : ∀ i, i < 0 ∨ 0 + n9 ≤ i → A34 9 i = (A 9) i := fun i a => (gb34 i a).trans (congrFun (((show A27 9 = (updA A23 7 (0) ((adI (v11) (1)))) 9 from (eA27 9))).trans ((show A23 9 = A 9 from (eA23 9)))) i)
          have ga34 : ∀ i, 0 ≤ i → i < 0 + n9 → A34 9 i = (A 11) (0 + (i - 0)) := fun i a b => (ga34 i a b).trans (congrFun (((show A27 11 = (updA A23 7 (0) ((adI (v11) (1)))) 11 from (eA27 11))).trans ((show A23 11 = A 11 from (eA23 11)))) _)
          have O := OUT_trans O O'
          exact hc337  _ _ _ _  (rk_o (hl0) rfl rfl) (rk_o (hl1) rfl rfl) H O (SF_trans (SF_trans (SF_refl) (SF_glu (ι := [4, 1, 5, 6]) hS23 eF23 (by decide +kernel)) (any_sub (l' := []) rfl)) (SF_glu (ι := [0, 8]) hS27 eF27 (by decide +kernel)) (any_sub (l' := []) rfl)) (SA_trans (SA_upd (SA_trans (SA_upd (SA_trans (SA_refl) (SA_glu (ι := [4, 1, 5, 6]) hA23 eA23 (by decide +kernel)) (any_subA (l' := []) rfl)) rfl) (SA_glu (ι := [0, 8]) hA27 eA27 (by decide +kernel)) (any_subA (l' := []) rfl)) rfl) hA34 (any_subA rfl))    (upd1 (upd1 (A 7) (0) ((adI (v11) (1)))) (1) ((adI (v26) (1)))) ((funext (hA34 7 rfl)).trans (congrArg (fun q => upd1 q (1) ((adI (v26) (1)))) (((show A27 7 = (updA A23 7 (0) ((adI (v11) (1)))) 7 from (eA27 7))).trans (congrArg (fun q => upd1 q (0) ((adI (v11) (1)))) ((show A23 7 = A 7 from (eA23 7))))))) (A34 9) (rfl) (show 0 ≤ (u2_1) ∧ (u2_1) ≤ (n3) ∧ (n3) ≤ 65536 by have qh0 := HIDe r2; have qh1 := HIDe r4; omega) (by assumption) (by assumption) (by assumption)
    · refine Ew_of (pc' := 271) (fun _ => x_iconst rfl) ?_
      refine Ew_of (pc' := 275) (fun _ => x_goto rfl rfl) ?_
      refine w_iaddE rfl ?_
      have g35 : inr (adI (v11) (0)) := toI_inr _
      have hs0 : HID (STR (y0) ((u1_1)) (sc ((A 5)) 0 ((u4_1))) (sc ((A 6)) 0 ((u1_1))) (((A 7)) 0) (((adI (v11) (0))))) := by unfold HID; first | exact STR_n hv0 (by (have qg0 := HIDe qv11; have qg1 := HIDe r1; have qg2 := HIDe r3; omega)) | exact STR_u hv0 pz23_1 (by (have qg0 := HIDe qv11; have qg1 := HIDe r1; have qg2 := HIDe r3; omega)) | exact STR_y hv0 (by (have qg0 := HIDe qv11; have qg1 := HIDe r1; have qg2 := HIDe r3; omega)) pz23_1 (by (have qg0 := HIDe qv11; have qg1 := HIDe r1; have qg2 := HIDe r3; omega))
      refine v_sI H (o := 7) (z := (adI (v11) (0))) rfl rfl rfl rfl (n := n7) (en7) (show 0 ≤ 0 ∧ 0 < n7 by have qh0 := HIDe r7; omega) (show inr ((adI (v11) (0))) by have qh0 := HIDe qv11; omega) (fun σ H O' => ?_)
      have O := OUT_trans O O'
      refine Ew_of (pc' := 278) (fun _ => x_aload_n rfl (rk_o (hl0) rfl rfl)) ?_
      refine v_g H (o := 0) (v := .ref (D 7)) rfl rfl rfl rfl rfl (vrf ((((show F23 0 16 = F 0 16 from (eF23 0 16)))).trans (pf7))) ?_
      refine Ew_of (pc' := 282) (fun _ => x_iconst rfl) ?_
      refine Ew_of (pc' := 283) (fun _ => x_dup2 rfl rfl rfl) ?_
      refine v_lI H (o := 7) rfl rfl rfl rfl (n := n7) (en7) (show 0 ≤ 1 ∧ 1 < n7 by have qh0 := HIDe r7; omega) (fun v36 ev36 qv36 => ?_)
      replace qv36 := HIDm qv36
      have ev36 : (upd1 (A 7) (0) ((adI (v11) (0)))) (1) = v36 := (congrFun (congrArg (fun q => upd1 q (0) ((adI (v11) (0)))) ((show A23 7 = A 7 from (eA23 7)))) (1)).symm.trans ev36
      have hv1 : ((A 7)) 1 = (v36) := by have h := ev36; first | exact h | (rw [upd1_o (by decide)] at h; exact h)
      refine Ew_of (pc' := 285) (fun _ => x_aload_n rfl (rk_o (hl0) rfl rfl)) ?_
      refine v_g H (o := 0) (v := .ref (D 2)) rfl rfl rfl rfl rfl (vrf ((((show F23 0 5 = F 0 5 from (eF23 0 5)))).trans (pf2))) ?_
      refine v_g H (o := 2) (v := I (u2_1)) rfl rfl rfl rfl rfl (congrArg (fun z : Int => I z) ((((show F23 2 1 = F 2 1 from (eF23 2 1))).trans (eu2_1)) : F23 2 1 = u2_1)) ?_
      refine Ew_of (pc' := 292) (fun _ => x_aload_n rfl (rk_o (hl0) rfl rfl)) ?_
      refine Ew_of (pc' := 293) (fun _ => x_iload_n rfl (rk_o (hl3) rfl rfl)) ?_
      refine Ew_of (pc' := 295) (fun _ => x_aload rfl (rk_o (hl4) rfl rfl)) ?_
      refine v_g H (o := 1) (v := I (u1_1)) rfl rfl rfl rfl rfl (congrArg (fun z : Int => I z) ((((show F23 1 1 = F 1 1 from (eF23 1 1).trans (hS23 1 1 rfl))).trans (eu1_1)) : F23 1 1 = u1_1)) ?_
      refine v_inv H (o := 0) rfl rfl rfl rfl rfl rfl (by rfl) (C34x (D := pul [0, 8] D) (N := pul [0, 8] N) (HW_sub H (VS_of (show vsub V17_vE4 V34 [0, 8] = true by decide +kernel))) ((((show F23 0 1 = F 0 1 from (eF23 0 1)))).trans (pf8)) (n8) (en8) (w8) (((show A23 8 = A 8 from (eA23 8))).trans (ew8)) (show inr (4) by omega) (show inr (u1_1) by have qh0 := HIDe r1; omega) (show 0 ≤ (u1_1) ∧ (u1_1) ≤ 16384 by have qh0 := HIDe r1; omega) (show 0 ≤ (4) ∧ (4) ≤ 5 by omega) (show 1 ≤ ((w8)) 2 ∧ ((w8)) 2 ≤ 65536 by omega) (show 0 ≤ ((w8)) 8 ∧ ((w8)) 8 ≤ 11 by omega) (show 0 ≤ ((w8)) 6 ∧ ((w8)) 6 ≤ 255 by omega) (show (n8) = 10 by have qh0 := HIDe r8; omega) (fun z37 σ37 F37' A37' H' O' hS37 hA37 pz37_0 pz37_1 => ⟨rfl, ?_⟩))
      refine v_back (c := c) (s := s) H (show vsub V17_vE4 V34 [0, 8] = true by decide +kernel) H' O' (fun F37 A37 H O' eF37 eA37 => ?_)
      have O := OUT_trans O O'
      -- PackHouse.boundOf
      have hbd := pz37_1
      clear pz37_1
      refine w_icmple (t := 308) rfl rfl (show inr (u2_1) by have qh0 := HIDe r2; omega) (show inr (z37) by omega) (fun b38 => ?_) (fun b38 => ?_)
      · refine Ew_of (pc' := 309) (fun _ => x_iconst rfl) ?_
        refine w_iaddE rfl ?_
        have g39 : inr (adI (v36) (0)) := toI_inr _
        have hs1 : HID (((adI (v36) (0))) = w32 (((A 7)) 1 + (if BNA ((w8)) 4 ((u1_1)) < (u2_1) then 1 else 0))) := by unfold HID; exact BYN hv1 (by decide) (by (have qg0 := HIDe qv36; have qg1 := HIDe r1; have qg2 := HIDe r2; omega)) hbd (by first | exact .inl ⟨by (have qg0 := HIDe qv36; have qg1 := HIDe r1; have qg2 := HIDe r2; omega), rfl⟩ | exact .inr ⟨by (have qg0 := HIDe qv36; have qg1 := HIDe r1; have qg2 := HIDe r2; omega), rfl⟩)
        clear hbd
        refine v_sI H (o := 7) (z := (adI (v36) (0))) rfl rfl rfl rfl (n := n7) (en7) (show 0 ≤ 1 ∧ 1 < n7 by have qh0 := HIDe r7; omega) (show inr ((adI (v36) (0))) by have qh0 := HIDe qv36; omega) (fun σ H O' => ?_)
        have O := OUT_trans O O'
        have : HID (STR (y0) ((u1_1)) (sc ((A 5)) 0 ((u4_1))) (sc ((A 6)) 0 ((u1_1))) (((A 7)) 0) (((upd1 (upd1 (A 7) (0) ((adI (v11) (0)))) (1) ((adI (v36) (0))))) 0)) := by rw [upd1_o (by decide), upd1_s]; exact hs0
        have : HID (((upd1 (upd1 (A 7) (0) ((adI (v11) (0)))) (1) ((adI (v36) (0))))) 1 = w32 (((A 7)) 1 + (if BNA ((w8)) 4 ((u1_1)) < (u2_1) then 1 else 0))) := by rw [upd1_s]; exact hs1
        refine Ew_of (pc' := 312) (fun _ => x_iload_n rfl (rk_o (hl3) rfl rfl)) ?_
        refine Ew_of (pc' := 313) (fun _ => x_iconst rfl) ?_
        refine w_icmpne (t := 337) rfl rfl (show inr (4) by omega) (show inr (4) by omega) (fun b40 => ?_) (fun b40 => ?_)
        · exact absurd b40 (by omega)
        · refine Ew_of (pc' := 317) (fun _ => x_aload_n rfl (rk_o (hl0) rfl rfl)) ?_
          refine v_g H (o := 0) (v := .ref (D 10)) rfl rfl rfl rfl rfl (vrf (((((show F37 0 11 = F23 0 11 from (eF37 0 11).trans (hS37 0 11 rfl))).trans ((show F23 0 11 = F 0 11 from (eF23 0 11))))).trans (pf10))) ?_
          refine v_g H (o := 10) (v := .ref (D 11)) rfl rfl rfl rfl rfl (vrf (((((show F37 10 18 = F23 10 18 from (eF37 10 18))).trans ((show F23 10 18 = F 10 18 from (eF23 10 18))))).trans (pf11))) ?_
          refine Ew_of (pc' := 324) (fun _ => x_iconst rfl) ?_
          refine Ew_of (pc' := 325) (fun _ => x_aload_n rfl (rk_o (hl0) rfl rfl)) ?_
          refine v_g H (o := 0) (v := .ref (D 9)) rfl rfl rfl rfl rfl (vrf (((((show F37 0 13 = F23 0 13 from (eF37 0 13).trans (hS37 0 13 rfl))).trans ((show F23 0 13 = F 0 13 from (eF23 0 13))))).trans (pf9))) ?_
          refine Ew_of (pc' := 329) (fun _ => x_iconst rfl) ?_
          refine Ew_of (pc' := 330) (fun _ => x_aload_n rfl (rk_o (hl0) rfl rfl)) ?_
          refine v_g H (o := 0) (v := .ref (D 9)) rfl rfl rfl rfl rfl (vrf (((((show F37 0 13 = F23 0 13 from (eF37 0 13).trans (hS37 0 13 rfl))).trans ((show F23 0 13 = F 0 13 from (eF23 0 13))))).trans (pf9))) ?_
          refine v_len H (o := 9) rfl rfl rfl rfl (n := n9) (en9) ?_
          refine v_cpy H (t := 9) (t0 := 11) rfl rfl rfl rfl rfl rfl rfl rfl (n := n9) (en9) (n0 := n11) (en11) (show 0 ≤ n9 ∧ 0 ≤ 0 ∧ 0 ≤ 0 ∧ 0 + n9 ≤ n11 ∧ 0 + n9 ≤ n9 by have qh0 := HIDe r10; have qh1 := HIDe r9; omega) (fun σ A41 H O' hA41 ga41 gb41 => ?_)
          have gb41 : ∀ i, i < 0 ∨ 0 + n9 ≤ i → A41 9 i = (A 9) i := fun i a => (gb41 i a).trans (congrFun (((show A37 9 = (updA A23 7 (0) ((adI (v11) (0)))) 9 from (eA37 9))).trans ((show A23 9 = A 9 from (eA23 9)))) i)
          have ga41 : ∀ i, 0 ≤ i → i < 0 + n9 → A41 9 i = (A 11) (0 + (i - 0)) := fun i a b => (ga41 i a b).trans (congrFun (((show A37 11 = (updA A23 7 (0) ((adI (v11) (0)))) 11 from (eA37 11))).trans ((show A23 11 = A 11 from (eA23 11)))) _)
          have O := OUT_trans O O'
          exact hc337  _ _ _ _  (rk_o (hl0) rfl rfl) (rk_o (hl1) rfl rfl) H O (SF_trans (SF_trans (SF_refl) (SF_glu (ι := [4, 1, 5, 6]) hS23 eF23 (by decide +kernel)) (any_sub (l' := []) rfl)) (SF_glu (ι := [0, 8]) hS37 eF37 (by decide +kernel)) (any_sub (l' := []) rfl)) (SA_trans (SA_upd (SA_trans (SA_upd (SA_trans (SA_refl) (SA_glu (ι := [4, 1, 5, 6]) hA23 eA23 (by decide +kernel)) (any_subA (l' := []) rfl)) rfl) (SA_glu (ι := [0, 8]) hA37 eA37 (by decide +kernel)) (any_subA (l' := []) rfl)) rfl) hA41 (any_subA rfl))    (upd1 (upd1 (A 7) (0) ((adI (v11) (0)))) (1) ((adI (v36) (0)))) ((funext (hA41 7 rfl)).trans (congrArg (fun q => upd1 q (1) ((adI (v36) (0)))) (((show A37 7 = (updA A23 7 (0) ((adI (v11) (0)))) 7 from (eA37 7))).trans (congrArg (fun q => upd1 q (0) ((adI (v11) (0)))) ((show A23 7 = A 7 from (eA23 7))))))) (A41 9) (rfl) (show 0 ≤ (u2_1) ∧ (u2_1) ≤ (n3) ∧ (n3) ≤ 65536 by have qh0 := HIDe r2; have qh1 := HIDe r4; omega) (by assumption) (by assumption) (by assumption)
      · refine Ew_of (pc' := 305) (fun _ => x_iconst rfl) ?_
        refine Ew_of (pc' := 309) (fun _ => x_goto rfl rfl) ?_
        refine w_iaddE rfl ?_
        have g42 : inr (adI (v36) (1)) := toI_inr _
        have hs1 : HID (((adI (v36) (1))) = w32 (((A 7)) 1 + (if BNA ((w8)) 4 ((u1_1)) < (u2_1) then 1 else 0))) := by unfold HID; exact BYN hv1 (by decide) (by (have qg0 := HIDe qv36; have qg1 := HIDe r1; have qg2 := HIDe r2; omega)) hbd (by first | exact .inl ⟨by (have qg0 := HIDe qv36; have qg1 := HIDe r1; have qg2 := HIDe r2; omega), rfl⟩ | exact .inr ⟨by (have qg0 := HIDe qv36; have qg1 := HIDe r1; have qg2 := HIDe r2; omega), rfl⟩)
        clear hbd
        refine v_sI H (o := 7) (z := (adI (v36) (1))) rfl rfl rfl rfl (n := n7) (en7) (show 0 ≤ 1 ∧ 1 < n7 by have qh0 := HIDe r7; omega) (show inr ((adI (v36) (1))) by have qh0 := HIDe qv36; omega) (fun σ H O' => ?_)
        have O := OUT_trans O O'
        have : HID (STR (y0) ((u1_1)) (sc ((A 5)) 0 ((u4_1))) (sc ((A 6)) 0 ((u1_1))) (((A 7)) 0) (((upd1 (upd1 (A 7) (0) ((adI (v11) (0)))) (1) ((adI (v36) (1))))) 0)) := by rw [upd1_o (by decide), upd1_s]; exact hs0
        have : HID (((upd1 (upd1 (A 7) (0) ((adI (v11) (0)))) (1) ((adI (v36) (1))))) 1 = w32 (((A 7)) 1 + (if BNA ((w8)) 4 ((u1_1)) < (u2_1) then 1 else 0))) := by rw [upd1_s]; exact hs1
        refine Ew_of (pc' := 312) (fun _ => x_iload_n rfl (rk_o (hl3) rfl rfl)) ?_
        refine Ew_of (pc' := 313) (fun _ => x_iconst rfl) ?_
        refine w_icmpne (t := 337) rfl rfl (show inr (4) by omega) (show inr (4) by omega) (fun b43 => ?_) (fun b43 => ?_)
        · exact absurd b43 (by omega)
        · refine Ew_of (pc' := 317) (fun _ => x_aload_n rfl (rk_o (hl0) rfl rfl)) ?_
          refine v_g H (o := 0) (v := .ref (D 10)) rfl rfl rfl rfl rfl (vrf (((((show F37 0 11 = F23 0 11 from (eF37 0 11).trans (hS37 0 11 rfl))).trans ((show F23 0 11 = F 0 11 from (eF23 0 11))))).trans (pf10))) ?_
          refine v_g H (o := 10) (v := .ref (D 11)) rfl rfl rfl rfl rfl (vrf (((((show F37 10 18 = F23 10 18 from (eF37 10 18))).trans ((show F23 10 18 = F 10 18 from (eF23 10 18))))).trans (pf11))) ?_
          refine Ew_of (pc' := 324) (fun _ => x_iconst rfl) ?_
          refine Ew_of (pc' := 325) (fun _ => x_aload_n rfl (rk_o (hl0) rfl rfl)) ?_
          refine v_g H (o := 0) (v := .ref (D 9)) rfl rfl rfl rfl rfl (vrf (((((show F37 0 13 = F23 0 13 from (eF37 0 13).trans (hS37 0 13 rfl))).trans ((show F23 0 13 = F 0 13 from (eF23 0 13))))).trans (pf9))) ?_
          refine Ew_of (pc' := 329) (fun _ => x_iconst rfl) ?_
          refine Ew_of (pc' := 330) (fun _ => x_aload_n rfl (rk_o (hl0) rfl rfl)) ?_
          refine v_g H (o := 0) (v := .ref (D 9)) rfl rfl rfl rfl rfl (vrf (((((show F37 0 13 = F23 0 13 from (eF37 0 13).trans (hS37 0 13 rfl))).trans ((show F23 0 13 = F 0 13 from (eF23 0 13))))).trans (pf9))) ?_
          refine v_len H (o := 9) rfl rfl rfl rfl (n := n9) (en9) ?_
          refine v_cpy H (t := 9) (t0 := 11) rfl rfl rfl rfl rfl rfl rfl rfl (n := n9) (en9) (n0 := n11) (en11) (show 0 ≤ n9 ∧ 0 ≤ 0 ∧ 0 ≤ 0 ∧ 0 + n9 ≤ n11 ∧ 0 + n9 ≤ n9 by have qh0 := HIDe r10; have qh1 := HIDe r9; omega) (fun σ A44 H O' hA44 ga44 gb44 => ?_)
          have gb44 : ∀ i, i < 0 ∨ 0 + n9 ≤ i → A44 9 i = (A 9) i := fun i a => (gb44 i a).trans (congrFun (((show A37 9 = (updA A23 7 (0) ((adI (v11) (0)))) 9 from (eA37 9))).trans ((show A23 9 = A 9 from (eA23 9)))) i)
          have ga44 : ∀ i, 0 ≤ i → i < 0 + n9 → A44 9 i = (A 11) (0 + (i - 0)) := fun i a b => (ga44 i a b).trans (congrFun (((show A37 11 = (updA A23 7 (0) ((adI (v11) (0)))) 11 from (eA37 11))).trans ((show A23 11 = A 11 from (eA23 11)))) _)
          have O := OUT_trans O O'
          exact hc337  _ _ _ _  (rk_o (hl0) rfl rfl) (rk_o (hl1) rfl rfl) H O (SF_trans (SF_trans (SF_refl) (SF_glu (ι := [4, 1, 5, 6]) hS23 eF23 (by decide +kernel)) (any_sub (l' := []) rfl)) (SF_glu (ι := [0, 8]) hS37 eF37 (by decide +kernel)) (any_sub (l' := []) rfl)) (SA_trans (SA_upd (SA_trans (SA_upd (SA_trans (SA_refl) (SA_glu (ι := [4, 1, 5, 6]) hA23 eA23 (by decide +kernel)) (any_subA (l' := []) rfl)) rfl) (SA_glu (ι := [0, 8]) hA37 eA37 (by decide +kernel)) (any_subA (l' := []) rfl)) rfl) hA44 (any_subA rfl))    (upd1 (upd1 (A 7) (0) ((adI (v11) (0)))) (1) ((adI (v36) (1)))) ((funext (hA44 7 rfl)).trans (congrArg (fun q => upd1 q (1) ((adI (v36) (1)))) (((show A37 7 = (updA A23 7 (0) ((adI (v11) (0)))) 7 from (eA37 7))).trans (congrArg (fun q => upd1 q (0) ((adI (v11) (0)))) ((show A23 7 = A 7 from (eA23 7))))))) (A44 9) (rfl) (show 0 ≤ (u2_1) ∧ (u2_1) ≤ (n3) ∧ (n3) ≤ 65536 by have qh0 := HIDe r2; have qh1 := HIDe r4; omega) (by assumption) (by assumption) (by assumption)
abbrev V17_vE5 : vV := [(0, 0, [(4, 0), (4, 0), (4, 0), (4, 0), (4, 0), (4, 0), (4, 0), (4, 0), (4, 0), (4, 0), (4, 0), (4, 0), (4, 0), (4, 0), (4, 0), (4, 0), (4, 0), (0, 0), (0, 0)]), (0, 7, [(4, 0), (0, 0), (1, 0), (0, 0), (0, 0)]), (0, 7, [(4, 0), (0, 0), (1, 0), (0, 0), (0, 0)]), (1, 0, []), (1, 0, []), (1, 1, []), (1, 1, [])]
/-- PackHouse.write: this, @F, this.written, this.written.bytes, @F.bytes, this.strays, this.settings -/
theorem C17_vE5 {σE : rS} {D N : Nat → Nat} {F : hF} {A : hA} {d c s : Nat} {Q : wQ} (H : HW V17_vE5 σE D N F A) {x1 : Int} (pf2 : F 0 5 = (D 2 : Int)) (pf3 : F 2 0 = (D 3 : Int)) (pf4 : F 1 0 = (D 4 : Int)) (pf5 : F 0 16 = (D 5 : Int)) (pf6 : F 0 1 = (D 6 : Int)) (n3 : Int) (en3 : (N 3 : Int) = n3) (n4 : Int) (en4 : (N 4 : Int) = n4) (n5 : Int) (en5 : (N 5 : Int) = n5) (n6 : Int) (en6 : (N 6 : Int) = n6) (u1_1 : Int) (eu1_1 : F 1 1 = u1_1) (u2_1 : Int) (eu2_1 : F 2 1 = u2_1) (w6 : Int → Int) (ew6 : A 6 = w6) {ls : rO} (hl0 : rlook ls 0 = some (.ref (D 0))) (hl1 : rlook ls 1 = some (I (x1))) (hl3 : rlook ls 3 = some (I (5))) (hl4 : rlook ls 4 = some (.ref (D 1))) (h0 : inr (x1)) (h1 : 0 ≤ (u2_1) ∧ (u2_1) ≤ (n3) ∧ (n3) ≤ 65536) (h2 : 0 ≤ (u1_1) ∧ (u1_1) ≤ (n4) ∧ (n4) ≤ 65536) (h3 : (u1_1) ≤ 16384) (h4 : (n5) = 2) (h5 : 1 ≤ ((w6)) 2 ∧ ((w6)) 2 ≤ 65536) (h6 : 0 ≤ ((w6)) 8 ∧ ((w6)) 8 ≤ 11) (h7 : 0 ≤ ((w6)) 6 ∧ ((w6)) 6 ≤ 255) (h8 : (n6) = 10) (hc337 : ∀ (ls : rO) (σ : rS) (F_c337 : hF) (A_c337 : hA) , rlook ls 0 = some (.ref (D 0)) → rlook ls 1 = some (I (x1)) → HW V17_vE5 σ D N F_c337 A_c337 → OUT (V17_vE5).length D N σE c s D N σ c s → SF [] F F_c337 → SA [5] A A_c337 → ∀ wc337_5 : Int → Int, A_c337 5 = wc337_5 → (0 ≤ (u2_1) ∧ (u2_1) ≤ (n3) ∧ (n3) ≤ 65536) → (((wc337_5)) 0 = ((A 5)) 0) → (HID (((wc337_5)) 1 = w32 (((A 5)) 1 + (if BNA ((w6)) 5 ((u1_1)) < (u2_1) then 1 else 0)))) → Ew 17 (d + 3) 337 ls [] σ c s Q) (k : ∀ (z : Int) (σ : rS) (F' : hF) (A' : hA), HW V17_vE5 σ D N F' A' → OUT (V17_vE5).length D N σE c s D N σ c s → SF [] F F' → SA [5] A A' → (inr (z)) → ((0 : Int) = 1) → Q (some (I z)) σ c s) : Ew 17 (d + 3) 277 ls [] σE c s Q := by
  have O := OUT_refl (n := (V17_vE5).length) (D := D) (N := N) (σ := σE) (c := c) (s := s)
  have HE := H
  have r1 : HID ((-2147483648 : Int) ≤ u1_1 ∧ u1_1 ≤ 2147483647) := krg_e (show (-2147483648 : Int) ≤ F 1 1 ∧ F 1 1 ≤ 2147483647 from H.krg 1 1 (by decide)) (show F 1 1 = u1_1 from (eu1_1))
  have r2 : HID ((-2147483648 : Int) ≤ u2_1 ∧ u2_1 ≤ 2147483647) := krg_e (show (-2147483648 : Int) ≤ F 2 1 ∧ F 2 1 ≤ 2147483647 from H.krg 2 1 (by decide)) (show F 2 1 = u2_1 from (eu2_1))
  replace pf2 := HIDm pf2
  replace pf3 := HIDm pf3
  replace pf4 := HIDm pf4
  replace pf5 := HIDm pf5
  replace pf6 := HIDm pf6
  replace en3 := HIDm en3
  replace en4 := HIDm en4
  replace en5 := HIDm en5
  replace en6 := HIDm en6
  replace eu1_1 := HIDm eu1_1
  replace eu2_1 := HIDm eu2_1
  have r3 : HID ((0 : Int) ≤ n3 ∧ n3 ≤ 1000000) := nrng (H.nle 3 (by decide)) (show (N 3 : Int) = n3 from en3)
  have r4 : HID ((0 : Int) ≤ n4 ∧ n4 ≤ 1000000) := nrng (H.nle 4 (by decide)) (show (N 4 : Int) = n4 from en4)
  have r5 : HID ((0 : Int) ≤ n5 ∧ n5 ≤ 1000000) := nrng (H.nle 5 (by decide)) (show (N 5 : Int) = n5 from en5)
  have r6 : HID ((0 : Int) ≤ n6 ∧ n6 ≤ 1000000) := nrng (H.nle 6 (by decide)) (show (N 6 : Int) = n6 from en6)
  refine Ew_of (pc' := 278) (fun _ => x_aload_n rfl hl0) ?_
  refine v_g H (o := 0) (v := .ref (D 5)) rfl rfl rfl rfl rfl (vrf (pf5)) ?_
  refine Ew_of (pc' := 282) (fun _ => x_iconst rfl) ?_
  refine Ew_of (pc' := 283) (fun _ => x_dup2 rfl rfl rfl) ?_
  refine v_lI H (o := 5) rfl rfl rfl rfl (n := n5) (en5) (show 0 ≤ 1 ∧ 1 < n5 by have qh0 := HIDe r5; omega) (fun v7 ev7 qv7 => ?_)
  replace qv7 := HIDm qv7
  have ev7 : (A 5) (1) = v7 := (congrFun (rfl : A 5 = A 5) (1)).symm.trans ev7
  have hv1 : ((A 5)) 1 = (v7) := by have h := ev7; first | exact h | (rw [upd1_o (by decide)] at h; exact h)
  refine Ew_of (pc' := 285) (fun _ => x_aload_n rfl hl0) ?_
  refine v_g H (o := 0) (v := .ref (D 2)) rfl rfl rfl rfl rfl (vrf (pf2)) ?_
  refine v_g H (o := 2) (v := I (u2_1)) rfl rfl rfl rfl rfl (congrArg (fun z : Int => I z) ((eu2_1) : F 2 1 = u2_1)) ?_
  refine Ew_of (pc' := 292) (fun _ => x_aload_n rfl hl0) ?_
  refine Ew_of (pc' := 293) (fun _ => x_iload_n rfl hl3) ?_
  refine Ew_of (pc' := 295) (fun _ => x_aload rfl hl4) ?_
  refine v_g H (o := 1) (v := I (u1_1)) rfl rfl rfl rfl rfl (congrArg (fun z : Int => I z) ((eu1_1) : F 1 1 = u1_1)) ?_
  refine v_inv H (o := 0) rfl rfl rfl rfl rfl rfl (by rfl) (C34x (D := pul [0, 6] D) (N := pul [0, 6] N) (HW_sub H (VS_of (show vsub V17_vE5 V34 [0, 6] = true by decide +kernel))) (pf6) (n6) (en6) (w6) (ew6) (show inr (5) by omega) (show inr (u1_1) by have qh0 := HIDe r1; omega) (show 0 ≤ (u1_1) ∧ (u1_1) ≤ 16384 by have qh0 := HIDe r1; omega) (show 0 ≤ (5) ∧ (5) ≤ 5 by omega) (show 1 ≤ ((w6)) 2 ∧ ((w6)) 2 ≤ 65536 by omega) (show 0 ≤ ((w6)) 8 ∧ ((w6)) 8 ≤ 11 by omega) (show 0 ≤ ((w6)) 6 ∧ ((w6)) 6 ≤ 255 by omega) (show (n6) = 10 by have qh0 := HIDe r6; omega) (fun z8 σ8 F8' A8' H' O' hS8 hA8 pz8_0 pz8_1 => ⟨rfl, ?_⟩))
  refine v_back (c := c) (s := s) H (show vsub V17_vE5 V34 [0, 6] = true by decide +kernel) H' O' (fun F8 A8 H O' eF8 eA8 => ?_)
  have O := OUT_trans O O'
  -- PackHouse.boundOf
  have hbd := pz8_1
  clear pz8_1
  refine w_icmple (t := 308) rfl rfl (show inr (u2_1) by have qh0 := HIDe r2; omega) (show inr (z8) by omega) (fun b9 => ?_) (fun b9 => ?_)
  · refine Ew_of (pc' := 309) (fun _ => x_iconst rfl) ?_
    refine w_iaddE rfl ?_
    have g10 : inr (adI (v7) (0)) := toI_inr _
    have hs1 : HID (((adI (v7) (0))) = w32 (((A 5)) 1 + (if BNA ((w6)) 5 ((u1_1)) < (u2_1) then 1 else 0))) := by unfold HID; exact BYN hv1 (by decide) (by (have qg0 := HIDe qv7; have qg1 := HIDe r1; have qg2 := HIDe r2; omega)) hbd (by first | exact .inl ⟨by (have qg0 := HIDe qv7; have qg1 := HIDe r1; have qg2 := HIDe r2; omega), rfl⟩ | exact .inr ⟨by (have qg0 := HIDe qv7; have qg1 := HIDe r1; have qg2 := HIDe r2; omega), rfl⟩)
    clear hbd
    refine v_sI H (o := 5) (z := (adI (v7) (0))) rfl rfl rfl rfl (n := n5) (en5) (show 0 ≤ 1 ∧ 1 < n5 by have qh0 := HIDe r5; omega) (show inr ((adI (v7) (0))) by have qh0 := HIDe qv7; omega) (fun σ H O' => ?_)
    have O := OUT_trans O O'
    have : ((upd1 (A 5) (1) ((adI (v7) (0))))) 0 = ((A 5)) 0 := upd1_o (by decide)
    have : HID (((upd1 (A 5) (1) ((adI (v7) (0))))) 1 = w32 (((A 5)) 1 + (if BNA ((w6)) 5 ((u1_1)) < (u2_1) then 1 else 0))) := by rw [upd1_s]; exact hs1
    refine Ew_of (pc' := 312) (fun _ => x_iload_n rfl hl3) ?_
    refine Ew_of (pc' := 313) (fun _ => x_iconst rfl) ?_
    refine w_icmpne (t := 337) rfl rfl (show inr (5) by omega) (show inr (4) by omega) (fun b11 => ?_) (fun b11 => ?_)
    · exact hc337  _ _ _ _  (hl0) (hl1) H O (SF_trans (SF_refl) (SF_glu (ι := [0, 6]) hS8 eF8 (by decide +kernel)) (any_sub (l' := []) rfl)) (SA_upd (SA_trans (SA_refl) (SA_glu (ι := [0, 6]) hA8 eA8 (by decide +kernel)) (any_subA (l' := []) rfl)) rfl)    (upd1 (A 5) (1) ((adI (v7) (0)))) (congrArg (fun q => upd1 q (1) ((adI (v7) (0)))) ((show A8 5 = A 5 from (eA8 5)))) (show 0 ≤ (u2_1) ∧ (u2_1) ≤ (n3) ∧ (n3) ≤ 65536 by have qh0 := HIDe r2; have qh1 := HIDe r3; omega) (show ((upd1 (A 5) (1) ((adI (v7) (0))))) 0 = ((A 5)) 0 by have qh0 := HIDe qv7; omega) (by assumption)
    · exact absurd b11 (by omega)
  · refine Ew_of (pc' := 305) (fun _ => x_iconst rfl) ?_
    refine Ew_of (pc' := 309) (fun _ => x_goto rfl rfl) ?_
    refine w_iaddE rfl ?_
    have g12 : inr (adI (v7) (1)) := toI_inr _
    have hs1 : HID (((adI (v7) (1))) = w32 (((A 5)) 1 + (if BNA ((w6)) 5 ((u1_1)) < (u2_1) then 1 else 0))) := by unfold HID; exact BYN hv1 (by decide) (by (have qg0 := HIDe qv7; have qg1 := HIDe r1; have qg2 := HIDe r2; omega)) hbd (by first | exact .inl ⟨by (have qg0 := HIDe qv7; have qg1 := HIDe r1; have qg2 := HIDe r2; omega), rfl⟩ | exact .inr ⟨by (have qg0 := HIDe qv7; have qg1 := HIDe r1; have qg2 := HIDe r2; omega), rfl⟩)
    clear hbd
    refine v_sI H (o := 5) (z := (adI (v7) (1))) rfl rfl rfl rfl (n := n5) (en5) (show 0 ≤ 1 ∧ 1 < n5 by have qh0 := HIDe r5; omega) (show inr ((adI (v7) (1))) by have qh0 := HIDe qv7; omega) (fun σ H O' => ?_)
    have O := OUT_trans O O'
    have : ((upd1 (A 5) (1) ((adI (v7) (1))))) 0 = ((A 5)) 0 := upd1_o (by decide)
    have : HID (((upd1 (A 5) (1) ((adI (v7) (1))))) 1 = w32 (((A 5)) 1 + (if BNA ((w6)) 5 ((u1_1)) < (u2_1) then 1 else 0))) := by rw [upd1_s]; exact hs1
    refine Ew_of (pc' := 312) (fun _ => x_iload_n rfl hl3) ?_
    refine Ew_of (pc' := 313) (fun _ => x_iconst rfl) ?_
    refine w_icmpne (t := 337) rfl rfl (show inr (5) by omega) (show inr (4) by omega) (fun b13 => ?_) (fun b13 => ?_)
    · exact hc337  _ _ _ _  (hl0) (hl1) H O (SF_trans (SF_refl) (SF_glu (ι := [0, 6]) hS8 eF8 (by decide +kernel)) (any_sub (l' := []) rfl)) (SA_upd (SA_trans (SA_refl) (SA_glu (ι := [0, 6]) hA8 eA8 (by decide +kernel)) (any_subA (l' := []) rfl)) rfl)    (upd1 (A 5) (1) ((adI (v7) (1)))) (congrArg (fun q => upd1 q (1) ((adI (v7) (1)))) ((show A8 5 = A 5 from (eA8 5)))) (show 0 ≤ (u2_1) ∧ (u2_1) ≤ (n3) ∧ (n3) ≤ 65536 by have qh0 := HIDe r2; have qh1 := HIDe r3; omega) (show ((upd1 (A 5) (1) ((adI (v7) (1))))) 0 = ((A 5)) 0 by have qh0 := HIDe qv7; omega) (by assumption)
    · exact absurd b13 (by omega)
