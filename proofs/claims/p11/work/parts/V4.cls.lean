abbrev V17_ve4 : vV := [(0, 0, [(4, 0), (4, 0), (4, 0), (4, 0), (4, 0), (4, 0), (4, 0), (4, 0), (4, 0), (4, 0), (4, 0), (4, 0), (4, 0), (4, 0), (4, 0), (4, 0), (4, 0), (0, 0), (0, 0)]), (0, 7, [(4, 0), (0, 0), (1, 0), (0, 0), (0, 0)]), (0, 7, [(4, 0), (0, 0), (1, 0), (0, 0), (0, 0)]), (1, 0, []), (0, 7, [(4, 0), (0, 0), (1, 0), (0, 0), (0, 0)]), (1, 0, []), (1, 0, []), (1, 1, []), (1, 1, []), (0, 6, [(4, 0), (4, 0), (4, 0), (4, 0), (4, 0), (4, 0), (4, 0), (4, 0), (4, 0), (4, 0), (4, 0), (4, 0), (4, 0), (4, 0), (4, 0), (0, 0), (0, 0), (4, 0), (4, 0)]), (1, 1, []), (1, 1, [])]
/-- PackHouse.write: this, @F, this.written, this.written.bytes, this.content, this.content.bytes, @F.bytes, this.strays, this.packCounts, this.packer, this.packer.counts, this.settings -/
theorem C17_ve4 {σE : rS} {D N : Nat → Nat} {F : hF} {A : hA} {d c s : Nat} {Q : wQ} (H : HW V17_ve4 σE D N F A) {x1 y0 : Int} (pf2 : F 0 5 = (D 2 : Int)) (pf3 : F 2 0 = (D 3 : Int)) (pf4 : F 0 6 = (D 4 : Int)) (pf5 : F 4 0 = (D 5 : Int)) (pf6 : F 1 0 = (D 6 : Int)) (pf7 : F 0 16 = (D 7 : Int)) (pf8 : F 0 13 = (D 8 : Int)) (pf9 : F 0 11 = (D 9 : Int)) (pf10 : F 9 18 = (D 10 : Int)) (pf11 : F 0 1 = (D 11 : Int)) (n3 : Int) (en3 : (N 3 : Int) = n3) (n5 : Int) (en5 : (N 5 : Int) = n5) (n6 : Int) (en6 : (N 6 : Int) = n6) (n7 : Int) (en7 : (N 7 : Int) = n7) (n8 : Int) (en8 : (N 8 : Int) = n8) (n10 : Int) (en10 : (N 10 : Int) = n10) (n11 : Int) (en11 : (N 11 : Int) = n11) (u1_1 : Int) (eu1_1 : F 1 1 = u1_1) (u2_1 : Int) (eu2_1 : F 2 1 = u2_1) (u4_1 : Int) (eu4_1 : F 4 1 = u4_1) (w11 : Int → Int) (ew11 : A 11 = w11) {ls : rO} (hl0 : rlook ls 0 = some (.ref (D 0))) (hl1 : rlook ls 1 = some (I (x1))) (hl3 : rlook ls 3 = some (I (4))) (hl4 : rlook ls 4 = some (.ref (D 1))) (h0 : inr (x1)) (h1 : inr y0) (h2 : 0 ≤ (u2_1) ∧ (u2_1) ≤ (n3) ∧ (n3) ≤ 65536) (h3 : 0 ≤ (u4_1) ∧ (u4_1) ≤ (n5) ∧ (n5) ≤ 65536) (h4 : 0 ≤ (u1_1) ∧ (u1_1) ≤ (n6) ∧ (n6) ≤ 65536) (h5 : (u1_1) ≤ 16384) (h6 : (n7) = 2) (h7 : (n8) = 13) (h8 : (n10) = 13) (h9 : 1 ≤ ((w11)) 2 ∧ ((w11)) 2 ≤ 65536) (h10 : 0 ≤ ((w11)) 8 ∧ ((w11)) 8 ≤ 11) (h11 : 0 ≤ ((w11)) 6 ∧ ((w11)) 6 ≤ 255) (h12 : (n11) = 10) (hc337 : ∀ (ls : rO) (σ : rS) (F_c337 : hF) (A_c337 : hA) , rlook ls 0 = some (.ref (D 0)) → rlook ls 1 = some (I (x1)) → HW V17_ve4 σ D N F_c337 A_c337 → OUT (V17_ve4).length D N σE c s D N σ c s → SF [] F F_c337 → SA [7, 8] A A_c337 → (0 ≤ (u2_1) ∧ (u2_1) ≤ (n3) ∧ (n3) ≤ 65536) → Ew 17 (d + 3) 337 ls [] σ c s Q) (k : ∀ (z : Int) (σ : rS) (Fₚ : hF) (Aₚ : hA), HW V17_ve4 σ D N Fₚ Aₚ → OUT (V17_ve4).length D N σE c s D N σ c s → SF [] F Fₚ → SA [7, 8] A Aₚ → (inr (z)) → ((0 : Int) = 1) → Q (some (I z)) σ c s) : Ew 17 (d + 3) 239 ls [I (y0)] σE c s Q := by
  have O := OUT_refl (n := (V17_ve4).length) (D := D) (N := N) (σ := σE) (c := c) (s := s)
  have HE := H
  have r1 : HID ((-2147483648 : Int) ≤ u1_1 ∧ u1_1 ≤ 2147483647) := krg_e (show (-2147483648 : Int) ≤ F 1 1 ∧ F 1 1 ≤ 2147483647 from H.krg 1 1 (by decide)) (show F 1 1 = u1_1 from (eu1_1))
  have r2 : HID ((-2147483648 : Int) ≤ u2_1 ∧ u2_1 ≤ 2147483647) := krg_e (show (-2147483648 : Int) ≤ F 2 1 ∧ F 2 1 ≤ 2147483647 from H.krg 2 1 (by decide)) (show F 2 1 = u2_1 from (eu2_1))
  have r3 : HID ((-2147483648 : Int) ≤ u4_1 ∧ u4_1 ≤ 2147483647) := krg_e (show (-2147483648 : Int) ≤ F 4 1 ∧ F 4 1 ≤ 2147483647 from H.krg 4 1 (by decide)) (show F 4 1 = u4_1 from (eu4_1))
  replace pf2 := HIDm pf2
  replace pf3 := HIDm pf3
  replace pf4 := HIDm pf4
  replace pf5 := HIDm pf5
  replace pf6 := HIDm pf6
  replace pf7 := HIDm pf7
  replace pf8 := HIDm pf8
  replace pf9 := HIDm pf9
  replace pf10 := HIDm pf10
  replace pf11 := HIDm pf11
  replace en3 := HIDm en3
  replace en5 := HIDm en5
  replace en6 := HIDm en6
  replace en7 := HIDm en7
  replace en8 := HIDm en8
  replace en10 := HIDm en10
  replace en11 := HIDm en11
  replace eu1_1 := HIDm eu1_1
  replace eu2_1 := HIDm eu2_1
  replace eu4_1 := HIDm eu4_1
  have r4 : HID ((0 : Int) ≤ n3 ∧ n3 ≤ 1000000) := nrng (H.nle 3 (by decide)) (show (N 3 : Int) = n3 from en3)
  have r5 : HID ((0 : Int) ≤ n5 ∧ n5 ≤ 1000000) := nrng (H.nle 5 (by decide)) (show (N 5 : Int) = n5 from en5)
  have r6 : HID ((0 : Int) ≤ n6 ∧ n6 ≤ 1000000) := nrng (H.nle 6 (by decide)) (show (N 6 : Int) = n6 from en6)
  have r7 : HID ((0 : Int) ≤ n7 ∧ n7 ≤ 1000000) := nrng (H.nle 7 (by decide)) (show (N 7 : Int) = n7 from en7)
  have r8 : HID ((0 : Int) ≤ n8 ∧ n8 ≤ 1000000) := nrng (H.nle 8 (by decide)) (show (N 8 : Int) = n8 from en8)
  have r9 : HID ((0 : Int) ≤ n10 ∧ n10 ≤ 1000000) := nrng (H.nle 10 (by decide)) (show (N 10 : Int) = n10 from en10)
  have r10 : HID ((0 : Int) ≤ n11 ∧ n11 ≤ 1000000) := nrng (H.nle 11 (by decide)) (show (N 11 : Int) = n11 from en11)
  refine Ew_of (pcₚ := 241) (fun _ => x_istore rfl) ?_
  refine Ew_of (pcₚ := 242) (fun _ => x_aload_n rfl (rk_o (hl0) rfl rfl)) ?_
  refine v_g H (o := 0) (v := .ref (D 7)) rfl rfl rfl rfl rfl (vrf (pf7)) ?_
  refine Ew_of (pcₚ := 246) (fun _ => x_iconst rfl) ?_
  refine Ew_of (pcₚ := 247) (fun _ => x_dup2 rfl rfl rfl) ?_
  refine v_lI H (o := 7) rfl rfl rfl rfl (n := n7) (en7) (show 0 ≤ 0 ∧ 0 < n7 by have qh0 := HIDe r7; omega) (fun v11 ev11 qv11 => ?_)
  replace qv11 := HIDm qv11
  have ev11 : (A 7) (0) = v11 := (congrFun (rfl : A 7 = A 7) (0)).symm.trans ev11
  refine Ew_of (pcₚ := 250) (fun _ => x_iload rfl rk_s) ?_
  refine Ew_of (pcₚ := 252) (fun _ => x_aload rfl (rk_o (hl4) rfl rfl)) ?_
  refine v_g H (o := 1) (v := I (u1_1)) rfl rfl rfl rfl rfl (congrArg (fun z : Int => I z) ((eu1_1) : F 1 1 = u1_1)) ?_
  refine w_icmpne (t := 274) rfl rfl (show inr (y0) by omega) (show inr (u1_1) by have qh0 := HIDe r1; omega) (fun b12 => ?_) (fun b12 => ?_)
  · refine Ew_of (pcₚ := 275) (fun _ => x_iconst rfl) ?_
    refine w_iaddA rfl (fun z13 gz13 => ?_)
    refine v_sI H (o := 7) (z := z13) rfl rfl rfl rfl (n := n7) (en7) (show 0 ≤ 0 ∧ 0 < n7 by have qh0 := HIDe r7; omega) (show inr (z13) by omega) (fun σ H Oₚ => ?_)
    have O := OUT_trans O Oₚ
    refine Ew_of (pcₚ := 278) (fun _ => x_aload_n rfl (rk_o (hl0) rfl rfl)) ?_
    refine v_g H (o := 0) (v := .ref (D 7)) rfl rfl rfl rfl rfl (vrf (pf7)) ?_
    refine Ew_of (pcₚ := 282) (fun _ => x_iconst rfl) ?_
    refine Ew_of (pcₚ := 283) (fun _ => x_dup2 rfl rfl rfl) ?_
    refine v_lI H (o := 7) rfl rfl rfl rfl (n := n7) (en7) (show 0 ≤ 1 ∧ 1 < n7 by have qh0 := HIDe r7; omega) (fun v14 ev14 qv14 => ?_)
    replace qv14 := HIDm qv14
    have ev14 : (upd1 (A 7) (0) (z13)) (1) = v14 := (congrFun (rfl : (updA A 7 (0) (z13)) 7 = upd1 (A 7) (0) (z13)) (1)).symm.trans ev14
    refine Ew_of (pcₚ := 285) (fun _ => x_aload_n rfl (rk_o (hl0) rfl rfl)) ?_
    refine v_g H (o := 0) (v := .ref (D 2)) rfl rfl rfl rfl rfl (vrf (pf2)) ?_
    refine v_g H (o := 2) (v := I (u2_1)) rfl rfl rfl rfl rfl (congrArg (fun z : Int => I z) ((eu2_1) : F 2 1 = u2_1)) ?_
    refine Ew_of (pcₚ := 292) (fun _ => x_aload_n rfl (rk_o (hl0) rfl rfl)) ?_
    refine Ew_of (pcₚ := 293) (fun _ => x_iload_n rfl (rk_o (hl3) rfl rfl)) ?_
    refine Ew_of (pcₚ := 295) (fun _ => x_aload rfl (rk_o (hl4) rfl rfl)) ?_
    refine v_g H (o := 1) (v := I (u1_1)) rfl rfl rfl rfl rfl (congrArg (fun z : Int => I z) ((eu1_1) : F 1 1 = u1_1)) ?_
    refine v_inv H (o := 0) rfl rfl rfl rfl rfl rfl (by rfl) (C34 (D := pul [0, 11] D) (N := pul [0, 11] N) (HW_sub H (VS_of (show vsub V17_ve4 V34 [0, 11] = true by decide +kernel))) (pf11) (n11) (en11) (w11) (ew11) (show inr (4) by omega) (show inr (u1_1) by have qh0 := HIDe r1; omega) (show 0 ≤ (u1_1) ∧ (u1_1) ≤ 16384 by have qh0 := HIDe r1; omega) (show 1 ≤ ((w11)) 2 ∧ ((w11)) 2 ≤ 65536 by omega) (show 0 ≤ ((w11)) 8 ∧ ((w11)) 8 ≤ 11 by omega) (show 0 ≤ ((w11)) 6 ∧ ((w11)) 6 ≤ 255 by omega) (show (n11) = 10 by have qh0 := HIDe r10; omega) (fun z15 σ15 F15ₚ A15ₚ Hₚ Oₚ hS15 hA15 pz15_0 => ⟨rfl, ?_⟩))
    refine v_back (c := c) (s := s) H (show vsub V17_ve4 V34 [0, 11] = true by decide +kernel) Hₚ Oₚ (fun F15 A15 H Oₚ eF15 eA15 => ?_)
    have O := OUT_trans O Oₚ
    -- PackHouse.boundOf
    have hc309 : ∀ (tc309_0 : Int), ∀ (ls : rO) (σ : rS) (F_c309 : hF) (A_c309 : hA) , rlook ls 0 = some (.ref (D 0)) → rlook ls 1 = some (I (x1)) → rlook ls 3 = some (I (4)) → HW V17_ve4 σ D N F_c309 A_c309 → OUT (V17_ve4).length D N σE c s D N σ c s → SF [] F15 F_c309 → SA [] A15 A_c309 → (inr (tc309_0)) → (((u2_1) ≤ (z15) ∧ (tc309_0) = (0)) ∨ ((u2_1) > (z15) ∧ (tc309_0) = (1))) → Ew 17 (d + 3) 309 ls [I (tc309_0), I (v14), I (1), .ref (D 7)] σ c s Q := by
     as_aux_lemma =>
      intro tc309_0 ls σ F_c309 A_c309  lc309_0 lc309_1 lc309_3 H O hS_c309 hA_c309     jc309_0 jc309_1
      refine w_iaddA rfl (fun z16 gz16 => ?_)
      refine v_sI H (o := 7) (z := z16) rfl rfl rfl rfl (n := n7) (en7) (show 0 ≤ 1 ∧ 1 < n7 by have qh0 := HIDe r7; omega) (show inr (z16) by omega) (fun σ H Oₚ => ?_)
      have O := OUT_trans O Oₚ
      refine Ew_of (pcₚ := 312) (fun _ => x_iload_n rfl lc309_3) ?_
      refine Ew_of (pcₚ := 313) (fun _ => x_iconst rfl) ?_
      refine w_icmpne (t := 337) rfl rfl (show inr (4) by omega) (show inr (4) by omega) (fun b17 => ?_) (fun b17 => ?_)
      · exact absurd b17 (by omega)
      · refine Ew_of (pcₚ := 317) (fun _ => x_aload_n rfl lc309_0) ?_
        refine v_g H (o := 0) (v := .ref (D 9)) rfl rfl rfl rfl rfl (vrf ((((hS_c309 0 11 rfl).trans ((show F15 0 11 = F 0 11 from (eF15 0 11).trans (hS15 0 11 rfl))))).trans (pf9))) ?_
        refine v_g H (o := 9) (v := .ref (D 10)) rfl rfl rfl rfl rfl (vrf ((((hS_c309 9 18 rfl).trans ((show F15 9 18 = F 9 18 from (eF15 9 18))))).trans (pf10))) ?_
        refine Ew_of (pcₚ := 324) (fun _ => x_iconst rfl) ?_
        refine Ew_of (pcₚ := 325) (fun _ => x_aload_n rfl lc309_0) ?_
        refine v_g H (o := 0) (v := .ref (D 8)) rfl rfl rfl rfl rfl (vrf ((((hS_c309 0 13 rfl).trans ((show F15 0 13 = F 0 13 from (eF15 0 13).trans (hS15 0 13 rfl))))).trans (pf8))) ?_
        refine Ew_of (pcₚ := 329) (fun _ => x_iconst rfl) ?_
        refine Ew_of (pcₚ := 330) (fun _ => x_aload_n rfl lc309_0) ?_
        refine v_g H (o := 0) (v := .ref (D 8)) rfl rfl rfl rfl rfl (vrf ((((hS_c309 0 13 rfl).trans ((show F15 0 13 = F 0 13 from (eF15 0 13).trans (hS15 0 13 rfl))))).trans (pf8))) ?_
        refine v_len H (o := 8) rfl rfl rfl rfl (n := n8) (en8) ?_
        refine v_cpy H (t := 8) (t0 := 10) rfl rfl rfl rfl rfl rfl rfl rfl (n := n8) (en8) (n0 := n10) (en10) (show 0 ≤ n8 ∧ 0 ≤ 0 ∧ 0 ≤ 0 ∧ 0 + n8 ≤ n10 ∧ 0 + n8 ≤ n8 by have qh0 := HIDe r8; have qh1 := HIDe r9; omega) (fun σ A18 H Oₚ hA18 ga18 gb18 => ?_)
        have gb18 : ∀ i, i < 0 ∨ 0 + n8 ≤ i → A18 8 i = (A 8) i := fun i a => (gb18 i a).trans (congrFun ((funext (hA_c309 8 rfl)).trans ((show A15 8 = (updA A 7 (0) (z13)) 8 from (eA15 8)))) i)
        have ga18 : ∀ i, 0 ≤ i → i < 0 + n8 → A18 8 i = (A 10) (0 + (i - 0)) := fun i a b => (ga18 i a b).trans (congrFun ((funext (hA_c309 10 rfl)).trans ((show A15 10 = (updA A 7 (0) (z13)) 10 from (eA15 10)))) _)
        have O := OUT_trans O Oₚ
        exact hc337  _ _ _ _  (lc309_0) (lc309_1) H O (SF_trans (SF_trans (SF_refl) (SF_glu (ι := [0, 11]) hS15 eF15 (by decide +kernel)) (any_sub (lₚ := []) rfl)) hS_c309 (any_sub rfl)) (SA_trans (SA_upd (SA_trans (SA_trans (SA_upd (SA_refl) rfl) (SA_glu (ι := [0, 11]) hA15 eA15 (by decide +kernel)) (any_subA (lₚ := []) rfl)) hA_c309 (any_subA rfl)) rfl) hA18 (any_subA rfl))     (show 0 ≤ (u2_1) ∧ (u2_1) ≤ (n3) ∧ (n3) ≤ 65536 by have qh0 := HIDe r2; have qh1 := HIDe r4; omega)
    refine w_icmple (t := 308) rfl rfl (show inr (u2_1) by have qh0 := HIDe r2; omega) (show inr (z15) by omega) (fun b19 => ?_) (fun b19 => ?_)
    · refine Ew_of (pcₚ := 309) (fun _ => x_iconst rfl) ?_
      exact hc309 (0) _ _ _ _  (rk_o (hl0) rfl rfl) (rk_o (hl1) rfl rfl) (rk_o (hl3) rfl rfl) H O (SF_refl) (SA_refl)     (show inr (0) by omega) (show ((u2_1) ≤ (z15) ∧ (0) = (0)) ∨ ((u2_1) > (z15) ∧ (0) = (1)) by have qh0 := HIDe r2; omega)
    · refine Ew_of (pcₚ := 305) (fun _ => x_iconst rfl) ?_
      refine Ew_of (pcₚ := 309) (fun _ => x_goto rfl rfl) ?_
      exact hc309 (1) _ _ _ _  (rk_o (hl0) rfl rfl) (rk_o (hl1) rfl rfl) (rk_o (hl3) rfl rfl) H O (SF_refl) (SA_refl)     (show inr (1) by omega) (show ((u2_1) ≤ (z15) ∧ (1) = (0)) ∨ ((u2_1) > (z15) ∧ (1) = (1)) by have qh0 := HIDe r2; omega)
  · refine Ew_of (pcₚ := 259) (fun _ => x_aload_n rfl (rk_o (hl0) rfl rfl)) ?_
    refine v_g H (o := 0) (v := .ref (D 4)) rfl rfl rfl rfl rfl (vrf (pf4)) ?_
    refine Ew_of (pcₚ := 264) (fun _ => x_aload rfl (rk_o (hl4) rfl rfl)) ?_
    refine w_stat24 rfl rfl (by rfl) (C29_Row_Row (D := pul [4, 1, 5, 6] D) (N := pul [4, 1, 5, 6] N) (HW_sub H (VS_of (show vsub V17_ve4 V29_Row_Row [4, 1, 5, 6] = true by decide +kernel))) (pf5) (pf6) (n5) (en5) (n6) (en6) (u4_1) ((eu4_1)) (u1_1) ((eu1_1)) (show 0 ≤ (u4_1) ∧ (u4_1) ≤ (n5) ∧ (n5) ≤ 65536 by have qh0 := HIDe r3; have qh1 := HIDe r5; omega) (show 0 ≤ (u1_1) ∧ (u1_1) ≤ (n6) ∧ (n6) ≤ 65536 by have qh0 := HIDe r1; have qh1 := HIDe r6; omega) (fun z20 σ20 F20ₚ A20ₚ Hₚ Oₚ hS20 hA20 pz20_0 => ⟨rfl, ?_⟩))
    refine v_back (c := c) (s := s) H (show vsub V17_ve4 V29_Row_Row [4, 1, 5, 6] = true by decide +kernel) Hₚ Oₚ (fun F20 A20 H Oₚ eF20 eA20 => ?_)
    have O := OUT_trans O Oₚ
    -- PackHouse.firstUnlike
    refine w_ifge (t := 274) rfl rfl (show inr (z20) by omega) (fun b21 => ?_) (fun b21 => ?_)
    · refine Ew_of (pcₚ := 275) (fun _ => x_iconst rfl) ?_
      refine w_iaddA rfl (fun z22 gz22 => ?_)
      refine v_sI H (o := 7) (z := z22) rfl rfl rfl rfl (n := n7) (en7) (show 0 ≤ 0 ∧ 0 < n7 by have qh0 := HIDe r7; omega) (show inr (z22) by omega) (fun σ H Oₚ => ?_)
      have O := OUT_trans O Oₚ
      refine Ew_of (pcₚ := 278) (fun _ => x_aload_n rfl (rk_o (hl0) rfl rfl)) ?_
      refine v_g H (o := 0) (v := .ref (D 7)) rfl rfl rfl rfl rfl (vrf ((((show F20 0 16 = F 0 16 from (eF20 0 16)))).trans (pf7))) ?_
      refine Ew_of (pcₚ := 282) (fun _ => x_iconst rfl) ?_
      refine Ew_of (pcₚ := 283) (fun _ => x_dup2 rfl rfl rfl) ?_
      refine v_lI H (o := 7) rfl rfl rfl rfl (n := n7) (en7) (show 0 ≤ 1 ∧ 1 < n7 by have qh0 := HIDe r7; omega) (fun v23 ev23 qv23 => ?_)
      replace qv23 := HIDm qv23
      have ev23 : (upd1 (A 7) (0) (z22)) (1) = v23 := (congrFun (congrArg (fun q => upd1 q (0) (z22)) ((show A20 7 = A 7 from (eA20 7)))) (1)).symm.trans ev23
      refine Ew_of (pcₚ := 285) (fun _ => x_aload_n rfl (rk_o (hl0) rfl rfl)) ?_
      refine v_g H (o := 0) (v := .ref (D 2)) rfl rfl rfl rfl rfl (vrf ((((show F20 0 5 = F 0 5 from (eF20 0 5)))).trans (pf2))) ?_
      refine v_g H (o := 2) (v := I (u2_1)) rfl rfl rfl rfl rfl (congrArg (fun z : Int => I z) ((((show F20 2 1 = F 2 1 from (eF20 2 1))).trans (eu2_1)) : F20 2 1 = u2_1)) ?_
      refine Ew_of (pcₚ := 292) (fun _ => x_aload_n rfl (rk_o (hl0) rfl rfl)) ?_
      refine Ew_of (pcₚ := 293) (fun _ => x_iload_n rfl (rk_o (hl3) rfl rfl)) ?_
      refine Ew_of (pcₚ := 295) (fun _ => x_aload rfl (rk_o (hl4) rfl rfl)) ?_
      refine v_g H (o := 1) (v := I (u1_1)) rfl rfl rfl rfl rfl (congrArg (fun z : Int => I z) ((((show F20 1 1 = F 1 1 from (eF20 1 1).trans (hS20 1 1 rfl))).trans (eu1_1)) : F20 1 1 = u1_1)) ?_
      refine v_inv H (o := 0) rfl rfl rfl rfl rfl rfl (by rfl) (C34 (D := pul [0, 11] D) (N := pul [0, 11] N) (HW_sub H (VS_of (show vsub V17_ve4 V34 [0, 11] = true by decide +kernel))) ((((show F20 0 1 = F 0 1 from (eF20 0 1)))).trans (pf11)) (n11) (en11) (w11) (((show A20 11 = A 11 from (eA20 11))).trans (ew11)) (show inr (4) by omega) (show inr (u1_1) by have qh0 := HIDe r1; omega) (show 0 ≤ (u1_1) ∧ (u1_1) ≤ 16384 by have qh0 := HIDe r1; omega) (show 1 ≤ ((w11)) 2 ∧ ((w11)) 2 ≤ 65536 by omega) (show 0 ≤ ((w11)) 8 ∧ ((w11)) 8 ≤ 11 by omega) (show 0 ≤ ((w11)) 6 ∧ ((w11)) 6 ≤ 255 by omega) (show (n11) = 10 by have qh0 := HIDe r10; omega) (fun z24 σ24 F24ₚ A24ₚ Hₚ Oₚ hS24 hA24 pz24_0 => ⟨rfl, ?_⟩))
      refine v_back (c := c) (s := s) H (show vsub V17_ve4 V34 [0, 11] = true by decide +kernel) Hₚ Oₚ (fun F24 A24 H Oₚ eF24 eA24 => ?_)
      have O := OUT_trans O Oₚ
      -- PackHouse.boundOf
      have hc309 : ∀ (tc309_0 : Int), ∀ (ls : rO) (σ : rS) (F_c309 : hF) (A_c309 : hA) , rlook ls 0 = some (.ref (D 0)) → rlook ls 1 = some (I (x1)) → rlook ls 3 = some (I (4)) → HW V17_ve4 σ D N F_c309 A_c309 → OUT (V17_ve4).length D N σE c s D N σ c s → SF [] F24 F_c309 → SA [] A24 A_c309 → (inr (tc309_0)) → (((u2_1) ≤ (z24) ∧ (tc309_0) = (0)) ∨ ((u2_1) > (z24) ∧ (tc309_0) = (1))) → Ew 17 (d + 3) 309 ls [I (tc309_0), I (v23), I (1), .ref (D 7)] σ c s Q := by
       as_aux_lemma =>
        intro tc309_0 ls σ F_c309 A_c309  lc309_0 lc309_1 lc309_3 H O hS_c309 hA_c309     jc309_0 jc309_1
        refine w_iaddA rfl (fun z25 gz25 => ?_)
        refine v_sI H (o := 7) (z := z25) rfl rfl rfl rfl (n := n7) (en7) (show 0 ≤ 1 ∧ 1 < n7 by have qh0 := HIDe r7; omega) (show inr (z25) by omega) (fun σ H Oₚ => ?_)
        have O := OUT_trans O Oₚ
        refine Ew_of (pcₚ := 312) (fun _ => x_iload_n rfl lc309_3) ?_
        refine Ew_of (pcₚ := 313) (fun _ => x_iconst rfl) ?_
        refine w_icmpne (t := 337) rfl rfl (show inr (4) by omega) (show inr (4) by omega) (fun b26 => ?_) (fun b26 => ?_)
        · exact absurd b26 (by omega)
        · refine Ew_of (pcₚ := 317) (fun _ => x_aload_n rfl lc309_0) ?_
          refine v_g H (o := 0) (v := .ref (D 9)) rfl rfl rfl rfl rfl (vrf (((((hS_c309 0 11 rfl).trans ((show F24 0 11 = F20 0 11 from (eF24 0 11).trans (hS24 0 11 rfl)))).trans ((show F20 0 11 = F 0 11 from (eF20 0 11))))).trans (pf9))) ?_
          refine v_g H (o := 9) (v := .ref (D 10)) rfl rfl rfl rfl rfl (vrf (((((hS_c309 9 18 rfl).trans ((show F24 9 18 = F20 9 18 from (eF24 9 18)))).trans ((show F20 9 18 = F 9 18 from (eF20 9 18))))).trans (pf10))) ?_
          refine Ew_of (pcₚ := 324) (fun _ => x_iconst rfl) ?_
          refine Ew_of (pcₚ := 325) (fun _ => x_aload_n rfl lc309_0) ?_
          refine v_g H (o := 0) (v := .ref (D 8)) rfl rfl rfl rfl rfl (vrf (((((hS_c309 0 13 rfl).trans ((show F24 0 13 = F20 0 13 from (eF24 0 13).trans (hS24 0 13 rfl)))).trans ((show F20 0 13 = F 0 13 from (eF20 0 13))))).trans (pf8))) ?_
          refine Ew_of (pcₚ := 329) (fun _ => x_iconst rfl) ?_
          refine Ew_of (pcₚ := 330) (fun _ => x_aload_n rfl lc309_0) ?_
          refine v_g H (o := 0) (v := .ref (D 8)) rfl rfl rfl rfl rfl (vrf (((((hS_c309 0 13 rfl).trans ((show F24 0 13 = F20 0 13 from (eF24 0 13).trans (hS24 0 13 rfl)))).trans ((show F20 0 13 = F 0 13 from (eF20 0 13))))).trans (pf8))) ?_
          refine v_len H (o := 8) rfl rfl rfl rfl (n := n8) (en8) ?_
          refine v_cpy H (t := 8) (t0 := 10) rfl rfl rfl rfl rfl rfl rfl rfl (n := n8) (en8) (n0 := n10) (en10) (show 0 ≤ n8 ∧ 0 ≤ 0 ∧ 0 ≤ 0 ∧ 0 + n8 ≤ n10 ∧ 0 + n8 ≤ n8 by have qh0 := HIDe r8; have qh1 := HIDe r9; omega) (fun σ A27 H Oₚ hA27 ga27 gb27 => ?_)
          have gb27 : ∀ i, i < 0 ∨ 0 + n8 ≤ i → A27 8 i = (A 8) i := fun i a => (gb27 i a).trans (congrFun ((funext (hA_c309 8 rfl)).trans (((show A24 8 = (updA A20 7 (0) (z22)) 8 from (eA24 8))).trans ((show A20 8 = A 8 from (eA20 8))))) i)
          have ga27 : ∀ i, 0 ≤ i → i < 0 + n8 → A27 8 i = (A 10) (0 + (i - 0)) := fun i a b => (ga27 i a b).trans (congrFun ((funext (hA_c309 10 rfl)).trans (((show A24 10 = (updA A20 7 (0) (z22)) 10 from (eA24 10))).trans ((show A20 10 = A 10 from (eA20 10))))) _)
          have O := OUT_trans O Oₚ
          exact hc337  _ _ _ _  (lc309_0) (lc309_1) H O (SF_trans (SF_trans (SF_trans (SF_refl) (SF_glu (ι := [4, 1, 5, 6]) hS20 eF20 (by decide +kernel)) (any_sub (lₚ := []) rfl)) (SF_glu (ι := [0, 11]) hS24 eF24 (by decide +kernel)) (any_sub (lₚ := []) rfl)) hS_c309 (any_sub rfl)) (SA_trans (SA_upd (SA_trans (SA_trans (SA_upd (SA_trans (SA_refl) (SA_glu (ι := [4, 1, 5, 6]) hA20 eA20 (by decide +kernel)) (any_subA (lₚ := []) rfl)) rfl) (SA_glu (ι := [0, 11]) hA24 eA24 (by decide +kernel)) (any_subA (lₚ := []) rfl)) hA_c309 (any_subA rfl)) rfl) hA27 (any_subA rfl))     (show 0 ≤ (u2_1) ∧ (u2_1) ≤ (n3) ∧ (n3) ≤ 65536 by have qh0 := HIDe r2; have qh1 := HIDe r4; omega)
      refine w_icmple (t := 308) rfl rfl (show inr (u2_1) by have qh0 := HIDe r2; omega) (show inr (z24) by omega) (fun b28 => ?_) (fun b28 => ?_)
      · refine Ew_of (pcₚ := 309) (fun _ => x_iconst rfl) ?_
        exact hc309 (0) _ _ _ _  (rk_o (hl0) rfl rfl) (rk_o (hl1) rfl rfl) (rk_o (hl3) rfl rfl) H O (SF_refl) (SA_refl)     (show inr (0) by omega) (show ((u2_1) ≤ (z24) ∧ (0) = (0)) ∨ ((u2_1) > (z24) ∧ (0) = (1)) by have qh0 := HIDe r2; omega)
      · refine Ew_of (pcₚ := 305) (fun _ => x_iconst rfl) ?_
        refine Ew_of (pcₚ := 309) (fun _ => x_goto rfl rfl) ?_
        exact hc309 (1) _ _ _ _  (rk_o (hl0) rfl rfl) (rk_o (hl1) rfl rfl) (rk_o (hl3) rfl rfl) H O (SF_refl) (SA_refl)     (show inr (1) by omega) (show ((u2_1) ≤ (z24) ∧ (1) = (0)) ∨ ((u2_1) > (z24) ∧ (1) = (1)) by have qh0 := HIDe r2; omega)
    · refine Ew_of (pcₚ := 271) (fun _ => x_iconst rfl) ?_
      refine Ew_of (pcₚ := 275) (fun _ => x_goto rfl rfl) ?_
      refine w_iaddA rfl (fun z29 gz29 => ?_)
      refine v_sI H (o := 7) (z := z29) rfl rfl rfl rfl (n := n7) (en7) (show 0 ≤ 0 ∧ 0 < n7 by have qh0 := HIDe r7; omega) (show inr (z29) by omega) (fun σ H Oₚ => ?_)
      have O := OUT_trans O Oₚ
      refine Ew_of (pcₚ := 278) (fun _ => x_aload_n rfl (rk_o (hl0) rfl rfl)) ?_
      refine v_g H (o := 0) (v := .ref (D 7)) rfl rfl rfl rfl rfl (vrf ((((show F20 0 16 = F 0 16 from (eF20 0 16)))).trans (pf7))) ?_
      refine Ew_of (pcₚ := 282) (fun _ => x_iconst rfl) ?_
      refine Ew_of (pcₚ := 283) (fun _ => x_dup2 rfl rfl rfl) ?_
      refine v_lI H (o := 7) rfl rfl rfl rfl (n := n7) (en7) (show 0 ≤ 1 ∧ 1 < n7 by have qh0 := HIDe r7; omega) (fun v30 ev30 qv30 => ?_)
      replace qv30 := HIDm qv30
      have ev30 : (upd1 (A 7) (0) (z29)) (1) = v30 := (congrFun (congrArg (fun q => upd1 q (0) (z29)) ((show A20 7 = A 7 from (eA20 7)))) (1)).symm.trans ev30
      refine Ew_of (pcₚ := 285) (fun _ => x_aload_n rfl (rk_o (hl0) rfl rfl)) ?_
      refine v_g H (o := 0) (v := .ref (D 2)) rfl rfl rfl rfl rfl (vrf ((((show F20 0 5 = F 0 5 from (eF20 0 5)))).trans (pf2))) ?_
      refine v_g H (o := 2) (v := I (u2_1)) rfl rfl rfl rfl rfl (congrArg (fun z : Int => I z) ((((show F20 2 1 = F 2 1 from (eF20 2 1))).trans (eu2_1)) : F20 2 1 = u2_1)) ?_
      refine Ew_of (pcₚ := 292) (fun _ => x_aload_n rfl (rk_o (hl0) rfl rfl)) ?_
      refine Ew_of (pcₚ := 293) (fun _ => x_iload_n rfl (rk_o (hl3) rfl rfl)) ?_
      refine Ew_of (pcₚ := 295) (fun _ => x_aload rfl (rk_o (hl4) rfl rfl)) ?_
      refine v_g H (o := 1) (v := I (u1_1)) rfl rfl rfl rfl rfl (congrArg (fun z : Int => I z) ((((show F20 1 1 = F 1 1 from (eF20 1 1).trans (hS20 1 1 rfl))).trans (eu1_1)) : F20 1 1 = u1_1)) ?_
      refine v_inv H (o := 0) rfl rfl rfl rfl rfl rfl (by rfl) (C34 (D := pul [0, 11] D) (N := pul [0, 11] N) (HW_sub H (VS_of (show vsub V17_ve4 V34 [0, 11] = true by decide +kernel))) ((((show F20 0 1 = F 0 1 from (eF20 0 1)))).trans (pf11)) (n11) (en11) (w11) (((show A20 11 = A 11 from (eA20 11))).trans (ew11)) (show inr (4) by omega) (show inr (u1_1) by have qh0 := HIDe r1; omega) (show 0 ≤ (u1_1) ∧ (u1_1) ≤ 16384 by have qh0 := HIDe r1; omega) (show 1 ≤ ((w11)) 2 ∧ ((w11)) 2 ≤ 65536 by omega) (show 0 ≤ ((w11)) 8 ∧ ((w11)) 8 ≤ 11 by omega) (show 0 ≤ ((w11)) 6 ∧ ((w11)) 6 ≤ 255 by omega) (show (n11) = 10 by have qh0 := HIDe r10; omega) (fun z31 σ31 F31ₚ A31ₚ Hₚ Oₚ hS31 hA31 pz31_0 => ⟨rfl, ?_⟩))
      refine v_back (c := c) (s := s) H (show vsub V17_ve4 V34 [0, 11] = true by decide +kernel) Hₚ Oₚ (fun F31 A31 H Oₚ eF31 eA31 => ?_)
      have O := OUT_trans O Oₚ
      -- PackHouse.boundOf
      have hc309 : ∀ (tc309_0 : Int), ∀ (ls : rO) (σ : rS) (F_c309 : hF) (A_c309 : hA) , rlook ls 0 = some (.ref (D 0)) → rlook ls 1 = some (I (x1)) → rlook ls 3 = some (I (4)) → HW V17_ve4 σ D N F_c309 A_c309 → OUT (V17_ve4).length D N σE c s D N σ c s → SF [] F31 F_c309 → SA [] A31 A_c309 → (inr (tc309_0)) → (((u2_1) ≤ (z31) ∧ (tc309_0) = (0)) ∨ ((u2_1) > (z31) ∧ (tc309_0) = (1))) → Ew 17 (d + 3) 309 ls [I (tc309_0), I (v30), I (1), .ref (D 7)] σ c s Q := by
       as_aux_lemma =>
        intro tc309_0 ls σ F_c309 A_c309  lc309_0 lc309_1 lc309_3 H O hS_c309 hA_c309     jc309_0 jc309_1
        refine w_iaddA rfl (fun z32 gz32 => ?_)
        refine v_sI H (o := 7) (z := z32) rfl rfl rfl rfl (n := n7) (en7) (show 0 ≤ 1 ∧ 1 < n7 by have qh0 := HIDe r7; omega) (show inr (z32) by omega) (fun σ H Oₚ => ?_)
        have O := OUT_trans O Oₚ
        refine Ew_of (pcₚ := 312) (fun _ => x_iload_n rfl lc309_3) ?_
        refine Ew_of (pcₚ := 313) (fun _ => x_iconst rfl) ?_
        refine w_icmpne (t := 337) rfl rfl (show inr (4) by omega) (show inr (4) by omega) (fun b33 => ?_) (fun b33 => ?_)
        · exact absurd b33 (by omega)
        · refine Ew_of (pcₚ := 317) (fun _ => x_aload_n rfl lc309_0) ?_
          refine v_g H (o := 0) (v := .ref (D 9)) rfl rfl rfl rfl rfl (vrf (((((hS_c309 0 11 rfl).trans ((show F31 0 11 = F20 0 11 from (eF31 0 11).trans (hS31 0 11 rfl)))).trans ((show F20 0 11 = F 0 11 from (eF20 0 11))))).trans (pf9))) ?_
          refine v_g H (o := 9) (v := .ref (D 10)) rfl rfl rfl rfl rfl (vrf (((((hS_c309 9 18 rfl).trans ((show F31 9 18 = F20 9 18 from (eF31 9 18)))).trans ((show F20 9 18 = F 9 18 from (eF20 9 18))))).trans (pf10))) ?_
          refine Ew_of (pcₚ := 324) (fun _ => x_iconst rfl) ?_
          refine Ew_of (pcₚ := 325) (fun _ => x_aload_n rfl lc309_0) ?_
          refine v_g H (o := 0) (v := .ref (D 8)) rfl rfl rfl rfl rfl (vrf (((((hS_c309 0 13 rfl).trans ((show F31 0 13 = F20 0 13 from (eF31 0 13).trans (hS31 0 13 rfl)))).trans ((show F20 0 13 = F 0 13 from (eF20 0 13))))).trans (pf8))) ?_
          refine Ew_of (pcₚ := 329) (fun _ => x_iconst rfl) ?_
          refine Ew_of (pcₚ := 330) (fun _ => x_aload_n rfl lc309_0) ?_
          refine v_g H (o := 0) (v := .ref (D 8)) rfl rfl rfl rfl rfl (vrf (((((hS_c309 0 13 rfl).trans ((show F31 0 13 = F20 0 13 from (eF31 0 13).trans (hS31 0 13 rfl)))).trans ((show F20 0 13 = F 0 13 from (eF20 0 13))))).trans (pf8))) ?_
          refine v_len H (o := 8) rfl rfl rfl rfl (n := n8) (en8) ?_
          refine v_cpy H (t := 8) (t0 := 10) rfl rfl rfl rfl rfl rfl rfl rfl (n := n8) (en8) (n0 := n10) (en10) (show 0 ≤ n8 ∧ 0 ≤ 0 ∧ 0 ≤ 0 ∧ 0 + n8 ≤ n10 ∧ 0 + n8 ≤ n8 by have qh0 := HIDe r8; have qh1 := HIDe r9; omega) (fun σ A34 H Oₚ hA34 ga34 gb34 => ?_)
          have gb34 : ∀ i, i < 0 ∨ 0 + n8 ≤ i → A34 8 i = (A 8) i := fun i a => (gb34 i a).trans (congrFun ((funext (hA_c309 8 rfl)).trans (((show A31 8 = (updA A20 7 (0) (z29)) 8 from (eA31 8))).trans ((show A20 8 = A 8 from (eA20 8))))) i)
          have ga34 : ∀ i, 0 ≤ i → i < 0 + n8 → A34 8 i = (A 10) (0 + (i - 0)) := fun i a b => (ga34 i a b).trans (congrFun ((funext (hA_c309 10 rfl)).trans (((show A31 10 = (updA A20 7 (0) (z29)) 10 from (eA31 10))).trans ((show A20 10 = A 10 from (eA20 10))))) _)
          have O := OUT_trans O Oₚ
          exact hc337  _ _ _ _  (lc309_0) (lc309_1) H O (SF_trans (SF_trans (SF_trans (SF_refl) (SF_glu (ι := [4, 1, 5, 6]) hS20 eF20 (by decide +kernel)) (any_sub (lₚ := []) rfl)) (SF_glu (ι := [0, 11]) hS31 eF31 (by decide +kernel)) (any_sub (lₚ := []) rfl)) hS_c309 (any_sub rfl)) (SA_trans (SA_upd (SA_trans (SA_trans (SA_upd (SA_trans (SA_refl) (SA_glu (ι := [4, 1, 5, 6]) hA20 eA20 (by decide +kernel)) (any_subA (lₚ := []) rfl)) rfl) (SA_glu (ι := [0, 11]) hA31 eA31 (by decide +kernel)) (any_subA (lₚ := []) rfl)) hA_c309 (any_subA rfl)) rfl) hA34 (any_subA rfl))     (show 0 ≤ (u2_1) ∧ (u2_1) ≤ (n3) ∧ (n3) ≤ 65536 by have qh0 := HIDe r2; have qh1 := HIDe r4; omega)
      refine w_icmple (t := 308) rfl rfl (show inr (u2_1) by have qh0 := HIDe r2; omega) (show inr (z31) by omega) (fun b35 => ?_) (fun b35 => ?_)
      · refine Ew_of (pcₚ := 309) (fun _ => x_iconst rfl) ?_
        exact hc309 (0) _ _ _ _  (rk_o (hl0) rfl rfl) (rk_o (hl1) rfl rfl) (rk_o (hl3) rfl rfl) H O (SF_refl) (SA_refl)     (show inr (0) by omega) (show ((u2_1) ≤ (z31) ∧ (0) = (0)) ∨ ((u2_1) > (z31) ∧ (0) = (1)) by have qh0 := HIDe r2; omega)
      · refine Ew_of (pcₚ := 305) (fun _ => x_iconst rfl) ?_
        refine Ew_of (pcₚ := 309) (fun _ => x_goto rfl rfl) ?_
        exact hc309 (1) _ _ _ _  (rk_o (hl0) rfl rfl) (rk_o (hl1) rfl rfl) (rk_o (hl3) rfl rfl) H O (SF_refl) (SA_refl)     (show inr (1) by omega) (show ((u2_1) ≤ (z31) ∧ (1) = (0)) ∨ ((u2_1) > (z31) ∧ (1) = (1)) by have qh0 := HIDe r2; omega)
abbrev V17_ve5 : vV := [(0, 0, [(4, 0), (4, 0), (4, 0), (4, 0), (4, 0), (4, 0), (4, 0), (4, 0), (4, 0), (4, 0), (4, 0), (4, 0), (4, 0), (4, 0), (4, 0), (4, 0), (4, 0), (0, 0), (0, 0)]), (0, 7, [(4, 0), (0, 0), (1, 0), (0, 0), (0, 0)]), (0, 7, [(4, 0), (0, 0), (1, 0), (0, 0), (0, 0)]), (1, 0, []), (1, 0, []), (1, 1, []), (1, 1, [])]
/-- PackHouse.write: this, @F, this.written, this.written.bytes, @F.bytes, this.strays, this.settings -/
theorem C17_ve5 {σE : rS} {D N : Nat → Nat} {F : hF} {A : hA} {d c s : Nat} {Q : wQ} (H : HW V17_ve5 σE D N F A) {x1 : Int} (pf2 : F 0 5 = (D 2 : Int)) (pf3 : F 2 0 = (D 3 : Int)) (pf4 : F 1 0 = (D 4 : Int)) (pf5 : F 0 16 = (D 5 : Int)) (pf6 : F 0 1 = (D 6 : Int)) (n3 : Int) (en3 : (N 3 : Int) = n3) (n4 : Int) (en4 : (N 4 : Int) = n4) (n5 : Int) (en5 : (N 5 : Int) = n5) (n6 : Int) (en6 : (N 6 : Int) = n6) (u1_1 : Int) (eu1_1 : F 1 1 = u1_1) (u2_1 : Int) (eu2_1 : F 2 1 = u2_1) (w6 : Int → Int) (ew6 : A 6 = w6) {ls : rO} (hl0 : rlook ls 0 = some (.ref (D 0))) (hl1 : rlook ls 1 = some (I (x1))) (hl3 : rlook ls 3 = some (I (5))) (hl4 : rlook ls 4 = some (.ref (D 1))) (h0 : inr (x1)) (h1 : 0 ≤ (u2_1) ∧ (u2_1) ≤ (n3) ∧ (n3) ≤ 65536) (h2 : 0 ≤ (u1_1) ∧ (u1_1) ≤ (n4) ∧ (n4) ≤ 65536) (h3 : (u1_1) ≤ 16384) (h4 : (n5) = 2) (h5 : 1 ≤ ((w6)) 2 ∧ ((w6)) 2 ≤ 65536) (h6 : 0 ≤ ((w6)) 8 ∧ ((w6)) 8 ≤ 11) (h7 : 0 ≤ ((w6)) 6 ∧ ((w6)) 6 ≤ 255) (h8 : (n6) = 10) (hc337 : ∀ (ls : rO) (σ : rS) (F_c337 : hF) (A_c337 : hA) , rlook ls 0 = some (.ref (D 0)) → rlook ls 1 = some (I (x1)) → HW V17_ve5 σ D N F_c337 A_c337 → OUT (V17_ve5).length D N σE c s D N σ c s → SF [] F F_c337 → SA [5] A A_c337 → (0 ≤ (u2_1) ∧ (u2_1) ≤ (n3) ∧ (n3) ≤ 65536) → Ew 17 (d + 3) 337 ls [] σ c s Q) (k : ∀ (z : Int) (σ : rS) (Fₚ : hF) (Aₚ : hA), HW V17_ve5 σ D N Fₚ Aₚ → OUT (V17_ve5).length D N σE c s D N σ c s → SF [] F Fₚ → SA [5] A Aₚ → (inr (z)) → ((0 : Int) = 1) → Q (some (I z)) σ c s) : Ew 17 (d + 3) 277 ls [] σE c s Q := by
  have O := OUT_refl (n := (V17_ve5).length) (D := D) (N := N) (σ := σE) (c := c) (s := s)
  have HE := H
  have r1 : HID ((-2147483648 : Int) ≤ u1_1 ∧ u1_1 ≤ 2147483647) := krg_e (show (-2147483648 : Int) ≤ F 1 1 ∧ F 1 1 ≤ 2147483647 from H.krg 1 1 (by decide)) (show F 1 1 = u1_1 from (eu1_1))
  have r2 : HID ((-2147483648 : Int) ≤ u2_1 ∧ u2_1 ≤ 2147483647) := krg_e (show (-2147483648 : Int) ≤ F 2 1 ∧ F 2 1 ≤ 2147483647 from H.krg 2 1 (by decide)) (show F 2 1 = u2_1 from (eu2_1))
  replace pf2 := HIDm pf2
  replace pf3 := HIDm pf3
  replace pf4 := HIDm pf4
  replace pf5 := HIDm pf5
  replace pf6 := HIDm pf6
  replace en3 := HIDm en3
  replace en4 := HIDm en4
  replace en5 := HIDm en5
  replace en6 := HIDm en6
  replace eu1_1 := HIDm eu1_1
  replace eu2_1 := HIDm eu2_1
  have r3 : HID ((0 : Int) ≤ n3 ∧ n3 ≤ 1000000) := nrng (H.nle 3 (by decide)) (show (N 3 : Int) = n3 from en3)
  have r4 : HID ((0 : Int) ≤ n4 ∧ n4 ≤ 1000000) := nrng (H.nle 4 (by decide)) (show (N 4 : Int) = n4 from en4)
  have r5 : HID ((0 : Int) ≤ n5 ∧ n5 ≤ 1000000) := nrng (H.nle 5 (by decide)) (show (N 5 : Int) = n5 from en5)
  have r6 : HID ((0 : Int) ≤ n6 ∧ n6 ≤ 1000000) := nrng (H.nle 6 (by decide)) (show (N 6 : Int) = n6 from en6)
  refine Ew_of (pcₚ := 278) (fun _ => x_aload_n rfl hl0) ?_
  refine v_g H (o := 0) (v := .ref (D 5)) rfl rfl rfl rfl rfl (vrf (pf5)) ?_
  refine Ew_of (pcₚ := 282) (fun _ => x_iconst rfl) ?_
  refine Ew_of (pcₚ := 283) (fun _ => x_dup2 rfl rfl rfl) ?_
  refine v_lI H (o := 5) rfl rfl rfl rfl (n := n5) (en5) (show 0 ≤ 1 ∧ 1 < n5 by have qh0 := HIDe r5; omega) (fun v7 ev7 qv7 => ?_)
  replace qv7 := HIDm qv7
  have ev7 : (A 5) (1) = v7 := (congrFun (rfl : A 5 = A 5) (1)).symm.trans ev7
  refine Ew_of (pcₚ := 285) (fun _ => x_aload_n rfl hl0) ?_
  refine v_g H (o := 0) (v := .ref (D 2)) rfl rfl rfl rfl rfl (vrf (pf2)) ?_
  refine v_g H (o := 2) (v := I (u2_1)) rfl rfl rfl rfl rfl (congrArg (fun z : Int => I z) ((eu2_1) : F 2 1 = u2_1)) ?_
  refine Ew_of (pcₚ := 292) (fun _ => x_aload_n rfl hl0) ?_
  refine Ew_of (pcₚ := 293) (fun _ => x_iload_n rfl hl3) ?_
  refine Ew_of (pcₚ := 295) (fun _ => x_aload rfl hl4) ?_
  refine v_g H (o := 1) (v := I (u1_1)) rfl rfl rfl rfl rfl (congrArg (fun z : Int => I z) ((eu1_1) : F 1 1 = u1_1)) ?_
  refine v_inv H (o := 0) rfl rfl rfl rfl rfl rfl (by rfl) (C34 (D := pul [0, 6] D) (N := pul [0, 6] N) (HW_sub H (VS_of (show vsub V17_ve5 V34 [0, 6] = true by decide +kernel))) (pf6) (n6) (en6) (w6) (ew6) (show inr (5) by omega) (show inr (u1_1) by have qh0 := HIDe r1; omega) (show 0 ≤ (u1_1) ∧ (u1_1) ≤ 16384 by have qh0 := HIDe r1; omega) (show 1 ≤ ((w6)) 2 ∧ ((w6)) 2 ≤ 65536 by omega) (show 0 ≤ ((w6)) 8 ∧ ((w6)) 8 ≤ 11 by omega) (show 0 ≤ ((w6)) 6 ∧ ((w6)) 6 ≤ 255 by omega) (show (n6) = 10 by have qh0 := HIDe r6; omega) (fun z8 σ8 F8ₚ A8ₚ Hₚ Oₚ hS8 hA8 pz8_0 => ⟨rfl, ?_⟩))
  refine v_back (c := c) (s := s) H (show vsub V17_ve5 V34 [0, 6] = true by decide +kernel) Hₚ Oₚ (fun F8 A8 H Oₚ eF8 eA8 => ?_)
  have O := OUT_trans O Oₚ
  -- PackHouse.boundOf
  have hc309 : ∀ (tc309_0 : Int), ∀ (ls : rO) (σ : rS) (F_c309 : hF) (A_c309 : hA) , rlook ls 0 = some (.ref (D 0)) → rlook ls 1 = some (I (x1)) → rlook ls 3 = some (I (5)) → HW V17_ve5 σ D N F_c309 A_c309 → OUT (V17_ve5).length D N σE c s D N σ c s → SF [] F8 F_c309 → SA [] A8 A_c309 → (inr (tc309_0)) → (((u2_1) ≤ (z8) ∧ (tc309_0) = (0)) ∨ ((u2_1) > (z8) ∧ (tc309_0) = (1))) → Ew 17 (d + 3) 309 ls [I (tc309_0), I (v7), I (1), .ref (D 5)] σ c s Q := by
   as_aux_lemma =>
    intro tc309_0 ls σ F_c309 A_c309  lc309_0 lc309_1 lc309_3 H O hS_c309 hA_c309     jc309_0 jc309_1
    refine w_iaddA rfl (fun z9 gz9 => ?_)
    refine v_sI H (o := 5) (z := z9) rfl rfl rfl rfl (n := n5) (en5) (show 0 ≤ 1 ∧ 1 < n5 by have qh0 := HIDe r5; omega) (show inr (z9) by omega) (fun σ H Oₚ => ?_)
    have O := OUT_trans O Oₚ
    refine Ew_of (pcₚ := 312) (fun _ => x_iload_n rfl lc309_3) ?_
    refine Ew_of (pcₚ := 313) (fun _ => x_iconst rfl) ?_
    refine w_icmpne (t := 337) rfl rfl (show inr (5) by omega) (show inr (4) by omega) (fun b10 => ?_) (fun b10 => ?_)
    · exact hc337  _ _ _ _  (lc309_0) (lc309_1) H O (SF_trans (SF_trans (SF_refl) (SF_glu (ι := [0, 6]) hS8 eF8 (by decide +kernel)) (any_sub (lₚ := []) rfl)) hS_c309 (any_sub rfl)) (SA_upd (SA_trans (SA_trans (SA_refl) (SA_glu (ι := [0, 6]) hA8 eA8 (by decide +kernel)) (any_subA (lₚ := []) rfl)) hA_c309 (any_subA rfl)) rfl)     (show 0 ≤ (u2_1) ∧ (u2_1) ≤ (n3) ∧ (n3) ≤ 65536 by have qh0 := HIDe r2; have qh1 := HIDe r3; omega)
    · exact absurd b10 (by omega)
  refine w_icmple (t := 308) rfl rfl (show inr (u2_1) by have qh0 := HIDe r2; omega) (show inr (z8) by omega) (fun b11 => ?_) (fun b11 => ?_)
  · refine Ew_of (pcₚ := 309) (fun _ => x_iconst rfl) ?_
    exact hc309 (0) _ _ _ _  (hl0) (hl1) (hl3) H O (SF_refl) (SA_refl)     (show inr (0) by omega) (show ((u2_1) ≤ (z8) ∧ (0) = (0)) ∨ ((u2_1) > (z8) ∧ (0) = (1)) by have qh0 := HIDe r2; omega)
  · refine Ew_of (pcₚ := 305) (fun _ => x_iconst rfl) ?_
    refine Ew_of (pcₚ := 309) (fun _ => x_goto rfl rfl) ?_
    exact hc309 (1) _ _ _ _  (hl0) (hl1) (hl3) H O (SF_refl) (SA_refl)     (show inr (1) by omega) (show ((u2_1) ≤ (z8) ∧ (1) = (0)) ∨ ((u2_1) > (z8) ∧ (1) = (1)) by have qh0 := HIDe r2; omega)
