abbrev V17_ve0 : vV := [(0, 0, [(4, 0), (4, 0), (4, 0), (4, 0), (4, 0), (4, 0), (4, 0), (4, 0), (4, 0), (4, 0), (4, 0), (4, 0), (4, 0), (4, 0), (4, 0), (4, 0), (4, 0), (0, 0), (0, 0)]), (0, 7, [(4, 0), (0, 0), (1, 0), (0, 0), (0, 0)]), (0, 7, [(4, 0), (0, 0), (1, 0), (0, 0), (0, 0)]), (1, 0, []), (0, 7, [(4, 0), (0, 0), (1, 0), (0, 0), (0, 0)]), (1, 0, []), (1, 0, []), (1, 1, []), (1, 1, [])]
/-- PackHouse.write: this, @F, this.written, this.written.bytes, this.content, this.content.bytes, @F.bytes, this.strays, this.settings -/
theorem C17_ve0 {σE : rS} {D N : Nat → Nat} {F : hF} {A : hA} {d c s : Nat} {Q : wQ} (H : HW V17_ve0 σE D N F A) {x1 y0 : Int} (pf2 : F 0 5 = (D 2 : Int)) (pf3 : F 2 0 = (D 3 : Int)) (pf4 : F 0 6 = (D 4 : Int)) (pf5 : F 4 0 = (D 5 : Int)) (pf6 : F 1 0 = (D 6 : Int)) (pf7 : F 0 16 = (D 7 : Int)) (pf8 : F 0 1 = (D 8 : Int)) (n3 : Int) (en3 : (N 3 : Int) = n3) (n5 : Int) (en5 : (N 5 : Int) = n5) (n6 : Int) (en6 : (N 6 : Int) = n6) (n7 : Int) (en7 : (N 7 : Int) = n7) (n8 : Int) (en8 : (N 8 : Int) = n8) (u1_1 : Int) (eu1_1 : F 1 1 = u1_1) (u2_1 : Int) (eu2_1 : F 2 1 = u2_1) (u4_1 : Int) (eu4_1 : F 4 1 = u4_1) (w8 : Int → Int) (ew8 : A 8 = w8) {ls : rO} (hl0 : rlook ls 0 = some (.ref (D 0))) (hl1 : rlook ls 1 = some (I (x1))) (hl3 : rlook ls 3 = some (I (0))) (hl4 : rlook ls 4 = some (.ref (D 1))) (h0 : inr (x1)) (h1 : inr y0) (h2 : 0 ≤ (u2_1) ∧ (u2_1) ≤ (n3) ∧ (n3) ≤ 65536) (h3 : 0 ≤ (u4_1) ∧ (u4_1) ≤ (n5) ∧ (n5) ≤ 65536) (h4 : 0 ≤ (u1_1) ∧ (u1_1) ≤ (n6) ∧ (n6) ≤ 65536) (h5 : (u1_1) ≤ 16384) (h6 : (n7) = 2) (h7 : 1 ≤ ((w8)) 2 ∧ ((w8)) 2 ≤ 65536) (h8 : 0 ≤ ((w8)) 8 ∧ ((w8)) 8 ≤ 11) (h9 : 0 ≤ ((w8)) 6 ∧ ((w8)) 6 ≤ 255) (h10 : (n8) = 10) (hc337 : ∀ (ls : rO) (σ : rS) (F_c337 : hF) (A_c337 : hA) , rlook ls 0 = some (.ref (D 0)) → rlook ls 1 = some (I (x1)) → HW V17_ve0 σ D N F_c337 A_c337 → OUT (V17_ve0).length D N σE c s D N σ c s → SF [] F F_c337 → SA [7] A A_c337 → (0 ≤ (u2_1) ∧ (u2_1) ≤ (n3) ∧ (n3) ≤ 65536) → Ew 17 (d + 3) 337 ls [] σ c s Q) (k : ∀ (z : Int) (σ : rS) (F' : hF) (A' : hA), HW V17_ve0 σ D N F' A' → OUT (V17_ve0).length D N σE c s D N σ c s → SF [] F F' → SA [7] A A' → (inr (z)) → ((0 : Int) = 1) → Q (some (I z)) σ c s) : Ew 17 (d + 3) 239 ls [I (y0)] σE c s Q := by
  have O := OUT_refl (n := (V17_ve0).length) (D := D) (N := N) (σ := σE) (c := c) (s := s)
  have HE := H
  have r1 : HID ((-2147483648 : Int) ≤ u1_1 ∧ u1_1 ≤ 2147483647) := krg_e (show (-2147483648 : Int) ≤ F 1 1 ∧ F 1 1 ≤ 2147483647 from H.krg 1 1 (by decide)) (show F 1 1 = u1_1 from (eu1_1))
  have r2 : HID ((-2147483648 : Int) ≤ u2_1 ∧ u2_1 ≤ 2147483647) := krg_e (show (-2147483648 : Int) ≤ F 2 1 ∧ F 2 1 ≤ 2147483647 from H.krg 2 1 (by decide)) (show F 2 1 = u2_1 from (eu2_1))
  have r3 : HID ((-2147483648 : Int) ≤ u4_1 ∧ u4_1 ≤ 2147483647) := krg_e (show (-2147483648 : Int) ≤ F 4 1 ∧ F 4 1 ≤ 2147483647 from H.krg 4 1 (by decide)) (show F 4 1 = u4_1 from (eu4_1))
  replace pf2 := HIDm pf2
  replace pf3 := HIDm pf3
  replace pf4 := HIDm pf4
  replace pf5 := HIDm pf5
  replace pf6 := HIDm pf6
  replace pf7 := HIDm pf7
  replace pf8 := HIDm pf8
  replace en3 := HIDm en3
  replace en5 := HIDm en5
  replace en6 := HIDm en6
  replace en7 := HIDm en7
  replace en8 := HIDm en8
  replace eu1_1 := HIDm eu1_1
  replace eu2_1 := HIDm eu2_1
  replace eu4_1 := HIDm eu4_1
  have r4 : HID ((0 : Int) ≤ n3 ∧ n3 ≤ 1000000) := nrng (H.nle 3 (by decide)) (show (N 3 : Int) = n3 from en3)
  have r5 : HID ((0 : Int) ≤ n5 ∧ n5 ≤ 1000000) := nrng (H.nle 5 (by decide)) (show (N 5 : Int) = n5 from en5)
  have r6 : HID ((0 : Int) ≤ n6 ∧ n6 ≤ 1000000) := nrng (H.nle 6 (by decide)) (show (N 6 : Int) = n6 from en6)
  have r7 : HID ((0 : Int) ≤ n7 ∧ n7 ≤ 1000000) := nrng (H.nle 7 (by decide)) (show (N 7 : Int) = n7 from en7)
  have r8 : HID ((0 : Int) ≤ n8 ∧ n8 ≤ 1000000) := nrng (H.nle 8 (by decide)) (show (N 8 : Int) = n8 from en8)
  refine Ew_of (pc' := 241) (fun _ => x_istore rfl) ?_
  refine Ew_of (pc' := 242) (fun _ => x_aload_n rfl (rk_o (hl0) rfl rfl)) ?_
  refine v_g H (o := 0) (v := .ref (D 7)) rfl rfl rfl rfl rfl (vrf (pf7)) ?_
  refine Ew_of (pc' := 246) (fun _ => x_iconst rfl) ?_
  refine Ew_of (pc' := 247) (fun _ => x_dup2 rfl rfl rfl) ?_
  refine v_lI H (o := 7) rfl rfl rfl rfl (n := n7) (en7) (show 0 ≤ 0 ∧ 0 < n7 by have qh0 := HIDe r7; omega) (fun v9 ev9 qv9 => ?_)
  replace qv9 := HIDm qv9
  have ev9 : (A 7) (0) = v9 := (congrFun (rfl : A 7 = A 7) (0)).symm.trans ev9
  refine Ew_of (pc' := 250) (fun _ => x_iload rfl rk_s) ?_
  refine Ew_of (pc' := 252) (fun _ => x_aload rfl (rk_o (hl4) rfl rfl)) ?_
  refine v_g H (o := 1) (v := I (u1_1)) rfl rfl rfl rfl rfl (congrArg (fun z : Int => I z) ((eu1_1) : F 1 1 = u1_1)) ?_
  refine w_icmpne (t := 274) rfl rfl (show inr (y0) by omega) (show inr (u1_1) by have qh0 := HIDe r1; omega) (fun b10 => ?_) (fun b10 => ?_)
  · refine Ew_of (pc' := 275) (fun _ => x_iconst rfl) ?_
    refine w_iaddA rfl (fun z11 gz11 => ?_)
    refine v_sI H (o := 7) (z := z11) rfl rfl rfl rfl (n := n7) (en7) (show 0 ≤ 0 ∧ 0 < n7 by have qh0 := HIDe r7; omega) (show inr (z11) by omega) (fun σ H O' => ?_)
    have O := OUT_trans O O'
    refine Ew_of (pc' := 278) (fun _ => x_aload_n rfl (rk_o (hl0) rfl rfl)) ?_
    refine v_g H (o := 0) (v := .ref (D 7)) rfl rfl rfl rfl rfl (vrf (pf7)) ?_
    refine Ew_of (pc' := 282) (fun _ => x_iconst rfl) ?_
    refine Ew_of (pc' := 283) (fun _ => x_dup2 rfl rfl rfl) ?_
    refine v_lI H (o := 7) rfl rfl rfl rfl (n := n7) (en7) (show 0 ≤ 1 ∧ 1 < n7 by have qh0 := HIDe r7; omega) (fun v12 ev12 qv12 => ?_)
    replace qv12 := HIDm qv12
    have ev12 : (upd1 (A 7) (0) (z11)) (1) = v12 := (congrFun (rfl : (updA A 7 (0) (z11)) 7 = upd1 (A 7) (0) (z11)) (1)).symm.trans ev12
    refine Ew_of (pc' := 285) (fun _ => x_aload_n rfl (rk_o (hl0) rfl rfl)) ?_
    refine v_g H (o := 0) (v := .ref (D 2)) rfl rfl rfl rfl rfl (vrf (pf2)) ?_
    refine v_g H (o := 2) (v := I (u2_1)) rfl rfl rfl rfl rfl (congrArg (fun z : Int => I z) ((eu2_1) : F 2 1 = u2_1)) ?_
    refine Ew_of (pc' := 292) (fun _ => x_aload_n rfl (rk_o (hl0) rfl rfl)) ?_
    refine Ew_of (pc' := 293) (fun _ => x_iload_n rfl (rk_o (hl3) rfl rfl)) ?_
    refine Ew_of (pc' := 295) (fun _ => x_aload rfl (rk_o (hl4) rfl rfl)) ?_
    refine v_g H (o := 1) (v := I (u1_1)) rfl rfl rfl rfl rfl (congrArg (fun z : Int => I z) ((eu1_1) : F 1 1 = u1_1)) ?_
    refine v_inv H (o := 0) rfl rfl rfl rfl rfl rfl (by rfl) (C34 (D := pul [0, 8] D) (N := pul [0, 8] N) (HW_sub H (VS_of (show vsub V17_ve0 V34 [0, 8] = true by decide +kernel))) (pf8) (n8) (en8) (w8) (ew8) (show inr (0) by omega) (show inr (u1_1) by have qh0 := HIDe r1; omega) (show 0 ≤ (u1_1) ∧ (u1_1) ≤ 16384 by have qh0 := HIDe r1; omega) (show 1 ≤ ((w8)) 2 ∧ ((w8)) 2 ≤ 65536 by omega) (show 0 ≤ ((w8)) 8 ∧ ((w8)) 8 ≤ 11 by omega) (show 0 ≤ ((w8)) 6 ∧ ((w8)) 6 ≤ 255 by omega) (show (n8) = 10 by have qh0 := HIDe r8; omega) (fun z13 σ13 F13' A13' H' O' hS13 hA13 pz13_0 => ⟨rfl, ?_⟩))
    refine v_back (c := c) (s := s) H (show vsub V17_ve0 V34 [0, 8] = true by decide +kernel) H' O' (fun F13 A13 H O' eF13 eA13 => ?_)
    have O := OUT_trans O O'
    -- PackHouse.boundOf
    have hc309 : ∀ (tc309_0 : Int), ∀ (ls : rO) (σ : rS) (F_c309 : hF) (A_c309 : hA) , rlook ls 0 = some (.ref (D 0)) → rlook ls 1 = some (I (x1)) → rlook ls 3 = some (I (0)) → HW V17_ve0 σ D N F_c309 A_c309 → OUT (V17_ve0).length D N σE c s D N σ c s → SF [] F13 F_c309 → SA [] A13 A_c309 → (inr (tc309_0)) → (((u2_1) ≤ (z13) ∧ (tc309_0) = (0)) ∨ ((u2_1) > (z13) ∧ (tc309_0) = (1))) → Ew 17 (d + 3) 309 ls [I (tc309_0), I (v12), I (1), .ref (D 7)] σ c s Q := by
     as_aux_lemma =>
      intro tc309_0 ls σ F_c309 A_c309  lc309_0 lc309_1 lc309_3 H O hS_c309 hA_c309     jc309_0 jc309_1
      refine w_iaddA rfl (fun z14 gz14 => ?_)
      refine v_sI H (o := 7) (z := z14) rfl rfl rfl rfl (n := n7) (en7) (show 0 ≤ 1 ∧ 1 < n7 by have qh0 := HIDe r7; omega) (show inr (z14) by omega) (fun σ H O' => ?_)
      have O := OUT_trans O O'
      refine Ew_of (pc' := 312) (fun _ => x_iload_n rfl lc309_3) ?_
      refine Ew_of (pc' := 313) (fun _ => x_iconst rfl) ?_
      refine w_icmpne (t := 337) rfl rfl (show inr (0) by omega) (show inr (4) by omega) (fun b15 => ?_) (fun b15 => ?_)
      · exact hc337  _ _ _ _  (lc309_0) (lc309_1) H O (SF_trans (SF_trans (SF_refl) (SF_glu (ι := [0, 8]) hS13 eF13 (by decide +kernel)) (any_sub (l' := []) rfl)) hS_c309 (any_sub rfl)) (SA_upd (SA_trans (SA_trans (SA_upd (SA_refl) rfl) (SA_glu (ι := [0, 8]) hA13 eA13 (by decide +kernel)) (any_subA (l' := []) rfl)) hA_c309 (any_subA rfl)) rfl)     (show 0 ≤ (u2_1) ∧ (u2_1) ≤ (n3) ∧ (n3) ≤ 65536 by have qh0 := HIDe r2; have qh1 := HIDe r4; omega)
      · exact absurd b15 (by omega)
    refine w_icmple (t := 308) rfl rfl (show inr (u2_1) by have qh0 := HIDe r2; omega) (show inr (z13) by omega) (fun b16 => ?_) (fun b16 => ?_)
    · refine Ew_of (pc' := 309) (fun _ => x_iconst rfl) ?_
      exact hc309 (0) _ _ _ _  (rk_o (hl0) rfl rfl) (rk_o (hl1) rfl rfl) (rk_o (hl3) rfl rfl) H O (SF_refl) (SA_refl)     (show inr (0) by omega) (show ((u2_1) ≤ (z13) ∧ (0) = (0)) ∨ ((u2_1) > (z13) ∧ (0) = (1)) by have qh0 := HIDe r2; omega)
    · refine Ew_of (pc' := 305) (fun _ => x_iconst rfl) ?_
      refine Ew_of (pc' := 309) (fun _ => x_goto rfl rfl) ?_
      exact hc309 (1) _ _ _ _  (rk_o (hl0) rfl rfl) (rk_o (hl1) rfl rfl) (rk_o (hl3) rfl rfl) H O (SF_refl) (SA_refl)     (show inr (1) by omega) (show ((u2_1) ≤ (z13) ∧ (1) = (0)) ∨ ((u2_1) > (z13) ∧ (1) = (1)) by have qh0 := HIDe r2; omega)
  · refine Ew_of (pc' := 259) (fun _ => x_aload_n rfl (rk_o (hl0) rfl rfl)) ?_
    refine v_g H (o := 0) (v := .ref (D 4)) rfl rfl rfl rfl rfl (vrf (pf4)) ?_
    refine Ew_of (pc' := 264) (fun _ => x_aload rfl (rk_o (hl4) rfl rfl)) ?_
    refine w_stat24 rfl rfl (by rfl) (C29_Row_Row (D := pul [4, 1, 5, 6] D) (N := pul [4, 1, 5, 6] N) (HW_sub H (VS_of (show vsub V17_ve0 V29_Row_Row [4, 1, 5, 6] = true by decide +kernel))) (pf5) (pf6) (n5) (en5) (n6) (en6) (u4_1) ((eu4_1)) (u1_1) ((eu1_1)) (show 0 ≤ (u4_1) ∧ (u4_1) ≤ (n5) ∧ (n5) ≤ 65536 by have qh0 := HIDe r3; have qh1 := HIDe r5; omega) (show 0 ≤ (u1_1) ∧ (u1_1) ≤ (n6) ∧ (n6) ≤ 65536 by have qh0 := HIDe r1; have qh1 := HIDe r6; omega) (fun z17 σ17 F17' A17' H' O' hS17 hA17 pz17_0 => ⟨rfl, ?_⟩))
    refine v_back (c := c) (s := s) H (show vsub V17_ve0 V29_Row_Row [4, 1, 5, 6] = true by decide +kernel) H' O' (fun F17 A17 H O' eF17 eA17 => ?_)
    have O := OUT_trans O O'
    -- PackHouse.firstUnlike
    refine w_ifge (t := 274) rfl rfl (show inr (z17) by omega) (fun b18 => ?_) (fun b18 => ?_)
    · refine Ew_of (pc' := 275) (fun _ => x_iconst rfl) ?_
      refine w_iaddA rfl (fun z19 gz19 => ?_)
      refine v_sI H (o := 7) (z := z19) rfl rfl rfl rfl (n := n7) (en7) (show 0 ≤ 0 ∧ 0 < n7 by have qh0 := HIDe r7; omega) (show inr (z19) by omega) (fun σ H O' => ?_)
      have O := OUT_trans O O'
      refine Ew_of (pc' := 278) (fun _ => x_aload_n rfl (rk_o (hl0) rfl rfl)) ?_
      refine v_g H (o := 0) (v := .ref (D 7)) rfl rfl rfl rfl rfl (vrf ((((show F17 0 16 = F 0 16 from (eF17 0 16)))).trans (pf7))) ?_
      refine Ew_of (pc' := 282) (fun _ => x_iconst rfl) ?_
      refine Ew_of (pc' := 283) (fun _ => x_dup2 rfl rfl rfl) ?_
      refine v_lI H (o := 7) rfl rfl rfl rfl (n := n7) (en7) (show 0 ≤ 1 ∧ 1 < n7 by have qh0 := HIDe r7; omega) (fun v20 ev20 qv20 => ?_)
      replace qv20 := HIDm qv20
      have ev20 : (upd1 (A 7) (0) (z19)) (1) = v20 := (congrFun (congrArg (fun q => upd1 q (0) (z19)) ((show A17 7 = A 7 from (eA17 7)))) (1)).symm.trans ev20
      refine Ew_of (pc' := 285) (fun _ => x_aload_n rfl (rk_o (hl0) rfl rfl)) ?_
      refine v_g H (o := 0) (v := .ref (D 2)) rfl rfl rfl rfl rfl (vrf ((((show F17 0 5 = F 0 5 from (eF17 0 5)))).trans (pf2))) ?_
      refine v_g H (o := 2) (v := I (u2_1)) rfl rfl rfl rfl rfl (congrArg (fun z : Int => I z) ((((show F17 2 1 = F 2 1 from (eF17 2 1))).trans (eu2_1)) : F17 2 1 = u2_1)) ?_
      refine Ew_of (pc' := 292) (fun _ => x_aload_n rfl (rk_o (hl0) rfl rfl)) ?_
      refine Ew_of (pc' := 293) (fun _ => x_iload_n rfl (rk_o (hl3) rfl rfl)) ?_
      refine Ew_of (pc' := 295) (fun _ => x_aload rfl (rk_o (hl4) rfl rfl)) ?_
      refine v_g H (o := 1) (v := I (u1_1)) rfl rfl rfl rfl rfl (congrArg (fun z : Int => I z) ((((show F17 1 1 = F 1 1 from (eF17 1 1).trans (hS17 1 1 rfl))).trans (eu1_1)) : F17 1 1 = u1_1)) ?_
      refine v_inv H (o := 0) rfl rfl rfl rfl rfl rfl (by rfl) (C34 (D := pul [0, 8] D) (N := pul [0, 8] N) (HW_sub H (VS_of (show vsub V17_ve0 V34 [0, 8] = true by decide +kernel))) ((((show F17 0 1 = F 0 1 from (eF17 0 1)))).trans (pf8)) (n8) (en8) (w8) (((show A17 8 = A 8 from (eA17 8))).trans (ew8)) (show inr (0) by omega) (show inr (u1_1) by have qh0 := HIDe r1; omega) (show 0 ≤ (u1_1) ∧ (u1_1) ≤ 16384 by have qh0 := HIDe r1; omega) (show 1 ≤ ((w8)) 2 ∧ ((w8)) 2 ≤ 65536 by omega) (show 0 ≤ ((w8)) 8 ∧ ((w8)) 8 ≤ 11 by omega) (show 0 ≤ ((w8)) 6 ∧ ((w8)) 6 ≤ 255 by omega) (show (n8) = 10 by have qh0 := HIDe r8; omega) (fun z21 σ21 F21' A21' H' O' hS21 hA21 pz21_0 => ⟨rfl, ?_⟩))
      refine v_back (c := c) (s := s) H (show vsub V17_ve0 V34 [0, 8] = true by decide +kernel) H' O' (fun F21 A21 H O' eF21 eA21 => ?_)
      have O := OUT_trans O O'
      -- PackHouse.boundOf
      have hc309 : ∀ (tc309_0 : Int), ∀ (ls : rO) (σ : rS) (F_c309 : hF) (A_c309 : hA) , rlook ls 0 = some (.ref (D 0)) → rlook ls 1 = some (I (x1)) → rlook ls 3 = some (I (0)) → HW V17_ve0 σ D N F_c309 A_c309 → OUT (V17_ve0).length D N σE c s D N σ c s → SF [] F21 F_c309 → SA [] A21 A_c309 → (inr (tc309_0)) → (((u2_1) ≤ (z21) ∧ (tc309_0) = (0)) ∨ ((u2_1) > (z21) ∧ (tc309_0) = (1))) → Ew 17 (d + 3) 309 ls [I (tc309_0), I (v20), I (1), .ref (D 7)] σ c s Q := by
       as_aux_lemma =>
        intro tc309_0 ls σ F_c309 A_c309  lc309_0 lc309_1 lc309_3 H O hS_c309 hA_c309     jc309_0 jc309_1
        refine w_iaddA rfl (fun z22 gz22 => ?_)
        refine v_sI H (o := 7) (z := z22) rfl rfl rfl rfl (n := n7) (en7) (show 0 ≤ 1 ∧ 1 < n7 by have qh0 := HIDe r7; omega) (show inr (z22) by omega) (fun σ H O' => ?_)
        have O := OUT_trans O O'
        refine Ew_of (pc' := 312) (fun _ => x_iload_n rfl lc309_3) ?_
        refine Ew_of (pc' := 313) (fun _ => x_iconst rfl) ?_
        refine w_icmpne (t := 337) rfl rfl (show inr (0) by omega) (show inr (4) by omega) (fun b23 => ?_) (fun b23 => ?_)
        · exact hc337  _ _ _ _  (lc309_0) (lc309_1) H O (SF_trans (SF_trans (SF_trans (SF_refl) (SF_glu (ι := [4, 1, 5, 6]) hS17 eF17 (by decide +kernel)) (any_sub (l' := []) rfl)) (SF_glu (ι := [0, 8]) hS21 eF21 (by decide +kernel)) (any_sub (l' := []) rfl)) hS_c309 (any_sub rfl)) (SA_upd (SA_trans (SA_trans (SA_upd (SA_trans (SA_refl) (SA_glu (ι := [4, 1, 5, 6]) hA17 eA17 (by decide +kernel)) (any_subA (l' := []) rfl)) rfl) (SA_glu (ι := [0, 8]) hA21 eA21 (by decide +kernel)) (any_subA (l' := []) rfl)) hA_c309 (any_subA rfl)) rfl)     (show 0 ≤ (u2_1) ∧ (u2_1) ≤ (n3) ∧ (n3) ≤ 65536 by have qh0 := HIDe r2; have qh1 := HIDe r4; omega)
        · exact absurd b23 (by omega)
      refine w_icmple (t := 308) rfl rfl (show inr (u2_1) by have qh0 := HIDe r2; omega) (show inr (z21) by omega) (fun b24 => ?_) (fun b24 => ?_)
      · refine Ew_of (pc' := 309) (fun _ => x_iconst rfl) ?_
        exact hc309 (0) _ _ _ _  (rk_o (hl0) rfl rfl) (rk_o (hl1) rfl rfl) (rk_o (hl3) rfl rfl) H O (SF_refl) (SA_refl)     (show inr (0) by omega) (show ((u2_1) ≤ (z21) ∧ (0) = (0)) ∨ ((u2_1) > (z21) ∧ (0) = (1)) by have qh0 := HIDe r2; omega)
      · refine Ew_of (pc' := 305) (fun _ => x_iconst rfl) ?_
        refine Ew_of (pc' := 309) (fun _ => x_goto rfl rfl) ?_
        exact hc309 (1) _ _ _ _  (rk_o (hl0) rfl rfl) (rk_o (hl1) rfl rfl) (rk_o (hl3) rfl rfl) H O (SF_refl) (SA_refl)     (show inr (1) by omega) (show ((u2_1) ≤ (z21) ∧ (1) = (0)) ∨ ((u2_1) > (z21) ∧ (1) = (1)) by have qh0 := HIDe r2; omega)
    · refine Ew_of (pc' := 271) (fun _ => x_iconst rfl) ?_
      refine Ew_of (pc' := 275) (fun _ => x_goto rfl rfl) ?_
      refine w_iaddA rfl (fun z25 gz25 => ?_)
      refine v_sI H (o := 7) (z := z25) rfl rfl rfl rfl (n := n7) (en7) (show 0 ≤ 0 ∧ 0 < n7 by have qh0 := HIDe r7; omega) (show inr (z25) by omega) (fun σ H O' => ?_)
      have O := OUT_trans O O'
      refine Ew_of (pc' := 278) (fun _ => x_aload_n rfl (rk_o (hl0) rfl rfl)) ?_
      refine v_g H (o := 0) (v := .ref (D 7)) rfl rfl rfl rfl rfl (vrf ((((show F17 0 16 = F 0 16 from (eF17 0 16)))).trans (pf7))) ?_
      refine Ew_of (pc' := 282) (fun _ => x_iconst rfl) ?_
      refine Ew_of (pc' := 283) (fun _ => x_dup2 rfl rfl rfl) ?_
      refine v_lI H (o := 7) rfl rfl rfl rfl (n := n7) (en7) (show 0 ≤ 1 ∧ 1 < n7 by have qh0 := HIDe r7; omega) (fun v26 ev26 qv26 => ?_)
      replace qv26 := HIDm qv26
      have ev26 : (upd1 (A 7) (0) (z25)) (1) = v26 := (congrFun (congrArg (fun q => upd1 q (0) (z25)) ((show A17 7 = A 7 from (eA17 7)))) (1)).symm.trans ev26
      refine Ew_of (pc' := 285) (fun _ => x_aload_n rfl (rk_o (hl0) rfl rfl)) ?_
      refine v_g H (o := 0) (v := .ref (D 2)) rfl rfl rfl rfl rfl (vrf ((((show F17 0 5 = F 0 5 from (eF17 0 5)))).trans (pf2))) ?_
      refine v_g H (o := 2) (v := I (u2_1)) rfl rfl rfl rfl rfl (congrArg (fun z : Int => I z) ((((show F17 2 1 = F 2 1 from (eF17 2 1))).trans (eu2_1)) : F17 2 1 = u2_1)) ?_
      refine Ew_of (pc' := 292) (fun _ => x_aload_n rfl (rk_o (hl0) rfl rfl)) ?_
      refine Ew_of (pc' := 293) (fun _ => x_iload_n rfl (rk_o (hl3) rfl rfl)) ?_
      refine Ew_of (pc' := 295) (fun _ => x_aload rfl (rk_o (hl4) rfl rfl)) ?_
      refine v_g H (o := 1) (v := I (u1_1)) rfl rfl rfl rfl rfl (congrArg (fun z : Int => I z) ((((show F17 1 1 = F 1 1 from (eF17 1 1).trans (hS17 1 1 rfl))).trans (eu1_1)) : F17 1 1 = u1_1)) ?_
      refine v_inv H (o := 0) rfl rfl rfl rfl rfl rfl (by rfl) (C34 (D := pul [0, 8] D) (N := pul [0, 8] N) (HW_sub H (VS_of (show vsub V17_ve0 V34 [0, 8] = true by decide +kernel))) ((((show F17 0 1 = F 0 1 from (eF17 0 1)))).trans (pf8)) (n8) (en8) (w8) (((show A17 8 = A 8 from (eA17 8))).trans (ew8)) (show inr (0) by omega) (show inr (u1_1) by have qh0 := HIDe r1; omega) (show 0 ≤ (u1_1) ∧ (u1_1) ≤ 16384 by have qh0 := HIDe r1; omega) (show 1 ≤ ((w8)) 2 ∧ ((w8)) 2 ≤ 65536 by omega) (show 0 ≤ ((w8)) 8 ∧ ((w8)) 8 ≤ 11 by omega) (show 0 ≤ ((w8)) 6 ∧ ((w8)) 6 ≤ 255 by omega) (show (n8) = 10 by have qh0 := HIDe r8; omega) (fun z27 σ27 F27' A27' H' O' hS27 hA27 pz27_0 => ⟨rfl, ?_⟩))
      refine v_back (c := c) (s := s) H (show vsub V17_ve0 V34 [0, 8] = true by decide +kernel) H' O' (fun F27 A27 H O' eF27 eA27 => ?_)
      have O := OUT_trans O O'
      -- PackHouse.boundOf
      have hc309 : ∀ (tc309_0 : Int), ∀ (ls : rO) (σ : rS) (F_c309 : hF) (A_c309 : hA) , rlook ls 0 = some (.ref (D 0)) → rlook ls 1 = some (I (x1)) → rlook ls 3 = some (I (0)) → HW V17_ve0 σ D N F_c309 A_c309 → OUT (V17_ve0).length D N σE c s D N σ c s → SF [] F27 F_c309 → SA [] A27 A_c309 → (inr (tc309_0)) → (((u2_1) ≤ (z27) ∧ (tc309_0) = (0)) ∨ ((u2_1) > (z27) ∧ (tc309_0) = (1))) → Ew 17 (d + 3) 309 ls [I (tc309_0), I (v26), I (1), .ref (D 7)] σ c s Q := by
       as_aux_lemma =>
        intro tc309_0 ls σ F_c309 A_c309  lc309_0 lc309_1 lc309_3 H O hS_c309 hA_c309     jc309_0 jc309_1
        refine w_iaddA rfl (fun z28 gz28 => ?_)
        refine v_sI H (o := 7) (z := z28) rfl rfl rfl rfl (n := n7) (en7) (show 0 ≤ 1 ∧ 1 < n7 by have qh0 := HIDe r7; omega) (show inr (z28) by omega) (fun σ H O' => ?_)
        have O := OUT_trans O O'
        refine Ew_of (pc' := 312) (fun _ => x_iload_n rfl lc309_3) ?_
        refine Ew_of (pc' := 313) (fun _ => x_iconst rfl) ?_
        refine w_icmpne (t := 337) rfl rfl (show inr (0) by omega) (show inr (4) by omega) (fun b29 => ?_) (fun b29 => ?_)
        · exact hc337  _ _ _ _  (lc309_0) (lc309_1) H O (SF_trans (SF_trans (SF_trans (SF_refl) (SF_glu (ι := [4, 1, 5, 6]) hS17 eF17 (by decide +kernel)) (any_sub (l' := []) rfl)) (SF_glu (ι := [0, 8]) hS27 eF27 (by decide +kernel)) (any_sub (l' := []) rfl)) hS_c309 (any_sub rfl)) (SA_upd (SA_trans (SA_trans (SA_upd (SA_trans (SA_refl) (SA_glu (ι := [4, 1, 5, 6]) hA17 eA17 (by decide +kernel)) (any_subA (l' := []) rfl)) rfl) (SA_glu (ι := [0, 8]) hA27 eA27 (by decide +kernel)) (any_subA (l' := []) rfl)) hA_c309 (any_subA rfl)) rfl)     (show 0 ≤ (u2_1) ∧ (u2_1) ≤ (n3) ∧ (n3) ≤ 65536 by have qh0 := HIDe r2; have qh1 := HIDe r4; omega)
        · exact absurd b29 (by omega)
      refine w_icmple (t := 308) rfl rfl (show inr (u2_1) by have qh0 := HIDe r2; omega) (show inr (z27) by omega) (fun b30 => ?_) (fun b30 => ?_)
      · refine Ew_of (pc' := 309) (fun _ => x_iconst rfl) ?_
        exact hc309 (0) _ _ _ _  (rk_o (hl0) rfl rfl) (rk_o (hl1) rfl rfl) (rk_o (hl3) rfl rfl) H O (SF_refl) (SA_refl)     (show inr (0) by omega) (show ((u2_1) ≤ (z27) ∧ (0) = (0)) ∨ ((u2_1) > (z27) ∧ (0) = (1)) by have qh0 := HIDe r2; omega)
      · refine Ew_of (pc' := 305) (fun _ => x_iconst rfl) ?_
        refine Ew_of (pc' := 309) (fun _ => x_goto rfl rfl) ?_
        exact hc309 (1) _ _ _ _  (rk_o (hl0) rfl rfl) (rk_o (hl1) rfl rfl) (rk_o (hl3) rfl rfl) H O (SF_refl) (SA_refl)     (show inr (1) by omega) (show ((u2_1) ≤ (z27) ∧ (1) = (0)) ∨ ((u2_1) > (z27) ∧ (1) = (1)) by have qh0 := HIDe r2; omega)
abbrev V17_ve1 : vV := [(0, 0, [(4, 0), (4, 0), (4, 0), (4, 0), (4, 0), (4, 0), (4, 0), (4, 0), (4, 0), (4, 0), (4, 0), (4, 0), (4, 0), (4, 0), (4, 0), (4, 0), (4, 0), (0, 0), (0, 0)]), (0, 7, [(4, 0), (0, 0), (1, 0), (0, 0), (0, 0)]), (0, 7, [(4, 0), (0, 0), (1, 0), (0, 0), (0, 0)]), (1, 0, []), (0, 7, [(4, 0), (0, 0), (1, 0), (0, 0), (0, 0)]), (1, 0, []), (1, 0, []), (1, 1, []), (1, 1, [])]
/-- PackHouse.write: this, @F, this.written, this.written.bytes, this.content, this.content.bytes, @F.bytes, this.strays, this.settings -/
theorem C17_ve1 {σE : rS} {D N : Nat → Nat} {F : hF} {A : hA} {d c s : Nat} {Q : wQ} (H : HW V17_ve1 σE D N F A) {x1 y0 : Int} (pf2 : F 0 5 = (D 2 : Int)) (pf3 : F 2 0 = (D 3 : Int)) (pf4 : F 0 6 = (D 4 : Int)) (pf5 : F 4 0 = (D 5 : Int)) (pf6 : F 1 0 = (D 6 : Int)) (pf7 : F 0 16 = (D 7 : Int)) (pf8 : F 0 1 = (D 8 : Int)) (n3 : Int) (en3 : (N 3 : Int) = n3) (n5 : Int) (en5 : (N 5 : Int) = n5) (n6 : Int) (en6 : (N 6 : Int) = n6) (n7 : Int) (en7 : (N 7 : Int) = n7) (n8 : Int) (en8 : (N 8 : Int) = n8) (u1_1 : Int) (eu1_1 : F 1 1 = u1_1) (u2_1 : Int) (eu2_1 : F 2 1 = u2_1) (u4_1 : Int) (eu4_1 : F 4 1 = u4_1) (w8 : Int → Int) (ew8 : A 8 = w8) {ls : rO} (hl0 : rlook ls 0 = some (.ref (D 0))) (hl1 : rlook ls 1 = some (I (x1))) (hl3 : rlook ls 3 = some (I (1))) (hl4 : rlook ls 4 = some (.ref (D 1))) (h0 : inr (x1)) (h1 : inr y0) (h2 : 0 ≤ (u2_1) ∧ (u2_1) ≤ (n3) ∧ (n3) ≤ 65536) (h3 : 0 ≤ (u4_1) ∧ (u4_1) ≤ (n5) ∧ (n5) ≤ 65536) (h4 : 0 ≤ (u1_1) ∧ (u1_1) ≤ (n6) ∧ (n6) ≤ 65536) (h5 : (u1_1) ≤ 16384) (h6 : (n7) = 2) (h7 : 1 ≤ ((w8)) 2 ∧ ((w8)) 2 ≤ 65536) (h8 : 0 ≤ ((w8)) 8 ∧ ((w8)) 8 ≤ 11) (h9 : 0 ≤ ((w8)) 6 ∧ ((w8)) 6 ≤ 255) (h10 : (n8) = 10) (hc337 : ∀ (ls : rO) (σ : rS) (F_c337 : hF) (A_c337 : hA) , rlook ls 0 = some (.ref (D 0)) → rlook ls 1 = some (I (x1)) → HW V17_ve1 σ D N F_c337 A_c337 → OUT (V17_ve1).length D N σE c s D N σ c s → SF [] F F_c337 → SA [7] A A_c337 → (0 ≤ (u2_1) ∧ (u2_1) ≤ (n3) ∧ (n3) ≤ 65536) → Ew 17 (d + 3) 337 ls [] σ c s Q) (k : ∀ (z : Int) (σ : rS) (F' : hF) (A' : hA), HW V17_ve1 σ D N F' A' → OUT (V17_ve1).length D N σE c s D N σ c s → SF [] F F' → SA [7] A A' → (inr (z)) → ((0 : Int) = 1) → Q (some (I z)) σ c s) : Ew 17 (d + 3) 239 ls [I (y0)] σE c s Q := by
  have O := OUT_refl (n := (V17_ve1).length) (D := D) (N := N) (σ := σE) (c := c) (s := s)
  have HE := H
  have r1 : HID ((-2147483648 : Int) ≤ u1_1 ∧ u1_1 ≤ 2147483647) := krg_e (show (-2147483648 : Int) ≤ F 1 1 ∧ F 1 1 ≤ 2147483647 from H.krg 1 1 (by decide)) (show F 1 1 = u1_1 from (eu1_1))
  have r2 : HID ((-2147483648 : Int) ≤ u2_1 ∧ u2_1 ≤ 2147483647) := krg_e (show (-2147483648 : Int) ≤ F 2 1 ∧ F 2 1 ≤ 2147483647 from H.krg 2 1 (by decide)) (show F 2 1 = u2_1 from (eu2_1))
  have r3 : HID ((-2147483648 : Int) ≤ u4_1 ∧ u4_1 ≤ 2147483647) := krg_e (show (-2147483648 : Int) ≤ F 4 1 ∧ F 4 1 ≤ 2147483647 from H.krg 4 1 (by decide)) (show F 4 1 = u4_1 from (eu4_1))
  replace pf2 := HIDm pf2
  replace pf3 := HIDm pf3
  replace pf4 := HIDm pf4
  replace pf5 := HIDm pf5
  replace pf6 := HIDm pf6
  replace pf7 := HIDm pf7
  replace pf8 := HIDm pf8
  replace en3 := HIDm en3
  replace en5 := HIDm en5
  replace en6 := HIDm en6
  replace en7 := HIDm en7
  replace en8 := HIDm en8
  replace eu1_1 := HIDm eu1_1
  replace eu2_1 := HIDm eu2_1
  replace eu4_1 := HIDm eu4_1
  have r4 : HID ((0 : Int) ≤ n3 ∧ n3 ≤ 1000000) := nrng (H.nle 3 (by decide)) (show (N 3 : Int) = n3 from en3)
  have r5 : HID ((0 : Int) ≤ n5 ∧ n5 ≤ 1000000) := nrng (H.nle 5 (by decide)) (show (N 5 : Int) = n5 from en5)
  have r6 : HID ((0 : Int) ≤ n6 ∧ n6 ≤ 1000000) := nrng (H.nle 6 (by decide)) (show (N 6 : Int) = n6 from en6)
  have r7 : HID ((0 : Int) ≤ n7 ∧ n7 ≤ 1000000) := nrng (H.nle 7 (by decide)) (show (N 7 : Int) = n7 from en7)
  have r8 : HID ((0 : Int) ≤ n8 ∧ n8 ≤ 1000000) := nrng (H.nle 8 (by decide)) (show (N 8 : Int) = n8 from en8)
  refine Ew_of (pc' := 241) (fun _ => x_istore rfl) ?_
  refine Ew_of (pc' := 242) (fun _ => x_aload_n rfl (rk_o (hl0) rfl rfl)) ?_
  refine v_g H (o := 0) (v := .ref (D 7)) rfl rfl rfl rfl rfl (vrf (pf7)) ?_
  refine Ew_of (pc' := 246) (fun _ => x_iconst rfl) ?_
  refine Ew_of (pc' := 247) (fun _ => x_dup2 rfl rfl rfl) ?_
  refine v_lI H (o := 7) rfl rfl rfl rfl (n := n7) (en7) (show 0 ≤ 0 ∧ 0 < n7 by have qh0 := HIDe r7; omega) (fun v9 ev9 qv9 => ?_)
  replace qv9 := HIDm qv9
  have ev9 : (A 7) (0) = v9 := (congrFun (rfl : A 7 = A 7) (0)).symm.trans ev9
  refine Ew_of (pc' := 250) (fun _ => x_iload rfl rk_s) ?_
  refine Ew_of (pc' := 252) (fun _ => x_aload rfl (rk_o (hl4) rfl rfl)) ?_
  refine v_g H (o := 1) (v := I (u1_1)) rfl rfl rfl rfl rfl (congrArg (fun z : Int => I z) ((eu1_1) : F 1 1 = u1_1)) ?_
  refine w_icmpne (t := 274) rfl rfl (show inr (y0) by omega) (show inr (u1_1) by have qh0 := HIDe r1; omega) (fun b10 => ?_) (fun b10 => ?_)
  · refine Ew_of (pc' := 275) (fun _ => x_iconst rfl) ?_
    refine w_iaddA rfl (fun z11 gz11 => ?_)
    refine v_sI H (o := 7) (z := z11) rfl rfl rfl rfl (n := n7) (en7) (show 0 ≤ 0 ∧ 0 < n7 by have qh0 := HIDe r7; omega) (show inr (z11) by omega) (fun σ H O' => ?_)
    have O := OUT_trans O O'
    refine Ew_of (pc' := 278) (fun _ => x_aload_n rfl (rk_o (hl0) rfl rfl)) ?_
    refine v_g H (o := 0) (v := .ref (D 7)) rfl rfl rfl rfl rfl (vrf (pf7)) ?_
    refine Ew_of (pc' := 282) (fun _ => x_iconst rfl) ?_
    refine Ew_of (pc' := 283) (fun _ => x_dup2 rfl rfl rfl) ?_
    refine v_lI H (o := 7) rfl rfl rfl rfl (n := n7) (en7) (show 0 ≤ 1 ∧ 1 < n7 by have qh0 := HIDe r7; omega) (fun v12 ev12 qv12 => ?_)
    replace qv12 := HIDm qv12
    have ev12 : (upd1 (A 7) (0) (z11)) (1) = v12 := (congrFun (rfl : (updA A 7 (0) (z11)) 7 = upd1 (A 7) (0) (z11)) (1)).symm.trans ev12
    refine Ew_of (pc' := 285) (fun _ => x_aload_n rfl (rk_o (hl0) rfl rfl)) ?_
    refine v_g H (o := 0) (v := .ref (D 2)) rfl rfl rfl rfl rfl (vrf (pf2)) ?_
    refine v_g H (o := 2) (v := I (u2_1)) rfl rfl rfl rfl rfl (congrArg (fun z : Int => I z) ((eu2_1) : F 2 1 = u2_1)) ?_
    refine Ew_of (pc' := 292) (fun _ => x_aload_n rfl (rk_o (hl0) rfl rfl)) ?_
    refine Ew_of (pc' := 293) (fun _ => x_iload_n rfl (rk_o (hl3) rfl rfl)) ?_
    refine Ew_of (pc' := 295) (fun _ => x_aload rfl (rk_o (hl4) rfl rfl)) ?_
    refine v_g H (o := 1) (v := I (u1_1)) rfl rfl rfl rfl rfl (congrArg (fun z : Int => I z) ((eu1_1) : F 1 1 = u1_1)) ?_
    refine v_inv H (o := 0) rfl rfl rfl rfl rfl rfl (by rfl) (C34 (D := pul [0, 8] D) (N := pul [0, 8] N) (HW_sub H (VS_of (show vsub V17_ve1 V34 [0, 8] = true by decide +kernel))) (pf8) (n8) (en8) (w8) (ew8) (show inr (1) by omega) (show inr (u1_1) by have qh0 := HIDe r1; omega) (show 0 ≤ (u1_1) ∧ (u1_1) ≤ 16384 by have qh0 := HIDe r1; omega) (show 1 ≤ ((w8)) 2 ∧ ((w8)) 2 ≤ 65536 by omega) (show 0 ≤ ((w8)) 8 ∧ ((w8)) 8 ≤ 11 by omega) (show 0 ≤ ((w8)) 6 ∧ ((w8)) 6 ≤ 255 by omega) (show (n8) = 10 by have qh0 := HIDe r8; omega) (fun z13 σ13 F13' A13' H' O' hS13 hA13 pz13_0 => ⟨rfl, ?_⟩))
    refine v_back (c := c) (s := s) H (show vsub V17_ve1 V34 [0, 8] = true by decide +kernel) H' O' (fun F13 A13 H O' eF13 eA13 => ?_)
    have O := OUT_trans O O'
    -- PackHouse.boundOf
    have hc309 : ∀ (tc309_0 : Int), ∀ (ls : rO) (σ : rS) (F_c309 : hF) (A_c309 : hA) , rlook ls 0 = some (.ref (D 0)) → rlook ls 1 = some (I (x1)) → rlook ls 3 = some (I (1)) → HW V17_ve1 σ D N F_c309 A_c309 → OUT (V17_ve1).length D N σE c s D N σ c s → SF [] F13 F_c309 → SA [] A13 A_c309 → (inr (tc309_0)) → (((u2_1) ≤ (z13) ∧ (tc309_0) = (0)) ∨ ((u2_1) > (z13) ∧ (tc309_0) = (1))) → Ew 17 (d + 3) 309 ls [I (tc309_0), I (v12), I (1), .ref (D 7)] σ c s Q := by
     as_aux_lemma =>
      intro tc309_0 ls σ F_c309 A_c309  lc309_0 lc309_1 lc309_3 H O hS_c309 hA_c309     jc309_0 jc309_1
      refine w_iaddA rfl (fun z14 gz14 => ?_)
      refine v_sI H (o := 7) (z := z14) rfl rfl rfl rfl (n := n7) (en7) (show 0 ≤ 1 ∧ 1 < n7 by have qh0 := HIDe r7; omega) (show inr (z14) by omega) (fun σ H O' => ?_)
      have O := OUT_trans O O'
      refine Ew_of (pc' := 312) (fun _ => x_iload_n rfl lc309_3) ?_
      refine Ew_of (pc' := 313) (fun _ => x_iconst rfl) ?_
      refine w_icmpne (t := 337) rfl rfl (show inr (1) by omega) (show inr (4) by omega) (fun b15 => ?_) (fun b15 => ?_)
      · exact hc337  _ _ _ _  (lc309_0) (lc309_1) H O (SF_trans (SF_trans (SF_refl) (SF_glu (ι := [0, 8]) hS13 eF13 (by decide +kernel)) (any_sub (l' := []) rfl)) hS_c309 (any_sub rfl)) (SA_upd (SA_trans (SA_trans (SA_upd (SA_refl) rfl) (SA_glu (ι := [0, 8]) hA13 eA13 (by decide +kernel)) (any_subA (l' := []) rfl)) hA_c309 (any_subA rfl)) rfl)     (show 0 ≤ (u2_1) ∧ (u2_1) ≤ (n3) ∧ (n3) ≤ 65536 by have qh0 := HIDe r2; have qh1 := HIDe r4; omega)
      · exact absurd b15 (by omega)
    refine w_icmple (t := 308) rfl rfl (show inr (u2_1) by have qh0 := HIDe r2; omega) (show inr (z13) by omega) (fun b16 => ?_) (fun b16 => ?_)
    · refine Ew_of (pc' := 309) (fun _ => x_iconst rfl) ?_
      exact hc309 (0) _ _ _ _  (rk_o (hl0) rfl rfl) (rk_o (hl1) rfl rfl) (rk_o (hl3) rfl rfl) H O (SF_refl) (SA_refl)     (show inr (0) by omega) (show ((u2_1) ≤ (z13) ∧ (0) = (0)) ∨ ((u2_1) > (z13) ∧ (0) = (1)) by have qh0 := HIDe r2; omega)
    · refine Ew_of (pc' := 305) (fun _ => x_iconst rfl) ?_
      refine Ew_of (pc' := 309) (fun _ => x_goto rfl rfl) ?_
      exact hc309 (1) _ _ _ _  (rk_o (hl0) rfl rfl) (rk_o (hl1) rfl rfl) (rk_o (hl3) rfl rfl) H O (SF_refl) (SA_refl)     (show inr (1) by omega) (show ((u2_1) ≤ (z13) ∧ (1) = (0)) ∨ ((u2_1) > (z13) ∧ (1) = (1)) by have qh0 := HIDe r2; omega)
  · refine Ew_of (pc' := 259) (fun _ => x_aload_n rfl (rk_o (hl0) rfl rfl)) ?_
    refine v_g H (o := 0) (v := .ref (D 4)) rfl rfl rfl rfl rfl (vrf (pf4)) ?_
    refine Ew_of (pc' := 264) (fun _ => x_aload rfl (rk_o (hl4) rfl rfl)) ?_
    refine w_stat24 rfl rfl (by rfl) (C29_Row_Row (D := pul [4, 1, 5, 6] D) (N := pul [4, 1, 5, 6] N) (HW_sub H (VS_of (show vsub V17_ve1 V29_Row_Row [4, 1, 5, 6] = true by decide +kernel))) (pf5) (pf6) (n5) (en5) (n6) (en6) (u4_1) ((eu4_1)) (u1_1) ((eu1_1)) (show 0 ≤ (u4_1) ∧ (u4_1) ≤ (n5) ∧ (n5) ≤ 65536 by have qh0 := HIDe r3; have qh1 := HIDe r5; omega) (show 0 ≤ (u1_1) ∧ (u1_1) ≤ (n6) ∧ (n6) ≤ 65536 by have qh0 := HIDe r1; have qh1 := HIDe r6; omega) (fun z17 σ17 F17' A17' H' O' hS17 hA17 pz17_0 => ⟨rfl, ?_⟩))
    refine v_back (c := c) (s := s) H (show vsub V17_ve1 V29_Row_Row [4, 1, 5, 6] = true by decide +kernel) H' O' (fun F17 A17 H O' eF17 eA17 => ?_)
    have O := OUT_trans O O'
    -- PackHouse.firstUnlike
    refine w_ifge (t := 274) rfl rfl (show inr (z17) by omega) (fun b18 => ?_) (fun b18 => ?_)
    · refine Ew_of (pc' := 275) (fun _ => x_iconst rfl) ?_
      refine w_iaddA rfl (fun z19 gz19 => ?_)
      refine v_sI H (o := 7) (z := z19) rfl rfl rfl rfl (n := n7) (en7) (show 0 ≤ 0 ∧ 0 < n7 by have qh0 := HIDe r7; omega) (show inr (z19) by omega) (fun σ H O' => ?_)
      have O := OUT_trans O O'
      refine Ew_of (pc' := 278) (fun _ => x_aload_n rfl (rk_o (hl0) rfl rfl)) ?_
      refine v_g H (o := 0) (v := .ref (D 7)) rfl rfl rfl rfl rfl (vrf ((((show F17 0 16 = F 0 16 from (eF17 0 16)))).trans (pf7))) ?_
      refine Ew_of (pc' := 282) (fun _ => x_iconst rfl) ?_
      refine Ew_of (pc' := 283) (fun _ => x_dup2 rfl rfl rfl) ?_
      refine v_lI H (o := 7) rfl rfl rfl rfl (n := n7) (en7) (show 0 ≤ 1 ∧ 1 < n7 by have qh0 := HIDe r7; omega) (fun v20 ev20 qv20 => ?_)
      replace qv20 := HIDm qv20
      have ev20 : (upd1 (A 7) (0) (z19)) (1) = v20 := (congrFun (congrArg (fun q => upd1 q (0) (z19)) ((show A17 7 = A 7 from (eA17 7)))) (1)).symm.trans ev20
      refine Ew_of (pc' := 285) (fun _ => x_aload_n rfl (rk_o (hl0) rfl rfl)) ?_
      refine v_g H (o := 0) (v := .ref (D 2)) rfl rfl rfl rfl rfl (vrf ((((show F17 0 5 = F 0 5 from (eF17 0 5)))).trans (pf2))) ?_
      refine v_g H (o := 2) (v := I (u2_1)) rfl rfl rfl rfl rfl (congrArg (fun z : Int => I z) ((((show F17 2 1 = F 2 1 from (eF17 2 1))).trans (eu2_1)) : F17 2 1 = u2_1)) ?_
      refine Ew_of (pc' := 292) (fun _ => x_aload_n rfl (rk_o (hl0) rfl rfl)) ?_
      refine Ew_of (pc' := 293) (fun _ => x_iload_n rfl (rk_o (hl3) rfl rfl)) ?_
      refine Ew_of (pc' := 295) (fun _ => x_aload rfl (rk_o (hl4) rfl rfl)) ?_
      refine v_g H (o := 1) (v := I (u1_1)) rfl rfl rfl rfl rfl (congrArg (fun z : Int => I z) ((((show F17 1 1 = F 1 1 from (eF17 1 1).trans (hS17 1 1 rfl))).trans (eu1_1)) : F17 1 1 = u1_1)) ?_
      refine v_inv H (o := 0) rfl rfl rfl rfl rfl rfl (by rfl) (C34 (D := pul [0, 8] D) (N := pul [0, 8] N) (HW_sub H (VS_of (show vsub V17_ve1 V34 [0, 8] = true by decide +kernel))) ((((show F17 0 1 = F 0 1 from (eF17 0 1)))).trans (pf8)) (n8) (en8) (w8) (((show A17 8 = A 8 from (eA17 8))).trans (ew8)) (show inr (1) by omega) (show inr (u1_1) by have qh0 := HIDe r1; omega) (show 0 ≤ (u1_1) ∧ (u1_1) ≤ 16384 by have qh0 := HIDe r1; omega) (show 1 ≤ ((w8)) 2 ∧ ((w8)) 2 ≤ 65536 by omega) (show 0 ≤ ((w8)) 8 ∧ ((w8)) 8 ≤ 11 by omega) (show 0 ≤ ((w8)) 6 ∧ ((w8)) 6 ≤ 255 by omega) (show (n8) = 10 by have qh0 := HIDe r8; omega) (fun z21 σ21 F21' A21' H' O' hS21 hA21 pz21_0 => ⟨rfl, ?_⟩))
      refine v_back (c := c) (s := s) H (show vsub V17_ve1 V34 [0, 8] = true by decide +kernel) H' O' (fun F21 A21 H O' eF21 eA21 => ?_)
      have O := OUT_trans O O'
      -- PackHouse.boundOf
      have hc309 : ∀ (tc309_0 : Int), ∀ (ls : rO) (σ : rS) (F_c309 : hF) (A_c309 : hA) , rlook ls 0 = some (.ref (D 0)) → rlook ls 1 = some (I (x1)) → rlook ls 3 = some (I (1)) → HW V17_ve1 σ D N F_c309 A_c309 → OUT (V17_ve1).length D N σE c s D N σ c s → SF [] F21 F_c309 → SA [] A21 A_c309 → (inr (tc309_0)) → (((u2_1) ≤ (z21) ∧ (tc309_0) = (0)) ∨ ((u2_1) > (z21) ∧ (tc309_0) = (1))) → Ew 17 (d + 3) 309 ls [I (tc309_0), I (v20), I (1), .ref (D 7)] σ c s Q := by
       as_aux_lemma =>
        intro tc309_0 ls σ F_c309 A_c309  lc309_0 lc309_1 lc309_3 H O hS_c309 hA_c309     jc309_0 jc309_1
        refine w_iaddA rfl (fun z22 gz22 => ?_)
        refine v_sI H (o := 7) (z := z22) rfl rfl rfl rfl (n := n7) (en7) (show 0 ≤ 1 ∧ 1 < n7 by have qh0 := HIDe r7; omega) (show inr (z22) by omega) (fun σ H O' => ?_)
        have O := OUT_trans O O'
        refine Ew_of (pc' := 312) (fun _ => x_iload_n rfl lc309_3) ?_
        refine Ew_of (pc' := 313) (fun _ => x_iconst rfl) ?_
        refine w_icmpne (t := 337) rfl rfl (show inr (1) by omega) (show inr (4) by omega) (fun b23 => ?_) (fun b23 => ?_)
        · exact hc337  _ _ _ _  (lc309_0) (lc309_1) H O (SF_trans (SF_trans (SF_trans (SF_refl) (SF_glu (ι := [4, 1, 5, 6]) hS17 eF17 (by decide +kernel)) (any_sub (l' := []) rfl)) (SF_glu (ι := [0, 8]) hS21 eF21 (by decide +kernel)) (any_sub (l' := []) rfl)) hS_c309 (any_sub rfl)) (SA_upd (SA_trans (SA_trans (SA_upd (SA_trans (SA_refl) (SA_glu (ι := [4, 1, 5, 6]) hA17 eA17 (by decide +kernel)) (any_subA (l' := []) rfl)) rfl) (SA_glu (ι := [0, 8]) hA21 eA21 (by decide +kernel)) (any_subA (l' := []) rfl)) hA_c309 (any_subA rfl)) rfl)     (show 0 ≤ (u2_1) ∧ (u2_1) ≤ (n3) ∧ (n3) ≤ 65536 by have qh0 := HIDe r2; have qh1 := HIDe r4; omega)
        · exact absurd b23 (by omega)
      refine w_icmple (t := 308) rfl rfl (show inr (u2_1) by have qh0 := HIDe r2; omega) (show inr (z21) by omega) (fun b24 => ?_) (fun b24 => ?_)
      · refine Ew_of (pc' := 309) (fun _ => x_iconst rfl) ?_
        exact hc309 (0) _ _ _ _  (rk_o (hl0) rfl rfl) (rk_o (hl1) rfl rfl) (rk_o (hl3) rfl rfl) H O (SF_refl) (SA_refl)     (show inr (0) by omega) (show ((u2_1) ≤ (z21) ∧ (0) = (0)) ∨ ((u2_1) > (z21) ∧ (0) = (1)) by have qh0 := HIDe r2; omega)
      · refine Ew_of (pc' := 305) (fun _ => x_iconst rfl) ?_
        refine Ew_of (pc' := 309) (fun _ => x_goto rfl rfl) ?_
        exact hc309 (1) _ _ _ _  (rk_o (hl0) rfl rfl) (rk_o (hl1) rfl rfl) (rk_o (hl3) rfl rfl) H O (SF_refl) (SA_refl)     (show inr (1) by omega) (show ((u2_1) ≤ (z21) ∧ (1) = (0)) ∨ ((u2_1) > (z21) ∧ (1) = (1)) by have qh0 := HIDe r2; omega)
    · refine Ew_of (pc' := 271) (fun _ => x_iconst rfl) ?_
      refine Ew_of (pc' := 275) (fun _ => x_goto rfl rfl) ?_
      refine w_iaddA rfl (fun z25 gz25 => ?_)
      refine v_sI H (o := 7) (z := z25) rfl rfl rfl rfl (n := n7) (en7) (show 0 ≤ 0 ∧ 0 < n7 by have qh0 := HIDe r7; omega) (show inr (z25) by omega) (fun σ H O' => ?_)
      have O := OUT_trans O O'
      refine Ew_of (pc' := 278) (fun _ => x_aload_n rfl (rk_o (hl0) rfl rfl)) ?_
      refine v_g H (o := 0) (v := .ref (D 7)) rfl rfl rfl rfl rfl (vrf ((((show F17 0 16 = F 0 16 from (eF17 0 16)))).trans (pf7))) ?_
      refine Ew_of (pc' := 282) (fun _ => x_iconst rfl) ?_
      refine Ew_of (pc' := 283) (fun _ => x_dup2 rfl rfl rfl) ?_
      refine v_lI H (o := 7) rfl rfl rfl rfl (n := n7) (en7) (show 0 ≤ 1 ∧ 1 < n7 by have qh0 := HIDe r7; omega) (fun v26 ev26 qv26 => ?_)
      replace qv26 := HIDm qv26
      have ev26 : (upd1 (A 7) (0) (z25)) (1) = v26 := (congrFun (congrArg (fun q => upd1 q (0) (z25)) ((show A17 7 = A 7 from (eA17 7)))) (1)).symm.trans ev26
      refine Ew_of (pc' := 285) (fun _ => x_aload_n rfl (rk_o (hl0) rfl rfl)) ?_
      refine v_g H (o := 0) (v := .ref (D 2)) rfl rfl rfl rfl rfl (vrf ((((show F17 0 5 = F 0 5 from (eF17 0 5)))).trans (pf2))) ?_
      refine v_g H (o := 2) (v := I (u2_1)) rfl rfl rfl rfl rfl (congrArg (fun z : Int => I z) ((((show F17 2 1 = F 2 1 from (eF17 2 1))).trans (eu2_1)) : F17 2 1 = u2_1)) ?_
      refine Ew_of (pc' := 292) (fun _ => x_aload_n rfl (rk_o (hl0) rfl rfl)) ?_
      refine Ew_of (pc' := 293) (fun _ => x_iload_n rfl (rk_o (hl3) rfl rfl)) ?_
      refine Ew_of (pc' := 295) (fun _ => x_aload rfl (rk_o (hl4) rfl rfl)) ?_
      refine v_g H (o := 1) (v := I (u1_1)) rfl rfl rfl rfl rfl (congrArg (fun z : Int => I z) ((((show F17 1 1 = F 1 1 from (eF17 1 1).trans (hS17 1 1 rfl))).trans (eu1_1)) : F17 1 1 = u1_1)) ?_
      refine v_inv H (o := 0) rfl rfl rfl rfl rfl rfl (by rfl) (C34 (D := pul [0, 8] D) (N := pul [0, 8] N) (HW_sub H (VS_of (show vsub V17_ve1 V34 [0, 8] = true by decide +kernel))) ((((show F17 0 1 = F 0 1 from (eF17 0 1)))).trans (pf8)) (n8) (en8) (w8) (((show A17 8 = A 8 from (eA17 8))).trans (ew8)) (show inr (1) by omega) (show inr (u1_1) by have qh0 := HIDe r1; omega) (show 0 ≤ (u1_1) ∧ (u1_1) ≤ 16384 by have qh0 := HIDe r1; omega) (show 1 ≤ ((w8)) 2 ∧ ((w8)) 2 ≤ 65536 by omega) (show 0 ≤ ((w8)) 8 ∧ ((w8)) 8 ≤ 11 by omega) (show 0 ≤ ((w8)) 6 ∧ ((w8)) 6 ≤ 255 by omega) (show (n8) = 10 by have qh0 := HIDe r8; omega) (fun z27 σ27 F27' A27' H' O' hS27 hA27 pz27_0 => ⟨rfl, ?_⟩))
      refine v_back (c := c) (s := s) H (show vsub V17_ve1 V34 [0, 8] = true by decide +kernel) H' O' (fun F27 A27 H O' eF27 eA27 => ?_)
      have O := OUT_trans O O'
      -- PackHouse.boundOf
      have hc309 : ∀ (tc309_0 : Int), ∀ (ls : rO) (σ : rS) (F_c309 : hF) (A_c309 : hA) , rlook ls 0 = some (.ref (D 0)) → rlook ls 1 = some (I (x1)) → rlook ls 3 = some (I (1)) → HW V17_ve1 σ D N F_c309 A_c309 → OUT (V17_ve1).length D N σE c s D N σ c s → SF [] F27 F_c309 → SA [] A27 A_c309 → (inr (tc309_0)) → (((u2_1) ≤ (z27) ∧ (tc309_0) = (0)) ∨ ((u2_1) > (z27) ∧ (tc309_0) = (1))) → Ew 17 (d + 3) 309 ls [I (tc309_0), I (v26), I (1), .ref (D 7)] σ c s Q := by
       as_aux_lemma =>
        intro tc309_0 ls σ F_c309 A_c309  lc309_0 lc309_1 lc309_3 H O hS_c309 hA_c309     jc309_0 jc309_1
        refine w_iaddA rfl (fun z28 gz28 => ?_)
        refine v_sI H (o := 7) (z := z28) rfl rfl rfl rfl (n := n7) (en7) (show 0 ≤ 1 ∧ 1 < n7 by have qh0 := HIDe r7; omega) (show inr (z28) by omega) (fun σ H O' => ?_)
        have O := OUT_trans O O'
        refine Ew_of (pc' := 312) (fun _ => x_iload_n rfl lc309_3) ?_
        refine Ew_of (pc' := 313) (fun _ => x_iconst rfl) ?_
        refine w_icmpne (t := 337) rfl rfl (show inr (1) by omega) (show inr (4) by omega) (fun b29 => ?_) (fun b29 => ?_)
        · exact hc337  _ _ _ _  (lc309_0) (lc309_1) H O (SF_trans (SF_trans (SF_trans (SF_refl) (SF_glu (ι := [4, 1, 5, 6]) hS17 eF17 (by decide +kernel)) (any_sub (l' := []) rfl)) (SF_glu (ι := [0, 8]) hS27 eF27 (by decide +kernel)) (any_sub (l' := []) rfl)) hS_c309 (any_sub rfl)) (SA_upd (SA_trans (SA_trans (SA_upd (SA_trans (SA_refl) (SA_glu (ι := [4, 1, 5, 6]) hA17 eA17 (by decide +kernel)) (any_subA (l' := []) rfl)) rfl) (SA_glu (ι := [0, 8]) hA27 eA27 (by decide +kernel)) (any_subA (l' := []) rfl)) hA_c309 (any_subA rfl)) rfl)     (show 0 ≤ (u2_1) ∧ (u2_1) ≤ (n3) ∧ (n3) ≤ 65536 by have qh0 := HIDe r2; have qh1 := HIDe r4; omega)
        · exact absurd b29 (by omega)
      refine w_icmple (t := 308) rfl rfl (show inr (u2_1) by have qh0 := HIDe r2; omega) (show inr (z27) by omega) (fun b30 => ?_) (fun b30 => ?_)
      · refine Ew_of (pc' := 309) (fun _ => x_iconst rfl) ?_
        exact hc309 (0) _ _ _ _  (rk_o (hl0) rfl rfl) (rk_o (hl1) rfl rfl) (rk_o (hl3) rfl rfl) H O (SF_refl) (SA_refl)     (show inr (0) by omega) (show ((u2_1) ≤ (z27) ∧ (0) = (0)) ∨ ((u2_1) > (z27) ∧ (0) = (1)) by have qh0 := HIDe r2; omega)
      · refine Ew_of (pc' := 305) (fun _ => x_iconst rfl) ?_
        refine Ew_of (pc' := 309) (fun _ => x_goto rfl rfl) ?_
        exact hc309 (1) _ _ _ _  (rk_o (hl0) rfl rfl) (rk_o (hl1) rfl rfl) (rk_o (hl3) rfl rfl) H O (SF_refl) (SA_refl)     (show inr (1) by omega) (show ((u2_1) ≤ (z27) ∧ (1) = (0)) ∨ ((u2_1) > (z27) ∧ (1) = (1)) by have qh0 := HIDe r2; omega)
abbrev V17_ve2 : vV := [(0, 0, [(4, 0), (4, 0), (4, 0), (4, 0), (4, 0), (4, 0), (4, 0), (4, 0), (4, 0), (4, 0), (4, 0), (4, 0), (4, 0), (4, 0), (4, 0), (4, 0), (4, 0), (0, 0), (0, 0)]), (0, 7, [(4, 0), (0, 0), (1, 0), (0, 0), (0, 0)]), (0, 7, [(4, 0), (0, 0), (1, 0), (0, 0), (0, 0)]), (1, 0, []), (0, 7, [(4, 0), (0, 0), (1, 0), (0, 0), (0, 0)]), (1, 0, []), (1, 0, []), (1, 1, []), (1, 1, [])]
/-- PackHouse.write: this, @F, this.written, this.written.bytes, this.content, this.content.bytes, @F.bytes, this.strays, this.settings -/
theorem C17_ve2 {σE : rS} {D N : Nat → Nat} {F : hF} {A : hA} {d c s : Nat} {Q : wQ} (H : HW V17_ve2 σE D N F A) {x1 y0 : Int} (pf2 : F 0 5 = (D 2 : Int)) (pf3 : F 2 0 = (D 3 : Int)) (pf4 : F 0 6 = (D 4 : Int)) (pf5 : F 4 0 = (D 5 : Int)) (pf6 : F 1 0 = (D 6 : Int)) (pf7 : F 0 16 = (D 7 : Int)) (pf8 : F 0 1 = (D 8 : Int)) (n3 : Int) (en3 : (N 3 : Int) = n3) (n5 : Int) (en5 : (N 5 : Int) = n5) (n6 : Int) (en6 : (N 6 : Int) = n6) (n7 : Int) (en7 : (N 7 : Int) = n7) (n8 : Int) (en8 : (N 8 : Int) = n8) (u1_1 : Int) (eu1_1 : F 1 1 = u1_1) (u2_1 : Int) (eu2_1 : F 2 1 = u2_1) (u4_1 : Int) (eu4_1 : F 4 1 = u4_1) (w8 : Int → Int) (ew8 : A 8 = w8) {ls : rO} (hl0 : rlook ls 0 = some (.ref (D 0))) (hl1 : rlook ls 1 = some (I (x1))) (hl3 : rlook ls 3 = some (I (2))) (hl4 : rlook ls 4 = some (.ref (D 1))) (h0 : inr (x1)) (h1 : inr y0) (h2 : 0 ≤ (u2_1) ∧ (u2_1) ≤ (n3) ∧ (n3) ≤ 65536) (h3 : 0 ≤ (u4_1) ∧ (u4_1) ≤ (n5) ∧ (n5) ≤ 65536) (h4 : 0 ≤ (u1_1) ∧ (u1_1) ≤ (n6) ∧ (n6) ≤ 65536) (h5 : (u1_1) ≤ 16384) (h6 : (n7) = 2) (h7 : 1 ≤ ((w8)) 2 ∧ ((w8)) 2 ≤ 65536) (h8 : 0 ≤ ((w8)) 8 ∧ ((w8)) 8 ≤ 11) (h9 : 0 ≤ ((w8)) 6 ∧ ((w8)) 6 ≤ 255) (h10 : (n8) = 10) (hc337 : ∀ (ls : rO) (σ : rS) (F_c337 : hF) (A_c337 : hA) , rlook ls 0 = some (.ref (D 0)) → rlook ls 1 = some (I (x1)) → HW V17_ve2 σ D N F_c337 A_c337 → OUT (V17_ve2).length D N σE c s D N σ c s → SF [] F F_c337 → SA [7] A A_c337 → (0 ≤ (u2_1) ∧ (u2_1) ≤ (n3) ∧ (n3) ≤ 65536) → Ew 17 (d + 3) 337 ls [] σ c s Q) (k : ∀ (z : Int) (σ : rS) (F' : hF) (A' : hA), HW V17_ve2 σ D N F' A' → OUT (V17_ve2).length D N σE c s D N σ c s → SF [] F F' → SA [7] A A' → (inr (z)) → ((0 : Int) = 1) → Q (some (I z)) σ c s) : Ew 17 (d + 3) 239 ls [I (y0)] σE c s Q := by
  have O := OUT_refl (n := (V17_ve2).length) (D := D) (N := N) (σ := σE) (c := c) (s := s)
  have HE := H
  have r1 : HID ((-2147483648 : Int) ≤ u1_1 ∧ u1_1 ≤ 2147483647) := krg_e (show (-2147483648 : Int) ≤ F 1 1 ∧ F 1 1 ≤ 2147483647 from H.krg 1 1 (by decide)) (show F 1 1 = u1_1 from (eu1_1))
  have r2 : HID ((-2147483648 : Int) ≤ u2_1 ∧ u2_1 ≤ 2147483647) := krg_e (show (-2147483648 : Int) ≤ F 2 1 ∧ F 2 1 ≤ 2147483647 from H.krg 2 1 (by decide)) (show F 2 1 = u2_1 from (eu2_1))
  have r3 : HID ((-2147483648 : Int) ≤ u4_1 ∧ u4_1 ≤ 2147483647) := krg_e (show (-2147483648 : Int) ≤ F 4 1 ∧ F 4 1 ≤ 2147483647 from H.krg 4 1 (by decide)) (show F 4 1 = u4_1 from (eu4_1))
  replace pf2 := HIDm pf2
  replace pf3 := HIDm pf3
  replace pf4 := HIDm pf4
  replace pf5 := HIDm pf5
  replace pf6 := HIDm pf6
  replace pf7 := HIDm pf7
  replace pf8 := HIDm pf8
  replace en3 := HIDm en3
  replace en5 := HIDm en5
  replace en6 := HIDm en6
  replace en7 := HIDm en7
  replace en8 := HIDm en8
  replace eu1_1 := HIDm eu1_1
  replace eu2_1 := HIDm eu2_1
  replace eu4_1 := HIDm eu4_1
  have r4 : HID ((0 : Int) ≤ n3 ∧ n3 ≤ 1000000) := nrng (H.nle 3 (by decide)) (show (N 3 : Int) = n3 from en3)
  have r5 : HID ((0 : Int) ≤ n5 ∧ n5 ≤ 1000000) := nrng (H.nle 5 (by decide)) (show (N 5 : Int) = n5 from en5)
  have r6 : HID ((0 : Int) ≤ n6 ∧ n6 ≤ 1000000) := nrng (H.nle 6 (by decide)) (show (N 6 : Int) = n6 from en6)
  have r7 : HID ((0 : Int) ≤ n7 ∧ n7 ≤ 1000000) := nrng (H.nle 7 (by decide)) (show (N 7 : Int) = n7 from en7)
  have r8 : HID ((0 : Int) ≤ n8 ∧ n8 ≤ 1000000) := nrng (H.nle 8 (by decide)) (show (N 8 : Int) = n8 from en8)
  refine Ew_of (pc' := 241) (fun _ => x_istore rfl) ?_
  refine Ew_of (pc' := 242) (fun _ => x_aload_n rfl (rk_o (hl0) rfl rfl)) ?_
  refine v_g H (o := 0) (v := .ref (D 7)) rfl rfl rfl rfl rfl (vrf (pf7)) ?_
  refine Ew_of (pc' := 246) (fun _ => x_iconst rfl) ?_
  refine Ew_of (pc' := 247) (fun _ => x_dup2 rfl rfl rfl) ?_
  refine v_lI H (o := 7) rfl rfl rfl rfl (n := n7) (en7) (show 0 ≤ 0 ∧ 0 < n7 by have qh0 := HIDe r7; omega) (fun v9 ev9 qv9 => ?_)
  replace qv9 := HIDm qv9
  have ev9 : (A 7) (0) = v9 := (congrFun (rfl : A 7 = A 7) (0)).symm.trans ev9
  refine Ew_of (pc' := 250) (fun _ => x_iload rfl rk_s) ?_
  refine Ew_of (pc' := 252) (fun _ => x_aload rfl (rk_o (hl4) rfl rfl)) ?_
  refine v_g H (o := 1) (v := I (u1_1)) rfl rfl rfl rfl rfl (congrArg (fun z : Int => I z) ((eu1_1) : F 1 1 = u1_1)) ?_
  refine w_icmpne (t := 274) rfl rfl (show inr (y0) by omega) (show inr (u1_1) by have qh0 := HIDe r1; omega) (fun b10 => ?_) (fun b10 => ?_)
  · refine Ew_of (pc' := 275) (fun _ => x_iconst rfl) ?_
    refine w_iaddA rfl (fun z11 gz11 => ?_)
    refine v_sI H (o := 7) (z := z11) rfl rfl rfl rfl (n := n7) (en7) (show 0 ≤ 0 ∧ 0 < n7 by have qh0 := HIDe r7; omega) (show inr (z11) by omega) (fun σ H O' => ?_)
    have O := OUT_trans O O'
    refine Ew_of (pc' := 278) (fun _ => x_aload_n rfl (rk_o (hl0) rfl rfl)) ?_
    refine v_g H (o := 0) (v := .ref (D 7)) rfl rfl rfl rfl rfl (vrf (pf7)) ?_
    refine Ew_of (pc' := 282) (fun _ => x_iconst rfl) ?_
    refine Ew_of (pc' := 283) (fun _ => x_dup2 rfl rfl rfl) ?_
    refine v_lI H (o := 7) rfl rfl rfl rfl (n := n7) (en7) (show 0 ≤ 1 ∧ 1 < n7 by have qh0 := HIDe r7; omega) (fun v12 ev12 qv12 => ?_)
    replace qv12 := HIDm qv12
    have ev12 : (upd1 (A 7) (0) (z11)) (1) = v12 := (congrFun (rfl : (updA A 7 (0) (z11)) 7 = upd1 (A 7) (0) (z11)) (1)).symm.trans ev12
    refine Ew_of (pc' := 285) (fun _ => x_aload_n rfl (rk_o (hl0) rfl rfl)) ?_
    refine v_g H (o := 0) (v := .ref (D 2)) rfl rfl rfl rfl rfl (vrf (pf2)) ?_
    refine v_g H (o := 2) (v := I (u2_1)) rfl rfl rfl rfl rfl (congrArg (fun z : Int => I z) ((eu2_1) : F 2 1 = u2_1)) ?_
    refine Ew_of (pc' := 292) (fun _ => x_aload_n rfl (rk_o (hl0) rfl rfl)) ?_
    refine Ew_of (pc' := 293) (fun _ => x_iload_n rfl (rk_o (hl3) rfl rfl)) ?_
    refine Ew_of (pc' := 295) (fun _ => x_aload rfl (rk_o (hl4) rfl rfl)) ?_
    refine v_g H (o := 1) (v := I (u1_1)) rfl rfl rfl rfl rfl (congrArg (fun z : Int => I z) ((eu1_1) : F 1 1 = u1_1)) ?_
    refine v_inv H (o := 0) rfl rfl rfl rfl rfl rfl (by rfl) (C34 (D := pul [0, 8] D) (N := pul [0, 8] N) (HW_sub H (VS_of (show vsub V17_ve2 V34 [0, 8] = true by decide +kernel))) (pf8) (n8) (en8) (w8) (ew8) (show inr (2) by omega) (show inr (u1_1) by have qh0 := HIDe r1; omega) (show 0 ≤ (u1_1) ∧ (u1_1) ≤ 16384 by have qh0 := HIDe r1; omega) (show 1 ≤ ((w8)) 2 ∧ ((w8)) 2 ≤ 65536 by omega) (show 0 ≤ ((w8)) 8 ∧ ((w8)) 8 ≤ 11 by omega) (show 0 ≤ ((w8)) 6 ∧ ((w8)) 6 ≤ 255 by omega) (show (n8) = 10 by have qh0 := HIDe r8; omega) (fun z13 σ13 F13' A13' H' O' hS13 hA13 pz13_0 => ⟨rfl, ?_⟩))
    refine v_back (c := c) (s := s) H (show vsub V17_ve2 V34 [0, 8] = true by decide +kernel) H' O' (fun F13 A13 H O' eF13 eA13 => ?_)
    have O := OUT_trans O O'
    -- PackHouse.boundOf
    have hc309 : ∀ (tc309_0 : Int), ∀ (ls : rO) (σ : rS) (F_c309 : hF) (A_c309 : hA) , rlook ls 0 = some (.ref (D 0)) → rlook ls 1 = some (I (x1)) → rlook ls 3 = some (I (2)) → HW V17_ve2 σ D N F_c309 A_c309 → OUT (V17_ve2).length D N σE c s D N σ c s → SF [] F13 F_c309 → SA [] A13 A_c309 → (inr (tc309_0)) → (((u2_1) ≤ (z13) ∧ (tc309_0) = (0)) ∨ ((u2_1) > (z13) ∧ (tc309_0) = (1))) → Ew 17 (d + 3) 309 ls [I (tc309_0), I (v12), I (1), .ref (D 7)] σ c s Q := by
     as_aux_lemma =>
      intro tc309_0 ls σ F_c309 A_c309  lc309_0 lc309_1 lc309_3 H O hS_c309 hA_c309     jc309_0 jc309_1
      refine w_iaddA rfl (fun z14 gz14 => ?_)
      refine v_sI H (o := 7) (z := z14) rfl rfl rfl rfl (n := n7) (en7) (show 0 ≤ 1 ∧ 1 < n7 by have qh0 := HIDe r7; omega) (show inr (z14) by omega) (fun σ H O' => ?_)
      have O := OUT_trans O O'
      refine Ew_of (pc' := 312) (fun _ => x_iload_n rfl lc309_3) ?_
      refine Ew_of (pc' := 313) (fun _ => x_iconst rfl) ?_
      refine w_icmpne (t := 337) rfl rfl (show inr (2) by omega) (show inr (4) by omega) (fun b15 => ?_) (fun b15 => ?_)
      · exact hc337  _ _ _ _  (lc309_0) (lc309_1) H O (SF_trans (SF_trans (SF_refl) (SF_glu (ι := [0, 8]) hS13 eF13 (by decide +kernel)) (any_sub (l' := []) rfl)) hS_c309 (any_sub rfl)) (SA_upd (SA_trans (SA_trans (SA_upd (SA_refl) rfl) (SA_glu (ι := [0, 8]) hA13 eA13 (by decide +kernel)) (any_subA (l' := []) rfl)) hA_c309 (any_subA rfl)) rfl)     (show 0 ≤ (u2_1) ∧ (u2_1) ≤ (n3) ∧ (n3) ≤ 65536 by have qh0 := HIDe r2; have qh1 := HIDe r4; omega)
      · exact absurd b15 (by omega)
    refine w_icmple (t := 308) rfl rfl (show inr (u2_1) by have qh0 := HIDe r2; omega) (show inr (z13) by omega) (fun b16 => ?_) (fun b16 => ?_)
    · refine Ew_of (pc' := 309) (fun _ => x_iconst rfl) ?_
      exact hc309 (0) _ _ _ _  (rk_o (hl0) rfl rfl) (rk_o (hl1) rfl rfl) (rk_o (hl3) rfl rfl) H O (SF_refl) (SA_refl)     (show inr (0) by omega) (show ((u2_1) ≤ (z13) ∧ (0) = (0)) ∨ ((u2_1) > (z13) ∧ (0) = (1)) by have qh0 := HIDe r2; omega)
    · refine Ew_of (pc' := 305) (fun _ => x_iconst rfl) ?_
      refine Ew_of (pc' := 309) (fun _ => x_goto rfl rfl) ?_
      exact hc309 (1) _ _ _ _  (rk_o (hl0) rfl rfl) (rk_o (hl1) rfl rfl) (rk_o (hl3) rfl rfl) H O (SF_refl) (SA_refl)     (show inr (1) by omega) (show ((u2_1) ≤ (z13) ∧ (1) = (0)) ∨ ((u2_1) > (z13) ∧ (1) = (1)) by have qh0 := HIDe r2; omega)
  · refine Ew_of (pc' := 259) (fun _ => x_aload_n rfl (rk_o (hl0) rfl rfl)) ?_
    refine v_g H (o := 0) (v := .ref (D 4)) rfl rfl rfl rfl rfl (vrf (pf4)) ?_
    refine Ew_of (pc' := 264) (fun _ => x_aload rfl (rk_o (hl4) rfl rfl)) ?_
    refine w_stat24 rfl rfl (by rfl) (C29_Row_Row (D := pul [4, 1, 5, 6] D) (N := pul [4, 1, 5, 6] N) (HW_sub H (VS_of (show vsub V17_ve2 V29_Row_Row [4, 1, 5, 6] = true by decide +kernel))) (pf5) (pf6) (n5) (en5) (n6) (en6) (u4_1) ((eu4_1)) (u1_1) ((eu1_1)) (show 0 ≤ (u4_1) ∧ (u4_1) ≤ (n5) ∧ (n5) ≤ 65536 by have qh0 := HIDe r3; have qh1 := HIDe r5; omega) (show 0 ≤ (u1_1) ∧ (u1_1) ≤ (n6) ∧ (n6) ≤ 65536 by have qh0 := HIDe r1; have qh1 := HIDe r6; omega) (fun z17 σ17 F17' A17' H' O' hS17 hA17 pz17_0 => ⟨rfl, ?_⟩))
    refine v_back (c := c) (s := s) H (show vsub V17_ve2 V29_Row_Row [4, 1, 5, 6] = true by decide +kernel) H' O' (fun F17 A17 H O' eF17 eA17 => ?_)
    have O := OUT_trans O O'
    -- PackHouse.firstUnlike
    refine w_ifge (t := 274) rfl rfl (show inr (z17) by omega) (fun b18 => ?_) (fun b18 => ?_)
    · refine Ew_of (pc' := 275) (fun _ => x_iconst rfl) ?_
      refine w_iaddA rfl (fun z19 gz19 => ?_)
      refine v_sI H (o := 7) (z := z19) rfl rfl rfl rfl (n := n7) (en7) (show 0 ≤ 0 ∧ 0 < n7 by have qh0 := HIDe r7; omega) (show inr (z19) by omega) (fun σ H O' => ?_)
      have O := OUT_trans O O'
      refine Ew_of (pc' := 278) (fun _ => x_aload_n rfl (rk_o (hl0) rfl rfl)) ?_
      refine v_g H (o := 0) (v := .ref (D 7)) rfl rfl rfl rfl rfl (vrf ((((show F17 0 16 = F 0 16 from (eF17 0 16)))).trans (pf7))) ?_
      refine Ew_of (pc' := 282) (fun _ => x_iconst rfl) ?_
      refine Ew_of (pc' := 283) (fun _ => x_dup2 rfl rfl rfl) ?_
      refine v_lI H (o := 7) rfl rfl rfl rfl (n := n7) (en7) (show 0 ≤ 1 ∧ 1 < n7 by have qh0 := HIDe r7; omega) (fun v20 ev20 qv20 => ?_)
      replace qv20 := HIDm qv20
      have ev20 : (upd1 (A 7) (0) (z19)) (1) = v20 := (congrFun (congrArg (fun q => upd1 q (0) (z19)) ((show A17 7 = A 7 from (eA17 7)))) (1)).symm.trans ev20
      refine Ew_of (pc' := 285) (fun _ => x_aload_n rfl (rk_o (hl0) rfl rfl)) ?_
      refine v_g H (o := 0) (v := .ref (D 2)) rfl rfl rfl rfl rfl (vrf ((((show F17 0 5 = F 0 5 from (eF17 0 5)))).trans (pf2))) ?_
      refine v_g H (o := 2) (v := I (u2_1)) rfl rfl rfl rfl rfl (congrArg (fun z : Int => I z) ((((show F17 2 1 = F 2 1 from (eF17 2 1))).trans (eu2_1)) : F17 2 1 = u2_1)) ?_
      refine Ew_of (pc' := 292) (fun _ => x_aload_n rfl (rk_o (hl0) rfl rfl)) ?_
      refine Ew_of (pc' := 293) (fun _ => x_iload_n rfl (rk_o (hl3) rfl rfl)) ?_
      refine Ew_of (pc' := 295) (fun _ => x_aload rfl (rk_o (hl4) rfl rfl)) ?_
      refine v_g H (o := 1) (v := I (u1_1)) rfl rfl rfl rfl rfl (congrArg (fun z : Int => I z) ((((show F17 1 1 = F 1 1 from (eF17 1 1).trans (hS17 1 1 rfl))).trans (eu1_1)) : F17 1 1 = u1_1)) ?_
      refine v_inv H (o := 0) rfl rfl rfl rfl rfl rfl (by rfl) (C34 (D := pul [0, 8] D) (N := pul [0, 8] N) (HW_sub H (VS_of (show vsub V17_ve2 V34 [0, 8] = true by decide +kernel))) ((((show F17 0 1 = F 0 1 from (eF17 0 1)))).trans (pf8)) (n8) (en8) (w8) (((show A17 8 = A 8 from (eA17 8))).trans (ew8)) (show inr (2) by omega) (show inr (u1_1) by have qh0 := HIDe r1; omega) (show 0 ≤ (u1_1) ∧ (u1_1) ≤ 16384 by have qh0 := HIDe r1; omega) (show 1 ≤ ((w8)) 2 ∧ ((w8)) 2 ≤ 65536 by omega) (show 0 ≤ ((w8)) 8 ∧ ((w8)) 8 ≤ 11 by omega) (show 0 ≤ ((w8)) 6 ∧ ((w8)) 6 ≤ 255 by omega) (show (n8) = 10 by have qh0 := HIDe r8; omega) (fun z21 σ21 F21' A21' H' O' hS21 hA21 pz21_0 => ⟨rfl, ?_⟩))
      refine v_back (c := c) (s := s) H (show vsub V17_ve2 V34 [0, 8] = true by decide +kernel) H' O' (fun F21 A21 H O' eF21 eA21 => ?_)
      have O := OUT_trans O O'
      -- PackHouse.boundOf
      have hc309 : ∀ (tc309_0 : Int), ∀ (ls : rO) (σ : rS) (F_c309 : hF) (A_c309 : hA) , rlook ls 0 = some (.ref (D 0)) → rlook ls 1 = some (I (x1)) → rlook ls 3 = some (I (2)) → HW V17_ve2 σ D N F_c309 A_c309 → OUT (V17_ve2).length D N σE c s D N σ c s → SF [] F21 F_c309 → SA [] A21 A_c309 → (inr (tc309_0)) → (((u2_1) ≤ (z21) ∧ (tc309_0) = (0)) ∨ ((u2_1) > (z21) ∧ (tc309_0) = (1))) → Ew 17 (d + 3) 309 ls [I (tc309_0), I (v20), I (1), .ref (D 7)] σ c s Q := by
       as_aux_lemma =>
        intro tc309_0 ls σ F_c309 A_c309  lc309_0 lc309_1 lc309_3 H O hS_c309 hA_c309     jc309_0 jc309_1
        refine w_iaddA rfl (fun z22 gz22 => ?_)
        refine v_sI H (o := 7) (z := z22) rfl rfl rfl rfl (n := n7) (en7) (show 0 ≤ 1 ∧ 1 < n7 by have qh0 := HIDe r7; omega) (show inr (z22) by omega) (fun σ H O' => ?_)
        have O := OUT_trans O O'
        refine Ew_of (pc' := 312) (fun _ => x_iload_n rfl lc309_3) ?_
        refine Ew_of (pc' := 313) (fun _ => x_iconst rfl) ?_
        refine w_icmpne (t := 337) rfl rfl (show inr (2) by omega) (show inr (4) by omega) (fun b23 => ?_) (fun b23 => ?_)
        · exact hc337  _ _ _ _  (lc309_0) (lc309_1) H O (SF_trans (SF_trans (SF_trans (SF_refl) (SF_glu (ι := [4, 1, 5, 6]) hS17 eF17 (by decide +kernel)) (any_sub (l' := []) rfl)) (SF_glu (ι := [0, 8]) hS21 eF21 (by decide +kernel)) (any_sub (l' := []) rfl)) hS_c309 (any_sub rfl)) (SA_upd (SA_trans (SA_trans (SA_upd (SA_trans (SA_refl) (SA_glu (ι := [4, 1, 5, 6]) hA17 eA17 (by decide +kernel)) (any_subA (l' := []) rfl)) rfl) (SA_glu (ι := [0, 8]) hA21 eA21 (by decide +kernel)) (any_subA (l' := []) rfl)) hA_c309 (any_subA rfl)) rfl)     (show 0 ≤ (u2_1) ∧ (u2_1) ≤ (n3) ∧ (n3) ≤ 65536 by have qh0 := HIDe r2; have qh1 := HIDe r4; omega)
        · exact absurd b23 (by omega)
      refine w_icmple (t := 308) rfl rfl (show inr (u2_1) by have qh0 := HIDe r2; omega) (show inr (z21) by omega) (fun b24 => ?_) (fun b24 => ?_)
      · refine Ew_of (pc' := 309) (fun _ => x_iconst rfl) ?_
        exact hc309 (0) _ _ _ _  (rk_o (hl0) rfl rfl) (rk_o (hl1) rfl rfl) (rk_o (hl3) rfl rfl) H O (SF_refl) (SA_refl)     (show inr (0) by omega) (show ((u2_1) ≤ (z21) ∧ (0) = (0)) ∨ ((u2_1) > (z21) ∧ (0) = (1)) by have qh0 := HIDe r2; omega)
      · refine Ew_of (pc' := 305) (fun _ => x_iconst rfl) ?_
        refine Ew_of (pc' := 309) (fun _ => x_goto rfl rfl) ?_
        exact hc309 (1) _ _ _ _  (rk_o (hl0) rfl rfl) (rk_o (hl1) rfl rfl) (rk_o (hl3) rfl rfl) H O (SF_refl) (SA_refl)     (show inr (1) by omega) (show ((u2_1) ≤ (z21) ∧ (1) = (0)) ∨ ((u2_1) > (z21) ∧ (1) = (1)) by have qh0 := HIDe r2; omega)
    · refine Ew_of (pc' := 271) (fun _ => x_iconst rfl) ?_
      refine Ew_of (pc' := 275) (fun _ => x_goto rfl rfl) ?_
      refine w_iaddA rfl (fun z25 gz25 => ?_)
      refine v_sI H (o := 7) (z := z25) rfl rfl rfl rfl (n := n7) (en7) (show 0 ≤ 0 ∧ 0 < n7 by have qh0 := HIDe r7; omega) (show inr (z25) by omega) (fun σ H O' => ?_)
      have O := OUT_trans O O'
      refine Ew_of (pc' := 278) (fun _ => x_aload_n rfl (rk_o (hl0) rfl rfl)) ?_
      refine v_g H (o := 0) (v := .ref (D 7)) rfl rfl rfl rfl rfl (vrf ((((show F17 0 16 = F 0 16 from (eF17 0 16)))).trans (pf7))) ?_
      refine Ew_of (pc' := 282) (fun _ => x_iconst rfl) ?_
      refine Ew_of (pc' := 283) (fun _ => x_dup2 rfl rfl rfl) ?_
      refine v_lI H (o := 7) rfl rfl rfl rfl (n := n7) (en7) (show 0 ≤ 1 ∧ 1 < n7 by have qh0 := HIDe r7; omega) (fun v26 ev26 qv26 => ?_)
      replace qv26 := HIDm qv26
      have ev26 : (upd1 (A 7) (0) (z25)) (1) = v26 := (congrFun (congrArg (fun q => upd1 q (0) (z25)) ((show A17 7 = A 7 from (eA17 7)))) (1)).symm.trans ev26
      refine Ew_of (pc' := 285) (fun _ => x_aload_n rfl (rk_o (hl0) rfl rfl)) ?_
      refine v_g H (o := 0) (v := .ref (D 2)) rfl rfl rfl rfl rfl (vrf ((((show F17 0 5 = F 0 5 from (eF17 0 5)))).trans (pf2))) ?_
      refine v_g H (o := 2) (v := I (u2_1)) rfl rfl rfl rfl rfl (congrArg (fun z : Int => I z) ((((show F17 2 1 = F 2 1 from (eF17 2 1))).trans (eu2_1)) : F17 2 1 = u2_1)) ?_
      refine Ew_of (pc' := 292) (fun _ => x_aload_n rfl (rk_o (hl0) rfl rfl)) ?_
      refine Ew_of (pc' := 293) (fun _ => x_iload_n rfl (rk_o (hl3) rfl rfl)) ?_
      refine Ew_of (pc' := 295) (fun _ => x_aload rfl (rk_o (hl4) rfl rfl)) ?_
      refine v_g H (o := 1) (v := I (u1_1)) rfl rfl rfl rfl rfl (congrArg (fun z : Int => I z) ((((show F17 1 1 = F 1 1 from (eF17 1 1).trans (hS17 1 1 rfl))).trans (eu1_1)) : F17 1 1 = u1_1)) ?_
      refine v_inv H (o := 0) rfl rfl rfl rfl rfl rfl (by rfl) (C34 (D := pul [0, 8] D) (N := pul [0, 8] N) (HW_sub H (VS_of (show vsub V17_ve2 V34 [0, 8] = true by decide +kernel))) ((((show F17 0 1 = F 0 1 from (eF17 0 1)))).trans (pf8)) (n8) (en8) (w8) (((show A17 8 = A 8 from (eA17 8))).trans (ew8)) (show inr (2) by omega) (show inr (u1_1) by have qh0 := HIDe r1; omega) (show 0 ≤ (u1_1) ∧ (u1_1) ≤ 16384 by have qh0 := HIDe r1; omega) (show 1 ≤ ((w8)) 2 ∧ ((w8)) 2 ≤ 65536 by omega) (show 0 ≤ ((w8)) 8 ∧ ((w8)) 8 ≤ 11 by omega) (show 0 ≤ ((w8)) 6 ∧ ((w8)) 6 ≤ 255 by omega) (show (n8) = 10 by have qh0 := HIDe r8; omega) (fun z27 σ27 F27' A27' H' O' hS27 hA27 pz27_0 => ⟨rfl, ?_⟩))
      refine v_back (c := c) (s := s) H (show vsub V17_ve2 V34 [0, 8] = true by decide +kernel) H' O' (fun F27 A27 H O' eF27 eA27 => ?_)
      have O := OUT_trans O O'
      -- PackHouse.boundOf
      have hc309 : ∀ (tc309_0 : Int), ∀ (ls : rO) (σ : rS) (F_c309 : hF) (A_c309 : hA) , rlook ls 0 = some (.ref (D 0)) → rlook ls 1 = some (I (x1)) → rlook ls 3 = some (I (2)) → HW V17_ve2 σ D N F_c309 A_c309 → OUT (V17_ve2).length D N σE c s D N σ c s → SF [] F27 F_c309 → SA [] A27 A_c309 → (inr (tc309_0)) → (((u2_1) ≤ (z27) ∧ (tc309_0) = (0)) ∨ ((u2_1) > (z27) ∧ (tc309_0) = (1))) → Ew 17 (d + 3) 309 ls [I (tc309_0), I (v26), I (1), .ref (D 7)] σ c s Q := by
       as_aux_lemma =>
        intro tc309_0 ls σ F_c309 A_c309  lc309_0 lc309_1 lc309_3 H O hS_c309 hA_c309     jc309_0 jc309_1
        refine w_iaddA rfl (fun z28 gz28 => ?_)
        refine v_sI H (o := 7) (z := z28) rfl rfl rfl rfl (n := n7) (en7) (show 0 ≤ 1 ∧ 1 < n7 by have qh0 := HIDe r7; omega) (show inr (z28) by omega) (fun σ H O' => ?_)
        have O := OUT_trans O O'
        refine Ew_of (pc' := 312) (fun _ => x_iload_n rfl lc309_3) ?_
        refine Ew_of (pc' := 313) (fun _ => x_iconst rfl) ?_
        refine w_icmpne (t := 337) rfl rfl (show inr (2) by omega) (show inr (4) by omega) (fun b29 => ?_) (fun b29 => ?_)
        · exact hc337  _ _ _ _  (lc309_0) (lc309_1) H O (SF_trans (SF_trans (SF_trans (SF_refl) (SF_glu (ι := [4, 1, 5, 6]) hS17 eF17 (by decide +kernel)) (any_sub (l' := []) rfl)) (SF_glu (ι := [0, 8]) hS27 eF27 (by decide +kernel)) (any_sub (l' := []) rfl)) hS_c309 (any_sub rfl)) (SA_upd (SA_trans (SA_trans (SA_upd (SA_trans (SA_refl) (SA_glu (ι := [4, 1, 5, 6]) hA17 eA17 (by decide +kernel)) (any_subA (l' := []) rfl)) rfl) (SA_glu (ι := [0, 8]) hA27 eA27 (by decide +kernel)) (any_subA (l' := []) rfl)) hA_c309 (any_subA rfl)) rfl)     (show 0 ≤ (u2_1) ∧ (u2_1) ≤ (n3) ∧ (n3) ≤ 65536 by have qh0 := HIDe r2; have qh1 := HIDe r4; omega)
        · exact absurd b29 (by omega)
      refine w_icmple (t := 308) rfl rfl (show inr (u2_1) by have qh0 := HIDe r2; omega) (show inr (z27) by omega) (fun b30 => ?_) (fun b30 => ?_)
      · refine Ew_of (pc' := 309) (fun _ => x_iconst rfl) ?_
        exact hc309 (0) _ _ _ _  (rk_o (hl0) rfl rfl) (rk_o (hl1) rfl rfl) (rk_o (hl3) rfl rfl) H O (SF_refl) (SA_refl)     (show inr (0) by omega) (show ((u2_1) ≤ (z27) ∧ (0) = (0)) ∨ ((u2_1) > (z27) ∧ (0) = (1)) by have qh0 := HIDe r2; omega)
      · refine Ew_of (pc' := 305) (fun _ => x_iconst rfl) ?_
        refine Ew_of (pc' := 309) (fun _ => x_goto rfl rfl) ?_
        exact hc309 (1) _ _ _ _  (rk_o (hl0) rfl rfl) (rk_o (hl1) rfl rfl) (rk_o (hl3) rfl rfl) H O (SF_refl) (SA_refl)     (show inr (1) by omega) (show ((u2_1) ≤ (z27) ∧ (1) = (0)) ∨ ((u2_1) > (z27) ∧ (1) = (1)) by have qh0 := HIDe r2; omega)
abbrev V17_ve3 : vV := [(0, 0, [(4, 0), (4, 0), (4, 0), (4, 0), (4, 0), (4, 0), (4, 0), (4, 0), (4, 0), (4, 0), (4, 0), (4, 0), (4, 0), (4, 0), (4, 0), (4, 0), (4, 0), (0, 0), (0, 0)]), (0, 7, [(4, 0), (0, 0), (1, 0), (0, 0), (0, 0)]), (0, 7, [(4, 0), (0, 0), (1, 0), (0, 0), (0, 0)]), (1, 0, []), (0, 7, [(4, 0), (0, 0), (1, 0), (0, 0), (0, 0)]), (1, 0, []), (1, 0, []), (1, 1, []), (1, 1, [])]
/-- PackHouse.write: this, @F, this.written, this.written.bytes, this.content, this.content.bytes, @F.bytes, this.strays, this.settings -/
theorem C17_ve3 {σE : rS} {D N : Nat → Nat} {F : hF} {A : hA} {d c s : Nat} {Q : wQ} (H : HW V17_ve3 σE D N F A) {x1 y0 : Int} (pf2 : F 0 5 = (D 2 : Int)) (pf3 : F 2 0 = (D 3 : Int)) (pf4 : F 0 6 = (D 4 : Int)) (pf5 : F 4 0 = (D 5 : Int)) (pf6 : F 1 0 = (D 6 : Int)) (pf7 : F 0 16 = (D 7 : Int)) (pf8 : F 0 1 = (D 8 : Int)) (n3 : Int) (en3 : (N 3 : Int) = n3) (n5 : Int) (en5 : (N 5 : Int) = n5) (n6 : Int) (en6 : (N 6 : Int) = n6) (n7 : Int) (en7 : (N 7 : Int) = n7) (n8 : Int) (en8 : (N 8 : Int) = n8) (u1_1 : Int) (eu1_1 : F 1 1 = u1_1) (u2_1 : Int) (eu2_1 : F 2 1 = u2_1) (u4_1 : Int) (eu4_1 : F 4 1 = u4_1) (w8 : Int → Int) (ew8 : A 8 = w8) {ls : rO} (hl0 : rlook ls 0 = some (.ref (D 0))) (hl1 : rlook ls 1 = some (I (x1))) (hl3 : rlook ls 3 = some (I (3))) (hl4 : rlook ls 4 = some (.ref (D 1))) (h0 : inr (x1)) (h1 : inr y0) (h2 : 0 ≤ (u2_1) ∧ (u2_1) ≤ (n3) ∧ (n3) ≤ 65536) (h3 : 0 ≤ (u4_1) ∧ (u4_1) ≤ (n5) ∧ (n5) ≤ 65536) (h4 : 0 ≤ (u1_1) ∧ (u1_1) ≤ (n6) ∧ (n6) ≤ 65536) (h5 : (u1_1) ≤ 16384) (h6 : (n7) = 2) (h7 : 1 ≤ ((w8)) 2 ∧ ((w8)) 2 ≤ 65536) (h8 : 0 ≤ ((w8)) 8 ∧ ((w8)) 8 ≤ 11) (h9 : 0 ≤ ((w8)) 6 ∧ ((w8)) 6 ≤ 255) (h10 : (n8) = 10) (hc337 : ∀ (ls : rO) (σ : rS) (F_c337 : hF) (A_c337 : hA) , rlook ls 0 = some (.ref (D 0)) → rlook ls 1 = some (I (x1)) → HW V17_ve3 σ D N F_c337 A_c337 → OUT (V17_ve3).length D N σE c s D N σ c s → SF [] F F_c337 → SA [7] A A_c337 → (0 ≤ (u2_1) ∧ (u2_1) ≤ (n3) ∧ (n3) ≤ 65536) → Ew 17 (d + 3) 337 ls [] σ c s Q) (k : ∀ (z : Int) (σ : rS) (F' : hF) (A' : hA), HW V17_ve3 σ D N F' A' → OUT (V17_ve3).length D N σE c s D N σ c s → SF [] F F' → SA [7] A A' → (inr (z)) → ((0 : Int) = 1) → Q (some (I z)) σ c s) : Ew 17 (d + 3) 239 ls [I (y0)] σE c s Q := by
  have O := OUT_refl (n := (V17_ve3).length) (D := D) (N := N) (σ := σE) (c := c) (s := s)
  have HE := H
  have r1 : HID ((-2147483648 : Int) ≤ u1_1 ∧ u1_1 ≤ 2147483647) := krg_e (show (-2147483648 : Int) ≤ F 1 1 ∧ F 1 1 ≤ 2147483647 from H.krg 1 1 (by decide)) (show F 1 1 = u1_1 from (eu1_1))
  have r2 : HID ((-2147483648 : Int) ≤ u2_1 ∧ u2_1 ≤ 2147483647) := krg_e (show (-2147483648 : Int) ≤ F 2 1 ∧ F 2 1 ≤ 2147483647 from H.krg 2 1 (by decide)) (show F 2 1 = u2_1 from (eu2_1))
  have r3 : HID ((-2147483648 : Int) ≤ u4_1 ∧ u4_1 ≤ 2147483647) := krg_e (show (-2147483648 : Int) ≤ F 4 1 ∧ F 4 1 ≤ 2147483647 from H.krg 4 1 (by decide)) (show F 4 1 = u4_1 from (eu4_1))
  replace pf2 := HIDm pf2
  replace pf3 := HIDm pf3
  replace pf4 := HIDm pf4
  replace pf5 := HIDm pf5
  replace pf6 := HIDm pf6
  replace pf7 := HIDm pf7
  replace pf8 := HIDm pf8
  replace en3 := HIDm en3
  replace en5 := HIDm en5
  replace en6 := HIDm en6
  replace en7 := HIDm en7
  replace en8 := HIDm en8
  replace eu1_1 := HIDm eu1_1
  replace eu2_1 := HIDm eu2_1
  replace eu4_1 := HIDm eu4_1
  have r4 : HID ((0 : Int) ≤ n3 ∧ n3 ≤ 1000000) := nrng (H.nle 3 (by decide)) (show (N 3 : Int) = n3 from en3)
  have r5 : HID ((0 : Int) ≤ n5 ∧ n5 ≤ 1000000) := nrng (H.nle 5 (by decide)) (show (N 5 : Int) = n5 from en5)
  have r6 : HID ((0 : Int) ≤ n6 ∧ n6 ≤ 1000000) := nrng (H.nle 6 (by decide)) (show (N 6 : Int) = n6 from en6)
  have r7 : HID ((0 : Int) ≤ n7 ∧ n7 ≤ 1000000) := nrng (H.nle 7 (by decide)) (show (N 7 : Int) = n7 from en7)
  have r8 : HID ((0 : Int) ≤ n8 ∧ n8 ≤ 1000000) := nrng (H.nle 8 (by decide)) (show (N 8 : Int) = n8 from en8)
  refine Ew_of (pc' := 241) (fun _ => x_istore rfl) ?_
  refine Ew_of (pc' := 242) (fun _ => x_aload_n rfl (rk_o (hl0) rfl rfl)) ?_
  refine v_g H (o := 0) (v := .ref (D 7)) rfl rfl rfl rfl rfl (vrf (pf7)) ?_
  refine Ew_of (pc' := 246) (fun _ => x_iconst rfl) ?_
  refine Ew_of (pc' := 247) (fun _ => x_dup2 rfl rfl rfl) ?_
  refine v_lI H (o := 7) rfl rfl rfl rfl (n := n7) (en7) (show 0 ≤ 0 ∧ 0 < n7 by have qh0 := HIDe r7; omega) (fun v9 ev9 qv9 => ?_)
  replace qv9 := HIDm qv9
  have ev9 : (A 7) (0) = v9 := (congrFun (rfl : A 7 = A 7) (0)).symm.trans ev9
  refine Ew_of (pc' := 250) (fun _ => x_iload rfl rk_s) ?_
  refine Ew_of (pc' := 252) (fun _ => x_aload rfl (rk_o (hl4) rfl rfl)) ?_
  refine v_g H (o := 1) (v := I (u1_1)) rfl rfl rfl rfl rfl (congrArg (fun z : Int => I z) ((eu1_1) : F 1 1 = u1_1)) ?_
  refine w_icmpne (t := 274) rfl rfl (show inr (y0) by omega) (show inr (u1_1) by have qh0 := HIDe r1; omega) (fun b10 => ?_) (fun b10 => ?_)
  · refine Ew_of (pc' := 275) (fun _ => x_iconst rfl) ?_
    refine w_iaddA rfl (fun z11 gz11 => ?_)
    refine v_sI H (o := 7) (z := z11) rfl rfl rfl rfl (n := n7) (en7) (show 0 ≤ 0 ∧ 0 < n7 by have qh0 := HIDe r7; omega) (show inr (z11) by omega) (fun σ H O' => ?_)
    have O := OUT_trans O O'
    refine Ew_of (pc' := 278) (fun _ => x_aload_n rfl (rk_o (hl0) rfl rfl)) ?_
    refine v_g H (o := 0) (v := .ref (D 7)) rfl rfl rfl rfl rfl (vrf (pf7)) ?_
    refine Ew_of (pc' := 282) (fun _ => x_iconst rfl) ?_
    refine Ew_of (pc' := 283) (fun _ => x_dup2 rfl rfl rfl) ?_
    refine v_lI H (o := 7) rfl rfl rfl rfl (n := n7) (en7) (show 0 ≤ 1 ∧ 1 < n7 by have qh0 := HIDe r7; omega) (fun v12 ev12 qv12 => ?_)
    replace qv12 := HIDm qv12
    have ev12 : (upd1 (A 7) (0) (z11)) (1) = v12 := (congrFun (rfl : (updA A 7 (0) (z11)) 7 = upd1 (A 7) (0) (z11)) (1)).symm.trans ev12
    refine Ew_of (pc' := 285) (fun _ => x_aload_n rfl (rk_o (hl0) rfl rfl)) ?_
    refine v_g H (o := 0) (v := .ref (D 2)) rfl rfl rfl rfl rfl (vrf (pf2)) ?_
    refine v_g H (o := 2) (v := I (u2_1)) rfl rfl rfl rfl rfl (congrArg (fun z : Int => I z) ((eu2_1) : F 2 1 = u2_1)) ?_
    refine Ew_of (pc' := 292) (fun _ => x_aload_n rfl (rk_o (hl0) rfl rfl)) ?_
    refine Ew_of (pc' := 293) (fun _ => x_iload_n rfl (rk_o (hl3) rfl rfl)) ?_
    refine Ew_of (pc' := 295) (fun _ => x_aload rfl (rk_o (hl4) rfl rfl)) ?_
    refine v_g H (o := 1) (v := I (u1_1)) rfl rfl rfl rfl rfl (congrArg (fun z : Int => I z) ((eu1_1) : F 1 1 = u1_1)) ?_
    refine v_inv H (o := 0) rfl rfl rfl rfl rfl rfl (by rfl) (C34 (D := pul [0, 8] D) (N := pul [0, 8] N) (HW_sub H (VS_of (show vsub V17_ve3 V34 [0, 8] = true by decide +kernel))) (pf8) (n8) (en8) (w8) (ew8) (show inr (3) by omega) (show inr (u1_1) by have qh0 := HIDe r1; omega) (show 0 ≤ (u1_1) ∧ (u1_1) ≤ 16384 by have qh0 := HIDe r1; omega) (show 1 ≤ ((w8)) 2 ∧ ((w8)) 2 ≤ 65536 by omega) (show 0 ≤ ((w8)) 8 ∧ ((w8)) 8 ≤ 11 by omega) (show 0 ≤ ((w8)) 6 ∧ ((w8)) 6 ≤ 255 by omega) (show (n8) = 10 by have qh0 := HIDe r8; omega) (fun z13 σ13 F13' A13' H' O' hS13 hA13 pz13_0 => ⟨rfl, ?_⟩))
    refine v_back (c := c) (s := s) H (show vsub V17_ve3 V34 [0, 8] = true by decide +kernel) H' O' (fun F13 A13 H O' eF13 eA13 => ?_)
    have O := OUT_trans O O'
    -- PackHouse.boundOf
    have hc309 : ∀ (tc309_0 : Int), ∀ (ls : rO) (σ : rS) (F_c309 : hF) (A_c309 : hA) , rlook ls 0 = some (.ref (D 0)) → rlook ls 1 = some (I (x1)) → rlook ls 3 = some (I (3)) → HW V17_ve3 σ D N F_c309 A_c309 → OUT (V17_ve3).length D N σE c s D N σ c s → SF [] F13 F_c309 → SA [] A13 A_c309 → (inr (tc309_0)) → (((u2_1) ≤ (z13) ∧ (tc309_0) = (0)) ∨ ((u2_1) > (z13) ∧ (tc309_0) = (1))) → Ew 17 (d + 3) 309 ls [I (tc309_0), I (v12), I (1), .ref (D 7)] σ c s Q := by
     as_aux_lemma =>
      intro tc309_0 ls σ F_c309 A_c309  lc309_0 lc309_1 lc309_3 H O hS_c309 hA_c309     jc309_0 jc309_1
      refine w_iaddA rfl (fun z14 gz14 => ?_)
      refine v_sI H (o := 7) (z := z14) rfl rfl rfl rfl (n := n7) (en7) (show 0 ≤ 1 ∧ 1 < n7 by have qh0 := HIDe r7; omega) (show inr (z14) by omega) (fun σ H O' => ?_)
      have O := OUT_trans O O'
      refine Ew_of (pc' := 312) (fun _ => x_iload_n rfl lc309_3) ?_
      refine Ew_of (pc' := 313) (fun _ => x_iconst rfl) ?_
      refine w_icmpne (t := 337) rfl rfl (show inr (3) by omega) (show inr (4) by omega) (fun b15 => ?_) (fun b15 => ?_)
      · exact hc337  _ _ _ _  (lc309_0) (lc309_1) H O (SF_trans (SF_trans (SF_refl) (SF_glu (ι := [0, 8]) hS13 eF13 (by decide +kernel)) (any_sub (l' := []) rfl)) hS_c309 (any_sub rfl)) (SA_upd (SA_trans (SA_trans (SA_upd (SA_refl) rfl) (SA_glu (ι := [0, 8]) hA13 eA13 (by decide +kernel)) (any_subA (l' := []) rfl)) hA_c309 (any_subA rfl)) rfl)     (show 0 ≤ (u2_1) ∧ (u2_1) ≤ (n3) ∧ (n3) ≤ 65536 by have qh0 := HIDe r2; have qh1 := HIDe r4; omega)
      · exact absurd b15 (by omega)
    refine w_icmple (t := 308) rfl rfl (show inr (u2_1) by have qh0 := HIDe r2; omega) (show inr (z13) by omega) (fun b16 => ?_) (fun b16 => ?_)
    · refine Ew_of (pc' := 309) (fun _ => x_iconst rfl) ?_
      exact hc309 (0) _ _ _ _  (rk_o (hl0) rfl rfl) (rk_o (hl1) rfl rfl) (rk_o (hl3) rfl rfl) H O (SF_refl) (SA_refl)     (show inr (0) by omega) (show ((u2_1) ≤ (z13) ∧ (0) = (0)) ∨ ((u2_1) > (z13) ∧ (0) = (1)) by have qh0 := HIDe r2; omega)
    · refine Ew_of (pc' := 305) (fun _ => x_iconst rfl) ?_
      refine Ew_of (pc' := 309) (fun _ => x_goto rfl rfl) ?_
      exact hc309 (1) _ _ _ _  (rk_o (hl0) rfl rfl) (rk_o (hl1) rfl rfl) (rk_o (hl3) rfl rfl) H O (SF_refl) (SA_refl)     (show inr (1) by omega) (show ((u2_1) ≤ (z13) ∧ (1) = (0)) ∨ ((u2_1) > (z13) ∧ (1) = (1)) by have qh0 := HIDe r2; omega)
  · refine Ew_of (pc' := 259) (fun _ => x_aload_n rfl (rk_o (hl0) rfl rfl)) ?_
    refine v_g H (o := 0) (v := .ref (D 4)) rfl rfl rfl rfl rfl (vrf (pf4)) ?_
    refine Ew_of (pc' := 264) (fun _ => x_aload rfl (rk_o (hl4) rfl rfl)) ?_
    refine w_stat24 rfl rfl (by rfl) (C29_Row_Row (D := pul [4, 1, 5, 6] D) (N := pul [4, 1, 5, 6] N) (HW_sub H (VS_of (show vsub V17_ve3 V29_Row_Row [4, 1, 5, 6] = true by decide +kernel))) (pf5) (pf6) (n5) (en5) (n6) (en6) (u4_1) ((eu4_1)) (u1_1) ((eu1_1)) (show 0 ≤ (u4_1) ∧ (u4_1) ≤ (n5) ∧ (n5) ≤ 65536 by have qh0 := HIDe r3; have qh1 := HIDe r5; omega) (show 0 ≤ (u1_1) ∧ (u1_1) ≤ (n6) ∧ (n6) ≤ 65536 by have qh0 := HIDe r1; have qh1 := HIDe r6; omega) (fun z17 σ17 F17' A17' H' O' hS17 hA17 pz17_0 => ⟨rfl, ?_⟩))
    refine v_back (c := c) (s := s) H (show vsub V17_ve3 V29_Row_Row [4, 1, 5, 6] = true by decide +kernel) H' O' (fun F17 A17 H O' eF17 eA17 => ?_)
    have O := OUT_trans O O'
    -- PackHouse.firstUnlike
    refine w_ifge (t := 274) rfl rfl (show inr (z17) by omega) (fun b18 => ?_) (fun b18 => ?_)
    · refine Ew_of (pc' := 275) (fun _ => x_iconst rfl) ?_
      refine w_iaddA rfl (fun z19 gz19 => ?_)
      refine v_sI H (o := 7) (z := z19) rfl rfl rfl rfl (n := n7) (en7) (show 0 ≤ 0 ∧ 0 < n7 by have qh0 := HIDe r7; omega) (show inr (z19) by omega) (fun σ H O' => ?_)
      have O := OUT_trans O O'
      refine Ew_of (pc' := 278) (fun _ => x_aload_n rfl (rk_o (hl0) rfl rfl)) ?_
      refine v_g H (o := 0) (v := .ref (D 7)) rfl rfl rfl rfl rfl (vrf ((((show F17 0 16 = F 0 16 from (eF17 0 16)))).trans (pf7))) ?_
      refine Ew_of (pc' := 282) (fun _ => x_iconst rfl) ?_
      refine Ew_of (pc' := 283) (fun _ => x_dup2 rfl rfl rfl) ?_
      refine v_lI H (o := 7) rfl rfl rfl rfl (n := n7) (en7) (show 0 ≤ 1 ∧ 1 < n7 by have qh0 := HIDe r7; omega) (fun v20 ev20 qv20 => ?_)
      replace qv20 := HIDm qv20
      have ev20 : (upd1 (A 7) (0) (z19)) (1) = v20 := (congrFun (congrArg (fun q => upd1 q (0) (z19)) ((show A17 7 = A 7 from (eA17 7)))) (1)).symm.trans ev20
      refine Ew_of (pc' := 285) (fun _ => x_aload_n rfl (rk_o (hl0) rfl rfl)) ?_
      refine v_g H (o := 0) (v := .ref (D 2)) rfl rfl rfl rfl rfl (vrf ((((show F17 0 5 = F 0 5 from (eF17 0 5)))).trans (pf2))) ?_
      refine v_g H (o := 2) (v := I (u2_1)) rfl rfl rfl rfl rfl (congrArg (fun z : Int => I z) ((((show F17 2 1 = F 2 1 from (eF17 2 1))).trans (eu2_1)) : F17 2 1 = u2_1)) ?_
      refine Ew_of (pc' := 292) (fun _ => x_aload_n rfl (rk_o (hl0) rfl rfl)) ?_
      refine Ew_of (pc' := 293) (fun _ => x_iload_n rfl (rk_o (hl3) rfl rfl)) ?_
      refine Ew_of (pc' := 295) (fun _ => x_aload rfl (rk_o (hl4) rfl rfl)) ?_
      refine v_g H (o := 1) (v := I (u1_1)) rfl rfl rfl rfl rfl (congrArg (fun z : Int => I z) ((((show F17 1 1 = F 1 1 from (eF17 1 1).trans (hS17 1 1 rfl))).trans (eu1_1)) : F17 1 1 = u1_1)) ?_
      refine v_inv H (o := 0) rfl rfl rfl rfl rfl rfl (by rfl) (C34 (D := pul [0, 8] D) (N := pul [0, 8] N) (HW_sub H (VS_of (show vsub V17_ve3 V34 [0, 8] = true by decide +kernel))) ((((show F17 0 1 = F 0 1 from (eF17 0 1)))).trans (pf8)) (n8) (en8) (w8) (((show A17 8 = A 8 from (eA17 8))).trans (ew8)) (show inr (3) by omega) (show inr (u1_1) by have qh0 := HIDe r1; omega) (show 0 ≤ (u1_1) ∧ (u1_1) ≤ 16384 by have qh0 := HIDe r1; omega) (show 1 ≤ ((w8)) 2 ∧ ((w8)) 2 ≤ 65536 by omega) (show 0 ≤ ((w8)) 8 ∧ ((w8)) 8 ≤ 11 by omega) (show 0 ≤ ((w8)) 6 ∧ ((w8)) 6 ≤ 255 by omega) (show (n8) = 10 by have qh0 := HIDe r8; omega) (fun z21 σ21 F21' A21' H' O' hS21 hA21 pz21_0 => ⟨rfl, ?_⟩))
      refine v_back (c := c) (s := s) H (show vsub V17_ve3 V34 [0, 8] = true by decide +kernel) H' O' (fun F21 A21 H O' eF21 eA21 => ?_)
      have O := OUT_trans O O'
      -- PackHouse.boundOf
      have hc309 : ∀ (tc309_0 : Int), ∀ (ls : rO) (σ : rS) (F_c309 : hF) (A_c309 : hA) , rlook ls 0 = some (.ref (D 0)) → rlook ls 1 = some (I (x1)) → rlook ls 3 = some (I (3)) → HW V17_ve3 σ D N F_c309 A_c309 → OUT (V17_ve3).length D N σE c s D N σ c s → SF [] F21 F_c309 → SA [] A21 A_c309 → (inr (tc309_0)) → (((u2_1) ≤ (z21) ∧ (tc309_0) = (0)) ∨ ((u2_1) > (z21) ∧ (tc309_0) = (1))) → Ew 17 (d + 3) 309 ls [I (tc309_0), I (v20), I (1), .ref (D 7)] σ c s Q := by
       as_aux_lemma =>
        intro tc309_0 ls σ F_c309 A_c309  lc309_0 lc309_1 lc309_3 H O hS_c309 hA_c309     jc309_0 jc309_1
        refine w_iaddA rfl (fun z22 gz22 => ?_)
        refine v_sI H (o := 7) (z := z22) rfl rfl rfl rfl (n := n7) (en7) (show 0 ≤ 1 ∧ 1 < n7 by have qh0 := HIDe r7; omega) (show inr (z22) by omega) (fun σ H O' => ?_)
        have O := OUT_trans O O'
        refine Ew_of (pc' := 312) (fun _ => x_iload_n rfl lc309_3) ?_
        refine Ew_of (pc' := 313) (fun _ => x_iconst rfl) ?_
        refine w_icmpne (t := 337) rfl rfl (show inr (3) by omega) (show inr (4) by omega) (fun b23 => ?_) (fun b23 => ?_)
        · exact hc337  _ _ _ _  (lc309_0) (lc309_1) H O (SF_trans (SF_trans (SF_trans (SF_refl) (SF_glu (ι := [4, 1, 5, 6]) hS17 eF17 (by decide +kernel)) (any_sub (l' := []) rfl)) (SF_glu (ι := [0, 8]) hS21 eF21 (by decide +kernel)) (any_sub (l' := []) rfl)) hS_c309 (any_sub rfl)) (SA_upd (SA_trans (SA_trans (SA_upd (SA_trans (SA_refl) (SA_glu (ι := [4, 1, 5, 6]) hA17 eA17 (by decide +kernel)) (any_subA (l' := []) rfl)) rfl) (SA_glu (ι := [0, 8]) hA21 eA21 (by decide +kernel)) (any_subA (l' := []) rfl)) hA_c309 (any_subA rfl)) rfl)     (show 0 ≤ (u2_1) ∧ (u2_1) ≤ (n3) ∧ (n3) ≤ 65536 by have qh0 := HIDe r2; have qh1 := HIDe r4; omega)
        · exact absurd b23 (by omega)
      refine w_icmple (t := 308) rfl rfl (show inr (u2_1) by have qh0 := HIDe r2; omega) (show inr (z21) by omega) (fun b24 => ?_) (fun b24 => ?_)
      · refine Ew_of (pc' := 309) (fun _ => x_iconst rfl) ?_
        exact hc309 (0) _ _ _ _  (rk_o (hl0) rfl rfl) (rk_o (hl1) rfl rfl) (rk_o (hl3) rfl rfl) H O (SF_refl) (SA_refl)     (show inr (0) by omega) (show ((u2_1) ≤ (z21) ∧ (0) = (0)) ∨ ((u2_1) > (z21) ∧ (0) = (1)) by have qh0 := HIDe r2; omega)
      · refine Ew_of (pc' := 305) (fun _ => x_iconst rfl) ?_
        refine Ew_of (pc' := 309) (fun _ => x_goto rfl rfl) ?_
        exact hc309 (1) _ _ _ _  (rk_o (hl0) rfl rfl) (rk_o (hl1) rfl rfl) (rk_o (hl3) rfl rfl) H O (SF_refl) (SA_refl)     (show inr (1) by omega) (show ((u2_1) ≤ (z21) ∧ (1) = (0)) ∨ ((u2_1) > (z21) ∧ (1) = (1)) by have qh0 := HIDe r2; omega)
    · refine Ew_of (pc' := 271) (fun _ => x_iconst rfl) ?_
      refine Ew_of (pc' := 275) (fun _ => x_goto rfl rfl) ?_
      refine w_iaddA rfl (fun z25 gz25 => ?_)
      refine v_sI H (o := 7) (z := z25) rfl rfl rfl rfl (n := n7) (en7) (show 0 ≤ 0 ∧ 0 < n7 by have qh0 := HIDe r7; omega) (show inr (z25) by omega) (fun σ H O' => ?_)
      have O := OUT_trans O O'
      refine Ew_of (pc' := 278) (fun _ => x_aload_n rfl (rk_o (hl0) rfl rfl)) ?_
      refine v_g H (o := 0) (v := .ref (D 7)) rfl rfl rfl rfl rfl (vrf ((((show F17 0 16 = F 0 16 from (eF17 0 16)))).trans (pf7))) ?_
      refine Ew_of (pc' := 282) (fun _ => x_iconst rfl) ?_
      refine Ew_of (pc' := 283) (fun _ => x_dup2 rfl rfl rfl) ?_
      refine v_lI H (o := 7) rfl rfl rfl rfl (n := n7) (en7) (show 0 ≤ 1 ∧ 1 < n7 by have qh0 := HIDe r7; omega) (fun v26 ev26 qv26 => ?_)
      replace qv26 := HIDm qv26
      have ev26 : (upd1 (A 7) (0) (z25)) (1) = v26 := (congrFun (congrArg (fun q => upd1 q (0) (z25)) ((show A17 7 = A 7 from (eA17 7)))) (1)).symm.trans ev26
      refine Ew_of (pc' := 285) (fun _ => x_aload_n rfl (rk_o (hl0) rfl rfl)) ?_
      refine v_g H (o := 0) (v := .ref (D 2)) rfl rfl rfl rfl rfl (vrf ((((show F17 0 5 = F 0 5 from (eF17 0 5)))).trans (pf2))) ?_
      refine v_g H (o := 2) (v := I (u2_1)) rfl rfl rfl rfl rfl (congrArg (fun z : Int => I z) ((((show F17 2 1 = F 2 1 from (eF17 2 1))).trans (eu2_1)) : F17 2 1 = u2_1)) ?_
      refine Ew_of (pc' := 292) (fun _ => x_aload_n rfl (rk_o (hl0) rfl rfl)) ?_
      refine Ew_of (pc' := 293) (fun _ => x_iload_n rfl (rk_o (hl3) rfl rfl)) ?_
      refine Ew_of (pc' := 295) (fun _ => x_aload rfl (rk_o (hl4) rfl rfl)) ?_
      refine v_g H (o := 1) (v := I (u1_1)) rfl rfl rfl rfl rfl (congrArg (fun z : Int => I z) ((((show F17 1 1 = F 1 1 from (eF17 1 1).trans (hS17 1 1 rfl))).trans (eu1_1)) : F17 1 1 = u1_1)) ?_
      refine v_inv H (o := 0) rfl rfl rfl rfl rfl rfl (by rfl) (C34 (D := pul [0, 8] D) (N := pul [0, 8] N) (HW_sub H (VS_of (show vsub V17_ve3 V34 [0, 8] = true by decide +kernel))) ((((show F17 0 1 = F 0 1 from (eF17 0 1)))).trans (pf8)) (n8) (en8) (w8) (((show A17 8 = A 8 from (eA17 8))).trans (ew8)) (show inr (3) by omega) (show inr (u1_1) by have qh0 := HIDe r1; omega) (show 0 ≤ (u1_1) ∧ (u1_1) ≤ 16384 by have qh0 := HIDe r1; omega) (show 1 ≤ ((w8)) 2 ∧ ((w8)) 2 ≤ 65536 by omega) (show 0 ≤ ((w8)) 8 ∧ ((w8)) 8 ≤ 11 by omega) (show 0 ≤ ((w8)) 6 ∧ ((w8)) 6 ≤ 255 by omega) (show (n8) = 10 by have qh0 := HIDe r8; omega) (fun z27 σ27 F27' A27' H' O' hS27 hA27 pz27_0 => ⟨rfl, ?_⟩))
      refine v_back (c := c) (s := s) H (show vsub V17_ve3 V34 [0, 8] = true by decide +kernel) H' O' (fun F27 A27 H O' eF27 eA27 => ?_)
      have O := OUT_trans O O'
      -- PackHouse.boundOf
      have hc309 : ∀ (tc309_0 : Int), ∀ (ls : rO) (σ : rS) (F_c309 : hF) (A_c309 : hA) , rlook ls 0 = some (.ref (D 0)) → rlook ls 1 = some (I (x1)) → rlook ls 3 = some (I (3)) → HW V17_ve3 σ D N F_c309 A_c309 → OUT (V17_ve3).length D N σE c s D N σ c s → SF [] F27 F_c309 → SA [] A27 A_c309 → (inr (tc309_0)) → (((u2_1) ≤ (z27) ∧ (tc309_0) = (0)) ∨ ((u2_1) > (z27) ∧ (tc309_0) = (1))) → Ew 17 (d + 3) 309 ls [I (tc309_0), I (v26), I (1), .ref (D 7)] σ c s Q := by
       as_aux_lemma =>
        intro tc309_0 ls σ F_c309 A_c309  lc309_0 lc309_1 lc309_3 H O hS_c309 hA_c309     jc309_0 jc309_1
        refine w_iaddA rfl (fun z28 gz28 => ?_)
        refine v_sI H (o := 7) (z := z28) rfl rfl rfl rfl (n := n7) (en7) (show 0 ≤ 1 ∧ 1 < n7 by have qh0 := HIDe r7; omega) (show inr (z28) by omega) (fun σ H O' => ?_)
        have O := OUT_trans O O'
        refine Ew_of (pc' := 312) (fun _ => x_iload_n rfl lc309_3) ?_
        refine Ew_of (pc' := 313) (fun _ => x_iconst rfl) ?_
        refine w_icmpne (t := 337) rfl rfl (show inr (3) by omega) (show inr (4) by omega) (fun b29 => ?_) (fun b29 => ?_)
        · exact hc337  _ _ _ _  (lc309_0) (lc309_1) H O (SF_trans (SF_trans (SF_trans (SF_refl) (SF_glu (ι := [4, 1, 5, 6]) hS17 eF17 (by decide +kernel)) (any_sub (l' := []) rfl)) (SF_glu (ι := [0, 8]) hS27 eF27 (by decide +kernel)) (any_sub (l' := []) rfl)) hS_c309 (any_sub rfl)) (SA_upd (SA_trans (SA_trans (SA_upd (SA_trans (SA_refl) (SA_glu (ι := [4, 1, 5, 6]) hA17 eA17 (by decide +kernel)) (any_subA (l' := []) rfl)) rfl) (SA_glu (ι := [0, 8]) hA27 eA27 (by decide +kernel)) (any_subA (l' := []) rfl)) hA_c309 (any_subA rfl)) rfl)     (show 0 ≤ (u2_1) ∧ (u2_1) ≤ (n3) ∧ (n3) ≤ 65536 by have qh0 := HIDe r2; have qh1 := HIDe r4; omega)
        · exact absurd b29 (by omega)
      refine w_icmple (t := 308) rfl rfl (show inr (u2_1) by have qh0 := HIDe r2; omega) (show inr (z27) by omega) (fun b30 => ?_) (fun b30 => ?_)
      · refine Ew_of (pc' := 309) (fun _ => x_iconst rfl) ?_
        exact hc309 (0) _ _ _ _  (rk_o (hl0) rfl rfl) (rk_o (hl1) rfl rfl) (rk_o (hl3) rfl rfl) H O (SF_refl) (SA_refl)     (show inr (0) by omega) (show ((u2_1) ≤ (z27) ∧ (0) = (0)) ∨ ((u2_1) > (z27) ∧ (0) = (1)) by have qh0 := HIDe r2; omega)
      · refine Ew_of (pc' := 305) (fun _ => x_iconst rfl) ?_
        refine Ew_of (pc' := 309) (fun _ => x_goto rfl rfl) ?_
        exact hc309 (1) _ _ _ _  (rk_o (hl0) rfl rfl) (rk_o (hl1) rfl rfl) (rk_o (hl3) rfl rfl) H O (SF_refl) (SA_refl)     (show inr (1) by omega) (show ((u2_1) ≤ (z27) ∧ (1) = (0)) ∨ ((u2_1) > (z27) ∧ (1) = (1)) by have qh0 := HIDe r2; omega)
abbrev V17_vg : vV := [(0, 0, [(4, 0), (4, 0), (4, 0), (4, 0), (4, 0), (4, 0), (4, 0), (4, 0), (4, 0), (4, 0), (4, 0), (4, 0), (4, 0), (4, 0), (4, 0), (4, 0), (4, 0), (0, 0), (0, 0)]), (1, 4, []), (0, 7, [(4, 0), (0, 0), (1, 0), (0, 0), (0, 0)]), (1, 0, []), (0, 7, [(4, 0), (0, 0), (1, 0), (0, 0), (0, 0)]), (1, 0, []), (0, 7, [(4, 0), (0, 0), (1, 0), (0, 0), (0, 0)]), (1, 0, []), (0, 7, [(4, 0), (0, 0), (1, 0), (0, 0), (0, 0)]), (1, 0, []), (0, 7, [(4, 0), (0, 0), (1, 0), (0, 0), (0, 0)]), (1, 0, [])]
/-- PackHouse.write: this, this.rows, this.rows.0, this.rows.0.bytes, this.rows.1, this.rows.1.bytes, this.rows.2, this.rows.2.bytes, this.rows.3, this.rows.3.bytes, this.written, this.written.bytes -/
theorem C17_vg {σE : rS} {D N : Nat → Nat} {F : hF} {A : hA} {d c s : Nat} {Q : wQ} (H : HW V17_vg σE D N F A) {x1 : Int} (pf1 : F 0 0 = (D 1 : Int)) (pf2 : A 1 0 = (D 2 : Int)) (pf3 : F 2 0 = (D 3 : Int)) (pf4 : A 1 1 = (D 4 : Int)) (pf5 : F 4 0 = (D 5 : Int)) (pf6 : A 1 2 = (D 6 : Int)) (pf7 : F 6 0 = (D 7 : Int)) (pf8 : A 1 3 = (D 8 : Int)) (pf9 : F 8 0 = (D 9 : Int)) (pf10 : F 0 5 = (D 10 : Int)) (pf11 : F 10 0 = (D 11 : Int)) (n1 : Int) (en1 : (N 1 : Int) = n1) (n3 : Int) (en3 : (N 3 : Int) = n3) (n5 : Int) (en5 : (N 5 : Int) = n5) (n7 : Int) (en7 : (N 7 : Int) = n7) (n9 : Int) (en9 : (N 9 : Int) = n9) (n11 : Int) (en11 : (N 11 : Int) = n11) (u2_1 : Int) (eu2_1 : F 2 1 = u2_1) (u4_1 : Int) (eu4_1 : F 4 1 = u4_1) (u6_1 : Int) (eu6_1 : F 6 1 = u6_1) (u8_1 : Int) (eu8_1 : F 8 1 = u8_1) (u10_1 : Int) (eu10_1 : F 10 1 = u10_1) {ls : rO} (hl0 : rlook ls 0 = some (.ref (D 0))) (hl1 : rlook ls 1 = some (I (x1))) (h0 : inr (x1)) (h1 : (n1) = 4) (h2 : 0 ≤ (u2_1) ∧ (u2_1) ≤ (n3) ∧ (n3) ≤ 65536) (h3 : 0 ≤ (u4_1) ∧ (u4_1) ≤ (n5) ∧ (n5) ≤ 65536) (h4 : 0 ≤ (u6_1) ∧ (u6_1) ≤ (n7) ∧ (n7) ≤ 65536) (h5 : 0 ≤ (u8_1) ∧ (u8_1) ≤ (n9) ∧ (n9) ≤ 65536) (h6 : 0 ≤ (u10_1) ∧ (u10_1) ≤ (n11) ∧ (n11) ≤ 65536) (h7 : 0 ≤ (x1) ∧ (x1) ≤ 3) (k : ∀ (z : Int) (σ : rS) (D' N' : Nat → Nat) (F' : hF) (A' : hA) (c' s' : Nat), HW V17_vg σ D' N' F' A' → OUT (V17_vg).length D N σE c s D' N' σ c' s' → SD [3, 5, 7, 9] D D' → SD [3, 5, 7, 9] N N' → SF [(2, 0), (2, 1), (2, 2), (2, 3), (2, 4), (4, 0), (4, 1), (4, 2), (4, 3), (4, 4), (6, 0), (6, 1), (6, 2), (6, 3), (6, 4), (8, 0), (8, 1), (8, 2), (8, 3), (8, 4)] F F' → SA [3, 5, 7, 9] A A' → F' 2 0 = (D' 3 : Int) → F' 4 0 = (D' 5 : Int) → F' 6 0 = (D' 7 : Int) → F' 8 0 = (D' 9 : Int) → ∀ m3 : Int, (N' 3 : Int) = m3 → ∀ m5 : Int, (N' 5 : Int) = m5 → ∀ m7 : Int, (N' 7 : Int) = m7 → ∀ m9 : Int, (N' 9 : Int) = m9 → ∀ y2_1 : Int, F' 2 1 = y2_1 → ∀ y4_1 : Int, F' 4 1 = y4_1 → ∀ y6_1 : Int, F' 6 1 = y6_1 → ∀ y8_1 : Int, F' 8 1 = y8_1 → (inr (z)) → (0 ≤ (y2_1) ∧ (y2_1) ≤ (m3) ∧ (m3) ≤ 65536) → (0 ≤ (y4_1) ∧ (y4_1) ≤ (m5) ∧ (m5) ≤ 65536) → (0 ≤ (y6_1) ∧ (y6_1) ≤ (m7) ∧ (m7) ≤ 65536) → (0 ≤ (y8_1) ∧ (y8_1) ≤ (m9) ∧ (m9) ≤ 65536) → (0 ≤ (u10_1) ∧ (u10_1) ≤ (n11) ∧ (n11) ≤ 65536) → Q (some (I z)) σ c' s') : Ew 17 (d + 4) 337 ls [] σE c s Q := by
  have O := OUT_refl (n := (V17_vg).length) (D := D) (N := N) (σ := σE) (c := c) (s := s)
  have HE := H
  have r1 : HID ((-2147483648 : Int) ≤ u2_1 ∧ u2_1 ≤ 2147483647) := krg_e (show (-2147483648 : Int) ≤ F 2 1 ∧ F 2 1 ≤ 2147483647 from H.krg 2 1 (by decide)) (show F 2 1 = u2_1 from (eu2_1))
  have r2 : HID ((-2147483648 : Int) ≤ u4_1 ∧ u4_1 ≤ 2147483647) := krg_e (show (-2147483648 : Int) ≤ F 4 1 ∧ F 4 1 ≤ 2147483647 from H.krg 4 1 (by decide)) (show F 4 1 = u4_1 from (eu4_1))
  have r3 : HID ((-2147483648 : Int) ≤ u6_1 ∧ u6_1 ≤ 2147483647) := krg_e (show (-2147483648 : Int) ≤ F 6 1 ∧ F 6 1 ≤ 2147483647 from H.krg 6 1 (by decide)) (show F 6 1 = u6_1 from (eu6_1))
  have r4 : HID ((-2147483648 : Int) ≤ u8_1 ∧ u8_1 ≤ 2147483647) := krg_e (show (-2147483648 : Int) ≤ F 8 1 ∧ F 8 1 ≤ 2147483647 from H.krg 8 1 (by decide)) (show F 8 1 = u8_1 from (eu8_1))
  have r5 : HID ((-2147483648 : Int) ≤ u10_1 ∧ u10_1 ≤ 2147483647) := krg_e (show (-2147483648 : Int) ≤ F 10 1 ∧ F 10 1 ≤ 2147483647 from H.krg 10 1 (by decide)) (show F 10 1 = u10_1 from (eu10_1))
  replace pf1 := HIDm pf1
  replace pf2 := HIDm pf2
  replace pf3 := HIDm pf3
  replace pf4 := HIDm pf4
  replace pf5 := HIDm pf5
  replace pf6 := HIDm pf6
  replace pf7 := HIDm pf7
  replace pf8 := HIDm pf8
  replace pf9 := HIDm pf9
  replace pf10 := HIDm pf10
  replace pf11 := HIDm pf11
  replace en1 := HIDm en1
  replace en3 := HIDm en3
  replace en5 := HIDm en5
  replace en7 := HIDm en7
  replace en9 := HIDm en9
  replace en11 := HIDm en11
  replace eu2_1 := HIDm eu2_1
  replace eu4_1 := HIDm eu4_1
  replace eu6_1 := HIDm eu6_1
  replace eu8_1 := HIDm eu8_1
  replace eu10_1 := HIDm eu10_1
  have r6 : HID ((0 : Int) ≤ n1 ∧ n1 ≤ 1000000) := nrng (H.nle 1 (by decide)) (show (N 1 : Int) = n1 from en1)
  have r7 : HID ((0 : Int) ≤ n3 ∧ n3 ≤ 1000000) := nrng (H.nle 3 (by decide)) (show (N 3 : Int) = n3 from en3)
  have r8 : HID ((0 : Int) ≤ n5 ∧ n5 ≤ 1000000) := nrng (H.nle 5 (by decide)) (show (N 5 : Int) = n5 from en5)
  have r9 : HID ((0 : Int) ≤ n7 ∧ n7 ≤ 1000000) := nrng (H.nle 7 (by decide)) (show (N 7 : Int) = n7 from en7)
  have r10 : HID ((0 : Int) ≤ n9 ∧ n9 ≤ 1000000) := nrng (H.nle 9 (by decide)) (show (N 9 : Int) = n9 from en9)
  have r11 : HID ((0 : Int) ≤ n11 ∧ n11 ≤ 1000000) := nrng (H.nle 11 (by decide)) (show (N 11 : Int) = n11 from en11)
  refine Ew_of (pc' := 338) (fun _ => x_aload_n rfl hl0) ?_
  refine v_g H (o := 0) (v := .ref (D 1)) rfl rfl rfl rfl rfl (vrf (pf1)) ?_
  refine Ew_of (pc' := 342) (fun _ => x_iload_n rfl hl1) ?_
  rcases (show x1 = 0 ∨ x1 = 1 ∨ x1 = 2 ∨ x1 = 3 by omega) with b12 | b12 | b12 | b12
  · refine v_lR H (o := 1) rfl rfl rfl rfl rfl (n := n1) (en1) (show 0 ≤ x1 ∧ x1 < n1 by have qh0 := HIDe r6; omega) (z := ((D 2 : Nat) : Int)) (v := .ref (D 2)) ((congrArg (A 1) b12).trans (pf2)) (vrf rfl) ?_
    refine Ew_of (pc' := 344) (fun _ => x_aload_n rfl hl0) ?_
    refine v_g H (o := 0) (v := .ref (D 10)) rfl rfl rfl rfl rfl (vrf (pf10)) ?_
    have r13 : HID ((0 : Int) ≤ F 2 2 ∧ F 2 2 ≤ 1) := krg_e (show (0 : Int) ≤ F 2 2 ∧ F 2 2 ≤ 1 from H.krg 2 2 (by decide)) (show F 2 2 = F 2 2 from rfl)
    refine v_inv H (o := 2) rfl rfl rfl rfl rfl rfl (by rfl) (C158_Row (D := pul [2, 10, 3, 11] D) (N := pul [2, 10, 3, 11] N) (HW_sub H (VS_of (show vsub V17_vg V158_Row [2, 10, 3, 11] = true by decide +kernel))) (pf3) (pf11) (n3) (en3) (n11) (en11) (u2_1) ((eu2_1)) (F 2 2) (rfl) (u10_1) ((eu10_1)) (A 3) (rfl) (A 11) (rfl) (show 0 ≤ (u2_1) ∧ (u2_1) ≤ (n3) ∧ (n3) ≤ 65536 by have qh0 := HIDe r1; have qh1 := HIDe r7; omega) (show 0 ≤ (u10_1) ∧ (u10_1) ≤ (n11) ∧ (n11) ≤ 65536 by have qh0 := HIDe r11; have qh1 := HIDe r5; omega) (fun σ14 D14' N14' F14' A14' c14 s14 H' O' hD14 hN14 hS14 hA14 pm14_2 m14_2 em14_2 y14_0_1 ey14_0_1 y14_0_2 ey14_0_2 w14_2 ew14_2 pz14_0 pz14_1 pz14_2 pz14_3 => ⟨rfl, ?_⟩))
    replace pm14_2 := HIDm pm14_2
    replace em14_2 := HIDm em14_2
    replace ey14_0_1 := HIDm ey14_0_1
    replace ey14_0_2 := HIDm ey14_0_2
    refine v_backM (c := c) (s := s) H (show vsub V17_vg V158_Row [2, 10, 3, 11] = true by decide +kernel) H' O' hD14 (show vmov V17_vg [2, 10, 3, 11] [2] = true by decide +kernel) (fun D14 N14 F14 A14 H O' eD14 eN14 eF14 eA14 => ?_)
    have O := OUT_trans O O'
    -- Row.become
    have pe14_1_0 : HID (A14 1 0 = (D14 2 : Int)) := (congrFun ((show A14 1 = A 1 from (eA14 1))) 0).trans ((pf2).trans (congrArg (fun q : Nat => (q : Int)) ((show D14 2 = D 2 from (eD14 2).trans (hD14 0 rfl))).symm))
    have pe14_1_1 : HID (A14 1 1 = (D14 4 : Int)) := (congrFun ((show A14 1 = A 1 from (eA14 1))) 1).trans ((pf4).trans (congrArg (fun q : Nat => (q : Int)) ((show D14 4 = D 4 from (eD14 4))).symm))
    have pe14_1_2 : HID (A14 1 2 = (D14 6 : Int)) := (congrFun ((show A14 1 = A 1 from (eA14 1))) 2).trans ((pf6).trans (congrArg (fun q : Nat => (q : Int)) ((show D14 6 = D 6 from (eD14 6))).symm))
    have pe14_1_3 : HID (A14 1 3 = (D14 8 : Int)) := (congrFun ((show A14 1 = A 1 from (eA14 1))) 3).trans ((pf8).trans (congrArg (fun q : Nat => (q : Int)) ((show D14 8 = D 8 from (eD14 8))).symm))
    have pf14_0_0 : HID (F14 0 0 = (D14 1 : Int)) := ((show F14 0 0 = F 0 0 from (eF14 0 0))).trans ((pf1).trans (congrArg (fun q : Nat => (q : Int)) ((show D14 1 = D 1 from (eD14 1))).symm))
    have pf14_0_5 : HID (F14 0 5 = (D14 10 : Int)) := ((show F14 0 5 = F 0 5 from (eF14 0 5))).trans ((pf10).trans (congrArg (fun q : Nat => (q : Int)) ((show D14 10 = D 10 from (eD14 10).trans (hD14 1 rfl))).symm))
    have pf14_10_0 : HID (F14 10 0 = (D14 11 : Int)) := ((show F14 10 0 = F 10 0 from (eF14 10 0).trans (hS14 1 0 rfl))).trans ((pf11).trans (congrArg (fun q : Nat => (q : Int)) ((show D14 11 = D 11 from (eD14 11).trans (hD14 3 rfl))).symm))
    have pf14_2_0 : HID (F14 2 0 = (D14 3 : Int)) := (eF14 2 0).trans (pm14_2.trans (congrArg (fun q : Nat => (q : Int)) (eD14 3).symm))
    have pf14_4_0 : HID (F14 4 0 = (D14 5 : Int)) := ((show F14 4 0 = F 4 0 from (eF14 4 0))).trans ((pf5).trans (congrArg (fun q : Nat => (q : Int)) ((show D14 5 = D 5 from (eD14 5))).symm))
    have pf14_6_0 : HID (F14 6 0 = (D14 7 : Int)) := ((show F14 6 0 = F 6 0 from (eF14 6 0))).trans ((pf7).trans (congrArg (fun q : Nat => (q : Int)) ((show D14 7 = D 7 from (eD14 7))).symm))
    have pf14_8_0 : HID (F14 8 0 = (D14 9 : Int)) := ((show F14 8 0 = F 8 0 from (eF14 8 0))).trans ((pf9).trans (congrArg (fun q : Nat => (q : Int)) ((show D14 9 = D 9 from (eD14 9))).symm))
    have r15 : HID ((0 : Int) ≤ m14_2 ∧ m14_2 ≤ 1000000) := nrng (H.nle 3 (by decide)) (show (N14 3 : Int) = m14_2 from (congrArg (fun q : Nat => (q : Int)) (eN14 3)).trans em14_2)
    have r16 : HID ((-2147483648 : Int) ≤ y14_0_1 ∧ y14_0_1 ≤ 2147483647) := krg_e (show (-2147483648 : Int) ≤ F14 2 1 ∧ F14 2 1 ≤ 2147483647 from H.krg 2 1 (by decide)) (show F14 2 1 = y14_0_1 from ((eF14 2 1).trans ey14_0_1))
    have r17 : HID ((0 : Int) ≤ y14_0_2 ∧ y14_0_2 ≤ 1) := krg_e (show (0 : Int) ≤ F14 2 2 ∧ F14 2 2 ≤ 1 from H.krg 2 2 (by decide)) (show F14 2 2 = y14_0_2 from ((eF14 2 2).trans ey14_0_2))
    refine Ew_of (pc' := 351) (fun _ => x_aload_n rfl hl0) ?_
    refine Ew_stk (show ([.ref (D 0)] : List Value) = [.ref (D14 0)] by rw [show D14 0 = D 0 from ((show D14 0 = D 0 from (eD14 0)))]) ?_
    refine v_g H (o := 0) (v := .ref (D14 10)) rfl rfl rfl rfl rfl (vrf (pf14_0_5)) ?_
    refine v_g H (o := 10) (v := I (u10_1)) rfl rfl rfl rfl rfl (congrArg (fun z : Int => I z) ((((show F14 10 1 = F 10 1 from (eF14 10 1).trans (hS14 1 1 rfl))).trans (eu10_1)) : F14 10 1 = u10_1)) ?_
    exact w_ireturn rfl (k (u10_1) _ _ _ _ _ _ _ H O (SD_trans (SD_refl) (SD_glu (ι := [2, 10, 3, 11]) hD14 eD14 (by decide +kernel)) (any_subA (l' := [3]) rfl)) (SD_trans (SD_refl) (SD_glu (ι := [2, 10, 3, 11]) hN14 eN14 (by decide +kernel)) (any_subA (l' := [3]) rfl)) (SF_trans (SF_refl) (SF_glu (ι := [2, 10, 3, 11]) hS14 eF14 (by decide +kernel)) (any_sub (l' := [(2, 0), (2, 1), (2, 2), (2, 3), (2, 4)]) rfl)) (SA_trans (SA_refl) (SA_glu (ι := [2, 10, 3, 11]) hA14 eA14 (by decide +kernel)) (any_subA (l' := [3]) rfl)) (pf14_2_0) (pf14_4_0) (pf14_6_0) (pf14_8_0) (m14_2) ((congrArg (fun q : Nat => (q : Int)) (eN14 3)).trans em14_2) (n5) ((congrArg (fun q : Nat => (q : Int)) (show N14 5 = N 5 from (eN14 5))).trans (en5)) (n7) ((congrArg (fun q : Nat => (q : Int)) (show N14 7 = N 7 from (eN14 7))).trans (en7)) (n9) ((congrArg (fun q : Nat => (q : Int)) (show N14 9 = N 9 from (eN14 9))).trans (en9)) (y14_0_1) (((eF14 2 1).trans ey14_0_1)) (u4_1) ((((show F14 4 1 = F 4 1 from (eF14 4 1))).trans (eu4_1))) (u6_1) ((((show F14 6 1 = F 6 1 from (eF14 6 1))).trans (eu6_1))) (u8_1) ((((show F14 8 1 = F 8 1 from (eF14 8 1))).trans (eu8_1))) (show inr (u10_1) by have qh0 := HIDe r5; omega) (show 0 ≤ (y14_0_1) ∧ (y14_0_1) ≤ (m14_2) ∧ (m14_2) ≤ 65536 by have qh0 := HIDe r15; have qh1 := HIDe r16; omega) (show 0 ≤ (u4_1) ∧ (u4_1) ≤ (n5) ∧ (n5) ≤ 65536 by have qh0 := HIDe r2; have qh1 := HIDe r8; omega) (show 0 ≤ (u6_1) ∧ (u6_1) ≤ (n7) ∧ (n7) ≤ 65536 by have qh0 := HIDe r3; have qh1 := HIDe r9; omega) (show 0 ≤ (u8_1) ∧ (u8_1) ≤ (n9) ∧ (n9) ≤ 65536 by have qh0 := HIDe r10; have qh1 := HIDe r4; omega) (show 0 ≤ (u10_1) ∧ (u10_1) ≤ (n11) ∧ (n11) ≤ 65536 by have qh0 := HIDe r11; have qh1 := HIDe r5; omega))
  · refine v_lR H (o := 1) rfl rfl rfl rfl rfl (n := n1) (en1) (show 0 ≤ x1 ∧ x1 < n1 by have qh0 := HIDe r6; omega) (z := ((D 4 : Nat) : Int)) (v := .ref (D 4)) ((congrArg (A 1) b12).trans (pf4)) (vrf rfl) ?_
    refine Ew_of (pc' := 344) (fun _ => x_aload_n rfl hl0) ?_
    refine v_g H (o := 0) (v := .ref (D 10)) rfl rfl rfl rfl rfl (vrf (pf10)) ?_
    have r18 : HID ((0 : Int) ≤ F 4 2 ∧ F 4 2 ≤ 1) := krg_e (show (0 : Int) ≤ F 4 2 ∧ F 4 2 ≤ 1 from H.krg 4 2 (by decide)) (show F 4 2 = F 4 2 from rfl)
    refine v_inv H (o := 4) rfl rfl rfl rfl rfl rfl (by rfl) (C158_Row (D := pul [4, 10, 5, 11] D) (N := pul [4, 10, 5, 11] N) (HW_sub H (VS_of (show vsub V17_vg V158_Row [4, 10, 5, 11] = true by decide +kernel))) (pf5) (pf11) (n5) (en5) (n11) (en11) (u4_1) ((eu4_1)) (F 4 2) (rfl) (u10_1) ((eu10_1)) (A 5) (rfl) (A 11) (rfl) (show 0 ≤ (u4_1) ∧ (u4_1) ≤ (n5) ∧ (n5) ≤ 65536 by have qh0 := HIDe r2; have qh1 := HIDe r8; omega) (show 0 ≤ (u10_1) ∧ (u10_1) ≤ (n11) ∧ (n11) ≤ 65536 by have qh0 := HIDe r11; have qh1 := HIDe r5; omega) (fun σ19 D19' N19' F19' A19' c19 s19 H' O' hD19 hN19 hS19 hA19 pm19_2 m19_2 em19_2 y19_0_1 ey19_0_1 y19_0_2 ey19_0_2 w19_2 ew19_2 pz19_0 pz19_1 pz19_2 pz19_3 => ⟨rfl, ?_⟩))
    replace pm19_2 := HIDm pm19_2
    replace em19_2 := HIDm em19_2
    replace ey19_0_1 := HIDm ey19_0_1
    replace ey19_0_2 := HIDm ey19_0_2
    refine v_backM (c := c) (s := s) H (show vsub V17_vg V158_Row [4, 10, 5, 11] = true by decide +kernel) H' O' hD19 (show vmov V17_vg [4, 10, 5, 11] [2] = true by decide +kernel) (fun D19 N19 F19 A19 H O' eD19 eN19 eF19 eA19 => ?_)
    have O := OUT_trans O O'
    -- Row.become
    have pe19_1_0 : HID (A19 1 0 = (D19 2 : Int)) := (congrFun ((show A19 1 = A 1 from (eA19 1))) 0).trans ((pf2).trans (congrArg (fun q : Nat => (q : Int)) ((show D19 2 = D 2 from (eD19 2))).symm))
    have pe19_1_1 : HID (A19 1 1 = (D19 4 : Int)) := (congrFun ((show A19 1 = A 1 from (eA19 1))) 1).trans ((pf4).trans (congrArg (fun q : Nat => (q : Int)) ((show D19 4 = D 4 from (eD19 4).trans (hD19 0 rfl))).symm))
    have pe19_1_2 : HID (A19 1 2 = (D19 6 : Int)) := (congrFun ((show A19 1 = A 1 from (eA19 1))) 2).trans ((pf6).trans (congrArg (fun q : Nat => (q : Int)) ((show D19 6 = D 6 from (eD19 6))).symm))
    have pe19_1_3 : HID (A19 1 3 = (D19 8 : Int)) := (congrFun ((show A19 1 = A 1 from (eA19 1))) 3).trans ((pf8).trans (congrArg (fun q : Nat => (q : Int)) ((show D19 8 = D 8 from (eD19 8))).symm))
    have pf19_0_0 : HID (F19 0 0 = (D19 1 : Int)) := ((show F19 0 0 = F 0 0 from (eF19 0 0))).trans ((pf1).trans (congrArg (fun q : Nat => (q : Int)) ((show D19 1 = D 1 from (eD19 1))).symm))
    have pf19_0_5 : HID (F19 0 5 = (D19 10 : Int)) := ((show F19 0 5 = F 0 5 from (eF19 0 5))).trans ((pf10).trans (congrArg (fun q : Nat => (q : Int)) ((show D19 10 = D 10 from (eD19 10).trans (hD19 1 rfl))).symm))
    have pf19_10_0 : HID (F19 10 0 = (D19 11 : Int)) := ((show F19 10 0 = F 10 0 from (eF19 10 0).trans (hS19 1 0 rfl))).trans ((pf11).trans (congrArg (fun q : Nat => (q : Int)) ((show D19 11 = D 11 from (eD19 11).trans (hD19 3 rfl))).symm))
    have pf19_2_0 : HID (F19 2 0 = (D19 3 : Int)) := ((show F19 2 0 = F 2 0 from (eF19 2 0))).trans ((pf3).trans (congrArg (fun q : Nat => (q : Int)) ((show D19 3 = D 3 from (eD19 3))).symm))
    have pf19_4_0 : HID (F19 4 0 = (D19 5 : Int)) := (eF19 4 0).trans (pm19_2.trans (congrArg (fun q : Nat => (q : Int)) (eD19 5).symm))
    have pf19_6_0 : HID (F19 6 0 = (D19 7 : Int)) := ((show F19 6 0 = F 6 0 from (eF19 6 0))).trans ((pf7).trans (congrArg (fun q : Nat => (q : Int)) ((show D19 7 = D 7 from (eD19 7))).symm))
    have pf19_8_0 : HID (F19 8 0 = (D19 9 : Int)) := ((show F19 8 0 = F 8 0 from (eF19 8 0))).trans ((pf9).trans (congrArg (fun q : Nat => (q : Int)) ((show D19 9 = D 9 from (eD19 9))).symm))
    have r20 : HID ((0 : Int) ≤ m19_2 ∧ m19_2 ≤ 1000000) := nrng (H.nle 5 (by decide)) (show (N19 5 : Int) = m19_2 from (congrArg (fun q : Nat => (q : Int)) (eN19 5)).trans em19_2)
    have r21 : HID ((-2147483648 : Int) ≤ y19_0_1 ∧ y19_0_1 ≤ 2147483647) := krg_e (show (-2147483648 : Int) ≤ F19 4 1 ∧ F19 4 1 ≤ 2147483647 from H.krg 4 1 (by decide)) (show F19 4 1 = y19_0_1 from ((eF19 4 1).trans ey19_0_1))
    have r22 : HID ((0 : Int) ≤ y19_0_2 ∧ y19_0_2 ≤ 1) := krg_e (show (0 : Int) ≤ F19 4 2 ∧ F19 4 2 ≤ 1 from H.krg 4 2 (by decide)) (show F19 4 2 = y19_0_2 from ((eF19 4 2).trans ey19_0_2))
    refine Ew_of (pc' := 351) (fun _ => x_aload_n rfl hl0) ?_
    refine Ew_stk (show ([.ref (D 0)] : List Value) = [.ref (D19 0)] by rw [show D19 0 = D 0 from ((show D19 0 = D 0 from (eD19 0)))]) ?_
    refine v_g H (o := 0) (v := .ref (D19 10)) rfl rfl rfl rfl rfl (vrf (pf19_0_5)) ?_
    refine v_g H (o := 10) (v := I (u10_1)) rfl rfl rfl rfl rfl (congrArg (fun z : Int => I z) ((((show F19 10 1 = F 10 1 from (eF19 10 1).trans (hS19 1 1 rfl))).trans (eu10_1)) : F19 10 1 = u10_1)) ?_
    exact w_ireturn rfl (k (u10_1) _ _ _ _ _ _ _ H O (SD_trans (SD_refl) (SD_glu (ι := [4, 10, 5, 11]) hD19 eD19 (by decide +kernel)) (any_subA (l' := [5]) rfl)) (SD_trans (SD_refl) (SD_glu (ι := [4, 10, 5, 11]) hN19 eN19 (by decide +kernel)) (any_subA (l' := [5]) rfl)) (SF_trans (SF_refl) (SF_glu (ι := [4, 10, 5, 11]) hS19 eF19 (by decide +kernel)) (any_sub (l' := [(4, 0), (4, 1), (4, 2), (4, 3), (4, 4)]) rfl)) (SA_trans (SA_refl) (SA_glu (ι := [4, 10, 5, 11]) hA19 eA19 (by decide +kernel)) (any_subA (l' := [5]) rfl)) (pf19_2_0) (pf19_4_0) (pf19_6_0) (pf19_8_0) (n3) ((congrArg (fun q : Nat => (q : Int)) (show N19 3 = N 3 from (eN19 3))).trans (en3)) (m19_2) ((congrArg (fun q : Nat => (q : Int)) (eN19 5)).trans em19_2) (n7) ((congrArg (fun q : Nat => (q : Int)) (show N19 7 = N 7 from (eN19 7))).trans (en7)) (n9) ((congrArg (fun q : Nat => (q : Int)) (show N19 9 = N 9 from (eN19 9))).trans (en9)) (u2_1) ((((show F19 2 1 = F 2 1 from (eF19 2 1))).trans (eu2_1))) (y19_0_1) (((eF19 4 1).trans ey19_0_1)) (u6_1) ((((show F19 6 1 = F 6 1 from (eF19 6 1))).trans (eu6_1))) (u8_1) ((((show F19 8 1 = F 8 1 from (eF19 8 1))).trans (eu8_1))) (show inr (u10_1) by have qh0 := HIDe r5; omega) (show 0 ≤ (u2_1) ∧ (u2_1) ≤ (n3) ∧ (n3) ≤ 65536 by have qh0 := HIDe r1; have qh1 := HIDe r7; omega) (show 0 ≤ (y19_0_1) ∧ (y19_0_1) ≤ (m19_2) ∧ (m19_2) ≤ 65536 by have qh0 := HIDe r20; have qh1 := HIDe r21; omega) (show 0 ≤ (u6_1) ∧ (u6_1) ≤ (n7) ∧ (n7) ≤ 65536 by have qh0 := HIDe r3; have qh1 := HIDe r9; omega) (show 0 ≤ (u8_1) ∧ (u8_1) ≤ (n9) ∧ (n9) ≤ 65536 by have qh0 := HIDe r10; have qh1 := HIDe r4; omega) (show 0 ≤ (u10_1) ∧ (u10_1) ≤ (n11) ∧ (n11) ≤ 65536 by have qh0 := HIDe r11; have qh1 := HIDe r5; omega))
  · refine v_lR H (o := 1) rfl rfl rfl rfl rfl (n := n1) (en1) (show 0 ≤ x1 ∧ x1 < n1 by have qh0 := HIDe r6; omega) (z := ((D 6 : Nat) : Int)) (v := .ref (D 6)) ((congrArg (A 1) b12).trans (pf6)) (vrf rfl) ?_
    refine Ew_of (pc' := 344) (fun _ => x_aload_n rfl hl0) ?_
    refine v_g H (o := 0) (v := .ref (D 10)) rfl rfl rfl rfl rfl (vrf (pf10)) ?_
    have r23 : HID ((0 : Int) ≤ F 6 2 ∧ F 6 2 ≤ 1) := krg_e (show (0 : Int) ≤ F 6 2 ∧ F 6 2 ≤ 1 from H.krg 6 2 (by decide)) (show F 6 2 = F 6 2 from rfl)
    refine v_inv H (o := 6) rfl rfl rfl rfl rfl rfl (by rfl) (C158_Row (D := pul [6, 10, 7, 11] D) (N := pul [6, 10, 7, 11] N) (HW_sub H (VS_of (show vsub V17_vg V158_Row [6, 10, 7, 11] = true by decide +kernel))) (pf7) (pf11) (n7) (en7) (n11) (en11) (u6_1) ((eu6_1)) (F 6 2) (rfl) (u10_1) ((eu10_1)) (A 7) (rfl) (A 11) (rfl) (show 0 ≤ (u6_1) ∧ (u6_1) ≤ (n7) ∧ (n7) ≤ 65536 by have qh0 := HIDe r3; have qh1 := HIDe r9; omega) (show 0 ≤ (u10_1) ∧ (u10_1) ≤ (n11) ∧ (n11) ≤ 65536 by have qh0 := HIDe r11; have qh1 := HIDe r5; omega) (fun σ24 D24' N24' F24' A24' c24 s24 H' O' hD24 hN24 hS24 hA24 pm24_2 m24_2 em24_2 y24_0_1 ey24_0_1 y24_0_2 ey24_0_2 w24_2 ew24_2 pz24_0 pz24_1 pz24_2 pz24_3 => ⟨rfl, ?_⟩))
    replace pm24_2 := HIDm pm24_2
    replace em24_2 := HIDm em24_2
    replace ey24_0_1 := HIDm ey24_0_1
    replace ey24_0_2 := HIDm ey24_0_2
    refine v_backM (c := c) (s := s) H (show vsub V17_vg V158_Row [6, 10, 7, 11] = true by decide +kernel) H' O' hD24 (show vmov V17_vg [6, 10, 7, 11] [2] = true by decide +kernel) (fun D24 N24 F24 A24 H O' eD24 eN24 eF24 eA24 => ?_)
    have O := OUT_trans O O'
    -- Row.become
    have pe24_1_0 : HID (A24 1 0 = (D24 2 : Int)) := (congrFun ((show A24 1 = A 1 from (eA24 1))) 0).trans ((pf2).trans (congrArg (fun q : Nat => (q : Int)) ((show D24 2 = D 2 from (eD24 2))).symm))
    have pe24_1_1 : HID (A24 1 1 = (D24 4 : Int)) := (congrFun ((show A24 1 = A 1 from (eA24 1))) 1).trans ((pf4).trans (congrArg (fun q : Nat => (q : Int)) ((show D24 4 = D 4 from (eD24 4))).symm))
    have pe24_1_2 : HID (A24 1 2 = (D24 6 : Int)) := (congrFun ((show A24 1 = A 1 from (eA24 1))) 2).trans ((pf6).trans (congrArg (fun q : Nat => (q : Int)) ((show D24 6 = D 6 from (eD24 6).trans (hD24 0 rfl))).symm))
    have pe24_1_3 : HID (A24 1 3 = (D24 8 : Int)) := (congrFun ((show A24 1 = A 1 from (eA24 1))) 3).trans ((pf8).trans (congrArg (fun q : Nat => (q : Int)) ((show D24 8 = D 8 from (eD24 8))).symm))
    have pf24_0_0 : HID (F24 0 0 = (D24 1 : Int)) := ((show F24 0 0 = F 0 0 from (eF24 0 0))).trans ((pf1).trans (congrArg (fun q : Nat => (q : Int)) ((show D24 1 = D 1 from (eD24 1))).symm))
    have pf24_0_5 : HID (F24 0 5 = (D24 10 : Int)) := ((show F24 0 5 = F 0 5 from (eF24 0 5))).trans ((pf10).trans (congrArg (fun q : Nat => (q : Int)) ((show D24 10 = D 10 from (eD24 10).trans (hD24 1 rfl))).symm))
    have pf24_10_0 : HID (F24 10 0 = (D24 11 : Int)) := ((show F24 10 0 = F 10 0 from (eF24 10 0).trans (hS24 1 0 rfl))).trans ((pf11).trans (congrArg (fun q : Nat => (q : Int)) ((show D24 11 = D 11 from (eD24 11).trans (hD24 3 rfl))).symm))
    have pf24_2_0 : HID (F24 2 0 = (D24 3 : Int)) := ((show F24 2 0 = F 2 0 from (eF24 2 0))).trans ((pf3).trans (congrArg (fun q : Nat => (q : Int)) ((show D24 3 = D 3 from (eD24 3))).symm))
    have pf24_4_0 : HID (F24 4 0 = (D24 5 : Int)) := ((show F24 4 0 = F 4 0 from (eF24 4 0))).trans ((pf5).trans (congrArg (fun q : Nat => (q : Int)) ((show D24 5 = D 5 from (eD24 5))).symm))
    have pf24_6_0 : HID (F24 6 0 = (D24 7 : Int)) := (eF24 6 0).trans (pm24_2.trans (congrArg (fun q : Nat => (q : Int)) (eD24 7).symm))
    have pf24_8_0 : HID (F24 8 0 = (D24 9 : Int)) := ((show F24 8 0 = F 8 0 from (eF24 8 0))).trans ((pf9).trans (congrArg (fun q : Nat => (q : Int)) ((show D24 9 = D 9 from (eD24 9))).symm))
    have r25 : HID ((0 : Int) ≤ m24_2 ∧ m24_2 ≤ 1000000) := nrng (H.nle 7 (by decide)) (show (N24 7 : Int) = m24_2 from (congrArg (fun q : Nat => (q : Int)) (eN24 7)).trans em24_2)
    have r26 : HID ((-2147483648 : Int) ≤ y24_0_1 ∧ y24_0_1 ≤ 2147483647) := krg_e (show (-2147483648 : Int) ≤ F24 6 1 ∧ F24 6 1 ≤ 2147483647 from H.krg 6 1 (by decide)) (show F24 6 1 = y24_0_1 from ((eF24 6 1).trans ey24_0_1))
    have r27 : HID ((0 : Int) ≤ y24_0_2 ∧ y24_0_2 ≤ 1) := krg_e (show (0 : Int) ≤ F24 6 2 ∧ F24 6 2 ≤ 1 from H.krg 6 2 (by decide)) (show F24 6 2 = y24_0_2 from ((eF24 6 2).trans ey24_0_2))
    refine Ew_of (pc' := 351) (fun _ => x_aload_n rfl hl0) ?_
    refine Ew_stk (show ([.ref (D 0)] : List Value) = [.ref (D24 0)] by rw [show D24 0 = D 0 from ((show D24 0 = D 0 from (eD24 0)))]) ?_
    refine v_g H (o := 0) (v := .ref (D24 10)) rfl rfl rfl rfl rfl (vrf (pf24_0_5)) ?_
    refine v_g H (o := 10) (v := I (u10_1)) rfl rfl rfl rfl rfl (congrArg (fun z : Int => I z) ((((show F24 10 1 = F 10 1 from (eF24 10 1).trans (hS24 1 1 rfl))).trans (eu10_1)) : F24 10 1 = u10_1)) ?_
    exact w_ireturn rfl (k (u10_1) _ _ _ _ _ _ _ H O (SD_trans (SD_refl) (SD_glu (ι := [6, 10, 7, 11]) hD24 eD24 (by decide +kernel)) (any_subA (l' := [7]) rfl)) (SD_trans (SD_refl) (SD_glu (ι := [6, 10, 7, 11]) hN24 eN24 (by decide +kernel)) (any_subA (l' := [7]) rfl)) (SF_trans (SF_refl) (SF_glu (ι := [6, 10, 7, 11]) hS24 eF24 (by decide +kernel)) (any_sub (l' := [(6, 0), (6, 1), (6, 2), (6, 3), (6, 4)]) rfl)) (SA_trans (SA_refl) (SA_glu (ι := [6, 10, 7, 11]) hA24 eA24 (by decide +kernel)) (any_subA (l' := [7]) rfl)) (pf24_2_0) (pf24_4_0) (pf24_6_0) (pf24_8_0) (n3) ((congrArg (fun q : Nat => (q : Int)) (show N24 3 = N 3 from (eN24 3))).trans (en3)) (n5) ((congrArg (fun q : Nat => (q : Int)) (show N24 5 = N 5 from (eN24 5))).trans (en5)) (m24_2) ((congrArg (fun q : Nat => (q : Int)) (eN24 7)).trans em24_2) (n9) ((congrArg (fun q : Nat => (q : Int)) (show N24 9 = N 9 from (eN24 9))).trans (en9)) (u2_1) ((((show F24 2 1 = F 2 1 from (eF24 2 1))).trans (eu2_1))) (u4_1) ((((show F24 4 1 = F 4 1 from (eF24 4 1))).trans (eu4_1))) (y24_0_1) (((eF24 6 1).trans ey24_0_1)) (u8_1) ((((show F24 8 1 = F 8 1 from (eF24 8 1))).trans (eu8_1))) (show inr (u10_1) by have qh0 := HIDe r5; omega) (show 0 ≤ (u2_1) ∧ (u2_1) ≤ (n3) ∧ (n3) ≤ 65536 by have qh0 := HIDe r1; have qh1 := HIDe r7; omega) (show 0 ≤ (u4_1) ∧ (u4_1) ≤ (n5) ∧ (n5) ≤ 65536 by have qh0 := HIDe r2; have qh1 := HIDe r8; omega) (show 0 ≤ (y24_0_1) ∧ (y24_0_1) ≤ (m24_2) ∧ (m24_2) ≤ 65536 by have qh0 := HIDe r25; have qh1 := HIDe r26; omega) (show 0 ≤ (u8_1) ∧ (u8_1) ≤ (n9) ∧ (n9) ≤ 65536 by have qh0 := HIDe r10; have qh1 := HIDe r4; omega) (show 0 ≤ (u10_1) ∧ (u10_1) ≤ (n11) ∧ (n11) ≤ 65536 by have qh0 := HIDe r11; have qh1 := HIDe r5; omega))
  · refine v_lR H (o := 1) rfl rfl rfl rfl rfl (n := n1) (en1) (show 0 ≤ x1 ∧ x1 < n1 by have qh0 := HIDe r6; omega) (z := ((D 8 : Nat) : Int)) (v := .ref (D 8)) ((congrArg (A 1) b12).trans (pf8)) (vrf rfl) ?_
    refine Ew_of (pc' := 344) (fun _ => x_aload_n rfl hl0) ?_
    refine v_g H (o := 0) (v := .ref (D 10)) rfl rfl rfl rfl rfl (vrf (pf10)) ?_
    have r28 : HID ((0 : Int) ≤ F 8 2 ∧ F 8 2 ≤ 1) := krg_e (show (0 : Int) ≤ F 8 2 ∧ F 8 2 ≤ 1 from H.krg 8 2 (by decide)) (show F 8 2 = F 8 2 from rfl)
    refine v_inv H (o := 8) rfl rfl rfl rfl rfl rfl (by rfl) (C158_Row (D := pul [8, 10, 9, 11] D) (N := pul [8, 10, 9, 11] N) (HW_sub H (VS_of (show vsub V17_vg V158_Row [8, 10, 9, 11] = true by decide +kernel))) (pf9) (pf11) (n9) (en9) (n11) (en11) (u8_1) ((eu8_1)) (F 8 2) (rfl) (u10_1) ((eu10_1)) (A 9) (rfl) (A 11) (rfl) (show 0 ≤ (u8_1) ∧ (u8_1) ≤ (n9) ∧ (n9) ≤ 65536 by have qh0 := HIDe r10; have qh1 := HIDe r4; omega) (show 0 ≤ (u10_1) ∧ (u10_1) ≤ (n11) ∧ (n11) ≤ 65536 by have qh0 := HIDe r11; have qh1 := HIDe r5; omega) (fun σ29 D29' N29' F29' A29' c29 s29 H' O' hD29 hN29 hS29 hA29 pm29_2 m29_2 em29_2 y29_0_1 ey29_0_1 y29_0_2 ey29_0_2 w29_2 ew29_2 pz29_0 pz29_1 pz29_2 pz29_3 => ⟨rfl, ?_⟩))
    replace pm29_2 := HIDm pm29_2
    replace em29_2 := HIDm em29_2
    replace ey29_0_1 := HIDm ey29_0_1
    replace ey29_0_2 := HIDm ey29_0_2
    refine v_backM (c := c) (s := s) H (show vsub V17_vg V158_Row [8, 10, 9, 11] = true by decide +kernel) H' O' hD29 (show vmov V17_vg [8, 10, 9, 11] [2] = true by decide +kernel) (fun D29 N29 F29 A29 H O' eD29 eN29 eF29 eA29 => ?_)
    have O := OUT_trans O O'
    -- Row.become
    have pe29_1_0 : HID (A29 1 0 = (D29 2 : Int)) := (congrFun ((show A29 1 = A 1 from (eA29 1))) 0).trans ((pf2).trans (congrArg (fun q : Nat => (q : Int)) ((show D29 2 = D 2 from (eD29 2))).symm))
    have pe29_1_1 : HID (A29 1 1 = (D29 4 : Int)) := (congrFun ((show A29 1 = A 1 from (eA29 1))) 1).trans ((pf4).trans (congrArg (fun q : Nat => (q : Int)) ((show D29 4 = D 4 from (eD29 4))).symm))
    have pe29_1_2 : HID (A29 1 2 = (D29 6 : Int)) := (congrFun ((show A29 1 = A 1 from (eA29 1))) 2).trans ((pf6).trans (congrArg (fun q : Nat => (q : Int)) ((show D29 6 = D 6 from (eD29 6))).symm))
    have pe29_1_3 : HID (A29 1 3 = (D29 8 : Int)) := (congrFun ((show A29 1 = A 1 from (eA29 1))) 3).trans ((pf8).trans (congrArg (fun q : Nat => (q : Int)) ((show D29 8 = D 8 from (eD29 8).trans (hD29 0 rfl))).symm))
    have pf29_0_0 : HID (F29 0 0 = (D29 1 : Int)) := ((show F29 0 0 = F 0 0 from (eF29 0 0))).trans ((pf1).trans (congrArg (fun q : Nat => (q : Int)) ((show D29 1 = D 1 from (eD29 1))).symm))
    have pf29_0_5 : HID (F29 0 5 = (D29 10 : Int)) := ((show F29 0 5 = F 0 5 from (eF29 0 5))).trans ((pf10).trans (congrArg (fun q : Nat => (q : Int)) ((show D29 10 = D 10 from (eD29 10).trans (hD29 1 rfl))).symm))
    have pf29_10_0 : HID (F29 10 0 = (D29 11 : Int)) := ((show F29 10 0 = F 10 0 from (eF29 10 0).trans (hS29 1 0 rfl))).trans ((pf11).trans (congrArg (fun q : Nat => (q : Int)) ((show D29 11 = D 11 from (eD29 11).trans (hD29 3 rfl))).symm))
    have pf29_2_0 : HID (F29 2 0 = (D29 3 : Int)) := ((show F29 2 0 = F 2 0 from (eF29 2 0))).trans ((pf3).trans (congrArg (fun q : Nat => (q : Int)) ((show D29 3 = D 3 from (eD29 3))).symm))
    have pf29_4_0 : HID (F29 4 0 = (D29 5 : Int)) := ((show F29 4 0 = F 4 0 from (eF29 4 0))).trans ((pf5).trans (congrArg (fun q : Nat => (q : Int)) ((show D29 5 = D 5 from (eD29 5))).symm))
    have pf29_6_0 : HID (F29 6 0 = (D29 7 : Int)) := ((show F29 6 0 = F 6 0 from (eF29 6 0))).trans ((pf7).trans (congrArg (fun q : Nat => (q : Int)) ((show D29 7 = D 7 from (eD29 7))).symm))
    have pf29_8_0 : HID (F29 8 0 = (D29 9 : Int)) := (eF29 8 0).trans (pm29_2.trans (congrArg (fun q : Nat => (q : Int)) (eD29 9).symm))
    have r30 : HID ((0 : Int) ≤ m29_2 ∧ m29_2 ≤ 1000000) := nrng (H.nle 9 (by decide)) (show (N29 9 : Int) = m29_2 from (congrArg (fun q : Nat => (q : Int)) (eN29 9)).trans em29_2)
    have r31 : HID ((-2147483648 : Int) ≤ y29_0_1 ∧ y29_0_1 ≤ 2147483647) := krg_e (show (-2147483648 : Int) ≤ F29 8 1 ∧ F29 8 1 ≤ 2147483647 from H.krg 8 1 (by decide)) (show F29 8 1 = y29_0_1 from ((eF29 8 1).trans ey29_0_1))
    have r32 : HID ((0 : Int) ≤ y29_0_2 ∧ y29_0_2 ≤ 1) := krg_e (show (0 : Int) ≤ F29 8 2 ∧ F29 8 2 ≤ 1 from H.krg 8 2 (by decide)) (show F29 8 2 = y29_0_2 from ((eF29 8 2).trans ey29_0_2))
    refine Ew_of (pc' := 351) (fun _ => x_aload_n rfl hl0) ?_
    refine Ew_stk (show ([.ref (D 0)] : List Value) = [.ref (D29 0)] by rw [show D29 0 = D 0 from ((show D29 0 = D 0 from (eD29 0)))]) ?_
    refine v_g H (o := 0) (v := .ref (D29 10)) rfl rfl rfl rfl rfl (vrf (pf29_0_5)) ?_
    refine v_g H (o := 10) (v := I (u10_1)) rfl rfl rfl rfl rfl (congrArg (fun z : Int => I z) ((((show F29 10 1 = F 10 1 from (eF29 10 1).trans (hS29 1 1 rfl))).trans (eu10_1)) : F29 10 1 = u10_1)) ?_
    exact w_ireturn rfl (k (u10_1) _ _ _ _ _ _ _ H O (SD_trans (SD_refl) (SD_glu (ι := [8, 10, 9, 11]) hD29 eD29 (by decide +kernel)) (any_subA (l' := [9]) rfl)) (SD_trans (SD_refl) (SD_glu (ι := [8, 10, 9, 11]) hN29 eN29 (by decide +kernel)) (any_subA (l' := [9]) rfl)) (SF_trans (SF_refl) (SF_glu (ι := [8, 10, 9, 11]) hS29 eF29 (by decide +kernel)) (any_sub (l' := [(8, 0), (8, 1), (8, 2), (8, 3), (8, 4)]) rfl)) (SA_trans (SA_refl) (SA_glu (ι := [8, 10, 9, 11]) hA29 eA29 (by decide +kernel)) (any_subA (l' := [9]) rfl)) (pf29_2_0) (pf29_4_0) (pf29_6_0) (pf29_8_0) (n3) ((congrArg (fun q : Nat => (q : Int)) (show N29 3 = N 3 from (eN29 3))).trans (en3)) (n5) ((congrArg (fun q : Nat => (q : Int)) (show N29 5 = N 5 from (eN29 5))).trans (en5)) (n7) ((congrArg (fun q : Nat => (q : Int)) (show N29 7 = N 7 from (eN29 7))).trans (en7)) (m29_2) ((congrArg (fun q : Nat => (q : Int)) (eN29 9)).trans em29_2) (u2_1) ((((show F29 2 1 = F 2 1 from (eF29 2 1))).trans (eu2_1))) (u4_1) ((((show F29 4 1 = F 4 1 from (eF29 4 1))).trans (eu4_1))) (u6_1) ((((show F29 6 1 = F 6 1 from (eF29 6 1))).trans (eu6_1))) (y29_0_1) (((eF29 8 1).trans ey29_0_1)) (show inr (u10_1) by have qh0 := HIDe r5; omega) (show 0 ≤ (u2_1) ∧ (u2_1) ≤ (n3) ∧ (n3) ≤ 65536 by have qh0 := HIDe r1; have qh1 := HIDe r7; omega) (show 0 ≤ (u4_1) ∧ (u4_1) ≤ (n5) ∧ (n5) ≤ 65536 by have qh0 := HIDe r2; have qh1 := HIDe r8; omega) (show 0 ≤ (u6_1) ∧ (u6_1) ≤ (n7) ∧ (n7) ≤ 65536 by have qh0 := HIDe r3; have qh1 := HIDe r9; omega) (show 0 ≤ (y29_0_1) ∧ (y29_0_1) ≤ (m29_2) ∧ (m29_2) ≤ 65536 by have qh0 := HIDe r30; have qh1 := HIDe r31; omega) (show 0 ≤ (u10_1) ∧ (u10_1) ≤ (n11) ∧ (n11) ≤ 65536 by have qh0 := HIDe r11; have qh1 := HIDe r5; omega))
