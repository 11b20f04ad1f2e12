abbrev V17_ve0 : vV := [(0, 0, [(4, 0), (4, 0), (4, 0), (4, 0), (4, 0), (4, 0), (4, 0), (4, 0), (4, 0), (4, 0), (4, 0), (4, 0), (4, 0), (4, 0), (4, 0), (4, 0), (4, 0), (0, 0), (0, 0)]), (0, 7, [(4, 0), (0, 0), (1, 0), (0, 0), (0, 0)]), (0, 7, [(4, 0), (0, 0), (1, 0), (0, 0), (0, 0)]), (1, 0, []), (0, 7, [(4, 0), (0, 0), (1, 0), (0, 0), (0, 0)]), (1, 0, []), (1, 0, []), (1, 1, []), (1, 1, [])]
/-- PackHouse.write: this, @F, this.written, this.written.bytes, this.content, this.content.bytes, @F.bytes, this.strays, this.settings -/
theorem C17_ve0 {σE : rS} {D N : Nat → Nat} {F : hF} {A : hA} {d c s : Nat} {Q : wQ} (H : HW V17_ve0 σE D N F A) {x1 y0 : Int} (pf2 : F 0 5 = (D 2 : Int)) (pf3 : F 2 0 = (D 3 : Int)) (pf4 : F 0 6 = (D 4 : Int)) (pf5 : F 4 0 = (D 5 : Int)) (pf6 : F 1 0 = (D 6 : Int)) (pf7 : F 0 16 = (D 7 : Int)) (pf8 : F 0 1 = (D 8 : Int)) (n3 : Int) (en3 : (N 3 : Int) = n3) (n5 : Int) (en5 : (N 5 : Int) = n5) (n6 : Int) (en6 : (N 6 : Int) = n6) (n7 : Int) (en7 : (N 7 : Int) = n7) (n8 : Int) (en8 : (N 8 : Int) = n8) (u1_1 : Int) (eu1_1 : F 1 1 = u1_1) (u2_1 : Int) (eu2_1 : F 2 1 = u2_1) (u4_1 : Int) (eu4_1 : F 4 1 = u4_1) (w8 : Int → Int) (ew8 : A 8 = w8) {ls : rO} (hl0 : rlook ls 0 = some (.ref (D 0))) (hl1 : rlook ls 1 = some (I (x1))) (hl3 : rlook ls 3 = some (I (0))) (hl4 : rlook ls 4 = some (.ref (D 1))) (h0 : inr (x1)) (h1 : inr y0) (h2 : 0 ≤ (u2_1) ∧ (u2_1) ≤ (n3) ∧ (n3) ≤ 65536) (h3 : 0 ≤ (u4_1) ∧ (u4_1) ≤ (n5) ∧ (n5) ≤ 65536) (h4 : 0 ≤ (u1_1) ∧ (u1_1) ≤ (n6) ∧ (n6) ≤ 65536) (h5 : (u1_1) ≤ 16384) (h6 : (n7) = 2) (h7 : 1 ≤ ((w8)) 2 ∧ ((w8)) 2 ≤ 65536) (h8 : 0 ≤ ((w8)) 8 ∧ ((w8)) 8 ≤ 11) (h9 : 0 ≤ ((w8)) 6 ∧ ((w8)) 6 ≤ 255) (h10 : (n8) = 10) (hc337 : ∀ (ls : rO) (σ : rS) (F_c337 : hF) (A_c337 : hA) , rlook ls 0 = some (.ref (D 0)) → rlook ls 1 = some (I (x1)) → HW V17_ve0 σ D N F_c337 A_c337 → OUT (V17_ve0).length D N σE c s D N σ c s → SF [] F F_c337 → SA [7] A A_c337 → (0 ≤ (u2_1) ∧ (u2_1) ≤ (n3) ∧ (n3) ≤ 65536) → Ew 17 (d + 3) 337 ls [] σ c s Q) (k : ∀ (z : Int) (σ : rS) (Fₚ : hF) (Aₚ : hA), HW V17_ve0 σ D N Fₚ Aₚ → OUT (V17_ve0).length D N σE c s D N σ c s → SF [] F Fₚ → SA [7] A Aₚ → (inr (z)) → ((0 : Int) = 1) → Q (some (I z)) σ c s) : Ew 17 (d + 3) 239 ls [I (y0)] σE c s Q := by
  have O := OUT_refl (n := (V17_ve0).length) (D := D) (N := N) (σ := σE) (c := c) (s := s)
  have HE := H
  have r1 : HID ((-2147483648 : Int) ≤ u1_1 ∧ u1_1 ≤ 2147483647) := krg_e (show (-2147483648 : Int) ≤ F 1 1 ∧ F 1 1 ≤ 2147483647 from H.krg 1 1 (by decide)) (show F 1 1 = u1_1 from (eu1_1))
  have r2 : HID ((-2147483648 : Int) ≤ u2_1 ∧ u2_1 ≤ 2147483647) := krg_e (show (-2147483648 : Int) ≤ F 2 1 ∧ F 2 1 ≤ 2147483647 from H.krg 2 1 (by decide)) (show F 2 1 = u2_1 from (eu2_1))
  have r3 : HID ((-2147483648 : Int) ≤ u4_1 ∧ u4_1 ≤ 2147483647) := krg_e (show (-2147483648 : Int) ≤ F 4 1 ∧ F 4 1 ≤ 2147483647 from H.krg 4 1 (by decide)) (show F 4 1 = u4_1 from (eu4_1))
  replace pf2 := HIDm pf2
  replace pf3 := HIDm pf3
  replace pf4 := HIDm pf4
  replace pf5 := HIDm pf5
  replace pf6 := HIDm pf6
  replace pf7 := HIDm pf7
  replace pf8 := HIDm pf8
  replace en3 := HIDm en3
  replace en5 := HIDm en5
  replace en6 := HIDm en6
  replace en7 := HIDm en7
  replace en8 := HIDm en8
  replace eu1_1 := HIDm eu1_1
  replace eu2_1 := HIDm eu2_1
  replace eu4_1 := HIDm eu4_1
  have r4 : HID ((0 : Int) ≤ n3 ∧ n3 ≤ 1000000) := nrng (H.nle 3 (by decide)) (show (N 3 : Int) = n3 from en3)
  have r5 : HID ((0 : Int) ≤ n5 ∧ n5 ≤ 1000000) := nrng (H.nle 5 (by decide)) (show (N 5 : Int) = n5 from en5)
  have r6 : HID ((0 : Int) ≤ n6 ∧ n6 ≤ 1000000) := nrng (H.nle 6 (by decide)) (show (N 6 : Int) = n6 from en6)
  have r7 : HID ((0 : Int) ≤ n7 ∧ n7 ≤ 1000000) := nrng (H.nle 7 (by decide)) (show (N 7 : Int) = n7 from en7)
  have r8 : HID ((0 : Int) ≤ n8 ∧ n8 ≤ 1000000) := nrng (H.nle 8 (by decide)) (show (N 8 : Int) = n8 from en8)
  refine Ew_of (pcₚ := 241) (fun _ => x_istore rfl) ?_
  refine Ew_of (pcₚ := 242) (fun _ => x_aload_n rfl (rk_o (hl0) rfl rfl)) ?_
  refine v_g H (o := 0) (v := .ref (D 7)) rfl rfl rfl rfl rfl (vrf (pf7)) ?_
  refine Ew_of (pcₚ := 246) (fun _ => x_iconst rfl) ?_
  refine Ew_of (pcₚ := 247) (fun _ => x_dup2 rfl rfl rfl) ?_
  refine v_lI H (o := 7) rfl rfl rfl rfl (n := n7) (en7) (show 0 ≤ 0 ∧ 0 < n7 by have qh0 := HIDe r7; omega) (fun v9 ev9 qv9 => ?_)
  replace qv9 := HIDm qv9
  have ev9 : (A 7) (0) = v9 := (congrFun (rfl : A 7 = A 7) (0)).symm.trans ev9
  refine Ew_of (pcₚ := 250) (fun _ => x_iload rfl rk_s) ?_
  refine Ew_of (pcₚ := 252) (fun _ => x_aload rfl (rk_o (hl4) rfl rfl)) ?_
  refine v_g H (o := 1) (v := I (u1_1)) rfl rfl rfl rfl rfl (congrArg (fun z : Int => I z) ((eu1_1) : F 1 1 = u1_1)) ?_
  refine w_icmpne (t := 274) rfl rfl (show inr (y0) by omega) (show inr (u1_1) by have qh0 := HIDe r1; omega) (fun b10 => ?_) (fun b10 => ?_)
  · refine Ew_of (pcₚ := 275) (fun _ => x_iconst rfl) ?_
    refine w_iaddA rfl (fun z11 gz11 => ?_)
    refine v_sI H (o := 7) (z := z11) rfl rfl rfl rfl (n := n7) (en7) (show 0 ≤ 0 ∧ 0 < n7 by have qh0 := HIDe r7; omega) (show inr (z11) by omega) (fun σ H Oₚ => ?_)
    have O := OUT_trans O Oₚ
    refine Ew_of (pcₚ := 278) (fun _ => x_aload_n rfl (rk_o (hl0) rfl rfl)) ?_
    refine v_g H (o := 0) (v := .ref (D 7)) rfl rfl rfl rfl rfl (vrf (pf7)) ?_
    refine Ew_of (pcₚ := 282) (fun _ => x_iconst rfl) ?_
    refine Ew_of (pcₚ := 283) (fun _ => x_dup2 rfl rfl rfl) ?_
    refine v_lI H (o := 7) rfl rfl rfl rfl (n := n7) (en7) (show 0 ≤ 1 ∧ 1 < n7 by have qh0 := HIDe r7; omega) (fun v12 ev12 qv12 => ?_)
    replace qv12 := HIDm qv12
    have ev12 : (upd1 (A 7) (0) (z11)) (1) = v12 := (congrFun (rfl : (updA A 7 (0) (z11)) 7 = upd1 (A 7) (0) (z11)) (1)).symm.trans ev12
    refine Ew_of (pcₚ := 285) (fun _ => x_aload_n rfl (rk_o (hl0) rfl rfl)) ?_
    refine v_g H (o := 0) (v := .ref (D 2)) rfl rfl rfl rfl rfl (vrf (pf2)) ?_
    refine v_g H (o := 2) (v := I (u2_1)) rfl rfl rfl rfl rfl (congrArg (fun z : Int => I z) ((eu2_1) : F 2 1 = u2_1)) ?_
    refine Ew_of (pcₚ := 292) (fun _ => x_aload_n rfl (rk_o (hl0) rfl rfl)) ?_
    refine Ew_of (pcₚ := 293) (fun _ => x_iload_n rfl (rk_o (hl3) rfl rfl)) ?_
    refine Ew_of (pcₚ := 295) (fun _ => x_aload rfl (rk_o (hl4) rfl rfl)) ?_
    refine v_g H (o := 1) (v := I (u1_1)) rfl rfl rfl rfl rfl (congrArg (fun z : Int => I z) ((eu1_1) : F 1 1 = u1_1)) ?_
    refine v_inv H (o := 0) rfl rfl rfl rfl rfl rfl (by rfl) (C34 (D := pul [0, 8] D) (N := pul [0, 8] N) (HW_sub H (VS_of (show vsub V17_ve0 V34 [0, 8] = true by decide +kernel))) (pf8) (n8) (en8) (w8) (ew8) (show inr (0) by omega) (show inr (u1_1) by have qh0 := HIDe r1; omega) (show 0 ≤ (u1_1) ∧ (u1_1) ≤ 16384 by have qh0 := HIDe r1; omega) (show 1 ≤ ((w8)) 2 ∧ ((w8)) 2 ≤ 65536 by omega) (show 0 ≤ ((w8)) 8 ∧ ((w8)) 8 ≤ 11 by omega) (show 0 ≤ ((w8)) 6 ∧ ((w8)) 6 ≤ 255 by omega) (show (n8) = 10 by have qh0 := HIDe r8; omega) (fun z13 σ13 F13ₚ A13ₚ Hₚ Oₚ hS13 hA13 pz13_0 => ⟨rfl, ?_⟩))
    refine v_back (c := c) (s := s) H (show vsub V17_ve0 V34 [0, 8] = true by decide +kernel) Hₚ Oₚ (fun F13 A13 H Oₚ eF13 eA13 => ?_)
    have O := OUT_trans O Oₚ
    -- PackHouse.boundOf
    have hc309 : ∀ (tc309_0 : Int), ∀ (ls : rO) (σ : rS) (F_c309 : hF) (A_c309 : hA) , rlook ls 0 = some (.ref (D 0)) → rlook ls 1 = some (I (x1)) → rlook ls 3 = some (I (0)) → HW V17_ve0 σ D N F_c309 A_c309 → OUT (V17_ve0).length D N σE c s D N σ c s → SF [] F13 F_c309 → SA [] A13 A_c309 → (inr (tc309_0)) → (((u2_1) ≤ (z13) ∧ (tc309_0) = (0)) ∨ ((u2_1) > (z13) ∧ (tc309_0) = (1))) → Ew 17 (d + 3) 309 ls [I (tc309_0), I (v12), I (1), .ref (D 7)] σ c s Q := by
     as_aux_lemma =>
      intro tc309_0 ls σ F_c309 A_c309  lc309_0 lc309_1 lc309_3 H O hS_c309 hA_c309     jc309_0 jc309_1
      refine w_iaddA rfl (fun z14 gz14 => ?_)
      refine v_sI H (o := 7) (z := z14) rfl rfl rfl rfl (n := n7) (en7) (show 0 ≤ 1 ∧ 1 < n7 by have qh0 := HIDe r7; omega) (show inr (z14) by omega) (fun σ H Oₚ => ?_)
      have O := OUT_trans O Oₚ
      refine Ew_of (pcₚ := 312) (fun _ => x_iload_n rfl lc309_3) ?_
      refine Ew_of (pcₚ := 313) (fun _ => x_iconst rfl) ?_
      refine w_icmpne (t := 337) rfl rfl (show inr (0) by omega) (show inr (4) by omega) (fun b15 => ?_) (fun b15 => ?_)
      · exact hc337  _ _ _ _  (lc309_0) (lc309_1) H O (SF_trans (SF_trans (SF_refl) (SF_glu (ι := [0, 8]) hS13 eF13 (by decide +kernel)) (any_sub (lₚ := []) rfl)) hS_c309 (any_sub rfl)) (SA_upd (SA_trans (SA_trans (SA_upd (SA_refl) rfl) (SA_glu (ι := [0, 8]) hA13 eA13 (by decide +kernel)) (any_subA (lₚ := []) rfl)) hA_c309 (any_subA rfl)) rfl)     (show 0 ≤ (u2_1) ∧ (u2_1) ≤ (n3) ∧ (n3) ≤ 65536 by have qh0 := HIDe r2; have qh1 := HIDe r4; omega)
      · exact absurd b15 (by omega)
    refine w_icmple (t := 308) rfl rfl (show inr (u2_1) by have qh0 := HIDe r2; omega) (show inr (z13) by omega) (fun b16 => ?_) (fun b16 => ?_)
    · refine Ew_of (pcₚ := 309) (fun _ => x_iconst rfl) ?_
      exact hc309 (0) _ _ _ _  (rk_o (hl0) rfl rfl) (rk_o (hl1) rfl rfl) (rk_o (hl3) rfl rfl) H O (SF_refl) (SA_refl)     (show inr (0) by omega) (show ((u2_1) ≤ (z13) ∧ (0) = (0)) ∨ ((u2_1) > (z13) ∧ (0) = (1)) by have qh0 := HIDe r2; omega)
    · refine Ew_of (pcₚ := 305) (fun _ => x_iconst rfl) ?_
      refine Ew_of (pcₚ := 309) (fun _ => x_goto rfl rfl) ?_
      exact hc309 (1) _ _ _ _  (rk_o (hl0) rfl rfl) (rk_o (hl1) rfl rfl) (rk_o (hl3) rfl rfl) H O (SF_refl) (SA_refl)     (show inr (1) by omega) (show ((u2_1) ≤ (z13) ∧ (1) = (0)) ∨ ((u2_1) > (z13) ∧ (1) = (1)) by have qh0 := HIDe r2; omega)
  · refine Ew_of (pcₚ := 259) (fun _ => x_aload_n rfl (rk_o (hl0) rfl rfl)) ?_
    refine v_g H (o := 0) (v := .ref (D 4)) rfl rfl rfl rfl rfl (vrf (pf4)) ?_
    refine Ew_of (pcₚ := 264) (fun _ => x_aload rfl (rk_o (hl4) rfl rfl)) ?_
    refine w_stat24 rfl rfl (by rfl) (C29_Row_Row (D := pul [4, 1, 5, 6] D) (N := pul [4, 1, 5, 6] N) (HW_sub H (VS_of (show vsub V17_ve0 V29_Row_Row [4, 1, 5, 6] = true by decide +kernel))) (pf5) (pf6) (n5) (en5) (n6) (en6) (u4_1) ((eu4_1)) (u1_1) ((eu1_1)) (show 0 ≤ (u4_1) ∧ (u4_1) ≤ (n5) ∧ (n5) ≤ 65536 by have qh0 := HIDe r3; have qh1 := HIDe r5; omega) (show 0 ≤ (u1_1) ∧ (u1_1) ≤ (n6) ∧ (n6) ≤ 65536 by have qh0 := HIDe r1; have qh1 := HIDe r6; omega) (fun z17 σ17 F17ₚ A17ₚ Hₚ Oₚ hS17 hA17 pz17_0 => ⟨rfl, ?_⟩))
    refine v_back (c := c) (s := s) H (show vsub V17_ve0 V29_Row_Row [4, 1, 5, 6] = true by decide +kernel) Hₚ Oₚ (fun F17 A17 H Oₚ eF17 eA17 => ?_)
    have O := OUT_trans O Oₚ
    -- PackHouse.firstUnlike
    refine w_ifge (t := 274) rfl rfl (show inr (z17) by omega) (fun b18 => ?_) (fun b18 => ?_)
    · refine Ew_of (pcₚ := 275) (fun _ => x_iconst rfl) ?_
      refine w_iaddA rfl (fun z19 gz19 => ?_)
      refine v_sI H (o := 7) (z := z19) rfl rfl rfl rfl (n := n7) (en7) (show 0 ≤ 0 ∧ 0 < n7 by have qh0 := HIDe r7; omega) (show inr (z19) by omega) (fun σ H Oₚ => ?_)
      have O := OUT_trans O Oₚ
      refine Ew_of (pcₚ := 278) (fun _ => x_aload_n rfl (rk_o (hl0) rfl rfl)) ?_
      refine v_g H (o := 0) (v := .ref (D 7)) rfl rfl rfl rfl rfl (vrf ((((show F17 0 16 = F 0 16 from (eF17 0 16)))).trans (pf7))) ?_
      refine Ew_of (pcₚ := 282) (fun _ => x_iconst rfl) ?_
      refine Ew_of (pcₚ := 283) (fun _ => x_dup2 rfl rfl rfl) ?_
      refine v_lI H (o := 7) rfl rfl rfl rfl (n := n7) (en7) (show 0 ≤ 1 ∧ 1 < n7 by have qh0 := HIDe r7; omega) (fun v20 ev20 qv20 => ?_)
      replace qv20 := HIDm qv20
      have ev20 : (upd1 (A 7) (0) (z19)) (1) = v20 := (congrFun (congrArg (fun q => upd1 q (0) (z19)) ((show A17 7 = A 7 from (eA17 7)))) (1)).symm.trans ev20
      refine Ew_of (pcₚ := 285) (fun _ => x_aload_n rfl (rk_o (hl0) rfl rfl)) ?_
      refine v_g H (o := 0) (v := .ref (D 2)) rfl rfl rfl rfl rfl (vrf ((((show F17 0 5 = F 0 5 from (eF17 0 5)))).trans (pf2))) ?_
      refine v_g H (o := 2) (v := I (u2_1)) rfl rfl rfl rfl rfl (congrArg (fun z : Int => I z) ((((show F17 2 1 = F 2 1 from (eF17 2 1))).trans (eu2_1)) : F17 2 1 = u2_1)) ?_
      refine Ew_of (pcₚ := 292) (fun _ => x_aload_n rfl (rk_o (hl0) rfl rfl)) ?_
      refine Ew_of (pcₚ := 293) (fun _ => x_iload_n rfl (rk_o (hl3) rfl rfl)) ?_
      refine Ew_of (pcₚ := 295) (fun _ => x_aload rfl (rk_o (hl4) rfl rfl)) ?_
      refine v_g H (o := 1) (v := I (u1_1)) rfl rfl rfl rfl rfl (congrArg (fun z : Int => I z) ((((show F17 1 1 = F 1 1 from (eF17 1 1).trans (hS17 1 1 rfl))).trans (eu1_1)) : F17 1 1 = u1_1)) ?_
      refine v_inv H (o := 0) rfl rfl rfl rfl rfl rfl (by rfl) (C34 (D := pul [0, 8] D) (N := pul [0, 8] N) (HW_sub H (VS_of (show vsub V17_ve0 V34 [0, 8] = true by decide +kernel))) ((((show F17 0 1 = F 0 1 from (eF17 0 1)))).trans (pf8)) (n8) (en8) (w8) (((show A17 8 = A 8 from (eA17 8))).trans (ew8)) (show inr (0) by omega) (show inr (u1_1) by have qh0 := HIDe r1; omega) (show 0 ≤ (u1_1) ∧ (u1_1) ≤ 16384 by have qh0 := HIDe r1; omega) (show 1 ≤ ((w8)) 2 ∧ ((w8)) 2 ≤ 65536 by omega) (show 0 ≤ ((w8)) 8 ∧ ((w8)) 8 ≤ 11 by omega) (show 0 ≤ ((w8)) 6 ∧ ((w8)) 6 ≤ 255 by omega) (show (n8) = 10 by have qh0 := HIDe r8; omega) (fun z21 σ21 F21ₚ A21ₚ Hₚ Oₚ hS21 hA21 pz21_0 => ⟨rfl, ?_⟩))
      refine v_back (c := c) (s := s) H (show vsub V17_ve0 V34 [0, 8] = true by decide +kernel) Hₚ Oₚ (fun F21 A21 H Oₚ eF21 eA21 => ?_)
      have O := OUT_trans O Oₚ
      -- PackHouse.boundOf
      have hc309 : ∀ (tc309_0 : Int), ∀ (ls : rO) (σ : rS) (F_c309 : hF) (A_c309 : hA) , rlook ls 0 = some (.ref (D 0)) → rlook ls 1 = some (I (x1)) → rlook ls 3 = some (I (0)) → HW V17_ve0 σ D N F_c309 A_c309 → OUT (V17_ve0).length D N σE c s D N σ c s → SF [] F21 F_c309 → SA [] A21 A_c309 → (inr (tc309_0)) → (((u2_1) ≤ (z21) ∧ (tc309_0) = (0)) ∨ ((u2_1) > (z21) ∧ (tc309_0) = (1))) → Ew 17 (d + 3) 309 ls [I (tc309_0), I (v20), I (1), .ref (D 7)] σ c s Q := by
       as_aux_lemma =>
        intro tc309_0 ls σ F_c309 A_c309  lc309_0 lc309_1 lc309_3 H O hS_c309 hA_c309     jc309_0 jc309_1
        refine w_iaddA rfl (fun z22 gz22 => ?_)
        refine v_sI H (o := 7) (z := z22) rfl rfl rfl rfl (n := n7) (en7) (show 0 ≤ 1 ∧ 1 < n7 by have qh0 := HIDe r7; omega) (show inr (z22) by omega) (fun σ H Oₚ => ?_)
        have O := OUT_trans O Oₚ
        refine Ew_of (pcₚ := 312) (fun _ => x_iload_n rfl lc309_3) ?_
        refine Ew_of (pcₚ := 313) (fun _ => x_iconst rfl) ?_
        refine w_icmpne (t := 337) rfl rfl (show inr (0) by omega) (show inr (4) by omega) (fun b23 => ?_) (fun b23 => ?_)
        · exact hc337  _ _ _ _  (lc309_0) (lc309_1) H O (SF_trans (SF_trans (SF_trans (SF_refl) (SF_glu (ι := [4, 1, 5, 6]) hS17 eF17 (by decide +kernel)) (any_sub (lₚ := []) rfl)) (SF_glu (ι := [0, 8]) hS21 eF21 (by decide +kernel)) (any_sub (lₚ := []) rfl)) hS_c309 (any_sub rfl)) (SA_upd (SA_trans (SA_trans (SA_upd (SA_trans (SA_refl) (SA_glu (ι := [4, 1, 5, 6]) hA17 eA17 (by decide +kernel)) (any_subA (lₚ := []) rfl)) rfl) (SA_glu (ι := [0, 8]) hA21 eA21 (by decide +kernel)) (any_subA (lₚ := []) rfl)) hA_c309 (any_subA rfl)) rfl)     (show 0 ≤ (u2_1) ∧ (u2_1) ≤ (n3) ∧ (n3) ≤ 65536 by have qh0 := HIDe r2; have qh1 := HIDe r4; omega)
        · exact absurd b23 (by omega)
      refine w_icmple (t := 308) rfl rfl (show inr (u2_1) by have qh0 := HIDe r2; omega) (show inr (z21) by omega) (fun b24 => ?_) (fun b24 => ?_)
      · refine Ew_of (pcₚ := 309) (fun _ => x_iconst rfl) ?_
        exact hc309 (0) _ _ _ _  (rk_o (hl0) rfl rfl) (rk_o (hl1) rfl rfl) (rk_o (hl3) rfl rfl) H O (SF_refl) (SA_refl)     (show inr (0) by omega) (show ((u2_1) ≤ (z21) ∧ (0) = (0)) ∨ ((u2_1) > (z21) ∧ (0) = (1)) by have qh0 := HIDe r2; omega)
      · refine Ew_of (pcₚ := 305) (fun _ => x_iconst rfl) ?_
        refine Ew_of (pcₚ := 309) (fun _ => x_goto rfl rfl) ?_
        exact hc309 (1) _ _ _ _  (rk_o (hl0) rfl rfl) (rk_o (hl1) rfl rfl) (rk_o (hl3) rfl rfl) H O (SF_refl) (SA_refl)     (show inr (1) by omega) (show ((u2_1) ≤ (z21) ∧ (1) = (0)) ∨ ((u2_1) > (z21) ∧ (1) = (1)) by have qh0 := HIDe r2; omega)
    · refine Ew_of (pcₚ := 271) (fun _ => x_iconst rfl) ?_
      refine Ew_of (pcₚ := 275) (fun _ => x_goto rfl rfl) ?_
      refine w_iaddA rfl (fun z25 gz25 => ?_)
      refine v_sI H (o := 7) (z := z25) rfl rfl rfl rfl (n := n7) (en7) (show 0 ≤ 0 ∧ 0 < n7 by have qh0 := HIDe r7; omega) (show inr (z25) by omega) (fun σ H Oₚ => ?_)
      have O := OUT_trans O Oₚ
      refine Ew_of (pcₚ := 278) (fun _ => x_aload_n rfl (rk_o (hl0) rfl rfl)) ?_
      refine v_g H (o := 0) (v := .ref (D 7)) rfl rfl rfl rfl rfl (vrf ((((show F17 0 16 = F 0 16 from (eF17 0 16)))).trans (pf7))) ?_
      refine Ew_of (pcₚ := 282) (fun _ => x_iconst rfl) ?_
      refine Ew_of (pcₚ := 283) (fun _ => x_dup2 rfl rfl rfl) ?_
      refine v_lI H (o := 7) rfl rfl rfl rfl (n := n7) (en7) (show 0 ≤ 1 ∧ 1 < n7 by have qh0 := HIDe r7; omega) (fun v26 ev26 qv26 => ?_)
      replace qv26 := HIDm qv26
      have ev26 : (upd1 (A 7) (0) (z25)) (1) = v26 := (congrFun (congrArg (fun q => upd1 q (0) (z25)) ((show A17 7 = A 7 from (eA17 7)))) (1)).symm.trans ev26
      refine Ew_of (pcₚ := 285) (fun _ => x_aload_n rfl (rk_o (hl0) rfl rfl)) ?_
      refine v_g H (o := 0) (v := .ref (D 2)) rfl rfl rfl rfl rfl (vrf ((((show F17 0 5 = F 0 5 from (eF17 0 5)))).trans (pf2))) ?_
      refine v_g H (o := 2) (v := I (u2_1)) rfl rfl rfl rfl rfl (congrArg (fun z : Int => I z) ((((show F17 2 1 = F 2 1 from (eF17 2 1))).trans (eu2_1)) : F17 2 1 = u2_1)) ?_
      refine Ew_of (pcₚ := 292) (fun _ => x_aload_n rfl (rk_o (hl0) rfl rfl)) ?_
      refine Ew_of (pcₚ := 293) (fun _ => x_iload_n rfl (rk_o (hl3) rfl rfl)) ?_
      refine Ew_of (pcₚ := 295) (fun _ => x_aload rfl (rk_o (hl4) rfl rfl)) ?_
      refine v_g H (o := 1) (v := I (u1_1)) rfl rfl rfl rfl rfl (congrArg (fun z : Int => I z) ((((show F17 1 1 = F 1 1 from (eF17 1 1).trans (hS17 1 1 rfl))).trans (eu1_1)) : F17 1 1 = u1_1)) ?_
      refine v_inv H (o := 0) rfl rfl rfl rfl rfl rfl (by rfl) (C34 (D := pul [0, 8] D) (N := pul [0, 8] N) (HW_sub H (VS_of (show vsub V17_ve0 V34 [0, 8] = true by decide +kernel))) ((((show F17 0 1 = F 0 1 from (eF17 0 1)))).trans (pf8)) (n8) (en8) (w8) (((show A17 8 = A 8 from (eA17 8))).trans (ew8)) (show inr (0) by omega) (show inr (u1_1) by have qh0 := HIDe r1; omega) (show 0 ≤ (u1_1) ∧ (u1_1) ≤ 16384 by have qh0 := HIDe r1; omega) (show 1 ≤ ((w8)) 2 ∧ ((w8)) 2 ≤ 65536 by omega) (show 0 ≤ ((w8)) 8 ∧ ((w8)) 8 ≤ 11 by omega) (show 0 ≤ ((w8)) 6 ∧ ((w8)) 6 ≤ 255 by omega) (show (n8) = 10 by have qh0 := HIDe r8; omega) (fun z27 σ27 F27ₚ A27ₚ Hₚ Oₚ hS27 hA27 pz27_0 => ⟨rfl, ?_⟩))
      refine v_back (c := c) (s := s) H (show vsub V17_ve0 V34 [0, 8] = true by decide +kernel) Hₚ Oₚ (fun F27 A27 H Oₚ eF27 eA27 => ?_)
      have O := OUT_trans O Oₚ
      -- PackHouse.boundOf
      have hc309 : ∀ (tc309_0 : Int), ∀ (ls : rO) (σ : rS) (F_c309 : hF) (A_c309 : hA) , rlook ls 0 = some (.ref (D 0)) → rlook ls 1 = some (I (x1)) → rlook ls 3 = some (I (0)) → HW V17_ve0 σ D N F_c309 A_c309 → OUT (V17_ve0).length D N σE c s D N σ c s → SF [] F27 F_c309 → SA [] A27 A_c309 → (inr (tc309_0)) → (((u2_1) ≤ (z27) ∧ (tc309_0) = (0)) ∨ ((u2_1) > (z27) ∧ (tc309_0) = (1))) → Ew 17 (d + 3) 309 ls [I (tc309_0), I (v26), I (1), .ref (D 7)] σ c s Q := by
       as_aux_lemma =>
        intro tc309_0 ls σ F_c309 A_c309  lc309_0 lc309_1 lc309_3 H O hS_c309 hA_c309     jc309_0 jc309_1
        refine w_iaddA rfl (fun z28 gz28 => ?_)
        refine v_sI H (o := 7) (z := z28) rfl rfl rfl rfl (n := n7) (en7) (show 0 ≤ 1 ∧ 1 < n7 by have qh0 := HIDe r7; omega) (show inr (z28) by omega) (fun σ H Oₚ => ?_)
        have O := OUT_trans O Oₚ
        refine Ew_of (pcₚ := 312) (fun _ => x_iload_n rfl lc309_3) ?_
        refine Ew_of (pcₚ := 313) (fun _ => x_iconst rfl) ?_
        refine w_icmpne (t := 337) rfl rfl (show inr (0) by omega) (show inr (4) by omega) (fun b29 => ?_) (fun b29 => ?_)
        · exact hc337  _ _ _ _  (lc309_0) (lc309_1) H O (SF_trans (SF_trans (SF_trans (SF_refl) (SF_glu (ι := [4, 1, 5, 6]) hS17 eF17 (by decide +kernel)) (any_sub (lₚ := []) rfl)) (SF_glu (ι := [0, 8]) hS27 eF27 (by decide +kernel)) (any_sub (lₚ := []) rfl)) hS_c309 (any_sub rfl)) (SA_upd (SA_trans (SA_trans (SA_upd (SA_trans (SA_refl) (SA_glu (ι := [4, 1, 5, 6]) hA17 eA17 (by decide +kernel)) (any_subA (lₚ := []) rfl)) rfl) (SA_glu (ι := [0, 8]) hA27 eA27 (by decide +kernel)) (any_subA (lₚ := []) rfl)) hA_c309 (any_subA rfl)) rfl)     (show 0 ≤ (u2_1) ∧ (u2_1) ≤ (n3) ∧ (n3) ≤ 65536 by have qh0 := HIDe r2; have qh1 := HIDe r4; omega)
        · exact absurd b29 (by omega)
      refine w_icmple (t := 308) rfl rfl (show inr (u2_1) by have qh0 := HIDe r2; omega) (show inr (z27) by omega) (fun b30 => ?_) (fun b30 => ?_)
      · refine Ew_of (pcₚ := 309) (fun _ => x_iconst rfl) ?_
        exact hc309 (0) _ _ _ _  (rk_o (hl0) rfl rfl) (rk_o (hl1) rfl rfl) (rk_o (hl3) rfl rfl) H O (SF_refl) (SA_refl)     (show inr (0) by omega) (show ((u2_1) ≤ (z27) ∧ (0) = (0)) ∨ ((u2_1) > (z27) ∧ (0) = (1)) by have qh0 := HIDe r2; omega)
      · refine Ew_of (pcₚ := 305) (fun _ => x_iconst rfl) ?_
        refine Ew_of (pcₚ := 309) (fun _ => x_goto rfl rfl) ?_
        exact hc309 (1) _ _ _ _  (rk_o (hl0) rfl rfl) (rk_o (hl1) rfl rfl) (rk_o (hl3) rfl rfl) H O (SF_refl) (SA_refl)     (show inr (1) by omega) (show ((u2_1) ≤ (z27) ∧ (1) = (0)) ∨ ((u2_1) > (z27) ∧ (1) = (1)) by have qh0 := HIDe r2; omega)
abbrev V17_ve1 : vV := [(0, 0, [(4, 0), (4, 0), (4, 0), (4, 0), (4, 0), (4, 0), (4, 0), (4, 0), (4, 0), (4, 0), (4, 0), (4, 0), (4, 0), (4, 0), (4, 0), (4, 0), (4, 0), (0, 0), (0, 0)]), (0, 7, [(4, 0), (0, 0), (1, 0), (0, 0), (0, 0)]), (0, 7, [(4, 0), (0, 0), (1, 0), (0, 0), (0, 0)]), (1, 0, []), (0, 7, [(4, 0), (0, 0), (1, 0), (0, 0), (0, 0)]), (1, 0, []), (1, 0, []), (1, 1, []), (1, 1, [])]
/-- PackHouse.write: this, @F, this.written, this.written.bytes, this.content, this.content.bytes, @F.bytes, this.strays, this.settings -/
theorem C17_ve1 {σE : rS} {D N : Nat → Nat} {F : hF} {A : hA} {d c s : Nat} {Q : wQ} (H : HW V17_ve1 σE D N F A) {x1 y0 : Int} (pf2 : F 0 5 = (D 2 : Int)) (pf3 : F 2 0 = (D 3 : Int)) (pf4 : F 0 6 = (D 4 : Int)) (pf5 : F 4 0 = (D 5 : Int)) (pf6 : F 1 0 = (D 6 : Int)) (pf7 : F 0 16 = (D 7 : Int)) (pf8 : F 0 1 = (D 8 : Int)) (n3 : Int) (en3 : (N 3 : Int) = n3) (n5 : Int) (en5 : (N 5 : Int) = n5) (n6 : Int) (en6 : (N 6 : Int) = n6) (n7 : Int) (en7 : (N 7 : Int) = n7) (n8 : Int) (en8 : (N 8 : Int) = n8) (u1_1 : Int) (eu1_1 : F 1 1 = u1_1) (u2_1 : Int) (eu2_1 : F 2 1 = u2_1) (u4_1 : Int) (eu4_1 : F 4 1 = u4_1) (w8 : Int → Int) (ew8 : A 8 = w8) {ls : rO} (hl0 : rlook ls 0 = some (.ref (D 0))) (hl1 : rlook ls 1 = some (I (x1))) (hl3 : rlook ls 3 = some (I (1))) (hl4 : rlook ls 4 = some (.ref (D 1))) (h0 : inr (x1)) (h1 : inr y0) (h2 : 0 ≤ (u2_1) ∧ (u2_1) ≤ (n3) ∧ (n3) ≤ 65536) (h3 : 0 ≤ (u4_1) ∧ (u4_1) ≤ (n5) ∧ (n5) ≤ 65536) (h4 : 0 ≤ (u1_1) ∧ (u1_1) ≤ (n6) ∧ (n6) ≤ 65536) (h5 : (u1_1) ≤ 16384) (h6 : (n7) = 2) (h7 : 1 ≤ ((w8)) 2 ∧ ((w8)) 2 ≤ 65536) (h8 : 0 ≤ ((w8)) 8 ∧ ((w8)) 8 ≤ 11) (h9 : 0 ≤ ((w8)) 6 ∧ ((w8)) 6 ≤ 255) (h10 : (n8) = 10) (hc337 : ∀ (ls : rO) (σ : rS) (F_c337 : hF) (A_c337 : hA) , rlook ls 0 = some (.ref (D 0)) → rlook ls 1 = some (I (x1)) → HW V17_ve1 σ D N F_c337 A_c337 → OUT (V17_ve1).length D N σE c s D N σ c s → SF [] F F_c337 → SA [7] A A_c337 → (0 ≤ (u2_1) ∧ (u2_1) ≤ (n3) ∧ (n3) ≤ 65536) → Ew 17 (d + 3) 337 ls [] σ c s Q) (k : ∀ (z : Int) (σ : rS) (Fₚ : hF) (Aₚ : hA), HW V17_ve1 σ D N Fₚ Aₚ → OUT (V17_ve1).length D N σE c s D N σ c s → SF [] F Fₚ → SA [7] A Aₚ → (inr (z)) → ((0 : Int) = 1) → Q (some (I z)) σ c s) : Ew 17 (d + 3) 239 ls [I (y0)] σE c s Q := by
  have O := OUT_refl (n := (V17_ve1).length) (D := D) (N := N) (σ := σE) (c := c) (s := s)
  have HE := H
  have r1 : HID ((-2147483648 : Int) ≤ u1_1 ∧ u1_1 ≤ 2147483647) := krg_e (show (-2147483648 : Int) ≤ F 1 1 ∧ F 1 1 ≤ 2147483647 from H.krg 1 1 (by decide)) (show F 1 1 = u1_1 from (eu1_1))
  have r2 : HID ((-2147483648 : Int) ≤ u2_1 ∧ u2_1 ≤ 2147483647) := krg_e (show (-2147483648 : Int) ≤ F 2 1 ∧ F 2 1 ≤ 2147483647 from H.krg 2 1 (by decide)) (show F 2 1 = u2_1 from (eu2_1))
  have r3 : HID ((-2147483648 : Int) ≤ u4_1 ∧ u4_1 ≤ 2147483647) := krg_e (show (-2147483648 : Int) ≤ F 4 1 ∧ F 4 1 ≤ 2147483647 from H.krg 4 1 (by decide)) (show F 4 1 = u4_1 from (eu4_1))
  replace pf2 := HIDm pf2
  replace pf3 := HIDm pf3
  replace pf4 := HIDm pf4
  replace pf5 := HIDm pf5
  replace pf6 := HIDm pf6
  replace pf7 := HIDm pf7
  replace pf8 := HIDm pf8
  replace en3 := HIDm en3
  replace en5 := HIDm en5
  replace en6 := HIDm en6
  replace en7 := HIDm en7
  replace en8 := HIDm en8
  replace eu1_1 := HIDm eu1_1
  replace eu2_1 := HIDm eu2_1
  replace eu4_1 := HIDm eu4_1
  have r4 : HID ((0 : Int) ≤ n3 ∧ n3 ≤ 1000000) := nrng (H.nle 3 (by decide)) (show (N 3 : Int) = n3 from en3)
  have r5 : HID ((0 : Int) ≤ n5 ∧ n5 ≤ 1000000) := nrng (H.nle 5 (by decide)) (show (N 5 : Int) = n5 from en5)
  have r6 : HID ((0 : Int) ≤ n6 ∧ n6 ≤ 1000000) := nrng (H.nle 6 (by decide)) (show (N 6 : Int) = n6 from en6)
  have r7 : HID ((0 : Int) ≤ n7 ∧ n7 ≤ 1000000) := nrng (H.nle 7 (by decide)) (show (N 7 : Int) = n7 from en7)
  have r8 : HID ((0 : Int) ≤ n8 ∧ n8 ≤ 1000000) := nrng (H.nle 8 (by decide)) (show (N 8 : Int) = n8 from en8)
  refine Ew_of (pcₚ := 241) (fun _ => x_istore rfl) ?_
  refine Ew_of (pcₚ := 242) (fun _ => x_aload_n rfl (rk_o (hl0) rfl rfl)) ?_
  refine v_g H (o := 0) (v := .ref (D 7)) rfl rfl rfl rfl rfl (vrf (pf7)) ?_
  refine Ew_of (pcₚ := 246) (fun _ => x_iconst rfl) ?_
  refine Ew_of (pcₚ := 247) (fun _ => x_dup2 rfl rfl rfl) ?_
  refine v_lI H (o := 7) rfl rfl rfl rfl (n := n7) (en7) (show 0 ≤ 0 ∧ 0 < n7 by have qh0 := HIDe r7; omega) (fun v9 ev9 qv9 => ?_)
  replace qv9 := HIDm qv9
  have ev9 : (A 7) (0) = v9 := (congrFun (rfl : A 7 = A 7) (0)).symm.trans ev9
  refine Ew_of (pcₚ := 250) (fun _ => x_iload rfl rk_s) ?_
  refine Ew_of (pcₚ := 252) (fun _ => x_aload rfl (rk_o (hl4) rfl rfl)) ?_
  refine v_g H (o := 1) (v := I (u1_1)) rfl rfl rfl rfl rfl (congrArg (fun z : Int => I z) ((eu1_1) : F 1 1 = u1_1)) ?_
  refine w_icmpne (t := 274) rfl rfl (show inr (y0) by omega) (show inr (u1_1) by have qh0 := HIDe r1; omega) (fun b10 => ?_) (fun b10 => ?_)
  · refine Ew_of (pcₚ := 275) (fun _ => x_iconst rfl) ?_
    refine w_iaddA rfl (fun z11 gz11 => ?_)
    refine v_sI H (o := 7) (z := z11) rfl rfl rfl rfl (n := n7) (en7) (show 0 ≤ 0 ∧ 0 < n7 by have qh0 := HIDe r7; omega) (show inr (z11) by omega) (fun σ H Oₚ => ?_)
    have O := OUT_trans O Oₚ
    refine Ew_of (pcₚ := 278) (fun _ => x_aload_n rfl (rk_o (hl0) rfl rfl)) ?_
    refine v_g H (o := 0) (v := .ref (D 7)) rfl rfl rfl rfl rfl (vrf (pf7)) ?_
    refine Ew_of (pcₚ := 282) (fun _ => x_iconst rfl) ?_
    refine Ew_of (pcₚ := 283) (fun _ => x_dup2 rfl rfl rfl) ?_
    refine v_lI H (o := 7) rfl rfl rfl rfl (n := n7) (en7) (show 0 ≤ 1 ∧ 1 < n7 by have qh0 := HIDe r7; omega) (fun v12 ev12 qv12 => ?_)
    replace qv12 := HIDm qv12
    have ev12 : (upd1 (A 7) (0) (z11)) (1) = v12 := (congrFun (rfl : (updA A 7 (0) (z11)) 7 = upd1 (A 7) (0) (z11)) (1)).symm.trans ev12
    refine Ew_of (pcₚ := 285) (fun _ => x_aload_n rfl (rk_o (hl0) rfl rfl)) ?_
    refine v_g H (o := 0) (v := .ref (D 2)) rfl rfl rfl rfl rfl (vrf (pf2)) ?_
    refine v_g H (o := 2) (v := I (u2_1)) rfl rfl rfl rfl rfl (congrArg (fun z : Int => I z) ((eu2_1) : F 2 1 = u2_1)) ?_
    refine Ew_of (pcₚ := 292) (fun _ => x_aload_n rfl (rk_o (hl0) rfl rfl)) ?_
    refine Ew_of (pcₚ := 293) (fun _ => x_iload_n rfl (rk_o (hl3) rfl rfl)) ?_
    refine Ew_of (pcₚ := 295) (fun _ => x_aload rfl (rk_o (hl4) rfl rfl)) ?_
    refine v_g H (o := 1) (v := I (u1_1)) rfl rfl rfl rfl rfl (congrArg (fun z : Int => I z) ((eu1_1) : F 1 1 = u1_1)) ?_
    refine v_inv H (o := 0) rfl rfl rfl rfl rfl rfl (by rfl) (C34 (D := pul [0, 8] D) (N := pul [0, 8] N) (HW_sub H (VS_of (show vsub V17_ve1 V34 [0, 8] = true by decide +kernel))) (pf8) (n8) (en8) (w8) (ew8) (show inr (1) by omega) (show inr (u1_1) by have qh0 := HIDe r1; omega) (show 0 ≤ (u1_1) ∧ (u1_1) ≤ 16384 by have qh0 := HIDe r1; omega) (show 1 ≤ ((w8)) 2 ∧ ((w8)) 2 ≤ 65536 by omega) (show 0 ≤ ((w8)) 8 ∧ ((w8)) 8 ≤ 11 by omega) (show 0 ≤ ((w8)) 6 ∧ ((w8)) 6 ≤ 255 by omega) (show (n8) = 10 by have qh0 := HIDe r8; omega) (fun z13 σ13 F13ₚ A13ₚ Hₚ Oₚ hS13 hA13 pz13_0 => ⟨rfl, ?_⟩))
    refine v_back (c := c) (s := s) H (show vsub V17_ve1 V34 [0, 8] = true by decide +kernel) Hₚ Oₚ (fun F13 A13 H Oₚ eF13 eA13 => ?_)
    have O := OUT_trans O Oₚ
    -- PackHouse.boundOf
    have hc309 : ∀ (tc309_0 : Int), ∀ (ls : rO) (σ : rS) (F_c309 : hF) (A_c309 : hA) , rlook ls 0 = some (.ref (D 0)) → rlook ls 1 = some (I (x1)) → rlook ls 3 = some (I (1)) → HW V17_ve1 σ D N F_c309 A_c309 → OUT (V17_ve1).length D N σE c s D N σ c s → SF [] F13 F_c309 → SA [] A13 A_c309 → (inr (tc309_0)) → (((u2_1) ≤ (z13) ∧ (tc309_0) = (0)) ∨ ((u2_1) > (z13) ∧ (tc309_0) = (1))) → Ew 17 (d + 3) 309 ls [I (tc309_0), I (v12), I (1), .ref (D 7)] σ c s Q := by
     as_aux_lemma =>
      intro tc309_0 ls σ F_c309 A_c309  lc309_0 lc309_1 lc309_3 H O hS_c309 hA_c309     jc309_0 jc309_1
      refine w_iaddA rfl (fun z14 gz14 => ?_)
      refine v_sI H (o := 7) (z := z14) rfl rfl rfl rfl (n := n7) (en7) (show 0 ≤ 1 ∧ 1 < n7 by have qh0 := HIDe r7; omega) (show inr (z14) by omega) (fun σ H Oₚ => ?_)
      have O := OUT_trans O Oₚ
      refine Ew_of (pcₚ := 312) (fun _ => x_iload_n rfl lc309_3) ?_
      refine Ew_of (pcₚ := 313) (fun _ => x_iconst rfl) ?_
      refine w_icmpne (t := 337) rfl rfl (show inr (1) by omega) (show inr (4) by omega) (fun b15 => ?_) (fun b15 => ?_)
      · exact hc337  _ _ _ _  (lc309_0) (lc309_1) H O (SF_trans (SF_trans (SF_refl) (SF_glu (ι := [0, 8]) hS13 eF13 (by decide +kernel)) (any_sub (lₚ := []) rfl)) hS_c309 (any_sub rfl)) (SA_upd (SA_trans (SA_trans (SA_upd (SA_refl) rfl) (SA_glu (ι := [0, 8]) hA13 eA13 (by decide +kernel)) (any_subA (lₚ := []) rfl)) hA_c309 (any_subA rfl)) rfl)     (show 0 ≤ (u2_1) ∧ (u2_1) ≤ (n3) ∧ (n3) ≤ 65536 by have qh0 := HIDe r2; have qh1 := HIDe r4; omega)
      · exact absurd b15 (by omega)
    refine w_icmple (t := 308) rfl rfl (show inr (u2_1) by have qh0 := HIDe r2; omega) (show inr (z13) by omega) (fun b16 => ?_) (fun b16 => ?_)
    · refine Ew_of (pcₚ := 309) (fun _ => x_iconst rfl) ?_
      exact hc309 (0) _ _ _ _  (rk_o (hl0) rfl rfl) (rk_o (hl1) rfl rfl) (rk_o (hl3) rfl rfl) H O (SF_refl) (SA_refl)     (show inr (0) by omega) (show ((u2_1) ≤ (z13) ∧ (0) = (0)) ∨ ((u2_1) > (z13) ∧ (0) = (1)) by have qh0 := HIDe r2; omega)
    · refine Ew_of (pcₚ := 305) (fun _ => x_iconst rfl) ?_
      refine Ew_of (pcₚ := 309) (fun _ => x_goto rfl rfl) ?_
      exact hc309 (1) _ _ _ _  (rk_o (hl0) rfl rfl) (rk_o (hl1) rfl rfl) (rk_o (hl3) rfl rfl) H O (SF_refl) (SA_refl)     (show inr (1) by omega) (show ((u2_1) ≤ (z13) ∧ (1) = (0)) ∨ ((u2_1) > (z13) ∧ (1) = (1)) by have qh0 := HIDe r2; omega)
  · refine Ew_of (pcₚ := 259) (fun _ => x_aload_n rfl (rk_o (hl0) rfl rfl)) ?_
    refine v_g H (o := 0) (v := .ref (D 4)) rfl rfl rfl rfl rfl (vrf (pf4)) ?_
    refine Ew_of (pcₚ := 264) (fun _ => x_aload rfl (rk_o (hl4) rfl rfl)) ?_
    refine w_stat24 rfl rfl (by rfl) (C29_Row_Row (D := pul [4, 1, 5, 6] D) (N := pul [4, 1, 5, 6] N) (HW_sub H (VS_of (show vsub V17_ve1 V29_Row_Row [4, 1, 5, 6] = true by decide +kernel))) (pf5) (pf6) (n5) (en5) (n6) (en6) (u4_1) ((eu4_1)) (u1_1) ((eu1_1)) (show 0 ≤ (u4_1) ∧ (u4_1) ≤ (n5) ∧ (n5) ≤ 65536 by have qh0 := HIDe r3; have qh1 := HIDe r5; omega) (show 0 ≤ (u1_1) ∧ (u1_1) ≤ (n6) ∧ (n6) ≤ 65536 by have qh0 := HIDe r1; have qh1 := HIDe r6; omega) (fun z17 σ17 F17ₚ A17ₚ Hₚ Oₚ hS17 hA17 pz17_0 => ⟨rfl, ?_⟩))
    refine v_back (c := c) (s := s) H (show vsub V17_ve1 V29_Row_Row [4, 1, 5, 6] = true by decide +kernel) Hₚ Oₚ (fun F17 A17 H Oₚ eF17 eA17 => ?_)
    have O := OUT_trans O Oₚ
    -- PackHouse.firstUnlike
    refine w_ifge (t := 274) rfl rfl (show inr (z17) by omega) (fun b18 => ?_) (fun b18 => ?_)
    · refine Ew_of (pcₚ := 275) (fun _ => x_iconst rfl) ?_
      refine w_iaddA rfl (fun z19 gz19 => ?_)
      refine v_sI H (o := 7) (z := z19) rfl rfl rfl rfl (n := n7) (en7) (show 0 ≤ 0 ∧ 0 < n7 by have qh0 := HIDe r7; omega) (show inr (z19) by omega) (fun σ H Oₚ => ?_)
      have O := OUT_trans O Oₚ
      refine Ew_of (pcₚ := 278) (fun _ => x_aload_n rfl (rk_o (hl0) rfl rfl)) ?_
      refine v_g H (o := 0) (v := .ref (D 7)) rfl rfl rfl rfl rfl (vrf ((((show F17 0 16 = F 0 16 from (eF17 0 16)))).trans (pf7))) ?_
      refine Ew_of (pcₚ := 282) (fun _ => x_iconst rfl) ?_
      refine Ew_of (pcₚ := 283) (fun _ => x_dup2 rfl rfl rfl) ?_
      refine v_lI H (o := 7) rfl rfl rfl rfl (n := n7) (en7) (show 0 ≤ 1 ∧ 1 < n7 by have qh0 := HIDe r7; omega) (fun v20 ev20 qv20 => ?_)
      replace qv20 := HIDm qv20
      have ev20 : (upd1 (A 7) (0) (z19)) (1) = v20 := (congrFun (congrArg (fun q => upd1 q (0) (z19)) ((show A17 7 = A 7 from (eA17 7)))) (1)).symm.trans ev20
      refine Ew_of (pcₚ := 285) (fun _ => x_aload_n rfl (rk_o (hl0) rfl rfl)) ?_
      refine v_g H (o := 0) (v := .ref (D 2)) rfl rfl rfl rfl rfl (vrf ((((show F17 0 5 = F 0 5 from (eF17 0 5)))).trans (pf2))) ?_
      refine v_g H (o := 2) (v := I (u2_1)) rfl rfl rfl rfl rfl (congrArg (fun z : Int => I z) ((((show F17 2 1 = F 2 1 from (eF17 2 1))).trans (eu2_1)) : F17 2 1 = u2_1)) ?_
      refine Ew_of (pcₚ := 292) (fun _ => x_aload_n rfl (rk_o (hl0) rfl rfl)) ?_
      refine Ew_of (pcₚ := 293) (fun _ => x_iload_n rfl (rk_o (hl3) rfl rfl)) ?_
      refine Ew_of (pcₚ := 295) (fun _ => x_aload rfl (rk_o (hl4) rfl rfl)) ?_
      refine v_g H (o := 1) (v := I (u1_1)) rfl rfl rfl rfl rfl (congrArg (fun z : Int => I z) ((((show F17 1 1 = F 1 1 from (eF17 1 1).trans (hS17 1 1 rfl))).trans (eu1_1)) : F17 1 1 = u1_1)) ?_
      refine v_inv H (o := 0) rfl rfl rfl rfl rfl rfl (by rfl) (C34 (D := pul [0, 8] D) (N := pul [0, 8] N) (HW_sub H (VS_of (show vsub V17_ve1 V34 [0, 8] = true by decide +kernel))) ((((show F17 0 1 = F 0 1 from (eF17 0 1)))).trans (pf8)) (n8) (en8) (w8) (((show A17 8 = A 8 from (eA17 8))).trans (ew8)) (show inr (1) by omega) (show inr (u1_1) by have qh0 := HIDe r1; omega) (show 0 ≤ (u1_1) ∧ (u1_1) ≤ 16384 by have qh0 := HIDe r1; omega) (show 1 ≤ ((w8)) 2 ∧ ((w8)) 2 ≤ 65536 by omega) (show 0 ≤ ((w8)) 8 ∧ ((w8)) 8 ≤ 11 by omega) (show 0 ≤ ((w8)) 6 ∧ ((w8)) 6 ≤ 255 by omega) (show (n8) = 10 by have qh0 := HIDe r8; omega) (fun z21 σ21 F21ₚ A21ₚ Hₚ Oₚ hS21 hA21 pz21_0 => ⟨rfl, ?_⟩))
      refine v_back (c := c) (s := s) H (show vsub V17_ve1 V34 [0, 8] = true by decide +kernel) Hₚ Oₚ (fun F21 A21 H Oₚ eF21 eA21 => ?_)
      have O := OUT_trans O Oₚ
      -- PackHouse.boundOf
      have hc309 : ∀ (tc309_0 : Int), ∀ (ls : rO) (σ : rS) (F_c309 : hF) (A_c309 : hA) , rlook ls 0 = some (.ref (D 0)) → rlook ls 1 = some (I (x1)) → rlook ls 3 = some (I (1)) → HW V17_ve1 σ D N F_c309 A_c309 → OUT (V17_ve1).length D N σE c s D N σ c s → SF [] F21 F_c309 → SA [] A21 A_c309 → (inr (tc309_0)) → (((u2_1) ≤ (z21) ∧ (tc309_0) = (0)) ∨ ((u2_1) > (z21) ∧ (tc309_0) = (1))) → Ew 17 (d + 3) 309 ls [I (tc309_0), I (v20), I (1), .ref (D 7)] σ c s Q := by
       as_aux_lemma =>
        intro tc309_0 ls σ F_c309 A_c309  lc309_0 lc309_1 lc309_3 H O hS_c309 hA_c309     jc309_0 jc309_1
        refine w_iaddA rfl (fun z22 gz22 => ?_)
        refine v_sI H (o := 7) (z := z22) rfl rfl rfl rfl (n := n7) (en7) (show 0 ≤ 1 ∧ 1 < n7 by have qh0 := HIDe r7; omega) (show inr (z22) by omega) (fun σ H Oₚ => ?_)
        have O := OUT_trans O Oₚ
        refine Ew_of (pcₚ := 312) (fun _ => x_iload_n rfl lc309_3) ?_
        refine Ew_of (pcₚ := 313) (fun _ => x_iconst rfl) ?_
        refine w_icmpne (t := 337) rfl rfl (show inr (1) by omega) (show inr (4) by omega) (fun b23 => ?_) (fun b23 => ?_)
        · exact hc337  _ _ _ _  (lc309_0) (lc309_1) H O (SF_trans (SF_trans (SF_trans (SF_refl) (SF_glu (ι := [4, 1, 5, 6]) hS17 eF17 (by decide +kernel)) (any_sub (lₚ := []) rfl)) (SF_glu (ι := [0, 8]) hS21 eF21 (by decide +kernel)) (any_sub (lₚ := []) rfl)) hS_c309 (any_sub rfl)) (SA_upd (SA_trans (SA_trans (SA_upd (SA_trans (SA_refl) (SA_glu (ι := [4, 1, 5, 6]) hA17 eA17 (by decide +kernel)) (any_subA (lₚ := []) rfl)) rfl) (SA_glu (ι := [0, 8]) hA21 eA21 (by decide +kernel)) (any_subA (lₚ := []) rfl)) hA_c309 (any_subA rfl)) rfl)     (show 0 ≤ (u2_1) ∧ (u2_1) ≤ (n3) ∧ (n3) ≤ 65536 by have qh0 := HIDe r2; have qh1 := HIDe r4; omega)
        · exact absurd b23 (by omega)
      refine w_icmple (t := 308) rfl rfl (show inr (u2_1) by have qh0 := HIDe r2; omega) (show inr (z21) by omega) (fun b24 => ?_) (fun b24 => ?_)
      · refine Ew_of (pcₚ := 309) (fun _ => x_iconst rfl) ?_
        exact hc309 (0) _ _ _ _  (rk_o (hl0) rfl rfl) (rk_o (hl1) rfl rfl) (rk_o (hl3) rfl rfl) H O (SF_refl) (SA_refl)     (show inr (0) by omega) (show ((u2_1) ≤ (z21) ∧ (0) = (0)) ∨ ((u2_1) > (z21) ∧ (0) = (1)) by have qh0 := HIDe r2; omega)
      · refine Ew_of (pcₚ := 305) (fun _ => x_iconst rfl) ?_
        refine Ew_of (pcₚ := 309) (fun _ => x_goto rfl rfl) ?_
        exact hc309 (1) _ _ _ _  (rk_o (hl0) rfl rfl) (rk_o (hl1) rfl rfl) (rk_o (hl3) rfl rfl) H O (SF_refl) (SA_refl)     (show inr (1) by omega) (show ((u2_1) ≤ (z21) ∧ (1) = (0)) ∨ ((u2_1) > (z21) ∧ (1) = (1)) by have qh0 := HIDe r2; omega)
    · refine Ew_of (pcₚ := 271) (fun _ => x_iconst rfl) ?_
      refine Ew_of (pcₚ := 275) (fun _ => x_goto rfl rfl) ?_
      refine w_iaddA rfl (fun z25 gz25 => ?_)
      refine v_sI H (o := 7) (z := z25) rfl rfl rfl rfl (n := n7) (en7) (show 0 ≤ 0 ∧ 0 < n7 by have qh0 := HIDe r7; omega) (show inr (z25) by omega) (fun σ H Oₚ => ?_)
      have O := OUT_trans O Oₚ
      refine Ew_of (pcₚ := 278) (fun _ => x_aload_n rfl (rk_o (hl0) rfl rfl)) ?_
      refine v_g H (o := 0) (v := .ref (D 7)) rfl rfl rfl rfl rfl (vrf ((((show F17 0 16 = F 0 16 from (eF17 0 16)))).trans (pf7))) ?_
      refine Ew_of (pcₚ := 282) (fun _ => x_iconst rfl) ?_
      refine Ew_of (pcₚ := 283) (fun _ => x_dup2 rfl rfl rfl) ?_
      refine v_lI H (o := 7) rfl rfl rfl rfl (n := n7) (en7) (show 0 ≤ 1 ∧ 1 < n7 by have qh0 := HIDe r7; omega) (fun v26 ev26 qv26 => ?_)
      replace qv26 := HIDm qv26
      have ev26 : (upd1 (A 7) (0) (z25)) (1) = v26 := (congrFun (congrArg (fun q => upd1 q (0) (z25)) ((show A17 7 = A 7 from (eA17 7)))) (1)).symm.trans ev26
      refine Ew_of (pcₚ := 285) (fun _ => x_aload_n rfl (rk_o (hl0) rfl rfl)) ?_
      refine v_g H (o := 0) (v := .ref (D 2)) rfl rfl rfl rfl rfl (vrf ((((show F17 0 5 = F 0 5 from (eF17 0 5)))).trans (pf2))) ?_
      refine v_g H (o := 2) (v := I (u2_1)) rfl rfl rfl rfl rfl (congrArg (fun z : Int => I z) ((((show F17 2 1 = F 2 1 from (eF17 2 1))).trans (eu2_1)) : F17 2 1 = u2_1)) ?_
      refine Ew_of (pcₚ := 292) (fun _ => x_aload_n rfl (rk_o (hl0) rfl rfl)) ?_
      refine Ew_of (pcₚ := 293) (fun _ => x_iload_n rfl (rk_o (hl3) rfl rfl)) ?_
      refine Ew_of (pcₚ := 295) (fun _ => x_aload rfl (rk_o (hl4) rfl rfl)) ?_
      refine v_g H (o := 1) (v := I (u1_1)) rfl rfl rfl rfl rfl (congrArg (fun z : Int => I z) ((((show F17 1 1 = F 1 1 from (eF17 1 1).trans (hS17 1 1 rfl))).trans (eu1_1)) : F17 1 1 = u1_1)) ?_
      refine v_inv H (o := 0) rfl rfl rfl rfl rfl rfl (by rfl) (C34 (D := pul [0, 8] D) (N := pul [0, 8] N) (HW_sub H (VS_of (show vsub V17_ve1 V34 [0, 8] = true by decide +kernel))) ((((show F17 0 1 = F 0 1 from (eF17 0 1)))).trans (pf8)) (n8) (en8) (w8) (((show A17 8 = A 8 from (eA17 8))).trans (ew8)) (show inr (1) by omega) (show inr (u1_1) by have qh0 := HIDe r1; omega) (show 0 ≤ (u1_1) ∧ (u1_1) ≤ 16384 by have qh0 := HIDe r1; omega) (show 1 ≤ ((w8)) 2 ∧ ((w8)) 2 ≤ 65536 by omega) (show 0 ≤ ((w8)) 8 ∧ ((w8)) 8 ≤ 11 by omega) (show 0 ≤ ((w8)) 6 ∧ ((w8)) 6 ≤ 255 by omega) (show (n8) = 10 by have qh0 := HIDe r8; omega) (fun z27 σ27 F27ₚ A27ₚ Hₚ Oₚ hS27 hA27 pz27_0 => ⟨rfl, ?_⟩))
      refine v_back (c := c) (s := s) H (show vsub V17_ve1 V34 [0, 8] = true by decide +kernel) Hₚ Oₚ (fun F27 A27 H Oₚ eF27 eA27 => ?_)
      have O := OUT_trans O Oₚ
      -- PackHouse.boundOf
      have hc309 : ∀ (tc309_0 : Int), ∀ (ls : rO) (σ : rS) (F_c309 : hF) (A_c309 : hA) , rlook ls 0 = some (.ref (D 0)) → rlook ls 1 = some (I (x1)) → rlook ls 3 = some (I (1)) → HW V17_ve1 σ D N F_c309 A_c309 → OUT (V17_ve1).length D N σE c s D N σ c s → SF [] F27 F_c309 → SA [] A27 A_c309 → (inr (tc309_0)) → (((u2_1) ≤ (z27) ∧ (tc309_0) = (0)) ∨ ((u2_1) > (z27) ∧ (tc309_0) = (1))) → Ew 17 (d + 3) 309 ls [I (tc309_0), I (v26), I (1), .ref (D 7)] σ c s Q := by
       as_aux_lemma =>
        intro tc309_0 ls σ F_c309 A_c309  lc309_0 lc309_1 lc309_3 H O hS_c309 hA_c309     jc309_0 jc309_1
        refine w_iaddA rfl (fun z28 gz28 => ?_)
        refine v_sI H (o := 7) (z := z28) rfl rfl rfl rfl (n := n7) (en7) (show 0 ≤ 1 ∧ 1 < n7 by have qh0 := HIDe r7; omega) (show inr (z28) by omega) (fun σ H Oₚ => ?_)
        have O := OUT_trans O Oₚ
        refine Ew_of (pcₚ := 312) (fun _ => x_iload_n rfl lc309_3) ?_
        refine Ew_of (pcₚ := 313) (fun _ => x_iconst rfl) ?_
        refine w_icmpne (t := 337) rfl rfl (show inr (1) by omega) (show inr (4) by omega) (fun b29 => ?_) (fun b29 => ?_)
        · exact hc337  _ _ _ _  (lc309_0) (lc309_1) H O (SF_trans (SF_trans (SF_trans (SF_refl) (SF_glu (ι := [4, 1, 5, 6]) hS17 eF17 (by decide +kernel)) (any_sub (lₚ := []) rfl)) (SF_glu (ι := [0, 8]) hS27 eF27 (by decide +kernel)) (any_sub (lₚ := []) rfl)) hS_c309 (any_sub rfl)) (SA_upd (SA_trans (SA_trans (SA_upd (SA_trans (SA_refl) (SA_glu (ι := [4, 1, 5, 6]) hA17 eA17 (by decide +kernel)) (any_subA (lₚ := []) rfl)) rfl) (SA_glu (ι := [0, 8]) hA27 eA27 (by decide +kernel)) (any_subA (lₚ := []) rfl)) hA_c309 (any_subA rfl)) rfl)     (show 0 ≤ (u2_1) ∧ (u2_1) ≤ (n3) ∧ (n3) ≤ 65536 by have qh0 := HIDe r2; have qh1 := HIDe r4; omega)
        · exact absurd b29 (by omega)
      refine w_icmple (t := 308) rfl rfl (show inr (u2_1) by have qh0 := HIDe r2; omega) (show inr (z27) by omega) (fun b30 => ?_) (fun b30 => ?_)
      · refine Ew_of (pcₚ := 309) (fun _ => x_iconst rfl) ?_
        exact hc309 (0) _ _ _ _  (rk_o (hl0) rfl rfl) (rk_o (hl1) rfl rfl) (rk_o (hl3) rfl rfl) H O (SF_refl) (SA_refl)     (show inr (0) by omega) (show ((u2_1) ≤ (z27) ∧ (0) = (0)) ∨ ((u2_1) > (z27) ∧ (0) = (1)) by have qh0 := HIDe r2; omega)
      · refine Ew_of (pcₚ := 305) (fun _ => x_iconst rfl) ?_
        refine Ew_of (pcₚ := 309) (fun _ => x_goto rfl rfl) ?_
        exact hc309 (1) _ _ _ _  (rk_o (hl0) rfl rfl) (rk_o (hl1) rfl rfl) (rk_o (hl3) rfl rfl) H O (SF_refl) (SA_refl)     (show inr (1) by omega) (show ((u2_1) ≤ (z27) ∧ (1) = (0)) ∨ ((u2_1) > (z27) ∧ (1) = (1)) by have qh0 := HIDe r2; omega)
abbrev V17_ve2 : vV := [(0, 0, [(4, 0), (4, 0), (4, 0), (4, 0), (4, 0), (4, 0), (4, 0), (4, 0), (4, 0), (4, 0), (4, 0), (4, 0), (4, 0), (4, 0), (4, 0), (4, 0), (4, 0), (0, 0), (0, 0)]), (0, 7, [(4, 0), (0, 0), (1, 0), (0, 0), (0, 0)]), (0, 7, [(4, 0), (0, 0), (1, 0), (0, 0), (0, 0)]), (1, 0, []), (0, 7, [(4, 0), (0, 0), (1, 0), (0, 0), (0, 0)]), (1, 0, []), (1, 0, []), (1, 1, []), (1, 1, [])]
/-- PackHouse.write: this, @F, this.written, this.written.bytes, this.content, this.content.bytes, @F.bytes, this.strays, this.settings -/
theorem C17_ve2 {σE : rS} {D N : Nat → Nat} {F : hF} {A : hA} {d c s : Nat} {Q : wQ} (H : HW V17_ve2 σE D N F A) {x1 y0 : Int} (pf2 : F 0 5 = (D 2 : Int)) (pf3 : F 2 0 = (D 3 : Int)) (pf4 : F 0 6 = (D 4 : Int)) (pf5 : F 4 0 = (D 5 : Int)) (pf6 : F 1 0 = (D 6 : Int)) (pf7 : F 0 16 = (D 7 : Int)) (pf8 : F 0 1 = (D 8 : Int)) (n3 : Int) (en3 : (N 3 : Int) = n3) (n5 : Int) (en5 : (N 5 : Int) = n5) (n6 : Int) (en6 : (N 6 : Int) = n6) (n7 : Int) (en7 : (N 7 : Int) = n7) (n8 : Int) (en8 : (N 8 : Int) = n8) (u1_1 : Int) (eu1_1 : F 1 1 = u1_1) (u2_1 : Int) (eu2_1 : F 2 1 = u2_1) (u4_1 : Int) (eu4_1 : F 4 1 = u4_1) (w8 : Int → Int) (ew8 : A 8 = w8) {ls : rO} (hl0 : rlook ls 0 = some (.ref (D 0))) (hl1 : rlook ls 1 = some (I (x1))) (hl3 : rlook ls 3 = some (I (2))) (hl4 : rlook ls 4 = some (.ref (D 1))) (h0 : inr (x1)) (h1 : inr y0) (h2 : 0 ≤ (u2_1) ∧ (u2_1) ≤ (n3) ∧ (n3) ≤ 65536) (h3 : 0 ≤ (u4_1) ∧ (u4_1) ≤ (n5) ∧ (n5) ≤ 65536) (h4 : 0 ≤ (u1_1) ∧ (u1_1) ≤ (n6) ∧ (n6) ≤ 65536) (h5 : (u1_1) ≤ 16384) (h6 : (n7) = 2) (h7 : 1 ≤ ((w8)) 2 ∧ ((w8)) 2 ≤ 65536) (h8 : 0 ≤ ((w8)) 8 ∧ ((w8)) 8 ≤ 11) (h9 : 0 ≤ ((w8)) 6 ∧ ((w8)) 6 ≤ 255) (h10 : (n8) = 10) (hc337 : ∀ (ls : rO) (σ : rS) (F_c337 : hF) (A_c337 : hA) , rlook ls 0 = some (.ref (D 0)) → rlook ls 1 = some (I (x1)) → HW V17_ve2 σ D N F_c337 A_c337 → OUT (V17_ve2).length D N σE c s D N σ c s → SF [] F F_c337 → SA [7] A A_c337 → (0 ≤ (u2_1) ∧ (u2_1) ≤ (n3) ∧ (n3) ≤ 65536) → Ew 17 (d + 3) 337 ls [] σ c s Q) (k : ∀ (z : Int) (σ : rS) (Fₚ : hF) (Aₚ : hA), HW V17_ve2 σ D N Fₚ Aₚ → OUT (V17_ve2).length D N σE c s D N σ c s → SF [] F Fₚ → SA [7] A Aₚ → (inr (z)) → ((0 : Int) = 1) → Q (some (I z)) σ c s) : Ew 17 (d + 3) 239 ls [I (y0)] σE c s Q := by
  have O := OUT_refl (n := (V17_ve2).length) (D := D) (N := N) (σ := σE) (c := c) (s := s)
  have HE := H
  have r1 : HID ((-2147483648 : Int) ≤ u1_1 ∧ u1_1 ≤ 2147483647) := krg_e (show (-2147483648 : Int) ≤ F 1 1 ∧ F 1 1 ≤ 2147483647 from H.krg 1 1 (by decide)) (show F 1 1 = u1_1 from (eu1_1))
  have r2 : HID ((-2147483648 : Int) ≤ u2_1 ∧ u2_1 ≤ 2147483647) := krg_e (show (-2147483648 : Int) ≤ F 2 1 ∧ F 2 1 ≤ 2147483647 from H.krg 2 1 (by decide)) (show F 2 1 = u2_1 from (eu2_1))
  have r3 : HID ((-2147483648 : Int) ≤ u4_1 ∧ u4_1 ≤ 2147483647) := krg_e (show (-2147483648 : Int) ≤ F 4 1 ∧ F 4 1 ≤ 2147483647 from H.krg 4 1 (by decide)) (show F 4 1 = u4_1 from (eu4_1))
  replace pf2 := HIDm pf2
  replace pf3 := HIDm pf3
  replace pf4 := HIDm pf4
  replace pf5 := HIDm pf5
  replace pf6 := HIDm pf6
  replace pf7 := HIDm pf7
  replace pf8 := HIDm pf8
  replace en3 := HIDm en3
  replace en5 := HIDm en5
  replace en6 := HIDm en6
  replace en7 := HIDm en7
  replace en8 := HIDm en8
  replace eu1_1 := HIDm eu1_1
  replace eu2_1 := HIDm eu2_1
  replace eu4_1 := HIDm eu4_1
  have r4 : HID ((0 : Int) ≤ n3 ∧ n3 ≤ 1000000) := nrng (H.nle 3 (by decide)) (show (N 3 : Int) = n3 from en3)
  have r5 : HID ((0 : Int) ≤ n5 ∧ n5 ≤ 1000000) := nrng (H.nle 5 (by decide)) (show (N 5 : Int) = n5 from en5)
  have r6 : HID ((0 : Int) ≤ n6 ∧ n6 ≤ 1000000) := nrng (H.nle 6 (by decide)) (show (N 6 : Int) = n6 from en6)
  have r7 : HID ((0 : Int) ≤ n7 ∧ n7 ≤ 1000000) := nrng (H.nle 7 (by decide)) (show (N 7 : Int) = n7 from en7)
  have r8 : HID ((0 : Int) ≤ n8 ∧ n8 ≤ 1000000) := nrng (H.nle 8 (by decide)) (show (N 8 : Int) = n8 from en8)
  refine Ew_of (pcₚ := 241) (fun _ => x_istore rfl) ?_
  refine Ew_of (pcₚ := 242) (fun _ => x_aload_n rfl (rk_o (hl0) rfl rfl)) ?_
  refine v_g H (o := 0) (v := .ref (D 7)) rfl rfl rfl rfl rfl (vrf (pf7)) ?_
  refine Ew_of (pcₚ := 246) (fun _ => x_iconst rfl) ?_
  refine Ew_of (pcₚ := 247) (fun _ => x_dup2 rfl rfl rfl) ?_
  refine v_lI H (o := 7) rfl rfl rfl rfl (n := n7) (en7) (show 0 ≤ 0 ∧ 0 < n7 by have qh0 := HIDe r7; omega) (fun v9 ev9 qv9 => ?_)
  replace qv9 := HIDm qv9
  have ev9 : (A 7) (0) = v9 := (congrFun (rfl : A 7 = A 7) (0)).symm.trans ev9
  refine Ew_of (pcₚ := 250) (fun _ => x_iload rfl rk_s) ?_
  refine Ew_of (pcₚ := 252) (fun _ => x_aload rfl (rk_o (hl4) rfl rfl)) ?_
  refine v_g H (o := 1) (v := I (u1_1)) rfl rfl rfl rfl rfl (congrArg (fun z : Int => I z) ((eu1_1) : F 1 1 = u1_1)) ?_
  refine w_icmpne (t := 274) rfl rfl (show inr (y0) by omega) (show inr (u1_1) by have qh0 := HIDe r1; omega) (fun b10 => ?_) (fun b10 => ?_)
  · refine Ew_of (pcₚ := 275) (fun _ => x_iconst rfl) ?_
    refine w_iaddA rfl (fun z11 gz11 => ?_)
    refine v_sI H (o := 7) (z := z11) rfl rfl rfl rfl (n := n7) (en7) (show 0 ≤ 0 ∧ 0 < n7 by have qh0 := HIDe r7; omega) (show inr (z11) by omega) (fun σ H Oₚ => ?_)
    have O := OUT_trans O Oₚ
    refine Ew_of (pcₚ := 278) (fun _ => x_aload_n rfl (rk_o (hl0) rfl rfl)) ?_
    refine v_g H (o := 0) (v := .ref (D 7)) rfl rfl rfl rfl rfl (vrf (pf7)) ?_
    refine Ew_of (pcₚ := 282) (fun _ => x_iconst rfl) ?_
    refine Ew_of (pcₚ := 283) (fun _ => x_dup2 rfl rfl rfl) ?_
    refine v_lI H (o := 7) rfl rfl rfl rfl (n := n7) (en7) (show 0 ≤ 1 ∧ 1 < n7 by have qh0 := HIDe r7; omega) (fun v12 ev12 qv12 => ?_)
    replace qv12 := HIDm qv12
    have ev12 : (upd1 (A 7) (0) (z11)) (1) = v12 := (congrFun (rfl : (updA A 7 (0) (z11)) 7 = upd1 (A 7) (0) (z11)) (1)).symm.trans ev12
    refine Ew_of (pcₚ := 285) (fun _ => x_aload_n rfl (rk_o (hl0) rfl rfl)) ?_
    refine v_g H (o := 0) (v := .ref (D 2)) rfl rfl rfl rfl rfl (vrf (pf2)) ?_
    refine v_g H (o := 2) (v := I (u2_1)) rfl rfl rfl rfl rfl (congrArg (fun z : Int => I z) ((eu2_1) : F 2 1 = u2_1)) ?_
    refine Ew_of (pcₚ := 292) (fun _ => x_aload_n rfl (rk_o (hl0) rfl rfl)) ?_
    refine Ew_of (pcₚ := 293) (fun _ => x_iload_n rfl (rk_o (hl3) rfl rfl)) ?_
    refine Ew_of (pcₚ := 295) (fun _ => x_aload rfl (rk_o (hl4) rfl rfl)) ?_
    refine v_g H (o := 1) (v := I (u1_1)) rfl rfl rfl rfl rfl (congrArg (fun z : Int => I z) ((eu1_1) : F 1 1 = u1_1)) ?_
    refine v_inv H (o := 0) rfl rfl rfl rfl rfl rfl (by rfl) (C34 (D := pul [0, 8] D) (N := pul [0, 8] N) (HW_sub H (VS_of (show vsub V17_ve2 V34 [0, 8] = true by decide +kernel))) (pf8) (n8) (en8) (w8) (ew8) (show inr (2) by omega) (show inr (u1_1) by have qh0 := HIDe r1; omega) (show 0 ≤ (u1_1) ∧ (u1_1) ≤ 16384 by have qh0 := HIDe r1; omega) (show 1 ≤ ((w8)) 2 ∧ ((w8)) 2 ≤ 65536 by omega) (show 0 ≤ ((w8)) 8 ∧ ((w8)) 8 ≤ 11 by omega) (show 0 ≤ ((w8)) 6 ∧ ((w8)) 6 ≤ 255 by omega) (show (n8) = 10 by have qh0 := HIDe r8; omega) (fun z13 σ13 F13ₚ A13ₚ Hₚ Oₚ hS13 hA13 pz13_0 => ⟨rfl, ?_⟩))
    refine v_back (c := c) (s := s) H (show vsub V17_ve2 V34 [0, 8] = true by decide +kernel) Hₚ Oₚ (fun F13 A13 H Oₚ eF13 eA13 => ?_)
    have O := OUT_trans O Oₚ
    -- PackHouse.boundOf
    have hc309 : ∀ (tc309_0 : Int), ∀ (ls : rO) (σ : rS) (F_c309 : hF) (A_c309 : hA) , rlook ls 0 = some (.ref (D 0)) → rlook ls 1 = some (I (x1)) → rlook ls 3 = some (I (2)) → HW V17_ve2 σ D N F_c309 A_c309 → OUT (V17_ve2).length D N σE c s D N σ c s → SF [] F13 F_c309 → SA [] A13 A_c309 → (inr (tc309_0)) → (((u2_1) ≤ (z13) ∧ (tc309_0) = (0)) ∨ ((u2_1) > (z13) ∧ (tc309_0) = (1))) → Ew 17 (d + 3) 309 ls [I (tc309_0), I (v12), I (1), .ref (D 7)] σ c s Q := by
     as_aux_lemma =>
      intro tc309_0 ls σ F_c309 A_c309  lc309_0 lc309_1 lc309_3 H O hS_c309 hA_c309     jc309_0 jc309_1
      refine w_iaddA rfl (fun z14 gz14 => ?_)
      refine v_sI H (o := 7) (z := z14) rfl rfl rfl rfl (n := n7) (en7) (show 0 ≤ 1 ∧ 1 < n7 by have qh0 := HIDe r7; omega) (show inr (z14) by omega) (fun σ H Oₚ => ?_)
      have O := OUT_trans O Oₚ
      refine Ew_of (pcₚ := 312) (fun _ => x_iload_n rfl lc309_3) ?_
      refine Ew_of (pcₚ := 313) (fun _ => x_iconst rfl) ?_
      refine w_icmpne (t := 337) rfl rfl (show inr (2) by omega) (show inr (4) by omega) (fun b15 => ?_) (fun b15 => ?_)
      · exact hc337  _ _ _ _  (lc309_0) (lc309_1) H O (SF_trans (SF_trans (SF_refl) (SF_glu (ι := [0, 8]) hS13 eF13 (by decide +kernel)) (any_sub (lₚ := []) rfl)) hS_c309 (any_sub rfl)) (SA_upd (SA_trans (SA_trans (SA_upd (SA_refl) rfl) (SA_glu (ι := [0, 8]) hA13 eA13 (by decide +kernel)) (any_subA (lₚ := []) rfl)) hA_c309 (any_subA rfl)) rfl)     (show 0 ≤ (u2_1) ∧ (u2_1) ≤ (n3) ∧ (n3) ≤ 65536 by have qh0 := HIDe r2; have qh1 := HIDe r4; omega)
      · exact absurd b15 (by omega)
    refine w_icmple (t := 308) rfl rfl (show inr (u2_1) by have qh0 := HIDe r2; omega) (show inr (z13) by omega) (fun b16 => ?_) (fun b16 => ?_)
    · refine Ew_of (pcₚ := 309) (fun _ => x_iconst rfl) ?_
      exact hc309 (0) _ _ _ _  (rk_o (hl0) rfl rfl) (rk_o (hl1) rfl rfl) (rk_o (hl3) rfl rfl) H O (SF_refl) (SA_refl)     (show inr (0) by omega) (show ((u2_1) ≤ (z13) ∧ (0) = (0)) ∨ ((u2_1) > (z13) ∧ (0) = (1)) by have qh0 := HIDe r2; omega)
    · refine Ew_of (pcₚ := 305) (fun _ => x_iconst rfl) ?_
      refine Ew_of (pcₚ := 309) (fun _ => x_goto rfl rfl) ?_
      exact hc309 (1) _ _ _ _  (rk_o (hl0) rfl rfl) (rk_o (hl1) rfl rfl) (rk_o (hl3) rfl rfl) H O (SF_refl) (SA_refl)     (show inr (1) by omega) (show ((u2_1) ≤ (z13) ∧ (1) = (0)) ∨ ((u2_1) > (z13) ∧ (1) = (1)) by have qh0 := HIDe r2; omega)
  · refine Ew_of (pcₚ := 259) (fun _ => x_aload_n rfl (rk_o (hl0) rfl rfl)) ?_
    refine v_g H (o := 0) (v := .ref (D 4)) rfl rfl rfl rfl rfl (vrf (pf4)) ?_
    refine Ew_of (pcₚ := 264) (fun _ => x_aload rfl (rk_o (hl4) rfl rfl)) ?_
    refine w_stat24 rfl rfl (by rfl) (C29_Row_Row (D := pul [4, 1, 5, 6] D) (N := pul [4, 1, 5, 6] N) (HW_sub H (VS_of (show vsub V17_ve2 V29_Row_Row [4, 1, 5, 6] = true by decide +kernel))) (pf5) (pf6) (n5) (en5) (n6) (en6) (u4_1) ((eu4_1)) (u1_1) ((eu1_1)) (show 0 ≤ (u4_1) ∧ (u4_1) ≤ (n5) ∧ (n5) ≤ 65536 by have qh0 := HIDe r3; have qh1 := HIDe r5; omega) (show 0 ≤ (u1_1) ∧ (u1_1) ≤ (n6) ∧ (n6) ≤ 65536 by have qh0 := HIDe r1; have qh1 := HIDe r6; omega) (fun z17 σ17 F17ₚ A17ₚ Hₚ Oₚ hS17 hA17 pz17_0 => ⟨rfl, ?_⟩))
    refine v_back (c := c) (s := s) H (show vsub V17_ve2 V29_Row_Row [4, 1, 5, 6] = true by decide +kernel) Hₚ Oₚ (fun F17 A17 H Oₚ eF17 eA17 => ?_)
    have O := OUT_trans O Oₚ
    -- PackHouse.firstUnlike
    refine w_ifge (t := 274) rfl rfl (show inr (z17) by omega) (fun b18 => ?_) (fun b18 => ?_)
    · refine Ew_of (pcₚ := 275) (fun _ => x_iconst rfl) ?_
      refine w_iaddA rfl (fun z19 gz19 => ?_)
      refine v_sI H (o := 7) (z := z19) rfl rfl rfl rfl (n := n7) (en7) (show 0 ≤ 0 ∧ 0 < n7 by have qh0 := HIDe r7; omega) (show inr (z19) by omega) (fun σ H Oₚ => ?_)
      have O := OUT_trans O Oₚ
      refine Ew_of (pcₚ := 278) (fun _ => x_aload_n rfl (rk_o (hl0) rfl rfl)) ?_
      refine v_g H (o := 0) (v := .ref (D 7)) rfl rfl rfl rfl rfl (vrf ((((show F17 0 16 = F 0 16 from (eF17 0 16)))).trans (pf7))) ?_
      refine Ew_of (pcₚ := 282) (fun _ => x_iconst rfl) ?_
      refine Ew_of (pcₚ := 283) (fun _ => x_dup2 rfl rfl rfl) ?_
      refine v_lI H (o := 7) rfl rfl rfl rfl (n := n7) (en7) (show 0 ≤ 1 ∧ 1 < n7 by have qh0 := HIDe r7; omega) (fun v20 ev20 qv20 => ?_)
      replace qv20 := HIDm qv20
      have ev20 : (upd1 (A 7) (0) (z19)) (1) = v20 := (congrFun (congrArg (fun q => upd1 q (0) (z19)) ((show A17 7 = A 7 from (eA17 7)))) (1)).symm.trans ev20
      refine Ew_of (pcₚ := 285) (fun _ => x_aload_n rfl (rk_o (hl0) rfl rfl)) ?_
      refine v_g H (o := 0) (v := .ref (D 2)) rfl rfl rfl rfl rfl (vrf ((((show F17 0 5 = F 0 5 from (eF17 0 5)))).trans (pf2))) ?_
      refine v_g H (o := 2) (v := I (u2_1)) rfl rfl rfl rfl rfl (congrArg (fun z : Int => I z) ((((show F17 2 1 = F 2 1 from (eF17 2 1))).trans (eu2_1)) : F17 2 1 = u2_1)) ?_
      refine Ew_of (pcₚ := 292) (fun _ => x_aload_n rfl (rk_o (hl0) rfl rfl)) ?_
      refine Ew_of (pcₚ := 293) (fun _ => x_iload_n rfl (rk_o (hl3) rfl rfl)) ?_
      refine Ew_of (pcₚ := 295) (fun _ => x_aload rfl (rk_o (hl4) rfl rfl)) ?_
      refine v_g H (o := 1) (v := I (u1_1)) rfl rfl rfl rfl rfl (congrArg (fun z : Int => I z) ((((show F17 1 1 = F 1 1 from (eF17 1 1).trans (hS17 1 1 rfl))).trans (eu1_1)) : F17 1 1 = u1_1)) ?_
      refine v_inv H (o := 0) rfl rfl rfl rfl rfl rfl (by rfl) (C34 (D := pul [0, 8] D) (N := pul [0, 8] N) (HW_sub H (VS_of (show vsub V17_ve2 V34 [0, 8] = true by decide +kernel))) ((((show F17 0 1 = F 0 1 from (eF17 0 1)))).trans (pf8)) (n8) (en8) (w8) (((show A17 8 = A 8 from (eA17 8))).trans (ew8)) (show inr (2) by omega) (show inr (u1_1) by have qh0 := HIDe r1; omega) (show 0 ≤ (u1_1) ∧ (u1_1) ≤ 16384 by have qh0 := HIDe r1; omega) (show 1 ≤ ((w8)) 2 ∧ ((w8)) 2 ≤ 65536 by omega) (show 0 ≤ ((w8)) 8 ∧ ((w8)) 8 ≤ 11 by omega) (show 0 ≤ ((w8)) 6 ∧ ((w8)) 6 ≤ 255 by omega) (show (n8) = 10 by have qh0 := HIDe r8; omega) (fun z21 σ21 F21ₚ A21ₚ Hₚ Oₚ hS21 hA21 pz21_0 => ⟨rfl, ?_⟩))
      refine v_back (c := c) (s := s) H (show vsub V17_ve2 V34 [0, 8] = true by decide +kernel) Hₚ Oₚ (fun F21 A21 H Oₚ eF21 eA21 => ?_)
      have O := OUT_trans O Oₚ
      -- PackHouse.boundOf
      have hc309 : ∀ (tc309_0 : Int), ∀ (ls : rO) (σ : rS) (F_c309 : hF) (A_c309 : hA) , rlook ls 0 = some (.ref (D 0)) → rlook ls 1 = some (I (x1)) → rlook ls 3 = some (I (2)) → HW V17_ve2 σ D N F_c309 A_c309 → OUT (V17_ve2).length D N σE c s D N σ c s → SF [] F21 F_c309 → SA [] A21 A_c309 → (inr (tc309_0)) → (((u2_1) ≤ (z21) ∧ (tc309_0) = (0)) ∨ ((u2_1) > (z21) ∧ (tc309_0) = (1))) → Ew 17 (d + 3) 309 ls [I (tc309_0), I (v20), I (1), .ref (D 7)] σ c s Q := by
       as_aux_lemma =>
        intro tc309_0 ls σ F_c309 A_c309  lc309_0 lc309_1 lc309_3 H O hS_c309 hA_c309     jc309_0 jc309_1
        refine w_iaddA rfl (fun z22 gz22 => ?_)
        refine v_sI H (o := 7) (z := z22) rfl rfl rfl rfl (n := n7) (en7) (show 0 ≤ 1 ∧ 1 < n7 by have qh0 := HIDe r7; omega) (show inr (z22) by omega) (fun σ H Oₚ => ?_)
        have O := OUT_trans O Oₚ
        refine Ew_of (pcₚ := 312) (fun _ => x_iload_n rfl lc309_3) ?_
        refine Ew_of (pcₚ := 313) (fun _ => x_iconst rfl) ?_
        refine w_icmpne (t := 337) rfl rfl (show inr (2) by omega) (show inr (4) by omega) (fun b23 => ?_) (fun b23 => ?_)
        · exact hc337  _ _ _ _  (lc309_0) (lc309_1) H O (SF_trans (SF_trans (SF_trans (SF_refl) (SF_glu (ι := [4, 1, 5, 6]) hS17 eF17 (by decide +kernel)) (any_sub (lₚ := []) rfl)) (SF_glu (ι := [0, 8]) hS21 eF21 (by decide +kernel)) (any_sub (lₚ := []) rfl)) hS_c309 (any_sub rfl)) (SA_upd (SA_trans (SA_trans (SA_upd (SA_trans (SA_refl) (SA_glu (ι := [4, 1, 5, 6]) hA17 eA17 (by decide +kernel)) (any_subA (lₚ := []) rfl)) rfl) (SA_glu (ι := [0, 8]) hA21 eA21 (by decide +kernel)) (any_subA (lₚ := []) rfl)) hA_c309 (any_subA rfl)) rfl)     (show 0 ≤ (u2_1) ∧ (u2_1) ≤ (n3) ∧ (n3) ≤ 65536 by have qh0 := HIDe r2; have qh1 := HIDe r4; omega)
        · exact absurd b23 (by omega)
      refine w_icmple (t := 308) rfl rfl (show inr (u2_1) by have qh0 := HIDe r2; omega) (show inr (z21) by omega) (fun b24 => ?_) (fun b24 => ?_)
      · refine Ew_of (pcₚ := 309) (fun _ => x_iconst rfl) ?_
        exact hc309 (0) _ _ _ _  (rk_o (hl0) rfl rfl) (rk_o (hl1) rfl rfl) (rk_o (hl3) rfl rfl) H O (SF_refl) (SA_refl)     (show inr (0) by omega) (show ((u2_1) ≤ (z21) ∧ (0) = (0)) ∨ ((u2_1) > (z21) ∧ (0) = (1)) by have qh0 := HIDe r2; omega)
      · refine Ew_of (pcₚ := 305) (fun _ => x_iconst rfl) ?_
        refine Ew_of (pcₚ := 309) (fun _ => x_goto rfl rfl) ?_
        exact hc309 (1) _ _ _ _  (rk_o (hl0) rfl rfl) (rk_o (hl1) rfl rfl) (rk_o (hl3) rfl rfl) H O (SF_refl) (SA_refl)     (show inr (1) by omega) (show ((u2_1) ≤ (z21) ∧ (1) = (0)) ∨ ((u2_1) > (z21) ∧ (1) = (1)) by have qh0 := HIDe r2; omega)
    · refine Ew_of (pcₚ := 271) (fun _ => x_iconst rfl) ?_
      refine Ew_of (pcₚ := 275) (fun _ => x_goto rfl rfl) ?_
      refine w_iaddA rfl (fun z25 gz25 => ?_)
      refine v_sI H (o := 7) (z := z25) rfl rfl rfl rfl (n := n7) (en7) (show 0 ≤ 0 ∧ 0 < n7 by have qh0 := HIDe r7; omega) (show inr (z25) by omega) (fun σ H Oₚ => ?_)
      have O := OUT_trans O Oₚ
      refine Ew_of (pcₚ := 278) (fun _ => x_aload_n rfl (rk_o (hl0) rfl rfl)) ?_
      refine v_g H (o := 0) (v := .ref (D 7)) rfl rfl rfl rfl rfl (vrf ((((show F17 0 16 = F 0 16 from (eF17 0 16)))).trans (pf7))) ?_
      refine Ew_of (pcₚ := 282) (fun _ => x_iconst rfl) ?_
      refine Ew_of (pcₚ := 283) (fun _ => x_dup2 rfl rfl rfl) ?_
      refine v_lI H (o := 7) rfl rfl rfl rfl (n := n7) (en7) (show 0 ≤ 1 ∧ 1 < n7 by have qh0 := HIDe r7; omega) (fun v26 ev26 qv26 => ?_)
      replace qv26 := HIDm qv26
      have ev26 : (upd1 (A 7) (0) (z25)) (1) = v26 := (congrFun (congrArg (fun q => upd1 q (0) (z25)) ((show A17 7 = A 7 from (eA17 7)))) (1)).symm.trans ev26
      refine Ew_of (pcₚ := 285) (fun _ => x_aload_n rfl (rk_o (hl0) rfl rfl)) ?_
      refine v_g H (o := 0) (v := .ref (D 2)) rfl rfl rfl rfl rfl (vrf ((((show F17 0 5 = F 0 5 from (eF17 0 5)))).trans (pf2))) ?_
      refine v_g H (o := 2) (v := I (u2_1)) rfl rfl rfl rfl rfl (congrArg (fun z : Int => I z) ((((show F17 2 1 = F 2 1 from (eF17 2 1))).trans (eu2_1)) : F17 2 1 = u2_1)) ?_
      refine Ew_of (pcₚ := 292) (fun _ => x_aload_n rfl (rk_o (hl0) rfl rfl)) ?_
      refine Ew_of (pcₚ := 293) (fun _ => x_iload_n rfl (rk_o (hl3) rfl rfl)) ?_
      refine Ew_of (pcₚ := 295) (fun _ => x_aload rfl (rk_o (hl4) rfl rfl)) ?_
      refine v_g H (o := 1) (v := I (u1_1)) rfl rfl rfl rfl rfl (congrArg (fun z : Int => I z) ((((show F17 1 1 = F 1 1 from (eF17 1 1).trans (hS17 1 1 rfl))).trans (eu1_1)) : F17 1 1 = u1_1)) ?_
      refine v_inv H (o := 0) rfl rfl rfl rfl rfl rfl (by rfl) (C34 (D := pul [0, 8] D) (N := pul [0, 8] N) (HW_sub H (VS_of (show vsub V17_ve2 V34 [0, 8] = true by decide +kernel))) ((((show F17 0 1 = F 0 1 from (eF17 0 1)))).trans (pf8)) (n8) (en8) (w8) (((show A17 8 = A 8 from (eA17 8))).trans (ew8)) (show inr (2) by omega) (show inr (u1_1) by have qh0 := HIDe r1; omega) (show 0 ≤ (u1_1) ∧ (u1_1) ≤ 16384 by have qh0 := HIDe r1; omega) (show 1 ≤ ((w8)) 2 ∧ ((w8)) 2 ≤ 65536 by omega) (show 0 ≤ ((w8)) 8 ∧ ((w8)) 8 ≤ 11 by omega) (show 0 ≤ ((w8)) 6 ∧ ((w8)) 6 ≤ 255 by omega) (show (n8) = 10 by have qh0 := HIDe r8; omega) (fun z27 σ27 F27ₚ A27ₚ Hₚ Oₚ hS27 hA27 pz27_0 => ⟨rfl, ?_⟩))
      refine v_back (c := c) (s := s) H (show vsub V17_ve2 V34 [0, 8] = true by decide +kernel) Hₚ Oₚ (fun F27 A27 H Oₚ eF27 eA27 => ?_)
      have O := OUT_trans O Oₚ
      -- PackHouse.boundOf
      have hc309 : ∀ (tc309_0 : Int), ∀ (ls : rO) (σ : rS) (F_c309 : hF) (A_c309 : hA) , rlook ls 0 = some (.ref (D 0)) → rlook ls 1 = some (I (x1)) → rlook ls 3 = some (I (2)) → HW V17_ve2 σ D N F_c309 A_c309 → OUT (V17_ve2).length D N σE c s D N σ c s → SF [] F27 F_c309 → SA [] A27 A_c309 → (inr (tc309_0)) → (((u2_1) ≤ (z27) ∧ (tc309_0) = (0)) ∨ ((u2_1) > (z27) ∧ (tc309_0) = (1))) → Ew 17 (d + 3) 309 ls [I (tc309_0), I (v26), I (1), .ref (D 7)] σ c s Q := by
       as_aux_lemma =>
        intro tc309_0 ls σ F_c309 A_c309  lc309_0 lc309_1 lc309_3 H O hS_c309 hA_c309     jc309_0 jc309_1
        refine w_iaddA rfl (fun z28 gz28 => ?_)
        refine v_sI H (o := 7) (z := z28) rfl rfl rfl rfl (n := n7) (en7) (show 0 ≤ 1 ∧ 1 < n7 by have qh0 := HIDe r7; omega) (show inr (z28) by omega) (fun σ H Oₚ => ?_)
        have O := OUT_trans O Oₚ
        refine Ew_of (pcₚ := 312) (fun _ => x_iload_n rfl lc309_3) ?_
        refine Ew_of (pcₚ := 313) (fun _ => x_iconst rfl) ?_
        refine w_icmpne (t := 337) rfl rfl (show inr (2) by omega) (show inr (4) by omega) (fun b29 => ?_) (fun b29 => ?_)
        · exact hc337  _ _ _ _  (lc309_0) (lc309_1) H O (SF_trans (SF_trans (SF_trans (SF_refl) (SF_glu (ι := [4, 1, 5, 6]) hS17 eF17 (by decide +kernel)) (any_sub (lₚ := []) rfl)) (SF_glu (ι := [0, 8]) hS27 eF27 (by decide +kernel)) (any_sub (lₚ := []) rfl)) hS_c309 (any_sub rfl)) (SA_upd (SA_trans (SA_trans (SA_upd (SA_trans (SA_refl) (SA_glu (ι := [4, 1, 5, 6]) hA17 eA17 (by decide +kernel)) (any_subA (lₚ := []) rfl)) rfl) (SA_glu (ι := [0, 8]) hA27 eA27 (by decide +kernel)) (any_subA (lₚ := []) rfl)) hA_c309 (any_subA rfl)) rfl)     (show 0 ≤ (u2_1) ∧ (u2_1) ≤ (n3) ∧ (n3) ≤ 65536 by have qh0 := HIDe r2; have qh1 := HIDe r4; omega)
        · exact absurd b29 (by omega)
      refine w_icmple (t := 308) rfl rfl (show inr (u2_1) by have qh0 := HIDe r2; omega) (show inr (z27) by omega) (fun b30 => ?_) (fun b30 => ?_)
      · refine Ew_of (pcₚ := 309) (fun _ => x_iconst rfl) ?_
        exact hc309 (0) _ _ _ _  (rk_o (hl0) rfl rfl) (rk_o (hl1) rfl rfl) (rk_o (hl3) rfl rfl) H O (SF_refl) (SA_refl)     (show inr (0) by omega) (show ((u2_1) ≤ (z27) ∧ (0) = (0)) ∨ ((u2_1) > (z27) ∧ (0) = (1)) by have qh0 := HIDe r2; omega)
      · refine Ew_of (pcₚ := 305) (fun _ => x_iconst rfl) ?_
        refine Ew_of (pcₚ := 309) (fun _ => x_goto rfl rfl) ?_
        exact hc309 (1) _ _ _ _  (rk_o (hl0) rfl rfl) (rk_o (hl1) rfl rfl) (rk_o (hl3) rfl rfl) H O (SF_refl) (SA_refl)     (show inr (1) by omega) (show ((u2_1) ≤ (z27) ∧ (1) = (0)) ∨ ((u2_1) > (z27) ∧ (1) = (1)) by have qh0 := HIDe r2; omega)
abbrev V17_ve3 : vV := [(0, 0, [(4, 0), (4, 0), (4, 0), (4, 0), (4, 0), (4, 0), (4, 0), (4, 0), (4, 0), (4, 0), (4, 0), (4, 0), (4, 0), (4, 0), (4, 0), (4, 0), (4, 0), (0, 0), (0, 0)]), (0, 7, [(4, 0), (0, 0), (1, 0), (0, 0), (0, 0)]), (0, 7, [(4, 0), (0, 0), (1, 0), (0, 0), (0, 0)]), (1, 0, []), (0, 7, [(4, 0), (0, 0), (1, 0), (0, 0), (0, 0)]), (1, 0, []), (1, 0, []), (1, 1, []), (1, 1, [])]
/-- PackHouse.write: this, @F, this.written, this.written.bytes, this.content, this.content.bytes, @F.bytes, this.strays, this.settings -/
theorem C17_ve3 {σE : rS} {D N : Nat → Nat} {F : hF} {A : hA} {d c s : Nat} {Q : wQ} (H : HW V17_ve3 σE D N F A) {x1 y0 : Int} (pf2 : F 0 5 = (D 2 : Int)) (pf3 : F 2 0 = (D 3 : Int)) (pf4 : F 0 6 = (D 4 : Int)) (pf5 : F 4 0 = (D 5 : Int)) (pf6 : F 1 0 = (D 6 : Int)) (pf7 : F 0 16 = (D 7 : Int)) (pf8 : F 0 1 = (D 8 : Int)) (n3 : Int) (en3 : (N 3 : Int) = n3) (n5 : Int) (en5 : (N 5 : Int) = n5) (n6 : Int) (en6 : (N 6 : Int) = n6) (n7 : Int) (en7 : (N 7 : Int) = n7) (n8 : Int) (en8 : (N 8 : Int) = n8) (u1_1 : Int) (eu1_1 : F 1 1 = u1_1) (u2_1 : Int) (eu2_1 : F 2 1 = u2_1) (u4_1 : Int) (eu4_1 : F 4 1 = u4_1) (w8 : Int → Int) (ew8 : A 8 = w8) {ls : rO} (hl0 : rlook ls 0 = some (.ref (D 0))) (hl1 : rlook ls 1 = some (I (x1))) (hl3 : rlook ls 3 = some (I (3))) (hl4 : rlook ls 4 = some (.ref (D 1))) (h0 : inr (x1)) (h1 : inr y0) (h2 : 0 ≤ (u2_1) ∧ (u2_1) ≤ (n3) ∧ (n3) ≤ 65536) (h3 : 0 ≤ (u4_1) ∧ (u4_1) ≤ (n5) ∧ (n5) ≤ 65536) (h4 : 0 ≤ (u1_1) ∧ (u1_1) ≤ (n6) ∧ (n6) ≤ 65536) (h5 : (u1_1) ≤ 16384) (h6 : (n7) = 2) (h7 : 1 ≤ ((w8)) 2 ∧ ((w8)) 2 ≤ 65536) (h8 : 0 ≤ ((w8)) 8 ∧ ((w8)) 8 ≤ 11) (h9 : 0 ≤ ((w8)) 6 ∧ ((w8)) 6 ≤ 255) (h10 : (n8) = 10) (hc337 : ∀ (ls : rO) (σ : rS) (F_c337 : hF) (A_c337 : hA) , rlook ls 0 = some (.ref (D 0)) → rlook ls 1 = some (I (x1)) → HW V17_ve3 σ D N F_c337 A_c337 → OUT (V17_ve3).length D N σE c s D N σ c s → SF [] F F_c337 → SA [7] A A_c337 → (0 ≤ (u2_1) ∧ (u2_1) ≤ (n3) ∧ (n3) ≤ 65536) → Ew 17 (d + 3) 337 ls [] σ c s Q) (k : ∀ (z : Int) (σ : rS) (Fₚ : hF) (Aₚ : hA), HW V17_ve3 σ D N Fₚ Aₚ → OUT (V17_ve3).length D N σE c s D N σ c s → SF [] F Fₚ → SA [7] A Aₚ → (inr (z)) → ((0 : Int) = 1) → Q (some (I z)) σ c s) : Ew 17 (d + 3) 239 ls [I (y0)] σE c s Q := by
  have O := OUT_refl (n := (V17_ve3).length) (D := D) (N := N) (σ := σE) (c := c) (s := s)
  have HE := H
  have r1 : HID ((-2147483648 : Int) ≤ u1_1 ∧ u1_1 ≤ 2147483647) := krg_e (show (-2147483648 : Int) ≤ F 1 1 ∧ F 1 1 ≤ 2147483647 from H.krg 1 1 (by decide)) (show F 1 1 = u1_1 from (eu1_1))
  have r2 : HID ((-2147483648 : Int) ≤ u2_1 ∧ u2_1 ≤ 2147483647) := krg_e (show (-2147483648 : Int) ≤ F 2 1 ∧ F 2 1 ≤ 2147483647 from H.krg 2 1 (by decide)) (show F 2 1 = u2_1 from (eu2_1))
  have r3 : HID ((-2147483648 : Int) ≤ u4_1 ∧ u4_1 ≤ 2147483647) := krg_e (show (-2147483648 : Int) ≤ F 4 1 ∧ F 4 1 ≤ 2147483647 from H.krg 4 1 (by decide)) (show F 4 1 = u4_1 from (eu4_1))
  replace pf2 := HIDm pf2
  replace pf3 := HIDm pf3
  replace pf4 := HIDm pf4
  replace pf5 := HIDm pf5
  replace pf6 := HIDm pf6
  replace pf7 := HIDm pf7
  replace pf8 := HIDm pf8
  replace en3 := HIDm en3
  replace en5 := HIDm en5
  replace en6 := HIDm en6
  replace en7 := HIDm en7
  replace en8 := HIDm en8
  replace eu1_1 := HIDm eu1_1
  replace eu2_1 := HIDm eu2_1
  replace eu4_1 := HIDm eu4_1
  have r4 : HID ((0 : Int) ≤ n3 ∧ n3 ≤ 1000000) := nrng (H.nle 3 (by decide)) (show (N 3 : Int) = n3 from en3)
  have r5 : HID ((0 : Int) ≤ n5 ∧ n5 ≤ 1000000) := nrng (H.nle 5 (by decide)) (show (N 5 : Int) = n5 from en5)
  have r6 : HID ((0 : Int) ≤ n6 ∧ n6 ≤ 1000000) := nrng (H.nle 6 (by decide)) (show (N 6 : Int) = n6 from en6)
  have r7 : HID ((0 : Int) ≤ n7 ∧ n7 ≤ 1000000) := nrng (H.nle 7 (by decide)) (show (N 7 : Int) = n7 from en7)
  have r8 : HID ((0 : Int) ≤ n8 ∧ n8 ≤ 1000000) := nrng (H.nle 8 (by decide)) (show (N 8 : Int) = n8 from en8)
  refine Ew_of (pcₚ := 241) (fun _ => x_istore rfl) ?_
  refine Ew_of (pcₚ := 242) (fun _ => x_aload_n rfl (rk_o (hl0) rfl rfl)) ?_
  refine v_g H (o := 0) (v := .ref (D 7)) rfl rfl rfl rfl rfl (vrf (pf7)) ?_
  refine Ew_of (pcₚ := 246) (fun _ => x_iconst rfl) ?_
  refine Ew_of (pcₚ := 247) (fun _ => x_dup2 rfl rfl rfl) ?_
  refine v_lI H (o := 7) rfl rfl rfl rfl (n := n7) (en7) (show 0 ≤ 0 ∧ 0 < n7 by have qh0 := HIDe r7; omega) (fun v9 ev9 qv9 => ?_)
  replace qv9 := HIDm qv9
  have ev9 : (A 7) (0) = v9 := (congrFun (rfl : A 7 = A 7) (0)).symm.trans ev9
  refine Ew_of (pcₚ := 250) (fun _ => x_iload rfl rk_s) ?_
  refine Ew_of (pcₚ := 252) (fun _ => x_aload rfl (rk_o (hl4) rfl rfl)) ?_
  refine v_g H (o := 1) (v := I (u1_1)) rfl rfl rfl rfl rfl (congrArg (fun z : Int => I z) ((eu1_1) : F 1 1 = u1_1)) ?_
  refine w_icmpne (t := 274) rfl rfl (show inr (y0) by omega) (show inr (u1_1) by have qh0 := HIDe r1; omega) (fun b10 => ?_) (fun b10 => ?_)
  · refine Ew_of (pcₚ := 275) (fun _ => x_iconst rfl) ?_
    refine w_iaddA rfl (fun z11 gz11 => ?_)
    refine v_sI H (o := 7) (z := z11) rfl rfl rfl rfl (n := n7) (en7) (show 0 ≤ 0 ∧ 0 < n7 by have qh0 := HIDe r7; omega) (show inr (z11) by omega) (fun σ H Oₚ => ?_)
    have O := OUT_trans O Oₚ
    refine Ew_of (pcₚ := 278) (fun _ => x_aload_n rfl (rk_o (hl0) rfl rfl)) ?_
    refine v_g H (o := 0) (v := .ref (D 7)) rfl rfl rfl rfl rfl (vrf (pf7)) ?_
    refine Ew_of (pcₚ := 282) (fun _ => x_iconst rfl) ?_
    refine Ew_of (pcₚ := 283) (fun _ => x_dup2 rfl rfl rfl) ?_
    refine v_lI H (o := 7) rfl rfl rfl rfl (n := n7) (en7) (show 0 ≤ 1 ∧ 1 < n7 by have qh0 := HIDe r7; omega) (fun v12 ev12 qv12 => ?_)
    replace qv12 := HIDm qv12
    have ev12 : (upd1 (A 7) (0) (z11)) (1) = v12 := (congrFun (rfl : (updA A 7 (0) (z11)) 7 = upd1 (A 7) (0) (z11)) (1)).symm.trans ev12
    refine Ew_of (pcₚ := 285) (fun _ => x_aload_n rfl (rk_o (hl0) rfl rfl)) ?_
    refine v_g H (o := 0) (v := .ref (D 2)) rfl rfl rfl rfl rfl (vrf (pf2)) ?_
    refine v_g H (o := 2) (v := I (u2_1)) rfl rfl rfl rfl rfl (congrArg (fun z : Int => I z) ((eu2_1) : F 2 1 = u2_1)) ?_
    refine Ew_of (pcₚ := 292) (fun _ => x_aload_n rfl (rk_o (hl0) rfl rfl)) ?_
    refine Ew_of (pcₚ := 293) (fun _ => x_iload_n rfl (rk_o (hl3) rfl rfl)) ?_
    refine Ew_of (pcₚ := 295) (fun _ => x_aload rfl (rk_o (hl4) rfl rfl)) ?_
    refine v_g H (o := 1) (v := I (u1_1)) rfl rfl rfl rfl rfl (congrArg (fun z : Int => I z) ((eu1_1) : F 1 1 = u1_1)) ?_
    refine v_inv H (o := 0) rfl rfl rfl rfl rfl rfl (by rfl) (C34 (D := pul [0, 8] D) (N := pul [0, 8] N) (HW_sub H (VS_of (show vsub V17_ve3 V34 [0, 8] = true by decide +kernel))) (pf8) (n8) (en8) (w8) (ew8) (show inr (3) by omega) (show inr (u1_1) by have qh0 := HIDe r1; omega) (show 0 ≤ (u1_1) ∧ (u1_1) ≤ 16384 by have qh0 := HIDe r1; omega) (show 1 ≤ ((w8)) 2 ∧ ((w8)) 2 ≤ 65536 by omega) (show 0 ≤ ((w8)) 8 ∧ ((w8)) 8 ≤ 11 by omega) (show 0 ≤ ((w8)) 6 ∧ ((w8)) 6 ≤ 255 by omega) (show (n8) = 10 by have qh0 := HIDe r8; omega) (fun z13 σ13 F13ₚ A13ₚ Hₚ Oₚ hS13 hA13 pz13_0 => ⟨rfl, ?_⟩))
    refine v_back (c := c) (s := s) H (show vsub V17_ve3 V34 [0, 8] = true by decide +kernel) Hₚ Oₚ (fun F13 A13 H Oₚ eF13 eA13 => ?_)
    have O := OUT_trans O Oₚ
    -- PackHouse.boundOf
    have hc309 : ∀ (tc309_0 : Int), ∀ (ls : rO) (σ : rS) (F_c309 : hF) (A_c309 : hA) , rlook ls 0 = some (.ref (D 0)) → rlook ls 1 = some (I (x1)) → rlook ls 3 = some (I (3)) → HW V17_ve3 σ D N F_c309 A_c309 → OUT (V17_ve3).length D N σE c s D N σ c s → SF [] F13 F_c309 → SA [] A13 A_c309 → (inr (tc309_0)) → (((u2_1) ≤ (z13) ∧ (tc309_0) = (0)) ∨ ((u2_1) > (z13) ∧ (tc309_0) = (1))) → Ew 17 (d + 3) 309 ls [I (tc309_0), I (v12), I (1), .ref (D 7)] σ c s Q := by
     as_aux_lemma =>
      intro tc309_0 ls σ F_c309 A_c309  lc309_0 lc309_1 lc309_3 H O hS_c309 hA_c309     jc309_0 jc309_1
      refine w_iaddA rfl (fun z14 gz14 => ?_)
      refine v_sI H (o := 7) (z := z14) rfl rfl rfl rfl (n := n7) (en7) (show 0 ≤ 1 ∧ 1 < n7 by have qh0 := HIDe r7; omega) (show inr (z14) by omega) (fun σ H Oₚ => ?_)
      have O := OUT_trans O Oₚ
      refine Ew_of (pcₚ := 312) (fun _ => x_iload_n rfl lc309_3) ?_
      refine Ew_of (pcₚ := 313) (fun _ => x_iconst rfl) ?_
      refine w_icmpne (t := 337) rfl rfl (show inr (3) by omega) (show inr (4) by omega) (fun b15 => ?_) (fun b15 => ?_)
      · exact hc337  _ _ _ _  (lc309_0) (lc309_1) H O (SF_trans (SF_trans (SF_refl) (SF_glu (ι := [0, 8]) hS13 eF13 (by decide +kernel)) (any_sub (lₚ := []) rfl)) hS_c309 (any_sub rfl)) (SA_upd (SA_trans (SA_trans (SA_upd (SA_refl) rfl) (SA_glu (ι := [0, 8]) hA13 eA13 (by decide +kernel)) (any_subA (lₚ := []) rfl)) hA_c309 (any_subA rfl)) rfl)     (show 0 ≤ (u2_1) ∧ (u2_1) ≤ (n3) ∧ (n3) ≤ 65536 by have qh0 := HIDe r2; have qh1 := HIDe r4; omega)
      · exact absurd b15 (by omega)
    refine w_icmple (t := 308) rfl rfl (show inr (u2_1) by have qh0 := HIDe r2; omega) (show inr (z13) by omega) (fun b16 => ?_) (fun b16 => ?_)
    · refine Ew_of (pcₚ := 309) (fun _ => x_iconst rfl) ?_
      exact hc309 (0) _ _ _ _  (rk_o (hl0) rfl rfl) (rk_o (hl1) rfl rfl) (rk_o (hl3) rfl rfl) H O (SF_refl) (SA_refl)     (show inr (0) by omega) (show ((u2_1) ≤ (z13) ∧ (0) = (0)) ∨ ((u2_1) > (z13) ∧ (0) = (1)) by have qh0 := HIDe r2; omega)
    · refine Ew_of (pcₚ := 305) (fun _ => x_iconst rfl) ?_
      refine Ew_of (pcₚ := 309) (fun _ => x_goto rfl rfl) ?_
      exact hc309 (1) _ _ _ _  (rk_o (hl0) rfl rfl) (rk_o (hl1) rfl rfl) (rk_o (hl3) rfl rfl) H O (SF_refl) (SA_refl)     (show inr (1) by omega) (show ((u2_1) ≤ (z13) ∧ (1) = (0)) ∨ ((u2_1) > (z13) ∧ (1) = (1)) by have qh0 := HIDe r2; omega)
  · refine Ew_of (pcₚ := 259) (fun _ => x_aload_n rfl (rk_o (hl0) rfl rfl)) ?_
    refine v_g H (o := 0) (v := .ref (D 4)) rfl rfl rfl rfl rfl (vrf (pf4)) ?_
    refine Ew_of (pcₚ := 264) (fun _ => x_aload rfl (rk_o (hl4) rfl rfl)) ?_
    refine w_stat24 rfl rfl (by rfl) (C29_Row_Row (D := pul [4, 1, 5, 6] D) (N := pul [4, 1, 5, 6] N) (HW_sub H (VS_of (show vsub V17_ve3 V29_Row_Row [4, 1, 5, 6] = true by decide +kernel))) (pf5) (pf6) (n5) (en5) (n6) (en6) (u4_1) ((eu4_1)) (u1_1) ((eu1_1)) (show 0 ≤ (u4_1) ∧ (u4_1) ≤ (n5) ∧ (n5) ≤ 65536 by have qh0 := HIDe r3; have qh1 := HIDe r5; omega) (show 0 ≤ (u1_1) ∧ (u1_1) ≤ (n6) ∧ (n6) ≤ 65536 by have qh0 := HIDe r1; have qh1 := HIDe r6; omega) (fun z17 σ17 F17ₚ A17ₚ Hₚ Oₚ hS17 hA17 pz17_0 => ⟨rfl, ?_⟩))
    refine v_back (c := c) (s := s) H (show vsub V17_ve3 V29_Row_Row [4, 1, 5, 6] = true by decide +kernel) Hₚ Oₚ (fun F17 A17 H Oₚ eF17 eA17 => ?_)
    have O := OUT_trans O Oₚ
    -- PackHouse.firstUnlike
    refine w_ifge (t := 274) rfl rfl (show inr (z17) by omega) (fun b18 => ?_) (fun b18 => ?_)
    · refine Ew_of (pcₚ := 275) (fun _ => x_iconst rfl) ?_
      refine w_iaddA rfl (fun z19 gz19 => ?_)
      refine v_sI H (o := 7) (z := z19) rfl rfl rfl rfl (n := n7) (en7) (show 0 ≤ 0 ∧ 0 < n7 by have qh0 := HIDe r7; omega) (show inr (z19) by omega) (fun σ H Oₚ => ?_)
      have O := OUT_trans O Oₚ
      refine Ew_of (pcₚ := 278) (fun _ => x_aload_n rfl (rk_o (hl0) rfl rfl)) ?_
      refine v_g H (o := 0) (v := .ref (D 7)) rfl rfl rfl rfl rfl (vrf ((((show F17 0 16 = F 0 16 from (eF17 0 16)))).trans (pf7))) ?_
      refine Ew_of (pcₚ := 282) (fun _ => x_iconst rfl) ?_
      refine Ew_of (pcₚ := 283) (fun _ => x_dup2 rfl rfl rfl) ?_
      refine v_lI H (o := 7) rfl rfl rfl rfl (n := n7) (en7) (show 0 ≤ 1 ∧ 1 < n7 by have qh0 := HIDe r7; omega) (fun v20 ev20 qv20 => ?_)
      replace qv20 := HIDm qv20
      have ev20 : (upd1 (A 7) (0) (z19)) (1) = v20 := (congrFun (congrArg (fun q => upd1 q (0) (z19)) ((show A17 7 = A 7 from (eA17 7)))) (1)).symm.trans ev20
      refine Ew_of (pcₚ := 285) (fun _ => x_aload_n rfl (rk_o (hl0) rfl rfl)) ?_
      refine v_g H (o := 0) (v := .ref (D 2)) rfl rfl rfl rfl rfl (vrf ((((show F17 0 5 = F 0 5 from (eF17 0 5)))).trans (pf2))) ?_
      refine v_g H (o := 2) (v := I (u2_1)) rfl rfl rfl rfl rfl (congrArg (fun z : Int => I z) ((((show F17 2 1 = F 2 1 from (eF17 2 1))).trans (eu2_1)) : F17 2 1 = u2_1)) ?_
      refine Ew_of (pcₚ := 292) (fun _ => x_aload_n rfl (rk_o (hl0) rfl rfl)) ?_
      refine Ew_of (pcₚ := 293) (fun _ => x_iload_n rfl (rk_o (hl3) rfl rfl)) ?_
      refine Ew_of (pcₚ := 295) (fun _ => x_aload rfl (rk_o (hl4) rfl rfl)) ?_
      refine v_g H (o := 1) (v := I (u1_1)) rfl rfl rfl rfl rfl (congrArg (fun z : Int => I z) ((((show F17 1 1 = F 1 1 from (eF17 1 1).trans (hS17 1 1 rfl))).trans (eu1_1)) : F17 1 1 = u1_1)) ?_
      refine v_inv H (o := 0) rfl rfl rfl rfl rfl rfl (by rfl) (C34 (D := pul [0, 8] D) (N := pul [0, 8] N) (HW_sub H (VS_of (show vsub V17_ve3 V34 [0, 8] = true by decide +kernel))) ((((show F17 0 1 = F 0 1 from (eF17 0 1)))).trans (pf8)) (n8) (en8) (w8) (((show A17 8 = A 8 from (eA17 8))).trans (ew8)) (show inr (3) by omega) (show inr (u1_1) by have qh0 := HIDe r1; omega) (show 0 ≤ (u1_1) ∧ (u1_1) ≤ 16384 by have qh0 := HIDe r1; omega) (show 1 ≤ ((w8)) 2 ∧ ((w8)) 2 ≤ 65536 by omega) (show 0 ≤ ((w8)) 8 ∧ ((w8)) 8 ≤ 11 by omega) (show 0 ≤ ((w8)) 6 ∧ ((w8)) 6 ≤ 255 by omega) (show (n8) = 10 by have qh0 := HIDe r8; omega) (fun z21 σ21 F21ₚ A21ₚ Hₚ Oₚ hS21 hA21 pz21_0 => ⟨rfl, ?_⟩))
      refine v_back (c := c) (s := s) H (show vsub V17_ve3 V34 [0, 8] = true by decide +kernel) Hₚ Oₚ (fun F21 A21 H Oₚ eF21 eA21 => ?_)
      have O := OUT_trans O Oₚ
      -- PackHouse.boundOf
      have hc309 : ∀ (tc309_0 : Int), ∀ (ls : rO) (σ : rS) (F_c309 : hF) (A_c309 : hA) , rlook ls 0 = some (.ref (D 0)) → rlook ls 1 = some (I (x1)) → rlook ls 3 = some (I (3)) → HW V17_ve3 σ D N F_c309 A_c309 → OUT (V17_ve3).length D N σE c s D N σ c s → SF [] F21 F_c309 → SA [] A21 A_c309 → (inr (tc309_0)) → (((u2_1) ≤ (z21) ∧ (tc309_0) = (0)) ∨ ((u2_1) > (z21) ∧ (tc309_0) = (1))) → Ew 17 (d + 3) 309 ls [I (tc309_0), I (v20), I (1), .ref (D 7)] σ c s Q := by
       as_aux_lemma =>
        intro tc309_0 ls σ F_c309 A_c309  lc309_0 lc309_1 lc309_3 H O hS_c309 hA_c309     jc309_0 jc309_1
        refine w_iaddA rfl (fun z22 gz22 => ?_)
        refine v_sI H (o := 7) (z := z22) rfl rfl rfl rfl (n := n7) (en7) (show 0 ≤ 1 ∧ 1 < n7 by have qh0 := HIDe r7; omega) (show inr (z22) by omega) (fun σ H Oₚ => ?_)
        have O := OUT_trans O Oₚ
        refine Ew_of (pcₚ := 312) (fun _ => x_iload_n rfl lc309_3) ?_
        refine Ew_of (pcₚ := 313) (fun _ => x_iconst rfl) ?_
        refine w_icmpne (t := 337) rfl rfl (show inr (3) by omega) (show inr (4) by omega) (fun b23 => ?_) (fun b23 => ?_)
        · exact hc337  _ _ _ _  (lc309_0) (lc309_1) H O (SF_trans (SF_trans (SF_trans (SF_refl) (SF_glu (ι := [4, 1, 5, 6]) hS17 eF17 (by decide +kernel)) (any_sub (lₚ := []) rfl)) (SF_glu (ι := [0, 8]) hS21 eF21 (by decide +kernel)) (any_sub (lₚ := []) rfl)) hS_c309 (any_sub rfl)) (SA_upd (SA_trans (SA_trans (SA_upd (SA_trans (SA_refl) (SA_glu (ι := [4, 1, 5, 6]) hA17 eA17 (by decide +kernel)) (any_subA (lₚ := []) rfl)) rfl) (SA_glu (ι := [0, 8]) hA21 eA21 (by decide +kernel)) (any_subA (lₚ := []) rfl)) hA_c309 (any_subA rfl)) rfl)     (show 0 ≤ (u2_1) ∧ (u2_1) ≤ (n3) ∧ (n3) ≤ 65536 by have qh0 := HIDe r2; have qh1 := HIDe r4; omega)
        · exact absurd b23 (by omega)
      refine w_icmple (t := 308) rfl rfl (show inr (u2_1) by have qh0 := HIDe r2; omega) (show inr (z21) by omega) (fun b24 => ?_) (fun b24 => ?_)
      · refine Ew_of (pcₚ := 309) (fun _ => x_iconst rfl) ?_
        exact hc309 (0) _ _ _ _  (rk_o (hl0) rfl rfl) (rk_o (hl1) rfl rfl) (rk_o (hl3) rfl rfl) H O (SF_refl) (SA_refl)     (show inr (0) by omega) (show ((u2_1) ≤ (z21) ∧ (0) = (0)) ∨ ((u2_1) > (z21) ∧ (0) = (1)) by have qh0 := HIDe r2; omega)
      · refine Ew_of (pcₚ := 305) (fun _ => x_iconst rfl) ?_
        refine Ew_of (pcₚ := 309) (fun _ => x_goto rfl rfl) ?_
        exact hc309 (1) _ _ _ _  (rk_o (hl0) rfl rfl) (rk_o (hl1) rfl rfl) (rk_o (hl3) rfl rfl) H O (SF_refl) (SA_refl)     (show inr (1) by omega) (show ((u2_1) ≤ (z21) ∧ (1) = (0)) ∨ ((u2_1) > (z21) ∧ (1) = (1)) by have qh0 := HIDe r2; omega)
    · refine Ew_of (pcₚ := 271) (fun _ => x_iconst rfl) ?_
      refine Ew_of (pcₚ := 275) (fun _ => x_goto rfl rfl) ?_
      refine w_iaddA rfl (fun z25 gz25 => ?_)
      refine v_sI H (o := 7) (z := z25) rfl rfl rfl rfl (n := n7) (en7) (show 0 ≤ 0 ∧ 0 < n7 by have qh0 := HIDe r7; omega) (show inr (z25) by omega) (fun σ H Oₚ => ?_)
      have O := OUT_trans O Oₚ
      refine Ew_of (pcₚ := 278) (fun _ => x_aload_n rfl (rk_o (hl0) rfl rfl)) ?_
      refine v_g H (o := 0) (v := .ref (D 7)) rfl rfl rfl rfl rfl (vrf ((((show F17 0 16 = F 0 16 from (eF17 0 16)))).trans (pf7))) ?_
      refine Ew_of (pcₚ := 282) (fun _ => x_iconst rfl) ?_
      refine Ew_of (pcₚ := 283) (fun _ => x_dup2 rfl rfl rfl) ?_
      refine v_lI H (o := 7) rfl rfl rfl rfl (n := n7) (en7) (show 0 ≤ 1 ∧ 1 < n7 by have qh0 := HIDe r7; omega) (fun v26 ev26 qv26 => ?_)
      replace qv26 := HIDm qv26
      have ev26 : (upd1 (A 7) (0) (z25)) (1) = v26 := (congrFun (congrArg (fun q => upd1 q (0) (z25)) ((show A17 7 = A 7 from (eA17 7)))) (1)).symm.trans ev26
      refine Ew_of (pcₚ := 285) (fun _ => x_aload_n rfl (rk_o (hl0) rfl rfl)) ?_
      refine v_g H (o := 0) (v := .ref (D 2)) rfl rfl rfl rfl rfl (vrf ((((show F17 0 5 = F 0 5 from (eF17 0 5)))).trans (pf2))) ?_
      refine v_g H (o := 2) (v := I (u2_1)) rfl rfl rfl rfl rfl (congrArg (fun z : Int => I z) ((((show F17 2 1 = F 2 1 from (eF17 2 1))).trans (eu2_1)) : F17 2 1 = u2_1)) ?_
      refine Ew_of (pcₚ := 292) (fun _ => x_aload_n rfl (rk_o (hl0) rfl rfl)) ?_
      refine Ew_of (pcₚ := 293) (fun _ => x_iload_n rfl (rk_o (hl3) rfl rfl)) ?_
      refine Ew_of (pcₚ := 295) (fun _ => x_aload rfl (rk_o (hl4) rfl rfl)) ?_
      refine v_g H (o := 1) (v := I (u1_1)) rfl rfl rfl rfl rfl (congrArg (fun z : Int => I z) ((((show F17 1 1 = F 1 1 from (eF17 1 1).trans (hS17 1 1 rfl))).trans (eu1_1)) : F17 1 1 = u1_1)) ?_
      refine v_inv H (o := 0) rfl rfl rfl rfl rfl rfl (by rfl) (C34 (D := pul [0, 8] D) (N := pul [0, 8] N) (HW_sub H (VS_of (show vsub V17_ve3 V34 [0, 8] = true by decide +kernel))) ((((show F17 0 1 = F 0 1 from (eF17 0 1)))).trans (pf8)) (n8) (en8) (w8) (((show A17 8 = A 8 from (eA17 8))).trans (ew8)) (show inr (3) by omega) (show inr (u1_1) by have qh0 := HIDe r1; omega) (show 0 ≤ (u1_1) ∧ (u1_1) ≤ 16384 by have qh0 := HIDe r1; omega) (show 1 ≤ ((w8)) 2 ∧ ((w8)) 2 ≤ 65536 by omega) (show 0 ≤ ((w8)) 8 ∧ ((w8)) 8 ≤ 11 by omega) (show 0 ≤ ((w8)) 6 ∧ ((w8)) 6 ≤ 255 by omega) (show (n8) = 10 by have qh0 := HIDe r8; omega) (fun z27 σ27 F27ₚ A27ₚ Hₚ Oₚ hS27 hA27 pz27_0 => ⟨rfl, ?_⟩))
      refine v_back (c := c) (s := s) H (show vsub V17_ve3 V34 [0, 8] = true by decide +kernel) Hₚ Oₚ (fun F27 A27 H Oₚ eF27 eA27 => ?_)
      have O := OUT_trans O Oₚ
      -- PackHouse.boundOf
      have hc309 : ∀ (tc309_0 : Int), ∀ (ls : rO) (σ : rS) (F_c309 : hF) (A_c309 : hA) , rlook ls 0 = some (.ref (D 0)) → rlook ls 1 = some (I (x1)) → rlook ls 3 = some (I (3)) → HW V17_ve3 σ D N F_c309 A_c309 → OUT (V17_ve3).length D N σE c s D N σ c s → SF [] F27 F_c309 → SA [] A27 A_c309 → (inr (tc309_0)) → (((u2_1) ≤ (z27) ∧ (tc309_0) = (0)) ∨ ((u2_1) > (z27) ∧ (tc309_0) = (1))) → Ew 17 (d + 3) 309 ls [I (tc309_0), I (v26), I (1), .ref (D 7)] σ c s Q := by
       as_aux_lemma =>
        intro tc309_0 ls σ F_c309 A_c309  lc309_0 lc309_1 lc309_3 H O hS_c309 hA_c309     jc309_0 jc309_1
        refine w_iaddA rfl (fun z28 gz28 => ?_)
        refine v_sI H (o := 7) (z := z28) rfl rfl rfl rfl (n := n7) (en7) (show 0 ≤ 1 ∧ 1 < n7 by have qh0 := HIDe r7; omega) (show inr (z28) by omega) (fun σ H Oₚ => ?_)
        have O := OUT_trans O Oₚ
        refine Ew_of (pcₚ := 312) (fun _ => x_iload_n rfl lc309_3) ?_
        refine Ew_of (pcₚ := 313) (fun _ => x_iconst rfl) ?_
        refine w_icmpne (t := 337) rfl rfl (show inr (3) by omega) (show inr (4) by omega) (fun b29 => ?_) (fun b29 => ?_)
        · exact hc337  _ _ _ _  (lc309_0) (lc309_1) H O (SF_trans (SF_trans (SF_trans (SF_refl) (SF_glu (ι := [4, 1, 5, 6]) hS17 eF17 (by decide +kernel)) (any_sub (lₚ := []) rfl)) (SF_glu (ι := [0, 8]) hS27 eF27 (by decide +kernel)) (any_sub (lₚ := []) rfl)) hS_c309 (any_sub rfl)) (SA_upd (SA_trans (SA_trans (SA_upd (SA_trans (SA_refl) (SA_glu (ι := [4, 1, 5, 6]) hA17 eA17 (by decide +kernel)) (any_subA (lₚ := []) rfl)) rfl) (SA_glu (ι := [0, 8]) hA27 eA27 (by decide +kernel)) (any_subA (lₚ := []) rfl)) hA_c309 (any_subA rfl)) rfl)     (show 0 ≤ (u2_1) ∧ (u2_1) ≤ (n3) ∧ (n3) ≤ 65536 by have qh0 := HIDe r2; have qh1 := HIDe r4; omega)
        · exact absurd b29 (by omega)
      refine w_icmple (t := 308) rfl rfl (show inr (u2_1) by have qh0 := HIDe r2; omega) (show inr (z27) by omega) (fun b30 => ?_) (fun b30 => ?_)
      · refine Ew_of (pcₚ := 309) (fun _ => x_iconst rfl) ?_
        exact hc309 (0) _ _ _ _  (rk_o (hl0) rfl rfl) (rk_o (hl1) rfl rfl) (rk_o (hl3) rfl rfl) H O (SF_refl) (SA_refl)     (show inr (0) by omega) (show ((u2_1) ≤ (z27) ∧ (0) = (0)) ∨ ((u2_1) > (z27) ∧ (0) = (1)) by have qh0 := HIDe r2; omega)
      · refine Ew_of (pcₚ := 305) (fun _ => x_iconst rfl) ?_
        refine Ew_of (pcₚ := 309) (fun _ => x_goto rfl rfl) ?_
        exact hc309 (1) _ _ _ _  (rk_o (hl0) rfl rfl) (rk_o (hl1) rfl rfl) (rk_o (hl3) rfl rfl) H O (SF_refl) (SA_refl)     (show inr (1) by omega) (show ((u2_1) ≤ (z27) ∧ (1) = (0)) ∨ ((u2_1) > (z27) ∧ (1) = (1)) by have qh0 := HIDe r2; omega)
abbrev V17_vg : vV := [(0, 0, [(4, 0), (4, 0), (4, 0), (4, 0), (4, 0), (4, 0), (4, 0), (4, 0), (4, 0), (4, 0), (4, 0), (4, 0), (4, 0), (4, 0), (4, 0), (4, 0), (4, 0), (0, 0), (0, 0)]), (1, 4, []), (0, 7, [(4, 0), (0, 0), (1, 0), (0, 0), (0, 0)]), (1, 0, []), (0, 7, [(4, 0), (0, 0), (1, 0), (0, 0), (0, 0)]), (1, 0, []), (0, 7, [(4, 0), (0, 0), (1, 0), (0, 0), (0, 0)]), (1, 0, []), (0, 7, [(4, 0), (0, 0), (1, 0), (0, 0), (0, 0)]), (1, 0, []), (0, 7, [(4, 0), (0, 0), (1, 0), (0, 0), (0, 0)]), (1, 0, [])]
/-- PackHouse.write: this, this.rows, this.rows.0, this.rows.0.bytes, this.rows.1, this.rows.1.bytes, this.rows.2, this.rows.2.bytes, this.rows.3, this.rows.3.bytes, this.written, this.written.bytes -/
theorem C17_vg {σE : rS} {D N : Nat → Nat} {F : hF} {A : hA} {d c s : Nat} {Q : wQ} (H : HW V17_vg σE D N F A) {x1 : Int} (pf1 : F 0 0 = (D 1 : Int)) (pf2 : A 1 0 = (D 2 : Int)) (pf3 : F 2 0 = (D 3 : Int)) (pf4 : A 1 1 = (D 4 : Int)) (pf5 : F 4 0 = (D 5 : Int)) (pf6 : A 1 2 = (D 6 : Int)) (pf7 : F 6 0 = (D 7 : Int)) (pf8 : A 1 3 = (D 8 : Int)) (pf9 : F 8 0 = (D 9 : Int)) (pf10 : F 0 5 = (D 10 : Int)) (pf11 : F 10 0 = (D 11 : Int)) (n1 : Int) (en1 : (N 1 : Int) = n1) (n3 : Int) (en3 : (N 3 : Int) = n3) (n5 : Int) (en5 : (N 5 : Int) = n5) (n7 : Int) (en7 : (N 7 : Int) = n7) (n9 : Int) (en9 : (N 9 : Int) = n9) (n11 : Int) (en11 : (N 11 : Int) = n11) (u2_1 : Int) (eu2_1 : F 2 1 = u2_1) (u4_1 : Int) (eu4_1 : F 4 1 = u4_1) (u6_1 : Int) (eu6_1 : F 6 1 = u6_1) (u8_1 : Int) (eu8_1 : F 8 1 = u8_1) (u10_1 : Int) (eu10_1 : F 10 1 = u10_1) {ls : rO} (hl0 : rlook ls 0 = some (.ref (D 0))) (hl1 : rlook ls 1 = some (I (x1))) (h0 : inr (x1)) (h1 : (n1) = 4) (h2 : 0 ≤ (u2_1) ∧ (u2_1) ≤ (n3) ∧ (n3) ≤ 65536) (h3 : 0 ≤ (u4_1) ∧ (u4_1) ≤ (n5) ∧ (n5) ≤ 65536) (h4 : 0 ≤ (u6_1) ∧ (u6_1) ≤ (n7) ∧ (n7) ≤ 65536) (h5 : 0 ≤ (u8_1) ∧ (u8_1) ≤ (n9) ∧ (n9) ≤ 65536) (h6 : 0 ≤ (u10_1) ∧ (u10_1) ≤ (n11) ∧ (n11) ≤ 65536) (h7 : 0 ≤ (x1) ∧ (x1) ≤ 3) (k : ∀ (z : Int) (σ : rS) (Dₚ Nₚ : Nat → Nat) (Fₚ : hF) (Aₚ : hA) (cₚ sₚ : Nat), HW V17_vg σ Dₚ Nₚ Fₚ Aₚ → OUT (V17_vg).length D N σE c s Dₚ Nₚ σ cₚ sₚ → SD [3, 5, 7, 9] D Dₚ → SD [3, 5, 7, 9] N Nₚ → SF [(2, 0), (2, 1), (2, 2), (2, 3), (2, 4), (4, 0), (4, 1), (4, 2), (4, 3), (4, 4), (6, 0), (6, 1), (6, 2), (6, 3), (6, 4), (8, 0), (8, 1), (8, 2), (8, 3), (8, 4)] F Fₚ → SA [3, 5, 7, 9] A Aₚ → Fₚ 2 0 = (Dₚ 3 : Int) → Fₚ 4 0 = (Dₚ 5 : Int) → Fₚ 6 0 = (Dₚ 7 : Int) → Fₚ 8 0 = (Dₚ 9 : Int) → ∀ m3 : Int, (Nₚ 3 : Int) = m3 → ∀ m5 : Int, (Nₚ 5 : Int) = m5 → ∀ m7 : Int, (Nₚ 7 : Int) = m7 → ∀ m9 : Int, (Nₚ 9 : Int) = m9 → ∀ y2_1 : Int, Fₚ 2 1 = y2_1 → ∀ y4_1 : Int, Fₚ 4 1 = y4_1 → ∀ y6_1 : Int, Fₚ 6 1 = y6_1 → ∀ y8_1 : Int, Fₚ 8 1 = y8_1 → (inr (z)) → (0 ≤ (y2_1) ∧ (y2_1) ≤ (m3) ∧ (m3) ≤ 65536) → (0 ≤ (y4_1) ∧ (y4_1) ≤ (m5) ∧ (m5) ≤ 65536) → (0 ≤ (y6_1) ∧ (y6_1) ≤ (m7) ∧ (m7) ≤ 65536) → (0 ≤ (y8_1) ∧ (y8_1) ≤ (m9) ∧ (m9) ≤ 65536) → (0 ≤ (u10_1) ∧ (u10_1) ≤ (n11) ∧ (n11) ≤ 65536) → Q (some (I z)) σ cₚ sₚ) : Ew 17 (d + 4) 337 ls [] σE c s Q := by
  have O := OUT_refl (n := (V17_vg).length) (D := D) (N := N) (σ := σE) (c := c) (s := s)
  have HE := H
  have r1 : HID ((-2147483648 : Int) ≤ u2_1 ∧ u2_1 ≤ 2147483647) := krg_e (show (-2147483648 : Int) ≤ F 2 1 ∧ F 2 1 ≤ 2147483647 from H.krg 2 1 (by decide)) (show F 2 1 = u2_1 from (eu2_1))
  have r2 : HID ((-2147483648 : Int) ≤ u4_1 ∧ u4_1 ≤ 2147483647) := krg_e (show (-2147483648 : Int) ≤ F 4 1 ∧ F 4 1 ≤ 2147483647 from H.krg 4 1 (by decide)) (show F 4 1 = u4_1 from (eu4_1))
  have r3 : HID ((-2147483648 : Int) ≤ u6_1 ∧ u6_1 ≤ 2147483647) := krg_e (show (-2147483648 : Int) ≤ F 6 1 ∧ F 6 1 ≤ 2147483647 from H.krg 6 1 (by decide)) (show F 6 1 = u6_1 from (eu6_1))
  have r4 : HID ((-2147483648 : Int) ≤ u8_1 ∧ u8_1 ≤ 2147483647) := krg_e (show (-2147483648 : Int) ≤ F 8 1 ∧ F 8 1 ≤ 2147483647 from H.krg 8 1 (by decide)) (show F 8 1 = u8_1 from (eu8_1))
  have r5 : HID ((-2147483648 : Int) ≤ u10_1 ∧ u10_1 ≤ 2147483647) := krg_e (show (-2147483648 : Int) ≤ F 10 1 ∧ F 10 1 ≤ 2147483647 from H.krg 10 1 (by decide)) (show F 10 1 = u10_1 from (eu10_1))
  replace pf1 := HIDm pf1
  replace pf2 := HIDm pf2
  replace pf3 := HIDm pf3
  replace pf4 := HIDm pf4
  replace pf5 := HIDm pf5
  replace pf6 := HIDm pf6
  replace pf7 := HIDm pf7
  replace pf8 := HIDm pf8
  replace pf9 := HIDm pf9
  replace pf10 := HIDm pf10
  replace pf11 := HIDm pf11
  replace en1 := HIDm en1
  replace en3 := HIDm en3
  replace en5 := HIDm en5
  replace en7 := HIDm en7
  replace en9 := HIDm en9
  replace en11 := HIDm en11
  replace eu2_1 := HIDm eu2_1
  replace eu4_1 := HIDm eu4_1
  replace eu6_1 := HIDm eu6_1
  replace eu8_1 := HIDm eu8_1
  replace eu10_1 := HIDm eu10_1
  have r6 : HID ((0 : Int) ≤ n1 ∧ n1 ≤ 1000000) := nrng (H.nle 1 (by decide)) (show (N 1 : Int) = n1 from en1)
  have r7 : HID ((0 : Int) ≤ n3 ∧ n3 ≤ 1000000) := nrng (H.nle 3 (by decide)) (show (N 3 : Int) = n3 from en3)
  have r8 : HID ((0 : Int) ≤ n5 ∧ n5 ≤ 1000000) := nrng (H.nle 5 (by decide)) (show (N 5 : Int) = n5 from en5)
  have r9 : HID ((0 : Int) ≤ n7 ∧ n7 ≤ 1000000) := nrng (H.nle 7 (by decide)) (show (N 7 : Int) = n7 from en7)
  have r10 : HID ((0 : Int) ≤ n9 ∧ n9 ≤ 1000000) := nrng (H.nle 9 (by decide)) (show (N 9 : Int) = n9 from en9)
  have r11 : HID ((0 : Int) ≤ n11 ∧ n11 ≤ 1000000) := nrng (H.nle 11 (by decide)) (show (N 11 : Int) = n11 from en11)
  refine Ew_of (pcₚ := 338) (fun _ => x_aload_n rfl hl0) ?_
  refine v_g H (o := 0) (v := .ref (D 1)) rfl rfl rfl rfl rfl (vrf (pf1)) ?_
  refine Ew_of (pcₚ := 342) (fun _ => x_iload_n rfl hl1) ?_
  rcases (show x1 = 0 ∨ x1 = 1 ∨ x1 = 2 ∨ x1 = 3 by omega) with b12 | b12 | b12 | b12
  · refine v_lR H (o := 1) rfl rfl rfl rfl rfl (n := n1) (en1) (show 0 ≤ x1 ∧ x1 < n1 by have qh0 := HIDe r6; omega) (z := ((D 2 : Nat) : Int)) (v := .ref (D 2)) ((congrArg (A 1) b12).trans (pf2)) (vrf rfl) ?_
    refine Ew_of (pcₚ := 344) (fun _ => x_aload_n rfl hl0) ?_
    refine v_g H (o := 0) (v := .ref (D 10)) rfl rfl rfl rfl rfl (vrf (pf10)) ?_
    refine v_inv H (o := 2) rfl rfl rfl rfl rfl rfl (by rfl) (C158_Row (D := pul [2, 10, 3, 11] D) (N := pul [2, 10, 3, 11] N) (HW_sub H (VS_of (show vsub V17_vg V158_Row [2, 10, 3, 11] = true by decide +kernel))) (pf3) (pf11) (n3) (en3) (n11) (en11) (u2_1) ((eu2_1)) (u10_1) ((eu10_1)) (show 0 ≤ (u2_1) ∧ (u2_1) ≤ (n3) ∧ (n3) ≤ 65536 by have qh0 := HIDe r1; have qh1 := HIDe r7; omega) (show 0 ≤ (u10_1) ∧ (u10_1) ≤ (n11) ∧ (n11) ≤ 65536 by have qh0 := HIDe r11; have qh1 := HIDe r5; omega) (fun σ13 D13ₚ N13ₚ F13ₚ A13ₚ c13 s13 Hₚ Oₚ hD13 hN13 hS13 hA13 pm13_2 m13_2 em13_2 y13_0_1 ey13_0_1 pz13_0 pz13_1 => ⟨rfl, ?_⟩))
    replace pm13_2 := HIDm pm13_2
    replace em13_2 := HIDm em13_2
    replace ey13_0_1 := HIDm ey13_0_1
    refine v_backM (c := c) (s := s) H (show vsub V17_vg V158_Row [2, 10, 3, 11] = true by decide +kernel) Hₚ Oₚ hD13 (show vmov V17_vg [2, 10, 3, 11] [2] = true by decide +kernel) (fun D13 N13 F13 A13 H Oₚ eD13 eN13 eF13 eA13 => ?_)
    have O := OUT_trans O Oₚ
    -- Row.become
    have pe13_1_0 : HID (A13 1 0 = (D13 2 : Int)) := (congrFun ((show A13 1 = A 1 from (eA13 1))) 0).trans ((pf2).trans (congrArg (fun q : Nat => (q : Int)) ((show D13 2 = D 2 from (eD13 2).trans (hD13 0 rfl))).symm))
    have pe13_1_1 : HID (A13 1 1 = (D13 4 : Int)) := (congrFun ((show A13 1 = A 1 from (eA13 1))) 1).trans ((pf4).trans (congrArg (fun q : Nat => (q : Int)) ((show D13 4 = D 4 from (eD13 4))).symm))
    have pe13_1_2 : HID (A13 1 2 = (D13 6 : Int)) := (congrFun ((show A13 1 = A 1 from (eA13 1))) 2).trans ((pf6).trans (congrArg (fun q : Nat => (q : Int)) ((show D13 6 = D 6 from (eD13 6))).symm))
    have pe13_1_3 : HID (A13 1 3 = (D13 8 : Int)) := (congrFun ((show A13 1 = A 1 from (eA13 1))) 3).trans ((pf8).trans (congrArg (fun q : Nat => (q : Int)) ((show D13 8 = D 8 from (eD13 8))).symm))
    have pf13_0_0 : HID (F13 0 0 = (D13 1 : Int)) := ((show F13 0 0 = F 0 0 from (eF13 0 0))).trans ((pf1).trans (congrArg (fun q : Nat => (q : Int)) ((show D13 1 = D 1 from (eD13 1))).symm))
    have pf13_0_5 : HID (F13 0 5 = (D13 10 : Int)) := ((show F13 0 5 = F 0 5 from (eF13 0 5))).trans ((pf10).trans (congrArg (fun q : Nat => (q : Int)) ((show D13 10 = D 10 from (eD13 10).trans (hD13 1 rfl))).symm))
    have pf13_10_0 : HID (F13 10 0 = (D13 11 : Int)) := ((show F13 10 0 = F 10 0 from (eF13 10 0).trans (hS13 1 0 rfl))).trans ((pf11).trans (congrArg (fun q : Nat => (q : Int)) ((show D13 11 = D 11 from (eD13 11).trans (hD13 3 rfl))).symm))
    have pf13_2_0 : HID (F13 2 0 = (D13 3 : Int)) := (eF13 2 0).trans (pm13_2.trans (congrArg (fun q : Nat => (q : Int)) (eD13 3).symm))
    have pf13_4_0 : HID (F13 4 0 = (D13 5 : Int)) := ((show F13 4 0 = F 4 0 from (eF13 4 0))).trans ((pf5).trans (congrArg (fun q : Nat => (q : Int)) ((show D13 5 = D 5 from (eD13 5))).symm))
    have pf13_6_0 : HID (F13 6 0 = (D13 7 : Int)) := ((show F13 6 0 = F 6 0 from (eF13 6 0))).trans ((pf7).trans (congrArg (fun q : Nat => (q : Int)) ((show D13 7 = D 7 from (eD13 7))).symm))
    have pf13_8_0 : HID (F13 8 0 = (D13 9 : Int)) := ((show F13 8 0 = F 8 0 from (eF13 8 0))).trans ((pf9).trans (congrArg (fun q : Nat => (q : Int)) ((show D13 9 = D 9 from (eD13 9))).symm))
    have r14 : HID ((0 : Int) ≤ m13_2 ∧ m13_2 ≤ 1000000) := nrng (H.nle 3 (by decide)) (show (N13 3 : Int) = m13_2 from (congrArg (fun q : Nat => (q : Int)) (eN13 3)).trans em13_2)
    have r15 : HID ((-2147483648 : Int) ≤ y13_0_1 ∧ y13_0_1 ≤ 2147483647) := krg_e (show (-2147483648 : Int) ≤ F13 2 1 ∧ F13 2 1 ≤ 2147483647 from H.krg 2 1 (by decide)) (show F13 2 1 = y13_0_1 from ((eF13 2 1).trans ey13_0_1))
    refine Ew_of (pcₚ := 351) (fun _ => x_aload_n rfl hl0) ?_
    refine Ew_stk (show ([.ref (D 0)] : List Value) = [.ref (D13 0)] by rw [show D13 0 = D 0 from ((show D13 0 = D 0 from (eD13 0)))]) ?_
    refine v_g H (o := 0) (v := .ref (D13 10)) rfl rfl rfl rfl rfl (vrf (pf13_0_5)) ?_
    refine v_g H (o := 10) (v := I (u10_1)) rfl rfl rfl rfl rfl (congrArg (fun z : Int => I z) ((((show F13 10 1 = F 10 1 from (eF13 10 1).trans (hS13 1 1 rfl))).trans (eu10_1)) : F13 10 1 = u10_1)) ?_
    exact w_ireturn rfl (k (u10_1) _ _ _ _ _ _ _ H O (SD_trans (SD_refl) (SD_glu (ι := [2, 10, 3, 11]) hD13 eD13 (by decide +kernel)) (any_subA (lₚ := [3]) rfl)) (SD_trans (SD_refl) (SD_glu (ι := [2, 10, 3, 11]) hN13 eN13 (by decide +kernel)) (any_subA (lₚ := [3]) rfl)) (SF_trans (SF_refl) (SF_glu (ι := [2, 10, 3, 11]) hS13 eF13 (by decide +kernel)) (any_sub (lₚ := [(2, 0), (2, 1), (2, 2), (2, 3), (2, 4)]) rfl)) (SA_trans (SA_refl) (SA_glu (ι := [2, 10, 3, 11]) hA13 eA13 (by decide +kernel)) (any_subA (lₚ := [3]) rfl)) (pf13_2_0) (pf13_4_0) (pf13_6_0) (pf13_8_0) (m13_2) ((congrArg (fun q : Nat => (q : Int)) (eN13 3)).trans em13_2) (n5) ((congrArg (fun q : Nat => (q : Int)) (show N13 5 = N 5 from (eN13 5))).trans (en5)) (n7) ((congrArg (fun q : Nat => (q : Int)) (show N13 7 = N 7 from (eN13 7))).trans (en7)) (n9) ((congrArg (fun q : Nat => (q : Int)) (show N13 9 = N 9 from (eN13 9))).trans (en9)) (y13_0_1) (((eF13 2 1).trans ey13_0_1)) (u4_1) ((((show F13 4 1 = F 4 1 from (eF13 4 1))).trans (eu4_1))) (u6_1) ((((show F13 6 1 = F 6 1 from (eF13 6 1))).trans (eu6_1))) (u8_1) ((((show F13 8 1 = F 8 1 from (eF13 8 1))).trans (eu8_1))) (show inr (u10_1) by have qh0 := HIDe r5; omega) (show 0 ≤ (y13_0_1) ∧ (y13_0_1) ≤ (m13_2) ∧ (m13_2) ≤ 65536 by have qh0 := HIDe r14; have qh1 := HIDe r15; omega) (show 0 ≤ (u4_1) ∧ (u4_1) ≤ (n5) ∧ (n5) ≤ 65536 by have qh0 := HIDe r2; have qh1 := HIDe r8; omega) (show 0 ≤ (u6_1) ∧ (u6_1) ≤ (n7) ∧ (n7) ≤ 65536 by have qh0 := HIDe r3; have qh1 := HIDe r9; omega) (show 0 ≤ (u8_1) ∧ (u8_1) ≤ (n9) ∧ (n9) ≤ 65536 by have qh0 := HIDe r10; have qh1 := HIDe r4; omega) (show 0 ≤ (u10_1) ∧ (u10_1) ≤ (n11) ∧ (n11) ≤ 65536 by have qh0 := HIDe r11; have qh1 := HIDe r5; omega))
  · refine v_lR H (o := 1) rfl rfl rfl rfl rfl (n := n1) (en1) (show 0 ≤ x1 ∧ x1 < n1 by have qh0 := HIDe r6; omega) (z := ((D 4 : Nat) : Int)) (v := .ref (D 4)) ((congrArg (A 1) b12).trans (pf4)) (vrf rfl) ?_
    refine Ew_of (pcₚ := 344) (fun _ => x_aload_n rfl hl0) ?_
    refine v_g H (o := 0) (v := .ref (D 10)) rfl rfl rfl rfl rfl (vrf (pf10)) ?_
    refine v_inv H (o := 4) rfl rfl rfl rfl rfl rfl (by rfl) (C158_Row (D := pul [4, 10, 5, 11] D) (N := pul [4, 10, 5, 11] N) (HW_sub H (VS_of (show vsub V17_vg V158_Row [4, 10, 5, 11] = true by decide +kernel))) (pf5) (pf11) (n5) (en5) (n11) (en11) (u4_1) ((eu4_1)) (u10_1) ((eu10_1)) (show 0 ≤ (u4_1) ∧ (u4_1) ≤ (n5) ∧ (n5) ≤ 65536 by have qh0 := HIDe r2; have qh1 := HIDe r8; omega) (show 0 ≤ (u10_1) ∧ (u10_1) ≤ (n11) ∧ (n11) ≤ 65536 by have qh0 := HIDe r11; have qh1 := HIDe r5; omega) (fun σ16 D16ₚ N16ₚ F16ₚ A16ₚ c16 s16 Hₚ Oₚ hD16 hN16 hS16 hA16 pm16_2 m16_2 em16_2 y16_0_1 ey16_0_1 pz16_0 pz16_1 => ⟨rfl, ?_⟩))
    replace pm16_2 := HIDm pm16_2
    replace em16_2 := HIDm em16_2
    replace ey16_0_1 := HIDm ey16_0_1
    refine v_backM (c := c) (s := s) H (show vsub V17_vg V158_Row [4, 10, 5, 11] = true by decide +kernel) Hₚ Oₚ hD16 (show vmov V17_vg [4, 10, 5, 11] [2] = true by decide +kernel) (fun D16 N16 F16 A16 H Oₚ eD16 eN16 eF16 eA16 => ?_)
    have O := OUT_trans O Oₚ
    -- Row.become
    have pe16_1_0 : HID (A16 1 0 = (D16 2 : Int)) := (congrFun ((show A16 1 = A 1 from (eA16 1))) 0).trans ((pf2).trans (congrArg (fun q : Nat => (q : Int)) ((show D16 2 = D 2 from (eD16 2))).symm))
    have pe16_1_1 : HID (A16 1 1 = (D16 4 : Int)) := (congrFun ((show A16 1 = A 1 from (eA16 1))) 1).trans ((pf4).trans (congrArg (fun q : Nat => (q : Int)) ((show D16 4 = D 4 from (eD16 4).trans (hD16 0 rfl))).symm))
    have pe16_1_2 : HID (A16 1 2 = (D16 6 : Int)) := (congrFun ((show A16 1 = A 1 from (eA16 1))) 2).trans ((pf6).trans (congrArg (fun q : Nat => (q : Int)) ((show D16 6 = D 6 from (eD16 6))).symm))
    have pe16_1_3 : HID (A16 1 3 = (D16 8 : Int)) := (congrFun ((show A16 1 = A 1 from (eA16 1))) 3).trans ((pf8).trans (congrArg (fun q : Nat => (q : Int)) ((show D16 8 = D 8 from (eD16 8))).symm))
    have pf16_0_0 : HID (F16 0 0 = (D16 1 : Int)) := ((show F16 0 0 = F 0 0 from (eF16 0 0))).trans ((pf1).trans (congrArg (fun q : Nat => (q : Int)) ((show D16 1 = D 1 from (eD16 1))).symm))
    have pf16_0_5 : HID (F16 0 5 = (D16 10 : Int)) := ((show F16 0 5 = F 0 5 from (eF16 0 5))).trans ((pf10).trans (congrArg (fun q : Nat => (q : Int)) ((show D16 10 = D 10 from (eD16 10).trans (hD16 1 rfl))).symm))
    have pf16_10_0 : HID (F16 10 0 = (D16 11 : Int)) := ((show F16 10 0 = F 10 0 from (eF16 10 0).trans (hS16 1 0 rfl))).trans ((pf11).trans (congrArg (fun q : Nat => (q : Int)) ((show D16 11 = D 11 from (eD16 11).trans (hD16 3 rfl))).symm))
    have pf16_2_0 : HID (F16 2 0 = (D16 3 : Int)) := ((show F16 2 0 = F 2 0 from (eF16 2 0))).trans ((pf3).trans (congrArg (fun q : Nat => (q : Int)) ((show D16 3 = D 3 from (eD16 3))).symm))
    have pf16_4_0 : HID (F16 4 0 = (D16 5 : Int)) := (eF16 4 0).trans (pm16_2.trans (congrArg (fun q : Nat => (q : Int)) (eD16 5).symm))
    have pf16_6_0 : HID (F16 6 0 = (D16 7 : Int)) := ((show F16 6 0 = F 6 0 from (eF16 6 0))).trans ((pf7).trans (congrArg (fun q : Nat => (q : Int)) ((show D16 7 = D 7 from (eD16 7))).symm))
    have pf16_8_0 : HID (F16 8 0 = (D16 9 : Int)) := ((show F16 8 0 = F 8 0 from (eF16 8 0))).trans ((pf9).trans (congrArg (fun q : Nat => (q : Int)) ((show D16 9 = D 9 from (eD16 9))).symm))
    have r17 : HID ((0 : Int) ≤ m16_2 ∧ m16_2 ≤ 1000000) := nrng (H.nle 5 (by decide)) (show (N16 5 : Int) = m16_2 from (congrArg (fun q : Nat => (q : Int)) (eN16 5)).trans em16_2)
    have r18 : HID ((-2147483648 : Int) ≤ y16_0_1 ∧ y16_0_1 ≤ 2147483647) := krg_e (show (-2147483648 : Int) ≤ F16 4 1 ∧ F16 4 1 ≤ 2147483647 from H.krg 4 1 (by decide)) (show F16 4 1 = y16_0_1 from ((eF16 4 1).trans ey16_0_1))
    refine Ew_of (pcₚ := 351) (fun _ => x_aload_n rfl hl0) ?_
    refine Ew_stk (show ([.ref (D 0)] : List Value) = [.ref (D16 0)] by rw [show D16 0 = D 0 from ((show D16 0 = D 0 from (eD16 0)))]) ?_
    refine v_g H (o := 0) (v := .ref (D16 10)) rfl rfl rfl rfl rfl (vrf (pf16_0_5)) ?_
    refine v_g H (o := 10) (v := I (u10_1)) rfl rfl rfl rfl rfl (congrArg (fun z : Int => I z) ((((show F16 10 1 = F 10 1 from (eF16 10 1).trans (hS16 1 1 rfl))).trans (eu10_1)) : F16 10 1 = u10_1)) ?_
    exact w_ireturn rfl (k (u10_1) _ _ _ _ _ _ _ H O (SD_trans (SD_refl) (SD_glu (ι := [4, 10, 5, 11]) hD16 eD16 (by decide +kernel)) (any_subA (lₚ := [5]) rfl)) (SD_trans (SD_refl) (SD_glu (ι := [4, 10, 5, 11]) hN16 eN16 (by decide +kernel)) (any_subA (lₚ := [5]) rfl)) (SF_trans (SF_refl) (SF_glu (ι := [4, 10, 5, 11]) hS16 eF16 (by decide +kernel)) (any_sub (lₚ := [(4, 0), (4, 1), (4, 2), (4, 3), (4, 4)]) rfl)) (SA_trans (SA_refl) (SA_glu (ι := [4, 10, 5, 11]) hA16 eA16 (by decide +kernel)) (any_subA (lₚ := [5]) rfl)) (pf16_2_0) (pf16_4_0) (pf16_6_0) (pf16_8_0) (n3) ((congrArg (fun q : Nat => (q : Int)) (show N16 3 = N 3 from (eN16 3))).trans (en3)) (m16_2) ((congrArg (fun q : Nat => (q : Int)) (eN16 5)).trans em16_2) (n7) ((congrArg (fun q : Nat => (q : Int)) (show N16 7 = N 7 from (eN16 7))).trans (en7)) (n9) ((congrArg (fun q : Nat => (q : Int)) (show N16 9 = N 9 from (eN16 9))).trans (en9)) (u2_1) ((((show F16 2 1 = F 2 1 from (eF16 2 1))).trans (eu2_1))) (y16_0_1) (((eF16 4 1).trans ey16_0_1)) (u6_1) ((((show F16 6 1 = F 6 1 from (eF16 6 1))).trans (eu6_1))) (u8_1) ((((show F16 8 1 = F 8 1 from (eF16 8 1))).trans (eu8_1))) (show inr (u10_1) by have qh0 := HIDe r5; omega) (show 0 ≤ (u2_1) ∧ (u2_1) ≤ (n3) ∧ (n3) ≤ 65536 by have qh0 := HIDe r1; have qh1 := HIDe r7; omega) (show 0 ≤ (y16_0_1) ∧ (y16_0_1) ≤ (m16_2) ∧ (m16_2) ≤ 65536 by have qh0 := HIDe r17; have qh1 := HIDe r18; omega) (show 0 ≤ (u6_1) ∧ (u6_1) ≤ (n7) ∧ (n7) ≤ 65536 by have qh0 := HIDe r3; have qh1 := HIDe r9; omega) (show 0 ≤ (u8_1) ∧ (u8_1) ≤ (n9) ∧ (n9) ≤ 65536 by have qh0 := HIDe r10; have qh1 := HIDe r4; omega) (show 0 ≤ (u10_1) ∧ (u10_1) ≤ (n11) ∧ (n11) ≤ 65536 by have qh0 := HIDe r11; have qh1 := HIDe r5; omega))
  · refine v_lR H (o := 1) rfl rfl rfl rfl rfl (n := n1) (en1) (show 0 ≤ x1 ∧ x1 < n1 by have qh0 := HIDe r6; omega) (z := ((D 6 : Nat) : Int)) (v := .ref (D 6)) ((congrArg (A 1) b12).trans (pf6)) (vrf rfl) ?_
    refine Ew_of (pcₚ := 344) (fun _ => x_aload_n rfl hl0) ?_
    refine v_g H (o := 0) (v := .ref (D 10)) rfl rfl rfl rfl rfl (vrf (pf10)) ?_
    refine v_inv H (o := 6) rfl rfl rfl rfl rfl rfl (by rfl) (C158_Row (D := pul [6, 10, 7, 11] D) (N := pul [6, 10, 7, 11] N) (HW_sub H (VS_of (show vsub V17_vg V158_Row [6, 10, 7, 11] = true by decide +kernel))) (pf7) (pf11) (n7) (en7) (n11) (en11) (u6_1) ((eu6_1)) (u10_1) ((eu10_1)) (show 0 ≤ (u6_1) ∧ (u6_1) ≤ (n7) ∧ (n7) ≤ 65536 by have qh0 := HIDe r3; have qh1 := HIDe r9; omega) (show 0 ≤ (u10_1) ∧ (u10_1) ≤ (n11) ∧ (n11) ≤ 65536 by have qh0 := HIDe r11; have qh1 := HIDe r5; omega) (fun σ19 D19ₚ N19ₚ F19ₚ A19ₚ c19 s19 Hₚ Oₚ hD19 hN19 hS19 hA19 pm19_2 m19_2 em19_2 y19_0_1 ey19_0_1 pz19_0 pz19_1 => ⟨rfl, ?_⟩))
    replace pm19_2 := HIDm pm19_2
    replace em19_2 := HIDm em19_2
    replace ey19_0_1 := HIDm ey19_0_1
    refine v_backM (c := c) (s := s) H (show vsub V17_vg V158_Row [6, 10, 7, 11] = true by decide +kernel) Hₚ Oₚ hD19 (show vmov V17_vg [6, 10, 7, 11] [2] = true by decide +kernel) (fun D19 N19 F19 A19 H Oₚ eD19 eN19 eF19 eA19 => ?_)
    have O := OUT_trans O Oₚ
    -- Row.become
    have pe19_1_0 : HID (A19 1 0 = (D19 2 : Int)) := (congrFun ((show A19 1 = A 1 from (eA19 1))) 0).trans ((pf2).trans (congrArg (fun q : Nat => (q : Int)) ((show D19 2 = D 2 from (eD19 2))).symm))
    have pe19_1_1 : HID (A19 1 1 = (D19 4 : Int)) := (congrFun ((show A19 1 = A 1 from (eA19 1))) 1).trans ((pf4).trans (congrArg (fun q : Nat => (q : Int)) ((show D19 4 = D 4 from (eD19 4))).symm))
    have pe19_1_2 : HID (A19 1 2 = (D19 6 : Int)) := (congrFun ((show A19 1 = A 1 from (eA19 1))) 2).trans ((pf6).trans (congrArg (fun q : Nat => (q : Int)) ((show D19 6 = D 6 from (eD19 6).trans (hD19 0 rfl))).symm))
    have pe19_1_3 : HID (A19 1 3 = (D19 8 : Int)) := (congrFun ((show A19 1 = A 1 from (eA19 1))) 3).trans ((pf8).trans (congrArg (fun q : Nat => (q : Int)) ((show D19 8 = D 8 from (eD19 8))).symm))
    have pf19_0_0 : HID (F19 0 0 = (D19 1 : Int)) := ((show F19 0 0 = F 0 0 from (eF19 0 0))).trans ((pf1).trans (congrArg (fun q : Nat => (q : Int)) ((show D19 1 = D 1 from (eD19 1))).symm))
    have pf19_0_5 : HID (F19 0 5 = (D19 10 : Int)) := ((show F19 0 5 = F 0 5 from (eF19 0 5))).trans ((pf10).trans (congrArg (fun q : Nat => (q : Int)) ((show D19 10 = D 10 from (eD19 10).trans (hD19 1 rfl))).symm))
    have pf19_10_0 : HID (F19 10 0 = (D19 11 : Int)) := ((show F19 10 0 = F 10 0 from (eF19 10 0).trans (hS19 1 0 rfl))).trans ((pf11).trans (congrArg (fun q : Nat => (q : Int)) ((show D19 11 = D 11 from (eD19 11).trans (hD19 3 rfl))).symm))
    have pf19_2_0 : HID (F19 2 0 = (D19 3 : Int)) := ((show F19 2 0 = F 2 0 from (eF19 2 0))).trans ((pf3).trans (congrArg (fun q : Nat => (q : Int)) ((show D19 3 = D 3 from (eD19 3))).symm))
    have pf19_4_0 : HID (F19 4 0 = (D19 5 : Int)) := ((show F19 4 0 = F 4 0 from (eF19 4 0))).trans ((pf5).trans (congrArg (fun q : Nat => (q : Int)) ((show D19 5 = D 5 from (eD19 5))).symm))
    have pf19_6_0 : HID (F19 6 0 = (D19 7 : Int)) := (eF19 6 0).trans (pm19_2.trans (congrArg (fun q : Nat => (q : Int)) (eD19 7).symm))
    have pf19_8_0 : HID (F19 8 0 = (D19 9 : Int)) := ((show F19 8 0 = F 8 0 from (eF19 8 0))).trans ((pf9).trans (congrArg (fun q : Nat => (q : Int)) ((show D19 9 = D 9 from (eD19 9))).symm))
    have r20 : HID ((0 : Int) ≤ m19_2 ∧ m19_2 ≤ 1000000) := nrng (H.nle 7 (by decide)) (show (N19 7 : Int) = m19_2 from (congrArg (fun q : Nat => (q : Int)) (eN19 7)).trans em19_2)
    have r21 : HID ((-2147483648 : Int) ≤ y19_0_1 ∧ y19_0_1 ≤ 2147483647) := krg_e (show (-2147483648 : Int) ≤ F19 6 1 ∧ F19 6 1 ≤ 2147483647 from H.krg 6 1 (by decide)) (show F19 6 1 = y19_0_1 from ((eF19 6 1).trans ey19_0_1))
    refine Ew_of (pcₚ := 351) (fun _ => x_aload_n rfl hl0) ?_
    refine Ew_stk (show ([.ref (D 0)] : List Value) = [.ref (D19 0)] by rw [show D19 0 = D 0 from ((show D19 0 = D 0 from (eD19 0)))]) ?_
    refine v_g H (o := 0) (v := .ref (D19 10)) rfl rfl rfl rfl rfl (vrf (pf19_0_5)) ?_
    refine v_g H (o := 10) (v := I (u10_1)) rfl rfl rfl rfl rfl (congrArg (fun z : Int => I z) ((((show F19 10 1 = F 10 1 from (eF19 10 1).trans (hS19 1 1 rfl))).trans (eu10_1)) : F19 10 1 = u10_1)) ?_
    exact w_ireturn rfl (k (u10_1) _ _ _ _ _ _ _ H O (SD_trans (SD_refl) (SD_glu (ι := [6, 10, 7, 11]) hD19 eD19 (by decide +kernel)) (any_subA (lₚ := [7]) rfl)) (SD_trans (SD_refl) (SD_glu (ι := [6, 10, 7, 11]) hN19 eN19 (by decide +kernel)) (any_subA (lₚ := [7]) rfl)) (SF_trans (SF_refl) (SF_glu (ι := [6, 10, 7, 11]) hS19 eF19 (by decide +kernel)) (any_sub (lₚ := [(6, 0), (6, 1), (6, 2), (6, 3), (6, 4)]) rfl)) (SA_trans (SA_refl) (SA_glu (ι := [6, 10, 7, 11]) hA19 eA19 (by decide +kernel)) (any_subA (lₚ := [7]) rfl)) (pf19_2_0) (pf19_4_0) (pf19_6_0) (pf19_8_0) (n3) ((congrArg (fun q : Nat => (q : Int)) (show N19 3 = N 3 from (eN19 3))).trans (en3)) (n5) ((congrArg (fun q : Nat => (q : Int)) (show N19 5 = N 5 from (eN19 5))).trans (en5)) (m19_2) ((congrArg (fun q : Nat => (q : Int)) (eN19 7)).trans em19_2) (n9) ((congrArg (fun q : Nat => (q : Int)) (show N19 9 = N 9 from (eN19 9))).trans (en9)) (u2_1) ((((show F19 2 1 = F 2 1 from (eF19 2 1))).trans (eu2_1))) (u4_1) ((((show F19 4 1 = F 4 1 from (eF19 4 1))).trans (eu4_1))) (y19_0_1) (((eF19 6 1).trans ey19_0_1)) (u8_1) ((((show F19 8 1 = F 8 1 from (eF19 8 1))).trans (eu8_1))) (show inr (u10_1) by have qh0 := HIDe r5; omega) (show 0 ≤ (u2_1) ∧ (u2_1) ≤ (n3) ∧ (n3) ≤ 65536 by have qh0 := HIDe r1; have qh1 := HIDe r7; omega) (show 0 ≤ (u4_1) ∧ (u4_1) ≤ (n5) ∧ (n5) ≤ 65536 by have qh0 := HIDe r2; have qh1 := HIDe r8; omega) (show 0 ≤ (y19_0_1) ∧ (y19_0_1) ≤ (m19_2) ∧ (m19_2) ≤ 65536 by have qh0 := HIDe r20; have qh1 := HIDe r21; omega) (show 0 ≤ (u8_1) ∧ (u8_1) ≤ (n9) ∧ (n9) ≤ 65536 by have qh0 := HIDe r10; have qh1 := HIDe r4; omega) (show 0 ≤ (u10_1) ∧ (u10_1) ≤ (n11) ∧ (n11) ≤ 65536 by have qh0 := HIDe r11; have qh1 := HIDe r5; omega))
  · refine v_lR H (o := 1) rfl rfl rfl rfl rfl (n := n1) (en1) (show 0 ≤ x1 ∧ x1 < n1 by have qh0 := HIDe r6; omega) (z := ((D 8 : Nat) : Int)) (v := .ref (D 8)) ((congrArg (A 1) b12).trans (pf8)) (vrf rfl) ?_
    refine Ew_of (pcₚ := 344) (fun _ => x_aload_n rfl hl0) ?_
    refine v_g H (o := 0) (v := .ref (D 10)) rfl rfl rfl rfl rfl (vrf (pf10)) ?_
    refine v_inv H (o := 8) rfl rfl rfl rfl rfl rfl (by rfl) (C158_Row (D := pul [8, 10, 9, 11] D) (N := pul [8, 10, 9, 11] N) (HW_sub H (VS_of (show vsub V17_vg V158_Row [8, 10, 9, 11] = true by decide +kernel))) (pf9) (pf11) (n9) (en9) (n11) (en11) (u8_1) ((eu8_1)) (u10_1) ((eu10_1)) (show 0 ≤ (u8_1) ∧ (u8_1) ≤ (n9) ∧ (n9) ≤ 65536 by have qh0 := HIDe r10; have qh1 := HIDe r4; omega) (show 0 ≤ (u10_1) ∧ (u10_1) ≤ (n11) ∧ (n11) ≤ 65536 by have qh0 := HIDe r11; have qh1 := HIDe r5; omega) (fun σ22 D22ₚ N22ₚ F22ₚ A22ₚ c22 s22 Hₚ Oₚ hD22 hN22 hS22 hA22 pm22_2 m22_2 em22_2 y22_0_1 ey22_0_1 pz22_0 pz22_1 => ⟨rfl, ?_⟩))
    replace pm22_2 := HIDm pm22_2
    replace em22_2 := HIDm em22_2
    replace ey22_0_1 := HIDm ey22_0_1
    refine v_backM (c := c) (s := s) H (show vsub V17_vg V158_Row [8, 10, 9, 11] = true by decide +kernel) Hₚ Oₚ hD22 (show vmov V17_vg [8, 10, 9, 11] [2] = true by decide +kernel) (fun D22 N22 F22 A22 H Oₚ eD22 eN22 eF22 eA22 => ?_)
    have O := OUT_trans O Oₚ
    -- Row.become
    have pe22_1_0 : HID (A22 1 0 = (D22 2 : Int)) := (congrFun ((show A22 1 = A 1 from (eA22 1))) 0).trans ((pf2).trans (congrArg (fun q : Nat => (q : Int)) ((show D22 2 = D 2 from (eD22 2))).symm))
    have pe22_1_1 : HID (A22 1 1 = (D22 4 : Int)) := (congrFun ((show A22 1 = A 1 from (eA22 1))) 1).trans ((pf4).trans (congrArg (fun q : Nat => (q : Int)) ((show D22 4 = D 4 from (eD22 4))).symm))
    have pe22_1_2 : HID (A22 1 2 = (D22 6 : Int)) := (congrFun ((show A22 1 = A 1 from (eA22 1))) 2).trans ((pf6).trans (congrArg (fun q : Nat => (q : Int)) ((show D22 6 = D 6 from (eD22 6))).symm))
    have pe22_1_3 : HID (A22 1 3 = (D22 8 : Int)) := (congrFun ((show A22 1 = A 1 from (eA22 1))) 3).trans ((pf8).trans (congrArg (fun q : Nat => (q : Int)) ((show D22 8 = D 8 from (eD22 8).trans (hD22 0 rfl))).symm))
    have pf22_0_0 : HID (F22 0 0 = (D22 1 : Int)) := ((show F22 0 0 = F 0 0 from (eF22 0 0))).trans ((pf1).trans (congrArg (fun q : Nat => (q : Int)) ((show D22 1 = D 1 from (eD22 1))).symm))
    have pf22_0_5 : HID (F22 0 5 = (D22 10 : Int)) := ((show F22 0 5 = F 0 5 from (eF22 0 5))).trans ((pf10).trans (congrArg (fun q : Nat => (q : Int)) ((show D22 10 = D 10 from (eD22 10).trans (hD22 1 rfl))).symm))
    have pf22_10_0 : HID (F22 10 0 = (D22 11 : Int)) := ((show F22 10 0 = F 10 0 from (eF22 10 0).trans (hS22 1 0 rfl))).trans ((pf11).trans (congrArg (fun q : Nat => (q : Int)) ((show D22 11 = D 11 from (eD22 11).trans (hD22 3 rfl))).symm))
    have pf22_2_0 : HID (F22 2 0 = (D22 3 : Int)) := ((show F22 2 0 = F 2 0 from (eF22 2 0))).trans ((pf3).trans (congrArg (fun q : Nat => (q : Int)) ((show D22 3 = D 3 from (eD22 3))).symm))
    have pf22_4_0 : HID (F22 4 0 = (D22 5 : Int)) := ((show F22 4 0 = F 4 0 from (eF22 4 0))).trans ((pf5).trans (congrArg (fun q : Nat => (q : Int)) ((show D22 5 = D 5 from (eD22 5))).symm))
    have pf22_6_0 : HID (F22 6 0 = (D22 7 : Int)) := ((show F22 6 0 = F 6 0 from (eF22 6 0))).trans ((pf7).trans (congrArg (fun q : Nat => (q : Int)) ((show D22 7 = D 7 from (eD22 7))).symm))
    have pf22_8_0 : HID (F22 8 0 = (D22 9 : Int)) := (eF22 8 0).trans (pm22_2.trans (congrArg (fun q : Nat => (q : Int)) (eD22 9).symm))
    have r23 : HID ((0 : Int) ≤ m22_2 ∧ m22_2 ≤ 1000000) := nrng (H.nle 9 (by decide)) (show (N22 9 : Int) = m22_2 from (congrArg (fun q : Nat => (q : Int)) (eN22 9)).trans em22_2)
    have r24 : HID ((-2147483648 : Int) ≤ y22_0_1 ∧ y22_0_1 ≤ 2147483647) := krg_e (show (-2147483648 : Int) ≤ F22 8 1 ∧ F22 8 1 ≤ 2147483647 from H.krg 8 1 (by decide)) (show F22 8 1 = y22_0_1 from ((eF22 8 1).trans ey22_0_1))
    refine Ew_of (pcₚ := 351) (fun _ => x_aload_n rfl hl0) ?_
    refine Ew_stk (show ([.ref (D 0)] : List Value) = [.ref (D22 0)] by rw [show D22 0 = D 0 from ((show D22 0 = D 0 from (eD22 0)))]) ?_
    refine v_g H (o := 0) (v := .ref (D22 10)) rfl rfl rfl rfl rfl (vrf (pf22_0_5)) ?_
    refine v_g H (o := 10) (v := I (u10_1)) rfl rfl rfl rfl rfl (congrArg (fun z : Int => I z) ((((show F22 10 1 = F 10 1 from (eF22 10 1).trans (hS22 1 1 rfl))).trans (eu10_1)) : F22 10 1 = u10_1)) ?_
    exact w_ireturn rfl (k (u10_1) _ _ _ _ _ _ _ H O (SD_trans (SD_refl) (SD_glu (ι := [8, 10, 9, 11]) hD22 eD22 (by decide +kernel)) (any_subA (lₚ := [9]) rfl)) (SD_trans (SD_refl) (SD_glu (ι := [8, 10, 9, 11]) hN22 eN22 (by decide +kernel)) (any_subA (lₚ := [9]) rfl)) (SF_trans (SF_refl) (SF_glu (ι := [8, 10, 9, 11]) hS22 eF22 (by decide +kernel)) (any_sub (lₚ := [(8, 0), (8, 1), (8, 2), (8, 3), (8, 4)]) rfl)) (SA_trans (SA_refl) (SA_glu (ι := [8, 10, 9, 11]) hA22 eA22 (by decide +kernel)) (any_subA (lₚ := [9]) rfl)) (pf22_2_0) (pf22_4_0) (pf22_6_0) (pf22_8_0) (n3) ((congrArg (fun q : Nat => (q : Int)) (show N22 3 = N 3 from (eN22 3))).trans (en3)) (n5) ((congrArg (fun q : Nat => (q : Int)) (show N22 5 = N 5 from (eN22 5))).trans (en5)) (n7) ((congrArg (fun q : Nat => (q : Int)) (show N22 7 = N 7 from (eN22 7))).trans (en7)) (m22_2) ((congrArg (fun q : Nat => (q : Int)) (eN22 9)).trans em22_2) (u2_1) ((((show F22 2 1 = F 2 1 from (eF22 2 1))).trans (eu2_1))) (u4_1) ((((show F22 4 1 = F 4 1 from (eF22 4 1))).trans (eu4_1))) (u6_1) ((((show F22 6 1 = F 6 1 from (eF22 6 1))).trans (eu6_1))) (y22_0_1) (((eF22 8 1).trans ey22_0_1)) (show inr (u10_1) by have qh0 := HIDe r5; omega) (show 0 ≤ (u2_1) ∧ (u2_1) ≤ (n3) ∧ (n3) ≤ 65536 by have qh0 := HIDe r1; have qh1 := HIDe r7; omega) (show 0 ≤ (u4_1) ∧ (u4_1) ≤ (n5) ∧ (n5) ≤ 65536 by have qh0 := HIDe r2; have qh1 := HIDe r8; omega) (show 0 ≤ (u6_1) ∧ (u6_1) ≤ (n7) ∧ (n7) ≤ 65536 by have qh0 := HIDe r3; have qh1 := HIDe r9; omega) (show 0 ≤ (y22_0_1) ∧ (y22_0_1) ≤ (m22_2) ∧ (m22_2) ≤ 65536 by have qh0 := HIDe r23; have qh1 := HIDe r24; omega) (show 0 ≤ (u10_1) ∧ (u10_1) ≤ (n11) ∧ (n11) ≤ 65536 by have qh0 := HIDe r11; have qh1 := HIDe r5; omega))
