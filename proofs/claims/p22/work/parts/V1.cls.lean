abbrev V32_Row_Ir_c24_va4 : vV := [(0, 0, [(4, 0), (4, 0), (4, 0), (4, 0), (4, 0), (4, 0), (4, 0), (4, 0), (4, 0), (4, 0), (4, 0), (4, 0), (4, 0), (4, 0), (4, 0), (4, 0), (4, 0), (0, 0), (0, 0)]), (0, 7, [(4, 0), (0, 0), (1, 0), (0, 0), (0, 0)]), (1, 1, []), (1, 0, []), (0, 7, [(4, 0), (0, 0), (1, 0), (0, 0), (0, 0)]), (1, 0, [])]
theorem len_V32_Row_Ir_c24_va4_oz_V1cls : (V32_Row_Ir_c24_va4).length = 6 := by decide +kernel
theorem oz_V1cls_1 : vsub V32_Row_Ir_c24_va4 V156 [4] = true := by decide +kernel
def oz_V1clsl_0 : List (Nat × Nat) := [(4, 1), (4, 2), (4, 3), (4, 4)]
theorem oz_V1cls_2 : (oz_V1clsl_0).all (fun p => !tbz 10208471007628153903901238222953046343680 (Nat.add (Nat.mul 32 p.1) p.2)) = true := by decide +kernel
def oz_V1clsl_1 : List Nat := []
theorem oz_V1cls_3 : (oz_V1clsl_1).all (fun p => !tbz 0 p) = true := by decide +kernel
def oz_V1clsl_2 : List Nat := [4]
theorem oz_V1cls_4 : okc oz_V1clsl_2 4 = true := by decide +kernel
/-- PackHouse.unpackRow: this, #1, #2, #1.bytes, this.content, this.content.bytes -/
theorem C32_Row_Ir_c24_va4 {σE : rS} {D N : Nat → Nat} {F : hF} {A : hA} {d c s : Nat} {Q : wQ} (H : HW V32_Row_Ir_c24_va4 σE D N F A) {a3 : Int} (pf3 : HID (F 1 0 = (D 3 : Int))) (pf4 : HID (F 0 6 = (D 4 : Int))) (pf5 : HID (F 4 0 = (D 5 : Int))) (n2 : Int) (en2 : HID ((N 2 : Int) = n2)) (n3 : Int) (en3 : HID ((N 3 : Int) = n3)) (n5 : Int) (en5 : HID ((N 5 : Int) = n5)) (u1_1 : Int) (eu1_1 : HID (F 1 1 = u1_1)) (u4_1 : Int) (eu4_1 : HID (F 4 1 = u4_1)) (h0 : inr (4)) (h1 : inr (a3)) (h2 : 0 ≤ (u1_1) ∧ (u1_1) ≤ (n3) ∧ (n3) ≤ 65536) (h3 : 0 ≤ (u4_1) ∧ (u4_1) ≤ (n5) ∧ (n5) ≤ 65536) (hc157 : ∀ (ls : rO) (σ : rS) (F_c157 : hF) (A_c157 : hA) , rlook ls 0 = some (.ref (D 0)) → rlook ls 1 = some (.ref (D 1)) → rlook ls 3 = some (I (a3)) → rlook ls 4 = some (.ref (D 2)) → HW V32_Row_Ir_c24_va4 σ D N F_c157 A_c157 → OUT (V32_Row_Ir_c24_va4).length D N σE c s D N σ c s → SF [(4, 1), (4, 2), (4, 3), (4, 4)] F F_c157 → SA [] A A_c157 → ∀ yc157_4_1 : Int, F_c157 4 1 = yc157_4_1 → (0 ≤ (u1_1) ∧ (u1_1) ≤ (n3) ∧ (n3) ≤ 65536) → (0 ≤ (yc157_4_1) ∧ (yc157_4_1) ≤ (n5) ∧ (n5) ≤ 65536) → ((yc157_4_1) = 0) → Ew 32 (d + 1) 157 ls [.ref (D 0)] σ c s Q) (k : ∀ (z : Int) (σ : rS) (Fₚ : hF) (Aₚ : hA), HW V32_Row_Ir_c24_va4 σ D N Fₚ Aₚ → OUT (V32_Row_Ir_c24_va4).length D N σE c s D N σ c s → SF [(4, 1), (4, 2), (4, 3), (4, 4)] F Fₚ → SA [] A Aₚ → ∀ y4_1 : Int, Fₚ 4 1 = y4_1 → (inr (z)) → (0 ≤ (y4_1) ∧ (y4_1) ≤ (n5) ∧ (n5) ≤ 65536) → Q (some (I z)) σ c s) : Ew 32 (d + 1) 0 (rargs 0 [.ref (D 0), .ref (D 1), I 4, I a3, .ref (D 2)]) [] σE c s Q := by
  have O := OUT_refl (n := (V32_Row_Ir_c24_va4).length) (D := D) (N := N) (σ := σE) (c := c) (s := s)
  have HE := H
  have r4 : HID ((0 : Int) ≤ n5 ∧ n5 ≤ 1000000) := nrng (H.nle 5 (ltn len_V32_Row_Ir_c24_va4_oz_V1cls rfl)) (show (N 5 : Int) = n5 from en5)
  refine Ew_of (pcₚ := 1) (fun _ => x_aload_n rfl rfl) ?_
  refine v_g H (o := 0) (v := .ref (D 4)) rfl rfl rfl rfl rfl (vrf (pf4)) ?_
  refine v_inv H (o := 4) rfl rfl rfl rfl rfl rfl (by rfl) (C156h (D := puc 4 D) (N := puc 4 N) (HW_subc H oz_V1cls_1 oz_V1cls_4) (u4_1) ((eu4_1)) (F 4 2) (rfl) (F 4 4) (rfl)  (fun σ7 F7ₚ A7ₚ Hₚ Oₚ hS7 hA7 y7_0_1 (ey7_0_1 : HID _) y7_0_2 (ey7_0_2 : HID _) y7_0_4 (ey7_0_4 : HID _) pz7_0 => ⟨rfl, ?_⟩))
  refine v_backc (c := c) (s := s) H oz_V1cls_1 oz_V1cls_4 Hₚ Oₚ (fun F7 A7 H Oₚ eF7 eA7 => ?_)
  have O := OUT_trans O Oₚ
  -- Row.clear
  have cF7 : SF oz_V1clsl_0 F F7 := SF_trans (SF_refl) (SF_gluc (ι := oz_V1clsl_2) oz_V1cls_4 hS7 eF7 (by decide +kernel)) (any_sub (lₚ := [(4, 1), (4, 2), (4, 3), (4, 4)]) (by decide +kernel))
  have mF7 := SFm_of cF7 oz_V1cls_2
  have cA7 : SA oz_V1clsl_1 A A7 := SA_trans (SA_refl) (SA_gluc (ι := oz_V1clsl_2) oz_V1cls_4 hA7 eA7 (by decide +kernel)) (any_subA (lₚ := []) (by decide +kernel))
  have mA7 := SAm_of cA7 oz_V1cls_3
  refine Ew_of (pcₚ := 8) (fun _ => x_iconst rfl) ?_
  refine Ew_of (pcₚ := 10) (fun _ => x_istore rfl) ?_
  refine Ew_of (pcₚ := 11) (fun _ => x_iload_n rfl (rk_o (rfl) rfl rfl)) ?_
  refine w_tsd 156 rfl (show inr (4) from h0) (by omega) rfl ?_
  refine Ew_of (pcₚ := 157) (fun _ => x_aload_n rfl (rk_o (rfl) rfl rfl)) ?_
  exact hc157  _ _ _ _  (rk_o (rfl) rfl rfl) (rk_o (rfl) rfl rfl) (rk_o (rfl) rfl rfl) (rk_o (rfl) rfl rfl) H O (SF_trans (SF_refl) (SF_gluc (ι := oz_V1clsl_2) oz_V1cls_4 hS7 eF7 (by decide +kernel)) (any_sub (lₚ := [(4, 1), (4, 2), (4, 3), (4, 4)]) (by decide +kernel))) (SA_trans (SA_refl) (SA_gluc (ι := oz_V1clsl_2) oz_V1cls_4 hA7 eA7 (by decide +kernel)) (any_subA (lₚ := []) (by decide +kernel)))   (y7_0_1) (((eF7 4 1).trans ey7_0_1))  (show 0 ≤ (u1_1) ∧ (u1_1) ≤ (n3) ∧ (n3) ≤ 65536 from h2) (show 0 ≤ (y7_0_1) ∧ (y7_0_1) ≤ (n5) ∧ (n5) ≤ 65536 from q_3960 (HIDe r4) h3 pz7_0) (show (y7_0_1) = 0 from q_3478 pz7_0)
