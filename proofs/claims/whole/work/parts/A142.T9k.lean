section
/-! T9k.cls -/
abbrev V115_Row_vHA : vV := [(0, 4, [(4, 0), (4, 0), (0, 0), (4, 0), (4, 0)]), (0, 7, [(4, 0), (0, 0), (1, 0), (0, 0), (0, 0)]), (1, 0, []), (0, 7, [(4, 0), (0, 0), (1, 0), (0, 0), (0, 0)]), (1, 0, []), (0, 9, [(4, 0), (4, 0), (4, 0)]), (1, 5, []), (1, 2, [])]
theorem len_V115_Row_vHA_oz_T9kcls : (V115_Row_vHA).length = 8 := by decide +kernel
theorem oz_T9kcls_1 : vsub V115_Row_vHA V114 [0, 5, 6, 7, 3] = true := by decide +kernel
theorem oz_T9kcls_2 : vsub V115_Row_vHA V158_Row [3, 1, 4, 2] = true := by decide +kernel
theorem oz_T9kcls_3 : vmov V115_Row_vHA [3, 1, 4, 2] [2] = true := by decide +kernel
theorem oz_T9kcls_4 : vsub V115_Row_vHA V41_Br [2] = true := by decide +kernel
def oz_T9kclsl_0 : List (Nat × Nat) := [(0, 2), (3, 0), (3, 1), (3, 2), (3, 3), (3, 4), (5, 0)]
theorem oz_T9kcls_5 : (oz_T9kclsl_0).all (fun p => !tbz 1461501637330902920659757870658477485055795003396 (Nat.add (Nat.mul 32 p.1) p.2)) = true := by decide +kernel
def oz_T9kclsl_1 : List Nat := [4, 6, 7]
theorem oz_T9kcls_6 : (oz_T9kclsl_1).all (fun p => !tbz 208 p) = true := by decide +kernel
def oz_T9kclsl_2 : List Nat := [4]
theorem oz_T9kcls_7 : (oz_T9kclsl_2).all (fun p => !tbz 16 p) = true := by decide +kernel
def oz_T9kclsl_3 : List Nat := [0, 5, 6, 7, 3]
theorem oz_T9kcls_8 : okc oz_T9kclsl_3 207099529728 = true := by decide +kernel
def oz_T9kclsl_4 : List Nat := [3, 1, 4, 2]
theorem oz_T9kcls_9 : okc oz_T9kclsl_4 269484547 = true := by decide +kernel
def oz_T9kclsl_5 : List Nat := [2]
theorem oz_T9kcls_10 : okc oz_T9kclsl_5 2 = true := by decide +kernel

theorem C115_Row_vHA {σE : rS} {D N : Nat → Nat} {F : hF} {A : hA} {d c s : Nat} {Q : wQ} (H : HW V115_Row_vHA σE D N F A)  (pf2 : HID (F 1 0 = (D 2 : Int))) (pf3 : HID (F 0 0 = (D 3 : Int))) (pf4 : HID (F 3 0 = (D 4 : Int))) (pf5 : HID (F 0 1 = (D 5 : Int))) (pf6 : HID (F 5 1 = (D 6 : Int))) (pf7 : HID (F 5 2 = (D 7 : Int))) (n2 : Int) (en2 : HID ((N 2 : Int) = n2)) (n4 : Int) (en4 : HID ((N 4 : Int) = n4)) (n6 : Int) (en6 : HID ((N 6 : Int) = n6)) (n7 : Int) (en7 : HID ((N 7 : Int) = n7)) (u0_2 : Int) (eu0_2 : HID (F 0 2 = u0_2)) (u1_1 : Int) (eu1_1 : HID (F 1 1 = u1_1)) (u3_1 : Int) (eu3_1 : HID (F 3 1 = u3_1)) (u3_2 : Int) (eu3_2 : HID (F 3 2 = u3_2)) (u5_0 : Int) (eu5_0 : HID (F 5 0 = u5_0)) (w2 : Int → Int) (ew2 : A 2 = w2) (w4 : Int → Int) (ew4 : A 4 = w4) (w6 : Int → Int) (ew6 : A 6 = w6) (w7 : Int → Int) (ew7 : A 7 = w7) (h0 : 0 ≤ (u1_1) ∧ (u1_1) ≤ (n2) ∧ (n2) ≤ 65536) (h1 : 0 ≤ (u3_1) ∧ (u3_1) ≤ (n4) ∧ (n4) ≤ 65536) (h2 : (n6) = 3 ∧ (n7) = 3) (hc57 : ∀ (ls : rO) (σ : rS) (D_c57 N_c57 : Nat → Nat) (c_c57 s_c57 : Nat) (F_c57 : hF) (A_c57 : hA) (xc57_3 : Int), rlook ls 0 = some (.ref (D_c57 0)) → rlook ls 2 = some (.ref (D_c57 2)) → rlook ls 3 = some (I (xc57_3)) → HW V115_Row_vHA σ D_c57 N_c57 F_c57 A_c57 → OUT (V115_Row_vHA).length D N σE c s D_c57 N_c57 σ c_c57 s_c57 → SD [4] D D_c57 → SD [4] N N_c57 → SF [(0, 2), (3, 0), (3, 1), (3, 2), (3, 3), (3, 4), (5, 0)] F F_c57 → SA [4, 6, 7] A A_c57 → F_c57 3 0 = (D_c57 4 : Int) → ∀ mc57_4 : Int, (N_c57 4 : Int) = mc57_4 → ∀ yc57_0_2 : Int, F_c57 0 2 = yc57_0_2 → ∀ yc57_3_1 : Int, F_c57 3 1 = yc57_3_1 → ∀ yc57_3_2 : Int, F_c57 3 2 = yc57_3_2 → ∀ yc57_5_0 : Int, F_c57 5 0 = yc57_5_0 → (inr (xc57_3)) → (0 ≤ (u1_1) ∧ (u1_1) ≤ (n2) ∧ (n2) ≤ 65536) → (8 ≤ (xc57_3) ∧ (xc57_3) = (u1_1)) → ((yc57_3_1) = 0) → ((yc57_3_2) = 0) → (0 ≤ (yc57_3_1) ∧ (yc57_3_1) ≤ (mc57_4) ∧ (mc57_4) ≤ 65536) → ((yc57_5_0) = -1) → (nvl (ub8 ((w2))) 0 4 = 3962610743) → ((yc57_0_2) % 4294967296 = nvl (ub8 ((w2))) 4 4) → Ew 115 (d + 4) 57 ls [.ref (D_c57 0)] σ c_c57 s_c57 Q) (k : ∀ (z : Int) (σ : rS) (Dₚ Nₚ : Nat → Nat) (Fₚ : hF) (Aₚ : hA) (cₚ sₚ : Nat), HW V115_Row_vHA σ Dₚ Nₚ Fₚ Aₚ → OUT (V115_Row_vHA).length D N σE c s Dₚ Nₚ σ cₚ sₚ → SD [4] D Dₚ → SD [4] N Nₚ → SF [(0, 2), (3, 0), (3, 1), (3, 2), (3, 3), (3, 4), (5, 0)] F Fₚ → SA [4, 6, 7] A Aₚ → Fₚ 3 0 = (Dₚ 4 : Int) → ∀ m4 : Int, (Nₚ 4 : Int) = m4 → ∀ y0_2 : Int, Fₚ 0 2 = y0_2 → ∀ y3_1 : Int, Fₚ 3 1 = y3_1 → ∀ y3_2 : Int, Fₚ 3 2 = y3_2 → ∀ y5_0 : Int, Fₚ 5 0 = y5_0 → ∀ v4 : Int → Int, Aₚ 4 = v4 → ∀ v6 : Int → Int, Aₚ 6 = v6 → ∀ v7 : Int → Int, Aₚ 7 = v7 → (inr (z)) → (0 ≤ (y3_1) ∧ (y3_1) ≤ (m4) ∧ (m4) ≤ 65536) → (-4 ≤ (z) ∧ (z) ≤ 65536) → ((y5_0) = -1) → (((v6)) 0 = -1 ∧ ((v6)) 1 = -1 ∧ ((v6)) 2 = -1) → ((z) < 0 ∨ (y3_1) ≤ (z)) → ((z) < 0 ∨ (y3_2) = 0) → ((z) = (LNF (ub8 ((w2))) ((u1_1))).1) → (IMP (0 ≤ (z)) (DCK (LNF (ub8 ((w2))) ((u1_1))).2 (sc ((v4)) 0 ((y3_1))) ((y0_2)) ((v7)) ∧ (LNF (ub8 ((w2))) ((u1_1))).2.2.2.1.1 = 0 ∧ ∀ t, ((LNF (ub8 ((w2))) ((u1_1))).2.2.2.2.1 t).1 < 0)) → Q (some (I z)) σ cₚ sₚ) : Ew 115 (d + 4) 0 (rargs 0 [.ref (D 0), .ref (D 1)]) [] σE c s Q := by
  have O := OUT_refl (n := (V115_Row_vHA).length) (D := D) (N := N) (σ := σE) (c := c) (s := s)
  have HE := H
  have r2 : HID ((-2147483648 : Int) ≤ u1_1 ∧ u1_1 ≤ 2147483647) := krg_e (show (-2147483648 : Int) ≤ F 1 1 ∧ F 1 1 ≤ 2147483647 from H.krg 1 1 (ltn len_V115_Row_vHA_oz_T9kcls rfl)) (show F 1 1 = u1_1 from (eu1_1))
  have r5 : HID ((0 : Int) ≤ n2 ∧ n2 ≤ 1000000) := nrng (H.nle 2 (ltn len_V115_Row_vHA_oz_T9kcls rfl)) (show (N 2 : Int) = n2 from en2)
  have r6 : HID ((0 : Int) ≤ n4 ∧ n4 ≤ 1000000) := nrng (H.nle 4 (ltn len_V115_Row_vHA_oz_T9kcls rfl)) (show (N 4 : Int) = n4 from en4)
  refine Ew_of (pcₚ := 1) (fun _ => x_aload_n rfl rfl) ?_
  refine v_g H (o := 1) (v := .ref (D 2)) rfl rfl rfl rfl rfl (vrf (pf2)) ?_
  refine Ew_of (pcₚ := 5) (fun _ => x_astore_n rfl) ?_
  refine Ew_of (pcₚ := 6) (fun _ => x_aload_n rfl (rk_o (rfl) rfl rfl)) ?_
  refine v_g H (o := 1) (v := I (u1_1)) rfl rfl rfl rfl rfl (congrArg (fun z : Int => I z) ((eu1_1) : F 1 1 = u1_1)) ?_
  refine Ew_of (pcₚ := 10) (fun _ => x_istore_n rfl) ?_
  refine Ew_of (pcₚ := 11) (fun _ => x_aload_n rfl (rk_o (rk_o (rfl) rfl rfl) rfl rfl)) ?_
  refine v_inv H (o := 0) rfl rfl rfl rfl rfl rfl (by rfl) (C114 (D := puc 207099529728 D) (N := puc 207099529728 N) (HW_subc H oz_T9kcls_1 oz_T9kcls_8) (pf5) (pf6) (pf7) (pf3) (n6) (en6) (n7) (en7) (u0_2) ((eu0_2)) (u5_0) ((eu5_0)) (u3_1) ((eu3_1)) (u3_2) ((eu3_2)) (w6) (ew6) (w7) (ew7) (show (n6) = 3 ∧ (n7) = 3 from h2) (fun σ9 F9ₚ A9ₚ Hₚ Oₚ hS9 hA9 y9_0_2 (ey9_0_2 : HID _) y9_1_0 (ey9_1_0 : HID _) y9_4_1 (ey9_4_1 : HID _) y9_4_2 (ey9_4_2 : HID _) w9_2 ew9_2 w9_3 ew9_3 pz9_0 pz9_1 pz9_2 pz9_3 pz9_4 pz9_5 => ⟨rfl, ?_⟩))
  refine v_backc (c := c) (s := s) H oz_T9kcls_1 oz_T9kcls_8 Hₚ Oₚ (fun F9 A9 H Oₚ eF9 eA9 => ?_)
  have O := OUT_trans O Oₚ
  -- Dictionary.clear
  have cF9 : SF oz_T9kclsl_0 F F9 := SF_trans (SF_refl) (SF_gluc (ι := oz_T9kclsl_3) oz_T9kcls_8 hS9 eF9 (by decide +kernel)) (any_sub (lₚ := [(0, 2), (3, 1), (3, 2), (3, 3), (3, 4), (5, 0)]) (by decide +kernel))
  have mF9 := SFm_of cF9 oz_T9kcls_5
  have cA9 : SA oz_T9kclsl_1 A A9 := SA_trans (SA_refl) (SA_gluc (ι := oz_T9kclsl_3) oz_T9kcls_8 hA9 eA9 (by decide +kernel)) (any_subA (lₚ := [6, 7]) (by decide +kernel))
  have mA9 := SAm_of cA9 oz_T9kcls_6
  have r10 : HID ((-2147483648 : Int) ≤ y9_0_2 ∧ y9_0_2 ≤ 2147483647) := krg_e (show (-2147483648 : Int) ≤ F9 0 2 ∧ F9 0 2 ≤ 2147483647 from H.krg 0 2 (ltn len_V115_Row_vHA_oz_T9kcls rfl)) (show F9 0 2 = y9_0_2 from ((eF9 0 2).trans ey9_0_2))
  have r11 : HID ((-2147483648 : Int) ≤ y9_4_1 ∧ y9_4_1 ≤ 2147483647) := krg_e (show (-2147483648 : Int) ≤ F9 3 1 ∧ F9 3 1 ≤ 2147483647 from H.krg 3 1 (ltn len_V115_Row_vHA_oz_T9kcls rfl)) (show F9 3 1 = y9_4_1 from ((eF9 3 1).trans ey9_4_1))
  have hl3 : 0 ≤ (u1_1) ∧ (u1_1) ≤ (n2) ∧ (n2) ≤ 65536 := by (have qg0 := HIDe r2; have qg1 := HIDe r5; omega)
  have hcl := pz9_0
  have hcm := pz9_1
  have hcn := pz9_3
  have hci_ := pz9_2
  have hcla := pz9_4
  have hcbu := pz9_5
  refine Ew_of (pcₚ := 15) (fun _ => x_iload_n rfl rk_s) ?_
  refine Ew_of (pcₚ := 16) (fun _ => x_iconst rfl) ?_
  refine w_icmplt (t := 29) rfl rfl (show inr (u1_1) from q_38 hl3) (show inr (4) from q_216) (fun b13 => ?_) (fun b13 => ?_)
  · refine Ew_of (pcₚ := 30) (fun _ => x_aload_n rfl (rk_o (rk_o (rfl) rfl rfl) rfl rfl)) ?_
    refine v_g H (o := 0) (v := .ref (D 3)) rfl rfl rfl rfl rfl (vrf ((mF9 0 0 rfl).trans (pf3))) ?_
    refine Ew_of (pcₚ := 34) (fun _ => x_aload_n rfl (rk_o (rk_o (rfl) rfl rfl) rfl rfl)) ?_
    refine v_inv H (o := 3) rfl rfl rfl rfl rfl rfl (by rfl) (C158_Row (D := puc 269484547 D) (N := puc 269484547 N) (HW_subc H oz_T9kcls_2 oz_T9kcls_9) ((((show F9 3 0 = F 3 0 from (eF9 3 0).trans (hS9 4 0 rfl)))).trans (pf4)) ((mF9 1 0 rfl).trans (pf2)) (n4) (en4) (n2) (en2) (y9_4_1) (((eF9 3 1).trans ey9_4_1)) (y9_4_2) (((eF9 3 2).trans ey9_4_2)) (u1_1) (((mF9 1 1 rfl).trans (eu1_1))) (w4) (((show A9 4 = A 4 from (eA9 4))).trans (ew4)) (w2) ((funext (mA9 2 rfl)).trans (ew2)) (show 0 ≤ (y9_4_1) ∧ (y9_4_1) ≤ (n4) ∧ (n4) ≤ 65536 from q_4798 (HIDe r6) h1 pz9_3) (show 0 ≤ (u1_1) ∧ (u1_1) ≤ (n2) ∧ (n2) ≤ 65536 from hl3) (fun σ14 D14ₚ N14ₚ F14ₚ A14ₚ c14 s14 Hₚ Oₚ hD14 hN14 hS14 hA14 (pm14_2 : HID _) m14_2 (em14_2 : HID _) y14_0_1 (ey14_0_1 : HID _) y14_0_2 (ey14_0_2 : HID _) w14_2 ew14_2 pz14_0 pz14_1 pz14_2 pz14_3 => ⟨rfl, ?_⟩))
    refine v_backMc (c := c) (s := s) H oz_T9kcls_2 oz_T9kcls_9 Hₚ Oₚ hD14 oz_T9kcls_3 (fun D14 N14 F14 A14 H Oₚ eD14 eN14 eF14 eA14 => ?_)
    have O := OUT_trans O Oₚ
    -- Row.become
    have cF14 : SF oz_T9kclsl_0 F F14 := SF_trans (cF9) (SF_gluc (ι := oz_T9kclsl_4) oz_T9kcls_9 hS14 eF14 (by decide +kernel)) (any_sub (lₚ := [(3, 0), (3, 1), (3, 2), (3, 3), (3, 4)]) (by decide +kernel))
    have mF14 := SFm_of cF14 oz_T9kcls_5
    have cA14 : SA oz_T9kclsl_1 A A14 := SA_trans (cA9) (SA_gluc (ι := oz_T9kclsl_4) oz_T9kcls_9 hA14 eA14 (by decide +kernel)) (any_subA (lₚ := [4]) (by decide +kernel))
    have mA14 := SAm_of cA14 oz_T9kcls_6
    have cD14 : SD oz_T9kclsl_2 D D14 := SD_trans (SD_refl) (SD_gluc (ι := oz_T9kclsl_4) oz_T9kcls_9 hD14 eD14 (by decide +kernel)) (any_subA (lₚ := [4]) (by decide +kernel))
    have mD14 := SDm_of cD14 oz_T9kcls_7
    have cN14 : SD oz_T9kclsl_2 N N14 := SD_trans (SD_refl) (SD_gluc (ι := oz_T9kclsl_4) oz_T9kcls_9 hN14 eN14 (by decide +kernel)) (any_subA (lₚ := [4]) (by decide +kernel))
    have mN14 := SDm_of cN14 oz_T9kcls_7
    have pf14_3_0 : HID (F14 3 0 = (D14 4 : Int)) := (eF14 3 0).trans (pm14_2.trans (congrArg (fun q : Nat => (q : Int)) (eD14 4).symm))
    have r16 : HID ((-2147483648 : Int) ≤ y14_0_1 ∧ y14_0_1 ≤ 2147483647) := krg_e (show (-2147483648 : Int) ≤ F14 3 1 ∧ F14 3 1 ≤ 2147483647 from H.krg 3 1 (ltn len_V115_Row_vHA_oz_T9kcls rfl)) (show F14 3 1 = y14_0_1 from ((eF14 3 1).trans ey14_0_1))
    have hLn : (LNF (ub8 ((w2))) ((u1_1))) = ((u1_1), DCN (ub8 ((w2))) ((u1_1))) := by have h : LNF (ub8 ((w2))) ((u1_1)) = ((u1_1), DCN (ub8 ((w2))) ((u1_1))) := (by first | exact LN_n (.inl (by (have qg0 := HIDe r2; omega))) | exact LN_n (.inr (LN_nm pNONE_1 (by (have qg0 := HIDe r2; omega)) (by (have qg0 := HIDe r2; omega))))); first | exact h | (rw [show (u1_1) = (u1_1) by (have qg0 := HIDe r2; omega)]; exact h)
    have hF0 : (u1_1) = (LNF (ub8 ((w2))) ((u1_1))).1 := by first | (rw [hLn]; done) | (rw [hLn]; show (u1_1) = (u1_1); (have qg0 := HIDe r2; omega))
    have hF1 : IMP (0 ≤ (u1_1)) (DCK (LNF (ub8 ((w2))) ((u1_1))).2 (sc ((w14_2)) 0 ((y14_0_1))) ((y9_0_2)) ((w9_3)) ∧ (LNF (ub8 ((w2))) ((u1_1))).2.2.2.1.1 = 0 ∧ ∀ t, ((LNF (ub8 ((w2))) ((u1_1))).2.2.2.2.1 t).1 < 0) := fun _ => ⟨LN_k hLn (by rw [pz14_3, sc_u]) (by (have qg0 := HIDe r10; have qg1 := HIDe r16; have qg2 := HIDe r2; omega)) (by (have qg0 := HIDe r10; have qg1 := HIDe r16; have qg2 := HIDe r2; omega)), by rcases (LN_q (s := -1) (T := 0) (ce := fun _ => 0) hLn rfl) with w | w; (exact w.2); (exact absurd rfl w.1), fun t => by rcases (LN_t (t := t) (s := -1) (L := 0) (m := 0) (P := fun _ => 0) hLn rfl) with w | w; (exact w.2); (exact absurd rfl w.1)⟩
    refine Ew_of (pcₚ := 38) (fun _ => x_iload_n rfl rk_s) ?_
    exact w_ireturn rfl (k (u1_1) _ _ _ _ _ _ _ H O (cD14) (cN14) (cF14) (cA14) (pf14_3_0) (m14_2) ((congrArg (fun q : Nat => (q : Int)) (eN14 4)).trans em14_2) (y9_0_2) ((((show F14 0 2 = F9 0 2 from (eF14 0 2))).trans ((eF9 0 2).trans ey9_0_2))) (y14_0_1) (((eF14 3 1).trans ey14_0_1)) (y14_0_2) (((eF14 3 2).trans ey14_0_2)) (y9_1_0) ((((show F14 5 0 = F9 5 0 from (eF14 5 0))).trans ((eF9 5 0).trans ey9_1_0))) (w14_2) ((eA14 4).trans ew14_2) (w9_2) (((show A14 6 = A9 6 from (eA14 6))).trans ((eA9 6).trans ew9_2)) (w9_3) (((show A14 7 = A9 7 from (eA14 7))).trans ((eA9 7).trans ew9_3)) (show inr (u1_1) from q_3880 b13 hl3) (show 0 ≤ (y14_0_1) ∧ (y14_0_1) ≤ (m14_2) ∧ (m14_2) ≤ 65536 from pz14_0) (show -4 ≤ (u1_1) ∧ (u1_1) ≤ 65536 from q_3879 b13 hl3) (show (y9_1_0) = -1 from pz9_0) (show ((w9_2)) 0 = -1 ∧ ((w9_2)) 1 = -1 ∧ ((w9_2)) 2 = -1 from pz9_1) (show (u1_1) < 0 ∨ (y14_0_1) ≤ (u1_1) from q_3878 pz14_1) (show (u1_1) < 0 ∨ (y14_0_2) = 0 from q_3870 pz14_2) (hF0) (hF1))
  · refine Ew_of (pcₚ := 20) (fun _ => x_aload_n rfl (rk_o (rk_s) rfl rfl)) ?_
    refine Ew_of (pcₚ := 21) (fun _ => x_iconst rfl) ?_
    refine w_stat25 rfl rfl (by rfl) (C41_Br (D := puc 2 D) (N := puc 2 N) (HW_subc H oz_T9kcls_4 oz_T9kcls_10) (n2) (en2) (w2) ((funext (mA9 2 rfl)).trans (ew2)) (show inr (0) from q_2) (show 0 ≤ (0) ∧ (0) + 4 ≤ (n2) from q_3881 b13 hl3) (fun z18 σ18 F18ₚ A18ₚ Hₚ Oₚ hS18 hA18 pz18_0 pz18_1 => ⟨rfl, ?_⟩))
    refine v_backc (c := c) (s := s) H oz_T9kcls_4 oz_T9kcls_10 Hₚ Oₚ (fun F18 A18 H Oₚ eF18 eA18 => ?_)
    have O := OUT_trans O Oₚ
    -- PackHouse.word
    have cF18 : SF oz_T9kclsl_0 F F18 := SF_trans (cF9) (SF_gluc (ι := oz_T9kclsl_5) oz_T9kcls_10 hS18 eF18 (by decide +kernel)) (any_sub (lₚ := []) (by decide +kernel))
    have mF18 := SFm_of cF18 oz_T9kcls_5
    have cA18 : SA oz_T9kclsl_1 A A18 := SA_trans (cA9) (SA_gluc (ι := oz_T9kclsl_5) oz_T9kcls_10 hA18 eA18 (by decide +kernel)) (any_subA (lₚ := []) (by decide +kernel))
    have mA18 := SAm_of cA18 oz_T9kcls_6
    refine Ew_of (pcₚ := 26) (fun _ => x_ldc (z := -332356553) rfl (by decide)) ?_
    have hwd := pz18_1
    refine w_icmpeq (t := 39) rfl rfl (show inr (z18) from pz18_0) (show inr ((-332356553)) from q_3882) (fun b19 => ?_) (fun b19 => ?_)
    · have hmk : nvl (ub8 ((w2))) 0 4 = 3962610743 := LN_m (by rw [← hwd]; omega)
      have hnn : (u1_1) = (u1_1) := by (have qg0 := HIDe r2; omega)
      refine Ew_of (pcₚ := 40) (fun _ => x_iload_n rfl rk_s) ?_
      refine Ew_of (pcₚ := 42) (fun _ => x_bipush (z := 8) rfl (by decide)) ?_
      refine w_icmpge (t := 47) rfl rfl (show inr (u1_1) from q_3883 b13 hl3) (show inr (8) from q_141) (fun b20 => ?_) (fun b20 => ?_)
      · refine Ew_of (pcₚ := 48) (fun _ => x_aload_n rfl (rk_o (rk_o (rfl) rfl rfl) rfl rfl)) ?_
        refine Ew_of (pcₚ := 49) (fun _ => x_aload_n rfl (rk_o (rk_s) rfl rfl)) ?_
        refine Ew_of (pcₚ := 50) (fun _ => x_iconst rfl) ?_
        refine w_stat25 rfl rfl (by rfl) (C41_Br (D := puc 2 D) (N := puc 2 N) (HW_subc H oz_T9kcls_4 oz_T9kcls_10) (n2) (en2) (w2) ((funext (mA18 2 rfl)).trans (ew2)) (show inr (4) from q_216) (show 0 ≤ (4) ∧ (4) + 4 ≤ (n2) from q_3884 b20 hl3) (fun z21 σ21 F21ₚ A21ₚ Hₚ Oₚ hS21 hA21 pz21_0 pz21_1 => ⟨rfl, ?_⟩))
        refine v_backc (c := c) (s := s) H oz_T9kcls_4 oz_T9kcls_10 Hₚ Oₚ (fun F21 A21 H Oₚ eF21 eA21 => ?_)
        have O := OUT_trans O Oₚ
        -- PackHouse.word
        have cF21 : SF oz_T9kclsl_0 F F21 := SF_trans (cF18) (SF_gluc (ι := oz_T9kclsl_5) oz_T9kcls_10 hS21 eF21 (by decide +kernel)) (any_sub (lₚ := []) (by decide +kernel))
        have mF21 := SFm_of cF21 oz_T9kcls_5
        have cA21 : SA oz_T9kclsl_1 A A21 := SA_trans (cA18) (SA_gluc (ι := oz_T9kclsl_5) oz_T9kcls_10 hA21 eA21 (by decide +kernel)) (any_subA (lₚ := []) (by decide +kernel))
        have mA21 := SAm_of cA21 oz_T9kcls_6
        have hid : z21 % 4294967296 = nvl (ub8 ((w2))) 4 4 := by rw [pz21_1, wd_n]; exact nvl_u
        refine v_p H (o := 0) (z := z21) (v := I (z21)) rfl rfl rfl rfl rfl rfl rfl rfl (show (-2147483648 : Int) ≤ z21 ∧ z21 ≤ 2147483647 from q_31 pz21_0) (fun σ H Oₚ => ?_)
        have O := OUT_trans O Oₚ
        have cFu22 : SF oz_T9kclsl_0 F (updF F21 0 2 (z21)) := SF_upd (cF21) rfl
        have mFu22 := SFm_of cFu22 oz_T9kcls_5
        refine Ew_of (pcₚ := 57) (fun _ => x_aload_n rfl (rk_o (rk_o (rfl) rfl rfl) rfl rfl)) ?_
        exact hc57  _ _ _ _ _ _ _ _ (u1_1) (rk_o (rk_o (rfl) rfl rfl) rfl rfl) (rk_o (rk_s) rfl rfl) (rk_s) H O (SD_refl) (SD_refl) (SF_upd (SF_trans (SF_trans (SF_trans (SF_refl) (SF_gluc (ι := oz_T9kclsl_3) oz_T9kcls_8 hS9 eF9 (by decide +kernel)) (any_sub (lₚ := [(0, 2), (3, 1), (3, 2), (3, 3), (3, 4), (5, 0)]) (by decide +kernel))) (SF_gluc (ι := oz_T9kclsl_5) oz_T9kcls_10 hS18 eF18 (by decide +kernel)) (any_sub (lₚ := []) (by decide +kernel))) (SF_gluc (ι := oz_T9kclsl_5) oz_T9kcls_10 hS21 eF21 (by decide +kernel)) (any_sub (lₚ := []) (by decide +kernel))) rfl) (SA_trans (SA_trans (SA_trans (SA_refl) (SA_gluc (ι := oz_T9kclsl_3) oz_T9kcls_8 hA9 eA9 (by decide +kernel)) (any_subA (lₚ := [6, 7]) (by decide +kernel))) (SA_gluc (ι := oz_T9kclsl_5) oz_T9kcls_10 hA18 eA18 (by decide +kernel)) (any_subA (lₚ := []) (by decide +kernel))) (SA_gluc (ι := oz_T9kclsl_5) oz_T9kcls_10 hA21 eA21 (by decide +kernel)) (any_subA (lₚ := []) (by decide +kernel))) ((((((show F21 3 0 = F18 3 0 from (eF21 3 0))).trans ((show F18 3 0 = F9 3 0 from (eF18 3 0)))).trans ((show F9 3 0 = F 3 0 from (eF9 3 0).trans (hS9 4 0 rfl))))).trans (pf4)) (n4) (en4) (z21) (rfl) (y9_4_1) (((((show F21 3 1 = F18 3 1 from (eF21 3 1))).trans ((show F18 3 1 = F9 3 1 from (eF18 3 1)))).trans ((eF9 3 1).trans ey9_4_1))) (y9_4_2) (((((show F21 3 2 = F18 3 2 from (eF21 3 2))).trans ((show F18 3 2 = F9 3 2 from (eF18 3 2)))).trans ((eF9 3 2).trans ey9_4_2))) (y9_1_0) (((((show F21 5 0 = F18 5 0 from (eF21 5 0))).trans ((show F18 5 0 = F9 5 0 from (eF18 5 0)))).trans ((eF9 5 0).trans ey9_1_0)))  (show inr (u1_1) from q_3886 b20 hl3) (show 0 ≤ (u1_1) ∧ (u1_1) ≤ (n2) ∧ (n2) ≤ 65536 from hl3) (show 8 ≤ (u1_1) ∧ (u1_1) = (u1_1) from q_5075 b20 hnn) (show (y9_4_1) = 0 from pz9_3) (show (y9_4_2) = 0 from pz9_5) (show 0 ≤ (y9_4_1) ∧ (y9_4_1) ≤ (n4) ∧ (n4) ≤ 65536 from q_4798 (HIDe r6) h1 pz9_3) (show (y9_1_0) = -1 from pz9_0) (hmk) (hid)
      · have hF0 : (-1 : Int) = (LNF (ub8 ((w2))) ((u1_1))).1 := LN_x (LN_1 (by (have qg0 := HIDe r2; omega)) hmk (by (have qg0 := HIDe r2; omega))) (by (have qg0 := HIDe r2; omega))
        have hF1 : IMP (0 ≤ (-1 : Int)) (DCK (LNF (ub8 ((w2))) ((u1_1))).2 (sc ((w4)) 0 ((y9_4_1))) ((y9_0_2)) ((w9_3)) ∧ (LNF (ub8 ((w2))) ((u1_1))).2.2.2.1.1 = 0 ∧ ∀ t, ((LNF (ub8 ((w2))) ((u1_1))).2.2.2.2.1 t).1 < 0) := fun z => absurd z (by (have qg0 := HIDe r10; have qg1 := HIDe r11; have qg2 := HIDe r2; omega))
        refine Ew_of (pcₚ := 46) (fun _ => x_iconst rfl) ?_
        exact w_ireturn rfl (k ((-1)) _ _ _ _ _ _ _ H O (SD_refl) (SD_refl) (cF18) (cA18) (((((show F18 3 0 = F9 3 0 from (eF18 3 0))).trans ((show F9 3 0 = F 3 0 from (eF9 3 0).trans (hS9 4 0 rfl))))).trans (pf4)) (n4) (en4) (y9_0_2) ((((show F18 0 2 = F9 0 2 from (eF18 0 2))).trans ((eF9 0 2).trans ey9_0_2))) (y9_4_1) ((((show F18 3 1 = F9 3 1 from (eF18 3 1))).trans ((eF9 3 1).trans ey9_4_1))) (y9_4_2) ((((show F18 3 2 = F9 3 2 from (eF18 3 2))).trans ((eF9 3 2).trans ey9_4_2))) (y9_1_0) ((((show F18 5 0 = F9 5 0 from (eF18 5 0))).trans ((eF9 5 0).trans ey9_1_0))) (w4) (((show A18 4 = A9 4 from (eA18 4))).trans (((show A9 4 = A 4 from (eA9 4))).trans (ew4))) (w9_2) (((show A18 6 = A9 6 from (eA18 6))).trans ((eA9 6).trans ew9_2)) (w9_3) (((show A18 7 = A9 7 from (eA18 7))).trans ((eA9 7).trans ew9_3)) (show inr ((-1)) from q_63) (show 0 ≤ (y9_4_1) ∧ (y9_4_1) ≤ (n4) ∧ (n4) ≤ 65536 from q_4798 (HIDe r6) h1 pz9_3) (show -4 ≤ ((-1)) ∧ ((-1)) ≤ 65536 by first | exact q_3852 | omega) (show (y9_1_0) = -1 from pz9_0) (show ((w9_2)) 0 = -1 ∧ ((w9_2)) 1 = -1 ∧ ((w9_2)) 2 = -1 from pz9_1) (show ((-1)) < 0 ∨ (y9_4_1) ≤ ((-1)) by first | exact q_3910 | omega) (show ((-1)) < 0 ∨ (y9_4_2) = 0 by first | exact q_3850 | omega) (show ((-1)) = (LNF (ub8 ((w2))) ((u1_1))).1 by assumption) (show IMP (0 ≤ ((-1))) (DCK (LNF (ub8 ((w2))) ((u1_1))).2 (sc ((w4)) 0 ((y9_4_1))) ((y9_0_2)) ((w9_3)) ∧ (LNF (ub8 ((w2))) ((u1_1))).2.2.2.1.1 = 0 ∧ ∀ t, ((LNF (ub8 ((w2))) ((u1_1))).2.2.2.2.1 t).1 < 0) by assumption))
    · refine Ew_of (pcₚ := 30) (fun _ => x_aload_n rfl (rk_o (rk_o (rfl) rfl rfl) rfl rfl)) ?_
      refine v_g H (o := 0) (v := .ref (D 3)) rfl rfl rfl rfl rfl (vrf ((mF18 0 0 rfl).trans (pf3))) ?_
      refine Ew_of (pcₚ := 34) (fun _ => x_aload_n rfl (rk_o (rk_o (rfl) rfl rfl) rfl rfl)) ?_
      refine v_inv H (o := 3) rfl rfl rfl rfl rfl rfl (by rfl) (C158_Row (D := puc 269484547 D) (N := puc 269484547 N) (HW_subc H oz_T9kcls_2 oz_T9kcls_9) (((((show F18 3 0 = F9 3 0 from (eF18 3 0))).trans ((show F9 3 0 = F 3 0 from (eF9 3 0).trans (hS9 4 0 rfl))))).trans (pf4)) ((mF18 1 0 rfl).trans (pf2)) (n4) (en4) (n2) (en2) (y9_4_1) ((((show F18 3 1 = F9 3 1 from (eF18 3 1))).trans ((eF9 3 1).trans ey9_4_1))) (y9_4_2) ((((show F18 3 2 = F9 3 2 from (eF18 3 2))).trans ((eF9 3 2).trans ey9_4_2))) (u1_1) (((mF18 1 1 rfl).trans (eu1_1))) (w4) (((show A18 4 = A9 4 from (eA18 4))).trans (((show A9 4 = A 4 from (eA9 4))).trans (ew4))) (w2) ((funext (mA18 2 rfl)).trans (ew2)) (show 0 ≤ (y9_4_1) ∧ (y9_4_1) ≤ (n4) ∧ (n4) ≤ 65536 from q_4798 (HIDe r6) h1 pz9_3) (show 0 ≤ (u1_1) ∧ (u1_1) ≤ (n2) ∧ (n2) ≤ 65536 from hl3) (fun σ23 D23ₚ N23ₚ F23ₚ A23ₚ c23 s23 Hₚ Oₚ hD23 hN23 hS23 hA23 (pm23_2 : HID _) m23_2 (em23_2 : HID _) y23_0_1 (ey23_0_1 : HID _) y23_0_2 (ey23_0_2 : HID _) w23_2 ew23_2 pz23_0 pz23_1 pz23_2 pz23_3 => ⟨rfl, ?_⟩))
      refine v_backMc (c := c) (s := s) H oz_T9kcls_2 oz_T9kcls_9 Hₚ Oₚ hD23 oz_T9kcls_3 (fun D23 N23 F23 A23 H Oₚ eD23 eN23 eF23 eA23 => ?_)
      have O := OUT_trans O Oₚ
      -- Row.become
      have cF23 : SF oz_T9kclsl_0 F F23 := SF_trans (cF18) (SF_gluc (ι := oz_T9kclsl_4) oz_T9kcls_9 hS23 eF23 (by decide +kernel)) (any_sub (lₚ := [(3, 0), (3, 1), (3, 2), (3, 3), (3, 4)]) (by decide +kernel))
      have mF23 := SFm_of cF23 oz_T9kcls_5
      have cA23 : SA oz_T9kclsl_1 A A23 := SA_trans (cA18) (SA_gluc (ι := oz_T9kclsl_4) oz_T9kcls_9 hA23 eA23 (by decide +kernel)) (any_subA (lₚ := [4]) (by decide +kernel))
      have mA23 := SAm_of cA23 oz_T9kcls_6
      have cD23 : SD oz_T9kclsl_2 D D23 := SD_trans (SD_refl) (SD_gluc (ι := oz_T9kclsl_4) oz_T9kcls_9 hD23 eD23 (by decide +kernel)) (any_subA (lₚ := [4]) (by decide +kernel))
      have mD23 := SDm_of cD23 oz_T9kcls_7
      have cN23 : SD oz_T9kclsl_2 N N23 := SD_trans (SD_refl) (SD_gluc (ι := oz_T9kclsl_4) oz_T9kcls_9 hN23 eN23 (by decide +kernel)) (any_subA (lₚ := [4]) (by decide +kernel))
      have mN23 := SDm_of cN23 oz_T9kcls_7
      have pf23_3_0 : HID (F23 3 0 = (D23 4 : Int)) := (eF23 3 0).trans (pm23_2.trans (congrArg (fun q : Nat => (q : Int)) (eD23 4).symm))
      have r25 : HID ((-2147483648 : Int) ≤ y23_0_1 ∧ y23_0_1 ≤ 2147483647) := krg_e (show (-2147483648 : Int) ≤ F23 3 1 ∧ F23 3 1 ≤ 2147483647 from H.krg 3 1 (ltn len_V115_Row_vHA_oz_T9kcls rfl)) (show F23 3 1 = y23_0_1 from ((eF23 3 1).trans ey23_0_1))
      have hLn : (LNF (ub8 ((w2))) ((u1_1))) = ((u1_1), DCN (ub8 ((w2))) ((u1_1))) := by have h : LNF (ub8 ((w2))) ((u1_1)) = ((u1_1), DCN (ub8 ((w2))) ((u1_1))) := (by first | exact LN_n (.inl (by (have qg0 := HIDe r2; omega))) | exact LN_n (.inr (LN_nm pz18_1 (by (have qg0 := HIDe r2; omega)) (by (have qg0 := HIDe r2; omega))))); first | exact h | (rw [show (u1_1) = (u1_1) by (have qg0 := HIDe r2; omega)]; exact h)
      have hF0 : (u1_1) = (LNF (ub8 ((w2))) ((u1_1))).1 := by first | (rw [hLn]; done) | (rw [hLn]; show (u1_1) = (u1_1); (have qg0 := HIDe r2; omega))
      have hF1 : IMP (0 ≤ (u1_1)) (DCK (LNF (ub8 ((w2))) ((u1_1))).2 (sc ((w23_2)) 0 ((y23_0_1))) ((y9_0_2)) ((w9_3)) ∧ (LNF (ub8 ((w2))) ((u1_1))).2.2.2.1.1 = 0 ∧ ∀ t, ((LNF (ub8 ((w2))) ((u1_1))).2.2.2.2.1 t).1 < 0) := fun _ => ⟨LN_k hLn (by rw [pz23_3, sc_u]) (by (have qg0 := HIDe r10; have qg1 := HIDe r2; have qg2 := HIDe r25; omega)) (by (have qg0 := HIDe r10; have qg1 := HIDe r2; have qg2 := HIDe r25; omega)), by rcases (LN_q (s := -1) (T := 0) (ce := fun _ => 0) hLn rfl) with w | w; (exact w.2); (exact absurd rfl w.1), fun t => by rcases (LN_t (t := t) (s := -1) (L := 0) (m := 0) (P := fun _ => 0) hLn rfl) with w | w; (exact w.2); (exact absurd rfl w.1)⟩
      refine Ew_of (pcₚ := 38) (fun _ => x_iload_n rfl rk_s) ?_
      exact w_ireturn rfl (k (u1_1) _ _ _ _ _ _ _ H O (cD23) (cN23) (cF23) (cA23) (pf23_3_0) (m23_2) ((congrArg (fun q : Nat => (q : Int)) (eN23 4)).trans em23_2) (y9_0_2) (((((show F23 0 2 = F18 0 2 from (eF23 0 2))).trans ((show F18 0 2 = F9 0 2 from (eF18 0 2)))).trans ((eF9 0 2).trans ey9_0_2))) (y23_0_1) (((eF23 3 1).trans ey23_0_1)) (y23_0_2) (((eF23 3 2).trans ey23_0_2)) (y9_1_0) (((((show F23 5 0 = F18 5 0 from (eF23 5 0))).trans ((show F18 5 0 = F9 5 0 from (eF18 5 0)))).trans ((eF9 5 0).trans ey9_1_0))) (w23_2) ((eA23 4).trans ew23_2) (w9_2) (((show A23 6 = A18 6 from (eA23 6))).trans (((show A18 6 = A9 6 from (eA18 6))).trans ((eA9 6).trans ew9_2))) (w9_3) (((show A23 7 = A18 7 from (eA23 7))).trans (((show A18 7 = A9 7 from (eA18 7))).trans ((eA9 7).trans ew9_3))) (show inr (u1_1) from q_3883 b13 hl3) (show 0 ≤ (y23_0_1) ∧ (y23_0_1) ≤ (m23_2) ∧ (m23_2) ≤ 65536 from pz23_0) (show -4 ≤ (u1_1) ∧ (u1_1) ≤ 65536 from q_3911 b13 hl3) (show (y9_1_0) = -1 from pz9_0) (show ((w9_2)) 0 = -1 ∧ ((w9_2)) 1 = -1 ∧ ((w9_2)) 2 = -1 from pz9_1) (show (u1_1) < 0 ∨ (y23_0_1) ≤ (u1_1) from q_3878 pz23_1) (show (u1_1) < 0 ∨ (y23_0_2) = 0 from q_3870 pz23_2) (hF0) (hF1))
abbrev V115_Row_vHB : vV := [(0, 4, [(4, 0), (4, 0), (0, 0), (4, 0), (4, 0)]), (0, 7, [(4, 0), (0, 0), (1, 0), (0, 0), (0, 0)]), (1, 0, []), (0, 7, [(4, 0), (0, 0), (1, 0), (0, 0), (0, 0)]), (1, 0, []), (0, 3, [(4, 0), (4, 0), (4, 0), (0, 0), (4, 0), (4, 0), (4, 0), (4, 0), (4, 0), (4, 0), (4, 0), (4, 0), (4, 0), (0, 0), (0, 0), (0, 0), (0, 0)]), (1, 1, []), (0, 9, [(4, 0), (4, 0), (4, 0)]), (1, 5, []), (1, 2, []), (1, 5, []), (1, 1, []), (1, 1, []), (1, 1, []), (1, 1, []), (1, 1, []), (1, 1, []), (1, 1, []), (0, 8, [(0, 0), (0, 0), (4, 0), (4, 0), (4, 0), (4, 0), (4, 0), (4, 0), (4, 0), (4, 0), (4, 0), (0, 0), (0, 0)]), (1, 1, []), (1, 1, []), (1, 1, []), (1, 1, []), (1, 1, []), (1, 1, []), (1, 1, []), (1, 1, []), (0, 8, [(0, 0), (0, 0), (4, 0), (4, 0), (4, 0), (4, 0), (4, 0), (4, 0), (4, 0), (4, 0), (4, 0), (0, 0), (0, 0)]), (1, 1, []), (1, 1, []), (1, 1, []), (1, 1, []), (1, 1, []), (1, 1, []), (1, 1, []), (1, 1, []), (0, 8, [(0, 0), (0, 0), (4, 0), (4, 0), (4, 0), (4, 0), (4, 0), (4, 0), (4, 0), (4, 0), (4, 0), (0, 0), (0, 0)]), (1, 1, []), (1, 1, []), (1, 1, []), (1, 1, []), (1, 1, []), (1, 1, []), (1, 1, []), (1, 1, []), (0, 8, [(0, 0), (0, 0), (4, 0), (4, 0), (4, 0), (4, 0), (4, 0), (4, 0), (4, 0), (4, 0), (4, 0), (0, 0), (0, 0)]), (1, 1, []), (1, 1, []), (1, 1, []), (1, 1, []), (1, 1, []), (1, 1, []), (1, 1, []), (1, 1, []), (0, 2, [(4, 0), (0, 0), (0, 0)])]
theorem len_V115_Row_vHB_oz_T9kcls : (V115_Row_vHB).length = 55 := by decide +kernel
theorem oz_T9kcls_12 : vsub V115_Row_vHB V107_Br [5, 2, 13, 11, 12, 6, 18, 19, 20, 21, 22, 23, 25, 24, 26, 54] = true := by decide +kernel
theorem oz_T9kcls_13 : vsub V115_Row_vHB V118_Br_c11 [0, 2, 7, 8, 10, 36, 37, 38, 39, 40, 41, 42, 43, 44] = true := by decide +kernel
theorem oz_T9kcls_14 : vsub V115_Row_vHB V118_Br_c12 [0, 2, 7, 8, 10, 45, 46, 47, 48, 49, 50, 51, 52, 53] = true := by decide +kernel
theorem oz_T9kcls_15 : vsub V115_Row_vHB V118_Br_c10 [0, 2, 7, 8, 10, 27, 28, 29, 30, 31, 32, 33, 34, 35] = true := by decide +kernel
theorem oz_T9kcls_16 : vsub V115_Row_vHB V119_Br [0, 2, 3, 4, 7, 9] = true := by decide +kernel
theorem oz_T9kcls_17 : vmov V115_Row_vHB [0, 2, 3, 4, 7, 9] [3] = true := by decide +kernel
def oz_T9kclsl_6 : List (Nat × Nat) := [(3, 0), (3, 1), (3, 2), (5, 3), (7, 0), (18, 0), (18, 10), (18, 11), (18, 12), (27, 0), (27, 10), (27, 11), (27, 12), (36, 0), (36, 10), (36, 11), (36, 12), (45, 0), (45, 10), (45, 11), (45, 12), (54, 0), (54, 1), (54, 2)]
theorem oz_T9kcls_18 : (oz_T9kclsl_6).all (fun p => !tbz 105908434224950670740647579725444868932049031108709423904929761477156244944648135296269635554074371526319273541232145702992315046235577234524159193934581731269696630396030809705032984942168081924541480948148748991661869183335495389774541595750093166453703287719878489764060132903100250783108706048076175135081575205720867085203196627142260291127364236003921892709936882281183780551903898581732737495236786006745939724889677470773599796917730488716796309897744693687502909200560122675857277240015300103329480434874396442624 (Nat.add (Nat.mul 32 p.1) p.2)) = true := by decide +kernel
def oz_T9kclsl_7 : List Nat := [4, 6, 8, 9, 11, 12, 13, 19, 20, 21, 22, 23, 24, 25, 26, 28, 29, 30, 31, 32, 33, 34, 35, 37, 38, 39, 40, 41, 42, 43, 44, 46, 47, 48, 49, 50, 51, 52, 53]
theorem oz_T9kcls_19 : (oz_T9kclsl_7).all (fun p => !tbz 17979145283189584 p) = true := by decide +kernel
def oz_T9kclsl_8 : List Nat := [5, 2, 13, 11, 12, 6, 18, 19, 20, 21, 22, 23, 25, 24, 26, 54]
theorem oz_T9kcls_20 : okc oz_T9kclsl_8 2354247551354069223132640341011653593400325 = true := by decide +kernel
def oz_T9kclsl_9 : List Nat := [0, 2, 7, 8, 10, 36, 37, 38, 39, 40, 41, 42, 43, 44]
theorem oz_T9kcls_21 : okc oz_T9kclsl_9 7324734946139394642758576963195765760 = true := by decide +kernel
def oz_T9kclsl_10 : List Nat := [0, 2, 7, 8, 10, 45, 46, 47, 48, 49, 50, 51, 52, 53]
theorem oz_T9kcls_22 : okc oz_T9kclsl_10 8823042823971315470141341249031635968 = true := by decide +kernel
def oz_T9kclsl_11 : List Nat := [0, 2, 7, 8, 10, 27, 28, 29, 30, 31, 32, 33, 34, 35]
theorem oz_T9kcls_23 : okc oz_T9kclsl_11 5826427068307473815375812677359895552 = true := by decide +kernel
def oz_T9kclsl_12 : List Nat := [0, 2, 3, 4, 7, 9]
theorem oz_T9kcls_24 : okc oz_T9kclsl_12 317140922795008 = true := by decide +kernel
set_option maxHeartbeats 16000000 in
theorem C115_Row_vHB {σE : rS} {D N : Nat → Nat} {F : hF} {A : hA} {d c s : Nat} {Q : wQ} (H : HW V115_Row_vHB σE D N F A) (HT : STC σE) {x3 : Int} (pf2 : HID (F 1 0 = (D 2 : Int))) (pf3 : HID (F 0 0 = (D 3 : Int))) (pf4 : HID (F 3 0 = (D 4 : Int))) (pf5 : HID (F 0 3 = (D 5 : Int))) (pf6 : HID (F 5 2 = (D 6 : Int))) (pf7 : HID (F 0 1 = (D 7 : Int))) (pf8 : HID (F 7 1 = (D 8 : Int))) (pf9 : HID (F 7 2 = (D 9 : Int))) (pf10 : HID (F 0 4 = (D 10 : Int))) (pf11 : HID (F 5 0 = (D 11 : Int))) (pf12 : HID (F 5 1 = (D 12 : Int))) (pf13 : HID (F 5 4 = (D 13 : Int))) (pf14 : HID (F 5 5 = (D 14 : Int))) (pf15 : HID (F 5 10 = (D 15 : Int))) (pf16 : HID (F 5 11 = (D 16 : Int))) (pf17 : HID (F 5 12 = (D 17 : Int))) (pf18 : HID (F 5 6 = (D 18 : Int))) (pf19 : HID (F 18 2 = (D 19 : Int))) (pf20 : HID (F 18 3 = (D 20 : Int))) (pf21 : HID (F 18 4 = (D 21 : Int))) (pf22 : HID (F 18 5 = (D 22 : Int))) (pf23 : HID (F 18 6 = (D 23 : Int))) (pf24 : HID (F 18 7 = (D 24 : Int))) (pf25 : HID (F 18 8 = (D 25 : Int))) (pf26 : HID (F 18 9 = (D 26 : Int))) (pf27 : HID (A 10 0 = (D 27 : Int))) (pf28 : HID (F 27 2 = (D 28 : Int))) (pf29 : HID (F 27 3 = (D 29 : Int))) (pf30 : HID (F 27 4 = (D 30 : Int))) (pf31 : HID (F 27 5 = (D 31 : Int))) (pf32 : HID (F 27 6 = (D 32 : Int))) (pf33 : HID (F 27 7 = (D 33 : Int))) (pf34 : HID (F 27 8 = (D 34 : Int))) (pf35 : HID (F 27 9 = (D 35 : Int))) (pf36 : HID (A 10 1 = (D 36 : Int))) (pf37 : HID (F 36 2 = (D 37 : Int))) (pf38 : HID (F 36 3 = (D 38 : Int))) (pf39 : HID (F 36 4 = (D 39 : Int))) (pf40 : HID (F 36 5 = (D 40 : Int))) (pf41 : HID (F 36 6 = (D 41 : Int))) (pf42 : HID (F 36 7 = (D 42 : Int))) (pf43 : HID (F 36 8 = (D 43 : Int))) (pf44 : HID (F 36 9 = (D 44 : Int))) (pf45 : HID (A 10 2 = (D 45 : Int))) (pf46 : HID (F 45 2 = (D 46 : Int))) (pf47 : HID (F 45 3 = (D 47 : Int))) (pf48 : HID (F 45 4 = (D 48 : Int))) (pf49 : HID (F 45 5 = (D 49 : Int))) (pf50 : HID (F 45 6 = (D 50 : Int))) (pf51 : HID (F 45 7 = (D 51 : Int))) (pf52 : HID (F 45 8 = (D 52 : Int))) (pf53 : HID (F 45 9 = (D 53 : Int))) (pf54 : HID (F 5 9 = (D 54 : Int))) (n2 : Int) (en2 : HID ((N 2 : Int) = n2)) (n4 : Int) (en4 : HID ((N 4 : Int) = n4)) (n6 : Int) (en6 : HID ((N 6 : Int) = n6)) (n8 : Int) (en8 : HID ((N 8 : Int) = n8)) (n9 : Int) (en9 : HID ((N 9 : Int) = n9)) (n10 : Int) (en10 : HID ((N 10 : Int) = n10)) (n11 : Int) (en11 : HID ((N 11 : Int) = n11)) (n12 : Int) (en12 : HID ((N 12 : Int) = n12)) (n13 : Int) (en13 : HID ((N 13 : Int) = n13)) (n14 : Int) (en14 : HID ((N 14 : Int) = n14)) (n15 : Int) (en15 : HID ((N 15 : Int) = n15)) (n16 : Int) (en16 : HID ((N 16 : Int) = n16)) (n17 : Int) (en17 : HID ((N 17 : Int) = n17)) (n19 : Int) (en19 : HID ((N 19 : Int) = n19)) (n20 : Int) (en20 : HID ((N 20 : Int) = n20)) (n21 : Int) (en21 : HID ((N 21 : Int) = n21)) (n22 : Int) (en22 : HID ((N 22 : Int) = n22)) (n23 : Int) (en23 : HID ((N 23 : Int) = n23)) (n24 : Int) (en24 : HID ((N 24 : Int) = n24)) (n25 : Int) (en25 : HID ((N 25 : Int) = n25)) (n26 : Int) (en26 : HID ((N 26 : Int) = n26)) (n28 : Int) (en28 : HID ((N 28 : Int) = n28)) (n29 : Int) (en29 : HID ((N 29 : Int) = n29)) (n30 : Int) (en30 : HID ((N 30 : Int) = n30)) (n31 : Int) (en31 : HID ((N 31 : Int) = n31)) (n32 : Int) (en32 : HID ((N 32 : Int) = n32)) (n33 : Int) (en33 : HID ((N 33 : Int) = n33)) (n34 : Int) (en34 : HID ((N 34 : Int) = n34)) (n35 : Int) (en35 : HID ((N 35 : Int) = n35)) (n37 : Int) (en37 : HID ((N 37 : Int) = n37)) (n38 : Int) (en38 : HID ((N 38 : Int) = n38)) (n39 : Int) (en39 : HID ((N 39 : Int) = n39)) (n40 : Int) (en40 : HID ((N 40 : Int) = n40)) (n41 : Int) (en41 : HID ((N 41 : Int) = n41)) (n42 : Int) (en42 : HID ((N 42 : Int) = n42)) (n43 : Int) (en43 : HID ((N 43 : Int) = n43)) (n44 : Int) (en44 : HID ((N 44 : Int) = n44)) (n46 : Int) (en46 : HID ((N 46 : Int) = n46)) (n47 : Int) (en47 : HID ((N 47 : Int) = n47)) (n48 : Int) (en48 : HID ((N 48 : Int) = n48)) (n49 : Int) (en49 : HID ((N 49 : Int) = n49)) (n50 : Int) (en50 : HID ((N 50 : Int) = n50)) (n51 : Int) (en51 : HID ((N 51 : Int) = n51)) (n52 : Int) (en52 : HID ((N 52 : Int) = n52)) (n53 : Int) (en53 : HID ((N 53 : Int) = n53)) (u0_2 : Int) (eu0_2 : HID (F 0 2 = u0_2)) (u3_1 : Int) (eu3_1 : HID (F 3 1 = u3_1)) (u3_2 : Int) (eu3_2 : HID (F 3 2 = u3_2)) (u5_3 : Int) (eu5_3 : HID (F 5 3 = u5_3)) (u7_0 : Int) (eu7_0 : HID (F 7 0 = u7_0)) (u18_1 : Int) (eu18_1 : HID (F 18 1 = u18_1)) (u27_0 : Int) (eu27_0 : HID (F 27 0 = u27_0)) (u27_1 : Int) (eu27_1 : HID (F 27 1 = u27_1)) (u36_0 : Int) (eu36_0 : HID (F 36 0 = u36_0)) (u36_1 : Int) (eu36_1 : HID (F 36 1 = u36_1)) (u45_0 : Int) (eu45_0 : HID (F 45 0 = u45_0)) (u45_1 : Int) (eu45_1 : HID (F 45 1 = u45_1)) (w2 : Int → Int) (ew2 : A 2 = w2) (w4 : Int → Int) (ew4 : A 4 = w4) (w6 : Int → Int) (ew6 : A 6 = w6) (w8 : Int → Int) (ew8 : A 8 = w8) (w9 : Int → Int) (ew9 : A 9 = w9) (w11 : Int → Int) (ew11 : A 11 = w11) (w12 : Int → Int) (ew12 : A 12 = w12) (w28 : Int → Int) (ew28 : A 28 = w28) (w29 : Int → Int) (ew29 : A 29 = w29) (w30 : Int → Int) (ew30 : A 30 = w30) (w31 : Int → Int) (ew31 : A 31 = w31) (w33 : Int → Int) (ew33 : A 33 = w33) (w34 : Int → Int) (ew34 : A 34 = w34) (w35 : Int → Int) (ew35 : A 35 = w35) (w37 : Int → Int) (ew37 : A 37 = w37) (w38 : Int → Int) (ew38 : A 38 = w38) (w39 : Int → Int) (ew39 : A 39 = w39) (w40 : Int → Int) (ew40 : A 40 = w40) (w42 : Int → Int) (ew42 : A 42 = w42) (w43 : Int → Int) (ew43 : A 43 = w43) (w44 : Int → Int) (ew44 : A 44 = w44) (w46 : Int → Int) (ew46 : A 46 = w46) (w47 : Int → Int) (ew47 : A 47 = w47) (w48 : Int → Int) (ew48 : A 48 = w48) (w49 : Int → Int) (ew49 : A 49 = w49) (w51 : Int → Int) (ew51 : A 51 = w51) (w52 : Int → Int) (ew52 : A 52 = w52) (w53 : Int → Int) (ew53 : A 53 = w53) {ls : rO} (hl0 : rlook ls 0 = some (.ref (D 0))) (hl2 : rlook ls 2 = some (.ref (D 2))) (hl3 : rlook ls 3 = some (I (x3))) (h0 : inr (x3)) (h1 : 8 ≤ (x3) ∧ (x3) ≤ (n2) ∧ (n2) ≤ 65536) (h2 : 0 ≤ (u3_1) ∧ (u3_1) ≤ (n4) ∧ (n4) ≤ 65536) (h3 : (u3_1) = 0) (h4 : (u3_2) = 0) (h5 : CEL ((w6))) (h6 : nvl (ub8 ((w2))) 0 4 = 3962610743) (h7 : (u0_2) % 4294967296 = nvl (ub8 ((w2))) 4 4) (h8 : (n8) = 3 ∧ (n9) = 3 ∧ (n10) = 3) (h9 : CDZD ((n11)) ((n12)) ((n6)) ((n13)) ((n14)) ((n15)) ((n16)) ((n17))) (h10 : SHZD ((n19)) ((n20)) ((n21)) ((n22)) ((n23)) ((n24)) ((n25)) ((n26)) ((u18_1)) 12 64) (h11 : SHZD ((n28)) ((n29)) ((n30)) ((n31)) ((n32)) ((n33)) ((n34)) ((n35)) ((u27_1)) 36 512) (h12 : SHZD ((n37)) ((n38)) ((n39)) ((n40)) ((n41)) ((n42)) ((n43)) ((n44)) ((u36_1)) 32 256) (h13 : SHZD ((n46)) ((n47)) ((n48)) ((n49)) ((n50)) ((n51)) ((n52)) ((n53)) ((u45_1)) 53 512) (k : ∀ (z : Int) (σ : rS) (Dₚ Nₚ : Nat → Nat) (Fₚ : hF) (Aₚ : hA) (cₚ sₚ : Nat), HW V115_Row_vHB σ Dₚ Nₚ Fₚ Aₚ → OUT (V115_Row_vHB).length D N σE c s Dₚ Nₚ σ cₚ sₚ → SD [4] D Dₚ → SD [4] N Nₚ → SF [(3, 0), (3, 1), (3, 2), (5, 3), (7, 0), (18, 0), (18, 10), (18, 11), (18, 12), (27, 0), (27, 10), (27, 11), (27, 12), (36, 0), (36, 10), (36, 11), (36, 12), (45, 0), (45, 10), (45, 11), (45, 12), (54, 0), (54, 1), (54, 2)] F Fₚ → SA [4, 6, 8, 9, 11, 12, 13, 19, 20, 21, 22, 23, 24, 25, 26, 28, 29, 30, 31, 32, 33, 34, 35, 37, 38, 39, 40, 41, 42, 43, 44, 46, 47, 48, 49, 50, 51, 52, 53] A Aₚ → Fₚ 3 0 = (Dₚ 4 : Int) → ∀ m4 : Int, (Nₚ 4 : Int) = m4 → ∀ y3_1 : Int, Fₚ 3 1 = y3_1 → ∀ y3_2 : Int, Fₚ 3 2 = y3_2 → ∀ y5_3 : Int, Fₚ 5 3 = y5_3 → ∀ y7_0 : Int, Fₚ 7 0 = y7_0 → ∀ y27_0 : Int, Fₚ 27 0 = y27_0 → ∀ y36_0 : Int, Fₚ 36 0 = y36_0 → ∀ y45_0 : Int, Fₚ 45 0 = y45_0 → ∀ v4 : Int → Int, Aₚ 4 = v4 → ∀ v6 : Int → Int, Aₚ 6 = v6 → ∀ v8 : Int → Int, Aₚ 8 = v8 → ∀ v9 : Int → Int, Aₚ 9 = v9 → ∀ v11 : Int → Int, Aₚ 11 = v11 → ∀ v12 : Int → Int, Aₚ 12 = v12 → ∀ v28 : Int → Int, Aₚ 28 = v28 → ∀ v29 : Int → Int, Aₚ 29 = v29 → ∀ v30 : Int → Int, Aₚ 30 = v30 → ∀ v31 : Int → Int, Aₚ 31 = v31 → ∀ v33 : Int → Int, Aₚ 33 = v33 → ∀ v34 : Int → Int, Aₚ 34 = v34 → ∀ v35 : Int → Int, Aₚ 35 = v35 → ∀ v37 : Int → Int, Aₚ 37 = v37 → ∀ v38 : Int → Int, Aₚ 38 = v38 → ∀ v39 : Int → Int, Aₚ 39 = v39 → ∀ v40 : Int → Int, Aₚ 40 = v40 → ∀ v42 : Int → Int, Aₚ 42 = v42 → ∀ v43 : Int → Int, Aₚ 43 = v43 → ∀ v44 : Int → Int, Aₚ 44 = v44 → ∀ v46 : Int → Int, Aₚ 46 = v46 → ∀ v47 : Int → Int, Aₚ 47 = v47 → ∀ v48 : Int → Int, Aₚ 48 = v48 → ∀ v49 : Int → Int, Aₚ 49 = v49 → ∀ v51 : Int → Int, Aₚ 51 = v51 → ∀ v52 : Int → Int, Aₚ 52 = v52 → ∀ v53 : Int → Int, Aₚ 53 = v53 → (inr (z)) → (0 ≤ (y3_1) ∧ (y3_1) ≤ (m4) ∧ (m4) ≤ 65536) → (-4 ≤ (z) ∧ (z) ≤ 65536) → ((z) < 0 ∨ (y3_1) ≤ (z)) → (CEL ((v6))) → ((z) < 0 ∨ (y7_0) = -1 ∨ (y7_0) = (((Dₚ 5 : Nat) : Int)) ∧ 0 ≤ (y5_3) ∧ (y5_3) ≤ 11) → ((z) < 0 ∨ (y7_0) = -1 ∨ LNG ((v11)) ((y5_3))) → ((z) < 0 ∨ ((v8)) 0 = -1 ∨ ((v8)) 0 = (((Dₚ 27 : Nat) : Int))) → ((z) < 0 ∨ ((v8)) 1 = -1 ∨ ((v8)) 1 = (((Dₚ 36 : Nat) : Int))) → ((z) < 0 ∨ ((v8)) 2 = -1 ∨ ((v8)) 2 = (((Dₚ 45 : Nat) : Int))) → ((z) < 0 ∨ ((v8)) 0 = -1 ∨ SL ((v28)) ((u27_1)) ((y27_0)) ((v29)) ((v30)) ((v31)) ((v33)) ((v34)) ((v35))) → ((z) < 0 ∨ ((v8)) 1 = -1 ∨ SL ((v37)) ((u36_1)) ((y36_0)) ((v38)) ((v39)) ((v40)) ((v42)) ((v43)) ((v44))) → ((z) < 0 ∨ ((v8)) 2 = -1 ∨ SL ((v46)) ((u45_1)) ((y45_0)) ((v47)) ((v48)) ((v49)) ((v51)) ((v52)) ((v53))) → ((z) < 0 ∨ ((v8)) 0 = -1 ∨ (y27_0) ≤ 9) → ((z) < 0 ∨ ((v8)) 1 = -1 ∨ (y36_0) ≤ 8) → ((z) < 0 ∨ ((v8)) 2 = -1 ∨ (y45_0) ≤ 9) → ((z) = (LNF (ub8 ((w2))) ((x3))).1) → (IMP (0 ≤ (z)) (DCK (LNF (ub8 ((w2))) ((x3))).2 (sc ((v4)) 0 ((y3_1))) ((u0_2)) ((v9)))) → (IMP (0 ≤ (z)) (DCQ (LNF (ub8 ((w2))) ((x3))).2.2.2.1 ((y7_0)) ((y5_3)) ((v6)))) → (IMP (0 ≤ (z)) (DCT ((LNF (ub8 ((w2))) ((x3))).2.2.2.2.1 0) (((v8)) 0) ((y27_0)) ((u27_1)) ((v28)))) → (IMP (0 ≤ (z)) (DCT ((LNF (ub8 ((w2))) ((x3))).2.2.2.2.1 1) (((v8)) 1) ((y36_0)) ((u36_1)) ((v37)))) → (IMP (0 ≤ (z)) (DCT ((LNF (ub8 ((w2))) ((x3))).2.2.2.2.1 2) (((v8)) 2) ((y45_0)) ((u45_1)) ((v46)))) → (IMP (0 ≤ (z)) (DCW (LNF (ub8 ((w2))) ((x3))).2.2.2.1 ((y7_0)) ((y5_3)) ((v11)) ((v6)) ((v12)))) → ((z) < 0 ∨ (y3_2) = 0) → Q (some (I z)) σ cₚ sₚ) : Ew 115 (d + 5) 60 ls [] σE c s Q := by
  have O := OUT_refl (n := (V115_Row_vHB).length) (D := D) (N := N) (σ := σE) (c := c) (s := s)
  have HE := H
  have r1 : (-2147483648 : Int) ≤ u0_2 ∧ u0_2 ≤ 2147483647 := rngE (show (-2147483648 : Int) ≤ F 0 2 ∧ F 0 2 ≤ 2147483647 from H.krg 0 2 (ltn len_V115_Row_vHB_oz_T9kcls rfl)) (show F 0 2 = u0_2 from (eu0_2))
  have r2 : (-2147483648 : Int) ≤ u3_1 ∧ u3_1 ≤ 2147483647 := rngE (show (-2147483648 : Int) ≤ F 3 1 ∧ F 3 1 ≤ 2147483647 from H.krg 3 1 (ltn len_V115_Row_vHB_oz_T9kcls rfl)) (show F 3 1 = u3_1 from (eu3_1))
  have r3 : (0 : Int) ≤ u3_2 ∧ u3_2 ≤ 1 := rngE (show (0 : Int) ≤ F 3 2 ∧ F 3 2 ≤ 1 from H.krg 3 2 (ltn len_V115_Row_vHB_oz_T9kcls rfl)) (show F 3 2 = u3_2 from (eu3_2))
  have r4 : (-2147483648 : Int) ≤ u5_3 ∧ u5_3 ≤ 2147483647 := rngE (show (-2147483648 : Int) ≤ F 5 3 ∧ F 5 3 ≤ 2147483647 from H.krg 5 3 (ltn len_V115_Row_vHB_oz_T9kcls rfl)) (show F 5 3 = u5_3 from (eu5_3))
  have r5 : (-2147483648 : Int) ≤ u18_1 ∧ u18_1 ≤ 2147483647 := rngE (show (-2147483648 : Int) ≤ F 18 1 ∧ F 18 1 ≤ 2147483647 from H.krg 18 1 (ltn len_V115_Row_vHB_oz_T9kcls rfl)) (show F 18 1 = u18_1 from (eu18_1))
  have r6 : (-2147483648 : Int) ≤ u27_0 ∧ u27_0 ≤ 2147483647 := rngE (show (-2147483648 : Int) ≤ F 27 0 ∧ F 27 0 ≤ 2147483647 from H.krg 27 0 (ltn len_V115_Row_vHB_oz_T9kcls rfl)) (show F 27 0 = u27_0 from (eu27_0))
  have r7 : (-2147483648 : Int) ≤ u27_1 ∧ u27_1 ≤ 2147483647 := rngE (show (-2147483648 : Int) ≤ F 27 1 ∧ F 27 1 ≤ 2147483647 from H.krg 27 1 (ltn len_V115_Row_vHB_oz_T9kcls rfl)) (show F 27 1 = u27_1 from (eu27_1))
  have r8 : (-2147483648 : Int) ≤ u36_0 ∧ u36_0 ≤ 2147483647 := rngE (show (-2147483648 : Int) ≤ F 36 0 ∧ F 36 0 ≤ 2147483647 from H.krg 36 0 (ltn len_V115_Row_vHB_oz_T9kcls rfl)) (show F 36 0 = u36_0 from (eu36_0))
  have r9 : (-2147483648 : Int) ≤ u36_1 ∧ u36_1 ≤ 2147483647 := rngE (show (-2147483648 : Int) ≤ F 36 1 ∧ F 36 1 ≤ 2147483647 from H.krg 36 1 (ltn len_V115_Row_vHB_oz_T9kcls rfl)) (show F 36 1 = u36_1 from (eu36_1))
  have r10 : (-2147483648 : Int) ≤ u45_0 ∧ u45_0 ≤ 2147483647 := rngE (show (-2147483648 : Int) ≤ F 45 0 ∧ F 45 0 ≤ 2147483647 from H.krg 45 0 (ltn len_V115_Row_vHB_oz_T9kcls rfl)) (show F 45 0 = u45_0 from (eu45_0))
  have r11 : (-2147483648 : Int) ≤ u45_1 ∧ u45_1 ≤ 2147483647 := rngE (show (-2147483648 : Int) ≤ F 45 1 ∧ F 45 1 ≤ 2147483647 from H.krg 45 1 (ltn len_V115_Row_vHB_oz_T9kcls rfl)) (show F 45 1 = u45_1 from (eu45_1))
  have r12 : (0 : Int) ≤ n2 ∧ n2 ≤ 1000000 := nleE (H.nle 2 (ltn len_V115_Row_vHB_oz_T9kcls rfl)) (show (N 2 : Int) = n2 from en2)
  have r13 : (0 : Int) ≤ n4 ∧ n4 ≤ 1000000 := nleE (H.nle 4 (ltn len_V115_Row_vHB_oz_T9kcls rfl)) (show (N 4 : Int) = n4 from en4)
  have r14 : (0 : Int) ≤ n6 ∧ n6 ≤ 1000000 := nleE (H.nle 6 (ltn len_V115_Row_vHB_oz_T9kcls rfl)) (show (N 6 : Int) = n6 from en6)
  have r15 : (0 : Int) ≤ n8 ∧ n8 ≤ 1000000 := nleE (H.nle 8 (ltn len_V115_Row_vHB_oz_T9kcls rfl)) (show (N 8 : Int) = n8 from en8)
  have r16 : (0 : Int) ≤ n9 ∧ n9 ≤ 1000000 := nleE (H.nle 9 (ltn len_V115_Row_vHB_oz_T9kcls rfl)) (show (N 9 : Int) = n9 from en9)
  have r17 : (0 : Int) ≤ n10 ∧ n10 ≤ 1000000 := nleE (H.nle 10 (ltn len_V115_Row_vHB_oz_T9kcls rfl)) (show (N 10 : Int) = n10 from en10)
  have r18 : (0 : Int) ≤ n11 ∧ n11 ≤ 1000000 := nleE (H.nle 11 (ltn len_V115_Row_vHB_oz_T9kcls rfl)) (show (N 11 : Int) = n11 from en11)
  have r19 : (0 : Int) ≤ n12 ∧ n12 ≤ 1000000 := nleE (H.nle 12 (ltn len_V115_Row_vHB_oz_T9kcls rfl)) (show (N 12 : Int) = n12 from en12)
  have r20 : (0 : Int) ≤ n13 ∧ n13 ≤ 1000000 := nleE (H.nle 13 (ltn len_V115_Row_vHB_oz_T9kcls rfl)) (show (N 13 : Int) = n13 from en13)
  have r21 : (0 : Int) ≤ n14 ∧ n14 ≤ 1000000 := nleE (H.nle 14 (ltn len_V115_Row_vHB_oz_T9kcls rfl)) (show (N 14 : Int) = n14 from en14)
  have r22 : (0 : Int) ≤ n15 ∧ n15 ≤ 1000000 := nleE (H.nle 15 (ltn len_V115_Row_vHB_oz_T9kcls rfl)) (show (N 15 : Int) = n15 from en15)
  have r23 : (0 : Int) ≤ n16 ∧ n16 ≤ 1000000 := nleE (H.nle 16 (ltn len_V115_Row_vHB_oz_T9kcls rfl)) (show (N 16 : Int) = n16 from en16)
  have r24 : (0 : Int) ≤ n17 ∧ n17 ≤ 1000000 := nleE (H.nle 17 (ltn len_V115_Row_vHB_oz_T9kcls rfl)) (show (N 17 : Int) = n17 from en17)
  have r25 : (0 : Int) ≤ n19 ∧ n19 ≤ 1000000 := nleE (H.nle 19 (ltn len_V115_Row_vHB_oz_T9kcls rfl)) (show (N 19 : Int) = n19 from en19)
  have r26 : (0 : Int) ≤ n20 ∧ n20 ≤ 1000000 := nleE (H.nle 20 (ltn len_V115_Row_vHB_oz_T9kcls rfl)) (show (N 20 : Int) = n20 from en20)
  have r27 : (0 : Int) ≤ n21 ∧ n21 ≤ 1000000 := nleE (H.nle 21 (ltn len_V115_Row_vHB_oz_T9kcls rfl)) (show (N 21 : Int) = n21 from en21)
  have r28 : (0 : Int) ≤ n22 ∧ n22 ≤ 1000000 := nleE (H.nle 22 (ltn len_V115_Row_vHB_oz_T9kcls rfl)) (show (N 22 : Int) = n22 from en22)
  have r29 : (0 : Int) ≤ n23 ∧ n23 ≤ 1000000 := nleE (H.nle 23 (ltn len_V115_Row_vHB_oz_T9kcls rfl)) (show (N 23 : Int) = n23 from en23)
  have r30 : (0 : Int) ≤ n24 ∧ n24 ≤ 1000000 := nleE (H.nle 24 (ltn len_V115_Row_vHB_oz_T9kcls rfl)) (show (N 24 : Int) = n24 from en24)
  have r31 : (0 : Int) ≤ n25 ∧ n25 ≤ 1000000 := nleE (H.nle 25 (ltn len_V115_Row_vHB_oz_T9kcls rfl)) (show (N 25 : Int) = n25 from en25)
  have r32 : (0 : Int) ≤ n26 ∧ n26 ≤ 1000000 := nleE (H.nle 26 (ltn len_V115_Row_vHB_oz_T9kcls rfl)) (show (N 26 : Int) = n26 from en26)
  have r33 : (0 : Int) ≤ n28 ∧ n28 ≤ 1000000 := nleE (H.nle 28 (ltn len_V115_Row_vHB_oz_T9kcls rfl)) (show (N 28 : Int) = n28 from en28)
  have r34 : (0 : Int) ≤ n29 ∧ n29 ≤ 1000000 := nleE (H.nle 29 (ltn len_V115_Row_vHB_oz_T9kcls rfl)) (show (N 29 : Int) = n29 from en29)
  have r35 : (0 : Int) ≤ n30 ∧ n30 ≤ 1000000 := nleE (H.nle 30 (ltn len_V115_Row_vHB_oz_T9kcls rfl)) (show (N 30 : Int) = n30 from en30)
  have r36 : (0 : Int) ≤ n31 ∧ n31 ≤ 1000000 := nleE (H.nle 31 (ltn len_V115_Row_vHB_oz_T9kcls rfl)) (show (N 31 : Int) = n31 from en31)
  have r37 : (0 : Int) ≤ n32 ∧ n32 ≤ 1000000 := nleE (H.nle 32 (ltn len_V115_Row_vHB_oz_T9kcls rfl)) (show (N 32 : Int) = n32 from en32)
  have r38 : (0 : Int) ≤ n33 ∧ n33 ≤ 1000000 := nleE (H.nle 33 (ltn len_V115_Row_vHB_oz_T9kcls rfl)) (show (N 33 : Int) = n33 from en33)
  have r39 : (0 : Int) ≤ n34 ∧ n34 ≤ 1000000 := nleE (H.nle 34 (ltn len_V115_Row_vHB_oz_T9kcls rfl)) (show (N 34 : Int) = n34 from en34)
  have r40 : (0 : Int) ≤ n35 ∧ n35 ≤ 1000000 := nleE (H.nle 35 (ltn len_V115_Row_vHB_oz_T9kcls rfl)) (show (N 35 : Int) = n35 from en35)
  have r41 : (0 : Int) ≤ n37 ∧ n37 ≤ 1000000 := nleE (H.nle 37 (ltn len_V115_Row_vHB_oz_T9kcls rfl)) (show (N 37 : Int) = n37 from en37)
  have r42 : (0 : Int) ≤ n38 ∧ n38 ≤ 1000000 := nleE (H.nle 38 (ltn len_V115_Row_vHB_oz_T9kcls rfl)) (show (N 38 : Int) = n38 from en38)
  have r43 : (0 : Int) ≤ n39 ∧ n39 ≤ 1000000 := nleE (H.nle 39 (ltn len_V115_Row_vHB_oz_T9kcls rfl)) (show (N 39 : Int) = n39 from en39)
  have r44 : (0 : Int) ≤ n40 ∧ n40 ≤ 1000000 := nleE (H.nle 40 (ltn len_V115_Row_vHB_oz_T9kcls rfl)) (show (N 40 : Int) = n40 from en40)
  have r45 : (0 : Int) ≤ n41 ∧ n41 ≤ 1000000 := nleE (H.nle 41 (ltn len_V115_Row_vHB_oz_T9kcls rfl)) (show (N 41 : Int) = n41 from en41)
  have r46 : (0 : Int) ≤ n42 ∧ n42 ≤ 1000000 := nleE (H.nle 42 (ltn len_V115_Row_vHB_oz_T9kcls rfl)) (show (N 42 : Int) = n42 from en42)
  have r47 : (0 : Int) ≤ n43 ∧ n43 ≤ 1000000 := nleE (H.nle 43 (ltn len_V115_Row_vHB_oz_T9kcls rfl)) (show (N 43 : Int) = n43 from en43)
  have r48 : (0 : Int) ≤ n44 ∧ n44 ≤ 1000000 := nleE (H.nle 44 (ltn len_V115_Row_vHB_oz_T9kcls rfl)) (show (N 44 : Int) = n44 from en44)
  have r49 : (0 : Int) ≤ n46 ∧ n46 ≤ 1000000 := nleE (H.nle 46 (ltn len_V115_Row_vHB_oz_T9kcls rfl)) (show (N 46 : Int) = n46 from en46)
  have r50 : (0 : Int) ≤ n47 ∧ n47 ≤ 1000000 := nleE (H.nle 47 (ltn len_V115_Row_vHB_oz_T9kcls rfl)) (show (N 47 : Int) = n47 from en47)
  have r51 : (0 : Int) ≤ n48 ∧ n48 ≤ 1000000 := nleE (H.nle 48 (ltn len_V115_Row_vHB_oz_T9kcls rfl)) (show (N 48 : Int) = n48 from en48)
  have r52 : (0 : Int) ≤ n49 ∧ n49 ≤ 1000000 := nleE (H.nle 49 (ltn len_V115_Row_vHB_oz_T9kcls rfl)) (show (N 49 : Int) = n49 from en49)
  have r53 : (0 : Int) ≤ n50 ∧ n50 ≤ 1000000 := nleE (H.nle 50 (ltn len_V115_Row_vHB_oz_T9kcls rfl)) (show (N 50 : Int) = n50 from en50)
  have r54 : (0 : Int) ≤ n51 ∧ n51 ≤ 1000000 := nleE (H.nle 51 (ltn len_V115_Row_vHB_oz_T9kcls rfl)) (show (N 51 : Int) = n51 from en51)
  have r55 : (0 : Int) ≤ n52 ∧ n52 ≤ 1000000 := nleE (H.nle 52 (ltn len_V115_Row_vHB_oz_T9kcls rfl)) (show (N 52 : Int) = n52 from en52)
  have r56 : (0 : Int) ≤ n53 ∧ n53 ≤ 1000000 := nleE (H.nle 53 (ltn len_V115_Row_vHB_oz_T9kcls rfl)) (show (N 53 : Int) = n53 from en53)
  have hmk : nvl (ub8 ((w2))) 0 4 = 3962610743 := h6
  have hid : (u0_2) % 4294967296 = nvl (ub8 ((w2))) 4 4 := h7
  have hsy0 : SHZD ((n28)) ((n29)) ((n30)) ((n31)) ((n32)) ((n33)) ((n34)) ((n35)) ((u27_1)) 36 512 := h11
  unfold SHZD at hsy0
  have hsn0 : (u27_1) = 36 := by omega
  (try clear hsy0)
  have hsy1 : SHZD ((n37)) ((n38)) ((n39)) ((n40)) ((n41)) ((n42)) ((n43)) ((n44)) ((u36_1)) 32 256 := h12
  unfold SHZD at hsy1
  have hsn1 : (u36_1) = 32 := by omega
  (try clear hsy1)
  have hsy2 : SHZD ((n46)) ((n47)) ((n48)) ((n49)) ((n50)) ((n51)) ((n52)) ((n53)) ((u45_1)) 53 512 := h13
  unfold SHZD at hsy2
  have hsn2 : (u45_1) = 53 := by omega
  (try clear hsy2)
  refine Ew_of (pcₚ := 61) (fun _ => x_aload_n rfl hl0) ?_
  refine v_g H (o := 0) (v := .ref (D 5)) rfl rfl rfl rfl rfl (vrf (pf5)) ?_
  refine Ew_of (pcₚ := 65) (fun _ => x_aload_n rfl hl2) ?_
  refine Ew_of (pcₚ := 67) (fun _ => x_bipush (z := 8) rfl (by decide)) ?_
  refine Ew_of (pcₚ := 68) (fun _ => x_iload_n rfl hl3) ?_
  have hczk : CDZD ((n11)) ((n12)) ((n6)) ((n13)) ((n14)) ((n15)) ((n16)) ((n17)) := h9
  unfold CDZD at hczk
  have hwzk : SHZD ((n19)) ((n20)) ((n21)) ((n22)) ((n23)) ((n24)) ((n25)) ((n26)) ((u18_1)) 12 64 := h10
  unfold SHZD at hwzk
  refine v_inv H (o := 5) rfl rfl rfl rfl rfl rfl (by rfl) (C107_Br (D := puc 2354247551354069223132640341011653593400325 D) (N := puc 2354247551354069223132640341011653593400325 N) (HW_subc H oz_T9kcls_12 oz_T9kcls_20) (pf13) (pf11) (pf12) (pf6) (pf18) (pf19) (pf20) (pf21) (pf22) (pf23) (pf25) (pf24) (pf26) (pf54) (n2) (en2) (n13) (en13) (n11) (en11) (n12) (en12) (n6) (en6) (n19) (en19) (n20) (en20) (n21) (en21) (n22) (en22) (n23) (en23) (n25) (en25) (n24) (en24) (n26) (en26) (u5_3) ((eu5_3)) (u18_1) ((eu18_1)) (w2) (ew2) (w11) (ew11) (w12) (ew12) (w6) (ew6) (show inr (8) from q_141) (show inr (x3) from h0) (show 0 ≤ (8) ∧ (8) ≤ 65536 ∧ 0 ≤ (x3) ∧ (x3) ≤ (n2) ∧ (n2) ≤ 65536 from q_4800 h1) (show (n13) = 256 ∧ (n11) = 256 ∧ (n12) = 256 ∧ (n6) = 2048 by omega) (show (n19) = (u18_1) ∧ (n20) = (u18_1) ∧ (n21) = (u18_1) ∧ (n22) = (u18_1) ∧ (n23) = (u18_1) ∧ (n25) = (n24) ∧ (n26) = (n24) ∧ 1 ≤ (u18_1) ∧ (u18_1) ≤ 64 ∧ (u18_1) = 12 ∧ (n24) = 64 by omega) (h5) (fun z57 σ57 F57ₚ A57ₚ Hₚ Oₚ hS57 hA57 y57_0_3 (ey57_0_3 : HID _) w57_3 ew57_3 w57_4 ew57_4 w57_5 ew57_5 pz57_0 pz57_1 pz57_2 pz57_3 pz57_4 pz57_5 pz57_6 pz57_7 => ⟨rfl, ?_⟩))
  refine v_backc (c := c) (s := s) H oz_T9kcls_12 oz_T9kcls_20 Hₚ Oₚ (fun F57 A57 H Oₚ eF57 eA57 => ?_)
  have O := OUT_trans O Oₚ
  -- Codes.hear
  have cF57 : SF oz_T9kclsl_6 F F57 := SF_trans (SF_refl) (SF_gluc (ι := oz_T9kclsl_8) oz_T9kcls_20 hS57 eF57 (by decide +kernel)) (any_sub (lₚ := [(5, 3), (18, 0), (18, 10), (18, 11), (18, 12), (54, 0), (54, 1), (54, 2)]) (by decide +kernel))
  have mF57 := SFm_of cF57 oz_T9kcls_18
  have cA57 : SA oz_T9kclsl_7 A A57 := SA_trans (SA_refl) (SA_gluc (ι := oz_T9kclsl_8) oz_T9kcls_20 hA57 eA57 (by decide +kernel)) (any_subA (lₚ := [6, 11, 12, 13, 19, 20, 21, 22, 23, 24, 25, 26]) (by decide +kernel))
  have mA57 := SAm_of cA57 oz_T9kcls_19
  have r58 : (-2147483648 : Int) ≤ y57_0_3 ∧ y57_0_3 ≤ 2147483647 := rngE (show (-2147483648 : Int) ≤ F57 5 3 ∧ F57 5 3 ≤ 2147483647 from H.krg 5 3 (ltn len_V115_Row_vHB_oz_T9kcls rfl)) (show F57 5 3 = y57_0_3 from ((eF57 5 3).trans ey57_0_3))
  (try clear hczk); (try clear hwzk)
  have hcr : z57 = -1 ∨ 8 < z57 ∧ z57 ≤ (x3) := pz57_1
  have hcg : z57 = -1 ∨ 0 ≤ ((y57_0_3)) ∧ ((y57_0_3)) ≤ 11 := pz57_3
  have hcg2 := pz57_4
  have hds : DSA (ub8 ((w2))) 8 ((x3)) (z57) ((y57_0_3)) ((w57_3)) := pz57_5
  have hCI : IMP (z57 ≠ -1) (CI ((w57_3)) ((y57_0_3))) := pz57_6
  have hCX := pz57_7
  try clear pz57_1
  try clear pz57_3
  refine Ew_of (pcₚ := 73) (fun _ => x_istore rfl) ?_
  refine Ew_of (pcₚ := 75) (fun _ => x_iload rfl rk_s) ?_
  refine w_ifge (t := 81) rfl rfl (show inr (z57) from pz57_0) (fun b59 => ?_) (fun b59 => ?_)
  · refine Ew_of (pcₚ := 82) (fun _ => x_aload_n rfl (rk_o (hl0) rfl rfl)) ?_
    refine Ew_of (pcₚ := 83) (fun _ => x_iconst rfl) ?_
    refine Ew_of (pcₚ := 84) (fun _ => x_aload_n rfl (rk_o (hl2) rfl rfl)) ?_
    refine Ew_of (pcₚ := 86) (fun _ => x_iload rfl rk_s) ?_
    refine Ew_of (pcₚ := 87) (fun _ => x_iload_n rfl (rk_o (hl3) rfl rfl)) ?_
    refine v_inv H (o := 0) rfl rfl rfl rfl rfl rfl (by rfl) (C118_Br_c11 (D := puc 7324734946139394642758576963195765760 D) (N := puc 7324734946139394642758576963195765760 N) (HW_subc H oz_T9kcls_13 oz_T9kcls_21) (STC_out HT HE O) ((mF57 0 1 rfl).trans (pf7)) ((mF57 7 1 rfl).trans (pf8)) ((mF57 0 4 rfl).trans (pf10)) ((mA57 10 rfl 1).trans (pf36)) ((mF57 36 2 rfl).trans (pf37)) ((mF57 36 3 rfl).trans (pf38)) ((mF57 36 4 rfl).trans (pf39)) ((mF57 36 5 rfl).trans (pf40)) ((mF57 36 6 rfl).trans (pf41)) ((mF57 36 7 rfl).trans (pf42)) ((mF57 36 8 rfl).trans (pf43)) ((mF57 36 9 rfl).trans (pf44)) (n2) (en2) (n8) (en8) (n10) (en10) (n37) (en37) (n38) (en38) (n39) (en39) (n40) (en40) (n41) (en41) (n42) (en42) (n43) (en43) (n44) (en44) (u36_0) ((((show F57 36 0 = F 36 0 from (eF57 36 0))).trans (eu36_0))) (u36_1) (((mF57 36 1 rfl).trans (eu36_1))) (w2) ((funext (mA57 2 rfl)).trans (ew2)) (w8) (((show A57 8 = A 8 from (eA57 8))).trans (ew8)) (w37) (((show A57 37 = A 37 from (eA57 37))).trans (ew37)) (w38) (((show A57 38 = A 38 from (eA57 38))).trans (ew38)) (w39) (((show A57 39 = A 39 from (eA57 39))).trans (ew39)) (w40) (((show A57 40 = A 40 from (eA57 40))).trans (ew40)) (w42) (((show A57 42 = A 42 from (eA57 42))).trans (ew42)) (w43) (((show A57 43 = A 43 from (eA57 43))).trans (ew43)) (w44) (((show A57 44 = A 44 from (eA57 44))).trans (ew44)) (show inr (1) from q_135) (show inr (z57) from pz57_0) (show inr (x3) from h0) (show (z57) = -1 ∨ 0 ≤ (z57) ∧ (z57) ≤ (x3) by omega) (show 0 ≤ (x3) ∧ (x3) ≤ (n2) ∧ (n2) ≤ 65536 from q_4801 h1) (show (n8) = 3 ∧ (n10) = 3 from q_3887 h8) (h12) (fun z60 σ60 F60ₚ A60ₚ Hₚ Oₚ hS60 hA60 y60_5_0 (ey60_5_0 : HID _) w60_3 ew60_3 w60_6 ew60_6 w60_7 ew60_7 w60_8 ew60_8 w60_9 ew60_9 w60_11 ew60_11 w60_12 ew60_12 w60_13 ew60_13 pz60_0 pz60_1 pz60_2 pz60_3 pz60_4 pz60_5 pz60_6 pz60_7 pz60_8 => ⟨rfl, ?_⟩))
    refine v_backc (c := c) (s := s) H oz_T9kcls_13 oz_T9kcls_21 Hₚ Oₚ (fun F60 A60 H Oₚ eF60 eA60 => ?_)
    have O := OUT_trans O Oₚ
    -- Dictionary.hearTable
    have cF60 : SF oz_T9kclsl_6 F F60 := SF_trans (cF57) (SF_gluc (ι := oz_T9kclsl_9) oz_T9kcls_21 hS60 eF60 (by decide +kernel)) (any_sub (lₚ := [(36, 0), (36, 10), (36, 11), (36, 12)]) (by decide +kernel))
    have mF60 := SFm_of cF60 oz_T9kcls_18
    have cA60 : SA oz_T9kclsl_7 A A60 := SA_trans (cA57) (SA_gluc (ι := oz_T9kclsl_9) oz_T9kcls_21 hA60 eA60 (by decide +kernel)) (any_subA (lₚ := [8, 37, 38, 39, 40, 41, 42, 43, 44]) (by decide +kernel))
    have mA60 := SAm_of cA60 oz_T9kcls_19
    have r61 : (-2147483648 : Int) ≤ y60_5_0 ∧ y60_5_0 ≤ 2147483647 := rngE (show (-2147483648 : Int) ≤ F60 36 0 ∧ F60 36 0 ≤ 2147483647 from H.krg 36 0 (ltn len_V115_Row_vHB_oz_T9kcls rfl)) (show F60 36 0 = y60_5_0 from ((eF60 36 0).trans ey60_5_0))
    have ht1 : z60 = -1 ∨ 0 ≤ z60 ∧ z60 ≤ (x3) := by omega
    have hs1 := pz60_2
    have hgo1 : z60 = -1 ∨ (y60_5_0) ≤ 8 := pz60_4
    have hp1 : ((w60_3)) 1 = (((D 36 : Nat) : Int)) := pz60_3
    have hT1 := pz60_5
    try clear pz60_1
    try clear pz60_4
    try clear pz60_6
    try clear pz60_7
    try clear pz60_8
    refine Ew_of (pcₚ := 92) (fun _ => x_istore rfl) ?_
    refine Ew_of (pcₚ := 93) (fun _ => x_aload_n rfl (rk_o (rk_o (hl0) rfl rfl) rfl rfl)) ?_
    refine Ew_of (pcₚ := 94) (fun _ => x_iconst rfl) ?_
    refine Ew_of (pcₚ := 95) (fun _ => x_aload_n rfl (rk_o (rk_o (hl2) rfl rfl) rfl rfl)) ?_
    refine Ew_of (pcₚ := 97) (fun _ => x_iload rfl rk_s) ?_
    refine Ew_of (pcₚ := 98) (fun _ => x_iload_n rfl (rk_o (rk_o (hl3) rfl rfl) rfl rfl)) ?_
    refine v_inv H (o := 0) rfl rfl rfl rfl rfl rfl (by rfl) (C118_Br_c12 (D := puc 8823042823971315470141341249031635968 D) (N := puc 8823042823971315470141341249031635968 N) (HW_subc H oz_T9kcls_14 oz_T9kcls_22) (STC_out HT HE O) ((mF60 0 1 rfl).trans (pf7)) ((mF60 7 1 rfl).trans (pf8)) ((mF60 0 4 rfl).trans (pf10)) ((mA60 10 rfl 2).trans (pf45)) ((mF60 45 2 rfl).trans (pf46)) ((mF60 45 3 rfl).trans (pf47)) ((mF60 45 4 rfl).trans (pf48)) ((mF60 45 5 rfl).trans (pf49)) ((mF60 45 6 rfl).trans (pf50)) ((mF60 45 7 rfl).trans (pf51)) ((mF60 45 8 rfl).trans (pf52)) ((mF60 45 9 rfl).trans (pf53)) (n2) (en2) (n8) (en8) (n10) (en10) (n46) (en46) (n47) (en47) (n48) (en48) (n49) (en49) (n50) (en50) (n51) (en51) (n52) (en52) (n53) (en53) (u45_0) (((((show F60 45 0 = F57 45 0 from (eF60 45 0))).trans ((show F57 45 0 = F 45 0 from (eF57 45 0)))).trans (eu45_0))) (u45_1) (((mF60 45 1 rfl).trans (eu45_1))) (w2) ((funext (mA60 2 rfl)).trans (ew2)) (w60_3) ((eA60 8).trans ew60_3) (w46) (((show A60 46 = A57 46 from (eA60 46))).trans (((show A57 46 = A 46 from (eA57 46))).trans (ew46))) (w47) (((show A60 47 = A57 47 from (eA60 47))).trans (((show A57 47 = A 47 from (eA57 47))).trans (ew47))) (w48) (((show A60 48 = A57 48 from (eA60 48))).trans (((show A57 48 = A 48 from (eA57 48))).trans (ew48))) (w49) (((show A60 49 = A57 49 from (eA60 49))).trans (((show A57 49 = A 49 from (eA57 49))).trans (ew49))) (w51) (((show A60 51 = A57 51 from (eA60 51))).trans (((show A57 51 = A 51 from (eA57 51))).trans (ew51))) (w52) (((show A60 52 = A57 52 from (eA60 52))).trans (((show A57 52 = A 52 from (eA57 52))).trans (ew52))) (w53) (((show A60 53 = A57 53 from (eA60 53))).trans (((show A57 53 = A 53 from (eA57 53))).trans (ew53))) (show inr (2) from q_122) (show inr (z60) from pz60_0) (show inr (x3) from h0) (show (z60) = -1 ∨ 0 ≤ (z60) ∧ (z60) ≤ (x3) from ht1) (show 0 ≤ (x3) ∧ (x3) ≤ (n2) ∧ (n2) ≤ 65536 from q_4801 h1) (show (n8) = 3 ∧ (n10) = 3 from q_3887 h8) (h13) (fun z62 σ62 F62ₚ A62ₚ Hₚ Oₚ hS62 hA62 y62_5_0 (ey62_5_0 : HID _) w62_3 ew62_3 w62_6 ew62_6 w62_7 ew62_7 w62_8 ew62_8 w62_9 ew62_9 w62_11 ew62_11 w62_12 ew62_12 w62_13 ew62_13 pz62_0 pz62_1 pz62_2 pz62_3 pz62_4 pz62_5 pz62_6 pz62_7 pz62_8 => ⟨rfl, ?_⟩))
    refine v_backc (c := c) (s := s) H oz_T9kcls_14 oz_T9kcls_22 Hₚ Oₚ (fun F62 A62 H Oₚ eF62 eA62 => ?_)
    have O := OUT_trans O Oₚ
    -- Dictionary.hearTable
    have cF62 : SF oz_T9kclsl_6 F F62 := SF_trans (cF60) (SF_gluc (ι := oz_T9kclsl_10) oz_T9kcls_22 hS62 eF62 (by decide +kernel)) (any_sub (lₚ := [(45, 0), (45, 10), (45, 11), (45, 12)]) (by decide +kernel))
    have mF62 := SFm_of cF62 oz_T9kcls_18
    have cA62 : SA oz_T9kclsl_7 A A62 := SA_trans (cA60) (SA_gluc (ι := oz_T9kclsl_10) oz_T9kcls_22 hA62 eA62 (by decide +kernel)) (any_subA (lₚ := [8, 46, 47, 48, 49, 50, 51, 52, 53]) (by decide +kernel))
    have mA62 := SAm_of cA62 oz_T9kcls_19
    have r63 : (-2147483648 : Int) ≤ y62_5_0 ∧ y62_5_0 ≤ 2147483647 := rngE (show (-2147483648 : Int) ≤ F62 45 0 ∧ F62 45 0 ≤ 2147483647 from H.krg 45 0 (ltn len_V115_Row_vHB_oz_T9kcls rfl)) (show F62 45 0 = y62_5_0 from ((eF62 45 0).trans ey62_5_0))
    have ht2 : z62 = -1 ∨ 0 ≤ z62 ∧ z62 ≤ (x3) ∧ 0 ≤ z60 := by omega
    have hs2 := pz62_2
    have hgo2 : z62 = -1 ∨ (y62_5_0) ≤ 9 := pz62_4
    have hp2 : ((w62_3)) 2 = (((D 45 : Nat) : Int)) := pz62_3
    have hq1 : ((w62_3)) 1 = (((D 36 : Nat) : Int)) := by omega
    have hT2 := pz62_5
    try clear pz62_1
    try clear pz62_4
    try clear pz62_6
    try clear pz62_7
    try clear pz62_8
    refine Ew_of (pcₚ := 103) (fun _ => x_istore rfl) ?_
    refine Ew_of (pcₚ := 104) (fun _ => x_aload_n rfl (rk_o (rk_o (rk_o (hl0) rfl rfl) rfl rfl) rfl rfl)) ?_
    refine Ew_of (pcₚ := 105) (fun _ => x_iconst rfl) ?_
    refine Ew_of (pcₚ := 106) (fun _ => x_aload_n rfl (rk_o (rk_o (rk_o (hl2) rfl rfl) rfl rfl) rfl rfl)) ?_
    refine Ew_of (pcₚ := 108) (fun _ => x_iload rfl rk_s) ?_
    refine Ew_of (pcₚ := 109) (fun _ => x_iload_n rfl (rk_o (rk_o (rk_o (hl3) rfl rfl) rfl rfl) rfl rfl)) ?_
    refine v_inv H (o := 0) rfl rfl rfl rfl rfl rfl (by rfl) (C118_Br_c10 (D := puc 5826427068307473815375812677359895552 D) (N := puc 5826427068307473815375812677359895552 N) (HW_subc H oz_T9kcls_15 oz_T9kcls_23) (STC_out HT HE O) ((mF62 0 1 rfl).trans (pf7)) ((mF62 7 1 rfl).trans (pf8)) ((mF62 0 4 rfl).trans (pf10)) ((mA62 10 rfl 0).trans (pf27)) ((mF62 27 2 rfl).trans (pf28)) ((mF62 27 3 rfl).trans (pf29)) ((mF62 27 4 rfl).trans (pf30)) ((mF62 27 5 rfl).trans (pf31)) ((mF62 27 6 rfl).trans (pf32)) ((mF62 27 7 rfl).trans (pf33)) ((mF62 27 8 rfl).trans (pf34)) ((mF62 27 9 rfl).trans (pf35)) (n2) (en2) (n8) (en8) (n10) (en10) (n28) (en28) (n29) (en29) (n30) (en30) (n31) (en31) (n32) (en32) (n33) (en33) (n34) (en34) (n35) (en35) (u27_0) ((((((show F62 27 0 = F60 27 0 from (eF62 27 0))).trans ((show F60 27 0 = F57 27 0 from (eF60 27 0)))).trans ((show F57 27 0 = F 27 0 from (eF57 27 0)))).trans (eu27_0))) (u27_1) (((mF62 27 1 rfl).trans (eu27_1))) (w2) ((funext (mA62 2 rfl)).trans (ew2)) (w62_3) ((eA62 8).trans ew62_3) (w28) (((show A62 28 = A60 28 from (eA62 28))).trans (((show A60 28 = A57 28 from (eA60 28))).trans (((show A57 28 = A 28 from (eA57 28))).trans (ew28)))) (w29) (((show A62 29 = A60 29 from (eA62 29))).trans (((show A60 29 = A57 29 from (eA60 29))).trans (((show A57 29 = A 29 from (eA57 29))).trans (ew29)))) (w30) (((show A62 30 = A60 30 from (eA62 30))).trans (((show A60 30 = A57 30 from (eA60 30))).trans (((show A57 30 = A 30 from (eA57 30))).trans (ew30)))) (w31) (((show A62 31 = A60 31 from (eA62 31))).trans (((show A60 31 = A57 31 from (eA60 31))).trans (((show A57 31 = A 31 from (eA57 31))).trans (ew31)))) (w33) (((show A62 33 = A60 33 from (eA62 33))).trans (((show A60 33 = A57 33 from (eA60 33))).trans (((show A57 33 = A 33 from (eA57 33))).trans (ew33)))) (w34) (((show A62 34 = A60 34 from (eA62 34))).trans (((show A60 34 = A57 34 from (eA60 34))).trans (((show A57 34 = A 34 from (eA57 34))).trans (ew34)))) (w35) (((show A62 35 = A60 35 from (eA62 35))).trans (((show A60 35 = A57 35 from (eA60 35))).trans (((show A57 35 = A 35 from (eA57 35))).trans (ew35)))) (show inr (0) from q_2) (show inr (z62) from pz62_0) (show inr (x3) from h0) (show (z62) = -1 ∨ 0 ≤ (z62) ∧ (z62) ≤ (x3) by omega) (show 0 ≤ (x3) ∧ (x3) ≤ (n2) ∧ (n2) ≤ 65536 from q_4801 h1) (show (n8) = 3 ∧ (n10) = 3 from q_3887 h8) (h11) (fun z64 σ64 F64ₚ A64ₚ Hₚ Oₚ hS64 hA64 y64_5_0 (ey64_5_0 : HID _) w64_3 ew64_3 w64_6 ew64_6 w64_7 ew64_7 w64_8 ew64_8 w64_9 ew64_9 w64_11 ew64_11 w64_12 ew64_12 w64_13 ew64_13 pz64_0 pz64_1 pz64_2 pz64_3 pz64_4 pz64_5 pz64_6 pz64_7 pz64_8 => ⟨rfl, ?_⟩))
    refine v_backc (c := c) (s := s) H oz_T9kcls_15 oz_T9kcls_23 Hₚ Oₚ (fun F64 A64 H Oₚ eF64 eA64 => ?_)
    have O := OUT_trans O Oₚ
    -- Dictionary.hearTable
    have cF64 : SF oz_T9kclsl_6 F F64 := SF_trans (cF62) (SF_gluc (ι := oz_T9kclsl_11) oz_T9kcls_23 hS64 eF64 (by decide +kernel)) (any_sub (lₚ := [(27, 0), (27, 10), (27, 11), (27, 12)]) (by decide +kernel))
    have mF64 := SFm_of cF64 oz_T9kcls_18
    have cA64 : SA oz_T9kclsl_7 A A64 := SA_trans (cA62) (SA_gluc (ι := oz_T9kclsl_11) oz_T9kcls_23 hA64 eA64 (by decide +kernel)) (any_subA (lₚ := [8, 28, 29, 30, 31, 32, 33, 34, 35]) (by decide +kernel))
    have mA64 := SAm_of cA64 oz_T9kcls_19
    have r65 : (-2147483648 : Int) ≤ y64_5_0 ∧ y64_5_0 ≤ 2147483647 := rngE (show (-2147483648 : Int) ≤ F64 27 0 ∧ F64 27 0 ≤ 2147483647 from H.krg 27 0 (ltn len_V115_Row_vHB_oz_T9kcls rfl)) (show F64 27 0 = y64_5_0 from ((eF64 27 0).trans ey64_5_0))
    have ht0 : z64 = -1 ∨ 0 ≤ z64 ∧ z64 ≤ (x3) ∧ 0 ≤ z62 ∧ 0 ≤ z60 := by omega
    have hs0 := pz64_2
    have hgo0 : z64 = -1 ∨ (y64_5_0) ≤ 9 := pz64_4
    have hp0 : ((w64_3)) 0 = (((D 27 : Nat) : Int)) := pz64_3
    have hr1 : ((w64_3)) 1 = (((D 36 : Nat) : Int)) := by omega
    have hr2 : ((w64_3)) 2 = (((D 45 : Nat) : Int)) := by omega
    have hT0 := pz64_5
    have hLc := LN_c hmk (by omega) hds (by omega) hT1 hT2 hT0
    try clear pz64_1
    try clear pz64_4
    try clear pz64_6
    try clear pz64_7
    try clear pz64_8
    refine Ew_of (pcₚ := 114) (fun _ => x_istore rfl) ?_
    refine Ew_of (pcₚ := 116) (fun _ => x_iload rfl rk_s) ?_
    refine w_ifge (t := 122) rfl rfl (show inr (z64) from pz64_0) (fun b66 => ?_) (fun b66 => ?_)
    · obtain ⟨_, hL4, hLT, hLe, hLX1, hLX2, hLX0⟩ := hLc.resolve_left (fun w => by have := w.1; omega)
      refine Ew_of (pcₚ := 123) (fun _ => x_aload_n rfl (rk_o (rk_o (rk_o (rk_o (hl0) rfl rfl) rfl rfl) rfl rfl) rfl rfl)) ?_
      refine v_g H (o := 0) (v := .ref (D 7)) rfl rfl rfl rfl rfl (vrf ((mF64 0 1 rfl).trans (pf7))) ?_
      refine Ew_of (pcₚ := 127) (fun _ => x_aload_n rfl (rk_o (rk_o (rk_o (rk_o (hl0) rfl rfl) rfl rfl) rfl rfl) rfl rfl)) ?_
      refine v_g H (o := 0) (v := .ref (D 5)) rfl rfl rfl rfl rfl (vrf ((mF64 0 3 rfl).trans (pf5))) ?_
      refine v_p H (o := 7) (z := ((D 5 : Nat) : Int)) (v := .ref (D 5)) rfl rfl rfl rfl rfl rfl (vrf rfl) rfl (show (-1 : Int) ≤ ((D 5 : Nat) : Int) by omega) (fun σ H Oₚ => ?_)
      have O := OUT_trans O Oₚ
      have cFu67 : SF oz_T9kclsl_6 F (updF F64 7 0 ((D 5 : Nat) : Int)) := SF_upd (cF64) rfl
      have mFu67 := SFm_of cFu67 oz_T9kcls_18
      refine Ew_of (pcₚ := 134) (fun _ => x_aload_n rfl (rk_o (rk_o (rk_o (rk_o (hl0) rfl rfl) rfl rfl) rfl rfl) rfl rfl)) ?_
      refine Ew_of (pcₚ := 135) (fun _ => x_aload_n rfl (rk_o (rk_o (rk_o (rk_o (hl2) rfl rfl) rfl rfl) rfl rfl) rfl rfl)) ?_
      refine Ew_of (pcₚ := 137) (fun _ => x_iload rfl rk_s) ?_
      refine Ew_of (pcₚ := 138) (fun _ => x_iload_n rfl (rk_o (rk_o (rk_o (rk_o (hl3) rfl rfl) rfl rfl) rfl rfl) rfl rfl)) ?_
      refine v_inv H (o := 0) rfl rfl rfl rfl rfl rfl (by rfl) (C119_Br (D := puc 317140922795008 D) (N := puc 317140922795008 N) (HW_subc H oz_T9kcls_16 oz_T9kcls_24) ((mFu67 0 0 rfl).trans (pf3)) (((((((show F64 3 0 = F62 3 0 from (eF64 3 0))).trans ((show F62 3 0 = F60 3 0 from (eF62 3 0)))).trans ((show F60 3 0 = F57 3 0 from (eF60 3 0)))).trans ((show F57 3 0 = F 3 0 from (eF57 3 0))))).trans (pf4)) ((mFu67 0 1 rfl).trans (pf7)) ((mFu67 7 2 rfl).trans (pf9)) (n2) (en2) (n4) (en4) (n9) (en9) (u3_1) (((((((show F64 3 1 = F62 3 1 from (eF64 3 1))).trans ((show F62 3 1 = F60 3 1 from (eF62 3 1)))).trans ((show F60 3 1 = F57 3 1 from (eF60 3 1)))).trans ((show F57 3 1 = F 3 1 from (eF57 3 1)))).trans (eu3_1))) (u3_2) (((((((show F64 3 2 = F62 3 2 from (eF64 3 2))).trans ((show F62 3 2 = F60 3 2 from (eF62 3 2)))).trans ((show F60 3 2 = F57 3 2 from (eF60 3 2)))).trans ((show F57 3 2 = F 3 2 from (eF57 3 2)))).trans (eu3_2))) (w2) ((funext (mA64 2 rfl)).trans (ew2)) (w4) (((show A64 4 = A62 4 from (eA64 4))).trans (((show A62 4 = A60 4 from (eA62 4))).trans (((show A60 4 = A57 4 from (eA60 4))).trans (((show A57 4 = A 4 from (eA57 4))).trans (ew4))))) (w9) (((show A64 9 = A62 9 from (eA64 9))).trans (((show A62 9 = A60 9 from (eA62 9))).trans (((show A60 9 = A57 9 from (eA60 9))).trans (((show A57 9 = A 9 from (eA57 9))).trans (ew9))))) (show inr (z64) from pz64_0) (show inr (x3) from h0) (show 0 ≤ (u3_1) ∧ (u3_1) ≤ (n4) ∧ (n4) ≤ 65536 from h2) (show (u3_1) = 0 from h3) (show (u3_2) = 0 from h4) (show 0 ≤ (z64) ∧ (z64) ≤ 65536 ∧ 0 ≤ (x3) ∧ (x3) ≤ (n2) ∧ (n2) ≤ 65536 from q_4802 b66 h1 hgo0 ht0) (show (n9) = 3 from q_3888 h8) (fun z68 σ68 D68ₚ N68ₚ F68ₚ A68ₚ c68 s68 Hₚ Oₚ hD68 hN68 hS68 hA68 (pm68_3 : HID _) m68_3 (em68_3 : HID _) y68_2_1 (ey68_2_1 : HID _) y68_2_2 (ey68_2_2 : HID _) w68_3 ew68_3 w68_5 ew68_5 pz68_0 pz68_1 pz68_2 pz68_3 pz68_4 pz68_5 => ⟨rfl, ?_⟩))
      refine v_backMc (c := c) (s := s) H oz_T9kcls_16 oz_T9kcls_24 Hₚ Oₚ hD68 oz_T9kcls_17 (fun D68 N68 F68 A68 H Oₚ eD68 eN68 eF68 eA68 => ?_)
      have O := OUT_trans O Oₚ
      -- Dictionary.hearLatest
      have cF68 : SF oz_T9kclsl_6 F F68 := SF_trans (cFu67) (SF_gluc (ι := oz_T9kclsl_12) oz_T9kcls_24 hS68 eF68 (by decide +kernel)) (any_sub (lₚ := [(3, 0), (3, 1), (3, 2)]) (by decide +kernel))
      have mF68 := SFm_of cF68 oz_T9kcls_18
      have cA68 : SA oz_T9kclsl_7 A A68 := SA_trans (cA64) (SA_gluc (ι := oz_T9kclsl_12) oz_T9kcls_24 hA68 eA68 (by decide +kernel)) (any_subA (lₚ := [4, 9]) (by decide +kernel))
      have mA68 := SAm_of cA68 oz_T9kcls_19
      have cD68 : SD oz_T9kclsl_2 D D68 := SD_trans (SD_refl) (SD_gluc (ι := oz_T9kclsl_12) oz_T9kcls_24 hD68 eD68 (by decide +kernel)) (any_subA (lₚ := [4]) (by decide +kernel))
      have mD68 := SDm_of cD68 oz_T9kcls_7
      have cN68 : SD oz_T9kclsl_2 N N68 := SD_trans (SD_refl) (SD_gluc (ι := oz_T9kclsl_12) oz_T9kcls_24 hN68 eN68 (by decide +kernel)) (any_subA (lₚ := [4]) (by decide +kernel))
      have mN68 := SDm_of cN68 oz_T9kcls_7
      have pf68_3_0 : HID (F68 3 0 = (D68 4 : Int)) := (eF68 3 0).trans (pm68_3.trans (congrArg (fun q : Nat => (q : Int)) (eD68 4).symm))
      have pf68_7_0 : HID (F68 7 0 = (D68 5 : Int)) := ((show F68 7 0 = (updF F64 7 0 ((D 5 : Nat) : Int)) 7 0 from (eF68 7 0).trans (hS68 4 0 rfl))).trans (((show (updF F64 7 0 ((D 5 : Nat) : Int)) 7 0 = ((D 5 : Nat) : Int) from rfl)).trans (congrArg (fun q : Nat => (q : Int)) ((show D68 5 = D 5 from (eD68 5))).symm))
      have r69 : (0 : Int) ≤ m68_3 ∧ m68_3 ≤ 1000000 := nleE (H.nle 4 (ltn len_V115_Row_vHB_oz_T9kcls rfl)) (show (N68 4 : Int) = m68_3 from (congrArg (fun q : Nat => (q : Int)) (eN68 4)).trans em68_3)
      have hdd70 : ((D68 5 : Nat) : Int) = ((D 5 : Nat) : Int) := congrArg (fun q : Nat => (q : Int)) (show D68 5 = D 5 from (eD68 5))
      have hdd71 : ((D68 27 : Nat) : Int) = ((D 27 : Nat) : Int) := congrArg (fun q : Nat => (q : Int)) (show D68 27 = D 27 from (eD68 27))
      have hdd72 : ((D68 36 : Nat) : Int) = ((D 36 : Nat) : Int) := congrArg (fun q : Nat => (q : Int)) (show D68 36 = D 36 from (eD68 36))
      have hdd73 : ((D68 45 : Nat) : Int) = ((D 45 : Nat) : Int) := congrArg (fun q : Nat => (q : Int)) (show D68 45 = D 45 from (eD68 45))
      have r74 : (-2147483648 : Int) ≤ y68_2_1 ∧ y68_2_1 ≤ 2147483647 := rngE (show (-2147483648 : Int) ≤ F68 3 1 ∧ F68 3 1 ≤ 2147483647 from H.krg 3 1 (ltn len_V115_Row_vHB_oz_T9kcls rfl)) (show F68 3 1 = y68_2_1 from ((eF68 3 1).trans ey68_2_1))
      have r75 : (0 : Int) ≤ y68_2_2 ∧ y68_2_2 ≤ 1 := rngE (show (0 : Int) ≤ F68 3 2 ∧ F68 3 2 ≤ 1 from H.krg 3 2 (ltn len_V115_Row_vHB_oz_T9kcls rfl)) (show F68 3 2 = y68_2_2 from ((eF68 3 2).trans ey68_2_2))
      have hct : ((z68) : Int) < 0 ∨ (y68_2_1) ≤ (z68) := q_3890 pz68_1 pz68_3 pz68_5
      have hbz : ((z68) : Int) < 0 ∨ (y68_2_2) = 0 := pz68_5
      have hz1 : (z68) < 0 ∨ (((D 5 : Nat) : Int)) = -1 ∨ LNG ((w57_3)) ((y57_0_3)) := .inr (.inr (Or.resolve_left hcg2 (by omega)))
      have hz5 : (z68) < 0 ∨ ((w64_3)) 0 = -1 ∨ SL ((w64_6)) ((u27_1)) ((y64_5_0)) ((w64_7)) ((w64_8)) ((w64_9)) ((w64_11)) ((w64_12)) ((w64_13)) := .inr (.inr (Or.resolve_left hs0 (by omega)))
      have hz6 : (z68) < 0 ∨ ((w64_3)) 1 = -1 ∨ SL ((w60_6)) ((u36_1)) ((y60_5_0)) ((w60_7)) ((w60_8)) ((w60_9)) ((w60_11)) ((w60_12)) ((w60_13)) := .inr (.inr (Or.resolve_left hs1 (by omega)))
      have hz7 : (z68) < 0 ∨ ((w64_3)) 2 = -1 ∨ SL ((w62_6)) ((u45_1)) ((y62_5_0)) ((w62_7)) ((w62_8)) ((w62_9)) ((w62_11)) ((w62_12)) ((w62_13)) := .inr (.inr (Or.resolve_left hs2 (by omega)))
      have hLh := pz68_4
      have hLd := LN_d hL4 hLh hid
      have hF0 : (z68) = (LNF (ub8 ((w2))) ((x3))).1 := hLd.1
      have hF1 : IMP (0 ≤ (z68)) (DCK (LNF (ub8 ((w2))) ((x3))).2 (sc ((w68_3)) 0 ((y68_2_1))) ((u0_2)) ((w68_5))) := fun z => (hLd.2 z).1
      have hF2 : IMP (0 ≤ (z68)) (DCQ (LNF (ub8 ((w2))) ((x3))).2.2.2.1 ((((D 5 : Nat) : Int))) ((y57_0_3)) ((w57_5))) := fun z => by rw [(hLd.2 z).2.1]; exact .inr ⟨by omega, CDO_of (hCI (by omega)) (hCX (by omega)) hLe hLT⟩
      have hF3 : IMP (0 ≤ (z68)) (DCT ((LNF (ub8 ((w2))) ((x3))).2.2.2.2.1 0) (((w64_3)) 0) ((y64_5_0)) ((u27_1)) ((w64_6))) := fun z => DCT_y (by omega) hLX0 (by rw [(hLd.2 z).2.2]) hsn0
      have hF4 : IMP (0 ≤ (z68)) (DCT ((LNF (ub8 ((w2))) ((x3))).2.2.2.2.1 1) (((w64_3)) 1) ((y60_5_0)) ((u36_1)) ((w60_6))) := fun z => DCT_y (by omega) hLX1 (by rw [(hLd.2 z).2.2]) hsn1
      have hF5 : IMP (0 ≤ (z68)) (DCT ((LNF (ub8 ((w2))) ((x3))).2.2.2.2.1 2) (((w64_3)) 2) ((y62_5_0)) ((u45_1)) ((w62_6))) := fun z => DCT_y (by omega) hLX2 (by rw [(hLd.2 z).2.2]) hsn2
      have hF6 : IMP (0 ≤ (z68)) (DCW (LNF (ub8 ((w2))) ((x3))).2.2.2.1 ((((D 5 : Nat) : Int))) ((y57_0_3)) ((w57_3)) ((w57_5)) ((w57_4))) := fun z => by rw [(hLd.2 z).2.1]; exact .inr ⟨hCI (by omega), hCX (by omega), hLe⟩
      try clear pz68_3
      try clear pz68_5
      exact w_ireturn rfl (k (z68) _ _ _ _ _ _ _ H O (cD68) (cN68) (cF68) (cA68) (pf68_3_0) (m68_3) ((congrArg (fun q : Nat => (q : Int)) (eN68 4)).trans em68_3) (y68_2_1) (((eF68 3 1).trans ey68_2_1)) (y68_2_2) (((eF68 3 2).trans ey68_2_2)) (y57_0_3) (((((((show F68 5 3 = (updF F64 7 0 ((D 5 : Nat) : Int)) 5 3 from (eF68 5 3))).trans ((show F64 5 3 = F62 5 3 from (eF64 5 3)))).trans ((show F62 5 3 = F60 5 3 from (eF62 5 3)))).trans ((show F60 5 3 = F57 5 3 from (eF60 5 3)))).trans ((eF57 5 3).trans ey57_0_3))) (((D 5 : Nat) : Int)) (((show F68 7 0 = (updF F64 7 0 ((D 5 : Nat) : Int)) 7 0 from (eF68 7 0).trans (hS68 4 0 rfl)))) (y64_5_0) ((((show F68 27 0 = (updF F64 7 0 ((D 5 : Nat) : Int)) 27 0 from (eF68 27 0))).trans ((eF64 27 0).trans ey64_5_0))) (y60_5_0) ((((((show F68 36 0 = (updF F64 7 0 ((D 5 : Nat) : Int)) 36 0 from (eF68 36 0))).trans ((show F64 36 0 = F62 36 0 from (eF64 36 0)))).trans ((show F62 36 0 = F60 36 0 from (eF62 36 0)))).trans ((eF60 36 0).trans ey60_5_0))) (y62_5_0) (((((show F68 45 0 = (updF F64 7 0 ((D 5 : Nat) : Int)) 45 0 from (eF68 45 0))).trans ((show F64 45 0 = F62 45 0 from (eF64 45 0)))).trans ((eF62 45 0).trans ey62_5_0))) (w68_3) ((eA68 4).trans ew68_3) (w57_5) (((show A68 6 = A64 6 from (eA68 6))).trans (((show A64 6 = A62 6 from (eA64 6))).trans (((show A62 6 = A60 6 from (eA62 6))).trans (((show A60 6 = A57 6 from (eA60 6))).trans ((eA57 6).trans ew57_5))))) (w64_3) (((show A68 8 = A64 8 from (eA68 8))).trans ((eA64 8).trans ew64_3)) (w68_5) ((eA68 9).trans ew68_5) (w57_3) (((show A68 11 = A64 11 from (eA68 11))).trans (((show A64 11 = A62 11 from (eA64 11))).trans (((show A62 11 = A60 11 from (eA62 11))).trans (((show A60 11 = A57 11 from (eA60 11))).trans ((eA57 11).trans ew57_3))))) (w57_4) (((show A68 12 = A64 12 from (eA68 12))).trans (((show A64 12 = A62 12 from (eA64 12))).trans (((show A62 12 = A60 12 from (eA62 12))).trans (((show A60 12 = A57 12 from (eA60 12))).trans ((eA57 12).trans ew57_4))))) (w64_6) (((show A68 28 = A64 28 from (eA68 28))).trans ((eA64 28).trans ew64_6)) (w64_7) (((show A68 29 = A64 29 from (eA68 29))).trans ((eA64 29).trans ew64_7)) (w64_8) (((show A68 30 = A64 30 from (eA68 30))).trans ((eA64 30).trans ew64_8)) (w64_9) (((show A68 31 = A64 31 from (eA68 31))).trans ((eA64 31).trans ew64_9)) (w64_11) (((show A68 33 = A64 33 from (eA68 33))).trans ((eA64 33).trans ew64_11)) (w64_12) (((show A68 34 = A64 34 from (eA68 34))).trans ((eA64 34).trans ew64_12)) (w64_13) (((show A68 35 = A64 35 from (eA68 35))).trans ((eA64 35).trans ew64_13)) (w60_6) (((show A68 37 = A64 37 from (eA68 37))).trans (((show A64 37 = A62 37 from (eA64 37))).trans (((show A62 37 = A60 37 from (eA62 37))).trans ((eA60 37).trans ew60_6)))) (w60_7) (((show A68 38 = A64 38 from (eA68 38))).trans (((show A64 38 = A62 38 from (eA64 38))).trans (((show A62 38 = A60 38 from (eA62 38))).trans ((eA60 38).trans ew60_7)))) (w60_8) (((show A68 39 = A64 39 from (eA68 39))).trans (((show A64 39 = A62 39 from (eA64 39))).trans (((show A62 39 = A60 39 from (eA62 39))).trans ((eA60 39).trans ew60_8)))) (w60_9) (((show A68 40 = A64 40 from (eA68 40))).trans (((show A64 40 = A62 40 from (eA64 40))).trans (((show A62 40 = A60 40 from (eA62 40))).trans ((eA60 40).trans ew60_9)))) (w60_11) (((show A68 42 = A64 42 from (eA68 42))).trans (((show A64 42 = A62 42 from (eA64 42))).trans (((show A62 42 = A60 42 from (eA62 42))).trans ((eA60 42).trans ew60_11)))) (w60_12) (((show A68 43 = A64 43 from (eA68 43))).trans (((show A64 43 = A62 43 from (eA64 43))).trans (((show A62 43 = A60 43 from (eA62 43))).trans ((eA60 43).trans ew60_12)))) (w60_13) (((show A68 44 = A64 44 from (eA68 44))).trans (((show A64 44 = A62 44 from (eA64 44))).trans (((show A62 44 = A60 44 from (eA62 44))).trans ((eA60 44).trans ew60_13)))) (w62_6) (((show A68 46 = A64 46 from (eA68 46))).trans (((show A64 46 = A62 46 from (eA64 46))).trans ((eA62 46).trans ew62_6))) (w62_7) (((show A68 47 = A64 47 from (eA68 47))).trans (((show A64 47 = A62 47 from (eA64 47))).trans ((eA62 47).trans ew62_7))) (w62_8) (((show A68 48 = A64 48 from (eA68 48))).trans (((show A64 48 = A62 48 from (eA64 48))).trans ((eA62 48).trans ew62_8))) (w62_9) (((show A68 49 = A64 49 from (eA68 49))).trans (((show A64 49 = A62 49 from (eA64 49))).trans ((eA62 49).trans ew62_9))) (w62_11) (((show A68 51 = A64 51 from (eA68 51))).trans (((show A64 51 = A62 51 from (eA64 51))).trans ((eA62 51).trans ew62_11))) (w62_12) (((show A68 52 = A64 52 from (eA68 52))).trans (((show A64 52 = A62 52 from (eA64 52))).trans ((eA62 52).trans ew62_12))) (w62_13) (((show A68 53 = A64 53 from (eA68 53))).trans (((show A64 53 = A62 53 from (eA64 53))).trans ((eA62 53).trans ew62_13))) (show inr (z68) from pz68_0) (show 0 ≤ (y68_2_1) ∧ (y68_2_1) ≤ (m68_3) ∧ (m68_3) ≤ 65536 from pz68_1) (show -4 ≤ (z68) ∧ (z68) ≤ 65536 from pz68_2) (show (z68) < 0 ∨ (y68_2_1) ≤ (z68) from hct) (pz57_2) (show (z68) < 0 ∨ (((D 5 : Nat) : Int)) = -1 ∨ (((D 5 : Nat) : Int)) = (((D68 5 : Nat) : Int)) ∧ 0 ≤ (y57_0_3) ∧ (y57_0_3) ≤ 11 by omega) (hz1) (show (z68) < 0 ∨ ((w64_3)) 0 = -1 ∨ ((w64_3)) 0 = (((D68 27 : Nat) : Int)) from q_3891 hdd71 hp0) (show (z68) < 0 ∨ ((w64_3)) 1 = -1 ∨ ((w64_3)) 1 = (((D68 36 : Nat) : Int)) from q_3891 hdd72 hr1) (show (z68) < 0 ∨ ((w64_3)) 2 = -1 ∨ ((w64_3)) 2 = (((D68 45 : Nat) : Int)) from q_3891 hdd73 hr2) (hz5) (hz6) (hz7) (show (z68) < 0 ∨ ((w64_3)) 0 = -1 ∨ (y64_5_0) ≤ 9 by omega) (show (z68) < 0 ∨ ((w64_3)) 1 = -1 ∨ (y60_5_0) ≤ 8 by omega) (show (z68) < 0 ∨ ((w64_3)) 2 = -1 ∨ (y62_5_0) ≤ 9 by omega) (hF0) (hF1) (hF2) (hF3) (hF4) (hF5) (hF6) (show (z68) < 0 ∨ (y68_2_2) = 0 from hbz))
    · have hz1 : (-3) < 0 ∨ (u7_0) = -1 ∨ LNG ((w57_3)) ((y57_0_3)) := .inl (by omega)
      have hz5 : (-3) < 0 ∨ ((w64_3)) 0 = -1 ∨ SL ((w64_6)) ((u27_1)) ((y64_5_0)) ((w64_7)) ((w64_8)) ((w64_9)) ((w64_11)) ((w64_12)) ((w64_13)) := .inl (by omega)
      have hz6 : (-3) < 0 ∨ ((w64_3)) 1 = -1 ∨ SL ((w60_6)) ((u36_1)) ((y60_5_0)) ((w60_7)) ((w60_8)) ((w60_9)) ((w60_11)) ((w60_12)) ((w60_13)) := .inl (by omega)
      have hz7 : (-3) < 0 ∨ ((w64_3)) 2 = -1 ∨ SL ((w62_6)) ((u45_1)) ((y62_5_0)) ((w62_7)) ((w62_8)) ((w62_9)) ((w62_11)) ((w62_12)) ((w62_13)) := .inl (by omega)
      have hF0 : (-3 : Int) = (LNF (ub8 ((w2))) ((x3))).1 := LN_x ((hLc.resolve_right (fun w => by have := w.1; omega)).2) (by omega)
      have hF1 : IMP (0 ≤ (-3 : Int)) (DCK (LNF (ub8 ((w2))) ((x3))).2 (sc ((w4)) 0 ((u3_1))) ((u0_2)) ((w9))) := fun z => absurd z (by omega)
      have hF2 : IMP (0 ≤ (-3 : Int)) (DCQ (LNF (ub8 ((w2))) ((x3))).2.2.2.1 ((u7_0)) ((y57_0_3)) ((w57_5))) := fun z => absurd z (by omega)
      have hF3 : IMP (0 ≤ (-3 : Int)) (DCT ((LNF (ub8 ((w2))) ((x3))).2.2.2.2.1 0) (((w64_3)) 0) ((y64_5_0)) ((u27_1)) ((w64_6))) := fun z => absurd z (by omega)
      have hF4 : IMP (0 ≤ (-3 : Int)) (DCT ((LNF (ub8 ((w2))) ((x3))).2.2.2.2.1 1) (((w64_3)) 1) ((y60_5_0)) ((u36_1)) ((w60_6))) := fun z => absurd z (by omega)
      have hF5 : IMP (0 ≤ (-3 : Int)) (DCT ((LNF (ub8 ((w2))) ((x3))).2.2.2.2.1 2) (((w64_3)) 2) ((y62_5_0)) ((u45_1)) ((w62_6))) := fun z => absurd z (by omega)
      have hF6 : IMP (0 ≤ (-3 : Int)) (DCW (LNF (ub8 ((w2))) ((x3))).2.2.2.1 ((u7_0)) ((y57_0_3)) ((w57_3)) ((w57_5)) ((w57_4))) := fun z => absurd z (by omega)
      refine Ew_of (pcₚ := 121) (fun _ => x_bipush (z := -3) rfl (by decide)) ?_
      exact w_ireturn rfl (k ((-3)) _ _ _ _ _ _ _ H O (SD_refl) (SD_refl) (cF64) (cA64) (((((((show F64 3 0 = F62 3 0 from (eF64 3 0))).trans ((show F62 3 0 = F60 3 0 from (eF62 3 0)))).trans ((show F60 3 0 = F57 3 0 from (eF60 3 0)))).trans ((show F57 3 0 = F 3 0 from (eF57 3 0))))).trans (pf4)) (n4) (en4) (u3_1) (((((((show F64 3 1 = F62 3 1 from (eF64 3 1))).trans ((show F62 3 1 = F60 3 1 from (eF62 3 1)))).trans ((show F60 3 1 = F57 3 1 from (eF60 3 1)))).trans ((show F57 3 1 = F 3 1 from (eF57 3 1)))).trans (eu3_1))) (u3_2) (((((((show F64 3 2 = F62 3 2 from (eF64 3 2))).trans ((show F62 3 2 = F60 3 2 from (eF62 3 2)))).trans ((show F60 3 2 = F57 3 2 from (eF60 3 2)))).trans ((show F57 3 2 = F 3 2 from (eF57 3 2)))).trans (eu3_2))) (y57_0_3) ((((((show F64 5 3 = F62 5 3 from (eF64 5 3))).trans ((show F62 5 3 = F60 5 3 from (eF62 5 3)))).trans ((show F60 5 3 = F57 5 3 from (eF60 5 3)))).trans ((eF57 5 3).trans ey57_0_3))) (u7_0) (((((((show F64 7 0 = F62 7 0 from (eF64 7 0).trans (hS64 2 0 rfl))).trans ((show F62 7 0 = F60 7 0 from (eF62 7 0).trans (hS62 2 0 rfl)))).trans ((show F60 7 0 = F57 7 0 from (eF60 7 0).trans (hS60 2 0 rfl)))).trans ((show F57 7 0 = F 7 0 from (eF57 7 0)))).trans (eu7_0))) (y64_5_0) (((eF64 27 0).trans ey64_5_0)) (y60_5_0) (((((show F64 36 0 = F62 36 0 from (eF64 36 0))).trans ((show F62 36 0 = F60 36 0 from (eF62 36 0)))).trans ((eF60 36 0).trans ey60_5_0))) (y62_5_0) ((((show F64 45 0 = F62 45 0 from (eF64 45 0))).trans ((eF62 45 0).trans ey62_5_0))) (w4) (((show A64 4 = A62 4 from (eA64 4))).trans (((show A62 4 = A60 4 from (eA62 4))).trans (((show A60 4 = A57 4 from (eA60 4))).trans (((show A57 4 = A 4 from (eA57 4))).trans (ew4))))) (w57_5) (((show A64 6 = A62 6 from (eA64 6))).trans (((show A62 6 = A60 6 from (eA62 6))).trans (((show A60 6 = A57 6 from (eA60 6))).trans ((eA57 6).trans ew57_5)))) (w64_3) ((eA64 8).trans ew64_3) (w9) (((show A64 9 = A62 9 from (eA64 9))).trans (((show A62 9 = A60 9 from (eA62 9))).trans (((show A60 9 = A57 9 from (eA60 9))).trans (((show A57 9 = A 9 from (eA57 9))).trans (ew9))))) (w57_3) (((show A64 11 = A62 11 from (eA64 11))).trans (((show A62 11 = A60 11 from (eA62 11))).trans (((show A60 11 = A57 11 from (eA60 11))).trans ((eA57 11).trans ew57_3)))) (w57_4) (((show A64 12 = A62 12 from (eA64 12))).trans (((show A62 12 = A60 12 from (eA62 12))).trans (((show A60 12 = A57 12 from (eA60 12))).trans ((eA57 12).trans ew57_4)))) (w64_6) ((eA64 28).trans ew64_6) (w64_7) ((eA64 29).trans ew64_7) (w64_8) ((eA64 30).trans ew64_8) (w64_9) ((eA64 31).trans ew64_9) (w64_11) ((eA64 33).trans ew64_11) (w64_12) ((eA64 34).trans ew64_12) (w64_13) ((eA64 35).trans ew64_13) (w60_6) (((show A64 37 = A62 37 from (eA64 37))).trans (((show A62 37 = A60 37 from (eA62 37))).trans ((eA60 37).trans ew60_6))) (w60_7) (((show A64 38 = A62 38 from (eA64 38))).trans (((show A62 38 = A60 38 from (eA62 38))).trans ((eA60 38).trans ew60_7))) (w60_8) (((show A64 39 = A62 39 from (eA64 39))).trans (((show A62 39 = A60 39 from (eA62 39))).trans ((eA60 39).trans ew60_8))) (w60_9) (((show A64 40 = A62 40 from (eA64 40))).trans (((show A62 40 = A60 40 from (eA62 40))).trans ((eA60 40).trans ew60_9))) (w60_11) (((show A64 42 = A62 42 from (eA64 42))).trans (((show A62 42 = A60 42 from (eA62 42))).trans ((eA60 42).trans ew60_11))) (w60_12) (((show A64 43 = A62 43 from (eA64 43))).trans (((show A62 43 = A60 43 from (eA62 43))).trans ((eA60 43).trans ew60_12))) (w60_13) (((show A64 44 = A62 44 from (eA64 44))).trans (((show A62 44 = A60 44 from (eA62 44))).trans ((eA60 44).trans ew60_13))) (w62_6) (((show A64 46 = A62 46 from (eA64 46))).trans ((eA62 46).trans ew62_6)) (w62_7) (((show A64 47 = A62 47 from (eA64 47))).trans ((eA62 47).trans ew62_7)) (w62_8) (((show A64 48 = A62 48 from (eA64 48))).trans ((eA62 48).trans ew62_8)) (w62_9) (((show A64 49 = A62 49 from (eA64 49))).trans ((eA62 49).trans ew62_9)) (w62_11) (((show A64 51 = A62 51 from (eA64 51))).trans ((eA62 51).trans ew62_11)) (w62_12) (((show A64 52 = A62 52 from (eA64 52))).trans ((eA62 52).trans ew62_12)) (w62_13) (((show A64 53 = A62 53 from (eA64 53))).trans ((eA62 53).trans ew62_13)) (show inr ((-3)) from q_1968) (show 0 ≤ (u3_1) ∧ (u3_1) ≤ (n4) ∧ (n4) ≤ 65536 from h2) (show -4 ≤ ((-3)) ∧ ((-3)) ≤ 65536 by first | exact q_3898 | omega) (show ((-3)) < 0 ∨ (u3_1) ≤ ((-3)) by first | exact q_3897 | omega) (pz57_2) (show ((-3)) < 0 ∨ (u7_0) = -1 ∨ (u7_0) = (((D 5 : Nat) : Int)) ∧ 0 ≤ (y57_0_3) ∧ (y57_0_3) ≤ 11 by first | exact q_3896 | omega) (show ((-3)) < 0 ∨ (u7_0) = -1 ∨ LNG ((w57_3)) ((y57_0_3)) by assumption) (show ((-3)) < 0 ∨ ((w64_3)) 0 = -1 ∨ ((w64_3)) 0 = (((D 27 : Nat) : Int)) by first | exact q_3895 | omega) (show ((-3)) < 0 ∨ ((w64_3)) 1 = -1 ∨ ((w64_3)) 1 = (((D 36 : Nat) : Int)) by first | exact q_3895 | omega) (show ((-3)) < 0 ∨ ((w64_3)) 2 = -1 ∨ ((w64_3)) 2 = (((D 45 : Nat) : Int)) by first | exact q_3895 | omega) (show ((-3)) < 0 ∨ ((w64_3)) 0 = -1 ∨ SL ((w64_6)) ((u27_1)) ((y64_5_0)) ((w64_7)) ((w64_8)) ((w64_9)) ((w64_11)) ((w64_12)) ((w64_13)) by assumption) (show ((-3)) < 0 ∨ ((w64_3)) 1 = -1 ∨ SL ((w60_6)) ((u36_1)) ((y60_5_0)) ((w60_7)) ((w60_8)) ((w60_9)) ((w60_11)) ((w60_12)) ((w60_13)) by assumption) (show ((-3)) < 0 ∨ ((w64_3)) 2 = -1 ∨ SL ((w62_6)) ((u45_1)) ((y62_5_0)) ((w62_7)) ((w62_8)) ((w62_9)) ((w62_11)) ((w62_12)) ((w62_13)) by assumption) (show ((-3)) < 0 ∨ ((w64_3)) 0 = -1 ∨ (y64_5_0) ≤ 9 by first | exact q_3893 | omega) (show ((-3)) < 0 ∨ ((w64_3)) 1 = -1 ∨ (y60_5_0) ≤ 8 by first | exact q_3894 | omega) (show ((-3)) < 0 ∨ ((w64_3)) 2 = -1 ∨ (y62_5_0) ≤ 9 by first | exact q_3893 | omega) (show ((-3)) = (LNF (ub8 ((w2))) ((x3))).1 by assumption) (show IMP (0 ≤ ((-3))) (DCK (LNF (ub8 ((w2))) ((x3))).2 (sc ((w4)) 0 ((u3_1))) ((u0_2)) ((w9))) by assumption) (show IMP (0 ≤ ((-3))) (DCQ (LNF (ub8 ((w2))) ((x3))).2.2.2.1 ((u7_0)) ((y57_0_3)) ((w57_5))) by assumption) (show IMP (0 ≤ ((-3))) (DCT ((LNF (ub8 ((w2))) ((x3))).2.2.2.2.1 0) (((w64_3)) 0) ((y64_5_0)) ((u27_1)) ((w64_6))) by assumption) (show IMP (0 ≤ ((-3))) (DCT ((LNF (ub8 ((w2))) ((x3))).2.2.2.2.1 1) (((w64_3)) 1) ((y60_5_0)) ((u36_1)) ((w60_6))) by assumption) (show IMP (0 ≤ ((-3))) (DCT ((LNF (ub8 ((w2))) ((x3))).2.2.2.2.1 2) (((w64_3)) 2) ((y62_5_0)) ((u45_1)) ((w62_6))) by assumption) (show IMP (0 ≤ ((-3))) (DCW (LNF (ub8 ((w2))) ((x3))).2.2.2.1 ((u7_0)) ((y57_0_3)) ((w57_3)) ((w57_5)) ((w57_4))) by assumption) (show ((-3)) < 0 ∨ (u3_2) = 0 by first | exact q_3892 | omega))
  · have hz1 : (-2) < 0 ∨ (u7_0) = -1 ∨ LNG ((w57_3)) ((y57_0_3)) := .inl (by omega)
    have hz5 : (-2) < 0 ∨ ((w8)) 0 = -1 ∨ SL ((w28)) ((u27_1)) ((u27_0)) ((w29)) ((w30)) ((w31)) ((w33)) ((w34)) ((w35)) := .inl (by omega)
    have hz6 : (-2) < 0 ∨ ((w8)) 1 = -1 ∨ SL ((w37)) ((u36_1)) ((u36_0)) ((w38)) ((w39)) ((w40)) ((w42)) ((w43)) ((w44)) := .inl (by omega)
    have hz7 : (-2) < 0 ∨ ((w8)) 2 = -1 ∨ SL ((w46)) ((u45_1)) ((u45_0)) ((w47)) ((w48)) ((w49)) ((w51)) ((w52)) ((w53)) := .inl (by omega)
    have hF0 : (-2 : Int) = (LNF (ub8 ((w2))) ((x3))).1 := LN_x (LN_2 hmk (by omega) hds (by omega) (u8_rng _).1) (by omega)
    have hF1 : IMP (0 ≤ (-2 : Int)) (DCK (LNF (ub8 ((w2))) ((x3))).2 (sc ((w4)) 0 ((u3_1))) ((u0_2)) ((w9))) := fun z => absurd z (by omega)
    have hF2 : IMP (0 ≤ (-2 : Int)) (DCQ (LNF (ub8 ((w2))) ((x3))).2.2.2.1 ((u7_0)) ((y57_0_3)) ((w57_5))) := fun z => absurd z (by omega)
    have hF3 : IMP (0 ≤ (-2 : Int)) (DCT ((LNF (ub8 ((w2))) ((x3))).2.2.2.2.1 0) (((w8)) 0) ((u27_0)) ((u27_1)) ((w28))) := fun z => absurd z (by omega)
    have hF4 : IMP (0 ≤ (-2 : Int)) (DCT ((LNF (ub8 ((w2))) ((x3))).2.2.2.2.1 1) (((w8)) 1) ((u36_0)) ((u36_1)) ((w37))) := fun z => absurd z (by omega)
    have hF5 : IMP (0 ≤ (-2 : Int)) (DCT ((LNF (ub8 ((w2))) ((x3))).2.2.2.2.1 2) (((w8)) 2) ((u45_0)) ((u45_1)) ((w46))) := fun z => absurd z (by omega)
    have hF6 : IMP (0 ≤ (-2 : Int)) (DCW (LNF (ub8 ((w2))) ((x3))).2.2.2.1 ((u7_0)) ((y57_0_3)) ((w57_3)) ((w57_5)) ((w57_4))) := fun z => absurd z (by omega)
    refine Ew_of (pcₚ := 80) (fun _ => x_bipush (z := -2) rfl (by decide)) ?_
    exact w_ireturn rfl (k ((-2)) _ _ _ _ _ _ _ H O (SD_refl) (SD_refl) (cF57) (cA57) ((((show F57 3 0 = F 3 0 from (eF57 3 0)))).trans (pf4)) (n4) (en4) (u3_1) ((((show F57 3 1 = F 3 1 from (eF57 3 1))).trans (eu3_1))) (u3_2) ((((show F57 3 2 = F 3 2 from (eF57 3 2))).trans (eu3_2))) (y57_0_3) (((eF57 5 3).trans ey57_0_3)) (u7_0) ((((show F57 7 0 = F 7 0 from (eF57 7 0))).trans (eu7_0))) (u27_0) ((((show F57 27 0 = F 27 0 from (eF57 27 0))).trans (eu27_0))) (u36_0) ((((show F57 36 0 = F 36 0 from (eF57 36 0))).trans (eu36_0))) (u45_0) ((((show F57 45 0 = F 45 0 from (eF57 45 0))).trans (eu45_0))) (w4) (((show A57 4 = A 4 from (eA57 4))).trans (ew4)) (w57_5) ((eA57 6).trans ew57_5) (w8) (((show A57 8 = A 8 from (eA57 8))).trans (ew8)) (w9) (((show A57 9 = A 9 from (eA57 9))).trans (ew9)) (w57_3) ((eA57 11).trans ew57_3) (w57_4) ((eA57 12).trans ew57_4) (w28) (((show A57 28 = A 28 from (eA57 28))).trans (ew28)) (w29) (((show A57 29 = A 29 from (eA57 29))).trans (ew29)) (w30) (((show A57 30 = A 30 from (eA57 30))).trans (ew30)) (w31) (((show A57 31 = A 31 from (eA57 31))).trans (ew31)) (w33) (((show A57 33 = A 33 from (eA57 33))).trans (ew33)) (w34) (((show A57 34 = A 34 from (eA57 34))).trans (ew34)) (w35) (((show A57 35 = A 35 from (eA57 35))).trans (ew35)) (w37) (((show A57 37 = A 37 from (eA57 37))).trans (ew37)) (w38) (((show A57 38 = A 38 from (eA57 38))).trans (ew38)) (w39) (((show A57 39 = A 39 from (eA57 39))).trans (ew39)) (w40) (((show A57 40 = A 40 from (eA57 40))).trans (ew40)) (w42) (((show A57 42 = A 42 from (eA57 42))).trans (ew42)) (w43) (((show A57 43 = A 43 from (eA57 43))).trans (ew43)) (w44) (((show A57 44 = A 44 from (eA57 44))).trans (ew44)) (w46) (((show A57 46 = A 46 from (eA57 46))).trans (ew46)) (w47) (((show A57 47 = A 47 from (eA57 47))).trans (ew47)) (w48) (((show A57 48 = A 48 from (eA57 48))).trans (ew48)) (w49) (((show A57 49 = A 49 from (eA57 49))).trans (ew49)) (w51) (((show A57 51 = A 51 from (eA57 51))).trans (ew51)) (w52) (((show A57 52 = A 52 from (eA57 52))).trans (ew52)) (w53) (((show A57 53 = A 53 from (eA57 53))).trans (ew53)) (show inr ((-2)) from q_362) (show 0 ≤ (u3_1) ∧ (u3_1) ≤ (n4) ∧ (n4) ≤ 65536 from h2) (show -4 ≤ ((-2)) ∧ ((-2)) ≤ 65536 by first | exact q_3905 | omega) (show ((-2)) < 0 ∨ (u3_1) ≤ ((-2)) by first | exact q_3904 | omega) (pz57_2) (show ((-2)) < 0 ∨ (u7_0) = -1 ∨ (u7_0) = (((D 5 : Nat) : Int)) ∧ 0 ≤ (y57_0_3) ∧ (y57_0_3) ≤ 11 by first | exact q_3903 | omega) (show ((-2)) < 0 ∨ (u7_0) = -1 ∨ LNG ((w57_3)) ((y57_0_3)) by assumption) (show ((-2)) < 0 ∨ ((w8)) 0 = -1 ∨ ((w8)) 0 = (((D 27 : Nat) : Int)) by first | exact q_3902 | omega) (show ((-2)) < 0 ∨ ((w8)) 1 = -1 ∨ ((w8)) 1 = (((D 36 : Nat) : Int)) by first | exact q_3902 | omega) (show ((-2)) < 0 ∨ ((w8)) 2 = -1 ∨ ((w8)) 2 = (((D 45 : Nat) : Int)) by first | exact q_3902 | omega) (show ((-2)) < 0 ∨ ((w8)) 0 = -1 ∨ SL ((w28)) ((u27_1)) ((u27_0)) ((w29)) ((w30)) ((w31)) ((w33)) ((w34)) ((w35)) by assumption) (show ((-2)) < 0 ∨ ((w8)) 1 = -1 ∨ SL ((w37)) ((u36_1)) ((u36_0)) ((w38)) ((w39)) ((w40)) ((w42)) ((w43)) ((w44)) by assumption) (show ((-2)) < 0 ∨ ((w8)) 2 = -1 ∨ SL ((w46)) ((u45_1)) ((u45_0)) ((w47)) ((w48)) ((w49)) ((w51)) ((w52)) ((w53)) by assumption) (show ((-2)) < 0 ∨ ((w8)) 0 = -1 ∨ (u27_0) ≤ 9 by first | exact q_3900 | omega) (show ((-2)) < 0 ∨ ((w8)) 1 = -1 ∨ (u36_0) ≤ 8 by first | exact q_3901 | omega) (show ((-2)) < 0 ∨ ((w8)) 2 = -1 ∨ (u45_0) ≤ 9 by first | exact q_3900 | omega) (show ((-2)) = (LNF (ub8 ((w2))) ((x3))).1 by assumption) (show IMP (0 ≤ ((-2))) (DCK (LNF (ub8 ((w2))) ((x3))).2 (sc ((w4)) 0 ((u3_1))) ((u0_2)) ((w9))) by assumption) (show IMP (0 ≤ ((-2))) (DCQ (LNF (ub8 ((w2))) ((x3))).2.2.2.1 ((u7_0)) ((y57_0_3)) ((w57_5))) by assumption) (show IMP (0 ≤ ((-2))) (DCT ((LNF (ub8 ((w2))) ((x3))).2.2.2.2.1 0) (((w8)) 0) ((u27_0)) ((u27_1)) ((w28))) by assumption) (show IMP (0 ≤ ((-2))) (DCT ((LNF (ub8 ((w2))) ((x3))).2.2.2.2.1 1) (((w8)) 1) ((u36_0)) ((u36_1)) ((w37))) by assumption) (show IMP (0 ≤ ((-2))) (DCT ((LNF (ub8 ((w2))) ((x3))).2.2.2.2.1 2) (((w8)) 2) ((u45_0)) ((u45_1)) ((w46))) by assumption) (show IMP (0 ≤ ((-2))) (DCW (LNF (ub8 ((w2))) ((x3))).2.2.2.1 ((u7_0)) ((y57_0_3)) ((w57_3)) ((w57_5)) ((w57_4))) by assumption) (show ((-2)) < 0 ∨ (u3_2) = 0 by first | exact q_3899 | omega))


end
section
/-! T9l.cls -/
abbrev V15_c10_vA : vV := [(0, 0, [(4, 0), (4, 0), (4, 0), (4, 0), (4, 0), (4, 0), (4, 0), (4, 0), (4, 0), (4, 0), (4, 0), (4, 0), (4, 0), (4, 0), (4, 0), (4, 0), (4, 0), (0, 0), (0, 0)]), (1, 4, []), (0, 7, [(4, 0), (0, 0), (1, 0), (0, 0), (0, 0)]), (1, 0, []), (0, 7, [(4, 0), (0, 0), (1, 0), (0, 0), (0, 0)]), (1, 0, []), (0, 7, [(4, 0), (0, 0), (1, 0), (0, 0), (0, 0)]), (1, 0, []), (0, 7, [(4, 0), (0, 0), (1, 0), (0, 0), (0, 0)]), (1, 0, []), (0, 4, [(4, 0), (4, 0), (0, 0), (4, 0), (4, 0)])]
theorem len_V15_c10_vA_oz_T9lcls : (V15_c10_vA).length = 11 := by decide +kernel
theorem oz_T9lcls_1 : vsub V15_c10_vA V24 [] = true := by decide +kernel
def oz_T9lclsl_0 : List (Nat × Nat) := []
theorem oz_T9lcls_2 : (oz_T9lclsl_0).all (fun p => !tbz 0 (Nat.add (Nat.mul 32 p.1) p.2)) = true := by decide +kernel
def oz_T9lclsl_1 : List Nat := []
theorem oz_T9lcls_3 : (oz_T9lclsl_1).all (fun p => !tbz 0 p) = true := by decide +kernel
theorem oz_T9lcls_4 : okc oz_T9lclsl_1 0 = true := by decide +kernel

theorem C15_c10_vA {σE : rS} {D N : Nat → Nat} {F : hF} {A : hA} {d c s : Nat} {Q : wQ} (H : HW V15_c10_vA σE D N F A)  (pf1 : HID (F 0 0 = (D 1 : Int))) (pf2 : HID (A 1 0 = (D 2 : Int))) (pf3 : HID (F 2 0 = (D 3 : Int))) (pf4 : HID (A 1 1 = (D 4 : Int))) (pf5 : HID (F 4 0 = (D 5 : Int))) (pf6 : HID (A 1 2 = (D 6 : Int))) (pf7 : HID (F 6 0 = (D 7 : Int))) (pf8 : HID (A 1 3 = (D 8 : Int))) (pf9 : HID (F 8 0 = (D 9 : Int))) (pf10 : HID (F 0 4 = (D 10 : Int))) (n1 : Int) (en1 : HID ((N 1 : Int) = n1)) (n3 : Int) (en3 : HID ((N 3 : Int) = n3)) (n5 : Int) (en5 : HID ((N 5 : Int) = n5)) (n7 : Int) (en7 : HID ((N 7 : Int) = n7)) (n9 : Int) (en9 : HID ((N 9 : Int) = n9)) (u2_1 : Int) (eu2_1 : HID (F 2 1 = u2_1)) (u4_1 : Int) (eu4_1 : HID (F 4 1 = u4_1)) (u6_1 : Int) (eu6_1 : HID (F 6 1 = u6_1)) (u8_1 : Int) (eu8_1 : HID (F 8 1 = u8_1)) (h0 : inr (0)) (h1 : (n1) = 4) (h2 : 0 ≤ (u2_1) ∧ (u2_1) ≤ (n3) ∧ (n3) ≤ 65536) (h3 : 0 ≤ (u4_1) ∧ (u4_1) ≤ (n5) ∧ (n5) ≤ 65536) (h4 : 0 ≤ (u6_1) ∧ (u6_1) ≤ (n7) ∧ (n7) ≤ 65536) (h5 : 0 ≤ (u8_1) ∧ (u8_1) ≤ (n9) ∧ (n9) ≤ 65536) (hc20 : ∀ (ls : rO) (σ : rS) (F_c20 : hF) (A_c20 : hA) , rlook ls 0 = some (.ref (D 0)) → HW V15_c10_vA σ D N F_c20 A_c20 → OUT (V15_c10_vA).length D N σE c s D N σ c s → SF [] F F_c20 → SA [] A A_c20 → Ew 15 (d + 1) 20 ls [.ref (D 2), .ref (D 10)] σ c s Q) (k : ∀ (z : Int) (σ : rS) (Fₚ : hF) (Aₚ : hA), HW V15_c10_vA σ D N Fₚ Aₚ → OUT (V15_c10_vA).length D N σE c s D N σ c s → SF [] F Fₚ → SA [] A Aₚ → (inr (z)) → ((0 : Int) = 1) → Q (some (I z)) σ c s) : Ew 15 (d + 1) 0 (rargs 0 [.ref (D 0), I 0]) [] σE c s Q := by
  have O := OUT_refl (n := (V15_c10_vA).length) (D := D) (N := N) (σ := σE) (c := c) (s := s)
  have HE := H
  have r5 : HID ((0 : Int) ≤ n1 ∧ n1 ≤ 1000000) := nrng (H.nle 1 (ltn len_V15_c10_vA_oz_T9lcls rfl)) (show (N 1 : Int) = n1 from en1)
  refine Ew_of (pcₚ := 1) (fun _ => x_iload_n rfl rfl) ?_
  refine w_stat24 rfl rfl (by rfl) (C24x (D := puc 0 D) (N := puc 0 N) (HW_subc H oz_T9lcls_1 oz_T9lcls_4) (show inr (0) from h0) (fun z10 σ10 F10ₚ A10ₚ Hₚ Oₚ hS10 hA10 pz10_0 pz10_1 => ⟨rretB rfl pz10_0, ?_⟩))
  refine v_backc (c := c) (s := s) H oz_T9lcls_1 oz_T9lcls_4 Hₚ Oₚ (fun F10 A10 H Oₚ eF10 eA10 => ?_)
  have O := OUT_trans O Oₚ
  -- PackHouse.isRow
  have cF10 : SF oz_T9lclsl_0 F F10 := SF_trans (SF_refl) (SF_gluc (ι := oz_T9lclsl_1) oz_T9lcls_4 hS10 eF10 (by decide +kernel)) (any_sub (lₚ := []) (by decide +kernel))
  have mF10 := SFm_of cF10 oz_T9lcls_2
  have cA10 : SA oz_T9lclsl_1 A A10 := SA_trans (SA_refl) (SA_gluc (ι := oz_T9lclsl_1) oz_T9lcls_4 hA10 eA10 (by decide +kernel)) (any_subA (lₚ := []) (by decide +kernel))
  have mA10 := SAm_of cA10 oz_T9lcls_3
  refine w_ifne (t := 10) rfl rfl (show inr (z10) from q_138 pz10_0) (fun b11 => ?_) (fun b11 => ?_)
  · refine Ew_of (pcₚ := 11) (fun _ => x_aload_n rfl rfl) ?_
    refine v_g H (o := 0) (v := .ref (D 10)) rfl rfl rfl rfl rfl (vrf ((mF10 0 4 rfl).trans (pf10))) ?_
    refine Ew_of (pcₚ := 15) (fun _ => x_aload_n rfl rfl) ?_
    refine v_g H (o := 0) (v := .ref (D 1)) rfl rfl rfl rfl rfl (vrf ((mF10 0 0 rfl).trans (pf1))) ?_
    refine Ew_of (pcₚ := 19) (fun _ => x_iload_n rfl rfl) ?_
    refine v_lR H (o := 1) rfl rfl rfl rfl rfl (n := n1) (en1) (show 0 ≤ 0 ∧ 0 < n1 from q_4791 (HIDe r5) h1) (z := ((D 2 : Nat) : Int)) (v := .ref (D 2)) ((mA10 1 rfl 0).trans (pf2)) (vrf rfl) ?_
    exact hc20  _ _ _ _  (rfl) H O (SF_trans (SF_refl) (SF_gluc (ι := oz_T9lclsl_1) oz_T9lcls_4 hS10 eF10 (by decide +kernel)) (any_sub (lₚ := []) (by decide +kernel))) (SA_trans (SA_refl) (SA_gluc (ι := oz_T9lclsl_1) oz_T9lcls_4 hA10 eA10 (by decide +kernel)) (any_subA (lₚ := []) (by decide +kernel)))     
  · refine Ew_of (pcₚ := 9) (fun _ => x_bipush (z := -5) rfl (by decide)) ?_
    exact w_ireturn rfl (k ((-5)) _ _ _ H O (cF10) (cA10) (show inr ((-5)) from q_2302) (show (0 : Int) = 1 by omega))
abbrev V15_c11_vA : vV := [(0, 0, [(4, 0), (4, 0), (4, 0), (4, 0), (4, 0), (4, 0), (4, 0), (4, 0), (4, 0), (4, 0), (4, 0), (4, 0), (4, 0), (4, 0), (4, 0), (4, 0), (4, 0), (0, 0), (0, 0)]), (1, 4, []), (0, 7, [(4, 0), (0, 0), (1, 0), (0, 0), (0, 0)]), (1, 0, []), (0, 7, [(4, 0), (0, 0), (1, 0), (0, 0), (0, 0)]), (1, 0, []), (0, 7, [(4, 0), (0, 0), (1, 0), (0, 0), (0, 0)]), (1, 0, []), (0, 7, [(4, 0), (0, 0), (1, 0), (0, 0), (0, 0)]), (1, 0, []), (0, 4, [(4, 0), (4, 0), (0, 0), (4, 0), (4, 0)])]
theorem len_V15_c11_vA_oz_T9lcls : (V15_c11_vA).length = 11 := by decide +kernel
theorem oz_T9lcls_6 : vsub V15_c11_vA V24 [] = true := by decide +kernel

theorem C15_c11_vA {σE : rS} {D N : Nat → Nat} {F : hF} {A : hA} {d c s : Nat} {Q : wQ} (H : HW V15_c11_vA σE D N F A)  (pf1 : HID (F 0 0 = (D 1 : Int))) (pf2 : HID (A 1 0 = (D 2 : Int))) (pf3 : HID (F 2 0 = (D 3 : Int))) (pf4 : HID (A 1 1 = (D 4 : Int))) (pf5 : HID (F 4 0 = (D 5 : Int))) (pf6 : HID (A 1 2 = (D 6 : Int))) (pf7 : HID (F 6 0 = (D 7 : Int))) (pf8 : HID (A 1 3 = (D 8 : Int))) (pf9 : HID (F 8 0 = (D 9 : Int))) (pf10 : HID (F 0 4 = (D 10 : Int))) (n1 : Int) (en1 : HID ((N 1 : Int) = n1)) (n3 : Int) (en3 : HID ((N 3 : Int) = n3)) (n5 : Int) (en5 : HID ((N 5 : Int) = n5)) (n7 : Int) (en7 : HID ((N 7 : Int) = n7)) (n9 : Int) (en9 : HID ((N 9 : Int) = n9)) (u2_1 : Int) (eu2_1 : HID (F 2 1 = u2_1)) (u4_1 : Int) (eu4_1 : HID (F 4 1 = u4_1)) (u6_1 : Int) (eu6_1 : HID (F 6 1 = u6_1)) (u8_1 : Int) (eu8_1 : HID (F 8 1 = u8_1)) (h0 : inr (1)) (h1 : (n1) = 4) (h2 : 0 ≤ (u2_1) ∧ (u2_1) ≤ (n3) ∧ (n3) ≤ 65536) (h3 : 0 ≤ (u4_1) ∧ (u4_1) ≤ (n5) ∧ (n5) ≤ 65536) (h4 : 0 ≤ (u6_1) ∧ (u6_1) ≤ (n7) ∧ (n7) ≤ 65536) (h5 : 0 ≤ (u8_1) ∧ (u8_1) ≤ (n9) ∧ (n9) ≤ 65536) (hc20 : ∀ (ls : rO) (σ : rS) (F_c20 : hF) (A_c20 : hA) , rlook ls 0 = some (.ref (D 0)) → HW V15_c11_vA σ D N F_c20 A_c20 → OUT (V15_c11_vA).length D N σE c s D N σ c s → SF [] F F_c20 → SA [] A A_c20 → Ew 15 (d + 1) 20 ls [.ref (D 4), .ref (D 10)] σ c s Q) (k : ∀ (z : Int) (σ : rS) (Fₚ : hF) (Aₚ : hA), HW V15_c11_vA σ D N Fₚ Aₚ → OUT (V15_c11_vA).length D N σE c s D N σ c s → SF [] F Fₚ → SA [] A Aₚ → (inr (z)) → ((0 : Int) = 1) → Q (some (I z)) σ c s) : Ew 15 (d + 1) 0 (rargs 0 [.ref (D 0), I 1]) [] σE c s Q := by
  have O := OUT_refl (n := (V15_c11_vA).length) (D := D) (N := N) (σ := σE) (c := c) (s := s)
  have HE := H
  have r5 : HID ((0 : Int) ≤ n1 ∧ n1 ≤ 1000000) := nrng (H.nle 1 (ltn len_V15_c11_vA_oz_T9lcls rfl)) (show (N 1 : Int) = n1 from en1)
  refine Ew_of (pcₚ := 1) (fun _ => x_iload_n rfl rfl) ?_
  refine w_stat24 rfl rfl (by rfl) (C24x (D := puc 0 D) (N := puc 0 N) (HW_subc H oz_T9lcls_6 oz_T9lcls_4) (show inr (1) from h0) (fun z10 σ10 F10ₚ A10ₚ Hₚ Oₚ hS10 hA10 pz10_0 pz10_1 => ⟨rretB rfl pz10_0, ?_⟩))
  refine v_backc (c := c) (s := s) H oz_T9lcls_6 oz_T9lcls_4 Hₚ Oₚ (fun F10 A10 H Oₚ eF10 eA10 => ?_)
  have O := OUT_trans O Oₚ
  -- PackHouse.isRow
  have cF10 : SF oz_T9lclsl_0 F F10 := SF_trans (SF_refl) (SF_gluc (ι := oz_T9lclsl_1) oz_T9lcls_4 hS10 eF10 (by decide +kernel)) (any_sub (lₚ := []) (by decide +kernel))
  have mF10 := SFm_of cF10 oz_T9lcls_2
  have cA10 : SA oz_T9lclsl_1 A A10 := SA_trans (SA_refl) (SA_gluc (ι := oz_T9lclsl_1) oz_T9lcls_4 hA10 eA10 (by decide +kernel)) (any_subA (lₚ := []) (by decide +kernel))
  have mA10 := SAm_of cA10 oz_T9lcls_3
  refine w_ifne (t := 10) rfl rfl (show inr (z10) from q_138 pz10_0) (fun b11 => ?_) (fun b11 => ?_)
  · refine Ew_of (pcₚ := 11) (fun _ => x_aload_n rfl rfl) ?_
    refine v_g H (o := 0) (v := .ref (D 10)) rfl rfl rfl rfl rfl (vrf ((mF10 0 4 rfl).trans (pf10))) ?_
    refine Ew_of (pcₚ := 15) (fun _ => x_aload_n rfl rfl) ?_
    refine v_g H (o := 0) (v := .ref (D 1)) rfl rfl rfl rfl rfl (vrf ((mF10 0 0 rfl).trans (pf1))) ?_
    refine Ew_of (pcₚ := 19) (fun _ => x_iload_n rfl rfl) ?_
    refine v_lR H (o := 1) rfl rfl rfl rfl rfl (n := n1) (en1) (show 0 ≤ 1 ∧ 1 < n1 from q_4792 (HIDe r5) h1) (z := ((D 4 : Nat) : Int)) (v := .ref (D 4)) ((mA10 1 rfl 1).trans (pf4)) (vrf rfl) ?_
    exact hc20  _ _ _ _  (rfl) H O (SF_trans (SF_refl) (SF_gluc (ι := oz_T9lclsl_1) oz_T9lcls_4 hS10 eF10 (by decide +kernel)) (any_sub (lₚ := []) (by decide +kernel))) (SA_trans (SA_refl) (SA_gluc (ι := oz_T9lclsl_1) oz_T9lcls_4 hA10 eA10 (by decide +kernel)) (any_subA (lₚ := []) (by decide +kernel)))     
  · refine Ew_of (pcₚ := 9) (fun _ => x_bipush (z := -5) rfl (by decide)) ?_
    exact w_ireturn rfl (k ((-5)) _ _ _ H O (cF10) (cA10) (show inr ((-5)) from q_2302) (show (0 : Int) = 1 by omega))
abbrev V15_c12_vA : vV := [(0, 0, [(4, 0), (4, 0), (4, 0), (4, 0), (4, 0), (4, 0), (4, 0), (4, 0), (4, 0), (4, 0), (4, 0), (4, 0), (4, 0), (4, 0), (4, 0), (4, 0), (4, 0), (0, 0), (0, 0)]), (1, 4, []), (0, 7, [(4, 0), (0, 0), (1, 0), (0, 0), (0, 0)]), (1, 0, []), (0, 7, [(4, 0), (0, 0), (1, 0), (0, 0), (0, 0)]), (1, 0, []), (0, 7, [(4, 0), (0, 0), (1, 0), (0, 0), (0, 0)]), (1, 0, []), (0, 7, [(4, 0), (0, 0), (1, 0), (0, 0), (0, 0)]), (1, 0, []), (0, 4, [(4, 0), (4, 0), (0, 0), (4, 0), (4, 0)])]
theorem len_V15_c12_vA_oz_T9lcls : (V15_c12_vA).length = 11 := by decide +kernel
theorem oz_T9lcls_8 : vsub V15_c12_vA V24 [] = true := by decide +kernel

theorem C15_c12_vA {σE : rS} {D N : Nat → Nat} {F : hF} {A : hA} {d c s : Nat} {Q : wQ} (H : HW V15_c12_vA σE D N F A)  (pf1 : HID (F 0 0 = (D 1 : Int))) (pf2 : HID (A 1 0 = (D 2 : Int))) (pf3 : HID (F 2 0 = (D 3 : Int))) (pf4 : HID (A 1 1 = (D 4 : Int))) (pf5 : HID (F 4 0 = (D 5 : Int))) (pf6 : HID (A 1 2 = (D 6 : Int))) (pf7 : HID (F 6 0 = (D 7 : Int))) (pf8 : HID (A 1 3 = (D 8 : Int))) (pf9 : HID (F 8 0 = (D 9 : Int))) (pf10 : HID (F 0 4 = (D 10 : Int))) (n1 : Int) (en1 : HID ((N 1 : Int) = n1)) (n3 : Int) (en3 : HID ((N 3 : Int) = n3)) (n5 : Int) (en5 : HID ((N 5 : Int) = n5)) (n7 : Int) (en7 : HID ((N 7 : Int) = n7)) (n9 : Int) (en9 : HID ((N 9 : Int) = n9)) (u2_1 : Int) (eu2_1 : HID (F 2 1 = u2_1)) (u4_1 : Int) (eu4_1 : HID (F 4 1 = u4_1)) (u6_1 : Int) (eu6_1 : HID (F 6 1 = u6_1)) (u8_1 : Int) (eu8_1 : HID (F 8 1 = u8_1)) (h0 : inr (2)) (h1 : (n1) = 4) (h2 : 0 ≤ (u2_1) ∧ (u2_1) ≤ (n3) ∧ (n3) ≤ 65536) (h3 : 0 ≤ (u4_1) ∧ (u4_1) ≤ (n5) ∧ (n5) ≤ 65536) (h4 : 0 ≤ (u6_1) ∧ (u6_1) ≤ (n7) ∧ (n7) ≤ 65536) (h5 : 0 ≤ (u8_1) ∧ (u8_1) ≤ (n9) ∧ (n9) ≤ 65536) (hc20 : ∀ (ls : rO) (σ : rS) (F_c20 : hF) (A_c20 : hA) , rlook ls 0 = some (.ref (D 0)) → HW V15_c12_vA σ D N F_c20 A_c20 → OUT (V15_c12_vA).length D N σE c s D N σ c s → SF [] F F_c20 → SA [] A A_c20 → Ew 15 (d + 1) 20 ls [.ref (D 6), .ref (D 10)] σ c s Q) (k : ∀ (z : Int) (σ : rS) (Fₚ : hF) (Aₚ : hA), HW V15_c12_vA σ D N Fₚ Aₚ → OUT (V15_c12_vA).length D N σE c s D N σ c s → SF [] F Fₚ → SA [] A Aₚ → (inr (z)) → ((0 : Int) = 1) → Q (some (I z)) σ c s) : Ew 15 (d + 1) 0 (rargs 0 [.ref (D 0), I 2]) [] σE c s Q := by
  have O := OUT_refl (n := (V15_c12_vA).length) (D := D) (N := N) (σ := σE) (c := c) (s := s)
  have HE := H
  have r5 : HID ((0 : Int) ≤ n1 ∧ n1 ≤ 1000000) := nrng (H.nle 1 (ltn len_V15_c12_vA_oz_T9lcls rfl)) (show (N 1 : Int) = n1 from en1)
  refine Ew_of (pcₚ := 1) (fun _ => x_iload_n rfl rfl) ?_
  refine w_stat24 rfl rfl (by rfl) (C24x (D := puc 0 D) (N := puc 0 N) (HW_subc H oz_T9lcls_8 oz_T9lcls_4) (show inr (2) from h0) (fun z10 σ10 F10ₚ A10ₚ Hₚ Oₚ hS10 hA10 pz10_0 pz10_1 => ⟨rretB rfl pz10_0, ?_⟩))
  refine v_backc (c := c) (s := s) H oz_T9lcls_8 oz_T9lcls_4 Hₚ Oₚ (fun F10 A10 H Oₚ eF10 eA10 => ?_)
  have O := OUT_trans O Oₚ
  -- PackHouse.isRow
  have cF10 : SF oz_T9lclsl_0 F F10 := SF_trans (SF_refl) (SF_gluc (ι := oz_T9lclsl_1) oz_T9lcls_4 hS10 eF10 (by decide +kernel)) (any_sub (lₚ := []) (by decide +kernel))
  have mF10 := SFm_of cF10 oz_T9lcls_2
  have cA10 : SA oz_T9lclsl_1 A A10 := SA_trans (SA_refl) (SA_gluc (ι := oz_T9lclsl_1) oz_T9lcls_4 hA10 eA10 (by decide +kernel)) (any_subA (lₚ := []) (by decide +kernel))
  have mA10 := SAm_of cA10 oz_T9lcls_3
  refine w_ifne (t := 10) rfl rfl (show inr (z10) from q_138 pz10_0) (fun b11 => ?_) (fun b11 => ?_)
  · refine Ew_of (pcₚ := 11) (fun _ => x_aload_n rfl rfl) ?_
    refine v_g H (o := 0) (v := .ref (D 10)) rfl rfl rfl rfl rfl (vrf ((mF10 0 4 rfl).trans (pf10))) ?_
    refine Ew_of (pcₚ := 15) (fun _ => x_aload_n rfl rfl) ?_
    refine v_g H (o := 0) (v := .ref (D 1)) rfl rfl rfl rfl rfl (vrf ((mF10 0 0 rfl).trans (pf1))) ?_
    refine Ew_of (pcₚ := 19) (fun _ => x_iload_n rfl rfl) ?_
    refine v_lR H (o := 1) rfl rfl rfl rfl rfl (n := n1) (en1) (show 0 ≤ 2 ∧ 2 < n1 from q_4793 (HIDe r5) h1) (z := ((D 6 : Nat) : Int)) (v := .ref (D 6)) ((mA10 1 rfl 2).trans (pf6)) (vrf rfl) ?_
    exact hc20  _ _ _ _  (rfl) H O (SF_trans (SF_refl) (SF_gluc (ι := oz_T9lclsl_1) oz_T9lcls_4 hS10 eF10 (by decide +kernel)) (any_sub (lₚ := []) (by decide +kernel))) (SA_trans (SA_refl) (SA_gluc (ι := oz_T9lclsl_1) oz_T9lcls_4 hA10 eA10 (by decide +kernel)) (any_subA (lₚ := []) (by decide +kernel)))     
  · refine Ew_of (pcₚ := 9) (fun _ => x_bipush (z := -5) rfl (by decide)) ?_
    exact w_ireturn rfl (k ((-5)) _ _ _ H O (cF10) (cA10) (show inr ((-5)) from q_2302) (show (0 : Int) = 1 by omega))
abbrev V15_c13_vA : vV := [(0, 0, [(4, 0), (4, 0), (4, 0), (4, 0), (4, 0), (4, 0), (4, 0), (4, 0), (4, 0), (4, 0), (4, 0), (4, 0), (4, 0), (4, 0), (4, 0), (4, 0), (4, 0), (0, 0), (0, 0)]), (1, 4, []), (0, 7, [(4, 0), (0, 0), (1, 0), (0, 0), (0, 0)]), (1, 0, []), (0, 7, [(4, 0), (0, 0), (1, 0), (0, 0), (0, 0)]), (1, 0, []), (0, 7, [(4, 0), (0, 0), (1, 0), (0, 0), (0, 0)]), (1, 0, []), (0, 7, [(4, 0), (0, 0), (1, 0), (0, 0), (0, 0)]), (1, 0, []), (0, 4, [(4, 0), (4, 0), (0, 0), (4, 0), (4, 0)])]
theorem oz_T9lcls_10 : vsub V15_c13_vA V24 [] = true := by decide +kernel

theorem C15_c13_vA {σE : rS} {D N : Nat → Nat} {F : hF} {A : hA} {d c s : Nat} {Q : wQ} (H : HW V15_c13_vA σE D N F A)  (pf1 : HID (F 0 0 = (D 1 : Int))) (pf2 : HID (A 1 0 = (D 2 : Int))) (pf3 : HID (F 2 0 = (D 3 : Int))) (pf4 : HID (A 1 1 = (D 4 : Int))) (pf5 : HID (F 4 0 = (D 5 : Int))) (pf6 : HID (A 1 2 = (D 6 : Int))) (pf7 : HID (F 6 0 = (D 7 : Int))) (pf8 : HID (A 1 3 = (D 8 : Int))) (pf9 : HID (F 8 0 = (D 9 : Int))) (pf10 : HID (F 0 4 = (D 10 : Int))) (n1 : Int) (en1 : HID ((N 1 : Int) = n1)) (n3 : Int) (en3 : HID ((N 3 : Int) = n3)) (n5 : Int) (en5 : HID ((N 5 : Int) = n5)) (n7 : Int) (en7 : HID ((N 7 : Int) = n7)) (n9 : Int) (en9 : HID ((N 9 : Int) = n9)) (u2_1 : Int) (eu2_1 : HID (F 2 1 = u2_1)) (u4_1 : Int) (eu4_1 : HID (F 4 1 = u4_1)) (u6_1 : Int) (eu6_1 : HID (F 6 1 = u6_1)) (u8_1 : Int) (eu8_1 : HID (F 8 1 = u8_1)) (h0 : inr (3)) (h1 : (n1) = 4) (h2 : 0 ≤ (u2_1) ∧ (u2_1) ≤ (n3) ∧ (n3) ≤ 65536) (h3 : 0 ≤ (u4_1) ∧ (u4_1) ≤ (n5) ∧ (n5) ≤ 65536) (h4 : 0 ≤ (u6_1) ∧ (u6_1) ≤ (n7) ∧ (n7) ≤ 65536) (h5 : 0 ≤ (u8_1) ∧ (u8_1) ≤ (n9) ∧ (n9) ≤ 65536) (hc20 : ∀ (ls : rO) (σ : rS) (F_c20 : hF) (A_c20 : hA) , rlook ls 0 = some (.ref (D 0)) → HW V15_c13_vA σ D N F_c20 A_c20 → OUT (V15_c13_vA).length D N σE c s D N σ c s → SF [] F F_c20 → SA [] A A_c20 → Ew 15 (d + 1) 20 ls [.ref (D 8), .ref (D 10)] σ c s Q) (k : ∀ (z : Int) (σ : rS) (Fₚ : hF) (Aₚ : hA), HW V15_c13_vA σ D N Fₚ Aₚ → OUT (V15_c13_vA).length D N σE c s D N σ c s → SF [] F Fₚ → SA [] A Aₚ → (inr (z)) → ((0 : Int) = 1) → Q (some (I z)) σ c s) : Ew 15 (d + 1) 0 (rargs 0 [.ref (D 0), I 3]) [] σE c s Q := by
  have O := OUT_refl (n := (V15_c13_vA).length) (D := D) (N := N) (σ := σE) (c := c) (s := s)
  have HE := H
  refine Ew_of (pcₚ := 1) (fun _ => x_iload_n rfl rfl) ?_
  refine w_stat24 rfl rfl (by rfl) (C24x (D := puc 0 D) (N := puc 0 N) (HW_subc H oz_T9lcls_10 oz_T9lcls_4) (show inr (3) from h0) (fun z10 σ10 F10ₚ A10ₚ Hₚ Oₚ hS10 hA10 pz10_0 pz10_1 => ⟨rretB rfl pz10_0, ?_⟩))
  refine v_backc (c := c) (s := s) H oz_T9lcls_10 oz_T9lcls_4 Hₚ Oₚ (fun F10 A10 H Oₚ eF10 eA10 => ?_)
  have O := OUT_trans O Oₚ
  -- PackHouse.isRow
  have cF10 : SF oz_T9lclsl_0 F F10 := SF_trans (SF_refl) (SF_gluc (ι := oz_T9lclsl_1) oz_T9lcls_4 hS10 eF10 (by decide +kernel)) (any_sub (lₚ := []) (by decide +kernel))
  have mF10 := SFm_of cF10 oz_T9lcls_2
  have cA10 : SA oz_T9lclsl_1 A A10 := SA_trans (SA_refl) (SA_gluc (ι := oz_T9lclsl_1) oz_T9lcls_4 hA10 eA10 (by decide +kernel)) (any_subA (lₚ := []) (by decide +kernel))
  have mA10 := SAm_of cA10 oz_T9lcls_3
  refine w_ifne (t := 10) rfl rfl (show inr (z10) from q_138 pz10_0) (fun b11 => ?_) (fun b11 => ?_)
  · refine Ew_of (pcₚ := 11) (fun _ => x_aload_n rfl rfl) ?_
    refine v_g H (o := 0) (v := .ref (D 10)) rfl rfl rfl rfl rfl (vrf ((mF10 0 4 rfl).trans (pf10))) ?_
    refine Ew_of (pcₚ := 15) (fun _ => x_aload_n rfl rfl) ?_
    refine v_g H (o := 0) (v := .ref (D 1)) rfl rfl rfl rfl rfl (vrf ((mF10 0 0 rfl).trans (pf1))) ?_
    refine Ew_of (pcₚ := 19) (fun _ => x_iload_n rfl rfl) ?_
    refine v_lR H (o := 1) rfl rfl rfl rfl rfl (n := n1) (en1) (show 0 ≤ 3 ∧ 3 < n1 from q_4794 h1) (z := ((D 8 : Nat) : Int)) (v := .ref (D 8)) ((mA10 1 rfl 3).trans (pf8)) (vrf rfl) ?_
    exact hc20  _ _ _ _  (rfl) H O (SF_trans (SF_refl) (SF_gluc (ι := oz_T9lclsl_1) oz_T9lcls_4 hS10 eF10 (by decide +kernel)) (any_sub (lₚ := []) (by decide +kernel))) (SA_trans (SA_refl) (SA_gluc (ι := oz_T9lclsl_1) oz_T9lcls_4 hA10 eA10 (by decide +kernel)) (any_subA (lₚ := []) (by decide +kernel)))     
  · refine Ew_of (pcₚ := 9) (fun _ => x_bipush (z := -5) rfl (by decide)) ?_
    exact w_ireturn rfl (k ((-5)) _ _ _ H O (cF10) (cA10) (show inr ((-5)) from q_2302) (show (0 : Int) = 1 by omega))
abbrev V15_vX : vV := [(0, 0, [(4, 0), (4, 0), (4, 0), (4, 0), (4, 0), (4, 0), (4, 0), (4, 0), (4, 0), (4, 0), (4, 0), (4, 0), (4, 0), (4, 0), (4, 0), (4, 0), (4, 0), (0, 0), (0, 0)])]
theorem oz_T9lcls_12 : vsub V15_vX V24 [] = true := by decide +kernel

theorem C15_vX {σE : rS} {D N : Nat → Nat} {F : hF} {A : hA} {d c s : Nat} {Q : wQ} (H : HW V15_vX σE D N F A) {a1 : Int} (h0 : inr (a1)) (h1 : (a1) < 0 ∨ 4 ≤ (a1)) (k : ∀ (z : Int) (σ : rS) (Fₚ : hF) (Aₚ : hA), HW V15_vX σ D N Fₚ Aₚ → OUT (V15_vX).length D N σE c s D N σ c s → SF [] F Fₚ → SA [] A Aₚ → (inr (z)) → ((z) = -5) → Q (some (I z)) σ c s) : Ew 15 (d + 1) 0 (rargs 0 [.ref (D 0), I a1]) [] σE c s Q := by
  have O := OUT_refl (n := (V15_vX).length) (D := D) (N := N) (σ := σE) (c := c) (s := s)
  have HE := H
  refine Ew_of (pcₚ := 1) (fun _ => x_iload_n rfl rfl) ?_
  refine w_stat24 rfl rfl (by rfl) (C24x (D := puc 0 D) (N := puc 0 N) (HW_subc H oz_T9lcls_12 oz_T9lcls_4) (show inr (a1) from h0) (fun z1 σ1 F1ₚ A1ₚ Hₚ Oₚ hS1 hA1 pz1_0 pz1_1 => ⟨rretB rfl pz1_0, ?_⟩))
  refine v_backc (c := c) (s := s) H oz_T9lcls_12 oz_T9lcls_4 Hₚ Oₚ (fun F1 A1 H Oₚ eF1 eA1 => ?_)
  have O := OUT_trans O Oₚ
  -- PackHouse.isRow
  have cF1 : SF oz_T9lclsl_0 F F1 := SF_trans (SF_refl) (SF_gluc (ι := oz_T9lclsl_1) oz_T9lcls_4 hS1 eF1 (by decide +kernel)) (any_sub (lₚ := []) (by decide +kernel))
  have mF1 := SFm_of cF1 oz_T9lcls_2
  have cA1 : SA oz_T9lclsl_1 A A1 := SA_trans (SA_refl) (SA_gluc (ι := oz_T9lclsl_1) oz_T9lcls_4 hA1 eA1 (by decide +kernel)) (any_subA (lₚ := []) (by decide +kernel))
  have mA1 := SAm_of cA1 oz_T9lcls_3
  refine w_ifne (t := 10) rfl rfl (show inr (z1) from q_138 pz1_0) (fun b2 => ?_) (fun b2 => ?_)
  · exfalso
    omega
  · refine Ew_of (pcₚ := 9) (fun _ => x_bipush (z := -5) rfl (by decide)) ?_
    exact w_ireturn rfl (k ((-5)) _ _ _ H O (cF1) (cA1) (show inr ((-5)) from q_2302) (show ((-5)) = -5 by first | exact q_5076 | omega))


end
section
/-! 24a -/
def WSD (Dc : DcS) (st : WSt) : Prop :=
  (Dc.2.2.1.1 = 0 → st.1 = none) ∧ (∀ (T : Int) (G : Int → Int), CI G T → T = Dc.2.2.1.1 → (∀ i, 0 ≤ i → i < 256 → G i = Dc.2.2.1.2 i) → st.1 = cdO T G) ∧
  (∀ t, 0 ≤ t → t < 3 → ((Dc.2.2.2.1 t).1 < 0 → (st.2.1 t).1 < 0) ∧ (∀ (L n : Int) (P : Int → Int), SHX (Dc.2.2.2.1 t) L n P → 0 ≤ L → st.2.1 t = ((L, cutP n P) : TSt)) ∧ TOK (st.2.1 t)) ∧
  st.2.2.1 = (Dc.2.2.2.2.1, Dc.2.2.2.2.2.1, Dc.2.2.2.2.2.2) ∧ ∀ i, 0 ≤ i → i < 12 → st.2.2.2 i = 0
section WSDx
variable {Dc : DcS} {st : WSt} {s T d L n t : Int} {G ce co P la : Int → Int}
theorem WSD_c0 (h : WSD Dc st) (e : Dc.2.2.1.1 = 0) : IMP (s = -1) (st.1 = none) := fun _ => h.1 e
theorem WSD_c1 (h : WSD Dc st) (q : DCQ Dc.2.2.1 s T ce) : IMP (s = -1) (st.1 = none) := fun e => by
  rcases q with ⟨_, q⟩ | ⟨q, _⟩
  · exact h.1 q
  · exact absurd e q
theorem WSD_c2 (h : WSD Dc st) (q : DCQ Dc.2.2.1 s T ce) (w : DCW Dc.2.2.1 s T G ce co) (hd : 0 ≤ d) : SLB s d (CWO st.1 T G ce co) := by
  rcases q with ⟨e, _⟩ | ⟨e, q⟩
  · exact .inl (by omega)
  · rcases w with w | ⟨w1, w2, w3⟩
    · exact absurd w e
    · exact .inr ⟨h.2.1 T G w1 q.1 w3, w1, w2⟩
theorem WSD_t0 (h : WSD Dc st) (ht : 0 ≤ t ∧ t < 3) (e : (Dc.2.2.2.1 t).1 < 0) : IMP (s = -1) ((st.2.1 t).1 < 0) := fun _ => (h.2.2.1 t ht.1 ht.2).1 e
theorem WSD_t1 (h : WSD Dc st) (ht : 0 ≤ t ∧ t < 3) (q : DCT (Dc.2.2.2.1 t) s L n P) : IMP (s = -1) ((st.2.1 t).1 < 0) := fun e => by
  rcases q with ⟨_, q⟩ | ⟨q, _⟩
  · exact (h.2.2.1 t ht.1 ht.2).1 q
  · exact absurd e q
theorem WSD_t2 (h : WSD Dc st) (ht : 0 ≤ t ∧ t < 3) (q : DCT (Dc.2.2.2.1 t) s L n P) (hL : s ≠ -1 → 0 ≤ L) (hd : 0 ≤ d) : SLB s d (st.2.1 t = ((L, cutP n P) : TSt)) := by
  rcases q with ⟨e, _⟩ | ⟨e, q⟩
  · exact .inl (by omega)
  · exact .inr ((h.2.2.1 t ht.1 ht.2).2.1 L n P q (hL e))
theorem WSD_k (h : WSD Dc st) (ht : 0 ≤ t ∧ t < 3) : TOK (st.2.1 t) := (h.2.2.1 t ht.1 ht.2).2.2
theorem WSD_l {con : List Int} {id : Int} (h : WSD Dc st) (q : DCK Dc con id la) : st.2.2.1 = (la 0, la 1, la 2) := by
  rw [h.2.2.2.1, q.2.2.1, q.2.2.2.1, q.2.2.2.2]
theorem WSD_n (h : WSD Dc st) : ∀ i, 0 ≤ i → i < 12 → st.2.2.2 i = 0 := h.2.2.2.2
theorem DCK_lt {con : List Int} {id : Int} (q : DCK Dc con id la) (h : DCl Dc) : 1 ≤ la 0 ∧ 1 ≤ la 1 ∧ 1 ≤ la 2 := by
  obtain ⟨_, _, a, b, c⟩ := q
  obtain ⟨x, y, z⟩ := h
  omega
theorem cutP_c2 {m k : Int} {f g : Int → Int} (h : ∀ i, (if 0 ≤ i ∧ i < m then f i else 0) = (if 0 ≤ i ∧ i < k then g i else 0)) : cutP m f = cutP k g := funext h
theorem lastOf_3 {t : Int} (h : 0 ≤ t ∧ t < 3) : 0 ≤ lastOf t + 1 ∧ lastOf t + 1 ≤ 64 := by
  rcases (show t = 0 ∨ t = 1 ∨ t = 2 by omega) with e | e | e <;> subst e <;> decide

theorem WSD_R {wf wi ws rf ri rs : Int} {wd wl wp wo wa rd rl rp ro ra : Int → Int} (h : WEQ wf wi ws wd wl wp wo wa rf ri rs rd rl rp ro ra) (k : RDI Dc rf ri rd rs rl rp ro ra) (hl : DCl Dc) : WSD Dc (bgS wf wl wp wo wa (fun _ => 0)) := by
  obtain ⟨h1, _, _, _, h5, h6, h7, h8⟩ := h
  obtain ⟨_, _, k⟩ := k
  rcases k with ⟨f0, c0, x0, l0, l1, l2⟩ | ⟨f1, ci, dl, rx, l0, l1, l2⟩
  · have e : bgS wf wl wp wo wa (fun _ => 0) = (none, (fun _ => btS (-1) (fun _ => 0)), (1, 4, 8), fun _ => 0) := if_pos (by omega)
    have b0 : btS (-1) (fun _ => 0) = (-1, fun _ => 0) := if_pos (by decide)
    rw [e]
    refine ⟨fun _ => rfl, fun T G _ hT _ => ?_, fun t a b => ⟨fun _ => ?_, fun L n P q hL => ?_, fun q => ?_⟩, ?_, fun _ _ _ => rfl⟩
    · show none = cdO T G
      unfold cdO
      rw [if_neg (by omega)]
    · show (btS (-1) (fun _ => 0)).1 < 0
      rw [b0]
      decide
    · have := x0 t a b
      have := q.1
      omega
    · have q : (btS (-1) (fun _ => 0)).1 = 0 := q
      rw [b0] at q
      exact absurd q (by decide)
    · show ((1, 4, 8) : Int × Int × Int) = _
      rw [l0, l1, l2]
  · have e : bgS wf wl wp wo wa (fun _ => 0) = (cdO (mxN wl 256) wl, BR wp wo, (wa 0, wa 1, wa 2), fun _ => 0) := if_neg (by omega)
    obtain ⟨c1, c2, c3, c4, c5⟩ := ci
    have hw : ∀ i, 0 ≤ i → i < 256 → wl i = Dc.2.2.1.2 i := fun i a b => (h5 i a b).trans (dl i a b)
    have hm : Dc.2.2.1.1 = mxN wl 256 := mxN_is (n := 256) c1 (fun i a b => by rw [hw i a b]; exact (c3 i a b).2) (.inr (by obtain ⟨i, a, b, q⟩ := c5; exact ⟨i, a, b, (hw i a b).trans q⟩))
    have la : ∀ i, 0 ≤ i → i < 3 → wa i = w32 (ra i) := h8
    obtain ⟨d0, d1, d2⟩ := hl
    rw [e]
    refine ⟨fun q => ?_, fun T G _ hT hG => ?_, fun t a b => ?_, ?_, fun _ _ _ => rfl⟩
    · show cdO (mxN wl 256) wl = none
      unfold cdO
      rw [if_neg (by omega)]
    · show cdO (mxN wl 256) wl = cdO T G
      rw [hT, hm]
      unfold cdO
      by_cases c : 0 < mxN wl 256
      · rw [if_pos c, if_pos c, cutP_c2 (m := 256) (k := 256) (f := wl) (g := G) (fun i => by
          by_cases u : 0 ≤ i ∧ i < 256
          · rw [if_pos u, if_pos u, hw i u.1 u.2, hG i u.1 u.2]
          · rw [if_neg u, if_neg u])]
      · rw [if_neg c, if_neg c]
    · obtain ⟨r1, r2, r3, r4, r5, r6⟩ := rx t a b
      have o := h7 t a b
      have eb : BR wp wo t = (wo t, cutP 64 (sh wp (64 * t))) := if_neg (by omega)
      have lo := lastOf_3 ⟨a, b⟩
      refine ⟨fun q => by omega, fun L n P q hL => ?_, fun q => ?_⟩
      · show BR wp wo t = _
        rw [eb]
        obtain ⟨q1, q2, q3⟩ := q
        rw [o, ← r3, q1]
        rw [cutP_c2 (m := 64) (k := n) (f := sh wp (64 * t)) (g := P) (fun i => by
          by_cases u : 0 ≤ i ∧ i < n
          · rw [if_pos u, if_pos ⟨u.1, by omega⟩, ← q3 i u.1 u.2, r5 i u.1 (by omega)]
            exact h6 _ (by omega) (by omega)
          · rw [if_neg u]
            by_cases v : 0 ≤ i ∧ i < 64
            · rw [if_pos v]
              exact (h6 _ (by omega) (by omega)).trans (r6 i (by omega) v.2)
            · rw [if_neg v])]
      · have q : (BR wp wo t).1 = 0 := q
        rw [eb] at q
        have q : wo t = 0 := q
        omega
    · show ((wa 0, wa 1, wa 2) : Int × Int × Int) = _
      rw [la 0 (by decide) (by decide), la 1 (by decide) (by decide), la 2 (by decide) (by decide), l0, l1, l2, w32_id (by omega), w32_id (by omega), w32_id (by omega)]
end WSDx

theorem RDQ_H {f m ret pl : Int} {L O H H2 : List Int} {Dc : DcS} (x : RDQ f L H Dc m ret pl O) (h : 2 ≤ f) : RDQ f L H2 Dc m ret pl O := by
  rcases x with ⟨a, _⟩ | ⟨a, _⟩ | x
  · omega
  · omega
  · exact .inr (.inr x)
theorem WRY_H {f ret : Int} {s : Int → Int} {L O H H2 : List Int} {Dc : DcS} {st : WSt} (x : WRY f s L H Dc st ret O) (h : 2 ≤ f) : WRY f s L H2 Dc st ret O := by
  rcases x with x | ⟨a, x⟩
  · exact .inl x
  · refine .inr ⟨a, WRC_i (fun out q => ?_) x⟩
    rcases q with ⟨e, _⟩ | ⟨e, _⟩ | q
    · omega
    · omega
    · exact .inr (.inr q)
theorem WRR_s {f : Int} {s s2 : Int → Int} {L H out : List Int} {Dc : DcS} {st : WSt} (h : EQS s s2) (x : WRR f s2 L H Dc st out) : WRR f s L H Dc st out := by
  have e : ∀ k, 0 ≤ k → k < 10 → s k = s2 k := h
  unfold WRR frD at *
  rw [e 0 (by decide) (by decide), e 1 (by decide) (by decide), e 2 (by decide) (by decide), e 3 (by decide) (by decide), e 4 (by decide) (by decide), e 5 (by decide) (by decide), e 6 (by decide) (by decide), e 7 (by decide) (by decide), e 8 (by decide) (by decide), e 9 (by decide) (by decide)]
  exact x
theorem WRY_s {f ret : Int} {s s2 : Int → Int} {L O H : List Int} {Dc : DcS} {st : WSt} (h : EQS s s2) (x : WRY f s L H Dc st ret O) : WRY f s2 L H Dc st ret O := by
  rcases x with ⟨a, x⟩ | ⟨a, x⟩
  · rw [h 9 (by decide) (by decide), h 1 (by decide) (by decide), h 0 (by decide) (by decide)] at x
    exact .inl ⟨a, x⟩
  · exact .inr ⟨a, WRC_i (fun out q => WRR_s h q) x⟩
theorem frD_s {s s2 : Int → Int} {L : List Int} {Dc : DcS} {st : WSt} (h : EQS s s2) : frD s L Dc st = frD s2 L Dc st := by
  unfold frD
  rw [h 7 (by decide) (by decide), h 8 (by decide) (by decide), h 2 (by decide) (by decide), h 1 (by decide) (by decide), h 0 (by decide) (by decide)]
theorem WRP_s {R1 R2 : Int → List Int} {d a f ret am0 am1 be0 be1 : Int} {s s2 : Int → Int} {H : List Int} {Dc : DcS} {st : WSt} {c0 c1 : Int → Int} (h : EQS s s2) (x : WRP WRY R1 R2 d a f s H Dc st ret am0 am1 be0 be1 c0 c1) : WRP WRY R1 R2 d a f s2 H Dc st ret am0 am1 be0 be1 c0 c1 := by
  rcases x with x | ⟨a1, O, a2, x⟩
  · exact .inl x
  · refine .inr ⟨a1, O, WRY_s h a2, ?_⟩
    rcases x with x | ⟨x1, x2, x3, x4, x5, x6⟩
    · exact .inl x
    · refine .inr ⟨x1, x2, by rw [← BND_eq h]; exact x3, x4, fun e i p q => by rw [← frD_s h]; exact x5 e i p q, x6⟩

theorem WRP_det2 {R1 R2 S1 S2 : Int → List Int} {d a f ret ret2 am0 am1 bm1 be0 be1 de1 : Int} {s : Int → Int} {H : List Int} {Dc : DcS} {st : WSt} {c0 b0 c1 c2 : Int → Int} (h : RWS R1 S1) (x : WRP WRX R1 R2 d a f s H Dc st ret am0 am1 be0 be1 c0 c1) (y : WRP WRY S1 S2 d a f s H Dc st ret2 am0 bm1 be0 de1 b0 c2) (hc : ∀ i, 0 ≤ i → i < 12 → c0 i = b0 i) (h4 : f = 4 → 0 ≤ ret2 → 0 ≤ (RDS (ap (S2 d)) ((S2 d).length : Int) ((S1 a).length : Int) Dc).1) : ret = ret2 ∧ am1 = bm1 ∧ be1 = de1 ∧ (∀ i, 0 ≤ i → i < 12 → c1 i = c2 i) ∧ RWS R2 S2 := by
  rcases x with ⟨a1, a2, a3, a4, a5, a6⟩ | ⟨a1, O, a2, x⟩ <;> rcases y with ⟨b1, b2, b3, b4, b5, b6⟩ | ⟨b1, Oₚ, b2, y⟩
  · exact ⟨by omega, by omega, by omega, fun i u v => by rw [a6 i u v, b6 i u v]; exact hc i u v, RWS_t h a3 b3⟩
  · have hk := b1.2.1
    rw [h a hk.1 hk.2] at b1
    exact absurd b1 a1
  · have hk := a1.2.1
    rw [h a hk.1 hk.2] at b1
    exact absurd a1 b1
  · have hk := a1.2.1
    have e := h a hk.1 hk.2
    rw [e] at b2 y h4
    obtain ⟨u, v⟩ := WRX_det a2 b2
    rcases x with ⟨x1, x2, x3, x4, x5⟩ | ⟨x1, x2, x3, x4, x5, x6⟩ <;> rcases y with ⟨y1, y2, y3, y4, y5⟩ | ⟨y1, y2, y3, y4, y5, y6⟩
    · exact ⟨u, by omega, by omega, fun i p q => by rw [x5 i p q, y5 i p q]; exact hc i p q, RWS_t h x2 y2⟩
    · omega
    · omega
    · have eO := v x1
      subst eO
      rw [y2.1] at h4
      refine ⟨u, ?_, by rw [x3, y3, u], ?_, RWN_t h x2 y2 rfl⟩
      · rcases x4 with ⟨p, q⟩ | ⟨p, r, q1, q2⟩ <;> rcases y4 with ⟨pₚ, qₚ⟩ | ⟨pₚ, r', q1', q2'⟩
        · omega
        · exact absurd p pₚ
        · exact absurd pₚ p
        · rw [q2, q2', CMB_det q1 q1' (fun e => h4 e y1)]
      · intro i p q
        by_cases c : f = 4
        · rw [x5 c i p q, y5 c i p q]
        · rw [x6 c i p q, y6 c i p q]; exact hc i p q

theorem STL_N {L0 L1 L2 L3 M0 M1 M2 M3 O : List Int} {d z : Int} (hd : okd d) (k0 : IMP (d = 0 ∧ 0 ≤ z) (M0 = O)) (k1 : IMP (d = 1 ∧ 0 ≤ z) (M1 = O)) (k2 : IMP (d = 2 ∧ 0 ≤ z) (M2 = O)) (k3 : IMP (d = 3 ∧ 0 ≤ z) (M3 = O)) (s0 : IMP (d ≠ 0 ∨ z < 0) (M0 = L0)) (s1 : IMP (d ≠ 1 ∨ z < 0) (M1 = L1)) (s2 : IMP (d ≠ 2 ∨ z < 0) (M2 = L2)) (s3 : IMP (d ≠ 3 ∨ z < 0) (M3 = L3)) : (0 ≤ z → RWN (rw4 L0 L1 L2 L3) (rw4 M0 M1 M2 M3) d O) ∧ (z < 0 → RWS (rw4 L0 L1 L2 L3) (rw4 M0 M1 M2 M3)) := by
  refine ⟨fun hz => ?_, fun hz => RWS_4 (s0 (.inr hz)) (s1 (.inr hz)) (s2 (.inr hz)) (s3 (.inr hz))⟩
  unfold okd at hd
  refine RWN_4 (k := d) rfl ?_ (fun q => s0 (.inl q)) (fun q => s1 (.inl q)) (fun q => s2 (.inl q)) (fun q => s3 (.inl q))
  rcases (show d = 0 ∨ d = 1 ∨ d = 2 ∨ d = 3 by omega) with e | e | e | e
  · rw [e]; exact k0 ⟨e, hz⟩
  · rw [e]; exact k1 ⟨e, hz⟩
  · rw [e]; exact k2 ⟨e, hz⟩
  · rw [e]; exact k3 ⟨e, hz⟩
theorem PUT_N {L0 L1 L2 L3 M0 M1 M2 M3 O : List Int} {d : Int} (hd : okd d) (k0 : IMP (d = 0) (M0 = O)) (k1 : IMP (d = 1) (M1 = O)) (k2 : IMP (d = 2) (M2 = O)) (k3 : IMP (d = 3) (M3 = O)) (s0 : IMP (d ≠ 0) (M0 = L0)) (s1 : IMP (d ≠ 1) (M1 = L1)) (s2 : IMP (d ≠ 2) (M2 = L2)) (s3 : IMP (d ≠ 3) (M3 = L3)) : RWN (rw4 L0 L1 L2 L3) (rw4 M0 M1 M2 M3) d O := by
  unfold okd at hd
  refine RWN_4 (k := d) rfl ?_ s0 s1 s2 s3
  rcases (show d = 0 ∨ d = 1 ∨ d = 2 ∨ d = 3 by omega) with e | e | e | e
  · rw [e]; exact k0 e
  · rw [e]; exact k1 e
  · rw [e]; exact k2 e
  · rw [e]; exact k3 e

theorem LNF_c {g : Int → Int} {n : Int} (hn : 0 ≤ n) : LNF (ub8 g) n = LNF (ap (sc g 0 n)) ((sc g 0 n).length : Int) := by
  have h := AGB_L (I := ub8 g) (n := n) (L := sc g 0 n) sc_u.symm hn (fun k => u8_rng _)
  rw [h.2]
  exact LNF_ag h.1 hn
theorem scn {g : Int → Int} {n : Int} (hn : 0 ≤ n) : ((sc g 0 n).length : Int) = n := by
  rw [sc_lenI (by omega)]; omega
theorem LNF_l {g : Int → Int} {n : Int} {Dc : DcS} (h : DCl Dc) (hn : 0 ≤ n ∧ n ≤ 65536) (hz : 0 ≤ (LNF (ap (sc g 0 n)) ((sc g 0 n).length : Int)).1) : DCl (LNF (ap (sc g 0 n)) ((sc g 0 n).length : Int)).2 := by
  have w := DCl_L (I := ap (sc g 0 n)) (n := ((sc g 0 n).length : Int)) (ap_rngL (fun x q => sc_mem q)) h (by rw [scn hn.1]; exact hn)
  unfold LND at w
  rw [if_neg (by omega)] at w
  exact w
theorem SHX_dec {t L n : Int} {l : rO} (h : (decide ((KNX t).1 = L) && (decide ((KNX t).2.1 = n) && (List.range n.toNat).all (fun i => decide ((KNX t).2.2 (i : Int) = izl l (i : Int))))) = true) : SHX (KNX t) L n (izl l) := by
  rw [Bool.and_eq_true, Bool.and_eq_true, List.all_eq_true] at h
  refine ⟨of_decide_eq_true h.1, of_decide_eq_true h.2.1, fun i a b => ?_⟩
  have w := of_decide_eq_true (h.2.2 i.toNat (List.mem_range.mpr (by omega)))
  rw [show ((i.toNat : Nat) : Int) = i by omega] at w
  exact w
theorem RDP_det2 {R1 R2 S1 S2 : Int → List Int} {d a f m ret ret2 p0 p1 q1 : Int} {H : List Int} {Dc : DcS} {k0 k1 j1 : C5t} (h : RWS R1 S1) (x : RDP R1 R2 d a f m H Dc ret p0 p1 k0 k1) (y : RDP S1 S2 d a f m H Dc ret2 p0 q1 k0 j1) (h4 : (okd d ∧ okd a ∧ (0 ≤ f ∧ f ≤ 4) ∧ 0 ≤ m ∧ m ≤ 65536) → f = 4 → 0 ≤ (RDS (ap (S1 a)) ((S1 a).length : Int) m Dc).1) : ret = ret2 ∧ p1 = q1 ∧ k1 = j1 ∧ RWS R2 S2 := by
  rcases x with ⟨a1, a2, a3, a4, a5⟩ | ⟨a1, O, b1, b2, b3, b4, b5⟩ <;> rcases y with ⟨c1, c2, c3, c4, c5⟩ | ⟨c1, Oₚ, d1, d2, d3, d4, d5⟩
  · exact ⟨by omega, by omega, by rw [a5, c5], RWS_t h a3 c3⟩
  · exact absurd c1 a1
  · exact absurd a1 c1
  · have e : S1 a = R1 a := h a a1.2.1.1 a1.2.1.2
    rw [e] at d1 d4 h4
    obtain ⟨u, v, w⟩ := RDQ_det b1 d1 (h4 a1)
    refine ⟨u, v, ?_, ?_⟩
    · by_cases c : f = 4
      · exact CN5_det (b4 c) (d4 c)
      · rw [b5 c, d5 c]
    · by_cases c : 0 ≤ ret
      · exact RWN_t h (b2 c) (d2 (by omega)) (w c)
      · exact RWS_t h (b3 (by omega)) (d3 (by omega))
theorem OPP_det2 {R1 R2 S1 S2 : Int → List Int} {d a m ret ret2 p0 p1 q1 : Int} {H : List Int} {Dc : DcS} {k0 k1 j1 : C5t} (h : RWS R1 S1) (x : OPP R1 R2 d a m H Dc ret p0 p1 k0 k1) (y : OPP S1 S2 d a m H Dc ret2 p0 q1 k0 j1) (h4 : (okd d ∧ okd a ∧ 0 ≤ m ∧ m ≤ 65536) → knF (S1 a) = 4 → 0 ≤ (RDS (ap (S1 a)) ((S1 a).length : Int) m Dc).1) : ret = ret2 ∧ p1 = q1 ∧ k1 = j1 ∧ RWS R2 S2 := by
  rcases x with ⟨a1, a2, a3, a4, a5⟩ | ⟨a1, b1, a2, a3, a4, a5⟩ | ⟨a1, b1, b2⟩ <;> rcases y with ⟨c1, c2, c3, c4, c5⟩ | ⟨c1, d1, c2, c3, c4, c5⟩ | ⟨c1, d1, d2⟩
  · exact ⟨by omega, by omega, by rw [a5, c5], RWS_t h a3 c3⟩
  · exact absurd c1 a1
  · exact absurd c1 a1
  · exact absurd a1 c1
  · exact ⟨by omega, by omega, by rw [a5, c5], RWS_t h a3 c3⟩
  · rw [h a a1.2.1.1 a1.2.1.2] at d1; exact absurd b1 d1
  · exact absurd a1 c1
  · rw [h a a1.2.1.1 a1.2.1.2] at d1; exact absurd d1 b1
  · have e := h a a1.2.1.1 a1.2.1.2
    rw [e] at d2
    exact RDP_det2 h b2 d2 (fun _ q => h4 a1 (by rw [e]; exact q))

def WRB (R1 R2 : Int → List Int) (d f : Int) (L : List Int) (s : Int → Int) (H : List Int) (Dc : DcS) (st : WSt) (ret am0 am1 be0 be1 : Int) (c0 c1 : Int → Int) : Prop := ∃ O, WRY f s L H Dc st ret O ∧
    ((ret < 0 ∧ RWS R1 R2 ∧ am1 = am0 ∧ be1 = be0 ∧ ∀ i, 0 ≤ i → i < 12 → c1 i = c0 i) ∨
     (0 ≤ ret ∧ RWN R1 R2 d O ∧ be1 = w32 (be0 + (if BNA s f (L.length : Int) < ret then 1 else 0)) ∧
      ((f = 5 ∧ am1 = am0) ∨ (f ≠ 5 ∧ ∃ r, CMB f O H Dc L r ∧ am1 = w32 (am0 + (1 - r)))) ∧
      (f = 4 → ∀ i, 0 ≤ i → i < 12 → c1 i = (frD s L Dc st).2.2.2.2 i) ∧ (f ≠ 4 → ∀ i, 0 ≤ i → i < 12 → c1 i = c0 i))) ∧ (f = 4 → 0 ≤ ret → 0 ≤ (RDS (ap O) (O.length : Int) (L.length : Int) Dc).1)
section WRBx
variable {R1 R2 : Int → List Int} {d a f ret am0 am1 be0 be1 y : Int} {s c0 c1 : Int → Int} {L H O C : List Int} {Dc : DcS} {st : WSt}
theorem WRB_n (hW : WRY f s L H Dc st ret O) (hz : ret < 0) (hS : RWS R1 R2) (h1 : am1 = am0) (h2 : be1 = be0) (h3 : ∀ i, 0 ≤ i → i < 12 → c1 i = c0 i) : WRB R1 R2 d f L s H Dc st ret am0 am1 be0 be1 c0 c1 := ⟨O, hW, .inl ⟨hz, hS, h1, h2, h3⟩, fun _ q => absurd q (by omega)⟩
theorem WRB_y (hW : WRY f s L H Dc st ret O) (hz : 0 ≤ ret) (hN : RWN R1 R2 d O) (hB : be1 = w32 (be0 + (if BNA s f (L.length : Int) < ret then 1 else 0))) (hR : f ≠ 5 → ∃ pl, RDQ f O H Dc (L.length : Int) y pl C ∧ STR y (L.length : Int) C L am0 am1) (h5 : f = 5 → am1 = am0) (h4 : f = 4 → ∀ i, 0 ≤ i → i < 12 → c1 i = (frD s L Dc st).2.2.2.2 i) (h6 : f ≠ 4 → ∀ i, 0 ≤ i → i < 12 → c1 i = c0 i) (h7 : f = 4 → 0 ≤ (RDS (ap O) (O.length : Int) (L.length : Int) Dc).1) : WRB R1 R2 d f L s H Dc st ret am0 am1 be0 be1 c0 c1 := by
  refine ⟨O, hW, .inr ⟨hz, hN, hB, ?_, h4, h6⟩, fun e _ => h7 e⟩
  by_cases c : f = 5
  · exact .inl ⟨c, h5 c⟩
  · obtain ⟨pl, q, x⟩ := hR c
    exact .inr ⟨c, STR_C (m := 0) q x⟩
theorem WRB_P (x : WRB R1 R2 d f (R1 a) s H Dc st ret am0 am1 be0 be1 c0 c1) (hc : okd d ∧ okd a ∧ (0 ≤ f ∧ f ≤ 5) ∧ ((R1 a).length : Int) + wrA f H Dc ≤ 16384) : WRP WRY R1 R2 d a f s H Dc st ret am0 am1 be0 be1 c0 c1 ∧ (f = 4 → 0 ≤ ret → 0 ≤ (RDS (ap (R2 d)) ((R2 d).length : Int) ((R1 a).length : Int) Dc).1) := by
  obtain ⟨O, hW, h, k⟩ := x
  refine ⟨.inr ⟨hc, O, hW, h⟩, fun e q => ?_⟩
  rcases h with ⟨h, _⟩ | ⟨_, h, _⟩
  · omega
  · rw [h.1]
    exact k e q
end WRBx

section fgx
variable {Dc : DcS} {w n n2 id id2 s s2 T L : Int} {g la la2 t t2 ce co G P : Int → Int}
theorem fg_y (h : w = 1) : fgD w Dc = DCE := if_pos h
theorem fg_n (h : w ≠ 1) : fgD w Dc = Dc := if_neg h
theorem fg_K (h : DCK Dc (sc g 0 n) id la) (h1 : w ≠ 1 ∨ (n2 = 0 ∧ id2 = 0 ∧ la2 0 = 1 ∧ la2 1 = 4 ∧ la2 2 = 8)) (h0 : w = 1 ∨ (id2 = id ∧ n2 = n)) (hl : IMP (w ≠ 1) (∀ i, t2 i = t i ∧ la2 i = la i)) : DCK (fgD w Dc) (sc g 0 n2) id2 la2 := by
  by_cases c : w = 1
  · obtain ⟨a, b, d, e, f⟩ := h1.resolve_left (fun q => q c)
    rw [fg_y c, a, b]
    exact ⟨(sc_nil (by decide)).symm, by decide, d, e, f⟩
  · obtain ⟨a, b⟩ := h0.resolve_left c
    obtain ⟨h1, h2, h3, h4, h5⟩ := h
    rw [fg_n c, a, b]
    exact ⟨h1, h2, (hl c 0).2.trans h3, (hl c 1).2.trans h4, (hl c 2).2.trans h5⟩
theorem fg_Q (h : DCQ Dc.2.2.1 s T ce) (h1 : w ≠ 1 ∨ s2 = -1) (h0 : w = 1 ∨ s2 = s) : DCQ (fgD w Dc).2.2.1 s2 T ce := by
  by_cases c : w = 1
  · rw [fg_y c]
    exact .inl ⟨h1.resolve_left (fun q => q c), rfl⟩
  · rw [fg_n c, h0.resolve_left c]
    exact h
theorem fg_T {k : Int} (h : DCT (Dc.2.2.2.1 k) s L n P) (h1 : w ≠ 1 ∨ s2 = -1) (h0 : w = 1 ∨ s2 = s) : DCT ((fgD w Dc).2.2.2.1 k) s2 L n P := by
  by_cases c : w = 1
  · rw [fg_y c]
    exact .inl ⟨h1.resolve_left (fun q => q c), by show (-1 : Int) < 0; decide⟩
  · rw [fg_n c, h0.resolve_left c]
    exact h
theorem fg_W (h : DCW Dc.2.2.1 s T G ce co) (h1 : w ≠ 1 ∨ s2 = -1) (h0 : w = 1 ∨ s2 = s) : DCW (fgD w Dc).2.2.1 s2 T G ce co := by
  by_cases c : w = 1
  · exact .inl (h1.resolve_left (fun q => q c))
  · rw [fg_n c, h0.resolve_left c]
    exact h
theorem fg_0 (h : Dc.2.2.1.1 = 0) : (fgD w Dc).2.2.1.1 = 0 := by
  by_cases c : w = 1
  · rw [fg_y c]; rfl
  · rw [fg_n c]; exact h
theorem fg_t {k : Int} (h : (Dc.2.2.2.1 k).1 < 0) : ((fgD w Dc).2.2.2.1 k).1 < 0 := by
  by_cases c : w = 1
  · rw [fg_y c]; show (-1 : Int) < 0; decide
  · rw [fg_n c]; exact h
end fgx


end
