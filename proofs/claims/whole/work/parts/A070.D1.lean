abbrev V217_Row : vV := [(0, 7, [(4, 0), (0, 0), (1, 0), (0, 0), (0, 0)]), (1, 0, [])]
theorem len_V217_Row_oz_D1cls : (V217_Row).length = 2 := by decide +kernel
theorem oz_D1cls_1 : vsub V217_Row V162 [0, 1] = true := by decide +kernel
theorem oz_D1cls_2 : vmov V217_Row [0, 1] [1] = true := by decide +kernel
theorem oz_D1cls_3 : vsub V217_Row V159 [0, 1] = true := by decide +kernel
def oz_D1clsl_0 : List (Nat × Nat) := [(0, 0), (0, 1), (0, 2)]
theorem oz_D1cls_4 : (oz_D1clsl_0).all (fun p => !tbz 7 (Nat.add (Nat.mul 32 p.1) p.2)) = true := by decide +kernel
def oz_D1clsl_1 : List Nat := [1]
theorem oz_D1cls_5 : (oz_D1clsl_1).all (fun p => !tbz 2 p) = true := by decide +kernel
def oz_D1clsl_2 : List Nat := [0, 1]
theorem oz_D1cls_6 : okc oz_D1clsl_2 512 = true := by decide +kernel

theorem C217_Row {σE : rS} {D N : Nat → Nat} {F : hF} {A : hA} {d c s : Nat} {Q : wQ} (H : HW V217_Row σE D N F A) {a2 : Int} (pf1 : F 0 0 = (D 1 : Int)) (n1 : Int) (en1 : (N 1 : Int) = n1) (u0_1 : Int) (eu0_1 : F 0 1 = u0_1) (u0_2 : Int) (eu0_2 : F 0 2 = u0_2) (w1 : Int → Int) (ew1 : A 1 = w1) (h0 : inr (a2)) (h1 : 0 ≤ (u0_1) ∧ (u0_1) ≤ (n1) ∧ (n1) ≤ 65536) (h2 : 0 ≤ (a2)) (k : ∀ (σ : rS) (Dₚ Nₚ : Nat → Nat) (Fₚ : hF) (Aₚ : hA) (cₚ sₚ : Nat), HW V217_Row σ Dₚ Nₚ Fₚ Aₚ → OUT (V217_Row).length D N σE c s Dₚ Nₚ σ cₚ sₚ → SD [1] D Dₚ → SD [1] N Nₚ → SF [(0, 0), (0, 1), (0, 2)] F Fₚ → SA [1] A Aₚ → Fₚ 0 0 = (Dₚ 1 : Int) → ∀ m1 : Int, (Nₚ 1 : Int) = m1 → ∀ y0_1 : Int, Fₚ 0 1 = y0_1 → ∀ y0_2 : Int, Fₚ 0 2 = y0_2 → ∀ v1 : Int → Int, Aₚ 1 = v1 → (0 ≤ (y0_1) ∧ (y0_1) ≤ (m1) ∧ (m1) ≤ 65536) → (RAP ((u0_2)) ((w1)) ((u0_1)) ((y0_2)) ((v1)) ((y0_1)) (exr ((a2) - 15))) → Q none σ cₚ sₚ) : Ew 217 (d + 3) 0 (rargs 0 [.ref (D 0), I a2]) [] σE c s Q := by
  have O := OUT_refl (n := (V217_Row).length) (D := D) (N := N) (σ := σE) (c := c) (s := s)
  have HE := H
  have r1 : (-2147483648 : Int) ≤ u0_1 ∧ u0_1 ≤ 2147483647 := rngE (show (-2147483648 : Int) ≤ F 0 1 ∧ F 0 1 ≤ 2147483647 from H.krg 0 1 (ltn len_V217_Row_oz_D1cls rfl)) (show F 0 1 = u0_1 from (eu0_1))
  have r2 : (0 : Int) ≤ u0_2 ∧ u0_2 ≤ 1 := rngE (show (0 : Int) ≤ F 0 2 ∧ F 0 2 ≤ 1 from H.krg 0 2 (ltn len_V217_Row_oz_D1cls rfl)) (show F 0 2 = u0_2 from (eu0_2))
  have r3 : (0 : Int) ≤ n1 ∧ n1 ≤ 1000000 := nleE (H.nle 1 (ltn len_V217_Row_oz_D1cls rfl)) (show (N 1 : Int) = n1 from en1)
  refine Ew_of (pcₚ := 1) (fun _ => x_iload_n rfl rfl) ?_
  refine Ew_of (pcₚ := 3) (fun _ => x_bipush (z := 15) rfl (by decide)) ?_
  refine w_icmpge (t := 7) rfl rfl (show inr (a2) from h0) (show inr (15) from q_399) (fun b4 => ?_) (fun b4 => ?_)
  · refine Ew_of (pcₚ := 8) (fun _ => x_aload_n rfl rfl) ?_
    refine Ew_of (pcₚ := 11) (fun _ => x_sipush (z := 255) rfl (by decide)) ?_
    refine Ew_of (pcₚ := 12) (fun _ => x_iload_n rfl rfl) ?_
    refine Ew_of (pcₚ := 14) (fun _ => x_bipush (z := 15) rfl (by decide)) ?_
    refine w_isub rfl ?_
    refine Ew_of (pcₚ := 18) (fun _ => x_sipush (z := 255) rfl (by decide)) ?_
    refine w_idiv rfl (show inr ((a2 - 15)) ∧ 0 ≤ (a2 - 15) from q_3060 b4 h0) (show inr (255) ∧ 0 < 255 from q_2348) ?_
    refine v_inv H (o := 0) rfl rfl rfl rfl rfl rfl (by rfl) (C162 (D := puc 512 D) (N := puc 512 N) (HW_subc H oz_D1cls_1 oz_D1cls_6) (pf1) (n1) (en1) (u0_1) ((eu0_1)) (u0_2) ((eu0_2)) (w1) (ew1) (show inr (255) from q_297) (show inr (((a2 - 15) / 255)) from q_3061 b4 h0) (show 0 ≤ (u0_1) ∧ (u0_1) ≤ (n1) ∧ (n1) ≤ 65536 from h1) (fun σ5 D5ₚ N5ₚ F5ₚ A5ₚ c5 s5 Hₚ Oₚ hD5 hN5 hS5 hA5 pm5_1 m5_1 em5_1 y5_0_1 ey5_0_1 y5_0_2 ey5_0_2 w5_1 ew5_1 pz5_0 pz5_1 pz5_2 => ⟨rfl, ?_⟩))
    refine v_backMc (c := c) (s := s) H oz_D1cls_1 oz_D1cls_6 Hₚ Oₚ hD5 oz_D1cls_2 (fun D5 N5 F5 A5 H Oₚ eD5 eN5 eF5 eA5 => ?_)
    have O := OUT_trans O Oₚ
    -- Row.addSame
    have cF5 : SF oz_D1clsl_0 F F5 := SF_trans (SF_refl) (SF_gluc (ι := oz_D1clsl_2) oz_D1cls_6 hS5 eF5 (by decide +kernel)) (any_sub (lₚ := [(0, 0), (0, 1), (0, 2)]) (by decide +kernel))
    have mF5 := SFm_of cF5 oz_D1cls_4
    have cA5 : SA oz_D1clsl_1 A A5 := SA_trans (SA_refl) (SA_gluc (ι := oz_D1clsl_2) oz_D1cls_6 hA5 eA5 (by decide +kernel)) (any_subA (lₚ := [1]) (by decide +kernel))
    have mA5 := SAm_of cA5 oz_D1cls_5
    have cD5 : SD oz_D1clsl_1 D D5 := SD_trans (SD_refl) (SD_gluc (ι := oz_D1clsl_2) oz_D1cls_6 hD5 eD5 (by decide +kernel)) (any_subA (lₚ := [1]) (by decide +kernel))
    have mD5 := SDm_of cD5 oz_D1cls_5
    have cN5 : SD oz_D1clsl_1 N N5 := SD_trans (SD_refl) (SD_gluc (ι := oz_D1clsl_2) oz_D1cls_6 hN5 eN5 (by decide +kernel)) (any_subA (lₚ := [1]) (by decide +kernel))
    have mN5 := SDm_of cN5 oz_D1cls_5
    have pf5_0_0 : F5 0 0 = (D5 1 : Int) := (eF5 0 0).trans (pm5_1.trans (congrArg (fun q : Nat => (q : Int)) (eD5 1).symm))
    have r6 : (0 : Int) ≤ m5_1 ∧ m5_1 ≤ 1000000 := nleE (H.nle 1 (ltn len_V217_Row_oz_D1cls rfl)) (show (N5 1 : Int) = m5_1 from (congrArg (fun q : Nat => (q : Int)) (eN5 1)).trans em5_1)
    have r7 : (-2147483648 : Int) ≤ y5_0_1 ∧ y5_0_1 ≤ 2147483647 := rngE (show (-2147483648 : Int) ≤ F5 0 1 ∧ F5 0 1 ≤ 2147483647 from H.krg 0 1 (ltn len_V217_Row_oz_D1cls rfl)) (show F5 0 1 = y5_0_1 from ((eF5 0 1).trans ey5_0_1))
    have r8 : (0 : Int) ≤ y5_0_2 ∧ y5_0_2 ≤ 1 := rngE (show (0 : Int) ≤ F5 0 2 ∧ F5 0 2 ≤ 1 from H.krg 0 2 (ltn len_V217_Row_oz_D1cls rfl)) (show F5 0 2 = y5_0_2 from ((eF5 0 2).trans ey5_0_2))
    refine Ew_of (pcₚ := 23) (fun _ => x_aload_n rfl rfl) ?_
    refine Ew_of (pcₚ := 24) (fun _ => x_iload_n rfl rfl) ?_
    refine Ew_of (pcₚ := 26) (fun _ => x_bipush (z := 15) rfl (by decide)) ?_
    refine w_isub rfl ?_
    refine Ew_of (pcₚ := 30) (fun _ => x_sipush (z := 255) rfl (by decide)) ?_
    refine w_irem rfl (show inr ((a2 - 15)) ∧ 0 ≤ (a2 - 15) from q_3060 b4 h0) (show inr (255) ∧ 0 < 255 from q_2348) ?_
    refine Ew_stk (congrArg (fun qz : Nat => ([I (((a2 - 15) % 255)), .ref qz] : List Value)) (show D5 0 = D 0 from mD5 0 rfl).symm) ?_
    refine v_inv H (o := 0) rfl rfl rfl rfl rfl rfl (by rfl) (C159 (D := puc 512 D5) (N := puc 512 N5) (HW_subc H oz_D1cls_3 oz_D1cls_6) (pf5_0_0) (m5_1) ((congrArg (fun q : Nat => (q : Int)) (eN5 1)).trans em5_1) (y5_0_1) (((eF5 0 1).trans ey5_0_1)) (y5_0_2) (((eF5 0 2).trans ey5_0_2)) (w5_1) ((eA5 1).trans ew5_1) (show inr (((a2 - 15) % 255)) from q_3062) (show 0 ≤ (y5_0_1) ∧ (y5_0_1) ≤ (m5_1) ∧ (m5_1) ≤ 65536 from pz5_0) (fun σ9 D9ₚ N9ₚ F9ₚ A9ₚ c9 s9 Hₚ Oₚ hD9 hN9 hS9 hA9 pm9_1 m9_1 em9_1 y9_0_1 ey9_0_1 y9_0_2 ey9_0_2 w9_1 ew9_1 pz9_0 pz9_1 pz9_2 pz9_3 => ⟨rfl, ?_⟩))
    refine v_backMc (c := (c + c5)) (s := (s + s5)) H oz_D1cls_3 oz_D1cls_6 Hₚ Oₚ hD9 oz_D1cls_2 (fun D9 N9 F9 A9 H Oₚ eD9 eN9 eF9 eA9 => ?_)
    have O := OUT_trans O Oₚ
    -- Row.add
    have cF9 : SF oz_D1clsl_0 F F9 := SF_trans (cF5) (SF_gluc (ι := oz_D1clsl_2) oz_D1cls_6 hS9 eF9 (by decide +kernel)) (any_sub (lₚ := [(0, 0), (0, 1), (0, 2)]) (by decide +kernel))
    have mF9 := SFm_of cF9 oz_D1cls_4
    have cA9 : SA oz_D1clsl_1 A A9 := SA_trans (cA5) (SA_gluc (ι := oz_D1clsl_2) oz_D1cls_6 hA9 eA9 (by decide +kernel)) (any_subA (lₚ := [1]) (by decide +kernel))
    have mA9 := SAm_of cA9 oz_D1cls_5
    have cD9 : SD oz_D1clsl_1 D D9 := SD_trans (cD5) (SD_gluc (ι := oz_D1clsl_2) oz_D1cls_6 hD9 eD9 (by decide +kernel)) (any_subA (lₚ := [1]) (by decide +kernel))
    have mD9 := SDm_of cD9 oz_D1cls_5
    have cN9 : SD oz_D1clsl_1 N N9 := SD_trans (cN5) (SD_gluc (ι := oz_D1clsl_2) oz_D1cls_6 hN9 eN9 (by decide +kernel)) (any_subA (lₚ := [1]) (by decide +kernel))
    have mN9 := SDm_of cN9 oz_D1cls_5
    have pf9_0_0 : F9 0 0 = (D9 1 : Int) := (eF9 0 0).trans (pm9_1.trans (congrArg (fun q : Nat => (q : Int)) (eD9 1).symm))
    have r10 : (0 : Int) ≤ m9_1 ∧ m9_1 ≤ 1000000 := nleE (H.nle 1 (ltn len_V217_Row_oz_D1cls rfl)) (show (N9 1 : Int) = m9_1 from (congrArg (fun q : Nat => (q : Int)) (eN9 1)).trans em9_1)
    have r11 : (-2147483648 : Int) ≤ y9_0_1 ∧ y9_0_1 ≤ 2147483647 := rngE (show (-2147483648 : Int) ≤ F9 0 1 ∧ F9 0 1 ≤ 2147483647 from H.krg 0 1 (ltn len_V217_Row_oz_D1cls rfl)) (show F9 0 1 = y9_0_1 from ((eF9 0 1).trans ey9_0_1))
    have r12 : (0 : Int) ≤ y9_0_2 ∧ y9_0_2 ≤ 1 := rngE (show (0 : Int) ≤ F9 0 2 ∧ F9 0 2 ≤ 1 from H.krg 0 2 (ltn len_V217_Row_oz_D1cls rfl)) (show F9 0 2 = y9_0_2 from ((eF9 0 2).trans ey9_0_2))
    have : RAP ((u0_2)) ((w1)) ((u0_1)) ((y9_0_2)) ((w9_1)) ((y9_0_1)) (exr ((a2) - 15)) := by have h := RAP_trans (pz5_2 (by omega)) pz9_3; rw [u8_id (z := 255) (by omega), u8_id (z := ((a2) - 15) % 255) (by omega)] at h; unfold exr; rw [if_neg (by omega)]; exact h
    exact w_ret rfl (k _ _ _ _ _ _ _ H O (cD9) (cN9) (cF9) (cA9) (pf9_0_0) (m9_1) ((congrArg (fun q : Nat => (q : Int)) (eN9 1)).trans em9_1) (y9_0_1) (((eF9 0 1).trans ey9_0_1)) (y9_0_2) (((eF9 0 2).trans ey9_0_2)) (w9_1) ((eA9 1).trans ew9_1) (show 0 ≤ (y9_0_1) ∧ (y9_0_1) ≤ (m9_1) ∧ (m9_1) ≤ 65536 from pz9_0) (show RAP ((u0_2)) ((w1)) ((u0_1)) ((y9_0_2)) ((w9_1)) ((y9_0_1)) (exr (a2 - 15)) by assumption))
  · have : RAP ((u0_2)) ((w1)) ((u0_1)) ((u0_2)) ((w1)) ((u0_1)) (exr ((a2) - 15)) := by rw [exr_n (by omega)]; exact RAP_refl
    exact w_ret rfl (k _ _ _ _ _ _ _ H O (SD_refl) (SD_refl) (SF_refl) (SA_refl) (pf1) (n1) (en1) (u0_1) ((eu0_1)) (u0_2) ((eu0_2)) (w1) (ew1) (show 0 ≤ (u0_1) ∧ (u0_1) ≤ (n1) ∧ (n1) ≤ 65536 from h1) (show RAP ((u0_2)) ((w1)) ((u0_1)) ((u0_2)) ((w1)) ((u0_1)) (exr (a2 - 15)) by assumption))
abbrev V216_Row : vV := [(0, 11, [(4, 0), (4, 0), (4, 0), (4, 0), (4, 0), (0, 0), (4, 0), (0, 0), (0, 0), (0, 0), (0, 0), (0, 0), (0, 0)]), (0, 7, [(4, 0), (0, 0), (1, 0), (0, 0), (0, 0)]), (1, 0, []), (0, 5, [(4, 0), (4, 0), (4, 0), (4, 0), (0, 0), (0, 0), (0, 0), (4, 0), (4, 0), (0, 0), (0, 0), (0, 0), (0, 0), (0, 0), (0, 0), (0, 0), (0, 0), (0, 0), (0, 0)]), (0, 7, [(4, 0), (0, 0), (1, 0), (0, 0), (0, 0)]), (1, 0, [])]
theorem len_V216_Row_oz_D1cls : (V216_Row).length = 6 := by decide +kernel
theorem oz_D1cls_8 : vsub V216_Row V159 [1, 2] = true := by decide +kernel
theorem oz_D1cls_9 : vmov V216_Row [1, 2] [1] = true := by decide +kernel
theorem oz_D1cls_10 : vsub V216_Row V217_Row [1, 2] = true := by decide +kernel
theorem oz_D1cls_11 : vsub V216_Row V161_Br [1, 5, 2] = true := by decide +kernel
theorem oz_D1cls_12 : vmov V216_Row [1, 5, 2] [2] = true := by decide +kernel
def oz_D1clsl_3 : List (Nat × Nat) := [(1, 0), (1, 1), (1, 2)]
theorem oz_D1cls_13 : (oz_D1clsl_3).all (fun p => !tbz 30064771072 (Nat.add (Nat.mul 32 p.1) p.2)) = true := by decide +kernel
def oz_D1clsl_4 : List Nat := [2]
theorem oz_D1cls_14 : (oz_D1clsl_4).all (fun p => !tbz 4 p) = true := by decide +kernel
def oz_D1clsl_5 : List Nat := [1, 2]
theorem oz_D1cls_15 : okc oz_D1clsl_5 1025 = true := by decide +kernel
def oz_D1clsl_6 : List Nat := [1, 5, 2]
theorem oz_D1cls_16 : okc oz_D1clsl_6 526849 = true := by decide +kernel

theorem C216_Row {σE : rS} {D N : Nat → Nat} {F : hF} {A : hA} {d c s : Nat} {Q : wQ} (H : HW V216_Row σE D N F A) {a2 a3 a4 : Int} (pf2 : F 1 0 = (D 2 : Int)) (pf3 : F 0 2 = (D 3 : Int)) (pf4 : F 3 0 = (D 4 : Int)) (pf5 : F 4 0 = (D 5 : Int)) (n2 : Int) (en2 : (N 2 : Int) = n2) (n5 : Int) (en5 : (N 5 : Int) = n5) (u1_1 : Int) (eu1_1 : F 1 1 = u1_1) (u1_2 : Int) (eu1_2 : F 1 2 = u1_2) (u4_1 : Int) (eu4_1 : F 4 1 = u4_1) (w2 : Int → Int) (ew2 : A 2 = w2) (w5 : Int → Int) (ew5 : A 5 = w5) (h0 : inr (a2)) (h1 : inr (a3)) (h2 : inr (a4)) (h3 : 0 ≤ (u1_1) ∧ (u1_1) ≤ (n2) ∧ (n2) ≤ 65536) (h4 : 0 ≤ (u4_1) ∧ (u4_1) ≤ (n5) ∧ (n5) ≤ 65536) (h5 : 0 ≤ (a2) ∧ 0 ≤ (a3) ∧ (a2) + (a3) ≤ (n5)) (h6 : 0 ≤ (a4)) (k : ∀ (σ : rS) (Dₚ Nₚ : Nat → Nat) (Fₚ : hF) (Aₚ : hA) (cₚ sₚ : Nat), HW V216_Row σ Dₚ Nₚ Fₚ Aₚ → OUT (V216_Row).length D N σE c s Dₚ Nₚ σ cₚ sₚ → SD [2] D Dₚ → SD [2] N Nₚ → SF [(1, 0), (1, 1), (1, 2)] F Fₚ → SA [2] A Aₚ → Fₚ 1 0 = (Dₚ 2 : Int) → ∀ m2 : Int, (Nₚ 2 : Int) = m2 → ∀ y1_1 : Int, Fₚ 1 1 = y1_1 → ∀ y1_2 : Int, Fₚ 1 2 = y1_2 → ∀ v2 : Int → Int, Aₚ 2 = v2 → (0 ≤ (y1_1) ∧ (y1_1) ≤ (m2) ∧ (m2) ≤ 65536) → (RAP ((u1_2)) ((w2)) ((u1_1)) ((y1_2)) ((v2)) ((y1_1)) ([cap15 ((a3)) * 16 + cap15 ((a4))] ++ (exr ((a3) - 15) ++ sc ((w5)) ((a2)) ((a2) + (a3))))) → Q none σ cₚ sₚ) : Ew 216 (d + 4) 0 (rargs 0 [.ref (D 0), .ref (D 1), I a2, I a3, I a4]) [] σE c s Q := by
  have O := OUT_refl (n := (V216_Row).length) (D := D) (N := N) (σ := σE) (c := c) (s := s)
  have HE := H
  have r1 : (-2147483648 : Int) ≤ u1_1 ∧ u1_1 ≤ 2147483647 := rngE (show (-2147483648 : Int) ≤ F 1 1 ∧ F 1 1 ≤ 2147483647 from H.krg 1 1 (ltn len_V216_Row_oz_D1cls rfl)) (show F 1 1 = u1_1 from (eu1_1))
  have r2 : (0 : Int) ≤ u1_2 ∧ u1_2 ≤ 1 := rngE (show (0 : Int) ≤ F 1 2 ∧ F 1 2 ≤ 1 from H.krg 1 2 (ltn len_V216_Row_oz_D1cls rfl)) (show F 1 2 = u1_2 from (eu1_2))
  have r3 : (-2147483648 : Int) ≤ u4_1 ∧ u4_1 ≤ 2147483647 := rngE (show (-2147483648 : Int) ≤ F 4 1 ∧ F 4 1 ≤ 2147483647 from H.krg 4 1 (ltn len_V216_Row_oz_D1cls rfl)) (show F 4 1 = u4_1 from (eu4_1))
  have r4 : (0 : Int) ≤ n2 ∧ n2 ≤ 1000000 := nleE (H.nle 2 (ltn len_V216_Row_oz_D1cls rfl)) (show (N 2 : Int) = n2 from en2)
  have r5 : (0 : Int) ≤ n5 ∧ n5 ≤ 1000000 := nleE (H.nle 5 (ltn len_V216_Row_oz_D1cls rfl)) (show (N 5 : Int) = n5 from en5)
  refine Ew_of (pcₚ := 1) (fun _ => x_aload_n rfl rfl) ?_
  refine Ew_of (pcₚ := 2) (fun _ => x_iload_n rfl rfl) ?_
  refine Ew_of (pcₚ := 4) (fun _ => x_bipush (z := 15) rfl (by decide)) ?_
  refine v_min rfl rfl (show inr (a3) from h1) (show inr (15) from q_399) (fun z6 gz6 => ?_)
  refine Ew_of (pcₚ := 8) (fun _ => x_iconst rfl) ?_
  refine w_ishlK 4 16 (by decide) (by decide) rfl (fun z7 gz7 dz7 => ?_)
  refine Ew_of (pcₚ := 11) (fun _ => x_iload rfl rfl) ?_
  refine Ew_of (pcₚ := 13) (fun _ => x_bipush (z := 15) rfl (by decide)) ?_
  refine v_min rfl rfl (show inr (a4) from h2) (show inr (15) from q_399) (fun z8 gz8 => ?_)
  refine w_iorX 4 16 rfl rfl (fun z9 gz9 dz9 => ?_)
  have hx : (z9) = cap15 ((a3)) * 16 + cap15 ((a4)) := by unfold cap15; split <;> split <;> omega
  refine v_inv H (o := 1) rfl rfl rfl rfl rfl rfl (by rfl) (C159 (D := puc 1025 D) (N := puc 1025 N) (HW_subc H oz_D1cls_8 oz_D1cls_15) (pf2) (n2) (en2) (u1_1) ((eu1_1)) (u1_2) ((eu1_2)) (w2) (ew2) (show inr (z9) by omega) (show 0 ≤ (u1_1) ∧ (u1_1) ≤ (n2) ∧ (n2) ≤ 65536 from h3) (fun σ10 D10ₚ N10ₚ F10ₚ A10ₚ c10 s10 Hₚ Oₚ hD10 hN10 hS10 hA10 pm10_1 m10_1 em10_1 y10_0_1 ey10_0_1 y10_0_2 ey10_0_2 w10_1 ew10_1 pz10_0 pz10_1 pz10_2 pz10_3 => ⟨rfl, ?_⟩))
  refine v_backMc (c := c) (s := s) H oz_D1cls_8 oz_D1cls_15 Hₚ Oₚ hD10 oz_D1cls_9 (fun D10 N10 F10 A10 H Oₚ eD10 eN10 eF10 eA10 => ?_)
  have O := OUT_trans O Oₚ
  -- Row.add
  have cF10 : SF oz_D1clsl_3 F F10 := SF_trans (SF_refl) (SF_gluc (ι := oz_D1clsl_5) oz_D1cls_15 hS10 eF10 (by decide +kernel)) (any_sub (lₚ := [(1, 0), (1, 1), (1, 2)]) (by decide +kernel))
  have mF10 := SFm_of cF10 oz_D1cls_13
  have cA10 : SA oz_D1clsl_4 A A10 := SA_trans (SA_refl) (SA_gluc (ι := oz_D1clsl_5) oz_D1cls_15 hA10 eA10 (by decide +kernel)) (any_subA (lₚ := [2]) (by decide +kernel))
  have mA10 := SAm_of cA10 oz_D1cls_14
  have cD10 : SD oz_D1clsl_4 D D10 := SD_trans (SD_refl) (SD_gluc (ι := oz_D1clsl_5) oz_D1cls_15 hD10 eD10 (by decide +kernel)) (any_subA (lₚ := [2]) (by decide +kernel))
  have mD10 := SDm_of cD10 oz_D1cls_14
  have cN10 : SD oz_D1clsl_4 N N10 := SD_trans (SD_refl) (SD_gluc (ι := oz_D1clsl_5) oz_D1cls_15 hN10 eN10 (by decide +kernel)) (any_subA (lₚ := [2]) (by decide +kernel))
  have mN10 := SDm_of cN10 oz_D1cls_14
  have pf10_1_0 : F10 1 0 = (D10 2 : Int) := (eF10 1 0).trans (pm10_1.trans (congrArg (fun q : Nat => (q : Int)) (eD10 2).symm))
  have r11 : (0 : Int) ≤ m10_1 ∧ m10_1 ≤ 1000000 := nleE (H.nle 2 (ltn len_V216_Row_oz_D1cls rfl)) (show (N10 2 : Int) = m10_1 from (congrArg (fun q : Nat => (q : Int)) (eN10 2)).trans em10_1)
  have r12 : (-2147483648 : Int) ≤ y10_0_1 ∧ y10_0_1 ≤ 2147483647 := rngE (show (-2147483648 : Int) ≤ F10 1 1 ∧ F10 1 1 ≤ 2147483647 from H.krg 1 1 (ltn len_V216_Row_oz_D1cls rfl)) (show F10 1 1 = y10_0_1 from ((eF10 1 1).trans ey10_0_1))
  have r13 : (0 : Int) ≤ y10_0_2 ∧ y10_0_2 ≤ 1 := rngE (show (0 : Int) ≤ F10 1 2 ∧ F10 1 2 ≤ 1 from H.krg 1 2 (ltn len_V216_Row_oz_D1cls rfl)) (show F10 1 2 = y10_0_2 from ((eF10 1 2).trans ey10_0_2))
  have h1 := pz10_3
  rw [hx, u8_id (z := cap15 ((a3)) * 16 + cap15 ((a4))) (by unfold cap15; split <;> split <;> omega)] at h1
  refine Ew_of (pcₚ := 21) (fun _ => x_aload_n rfl rfl) ?_
  refine Ew_of (pcₚ := 22) (fun _ => x_iload_n rfl rfl) ?_
  refine Ew_stk (congrArg (fun qz : Nat => ([I (a3), .ref qz] : List Value)) (show D10 1 = D 1 from mD10 1 rfl).symm) ?_
  refine w_stat24 rfl rfl (by rfl) (C217_Row (D := puc 1025 D10) (N := puc 1025 N10) (HW_subc H oz_D1cls_10 oz_D1cls_15) (pf10_1_0) (m10_1) ((congrArg (fun q : Nat => (q : Int)) (eN10 2)).trans em10_1) (y10_0_1) (((eF10 1 1).trans ey10_0_1)) (y10_0_2) (((eF10 1 2).trans ey10_0_2)) (w10_1) ((eA10 2).trans ew10_1) (show inr (a3) from q_3064 h5 r5) (show 0 ≤ (y10_0_1) ∧ (y10_0_1) ≤ (m10_1) ∧ (m10_1) ≤ 65536 from pz10_0) (show 0 ≤ (a3) from q_3063 h5) (fun σ14 D14ₚ N14ₚ F14ₚ A14ₚ c14 s14 Hₚ Oₚ hD14 hN14 hS14 hA14 pm14_1 m14_1 em14_1 y14_0_1 ey14_0_1 y14_0_2 ey14_0_2 w14_1 ew14_1 pz14_0 pz14_1 => ⟨rfl, ?_⟩))
  refine v_backMc (c := (c + c10)) (s := (s + s10)) H oz_D1cls_10 oz_D1cls_15 Hₚ Oₚ hD14 oz_D1cls_9 (fun D14 N14 F14 A14 H Oₚ eD14 eN14 eF14 eA14 => ?_)
  have O := OUT_trans O Oₚ
  -- Tokens.packRest
  have cF14 : SF oz_D1clsl_3 F F14 := SF_trans (cF10) (SF_gluc (ι := oz_D1clsl_5) oz_D1cls_15 hS14 eF14 (by decide +kernel)) (any_sub (lₚ := [(1, 0), (1, 1), (1, 2)]) (by decide +kernel))
  have mF14 := SFm_of cF14 oz_D1cls_13
  have cA14 : SA oz_D1clsl_4 A A14 := SA_trans (cA10) (SA_gluc (ι := oz_D1clsl_5) oz_D1cls_15 hA14 eA14 (by decide +kernel)) (any_subA (lₚ := [2]) (by decide +kernel))
  have mA14 := SAm_of cA14 oz_D1cls_14
  have cD14 : SD oz_D1clsl_4 D D14 := SD_trans (cD10) (SD_gluc (ι := oz_D1clsl_5) oz_D1cls_15 hD14 eD14 (by decide +kernel)) (any_subA (lₚ := [2]) (by decide +kernel))
  have mD14 := SDm_of cD14 oz_D1cls_14
  have cN14 : SD oz_D1clsl_4 N N14 := SD_trans (cN10) (SD_gluc (ι := oz_D1clsl_5) oz_D1cls_15 hN14 eN14 (by decide +kernel)) (any_subA (lₚ := [2]) (by decide +kernel))
  have mN14 := SDm_of cN14 oz_D1cls_14
  have pf14_1_0 : F14 1 0 = (D14 2 : Int) := (eF14 1 0).trans (pm14_1.trans (congrArg (fun q : Nat => (q : Int)) (eD14 2).symm))
  have r15 : (0 : Int) ≤ m14_1 ∧ m14_1 ≤ 1000000 := nleE (H.nle 2 (ltn len_V216_Row_oz_D1cls rfl)) (show (N14 2 : Int) = m14_1 from (congrArg (fun q : Nat => (q : Int)) (eN14 2)).trans em14_1)
  have r16 : (-2147483648 : Int) ≤ y14_0_1 ∧ y14_0_1 ≤ 2147483647 := rngE (show (-2147483648 : Int) ≤ F14 1 1 ∧ F14 1 1 ≤ 2147483647 from H.krg 1 1 (ltn len_V216_Row_oz_D1cls rfl)) (show F14 1 1 = y14_0_1 from ((eF14 1 1).trans ey14_0_1))
  have r17 : (0 : Int) ≤ y14_0_2 ∧ y14_0_2 ≤ 1 := rngE (show (0 : Int) ≤ F14 1 2 ∧ F14 1 2 ≤ 1 from H.krg 1 2 (ltn len_V216_Row_oz_D1cls rfl)) (show F14 1 2 = y14_0_2 from ((eF14 1 2).trans ey14_0_2))
  have h2 := pz14_1
  refine Ew_of (pcₚ := 26) (fun _ => x_aload_n rfl rfl) ?_
  refine Ew_of (pcₚ := 27) (fun _ => x_aload_n rfl rfl) ?_
  refine Ew_stk (show ([.ref (D 0), .ref (D 1)] : List Value) = [.ref (D14 0), .ref (D14 1)] by rw [show D14 0 = D 0 from mD14 0 rfl, show D14 1 = D 1 from mD14 1 rfl]) ?_
  refine v_g H (o := 0) (v := .ref (D14 3)) rfl rfl rfl rfl rfl (vrf ((mF14 0 2 rfl).trans ((pf3).trans (congrArg (fun q : Nat => (q : Int)) (mD14 3 rfl).symm)))) ?_
  refine v_g H (o := 3) (v := .ref (D14 4)) rfl rfl rfl rfl rfl (vrf ((mF14 3 0 rfl).trans ((pf4).trans (congrArg (fun q : Nat => (q : Int)) (mD14 4 rfl).symm)))) ?_
  refine v_g H (o := 4) (v := .ref (D14 5)) rfl rfl rfl rfl rfl (vrf ((mF14 4 0 rfl).trans ((pf5).trans (congrArg (fun q : Nat => (q : Int)) (mD14 5 rfl).symm)))) ?_
  refine Ew_of (pcₚ := 37) (fun _ => x_iload_n rfl rfl) ?_
  refine Ew_of (pcₚ := 38) (fun _ => x_iload_n rfl rfl) ?_
  refine v_inv H (o := 1) rfl rfl rfl rfl rfl rfl (by rfl) (C161_Br (D := puc 526849 D14) (N := puc 526849 N14) (HW_subc H oz_D1cls_11 oz_D1cls_16) (pf14_1_0) (n5) ((congrArg (fun q : Nat => (q : Int)) (mN14 5 rfl)).trans (en5)) (m14_1) ((congrArg (fun q : Nat => (q : Int)) (eN14 2)).trans em14_1) (y14_0_1) (((eF14 1 1).trans ey14_0_1)) (y14_0_2) (((eF14 1 2).trans ey14_0_2)) (w5) ((funext (mA14 5 rfl)).trans (ew5)) (w14_1) ((eA14 2).trans ew14_1) (show inr (a2) from h0) (show inr (a3) from q_3064 h5 r5) (show 0 ≤ (y14_0_1) ∧ (y14_0_1) ≤ (m14_1) ∧ (m14_1) ≤ 65536 from pz14_0) (show (a3) < 0 ∨ 0 ≤ (a2) ∧ (a2) + (a3) ≤ (n5) from q_3065 h5) (fun σ18 D18ₚ N18ₚ F18ₚ A18ₚ c18 s18 Hₚ Oₚ hD18 hN18 hS18 hA18 pm18_2 m18_2 em18_2 y18_0_1 ey18_0_1 y18_0_2 ey18_0_2 w18_2 ew18_2 pz18_0 pz18_1 pz18_2 pz18_3 => ⟨rfl, ?_⟩))
  refine v_backMc (c := ((c + c10) + c14)) (s := ((s + s10) + s14)) H oz_D1cls_11 oz_D1cls_16 Hₚ Oₚ hD18 oz_D1cls_12 (fun D18 N18 F18 A18 H Oₚ eD18 eN18 eF18 eA18 => ?_)
  have O := OUT_trans O Oₚ
  -- Row.addPart
  have cF18 : SF oz_D1clsl_3 F F18 := SF_trans (cF14) (SF_gluc (ι := oz_D1clsl_6) oz_D1cls_16 hS18 eF18 (by decide +kernel)) (any_sub (lₚ := [(1, 0), (1, 1), (1, 2)]) (by decide +kernel))
  have mF18 := SFm_of cF18 oz_D1cls_13
  have cA18 : SA oz_D1clsl_4 A A18 := SA_trans (cA14) (SA_gluc (ι := oz_D1clsl_6) oz_D1cls_16 hA18 eA18 (by decide +kernel)) (any_subA (lₚ := [2]) (by decide +kernel))
  have mA18 := SAm_of cA18 oz_D1cls_14
  have cD18 : SD oz_D1clsl_4 D D18 := SD_trans (cD14) (SD_gluc (ι := oz_D1clsl_6) oz_D1cls_16 hD18 eD18 (by decide +kernel)) (any_subA (lₚ := [2]) (by decide +kernel))
  have mD18 := SDm_of cD18 oz_D1cls_14
  have cN18 : SD oz_D1clsl_4 N N18 := SD_trans (cN14) (SD_gluc (ι := oz_D1clsl_6) oz_D1cls_16 hN18 eN18 (by decide +kernel)) (any_subA (lₚ := [2]) (by decide +kernel))
  have mN18 := SDm_of cN18 oz_D1cls_14
  have pf18_1_0 : F18 1 0 = (D18 2 : Int) := (eF18 1 0).trans (pm18_2.trans (congrArg (fun q : Nat => (q : Int)) (eD18 2).symm))
  have r19 : (0 : Int) ≤ m18_2 ∧ m18_2 ≤ 1000000 := nleE (H.nle 2 (ltn len_V216_Row_oz_D1cls rfl)) (show (N18 2 : Int) = m18_2 from (congrArg (fun q : Nat => (q : Int)) (eN18 2)).trans em18_2)
  have r20 : (-2147483648 : Int) ≤ y18_0_1 ∧ y18_0_1 ≤ 2147483647 := rngE (show (-2147483648 : Int) ≤ F18 1 1 ∧ F18 1 1 ≤ 2147483647 from H.krg 1 1 (ltn len_V216_Row_oz_D1cls rfl)) (show F18 1 1 = y18_0_1 from ((eF18 1 1).trans ey18_0_1))
  have r21 : (0 : Int) ≤ y18_0_2 ∧ y18_0_2 ≤ 1 := rngE (show (0 : Int) ≤ F18 1 2 ∧ F18 1 2 ≤ 1 from H.krg 1 2 (ltn len_V216_Row_oz_D1cls rfl)) (show F18 1 2 = y18_0_2 from ((eF18 1 2).trans ey18_0_2))
  have : RAP ((u1_2)) ((w2)) ((u1_1)) ((y18_0_2)) ((w18_2)) ((y18_0_1)) ([cap15 ((a3)) * 16 + cap15 ((a4))] ++ (exr ((a3) - 15) ++ sc ((w5)) ((a2)) ((a2) + (a3)))) := RAP_trans h1 (RAP_trans h2 (pz18_3 (by omega)))
  exact w_ret rfl (k _ _ _ _ _ _ _ H O (cD18) (cN18) (cF18) (cA18) (pf18_1_0) (m18_2) ((congrArg (fun q : Nat => (q : Int)) (eN18 2)).trans em18_2) (y18_0_1) (((eF18 1 1).trans ey18_0_1)) (y18_0_2) (((eF18 1 2).trans ey18_0_2)) (w18_2) ((eA18 2).trans ew18_2) (show 0 ≤ (y18_0_1) ∧ (y18_0_1) ≤ (m18_2) ∧ (m18_2) ≤ 65536 from pz18_0) (show RAP ((u1_2)) ((w2)) ((u1_1)) ((y18_0_2)) ((w18_2)) ((y18_0_1)) ([cap15 (a3) * 16 + cap15 (a4)] ++ (exr (a3 - 15) ++ sc ((w5)) (a2) (a2 + a3))) by assumption))
abbrev V215_Row : vV := [(0, 11, [(4, 0), (4, 0), (4, 0), (4, 0), (4, 0), (0, 0), (4, 0), (0, 0), (0, 0), (0, 0), (0, 0), (0, 0), (0, 0)]), (0, 7, [(4, 0), (0, 0), (1, 0), (0, 0), (0, 0)]), (1, 0, []), (0, 5, [(4, 0), (4, 0), (4, 0), (4, 0), (0, 0), (0, 0), (0, 0), (4, 0), (4, 0), (0, 0), (0, 0), (0, 0), (0, 0), (0, 0), (0, 0), (0, 0), (0, 0), (0, 0), (0, 0)]), (0, 7, [(4, 0), (0, 0), (1, 0), (0, 0), (0, 0)]), (1, 0, []), (1, 1, []), (1, 1, []), (1, 1, []), (1, 1, []), (1, 1, [])]
theorem len_V215_Row_oz_D1cls : (V215_Row).length = 11 := by decide +kernel
theorem oz_D1cls_18 : vsub V215_Row V123 [3, 4, 5, 6, 7] = true := by decide +kernel
theorem oz_D1cls_19 : vmov V215_Row [3, 4, 5, 6, 7] [3] = true := by decide +kernel
theorem oz_D1cls_20 : vsub V215_Row V125 [3, 4, 5, 6, 8, 9, 10] = true := by decide +kernel
theorem oz_D1cls_21 : vmov V215_Row [3, 4, 5, 6, 8, 9, 10] [4, 5, 6] = true := by decide +kernel
theorem oz_D1cls_22 : vsub V215_Row V216_Row [0, 1, 2, 3, 4, 5] = true := by decide +kernel
theorem oz_D1cls_23 : vmov V215_Row [0, 1, 2, 3, 4, 5] [2] = true := by decide +kernel
theorem oz_D1cls_24 : vsub V215_Row V160 [1, 2] = true := by decide +kernel
theorem oz_D1cls_25 : vmov V215_Row [1, 2] [1] = true := by decide +kernel
theorem oz_D1cls_26 : vsub V215_Row V217_Row [1, 2] = true := by decide +kernel
def oz_D1clsl_7 : List (Nat × Nat) := [(1, 0), (1, 1), (1, 2), (3, 1), (3, 2), (3, 3), (3, 4), (3, 5), (3, 6), (3, 8), (3, 12), (3, 13), (3, 14), (3, 15), (3, 16), (3, 17), (3, 18)]
theorem oz_D1cls_27 : (oz_D1clsl_7).all (fun p => !tbz 41244121472700643278421578466983936 (Nat.add (Nat.mul 32 p.1) p.2)) = true := by decide +kernel
def oz_D1clsl_8 : List Nat := [2, 6, 7, 8, 9, 10]
theorem oz_D1cls_28 : (oz_D1clsl_8).all (fun p => !tbz 1988 p) = true := by decide +kernel
def oz_D1clsl_9 : List Nat := [2, 6, 8, 9, 10]
theorem oz_D1cls_29 : (oz_D1clsl_9).all (fun p => !tbz 1860 p) = true := by decide +kernel
def oz_D1clsl_10 : List Nat := [3, 4, 5, 6, 7]
theorem oz_D1cls_30 : okc oz_D1clsl_10 481842956291 = true := by decide +kernel
def oz_D1clsl_11 : List Nat := [3, 4, 5, 6, 8, 9, 10]
theorem oz_D1cls_31 : okc oz_D1clsl_11 180461195006052355 = true := by decide +kernel
def oz_D1clsl_12 : List Nat := [0, 1, 2, 3, 4, 5]
theorem oz_D1cls_32 : okc oz_D1clsl_12 176197141529088 = true := by decide +kernel

theorem C215_Row {σE : rS} {D N : Nat → Nat} {F : hF} {A : hA} {d c s : Nat} {Q : wQ} (H : HW V215_Row σE D N F A) {a2 : Int} (pf2 : F 1 0 = (D 2 : Int)) (pf3 : F 0 2 = (D 3 : Int)) (pf4 : F 3 0 = (D 4 : Int)) (pf5 : F 4 0 = (D 5 : Int)) (pf6 : F 3 8 = (D 6 : Int)) (pf7 : F 3 7 = (D 7 : Int)) (pf8 : F 3 1 = (D 8 : Int)) (pf9 : F 3 2 = (D 9 : Int)) (pf10 : F 3 3 = (D 10 : Int)) (n2 : Int) (en2 : (N 2 : Int) = n2) (n5 : Int) (en5 : (N 5 : Int) = n5) (n6 : Int) (en6 : (N 6 : Int) = n6) (n7 : Int) (en7 : (N 7 : Int) = n7) (n8 : Int) (en8 : (N 8 : Int) = n8) (n9 : Int) (en9 : (N 9 : Int) = n9) (n10 : Int) (en10 : (N 10 : Int) = n10) (u1_1 : Int) (eu1_1 : F 1 1 = u1_1) (u1_2 : Int) (eu1_2 : F 1 2 = u1_2) (u3_6 : Int) (eu3_6 : F 3 6 = u3_6) (u3_9 : Int) (eu3_9 : F 3 9 = u3_9) (u3_10 : Int) (eu3_10 : F 3 10 = u3_10) (u3_11 : Int) (eu3_11 : F 3 11 = u3_11) (u4_1 : Int) (eu4_1 : F 4 1 = u4_1) (w2 : Int → Int) (ew2 : A 2 = w2) (w5 : Int → Int) (ew5 : A 5 = w5) (w6 : Int → Int) (ew6 : A 6 = w6) (w7 : Int → Int) (ew7 : A 7 = w7) (h0 : inr (a2)) (h1 : 0 ≤ (u1_1) ∧ (u1_1) ≤ (n2) ∧ (n2) ≤ 65536) (h2 : 0 ≤ (u4_1) ∧ (u4_1) ≤ (n5) ∧ (n5) ≤ 65536 ∧ (u4_1) ≤ 16384) (h3 : (u3_10) = 4) (h4 : 0 ≤ (a2) ∧ (a2) ≤ (u4_1)) (h5 : BKI ((w5)) ((w6)) ((u3_10)) ((u3_6))) (h6 : HDI ((w5)) ((w7)) ((u3_10)) ((u3_6))) (h7 : (n8) = (n9) ∧ (n10) = (n9) ∧ (n9) ≤ 65536 ∧ ((n9) = 0 ∨ 64 ≤ (n9)) ∧ lgq ((n9)) = 0) (h8 : (n7) = 2048) (h9 : 0 ≤ (u3_6) ∧ (u3_6) ≤ (n6) ∧ (n6) ≤ 16384) (h10 : (u3_11) = 65535) (k : ∀ (σ : rS) (Dₚ Nₚ : Nat → Nat) (Fₚ : hF) (Aₚ : hA) (cₚ sₚ : Nat), HW V215_Row σ Dₚ Nₚ Fₚ Aₚ → OUT (V215_Row).length D N σE c s Dₚ Nₚ σ cₚ sₚ → SD [2, 6, 8, 9, 10] D Dₚ → SD [2, 6, 8, 9, 10] N Nₚ → SF [(1, 0), (1, 1), (1, 2), (3, 1), (3, 2), (3, 3), (3, 4), (3, 5), (3, 6), (3, 8), (3, 12), (3, 13), (3, 14), (3, 15), (3, 16), (3, 17), (3, 18)] F Fₚ → SA [2, 6, 7, 8, 9, 10] A Aₚ → Fₚ 1 0 = (Dₚ 2 : Int) → Fₚ 3 8 = (Dₚ 6 : Int) → Fₚ 3 1 = (Dₚ 8 : Int) → Fₚ 3 2 = (Dₚ 9 : Int) → Fₚ 3 3 = (Dₚ 10 : Int) → ∀ m2 : Int, (Nₚ 2 : Int) = m2 → ∀ m6 : Int, (Nₚ 6 : Int) = m6 → ∀ m8 : Int, (Nₚ 8 : Int) = m8 → ∀ m9 : Int, (Nₚ 9 : Int) = m9 → ∀ m10 : Int, (Nₚ 10 : Int) = m10 → ∀ y1_1 : Int, Fₚ 1 1 = y1_1 → ∀ y1_2 : Int, Fₚ 1 2 = y1_2 → ∀ y3_6 : Int, Fₚ 3 6 = y3_6 → ∀ v2 : Int → Int, Aₚ 2 = v2 → ∀ v6 : Int → Int, Aₚ 6 = v6 → ∀ v7 : Int → Int, Aₚ 7 = v7 → (0 ≤ (y1_1) ∧ (y1_1) ≤ (m2) ∧ (m2) ≤ 65536) → (0 ≤ (y3_6) ∧ (u3_6) ≤ (y3_6) ∧ (y3_6) ≤ (m6) ∧ (m6) ≤ 16384) → ((m8) = (m9) ∧ (m10) = (m9) ∧ (m9) ≤ 65536 ∧ ((m9) = 0 ∨ 64 ≤ (m9)) ∧ lgq ((m9)) = 0) → (BKI ((w5)) ((v6)) ((u3_10)) ((y3_6))) → (HDI ((w5)) ((v7)) ((u3_10)) ((y3_6))) → ((y3_6) = (u3_6) ∨ (y3_6) + 4 ≤ (u4_1) + 1) → (PKB ((u3_9)) ((a2)) (sc ((w5)) 0 ((u4_1))) ((u1_2)) ((w2)) ((u1_1)) ((y1_2)) ((v2)) ((y1_1))) → Q none σ cₚ sₚ) : Ew 215 (d + 5) 0 (rargs 0 [.ref (D 0), .ref (D 1), I a2]) [] σE c s Q := by
  have O := OUT_refl (n := (V215_Row).length) (D := D) (N := N) (σ := σE) (c := c) (s := s)
  have HE := H
  have r1 : (-2147483648 : Int) ≤ u1_1 ∧ u1_1 ≤ 2147483647 := rngE (show (-2147483648 : Int) ≤ F 1 1 ∧ F 1 1 ≤ 2147483647 from H.krg 1 1 (ltn len_V215_Row_oz_D1cls rfl)) (show F 1 1 = u1_1 from (eu1_1))
  have r2 : (0 : Int) ≤ u1_2 ∧ u1_2 ≤ 1 := rngE (show (0 : Int) ≤ F 1 2 ∧ F 1 2 ≤ 1 from H.krg 1 2 (ltn len_V215_Row_oz_D1cls rfl)) (show F 1 2 = u1_2 from (eu1_2))
  have r3 : (-2147483648 : Int) ≤ u3_6 ∧ u3_6 ≤ 2147483647 := rngE (show (-2147483648 : Int) ≤ F 3 6 ∧ F 3 6 ≤ 2147483647 from H.krg 3 6 (ltn len_V215_Row_oz_D1cls rfl)) (show F 3 6 = u3_6 from (eu3_6))
  have r4 : (-2147483648 : Int) ≤ u3_9 ∧ u3_9 ≤ 2147483647 := rngE (show (-2147483648 : Int) ≤ F 3 9 ∧ F 3 9 ≤ 2147483647 from H.krg 3 9 (ltn len_V215_Row_oz_D1cls rfl)) (show F 3 9 = u3_9 from (eu3_9))
  have r5 : (-2147483648 : Int) ≤ u3_10 ∧ u3_10 ≤ 2147483647 := rngE (show (-2147483648 : Int) ≤ F 3 10 ∧ F 3 10 ≤ 2147483647 from H.krg 3 10 (ltn len_V215_Row_oz_D1cls rfl)) (show F 3 10 = u3_10 from (eu3_10))
  have r6 : (-2147483648 : Int) ≤ u3_11 ∧ u3_11 ≤ 2147483647 := rngE (show (-2147483648 : Int) ≤ F 3 11 ∧ F 3 11 ≤ 2147483647 from H.krg 3 11 (ltn len_V215_Row_oz_D1cls rfl)) (show F 3 11 = u3_11 from (eu3_11))
  have r7 : (-2147483648 : Int) ≤ u4_1 ∧ u4_1 ≤ 2147483647 := rngE (show (-2147483648 : Int) ≤ F 4 1 ∧ F 4 1 ≤ 2147483647 from H.krg 4 1 (ltn len_V215_Row_oz_D1cls rfl)) (show F 4 1 = u4_1 from (eu4_1))
  have r8 : (0 : Int) ≤ n2 ∧ n2 ≤ 1000000 := nleE (H.nle 2 (ltn len_V215_Row_oz_D1cls rfl)) (show (N 2 : Int) = n2 from en2)
  have r9 : (0 : Int) ≤ n5 ∧ n5 ≤ 1000000 := nleE (H.nle 5 (ltn len_V215_Row_oz_D1cls rfl)) (show (N 5 : Int) = n5 from en5)
  have r10 : (0 : Int) ≤ n6 ∧ n6 ≤ 1000000 := nleE (H.nle 6 (ltn len_V215_Row_oz_D1cls rfl)) (show (N 6 : Int) = n6 from en6)
  have r11 : (0 : Int) ≤ n7 ∧ n7 ≤ 1000000 := nleE (H.nle 7 (ltn len_V215_Row_oz_D1cls rfl)) (show (N 7 : Int) = n7 from en7)
  have r12 : (0 : Int) ≤ n8 ∧ n8 ≤ 1000000 := nleE (H.nle 8 (ltn len_V215_Row_oz_D1cls rfl)) (show (N 8 : Int) = n8 from en8)
  have r13 : (0 : Int) ≤ n9 ∧ n9 ≤ 1000000 := nleE (H.nle 9 (ltn len_V215_Row_oz_D1cls rfl)) (show (N 9 : Int) = n9 from en9)
  have r14 : (0 : Int) ≤ n10 ∧ n10 ≤ 1000000 := nleE (H.nle 10 (ltn len_V215_Row_oz_D1cls rfl)) (show (N 10 : Int) = n10 from en10)
  refine Ew_of (pcₚ := 1) (fun _ => x_aload_n rfl rfl) ?_
  refine v_g H (o := 0) (v := .ref (D 3)) rfl rfl rfl rfl rfl (vrf (pf3)) ?_
  refine v_g H (o := 3) (v := .ref (D 4)) rfl rfl rfl rfl rfl (vrf (pf4)) ?_
  refine v_g H (o := 4) (v := I (u4_1)) rfl rfl rfl rfl rfl (congrArg (fun z : Int => I z) ((eu4_1) : F 4 1 = u4_1)) ?_
  refine Ew_of (pcₚ := 11) (fun _ => x_istore_n rfl) ?_
  refine Ew_of (pcₚ := 12) (fun _ => x_aload_n rfl (rk_o (rfl) rfl rfl)) ?_
  refine v_g H (o := 0) (v := .ref (D 3)) rfl rfl rfl rfl rfl (vrf (pf3)) ?_
  refine Ew_of (pcₚ := 16) (fun _ => x_iload_n rfl rk_s) ?_
  refine v_inv H (o := 3) rfl rfl rfl rfl rfl rfl (by rfl) (C123 (D := puc 481842956291 D) (N := puc 481842956291 N) (HW_subc H oz_D1cls_18 oz_D1cls_30) (pf4) (pf5) (pf6) (pf7) (n5) (en5) (n6) (en6) (n7) (en7) (u3_6) ((eu3_6)) (u3_10) ((eu3_10)) (u4_1) ((eu4_1)) (w5) (ew5) (w6) (ew6) (w7) (ew7) (show inr (u4_1) from q_3068 h2) (show 0 ≤ (u4_1) ∧ (u4_1) ≤ (n5) ∧ (n5) ≤ 65536 ∧ (u4_1) ≤ 16384 from h2) (show 1 ≤ (u3_10) ∧ (u3_10) ≤ 8 from q_3067 h3) (show 0 ≤ (u4_1) ∧ (u4_1) ≤ (u4_1) from q_3066 h2) (h5) (show HDI ((w5)) ((w7)) ((u3_10)) ((u3_6)) by assumption) (show (n7) = 2048 from h8) (show 0 ≤ (u3_6) ∧ (u3_6) ≤ (n6) ∧ (n6) ≤ 16384 from h9) (fun σ15 D15ₚ N15ₚ F15ₚ A15ₚ c15 s15 Hₚ Oₚ hD15 hN15 hS15 hA15 pm15_3 m15_3 em15_3 y15_0_6 ey15_0_6 w15_3 ew15_3 w15_4 ew15_4 pz15_0 pz15_1 pz15_2 pz15_3 pz15_4 => ⟨rfl, ?_⟩))
  refine v_backMc (c := c) (s := s) H oz_D1cls_18 oz_D1cls_30 Hₚ Oₚ hD15 oz_D1cls_19 (fun D15 N15 F15 A15 H Oₚ eD15 eN15 eF15 eA15 => ?_)
  have O := OUT_trans O Oₚ
  -- Finder.lay
  have cF15 : SF oz_D1clsl_7 F F15 := SF_trans (SF_refl) (SF_gluc (ι := oz_D1clsl_10) oz_D1cls_30 hS15 eF15 (by decide +kernel)) (any_sub (lₚ := [(3, 6), (3, 8)]) (by decide +kernel))
  have mF15 := SFm_of cF15 oz_D1cls_27
  have cA15 : SA oz_D1clsl_8 A A15 := SA_trans (SA_refl) (SA_gluc (ι := oz_D1clsl_10) oz_D1cls_30 hA15 eA15 (by decide +kernel)) (any_subA (lₚ := [6, 7]) (by decide +kernel))
  have mA15 := SAm_of cA15 oz_D1cls_28
  have cD15 : SD oz_D1clsl_9 D D15 := SD_trans (SD_refl) (SD_gluc (ι := oz_D1clsl_10) oz_D1cls_30 hD15 eD15 (by decide +kernel)) (any_subA (lₚ := [6]) (by decide +kernel))
  have mD15 := SDm_of cD15 oz_D1cls_29
  have cN15 : SD oz_D1clsl_9 N N15 := SD_trans (SD_refl) (SD_gluc (ι := oz_D1clsl_10) oz_D1cls_30 hN15 eN15 (by decide +kernel)) (any_subA (lₚ := [6]) (by decide +kernel))
  have mN15 := SDm_of cN15 oz_D1cls_29
  have pf15_1_0 : F15 1 0 = (D15 2 : Int) := ((show F15 1 0 = F 1 0 from (eF15 1 0))).trans ((pf2).trans (congrArg (fun q : Nat => (q : Int)) ((show D15 2 = D 2 from (eD15 2))).symm))
  have pf15_3_1 : F15 3 1 = (D15 8 : Int) := ((show F15 3 1 = F 3 1 from (eF15 3 1).trans (hS15 0 1 rfl))).trans ((pf8).trans (congrArg (fun q : Nat => (q : Int)) ((show D15 8 = D 8 from (eD15 8))).symm))
  have pf15_3_2 : F15 3 2 = (D15 9 : Int) := ((show F15 3 2 = F 3 2 from (eF15 3 2).trans (hS15 0 2 rfl))).trans ((pf9).trans (congrArg (fun q : Nat => (q : Int)) ((show D15 9 = D 9 from (eD15 9))).symm))
  have pf15_3_3 : F15 3 3 = (D15 10 : Int) := ((show F15 3 3 = F 3 3 from (eF15 3 3).trans (hS15 0 3 rfl))).trans ((pf10).trans (congrArg (fun q : Nat => (q : Int)) ((show D15 10 = D 10 from (eD15 10))).symm))
  have pf15_3_8 : F15 3 8 = (D15 6 : Int) := (eF15 3 8).trans (pm15_3.trans (congrArg (fun q : Nat => (q : Int)) (eD15 6).symm))
  have r16 : (0 : Int) ≤ m15_3 ∧ m15_3 ≤ 1000000 := nleE (H.nle 6 (ltn len_V215_Row_oz_D1cls rfl)) (show (N15 6 : Int) = m15_3 from (congrArg (fun q : Nat => (q : Int)) (eN15 6)).trans em15_3)
  have r17 : (-2147483648 : Int) ≤ y15_0_6 ∧ y15_0_6 ≤ 2147483647 := rngE (show (-2147483648 : Int) ≤ F15 3 6 ∧ F15 3 6 ≤ 2147483647 from H.krg 3 6 (ltn len_V215_Row_oz_D1cls rfl)) (show F15 3 6 = y15_0_6 from ((eF15 3 6).trans ey15_0_6))
  refine Ew_of (pcₚ := 20) (fun _ => x_aload_n rfl (rk_o (rfl) rfl rfl)) ?_
  refine Ew_stk (congrArg (fun qz : Nat => ([.ref qz] : List Value)) (show D15 0 = D 0 from mD15 0 rfl).symm) ?_
  refine v_g H (o := 0) (v := .ref (D15 3)) rfl rfl rfl rfl rfl (vrf ((mF15 0 2 rfl).trans ((pf3).trans (congrArg (fun q : Nat => (q : Int)) (mD15 3 rfl).symm)))) ?_
  refine Ew_of (pcₚ := 24) (fun _ => x_iload_n rfl (rk_o (rfl) rfl rfl)) ?_
  refine Ew_of (pcₚ := 25) (fun _ => x_iload_n rfl rk_s) ?_
  refine Ew_of (pcₚ := 26) (fun _ => x_iload_n rfl rk_s) ?_
  refine Ew_of (pcₚ := 27) (fun _ => x_iconst rfl) ?_
  refine w_isub rfl ?_
  refine Ew_of (pcₚ := 29) (fun _ => x_iload_n rfl rk_s) ?_
  refine Ew_of (pcₚ := 31) (fun _ => x_bipush (z := 12) rfl (by decide)) ?_
  refine w_isub rfl ?_
  have r18 : (-2147483648 : Int) ≤ F 3 4 ∧ F 3 4 ≤ 2147483647 := rngE (show (-2147483648 : Int) ≤ F15 3 4 ∧ F15 3 4 ≤ 2147483647 from H.krg 3 4 (ltn len_V215_Row_oz_D1cls rfl)) (show F15 3 4 = F 3 4 from ((show F15 3 4 = F 3 4 from (eF15 3 4).trans (hS15 0 4 rfl))))
  have r19 : (-2147483648 : Int) ≤ F 3 5 ∧ F 3 5 ≤ 2147483647 := rngE (show (-2147483648 : Int) ≤ F15 3 5 ∧ F15 3 5 ≤ 2147483647 from H.krg 3 5 (ltn len_V215_Row_oz_D1cls rfl)) (show F15 3 5 = F 3 5 from ((show F15 3 5 = F 3 5 from (eF15 3 5).trans (hS15 0 5 rfl))))
  refine v_inv H (o := 3) rfl rfl rfl rfl rfl rfl (by rfl) (C125 (D := puc 180461195006052355 D15) (N := puc 180461195006052355 N15) (HW_subc H oz_D1cls_20 oz_D1cls_31) ((mF15 3 0 rfl).trans ((pf4).trans (congrArg (fun q : Nat => (q : Int)) (mD15 4 rfl).symm))) ((mF15 4 0 rfl).trans ((pf5).trans (congrArg (fun q : Nat => (q : Int)) (mD15 5 rfl).symm))) (pf15_3_8) (pf15_3_1) (pf15_3_2) (pf15_3_3) (n5) ((congrArg (fun q : Nat => (q : Int)) (mN15 5 rfl)).trans (en5)) (m15_3) ((congrArg (fun q : Nat => (q : Int)) (eN15 6)).trans em15_3) (n8) ((congrArg (fun q : Nat => (q : Int)) (show N15 8 = N 8 from (eN15 8))).trans (en8)) (n9) ((congrArg (fun q : Nat => (q : Int)) (show N15 9 = N 9 from (eN15 9))).trans (en9)) (n10) ((congrArg (fun q : Nat => (q : Int)) (show N15 10 = N 10 from (eN15 10))).trans (en10)) (F 3 4) (((show F15 3 4 = F 3 4 from (eF15 3 4).trans (hS15 0 4 rfl)))) (F 3 5) (((show F15 3 5 = F 3 5 from (eF15 3 5).trans (hS15 0 5 rfl)))) (y15_0_6) (((eF15 3 6).trans ey15_0_6)) (u3_9) (((mF15 3 9 rfl).trans (eu3_9))) (u3_10) (((mF15 3 10 rfl).trans (eu3_10))) (u3_11) (((mF15 3 11 rfl).trans (eu3_11))) (u4_1) (((mF15 4 1 rfl).trans (eu4_1))) (w5) ((funext (mA15 5 rfl)).trans (ew5)) (w15_3) ((eA15 6).trans ew15_3) (A 8) ((show A15 8 = A 8 from (eA15 8))) (A 9) ((show A15 9 = A 9 from (eA15 9))) (A 10) ((show A15 10 = A 10 from (eA15 10))) (show inr (a2) from h0) (show inr (u4_1) from q_3068 h2) (show inr ((u4_1 - 5)) from q_3073 h2) (show inr ((u4_1 - 12)) from q_3072 h2) (show 0 ≤ (u4_1) ∧ (u4_1) ≤ (n5) ∧ (n5) ≤ 65536 ∧ (u4_1) ≤ 16384 from h2) (show 1 ≤ (u3_10) ∧ (u3_10) ≤ 8 from q_3067 h3) (show 0 ≤ (a2) ∧ (a2) ≤ (u4_1) ∧ (u4_1) ≤ (u4_1) from q_3071 h4) (show ((u4_1 - 5)) ≤ (u4_1) ∧ ((u4_1 - 12)) < (u4_1) ∧ ((u4_1 - 12)) < (y15_0_6) from q_3070 h3 pz15_1) (show 0 ≤ (y15_0_6) ∧ (y15_0_6) ≤ (m15_3) ∧ (m15_3) ≤ 16384 from q_3069 h9 pz15_0) (pz15_3) (show (n8) = (n9) ∧ (n10) = (n9) ∧ (n9) ≤ 65536 ∧ ((n9) = 0 ∨ 64 ≤ (n9)) ∧ lgq ((n9)) = 0 from h7) (fun σ20 D20ₚ N20ₚ F20ₚ A20ₚ c20 s20 Hₚ Oₚ hD20 hN20 hS20 hA20 pm20_4 pm20_5 pm20_6 m20_4 em20_4 m20_5 em20_5 m20_6 em20_6 y20_0_4 ey20_0_4 y20_0_5 ey20_0_5 w20_4 ew20_4 w20_5 ew20_5 w20_6 ew20_6 pz20_0 pz20_1 pz20_2 pz20_3 pz20_4 => ⟨rfl, ?_⟩))
  refine v_backMc (c := (c + c15)) (s := (s + s15)) H oz_D1cls_20 oz_D1cls_31 Hₚ Oₚ hD20 oz_D1cls_21 (fun D20 N20 F20 A20 H Oₚ eD20 eN20 eF20 eA20 => ?_)
  have O := OUT_trans O Oₚ
  -- Finder.go
  have cF20 : SF oz_D1clsl_7 F F20 := SF_trans (cF15) (SF_gluc (ι := oz_D1clsl_11) oz_D1cls_31 hS20 eF20 (by decide +kernel)) (any_sub (lₚ := [(3, 1), (3, 2), (3, 3), (3, 4), (3, 5), (3, 12), (3, 13), (3, 14), (3, 15), (3, 16), (3, 17), (3, 18)]) (by decide +kernel))
  have mF20 := SFm_of cF20 oz_D1cls_27
  have cA20 : SA oz_D1clsl_8 A A20 := SA_trans (cA15) (SA_gluc (ι := oz_D1clsl_11) oz_D1cls_31 hA20 eA20 (by decide +kernel)) (any_subA (lₚ := [8, 9, 10]) (by decide +kernel))
  have mA20 := SAm_of cA20 oz_D1cls_28
  have cD20 : SD oz_D1clsl_9 D D20 := SD_trans (cD15) (SD_gluc (ι := oz_D1clsl_11) oz_D1cls_31 hD20 eD20 (by decide +kernel)) (any_subA (lₚ := [8, 9, 10]) (by decide +kernel))
  have mD20 := SDm_of cD20 oz_D1cls_29
  have cN20 : SD oz_D1clsl_9 N N20 := SD_trans (cN15) (SD_gluc (ι := oz_D1clsl_11) oz_D1cls_31 hN20 eN20 (by decide +kernel)) (any_subA (lₚ := [8, 9, 10]) (by decide +kernel))
  have mN20 := SDm_of cN20 oz_D1cls_29
  have pf20_1_0 : F20 1 0 = (D20 2 : Int) := ((show F20 1 0 = F15 1 0 from (eF20 1 0))).trans ((pf15_1_0).trans (congrArg (fun q : Nat => (q : Int)) ((show D20 2 = D15 2 from (eD20 2))).symm))
  have pf20_3_1 : F20 3 1 = (D20 8 : Int) := (eF20 3 1).trans (pm20_4.trans (congrArg (fun q : Nat => (q : Int)) (eD20 8).symm))
  have pf20_3_2 : F20 3 2 = (D20 9 : Int) := (eF20 3 2).trans (pm20_5.trans (congrArg (fun q : Nat => (q : Int)) (eD20 9).symm))
  have pf20_3_3 : F20 3 3 = (D20 10 : Int) := (eF20 3 3).trans (pm20_6.trans (congrArg (fun q : Nat => (q : Int)) (eD20 10).symm))
  have pf20_3_8 : F20 3 8 = (D20 6 : Int) := ((show F20 3 8 = F15 3 8 from (eF20 3 8).trans (hS20 0 8 rfl))).trans ((pf15_3_8).trans (congrArg (fun q : Nat => (q : Int)) ((show D20 6 = D15 6 from (eD20 6).trans (hD20 3 rfl))).symm))
  have r21 : (0 : Int) ≤ m20_4 ∧ m20_4 ≤ 1000000 := nleE (H.nle 8 (ltn len_V215_Row_oz_D1cls rfl)) (show (N20 8 : Int) = m20_4 from (congrArg (fun q : Nat => (q : Int)) (eN20 8)).trans em20_4)
  have r22 : (0 : Int) ≤ m20_5 ∧ m20_5 ≤ 1000000 := nleE (H.nle 9 (ltn len_V215_Row_oz_D1cls rfl)) (show (N20 9 : Int) = m20_5 from (congrArg (fun q : Nat => (q : Int)) (eN20 9)).trans em20_5)
  have r23 : (0 : Int) ≤ m20_6 ∧ m20_6 ≤ 1000000 := nleE (H.nle 10 (ltn len_V215_Row_oz_D1cls rfl)) (show (N20 10 : Int) = m20_6 from (congrArg (fun q : Nat => (q : Int)) (eN20 10)).trans em20_6)
  have r24 : (-2147483648 : Int) ≤ y20_0_4 ∧ y20_0_4 ≤ 2147483647 := rngE (show (-2147483648 : Int) ≤ F20 3 4 ∧ F20 3 4 ≤ 2147483647 from H.krg 3 4 (ltn len_V215_Row_oz_D1cls rfl)) (show F20 3 4 = y20_0_4 from ((eF20 3 4).trans ey20_0_4))
  have r25 : (-2147483648 : Int) ≤ y20_0_5 ∧ y20_0_5 ≤ 2147483647 := rngE (show (-2147483648 : Int) ≤ F20 3 5 ∧ F20 3 5 ≤ 2147483647 from H.krg 3 5 (ltn len_V215_Row_oz_D1cls rfl)) (show F20 3 5 = y20_0_5 from ((eF20 3 5).trans ey20_0_5))
  refine Ew_of (pcₚ := 36) (fun _ => x_iload_n rfl (rk_o (rfl) rfl rfl)) ?_
  refine Ew_of (pcₚ := 38) (fun _ => x_istore rfl) ?_
  refine Ew_of (pcₚ := 39) (fun _ => x_iconst rfl) ?_
  refine Ew_of (pcₚ := 41) (fun _ => x_istore rfl) ?_
  have : su (fun j => ((w20_4)) j + ((w20_5)) j) (0 : Int).toNat = 0 := rfl
  have hfd : FDI ((w20_4)) ((w20_5)) ((w20_6)) ((y20_0_4)) ((u4_1) - (a2) - (y20_0_5)) ((u3_10)) := pz20_3
  have hgo := pz20_4
  have : RTO ((u1_2)) ((w2)) ((u1_1)) ((u1_2)) ((w2)) ((u1_1)) (tokE ((w5)) ((a2)) (sq ((w20_4)) ((w20_5)) ((w20_6)) ((y20_0_4))) ((y20_0_5))) (tokE ((w5)) ((a2)) (sqd ((w20_4)) ((w20_5)) ((w20_6)) (0) ((y20_0_4))) ((y20_0_5))) := by rw [sqd_0]; exact RTO_0
  suffices hl41 : ∀ (m : Nat), ∀ (ls : rO) (σ : rS) (D_41 N_41 : Nat → Nat) (c_41 s_41 : Nat) (F_41 : hF) (A_41 : hA) (x41_4 : Int) (x41_5 : Int), rlook ls 0 = some (.ref (D_41 0)) → rlook ls 1 = some (.ref (D_41 1)) → rlook ls 4 = some (I (x41_4)) → rlook ls 5 = some (I (x41_5)) → HW V215_Row σ D_41 N_41 F_41 A_41 → OUT (V215_Row).length D N σE c s D_41 N_41 σ c_41 s_41 → SD [2] D20 D_41 → SD [2] N20 N_41 → SF [(1, 0), (1, 1), (1, 2)] F20 F_41 → SA [2] A20 A_41 → F_41 1 0 = (D_41 2 : Int) → ∀ m41_2 : Int, (N_41 2 : Int) = m41_2 → ∀ y41_1_1 : Int, F_41 1 1 = y41_1_1 → ∀ y41_1_2 : Int, F_41 1 2 = y41_1_2 → ∀ w41_2 : Int → Int, A_41 2 = w41_2 → (inr (x41_4)) → (inr (x41_5)) → ((0) ≤ (x41_5)) → ((x41_5) ≤ (0) ∨ (x41_5) ≤ ((y20_0_4))) → (0 ≤ (y41_1_1) ∧ (y41_1_1) ≤ (m41_2) ∧ (m41_2) ≤ 65536) → ((x41_4) = (a2) + su (fun j => ((w20_4)) j + ((w20_5)) j) ((x41_5) : Int).toNat) → (RTO ((u1_2)) ((w2)) ((u1_1)) ((y41_1_2)) ((w41_2)) ((y41_1_1)) (tokE ((w5)) ((a2)) (sq ((w20_4)) ((w20_5)) ((w20_6)) ((y20_0_4))) ((y20_0_5))) (tokE ((w5)) ((x41_4)) (sqd ((w20_4)) ((w20_5)) ((w20_6)) ((x41_5)) ((y20_0_4))) ((y20_0_5)))) → (((y20_0_4)) - (x41_5)).toNat = m → Ew 215 (d + 5) 41 ls [] σ c_41 s_41 Q from
    hl41 _ _ _ _ _ _ _ _ _ (a2) (0) ((rk_o (rk_o (rk_o (rfl) rfl rfl) rfl rfl) rfl rfl).trans (congrArg (fun q : Nat => some (Value.ref q)) (mD20 0 rfl).symm)) ((rk_o (rk_o (rk_o (rfl) rfl rfl) rfl rfl) rfl rfl).trans (congrArg (fun q : Nat => some (Value.ref q)) (mD20 1 rfl).symm)) (rk_o (rk_s) rfl rfl) (rk_s) H O (SD_refl) (SD_refl) (SF_refl) (SA_refl) (pf20_1_0) (n2) ((congrArg (fun q : Nat => (q : Int)) (show N20 2 = N15 2 from (eN20 2))).trans ((congrArg (fun q : Nat => (q : Int)) (show N15 2 = N 2 from (eN15 2))).trans (en2))) (u1_1) (((((show F20 1 1 = F15 1 1 from (eF20 1 1))).trans ((show F15 1 1 = F 1 1 from (eF15 1 1)))).trans (eu1_1))) (u1_2) (((((show F20 1 2 = F15 1 2 from (eF20 1 2))).trans ((show F15 1 2 = F 1 2 from (eF15 1 2)))).trans (eu1_2))) (w2) (((show A20 2 = A15 2 from (eA20 2))).trans (((show A15 2 = A 2 from (eA15 2))).trans (ew2))) (show inr (a2) from h0) (show inr (0) from q_2) (show (0) ≤ (0) from q_1) (show (0) ≤ (0) ∨ (0) ≤ ((y20_0_4)) from q_5) (show 0 ≤ (u1_1) ∧ (u1_1) ≤ (n2) ∧ (n2) ≤ 65536 from h1) (show (a2) = (a2) + su (fun j => ((w20_4)) j + ((w20_5)) j) ((0) : Int).toNat by omega) (show RTO ((u1_2)) ((w2)) ((u1_1)) ((u1_2)) ((w2)) ((u1_1)) (tokE ((w5)) ((a2)) (sq ((w20_4)) ((w20_5)) ((w20_6)) ((y20_0_4))) ((y20_0_5))) (tokE ((w5)) ((a2)) (sqd ((w20_4)) ((w20_5)) ((w20_6)) ((0)) ((y20_0_4))) ((y20_0_5))) by assumption) rfl
  as_aux_lemma =>
  intro m
  induction m using Nat.strongRecOn with
  | _ m ih41 =>
    intro ls σ D_41 N_41 c_41 s_41 F_41 A_41 x41_4 x41_5 l41_0 l41_1 l41_4 l41_5 H O hD_41 hN_41 hS_41 hA_41 pm41_2 m41_2 em41_2 y41_1_1 ey41_1_1 y41_1_2 ey41_1_2 w41_2 ew41_2 j41_0 j41_1 j41_2 j41_3 j41_4 j41_5 j41_6 hm41
    have cF_41 : SF oz_D1clsl_7 F F_41 := SF_trans (cF20) hS_41 (any_sub (by decide +kernel))
    have mF_41 := SFm_of cF_41 oz_D1cls_27
    have cA_41 : SA oz_D1clsl_8 A A_41 := SA_trans (cA20) hA_41 (any_subA (by decide +kernel))
    have mA_41 := SAm_of cA_41 oz_D1cls_28
    have cD_41 : SD oz_D1clsl_9 D D_41 := SD_trans (cD20) hD_41 (any_subA (by decide +kernel))
    have mD_41 := SDm_of cD_41 oz_D1cls_29
    have cN_41 : SD oz_D1clsl_9 N N_41 := SD_trans (cN20) hN_41 (any_subA (by decide +kernel))
    have mN_41 := SDm_of cN_41 oz_D1cls_29
    have pf_41_3_1 : F_41 3 1 = (D_41 8 : Int) := (hS_41 3 1 rfl).trans ((pf20_3_1).trans (congrArg (fun q : Nat => (q : Int)) (hD_41 8 rfl).symm))
    have pf_41_3_2 : F_41 3 2 = (D_41 9 : Int) := (hS_41 3 2 rfl).trans ((pf20_3_2).trans (congrArg (fun q : Nat => (q : Int)) (hD_41 9 rfl).symm))
    have pf_41_3_3 : F_41 3 3 = (D_41 10 : Int) := (hS_41 3 3 rfl).trans ((pf20_3_3).trans (congrArg (fun q : Nat => (q : Int)) (hD_41 10 rfl).symm))
    have pf_41_3_8 : F_41 3 8 = (D_41 6 : Int) := (hS_41 3 8 rfl).trans ((pf20_3_8).trans (congrArg (fun q : Nat => (q : Int)) (hD_41 6 rfl).symm))
    have r26 : (0 : Int) ≤ m41_2 ∧ m41_2 ≤ 1000000 := nleE (H.nle 2 (ltn len_V215_Row_oz_D1cls rfl)) (show (N_41 2 : Int) = m41_2 from em41_2)
    have r27 : (-2147483648 : Int) ≤ y41_1_1 ∧ y41_1_1 ≤ 2147483647 := rngE (show (-2147483648 : Int) ≤ F_41 1 1 ∧ F_41 1 1 ≤ 2147483647 from H.krg 1 1 (ltn len_V215_Row_oz_D1cls rfl)) (show F_41 1 1 = y41_1_1 from (ey41_1_1))
    have r28 : (0 : Int) ≤ y41_1_2 ∧ y41_1_2 ≤ 1 := rngE (show (0 : Int) ≤ F_41 1 2 ∧ F_41 1 2 ≤ 1 from H.krg 1 2 (ltn len_V215_Row_oz_D1cls rfl)) (show F_41 1 2 = y41_1_2 from (ey41_1_2))
    have j41_q : RTO ((u1_2)) ((w2)) ((u1_1)) ((y41_1_2)) ((w41_2)) ((y41_1_1)) (tokE ((w5)) ((a2)) (sq ((w20_4)) ((w20_5)) ((w20_6)) ((y20_0_4))) ((y20_0_5))) (tokE ((w5)) ((x41_4)) (sqd ((w20_4)) ((w20_5)) ((w20_6)) ((x41_5)) ((y20_0_4))) ((y20_0_5))) := j41_6
    refine Ew_of (pcₚ := 43) (fun _ => x_iload rfl l41_5) ?_
    refine Ew_of (pcₚ := 44) (fun _ => x_aload_n rfl l41_0) ?_
    refine v_g H (o := 0) (v := .ref (D_41 3)) rfl rfl rfl rfl rfl (vrf ((mF_41 0 2 rfl).trans ((pf3).trans (congrArg (fun q : Nat => (q : Int)) (mD_41 3 rfl).symm)))) ?_
    refine v_g H (o := 3) (v := I (y20_0_4)) rfl rfl rfl rfl rfl (congrArg (fun z : Int => I z) (((hS_41 3 4 rfl).trans ((eF20 3 4).trans ey20_0_4)) : F_41 3 4 = y20_0_4)) ?_
    refine w_icmpge (t := 136) rfl rfl (show inr (x41_5) from j41_1) (show inr (y20_0_4) from q_3074 pz20_1 r24) (fun b29 => ?_) (fun b29 => ?_)
    · have hle : (x41_5) = (y20_0_4) := q_3075 b29 j41_3 pz20_1
      have hst : su (fun j => ((w20_4)) j + ((w20_5)) j) ((x41_5) : Int).toNat = (u4_1) - (a2) - (y20_0_5) := by rw [hle]; exact hfd.2
      refine Ew_of (pcₚ := 137) (fun _ => x_aload_n rfl l41_0) ?_
      refine Ew_of (pcₚ := 138) (fun _ => x_aload_n rfl l41_1) ?_
      refine Ew_of (pcₚ := 140) (fun _ => x_iload rfl l41_4) ?_
      refine Ew_of (pcₚ := 141) (fun _ => x_aload_n rfl l41_0) ?_
      refine v_g H (o := 0) (v := .ref (D_41 3)) rfl rfl rfl rfl rfl (vrf ((mF_41 0 2 rfl).trans ((pf3).trans (congrArg (fun q : Nat => (q : Int)) (mD_41 3 rfl).symm)))) ?_
      refine v_g H (o := 3) (v := I (y20_0_5)) rfl rfl rfl rfl rfl (congrArg (fun z : Int => I z) (((hS_41 3 5 rfl).trans ((eF20 3 5).trans ey20_0_5)) : F_41 3 5 = y20_0_5)) ?_
      refine Ew_of (pcₚ := 148) (fun _ => x_iconst rfl) ?_
      refine v_inv H (o := 0) rfl rfl rfl rfl rfl rfl (by rfl) (C216_Row (D := puc 176197141529088 D_41) (N := puc 176197141529088 N_41) (HW_subc H oz_D1cls_22 oz_D1cls_32) (pm41_2) ((mF_41 0 2 rfl).trans ((pf3).trans (congrArg (fun q : Nat => (q : Int)) (mD_41 3 rfl).symm))) ((mF_41 3 0 rfl).trans ((pf4).trans (congrArg (fun q : Nat => (q : Int)) (mD_41 4 rfl).symm))) ((mF_41 4 0 rfl).trans ((pf5).trans (congrArg (fun q : Nat => (q : Int)) (mD_41 5 rfl).symm))) (m41_2) (em41_2) (n5) ((congrArg (fun q : Nat => (q : Int)) (mN_41 5 rfl)).trans (en5)) (y41_1_1) ((ey41_1_1)) (y41_1_2) ((ey41_1_2)) (u4_1) (((mF_41 4 1 rfl).trans (eu4_1))) (w41_2) (ew41_2) (w5) ((funext (mA_41 5 rfl)).trans (ew5)) (show inr (x41_4) from j41_0) (show inr (y20_0_5) from q_3077 pz20_2 r25) (show inr (0) from q_2) (show 0 ≤ (y41_1_1) ∧ (y41_1_1) ≤ (m41_2) ∧ (m41_2) ≤ 65536 from j41_4) (show 0 ≤ (u4_1) ∧ (u4_1) ≤ (n5) ∧ (n5) ≤ 65536 from q_3076 h2) (show 0 ≤ (x41_4) ∧ 0 ≤ (y20_0_5) ∧ (x41_4) + (y20_0_5) ≤ (n5) by omega) (show 0 ≤ (0) from q_1) (fun σ30 D30ₚ N30ₚ F30ₚ A30ₚ c30 s30 Hₚ Oₚ hD30 hN30 hS30 hA30 pm30_2 m30_2 em30_2 y30_1_1 ey30_1_1 y30_1_2 ey30_1_2 w30_2 ew30_2 pz30_0 pz30_1 => ⟨rfl, ?_⟩))
      refine v_backMc (c := c_41) (s := s_41) H oz_D1cls_22 oz_D1cls_32 Hₚ Oₚ hD30 oz_D1cls_23 (fun D30 N30 F30 A30 H Oₚ eD30 eN30 eF30 eA30 => ?_)
      have O := OUT_trans O Oₚ
      -- Tokens.packLiterals
      have cF30 : SF oz_D1clsl_7 F F30 := SF_trans (cF_41) (SF_gluc (ι := oz_D1clsl_12) oz_D1cls_32 hS30 eF30 (by decide +kernel)) (any_sub (lₚ := [(1, 0), (1, 1), (1, 2)]) (by decide +kernel))
      have mF30 := SFm_of cF30 oz_D1cls_27
      have cA30 : SA oz_D1clsl_8 A A30 := SA_trans (cA_41) (SA_gluc (ι := oz_D1clsl_12) oz_D1cls_32 hA30 eA30 (by decide +kernel)) (any_subA (lₚ := [2]) (by decide +kernel))
      have mA30 := SAm_of cA30 oz_D1cls_28
      have cD30 : SD oz_D1clsl_9 D D30 := SD_trans (cD_41) (SD_gluc (ι := oz_D1clsl_12) oz_D1cls_32 hD30 eD30 (by decide +kernel)) (any_subA (lₚ := [2]) (by decide +kernel))
      have mD30 := SDm_of cD30 oz_D1cls_29
      have cN30 : SD oz_D1clsl_9 N N30 := SD_trans (cN_41) (SD_gluc (ι := oz_D1clsl_12) oz_D1cls_32 hN30 eN30 (by decide +kernel)) (any_subA (lₚ := [2]) (by decide +kernel))
      have mN30 := SDm_of cN30 oz_D1cls_29
      have pf30_1_0 : F30 1 0 = (D30 2 : Int) := (eF30 1 0).trans (pm30_2.trans (congrArg (fun q : Nat => (q : Int)) (eD30 2).symm))
      have pf30_3_1 : F30 3 1 = (D30 8 : Int) := ((show F30 3 1 = F_41 3 1 from (eF30 3 1).trans (hS30 3 1 rfl))).trans ((pf_41_3_1).trans (congrArg (fun q : Nat => (q : Int)) ((show D30 8 = D_41 8 from (eD30 8))).symm))
      have pf30_3_2 : F30 3 2 = (D30 9 : Int) := ((show F30 3 2 = F_41 3 2 from (eF30 3 2).trans (hS30 3 2 rfl))).trans ((pf_41_3_2).trans (congrArg (fun q : Nat => (q : Int)) ((show D30 9 = D_41 9 from (eD30 9))).symm))
      have pf30_3_3 : F30 3 3 = (D30 10 : Int) := ((show F30 3 3 = F_41 3 3 from (eF30 3 3).trans (hS30 3 3 rfl))).trans ((pf_41_3_3).trans (congrArg (fun q : Nat => (q : Int)) ((show D30 10 = D_41 10 from (eD30 10))).symm))
      have pf30_3_8 : F30 3 8 = (D30 6 : Int) := ((show F30 3 8 = F_41 3 8 from (eF30 3 8).trans (hS30 3 8 rfl))).trans ((pf_41_3_8).trans (congrArg (fun q : Nat => (q : Int)) ((show D30 6 = D_41 6 from (eD30 6))).symm))
      have r31 : (0 : Int) ≤ m30_2 ∧ m30_2 ≤ 1000000 := nleE (H.nle 2 (ltn len_V215_Row_oz_D1cls rfl)) (show (N30 2 : Int) = m30_2 from (congrArg (fun q : Nat => (q : Int)) (eN30 2)).trans em30_2)
      have r32 : (-2147483648 : Int) ≤ y30_1_1 ∧ y30_1_1 ≤ 2147483647 := rngE (show (-2147483648 : Int) ≤ F30 1 1 ∧ F30 1 1 ≤ 2147483647 from H.krg 1 1 (ltn len_V215_Row_oz_D1cls rfl)) (show F30 1 1 = y30_1_1 from ((eF30 1 1).trans ey30_1_1))
      have r33 : (0 : Int) ≤ y30_1_2 ∧ y30_1_2 ≤ 1 := rngE (show (0 : Int) ≤ F30 1 2 ∧ F30 1 2 ≤ 1 from H.krg 1 2 (ltn len_V215_Row_oz_D1cls rfl)) (show F30 1 2 = y30_1_2 from ((eF30 1 2).trans ey30_1_2))
      have hBd : ∀ i, (-128 : Int) ≤ (w5) i ∧ (w5) i ≤ 127 := fun i => by have h1 : (-128 : Int) ≤ A30 5 i ∧ A30 5 i ≤ 127 := H.arg 5 i (by decide) rfl; rw [show A30 5 = w5 from (funext (mA30 5 rfl)).trans (ew5)] at h1; exact h1
      have : PKB ((u3_9)) ((a2)) (sc ((w5)) 0 ((u4_1))) ((u1_2)) ((w2)) ((u1_1)) ((y30_1_2)) ((w30_2)) ((y30_1_1)) := ⟨_, TOB_of2 (BYI_s hBd) (by omega) (by omega) hgo (by omega) (by omega) (by omega) (by omega) (by omega), RTO_e j41_q (by rw [sqd_e (by omega), tokE_nil (by omega)]; exact pz30_1)⟩
      exact w_ret rfl (k _ _ _ _ _ _ _ H O (cD30) (cN30) (cF30) (cA30) (pf30_1_0) (pf30_3_8) (pf30_3_1) (pf30_3_2) (pf30_3_3) (m30_2) ((congrArg (fun q : Nat => (q : Int)) (eN30 2)).trans em30_2) (m15_3) ((congrArg (fun q : Nat => (q : Int)) (show N30 6 = N_41 6 from (eN30 6))).trans ((congrArg (fun q : Nat => (q : Int)) (hN_41 6 rfl)).trans ((congrArg (fun q : Nat => (q : Int)) (show N20 6 = N15 6 from (eN20 6).trans (hN20 3 rfl))).trans ((congrArg (fun q : Nat => (q : Int)) (eN15 6)).trans em15_3)))) (m20_4) ((congrArg (fun q : Nat => (q : Int)) (show N30 8 = N_41 8 from (eN30 8))).trans ((congrArg (fun q : Nat => (q : Int)) (hN_41 8 rfl)).trans ((congrArg (fun q : Nat => (q : Int)) (eN20 8)).trans em20_4))) (m20_5) ((congrArg (fun q : Nat => (q : Int)) (show N30 9 = N_41 9 from (eN30 9))).trans ((congrArg (fun q : Nat => (q : Int)) (hN_41 9 rfl)).trans ((congrArg (fun q : Nat => (q : Int)) (eN20 9)).trans em20_5))) (m20_6) ((congrArg (fun q : Nat => (q : Int)) (show N30 10 = N_41 10 from (eN30 10))).trans ((congrArg (fun q : Nat => (q : Int)) (hN_41 10 rfl)).trans ((congrArg (fun q : Nat => (q : Int)) (eN20 10)).trans em20_6))) (y30_1_1) (((eF30 1 1).trans ey30_1_1)) (y30_1_2) (((eF30 1 2).trans ey30_1_2)) (y15_0_6) ((((((show F30 3 6 = F_41 3 6 from (eF30 3 6).trans (hS30 3 6 rfl))).trans (hS_41 3 6 rfl)).trans ((show F20 3 6 = F15 3 6 from (eF20 3 6).trans (hS20 0 6 rfl)))).trans ((eF15 3 6).trans ey15_0_6))) (w30_2) ((eA30 2).trans ew30_2) (w15_3) (((show A30 6 = A_41 6 from (eA30 6))).trans ((funext (hA_41 6 rfl)).trans (((show A20 6 = A15 6 from (eA20 6).trans (funext (hA20 3 rfl)))).trans ((eA15 6).trans ew15_3)))) (w15_4) (((show A30 7 = A_41 7 from (eA30 7))).trans ((funext (hA_41 7 rfl)).trans (((show A20 7 = A15 7 from (eA20 7))).trans ((eA15 7).trans ew15_4)))) (show 0 ≤ (y30_1_1) ∧ (y30_1_1) ≤ (m30_2) ∧ (m30_2) ≤ 65536 from pz30_0) (show 0 ≤ (y15_0_6) ∧ (u3_6) ≤ (y15_0_6) ∧ (y15_0_6) ≤ (m15_3) ∧ (m15_3) ≤ 16384 from q_3078 h9 pz15_0) (show (m20_4) = (m20_5) ∧ (m20_6) = (m20_5) ∧ (m20_5) ≤ 65536 ∧ ((m20_5) = 0 ∨ 64 ≤ (m20_5)) ∧ lgq ((m20_5)) = 0 from pz20_0) (pz15_3) (pz15_4) (show (y15_0_6) = (u3_6) ∨ (y15_0_6) + 4 ≤ (u4_1) + 1 by omega) (show PKB ((u3_9)) (a2) (sc ((w5)) 0 ((u4_1))) ((u1_2)) ((w2)) ((u1_1)) ((y30_1_2)) ((w30_2)) ((y30_1_1)) by assumption))
    · have hfp := FDI_part (i := (x41_5)) hfd (by omega) (by omega) (by omega)
      have hfj := hfd.1 ((x41_5)) (by omega) (by omega)
      refine Ew_of (pcₚ := 54) (fun _ => x_aload_n rfl l41_0) ?_
      refine v_g H (o := 0) (v := .ref (D_41 3)) rfl rfl rfl rfl rfl (vrf ((mF_41 0 2 rfl).trans ((pf3).trans (congrArg (fun q : Nat => (q : Int)) (mD_41 3 rfl).symm)))) ?_
      refine v_g H (o := 3) (v := .ref (D_41 8)) rfl rfl rfl rfl rfl (vrf (pf_41_3_1)) ?_
      refine Ew_of (pcₚ := 62) (fun _ => x_iload rfl l41_5) ?_
      refine v_lI H (o := 8) rfl rfl rfl rfl (n := m20_4) ((congrArg (fun q : Nat => (q : Int)) (hN_41 8 rfl)).trans ((congrArg (fun q : Nat => (q : Int)) (eN20 8)).trans em20_4)) (show 0 ≤ x41_5 ∧ x41_5 < m20_4 from q_3079 b29 j41_2 pz20_0 pz20_1) (fun v34 ev34 qv34 => ?_)
      have ev34 : (w20_4) (x41_5) = v34 := (congrFun ((funext (hA_41 8 rfl)).trans ((eA20 8).trans ew20_4)) (x41_5)).symm.trans ev34
      refine Ew_of (pcₚ := 65) (fun _ => x_istore rfl) ?_
      have hl6 := ev34
      refine Ew_of (pcₚ := 66) (fun _ => x_aload_n rfl (rk_o (l41_0) rfl rfl)) ?_
      refine v_g H (o := 0) (v := .ref (D_41 3)) rfl rfl rfl rfl rfl (vrf ((mF_41 0 2 rfl).trans ((pf3).trans (congrArg (fun q : Nat => (q : Int)) (mD_41 3 rfl).symm)))) ?_
      refine v_g H (o := 3) (v := .ref (D_41 9)) rfl rfl rfl rfl rfl (vrf (pf_41_3_2)) ?_
      refine Ew_of (pcₚ := 74) (fun _ => x_iload rfl (rk_o (l41_5) rfl rfl)) ?_
      refine v_lI H (o := 9) rfl rfl rfl rfl (n := m20_5) ((congrArg (fun q : Nat => (q : Int)) (hN_41 9 rfl)).trans ((congrArg (fun q : Nat => (q : Int)) (eN20 9)).trans em20_5)) (show 0 ≤ x41_5 ∧ x41_5 < m20_5 from q_3080 b29 j41_2 pz20_1) (fun v35 ev35 qv35 => ?_)
      have ev35 : (w20_5) (x41_5) = v35 := (congrFun ((funext (hA_41 9 rfl)).trans ((eA20 9).trans ew20_5)) (x41_5)).symm.trans ev35
      have hlv := ev35
      refine Ew_of (pcₚ := 76) (fun _ => x_iconst rfl) ?_
      refine w_isub rfl ?_
      refine Ew_of (pcₚ := 79) (fun _ => x_istore rfl) ?_
      refine Ew_of (pcₚ := 80) (fun _ => x_aload_n rfl (rk_o (rk_o (l41_0) rfl rfl) rfl rfl)) ?_
      refine Ew_of (pcₚ := 81) (fun _ => x_aload_n rfl (rk_o (rk_o (l41_1) rfl rfl) rfl rfl)) ?_
      refine Ew_of (pcₚ := 83) (fun _ => x_iload rfl (rk_o (rk_o (l41_4) rfl rfl) rfl rfl)) ?_
      refine Ew_of (pcₚ := 85) (fun _ => x_iload rfl (rk_o (rk_s) rfl rfl)) ?_
      refine Ew_of (pcₚ := 87) (fun _ => x_iload rfl rk_s) ?_
      refine v_inv H (o := 0) rfl rfl rfl rfl rfl rfl (by rfl) (C216_Row (D := puc 176197141529088 D_41) (N := puc 176197141529088 N_41) (HW_subc H oz_D1cls_22 oz_D1cls_32) (pm41_2) ((mF_41 0 2 rfl).trans ((pf3).trans (congrArg (fun q : Nat => (q : Int)) (mD_41 3 rfl).symm))) ((mF_41 3 0 rfl).trans ((pf4).trans (congrArg (fun q : Nat => (q : Int)) (mD_41 4 rfl).symm))) ((mF_41 4 0 rfl).trans ((pf5).trans (congrArg (fun q : Nat => (q : Int)) (mD_41 5 rfl).symm))) (m41_2) (em41_2) (n5) ((congrArg (fun q : Nat => (q : Int)) (mN_41 5 rfl)).trans (en5)) (y41_1_1) ((ey41_1_1)) (y41_1_2) ((ey41_1_2)) (u4_1) (((mF_41 4 1 rfl).trans (eu4_1))) (w41_2) (ew41_2) (w5) ((funext (mA_41 5 rfl)).trans (ew5)) (show inr (x41_4) from j41_0) (show inr (v34) from qv34) (show inr ((v35 - 4)) by omega) (show 0 ≤ (y41_1_1) ∧ (y41_1_1) ≤ (m41_2) ∧ (m41_2) ≤ 65536 from j41_4) (show 0 ≤ (u4_1) ∧ (u4_1) ≤ (n5) ∧ (n5) ≤ 65536 from q_3076 h2) (show 0 ≤ (x41_4) ∧ 0 ≤ (v34) ∧ (x41_4) + (v34) ≤ (n5) by omega) (show 0 ≤ ((v35 - 4)) by omega) (fun σ36 D36ₚ N36ₚ F36ₚ A36ₚ c36 s36 Hₚ Oₚ hD36 hN36 hS36 hA36 pm36_2 m36_2 em36_2 y36_1_1 ey36_1_1 y36_1_2 ey36_1_2 w36_2 ew36_2 pz36_0 pz36_1 => ⟨rfl, ?_⟩))
      refine v_backMc (c := c_41) (s := s_41) H oz_D1cls_22 oz_D1cls_32 Hₚ Oₚ hD36 oz_D1cls_23 (fun D36 N36 F36 A36 H Oₚ eD36 eN36 eF36 eA36 => ?_)
      have O := OUT_trans O Oₚ
      -- Tokens.packLiterals
      have cF36 : SF oz_D1clsl_7 F F36 := SF_trans (cF_41) (SF_gluc (ι := oz_D1clsl_12) oz_D1cls_32 hS36 eF36 (by decide +kernel)) (any_sub (lₚ := [(1, 0), (1, 1), (1, 2)]) (by decide +kernel))
      have mF36 := SFm_of cF36 oz_D1cls_27
      have cA36 : SA oz_D1clsl_8 A A36 := SA_trans (cA_41) (SA_gluc (ι := oz_D1clsl_12) oz_D1cls_32 hA36 eA36 (by decide +kernel)) (any_subA (lₚ := [2]) (by decide +kernel))
      have mA36 := SAm_of cA36 oz_D1cls_28
      have cD36 : SD oz_D1clsl_9 D D36 := SD_trans (cD_41) (SD_gluc (ι := oz_D1clsl_12) oz_D1cls_32 hD36 eD36 (by decide +kernel)) (any_subA (lₚ := [2]) (by decide +kernel))
      have mD36 := SDm_of cD36 oz_D1cls_29
      have cN36 : SD oz_D1clsl_9 N N36 := SD_trans (cN_41) (SD_gluc (ι := oz_D1clsl_12) oz_D1cls_32 hN36 eN36 (by decide +kernel)) (any_subA (lₚ := [2]) (by decide +kernel))
      have mN36 := SDm_of cN36 oz_D1cls_29
      have pf36_1_0 : F36 1 0 = (D36 2 : Int) := (eF36 1 0).trans (pm36_2.trans (congrArg (fun q : Nat => (q : Int)) (eD36 2).symm))
      have pf36_3_1 : F36 3 1 = (D36 8 : Int) := ((show F36 3 1 = F_41 3 1 from (eF36 3 1).trans (hS36 3 1 rfl))).trans ((pf_41_3_1).trans (congrArg (fun q : Nat => (q : Int)) ((show D36 8 = D_41 8 from (eD36 8))).symm))
      have pf36_3_2 : F36 3 2 = (D36 9 : Int) := ((show F36 3 2 = F_41 3 2 from (eF36 3 2).trans (hS36 3 2 rfl))).trans ((pf_41_3_2).trans (congrArg (fun q : Nat => (q : Int)) ((show D36 9 = D_41 9 from (eD36 9))).symm))
      have pf36_3_3 : F36 3 3 = (D36 10 : Int) := ((show F36 3 3 = F_41 3 3 from (eF36 3 3).trans (hS36 3 3 rfl))).trans ((pf_41_3_3).trans (congrArg (fun q : Nat => (q : Int)) ((show D36 10 = D_41 10 from (eD36 10))).symm))
      have pf36_3_8 : F36 3 8 = (D36 6 : Int) := ((show F36 3 8 = F_41 3 8 from (eF36 3 8).trans (hS36 3 8 rfl))).trans ((pf_41_3_8).trans (congrArg (fun q : Nat => (q : Int)) ((show D36 6 = D_41 6 from (eD36 6))).symm))
      have r37 : (0 : Int) ≤ m36_2 ∧ m36_2 ≤ 1000000 := nleE (H.nle 2 (ltn len_V215_Row_oz_D1cls rfl)) (show (N36 2 : Int) = m36_2 from (congrArg (fun q : Nat => (q : Int)) (eN36 2)).trans em36_2)
      have r38 : (-2147483648 : Int) ≤ y36_1_1 ∧ y36_1_1 ≤ 2147483647 := rngE (show (-2147483648 : Int) ≤ F36 1 1 ∧ F36 1 1 ≤ 2147483647 from H.krg 1 1 (ltn len_V215_Row_oz_D1cls rfl)) (show F36 1 1 = y36_1_1 from ((eF36 1 1).trans ey36_1_1))
      have r39 : (0 : Int) ≤ y36_1_2 ∧ y36_1_2 ≤ 1 := rngE (show (0 : Int) ≤ F36 1 2 ∧ F36 1 2 ≤ 1 from H.krg 1 2 (ltn len_V215_Row_oz_D1cls rfl)) (show F36 1 2 = y36_1_2 from ((eF36 1 2).trans ey36_1_2))
      have hp1 := pz36_1
      refine Ew_of (pcₚ := 91) (fun _ => x_aload_n rfl (rk_o (rk_o (l41_1) rfl rfl) rfl rfl)) ?_
      refine Ew_of (pcₚ := 92) (fun _ => x_aload_n rfl (rk_o (rk_o (l41_0) rfl rfl) rfl rfl)) ?_
      refine Ew_stk (show ([.ref (D_41 0), .ref (D_41 1)] : List Value) = [.ref (D36 0), .ref (D36 1)] by rw [show D36 0 = D_41 0 from ((show D36 0 = D_41 0 from (eD36 0).trans (hD36 0 rfl))), show D36 1 = D_41 1 from ((show D36 1 = D_41 1 from (eD36 1).trans (hD36 1 rfl)))]) ?_
      refine v_g H (o := 0) (v := .ref (D36 3)) rfl rfl rfl rfl rfl (vrf ((mF36 0 2 rfl).trans ((pf3).trans (congrArg (fun q : Nat => (q : Int)) (mD36 3 rfl).symm)))) ?_
      refine v_g H (o := 3) (v := .ref (D36 10)) rfl rfl rfl rfl rfl (vrf (pf36_3_3)) ?_
      refine Ew_of (pcₚ := 100) (fun _ => x_iload rfl (rk_o (rk_o (l41_5) rfl rfl) rfl rfl)) ?_
      refine v_lI H (o := 10) rfl rfl rfl rfl (n := m20_6) ((congrArg (fun q : Nat => (q : Int)) (show N36 10 = N_41 10 from (eN36 10))).trans ((congrArg (fun q : Nat => (q : Int)) (hN_41 10 rfl)).trans ((congrArg (fun q : Nat => (q : Int)) (eN20 10)).trans em20_6))) (show 0 ≤ x41_5 ∧ x41_5 < m20_6 from q_3081 b29 j41_2 pz20_0 pz20_1) (fun v40 ev40 qv40 => ?_)
      have ev40 : (w20_6) (x41_5) = v40 := (congrFun (((show A36 10 = A_41 10 from (eA36 10))).trans ((funext (hA_41 10 rfl)).trans ((eA20 10).trans ew20_6))) (x41_5)).symm.trans ev40
      have hdv := ev40
      refine w_i2l rfl (show inr (v40) from qv40) ?_
      refine Ew_of (pcₚ := 103) (fun _ => x_iconst rfl) ?_
      refine v_inv H (o := 1) rfl rfl rfl rfl rfl rfl (by rfl) (C160 (D := puc 1025 D36) (N := puc 1025 N36) (HW_subc H oz_D1cls_24 oz_D1cls_15) (pf36_1_0) (m36_2) ((congrArg (fun q : Nat => (q : Int)) (eN36 2)).trans em36_2) (y36_1_1) (((eF36 1 1).trans ey36_1_1)) (y36_1_2) (((eF36 1 2).trans ey36_1_2)) (w36_2) ((eA36 2).trans ew36_2) (show inrJ (v40) from q_2579 qv40) (show inr (2) from q_122) (show 0 ≤ (y36_1_1) ∧ (y36_1_1) ≤ (m36_2) ∧ (m36_2) ≤ 65536 from pz36_0) (show 0 ≤ (2) ∧ (2) ≤ 8 from q_2748) (fun σ41 D41ₚ N41ₚ F41ₚ A41ₚ c41 s41 Hₚ Oₚ hD41 hN41 hS41 hA41 pm41_1 m41_1 em41_1 y41_0_1 ey41_0_1 y41_0_2 ey41_0_2 w41_1 ew41_1 pz41_0 pz41_1 pz41_2 => ⟨rfl, ?_⟩))
      refine v_backMc (c := (c_41 + c36)) (s := (s_41 + s36)) H oz_D1cls_24 oz_D1cls_15 Hₚ Oₚ hD41 oz_D1cls_25 (fun D41 N41 F41 A41 H Oₚ eD41 eN41 eF41 eA41 => ?_)
      have O := OUT_trans O Oₚ
      -- Row.addNumber
      have cF41 : SF oz_D1clsl_7 F F41 := SF_trans (cF36) (SF_gluc (ι := oz_D1clsl_5) oz_D1cls_15 hS41 eF41 (by decide +kernel)) (any_sub (lₚ := [(1, 0), (1, 1), (1, 2)]) (by decide +kernel))
      have mF41 := SFm_of cF41 oz_D1cls_27
      have cA41 : SA oz_D1clsl_8 A A41 := SA_trans (cA36) (SA_gluc (ι := oz_D1clsl_5) oz_D1cls_15 hA41 eA41 (by decide +kernel)) (any_subA (lₚ := [2]) (by decide +kernel))
      have mA41 := SAm_of cA41 oz_D1cls_28
      have cD41 : SD oz_D1clsl_9 D D41 := SD_trans (cD36) (SD_gluc (ι := oz_D1clsl_5) oz_D1cls_15 hD41 eD41 (by decide +kernel)) (any_subA (lₚ := [2]) (by decide +kernel))
      have mD41 := SDm_of cD41 oz_D1cls_29
      have cN41 : SD oz_D1clsl_9 N N41 := SD_trans (cN36) (SD_gluc (ι := oz_D1clsl_5) oz_D1cls_15 hN41 eN41 (by decide +kernel)) (any_subA (lₚ := [2]) (by decide +kernel))
      have mN41 := SDm_of cN41 oz_D1cls_29
      have pf41_1_0 : F41 1 0 = (D41 2 : Int) := (eF41 1 0).trans (pm41_1.trans (congrArg (fun q : Nat => (q : Int)) (eD41 2).symm))
      have pf41_3_1 : F41 3 1 = (D41 8 : Int) := ((show F41 3 1 = F36 3 1 from (eF41 3 1))).trans ((pf36_3_1).trans (congrArg (fun q : Nat => (q : Int)) ((show D41 8 = D36 8 from (eD41 8))).symm))
      have pf41_3_2 : F41 3 2 = (D41 9 : Int) := ((show F41 3 2 = F36 3 2 from (eF41 3 2))).trans ((pf36_3_2).trans (congrArg (fun q : Nat => (q : Int)) ((show D41 9 = D36 9 from (eD41 9))).symm))
      have pf41_3_3 : F41 3 3 = (D41 10 : Int) := ((show F41 3 3 = F36 3 3 from (eF41 3 3))).trans ((pf36_3_3).trans (congrArg (fun q : Nat => (q : Int)) ((show D41 10 = D36 10 from (eD41 10))).symm))
      have pf41_3_8 : F41 3 8 = (D41 6 : Int) := ((show F41 3 8 = F36 3 8 from (eF41 3 8))).trans ((pf36_3_8).trans (congrArg (fun q : Nat => (q : Int)) ((show D41 6 = D36 6 from (eD41 6))).symm))
      have r42 : (0 : Int) ≤ m41_1 ∧ m41_1 ≤ 1000000 := nleE (H.nle 2 (ltn len_V215_Row_oz_D1cls rfl)) (show (N41 2 : Int) = m41_1 from (congrArg (fun q : Nat => (q : Int)) (eN41 2)).trans em41_1)
      have r43 : (-2147483648 : Int) ≤ y41_0_1 ∧ y41_0_1 ≤ 2147483647 := rngE (show (-2147483648 : Int) ≤ F41 1 1 ∧ F41 1 1 ≤ 2147483647 from H.krg 1 1 (ltn len_V215_Row_oz_D1cls rfl)) (show F41 1 1 = y41_0_1 from ((eF41 1 1).trans ey41_0_1))
      have r44 : (0 : Int) ≤ y41_0_2 ∧ y41_0_2 ≤ 1 := rngE (show (0 : Int) ≤ F41 1 2 ∧ F41 1 2 ≤ 1 from H.krg 1 2 (ltn len_V215_Row_oz_D1cls rfl)) (show F41 1 2 = y41_0_2 from ((eF41 1 2).trans ey41_0_2))
      have hp2 := pz41_2
      refine Ew_of (pcₚ := 107) (fun _ => x_aload_n rfl (rk_o (rk_o (l41_1) rfl rfl) rfl rfl)) ?_
      refine Ew_of (pcₚ := 109) (fun _ => x_iload rfl rk_s) ?_
      refine Ew_stk (congrArg (fun qz : Nat => ([I ((v35 - 4)), .ref qz] : List Value)) (show D41 1 = D_41 1 from (((show D41 1 = D36 1 from (eD41 1).trans (hD41 0 rfl))).trans ((show D36 1 = D_41 1 from (eD36 1).trans (hD36 1 rfl))))).symm) ?_
      refine w_stat24 rfl rfl (by rfl) (C217_Row (D := puc 1025 D41) (N := puc 1025 N41) (HW_subc H oz_D1cls_26 oz_D1cls_15) (pf41_1_0) (m41_1) ((congrArg (fun q : Nat => (q : Int)) (eN41 2)).trans em41_1) (y41_0_1) (((eF41 1 1).trans ey41_0_1)) (y41_0_2) (((eF41 1 2).trans ey41_0_2)) (w41_1) ((eA41 2).trans ew41_1) (show inr ((v35 - 4)) by omega) (show 0 ≤ (y41_0_1) ∧ (y41_0_1) ≤ (m41_1) ∧ (m41_1) ≤ 65536 from pz41_0) (show 0 ≤ ((v35 - 4)) by omega) (fun σ45 D45ₚ N45ₚ F45ₚ A45ₚ c45 s45 Hₚ Oₚ hD45 hN45 hS45 hA45 pm45_1 m45_1 em45_1 y45_0_1 ey45_0_1 y45_0_2 ey45_0_2 w45_1 ew45_1 pz45_0 pz45_1 => ⟨rfl, ?_⟩))
      refine v_backMc (c := ((c_41 + c36) + c41)) (s := ((s_41 + s36) + s41)) H oz_D1cls_26 oz_D1cls_15 Hₚ Oₚ hD45 oz_D1cls_25 (fun D45 N45 F45 A45 H Oₚ eD45 eN45 eF45 eA45 => ?_)
      have O := OUT_trans O Oₚ
      -- Tokens.packRest
      have cF45 : SF oz_D1clsl_7 F F45 := SF_trans (cF41) (SF_gluc (ι := oz_D1clsl_5) oz_D1cls_15 hS45 eF45 (by decide +kernel)) (any_sub (lₚ := [(1, 0), (1, 1), (1, 2)]) (by decide +kernel))
      have mF45 := SFm_of cF45 oz_D1cls_27
      have cA45 : SA oz_D1clsl_8 A A45 := SA_trans (cA41) (SA_gluc (ι := oz_D1clsl_5) oz_D1cls_15 hA45 eA45 (by decide +kernel)) (any_subA (lₚ := [2]) (by decide +kernel))
      have mA45 := SAm_of cA45 oz_D1cls_28
      have cD45 : SD oz_D1clsl_9 D D45 := SD_trans (cD41) (SD_gluc (ι := oz_D1clsl_5) oz_D1cls_15 hD45 eD45 (by decide +kernel)) (any_subA (lₚ := [2]) (by decide +kernel))
      have mD45 := SDm_of cD45 oz_D1cls_29
      have cN45 : SD oz_D1clsl_9 N N45 := SD_trans (cN41) (SD_gluc (ι := oz_D1clsl_5) oz_D1cls_15 hN45 eN45 (by decide +kernel)) (any_subA (lₚ := [2]) (by decide +kernel))
      have mN45 := SDm_of cN45 oz_D1cls_29
      have pf45_1_0 : F45 1 0 = (D45 2 : Int) := (eF45 1 0).trans (pm45_1.trans (congrArg (fun q : Nat => (q : Int)) (eD45 2).symm))
      have pf45_3_1 : F45 3 1 = (D45 8 : Int) := ((show F45 3 1 = F41 3 1 from (eF45 3 1))).trans ((pf41_3_1).trans (congrArg (fun q : Nat => (q : Int)) ((show D45 8 = D41 8 from (eD45 8))).symm))
      have pf45_3_2 : F45 3 2 = (D45 9 : Int) := ((show F45 3 2 = F41 3 2 from (eF45 3 2))).trans ((pf41_3_2).trans (congrArg (fun q : Nat => (q : Int)) ((show D45 9 = D41 9 from (eD45 9))).symm))
      have pf45_3_3 : F45 3 3 = (D45 10 : Int) := ((show F45 3 3 = F41 3 3 from (eF45 3 3))).trans ((pf41_3_3).trans (congrArg (fun q : Nat => (q : Int)) ((show D45 10 = D41 10 from (eD45 10))).symm))
      have pf45_3_8 : F45 3 8 = (D45 6 : Int) := ((show F45 3 8 = F41 3 8 from (eF45 3 8))).trans ((pf41_3_8).trans (congrArg (fun q : Nat => (q : Int)) ((show D45 6 = D41 6 from (eD45 6))).symm))
      have r46 : (0 : Int) ≤ m45_1 ∧ m45_1 ≤ 1000000 := nleE (H.nle 2 (ltn len_V215_Row_oz_D1cls rfl)) (show (N45 2 : Int) = m45_1 from (congrArg (fun q : Nat => (q : Int)) (eN45 2)).trans em45_1)
      have r47 : (-2147483648 : Int) ≤ y45_0_1 ∧ y45_0_1 ≤ 2147483647 := rngE (show (-2147483648 : Int) ≤ F45 1 1 ∧ F45 1 1 ≤ 2147483647 from H.krg 1 1 (ltn len_V215_Row_oz_D1cls rfl)) (show F45 1 1 = y45_0_1 from ((eF45 1 1).trans ey45_0_1))
      have r48 : (0 : Int) ≤ y45_0_2 ∧ y45_0_2 ≤ 1 := rngE (show (0 : Int) ≤ F45 1 2 ∧ F45 1 2 ≤ 1 from H.krg 1 2 (ltn len_V215_Row_oz_D1cls rfl)) (show F45 1 2 = y45_0_2 from ((eF45 1 2).trans ey45_0_2))
      have hp3 := pz45_1
      refine Ew_of (pcₚ := 114) (fun _ => x_iload rfl (rk_o (rk_o (l41_4) rfl rfl) rfl rfl)) ?_
      refine Ew_of (pcₚ := 116) (fun _ => x_iload rfl (rk_o (rk_s) rfl rfl)) ?_
      refine Ew_of (pcₚ := 117) (fun _ => x_aload_n rfl (rk_o (rk_o (l41_0) rfl rfl) rfl rfl)) ?_
      refine Ew_stk (congrArg (fun qz : Nat => ([.ref qz, I (v34), I (x41_4)] : List Value)) (show D45 0 = D_41 0 from ((((show D45 0 = D41 0 from (eD45 0))).trans ((show D41 0 = D36 0 from (eD41 0)))).trans ((show D36 0 = D_41 0 from (eD36 0).trans (hD36 0 rfl))))).symm) ?_
      refine v_g H (o := 0) (v := .ref (D45 3)) rfl rfl rfl rfl rfl (vrf ((mF45 0 2 rfl).trans ((pf3).trans (congrArg (fun q : Nat => (q : Int)) (mD45 3 rfl).symm)))) ?_
      refine v_g H (o := 3) (v := .ref (D45 9)) rfl rfl rfl rfl rfl (vrf (pf45_3_2)) ?_
      refine Ew_of (pcₚ := 125) (fun _ => x_iload rfl (rk_o (rk_o (l41_5) rfl rfl) rfl rfl)) ?_
      refine v_lI H (o := 9) rfl rfl rfl rfl (n := m20_5) ((congrArg (fun q : Nat => (q : Int)) (show N45 9 = N41 9 from (eN45 9))).trans ((congrArg (fun q : Nat => (q : Int)) (show N41 9 = N36 9 from (eN41 9))).trans ((congrArg (fun q : Nat => (q : Int)) (show N36 9 = N_41 9 from (eN36 9))).trans ((congrArg (fun q : Nat => (q : Int)) (hN_41 9 rfl)).trans ((congrArg (fun q : Nat => (q : Int)) (eN20 9)).trans em20_5))))) (show 0 ≤ x41_5 ∧ x41_5 < m20_5 from q_3080 b29 j41_2 pz20_1) (fun v49 ev49 qv49 => ?_)
      have ev49 : (w20_5) (x41_5) = v49 := (congrFun (((show A45 9 = A41 9 from (eA45 9))).trans (((show A41 9 = A36 9 from (eA41 9))).trans (((show A36 9 = A_41 9 from (eA36 9))).trans ((funext (hA_41 9 rfl)).trans ((eA20 9).trans ew20_5))))) (x41_5)).symm.trans ev49
      have hlv2 := ev49
      refine w_iadd rfl ?_
      refine w_iadd rfl ?_
      refine Ew_of (pcₚ := 130) (fun _ => x_istore rfl) ?_
      refine Ew_of (pcₚ := 133) (fun _ => x_iinc (len := 3) rfl (rk_o (rk_o (rk_o (l41_5) rfl rfl) rfl rfl) rfl rfl)) ?_
      refine Ew_of (pcₚ := 41) (fun _ => x_goto rfl rfl) ?_
      have : RTO ((u1_2)) ((w2)) ((u1_1)) ((y45_0_2)) ((w45_1)) ((y45_0_1)) (tokE ((w5)) ((a2)) (sq ((w20_4)) ((w20_5)) ((w20_6)) ((y20_0_4))) ((y20_0_5))) (tokE ((w5)) (((x41_4 + (v34 + v49)))) (sqd ((w20_4)) ((w20_5)) ((w20_6)) (((x41_5 + 1))) ((y20_0_4))) ((y20_0_5))) := RTO_s j41_q (tok_step (by omega) (by omega) hl6 hlv hdv (by omega) (by omega) (by omega) (by omega) (by omega) (by omega)) (RAP_trans hp1 (RAP_trans hp2 hp3))
      exact ih41 _ (msE hm41 q_16 (q_17 b29)) _ _ _ _ _ _ _ _ ((x41_4 + (v34 + v49))) ((x41_5 + 1)) ((rk_o (rk_o (rk_o (rk_o (l41_0) rfl rfl) rfl rfl) rfl rfl) rfl rfl).trans (congrArg (fun q : Nat => some (Value.ref q)) (((((show D45 0 = D41 0 from (eD45 0))).trans ((show D41 0 = D36 0 from (eD41 0)))).trans ((show D36 0 = D_41 0 from (eD36 0).trans (hD36 0 rfl))))).symm)) ((rk_o (rk_o (rk_o (rk_o (l41_1) rfl rfl) rfl rfl) rfl rfl) rfl rfl).trans (congrArg (fun q : Nat => some (Value.ref q)) (((((show D45 1 = D41 1 from (eD45 1).trans (hD45 0 rfl))).trans ((show D41 1 = D36 1 from (eD41 1).trans (hD41 0 rfl)))).trans ((show D36 1 = D_41 1 from (eD36 1).trans (hD36 1 rfl))))).symm)) (rk_o (rk_s) rfl rfl) (rk_s) H O (SD_trans (SD_trans (SD_trans (hD_41) (SD_gluc (ι := oz_D1clsl_12) oz_D1cls_32 hD36 eD36 (by decide +kernel)) (any_subA (lₚ := [2]) (by decide +kernel))) (SD_gluc (ι := oz_D1clsl_5) oz_D1cls_15 hD41 eD41 (by decide +kernel)) (any_subA (lₚ := [2]) (by decide +kernel))) (SD_gluc (ι := oz_D1clsl_5) oz_D1cls_15 hD45 eD45 (by decide +kernel)) (any_subA (lₚ := [2]) (by decide +kernel))) (SD_trans (SD_trans (SD_trans (hN_41) (SD_gluc (ι := oz_D1clsl_12) oz_D1cls_32 hN36 eN36 (by decide +kernel)) (any_subA (lₚ := [2]) (by decide +kernel))) (SD_gluc (ι := oz_D1clsl_5) oz_D1cls_15 hN41 eN41 (by decide +kernel)) (any_subA (lₚ := [2]) (by decide +kernel))) (SD_gluc (ι := oz_D1clsl_5) oz_D1cls_15 hN45 eN45 (by decide +kernel)) (any_subA (lₚ := [2]) (by decide +kernel))) (SF_trans (SF_trans (SF_trans (hS_41) (SF_gluc (ι := oz_D1clsl_12) oz_D1cls_32 hS36 eF36 (by decide +kernel)) (any_sub (lₚ := [(1, 0), (1, 1), (1, 2)]) (by decide +kernel))) (SF_gluc (ι := oz_D1clsl_5) oz_D1cls_15 hS41 eF41 (by decide +kernel)) (any_sub (lₚ := [(1, 0), (1, 1), (1, 2)]) (by decide +kernel))) (SF_gluc (ι := oz_D1clsl_5) oz_D1cls_15 hS45 eF45 (by decide +kernel)) (any_sub (lₚ := [(1, 0), (1, 1), (1, 2)]) (by decide +kernel))) (SA_trans (SA_trans (SA_trans (hA_41) (SA_gluc (ι := oz_D1clsl_12) oz_D1cls_32 hA36 eA36 (by decide +kernel)) (any_subA (lₚ := [2]) (by decide +kernel))) (SA_gluc (ι := oz_D1clsl_5) oz_D1cls_15 hA41 eA41 (by decide +kernel)) (any_subA (lₚ := [2]) (by decide +kernel))) (SA_gluc (ι := oz_D1clsl_5) oz_D1cls_15 hA45 eA45 (by decide +kernel)) (any_subA (lₚ := [2]) (by decide +kernel))) (pf45_1_0) (m45_1) ((congrArg (fun q : Nat => (q : Int)) (eN45 2)).trans em45_1) (y45_0_1) (((eF45 1 1).trans ey45_0_1)) (y45_0_2) (((eF45 1 2).trans ey45_0_2)) (w45_1) ((eA45 2).trans ew45_1) (show inr ((x41_4 + (v34 + v49))) by omega) (show inr ((x41_5 + 1)) from q_3082 b29 j41_2 pz20_1 r22) (show (0) ≤ ((x41_5 + 1)) from q_14 j41_2) (show ((x41_5 + 1)) ≤ (0) ∨ ((x41_5 + 1)) ≤ ((y20_0_4)) from q_13 b29) (show 0 ≤ (y45_0_1) ∧ (y45_0_1) ≤ (m45_1) ∧ (m45_1) ≤ 65536 from pz45_0) (show ((x41_4 + (v34 + v49))) = (a2) + su (fun j => ((w20_4)) j + ((w20_5)) j) (((x41_5 + 1)) : Int).toNat by omega) (show RTO ((u1_2)) ((w2)) ((u1_1)) ((y45_0_2)) ((w45_1)) ((y45_0_1)) (tokE ((w5)) ((a2)) (sq ((w20_4)) ((w20_5)) ((w20_6)) ((y20_0_4))) ((y20_0_5))) (tokE ((w5)) (((x41_4 + (v34 + v49)))) (sqd ((w20_4)) ((w20_5)) ((w20_6)) (((x41_5 + 1))) ((y20_0_4))) ((y20_0_5))) by assumption) rfl
abbrev V214_Row_Row : vV := [(0, 11, [(4, 0), (4, 0), (4, 0), (4, 0), (4, 0), (0, 0), (4, 0), (0, 0), (0, 0), (0, 0), (0, 0), (0, 0), (0, 0)]), (0, 7, [(4, 0), (0, 0), (1, 0), (0, 0), (0, 0)]), (0, 7, [(4, 0), (0, 0), (1, 0), (0, 0), (0, 0)]), (1, 0, []), (1, 0, []), (0, 7, [(4, 0), (0, 0), (1, 0), (0, 0), (0, 0)]), (1, 0, []), (0, 5, [(4, 0), (4, 0), (4, 0), (4, 0), (0, 0), (0, 0), (0, 0), (4, 0), (4, 0), (0, 0), (0, 0), (0, 0), (0, 0), (0, 0), (0, 0), (0, 0), (0, 0), (0, 0), (0, 0)]), (0, 7, [(4, 0), (0, 0), (1, 0), (0, 0), (0, 0)]), (1, 0, []), (1, 1, []), (1, 1, []), (1, 1, []), (1, 1, []), (1, 1, []), (1, 1, [])]
theorem len_V214_Row_Row_oz_D1cls : (V214_Row_Row).length = 16 := by decide +kernel
theorem oz_D1cls_34 : vsub V214_Row_Row V158_Row [8, 5, 9, 6] = true := by decide +kernel
theorem oz_D1cls_35 : vmov V214_Row_Row [8, 5, 9, 6] [2] = true := by decide +kernel
theorem oz_D1cls_36 : vsub V214_Row_Row V161_Br [8, 4, 9] = true := by decide +kernel
theorem oz_D1cls_37 : vmov V214_Row_Row [8, 4, 9] [2] = true := by decide +kernel
theorem oz_D1cls_38 : vsub V214_Row_Row V121 [7, 11] = true := by decide +kernel
theorem oz_D1cls_39 : vmov V214_Row_Row [7, 11] [1] = true := by decide +kernel
theorem oz_D1cls_40 : vsub V214_Row_Row V215_Row [0, 1, 3, 7, 8, 9, 12, 11, 13, 14, 15] = true := by decide +kernel
theorem oz_D1cls_41 : vmov V214_Row_Row [0, 1, 3, 7, 8, 9, 12, 11, 13, 14, 15] [2, 6, 8, 9, 10] = true := by decide +kernel
def oz_D1clsl_13 : List (Nat × Nat) := [(1, 0), (1, 1), (1, 2), (7, 1), (7, 2), (7, 3), (7, 4), (7, 5), (7, 6), (7, 7), (7, 8), (7, 9), (7, 10), (7, 11), (7, 12), (7, 13), (7, 14), (7, 15), (7, 16), (7, 17), (7, 18), (8, 0), (8, 1), (8, 2), (8, 3), (8, 4)]
theorem oz_D1cls_42 : (oz_D1clsl_13).all (fun p => !tbz 3589568901079400391871035922059997056625456883158758201329768932132740204068864 (Nat.add (Nat.mul 32 p.1) p.2)) = true := by decide +kernel
def oz_D1clsl_14 : List Nat := [3, 9, 11, 12, 13, 14, 15]
theorem oz_D1cls_43 : (oz_D1clsl_14).all (fun p => !tbz 64008 p) = true := by decide +kernel
def oz_D1clsl_15 : List Nat := [8, 5, 9, 6]
theorem oz_D1cls_44 : okc oz_D1clsl_15 807668232 = true := by decide +kernel
def oz_D1clsl_16 : List Nat := [8, 4, 9]
theorem oz_D1cls_45 : okc oz_D1clsl_16 2361352 = true := by decide +kernel
def oz_D1clsl_17 : List Nat := [7, 11]
theorem oz_D1cls_46 : okc oz_D1clsl_17 5639 = true := by decide +kernel
def oz_D1clsl_18 : List Nat := [0, 1, 3, 7, 8, 9, 12, 11, 13, 14, 15]
theorem oz_D1cls_47 : okc oz_D1clsl_18 18603012004667773443327656448 = true := by decide +kernel

theorem C214_Row_Row {σE : rS} {D N : Nat → Nat} {F : hF} {A : hA} {d c s : Nat} {Q : wQ} (H : HW V214_Row_Row σE D N F A)  (pf3 : F 1 0 = (D 3 : Int)) (pf4 : F 2 0 = (D 4 : Int)) (pf5 : F 0 1 = (D 5 : Int)) (pf6 : F 5 0 = (D 6 : Int)) (pf7 : F 0 2 = (D 7 : Int)) (pf8 : F 7 0 = (D 8 : Int)) (pf9 : F 8 0 = (D 9 : Int)) (pf10 : F 0 0 = (D 10 : Int)) (pf11 : F 7 7 = (D 11 : Int)) (pf12 : F 7 8 = (D 12 : Int)) (pf13 : F 7 1 = (D 13 : Int)) (pf14 : F 7 2 = (D 14 : Int)) (pf15 : F 7 3 = (D 15 : Int)) (n3 : Int) (en3 : (N 3 : Int) = n3) (n4 : Int) (en4 : (N 4 : Int) = n4) (n6 : Int) (en6 : (N 6 : Int) = n6) (n9 : Int) (en9 : (N 9 : Int) = n9) (n10 : Int) (en10 : (N 10 : Int) = n10) (n11 : Int) (en11 : (N 11 : Int) = n11) (n12 : Int) (en12 : (N 12 : Int) = n12) (n13 : Int) (en13 : (N 13 : Int) = n13) (n14 : Int) (en14 : (N 14 : Int) = n14) (n15 : Int) (en15 : (N 15 : Int) = n15) (u1_1 : Int) (eu1_1 : F 1 1 = u1_1) (u1_2 : Int) (eu1_2 : F 1 2 = u1_2) (u2_1 : Int) (eu2_1 : F 2 1 = u2_1) (u5_1 : Int) (eu5_1 : F 5 1 = u5_1) (u8_1 : Int) (eu8_1 : F 8 1 = u8_1) (w3 : Int → Int) (ew3 : A 3 = w3) (w4 : Int → Int) (ew4 : A 4 = w4) (w6 : Int → Int) (ew6 : A 6 = w6) (w10 : Int → Int) (ew10 : A 10 = w10) (h0 : 0 ≤ (u1_1) ∧ (u1_1) ≤ (n3) ∧ (n3) ≤ 65536) (h1 : 0 ≤ (u2_1) ∧ (u2_1) ≤ (n4) ∧ (n4) ≤ 65536) (h2 : 0 ≤ (u5_1) ∧ (u5_1) ≤ (n6) ∧ (n6) ≤ 65536) (h3 : 0 ≤ (u8_1) ∧ (u8_1) ≤ (n9) ∧ (n9) ≤ 65536) (h4 : (n10) = 10) (h5 : (u5_1) + (u2_1) ≤ 16384) (h6 : (n11) = 0 ∨ (n11) = 2048) (h7 : (n12) ≤ 16384) (h8 : (n13) = (n14) ∧ (n15) = (n14) ∧ (n14) ≤ 65536 ∧ ((n14) = 0 ∨ 64 ≤ (n14)) ∧ lgq ((n14)) = 0) (k : ∀ (σ : rS) (Dₚ Nₚ : Nat → Nat) (Fₚ : hF) (Aₚ : hA) (cₚ sₚ : Nat), HW V214_Row_Row σ Dₚ Nₚ Fₚ Aₚ → OUT (V214_Row_Row).length D N σE c s Dₚ Nₚ σ cₚ sₚ → SD [3, 9, 11, 12, 13, 14, 15] D Dₚ → SD [3, 9, 11, 12, 13, 14, 15] N Nₚ → SF [(1, 0), (1, 1), (1, 2), (7, 1), (7, 2), (7, 3), (7, 4), (7, 5), (7, 6), (7, 7), (7, 8), (7, 9), (7, 10), (7, 11), (7, 12), (7, 13), (7, 14), (7, 15), (7, 16), (7, 17), (7, 18), (8, 0), (8, 1), (8, 2), (8, 3), (8, 4)] F Fₚ → SA [3, 9, 11, 12, 13, 14, 15] A Aₚ → Fₚ 1 0 = (Dₚ 3 : Int) → Fₚ 8 0 = (Dₚ 9 : Int) → Fₚ 7 7 = (Dₚ 11 : Int) → Fₚ 7 8 = (Dₚ 12 : Int) → Fₚ 7 1 = (Dₚ 13 : Int) → Fₚ 7 2 = (Dₚ 14 : Int) → Fₚ 7 3 = (Dₚ 15 : Int) → ∀ m3 : Int, (Nₚ 3 : Int) = m3 → ∀ m9 : Int, (Nₚ 9 : Int) = m9 → ∀ m11 : Int, (Nₚ 11 : Int) = m11 → ∀ m12 : Int, (Nₚ 12 : Int) = m12 → ∀ m13 : Int, (Nₚ 13 : Int) = m13 → ∀ m14 : Int, (Nₚ 14 : Int) = m14 → ∀ m15 : Int, (Nₚ 15 : Int) = m15 → ∀ y1_1 : Int, Fₚ 1 1 = y1_1 → ∀ y1_2 : Int, Fₚ 1 2 = y1_2 → ∀ y8_1 : Int, Fₚ 8 1 = y8_1 → ∀ v3 : Int → Int, Aₚ 3 = v3 → (0 ≤ (y1_1) ∧ (y1_1) ≤ (m3) ∧ (m3) ≤ 65536) → (0 ≤ (y8_1) ∧ (y8_1) ≤ (m9) ∧ (m9) ≤ 65536) → ((m11) = 0 ∨ (m11) = 2048) → ((m12) ≤ 16384) → ((m13) = (m14) ∧ (m15) = (m14) ∧ (m14) ≤ 65536 ∧ ((m14) = 0 ∨ 64 ≤ (m14)) ∧ lgq ((m14)) = 0) → (PKB (((w10)) 0) ((u5_1)) (sc ((w6)) 0 ((u5_1)) ++ sc ((w4)) 0 ((u2_1))) ((u1_2)) ((w3)) ((u1_1)) ((y1_2)) ((v3)) ((y1_1))) → Q none σ cₚ sₚ) : Ew 214 (d + 6) 0 (rargs 0 [.ref (D 0), .ref (D 1), .ref (D 2)]) [] σE c s Q := by
  have O := OUT_refl (n := (V214_Row_Row).length) (D := D) (N := N) (σ := σE) (c := c) (s := s)
  have HE := H
  have r1 : (-2147483648 : Int) ≤ u1_1 ∧ u1_1 ≤ 2147483647 := rngE (show (-2147483648 : Int) ≤ F 1 1 ∧ F 1 1 ≤ 2147483647 from H.krg 1 1 (ltn len_V214_Row_Row_oz_D1cls rfl)) (show F 1 1 = u1_1 from (eu1_1))
  have r2 : (0 : Int) ≤ u1_2 ∧ u1_2 ≤ 1 := rngE (show (0 : Int) ≤ F 1 2 ∧ F 1 2 ≤ 1 from H.krg 1 2 (ltn len_V214_Row_Row_oz_D1cls rfl)) (show F 1 2 = u1_2 from (eu1_2))
  have r3 : (-2147483648 : Int) ≤ u2_1 ∧ u2_1 ≤ 2147483647 := rngE (show (-2147483648 : Int) ≤ F 2 1 ∧ F 2 1 ≤ 2147483647 from H.krg 2 1 (ltn len_V214_Row_Row_oz_D1cls rfl)) (show F 2 1 = u2_1 from (eu2_1))
  have r4 : (-2147483648 : Int) ≤ u5_1 ∧ u5_1 ≤ 2147483647 := rngE (show (-2147483648 : Int) ≤ F 5 1 ∧ F 5 1 ≤ 2147483647 from H.krg 5 1 (ltn len_V214_Row_Row_oz_D1cls rfl)) (show F 5 1 = u5_1 from (eu5_1))
  have r5 : (-2147483648 : Int) ≤ u8_1 ∧ u8_1 ≤ 2147483647 := rngE (show (-2147483648 : Int) ≤ F 8 1 ∧ F 8 1 ≤ 2147483647 from H.krg 8 1 (ltn len_V214_Row_Row_oz_D1cls rfl)) (show F 8 1 = u8_1 from (eu8_1))
  have r6 : (0 : Int) ≤ n3 ∧ n3 ≤ 1000000 := nleE (H.nle 3 (ltn len_V214_Row_Row_oz_D1cls rfl)) (show (N 3 : Int) = n3 from en3)
  have r7 : (0 : Int) ≤ n4 ∧ n4 ≤ 1000000 := nleE (H.nle 4 (ltn len_V214_Row_Row_oz_D1cls rfl)) (show (N 4 : Int) = n4 from en4)
  have r8 : (0 : Int) ≤ n6 ∧ n6 ≤ 1000000 := nleE (H.nle 6 (ltn len_V214_Row_Row_oz_D1cls rfl)) (show (N 6 : Int) = n6 from en6)
  have r9 : (0 : Int) ≤ n9 ∧ n9 ≤ 1000000 := nleE (H.nle 9 (ltn len_V214_Row_Row_oz_D1cls rfl)) (show (N 9 : Int) = n9 from en9)
  have r10 : (0 : Int) ≤ n10 ∧ n10 ≤ 1000000 := nleE (H.nle 10 (ltn len_V214_Row_Row_oz_D1cls rfl)) (show (N 10 : Int) = n10 from en10)
  have r11 : (0 : Int) ≤ n11 ∧ n11 ≤ 1000000 := nleE (H.nle 11 (ltn len_V214_Row_Row_oz_D1cls rfl)) (show (N 11 : Int) = n11 from en11)
  have r12 : (0 : Int) ≤ n12 ∧ n12 ≤ 1000000 := nleE (H.nle 12 (ltn len_V214_Row_Row_oz_D1cls rfl)) (show (N 12 : Int) = n12 from en12)
  have r13 : (0 : Int) ≤ n13 ∧ n13 ≤ 1000000 := nleE (H.nle 13 (ltn len_V214_Row_Row_oz_D1cls rfl)) (show (N 13 : Int) = n13 from en13)
  have r14 : (0 : Int) ≤ n14 ∧ n14 ≤ 1000000 := nleE (H.nle 14 (ltn len_V214_Row_Row_oz_D1cls rfl)) (show (N 14 : Int) = n14 from en14)
  have r15 : (0 : Int) ≤ n15 ∧ n15 ≤ 1000000 := nleE (H.nle 15 (ltn len_V214_Row_Row_oz_D1cls rfl)) (show (N 15 : Int) = n15 from en15)
  refine Ew_of (pcₚ := 1) (fun _ => x_aload_n rfl rfl) ?_
  refine v_g H (o := 0) (v := .ref (D 7)) rfl rfl rfl rfl rfl (vrf (pf7)) ?_
  refine v_g H (o := 7) (v := .ref (D 8)) rfl rfl rfl rfl rfl (vrf (pf8)) ?_
  refine Ew_of (pcₚ := 8) (fun _ => x_aload_n rfl rfl) ?_
  refine v_g H (o := 0) (v := .ref (D 5)) rfl rfl rfl rfl rfl (vrf (pf5)) ?_
  have r16 : (0 : Int) ≤ F 8 2 ∧ F 8 2 ≤ 1 := H.krg 8 2 (ltn len_V214_Row_Row_oz_D1cls rfl)
  refine v_inv H (o := 8) rfl rfl rfl rfl rfl rfl (by rfl) (C158_Row (D := puc 807668232 D) (N := puc 807668232 N) (HW_subc H oz_D1cls_34 oz_D1cls_44) (pf9) (pf6) (n9) (en9) (n6) (en6) (u8_1) ((eu8_1)) (F 8 2) (rfl) (u5_1) ((eu5_1)) (A 9) (rfl) (w6) (ew6) (show 0 ≤ (u8_1) ∧ (u8_1) ≤ (n9) ∧ (n9) ≤ 65536 from h3) (show 0 ≤ (u5_1) ∧ (u5_1) ≤ (n6) ∧ (n6) ≤ 65536 from h2) (fun σ17 D17ₚ N17ₚ F17ₚ A17ₚ c17 s17 Hₚ Oₚ hD17 hN17 hS17 hA17 pm17_2 m17_2 em17_2 y17_0_1 ey17_0_1 y17_0_2 ey17_0_2 w17_2 ew17_2 pz17_0 pz17_1 pz17_2 pz17_3 => ⟨rfl, ?_⟩))
  refine v_backMc (c := c) (s := s) H oz_D1cls_34 oz_D1cls_44 Hₚ Oₚ hD17 oz_D1cls_35 (fun D17 N17 F17 A17 H Oₚ eD17 eN17 eF17 eA17 => ?_)
  have O := OUT_trans O Oₚ
  -- Row.become
  have cF17 : SF oz_D1clsl_13 F F17 := SF_trans (SF_refl) (SF_gluc (ι := oz_D1clsl_15) oz_D1cls_44 hS17 eF17 (by decide +kernel)) (any_sub (lₚ := [(8, 0), (8, 1), (8, 2), (8, 3), (8, 4)]) (by decide +kernel))
  have mF17 := SFm_of cF17 oz_D1cls_42
  have cA17 : SA oz_D1clsl_14 A A17 := SA_trans (SA_refl) (SA_gluc (ι := oz_D1clsl_15) oz_D1cls_44 hA17 eA17 (by decide +kernel)) (any_subA (lₚ := [9]) (by decide +kernel))
  have mA17 := SAm_of cA17 oz_D1cls_43
  have cD17 : SD oz_D1clsl_14 D D17 := SD_trans (SD_refl) (SD_gluc (ι := oz_D1clsl_15) oz_D1cls_44 hD17 eD17 (by decide +kernel)) (any_subA (lₚ := [9]) (by decide +kernel))
  have mD17 := SDm_of cD17 oz_D1cls_43
  have cN17 : SD oz_D1clsl_14 N N17 := SD_trans (SD_refl) (SD_gluc (ι := oz_D1clsl_15) oz_D1cls_44 hN17 eN17 (by decide +kernel)) (any_subA (lₚ := [9]) (by decide +kernel))
  have mN17 := SDm_of cN17 oz_D1cls_43
  have pf17_1_0 : F17 1 0 = (D17 3 : Int) := ((show F17 1 0 = F 1 0 from (eF17 1 0))).trans ((pf3).trans (congrArg (fun q : Nat => (q : Int)) ((show D17 3 = D 3 from (eD17 3))).symm))
  have pf17_7_1 : F17 7 1 = (D17 13 : Int) := ((show F17 7 1 = F 7 1 from (eF17 7 1))).trans ((pf13).trans (congrArg (fun q : Nat => (q : Int)) ((show D17 13 = D 13 from (eD17 13))).symm))
  have pf17_7_2 : F17 7 2 = (D17 14 : Int) := ((show F17 7 2 = F 7 2 from (eF17 7 2))).trans ((pf14).trans (congrArg (fun q : Nat => (q : Int)) ((show D17 14 = D 14 from (eD17 14))).symm))
  have pf17_7_3 : F17 7 3 = (D17 15 : Int) := ((show F17 7 3 = F 7 3 from (eF17 7 3))).trans ((pf15).trans (congrArg (fun q : Nat => (q : Int)) ((show D17 15 = D 15 from (eD17 15))).symm))
  have pf17_7_7 : F17 7 7 = (D17 11 : Int) := ((show F17 7 7 = F 7 7 from (eF17 7 7))).trans ((pf11).trans (congrArg (fun q : Nat => (q : Int)) ((show D17 11 = D 11 from (eD17 11))).symm))
  have pf17_7_8 : F17 7 8 = (D17 12 : Int) := ((show F17 7 8 = F 7 8 from (eF17 7 8))).trans ((pf12).trans (congrArg (fun q : Nat => (q : Int)) ((show D17 12 = D 12 from (eD17 12))).symm))
  have pf17_8_0 : F17 8 0 = (D17 9 : Int) := (eF17 8 0).trans (pm17_2.trans (congrArg (fun q : Nat => (q : Int)) (eD17 9).symm))
  have r18 : (0 : Int) ≤ m17_2 ∧ m17_2 ≤ 1000000 := nleE (H.nle 9 (ltn len_V214_Row_Row_oz_D1cls rfl)) (show (N17 9 : Int) = m17_2 from (congrArg (fun q : Nat => (q : Int)) (eN17 9)).trans em17_2)
  have r19 : (-2147483648 : Int) ≤ y17_0_1 ∧ y17_0_1 ≤ 2147483647 := rngE (show (-2147483648 : Int) ≤ F17 8 1 ∧ F17 8 1 ≤ 2147483647 from H.krg 8 1 (ltn len_V214_Row_Row_oz_D1cls rfl)) (show F17 8 1 = y17_0_1 from ((eF17 8 1).trans ey17_0_1))
  have r20 : (0 : Int) ≤ y17_0_2 ∧ y17_0_2 ≤ 1 := rngE (show (0 : Int) ≤ F17 8 2 ∧ F17 8 2 ≤ 1 from H.krg 8 2 (ltn len_V214_Row_Row_oz_D1cls rfl)) (show F17 8 2 = y17_0_2 from ((eF17 8 2).trans ey17_0_2))
  have hbe := pz17_3
  refine Ew_of (pcₚ := 15) (fun _ => x_aload_n rfl rfl) ?_
  refine Ew_stk (congrArg (fun qz : Nat => ([.ref qz] : List Value)) (show D17 0 = D 0 from mD17 0 rfl).symm) ?_
  refine v_g H (o := 0) (v := .ref (D17 7)) rfl rfl rfl rfl rfl (vrf ((mF17 0 2 rfl).trans ((pf7).trans (congrArg (fun q : Nat => (q : Int)) (mD17 7 rfl).symm)))) ?_
  refine v_g H (o := 7) (v := .ref (D17 8)) rfl rfl rfl rfl rfl (vrf ((mF17 7 0 rfl).trans ((pf8).trans (congrArg (fun q : Nat => (q : Int)) (mD17 8 rfl).symm)))) ?_
  refine Ew_of (pcₚ := 22) (fun _ => x_aload_n rfl rfl) ?_
  refine Ew_stk (congrArg (fun qz : Nat => ([.ref qz, .ref (D17 8)] : List Value)) (show D17 2 = D 2 from mD17 2 rfl).symm) ?_
  refine v_g H (o := 2) (v := .ref (D17 4)) rfl rfl rfl rfl rfl (vrf ((mF17 2 0 rfl).trans ((pf4).trans (congrArg (fun q : Nat => (q : Int)) (mD17 4 rfl).symm)))) ?_
  refine Ew_of (pcₚ := 26) (fun _ => x_iconst rfl) ?_
  refine Ew_of (pcₚ := 27) (fun _ => x_aload_n rfl rfl) ?_
  refine Ew_stk (congrArg (fun qz : Nat => ([.ref qz, I (0), .ref (D17 4), .ref (D17 8)] : List Value)) (show D17 2 = D 2 from mD17 2 rfl).symm) ?_
  refine v_g H (o := 2) (v := I (u2_1)) rfl rfl rfl rfl rfl (congrArg (fun z : Int => I z) (((mF17 2 1 rfl).trans (eu2_1)) : F17 2 1 = u2_1)) ?_
  refine v_inv H (o := 8) rfl rfl rfl rfl rfl rfl (by rfl) (C161_Br (D := puc 2361352 D17) (N := puc 2361352 N17) (HW_subc H oz_D1cls_36 oz_D1cls_45) (pf17_8_0) (n4) ((congrArg (fun q : Nat => (q : Int)) (mN17 4 rfl)).trans (en4)) (m17_2) ((congrArg (fun q : Nat => (q : Int)) (eN17 9)).trans em17_2) (y17_0_1) (((eF17 8 1).trans ey17_0_1)) (y17_0_2) (((eF17 8 2).trans ey17_0_2)) (w4) ((funext (mA17 4 rfl)).trans (ew4)) (w17_2) ((eA17 9).trans ew17_2) (show inr (0) from q_2) (show inr (u2_1) from q_38 h1) (show 0 ≤ (y17_0_1) ∧ (y17_0_1) ≤ (m17_2) ∧ (m17_2) ≤ 65536 from pz17_0) (show (u2_1) < 0 ∨ 0 ≤ (0) ∧ (0) + (u2_1) ≤ (n4) from q_2944 h1) (fun σ21 D21ₚ N21ₚ F21ₚ A21ₚ c21 s21 Hₚ Oₚ hD21 hN21 hS21 hA21 pm21_2 m21_2 em21_2 y21_0_1 ey21_0_1 y21_0_2 ey21_0_2 w21_2 ew21_2 pz21_0 pz21_1 pz21_2 pz21_3 => ⟨rfl, ?_⟩))
  refine v_backMc (c := (c + c17)) (s := (s + s17)) H oz_D1cls_36 oz_D1cls_45 Hₚ Oₚ hD21 oz_D1cls_37 (fun D21 N21 F21 A21 H Oₚ eD21 eN21 eF21 eA21 => ?_)
  have O := OUT_trans O Oₚ
  -- Row.addPart
  have cF21 : SF oz_D1clsl_13 F F21 := SF_trans (cF17) (SF_gluc (ι := oz_D1clsl_16) oz_D1cls_45 hS21 eF21 (by decide +kernel)) (any_sub (lₚ := [(8, 0), (8, 1), (8, 2)]) (by decide +kernel))
  have mF21 := SFm_of cF21 oz_D1cls_42
  have cA21 : SA oz_D1clsl_14 A A21 := SA_trans (cA17) (SA_gluc (ι := oz_D1clsl_16) oz_D1cls_45 hA21 eA21 (by decide +kernel)) (any_subA (lₚ := [9]) (by decide +kernel))
  have mA21 := SAm_of cA21 oz_D1cls_43
  have cD21 : SD oz_D1clsl_14 D D21 := SD_trans (cD17) (SD_gluc (ι := oz_D1clsl_16) oz_D1cls_45 hD21 eD21 (by decide +kernel)) (any_subA (lₚ := [9]) (by decide +kernel))
  have mD21 := SDm_of cD21 oz_D1cls_43
  have cN21 : SD oz_D1clsl_14 N N21 := SD_trans (cN17) (SD_gluc (ι := oz_D1clsl_16) oz_D1cls_45 hN21 eN21 (by decide +kernel)) (any_subA (lₚ := [9]) (by decide +kernel))
  have mN21 := SDm_of cN21 oz_D1cls_43
  have pf21_1_0 : F21 1 0 = (D21 3 : Int) := ((show F21 1 0 = F17 1 0 from (eF21 1 0))).trans ((pf17_1_0).trans (congrArg (fun q : Nat => (q : Int)) ((show D21 3 = D17 3 from (eD21 3))).symm))
  have pf21_7_1 : F21 7 1 = (D21 13 : Int) := ((show F21 7 1 = F17 7 1 from (eF21 7 1))).trans ((pf17_7_1).trans (congrArg (fun q : Nat => (q : Int)) ((show D21 13 = D17 13 from (eD21 13))).symm))
  have pf21_7_2 : F21 7 2 = (D21 14 : Int) := ((show F21 7 2 = F17 7 2 from (eF21 7 2))).trans ((pf17_7_2).trans (congrArg (fun q : Nat => (q : Int)) ((show D21 14 = D17 14 from (eD21 14))).symm))
  have pf21_7_3 : F21 7 3 = (D21 15 : Int) := ((show F21 7 3 = F17 7 3 from (eF21 7 3))).trans ((pf17_7_3).trans (congrArg (fun q : Nat => (q : Int)) ((show D21 15 = D17 15 from (eD21 15))).symm))
  have pf21_7_7 : F21 7 7 = (D21 11 : Int) := ((show F21 7 7 = F17 7 7 from (eF21 7 7))).trans ((pf17_7_7).trans (congrArg (fun q : Nat => (q : Int)) ((show D21 11 = D17 11 from (eD21 11))).symm))
  have pf21_7_8 : F21 7 8 = (D21 12 : Int) := ((show F21 7 8 = F17 7 8 from (eF21 7 8))).trans ((pf17_7_8).trans (congrArg (fun q : Nat => (q : Int)) ((show D21 12 = D17 12 from (eD21 12))).symm))
  have pf21_8_0 : F21 8 0 = (D21 9 : Int) := (eF21 8 0).trans (pm21_2.trans (congrArg (fun q : Nat => (q : Int)) (eD21 9).symm))
  have r22 : (0 : Int) ≤ m21_2 ∧ m21_2 ≤ 1000000 := nleE (H.nle 9 (ltn len_V214_Row_Row_oz_D1cls rfl)) (show (N21 9 : Int) = m21_2 from (congrArg (fun q : Nat => (q : Int)) (eN21 9)).trans em21_2)
  have r23 : (-2147483648 : Int) ≤ y21_0_1 ∧ y21_0_1 ≤ 2147483647 := rngE (show (-2147483648 : Int) ≤ F21 8 1 ∧ F21 8 1 ≤ 2147483647 from H.krg 8 1 (ltn len_V214_Row_Row_oz_D1cls rfl)) (show F21 8 1 = y21_0_1 from ((eF21 8 1).trans ey21_0_1))
  have r24 : (0 : Int) ≤ y21_0_2 ∧ y21_0_2 ≤ 1 := rngE (show (0 : Int) ≤ F21 8 2 ∧ F21 8 2 ≤ 1 from H.krg 8 2 (ltn len_V214_Row_Row_oz_D1cls rfl)) (show F21 8 2 = y21_0_2 from ((eF21 8 2).trans ey21_0_2))
  have hap := pz21_3 (by omega)
  have hdd : sc ((w21_2)) 0 ((y21_0_1)) = sc ((w6)) 0 ((u5_1)) ++ sc ((w4)) 0 ((u2_1)) := by have h := RAP_sc hap pz17_2 hbe (by rw [List.length_append, sc_len, sc_len]; omega); rw [Int.zero_add] at h; exact h
  refine Ew_of (pcₚ := 34) (fun _ => x_aload_n rfl rfl) ?_
  refine Ew_stk (congrArg (fun qz : Nat => ([.ref qz] : List Value)) (show D21 0 = D 0 from mD21 0 rfl).symm) ?_
  refine v_g H (o := 0) (v := .ref (D21 7)) rfl rfl rfl rfl rfl (vrf ((mF21 0 2 rfl).trans ((pf7).trans (congrArg (fun q : Nat => (q : Int)) (mD21 7 rfl).symm)))) ?_
  refine Ew_of (pcₚ := 38) (fun _ => x_aload_n rfl rfl) ?_
  refine Ew_stk (congrArg (fun qz : Nat => ([.ref qz, .ref (D21 7)] : List Value)) (show D21 0 = D 0 from mD21 0 rfl).symm) ?_
  refine v_g H (o := 0) (v := .ref (D21 10)) rfl rfl rfl rfl rfl (vrf ((mF21 0 0 rfl).trans ((pf10).trans (congrArg (fun q : Nat => (q : Int)) (mD21 10 rfl).symm)))) ?_
  refine Ew_of (pcₚ := 42) (fun _ => x_iconst rfl) ?_
  refine v_lI H (o := 10) rfl rfl rfl rfl (n := n10) ((congrArg (fun q : Nat => (q : Int)) (mN21 10 rfl)).trans (en10)) (show 0 ≤ 0 ∧ 0 < n10 from q_3083 h4 r10) (fun v25 ev25 qv25 => ?_)
  have ev25 : (w10) (0) = v25 := (congrFun ((funext (mA21 10 rfl)).trans (ew10)) (0)).symm.trans ev25
  refine Ew_of (pcₚ := 44) (fun _ => x_iconst rfl) ?_
  refine Ew_of (pcₚ := 46) (fun _ => x_ldc (z := 65535) rfl (by decide)) ?_
  have hway := ev25
  have r26 : (-2147483648 : Int) ≤ F 7 6 ∧ F 7 6 ≤ 2147483647 := rngE (show (-2147483648 : Int) ≤ F21 7 6 ∧ F21 7 6 ≤ 2147483647 from H.krg 7 6 (ltn len_V214_Row_Row_oz_D1cls rfl)) (show F21 7 6 = F 7 6 from (((show F21 7 6 = F17 7 6 from (eF21 7 6))).trans ((show F17 7 6 = F 7 6 from (eF17 7 6)))))
  have r27 : (-2147483648 : Int) ≤ F 7 9 ∧ F 7 9 ≤ 2147483647 := rngE (show (-2147483648 : Int) ≤ F21 7 9 ∧ F21 7 9 ≤ 2147483647 from H.krg 7 9 (ltn len_V214_Row_Row_oz_D1cls rfl)) (show F21 7 9 = F 7 9 from (((show F21 7 9 = F17 7 9 from (eF21 7 9))).trans ((show F17 7 9 = F 7 9 from (eF17 7 9)))))
  have r28 : (-2147483648 : Int) ≤ F 7 10 ∧ F 7 10 ≤ 2147483647 := rngE (show (-2147483648 : Int) ≤ F21 7 10 ∧ F21 7 10 ≤ 2147483647 from H.krg 7 10 (ltn len_V214_Row_Row_oz_D1cls rfl)) (show F21 7 10 = F 7 10 from (((show F21 7 10 = F17 7 10 from (eF21 7 10))).trans ((show F17 7 10 = F 7 10 from (eF17 7 10)))))
  have r29 : (-2147483648 : Int) ≤ F 7 11 ∧ F 7 11 ≤ 2147483647 := rngE (show (-2147483648 : Int) ≤ F21 7 11 ∧ F21 7 11 ≤ 2147483647 from H.krg 7 11 (ltn len_V214_Row_Row_oz_D1cls rfl)) (show F21 7 11 = F 7 11 from (((show F21 7 11 = F17 7 11 from (eF21 7 11))).trans ((show F17 7 11 = F 7 11 from (eF17 7 11)))))
  refine v_inv H (o := 7) rfl rfl rfl rfl rfl rfl (by rfl) (C121 (D := puc 5639 D21) (N := puc 5639 N21) (HW_subc H oz_D1cls_38 oz_D1cls_46) (pf21_7_7) (n11) ((congrArg (fun q : Nat => (q : Int)) (show N21 11 = N17 11 from (eN21 11))).trans ((congrArg (fun q : Nat => (q : Int)) (show N17 11 = N 11 from (eN17 11))).trans (en11))) (F 7 6) ((((show F21 7 6 = F17 7 6 from (eF21 7 6))).trans ((show F17 7 6 = F 7 6 from (eF17 7 6))))) (F 7 9) ((((show F21 7 9 = F17 7 9 from (eF21 7 9))).trans ((show F17 7 9 = F 7 9 from (eF17 7 9))))) (F 7 10) ((((show F21 7 10 = F17 7 10 from (eF21 7 10))).trans ((show F17 7 10 = F 7 10 from (eF17 7 10))))) (F 7 11) ((((show F21 7 11 = F17 7 11 from (eF21 7 11))).trans ((show F17 7 11 = F 7 11 from (eF17 7 11))))) (A 11) (((show A21 11 = A17 11 from (eA21 11))).trans ((show A17 11 = A 11 from (eA17 11)))) (show inr (v25) from qv25) (show inr (4) from q_216) (show inr (65535) from q_422) (show (n11) = 0 ∨ (n11) = 2048 from h6) (fun σ30 D30ₚ N30ₚ F30ₚ A30ₚ c30 s30 Hₚ Oₚ hD30 hN30 hS30 hA30 pm30_1 m30_1 em30_1 y30_0_6 ey30_0_6 y30_0_9 ey30_0_9 y30_0_10 ey30_0_10 y30_0_11 ey30_0_11 w30_1 ew30_1 pz30_0 pz30_1 pz30_2 pz30_3 => ⟨rfl, ?_⟩))
  refine v_backMc (c := ((c + c17) + c21)) (s := ((s + s17) + s21)) H oz_D1cls_38 oz_D1cls_46 Hₚ Oₚ hD30 oz_D1cls_39 (fun D30 N30 F30 A30 H Oₚ eD30 eN30 eF30 eA30 => ?_)
  have O := OUT_trans O Oₚ
  -- Finder.begin
  have cF30 : SF oz_D1clsl_13 F F30 := SF_trans (cF21) (SF_gluc (ι := oz_D1clsl_17) oz_D1cls_46 hS30 eF30 (by decide +kernel)) (any_sub (lₚ := [(7, 6), (7, 7), (7, 9), (7, 10), (7, 11)]) (by decide +kernel))
  have mF30 := SFm_of cF30 oz_D1cls_42
  have cA30 : SA oz_D1clsl_14 A A30 := SA_trans (cA21) (SA_gluc (ι := oz_D1clsl_17) oz_D1cls_46 hA30 eA30 (by decide +kernel)) (any_subA (lₚ := [11]) (by decide +kernel))
  have mA30 := SAm_of cA30 oz_D1cls_43
  have cD30 : SD oz_D1clsl_14 D D30 := SD_trans (cD21) (SD_gluc (ι := oz_D1clsl_17) oz_D1cls_46 hD30 eD30 (by decide +kernel)) (any_subA (lₚ := [11]) (by decide +kernel))
  have mD30 := SDm_of cD30 oz_D1cls_43
  have cN30 : SD oz_D1clsl_14 N N30 := SD_trans (cN21) (SD_gluc (ι := oz_D1clsl_17) oz_D1cls_46 hN30 eN30 (by decide +kernel)) (any_subA (lₚ := [11]) (by decide +kernel))
  have mN30 := SDm_of cN30 oz_D1cls_43
  have pf30_1_0 : F30 1 0 = (D30 3 : Int) := ((show F30 1 0 = F21 1 0 from (eF30 1 0))).trans ((pf21_1_0).trans (congrArg (fun q : Nat => (q : Int)) ((show D30 3 = D21 3 from (eD30 3))).symm))
  have pf30_7_1 : F30 7 1 = (D30 13 : Int) := ((show F30 7 1 = F21 7 1 from (eF30 7 1).trans (hS30 0 1 rfl))).trans ((pf21_7_1).trans (congrArg (fun q : Nat => (q : Int)) ((show D30 13 = D21 13 from (eD30 13))).symm))
  have pf30_7_2 : F30 7 2 = (D30 14 : Int) := ((show F30 7 2 = F21 7 2 from (eF30 7 2).trans (hS30 0 2 rfl))).trans ((pf21_7_2).trans (congrArg (fun q : Nat => (q : Int)) ((show D30 14 = D21 14 from (eD30 14))).symm))
  have pf30_7_3 : F30 7 3 = (D30 15 : Int) := ((show F30 7 3 = F21 7 3 from (eF30 7 3).trans (hS30 0 3 rfl))).trans ((pf21_7_3).trans (congrArg (fun q : Nat => (q : Int)) ((show D30 15 = D21 15 from (eD30 15))).symm))
  have pf30_7_7 : F30 7 7 = (D30 11 : Int) := (eF30 7 7).trans (pm30_1.trans (congrArg (fun q : Nat => (q : Int)) (eD30 11).symm))
  have pf30_7_8 : F30 7 8 = (D30 12 : Int) := ((show F30 7 8 = F21 7 8 from (eF30 7 8).trans (hS30 0 8 rfl))).trans ((pf21_7_8).trans (congrArg (fun q : Nat => (q : Int)) ((show D30 12 = D21 12 from (eD30 12))).symm))
  have pf30_8_0 : F30 8 0 = (D30 9 : Int) := ((show F30 8 0 = F21 8 0 from (eF30 8 0))).trans ((pf21_8_0).trans (congrArg (fun q : Nat => (q : Int)) ((show D30 9 = D21 9 from (eD30 9))).symm))
  have r31 : (0 : Int) ≤ m30_1 ∧ m30_1 ≤ 1000000 := nleE (H.nle 11 (ltn len_V214_Row_Row_oz_D1cls rfl)) (show (N30 11 : Int) = m30_1 from (congrArg (fun q : Nat => (q : Int)) (eN30 11)).trans em30_1)
  have r32 : (-2147483648 : Int) ≤ y30_0_6 ∧ y30_0_6 ≤ 2147483647 := rngE (show (-2147483648 : Int) ≤ F30 7 6 ∧ F30 7 6 ≤ 2147483647 from H.krg 7 6 (ltn len_V214_Row_Row_oz_D1cls rfl)) (show F30 7 6 = y30_0_6 from ((eF30 7 6).trans ey30_0_6))
  have r33 : (-2147483648 : Int) ≤ y30_0_9 ∧ y30_0_9 ≤ 2147483647 := rngE (show (-2147483648 : Int) ≤ F30 7 9 ∧ F30 7 9 ≤ 2147483647 from H.krg 7 9 (ltn len_V214_Row_Row_oz_D1cls rfl)) (show F30 7 9 = y30_0_9 from ((eF30 7 9).trans ey30_0_9))
  have r34 : (-2147483648 : Int) ≤ y30_0_10 ∧ y30_0_10 ≤ 2147483647 := rngE (show (-2147483648 : Int) ≤ F30 7 10 ∧ F30 7 10 ≤ 2147483647 from H.krg 7 10 (ltn len_V214_Row_Row_oz_D1cls rfl)) (show F30 7 10 = y30_0_10 from ((eF30 7 10).trans ey30_0_10))
  have r35 : (-2147483648 : Int) ≤ y30_0_11 ∧ y30_0_11 ≤ 2147483647 := rngE (show (-2147483648 : Int) ≤ F30 7 11 ∧ F30 7 11 ≤ 2147483647 from H.krg 7 11 (ltn len_V214_Row_Row_oz_D1cls rfl)) (show F30 7 11 = y30_0_11 from ((eF30 7 11).trans ey30_0_11))
  have hb0 : BKI ((w21_2)) ((A 12)) ((y30_0_10)) ((y30_0_6)) := by rw [pz30_1]; exact BKI_0
  have hh0 : HDI ((w21_2)) ((w30_1)) ((y30_0_10)) ((y30_0_6)) := by rw [pz30_1]; exact HDI_0 pz30_3
  refine Ew_of (pcₚ := 50) (fun _ => x_aload_n rfl rfl) ?_
  refine Ew_of (pcₚ := 51) (fun _ => x_aload_n rfl rfl) ?_
  refine Ew_of (pcₚ := 52) (fun _ => x_aload_n rfl rfl) ?_
  refine Ew_stk (show ([.ref (D 0), .ref (D 1), .ref (D 0)] : List Value) = [.ref (D30 0), .ref (D30 1), .ref (D30 0)] by rw [show D30 0 = D 0 from mD30 0 rfl, show D30 1 = D 1 from mD30 1 rfl]) ?_
  refine v_g H (o := 0) (v := .ref (D30 5)) rfl rfl rfl rfl rfl (vrf ((mF30 0 1 rfl).trans ((pf5).trans (congrArg (fun q : Nat => (q : Int)) (mD30 5 rfl).symm)))) ?_
  refine v_g H (o := 5) (v := I (u5_1)) rfl rfl rfl rfl rfl (congrArg (fun z : Int => I z) (((mF30 5 1 rfl).trans (eu5_1)) : F30 5 1 = u5_1)) ?_
  refine v_inv H (o := 0) rfl rfl rfl rfl rfl rfl (by rfl) (C215_Row (D := puc 18603012004667773443327656448 D30) (N := puc 18603012004667773443327656448 N30) (HW_subc H oz_D1cls_40 oz_D1cls_47) (pf30_1_0) ((mF30 0 2 rfl).trans ((pf7).trans (congrArg (fun q : Nat => (q : Int)) (mD30 7 rfl).symm))) ((mF30 7 0 rfl).trans ((pf8).trans (congrArg (fun q : Nat => (q : Int)) (mD30 8 rfl).symm))) (pf30_8_0) (pf30_7_8) (pf30_7_7) (pf30_7_1) (pf30_7_2) (pf30_7_3) (n3) ((congrArg (fun q : Nat => (q : Int)) (show N30 3 = N21 3 from (eN30 3))).trans ((congrArg (fun q : Nat => (q : Int)) (show N21 3 = N17 3 from (eN21 3))).trans ((congrArg (fun q : Nat => (q : Int)) (show N17 3 = N 3 from (eN17 3))).trans (en3)))) (m21_2) ((congrArg (fun q : Nat => (q : Int)) (show N30 9 = N21 9 from (eN30 9))).trans ((congrArg (fun q : Nat => (q : Int)) (eN21 9)).trans em21_2)) (n12) ((congrArg (fun q : Nat => (q : Int)) (show N30 12 = N21 12 from (eN30 12))).trans ((congrArg (fun q : Nat => (q : Int)) (show N21 12 = N17 12 from (eN21 12))).trans ((congrArg (fun q : Nat => (q : Int)) (show N17 12 = N 12 from (eN17 12))).trans (en12)))) (m30_1) ((congrArg (fun q : Nat => (q : Int)) (eN30 11)).trans em30_1) (n13) ((congrArg (fun q : Nat => (q : Int)) (show N30 13 = N21 13 from (eN30 13))).trans ((congrArg (fun q : Nat => (q : Int)) (show N21 13 = N17 13 from (eN21 13))).trans ((congrArg (fun q : Nat => (q : Int)) (show N17 13 = N 13 from (eN17 13))).trans (en13)))) (n14) ((congrArg (fun q : Nat => (q : Int)) (show N30 14 = N21 14 from (eN30 14))).trans ((congrArg (fun q : Nat => (q : Int)) (show N21 14 = N17 14 from (eN21 14))).trans ((congrArg (fun q : Nat => (q : Int)) (show N17 14 = N 14 from (eN17 14))).trans (en14)))) (n15) ((congrArg (fun q : Nat => (q : Int)) (show N30 15 = N21 15 from (eN30 15))).trans ((congrArg (fun q : Nat => (q : Int)) (show N21 15 = N17 15 from (eN21 15))).trans ((congrArg (fun q : Nat => (q : Int)) (show N17 15 = N 15 from (eN17 15))).trans (en15)))) (u1_1) ((((((show F30 1 1 = F21 1 1 from (eF30 1 1))).trans ((show F21 1 1 = F17 1 1 from (eF21 1 1)))).trans ((show F17 1 1 = F 1 1 from (eF17 1 1)))).trans (eu1_1))) (u1_2) ((((((show F30 1 2 = F21 1 2 from (eF30 1 2))).trans ((show F21 1 2 = F17 1 2 from (eF21 1 2)))).trans ((show F17 1 2 = F 1 2 from (eF17 1 2)))).trans (eu1_2))) (y30_0_6) (((eF30 7 6).trans ey30_0_6)) (y30_0_9) (((eF30 7 9).trans ey30_0_9)) (y30_0_10) (((eF30 7 10).trans ey30_0_10)) (y30_0_11) (((eF30 7 11).trans ey30_0_11)) (y21_0_1) ((((show F30 8 1 = F21 8 1 from (eF30 8 1))).trans ((eF21 8 1).trans ey21_0_1))) (w3) (((show A30 3 = A21 3 from (eA30 3))).trans (((show A21 3 = A17 3 from (eA21 3))).trans (((show A17 3 = A 3 from (eA17 3))).trans (ew3)))) (w21_2) (((show A30 9 = A21 9 from (eA30 9))).trans ((eA21 9).trans ew21_2)) (A 12) (((show A30 12 = A21 12 from (eA30 12))).trans (((show A21 12 = A17 12 from (eA21 12))).trans ((show A17 12 = A 12 from (eA17 12))))) (w30_1) ((eA30 11).trans ew30_1) (show inr (u5_1) from q_38 h2) (show 0 ≤ (u1_1) ∧ (u1_1) ≤ (n3) ∧ (n3) ≤ 65536 from h0) (show 0 ≤ (y21_0_1) ∧ (y21_0_1) ≤ (m21_2) ∧ (m21_2) ≤ 65536 ∧ (y21_0_1) ≤ 16384 from q_3088 h1 h5 pz17_1 pz21_0 pz21_1) (show (y30_0_10) = 4 from q_3087 pz30_2) (show 0 ≤ (u5_1) ∧ (u5_1) ≤ (y21_0_1) from q_3086 h1 h2 pz17_1 pz21_1) (hb0) (hh0) (show (n13) = (n14) ∧ (n15) = (n14) ∧ (n14) ≤ 65536 ∧ ((n14) = 0 ∨ 64 ≤ (n14)) ∧ lgq ((n14)) = 0 from h8) (show (m30_1) = 2048 from pz30_0) (show 0 ≤ (y30_0_6) ∧ (y30_0_6) ≤ (n12) ∧ (n12) ≤ 16384 from q_3085 h7 pz30_1 r12) (show (y30_0_11) = 65535 from q_3084 pz30_2) (fun σ36 D36ₚ N36ₚ F36ₚ A36ₚ c36 s36 Hₚ Oₚ hD36 hN36 hS36 hA36 pm36_2 pm36_6 pm36_8 pm36_9 pm36_10 m36_2 em36_2 m36_6 em36_6 m36_8 em36_8 m36_9 em36_9 m36_10 em36_10 y36_1_1 ey36_1_1 y36_1_2 ey36_1_2 y36_3_6 ey36_3_6 w36_2 ew36_2 w36_6 ew36_6 w36_7 ew36_7 pz36_0 pz36_1 pz36_2 pz36_3 pz36_4 pz36_5 pz36_6 => ⟨rfl, ?_⟩))
  refine v_backMc (c := (((c + c17) + c21) + c30)) (s := (((s + s17) + s21) + s30)) H oz_D1cls_40 oz_D1cls_47 Hₚ Oₚ hD36 oz_D1cls_41 (fun D36 N36 F36 A36 H Oₚ eD36 eN36 eF36 eA36 => ?_)
  have O := OUT_trans O Oₚ
  -- Tokens.packBlock
  have cF36 : SF oz_D1clsl_13 F F36 := SF_trans (cF30) (SF_gluc (ι := oz_D1clsl_18) oz_D1cls_47 hS36 eF36 (by decide +kernel)) (any_sub (lₚ := [(1, 0), (1, 1), (1, 2), (7, 1), (7, 2), (7, 3), (7, 4), (7, 5), (7, 6), (7, 8), (7, 12), (7, 13), (7, 14), (7, 15), (7, 16), (7, 17), (7, 18)]) (by decide +kernel))
  have mF36 := SFm_of cF36 oz_D1cls_42
  have cA36 : SA oz_D1clsl_14 A A36 := SA_trans (cA30) (SA_gluc (ι := oz_D1clsl_18) oz_D1cls_47 hA36 eA36 (by decide +kernel)) (any_subA (lₚ := [3, 11, 12, 13, 14, 15]) (by decide +kernel))
  have mA36 := SAm_of cA36 oz_D1cls_43
  have cD36 : SD oz_D1clsl_14 D D36 := SD_trans (cD30) (SD_gluc (ι := oz_D1clsl_18) oz_D1cls_47 hD36 eD36 (by decide +kernel)) (any_subA (lₚ := [3, 12, 13, 14, 15]) (by decide +kernel))
  have mD36 := SDm_of cD36 oz_D1cls_43
  have cN36 : SD oz_D1clsl_14 N N36 := SD_trans (cN30) (SD_gluc (ι := oz_D1clsl_18) oz_D1cls_47 hN36 eN36 (by decide +kernel)) (any_subA (lₚ := [3, 12, 13, 14, 15]) (by decide +kernel))
  have mN36 := SDm_of cN36 oz_D1cls_43
  have pf36_1_0 : F36 1 0 = (D36 3 : Int) := (eF36 1 0).trans (pm36_2.trans (congrArg (fun q : Nat => (q : Int)) (eD36 3).symm))
  have pf36_7_1 : F36 7 1 = (D36 13 : Int) := (eF36 7 1).trans (pm36_8.trans (congrArg (fun q : Nat => (q : Int)) (eD36 13).symm))
  have pf36_7_2 : F36 7 2 = (D36 14 : Int) := (eF36 7 2).trans (pm36_9.trans (congrArg (fun q : Nat => (q : Int)) (eD36 14).symm))
  have pf36_7_3 : F36 7 3 = (D36 15 : Int) := (eF36 7 3).trans (pm36_10.trans (congrArg (fun q : Nat => (q : Int)) (eD36 15).symm))
  have pf36_7_7 : F36 7 7 = (D36 11 : Int) := ((show F36 7 7 = F30 7 7 from (eF36 7 7).trans (hS36 3 7 rfl))).trans ((pf30_7_7).trans (congrArg (fun q : Nat => (q : Int)) ((show D36 11 = D30 11 from (eD36 11).trans (hD36 7 rfl))).symm))
  have pf36_7_8 : F36 7 8 = (D36 12 : Int) := (eF36 7 8).trans (pm36_6.trans (congrArg (fun q : Nat => (q : Int)) (eD36 12).symm))
  have pf36_8_0 : F36 8 0 = (D36 9 : Int) := ((show F36 8 0 = F30 8 0 from (eF36 8 0).trans (hS36 4 0 rfl))).trans ((pf30_8_0).trans (congrArg (fun q : Nat => (q : Int)) ((show D36 9 = D30 9 from (eD36 9).trans (hD36 5 rfl))).symm))
  have r37 : (0 : Int) ≤ m36_2 ∧ m36_2 ≤ 1000000 := nleE (H.nle 3 (ltn len_V214_Row_Row_oz_D1cls rfl)) (show (N36 3 : Int) = m36_2 from (congrArg (fun q : Nat => (q : Int)) (eN36 3)).trans em36_2)
  have r38 : (0 : Int) ≤ m36_6 ∧ m36_6 ≤ 1000000 := nleE (H.nle 12 (ltn len_V214_Row_Row_oz_D1cls rfl)) (show (N36 12 : Int) = m36_6 from (congrArg (fun q : Nat => (q : Int)) (eN36 12)).trans em36_6)
  have r39 : (0 : Int) ≤ m36_8 ∧ m36_8 ≤ 1000000 := nleE (H.nle 13 (ltn len_V214_Row_Row_oz_D1cls rfl)) (show (N36 13 : Int) = m36_8 from (congrArg (fun q : Nat => (q : Int)) (eN36 13)).trans em36_8)
  have r40 : (0 : Int) ≤ m36_9 ∧ m36_9 ≤ 1000000 := nleE (H.nle 14 (ltn len_V214_Row_Row_oz_D1cls rfl)) (show (N36 14 : Int) = m36_9 from (congrArg (fun q : Nat => (q : Int)) (eN36 14)).trans em36_9)
  have r41 : (0 : Int) ≤ m36_10 ∧ m36_10 ≤ 1000000 := nleE (H.nle 15 (ltn len_V214_Row_Row_oz_D1cls rfl)) (show (N36 15 : Int) = m36_10 from (congrArg (fun q : Nat => (q : Int)) (eN36 15)).trans em36_10)
  have r42 : (-2147483648 : Int) ≤ y36_1_1 ∧ y36_1_1 ≤ 2147483647 := rngE (show (-2147483648 : Int) ≤ F36 1 1 ∧ F36 1 1 ≤ 2147483647 from H.krg 1 1 (ltn len_V214_Row_Row_oz_D1cls rfl)) (show F36 1 1 = y36_1_1 from ((eF36 1 1).trans ey36_1_1))
  have r43 : (0 : Int) ≤ y36_1_2 ∧ y36_1_2 ≤ 1 := rngE (show (0 : Int) ≤ F36 1 2 ∧ F36 1 2 ≤ 1 from H.krg 1 2 (ltn len_V214_Row_Row_oz_D1cls rfl)) (show F36 1 2 = y36_1_2 from ((eF36 1 2).trans ey36_1_2))
  have r44 : (-2147483648 : Int) ≤ y36_3_6 ∧ y36_3_6 ≤ 2147483647 := rngE (show (-2147483648 : Int) ≤ F36 7 6 ∧ F36 7 6 ≤ 2147483647 from H.krg 7 6 (ltn len_V214_Row_Row_oz_D1cls rfl)) (show F36 7 6 = y36_3_6 from ((eF36 7 6).trans ey36_3_6))
  have : PKB (((w10)) 0) ((u5_1)) (sc ((w6)) 0 ((u5_1)) ++ sc ((w4)) 0 ((u2_1))) ((u1_2)) ((w3)) ((u1_1)) ((y36_1_2)) ((w36_2)) ((y36_1_1)) := by have h := pz36_6; rw [hdd] at h; rw [hway, ← pz30_2.1]; exact h
  exact w_ret rfl (k _ _ _ _ _ _ _ H O (cD36) (cN36) (cF36) (cA36) (pf36_1_0) (pf36_8_0) (pf36_7_7) (pf36_7_8) (pf36_7_1) (pf36_7_2) (pf36_7_3) (m36_2) ((congrArg (fun q : Nat => (q : Int)) (eN36 3)).trans em36_2) (m21_2) ((congrArg (fun q : Nat => (q : Int)) (show N36 9 = N30 9 from (eN36 9).trans (hN36 5 rfl))).trans ((congrArg (fun q : Nat => (q : Int)) (show N30 9 = N21 9 from (eN30 9))).trans ((congrArg (fun q : Nat => (q : Int)) (eN21 9)).trans em21_2))) (m30_1) ((congrArg (fun q : Nat => (q : Int)) (show N36 11 = N30 11 from (eN36 11).trans (hN36 7 rfl))).trans ((congrArg (fun q : Nat => (q : Int)) (eN30 11)).trans em30_1)) (m36_6) ((congrArg (fun q : Nat => (q : Int)) (eN36 12)).trans em36_6) (m36_8) ((congrArg (fun q : Nat => (q : Int)) (eN36 13)).trans em36_8) (m36_9) ((congrArg (fun q : Nat => (q : Int)) (eN36 14)).trans em36_9) (m36_10) ((congrArg (fun q : Nat => (q : Int)) (eN36 15)).trans em36_10) (y36_1_1) (((eF36 1 1).trans ey36_1_1)) (y36_1_2) (((eF36 1 2).trans ey36_1_2)) (y21_0_1) (((((show F36 8 1 = F30 8 1 from (eF36 8 1).trans (hS36 4 1 rfl))).trans ((show F30 8 1 = F21 8 1 from (eF30 8 1)))).trans ((eF21 8 1).trans ey21_0_1))) (w36_2) ((eA36 3).trans ew36_2) (show 0 ≤ (y36_1_1) ∧ (y36_1_1) ≤ (m36_2) ∧ (m36_2) ≤ 65536 from pz36_0) (show 0 ≤ (y21_0_1) ∧ (y21_0_1) ≤ (m21_2) ∧ (m21_2) ≤ 65536 from pz21_0) (show (m30_1) = 0 ∨ (m30_1) = 2048 from q_3090 pz30_0) (show (m36_6) ≤ 16384 from q_3089 pz36_1) (show (m36_8) = (m36_9) ∧ (m36_10) = (m36_9) ∧ (m36_9) ≤ 65536 ∧ ((m36_9) = 0 ∨ 64 ≤ (m36_9)) ∧ lgq ((m36_9)) = 0 from pz36_2) (show PKB (((w10)) 0) ((u5_1)) (sc ((w6)) 0 ((u5_1)) ++ sc ((w4)) 0 ((u2_1))) ((u1_2)) ((w3)) ((u1_1)) ((y36_1_2)) ((w36_2)) ((y36_1_1)) by assumption))

