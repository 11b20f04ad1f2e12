abbrev V217_Row : vV := [(0, 7, [(4, 0), (0, 0), (1, 0), (0, 0), (0, 0)]), (1, 0, [])]
theorem len_V217_Row_oz_D1cls : (V217_Row).length = 2 := by decide +kernel
theorem oz_D1cls_1 : vsub V217_Row V162 [0, 1] = true := by decide +kernel
theorem oz_D1cls_2 : vmov V217_Row [0, 1] [1] = true := by decide +kernel
theorem oz_D1cls_3 : vsub V217_Row V159 [0, 1] = true := by decide +kernel
def oz_D1clsl_0 : List (Nat × Nat) := [(0, 0), (0, 1), (0, 2)]
theorem oz_D1cls_4 : (oz_D1clsl_0).all (fun p => !tbz 7 (Nat.add (Nat.mul 32 p.1) p.2)) = true := by decide +kernel
def oz_D1clsl_1 : List Nat := [1]
theorem oz_D1cls_5 : (oz_D1clsl_1).all (fun p => !tbz 2 p) = true := by decide +kernel
def oz_D1clsl_2 : List Nat := [0, 1]
theorem oz_D1cls_6 : okc oz_D1clsl_2 512 = true := by decide +kernel
/-- Tokens.packRest: #1, #1.bytes -/
theorem C217_Row {σE : rS} {D N : Nat → Nat} {F : hF} {A : hA} {d c s : Nat} {Q : wQ} (H : HW V217_Row σE D N F A) {a2 : Int} (pf1 : F 0 0 = (D 1 : Int)) (n1 : Int) (en1 : (N 1 : Int) = n1) (u0_1 : Int) (eu0_1 : F 0 1 = u0_1) (h0 : inr (a2)) (h1 : 0 ≤ (u0_1) ∧ (u0_1) ≤ (n1) ∧ (n1) ≤ 65536) (h2 : 0 ≤ (a2)) (k : ∀ (σ : rS) (Dₚ Nₚ : Nat → Nat) (Fₚ : hF) (Aₚ : hA) (cₚ sₚ : Nat), HW V217_Row σ Dₚ Nₚ Fₚ Aₚ → OUT (V217_Row).length D N σE c s Dₚ Nₚ σ cₚ sₚ → SD [1] D Dₚ → SD [1] N Nₚ → SF [(0, 0), (0, 1), (0, 2)] F Fₚ → SA [1] A Aₚ → Fₚ 0 0 = (Dₚ 1 : Int) → ∀ m1 : Int, (Nₚ 1 : Int) = m1 → ∀ y0_1 : Int, Fₚ 0 1 = y0_1 → (0 ≤ (y0_1) ∧ (y0_1) ≤ (m1) ∧ (m1) ≤ 65536) → Q none σ cₚ sₚ) : Ew 217 (d + 3) 0 (rargs 0 [.ref (D 0), I a2]) [] σE c s Q := by
  have O := OUT_refl (n := (V217_Row).length) (D := D) (N := N) (σ := σE) (c := c) (s := s)
  have HE := H
  have r1 : (-2147483648 : Int) ≤ u0_1 ∧ u0_1 ≤ 2147483647 := rngE (show (-2147483648 : Int) ≤ F 0 1 ∧ F 0 1 ≤ 2147483647 from H.krg 0 1 (ltn len_V217_Row_oz_D1cls rfl)) (show F 0 1 = u0_1 from (eu0_1))
  have r2 : (0 : Int) ≤ n1 ∧ n1 ≤ 1000000 := nleE (H.nle 1 (ltn len_V217_Row_oz_D1cls rfl)) (show (N 1 : Int) = n1 from en1)
  refine Ew_of (pcₚ := 1) (fun _ => x_iload_n rfl rfl) ?_
  refine Ew_of (pcₚ := 3) (fun _ => x_bipush (z := 15) rfl (by decide)) ?_
  refine w_icmpge (t := 7) rfl rfl (show inr (a2) from h0) (show inr (15) from q_143) (fun b3 => ?_) (fun b3 => ?_)
  · refine Ew_of (pcₚ := 8) (fun _ => x_aload_n rfl rfl) ?_
    refine Ew_of (pcₚ := 11) (fun _ => x_sipush (z := 255) rfl (by decide)) ?_
    refine Ew_of (pcₚ := 12) (fun _ => x_iload_n rfl rfl) ?_
    refine Ew_of (pcₚ := 14) (fun _ => x_bipush (z := 15) rfl (by decide)) ?_
    refine w_isub rfl ?_
    refine Ew_of (pcₚ := 18) (fun _ => x_sipush (z := 255) rfl (by decide)) ?_
    refine w_idiv rfl (show inr ((a2 - 15)) ∧ 0 ≤ (a2 - 15) from q_2760 b3 h0) (show inr (255) ∧ 0 < 255 from q_2054) ?_
    refine v_inv H (o := 0) rfl rfl rfl rfl rfl rfl (by rfl) (C162 (D := puc 512 D) (N := puc 512 N) (HW_subc H oz_D1cls_1 oz_D1cls_6) (pf1) (n1) (en1) (u0_1) ((eu0_1)) (show inr (255) from q_36) (show inr (((a2 - 15) / 255)) from q_2761 b3 h0) (show 0 ≤ (u0_1) ∧ (u0_1) ≤ (n1) ∧ (n1) ≤ 65536 from h1) (fun σ4 D4ₚ N4ₚ F4ₚ A4ₚ c4 s4 Hₚ Oₚ hD4 hN4 hS4 hA4 pm4_1 m4_1 em4_1 y4_0_1 ey4_0_1 pz4_0 pz4_1 => ⟨rfl, ?_⟩))
    refine v_backMc (c := c) (s := s) H oz_D1cls_1 oz_D1cls_6 Hₚ Oₚ hD4 oz_D1cls_2 (fun D4 N4 F4 A4 H Oₚ eD4 eN4 eF4 eA4 => ?_)
    have O := OUT_trans O Oₚ
    -- Row.addSame
    have cF4 : SF oz_D1clsl_0 F F4 := SF_trans (SF_refl) (SF_gluc (ι := oz_D1clsl_2) oz_D1cls_6 hS4 eF4 (by decide +kernel)) (any_sub (lₚ := [(0, 0), (0, 1), (0, 2)]) (by decide +kernel))
    have mF4 := SFm_of cF4 oz_D1cls_4
    have cA4 : SA oz_D1clsl_1 A A4 := SA_trans (SA_refl) (SA_gluc (ι := oz_D1clsl_2) oz_D1cls_6 hA4 eA4 (by decide +kernel)) (any_subA (lₚ := [1]) (by decide +kernel))
    have mA4 := SAm_of cA4 oz_D1cls_5
    have cD4 : SD oz_D1clsl_1 D D4 := SD_trans (SD_refl) (SD_gluc (ι := oz_D1clsl_2) oz_D1cls_6 hD4 eD4 (by decide +kernel)) (any_subA (lₚ := [1]) (by decide +kernel))
    have mD4 := SDm_of cD4 oz_D1cls_5
    have cN4 : SD oz_D1clsl_1 N N4 := SD_trans (SD_refl) (SD_gluc (ι := oz_D1clsl_2) oz_D1cls_6 hN4 eN4 (by decide +kernel)) (any_subA (lₚ := [1]) (by decide +kernel))
    have mN4 := SDm_of cN4 oz_D1cls_5
    have pf4_0_0 : F4 0 0 = (D4 1 : Int) := (eF4 0 0).trans (pm4_1.trans (congrArg (fun q : Nat => (q : Int)) (eD4 1).symm))
    have r5 : (0 : Int) ≤ m4_1 ∧ m4_1 ≤ 1000000 := nleE (H.nle 1 (ltn len_V217_Row_oz_D1cls rfl)) (show (N4 1 : Int) = m4_1 from (congrArg (fun q : Nat => (q : Int)) (eN4 1)).trans em4_1)
    have r6 : (-2147483648 : Int) ≤ y4_0_1 ∧ y4_0_1 ≤ 2147483647 := rngE (show (-2147483648 : Int) ≤ F4 0 1 ∧ F4 0 1 ≤ 2147483647 from H.krg 0 1 (ltn len_V217_Row_oz_D1cls rfl)) (show F4 0 1 = y4_0_1 from ((eF4 0 1).trans ey4_0_1))
    refine Ew_of (pcₚ := 23) (fun _ => x_aload_n rfl rfl) ?_
    refine Ew_of (pcₚ := 24) (fun _ => x_iload_n rfl rfl) ?_
    refine Ew_of (pcₚ := 26) (fun _ => x_bipush (z := 15) rfl (by decide)) ?_
    refine w_isub rfl ?_
    refine Ew_of (pcₚ := 30) (fun _ => x_sipush (z := 255) rfl (by decide)) ?_
    refine w_irem rfl (show inr ((a2 - 15)) ∧ 0 ≤ (a2 - 15) from q_2760 b3 h0) (show inr (255) ∧ 0 < 255 from q_2054) ?_
    refine Ew_stk (congrArg (fun qz : Nat => ([I (((a2 - 15) % 255)), .ref qz] : List Value)) (show D4 0 = D 0 from mD4 0 rfl).symm) ?_
    refine v_inv H (o := 0) rfl rfl rfl rfl rfl rfl (by rfl) (C159 (D := puc 512 D4) (N := puc 512 N4) (HW_subc H oz_D1cls_3 oz_D1cls_6) (pf4_0_0) (m4_1) ((congrArg (fun q : Nat => (q : Int)) (eN4 1)).trans em4_1) (y4_0_1) (((eF4 0 1).trans ey4_0_1)) (show inr (((a2 - 15) % 255)) from q_2762) (show 0 ≤ (y4_0_1) ∧ (y4_0_1) ≤ (m4_1) ∧ (m4_1) ≤ 65536 from pz4_0) (fun σ7 D7ₚ N7ₚ F7ₚ A7ₚ c7 s7 Hₚ Oₚ hD7 hN7 hS7 hA7 pm7_1 m7_1 em7_1 y7_0_1 ey7_0_1 pz7_0 pz7_1 pz7_2 => ⟨rfl, ?_⟩))
    refine v_backMc (c := (c + c4)) (s := (s + s4)) H oz_D1cls_3 oz_D1cls_6 Hₚ Oₚ hD7 oz_D1cls_2 (fun D7 N7 F7 A7 H Oₚ eD7 eN7 eF7 eA7 => ?_)
    have O := OUT_trans O Oₚ
    -- Row.add
    have cF7 : SF oz_D1clsl_0 F F7 := SF_trans (cF4) (SF_gluc (ι := oz_D1clsl_2) oz_D1cls_6 hS7 eF7 (by decide +kernel)) (any_sub (lₚ := [(0, 0), (0, 1), (0, 2)]) (by decide +kernel))
    have mF7 := SFm_of cF7 oz_D1cls_4
    have cA7 : SA oz_D1clsl_1 A A7 := SA_trans (cA4) (SA_gluc (ι := oz_D1clsl_2) oz_D1cls_6 hA7 eA7 (by decide +kernel)) (any_subA (lₚ := [1]) (by decide +kernel))
    have mA7 := SAm_of cA7 oz_D1cls_5
    have cD7 : SD oz_D1clsl_1 D D7 := SD_trans (cD4) (SD_gluc (ι := oz_D1clsl_2) oz_D1cls_6 hD7 eD7 (by decide +kernel)) (any_subA (lₚ := [1]) (by decide +kernel))
    have mD7 := SDm_of cD7 oz_D1cls_5
    have cN7 : SD oz_D1clsl_1 N N7 := SD_trans (cN4) (SD_gluc (ι := oz_D1clsl_2) oz_D1cls_6 hN7 eN7 (by decide +kernel)) (any_subA (lₚ := [1]) (by decide +kernel))
    have mN7 := SDm_of cN7 oz_D1cls_5
    have pf7_0_0 : F7 0 0 = (D7 1 : Int) := (eF7 0 0).trans (pm7_1.trans (congrArg (fun q : Nat => (q : Int)) (eD7 1).symm))
    have r8 : (0 : Int) ≤ m7_1 ∧ m7_1 ≤ 1000000 := nleE (H.nle 1 (ltn len_V217_Row_oz_D1cls rfl)) (show (N7 1 : Int) = m7_1 from (congrArg (fun q : Nat => (q : Int)) (eN7 1)).trans em7_1)
    have r9 : (-2147483648 : Int) ≤ y7_0_1 ∧ y7_0_1 ≤ 2147483647 := rngE (show (-2147483648 : Int) ≤ F7 0 1 ∧ F7 0 1 ≤ 2147483647 from H.krg 0 1 (ltn len_V217_Row_oz_D1cls rfl)) (show F7 0 1 = y7_0_1 from ((eF7 0 1).trans ey7_0_1))
    exact w_ret rfl (k _ _ _ _ _ _ _ H O (cD7) (cN7) (cF7) (cA7) (pf7_0_0) (m7_1) ((congrArg (fun q : Nat => (q : Int)) (eN7 1)).trans em7_1) (y7_0_1) (((eF7 0 1).trans ey7_0_1)) (show 0 ≤ (y7_0_1) ∧ (y7_0_1) ≤ (m7_1) ∧ (m7_1) ≤ 65536 from pz7_0))
  · exact w_ret rfl (k _ _ _ _ _ _ _ H O (SD_refl) (SD_refl) (SF_refl) (SA_refl) (pf1) (n1) (en1) (u0_1) ((eu0_1)) (show 0 ≤ (u0_1) ∧ (u0_1) ≤ (n1) ∧ (n1) ≤ 65536 from h1))
abbrev V216_Row : vV := [(0, 11, [(4, 0), (4, 0), (4, 0), (4, 0), (4, 0), (0, 0), (4, 0), (0, 0), (0, 0), (0, 0), (0, 0), (0, 0), (0, 0)]), (0, 7, [(4, 0), (0, 0), (1, 0), (0, 0), (0, 0)]), (1, 0, []), (0, 5, [(4, 0), (4, 0), (4, 0), (4, 0), (0, 0), (0, 0), (0, 0), (4, 0), (4, 0), (0, 0), (0, 0), (0, 0), (0, 0), (0, 0), (0, 0), (0, 0), (0, 0), (0, 0), (0, 0)]), (0, 7, [(4, 0), (0, 0), (1, 0), (0, 0), (0, 0)]), (1, 0, [])]
theorem len_V216_Row_oz_D1cls : (V216_Row).length = 6 := by decide +kernel
theorem oz_D1cls_8 : vsub V216_Row V159 [1, 2] = true := by decide +kernel
theorem oz_D1cls_9 : vmov V216_Row [1, 2] [1] = true := by decide +kernel
theorem oz_D1cls_10 : vsub V216_Row V217_Row [1, 2] = true := by decide +kernel
theorem oz_D1cls_11 : vsub V216_Row V161_Br [1, 5, 2] = true := by decide +kernel
theorem oz_D1cls_12 : vmov V216_Row [1, 5, 2] [2] = true := by decide +kernel
def oz_D1clsl_3 : List (Nat × Nat) := [(1, 0), (1, 1), (1, 2)]
theorem oz_D1cls_13 : (oz_D1clsl_3).all (fun p => !tbz 30064771072 (Nat.add (Nat.mul 32 p.1) p.2)) = true := by decide +kernel
def oz_D1clsl_4 : List Nat := [2]
theorem oz_D1cls_14 : (oz_D1clsl_4).all (fun p => !tbz 4 p) = true := by decide +kernel
def oz_D1clsl_5 : List Nat := [1, 2]
theorem oz_D1cls_15 : okc oz_D1clsl_5 1025 = true := by decide +kernel
def oz_D1clsl_6 : List Nat := [1, 5, 2]
theorem oz_D1cls_16 : okc oz_D1clsl_6 526849 = true := by decide +kernel
/-- Tokens.packLiterals: this, #1, #1.bytes, this.finder, this.finder.data, this.finder.data.bytes -/
theorem C216_Row {σE : rS} {D N : Nat → Nat} {F : hF} {A : hA} {d c s : Nat} {Q : wQ} (H : HW V216_Row σE D N F A) {a2 a3 a4 : Int} (pf2 : F 1 0 = (D 2 : Int)) (pf3 : F 0 2 = (D 3 : Int)) (pf4 : F 3 0 = (D 4 : Int)) (pf5 : F 4 0 = (D 5 : Int)) (n2 : Int) (en2 : (N 2 : Int) = n2) (n5 : Int) (en5 : (N 5 : Int) = n5) (u1_1 : Int) (eu1_1 : F 1 1 = u1_1) (u4_1 : Int) (eu4_1 : F 4 1 = u4_1) (h0 : inr (a2)) (h1 : inr (a3)) (h2 : inr (a4)) (h3 : 0 ≤ (u1_1) ∧ (u1_1) ≤ (n2) ∧ (n2) ≤ 65536) (h4 : 0 ≤ (u4_1) ∧ (u4_1) ≤ (n5) ∧ (n5) ≤ 65536) (h5 : 0 ≤ (a2) ∧ 0 ≤ (a3) ∧ (a2) + (a3) ≤ (n5)) (h6 : 0 ≤ (a4)) (k : ∀ (σ : rS) (Dₚ Nₚ : Nat → Nat) (Fₚ : hF) (Aₚ : hA) (cₚ sₚ : Nat), HW V216_Row σ Dₚ Nₚ Fₚ Aₚ → OUT (V216_Row).length D N σE c s Dₚ Nₚ σ cₚ sₚ → SD [2] D Dₚ → SD [2] N Nₚ → SF [(1, 0), (1, 1), (1, 2)] F Fₚ → SA [2] A Aₚ → Fₚ 1 0 = (Dₚ 2 : Int) → ∀ m2 : Int, (Nₚ 2 : Int) = m2 → ∀ y1_1 : Int, Fₚ 1 1 = y1_1 → (0 ≤ (y1_1) ∧ (y1_1) ≤ (m2) ∧ (m2) ≤ 65536) → Q none σ cₚ sₚ) : Ew 216 (d + 4) 0 (rargs 0 [.ref (D 0), .ref (D 1), I a2, I a3, I a4]) [] σE c s Q := by
  have O := OUT_refl (n := (V216_Row).length) (D := D) (N := N) (σ := σE) (c := c) (s := s)
  have HE := H
  have r1 : (-2147483648 : Int) ≤ u1_1 ∧ u1_1 ≤ 2147483647 := rngE (show (-2147483648 : Int) ≤ F 1 1 ∧ F 1 1 ≤ 2147483647 from H.krg 1 1 (ltn len_V216_Row_oz_D1cls rfl)) (show F 1 1 = u1_1 from (eu1_1))
  have r2 : (-2147483648 : Int) ≤ u4_1 ∧ u4_1 ≤ 2147483647 := rngE (show (-2147483648 : Int) ≤ F 4 1 ∧ F 4 1 ≤ 2147483647 from H.krg 4 1 (ltn len_V216_Row_oz_D1cls rfl)) (show F 4 1 = u4_1 from (eu4_1))
  have r3 : (0 : Int) ≤ n2 ∧ n2 ≤ 1000000 := nleE (H.nle 2 (ltn len_V216_Row_oz_D1cls rfl)) (show (N 2 : Int) = n2 from en2)
  have r4 : (0 : Int) ≤ n5 ∧ n5 ≤ 1000000 := nleE (H.nle 5 (ltn len_V216_Row_oz_D1cls rfl)) (show (N 5 : Int) = n5 from en5)
  refine Ew_of (pcₚ := 1) (fun _ => x_aload_n rfl rfl) ?_
  refine Ew_of (pcₚ := 2) (fun _ => x_iload_n rfl rfl) ?_
  refine Ew_of (pcₚ := 4) (fun _ => x_bipush (z := 15) rfl (by decide)) ?_
  refine v_min rfl rfl (show inr (a3) from h1) (show inr (15) from q_143) (fun z5 gz5 => ?_)
  refine Ew_of (pcₚ := 8) (fun _ => x_iconst rfl) ?_
  refine w_ishlA rfl (fun z6 gz6 => ?_)
  refine Ew_of (pcₚ := 11) (fun _ => x_iload rfl rfl) ?_
  refine Ew_of (pcₚ := 13) (fun _ => x_bipush (z := 15) rfl (by decide)) ?_
  refine v_min rfl rfl (show inr (a4) from h2) (show inr (15) from q_143) (fun z7 gz7 => ?_)
  refine w_ior rfl (fun z8 gz8 => ?_)
  refine v_inv H (o := 1) rfl rfl rfl rfl rfl rfl (by rfl) (C159 (D := puc 1025 D) (N := puc 1025 N) (HW_subc H oz_D1cls_8 oz_D1cls_15) (pf2) (n2) (en2) (u1_1) ((eu1_1)) (show inr (z8) from gz8) (show 0 ≤ (u1_1) ∧ (u1_1) ≤ (n2) ∧ (n2) ≤ 65536 from h3) (fun σ9 D9ₚ N9ₚ F9ₚ A9ₚ c9 s9 Hₚ Oₚ hD9 hN9 hS9 hA9 pm9_1 m9_1 em9_1 y9_0_1 ey9_0_1 pz9_0 pz9_1 pz9_2 => ⟨rfl, ?_⟩))
  refine v_backMc (c := c) (s := s) H oz_D1cls_8 oz_D1cls_15 Hₚ Oₚ hD9 oz_D1cls_9 (fun D9 N9 F9 A9 H Oₚ eD9 eN9 eF9 eA9 => ?_)
  have O := OUT_trans O Oₚ
  -- Row.add
  have cF9 : SF oz_D1clsl_3 F F9 := SF_trans (SF_refl) (SF_gluc (ι := oz_D1clsl_5) oz_D1cls_15 hS9 eF9 (by decide +kernel)) (any_sub (lₚ := [(1, 0), (1, 1), (1, 2)]) (by decide +kernel))
  have mF9 := SFm_of cF9 oz_D1cls_13
  have cA9 : SA oz_D1clsl_4 A A9 := SA_trans (SA_refl) (SA_gluc (ι := oz_D1clsl_5) oz_D1cls_15 hA9 eA9 (by decide +kernel)) (any_subA (lₚ := [2]) (by decide +kernel))
  have mA9 := SAm_of cA9 oz_D1cls_14
  have cD9 : SD oz_D1clsl_4 D D9 := SD_trans (SD_refl) (SD_gluc (ι := oz_D1clsl_5) oz_D1cls_15 hD9 eD9 (by decide +kernel)) (any_subA (lₚ := [2]) (by decide +kernel))
  have mD9 := SDm_of cD9 oz_D1cls_14
  have cN9 : SD oz_D1clsl_4 N N9 := SD_trans (SD_refl) (SD_gluc (ι := oz_D1clsl_5) oz_D1cls_15 hN9 eN9 (by decide +kernel)) (any_subA (lₚ := [2]) (by decide +kernel))
  have mN9 := SDm_of cN9 oz_D1cls_14
  have pf9_1_0 : F9 1 0 = (D9 2 : Int) := (eF9 1 0).trans (pm9_1.trans (congrArg (fun q : Nat => (q : Int)) (eD9 2).symm))
  have r10 : (0 : Int) ≤ m9_1 ∧ m9_1 ≤ 1000000 := nleE (H.nle 2 (ltn len_V216_Row_oz_D1cls rfl)) (show (N9 2 : Int) = m9_1 from (congrArg (fun q : Nat => (q : Int)) (eN9 2)).trans em9_1)
  have r11 : (-2147483648 : Int) ≤ y9_0_1 ∧ y9_0_1 ≤ 2147483647 := rngE (show (-2147483648 : Int) ≤ F9 1 1 ∧ F9 1 1 ≤ 2147483647 from H.krg 1 1 (ltn len_V216_Row_oz_D1cls rfl)) (show F9 1 1 = y9_0_1 from ((eF9 1 1).trans ey9_0_1))
  refine Ew_of (pcₚ := 21) (fun _ => x_aload_n rfl rfl) ?_
  refine Ew_of (pcₚ := 22) (fun _ => x_iload_n rfl rfl) ?_
  refine Ew_stk (congrArg (fun qz : Nat => ([I (a3), .ref qz] : List Value)) (show D9 1 = D 1 from mD9 1 rfl).symm) ?_
  refine w_stat24 rfl rfl (by rfl) (C217_Row (D := puc 1025 D9) (N := puc 1025 N9) (HW_subc H oz_D1cls_10 oz_D1cls_15) (pf9_1_0) (m9_1) ((congrArg (fun q : Nat => (q : Int)) (eN9 2)).trans em9_1) (y9_0_1) (((eF9 1 1).trans ey9_0_1)) (show inr (a3) from h1) (show 0 ≤ (y9_0_1) ∧ (y9_0_1) ≤ (m9_1) ∧ (m9_1) ≤ 65536 from pz9_0) (show 0 ≤ (a3) from q_2763 h5) (fun σ12 D12ₚ N12ₚ F12ₚ A12ₚ c12 s12 Hₚ Oₚ hD12 hN12 hS12 hA12 pm12_1 m12_1 em12_1 y12_0_1 ey12_0_1 pz12_0 => ⟨rfl, ?_⟩))
  refine v_backMc (c := (c + c9)) (s := (s + s9)) H oz_D1cls_10 oz_D1cls_15 Hₚ Oₚ hD12 oz_D1cls_9 (fun D12 N12 F12 A12 H Oₚ eD12 eN12 eF12 eA12 => ?_)
  have O := OUT_trans O Oₚ
  -- Tokens.packRest
  have cF12 : SF oz_D1clsl_3 F F12 := SF_trans (cF9) (SF_gluc (ι := oz_D1clsl_5) oz_D1cls_15 hS12 eF12 (by decide +kernel)) (any_sub (lₚ := [(1, 0), (1, 1), (1, 2)]) (by decide +kernel))
  have mF12 := SFm_of cF12 oz_D1cls_13
  have cA12 : SA oz_D1clsl_4 A A12 := SA_trans (cA9) (SA_gluc (ι := oz_D1clsl_5) oz_D1cls_15 hA12 eA12 (by decide +kernel)) (any_subA (lₚ := [2]) (by decide +kernel))
  have mA12 := SAm_of cA12 oz_D1cls_14
  have cD12 : SD oz_D1clsl_4 D D12 := SD_trans (cD9) (SD_gluc (ι := oz_D1clsl_5) oz_D1cls_15 hD12 eD12 (by decide +kernel)) (any_subA (lₚ := [2]) (by decide +kernel))
  have mD12 := SDm_of cD12 oz_D1cls_14
  have cN12 : SD oz_D1clsl_4 N N12 := SD_trans (cN9) (SD_gluc (ι := oz_D1clsl_5) oz_D1cls_15 hN12 eN12 (by decide +kernel)) (any_subA (lₚ := [2]) (by decide +kernel))
  have mN12 := SDm_of cN12 oz_D1cls_14
  have pf12_1_0 : F12 1 0 = (D12 2 : Int) := (eF12 1 0).trans (pm12_1.trans (congrArg (fun q : Nat => (q : Int)) (eD12 2).symm))
  have r13 : (0 : Int) ≤ m12_1 ∧ m12_1 ≤ 1000000 := nleE (H.nle 2 (ltn len_V216_Row_oz_D1cls rfl)) (show (N12 2 : Int) = m12_1 from (congrArg (fun q : Nat => (q : Int)) (eN12 2)).trans em12_1)
  have r14 : (-2147483648 : Int) ≤ y12_0_1 ∧ y12_0_1 ≤ 2147483647 := rngE (show (-2147483648 : Int) ≤ F12 1 1 ∧ F12 1 1 ≤ 2147483647 from H.krg 1 1 (ltn len_V216_Row_oz_D1cls rfl)) (show F12 1 1 = y12_0_1 from ((eF12 1 1).trans ey12_0_1))
  refine Ew_of (pcₚ := 26) (fun _ => x_aload_n rfl rfl) ?_
  refine Ew_of (pcₚ := 27) (fun _ => x_aload_n rfl rfl) ?_
  refine Ew_stk (show ([.ref (D 0), .ref (D 1)] : List Value) = [.ref (D12 0), .ref (D12 1)] by rw [show D12 0 = D 0 from mD12 0 rfl, show D12 1 = D 1 from mD12 1 rfl]) ?_
  refine v_g H (o := 0) (v := .ref (D12 3)) rfl rfl rfl rfl rfl (vrf ((mF12 0 2 rfl).trans ((pf3).trans (congrArg (fun q : Nat => (q : Int)) (mD12 3 rfl).symm)))) ?_
  refine v_g H (o := 3) (v := .ref (D12 4)) rfl rfl rfl rfl rfl (vrf ((mF12 3 0 rfl).trans ((pf4).trans (congrArg (fun q : Nat => (q : Int)) (mD12 4 rfl).symm)))) ?_
  refine v_g H (o := 4) (v := .ref (D12 5)) rfl rfl rfl rfl rfl (vrf ((mF12 4 0 rfl).trans ((pf5).trans (congrArg (fun q : Nat => (q : Int)) (mD12 5 rfl).symm)))) ?_
  refine Ew_of (pcₚ := 37) (fun _ => x_iload_n rfl rfl) ?_
  refine Ew_of (pcₚ := 38) (fun _ => x_iload_n rfl rfl) ?_
  refine v_inv H (o := 1) rfl rfl rfl rfl rfl rfl (by rfl) (C161_Br (D := puc 526849 D12) (N := puc 526849 N12) (HW_subc H oz_D1cls_11 oz_D1cls_16) (pf12_1_0) (n5) ((congrArg (fun q : Nat => (q : Int)) (mN12 5 rfl)).trans (en5)) (m12_1) ((congrArg (fun q : Nat => (q : Int)) (eN12 2)).trans em12_1) (y12_0_1) (((eF12 1 1).trans ey12_0_1)) (A12 2) (rfl) (show inr (a2) from h0) (show inr (a3) from h1) (show 0 ≤ (y12_0_1) ∧ (y12_0_1) ≤ (m12_1) ∧ (m12_1) ≤ 65536 from pz12_0) (show (a3) < 0 ∨ 0 ≤ (a2) ∧ (a2) + (a3) ≤ (n5) from q_2764 h5) (fun σ15 D15ₚ N15ₚ F15ₚ A15ₚ c15 s15 Hₚ Oₚ hD15 hN15 hS15 hA15 pm15_2 m15_2 em15_2 y15_0_1 ey15_0_1 w15_2 ew15_2 pz15_0 pz15_1 pz15_2 => ⟨rfl, ?_⟩))
  refine v_backMc (c := ((c + c9) + c12)) (s := ((s + s9) + s12)) H oz_D1cls_11 oz_D1cls_16 Hₚ Oₚ hD15 oz_D1cls_12 (fun D15 N15 F15 A15 H Oₚ eD15 eN15 eF15 eA15 => ?_)
  have O := OUT_trans O Oₚ
  -- Row.addPart
  have cF15 : SF oz_D1clsl_3 F F15 := SF_trans (cF12) (SF_gluc (ι := oz_D1clsl_6) oz_D1cls_16 hS15 eF15 (by decide +kernel)) (any_sub (lₚ := [(1, 0), (1, 1), (1, 2)]) (by decide +kernel))
  have mF15 := SFm_of cF15 oz_D1cls_13
  have cA15 : SA oz_D1clsl_4 A A15 := SA_trans (cA12) (SA_gluc (ι := oz_D1clsl_6) oz_D1cls_16 hA15 eA15 (by decide +kernel)) (any_subA (lₚ := [2]) (by decide +kernel))
  have mA15 := SAm_of cA15 oz_D1cls_14
  have cD15 : SD oz_D1clsl_4 D D15 := SD_trans (cD12) (SD_gluc (ι := oz_D1clsl_6) oz_D1cls_16 hD15 eD15 (by decide +kernel)) (any_subA (lₚ := [2]) (by decide +kernel))
  have mD15 := SDm_of cD15 oz_D1cls_14
  have cN15 : SD oz_D1clsl_4 N N15 := SD_trans (cN12) (SD_gluc (ι := oz_D1clsl_6) oz_D1cls_16 hN15 eN15 (by decide +kernel)) (any_subA (lₚ := [2]) (by decide +kernel))
  have mN15 := SDm_of cN15 oz_D1cls_14
  have pf15_1_0 : F15 1 0 = (D15 2 : Int) := (eF15 1 0).trans (pm15_2.trans (congrArg (fun q : Nat => (q : Int)) (eD15 2).symm))
  have r16 : (0 : Int) ≤ m15_2 ∧ m15_2 ≤ 1000000 := nleE (H.nle 2 (ltn len_V216_Row_oz_D1cls rfl)) (show (N15 2 : Int) = m15_2 from (congrArg (fun q : Nat => (q : Int)) (eN15 2)).trans em15_2)
  have r17 : (-2147483648 : Int) ≤ y15_0_1 ∧ y15_0_1 ≤ 2147483647 := rngE (show (-2147483648 : Int) ≤ F15 1 1 ∧ F15 1 1 ≤ 2147483647 from H.krg 1 1 (ltn len_V216_Row_oz_D1cls rfl)) (show F15 1 1 = y15_0_1 from ((eF15 1 1).trans ey15_0_1))
  exact w_ret rfl (k _ _ _ _ _ _ _ H O (cD15) (cN15) (cF15) (cA15) (pf15_1_0) (m15_2) ((congrArg (fun q : Nat => (q : Int)) (eN15 2)).trans em15_2) (y15_0_1) (((eF15 1 1).trans ey15_0_1)) (show 0 ≤ (y15_0_1) ∧ (y15_0_1) ≤ (m15_2) ∧ (m15_2) ≤ 65536 from pz15_0))
abbrev V215_Row : vV := [(0, 11, [(4, 0), (4, 0), (4, 0), (4, 0), (4, 0), (0, 0), (4, 0), (0, 0), (0, 0), (0, 0), (0, 0), (0, 0), (0, 0)]), (0, 7, [(4, 0), (0, 0), (1, 0), (0, 0), (0, 0)]), (1, 0, []), (0, 5, [(4, 0), (4, 0), (4, 0), (4, 0), (0, 0), (0, 0), (0, 0), (4, 0), (4, 0), (0, 0), (0, 0), (0, 0), (0, 0), (0, 0), (0, 0), (0, 0), (0, 0), (0, 0), (0, 0)]), (0, 7, [(4, 0), (0, 0), (1, 0), (0, 0), (0, 0)]), (1, 0, []), (1, 1, []), (1, 1, []), (1, 1, []), (1, 1, []), (1, 1, [])]
theorem len_V215_Row_oz_D1cls : (V215_Row).length = 11 := by decide +kernel
theorem oz_D1cls_18 : vsub V215_Row V123 [3, 4, 5, 6, 7] = true := by decide +kernel
theorem oz_D1cls_19 : vmov V215_Row [3, 4, 5, 6, 7] [3] = true := by decide +kernel
theorem oz_D1cls_20 : vsub V215_Row V125 [3, 4, 5, 6, 8, 9, 10] = true := by decide +kernel
theorem oz_D1cls_21 : vmov V215_Row [3, 4, 5, 6, 8, 9, 10] [4, 5, 6] = true := by decide +kernel
theorem oz_D1cls_22 : vsub V215_Row V216_Row [0, 1, 2, 3, 4, 5] = true := by decide +kernel
theorem oz_D1cls_23 : vmov V215_Row [0, 1, 2, 3, 4, 5] [2] = true := by decide +kernel
theorem oz_D1cls_24 : vsub V215_Row V160 [1, 2] = true := by decide +kernel
theorem oz_D1cls_25 : vmov V215_Row [1, 2] [1] = true := by decide +kernel
theorem oz_D1cls_26 : vsub V215_Row V217_Row [1, 2] = true := by decide +kernel
def oz_D1clsl_7 : List (Nat × Nat) := [(1, 0), (1, 1), (1, 2), (3, 1), (3, 2), (3, 3), (3, 4), (3, 5), (3, 6), (3, 8), (3, 12), (3, 13), (3, 14), (3, 15), (3, 16), (3, 17), (3, 18)]
theorem oz_D1cls_27 : (oz_D1clsl_7).all (fun p => !tbz 41244121472700643278421578466983936 (Nat.add (Nat.mul 32 p.1) p.2)) = true := by decide +kernel
def oz_D1clsl_8 : List Nat := [2, 6, 7, 8, 9, 10]
theorem oz_D1cls_28 : (oz_D1clsl_8).all (fun p => !tbz 1988 p) = true := by decide +kernel
def oz_D1clsl_9 : List Nat := [2, 6, 8, 9, 10]
theorem oz_D1cls_29 : (oz_D1clsl_9).all (fun p => !tbz 1860 p) = true := by decide +kernel
def oz_D1clsl_10 : List Nat := [3, 4, 5, 6, 7]
theorem oz_D1cls_30 : okc oz_D1clsl_10 481842956291 = true := by decide +kernel
def oz_D1clsl_11 : List Nat := [3, 4, 5, 6, 8, 9, 10]
theorem oz_D1cls_31 : okc oz_D1clsl_11 180461195006052355 = true := by decide +kernel
def oz_D1clsl_12 : List Nat := [0, 1, 2, 3, 4, 5]
theorem oz_D1cls_32 : okc oz_D1clsl_12 176197141529088 = true := by decide +kernel
/-- Tokens.packBlock: this, #1, #1.bytes, this.finder, this.finder.data, this.finder.data.bytes, this.finder.back, this.finder.heads, this.finder.literals, this.finder.lengths, this.finder.distances -/
theorem C215_Row {σE : rS} {D N : Nat → Nat} {F : hF} {A : hA} {d c s : Nat} {Q : wQ} (H : HW V215_Row σE D N F A) {a2 : Int} (pf2 : F 1 0 = (D 2 : Int)) (pf3 : F 0 2 = (D 3 : Int)) (pf4 : F 3 0 = (D 4 : Int)) (pf5 : F 4 0 = (D 5 : Int)) (pf6 : F 3 8 = (D 6 : Int)) (pf7 : F 3 7 = (D 7 : Int)) (pf8 : F 3 1 = (D 8 : Int)) (pf9 : F 3 2 = (D 9 : Int)) (pf10 : F 3 3 = (D 10 : Int)) (n2 : Int) (en2 : (N 2 : Int) = n2) (n5 : Int) (en5 : (N 5 : Int) = n5) (n6 : Int) (en6 : (N 6 : Int) = n6) (n7 : Int) (en7 : (N 7 : Int) = n7) (n8 : Int) (en8 : (N 8 : Int) = n8) (n9 : Int) (en9 : (N 9 : Int) = n9) (n10 : Int) (en10 : (N 10 : Int) = n10) (u1_1 : Int) (eu1_1 : F 1 1 = u1_1) (u3_6 : Int) (eu3_6 : F 3 6 = u3_6) (u3_10 : Int) (eu3_10 : F 3 10 = u3_10) (u4_1 : Int) (eu4_1 : F 4 1 = u4_1) (w5 : Int → Int) (ew5 : A 5 = w5) (w6 : Int → Int) (ew6 : A 6 = w6) (w7 : Int → Int) (ew7 : A 7 = w7) (h0 : inr (a2)) (h1 : 0 ≤ (u1_1) ∧ (u1_1) ≤ (n2) ∧ (n2) ≤ 65536) (h2 : 0 ≤ (u4_1) ∧ (u4_1) ≤ (n5) ∧ (n5) ≤ 65536 ∧ (u4_1) ≤ 16384) (h3 : (u3_10) = 4) (h4 : 0 ≤ (a2) ∧ (a2) ≤ (u4_1)) (h5 : BKI ((w5)) ((w6)) ((u3_10)) ((u3_6))) (h6 : HDI ((w5)) ((w7)) ((u3_10)) ((u3_6))) (h7 : (n8) = (n9) ∧ (n10) = (n9) ∧ (n9) ≤ 65536 ∧ ((n9) = 0 ∨ 64 ≤ (n9)) ∧ lgq ((n9)) = 0) (h8 : (n7) = 2048) (h9 : 0 ≤ (u3_6) ∧ (u3_6) ≤ (n6) ∧ (n6) ≤ 16384) (k : ∀ (σ : rS) (Dₚ Nₚ : Nat → Nat) (Fₚ : hF) (Aₚ : hA) (cₚ sₚ : Nat), HW V215_Row σ Dₚ Nₚ Fₚ Aₚ → OUT (V215_Row).length D N σE c s Dₚ Nₚ σ cₚ sₚ → SD [2, 6, 8, 9, 10] D Dₚ → SD [2, 6, 8, 9, 10] N Nₚ → SF [(1, 0), (1, 1), (1, 2), (3, 1), (3, 2), (3, 3), (3, 4), (3, 5), (3, 6), (3, 8), (3, 12), (3, 13), (3, 14), (3, 15), (3, 16), (3, 17), (3, 18)] F Fₚ → SA [2, 6, 7, 8, 9, 10] A Aₚ → Fₚ 1 0 = (Dₚ 2 : Int) → Fₚ 3 8 = (Dₚ 6 : Int) → Fₚ 3 1 = (Dₚ 8 : Int) → Fₚ 3 2 = (Dₚ 9 : Int) → Fₚ 3 3 = (Dₚ 10 : Int) → ∀ m2 : Int, (Nₚ 2 : Int) = m2 → ∀ m6 : Int, (Nₚ 6 : Int) = m6 → ∀ m8 : Int, (Nₚ 8 : Int) = m8 → ∀ m9 : Int, (Nₚ 9 : Int) = m9 → ∀ m10 : Int, (Nₚ 10 : Int) = m10 → ∀ y1_1 : Int, Fₚ 1 1 = y1_1 → ∀ y3_6 : Int, Fₚ 3 6 = y3_6 → ∀ v6 : Int → Int, Aₚ 6 = v6 → ∀ v7 : Int → Int, Aₚ 7 = v7 → (0 ≤ (y1_1) ∧ (y1_1) ≤ (m2) ∧ (m2) ≤ 65536) → (0 ≤ (y3_6) ∧ (u3_6) ≤ (y3_6) ∧ (y3_6) ≤ (m6) ∧ (m6) ≤ 16384) → ((m8) = (m9) ∧ (m10) = (m9) ∧ (m9) ≤ 65536 ∧ ((m9) = 0 ∨ 64 ≤ (m9)) ∧ lgq ((m9)) = 0) → (BKI ((w5)) ((v6)) ((u3_10)) ((y3_6))) → (HDI ((w5)) ((v7)) ((u3_10)) ((y3_6))) → ((y3_6) = (u3_6) ∨ (y3_6) + 4 ≤ (u4_1) + 1) → Q none σ cₚ sₚ) : Ew 215 (d + 5) 0 (rargs 0 [.ref (D 0), .ref (D 1), I a2]) [] σE c s Q := by
  have O := OUT_refl (n := (V215_Row).length) (D := D) (N := N) (σ := σE) (c := c) (s := s)
  have HE := H
  have r1 : (-2147483648 : Int) ≤ u1_1 ∧ u1_1 ≤ 2147483647 := rngE (show (-2147483648 : Int) ≤ F 1 1 ∧ F 1 1 ≤ 2147483647 from H.krg 1 1 (ltn len_V215_Row_oz_D1cls rfl)) (show F 1 1 = u1_1 from (eu1_1))
  have r2 : (-2147483648 : Int) ≤ u3_6 ∧ u3_6 ≤ 2147483647 := rngE (show (-2147483648 : Int) ≤ F 3 6 ∧ F 3 6 ≤ 2147483647 from H.krg 3 6 (ltn len_V215_Row_oz_D1cls rfl)) (show F 3 6 = u3_6 from (eu3_6))
  have r3 : (-2147483648 : Int) ≤ u3_10 ∧ u3_10 ≤ 2147483647 := rngE (show (-2147483648 : Int) ≤ F 3 10 ∧ F 3 10 ≤ 2147483647 from H.krg 3 10 (ltn len_V215_Row_oz_D1cls rfl)) (show F 3 10 = u3_10 from (eu3_10))
  have r4 : (-2147483648 : Int) ≤ u4_1 ∧ u4_1 ≤ 2147483647 := rngE (show (-2147483648 : Int) ≤ F 4 1 ∧ F 4 1 ≤ 2147483647 from H.krg 4 1 (ltn len_V215_Row_oz_D1cls rfl)) (show F 4 1 = u4_1 from (eu4_1))
  have r5 : (0 : Int) ≤ n2 ∧ n2 ≤ 1000000 := nleE (H.nle 2 (ltn len_V215_Row_oz_D1cls rfl)) (show (N 2 : Int) = n2 from en2)
  have r6 : (0 : Int) ≤ n5 ∧ n5 ≤ 1000000 := nleE (H.nle 5 (ltn len_V215_Row_oz_D1cls rfl)) (show (N 5 : Int) = n5 from en5)
  have r7 : (0 : Int) ≤ n6 ∧ n6 ≤ 1000000 := nleE (H.nle 6 (ltn len_V215_Row_oz_D1cls rfl)) (show (N 6 : Int) = n6 from en6)
  have r8 : (0 : Int) ≤ n7 ∧ n7 ≤ 1000000 := nleE (H.nle 7 (ltn len_V215_Row_oz_D1cls rfl)) (show (N 7 : Int) = n7 from en7)
  have r9 : (0 : Int) ≤ n8 ∧ n8 ≤ 1000000 := nleE (H.nle 8 (ltn len_V215_Row_oz_D1cls rfl)) (show (N 8 : Int) = n8 from en8)
  have r10 : (0 : Int) ≤ n9 ∧ n9 ≤ 1000000 := nleE (H.nle 9 (ltn len_V215_Row_oz_D1cls rfl)) (show (N 9 : Int) = n9 from en9)
  have r11 : (0 : Int) ≤ n10 ∧ n10 ≤ 1000000 := nleE (H.nle 10 (ltn len_V215_Row_oz_D1cls rfl)) (show (N 10 : Int) = n10 from en10)
  refine Ew_of (pcₚ := 1) (fun _ => x_aload_n rfl rfl) ?_
  refine v_g H (o := 0) (v := .ref (D 3)) rfl rfl rfl rfl rfl (vrf (pf3)) ?_
  refine v_g H (o := 3) (v := .ref (D 4)) rfl rfl rfl rfl rfl (vrf (pf4)) ?_
  refine v_g H (o := 4) (v := I (u4_1)) rfl rfl rfl rfl rfl (congrArg (fun z : Int => I z) ((eu4_1) : F 4 1 = u4_1)) ?_
  refine Ew_of (pcₚ := 11) (fun _ => x_istore_n rfl) ?_
  refine Ew_of (pcₚ := 12) (fun _ => x_aload_n rfl (rk_o (rfl) rfl rfl)) ?_
  refine v_g H (o := 0) (v := .ref (D 3)) rfl rfl rfl rfl rfl (vrf (pf3)) ?_
  refine Ew_of (pcₚ := 16) (fun _ => x_iload_n rfl rk_s) ?_
  refine v_inv H (o := 3) rfl rfl rfl rfl rfl rfl (by rfl) (C123 (D := puc 481842956291 D) (N := puc 481842956291 N) (HW_subc H oz_D1cls_18 oz_D1cls_30) (pf4) (pf5) (pf6) (pf7) (n5) (en5) (n6) (en6) (n7) (en7) (u3_6) ((eu3_6)) (u3_10) ((eu3_10)) (u4_1) ((eu4_1)) (w5) (ew5) (w6) (ew6) (w7) (ew7) (show inr (u4_1) from q_2767 h2) (show 0 ≤ (u4_1) ∧ (u4_1) ≤ (n5) ∧ (n5) ≤ 65536 ∧ (u4_1) ≤ 16384 from h2) (show 1 ≤ (u3_10) ∧ (u3_10) ≤ 8 from q_2766 h3) (show 0 ≤ (u4_1) ∧ (u4_1) ≤ (u4_1) from q_2765 h2) (show BKI ((w5)) ((w6)) ((u3_10)) ((u3_6)) from h5) (show HDI ((w5)) ((w7)) ((u3_10)) ((u3_6)) from h6) (show (n7) = 2048 from h8) (show 0 ≤ (u3_6) ∧ (u3_6) ≤ (n6) ∧ (n6) ≤ 16384 from h9) (fun σ12 D12ₚ N12ₚ F12ₚ A12ₚ c12 s12 Hₚ Oₚ hD12 hN12 hS12 hA12 pm12_3 m12_3 em12_3 y12_0_6 ey12_0_6 w12_3 ew12_3 w12_4 ew12_4 pz12_0 pz12_1 pz12_2 pz12_3 pz12_4 => ⟨rfl, ?_⟩))
  refine v_backMc (c := c) (s := s) H oz_D1cls_18 oz_D1cls_30 Hₚ Oₚ hD12 oz_D1cls_19 (fun D12 N12 F12 A12 H Oₚ eD12 eN12 eF12 eA12 => ?_)
  have O := OUT_trans O Oₚ
  -- Finder.lay
  have cF12 : SF oz_D1clsl_7 F F12 := SF_trans (SF_refl) (SF_gluc (ι := oz_D1clsl_10) oz_D1cls_30 hS12 eF12 (by decide +kernel)) (any_sub (lₚ := [(3, 6), (3, 8)]) (by decide +kernel))
  have mF12 := SFm_of cF12 oz_D1cls_27
  have cA12 : SA oz_D1clsl_8 A A12 := SA_trans (SA_refl) (SA_gluc (ι := oz_D1clsl_10) oz_D1cls_30 hA12 eA12 (by decide +kernel)) (any_subA (lₚ := [6, 7]) (by decide +kernel))
  have mA12 := SAm_of cA12 oz_D1cls_28
  have cD12 : SD oz_D1clsl_9 D D12 := SD_trans (SD_refl) (SD_gluc (ι := oz_D1clsl_10) oz_D1cls_30 hD12 eD12 (by decide +kernel)) (any_subA (lₚ := [6]) (by decide +kernel))
  have mD12 := SDm_of cD12 oz_D1cls_29
  have cN12 : SD oz_D1clsl_9 N N12 := SD_trans (SD_refl) (SD_gluc (ι := oz_D1clsl_10) oz_D1cls_30 hN12 eN12 (by decide +kernel)) (any_subA (lₚ := [6]) (by decide +kernel))
  have mN12 := SDm_of cN12 oz_D1cls_29
  have pf12_1_0 : F12 1 0 = (D12 2 : Int) := ((show F12 1 0 = F 1 0 from (eF12 1 0))).trans ((pf2).trans (congrArg (fun q : Nat => (q : Int)) ((show D12 2 = D 2 from (eD12 2))).symm))
  have pf12_3_1 : F12 3 1 = (D12 8 : Int) := ((show F12 3 1 = F 3 1 from (eF12 3 1).trans (hS12 0 1 rfl))).trans ((pf8).trans (congrArg (fun q : Nat => (q : Int)) ((show D12 8 = D 8 from (eD12 8))).symm))
  have pf12_3_2 : F12 3 2 = (D12 9 : Int) := ((show F12 3 2 = F 3 2 from (eF12 3 2).trans (hS12 0 2 rfl))).trans ((pf9).trans (congrArg (fun q : Nat => (q : Int)) ((show D12 9 = D 9 from (eD12 9))).symm))
  have pf12_3_3 : F12 3 3 = (D12 10 : Int) := ((show F12 3 3 = F 3 3 from (eF12 3 3).trans (hS12 0 3 rfl))).trans ((pf10).trans (congrArg (fun q : Nat => (q : Int)) ((show D12 10 = D 10 from (eD12 10))).symm))
  have pf12_3_8 : F12 3 8 = (D12 6 : Int) := (eF12 3 8).trans (pm12_3.trans (congrArg (fun q : Nat => (q : Int)) (eD12 6).symm))
  have r13 : (0 : Int) ≤ m12_3 ∧ m12_3 ≤ 1000000 := nleE (H.nle 6 (ltn len_V215_Row_oz_D1cls rfl)) (show (N12 6 : Int) = m12_3 from (congrArg (fun q : Nat => (q : Int)) (eN12 6)).trans em12_3)
  have r14 : (-2147483648 : Int) ≤ y12_0_6 ∧ y12_0_6 ≤ 2147483647 := rngE (show (-2147483648 : Int) ≤ F12 3 6 ∧ F12 3 6 ≤ 2147483647 from H.krg 3 6 (ltn len_V215_Row_oz_D1cls rfl)) (show F12 3 6 = y12_0_6 from ((eF12 3 6).trans ey12_0_6))
  refine Ew_of (pcₚ := 20) (fun _ => x_aload_n rfl (rk_o (rfl) rfl rfl)) ?_
  refine Ew_stk (congrArg (fun qz : Nat => ([.ref qz] : List Value)) (show D12 0 = D 0 from mD12 0 rfl).symm) ?_
  refine v_g H (o := 0) (v := .ref (D12 3)) rfl rfl rfl rfl rfl (vrf ((mF12 0 2 rfl).trans ((pf3).trans (congrArg (fun q : Nat => (q : Int)) (mD12 3 rfl).symm)))) ?_
  refine Ew_of (pcₚ := 24) (fun _ => x_iload_n rfl (rk_o (rfl) rfl rfl)) ?_
  refine Ew_of (pcₚ := 25) (fun _ => x_iload_n rfl rk_s) ?_
  refine Ew_of (pcₚ := 26) (fun _ => x_iload_n rfl rk_s) ?_
  refine Ew_of (pcₚ := 27) (fun _ => x_iconst rfl) ?_
  refine w_isub rfl ?_
  refine Ew_of (pcₚ := 29) (fun _ => x_iload_n rfl rk_s) ?_
  refine Ew_of (pcₚ := 31) (fun _ => x_bipush (z := 12) rfl (by decide)) ?_
  refine w_isub rfl ?_
  have r15 : (-2147483648 : Int) ≤ F 3 4 ∧ F 3 4 ≤ 2147483647 := rngE (show (-2147483648 : Int) ≤ F12 3 4 ∧ F12 3 4 ≤ 2147483647 from H.krg 3 4 (ltn len_V215_Row_oz_D1cls rfl)) (show F12 3 4 = F 3 4 from ((show F12 3 4 = F 3 4 from (eF12 3 4).trans (hS12 0 4 rfl))))
  have r16 : (-2147483648 : Int) ≤ F 3 5 ∧ F 3 5 ≤ 2147483647 := rngE (show (-2147483648 : Int) ≤ F12 3 5 ∧ F12 3 5 ≤ 2147483647 from H.krg 3 5 (ltn len_V215_Row_oz_D1cls rfl)) (show F12 3 5 = F 3 5 from ((show F12 3 5 = F 3 5 from (eF12 3 5).trans (hS12 0 5 rfl))))
  refine v_inv H (o := 3) rfl rfl rfl rfl rfl rfl (by rfl) (C125 (D := puc 180461195006052355 D12) (N := puc 180461195006052355 N12) (HW_subc H oz_D1cls_20 oz_D1cls_31) ((mF12 3 0 rfl).trans ((pf4).trans (congrArg (fun q : Nat => (q : Int)) (mD12 4 rfl).symm))) ((mF12 4 0 rfl).trans ((pf5).trans (congrArg (fun q : Nat => (q : Int)) (mD12 5 rfl).symm))) (pf12_3_8) (pf12_3_1) (pf12_3_2) (pf12_3_3) (n5) ((congrArg (fun q : Nat => (q : Int)) (mN12 5 rfl)).trans (en5)) (m12_3) ((congrArg (fun q : Nat => (q : Int)) (eN12 6)).trans em12_3) (n8) ((congrArg (fun q : Nat => (q : Int)) (show N12 8 = N 8 from (eN12 8))).trans (en8)) (n9) ((congrArg (fun q : Nat => (q : Int)) (show N12 9 = N 9 from (eN12 9))).trans (en9)) (n10) ((congrArg (fun q : Nat => (q : Int)) (show N12 10 = N 10 from (eN12 10))).trans (en10)) (F 3 4) (((show F12 3 4 = F 3 4 from (eF12 3 4).trans (hS12 0 4 rfl)))) (F 3 5) (((show F12 3 5 = F 3 5 from (eF12 3 5).trans (hS12 0 5 rfl)))) (y12_0_6) (((eF12 3 6).trans ey12_0_6)) (u3_10) (((mF12 3 10 rfl).trans (eu3_10))) (u4_1) (((mF12 4 1 rfl).trans (eu4_1))) (w5) ((funext (mA12 5 rfl)).trans (ew5)) (w12_3) ((eA12 6).trans ew12_3) (A 8) ((show A12 8 = A 8 from (eA12 8))) (A 9) ((show A12 9 = A 9 from (eA12 9))) (A 10) ((show A12 10 = A 10 from (eA12 10))) (show inr (a2) from h0) (show inr (u4_1) from q_2767 h2) (show inr ((u4_1 - 5)) from q_2772 h2) (show inr ((u4_1 - 12)) from q_2771 h2) (show 0 ≤ (u4_1) ∧ (u4_1) ≤ (n5) ∧ (n5) ≤ 65536 ∧ (u4_1) ≤ 16384 from h2) (show 1 ≤ (u3_10) ∧ (u3_10) ≤ 8 from q_2766 h3) (show 0 ≤ (a2) ∧ (a2) ≤ (u4_1) ∧ (u4_1) ≤ (u4_1) from q_2770 h4) (show ((u4_1 - 5)) ≤ (u4_1) ∧ ((u4_1 - 12)) < (u4_1) ∧ ((u4_1 - 12)) < (y12_0_6) from q_2769 h3 pz12_1) (show 0 ≤ (y12_0_6) ∧ (y12_0_6) ≤ (m12_3) ∧ (m12_3) ≤ 16384 from q_2768 h9 pz12_0) (show BKI ((w5)) ((w12_3)) ((u3_10)) ((y12_0_6)) from pz12_3) (show (n8) = (n9) ∧ (n10) = (n9) ∧ (n9) ≤ 65536 ∧ ((n9) = 0 ∨ 64 ≤ (n9)) ∧ lgq ((n9)) = 0 from h7) (fun σ17 D17ₚ N17ₚ F17ₚ A17ₚ c17 s17 Hₚ Oₚ hD17 hN17 hS17 hA17 pm17_4 pm17_5 pm17_6 m17_4 em17_4 m17_5 em17_5 m17_6 em17_6 y17_0_4 ey17_0_4 y17_0_5 ey17_0_5 w17_4 ew17_4 w17_5 ew17_5 w17_6 ew17_6 pz17_0 pz17_1 pz17_2 pz17_3 => ⟨rfl, ?_⟩))
  refine v_backMc (c := (c + c12)) (s := (s + s12)) H oz_D1cls_20 oz_D1cls_31 Hₚ Oₚ hD17 oz_D1cls_21 (fun D17 N17 F17 A17 H Oₚ eD17 eN17 eF17 eA17 => ?_)
  have O := OUT_trans O Oₚ
  -- Finder.go
  have cF17 : SF oz_D1clsl_7 F F17 := SF_trans (cF12) (SF_gluc (ι := oz_D1clsl_11) oz_D1cls_31 hS17 eF17 (by decide +kernel)) (any_sub (lₚ := [(3, 1), (3, 2), (3, 3), (3, 4), (3, 5), (3, 12), (3, 13), (3, 14), (3, 15), (3, 16), (3, 17), (3, 18)]) (by decide +kernel))
  have mF17 := SFm_of cF17 oz_D1cls_27
  have cA17 : SA oz_D1clsl_8 A A17 := SA_trans (cA12) (SA_gluc (ι := oz_D1clsl_11) oz_D1cls_31 hA17 eA17 (by decide +kernel)) (any_subA (lₚ := [8, 9, 10]) (by decide +kernel))
  have mA17 := SAm_of cA17 oz_D1cls_28
  have cD17 : SD oz_D1clsl_9 D D17 := SD_trans (cD12) (SD_gluc (ι := oz_D1clsl_11) oz_D1cls_31 hD17 eD17 (by decide +kernel)) (any_subA (lₚ := [8, 9, 10]) (by decide +kernel))
  have mD17 := SDm_of cD17 oz_D1cls_29
  have cN17 : SD oz_D1clsl_9 N N17 := SD_trans (cN12) (SD_gluc (ι := oz_D1clsl_11) oz_D1cls_31 hN17 eN17 (by decide +kernel)) (any_subA (lₚ := [8, 9, 10]) (by decide +kernel))
  have mN17 := SDm_of cN17 oz_D1cls_29
  have pf17_1_0 : F17 1 0 = (D17 2 : Int) := ((show F17 1 0 = F12 1 0 from (eF17 1 0))).trans ((pf12_1_0).trans (congrArg (fun q : Nat => (q : Int)) ((show D17 2 = D12 2 from (eD17 2))).symm))
  have pf17_3_1 : F17 3 1 = (D17 8 : Int) := (eF17 3 1).trans (pm17_4.trans (congrArg (fun q : Nat => (q : Int)) (eD17 8).symm))
  have pf17_3_2 : F17 3 2 = (D17 9 : Int) := (eF17 3 2).trans (pm17_5.trans (congrArg (fun q : Nat => (q : Int)) (eD17 9).symm))
  have pf17_3_3 : F17 3 3 = (D17 10 : Int) := (eF17 3 3).trans (pm17_6.trans (congrArg (fun q : Nat => (q : Int)) (eD17 10).symm))
  have pf17_3_8 : F17 3 8 = (D17 6 : Int) := ((show F17 3 8 = F12 3 8 from (eF17 3 8).trans (hS17 0 8 rfl))).trans ((pf12_3_8).trans (congrArg (fun q : Nat => (q : Int)) ((show D17 6 = D12 6 from (eD17 6).trans (hD17 3 rfl))).symm))
  have r18 : (0 : Int) ≤ m17_4 ∧ m17_4 ≤ 1000000 := nleE (H.nle 8 (ltn len_V215_Row_oz_D1cls rfl)) (show (N17 8 : Int) = m17_4 from (congrArg (fun q : Nat => (q : Int)) (eN17 8)).trans em17_4)
  have r19 : (0 : Int) ≤ m17_5 ∧ m17_5 ≤ 1000000 := nleE (H.nle 9 (ltn len_V215_Row_oz_D1cls rfl)) (show (N17 9 : Int) = m17_5 from (congrArg (fun q : Nat => (q : Int)) (eN17 9)).trans em17_5)
  have r20 : (0 : Int) ≤ m17_6 ∧ m17_6 ≤ 1000000 := nleE (H.nle 10 (ltn len_V215_Row_oz_D1cls rfl)) (show (N17 10 : Int) = m17_6 from (congrArg (fun q : Nat => (q : Int)) (eN17 10)).trans em17_6)
  have r21 : (-2147483648 : Int) ≤ y17_0_4 ∧ y17_0_4 ≤ 2147483647 := rngE (show (-2147483648 : Int) ≤ F17 3 4 ∧ F17 3 4 ≤ 2147483647 from H.krg 3 4 (ltn len_V215_Row_oz_D1cls rfl)) (show F17 3 4 = y17_0_4 from ((eF17 3 4).trans ey17_0_4))
  have r22 : (-2147483648 : Int) ≤ y17_0_5 ∧ y17_0_5 ≤ 2147483647 := rngE (show (-2147483648 : Int) ≤ F17 3 5 ∧ F17 3 5 ≤ 2147483647 from H.krg 3 5 (ltn len_V215_Row_oz_D1cls rfl)) (show F17 3 5 = y17_0_5 from ((eF17 3 5).trans ey17_0_5))
  refine Ew_of (pcₚ := 36) (fun _ => x_iload_n rfl (rk_o (rfl) rfl rfl)) ?_
  refine Ew_of (pcₚ := 38) (fun _ => x_istore rfl) ?_
  refine Ew_of (pcₚ := 39) (fun _ => x_iconst rfl) ?_
  refine Ew_of (pcₚ := 41) (fun _ => x_istore rfl) ?_
  have : su (fun j => ((w17_4)) j + ((w17_5)) j) (0 : Int).toNat = 0 := rfl
  have hfd : FDI ((w17_4)) ((w17_5)) ((w17_6)) ((y17_0_4)) ((u4_1) - (a2) - (y17_0_5)) ((u3_10)) := pz17_3
  suffices hl41 : ∀ (m : Nat), ∀ (ls : rO) (σ : rS) (D_41 N_41 : Nat → Nat) (c_41 s_41 : Nat) (F_41 : hF) (A_41 : hA) (x41_4 : Int) (x41_5 : Int), rlook ls 0 = some (.ref (D_41 0)) → rlook ls 1 = some (.ref (D_41 1)) → rlook ls 4 = some (I (x41_4)) → rlook ls 5 = some (I (x41_5)) → HW V215_Row σ D_41 N_41 F_41 A_41 → OUT (V215_Row).length D N σE c s D_41 N_41 σ c_41 s_41 → SD [2] D17 D_41 → SD [2] N17 N_41 → SF [(1, 0), (1, 1), (1, 2)] F17 F_41 → SA [2] A17 A_41 → F_41 1 0 = (D_41 2 : Int) → ∀ m41_2 : Int, (N_41 2 : Int) = m41_2 → ∀ y41_1_1 : Int, F_41 1 1 = y41_1_1 → (inr (x41_4)) → (inr (x41_5)) → ((0) ≤ (x41_5)) → ((x41_5) ≤ (0) ∨ (x41_5) ≤ ((y17_0_4))) → (0 ≤ (y41_1_1) ∧ (y41_1_1) ≤ (m41_2) ∧ (m41_2) ≤ 65536) → ((x41_4) = (a2) + su (fun j => ((w17_4)) j + ((w17_5)) j) ((x41_5) : Int).toNat) → (((y17_0_4)) - (x41_5)).toNat = m → Ew 215 (d + 5) 41 ls [] σ c_41 s_41 Q from
    hl41 _ _ _ _ _ _ _ _ _ (a2) (0) ((rk_o (rk_o (rk_o (rfl) rfl rfl) rfl rfl) rfl rfl).trans (congrArg (fun q : Nat => some (Value.ref q)) (mD17 0 rfl).symm)) ((rk_o (rk_o (rk_o (rfl) rfl rfl) rfl rfl) rfl rfl).trans (congrArg (fun q : Nat => some (Value.ref q)) (mD17 1 rfl).symm)) (rk_o (rk_s) rfl rfl) (rk_s) H O (SD_refl) (SD_refl) (SF_refl) (SA_refl) (pf17_1_0) (n2) ((congrArg (fun q : Nat => (q : Int)) (show N17 2 = N12 2 from (eN17 2))).trans ((congrArg (fun q : Nat => (q : Int)) (show N12 2 = N 2 from (eN12 2))).trans (en2))) (u1_1) (((((show F17 1 1 = F12 1 1 from (eF17 1 1))).trans ((show F12 1 1 = F 1 1 from (eF12 1 1)))).trans (eu1_1)))  (show inr (a2) from h0) (show inr (0) from q_20) (show (0) ≤ (0) from q_25) (show (0) ≤ (0) ∨ (0) ≤ ((y17_0_4)) from q_24) (show 0 ≤ (u1_1) ∧ (u1_1) ≤ (n2) ∧ (n2) ≤ 65536 from h1) (show (a2) = (a2) + su (fun j => ((w17_4)) j + ((w17_5)) j) ((0) : Int).toNat by omega) rfl
  as_aux_lemma =>
  intro m
  induction m using Nat.strongRecOn with
  | _ m ih41 =>
    intro ls σ D_41 N_41 c_41 s_41 F_41 A_41 x41_4 x41_5 l41_0 l41_1 l41_4 l41_5 H O hD_41 hN_41 hS_41 hA_41 pm41_2 m41_2 em41_2 y41_1_1 ey41_1_1  j41_0 j41_1 j41_2 j41_3 j41_4 j41_5 hm41
    have cF_41 : SF oz_D1clsl_7 F F_41 := SF_trans (cF17) hS_41 (any_sub (by decide +kernel))
    have mF_41 := SFm_of cF_41 oz_D1cls_27
    have cA_41 : SA oz_D1clsl_8 A A_41 := SA_trans (cA17) hA_41 (any_subA (by decide +kernel))
    have mA_41 := SAm_of cA_41 oz_D1cls_28
    have cD_41 : SD oz_D1clsl_9 D D_41 := SD_trans (cD17) hD_41 (any_subA (by decide +kernel))
    have mD_41 := SDm_of cD_41 oz_D1cls_29
    have cN_41 : SD oz_D1clsl_9 N N_41 := SD_trans (cN17) hN_41 (any_subA (by decide +kernel))
    have mN_41 := SDm_of cN_41 oz_D1cls_29
    have pf_41_3_1 : F_41 3 1 = (D_41 8 : Int) := (hS_41 3 1 rfl).trans ((pf17_3_1).trans (congrArg (fun q : Nat => (q : Int)) (hD_41 8 rfl).symm))
    have pf_41_3_2 : F_41 3 2 = (D_41 9 : Int) := (hS_41 3 2 rfl).trans ((pf17_3_2).trans (congrArg (fun q : Nat => (q : Int)) (hD_41 9 rfl).symm))
    have pf_41_3_3 : F_41 3 3 = (D_41 10 : Int) := (hS_41 3 3 rfl).trans ((pf17_3_3).trans (congrArg (fun q : Nat => (q : Int)) (hD_41 10 rfl).symm))
    have pf_41_3_8 : F_41 3 8 = (D_41 6 : Int) := (hS_41 3 8 rfl).trans ((pf17_3_8).trans (congrArg (fun q : Nat => (q : Int)) (hD_41 6 rfl).symm))
    have r23 : (0 : Int) ≤ m41_2 ∧ m41_2 ≤ 1000000 := nleE (H.nle 2 (ltn len_V215_Row_oz_D1cls rfl)) (show (N_41 2 : Int) = m41_2 from em41_2)
    have r24 : (-2147483648 : Int) ≤ y41_1_1 ∧ y41_1_1 ≤ 2147483647 := rngE (show (-2147483648 : Int) ≤ F_41 1 1 ∧ F_41 1 1 ≤ 2147483647 from H.krg 1 1 (ltn len_V215_Row_oz_D1cls rfl)) (show F_41 1 1 = y41_1_1 from (ey41_1_1))
    refine Ew_of (pcₚ := 43) (fun _ => x_iload rfl l41_5) ?_
    refine Ew_of (pcₚ := 44) (fun _ => x_aload_n rfl l41_0) ?_
    refine v_g H (o := 0) (v := .ref (D_41 3)) rfl rfl rfl rfl rfl (vrf ((mF_41 0 2 rfl).trans ((pf3).trans (congrArg (fun q : Nat => (q : Int)) (mD_41 3 rfl).symm)))) ?_
    refine v_g H (o := 3) (v := I (y17_0_4)) rfl rfl rfl rfl rfl (congrArg (fun z : Int => I z) (((hS_41 3 4 rfl).trans ((eF17 3 4).trans ey17_0_4)) : F_41 3 4 = y17_0_4)) ?_
    refine w_icmpge (t := 136) rfl rfl (show inr (x41_5) from j41_1) (show inr (y17_0_4) from q_2773 pz17_1 r21) (fun b25 => ?_) (fun b25 => ?_)
    · have hle : (x41_5) = (y17_0_4) := q_2774 b25 j41_3 pz17_1
      have hst : su (fun j => ((w17_4)) j + ((w17_5)) j) ((x41_5) : Int).toNat = (u4_1) - (a2) - (y17_0_5) := by rw [hle]; exact hfd.2
      refine Ew_of (pcₚ := 137) (fun _ => x_aload_n rfl l41_0) ?_
      refine Ew_of (pcₚ := 138) (fun _ => x_aload_n rfl l41_1) ?_
      refine Ew_of (pcₚ := 140) (fun _ => x_iload rfl l41_4) ?_
      refine Ew_of (pcₚ := 141) (fun _ => x_aload_n rfl l41_0) ?_
      refine v_g H (o := 0) (v := .ref (D_41 3)) rfl rfl rfl rfl rfl (vrf ((mF_41 0 2 rfl).trans ((pf3).trans (congrArg (fun q : Nat => (q : Int)) (mD_41 3 rfl).symm)))) ?_
      refine v_g H (o := 3) (v := I (y17_0_5)) rfl rfl rfl rfl rfl (congrArg (fun z : Int => I z) (((hS_41 3 5 rfl).trans ((eF17 3 5).trans ey17_0_5)) : F_41 3 5 = y17_0_5)) ?_
      refine Ew_of (pcₚ := 148) (fun _ => x_iconst rfl) ?_
      refine v_inv H (o := 0) rfl rfl rfl rfl rfl rfl (by rfl) (C216_Row (D := puc 176197141529088 D_41) (N := puc 176197141529088 N_41) (HW_subc H oz_D1cls_22 oz_D1cls_32) (pm41_2) ((mF_41 0 2 rfl).trans ((pf3).trans (congrArg (fun q : Nat => (q : Int)) (mD_41 3 rfl).symm))) ((mF_41 3 0 rfl).trans ((pf4).trans (congrArg (fun q : Nat => (q : Int)) (mD_41 4 rfl).symm))) ((mF_41 4 0 rfl).trans ((pf5).trans (congrArg (fun q : Nat => (q : Int)) (mD_41 5 rfl).symm))) (m41_2) (em41_2) (n5) ((congrArg (fun q : Nat => (q : Int)) (mN_41 5 rfl)).trans (en5)) (y41_1_1) ((ey41_1_1)) (u4_1) (((mF_41 4 1 rfl).trans (eu4_1))) (show inr (x41_4) from j41_0) (show inr (y17_0_5) from q_2776 pz17_2 r22) (show inr (0) from q_20) (show 0 ≤ (y41_1_1) ∧ (y41_1_1) ≤ (m41_2) ∧ (m41_2) ≤ 65536 from j41_4) (show 0 ≤ (u4_1) ∧ (u4_1) ≤ (n5) ∧ (n5) ≤ 65536 from q_2775 h2) (show 0 ≤ (x41_4) ∧ 0 ≤ (y17_0_5) ∧ (x41_4) + (y17_0_5) ≤ (n5) by omega) (show 0 ≤ (0) from q_25) (fun σ26 D26ₚ N26ₚ F26ₚ A26ₚ c26 s26 Hₚ Oₚ hD26 hN26 hS26 hA26 pm26_2 m26_2 em26_2 y26_1_1 ey26_1_1 pz26_0 => ⟨rfl, ?_⟩))
      refine v_backMc (c := c_41) (s := s_41) H oz_D1cls_22 oz_D1cls_32 Hₚ Oₚ hD26 oz_D1cls_23 (fun D26 N26 F26 A26 H Oₚ eD26 eN26 eF26 eA26 => ?_)
      have O := OUT_trans O Oₚ
      -- Tokens.packLiterals
      have cF26 : SF oz_D1clsl_7 F F26 := SF_trans (cF_41) (SF_gluc (ι := oz_D1clsl_12) oz_D1cls_32 hS26 eF26 (by decide +kernel)) (any_sub (lₚ := [(1, 0), (1, 1), (1, 2)]) (by decide +kernel))
      have mF26 := SFm_of cF26 oz_D1cls_27
      have cA26 : SA oz_D1clsl_8 A A26 := SA_trans (cA_41) (SA_gluc (ι := oz_D1clsl_12) oz_D1cls_32 hA26 eA26 (by decide +kernel)) (any_subA (lₚ := [2]) (by decide +kernel))
      have mA26 := SAm_of cA26 oz_D1cls_28
      have cD26 : SD oz_D1clsl_9 D D26 := SD_trans (cD_41) (SD_gluc (ι := oz_D1clsl_12) oz_D1cls_32 hD26 eD26 (by decide +kernel)) (any_subA (lₚ := [2]) (by decide +kernel))
      have mD26 := SDm_of cD26 oz_D1cls_29
      have cN26 : SD oz_D1clsl_9 N N26 := SD_trans (cN_41) (SD_gluc (ι := oz_D1clsl_12) oz_D1cls_32 hN26 eN26 (by decide +kernel)) (any_subA (lₚ := [2]) (by decide +kernel))
      have mN26 := SDm_of cN26 oz_D1cls_29
      have pf26_1_0 : F26 1 0 = (D26 2 : Int) := (eF26 1 0).trans (pm26_2.trans (congrArg (fun q : Nat => (q : Int)) (eD26 2).symm))
      have pf26_3_1 : F26 3 1 = (D26 8 : Int) := ((show F26 3 1 = F_41 3 1 from (eF26 3 1).trans (hS26 3 1 rfl))).trans ((pf_41_3_1).trans (congrArg (fun q : Nat => (q : Int)) ((show D26 8 = D_41 8 from (eD26 8))).symm))
      have pf26_3_2 : F26 3 2 = (D26 9 : Int) := ((show F26 3 2 = F_41 3 2 from (eF26 3 2).trans (hS26 3 2 rfl))).trans ((pf_41_3_2).trans (congrArg (fun q : Nat => (q : Int)) ((show D26 9 = D_41 9 from (eD26 9))).symm))
      have pf26_3_3 : F26 3 3 = (D26 10 : Int) := ((show F26 3 3 = F_41 3 3 from (eF26 3 3).trans (hS26 3 3 rfl))).trans ((pf_41_3_3).trans (congrArg (fun q : Nat => (q : Int)) ((show D26 10 = D_41 10 from (eD26 10))).symm))
      have pf26_3_8 : F26 3 8 = (D26 6 : Int) := ((show F26 3 8 = F_41 3 8 from (eF26 3 8).trans (hS26 3 8 rfl))).trans ((pf_41_3_8).trans (congrArg (fun q : Nat => (q : Int)) ((show D26 6 = D_41 6 from (eD26 6))).symm))
      have r27 : (0 : Int) ≤ m26_2 ∧ m26_2 ≤ 1000000 := nleE (H.nle 2 (ltn len_V215_Row_oz_D1cls rfl)) (show (N26 2 : Int) = m26_2 from (congrArg (fun q : Nat => (q : Int)) (eN26 2)).trans em26_2)
      have r28 : (-2147483648 : Int) ≤ y26_1_1 ∧ y26_1_1 ≤ 2147483647 := rngE (show (-2147483648 : Int) ≤ F26 1 1 ∧ F26 1 1 ≤ 2147483647 from H.krg 1 1 (ltn len_V215_Row_oz_D1cls rfl)) (show F26 1 1 = y26_1_1 from ((eF26 1 1).trans ey26_1_1))
      exact w_ret rfl (k _ _ _ _ _ _ _ H O (cD26) (cN26) (cF26) (cA26) (pf26_1_0) (pf26_3_8) (pf26_3_1) (pf26_3_2) (pf26_3_3) (m26_2) ((congrArg (fun q : Nat => (q : Int)) (eN26 2)).trans em26_2) (m12_3) ((congrArg (fun q : Nat => (q : Int)) (show N26 6 = N_41 6 from (eN26 6))).trans ((congrArg (fun q : Nat => (q : Int)) (hN_41 6 rfl)).trans ((congrArg (fun q : Nat => (q : Int)) (show N17 6 = N12 6 from (eN17 6).trans (hN17 3 rfl))).trans ((congrArg (fun q : Nat => (q : Int)) (eN12 6)).trans em12_3)))) (m17_4) ((congrArg (fun q : Nat => (q : Int)) (show N26 8 = N_41 8 from (eN26 8))).trans ((congrArg (fun q : Nat => (q : Int)) (hN_41 8 rfl)).trans ((congrArg (fun q : Nat => (q : Int)) (eN17 8)).trans em17_4))) (m17_5) ((congrArg (fun q : Nat => (q : Int)) (show N26 9 = N_41 9 from (eN26 9))).trans ((congrArg (fun q : Nat => (q : Int)) (hN_41 9 rfl)).trans ((congrArg (fun q : Nat => (q : Int)) (eN17 9)).trans em17_5))) (m17_6) ((congrArg (fun q : Nat => (q : Int)) (show N26 10 = N_41 10 from (eN26 10))).trans ((congrArg (fun q : Nat => (q : Int)) (hN_41 10 rfl)).trans ((congrArg (fun q : Nat => (q : Int)) (eN17 10)).trans em17_6))) (y26_1_1) (((eF26 1 1).trans ey26_1_1)) (y12_0_6) ((((((show F26 3 6 = F_41 3 6 from (eF26 3 6).trans (hS26 3 6 rfl))).trans (hS_41 3 6 rfl)).trans ((show F17 3 6 = F12 3 6 from (eF17 3 6).trans (hS17 0 6 rfl)))).trans ((eF12 3 6).trans ey12_0_6))) (w12_3) (((show A26 6 = A_41 6 from (eA26 6))).trans ((funext (hA_41 6 rfl)).trans (((show A17 6 = A12 6 from (eA17 6).trans (funext (hA17 3 rfl)))).trans ((eA12 6).trans ew12_3)))) (w12_4) (((show A26 7 = A_41 7 from (eA26 7))).trans ((funext (hA_41 7 rfl)).trans (((show A17 7 = A12 7 from (eA17 7))).trans ((eA12 7).trans ew12_4)))) (show 0 ≤ (y26_1_1) ∧ (y26_1_1) ≤ (m26_2) ∧ (m26_2) ≤ 65536 from pz26_0) (show 0 ≤ (y12_0_6) ∧ (u3_6) ≤ (y12_0_6) ∧ (y12_0_6) ≤ (m12_3) ∧ (m12_3) ≤ 16384 from q_2777 h9 pz12_0) (show (m17_4) = (m17_5) ∧ (m17_6) = (m17_5) ∧ (m17_5) ≤ 65536 ∧ ((m17_5) = 0 ∨ 64 ≤ (m17_5)) ∧ lgq ((m17_5)) = 0 from pz17_0) (show BKI ((w5)) ((w12_3)) ((u3_10)) ((y12_0_6)) from pz12_3) (show HDI ((w5)) ((w12_4)) ((u3_10)) ((y12_0_6)) from pz12_4) (show (y12_0_6) = (u3_6) ∨ (y12_0_6) + 4 ≤ (u4_1) + 1 by omega))
    · have hfp := FDI_part (i := (x41_5)) hfd (by omega) (by omega) (by omega)
      have hfj := hfd.1 ((x41_5)) (by omega) (by omega)
      refine Ew_of (pcₚ := 54) (fun _ => x_aload_n rfl l41_0) ?_
      refine v_g H (o := 0) (v := .ref (D_41 3)) rfl rfl rfl rfl rfl (vrf ((mF_41 0 2 rfl).trans ((pf3).trans (congrArg (fun q : Nat => (q : Int)) (mD_41 3 rfl).symm)))) ?_
      refine v_g H (o := 3) (v := .ref (D_41 8)) rfl rfl rfl rfl rfl (vrf (pf_41_3_1)) ?_
      refine Ew_of (pcₚ := 62) (fun _ => x_iload rfl l41_5) ?_
      refine v_lI H (o := 8) rfl rfl rfl rfl (n := m17_4) ((congrArg (fun q : Nat => (q : Int)) (hN_41 8 rfl)).trans ((congrArg (fun q : Nat => (q : Int)) (eN17 8)).trans em17_4)) (show 0 ≤ x41_5 ∧ x41_5 < m17_4 from q_2778 b25 j41_2 pz17_0 pz17_1) (fun v29 ev29 qv29 => ?_)
      have ev29 : (w17_4) (x41_5) = v29 := (congrFun ((funext (hA_41 8 rfl)).trans ((eA17 8).trans ew17_4)) (x41_5)).symm.trans ev29
      refine Ew_of (pcₚ := 65) (fun _ => x_istore rfl) ?_
      have hl6 := ev29
      refine Ew_of (pcₚ := 66) (fun _ => x_aload_n rfl (rk_o (l41_0) rfl rfl)) ?_
      refine v_g H (o := 0) (v := .ref (D_41 3)) rfl rfl rfl rfl rfl (vrf ((mF_41 0 2 rfl).trans ((pf3).trans (congrArg (fun q : Nat => (q : Int)) (mD_41 3 rfl).symm)))) ?_
      refine v_g H (o := 3) (v := .ref (D_41 9)) rfl rfl rfl rfl rfl (vrf (pf_41_3_2)) ?_
      refine Ew_of (pcₚ := 74) (fun _ => x_iload rfl (rk_o (l41_5) rfl rfl)) ?_
      refine v_lI H (o := 9) rfl rfl rfl rfl (n := m17_5) ((congrArg (fun q : Nat => (q : Int)) (hN_41 9 rfl)).trans ((congrArg (fun q : Nat => (q : Int)) (eN17 9)).trans em17_5)) (show 0 ≤ x41_5 ∧ x41_5 < m17_5 from q_2779 b25 j41_2 pz17_1) (fun v30 ev30 qv30 => ?_)
      have ev30 : (w17_5) (x41_5) = v30 := (congrFun ((funext (hA_41 9 rfl)).trans ((eA17 9).trans ew17_5)) (x41_5)).symm.trans ev30
      refine Ew_of (pcₚ := 76) (fun _ => x_iconst rfl) ?_
      refine w_isub rfl ?_
      refine Ew_of (pcₚ := 79) (fun _ => x_istore rfl) ?_
      refine Ew_of (pcₚ := 80) (fun _ => x_aload_n rfl (rk_o (rk_o (l41_0) rfl rfl) rfl rfl)) ?_
      refine Ew_of (pcₚ := 81) (fun _ => x_aload_n rfl (rk_o (rk_o (l41_1) rfl rfl) rfl rfl)) ?_
      refine Ew_of (pcₚ := 83) (fun _ => x_iload rfl (rk_o (rk_o (l41_4) rfl rfl) rfl rfl)) ?_
      refine Ew_of (pcₚ := 85) (fun _ => x_iload rfl (rk_o (rk_s) rfl rfl)) ?_
      refine Ew_of (pcₚ := 87) (fun _ => x_iload rfl rk_s) ?_
      refine v_inv H (o := 0) rfl rfl rfl rfl rfl rfl (by rfl) (C216_Row (D := puc 176197141529088 D_41) (N := puc 176197141529088 N_41) (HW_subc H oz_D1cls_22 oz_D1cls_32) (pm41_2) ((mF_41 0 2 rfl).trans ((pf3).trans (congrArg (fun q : Nat => (q : Int)) (mD_41 3 rfl).symm))) ((mF_41 3 0 rfl).trans ((pf4).trans (congrArg (fun q : Nat => (q : Int)) (mD_41 4 rfl).symm))) ((mF_41 4 0 rfl).trans ((pf5).trans (congrArg (fun q : Nat => (q : Int)) (mD_41 5 rfl).symm))) (m41_2) (em41_2) (n5) ((congrArg (fun q : Nat => (q : Int)) (mN_41 5 rfl)).trans (en5)) (y41_1_1) ((ey41_1_1)) (u4_1) (((mF_41 4 1 rfl).trans (eu4_1))) (show inr (x41_4) from j41_0) (show inr (v29) from qv29) (show inr ((v30 - 4)) by omega) (show 0 ≤ (y41_1_1) ∧ (y41_1_1) ≤ (m41_2) ∧ (m41_2) ≤ 65536 from j41_4) (show 0 ≤ (u4_1) ∧ (u4_1) ≤ (n5) ∧ (n5) ≤ 65536 from q_2775 h2) (show 0 ≤ (x41_4) ∧ 0 ≤ (v29) ∧ (x41_4) + (v29) ≤ (n5) by omega) (show 0 ≤ ((v30 - 4)) by omega) (fun σ31 D31ₚ N31ₚ F31ₚ A31ₚ c31 s31 Hₚ Oₚ hD31 hN31 hS31 hA31 pm31_2 m31_2 em31_2 y31_1_1 ey31_1_1 pz31_0 => ⟨rfl, ?_⟩))
      refine v_backMc (c := c_41) (s := s_41) H oz_D1cls_22 oz_D1cls_32 Hₚ Oₚ hD31 oz_D1cls_23 (fun D31 N31 F31 A31 H Oₚ eD31 eN31 eF31 eA31 => ?_)
      have O := OUT_trans O Oₚ
      -- Tokens.packLiterals
      have cF31 : SF oz_D1clsl_7 F F31 := SF_trans (cF_41) (SF_gluc (ι := oz_D1clsl_12) oz_D1cls_32 hS31 eF31 (by decide +kernel)) (any_sub (lₚ := [(1, 0), (1, 1), (1, 2)]) (by decide +kernel))
      have mF31 := SFm_of cF31 oz_D1cls_27
      have cA31 : SA oz_D1clsl_8 A A31 := SA_trans (cA_41) (SA_gluc (ι := oz_D1clsl_12) oz_D1cls_32 hA31 eA31 (by decide +kernel)) (any_subA (lₚ := [2]) (by decide +kernel))
      have mA31 := SAm_of cA31 oz_D1cls_28
      have cD31 : SD oz_D1clsl_9 D D31 := SD_trans (cD_41) (SD_gluc (ι := oz_D1clsl_12) oz_D1cls_32 hD31 eD31 (by decide +kernel)) (any_subA (lₚ := [2]) (by decide +kernel))
      have mD31 := SDm_of cD31 oz_D1cls_29
      have cN31 : SD oz_D1clsl_9 N N31 := SD_trans (cN_41) (SD_gluc (ι := oz_D1clsl_12) oz_D1cls_32 hN31 eN31 (by decide +kernel)) (any_subA (lₚ := [2]) (by decide +kernel))
      have mN31 := SDm_of cN31 oz_D1cls_29
      have pf31_1_0 : F31 1 0 = (D31 2 : Int) := (eF31 1 0).trans (pm31_2.trans (congrArg (fun q : Nat => (q : Int)) (eD31 2).symm))
      have pf31_3_1 : F31 3 1 = (D31 8 : Int) := ((show F31 3 1 = F_41 3 1 from (eF31 3 1).trans (hS31 3 1 rfl))).trans ((pf_41_3_1).trans (congrArg (fun q : Nat => (q : Int)) ((show D31 8 = D_41 8 from (eD31 8))).symm))
      have pf31_3_2 : F31 3 2 = (D31 9 : Int) := ((show F31 3 2 = F_41 3 2 from (eF31 3 2).trans (hS31 3 2 rfl))).trans ((pf_41_3_2).trans (congrArg (fun q : Nat => (q : Int)) ((show D31 9 = D_41 9 from (eD31 9))).symm))
      have pf31_3_3 : F31 3 3 = (D31 10 : Int) := ((show F31 3 3 = F_41 3 3 from (eF31 3 3).trans (hS31 3 3 rfl))).trans ((pf_41_3_3).trans (congrArg (fun q : Nat => (q : Int)) ((show D31 10 = D_41 10 from (eD31 10))).symm))
      have pf31_3_8 : F31 3 8 = (D31 6 : Int) := ((show F31 3 8 = F_41 3 8 from (eF31 3 8).trans (hS31 3 8 rfl))).trans ((pf_41_3_8).trans (congrArg (fun q : Nat => (q : Int)) ((show D31 6 = D_41 6 from (eD31 6))).symm))
      have r32 : (0 : Int) ≤ m31_2 ∧ m31_2 ≤ 1000000 := nleE (H.nle 2 (ltn len_V215_Row_oz_D1cls rfl)) (show (N31 2 : Int) = m31_2 from (congrArg (fun q : Nat => (q : Int)) (eN31 2)).trans em31_2)
      have r33 : (-2147483648 : Int) ≤ y31_1_1 ∧ y31_1_1 ≤ 2147483647 := rngE (show (-2147483648 : Int) ≤ F31 1 1 ∧ F31 1 1 ≤ 2147483647 from H.krg 1 1 (ltn len_V215_Row_oz_D1cls rfl)) (show F31 1 1 = y31_1_1 from ((eF31 1 1).trans ey31_1_1))
      refine Ew_of (pcₚ := 91) (fun _ => x_aload_n rfl (rk_o (rk_o (l41_1) rfl rfl) rfl rfl)) ?_
      refine Ew_of (pcₚ := 92) (fun _ => x_aload_n rfl (rk_o (rk_o (l41_0) rfl rfl) rfl rfl)) ?_
      refine Ew_stk (show ([.ref (D_41 0), .ref (D_41 1)] : List Value) = [.ref (D31 0), .ref (D31 1)] by rw [show D31 0 = D_41 0 from ((show D31 0 = D_41 0 from (eD31 0).trans (hD31 0 rfl))), show D31 1 = D_41 1 from ((show D31 1 = D_41 1 from (eD31 1).trans (hD31 1 rfl)))]) ?_
      refine v_g H (o := 0) (v := .ref (D31 3)) rfl rfl rfl rfl rfl (vrf ((mF31 0 2 rfl).trans ((pf3).trans (congrArg (fun q : Nat => (q : Int)) (mD31 3 rfl).symm)))) ?_
      refine v_g H (o := 3) (v := .ref (D31 10)) rfl rfl rfl rfl rfl (vrf (pf31_3_3)) ?_
      refine Ew_of (pcₚ := 100) (fun _ => x_iload rfl (rk_o (rk_o (l41_5) rfl rfl) rfl rfl)) ?_
      refine v_lI H (o := 10) rfl rfl rfl rfl (n := m17_6) ((congrArg (fun q : Nat => (q : Int)) (show N31 10 = N_41 10 from (eN31 10))).trans ((congrArg (fun q : Nat => (q : Int)) (hN_41 10 rfl)).trans ((congrArg (fun q : Nat => (q : Int)) (eN17 10)).trans em17_6))) (show 0 ≤ x41_5 ∧ x41_5 < m17_6 from q_2780 b25 j41_2 pz17_0 pz17_1) (fun v34 ev34 qv34 => ?_)
      have ev34 : (w17_6) (x41_5) = v34 := (congrFun (((show A31 10 = A_41 10 from (eA31 10))).trans ((funext (hA_41 10 rfl)).trans ((eA17 10).trans ew17_6))) (x41_5)).symm.trans ev34
      refine w_i2l rfl (show inr (v34) from qv34) ?_
      refine Ew_of (pcₚ := 103) (fun _ => x_iconst rfl) ?_
      refine v_inv H (o := 1) rfl rfl rfl rfl rfl rfl (by rfl) (C160 (D := puc 1025 D31) (N := puc 1025 N31) (HW_subc H oz_D1cls_24 oz_D1cls_15) (pf31_1_0) (m31_2) ((congrArg (fun q : Nat => (q : Int)) (eN31 2)).trans em31_2) (y31_1_1) (((eF31 1 1).trans ey31_1_1)) (show inrJ (v34) from q_428 qv34) (show inr (2) from q_55) (show 0 ≤ (y31_1_1) ∧ (y31_1_1) ≤ (m31_2) ∧ (m31_2) ≤ 65536 from pz31_0) (fun σ35 D35ₚ N35ₚ F35ₚ A35ₚ c35 s35 Hₚ Oₚ hD35 hN35 hS35 hA35 pm35_1 m35_1 em35_1 y35_0_1 ey35_0_1 pz35_0 pz35_1 => ⟨rfl, ?_⟩))
      refine v_backMc (c := (c_41 + c31)) (s := (s_41 + s31)) H oz_D1cls_24 oz_D1cls_15 Hₚ Oₚ hD35 oz_D1cls_25 (fun D35 N35 F35 A35 H Oₚ eD35 eN35 eF35 eA35 => ?_)
      have O := OUT_trans O Oₚ
      -- Row.addNumber
      have cF35 : SF oz_D1clsl_7 F F35 := SF_trans (cF31) (SF_gluc (ι := oz_D1clsl_5) oz_D1cls_15 hS35 eF35 (by decide +kernel)) (any_sub (lₚ := [(1, 0), (1, 1), (1, 2)]) (by decide +kernel))
      have mF35 := SFm_of cF35 oz_D1cls_27
      have cA35 : SA oz_D1clsl_8 A A35 := SA_trans (cA31) (SA_gluc (ι := oz_D1clsl_5) oz_D1cls_15 hA35 eA35 (by decide +kernel)) (any_subA (lₚ := [2]) (by decide +kernel))
      have mA35 := SAm_of cA35 oz_D1cls_28
      have cD35 : SD oz_D1clsl_9 D D35 := SD_trans (cD31) (SD_gluc (ι := oz_D1clsl_5) oz_D1cls_15 hD35 eD35 (by decide +kernel)) (any_subA (lₚ := [2]) (by decide +kernel))
      have mD35 := SDm_of cD35 oz_D1cls_29
      have cN35 : SD oz_D1clsl_9 N N35 := SD_trans (cN31) (SD_gluc (ι := oz_D1clsl_5) oz_D1cls_15 hN35 eN35 (by decide +kernel)) (any_subA (lₚ := [2]) (by decide +kernel))
      have mN35 := SDm_of cN35 oz_D1cls_29
      have pf35_1_0 : F35 1 0 = (D35 2 : Int) := (eF35 1 0).trans (pm35_1.trans (congrArg (fun q : Nat => (q : Int)) (eD35 2).symm))
      have pf35_3_1 : F35 3 1 = (D35 8 : Int) := ((show F35 3 1 = F31 3 1 from (eF35 3 1))).trans ((pf31_3_1).trans (congrArg (fun q : Nat => (q : Int)) ((show D35 8 = D31 8 from (eD35 8))).symm))
      have pf35_3_2 : F35 3 2 = (D35 9 : Int) := ((show F35 3 2 = F31 3 2 from (eF35 3 2))).trans ((pf31_3_2).trans (congrArg (fun q : Nat => (q : Int)) ((show D35 9 = D31 9 from (eD35 9))).symm))
      have pf35_3_3 : F35 3 3 = (D35 10 : Int) := ((show F35 3 3 = F31 3 3 from (eF35 3 3))).trans ((pf31_3_3).trans (congrArg (fun q : Nat => (q : Int)) ((show D35 10 = D31 10 from (eD35 10))).symm))
      have pf35_3_8 : F35 3 8 = (D35 6 : Int) := ((show F35 3 8 = F31 3 8 from (eF35 3 8))).trans ((pf31_3_8).trans (congrArg (fun q : Nat => (q : Int)) ((show D35 6 = D31 6 from (eD35 6))).symm))
      have r36 : (0 : Int) ≤ m35_1 ∧ m35_1 ≤ 1000000 := nleE (H.nle 2 (ltn len_V215_Row_oz_D1cls rfl)) (show (N35 2 : Int) = m35_1 from (congrArg (fun q : Nat => (q : Int)) (eN35 2)).trans em35_1)
      have r37 : (-2147483648 : Int) ≤ y35_0_1 ∧ y35_0_1 ≤ 2147483647 := rngE (show (-2147483648 : Int) ≤ F35 1 1 ∧ F35 1 1 ≤ 2147483647 from H.krg 1 1 (ltn len_V215_Row_oz_D1cls rfl)) (show F35 1 1 = y35_0_1 from ((eF35 1 1).trans ey35_0_1))
      refine Ew_of (pcₚ := 107) (fun _ => x_aload_n rfl (rk_o (rk_o (l41_1) rfl rfl) rfl rfl)) ?_
      refine Ew_of (pcₚ := 109) (fun _ => x_iload rfl rk_s) ?_
      refine Ew_stk (congrArg (fun qz : Nat => ([I ((v30 - 4)), .ref qz] : List Value)) (show D35 1 = D_41 1 from (((show D35 1 = D31 1 from (eD35 1).trans (hD35 0 rfl))).trans ((show D31 1 = D_41 1 from (eD31 1).trans (hD31 1 rfl))))).symm) ?_
      refine w_stat24 rfl rfl (by rfl) (C217_Row (D := puc 1025 D35) (N := puc 1025 N35) (HW_subc H oz_D1cls_26 oz_D1cls_15) (pf35_1_0) (m35_1) ((congrArg (fun q : Nat => (q : Int)) (eN35 2)).trans em35_1) (y35_0_1) (((eF35 1 1).trans ey35_0_1)) (show inr ((v30 - 4)) by omega) (show 0 ≤ (y35_0_1) ∧ (y35_0_1) ≤ (m35_1) ∧ (m35_1) ≤ 65536 from pz35_0) (show 0 ≤ ((v30 - 4)) by omega) (fun σ38 D38ₚ N38ₚ F38ₚ A38ₚ c38 s38 Hₚ Oₚ hD38 hN38 hS38 hA38 pm38_1 m38_1 em38_1 y38_0_1 ey38_0_1 pz38_0 => ⟨rfl, ?_⟩))
      refine v_backMc (c := ((c_41 + c31) + c35)) (s := ((s_41 + s31) + s35)) H oz_D1cls_26 oz_D1cls_15 Hₚ Oₚ hD38 oz_D1cls_25 (fun D38 N38 F38 A38 H Oₚ eD38 eN38 eF38 eA38 => ?_)
      have O := OUT_trans O Oₚ
      -- Tokens.packRest
      have cF38 : SF oz_D1clsl_7 F F38 := SF_trans (cF35) (SF_gluc (ι := oz_D1clsl_5) oz_D1cls_15 hS38 eF38 (by decide +kernel)) (any_sub (lₚ := [(1, 0), (1, 1), (1, 2)]) (by decide +kernel))
      have mF38 := SFm_of cF38 oz_D1cls_27
      have cA38 : SA oz_D1clsl_8 A A38 := SA_trans (cA35) (SA_gluc (ι := oz_D1clsl_5) oz_D1cls_15 hA38 eA38 (by decide +kernel)) (any_subA (lₚ := [2]) (by decide +kernel))
      have mA38 := SAm_of cA38 oz_D1cls_28
      have cD38 : SD oz_D1clsl_9 D D38 := SD_trans (cD35) (SD_gluc (ι := oz_D1clsl_5) oz_D1cls_15 hD38 eD38 (by decide +kernel)) (any_subA (lₚ := [2]) (by decide +kernel))
      have mD38 := SDm_of cD38 oz_D1cls_29
      have cN38 : SD oz_D1clsl_9 N N38 := SD_trans (cN35) (SD_gluc (ι := oz_D1clsl_5) oz_D1cls_15 hN38 eN38 (by decide +kernel)) (any_subA (lₚ := [2]) (by decide +kernel))
      have mN38 := SDm_of cN38 oz_D1cls_29
      have pf38_1_0 : F38 1 0 = (D38 2 : Int) := (eF38 1 0).trans (pm38_1.trans (congrArg (fun q : Nat => (q : Int)) (eD38 2).symm))
      have pf38_3_1 : F38 3 1 = (D38 8 : Int) := ((show F38 3 1 = F35 3 1 from (eF38 3 1))).trans ((pf35_3_1).trans (congrArg (fun q : Nat => (q : Int)) ((show D38 8 = D35 8 from (eD38 8))).symm))
      have pf38_3_2 : F38 3 2 = (D38 9 : Int) := ((show F38 3 2 = F35 3 2 from (eF38 3 2))).trans ((pf35_3_2).trans (congrArg (fun q : Nat => (q : Int)) ((show D38 9 = D35 9 from (eD38 9))).symm))
      have pf38_3_3 : F38 3 3 = (D38 10 : Int) := ((show F38 3 3 = F35 3 3 from (eF38 3 3))).trans ((pf35_3_3).trans (congrArg (fun q : Nat => (q : Int)) ((show D38 10 = D35 10 from (eD38 10))).symm))
      have pf38_3_8 : F38 3 8 = (D38 6 : Int) := ((show F38 3 8 = F35 3 8 from (eF38 3 8))).trans ((pf35_3_8).trans (congrArg (fun q : Nat => (q : Int)) ((show D38 6 = D35 6 from (eD38 6))).symm))
      have r39 : (0 : Int) ≤ m38_1 ∧ m38_1 ≤ 1000000 := nleE (H.nle 2 (ltn len_V215_Row_oz_D1cls rfl)) (show (N38 2 : Int) = m38_1 from (congrArg (fun q : Nat => (q : Int)) (eN38 2)).trans em38_1)
      have r40 : (-2147483648 : Int) ≤ y38_0_1 ∧ y38_0_1 ≤ 2147483647 := rngE (show (-2147483648 : Int) ≤ F38 1 1 ∧ F38 1 1 ≤ 2147483647 from H.krg 1 1 (ltn len_V215_Row_oz_D1cls rfl)) (show F38 1 1 = y38_0_1 from ((eF38 1 1).trans ey38_0_1))
      refine Ew_of (pcₚ := 114) (fun _ => x_iload rfl (rk_o (rk_o (l41_4) rfl rfl) rfl rfl)) ?_
      refine Ew_of (pcₚ := 116) (fun _ => x_iload rfl (rk_o (rk_s) rfl rfl)) ?_
      refine Ew_of (pcₚ := 117) (fun _ => x_aload_n rfl (rk_o (rk_o (l41_0) rfl rfl) rfl rfl)) ?_
      refine Ew_stk (congrArg (fun qz : Nat => ([.ref qz, I (v29), I (x41_4)] : List Value)) (show D38 0 = D_41 0 from ((((show D38 0 = D35 0 from (eD38 0))).trans ((show D35 0 = D31 0 from (eD35 0)))).trans ((show D31 0 = D_41 0 from (eD31 0).trans (hD31 0 rfl))))).symm) ?_
      refine v_g H (o := 0) (v := .ref (D38 3)) rfl rfl rfl rfl rfl (vrf ((mF38 0 2 rfl).trans ((pf3).trans (congrArg (fun q : Nat => (q : Int)) (mD38 3 rfl).symm)))) ?_
      refine v_g H (o := 3) (v := .ref (D38 9)) rfl rfl rfl rfl rfl (vrf (pf38_3_2)) ?_
      refine Ew_of (pcₚ := 125) (fun _ => x_iload rfl (rk_o (rk_o (l41_5) rfl rfl) rfl rfl)) ?_
      refine v_lI H (o := 9) rfl rfl rfl rfl (n := m17_5) ((congrArg (fun q : Nat => (q : Int)) (show N38 9 = N35 9 from (eN38 9))).trans ((congrArg (fun q : Nat => (q : Int)) (show N35 9 = N31 9 from (eN35 9))).trans ((congrArg (fun q : Nat => (q : Int)) (show N31 9 = N_41 9 from (eN31 9))).trans ((congrArg (fun q : Nat => (q : Int)) (hN_41 9 rfl)).trans ((congrArg (fun q : Nat => (q : Int)) (eN17 9)).trans em17_5))))) (show 0 ≤ x41_5 ∧ x41_5 < m17_5 from q_2779 b25 j41_2 pz17_1) (fun v41 ev41 qv41 => ?_)
      have ev41 : (w17_5) (x41_5) = v41 := (congrFun (((show A38 9 = A35 9 from (eA38 9))).trans (((show A35 9 = A31 9 from (eA35 9))).trans (((show A31 9 = A_41 9 from (eA31 9))).trans ((funext (hA_41 9 rfl)).trans ((eA17 9).trans ew17_5))))) (x41_5)).symm.trans ev41
      refine w_iadd rfl ?_
      refine w_iadd rfl ?_
      refine Ew_of (pcₚ := 130) (fun _ => x_istore rfl) ?_
      refine Ew_of (pcₚ := 133) (fun _ => x_iinc (len := 3) rfl (rk_o (rk_o (rk_o (l41_5) rfl rfl) rfl rfl) rfl rfl)) ?_
      refine Ew_of (pcₚ := 41) (fun _ => x_goto rfl rfl) ?_
      exact ih41 _ (msE hm41 q_31 (q_34 b25)) _ _ _ _ _ _ _ _ ((x41_4 + (v29 + v41))) ((x41_5 + 1)) ((rk_o (rk_o (rk_o (rk_o (l41_0) rfl rfl) rfl rfl) rfl rfl) rfl rfl).trans (congrArg (fun q : Nat => some (Value.ref q)) (((((show D38 0 = D35 0 from (eD38 0))).trans ((show D35 0 = D31 0 from (eD35 0)))).trans ((show D31 0 = D_41 0 from (eD31 0).trans (hD31 0 rfl))))).symm)) ((rk_o (rk_o (rk_o (rk_o (l41_1) rfl rfl) rfl rfl) rfl rfl) rfl rfl).trans (congrArg (fun q : Nat => some (Value.ref q)) (((((show D38 1 = D35 1 from (eD38 1).trans (hD38 0 rfl))).trans ((show D35 1 = D31 1 from (eD35 1).trans (hD35 0 rfl)))).trans ((show D31 1 = D_41 1 from (eD31 1).trans (hD31 1 rfl))))).symm)) (rk_o (rk_s) rfl rfl) (rk_s) H O (SD_trans (SD_trans (SD_trans (hD_41) (SD_gluc (ι := oz_D1clsl_12) oz_D1cls_32 hD31 eD31 (by decide +kernel)) (any_subA (lₚ := [2]) (by decide +kernel))) (SD_gluc (ι := oz_D1clsl_5) oz_D1cls_15 hD35 eD35 (by decide +kernel)) (any_subA (lₚ := [2]) (by decide +kernel))) (SD_gluc (ι := oz_D1clsl_5) oz_D1cls_15 hD38 eD38 (by decide +kernel)) (any_subA (lₚ := [2]) (by decide +kernel))) (SD_trans (SD_trans (SD_trans (hN_41) (SD_gluc (ι := oz_D1clsl_12) oz_D1cls_32 hN31 eN31 (by decide +kernel)) (any_subA (lₚ := [2]) (by decide +kernel))) (SD_gluc (ι := oz_D1clsl_5) oz_D1cls_15 hN35 eN35 (by decide +kernel)) (any_subA (lₚ := [2]) (by decide +kernel))) (SD_gluc (ι := oz_D1clsl_5) oz_D1cls_15 hN38 eN38 (by decide +kernel)) (any_subA (lₚ := [2]) (by decide +kernel))) (SF_trans (SF_trans (SF_trans (hS_41) (SF_gluc (ι := oz_D1clsl_12) oz_D1cls_32 hS31 eF31 (by decide +kernel)) (any_sub (lₚ := [(1, 0), (1, 1), (1, 2)]) (by decide +kernel))) (SF_gluc (ι := oz_D1clsl_5) oz_D1cls_15 hS35 eF35 (by decide +kernel)) (any_sub (lₚ := [(1, 0), (1, 1), (1, 2)]) (by decide +kernel))) (SF_gluc (ι := oz_D1clsl_5) oz_D1cls_15 hS38 eF38 (by decide +kernel)) (any_sub (lₚ := [(1, 0), (1, 1), (1, 2)]) (by decide +kernel))) (SA_trans (SA_trans (SA_trans (hA_41) (SA_gluc (ι := oz_D1clsl_12) oz_D1cls_32 hA31 eA31 (by decide +kernel)) (any_subA (lₚ := [2]) (by decide +kernel))) (SA_gluc (ι := oz_D1clsl_5) oz_D1cls_15 hA35 eA35 (by decide +kernel)) (any_subA (lₚ := [2]) (by decide +kernel))) (SA_gluc (ι := oz_D1clsl_5) oz_D1cls_15 hA38 eA38 (by decide +kernel)) (any_subA (lₚ := [2]) (by decide +kernel))) (pf38_1_0) (m38_1) ((congrArg (fun q : Nat => (q : Int)) (eN38 2)).trans em38_1) (y38_0_1) (((eF38 1 1).trans ey38_0_1))  (show inr ((x41_4 + (v29 + v41))) by omega) (show inr ((x41_5 + 1)) from q_2781 b25 j41_2 pz17_1 r19) (show (0) ≤ ((x41_5 + 1)) from q_29 j41_2) (show ((x41_5 + 1)) ≤ (0) ∨ ((x41_5 + 1)) ≤ ((y17_0_4)) from q_33 b25) (show 0 ≤ (y38_0_1) ∧ (y38_0_1) ≤ (m38_1) ∧ (m38_1) ≤ 65536 from pz38_0) (show ((x41_4 + (v29 + v41))) = (a2) + su (fun j => ((w17_4)) j + ((w17_5)) j) (((x41_5 + 1)) : Int).toNat by omega) rfl
abbrev V214_Row_Row : vV := [(0, 11, [(4, 0), (4, 0), (4, 0), (4, 0), (4, 0), (0, 0), (4, 0), (0, 0), (0, 0), (0, 0), (0, 0), (0, 0), (0, 0)]), (0, 7, [(4, 0), (0, 0), (1, 0), (0, 0), (0, 0)]), (0, 7, [(4, 0), (0, 0), (1, 0), (0, 0), (0, 0)]), (1, 0, []), (1, 0, []), (0, 7, [(4, 0), (0, 0), (1, 0), (0, 0), (0, 0)]), (1, 0, []), (0, 5, [(4, 0), (4, 0), (4, 0), (4, 0), (0, 0), (0, 0), (0, 0), (4, 0), (4, 0), (0, 0), (0, 0), (0, 0), (0, 0), (0, 0), (0, 0), (0, 0), (0, 0), (0, 0), (0, 0)]), (0, 7, [(4, 0), (0, 0), (1, 0), (0, 0), (0, 0)]), (1, 0, []), (1, 1, []), (1, 1, []), (1, 1, []), (1, 1, []), (1, 1, []), (1, 1, [])]
theorem len_V214_Row_Row_oz_D1cls : (V214_Row_Row).length = 16 := by decide +kernel
theorem oz_D1cls_34 : vsub V214_Row_Row V158_Row [8, 5, 9, 6] = true := by decide +kernel
theorem oz_D1cls_35 : vmov V214_Row_Row [8, 5, 9, 6] [2] = true := by decide +kernel
theorem oz_D1cls_36 : vsub V214_Row_Row V161_Br [8, 4, 9] = true := by decide +kernel
theorem oz_D1cls_37 : vmov V214_Row_Row [8, 4, 9] [2] = true := by decide +kernel
theorem oz_D1cls_38 : vsub V214_Row_Row V121 [7, 11] = true := by decide +kernel
theorem oz_D1cls_39 : vmov V214_Row_Row [7, 11] [1] = true := by decide +kernel
theorem oz_D1cls_40 : vsub V214_Row_Row V215_Row [0, 1, 3, 7, 8, 9, 12, 11, 13, 14, 15] = true := by decide +kernel
theorem oz_D1cls_41 : vmov V214_Row_Row [0, 1, 3, 7, 8, 9, 12, 11, 13, 14, 15] [2, 6, 8, 9, 10] = true := by decide +kernel
def oz_D1clsl_13 : List (Nat × Nat) := [(1, 0), (1, 1), (1, 2), (7, 1), (7, 2), (7, 3), (7, 4), (7, 5), (7, 6), (7, 7), (7, 8), (7, 9), (7, 10), (7, 11), (7, 12), (7, 13), (7, 14), (7, 15), (7, 16), (7, 17), (7, 18), (8, 0), (8, 1), (8, 2), (8, 3), (8, 4)]
theorem oz_D1cls_42 : (oz_D1clsl_13).all (fun p => !tbz 3589568901079400391871035922059997056625456883158758201329768932132740204068864 (Nat.add (Nat.mul 32 p.1) p.2)) = true := by decide +kernel
def oz_D1clsl_14 : List Nat := [3, 9, 11, 12, 13, 14, 15]
theorem oz_D1cls_43 : (oz_D1clsl_14).all (fun p => !tbz 64008 p) = true := by decide +kernel
def oz_D1clsl_15 : List Nat := [8, 5, 9, 6]
theorem oz_D1cls_44 : okc oz_D1clsl_15 807668232 = true := by decide +kernel
def oz_D1clsl_16 : List Nat := [8, 4, 9]
theorem oz_D1cls_45 : okc oz_D1clsl_16 2361352 = true := by decide +kernel
def oz_D1clsl_17 : List Nat := [7, 11]
theorem oz_D1cls_46 : okc oz_D1clsl_17 5639 = true := by decide +kernel
def oz_D1clsl_18 : List Nat := [0, 1, 3, 7, 8, 9, 12, 11, 13, 14, 15]
theorem oz_D1cls_47 : okc oz_D1clsl_18 18603012004667773443327656448 = true := by decide +kernel
/-- Tokens.packAlone: this, #1, #2, #1.bytes, #2.bytes, this.past, this.past.bytes, this.finder, this.finder.data, this.finder.data.bytes, this.settings, this.finder.heads, this.finder.back, this.finder.literals, this.finder.lengths, this.finder.distances -/
theorem C214_Row_Row {σE : rS} {D N : Nat → Nat} {F : hF} {A : hA} {d c s : Nat} {Q : wQ} (H : HW V214_Row_Row σE D N F A)  (pf3 : F 1 0 = (D 3 : Int)) (pf4 : F 2 0 = (D 4 : Int)) (pf5 : F 0 1 = (D 5 : Int)) (pf6 : F 5 0 = (D 6 : Int)) (pf7 : F 0 2 = (D 7 : Int)) (pf8 : F 7 0 = (D 8 : Int)) (pf9 : F 8 0 = (D 9 : Int)) (pf10 : F 0 0 = (D 10 : Int)) (pf11 : F 7 7 = (D 11 : Int)) (pf12 : F 7 8 = (D 12 : Int)) (pf13 : F 7 1 = (D 13 : Int)) (pf14 : F 7 2 = (D 14 : Int)) (pf15 : F 7 3 = (D 15 : Int)) (n3 : Int) (en3 : (N 3 : Int) = n3) (n4 : Int) (en4 : (N 4 : Int) = n4) (n6 : Int) (en6 : (N 6 : Int) = n6) (n9 : Int) (en9 : (N 9 : Int) = n9) (n10 : Int) (en10 : (N 10 : Int) = n10) (n11 : Int) (en11 : (N 11 : Int) = n11) (n12 : Int) (en12 : (N 12 : Int) = n12) (n13 : Int) (en13 : (N 13 : Int) = n13) (n14 : Int) (en14 : (N 14 : Int) = n14) (n15 : Int) (en15 : (N 15 : Int) = n15) (u1_1 : Int) (eu1_1 : F 1 1 = u1_1) (u2_1 : Int) (eu2_1 : F 2 1 = u2_1) (u5_1 : Int) (eu5_1 : F 5 1 = u5_1) (u8_1 : Int) (eu8_1 : F 8 1 = u8_1) (h0 : 0 ≤ (u1_1) ∧ (u1_1) ≤ (n3) ∧ (n3) ≤ 65536) (h1 : 0 ≤ (u2_1) ∧ (u2_1) ≤ (n4) ∧ (n4) ≤ 65536) (h2 : 0 ≤ (u5_1) ∧ (u5_1) ≤ (n6) ∧ (n6) ≤ 65536) (h3 : 0 ≤ (u8_1) ∧ (u8_1) ≤ (n9) ∧ (n9) ≤ 65536) (h4 : (n10) = 10) (h5 : (u5_1) + (u2_1) ≤ 16384) (h6 : (n11) = 0 ∨ (n11) = 2048) (h7 : (n12) ≤ 16384) (h8 : (n13) = (n14) ∧ (n15) = (n14) ∧ (n14) ≤ 65536 ∧ ((n14) = 0 ∨ 64 ≤ (n14)) ∧ lgq ((n14)) = 0) (k : ∀ (σ : rS) (Dₚ Nₚ : Nat → Nat) (Fₚ : hF) (Aₚ : hA) (cₚ sₚ : Nat), HW V214_Row_Row σ Dₚ Nₚ Fₚ Aₚ → OUT (V214_Row_Row).length D N σE c s Dₚ Nₚ σ cₚ sₚ → SD [3, 9, 11, 12, 13, 14, 15] D Dₚ → SD [3, 9, 11, 12, 13, 14, 15] N Nₚ → SF [(1, 0), (1, 1), (1, 2), (7, 1), (7, 2), (7, 3), (7, 4), (7, 5), (7, 6), (7, 7), (7, 8), (7, 9), (7, 10), (7, 11), (7, 12), (7, 13), (7, 14), (7, 15), (7, 16), (7, 17), (7, 18), (8, 0), (8, 1), (8, 2), (8, 3), (8, 4)] F Fₚ → SA [3, 9, 11, 12, 13, 14, 15] A Aₚ → Fₚ 1 0 = (Dₚ 3 : Int) → Fₚ 8 0 = (Dₚ 9 : Int) → Fₚ 7 7 = (Dₚ 11 : Int) → Fₚ 7 8 = (Dₚ 12 : Int) → Fₚ 7 1 = (Dₚ 13 : Int) → Fₚ 7 2 = (Dₚ 14 : Int) → Fₚ 7 3 = (Dₚ 15 : Int) → ∀ m3 : Int, (Nₚ 3 : Int) = m3 → ∀ m9 : Int, (Nₚ 9 : Int) = m9 → ∀ m11 : Int, (Nₚ 11 : Int) = m11 → ∀ m12 : Int, (Nₚ 12 : Int) = m12 → ∀ m13 : Int, (Nₚ 13 : Int) = m13 → ∀ m14 : Int, (Nₚ 14 : Int) = m14 → ∀ m15 : Int, (Nₚ 15 : Int) = m15 → ∀ y1_1 : Int, Fₚ 1 1 = y1_1 → ∀ y8_1 : Int, Fₚ 8 1 = y8_1 → (0 ≤ (y1_1) ∧ (y1_1) ≤ (m3) ∧ (m3) ≤ 65536) → (0 ≤ (y8_1) ∧ (y8_1) ≤ (m9) ∧ (m9) ≤ 65536) → ((m11) = 0 ∨ (m11) = 2048) → ((m12) ≤ 16384) → ((m13) = (m14) ∧ (m15) = (m14) ∧ (m14) ≤ 65536 ∧ ((m14) = 0 ∨ 64 ≤ (m14)) ∧ lgq ((m14)) = 0) → Q none σ cₚ sₚ) : Ew 214 (d + 6) 0 (rargs 0 [.ref (D 0), .ref (D 1), .ref (D 2)]) [] σE c s Q := by
  have O := OUT_refl (n := (V214_Row_Row).length) (D := D) (N := N) (σ := σE) (c := c) (s := s)
  have HE := H
  have r1 : (-2147483648 : Int) ≤ u1_1 ∧ u1_1 ≤ 2147483647 := rngE (show (-2147483648 : Int) ≤ F 1 1 ∧ F 1 1 ≤ 2147483647 from H.krg 1 1 (ltn len_V214_Row_Row_oz_D1cls rfl)) (show F 1 1 = u1_1 from (eu1_1))
  have r2 : (-2147483648 : Int) ≤ u2_1 ∧ u2_1 ≤ 2147483647 := rngE (show (-2147483648 : Int) ≤ F 2 1 ∧ F 2 1 ≤ 2147483647 from H.krg 2 1 (ltn len_V214_Row_Row_oz_D1cls rfl)) (show F 2 1 = u2_1 from (eu2_1))
  have r3 : (-2147483648 : Int) ≤ u5_1 ∧ u5_1 ≤ 2147483647 := rngE (show (-2147483648 : Int) ≤ F 5 1 ∧ F 5 1 ≤ 2147483647 from H.krg 5 1 (ltn len_V214_Row_Row_oz_D1cls rfl)) (show F 5 1 = u5_1 from (eu5_1))
  have r4 : (-2147483648 : Int) ≤ u8_1 ∧ u8_1 ≤ 2147483647 := rngE (show (-2147483648 : Int) ≤ F 8 1 ∧ F 8 1 ≤ 2147483647 from H.krg 8 1 (ltn len_V214_Row_Row_oz_D1cls rfl)) (show F 8 1 = u8_1 from (eu8_1))
  have r5 : (0 : Int) ≤ n3 ∧ n3 ≤ 1000000 := nleE (H.nle 3 (ltn len_V214_Row_Row_oz_D1cls rfl)) (show (N 3 : Int) = n3 from en3)
  have r6 : (0 : Int) ≤ n4 ∧ n4 ≤ 1000000 := nleE (H.nle 4 (ltn len_V214_Row_Row_oz_D1cls rfl)) (show (N 4 : Int) = n4 from en4)
  have r7 : (0 : Int) ≤ n6 ∧ n6 ≤ 1000000 := nleE (H.nle 6 (ltn len_V214_Row_Row_oz_D1cls rfl)) (show (N 6 : Int) = n6 from en6)
  have r8 : (0 : Int) ≤ n9 ∧ n9 ≤ 1000000 := nleE (H.nle 9 (ltn len_V214_Row_Row_oz_D1cls rfl)) (show (N 9 : Int) = n9 from en9)
  have r9 : (0 : Int) ≤ n10 ∧ n10 ≤ 1000000 := nleE (H.nle 10 (ltn len_V214_Row_Row_oz_D1cls rfl)) (show (N 10 : Int) = n10 from en10)
  have r10 : (0 : Int) ≤ n11 ∧ n11 ≤ 1000000 := nleE (H.nle 11 (ltn len_V214_Row_Row_oz_D1cls rfl)) (show (N 11 : Int) = n11 from en11)
  have r11 : (0 : Int) ≤ n12 ∧ n12 ≤ 1000000 := nleE (H.nle 12 (ltn len_V214_Row_Row_oz_D1cls rfl)) (show (N 12 : Int) = n12 from en12)
  have r12 : (0 : Int) ≤ n13 ∧ n13 ≤ 1000000 := nleE (H.nle 13 (ltn len_V214_Row_Row_oz_D1cls rfl)) (show (N 13 : Int) = n13 from en13)
  have r13 : (0 : Int) ≤ n14 ∧ n14 ≤ 1000000 := nleE (H.nle 14 (ltn len_V214_Row_Row_oz_D1cls rfl)) (show (N 14 : Int) = n14 from en14)
  have r14 : (0 : Int) ≤ n15 ∧ n15 ≤ 1000000 := nleE (H.nle 15 (ltn len_V214_Row_Row_oz_D1cls rfl)) (show (N 15 : Int) = n15 from en15)
  refine Ew_of (pcₚ := 1) (fun _ => x_aload_n rfl rfl) ?_
  refine v_g H (o := 0) (v := .ref (D 7)) rfl rfl rfl rfl rfl (vrf (pf7)) ?_
  refine v_g H (o := 7) (v := .ref (D 8)) rfl rfl rfl rfl rfl (vrf (pf8)) ?_
  refine Ew_of (pcₚ := 8) (fun _ => x_aload_n rfl rfl) ?_
  refine v_g H (o := 0) (v := .ref (D 5)) rfl rfl rfl rfl rfl (vrf (pf5)) ?_
  refine v_inv H (o := 8) rfl rfl rfl rfl rfl rfl (by rfl) (C158_Row (D := puc 807668232 D) (N := puc 807668232 N) (HW_subc H oz_D1cls_34 oz_D1cls_44) (pf9) (pf6) (n9) (en9) (n6) (en6) (u8_1) ((eu8_1)) (u5_1) ((eu5_1)) (show 0 ≤ (u8_1) ∧ (u8_1) ≤ (n9) ∧ (n9) ≤ 65536 from h3) (show 0 ≤ (u5_1) ∧ (u5_1) ≤ (n6) ∧ (n6) ≤ 65536 from h2) (fun σ15 D15ₚ N15ₚ F15ₚ A15ₚ c15 s15 Hₚ Oₚ hD15 hN15 hS15 hA15 pm15_2 m15_2 em15_2 y15_0_1 ey15_0_1 pz15_0 pz15_1 => ⟨rfl, ?_⟩))
  refine v_backMc (c := c) (s := s) H oz_D1cls_34 oz_D1cls_44 Hₚ Oₚ hD15 oz_D1cls_35 (fun D15 N15 F15 A15 H Oₚ eD15 eN15 eF15 eA15 => ?_)
  have O := OUT_trans O Oₚ
  -- Row.become
  have cF15 : SF oz_D1clsl_13 F F15 := SF_trans (SF_refl) (SF_gluc (ι := oz_D1clsl_15) oz_D1cls_44 hS15 eF15 (by decide +kernel)) (any_sub (lₚ := [(8, 0), (8, 1), (8, 2), (8, 3), (8, 4)]) (by decide +kernel))
  have mF15 := SFm_of cF15 oz_D1cls_42
  have cA15 : SA oz_D1clsl_14 A A15 := SA_trans (SA_refl) (SA_gluc (ι := oz_D1clsl_15) oz_D1cls_44 hA15 eA15 (by decide +kernel)) (any_subA (lₚ := [9]) (by decide +kernel))
  have mA15 := SAm_of cA15 oz_D1cls_43
  have cD15 : SD oz_D1clsl_14 D D15 := SD_trans (SD_refl) (SD_gluc (ι := oz_D1clsl_15) oz_D1cls_44 hD15 eD15 (by decide +kernel)) (any_subA (lₚ := [9]) (by decide +kernel))
  have mD15 := SDm_of cD15 oz_D1cls_43
  have cN15 : SD oz_D1clsl_14 N N15 := SD_trans (SD_refl) (SD_gluc (ι := oz_D1clsl_15) oz_D1cls_44 hN15 eN15 (by decide +kernel)) (any_subA (lₚ := [9]) (by decide +kernel))
  have mN15 := SDm_of cN15 oz_D1cls_43
  have pf15_1_0 : F15 1 0 = (D15 3 : Int) := ((show F15 1 0 = F 1 0 from (eF15 1 0))).trans ((pf3).trans (congrArg (fun q : Nat => (q : Int)) ((show D15 3 = D 3 from (eD15 3))).symm))
  have pf15_7_1 : F15 7 1 = (D15 13 : Int) := ((show F15 7 1 = F 7 1 from (eF15 7 1))).trans ((pf13).trans (congrArg (fun q : Nat => (q : Int)) ((show D15 13 = D 13 from (eD15 13))).symm))
  have pf15_7_2 : F15 7 2 = (D15 14 : Int) := ((show F15 7 2 = F 7 2 from (eF15 7 2))).trans ((pf14).trans (congrArg (fun q : Nat => (q : Int)) ((show D15 14 = D 14 from (eD15 14))).symm))
  have pf15_7_3 : F15 7 3 = (D15 15 : Int) := ((show F15 7 3 = F 7 3 from (eF15 7 3))).trans ((pf15).trans (congrArg (fun q : Nat => (q : Int)) ((show D15 15 = D 15 from (eD15 15))).symm))
  have pf15_7_7 : F15 7 7 = (D15 11 : Int) := ((show F15 7 7 = F 7 7 from (eF15 7 7))).trans ((pf11).trans (congrArg (fun q : Nat => (q : Int)) ((show D15 11 = D 11 from (eD15 11))).symm))
  have pf15_7_8 : F15 7 8 = (D15 12 : Int) := ((show F15 7 8 = F 7 8 from (eF15 7 8))).trans ((pf12).trans (congrArg (fun q : Nat => (q : Int)) ((show D15 12 = D 12 from (eD15 12))).symm))
  have pf15_8_0 : F15 8 0 = (D15 9 : Int) := (eF15 8 0).trans (pm15_2.trans (congrArg (fun q : Nat => (q : Int)) (eD15 9).symm))
  have r16 : (0 : Int) ≤ m15_2 ∧ m15_2 ≤ 1000000 := nleE (H.nle 9 (ltn len_V214_Row_Row_oz_D1cls rfl)) (show (N15 9 : Int) = m15_2 from (congrArg (fun q : Nat => (q : Int)) (eN15 9)).trans em15_2)
  have r17 : (-2147483648 : Int) ≤ y15_0_1 ∧ y15_0_1 ≤ 2147483647 := rngE (show (-2147483648 : Int) ≤ F15 8 1 ∧ F15 8 1 ≤ 2147483647 from H.krg 8 1 (ltn len_V214_Row_Row_oz_D1cls rfl)) (show F15 8 1 = y15_0_1 from ((eF15 8 1).trans ey15_0_1))
  refine Ew_of (pcₚ := 15) (fun _ => x_aload_n rfl rfl) ?_
  refine Ew_stk (congrArg (fun qz : Nat => ([.ref qz] : List Value)) (show D15 0 = D 0 from mD15 0 rfl).symm) ?_
  refine v_g H (o := 0) (v := .ref (D15 7)) rfl rfl rfl rfl rfl (vrf ((mF15 0 2 rfl).trans ((pf7).trans (congrArg (fun q : Nat => (q : Int)) (mD15 7 rfl).symm)))) ?_
  refine v_g H (o := 7) (v := .ref (D15 8)) rfl rfl rfl rfl rfl (vrf ((mF15 7 0 rfl).trans ((pf8).trans (congrArg (fun q : Nat => (q : Int)) (mD15 8 rfl).symm)))) ?_
  refine Ew_of (pcₚ := 22) (fun _ => x_aload_n rfl rfl) ?_
  refine Ew_stk (congrArg (fun qz : Nat => ([.ref qz, .ref (D15 8)] : List Value)) (show D15 2 = D 2 from mD15 2 rfl).symm) ?_
  refine v_g H (o := 2) (v := .ref (D15 4)) rfl rfl rfl rfl rfl (vrf ((mF15 2 0 rfl).trans ((pf4).trans (congrArg (fun q : Nat => (q : Int)) (mD15 4 rfl).symm)))) ?_
  refine Ew_of (pcₚ := 26) (fun _ => x_iconst rfl) ?_
  refine Ew_of (pcₚ := 27) (fun _ => x_aload_n rfl rfl) ?_
  refine Ew_stk (congrArg (fun qz : Nat => ([.ref qz, I (0), .ref (D15 4), .ref (D15 8)] : List Value)) (show D15 2 = D 2 from mD15 2 rfl).symm) ?_
  refine v_g H (o := 2) (v := I (u2_1)) rfl rfl rfl rfl rfl (congrArg (fun z : Int => I z) (((mF15 2 1 rfl).trans (eu2_1)) : F15 2 1 = u2_1)) ?_
  refine v_inv H (o := 8) rfl rfl rfl rfl rfl rfl (by rfl) (C161_Br (D := puc 2361352 D15) (N := puc 2361352 N15) (HW_subc H oz_D1cls_36 oz_D1cls_45) (pf15_8_0) (n4) ((congrArg (fun q : Nat => (q : Int)) (mN15 4 rfl)).trans (en4)) (m15_2) ((congrArg (fun q : Nat => (q : Int)) (eN15 9)).trans em15_2) (y15_0_1) (((eF15 8 1).trans ey15_0_1)) (A15 9) (rfl) (show inr (0) from q_20) (show inr (u2_1) from q_884 h1) (show 0 ≤ (y15_0_1) ∧ (y15_0_1) ≤ (m15_2) ∧ (m15_2) ≤ 65536 from pz15_0) (show (u2_1) < 0 ∨ 0 ≤ (0) ∧ (0) + (u2_1) ≤ (n4) from q_2548 h1) (fun σ18 D18ₚ N18ₚ F18ₚ A18ₚ c18 s18 Hₚ Oₚ hD18 hN18 hS18 hA18 pm18_2 m18_2 em18_2 y18_0_1 ey18_0_1 w18_2 ew18_2 pz18_0 pz18_1 pz18_2 => ⟨rfl, ?_⟩))
  refine v_backMc (c := (c + c15)) (s := (s + s15)) H oz_D1cls_36 oz_D1cls_45 Hₚ Oₚ hD18 oz_D1cls_37 (fun D18 N18 F18 A18 H Oₚ eD18 eN18 eF18 eA18 => ?_)
  have O := OUT_trans O Oₚ
  -- Row.addPart
  have cF18 : SF oz_D1clsl_13 F F18 := SF_trans (cF15) (SF_gluc (ι := oz_D1clsl_16) oz_D1cls_45 hS18 eF18 (by decide +kernel)) (any_sub (lₚ := [(8, 0), (8, 1), (8, 2)]) (by decide +kernel))
  have mF18 := SFm_of cF18 oz_D1cls_42
  have cA18 : SA oz_D1clsl_14 A A18 := SA_trans (cA15) (SA_gluc (ι := oz_D1clsl_16) oz_D1cls_45 hA18 eA18 (by decide +kernel)) (any_subA (lₚ := [9]) (by decide +kernel))
  have mA18 := SAm_of cA18 oz_D1cls_43
  have cD18 : SD oz_D1clsl_14 D D18 := SD_trans (cD15) (SD_gluc (ι := oz_D1clsl_16) oz_D1cls_45 hD18 eD18 (by decide +kernel)) (any_subA (lₚ := [9]) (by decide +kernel))
  have mD18 := SDm_of cD18 oz_D1cls_43
  have cN18 : SD oz_D1clsl_14 N N18 := SD_trans (cN15) (SD_gluc (ι := oz_D1clsl_16) oz_D1cls_45 hN18 eN18 (by decide +kernel)) (any_subA (lₚ := [9]) (by decide +kernel))
  have mN18 := SDm_of cN18 oz_D1cls_43
  have pf18_1_0 : F18 1 0 = (D18 3 : Int) := ((show F18 1 0 = F15 1 0 from (eF18 1 0))).trans ((pf15_1_0).trans (congrArg (fun q : Nat => (q : Int)) ((show D18 3 = D15 3 from (eD18 3))).symm))
  have pf18_7_1 : F18 7 1 = (D18 13 : Int) := ((show F18 7 1 = F15 7 1 from (eF18 7 1))).trans ((pf15_7_1).trans (congrArg (fun q : Nat => (q : Int)) ((show D18 13 = D15 13 from (eD18 13))).symm))
  have pf18_7_2 : F18 7 2 = (D18 14 : Int) := ((show F18 7 2 = F15 7 2 from (eF18 7 2))).trans ((pf15_7_2).trans (congrArg (fun q : Nat => (q : Int)) ((show D18 14 = D15 14 from (eD18 14))).symm))
  have pf18_7_3 : F18 7 3 = (D18 15 : Int) := ((show F18 7 3 = F15 7 3 from (eF18 7 3))).trans ((pf15_7_3).trans (congrArg (fun q : Nat => (q : Int)) ((show D18 15 = D15 15 from (eD18 15))).symm))
  have pf18_7_7 : F18 7 7 = (D18 11 : Int) := ((show F18 7 7 = F15 7 7 from (eF18 7 7))).trans ((pf15_7_7).trans (congrArg (fun q : Nat => (q : Int)) ((show D18 11 = D15 11 from (eD18 11))).symm))
  have pf18_7_8 : F18 7 8 = (D18 12 : Int) := ((show F18 7 8 = F15 7 8 from (eF18 7 8))).trans ((pf15_7_8).trans (congrArg (fun q : Nat => (q : Int)) ((show D18 12 = D15 12 from (eD18 12))).symm))
  have pf18_8_0 : F18 8 0 = (D18 9 : Int) := (eF18 8 0).trans (pm18_2.trans (congrArg (fun q : Nat => (q : Int)) (eD18 9).symm))
  have r19 : (0 : Int) ≤ m18_2 ∧ m18_2 ≤ 1000000 := nleE (H.nle 9 (ltn len_V214_Row_Row_oz_D1cls rfl)) (show (N18 9 : Int) = m18_2 from (congrArg (fun q : Nat => (q : Int)) (eN18 9)).trans em18_2)
  have r20 : (-2147483648 : Int) ≤ y18_0_1 ∧ y18_0_1 ≤ 2147483647 := rngE (show (-2147483648 : Int) ≤ F18 8 1 ∧ F18 8 1 ≤ 2147483647 from H.krg 8 1 (ltn len_V214_Row_Row_oz_D1cls rfl)) (show F18 8 1 = y18_0_1 from ((eF18 8 1).trans ey18_0_1))
  refine Ew_of (pcₚ := 34) (fun _ => x_aload_n rfl rfl) ?_
  refine Ew_stk (congrArg (fun qz : Nat => ([.ref qz] : List Value)) (show D18 0 = D 0 from mD18 0 rfl).symm) ?_
  refine v_g H (o := 0) (v := .ref (D18 7)) rfl rfl rfl rfl rfl (vrf ((mF18 0 2 rfl).trans ((pf7).trans (congrArg (fun q : Nat => (q : Int)) (mD18 7 rfl).symm)))) ?_
  refine Ew_of (pcₚ := 38) (fun _ => x_aload_n rfl rfl) ?_
  refine Ew_stk (congrArg (fun qz : Nat => ([.ref qz, .ref (D18 7)] : List Value)) (show D18 0 = D 0 from mD18 0 rfl).symm) ?_
  refine v_g H (o := 0) (v := .ref (D18 10)) rfl rfl rfl rfl rfl (vrf ((mF18 0 0 rfl).trans ((pf10).trans (congrArg (fun q : Nat => (q : Int)) (mD18 10 rfl).symm)))) ?_
  refine Ew_of (pcₚ := 42) (fun _ => x_iconst rfl) ?_
  refine v_lI H (o := 10) rfl rfl rfl rfl (n := n10) ((congrArg (fun q : Nat => (q : Int)) (mN18 10 rfl)).trans (en10)) (show 0 ≤ 0 ∧ 0 < n10 from q_2782 h4 r9) (fun v21 ev21 qv21 => ?_)
  have ev21 : (A 10) (0) = v21 := (congrFun (funext (mA18 10 rfl)) (0)).symm.trans ev21
  refine Ew_of (pcₚ := 44) (fun _ => x_iconst rfl) ?_
  refine Ew_of (pcₚ := 46) (fun _ => x_ldc (z := 65535) rfl (by decide)) ?_
  have r22 : (-2147483648 : Int) ≤ F 7 6 ∧ F 7 6 ≤ 2147483647 := rngE (show (-2147483648 : Int) ≤ F18 7 6 ∧ F18 7 6 ≤ 2147483647 from H.krg 7 6 (ltn len_V214_Row_Row_oz_D1cls rfl)) (show F18 7 6 = F 7 6 from (((show F18 7 6 = F15 7 6 from (eF18 7 6))).trans ((show F15 7 6 = F 7 6 from (eF15 7 6)))))
  have r23 : (-2147483648 : Int) ≤ F 7 9 ∧ F 7 9 ≤ 2147483647 := rngE (show (-2147483648 : Int) ≤ F18 7 9 ∧ F18 7 9 ≤ 2147483647 from H.krg 7 9 (ltn len_V214_Row_Row_oz_D1cls rfl)) (show F18 7 9 = F 7 9 from (((show F18 7 9 = F15 7 9 from (eF18 7 9))).trans ((show F15 7 9 = F 7 9 from (eF15 7 9)))))
  have r24 : (-2147483648 : Int) ≤ F 7 10 ∧ F 7 10 ≤ 2147483647 := rngE (show (-2147483648 : Int) ≤ F18 7 10 ∧ F18 7 10 ≤ 2147483647 from H.krg 7 10 (ltn len_V214_Row_Row_oz_D1cls rfl)) (show F18 7 10 = F 7 10 from (((show F18 7 10 = F15 7 10 from (eF18 7 10))).trans ((show F15 7 10 = F 7 10 from (eF15 7 10)))))
  have r25 : (-2147483648 : Int) ≤ F 7 11 ∧ F 7 11 ≤ 2147483647 := rngE (show (-2147483648 : Int) ≤ F18 7 11 ∧ F18 7 11 ≤ 2147483647 from H.krg 7 11 (ltn len_V214_Row_Row_oz_D1cls rfl)) (show F18 7 11 = F 7 11 from (((show F18 7 11 = F15 7 11 from (eF18 7 11))).trans ((show F15 7 11 = F 7 11 from (eF15 7 11)))))
  refine v_inv H (o := 7) rfl rfl rfl rfl rfl rfl (by rfl) (C121 (D := puc 5639 D18) (N := puc 5639 N18) (HW_subc H oz_D1cls_38 oz_D1cls_46) (pf18_7_7) (n11) ((congrArg (fun q : Nat => (q : Int)) (show N18 11 = N15 11 from (eN18 11))).trans ((congrArg (fun q : Nat => (q : Int)) (show N15 11 = N 11 from (eN15 11))).trans (en11))) (F 7 6) ((((show F18 7 6 = F15 7 6 from (eF18 7 6))).trans ((show F15 7 6 = F 7 6 from (eF15 7 6))))) (F 7 9) ((((show F18 7 9 = F15 7 9 from (eF18 7 9))).trans ((show F15 7 9 = F 7 9 from (eF15 7 9))))) (F 7 10) ((((show F18 7 10 = F15 7 10 from (eF18 7 10))).trans ((show F15 7 10 = F 7 10 from (eF15 7 10))))) (F 7 11) ((((show F18 7 11 = F15 7 11 from (eF18 7 11))).trans ((show F15 7 11 = F 7 11 from (eF15 7 11))))) (A 11) (((show A18 11 = A15 11 from (eA18 11))).trans ((show A15 11 = A 11 from (eA15 11)))) (show inr (v21) from qv21) (show inr (4) from q_2) (show inr (65535) from q_166) (show (n11) = 0 ∨ (n11) = 2048 from h6) (fun σ26 D26ₚ N26ₚ F26ₚ A26ₚ c26 s26 Hₚ Oₚ hD26 hN26 hS26 hA26 pm26_1 m26_1 em26_1 y26_0_6 ey26_0_6 y26_0_9 ey26_0_9 y26_0_10 ey26_0_10 y26_0_11 ey26_0_11 w26_1 ew26_1 pz26_0 pz26_1 pz26_2 pz26_3 => ⟨rfl, ?_⟩))
  refine v_backMc (c := ((c + c15) + c18)) (s := ((s + s15) + s18)) H oz_D1cls_38 oz_D1cls_46 Hₚ Oₚ hD26 oz_D1cls_39 (fun D26 N26 F26 A26 H Oₚ eD26 eN26 eF26 eA26 => ?_)
  have O := OUT_trans O Oₚ
  -- Finder.begin
  have cF26 : SF oz_D1clsl_13 F F26 := SF_trans (cF18) (SF_gluc (ι := oz_D1clsl_17) oz_D1cls_46 hS26 eF26 (by decide +kernel)) (any_sub (lₚ := [(7, 6), (7, 7), (7, 9), (7, 10), (7, 11)]) (by decide +kernel))
  have mF26 := SFm_of cF26 oz_D1cls_42
  have cA26 : SA oz_D1clsl_14 A A26 := SA_trans (cA18) (SA_gluc (ι := oz_D1clsl_17) oz_D1cls_46 hA26 eA26 (by decide +kernel)) (any_subA (lₚ := [11]) (by decide +kernel))
  have mA26 := SAm_of cA26 oz_D1cls_43
  have cD26 : SD oz_D1clsl_14 D D26 := SD_trans (cD18) (SD_gluc (ι := oz_D1clsl_17) oz_D1cls_46 hD26 eD26 (by decide +kernel)) (any_subA (lₚ := [11]) (by decide +kernel))
  have mD26 := SDm_of cD26 oz_D1cls_43
  have cN26 : SD oz_D1clsl_14 N N26 := SD_trans (cN18) (SD_gluc (ι := oz_D1clsl_17) oz_D1cls_46 hN26 eN26 (by decide +kernel)) (any_subA (lₚ := [11]) (by decide +kernel))
  have mN26 := SDm_of cN26 oz_D1cls_43
  have pf26_1_0 : F26 1 0 = (D26 3 : Int) := ((show F26 1 0 = F18 1 0 from (eF26 1 0))).trans ((pf18_1_0).trans (congrArg (fun q : Nat => (q : Int)) ((show D26 3 = D18 3 from (eD26 3))).symm))
  have pf26_7_1 : F26 7 1 = (D26 13 : Int) := ((show F26 7 1 = F18 7 1 from (eF26 7 1).trans (hS26 0 1 rfl))).trans ((pf18_7_1).trans (congrArg (fun q : Nat => (q : Int)) ((show D26 13 = D18 13 from (eD26 13))).symm))
  have pf26_7_2 : F26 7 2 = (D26 14 : Int) := ((show F26 7 2 = F18 7 2 from (eF26 7 2).trans (hS26 0 2 rfl))).trans ((pf18_7_2).trans (congrArg (fun q : Nat => (q : Int)) ((show D26 14 = D18 14 from (eD26 14))).symm))
  have pf26_7_3 : F26 7 3 = (D26 15 : Int) := ((show F26 7 3 = F18 7 3 from (eF26 7 3).trans (hS26 0 3 rfl))).trans ((pf18_7_3).trans (congrArg (fun q : Nat => (q : Int)) ((show D26 15 = D18 15 from (eD26 15))).symm))
  have pf26_7_7 : F26 7 7 = (D26 11 : Int) := (eF26 7 7).trans (pm26_1.trans (congrArg (fun q : Nat => (q : Int)) (eD26 11).symm))
  have pf26_7_8 : F26 7 8 = (D26 12 : Int) := ((show F26 7 8 = F18 7 8 from (eF26 7 8).trans (hS26 0 8 rfl))).trans ((pf18_7_8).trans (congrArg (fun q : Nat => (q : Int)) ((show D26 12 = D18 12 from (eD26 12))).symm))
  have pf26_8_0 : F26 8 0 = (D26 9 : Int) := ((show F26 8 0 = F18 8 0 from (eF26 8 0))).trans ((pf18_8_0).trans (congrArg (fun q : Nat => (q : Int)) ((show D26 9 = D18 9 from (eD26 9))).symm))
  have r27 : (0 : Int) ≤ m26_1 ∧ m26_1 ≤ 1000000 := nleE (H.nle 11 (ltn len_V214_Row_Row_oz_D1cls rfl)) (show (N26 11 : Int) = m26_1 from (congrArg (fun q : Nat => (q : Int)) (eN26 11)).trans em26_1)
  have r28 : (-2147483648 : Int) ≤ y26_0_6 ∧ y26_0_6 ≤ 2147483647 := rngE (show (-2147483648 : Int) ≤ F26 7 6 ∧ F26 7 6 ≤ 2147483647 from H.krg 7 6 (ltn len_V214_Row_Row_oz_D1cls rfl)) (show F26 7 6 = y26_0_6 from ((eF26 7 6).trans ey26_0_6))
  have r29 : (-2147483648 : Int) ≤ y26_0_9 ∧ y26_0_9 ≤ 2147483647 := rngE (show (-2147483648 : Int) ≤ F26 7 9 ∧ F26 7 9 ≤ 2147483647 from H.krg 7 9 (ltn len_V214_Row_Row_oz_D1cls rfl)) (show F26 7 9 = y26_0_9 from ((eF26 7 9).trans ey26_0_9))
  have r30 : (-2147483648 : Int) ≤ y26_0_10 ∧ y26_0_10 ≤ 2147483647 := rngE (show (-2147483648 : Int) ≤ F26 7 10 ∧ F26 7 10 ≤ 2147483647 from H.krg 7 10 (ltn len_V214_Row_Row_oz_D1cls rfl)) (show F26 7 10 = y26_0_10 from ((eF26 7 10).trans ey26_0_10))
  have r31 : (-2147483648 : Int) ≤ y26_0_11 ∧ y26_0_11 ≤ 2147483647 := rngE (show (-2147483648 : Int) ≤ F26 7 11 ∧ F26 7 11 ≤ 2147483647 from H.krg 7 11 (ltn len_V214_Row_Row_oz_D1cls rfl)) (show F26 7 11 = y26_0_11 from ((eF26 7 11).trans ey26_0_11))
  have hb0 : BKI ((w18_2)) ((A 12)) ((y26_0_10)) ((y26_0_6)) := by rw [pz26_1]; exact BKI_0
  have hh0 : HDI ((w18_2)) ((w26_1)) ((y26_0_10)) ((y26_0_6)) := by rw [pz26_1]; exact HDI_0 pz26_3
  refine Ew_of (pcₚ := 50) (fun _ => x_aload_n rfl rfl) ?_
  refine Ew_of (pcₚ := 51) (fun _ => x_aload_n rfl rfl) ?_
  refine Ew_of (pcₚ := 52) (fun _ => x_aload_n rfl rfl) ?_
  refine Ew_stk (show ([.ref (D 0), .ref (D 1), .ref (D 0)] : List Value) = [.ref (D26 0), .ref (D26 1), .ref (D26 0)] by rw [show D26 0 = D 0 from mD26 0 rfl, show D26 1 = D 1 from mD26 1 rfl]) ?_
  refine v_g H (o := 0) (v := .ref (D26 5)) rfl rfl rfl rfl rfl (vrf ((mF26 0 1 rfl).trans ((pf5).trans (congrArg (fun q : Nat => (q : Int)) (mD26 5 rfl).symm)))) ?_
  refine v_g H (o := 5) (v := I (u5_1)) rfl rfl rfl rfl rfl (congrArg (fun z : Int => I z) (((mF26 5 1 rfl).trans (eu5_1)) : F26 5 1 = u5_1)) ?_
  refine v_inv H (o := 0) rfl rfl rfl rfl rfl rfl (by rfl) (C215_Row (D := puc 18603012004667773443327656448 D26) (N := puc 18603012004667773443327656448 N26) (HW_subc H oz_D1cls_40 oz_D1cls_47) (pf26_1_0) ((mF26 0 2 rfl).trans ((pf7).trans (congrArg (fun q : Nat => (q : Int)) (mD26 7 rfl).symm))) ((mF26 7 0 rfl).trans ((pf8).trans (congrArg (fun q : Nat => (q : Int)) (mD26 8 rfl).symm))) (pf26_8_0) (pf26_7_8) (pf26_7_7) (pf26_7_1) (pf26_7_2) (pf26_7_3) (n3) ((congrArg (fun q : Nat => (q : Int)) (show N26 3 = N18 3 from (eN26 3))).trans ((congrArg (fun q : Nat => (q : Int)) (show N18 3 = N15 3 from (eN18 3))).trans ((congrArg (fun q : Nat => (q : Int)) (show N15 3 = N 3 from (eN15 3))).trans (en3)))) (m18_2) ((congrArg (fun q : Nat => (q : Int)) (show N26 9 = N18 9 from (eN26 9))).trans ((congrArg (fun q : Nat => (q : Int)) (eN18 9)).trans em18_2)) (n12) ((congrArg (fun q : Nat => (q : Int)) (show N26 12 = N18 12 from (eN26 12))).trans ((congrArg (fun q : Nat => (q : Int)) (show N18 12 = N15 12 from (eN18 12))).trans ((congrArg (fun q : Nat => (q : Int)) (show N15 12 = N 12 from (eN15 12))).trans (en12)))) (m26_1) ((congrArg (fun q : Nat => (q : Int)) (eN26 11)).trans em26_1) (n13) ((congrArg (fun q : Nat => (q : Int)) (show N26 13 = N18 13 from (eN26 13))).trans ((congrArg (fun q : Nat => (q : Int)) (show N18 13 = N15 13 from (eN18 13))).trans ((congrArg (fun q : Nat => (q : Int)) (show N15 13 = N 13 from (eN15 13))).trans (en13)))) (n14) ((congrArg (fun q : Nat => (q : Int)) (show N26 14 = N18 14 from (eN26 14))).trans ((congrArg (fun q : Nat => (q : Int)) (show N18 14 = N15 14 from (eN18 14))).trans ((congrArg (fun q : Nat => (q : Int)) (show N15 14 = N 14 from (eN15 14))).trans (en14)))) (n15) ((congrArg (fun q : Nat => (q : Int)) (show N26 15 = N18 15 from (eN26 15))).trans ((congrArg (fun q : Nat => (q : Int)) (show N18 15 = N15 15 from (eN18 15))).trans ((congrArg (fun q : Nat => (q : Int)) (show N15 15 = N 15 from (eN15 15))).trans (en15)))) (u1_1) ((((((show F26 1 1 = F18 1 1 from (eF26 1 1))).trans ((show F18 1 1 = F15 1 1 from (eF18 1 1)))).trans ((show F15 1 1 = F 1 1 from (eF15 1 1)))).trans (eu1_1))) (y26_0_6) (((eF26 7 6).trans ey26_0_6)) (y26_0_10) (((eF26 7 10).trans ey26_0_10)) (y18_0_1) ((((show F26 8 1 = F18 8 1 from (eF26 8 1))).trans ((eF18 8 1).trans ey18_0_1))) (w18_2) (((show A26 9 = A18 9 from (eA26 9))).trans ((eA18 9).trans ew18_2)) (A 12) (((show A26 12 = A18 12 from (eA26 12))).trans (((show A18 12 = A15 12 from (eA18 12))).trans ((show A15 12 = A 12 from (eA15 12))))) (w26_1) ((eA26 11).trans ew26_1) (show inr (u5_1) from q_884 h2) (show 0 ≤ (u1_1) ∧ (u1_1) ≤ (n3) ∧ (n3) ≤ 65536 from h0) (show 0 ≤ (y18_0_1) ∧ (y18_0_1) ≤ (m18_2) ∧ (m18_2) ≤ 65536 ∧ (y18_0_1) ≤ 16384 from q_2786 h1 h5 pz15_1 pz18_0 pz18_1) (show (y26_0_10) = 4 from q_2785 pz26_2) (show 0 ≤ (u5_1) ∧ (u5_1) ≤ (y18_0_1) from q_2784 h1 h2 pz15_1 pz18_1) (show BKI ((w18_2)) ((A 12)) ((y26_0_10)) ((y26_0_6)) from hb0) (show HDI ((w18_2)) ((w26_1)) ((y26_0_10)) ((y26_0_6)) from hh0) (show (n13) = (n14) ∧ (n15) = (n14) ∧ (n14) ≤ 65536 ∧ ((n14) = 0 ∨ 64 ≤ (n14)) ∧ lgq ((n14)) = 0 from h8) (show (m26_1) = 2048 from pz26_0) (show 0 ≤ (y26_0_6) ∧ (y26_0_6) ≤ (n12) ∧ (n12) ≤ 16384 from q_2783 h7 pz26_1 r11) (fun σ32 D32ₚ N32ₚ F32ₚ A32ₚ c32 s32 Hₚ Oₚ hD32 hN32 hS32 hA32 pm32_2 pm32_6 pm32_8 pm32_9 pm32_10 m32_2 em32_2 m32_6 em32_6 m32_8 em32_8 m32_9 em32_9 m32_10 em32_10 y32_1_1 ey32_1_1 y32_3_6 ey32_3_6 w32_6 ew32_6 w32_7 ew32_7 pz32_0 pz32_1 pz32_2 pz32_3 pz32_4 pz32_5 => ⟨rfl, ?_⟩))
  refine v_backMc (c := (((c + c15) + c18) + c26)) (s := (((s + s15) + s18) + s26)) H oz_D1cls_40 oz_D1cls_47 Hₚ Oₚ hD32 oz_D1cls_41 (fun D32 N32 F32 A32 H Oₚ eD32 eN32 eF32 eA32 => ?_)
  have O := OUT_trans O Oₚ
  -- Tokens.packBlock
  have cF32 : SF oz_D1clsl_13 F F32 := SF_trans (cF26) (SF_gluc (ι := oz_D1clsl_18) oz_D1cls_47 hS32 eF32 (by decide +kernel)) (any_sub (lₚ := [(1, 0), (1, 1), (1, 2), (7, 1), (7, 2), (7, 3), (7, 4), (7, 5), (7, 6), (7, 8), (7, 12), (7, 13), (7, 14), (7, 15), (7, 16), (7, 17), (7, 18)]) (by decide +kernel))
  have mF32 := SFm_of cF32 oz_D1cls_42
  have cA32 : SA oz_D1clsl_14 A A32 := SA_trans (cA26) (SA_gluc (ι := oz_D1clsl_18) oz_D1cls_47 hA32 eA32 (by decide +kernel)) (any_subA (lₚ := [3, 11, 12, 13, 14, 15]) (by decide +kernel))
  have mA32 := SAm_of cA32 oz_D1cls_43
  have cD32 : SD oz_D1clsl_14 D D32 := SD_trans (cD26) (SD_gluc (ι := oz_D1clsl_18) oz_D1cls_47 hD32 eD32 (by decide +kernel)) (any_subA (lₚ := [3, 12, 13, 14, 15]) (by decide +kernel))
  have mD32 := SDm_of cD32 oz_D1cls_43
  have cN32 : SD oz_D1clsl_14 N N32 := SD_trans (cN26) (SD_gluc (ι := oz_D1clsl_18) oz_D1cls_47 hN32 eN32 (by decide +kernel)) (any_subA (lₚ := [3, 12, 13, 14, 15]) (by decide +kernel))
  have mN32 := SDm_of cN32 oz_D1cls_43
  have pf32_1_0 : F32 1 0 = (D32 3 : Int) := (eF32 1 0).trans (pm32_2.trans (congrArg (fun q : Nat => (q : Int)) (eD32 3).symm))
  have pf32_7_1 : F32 7 1 = (D32 13 : Int) := (eF32 7 1).trans (pm32_8.trans (congrArg (fun q : Nat => (q : Int)) (eD32 13).symm))
  have pf32_7_2 : F32 7 2 = (D32 14 : Int) := (eF32 7 2).trans (pm32_9.trans (congrArg (fun q : Nat => (q : Int)) (eD32 14).symm))
  have pf32_7_3 : F32 7 3 = (D32 15 : Int) := (eF32 7 3).trans (pm32_10.trans (congrArg (fun q : Nat => (q : Int)) (eD32 15).symm))
  have pf32_7_7 : F32 7 7 = (D32 11 : Int) := ((show F32 7 7 = F26 7 7 from (eF32 7 7).trans (hS32 3 7 rfl))).trans ((pf26_7_7).trans (congrArg (fun q : Nat => (q : Int)) ((show D32 11 = D26 11 from (eD32 11).trans (hD32 7 rfl))).symm))
  have pf32_7_8 : F32 7 8 = (D32 12 : Int) := (eF32 7 8).trans (pm32_6.trans (congrArg (fun q : Nat => (q : Int)) (eD32 12).symm))
  have pf32_8_0 : F32 8 0 = (D32 9 : Int) := ((show F32 8 0 = F26 8 0 from (eF32 8 0).trans (hS32 4 0 rfl))).trans ((pf26_8_0).trans (congrArg (fun q : Nat => (q : Int)) ((show D32 9 = D26 9 from (eD32 9).trans (hD32 5 rfl))).symm))
  have r33 : (0 : Int) ≤ m32_2 ∧ m32_2 ≤ 1000000 := nleE (H.nle 3 (ltn len_V214_Row_Row_oz_D1cls rfl)) (show (N32 3 : Int) = m32_2 from (congrArg (fun q : Nat => (q : Int)) (eN32 3)).trans em32_2)
  have r34 : (0 : Int) ≤ m32_6 ∧ m32_6 ≤ 1000000 := nleE (H.nle 12 (ltn len_V214_Row_Row_oz_D1cls rfl)) (show (N32 12 : Int) = m32_6 from (congrArg (fun q : Nat => (q : Int)) (eN32 12)).trans em32_6)
  have r35 : (0 : Int) ≤ m32_8 ∧ m32_8 ≤ 1000000 := nleE (H.nle 13 (ltn len_V214_Row_Row_oz_D1cls rfl)) (show (N32 13 : Int) = m32_8 from (congrArg (fun q : Nat => (q : Int)) (eN32 13)).trans em32_8)
  have r36 : (0 : Int) ≤ m32_9 ∧ m32_9 ≤ 1000000 := nleE (H.nle 14 (ltn len_V214_Row_Row_oz_D1cls rfl)) (show (N32 14 : Int) = m32_9 from (congrArg (fun q : Nat => (q : Int)) (eN32 14)).trans em32_9)
  have r37 : (0 : Int) ≤ m32_10 ∧ m32_10 ≤ 1000000 := nleE (H.nle 15 (ltn len_V214_Row_Row_oz_D1cls rfl)) (show (N32 15 : Int) = m32_10 from (congrArg (fun q : Nat => (q : Int)) (eN32 15)).trans em32_10)
  have r38 : (-2147483648 : Int) ≤ y32_1_1 ∧ y32_1_1 ≤ 2147483647 := rngE (show (-2147483648 : Int) ≤ F32 1 1 ∧ F32 1 1 ≤ 2147483647 from H.krg 1 1 (ltn len_V214_Row_Row_oz_D1cls rfl)) (show F32 1 1 = y32_1_1 from ((eF32 1 1).trans ey32_1_1))
  have r39 : (-2147483648 : Int) ≤ y32_3_6 ∧ y32_3_6 ≤ 2147483647 := rngE (show (-2147483648 : Int) ≤ F32 7 6 ∧ F32 7 6 ≤ 2147483647 from H.krg 7 6 (ltn len_V214_Row_Row_oz_D1cls rfl)) (show F32 7 6 = y32_3_6 from ((eF32 7 6).trans ey32_3_6))
  exact w_ret rfl (k _ _ _ _ _ _ _ H O (cD32) (cN32) (cF32) (cA32) (pf32_1_0) (pf32_8_0) (pf32_7_7) (pf32_7_8) (pf32_7_1) (pf32_7_2) (pf32_7_3) (m32_2) ((congrArg (fun q : Nat => (q : Int)) (eN32 3)).trans em32_2) (m18_2) ((congrArg (fun q : Nat => (q : Int)) (show N32 9 = N26 9 from (eN32 9).trans (hN32 5 rfl))).trans ((congrArg (fun q : Nat => (q : Int)) (show N26 9 = N18 9 from (eN26 9))).trans ((congrArg (fun q : Nat => (q : Int)) (eN18 9)).trans em18_2))) (m26_1) ((congrArg (fun q : Nat => (q : Int)) (show N32 11 = N26 11 from (eN32 11).trans (hN32 7 rfl))).trans ((congrArg (fun q : Nat => (q : Int)) (eN26 11)).trans em26_1)) (m32_6) ((congrArg (fun q : Nat => (q : Int)) (eN32 12)).trans em32_6) (m32_8) ((congrArg (fun q : Nat => (q : Int)) (eN32 13)).trans em32_8) (m32_9) ((congrArg (fun q : Nat => (q : Int)) (eN32 14)).trans em32_9) (m32_10) ((congrArg (fun q : Nat => (q : Int)) (eN32 15)).trans em32_10) (y32_1_1) (((eF32 1 1).trans ey32_1_1)) (y18_0_1) (((((show F32 8 1 = F26 8 1 from (eF32 8 1).trans (hS32 4 1 rfl))).trans ((show F26 8 1 = F18 8 1 from (eF26 8 1)))).trans ((eF18 8 1).trans ey18_0_1))) (show 0 ≤ (y32_1_1) ∧ (y32_1_1) ≤ (m32_2) ∧ (m32_2) ≤ 65536 from pz32_0) (show 0 ≤ (y18_0_1) ∧ (y18_0_1) ≤ (m18_2) ∧ (m18_2) ≤ 65536 from pz18_0) (show (m26_1) = 0 ∨ (m26_1) = 2048 from q_2788 pz26_0) (show (m32_6) ≤ 16384 from q_2787 pz32_1) (show (m32_8) = (m32_9) ∧ (m32_10) = (m32_9) ∧ (m32_9) ≤ 65536 ∧ ((m32_9) = 0 ∨ 64 ≤ (m32_9)) ∧ lgq ((m32_9)) = 0 from pz32_2))
