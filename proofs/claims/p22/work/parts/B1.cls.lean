abbrev V159 : vV := [(0, 7, [(4, 0), (0, 0), (1, 0), (0, 0), (0, 0)]), (1, 0, [])]
theorem len_V159_oz_B1cls : (V159).length = 2 := by decide +kernel
theorem oz_B1cls_1 : vsub V159 V157 [0, 1] = true := by decide +kernel
theorem oz_B1cls_2 : vmov V159 [0, 1] [1] = true := by decide +kernel
def oz_B1clsl_0 : List (Nat × Nat) := [(0, 0), (0, 1), (0, 2)]
theorem oz_B1cls_3 : (oz_B1clsl_0).all (fun p => !tbz 7 (Nat.add (Nat.mul 32 p.1) p.2)) = true := by decide +kernel
def oz_B1clsl_1 : List Nat := [1]
theorem oz_B1cls_4 : (oz_B1clsl_1).all (fun p => !tbz 2 p) = true := by decide +kernel
def oz_B1clsl_2 : List Nat := [0, 1]
theorem oz_B1cls_5 : okc oz_B1clsl_2 512 = true := by decide +kernel
/-- Row.add: this, this.bytes -/
theorem C159 {σE : rS} {D N : Nat → Nat} {F : hF} {A : hA} {d c s : Nat} {Q : wQ} (H : HW V159 σE D N F A) {a1 : Int} (pf1 : F 0 0 = (D 1 : Int)) (n1 : Int) (en1 : (N 1 : Int) = n1) (u0_1 : Int) (eu0_1 : F 0 1 = u0_1) (h0 : inr (a1)) (h1 : 0 ≤ (u0_1) ∧ (u0_1) ≤ (n1) ∧ (n1) ≤ 65536) (k : ∀ (σ : rS) (Dₚ Nₚ : Nat → Nat) (Fₚ : hF) (Aₚ : hA) (cₚ sₚ : Nat), HW V159 σ Dₚ Nₚ Fₚ Aₚ → OUT (V159).length D N σE c s Dₚ Nₚ σ cₚ sₚ → SD [1] D Dₚ → SD [1] N Nₚ → SF [(0, 0), (0, 1), (0, 2)] F Fₚ → SA [1] A Aₚ → Fₚ 0 0 = (Dₚ 1 : Int) → ∀ m1 : Int, (Nₚ 1 : Int) = m1 → ∀ y0_1 : Int, Fₚ 0 1 = y0_1 → (0 ≤ (y0_1) ∧ (y0_1) ≤ (m1) ∧ (m1) ≤ 65536) → ((y0_1) = (u0_1) + 1 ∧ 0 ≤ 1 ∨ (y0_1) = (u0_1) ∧ (1 < 0 ∨ 65536 < (u0_1) + 1)) → ((n1) ≤ (m1)) → Q none σ cₚ sₚ) : Ew 159 (d + 2) 0 (rargs 0 [.ref (D 0), I a1]) [] σE c s Q := by
  have O := OUT_refl (n := (V159).length) (D := D) (N := N) (σ := σE) (c := c) (s := s)
  have HE := H
  have r1 : (-2147483648 : Int) ≤ u0_1 ∧ u0_1 ≤ 2147483647 := rngE (show (-2147483648 : Int) ≤ F 0 1 ∧ F 0 1 ≤ 2147483647 from H.krg 0 1 (ltn len_V159_oz_B1cls rfl)) (show F 0 1 = u0_1 from (eu0_1))
  have r2 : (0 : Int) ≤ n1 ∧ n1 ≤ 1000000 := nleE (H.nle 1 (ltn len_V159_oz_B1cls rfl)) (show (N 1 : Int) = n1 from en1)
  refine Ew_of (pcₚ := 1) (fun _ => x_aload_n rfl rfl) ?_
  refine v_g H (o := 0) (v := I (u0_1)) rfl rfl rfl rfl rfl (congrArg (fun z : Int => I z) ((eu0_1) : F 0 1 = u0_1)) ?_
  refine Ew_of (pcₚ := 5) (fun _ => x_aload_n rfl rfl) ?_
  refine v_g H (o := 0) (v := .ref (D 1)) rfl rfl rfl rfl rfl (vrf (pf1)) ?_
  refine v_len H (o := 1) rfl rfl rfl rfl (n := n1) (en1) ?_
  refine w_icmplt (t := 20) rfl rfl (show inr (u0_1) from q_884 h1) (show inr (n1) from q_2511 r2) (fun b3 => ?_) (fun b3 => ?_)
  · refine Ew_of (pcₚ := 21) (fun _ => x_aload_n rfl rfl) ?_
    refine v_g H (o := 0) (v := .ref (D 1)) rfl rfl rfl rfl rfl (vrf (pf1)) ?_
    refine Ew_of (pcₚ := 25) (fun _ => x_aload_n rfl rfl) ?_
    refine Ew_of (pcₚ := 26) (fun _ => x_dup rfl rfl) ?_
    refine v_g H (o := 0) (v := I (u0_1)) rfl rfl rfl rfl rfl (congrArg (fun z : Int => I z) ((eu0_1) : F 0 1 = u0_1)) ?_
    refine Ew_of (pcₚ := 30) (fun _ => x_dup_x1 rfl rfl) ?_
    refine Ew_of (pcₚ := 31) (fun _ => x_iconst rfl) ?_
    refine w_iadd rfl ?_
    refine v_p H (o := 0) (z := (u0_1 + 1)) (v := I ((u0_1 + 1))) rfl rfl rfl rfl rfl rfl rfl rfl (show (-2147483648 : Int) ≤ (u0_1 + 1) ∧ (u0_1 + 1) ≤ 2147483647 from q_2513 b3 h1) (fun σ H Oₚ => ?_)
    have O := OUT_trans O Oₚ
    have cFu4 : SF oz_B1clsl_0 F (updF F 0 1 ((u0_1 + 1))) := SF_upd (SF_refl) rfl
    have mFu4 := SFm_of cFu4 oz_B1cls_3
    refine Ew_of (pcₚ := 36) (fun _ => x_iload_n rfl rfl) ?_
    refine v_i2b rfl (fun z5 gz5 => ?_)
    refine v_sB H (o := 1) rfl rfl rfl rfl (n := n1) (en1) (show 0 ≤ u0_1 ∧ u0_1 < n1 from q_2514 b3 h1) (fun z6 σ qz6 H Oₚ => ?_)
    have O := OUT_trans O Oₚ
    have cAu7 : SA oz_B1clsl_1 A (updA A 1 (u0_1) (z6)) := SA_upd (SA_refl) rfl
    have mAu7 := SAm_of cAu7 oz_B1cls_4
    refine Ew_of (pcₚ := 46) (fun _ => x_goto rfl rfl) ?_
    exact w_ret rfl (k _ _ _ _ _ _ _ H O (SD_refl) (SD_refl) (cFu4) (cAu7) (pf1) (n1) (en1) ((u0_1 + 1)) (rfl) (show 0 ≤ ((u0_1 + 1)) ∧ ((u0_1 + 1)) ≤ (n1) ∧ (n1) ≤ 65536 from q_2515 b3 h1) (show ((u0_1 + 1)) = (u0_1) + 1 ∧ 0 ≤ 1 ∨ ((u0_1 + 1)) = (u0_1) ∧ (1 < 0 ∨ 65536 < (u0_1) + 1) by first | exact q_2528 | omega) (show (n1) ≤ (n1) from q_102))
  · refine Ew_of (pcₚ := 13) (fun _ => x_aload_n rfl rfl) ?_
    refine Ew_of (pcₚ := 14) (fun _ => x_iconst rfl) ?_
    refine v_inv H (o := 0) rfl rfl rfl rfl rfl rfl (by rfl) (C157 (D := puc 512 D) (N := puc 512 N) (HW_subc H oz_B1cls_1 oz_B1cls_5) (pf1) (n1) (en1) (u0_1) ((eu0_1)) (A 1) (rfl) (show inr (1) from q_23) (show 0 ≤ (u0_1) ∧ (u0_1) ≤ (n1) ∧ (n1) ≤ 65536 from h1) (fun z8 σ8 D8ₚ N8ₚ F8ₚ A8ₚ c8 s8 Hₚ Oₚ hD8 hN8 hS8 hA8 pm8_1 m8_1 em8_1 w8_1 ew8_1 pz8_0 pz8_1 pz8_2 pz8_3 pz8_4 => ⟨rretB rfl pz8_0, ?_⟩))
    refine v_backMc (c := c) (s := s) H oz_B1cls_1 oz_B1cls_5 Hₚ Oₚ hD8 oz_B1cls_2 (fun D8 N8 F8 A8 H Oₚ eD8 eN8 eF8 eA8 => ?_)
    have O := OUT_trans O Oₚ
    -- Row.reserve
    have cF8 : SF oz_B1clsl_0 F F8 := SF_trans (SF_refl) (SF_gluc (ι := oz_B1clsl_2) oz_B1cls_5 hS8 eF8 (by decide +kernel)) (any_sub (lₚ := [(0, 0)]) (by decide +kernel))
    have mF8 := SFm_of cF8 oz_B1cls_3
    have cA8 : SA oz_B1clsl_1 A A8 := SA_trans (SA_refl) (SA_gluc (ι := oz_B1clsl_2) oz_B1cls_5 hA8 eA8 (by decide +kernel)) (any_subA (lₚ := [1]) (by decide +kernel))
    have mA8 := SAm_of cA8 oz_B1cls_4
    have cD8 : SD oz_B1clsl_1 D D8 := SD_trans (SD_refl) (SD_gluc (ι := oz_B1clsl_2) oz_B1cls_5 hD8 eD8 (by decide +kernel)) (any_subA (lₚ := [1]) (by decide +kernel))
    have mD8 := SDm_of cD8 oz_B1cls_4
    have cN8 : SD oz_B1clsl_1 N N8 := SD_trans (SD_refl) (SD_gluc (ι := oz_B1clsl_2) oz_B1cls_5 hN8 eN8 (by decide +kernel)) (any_subA (lₚ := [1]) (by decide +kernel))
    have mN8 := SDm_of cN8 oz_B1cls_4
    have pf8_0_0 : F8 0 0 = (D8 1 : Int) := (eF8 0 0).trans (pm8_1.trans (congrArg (fun q : Nat => (q : Int)) (eD8 1).symm))
    have r9 : (0 : Int) ≤ m8_1 ∧ m8_1 ≤ 1000000 := nleE (H.nle 1 (ltn len_V159_oz_B1cls rfl)) (show (N8 1 : Int) = m8_1 from (congrArg (fun q : Nat => (q : Int)) (eN8 1)).trans em8_1)
    refine w_ifeq (t := 41) rfl rfl (show inr (z8) from q_15 pz8_0) (fun b10 => ?_) (fun b10 => ?_)
    · refine Ew_of (pcₚ := 42) (fun _ => x_aload_n rfl rfl) ?_
      refine Ew_of (pcₚ := 43) (fun _ => x_iconst rfl) ?_
      refine Ew_stk (congrArg (fun qz : Nat => ([I (1), .ref qz] : List Value)) (show D8 0 = D 0 from mD8 0 rfl).symm) ?_
      refine v_p H (o := 0) (z := 1) (v := I (1)) rfl rfl rfl rfl rfl rfl rfl (rfit_b (by omega)) (show (0 : Int) ≤ 1 ∧ 1 ≤ 1 from q_2146) (fun σ H Oₚ => ?_)
      have O := OUT_trans O Oₚ
      have cFu11 : SF oz_B1clsl_0 F (updF F8 0 2 (1)) := SF_upd (cF8) rfl
      have mFu11 := SFm_of cFu11 oz_B1cls_3
      exact w_ret rfl (k _ _ _ _ _ _ _ H O (cD8) (cN8) (cFu11) (cA8) (pf8_0_0) (m8_1) ((congrArg (fun q : Nat => (q : Int)) (eN8 1)).trans em8_1) (u0_1) ((((show F8 0 1 = F 0 1 from (eF8 0 1).trans (hS8 0 1 rfl))).trans (eu0_1))) (show 0 ≤ (u0_1) ∧ (u0_1) ≤ (m8_1) ∧ (m8_1) ≤ 65536 from pz8_1) (show (u0_1) = (u0_1) + 1 ∧ 0 ≤ 1 ∨ (u0_1) = (u0_1) ∧ (1 < 0 ∨ 65536 < (u0_1) + 1) by omega) (show (n1) ≤ (m8_1) from pz8_3))
    · refine Ew_of (pcₚ := 21) (fun _ => x_aload_n rfl rfl) ?_
      refine Ew_stk (congrArg (fun qz : Nat => ([.ref qz] : List Value)) (show D8 0 = D 0 from mD8 0 rfl).symm) ?_
      refine v_g H (o := 0) (v := .ref (D8 1)) rfl rfl rfl rfl rfl (vrf (pf8_0_0)) ?_
      refine Ew_of (pcₚ := 25) (fun _ => x_aload_n rfl rfl) ?_
      refine Ew_of (pcₚ := 26) (fun _ => x_dup rfl rfl) ?_
      refine Ew_stk (show ([.ref (D 0), .ref (D 0), .ref (D8 1)] : List Value) = [.ref (D8 0), .ref (D8 0), .ref (D8 1)] by rw [show D8 0 = D 0 from mD8 0 rfl]) ?_
      refine v_g H (o := 0) (v := I (u0_1)) rfl rfl rfl rfl rfl (congrArg (fun z : Int => I z) ((((show F8 0 1 = F 0 1 from (eF8 0 1).trans (hS8 0 1 rfl))).trans (eu0_1)) : F8 0 1 = u0_1)) ?_
      refine Ew_of (pcₚ := 30) (fun _ => x_dup_x1 rfl rfl) ?_
      refine Ew_of (pcₚ := 31) (fun _ => x_iconst rfl) ?_
      refine w_iadd rfl ?_
      refine v_p H (o := 0) (z := (u0_1 + 1)) (v := I ((u0_1 + 1))) rfl rfl rfl rfl rfl rfl rfl rfl (show (-2147483648 : Int) ≤ (u0_1 + 1) ∧ (u0_1 + 1) ≤ 2147483647 from q_2529 pz8_1) (fun σ H Oₚ => ?_)
      have O := OUT_trans O Oₚ
      have cFu12 : SF oz_B1clsl_0 F (updF F8 0 1 ((u0_1 + 1))) := SF_upd (cF8) rfl
      have mFu12 := SFm_of cFu12 oz_B1cls_3
      refine Ew_of (pcₚ := 36) (fun _ => x_iload_n rfl rfl) ?_
      refine v_i2b rfl (fun z13 gz13 => ?_)
      refine v_sB H (o := 1) rfl rfl rfl rfl (n := m8_1) ((congrArg (fun q : Nat => (q : Int)) (eN8 1)).trans em8_1) (show 0 ≤ u0_1 ∧ u0_1 < m8_1 by omega) (fun z14 σ qz14 H Oₚ => ?_)
      have O := OUT_trans O Oₚ
      have cAu15 : SA oz_B1clsl_1 A (updA A8 1 (u0_1) (z14)) := SA_upd (cA8) rfl
      have mAu15 := SAm_of cAu15 oz_B1cls_4
      refine Ew_of (pcₚ := 46) (fun _ => x_goto rfl rfl) ?_
      exact w_ret rfl (k _ _ _ _ _ _ _ H O (cD8) (cN8) (cFu12) (cAu15) (pf8_0_0) (m8_1) ((congrArg (fun q : Nat => (q : Int)) (eN8 1)).trans em8_1) ((u0_1 + 1)) (rfl) (show 0 ≤ ((u0_1 + 1)) ∧ ((u0_1 + 1)) ≤ (m8_1) ∧ (m8_1) ≤ 65536 by omega) (show ((u0_1 + 1)) = (u0_1) + 1 ∧ 0 ≤ 1 ∨ ((u0_1 + 1)) = (u0_1) ∧ (1 < 0 ∨ 65536 < (u0_1) + 1) by first | exact q_2528 | omega) (show (n1) ≤ (m8_1) from pz8_3))
abbrev V160 : vV := [(0, 7, [(4, 0), (0, 0), (1, 0), (0, 0), (0, 0)]), (1, 0, [])]
theorem len_V160_oz_B1cls : (V160).length = 2 := by decide +kernel
theorem oz_B1cls_7 : vsub V160 V157 [0, 1] = true := by decide +kernel
theorem oz_B1cls_8 : vmov V160 [0, 1] [1] = true := by decide +kernel
/-- Row.addNumber: this, this.bytes -/
theorem C160 {σE : rS} {D N : Nat → Nat} {F : hF} {A : hA} {d c s : Nat} {Q : wQ} (H : HW V160 σE D N F A) {a1 a2 : Int} (pf1 : F 0 0 = (D 1 : Int)) (n1 : Int) (en1 : (N 1 : Int) = n1) (u0_1 : Int) (eu0_1 : F 0 1 = u0_1) (h0 : inrJ (a1)) (h1 : inr (a2)) (h2 : 0 ≤ (u0_1) ∧ (u0_1) ≤ (n1) ∧ (n1) ≤ 65536) (k : ∀ (σ : rS) (Dₚ Nₚ : Nat → Nat) (Fₚ : hF) (Aₚ : hA) (cₚ sₚ : Nat), HW V160 σ Dₚ Nₚ Fₚ Aₚ → OUT (V160).length D N σE c s Dₚ Nₚ σ cₚ sₚ → SD [1] D Dₚ → SD [1] N Nₚ → SF [(0, 0), (0, 1), (0, 2)] F Fₚ → SA [1] A Aₚ → Fₚ 0 0 = (Dₚ 1 : Int) → ∀ m1 : Int, (Nₚ 1 : Int) = m1 → ∀ y0_1 : Int, Fₚ 0 1 = y0_1 → (0 ≤ (y0_1) ∧ (y0_1) ≤ (m1) ∧ (m1) ≤ 65536) → ((y0_1) = (u0_1) + (a2) ∧ 0 ≤ (a2) ∨ (y0_1) = (u0_1) ∧ ((a2) < 0 ∨ 65536 < (u0_1) + (a2))) → Q none σ cₚ sₚ) : Ew 160 (d + 2) 0 (rargs 0 [.ref (D 0), J a1, I a2]) [] σE c s Q := by
  have O := OUT_refl (n := (V160).length) (D := D) (N := N) (σ := σE) (c := c) (s := s)
  have HE := H
  have r1 : (-2147483648 : Int) ≤ u0_1 ∧ u0_1 ≤ 2147483647 := rngE (show (-2147483648 : Int) ≤ F 0 1 ∧ F 0 1 ≤ 2147483647 from H.krg 0 1 (ltn len_V160_oz_B1cls rfl)) (show F 0 1 = u0_1 from (eu0_1))
  have r2 : (0 : Int) ≤ n1 ∧ n1 ≤ 1000000 := nleE (H.nle 1 (ltn len_V160_oz_B1cls rfl)) (show (N 1 : Int) = n1 from en1)
  refine Ew_of (pcₚ := 1) (fun _ => x_aload_n rfl rfl) ?_
  refine Ew_of (pcₚ := 2) (fun _ => x_iload_n rfl rfl) ?_
  refine v_inv H (o := 0) rfl rfl rfl rfl rfl rfl (by rfl) (C157 (D := puc 512 D) (N := puc 512 N) (HW_subc H oz_B1cls_7 oz_B1cls_5) (pf1) (n1) (en1) (u0_1) ((eu0_1)) (A 1) (rfl) (show inr (a2) from h1) (show 0 ≤ (u0_1) ∧ (u0_1) ≤ (n1) ∧ (n1) ≤ 65536 from h2) (fun z3 σ3 D3ₚ N3ₚ F3ₚ A3ₚ c3 s3 Hₚ Oₚ hD3 hN3 hS3 hA3 pm3_1 m3_1 em3_1 w3_1 ew3_1 pz3_0 pz3_1 pz3_2 pz3_3 pz3_4 => ⟨rretB rfl pz3_0, ?_⟩))
  refine v_backMc (c := c) (s := s) H oz_B1cls_7 oz_B1cls_5 Hₚ Oₚ hD3 oz_B1cls_8 (fun D3 N3 F3 A3 H Oₚ eD3 eN3 eF3 eA3 => ?_)
  have O := OUT_trans O Oₚ
  -- Row.reserve
  have cF3 : SF oz_B1clsl_0 F F3 := SF_trans (SF_refl) (SF_gluc (ι := oz_B1clsl_2) oz_B1cls_5 hS3 eF3 (by decide +kernel)) (any_sub (lₚ := [(0, 0)]) (by decide +kernel))
  have mF3 := SFm_of cF3 oz_B1cls_3
  have cA3 : SA oz_B1clsl_1 A A3 := SA_trans (SA_refl) (SA_gluc (ι := oz_B1clsl_2) oz_B1cls_5 hA3 eA3 (by decide +kernel)) (any_subA (lₚ := [1]) (by decide +kernel))
  have mA3 := SAm_of cA3 oz_B1cls_4
  have cD3 : SD oz_B1clsl_1 D D3 := SD_trans (SD_refl) (SD_gluc (ι := oz_B1clsl_2) oz_B1cls_5 hD3 eD3 (by decide +kernel)) (any_subA (lₚ := [1]) (by decide +kernel))
  have mD3 := SDm_of cD3 oz_B1cls_4
  have cN3 : SD oz_B1clsl_1 N N3 := SD_trans (SD_refl) (SD_gluc (ι := oz_B1clsl_2) oz_B1cls_5 hN3 eN3 (by decide +kernel)) (any_subA (lₚ := [1]) (by decide +kernel))
  have mN3 := SDm_of cN3 oz_B1cls_4
  have pf3_0_0 : F3 0 0 = (D3 1 : Int) := (eF3 0 0).trans (pm3_1.trans (congrArg (fun q : Nat => (q : Int)) (eD3 1).symm))
  have r4 : (0 : Int) ≤ m3_1 ∧ m3_1 ≤ 1000000 := nleE (H.nle 1 (ltn len_V160_oz_B1cls rfl)) (show (N3 1 : Int) = m3_1 from (congrArg (fun q : Nat => (q : Int)) (eN3 1)).trans em3_1)
  refine w_ifne (t := 14) rfl rfl (show inr (z3) from q_15 pz3_0) (fun b5 => ?_) (fun b5 => ?_)
  · refine Ew_of (pcₚ := 15) (fun _ => x_iconst rfl) ?_
    refine Ew_of (pcₚ := 17) (fun _ => x_istore rfl) ?_
    suffices hl17 : ∀ (m : Nat), ∀ (ls : rO) (σ : rS) (F_17 : hF) (A_17 : hA) (x17_4 : Int), rlook ls 0 = some (.ref (D3 0)) → rlook ls 1 = some (J (a1)) → rlook ls 3 = some (I (a2)) → rlook ls 4 = some (I (x17_4)) → HW V160 σ D3 N3 F_17 A_17 → OUT (V160).length D N σE c s D3 N3 σ (c + c3) (s + s3) → SF [(0, 1)] F3 F_17 → SA [1] A3 A_17 → ∀ y17_0_1 : Int, F_17 0 1 = y17_0_1 → (inr (x17_4)) → ((0) ≤ (x17_4)) → ((x17_4) ≤ (0) ∨ (x17_4) ≤ ((a2))) → ((y17_0_1) = (u0_1) + (x17_4)) → ((u0_1) + (a2) ≤ (m3_1) ∧ (m3_1) ≤ 65536) → (((a2)) - (x17_4)).toNat = m → Ew 160 (d + 2) 17 ls [] σ (c + c3) (s + s3) Q from
      hl17 _ _ _ _ _ (0) ((rk_o (rfl) rfl rfl).trans (congrArg (fun q : Nat => some (Value.ref q)) (mD3 0 rfl).symm)) (rk_o (rfl) rfl rfl) (rk_o (rfl) rfl rfl) (rk_s) H O (SF_refl) (SA_refl)   (u0_1) ((((show F3 0 1 = F 0 1 from (eF3 0 1).trans (hS3 0 1 rfl))).trans (eu0_1)))  (show inr (0) from q_20) (show (0) ≤ (0) from q_25) (show (0) ≤ (0) ∨ (0) ≤ ((a2)) from q_24) (show (u0_1) = (u0_1) + (0) from q_110) (show (u0_1) + (a2) ≤ (m3_1) ∧ (m3_1) ≤ 65536 by omega) rfl
    as_aux_lemma =>
    intro m
    induction m using Nat.strongRecOn with
    | _ m ih17 =>
      intro ls σ F_17 A_17 x17_4 l17_0 l17_1 l17_3 l17_4 H O hS_17 hA_17   y17_0_1 ey17_0_1  j17_0 j17_1 j17_2 j17_3 j17_4 hm17
      have cF_17 : SF oz_B1clsl_0 F F_17 := SF_trans (cF3) hS_17 (any_sub (by decide +kernel))
      have mF_17 := SFm_of cF_17 oz_B1cls_3
      have cA_17 : SA oz_B1clsl_1 A A_17 := SA_trans (cA3) hA_17 (any_subA (by decide +kernel))
      have mA_17 := SAm_of cA_17 oz_B1cls_4
      have r6 : (-2147483648 : Int) ≤ y17_0_1 ∧ y17_0_1 ≤ 2147483647 := rngE (show (-2147483648 : Int) ≤ F_17 0 1 ∧ F_17 0 1 ≤ 2147483647 from H.krg 0 1 (ltn len_V160_oz_B1cls rfl)) (show F_17 0 1 = y17_0_1 from (ey17_0_1))
      refine Ew_of (pcₚ := 19) (fun _ => x_iload rfl l17_4) ?_
      refine Ew_of (pcₚ := 20) (fun _ => x_iload_n rfl l17_3) ?_
      refine w_icmpge (t := 54) rfl rfl (show inr (x17_4) from j17_0) (show inr (a2) from h1) (fun b7 => ?_) (fun b7 => ?_)
      · exact w_ret rfl (k _ _ _ _ _ _ _ H O (cD3) (cN3) (cF_17) (cA_17) (((hS_17 0 0 rfl)).trans (pf3_0_0)) (m3_1) ((congrArg (fun q : Nat => (q : Int)) (eN3 1)).trans em3_1) (y17_0_1) ((ey17_0_1)) (show 0 ≤ (y17_0_1) ∧ (y17_0_1) ≤ (m3_1) ∧ (m3_1) ≤ 65536 by omega) (show (y17_0_1) = (u0_1) + a2 ∧ 0 ≤ a2 ∨ (y17_0_1) = (u0_1) ∧ (a2 < 0 ∨ 65536 < (u0_1) + a2) by omega))
      · refine Ew_of (pcₚ := 24) (fun _ => x_aload_n rfl l17_0) ?_
        refine v_g H (o := 0) (v := .ref (D3 1)) rfl rfl rfl rfl rfl (vrf (((hS_17 0 0 rfl)).trans (pf3_0_0))) ?_
        refine Ew_of (pcₚ := 28) (fun _ => x_aload_n rfl l17_0) ?_
        refine Ew_of (pcₚ := 29) (fun _ => x_dup rfl rfl) ?_
        refine v_g H (o := 0) (v := I (y17_0_1)) rfl rfl rfl rfl rfl (congrArg (fun z : Int => I z) ((ey17_0_1) : F_17 0 1 = y17_0_1)) ?_
        refine Ew_of (pcₚ := 33) (fun _ => x_dup_x1 rfl rfl) ?_
        refine Ew_of (pcₚ := 34) (fun _ => x_iconst rfl) ?_
        refine w_iadd rfl ?_
        refine v_p H (o := 0) (z := (y17_0_1 + 1)) (v := I ((y17_0_1 + 1))) rfl rfl rfl rfl rfl rfl rfl rfl (show (-2147483648 : Int) ≤ (y17_0_1 + 1) ∧ (y17_0_1 + 1) ≤ 2147483647 from q_2530 b7 j17_3 j17_4 r6) (fun σ H Oₚ => ?_)
        have O := OUT_trans O Oₚ
        have cFu8 : SF oz_B1clsl_0 F (updF F_17 0 1 ((y17_0_1 + 1))) := SF_upd (cF_17) rfl
        have mFu8 := SFm_of cFu8 oz_B1cls_3
        refine Ew_of (pcₚ := 39) (fun _ => x_lload_n rfl l17_1) ?_
        refine Ew_of (pcₚ := 41) (fun _ => x_bipush (z := 8) rfl (by decide)) ?_
        refine Ew_of (pcₚ := 43) (fun _ => x_iload rfl l17_4) ?_
        refine w_imul rfl ?_
        refine w_lushrA rfl (fun z9 gz9 => ?_)
        refine w_l2iA rfl (fun z10 gz10 => ?_)
        refine v_i2b rfl (fun z11 gz11 => ?_)
        refine v_sB H (o := 1) rfl rfl rfl rfl (n := m3_1) ((congrArg (fun q : Nat => (q : Int)) (eN3 1)).trans em3_1) (show 0 ≤ y17_0_1 ∧ y17_0_1 < m3_1 from q_2531 b7 j17_1 j17_3 j17_4 pz3_1) (fun z12 σ qz12 H Oₚ => ?_)
        have O := OUT_trans O Oₚ
        have cAu13 : SA oz_B1clsl_1 A (updA A_17 1 (y17_0_1) (z12)) := SA_upd (cA_17) rfl
        have mAu13 := SAm_of cAu13 oz_B1cls_4
        refine Ew_of (pcₚ := 51) (fun _ => x_iinc (len := 3) rfl (l17_4)) ?_
        refine Ew_of (pcₚ := 17) (fun _ => x_goto rfl rfl) ?_
        exact ih17 _ (msE hm17 q_31 (q_34 b7)) _ _ _ _ ((x17_4 + 1)) (rk_o (l17_0) rfl rfl) (rk_o (l17_1) rfl rfl) (rk_o (l17_3) rfl rfl) (rk_s) H O (SF_upd (hS_17) rfl) (SA_upd (hA_17) rfl)   ((y17_0_1 + 1)) (rfl)  (show inr ((x17_4 + 1)) from q_2532 b7 j17_1 j17_4 pz3_1) (show (0) ≤ ((x17_4 + 1)) from q_29 j17_1) (show ((x17_4 + 1)) ≤ (0) ∨ ((x17_4 + 1)) ≤ ((a2)) from q_33 b7) (show ((y17_0_1 + 1)) = (u0_1) + ((x17_4 + 1)) from q_302 j17_3) (show (u0_1) + (a2) ≤ (m3_1) ∧ (m3_1) ≤ 65536 from j17_4) rfl
  · refine Ew_of (pcₚ := 9) (fun _ => x_aload_n rfl rfl) ?_
    refine Ew_of (pcₚ := 10) (fun _ => x_iconst rfl) ?_
    refine Ew_stk (congrArg (fun qz : Nat => ([I (1), .ref qz] : List Value)) (show D3 0 = D 0 from mD3 0 rfl).symm) ?_
    refine v_p H (o := 0) (z := 1) (v := I (1)) rfl rfl rfl rfl rfl rfl rfl (rfit_b (by omega)) (show (0 : Int) ≤ 1 ∧ 1 ≤ 1 from q_2146) (fun σ H Oₚ => ?_)
    have O := OUT_trans O Oₚ
    have cFu14 : SF oz_B1clsl_0 F (updF F3 0 2 (1)) := SF_upd (cF3) rfl
    have mFu14 := SFm_of cFu14 oz_B1cls_3
    exact w_ret rfl (k _ _ _ _ _ _ _ H O (cD3) (cN3) (cFu14) (cA3) (pf3_0_0) (m3_1) ((congrArg (fun q : Nat => (q : Int)) (eN3 1)).trans em3_1) (u0_1) ((((show F3 0 1 = F 0 1 from (eF3 0 1).trans (hS3 0 1 rfl))).trans (eu0_1))) (show 0 ≤ (u0_1) ∧ (u0_1) ≤ (m3_1) ∧ (m3_1) ≤ 65536 from pz3_1) (show (u0_1) = (u0_1) + a2 ∧ 0 ≤ a2 ∨ (u0_1) = (u0_1) ∧ (a2 < 0 ∨ 65536 < (u0_1) + a2) by omega))
abbrev V161_Br : vV := [(0, 7, [(4, 0), (0, 0), (1, 0), (0, 0), (0, 0)]), (1, 0, []), (1, 0, [])]
theorem len_V161_Br_oz_B1cls : (V161_Br).length = 3 := by decide +kernel
theorem oz_B1cls_10 : vsub V161_Br V157 [0, 2] = true := by decide +kernel
theorem oz_B1cls_11 : vmov V161_Br [0, 2] [1] = true := by decide +kernel
def oz_B1clsl_3 : List Nat := [2]
theorem oz_B1cls_12 : (oz_B1clsl_3).all (fun p => !tbz 4 p) = true := by decide +kernel
def oz_B1clsl_4 : List Nat := [0, 2]
theorem oz_B1cls_13 : okc oz_B1clsl_4 1024 = true := by decide +kernel
/-- Row.addPart: this, #1, this.bytes -/
theorem C161_Br {σE : rS} {D N : Nat → Nat} {F : hF} {A : hA} {d c s : Nat} {Q : wQ} (H : HW V161_Br σE D N F A) {a2 a3 : Int} (pf2 : F 0 0 = (D 2 : Int)) (n1 : Int) (en1 : (N 1 : Int) = n1) (n2 : Int) (en2 : (N 2 : Int) = n2) (u0_1 : Int) (eu0_1 : F 0 1 = u0_1) (w2 : Int → Int) (ew2 : A 2 = w2) (h0 : inr (a2)) (h1 : inr (a3)) (h2 : 0 ≤ (u0_1) ∧ (u0_1) ≤ (n2) ∧ (n2) ≤ 65536) (h3 : (a3) < 0 ∨ 0 ≤ (a2) ∧ (a2) + (a3) ≤ (n1)) (k : ∀ (σ : rS) (Dₚ Nₚ : Nat → Nat) (Fₚ : hF) (Aₚ : hA) (cₚ sₚ : Nat), HW V161_Br σ Dₚ Nₚ Fₚ Aₚ → OUT (V161_Br).length D N σE c s Dₚ Nₚ σ cₚ sₚ → SD [2] D Dₚ → SD [2] N Nₚ → SF [(0, 0), (0, 1), (0, 2)] F Fₚ → SA [2] A Aₚ → Fₚ 0 0 = (Dₚ 2 : Int) → ∀ m2 : Int, (Nₚ 2 : Int) = m2 → ∀ y0_1 : Int, Fₚ 0 1 = y0_1 → ∀ v2 : Int → Int, Aₚ 2 = v2 → (0 ≤ (y0_1) ∧ (y0_1) ≤ (m2) ∧ (m2) ≤ 65536) → ((y0_1) = (u0_1) + (a3) ∧ 0 ≤ (a3) ∨ (y0_1) = (u0_1) ∧ ((a3) < 0 ∨ 65536 < (u0_1) + (a3))) → (∀ i, (0 : Int) ≤ i → i < (u0_1) → ((v2)) i = ((w2)) i) → Q none σ cₚ sₚ) : Ew 161 (d + 2) 0 (rargs 0 [.ref (D 0), .ref (D 1), I a2, I a3]) [] σE c s Q := by
  have O := OUT_refl (n := (V161_Br).length) (D := D) (N := N) (σ := σE) (c := c) (s := s)
  have HE := H
  have r1 : (-2147483648 : Int) ≤ u0_1 ∧ u0_1 ≤ 2147483647 := rngE (show (-2147483648 : Int) ≤ F 0 1 ∧ F 0 1 ≤ 2147483647 from H.krg 0 1 (ltn len_V161_Br_oz_B1cls rfl)) (show F 0 1 = u0_1 from (eu0_1))
  have r2 : (0 : Int) ≤ n1 ∧ n1 ≤ 1000000 := nleE (H.nle 1 (ltn len_V161_Br_oz_B1cls rfl)) (show (N 1 : Int) = n1 from en1)
  have r3 : (0 : Int) ≤ n2 ∧ n2 ≤ 1000000 := nleE (H.nle 2 (ltn len_V161_Br_oz_B1cls rfl)) (show (N 2 : Int) = n2 from en2)
  refine Ew_of (pcₚ := 1) (fun _ => x_aload_n rfl rfl) ?_
  refine Ew_of (pcₚ := 2) (fun _ => x_iload_n rfl rfl) ?_
  refine v_inv H (o := 0) rfl rfl rfl rfl rfl rfl (by rfl) (C157 (D := puc 1024 D) (N := puc 1024 N) (HW_subc H oz_B1cls_10 oz_B1cls_13) (pf2) (n2) (en2) (u0_1) ((eu0_1)) (w2) (ew2) (show inr (a3) from h1) (show 0 ≤ (u0_1) ∧ (u0_1) ≤ (n2) ∧ (n2) ≤ 65536 from h2) (fun z4 σ4 D4ₚ N4ₚ F4ₚ A4ₚ c4 s4 Hₚ Oₚ hD4 hN4 hS4 hA4 pm4_1 m4_1 em4_1 w4_1 ew4_1 pz4_0 pz4_1 pz4_2 pz4_3 pz4_4 => ⟨rretB rfl pz4_0, ?_⟩))
  refine v_backMc (c := c) (s := s) H oz_B1cls_10 oz_B1cls_13 Hₚ Oₚ hD4 oz_B1cls_11 (fun D4 N4 F4 A4 H Oₚ eD4 eN4 eF4 eA4 => ?_)
  have O := OUT_trans O Oₚ
  -- Row.reserve
  have cF4 : SF oz_B1clsl_0 F F4 := SF_trans (SF_refl) (SF_gluc (ι := oz_B1clsl_4) oz_B1cls_13 hS4 eF4 (by decide +kernel)) (any_sub (lₚ := [(0, 0)]) (by decide +kernel))
  have mF4 := SFm_of cF4 oz_B1cls_3
  have cA4 : SA oz_B1clsl_3 A A4 := SA_trans (SA_refl) (SA_gluc (ι := oz_B1clsl_4) oz_B1cls_13 hA4 eA4 (by decide +kernel)) (any_subA (lₚ := [2]) (by decide +kernel))
  have mA4 := SAm_of cA4 oz_B1cls_12
  have cD4 : SD oz_B1clsl_3 D D4 := SD_trans (SD_refl) (SD_gluc (ι := oz_B1clsl_4) oz_B1cls_13 hD4 eD4 (by decide +kernel)) (any_subA (lₚ := [2]) (by decide +kernel))
  have mD4 := SDm_of cD4 oz_B1cls_12
  have cN4 : SD oz_B1clsl_3 N N4 := SD_trans (SD_refl) (SD_gluc (ι := oz_B1clsl_4) oz_B1cls_13 hN4 eN4 (by decide +kernel)) (any_subA (lₚ := [2]) (by decide +kernel))
  have mN4 := SDm_of cN4 oz_B1cls_12
  have pf4_0_0 : F4 0 0 = (D4 2 : Int) := (eF4 0 0).trans (pm4_1.trans (congrArg (fun q : Nat => (q : Int)) (eD4 2).symm))
  have r5 : (0 : Int) ≤ m4_1 ∧ m4_1 ≤ 1000000 := nleE (H.nle 2 (ltn len_V161_Br_oz_B1cls rfl)) (show (N4 2 : Int) = m4_1 from (congrArg (fun q : Nat => (q : Int)) (eN4 2)).trans em4_1)
  have hsr := pz4_4
  refine w_ifne (t := 14) rfl rfl (show inr (z4) from q_15 pz4_0) (fun b6 => ?_) (fun b6 => ?_)
  · refine Ew_of (pcₚ := 15) (fun _ => x_aload_n rfl rfl) ?_
    refine Ew_of (pcₚ := 16) (fun _ => x_iload_n rfl rfl) ?_
    refine Ew_of (pcₚ := 17) (fun _ => x_aload_n rfl rfl) ?_
    refine Ew_stk (show ([.ref (D 0), I (a2), .ref (D 1)] : List Value) = [.ref (D4 0), I (a2), .ref (D4 1)] by rw [show D4 0 = D 0 from mD4 0 rfl, show D4 1 = D 1 from mD4 1 rfl]) ?_
    refine v_g H (o := 0) (v := .ref (D4 2)) rfl rfl rfl rfl rfl (vrf (pf4_0_0)) ?_
    refine Ew_of (pcₚ := 21) (fun _ => x_aload_n rfl rfl) ?_
    refine Ew_stk (congrArg (fun qz : Nat => ([.ref qz, .ref (D4 2), I (a2), .ref (D4 1)] : List Value)) (show D4 0 = D 0 from mD4 0 rfl).symm) ?_
    refine v_g H (o := 0) (v := I (u0_1)) rfl rfl rfl rfl rfl (congrArg (fun z : Int => I z) ((((show F4 0 1 = F 0 1 from (eF4 0 1).trans (hS4 0 1 rfl))).trans (eu0_1)) : F4 0 1 = u0_1)) ?_
    refine Ew_of (pcₚ := 25) (fun _ => x_iload_n rfl rfl) ?_
    refine v_cpy H (t := 2) (t0 := 1) rfl rfl rfl rfl rfl rfl rfl rfl (n := m4_1) ((congrArg (fun q : Nat => (q : Int)) (eN4 2)).trans em4_1) (n0 := n1) ((congrArg (fun q : Nat => (q : Int)) (mN4 1 rfl)).trans (en1)) (show 0 ≤ a3 ∧ 0 ≤ u0_1 ∧ 0 ≤ a2 ∧ a2 + a3 ≤ n1 ∧ u0_1 + a3 ≤ m4_1 by omega) (fun σ A7 H Oₚ hA7 ga7 gb7 => ?_)
    have gb7 : ∀ i, i < u0_1 ∨ u0_1 + a3 ≤ i → A7 2 i = (w4_1) i := fun i a => (gb7 i a).trans (congrFun ((eA4 2).trans ew4_1) i)
    have ga7 : ∀ i, u0_1 ≤ i → i < u0_1 + a3 → A7 2 i = (A 1) (a2 + (i - u0_1)) := fun i a b => (ga7 i a b).trans (congrFun (funext (mA4 1 rfl)) _)
    have O := OUT_trans O Oₚ
    have cA7 : SA oz_B1clsl_3 A A7 := SA_trans (cA4) hA7 (any_subA (by decide +kernel))
    have mA7 := SAm_of cA7 oz_B1cls_12
    have : ∀ i, (0 : Int) ≤ i → i < (u0_1) → ((A7 2)) i = ((w2)) i := fun i a b => (gb7 i (by omega)).trans (hsr i a b)
    refine Ew_of (pcₚ := 29) (fun _ => x_aload_n rfl rfl) ?_
    refine Ew_of (pcₚ := 30) (fun _ => x_dup rfl rfl) ?_
    refine Ew_stk (show ([.ref (D 0), .ref (D 0)] : List Value) = [.ref (D4 0), .ref (D4 0)] by rw [show D4 0 = D 0 from mD4 0 rfl]) ?_
    refine v_g H (o := 0) (v := I (u0_1)) rfl rfl rfl rfl rfl (congrArg (fun z : Int => I z) ((((show F4 0 1 = F 0 1 from (eF4 0 1).trans (hS4 0 1 rfl))).trans (eu0_1)) : F4 0 1 = u0_1)) ?_
    refine Ew_of (pcₚ := 34) (fun _ => x_iload_n rfl rfl) ?_
    refine w_iadd rfl ?_
    refine v_p H (o := 0) (z := (u0_1 + a3)) (v := I ((u0_1 + a3))) rfl rfl rfl rfl rfl rfl rfl rfl (show (-2147483648 : Int) ≤ (u0_1 + a3) ∧ (u0_1 + a3) ≤ 2147483647 from q_2533 h1 h3 pz4_1 pz4_2 r2 r5) (fun σ H Oₚ => ?_)
    have O := OUT_trans O Oₚ
    have cFu8 : SF oz_B1clsl_0 F (updF F4 0 1 ((u0_1 + a3))) := SF_upd (cF4) rfl
    have mFu8 := SFm_of cFu8 oz_B1cls_3
    exact w_ret rfl (k _ _ _ _ _ _ _ H O (cD4) (cN4) (cFu8) (cA7) (pf4_0_0) (m4_1) ((congrArg (fun q : Nat => (q : Int)) (eN4 2)).trans em4_1) ((u0_1 + a3)) (rfl) (A7 2) (rfl) (show 0 ≤ ((u0_1 + a3)) ∧ ((u0_1 + a3)) ≤ (m4_1) ∧ (m4_1) ≤ 65536 by omega) (show ((u0_1 + a3)) = (u0_1) + a3 ∧ 0 ≤ a3 ∨ ((u0_1 + a3)) = (u0_1) ∧ (a3 < 0 ∨ 65536 < (u0_1) + a3) by omega) (show ∀ i, (0 : Int) ≤ i → i < (u0_1) → ((A7 2)) i = ((w2)) i by assumption))
  · refine Ew_of (pcₚ := 9) (fun _ => x_aload_n rfl rfl) ?_
    refine Ew_of (pcₚ := 10) (fun _ => x_iconst rfl) ?_
    refine Ew_stk (congrArg (fun qz : Nat => ([I (1), .ref qz] : List Value)) (show D4 0 = D 0 from mD4 0 rfl).symm) ?_
    refine v_p H (o := 0) (z := 1) (v := I (1)) rfl rfl rfl rfl rfl rfl rfl (rfit_b (by omega)) (show (0 : Int) ≤ 1 ∧ 1 ≤ 1 from q_2146) (fun σ H Oₚ => ?_)
    have O := OUT_trans O Oₚ
    have cFu9 : SF oz_B1clsl_0 F (updF F4 0 2 (1)) := SF_upd (cF4) rfl
    have mFu9 := SFm_of cFu9 oz_B1cls_3
    exact w_ret rfl (k _ _ _ _ _ _ _ H O (cD4) (cN4) (cFu9) (cA4) (pf4_0_0) (m4_1) ((congrArg (fun q : Nat => (q : Int)) (eN4 2)).trans em4_1) (u0_1) ((((show F4 0 1 = F 0 1 from (eF4 0 1).trans (hS4 0 1 rfl))).trans (eu0_1))) (w4_1) ((eA4 2).trans ew4_1) (show 0 ≤ (u0_1) ∧ (u0_1) ≤ (m4_1) ∧ (m4_1) ≤ 65536 from pz4_1) (show (u0_1) = (u0_1) + a3 ∧ 0 ≤ a3 ∨ (u0_1) = (u0_1) ∧ (a3 < 0 ∨ 65536 < (u0_1) + a3) by omega) (show ∀ i, (0 : Int) ≤ i → i < (u0_1) → ((w4_1)) i = ((w2)) i by assumption))
abbrev V460 : vV := []
theorem len_V460_oz_B1cls : (V460).length = 0 := by decide +kernel
/-- java/util/Arrays.rangeCheck:  -/
theorem C460 {σE : rS} {D N : Nat → Nat} {F : hF} {A : hA} {d c s : Nat} {Q : wQ} (H : HW V460 σE D N F A) {a1 a2 a3 : Int} (h0 : inr (a1)) (h1 : inr (a2)) (h2 : inr (a3)) (h3 : 0 ≤ (a2) ∧ (a2) ≤ (a3) ∧ (a3) ≤ (a1)) (k : ∀ (σ : rS) (Fₚ : hF) (Aₚ : hA), HW V460 σ D N Fₚ Aₚ → OUT (V460).length D N σE c s D N σ c s → SF [] F Fₚ → SA [] A Aₚ → Q none σ c s) : Ew 460 (d + 0) 0 (rargs 0 [I a1, I a2, I a3]) [] σE c s Q := by
  have O := OUT_refl (n := (V460).length) (D := D) (N := N) (σ := σE) (c := c) (s := s)
  have HE := H
  refine Ew_of (pcₚ := 1) (fun _ => x_iload_n rfl rfl) ?_
  refine Ew_of (pcₚ := 2) (fun _ => x_iload_n rfl rfl) ?_
  refine w_icmple (t := 46) rfl rfl (show inr (a2) from h1) (show inr (a3) from h2) (fun b1 => ?_) (fun b1 => ?_)
  · refine Ew_of (pcₚ := 47) (fun _ => x_iload_n rfl rfl) ?_
    refine w_ifge (t := 59) rfl rfl (show inr (a2) from h1) (fun b2 => ?_) (fun b2 => ?_)
    · refine Ew_of (pcₚ := 60) (fun _ => x_iload_n rfl rfl) ?_
      refine Ew_of (pcₚ := 61) (fun _ => x_iload_n rfl rfl) ?_
      refine w_icmple (t := 73) rfl rfl (show inr (a3) from h2) (show inr (a1) from h0) (fun b3 => ?_) (fun b3 => ?_)
      · exact w_ret rfl (k _ _ _ H O (SF_refl) (SA_refl))
      · exfalso
        omega
    · exfalso
      omega
  · exfalso
    omega
abbrev V458_Br : vV := [(1, 0, [])]
theorem len_V458_Br_oz_B1cls : (V458_Br).length = 1 := by decide +kernel
theorem oz_B1cls_16 : vsub V458_Br V460 [] = true := by decide +kernel
def oz_B1clsl_5 : List (Nat × Nat) := []
theorem oz_B1cls_17 : (oz_B1clsl_5).all (fun p => !tbz 0 (Nat.add (Nat.mul 32 p.1) p.2)) = true := by decide +kernel
def oz_B1clsl_6 : List Nat := [0]
theorem oz_B1cls_18 : (oz_B1clsl_6).all (fun p => !tbz 1 p) = true := by decide +kernel
def oz_B1clsl_7 : List Nat := []
theorem oz_B1cls_19 : okc oz_B1clsl_7 0 = true := by decide +kernel
/-- java/util/Arrays.fill: #1 -/
theorem C458_Br {σE : rS} {D N : Nat → Nat} {F : hF} {A : hA} {d c s : Nat} {Q : wQ} (H : HW V458_Br σE D N F A) {a2 a3 a4 : Int} (n0 : Int) (en0 : (N 0 : Int) = n0) (h0 : inr (a2)) (h1 : inr (a3)) (h2 : inr (a4)) (h3 : 0 ≤ (a2) ∧ (a2) ≤ (a3) ∧ (a3) ≤ (n0)) (k : ∀ (σ : rS) (Fₚ : hF) (Aₚ : hA), HW V458_Br σ D N Fₚ Aₚ → OUT (V458_Br).length D N σE c s D N σ c s → SF [] F Fₚ → SA [0] A Aₚ → Q none σ c s) : Ew 458 (d + 1) 0 (rargs 0 [.ref (D 0), I a2, I a3, I a4]) [] σE c s Q := by
  have O := OUT_refl (n := (V458_Br).length) (D := D) (N := N) (σ := σE) (c := c) (s := s)
  have HE := H
  have r1 : (0 : Int) ≤ n0 ∧ n0 ≤ 1000000 := nleE (H.nle 0 (ltn len_V458_Br_oz_B1cls rfl)) (show (N 0 : Int) = n0 from en0)
  refine Ew_of (pcₚ := 1) (fun _ => x_aload_n rfl rfl) ?_
  refine v_len H (o := 0) rfl rfl rfl rfl (n := n0) (en0) ?_
  refine Ew_of (pcₚ := 3) (fun _ => x_iload_n rfl rfl) ?_
  refine Ew_of (pcₚ := 4) (fun _ => x_iload_n rfl rfl) ?_
  refine w_stat24 rfl rfl (by rfl) (C460 (D := puc 0 D) (N := puc 0 N) (HW_subc H oz_B1cls_16 oz_B1cls_19) (show inr (n0) from q_2511 r1) (show inr (a2) from h0) (show inr (a3) from h1) (show 0 ≤ (a2) ∧ (a2) ≤ (a3) ∧ (a3) ≤ (n0) from h3) (fun σ2 F2ₚ A2ₚ Hₚ Oₚ hS2 hA2 => ⟨rfl, ?_⟩))
  refine v_backc (c := c) (s := s) H oz_B1cls_16 oz_B1cls_19 Hₚ Oₚ (fun F2 A2 H Oₚ eF2 eA2 => ?_)
  have O := OUT_trans O Oₚ
  -- java/util/Arrays.rangeCheck
  have cF2 : SF oz_B1clsl_5 F F2 := SF_trans (SF_refl) (SF_gluc (ι := oz_B1clsl_7) oz_B1cls_19 hS2 eF2 (by decide +kernel)) (any_sub (lₚ := []) (by decide +kernel))
  have mF2 := SFm_of cF2 oz_B1cls_17
  have cA2 : SA oz_B1clsl_6 A A2 := SA_trans (SA_refl) (SA_gluc (ι := oz_B1clsl_7) oz_B1cls_19 hA2 eA2 (by decide +kernel)) (any_subA (lₚ := []) (by decide +kernel))
  have mA2 := SAm_of cA2 oz_B1cls_18
  refine Ew_of (pcₚ := 8) (fun _ => x_iload_n rfl rfl) ?_
  refine Ew_of (pcₚ := 10) (fun _ => x_istore rfl) ?_
  suffices hl10 : ∀ (m : Nat), ∀ (ls : rO) (σ : rS) (F_10 : hF) (A_10 : hA) (x10_4 : Int), rlook ls 0 = some (.ref (D 0)) → rlook ls 2 = some (I (a3)) → rlook ls 3 = some (I (a4)) → rlook ls 4 = some (I (x10_4)) → HW V458_Br σ D N F_10 A_10 → OUT (V458_Br).length D N σE c s D N σ c s → SF [] F2 F_10 → SA [0] A2 A_10 → (inr (x10_4)) → ((a2) ≤ (x10_4)) → ((x10_4) ≤ (a2) ∨ (x10_4) ≤ ((a3))) → (((a3)) - (x10_4)).toNat = m → Ew 458 (d + 1) 10 ls [] σ c s Q from
    hl10 _ _ _ _ _ (a2) (rk_o (rfl) rfl rfl) (rk_o (rfl) rfl rfl) (rk_o (rfl) rfl rfl) (rk_s) H O (SF_refl) (SA_refl)     (show inr (a2) from h0) (show (a2) ≤ (a2) from q_102) (show (a2) ≤ (a2) ∨ (a2) ≤ ((a3)) from q_101) rfl
  as_aux_lemma =>
  intro m
  induction m using Nat.strongRecOn with
  | _ m ih10 =>
    intro ls σ F_10 A_10 x10_4 l10_0 l10_2 l10_3 l10_4 H O hS_10 hA_10     j10_0 j10_1 j10_2 hm10
    have cF_10 : SF oz_B1clsl_5 F F_10 := SF_trans (cF2) hS_10 (any_sub (by decide +kernel))
    have mF_10 := SFm_of cF_10 oz_B1cls_17
    have cA_10 : SA oz_B1clsl_6 A A_10 := SA_trans (cA2) hA_10 (any_subA (by decide +kernel))
    have mA_10 := SAm_of cA_10 oz_B1cls_18
    refine Ew_of (pcₚ := 12) (fun _ => x_iload rfl l10_4) ?_
    refine Ew_of (pcₚ := 13) (fun _ => x_iload_n rfl l10_2) ?_
    refine w_icmpge (t := 27) rfl rfl (show inr (x10_4) from j10_0) (show inr (a3) from h1) (fun b3 => ?_) (fun b3 => ?_)
    · exact w_ret rfl (k _ _ _ H O (cF_10) (cA_10))
    · refine Ew_of (pcₚ := 17) (fun _ => x_aload_n rfl l10_0) ?_
      refine Ew_of (pcₚ := 19) (fun _ => x_iload rfl l10_4) ?_
      refine Ew_of (pcₚ := 20) (fun _ => x_iload_n rfl l10_3) ?_
      refine v_sB H (o := 0) rfl rfl rfl rfl (n := n0) (en0) (show 0 ≤ x10_4 ∧ x10_4 < n0 from q_2534 b3 h3 j10_1) (fun z4 σ qz4 H Oₚ => ?_)
      have O := OUT_trans O Oₚ
      have cAu5 : SA oz_B1clsl_6 A (updA A_10 0 (x10_4) (z4)) := SA_upd (cA_10) rfl
      have mAu5 := SAm_of cAu5 oz_B1cls_18
      refine Ew_of (pcₚ := 24) (fun _ => x_iinc (len := 3) rfl (l10_4)) ?_
      refine Ew_of (pcₚ := 10) (fun _ => x_goto rfl rfl) ?_
      exact ih10 _ (msE hm10 q_31 (q_34 b3)) _ _ _ _ ((x10_4 + 1)) (rk_o (l10_0) rfl rfl) (rk_o (l10_2) rfl rfl) (rk_o (l10_3) rfl rfl) (rk_s) H O (hS_10) (SA_upd (hA_10) rfl)     (show inr ((x10_4 + 1)) from q_2535 b3 h3 j10_0 r1) (show (a2) ≤ ((x10_4 + 1)) from q_105 j10_1) (show ((x10_4 + 1)) ≤ (a2) ∨ ((x10_4 + 1)) ≤ ((a3)) from q_104 b3) rfl
abbrev V459_Ir : vV := [(1, 1, [])]
theorem len_V459_Ir_oz_B1cls : (V459_Ir).length = 1 := by decide +kernel
theorem oz_B1cls_21 : vsub V459_Ir V460 [] = true := by decide +kernel
/-- java/util/Arrays.fill: #1 -/
theorem C459_Ir {σE : rS} {D N : Nat → Nat} {F : hF} {A : hA} {d c s : Nat} {Q : wQ} (H : HW V459_Ir σE D N F A) {a2 a3 a4 : Int} (n0 : Int) (en0 : (N 0 : Int) = n0) (h0 : inr (a2)) (h1 : inr (a3)) (h2 : inr (a4)) (h3 : 0 ≤ (a2) ∧ (a2) ≤ (a3) ∧ (a3) ≤ (n0)) (k : ∀ (σ : rS) (Fₚ : hF) (Aₚ : hA), HW V459_Ir σ D N Fₚ Aₚ → OUT (V459_Ir).length D N σE c s D N σ c s → SF [] F Fₚ → SA [0] A Aₚ → Q none σ c s) : Ew 459 (d + 1) 0 (rargs 0 [.ref (D 0), I a2, I a3, I a4]) [] σE c s Q := by
  have O := OUT_refl (n := (V459_Ir).length) (D := D) (N := N) (σ := σE) (c := c) (s := s)
  have HE := H
  have r1 : (0 : Int) ≤ n0 ∧ n0 ≤ 1000000 := nleE (H.nle 0 (ltn len_V459_Ir_oz_B1cls rfl)) (show (N 0 : Int) = n0 from en0)
  refine Ew_of (pcₚ := 1) (fun _ => x_aload_n rfl rfl) ?_
  refine v_len H (o := 0) rfl rfl rfl rfl (n := n0) (en0) ?_
  refine Ew_of (pcₚ := 3) (fun _ => x_iload_n rfl rfl) ?_
  refine Ew_of (pcₚ := 4) (fun _ => x_iload_n rfl rfl) ?_
  refine w_stat24 rfl rfl (by rfl) (C460 (D := puc 0 D) (N := puc 0 N) (HW_subc H oz_B1cls_21 oz_B1cls_19) (show inr (n0) from q_2511 r1) (show inr (a2) from h0) (show inr (a3) from h1) (show 0 ≤ (a2) ∧ (a2) ≤ (a3) ∧ (a3) ≤ (n0) from h3) (fun σ2 F2ₚ A2ₚ Hₚ Oₚ hS2 hA2 => ⟨rfl, ?_⟩))
  refine v_backc (c := c) (s := s) H oz_B1cls_21 oz_B1cls_19 Hₚ Oₚ (fun F2 A2 H Oₚ eF2 eA2 => ?_)
  have O := OUT_trans O Oₚ
  -- java/util/Arrays.rangeCheck
  have cF2 : SF oz_B1clsl_5 F F2 := SF_trans (SF_refl) (SF_gluc (ι := oz_B1clsl_7) oz_B1cls_19 hS2 eF2 (by decide +kernel)) (any_sub (lₚ := []) (by decide +kernel))
  have mF2 := SFm_of cF2 oz_B1cls_17
  have cA2 : SA oz_B1clsl_6 A A2 := SA_trans (SA_refl) (SA_gluc (ι := oz_B1clsl_7) oz_B1cls_19 hA2 eA2 (by decide +kernel)) (any_subA (lₚ := []) (by decide +kernel))
  have mA2 := SAm_of cA2 oz_B1cls_18
  refine Ew_of (pcₚ := 8) (fun _ => x_iload_n rfl rfl) ?_
  refine Ew_of (pcₚ := 10) (fun _ => x_istore rfl) ?_
  suffices hl10 : ∀ (m : Nat), ∀ (ls : rO) (σ : rS) (F_10 : hF) (A_10 : hA) (x10_4 : Int), rlook ls 0 = some (.ref (D 0)) → rlook ls 2 = some (I (a3)) → rlook ls 3 = some (I (a4)) → rlook ls 4 = some (I (x10_4)) → HW V459_Ir σ D N F_10 A_10 → OUT (V459_Ir).length D N σE c s D N σ c s → SF [] F2 F_10 → SA [0] A2 A_10 → (inr (x10_4)) → ((a2) ≤ (x10_4)) → ((x10_4) ≤ (a2) ∨ (x10_4) ≤ ((a3))) → (((a3)) - (x10_4)).toNat = m → Ew 459 (d + 1) 10 ls [] σ c s Q from
    hl10 _ _ _ _ _ (a2) (rk_o (rfl) rfl rfl) (rk_o (rfl) rfl rfl) (rk_o (rfl) rfl rfl) (rk_s) H O (SF_refl) (SA_refl)     (show inr (a2) from h0) (show (a2) ≤ (a2) from q_102) (show (a2) ≤ (a2) ∨ (a2) ≤ ((a3)) from q_101) rfl
  as_aux_lemma =>
  intro m
  induction m using Nat.strongRecOn with
  | _ m ih10 =>
    intro ls σ F_10 A_10 x10_4 l10_0 l10_2 l10_3 l10_4 H O hS_10 hA_10     j10_0 j10_1 j10_2 hm10
    have cF_10 : SF oz_B1clsl_5 F F_10 := SF_trans (cF2) hS_10 (any_sub (by decide +kernel))
    have mF_10 := SFm_of cF_10 oz_B1cls_17
    have cA_10 : SA oz_B1clsl_6 A A_10 := SA_trans (cA2) hA_10 (any_subA (by decide +kernel))
    have mA_10 := SAm_of cA_10 oz_B1cls_18
    refine Ew_of (pcₚ := 12) (fun _ => x_iload rfl l10_4) ?_
    refine Ew_of (pcₚ := 13) (fun _ => x_iload_n rfl l10_2) ?_
    refine w_icmpge (t := 27) rfl rfl (show inr (x10_4) from j10_0) (show inr (a3) from h1) (fun b3 => ?_) (fun b3 => ?_)
    · exact w_ret rfl (k _ _ _ H O (cF_10) (cA_10))
    · refine Ew_of (pcₚ := 17) (fun _ => x_aload_n rfl l10_0) ?_
      refine Ew_of (pcₚ := 19) (fun _ => x_iload rfl l10_4) ?_
      refine Ew_of (pcₚ := 20) (fun _ => x_iload_n rfl l10_3) ?_
      refine v_sI H (o := 0) (z := a4) rfl rfl rfl rfl (n := n0) (en0) (show 0 ≤ x10_4 ∧ x10_4 < n0 from q_2534 b3 h3 j10_1) (show inr (a4) from h2) (fun σ H Oₚ => ?_)
      have O := OUT_trans O Oₚ
      have cAu4 : SA oz_B1clsl_6 A (updA A_10 0 (x10_4) (a4)) := SA_upd (cA_10) rfl
      have mAu4 := SAm_of cAu4 oz_B1cls_18
      refine Ew_of (pcₚ := 24) (fun _ => x_iinc (len := 3) rfl (l10_4)) ?_
      refine Ew_of (pcₚ := 10) (fun _ => x_goto rfl rfl) ?_
      exact ih10 _ (msE hm10 q_31 (q_34 b3)) _ _ _ _ ((x10_4 + 1)) (rk_o (l10_0) rfl rfl) (rk_o (l10_2) rfl rfl) (rk_o (l10_3) rfl rfl) (rk_s) H O (hS_10) (SA_upd (hA_10) rfl)     (show inr ((x10_4 + 1)) from q_2535 b3 h3 j10_0 r1) (show (a2) ≤ ((x10_4 + 1)) from q_105 j10_1) (show ((x10_4 + 1)) ≤ (a2) ∨ ((x10_4 + 1)) ≤ ((a3)) from q_104 b3) rfl
abbrev V162 : vV := [(0, 7, [(4, 0), (0, 0), (1, 0), (0, 0), (0, 0)]), (1, 0, [])]
theorem len_V162_oz_B1cls : (V162).length = 2 := by decide +kernel
theorem oz_B1cls_23 : vsub V162 V157 [0, 1] = true := by decide +kernel
theorem oz_B1cls_24 : vmov V162 [0, 1] [1] = true := by decide +kernel
theorem oz_B1cls_25 : vsub V162 V458_Br [1] = true := by decide +kernel
theorem oz_B1cls_26 : okc oz_B1clsl_1 1 = true := by decide +kernel
/-- Row.addSame: this, this.bytes -/
theorem C162 {σE : rS} {D N : Nat → Nat} {F : hF} {A : hA} {d c s : Nat} {Q : wQ} (H : HW V162 σE D N F A) {a1 a2 : Int} (pf1 : F 0 0 = (D 1 : Int)) (n1 : Int) (en1 : (N 1 : Int) = n1) (u0_1 : Int) (eu0_1 : F 0 1 = u0_1) (h0 : inr (a1)) (h1 : inr (a2)) (h2 : 0 ≤ (u0_1) ∧ (u0_1) ≤ (n1) ∧ (n1) ≤ 65536) (k : ∀ (σ : rS) (Dₚ Nₚ : Nat → Nat) (Fₚ : hF) (Aₚ : hA) (cₚ sₚ : Nat), HW V162 σ Dₚ Nₚ Fₚ Aₚ → OUT (V162).length D N σE c s Dₚ Nₚ σ cₚ sₚ → SD [1] D Dₚ → SD [1] N Nₚ → SF [(0, 0), (0, 1), (0, 2)] F Fₚ → SA [1] A Aₚ → Fₚ 0 0 = (Dₚ 1 : Int) → ∀ m1 : Int, (Nₚ 1 : Int) = m1 → ∀ y0_1 : Int, Fₚ 0 1 = y0_1 → (0 ≤ (y0_1) ∧ (y0_1) ≤ (m1) ∧ (m1) ≤ 65536) → ((y0_1) = (u0_1) + (a2) ∧ 0 ≤ (a2) ∨ (y0_1) = (u0_1) ∧ ((a2) < 0 ∨ 65536 < (u0_1) + (a2))) → Q none σ cₚ sₚ) : Ew 162 (d + 2) 0 (rargs 0 [.ref (D 0), I a1, I a2]) [] σE c s Q := by
  have O := OUT_refl (n := (V162).length) (D := D) (N := N) (σ := σE) (c := c) (s := s)
  have HE := H
  have r1 : (-2147483648 : Int) ≤ u0_1 ∧ u0_1 ≤ 2147483647 := rngE (show (-2147483648 : Int) ≤ F 0 1 ∧ F 0 1 ≤ 2147483647 from H.krg 0 1 (ltn len_V162_oz_B1cls rfl)) (show F 0 1 = u0_1 from (eu0_1))
  have r2 : (0 : Int) ≤ n1 ∧ n1 ≤ 1000000 := nleE (H.nle 1 (ltn len_V162_oz_B1cls rfl)) (show (N 1 : Int) = n1 from en1)
  refine Ew_of (pcₚ := 1) (fun _ => x_aload_n rfl rfl) ?_
  refine Ew_of (pcₚ := 2) (fun _ => x_iload_n rfl rfl) ?_
  refine v_inv H (o := 0) rfl rfl rfl rfl rfl rfl (by rfl) (C157 (D := puc 512 D) (N := puc 512 N) (HW_subc H oz_B1cls_23 oz_B1cls_5) (pf1) (n1) (en1) (u0_1) ((eu0_1)) (A 1) (rfl) (show inr (a2) from h1) (show 0 ≤ (u0_1) ∧ (u0_1) ≤ (n1) ∧ (n1) ≤ 65536 from h2) (fun z3 σ3 D3ₚ N3ₚ F3ₚ A3ₚ c3 s3 Hₚ Oₚ hD3 hN3 hS3 hA3 pm3_1 m3_1 em3_1 w3_1 ew3_1 pz3_0 pz3_1 pz3_2 pz3_3 pz3_4 => ⟨rretB rfl pz3_0, ?_⟩))
  refine v_backMc (c := c) (s := s) H oz_B1cls_23 oz_B1cls_5 Hₚ Oₚ hD3 oz_B1cls_24 (fun D3 N3 F3 A3 H Oₚ eD3 eN3 eF3 eA3 => ?_)
  have O := OUT_trans O Oₚ
  -- Row.reserve
  have cF3 : SF oz_B1clsl_0 F F3 := SF_trans (SF_refl) (SF_gluc (ι := oz_B1clsl_2) oz_B1cls_5 hS3 eF3 (by decide +kernel)) (any_sub (lₚ := [(0, 0)]) (by decide +kernel))
  have mF3 := SFm_of cF3 oz_B1cls_3
  have cA3 : SA oz_B1clsl_1 A A3 := SA_trans (SA_refl) (SA_gluc (ι := oz_B1clsl_2) oz_B1cls_5 hA3 eA3 (by decide +kernel)) (any_subA (lₚ := [1]) (by decide +kernel))
  have mA3 := SAm_of cA3 oz_B1cls_4
  have cD3 : SD oz_B1clsl_1 D D3 := SD_trans (SD_refl) (SD_gluc (ι := oz_B1clsl_2) oz_B1cls_5 hD3 eD3 (by decide +kernel)) (any_subA (lₚ := [1]) (by decide +kernel))
  have mD3 := SDm_of cD3 oz_B1cls_4
  have cN3 : SD oz_B1clsl_1 N N3 := SD_trans (SD_refl) (SD_gluc (ι := oz_B1clsl_2) oz_B1cls_5 hN3 eN3 (by decide +kernel)) (any_subA (lₚ := [1]) (by decide +kernel))
  have mN3 := SDm_of cN3 oz_B1cls_4
  have pf3_0_0 : F3 0 0 = (D3 1 : Int) := (eF3 0 0).trans (pm3_1.trans (congrArg (fun q : Nat => (q : Int)) (eD3 1).symm))
  have r4 : (0 : Int) ≤ m3_1 ∧ m3_1 ≤ 1000000 := nleE (H.nle 1 (ltn len_V162_oz_B1cls rfl)) (show (N3 1 : Int) = m3_1 from (congrArg (fun q : Nat => (q : Int)) (eN3 1)).trans em3_1)
  refine w_ifne (t := 14) rfl rfl (show inr (z3) from q_15 pz3_0) (fun b5 => ?_) (fun b5 => ?_)
  · refine Ew_of (pcₚ := 15) (fun _ => x_aload_n rfl rfl) ?_
    refine Ew_stk (congrArg (fun qz : Nat => ([.ref qz] : List Value)) (show D3 0 = D 0 from mD3 0 rfl).symm) ?_
    refine v_g H (o := 0) (v := .ref (D3 1)) rfl rfl rfl rfl rfl (vrf (pf3_0_0)) ?_
    refine Ew_of (pcₚ := 19) (fun _ => x_aload_n rfl rfl) ?_
    refine Ew_stk (congrArg (fun qz : Nat => ([.ref qz, .ref (D3 1)] : List Value)) (show D3 0 = D 0 from mD3 0 rfl).symm) ?_
    refine v_g H (o := 0) (v := I (u0_1)) rfl rfl rfl rfl rfl (congrArg (fun z : Int => I z) ((((show F3 0 1 = F 0 1 from (eF3 0 1).trans (hS3 0 1 rfl))).trans (eu0_1)) : F3 0 1 = u0_1)) ?_
    refine Ew_of (pcₚ := 23) (fun _ => x_aload_n rfl rfl) ?_
    refine Ew_stk (congrArg (fun qz : Nat => ([.ref qz, I (u0_1), .ref (D3 1)] : List Value)) (show D3 0 = D 0 from mD3 0 rfl).symm) ?_
    refine v_g H (o := 0) (v := I (u0_1)) rfl rfl rfl rfl rfl (congrArg (fun z : Int => I z) ((((show F3 0 1 = F 0 1 from (eF3 0 1).trans (hS3 0 1 rfl))).trans (eu0_1)) : F3 0 1 = u0_1)) ?_
    refine Ew_of (pcₚ := 27) (fun _ => x_iload_n rfl rfl) ?_
    refine w_iadd rfl ?_
    refine Ew_of (pcₚ := 29) (fun _ => x_iload_n rfl rfl) ?_
    refine v_i2b rfl (fun z6 gz6 => ?_)
    refine w_stat24 rfl rfl (by rfl) (C458_Br (D := puc 1 D3) (N := puc 1 N3) (HW_subc H oz_B1cls_25 oz_B1cls_26) (m3_1) ((congrArg (fun q : Nat => (q : Int)) (eN3 1)).trans em3_1) (show inr (u0_1) from q_884 pz3_1) (show inr ((u0_1 + a2)) by omega) (show inr (z6) from q_2536 gz6) (show 0 ≤ (u0_1) ∧ (u0_1) ≤ ((u0_1 + a2)) ∧ ((u0_1 + a2)) ≤ (m3_1) by omega) (fun σ7 F7ₚ A7ₚ Hₚ Oₚ hS7 hA7 => ⟨rfl, ?_⟩))
    refine v_backc (c := (c + c3)) (s := (s + s3)) H oz_B1cls_25 oz_B1cls_26 Hₚ Oₚ (fun F7 A7 H Oₚ eF7 eA7 => ?_)
    have O := OUT_trans O Oₚ
    -- java/util/Arrays.fill
    have cF7 : SF oz_B1clsl_0 F F7 := SF_trans (cF3) (SF_gluc (ι := oz_B1clsl_1) oz_B1cls_26 hS7 eF7 (by decide +kernel)) (any_sub (lₚ := []) (by decide +kernel))
    have mF7 := SFm_of cF7 oz_B1cls_3
    have cA7 : SA oz_B1clsl_1 A A7 := SA_trans (cA3) (SA_gluc (ι := oz_B1clsl_1) oz_B1cls_26 hA7 eA7 (by decide +kernel)) (any_subA (lₚ := [1]) (by decide +kernel))
    have mA7 := SAm_of cA7 oz_B1cls_4
    refine Ew_of (pcₚ := 34) (fun _ => x_aload_n rfl rfl) ?_
    refine Ew_of (pcₚ := 35) (fun _ => x_dup rfl rfl) ?_
    refine Ew_stk (show ([.ref (D 0), .ref (D 0)] : List Value) = [.ref (D3 0), .ref (D3 0)] by rw [show D3 0 = D 0 from mD3 0 rfl]) ?_
    refine v_g H (o := 0) (v := I (u0_1)) rfl rfl rfl rfl rfl (congrArg (fun z : Int => I z) (((((show F7 0 1 = F3 0 1 from (eF7 0 1))).trans ((show F3 0 1 = F 0 1 from (eF3 0 1).trans (hS3 0 1 rfl)))).trans (eu0_1)) : F7 0 1 = u0_1)) ?_
    refine Ew_of (pcₚ := 39) (fun _ => x_iload_n rfl rfl) ?_
    refine w_iadd rfl ?_
    refine v_p H (o := 0) (z := (u0_1 + a2)) (v := I ((u0_1 + a2))) rfl rfl rfl rfl rfl rfl rfl rfl (show (-2147483648 : Int) ≤ (u0_1 + a2) ∧ (u0_1 + a2) ≤ 2147483647 by omega) (fun σ H Oₚ => ?_)
    have O := OUT_trans O Oₚ
    have cFu8 : SF oz_B1clsl_0 F (updF F7 0 1 ((u0_1 + a2))) := SF_upd (cF7) rfl
    have mFu8 := SFm_of cFu8 oz_B1cls_3
    exact w_ret rfl (k _ _ _ _ _ _ _ H O (cD3) (cN3) (cFu8) (cA7) ((((show F7 0 0 = F3 0 0 from (eF7 0 0)))).trans (pf3_0_0)) (m3_1) ((congrArg (fun q : Nat => (q : Int)) (eN3 1)).trans em3_1) ((u0_1 + a2)) (rfl) (show 0 ≤ ((u0_1 + a2)) ∧ ((u0_1 + a2)) ≤ (m3_1) ∧ (m3_1) ≤ 65536 by omega) (show ((u0_1 + a2)) = (u0_1) + a2 ∧ 0 ≤ a2 ∨ ((u0_1 + a2)) = (u0_1) ∧ (a2 < 0 ∨ 65536 < (u0_1) + a2) by omega))
  · refine Ew_of (pcₚ := 9) (fun _ => x_aload_n rfl rfl) ?_
    refine Ew_of (pcₚ := 10) (fun _ => x_iconst rfl) ?_
    refine Ew_stk (congrArg (fun qz : Nat => ([I (1), .ref qz] : List Value)) (show D3 0 = D 0 from mD3 0 rfl).symm) ?_
    refine v_p H (o := 0) (z := 1) (v := I (1)) rfl rfl rfl rfl rfl rfl rfl (rfit_b (by omega)) (show (0 : Int) ≤ 1 ∧ 1 ≤ 1 from q_2146) (fun σ H Oₚ => ?_)
    have O := OUT_trans O Oₚ
    have cFu9 : SF oz_B1clsl_0 F (updF F3 0 2 (1)) := SF_upd (cF3) rfl
    have mFu9 := SFm_of cFu9 oz_B1cls_3
    exact w_ret rfl (k _ _ _ _ _ _ _ H O (cD3) (cN3) (cFu9) (cA3) (pf3_0_0) (m3_1) ((congrArg (fun q : Nat => (q : Int)) (eN3 1)).trans em3_1) (u0_1) ((((show F3 0 1 = F 0 1 from (eF3 0 1).trans (hS3 0 1 rfl))).trans (eu0_1))) (show 0 ≤ (u0_1) ∧ (u0_1) ≤ (m3_1) ∧ (m3_1) ≤ 65536 from pz3_1) (show (u0_1) = (u0_1) + a2 ∧ 0 ≤ a2 ∨ (u0_1) = (u0_1) ∧ (a2 < 0 ∨ 65536 < (u0_1) + a2) by omega))
abbrev V164 : vV := [(0, 7, [(4, 0), (0, 0), (1, 0), (0, 0), (0, 0)]), (1, 0, [])]
theorem len_V164_oz_B1cls : (V164).length = 2 := by decide +kernel
def oz_B1clsl_8 : List (Nat × Nat) := [(0, 1), (0, 2), (0, 3), (0, 4)]
theorem oz_B1cls_28 : (oz_B1clsl_8).all (fun p => !tbz 30 (Nat.add (Nat.mul 32 p.1) p.2)) = true := by decide +kernel
/-- Row.addBits: this, this.bytes -/
theorem C164 {σE : rS} {D N : Nat → Nat} {F : hF} {A : hA} {d c s : Nat} {Q : wQ} (H : HW V164 σE D N F A) {a1 a2 : Int} (pf1 : F 0 0 = (D 1 : Int)) (n1 : Int) (en1 : (N 1 : Int) = n1) (u0_1 : Int) (eu0_1 : F 0 1 = u0_1) (u0_4 : Int) (eu0_4 : F 0 4 = u0_4) (h0 : inr (a1)) (h1 : inr (a2)) (h2 : 0 ≤ (u0_1) ∧ (u0_1) ≤ (n1) ∧ (n1) ≤ 65536) (h3 : 0 ≤ (a2) ∧ (a2) ≤ 31) (h4 : 0 ≤ (u0_4) ∧ (u0_4) ≤ 7) (k : ∀ (σ : rS) (Fₚ : hF) (Aₚ : hA), HW V164 σ D N Fₚ Aₚ → OUT (V164).length D N σE c s D N σ c s → SF [(0, 1), (0, 2), (0, 3), (0, 4)] F Fₚ → SA [1] A Aₚ → ∀ y0_1 : Int, Fₚ 0 1 = y0_1 → ∀ y0_4 : Int, Fₚ 0 4 = y0_4 → (0 ≤ (y0_1) ∧ (y0_1) ≤ (n1) ∧ (n1) ≤ 65536) → ((u0_1) ≤ (y0_1)) → (0 ≤ (y0_4) ∧ (y0_4) ≤ 7) → Q none σ c s) : Ew 164 (d + 0) 0 (rargs 0 [.ref (D 0), I a1, I a2]) [] σE c s Q := by
  have O := OUT_refl (n := (V164).length) (D := D) (N := N) (σ := σE) (c := c) (s := s)
  have HE := H
  have r1 : (-2147483648 : Int) ≤ u0_1 ∧ u0_1 ≤ 2147483647 := rngE (show (-2147483648 : Int) ≤ F 0 1 ∧ F 0 1 ≤ 2147483647 from H.krg 0 1 (ltn len_V164_oz_B1cls rfl)) (show F 0 1 = u0_1 from (eu0_1))
  have r2 : (-2147483648 : Int) ≤ u0_4 ∧ u0_4 ≤ 2147483647 := rngE (show (-2147483648 : Int) ≤ F 0 4 ∧ F 0 4 ≤ 2147483647 from H.krg 0 4 (ltn len_V164_oz_B1cls rfl)) (show F 0 4 = u0_4 from (eu0_4))
  have r3 : (0 : Int) ≤ n1 ∧ n1 ≤ 1000000 := nleE (H.nle 1 (ltn len_V164_oz_B1cls rfl)) (show (N 1 : Int) = n1 from en1)
  refine Ew_of (pcₚ := 1) (fun _ => x_aload_n rfl rfl) ?_
  refine Ew_of (pcₚ := 2) (fun _ => x_dup rfl rfl) ?_
  have r4 : (-2147483648 : Int) ≤ F 0 3 ∧ F 0 3 ≤ 2147483647 := H.krg 0 3 (ltn len_V164_oz_B1cls rfl)
  refine v_g H (o := 0) (v := I (F 0 3)) rfl rfl rfl rfl rfl (congrArg (fun z : Int => I z) (rfl : F 0 3 = F 0 3)) ?_
  refine Ew_of (pcₚ := 6) (fun _ => x_iload_n rfl rfl) ?_
  refine Ew_of (pcₚ := 7) (fun _ => x_iconst rfl) ?_
  refine Ew_of (pcₚ := 8) (fun _ => x_iload_n rfl rfl) ?_
  refine w_ishlA rfl (fun z5 gz5 => ?_)
  refine Ew_of (pcₚ := 10) (fun _ => x_iconst rfl) ?_
  refine w_isubA rfl (fun z6 gz6 => ?_)
  refine w_iand rfl (show inr (a1) from h0) (show inr (z6) from gz6) (fun z7 gz7 gaz7 gbz7 => ?_)
  refine Ew_of (pcₚ := 13) (fun _ => x_aload_n rfl rfl) ?_
  refine v_g H (o := 0) (v := I (u0_4)) rfl rfl rfl rfl rfl (congrArg (fun z : Int => I z) ((eu0_4) : F 0 4 = u0_4)) ?_
  refine w_ishlA rfl (fun z8 gz8 => ?_)
  refine w_ior rfl (fun z9 gz9 => ?_)
  refine v_p H (o := 0) (z := z9) (v := I (z9)) rfl rfl rfl rfl rfl rfl rfl rfl (show (-2147483648 : Int) ≤ z9 ∧ z9 ≤ 2147483647 from q_61 gz9) (fun σ H Oₚ => ?_)
  have O := OUT_trans O Oₚ
  have cFu10 : SF oz_B1clsl_8 F (updF F 0 3 (z9)) := SF_upd (SF_refl) rfl
  have mFu10 := SFm_of cFu10 oz_B1cls_28
  refine Ew_of (pcₚ := 22) (fun _ => x_aload_n rfl rfl) ?_
  refine Ew_of (pcₚ := 23) (fun _ => x_dup rfl rfl) ?_
  refine v_g H (o := 0) (v := I (u0_4)) rfl rfl rfl rfl rfl (congrArg (fun z : Int => I z) ((eu0_4) : (updF F 0 3 (z9)) 0 4 = u0_4)) ?_
  refine Ew_of (pcₚ := 27) (fun _ => x_iload_n rfl rfl) ?_
  refine w_iadd rfl ?_
  refine v_p H (o := 0) (z := (u0_4 + a2)) (v := I ((u0_4 + a2))) rfl rfl rfl rfl rfl rfl rfl rfl (show (-2147483648 : Int) ≤ (u0_4 + a2) ∧ (u0_4 + a2) ≤ 2147483647 from q_2537 h3 h4) (fun σ H Oₚ => ?_)
  have O := OUT_trans O Oₚ
  have cFu11 : SF oz_B1clsl_8 F (updF (updF F 0 3 (z9)) 0 4 ((u0_4 + a2))) := SF_upd (cFu10) rfl
  have mFu11 := SFm_of cFu11 oz_B1cls_28
  suffices hl31 : ∀ (m : Nat), ∀ (ls : rO) (σ : rS) (F_31 : hF) (A_31 : hA) , rlook ls 0 = some (.ref (D 0)) → HW V164 σ D N F_31 A_31 → OUT (V164).length D N σE c s D N σ c s → SF [(0, 1), (0, 2), (0, 3), (0, 4)] (updF (updF F 0 3 (z9)) 0 4 ((u0_4 + a2))) F_31 → SA [1] A A_31 → ∀ y31_0_1 : Int, F_31 0 1 = y31_0_1 → ∀ y31_0_4 : Int, F_31 0 4 = y31_0_4 → (0 ≤ (y31_0_1) ∧ (y31_0_1) ≤ (n1) ∧ (n1) ≤ 65536) → ((u0_1) ≤ (y31_0_1)) → (0 ≤ (y31_0_4) ∧ (y31_0_4) ≤ 40) → ((y31_0_4)).toNat = m → Ew 164 (d + 0) 31 ls [] σ c s Q from
    hl31 _ _ _ _ _  (rfl) H O (SF_refl) (SA_refl)   (u0_1) ((eu0_1)) ((u0_4 + a2)) (rfl)  (show 0 ≤ (u0_1) ∧ (u0_1) ≤ (n1) ∧ (n1) ≤ 65536 from h2) (show (u0_1) ≤ (u0_1) from q_102) (show 0 ≤ ((u0_4 + a2)) ∧ ((u0_4 + a2)) ≤ 40 from q_2538 h3 h4) rfl
  as_aux_lemma =>
  intro m
  induction m using Nat.strongRecOn with
  | _ m ih31 =>
    intro ls σ F_31 A_31  l31_0 H O hS_31 hA_31   y31_0_1 ey31_0_1 y31_0_4 ey31_0_4  j31_0 j31_1 j31_2 hm31
    have cF_31 : SF oz_B1clsl_8 F F_31 := SF_trans (cFu11) hS_31 (any_sub (by decide +kernel))
    have mF_31 := SFm_of cF_31 oz_B1cls_28
    have cA_31 : SA oz_B1clsl_1 A A_31 := SA_trans (SA_refl) hA_31 (any_subA (by decide +kernel))
    have mA_31 := SAm_of cA_31 oz_B1cls_4
    have r12 : (-2147483648 : Int) ≤ y31_0_1 ∧ y31_0_1 ≤ 2147483647 := rngE (show (-2147483648 : Int) ≤ F_31 0 1 ∧ F_31 0 1 ≤ 2147483647 from H.krg 0 1 (ltn len_V164_oz_B1cls rfl)) (show F_31 0 1 = y31_0_1 from (ey31_0_1))
    have r13 : (-2147483648 : Int) ≤ y31_0_4 ∧ y31_0_4 ≤ 2147483647 := rngE (show (-2147483648 : Int) ≤ F_31 0 4 ∧ F_31 0 4 ≤ 2147483647 from H.krg 0 4 (ltn len_V164_oz_B1cls rfl)) (show F_31 0 4 = y31_0_4 from (ey31_0_4))
    refine Ew_of (pcₚ := 32) (fun _ => x_aload_n rfl l31_0) ?_
    refine v_g H (o := 0) (v := I (y31_0_4)) rfl rfl rfl rfl rfl (congrArg (fun z : Int => I z) ((ey31_0_4) : F_31 0 4 = y31_0_4)) ?_
    refine Ew_of (pcₚ := 37) (fun _ => x_bipush (z := 8) rfl (by decide)) ?_
    refine w_icmplt (t := 106) rfl rfl (show inr (y31_0_4) from q_2539 j31_2) (show inr (8) from q_96) (fun b14 => ?_) (fun b14 => ?_)
    · exact w_ret rfl (k _ _ _ H O (cF_31) (cA_31) (y31_0_1) ((ey31_0_1)) (y31_0_4) ((ey31_0_4)) (show 0 ≤ (y31_0_1) ∧ (y31_0_1) ≤ (n1) ∧ (n1) ≤ 65536 from j31_0) (show (u0_1) ≤ (y31_0_1) from j31_1) (show 0 ≤ (y31_0_4) ∧ (y31_0_4) ≤ 7 from q_2540 b14 j31_2))
    · refine Ew_of (pcₚ := 41) (fun _ => x_aload_n rfl l31_0) ?_
      refine v_g H (o := 0) (v := I (y31_0_1)) rfl rfl rfl rfl rfl (congrArg (fun z : Int => I z) ((ey31_0_1) : F_31 0 1 = y31_0_1)) ?_
      refine Ew_of (pcₚ := 45) (fun _ => x_aload_n rfl l31_0) ?_
      refine v_g H (o := 0) (v := .ref (D 1)) rfl rfl rfl rfl rfl (vrf ((mF_31 0 0 rfl).trans (pf1))) ?_
      refine v_len H (o := 1) rfl rfl rfl rfl (n := n1) (en1) ?_
      refine w_icmpge (t := 76) rfl rfl (show inr (y31_0_1) from q_884 j31_0) (show inr (n1) from q_2541 j31_0 r3) (fun b15 => ?_) (fun b15 => ?_)
      · refine Ew_of (pcₚ := 77) (fun _ => x_aload_n rfl l31_0) ?_
        refine Ew_of (pcₚ := 78) (fun _ => x_iconst rfl) ?_
        refine v_p H (o := 0) (z := 1) (v := I (1)) rfl rfl rfl rfl rfl rfl rfl (rfit_b (by omega)) (show (0 : Int) ≤ 1 ∧ 1 ≤ 1 from q_2146) (fun σ H Oₚ => ?_)
        have O := OUT_trans O Oₚ
        have cFu16 : SF oz_B1clsl_8 F (updF F_31 0 2 (1)) := SF_upd (cF_31) rfl
        have mFu16 := SFm_of cFu16 oz_B1cls_28
        refine Ew_of (pcₚ := 82) (fun _ => x_aload_n rfl l31_0) ?_
        refine Ew_of (pcₚ := 83) (fun _ => x_dup rfl rfl) ?_
        have r17 : (-2147483648 : Int) ≤ F_31 0 3 ∧ F_31 0 3 ≤ 2147483647 := H.krg 0 3 (ltn len_V164_oz_B1cls rfl)
        refine v_g H (o := 0) (v := I (F_31 0 3)) rfl rfl rfl rfl rfl (congrArg (fun z : Int => I z) (rfl : (updF F_31 0 2 (1)) 0 3 = F_31 0 3)) ?_
        refine Ew_of (pcₚ := 88) (fun _ => x_bipush (z := 8) rfl (by decide)) ?_
        refine w_iushrA rfl (fun z18 gz18 => ?_)
        refine v_p H (o := 0) (z := z18) (v := I (z18)) rfl rfl rfl rfl rfl rfl rfl rfl (show (-2147483648 : Int) ≤ z18 ∧ z18 ≤ 2147483647 from q_61 gz18) (fun σ H Oₚ => ?_)
        have O := OUT_trans O Oₚ
        have cFu19 : SF oz_B1clsl_8 F (updF (updF F_31 0 2 (1)) 0 3 (z18)) := SF_upd (cFu16) rfl
        have mFu19 := SFm_of cFu19 oz_B1cls_28
        refine Ew_of (pcₚ := 93) (fun _ => x_aload_n rfl l31_0) ?_
        refine Ew_of (pcₚ := 94) (fun _ => x_dup rfl rfl) ?_
        refine v_g H (o := 0) (v := I (y31_0_4)) rfl rfl rfl rfl rfl (congrArg (fun z : Int => I z) ((ey31_0_4) : (updF (updF F_31 0 2 (1)) 0 3 (z18)) 0 4 = y31_0_4)) ?_
        refine Ew_of (pcₚ := 99) (fun _ => x_bipush (z := 8) rfl (by decide)) ?_
        refine w_isub rfl ?_
        refine v_p H (o := 0) (z := (y31_0_4 - 8)) (v := I ((y31_0_4 - 8))) rfl rfl rfl rfl rfl rfl rfl rfl (show (-2147483648 : Int) ≤ (y31_0_4 - 8) ∧ (y31_0_4 - 8) ≤ 2147483647 from q_2542 b14 j31_2) (fun σ H Oₚ => ?_)
        have O := OUT_trans O Oₚ
        have cFu20 : SF oz_B1clsl_8 F (updF (updF (updF F_31 0 2 (1)) 0 3 (z18)) 0 4 ((y31_0_4 - 8))) := SF_upd (cFu19) rfl
        have mFu20 := SFm_of cFu20 oz_B1cls_28
        refine Ew_of (pcₚ := 31) (fun _ => x_goto rfl rfl) ?_
        exact ih31 _ (msE hm31 q_2544 (q_2545 b14)) _ _ _ _  (l31_0) H O (SF_upd (SF_upd (SF_upd (hS_31) rfl) rfl) rfl) (hA_31)   (y31_0_1) ((ey31_0_1)) ((y31_0_4 - 8)) (rfl)  (show 0 ≤ (y31_0_1) ∧ (y31_0_1) ≤ (n1) ∧ (n1) ≤ 65536 from j31_0) (show (u0_1) ≤ (y31_0_1) from j31_1) (show 0 ≤ ((y31_0_4 - 8)) ∧ ((y31_0_4 - 8)) ≤ 40 from q_2543 b14 j31_2) rfl
      · refine Ew_of (pcₚ := 53) (fun _ => x_aload_n rfl l31_0) ?_
        refine v_g H (o := 0) (v := .ref (D 1)) rfl rfl rfl rfl rfl (vrf ((mF_31 0 0 rfl).trans (pf1))) ?_
        refine Ew_of (pcₚ := 57) (fun _ => x_aload_n rfl l31_0) ?_
        refine Ew_of (pcₚ := 58) (fun _ => x_dup rfl rfl) ?_
        refine v_g H (o := 0) (v := I (y31_0_1)) rfl rfl rfl rfl rfl (congrArg (fun z : Int => I z) ((ey31_0_1) : F_31 0 1 = y31_0_1)) ?_
        refine Ew_of (pcₚ := 62) (fun _ => x_dup_x1 rfl rfl) ?_
        refine Ew_of (pcₚ := 63) (fun _ => x_iconst rfl) ?_
        refine w_iadd rfl ?_
        refine v_p H (o := 0) (z := (y31_0_1 + 1)) (v := I ((y31_0_1 + 1))) rfl rfl rfl rfl rfl rfl rfl rfl (show (-2147483648 : Int) ≤ (y31_0_1 + 1) ∧ (y31_0_1 + 1) ≤ 2147483647 from q_2513 b15 j31_0) (fun σ H Oₚ => ?_)
        have O := OUT_trans O Oₚ
        have cFu21 : SF oz_B1clsl_8 F (updF F_31 0 1 ((y31_0_1 + 1))) := SF_upd (cF_31) rfl
        have mFu21 := SFm_of cFu21 oz_B1cls_28
        refine Ew_of (pcₚ := 68) (fun _ => x_aload_n rfl l31_0) ?_
        have r22 : (-2147483648 : Int) ≤ F_31 0 3 ∧ F_31 0 3 ≤ 2147483647 := H.krg 0 3 (ltn len_V164_oz_B1cls rfl)
        refine v_g H (o := 0) (v := I (F_31 0 3)) rfl rfl rfl rfl rfl (congrArg (fun z : Int => I z) (rfl : (updF F_31 0 1 ((y31_0_1 + 1))) 0 3 = F_31 0 3)) ?_
        refine v_i2b rfl (fun z23 gz23 => ?_)
        refine v_sB H (o := 1) rfl rfl rfl rfl (n := n1) (en1) (show 0 ≤ y31_0_1 ∧ y31_0_1 < n1 from q_2514 b15 j31_0) (fun z24 σ qz24 H Oₚ => ?_)
        have O := OUT_trans O Oₚ
        have cAu25 : SA oz_B1clsl_1 A (updA A_31 1 (y31_0_1) (z24)) := SA_upd (cA_31) rfl
        have mAu25 := SAm_of cAu25 oz_B1cls_4
        refine Ew_of (pcₚ := 81) (fun _ => x_goto rfl rfl) ?_
        refine Ew_of (pcₚ := 82) (fun _ => x_aload_n rfl l31_0) ?_
        refine Ew_of (pcₚ := 83) (fun _ => x_dup rfl rfl) ?_
        refine v_g H (o := 0) (v := I (F_31 0 3)) rfl rfl rfl rfl rfl (congrArg (fun z : Int => I z) (rfl : (updF F_31 0 1 ((y31_0_1 + 1))) 0 3 = F_31 0 3)) ?_
        refine Ew_of (pcₚ := 88) (fun _ => x_bipush (z := 8) rfl (by decide)) ?_
        refine w_iushrA rfl (fun z26 gz26 => ?_)
        refine v_p H (o := 0) (z := z26) (v := I (z26)) rfl rfl rfl rfl rfl rfl rfl rfl (show (-2147483648 : Int) ≤ z26 ∧ z26 ≤ 2147483647 from q_61 gz26) (fun σ H Oₚ => ?_)
        have O := OUT_trans O Oₚ
        have cFu27 : SF oz_B1clsl_8 F (updF (updF F_31 0 1 ((y31_0_1 + 1))) 0 3 (z26)) := SF_upd (cFu21) rfl
        have mFu27 := SFm_of cFu27 oz_B1cls_28
        refine Ew_of (pcₚ := 93) (fun _ => x_aload_n rfl l31_0) ?_
        refine Ew_of (pcₚ := 94) (fun _ => x_dup rfl rfl) ?_
        refine v_g H (o := 0) (v := I (y31_0_4)) rfl rfl rfl rfl rfl (congrArg (fun z : Int => I z) ((ey31_0_4) : (updF (updF F_31 0 1 ((y31_0_1 + 1))) 0 3 (z26)) 0 4 = y31_0_4)) ?_
        refine Ew_of (pcₚ := 99) (fun _ => x_bipush (z := 8) rfl (by decide)) ?_
        refine w_isub rfl ?_
        refine v_p H (o := 0) (z := (y31_0_4 - 8)) (v := I ((y31_0_4 - 8))) rfl rfl rfl rfl rfl rfl rfl rfl (show (-2147483648 : Int) ≤ (y31_0_4 - 8) ∧ (y31_0_4 - 8) ≤ 2147483647 from q_2542 b14 j31_2) (fun σ H Oₚ => ?_)
        have O := OUT_trans O Oₚ
        have cFu28 : SF oz_B1clsl_8 F (updF (updF (updF F_31 0 1 ((y31_0_1 + 1))) 0 3 (z26)) 0 4 ((y31_0_4 - 8))) := SF_upd (cFu27) rfl
        have mFu28 := SFm_of cFu28 oz_B1cls_28
        refine Ew_of (pcₚ := 31) (fun _ => x_goto rfl rfl) ?_
        exact ih31 _ (msE hm31 q_2544 (q_2545 b14)) _ _ _ _  (l31_0) H O (SF_upd (SF_upd (SF_upd (hS_31) rfl) rfl) rfl) (SA_upd (hA_31) rfl)   ((y31_0_1 + 1)) (rfl) ((y31_0_4 - 8)) (rfl)  (show 0 ≤ ((y31_0_1 + 1)) ∧ ((y31_0_1 + 1)) ≤ (n1) ∧ (n1) ≤ 65536 from q_2515 b15 j31_0) (show (u0_1) ≤ ((y31_0_1 + 1)) from q_105 j31_1) (show 0 ≤ ((y31_0_4 - 8)) ∧ ((y31_0_4 - 8)) ≤ 40 from q_2543 b14 j31_2) rfl
abbrev V163_Row : vV := [(0, 7, [(4, 0), (0, 0), (1, 0), (0, 0), (0, 0)]), (0, 7, [(4, 0), (0, 0), (1, 0), (0, 0), (0, 0)]), (1, 0, []), (1, 0, [])]
theorem len_V163_Row_oz_B1cls : (V163_Row).length = 4 := by decide +kernel
theorem oz_B1cls_30 : vsub V163_Row V157 [0, 2] = true := by decide +kernel
theorem oz_B1cls_31 : vmov V163_Row [0, 2] [1] = true := by decide +kernel
/-- Row.copyBack: this, #1, this.bytes, #1.bytes -/
theorem C163_Row {σE : rS} {D N : Nat → Nat} {F : hF} {A : hA} {d c s : Nat} {Q : wQ} (H : HW V163_Row σE D N F A) {a1 a2 a3 : Int} (pf2 : F 0 0 = (D 2 : Int)) (pf3 : F 1 0 = (D 3 : Int)) (n2 : Int) (en2 : (N 2 : Int) = n2) (n3 : Int) (en3 : (N 3 : Int) = n3) (u0_1 : Int) (eu0_1 : F 0 1 = u0_1) (u1_1 : Int) (eu1_1 : F 1 1 = u1_1) (h0 : inr (a1)) (h1 : inr (a2)) (h2 : inr (a3)) (h3 : 0 ≤ (u0_1) ∧ (u0_1) ≤ (n2) ∧ (n2) ≤ 65536) (h4 : 0 ≤ (u1_1) ∧ (u1_1) ≤ (n3) ∧ (n3) ≤ 65536) (h5 : 0 ≤ (a3) ∧ (a3) ≤ (u0_1)) (h6 : (a2) < 0 ∨ 1 ≤ (a1) ∧ ((a1) ≤ (u0_1) - (a3) ∨ (a1) - ((u0_1) - (a3)) ≤ (u1_1))) (k : ∀ (σ : rS) (Dₚ Nₚ : Nat → Nat) (Fₚ : hF) (Aₚ : hA) (cₚ sₚ : Nat), HW V163_Row σ Dₚ Nₚ Fₚ Aₚ → OUT (V163_Row).length D N σE c s Dₚ Nₚ σ cₚ sₚ → SD [2] D Dₚ → SD [2] N Nₚ → SF [(0, 0), (0, 1), (0, 2)] F Fₚ → SA [2] A Aₚ → Fₚ 0 0 = (Dₚ 2 : Int) → ∀ m2 : Int, (Nₚ 2 : Int) = m2 → ∀ y0_1 : Int, Fₚ 0 1 = y0_1 → (0 ≤ (y0_1) ∧ (y0_1) ≤ (m2) ∧ (m2) ≤ 65536) → ((y0_1) = (u0_1) + (a2) ∧ 0 ≤ (a2) ∨ (y0_1) = (u0_1) ∧ ((a2) < 0 ∨ 65536 < (u0_1) + (a2))) → Q none σ cₚ sₚ) : Ew 163 (d + 2) 0 (rargs 0 [.ref (D 0), I a1, I a2, I a3, .ref (D 1)]) [] σE c s Q := by
  have O := OUT_refl (n := (V163_Row).length) (D := D) (N := N) (σ := σE) (c := c) (s := s)
  have HE := H
  have r1 : (-2147483648 : Int) ≤ u0_1 ∧ u0_1 ≤ 2147483647 := rngE (show (-2147483648 : Int) ≤ F 0 1 ∧ F 0 1 ≤ 2147483647 from H.krg 0 1 (ltn len_V163_Row_oz_B1cls rfl)) (show F 0 1 = u0_1 from (eu0_1))
  have r2 : (-2147483648 : Int) ≤ u1_1 ∧ u1_1 ≤ 2147483647 := rngE (show (-2147483648 : Int) ≤ F 1 1 ∧ F 1 1 ≤ 2147483647 from H.krg 1 1 (ltn len_V163_Row_oz_B1cls rfl)) (show F 1 1 = u1_1 from (eu1_1))
  have r3 : (0 : Int) ≤ n2 ∧ n2 ≤ 1000000 := nleE (H.nle 2 (ltn len_V163_Row_oz_B1cls rfl)) (show (N 2 : Int) = n2 from en2)
  have r4 : (0 : Int) ≤ n3 ∧ n3 ≤ 1000000 := nleE (H.nle 3 (ltn len_V163_Row_oz_B1cls rfl)) (show (N 3 : Int) = n3 from en3)
  refine Ew_of (pcₚ := 1) (fun _ => x_aload_n rfl rfl) ?_
  refine Ew_of (pcₚ := 2) (fun _ => x_iload_n rfl rfl) ?_
  refine v_inv H (o := 0) rfl rfl rfl rfl rfl rfl (by rfl) (C157 (D := puc 1024 D) (N := puc 1024 N) (HW_subc H oz_B1cls_30 oz_B1cls_13) (pf2) (n2) (en2) (u0_1) ((eu0_1)) (A 2) (rfl) (show inr (a2) from h1) (show 0 ≤ (u0_1) ∧ (u0_1) ≤ (n2) ∧ (n2) ≤ 65536 from h3) (fun z5 σ5 D5ₚ N5ₚ F5ₚ A5ₚ c5 s5 Hₚ Oₚ hD5 hN5 hS5 hA5 pm5_1 m5_1 em5_1 w5_1 ew5_1 pz5_0 pz5_1 pz5_2 pz5_3 pz5_4 => ⟨rretB rfl pz5_0, ?_⟩))
  refine v_backMc (c := c) (s := s) H oz_B1cls_30 oz_B1cls_13 Hₚ Oₚ hD5 oz_B1cls_31 (fun D5 N5 F5 A5 H Oₚ eD5 eN5 eF5 eA5 => ?_)
  have O := OUT_trans O Oₚ
  -- Row.reserve
  have cF5 : SF oz_B1clsl_0 F F5 := SF_trans (SF_refl) (SF_gluc (ι := oz_B1clsl_4) oz_B1cls_13 hS5 eF5 (by decide +kernel)) (any_sub (lₚ := [(0, 0)]) (by decide +kernel))
  have mF5 := SFm_of cF5 oz_B1cls_3
  have cA5 : SA oz_B1clsl_3 A A5 := SA_trans (SA_refl) (SA_gluc (ι := oz_B1clsl_4) oz_B1cls_13 hA5 eA5 (by decide +kernel)) (any_subA (lₚ := [2]) (by decide +kernel))
  have mA5 := SAm_of cA5 oz_B1cls_12
  have cD5 : SD oz_B1clsl_3 D D5 := SD_trans (SD_refl) (SD_gluc (ι := oz_B1clsl_4) oz_B1cls_13 hD5 eD5 (by decide +kernel)) (any_subA (lₚ := [2]) (by decide +kernel))
  have mD5 := SDm_of cD5 oz_B1cls_12
  have cN5 : SD oz_B1clsl_3 N N5 := SD_trans (SD_refl) (SD_gluc (ι := oz_B1clsl_4) oz_B1cls_13 hN5 eN5 (by decide +kernel)) (any_subA (lₚ := [2]) (by decide +kernel))
  have mN5 := SDm_of cN5 oz_B1cls_12
  have pf5_0_0 : F5 0 0 = (D5 2 : Int) := (eF5 0 0).trans (pm5_1.trans (congrArg (fun q : Nat => (q : Int)) (eD5 2).symm))
  have r6 : (0 : Int) ≤ m5_1 ∧ m5_1 ≤ 1000000 := nleE (H.nle 2 (ltn len_V163_Row_oz_B1cls rfl)) (show (N5 2 : Int) = m5_1 from (congrArg (fun q : Nat => (q : Int)) (eN5 2)).trans em5_1)
  refine w_ifne (t := 14) rfl rfl (show inr (z5) from q_15 pz5_0) (fun b7 => ?_) (fun b7 => ?_)
  · refine Ew_of (pcₚ := 15) (fun _ => x_iconst rfl) ?_
    refine Ew_of (pcₚ := 17) (fun _ => x_istore rfl) ?_
    suffices hl17 : ∀ (m : Nat), ∀ (ls : rO) (σ : rS) (F_17 : hF) (A_17 : hA) (x17_5 : Int), rlook ls 0 = some (.ref (D5 0)) → rlook ls 1 = some (I (a1)) → rlook ls 2 = some (I (a2)) → rlook ls 3 = some (I (a3)) → rlook ls 4 = some (.ref (D5 1)) → rlook ls 5 = some (I (x17_5)) → HW V163_Row σ D5 N5 F_17 A_17 → OUT (V163_Row).length D N σE c s D5 N5 σ (c + c5) (s + s5) → SF [(0, 1)] F5 F_17 → SA [2] A5 A_17 → ∀ y17_0_1 : Int, F_17 0 1 = y17_0_1 → (inr (x17_5)) → ((0) ≤ (x17_5)) → ((x17_5) ≤ (0) ∨ (x17_5) ≤ ((a2))) → ((y17_0_1) = (u0_1) + (x17_5)) → ((u0_1) + (a2) ≤ (m5_1) ∧ (m5_1) ≤ 65536) → (((a2)) - (x17_5)).toNat = m → Ew 163 (d + 2) 17 ls [] σ (c + c5) (s + s5) Q from
      hl17 _ _ _ _ _ (0) ((rk_o (rfl) rfl rfl).trans (congrArg (fun q : Nat => some (Value.ref q)) (mD5 0 rfl).symm)) (rk_o (rfl) rfl rfl) (rk_o (rfl) rfl rfl) (rk_o (rfl) rfl rfl) ((rk_o (rfl) rfl rfl).trans (congrArg (fun q : Nat => some (Value.ref q)) (mD5 1 rfl).symm)) (rk_s) H O (SF_refl) (SA_refl)   (u0_1) ((((show F5 0 1 = F 0 1 from (eF5 0 1).trans (hS5 0 1 rfl))).trans (eu0_1)))  (show inr (0) from q_20) (show (0) ≤ (0) from q_25) (show (0) ≤ (0) ∨ (0) ≤ ((a2)) from q_24) (show (u0_1) = (u0_1) + (0) from q_110) (show (u0_1) + (a2) ≤ (m5_1) ∧ (m5_1) ≤ 65536 by omega) rfl
    as_aux_lemma =>
    intro m
    induction m using Nat.strongRecOn with
    | _ m ih17 =>
      intro ls σ F_17 A_17 x17_5 l17_0 l17_1 l17_2 l17_3 l17_4 l17_5 H O hS_17 hA_17   y17_0_1 ey17_0_1  j17_0 j17_1 j17_2 j17_3 j17_4 hm17
      have cF_17 : SF oz_B1clsl_0 F F_17 := SF_trans (cF5) hS_17 (any_sub (by decide +kernel))
      have mF_17 := SFm_of cF_17 oz_B1cls_3
      have cA_17 : SA oz_B1clsl_3 A A_17 := SA_trans (cA5) hA_17 (any_subA (by decide +kernel))
      have mA_17 := SAm_of cA_17 oz_B1cls_12
      have r8 : (-2147483648 : Int) ≤ y17_0_1 ∧ y17_0_1 ≤ 2147483647 := rngE (show (-2147483648 : Int) ≤ F_17 0 1 ∧ F_17 0 1 ≤ 2147483647 from H.krg 0 1 (ltn len_V163_Row_oz_B1cls rfl)) (show F_17 0 1 = y17_0_1 from (ey17_0_1))
      refine Ew_of (pcₚ := 19) (fun _ => x_iload rfl l17_5) ?_
      refine Ew_of (pcₚ := 20) (fun _ => x_iload_n rfl l17_2) ?_
      refine w_icmpge (t := 85) rfl rfl (show inr (x17_5) from j17_0) (show inr (a2) from h1) (fun b9 => ?_) (fun b9 => ?_)
      · exact w_ret rfl (k _ _ _ _ _ _ _ H O (cD5) (cN5) (cF_17) (cA_17) (((hS_17 0 0 rfl)).trans (pf5_0_0)) (m5_1) ((congrArg (fun q : Nat => (q : Int)) (eN5 2)).trans em5_1) (y17_0_1) ((ey17_0_1)) (show 0 ≤ (y17_0_1) ∧ (y17_0_1) ≤ (m5_1) ∧ (m5_1) ≤ 65536 by omega) (show (y17_0_1) = (u0_1) + a2 ∧ 0 ≤ a2 ∨ (y17_0_1) = (u0_1) ∧ (a2 < 0 ∨ 65536 < (u0_1) + a2) by omega))
      · refine Ew_of (pcₚ := 24) (fun _ => x_aload_n rfl l17_0) ?_
        refine v_g H (o := 0) (v := I (y17_0_1)) rfl rfl rfl rfl rfl (congrArg (fun z : Int => I z) ((ey17_0_1) : F_17 0 1 = y17_0_1)) ?_
        refine Ew_of (pcₚ := 28) (fun _ => x_iload_n rfl l17_1) ?_
        refine w_isub rfl ?_
        refine Ew_of (pcₚ := 31) (fun _ => x_istore rfl) ?_
        refine Ew_of (pcₚ := 32) (fun _ => x_aload_n rfl (rk_o (l17_0) rfl rfl)) ?_
        refine v_g H (o := 0) (v := .ref (D5 2)) rfl rfl rfl rfl rfl (vrf (((hS_17 0 0 rfl)).trans (pf5_0_0))) ?_
        refine Ew_of (pcₚ := 36) (fun _ => x_aload_n rfl (rk_o (l17_0) rfl rfl)) ?_
        refine Ew_of (pcₚ := 37) (fun _ => x_dup rfl rfl) ?_
        refine v_g H (o := 0) (v := I (y17_0_1)) rfl rfl rfl rfl rfl (congrArg (fun z : Int => I z) ((ey17_0_1) : F_17 0 1 = y17_0_1)) ?_
        refine Ew_of (pcₚ := 41) (fun _ => x_dup_x1 rfl rfl) ?_
        refine Ew_of (pcₚ := 42) (fun _ => x_iconst rfl) ?_
        refine w_iadd rfl ?_
        refine v_p H (o := 0) (z := (y17_0_1 + 1)) (v := I ((y17_0_1 + 1))) rfl rfl rfl rfl rfl rfl rfl rfl (show (-2147483648 : Int) ≤ (y17_0_1 + 1) ∧ (y17_0_1 + 1) ≤ 2147483647 from q_2530 b9 j17_3 j17_4 r8) (fun σ H Oₚ => ?_)
        have O := OUT_trans O Oₚ
        have cFu10 : SF oz_B1clsl_0 F (updF F_17 0 1 ((y17_0_1 + 1))) := SF_upd (cF_17) rfl
        have mFu10 := SFm_of cFu10 oz_B1cls_3
        refine Ew_of (pcₚ := 48) (fun _ => x_iload rfl rk_s) ?_
        refine Ew_of (pcₚ := 49) (fun _ => x_iload_n rfl (rk_o (l17_3) rfl rfl)) ?_
        refine w_icmplt (t := 62) rfl rfl (show inr ((y17_0_1 - a1)) from q_2546 b9 h0 h6 j17_1 j17_3 j17_4 pz5_1 r8) (show inr (a3) from h2) (fun b11 => ?_) (fun b11 => ?_)
        · refine Ew_of (pcₚ := 64) (fun _ => x_aload rfl (rk_o (l17_4) rfl rfl)) ?_
          refine v_g H (o := 1) (v := .ref (D5 3)) rfl rfl rfl rfl rfl (vrf ((mFu10 1 0 rfl).trans ((pf3).trans (congrArg (fun q : Nat => (q : Int)) (mD5 3 rfl).symm)))) ?_
          refine Ew_of (pcₚ := 69) (fun _ => x_aload rfl (rk_o (l17_4) rfl rfl)) ?_
          refine v_g H (o := 1) (v := I (u1_1)) rfl rfl rfl rfl rfl (congrArg (fun z : Int => I z) (((mFu10 1 1 rfl).trans (eu1_1)) : (updF F_17 0 1 ((y17_0_1 + 1))) 1 1 = u1_1)) ?_
          refine Ew_of (pcₚ := 74) (fun _ => x_iload rfl rk_s) ?_
          refine w_iadd rfl ?_
          refine Ew_of (pcₚ := 76) (fun _ => x_iload_n rfl (rk_o (l17_3) rfl rfl)) ?_
          refine w_isub rfl ?_
          refine v_lB H (o := 3) rfl rfl rfl rfl (n := n3) ((congrArg (fun q : Nat => (q : Int)) (mN5 3 rfl)).trans (en3)) (show 0 ≤ ((u1_1 + (y17_0_1 - a1)) - a3) ∧ ((u1_1 + (y17_0_1 - a1)) - a3) < n3 from q_2547 b11 b9 h0 h4 h5 h6 j17_1 j17_3) (fun v12 ev12 qv12 => ?_)
          have ev12 : (A 3) (((u1_1 + (y17_0_1 - a1)) - a3)) = v12 := (congrFun (funext (mA_17 3 rfl)) (((u1_1 + (y17_0_1 - a1)) - a3))).symm.trans ev12
          refine v_sB H (o := 2) rfl rfl rfl rfl (n := m5_1) ((congrArg (fun q : Nat => (q : Int)) (eN5 2)).trans em5_1) (show 0 ≤ y17_0_1 ∧ y17_0_1 < m5_1 from q_2531 b9 j17_1 j17_3 j17_4 pz5_1) (fun z13 σ qz13 H Oₚ => ?_)
          have O := OUT_trans O Oₚ
          have cAu14 : SA oz_B1clsl_3 A (updA A_17 2 (y17_0_1) (z13)) := SA_upd (cA_17) rfl
          have mAu14 := SAm_of cAu14 oz_B1cls_12
          refine Ew_of (pcₚ := 82) (fun _ => x_iinc (len := 3) rfl (rk_o (l17_5) rfl rfl)) ?_
          refine Ew_of (pcₚ := 17) (fun _ => x_goto rfl rfl) ?_
          exact ih17 _ (msE hm17 q_31 (q_34 b9)) _ _ _ _ ((x17_5 + 1)) (rk_o (rk_o (l17_0) rfl rfl) rfl rfl) (rk_o (rk_o (l17_1) rfl rfl) rfl rfl) (rk_o (rk_o (l17_2) rfl rfl) rfl rfl) (rk_o (rk_o (l17_3) rfl rfl) rfl rfl) (rk_o (rk_o (l17_4) rfl rfl) rfl rfl) (rk_s) H O (SF_upd (hS_17) rfl) (SA_upd (hA_17) rfl)   ((y17_0_1 + 1)) (rfl)  (show inr ((x17_5 + 1)) from q_2532 b9 j17_1 j17_4 pz5_1) (show (0) ≤ ((x17_5 + 1)) from q_29 j17_1) (show ((x17_5 + 1)) ≤ (0) ∨ ((x17_5 + 1)) ≤ ((a2)) from q_33 b9) (show ((y17_0_1 + 1)) = (u0_1) + ((x17_5 + 1)) from q_302 j17_3) (show (u0_1) + (a2) ≤ (m5_1) ∧ (m5_1) ≤ 65536 from j17_4) rfl
        · refine Ew_of (pcₚ := 53) (fun _ => x_aload_n rfl (rk_o (l17_0) rfl rfl)) ?_
          refine v_g H (o := 0) (v := .ref (D5 2)) rfl rfl rfl rfl rfl (vrf (((hS_17 0 0 rfl)).trans (pf5_0_0))) ?_
          refine Ew_of (pcₚ := 58) (fun _ => x_iload rfl rk_s) ?_
          refine v_lB H (o := 2) rfl rfl rfl rfl (n := m5_1) ((congrArg (fun q : Nat => (q : Int)) (eN5 2)).trans em5_1) (show 0 ≤ (y17_0_1 - a1) ∧ (y17_0_1 - a1) < m5_1 by omega) (fun v15 ev15 qv15 => ?_)
          have ev15 : (A_17 2) ((y17_0_1 - a1)) = v15 := (congrFun (rfl : A_17 2 = A_17 2) ((y17_0_1 - a1))).symm.trans ev15
          refine Ew_of (pcₚ := 78) (fun _ => x_goto rfl rfl) ?_
          refine v_sB H (o := 2) rfl rfl rfl rfl (n := m5_1) ((congrArg (fun q : Nat => (q : Int)) (eN5 2)).trans em5_1) (show 0 ≤ y17_0_1 ∧ y17_0_1 < m5_1 from q_2531 b9 j17_1 j17_3 j17_4 pz5_1) (fun z16 σ qz16 H Oₚ => ?_)
          have O := OUT_trans O Oₚ
          have cAu17 : SA oz_B1clsl_3 A (updA A_17 2 (y17_0_1) (z16)) := SA_upd (cA_17) rfl
          have mAu17 := SAm_of cAu17 oz_B1cls_12
          refine Ew_of (pcₚ := 82) (fun _ => x_iinc (len := 3) rfl (rk_o (l17_5) rfl rfl)) ?_
          refine Ew_of (pcₚ := 17) (fun _ => x_goto rfl rfl) ?_
          exact ih17 _ (msE hm17 q_31 (q_34 b9)) _ _ _ _ ((x17_5 + 1)) (rk_o (rk_o (l17_0) rfl rfl) rfl rfl) (rk_o (rk_o (l17_1) rfl rfl) rfl rfl) (rk_o (rk_o (l17_2) rfl rfl) rfl rfl) (rk_o (rk_o (l17_3) rfl rfl) rfl rfl) (rk_o (rk_o (l17_4) rfl rfl) rfl rfl) (rk_s) H O (SF_upd (hS_17) rfl) (SA_upd (hA_17) rfl)   ((y17_0_1 + 1)) (rfl)  (show inr ((x17_5 + 1)) from q_2532 b9 j17_1 j17_4 pz5_1) (show (0) ≤ ((x17_5 + 1)) from q_29 j17_1) (show ((x17_5 + 1)) ≤ (0) ∨ ((x17_5 + 1)) ≤ ((a2)) from q_33 b9) (show ((y17_0_1 + 1)) = (u0_1) + ((x17_5 + 1)) from q_302 j17_3) (show (u0_1) + (a2) ≤ (m5_1) ∧ (m5_1) ≤ 65536 from j17_4) rfl
  · refine Ew_of (pcₚ := 9) (fun _ => x_aload_n rfl rfl) ?_
    refine Ew_of (pcₚ := 10) (fun _ => x_iconst rfl) ?_
    refine Ew_stk (congrArg (fun qz : Nat => ([I (1), .ref qz] : List Value)) (show D5 0 = D 0 from mD5 0 rfl).symm) ?_
    refine v_p H (o := 0) (z := 1) (v := I (1)) rfl rfl rfl rfl rfl rfl rfl (rfit_b (by omega)) (show (0 : Int) ≤ 1 ∧ 1 ≤ 1 from q_2146) (fun σ H Oₚ => ?_)
    have O := OUT_trans O Oₚ
    have cFu18 : SF oz_B1clsl_0 F (updF F5 0 2 (1)) := SF_upd (cF5) rfl
    have mFu18 := SFm_of cFu18 oz_B1cls_3
    exact w_ret rfl (k _ _ _ _ _ _ _ H O (cD5) (cN5) (cFu18) (cA5) (pf5_0_0) (m5_1) ((congrArg (fun q : Nat => (q : Int)) (eN5 2)).trans em5_1) (u0_1) ((((show F5 0 1 = F 0 1 from (eF5 0 1).trans (hS5 0 1 rfl))).trans (eu0_1))) (show 0 ≤ (u0_1) ∧ (u0_1) ≤ (m5_1) ∧ (m5_1) ≤ 65536 from pz5_1) (show (u0_1) = (u0_1) + a2 ∧ 0 ≤ a2 ∨ (u0_1) = (u0_1) ∧ (a2 < 0 ∨ 65536 < (u0_1) + a2) by omega))
abbrev V158_Row : vV := [(0, 7, [(4, 0), (0, 0), (1, 0), (0, 0), (0, 0)]), (0, 7, [(4, 0), (0, 0), (1, 0), (0, 0), (0, 0)]), (1, 0, []), (1, 0, [])]
theorem len_V158_Row_oz_B1cls : (V158_Row).length = 4 := by decide +kernel
theorem oz_B1cls_33 : vsub V158_Row V156 [0] = true := by decide +kernel
theorem oz_B1cls_34 : vsub V158_Row V161_Br [0, 3, 2] = true := by decide +kernel
theorem oz_B1cls_35 : vmov V158_Row [0, 3, 2] [2] = true := by decide +kernel
def oz_B1clsl_9 : List (Nat × Nat) := [(0, 0), (0, 1), (0, 2), (0, 3), (0, 4)]
theorem oz_B1cls_36 : (oz_B1clsl_9).all (fun p => !tbz 31 (Nat.add (Nat.mul 32 p.1) p.2)) = true := by decide +kernel
theorem oz_B1cls_37 : okc oz_B1clsl_6 0 = true := by decide +kernel
def oz_B1clsl_10 : List Nat := [0, 3, 2]
theorem oz_B1cls_38 : okc oz_B1clsl_10 525824 = true := by decide +kernel
/-- Row.become: this, #1, this.bytes, #1.bytes -/
theorem C158_Row {σE : rS} {D N : Nat → Nat} {F : hF} {A : hA} {d c s : Nat} {Q : wQ} (H : HW V158_Row σE D N F A)  (pf2 : F 0 0 = (D 2 : Int)) (pf3 : F 1 0 = (D 3 : Int)) (n2 : Int) (en2 : (N 2 : Int) = n2) (n3 : Int) (en3 : (N 3 : Int) = n3) (u0_1 : Int) (eu0_1 : F 0 1 = u0_1) (u1_1 : Int) (eu1_1 : F 1 1 = u1_1) (h0 : 0 ≤ (u0_1) ∧ (u0_1) ≤ (n2) ∧ (n2) ≤ 65536) (h1 : 0 ≤ (u1_1) ∧ (u1_1) ≤ (n3) ∧ (n3) ≤ 65536) (k : ∀ (σ : rS) (Dₚ Nₚ : Nat → Nat) (Fₚ : hF) (Aₚ : hA) (cₚ sₚ : Nat), HW V158_Row σ Dₚ Nₚ Fₚ Aₚ → OUT (V158_Row).length D N σE c s Dₚ Nₚ σ cₚ sₚ → SD [2] D Dₚ → SD [2] N Nₚ → SF [(0, 0), (0, 1), (0, 2), (0, 3), (0, 4)] F Fₚ → SA [2] A Aₚ → Fₚ 0 0 = (Dₚ 2 : Int) → ∀ m2 : Int, (Nₚ 2 : Int) = m2 → ∀ y0_1 : Int, Fₚ 0 1 = y0_1 → (0 ≤ (y0_1) ∧ (y0_1) ≤ (m2) ∧ (m2) ≤ 65536) → ((y0_1) = (u1_1)) → Q none σ cₚ sₚ) : Ew 158 (d + 3) 0 (rargs 0 [.ref (D 0), .ref (D 1)]) [] σE c s Q := by
  have O := OUT_refl (n := (V158_Row).length) (D := D) (N := N) (σ := σE) (c := c) (s := s)
  have HE := H
  have r1 : (-2147483648 : Int) ≤ u0_1 ∧ u0_1 ≤ 2147483647 := rngE (show (-2147483648 : Int) ≤ F 0 1 ∧ F 0 1 ≤ 2147483647 from H.krg 0 1 (ltn len_V158_Row_oz_B1cls rfl)) (show F 0 1 = u0_1 from (eu0_1))
  have r2 : (-2147483648 : Int) ≤ u1_1 ∧ u1_1 ≤ 2147483647 := rngE (show (-2147483648 : Int) ≤ F 1 1 ∧ F 1 1 ≤ 2147483647 from H.krg 1 1 (ltn len_V158_Row_oz_B1cls rfl)) (show F 1 1 = u1_1 from (eu1_1))
  have r3 : (0 : Int) ≤ n2 ∧ n2 ≤ 1000000 := nleE (H.nle 2 (ltn len_V158_Row_oz_B1cls rfl)) (show (N 2 : Int) = n2 from en2)
  have r4 : (0 : Int) ≤ n3 ∧ n3 ≤ 1000000 := nleE (H.nle 3 (ltn len_V158_Row_oz_B1cls rfl)) (show (N 3 : Int) = n3 from en3)
  refine Ew_of (pcₚ := 1) (fun _ => x_aload_n rfl rfl) ?_
  refine v_inv H (o := 0) rfl rfl rfl rfl rfl rfl (by rfl) (C156 (D := puc 0 D) (N := puc 0 N) (HW_subc H oz_B1cls_33 oz_B1cls_37) (u0_1) ((eu0_1))  (fun σ5 F5ₚ A5ₚ Hₚ Oₚ hS5 hA5 y5_0_1 ey5_0_1 pz5_0 => ⟨rfl, ?_⟩))
  refine v_backc (c := c) (s := s) H oz_B1cls_33 oz_B1cls_37 Hₚ Oₚ (fun F5 A5 H Oₚ eF5 eA5 => ?_)
  have O := OUT_trans O Oₚ
  -- Row.clear
  have cF5 : SF oz_B1clsl_9 F F5 := SF_trans (SF_refl) (SF_gluc (ι := oz_B1clsl_6) oz_B1cls_37 hS5 eF5 (by decide +kernel)) (any_sub (lₚ := [(0, 1), (0, 2), (0, 3), (0, 4)]) (by decide +kernel))
  have mF5 := SFm_of cF5 oz_B1cls_36
  have cA5 : SA oz_B1clsl_3 A A5 := SA_trans (SA_refl) (SA_gluc (ι := oz_B1clsl_6) oz_B1cls_37 hA5 eA5 (by decide +kernel)) (any_subA (lₚ := []) (by decide +kernel))
  have mA5 := SAm_of cA5 oz_B1cls_12
  have r6 : (-2147483648 : Int) ≤ y5_0_1 ∧ y5_0_1 ≤ 2147483647 := rngE (show (-2147483648 : Int) ≤ F5 0 1 ∧ F5 0 1 ≤ 2147483647 from H.krg 0 1 (ltn len_V158_Row_oz_B1cls rfl)) (show F5 0 1 = y5_0_1 from ((eF5 0 1).trans ey5_0_1))
  refine Ew_of (pcₚ := 5) (fun _ => x_aload_n rfl rfl) ?_
  refine Ew_of (pcₚ := 6) (fun _ => x_aload_n rfl rfl) ?_
  refine v_g H (o := 1) (v := .ref (D 3)) rfl rfl rfl rfl rfl (vrf ((mF5 1 0 rfl).trans (pf3))) ?_
  refine Ew_of (pcₚ := 10) (fun _ => x_iconst rfl) ?_
  refine Ew_of (pcₚ := 11) (fun _ => x_aload_n rfl rfl) ?_
  refine v_g H (o := 1) (v := I (u1_1)) rfl rfl rfl rfl rfl (congrArg (fun z : Int => I z) (((mF5 1 1 rfl).trans (eu1_1)) : F5 1 1 = u1_1)) ?_
  refine v_inv H (o := 0) rfl rfl rfl rfl rfl rfl (by rfl) (C161_Br (D := puc 525824 D) (N := puc 525824 N) (HW_subc H oz_B1cls_34 oz_B1cls_38) ((((show F5 0 0 = F 0 0 from (eF5 0 0).trans (hS5 0 0 rfl)))).trans (pf2)) (n3) (en3) (n2) (en2) (y5_0_1) (((eF5 0 1).trans ey5_0_1)) (A 2) ((show A5 2 = A 2 from (eA5 2))) (show inr (0) from q_20) (show inr (u1_1) from q_884 h1) (show 0 ≤ (y5_0_1) ∧ (y5_0_1) ≤ (n2) ∧ (n2) ≤ 65536 from q_2549 h0 pz5_0 r3) (show (u1_1) < 0 ∨ 0 ≤ (0) ∧ (0) + (u1_1) ≤ (n3) from q_2548 h1) (fun σ7 D7ₚ N7ₚ F7ₚ A7ₚ c7 s7 Hₚ Oₚ hD7 hN7 hS7 hA7 pm7_2 m7_2 em7_2 y7_0_1 ey7_0_1 w7_2 ew7_2 pz7_0 pz7_1 pz7_2 => ⟨rfl, ?_⟩))
  refine v_backMc (c := c) (s := s) H oz_B1cls_34 oz_B1cls_38 Hₚ Oₚ hD7 oz_B1cls_35 (fun D7 N7 F7 A7 H Oₚ eD7 eN7 eF7 eA7 => ?_)
  have O := OUT_trans O Oₚ
  -- Row.addPart
  have cF7 : SF oz_B1clsl_9 F F7 := SF_trans (cF5) (SF_gluc (ι := oz_B1clsl_10) oz_B1cls_38 hS7 eF7 (by decide +kernel)) (any_sub (lₚ := [(0, 0), (0, 1), (0, 2)]) (by decide +kernel))
  have mF7 := SFm_of cF7 oz_B1cls_36
  have cA7 : SA oz_B1clsl_3 A A7 := SA_trans (cA5) (SA_gluc (ι := oz_B1clsl_10) oz_B1cls_38 hA7 eA7 (by decide +kernel)) (any_subA (lₚ := [2]) (by decide +kernel))
  have mA7 := SAm_of cA7 oz_B1cls_12
  have cD7 : SD oz_B1clsl_3 D D7 := SD_trans (SD_refl) (SD_gluc (ι := oz_B1clsl_10) oz_B1cls_38 hD7 eD7 (by decide +kernel)) (any_subA (lₚ := [2]) (by decide +kernel))
  have mD7 := SDm_of cD7 oz_B1cls_12
  have cN7 : SD oz_B1clsl_3 N N7 := SD_trans (SD_refl) (SD_gluc (ι := oz_B1clsl_10) oz_B1cls_38 hN7 eN7 (by decide +kernel)) (any_subA (lₚ := [2]) (by decide +kernel))
  have mN7 := SDm_of cN7 oz_B1cls_12
  have pf7_0_0 : F7 0 0 = (D7 2 : Int) := (eF7 0 0).trans (pm7_2.trans (congrArg (fun q : Nat => (q : Int)) (eD7 2).symm))
  have r8 : (0 : Int) ≤ m7_2 ∧ m7_2 ≤ 1000000 := nleE (H.nle 2 (ltn len_V158_Row_oz_B1cls rfl)) (show (N7 2 : Int) = m7_2 from (congrArg (fun q : Nat => (q : Int)) (eN7 2)).trans em7_2)
  have r9 : (-2147483648 : Int) ≤ y7_0_1 ∧ y7_0_1 ≤ 2147483647 := rngE (show (-2147483648 : Int) ≤ F7 0 1 ∧ F7 0 1 ≤ 2147483647 from H.krg 0 1 (ltn len_V158_Row_oz_B1cls rfl)) (show F7 0 1 = y7_0_1 from ((eF7 0 1).trans ey7_0_1))
  exact w_ret rfl (k _ _ _ _ _ _ _ H O (cD7) (cN7) (cF7) (cA7) (pf7_0_0) (m7_2) ((congrArg (fun q : Nat => (q : Int)) (eN7 2)).trans em7_2) (y7_0_1) (((eF7 0 1).trans ey7_0_1)) (show 0 ≤ (y7_0_1) ∧ (y7_0_1) ≤ (m7_2) ∧ (m7_2) ≤ 65536 from pz7_0) (show (y7_0_1) = (u1_1) from q_2550 h1 pz5_0 pz7_0 pz7_1))
