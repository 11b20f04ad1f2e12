section
/-! B1.cls -/
abbrev V159 : vV := [(0, 7, [(4, 0), (0, 0), (1, 0), (0, 0), (0, 0)]), (1, 0, [])]
theorem len_V159_oz_B1cls : (V159).length = 2 := by decide +kernel
theorem oz_B1cls_1 : vsub V159 V157 [0, 1] = true := by decide +kernel
theorem oz_B1cls_2 : vmov V159 [0, 1] [1] = true := by decide +kernel
def oz_B1clsl_0 : List (Nat × Nat) := [(0, 0), (0, 1), (0, 2)]
theorem oz_B1cls_3 : (oz_B1clsl_0).all (fun p => !tbz 7 (Nat.add (Nat.mul 32 p.1) p.2)) = true := by decide +kernel
def oz_B1clsl_1 : List Nat := [1]
theorem oz_B1cls_4 : (oz_B1clsl_1).all (fun p => !tbz 2 p) = true := by decide +kernel
def oz_B1clsl_2 : List Nat := [0, 1]
theorem oz_B1cls_5 : okc oz_B1clsl_2 512 = true := by decide +kernel

theorem C159 {σE : rS} {D N : Nat → Nat} {F : hF} {A : hA} {d c s : Nat} {Q : wQ} (H : HW V159 σE D N F A) {a1 : Int} (pf1 : F 0 0 = (D 1 : Int)) (n1 : Int) (en1 : (N 1 : Int) = n1) (u0_1 : Int) (eu0_1 : F 0 1 = u0_1) (u0_2 : Int) (eu0_2 : F 0 2 = u0_2) (w1 : Int → Int) (ew1 : A 1 = w1) (h0 : inr (a1)) (h1 : 0 ≤ (u0_1) ∧ (u0_1) ≤ (n1) ∧ (n1) ≤ 65536) (k : ∀ (σ : rS) (Dₚ Nₚ : Nat → Nat) (Fₚ : hF) (Aₚ : hA) (cₚ sₚ : Nat), HW V159 σ Dₚ Nₚ Fₚ Aₚ → OUT (V159).length D N σE c s Dₚ Nₚ σ cₚ sₚ → SD [1] D Dₚ → SD [1] N Nₚ → SF [(0, 0), (0, 1), (0, 2)] F Fₚ → SA [1] A Aₚ → Fₚ 0 0 = (Dₚ 1 : Int) → ∀ m1 : Int, (Nₚ 1 : Int) = m1 → ∀ y0_1 : Int, Fₚ 0 1 = y0_1 → ∀ y0_2 : Int, Fₚ 0 2 = y0_2 → ∀ v1 : Int → Int, Aₚ 1 = v1 → (0 ≤ (y0_1) ∧ (y0_1) ≤ (m1) ∧ (m1) ≤ 65536) → ((y0_1) = (u0_1) + 1 ∧ 0 ≤ 1 ∨ (y0_1) = (u0_1) ∧ (1 < 0 ∨ 65536 < (u0_1) + 1)) → ((n1) ≤ (m1)) → (RAP ((u0_2)) ((w1)) ((u0_1)) ((y0_2)) ((v1)) ((y0_1)) ([u8 ((a1))])) → Q none σ cₚ sₚ) : Ew 159 (d + 2) 0 (rargs 0 [.ref (D 0), I a1]) [] σE c s Q := by
  have O := OUT_refl (n := (V159).length) (D := D) (N := N) (σ := σE) (c := c) (s := s)
  have HE := H
  have r1 : (-2147483648 : Int) ≤ u0_1 ∧ u0_1 ≤ 2147483647 := rngE (show (-2147483648 : Int) ≤ F 0 1 ∧ F 0 1 ≤ 2147483647 from H.krg 0 1 (ltn len_V159_oz_B1cls rfl)) (show F 0 1 = u0_1 from (eu0_1))
  have r2 : (0 : Int) ≤ u0_2 ∧ u0_2 ≤ 1 := rngE (show (0 : Int) ≤ F 0 2 ∧ F 0 2 ≤ 1 from H.krg 0 2 (ltn len_V159_oz_B1cls rfl)) (show F 0 2 = u0_2 from (eu0_2))
  have r3 : (0 : Int) ≤ n1 ∧ n1 ≤ 1000000 := nleE (H.nle 1 (ltn len_V159_oz_B1cls rfl)) (show (N 1 : Int) = n1 from en1)
  refine Ew_of (pcₚ := 1) (fun _ => x_aload_n rfl rfl) ?_
  refine v_g H (o := 0) (v := I (u0_1)) rfl rfl rfl rfl rfl (congrArg (fun z : Int => I z) ((eu0_1) : F 0 1 = u0_1)) ?_
  refine Ew_of (pcₚ := 5) (fun _ => x_aload_n rfl rfl) ?_
  refine v_g H (o := 0) (v := .ref (D 1)) rfl rfl rfl rfl rfl (vrf (pf1)) ?_
  refine v_len H (o := 1) rfl rfl rfl rfl (n := n1) (en1) ?_
  refine w_icmplt (t := 20) rfl rfl (show inr (u0_1) from q_38 h1) (show inr (n1) from q_37 r3) (fun b4 => ?_) (fun b4 => ?_)
  · refine Ew_of (pcₚ := 21) (fun _ => x_aload_n rfl rfl) ?_
    refine v_g H (o := 0) (v := .ref (D 1)) rfl rfl rfl rfl rfl (vrf (pf1)) ?_
    refine Ew_of (pcₚ := 25) (fun _ => x_aload_n rfl rfl) ?_
    refine Ew_of (pcₚ := 26) (fun _ => x_dup rfl rfl) ?_
    refine v_g H (o := 0) (v := I (u0_1)) rfl rfl rfl rfl rfl (congrArg (fun z : Int => I z) ((eu0_1) : F 0 1 = u0_1)) ?_
    refine Ew_of (pcₚ := 30) (fun _ => x_dup_x1 rfl rfl) ?_
    refine Ew_of (pcₚ := 31) (fun _ => x_iconst rfl) ?_
    refine w_iadd rfl ?_
    refine v_p H (o := 0) (z := (u0_1 + 1)) (v := I ((u0_1 + 1))) rfl rfl rfl rfl rfl rfl rfl rfl (show (-2147483648 : Int) ≤ (u0_1 + 1) ∧ (u0_1 + 1) ≤ 2147483647 from q_40 b4 h1) (fun σ H Oₚ => ?_)
    have O := OUT_trans O Oₚ
    have cFu5 : SF oz_B1clsl_0 F (updF F 0 1 ((u0_1 + 1))) := SF_upd (SF_refl) rfl
    have mFu5 := SFm_of cFu5 oz_B1cls_3
    refine Ew_of (pcₚ := 36) (fun _ => x_iload_n rfl rfl) ?_
    refine v_i2b rfl (fun z6 gz6 uz6 => ?_)
    have hu := uz6
    refine v_sB H (o := 1) rfl rfl rfl rfl (n := n1) (en1) (show 0 ≤ u0_1 ∧ u0_1 < n1 from q_41 b4 h1) (fun z7 σ qz7 uz7 H Oₚ => ?_)
    have O := OUT_trans O Oₚ
    have cAu8 : SA oz_B1clsl_1 A (updA A 1 (u0_1) (z7)) := SA_upd (SA_refl) rfl
    have mAu8 := SAm_of cAu8 oz_B1cls_4
    have hus := uz7
    refine Ew_of (pcₚ := 46) (fun _ => x_goto rfl rfl) ?_
    have : RAP ((u0_2)) ((w1)) ((u0_1)) ((u0_2)) ((upd1 (w1) (u0_1) (z7))) (((u0_1 + 1))) ([u8 ((a1))]) := by first | exact RAP_byte (by omega) (by omega) (fun i a b => upd1_o (by omega)) (by rw [upd1_s, hus]; exact hu) | exact RAP_byte (by omega) (by omega) (fun i a b => (upd1_o (by omega)).trans (hsr i a b)) (by rw [upd1_s, hus]; exact hu) | exact RAP_burst (by omega) (by simp only [List.length_cons, List.length_nil]; omega)
    exact w_ret rfl (k _ _ _ _ _ _ _ H O (SD_refl) (SD_refl) (cFu5) (cAu8) (pf1) (n1) (en1) ((u0_1 + 1)) (rfl) (u0_2) ((eu0_2)) (upd1 (w1) (u0_1) (z7)) (congrArg (fun q => upd1 q (u0_1) (z7)) (ew1)) (show 0 ≤ ((u0_1 + 1)) ∧ ((u0_1 + 1)) ≤ (n1) ∧ (n1) ≤ 65536 from q_42 b4 h1) (show ((u0_1 + 1)) = (u0_1) + 1 ∧ 0 ≤ 1 ∨ ((u0_1 + 1)) = (u0_1) ∧ (1 < 0 ∨ 65536 < (u0_1) + 1) by first | exact q_2922 | omega) (show (n1) ≤ (n1) from q_43) (show RAP ((u0_2)) ((w1)) ((u0_1)) ((u0_2)) ((upd1 (w1) (u0_1) (z7))) (((u0_1 + 1))) ([u8 (a1)]) by assumption))
  · refine Ew_of (pcₚ := 13) (fun _ => x_aload_n rfl rfl) ?_
    refine Ew_of (pcₚ := 14) (fun _ => x_iconst rfl) ?_
    refine v_inv H (o := 0) rfl rfl rfl rfl rfl rfl (by rfl) (C157 (D := puc 512 D) (N := puc 512 N) (HW_subc H oz_B1cls_1 oz_B1cls_5) (pf1) (n1) (en1) (u0_1) ((eu0_1)) (w1) (ew1) (show inr (1) from q_135) (show 0 ≤ (u0_1) ∧ (u0_1) ≤ (n1) ∧ (n1) ≤ 65536 from h1) (fun z9 σ9 D9ₚ N9ₚ F9ₚ A9ₚ c9 s9 Hₚ Oₚ hD9 hN9 hS9 hA9 pm9_1 m9_1 em9_1 w9_1 ew9_1 pz9_0 pz9_1 pz9_2 pz9_3 pz9_4 => ⟨rretB rfl pz9_0, ?_⟩))
    refine v_backMc (c := c) (s := s) H oz_B1cls_1 oz_B1cls_5 Hₚ Oₚ hD9 oz_B1cls_2 (fun D9 N9 F9 A9 H Oₚ eD9 eN9 eF9 eA9 => ?_)
    have O := OUT_trans O Oₚ
    -- Row.reserve
    have cF9 : SF oz_B1clsl_0 F F9 := SF_trans (SF_refl) (SF_gluc (ι := oz_B1clsl_2) oz_B1cls_5 hS9 eF9 (by decide +kernel)) (any_sub (lₚ := [(0, 0)]) (by decide +kernel))
    have mF9 := SFm_of cF9 oz_B1cls_3
    have cA9 : SA oz_B1clsl_1 A A9 := SA_trans (SA_refl) (SA_gluc (ι := oz_B1clsl_2) oz_B1cls_5 hA9 eA9 (by decide +kernel)) (any_subA (lₚ := [1]) (by decide +kernel))
    have mA9 := SAm_of cA9 oz_B1cls_4
    have cD9 : SD oz_B1clsl_1 D D9 := SD_trans (SD_refl) (SD_gluc (ι := oz_B1clsl_2) oz_B1cls_5 hD9 eD9 (by decide +kernel)) (any_subA (lₚ := [1]) (by decide +kernel))
    have mD9 := SDm_of cD9 oz_B1cls_4
    have cN9 : SD oz_B1clsl_1 N N9 := SD_trans (SD_refl) (SD_gluc (ι := oz_B1clsl_2) oz_B1cls_5 hN9 eN9 (by decide +kernel)) (any_subA (lₚ := [1]) (by decide +kernel))
    have mN9 := SDm_of cN9 oz_B1cls_4
    have pf9_0_0 : F9 0 0 = (D9 1 : Int) := (eF9 0 0).trans (pm9_1.trans (congrArg (fun q : Nat => (q : Int)) (eD9 1).symm))
    have r10 : (0 : Int) ≤ m9_1 ∧ m9_1 ≤ 1000000 := nleE (H.nle 1 (ltn len_V159_oz_B1cls rfl)) (show (N9 1 : Int) = m9_1 from (congrArg (fun q : Nat => (q : Int)) (eN9 1)).trans em9_1)
    have hsr := pz9_4
    refine w_ifeq (t := 41) rfl rfl (show inr (z9) from q_138 pz9_0) (fun b11 => ?_) (fun b11 => ?_)
    · refine Ew_of (pcₚ := 42) (fun _ => x_aload_n rfl rfl) ?_
      refine Ew_of (pcₚ := 43) (fun _ => x_iconst rfl) ?_
      refine Ew_stk (congrArg (fun qz : Nat => ([I (1), .ref qz] : List Value)) (show D9 0 = D 0 from mD9 0 rfl).symm) ?_
      refine v_p H (o := 0) (z := 1) (v := I (1)) rfl rfl rfl rfl rfl rfl rfl (rfit_b (by omega)) (show (0 : Int) ≤ 1 ∧ 1 ≤ 1 from q_35) (fun σ H Oₚ => ?_)
      have O := OUT_trans O Oₚ
      have cFu12 : SF oz_B1clsl_0 F (updF F9 0 2 (1)) := SF_upd (cF9) rfl
      have mFu12 := SFm_of cFu12 oz_B1cls_3
      have : RAP ((u0_2)) ((w1)) ((u0_1)) ((1)) ((w9_1)) ((u0_1)) ([u8 ((a1))]) := by first | exact RAP_byte (by omega) (by omega) (fun i a b => upd1_o (by omega)) (by rw [upd1_s, hus]; exact hu) | exact RAP_byte (by omega) (by omega) (fun i a b => (upd1_o (by omega)).trans (hsr i a b)) (by rw [upd1_s, hus]; exact hu) | exact RAP_burst (by omega) (by simp only [List.length_cons, List.length_nil]; omega)
      exact w_ret rfl (k _ _ _ _ _ _ _ H O (cD9) (cN9) (cFu12) (cA9) (pf9_0_0) (m9_1) ((congrArg (fun q : Nat => (q : Int)) (eN9 1)).trans em9_1) (u0_1) ((((show F9 0 1 = F 0 1 from (eF9 0 1).trans (hS9 0 1 rfl))).trans (eu0_1))) (1) (rfl) (w9_1) ((eA9 1).trans ew9_1) (show 0 ≤ (u0_1) ∧ (u0_1) ≤ (m9_1) ∧ (m9_1) ≤ 65536 from pz9_1) (show (u0_1) = (u0_1) + 1 ∧ 0 ≤ 1 ∨ (u0_1) = (u0_1) ∧ (1 < 0 ∨ 65536 < (u0_1) + 1) by omega) (show (n1) ≤ (m9_1) from pz9_3) (show RAP ((u0_2)) ((w1)) ((u0_1)) ((1)) ((w9_1)) ((u0_1)) ([u8 (a1)]) by assumption))
    · refine Ew_of (pcₚ := 21) (fun _ => x_aload_n rfl rfl) ?_
      refine Ew_stk (congrArg (fun qz : Nat => ([.ref qz] : List Value)) (show D9 0 = D 0 from mD9 0 rfl).symm) ?_
      refine v_g H (o := 0) (v := .ref (D9 1)) rfl rfl rfl rfl rfl (vrf (pf9_0_0)) ?_
      refine Ew_of (pcₚ := 25) (fun _ => x_aload_n rfl rfl) ?_
      refine Ew_of (pcₚ := 26) (fun _ => x_dup rfl rfl) ?_
      refine Ew_stk (show ([.ref (D 0), .ref (D 0), .ref (D9 1)] : List Value) = [.ref (D9 0), .ref (D9 0), .ref (D9 1)] by rw [show D9 0 = D 0 from mD9 0 rfl]) ?_
      refine v_g H (o := 0) (v := I (u0_1)) rfl rfl rfl rfl rfl (congrArg (fun z : Int => I z) ((((show F9 0 1 = F 0 1 from (eF9 0 1).trans (hS9 0 1 rfl))).trans (eu0_1)) : F9 0 1 = u0_1)) ?_
      refine Ew_of (pcₚ := 30) (fun _ => x_dup_x1 rfl rfl) ?_
      refine Ew_of (pcₚ := 31) (fun _ => x_iconst rfl) ?_
      refine w_iadd rfl ?_
      refine v_p H (o := 0) (z := (u0_1 + 1)) (v := I ((u0_1 + 1))) rfl rfl rfl rfl rfl rfl rfl rfl (show (-2147483648 : Int) ≤ (u0_1 + 1) ∧ (u0_1 + 1) ≤ 2147483647 from q_2923 pz9_1) (fun σ H Oₚ => ?_)
      have O := OUT_trans O Oₚ
      have cFu13 : SF oz_B1clsl_0 F (updF F9 0 1 ((u0_1 + 1))) := SF_upd (cF9) rfl
      have mFu13 := SFm_of cFu13 oz_B1cls_3
      refine Ew_of (pcₚ := 36) (fun _ => x_iload_n rfl rfl) ?_
      refine v_i2b rfl (fun z14 gz14 uz14 => ?_)
      have hu := uz14
      refine v_sB H (o := 1) rfl rfl rfl rfl (n := m9_1) ((congrArg (fun q : Nat => (q : Int)) (eN9 1)).trans em9_1) (show 0 ≤ u0_1 ∧ u0_1 < m9_1 by omega) (fun z15 σ qz15 uz15 H Oₚ => ?_)
      have O := OUT_trans O Oₚ
      have cAu16 : SA oz_B1clsl_1 A (updA A9 1 (u0_1) (z15)) := SA_upd (cA9) rfl
      have mAu16 := SAm_of cAu16 oz_B1cls_4
      have hus := uz15
      refine Ew_of (pcₚ := 46) (fun _ => x_goto rfl rfl) ?_
      have : RAP ((u0_2)) ((w1)) ((u0_1)) ((u0_2)) ((upd1 (w9_1) (u0_1) (z15))) (((u0_1 + 1))) ([u8 ((a1))]) := by first | exact RAP_byte (by omega) (by omega) (fun i a b => upd1_o (by omega)) (by rw [upd1_s, hus]; exact hu) | exact RAP_byte (by omega) (by omega) (fun i a b => (upd1_o (by omega)).trans (hsr i a b)) (by rw [upd1_s, hus]; exact hu) | exact RAP_burst (by omega) (by simp only [List.length_cons, List.length_nil]; omega)
      exact w_ret rfl (k _ _ _ _ _ _ _ H O (cD9) (cN9) (cFu13) (cAu16) (pf9_0_0) (m9_1) ((congrArg (fun q : Nat => (q : Int)) (eN9 1)).trans em9_1) ((u0_1 + 1)) (rfl) (u0_2) ((((show F9 0 2 = F 0 2 from (eF9 0 2).trans (hS9 0 2 rfl))).trans (eu0_2))) (upd1 (w9_1) (u0_1) (z15)) (congrArg (fun q => upd1 q (u0_1) (z15)) ((eA9 1).trans ew9_1)) (show 0 ≤ ((u0_1 + 1)) ∧ ((u0_1 + 1)) ≤ (m9_1) ∧ (m9_1) ≤ 65536 by omega) (show ((u0_1 + 1)) = (u0_1) + 1 ∧ 0 ≤ 1 ∨ ((u0_1 + 1)) = (u0_1) ∧ (1 < 0 ∨ 65536 < (u0_1) + 1) by first | exact q_2922 | omega) (show (n1) ≤ (m9_1) from pz9_3) (show RAP ((u0_2)) ((w1)) ((u0_1)) ((u0_2)) ((upd1 (w9_1) (u0_1) (z15))) (((u0_1 + 1))) ([u8 (a1)]) by assumption))
abbrev V160 : vV := [(0, 7, [(4, 0), (0, 0), (1, 0), (0, 0), (0, 0)]), (1, 0, [])]
theorem len_V160_oz_B1cls : (V160).length = 2 := by decide +kernel
theorem oz_B1cls_7 : vsub V160 V157 [0, 1] = true := by decide +kernel
theorem oz_B1cls_8 : vmov V160 [0, 1] [1] = true := by decide +kernel

theorem C160 {σE : rS} {D N : Nat → Nat} {F : hF} {A : hA} {d c s : Nat} {Q : wQ} (H : HW V160 σE D N F A) {a1 a2 : Int} (pf1 : F 0 0 = (D 1 : Int)) (n1 : Int) (en1 : (N 1 : Int) = n1) (u0_1 : Int) (eu0_1 : F 0 1 = u0_1) (u0_2 : Int) (eu0_2 : F 0 2 = u0_2) (w1 : Int → Int) (ew1 : A 1 = w1) (h0 : inrJ (a1)) (h1 : inr (a2)) (h2 : 0 ≤ (u0_1) ∧ (u0_1) ≤ (n1) ∧ (n1) ≤ 65536) (h3 : 0 ≤ (a2) ∧ (a2) ≤ 8) (k : ∀ (σ : rS) (Dₚ Nₚ : Nat → Nat) (Fₚ : hF) (Aₚ : hA) (cₚ sₚ : Nat), HW V160 σ Dₚ Nₚ Fₚ Aₚ → OUT (V160).length D N σE c s Dₚ Nₚ σ cₚ sₚ → SD [1] D Dₚ → SD [1] N Nₚ → SF [(0, 0), (0, 1), (0, 2)] F Fₚ → SA [1] A Aₚ → Fₚ 0 0 = (Dₚ 1 : Int) → ∀ m1 : Int, (Nₚ 1 : Int) = m1 → ∀ y0_1 : Int, Fₚ 0 1 = y0_1 → ∀ y0_2 : Int, Fₚ 0 2 = y0_2 → ∀ v1 : Int → Int, Aₚ 1 = v1 → (0 ≤ (y0_1) ∧ (y0_1) ≤ (m1) ∧ (m1) ≤ 65536) → ((y0_1) = (u0_1) + (a2) ∧ 0 ≤ (a2) ∨ (y0_1) = (u0_1) ∧ ((a2) < 0 ∨ 65536 < (u0_1) + (a2))) → (RAP ((u0_2)) ((w1)) ((u0_1)) ((y0_2)) ((v1)) ((y0_1)) (nb ((a1)) ((a2)))) → Q none σ cₚ sₚ) : Ew 160 (d + 2) 0 (rargs 0 [.ref (D 0), J a1, I a2]) [] σE c s Q := by
  have O := OUT_refl (n := (V160).length) (D := D) (N := N) (σ := σE) (c := c) (s := s)
  have HE := H
  have r1 : (-2147483648 : Int) ≤ u0_1 ∧ u0_1 ≤ 2147483647 := rngE (show (-2147483648 : Int) ≤ F 0 1 ∧ F 0 1 ≤ 2147483647 from H.krg 0 1 (ltn len_V160_oz_B1cls rfl)) (show F 0 1 = u0_1 from (eu0_1))
  have r2 : (0 : Int) ≤ u0_2 ∧ u0_2 ≤ 1 := rngE (show (0 : Int) ≤ F 0 2 ∧ F 0 2 ≤ 1 from H.krg 0 2 (ltn len_V160_oz_B1cls rfl)) (show F 0 2 = u0_2 from (eu0_2))
  have r3 : (0 : Int) ≤ n1 ∧ n1 ≤ 1000000 := nleE (H.nle 1 (ltn len_V160_oz_B1cls rfl)) (show (N 1 : Int) = n1 from en1)
  refine Ew_of (pcₚ := 1) (fun _ => x_aload_n rfl rfl) ?_
  refine Ew_of (pcₚ := 2) (fun _ => x_iload_n rfl rfl) ?_
  refine v_inv H (o := 0) rfl rfl rfl rfl rfl rfl (by rfl) (C157 (D := puc 512 D) (N := puc 512 N) (HW_subc H oz_B1cls_7 oz_B1cls_5) (pf1) (n1) (en1) (u0_1) ((eu0_1)) (w1) (ew1) (show inr (a2) from h1) (show 0 ≤ (u0_1) ∧ (u0_1) ≤ (n1) ∧ (n1) ≤ 65536 from h2) (fun z4 σ4 D4ₚ N4ₚ F4ₚ A4ₚ c4 s4 Hₚ Oₚ hD4 hN4 hS4 hA4 pm4_1 m4_1 em4_1 w4_1 ew4_1 pz4_0 pz4_1 pz4_2 pz4_3 pz4_4 => ⟨rretB rfl pz4_0, ?_⟩))
  refine v_backMc (c := c) (s := s) H oz_B1cls_7 oz_B1cls_5 Hₚ Oₚ hD4 oz_B1cls_8 (fun D4 N4 F4 A4 H Oₚ eD4 eN4 eF4 eA4 => ?_)
  have O := OUT_trans O Oₚ
  -- Row.reserve
  have cF4 : SF oz_B1clsl_0 F F4 := SF_trans (SF_refl) (SF_gluc (ι := oz_B1clsl_2) oz_B1cls_5 hS4 eF4 (by decide +kernel)) (any_sub (lₚ := [(0, 0)]) (by decide +kernel))
  have mF4 := SFm_of cF4 oz_B1cls_3
  have cA4 : SA oz_B1clsl_1 A A4 := SA_trans (SA_refl) (SA_gluc (ι := oz_B1clsl_2) oz_B1cls_5 hA4 eA4 (by decide +kernel)) (any_subA (lₚ := [1]) (by decide +kernel))
  have mA4 := SAm_of cA4 oz_B1cls_4
  have cD4 : SD oz_B1clsl_1 D D4 := SD_trans (SD_refl) (SD_gluc (ι := oz_B1clsl_2) oz_B1cls_5 hD4 eD4 (by decide +kernel)) (any_subA (lₚ := [1]) (by decide +kernel))
  have mD4 := SDm_of cD4 oz_B1cls_4
  have cN4 : SD oz_B1clsl_1 N N4 := SD_trans (SD_refl) (SD_gluc (ι := oz_B1clsl_2) oz_B1cls_5 hN4 eN4 (by decide +kernel)) (any_subA (lₚ := [1]) (by decide +kernel))
  have mN4 := SDm_of cN4 oz_B1cls_4
  have pf4_0_0 : F4 0 0 = (D4 1 : Int) := (eF4 0 0).trans (pm4_1.trans (congrArg (fun q : Nat => (q : Int)) (eD4 1).symm))
  have r5 : (0 : Int) ≤ m4_1 ∧ m4_1 ≤ 1000000 := nleE (H.nle 1 (ltn len_V160_oz_B1cls rfl)) (show (N4 1 : Int) = m4_1 from (congrArg (fun q : Nat => (q : Int)) (eN4 1)).trans em4_1)
  have hsr := pz4_4
  refine w_ifne (t := 14) rfl rfl (show inr (z4) from q_138 pz4_0) (fun b6 => ?_) (fun b6 => ?_)
  · refine Ew_of (pcₚ := 15) (fun _ => x_iconst rfl) ?_
    refine Ew_of (pcₚ := 17) (fun _ => x_istore rfl) ?_
    have : RAP ((u0_2)) ((w1)) ((u0_1)) ((u0_2)) ((w4_1)) ((u0_1)) (nb ((a1)) 0) := RAP_same hsr
    suffices hl17 : ∀ (m : Nat), ∀ (ls : rO) (σ : rS) (F_17 : hF) (A_17 : hA) (x17_4 : Int), rlook ls 0 = some (.ref (D4 0)) → rlook ls 1 = some (J (a1)) → rlook ls 3 = some (I (a2)) → rlook ls 4 = some (I (x17_4)) → HW V160 σ D4 N4 F_17 A_17 → OUT (V160).length D N σE c s D4 N4 σ (c + c4) (s + s4) → SF [(0, 1)] F4 F_17 → SA [1] A4 A_17 → ∀ y17_0_1 : Int, F_17 0 1 = y17_0_1 → ∀ w17_1 : Int → Int, A_17 1 = w17_1 → (inr (x17_4)) → ((0) ≤ (x17_4)) → ((x17_4) ≤ (0) ∨ (x17_4) ≤ ((a2))) → ((y17_0_1) = (u0_1) + (x17_4)) → ((u0_1) + (a2) ≤ (m4_1) ∧ (m4_1) ≤ 65536) → (RAP ((u0_2)) ((w1)) ((u0_1)) ((u0_2)) ((w17_1)) ((y17_0_1)) (nb ((a1)) ((x17_4)))) → (((a2)) - (x17_4)).toNat = m → Ew 160 (d + 2) 17 ls [] σ (c + c4) (s + s4) Q from
      hl17 _ _ _ _ _ (0) ((rk_o (rfl) rfl rfl).trans (congrArg (fun q : Nat => some (Value.ref q)) (mD4 0 rfl).symm)) (rk_o (rfl) rfl rfl) (rk_o (rfl) rfl rfl) (rk_s) H O (SF_refl) (SA_refl)   (u0_1) ((((show F4 0 1 = F 0 1 from (eF4 0 1).trans (hS4 0 1 rfl))).trans (eu0_1))) (w4_1) ((eA4 1).trans ew4_1) (show inr (0) from q_2) (show (0) ≤ (0) from q_1) (show (0) ≤ (0) ∨ (0) ≤ ((a2)) from q_5) (show (u0_1) = (u0_1) + (0) from q_365) (show (u0_1) + (a2) ≤ (m4_1) ∧ (m4_1) ≤ 65536 by omega) (show RAP ((u0_2)) ((w1)) ((u0_1)) ((u0_2)) ((w4_1)) ((u0_1)) (nb ((a1)) ((0))) by assumption) rfl
    as_aux_lemma =>
    intro m
    induction m using Nat.strongRecOn with
    | _ m ih17 =>
      intro ls σ F_17 A_17 x17_4 l17_0 l17_1 l17_3 l17_4 H O hS_17 hA_17   y17_0_1 ey17_0_1 w17_1 ew17_1 j17_0 j17_1 j17_2 j17_3 j17_4 j17_5 hm17
      have cF_17 : SF oz_B1clsl_0 F F_17 := SF_trans (cF4) hS_17 (any_sub (by decide +kernel))
      have mF_17 := SFm_of cF_17 oz_B1cls_3
      have cA_17 : SA oz_B1clsl_1 A A_17 := SA_trans (cA4) hA_17 (any_subA (by decide +kernel))
      have mA_17 := SAm_of cA_17 oz_B1cls_4
      have r7 : (-2147483648 : Int) ≤ y17_0_1 ∧ y17_0_1 ≤ 2147483647 := rngE (show (-2147483648 : Int) ≤ F_17 0 1 ∧ F_17 0 1 ≤ 2147483647 from H.krg 0 1 (ltn len_V160_oz_B1cls rfl)) (show F_17 0 1 = y17_0_1 from (ey17_0_1))
      have j17_r : RAP ((u0_2)) ((w1)) ((u0_1)) ((u0_2)) ((w17_1)) ((y17_0_1)) (nb ((a1)) ((x17_4))) := j17_5
      refine Ew_of (pcₚ := 19) (fun _ => x_iload rfl l17_4) ?_
      refine Ew_of (pcₚ := 20) (fun _ => x_iload_n rfl l17_3) ?_
      refine w_icmpge (t := 54) rfl rfl (show inr (x17_4) from j17_0) (show inr (a2) from h1) (fun b8 => ?_) (fun b8 => ?_)
      · have : RAP ((u0_2)) ((w1)) ((u0_1)) ((u0_2)) ((w17_1)) ((y17_0_1)) (nb ((a1)) ((a2))) := by rw [show (a2) = (x17_4) by omega]; exact j17_r
        exact w_ret rfl (k _ _ _ _ _ _ _ H O (cD4) (cN4) (cF_17) (cA_17) (((hS_17 0 0 rfl)).trans (pf4_0_0)) (m4_1) ((congrArg (fun q : Nat => (q : Int)) (eN4 1)).trans em4_1) (y17_0_1) ((ey17_0_1)) (u0_2) ((((hS_17 0 2 rfl).trans ((show F4 0 2 = F 0 2 from (eF4 0 2).trans (hS4 0 2 rfl)))).trans (eu0_2))) (w17_1) (ew17_1) (show 0 ≤ (y17_0_1) ∧ (y17_0_1) ≤ (m4_1) ∧ (m4_1) ≤ 65536 by omega) (show (y17_0_1) = (u0_1) + a2 ∧ 0 ≤ a2 ∨ (y17_0_1) = (u0_1) ∧ (a2 < 0 ∨ 65536 < (u0_1) + a2) by omega) (show RAP ((u0_2)) ((w1)) ((u0_1)) ((u0_2)) ((w17_1)) ((y17_0_1)) (nb (a1) (a2)) by assumption))
      · refine Ew_of (pcₚ := 24) (fun _ => x_aload_n rfl l17_0) ?_
        refine v_g H (o := 0) (v := .ref (D4 1)) rfl rfl rfl rfl rfl (vrf (((hS_17 0 0 rfl)).trans (pf4_0_0))) ?_
        refine Ew_of (pcₚ := 28) (fun _ => x_aload_n rfl l17_0) ?_
        refine Ew_of (pcₚ := 29) (fun _ => x_dup rfl rfl) ?_
        refine v_g H (o := 0) (v := I (y17_0_1)) rfl rfl rfl rfl rfl (congrArg (fun z : Int => I z) ((ey17_0_1) : F_17 0 1 = y17_0_1)) ?_
        refine Ew_of (pcₚ := 33) (fun _ => x_dup_x1 rfl rfl) ?_
        refine Ew_of (pcₚ := 34) (fun _ => x_iconst rfl) ?_
        refine w_iadd rfl ?_
        refine v_p H (o := 0) (z := (y17_0_1 + 1)) (v := I ((y17_0_1 + 1))) rfl rfl rfl rfl rfl rfl rfl rfl (show (-2147483648 : Int) ≤ (y17_0_1 + 1) ∧ (y17_0_1 + 1) ≤ 2147483647 from q_2924 b8 j17_3 j17_4 r7) (fun σ H Oₚ => ?_)
        have O := OUT_trans O Oₚ
        have cFu9 : SF oz_B1clsl_0 F (updF F_17 0 1 ((y17_0_1 + 1))) := SF_upd (cF_17) rfl
        have mFu9 := SFm_of cFu9 oz_B1cls_3
        refine Ew_of (pcₚ := 39) (fun _ => x_lload_n rfl l17_1) ?_
        refine Ew_of (pcₚ := 41) (fun _ => x_bipush (z := 8) rfl (by decide)) ?_
        refine Ew_of (pcₚ := 43) (fun _ => x_iload rfl l17_4) ?_
        refine w_imul rfl ?_
        refine v_lushrY (k := (8 * x17_4)) rfl (by omega) (fun z10 gz10 uz10 => ?_)
        have hu1 := uz10
        refine w_l2i rfl ?_
        refine v_i2b rfl (fun z11 gz11 uz11 => ?_)
        have hu2 := uz11
        refine v_sB H (o := 1) rfl rfl rfl rfl (n := m4_1) ((congrArg (fun q : Nat => (q : Int)) (eN4 1)).trans em4_1) (show 0 ≤ y17_0_1 ∧ y17_0_1 < m4_1 from q_2925 b8 j17_1 j17_3 j17_4 pz4_1) (fun z12 σ qz12 uz12 H Oₚ => ?_)
        have O := OUT_trans O Oₚ
        have cAu13 : SA oz_B1clsl_1 A (updA A_17 1 (y17_0_1) (z12)) := SA_upd (cA_17) rfl
        have mAu13 := SAm_of cAu13 oz_B1cls_4
        have hus := uz12
        refine Ew_of (pcₚ := 51) (fun _ => x_iinc (len := 3) rfl (l17_4)) ?_
        refine Ew_of (pcₚ := 17) (fun _ => x_goto rfl rfl) ?_
        have : RAP ((u0_2)) ((w1)) ((u0_1)) ((u0_2)) ((upd1 (w17_1) (y17_0_1) (z12))) (((y17_0_1 + 1))) (nb ((a1)) (((x17_4 + 1)))) := by rw [nb_s (by omega) rfl]; exact RAP_trans j17_r (RAP_byte (by omega) (by omega) (fun i a b => upd1_o (by omega)) (by rw [upd1_s, hus, hu2, hu1]))
        exact ih17 _ (msE hm17 q_16 (q_17 b8)) _ _ _ _ ((x17_4 + 1)) (rk_o (l17_0) rfl rfl) (rk_o (l17_1) rfl rfl) (rk_o (l17_3) rfl rfl) (rk_s) H O (SF_upd (hS_17) rfl) (SA_upd (hA_17) rfl)   ((y17_0_1 + 1)) (rfl) (upd1 (w17_1) (y17_0_1) (z12)) (congrArg (fun q => upd1 q (y17_0_1) (z12)) (ew17_1)) (show inr ((x17_4 + 1)) from q_507 b8 h3 j17_1) (show (0) ≤ ((x17_4 + 1)) from q_14 j17_1) (show ((x17_4 + 1)) ≤ (0) ∨ ((x17_4 + 1)) ≤ ((a2)) from q_13 b8) (show ((y17_0_1 + 1)) = (u0_1) + ((x17_4 + 1)) from q_541 j17_3) (show (u0_1) + (a2) ≤ (m4_1) ∧ (m4_1) ≤ 65536 from j17_4) (show RAP ((u0_2)) ((w1)) ((u0_1)) ((u0_2)) ((upd1 (w17_1) (y17_0_1) (z12))) (((y17_0_1 + 1))) (nb ((a1)) (((x17_4 + 1)))) by assumption) rfl
  · refine Ew_of (pcₚ := 9) (fun _ => x_aload_n rfl rfl) ?_
    refine Ew_of (pcₚ := 10) (fun _ => x_iconst rfl) ?_
    refine Ew_stk (congrArg (fun qz : Nat => ([I (1), .ref qz] : List Value)) (show D4 0 = D 0 from mD4 0 rfl).symm) ?_
    refine v_p H (o := 0) (z := 1) (v := I (1)) rfl rfl rfl rfl rfl rfl rfl (rfit_b (by omega)) (show (0 : Int) ≤ 1 ∧ 1 ≤ 1 from q_35) (fun σ H Oₚ => ?_)
    have O := OUT_trans O Oₚ
    have cFu14 : SF oz_B1clsl_0 F (updF F4 0 2 (1)) := SF_upd (cF4) rfl
    have mFu14 := SFm_of cFu14 oz_B1cls_3
    have : RAP ((u0_2)) ((w1)) ((u0_1)) ((1)) ((w4_1)) ((u0_1)) (nb ((a1)) ((a2))) := RAP_burst (by omega) (by rw [nb_len]; omega)
    exact w_ret rfl (k _ _ _ _ _ _ _ H O (cD4) (cN4) (cFu14) (cA4) (pf4_0_0) (m4_1) ((congrArg (fun q : Nat => (q : Int)) (eN4 1)).trans em4_1) (u0_1) ((((show F4 0 1 = F 0 1 from (eF4 0 1).trans (hS4 0 1 rfl))).trans (eu0_1))) (1) (rfl) (w4_1) ((eA4 1).trans ew4_1) (show 0 ≤ (u0_1) ∧ (u0_1) ≤ (m4_1) ∧ (m4_1) ≤ 65536 from pz4_1) (show (u0_1) = (u0_1) + a2 ∧ 0 ≤ a2 ∨ (u0_1) = (u0_1) ∧ (a2 < 0 ∨ 65536 < (u0_1) + a2) by omega) (show RAP ((u0_2)) ((w1)) ((u0_1)) ((1)) ((w4_1)) ((u0_1)) (nb (a1) (a2)) by assumption))
abbrev V161_Br : vV := [(0, 7, [(4, 0), (0, 0), (1, 0), (0, 0), (0, 0)]), (1, 0, []), (1, 0, [])]
theorem len_V161_Br_oz_B1cls : (V161_Br).length = 3 := by decide +kernel
theorem oz_B1cls_10 : vsub V161_Br V157 [0, 2] = true := by decide +kernel
theorem oz_B1cls_11 : vmov V161_Br [0, 2] [1] = true := by decide +kernel
def oz_B1clsl_3 : List Nat := [2]
theorem oz_B1cls_12 : (oz_B1clsl_3).all (fun p => !tbz 4 p) = true := by decide +kernel
def oz_B1clsl_4 : List Nat := [0, 2]
theorem oz_B1cls_13 : okc oz_B1clsl_4 1024 = true := by decide +kernel

theorem C161_Br {σE : rS} {D N : Nat → Nat} {F : hF} {A : hA} {d c s : Nat} {Q : wQ} (H : HW V161_Br σE D N F A) {a2 a3 : Int} (pf2 : F 0 0 = (D 2 : Int)) (n1 : Int) (en1 : (N 1 : Int) = n1) (n2 : Int) (en2 : (N 2 : Int) = n2) (u0_1 : Int) (eu0_1 : F 0 1 = u0_1) (u0_2 : Int) (eu0_2 : F 0 2 = u0_2) (w1 : Int → Int) (ew1 : A 1 = w1) (w2 : Int → Int) (ew2 : A 2 = w2) (h0 : inr (a2)) (h1 : inr (a3)) (h2 : 0 ≤ (u0_1) ∧ (u0_1) ≤ (n2) ∧ (n2) ≤ 65536) (h3 : (a3) < 0 ∨ 0 ≤ (a2) ∧ (a2) + (a3) ≤ (n1)) (k : ∀ (σ : rS) (Dₚ Nₚ : Nat → Nat) (Fₚ : hF) (Aₚ : hA) (cₚ sₚ : Nat), HW V161_Br σ Dₚ Nₚ Fₚ Aₚ → OUT (V161_Br).length D N σE c s Dₚ Nₚ σ cₚ sₚ → SD [2] D Dₚ → SD [2] N Nₚ → SF [(0, 0), (0, 1), (0, 2)] F Fₚ → SA [2] A Aₚ → Fₚ 0 0 = (Dₚ 2 : Int) → ∀ m2 : Int, (Nₚ 2 : Int) = m2 → ∀ y0_1 : Int, Fₚ 0 1 = y0_1 → ∀ y0_2 : Int, Fₚ 0 2 = y0_2 → ∀ v2 : Int → Int, Aₚ 2 = v2 → (0 ≤ (y0_1) ∧ (y0_1) ≤ (m2) ∧ (m2) ≤ 65536) → ((y0_1) = (u0_1) + (a3) ∧ 0 ≤ (a3) ∨ (y0_1) = (u0_1) ∧ ((a3) < 0 ∨ 65536 < (u0_1) + (a3))) → (∀ i, (0 : Int) ≤ i → i < (u0_1) → ((v2)) i = ((w2)) i) → (IMP ((0 : Int) ≤ (a3)) (RAP ((u0_2)) ((w2)) ((u0_1)) ((y0_2)) ((v2)) ((y0_1)) (sc ((w1)) ((a2)) ((a2) + (a3))))) → Q none σ cₚ sₚ) : Ew 161 (d + 2) 0 (rargs 0 [.ref (D 0), .ref (D 1), I a2, I a3]) [] σE c s Q := by
  have O := OUT_refl (n := (V161_Br).length) (D := D) (N := N) (σ := σE) (c := c) (s := s)
  have HE := H
  have r1 : (-2147483648 : Int) ≤ u0_1 ∧ u0_1 ≤ 2147483647 := rngE (show (-2147483648 : Int) ≤ F 0 1 ∧ F 0 1 ≤ 2147483647 from H.krg 0 1 (ltn len_V161_Br_oz_B1cls rfl)) (show F 0 1 = u0_1 from (eu0_1))
  have r2 : (0 : Int) ≤ u0_2 ∧ u0_2 ≤ 1 := rngE (show (0 : Int) ≤ F 0 2 ∧ F 0 2 ≤ 1 from H.krg 0 2 (ltn len_V161_Br_oz_B1cls rfl)) (show F 0 2 = u0_2 from (eu0_2))
  have r3 : (0 : Int) ≤ n1 ∧ n1 ≤ 1000000 := nleE (H.nle 1 (ltn len_V161_Br_oz_B1cls rfl)) (show (N 1 : Int) = n1 from en1)
  have r4 : (0 : Int) ≤ n2 ∧ n2 ≤ 1000000 := nleE (H.nle 2 (ltn len_V161_Br_oz_B1cls rfl)) (show (N 2 : Int) = n2 from en2)
  refine Ew_of (pcₚ := 1) (fun _ => x_aload_n rfl rfl) ?_
  refine Ew_of (pcₚ := 2) (fun _ => x_iload_n rfl rfl) ?_
  refine v_inv H (o := 0) rfl rfl rfl rfl rfl rfl (by rfl) (C157 (D := puc 1024 D) (N := puc 1024 N) (HW_subc H oz_B1cls_10 oz_B1cls_13) (pf2) (n2) (en2) (u0_1) ((eu0_1)) (w2) (ew2) (show inr (a3) from h1) (show 0 ≤ (u0_1) ∧ (u0_1) ≤ (n2) ∧ (n2) ≤ 65536 from h2) (fun z5 σ5 D5ₚ N5ₚ F5ₚ A5ₚ c5 s5 Hₚ Oₚ hD5 hN5 hS5 hA5 pm5_1 m5_1 em5_1 w5_1 ew5_1 pz5_0 pz5_1 pz5_2 pz5_3 pz5_4 => ⟨rretB rfl pz5_0, ?_⟩))
  refine v_backMc (c := c) (s := s) H oz_B1cls_10 oz_B1cls_13 Hₚ Oₚ hD5 oz_B1cls_11 (fun D5 N5 F5 A5 H Oₚ eD5 eN5 eF5 eA5 => ?_)
  have O := OUT_trans O Oₚ
  -- Row.reserve
  have cF5 : SF oz_B1clsl_0 F F5 := SF_trans (SF_refl) (SF_gluc (ι := oz_B1clsl_4) oz_B1cls_13 hS5 eF5 (by decide +kernel)) (any_sub (lₚ := [(0, 0)]) (by decide +kernel))
  have mF5 := SFm_of cF5 oz_B1cls_3
  have cA5 : SA oz_B1clsl_3 A A5 := SA_trans (SA_refl) (SA_gluc (ι := oz_B1clsl_4) oz_B1cls_13 hA5 eA5 (by decide +kernel)) (any_subA (lₚ := [2]) (by decide +kernel))
  have mA5 := SAm_of cA5 oz_B1cls_12
  have cD5 : SD oz_B1clsl_3 D D5 := SD_trans (SD_refl) (SD_gluc (ι := oz_B1clsl_4) oz_B1cls_13 hD5 eD5 (by decide +kernel)) (any_subA (lₚ := [2]) (by decide +kernel))
  have mD5 := SDm_of cD5 oz_B1cls_12
  have cN5 : SD oz_B1clsl_3 N N5 := SD_trans (SD_refl) (SD_gluc (ι := oz_B1clsl_4) oz_B1cls_13 hN5 eN5 (by decide +kernel)) (any_subA (lₚ := [2]) (by decide +kernel))
  have mN5 := SDm_of cN5 oz_B1cls_12
  have pf5_0_0 : F5 0 0 = (D5 2 : Int) := (eF5 0 0).trans (pm5_1.trans (congrArg (fun q : Nat => (q : Int)) (eD5 2).symm))
  have r6 : (0 : Int) ≤ m5_1 ∧ m5_1 ≤ 1000000 := nleE (H.nle 2 (ltn len_V161_Br_oz_B1cls rfl)) (show (N5 2 : Int) = m5_1 from (congrArg (fun q : Nat => (q : Int)) (eN5 2)).trans em5_1)
  have hsr := pz5_4
  refine w_ifne (t := 14) rfl rfl (show inr (z5) from q_138 pz5_0) (fun b7 => ?_) (fun b7 => ?_)
  · refine Ew_of (pcₚ := 15) (fun _ => x_aload_n rfl rfl) ?_
    refine Ew_of (pcₚ := 16) (fun _ => x_iload_n rfl rfl) ?_
    refine Ew_of (pcₚ := 17) (fun _ => x_aload_n rfl rfl) ?_
    refine Ew_stk (show ([.ref (D 0), I (a2), .ref (D 1)] : List Value) = [.ref (D5 0), I (a2), .ref (D5 1)] by rw [show D5 0 = D 0 from mD5 0 rfl, show D5 1 = D 1 from mD5 1 rfl]) ?_
    refine v_g H (o := 0) (v := .ref (D5 2)) rfl rfl rfl rfl rfl (vrf (pf5_0_0)) ?_
    refine Ew_of (pcₚ := 21) (fun _ => x_aload_n rfl rfl) ?_
    refine Ew_stk (congrArg (fun qz : Nat => ([.ref qz, .ref (D5 2), I (a2), .ref (D5 1)] : List Value)) (show D5 0 = D 0 from mD5 0 rfl).symm) ?_
    refine v_g H (o := 0) (v := I (u0_1)) rfl rfl rfl rfl rfl (congrArg (fun z : Int => I z) ((((show F5 0 1 = F 0 1 from (eF5 0 1).trans (hS5 0 1 rfl))).trans (eu0_1)) : F5 0 1 = u0_1)) ?_
    refine Ew_of (pcₚ := 25) (fun _ => x_iload_n rfl rfl) ?_
    refine v_cpy H (t := 2) (t0 := 1) rfl rfl rfl rfl rfl rfl rfl rfl (n := m5_1) ((congrArg (fun q : Nat => (q : Int)) (eN5 2)).trans em5_1) (n0 := n1) ((congrArg (fun q : Nat => (q : Int)) (mN5 1 rfl)).trans (en1)) (show 0 ≤ a3 ∧ 0 ≤ u0_1 ∧ 0 ≤ a2 ∧ a2 + a3 ≤ n1 ∧ u0_1 + a3 ≤ m5_1 by omega) (fun σ A8 H Oₚ hA8 ga8 gb8 => ?_)
    have gb8 : ∀ i, i < u0_1 ∨ u0_1 + a3 ≤ i → A8 2 i = (w5_1) i := fun i a => (gb8 i a).trans (congrFun ((eA5 2).trans ew5_1) i)
    have ga8 : ∀ i, u0_1 ≤ i → i < u0_1 + a3 → A8 2 i = (w1) (a2 + (i - u0_1)) := fun i a b => (ga8 i a b).trans (congrFun ((funext (mA5 1 rfl)).trans (ew1)) _)
    have O := OUT_trans O Oₚ
    have cA8 : SA oz_B1clsl_3 A A8 := SA_trans (cA5) hA8 (any_subA (by decide +kernel))
    have mA8 := SAm_of cA8 oz_B1cls_12
    have hsm : ∀ i, (0 : Int) ≤ i → i < (u0_1) → ((A8 2)) i = ((w2)) i := fun i a b => (gb8 i (by omega)).trans (hsr i a b)
    have hcq := ga8
    refine Ew_of (pcₚ := 29) (fun _ => x_aload_n rfl rfl) ?_
    refine Ew_of (pcₚ := 30) (fun _ => x_dup rfl rfl) ?_
    refine Ew_stk (show ([.ref (D 0), .ref (D 0)] : List Value) = [.ref (D5 0), .ref (D5 0)] by rw [show D5 0 = D 0 from mD5 0 rfl]) ?_
    refine v_g H (o := 0) (v := I (u0_1)) rfl rfl rfl rfl rfl (congrArg (fun z : Int => I z) ((((show F5 0 1 = F 0 1 from (eF5 0 1).trans (hS5 0 1 rfl))).trans (eu0_1)) : F5 0 1 = u0_1)) ?_
    refine Ew_of (pcₚ := 34) (fun _ => x_iload_n rfl rfl) ?_
    refine w_iadd rfl ?_
    refine v_p H (o := 0) (z := (u0_1 + a3)) (v := I ((u0_1 + a3))) rfl rfl rfl rfl rfl rfl rfl rfl (show (-2147483648 : Int) ≤ (u0_1 + a3) ∧ (u0_1 + a3) ≤ 2147483647 from q_2926 h1 h3 pz5_1 pz5_2 r3 r6) (fun σ H Oₚ => ?_)
    have O := OUT_trans O Oₚ
    have cFu9 : SF oz_B1clsl_0 F (updF F5 0 1 ((u0_1 + a3))) := SF_upd (cF5) rfl
    have mFu9 := SFm_of cFu9 oz_B1cls_3
    have : IMP ((0 : Int) ≤ (a3)) (RAP ((u0_2)) ((w2)) ((u0_1)) ((u0_2)) ((A8 2)) (((u0_1 + a3))) (sc ((w1)) ((a2)) ((a2) + (a3)))) := fun _ => RAP_part (by omega) (by omega) hsm (sc_shift (fun k a b => by rw [hcq _ (by omega) (by omega), show (a2) + ((u0_1) + k - (u0_1)) = (a2) + k by omega]))
    exact w_ret rfl (k _ _ _ _ _ _ _ H O (cD5) (cN5) (cFu9) (cA8) (pf5_0_0) (m5_1) ((congrArg (fun q : Nat => (q : Int)) (eN5 2)).trans em5_1) ((u0_1 + a3)) (rfl) (u0_2) ((((show F5 0 2 = F 0 2 from (eF5 0 2).trans (hS5 0 2 rfl))).trans (eu0_2))) (A8 2) (rfl) (show 0 ≤ ((u0_1 + a3)) ∧ ((u0_1 + a3)) ≤ (m5_1) ∧ (m5_1) ≤ 65536 by omega) (show ((u0_1 + a3)) = (u0_1) + a3 ∧ 0 ≤ a3 ∨ ((u0_1 + a3)) = (u0_1) ∧ (a3 < 0 ∨ 65536 < (u0_1) + a3) by omega) (hsm) (show IMP ((0 : Int) ≤ a3) (RAP ((u0_2)) ((w2)) ((u0_1)) ((u0_2)) ((A8 2)) (((u0_1 + a3))) (sc ((w1)) (a2) (a2 + a3))) by assumption))
  · refine Ew_of (pcₚ := 9) (fun _ => x_aload_n rfl rfl) ?_
    refine Ew_of (pcₚ := 10) (fun _ => x_iconst rfl) ?_
    refine Ew_stk (congrArg (fun qz : Nat => ([I (1), .ref qz] : List Value)) (show D5 0 = D 0 from mD5 0 rfl).symm) ?_
    refine v_p H (o := 0) (z := 1) (v := I (1)) rfl rfl rfl rfl rfl rfl rfl (rfit_b (by omega)) (show (0 : Int) ≤ 1 ∧ 1 ≤ 1 from q_35) (fun σ H Oₚ => ?_)
    have O := OUT_trans O Oₚ
    have cFu10 : SF oz_B1clsl_0 F (updF F5 0 2 (1)) := SF_upd (cF5) rfl
    have mFu10 := SFm_of cFu10 oz_B1cls_3
    have : IMP ((0 : Int) ≤ (a3)) (RAP ((u0_2)) ((w2)) ((u0_1)) ((1)) ((w5_1)) ((u0_1)) (sc ((w1)) ((a2)) ((a2) + (a3)))) := fun _ => RAP_burst (by omega) (by rw [sc_lenI (by omega)]; omega)
    exact w_ret rfl (k _ _ _ _ _ _ _ H O (cD5) (cN5) (cFu10) (cA5) (pf5_0_0) (m5_1) ((congrArg (fun q : Nat => (q : Int)) (eN5 2)).trans em5_1) (u0_1) ((((show F5 0 1 = F 0 1 from (eF5 0 1).trans (hS5 0 1 rfl))).trans (eu0_1))) (1) (rfl) (w5_1) ((eA5 2).trans ew5_1) (show 0 ≤ (u0_1) ∧ (u0_1) ≤ (m5_1) ∧ (m5_1) ≤ 65536 from pz5_1) (show (u0_1) = (u0_1) + a3 ∧ 0 ≤ a3 ∨ (u0_1) = (u0_1) ∧ (a3 < 0 ∨ 65536 < (u0_1) + a3) by omega) (show ∀ i, (0 : Int) ≤ i → i < (u0_1) → ((w5_1)) i = ((w2)) i by assumption) (show IMP ((0 : Int) ≤ a3) (RAP ((u0_2)) ((w2)) ((u0_1)) ((1)) ((w5_1)) ((u0_1)) (sc ((w1)) (a2) (a2 + a3))) by assumption))
abbrev V460 : vV := []
theorem C460 {σE : rS} {D N : Nat → Nat} {F : hF} {A : hA} {d c s : Nat} {Q : wQ} (H : HW V460 σE D N F A) {a1 a2 a3 : Int} (h0 : inr (a1)) (h1 : inr (a2)) (h2 : inr (a3)) (h3 : 0 ≤ (a2) ∧ (a2) ≤ (a3) ∧ (a3) ≤ (a1)) (k : ∀ (σ : rS) (Fₚ : hF) (Aₚ : hA), HW V460 σ D N Fₚ Aₚ → OUT (V460).length D N σE c s D N σ c s → SF [] F Fₚ → SA [] A Aₚ → Q none σ c s) : Ew 460 (d + 0) 0 (rargs 0 [I a1, I a2, I a3]) [] σE c s Q := by
  have O := OUT_refl (n := (V460).length) (D := D) (N := N) (σ := σE) (c := c) (s := s)
  have HE := H
  refine Ew_of (pcₚ := 1) (fun _ => x_iload_n rfl rfl) ?_
  refine Ew_of (pcₚ := 2) (fun _ => x_iload_n rfl rfl) ?_
  refine w_icmple (t := 46) rfl rfl (show inr (a2) from h1) (show inr (a3) from h2) (fun b1 => ?_) (fun b1 => ?_)
  · refine Ew_of (pcₚ := 47) (fun _ => x_iload_n rfl rfl) ?_
    refine w_ifge (t := 59) rfl rfl (show inr (a2) from h1) (fun b2 => ?_) (fun b2 => ?_)
    · refine Ew_of (pcₚ := 60) (fun _ => x_iload_n rfl rfl) ?_
      refine Ew_of (pcₚ := 61) (fun _ => x_iload_n rfl rfl) ?_
      refine w_icmple (t := 73) rfl rfl (show inr (a3) from h2) (show inr (a1) from h0) (fun b3 => ?_) (fun b3 => ?_)
      · exact w_ret rfl (k _ _ _ H O (SF_refl) (SA_refl))
      · exfalso
        omega
    · exfalso
      omega
  · exfalso
    omega
abbrev V458_Br : vV := [(1, 0, [])]
theorem len_V458_Br_oz_B1cls : (V458_Br).length = 1 := by decide +kernel
theorem oz_B1cls_16 : vsub V458_Br V460 [] = true := by decide +kernel
def oz_B1clsl_5 : List (Nat × Nat) := []
theorem oz_B1cls_17 : (oz_B1clsl_5).all (fun p => !tbz 0 (Nat.add (Nat.mul 32 p.1) p.2)) = true := by decide +kernel
def oz_B1clsl_6 : List Nat := [0]
theorem oz_B1cls_18 : (oz_B1clsl_6).all (fun p => !tbz 1 p) = true := by decide +kernel
def oz_B1clsl_7 : List Nat := []
theorem oz_B1cls_19 : okc oz_B1clsl_7 0 = true := by decide +kernel

theorem C458_Br {σE : rS} {D N : Nat → Nat} {F : hF} {A : hA} {d c s : Nat} {Q : wQ} (H : HW V458_Br σE D N F A) {a2 a3 a4 : Int} (n0 : Int) (en0 : (N 0 : Int) = n0) (w0 : Int → Int) (ew0 : A 0 = w0) (h0 : inr (a2)) (h1 : inr (a3)) (h2 : inr (a4)) (h3 : 0 ≤ (a2) ∧ (a2) ≤ (a3) ∧ (a3) ≤ (n0)) (k : ∀ (σ : rS) (Fₚ : hF) (Aₚ : hA), HW V458_Br σ D N Fₚ Aₚ → OUT (V458_Br).length D N σE c s D N σ c s → SF [] F Fₚ → SA [0] A Aₚ → ∀ v0 : Int → Int, Aₚ 0 = v0 → (FLL ((w0)) ((v0)) ((a2)) ((a3)) ((a4))) → Q none σ c s) : Ew 458 (d + 1) 0 (rargs 0 [.ref (D 0), I a2, I a3, I a4]) [] σE c s Q := by
  have O := OUT_refl (n := (V458_Br).length) (D := D) (N := N) (σ := σE) (c := c) (s := s)
  have HE := H
  have r1 : (0 : Int) ≤ n0 ∧ n0 ≤ 1000000 := nleE (H.nle 0 (ltn len_V458_Br_oz_B1cls rfl)) (show (N 0 : Int) = n0 from en0)
  refine Ew_of (pcₚ := 1) (fun _ => x_aload_n rfl rfl) ?_
  refine v_len H (o := 0) rfl rfl rfl rfl (n := n0) (en0) ?_
  refine Ew_of (pcₚ := 3) (fun _ => x_iload_n rfl rfl) ?_
  refine Ew_of (pcₚ := 4) (fun _ => x_iload_n rfl rfl) ?_
  refine w_stat24 rfl rfl (by rfl) (C460 (D := puc 0 D) (N := puc 0 N) (HW_subc H oz_B1cls_16 oz_B1cls_19) (show inr (n0) from q_37 r1) (show inr (a2) from h0) (show inr (a3) from h1) (show 0 ≤ (a2) ∧ (a2) ≤ (a3) ∧ (a3) ≤ (n0) from h3) (fun σ2 F2ₚ A2ₚ Hₚ Oₚ hS2 hA2 => ⟨rfl, ?_⟩))
  refine v_backc (c := c) (s := s) H oz_B1cls_16 oz_B1cls_19 Hₚ Oₚ (fun F2 A2 H Oₚ eF2 eA2 => ?_)
  have O := OUT_trans O Oₚ
  -- java/util/Arrays.rangeCheck
  have cF2 : SF oz_B1clsl_5 F F2 := SF_trans (SF_refl) (SF_gluc (ι := oz_B1clsl_7) oz_B1cls_19 hS2 eF2 (by decide +kernel)) (any_sub (lₚ := []) (by decide +kernel))
  have mF2 := SFm_of cF2 oz_B1cls_17
  have cA2 : SA oz_B1clsl_6 A A2 := SA_trans (SA_refl) (SA_gluc (ι := oz_B1clsl_7) oz_B1cls_19 hA2 eA2 (by decide +kernel)) (any_subA (lₚ := []) (by decide +kernel))
  have mA2 := SAm_of cA2 oz_B1cls_18
  refine Ew_of (pcₚ := 8) (fun _ => x_iload_n rfl rfl) ?_
  refine Ew_of (pcₚ := 10) (fun _ => x_istore rfl) ?_
  have : FLL ((w0)) ((w0)) ((a2)) ((a2)) ((a4)) := FLL_0
  suffices hl10 : ∀ (m : Nat), ∀ (ls : rO) (σ : rS) (F_10 : hF) (A_10 : hA) (x10_4 : Int), rlook ls 0 = some (.ref (D 0)) → rlook ls 2 = some (I (a3)) → rlook ls 3 = some (I (a4)) → rlook ls 4 = some (I (x10_4)) → HW V458_Br σ D N F_10 A_10 → OUT (V458_Br).length D N σE c s D N σ c s → SF [] F2 F_10 → SA [0] A2 A_10 → ∀ w10_0 : Int → Int, A_10 0 = w10_0 → (inr (x10_4)) → ((a2) ≤ (x10_4)) → ((x10_4) ≤ (a2) ∨ (x10_4) ≤ ((a3))) → (FLL ((w0)) ((w10_0)) ((a2)) ((x10_4)) ((a4))) → (((a3)) - (x10_4)).toNat = m → Ew 458 (d + 1) 10 ls [] σ c s Q from
    hl10 _ _ _ _ _ (a2) (rk_o (rfl) rfl rfl) (rk_o (rfl) rfl rfl) (rk_o (rfl) rfl rfl) (rk_s) H O (SF_refl) (SA_refl)    (w0) (((show A2 0 = A 0 from (eA2 0))).trans (ew0)) (show inr (a2) from h0) (show (a2) ≤ (a2) from q_43) (show (a2) ≤ (a2) ∨ (a2) ≤ ((a3)) from q_156) (show FLL ((w0)) ((w0)) ((a2)) ((a2)) ((a4)) by assumption) rfl
  as_aux_lemma =>
  intro m
  induction m using Nat.strongRecOn with
  | _ m ih10 =>
    intro ls σ F_10 A_10 x10_4 l10_0 l10_2 l10_3 l10_4 H O hS_10 hA_10    w10_0 ew10_0 j10_0 j10_1 j10_2 j10_3 hm10
    have cF_10 : SF oz_B1clsl_5 F F_10 := SF_trans (cF2) hS_10 (any_sub (by decide +kernel))
    have mF_10 := SFm_of cF_10 oz_B1cls_17
    have cA_10 : SA oz_B1clsl_6 A A_10 := SA_trans (cA2) hA_10 (any_subA (by decide +kernel))
    have mA_10 := SAm_of cA_10 oz_B1cls_18
    have jf_f : FLL ((w0)) ((w10_0)) ((a2)) ((x10_4)) ((a4)) := j10_3
    have hfa : (x10_4) ≤ (a3) := q_2927 h3 j10_2
    refine Ew_of (pcₚ := 12) (fun _ => x_iload rfl l10_4) ?_
    refine Ew_of (pcₚ := 13) (fun _ => x_iload_n rfl l10_2) ?_
    refine w_icmpge (t := 27) rfl rfl (show inr (x10_4) from j10_0) (show inr (a3) from h1) (fun b3 => ?_) (fun b3 => ?_)
    · have : FLL ((w0)) ((w10_0)) ((a2)) ((a3)) ((a4)) := by rw [show (a3) = (x10_4) by omega]; exact jf_f
      exact w_ret rfl (k _ _ _ H O (cF_10) (cA_10) (w10_0) (ew10_0) (show FLL ((w0)) ((w10_0)) (a2) (a3) (a4) by assumption))
    · refine Ew_of (pcₚ := 17) (fun _ => x_aload_n rfl l10_0) ?_
      refine Ew_of (pcₚ := 19) (fun _ => x_iload rfl l10_4) ?_
      refine Ew_of (pcₚ := 20) (fun _ => x_iload_n rfl l10_3) ?_
      refine v_sB H (o := 0) rfl rfl rfl rfl (n := n0) (en0) (show 0 ≤ x10_4 ∧ x10_4 < n0 from q_2928 b3 h3 j10_1) (fun z4 σ qz4 uz4 H Oₚ => ?_)
      have O := OUT_trans O Oₚ
      have cAu5 : SA oz_B1clsl_6 A (updA A_10 0 (x10_4) (z4)) := SA_upd (cA_10) rfl
      have mAu5 := SAm_of cAu5 oz_B1cls_18
      have hus := uz4
      refine Ew_of (pcₚ := 24) (fun _ => x_iinc (len := 3) rfl (l10_4)) ?_
      refine Ew_of (pcₚ := 10) (fun _ => x_goto rfl rfl) ?_
      have : FLL ((w0)) ((upd1 (w10_0) (x10_4) (z4))) ((a2)) (((x10_4 + 1))) ((a4)) := FLL_s jf_f hus rfl (by omega)
      exact ih10 _ (msE hm10 q_16 (q_17 b3)) _ _ _ _ ((x10_4 + 1)) (rk_o (l10_0) rfl rfl) (rk_o (l10_2) rfl rfl) (rk_o (l10_3) rfl rfl) (rk_s) H O (hS_10) (SA_upd (hA_10) rfl)    (upd1 (w10_0) (x10_4) (z4)) (congrArg (fun q => upd1 q (x10_4) (z4)) (ew10_0)) (show inr ((x10_4 + 1)) from q_2929 b3 h3 j10_0 r1) (show (a2) ≤ ((x10_4 + 1)) from q_161 j10_1) (show ((x10_4 + 1)) ≤ (a2) ∨ ((x10_4 + 1)) ≤ ((a3)) from q_160 b3) (show FLL ((w0)) ((upd1 (w10_0) (x10_4) (z4))) ((a2)) (((x10_4 + 1))) ((a4)) by assumption) rfl
abbrev V459_Ir : vV := [(1, 1, [])]
abbrev V162 : vV := [(0, 7, [(4, 0), (0, 0), (1, 0), (0, 0), (0, 0)]), (1, 0, [])]
theorem len_V162_oz_B1cls : (V162).length = 2 := by decide +kernel
theorem oz_B1cls_23 : vsub V162 V157 [0, 1] = true := by decide +kernel
theorem oz_B1cls_24 : vmov V162 [0, 1] [1] = true := by decide +kernel
theorem oz_B1cls_25 : vsub V162 V458_Br [1] = true := by decide +kernel
theorem oz_B1cls_26 : okc oz_B1clsl_1 1 = true := by decide +kernel

theorem C162 {σE : rS} {D N : Nat → Nat} {F : hF} {A : hA} {d c s : Nat} {Q : wQ} (H : HW V162 σE D N F A) {a1 a2 : Int} (pf1 : F 0 0 = (D 1 : Int)) (n1 : Int) (en1 : (N 1 : Int) = n1) (u0_1 : Int) (eu0_1 : F 0 1 = u0_1) (u0_2 : Int) (eu0_2 : F 0 2 = u0_2) (w1 : Int → Int) (ew1 : A 1 = w1) (h0 : inr (a1)) (h1 : inr (a2)) (h2 : 0 ≤ (u0_1) ∧ (u0_1) ≤ (n1) ∧ (n1) ≤ 65536) (k : ∀ (σ : rS) (Dₚ Nₚ : Nat → Nat) (Fₚ : hF) (Aₚ : hA) (cₚ sₚ : Nat), HW V162 σ Dₚ Nₚ Fₚ Aₚ → OUT (V162).length D N σE c s Dₚ Nₚ σ cₚ sₚ → SD [1] D Dₚ → SD [1] N Nₚ → SF [(0, 0), (0, 1), (0, 2)] F Fₚ → SA [1] A Aₚ → Fₚ 0 0 = (Dₚ 1 : Int) → ∀ m1 : Int, (Nₚ 1 : Int) = m1 → ∀ y0_1 : Int, Fₚ 0 1 = y0_1 → ∀ y0_2 : Int, Fₚ 0 2 = y0_2 → ∀ v1 : Int → Int, Aₚ 1 = v1 → (0 ≤ (y0_1) ∧ (y0_1) ≤ (m1) ∧ (m1) ≤ 65536) → ((y0_1) = (u0_1) + (a2) ∧ 0 ≤ (a2) ∨ (y0_1) = (u0_1) ∧ ((a2) < 0 ∨ 65536 < (u0_1) + (a2))) → (IMP ((0 : Int) ≤ (a2)) (RAP ((u0_2)) ((w1)) ((u0_1)) ((y0_2)) ((v1)) ((y0_1)) (List.replicate ((a2)).toNat (u8 ((a1)))))) → Q none σ cₚ sₚ) : Ew 162 (d + 2) 0 (rargs 0 [.ref (D 0), I a1, I a2]) [] σE c s Q := by
  have O := OUT_refl (n := (V162).length) (D := D) (N := N) (σ := σE) (c := c) (s := s)
  have HE := H
  have r1 : (-2147483648 : Int) ≤ u0_1 ∧ u0_1 ≤ 2147483647 := rngE (show (-2147483648 : Int) ≤ F 0 1 ∧ F 0 1 ≤ 2147483647 from H.krg 0 1 (ltn len_V162_oz_B1cls rfl)) (show F 0 1 = u0_1 from (eu0_1))
  have r2 : (0 : Int) ≤ u0_2 ∧ u0_2 ≤ 1 := rngE (show (0 : Int) ≤ F 0 2 ∧ F 0 2 ≤ 1 from H.krg 0 2 (ltn len_V162_oz_B1cls rfl)) (show F 0 2 = u0_2 from (eu0_2))
  have r3 : (0 : Int) ≤ n1 ∧ n1 ≤ 1000000 := nleE (H.nle 1 (ltn len_V162_oz_B1cls rfl)) (show (N 1 : Int) = n1 from en1)
  refine Ew_of (pcₚ := 1) (fun _ => x_aload_n rfl rfl) ?_
  refine Ew_of (pcₚ := 2) (fun _ => x_iload_n rfl rfl) ?_
  refine v_inv H (o := 0) rfl rfl rfl rfl rfl rfl (by rfl) (C157 (D := puc 512 D) (N := puc 512 N) (HW_subc H oz_B1cls_23 oz_B1cls_5) (pf1) (n1) (en1) (u0_1) ((eu0_1)) (w1) (ew1) (show inr (a2) from h1) (show 0 ≤ (u0_1) ∧ (u0_1) ≤ (n1) ∧ (n1) ≤ 65536 from h2) (fun z4 σ4 D4ₚ N4ₚ F4ₚ A4ₚ c4 s4 Hₚ Oₚ hD4 hN4 hS4 hA4 pm4_1 m4_1 em4_1 w4_1 ew4_1 pz4_0 pz4_1 pz4_2 pz4_3 pz4_4 => ⟨rretB rfl pz4_0, ?_⟩))
  refine v_backMc (c := c) (s := s) H oz_B1cls_23 oz_B1cls_5 Hₚ Oₚ hD4 oz_B1cls_24 (fun D4 N4 F4 A4 H Oₚ eD4 eN4 eF4 eA4 => ?_)
  have O := OUT_trans O Oₚ
  -- Row.reserve
  have cF4 : SF oz_B1clsl_0 F F4 := SF_trans (SF_refl) (SF_gluc (ι := oz_B1clsl_2) oz_B1cls_5 hS4 eF4 (by decide +kernel)) (any_sub (lₚ := [(0, 0)]) (by decide +kernel))
  have mF4 := SFm_of cF4 oz_B1cls_3
  have cA4 : SA oz_B1clsl_1 A A4 := SA_trans (SA_refl) (SA_gluc (ι := oz_B1clsl_2) oz_B1cls_5 hA4 eA4 (by decide +kernel)) (any_subA (lₚ := [1]) (by decide +kernel))
  have mA4 := SAm_of cA4 oz_B1cls_4
  have cD4 : SD oz_B1clsl_1 D D4 := SD_trans (SD_refl) (SD_gluc (ι := oz_B1clsl_2) oz_B1cls_5 hD4 eD4 (by decide +kernel)) (any_subA (lₚ := [1]) (by decide +kernel))
  have mD4 := SDm_of cD4 oz_B1cls_4
  have cN4 : SD oz_B1clsl_1 N N4 := SD_trans (SD_refl) (SD_gluc (ι := oz_B1clsl_2) oz_B1cls_5 hN4 eN4 (by decide +kernel)) (any_subA (lₚ := [1]) (by decide +kernel))
  have mN4 := SDm_of cN4 oz_B1cls_4
  have pf4_0_0 : F4 0 0 = (D4 1 : Int) := (eF4 0 0).trans (pm4_1.trans (congrArg (fun q : Nat => (q : Int)) (eD4 1).symm))
  have r5 : (0 : Int) ≤ m4_1 ∧ m4_1 ≤ 1000000 := nleE (H.nle 1 (ltn len_V162_oz_B1cls rfl)) (show (N4 1 : Int) = m4_1 from (congrArg (fun q : Nat => (q : Int)) (eN4 1)).trans em4_1)
  have hsr := pz4_4
  refine w_ifne (t := 14) rfl rfl (show inr (z4) from q_138 pz4_0) (fun b6 => ?_) (fun b6 => ?_)
  · refine Ew_of (pcₚ := 15) (fun _ => x_aload_n rfl rfl) ?_
    refine Ew_stk (congrArg (fun qz : Nat => ([.ref qz] : List Value)) (show D4 0 = D 0 from mD4 0 rfl).symm) ?_
    refine v_g H (o := 0) (v := .ref (D4 1)) rfl rfl rfl rfl rfl (vrf (pf4_0_0)) ?_
    refine Ew_of (pcₚ := 19) (fun _ => x_aload_n rfl rfl) ?_
    refine Ew_stk (congrArg (fun qz : Nat => ([.ref qz, .ref (D4 1)] : List Value)) (show D4 0 = D 0 from mD4 0 rfl).symm) ?_
    refine v_g H (o := 0) (v := I (u0_1)) rfl rfl rfl rfl rfl (congrArg (fun z : Int => I z) ((((show F4 0 1 = F 0 1 from (eF4 0 1).trans (hS4 0 1 rfl))).trans (eu0_1)) : F4 0 1 = u0_1)) ?_
    refine Ew_of (pcₚ := 23) (fun _ => x_aload_n rfl rfl) ?_
    refine Ew_stk (congrArg (fun qz : Nat => ([.ref qz, I (u0_1), .ref (D4 1)] : List Value)) (show D4 0 = D 0 from mD4 0 rfl).symm) ?_
    refine v_g H (o := 0) (v := I (u0_1)) rfl rfl rfl rfl rfl (congrArg (fun z : Int => I z) ((((show F4 0 1 = F 0 1 from (eF4 0 1).trans (hS4 0 1 rfl))).trans (eu0_1)) : F4 0 1 = u0_1)) ?_
    refine Ew_of (pcₚ := 27) (fun _ => x_iload_n rfl rfl) ?_
    refine w_iadd rfl ?_
    refine Ew_of (pcₚ := 29) (fun _ => x_iload_n rfl rfl) ?_
    refine v_i2b rfl (fun z7 gz7 uz7 => ?_)
    have hu := uz7
    refine w_stat24 rfl rfl (by rfl) (C458_Br (D := puc 1 D4) (N := puc 1 N4) (HW_subc H oz_B1cls_25 oz_B1cls_26) (m4_1) ((congrArg (fun q : Nat => (q : Int)) (eN4 1)).trans em4_1) (w4_1) ((eA4 1).trans ew4_1) (show inr (u0_1) from q_38 pz4_1) (show inr ((u0_1 + a2)) by omega) (show inr (z7) by omega) (show 0 ≤ (u0_1) ∧ (u0_1) ≤ ((u0_1 + a2)) ∧ ((u0_1 + a2)) ≤ (m4_1) by omega) (fun σ8 F8ₚ A8ₚ Hₚ Oₚ hS8 hA8 w8_0 ew8_0 pz8_0 => ⟨rfl, ?_⟩))
    refine v_backc (c := (c + c4)) (s := (s + s4)) H oz_B1cls_25 oz_B1cls_26 Hₚ Oₚ (fun F8 A8 H Oₚ eF8 eA8 => ?_)
    have O := OUT_trans O Oₚ
    -- java/util/Arrays.fill
    have cF8 : SF oz_B1clsl_0 F F8 := SF_trans (cF4) (SF_gluc (ι := oz_B1clsl_1) oz_B1cls_26 hS8 eF8 (by decide +kernel)) (any_sub (lₚ := []) (by decide +kernel))
    have mF8 := SFm_of cF8 oz_B1cls_3
    have cA8 : SA oz_B1clsl_1 A A8 := SA_trans (cA4) (SA_gluc (ι := oz_B1clsl_1) oz_B1cls_26 hA8 eA8 (by decide +kernel)) (any_subA (lₚ := [1]) (by decide +kernel))
    have mA8 := SAm_of cA8 oz_B1cls_4
    have hfl := pz8_0
    refine Ew_of (pcₚ := 34) (fun _ => x_aload_n rfl rfl) ?_
    refine Ew_of (pcₚ := 35) (fun _ => x_dup rfl rfl) ?_
    refine Ew_stk (show ([.ref (D 0), .ref (D 0)] : List Value) = [.ref (D4 0), .ref (D4 0)] by rw [show D4 0 = D 0 from mD4 0 rfl]) ?_
    refine v_g H (o := 0) (v := I (u0_1)) rfl rfl rfl rfl rfl (congrArg (fun z : Int => I z) (((((show F8 0 1 = F4 0 1 from (eF8 0 1))).trans ((show F4 0 1 = F 0 1 from (eF4 0 1).trans (hS4 0 1 rfl)))).trans (eu0_1)) : F8 0 1 = u0_1)) ?_
    refine Ew_of (pcₚ := 39) (fun _ => x_iload_n rfl rfl) ?_
    refine w_iadd rfl ?_
    refine v_p H (o := 0) (z := (u0_1 + a2)) (v := I ((u0_1 + a2))) rfl rfl rfl rfl rfl rfl rfl rfl (show (-2147483648 : Int) ≤ (u0_1 + a2) ∧ (u0_1 + a2) ≤ 2147483647 by omega) (fun σ H Oₚ => ?_)
    have O := OUT_trans O Oₚ
    have cFu9 : SF oz_B1clsl_0 F (updF F8 0 1 ((u0_1 + a2))) := SF_upd (cF8) rfl
    have mFu9 := SFm_of cFu9 oz_B1cls_3
    have : IMP ((0 : Int) ≤ (a2)) (RAP ((u0_2)) ((w1)) ((u0_1)) ((u0_2)) ((w8_0)) (((u0_1 + a2))) (List.replicate ((a2)).toNat (u8 ((a1))))) := fun _ => RAP_part (by omega) (by omega) (fun i a b => (hfl.2 i (.inl (by omega))).trans (hsr i a b)) (sc_rep (fun i a b => (hfl.1 i (by omega) (by omega)).trans hu))
    exact w_ret rfl (k _ _ _ _ _ _ _ H O (cD4) (cN4) (cFu9) (cA8) ((((show F8 0 0 = F4 0 0 from (eF8 0 0)))).trans (pf4_0_0)) (m4_1) ((congrArg (fun q : Nat => (q : Int)) (eN4 1)).trans em4_1) ((u0_1 + a2)) (rfl) (u0_2) (((((show F8 0 2 = F4 0 2 from (eF8 0 2))).trans ((show F4 0 2 = F 0 2 from (eF4 0 2).trans (hS4 0 2 rfl)))).trans (eu0_2))) (w8_0) ((eA8 1).trans ew8_0) (show 0 ≤ ((u0_1 + a2)) ∧ ((u0_1 + a2)) ≤ (m4_1) ∧ (m4_1) ≤ 65536 by omega) (show ((u0_1 + a2)) = (u0_1) + a2 ∧ 0 ≤ a2 ∨ ((u0_1 + a2)) = (u0_1) ∧ (a2 < 0 ∨ 65536 < (u0_1) + a2) by omega) (show IMP ((0 : Int) ≤ a2) (RAP ((u0_2)) ((w1)) ((u0_1)) ((u0_2)) ((w8_0)) (((u0_1 + a2))) (List.replicate (a2).toNat (u8 (a1)))) by assumption))
  · refine Ew_of (pcₚ := 9) (fun _ => x_aload_n rfl rfl) ?_
    refine Ew_of (pcₚ := 10) (fun _ => x_iconst rfl) ?_
    refine Ew_stk (congrArg (fun qz : Nat => ([I (1), .ref qz] : List Value)) (show D4 0 = D 0 from mD4 0 rfl).symm) ?_
    refine v_p H (o := 0) (z := 1) (v := I (1)) rfl rfl rfl rfl rfl rfl rfl (rfit_b (by omega)) (show (0 : Int) ≤ 1 ∧ 1 ≤ 1 from q_35) (fun σ H Oₚ => ?_)
    have O := OUT_trans O Oₚ
    have cFu10 : SF oz_B1clsl_0 F (updF F4 0 2 (1)) := SF_upd (cF4) rfl
    have mFu10 := SFm_of cFu10 oz_B1cls_3
    have : IMP ((0 : Int) ≤ (a2)) (RAP ((u0_2)) ((w1)) ((u0_1)) ((1)) ((w4_1)) ((u0_1)) (List.replicate ((a2)).toNat (u8 ((a1))))) := fun _ => RAP_burst (by omega) (by rw [List.length_replicate]; omega)
    exact w_ret rfl (k _ _ _ _ _ _ _ H O (cD4) (cN4) (cFu10) (cA4) (pf4_0_0) (m4_1) ((congrArg (fun q : Nat => (q : Int)) (eN4 1)).trans em4_1) (u0_1) ((((show F4 0 1 = F 0 1 from (eF4 0 1).trans (hS4 0 1 rfl))).trans (eu0_1))) (1) (rfl) (w4_1) ((eA4 1).trans ew4_1) (show 0 ≤ (u0_1) ∧ (u0_1) ≤ (m4_1) ∧ (m4_1) ≤ 65536 from pz4_1) (show (u0_1) = (u0_1) + a2 ∧ 0 ≤ a2 ∨ (u0_1) = (u0_1) ∧ (a2 < 0 ∨ 65536 < (u0_1) + a2) by omega) (show IMP ((0 : Int) ≤ a2) (RAP ((u0_2)) ((w1)) ((u0_1)) ((1)) ((w4_1)) ((u0_1)) (List.replicate (a2).toNat (u8 (a1)))) by assumption))
abbrev V164 : vV := [(0, 7, [(4, 0), (0, 0), (1, 0), (0, 0), (0, 0)]), (1, 0, [])]
theorem len_V164_oz_B1cls : (V164).length = 2 := by decide +kernel
def oz_B1clsl_8 : List (Nat × Nat) := [(0, 1), (0, 2), (0, 3), (0, 4)]
theorem oz_B1cls_28 : (oz_B1clsl_8).all (fun p => !tbz 30 (Nat.add (Nat.mul 32 p.1) p.2)) = true := by decide +kernel

theorem C164 {σE : rS} {D N : Nat → Nat} {F : hF} {A : hA} {d c s : Nat} {Q : wQ} (H : HW V164 σE D N F A) {a1 a2 : Int} (pf1 : F 0 0 = (D 1 : Int)) (n1 : Int) (en1 : (N 1 : Int) = n1) (u0_1 : Int) (eu0_1 : F 0 1 = u0_1) (u0_2 : Int) (eu0_2 : F 0 2 = u0_2) (u0_3 : Int) (eu0_3 : F 0 3 = u0_3) (u0_4 : Int) (eu0_4 : F 0 4 = u0_4) (w1 : Int → Int) (ew1 : A 1 = w1) (h0 : inr (a1)) (h1 : inr (a2)) (h2 : 0 ≤ (u0_1) ∧ (u0_1) ≤ (n1) ∧ (n1) ≤ 65536) (h3 : 0 ≤ (a2) ∧ (a2) ≤ 31) (h4 : 0 ≤ (u0_4) ∧ (u0_4) ≤ 7) (k : ∀ (σ : rS) (Fₚ : hF) (Aₚ : hA), HW V164 σ D N Fₚ Aₚ → OUT (V164).length D N σE c s D N σ c s → SF [(0, 1), (0, 2), (0, 3), (0, 4)] F Fₚ → SA [1] A Aₚ → ∀ y0_1 : Int, Fₚ 0 1 = y0_1 → ∀ y0_2 : Int, Fₚ 0 2 = y0_2 → ∀ y0_3 : Int, Fₚ 0 3 = y0_3 → ∀ y0_4 : Int, Fₚ 0 4 = y0_4 → ∀ v1 : Int → Int, Aₚ 1 = v1 → (0 ≤ (y0_1) ∧ (y0_1) ≤ (n1) ∧ (n1) ≤ 65536) → ((u0_1) ≤ (y0_1)) → (0 ≤ (y0_4) ∧ (y0_4) ≤ 7) → (IMP ((a2) ≤ 16 ∧ 0 ≤ (u0_3) ∧ (u0_3) < p2 ((u0_4)) ∧ (u0_1) + ((u0_4) + (a2)) / 8 ≤ (n1)) (RBA ((u0_2)) ((w1)) ((u0_1)) ((u0_3)) ((u0_4)) ((y0_2)) ((v1)) ((y0_1)) ((y0_3)) ((y0_4)) (btw ((a1)) ((a2))) ∧ (0 ≤ (y0_3) ∧ (y0_3) < p2 ((y0_4))) ∧ 8 * (y0_1) + (y0_4) = 8 * (u0_1) + (u0_4) + (a2))) → Q none σ c s) : Ew 164 (d + 0) 0 (rargs 0 [.ref (D 0), I a1, I a2]) [] σE c s Q := by
  have O := OUT_refl (n := (V164).length) (D := D) (N := N) (σ := σE) (c := c) (s := s)
  have HE := H
  have r1 : (-2147483648 : Int) ≤ u0_1 ∧ u0_1 ≤ 2147483647 := rngE (show (-2147483648 : Int) ≤ F 0 1 ∧ F 0 1 ≤ 2147483647 from H.krg 0 1 (ltn len_V164_oz_B1cls rfl)) (show F 0 1 = u0_1 from (eu0_1))
  have r2 : (0 : Int) ≤ u0_2 ∧ u0_2 ≤ 1 := rngE (show (0 : Int) ≤ F 0 2 ∧ F 0 2 ≤ 1 from H.krg 0 2 (ltn len_V164_oz_B1cls rfl)) (show F 0 2 = u0_2 from (eu0_2))
  have r3 : (-2147483648 : Int) ≤ u0_3 ∧ u0_3 ≤ 2147483647 := rngE (show (-2147483648 : Int) ≤ F 0 3 ∧ F 0 3 ≤ 2147483647 from H.krg 0 3 (ltn len_V164_oz_B1cls rfl)) (show F 0 3 = u0_3 from (eu0_3))
  have r4 : (-2147483648 : Int) ≤ u0_4 ∧ u0_4 ≤ 2147483647 := rngE (show (-2147483648 : Int) ≤ F 0 4 ∧ F 0 4 ≤ 2147483647 from H.krg 0 4 (ltn len_V164_oz_B1cls rfl)) (show F 0 4 = u0_4 from (eu0_4))
  have r5 : (0 : Int) ≤ n1 ∧ n1 ≤ 1000000 := nleE (H.nle 1 (ltn len_V164_oz_B1cls rfl)) (show (N 1 : Int) = n1 from en1)
  refine Ew_of (pcₚ := 1) (fun _ => x_aload_n rfl rfl) ?_
  refine Ew_of (pcₚ := 2) (fun _ => x_dup rfl rfl) ?_
  refine v_g H (o := 0) (v := I (u0_3)) rfl rfl rfl rfl rfl (congrArg (fun z : Int => I z) ((eu0_3) : F 0 3 = u0_3)) ?_
  refine Ew_of (pcₚ := 6) (fun _ => x_iload_n rfl rfl) ?_
  refine Ew_of (pcₚ := 7) (fun _ => x_iconst rfl) ?_
  refine Ew_of (pcₚ := 8) (fun _ => x_iload_n rfl rfl) ?_
  refine w_ishlE rfl ?_
  have g6 : inr (slI (1) (a2)) := toI_inr _
  refine Ew_of (pcₚ := 10) (fun _ => x_iconst rfl) ?_
  refine w_isubE rfl ?_
  have g7 : inr (sbI ((slI (1) (a2))) (1)) := toI_inr _
  refine w_iandG rfl ?_
  have g8 : inr (andI (a1) ((sbI ((slI (1) (a2))) (1)))) := toI_inr _
  refine Ew_of (pcₚ := 13) (fun _ => x_aload_n rfl rfl) ?_
  refine v_g H (o := 0) (v := I (u0_4)) rfl rfl rfl rfl rfl (congrArg (fun z : Int => I z) ((eu0_4) : F 0 4 = u0_4)) ?_
  refine w_ishlE rfl ?_
  have g9 : inr (slI ((andI (a1) ((sbI ((slI (1) (a2))) (1))))) (u0_4)) := toI_inr _
  refine w_iorE rfl ?_
  have g10 : inr (orI (u0_3) ((slI ((andI (a1) ((sbI ((slI (1) (a2))) (1))))) (u0_4)))) := toI_inr _
  obtain ⟨qh, hqh⟩ : ∃ q : Int, q = ((orI (u0_3) ((slI ((andI (a1) ((sbI ((slI (1) (a2))) (1))))) (u0_4))))) := ⟨_, rfl⟩
  rw [← hqh]
  have gqh : inr qh := by rw [hqh]; first | assumption | omega
  replace hqh : IMP True (qh = ((orI (u0_3) ((slI ((andI (a1) ((sbI ((slI (1) (a2))) (1))))) (u0_4)))))) := fun _ => hqh
  try clear g10
  try clear g9
  try clear g8
  try clear g7
  try clear g6
  refine v_p H (o := 0) (z := qh) (v := I (qh)) rfl rfl rfl rfl rfl rfl rfl rfl (show (-2147483648 : Int) ≤ qh ∧ qh ≤ 2147483647 from q_31 gqh) (fun σ H Oₚ => ?_)
  have O := OUT_trans O Oₚ
  have cFu11 : SF oz_B1clsl_8 F (updF F 0 3 (qh)) := SF_upd (SF_refl) rfl
  have mFu11 := SFm_of cFu11 oz_B1cls_28
  have hx0 : IMP ((a2) ≤ 16 ∧ 0 ≤ (u0_3) ∧ (u0_3) < p2 ((u0_4)) ∧ (u0_1) + ((u0_4) + (a2)) / 8 ≤ (n1)) (qh = (u0_3) + (a1) % p2 ((a2)) * p2 ((u0_4))) := fun q => (hqh trivial).trans (orI_abx (by have := q.1; omega) (by omega) ⟨q.2.1, q.2.2.1⟩ (by omega))
  refine Ew_of (pcₚ := 22) (fun _ => x_aload_n rfl rfl) ?_
  refine Ew_of (pcₚ := 23) (fun _ => x_dup rfl rfl) ?_
  refine v_g H (o := 0) (v := I (u0_4)) rfl rfl rfl rfl rfl (congrArg (fun z : Int => I z) ((eu0_4) : (updF F 0 3 (qh)) 0 4 = u0_4)) ?_
  refine Ew_of (pcₚ := 27) (fun _ => x_iload_n rfl rfl) ?_
  refine w_iadd rfl ?_
  refine v_p H (o := 0) (z := (u0_4 + a2)) (v := I ((u0_4 + a2))) rfl rfl rfl rfl rfl rfl rfl rfl (show (-2147483648 : Int) ≤ (u0_4 + a2) ∧ (u0_4 + a2) ≤ 2147483647 from q_2930 h3 h4) (fun σ H Oₚ => ?_)
  have O := OUT_trans O Oₚ
  have cFu12 : SF oz_B1clsl_8 F (updF (updF F 0 3 (qh)) 0 4 ((u0_4 + a2))) := SF_upd (cFu11) rfl
  have mFu12 := SFm_of cFu12 oz_B1cls_28
  have : IMP ((a2) ≤ 16 ∧ 0 ≤ (u0_3) ∧ (u0_3) < p2 ((u0_4)) ∧ (u0_1) + ((u0_4) + (a2)) / 8 ≤ (n1)) (RBA ((u0_2)) ((w1)) ((u0_1)) ((u0_3)) ((u0_4)) ((u0_2)) ((w1)) ((u0_1)) ((qh)) (((u0_4 + a2))) (btw ((a1)) ((a2))) ∧ (0 ≤ (qh) ∧ (qh) < p2 (((u0_4 + a2)))) ∧ (u0_1) + ((u0_4 + a2)) / 8 ≤ (n1) ∧ 8 * (u0_1) + ((u0_4 + a2)) = 8 * (u0_1) + (u0_4) + (a2)) := fun q => by have q1 := q.1; have q4 := q.2.2.2; have e := hx0 q; exact ⟨RBA_put (by omega) e rfl, hdq e q.2.1 q.2.2.1 (by omega) (by omega), by omega, by omega⟩
  suffices hl31 : ∀ (m : Nat), ∀ (ls : rO) (σ : rS) (F_31 : hF) (A_31 : hA) , rlook ls 0 = some (.ref (D 0)) → HW V164 σ D N F_31 A_31 → OUT (V164).length D N σE c s D N σ c s → SF [(0, 1), (0, 2), (0, 3), (0, 4)] (updF (updF F 0 3 (qh)) 0 4 ((u0_4 + a2))) F_31 → SA [1] A A_31 → ∀ y31_0_1 : Int, F_31 0 1 = y31_0_1 → ∀ y31_0_2 : Int, F_31 0 2 = y31_0_2 → ∀ y31_0_3 : Int, F_31 0 3 = y31_0_3 → ∀ y31_0_4 : Int, F_31 0 4 = y31_0_4 → ∀ w31_1 : Int → Int, A_31 1 = w31_1 → (0 ≤ (y31_0_1) ∧ (y31_0_1) ≤ (n1) ∧ (n1) ≤ 65536) → ((u0_1) ≤ (y31_0_1)) → (0 ≤ (y31_0_4) ∧ (y31_0_4) ≤ 40) → (IMP ((a2) ≤ 16 ∧ 0 ≤ (u0_3) ∧ (u0_3) < p2 ((u0_4)) ∧ (u0_1) + ((u0_4) + (a2)) / 8 ≤ (n1)) (RBA ((u0_2)) ((w1)) ((u0_1)) ((u0_3)) ((u0_4)) ((y31_0_2)) ((w31_1)) ((y31_0_1)) ((y31_0_3)) ((y31_0_4)) (btw ((a1)) ((a2))) ∧ (0 ≤ (y31_0_3) ∧ (y31_0_3) < p2 ((y31_0_4))) ∧ (y31_0_1) + (y31_0_4) / 8 ≤ (n1) ∧ 8 * (y31_0_1) + (y31_0_4) = 8 * (u0_1) + (u0_4) + (a2))) → ((y31_0_4)).toNat = m → Ew 164 (d + 0) 31 ls [] σ c s Q from
    hl31 _ _ _ _ _  (rfl) H O (SF_refl) (SA_refl)   (u0_1) ((eu0_1)) (u0_2) ((eu0_2)) (qh) (rfl) ((u0_4 + a2)) (rfl) (w1) (ew1) (show 0 ≤ (u0_1) ∧ (u0_1) ≤ (n1) ∧ (n1) ≤ 65536 from h2) (show (u0_1) ≤ (u0_1) from q_43) (show 0 ≤ ((u0_4 + a2)) ∧ ((u0_4 + a2)) ≤ 40 from q_2931 h3 h4) (show IMP ((a2) ≤ 16 ∧ 0 ≤ (u0_3) ∧ (u0_3) < p2 ((u0_4)) ∧ (u0_1) + ((u0_4) + (a2)) / 8 ≤ (n1)) (RBA ((u0_2)) ((w1)) ((u0_1)) ((u0_3)) ((u0_4)) ((u0_2)) ((w1)) ((u0_1)) ((qh)) (((u0_4 + a2))) (btw ((a1)) ((a2))) ∧ (0 ≤ (qh) ∧ (qh) < p2 (((u0_4 + a2)))) ∧ (u0_1) + ((u0_4 + a2)) / 8 ≤ (n1) ∧ 8 * (u0_1) + ((u0_4 + a2)) = 8 * (u0_1) + (u0_4) + (a2)) by assumption) rfl
  as_aux_lemma =>
  intro m
  induction m using Nat.strongRecOn with
  | _ m ih31 =>
    intro ls σ F_31 A_31  l31_0 H O hS_31 hA_31   y31_0_1 ey31_0_1 y31_0_2 ey31_0_2 y31_0_3 ey31_0_3 y31_0_4 ey31_0_4 w31_1 ew31_1 j31_0 j31_1 j31_2 j31_3 hm31
    have cF_31 : SF oz_B1clsl_8 F F_31 := SF_trans (cFu12) hS_31 (any_sub (by decide +kernel))
    have mF_31 := SFm_of cF_31 oz_B1cls_28
    have cA_31 : SA oz_B1clsl_1 A A_31 := SA_trans (SA_refl) hA_31 (any_subA (by decide +kernel))
    have mA_31 := SAm_of cA_31 oz_B1cls_4
    have r13 : (-2147483648 : Int) ≤ y31_0_1 ∧ y31_0_1 ≤ 2147483647 := rngE (show (-2147483648 : Int) ≤ F_31 0 1 ∧ F_31 0 1 ≤ 2147483647 from H.krg 0 1 (ltn len_V164_oz_B1cls rfl)) (show F_31 0 1 = y31_0_1 from (ey31_0_1))
    have r14 : (0 : Int) ≤ y31_0_2 ∧ y31_0_2 ≤ 1 := rngE (show (0 : Int) ≤ F_31 0 2 ∧ F_31 0 2 ≤ 1 from H.krg 0 2 (ltn len_V164_oz_B1cls rfl)) (show F_31 0 2 = y31_0_2 from (ey31_0_2))
    have r15 : (-2147483648 : Int) ≤ y31_0_3 ∧ y31_0_3 ≤ 2147483647 := rngE (show (-2147483648 : Int) ≤ F_31 0 3 ∧ F_31 0 3 ≤ 2147483647 from H.krg 0 3 (ltn len_V164_oz_B1cls rfl)) (show F_31 0 3 = y31_0_3 from (ey31_0_3))
    have r16 : (-2147483648 : Int) ≤ y31_0_4 ∧ y31_0_4 ≤ 2147483647 := rngE (show (-2147483648 : Int) ≤ F_31 0 4 ∧ F_31 0 4 ≤ 2147483647 from H.krg 0 4 (ltn len_V164_oz_B1cls rfl)) (show F_31 0 4 = y31_0_4 from (ey31_0_4))
    have j31_q : IMP ((a2) ≤ 16 ∧ 0 ≤ (u0_3) ∧ (u0_3) < p2 ((u0_4)) ∧ (u0_1) + ((u0_4) + (a2)) / 8 ≤ (n1)) (RBA ((u0_2)) ((w1)) ((u0_1)) ((u0_3)) ((u0_4)) ((y31_0_2)) ((w31_1)) ((y31_0_1)) ((y31_0_3)) ((y31_0_4)) (btw ((a1)) ((a2))) ∧ (0 ≤ (y31_0_3) ∧ (y31_0_3) < p2 ((y31_0_4))) ∧ (y31_0_1) + (y31_0_4) / 8 ≤ (n1) ∧ 8 * (y31_0_1) + (y31_0_4) = 8 * (u0_1) + (u0_4) + (a2)) := j31_3
    refine Ew_of (pcₚ := 32) (fun _ => x_aload_n rfl l31_0) ?_
    refine v_g H (o := 0) (v := I (y31_0_4)) rfl rfl rfl rfl rfl (congrArg (fun z : Int => I z) ((ey31_0_4) : F_31 0 4 = y31_0_4)) ?_
    refine Ew_of (pcₚ := 37) (fun _ => x_bipush (z := 8) rfl (by decide)) ?_
    refine w_icmplt (t := 106) rfl rfl (show inr (y31_0_4) from q_2932 j31_2) (show inr (8) from q_141) (fun b17 => ?_) (fun b17 => ?_)
    · have : IMP ((a2) ≤ 16 ∧ 0 ≤ (u0_3) ∧ (u0_3) < p2 ((u0_4)) ∧ (u0_1) + ((u0_4) + (a2)) / 8 ≤ (n1)) (RBA ((u0_2)) ((w1)) ((u0_1)) ((u0_3)) ((u0_4)) ((y31_0_2)) ((w31_1)) ((y31_0_1)) ((y31_0_3)) ((y31_0_4)) (btw ((a1)) ((a2))) ∧ (0 ≤ (y31_0_3) ∧ (y31_0_3) < p2 ((y31_0_4))) ∧ 8 * (y31_0_1) + (y31_0_4) = 8 * (u0_1) + (u0_4) + (a2)) := fun q => by obtain ⟨t1, t2, t3, t4⟩ := j31_q q; exact ⟨t1, t2, t4⟩
      exact w_ret rfl (k _ _ _ H O (cF_31) (cA_31) (y31_0_1) ((ey31_0_1)) (y31_0_2) ((ey31_0_2)) (y31_0_3) ((ey31_0_3)) (y31_0_4) ((ey31_0_4)) (w31_1) (ew31_1) (show 0 ≤ (y31_0_1) ∧ (y31_0_1) ≤ (n1) ∧ (n1) ≤ 65536 from j31_0) (show (u0_1) ≤ (y31_0_1) from j31_1) (show 0 ≤ (y31_0_4) ∧ (y31_0_4) ≤ 7 from q_2933 b17 j31_2) (show IMP (a2 ≤ 16 ∧ 0 ≤ (u0_3) ∧ (u0_3) < p2 ((u0_4)) ∧ (u0_1) + ((u0_4) + a2) / 8 ≤ (n1)) (RBA ((u0_2)) ((w1)) ((u0_1)) ((u0_3)) ((u0_4)) ((y31_0_2)) ((w31_1)) ((y31_0_1)) ((y31_0_3)) ((y31_0_4)) (btw (a1) (a2)) ∧ (0 ≤ (y31_0_3) ∧ (y31_0_3) < p2 ((y31_0_4))) ∧ 8 * (y31_0_1) + (y31_0_4) = 8 * (u0_1) + (u0_4) + a2) by assumption))
    · refine Ew_of (pcₚ := 41) (fun _ => x_aload_n rfl l31_0) ?_
      refine v_g H (o := 0) (v := I (y31_0_1)) rfl rfl rfl rfl rfl (congrArg (fun z : Int => I z) ((ey31_0_1) : F_31 0 1 = y31_0_1)) ?_
      refine Ew_of (pcₚ := 45) (fun _ => x_aload_n rfl l31_0) ?_
      refine v_g H (o := 0) (v := .ref (D 1)) rfl rfl rfl rfl rfl (vrf ((mF_31 0 0 rfl).trans (pf1))) ?_
      refine v_len H (o := 1) rfl rfl rfl rfl (n := n1) (en1) ?_
      refine w_icmpge (t := 76) rfl rfl (show inr (y31_0_1) from q_38 j31_0) (show inr (n1) from q_2934 j31_0 r5) (fun b18 => ?_) (fun b18 => ?_)
      · refine Ew_of (pcₚ := 77) (fun _ => x_aload_n rfl l31_0) ?_
        refine Ew_of (pcₚ := 78) (fun _ => x_iconst rfl) ?_
        refine v_p H (o := 0) (z := 1) (v := I (1)) rfl rfl rfl rfl rfl rfl rfl (rfit_b (by omega)) (show (0 : Int) ≤ 1 ∧ 1 ≤ 1 from q_35) (fun σ H Oₚ => ?_)
        have O := OUT_trans O Oₚ
        have cFu19 : SF oz_B1clsl_8 F (updF F_31 0 2 (1)) := SF_upd (cF_31) rfl
        have mFu19 := SFm_of cFu19 oz_B1cls_28
        refine Ew_of (pcₚ := 82) (fun _ => x_aload_n rfl l31_0) ?_
        refine Ew_of (pcₚ := 83) (fun _ => x_dup rfl rfl) ?_
        refine v_g H (o := 0) (v := I (y31_0_3)) rfl rfl rfl rfl rfl (congrArg (fun z : Int => I z) ((ey31_0_3) : (updF F_31 0 2 (1)) 0 3 = y31_0_3)) ?_
        refine Ew_of (pcₚ := 88) (fun _ => x_bipush (z := 8) rfl (by decide)) ?_
        refine w_iushrE rfl ?_
        have g20 : inr (usI (y31_0_3) (8)) := toI_inr _
        obtain ⟨qu, hqu⟩ : ∃ q : Int, q = ((usI (y31_0_3) (8))) := ⟨_, rfl⟩
        rw [← hqu]
        have gqu : inr qu := by rw [hqu]; first | assumption | omega
        replace hqu : IMP True (qu = ((usI (y31_0_3) (8)))) := fun _ => hqu
        try clear g20
        refine v_p H (o := 0) (z := qu) (v := I (qu)) rfl rfl rfl rfl rfl rfl rfl rfl (show (-2147483648 : Int) ≤ qu ∧ qu ≤ 2147483647 from q_31 gqu) (fun σ H Oₚ => ?_)
        have O := OUT_trans O Oₚ
        have cFu21 : SF oz_B1clsl_8 F (updF (updF F_31 0 2 (1)) 0 3 (qu)) := SF_upd (cFu19) rfl
        have mFu21 := SFm_of cFu21 oz_B1cls_28
        refine Ew_of (pcₚ := 93) (fun _ => x_aload_n rfl l31_0) ?_
        refine Ew_of (pcₚ := 94) (fun _ => x_dup rfl rfl) ?_
        refine v_g H (o := 0) (v := I (y31_0_4)) rfl rfl rfl rfl rfl (congrArg (fun z : Int => I z) ((ey31_0_4) : (updF (updF F_31 0 2 (1)) 0 3 (qu)) 0 4 = y31_0_4)) ?_
        refine Ew_of (pcₚ := 99) (fun _ => x_bipush (z := 8) rfl (by decide)) ?_
        refine w_isub rfl ?_
        refine v_p H (o := 0) (z := (y31_0_4 - 8)) (v := I ((y31_0_4 - 8))) rfl rfl rfl rfl rfl rfl rfl rfl (show (-2147483648 : Int) ≤ (y31_0_4 - 8) ∧ (y31_0_4 - 8) ≤ 2147483647 from q_2935 b17 j31_2) (fun σ H Oₚ => ?_)
        have O := OUT_trans O Oₚ
        have cFu22 : SF oz_B1clsl_8 F (updF (updF (updF F_31 0 2 (1)) 0 3 (qu)) 0 4 ((y31_0_4 - 8))) := SF_upd (cFu21) rfl
        have mFu22 := SFm_of cFu22 oz_B1cls_28
        refine Ew_of (pcₚ := 31) (fun _ => x_goto rfl rfl) ?_
        have : IMP ((a2) ≤ 16 ∧ 0 ≤ (u0_3) ∧ (u0_3) < p2 ((u0_4)) ∧ (u0_1) + ((u0_4) + (a2)) / 8 ≤ (n1)) (RBA ((u0_2)) ((w1)) ((u0_1)) ((u0_3)) ((u0_4)) ((1)) ((w31_1)) ((y31_0_1)) ((qu)) (((y31_0_4 - 8))) (btw ((a1)) ((a2))) ∧ (0 ≤ (qu) ∧ (qu) < p2 (((y31_0_4 - 8)))) ∧ (y31_0_1) + ((y31_0_4 - 8)) / 8 ≤ (n1) ∧ 8 * (y31_0_1) + ((y31_0_4 - 8)) = 8 * (u0_1) + (u0_4) + (a2)) := fun q => by obtain ⟨t1, t2, t3, t4⟩ := j31_q q; have t2a := t2.1; have t2b := t2.2; first | (have e := (hqu trivial).trans (us8 (by omega)); exact ⟨RBA_out t1 (by omega) (by omega) hub rfl e rfl, by rw [e]; exact hd8 t2 (by omega) rfl, by omega, by omega⟩) | omega
        exact ih31 _ (msE hm31 q_2937 (q_2938 b17)) _ _ _ _  (l31_0) H O (SF_upd (SF_upd (SF_upd (hS_31) rfl) rfl) rfl) (hA_31)   (y31_0_1) ((ey31_0_1)) (1) (rfl) (qu) (rfl) ((y31_0_4 - 8)) (rfl) (w31_1) (ew31_1) (show 0 ≤ (y31_0_1) ∧ (y31_0_1) ≤ (n1) ∧ (n1) ≤ 65536 from j31_0) (show (u0_1) ≤ (y31_0_1) from j31_1) (show 0 ≤ ((y31_0_4 - 8)) ∧ ((y31_0_4 - 8)) ≤ 40 from q_2936 b17 j31_2) (show IMP ((a2) ≤ 16 ∧ 0 ≤ (u0_3) ∧ (u0_3) < p2 ((u0_4)) ∧ (u0_1) + ((u0_4) + (a2)) / 8 ≤ (n1)) (RBA ((u0_2)) ((w1)) ((u0_1)) ((u0_3)) ((u0_4)) ((1)) ((w31_1)) ((y31_0_1)) ((qu)) (((y31_0_4 - 8))) (btw ((a1)) ((a2))) ∧ (0 ≤ (qu) ∧ (qu) < p2 (((y31_0_4 - 8)))) ∧ (y31_0_1) + ((y31_0_4 - 8)) / 8 ≤ (n1) ∧ 8 * (y31_0_1) + ((y31_0_4 - 8)) = 8 * (u0_1) + (u0_4) + (a2)) by assumption) rfl
      · refine Ew_of (pcₚ := 53) (fun _ => x_aload_n rfl l31_0) ?_
        refine v_g H (o := 0) (v := .ref (D 1)) rfl rfl rfl rfl rfl (vrf ((mF_31 0 0 rfl).trans (pf1))) ?_
        refine Ew_of (pcₚ := 57) (fun _ => x_aload_n rfl l31_0) ?_
        refine Ew_of (pcₚ := 58) (fun _ => x_dup rfl rfl) ?_
        refine v_g H (o := 0) (v := I (y31_0_1)) rfl rfl rfl rfl rfl (congrArg (fun z : Int => I z) ((ey31_0_1) : F_31 0 1 = y31_0_1)) ?_
        refine Ew_of (pcₚ := 62) (fun _ => x_dup_x1 rfl rfl) ?_
        refine Ew_of (pcₚ := 63) (fun _ => x_iconst rfl) ?_
        refine w_iadd rfl ?_
        refine v_p H (o := 0) (z := (y31_0_1 + 1)) (v := I ((y31_0_1 + 1))) rfl rfl rfl rfl rfl rfl rfl rfl (show (-2147483648 : Int) ≤ (y31_0_1 + 1) ∧ (y31_0_1 + 1) ≤ 2147483647 from q_40 b18 j31_0) (fun σ H Oₚ => ?_)
        have O := OUT_trans O Oₚ
        have cFu23 : SF oz_B1clsl_8 F (updF F_31 0 1 ((y31_0_1 + 1))) := SF_upd (cF_31) rfl
        have mFu23 := SFm_of cFu23 oz_B1cls_28
        refine Ew_of (pcₚ := 68) (fun _ => x_aload_n rfl l31_0) ?_
        refine v_g H (o := 0) (v := I (y31_0_3)) rfl rfl rfl rfl rfl (congrArg (fun z : Int => I z) ((ey31_0_3) : (updF F_31 0 1 ((y31_0_1 + 1))) 0 3 = y31_0_3)) ?_
        refine v_i2b rfl (fun z24 gz24 uz24 => ?_)
        have hu_ := uz24
        refine v_sB H (o := 1) rfl rfl rfl rfl (n := n1) (en1) (show 0 ≤ y31_0_1 ∧ y31_0_1 < n1 from q_41 b18 j31_0) (fun z25 σ qz25 uz25 H Oₚ => ?_)
        have O := OUT_trans O Oₚ
        have cAu26 : SA oz_B1clsl_1 A (updA A_31 1 (y31_0_1) (z25)) := SA_upd (cA_31) rfl
        have mAu26 := SAm_of cAu26 oz_B1cls_4
        have hub := (uz25).trans hu_
        refine Ew_of (pcₚ := 81) (fun _ => x_goto rfl rfl) ?_
        refine Ew_of (pcₚ := 82) (fun _ => x_aload_n rfl l31_0) ?_
        refine Ew_of (pcₚ := 83) (fun _ => x_dup rfl rfl) ?_
        refine v_g H (o := 0) (v := I (y31_0_3)) rfl rfl rfl rfl rfl (congrArg (fun z : Int => I z) ((ey31_0_3) : (updF F_31 0 1 ((y31_0_1 + 1))) 0 3 = y31_0_3)) ?_
        refine Ew_of (pcₚ := 88) (fun _ => x_bipush (z := 8) rfl (by decide)) ?_
        refine w_iushrE rfl ?_
        have g27 : inr (usI (y31_0_3) (8)) := toI_inr _
        obtain ⟨qu, hqu⟩ : ∃ q : Int, q = ((usI (y31_0_3) (8))) := ⟨_, rfl⟩
        rw [← hqu]
        have gqu : inr qu := by rw [hqu]; first | assumption | omega
        replace hqu : IMP True (qu = ((usI (y31_0_3) (8)))) := fun _ => hqu
        try clear g27
        refine v_p H (o := 0) (z := qu) (v := I (qu)) rfl rfl rfl rfl rfl rfl rfl rfl (show (-2147483648 : Int) ≤ qu ∧ qu ≤ 2147483647 from q_31 gqu) (fun σ H Oₚ => ?_)
        have O := OUT_trans O Oₚ
        have cFu28 : SF oz_B1clsl_8 F (updF (updF F_31 0 1 ((y31_0_1 + 1))) 0 3 (qu)) := SF_upd (cFu23) rfl
        have mFu28 := SFm_of cFu28 oz_B1cls_28
        refine Ew_of (pcₚ := 93) (fun _ => x_aload_n rfl l31_0) ?_
        refine Ew_of (pcₚ := 94) (fun _ => x_dup rfl rfl) ?_
        refine v_g H (o := 0) (v := I (y31_0_4)) rfl rfl rfl rfl rfl (congrArg (fun z : Int => I z) ((ey31_0_4) : (updF (updF F_31 0 1 ((y31_0_1 + 1))) 0 3 (qu)) 0 4 = y31_0_4)) ?_
        refine Ew_of (pcₚ := 99) (fun _ => x_bipush (z := 8) rfl (by decide)) ?_
        refine w_isub rfl ?_
        refine v_p H (o := 0) (z := (y31_0_4 - 8)) (v := I ((y31_0_4 - 8))) rfl rfl rfl rfl rfl rfl rfl rfl (show (-2147483648 : Int) ≤ (y31_0_4 - 8) ∧ (y31_0_4 - 8) ≤ 2147483647 from q_2935 b17 j31_2) (fun σ H Oₚ => ?_)
        have O := OUT_trans O Oₚ
        have cFu29 : SF oz_B1clsl_8 F (updF (updF (updF F_31 0 1 ((y31_0_1 + 1))) 0 3 (qu)) 0 4 ((y31_0_4 - 8))) := SF_upd (cFu28) rfl
        have mFu29 := SFm_of cFu29 oz_B1cls_28
        refine Ew_of (pcₚ := 31) (fun _ => x_goto rfl rfl) ?_
        have : IMP ((a2) ≤ 16 ∧ 0 ≤ (u0_3) ∧ (u0_3) < p2 ((u0_4)) ∧ (u0_1) + ((u0_4) + (a2)) / 8 ≤ (n1)) (RBA ((u0_2)) ((w1)) ((u0_1)) ((u0_3)) ((u0_4)) ((y31_0_2)) ((upd1 (w31_1) (y31_0_1) (z25))) (((y31_0_1 + 1))) ((qu)) (((y31_0_4 - 8))) (btw ((a1)) ((a2))) ∧ (0 ≤ (qu) ∧ (qu) < p2 (((y31_0_4 - 8)))) ∧ ((y31_0_1 + 1)) + ((y31_0_4 - 8)) / 8 ≤ (n1) ∧ 8 * ((y31_0_1 + 1)) + ((y31_0_4 - 8)) = 8 * (u0_1) + (u0_4) + (a2)) := fun q => by obtain ⟨t1, t2, t3, t4⟩ := j31_q q; have t2a := t2.1; have t2b := t2.2; first | (have e := (hqu trivial).trans (us8 (by omega)); exact ⟨RBA_out t1 (by omega) (by omega) hub rfl e rfl, by rw [e]; exact hd8 t2 (by omega) rfl, by omega, by omega⟩) | omega
        exact ih31 _ (msE hm31 q_2937 (q_2938 b17)) _ _ _ _  (l31_0) H O (SF_upd (SF_upd (SF_upd (hS_31) rfl) rfl) rfl) (SA_upd (hA_31) rfl)   ((y31_0_1 + 1)) (rfl) (y31_0_2) ((ey31_0_2)) (qu) (rfl) ((y31_0_4 - 8)) (rfl) (upd1 (w31_1) (y31_0_1) (z25)) (congrArg (fun q => upd1 q (y31_0_1) (z25)) (ew31_1)) (show 0 ≤ ((y31_0_1 + 1)) ∧ ((y31_0_1 + 1)) ≤ (n1) ∧ (n1) ≤ 65536 from q_42 b18 j31_0) (show (u0_1) ≤ ((y31_0_1 + 1)) from q_161 j31_1) (show 0 ≤ ((y31_0_4 - 8)) ∧ ((y31_0_4 - 8)) ≤ 40 from q_2936 b17 j31_2) (show IMP ((a2) ≤ 16 ∧ 0 ≤ (u0_3) ∧ (u0_3) < p2 ((u0_4)) ∧ (u0_1) + ((u0_4) + (a2)) / 8 ≤ (n1)) (RBA ((u0_2)) ((w1)) ((u0_1)) ((u0_3)) ((u0_4)) ((y31_0_2)) ((upd1 (w31_1) (y31_0_1) (z25))) (((y31_0_1 + 1))) ((qu)) (((y31_0_4 - 8))) (btw ((a1)) ((a2))) ∧ (0 ≤ (qu) ∧ (qu) < p2 (((y31_0_4 - 8)))) ∧ ((y31_0_1 + 1)) + ((y31_0_4 - 8)) / 8 ≤ (n1) ∧ 8 * ((y31_0_1 + 1)) + ((y31_0_4 - 8)) = 8 * (u0_1) + (u0_4) + (a2)) by assumption) rfl
abbrev V163_Row : vV := [(0, 7, [(4, 0), (0, 0), (1, 0), (0, 0), (0, 0)]), (0, 7, [(4, 0), (0, 0), (1, 0), (0, 0), (0, 0)]), (1, 0, []), (1, 0, [])]
theorem len_V163_Row_oz_B1cls : (V163_Row).length = 4 := by decide +kernel
theorem oz_B1cls_30 : vsub V163_Row V157 [0, 2] = true := by decide +kernel
theorem oz_B1cls_31 : vmov V163_Row [0, 2] [1] = true := by decide +kernel

theorem C163_Row {σE : rS} {D N : Nat → Nat} {F : hF} {A : hA} {d c s : Nat} {Q : wQ} (H : HW V163_Row σE D N F A) {a1 a2 a3 : Int} (pf2 : F 0 0 = (D 2 : Int)) (pf3 : F 1 0 = (D 3 : Int)) (n2 : Int) (en2 : (N 2 : Int) = n2) (n3 : Int) (en3 : (N 3 : Int) = n3) (u0_1 : Int) (eu0_1 : F 0 1 = u0_1) (u0_2 : Int) (eu0_2 : F 0 2 = u0_2) (u1_1 : Int) (eu1_1 : F 1 1 = u1_1) (w2 : Int → Int) (ew2 : A 2 = w2) (w3 : Int → Int) (ew3 : A 3 = w3) (h0 : inr (a1)) (h1 : inr (a2)) (h2 : inr (a3)) (h3 : 0 ≤ (u0_1) ∧ (u0_1) ≤ (n2) ∧ (n2) ≤ 65536) (h4 : 0 ≤ (u1_1) ∧ (u1_1) ≤ (n3) ∧ (n3) ≤ 65536) (h5 : 0 ≤ (a3) ∧ (a3) ≤ (u0_1)) (h6 : (a2) < 0 ∨ 1 ≤ (a1) ∧ ((a1) ≤ (u0_1) - (a3) ∨ (a1) - ((u0_1) - (a3)) ≤ (u1_1))) (k : ∀ (σ : rS) (Dₚ Nₚ : Nat → Nat) (Fₚ : hF) (Aₚ : hA) (cₚ sₚ : Nat), HW V163_Row σ Dₚ Nₚ Fₚ Aₚ → OUT (V163_Row).length D N σE c s Dₚ Nₚ σ cₚ sₚ → SD [2] D Dₚ → SD [2] N Nₚ → SF [(0, 0), (0, 1), (0, 2)] F Fₚ → SA [2] A Aₚ → Fₚ 0 0 = (Dₚ 2 : Int) → ∀ m2 : Int, (Nₚ 2 : Int) = m2 → ∀ y0_1 : Int, Fₚ 0 1 = y0_1 → ∀ y0_2 : Int, Fₚ 0 2 = y0_2 → ∀ v2 : Int → Int, Aₚ 2 = v2 → (0 ≤ (y0_1) ∧ (y0_1) ≤ (m2) ∧ (m2) ≤ 65536) → ((y0_1) = (u0_1) + (a2) ∧ 0 ≤ (a2) ∨ (y0_1) = (u0_1) ∧ ((a2) < 0 ∨ 65536 < (u0_1) + (a2))) → (∀ i, (0 : Int) ≤ i → i < (u0_1) → ((v2)) i = ((w2)) i) → ((y0_2) = (u0_2) ∨ (a2) < 0 ∨ 65536 < (u0_1) + (a2)) → (IMP ((0 : Int) ≤ (a2) ∧ (u0_1) + (a2) ≤ 65536) (sc ((w3)) 0 ((u1_1)) ++ sc ((v2)) ((a3)) ((y0_1)) = cpb (sc ((w3)) 0 ((u1_1)) ++ sc ((w2)) ((a3)) ((u0_1))) ((a1)) ((a2) : Int).toNat)) → Q none σ cₚ sₚ) : Ew 163 (d + 2) 0 (rargs 0 [.ref (D 0), I a1, I a2, I a3, .ref (D 1)]) [] σE c s Q := by
  have O := OUT_refl (n := (V163_Row).length) (D := D) (N := N) (σ := σE) (c := c) (s := s)
  have HE := H
  have r1 : (-2147483648 : Int) ≤ u0_1 ∧ u0_1 ≤ 2147483647 := rngE (show (-2147483648 : Int) ≤ F 0 1 ∧ F 0 1 ≤ 2147483647 from H.krg 0 1 (ltn len_V163_Row_oz_B1cls rfl)) (show F 0 1 = u0_1 from (eu0_1))
  have r2 : (0 : Int) ≤ u0_2 ∧ u0_2 ≤ 1 := rngE (show (0 : Int) ≤ F 0 2 ∧ F 0 2 ≤ 1 from H.krg 0 2 (ltn len_V163_Row_oz_B1cls rfl)) (show F 0 2 = u0_2 from (eu0_2))
  have r3 : (-2147483648 : Int) ≤ u1_1 ∧ u1_1 ≤ 2147483647 := rngE (show (-2147483648 : Int) ≤ F 1 1 ∧ F 1 1 ≤ 2147483647 from H.krg 1 1 (ltn len_V163_Row_oz_B1cls rfl)) (show F 1 1 = u1_1 from (eu1_1))
  have r4 : (0 : Int) ≤ n2 ∧ n2 ≤ 1000000 := nleE (H.nle 2 (ltn len_V163_Row_oz_B1cls rfl)) (show (N 2 : Int) = n2 from en2)
  have r5 : (0 : Int) ≤ n3 ∧ n3 ≤ 1000000 := nleE (H.nle 3 (ltn len_V163_Row_oz_B1cls rfl)) (show (N 3 : Int) = n3 from en3)
  refine Ew_of (pcₚ := 1) (fun _ => x_aload_n rfl rfl) ?_
  refine Ew_of (pcₚ := 2) (fun _ => x_iload_n rfl rfl) ?_
  refine v_inv H (o := 0) rfl rfl rfl rfl rfl rfl (by rfl) (C157 (D := puc 1024 D) (N := puc 1024 N) (HW_subc H oz_B1cls_30 oz_B1cls_13) (pf2) (n2) (en2) (u0_1) ((eu0_1)) (w2) (ew2) (show inr (a2) from h1) (show 0 ≤ (u0_1) ∧ (u0_1) ≤ (n2) ∧ (n2) ≤ 65536 from h3) (fun z6 σ6 D6ₚ N6ₚ F6ₚ A6ₚ c6 s6 Hₚ Oₚ hD6 hN6 hS6 hA6 pm6_1 m6_1 em6_1 w6_1 ew6_1 pz6_0 pz6_1 pz6_2 pz6_3 pz6_4 => ⟨rretB rfl pz6_0, ?_⟩))
  refine v_backMc (c := c) (s := s) H oz_B1cls_30 oz_B1cls_13 Hₚ Oₚ hD6 oz_B1cls_31 (fun D6 N6 F6 A6 H Oₚ eD6 eN6 eF6 eA6 => ?_)
  have O := OUT_trans O Oₚ
  -- Row.reserve
  have cF6 : SF oz_B1clsl_0 F F6 := SF_trans (SF_refl) (SF_gluc (ι := oz_B1clsl_4) oz_B1cls_13 hS6 eF6 (by decide +kernel)) (any_sub (lₚ := [(0, 0)]) (by decide +kernel))
  have mF6 := SFm_of cF6 oz_B1cls_3
  have cA6 : SA oz_B1clsl_3 A A6 := SA_trans (SA_refl) (SA_gluc (ι := oz_B1clsl_4) oz_B1cls_13 hA6 eA6 (by decide +kernel)) (any_subA (lₚ := [2]) (by decide +kernel))
  have mA6 := SAm_of cA6 oz_B1cls_12
  have cD6 : SD oz_B1clsl_3 D D6 := SD_trans (SD_refl) (SD_gluc (ι := oz_B1clsl_4) oz_B1cls_13 hD6 eD6 (by decide +kernel)) (any_subA (lₚ := [2]) (by decide +kernel))
  have mD6 := SDm_of cD6 oz_B1cls_12
  have cN6 : SD oz_B1clsl_3 N N6 := SD_trans (SD_refl) (SD_gluc (ι := oz_B1clsl_4) oz_B1cls_13 hN6 eN6 (by decide +kernel)) (any_subA (lₚ := [2]) (by decide +kernel))
  have mN6 := SDm_of cN6 oz_B1cls_12
  have pf6_0_0 : F6 0 0 = (D6 2 : Int) := (eF6 0 0).trans (pm6_1.trans (congrArg (fun q : Nat => (q : Int)) (eD6 2).symm))
  have r7 : (0 : Int) ≤ m6_1 ∧ m6_1 ≤ 1000000 := nleE (H.nle 2 (ltn len_V163_Row_oz_B1cls rfl)) (show (N6 2 : Int) = m6_1 from (congrArg (fun q : Nat => (q : Int)) (eN6 2)).trans em6_1)
  have hsr := pz6_4
  refine w_ifne (t := 14) rfl rfl (show inr (z6) from q_138 pz6_0) (fun b8 => ?_) (fun b8 => ?_)
  · refine Ew_of (pcₚ := 15) (fun _ => x_iconst rfl) ?_
    refine Ew_of (pcₚ := 17) (fun _ => x_istore rfl) ?_
    have : ∀ i, (0 : Int) ≤ i → i < (u0_1) → ((w6_1)) i = ((w2)) i := hsr
    have : sc ((w3)) 0 ((u1_1)) ++ sc ((w6_1)) ((a3)) ((u0_1)) = cpb (sc ((w3)) 0 ((u1_1)) ++ sc ((w2)) ((a3)) ((u0_1))) ((a1)) (0 : Int).toNat := by rw [sc_same (g := (w2)) (fun i a b => hsr i (by omega) b)]; rfl
    suffices hl17 : ∀ (m : Nat), ∀ (ls : rO) (σ : rS) (F_17 : hF) (A_17 : hA) (x17_5 : Int), rlook ls 0 = some (.ref (D6 0)) → rlook ls 1 = some (I (a1)) → rlook ls 2 = some (I (a2)) → rlook ls 3 = some (I (a3)) → rlook ls 4 = some (.ref (D6 1)) → rlook ls 5 = some (I (x17_5)) → HW V163_Row σ D6 N6 F_17 A_17 → OUT (V163_Row).length D N σE c s D6 N6 σ (c + c6) (s + s6) → SF [(0, 1)] F6 F_17 → SA [2] A6 A_17 → ∀ y17_0_1 : Int, F_17 0 1 = y17_0_1 → ∀ w17_2 : Int → Int, A_17 2 = w17_2 → (inr (x17_5)) → ((0) ≤ (x17_5)) → ((x17_5) ≤ (0) ∨ (x17_5) ≤ ((a2))) → ((y17_0_1) = (u0_1) + (x17_5)) → ((u0_1) + (a2) ≤ (m6_1) ∧ (m6_1) ≤ 65536) → (∀ i, (0 : Int) ≤ i → i < (u0_1) → ((w17_2)) i = ((w2)) i) → (sc ((w3)) 0 ((u1_1)) ++ sc ((w17_2)) ((a3)) ((y17_0_1)) = cpb (sc ((w3)) 0 ((u1_1)) ++ sc ((w2)) ((a3)) ((u0_1))) ((a1)) ((x17_5) : Int).toNat) → (((a2)) - (x17_5)).toNat = m → Ew 163 (d + 2) 17 ls [] σ (c + c6) (s + s6) Q from
      hl17 _ _ _ _ _ (0) ((rk_o (rfl) rfl rfl).trans (congrArg (fun q : Nat => some (Value.ref q)) (mD6 0 rfl).symm)) (rk_o (rfl) rfl rfl) (rk_o (rfl) rfl rfl) (rk_o (rfl) rfl rfl) ((rk_o (rfl) rfl rfl).trans (congrArg (fun q : Nat => some (Value.ref q)) (mD6 1 rfl).symm)) (rk_s) H O (SF_refl) (SA_refl)   (u0_1) ((((show F6 0 1 = F 0 1 from (eF6 0 1).trans (hS6 0 1 rfl))).trans (eu0_1))) (w6_1) ((eA6 2).trans ew6_1) (show inr (0) from q_2) (show (0) ≤ (0) from q_1) (show (0) ≤ (0) ∨ (0) ≤ ((a2)) from q_5) (show (u0_1) = (u0_1) + (0) from q_365) (show (u0_1) + (a2) ≤ (m6_1) ∧ (m6_1) ≤ 65536 by omega) (show ∀ i, (0 : Int) ≤ i → i < (u0_1) → ((w6_1)) i = ((w2)) i by assumption) (show sc ((w3)) 0 ((u1_1)) ++ sc ((w6_1)) ((a3)) ((u0_1)) = cpb (sc ((w3)) 0 ((u1_1)) ++ sc ((w2)) ((a3)) ((u0_1))) ((a1)) ((0) : Int).toNat by assumption) rfl
    as_aux_lemma =>
    intro m
    induction m using Nat.strongRecOn with
    | _ m ih17 =>
      intro ls σ F_17 A_17 x17_5 l17_0 l17_1 l17_2 l17_3 l17_4 l17_5 H O hS_17 hA_17   y17_0_1 ey17_0_1 w17_2 ew17_2 j17_0 j17_1 j17_2 j17_3 j17_4 j17_5 j17_6 hm17
      have cF_17 : SF oz_B1clsl_0 F F_17 := SF_trans (cF6) hS_17 (any_sub (by decide +kernel))
      have mF_17 := SFm_of cF_17 oz_B1cls_3
      have cA_17 : SA oz_B1clsl_3 A A_17 := SA_trans (cA6) hA_17 (any_subA (by decide +kernel))
      have mA_17 := SAm_of cA_17 oz_B1cls_12
      have r9 : (-2147483648 : Int) ≤ y17_0_1 ∧ y17_0_1 ≤ 2147483647 := rngE (show (-2147483648 : Int) ≤ F_17 0 1 ∧ F_17 0 1 ≤ 2147483647 from H.krg 0 1 (ltn len_V163_Row_oz_B1cls rfl)) (show F_17 0 1 = y17_0_1 from (ey17_0_1))
      have j17_s : ∀ i, (0 : Int) ≤ i → i < (u0_1) → ((w17_2)) i = ((w2)) i := by assumption
      have j17_c : sc ((w3)) 0 ((u1_1)) ++ sc ((w17_2)) ((a3)) ((y17_0_1)) = cpb (sc ((w3)) 0 ((u1_1)) ++ sc ((w2)) ((a3)) ((u0_1))) ((a1)) ((x17_5) : Int).toNat := by assumption
      refine Ew_of (pcₚ := 19) (fun _ => x_iload rfl l17_5) ?_
      refine Ew_of (pcₚ := 20) (fun _ => x_iload_n rfl l17_2) ?_
      refine w_icmpge (t := 85) rfl rfl (show inr (x17_5) from j17_0) (show inr (a2) from h1) (fun b10 => ?_) (fun b10 => ?_)
      · have : IMP ((0 : Int) ≤ (a2) ∧ (u0_1) + (a2) ≤ 65536) (sc ((w3)) 0 ((u1_1)) ++ sc ((w17_2)) ((a3)) ((y17_0_1)) = cpb (sc ((w3)) 0 ((u1_1)) ++ sc ((w2)) ((a3)) ((u0_1))) ((a1)) ((a2) : Int).toNat) := fun _ => by rw [show (a2) = (x17_5) by omega]; exact j17_c
        exact w_ret rfl (k _ _ _ _ _ _ _ H O (cD6) (cN6) (cF_17) (cA_17) (((hS_17 0 0 rfl)).trans (pf6_0_0)) (m6_1) ((congrArg (fun q : Nat => (q : Int)) (eN6 2)).trans em6_1) (y17_0_1) ((ey17_0_1)) (u0_2) ((((hS_17 0 2 rfl).trans ((show F6 0 2 = F 0 2 from (eF6 0 2).trans (hS6 0 2 rfl)))).trans (eu0_2))) (w17_2) (ew17_2) (show 0 ≤ (y17_0_1) ∧ (y17_0_1) ≤ (m6_1) ∧ (m6_1) ≤ 65536 by omega) (show (y17_0_1) = (u0_1) + a2 ∧ 0 ≤ a2 ∨ (y17_0_1) = (u0_1) ∧ (a2 < 0 ∨ 65536 < (u0_1) + a2) by omega) (j17_s) (show (u0_2) = (u0_2) ∨ a2 < 0 ∨ 65536 < (u0_1) + a2 from q_2939) (show IMP ((0 : Int) ≤ a2 ∧ (u0_1) + a2 ≤ 65536) (sc ((w3)) 0 ((u1_1)) ++ sc ((w17_2)) (a3) ((y17_0_1)) = cpb (sc ((w3)) 0 ((u1_1)) ++ sc ((w2)) (a3) ((u0_1))) (a1) (a2 : Int).toNat) by assumption))
      · refine Ew_of (pcₚ := 24) (fun _ => x_aload_n rfl l17_0) ?_
        refine v_g H (o := 0) (v := I (y17_0_1)) rfl rfl rfl rfl rfl (congrArg (fun z : Int => I z) ((ey17_0_1) : F_17 0 1 = y17_0_1)) ?_
        refine Ew_of (pcₚ := 28) (fun _ => x_iload_n rfl l17_1) ?_
        refine w_isub rfl ?_
        refine Ew_of (pcₚ := 31) (fun _ => x_istore rfl) ?_
        refine Ew_of (pcₚ := 32) (fun _ => x_aload_n rfl (rk_o (l17_0) rfl rfl)) ?_
        refine v_g H (o := 0) (v := .ref (D6 2)) rfl rfl rfl rfl rfl (vrf (((hS_17 0 0 rfl)).trans (pf6_0_0))) ?_
        refine Ew_of (pcₚ := 36) (fun _ => x_aload_n rfl (rk_o (l17_0) rfl rfl)) ?_
        refine Ew_of (pcₚ := 37) (fun _ => x_dup rfl rfl) ?_
        refine v_g H (o := 0) (v := I (y17_0_1)) rfl rfl rfl rfl rfl (congrArg (fun z : Int => I z) ((ey17_0_1) : F_17 0 1 = y17_0_1)) ?_
        refine Ew_of (pcₚ := 41) (fun _ => x_dup_x1 rfl rfl) ?_
        refine Ew_of (pcₚ := 42) (fun _ => x_iconst rfl) ?_
        refine w_iadd rfl ?_
        refine v_p H (o := 0) (z := (y17_0_1 + 1)) (v := I ((y17_0_1 + 1))) rfl rfl rfl rfl rfl rfl rfl rfl (show (-2147483648 : Int) ≤ (y17_0_1 + 1) ∧ (y17_0_1 + 1) ≤ 2147483647 from q_2924 b10 j17_3 j17_4 r9) (fun σ H Oₚ => ?_)
        have O := OUT_trans O Oₚ
        have cFu11 : SF oz_B1clsl_0 F (updF F_17 0 1 ((y17_0_1 + 1))) := SF_upd (cF_17) rfl
        have mFu11 := SFm_of cFu11 oz_B1cls_3
        refine Ew_of (pcₚ := 48) (fun _ => x_iload rfl rk_s) ?_
        refine Ew_of (pcₚ := 49) (fun _ => x_iload_n rfl (rk_o (l17_3) rfl rfl)) ?_
        refine w_icmplt (t := 62) rfl rfl (show inr ((y17_0_1 - a1)) from q_2940 b10 h0 h6 j17_1 j17_3 j17_4 pz6_1 r9) (show inr (a3) from h2) (fun b12 => ?_) (fun b12 => ?_)
        · refine Ew_of (pcₚ := 64) (fun _ => x_aload rfl (rk_o (l17_4) rfl rfl)) ?_
          refine v_g H (o := 1) (v := .ref (D6 3)) rfl rfl rfl rfl rfl (vrf ((mFu11 1 0 rfl).trans ((pf3).trans (congrArg (fun q : Nat => (q : Int)) (mD6 3 rfl).symm)))) ?_
          refine Ew_of (pcₚ := 69) (fun _ => x_aload rfl (rk_o (l17_4) rfl rfl)) ?_
          refine v_g H (o := 1) (v := I (u1_1)) rfl rfl rfl rfl rfl (congrArg (fun z : Int => I z) (((mFu11 1 1 rfl).trans (eu1_1)) : (updF F_17 0 1 ((y17_0_1 + 1))) 1 1 = u1_1)) ?_
          refine Ew_of (pcₚ := 74) (fun _ => x_iload rfl rk_s) ?_
          refine w_iadd rfl ?_
          refine Ew_of (pcₚ := 76) (fun _ => x_iload_n rfl (rk_o (l17_3) rfl rfl)) ?_
          refine w_isub rfl ?_
          refine v_lB H (o := 3) rfl rfl rfl rfl (n := n3) ((congrArg (fun q : Nat => (q : Int)) (mN6 3 rfl)).trans (en3)) (show 0 ≤ ((u1_1 + (y17_0_1 - a1)) - a3) ∧ ((u1_1 + (y17_0_1 - a1)) - a3) < n3 from q_2941 b10 b12 h0 h4 h5 h6 j17_1 j17_3) (fun v13 ev13 qv13 => ?_)
          have ev13 : (w3) (((u1_1 + (y17_0_1 - a1)) - a3)) = v13 := (congrFun ((funext (mA_17 3 rfl)).trans (ew3)) (((u1_1 + (y17_0_1 - a1)) - a3))).symm.trans ev13
          have hv := ev13
          refine v_sB H (o := 2) rfl rfl rfl rfl (n := m6_1) ((congrArg (fun q : Nat => (q : Int)) (eN6 2)).trans em6_1) (show 0 ≤ y17_0_1 ∧ y17_0_1 < m6_1 from q_2925 b10 j17_1 j17_3 j17_4 pz6_1) (fun z14 σ qz14 uz14 H Oₚ => ?_)
          have O := OUT_trans O Oₚ
          have cAu15 : SA oz_B1clsl_3 A (updA A_17 2 (y17_0_1) (z14)) := SA_upd (cA_17) rfl
          have mAu15 := SAm_of cAu15 oz_B1cls_12
          have hus := uz14
          refine Ew_of (pcₚ := 82) (fun _ => x_iinc (len := 3) rfl (rk_o (l17_5) rfl rfl)) ?_
          refine Ew_of (pcₚ := 17) (fun _ => x_goto rfl rfl) ?_
          have : ∀ i, (0 : Int) ≤ i → i < (u0_1) → ((upd1 (w17_2) (y17_0_1) (z14))) i = ((w2)) i := fun i x y => (upd1_o (by omega)).trans (j17_s i x y)
          have : sc ((w3)) 0 ((u1_1)) ++ sc ((upd1 (w17_2) (y17_0_1) (z14))) ((a3)) (((y17_0_1 + 1))) = cpb (sc ((w3)) 0 ((u1_1)) ++ sc ((w2)) ((a3)) ((u0_1))) ((a1)) (((x17_5 + 1)) : Int).toNat := by first | exact CBK_hi j17_c (by omega) (by omega) (by omega) (by omega) (by omega) hv hus (by omega) (by omega) | exact CBK_lo j17_c (by omega) (by omega) (by omega) (by omega) (by omega) (by omega) (by omega) hv hus (by omega) (by omega)
          exact ih17 _ (msE hm17 q_16 (q_17 b10)) _ _ _ _ ((x17_5 + 1)) (rk_o (rk_o (l17_0) rfl rfl) rfl rfl) (rk_o (rk_o (l17_1) rfl rfl) rfl rfl) (rk_o (rk_o (l17_2) rfl rfl) rfl rfl) (rk_o (rk_o (l17_3) rfl rfl) rfl rfl) (rk_o (rk_o (l17_4) rfl rfl) rfl rfl) (rk_s) H O (SF_upd (hS_17) rfl) (SA_upd (hA_17) rfl)   ((y17_0_1 + 1)) (rfl) (upd1 (w17_2) (y17_0_1) (z14)) (congrArg (fun q => upd1 q (y17_0_1) (z14)) (ew17_2)) (show inr ((x17_5 + 1)) from q_2942 b10 j17_1 j17_4 pz6_1) (show (0) ≤ ((x17_5 + 1)) from q_14 j17_1) (show ((x17_5 + 1)) ≤ (0) ∨ ((x17_5 + 1)) ≤ ((a2)) from q_13 b10) (show ((y17_0_1 + 1)) = (u0_1) + ((x17_5 + 1)) from q_541 j17_3) (show (u0_1) + (a2) ≤ (m6_1) ∧ (m6_1) ≤ 65536 from j17_4) (show ∀ i, (0 : Int) ≤ i → i < (u0_1) → ((upd1 (w17_2) (y17_0_1) (z14))) i = ((w2)) i by assumption) (show sc ((w3)) 0 ((u1_1)) ++ sc ((upd1 (w17_2) (y17_0_1) (z14))) ((a3)) (((y17_0_1 + 1))) = cpb (sc ((w3)) 0 ((u1_1)) ++ sc ((w2)) ((a3)) ((u0_1))) ((a1)) (((x17_5 + 1)) : Int).toNat by assumption) rfl
        · refine Ew_of (pcₚ := 53) (fun _ => x_aload_n rfl (rk_o (l17_0) rfl rfl)) ?_
          refine v_g H (o := 0) (v := .ref (D6 2)) rfl rfl rfl rfl rfl (vrf (((hS_17 0 0 rfl)).trans (pf6_0_0))) ?_
          refine Ew_of (pcₚ := 58) (fun _ => x_iload rfl rk_s) ?_
          refine v_lB H (o := 2) rfl rfl rfl rfl (n := m6_1) ((congrArg (fun q : Nat => (q : Int)) (eN6 2)).trans em6_1) (show 0 ≤ (y17_0_1 - a1) ∧ (y17_0_1 - a1) < m6_1 by omega) (fun v16 ev16 qv16 => ?_)
          have ev16 : (w17_2) ((y17_0_1 - a1)) = v16 := (congrFun (ew17_2) ((y17_0_1 - a1))).symm.trans ev16
          refine Ew_of (pcₚ := 78) (fun _ => x_goto rfl rfl) ?_
          have hv := ev16
          refine v_sB H (o := 2) rfl rfl rfl rfl (n := m6_1) ((congrArg (fun q : Nat => (q : Int)) (eN6 2)).trans em6_1) (show 0 ≤ y17_0_1 ∧ y17_0_1 < m6_1 from q_2925 b10 j17_1 j17_3 j17_4 pz6_1) (fun z17 σ qz17 uz17 H Oₚ => ?_)
          have O := OUT_trans O Oₚ
          have cAu18 : SA oz_B1clsl_3 A (updA A_17 2 (y17_0_1) (z17)) := SA_upd (cA_17) rfl
          have mAu18 := SAm_of cAu18 oz_B1cls_12
          have hus := uz17
          refine Ew_of (pcₚ := 82) (fun _ => x_iinc (len := 3) rfl (rk_o (l17_5) rfl rfl)) ?_
          refine Ew_of (pcₚ := 17) (fun _ => x_goto rfl rfl) ?_
          have : ∀ i, (0 : Int) ≤ i → i < (u0_1) → ((upd1 (w17_2) (y17_0_1) (z17))) i = ((w2)) i := fun i x y => (upd1_o (by omega)).trans (j17_s i x y)
          have : sc ((w3)) 0 ((u1_1)) ++ sc ((upd1 (w17_2) (y17_0_1) (z17))) ((a3)) (((y17_0_1 + 1))) = cpb (sc ((w3)) 0 ((u1_1)) ++ sc ((w2)) ((a3)) ((u0_1))) ((a1)) (((x17_5 + 1)) : Int).toNat := by first | exact CBK_hi j17_c (by omega) (by omega) (by omega) (by omega) (by omega) hv hus (by omega) (by omega) | exact CBK_lo j17_c (by omega) (by omega) (by omega) (by omega) (by omega) (by omega) (by omega) hv hus (by omega) (by omega)
          exact ih17 _ (msE hm17 q_16 (q_17 b10)) _ _ _ _ ((x17_5 + 1)) (rk_o (rk_o (l17_0) rfl rfl) rfl rfl) (rk_o (rk_o (l17_1) rfl rfl) rfl rfl) (rk_o (rk_o (l17_2) rfl rfl) rfl rfl) (rk_o (rk_o (l17_3) rfl rfl) rfl rfl) (rk_o (rk_o (l17_4) rfl rfl) rfl rfl) (rk_s) H O (SF_upd (hS_17) rfl) (SA_upd (hA_17) rfl)   ((y17_0_1 + 1)) (rfl) (upd1 (w17_2) (y17_0_1) (z17)) (congrArg (fun q => upd1 q (y17_0_1) (z17)) (ew17_2)) (show inr ((x17_5 + 1)) from q_2942 b10 j17_1 j17_4 pz6_1) (show (0) ≤ ((x17_5 + 1)) from q_14 j17_1) (show ((x17_5 + 1)) ≤ (0) ∨ ((x17_5 + 1)) ≤ ((a2)) from q_13 b10) (show ((y17_0_1 + 1)) = (u0_1) + ((x17_5 + 1)) from q_541 j17_3) (show (u0_1) + (a2) ≤ (m6_1) ∧ (m6_1) ≤ 65536 from j17_4) (show ∀ i, (0 : Int) ≤ i → i < (u0_1) → ((upd1 (w17_2) (y17_0_1) (z17))) i = ((w2)) i by assumption) (show sc ((w3)) 0 ((u1_1)) ++ sc ((upd1 (w17_2) (y17_0_1) (z17))) ((a3)) (((y17_0_1 + 1))) = cpb (sc ((w3)) 0 ((u1_1)) ++ sc ((w2)) ((a3)) ((u0_1))) ((a1)) (((x17_5 + 1)) : Int).toNat by assumption) rfl
  · refine Ew_of (pcₚ := 9) (fun _ => x_aload_n rfl rfl) ?_
    refine Ew_of (pcₚ := 10) (fun _ => x_iconst rfl) ?_
    refine Ew_stk (congrArg (fun qz : Nat => ([I (1), .ref qz] : List Value)) (show D6 0 = D 0 from mD6 0 rfl).symm) ?_
    refine v_p H (o := 0) (z := 1) (v := I (1)) rfl rfl rfl rfl rfl rfl rfl (rfit_b (by omega)) (show (0 : Int) ≤ 1 ∧ 1 ≤ 1 from q_35) (fun σ H Oₚ => ?_)
    have O := OUT_trans O Oₚ
    have cFu19 : SF oz_B1clsl_0 F (updF F6 0 2 (1)) := SF_upd (cF6) rfl
    have mFu19 := SFm_of cFu19 oz_B1cls_3
    have : IMP ((0 : Int) ≤ (a2) ∧ (u0_1) + (a2) ≤ 65536) (sc ((w3)) 0 ((u1_1)) ++ sc ((w6_1)) ((a3)) ((u0_1)) = cpb (sc ((w3)) 0 ((u1_1)) ++ sc ((w2)) ((a3)) ((u0_1))) ((a1)) ((a2) : Int).toNat) := fun z => absurd z (by omega)
    have : ∀ i, (0 : Int) ≤ i → i < (u0_1) → ((w6_1)) i = ((w2)) i := hsr
    exact w_ret rfl (k _ _ _ _ _ _ _ H O (cD6) (cN6) (cFu19) (cA6) (pf6_0_0) (m6_1) ((congrArg (fun q : Nat => (q : Int)) (eN6 2)).trans em6_1) (u0_1) ((((show F6 0 1 = F 0 1 from (eF6 0 1).trans (hS6 0 1 rfl))).trans (eu0_1))) (1) (rfl) (w6_1) ((eA6 2).trans ew6_1) (show 0 ≤ (u0_1) ∧ (u0_1) ≤ (m6_1) ∧ (m6_1) ≤ 65536 from pz6_1) (show (u0_1) = (u0_1) + a2 ∧ 0 ≤ a2 ∨ (u0_1) = (u0_1) ∧ (a2 < 0 ∨ 65536 < (u0_1) + a2) by omega) (show ∀ i, (0 : Int) ≤ i → i < (u0_1) → ((w6_1)) i = ((w2)) i by assumption) (show (1) = (u0_2) ∨ a2 < 0 ∨ 65536 < (u0_1) + a2 by omega) (show IMP ((0 : Int) ≤ a2 ∧ (u0_1) + a2 ≤ 65536) (sc ((w3)) 0 ((u1_1)) ++ sc ((w6_1)) (a3) ((u0_1)) = cpb (sc ((w3)) 0 ((u1_1)) ++ sc ((w2)) (a3) ((u0_1))) (a1) (a2 : Int).toNat) by assumption))
abbrev V163_thisa : vV := [(0, 7, [(4, 0), (0, 0), (1, 0), (0, 0), (0, 0)]), (1, 0, [])]
theorem len_V163_thisa_oz_B1cls : (V163_thisa).length = 2 := by decide +kernel
theorem oz_B1cls_33 : vsub V163_thisa V157 [0, 1] = true := by decide +kernel
theorem oz_B1cls_34 : vmov V163_thisa [0, 1] [1] = true := by decide +kernel

theorem C163_thisa {σE : rS} {D N : Nat → Nat} {F : hF} {A : hA} {d c s : Nat} {Q : wQ} (H : HW V163_thisa σE D N F A) {a1 a2 a3 : Int} (pf1 : F 0 0 = (D 1 : Int)) (n1 : Int) (en1 : (N 1 : Int) = n1) (u0_1 : Int) (eu0_1 : F 0 1 = u0_1) (u0_2 : Int) (eu0_2 : F 0 2 = u0_2) (w1 : Int → Int) (ew1 : A 1 = w1) (h0 : inr (a1)) (h1 : inr (a2)) (h2 : inr (a3)) (h3 : 0 ≤ (u0_1) ∧ (u0_1) ≤ (n1) ∧ (n1) ≤ 65536) (h4 : 0 ≤ (a3) ∧ (a3) ≤ (u0_1)) (h5 : (a2) < 0 ∨ 1 ≤ (a1) ∧ (a1) ≤ (u0_1) - (a3)) (k : ∀ (σ : rS) (Dₚ Nₚ : Nat → Nat) (Fₚ : hF) (Aₚ : hA) (cₚ sₚ : Nat), HW V163_thisa σ Dₚ Nₚ Fₚ Aₚ → OUT (V163_thisa).length D N σE c s Dₚ Nₚ σ cₚ sₚ → SD [1] D Dₚ → SD [1] N Nₚ → SF [(0, 0), (0, 1), (0, 2)] F Fₚ → SA [1] A Aₚ → Fₚ 0 0 = (Dₚ 1 : Int) → ∀ m1 : Int, (Nₚ 1 : Int) = m1 → ∀ y0_1 : Int, Fₚ 0 1 = y0_1 → ∀ y0_2 : Int, Fₚ 0 2 = y0_2 → ∀ v1 : Int → Int, Aₚ 1 = v1 → (0 ≤ (y0_1) ∧ (y0_1) ≤ (m1) ∧ (m1) ≤ 65536) → ((y0_1) = (u0_1) + (a2) ∧ 0 ≤ (a2) ∨ (y0_1) = (u0_1) ∧ ((a2) < 0 ∨ 65536 < (u0_1) + (a2))) → (∀ i, (0 : Int) ≤ i → i < (u0_1) → ((v1)) i = ((w1)) i) → ((y0_2) = (u0_2) ∨ (a2) < 0 ∨ 65536 < (u0_1) + (a2)) → (IMP ((0 : Int) ≤ (a2) ∧ (u0_1) + (a2) ≤ 65536) (sc ((v1)) ((a3)) ((y0_1)) = cpb (sc ((w1)) ((a3)) ((u0_1))) ((a1)) ((a2) : Int).toNat)) → Q none σ cₚ sₚ) : Ew 163 (d + 2) 0 (rargs 0 [.ref (D 0), I a1, I a2, I a3, .ref (D 0)]) [] σE c s Q := by
  have O := OUT_refl (n := (V163_thisa).length) (D := D) (N := N) (σ := σE) (c := c) (s := s)
  have HE := H
  have r1 : (-2147483648 : Int) ≤ u0_1 ∧ u0_1 ≤ 2147483647 := rngE (show (-2147483648 : Int) ≤ F 0 1 ∧ F 0 1 ≤ 2147483647 from H.krg 0 1 (ltn len_V163_thisa_oz_B1cls rfl)) (show F 0 1 = u0_1 from (eu0_1))
  have r2 : (0 : Int) ≤ u0_2 ∧ u0_2 ≤ 1 := rngE (show (0 : Int) ≤ F 0 2 ∧ F 0 2 ≤ 1 from H.krg 0 2 (ltn len_V163_thisa_oz_B1cls rfl)) (show F 0 2 = u0_2 from (eu0_2))
  have r3 : (0 : Int) ≤ n1 ∧ n1 ≤ 1000000 := nleE (H.nle 1 (ltn len_V163_thisa_oz_B1cls rfl)) (show (N 1 : Int) = n1 from en1)
  refine Ew_of (pcₚ := 1) (fun _ => x_aload_n rfl rfl) ?_
  refine Ew_of (pcₚ := 2) (fun _ => x_iload_n rfl rfl) ?_
  refine v_inv H (o := 0) rfl rfl rfl rfl rfl rfl (by rfl) (C157 (D := puc 512 D) (N := puc 512 N) (HW_subc H oz_B1cls_33 oz_B1cls_5) (pf1) (n1) (en1) (u0_1) ((eu0_1)) (w1) (ew1) (show inr (a2) from h1) (show 0 ≤ (u0_1) ∧ (u0_1) ≤ (n1) ∧ (n1) ≤ 65536 from h3) (fun z4 σ4 D4ₚ N4ₚ F4ₚ A4ₚ c4 s4 Hₚ Oₚ hD4 hN4 hS4 hA4 pm4_1 m4_1 em4_1 w4_1 ew4_1 pz4_0 pz4_1 pz4_2 pz4_3 pz4_4 => ⟨rretB rfl pz4_0, ?_⟩))
  refine v_backMc (c := c) (s := s) H oz_B1cls_33 oz_B1cls_5 Hₚ Oₚ hD4 oz_B1cls_34 (fun D4 N4 F4 A4 H Oₚ eD4 eN4 eF4 eA4 => ?_)
  have O := OUT_trans O Oₚ
  -- Row.reserve
  have cF4 : SF oz_B1clsl_0 F F4 := SF_trans (SF_refl) (SF_gluc (ι := oz_B1clsl_2) oz_B1cls_5 hS4 eF4 (by decide +kernel)) (any_sub (lₚ := [(0, 0)]) (by decide +kernel))
  have mF4 := SFm_of cF4 oz_B1cls_3
  have cA4 : SA oz_B1clsl_1 A A4 := SA_trans (SA_refl) (SA_gluc (ι := oz_B1clsl_2) oz_B1cls_5 hA4 eA4 (by decide +kernel)) (any_subA (lₚ := [1]) (by decide +kernel))
  have mA4 := SAm_of cA4 oz_B1cls_4
  have cD4 : SD oz_B1clsl_1 D D4 := SD_trans (SD_refl) (SD_gluc (ι := oz_B1clsl_2) oz_B1cls_5 hD4 eD4 (by decide +kernel)) (any_subA (lₚ := [1]) (by decide +kernel))
  have mD4 := SDm_of cD4 oz_B1cls_4
  have cN4 : SD oz_B1clsl_1 N N4 := SD_trans (SD_refl) (SD_gluc (ι := oz_B1clsl_2) oz_B1cls_5 hN4 eN4 (by decide +kernel)) (any_subA (lₚ := [1]) (by decide +kernel))
  have mN4 := SDm_of cN4 oz_B1cls_4
  have pf4_0_0 : F4 0 0 = (D4 1 : Int) := (eF4 0 0).trans (pm4_1.trans (congrArg (fun q : Nat => (q : Int)) (eD4 1).symm))
  have r5 : (0 : Int) ≤ m4_1 ∧ m4_1 ≤ 1000000 := nleE (H.nle 1 (ltn len_V163_thisa_oz_B1cls rfl)) (show (N4 1 : Int) = m4_1 from (congrArg (fun q : Nat => (q : Int)) (eN4 1)).trans em4_1)
  have hsr := pz4_4
  refine w_ifne (t := 14) rfl rfl (show inr (z4) from q_138 pz4_0) (fun b6 => ?_) (fun b6 => ?_)
  · refine Ew_of (pcₚ := 15) (fun _ => x_iconst rfl) ?_
    refine Ew_of (pcₚ := 17) (fun _ => x_istore rfl) ?_
    have : ∀ i, (0 : Int) ≤ i → i < (u0_1) → ((w4_1)) i = ((w1)) i := hsr
    have : [] ++ sc ((w4_1)) ((a3)) ((u0_1)) = cpb ([] ++ sc ((w1)) ((a3)) ((u0_1))) ((a1)) (0 : Int).toNat := by rw [sc_same (g := (w1)) (fun i a b => hsr i (by omega) b)]; rfl
    suffices hl17 : ∀ (m : Nat), ∀ (ls : rO) (σ : rS) (F_17 : hF) (A_17 : hA) (x17_5 : Int), rlook ls 0 = some (.ref (D4 0)) → rlook ls 1 = some (I (a1)) → rlook ls 2 = some (I (a2)) → rlook ls 3 = some (I (a3)) → rlook ls 4 = some (.ref (D4 0)) → rlook ls 5 = some (I (x17_5)) → HW V163_thisa σ D4 N4 F_17 A_17 → OUT (V163_thisa).length D N σE c s D4 N4 σ (c + c4) (s + s4) → SF [(0, 1)] F4 F_17 → SA [1] A4 A_17 → ∀ y17_0_1 : Int, F_17 0 1 = y17_0_1 → ∀ w17_1 : Int → Int, A_17 1 = w17_1 → (inr (x17_5)) → ((0) ≤ (x17_5)) → ((x17_5) ≤ (0) ∨ (x17_5) ≤ ((a2))) → ((y17_0_1) = (u0_1) + (x17_5)) → ((u0_1) + (a2) ≤ (m4_1) ∧ (m4_1) ≤ 65536) → (∀ i, (0 : Int) ≤ i → i < (u0_1) → ((w17_1)) i = ((w1)) i) → ([] ++ sc ((w17_1)) ((a3)) ((y17_0_1)) = cpb ([] ++ sc ((w1)) ((a3)) ((u0_1))) ((a1)) ((x17_5) : Int).toNat) → (((a2)) - (x17_5)).toNat = m → Ew 163 (d + 2) 17 ls [] σ (c + c4) (s + s4) Q from
      hl17 _ _ _ _ _ (0) ((rk_o (rfl) rfl rfl).trans (congrArg (fun q : Nat => some (Value.ref q)) (mD4 0 rfl).symm)) (rk_o (rfl) rfl rfl) (rk_o (rfl) rfl rfl) (rk_o (rfl) rfl rfl) ((rk_o (rfl) rfl rfl).trans (congrArg (fun q : Nat => some (Value.ref q)) (mD4 0 rfl).symm)) (rk_s) H O (SF_refl) (SA_refl)   (u0_1) ((((show F4 0 1 = F 0 1 from (eF4 0 1).trans (hS4 0 1 rfl))).trans (eu0_1))) (w4_1) ((eA4 1).trans ew4_1) (show inr (0) from q_2) (show (0) ≤ (0) from q_1) (show (0) ≤ (0) ∨ (0) ≤ ((a2)) from q_5) (show (u0_1) = (u0_1) + (0) from q_365) (show (u0_1) + (a2) ≤ (m4_1) ∧ (m4_1) ≤ 65536 by omega) (show ∀ i, (0 : Int) ≤ i → i < (u0_1) → ((w4_1)) i = ((w1)) i by assumption) (show [] ++ sc ((w4_1)) ((a3)) ((u0_1)) = cpb ([] ++ sc ((w1)) ((a3)) ((u0_1))) ((a1)) ((0) : Int).toNat by assumption) rfl
    as_aux_lemma =>
    intro m
    induction m using Nat.strongRecOn with
    | _ m ih17 =>
      intro ls σ F_17 A_17 x17_5 l17_0 l17_1 l17_2 l17_3 l17_4 l17_5 H O hS_17 hA_17   y17_0_1 ey17_0_1 w17_1 ew17_1 j17_0 j17_1 j17_2 j17_3 j17_4 j17_5 j17_6 hm17
      have cF_17 : SF oz_B1clsl_0 F F_17 := SF_trans (cF4) hS_17 (any_sub (by decide +kernel))
      have mF_17 := SFm_of cF_17 oz_B1cls_3
      have cA_17 : SA oz_B1clsl_1 A A_17 := SA_trans (cA4) hA_17 (any_subA (by decide +kernel))
      have mA_17 := SAm_of cA_17 oz_B1cls_4
      have r7 : (-2147483648 : Int) ≤ y17_0_1 ∧ y17_0_1 ≤ 2147483647 := rngE (show (-2147483648 : Int) ≤ F_17 0 1 ∧ F_17 0 1 ≤ 2147483647 from H.krg 0 1 (ltn len_V163_thisa_oz_B1cls rfl)) (show F_17 0 1 = y17_0_1 from (ey17_0_1))
      have j17_s : ∀ i, (0 : Int) ≤ i → i < (u0_1) → ((w17_1)) i = ((w1)) i := by assumption
      have j17_c : [] ++ sc ((w17_1)) ((a3)) ((y17_0_1)) = cpb ([] ++ sc ((w1)) ((a3)) ((u0_1))) ((a1)) ((x17_5) : Int).toNat := by assumption
      refine Ew_of (pcₚ := 19) (fun _ => x_iload rfl l17_5) ?_
      refine Ew_of (pcₚ := 20) (fun _ => x_iload_n rfl l17_2) ?_
      refine w_icmpge (t := 85) rfl rfl (show inr (x17_5) from j17_0) (show inr (a2) from h1) (fun b8 => ?_) (fun b8 => ?_)
      · have : IMP ((0 : Int) ≤ (a2) ∧ (u0_1) + (a2) ≤ 65536) (sc ((w17_1)) ((a3)) ((y17_0_1)) = cpb (sc ((w1)) ((a3)) ((u0_1))) ((a1)) ((a2) : Int).toNat) := fun _ => by rw [show (a2) = (x17_5) by omega]; exact j17_c
        exact w_ret rfl (k _ _ _ _ _ _ _ H O (cD4) (cN4) (cF_17) (cA_17) (((hS_17 0 0 rfl)).trans (pf4_0_0)) (m4_1) ((congrArg (fun q : Nat => (q : Int)) (eN4 1)).trans em4_1) (y17_0_1) ((ey17_0_1)) (u0_2) ((((hS_17 0 2 rfl).trans ((show F4 0 2 = F 0 2 from (eF4 0 2).trans (hS4 0 2 rfl)))).trans (eu0_2))) (w17_1) (ew17_1) (show 0 ≤ (y17_0_1) ∧ (y17_0_1) ≤ (m4_1) ∧ (m4_1) ≤ 65536 by omega) (show (y17_0_1) = (u0_1) + a2 ∧ 0 ≤ a2 ∨ (y17_0_1) = (u0_1) ∧ (a2 < 0 ∨ 65536 < (u0_1) + a2) by omega) (j17_s) (show (u0_2) = (u0_2) ∨ a2 < 0 ∨ 65536 < (u0_1) + a2 from q_2939) (show IMP ((0 : Int) ≤ a2 ∧ (u0_1) + a2 ≤ 65536) (sc ((w17_1)) (a3) ((y17_0_1)) = cpb (sc ((w1)) (a3) ((u0_1))) (a1) (a2 : Int).toNat) by assumption))
      · refine Ew_of (pcₚ := 24) (fun _ => x_aload_n rfl l17_0) ?_
        refine v_g H (o := 0) (v := I (y17_0_1)) rfl rfl rfl rfl rfl (congrArg (fun z : Int => I z) ((ey17_0_1) : F_17 0 1 = y17_0_1)) ?_
        refine Ew_of (pcₚ := 28) (fun _ => x_iload_n rfl l17_1) ?_
        refine w_isub rfl ?_
        refine Ew_of (pcₚ := 31) (fun _ => x_istore rfl) ?_
        refine Ew_of (pcₚ := 32) (fun _ => x_aload_n rfl (rk_o (l17_0) rfl rfl)) ?_
        refine v_g H (o := 0) (v := .ref (D4 1)) rfl rfl rfl rfl rfl (vrf (((hS_17 0 0 rfl)).trans (pf4_0_0))) ?_
        refine Ew_of (pcₚ := 36) (fun _ => x_aload_n rfl (rk_o (l17_0) rfl rfl)) ?_
        refine Ew_of (pcₚ := 37) (fun _ => x_dup rfl rfl) ?_
        refine v_g H (o := 0) (v := I (y17_0_1)) rfl rfl rfl rfl rfl (congrArg (fun z : Int => I z) ((ey17_0_1) : F_17 0 1 = y17_0_1)) ?_
        refine Ew_of (pcₚ := 41) (fun _ => x_dup_x1 rfl rfl) ?_
        refine Ew_of (pcₚ := 42) (fun _ => x_iconst rfl) ?_
        refine w_iadd rfl ?_
        refine v_p H (o := 0) (z := (y17_0_1 + 1)) (v := I ((y17_0_1 + 1))) rfl rfl rfl rfl rfl rfl rfl rfl (show (-2147483648 : Int) ≤ (y17_0_1 + 1) ∧ (y17_0_1 + 1) ≤ 2147483647 from q_2924 b8 j17_3 j17_4 r7) (fun σ H Oₚ => ?_)
        have O := OUT_trans O Oₚ
        have cFu9 : SF oz_B1clsl_0 F (updF F_17 0 1 ((y17_0_1 + 1))) := SF_upd (cF_17) rfl
        have mFu9 := SFm_of cFu9 oz_B1cls_3
        refine Ew_of (pcₚ := 48) (fun _ => x_iload rfl rk_s) ?_
        refine Ew_of (pcₚ := 49) (fun _ => x_iload_n rfl (rk_o (l17_3) rfl rfl)) ?_
        refine w_icmplt (t := 62) rfl rfl (show inr ((y17_0_1 - a1)) from q_2943 b8 h0 h5 j17_1 j17_3 j17_4 pz4_1 r7) (show inr (a3) from h2) (fun b10 => ?_) (fun b10 => ?_)
        · exfalso
          omega
        · refine Ew_of (pcₚ := 53) (fun _ => x_aload_n rfl (rk_o (l17_0) rfl rfl)) ?_
          refine v_g H (o := 0) (v := .ref (D4 1)) rfl rfl rfl rfl rfl (vrf (((hS_17 0 0 rfl)).trans (pf4_0_0))) ?_
          refine Ew_of (pcₚ := 58) (fun _ => x_iload rfl rk_s) ?_
          refine v_lB H (o := 1) rfl rfl rfl rfl (n := m4_1) ((congrArg (fun q : Nat => (q : Int)) (eN4 1)).trans em4_1) (show 0 ≤ (y17_0_1 - a1) ∧ (y17_0_1 - a1) < m4_1 by omega) (fun v11 ev11 qv11 => ?_)
          have ev11 : (w17_1) ((y17_0_1 - a1)) = v11 := (congrFun (ew17_1) ((y17_0_1 - a1))).symm.trans ev11
          refine Ew_of (pcₚ := 78) (fun _ => x_goto rfl rfl) ?_
          have hv := ev11
          refine v_sB H (o := 1) rfl rfl rfl rfl (n := m4_1) ((congrArg (fun q : Nat => (q : Int)) (eN4 1)).trans em4_1) (show 0 ≤ y17_0_1 ∧ y17_0_1 < m4_1 from q_2925 b8 j17_1 j17_3 j17_4 pz4_1) (fun z12 σ qz12 uz12 H Oₚ => ?_)
          have O := OUT_trans O Oₚ
          have cAu13 : SA oz_B1clsl_1 A (updA A_17 1 (y17_0_1) (z12)) := SA_upd (cA_17) rfl
          have mAu13 := SAm_of cAu13 oz_B1cls_4
          have hus := uz12
          refine Ew_of (pcₚ := 82) (fun _ => x_iinc (len := 3) rfl (rk_o (l17_5) rfl rfl)) ?_
          refine Ew_of (pcₚ := 17) (fun _ => x_goto rfl rfl) ?_
          have : ∀ i, (0 : Int) ≤ i → i < (u0_1) → ((upd1 (w17_1) (y17_0_1) (z12))) i = ((w1)) i := fun i x y => (upd1_o (by omega)).trans (j17_s i x y)
          have : [] ++ sc ((upd1 (w17_1) (y17_0_1) (z12))) ((a3)) (((y17_0_1 + 1))) = cpb ([] ++ sc ((w1)) ((a3)) ((u0_1))) ((a1)) (((x17_5 + 1)) : Int).toNat := CBK_hi j17_c (by omega) (by omega) (by omega) (by omega) (by omega) hv hus (by omega) (by omega)
          exact ih17 _ (msE hm17 q_16 (q_17 b8)) _ _ _ _ ((x17_5 + 1)) (rk_o (rk_o (l17_0) rfl rfl) rfl rfl) (rk_o (rk_o (l17_1) rfl rfl) rfl rfl) (rk_o (rk_o (l17_2) rfl rfl) rfl rfl) (rk_o (rk_o (l17_3) rfl rfl) rfl rfl) (rk_o (rk_o (l17_4) rfl rfl) rfl rfl) (rk_s) H O (SF_upd (hS_17) rfl) (SA_upd (hA_17) rfl)   ((y17_0_1 + 1)) (rfl) (upd1 (w17_1) (y17_0_1) (z12)) (congrArg (fun q => upd1 q (y17_0_1) (z12)) (ew17_1)) (show inr ((x17_5 + 1)) from q_2942 b8 j17_1 j17_4 pz4_1) (show (0) ≤ ((x17_5 + 1)) from q_14 j17_1) (show ((x17_5 + 1)) ≤ (0) ∨ ((x17_5 + 1)) ≤ ((a2)) from q_13 b8) (show ((y17_0_1 + 1)) = (u0_1) + ((x17_5 + 1)) from q_541 j17_3) (show (u0_1) + (a2) ≤ (m4_1) ∧ (m4_1) ≤ 65536 from j17_4) (show ∀ i, (0 : Int) ≤ i → i < (u0_1) → ((upd1 (w17_1) (y17_0_1) (z12))) i = ((w1)) i by assumption) (show [] ++ sc ((upd1 (w17_1) (y17_0_1) (z12))) ((a3)) (((y17_0_1 + 1))) = cpb ([] ++ sc ((w1)) ((a3)) ((u0_1))) ((a1)) (((x17_5 + 1)) : Int).toNat by assumption) rfl
  · refine Ew_of (pcₚ := 9) (fun _ => x_aload_n rfl rfl) ?_
    refine Ew_of (pcₚ := 10) (fun _ => x_iconst rfl) ?_
    refine Ew_stk (congrArg (fun qz : Nat => ([I (1), .ref qz] : List Value)) (show D4 0 = D 0 from mD4 0 rfl).symm) ?_
    refine v_p H (o := 0) (z := 1) (v := I (1)) rfl rfl rfl rfl rfl rfl rfl (rfit_b (by omega)) (show (0 : Int) ≤ 1 ∧ 1 ≤ 1 from q_35) (fun σ H Oₚ => ?_)
    have O := OUT_trans O Oₚ
    have cFu14 : SF oz_B1clsl_0 F (updF F4 0 2 (1)) := SF_upd (cF4) rfl
    have mFu14 := SFm_of cFu14 oz_B1cls_3
    have : IMP ((0 : Int) ≤ (a2) ∧ (u0_1) + (a2) ≤ 65536) (sc ((w4_1)) ((a3)) ((u0_1)) = cpb (sc ((w1)) ((a3)) ((u0_1))) ((a1)) ((a2) : Int).toNat) := fun z => absurd z (by omega)
    have : ∀ i, (0 : Int) ≤ i → i < (u0_1) → ((w4_1)) i = ((w1)) i := hsr
    exact w_ret rfl (k _ _ _ _ _ _ _ H O (cD4) (cN4) (cFu14) (cA4) (pf4_0_0) (m4_1) ((congrArg (fun q : Nat => (q : Int)) (eN4 1)).trans em4_1) (u0_1) ((((show F4 0 1 = F 0 1 from (eF4 0 1).trans (hS4 0 1 rfl))).trans (eu0_1))) (1) (rfl) (w4_1) ((eA4 1).trans ew4_1) (show 0 ≤ (u0_1) ∧ (u0_1) ≤ (m4_1) ∧ (m4_1) ≤ 65536 from pz4_1) (show (u0_1) = (u0_1) + a2 ∧ 0 ≤ a2 ∨ (u0_1) = (u0_1) ∧ (a2 < 0 ∨ 65536 < (u0_1) + a2) by omega) (show ∀ i, (0 : Int) ≤ i → i < (u0_1) → ((w4_1)) i = ((w1)) i by assumption) (show (1) = (u0_2) ∨ a2 < 0 ∨ 65536 < (u0_1) + a2 by omega) (show IMP ((0 : Int) ≤ a2 ∧ (u0_1) + a2 ≤ 65536) (sc ((w4_1)) (a3) ((u0_1)) = cpb (sc ((w1)) (a3) ((u0_1))) (a1) (a2 : Int).toNat) by assumption))
abbrev V158_Row : vV := [(0, 7, [(4, 0), (0, 0), (1, 0), (0, 0), (0, 0)]), (0, 7, [(4, 0), (0, 0), (1, 0), (0, 0), (0, 0)]), (1, 0, []), (1, 0, [])]
theorem len_V158_Row_oz_B1cls : (V158_Row).length = 4 := by decide +kernel
theorem oz_B1cls_36 : vsub V158_Row V156 [0] = true := by decide +kernel
theorem oz_B1cls_37 : vsub V158_Row V161_Br [0, 3, 2] = true := by decide +kernel
theorem oz_B1cls_38 : vmov V158_Row [0, 3, 2] [2] = true := by decide +kernel
def oz_B1clsl_9 : List (Nat × Nat) := [(0, 0), (0, 1), (0, 2), (0, 3), (0, 4)]
theorem oz_B1cls_39 : (oz_B1clsl_9).all (fun p => !tbz 31 (Nat.add (Nat.mul 32 p.1) p.2)) = true := by decide +kernel
theorem oz_B1cls_40 : okc oz_B1clsl_6 0 = true := by decide +kernel
def oz_B1clsl_10 : List Nat := [0, 3, 2]
theorem oz_B1cls_41 : okc oz_B1clsl_10 525824 = true := by decide +kernel

theorem C158_Row {σE : rS} {D N : Nat → Nat} {F : hF} {A : hA} {d c s : Nat} {Q : wQ} (H : HW V158_Row σE D N F A)  (pf2 : F 0 0 = (D 2 : Int)) (pf3 : F 1 0 = (D 3 : Int)) (n2 : Int) (en2 : (N 2 : Int) = n2) (n3 : Int) (en3 : (N 3 : Int) = n3) (u0_1 : Int) (eu0_1 : F 0 1 = u0_1) (u0_2 : Int) (eu0_2 : F 0 2 = u0_2) (u1_1 : Int) (eu1_1 : F 1 1 = u1_1) (w2 : Int → Int) (ew2 : A 2 = w2) (w3 : Int → Int) (ew3 : A 3 = w3) (h0 : 0 ≤ (u0_1) ∧ (u0_1) ≤ (n2) ∧ (n2) ≤ 65536) (h1 : 0 ≤ (u1_1) ∧ (u1_1) ≤ (n3) ∧ (n3) ≤ 65536) (k : ∀ (σ : rS) (Dₚ Nₚ : Nat → Nat) (Fₚ : hF) (Aₚ : hA) (cₚ sₚ : Nat), HW V158_Row σ Dₚ Nₚ Fₚ Aₚ → OUT (V158_Row).length D N σE c s Dₚ Nₚ σ cₚ sₚ → SD [2] D Dₚ → SD [2] N Nₚ → SF [(0, 0), (0, 1), (0, 2), (0, 3), (0, 4)] F Fₚ → SA [2] A Aₚ → Fₚ 0 0 = (Dₚ 2 : Int) → ∀ m2 : Int, (Nₚ 2 : Int) = m2 → ∀ y0_1 : Int, Fₚ 0 1 = y0_1 → ∀ y0_2 : Int, Fₚ 0 2 = y0_2 → ∀ v2 : Int → Int, Aₚ 2 = v2 → (0 ≤ (y0_1) ∧ (y0_1) ≤ (m2) ∧ (m2) ≤ 65536) → ((y0_1) = (u1_1)) → ((y0_2) = 0) → (sc ((v2)) 0 ((y0_1)) = sc ((w3)) 0 ((u1_1))) → Q none σ cₚ sₚ) : Ew 158 (d + 3) 0 (rargs 0 [.ref (D 0), .ref (D 1)]) [] σE c s Q := by
  have O := OUT_refl (n := (V158_Row).length) (D := D) (N := N) (σ := σE) (c := c) (s := s)
  have HE := H
  have r1 : (-2147483648 : Int) ≤ u0_1 ∧ u0_1 ≤ 2147483647 := rngE (show (-2147483648 : Int) ≤ F 0 1 ∧ F 0 1 ≤ 2147483647 from H.krg 0 1 (ltn len_V158_Row_oz_B1cls rfl)) (show F 0 1 = u0_1 from (eu0_1))
  have r2 : (0 : Int) ≤ u0_2 ∧ u0_2 ≤ 1 := rngE (show (0 : Int) ≤ F 0 2 ∧ F 0 2 ≤ 1 from H.krg 0 2 (ltn len_V158_Row_oz_B1cls rfl)) (show F 0 2 = u0_2 from (eu0_2))
  have r3 : (-2147483648 : Int) ≤ u1_1 ∧ u1_1 ≤ 2147483647 := rngE (show (-2147483648 : Int) ≤ F 1 1 ∧ F 1 1 ≤ 2147483647 from H.krg 1 1 (ltn len_V158_Row_oz_B1cls rfl)) (show F 1 1 = u1_1 from (eu1_1))
  have r4 : (0 : Int) ≤ n2 ∧ n2 ≤ 1000000 := nleE (H.nle 2 (ltn len_V158_Row_oz_B1cls rfl)) (show (N 2 : Int) = n2 from en2)
  have r5 : (0 : Int) ≤ n3 ∧ n3 ≤ 1000000 := nleE (H.nle 3 (ltn len_V158_Row_oz_B1cls rfl)) (show (N 3 : Int) = n3 from en3)
  refine Ew_of (pcₚ := 1) (fun _ => x_aload_n rfl rfl) ?_
  have r6 : (-2147483648 : Int) ≤ F 0 3 ∧ F 0 3 ≤ 2147483647 := H.krg 0 3 (ltn len_V158_Row_oz_B1cls rfl)
  have r7 : (-2147483648 : Int) ≤ F 0 4 ∧ F 0 4 ≤ 2147483647 := H.krg 0 4 (ltn len_V158_Row_oz_B1cls rfl)
  refine v_inv H (o := 0) rfl rfl rfl rfl rfl rfl (by rfl) (C156 (D := puc 0 D) (N := puc 0 N) (HW_subc H oz_B1cls_36 oz_B1cls_40) (u0_1) ((eu0_1)) (u0_2) ((eu0_2)) (F 0 3) (rfl) (F 0 4) (rfl)  (fun σ8 F8ₚ A8ₚ Hₚ Oₚ hS8 hA8 y8_0_1 ey8_0_1 y8_0_2 ey8_0_2 y8_0_3 ey8_0_3 y8_0_4 ey8_0_4 pz8_0 pz8_1 pz8_2 => ⟨rfl, ?_⟩))
  refine v_backc (c := c) (s := s) H oz_B1cls_36 oz_B1cls_40 Hₚ Oₚ (fun F8 A8 H Oₚ eF8 eA8 => ?_)
  have O := OUT_trans O Oₚ
  -- Row.clear
  have cF8 : SF oz_B1clsl_9 F F8 := SF_trans (SF_refl) (SF_gluc (ι := oz_B1clsl_6) oz_B1cls_40 hS8 eF8 (by decide +kernel)) (any_sub (lₚ := [(0, 1), (0, 2), (0, 3), (0, 4)]) (by decide +kernel))
  have mF8 := SFm_of cF8 oz_B1cls_39
  have cA8 : SA oz_B1clsl_3 A A8 := SA_trans (SA_refl) (SA_gluc (ι := oz_B1clsl_6) oz_B1cls_40 hA8 eA8 (by decide +kernel)) (any_subA (lₚ := []) (by decide +kernel))
  have mA8 := SAm_of cA8 oz_B1cls_12
  have r9 : (-2147483648 : Int) ≤ y8_0_1 ∧ y8_0_1 ≤ 2147483647 := rngE (show (-2147483648 : Int) ≤ F8 0 1 ∧ F8 0 1 ≤ 2147483647 from H.krg 0 1 (ltn len_V158_Row_oz_B1cls rfl)) (show F8 0 1 = y8_0_1 from ((eF8 0 1).trans ey8_0_1))
  have r10 : (0 : Int) ≤ y8_0_2 ∧ y8_0_2 ≤ 1 := rngE (show (0 : Int) ≤ F8 0 2 ∧ F8 0 2 ≤ 1 from H.krg 0 2 (ltn len_V158_Row_oz_B1cls rfl)) (show F8 0 2 = y8_0_2 from ((eF8 0 2).trans ey8_0_2))
  have r11 : (-2147483648 : Int) ≤ y8_0_3 ∧ y8_0_3 ≤ 2147483647 := rngE (show (-2147483648 : Int) ≤ F8 0 3 ∧ F8 0 3 ≤ 2147483647 from H.krg 0 3 (ltn len_V158_Row_oz_B1cls rfl)) (show F8 0 3 = y8_0_3 from ((eF8 0 3).trans ey8_0_3))
  have r12 : (-2147483648 : Int) ≤ y8_0_4 ∧ y8_0_4 ≤ 2147483647 := rngE (show (-2147483648 : Int) ≤ F8 0 4 ∧ F8 0 4 ≤ 2147483647 from H.krg 0 4 (ltn len_V158_Row_oz_B1cls rfl)) (show F8 0 4 = y8_0_4 from ((eF8 0 4).trans ey8_0_4))
  refine Ew_of (pcₚ := 5) (fun _ => x_aload_n rfl rfl) ?_
  refine Ew_of (pcₚ := 6) (fun _ => x_aload_n rfl rfl) ?_
  refine v_g H (o := 1) (v := .ref (D 3)) rfl rfl rfl rfl rfl (vrf ((mF8 1 0 rfl).trans (pf3))) ?_
  refine Ew_of (pcₚ := 10) (fun _ => x_iconst rfl) ?_
  refine Ew_of (pcₚ := 11) (fun _ => x_aload_n rfl rfl) ?_
  refine v_g H (o := 1) (v := I (u1_1)) rfl rfl rfl rfl rfl (congrArg (fun z : Int => I z) (((mF8 1 1 rfl).trans (eu1_1)) : F8 1 1 = u1_1)) ?_
  refine v_inv H (o := 0) rfl rfl rfl rfl rfl rfl (by rfl) (C161_Br (D := puc 525824 D) (N := puc 525824 N) (HW_subc H oz_B1cls_37 oz_B1cls_41) ((((show F8 0 0 = F 0 0 from (eF8 0 0).trans (hS8 0 0 rfl)))).trans (pf2)) (n3) (en3) (n2) (en2) (y8_0_1) (((eF8 0 1).trans ey8_0_1)) (y8_0_2) (((eF8 0 2).trans ey8_0_2)) (w3) ((funext (mA8 3 rfl)).trans (ew3)) (w2) (((show A8 2 = A 2 from (eA8 2))).trans (ew2)) (show inr (0) from q_2) (show inr (u1_1) from q_38 h1) (show 0 ≤ (y8_0_1) ∧ (y8_0_1) ≤ (n2) ∧ (n2) ≤ 65536 from q_2945 h0 pz8_0 r4) (show (u1_1) < 0 ∨ 0 ≤ (0) ∧ (0) + (u1_1) ≤ (n3) from q_2944 h1) (fun σ13 D13ₚ N13ₚ F13ₚ A13ₚ c13 s13 Hₚ Oₚ hD13 hN13 hS13 hA13 pm13_2 m13_2 em13_2 y13_0_1 ey13_0_1 y13_0_2 ey13_0_2 w13_2 ew13_2 pz13_0 pz13_1 pz13_2 pz13_3 => ⟨rfl, ?_⟩))
  refine v_backMc (c := c) (s := s) H oz_B1cls_37 oz_B1cls_41 Hₚ Oₚ hD13 oz_B1cls_38 (fun D13 N13 F13 A13 H Oₚ eD13 eN13 eF13 eA13 => ?_)
  have O := OUT_trans O Oₚ
  -- Row.addPart
  have cF13 : SF oz_B1clsl_9 F F13 := SF_trans (cF8) (SF_gluc (ι := oz_B1clsl_10) oz_B1cls_41 hS13 eF13 (by decide +kernel)) (any_sub (lₚ := [(0, 0), (0, 1), (0, 2)]) (by decide +kernel))
  have mF13 := SFm_of cF13 oz_B1cls_39
  have cA13 : SA oz_B1clsl_3 A A13 := SA_trans (cA8) (SA_gluc (ι := oz_B1clsl_10) oz_B1cls_41 hA13 eA13 (by decide +kernel)) (any_subA (lₚ := [2]) (by decide +kernel))
  have mA13 := SAm_of cA13 oz_B1cls_12
  have cD13 : SD oz_B1clsl_3 D D13 := SD_trans (SD_refl) (SD_gluc (ι := oz_B1clsl_10) oz_B1cls_41 hD13 eD13 (by decide +kernel)) (any_subA (lₚ := [2]) (by decide +kernel))
  have mD13 := SDm_of cD13 oz_B1cls_12
  have cN13 : SD oz_B1clsl_3 N N13 := SD_trans (SD_refl) (SD_gluc (ι := oz_B1clsl_10) oz_B1cls_41 hN13 eN13 (by decide +kernel)) (any_subA (lₚ := [2]) (by decide +kernel))
  have mN13 := SDm_of cN13 oz_B1cls_12
  have pf13_0_0 : F13 0 0 = (D13 2 : Int) := (eF13 0 0).trans (pm13_2.trans (congrArg (fun q : Nat => (q : Int)) (eD13 2).symm))
  have r14 : (0 : Int) ≤ m13_2 ∧ m13_2 ≤ 1000000 := nleE (H.nle 2 (ltn len_V158_Row_oz_B1cls rfl)) (show (N13 2 : Int) = m13_2 from (congrArg (fun q : Nat => (q : Int)) (eN13 2)).trans em13_2)
  have r15 : (-2147483648 : Int) ≤ y13_0_1 ∧ y13_0_1 ≤ 2147483647 := rngE (show (-2147483648 : Int) ≤ F13 0 1 ∧ F13 0 1 ≤ 2147483647 from H.krg 0 1 (ltn len_V158_Row_oz_B1cls rfl)) (show F13 0 1 = y13_0_1 from ((eF13 0 1).trans ey13_0_1))
  have r16 : (0 : Int) ≤ y13_0_2 ∧ y13_0_2 ≤ 1 := rngE (show (0 : Int) ≤ F13 0 2 ∧ F13 0 2 ≤ 1 from H.krg 0 2 (ltn len_V158_Row_oz_B1cls rfl)) (show F13 0 2 = y13_0_2 from ((eF13 0 2).trans ey13_0_2))
  have hbc := BEC (pz13_3 (by omega)) pz8_1 pz8_0 (by rw [sc_lenI (by omega)]; omega)
  have hb0 := hbc.1
  have : sc ((w13_2)) 0 ((y13_0_1)) = sc ((w3)) 0 ((u1_1)) := by rw [hbc.2, Int.zero_add]
  exact w_ret rfl (k _ _ _ _ _ _ _ H O (cD13) (cN13) (cF13) (cA13) (pf13_0_0) (m13_2) ((congrArg (fun q : Nat => (q : Int)) (eN13 2)).trans em13_2) (y13_0_1) (((eF13 0 1).trans ey13_0_1)) (y13_0_2) (((eF13 0 2).trans ey13_0_2)) (w13_2) ((eA13 2).trans ew13_2) (show 0 ≤ (y13_0_1) ∧ (y13_0_1) ≤ (m13_2) ∧ (m13_2) ≤ 65536 from pz13_0) (show (y13_0_1) = (u1_1) from q_2946 h1 pz13_0 pz13_1 pz8_0) (show (y13_0_2) = 0 by omega) (show sc ((w13_2)) 0 ((y13_0_1)) = sc ((w3)) 0 ((u1_1)) by assumption))


end
section
/-! B3.cls -/
abbrev V41_Br : vV := [(1, 0, [])]
theorem len_V41_Br_oz_B3cls : (V41_Br).length = 1 := by decide +kernel

theorem C41_Br {σE : rS} {D N : Nat → Nat} {F : hF} {A : hA} {d c s : Nat} {Q : wQ} (H : HW V41_Br σE D N F A) {a2 : Int} (n0 : Int) (en0 : (N 0 : Int) = n0) (w0 : Int → Int) (ew0 : A 0 = w0) (h0 : inr (a2)) (h1 : 0 ≤ (a2) ∧ (a2) + 4 ≤ (n0)) (k : ∀ (z : Int) (σ : rS) (Fₚ : hF) (Aₚ : hA), HW V41_Br σ D N Fₚ Aₚ → OUT (V41_Br).length D N σE c s D N σ c s → SF [] F Fₚ → SA [] A Aₚ → (inr (z)) → ((z) = wdI ((w0)) ((a2))) → Q (some (I z)) σ c s) : Ew 41 (d + 0) 0 (rargs 0 [.ref (D 0), I a2]) [] σE c s Q := by
  have O := OUT_refl (n := (V41_Br).length) (D := D) (N := N) (σ := σE) (c := c) (s := s)
  have HE := H
  have r1 : (0 : Int) ≤ n0 ∧ n0 ≤ 1000000 := nleE (H.nle 0 (ltn len_V41_Br_oz_B3cls rfl)) (show (N 0 : Int) = n0 from en0)
  refine Ew_of (pcₚ := 1) (fun _ => x_aload_n rfl rfl) ?_
  refine Ew_of (pcₚ := 2) (fun _ => x_iload_n rfl rfl) ?_
  refine v_lB H (o := 0) rfl rfl rfl rfl (n := n0) (en0) (show 0 ≤ a2 ∧ a2 < n0 from q_2947 h1) (fun v2 ev2 qv2 => ?_)
  have ev2 : (w0) (a2) = v2 := (congrFun (ew0) (a2)).symm.trans ev2
  have hv0 := ev2
  refine Ew_of (pcₚ := 6) (fun _ => x_sipush (z := 255) rfl (by decide)) ?_
  refine v_and255 rfl ?_
  refine Ew_of (pcₚ := 8) (fun _ => x_aload_n rfl rfl) ?_
  refine Ew_of (pcₚ := 9) (fun _ => x_iload_n rfl rfl) ?_
  refine Ew_of (pcₚ := 10) (fun _ => x_iconst rfl) ?_
  refine w_iadd rfl ?_
  refine v_lB H (o := 0) rfl rfl rfl rfl (n := n0) (en0) (show 0 ≤ (a2 + 1) ∧ (a2 + 1) < n0 from q_2948 h1) (fun v3 ev3 qv3 => ?_)
  have ev3 : (w0) ((a2 + 1)) = v3 := (congrFun (ew0) ((a2 + 1))).symm.trans ev3
  have hv1 := ev3
  refine Ew_of (pcₚ := 15) (fun _ => x_sipush (z := 255) rfl (by decide)) ?_
  refine v_and255 rfl ?_
  refine Ew_of (pcₚ := 18) (fun _ => x_bipush (z := 8) rfl (by decide)) ?_
  refine w_ishlE rfl ?_
  have g4 : inr (slI ((v3 % 256)) (8)) := toI_inr _
  refine w_iorE rfl ?_
  have g5 : inr (orI ((v2 % 256)) ((slI ((v3 % 256)) (8)))) := toI_inr _
  refine Ew_of (pcₚ := 21) (fun _ => x_aload_n rfl rfl) ?_
  refine Ew_of (pcₚ := 22) (fun _ => x_iload_n rfl rfl) ?_
  refine Ew_of (pcₚ := 23) (fun _ => x_iconst rfl) ?_
  refine w_iadd rfl ?_
  refine v_lB H (o := 0) rfl rfl rfl rfl (n := n0) (en0) (show 0 ≤ (a2 + 2) ∧ (a2 + 2) < n0 from q_2949 h1) (fun v6 ev6 qv6 => ?_)
  have ev6 : (w0) ((a2 + 2)) = v6 := (congrFun (ew0) ((a2 + 2))).symm.trans ev6
  have hv2 := ev6
  refine Ew_of (pcₚ := 28) (fun _ => x_sipush (z := 255) rfl (by decide)) ?_
  refine v_and255 rfl ?_
  refine Ew_of (pcₚ := 31) (fun _ => x_bipush (z := 16) rfl (by decide)) ?_
  refine w_ishlE rfl ?_
  have g7 : inr (slI ((v6 % 256)) (16)) := toI_inr _
  refine w_iorE rfl ?_
  have g8 : inr (orI ((orI ((v2 % 256)) ((slI ((v3 % 256)) (8))))) ((slI ((v6 % 256)) (16)))) := toI_inr _
  refine Ew_of (pcₚ := 34) (fun _ => x_aload_n rfl rfl) ?_
  refine Ew_of (pcₚ := 35) (fun _ => x_iload_n rfl rfl) ?_
  refine Ew_of (pcₚ := 36) (fun _ => x_iconst rfl) ?_
  refine w_iadd rfl ?_
  refine v_lB H (o := 0) rfl rfl rfl rfl (n := n0) (en0) (show 0 ≤ (a2 + 3) ∧ (a2 + 3) < n0 from q_2950 h1) (fun v9 ev9 qv9 => ?_)
  have ev9 : (w0) ((a2 + 3)) = v9 := (congrFun (ew0) ((a2 + 3))).symm.trans ev9
  have hv3 := ev9
  refine Ew_of (pcₚ := 40) (fun _ => x_bipush (z := 24) rfl (by decide)) ?_
  refine w_ishlE rfl ?_
  have g10 : inr (slI (v9) (24)) := toI_inr _
  refine w_iorE rfl ?_
  have g11 : inr (orI ((orI ((orI ((v2 % 256)) ((slI ((v3 % 256)) (8))))) ((slI ((v6 % 256)) (16))))) ((slI (v9) (24)))) := toI_inr _
  have : ((orI ((orI ((orI ((v2 % 256)) ((slI ((v3 % 256)) (8))))) ((slI ((v6 % 256)) (16))))) ((slI (v9) (24))))) = wdI ((w0)) ((a2)) := wd_or hv0 hv1 hv2 hv3
  exact w_ireturn rfl (k ((orI ((orI ((orI ((v2 % 256)) ((slI ((v3 % 256)) (8))))) ((slI ((v6 % 256)) (16))))) ((slI (v9) (24))))) _ _ _ H O (SF_refl) (SA_refl) (show inr ((orI ((orI ((orI ((v2 % 256)) ((slI ((v3 % 256)) (8))))) ((slI ((v6 % 256)) (16))))) ((slI (v9) (24))))) from g11) (show ((orI ((orI ((orI ((v2 % 256)) ((slI ((v3 % 256)) (8))))) ((slI ((v6 % 256)) (16))))) ((slI (v9) (24))))) = wdI ((w0)) (a2) by assumption))
abbrev V42_Br : vV := [(1, 0, [])]
theorem len_V42_Br_oz_B3cls : (V42_Br).length = 1 := by decide +kernel
def oz_B3clsl_0 : List (Nat × Nat) := []
theorem oz_B3cls_2 : (oz_B3clsl_0).all (fun p => !tbz 0 (Nat.add (Nat.mul 32 p.1) p.2)) = true := by decide +kernel
def oz_B3clsl_1 : List Nat := []
theorem oz_B3cls_3 : (oz_B3clsl_1).all (fun p => !tbz 0 p) = true := by decide +kernel

theorem C42_Br {σE : rS} {D N : Nat → Nat} {F : hF} {A : hA} {d c s : Nat} {Q : wQ} (H : HW V42_Br σE D N F A) {a2 a3 : Int} (n0 : Int) (en0 : (N 0 : Int) = n0) (w0 : Int → Int) (ew0 : A 0 = w0) (h0 : inr (a2)) (h1 : inr (a3)) (h2 : (a3) ≤ 0 ∨ 0 ≤ (a2) ∧ (a2) + (a3) ≤ (n0)) (h3 : 0 ≤ (a3) ∧ (a3) ≤ 8) (k : ∀ (z : Int) (σ : rS) (Fₚ : hF) (Aₚ : hA), HW V42_Br σ D N Fₚ Aₚ → OUT (V42_Br).length D N σE c s D N σ c s → SF [] F Fₚ → SA [] A Aₚ → (inrJ (z)) → (NBY ((a3)) ((z))) → ((z) = nmb ((w0)) (a2) (a3) ((a3) : Int).toNat) → Q (some (J z)) σ c s) : Ew 42 (d + 0) 0 (rargs 0 [.ref (D 0), I a2, I a3]) [] σE c s Q := by
  have O := OUT_refl (n := (V42_Br).length) (D := D) (N := N) (σ := σE) (c := c) (s := s)
  have HE := H
  have r1 : (0 : Int) ≤ n0 ∧ n0 ≤ 1000000 := nleE (H.nle 0 (ltn len_V42_Br_oz_B3cls rfl)) (show (N 0 : Int) = n0 from en0)
  refine Ew_of (pcₚ := 1) (fun _ => x_lconst (z := 0) rfl (by decide)) ?_
  refine Ew_of (pcₚ := 2) (fun _ => x_lstore_n rfl) ?_
  refine Ew_of (pcₚ := 3) (fun _ => x_iload_n rfl (rk2_o (rfl) rfl rfl)) ?_
  refine Ew_of (pcₚ := 4) (fun _ => x_iconst rfl) ?_
  refine w_isub rfl ?_
  refine Ew_of (pcₚ := 7) (fun _ => x_istore rfl) ?_
  have : NBY ((a3) - 1 - ((a3) - 1)) 0 := by rw [show (a3) - 1 - ((a3) - 1) = 0 by omega]; exact NBY_0 (by omega : (0 : Int) ≤ 0)
  have hnz : (0 : Int) = nmb ((w0)) (a2) (a3) ((a3) - 1 - ((a3) - 1) : Int).toNat := by rw [show ((a3) - 1 - ((a3) - 1) : Int).toNat = 0 by omega]; rfl
  suffices hl7 : ∀ (m : Nat), ∀ (ls : rO) (σ : rS) (F_7 : hF) (A_7 : hA) (x7_3 : Int) (x7_5 : Int), rlook ls 0 = some (.ref (D 0)) → rlook ls 1 = some (I (a2)) → rlook ls 3 = some (J (x7_3)) → rlook ls 5 = some (I (x7_5)) → HW V42_Br σ D N F_7 A_7 → OUT (V42_Br).length D N σE c s D N σ c s → SF [] F F_7 → SA [] A A_7 → (inrJ (x7_3)) → (inr (x7_5)) → ((x7_5) ≤ ((a3 - 1))) → (((a3 - 1)) ≤ (x7_5) ∨ ((-1)) ≤ (x7_5)) → (NBY ((a3) - 1 - (x7_5)) ((x7_3))) → ((x7_3) = nmb ((w0)) (a2) (a3) ((a3) - 1 - (x7_5) : Int).toNat) → ((x7_5) - ((-1))).toNat = m → Ew 42 (d + 0) 7 ls [] σ c s Q from
    hl7 _ _ _ _ _ (0) ((a3 - 1)) (rk_o (rk2_o (rfl) rfl rfl) rfl rfl) (rk_o (rk2_o (rfl) rfl rfl) rfl rfl) (rk_o (rk2_s) rfl rfl) (rk_s) H O (SF_refl) (SA_refl)     (show inrJ (0) from q_340) (show inr ((a3 - 1)) from q_2951 h3) (show ((a3 - 1)) ≤ ((a3 - 1)) from q_419) (show ((a3 - 1)) ≤ ((a3 - 1)) ∨ ((-1)) ≤ ((a3 - 1)) from q_418) (show NBY ((a3) - 1 - ((a3 - 1))) ((0)) by assumption) (show (0) = nmb ((w0)) (a2) (a3) ((a3) - 1 - ((a3 - 1)) : Int).toNat by assumption) rfl
  as_aux_lemma =>
  intro m
  induction m using Nat.strongRecOn with
  | _ m ih7 =>
    intro ls σ F_7 A_7 x7_3 x7_5 l7_0 l7_1 l7_3 l7_5 H O hS_7 hA_7     j7_0 j7_1 j7_2 j7_3 j7_4 j7_5 hm7
    have cF_7 : SF oz_B3clsl_0 F F_7 := SF_trans (SF_refl) hS_7 (any_sub (by decide +kernel))
    have mF_7 := SFm_of cF_7 oz_B3cls_2
    have cA_7 : SA oz_B3clsl_1 A A_7 := SA_trans (SA_refl) hA_7 (any_subA (by decide +kernel))
    have mA_7 := SAm_of cA_7 oz_B3cls_3
    have j7_n : NBY ((a3) - 1 - (x7_5)) ((x7_3)) := j7_4
    have hof : (x7_3) = nmb ((w0)) (a2) (a3) ((a3) - 1 - (x7_5) : Int).toNat := by assumption
    refine Ew_of (pcₚ := 9) (fun _ => x_iload rfl l7_5) ?_
    refine w_iflt (t := 35) rfl rfl (show inr (x7_5) from j7_1) (fun b2 => ?_) (fun b2 => ?_)
    · have h0 : (a3) - 1 - (x7_5) = (a3) := q_2952 b2 h3 j7_3
      have : NBY ((a3)) ((x7_3)) := by rw [h0] at j7_n; exact j7_n
      have hfi : (x7_3) = nmb ((w0)) (a2) (a3) ((a3) : Int).toNat := by rw [h0] at hof; exact hof
      refine Ew_of (pcₚ := 36) (fun _ => x_lload_n rfl l7_3) ?_
      exact w_lreturn rfl (k (x7_3) _ _ _ H O (cF_7) (cA_7) (show inrJ (x7_3) from j7_0) (show NBY (a3) ((x7_3)) by assumption) (hfi))
    · refine Ew_of (pcₚ := 13) (fun _ => x_lload_n rfl l7_3) ?_
      refine Ew_of (pcₚ := 15) (fun _ => x_bipush (z := 8) rfl (by decide)) ?_
      refine w_lshlF 8 256 (by decide) (by decide) rfl (fun z3 gz3 dz3 ez3 => ?_)
      have hsh := ez3
      refine Ew_of (pcₚ := 17) (fun _ => x_aload_n rfl l7_0) ?_
      refine Ew_of (pcₚ := 18) (fun _ => x_iload_n rfl l7_1) ?_
      refine Ew_of (pcₚ := 20) (fun _ => x_iload rfl l7_5) ?_
      refine w_iadd rfl ?_
      refine v_lB H (o := 0) rfl rfl rfl rfl (n := n0) (en0) (show 0 ≤ (a2 + x7_5) ∧ (a2 + x7_5) < n0 from q_2953 b2 h0 h2 j7_2 j7_3 r1) (fun v4 ev4 qv4 => ?_)
      have ev4 : (w0) ((a2 + x7_5)) = v4 := (congrFun ((funext (mA_7 0 rfl)).trans (ew0)) ((a2 + x7_5))).symm.trans ev4
      have hev := ev4
      refine Ew_of (pcₚ := 25) (fun _ => x_sipush (z := 255) rfl (by decide)) ?_
      refine v_and255 rfl ?_
      refine w_i2l rfl (show inr ((v4 % 256)) from q_461) ?_
      refine w_lorF rfl (show inrJ (z3) by omega) (show inrJ ((v4 % 256)) from q_2954) (fun z5 gz5 dz5 ez5 => ?_)
      have hor := ez5
      have hnf : ((z5) : Int) = nmb ((w0)) (a2) (a3) ((a3) - 1 - ((x7_5) + (-1)) : Int).toNat := nmb_s (i := (x7_5)) (by omega) (by omega) (by omega) hof hsh (by rw [hev]) hor
      have : NBY ((a3) - 1 - ((x7_5) + (-1))) ((z5)) := by rw [show (a3) - 1 - ((x7_5) + (-1)) = (a3) - 1 - (x7_5) + 1 by omega]; exact NBY_step j7_n (by omega) (fun q w1 w2 => by have hp : p2 (8 * ((a3) - 1 - (x7_5))) ≤ p2 48 := p2_mono (by omega); rw [show p2 48 = 281474976710656 from by decide] at hp; omega)
      refine Ew_of (pcₚ := 29) (fun _ => x_lstore_n rfl) ?_
      refine Ew_of (pcₚ := 32) (fun _ => x_iinc (len := 3) rfl (rk2_o (l7_5) rfl rfl)) ?_
      refine Ew_of (pcₚ := 7) (fun _ => x_goto rfl rfl) ?_
      exact ih7 _ (msE hm7 q_432 (q_433 b2)) _ _ _ _ (z5) ((x7_5 + (-1))) (rk_o (rk2_o (l7_0) rfl rfl) rfl rfl) (rk_o (rk2_o (l7_1) rfl rfl) rfl rfl) (rk_o (rk2_s) rfl rfl) (rk_s) H O (hS_7) (hA_7)     (show inrJ (z5) by omega) (show inr ((x7_5 + (-1))) from q_431 b2 j7_1) (show ((x7_5 + (-1))) ≤ ((a3 - 1)) from q_430 j7_2) (show ((a3 - 1)) ≤ ((x7_5 + (-1))) ∨ ((-1)) ≤ ((x7_5 + (-1))) from q_429 b2) (show NBY ((a3) - 1 - ((x7_5 + (-1)))) ((z5)) by assumption) (show (z5) = nmb ((w0)) (a2) (a3) ((a3) - 1 - ((x7_5 + (-1))) : Int).toNat by assumption) rfl
abbrev V46 : vV := []
theorem C46 {σE : rS} {D N : Nat → Nat} {F : hF} {A : hA} {d c s : Nat} {Q : wQ} (H : HW V46 σE D N F A) {a1 a2 : Int} (h0 : inr (a1)) (h1 : inr (a2)) (h2 : 0 ≤ (a2) ∧ (a2) ≤ 32) (k : ∀ (z : Int) (σ : rS) (Fₚ : hF) (Aₚ : hA), HW V46 σ D N Fₚ Aₚ → OUT (V46).length D N σE c s D N σ c s → SF [] F Fₚ → SA [] A Aₚ → (inr (z)) → ((z) = rtI ((a1)) ((a2))) → Q (some (I z)) σ c s) : Ew 46 (d + 0) 0 (rargs 0 [I a1, I a2]) [] σE c s Q := by
  have O := OUT_refl (n := (V46).length) (D := D) (N := N) (σ := σE) (c := c) (s := s)
  have HE := H
  refine Ew_of (pcₚ := 1) (fun _ => x_iload_n rfl rfl) ?_
  refine Ew_of (pcₚ := 2) (fun _ => x_iload_n rfl rfl) ?_
  refine w_ishlE rfl ?_
  have g1 : inr (slI (a1) (a2)) := toI_inr _
  refine Ew_of (pcₚ := 4) (fun _ => x_iload_n rfl rfl) ?_
  refine Ew_of (pcₚ := 6) (fun _ => x_bipush (z := 32) rfl (by decide)) ?_
  refine Ew_of (pcₚ := 7) (fun _ => x_iload_n rfl rfl) ?_
  refine w_isub rfl ?_
  refine w_iushrE rfl ?_
  have g2 : inr (usI (a1) ((32 - a2))) := toI_inr _
  refine w_iorE rfl ?_
  have g3 : inr (orI ((slI (a1) (a2))) ((usI (a1) ((32 - a2))))) := toI_inr _
  have : ((orI ((slI (a1) (a2))) ((usI (a1) ((32 - a2)))))) = rtI ((a1)) ((a2)) := rfl
  exact w_ireturn rfl (k ((orI ((slI (a1) (a2))) ((usI (a1) ((32 - a2)))))) _ _ _ H O (SF_refl) (SA_refl) (show inr ((orI ((slI (a1) (a2))) ((usI (a1) ((32 - a2)))))) from g3) (show ((orI ((slI (a1) (a2))) ((usI (a1) ((32 - a2)))))) = rtI (a1) (a2) by assumption))
abbrev V47 : vV := []
theorem C47 {σE : rS} {D N : Nat → Nat} {F : hF} {A : hA} {d c s : Nat} {Q : wQ} (H : HW V47 σE D N F A) {a1 a2 : Int} (h0 : inrJ (a1)) (h1 : inr (a2)) (h2 : 0 ≤ (a2) ∧ (a2) ≤ 64) (k : ∀ (z : Int) (σ : rS) (Fₚ : hF) (Aₚ : hA), HW V47 σ D N Fₚ Aₚ → OUT (V47).length D N σE c s D N σ c s → SF [] F Fₚ → SA [] A Aₚ → (inrJ (z)) → ((z) = rtJ ((a1)) ((a2))) → Q (some (J z)) σ c s) : Ew 47 (d + 0) 0 (rargs 0 [J a1, I a2]) [] σE c s Q := by
  have O := OUT_refl (n := (V47).length) (D := D) (N := N) (σ := σE) (c := c) (s := s)
  have HE := H
  refine Ew_of (pcₚ := 1) (fun _ => x_lload_n rfl rfl) ?_
  refine Ew_of (pcₚ := 2) (fun _ => x_iload_n rfl rfl) ?_
  refine w_lshlE rfl ?_
  have g1 : inrJ (shlJ (a1) (a2)) := toJ_inr _
  refine Ew_of (pcₚ := 4) (fun _ => x_lload_n rfl rfl) ?_
  refine Ew_of (pcₚ := 6) (fun _ => x_bipush (z := 64) rfl (by decide)) ?_
  refine Ew_of (pcₚ := 7) (fun _ => x_iload_n rfl rfl) ?_
  refine w_isub rfl ?_
  refine w_lushrE rfl ?_
  have g2 : inrJ (usJ (a1) ((64 - a2))) := toJ_inr _
  refine w_lorE rfl ?_
  have g3 : inrJ (orJ ((shlJ (a1) (a2))) ((usJ (a1) ((64 - a2))))) := toJ_inr _
  have : ((orJ ((shlJ (a1) (a2))) ((usJ (a1) ((64 - a2)))))) = rtJ ((a1)) ((a2)) := rfl
  exact w_lreturn rfl (k ((orJ ((shlJ (a1) (a2))) ((usJ (a1) ((64 - a2)))))) _ _ _ H O (SF_refl) (SA_refl) (show inrJ ((orJ ((shlJ (a1) (a2))) ((usJ (a1) ((64 - a2)))))) from g3) (show ((orJ ((shlJ (a1) (a2))) ((usJ (a1) ((64 - a2)))))) = rtJ (a1) (a2) by assumption))
abbrev V48 : vV := []
theorem oz_B3cls_7 : vsub V48 V46 [] = true := by decide +kernel
theorem oz_B3cls_8 : okc oz_B3clsl_1 0 = true := by decide +kernel

theorem C48 {σE : rS} {D N : Nat → Nat} {F : hF} {A : hA} {d c s : Nat} {Q : wQ} (H : HW V48 σE D N F A) {a1 a2 : Int} (h0 : inr (a1)) (h1 : inr (a2)) (k : ∀ (z : Int) (σ : rS) (Fₚ : hF) (Aₚ : hA), HW V48 σ D N Fₚ Aₚ → OUT (V48).length D N σE c s D N σ c s → SF [] F Fₚ → SA [] A Aₚ → (inr (z)) → ((z) = nlI ((a1)) ((a2))) → Q (some (I z)) σ c s) : Ew 48 (d + 1) 0 (rargs 0 [I a1, I a2]) [] σE c s Q := by
  have O := OUT_refl (n := (V48).length) (D := D) (N := N) (σ := σE) (c := c) (s := s)
  have HE := H
  refine Ew_of (pcₚ := 1) (fun _ => x_iload_n rfl rfl) ?_
  refine Ew_of (pcₚ := 2) (fun _ => x_iload_n rfl rfl) ?_
  refine Ew_of (pcₚ := 5) (fun _ => x_ldc_w (z := -2048144777) rfl (by decide)) ?_
  refine w_imulE rfl ?_
  have g1 : inr (muI (a2) ((-2048144777))) := toI_inr _
  refine w_iaddE rfl ?_
  have g2 : inr (adI (a1) ((muI (a2) ((-2048144777))))) := toI_inr _
  refine Ew_of (pcₚ := 9) (fun _ => x_bipush (z := 13) rfl (by decide)) ?_
  refine w_stat24 rfl rfl (by rfl) (C46 (D := puc 0 D) (N := puc 0 N) (HW_subc H oz_B3cls_7 oz_B3cls_8) (show inr ((adI (a1) ((muI (a2) ((-2048144777)))))) from g2) (show inr (13) from q_350) (show 0 ≤ (13) ∧ (13) ≤ 32 from q_349) (fun z3 σ3 F3ₚ A3ₚ Hₚ Oₚ hS3 hA3 pz3_0 pz3_1 => ⟨rfl, ?_⟩))
  refine v_backc (c := c) (s := s) H oz_B3cls_7 oz_B3cls_8 Hₚ Oₚ (fun F3 A3 H Oₚ eF3 eA3 => ?_)
  have O := OUT_trans O Oₚ
  -- PackHouse.rotated
  have cF3 : SF oz_B3clsl_0 F F3 := SF_trans (SF_refl) (SF_gluc (ι := oz_B3clsl_1) oz_B3cls_8 hS3 eF3 (by decide +kernel)) (any_sub (lₚ := []) (by decide +kernel))
  have mF3 := SFm_of cF3 oz_B3cls_2
  have cA3 : SA oz_B3clsl_1 A A3 := SA_trans (SA_refl) (SA_gluc (ι := oz_B3clsl_1) oz_B3cls_8 hA3 eA3 (by decide +kernel)) (any_subA (lₚ := []) (by decide +kernel))
  have mA3 := SAm_of cA3 oz_B3cls_3
  have hrt := pz3_1
  refine Ew_of (pcₚ := 15) (fun _ => x_ldc_w (z := -1640531535) rfl (by decide)) ?_
  refine w_imulE rfl ?_
  have g4 : inr (muI (z3) ((-1640531535))) := toI_inr _
  have : ((muI (z3) ((-1640531535)))) = nlI ((a1)) ((a2)) := by unfold nlI; rw [← hrt]
  exact w_ireturn rfl (k ((muI (z3) ((-1640531535)))) _ _ _ H O (cF3) (cA3) (show inr ((muI (z3) ((-1640531535)))) from g4) (show ((muI (z3) ((-1640531535)))) = nlI (a1) (a2) by assumption))
abbrev V50 : vV := []
theorem oz_B3cls_10 : vsub V50 V47 [] = true := by decide +kernel

theorem C50 {σE : rS} {D N : Nat → Nat} {F : hF} {A : hA} {d c s : Nat} {Q : wQ} (H : HW V50 σE D N F A) {a1 a2 : Int} (h0 : inrJ (a1)) (h1 : inrJ (a2)) (k : ∀ (z : Int) (σ : rS) (Fₚ : hF) (Aₚ : hA), HW V50 σ D N Fₚ Aₚ → OUT (V50).length D N σE c s D N σ c s → SF [] F Fₚ → SA [] A Aₚ → (inrJ (z)) → ((z) = wl ((a1)) ((a2))) → Q (some (J z)) σ c s) : Ew 50 (d + 1) 0 (rargs 0 [J a1, J a2]) [] σE c s Q := by
  have O := OUT_refl (n := (V50).length) (D := D) (N := N) (σ := σE) (c := c) (s := s)
  have HE := H
  refine Ew_of (pcₚ := 1) (fun _ => x_lload_n rfl rfl) ?_
  refine Ew_of (pcₚ := 2) (fun _ => x_lload_n rfl rfl) ?_
  refine Ew_of (pcₚ := 5) (fun _ => x_ldc2 (z := -4417276706812531889) rfl (by decide)) ?_
  refine w_lmulE rfl ?_
  have g1 : inrJ (muJ (a2) ((-4417276706812531889))) := toJ_inr _
  refine w_laddE rfl ?_
  have g2 : inrJ (adJ (a1) ((muJ (a2) ((-4417276706812531889))))) := toJ_inr _
  refine Ew_of (pcₚ := 9) (fun _ => x_bipush (z := 31) rfl (by decide)) ?_
  refine w_stat24 rfl rfl (by rfl) (C47 (D := puc 0 D) (N := puc 0 N) (HW_subc H oz_B3cls_10 oz_B3cls_8) (show inrJ ((adJ (a1) ((muJ (a2) ((-4417276706812531889)))))) from g2) (show inr (31) from q_323) (show 0 ≤ (31) ∧ (31) ≤ 64 from q_322) (fun z3 σ3 F3ₚ A3ₚ Hₚ Oₚ hS3 hA3 pz3_0 pz3_1 => ⟨rfl, ?_⟩))
  refine v_backc (c := c) (s := s) H oz_B3cls_10 oz_B3cls_8 Hₚ Oₚ (fun F3 A3 H Oₚ eF3 eA3 => ?_)
  have O := OUT_trans O Oₚ
  -- PackHouse.rotated
  have cF3 : SF oz_B3clsl_0 F F3 := SF_trans (SF_refl) (SF_gluc (ι := oz_B3clsl_1) oz_B3cls_8 hS3 eF3 (by decide +kernel)) (any_sub (lₚ := []) (by decide +kernel))
  have mF3 := SFm_of cF3 oz_B3cls_2
  have cA3 : SA oz_B3clsl_1 A A3 := SA_trans (SA_refl) (SA_gluc (ι := oz_B3clsl_1) oz_B3cls_8 hA3 eA3 (by decide +kernel)) (any_subA (lₚ := []) (by decide +kernel))
  have mA3 := SAm_of cA3 oz_B3cls_3
  have hrt := pz3_1
  refine Ew_of (pcₚ := 15) (fun _ => x_ldc2 (z := -7046029288634856825) rfl (by decide)) ?_
  refine w_lmulE rfl ?_
  have g4 : inrJ (muJ (z3) ((-7046029288634856825))) := toJ_inr _
  have : ((muJ (z3) ((-7046029288634856825)))) = wl ((a1)) ((a2)) := by unfold wl; rw [← hrt]
  exact w_lreturn rfl (k ((muJ (z3) ((-7046029288634856825)))) _ _ _ H O (cF3) (cA3) (show inrJ ((muJ (z3) ((-7046029288634856825)))) from g4) (show ((muJ (z3) ((-7046029288634856825)))) = wl (a1) (a2) by assumption))
abbrev V54 : vV := []
theorem oz_B3cls_12 : vsub V54 V46 [] = true := by decide +kernel

theorem C54 {σE : rS} {D N : Nat → Nat} {F : hF} {A : hA} {d c s : Nat} {Q : wQ} (H : HW V54 σE D N F A) {a1 : Int} (h0 : inr (a1)) (k : ∀ (z : Int) (σ : rS) (Fₚ : hF) (Aₚ : hA), HW V54 σ D N Fₚ Aₚ → OUT (V54).length D N σE c s D N σ c s → SF [] F Fₚ → SA [] A Aₚ → (inr (z)) → ((z) = adI (rtI ((a1)) 17) (-1568478504)) → Q (some (I z)) σ c s) : Ew 54 (d + 1) 0 (rargs 0 [I a1]) [] σE c s Q := by
  have O := OUT_refl (n := (V54).length) (D := D) (N := N) (σ := σE) (c := c) (s := s)
  have HE := H
  refine Ew_of (pcₚ := 1) (fun _ => x_iload_n rfl rfl) ?_
  refine Ew_of (pcₚ := 3) (fun _ => x_bipush (z := 17) rfl (by decide)) ?_
  refine w_stat24 rfl rfl (by rfl) (C46 (D := puc 0 D) (N := puc 0 N) (HW_subc H oz_B3cls_12 oz_B3cls_8) (show inr (a1) from h0) (show inr (17) from q_582) (show 0 ≤ (17) ∧ (17) ≤ 32 from q_809) (fun z1 σ1 F1ₚ A1ₚ Hₚ Oₚ hS1 hA1 pz1_0 pz1_1 => ⟨rfl, ?_⟩))
  refine v_backc (c := c) (s := s) H oz_B3cls_12 oz_B3cls_8 Hₚ Oₚ (fun F1 A1 H Oₚ eF1 eA1 => ?_)
  have O := OUT_trans O Oₚ
  -- PackHouse.rotated
  have cF1 : SF oz_B3clsl_0 F F1 := SF_trans (SF_refl) (SF_gluc (ι := oz_B3clsl_1) oz_B3cls_8 hS1 eF1 (by decide +kernel)) (any_sub (lₚ := []) (by decide +kernel))
  have mF1 := SFm_of cF1 oz_B3cls_2
  have cA1 : SA oz_B3clsl_1 A A1 := SA_trans (SA_refl) (SA_gluc (ι := oz_B3clsl_1) oz_B3cls_8 hA1 eA1 (by decide +kernel)) (any_subA (lₚ := []) (by decide +kernel))
  have mA1 := SAm_of cA1 oz_B3cls_3
  have hrt := pz1_1
  refine Ew_of (pcₚ := 9) (fun _ => x_ldc_w (z := -1568478504) rfl (by decide)) ?_
  refine w_iaddE rfl ?_
  have g2 : inr (adI (z1) ((-1568478504))) := toI_inr _
  have : ((adI (z1) ((-1568478504)))) = adI (rtI ((a1)) 17) (-1568478504) := by rw [← hrt]
  exact w_ireturn rfl (k ((adI (z1) ((-1568478504)))) _ _ _ H O (cF1) (cA1) (show inr ((adI (z1) ((-1568478504)))) from g2) (show ((adI (z1) ((-1568478504)))) = adI (rtI (a1) 17) (-1568478504) by assumption))


end
