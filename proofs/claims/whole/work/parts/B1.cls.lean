abbrev V159 : vV := [(0, 7, [(4, 0), (0, 0), (1, 0), (0, 0), (0, 0)]), (1, 0, [])]
/-- Row.add: this, this.bytes -/
theorem C159 {σE : rS} {D N : Nat → Nat} {F : hF} {A : hA} {d c s : Nat} {Q : wQ} (H : HW V159 σE D N F A) {a1 : Int} (pf1 : F 0 0 = (D 1 : Int)) (n1 : Int) (en1 : (N 1 : Int) = n1) (u0_1 : Int) (eu0_1 : F 0 1 = u0_1) (u0_2 : Int) (eu0_2 : F 0 2 = u0_2) (w1 : Int → Int) (ew1 : A 1 = w1) (h0 : inr (a1)) (h1 : 0 ≤ (u0_1) ∧ (u0_1) ≤ (n1) ∧ (n1) ≤ 65536) (k : ∀ (σ : rS) (D' N' : Nat → Nat) (F' : hF) (A' : hA) (c' s' : Nat), HW V159 σ D' N' F' A' → OUT (V159).length D N σE c s D' N' σ c' s' → SD [1] D D' → SD [1] N N' → SF [(0, 0), (0, 1), (0, 2)] F F' → SA [1] A A' → F' 0 0 = (D' 1 : Int) → ∀ m1 : Int, (N' 1 : Int) = m1 → ∀ y0_1 : Int, F' 0 1 = y0_1 → ∀ y0_2 : Int, F' 0 2 = y0_2 → ∀ v1 : Int → Int, A' 1 = v1 → (0 ≤ (y0_1) ∧ (y0_1) ≤ (m1) ∧ (m1) ≤ 65536) → ((y0_1) = (u0_1) + 1 ∧ 0 ≤ 1 ∨ (y0_1) = (u0_1) ∧ (1 < 0 ∨ 65536 < (u0_1) + 1)) → ((n1) ≤ (m1)) → (RAP ((u0_2)) ((w1)) ((u0_1)) ((y0_2)) ((v1)) ((y0_1)) ([u8 ((a1))])) → Q none σ c' s') : Ew 159 (d + 2) 0 (rargs 0 [.ref (D 0), I a1]) [] σE c s Q := by
  have O := OUT_refl (n := (V159).length) (D := D) (N := N) (σ := σE) (c := c) (s := s)
  have HE := H
  have r1 : (-2147483648 : Int) ≤ u0_1 ∧ u0_1 ≤ 2147483647 := by have h1 : (-2147483648 : Int) ≤ F 0 1 ∧ F 0 1 ≤ 2147483647 := H.krg 0 1 (by decide); rw [show F 0 1 = u0_1 from (eu0_1)] at h1; exact h1
  have r2 : (0 : Int) ≤ u0_2 ∧ u0_2 ≤ 1 := by have h1 : (0 : Int) ≤ F 0 2 ∧ F 0 2 ≤ 1 := H.krg 0 2 (by decide); rw [show F 0 2 = u0_2 from (eu0_2)] at h1; exact h1
  have r3 : (0 : Int) ≤ n1 ∧ n1 ≤ 1000000 := by have h1 := H.nle 1 (by decide); have h2 : (N 1 : Int) = n1 := en1; omega
  refine Ew_of (pc' := 1) (fun _ => x_aload_n rfl rfl) ?_
  refine v_g H (o := 0) (v := I (u0_1)) rfl rfl rfl rfl rfl (congrArg (fun z : Int => I z) ((eu0_1) : F 0 1 = u0_1)) ?_
  refine Ew_of (pc' := 5) (fun _ => x_aload_n rfl rfl) ?_
  refine v_g H (o := 0) (v := .ref (D 1)) rfl rfl rfl rfl rfl (vrf (pf1)) ?_
  refine v_len H (o := 1) rfl rfl rfl rfl (n := n1) (en1) ?_
  refine w_icmplt (t := 20) rfl rfl (show inr (u0_1) by omega) (show inr (n1) by omega) (fun b4 => ?_) (fun b4 => ?_)
  · refine Ew_of (pc' := 21) (fun _ => x_aload_n rfl rfl) ?_
    refine v_g H (o := 0) (v := .ref (D 1)) rfl rfl rfl rfl rfl (vrf (pf1)) ?_
    refine Ew_of (pc' := 25) (fun _ => x_aload_n rfl rfl) ?_
    refine Ew_of (pc' := 26) (fun _ => x_dup rfl rfl) ?_
    refine v_g H (o := 0) (v := I (u0_1)) rfl rfl rfl rfl rfl (congrArg (fun z : Int => I z) ((eu0_1) : F 0 1 = u0_1)) ?_
    refine Ew_of (pc' := 30) (fun _ => x_dup_x1 rfl rfl) ?_
    refine Ew_of (pc' := 31) (fun _ => x_iconst rfl) ?_
    refine w_iadd rfl ?_
    refine v_p H (o := 0) (z := (u0_1 + 1)) (v := I ((u0_1 + 1))) rfl rfl rfl rfl rfl rfl rfl rfl (show (-2147483648 : Int) ≤ (u0_1 + 1) ∧ (u0_1 + 1) ≤ 2147483647 by omega) (fun σ H O' => ?_)
    have O := OUT_trans O O'
    refine Ew_of (pc' := 36) (fun _ => x_iload_n rfl rfl) ?_
    refine v_i2b rfl (fun z5 gz5 uz5 => ?_)
    have hu := uz5
    refine v_sB H (o := 1) rfl rfl rfl rfl (n := n1) (en1) (show 0 ≤ u0_1 ∧ u0_1 < n1 by omega) (fun z6 σ qz6 uz6 H O' => ?_)
    have O := OUT_trans O O'
    have hus := uz6
    refine Ew_of (pc' := 46) (fun _ => x_goto rfl rfl) ?_
    have : RAP ((u0_2)) ((w1)) ((u0_1)) ((u0_2)) ((upd1 (w1) (u0_1) (z6))) (((u0_1 + 1))) ([u8 ((a1))]) := by first | exact RAP_byte (by omega) (by omega) (fun i a b => upd1_o (by omega)) (by rw [upd1_s, hus]; exact hu) | exact RAP_byte (by omega) (by omega) (fun i a b => (upd1_o (by omega)).trans (hsr i a b)) (by rw [upd1_s, hus]; exact hu) | exact RAP_burst (by omega) (by simp only [List.length_cons, List.length_nil]; omega)
    exact w_ret rfl (k _ _ _ _ _ _ _ H O (SD_refl) (SD_refl) (SF_upd (SF_refl) rfl) (SA_upd (SA_refl) rfl) (pf1) (n1) (en1) ((u0_1 + 1)) (rfl) (u0_2) ((eu0_2)) (upd1 (w1) (u0_1) (z6)) (congrArg (fun q => upd1 q (u0_1) (z6)) (ew1)) (show 0 ≤ ((u0_1 + 1)) ∧ ((u0_1 + 1)) ≤ (n1) ∧ (n1) ≤ 65536 by omega) (show ((u0_1 + 1)) = (u0_1) + 1 ∧ 0 ≤ 1 ∨ ((u0_1 + 1)) = (u0_1) ∧ (1 < 0 ∨ 65536 < (u0_1) + 1) by omega) (show (n1) ≤ (n1) by omega) (show RAP ((u0_2)) ((w1)) ((u0_1)) ((u0_2)) ((upd1 (w1) (u0_1) (z6))) (((u0_1 + 1))) ([u8 (a1)]) by assumption))
  · refine Ew_of (pc' := 13) (fun _ => x_aload_n rfl rfl) ?_
    refine Ew_of (pc' := 14) (fun _ => x_iconst rfl) ?_
    refine v_inv H (o := 0) rfl rfl rfl rfl rfl rfl (by rfl) (C157 (D := pul [0, 1] D) (N := pul [0, 1] N) (HW_sub H (VS_of (show vsub V159 V157 [0, 1] = true by decide +kernel))) (pf1) (n1) (en1) (u0_1) ((eu0_1)) (w1) (ew1) (show inr (1) by omega) (show 0 ≤ (u0_1) ∧ (u0_1) ≤ (n1) ∧ (n1) ≤ 65536 by omega) (fun z7 σ7 D7' N7' F7' A7' c7 s7 H' O' hD7 hN7 hS7 hA7 pm7_1 m7_1 em7_1 w7_1 ew7_1 pz7_0 pz7_1 pz7_2 pz7_3 pz7_4 => ⟨rretB rfl pz7_0, ?_⟩))
    refine v_backM (c := c) (s := s) H (show vsub V159 V157 [0, 1] = true by decide +kernel) H' O' hD7 (show vmov V159 [0, 1] [1] = true by decide +kernel) (fun D7 N7 F7 A7 H O' eD7 eN7 eF7 eA7 => ?_)
    have O := OUT_trans O O'
    -- Row.reserve
    have pf7_0_0 : F7 0 0 = (D7 1 : Int) := (eF7 0 0).trans (pm7_1.trans (congrArg (fun q : Nat => (q : Int)) (eD7 1).symm))
    have r8 : (0 : Int) ≤ m7_1 ∧ m7_1 ≤ 1000000 := by have h1 := H.nle 1 (by decide); have h2 : (N7 1 : Int) = m7_1 := (congrArg (fun q : Nat => (q : Int)) (eN7 1)).trans em7_1; omega
    have hsr := pz7_4
    refine w_ifeq (t := 41) rfl rfl (show inr (z7) by omega) (fun b9 => ?_) (fun b9 => ?_)
    · refine Ew_of (pc' := 42) (fun _ => x_aload_n rfl rfl) ?_
      refine Ew_of (pc' := 43) (fun _ => x_iconst rfl) ?_
      refine Ew_stk (show ([I (1), .ref (D 0)] : List Value) = [I (1), .ref (D7 0)] by rw [show D7 0 = D 0 from ((show D7 0 = D 0 from (eD7 0).trans (hD7 0 rfl)))]) ?_
      refine v_p H (o := 0) (z := 1) (v := I (1)) rfl rfl rfl rfl rfl rfl rfl (rfit_b (by omega)) (show (0 : Int) ≤ 1 ∧ 1 ≤ 1 by omega) (fun σ H O' => ?_)
      have O := OUT_trans O O'
      have : RAP ((u0_2)) ((w1)) ((u0_1)) ((1)) ((w7_1)) ((u0_1)) ([u8 ((a1))]) := by first | exact RAP_byte (by omega) (by omega) (fun i a b => upd1_o (by omega)) (by rw [upd1_s, hus]; exact hu) | exact RAP_byte (by omega) (by omega) (fun i a b => (upd1_o (by omega)).trans (hsr i a b)) (by rw [upd1_s, hus]; exact hu) | exact RAP_burst (by omega) (by simp only [List.length_cons, List.length_nil]; omega)
      exact w_ret rfl (k _ _ _ _ _ _ _ H O (SD_trans (SD_refl) (SD_glu (ι := [0, 1]) hD7 eD7 (by decide +kernel)) (any_subA (l' := [1]) rfl)) (SD_trans (SD_refl) (SD_glu (ι := [0, 1]) hN7 eN7 (by decide +kernel)) (any_subA (l' := [1]) rfl)) (SF_upd (SF_trans (SF_refl) (SF_glu (ι := [0, 1]) hS7 eF7 (by decide +kernel)) (any_sub (l' := [(0, 0)]) rfl)) rfl) (SA_trans (SA_refl) (SA_glu (ι := [0, 1]) hA7 eA7 (by decide +kernel)) (any_subA (l' := [1]) rfl)) (pf7_0_0) (m7_1) ((congrArg (fun q : Nat => (q : Int)) (eN7 1)).trans em7_1) (u0_1) ((((show F7 0 1 = F 0 1 from (eF7 0 1).trans (hS7 0 1 rfl))).trans (eu0_1))) (1) (rfl) (w7_1) ((eA7 1).trans ew7_1) (show 0 ≤ (u0_1) ∧ (u0_1) ≤ (m7_1) ∧ (m7_1) ≤ 65536 by omega) (show (u0_1) = (u0_1) + 1 ∧ 0 ≤ 1 ∨ (u0_1) = (u0_1) ∧ (1 < 0 ∨ 65536 < (u0_1) + 1) by omega) (show (n1) ≤ (m7_1) by omega) (show RAP ((u0_2)) ((w1)) ((u0_1)) ((1)) ((w7_1)) ((u0_1)) ([u8 (a1)]) by assumption))
    · refine Ew_of (pc' := 21) (fun _ => x_aload_n rfl rfl) ?_
      refine Ew_stk (show ([.ref (D 0)] : List Value) = [.ref (D7 0)] by rw [show D7 0 = D 0 from ((show D7 0 = D 0 from (eD7 0).trans (hD7 0 rfl)))]) ?_
      refine v_g H (o := 0) (v := .ref (D7 1)) rfl rfl rfl rfl rfl (vrf (pf7_0_0)) ?_
      refine Ew_of (pc' := 25) (fun _ => x_aload_n rfl rfl) ?_
      refine Ew_of (pc' := 26) (fun _ => x_dup rfl rfl) ?_
      refine Ew_stk (show ([.ref (D 0), .ref (D 0), .ref (D7 1)] : List Value) = [.ref (D7 0), .ref (D7 0), .ref (D7 1)] by rw [show D7 0 = D 0 from ((show D7 0 = D 0 from (eD7 0).trans (hD7 0 rfl)))]) ?_
      refine v_g H (o := 0) (v := I (u0_1)) rfl rfl rfl rfl rfl (congrArg (fun z : Int => I z) ((((show F7 0 1 = F 0 1 from (eF7 0 1).trans (hS7 0 1 rfl))).trans (eu0_1)) : F7 0 1 = u0_1)) ?_
      refine Ew_of (pc' := 30) (fun _ => x_dup_x1 rfl rfl) ?_
      refine Ew_of (pc' := 31) (fun _ => x_iconst rfl) ?_
      refine w_iadd rfl ?_
      refine v_p H (o := 0) (z := (u0_1 + 1)) (v := I ((u0_1 + 1))) rfl rfl rfl rfl rfl rfl rfl rfl (show (-2147483648 : Int) ≤ (u0_1 + 1) ∧ (u0_1 + 1) ≤ 2147483647 by omega) (fun σ H O' => ?_)
      have O := OUT_trans O O'
      refine Ew_of (pc' := 36) (fun _ => x_iload_n rfl rfl) ?_
      refine v_i2b rfl (fun z10 gz10 uz10 => ?_)
      have hu := uz10
      refine v_sB H (o := 1) rfl rfl rfl rfl (n := m7_1) ((congrArg (fun q : Nat => (q : Int)) (eN7 1)).trans em7_1) (show 0 ≤ u0_1 ∧ u0_1 < m7_1 by omega) (fun z11 σ qz11 uz11 H O' => ?_)
      have O := OUT_trans O O'
      have hus := uz11
      refine Ew_of (pc' := 46) (fun _ => x_goto rfl rfl) ?_
      have : RAP ((u0_2)) ((w1)) ((u0_1)) ((u0_2)) ((upd1 (w7_1) (u0_1) (z11))) (((u0_1 + 1))) ([u8 ((a1))]) := by first | exact RAP_byte (by omega) (by omega) (fun i a b => upd1_o (by omega)) (by rw [upd1_s, hus]; exact hu) | exact RAP_byte (by omega) (by omega) (fun i a b => (upd1_o (by omega)).trans (hsr i a b)) (by rw [upd1_s, hus]; exact hu) | exact RAP_burst (by omega) (by simp only [List.length_cons, List.length_nil]; omega)
      exact w_ret rfl (k _ _ _ _ _ _ _ H O (SD_trans (SD_refl) (SD_glu (ι := [0, 1]) hD7 eD7 (by decide +kernel)) (any_subA (l' := [1]) rfl)) (SD_trans (SD_refl) (SD_glu (ι := [0, 1]) hN7 eN7 (by decide +kernel)) (any_subA (l' := [1]) rfl)) (SF_upd (SF_trans (SF_refl) (SF_glu (ι := [0, 1]) hS7 eF7 (by decide +kernel)) (any_sub (l' := [(0, 0)]) rfl)) rfl) (SA_upd (SA_trans (SA_refl) (SA_glu (ι := [0, 1]) hA7 eA7 (by decide +kernel)) (any_subA (l' := [1]) rfl)) rfl) (pf7_0_0) (m7_1) ((congrArg (fun q : Nat => (q : Int)) (eN7 1)).trans em7_1) ((u0_1 + 1)) (rfl) (u0_2) ((((show F7 0 2 = F 0 2 from (eF7 0 2).trans (hS7 0 2 rfl))).trans (eu0_2))) (upd1 (w7_1) (u0_1) (z11)) (congrArg (fun q => upd1 q (u0_1) (z11)) ((eA7 1).trans ew7_1)) (show 0 ≤ ((u0_1 + 1)) ∧ ((u0_1 + 1)) ≤ (m7_1) ∧ (m7_1) ≤ 65536 by omega) (show ((u0_1 + 1)) = (u0_1) + 1 ∧ 0 ≤ 1 ∨ ((u0_1 + 1)) = (u0_1) ∧ (1 < 0 ∨ 65536 < (u0_1) + 1) by omega) (show (n1) ≤ (m7_1) by omega) (show RAP ((u0_2)) ((w1)) ((u0_1)) ((u0_2)) ((upd1 (w7_1) (u0_1) (z11))) (((u0_1 + 1))) ([u8 (a1)]) by assumption))
abbrev V160 : vV := [(0, 7, [(4, 0), (0, 0), (1, 0), (0, 0), (0, 0)]), (1, 0, [])]
/-- Row.addNumber: this, this.bytes -/
theorem C160 {σE : rS} {D N : Nat → Nat} {F : hF} {A : hA} {d c s : Nat} {Q : wQ} (H : HW V160 σE D N F A) {a1 a2 : Int} (pf1 : F 0 0 = (D 1 : Int)) (n1 : Int) (en1 : (N 1 : Int) = n1) (u0_1 : Int) (eu0_1 : F 0 1 = u0_1) (u0_2 : Int) (eu0_2 : F 0 2 = u0_2) (w1 : Int → Int) (ew1 : A 1 = w1) (h0 : inrJ (a1)) (h1 : inr (a2)) (h2 : 0 ≤ (u0_1) ∧ (u0_1) ≤ (n1) ∧ (n1) ≤ 65536) (h3 : 0 ≤ (a2) ∧ (a2) ≤ 8) (k : ∀ (σ : rS) (D' N' : Nat → Nat) (F' : hF) (A' : hA) (c' s' : Nat), HW V160 σ D' N' F' A' → OUT (V160).length D N σE c s D' N' σ c' s' → SD [1] D D' → SD [1] N N' → SF [(0, 0), (0, 1), (0, 2)] F F' → SA [1] A A' → F' 0 0 = (D' 1 : Int) → ∀ m1 : Int, (N' 1 : Int) = m1 → ∀ y0_1 : Int, F' 0 1 = y0_1 → ∀ y0_2 : Int, F' 0 2 = y0_2 → ∀ v1 : Int → Int, A' 1 = v1 → (0 ≤ (y0_1) ∧ (y0_1) ≤ (m1) ∧ (m1) ≤ 65536) → ((y0_1) = (u0_1) + (a2) ∧ 0 ≤ (a2) ∨ (y0_1) = (u0_1) ∧ ((a2) < 0 ∨ 65536 < (u0_1) + (a2))) → (RAP ((u0_2)) ((w1)) ((u0_1)) ((y0_2)) ((v1)) ((y0_1)) (nb ((a1)) ((a2)))) → Q none σ c' s') : Ew 160 (d + 2) 0 (rargs 0 [.ref (D 0), J a1, I a2]) [] σE c s Q := by
  have O := OUT_refl (n := (V160).length) (D := D) (N := N) (σ := σE) (c := c) (s := s)
  have HE := H
  have r1 : (-2147483648 : Int) ≤ u0_1 ∧ u0_1 ≤ 2147483647 := by have h1 : (-2147483648 : Int) ≤ F 0 1 ∧ F 0 1 ≤ 2147483647 := H.krg 0 1 (by decide); rw [show F 0 1 = u0_1 from (eu0_1)] at h1; exact h1
  have r2 : (0 : Int) ≤ u0_2 ∧ u0_2 ≤ 1 := by have h1 : (0 : Int) ≤ F 0 2 ∧ F 0 2 ≤ 1 := H.krg 0 2 (by decide); rw [show F 0 2 = u0_2 from (eu0_2)] at h1; exact h1
  have r3 : (0 : Int) ≤ n1 ∧ n1 ≤ 1000000 := by have h1 := H.nle 1 (by decide); have h2 : (N 1 : Int) = n1 := en1; omega
  refine Ew_of (pc' := 1) (fun _ => x_aload_n rfl rfl) ?_
  refine Ew_of (pc' := 2) (fun _ => x_iload_n rfl rfl) ?_
  refine v_inv H (o := 0) rfl rfl rfl rfl rfl rfl (by rfl) (C157 (D := pul [0, 1] D) (N := pul [0, 1] N) (HW_sub H (VS_of (show vsub V160 V157 [0, 1] = true by decide +kernel))) (pf1) (n1) (en1) (u0_1) ((eu0_1)) (w1) (ew1) (show inr (a2) by omega) (show 0 ≤ (u0_1) ∧ (u0_1) ≤ (n1) ∧ (n1) ≤ 65536 by omega) (fun z4 σ4 D4' N4' F4' A4' c4 s4 H' O' hD4 hN4 hS4 hA4 pm4_1 m4_1 em4_1 w4_1 ew4_1 pz4_0 pz4_1 pz4_2 pz4_3 pz4_4 => ⟨rretB rfl pz4_0, ?_⟩))
  refine v_backM (c := c) (s := s) H (show vsub V160 V157 [0, 1] = true by decide +kernel) H' O' hD4 (show vmov V160 [0, 1] [1] = true by decide +kernel) (fun D4 N4 F4 A4 H O' eD4 eN4 eF4 eA4 => ?_)
  have O := OUT_trans O O'
  -- Row.reserve
  have pf4_0_0 : F4 0 0 = (D4 1 : Int) := (eF4 0 0).trans (pm4_1.trans (congrArg (fun q : Nat => (q : Int)) (eD4 1).symm))
  have r5 : (0 : Int) ≤ m4_1 ∧ m4_1 ≤ 1000000 := by have h1 := H.nle 1 (by decide); have h2 : (N4 1 : Int) = m4_1 := (congrArg (fun q : Nat => (q : Int)) (eN4 1)).trans em4_1; omega
  have hsr := pz4_4
  refine w_ifne (t := 14) rfl rfl (show inr (z4) by omega) (fun b6 => ?_) (fun b6 => ?_)
  · refine Ew_of (pc' := 15) (fun _ => x_iconst rfl) ?_
    refine Ew_of (pc' := 17) (fun _ => x_istore rfl) ?_
    have : RAP ((u0_2)) ((w1)) ((u0_1)) ((u0_2)) ((w4_1)) ((u0_1)) (nb ((a1)) 0) := RAP_same hsr
    suffices hl17 : ∀ (m : Nat), ∀ (ls : rO) (σ : rS) (F_17 : hF) (A_17 : hA) (x17_4 : Int), rlook ls 0 = some (.ref (D4 0)) → rlook ls 1 = some (J (a1)) → rlook ls 3 = some (I (a2)) → rlook ls 4 = some (I (x17_4)) → HW V160 σ D4 N4 F_17 A_17 → OUT (V160).length D N σE c s D4 N4 σ (c + c4) (s + s4) → SF [(0, 1)] F4 F_17 → SA [1] A4 A_17 → ∀ y17_0_1 : Int, F_17 0 1 = y17_0_1 → ∀ w17_1 : Int → Int, A_17 1 = w17_1 → (inr (x17_4)) → ((0) ≤ (x17_4)) → ((x17_4) ≤ (0) ∨ (x17_4) ≤ ((a2))) → ((y17_0_1) = (u0_1) + (x17_4)) → ((u0_1) + (a2) ≤ (m4_1) ∧ (m4_1) ≤ 65536) → (RAP ((u0_2)) ((w1)) ((u0_1)) ((u0_2)) ((w17_1)) ((y17_0_1)) (nb ((a1)) ((x17_4)))) → (((a2)) - (x17_4)).toNat = m → Ew 160 (d + 2) 17 ls [] σ (c + c4) (s + s4) Q from
      hl17 _ _ _ _ _ (0) ((rk_o (rfl) rfl rfl).trans (congrArg (fun q : Nat => some (Value.ref q)) (((show D4 0 = D 0 from (eD4 0).trans (hD4 0 rfl)))).symm)) (rk_o (rfl) rfl rfl) (rk_o (rfl) rfl rfl) (rk_s) H O (SF_refl) (SA_refl)   (u0_1) ((((show F4 0 1 = F 0 1 from (eF4 0 1).trans (hS4 0 1 rfl))).trans (eu0_1))) (w4_1) ((eA4 1).trans ew4_1) (show inr (0) by omega) (show (0) ≤ (0) by omega) (show (0) ≤ (0) ∨ (0) ≤ ((a2)) by omega) (show (u0_1) = (u0_1) + (0) by omega) (show (u0_1) + (a2) ≤ (m4_1) ∧ (m4_1) ≤ 65536 by omega) (show RAP ((u0_2)) ((w1)) ((u0_1)) ((u0_2)) ((w4_1)) ((u0_1)) (nb ((a1)) ((0))) by assumption) rfl
    as_aux_lemma =>
    intro m
    induction m using Nat.strongRecOn with
    | _ m ih17 =>
      intro ls σ F_17 A_17 x17_4 l17_0 l17_1 l17_3 l17_4 H O hS_17 hA_17   y17_0_1 ey17_0_1 w17_1 ew17_1 j17_0 j17_1 j17_2 j17_3 j17_4 j17_5 hm17
      have r7 : (-2147483648 : Int) ≤ y17_0_1 ∧ y17_0_1 ≤ 2147483647 := by have h1 : (-2147483648 : Int) ≤ F_17 0 1 ∧ F_17 0 1 ≤ 2147483647 := H.krg 0 1 (by decide); rw [show F_17 0 1 = y17_0_1 from (ey17_0_1)] at h1; exact h1
      have j17_r : RAP ((u0_2)) ((w1)) ((u0_1)) ((u0_2)) ((w17_1)) ((y17_0_1)) (nb ((a1)) ((x17_4))) := by assumption
      refine Ew_of (pc' := 19) (fun _ => x_iload rfl l17_4) ?_
      refine Ew_of (pc' := 20) (fun _ => x_iload_n rfl l17_3) ?_
      refine w_icmpge (t := 54) rfl rfl (show inr (x17_4) by omega) (show inr (a2) by omega) (fun b8 => ?_) (fun b8 => ?_)
      · have : RAP ((u0_2)) ((w1)) ((u0_1)) ((u0_2)) ((w17_1)) ((y17_0_1)) (nb ((a1)) ((a2))) := by rw [show (a2) = (x17_4) by omega]; exact j17_r
        exact w_ret rfl (k _ _ _ _ _ _ _ H O (SD_trans (SD_refl) (SD_glu (ι := [0, 1]) hD4 eD4 (by decide +kernel)) (any_subA (l' := [1]) rfl)) (SD_trans (SD_refl) (SD_glu (ι := [0, 1]) hN4 eN4 (by decide +kernel)) (any_subA (l' := [1]) rfl)) (SF_trans (SF_trans (SF_refl) (SF_glu (ι := [0, 1]) hS4 eF4 (by decide +kernel)) (any_sub (l' := [(0, 0)]) rfl)) hS_17 (any_sub rfl)) (SA_trans (SA_trans (SA_refl) (SA_glu (ι := [0, 1]) hA4 eA4 (by decide +kernel)) (any_subA (l' := [1]) rfl)) hA_17 (any_subA rfl)) (((hS_17 0 0 rfl)).trans (pf4_0_0)) (m4_1) ((congrArg (fun q : Nat => (q : Int)) (eN4 1)).trans em4_1) (y17_0_1) ((ey17_0_1)) (u0_2) ((((hS_17 0 2 rfl).trans ((show F4 0 2 = F 0 2 from (eF4 0 2).trans (hS4 0 2 rfl)))).trans (eu0_2))) (w17_1) (ew17_1) (show 0 ≤ (y17_0_1) ∧ (y17_0_1) ≤ (m4_1) ∧ (m4_1) ≤ 65536 by omega) (show (y17_0_1) = (u0_1) + a2 ∧ 0 ≤ a2 ∨ (y17_0_1) = (u0_1) ∧ (a2 < 0 ∨ 65536 < (u0_1) + a2) by omega) (show RAP ((u0_2)) ((w1)) ((u0_1)) ((u0_2)) ((w17_1)) ((y17_0_1)) (nb (a1) (a2)) by assumption))
      · refine Ew_of (pc' := 24) (fun _ => x_aload_n rfl l17_0) ?_
        refine v_g H (o := 0) (v := .ref (D4 1)) rfl rfl rfl rfl rfl (vrf (((hS_17 0 0 rfl)).trans (pf4_0_0))) ?_
        refine Ew_of (pc' := 28) (fun _ => x_aload_n rfl l17_0) ?_
        refine Ew_of (pc' := 29) (fun _ => x_dup rfl rfl) ?_
        refine v_g H (o := 0) (v := I (y17_0_1)) rfl rfl rfl rfl rfl (congrArg (fun z : Int => I z) ((ey17_0_1) : F_17 0 1 = y17_0_1)) ?_
        refine Ew_of (pc' := 33) (fun _ => x_dup_x1 rfl rfl) ?_
        refine Ew_of (pc' := 34) (fun _ => x_iconst rfl) ?_
        refine w_iadd rfl ?_
        refine v_p H (o := 0) (z := (y17_0_1 + 1)) (v := I ((y17_0_1 + 1))) rfl rfl rfl rfl rfl rfl rfl rfl (show (-2147483648 : Int) ≤ (y17_0_1 + 1) ∧ (y17_0_1 + 1) ≤ 2147483647 by omega) (fun σ H O' => ?_)
        have O := OUT_trans O O'
        refine Ew_of (pc' := 39) (fun _ => x_lload_n rfl l17_1) ?_
        refine Ew_of (pc' := 41) (fun _ => x_bipush (z := 8) rfl (by decide)) ?_
        refine Ew_of (pc' := 43) (fun _ => x_iload rfl l17_4) ?_
        refine w_imul rfl ?_
        refine v_lushrY (k := (8 * x17_4)) rfl (by omega) (fun z9 gz9 uz9 => ?_)
        have hu1 := uz9
        refine w_l2i rfl ?_
        refine v_i2b rfl (fun z10 gz10 uz10 => ?_)
        have hu2 := uz10
        refine v_sB H (o := 1) rfl rfl rfl rfl (n := m4_1) ((congrArg (fun q : Nat => (q : Int)) (eN4 1)).trans em4_1) (show 0 ≤ y17_0_1 ∧ y17_0_1 < m4_1 by omega) (fun z11 σ qz11 uz11 H O' => ?_)
        have O := OUT_trans O O'
        have hus := uz11
        refine Ew_of (pc' := 51) (fun _ => x_iinc (len := 3) rfl (l17_4)) ?_
        refine Ew_of (pc' := 17) (fun _ => x_goto rfl rfl) ?_
        have : RAP ((u0_2)) ((w1)) ((u0_1)) ((u0_2)) ((upd1 (w17_1) (y17_0_1) (z11))) (((y17_0_1 + 1))) (nb ((a1)) (((x17_4 + 1)))) := by rw [nb_s (by omega) rfl]; exact RAP_trans j17_r (RAP_byte (by omega) (by omega) (fun i a b => upd1_o (by omega)) (by rw [upd1_s, hus, hu2, hu1]))
        exact ih17 _ (by omega) _ _ _ _ ((x17_4 + 1)) (rk_o (l17_0) rfl rfl) (rk_o (l17_1) rfl rfl) (rk_o (l17_3) rfl rfl) (rk_s) H O (SF_upd (hS_17) rfl) (SA_upd (hA_17) rfl)   ((y17_0_1 + 1)) (rfl) (upd1 (w17_1) (y17_0_1) (z11)) (congrArg (fun q => upd1 q (y17_0_1) (z11)) (ew17_1)) (show inr ((x17_4 + 1)) by omega) (show (0) ≤ ((x17_4 + 1)) by omega) (show ((x17_4 + 1)) ≤ (0) ∨ ((x17_4 + 1)) ≤ ((a2)) by omega) (show ((y17_0_1 + 1)) = (u0_1) + ((x17_4 + 1)) by omega) (show (u0_1) + (a2) ≤ (m4_1) ∧ (m4_1) ≤ 65536 by omega) (show RAP ((u0_2)) ((w1)) ((u0_1)) ((u0_2)) ((upd1 (w17_1) (y17_0_1) (z11))) (((y17_0_1 + 1))) (nb ((a1)) (((x17_4 + 1)))) by assumption) rfl
  · refine Ew_of (pc' := 9) (fun _ => x_aload_n rfl rfl) ?_
    refine Ew_of (pc' := 10) (fun _ => x_iconst rfl) ?_
    refine Ew_stk (show ([I (1), .ref (D 0)] : List Value) = [I (1), .ref (D4 0)] by rw [show D4 0 = D 0 from ((show D4 0 = D 0 from (eD4 0).trans (hD4 0 rfl)))]) ?_
    refine v_p H (o := 0) (z := 1) (v := I (1)) rfl rfl rfl rfl rfl rfl rfl (rfit_b (by omega)) (show (0 : Int) ≤ 1 ∧ 1 ≤ 1 by omega) (fun σ H O' => ?_)
    have O := OUT_trans O O'
    have : RAP ((u0_2)) ((w1)) ((u0_1)) ((1)) ((w4_1)) ((u0_1)) (nb ((a1)) ((a2))) := RAP_burst (by omega) (by rw [nb_len]; omega)
    exact w_ret rfl (k _ _ _ _ _ _ _ H O (SD_trans (SD_refl) (SD_glu (ι := [0, 1]) hD4 eD4 (by decide +kernel)) (any_subA (l' := [1]) rfl)) (SD_trans (SD_refl) (SD_glu (ι := [0, 1]) hN4 eN4 (by decide +kernel)) (any_subA (l' := [1]) rfl)) (SF_upd (SF_trans (SF_refl) (SF_glu (ι := [0, 1]) hS4 eF4 (by decide +kernel)) (any_sub (l' := [(0, 0)]) rfl)) rfl) (SA_trans (SA_refl) (SA_glu (ι := [0, 1]) hA4 eA4 (by decide +kernel)) (any_subA (l' := [1]) rfl)) (pf4_0_0) (m4_1) ((congrArg (fun q : Nat => (q : Int)) (eN4 1)).trans em4_1) (u0_1) ((((show F4 0 1 = F 0 1 from (eF4 0 1).trans (hS4 0 1 rfl))).trans (eu0_1))) (1) (rfl) (w4_1) ((eA4 1).trans ew4_1) (show 0 ≤ (u0_1) ∧ (u0_1) ≤ (m4_1) ∧ (m4_1) ≤ 65536 by omega) (show (u0_1) = (u0_1) + a2 ∧ 0 ≤ a2 ∨ (u0_1) = (u0_1) ∧ (a2 < 0 ∨ 65536 < (u0_1) + a2) by omega) (show RAP ((u0_2)) ((w1)) ((u0_1)) ((1)) ((w4_1)) ((u0_1)) (nb (a1) (a2)) by assumption))
abbrev V161_Br : vV := [(0, 7, [(4, 0), (0, 0), (1, 0), (0, 0), (0, 0)]), (1, 0, []), (1, 0, [])]
/-- Row.addPart: this, #1, this.bytes -/
theorem C161_Br {σE : rS} {D N : Nat → Nat} {F : hF} {A : hA} {d c s : Nat} {Q : wQ} (H : HW V161_Br σE D N F A) {a2 a3 : Int} (pf2 : F 0 0 = (D 2 : Int)) (n1 : Int) (en1 : (N 1 : Int) = n1) (n2 : Int) (en2 : (N 2 : Int) = n2) (u0_1 : Int) (eu0_1 : F 0 1 = u0_1) (u0_2 : Int) (eu0_2 : F 0 2 = u0_2) (w1 : Int → Int) (ew1 : A 1 = w1) (w2 : Int → Int) (ew2 : A 2 = w2) (h0 : inr (a2)) (h1 : inr (a3)) (h2 : 0 ≤ (u0_1) ∧ (u0_1) ≤ (n2) ∧ (n2) ≤ 65536) (h3 : (a3) < 0 ∨ 0 ≤ (a2) ∧ (a2) + (a3) ≤ (n1)) (k : ∀ (σ : rS) (D' N' : Nat → Nat) (F' : hF) (A' : hA) (c' s' : Nat), HW V161_Br σ D' N' F' A' → OUT (V161_Br).length D N σE c s D' N' σ c' s' → SD [2] D D' → SD [2] N N' → SF [(0, 0), (0, 1), (0, 2)] F F' → SA [2] A A' → F' 0 0 = (D' 2 : Int) → ∀ m2 : Int, (N' 2 : Int) = m2 → ∀ y0_1 : Int, F' 0 1 = y0_1 → ∀ y0_2 : Int, F' 0 2 = y0_2 → ∀ v2 : Int → Int, A' 2 = v2 → (0 ≤ (y0_1) ∧ (y0_1) ≤ (m2) ∧ (m2) ≤ 65536) → ((y0_1) = (u0_1) + (a3) ∧ 0 ≤ (a3) ∨ (y0_1) = (u0_1) ∧ ((a3) < 0 ∨ 65536 < (u0_1) + (a3))) → (∀ i, (0 : Int) ≤ i → i < (u0_1) → ((v2)) i = ((w2)) i) → (IMP ((0 : Int) ≤ (a3)) (RAP ((u0_2)) ((w2)) ((u0_1)) ((y0_2)) ((v2)) ((y0_1)) (sc ((w1)) ((a2)) ((a2) + (a3))))) → Q none σ c' s') : Ew 161 (d + 2) 0 (rargs 0 [.ref (D 0), .ref (D 1), I a2, I a3]) [] σE c s Q := by
  have O := OUT_refl (n := (V161_Br).length) (D := D) (N := N) (σ := σE) (c := c) (s := s)
  have HE := H
  have r1 : (-2147483648 : Int) ≤ u0_1 ∧ u0_1 ≤ 2147483647 := by have h1 : (-2147483648 : Int) ≤ F 0 1 ∧ F 0 1 ≤ 2147483647 := H.krg 0 1 (by decide); rw [show F 0 1 = u0_1 from (eu0_1)] at h1; exact h1
  have r2 : (0 : Int) ≤ u0_2 ∧ u0_2 ≤ 1 := by have h1 : (0 : Int) ≤ F 0 2 ∧ F 0 2 ≤ 1 := H.krg 0 2 (by decide); rw [show F 0 2 = u0_2 from (eu0_2)] at h1; exact h1
  have r3 : (0 : Int) ≤ n1 ∧ n1 ≤ 1000000 := by have h1 := H.nle 1 (by decide); have h2 : (N 1 : Int) = n1 := en1; omega
  have r4 : (0 : Int) ≤ n2 ∧ n2 ≤ 1000000 := by have h1 := H.nle 2 (by decide); have h2 : (N 2 : Int) = n2 := en2; omega
  refine Ew_of (pc' := 1) (fun _ => x_aload_n rfl rfl) ?_
  refine Ew_of (pc' := 2) (fun _ => x_iload_n rfl rfl) ?_
  refine v_inv H (o := 0) rfl rfl rfl rfl rfl rfl (by rfl) (C157 (D := pul [0, 2] D) (N := pul [0, 2] N) (HW_sub H (VS_of (show vsub V161_Br V157 [0, 2] = true by decide +kernel))) (pf2) (n2) (en2) (u0_1) ((eu0_1)) (w2) (ew2) (show inr (a3) by omega) (show 0 ≤ (u0_1) ∧ (u0_1) ≤ (n2) ∧ (n2) ≤ 65536 by omega) (fun z5 σ5 D5' N5' F5' A5' c5 s5 H' O' hD5 hN5 hS5 hA5 pm5_1 m5_1 em5_1 w5_1 ew5_1 pz5_0 pz5_1 pz5_2 pz5_3 pz5_4 => ⟨rretB rfl pz5_0, ?_⟩))
  refine v_backM (c := c) (s := s) H (show vsub V161_Br V157 [0, 2] = true by decide +kernel) H' O' hD5 (show vmov V161_Br [0, 2] [1] = true by decide +kernel) (fun D5 N5 F5 A5 H O' eD5 eN5 eF5 eA5 => ?_)
  have O := OUT_trans O O'
  -- Row.reserve
  have pf5_0_0 : F5 0 0 = (D5 2 : Int) := (eF5 0 0).trans (pm5_1.trans (congrArg (fun q : Nat => (q : Int)) (eD5 2).symm))
  have r6 : (0 : Int) ≤ m5_1 ∧ m5_1 ≤ 1000000 := by have h1 := H.nle 2 (by decide); have h2 : (N5 2 : Int) = m5_1 := (congrArg (fun q : Nat => (q : Int)) (eN5 2)).trans em5_1; omega
  have hsr := pz5_4
  refine w_ifne (t := 14) rfl rfl (show inr (z5) by omega) (fun b7 => ?_) (fun b7 => ?_)
  · refine Ew_of (pc' := 15) (fun _ => x_aload_n rfl rfl) ?_
    refine Ew_of (pc' := 16) (fun _ => x_iload_n rfl rfl) ?_
    refine Ew_of (pc' := 17) (fun _ => x_aload_n rfl rfl) ?_
    refine Ew_stk (show ([.ref (D 0), I (a2), .ref (D 1)] : List Value) = [.ref (D5 0), I (a2), .ref (D5 1)] by rw [show D5 0 = D 0 from ((show D5 0 = D 0 from (eD5 0).trans (hD5 0 rfl))), show D5 1 = D 1 from ((show D5 1 = D 1 from (eD5 1)))]) ?_
    refine v_g H (o := 0) (v := .ref (D5 2)) rfl rfl rfl rfl rfl (vrf (pf5_0_0)) ?_
    refine Ew_of (pc' := 21) (fun _ => x_aload_n rfl rfl) ?_
    refine Ew_stk (show ([.ref (D 0), .ref (D5 2), I (a2), .ref (D5 1)] : List Value) = [.ref (D5 0), .ref (D5 2), I (a2), .ref (D5 1)] by rw [show D5 0 = D 0 from ((show D5 0 = D 0 from (eD5 0).trans (hD5 0 rfl)))]) ?_
    refine v_g H (o := 0) (v := I (u0_1)) rfl rfl rfl rfl rfl (congrArg (fun z : Int => I z) ((((show F5 0 1 = F 0 1 from (eF5 0 1).trans (hS5 0 1 rfl))).trans (eu0_1)) : F5 0 1 = u0_1)) ?_
    refine Ew_of (pc' := 25) (fun _ => x_iload_n rfl rfl) ?_
    refine v_cpy H (t := 2) (t0 := 1) rfl rfl rfl rfl rfl rfl rfl rfl (n := m5_1) ((congrArg (fun q : Nat => (q : Int)) (eN5 2)).trans em5_1) (n0 := n1) ((congrArg (fun q : Nat => (q : Int)) (show N5 1 = N 1 from (eN5 1))).trans (en1)) (show 0 ≤ a3 ∧ 0 ≤ u0_1 ∧ 0 ≤ a2 ∧ a2 + a3 ≤ n1 ∧ u0_1 + a3 ≤ m5_1 by omega) (fun σ A8 H O' hA8 ga8 gb8 => ?_)
    have gb8 : ∀ i, i < u0_1 ∨ u0_1 + a3 ≤ i → A8 2 i = (w5_1) i := fun i a => (gb8 i a).trans (congrFun ((eA5 2).trans ew5_1) i)
    have ga8 : ∀ i, u0_1 ≤ i → i < u0_1 + a3 → A8 2 i = (w1) (a2 + (i - u0_1)) := fun i a b => (ga8 i a b).trans (congrFun (((show A5 1 = A 1 from (eA5 1))).trans (ew1)) _)
    have O := OUT_trans O O'
    have hsm : ∀ i, (0 : Int) ≤ i → i < (u0_1) → ((A8 2)) i = ((w2)) i := fun i a b => (gb8 i (by omega)).trans (hsr i a b)
    have hcq := ga8
    refine Ew_of (pc' := 29) (fun _ => x_aload_n rfl rfl) ?_
    refine Ew_of (pc' := 30) (fun _ => x_dup rfl rfl) ?_
    refine Ew_stk (show ([.ref (D 0), .ref (D 0)] : List Value) = [.ref (D5 0), .ref (D5 0)] by rw [show D5 0 = D 0 from ((show D5 0 = D 0 from (eD5 0).trans (hD5 0 rfl)))]) ?_
    refine v_g H (o := 0) (v := I (u0_1)) rfl rfl rfl rfl rfl (congrArg (fun z : Int => I z) ((((show F5 0 1 = F 0 1 from (eF5 0 1).trans (hS5 0 1 rfl))).trans (eu0_1)) : F5 0 1 = u0_1)) ?_
    refine Ew_of (pc' := 34) (fun _ => x_iload_n rfl rfl) ?_
    refine w_iadd rfl ?_
    refine v_p H (o := 0) (z := (u0_1 + a3)) (v := I ((u0_1 + a3))) rfl rfl rfl rfl rfl rfl rfl rfl (show (-2147483648 : Int) ≤ (u0_1 + a3) ∧ (u0_1 + a3) ≤ 2147483647 by omega) (fun σ H O' => ?_)
    have O := OUT_trans O O'
    have : IMP ((0 : Int) ≤ (a3)) (RAP ((u0_2)) ((w2)) ((u0_1)) ((u0_2)) ((A8 2)) (((u0_1 + a3))) (sc ((w1)) ((a2)) ((a2) + (a3)))) := fun _ => RAP_part (by omega) (by omega) hsm (sc_shift (fun k a b => by rw [hcq _ (by omega) (by omega), show (a2) + ((u0_1) + k - (u0_1)) = (a2) + k by omega]))
    exact w_ret rfl (k _ _ _ _ _ _ _ H O (SD_trans (SD_refl) (SD_glu (ι := [0, 2]) hD5 eD5 (by decide +kernel)) (any_subA (l' := [2]) rfl)) (SD_trans (SD_refl) (SD_glu (ι := [0, 2]) hN5 eN5 (by decide +kernel)) (any_subA (l' := [2]) rfl)) (SF_upd (SF_trans (SF_refl) (SF_glu (ι := [0, 2]) hS5 eF5 (by decide +kernel)) (any_sub (l' := [(0, 0)]) rfl)) rfl) (SA_trans (SA_trans (SA_refl) (SA_glu (ι := [0, 2]) hA5 eA5 (by decide +kernel)) (any_subA (l' := [2]) rfl)) hA8 (any_subA rfl)) (pf5_0_0) (m5_1) ((congrArg (fun q : Nat => (q : Int)) (eN5 2)).trans em5_1) ((u0_1 + a3)) (rfl) (u0_2) ((((show F5 0 2 = F 0 2 from (eF5 0 2).trans (hS5 0 2 rfl))).trans (eu0_2))) (A8 2) (rfl) (show 0 ≤ ((u0_1 + a3)) ∧ ((u0_1 + a3)) ≤ (m5_1) ∧ (m5_1) ≤ 65536 by omega) (show ((u0_1 + a3)) = (u0_1) + a3 ∧ 0 ≤ a3 ∨ ((u0_1 + a3)) = (u0_1) ∧ (a3 < 0 ∨ 65536 < (u0_1) + a3) by omega) (show ∀ i, (0 : Int) ≤ i → i < (u0_1) → ((A8 2)) i = ((w2)) i by assumption) (show IMP ((0 : Int) ≤ a3) (RAP ((u0_2)) ((w2)) ((u0_1)) ((u0_2)) ((A8 2)) (((u0_1 + a3))) (sc ((w1)) (a2) (a2 + a3))) by assumption))
  · refine Ew_of (pc' := 9) (fun _ => x_aload_n rfl rfl) ?_
    refine Ew_of (pc' := 10) (fun _ => x_iconst rfl) ?_
    refine Ew_stk (show ([I (1), .ref (D 0)] : List Value) = [I (1), .ref (D5 0)] by rw [show D5 0 = D 0 from ((show D5 0 = D 0 from (eD5 0).trans (hD5 0 rfl)))]) ?_
    refine v_p H (o := 0) (z := 1) (v := I (1)) rfl rfl rfl rfl rfl rfl rfl (rfit_b (by omega)) (show (0 : Int) ≤ 1 ∧ 1 ≤ 1 by omega) (fun σ H O' => ?_)
    have O := OUT_trans O O'
    have : IMP ((0 : Int) ≤ (a3)) (RAP ((u0_2)) ((w2)) ((u0_1)) ((1)) ((w5_1)) ((u0_1)) (sc ((w1)) ((a2)) ((a2) + (a3)))) := fun _ => RAP_burst (by omega) (by rw [sc_lenI (by omega)]; omega)
    exact w_ret rfl (k _ _ _ _ _ _ _ H O (SD_trans (SD_refl) (SD_glu (ι := [0, 2]) hD5 eD5 (by decide +kernel)) (any_subA (l' := [2]) rfl)) (SD_trans (SD_refl) (SD_glu (ι := [0, 2]) hN5 eN5 (by decide +kernel)) (any_subA (l' := [2]) rfl)) (SF_upd (SF_trans (SF_refl) (SF_glu (ι := [0, 2]) hS5 eF5 (by decide +kernel)) (any_sub (l' := [(0, 0)]) rfl)) rfl) (SA_trans (SA_refl) (SA_glu (ι := [0, 2]) hA5 eA5 (by decide +kernel)) (any_subA (l' := [2]) rfl)) (pf5_0_0) (m5_1) ((congrArg (fun q : Nat => (q : Int)) (eN5 2)).trans em5_1) (u0_1) ((((show F5 0 1 = F 0 1 from (eF5 0 1).trans (hS5 0 1 rfl))).trans (eu0_1))) (1) (rfl) (w5_1) ((eA5 2).trans ew5_1) (show 0 ≤ (u0_1) ∧ (u0_1) ≤ (m5_1) ∧ (m5_1) ≤ 65536 by omega) (show (u0_1) = (u0_1) + a3 ∧ 0 ≤ a3 ∨ (u0_1) = (u0_1) ∧ (a3 < 0 ∨ 65536 < (u0_1) + a3) by omega) (show ∀ i, (0 : Int) ≤ i → i < (u0_1) → ((w5_1)) i = ((w2)) i by assumption) (show IMP ((0 : Int) ≤ a3) (RAP ((u0_2)) ((w2)) ((u0_1)) ((1)) ((w5_1)) ((u0_1)) (sc ((w1)) (a2) (a2 + a3))) by assumption))
abbrev V460 : vV := []
/-- java/util/Arrays.rangeCheck:  -/
theorem C460 {σE : rS} {D N : Nat → Nat} {F : hF} {A : hA} {d c s : Nat} {Q : wQ} (H : HW V460 σE D N F A) {a1 a2 a3 : Int} (h0 : inr (a1)) (h1 : inr (a2)) (h2 : inr (a3)) (h3 : 0 ≤ (a2) ∧ (a2) ≤ (a3) ∧ (a3) ≤ (a1)) (k : ∀ (σ : rS) (F' : hF) (A' : hA), HW V460 σ D N F' A' → OUT (V460).length D N σE c s D N σ c s → SF [] F F' → SA [] A A' → Q none σ c s) : Ew 460 (d + 0) 0 (rargs 0 [I a1, I a2, I a3]) [] σE c s Q := by
  have O := OUT_refl (n := (V460).length) (D := D) (N := N) (σ := σE) (c := c) (s := s)
  have HE := H
  refine Ew_of (pc' := 1) (fun _ => x_iload_n rfl rfl) ?_
  refine Ew_of (pc' := 2) (fun _ => x_iload_n rfl rfl) ?_
  refine w_icmple (t := 46) rfl rfl (show inr (a2) by omega) (show inr (a3) by omega) (fun b1 => ?_) (fun b1 => ?_)
  · refine Ew_of (pc' := 47) (fun _ => x_iload_n rfl rfl) ?_
    refine w_ifge (t := 59) rfl rfl (show inr (a2) by omega) (fun b2 => ?_) (fun b2 => ?_)
    · refine Ew_of (pc' := 60) (fun _ => x_iload_n rfl rfl) ?_
      refine Ew_of (pc' := 61) (fun _ => x_iload_n rfl rfl) ?_
      refine w_icmple (t := 73) rfl rfl (show inr (a3) by omega) (show inr (a1) by omega) (fun b3 => ?_) (fun b3 => ?_)
      · exact w_ret rfl (k _ _ _ H O (SF_refl) (SA_refl))
      · exfalso
        omega
    · exfalso
      omega
  · exfalso
    omega
abbrev V458_Br : vV := [(1, 0, [])]
/-- java/util/Arrays.fill: #1 -/
theorem C458_Br {σE : rS} {D N : Nat → Nat} {F : hF} {A : hA} {d c s : Nat} {Q : wQ} (H : HW V458_Br σE D N F A) {a2 a3 a4 : Int} (n0 : Int) (en0 : (N 0 : Int) = n0) (w0 : Int → Int) (ew0 : A 0 = w0) (h0 : inr (a2)) (h1 : inr (a3)) (h2 : inr (a4)) (h3 : 0 ≤ (a2) ∧ (a2) ≤ (a3) ∧ (a3) ≤ (n0)) (k : ∀ (σ : rS) (F' : hF) (A' : hA), HW V458_Br σ D N F' A' → OUT (V458_Br).length D N σE c s D N σ c s → SF [] F F' → SA [0] A A' → ∀ v0 : Int → Int, A' 0 = v0 → (FLL ((w0)) ((v0)) ((a2)) ((a3)) ((a4))) → Q none σ c s) : Ew 458 (d + 1) 0 (rargs 0 [.ref (D 0), I a2, I a3, I a4]) [] σE c s Q := by
  have O := OUT_refl (n := (V458_Br).length) (D := D) (N := N) (σ := σE) (c := c) (s := s)
  have HE := H
  have r1 : (0 : Int) ≤ n0 ∧ n0 ≤ 1000000 := by have h1 := H.nle 0 (by decide); have h2 : (N 0 : Int) = n0 := en0; omega
  refine Ew_of (pc' := 1) (fun _ => x_aload_n rfl rfl) ?_
  refine v_len H (o := 0) rfl rfl rfl rfl (n := n0) (en0) ?_
  refine Ew_of (pc' := 3) (fun _ => x_iload_n rfl rfl) ?_
  refine Ew_of (pc' := 4) (fun _ => x_iload_n rfl rfl) ?_
  refine w_stat24 rfl rfl (by rfl) (C460 (D := pul [] D) (N := pul [] N) (HW_sub H (VS_of (show vsub V458_Br V460 [] = true by decide +kernel))) (show inr (n0) by omega) (show inr (a2) by omega) (show inr (a3) by omega) (show 0 ≤ (a2) ∧ (a2) ≤ (a3) ∧ (a3) ≤ (n0) by omega) (fun σ2 F2' A2' H' O' hS2 hA2 => ⟨rfl, ?_⟩))
  refine v_back (c := c) (s := s) H (show vsub V458_Br V460 [] = true by decide +kernel) H' O' (fun F2 A2 H O' eF2 eA2 => ?_)
  have O := OUT_trans O O'
  -- java/util/Arrays.rangeCheck
  refine Ew_of (pc' := 8) (fun _ => x_iload_n rfl rfl) ?_
  refine Ew_of (pc' := 10) (fun _ => x_istore rfl) ?_
  have : FLL ((w0)) ((w0)) ((a2)) ((a2)) ((a4)) := FLL_0
  suffices hl10 : ∀ (m : Nat), ∀ (ls : rO) (σ : rS) (F_10 : hF) (A_10 : hA) (x10_4 : Int), rlook ls 0 = some (.ref (D 0)) → rlook ls 2 = some (I (a3)) → rlook ls 3 = some (I (a4)) → rlook ls 4 = some (I (x10_4)) → HW V458_Br σ D N F_10 A_10 → OUT (V458_Br).length D N σE c s D N σ c s → SF [] F2 F_10 → SA [0] A2 A_10 → ∀ w10_0 : Int → Int, A_10 0 = w10_0 → (inr (x10_4)) → ((a2) ≤ (x10_4)) → ((x10_4) ≤ (a2) ∨ (x10_4) ≤ ((a3))) → (FLL ((w0)) ((w10_0)) ((a2)) ((x10_4)) ((a4))) → (((a3)) - (x10_4)).toNat = m → Ew 458 (d + 1) 10 ls [] σ c s Q from
    hl10 _ _ _ _ _ (a2) (rk_o (rfl) rfl rfl) (rk_o (rfl) rfl rfl) (rk_o (rfl) rfl rfl) (rk_s) H O (SF_refl) (SA_refl)    (w0) (((show A2 0 = A 0 from (eA2 0))).trans (ew0)) (show inr (a2) by omega) (show (a2) ≤ (a2) by omega) (show (a2) ≤ (a2) ∨ (a2) ≤ ((a3)) by omega) (show FLL ((w0)) ((w0)) ((a2)) ((a2)) ((a4)) by assumption) rfl
  as_aux_lemma =>
  intro m
  induction m using Nat.strongRecOn with
  | _ m ih10 =>
    intro ls σ F_10 A_10 x10_4 l10_0 l10_2 l10_3 l10_4 H O hS_10 hA_10    w10_0 ew10_0 j10_0 j10_1 j10_2 j10_3 hm10
    have jf_f : FLL ((w0)) ((w10_0)) ((a2)) ((x10_4)) ((a4)) := by assumption
    have hfa : (x10_4) ≤ (a3) := by omega
    refine Ew_of (pc' := 12) (fun _ => x_iload rfl l10_4) ?_
    refine Ew_of (pc' := 13) (fun _ => x_iload_n rfl l10_2) ?_
    refine w_icmpge (t := 27) rfl rfl (show inr (x10_4) by omega) (show inr (a3) by omega) (fun b3 => ?_) (fun b3 => ?_)
    · have : FLL ((w0)) ((w10_0)) ((a2)) ((a3)) ((a4)) := by rw [show (a3) = (x10_4) by omega]; exact jf_f
      exact w_ret rfl (k _ _ _ H O (SF_trans (SF_trans (SF_refl) (SF_glu (ι := []) hS2 eF2 (by decide +kernel)) (any_sub (l' := []) rfl)) hS_10 (any_sub rfl)) (SA_trans (SA_trans (SA_refl) (SA_glu (ι := []) hA2 eA2 (by decide +kernel)) (any_subA (l' := []) rfl)) hA_10 (any_subA rfl)) (w10_0) (ew10_0) (show FLL ((w0)) ((w10_0)) (a2) (a3) (a4) by assumption))
    · refine Ew_of (pc' := 17) (fun _ => x_aload_n rfl l10_0) ?_
      refine Ew_of (pc' := 19) (fun _ => x_iload rfl l10_4) ?_
      refine Ew_of (pc' := 20) (fun _ => x_iload_n rfl l10_3) ?_
      refine v_sB H (o := 0) rfl rfl rfl rfl (n := n0) (en0) (show 0 ≤ x10_4 ∧ x10_4 < n0 by omega) (fun z4 σ qz4 uz4 H O' => ?_)
      have O := OUT_trans O O'
      have hus := uz4
      refine Ew_of (pc' := 24) (fun _ => x_iinc (len := 3) rfl (l10_4)) ?_
      refine Ew_of (pc' := 10) (fun _ => x_goto rfl rfl) ?_
      have : FLL ((w0)) ((upd1 (w10_0) (x10_4) (z4))) ((a2)) (((x10_4 + 1))) ((a4)) := FLL_s jf_f hus rfl (by omega)
      exact ih10 _ (by omega) _ _ _ _ ((x10_4 + 1)) (rk_o (l10_0) rfl rfl) (rk_o (l10_2) rfl rfl) (rk_o (l10_3) rfl rfl) (rk_s) H O (hS_10) (SA_upd (hA_10) rfl)    (upd1 (w10_0) (x10_4) (z4)) (congrArg (fun q => upd1 q (x10_4) (z4)) (ew10_0)) (show inr ((x10_4 + 1)) by omega) (show (a2) ≤ ((x10_4 + 1)) by omega) (show ((x10_4 + 1)) ≤ (a2) ∨ ((x10_4 + 1)) ≤ ((a3)) by omega) (show FLL ((w0)) ((upd1 (w10_0) (x10_4) (z4))) ((a2)) (((x10_4 + 1))) ((a4)) by assumption) rfl
abbrev V459_Ir : vV := [(1, 1, [])]
/-- java/util/Arrays.fill: #1 -/
theorem C459_Ir {σE : rS} {D N : Nat → Nat} {F : hF} {A : hA} {d c s : Nat} {Q : wQ} (H : HW V459_Ir σE D N F A) {a2 a3 a4 : Int} (n0 : Int) (en0 : (N 0 : Int) = n0) (h0 : inr (a2)) (h1 : inr (a3)) (h2 : inr (a4)) (h3 : 0 ≤ (a2) ∧ (a2) ≤ (a3) ∧ (a3) ≤ (n0)) (k : ∀ (σ : rS) (F' : hF) (A' : hA), HW V459_Ir σ D N F' A' → OUT (V459_Ir).length D N σE c s D N σ c s → SF [] F F' → SA [0] A A' → Q none σ c s) : Ew 459 (d + 1) 0 (rargs 0 [.ref (D 0), I a2, I a3, I a4]) [] σE c s Q := by
  have O := OUT_refl (n := (V459_Ir).length) (D := D) (N := N) (σ := σE) (c := c) (s := s)
  have HE := H
  have r1 : (0 : Int) ≤ n0 ∧ n0 ≤ 1000000 := by have h1 := H.nle 0 (by decide); have h2 : (N 0 : Int) = n0 := en0; omega
  refine Ew_of (pc' := 1) (fun _ => x_aload_n rfl rfl) ?_
  refine v_len H (o := 0) rfl rfl rfl rfl (n := n0) (en0) ?_
  refine Ew_of (pc' := 3) (fun _ => x_iload_n rfl rfl) ?_
  refine Ew_of (pc' := 4) (fun _ => x_iload_n rfl rfl) ?_
  refine w_stat24 rfl rfl (by rfl) (C460 (D := pul [] D) (N := pul [] N) (HW_sub H (VS_of (show vsub V459_Ir V460 [] = true by decide +kernel))) (show inr (n0) by omega) (show inr (a2) by omega) (show inr (a3) by omega) (show 0 ≤ (a2) ∧ (a2) ≤ (a3) ∧ (a3) ≤ (n0) by omega) (fun σ2 F2' A2' H' O' hS2 hA2 => ⟨rfl, ?_⟩))
  refine v_back (c := c) (s := s) H (show vsub V459_Ir V460 [] = true by decide +kernel) H' O' (fun F2 A2 H O' eF2 eA2 => ?_)
  have O := OUT_trans O O'
  -- java/util/Arrays.rangeCheck
  refine Ew_of (pc' := 8) (fun _ => x_iload_n rfl rfl) ?_
  refine Ew_of (pc' := 10) (fun _ => x_istore rfl) ?_
  suffices hl10 : ∀ (m : Nat), ∀ (ls : rO) (σ : rS) (F_10 : hF) (A_10 : hA) (x10_4 : Int), rlook ls 0 = some (.ref (D 0)) → rlook ls 2 = some (I (a3)) → rlook ls 3 = some (I (a4)) → rlook ls 4 = some (I (x10_4)) → HW V459_Ir σ D N F_10 A_10 → OUT (V459_Ir).length D N σE c s D N σ c s → SF [] F2 F_10 → SA [0] A2 A_10 → (inr (x10_4)) → ((a2) ≤ (x10_4)) → ((x10_4) ≤ (a2) ∨ (x10_4) ≤ ((a3))) → (((a3)) - (x10_4)).toNat = m → Ew 459 (d + 1) 10 ls [] σ c s Q from
    hl10 _ _ _ _ _ (a2) (rk_o (rfl) rfl rfl) (rk_o (rfl) rfl rfl) (rk_o (rfl) rfl rfl) (rk_s) H O (SF_refl) (SA_refl)     (show inr (a2) by omega) (show (a2) ≤ (a2) by omega) (show (a2) ≤ (a2) ∨ (a2) ≤ ((a3)) by omega) rfl
  as_aux_lemma =>
  intro m
  induction m using Nat.strongRecOn with
  | _ m ih10 =>
    intro ls σ F_10 A_10 x10_4 l10_0 l10_2 l10_3 l10_4 H O hS_10 hA_10     j10_0 j10_1 j10_2 hm10
    refine Ew_of (pc' := 12) (fun _ => x_iload rfl l10_4) ?_
    refine Ew_of (pc' := 13) (fun _ => x_iload_n rfl l10_2) ?_
    refine w_icmpge (t := 27) rfl rfl (show inr (x10_4) by omega) (show inr (a3) by omega) (fun b3 => ?_) (fun b3 => ?_)
    · exact w_ret rfl (k _ _ _ H O (SF_trans (SF_trans (SF_refl) (SF_glu (ι := []) hS2 eF2 (by decide +kernel)) (any_sub (l' := []) rfl)) hS_10 (any_sub rfl)) (SA_trans (SA_trans (SA_refl) (SA_glu (ι := []) hA2 eA2 (by decide +kernel)) (any_subA (l' := []) rfl)) hA_10 (any_subA rfl)))
    · refine Ew_of (pc' := 17) (fun _ => x_aload_n rfl l10_0) ?_
      refine Ew_of (pc' := 19) (fun _ => x_iload rfl l10_4) ?_
      refine Ew_of (pc' := 20) (fun _ => x_iload_n rfl l10_3) ?_
      refine v_sI H (o := 0) (z := a4) rfl rfl rfl rfl (n := n0) (en0) (show 0 ≤ x10_4 ∧ x10_4 < n0 by omega) (show inr (a4) by omega) (fun σ H O' => ?_)
      have O := OUT_trans O O'
      refine Ew_of (pc' := 24) (fun _ => x_iinc (len := 3) rfl (l10_4)) ?_
      refine Ew_of (pc' := 10) (fun _ => x_goto rfl rfl) ?_
      exact ih10 _ (by omega) _ _ _ _ ((x10_4 + 1)) (rk_o (l10_0) rfl rfl) (rk_o (l10_2) rfl rfl) (rk_o (l10_3) rfl rfl) (rk_s) H O (hS_10) (SA_upd (hA_10) rfl)     (show inr ((x10_4 + 1)) by omega) (show (a2) ≤ ((x10_4 + 1)) by omega) (show ((x10_4 + 1)) ≤ (a2) ∨ ((x10_4 + 1)) ≤ ((a3)) by omega) rfl
abbrev V162 : vV := [(0, 7, [(4, 0), (0, 0), (1, 0), (0, 0), (0, 0)]), (1, 0, [])]
/-- Row.addSame: this, this.bytes -/
theorem C162 {σE : rS} {D N : Nat → Nat} {F : hF} {A : hA} {d c s : Nat} {Q : wQ} (H : HW V162 σE D N F A) {a1 a2 : Int} (pf1 : F 0 0 = (D 1 : Int)) (n1 : Int) (en1 : (N 1 : Int) = n1) (u0_1 : Int) (eu0_1 : F 0 1 = u0_1) (u0_2 : Int) (eu0_2 : F 0 2 = u0_2) (w1 : Int → Int) (ew1 : A 1 = w1) (h0 : inr (a1)) (h1 : inr (a2)) (h2 : 0 ≤ (u0_1) ∧ (u0_1) ≤ (n1) ∧ (n1) ≤ 65536) (k : ∀ (σ : rS) (D' N' : Nat → Nat) (F' : hF) (A' : hA) (c' s' : Nat), HW V162 σ D' N' F' A' → OUT (V162).length D N σE c s D' N' σ c' s' → SD [1] D D' → SD [1] N N' → SF [(0, 0), (0, 1), (0, 2)] F F' → SA [1] A A' → F' 0 0 = (D' 1 : Int) → ∀ m1 : Int, (N' 1 : Int) = m1 → ∀ y0_1 : Int, F' 0 1 = y0_1 → ∀ y0_2 : Int, F' 0 2 = y0_2 → ∀ v1 : Int → Int, A' 1 = v1 → (0 ≤ (y0_1) ∧ (y0_1) ≤ (m1) ∧ (m1) ≤ 65536) → ((y0_1) = (u0_1) + (a2) ∧ 0 ≤ (a2) ∨ (y0_1) = (u0_1) ∧ ((a2) < 0 ∨ 65536 < (u0_1) + (a2))) → (IMP ((0 : Int) ≤ (a2)) (RAP ((u0_2)) ((w1)) ((u0_1)) ((y0_2)) ((v1)) ((y0_1)) (List.replicate ((a2)).toNat (u8 ((a1)))))) → Q none σ c' s') : Ew 162 (d + 2) 0 (rargs 0 [.ref (D 0), I a1, I a2]) [] σE c s Q := by
  have O := OUT_refl (n := (V162).length) (D := D) (N := N) (σ := σE) (c := c) (s := s)
  have HE := H
  have r1 : (-2147483648 : Int) ≤ u0_1 ∧ u0_1 ≤ 2147483647 := by have h1 : (-2147483648 : Int) ≤ F 0 1 ∧ F 0 1 ≤ 2147483647 := H.krg 0 1 (by decide); rw [show F 0 1 = u0_1 from (eu0_1)] at h1; exact h1
  have r2 : (0 : Int) ≤ u0_2 ∧ u0_2 ≤ 1 := by have h1 : (0 : Int) ≤ F 0 2 ∧ F 0 2 ≤ 1 := H.krg 0 2 (by decide); rw [show F 0 2 = u0_2 from (eu0_2)] at h1; exact h1
  have r3 : (0 : Int) ≤ n1 ∧ n1 ≤ 1000000 := by have h1 := H.nle 1 (by decide); have h2 : (N 1 : Int) = n1 := en1; omega
  refine Ew_of (pc' := 1) (fun _ => x_aload_n rfl rfl) ?_
  refine Ew_of (pc' := 2) (fun _ => x_iload_n rfl rfl) ?_
  refine v_inv H (o := 0) rfl rfl rfl rfl rfl rfl (by rfl) (C157 (D := pul [0, 1] D) (N := pul [0, 1] N) (HW_sub H (VS_of (show vsub V162 V157 [0, 1] = true by decide +kernel))) (pf1) (n1) (en1) (u0_1) ((eu0_1)) (w1) (ew1) (show inr (a2) by omega) (show 0 ≤ (u0_1) ∧ (u0_1) ≤ (n1) ∧ (n1) ≤ 65536 by omega) (fun z4 σ4 D4' N4' F4' A4' c4 s4 H' O' hD4 hN4 hS4 hA4 pm4_1 m4_1 em4_1 w4_1 ew4_1 pz4_0 pz4_1 pz4_2 pz4_3 pz4_4 => ⟨rretB rfl pz4_0, ?_⟩))
  refine v_backM (c := c) (s := s) H (show vsub V162 V157 [0, 1] = true by decide +kernel) H' O' hD4 (show vmov V162 [0, 1] [1] = true by decide +kernel) (fun D4 N4 F4 A4 H O' eD4 eN4 eF4 eA4 => ?_)
  have O := OUT_trans O O'
  -- Row.reserve
  have pf4_0_0 : F4 0 0 = (D4 1 : Int) := (eF4 0 0).trans (pm4_1.trans (congrArg (fun q : Nat => (q : Int)) (eD4 1).symm))
  have r5 : (0 : Int) ≤ m4_1 ∧ m4_1 ≤ 1000000 := by have h1 := H.nle 1 (by decide); have h2 : (N4 1 : Int) = m4_1 := (congrArg (fun q : Nat => (q : Int)) (eN4 1)).trans em4_1; omega
  have hsr := pz4_4
  refine w_ifne (t := 14) rfl rfl (show inr (z4) by omega) (fun b6 => ?_) (fun b6 => ?_)
  · refine Ew_of (pc' := 15) (fun _ => x_aload_n rfl rfl) ?_
    refine Ew_stk (show ([.ref (D 0)] : List Value) = [.ref (D4 0)] by rw [show D4 0 = D 0 from ((show D4 0 = D 0 from (eD4 0).trans (hD4 0 rfl)))]) ?_
    refine v_g H (o := 0) (v := .ref (D4 1)) rfl rfl rfl rfl rfl (vrf (pf4_0_0)) ?_
    refine Ew_of (pc' := 19) (fun _ => x_aload_n rfl rfl) ?_
    refine Ew_stk (show ([.ref (D 0), .ref (D4 1)] : List Value) = [.ref (D4 0), .ref (D4 1)] by rw [show D4 0 = D 0 from ((show D4 0 = D 0 from (eD4 0).trans (hD4 0 rfl)))]) ?_
    refine v_g H (o := 0) (v := I (u0_1)) rfl rfl rfl rfl rfl (congrArg (fun z : Int => I z) ((((show F4 0 1 = F 0 1 from (eF4 0 1).trans (hS4 0 1 rfl))).trans (eu0_1)) : F4 0 1 = u0_1)) ?_
    refine Ew_of (pc' := 23) (fun _ => x_aload_n rfl rfl) ?_
    refine Ew_stk (show ([.ref (D 0), I (u0_1), .ref (D4 1)] : List Value) = [.ref (D4 0), I (u0_1), .ref (D4 1)] by rw [show D4 0 = D 0 from ((show D4 0 = D 0 from (eD4 0).trans (hD4 0 rfl)))]) ?_
    refine v_g H (o := 0) (v := I (u0_1)) rfl rfl rfl rfl rfl (congrArg (fun z : Int => I z) ((((show F4 0 1 = F 0 1 from (eF4 0 1).trans (hS4 0 1 rfl))).trans (eu0_1)) : F4 0 1 = u0_1)) ?_
    refine Ew_of (pc' := 27) (fun _ => x_iload_n rfl rfl) ?_
    refine w_iadd rfl ?_
    refine Ew_of (pc' := 29) (fun _ => x_iload_n rfl rfl) ?_
    refine v_i2b rfl (fun z7 gz7 uz7 => ?_)
    have hu := uz7
    refine w_stat24 rfl rfl (by rfl) (C458_Br (D := pul [1] D4) (N := pul [1] N4) (HW_sub H (VS_of (show vsub V162 V458_Br [1] = true by decide +kernel))) (m4_1) ((congrArg (fun q : Nat => (q : Int)) (eN4 1)).trans em4_1) (w4_1) ((eA4 1).trans ew4_1) (show inr (u0_1) by omega) (show inr ((u0_1 + a2)) by omega) (show inr (z7) by omega) (show 0 ≤ (u0_1) ∧ (u0_1) ≤ ((u0_1 + a2)) ∧ ((u0_1 + a2)) ≤ (m4_1) by omega) (fun σ8 F8' A8' H' O' hS8 hA8 w8_0 ew8_0 pz8_0 => ⟨rfl, ?_⟩))
    refine v_back (c := (c + c4)) (s := (s + s4)) H (show vsub V162 V458_Br [1] = true by decide +kernel) H' O' (fun F8 A8 H O' eF8 eA8 => ?_)
    have O := OUT_trans O O'
    -- java/util/Arrays.fill
    have hfl := pz8_0
    refine Ew_of (pc' := 34) (fun _ => x_aload_n rfl rfl) ?_
    refine Ew_of (pc' := 35) (fun _ => x_dup rfl rfl) ?_
    refine Ew_stk (show ([.ref (D 0), .ref (D 0)] : List Value) = [.ref (D4 0), .ref (D4 0)] by rw [show D4 0 = D 0 from ((show D4 0 = D 0 from (eD4 0).trans (hD4 0 rfl)))]) ?_
    refine v_g H (o := 0) (v := I (u0_1)) rfl rfl rfl rfl rfl (congrArg (fun z : Int => I z) (((((show F8 0 1 = F4 0 1 from (eF8 0 1))).trans ((show F4 0 1 = F 0 1 from (eF4 0 1).trans (hS4 0 1 rfl)))).trans (eu0_1)) : F8 0 1 = u0_1)) ?_
    refine Ew_of (pc' := 39) (fun _ => x_iload_n rfl rfl) ?_
    refine w_iadd rfl ?_
    refine v_p H (o := 0) (z := (u0_1 + a2)) (v := I ((u0_1 + a2))) rfl rfl rfl rfl rfl rfl rfl rfl (show (-2147483648 : Int) ≤ (u0_1 + a2) ∧ (u0_1 + a2) ≤ 2147483647 by omega) (fun σ H O' => ?_)
    have O := OUT_trans O O'
    have : IMP ((0 : Int) ≤ (a2)) (RAP ((u0_2)) ((w1)) ((u0_1)) ((u0_2)) ((w8_0)) (((u0_1 + a2))) (List.replicate ((a2)).toNat (u8 ((a1))))) := fun _ => RAP_part (by omega) (by omega) (fun i a b => (hfl.2 i (.inl (by omega))).trans (hsr i a b)) (sc_rep (fun i a b => (hfl.1 i (by omega) (by omega)).trans hu))
    exact w_ret rfl (k _ _ _ _ _ _ _ H O (SD_trans (SD_refl) (SD_glu (ι := [0, 1]) hD4 eD4 (by decide +kernel)) (any_subA (l' := [1]) rfl)) (SD_trans (SD_refl) (SD_glu (ι := [0, 1]) hN4 eN4 (by decide +kernel)) (any_subA (l' := [1]) rfl)) (SF_upd (SF_trans (SF_trans (SF_refl) (SF_glu (ι := [0, 1]) hS4 eF4 (by decide +kernel)) (any_sub (l' := [(0, 0)]) rfl)) (SF_glu (ι := [1]) hS8 eF8 (by decide +kernel)) (any_sub (l' := []) rfl)) rfl) (SA_trans (SA_trans (SA_refl) (SA_glu (ι := [0, 1]) hA4 eA4 (by decide +kernel)) (any_subA (l' := [1]) rfl)) (SA_glu (ι := [1]) hA8 eA8 (by decide +kernel)) (any_subA (l' := [1]) rfl)) ((((show F8 0 0 = F4 0 0 from (eF8 0 0)))).trans (pf4_0_0)) (m4_1) ((congrArg (fun q : Nat => (q : Int)) (eN4 1)).trans em4_1) ((u0_1 + a2)) (rfl) (u0_2) (((((show F8 0 2 = F4 0 2 from (eF8 0 2))).trans ((show F4 0 2 = F 0 2 from (eF4 0 2).trans (hS4 0 2 rfl)))).trans (eu0_2))) (w8_0) ((eA8 1).trans ew8_0) (show 0 ≤ ((u0_1 + a2)) ∧ ((u0_1 + a2)) ≤ (m4_1) ∧ (m4_1) ≤ 65536 by omega) (show ((u0_1 + a2)) = (u0_1) + a2 ∧ 0 ≤ a2 ∨ ((u0_1 + a2)) = (u0_1) ∧ (a2 < 0 ∨ 65536 < (u0_1) + a2) by omega) (show IMP ((0 : Int) ≤ a2) (RAP ((u0_2)) ((w1)) ((u0_1)) ((u0_2)) ((w8_0)) (((u0_1 + a2))) (List.replicate (a2).toNat (u8 (a1)))) by assumption))
  · refine Ew_of (pc' := 9) (fun _ => x_aload_n rfl rfl) ?_
    refine Ew_of (pc' := 10) (fun _ => x_iconst rfl) ?_
    refine Ew_stk (show ([I (1), .ref (D 0)] : List Value) = [I (1), .ref (D4 0)] by rw [show D4 0 = D 0 from ((show D4 0 = D 0 from (eD4 0).trans (hD4 0 rfl)))]) ?_
    refine v_p H (o := 0) (z := 1) (v := I (1)) rfl rfl rfl rfl rfl rfl rfl (rfit_b (by omega)) (show (0 : Int) ≤ 1 ∧ 1 ≤ 1 by omega) (fun σ H O' => ?_)
    have O := OUT_trans O O'
    have : IMP ((0 : Int) ≤ (a2)) (RAP ((u0_2)) ((w1)) ((u0_1)) ((1)) ((w4_1)) ((u0_1)) (List.replicate ((a2)).toNat (u8 ((a1))))) := fun _ => RAP_burst (by omega) (by rw [List.length_replicate]; omega)
    exact w_ret rfl (k _ _ _ _ _ _ _ H O (SD_trans (SD_refl) (SD_glu (ι := [0, 1]) hD4 eD4 (by decide +kernel)) (any_subA (l' := [1]) rfl)) (SD_trans (SD_refl) (SD_glu (ι := [0, 1]) hN4 eN4 (by decide +kernel)) (any_subA (l' := [1]) rfl)) (SF_upd (SF_trans (SF_refl) (SF_glu (ι := [0, 1]) hS4 eF4 (by decide +kernel)) (any_sub (l' := [(0, 0)]) rfl)) rfl) (SA_trans (SA_refl) (SA_glu (ι := [0, 1]) hA4 eA4 (by decide +kernel)) (any_subA (l' := [1]) rfl)) (pf4_0_0) (m4_1) ((congrArg (fun q : Nat => (q : Int)) (eN4 1)).trans em4_1) (u0_1) ((((show F4 0 1 = F 0 1 from (eF4 0 1).trans (hS4 0 1 rfl))).trans (eu0_1))) (1) (rfl) (w4_1) ((eA4 1).trans ew4_1) (show 0 ≤ (u0_1) ∧ (u0_1) ≤ (m4_1) ∧ (m4_1) ≤ 65536 by omega) (show (u0_1) = (u0_1) + a2 ∧ 0 ≤ a2 ∨ (u0_1) = (u0_1) ∧ (a2 < 0 ∨ 65536 < (u0_1) + a2) by omega) (show IMP ((0 : Int) ≤ a2) (RAP ((u0_2)) ((w1)) ((u0_1)) ((1)) ((w4_1)) ((u0_1)) (List.replicate (a2).toNat (u8 (a1)))) by assumption))
abbrev V164 : vV := [(0, 7, [(4, 0), (0, 0), (1, 0), (0, 0), (0, 0)]), (1, 0, [])]
/-- Row.addBits: this, this.bytes -/
theorem C164 {σE : rS} {D N : Nat → Nat} {F : hF} {A : hA} {d c s : Nat} {Q : wQ} (H : HW V164 σE D N F A) {a1 a2 : Int} (pf1 : F 0 0 = (D 1 : Int)) (n1 : Int) (en1 : (N 1 : Int) = n1) (u0_1 : Int) (eu0_1 : F 0 1 = u0_1) (u0_2 : Int) (eu0_2 : F 0 2 = u0_2) (u0_3 : Int) (eu0_3 : F 0 3 = u0_3) (u0_4 : Int) (eu0_4 : F 0 4 = u0_4) (w1 : Int → Int) (ew1 : A 1 = w1) (h0 : inr (a1)) (h1 : inr (a2)) (h2 : 0 ≤ (u0_1) ∧ (u0_1) ≤ (n1) ∧ (n1) ≤ 65536) (h3 : 0 ≤ (a2) ∧ (a2) ≤ 31) (h4 : 0 ≤ (u0_4) ∧ (u0_4) ≤ 7) (k : ∀ (σ : rS) (F' : hF) (A' : hA), HW V164 σ D N F' A' → OUT (V164).length D N σE c s D N σ c s → SF [(0, 1), (0, 2), (0, 3), (0, 4)] F F' → SA [1] A A' → ∀ y0_1 : Int, F' 0 1 = y0_1 → ∀ y0_2 : Int, F' 0 2 = y0_2 → ∀ y0_3 : Int, F' 0 3 = y0_3 → ∀ y0_4 : Int, F' 0 4 = y0_4 → ∀ v1 : Int → Int, A' 1 = v1 → (0 ≤ (y0_1) ∧ (y0_1) ≤ (n1) ∧ (n1) ≤ 65536) → ((u0_1) ≤ (y0_1)) → (0 ≤ (y0_4) ∧ (y0_4) ≤ 7) → (IMP ((a2) ≤ 16 ∧ 0 ≤ (u0_3) ∧ (u0_3) < p2 ((u0_4)) ∧ (u0_1) + ((u0_4) + (a2)) / 8 ≤ (n1)) (RBA ((u0_2)) ((w1)) ((u0_1)) ((u0_3)) ((u0_4)) ((y0_2)) ((v1)) ((y0_1)) ((y0_3)) ((y0_4)) (btw ((a1)) ((a2))) ∧ (0 ≤ (y0_3) ∧ (y0_3) < p2 ((y0_4))) ∧ 8 * (y0_1) + (y0_4) = 8 * (u0_1) + (u0_4) + (a2))) → Q none σ c s) : Ew 164 (d + 0) 0 (rargs 0 [.ref (D 0), I a1, I a2]) [] σE c s Q := by
  have O := OUT_refl (n := (V164).length) (D := D) (N := N) (σ := σE) (c := c) (s := s)
  have HE := H
  have r1 : (-2147483648 : Int) ≤ u0_1 ∧ u0_1 ≤ 2147483647 := by have h1 : (-2147483648 : Int) ≤ F 0 1 ∧ F 0 1 ≤ 2147483647 := H.krg 0 1 (by decide); rw [show F 0 1 = u0_1 from (eu0_1)] at h1; exact h1
  have r2 : (0 : Int) ≤ u0_2 ∧ u0_2 ≤ 1 := by have h1 : (0 : Int) ≤ F 0 2 ∧ F 0 2 ≤ 1 := H.krg 0 2 (by decide); rw [show F 0 2 = u0_2 from (eu0_2)] at h1; exact h1
  have r3 : (-2147483648 : Int) ≤ u0_3 ∧ u0_3 ≤ 2147483647 := by have h1 : (-2147483648 : Int) ≤ F 0 3 ∧ F 0 3 ≤ 2147483647 := H.krg 0 3 (by decide); rw [show F 0 3 = u0_3 from (eu0_3)] at h1; exact h1
  have r4 : (-2147483648 : Int) ≤ u0_4 ∧ u0_4 ≤ 2147483647 := by have h1 : (-2147483648 : Int) ≤ F 0 4 ∧ F 0 4 ≤ 2147483647 := H.krg 0 4 (by decide); rw [show F 0 4 = u0_4 from (eu0_4)] at h1; exact h1
  have r5 : (0 : Int) ≤ n1 ∧ n1 ≤ 1000000 := by have h1 := H.nle 1 (by decide); have h2 : (N 1 : Int) = n1 := en1; omega
  refine Ew_of (pc' := 1) (fun _ => x_aload_n rfl rfl) ?_
  refine Ew_of (pc' := 2) (fun _ => x_dup rfl rfl) ?_
  refine v_g H (o := 0) (v := I (u0_3)) rfl rfl rfl rfl rfl (congrArg (fun z : Int => I z) ((eu0_3) : F 0 3 = u0_3)) ?_
  refine Ew_of (pc' := 6) (fun _ => x_iload_n rfl rfl) ?_
  refine Ew_of (pc' := 7) (fun _ => x_iconst rfl) ?_
  refine Ew_of (pc' := 8) (fun _ => x_iload_n rfl rfl) ?_
  refine w_ishlE rfl ?_
  have g6 : inr (slI (1) (a2)) := toI_inr _
  refine Ew_of (pc' := 10) (fun _ => x_iconst rfl) ?_
  refine w_isubE rfl ?_
  have g7 : inr (sbI ((slI (1) (a2))) (1)) := toI_inr _
  refine w_iandG rfl ?_
  have g8 : inr (andI (a1) ((sbI ((slI (1) (a2))) (1)))) := toI_inr _
  refine Ew_of (pc' := 13) (fun _ => x_aload_n rfl rfl) ?_
  refine v_g H (o := 0) (v := I (u0_4)) rfl rfl rfl rfl rfl (congrArg (fun z : Int => I z) ((eu0_4) : F 0 4 = u0_4)) ?_
  refine w_ishlE rfl ?_
  have g9 : inr (slI ((andI (a1) ((sbI ((slI (1) (a2))) (1))))) (u0_4)) := toI_inr _
  refine w_iorE rfl ?_
  have g10 : inr (orI (u0_3) ((slI ((andI (a1) ((sbI ((slI (1) (a2))) (1))))) (u0_4)))) := toI_inr _
  obtain ⟨qh, hqh⟩ : ∃ q : Int, q = ((orI (u0_3) ((slI ((andI (a1) ((sbI ((slI (1) (a2))) (1))))) (u0_4))))) := ⟨_, rfl⟩
  rw [← hqh]
  have gqh : inr qh := by rw [hqh]; first | assumption | omega
  replace hqh : IMP True (qh = ((orI (u0_3) ((slI ((andI (a1) ((sbI ((slI (1) (a2))) (1))))) (u0_4)))))) := fun _ => hqh
  try clear g10
  try clear g9
  try clear g8
  try clear g7
  try clear g6
  refine v_p H (o := 0) (z := qh) (v := I (qh)) rfl rfl rfl rfl rfl rfl rfl rfl (show (-2147483648 : Int) ≤ qh ∧ qh ≤ 2147483647 by omega) (fun σ H O' => ?_)
  have O := OUT_trans O O'
  have hx0 : IMP ((a2) ≤ 16 ∧ 0 ≤ (u0_3) ∧ (u0_3) < p2 ((u0_4)) ∧ (u0_1) + ((u0_4) + (a2)) / 8 ≤ (n1)) (qh = (u0_3) + (a1) % p2 ((a2)) * p2 ((u0_4))) := fun q => (hqh trivial).trans (orI_abx (by have := q.1; omega) (by omega) ⟨q.2.1, q.2.2.1⟩ (by omega))
  refine Ew_of (pc' := 22) (fun _ => x_aload_n rfl rfl) ?_
  refine Ew_of (pc' := 23) (fun _ => x_dup rfl rfl) ?_
  refine v_g H (o := 0) (v := I (u0_4)) rfl rfl rfl rfl rfl (congrArg (fun z : Int => I z) ((eu0_4) : (updF F 0 3 (qh)) 0 4 = u0_4)) ?_
  refine Ew_of (pc' := 27) (fun _ => x_iload_n rfl rfl) ?_
  refine w_iadd rfl ?_
  refine v_p H (o := 0) (z := (u0_4 + a2)) (v := I ((u0_4 + a2))) rfl rfl rfl rfl rfl rfl rfl rfl (show (-2147483648 : Int) ≤ (u0_4 + a2) ∧ (u0_4 + a2) ≤ 2147483647 by omega) (fun σ H O' => ?_)
  have O := OUT_trans O O'
  have : IMP ((a2) ≤ 16 ∧ 0 ≤ (u0_3) ∧ (u0_3) < p2 ((u0_4)) ∧ (u0_1) + ((u0_4) + (a2)) / 8 ≤ (n1)) (RBA ((u0_2)) ((w1)) ((u0_1)) ((u0_3)) ((u0_4)) ((u0_2)) ((w1)) ((u0_1)) ((qh)) (((u0_4 + a2))) (btw ((a1)) ((a2))) ∧ (0 ≤ (qh) ∧ (qh) < p2 (((u0_4 + a2)))) ∧ (u0_1) + ((u0_4 + a2)) / 8 ≤ (n1) ∧ 8 * (u0_1) + ((u0_4 + a2)) = 8 * (u0_1) + (u0_4) + (a2)) := fun q => by have q1 := q.1; have q4 := q.2.2.2; have e := hx0 q; exact ⟨RBA_put (by omega) e rfl, hdq e q.2.1 q.2.2.1 (by omega) (by omega), by omega, by omega⟩
  suffices hl31 : ∀ (m : Nat), ∀ (ls : rO) (σ : rS) (F_31 : hF) (A_31 : hA) , rlook ls 0 = some (.ref (D 0)) → HW V164 σ D N F_31 A_31 → OUT (V164).length D N σE c s D N σ c s → SF [(0, 1), (0, 2), (0, 3), (0, 4)] (updF (updF F 0 3 (qh)) 0 4 ((u0_4 + a2))) F_31 → SA [1] A A_31 → ∀ y31_0_1 : Int, F_31 0 1 = y31_0_1 → ∀ y31_0_2 : Int, F_31 0 2 = y31_0_2 → ∀ y31_0_3 : Int, F_31 0 3 = y31_0_3 → ∀ y31_0_4 : Int, F_31 0 4 = y31_0_4 → ∀ w31_1 : Int → Int, A_31 1 = w31_1 → (0 ≤ (y31_0_1) ∧ (y31_0_1) ≤ (n1) ∧ (n1) ≤ 65536) → ((u0_1) ≤ (y31_0_1)) → (0 ≤ (y31_0_4) ∧ (y31_0_4) ≤ 40) → (IMP ((a2) ≤ 16 ∧ 0 ≤ (u0_3) ∧ (u0_3) < p2 ((u0_4)) ∧ (u0_1) + ((u0_4) + (a2)) / 8 ≤ (n1)) (RBA ((u0_2)) ((w1)) ((u0_1)) ((u0_3)) ((u0_4)) ((y31_0_2)) ((w31_1)) ((y31_0_1)) ((y31_0_3)) ((y31_0_4)) (btw ((a1)) ((a2))) ∧ (0 ≤ (y31_0_3) ∧ (y31_0_3) < p2 ((y31_0_4))) ∧ (y31_0_1) + (y31_0_4) / 8 ≤ (n1) ∧ 8 * (y31_0_1) + (y31_0_4) = 8 * (u0_1) + (u0_4) + (a2))) → ((y31_0_4)).toNat = m → Ew 164 (d + 0) 31 ls [] σ c s Q from
    hl31 _ _ _ _ _  (rfl) H O (SF_refl) (SA_refl)   (u0_1) ((eu0_1)) (u0_2) ((eu0_2)) (qh) (rfl) ((u0_4 + a2)) (rfl) (w1) (ew1) (show 0 ≤ (u0_1) ∧ (u0_1) ≤ (n1) ∧ (n1) ≤ 65536 by omega) (show (u0_1) ≤ (u0_1) by omega) (show 0 ≤ ((u0_4 + a2)) ∧ ((u0_4 + a2)) ≤ 40 by omega) (show IMP ((a2) ≤ 16 ∧ 0 ≤ (u0_3) ∧ (u0_3) < p2 ((u0_4)) ∧ (u0_1) + ((u0_4) + (a2)) / 8 ≤ (n1)) (RBA ((u0_2)) ((w1)) ((u0_1)) ((u0_3)) ((u0_4)) ((u0_2)) ((w1)) ((u0_1)) ((qh)) (((u0_4 + a2))) (btw ((a1)) ((a2))) ∧ (0 ≤ (qh) ∧ (qh) < p2 (((u0_4 + a2)))) ∧ (u0_1) + ((u0_4 + a2)) / 8 ≤ (n1) ∧ 8 * (u0_1) + ((u0_4 + a2)) = 8 * (u0_1) + (u0_4) + (a2)) by assumption) rfl
  as_aux_lemma =>
  intro m
  induction m using Nat.strongRecOn with
  | _ m ih31 =>
    intro ls σ F_31 A_31  l31_0 H O hS_31 hA_31   y31_0_1 ey31_0_1 y31_0_2 ey31_0_2 y31_0_3 ey31_0_3 y31_0_4 ey31_0_4 w31_1 ew31_1 j31_0 j31_1 j31_2 j31_3 hm31
    have r11 : (-2147483648 : Int) ≤ y31_0_1 ∧ y31_0_1 ≤ 2147483647 := by have h1 : (-2147483648 : Int) ≤ F_31 0 1 ∧ F_31 0 1 ≤ 2147483647 := H.krg 0 1 (by decide); rw [show F_31 0 1 = y31_0_1 from (ey31_0_1)] at h1; exact h1
    have r12 : (0 : Int) ≤ y31_0_2 ∧ y31_0_2 ≤ 1 := by have h1 : (0 : Int) ≤ F_31 0 2 ∧ F_31 0 2 ≤ 1 := H.krg 0 2 (by decide); rw [show F_31 0 2 = y31_0_2 from (ey31_0_2)] at h1; exact h1
    have r13 : (-2147483648 : Int) ≤ y31_0_3 ∧ y31_0_3 ≤ 2147483647 := by have h1 : (-2147483648 : Int) ≤ F_31 0 3 ∧ F_31 0 3 ≤ 2147483647 := H.krg 0 3 (by decide); rw [show F_31 0 3 = y31_0_3 from (ey31_0_3)] at h1; exact h1
    have r14 : (-2147483648 : Int) ≤ y31_0_4 ∧ y31_0_4 ≤ 2147483647 := by have h1 : (-2147483648 : Int) ≤ F_31 0 4 ∧ F_31 0 4 ≤ 2147483647 := H.krg 0 4 (by decide); rw [show F_31 0 4 = y31_0_4 from (ey31_0_4)] at h1; exact h1
    have j31_q : IMP ((a2) ≤ 16 ∧ 0 ≤ (u0_3) ∧ (u0_3) < p2 ((u0_4)) ∧ (u0_1) + ((u0_4) + (a2)) / 8 ≤ (n1)) (RBA ((u0_2)) ((w1)) ((u0_1)) ((u0_3)) ((u0_4)) ((y31_0_2)) ((w31_1)) ((y31_0_1)) ((y31_0_3)) ((y31_0_4)) (btw ((a1)) ((a2))) ∧ (0 ≤ (y31_0_3) ∧ (y31_0_3) < p2 ((y31_0_4))) ∧ (y31_0_1) + (y31_0_4) / 8 ≤ (n1) ∧ 8 * (y31_0_1) + (y31_0_4) = 8 * (u0_1) + (u0_4) + (a2)) := by assumption
    refine Ew_of (pc' := 32) (fun _ => x_aload_n rfl l31_0) ?_
    refine v_g H (o := 0) (v := I (y31_0_4)) rfl rfl rfl rfl rfl (congrArg (fun z : Int => I z) ((ey31_0_4) : F_31 0 4 = y31_0_4)) ?_
    refine Ew_of (pc' := 37) (fun _ => x_bipush (z := 8) rfl (by decide)) ?_
    refine w_icmplt (t := 106) rfl rfl (show inr (y31_0_4) by omega) (show inr (8) by omega) (fun b15 => ?_) (fun b15 => ?_)
    · have : IMP ((a2) ≤ 16 ∧ 0 ≤ (u0_3) ∧ (u0_3) < p2 ((u0_4)) ∧ (u0_1) + ((u0_4) + (a2)) / 8 ≤ (n1)) (RBA ((u0_2)) ((w1)) ((u0_1)) ((u0_3)) ((u0_4)) ((y31_0_2)) ((w31_1)) ((y31_0_1)) ((y31_0_3)) ((y31_0_4)) (btw ((a1)) ((a2))) ∧ (0 ≤ (y31_0_3) ∧ (y31_0_3) < p2 ((y31_0_4))) ∧ 8 * (y31_0_1) + (y31_0_4) = 8 * (u0_1) + (u0_4) + (a2)) := fun q => by obtain ⟨t1, t2, t3, t4⟩ := j31_q q; exact ⟨t1, t2, t4⟩
      exact w_ret rfl (k _ _ _ H O (SF_trans (SF_upd (SF_upd (SF_refl) rfl) rfl) hS_31 (any_sub rfl)) (SA_trans (SA_refl) hA_31 (any_subA rfl)) (y31_0_1) ((ey31_0_1)) (y31_0_2) ((ey31_0_2)) (y31_0_3) ((ey31_0_3)) (y31_0_4) ((ey31_0_4)) (w31_1) (ew31_1) (show 0 ≤ (y31_0_1) ∧ (y31_0_1) ≤ (n1) ∧ (n1) ≤ 65536 by omega) (show (u0_1) ≤ (y31_0_1) by omega) (show 0 ≤ (y31_0_4) ∧ (y31_0_4) ≤ 7 by omega) (show IMP (a2 ≤ 16 ∧ 0 ≤ (u0_3) ∧ (u0_3) < p2 ((u0_4)) ∧ (u0_1) + ((u0_4) + a2) / 8 ≤ (n1)) (RBA ((u0_2)) ((w1)) ((u0_1)) ((u0_3)) ((u0_4)) ((y31_0_2)) ((w31_1)) ((y31_0_1)) ((y31_0_3)) ((y31_0_4)) (btw (a1) (a2)) ∧ (0 ≤ (y31_0_3) ∧ (y31_0_3) < p2 ((y31_0_4))) ∧ 8 * (y31_0_1) + (y31_0_4) = 8 * (u0_1) + (u0_4) + a2) by assumption))
    · refine Ew_of (pc' := 41) (fun _ => x_aload_n rfl l31_0) ?_
      refine v_g H (o := 0) (v := I (y31_0_1)) rfl rfl rfl rfl rfl (congrArg (fun z : Int => I z) ((ey31_0_1) : F_31 0 1 = y31_0_1)) ?_
      refine Ew_of (pc' := 45) (fun _ => x_aload_n rfl l31_0) ?_
      refine v_g H (o := 0) (v := .ref (D 1)) rfl rfl rfl rfl rfl (vrf (((hS_31 0 0 rfl)).trans (pf1))) ?_
      refine v_len H (o := 1) rfl rfl rfl rfl (n := n1) (en1) ?_
      refine w_icmpge (t := 76) rfl rfl (show inr (y31_0_1) by omega) (show inr (n1) by omega) (fun b16 => ?_) (fun b16 => ?_)
      · refine Ew_of (pc' := 77) (fun _ => x_aload_n rfl l31_0) ?_
        refine Ew_of (pc' := 78) (fun _ => x_iconst rfl) ?_
        refine v_p H (o := 0) (z := 1) (v := I (1)) rfl rfl rfl rfl rfl rfl rfl (rfit_b (by omega)) (show (0 : Int) ≤ 1 ∧ 1 ≤ 1 by omega) (fun σ H O' => ?_)
        have O := OUT_trans O O'
        refine Ew_of (pc' := 82) (fun _ => x_aload_n rfl l31_0) ?_
        refine Ew_of (pc' := 83) (fun _ => x_dup rfl rfl) ?_
        refine v_g H (o := 0) (v := I (y31_0_3)) rfl rfl rfl rfl rfl (congrArg (fun z : Int => I z) ((ey31_0_3) : (updF F_31 0 2 (1)) 0 3 = y31_0_3)) ?_
        refine Ew_of (pc' := 88) (fun _ => x_bipush (z := 8) rfl (by decide)) ?_
        refine w_iushrE rfl ?_
        have g17 : inr (usI (y31_0_3) (8)) := toI_inr _
        obtain ⟨qu, hqu⟩ : ∃ q : Int, q = ((usI (y31_0_3) (8))) := ⟨_, rfl⟩
        rw [← hqu]
        have gqu : inr qu := by rw [hqu]; first | assumption | omega
        replace hqu : IMP True (qu = ((usI (y31_0_3) (8)))) := fun _ => hqu
        try clear g17
        refine v_p H (o := 0) (z := qu) (v := I (qu)) rfl rfl rfl rfl rfl rfl rfl rfl (show (-2147483648 : Int) ≤ qu ∧ qu ≤ 2147483647 by omega) (fun σ H O' => ?_)
        have O := OUT_trans O O'
        refine Ew_of (pc' := 93) (fun _ => x_aload_n rfl l31_0) ?_
        refine Ew_of (pc' := 94) (fun _ => x_dup rfl rfl) ?_
        refine v_g H (o := 0) (v := I (y31_0_4)) rfl rfl rfl rfl rfl (congrArg (fun z : Int => I z) ((ey31_0_4) : (updF (updF F_31 0 2 (1)) 0 3 (qu)) 0 4 = y31_0_4)) ?_
        refine Ew_of (pc' := 99) (fun _ => x_bipush (z := 8) rfl (by decide)) ?_
        refine w_isub rfl ?_
        refine v_p H (o := 0) (z := (y31_0_4 - 8)) (v := I ((y31_0_4 - 8))) rfl rfl rfl rfl rfl rfl rfl rfl (show (-2147483648 : Int) ≤ (y31_0_4 - 8) ∧ (y31_0_4 - 8) ≤ 2147483647 by omega) (fun σ H O' => ?_)
        have O := OUT_trans O O'
        refine Ew_of (pc' := 31) (fun _ => x_goto rfl rfl) ?_
        have : IMP ((a2) ≤ 16 ∧ 0 ≤ (u0_3) ∧ (u0_3) < p2 ((u0_4)) ∧ (u0_1) + ((u0_4) + (a2)) / 8 ≤ (n1)) (RBA ((u0_2)) ((w1)) ((u0_1)) ((u0_3)) ((u0_4)) ((1)) ((w31_1)) ((y31_0_1)) ((qu)) (((y31_0_4 - 8))) (btw ((a1)) ((a2))) ∧ (0 ≤ (qu) ∧ (qu) < p2 (((y31_0_4 - 8)))) ∧ (y31_0_1) + ((y31_0_4 - 8)) / 8 ≤ (n1) ∧ 8 * (y31_0_1) + ((y31_0_4 - 8)) = 8 * (u0_1) + (u0_4) + (a2)) := fun q => by obtain ⟨t1, t2, t3, t4⟩ := j31_q q; have t2a := t2.1; have t2b := t2.2; first | (have e := (hqu trivial).trans (us8 (by omega)); exact ⟨RBA_out t1 (by omega) (by omega) hub rfl e rfl, by rw [e]; exact hd8 t2 (by omega) rfl, by omega, by omega⟩) | omega
        exact ih31 _ (by omega) _ _ _ _  (l31_0) H O (SF_upd (SF_upd (SF_upd (hS_31) rfl) rfl) rfl) (hA_31)   (y31_0_1) ((ey31_0_1)) (1) (rfl) (qu) (rfl) ((y31_0_4 - 8)) (rfl) (w31_1) (ew31_1) (show 0 ≤ (y31_0_1) ∧ (y31_0_1) ≤ (n1) ∧ (n1) ≤ 65536 by omega) (show (u0_1) ≤ (y31_0_1) by omega) (show 0 ≤ ((y31_0_4 - 8)) ∧ ((y31_0_4 - 8)) ≤ 40 by omega) (show IMP ((a2) ≤ 16 ∧ 0 ≤ (u0_3) ∧ (u0_3) < p2 ((u0_4)) ∧ (u0_1) + ((u0_4) + (a2)) / 8 ≤ (n1)) (RBA ((u0_2)) ((w1)) ((u0_1)) ((u0_3)) ((u0_4)) ((1)) ((w31_1)) ((y31_0_1)) ((qu)) (((y31_0_4 - 8))) (btw ((a1)) ((a2))) ∧ (0 ≤ (qu) ∧ (qu) < p2 (((y31_0_4 - 8)))) ∧ (y31_0_1) + ((y31_0_4 - 8)) / 8 ≤ (n1) ∧ 8 * (y31_0_1) + ((y31_0_4 - 8)) = 8 * (u0_1) + (u0_4) + (a2)) by assumption) rfl
      · refine Ew_of (pc' := 53) (fun _ => x_aload_n rfl l31_0) ?_
        refine v_g H (o := 0) (v := .ref (D 1)) rfl rfl rfl rfl rfl (vrf (((hS_31 0 0 rfl)).trans (pf1))) ?_
        refine Ew_of (pc' := 57) (fun _ => x_aload_n rfl l31_0) ?_
        refine Ew_of (pc' := 58) (fun _ => x_dup rfl rfl) ?_
        refine v_g H (o := 0) (v := I (y31_0_1)) rfl rfl rfl rfl rfl (congrArg (fun z : Int => I z) ((ey31_0_1) : F_31 0 1 = y31_0_1)) ?_
        refine Ew_of (pc' := 62) (fun _ => x_dup_x1 rfl rfl) ?_
        refine Ew_of (pc' := 63) (fun _ => x_iconst rfl) ?_
        refine w_iadd rfl ?_
        refine v_p H (o := 0) (z := (y31_0_1 + 1)) (v := I ((y31_0_1 + 1))) rfl rfl rfl rfl rfl rfl rfl rfl (show (-2147483648 : Int) ≤ (y31_0_1 + 1) ∧ (y31_0_1 + 1) ≤ 2147483647 by omega) (fun σ H O' => ?_)
        have O := OUT_trans O O'
        refine Ew_of (pc' := 68) (fun _ => x_aload_n rfl l31_0) ?_
        refine v_g H (o := 0) (v := I (y31_0_3)) rfl rfl rfl rfl rfl (congrArg (fun z : Int => I z) ((ey31_0_3) : (updF F_31 0 1 ((y31_0_1 + 1))) 0 3 = y31_0_3)) ?_
        refine v_i2b rfl (fun z18 gz18 uz18 => ?_)
        have hu_ := uz18
        refine v_sB H (o := 1) rfl rfl rfl rfl (n := n1) (en1) (show 0 ≤ y31_0_1 ∧ y31_0_1 < n1 by omega) (fun z19 σ qz19 uz19 H O' => ?_)
        have O := OUT_trans O O'
        have hub := (uz19).trans hu_
        refine Ew_of (pc' := 81) (fun _ => x_goto rfl rfl) ?_
        refine Ew_of (pc' := 82) (fun _ => x_aload_n rfl l31_0) ?_
        refine Ew_of (pc' := 83) (fun _ => x_dup rfl rfl) ?_
        refine v_g H (o := 0) (v := I (y31_0_3)) rfl rfl rfl rfl rfl (congrArg (fun z : Int => I z) ((ey31_0_3) : (updF F_31 0 1 ((y31_0_1 + 1))) 0 3 = y31_0_3)) ?_
        refine Ew_of (pc' := 88) (fun _ => x_bipush (z := 8) rfl (by decide)) ?_
        refine w_iushrE rfl ?_
        have g20 : inr (usI (y31_0_3) (8)) := toI_inr _
        obtain ⟨qu, hqu⟩ : ∃ q : Int, q = ((usI (y31_0_3) (8))) := ⟨_, rfl⟩
        rw [← hqu]
        have gqu : inr qu := by rw [hqu]; first | assumption | omega
        replace hqu : IMP True (qu = ((usI (y31_0_3) (8)))) := fun _ => hqu
        try clear g20
        refine v_p H (o := 0) (z := qu) (v := I (qu)) rfl rfl rfl rfl rfl rfl rfl rfl (show (-2147483648 : Int) ≤ qu ∧ qu ≤ 2147483647 by omega) (fun σ H O' => ?_)
        have O := OUT_trans O O'
        refine Ew_of (pc' := 93) (fun _ => x_aload_n rfl l31_0) ?_
        refine Ew_of (pc' := 94) (fun _ => x_dup rfl rfl) ?_
        refine v_g H (o := 0) (v := I (y31_0_4)) rfl rfl rfl rfl rfl (congrArg (fun z : Int => I z) ((ey31_0_4) : (updF (updF F_31 0 1 ((y31_0_1 + 1))) 0 3 (qu)) 0 4 = y31_0_4)) ?_
        refine Ew_of (pc' := 99) (fun _ => x_bipush (z := 8) rfl (by decide)) ?_
        refine w_isub rfl ?_
        refine v_p H (o := 0) (z := (y31_0_4 - 8)) (v := I ((y31_0_4 - 8))) rfl rfl rfl rfl rfl rfl rfl rfl (show (-2147483648 : Int) ≤ (y31_0_4 - 8) ∧ (y31_0_4 - 8) ≤ 2147483647 by omega) (fun σ H O' => ?_)
        have O := OUT_trans O O'
        refine Ew_of (pc' := 31) (fun _ => x_goto rfl rfl) ?_
        have : IMP ((a2) ≤ 16 ∧ 0 ≤ (u0_3) ∧ (u0_3) < p2 ((u0_4)) ∧ (u0_1) + ((u0_4) + (a2)) / 8 ≤ (n1)) (RBA ((u0_2)) ((w1)) ((u0_1)) ((u0_3)) ((u0_4)) ((y31_0_2)) ((upd1 (w31_1) (y31_0_1) (z19))) (((y31_0_1 + 1))) ((qu)) (((y31_0_4 - 8))) (btw ((a1)) ((a2))) ∧ (0 ≤ (qu) ∧ (qu) < p2 (((y31_0_4 - 8)))) ∧ ((y31_0_1 + 1)) + ((y31_0_4 - 8)) / 8 ≤ (n1) ∧ 8 * ((y31_0_1 + 1)) + ((y31_0_4 - 8)) = 8 * (u0_1) + (u0_4) + (a2)) := fun q => by obtain ⟨t1, t2, t3, t4⟩ := j31_q q; have t2a := t2.1; have t2b := t2.2; first | (have e := (hqu trivial).trans (us8 (by omega)); exact ⟨RBA_out t1 (by omega) (by omega) hub rfl e rfl, by rw [e]; exact hd8 t2 (by omega) rfl, by omega, by omega⟩) | omega
        exact ih31 _ (by omega) _ _ _ _  (l31_0) H O (SF_upd (SF_upd (SF_upd (hS_31) rfl) rfl) rfl) (SA_upd (hA_31) rfl)   ((y31_0_1 + 1)) (rfl) (y31_0_2) ((ey31_0_2)) (qu) (rfl) ((y31_0_4 - 8)) (rfl) (upd1 (w31_1) (y31_0_1) (z19)) (congrArg (fun q => upd1 q (y31_0_1) (z19)) (ew31_1)) (show 0 ≤ ((y31_0_1 + 1)) ∧ ((y31_0_1 + 1)) ≤ (n1) ∧ (n1) ≤ 65536 by omega) (show (u0_1) ≤ ((y31_0_1 + 1)) by omega) (show 0 ≤ ((y31_0_4 - 8)) ∧ ((y31_0_4 - 8)) ≤ 40 by omega) (show IMP ((a2) ≤ 16 ∧ 0 ≤ (u0_3) ∧ (u0_3) < p2 ((u0_4)) ∧ (u0_1) + ((u0_4) + (a2)) / 8 ≤ (n1)) (RBA ((u0_2)) ((w1)) ((u0_1)) ((u0_3)) ((u0_4)) ((y31_0_2)) ((upd1 (w31_1) (y31_0_1) (z19))) (((y31_0_1 + 1))) ((qu)) (((y31_0_4 - 8))) (btw ((a1)) ((a2))) ∧ (0 ≤ (qu) ∧ (qu) < p2 (((y31_0_4 - 8)))) ∧ ((y31_0_1 + 1)) + ((y31_0_4 - 8)) / 8 ≤ (n1) ∧ 8 * ((y31_0_1 + 1)) + ((y31_0_4 - 8)) = 8 * (u0_1) + (u0_4) + (a2)) by assumption) rfl
abbrev V163_Row : vV := [(0, 7, [(4, 0), (0, 0), (1, 0), (0, 0), (0, 0)]), (0, 7, [(4, 0), (0, 0), (1, 0), (0, 0), (0, 0)]), (1, 0, []), (1, 0, [])]
/-- Row.copyBack: this, #1, this.bytes, #1.bytes -/
theorem C163_Row {σE : rS} {D N : Nat → Nat} {F : hF} {A : hA} {d c s : Nat} {Q : wQ} (H : HW V163_Row σE D N F A) {a1 a2 a3 : Int} (pf2 : F 0 0 = (D 2 : Int)) (pf3 : F 1 0 = (D 3 : Int)) (n2 : Int) (en2 : (N 2 : Int) = n2) (n3 : Int) (en3 : (N 3 : Int) = n3) (u0_1 : Int) (eu0_1 : F 0 1 = u0_1) (u0_2 : Int) (eu0_2 : F 0 2 = u0_2) (u1_1 : Int) (eu1_1 : F 1 1 = u1_1) (w2 : Int → Int) (ew2 : A 2 = w2) (w3 : Int → Int) (ew3 : A 3 = w3) (h0 : inr (a1)) (h1 : inr (a2)) (h2 : inr (a3)) (h3 : 0 ≤ (u0_1) ∧ (u0_1) ≤ (n2) ∧ (n2) ≤ 65536) (h4 : 0 ≤ (u1_1) ∧ (u1_1) ≤ (n3) ∧ (n3) ≤ 65536) (h5 : 0 ≤ (a3) ∧ (a3) ≤ (u0_1)) (h6 : (a2) < 0 ∨ 1 ≤ (a1) ∧ ((a1) ≤ (u0_1) - (a3) ∨ (a1) - ((u0_1) - (a3)) ≤ (u1_1))) (k : ∀ (σ : rS) (D' N' : Nat → Nat) (F' : hF) (A' : hA) (c' s' : Nat), HW V163_Row σ D' N' F' A' → OUT (V163_Row).length D N σE c s D' N' σ c' s' → SD [2] D D' → SD [2] N N' → SF [(0, 0), (0, 1), (0, 2)] F F' → SA [2] A A' → F' 0 0 = (D' 2 : Int) → ∀ m2 : Int, (N' 2 : Int) = m2 → ∀ y0_1 : Int, F' 0 1 = y0_1 → ∀ y0_2 : Int, F' 0 2 = y0_2 → ∀ v2 : Int → Int, A' 2 = v2 → (0 ≤ (y0_1) ∧ (y0_1) ≤ (m2) ∧ (m2) ≤ 65536) → ((y0_1) = (u0_1) + (a2) ∧ 0 ≤ (a2) ∨ (y0_1) = (u0_1) ∧ ((a2) < 0 ∨ 65536 < (u0_1) + (a2))) → (∀ i, (0 : Int) ≤ i → i < (u0_1) → ((v2)) i = ((w2)) i) → ((y0_2) = (u0_2) ∨ (a2) < 0 ∨ 65536 < (u0_1) + (a2)) → (IMP ((0 : Int) ≤ (a2) ∧ (u0_1) + (a2) ≤ 65536) (sc ((w3)) 0 ((u1_1)) ++ sc ((v2)) ((a3)) ((y0_1)) = cpb (sc ((w3)) 0 ((u1_1)) ++ sc ((w2)) ((a3)) ((u0_1))) ((a1)) ((a2) : Int).toNat)) → Q none σ c' s') : Ew 163 (d + 2) 0 (rargs 0 [.ref (D 0), I a1, I a2, I a3, .ref (D 1)]) [] σE c s Q := by
  have O := OUT_refl (n := (V163_Row).length) (D := D) (N := N) (σ := σE) (c := c) (s := s)
  have HE := H
  have r1 : (-2147483648 : Int) ≤ u0_1 ∧ u0_1 ≤ 2147483647 := by have h1 : (-2147483648 : Int) ≤ F 0 1 ∧ F 0 1 ≤ 2147483647 := H.krg 0 1 (by decide); rw [show F 0 1 = u0_1 from (eu0_1)] at h1; exact h1
  have r2 : (0 : Int) ≤ u0_2 ∧ u0_2 ≤ 1 := by have h1 : (0 : Int) ≤ F 0 2 ∧ F 0 2 ≤ 1 := H.krg 0 2 (by decide); rw [show F 0 2 = u0_2 from (eu0_2)] at h1; exact h1
  have r3 : (-2147483648 : Int) ≤ u1_1 ∧ u1_1 ≤ 2147483647 := by have h1 : (-2147483648 : Int) ≤ F 1 1 ∧ F 1 1 ≤ 2147483647 := H.krg 1 1 (by decide); rw [show F 1 1 = u1_1 from (eu1_1)] at h1; exact h1
  have r4 : (0 : Int) ≤ n2 ∧ n2 ≤ 1000000 := by have h1 := H.nle 2 (by decide); have h2 : (N 2 : Int) = n2 := en2; omega
  have r5 : (0 : Int) ≤ n3 ∧ n3 ≤ 1000000 := by have h1 := H.nle 3 (by decide); have h2 : (N 3 : Int) = n3 := en3; omega
  refine Ew_of (pc' := 1) (fun _ => x_aload_n rfl rfl) ?_
  refine Ew_of (pc' := 2) (fun _ => x_iload_n rfl rfl) ?_
  refine v_inv H (o := 0) rfl rfl rfl rfl rfl rfl (by rfl) (C157 (D := pul [0, 2] D) (N := pul [0, 2] N) (HW_sub H (VS_of (show vsub V163_Row V157 [0, 2] = true by decide +kernel))) (pf2) (n2) (en2) (u0_1) ((eu0_1)) (w2) (ew2) (show inr (a2) by omega) (show 0 ≤ (u0_1) ∧ (u0_1) ≤ (n2) ∧ (n2) ≤ 65536 by omega) (fun z6 σ6 D6' N6' F6' A6' c6 s6 H' O' hD6 hN6 hS6 hA6 pm6_1 m6_1 em6_1 w6_1 ew6_1 pz6_0 pz6_1 pz6_2 pz6_3 pz6_4 => ⟨rretB rfl pz6_0, ?_⟩))
  refine v_backM (c := c) (s := s) H (show vsub V163_Row V157 [0, 2] = true by decide +kernel) H' O' hD6 (show vmov V163_Row [0, 2] [1] = true by decide +kernel) (fun D6 N6 F6 A6 H O' eD6 eN6 eF6 eA6 => ?_)
  have O := OUT_trans O O'
  -- Row.reserve
  have pf6_0_0 : F6 0 0 = (D6 2 : Int) := (eF6 0 0).trans (pm6_1.trans (congrArg (fun q : Nat => (q : Int)) (eD6 2).symm))
  have pf6_1_0 : F6 1 0 = (D6 3 : Int) := ((show F6 1 0 = F 1 0 from (eF6 1 0))).trans ((pf3).trans (congrArg (fun q : Nat => (q : Int)) ((show D6 3 = D 3 from (eD6 3))).symm))
  have r7 : (0 : Int) ≤ m6_1 ∧ m6_1 ≤ 1000000 := by have h1 := H.nle 2 (by decide); have h2 : (N6 2 : Int) = m6_1 := (congrArg (fun q : Nat => (q : Int)) (eN6 2)).trans em6_1; omega
  have hsr := pz6_4
  refine w_ifne (t := 14) rfl rfl (show inr (z6) by omega) (fun b8 => ?_) (fun b8 => ?_)
  · refine Ew_of (pc' := 15) (fun _ => x_iconst rfl) ?_
    refine Ew_of (pc' := 17) (fun _ => x_istore rfl) ?_
    have : ∀ i, (0 : Int) ≤ i → i < (u0_1) → ((w6_1)) i = ((w2)) i := hsr
    have : sc ((w3)) 0 ((u1_1)) ++ sc ((w6_1)) ((a3)) ((u0_1)) = cpb (sc ((w3)) 0 ((u1_1)) ++ sc ((w2)) ((a3)) ((u0_1))) ((a1)) (0 : Int).toNat := by rw [sc_same (g := (w2)) (fun i a b => hsr i (by omega) b)]; rfl
    suffices hl17 : ∀ (m : Nat), ∀ (ls : rO) (σ : rS) (F_17 : hF) (A_17 : hA) (x17_5 : Int), rlook ls 0 = some (.ref (D6 0)) → rlook ls 1 = some (I (a1)) → rlook ls 2 = some (I (a2)) → rlook ls 3 = some (I (a3)) → rlook ls 4 = some (.ref (D6 1)) → rlook ls 5 = some (I (x17_5)) → HW V163_Row σ D6 N6 F_17 A_17 → OUT (V163_Row).length D N σE c s D6 N6 σ (c + c6) (s + s6) → SF [(0, 1)] F6 F_17 → SA [2] A6 A_17 → ∀ y17_0_1 : Int, F_17 0 1 = y17_0_1 → ∀ w17_2 : Int → Int, A_17 2 = w17_2 → (inr (x17_5)) → ((0) ≤ (x17_5)) → ((x17_5) ≤ (0) ∨ (x17_5) ≤ ((a2))) → ((y17_0_1) = (u0_1) + (x17_5)) → ((u0_1) + (a2) ≤ (m6_1) ∧ (m6_1) ≤ 65536) → (∀ i, (0 : Int) ≤ i → i < (u0_1) → ((w17_2)) i = ((w2)) i) → (sc ((w3)) 0 ((u1_1)) ++ sc ((w17_2)) ((a3)) ((y17_0_1)) = cpb (sc ((w3)) 0 ((u1_1)) ++ sc ((w2)) ((a3)) ((u0_1))) ((a1)) ((x17_5) : Int).toNat) → (((a2)) - (x17_5)).toNat = m → Ew 163 (d + 2) 17 ls [] σ (c + c6) (s + s6) Q from
      hl17 _ _ _ _ _ (0) ((rk_o (rfl) rfl rfl).trans (congrArg (fun q : Nat => some (Value.ref q)) (((show D6 0 = D 0 from (eD6 0).trans (hD6 0 rfl)))).symm)) (rk_o (rfl) rfl rfl) (rk_o (rfl) rfl rfl) (rk_o (rfl) rfl rfl) ((rk_o (rfl) rfl rfl).trans (congrArg (fun q : Nat => some (Value.ref q)) (((show D6 1 = D 1 from (eD6 1)))).symm)) (rk_s) H O (SF_refl) (SA_refl)   (u0_1) ((((show F6 0 1 = F 0 1 from (eF6 0 1).trans (hS6 0 1 rfl))).trans (eu0_1))) (w6_1) ((eA6 2).trans ew6_1) (show inr (0) by omega) (show (0) ≤ (0) by omega) (show (0) ≤ (0) ∨ (0) ≤ ((a2)) by omega) (show (u0_1) = (u0_1) + (0) by omega) (show (u0_1) + (a2) ≤ (m6_1) ∧ (m6_1) ≤ 65536 by omega) (show ∀ i, (0 : Int) ≤ i → i < (u0_1) → ((w6_1)) i = ((w2)) i by assumption) (show sc ((w3)) 0 ((u1_1)) ++ sc ((w6_1)) ((a3)) ((u0_1)) = cpb (sc ((w3)) 0 ((u1_1)) ++ sc ((w2)) ((a3)) ((u0_1))) ((a1)) ((0) : Int).toNat by assumption) rfl
    as_aux_lemma =>
    intro m
    induction m using Nat.strongRecOn with
    | _ m ih17 =>
      intro ls σ F_17 A_17 x17_5 l17_0 l17_1 l17_2 l17_3 l17_4 l17_5 H O hS_17 hA_17   y17_0_1 ey17_0_1 w17_2 ew17_2 j17_0 j17_1 j17_2 j17_3 j17_4 j17_5 j17_6 hm17
      have r9 : (-2147483648 : Int) ≤ y17_0_1 ∧ y17_0_1 ≤ 2147483647 := by have h1 : (-2147483648 : Int) ≤ F_17 0 1 ∧ F_17 0 1 ≤ 2147483647 := H.krg 0 1 (by decide); rw [show F_17 0 1 = y17_0_1 from (ey17_0_1)] at h1; exact h1
      have j17_s : ∀ i, (0 : Int) ≤ i → i < (u0_1) → ((w17_2)) i = ((w2)) i := by assumption
      have j17_c : sc ((w3)) 0 ((u1_1)) ++ sc ((w17_2)) ((a3)) ((y17_0_1)) = cpb (sc ((w3)) 0 ((u1_1)) ++ sc ((w2)) ((a3)) ((u0_1))) ((a1)) ((x17_5) : Int).toNat := by assumption
      refine Ew_of (pc' := 19) (fun _ => x_iload rfl l17_5) ?_
      refine Ew_of (pc' := 20) (fun _ => x_iload_n rfl l17_2) ?_
      refine w_icmpge (t := 85) rfl rfl (show inr (x17_5) by omega) (show inr (a2) by omega) (fun b10 => ?_) (fun b10 => ?_)
      · have : IMP ((0 : Int) ≤ (a2) ∧ (u0_1) + (a2) ≤ 65536) (sc ((w3)) 0 ((u1_1)) ++ sc ((w17_2)) ((a3)) ((y17_0_1)) = cpb (sc ((w3)) 0 ((u1_1)) ++ sc ((w2)) ((a3)) ((u0_1))) ((a1)) ((a2) : Int).toNat) := fun _ => by rw [show (a2) = (x17_5) by omega]; exact j17_c
        exact w_ret rfl (k _ _ _ _ _ _ _ H O (SD_trans (SD_refl) (SD_glu (ι := [0, 2]) hD6 eD6 (by decide +kernel)) (any_subA (l' := [2]) rfl)) (SD_trans (SD_refl) (SD_glu (ι := [0, 2]) hN6 eN6 (by decide +kernel)) (any_subA (l' := [2]) rfl)) (SF_trans (SF_trans (SF_refl) (SF_glu (ι := [0, 2]) hS6 eF6 (by decide +kernel)) (any_sub (l' := [(0, 0)]) rfl)) hS_17 (any_sub rfl)) (SA_trans (SA_trans (SA_refl) (SA_glu (ι := [0, 2]) hA6 eA6 (by decide +kernel)) (any_subA (l' := [2]) rfl)) hA_17 (any_subA rfl)) (((hS_17 0 0 rfl)).trans (pf6_0_0)) (m6_1) ((congrArg (fun q : Nat => (q : Int)) (eN6 2)).trans em6_1) (y17_0_1) ((ey17_0_1)) (u0_2) ((((hS_17 0 2 rfl).trans ((show F6 0 2 = F 0 2 from (eF6 0 2).trans (hS6 0 2 rfl)))).trans (eu0_2))) (w17_2) (ew17_2) (show 0 ≤ (y17_0_1) ∧ (y17_0_1) ≤ (m6_1) ∧ (m6_1) ≤ 65536 by omega) (show (y17_0_1) = (u0_1) + a2 ∧ 0 ≤ a2 ∨ (y17_0_1) = (u0_1) ∧ (a2 < 0 ∨ 65536 < (u0_1) + a2) by omega) (show ∀ i, (0 : Int) ≤ i → i < (u0_1) → ((w17_2)) i = ((w2)) i by assumption) (show (u0_2) = (u0_2) ∨ a2 < 0 ∨ 65536 < (u0_1) + a2 by omega) (show IMP ((0 : Int) ≤ a2 ∧ (u0_1) + a2 ≤ 65536) (sc ((w3)) 0 ((u1_1)) ++ sc ((w17_2)) (a3) ((y17_0_1)) = cpb (sc ((w3)) 0 ((u1_1)) ++ sc ((w2)) (a3) ((u0_1))) (a1) (a2 : Int).toNat) by assumption))
      · refine Ew_of (pc' := 24) (fun _ => x_aload_n rfl l17_0) ?_
        refine v_g H (o := 0) (v := I (y17_0_1)) rfl rfl rfl rfl rfl (congrArg (fun z : Int => I z) ((ey17_0_1) : F_17 0 1 = y17_0_1)) ?_
        refine Ew_of (pc' := 28) (fun _ => x_iload_n rfl l17_1) ?_
        refine w_isub rfl ?_
        refine Ew_of (pc' := 31) (fun _ => x_istore rfl) ?_
        refine Ew_of (pc' := 32) (fun _ => x_aload_n rfl (rk_o (l17_0) rfl rfl)) ?_
        refine v_g H (o := 0) (v := .ref (D6 2)) rfl rfl rfl rfl rfl (vrf (((hS_17 0 0 rfl)).trans (pf6_0_0))) ?_
        refine Ew_of (pc' := 36) (fun _ => x_aload_n rfl (rk_o (l17_0) rfl rfl)) ?_
        refine Ew_of (pc' := 37) (fun _ => x_dup rfl rfl) ?_
        refine v_g H (o := 0) (v := I (y17_0_1)) rfl rfl rfl rfl rfl (congrArg (fun z : Int => I z) ((ey17_0_1) : F_17 0 1 = y17_0_1)) ?_
        refine Ew_of (pc' := 41) (fun _ => x_dup_x1 rfl rfl) ?_
        refine Ew_of (pc' := 42) (fun _ => x_iconst rfl) ?_
        refine w_iadd rfl ?_
        refine v_p H (o := 0) (z := (y17_0_1 + 1)) (v := I ((y17_0_1 + 1))) rfl rfl rfl rfl rfl rfl rfl rfl (show (-2147483648 : Int) ≤ (y17_0_1 + 1) ∧ (y17_0_1 + 1) ≤ 2147483647 by omega) (fun σ H O' => ?_)
        have O := OUT_trans O O'
        refine Ew_of (pc' := 48) (fun _ => x_iload rfl rk_s) ?_
        refine Ew_of (pc' := 49) (fun _ => x_iload_n rfl (rk_o (l17_3) rfl rfl)) ?_
        refine w_icmplt (t := 62) rfl rfl (show inr ((y17_0_1 - a1)) by omega) (show inr (a3) by omega) (fun b11 => ?_) (fun b11 => ?_)
        · refine Ew_of (pc' := 64) (fun _ => x_aload rfl (rk_o (l17_4) rfl rfl)) ?_
          refine v_g H (o := 1) (v := .ref (D6 3)) rfl rfl rfl rfl rfl (vrf (((hS_17 1 0 rfl)).trans (pf6_1_0))) ?_
          refine Ew_of (pc' := 69) (fun _ => x_aload rfl (rk_o (l17_4) rfl rfl)) ?_
          refine v_g H (o := 1) (v := I (u1_1)) rfl rfl rfl rfl rfl (congrArg (fun z : Int => I z) ((((hS_17 1 1 rfl).trans ((show F6 1 1 = F 1 1 from (eF6 1 1)))).trans (eu1_1)) : (updF F_17 0 1 ((y17_0_1 + 1))) 1 1 = u1_1)) ?_
          refine Ew_of (pc' := 74) (fun _ => x_iload rfl rk_s) ?_
          refine w_iadd rfl ?_
          refine Ew_of (pc' := 76) (fun _ => x_iload_n rfl (rk_o (l17_3) rfl rfl)) ?_
          refine w_isub rfl ?_
          refine v_lB H (o := 3) rfl rfl rfl rfl (n := n3) ((congrArg (fun q : Nat => (q : Int)) (show N6 3 = N 3 from (eN6 3))).trans (en3)) (show 0 ≤ ((u1_1 + (y17_0_1 - a1)) - a3) ∧ ((u1_1 + (y17_0_1 - a1)) - a3) < n3 by omega) (fun v12 ev12 qv12 => ?_)
          have ev12 : (w3) (((u1_1 + (y17_0_1 - a1)) - a3)) = v12 := (congrFun ((funext (hA_17 3 rfl)).trans (((show A6 3 = A 3 from (eA6 3))).trans (ew3))) (((u1_1 + (y17_0_1 - a1)) - a3))).symm.trans ev12
          have hv := ev12
          refine v_sB H (o := 2) rfl rfl rfl rfl (n := m6_1) ((congrArg (fun q : Nat => (q : Int)) (eN6 2)).trans em6_1) (show 0 ≤ y17_0_1 ∧ y17_0_1 < m6_1 by omega) (fun z13 σ qz13 uz13 H O' => ?_)
          have O := OUT_trans O O'
          have hus := uz13
          refine Ew_of (pc' := 82) (fun _ => x_iinc (len := 3) rfl (rk_o (l17_5) rfl rfl)) ?_
          refine Ew_of (pc' := 17) (fun _ => x_goto rfl rfl) ?_
          have : ∀ i, (0 : Int) ≤ i → i < (u0_1) → ((upd1 (w17_2) (y17_0_1) (z13))) i = ((w2)) i := fun i x y => (upd1_o (by omega)).trans (j17_s i x y)
          have : sc ((w3)) 0 ((u1_1)) ++ sc ((upd1 (w17_2) (y17_0_1) (z13))) ((a3)) (((y17_0_1 + 1))) = cpb (sc ((w3)) 0 ((u1_1)) ++ sc ((w2)) ((a3)) ((u0_1))) ((a1)) (((x17_5 + 1)) : Int).toNat := by first | exact CBK_hi j17_c (by omega) (by omega) (by omega) (by omega) (by omega) hv hus (by omega) (by omega) | exact CBK_lo j17_c (by omega) (by omega) (by omega) (by omega) (by omega) (by omega) (by omega) hv hus (by omega) (by omega)
          exact ih17 _ (by omega) _ _ _ _ ((x17_5 + 1)) (rk_o (rk_o (l17_0) rfl rfl) rfl rfl) (rk_o (rk_o (l17_1) rfl rfl) rfl rfl) (rk_o (rk_o (l17_2) rfl rfl) rfl rfl) (rk_o (rk_o (l17_3) rfl rfl) rfl rfl) (rk_o (rk_o (l17_4) rfl rfl) rfl rfl) (rk_s) H O (SF_upd (hS_17) rfl) (SA_upd (hA_17) rfl)   ((y17_0_1 + 1)) (rfl) (upd1 (w17_2) (y17_0_1) (z13)) (congrArg (fun q => upd1 q (y17_0_1) (z13)) (ew17_2)) (show inr ((x17_5 + 1)) by omega) (show (0) ≤ ((x17_5 + 1)) by omega) (show ((x17_5 + 1)) ≤ (0) ∨ ((x17_5 + 1)) ≤ ((a2)) by omega) (show ((y17_0_1 + 1)) = (u0_1) + ((x17_5 + 1)) by omega) (show (u0_1) + (a2) ≤ (m6_1) ∧ (m6_1) ≤ 65536 by omega) (show ∀ i, (0 : Int) ≤ i → i < (u0_1) → ((upd1 (w17_2) (y17_0_1) (z13))) i = ((w2)) i by assumption) (show sc ((w3)) 0 ((u1_1)) ++ sc ((upd1 (w17_2) (y17_0_1) (z13))) ((a3)) (((y17_0_1 + 1))) = cpb (sc ((w3)) 0 ((u1_1)) ++ sc ((w2)) ((a3)) ((u0_1))) ((a1)) (((x17_5 + 1)) : Int).toNat by assumption) rfl
        · refine Ew_of (pc' := 53) (fun _ => x_aload_n rfl (rk_o (l17_0) rfl rfl)) ?_
          refine v_g H (o := 0) (v := .ref (D6 2)) rfl rfl rfl rfl rfl (vrf (((hS_17 0 0 rfl)).trans (pf6_0_0))) ?_
          refine Ew_of (pc' := 58) (fun _ => x_iload rfl rk_s) ?_
          refine v_lB H (o := 2) rfl rfl rfl rfl (n := m6_1) ((congrArg (fun q : Nat => (q : Int)) (eN6 2)).trans em6_1) (show 0 ≤ (y17_0_1 - a1) ∧ (y17_0_1 - a1) < m6_1 by omega) (fun v14 ev14 qv14 => ?_)
          have ev14 : (w17_2) ((y17_0_1 - a1)) = v14 := (congrFun (ew17_2) ((y17_0_1 - a1))).symm.trans ev14
          refine Ew_of (pc' := 78) (fun _ => x_goto rfl rfl) ?_
          have hv := ev14
          refine v_sB H (o := 2) rfl rfl rfl rfl (n := m6_1) ((congrArg (fun q : Nat => (q : Int)) (eN6 2)).trans em6_1) (show 0 ≤ y17_0_1 ∧ y17_0_1 < m6_1 by omega) (fun z15 σ qz15 uz15 H O' => ?_)
          have O := OUT_trans O O'
          have hus := uz15
          refine Ew_of (pc' := 82) (fun _ => x_iinc (len := 3) rfl (rk_o (l17_5) rfl rfl)) ?_
          refine Ew_of (pc' := 17) (fun _ => x_goto rfl rfl) ?_
          have : ∀ i, (0 : Int) ≤ i → i < (u0_1) → ((upd1 (w17_2) (y17_0_1) (z15))) i = ((w2)) i := fun i x y => (upd1_o (by omega)).trans (j17_s i x y)
          have : sc ((w3)) 0 ((u1_1)) ++ sc ((upd1 (w17_2) (y17_0_1) (z15))) ((a3)) (((y17_0_1 + 1))) = cpb (sc ((w3)) 0 ((u1_1)) ++ sc ((w2)) ((a3)) ((u0_1))) ((a1)) (((x17_5 + 1)) : Int).toNat := by first | exact CBK_hi j17_c (by omega) (by omega) (by omega) (by omega) (by omega) hv hus (by omega) (by omega) | exact CBK_lo j17_c (by omega) (by omega) (by omega) (by omega) (by omega) (by omega) (by omega) hv hus (by omega) (by omega)
          exact ih17 _ (by omega) _ _ _ _ ((x17_5 + 1)) (rk_o (rk_o (l17_0) rfl rfl) rfl rfl) (rk_o (rk_o (l17_1) rfl rfl) rfl rfl) (rk_o (rk_o (l17_2) rfl rfl) rfl rfl) (rk_o (rk_o (l17_3) rfl rfl) rfl rfl) (rk_o (rk_o (l17_4) rfl rfl) rfl rfl) (rk_s) H O (SF_upd (hS_17) rfl) (SA_upd (hA_17) rfl)   ((y17_0_1 + 1)) (rfl) (upd1 (w17_2) (y17_0_1) (z15)) (congrArg (fun q => upd1 q (y17_0_1) (z15)) (ew17_2)) (show inr ((x17_5 + 1)) by omega) (show (0) ≤ ((x17_5 + 1)) by omega) (show ((x17_5 + 1)) ≤ (0) ∨ ((x17_5 + 1)) ≤ ((a2)) by omega) (show ((y17_0_1 + 1)) = (u0_1) + ((x17_5 + 1)) by omega) (show (u0_1) + (a2) ≤ (m6_1) ∧ (m6_1) ≤ 65536 by omega) (show ∀ i, (0 : Int) ≤ i → i < (u0_1) → ((upd1 (w17_2) (y17_0_1) (z15))) i = ((w2)) i by assumption) (show sc ((w3)) 0 ((u1_1)) ++ sc ((upd1 (w17_2) (y17_0_1) (z15))) ((a3)) (((y17_0_1 + 1))) = cpb (sc ((w3)) 0 ((u1_1)) ++ sc ((w2)) ((a3)) ((u0_1))) ((a1)) (((x17_5 + 1)) : Int).toNat by assumption) rfl
  · refine Ew_of (pc' := 9) (fun _ => x_aload_n rfl rfl) ?_
    refine Ew_of (pc' := 10) (fun _ => x_iconst rfl) ?_
    refine Ew_stk (show ([I (1), .ref (D 0)] : List Value) = [I (1), .ref (D6 0)] by rw [show D6 0 = D 0 from ((show D6 0 = D 0 from (eD6 0).trans (hD6 0 rfl)))]) ?_
    refine v_p H (o := 0) (z := 1) (v := I (1)) rfl rfl rfl rfl rfl rfl rfl (rfit_b (by omega)) (show (0 : Int) ≤ 1 ∧ 1 ≤ 1 by omega) (fun σ H O' => ?_)
    have O := OUT_trans O O'
    have : IMP ((0 : Int) ≤ (a2) ∧ (u0_1) + (a2) ≤ 65536) (sc ((w3)) 0 ((u1_1)) ++ sc ((w6_1)) ((a3)) ((u0_1)) = cpb (sc ((w3)) 0 ((u1_1)) ++ sc ((w2)) ((a3)) ((u0_1))) ((a1)) ((a2) : Int).toNat) := fun z => absurd z (by omega)
    have : ∀ i, (0 : Int) ≤ i → i < (u0_1) → ((w6_1)) i = ((w2)) i := hsr
    exact w_ret rfl (k _ _ _ _ _ _ _ H O (SD_trans (SD_refl) (SD_glu (ι := [0, 2]) hD6 eD6 (by decide +kernel)) (any_subA (l' := [2]) rfl)) (SD_trans (SD_refl) (SD_glu (ι := [0, 2]) hN6 eN6 (by decide +kernel)) (any_subA (l' := [2]) rfl)) (SF_upd (SF_trans (SF_refl) (SF_glu (ι := [0, 2]) hS6 eF6 (by decide +kernel)) (any_sub (l' := [(0, 0)]) rfl)) rfl) (SA_trans (SA_refl) (SA_glu (ι := [0, 2]) hA6 eA6 (by decide +kernel)) (any_subA (l' := [2]) rfl)) (pf6_0_0) (m6_1) ((congrArg (fun q : Nat => (q : Int)) (eN6 2)).trans em6_1) (u0_1) ((((show F6 0 1 = F 0 1 from (eF6 0 1).trans (hS6 0 1 rfl))).trans (eu0_1))) (1) (rfl) (w6_1) ((eA6 2).trans ew6_1) (show 0 ≤ (u0_1) ∧ (u0_1) ≤ (m6_1) ∧ (m6_1) ≤ 65536 by omega) (show (u0_1) = (u0_1) + a2 ∧ 0 ≤ a2 ∨ (u0_1) = (u0_1) ∧ (a2 < 0 ∨ 65536 < (u0_1) + a2) by omega) (show ∀ i, (0 : Int) ≤ i → i < (u0_1) → ((w6_1)) i = ((w2)) i by assumption) (show (1) = (u0_2) ∨ a2 < 0 ∨ 65536 < (u0_1) + a2 by omega) (show IMP ((0 : Int) ≤ a2 ∧ (u0_1) + a2 ≤ 65536) (sc ((w3)) 0 ((u1_1)) ++ sc ((w6_1)) (a3) ((u0_1)) = cpb (sc ((w3)) 0 ((u1_1)) ++ sc ((w2)) (a3) ((u0_1))) (a1) (a2 : Int).toNat) by assumption))
abbrev V163_thisa : vV := [(0, 7, [(4, 0), (0, 0), (1, 0), (0, 0), (0, 0)]), (1, 0, [])]
/-- Row.copyBack: this, this.bytes -/
theorem C163_thisa {σE : rS} {D N : Nat → Nat} {F : hF} {A : hA} {d c s : Nat} {Q : wQ} (H : HW V163_thisa σE D N F A) {a1 a2 a3 : Int} (pf1 : F 0 0 = (D 1 : Int)) (n1 : Int) (en1 : (N 1 : Int) = n1) (u0_1 : Int) (eu0_1 : F 0 1 = u0_1) (u0_2 : Int) (eu0_2 : F 0 2 = u0_2) (w1 : Int → Int) (ew1 : A 1 = w1) (h0 : inr (a1)) (h1 : inr (a2)) (h2 : inr (a3)) (h3 : 0 ≤ (u0_1) ∧ (u0_1) ≤ (n1) ∧ (n1) ≤ 65536) (h4 : 0 ≤ (a3) ∧ (a3) ≤ (u0_1)) (h5 : (a2) < 0 ∨ 1 ≤ (a1) ∧ (a1) ≤ (u0_1) - (a3)) (k : ∀ (σ : rS) (D' N' : Nat → Nat) (F' : hF) (A' : hA) (c' s' : Nat), HW V163_thisa σ D' N' F' A' → OUT (V163_thisa).length D N σE c s D' N' σ c' s' → SD [1] D D' → SD [1] N N' → SF [(0, 0), (0, 1), (0, 2)] F F' → SA [1] A A' → F' 0 0 = (D' 1 : Int) → ∀ m1 : Int, (N' 1 : Int) = m1 → ∀ y0_1 : Int, F' 0 1 = y0_1 → ∀ y0_2 : Int, F' 0 2 = y0_2 → ∀ v1 : Int → Int, A' 1 = v1 → (0 ≤ (y0_1) ∧ (y0_1) ≤ (m1) ∧ (m1) ≤ 65536) → ((y0_1) = (u0_1) + (a2) ∧ 0 ≤ (a2) ∨ (y0_1) = (u0_1) ∧ ((a2) < 0 ∨ 65536 < (u0_1) + (a2))) → (∀ i, (0 : Int) ≤ i → i < (u0_1) → ((v1)) i = ((w1)) i) → ((y0_2) = (u0_2) ∨ (a2) < 0 ∨ 65536 < (u0_1) + (a2)) → (IMP ((0 : Int) ≤ (a2) ∧ (u0_1) + (a2) ≤ 65536) (sc ((v1)) ((a3)) ((y0_1)) = cpb (sc ((w1)) ((a3)) ((u0_1))) ((a1)) ((a2) : Int).toNat)) → Q none σ c' s') : Ew 163 (d + 2) 0 (rargs 0 [.ref (D 0), I a1, I a2, I a3, .ref (D 0)]) [] σE c s Q := by
  have O := OUT_refl (n := (V163_thisa).length) (D := D) (N := N) (σ := σE) (c := c) (s := s)
  have HE := H
  have r1 : (-2147483648 : Int) ≤ u0_1 ∧ u0_1 ≤ 2147483647 := by have h1 : (-2147483648 : Int) ≤ F 0 1 ∧ F 0 1 ≤ 2147483647 := H.krg 0 1 (by decide); rw [show F 0 1 = u0_1 from (eu0_1)] at h1; exact h1
  have r2 : (0 : Int) ≤ u0_2 ∧ u0_2 ≤ 1 := by have h1 : (0 : Int) ≤ F 0 2 ∧ F 0 2 ≤ 1 := H.krg 0 2 (by decide); rw [show F 0 2 = u0_2 from (eu0_2)] at h1; exact h1
  have r3 : (0 : Int) ≤ n1 ∧ n1 ≤ 1000000 := by have h1 := H.nle 1 (by decide); have h2 : (N 1 : Int) = n1 := en1; omega
  refine Ew_of (pc' := 1) (fun _ => x_aload_n rfl rfl) ?_
  refine Ew_of (pc' := 2) (fun _ => x_iload_n rfl rfl) ?_
  refine v_inv H (o := 0) rfl rfl rfl rfl rfl rfl (by rfl) (C157 (D := pul [0, 1] D) (N := pul [0, 1] N) (HW_sub H (VS_of (show vsub V163_thisa V157 [0, 1] = true by decide +kernel))) (pf1) (n1) (en1) (u0_1) ((eu0_1)) (w1) (ew1) (show inr (a2) by omega) (show 0 ≤ (u0_1) ∧ (u0_1) ≤ (n1) ∧ (n1) ≤ 65536 by omega) (fun z4 σ4 D4' N4' F4' A4' c4 s4 H' O' hD4 hN4 hS4 hA4 pm4_1 m4_1 em4_1 w4_1 ew4_1 pz4_0 pz4_1 pz4_2 pz4_3 pz4_4 => ⟨rretB rfl pz4_0, ?_⟩))
  refine v_backM (c := c) (s := s) H (show vsub V163_thisa V157 [0, 1] = true by decide +kernel) H' O' hD4 (show vmov V163_thisa [0, 1] [1] = true by decide +kernel) (fun D4 N4 F4 A4 H O' eD4 eN4 eF4 eA4 => ?_)
  have O := OUT_trans O O'
  -- Row.reserve
  have pf4_0_0 : F4 0 0 = (D4 1 : Int) := (eF4 0 0).trans (pm4_1.trans (congrArg (fun q : Nat => (q : Int)) (eD4 1).symm))
  have r5 : (0 : Int) ≤ m4_1 ∧ m4_1 ≤ 1000000 := by have h1 := H.nle 1 (by decide); have h2 : (N4 1 : Int) = m4_1 := (congrArg (fun q : Nat => (q : Int)) (eN4 1)).trans em4_1; omega
  have hsr := pz4_4
  refine w_ifne (t := 14) rfl rfl (show inr (z4) by omega) (fun b6 => ?_) (fun b6 => ?_)
  · refine Ew_of (pc' := 15) (fun _ => x_iconst rfl) ?_
    refine Ew_of (pc' := 17) (fun _ => x_istore rfl) ?_
    have : ∀ i, (0 : Int) ≤ i → i < (u0_1) → ((w4_1)) i = ((w1)) i := hsr
    have : [] ++ sc ((w4_1)) ((a3)) ((u0_1)) = cpb ([] ++ sc ((w1)) ((a3)) ((u0_1))) ((a1)) (0 : Int).toNat := by rw [sc_same (g := (w1)) (fun i a b => hsr i (by omega) b)]; rfl
    suffices hl17 : ∀ (m : Nat), ∀ (ls : rO) (σ : rS) (F_17 : hF) (A_17 : hA) (x17_5 : Int), rlook ls 0 = some (.ref (D4 0)) → rlook ls 1 = some (I (a1)) → rlook ls 2 = some (I (a2)) → rlook ls 3 = some (I (a3)) → rlook ls 4 = some (.ref (D4 0)) → rlook ls 5 = some (I (x17_5)) → HW V163_thisa σ D4 N4 F_17 A_17 → OUT (V163_thisa).length D N σE c s D4 N4 σ (c + c4) (s + s4) → SF [(0, 1)] F4 F_17 → SA [1] A4 A_17 → ∀ y17_0_1 : Int, F_17 0 1 = y17_0_1 → ∀ w17_1 : Int → Int, A_17 1 = w17_1 → (inr (x17_5)) → ((0) ≤ (x17_5)) → ((x17_5) ≤ (0) ∨ (x17_5) ≤ ((a2))) → ((y17_0_1) = (u0_1) + (x17_5)) → ((u0_1) + (a2) ≤ (m4_1) ∧ (m4_1) ≤ 65536) → (∀ i, (0 : Int) ≤ i → i < (u0_1) → ((w17_1)) i = ((w1)) i) → ([] ++ sc ((w17_1)) ((a3)) ((y17_0_1)) = cpb ([] ++ sc ((w1)) ((a3)) ((u0_1))) ((a1)) ((x17_5) : Int).toNat) → (((a2)) - (x17_5)).toNat = m → Ew 163 (d + 2) 17 ls [] σ (c + c4) (s + s4) Q from
      hl17 _ _ _ _ _ (0) ((rk_o (rfl) rfl rfl).trans (congrArg (fun q : Nat => some (Value.ref q)) (((show D4 0 = D 0 from (eD4 0).trans (hD4 0 rfl)))).symm)) (rk_o (rfl) rfl rfl) (rk_o (rfl) rfl rfl) (rk_o (rfl) rfl rfl) ((rk_o (rfl) rfl rfl).trans (congrArg (fun q : Nat => some (Value.ref q)) (((show D4 0 = D 0 from (eD4 0).trans (hD4 0 rfl)))).symm)) (rk_s) H O (SF_refl) (SA_refl)   (u0_1) ((((show F4 0 1 = F 0 1 from (eF4 0 1).trans (hS4 0 1 rfl))).trans (eu0_1))) (w4_1) ((eA4 1).trans ew4_1) (show inr (0) by omega) (show (0) ≤ (0) by omega) (show (0) ≤ (0) ∨ (0) ≤ ((a2)) by omega) (show (u0_1) = (u0_1) + (0) by omega) (show (u0_1) + (a2) ≤ (m4_1) ∧ (m4_1) ≤ 65536 by omega) (show ∀ i, (0 : Int) ≤ i → i < (u0_1) → ((w4_1)) i = ((w1)) i by assumption) (show [] ++ sc ((w4_1)) ((a3)) ((u0_1)) = cpb ([] ++ sc ((w1)) ((a3)) ((u0_1))) ((a1)) ((0) : Int).toNat by assumption) rfl
    as_aux_lemma =>
    intro m
    induction m using Nat.strongRecOn with
    | _ m ih17 =>
      intro ls σ F_17 A_17 x17_5 l17_0 l17_1 l17_2 l17_3 l17_4 l17_5 H O hS_17 hA_17   y17_0_1 ey17_0_1 w17_1 ew17_1 j17_0 j17_1 j17_2 j17_3 j17_4 j17_5 j17_6 hm17
      have r7 : (-2147483648 : Int) ≤ y17_0_1 ∧ y17_0_1 ≤ 2147483647 := by have h1 : (-2147483648 : Int) ≤ F_17 0 1 ∧ F_17 0 1 ≤ 2147483647 := H.krg 0 1 (by decide); rw [show F_17 0 1 = y17_0_1 from (ey17_0_1)] at h1; exact h1
      have j17_s : ∀ i, (0 : Int) ≤ i → i < (u0_1) → ((w17_1)) i = ((w1)) i := by assumption
      have j17_c : [] ++ sc ((w17_1)) ((a3)) ((y17_0_1)) = cpb ([] ++ sc ((w1)) ((a3)) ((u0_1))) ((a1)) ((x17_5) : Int).toNat := by assumption
      refine Ew_of (pc' := 19) (fun _ => x_iload rfl l17_5) ?_
      refine Ew_of (pc' := 20) (fun _ => x_iload_n rfl l17_2) ?_
      refine w_icmpge (t := 85) rfl rfl (show inr (x17_5) by omega) (show inr (a2) by omega) (fun b8 => ?_) (fun b8 => ?_)
      · have : IMP ((0 : Int) ≤ (a2) ∧ (u0_1) + (a2) ≤ 65536) (sc ((w17_1)) ((a3)) ((y17_0_1)) = cpb (sc ((w1)) ((a3)) ((u0_1))) ((a1)) ((a2) : Int).toNat) := fun _ => by rw [show (a2) = (x17_5) by omega]; exact j17_c
        exact w_ret rfl (k _ _ _ _ _ _ _ H O (SD_trans (SD_refl) (SD_glu (ι := [0, 1]) hD4 eD4 (by decide +kernel)) (any_subA (l' := [1]) rfl)) (SD_trans (SD_refl) (SD_glu (ι := [0, 1]) hN4 eN4 (by decide +kernel)) (any_subA (l' := [1]) rfl)) (SF_trans (SF_trans (SF_refl) (SF_glu (ι := [0, 1]) hS4 eF4 (by decide +kernel)) (any_sub (l' := [(0, 0)]) rfl)) hS_17 (any_sub rfl)) (SA_trans (SA_trans (SA_refl) (SA_glu (ι := [0, 1]) hA4 eA4 (by decide +kernel)) (any_subA (l' := [1]) rfl)) hA_17 (any_subA rfl)) (((hS_17 0 0 rfl)).trans (pf4_0_0)) (m4_1) ((congrArg (fun q : Nat => (q : Int)) (eN4 1)).trans em4_1) (y17_0_1) ((ey17_0_1)) (u0_2) ((((hS_17 0 2 rfl).trans ((show F4 0 2 = F 0 2 from (eF4 0 2).trans (hS4 0 2 rfl)))).trans (eu0_2))) (w17_1) (ew17_1) (show 0 ≤ (y17_0_1) ∧ (y17_0_1) ≤ (m4_1) ∧ (m4_1) ≤ 65536 by omega) (show (y17_0_1) = (u0_1) + a2 ∧ 0 ≤ a2 ∨ (y17_0_1) = (u0_1) ∧ (a2 < 0 ∨ 65536 < (u0_1) + a2) by omega) (show ∀ i, (0 : Int) ≤ i → i < (u0_1) → ((w17_1)) i = ((w1)) i by assumption) (show (u0_2) = (u0_2) ∨ a2 < 0 ∨ 65536 < (u0_1) + a2 by omega) (show IMP ((0 : Int) ≤ a2 ∧ (u0_1) + a2 ≤ 65536) (sc ((w17_1)) (a3) ((y17_0_1)) = cpb (sc ((w1)) (a3) ((u0_1))) (a1) (a2 : Int).toNat) by assumption))
      · refine Ew_of (pc' := 24) (fun _ => x_aload_n rfl l17_0) ?_
        refine v_g H (o := 0) (v := I (y17_0_1)) rfl rfl rfl rfl rfl (congrArg (fun z : Int => I z) ((ey17_0_1) : F_17 0 1 = y17_0_1)) ?_
        refine Ew_of (pc' := 28) (fun _ => x_iload_n rfl l17_1) ?_
        refine w_isub rfl ?_
        refine Ew_of (pc' := 31) (fun _ => x_istore rfl) ?_
        refine Ew_of (pc' := 32) (fun _ => x_aload_n rfl (rk_o (l17_0) rfl rfl)) ?_
        refine v_g H (o := 0) (v := .ref (D4 1)) rfl rfl rfl rfl rfl (vrf (((hS_17 0 0 rfl)).trans (pf4_0_0))) ?_
        refine Ew_of (pc' := 36) (fun _ => x_aload_n rfl (rk_o (l17_0) rfl rfl)) ?_
        refine Ew_of (pc' := 37) (fun _ => x_dup rfl rfl) ?_
        refine v_g H (o := 0) (v := I (y17_0_1)) rfl rfl rfl rfl rfl (congrArg (fun z : Int => I z) ((ey17_0_1) : F_17 0 1 = y17_0_1)) ?_
        refine Ew_of (pc' := 41) (fun _ => x_dup_x1 rfl rfl) ?_
        refine Ew_of (pc' := 42) (fun _ => x_iconst rfl) ?_
        refine w_iadd rfl ?_
        refine v_p H (o := 0) (z := (y17_0_1 + 1)) (v := I ((y17_0_1 + 1))) rfl rfl rfl rfl rfl rfl rfl rfl (show (-2147483648 : Int) ≤ (y17_0_1 + 1) ∧ (y17_0_1 + 1) ≤ 2147483647 by omega) (fun σ H O' => ?_)
        have O := OUT_trans O O'
        refine Ew_of (pc' := 48) (fun _ => x_iload rfl rk_s) ?_
        refine Ew_of (pc' := 49) (fun _ => x_iload_n rfl (rk_o (l17_3) rfl rfl)) ?_
        refine w_icmplt (t := 62) rfl rfl (show inr ((y17_0_1 - a1)) by omega) (show inr (a3) by omega) (fun b9 => ?_) (fun b9 => ?_)
        · exfalso
          omega
        · refine Ew_of (pc' := 53) (fun _ => x_aload_n rfl (rk_o (l17_0) rfl rfl)) ?_
          refine v_g H (o := 0) (v := .ref (D4 1)) rfl rfl rfl rfl rfl (vrf (((hS_17 0 0 rfl)).trans (pf4_0_0))) ?_
          refine Ew_of (pc' := 58) (fun _ => x_iload rfl rk_s) ?_
          refine v_lB H (o := 1) rfl rfl rfl rfl (n := m4_1) ((congrArg (fun q : Nat => (q : Int)) (eN4 1)).trans em4_1) (show 0 ≤ (y17_0_1 - a1) ∧ (y17_0_1 - a1) < m4_1 by omega) (fun v10 ev10 qv10 => ?_)
          have ev10 : (w17_1) ((y17_0_1 - a1)) = v10 := (congrFun (ew17_1) ((y17_0_1 - a1))).symm.trans ev10
          refine Ew_of (pc' := 78) (fun _ => x_goto rfl rfl) ?_
          have hv := ev10
          refine v_sB H (o := 1) rfl rfl rfl rfl (n := m4_1) ((congrArg (fun q : Nat => (q : Int)) (eN4 1)).trans em4_1) (show 0 ≤ y17_0_1 ∧ y17_0_1 < m4_1 by omega) (fun z11 σ qz11 uz11 H O' => ?_)
          have O := OUT_trans O O'
          have hus := uz11
          refine Ew_of (pc' := 82) (fun _ => x_iinc (len := 3) rfl (rk_o (l17_5) rfl rfl)) ?_
          refine Ew_of (pc' := 17) (fun _ => x_goto rfl rfl) ?_
          have : ∀ i, (0 : Int) ≤ i → i < (u0_1) → ((upd1 (w17_1) (y17_0_1) (z11))) i = ((w1)) i := fun i x y => (upd1_o (by omega)).trans (j17_s i x y)
          have : [] ++ sc ((upd1 (w17_1) (y17_0_1) (z11))) ((a3)) (((y17_0_1 + 1))) = cpb ([] ++ sc ((w1)) ((a3)) ((u0_1))) ((a1)) (((x17_5 + 1)) : Int).toNat := CBK_hi j17_c (by omega) (by omega) (by omega) (by omega) (by omega) hv hus (by omega) (by omega)
          exact ih17 _ (by omega) _ _ _ _ ((x17_5 + 1)) (rk_o (rk_o (l17_0) rfl rfl) rfl rfl) (rk_o (rk_o (l17_1) rfl rfl) rfl rfl) (rk_o (rk_o (l17_2) rfl rfl) rfl rfl) (rk_o (rk_o (l17_3) rfl rfl) rfl rfl) (rk_o (rk_o (l17_4) rfl rfl) rfl rfl) (rk_s) H O (SF_upd (hS_17) rfl) (SA_upd (hA_17) rfl)   ((y17_0_1 + 1)) (rfl) (upd1 (w17_1) (y17_0_1) (z11)) (congrArg (fun q => upd1 q (y17_0_1) (z11)) (ew17_1)) (show inr ((x17_5 + 1)) by omega) (show (0) ≤ ((x17_5 + 1)) by omega) (show ((x17_5 + 1)) ≤ (0) ∨ ((x17_5 + 1)) ≤ ((a2)) by omega) (show ((y17_0_1 + 1)) = (u0_1) + ((x17_5 + 1)) by omega) (show (u0_1) + (a2) ≤ (m4_1) ∧ (m4_1) ≤ 65536 by omega) (show ∀ i, (0 : Int) ≤ i → i < (u0_1) → ((upd1 (w17_1) (y17_0_1) (z11))) i = ((w1)) i by assumption) (show [] ++ sc ((upd1 (w17_1) (y17_0_1) (z11))) ((a3)) (((y17_0_1 + 1))) = cpb ([] ++ sc ((w1)) ((a3)) ((u0_1))) ((a1)) (((x17_5 + 1)) : Int).toNat by assumption) rfl
  · refine Ew_of (pc' := 9) (fun _ => x_aload_n rfl rfl) ?_
    refine Ew_of (pc' := 10) (fun _ => x_iconst rfl) ?_
    refine Ew_stk (show ([I (1), .ref (D 0)] : List Value) = [I (1), .ref (D4 0)] by rw [show D4 0 = D 0 from ((show D4 0 = D 0 from (eD4 0).trans (hD4 0 rfl)))]) ?_
    refine v_p H (o := 0) (z := 1) (v := I (1)) rfl rfl rfl rfl rfl rfl rfl (rfit_b (by omega)) (show (0 : Int) ≤ 1 ∧ 1 ≤ 1 by omega) (fun σ H O' => ?_)
    have O := OUT_trans O O'
    have : IMP ((0 : Int) ≤ (a2) ∧ (u0_1) + (a2) ≤ 65536) (sc ((w4_1)) ((a3)) ((u0_1)) = cpb (sc ((w1)) ((a3)) ((u0_1))) ((a1)) ((a2) : Int).toNat) := fun z => absurd z (by omega)
    have : ∀ i, (0 : Int) ≤ i → i < (u0_1) → ((w4_1)) i = ((w1)) i := hsr
    exact w_ret rfl (k _ _ _ _ _ _ _ H O (SD_trans (SD_refl) (SD_glu (ι := [0, 1]) hD4 eD4 (by decide +kernel)) (any_subA (l' := [1]) rfl)) (SD_trans (SD_refl) (SD_glu (ι := [0, 1]) hN4 eN4 (by decide +kernel)) (any_subA (l' := [1]) rfl)) (SF_upd (SF_trans (SF_refl) (SF_glu (ι := [0, 1]) hS4 eF4 (by decide +kernel)) (any_sub (l' := [(0, 0)]) rfl)) rfl) (SA_trans (SA_refl) (SA_glu (ι := [0, 1]) hA4 eA4 (by decide +kernel)) (any_subA (l' := [1]) rfl)) (pf4_0_0) (m4_1) ((congrArg (fun q : Nat => (q : Int)) (eN4 1)).trans em4_1) (u0_1) ((((show F4 0 1 = F 0 1 from (eF4 0 1).trans (hS4 0 1 rfl))).trans (eu0_1))) (1) (rfl) (w4_1) ((eA4 1).trans ew4_1) (show 0 ≤ (u0_1) ∧ (u0_1) ≤ (m4_1) ∧ (m4_1) ≤ 65536 by omega) (show (u0_1) = (u0_1) + a2 ∧ 0 ≤ a2 ∨ (u0_1) = (u0_1) ∧ (a2 < 0 ∨ 65536 < (u0_1) + a2) by omega) (show ∀ i, (0 : Int) ≤ i → i < (u0_1) → ((w4_1)) i = ((w1)) i by assumption) (show (1) = (u0_2) ∨ a2 < 0 ∨ 65536 < (u0_1) + a2 by omega) (show IMP ((0 : Int) ≤ a2 ∧ (u0_1) + a2 ≤ 65536) (sc ((w4_1)) (a3) ((u0_1)) = cpb (sc ((w1)) (a3) ((u0_1))) (a1) (a2 : Int).toNat) by assumption))
abbrev V158_Row : vV := [(0, 7, [(4, 0), (0, 0), (1, 0), (0, 0), (0, 0)]), (0, 7, [(4, 0), (0, 0), (1, 0), (0, 0), (0, 0)]), (1, 0, []), (1, 0, [])]
/-- Row.become: this, #1, this.bytes, #1.bytes -/
theorem C158_Row {σE : rS} {D N : Nat → Nat} {F : hF} {A : hA} {d c s : Nat} {Q : wQ} (H : HW V158_Row σE D N F A)  (pf2 : F 0 0 = (D 2 : Int)) (pf3 : F 1 0 = (D 3 : Int)) (n2 : Int) (en2 : (N 2 : Int) = n2) (n3 : Int) (en3 : (N 3 : Int) = n3) (u0_1 : Int) (eu0_1 : F 0 1 = u0_1) (u0_2 : Int) (eu0_2 : F 0 2 = u0_2) (u1_1 : Int) (eu1_1 : F 1 1 = u1_1) (w2 : Int → Int) (ew2 : A 2 = w2) (w3 : Int → Int) (ew3 : A 3 = w3) (h0 : 0 ≤ (u0_1) ∧ (u0_1) ≤ (n2) ∧ (n2) ≤ 65536) (h1 : 0 ≤ (u1_1) ∧ (u1_1) ≤ (n3) ∧ (n3) ≤ 65536) (k : ∀ (σ : rS) (D' N' : Nat → Nat) (F' : hF) (A' : hA) (c' s' : Nat), HW V158_Row σ D' N' F' A' → OUT (V158_Row).length D N σE c s D' N' σ c' s' → SD [2] D D' → SD [2] N N' → SF [(0, 0), (0, 1), (0, 2), (0, 3), (0, 4)] F F' → SA [2] A A' → F' 0 0 = (D' 2 : Int) → ∀ m2 : Int, (N' 2 : Int) = m2 → ∀ y0_1 : Int, F' 0 1 = y0_1 → ∀ y0_2 : Int, F' 0 2 = y0_2 → ∀ v2 : Int → Int, A' 2 = v2 → (0 ≤ (y0_1) ∧ (y0_1) ≤ (m2) ∧ (m2) ≤ 65536) → ((y0_1) = (u1_1)) → ((y0_2) = 0) → (sc ((v2)) 0 ((y0_1)) = sc ((w3)) 0 ((u1_1))) → Q none σ c' s') : Ew 158 (d + 3) 0 (rargs 0 [.ref (D 0), .ref (D 1)]) [] σE c s Q := by
  have O := OUT_refl (n := (V158_Row).length) (D := D) (N := N) (σ := σE) (c := c) (s := s)
  have HE := H
  have r1 : (-2147483648 : Int) ≤ u0_1 ∧ u0_1 ≤ 2147483647 := by have h1 : (-2147483648 : Int) ≤ F 0 1 ∧ F 0 1 ≤ 2147483647 := H.krg 0 1 (by decide); rw [show F 0 1 = u0_1 from (eu0_1)] at h1; exact h1
  have r2 : (0 : Int) ≤ u0_2 ∧ u0_2 ≤ 1 := by have h1 : (0 : Int) ≤ F 0 2 ∧ F 0 2 ≤ 1 := H.krg 0 2 (by decide); rw [show F 0 2 = u0_2 from (eu0_2)] at h1; exact h1
  have r3 : (-2147483648 : Int) ≤ u1_1 ∧ u1_1 ≤ 2147483647 := by have h1 : (-2147483648 : Int) ≤ F 1 1 ∧ F 1 1 ≤ 2147483647 := H.krg 1 1 (by decide); rw [show F 1 1 = u1_1 from (eu1_1)] at h1; exact h1
  have r4 : (0 : Int) ≤ n2 ∧ n2 ≤ 1000000 := by have h1 := H.nle 2 (by decide); have h2 : (N 2 : Int) = n2 := en2; omega
  have r5 : (0 : Int) ≤ n3 ∧ n3 ≤ 1000000 := by have h1 := H.nle 3 (by decide); have h2 : (N 3 : Int) = n3 := en3; omega
  refine Ew_of (pc' := 1) (fun _ => x_aload_n rfl rfl) ?_
  have r6 : (-2147483648 : Int) ≤ F 0 3 ∧ F 0 3 ≤ 2147483647 := by have h1 : (-2147483648 : Int) ≤ F 0 3 ∧ F 0 3 ≤ 2147483647 := H.krg 0 3 (by decide); rw [show F 0 3 = F 0 3 from rfl] at h1; exact h1
  have r7 : (-2147483648 : Int) ≤ F 0 4 ∧ F 0 4 ≤ 2147483647 := by have h1 : (-2147483648 : Int) ≤ F 0 4 ∧ F 0 4 ≤ 2147483647 := H.krg 0 4 (by decide); rw [show F 0 4 = F 0 4 from rfl] at h1; exact h1
  refine v_inv H (o := 0) rfl rfl rfl rfl rfl rfl (by rfl) (C156 (D := pul [0] D) (N := pul [0] N) (HW_sub H (VS_of (show vsub V158_Row V156 [0] = true by decide +kernel))) (u0_1) ((eu0_1)) (u0_2) ((eu0_2)) (F 0 3) (rfl) (F 0 4) (rfl)  (fun σ8 F8' A8' H' O' hS8 hA8 y8_0_1 ey8_0_1 y8_0_2 ey8_0_2 y8_0_3 ey8_0_3 y8_0_4 ey8_0_4 pz8_0 pz8_1 pz8_2 => ⟨rfl, ?_⟩))
  refine v_back (c := c) (s := s) H (show vsub V158_Row V156 [0] = true by decide +kernel) H' O' (fun F8 A8 H O' eF8 eA8 => ?_)
  have O := OUT_trans O O'
  -- Row.clear
  have r9 : (-2147483648 : Int) ≤ y8_0_1 ∧ y8_0_1 ≤ 2147483647 := by have h1 : (-2147483648 : Int) ≤ F8 0 1 ∧ F8 0 1 ≤ 2147483647 := H.krg 0 1 (by decide); rw [show F8 0 1 = y8_0_1 from ((eF8 0 1).trans ey8_0_1)] at h1; exact h1
  have r10 : (0 : Int) ≤ y8_0_2 ∧ y8_0_2 ≤ 1 := by have h1 : (0 : Int) ≤ F8 0 2 ∧ F8 0 2 ≤ 1 := H.krg 0 2 (by decide); rw [show F8 0 2 = y8_0_2 from ((eF8 0 2).trans ey8_0_2)] at h1; exact h1
  have r11 : (-2147483648 : Int) ≤ y8_0_3 ∧ y8_0_3 ≤ 2147483647 := by have h1 : (-2147483648 : Int) ≤ F8 0 3 ∧ F8 0 3 ≤ 2147483647 := H.krg 0 3 (by decide); rw [show F8 0 3 = y8_0_3 from ((eF8 0 3).trans ey8_0_3)] at h1; exact h1
  have r12 : (-2147483648 : Int) ≤ y8_0_4 ∧ y8_0_4 ≤ 2147483647 := by have h1 : (-2147483648 : Int) ≤ F8 0 4 ∧ F8 0 4 ≤ 2147483647 := H.krg 0 4 (by decide); rw [show F8 0 4 = y8_0_4 from ((eF8 0 4).trans ey8_0_4)] at h1; exact h1
  refine Ew_of (pc' := 5) (fun _ => x_aload_n rfl rfl) ?_
  refine Ew_of (pc' := 6) (fun _ => x_aload_n rfl rfl) ?_
  refine v_g H (o := 1) (v := .ref (D 3)) rfl rfl rfl rfl rfl (vrf ((((show F8 1 0 = F 1 0 from (eF8 1 0)))).trans (pf3))) ?_
  refine Ew_of (pc' := 10) (fun _ => x_iconst rfl) ?_
  refine Ew_of (pc' := 11) (fun _ => x_aload_n rfl rfl) ?_
  refine v_g H (o := 1) (v := I (u1_1)) rfl rfl rfl rfl rfl (congrArg (fun z : Int => I z) ((((show F8 1 1 = F 1 1 from (eF8 1 1))).trans (eu1_1)) : F8 1 1 = u1_1)) ?_
  refine v_inv H (o := 0) rfl rfl rfl rfl rfl rfl (by rfl) (C161_Br (D := pul [0, 3, 2] D) (N := pul [0, 3, 2] N) (HW_sub H (VS_of (show vsub V158_Row V161_Br [0, 3, 2] = true by decide +kernel))) ((((show F8 0 0 = F 0 0 from (eF8 0 0).trans (hS8 0 0 rfl)))).trans (pf2)) (n3) (en3) (n2) (en2) (y8_0_1) (((eF8 0 1).trans ey8_0_1)) (y8_0_2) (((eF8 0 2).trans ey8_0_2)) (w3) (((show A8 3 = A 3 from (eA8 3))).trans (ew3)) (w2) (((show A8 2 = A 2 from (eA8 2))).trans (ew2)) (show inr (0) by omega) (show inr (u1_1) by omega) (show 0 ≤ (y8_0_1) ∧ (y8_0_1) ≤ (n2) ∧ (n2) ≤ 65536 by omega) (show (u1_1) < 0 ∨ 0 ≤ (0) ∧ (0) + (u1_1) ≤ (n3) by omega) (fun σ13 D13' N13' F13' A13' c13 s13 H' O' hD13 hN13 hS13 hA13 pm13_2 m13_2 em13_2 y13_0_1 ey13_0_1 y13_0_2 ey13_0_2 w13_2 ew13_2 pz13_0 pz13_1 pz13_2 pz13_3 => ⟨rfl, ?_⟩))
  refine v_backM (c := c) (s := s) H (show vsub V158_Row V161_Br [0, 3, 2] = true by decide +kernel) H' O' hD13 (show vmov V158_Row [0, 3, 2] [2] = true by decide +kernel) (fun D13 N13 F13 A13 H O' eD13 eN13 eF13 eA13 => ?_)
  have O := OUT_trans O O'
  -- Row.addPart
  have pf13_0_0 : F13 0 0 = (D13 2 : Int) := (eF13 0 0).trans (pm13_2.trans (congrArg (fun q : Nat => (q : Int)) (eD13 2).symm))
  have pf13_1_0 : F13 1 0 = (D13 3 : Int) := ((show F13 1 0 = F8 1 0 from (eF13 1 0))).trans (((((show F8 1 0 = F 1 0 from (eF8 1 0)))).trans (pf3)).trans (congrArg (fun q : Nat => (q : Int)) ((show D13 3 = D 3 from (eD13 3).trans (hD13 1 rfl))).symm))
  have r14 : (0 : Int) ≤ m13_2 ∧ m13_2 ≤ 1000000 := by have h1 := H.nle 2 (by decide); have h2 : (N13 2 : Int) = m13_2 := (congrArg (fun q : Nat => (q : Int)) (eN13 2)).trans em13_2; omega
  have r15 : (-2147483648 : Int) ≤ y13_0_1 ∧ y13_0_1 ≤ 2147483647 := by have h1 : (-2147483648 : Int) ≤ F13 0 1 ∧ F13 0 1 ≤ 2147483647 := H.krg 0 1 (by decide); rw [show F13 0 1 = y13_0_1 from ((eF13 0 1).trans ey13_0_1)] at h1; exact h1
  have r16 : (0 : Int) ≤ y13_0_2 ∧ y13_0_2 ≤ 1 := by have h1 : (0 : Int) ≤ F13 0 2 ∧ F13 0 2 ≤ 1 := H.krg 0 2 (by decide); rw [show F13 0 2 = y13_0_2 from ((eF13 0 2).trans ey13_0_2)] at h1; exact h1
  have hbc := BEC (pz13_3 (by omega)) pz8_1 pz8_0 (by rw [sc_lenI (by omega)]; omega)
  have hb0 := hbc.1
  have : sc ((w13_2)) 0 ((y13_0_1)) = sc ((w3)) 0 ((u1_1)) := by rw [hbc.2, Int.zero_add]
  exact w_ret rfl (k _ _ _ _ _ _ _ H O (SD_trans (SD_refl) (SD_glu (ι := [0, 3, 2]) hD13 eD13 (by decide +kernel)) (any_subA (l' := [2]) rfl)) (SD_trans (SD_refl) (SD_glu (ι := [0, 3, 2]) hN13 eN13 (by decide +kernel)) (any_subA (l' := [2]) rfl)) (SF_trans (SF_trans (SF_refl) (SF_glu (ι := [0]) hS8 eF8 (by decide +kernel)) (any_sub (l' := [(0, 1), (0, 2), (0, 3), (0, 4)]) rfl)) (SF_glu (ι := [0, 3, 2]) hS13 eF13 (by decide +kernel)) (any_sub (l' := [(0, 0), (0, 1), (0, 2)]) rfl)) (SA_trans (SA_trans (SA_refl) (SA_glu (ι := [0]) hA8 eA8 (by decide +kernel)) (any_subA (l' := []) rfl)) (SA_glu (ι := [0, 3, 2]) hA13 eA13 (by decide +kernel)) (any_subA (l' := [2]) rfl)) (pf13_0_0) (m13_2) ((congrArg (fun q : Nat => (q : Int)) (eN13 2)).trans em13_2) (y13_0_1) (((eF13 0 1).trans ey13_0_1)) (y13_0_2) (((eF13 0 2).trans ey13_0_2)) (w13_2) ((eA13 2).trans ew13_2) (show 0 ≤ (y13_0_1) ∧ (y13_0_1) ≤ (m13_2) ∧ (m13_2) ≤ 65536 by omega) (show (y13_0_1) = (u1_1) by omega) (show (y13_0_2) = 0 by omega) (show sc ((w13_2)) 0 ((y13_0_1)) = sc ((w3)) 0 ((u1_1)) by assumption))
