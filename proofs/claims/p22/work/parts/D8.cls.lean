abbrev V161_S0 : vV := [(0, 7, [(4, 0), (0, 0), (1, 0), (0, 0), (0, 0)]), (1, 0, [])]
theorem len_V161_S0_oz_D8cls : (V161_S0).length = 2 := by decide +kernel
theorem oz_D8cls_1 : vsub V161_S0 V157 [0, 1] = true := by decide +kernel
theorem oz_D8cls_2 : vmov V161_S0 [0, 1] [1] = true := by decide +kernel
def oz_D8clsl_0 : List (Nat × Nat) := [(0, 0), (0, 1), (0, 2)]
theorem oz_D8cls_3 : (oz_D8clsl_0).all (fun p => !tbz 7 (Nat.add (Nat.mul 32 p.1) p.2)) = true := by decide +kernel
def oz_D8clsl_1 : List Nat := [1]
theorem oz_D8cls_4 : (oz_D8clsl_1).all (fun p => !tbz 2 p) = true := by decide +kernel
def oz_D8clsl_2 : List Nat := [0, 1]
theorem oz_D8cls_5 : okc oz_D8clsl_2 512 = true := by decide +kernel
/-- Row.addPart: this, this.bytes -/
theorem C161_S0 {σE : rS} {D N : Nat → Nat} {F : hF} {A : hA} {d c s : Nat} {Q : wQ} (H : HW V161_S0 σE D N F A) (HT : STC σE) {a2 a3 : Int} (pf1 : F 0 0 = (D 1 : Int)) (n1 : Int) (en1 : (N 1 : Int) = n1) (u0_1 : Int) (eu0_1 : F 0 1 = u0_1) (w1 : Int → Int) (ew1 : A 1 = w1) (h0 : inr (a2)) (h1 : inr (a3)) (h2 : 0 ≤ (u0_1) ∧ (u0_1) ≤ (n1) ∧ (n1) ≤ 65536) (h3 : (a3) < 0 ∨ 0 ≤ (a2) ∧ (a2) + (a3) ≤ 10) (k : ∀ (σ : rS) (Dₚ Nₚ : Nat → Nat) (Fₚ : hF) (Aₚ : hA) (cₚ sₚ : Nat), HW V161_S0 σ Dₚ Nₚ Fₚ Aₚ → OUT (V161_S0).length D N σE c s Dₚ Nₚ σ cₚ sₚ → SD [1] D Dₚ → SD [1] N Nₚ → SF [(0, 0), (0, 1), (0, 2)] F Fₚ → SA [1] A Aₚ → Fₚ 0 0 = (Dₚ 1 : Int) → ∀ m1 : Int, (Nₚ 1 : Int) = m1 → ∀ y0_1 : Int, Fₚ 0 1 = y0_1 → ∀ v1 : Int → Int, Aₚ 1 = v1 → (0 ≤ (y0_1) ∧ (y0_1) ≤ (m1) ∧ (m1) ≤ 65536) → ((y0_1) = (u0_1) + (a3) ∧ 0 ≤ (a3) ∨ (y0_1) = (u0_1) ∧ ((a3) < 0 ∨ 65536 < (u0_1) + (a3))) → (∀ i, (0 : Int) ≤ i → i < (u0_1) → ((v1)) i = ((w1)) i) → Q none σ cₚ sₚ) : Ew 161 (d + 2) 0 (rargs 0 [.ref (D 0), .ref 0, I a2, I a3]) [] σE c s Q := by
  have O := OUT_refl (n := (V161_S0).length) (D := D) (N := N) (σ := σE) (c := c) (s := s)
  have HE := H
  have r1 : (-2147483648 : Int) ≤ u0_1 ∧ u0_1 ≤ 2147483647 := rngE (show (-2147483648 : Int) ≤ F 0 1 ∧ F 0 1 ≤ 2147483647 from H.krg 0 1 (ltn len_V161_S0_oz_D8cls rfl)) (show F 0 1 = u0_1 from (eu0_1))
  have r2 : (0 : Int) ≤ n1 ∧ n1 ≤ 1000000 := nleE (H.nle 1 (ltn len_V161_S0_oz_D8cls rfl)) (show (N 1 : Int) = n1 from en1)
  refine Ew_of (pcₚ := 1) (fun _ => x_aload_n rfl rfl) ?_
  refine Ew_of (pcₚ := 2) (fun _ => x_iload_n rfl rfl) ?_
  refine v_inv H (o := 0) rfl rfl rfl rfl rfl rfl (by rfl) (C157 (D := puc 512 D) (N := puc 512 N) (HW_subc H oz_D8cls_1 oz_D8cls_5) (pf1) (n1) (en1) (u0_1) ((eu0_1)) (w1) (ew1) (show inr (a3) from h1) (show 0 ≤ (u0_1) ∧ (u0_1) ≤ (n1) ∧ (n1) ≤ 65536 from h2) (fun z3 σ3 D3ₚ N3ₚ F3ₚ A3ₚ c3 s3 Hₚ Oₚ hD3 hN3 hS3 hA3 pm3_1 m3_1 em3_1 w3_1 ew3_1 pz3_0 pz3_1 pz3_2 pz3_3 pz3_4 => ⟨rretB rfl pz3_0, ?_⟩))
  refine v_backMc (c := c) (s := s) H oz_D8cls_1 oz_D8cls_5 Hₚ Oₚ hD3 oz_D8cls_2 (fun D3 N3 F3 A3 H Oₚ eD3 eN3 eF3 eA3 => ?_)
  have O := OUT_trans O Oₚ
  -- Row.reserve
  have cF3 : SF oz_D8clsl_0 F F3 := SF_trans (SF_refl) (SF_gluc (ι := oz_D8clsl_2) oz_D8cls_5 hS3 eF3 (by decide +kernel)) (any_sub (lₚ := [(0, 0)]) (by decide +kernel))
  have mF3 := SFm_of cF3 oz_D8cls_3
  have cA3 : SA oz_D8clsl_1 A A3 := SA_trans (SA_refl) (SA_gluc (ι := oz_D8clsl_2) oz_D8cls_5 hA3 eA3 (by decide +kernel)) (any_subA (lₚ := [1]) (by decide +kernel))
  have mA3 := SAm_of cA3 oz_D8cls_4
  have cD3 : SD oz_D8clsl_1 D D3 := SD_trans (SD_refl) (SD_gluc (ι := oz_D8clsl_2) oz_D8cls_5 hD3 eD3 (by decide +kernel)) (any_subA (lₚ := [1]) (by decide +kernel))
  have mD3 := SDm_of cD3 oz_D8cls_4
  have cN3 : SD oz_D8clsl_1 N N3 := SD_trans (SD_refl) (SD_gluc (ι := oz_D8clsl_2) oz_D8cls_5 hN3 eN3 (by decide +kernel)) (any_subA (lₚ := [1]) (by decide +kernel))
  have mN3 := SDm_of cN3 oz_D8cls_4
  have pf3_0_0 : F3 0 0 = (D3 1 : Int) := (eF3 0 0).trans (pm3_1.trans (congrArg (fun q : Nat => (q : Int)) (eD3 1).symm))
  have r4 : (0 : Int) ≤ m3_1 ∧ m3_1 ≤ 1000000 := nleE (H.nle 1 (ltn len_V161_S0_oz_D8cls rfl)) (show (N3 1 : Int) = m3_1 from (congrArg (fun q : Nat => (q : Int)) (eN3 1)).trans em3_1)
  have hsr := pz3_4
  refine w_ifne (t := 14) rfl rfl (show inr (z3) from q_15 pz3_0) (fun b5 => ?_) (fun b5 => ?_)
  · refine Ew_of (pcₚ := 15) (fun _ => x_aload_n rfl rfl) ?_
    refine Ew_of (pcₚ := 16) (fun _ => x_iload_n rfl rfl) ?_
    refine Ew_of (pcₚ := 17) (fun _ => x_aload_n rfl rfl) ?_
    refine Ew_stk (congrArg (fun qz : Nat => ([.ref qz, I (a2), .ref 0] : List Value)) (show D3 0 = D 0 from mD3 0 rfl).symm) ?_
    refine v_g H (o := 0) (v := .ref (D3 1)) rfl rfl rfl rfl rfl (vrf (pf3_0_0)) ?_
    refine Ew_of (pcₚ := 21) (fun _ => x_aload_n rfl rfl) ?_
    refine Ew_stk (congrArg (fun qz : Nat => ([.ref qz, .ref (D3 1), I (a2), .ref 0] : List Value)) (show D3 0 = D 0 from mD3 0 rfl).symm) ?_
    refine v_g H (o := 0) (v := I (u0_1)) rfl rfl rfl rfl rfl (congrArg (fun z : Int => I z) ((((show F3 0 1 = F 0 1 from (eF3 0 1).trans (hS3 0 1 rfl))).trans (eu0_1)) : F3 0 1 = u0_1)) ?_
    refine Ew_of (pcₚ := 25) (fun _ => x_iload_n rfl rfl) ?_
    refine v_cpyS H (STC_out HT HE O) (t := 1) (b0 := 0) rfl rfl rfl rfl rfl rfl (n := m3_1) ((congrArg (fun q : Nat => (q : Int)) (eN3 1)).trans em3_1) (show 0 ≤ a3 ∧ 0 ≤ u0_1 ∧ 0 ≤ a2 ∧ a2 + a3 ≤ ((stl 0).length : Int) ∧ u0_1 + a3 ≤ m3_1 by rw [show (((stl 0).length : Nat) : Int) = 10 from rfl]; omega) (fun σ A6 H Oₚ hA6 gb6 => ?_)
    have gb6 : ∀ i, i < u0_1 ∨ u0_1 + a3 ≤ i → A6 1 i = (w3_1) i := fun i a => (gb6 i a).trans (congrFun ((eA3 1).trans ew3_1) i)
    have O := OUT_trans O Oₚ
    have cA6 : SA oz_D8clsl_1 A A6 := SA_trans (cA3) hA6 (any_subA (by decide +kernel))
    have mA6 := SAm_of cA6 oz_D8cls_4
    have : ∀ i, (0 : Int) ≤ i → i < (u0_1) → ((A6 1)) i = ((w1)) i := fun i a b => (gb6 i (by omega)).trans (hsr i a b)
    refine Ew_of (pcₚ := 29) (fun _ => x_aload_n rfl rfl) ?_
    refine Ew_of (pcₚ := 30) (fun _ => x_dup rfl rfl) ?_
    refine Ew_stk (show ([.ref (D 0), .ref (D 0)] : List Value) = [.ref (D3 0), .ref (D3 0)] by rw [show D3 0 = D 0 from mD3 0 rfl]) ?_
    refine v_g H (o := 0) (v := I (u0_1)) rfl rfl rfl rfl rfl (congrArg (fun z : Int => I z) ((((show F3 0 1 = F 0 1 from (eF3 0 1).trans (hS3 0 1 rfl))).trans (eu0_1)) : F3 0 1 = u0_1)) ?_
    refine Ew_of (pcₚ := 34) (fun _ => x_iload_n rfl rfl) ?_
    refine w_iadd rfl ?_
    refine v_p H (o := 0) (z := (u0_1 + a3)) (v := I ((u0_1 + a3))) rfl rfl rfl rfl rfl rfl rfl rfl (show (-2147483648 : Int) ≤ (u0_1 + a3) ∧ (u0_1 + a3) ≤ 2147483647 from q_3069 h1 h3 pz3_1 pz3_2 r4) (fun σ H Oₚ => ?_)
    have O := OUT_trans O Oₚ
    have cFu7 : SF oz_D8clsl_0 F (updF F3 0 1 ((u0_1 + a3))) := SF_upd (cF3) rfl
    have mFu7 := SFm_of cFu7 oz_D8cls_3
    exact w_ret rfl (k _ _ _ _ _ _ _ H O (cD3) (cN3) (cFu7) (cA6) (pf3_0_0) (m3_1) ((congrArg (fun q : Nat => (q : Int)) (eN3 1)).trans em3_1) ((u0_1 + a3)) (rfl) (A6 1) (rfl) (show 0 ≤ ((u0_1 + a3)) ∧ ((u0_1 + a3)) ≤ (m3_1) ∧ (m3_1) ≤ 65536 by omega) (show ((u0_1 + a3)) = (u0_1) + a3 ∧ 0 ≤ a3 ∨ ((u0_1 + a3)) = (u0_1) ∧ (a3 < 0 ∨ 65536 < (u0_1) + a3) by omega) (show ∀ i, (0 : Int) ≤ i → i < (u0_1) → ((A6 1)) i = ((w1)) i by assumption))
  · refine Ew_of (pcₚ := 9) (fun _ => x_aload_n rfl rfl) ?_
    refine Ew_of (pcₚ := 10) (fun _ => x_iconst rfl) ?_
    refine Ew_stk (congrArg (fun qz : Nat => ([I (1), .ref qz] : List Value)) (show D3 0 = D 0 from mD3 0 rfl).symm) ?_
    refine v_p H (o := 0) (z := 1) (v := I (1)) rfl rfl rfl rfl rfl rfl rfl (rfit_b (by omega)) (show (0 : Int) ≤ 1 ∧ 1 ≤ 1 from q_2146) (fun σ H Oₚ => ?_)
    have O := OUT_trans O Oₚ
    have cFu8 : SF oz_D8clsl_0 F (updF F3 0 2 (1)) := SF_upd (cF3) rfl
    have mFu8 := SFm_of cFu8 oz_D8cls_3
    exact w_ret rfl (k _ _ _ _ _ _ _ H O (cD3) (cN3) (cFu8) (cA3) (pf3_0_0) (m3_1) ((congrArg (fun q : Nat => (q : Int)) (eN3 1)).trans em3_1) (u0_1) ((((show F3 0 1 = F 0 1 from (eF3 0 1).trans (hS3 0 1 rfl))).trans (eu0_1))) (w3_1) ((eA3 1).trans ew3_1) (show 0 ≤ (u0_1) ∧ (u0_1) ≤ (m3_1) ∧ (m3_1) ≤ 65536 from pz3_1) (show (u0_1) = (u0_1) + a3 ∧ 0 ≤ a3 ∨ (u0_1) = (u0_1) ∧ (a3 < 0 ∨ 65536 < (u0_1) + a3) by omega) (show ∀ i, (0 : Int) ≤ i → i < (u0_1) → ((w3_1)) i = ((w1)) i by assumption))
abbrev V196_thispackeda : vV := [(0, 10, [(4, 0), (4, 0), (4, 0), (4, 0), (0, 0), (4, 0), (0, 0), (2, 0), (0, 0)]), (0, 7, [(4, 0), (0, 0), (1, 0), (0, 0), (0, 0)]), (1, 0, []), (0, 5, [(4, 0), (4, 0), (4, 0), (4, 0), (0, 0), (0, 0), (0, 0), (4, 0), (4, 0), (0, 0), (0, 0), (0, 0), (0, 0), (0, 0), (0, 0), (0, 0), (0, 0), (0, 0), (0, 0)]), (0, 7, [(4, 0), (0, 0), (1, 0), (0, 0), (0, 0)]), (1, 0, [])]
theorem len_V196_thispackeda_oz_D8cls : (V196_thispackeda).length = 6 := by decide +kernel
theorem oz_D8cls_7 : vsub V196_thispackeda V161_Br [1, 5, 2] = true := by decide +kernel
theorem oz_D8cls_8 : vmov V196_thispackeda [1, 5, 2] [2] = true := by decide +kernel
theorem oz_D8cls_9 : vsub V196_thispackeda V159 [1, 2] = true := by decide +kernel
theorem oz_D8cls_10 : vmov V196_thispackeda [1, 2] [1] = true := by decide +kernel
theorem oz_D8cls_11 : vsub V196_thispackeda V160 [1, 2] = true := by decide +kernel
def oz_D8clsl_3 : List (Nat × Nat) := [(1, 0), (1, 1), (1, 2)]
theorem oz_D8cls_12 : (oz_D8clsl_3).all (fun p => !tbz 30064771072 (Nat.add (Nat.mul 32 p.1) p.2)) = true := by decide +kernel
def oz_D8clsl_4 : List Nat := [2]
theorem oz_D8cls_13 : (oz_D8clsl_4).all (fun p => !tbz 4 p) = true := by decide +kernel
def oz_D8clsl_5 : List Nat := [1, 5, 2]
theorem oz_D8cls_14 : okc oz_D8clsl_5 526849 = true := by decide +kernel
def oz_D8clsl_6 : List Nat := [1, 2]
theorem oz_D8cls_15 : okc oz_D8clsl_6 1025 = true := by decide +kernel
/-- Tags.packLiterals: this, this.packed, this.packed.bytes, this.finder, this.finder.data, this.finder.data.bytes -/
theorem C196_thispackeda {σE : rS} {D N : Nat → Nat} {F : hF} {A : hA} {d c s : Nat} {Q : wQ} (H : HW V196_thispackeda σE D N F A) {a2 a3 : Int} (pf1 : F 0 2 = (D 1 : Int)) (pf2 : F 1 0 = (D 2 : Int)) (pf3 : F 0 1 = (D 3 : Int)) (pf4 : F 3 0 = (D 4 : Int)) (pf5 : F 4 0 = (D 5 : Int)) (n2 : Int) (en2 : (N 2 : Int) = n2) (n5 : Int) (en5 : (N 5 : Int) = n5) (u1_1 : Int) (eu1_1 : F 1 1 = u1_1) (u4_1 : Int) (eu4_1 : F 4 1 = u4_1) (h0 : inr (a2)) (h1 : inr (a3)) (h2 : 0 ≤ (u1_1) ∧ (u1_1) ≤ (n2) ∧ (n2) ≤ 65536) (h3 : 0 ≤ (u4_1) ∧ (u4_1) ≤ (n5) ∧ (n5) ≤ 65536) (h4 : 0 ≤ (a2) ∧ 0 ≤ (a3) ∧ (a2) + (a3) ≤ (n5)) (k : ∀ (σ : rS) (Dₚ Nₚ : Nat → Nat) (Fₚ : hF) (Aₚ : hA) (cₚ sₚ : Nat), HW V196_thispackeda σ Dₚ Nₚ Fₚ Aₚ → OUT (V196_thispackeda).length D N σE c s Dₚ Nₚ σ cₚ sₚ → SD [2] D Dₚ → SD [2] N Nₚ → SF [(1, 0), (1, 1), (1, 2)] F Fₚ → SA [2] A Aₚ → Fₚ 1 0 = (Dₚ 2 : Int) → ∀ m2 : Int, (Nₚ 2 : Int) = m2 → ∀ y1_1 : Int, Fₚ 1 1 = y1_1 → (0 ≤ (y1_1) ∧ (y1_1) ≤ (m2) ∧ (m2) ≤ 65536) → Q none σ cₚ sₚ) : Ew 196 (d + 3) 0 (rargs 0 [.ref (D 0), .ref (D 1), I a2, I a3]) [] σE c s Q := by
  have O := OUT_refl (n := (V196_thispackeda).length) (D := D) (N := N) (σ := σE) (c := c) (s := s)
  have HE := H
  have r1 : (-2147483648 : Int) ≤ u1_1 ∧ u1_1 ≤ 2147483647 := rngE (show (-2147483648 : Int) ≤ F 1 1 ∧ F 1 1 ≤ 2147483647 from H.krg 1 1 (ltn len_V196_thispackeda_oz_D8cls rfl)) (show F 1 1 = u1_1 from (eu1_1))
  have r2 : (-2147483648 : Int) ≤ u4_1 ∧ u4_1 ≤ 2147483647 := rngE (show (-2147483648 : Int) ≤ F 4 1 ∧ F 4 1 ≤ 2147483647 from H.krg 4 1 (ltn len_V196_thispackeda_oz_D8cls rfl)) (show F 4 1 = u4_1 from (eu4_1))
  have r3 : (0 : Int) ≤ n2 ∧ n2 ≤ 1000000 := nleE (H.nle 2 (ltn len_V196_thispackeda_oz_D8cls rfl)) (show (N 2 : Int) = n2 from en2)
  have r4 : (0 : Int) ≤ n5 ∧ n5 ≤ 1000000 := nleE (H.nle 5 (ltn len_V196_thispackeda_oz_D8cls rfl)) (show (N 5 : Int) = n5 from en5)
  refine Ew_of (pcₚ := 1) (fun _ => x_iload_n rfl rfl) ?_
  refine w_ifne (t := 5) rfl rfl (show inr (a3) from h1) (fun b5 => ?_) (fun b5 => ?_)
  · refine Ew_of (pcₚ := 6) (fun _ => x_iload_n rfl rfl) ?_
    refine Ew_of (pcₚ := 7) (fun _ => x_iconst rfl) ?_
    refine w_isub rfl ?_
    refine Ew_of (pcₚ := 10) (fun _ => x_istore rfl) ?_
    have hc63 : ∀ (ls : rO) (σ : rS) (D_c63 N_c63 : Nat → Nat) (c_c63 s_c63 : Nat) (F_c63 : hF) (A_c63 : hA) , rlook ls 0 = some (.ref (D_c63 0)) → rlook ls 1 = some (.ref (D_c63 1)) → rlook ls 2 = some (I (a2)) → rlook ls 3 = some (I (a3)) → HW V196_thispackeda σ D_c63 N_c63 F_c63 A_c63 → OUT (V196_thispackeda).length D N σE c s D_c63 N_c63 σ c_c63 s_c63 → SD [2] D D_c63 → SD [2] N N_c63 → SF [(1, 0), (1, 1), (1, 2)] F F_c63 → SA [2] A A_c63 → F_c63 1 0 = (D_c63 2 : Int) → ∀ mc63_2 : Int, (N_c63 2 : Int) = mc63_2 → ∀ yc63_1_1 : Int, F_c63 1 1 = yc63_1_1 → (0 ≤ (yc63_1_1) ∧ (yc63_1_1) ≤ (mc63_2) ∧ (mc63_2) ≤ 65536) → Ew 196 (d + 3) 63 ls [] σ c_c63 s_c63 Q := by
     as_aux_lemma =>
      intro  ls σ D_c63 N_c63 c_c63 s_c63 F_c63 A_c63  lc63_0 lc63_1 lc63_2 lc63_3 H O hD_c63 hN_c63 hS_c63 hA_c63 pmc63_2 mc63_2 emc63_2 yc63_1_1 eyc63_1_1  jc63_0
      have cF_c63 : SF oz_D8clsl_3 F F_c63 := SF_trans (SF_refl) hS_c63 (any_sub (by decide +kernel))
      have mF_c63 := SFm_of cF_c63 oz_D8cls_12
      have cA_c63 : SA oz_D8clsl_4 A A_c63 := SA_trans (SA_refl) hA_c63 (any_subA (by decide +kernel))
      have mA_c63 := SAm_of cA_c63 oz_D8cls_13
      have cD_c63 : SD oz_D8clsl_4 D D_c63 := SD_trans (SD_refl) hD_c63 (any_subA (by decide +kernel))
      have mD_c63 := SDm_of cD_c63 oz_D8cls_13
      have cN_c63 : SD oz_D8clsl_4 N N_c63 := SD_trans (SD_refl) hN_c63 (any_subA (by decide +kernel))
      have mN_c63 := SDm_of cN_c63 oz_D8cls_13
      have r6 : (0 : Int) ≤ mc63_2 ∧ mc63_2 ≤ 1000000 := nleE (H.nle 2 (ltn len_V196_thispackeda_oz_D8cls rfl)) (show (N_c63 2 : Int) = mc63_2 from emc63_2)
      have r7 : (-2147483648 : Int) ≤ yc63_1_1 ∧ yc63_1_1 ≤ 2147483647 := rngE (show (-2147483648 : Int) ≤ F_c63 1 1 ∧ F_c63 1 1 ≤ 2147483647 from H.krg 1 1 (ltn len_V196_thispackeda_oz_D8cls rfl)) (show F_c63 1 1 = yc63_1_1 from (eyc63_1_1))
      refine Ew_of (pcₚ := 64) (fun _ => x_aload_n rfl lc63_1) ?_
      refine Ew_of (pcₚ := 65) (fun _ => x_aload_n rfl lc63_0) ?_
      refine v_g H (o := 0) (v := .ref (D_c63 3)) rfl rfl rfl rfl rfl (vrf ((mF_c63 0 1 rfl).trans ((pf3).trans (congrArg (fun q : Nat => (q : Int)) (mD_c63 3 rfl).symm)))) ?_
      refine v_g H (o := 3) (v := .ref (D_c63 4)) rfl rfl rfl rfl rfl (vrf ((mF_c63 3 0 rfl).trans ((pf4).trans (congrArg (fun q : Nat => (q : Int)) (mD_c63 4 rfl).symm)))) ?_
      refine v_g H (o := 4) (v := .ref (D_c63 5)) rfl rfl rfl rfl rfl (vrf ((mF_c63 4 0 rfl).trans ((pf5).trans (congrArg (fun q : Nat => (q : Int)) (mD_c63 5 rfl).symm)))) ?_
      refine Ew_of (pcₚ := 75) (fun _ => x_iload_n rfl lc63_2) ?_
      refine Ew_of (pcₚ := 76) (fun _ => x_iload_n rfl lc63_3) ?_
      refine v_inv H (o := 1) rfl rfl rfl rfl rfl rfl (by rfl) (C161_Br (D := puc 526849 D_c63) (N := puc 526849 N_c63) (HW_subc H oz_D8cls_7 oz_D8cls_14) (pmc63_2) (n5) ((congrArg (fun q : Nat => (q : Int)) (mN_c63 5 rfl)).trans (en5)) (mc63_2) (emc63_2) (yc63_1_1) ((eyc63_1_1)) (A_c63 2) (rfl) (show inr (a2) from h0) (show inr (a3) from h1) (show 0 ≤ (yc63_1_1) ∧ (yc63_1_1) ≤ (mc63_2) ∧ (mc63_2) ≤ 65536 from jc63_0) (show (a3) < 0 ∨ 0 ≤ (a2) ∧ (a2) + (a3) ≤ (n5) from q_2764 h4) (fun σ8 D8ₚ N8ₚ F8ₚ A8ₚ c8 s8 Hₚ Oₚ hD8 hN8 hS8 hA8 pm8_2 m8_2 em8_2 y8_0_1 ey8_0_1 w8_2 ew8_2 pz8_0 pz8_1 pz8_2 => ⟨rfl, ?_⟩))
      refine v_backMc (c := c_c63) (s := s_c63) H oz_D8cls_7 oz_D8cls_14 Hₚ Oₚ hD8 oz_D8cls_8 (fun D8 N8 F8 A8 H Oₚ eD8 eN8 eF8 eA8 => ?_)
      have O := OUT_trans O Oₚ
      -- Row.addPart
      have cF8 : SF oz_D8clsl_3 F F8 := SF_trans (cF_c63) (SF_gluc (ι := oz_D8clsl_5) oz_D8cls_14 hS8 eF8 (by decide +kernel)) (any_sub (lₚ := [(1, 0), (1, 1), (1, 2)]) (by decide +kernel))
      have mF8 := SFm_of cF8 oz_D8cls_12
      have cA8 : SA oz_D8clsl_4 A A8 := SA_trans (cA_c63) (SA_gluc (ι := oz_D8clsl_5) oz_D8cls_14 hA8 eA8 (by decide +kernel)) (any_subA (lₚ := [2]) (by decide +kernel))
      have mA8 := SAm_of cA8 oz_D8cls_13
      have cD8 : SD oz_D8clsl_4 D D8 := SD_trans (cD_c63) (SD_gluc (ι := oz_D8clsl_5) oz_D8cls_14 hD8 eD8 (by decide +kernel)) (any_subA (lₚ := [2]) (by decide +kernel))
      have mD8 := SDm_of cD8 oz_D8cls_13
      have cN8 : SD oz_D8clsl_4 N N8 := SD_trans (cN_c63) (SD_gluc (ι := oz_D8clsl_5) oz_D8cls_14 hN8 eN8 (by decide +kernel)) (any_subA (lₚ := [2]) (by decide +kernel))
      have mN8 := SDm_of cN8 oz_D8cls_13
      have pf8_1_0 : F8 1 0 = (D8 2 : Int) := (eF8 1 0).trans (pm8_2.trans (congrArg (fun q : Nat => (q : Int)) (eD8 2).symm))
      have r9 : (0 : Int) ≤ m8_2 ∧ m8_2 ≤ 1000000 := nleE (H.nle 2 (ltn len_V196_thispackeda_oz_D8cls rfl)) (show (N8 2 : Int) = m8_2 from (congrArg (fun q : Nat => (q : Int)) (eN8 2)).trans em8_2)
      have r10 : (-2147483648 : Int) ≤ y8_0_1 ∧ y8_0_1 ≤ 2147483647 := rngE (show (-2147483648 : Int) ≤ F8 1 1 ∧ F8 1 1 ≤ 2147483647 from H.krg 1 1 (ltn len_V196_thispackeda_oz_D8cls rfl)) (show F8 1 1 = y8_0_1 from ((eF8 1 1).trans ey8_0_1))
      exact w_ret rfl (k _ _ _ _ _ _ _ H O (cD8) (cN8) (cF8) (cA8) (pf8_1_0) (m8_2) ((congrArg (fun q : Nat => (q : Int)) (eN8 2)).trans em8_2) (y8_0_1) (((eF8 1 1).trans ey8_0_1)) (show 0 ≤ (y8_0_1) ∧ (y8_0_1) ≤ (m8_2) ∧ (m8_2) ≤ 65536 from pz8_0))
    refine Ew_of (pcₚ := 12) (fun _ => x_iload rfl rk_s) ?_
    refine Ew_of (pcₚ := 14) (fun _ => x_bipush (z := 60) rfl (by decide)) ?_
    refine w_icmpge (t := 28) rfl rfl (show inr ((a3 - 1)) from q_2857 h1 h4) (show inr (60) from q_715) (fun b11 => ?_) (fun b11 => ?_)
    · refine Ew_of (pcₚ := 30) (fun _ => x_iload rfl rk_s) ?_
      refine Ew_of (pcₚ := 33) (fun _ => x_sipush (z := 256) rfl (by decide)) ?_
      have hc41 : ∀ (tc41_0 : Int), ∀ (ls : rO) (σ : rS) (F_c41 : hF) (A_c41 : hA) , rlook ls 0 = some (.ref (D 0)) → rlook ls 1 = some (.ref (D 1)) → rlook ls 2 = some (I (a2)) → rlook ls 3 = some (I (a3)) → rlook ls 4 = some (I ((a3 - 1))) → HW V196_thispackeda σ D N F_c41 A_c41 → OUT (V196_thispackeda).length D N σE c s D N σ c s → SF [] F F_c41 → SA [] A A_c41 → (inr (tc41_0)) → ((((a3 - 1)) ≥ (256) ∧ (tc41_0) = (2)) ∨ (((a3 - 1)) < (256) ∧ (tc41_0) = (1))) → Ew 196 (d + 3) 41 ls [I (tc41_0)] σ c s Q := by
       as_aux_lemma =>
        intro tc41_0 ls σ F_c41 A_c41  lc41_0 lc41_1 lc41_2 lc41_3 lc41_4 H O hS_c41 hA_c41     jc41_0 jc41_1
        have cF_c41 : SF oz_D8clsl_3 F F_c41 := SF_trans (SF_refl) hS_c41 (any_sub (by decide +kernel))
        have mF_c41 := SFm_of cF_c41 oz_D8cls_12
        have cA_c41 : SA oz_D8clsl_4 A A_c41 := SA_trans (SA_refl) hA_c41 (any_subA (by decide +kernel))
        have mA_c41 := SAm_of cA_c41 oz_D8cls_13
        refine Ew_of (pcₚ := 43) (fun _ => x_istore rfl) ?_
        refine Ew_of (pcₚ := 44) (fun _ => x_aload_n rfl (rk_o (lc41_1) rfl rfl)) ?_
        refine Ew_of (pcₚ := 46) (fun _ => x_bipush (z := 59) rfl (by decide)) ?_
        refine Ew_of (pcₚ := 48) (fun _ => x_iload rfl rk_s) ?_
        refine w_iadd rfl ?_
        refine Ew_of (pcₚ := 50) (fun _ => x_iconst rfl) ?_
        refine w_ishlA rfl (fun z12 gz12 => ?_)
        refine v_inv H (o := 1) rfl rfl rfl rfl rfl rfl (by rfl) (C159 (D := puc 1025 D) (N := puc 1025 N) (HW_subc H oz_D8cls_9 oz_D8cls_15) (((hS_c41 1 0 rfl)).trans (pf2)) (n2) (en2) (u1_1) (((hS_c41 1 1 rfl).trans (eu1_1))) (show inr (z12) from gz12) (show 0 ≤ (u1_1) ∧ (u1_1) ≤ (n2) ∧ (n2) ≤ 65536 from h2) (fun σ13 D13ₚ N13ₚ F13ₚ A13ₚ c13 s13 Hₚ Oₚ hD13 hN13 hS13 hA13 pm13_1 m13_1 em13_1 y13_0_1 ey13_0_1 pz13_0 pz13_1 pz13_2 => ⟨rfl, ?_⟩))
        refine v_backMc (c := c) (s := s) H oz_D8cls_9 oz_D8cls_15 Hₚ Oₚ hD13 oz_D8cls_10 (fun D13 N13 F13 A13 H Oₚ eD13 eN13 eF13 eA13 => ?_)
        have O := OUT_trans O Oₚ
        -- Row.add
        have cF13 : SF oz_D8clsl_3 F F13 := SF_trans (cF_c41) (SF_gluc (ι := oz_D8clsl_6) oz_D8cls_15 hS13 eF13 (by decide +kernel)) (any_sub (lₚ := [(1, 0), (1, 1), (1, 2)]) (by decide +kernel))
        have mF13 := SFm_of cF13 oz_D8cls_12
        have cA13 : SA oz_D8clsl_4 A A13 := SA_trans (cA_c41) (SA_gluc (ι := oz_D8clsl_6) oz_D8cls_15 hA13 eA13 (by decide +kernel)) (any_subA (lₚ := [2]) (by decide +kernel))
        have mA13 := SAm_of cA13 oz_D8cls_13
        have cD13 : SD oz_D8clsl_4 D D13 := SD_trans (SD_refl) (SD_gluc (ι := oz_D8clsl_6) oz_D8cls_15 hD13 eD13 (by decide +kernel)) (any_subA (lₚ := [2]) (by decide +kernel))
        have mD13 := SDm_of cD13 oz_D8cls_13
        have cN13 : SD oz_D8clsl_4 N N13 := SD_trans (SD_refl) (SD_gluc (ι := oz_D8clsl_6) oz_D8cls_15 hN13 eN13 (by decide +kernel)) (any_subA (lₚ := [2]) (by decide +kernel))
        have mN13 := SDm_of cN13 oz_D8cls_13
        have pf13_1_0 : F13 1 0 = (D13 2 : Int) := (eF13 1 0).trans (pm13_1.trans (congrArg (fun q : Nat => (q : Int)) (eD13 2).symm))
        have r14 : (0 : Int) ≤ m13_1 ∧ m13_1 ≤ 1000000 := nleE (H.nle 2 (ltn len_V196_thispackeda_oz_D8cls rfl)) (show (N13 2 : Int) = m13_1 from (congrArg (fun q : Nat => (q : Int)) (eN13 2)).trans em13_1)
        have r15 : (-2147483648 : Int) ≤ y13_0_1 ∧ y13_0_1 ≤ 2147483647 := rngE (show (-2147483648 : Int) ≤ F13 1 1 ∧ F13 1 1 ≤ 2147483647 from H.krg 1 1 (ltn len_V196_thispackeda_oz_D8cls rfl)) (show F13 1 1 = y13_0_1 from ((eF13 1 1).trans ey13_0_1))
        refine Ew_of (pcₚ := 55) (fun _ => x_aload_n rfl (rk_o (lc41_1) rfl rfl)) ?_
        refine Ew_of (pcₚ := 57) (fun _ => x_iload rfl (rk_o (lc41_4) rfl rfl)) ?_
        refine w_i2l rfl (show inr ((a3 - 1)) from q_2858 b11 h1) ?_
        refine Ew_of (pcₚ := 60) (fun _ => x_iload rfl rk_s) ?_
        refine Ew_stk (congrArg (fun qz : Nat => ([I (tc41_0), J ((a3 - 1)), .ref qz] : List Value)) (show D13 1 = D 1 from mD13 1 rfl).symm) ?_
        refine v_inv H (o := 1) rfl rfl rfl rfl rfl rfl (by rfl) (C160 (D := puc 1025 D13) (N := puc 1025 N13) (HW_subc H oz_D8cls_11 oz_D8cls_15) (pf13_1_0) (m13_1) ((congrArg (fun q : Nat => (q : Int)) (eN13 2)).trans em13_1) (y13_0_1) (((eF13 1 1).trans ey13_0_1)) (show inrJ ((a3 - 1)) from q_2859 b11 h1) (show inr (tc41_0) from jc41_0) (show 0 ≤ (y13_0_1) ∧ (y13_0_1) ≤ (m13_1) ∧ (m13_1) ≤ 65536 from pz13_0) (fun σ16 D16ₚ N16ₚ F16ₚ A16ₚ c16 s16 Hₚ Oₚ hD16 hN16 hS16 hA16 pm16_1 m16_1 em16_1 y16_0_1 ey16_0_1 pz16_0 pz16_1 => ⟨rfl, ?_⟩))
        refine v_backMc (c := (c + c13)) (s := (s + s13)) H oz_D8cls_11 oz_D8cls_15 Hₚ Oₚ hD16 oz_D8cls_10 (fun D16 N16 F16 A16 H Oₚ eD16 eN16 eF16 eA16 => ?_)
        have O := OUT_trans O Oₚ
        -- Row.addNumber
        have cF16 : SF oz_D8clsl_3 F F16 := SF_trans (cF13) (SF_gluc (ι := oz_D8clsl_6) oz_D8cls_15 hS16 eF16 (by decide +kernel)) (any_sub (lₚ := [(1, 0), (1, 1), (1, 2)]) (by decide +kernel))
        have mF16 := SFm_of cF16 oz_D8cls_12
        have cA16 : SA oz_D8clsl_4 A A16 := SA_trans (cA13) (SA_gluc (ι := oz_D8clsl_6) oz_D8cls_15 hA16 eA16 (by decide +kernel)) (any_subA (lₚ := [2]) (by decide +kernel))
        have mA16 := SAm_of cA16 oz_D8cls_13
        have cD16 : SD oz_D8clsl_4 D D16 := SD_trans (cD13) (SD_gluc (ι := oz_D8clsl_6) oz_D8cls_15 hD16 eD16 (by decide +kernel)) (any_subA (lₚ := [2]) (by decide +kernel))
        have mD16 := SDm_of cD16 oz_D8cls_13
        have cN16 : SD oz_D8clsl_4 N N16 := SD_trans (cN13) (SD_gluc (ι := oz_D8clsl_6) oz_D8cls_15 hN16 eN16 (by decide +kernel)) (any_subA (lₚ := [2]) (by decide +kernel))
        have mN16 := SDm_of cN16 oz_D8cls_13
        have pf16_1_0 : F16 1 0 = (D16 2 : Int) := (eF16 1 0).trans (pm16_1.trans (congrArg (fun q : Nat => (q : Int)) (eD16 2).symm))
        have r17 : (0 : Int) ≤ m16_1 ∧ m16_1 ≤ 1000000 := nleE (H.nle 2 (ltn len_V196_thispackeda_oz_D8cls rfl)) (show (N16 2 : Int) = m16_1 from (congrArg (fun q : Nat => (q : Int)) (eN16 2)).trans em16_1)
        have r18 : (-2147483648 : Int) ≤ y16_0_1 ∧ y16_0_1 ≤ 2147483647 := rngE (show (-2147483648 : Int) ≤ F16 1 1 ∧ F16 1 1 ≤ 2147483647 from H.krg 1 1 (ltn len_V196_thispackeda_oz_D8cls rfl)) (show F16 1 1 = y16_0_1 from ((eF16 1 1).trans ey16_0_1))
        exact hc63  _ _ _ _ _ _ _ _  ((rk_o (lc41_0) rfl rfl).trans (congrArg (fun q : Nat => some (Value.ref q)) (mD16 0 rfl).symm)) ((rk_o (lc41_1) rfl rfl).trans (congrArg (fun q : Nat => some (Value.ref q)) (mD16 1 rfl).symm)) (rk_o (lc41_2) rfl rfl) (rk_o (lc41_3) rfl rfl) H O (SD_trans (SD_trans (SD_refl) (SD_gluc (ι := oz_D8clsl_6) oz_D8cls_15 hD13 eD13 (by decide +kernel)) (any_subA (lₚ := [2]) (by decide +kernel))) (SD_gluc (ι := oz_D8clsl_6) oz_D8cls_15 hD16 eD16 (by decide +kernel)) (any_subA (lₚ := [2]) (by decide +kernel))) (SD_trans (SD_trans (SD_refl) (SD_gluc (ι := oz_D8clsl_6) oz_D8cls_15 hN13 eN13 (by decide +kernel)) (any_subA (lₚ := [2]) (by decide +kernel))) (SD_gluc (ι := oz_D8clsl_6) oz_D8cls_15 hN16 eN16 (by decide +kernel)) (any_subA (lₚ := [2]) (by decide +kernel))) (SF_trans (SF_trans (SF_trans (SF_refl) hS_c41 (any_sub (by decide +kernel))) (SF_gluc (ι := oz_D8clsl_6) oz_D8cls_15 hS13 eF13 (by decide +kernel)) (any_sub (lₚ := [(1, 0), (1, 1), (1, 2)]) (by decide +kernel))) (SF_gluc (ι := oz_D8clsl_6) oz_D8cls_15 hS16 eF16 (by decide +kernel)) (any_sub (lₚ := [(1, 0), (1, 1), (1, 2)]) (by decide +kernel))) (SA_trans (SA_trans (SA_trans (SA_refl) hA_c41 (any_subA (by decide +kernel))) (SA_gluc (ι := oz_D8clsl_6) oz_D8cls_15 hA13 eA13 (by decide +kernel)) (any_subA (lₚ := [2]) (by decide +kernel))) (SA_gluc (ι := oz_D8clsl_6) oz_D8cls_15 hA16 eA16 (by decide +kernel)) (any_subA (lₚ := [2]) (by decide +kernel))) (pf16_1_0) (m16_1) ((congrArg (fun q : Nat => (q : Int)) (eN16 2)).trans em16_1) (y16_0_1) (((eF16 1 1).trans ey16_0_1))  (show 0 ≤ (y16_0_1) ∧ (y16_0_1) ≤ (m16_1) ∧ (m16_1) ≤ 65536 from pz16_0)
      refine w_icmpge (t := 40) rfl rfl (show inr ((a3 - 1)) from q_2858 b11 h1) (show inr (256) from q_716) (fun b19 => ?_) (fun b19 => ?_)
      · refine Ew_of (pcₚ := 41) (fun _ => x_iconst rfl) ?_
        exact hc41 (2) _ _ _ _  (rk_o (rfl) rfl rfl) (rk_o (rfl) rfl rfl) (rk_o (rfl) rfl rfl) (rk_o (rfl) rfl rfl) (rk_s) H O (SF_refl) (SA_refl)     (show inr (2) from q_55) (show (((a3 - 1)) ≥ (256) ∧ (2) = (2)) ∨ (((a3 - 1)) < (256) ∧ (2) = (1)) from q_2860 b19)
      · refine Ew_of (pcₚ := 37) (fun _ => x_iconst rfl) ?_
        refine Ew_of (pcₚ := 41) (fun _ => x_goto rfl rfl) ?_
        exact hc41 (1) _ _ _ _  (rk_o (rfl) rfl rfl) (rk_o (rfl) rfl rfl) (rk_o (rfl) rfl rfl) (rk_o (rfl) rfl rfl) (rk_s) H O (SF_refl) (SA_refl)     (show inr (1) from q_23) (show (((a3 - 1)) ≥ (256) ∧ (1) = (2)) ∨ (((a3 - 1)) < (256) ∧ (1) = (1)) from q_2861 b19)
    · refine Ew_of (pcₚ := 18) (fun _ => x_aload_n rfl (rk_o (rfl) rfl rfl)) ?_
      refine Ew_of (pcₚ := 20) (fun _ => x_iload rfl rk_s) ?_
      refine Ew_of (pcₚ := 21) (fun _ => x_iconst rfl) ?_
      refine w_ishlA rfl (fun z20 gz20 => ?_)
      refine v_inv H (o := 1) rfl rfl rfl rfl rfl rfl (by rfl) (C159 (D := puc 1025 D) (N := puc 1025 N) (HW_subc H oz_D8cls_9 oz_D8cls_15) (pf2) (n2) (en2) (u1_1) ((eu1_1)) (show inr (z20) from gz20) (show 0 ≤ (u1_1) ∧ (u1_1) ≤ (n2) ∧ (n2) ≤ 65536 from h2) (fun σ21 D21ₚ N21ₚ F21ₚ A21ₚ c21 s21 Hₚ Oₚ hD21 hN21 hS21 hA21 pm21_1 m21_1 em21_1 y21_0_1 ey21_0_1 pz21_0 pz21_1 pz21_2 => ⟨rfl, ?_⟩))
      refine v_backMc (c := c) (s := s) H oz_D8cls_9 oz_D8cls_15 Hₚ Oₚ hD21 oz_D8cls_10 (fun D21 N21 F21 A21 H Oₚ eD21 eN21 eF21 eA21 => ?_)
      have O := OUT_trans O Oₚ
      -- Row.add
      have cF21 : SF oz_D8clsl_3 F F21 := SF_trans (SF_refl) (SF_gluc (ι := oz_D8clsl_6) oz_D8cls_15 hS21 eF21 (by decide +kernel)) (any_sub (lₚ := [(1, 0), (1, 1), (1, 2)]) (by decide +kernel))
      have mF21 := SFm_of cF21 oz_D8cls_12
      have cA21 : SA oz_D8clsl_4 A A21 := SA_trans (SA_refl) (SA_gluc (ι := oz_D8clsl_6) oz_D8cls_15 hA21 eA21 (by decide +kernel)) (any_subA (lₚ := [2]) (by decide +kernel))
      have mA21 := SAm_of cA21 oz_D8cls_13
      have cD21 : SD oz_D8clsl_4 D D21 := SD_trans (SD_refl) (SD_gluc (ι := oz_D8clsl_6) oz_D8cls_15 hD21 eD21 (by decide +kernel)) (any_subA (lₚ := [2]) (by decide +kernel))
      have mD21 := SDm_of cD21 oz_D8cls_13
      have cN21 : SD oz_D8clsl_4 N N21 := SD_trans (SD_refl) (SD_gluc (ι := oz_D8clsl_6) oz_D8cls_15 hN21 eN21 (by decide +kernel)) (any_subA (lₚ := [2]) (by decide +kernel))
      have mN21 := SDm_of cN21 oz_D8cls_13
      have pf21_1_0 : F21 1 0 = (D21 2 : Int) := (eF21 1 0).trans (pm21_1.trans (congrArg (fun q : Nat => (q : Int)) (eD21 2).symm))
      have r22 : (0 : Int) ≤ m21_1 ∧ m21_1 ≤ 1000000 := nleE (H.nle 2 (ltn len_V196_thispackeda_oz_D8cls rfl)) (show (N21 2 : Int) = m21_1 from (congrArg (fun q : Nat => (q : Int)) (eN21 2)).trans em21_1)
      have r23 : (-2147483648 : Int) ≤ y21_0_1 ∧ y21_0_1 ≤ 2147483647 := rngE (show (-2147483648 : Int) ≤ F21 1 1 ∧ F21 1 1 ≤ 2147483647 from H.krg 1 1 (ltn len_V196_thispackeda_oz_D8cls rfl)) (show F21 1 1 = y21_0_1 from ((eF21 1 1).trans ey21_0_1))
      refine Ew_of (pcₚ := 63) (fun _ => x_goto rfl rfl) ?_
      exact hc63  _ _ _ _ _ _ _ _  ((rk_o (rfl) rfl rfl).trans (congrArg (fun q : Nat => some (Value.ref q)) (mD21 0 rfl).symm)) ((rk_o (rfl) rfl rfl).trans (congrArg (fun q : Nat => some (Value.ref q)) (mD21 1 rfl).symm)) (rk_o (rfl) rfl rfl) (rk_o (rfl) rfl rfl) H O (SD_trans (SD_refl) (SD_gluc (ι := oz_D8clsl_6) oz_D8cls_15 hD21 eD21 (by decide +kernel)) (any_subA (lₚ := [2]) (by decide +kernel))) (SD_trans (SD_refl) (SD_gluc (ι := oz_D8clsl_6) oz_D8cls_15 hN21 eN21 (by decide +kernel)) (any_subA (lₚ := [2]) (by decide +kernel))) (SF_trans (SF_refl) (SF_gluc (ι := oz_D8clsl_6) oz_D8cls_15 hS21 eF21 (by decide +kernel)) (any_sub (lₚ := [(1, 0), (1, 1), (1, 2)]) (by decide +kernel))) (SA_trans (SA_refl) (SA_gluc (ι := oz_D8clsl_6) oz_D8cls_15 hA21 eA21 (by decide +kernel)) (any_subA (lₚ := [2]) (by decide +kernel))) (pf21_1_0) (m21_1) ((congrArg (fun q : Nat => (q : Int)) (eN21 2)).trans em21_1) (y21_0_1) (((eF21 1 1).trans ey21_0_1))  (show 0 ≤ (y21_0_1) ∧ (y21_0_1) ≤ (m21_1) ∧ (m21_1) ≤ 65536 from pz21_0)
  · exact w_ret rfl (k _ _ _ _ _ _ _ H O (SD_refl) (SD_refl) (SF_refl) (SA_refl) (pf2) (n2) (en2) (u1_1) ((eu1_1)) (show 0 ≤ (u1_1) ∧ (u1_1) ≤ (n2) ∧ (n2) ≤ 65536 from h2))
abbrev V194_thispackeda : vV := [(0, 10, [(4, 0), (4, 0), (4, 0), (4, 0), (0, 0), (4, 0), (0, 0), (2, 0), (0, 0)]), (0, 7, [(4, 0), (0, 0), (1, 0), (0, 0), (0, 0)]), (1, 0, []), (0, 5, [(4, 0), (4, 0), (4, 0), (4, 0), (0, 0), (0, 0), (0, 0), (4, 0), (4, 0), (0, 0), (0, 0), (0, 0), (0, 0), (0, 0), (0, 0), (0, 0), (0, 0), (0, 0), (0, 0)]), (0, 7, [(4, 0), (0, 0), (1, 0), (0, 0), (0, 0)]), (1, 0, []), (1, 1, []), (1, 1, []), (1, 1, []), (1, 1, []), (1, 1, [])]
theorem len_V194_thispackeda_oz_D8cls : (V194_thispackeda).length = 11 := by decide +kernel
theorem oz_D8cls_17 : vsub V194_thispackeda V195_Row [1, 2] = true := by decide +kernel
theorem oz_D8cls_18 : vmov V194_thispackeda [1, 2] [1] = true := by decide +kernel
theorem oz_D8cls_19 : vsub V194_thispackeda V123 [3, 4, 5, 6, 7] = true := by decide +kernel
theorem oz_D8cls_20 : vmov V194_thispackeda [3, 4, 5, 6, 7] [3] = true := by decide +kernel
theorem oz_D8cls_21 : vsub V194_thispackeda V125 [3, 4, 5, 6, 8, 9, 10] = true := by decide +kernel
theorem oz_D8cls_22 : vmov V194_thispackeda [3, 4, 5, 6, 8, 9, 10] [4, 5, 6] = true := by decide +kernel
theorem oz_D8cls_23 : vsub V194_thispackeda V196_thispackeda [0, 1, 2, 3, 4, 5] = true := by decide +kernel
theorem oz_D8cls_24 : vmov V194_thispackeda [0, 1, 2, 3, 4, 5] [2] = true := by decide +kernel
theorem oz_D8cls_25 : vsub V194_thispackeda V197_Row [1, 2] = true := by decide +kernel
def oz_D8clsl_7 : List (Nat × Nat) := [(1, 0), (1, 1), (1, 2), (3, 1), (3, 2), (3, 3), (3, 4), (3, 5), (3, 6), (3, 8), (3, 12), (3, 13), (3, 14), (3, 15), (3, 16), (3, 17), (3, 18)]
theorem oz_D8cls_26 : (oz_D8clsl_7).all (fun p => !tbz 41244121472700643278421578466983936 (Nat.add (Nat.mul 32 p.1) p.2)) = true := by decide +kernel
def oz_D8clsl_8 : List Nat := [2, 6, 7, 8, 9, 10]
theorem oz_D8cls_27 : (oz_D8clsl_8).all (fun p => !tbz 1988 p) = true := by decide +kernel
def oz_D8clsl_9 : List Nat := [2, 6, 8, 9, 10]
theorem oz_D8cls_28 : (oz_D8clsl_9).all (fun p => !tbz 1860 p) = true := by decide +kernel
def oz_D8clsl_10 : List Nat := [3, 4, 5, 6, 7]
theorem oz_D8cls_29 : okc oz_D8clsl_10 481842956291 = true := by decide +kernel
def oz_D8clsl_11 : List Nat := [3, 4, 5, 6, 8, 9, 10]
theorem oz_D8cls_30 : okc oz_D8clsl_11 180461195006052355 = true := by decide +kernel
def oz_D8clsl_12 : List Nat := [0, 1, 2, 3, 4, 5]
theorem oz_D8cls_31 : okc oz_D8clsl_12 176197141529088 = true := by decide +kernel
/-- Tags.packBlock: this, this.packed, this.packed.bytes, this.finder, this.finder.data, this.finder.data.bytes, this.finder.back, this.finder.heads, this.finder.literals, this.finder.lengths, this.finder.distances -/
theorem C194_thispackeda {σE : rS} {D N : Nat → Nat} {F : hF} {A : hA} {d c s : Nat} {Q : wQ} (H : HW V194_thispackeda σE D N F A)  (pf1 : F 0 2 = (D 1 : Int)) (pf2 : F 1 0 = (D 2 : Int)) (pf3 : F 0 1 = (D 3 : Int)) (pf4 : F 3 0 = (D 4 : Int)) (pf5 : F 4 0 = (D 5 : Int)) (pf6 : F 3 8 = (D 6 : Int)) (pf7 : F 3 7 = (D 7 : Int)) (pf8 : F 3 1 = (D 8 : Int)) (pf9 : F 3 2 = (D 9 : Int)) (pf10 : F 3 3 = (D 10 : Int)) (n2 : Int) (en2 : (N 2 : Int) = n2) (n5 : Int) (en5 : (N 5 : Int) = n5) (n6 : Int) (en6 : (N 6 : Int) = n6) (n7 : Int) (en7 : (N 7 : Int) = n7) (n8 : Int) (en8 : (N 8 : Int) = n8) (n9 : Int) (en9 : (N 9 : Int) = n9) (n10 : Int) (en10 : (N 10 : Int) = n10) (u1_1 : Int) (eu1_1 : F 1 1 = u1_1) (u3_6 : Int) (eu3_6 : F 3 6 = u3_6) (u3_10 : Int) (eu3_10 : F 3 10 = u3_10) (u4_1 : Int) (eu4_1 : F 4 1 = u4_1) (w5 : Int → Int) (ew5 : A 5 = w5) (w6 : Int → Int) (ew6 : A 6 = w6) (w7 : Int → Int) (ew7 : A 7 = w7) (h0 : 0 ≤ (u1_1) ∧ (u1_1) ≤ (n2) ∧ (n2) ≤ 65536) (h1 : 0 ≤ (u4_1) ∧ (u4_1) ≤ (n5) ∧ (n5) ≤ 65536 ∧ (u4_1) ≤ 16384) (h2 : (u3_10) = 4) (h3 : BKI ((w5)) ((w6)) ((u3_10)) ((u3_6))) (h4 : HDI ((w5)) ((w7)) ((u3_10)) ((u3_6))) (h5 : (n8) = (n9) ∧ (n10) = (n9) ∧ (n9) ≤ 65536 ∧ ((n9) = 0 ∨ 64 ≤ (n9)) ∧ lgq ((n9)) = 0) (h6 : (n7) = 2048) (h7 : 0 ≤ (u3_6) ∧ (u3_6) ≤ (n6) ∧ (n6) ≤ 16384) (k : ∀ (σ : rS) (Dₚ Nₚ : Nat → Nat) (Fₚ : hF) (Aₚ : hA) (cₚ sₚ : Nat), HW V194_thispackeda σ Dₚ Nₚ Fₚ Aₚ → OUT (V194_thispackeda).length D N σE c s Dₚ Nₚ σ cₚ sₚ → SD [2, 6, 8, 9, 10] D Dₚ → SD [2, 6, 8, 9, 10] N Nₚ → SF [(1, 0), (1, 1), (1, 2), (3, 1), (3, 2), (3, 3), (3, 4), (3, 5), (3, 6), (3, 8), (3, 12), (3, 13), (3, 14), (3, 15), (3, 16), (3, 17), (3, 18)] F Fₚ → SA [2, 6, 7, 8, 9, 10] A Aₚ → Fₚ 1 0 = (Dₚ 2 : Int) → Fₚ 3 8 = (Dₚ 6 : Int) → Fₚ 3 1 = (Dₚ 8 : Int) → Fₚ 3 2 = (Dₚ 9 : Int) → Fₚ 3 3 = (Dₚ 10 : Int) → ∀ m2 : Int, (Nₚ 2 : Int) = m2 → ∀ m6 : Int, (Nₚ 6 : Int) = m6 → ∀ m8 : Int, (Nₚ 8 : Int) = m8 → ∀ m9 : Int, (Nₚ 9 : Int) = m9 → ∀ m10 : Int, (Nₚ 10 : Int) = m10 → ∀ y1_1 : Int, Fₚ 1 1 = y1_1 → ∀ y3_6 : Int, Fₚ 3 6 = y3_6 → ∀ v6 : Int → Int, Aₚ 6 = v6 → ∀ v7 : Int → Int, Aₚ 7 = v7 → (0 ≤ (y1_1) ∧ (y1_1) ≤ (m2) ∧ (m2) ≤ 65536) → (0 ≤ (y3_6) ∧ (u3_6) ≤ (y3_6) ∧ (y3_6) ≤ (m6) ∧ (m6) ≤ 16384) → ((m8) = (m9) ∧ (m10) = (m9) ∧ (m9) ≤ 65536 ∧ ((m9) = 0 ∨ 64 ≤ (m9)) ∧ lgq ((m9)) = 0) → (BKI ((w5)) ((v6)) ((u3_10)) ((y3_6))) → (HDI ((w5)) ((v7)) ((u3_10)) ((y3_6))) → ((y3_6) = (u3_6) ∨ (y3_6) + 4 ≤ (u4_1) + 1) → Q none σ cₚ sₚ) : Ew 194 (d + 4) 0 (rargs 0 [.ref (D 0), .ref (D 1)]) [] σE c s Q := by
  have O := OUT_refl (n := (V194_thispackeda).length) (D := D) (N := N) (σ := σE) (c := c) (s := s)
  have HE := H
  have r1 : (-2147483648 : Int) ≤ u1_1 ∧ u1_1 ≤ 2147483647 := rngE (show (-2147483648 : Int) ≤ F 1 1 ∧ F 1 1 ≤ 2147483647 from H.krg 1 1 (ltn len_V194_thispackeda_oz_D8cls rfl)) (show F 1 1 = u1_1 from (eu1_1))
  have r2 : (-2147483648 : Int) ≤ u3_6 ∧ u3_6 ≤ 2147483647 := rngE (show (-2147483648 : Int) ≤ F 3 6 ∧ F 3 6 ≤ 2147483647 from H.krg 3 6 (ltn len_V194_thispackeda_oz_D8cls rfl)) (show F 3 6 = u3_6 from (eu3_6))
  have r3 : (-2147483648 : Int) ≤ u3_10 ∧ u3_10 ≤ 2147483647 := rngE (show (-2147483648 : Int) ≤ F 3 10 ∧ F 3 10 ≤ 2147483647 from H.krg 3 10 (ltn len_V194_thispackeda_oz_D8cls rfl)) (show F 3 10 = u3_10 from (eu3_10))
  have r4 : (-2147483648 : Int) ≤ u4_1 ∧ u4_1 ≤ 2147483647 := rngE (show (-2147483648 : Int) ≤ F 4 1 ∧ F 4 1 ≤ 2147483647 from H.krg 4 1 (ltn len_V194_thispackeda_oz_D8cls rfl)) (show F 4 1 = u4_1 from (eu4_1))
  have r5 : (0 : Int) ≤ n2 ∧ n2 ≤ 1000000 := nleE (H.nle 2 (ltn len_V194_thispackeda_oz_D8cls rfl)) (show (N 2 : Int) = n2 from en2)
  have r6 : (0 : Int) ≤ n5 ∧ n5 ≤ 1000000 := nleE (H.nle 5 (ltn len_V194_thispackeda_oz_D8cls rfl)) (show (N 5 : Int) = n5 from en5)
  have r7 : (0 : Int) ≤ n6 ∧ n6 ≤ 1000000 := nleE (H.nle 6 (ltn len_V194_thispackeda_oz_D8cls rfl)) (show (N 6 : Int) = n6 from en6)
  have r8 : (0 : Int) ≤ n7 ∧ n7 ≤ 1000000 := nleE (H.nle 7 (ltn len_V194_thispackeda_oz_D8cls rfl)) (show (N 7 : Int) = n7 from en7)
  have r9 : (0 : Int) ≤ n8 ∧ n8 ≤ 1000000 := nleE (H.nle 8 (ltn len_V194_thispackeda_oz_D8cls rfl)) (show (N 8 : Int) = n8 from en8)
  have r10 : (0 : Int) ≤ n9 ∧ n9 ≤ 1000000 := nleE (H.nle 9 (ltn len_V194_thispackeda_oz_D8cls rfl)) (show (N 9 : Int) = n9 from en9)
  have r11 : (0 : Int) ≤ n10 ∧ n10 ≤ 1000000 := nleE (H.nle 10 (ltn len_V194_thispackeda_oz_D8cls rfl)) (show (N 10 : Int) = n10 from en10)
  refine Ew_of (pcₚ := 1) (fun _ => x_aload_n rfl rfl) ?_
  refine v_g H (o := 0) (v := .ref (D 3)) rfl rfl rfl rfl rfl (vrf (pf3)) ?_
  refine v_g H (o := 3) (v := .ref (D 4)) rfl rfl rfl rfl rfl (vrf (pf4)) ?_
  refine v_g H (o := 4) (v := I (u4_1)) rfl rfl rfl rfl rfl (congrArg (fun z : Int => I z) ((eu4_1) : F 4 1 = u4_1)) ?_
  refine Ew_of (pcₚ := 11) (fun _ => x_istore_n rfl) ?_
  refine Ew_of (pcₚ := 12) (fun _ => x_aload_n rfl (rk_o (rfl) rfl rfl)) ?_
  refine Ew_of (pcₚ := 13) (fun _ => x_iload_n rfl rk_s) ?_
  refine w_stat24 rfl rfl (by rfl) (C195_Row (D := puc 1025 D) (N := puc 1025 N) (HW_subc H oz_D8cls_17 oz_D8cls_15) (pf2) (n2) (en2) (u1_1) ((eu1_1)) (show inr (u4_1) from q_2767 h1) (show 0 ≤ (u1_1) ∧ (u1_1) ≤ (n2) ∧ (n2) ≤ 65536 from h0) (fun σ12 D12ₚ N12ₚ F12ₚ A12ₚ c12 s12 Hₚ Oₚ hD12 hN12 hS12 hA12 pm12_1 m12_1 em12_1 y12_0_1 ey12_0_1 pz12_0 => ⟨rfl, ?_⟩))
  refine v_backMc (c := c) (s := s) H oz_D8cls_17 oz_D8cls_15 Hₚ Oₚ hD12 oz_D8cls_18 (fun D12 N12 F12 A12 H Oₚ eD12 eN12 eF12 eA12 => ?_)
  have O := OUT_trans O Oₚ
  -- Tags.packLength
  have cF12 : SF oz_D8clsl_7 F F12 := SF_trans (SF_refl) (SF_gluc (ι := oz_D8clsl_6) oz_D8cls_15 hS12 eF12 (by decide +kernel)) (any_sub (lₚ := [(1, 0), (1, 1), (1, 2)]) (by decide +kernel))
  have mF12 := SFm_of cF12 oz_D8cls_26
  have cA12 : SA oz_D8clsl_8 A A12 := SA_trans (SA_refl) (SA_gluc (ι := oz_D8clsl_6) oz_D8cls_15 hA12 eA12 (by decide +kernel)) (any_subA (lₚ := [2]) (by decide +kernel))
  have mA12 := SAm_of cA12 oz_D8cls_27
  have cD12 : SD oz_D8clsl_9 D D12 := SD_trans (SD_refl) (SD_gluc (ι := oz_D8clsl_6) oz_D8cls_15 hD12 eD12 (by decide +kernel)) (any_subA (lₚ := [2]) (by decide +kernel))
  have mD12 := SDm_of cD12 oz_D8cls_28
  have cN12 : SD oz_D8clsl_9 N N12 := SD_trans (SD_refl) (SD_gluc (ι := oz_D8clsl_6) oz_D8cls_15 hN12 eN12 (by decide +kernel)) (any_subA (lₚ := [2]) (by decide +kernel))
  have mN12 := SDm_of cN12 oz_D8cls_28
  have pf12_1_0 : F12 1 0 = (D12 2 : Int) := (eF12 1 0).trans (pm12_1.trans (congrArg (fun q : Nat => (q : Int)) (eD12 2).symm))
  have pf12_3_1 : F12 3 1 = (D12 8 : Int) := ((show F12 3 1 = F 3 1 from (eF12 3 1))).trans ((pf8).trans (congrArg (fun q : Nat => (q : Int)) ((show D12 8 = D 8 from (eD12 8))).symm))
  have pf12_3_2 : F12 3 2 = (D12 9 : Int) := ((show F12 3 2 = F 3 2 from (eF12 3 2))).trans ((pf9).trans (congrArg (fun q : Nat => (q : Int)) ((show D12 9 = D 9 from (eD12 9))).symm))
  have pf12_3_3 : F12 3 3 = (D12 10 : Int) := ((show F12 3 3 = F 3 3 from (eF12 3 3))).trans ((pf10).trans (congrArg (fun q : Nat => (q : Int)) ((show D12 10 = D 10 from (eD12 10))).symm))
  have pf12_3_8 : F12 3 8 = (D12 6 : Int) := ((show F12 3 8 = F 3 8 from (eF12 3 8))).trans ((pf6).trans (congrArg (fun q : Nat => (q : Int)) ((show D12 6 = D 6 from (eD12 6))).symm))
  have r13 : (0 : Int) ≤ m12_1 ∧ m12_1 ≤ 1000000 := nleE (H.nle 2 (ltn len_V194_thispackeda_oz_D8cls rfl)) (show (N12 2 : Int) = m12_1 from (congrArg (fun q : Nat => (q : Int)) (eN12 2)).trans em12_1)
  have r14 : (-2147483648 : Int) ≤ y12_0_1 ∧ y12_0_1 ≤ 2147483647 := rngE (show (-2147483648 : Int) ≤ F12 1 1 ∧ F12 1 1 ≤ 2147483647 from H.krg 1 1 (ltn len_V194_thispackeda_oz_D8cls rfl)) (show F12 1 1 = y12_0_1 from ((eF12 1 1).trans ey12_0_1))
  refine Ew_of (pcₚ := 17) (fun _ => x_aload_n rfl (rk_o (rfl) rfl rfl)) ?_
  refine Ew_stk (congrArg (fun qz : Nat => ([.ref qz] : List Value)) (show D12 0 = D 0 from mD12 0 rfl).symm) ?_
  refine v_g H (o := 0) (v := .ref (D12 3)) rfl rfl rfl rfl rfl (vrf ((mF12 0 1 rfl).trans ((pf3).trans (congrArg (fun q : Nat => (q : Int)) (mD12 3 rfl).symm)))) ?_
  refine Ew_of (pcₚ := 21) (fun _ => x_iload_n rfl rk_s) ?_
  refine v_inv H (o := 3) rfl rfl rfl rfl rfl rfl (by rfl) (C123 (D := puc 481842956291 D12) (N := puc 481842956291 N12) (HW_subc H oz_D8cls_19 oz_D8cls_29) ((mF12 3 0 rfl).trans ((pf4).trans (congrArg (fun q : Nat => (q : Int)) (mD12 4 rfl).symm))) ((mF12 4 0 rfl).trans ((pf5).trans (congrArg (fun q : Nat => (q : Int)) (mD12 5 rfl).symm))) (pf12_3_8) ((mF12 3 7 rfl).trans ((pf7).trans (congrArg (fun q : Nat => (q : Int)) (mD12 7 rfl).symm))) (n5) ((congrArg (fun q : Nat => (q : Int)) (mN12 5 rfl)).trans (en5)) (n6) ((congrArg (fun q : Nat => (q : Int)) (show N12 6 = N 6 from (eN12 6))).trans (en6)) (n7) ((congrArg (fun q : Nat => (q : Int)) (mN12 7 rfl)).trans (en7)) (u3_6) ((((show F12 3 6 = F 3 6 from (eF12 3 6))).trans (eu3_6))) (u3_10) (((mF12 3 10 rfl).trans (eu3_10))) (u4_1) (((mF12 4 1 rfl).trans (eu4_1))) (w5) ((funext (mA12 5 rfl)).trans (ew5)) (w6) (((show A12 6 = A 6 from (eA12 6))).trans (ew6)) (w7) (((show A12 7 = A 7 from (eA12 7))).trans (ew7)) (show inr (u4_1) from q_2767 h1) (show 0 ≤ (u4_1) ∧ (u4_1) ≤ (n5) ∧ (n5) ≤ 65536 ∧ (u4_1) ≤ 16384 from h1) (show 1 ≤ (u3_10) ∧ (u3_10) ≤ 8 from q_2766 h2) (show 0 ≤ (u4_1) ∧ (u4_1) ≤ (u4_1) from q_2765 h1) (show BKI ((w5)) ((w6)) ((u3_10)) ((u3_6)) from h3) (show HDI ((w5)) ((w7)) ((u3_10)) ((u3_6)) from h4) (show (n7) = 2048 from h6) (show 0 ≤ (u3_6) ∧ (u3_6) ≤ (n6) ∧ (n6) ≤ 16384 from h7) (fun σ15 D15ₚ N15ₚ F15ₚ A15ₚ c15 s15 Hₚ Oₚ hD15 hN15 hS15 hA15 pm15_3 m15_3 em15_3 y15_0_6 ey15_0_6 w15_3 ew15_3 w15_4 ew15_4 pz15_0 pz15_1 pz15_2 pz15_3 pz15_4 => ⟨rfl, ?_⟩))
  refine v_backMc (c := (c + c12)) (s := (s + s12)) H oz_D8cls_19 oz_D8cls_29 Hₚ Oₚ hD15 oz_D8cls_20 (fun D15 N15 F15 A15 H Oₚ eD15 eN15 eF15 eA15 => ?_)
  have O := OUT_trans O Oₚ
  -- Finder.lay
  have cF15 : SF oz_D8clsl_7 F F15 := SF_trans (cF12) (SF_gluc (ι := oz_D8clsl_10) oz_D8cls_29 hS15 eF15 (by decide +kernel)) (any_sub (lₚ := [(3, 6), (3, 8)]) (by decide +kernel))
  have mF15 := SFm_of cF15 oz_D8cls_26
  have cA15 : SA oz_D8clsl_8 A A15 := SA_trans (cA12) (SA_gluc (ι := oz_D8clsl_10) oz_D8cls_29 hA15 eA15 (by decide +kernel)) (any_subA (lₚ := [6, 7]) (by decide +kernel))
  have mA15 := SAm_of cA15 oz_D8cls_27
  have cD15 : SD oz_D8clsl_9 D D15 := SD_trans (cD12) (SD_gluc (ι := oz_D8clsl_10) oz_D8cls_29 hD15 eD15 (by decide +kernel)) (any_subA (lₚ := [6]) (by decide +kernel))
  have mD15 := SDm_of cD15 oz_D8cls_28
  have cN15 : SD oz_D8clsl_9 N N15 := SD_trans (cN12) (SD_gluc (ι := oz_D8clsl_10) oz_D8cls_29 hN15 eN15 (by decide +kernel)) (any_subA (lₚ := [6]) (by decide +kernel))
  have mN15 := SDm_of cN15 oz_D8cls_28
  have pf15_1_0 : F15 1 0 = (D15 2 : Int) := ((show F15 1 0 = F12 1 0 from (eF15 1 0))).trans ((pf12_1_0).trans (congrArg (fun q : Nat => (q : Int)) ((show D15 2 = D12 2 from (eD15 2))).symm))
  have pf15_3_1 : F15 3 1 = (D15 8 : Int) := ((show F15 3 1 = F12 3 1 from (eF15 3 1).trans (hS15 0 1 rfl))).trans ((pf12_3_1).trans (congrArg (fun q : Nat => (q : Int)) ((show D15 8 = D12 8 from (eD15 8))).symm))
  have pf15_3_2 : F15 3 2 = (D15 9 : Int) := ((show F15 3 2 = F12 3 2 from (eF15 3 2).trans (hS15 0 2 rfl))).trans ((pf12_3_2).trans (congrArg (fun q : Nat => (q : Int)) ((show D15 9 = D12 9 from (eD15 9))).symm))
  have pf15_3_3 : F15 3 3 = (D15 10 : Int) := ((show F15 3 3 = F12 3 3 from (eF15 3 3).trans (hS15 0 3 rfl))).trans ((pf12_3_3).trans (congrArg (fun q : Nat => (q : Int)) ((show D15 10 = D12 10 from (eD15 10))).symm))
  have pf15_3_8 : F15 3 8 = (D15 6 : Int) := (eF15 3 8).trans (pm15_3.trans (congrArg (fun q : Nat => (q : Int)) (eD15 6).symm))
  have r16 : (0 : Int) ≤ m15_3 ∧ m15_3 ≤ 1000000 := nleE (H.nle 6 (ltn len_V194_thispackeda_oz_D8cls rfl)) (show (N15 6 : Int) = m15_3 from (congrArg (fun q : Nat => (q : Int)) (eN15 6)).trans em15_3)
  have r17 : (-2147483648 : Int) ≤ y15_0_6 ∧ y15_0_6 ≤ 2147483647 := rngE (show (-2147483648 : Int) ≤ F15 3 6 ∧ F15 3 6 ≤ 2147483647 from H.krg 3 6 (ltn len_V194_thispackeda_oz_D8cls rfl)) (show F15 3 6 = y15_0_6 from ((eF15 3 6).trans ey15_0_6))
  refine Ew_of (pcₚ := 25) (fun _ => x_aload_n rfl (rk_o (rfl) rfl rfl)) ?_
  refine Ew_stk (congrArg (fun qz : Nat => ([.ref qz] : List Value)) (show D15 0 = D 0 from mD15 0 rfl).symm) ?_
  refine v_g H (o := 0) (v := .ref (D15 3)) rfl rfl rfl rfl rfl (vrf ((mF15 0 1 rfl).trans ((pf3).trans (congrArg (fun q : Nat => (q : Int)) (mD15 3 rfl).symm)))) ?_
  refine Ew_of (pcₚ := 29) (fun _ => x_iconst rfl) ?_
  refine Ew_of (pcₚ := 30) (fun _ => x_iload_n rfl rk_s) ?_
  refine Ew_of (pcₚ := 31) (fun _ => x_iload_n rfl rk_s) ?_
  refine Ew_of (pcₚ := 32) (fun _ => x_iload_n rfl rk_s) ?_
  refine Ew_of (pcₚ := 33) (fun _ => x_iconst rfl) ?_
  refine w_isub rfl ?_
  have r18 : (-2147483648 : Int) ≤ F 3 4 ∧ F 3 4 ≤ 2147483647 := rngE (show (-2147483648 : Int) ≤ F15 3 4 ∧ F15 3 4 ≤ 2147483647 from H.krg 3 4 (ltn len_V194_thispackeda_oz_D8cls rfl)) (show F15 3 4 = F 3 4 from (((show F15 3 4 = F12 3 4 from (eF15 3 4).trans (hS15 0 4 rfl))).trans ((show F12 3 4 = F 3 4 from (eF12 3 4)))))
  have r19 : (-2147483648 : Int) ≤ F 3 5 ∧ F 3 5 ≤ 2147483647 := rngE (show (-2147483648 : Int) ≤ F15 3 5 ∧ F15 3 5 ≤ 2147483647 from H.krg 3 5 (ltn len_V194_thispackeda_oz_D8cls rfl)) (show F15 3 5 = F 3 5 from (((show F15 3 5 = F12 3 5 from (eF15 3 5).trans (hS15 0 5 rfl))).trans ((show F12 3 5 = F 3 5 from (eF12 3 5)))))
  refine v_inv H (o := 3) rfl rfl rfl rfl rfl rfl (by rfl) (C125 (D := puc 180461195006052355 D15) (N := puc 180461195006052355 N15) (HW_subc H oz_D8cls_21 oz_D8cls_30) ((mF15 3 0 rfl).trans ((pf4).trans (congrArg (fun q : Nat => (q : Int)) (mD15 4 rfl).symm))) ((mF15 4 0 rfl).trans ((pf5).trans (congrArg (fun q : Nat => (q : Int)) (mD15 5 rfl).symm))) (pf15_3_8) (pf15_3_1) (pf15_3_2) (pf15_3_3) (n5) ((congrArg (fun q : Nat => (q : Int)) (mN15 5 rfl)).trans (en5)) (m15_3) ((congrArg (fun q : Nat => (q : Int)) (eN15 6)).trans em15_3) (n8) ((congrArg (fun q : Nat => (q : Int)) (show N15 8 = N12 8 from (eN15 8))).trans ((congrArg (fun q : Nat => (q : Int)) (show N12 8 = N 8 from (eN12 8))).trans (en8))) (n9) ((congrArg (fun q : Nat => (q : Int)) (show N15 9 = N12 9 from (eN15 9))).trans ((congrArg (fun q : Nat => (q : Int)) (show N12 9 = N 9 from (eN12 9))).trans (en9))) (n10) ((congrArg (fun q : Nat => (q : Int)) (show N15 10 = N12 10 from (eN15 10))).trans ((congrArg (fun q : Nat => (q : Int)) (show N12 10 = N 10 from (eN12 10))).trans (en10))) (F 3 4) ((((show F15 3 4 = F12 3 4 from (eF15 3 4).trans (hS15 0 4 rfl))).trans ((show F12 3 4 = F 3 4 from (eF12 3 4))))) (F 3 5) ((((show F15 3 5 = F12 3 5 from (eF15 3 5).trans (hS15 0 5 rfl))).trans ((show F12 3 5 = F 3 5 from (eF12 3 5))))) (y15_0_6) (((eF15 3 6).trans ey15_0_6)) (u3_10) (((mF15 3 10 rfl).trans (eu3_10))) (u4_1) (((mF15 4 1 rfl).trans (eu4_1))) (w5) ((funext (mA15 5 rfl)).trans (ew5)) (w15_3) ((eA15 6).trans ew15_3) (A 8) (((show A15 8 = A12 8 from (eA15 8))).trans ((show A12 8 = A 8 from (eA12 8)))) (A 9) (((show A15 9 = A12 9 from (eA15 9))).trans ((show A12 9 = A 9 from (eA12 9)))) (A 10) (((show A15 10 = A12 10 from (eA15 10))).trans ((show A12 10 = A 10 from (eA12 10)))) (show inr (0) from q_20) (show inr (u4_1) from q_2767 h1) (show inr (u4_1) from q_2767 h1) (show inr ((u4_1 - 4)) from q_2868 h1) (show 0 ≤ (u4_1) ∧ (u4_1) ≤ (n5) ∧ (n5) ≤ 65536 ∧ (u4_1) ≤ 16384 from h1) (show 1 ≤ (u3_10) ∧ (u3_10) ≤ 8 from q_2766 h2) (show 0 ≤ (0) ∧ (0) ≤ (u4_1) ∧ (u4_1) ≤ (u4_1) from q_2867 h1) (show (u4_1) ≤ (u4_1) ∧ ((u4_1 - 4)) < (u4_1) ∧ ((u4_1 - 4)) < (y15_0_6) from q_2866 h2 pz15_1) (show 0 ≤ (y15_0_6) ∧ (y15_0_6) ≤ (m15_3) ∧ (m15_3) ≤ 16384 from q_2768 h7 pz15_0) (show BKI ((w5)) ((w15_3)) ((u3_10)) ((y15_0_6)) from pz15_3) (show (n8) = (n9) ∧ (n10) = (n9) ∧ (n9) ≤ 65536 ∧ ((n9) = 0 ∨ 64 ≤ (n9)) ∧ lgq ((n9)) = 0 from h5) (fun σ20 D20ₚ N20ₚ F20ₚ A20ₚ c20 s20 Hₚ Oₚ hD20 hN20 hS20 hA20 pm20_4 pm20_5 pm20_6 m20_4 em20_4 m20_5 em20_5 m20_6 em20_6 y20_0_4 ey20_0_4 y20_0_5 ey20_0_5 w20_4 ew20_4 w20_5 ew20_5 w20_6 ew20_6 pz20_0 pz20_1 pz20_2 pz20_3 => ⟨rfl, ?_⟩))
  refine v_backMc (c := ((c + c12) + c15)) (s := ((s + s12) + s15)) H oz_D8cls_21 oz_D8cls_30 Hₚ Oₚ hD20 oz_D8cls_22 (fun D20 N20 F20 A20 H Oₚ eD20 eN20 eF20 eA20 => ?_)
  have O := OUT_trans O Oₚ
  -- Finder.go
  have cF20 : SF oz_D8clsl_7 F F20 := SF_trans (cF15) (SF_gluc (ι := oz_D8clsl_11) oz_D8cls_30 hS20 eF20 (by decide +kernel)) (any_sub (lₚ := [(3, 1), (3, 2), (3, 3), (3, 4), (3, 5), (3, 12), (3, 13), (3, 14), (3, 15), (3, 16), (3, 17), (3, 18)]) (by decide +kernel))
  have mF20 := SFm_of cF20 oz_D8cls_26
  have cA20 : SA oz_D8clsl_8 A A20 := SA_trans (cA15) (SA_gluc (ι := oz_D8clsl_11) oz_D8cls_30 hA20 eA20 (by decide +kernel)) (any_subA (lₚ := [8, 9, 10]) (by decide +kernel))
  have mA20 := SAm_of cA20 oz_D8cls_27
  have cD20 : SD oz_D8clsl_9 D D20 := SD_trans (cD15) (SD_gluc (ι := oz_D8clsl_11) oz_D8cls_30 hD20 eD20 (by decide +kernel)) (any_subA (lₚ := [8, 9, 10]) (by decide +kernel))
  have mD20 := SDm_of cD20 oz_D8cls_28
  have cN20 : SD oz_D8clsl_9 N N20 := SD_trans (cN15) (SD_gluc (ι := oz_D8clsl_11) oz_D8cls_30 hN20 eN20 (by decide +kernel)) (any_subA (lₚ := [8, 9, 10]) (by decide +kernel))
  have mN20 := SDm_of cN20 oz_D8cls_28
  have pf20_1_0 : F20 1 0 = (D20 2 : Int) := ((show F20 1 0 = F15 1 0 from (eF20 1 0))).trans ((pf15_1_0).trans (congrArg (fun q : Nat => (q : Int)) ((show D20 2 = D15 2 from (eD20 2))).symm))
  have pf20_3_1 : F20 3 1 = (D20 8 : Int) := (eF20 3 1).trans (pm20_4.trans (congrArg (fun q : Nat => (q : Int)) (eD20 8).symm))
  have pf20_3_2 : F20 3 2 = (D20 9 : Int) := (eF20 3 2).trans (pm20_5.trans (congrArg (fun q : Nat => (q : Int)) (eD20 9).symm))
  have pf20_3_3 : F20 3 3 = (D20 10 : Int) := (eF20 3 3).trans (pm20_6.trans (congrArg (fun q : Nat => (q : Int)) (eD20 10).symm))
  have pf20_3_8 : F20 3 8 = (D20 6 : Int) := ((show F20 3 8 = F15 3 8 from (eF20 3 8).trans (hS20 0 8 rfl))).trans ((pf15_3_8).trans (congrArg (fun q : Nat => (q : Int)) ((show D20 6 = D15 6 from (eD20 6).trans (hD20 3 rfl))).symm))
  have r21 : (0 : Int) ≤ m20_4 ∧ m20_4 ≤ 1000000 := nleE (H.nle 8 (ltn len_V194_thispackeda_oz_D8cls rfl)) (show (N20 8 : Int) = m20_4 from (congrArg (fun q : Nat => (q : Int)) (eN20 8)).trans em20_4)
  have r22 : (0 : Int) ≤ m20_5 ∧ m20_5 ≤ 1000000 := nleE (H.nle 9 (ltn len_V194_thispackeda_oz_D8cls rfl)) (show (N20 9 : Int) = m20_5 from (congrArg (fun q : Nat => (q : Int)) (eN20 9)).trans em20_5)
  have r23 : (0 : Int) ≤ m20_6 ∧ m20_6 ≤ 1000000 := nleE (H.nle 10 (ltn len_V194_thispackeda_oz_D8cls rfl)) (show (N20 10 : Int) = m20_6 from (congrArg (fun q : Nat => (q : Int)) (eN20 10)).trans em20_6)
  have r24 : (-2147483648 : Int) ≤ y20_0_4 ∧ y20_0_4 ≤ 2147483647 := rngE (show (-2147483648 : Int) ≤ F20 3 4 ∧ F20 3 4 ≤ 2147483647 from H.krg 3 4 (ltn len_V194_thispackeda_oz_D8cls rfl)) (show F20 3 4 = y20_0_4 from ((eF20 3 4).trans ey20_0_4))
  have r25 : (-2147483648 : Int) ≤ y20_0_5 ∧ y20_0_5 ≤ 2147483647 := rngE (show (-2147483648 : Int) ≤ F20 3 5 ∧ F20 3 5 ≤ 2147483647 from H.krg 3 5 (ltn len_V194_thispackeda_oz_D8cls rfl)) (show F20 3 5 = y20_0_5 from ((eF20 3 5).trans ey20_0_5))
  refine Ew_of (pcₚ := 38) (fun _ => x_iconst rfl) ?_
  refine Ew_of (pcₚ := 39) (fun _ => x_istore_n rfl) ?_
  refine Ew_of (pcₚ := 40) (fun _ => x_iconst rfl) ?_
  refine Ew_of (pcₚ := 42) (fun _ => x_istore rfl) ?_
  have : su (fun j => ((w20_4)) j + ((w20_5)) j) (0 : Int).toNat = 0 := rfl
  have hfd : FDI ((w20_4)) ((w20_5)) ((w20_6)) ((y20_0_4)) ((u4_1) - 0 - (y20_0_5)) ((u3_10)) := pz20_3
  suffices hl42 : ∀ (m : Nat), ∀ (ls : rO) (σ : rS) (D_42 N_42 : Nat → Nat) (c_42 s_42 : Nat) (F_42 : hF) (A_42 : hA) (x42_3 : Int) (x42_4 : Int), rlook ls 0 = some (.ref (D_42 0)) → rlook ls 1 = some (.ref (D_42 1)) → rlook ls 3 = some (I (x42_3)) → rlook ls 4 = some (I (x42_4)) → HW V194_thispackeda σ D_42 N_42 F_42 A_42 → OUT (V194_thispackeda).length D N σE c s D_42 N_42 σ c_42 s_42 → SD [2] D20 D_42 → SD [2] N20 N_42 → SF [(1, 0), (1, 1), (1, 2)] F20 F_42 → SA [2] A20 A_42 → F_42 1 0 = (D_42 2 : Int) → ∀ m42_2 : Int, (N_42 2 : Int) = m42_2 → ∀ y42_1_1 : Int, F_42 1 1 = y42_1_1 → (inr (x42_3)) → (inr (x42_4)) → ((0) ≤ (x42_4)) → ((x42_4) ≤ (0) ∨ (x42_4) ≤ ((y20_0_4))) → (0 ≤ (y42_1_1) ∧ (y42_1_1) ≤ (m42_2) ∧ (m42_2) ≤ 65536) → ((x42_3) = su (fun j => ((w20_4)) j + ((w20_5)) j) ((x42_4) : Int).toNat) → (((y20_0_4)) - (x42_4)).toNat = m → Ew 194 (d + 4) 42 ls [] σ c_42 s_42 Q from
    hl42 _ _ _ _ _ _ _ _ _ (0) (0) ((rk_o (rk_o (rk_o (rfl) rfl rfl) rfl rfl) rfl rfl).trans (congrArg (fun q : Nat => some (Value.ref q)) (mD20 0 rfl).symm)) ((rk_o (rk_o (rk_o (rfl) rfl rfl) rfl rfl) rfl rfl).trans (congrArg (fun q : Nat => some (Value.ref q)) (mD20 1 rfl).symm)) (rk_o (rk_s) rfl rfl) (rk_s) H O (SD_refl) (SD_refl) (SF_refl) (SA_refl) (pf20_1_0) (m12_1) ((congrArg (fun q : Nat => (q : Int)) (show N20 2 = N15 2 from (eN20 2))).trans ((congrArg (fun q : Nat => (q : Int)) (show N15 2 = N12 2 from (eN15 2))).trans ((congrArg (fun q : Nat => (q : Int)) (eN12 2)).trans em12_1))) (y12_0_1) (((((show F20 1 1 = F15 1 1 from (eF20 1 1))).trans ((show F15 1 1 = F12 1 1 from (eF15 1 1)))).trans ((eF12 1 1).trans ey12_0_1)))  (show inr (0) from q_20) (show inr (0) from q_20) (show (0) ≤ (0) from q_25) (show (0) ≤ (0) ∨ (0) ≤ ((y20_0_4)) from q_24) (show 0 ≤ (y12_0_1) ∧ (y12_0_1) ≤ (m12_1) ∧ (m12_1) ≤ 65536 from pz12_0) (show (0) = su (fun j => ((w20_4)) j + ((w20_5)) j) ((0) : Int).toNat by omega) rfl
  as_aux_lemma =>
  intro m
  induction m using Nat.strongRecOn with
  | _ m ih42 =>
    intro ls σ D_42 N_42 c_42 s_42 F_42 A_42 x42_3 x42_4 l42_0 l42_1 l42_3 l42_4 H O hD_42 hN_42 hS_42 hA_42 pm42_2 m42_2 em42_2 y42_1_1 ey42_1_1  j42_0 j42_1 j42_2 j42_3 j42_4 j42_5 hm42
    have cF_42 : SF oz_D8clsl_7 F F_42 := SF_trans (cF20) hS_42 (any_sub (by decide +kernel))
    have mF_42 := SFm_of cF_42 oz_D8cls_26
    have cA_42 : SA oz_D8clsl_8 A A_42 := SA_trans (cA20) hA_42 (any_subA (by decide +kernel))
    have mA_42 := SAm_of cA_42 oz_D8cls_27
    have cD_42 : SD oz_D8clsl_9 D D_42 := SD_trans (cD20) hD_42 (any_subA (by decide +kernel))
    have mD_42 := SDm_of cD_42 oz_D8cls_28
    have cN_42 : SD oz_D8clsl_9 N N_42 := SD_trans (cN20) hN_42 (any_subA (by decide +kernel))
    have mN_42 := SDm_of cN_42 oz_D8cls_28
    have pf_42_3_1 : F_42 3 1 = (D_42 8 : Int) := (hS_42 3 1 rfl).trans ((pf20_3_1).trans (congrArg (fun q : Nat => (q : Int)) (hD_42 8 rfl).symm))
    have pf_42_3_2 : F_42 3 2 = (D_42 9 : Int) := (hS_42 3 2 rfl).trans ((pf20_3_2).trans (congrArg (fun q : Nat => (q : Int)) (hD_42 9 rfl).symm))
    have pf_42_3_3 : F_42 3 3 = (D_42 10 : Int) := (hS_42 3 3 rfl).trans ((pf20_3_3).trans (congrArg (fun q : Nat => (q : Int)) (hD_42 10 rfl).symm))
    have pf_42_3_8 : F_42 3 8 = (D_42 6 : Int) := (hS_42 3 8 rfl).trans ((pf20_3_8).trans (congrArg (fun q : Nat => (q : Int)) (hD_42 6 rfl).symm))
    have r26 : (0 : Int) ≤ m42_2 ∧ m42_2 ≤ 1000000 := nleE (H.nle 2 (ltn len_V194_thispackeda_oz_D8cls rfl)) (show (N_42 2 : Int) = m42_2 from em42_2)
    have r27 : (-2147483648 : Int) ≤ y42_1_1 ∧ y42_1_1 ≤ 2147483647 := rngE (show (-2147483648 : Int) ≤ F_42 1 1 ∧ F_42 1 1 ≤ 2147483647 from H.krg 1 1 (ltn len_V194_thispackeda_oz_D8cls rfl)) (show F_42 1 1 = y42_1_1 from (ey42_1_1))
    refine Ew_of (pcₚ := 44) (fun _ => x_iload rfl l42_4) ?_
    refine Ew_of (pcₚ := 45) (fun _ => x_aload_n rfl l42_0) ?_
    refine v_g H (o := 0) (v := .ref (D_42 3)) rfl rfl rfl rfl rfl (vrf ((mF_42 0 1 rfl).trans ((pf3).trans (congrArg (fun q : Nat => (q : Int)) (mD_42 3 rfl).symm)))) ?_
    refine v_g H (o := 3) (v := I (y20_0_4)) rfl rfl rfl rfl rfl (congrArg (fun z : Int => I z) (((hS_42 3 4 rfl).trans ((eF20 3 4).trans ey20_0_4)) : F_42 3 4 = y20_0_4)) ?_
    refine w_icmpge (t := 124) rfl rfl (show inr (x42_4) from j42_1) (show inr (y20_0_4) from q_2869 pz20_1 r24) (fun b28 => ?_) (fun b28 => ?_)
    · have hle : (x42_4) = (y20_0_4) := q_2870 b28 j42_3 pz20_1
      have hst : su (fun j => ((w20_4)) j + ((w20_5)) j) ((x42_4) : Int).toNat = (u4_1) - 0 - (y20_0_5) := by rw [hle]; exact hfd.2
      refine Ew_of (pcₚ := 125) (fun _ => x_aload_n rfl l42_0) ?_
      refine Ew_of (pcₚ := 126) (fun _ => x_aload_n rfl l42_1) ?_
      refine Ew_of (pcₚ := 127) (fun _ => x_iload_n rfl l42_3) ?_
      refine Ew_of (pcₚ := 128) (fun _ => x_aload_n rfl l42_0) ?_
      refine v_g H (o := 0) (v := .ref (D_42 3)) rfl rfl rfl rfl rfl (vrf ((mF_42 0 1 rfl).trans ((pf3).trans (congrArg (fun q : Nat => (q : Int)) (mD_42 3 rfl).symm)))) ?_
      refine v_g H (o := 3) (v := I (y20_0_5)) rfl rfl rfl rfl rfl (congrArg (fun z : Int => I z) (((hS_42 3 5 rfl).trans ((eF20 3 5).trans ey20_0_5)) : F_42 3 5 = y20_0_5)) ?_
      refine v_inv H (o := 0) rfl rfl rfl rfl rfl rfl (by rfl) (C196_thispackeda (D := puc 176197141529088 D_42) (N := puc 176197141529088 N_42) (HW_subc H oz_D8cls_23 oz_D8cls_31) ((mF_42 0 2 rfl).trans ((pf1).trans (congrArg (fun q : Nat => (q : Int)) (mD_42 1 rfl).symm))) (pm42_2) ((mF_42 0 1 rfl).trans ((pf3).trans (congrArg (fun q : Nat => (q : Int)) (mD_42 3 rfl).symm))) ((mF_42 3 0 rfl).trans ((pf4).trans (congrArg (fun q : Nat => (q : Int)) (mD_42 4 rfl).symm))) ((mF_42 4 0 rfl).trans ((pf5).trans (congrArg (fun q : Nat => (q : Int)) (mD_42 5 rfl).symm))) (m42_2) (em42_2) (n5) ((congrArg (fun q : Nat => (q : Int)) (mN_42 5 rfl)).trans (en5)) (y42_1_1) ((ey42_1_1)) (u4_1) (((mF_42 4 1 rfl).trans (eu4_1))) (show inr (x42_3) from j42_0) (show inr (y20_0_5) from q_2871 pz20_2 r25) (show 0 ≤ (y42_1_1) ∧ (y42_1_1) ≤ (m42_2) ∧ (m42_2) ≤ 65536 from j42_4) (show 0 ≤ (u4_1) ∧ (u4_1) ≤ (n5) ∧ (n5) ≤ 65536 from q_2775 h1) (show 0 ≤ (x42_3) ∧ 0 ≤ (y20_0_5) ∧ (x42_3) + (y20_0_5) ≤ (n5) by omega) (fun σ29 D29ₚ N29ₚ F29ₚ A29ₚ c29 s29 Hₚ Oₚ hD29 hN29 hS29 hA29 pm29_2 m29_2 em29_2 y29_1_1 ey29_1_1 pz29_0 => ⟨rfl, ?_⟩))
      refine v_backMc (c := c_42) (s := s_42) H oz_D8cls_23 oz_D8cls_31 Hₚ Oₚ hD29 oz_D8cls_24 (fun D29 N29 F29 A29 H Oₚ eD29 eN29 eF29 eA29 => ?_)
      have O := OUT_trans O Oₚ
      -- Tags.packLiterals
      have cF29 : SF oz_D8clsl_7 F F29 := SF_trans (cF_42) (SF_gluc (ι := oz_D8clsl_12) oz_D8cls_31 hS29 eF29 (by decide +kernel)) (any_sub (lₚ := [(1, 0), (1, 1), (1, 2)]) (by decide +kernel))
      have mF29 := SFm_of cF29 oz_D8cls_26
      have cA29 : SA oz_D8clsl_8 A A29 := SA_trans (cA_42) (SA_gluc (ι := oz_D8clsl_12) oz_D8cls_31 hA29 eA29 (by decide +kernel)) (any_subA (lₚ := [2]) (by decide +kernel))
      have mA29 := SAm_of cA29 oz_D8cls_27
      have cD29 : SD oz_D8clsl_9 D D29 := SD_trans (cD_42) (SD_gluc (ι := oz_D8clsl_12) oz_D8cls_31 hD29 eD29 (by decide +kernel)) (any_subA (lₚ := [2]) (by decide +kernel))
      have mD29 := SDm_of cD29 oz_D8cls_28
      have cN29 : SD oz_D8clsl_9 N N29 := SD_trans (cN_42) (SD_gluc (ι := oz_D8clsl_12) oz_D8cls_31 hN29 eN29 (by decide +kernel)) (any_subA (lₚ := [2]) (by decide +kernel))
      have mN29 := SDm_of cN29 oz_D8cls_28
      have pf29_1_0 : F29 1 0 = (D29 2 : Int) := (eF29 1 0).trans (pm29_2.trans (congrArg (fun q : Nat => (q : Int)) (eD29 2).symm))
      have pf29_3_1 : F29 3 1 = (D29 8 : Int) := ((show F29 3 1 = F_42 3 1 from (eF29 3 1).trans (hS29 3 1 rfl))).trans ((pf_42_3_1).trans (congrArg (fun q : Nat => (q : Int)) ((show D29 8 = D_42 8 from (eD29 8))).symm))
      have pf29_3_2 : F29 3 2 = (D29 9 : Int) := ((show F29 3 2 = F_42 3 2 from (eF29 3 2).trans (hS29 3 2 rfl))).trans ((pf_42_3_2).trans (congrArg (fun q : Nat => (q : Int)) ((show D29 9 = D_42 9 from (eD29 9))).symm))
      have pf29_3_3 : F29 3 3 = (D29 10 : Int) := ((show F29 3 3 = F_42 3 3 from (eF29 3 3).trans (hS29 3 3 rfl))).trans ((pf_42_3_3).trans (congrArg (fun q : Nat => (q : Int)) ((show D29 10 = D_42 10 from (eD29 10))).symm))
      have pf29_3_8 : F29 3 8 = (D29 6 : Int) := ((show F29 3 8 = F_42 3 8 from (eF29 3 8).trans (hS29 3 8 rfl))).trans ((pf_42_3_8).trans (congrArg (fun q : Nat => (q : Int)) ((show D29 6 = D_42 6 from (eD29 6))).symm))
      have r30 : (0 : Int) ≤ m29_2 ∧ m29_2 ≤ 1000000 := nleE (H.nle 2 (ltn len_V194_thispackeda_oz_D8cls rfl)) (show (N29 2 : Int) = m29_2 from (congrArg (fun q : Nat => (q : Int)) (eN29 2)).trans em29_2)
      have r31 : (-2147483648 : Int) ≤ y29_1_1 ∧ y29_1_1 ≤ 2147483647 := rngE (show (-2147483648 : Int) ≤ F29 1 1 ∧ F29 1 1 ≤ 2147483647 from H.krg 1 1 (ltn len_V194_thispackeda_oz_D8cls rfl)) (show F29 1 1 = y29_1_1 from ((eF29 1 1).trans ey29_1_1))
      exact w_ret rfl (k _ _ _ _ _ _ _ H O (cD29) (cN29) (cF29) (cA29) (pf29_1_0) (pf29_3_8) (pf29_3_1) (pf29_3_2) (pf29_3_3) (m29_2) ((congrArg (fun q : Nat => (q : Int)) (eN29 2)).trans em29_2) (m15_3) ((congrArg (fun q : Nat => (q : Int)) (show N29 6 = N_42 6 from (eN29 6))).trans ((congrArg (fun q : Nat => (q : Int)) (hN_42 6 rfl)).trans ((congrArg (fun q : Nat => (q : Int)) (show N20 6 = N15 6 from (eN20 6).trans (hN20 3 rfl))).trans ((congrArg (fun q : Nat => (q : Int)) (eN15 6)).trans em15_3)))) (m20_4) ((congrArg (fun q : Nat => (q : Int)) (show N29 8 = N_42 8 from (eN29 8))).trans ((congrArg (fun q : Nat => (q : Int)) (hN_42 8 rfl)).trans ((congrArg (fun q : Nat => (q : Int)) (eN20 8)).trans em20_4))) (m20_5) ((congrArg (fun q : Nat => (q : Int)) (show N29 9 = N_42 9 from (eN29 9))).trans ((congrArg (fun q : Nat => (q : Int)) (hN_42 9 rfl)).trans ((congrArg (fun q : Nat => (q : Int)) (eN20 9)).trans em20_5))) (m20_6) ((congrArg (fun q : Nat => (q : Int)) (show N29 10 = N_42 10 from (eN29 10))).trans ((congrArg (fun q : Nat => (q : Int)) (hN_42 10 rfl)).trans ((congrArg (fun q : Nat => (q : Int)) (eN20 10)).trans em20_6))) (y29_1_1) (((eF29 1 1).trans ey29_1_1)) (y15_0_6) ((((((show F29 3 6 = F_42 3 6 from (eF29 3 6).trans (hS29 3 6 rfl))).trans (hS_42 3 6 rfl)).trans ((show F20 3 6 = F15 3 6 from (eF20 3 6).trans (hS20 0 6 rfl)))).trans ((eF15 3 6).trans ey15_0_6))) (w15_3) (((show A29 6 = A_42 6 from (eA29 6))).trans ((funext (hA_42 6 rfl)).trans (((show A20 6 = A15 6 from (eA20 6).trans (funext (hA20 3 rfl)))).trans ((eA15 6).trans ew15_3)))) (w15_4) (((show A29 7 = A_42 7 from (eA29 7))).trans ((funext (hA_42 7 rfl)).trans (((show A20 7 = A15 7 from (eA20 7))).trans ((eA15 7).trans ew15_4)))) (show 0 ≤ (y29_1_1) ∧ (y29_1_1) ≤ (m29_2) ∧ (m29_2) ≤ 65536 from pz29_0) (show 0 ≤ (y15_0_6) ∧ (u3_6) ≤ (y15_0_6) ∧ (y15_0_6) ≤ (m15_3) ∧ (m15_3) ≤ 16384 from q_2777 h7 pz15_0) (show (m20_4) = (m20_5) ∧ (m20_6) = (m20_5) ∧ (m20_5) ≤ 65536 ∧ ((m20_5) = 0 ∨ 64 ≤ (m20_5)) ∧ lgq ((m20_5)) = 0 from pz20_0) (show BKI ((w5)) ((w15_3)) ((u3_10)) ((y15_0_6)) from pz15_3) (show HDI ((w5)) ((w15_4)) ((u3_10)) ((y15_0_6)) from pz15_4) (show (y15_0_6) = (u3_6) ∨ (y15_0_6) + 4 ≤ (u4_1) + 1 by omega))
    · have hfp := FDI_part (i := (x42_4)) hfd (by omega) (by omega) (by omega)
      have hfj := hfd.1 ((x42_4)) (by omega) (by omega)
      refine Ew_of (pcₚ := 55) (fun _ => x_aload_n rfl l42_0) ?_
      refine Ew_of (pcₚ := 56) (fun _ => x_aload_n rfl l42_1) ?_
      refine Ew_of (pcₚ := 57) (fun _ => x_iload_n rfl l42_3) ?_
      refine Ew_of (pcₚ := 58) (fun _ => x_aload_n rfl l42_0) ?_
      refine v_g H (o := 0) (v := .ref (D_42 3)) rfl rfl rfl rfl rfl (vrf ((mF_42 0 1 rfl).trans ((pf3).trans (congrArg (fun q : Nat => (q : Int)) (mD_42 3 rfl).symm)))) ?_
      refine v_g H (o := 3) (v := .ref (D_42 8)) rfl rfl rfl rfl rfl (vrf (pf_42_3_1)) ?_
      refine Ew_of (pcₚ := 66) (fun _ => x_iload rfl l42_4) ?_
      refine v_lI H (o := 8) rfl rfl rfl rfl (n := m20_4) ((congrArg (fun q : Nat => (q : Int)) (hN_42 8 rfl)).trans ((congrArg (fun q : Nat => (q : Int)) (eN20 8)).trans em20_4)) (show 0 ≤ x42_4 ∧ x42_4 < m20_4 from q_2872 b28 j42_2 pz20_0 pz20_1) (fun v32 ev32 qv32 => ?_)
      have ev32 : (w20_4) (x42_4) = v32 := (congrFun ((funext (hA_42 8 rfl)).trans ((eA20 8).trans ew20_4)) (x42_4)).symm.trans ev32
      refine v_inv H (o := 0) rfl rfl rfl rfl rfl rfl (by rfl) (C196_thispackeda (D := puc 176197141529088 D_42) (N := puc 176197141529088 N_42) (HW_subc H oz_D8cls_23 oz_D8cls_31) ((mF_42 0 2 rfl).trans ((pf1).trans (congrArg (fun q : Nat => (q : Int)) (mD_42 1 rfl).symm))) (pm42_2) ((mF_42 0 1 rfl).trans ((pf3).trans (congrArg (fun q : Nat => (q : Int)) (mD_42 3 rfl).symm))) ((mF_42 3 0 rfl).trans ((pf4).trans (congrArg (fun q : Nat => (q : Int)) (mD_42 4 rfl).symm))) ((mF_42 4 0 rfl).trans ((pf5).trans (congrArg (fun q : Nat => (q : Int)) (mD_42 5 rfl).symm))) (m42_2) (em42_2) (n5) ((congrArg (fun q : Nat => (q : Int)) (mN_42 5 rfl)).trans (en5)) (y42_1_1) ((ey42_1_1)) (u4_1) (((mF_42 4 1 rfl).trans (eu4_1))) (show inr (x42_3) from j42_0) (show inr (v32) from qv32) (show 0 ≤ (y42_1_1) ∧ (y42_1_1) ≤ (m42_2) ∧ (m42_2) ≤ 65536 from j42_4) (show 0 ≤ (u4_1) ∧ (u4_1) ≤ (n5) ∧ (n5) ≤ 65536 from q_2775 h1) (show 0 ≤ (x42_3) ∧ 0 ≤ (v32) ∧ (x42_3) + (v32) ≤ (n5) by omega) (fun σ33 D33ₚ N33ₚ F33ₚ A33ₚ c33 s33 Hₚ Oₚ hD33 hN33 hS33 hA33 pm33_2 m33_2 em33_2 y33_1_1 ey33_1_1 pz33_0 => ⟨rfl, ?_⟩))
      refine v_backMc (c := c_42) (s := s_42) H oz_D8cls_23 oz_D8cls_31 Hₚ Oₚ hD33 oz_D8cls_24 (fun D33 N33 F33 A33 H Oₚ eD33 eN33 eF33 eA33 => ?_)
      have O := OUT_trans O Oₚ
      -- Tags.packLiterals
      have cF33 : SF oz_D8clsl_7 F F33 := SF_trans (cF_42) (SF_gluc (ι := oz_D8clsl_12) oz_D8cls_31 hS33 eF33 (by decide +kernel)) (any_sub (lₚ := [(1, 0), (1, 1), (1, 2)]) (by decide +kernel))
      have mF33 := SFm_of cF33 oz_D8cls_26
      have cA33 : SA oz_D8clsl_8 A A33 := SA_trans (cA_42) (SA_gluc (ι := oz_D8clsl_12) oz_D8cls_31 hA33 eA33 (by decide +kernel)) (any_subA (lₚ := [2]) (by decide +kernel))
      have mA33 := SAm_of cA33 oz_D8cls_27
      have cD33 : SD oz_D8clsl_9 D D33 := SD_trans (cD_42) (SD_gluc (ι := oz_D8clsl_12) oz_D8cls_31 hD33 eD33 (by decide +kernel)) (any_subA (lₚ := [2]) (by decide +kernel))
      have mD33 := SDm_of cD33 oz_D8cls_28
      have cN33 : SD oz_D8clsl_9 N N33 := SD_trans (cN_42) (SD_gluc (ι := oz_D8clsl_12) oz_D8cls_31 hN33 eN33 (by decide +kernel)) (any_subA (lₚ := [2]) (by decide +kernel))
      have mN33 := SDm_of cN33 oz_D8cls_28
      have pf33_1_0 : F33 1 0 = (D33 2 : Int) := (eF33 1 0).trans (pm33_2.trans (congrArg (fun q : Nat => (q : Int)) (eD33 2).symm))
      have pf33_3_1 : F33 3 1 = (D33 8 : Int) := ((show F33 3 1 = F_42 3 1 from (eF33 3 1).trans (hS33 3 1 rfl))).trans ((pf_42_3_1).trans (congrArg (fun q : Nat => (q : Int)) ((show D33 8 = D_42 8 from (eD33 8))).symm))
      have pf33_3_2 : F33 3 2 = (D33 9 : Int) := ((show F33 3 2 = F_42 3 2 from (eF33 3 2).trans (hS33 3 2 rfl))).trans ((pf_42_3_2).trans (congrArg (fun q : Nat => (q : Int)) ((show D33 9 = D_42 9 from (eD33 9))).symm))
      have pf33_3_3 : F33 3 3 = (D33 10 : Int) := ((show F33 3 3 = F_42 3 3 from (eF33 3 3).trans (hS33 3 3 rfl))).trans ((pf_42_3_3).trans (congrArg (fun q : Nat => (q : Int)) ((show D33 10 = D_42 10 from (eD33 10))).symm))
      have pf33_3_8 : F33 3 8 = (D33 6 : Int) := ((show F33 3 8 = F_42 3 8 from (eF33 3 8).trans (hS33 3 8 rfl))).trans ((pf_42_3_8).trans (congrArg (fun q : Nat => (q : Int)) ((show D33 6 = D_42 6 from (eD33 6))).symm))
      have r34 : (0 : Int) ≤ m33_2 ∧ m33_2 ≤ 1000000 := nleE (H.nle 2 (ltn len_V194_thispackeda_oz_D8cls rfl)) (show (N33 2 : Int) = m33_2 from (congrArg (fun q : Nat => (q : Int)) (eN33 2)).trans em33_2)
      have r35 : (-2147483648 : Int) ≤ y33_1_1 ∧ y33_1_1 ≤ 2147483647 := rngE (show (-2147483648 : Int) ≤ F33 1 1 ∧ F33 1 1 ≤ 2147483647 from H.krg 1 1 (ltn len_V194_thispackeda_oz_D8cls rfl)) (show F33 1 1 = y33_1_1 from ((eF33 1 1).trans ey33_1_1))
      refine Ew_of (pcₚ := 71) (fun _ => x_aload_n rfl l42_1) ?_
      refine Ew_of (pcₚ := 72) (fun _ => x_aload_n rfl l42_0) ?_
      refine Ew_stk (show ([.ref (D_42 0), .ref (D_42 1)] : List Value) = [.ref (D33 0), .ref (D33 1)] by rw [show D33 0 = D_42 0 from ((show D33 0 = D_42 0 from (eD33 0).trans (hD33 0 rfl))), show D33 1 = D_42 1 from ((show D33 1 = D_42 1 from (eD33 1).trans (hD33 1 rfl)))]) ?_
      refine v_g H (o := 0) (v := .ref (D33 3)) rfl rfl rfl rfl rfl (vrf ((mF33 0 1 rfl).trans ((pf3).trans (congrArg (fun q : Nat => (q : Int)) (mD33 3 rfl).symm)))) ?_
      refine v_g H (o := 3) (v := .ref (D33 9)) rfl rfl rfl rfl rfl (vrf (pf33_3_2)) ?_
      refine Ew_of (pcₚ := 80) (fun _ => x_iload rfl l42_4) ?_
      refine v_lI H (o := 9) rfl rfl rfl rfl (n := m20_5) ((congrArg (fun q : Nat => (q : Int)) (show N33 9 = N_42 9 from (eN33 9))).trans ((congrArg (fun q : Nat => (q : Int)) (hN_42 9 rfl)).trans ((congrArg (fun q : Nat => (q : Int)) (eN20 9)).trans em20_5))) (show 0 ≤ x42_4 ∧ x42_4 < m20_5 from q_2873 b28 j42_2 pz20_1) (fun v36 ev36 qv36 => ?_)
      have ev36 : (w20_5) (x42_4) = v36 := (congrFun (((show A33 9 = A_42 9 from (eA33 9))).trans ((funext (hA_42 9 rfl)).trans ((eA20 9).trans ew20_5))) (x42_4)).symm.trans ev36
      refine Ew_of (pcₚ := 82) (fun _ => x_aload_n rfl l42_0) ?_
      refine Ew_stk (congrArg (fun qz : Nat => ([.ref qz, I (v36), .ref (D33 1)] : List Value)) (show D33 0 = D_42 0 from ((show D33 0 = D_42 0 from (eD33 0).trans (hD33 0 rfl)))).symm) ?_
      refine v_g H (o := 0) (v := .ref (D33 3)) rfl rfl rfl rfl rfl (vrf ((mF33 0 1 rfl).trans ((pf3).trans (congrArg (fun q : Nat => (q : Int)) (mD33 3 rfl).symm)))) ?_
      refine v_g H (o := 3) (v := .ref (D33 10)) rfl rfl rfl rfl rfl (vrf (pf33_3_3)) ?_
      refine Ew_of (pcₚ := 90) (fun _ => x_iload rfl l42_4) ?_
      refine v_lI H (o := 10) rfl rfl rfl rfl (n := m20_6) ((congrArg (fun q : Nat => (q : Int)) (show N33 10 = N_42 10 from (eN33 10))).trans ((congrArg (fun q : Nat => (q : Int)) (hN_42 10 rfl)).trans ((congrArg (fun q : Nat => (q : Int)) (eN20 10)).trans em20_6))) (show 0 ≤ x42_4 ∧ x42_4 < m20_6 from q_2874 b28 j42_2 pz20_0 pz20_1) (fun v37 ev37 qv37 => ?_)
      have ev37 : (w20_6) (x42_4) = v37 := (congrFun (((show A33 10 = A_42 10 from (eA33 10))).trans ((funext (hA_42 10 rfl)).trans ((eA20 10).trans ew20_6))) (x42_4)).symm.trans ev37
      refine w_stat24 rfl rfl (by rfl) (C197_Row (D := puc 1025 D33) (N := puc 1025 N33) (HW_subc H oz_D8cls_25 oz_D8cls_15) (pf33_1_0) (m33_2) ((congrArg (fun q : Nat => (q : Int)) (eN33 2)).trans em33_2) (y33_1_1) (((eF33 1 1).trans ey33_1_1)) (show inr (v36) from qv36) (show inr (v37) from qv37) (show 0 ≤ (y33_1_1) ∧ (y33_1_1) ≤ (m33_2) ∧ (m33_2) ≤ 65536 from pz33_0) (show 0 ≤ (v36) ∧ (v36) ≤ 65536 by omega) (fun σ38 D38ₚ N38ₚ F38ₚ A38ₚ c38 s38 Hₚ Oₚ hD38 hN38 hS38 hA38 pm38_1 m38_1 em38_1 y38_0_1 ey38_0_1 pz38_0 => ⟨rfl, ?_⟩))
      refine v_backMc (c := (c_42 + c33)) (s := (s_42 + s33)) H oz_D8cls_25 oz_D8cls_15 Hₚ Oₚ hD38 oz_D8cls_18 (fun D38 N38 F38 A38 H Oₚ eD38 eN38 eF38 eA38 => ?_)
      have O := OUT_trans O Oₚ
      -- Tags.packCopies
      have cF38 : SF oz_D8clsl_7 F F38 := SF_trans (cF33) (SF_gluc (ι := oz_D8clsl_6) oz_D8cls_15 hS38 eF38 (by decide +kernel)) (any_sub (lₚ := [(1, 0), (1, 1), (1, 2)]) (by decide +kernel))
      have mF38 := SFm_of cF38 oz_D8cls_26
      have cA38 : SA oz_D8clsl_8 A A38 := SA_trans (cA33) (SA_gluc (ι := oz_D8clsl_6) oz_D8cls_15 hA38 eA38 (by decide +kernel)) (any_subA (lₚ := [2]) (by decide +kernel))
      have mA38 := SAm_of cA38 oz_D8cls_27
      have cD38 : SD oz_D8clsl_9 D D38 := SD_trans (cD33) (SD_gluc (ι := oz_D8clsl_6) oz_D8cls_15 hD38 eD38 (by decide +kernel)) (any_subA (lₚ := [2]) (by decide +kernel))
      have mD38 := SDm_of cD38 oz_D8cls_28
      have cN38 : SD oz_D8clsl_9 N N38 := SD_trans (cN33) (SD_gluc (ι := oz_D8clsl_6) oz_D8cls_15 hN38 eN38 (by decide +kernel)) (any_subA (lₚ := [2]) (by decide +kernel))
      have mN38 := SDm_of cN38 oz_D8cls_28
      have pf38_1_0 : F38 1 0 = (D38 2 : Int) := (eF38 1 0).trans (pm38_1.trans (congrArg (fun q : Nat => (q : Int)) (eD38 2).symm))
      have pf38_3_1 : F38 3 1 = (D38 8 : Int) := ((show F38 3 1 = F33 3 1 from (eF38 3 1))).trans ((pf33_3_1).trans (congrArg (fun q : Nat => (q : Int)) ((show D38 8 = D33 8 from (eD38 8))).symm))
      have pf38_3_2 : F38 3 2 = (D38 9 : Int) := ((show F38 3 2 = F33 3 2 from (eF38 3 2))).trans ((pf33_3_2).trans (congrArg (fun q : Nat => (q : Int)) ((show D38 9 = D33 9 from (eD38 9))).symm))
      have pf38_3_3 : F38 3 3 = (D38 10 : Int) := ((show F38 3 3 = F33 3 3 from (eF38 3 3))).trans ((pf33_3_3).trans (congrArg (fun q : Nat => (q : Int)) ((show D38 10 = D33 10 from (eD38 10))).symm))
      have pf38_3_8 : F38 3 8 = (D38 6 : Int) := ((show F38 3 8 = F33 3 8 from (eF38 3 8))).trans ((pf33_3_8).trans (congrArg (fun q : Nat => (q : Int)) ((show D38 6 = D33 6 from (eD38 6))).symm))
      have r39 : (0 : Int) ≤ m38_1 ∧ m38_1 ≤ 1000000 := nleE (H.nle 2 (ltn len_V194_thispackeda_oz_D8cls rfl)) (show (N38 2 : Int) = m38_1 from (congrArg (fun q : Nat => (q : Int)) (eN38 2)).trans em38_1)
      have r40 : (-2147483648 : Int) ≤ y38_0_1 ∧ y38_0_1 ≤ 2147483647 := rngE (show (-2147483648 : Int) ≤ F38 1 1 ∧ F38 1 1 ≤ 2147483647 from H.krg 1 1 (ltn len_V194_thispackeda_oz_D8cls rfl)) (show F38 1 1 = y38_0_1 from ((eF38 1 1).trans ey38_0_1))
      refine Ew_of (pcₚ := 95) (fun _ => x_iload_n rfl l42_3) ?_
      refine Ew_of (pcₚ := 96) (fun _ => x_aload_n rfl l42_0) ?_
      refine Ew_stk (congrArg (fun qz : Nat => ([.ref qz, I (x42_3)] : List Value)) (show D38 0 = D_42 0 from (((show D38 0 = D33 0 from (eD38 0))).trans ((show D33 0 = D_42 0 from (eD33 0).trans (hD33 0 rfl))))).symm) ?_
      refine v_g H (o := 0) (v := .ref (D38 3)) rfl rfl rfl rfl rfl (vrf ((mF38 0 1 rfl).trans ((pf3).trans (congrArg (fun q : Nat => (q : Int)) (mD38 3 rfl).symm)))) ?_
      refine v_g H (o := 3) (v := .ref (D38 8)) rfl rfl rfl rfl rfl (vrf (pf38_3_1)) ?_
      refine Ew_of (pcₚ := 104) (fun _ => x_iload rfl l42_4) ?_
      refine v_lI H (o := 8) rfl rfl rfl rfl (n := m20_4) ((congrArg (fun q : Nat => (q : Int)) (show N38 8 = N33 8 from (eN38 8))).trans ((congrArg (fun q : Nat => (q : Int)) (show N33 8 = N_42 8 from (eN33 8))).trans ((congrArg (fun q : Nat => (q : Int)) (hN_42 8 rfl)).trans ((congrArg (fun q : Nat => (q : Int)) (eN20 8)).trans em20_4)))) (show 0 ≤ x42_4 ∧ x42_4 < m20_4 from q_2872 b28 j42_2 pz20_0 pz20_1) (fun v41 ev41 qv41 => ?_)
      have ev41 : (w20_4) (x42_4) = v41 := (congrFun (((show A38 8 = A33 8 from (eA38 8))).trans (((show A33 8 = A_42 8 from (eA33 8))).trans ((funext (hA_42 8 rfl)).trans ((eA20 8).trans ew20_4)))) (x42_4)).symm.trans ev41
      refine Ew_of (pcₚ := 106) (fun _ => x_aload_n rfl l42_0) ?_
      refine Ew_stk (congrArg (fun qz : Nat => ([.ref qz, I (v41), I (x42_3)] : List Value)) (show D38 0 = D_42 0 from (((show D38 0 = D33 0 from (eD38 0))).trans ((show D33 0 = D_42 0 from (eD33 0).trans (hD33 0 rfl))))).symm) ?_
      refine v_g H (o := 0) (v := .ref (D38 3)) rfl rfl rfl rfl rfl (vrf ((mF38 0 1 rfl).trans ((pf3).trans (congrArg (fun q : Nat => (q : Int)) (mD38 3 rfl).symm)))) ?_
      refine v_g H (o := 3) (v := .ref (D38 9)) rfl rfl rfl rfl rfl (vrf (pf38_3_2)) ?_
      refine Ew_of (pcₚ := 114) (fun _ => x_iload rfl l42_4) ?_
      refine v_lI H (o := 9) rfl rfl rfl rfl (n := m20_5) ((congrArg (fun q : Nat => (q : Int)) (show N38 9 = N33 9 from (eN38 9))).trans ((congrArg (fun q : Nat => (q : Int)) (show N33 9 = N_42 9 from (eN33 9))).trans ((congrArg (fun q : Nat => (q : Int)) (hN_42 9 rfl)).trans ((congrArg (fun q : Nat => (q : Int)) (eN20 9)).trans em20_5)))) (show 0 ≤ x42_4 ∧ x42_4 < m20_5 from q_2873 b28 j42_2 pz20_1) (fun v42 ev42 qv42 => ?_)
      have ev42 : (w20_5) (x42_4) = v42 := (congrFun (((show A38 9 = A33 9 from (eA38 9))).trans (((show A33 9 = A_42 9 from (eA33 9))).trans ((funext (hA_42 9 rfl)).trans ((eA20 9).trans ew20_5)))) (x42_4)).symm.trans ev42
      refine w_iadd rfl ?_
      refine w_iadd rfl ?_
      refine Ew_of (pcₚ := 118) (fun _ => x_istore_n rfl) ?_
      refine Ew_of (pcₚ := 121) (fun _ => x_iinc (len := 3) rfl (rk_o (l42_4) rfl rfl)) ?_
      refine Ew_of (pcₚ := 42) (fun _ => x_goto rfl rfl) ?_
      exact ih42 _ (msE hm42 q_31 (q_34 b28)) _ _ _ _ _ _ _ _ ((x42_3 + (v41 + v42))) ((x42_4 + 1)) ((rk_o (rk_o (l42_0) rfl rfl) rfl rfl).trans (congrArg (fun q : Nat => some (Value.ref q)) ((((show D38 0 = D33 0 from (eD38 0))).trans ((show D33 0 = D_42 0 from (eD33 0).trans (hD33 0 rfl))))).symm)) ((rk_o (rk_o (l42_1) rfl rfl) rfl rfl).trans (congrArg (fun q : Nat => some (Value.ref q)) ((((show D38 1 = D33 1 from (eD38 1).trans (hD38 0 rfl))).trans ((show D33 1 = D_42 1 from (eD33 1).trans (hD33 1 rfl))))).symm)) (rk_o (rk_s) rfl rfl) (rk_s) H O (SD_trans (SD_trans (hD_42) (SD_gluc (ι := oz_D8clsl_12) oz_D8cls_31 hD33 eD33 (by decide +kernel)) (any_subA (lₚ := [2]) (by decide +kernel))) (SD_gluc (ι := oz_D8clsl_6) oz_D8cls_15 hD38 eD38 (by decide +kernel)) (any_subA (lₚ := [2]) (by decide +kernel))) (SD_trans (SD_trans (hN_42) (SD_gluc (ι := oz_D8clsl_12) oz_D8cls_31 hN33 eN33 (by decide +kernel)) (any_subA (lₚ := [2]) (by decide +kernel))) (SD_gluc (ι := oz_D8clsl_6) oz_D8cls_15 hN38 eN38 (by decide +kernel)) (any_subA (lₚ := [2]) (by decide +kernel))) (SF_trans (SF_trans (hS_42) (SF_gluc (ι := oz_D8clsl_12) oz_D8cls_31 hS33 eF33 (by decide +kernel)) (any_sub (lₚ := [(1, 0), (1, 1), (1, 2)]) (by decide +kernel))) (SF_gluc (ι := oz_D8clsl_6) oz_D8cls_15 hS38 eF38 (by decide +kernel)) (any_sub (lₚ := [(1, 0), (1, 1), (1, 2)]) (by decide +kernel))) (SA_trans (SA_trans (hA_42) (SA_gluc (ι := oz_D8clsl_12) oz_D8cls_31 hA33 eA33 (by decide +kernel)) (any_subA (lₚ := [2]) (by decide +kernel))) (SA_gluc (ι := oz_D8clsl_6) oz_D8cls_15 hA38 eA38 (by decide +kernel)) (any_subA (lₚ := [2]) (by decide +kernel))) (pf38_1_0) (m38_1) ((congrArg (fun q : Nat => (q : Int)) (eN38 2)).trans em38_1) (y38_0_1) (((eF38 1 1).trans ey38_0_1))  (show inr ((x42_3 + (v41 + v42))) by omega) (show inr ((x42_4 + 1)) from q_2875 b28 j42_2 r24) (show (0) ≤ ((x42_4 + 1)) from q_29 j42_2) (show ((x42_4 + 1)) ≤ (0) ∨ ((x42_4 + 1)) ≤ ((y20_0_4)) from q_33 b28) (show 0 ≤ (y38_0_1) ∧ (y38_0_1) ≤ (m38_1) ∧ (m38_1) ≤ 65536 from pz38_0) (show ((x42_3 + (v41 + v42))) = su (fun j => ((w20_4)) j + ((w20_5)) j) (((x42_4 + 1)) : Int).toNat by omega) rfl
abbrev V202_Row_thispackeda : vV := [(0, 10, [(4, 0), (4, 0), (4, 0), (4, 0), (0, 0), (4, 0), (0, 0), (2, 0), (0, 0)]), (0, 7, [(4, 0), (0, 0), (1, 0), (0, 0), (0, 0)]), (1, 0, []), (0, 7, [(4, 0), (0, 0), (1, 0), (0, 0), (0, 0)]), (1, 0, []), (0, 5, [(4, 0), (4, 0), (4, 0), (4, 0), (0, 0), (0, 0), (0, 0), (4, 0), (4, 0), (0, 0), (0, 0), (0, 0), (0, 0), (0, 0), (0, 0), (0, 0), (0, 0), (0, 0), (0, 0)]), (0, 7, [(4, 0), (0, 0), (1, 0), (0, 0), (0, 0)]), (1, 0, [])]
theorem len_V202_Row_thispackeda_oz_D8cls : (V202_Row_thispackeda).length = 8 := by decide +kernel
theorem oz_D8cls_33 : vsub V202_Row_thispackeda V160 [1, 2] = true := by decide +kernel
theorem oz_D8cls_34 : vmov V202_Row_thispackeda [1, 2] [1] = true := by decide +kernel
theorem oz_D8cls_35 : vsub V202_Row_thispackeda V53_Br [7] = true := by decide +kernel
theorem oz_D8cls_36 : vsub V202_Row_thispackeda V54 [] = true := by decide +kernel
theorem oz_D8cls_37 : vsub V202_Row_thispackeda V161_Br [1, 4, 2] = true := by decide +kernel
theorem oz_D8cls_38 : vmov V202_Row_thispackeda [1, 4, 2] [2] = true := by decide +kernel
def oz_D8clsl_13 : List Nat := [7]
theorem oz_D8cls_39 : okc oz_D8clsl_13 7 = true := by decide +kernel
def oz_D8clsl_14 : List Nat := []
theorem oz_D8cls_40 : okc oz_D8clsl_14 0 = true := by decide +kernel
def oz_D8clsl_15 : List Nat := [1, 4, 2]
theorem oz_D8cls_41 : okc oz_D8clsl_15 526337 = true := by decide +kernel
/-- Tags.addChunk: this, #1, #1.bytes, this.packed, this.packed.bytes, this.finder, this.finder.data, this.finder.data.bytes -/
theorem C202_Row_thispackeda {σE : rS} {D N : Nat → Nat} {F : hF} {A : hA} {d c s : Nat} {Q : wQ} (H : HW V202_Row_thispackeda σE D N F A) (HT : STC σE) {a3 : Int} (pf2 : F 1 0 = (D 2 : Int)) (pf3 : F 0 2 = (D 3 : Int)) (pf4 : F 3 0 = (D 4 : Int)) (pf5 : F 0 1 = (D 5 : Int)) (pf6 : F 5 0 = (D 6 : Int)) (pf7 : F 6 0 = (D 7 : Int)) (n2 : Int) (en2 : (N 2 : Int) = n2) (n4 : Int) (en4 : (N 4 : Int) = n4) (n7 : Int) (en7 : (N 7 : Int) = n7) (u1_1 : Int) (eu1_1 : F 1 1 = u1_1) (u3_1 : Int) (eu3_1 : F 3 1 = u3_1) (u6_1 : Int) (eu6_1 : F 6 1 = u6_1) (h0 : inr (a3)) (h1 : 0 ≤ (u1_1) ∧ (u1_1) ≤ (n2) ∧ (n2) ≤ 65536) (h2 : 0 ≤ (u3_1) ∧ (u3_1) ≤ (n4) ∧ (n4) ≤ 65536) (h3 : 0 ≤ (u6_1) ∧ (u6_1) ≤ (n7) ∧ (n7) ≤ 65536) (k : ∀ (σ : rS) (Dₚ Nₚ : Nat → Nat) (Fₚ : hF) (Aₚ : hA) (cₚ sₚ : Nat), HW V202_Row_thispackeda σ Dₚ Nₚ Fₚ Aₚ → OUT (V202_Row_thispackeda).length D N σE c s Dₚ Nₚ σ cₚ sₚ → SD [2] D Dₚ → SD [2] N Nₚ → SF [(1, 0), (1, 1), (1, 2)] F Fₚ → SA [2] A Aₚ → Fₚ 1 0 = (Dₚ 2 : Int) → ∀ m2 : Int, (Nₚ 2 : Int) = m2 → ∀ y1_1 : Int, Fₚ 1 1 = y1_1 → (0 ≤ (y1_1) ∧ (y1_1) ≤ (m2) ∧ (m2) ≤ 65536) → Q none σ cₚ sₚ) : Ew 202 (d + 3) 0 (rargs 0 [.ref (D 0), .ref (D 1), .ref (D 3), I a3]) [] σE c s Q := by
  have O := OUT_refl (n := (V202_Row_thispackeda).length) (D := D) (N := N) (σ := σE) (c := c) (s := s)
  have HE := H
  have r1 : (-2147483648 : Int) ≤ u1_1 ∧ u1_1 ≤ 2147483647 := rngE (show (-2147483648 : Int) ≤ F 1 1 ∧ F 1 1 ≤ 2147483647 from H.krg 1 1 (ltn len_V202_Row_thispackeda_oz_D8cls rfl)) (show F 1 1 = u1_1 from (eu1_1))
  have r2 : (-2147483648 : Int) ≤ u3_1 ∧ u3_1 ≤ 2147483647 := rngE (show (-2147483648 : Int) ≤ F 3 1 ∧ F 3 1 ≤ 2147483647 from H.krg 3 1 (ltn len_V202_Row_thispackeda_oz_D8cls rfl)) (show F 3 1 = u3_1 from (eu3_1))
  have r3 : (-2147483648 : Int) ≤ u6_1 ∧ u6_1 ≤ 2147483647 := rngE (show (-2147483648 : Int) ≤ F 6 1 ∧ F 6 1 ≤ 2147483647 from H.krg 6 1 (ltn len_V202_Row_thispackeda_oz_D8cls rfl)) (show F 6 1 = u6_1 from (eu6_1))
  have r4 : (0 : Int) ≤ n2 ∧ n2 ≤ 1000000 := nleE (H.nle 2 (ltn len_V202_Row_thispackeda_oz_D8cls rfl)) (show (N 2 : Int) = n2 from en2)
  have r5 : (0 : Int) ≤ n4 ∧ n4 ≤ 1000000 := nleE (H.nle 4 (ltn len_V202_Row_thispackeda_oz_D8cls rfl)) (show (N 4 : Int) = n4 from en4)
  have r6 : (0 : Int) ≤ n7 ∧ n7 ≤ 1000000 := nleE (H.nle 7 (ltn len_V202_Row_thispackeda_oz_D8cls rfl)) (show (N 7 : Int) = n7 from en7)
  refine Ew_of (pcₚ := 1) (fun _ => x_aload_n rfl rfl) ?_
  refine v_g H (o := 0) (v := .ref (D 5)) rfl rfl rfl rfl rfl (vrf (pf5)) ?_
  refine v_g H (o := 5) (v := .ref (D 6)) rfl rfl rfl rfl rfl (vrf (pf6)) ?_
  refine Ew_of (pcₚ := 9) (fun _ => x_astore rfl) ?_
  refine Ew_of (pcₚ := 10) (fun _ => x_aload_n rfl (rk_o (rfl) rfl rfl)) ?_
  refine Ew_of (pcₚ := 11) (fun _ => x_aload_n rfl (rk_o (rfl) rfl rfl)) ?_
  refine v_g H (o := 3) (v := I (u3_1)) rfl rfl rfl rfl rfl (congrArg (fun z : Int => I z) ((eu3_1) : F 3 1 = u3_1)) ?_
  refine Ew_of (pcₚ := 15) (fun _ => x_iconst rfl) ?_
  refine w_iadd rfl ?_
  refine Ew_of (pcₚ := 18) (fun _ => x_bipush (z := 8) rfl (by decide)) ?_
  refine w_ishlA rfl (fun z7 gz7 => ?_)
  refine Ew_of (pcₚ := 20) (fun _ => x_iload_n rfl (rk_o (rfl) rfl rfl)) ?_
  refine w_ior rfl (fun z8 gz8 => ?_)
  refine w_i2l rfl (show inr (z8) from gz8) ?_
  refine Ew_of (pcₚ := 23) (fun _ => x_iconst rfl) ?_
  refine v_inv H (o := 1) rfl rfl rfl rfl rfl rfl (by rfl) (C160 (D := puc 1025 D) (N := puc 1025 N) (HW_subc H oz_D8cls_33 oz_D8cls_15) (pf2) (n2) (en2) (u1_1) ((eu1_1)) (show inrJ (z8) from q_428 gz8) (show inr (4) from q_2) (show 0 ≤ (u1_1) ∧ (u1_1) ≤ (n2) ∧ (n2) ≤ 65536 from h1) (fun σ9 D9ₚ N9ₚ F9ₚ A9ₚ c9 s9 Hₚ Oₚ hD9 hN9 hS9 hA9 pm9_1 m9_1 em9_1 y9_0_1 ey9_0_1 pz9_0 pz9_1 => ⟨rfl, ?_⟩))
  refine v_backMc (c := c) (s := s) H oz_D8cls_33 oz_D8cls_15 Hₚ Oₚ hD9 oz_D8cls_34 (fun D9 N9 F9 A9 H Oₚ eD9 eN9 eF9 eA9 => ?_)
  have O := OUT_trans O Oₚ
  -- Row.addNumber
  have cF9 : SF oz_D8clsl_3 F F9 := SF_trans (SF_refl) (SF_gluc (ι := oz_D8clsl_6) oz_D8cls_15 hS9 eF9 (by decide +kernel)) (any_sub (lₚ := [(1, 0), (1, 1), (1, 2)]) (by decide +kernel))
  have mF9 := SFm_of cF9 oz_D8cls_12
  have cA9 : SA oz_D8clsl_4 A A9 := SA_trans (SA_refl) (SA_gluc (ι := oz_D8clsl_6) oz_D8cls_15 hA9 eA9 (by decide +kernel)) (any_subA (lₚ := [2]) (by decide +kernel))
  have mA9 := SAm_of cA9 oz_D8cls_13
  have cD9 : SD oz_D8clsl_4 D D9 := SD_trans (SD_refl) (SD_gluc (ι := oz_D8clsl_6) oz_D8cls_15 hD9 eD9 (by decide +kernel)) (any_subA (lₚ := [2]) (by decide +kernel))
  have mD9 := SDm_of cD9 oz_D8cls_13
  have cN9 : SD oz_D8clsl_4 N N9 := SD_trans (SD_refl) (SD_gluc (ι := oz_D8clsl_6) oz_D8cls_15 hN9 eN9 (by decide +kernel)) (any_subA (lₚ := [2]) (by decide +kernel))
  have mN9 := SDm_of cN9 oz_D8cls_13
  have pf9_1_0 : F9 1 0 = (D9 2 : Int) := (eF9 1 0).trans (pm9_1.trans (congrArg (fun q : Nat => (q : Int)) (eD9 2).symm))
  have r10 : (0 : Int) ≤ m9_1 ∧ m9_1 ≤ 1000000 := nleE (H.nle 2 (ltn len_V202_Row_thispackeda_oz_D8cls rfl)) (show (N9 2 : Int) = m9_1 from (congrArg (fun q : Nat => (q : Int)) (eN9 2)).trans em9_1)
  have r11 : (-2147483648 : Int) ≤ y9_0_1 ∧ y9_0_1 ≤ 2147483647 := rngE (show (-2147483648 : Int) ≤ F9 1 1 ∧ F9 1 1 ≤ 2147483647 from H.krg 1 1 (ltn len_V202_Row_thispackeda_oz_D8cls rfl)) (show F9 1 1 = y9_0_1 from ((eF9 1 1).trans ey9_0_1))
  refine Ew_of (pcₚ := 27) (fun _ => x_aload_n rfl (rk_o (rfl) rfl rfl)) ?_
  refine Ew_of (pcₚ := 29) (fun _ => x_aload rfl rk_s) ?_
  refine Ew_stk (show ([.ref (D 6), .ref (D 1)] : List Value) = [.ref (D9 6), .ref (D9 1)] by rw [show D9 1 = D 1 from mD9 1 rfl, show D9 6 = D 6 from mD9 6 rfl]) ?_
  refine v_g H (o := 6) (v := .ref (D9 7)) rfl rfl rfl rfl rfl (vrf ((mF9 6 0 rfl).trans ((pf7).trans (congrArg (fun q : Nat => (q : Int)) (mD9 7 rfl).symm)))) ?_
  refine Ew_of (pcₚ := 33) (fun _ => x_iconst rfl) ?_
  refine Ew_of (pcₚ := 35) (fun _ => x_aload rfl rk_s) ?_
  refine Ew_stk (congrArg (fun qz : Nat => ([.ref qz, I (0), .ref (D9 7), .ref (D9 1)] : List Value)) (show D9 6 = D 6 from mD9 6 rfl).symm) ?_
  refine v_g H (o := 6) (v := I (u6_1)) rfl rfl rfl rfl rfl (congrArg (fun z : Int => I z) (((mF9 6 1 rfl).trans (eu6_1)) : F9 6 1 = u6_1)) ?_
  refine w_stat25 rfl rfl (by rfl) (C53_Br (D := puc 7 D9) (N := puc 7 N9) (HW_subc H oz_D8cls_35 oz_D8cls_39) (STC_out HT HE O) (n7) ((congrArg (fun q : Nat => (q : Int)) (mN9 7 rfl)).trans (en7)) (show inr (0) from q_20) (show inr (u6_1) from q_884 h3) (show 0 ≤ (0) ∧ (0) ≤ (u6_1) ∧ (u6_1) ≤ (n7) from q_2877 h3) (fun z12 σ12 F12ₚ A12ₚ Hₚ Oₚ hS12 hA12 pz12_0 => ⟨rfl, ?_⟩))
  refine v_backc (c := (c + c9)) (s := (s + s9)) H oz_D8cls_35 oz_D8cls_39 Hₚ Oₚ (fun F12 A12 H Oₚ eF12 eA12 => ?_)
  have O := OUT_trans O Oₚ
  -- PackHouse.polynomialSum
  have cF12 : SF oz_D8clsl_3 F F12 := SF_trans (cF9) (SF_gluc (ι := oz_D8clsl_13) oz_D8cls_39 hS12 eF12 (by decide +kernel)) (any_sub (lₚ := []) (by decide +kernel))
  have mF12 := SFm_of cF12 oz_D8cls_12
  have cA12 : SA oz_D8clsl_4 A A12 := SA_trans (cA9) (SA_gluc (ι := oz_D8clsl_13) oz_D8cls_39 hA12 eA12 (by decide +kernel)) (any_subA (lₚ := []) (by decide +kernel))
  have mA12 := SAm_of cA12 oz_D8cls_13
  refine w_stat25 rfl rfl (by rfl) (C54 (D := puc 0 D9) (N := puc 0 N9) (HW_subc H oz_D8cls_36 oz_D8cls_40) (show inr (z12) from pz12_0) (fun z13 σ13 F13ₚ A13ₚ Hₚ Oₚ hS13 hA13 pz13_0 => ⟨rfl, ?_⟩))
  refine v_backc (c := (c + c9)) (s := (s + s9)) H oz_D8cls_36 oz_D8cls_40 Hₚ Oₚ (fun F13 A13 H Oₚ eF13 eA13 => ?_)
  have O := OUT_trans O Oₚ
  -- PackHouse.maskedSum
  have cF13 : SF oz_D8clsl_3 F F13 := SF_trans (cF12) (SF_gluc (ι := oz_D8clsl_14) oz_D8cls_40 hS13 eF13 (by decide +kernel)) (any_sub (lₚ := []) (by decide +kernel))
  have mF13 := SFm_of cF13 oz_D8cls_12
  have cA13 : SA oz_D8clsl_4 A A13 := SA_trans (cA12) (SA_gluc (ι := oz_D8clsl_14) oz_D8cls_40 hA13 eA13 (by decide +kernel)) (any_subA (lₚ := []) (by decide +kernel))
  have mA13 := SAm_of cA13 oz_D8cls_13
  refine w_i2l rfl (show inr (z13) from pz13_0) ?_
  refine Ew_of (pcₚ := 46) (fun _ => x_iconst rfl) ?_
  refine v_inv H (o := 1) rfl rfl rfl rfl rfl rfl (by rfl) (C160 (D := puc 1025 D9) (N := puc 1025 N9) (HW_subc H oz_D8cls_33 oz_D8cls_15) (((((show F13 1 0 = F12 1 0 from (eF13 1 0))).trans ((show F12 1 0 = F9 1 0 from (eF12 1 0))))).trans (pf9_1_0)) (m9_1) ((congrArg (fun q : Nat => (q : Int)) (eN9 2)).trans em9_1) (y9_0_1) (((((show F13 1 1 = F12 1 1 from (eF13 1 1))).trans ((show F12 1 1 = F9 1 1 from (eF12 1 1)))).trans ((eF9 1 1).trans ey9_0_1))) (show inrJ (z13) from q_428 pz13_0) (show inr (4) from q_2) (show 0 ≤ (y9_0_1) ∧ (y9_0_1) ≤ (m9_1) ∧ (m9_1) ≤ 65536 from pz9_0) (fun σ14 D14ₚ N14ₚ F14ₚ A14ₚ c14 s14 Hₚ Oₚ hD14 hN14 hS14 hA14 pm14_1 m14_1 em14_1 y14_0_1 ey14_0_1 pz14_0 pz14_1 => ⟨rfl, ?_⟩))
  refine v_backMc (c := (c + c9)) (s := (s + s9)) H oz_D8cls_33 oz_D8cls_15 Hₚ Oₚ hD14 oz_D8cls_34 (fun D14 N14 F14 A14 H Oₚ eD14 eN14 eF14 eA14 => ?_)
  have O := OUT_trans O Oₚ
  -- Row.addNumber
  have cF14 : SF oz_D8clsl_3 F F14 := SF_trans (cF13) (SF_gluc (ι := oz_D8clsl_6) oz_D8cls_15 hS14 eF14 (by decide +kernel)) (any_sub (lₚ := [(1, 0), (1, 1), (1, 2)]) (by decide +kernel))
  have mF14 := SFm_of cF14 oz_D8cls_12
  have cA14 : SA oz_D8clsl_4 A A14 := SA_trans (cA13) (SA_gluc (ι := oz_D8clsl_6) oz_D8cls_15 hA14 eA14 (by decide +kernel)) (any_subA (lₚ := [2]) (by decide +kernel))
  have mA14 := SAm_of cA14 oz_D8cls_13
  have cD14 : SD oz_D8clsl_4 D D14 := SD_trans (cD9) (SD_gluc (ι := oz_D8clsl_6) oz_D8cls_15 hD14 eD14 (by decide +kernel)) (any_subA (lₚ := [2]) (by decide +kernel))
  have mD14 := SDm_of cD14 oz_D8cls_13
  have cN14 : SD oz_D8clsl_4 N N14 := SD_trans (cN9) (SD_gluc (ι := oz_D8clsl_6) oz_D8cls_15 hN14 eN14 (by decide +kernel)) (any_subA (lₚ := [2]) (by decide +kernel))
  have mN14 := SDm_of cN14 oz_D8cls_13
  have pf14_1_0 : F14 1 0 = (D14 2 : Int) := (eF14 1 0).trans (pm14_1.trans (congrArg (fun q : Nat => (q : Int)) (eD14 2).symm))
  have r15 : (0 : Int) ≤ m14_1 ∧ m14_1 ≤ 1000000 := nleE (H.nle 2 (ltn len_V202_Row_thispackeda_oz_D8cls rfl)) (show (N14 2 : Int) = m14_1 from (congrArg (fun q : Nat => (q : Int)) (eN14 2)).trans em14_1)
  have r16 : (-2147483648 : Int) ≤ y14_0_1 ∧ y14_0_1 ≤ 2147483647 := rngE (show (-2147483648 : Int) ≤ F14 1 1 ∧ F14 1 1 ≤ 2147483647 from H.krg 1 1 (ltn len_V202_Row_thispackeda_oz_D8cls rfl)) (show F14 1 1 = y14_0_1 from ((eF14 1 1).trans ey14_0_1))
  refine Ew_of (pcₚ := 50) (fun _ => x_aload_n rfl (rk_o (rfl) rfl rfl)) ?_
  refine Ew_of (pcₚ := 51) (fun _ => x_aload_n rfl (rk_o (rfl) rfl rfl)) ?_
  refine Ew_stk (show ([.ref (D 3), .ref (D 1)] : List Value) = [.ref (D14 3), .ref (D14 1)] by rw [show D14 1 = D 1 from mD14 1 rfl, show D14 3 = D 3 from mD14 3 rfl]) ?_
  refine v_g H (o := 3) (v := .ref (D14 4)) rfl rfl rfl rfl rfl (vrf ((mF14 3 0 rfl).trans ((pf4).trans (congrArg (fun q : Nat => (q : Int)) (mD14 4 rfl).symm)))) ?_
  refine Ew_of (pcₚ := 55) (fun _ => x_iconst rfl) ?_
  refine Ew_of (pcₚ := 56) (fun _ => x_aload_n rfl (rk_o (rfl) rfl rfl)) ?_
  refine Ew_stk (congrArg (fun qz : Nat => ([.ref qz, I (0), .ref (D14 4), .ref (D14 1)] : List Value)) (show D14 3 = D 3 from mD14 3 rfl).symm) ?_
  refine v_g H (o := 3) (v := I (u3_1)) rfl rfl rfl rfl rfl (congrArg (fun z : Int => I z) (((mF14 3 1 rfl).trans (eu3_1)) : F14 3 1 = u3_1)) ?_
  refine v_inv H (o := 1) rfl rfl rfl rfl rfl rfl (by rfl) (C161_Br (D := puc 526337 D14) (N := puc 526337 N14) (HW_subc H oz_D8cls_37 oz_D8cls_41) (pf14_1_0) (n4) ((congrArg (fun q : Nat => (q : Int)) (mN14 4 rfl)).trans (en4)) (m14_1) ((congrArg (fun q : Nat => (q : Int)) (eN14 2)).trans em14_1) (y14_0_1) (((eF14 1 1).trans ey14_0_1)) (A14 2) (rfl) (show inr (0) from q_20) (show inr (u3_1) from q_884 h2) (show 0 ≤ (y14_0_1) ∧ (y14_0_1) ≤ (m14_1) ∧ (m14_1) ≤ 65536 from pz14_0) (show (u3_1) < 0 ∨ 0 ≤ (0) ∧ (0) + (u3_1) ≤ (n4) from q_2548 h2) (fun σ17 D17ₚ N17ₚ F17ₚ A17ₚ c17 s17 Hₚ Oₚ hD17 hN17 hS17 hA17 pm17_2 m17_2 em17_2 y17_0_1 ey17_0_1 w17_2 ew17_2 pz17_0 pz17_1 pz17_2 => ⟨rfl, ?_⟩))
  refine v_backMc (c := ((c + c9) + c14)) (s := ((s + s9) + s14)) H oz_D8cls_37 oz_D8cls_41 Hₚ Oₚ hD17 oz_D8cls_38 (fun D17 N17 F17 A17 H Oₚ eD17 eN17 eF17 eA17 => ?_)
  have O := OUT_trans O Oₚ
  -- Row.addPart
  have cF17 : SF oz_D8clsl_3 F F17 := SF_trans (cF14) (SF_gluc (ι := oz_D8clsl_15) oz_D8cls_41 hS17 eF17 (by decide +kernel)) (any_sub (lₚ := [(1, 0), (1, 1), (1, 2)]) (by decide +kernel))
  have mF17 := SFm_of cF17 oz_D8cls_12
  have cA17 : SA oz_D8clsl_4 A A17 := SA_trans (cA14) (SA_gluc (ι := oz_D8clsl_15) oz_D8cls_41 hA17 eA17 (by decide +kernel)) (any_subA (lₚ := [2]) (by decide +kernel))
  have mA17 := SAm_of cA17 oz_D8cls_13
  have cD17 : SD oz_D8clsl_4 D D17 := SD_trans (cD14) (SD_gluc (ι := oz_D8clsl_15) oz_D8cls_41 hD17 eD17 (by decide +kernel)) (any_subA (lₚ := [2]) (by decide +kernel))
  have mD17 := SDm_of cD17 oz_D8cls_13
  have cN17 : SD oz_D8clsl_4 N N17 := SD_trans (cN14) (SD_gluc (ι := oz_D8clsl_15) oz_D8cls_41 hN17 eN17 (by decide +kernel)) (any_subA (lₚ := [2]) (by decide +kernel))
  have mN17 := SDm_of cN17 oz_D8cls_13
  have pf17_1_0 : F17 1 0 = (D17 2 : Int) := (eF17 1 0).trans (pm17_2.trans (congrArg (fun q : Nat => (q : Int)) (eD17 2).symm))
  have r18 : (0 : Int) ≤ m17_2 ∧ m17_2 ≤ 1000000 := nleE (H.nle 2 (ltn len_V202_Row_thispackeda_oz_D8cls rfl)) (show (N17 2 : Int) = m17_2 from (congrArg (fun q : Nat => (q : Int)) (eN17 2)).trans em17_2)
  have r19 : (-2147483648 : Int) ≤ y17_0_1 ∧ y17_0_1 ≤ 2147483647 := rngE (show (-2147483648 : Int) ≤ F17 1 1 ∧ F17 1 1 ≤ 2147483647 from H.krg 1 1 (ltn len_V202_Row_thispackeda_oz_D8cls rfl)) (show F17 1 1 = y17_0_1 from ((eF17 1 1).trans ey17_0_1))
  exact w_ret rfl (k _ _ _ _ _ _ _ H O (cD17) (cN17) (cF17) (cA17) (pf17_1_0) (m17_2) ((congrArg (fun q : Nat => (q : Int)) (eN17 2)).trans em17_2) (y17_0_1) (((eF17 1 1).trans ey17_0_1)) (show 0 ≤ (y17_0_1) ∧ (y17_0_1) ≤ (m17_2) ∧ (m17_2) ≤ 65536 from pz17_0))
abbrev V201_Row_Row : vV := [(0, 10, [(4, 0), (4, 0), (4, 0), (4, 0), (0, 0), (4, 0), (0, 0), (2, 0), (0, 0)]), (0, 7, [(4, 0), (0, 0), (1, 0), (0, 0), (0, 0)]), (0, 7, [(4, 0), (0, 0), (1, 0), (0, 0), (0, 0)]), (1, 0, []), (1, 0, []), (0, 5, [(4, 0), (4, 0), (4, 0), (4, 0), (0, 0), (0, 0), (0, 0), (4, 0), (4, 0), (0, 0), (0, 0), (0, 0), (0, 0), (0, 0), (0, 0), (0, 0), (0, 0), (0, 0), (0, 0)]), (0, 7, [(4, 0), (0, 0), (1, 0), (0, 0), (0, 0)]), (1, 0, []), (0, 7, [(4, 0), (0, 0), (1, 0), (0, 0), (0, 0)]), (1, 0, []), (1, 1, []), (1, 1, []), (1, 1, []), (1, 1, []), (1, 1, []), (1, 1, [])]
theorem len_V201_Row_Row_oz_D8cls : (V201_Row_Row).length = 16 := by decide +kernel
theorem oz_D8cls_43 : vsub V201_Row_Row V161_S0 [1, 3] = true := by decide +kernel
theorem oz_D8cls_44 : vmov V201_Row_Row [1, 3] [1] = true := by decide +kernel
theorem oz_D8cls_45 : vsub V201_Row_Row V156 [6] = true := by decide +kernel
theorem oz_D8cls_46 : vsub V201_Row_Row V121 [5, 11] = true := by decide +kernel
theorem oz_D8cls_47 : vmov V201_Row_Row [5, 11] [1] = true := by decide +kernel
theorem oz_D8cls_48 : vsub V201_Row_Row V124 [5, 6, 7, 12, 11] = true := by decide +kernel
theorem oz_D8cls_49 : vsub V201_Row_Row V161_Br [6, 4, 7] = true := by decide +kernel
theorem oz_D8cls_50 : vmov V201_Row_Row [6, 4, 7] [2] = true := by decide +kernel
theorem oz_D8cls_51 : vsub V201_Row_Row V156 [8] = true := by decide +kernel
theorem oz_D8cls_52 : vsub V201_Row_Row V194_thispackeda [0, 8, 9, 5, 6, 7, 12, 11, 13, 14, 15] = true := by decide +kernel
theorem oz_D8cls_53 : vmov V201_Row_Row [0, 8, 9, 5, 6, 7, 12, 11, 13, 14, 15] [2, 6, 8, 9, 10] = true := by decide +kernel
theorem oz_D8cls_54 : vsub V201_Row_Row V202_Row_thispackeda [0, 1, 3, 8, 9, 5, 6, 7] = true := by decide +kernel
theorem oz_D8cls_55 : vmov V201_Row_Row [0, 1, 3, 8, 9, 5, 6, 7] [2] = true := by decide +kernel
theorem oz_D8cls_56 : vsub V201_Row_Row V160 [1, 3] = true := by decide +kernel
theorem oz_D8cls_57 : vsub V201_Row_Row V162 [1, 3] = true := by decide +kernel
theorem oz_D8cls_58 : vsub V201_Row_Row V202_Row_thisfinderdataa [0, 1, 3, 5, 6, 7] = true := by decide +kernel
theorem oz_D8cls_59 : vmov V201_Row_Row [0, 1, 3, 5, 6, 7] [2] = true := by decide +kernel
def oz_D8clsl_16 : List (Nat × Nat) := [(1, 0), (1, 1), (1, 2), (5, 1), (5, 2), (5, 3), (5, 4), (5, 5), (5, 6), (5, 7), (5, 8), (5, 9), (5, 10), (5, 11), (5, 12), (5, 13), (5, 14), (5, 15), (5, 16), (5, 17), (5, 18), (6, 0), (6, 1), (6, 2), (6, 3), (6, 4), (8, 0), (8, 1), (8, 2), (8, 3), (8, 4)]
theorem oz_D8cls_60 : (oz_D8clsl_16).all (fun p => !tbz 3589554766356802058325291455311159676800046370091401349611517366353971380224000 (Nat.add (Nat.mul 32 p.1) p.2)) = true := by decide +kernel
def oz_D8clsl_17 : List Nat := [3, 7, 9, 11, 12, 13, 14, 15]
theorem oz_D8cls_61 : (oz_D8clsl_17).all (fun p => !tbz 64136 p) = true := by decide +kernel
def oz_D8clsl_18 : List Nat := [1, 3]
theorem oz_D8cls_62 : okc oz_D8clsl_18 1537 = true := by decide +kernel
def oz_D8clsl_19 : List Nat := [6]
theorem oz_D8cls_63 : okc oz_D8clsl_19 6 = true := by decide +kernel
def oz_D8clsl_20 : List Nat := [5, 11]
theorem oz_D8cls_64 : okc oz_D8clsl_20 5637 = true := by decide +kernel
def oz_D8clsl_21 : List Nat := [5, 6, 7, 12, 11]
theorem oz_D8cls_65 : okc oz_D8clsl_21 757526694917 = true := by decide +kernel
def oz_D8clsl_22 : List Nat := [6, 4, 7]
theorem oz_D8cls_66 : okc oz_D8clsl_22 1837062 = true := by decide +kernel
def oz_D8clsl_23 : List Nat := [8]
theorem oz_D8cls_67 : okc oz_D8clsl_23 8 = true := by decide +kernel
def oz_D8clsl_24 : List Nat := [0, 8, 9, 5, 6, 7, 12, 11, 13, 14, 15]
theorem oz_D8cls_68 : okc oz_D8clsl_24 18603012004667702936877666304 = true := by decide +kernel
def oz_D8clsl_25 : List Nat := [0, 1, 3, 8, 9, 5, 6, 7]
theorem oz_D8cls_69 : okc oz_D8clsl_25 64671867190450586112 = true := by decide +kernel
def oz_D8clsl_26 : List Nat := [0, 1, 3, 5, 6, 7]
theorem oz_D8cls_70 : okc oz_D8clsl_26 246703593357824 = true := by decide +kernel
set_option maxHeartbeats 16000000 in
/-- Tags.packStream: this, #1, #2, #1.bytes, #2.bytes, this.finder, this.finder.data, this.finder.data.bytes, this.packed, this.packed.bytes, this.settings, this.finder.heads, this.finder.back, this.finder.literals, this.finder.lengths, this.finder.distances -/
theorem C201_Row_Row {σE : rS} {D N : Nat → Nat} {F : hF} {A : hA} {d c s : Nat} {Q : wQ} (H : HW V201_Row_Row σE D N F A) (HT : STC σE)  (pf3 : F 1 0 = (D 3 : Int)) (pf4 : F 2 0 = (D 4 : Int)) (pf5 : F 0 1 = (D 5 : Int)) (pf6 : F 5 0 = (D 6 : Int)) (pf7 : F 6 0 = (D 7 : Int)) (pf8 : F 0 2 = (D 8 : Int)) (pf9 : F 8 0 = (D 9 : Int)) (pf10 : F 0 0 = (D 10 : Int)) (pf11 : F 5 7 = (D 11 : Int)) (pf12 : F 5 8 = (D 12 : Int)) (pf13 : F 5 1 = (D 13 : Int)) (pf14 : F 5 2 = (D 14 : Int)) (pf15 : F 5 3 = (D 15 : Int)) (n3 : Int) (en3 : (N 3 : Int) = n3) (n4 : Int) (en4 : (N 4 : Int) = n4) (n7 : Int) (en7 : (N 7 : Int) = n7) (n9 : Int) (en9 : (N 9 : Int) = n9) (n10 : Int) (en10 : (N 10 : Int) = n10) (n11 : Int) (en11 : (N 11 : Int) = n11) (n12 : Int) (en12 : (N 12 : Int) = n12) (n13 : Int) (en13 : (N 13 : Int) = n13) (n14 : Int) (en14 : (N 14 : Int) = n14) (n15 : Int) (en15 : (N 15 : Int) = n15) (u1_1 : Int) (eu1_1 : F 1 1 = u1_1) (u2_1 : Int) (eu2_1 : F 2 1 = u2_1) (u6_1 : Int) (eu6_1 : F 6 1 = u6_1) (u8_1 : Int) (eu8_1 : F 8 1 = u8_1) (w10 : Int → Int) (ew10 : A 10 = w10) (h0 : 0 ≤ (u1_1) ∧ (u1_1) ≤ (n3) ∧ (n3) ≤ 65536) (h1 : 0 ≤ (u2_1) ∧ (u2_1) ≤ (n4) ∧ (n4) ≤ 65536) (h2 : 0 ≤ (u6_1) ∧ (u6_1) ≤ (n7) ∧ (n7) ≤ 65536) (h3 : 0 ≤ (u8_1) ∧ (u8_1) ≤ (n9) ∧ (n9) ≤ 65536) (h4 : (n10) = 10) (h5 : (u2_1) ≤ 16384) (h6 : 1 ≤ ((w10)) 2 ∧ ((w10)) 2 ≤ 65536) (h7 : (n11) = 0 ∨ (n11) = 2048) (h8 : (n12) ≤ 16384) (h9 : (n13) = (n14) ∧ (n15) = (n14) ∧ (n14) ≤ 65536 ∧ ((n14) = 0 ∨ 64 ≤ (n14)) ∧ lgq ((n14)) = 0) (k : ∀ (σ : rS) (Dₚ Nₚ : Nat → Nat) (Fₚ : hF) (Aₚ : hA) (cₚ sₚ : Nat), HW V201_Row_Row σ Dₚ Nₚ Fₚ Aₚ → OUT (V201_Row_Row).length D N σE c s Dₚ Nₚ σ cₚ sₚ → SD [3, 7, 9, 11, 12, 13, 14, 15] D Dₚ → SD [3, 7, 9, 11, 12, 13, 14, 15] N Nₚ → SF [(1, 0), (1, 1), (1, 2), (5, 1), (5, 2), (5, 3), (5, 4), (5, 5), (5, 6), (5, 7), (5, 8), (5, 9), (5, 10), (5, 11), (5, 12), (5, 13), (5, 14), (5, 15), (5, 16), (5, 17), (5, 18), (6, 0), (6, 1), (6, 2), (6, 3), (6, 4), (8, 0), (8, 1), (8, 2), (8, 3), (8, 4)] F Fₚ → SA [3, 7, 9, 11, 12, 13, 14, 15] A Aₚ → Fₚ 1 0 = (Dₚ 3 : Int) → Fₚ 6 0 = (Dₚ 7 : Int) → Fₚ 8 0 = (Dₚ 9 : Int) → Fₚ 5 7 = (Dₚ 11 : Int) → Fₚ 5 8 = (Dₚ 12 : Int) → Fₚ 5 1 = (Dₚ 13 : Int) → Fₚ 5 2 = (Dₚ 14 : Int) → Fₚ 5 3 = (Dₚ 15 : Int) → ∀ m3 : Int, (Nₚ 3 : Int) = m3 → ∀ m7 : Int, (Nₚ 7 : Int) = m7 → ∀ m9 : Int, (Nₚ 9 : Int) = m9 → ∀ m11 : Int, (Nₚ 11 : Int) = m11 → ∀ m12 : Int, (Nₚ 12 : Int) = m12 → ∀ m13 : Int, (Nₚ 13 : Int) = m13 → ∀ m14 : Int, (Nₚ 14 : Int) = m14 → ∀ m15 : Int, (Nₚ 15 : Int) = m15 → ∀ y1_1 : Int, Fₚ 1 1 = y1_1 → ∀ y6_1 : Int, Fₚ 6 1 = y6_1 → ∀ y8_1 : Int, Fₚ 8 1 = y8_1 → (0 ≤ (y1_1) ∧ (y1_1) ≤ (m3) ∧ (m3) ≤ 65536) → (0 ≤ (y6_1) ∧ (y6_1) ≤ (m7) ∧ (m7) ≤ 65536) → (0 ≤ (y8_1) ∧ (y8_1) ≤ (m9) ∧ (m9) ≤ 65536) → ((m11) = 0 ∨ (m11) = 2048) → ((m12) ≤ 16384) → ((m13) = (m14) ∧ (m15) = (m14) ∧ (m14) ≤ 65536 ∧ ((m14) = 0 ∨ 64 ≤ (m14)) ∧ lgq ((m14)) = 0) → Q none σ cₚ sₚ) : Ew 201 (d + 5) 0 (rargs 0 [.ref (D 0), .ref (D 1), .ref (D 2)]) [] σE c s Q := by
  have O := OUT_refl (n := (V201_Row_Row).length) (D := D) (N := N) (σ := σE) (c := c) (s := s)
  have HE := H
  have r1 : (-2147483648 : Int) ≤ u1_1 ∧ u1_1 ≤ 2147483647 := rngE (show (-2147483648 : Int) ≤ F 1 1 ∧ F 1 1 ≤ 2147483647 from H.krg 1 1 (ltn len_V201_Row_Row_oz_D8cls rfl)) (show F 1 1 = u1_1 from (eu1_1))
  have r2 : (-2147483648 : Int) ≤ u2_1 ∧ u2_1 ≤ 2147483647 := rngE (show (-2147483648 : Int) ≤ F 2 1 ∧ F 2 1 ≤ 2147483647 from H.krg 2 1 (ltn len_V201_Row_Row_oz_D8cls rfl)) (show F 2 1 = u2_1 from (eu2_1))
  have r3 : (-2147483648 : Int) ≤ u6_1 ∧ u6_1 ≤ 2147483647 := rngE (show (-2147483648 : Int) ≤ F 6 1 ∧ F 6 1 ≤ 2147483647 from H.krg 6 1 (ltn len_V201_Row_Row_oz_D8cls rfl)) (show F 6 1 = u6_1 from (eu6_1))
  have r4 : (-2147483648 : Int) ≤ u8_1 ∧ u8_1 ≤ 2147483647 := rngE (show (-2147483648 : Int) ≤ F 8 1 ∧ F 8 1 ≤ 2147483647 from H.krg 8 1 (ltn len_V201_Row_Row_oz_D8cls rfl)) (show F 8 1 = u8_1 from (eu8_1))
  have r5 : (0 : Int) ≤ n3 ∧ n3 ≤ 1000000 := nleE (H.nle 3 (ltn len_V201_Row_Row_oz_D8cls rfl)) (show (N 3 : Int) = n3 from en3)
  have r6 : (0 : Int) ≤ n4 ∧ n4 ≤ 1000000 := nleE (H.nle 4 (ltn len_V201_Row_Row_oz_D8cls rfl)) (show (N 4 : Int) = n4 from en4)
  have r7 : (0 : Int) ≤ n7 ∧ n7 ≤ 1000000 := nleE (H.nle 7 (ltn len_V201_Row_Row_oz_D8cls rfl)) (show (N 7 : Int) = n7 from en7)
  have r8 : (0 : Int) ≤ n9 ∧ n9 ≤ 1000000 := nleE (H.nle 9 (ltn len_V201_Row_Row_oz_D8cls rfl)) (show (N 9 : Int) = n9 from en9)
  have r9 : (0 : Int) ≤ n10 ∧ n10 ≤ 1000000 := nleE (H.nle 10 (ltn len_V201_Row_Row_oz_D8cls rfl)) (show (N 10 : Int) = n10 from en10)
  have r10 : (0 : Int) ≤ n11 ∧ n11 ≤ 1000000 := nleE (H.nle 11 (ltn len_V201_Row_Row_oz_D8cls rfl)) (show (N 11 : Int) = n11 from en11)
  have r11 : (0 : Int) ≤ n12 ∧ n12 ≤ 1000000 := nleE (H.nle 12 (ltn len_V201_Row_Row_oz_D8cls rfl)) (show (N 12 : Int) = n12 from en12)
  have r12 : (0 : Int) ≤ n13 ∧ n13 ≤ 1000000 := nleE (H.nle 13 (ltn len_V201_Row_Row_oz_D8cls rfl)) (show (N 13 : Int) = n13 from en13)
  have r13 : (0 : Int) ≤ n14 ∧ n14 ≤ 1000000 := nleE (H.nle 14 (ltn len_V201_Row_Row_oz_D8cls rfl)) (show (N 14 : Int) = n14 from en14)
  have r14 : (0 : Int) ≤ n15 ∧ n15 ≤ 1000000 := nleE (H.nle 15 (ltn len_V201_Row_Row_oz_D8cls rfl)) (show (N 15 : Int) = n15 from en15)
  refine Ew_of (pcₚ := 1) (fun _ => x_aload_n rfl rfl) ?_
  refine Ew_of (pcₚ := 4) (fun _ => x_getstatic rfl) ?_
  refine Ew_of (pcₚ := 5) (fun _ => x_iconst rfl) ?_
  refine Ew_of (pcₚ := 8) (fun _ => x_getstatic rfl) ?_
  refine v_stL (STC_out HT HE O) (b := 0) (n := 10) rfl rfl rfl ?_
  refine v_inv H (o := 1) rfl rfl rfl rfl rfl rfl (by rfl) (C161_S0 (D := puc 1537 D) (N := puc 1537 N) (HW_subc H oz_D8cls_43 oz_D8cls_62) (STC_out HT HE O) (pf3) (n3) (en3) (u1_1) ((eu1_1)) (A 3) (rfl) (show inr (0) from q_20) (show inr (10) from q_532) (show 0 ≤ (u1_1) ∧ (u1_1) ≤ (n3) ∧ (n3) ≤ 65536 from h0) (show (10) < 0 ∨ 0 ≤ (0) ∧ (0) + (10) ≤ 10 from q_3070) (fun σ15 D15ₚ N15ₚ F15ₚ A15ₚ c15 s15 Hₚ Oₚ hD15 hN15 hS15 hA15 pm15_1 m15_1 em15_1 y15_0_1 ey15_0_1 w15_1 ew15_1 pz15_0 pz15_1 pz15_2 => ⟨rfl, ?_⟩))
  refine v_backMc (c := c) (s := s) H oz_D8cls_43 oz_D8cls_62 Hₚ Oₚ hD15 oz_D8cls_44 (fun D15 N15 F15 A15 H Oₚ eD15 eN15 eF15 eA15 => ?_)
  have O := OUT_trans O Oₚ
  -- Row.addPart
  have cF15 : SF oz_D8clsl_16 F F15 := SF_trans (SF_refl) (SF_gluc (ι := oz_D8clsl_18) oz_D8cls_62 hS15 eF15 (by decide +kernel)) (any_sub (lₚ := [(1, 0), (1, 1), (1, 2)]) (by decide +kernel))
  have mF15 := SFm_of cF15 oz_D8cls_60
  have cA15 : SA oz_D8clsl_17 A A15 := SA_trans (SA_refl) (SA_gluc (ι := oz_D8clsl_18) oz_D8cls_62 hA15 eA15 (by decide +kernel)) (any_subA (lₚ := [3]) (by decide +kernel))
  have mA15 := SAm_of cA15 oz_D8cls_61
  have cD15 : SD oz_D8clsl_17 D D15 := SD_trans (SD_refl) (SD_gluc (ι := oz_D8clsl_18) oz_D8cls_62 hD15 eD15 (by decide +kernel)) (any_subA (lₚ := [3]) (by decide +kernel))
  have mD15 := SDm_of cD15 oz_D8cls_61
  have cN15 : SD oz_D8clsl_17 N N15 := SD_trans (SD_refl) (SD_gluc (ι := oz_D8clsl_18) oz_D8cls_62 hN15 eN15 (by decide +kernel)) (any_subA (lₚ := [3]) (by decide +kernel))
  have mN15 := SDm_of cN15 oz_D8cls_61
  have pf15_1_0 : F15 1 0 = (D15 3 : Int) := (eF15 1 0).trans (pm15_1.trans (congrArg (fun q : Nat => (q : Int)) (eD15 3).symm))
  have pf15_5_1 : F15 5 1 = (D15 13 : Int) := ((show F15 5 1 = F 5 1 from (eF15 5 1))).trans ((pf13).trans (congrArg (fun q : Nat => (q : Int)) ((show D15 13 = D 13 from (eD15 13))).symm))
  have pf15_5_2 : F15 5 2 = (D15 14 : Int) := ((show F15 5 2 = F 5 2 from (eF15 5 2))).trans ((pf14).trans (congrArg (fun q : Nat => (q : Int)) ((show D15 14 = D 14 from (eD15 14))).symm))
  have pf15_5_3 : F15 5 3 = (D15 15 : Int) := ((show F15 5 3 = F 5 3 from (eF15 5 3))).trans ((pf15).trans (congrArg (fun q : Nat => (q : Int)) ((show D15 15 = D 15 from (eD15 15))).symm))
  have pf15_5_7 : F15 5 7 = (D15 11 : Int) := ((show F15 5 7 = F 5 7 from (eF15 5 7))).trans ((pf11).trans (congrArg (fun q : Nat => (q : Int)) ((show D15 11 = D 11 from (eD15 11))).symm))
  have pf15_5_8 : F15 5 8 = (D15 12 : Int) := ((show F15 5 8 = F 5 8 from (eF15 5 8))).trans ((pf12).trans (congrArg (fun q : Nat => (q : Int)) ((show D15 12 = D 12 from (eD15 12))).symm))
  have pf15_6_0 : F15 6 0 = (D15 7 : Int) := ((show F15 6 0 = F 6 0 from (eF15 6 0))).trans ((pf7).trans (congrArg (fun q : Nat => (q : Int)) ((show D15 7 = D 7 from (eD15 7))).symm))
  have pf15_8_0 : F15 8 0 = (D15 9 : Int) := ((show F15 8 0 = F 8 0 from (eF15 8 0))).trans ((pf9).trans (congrArg (fun q : Nat => (q : Int)) ((show D15 9 = D 9 from (eD15 9))).symm))
  have r16 : (0 : Int) ≤ m15_1 ∧ m15_1 ≤ 1000000 := nleE (H.nle 3 (ltn len_V201_Row_Row_oz_D8cls rfl)) (show (N15 3 : Int) = m15_1 from (congrArg (fun q : Nat => (q : Int)) (eN15 3)).trans em15_1)
  have r17 : (-2147483648 : Int) ≤ y15_0_1 ∧ y15_0_1 ≤ 2147483647 := rngE (show (-2147483648 : Int) ≤ F15 1 1 ∧ F15 1 1 ≤ 2147483647 from H.krg 1 1 (ltn len_V201_Row_Row_oz_D8cls rfl)) (show F15 1 1 = y15_0_1 from ((eF15 1 1).trans ey15_0_1))
  refine Ew_of (pcₚ := 13) (fun _ => x_aload_n rfl rfl) ?_
  refine Ew_stk (congrArg (fun qz : Nat => ([.ref qz] : List Value)) (show D15 0 = D 0 from mD15 0 rfl).symm) ?_
  refine v_g H (o := 0) (v := .ref (D15 5)) rfl rfl rfl rfl rfl (vrf ((mF15 0 1 rfl).trans ((pf5).trans (congrArg (fun q : Nat => (q : Int)) (mD15 5 rfl).symm)))) ?_
  refine v_g H (o := 5) (v := .ref (D15 6)) rfl rfl rfl rfl rfl (vrf ((mF15 5 0 rfl).trans ((pf6).trans (congrArg (fun q : Nat => (q : Int)) (mD15 6 rfl).symm)))) ?_
  refine Ew_of (pcₚ := 20) (fun _ => x_astore_n rfl) ?_
  refine Ew_of (pcₚ := 21) (fun _ => x_aload_n rfl rk_s) ?_
  refine v_inv H (o := 6) rfl rfl rfl rfl rfl rfl (by rfl) (C156 (D := puc 6 D15) (N := puc 6 N15) (HW_subc H oz_D8cls_45 oz_D8cls_63) (u6_1) ((((show F15 6 1 = F 6 1 from (eF15 6 1))).trans (eu6_1)))  (fun σ18 F18ₚ A18ₚ Hₚ Oₚ hS18 hA18 y18_0_1 ey18_0_1 pz18_0 => ⟨rfl, ?_⟩))
  refine v_backc (c := (c + c15)) (s := (s + s15)) H oz_D8cls_45 oz_D8cls_63 Hₚ Oₚ (fun F18 A18 H Oₚ eF18 eA18 => ?_)
  have O := OUT_trans O Oₚ
  -- Row.clear
  have cF18 : SF oz_D8clsl_16 F F18 := SF_trans (cF15) (SF_gluc (ι := oz_D8clsl_19) oz_D8cls_63 hS18 eF18 (by decide +kernel)) (any_sub (lₚ := [(6, 1), (6, 2), (6, 3), (6, 4)]) (by decide +kernel))
  have mF18 := SFm_of cF18 oz_D8cls_60
  have cA18 : SA oz_D8clsl_17 A A18 := SA_trans (cA15) (SA_gluc (ι := oz_D8clsl_19) oz_D8cls_63 hA18 eA18 (by decide +kernel)) (any_subA (lₚ := []) (by decide +kernel))
  have mA18 := SAm_of cA18 oz_D8cls_61
  have r19 : (-2147483648 : Int) ≤ y18_0_1 ∧ y18_0_1 ≤ 2147483647 := rngE (show (-2147483648 : Int) ≤ F18 6 1 ∧ F18 6 1 ≤ 2147483647 from H.krg 6 1 (ltn len_V201_Row_Row_oz_D8cls rfl)) (show F18 6 1 = y18_0_1 from ((eF18 6 1).trans ey18_0_1))
  refine Ew_of (pcₚ := 25) (fun _ => x_aload_n rfl (rk_o (rfl) rfl rfl)) ?_
  refine Ew_stk (congrArg (fun qz : Nat => ([.ref qz] : List Value)) (show D15 0 = D 0 from mD15 0 rfl).symm) ?_
  refine v_g H (o := 0) (v := .ref (D15 5)) rfl rfl rfl rfl rfl (vrf ((mF18 0 1 rfl).trans ((pf5).trans (congrArg (fun q : Nat => (q : Int)) (mD15 5 rfl).symm)))) ?_
  refine Ew_of (pcₚ := 29) (fun _ => x_aload_n rfl (rk_o (rfl) rfl rfl)) ?_
  refine Ew_stk (congrArg (fun qz : Nat => ([.ref qz, .ref (D15 5)] : List Value)) (show D15 0 = D 0 from mD15 0 rfl).symm) ?_
  refine v_g H (o := 0) (v := .ref (D15 10)) rfl rfl rfl rfl rfl (vrf ((mF18 0 0 rfl).trans ((pf10).trans (congrArg (fun q : Nat => (q : Int)) (mD15 10 rfl).symm)))) ?_
  refine Ew_of (pcₚ := 33) (fun _ => x_iconst rfl) ?_
  refine v_lI H (o := 10) rfl rfl rfl rfl (n := n10) ((congrArg (fun q : Nat => (q : Int)) (mN15 10 rfl)).trans (en10)) (show 0 ≤ 0 ∧ 0 < n10 from q_2782 h4 r9) (fun v20 ev20 qv20 => ?_)
  have ev20 : (w10) (0) = v20 := (congrFun ((funext (mA18 10 rfl)).trans (ew10)) (0)).symm.trans ev20
  refine Ew_of (pcₚ := 35) (fun _ => x_iconst rfl) ?_
  refine Ew_of (pcₚ := 37) (fun _ => x_ldc (z := 65535) rfl (by decide)) ?_
  have r21 : (-2147483648 : Int) ≤ F 5 6 ∧ F 5 6 ≤ 2147483647 := rngE (show (-2147483648 : Int) ≤ F18 5 6 ∧ F18 5 6 ≤ 2147483647 from H.krg 5 6 (ltn len_V201_Row_Row_oz_D8cls rfl)) (show F18 5 6 = F 5 6 from (((show F18 5 6 = F15 5 6 from (eF18 5 6))).trans ((show F15 5 6 = F 5 6 from (eF15 5 6)))))
  have r22 : (-2147483648 : Int) ≤ F 5 9 ∧ F 5 9 ≤ 2147483647 := rngE (show (-2147483648 : Int) ≤ F18 5 9 ∧ F18 5 9 ≤ 2147483647 from H.krg 5 9 (ltn len_V201_Row_Row_oz_D8cls rfl)) (show F18 5 9 = F 5 9 from (((show F18 5 9 = F15 5 9 from (eF18 5 9))).trans ((show F15 5 9 = F 5 9 from (eF15 5 9)))))
  have r23 : (-2147483648 : Int) ≤ F 5 10 ∧ F 5 10 ≤ 2147483647 := rngE (show (-2147483648 : Int) ≤ F18 5 10 ∧ F18 5 10 ≤ 2147483647 from H.krg 5 10 (ltn len_V201_Row_Row_oz_D8cls rfl)) (show F18 5 10 = F 5 10 from (((show F18 5 10 = F15 5 10 from (eF18 5 10))).trans ((show F15 5 10 = F 5 10 from (eF15 5 10)))))
  have r24 : (-2147483648 : Int) ≤ F 5 11 ∧ F 5 11 ≤ 2147483647 := rngE (show (-2147483648 : Int) ≤ F18 5 11 ∧ F18 5 11 ≤ 2147483647 from H.krg 5 11 (ltn len_V201_Row_Row_oz_D8cls rfl)) (show F18 5 11 = F 5 11 from (((show F18 5 11 = F15 5 11 from (eF18 5 11))).trans ((show F15 5 11 = F 5 11 from (eF15 5 11)))))
  refine v_inv H (o := 5) rfl rfl rfl rfl rfl rfl (by rfl) (C121 (D := puc 5637 D15) (N := puc 5637 N15) (HW_subc H oz_D8cls_46 oz_D8cls_64) ((((show F18 5 7 = F15 5 7 from (eF18 5 7)))).trans (pf15_5_7)) (n11) ((congrArg (fun q : Nat => (q : Int)) (show N15 11 = N 11 from (eN15 11))).trans (en11)) (F 5 6) ((((show F18 5 6 = F15 5 6 from (eF18 5 6))).trans ((show F15 5 6 = F 5 6 from (eF15 5 6))))) (F 5 9) ((((show F18 5 9 = F15 5 9 from (eF18 5 9))).trans ((show F15 5 9 = F 5 9 from (eF15 5 9))))) (F 5 10) ((((show F18 5 10 = F15 5 10 from (eF18 5 10))).trans ((show F15 5 10 = F 5 10 from (eF15 5 10))))) (F 5 11) ((((show F18 5 11 = F15 5 11 from (eF18 5 11))).trans ((show F15 5 11 = F 5 11 from (eF15 5 11))))) (A 11) (((show A18 11 = A15 11 from (eA18 11))).trans ((show A15 11 = A 11 from (eA15 11)))) (show inr (v20) from qv20) (show inr (4) from q_2) (show inr (65535) from q_166) (show (n11) = 0 ∨ (n11) = 2048 from h7) (fun σ25 D25ₚ N25ₚ F25ₚ A25ₚ c25 s25 Hₚ Oₚ hD25 hN25 hS25 hA25 pm25_1 m25_1 em25_1 y25_0_6 ey25_0_6 y25_0_9 ey25_0_9 y25_0_10 ey25_0_10 y25_0_11 ey25_0_11 w25_1 ew25_1 pz25_0 pz25_1 pz25_2 pz25_3 => ⟨rfl, ?_⟩))
  refine v_backMc (c := (c + c15)) (s := (s + s15)) H oz_D8cls_46 oz_D8cls_64 Hₚ Oₚ hD25 oz_D8cls_47 (fun D25 N25 F25 A25 H Oₚ eD25 eN25 eF25 eA25 => ?_)
  have O := OUT_trans O Oₚ
  -- Finder.begin
  have cF25 : SF oz_D8clsl_16 F F25 := SF_trans (cF18) (SF_gluc (ι := oz_D8clsl_20) oz_D8cls_64 hS25 eF25 (by decide +kernel)) (any_sub (lₚ := [(5, 6), (5, 7), (5, 9), (5, 10), (5, 11)]) (by decide +kernel))
  have mF25 := SFm_of cF25 oz_D8cls_60
  have cA25 : SA oz_D8clsl_17 A A25 := SA_trans (cA18) (SA_gluc (ι := oz_D8clsl_20) oz_D8cls_64 hA25 eA25 (by decide +kernel)) (any_subA (lₚ := [11]) (by decide +kernel))
  have mA25 := SAm_of cA25 oz_D8cls_61
  have cD25 : SD oz_D8clsl_17 D D25 := SD_trans (cD15) (SD_gluc (ι := oz_D8clsl_20) oz_D8cls_64 hD25 eD25 (by decide +kernel)) (any_subA (lₚ := [11]) (by decide +kernel))
  have mD25 := SDm_of cD25 oz_D8cls_61
  have cN25 : SD oz_D8clsl_17 N N25 := SD_trans (cN15) (SD_gluc (ι := oz_D8clsl_20) oz_D8cls_64 hN25 eN25 (by decide +kernel)) (any_subA (lₚ := [11]) (by decide +kernel))
  have mN25 := SDm_of cN25 oz_D8cls_61
  have pf25_1_0 : F25 1 0 = (D25 3 : Int) := ((show F25 1 0 = F18 1 0 from (eF25 1 0))).trans (((((show F18 1 0 = F15 1 0 from (eF18 1 0)))).trans (pf15_1_0)).trans (congrArg (fun q : Nat => (q : Int)) ((show D25 3 = D15 3 from (eD25 3))).symm))
  have pf25_5_1 : F25 5 1 = (D25 13 : Int) := ((show F25 5 1 = F18 5 1 from (eF25 5 1).trans (hS25 0 1 rfl))).trans (((((show F18 5 1 = F15 5 1 from (eF18 5 1)))).trans (pf15_5_1)).trans (congrArg (fun q : Nat => (q : Int)) ((show D25 13 = D15 13 from (eD25 13))).symm))
  have pf25_5_2 : F25 5 2 = (D25 14 : Int) := ((show F25 5 2 = F18 5 2 from (eF25 5 2).trans (hS25 0 2 rfl))).trans (((((show F18 5 2 = F15 5 2 from (eF18 5 2)))).trans (pf15_5_2)).trans (congrArg (fun q : Nat => (q : Int)) ((show D25 14 = D15 14 from (eD25 14))).symm))
  have pf25_5_3 : F25 5 3 = (D25 15 : Int) := ((show F25 5 3 = F18 5 3 from (eF25 5 3).trans (hS25 0 3 rfl))).trans (((((show F18 5 3 = F15 5 3 from (eF18 5 3)))).trans (pf15_5_3)).trans (congrArg (fun q : Nat => (q : Int)) ((show D25 15 = D15 15 from (eD25 15))).symm))
  have pf25_5_7 : F25 5 7 = (D25 11 : Int) := (eF25 5 7).trans (pm25_1.trans (congrArg (fun q : Nat => (q : Int)) (eD25 11).symm))
  have pf25_5_8 : F25 5 8 = (D25 12 : Int) := ((show F25 5 8 = F18 5 8 from (eF25 5 8).trans (hS25 0 8 rfl))).trans (((((show F18 5 8 = F15 5 8 from (eF18 5 8)))).trans (pf15_5_8)).trans (congrArg (fun q : Nat => (q : Int)) ((show D25 12 = D15 12 from (eD25 12))).symm))
  have pf25_6_0 : F25 6 0 = (D25 7 : Int) := ((show F25 6 0 = F18 6 0 from (eF25 6 0))).trans (((((show F18 6 0 = F15 6 0 from (eF18 6 0).trans (hS18 0 0 rfl)))).trans (pf15_6_0)).trans (congrArg (fun q : Nat => (q : Int)) ((show D25 7 = D15 7 from (eD25 7))).symm))
  have pf25_8_0 : F25 8 0 = (D25 9 : Int) := ((show F25 8 0 = F18 8 0 from (eF25 8 0))).trans (((((show F18 8 0 = F15 8 0 from (eF18 8 0)))).trans (pf15_8_0)).trans (congrArg (fun q : Nat => (q : Int)) ((show D25 9 = D15 9 from (eD25 9))).symm))
  have r26 : (0 : Int) ≤ m25_1 ∧ m25_1 ≤ 1000000 := nleE (H.nle 11 (ltn len_V201_Row_Row_oz_D8cls rfl)) (show (N25 11 : Int) = m25_1 from (congrArg (fun q : Nat => (q : Int)) (eN25 11)).trans em25_1)
  have r27 : (-2147483648 : Int) ≤ y25_0_6 ∧ y25_0_6 ≤ 2147483647 := rngE (show (-2147483648 : Int) ≤ F25 5 6 ∧ F25 5 6 ≤ 2147483647 from H.krg 5 6 (ltn len_V201_Row_Row_oz_D8cls rfl)) (show F25 5 6 = y25_0_6 from ((eF25 5 6).trans ey25_0_6))
  have r28 : (-2147483648 : Int) ≤ y25_0_9 ∧ y25_0_9 ≤ 2147483647 := rngE (show (-2147483648 : Int) ≤ F25 5 9 ∧ F25 5 9 ≤ 2147483647 from H.krg 5 9 (ltn len_V201_Row_Row_oz_D8cls rfl)) (show F25 5 9 = y25_0_9 from ((eF25 5 9).trans ey25_0_9))
  have r29 : (-2147483648 : Int) ≤ y25_0_10 ∧ y25_0_10 ≤ 2147483647 := rngE (show (-2147483648 : Int) ≤ F25 5 10 ∧ F25 5 10 ≤ 2147483647 from H.krg 5 10 (ltn len_V201_Row_Row_oz_D8cls rfl)) (show F25 5 10 = y25_0_10 from ((eF25 5 10).trans ey25_0_10))
  have r30 : (-2147483648 : Int) ≤ y25_0_11 ∧ y25_0_11 ≤ 2147483647 := rngE (show (-2147483648 : Int) ≤ F25 5 11 ∧ F25 5 11 ≤ 2147483647 from H.krg 5 11 (ltn len_V201_Row_Row_oz_D8cls rfl)) (show F25 5 11 = y25_0_11 from ((eF25 5 11).trans ey25_0_11))
  refine Ew_of (pcₚ := 41) (fun _ => x_aload_n rfl (rk_o (rfl) rfl rfl)) ?_
  refine Ew_stk (congrArg (fun qz : Nat => ([.ref qz] : List Value)) (show D25 0 = D 0 from mD25 0 rfl).symm) ?_
  refine v_g H (o := 0) (v := .ref (D25 10)) rfl rfl rfl rfl rfl (vrf ((mF25 0 0 rfl).trans ((pf10).trans (congrArg (fun q : Nat => (q : Int)) (mD25 10 rfl).symm)))) ?_
  refine Ew_of (pcₚ := 45) (fun _ => x_iconst rfl) ?_
  refine v_lI H (o := 10) rfl rfl rfl rfl (n := n10) ((congrArg (fun q : Nat => (q : Int)) (mN25 10 rfl)).trans (en10)) (show 0 ≤ 2 ∧ 2 < n10 from q_3071 h4 r9) (fun v31 ev31 qv31 => ?_)
  have ev31 : (w10) (2) = v31 := (congrFun ((funext (mA25 10 rfl)).trans (ew10)) (2)).symm.trans ev31
  have hs2 := ev31
  have hs3 : 1 ≤ (v31) ∧ (v31) ≤ 65536 := q_3072 ev31 h6
  refine Ew_of (pcₚ := 48) (fun _ => x_istore rfl) ?_
  refine Ew_of (pcₚ := 49) (fun _ => x_iconst rfl) ?_
  refine Ew_of (pcₚ := 51) (fun _ => x_istore rfl) ?_
  have hb0 : BKI ((A 7)) ((A 12)) ((y25_0_10)) ((y25_0_6)) := by rw [pz25_1]; exact BKI_0
  have hh0 : HDI ((A 7)) ((w25_1)) ((y25_0_10)) ((y25_0_6)) := by rw [pz25_1]; exact HDI_0 pz25_3
  suffices hl51 : ∀ (m : Nat), ∀ (ls : rO) (σ : rS) (D_51 N_51 : Nat → Nat) (c_51 s_51 : Nat) (F_51 : hF) (A_51 : hA) (x51_5 : Int), rlook ls 0 = some (.ref (D_51 0)) → rlook ls 1 = some (.ref (D_51 1)) → rlook ls 2 = some (.ref (D_51 2)) → rlook ls 3 = some (.ref (D_51 6)) → rlook ls 4 = some (I (v31)) → rlook ls 5 = some (I (x51_5)) → HW V201_Row_Row σ D_51 N_51 F_51 A_51 → OUT (V201_Row_Row).length D N σE c s D_51 N_51 σ c_51 s_51 → SD [3, 7, 9, 12, 13, 14, 15] D25 D_51 → SD [3, 7, 9, 12, 13, 14, 15] N25 N_51 → SF [(1, 0), (1, 1), (1, 2), (5, 1), (5, 2), (5, 3), (5, 4), (5, 5), (5, 6), (5, 8), (5, 12), (5, 13), (5, 14), (5, 15), (5, 16), (5, 17), (5, 18), (6, 0), (6, 1), (6, 2), (6, 3), (6, 4), (8, 0), (8, 1), (8, 2), (8, 3), (8, 4)] F25 F_51 → SA [3, 7, 9, 11, 12, 13, 14, 15] A25 A_51 → F_51 1 0 = (D_51 3 : Int) → F_51 6 0 = (D_51 7 : Int) → F_51 8 0 = (D_51 9 : Int) → F_51 5 8 = (D_51 12 : Int) → F_51 5 1 = (D_51 13 : Int) → F_51 5 2 = (D_51 14 : Int) → F_51 5 3 = (D_51 15 : Int) → ∀ m51_3 : Int, (N_51 3 : Int) = m51_3 → ∀ m51_7 : Int, (N_51 7 : Int) = m51_7 → ∀ m51_9 : Int, (N_51 9 : Int) = m51_9 → ∀ m51_12 : Int, (N_51 12 : Int) = m51_12 → ∀ m51_13 : Int, (N_51 13 : Int) = m51_13 → ∀ m51_14 : Int, (N_51 14 : Int) = m51_14 → ∀ m51_15 : Int, (N_51 15 : Int) = m51_15 → ∀ y51_1_1 : Int, F_51 1 1 = y51_1_1 → ∀ y51_5_6 : Int, F_51 5 6 = y51_5_6 → ∀ y51_6_1 : Int, F_51 6 1 = y51_6_1 → ∀ y51_8_1 : Int, F_51 8 1 = y51_8_1 → ∀ w51_7 : Int → Int, A_51 7 = w51_7 → ∀ w51_11 : Int → Int, A_51 11 = w51_11 → ∀ w51_12 : Int → Int, A_51 12 = w51_12 → (inr (x51_5)) → (0 ≤ (y51_1_1) ∧ (y51_1_1) ≤ (m51_3) ∧ (m51_3) ≤ 65536) → (0 ≤ (x51_5) ∧ (x51_5) ≤ (u2_1) + 65536) → (0 ≤ (y51_6_1) ∧ (y51_6_1) ≤ (m51_7) ∧ (m51_7) ≤ 65536 ∧ (y51_6_1) ≤ 16384) → (0 ≤ (y51_8_1) ∧ (y51_8_1) ≤ (m51_9) ∧ (m51_9) ≤ 65536) → ((m25_1) = 2048) → (0 ≤ (y51_5_6) ∧ (y51_5_6) ≤ (m51_12) ∧ (m51_12) ≤ 16384) → ((y51_5_6) = 0 ∨ (y51_5_6) + 4 ≤ (y51_6_1) + 1) → (BKI ((w51_7)) ((w51_12)) ((y25_0_10)) ((y51_5_6))) → (HDI ((w51_7)) ((w51_11)) ((y25_0_10)) ((y51_5_6))) → ((m51_13) = (m51_14) ∧ (m51_15) = (m51_14) ∧ (m51_14) ≤ 65536 ∧ ((m51_14) = 0 ∨ 64 ≤ (m51_14)) ∧ lgq ((m51_14)) = 0) → ((u2_1) + 65536 - (x51_5)).toNat = m → Ew 201 (d + 5) 51 ls [] σ c_51 s_51 Q from
    hl51 _ _ _ _ _ _ _ _ _ (0) ((rk_o (rk_o (rk_o (rfl) rfl rfl) rfl rfl) rfl rfl).trans (congrArg (fun q : Nat => some (Value.ref q)) (mD25 0 rfl).symm)) ((rk_o (rk_o (rk_o (rfl) rfl rfl) rfl rfl) rfl rfl).trans (congrArg (fun q : Nat => some (Value.ref q)) (mD25 1 rfl).symm)) ((rk_o (rk_o (rk_o (rfl) rfl rfl) rfl rfl) rfl rfl).trans (congrArg (fun q : Nat => some (Value.ref q)) (mD25 2 rfl).symm)) ((rk_o (rk_o (rk_s) rfl rfl) rfl rfl).trans (congrArg (fun q : Nat => some (Value.ref q)) (((show D25 6 = D15 6 from (eD25 6)))).symm)) (rk_o (rk_s) rfl rfl) (rk_s) H O (SD_refl) (SD_refl) (SF_refl) (SA_refl) (pf25_1_0) (pf25_6_0) (pf25_8_0) (pf25_5_8) (pf25_5_1) (pf25_5_2) (pf25_5_3) (m15_1) ((congrArg (fun q : Nat => (q : Int)) (show N25 3 = N15 3 from (eN25 3))).trans ((congrArg (fun q : Nat => (q : Int)) (eN15 3)).trans em15_1)) (n7) ((congrArg (fun q : Nat => (q : Int)) (show N25 7 = N15 7 from (eN25 7))).trans ((congrArg (fun q : Nat => (q : Int)) (show N15 7 = N 7 from (eN15 7))).trans (en7))) (n9) ((congrArg (fun q : Nat => (q : Int)) (show N25 9 = N15 9 from (eN25 9))).trans ((congrArg (fun q : Nat => (q : Int)) (show N15 9 = N 9 from (eN15 9))).trans (en9))) (n12) ((congrArg (fun q : Nat => (q : Int)) (show N25 12 = N15 12 from (eN25 12))).trans ((congrArg (fun q : Nat => (q : Int)) (show N15 12 = N 12 from (eN15 12))).trans (en12))) (n13) ((congrArg (fun q : Nat => (q : Int)) (show N25 13 = N15 13 from (eN25 13))).trans ((congrArg (fun q : Nat => (q : Int)) (show N15 13 = N 13 from (eN15 13))).trans (en13))) (n14) ((congrArg (fun q : Nat => (q : Int)) (show N25 14 = N15 14 from (eN25 14))).trans ((congrArg (fun q : Nat => (q : Int)) (show N15 14 = N 14 from (eN15 14))).trans (en14))) (n15) ((congrArg (fun q : Nat => (q : Int)) (show N25 15 = N15 15 from (eN25 15))).trans ((congrArg (fun q : Nat => (q : Int)) (show N15 15 = N 15 from (eN15 15))).trans (en15))) (y15_0_1) (((((show F25 1 1 = F18 1 1 from (eF25 1 1))).trans ((show F18 1 1 = F15 1 1 from (eF18 1 1)))).trans ((eF15 1 1).trans ey15_0_1))) (y25_0_6) (((eF25 5 6).trans ey25_0_6)) (y18_0_1) ((((show F25 6 1 = F18 6 1 from (eF25 6 1))).trans ((eF18 6 1).trans ey18_0_1))) (u8_1) ((((((show F25 8 1 = F18 8 1 from (eF25 8 1))).trans ((show F18 8 1 = F15 8 1 from (eF18 8 1)))).trans ((show F15 8 1 = F 8 1 from (eF15 8 1)))).trans (eu8_1))) (A 7) (((show A25 7 = A18 7 from (eA25 7))).trans (((show A18 7 = A15 7 from (eA18 7))).trans ((show A15 7 = A 7 from (eA15 7))))) (w25_1) ((eA25 11).trans ew25_1) (A 12) (((show A25 12 = A18 12 from (eA25 12))).trans (((show A18 12 = A15 12 from (eA18 12))).trans ((show A15 12 = A 12 from (eA15 12))))) (show inr (0) from q_20) (show 0 ≤ (y15_0_1) ∧ (y15_0_1) ≤ (m15_1) ∧ (m15_1) ≤ 65536 from pz15_0) (show 0 ≤ (0) ∧ (0) ≤ (u2_1) + 65536 from q_3075 h1) (show 0 ≤ (y18_0_1) ∧ (y18_0_1) ≤ (n7) ∧ (n7) ≤ 65536 ∧ (y18_0_1) ≤ 16384 from q_3074 h2 pz18_0 r7) (show 0 ≤ (u8_1) ∧ (u8_1) ≤ (n9) ∧ (n9) ≤ 65536 from h3) (show (m25_1) = 2048 from pz25_0) (show 0 ≤ (y25_0_6) ∧ (y25_0_6) ≤ (n12) ∧ (n12) ≤ 16384 from q_2783 h8 pz25_1 r11) (show (y25_0_6) = 0 ∨ (y25_0_6) + 4 ≤ (y18_0_1) + 1 from q_3073 pz25_1) (show BKI ((A 7)) ((A 12)) ((y25_0_10)) ((y25_0_6)) from hb0) (show HDI ((A 7)) ((w25_1)) ((y25_0_10)) ((y25_0_6)) from hh0) (show (n13) = (n14) ∧ (n15) = (n14) ∧ (n14) ≤ 65536 ∧ ((n14) = 0 ∨ 64 ≤ (n14)) ∧ lgq ((n14)) = 0 from h9) rfl
  as_aux_lemma =>
  intro m
  induction m using Nat.strongRecOn with
  | _ m ih51 =>
    intro ls σ D_51 N_51 c_51 s_51 F_51 A_51 x51_5 l51_0 l51_1 l51_2 l51_3 l51_4 l51_5 H O hD_51 hN_51 hS_51 hA_51 pm51_3 pm51_7 pm51_9 pm51_12 pm51_13 pm51_14 pm51_15 m51_3 em51_3 m51_7 em51_7 m51_9 em51_9 m51_12 em51_12 m51_13 em51_13 m51_14 em51_14 m51_15 em51_15 y51_1_1 ey51_1_1 y51_5_6 ey51_5_6 y51_6_1 ey51_6_1 y51_8_1 ey51_8_1 w51_7 ew51_7 w51_11 ew51_11 w51_12 ew51_12 j51_0 j51_1 j51_2 j51_3 j51_4 j51_5 j51_6 j51_7 j51_8 j51_9 j51_10 hm51
    have cF_51 : SF oz_D8clsl_16 F F_51 := SF_trans (cF25) hS_51 (any_sub (by decide +kernel))
    have mF_51 := SFm_of cF_51 oz_D8cls_60
    have cA_51 : SA oz_D8clsl_17 A A_51 := SA_trans (cA25) hA_51 (any_subA (by decide +kernel))
    have mA_51 := SAm_of cA_51 oz_D8cls_61
    have cD_51 : SD oz_D8clsl_17 D D_51 := SD_trans (cD25) hD_51 (any_subA (by decide +kernel))
    have mD_51 := SDm_of cD_51 oz_D8cls_61
    have cN_51 : SD oz_D8clsl_17 N N_51 := SD_trans (cN25) hN_51 (any_subA (by decide +kernel))
    have mN_51 := SDm_of cN_51 oz_D8cls_61
    try clear pz15_1
    have pf_51_5_7 : F_51 5 7 = (D_51 11 : Int) := (hS_51 5 7 rfl).trans ((pf25_5_7).trans (congrArg (fun q : Nat => (q : Int)) (hD_51 11 rfl).symm))
    have r32 : (0 : Int) ≤ m51_3 ∧ m51_3 ≤ 1000000 := nleE (H.nle 3 (ltn len_V201_Row_Row_oz_D8cls rfl)) (show (N_51 3 : Int) = m51_3 from em51_3)
    have r33 : (0 : Int) ≤ m51_7 ∧ m51_7 ≤ 1000000 := nleE (H.nle 7 (ltn len_V201_Row_Row_oz_D8cls rfl)) (show (N_51 7 : Int) = m51_7 from em51_7)
    have r34 : (0 : Int) ≤ m51_9 ∧ m51_9 ≤ 1000000 := nleE (H.nle 9 (ltn len_V201_Row_Row_oz_D8cls rfl)) (show (N_51 9 : Int) = m51_9 from em51_9)
    have r35 : (0 : Int) ≤ m51_12 ∧ m51_12 ≤ 1000000 := nleE (H.nle 12 (ltn len_V201_Row_Row_oz_D8cls rfl)) (show (N_51 12 : Int) = m51_12 from em51_12)
    have r36 : (0 : Int) ≤ m51_13 ∧ m51_13 ≤ 1000000 := nleE (H.nle 13 (ltn len_V201_Row_Row_oz_D8cls rfl)) (show (N_51 13 : Int) = m51_13 from em51_13)
    have r37 : (0 : Int) ≤ m51_14 ∧ m51_14 ≤ 1000000 := nleE (H.nle 14 (ltn len_V201_Row_Row_oz_D8cls rfl)) (show (N_51 14 : Int) = m51_14 from em51_14)
    have r38 : (0 : Int) ≤ m51_15 ∧ m51_15 ≤ 1000000 := nleE (H.nle 15 (ltn len_V201_Row_Row_oz_D8cls rfl)) (show (N_51 15 : Int) = m51_15 from em51_15)
    have r39 : (-2147483648 : Int) ≤ y51_1_1 ∧ y51_1_1 ≤ 2147483647 := rngE (show (-2147483648 : Int) ≤ F_51 1 1 ∧ F_51 1 1 ≤ 2147483647 from H.krg 1 1 (ltn len_V201_Row_Row_oz_D8cls rfl)) (show F_51 1 1 = y51_1_1 from (ey51_1_1))
    have r40 : (-2147483648 : Int) ≤ y51_5_6 ∧ y51_5_6 ≤ 2147483647 := rngE (show (-2147483648 : Int) ≤ F_51 5 6 ∧ F_51 5 6 ≤ 2147483647 from H.krg 5 6 (ltn len_V201_Row_Row_oz_D8cls rfl)) (show F_51 5 6 = y51_5_6 from (ey51_5_6))
    have r41 : (-2147483648 : Int) ≤ y51_6_1 ∧ y51_6_1 ≤ 2147483647 := rngE (show (-2147483648 : Int) ≤ F_51 6 1 ∧ F_51 6 1 ≤ 2147483647 from H.krg 6 1 (ltn len_V201_Row_Row_oz_D8cls rfl)) (show F_51 6 1 = y51_6_1 from (ey51_6_1))
    have r42 : (-2147483648 : Int) ≤ y51_8_1 ∧ y51_8_1 ≤ 2147483647 := rngE (show (-2147483648 : Int) ≤ F_51 8 1 ∧ F_51 8 1 ≤ 2147483647 from H.krg 8 1 (ltn len_V201_Row_Row_oz_D8cls rfl)) (show F_51 8 1 = y51_8_1 from (ey51_8_1))
    refine Ew_of (pcₚ := 53) (fun _ => x_iload rfl l51_4) ?_
    refine w_ifle (t := 224) rfl rfl (show inr (v31) from qv31) (fun b43 => ?_) (fun b43 => ?_)
    · exact w_ret rfl (k _ _ _ _ _ _ _ H O (cD_51) (cN_51) (cF_51) (cA_51) (pm51_3) (pm51_7) (pm51_9) (pf_51_5_7) (pm51_12) (pm51_13) (pm51_14) (pm51_15) (m51_3) (em51_3) (m51_7) (em51_7) (m51_9) (em51_9) (m25_1) ((congrArg (fun q : Nat => (q : Int)) (hN_51 11 rfl)).trans ((congrArg (fun q : Nat => (q : Int)) (eN25 11)).trans em25_1)) (m51_12) (em51_12) (m51_13) (em51_13) (m51_14) (em51_14) (m51_15) (em51_15) (y51_1_1) ((ey51_1_1)) (y51_6_1) ((ey51_6_1)) (y51_8_1) ((ey51_8_1)) (show 0 ≤ (y51_1_1) ∧ (y51_1_1) ≤ (m51_3) ∧ (m51_3) ≤ 65536 from j51_1) (show 0 ≤ (y51_6_1) ∧ (y51_6_1) ≤ (m51_7) ∧ (m51_7) ≤ 65536 from q_2775 j51_3) (show 0 ≤ (y51_8_1) ∧ (y51_8_1) ≤ (m51_9) ∧ (m51_9) ≤ 65536 from j51_4) (show (m25_1) = 0 ∨ (m25_1) = 2048 from q_2788 j51_5) (show (m51_12) ≤ 16384 from q_3076 j51_6) (show (m51_13) = (m51_14) ∧ (m51_15) = (m51_14) ∧ (m51_14) ≤ 65536 ∧ ((m51_14) = 0 ∨ 64 ≤ (m51_14)) ∧ lgq ((m51_14)) = 0 from j51_10))
    · refine Ew_of (pcₚ := 58) (fun _ => x_iload rfl l51_5) ?_
      refine Ew_of (pcₚ := 59) (fun _ => x_aload_n rfl l51_2) ?_
      refine v_g H (o := 2) (v := I (u2_1)) rfl rfl rfl rfl rfl (congrArg (fun z : Int => I z) (((mF_51 2 1 rfl).trans (eu2_1)) : F_51 2 1 = u2_1)) ?_
      refine w_icmpge (t := 224) rfl rfl (show inr (x51_5) from j51_0) (show inr (u2_1) from q_3077 h1 h5) (fun b44 => ?_) (fun b44 => ?_)
      · exact w_ret rfl (k _ _ _ _ _ _ _ H O (cD_51) (cN_51) (cF_51) (cA_51) (pm51_3) (pm51_7) (pm51_9) (pf_51_5_7) (pm51_12) (pm51_13) (pm51_14) (pm51_15) (m51_3) (em51_3) (m51_7) (em51_7) (m51_9) (em51_9) (m25_1) ((congrArg (fun q : Nat => (q : Int)) (hN_51 11 rfl)).trans ((congrArg (fun q : Nat => (q : Int)) (eN25 11)).trans em25_1)) (m51_12) (em51_12) (m51_13) (em51_13) (m51_14) (em51_14) (m51_15) (em51_15) (y51_1_1) ((ey51_1_1)) (y51_6_1) ((ey51_6_1)) (y51_8_1) ((ey51_8_1)) (show 0 ≤ (y51_1_1) ∧ (y51_1_1) ≤ (m51_3) ∧ (m51_3) ≤ 65536 from j51_1) (show 0 ≤ (y51_6_1) ∧ (y51_6_1) ≤ (m51_7) ∧ (m51_7) ≤ 65536 from q_2775 j51_3) (show 0 ≤ (y51_8_1) ∧ (y51_8_1) ≤ (m51_9) ∧ (m51_9) ≤ 65536 from j51_4) (show (m25_1) = 0 ∨ (m25_1) = 2048 from q_2788 j51_5) (show (m51_12) ≤ 16384 from q_3076 j51_6) (show (m51_13) = (m51_14) ∧ (m51_15) = (m51_14) ∧ (m51_14) ≤ 65536 ∧ ((m51_14) = 0 ∨ 64 ≤ (m51_14)) ∧ lgq ((m51_14)) = 0 from j51_10))
      · refine Ew_of (pcₚ := 66) (fun _ => x_aload_n rfl l51_1) ?_
        have r45 : (0 : Int) ≤ F_51 1 2 ∧ F_51 1 2 ≤ 1 := H.krg 1 2 (ltn len_V201_Row_Row_oz_D8cls rfl)
        refine v_g H (o := 1) (v := I (F_51 1 2)) rfl rfl rfl rfl rfl (congrArg (fun z : Int => I z) (rfl : F_51 1 2 = F_51 1 2)) ?_
        refine w_ifne (t := 224) rfl rfl (show inr (F_51 1 2) from q_1535 r45) (fun b46 => ?_) (fun b46 => ?_)
        · exact w_ret rfl (k _ _ _ _ _ _ _ H O (cD_51) (cN_51) (cF_51) (cA_51) (pm51_3) (pm51_7) (pm51_9) (pf_51_5_7) (pm51_12) (pm51_13) (pm51_14) (pm51_15) (m51_3) (em51_3) (m51_7) (em51_7) (m51_9) (em51_9) (m25_1) ((congrArg (fun q : Nat => (q : Int)) (hN_51 11 rfl)).trans ((congrArg (fun q : Nat => (q : Int)) (eN25 11)).trans em25_1)) (m51_12) (em51_12) (m51_13) (em51_13) (m51_14) (em51_14) (m51_15) (em51_15) (y51_1_1) ((ey51_1_1)) (y51_6_1) ((ey51_6_1)) (y51_8_1) ((ey51_8_1)) (show 0 ≤ (y51_1_1) ∧ (y51_1_1) ≤ (m51_3) ∧ (m51_3) ≤ 65536 from j51_1) (show 0 ≤ (y51_6_1) ∧ (y51_6_1) ≤ (m51_7) ∧ (m51_7) ≤ 65536 from q_2775 j51_3) (show 0 ≤ (y51_8_1) ∧ (y51_8_1) ≤ (m51_9) ∧ (m51_9) ≤ 65536 from j51_4) (show (m25_1) = 0 ∨ (m25_1) = 2048 from q_2788 j51_5) (show (m51_12) ≤ 16384 from q_3076 j51_6) (show (m51_13) = (m51_14) ∧ (m51_15) = (m51_14) ∧ (m51_14) ≤ 65536 ∧ ((m51_14) = 0 ∨ 64 ≤ (m51_14)) ∧ lgq ((m51_14)) = 0 from j51_10))
        · refine Ew_of (pcₚ := 74) (fun _ => x_iload rfl l51_4) ?_
          refine Ew_of (pcₚ := 75) (fun _ => x_aload_n rfl l51_2) ?_
          refine v_g H (o := 2) (v := I (u2_1)) rfl rfl rfl rfl rfl (congrArg (fun z : Int => I z) (((mF_51 2 1 rfl).trans (eu2_1)) : F_51 2 1 = u2_1)) ?_
          refine Ew_of (pcₚ := 80) (fun _ => x_iload rfl l51_5) ?_
          refine w_isub rfl ?_
          refine v_min rfl rfl (show inr (v31) from qv31) (show inr ((u2_1 - x51_5)) from q_3078 b44 h5 j51_2) (fun z47 gz47 => ?_)
          refine Ew_of (pcₚ := 86) (fun _ => x_istore rfl) ?_
          have hl6 : 0 ≤ (z47) ∧ (z47) ≤ 16384 ∧ (x51_5) + (z47) ≤ (u2_1) := by omega
          refine Ew_of (pcₚ := 87) (fun _ => x_aload_n rfl (rk_o (l51_0) rfl rfl)) ?_
          refine v_g H (o := 0) (v := .ref (D_51 5)) rfl rfl rfl rfl rfl (vrf ((mF_51 0 1 rfl).trans ((pf5).trans (congrArg (fun q : Nat => (q : Int)) (mD_51 5 rfl).symm)))) ?_
          refine Ew_of (pcₚ := 91) (fun _ => x_iconst rfl) ?_
          refine v_inv H (o := 5) rfl rfl rfl rfl rfl rfl (by rfl) (C124 (D := puc 757526694917 D_51) (N := puc 757526694917 N_51) (HW_subc H oz_D8cls_48 oz_D8cls_65) ((mF_51 5 0 rfl).trans ((pf6).trans (congrArg (fun q : Nat => (q : Int)) (mD_51 6 rfl).symm))) (pm51_7) (pm51_12) (pf_51_5_7) (m51_7) (em51_7) (m51_12) (em51_12) (m25_1) ((congrArg (fun q : Nat => (q : Int)) (hN_51 11 rfl)).trans ((congrArg (fun q : Nat => (q : Int)) (eN25 11)).trans em25_1)) (y51_5_6) ((ey51_5_6)) (y25_0_10) (((hS_51 5 10 rfl).trans ((eF25 5 10).trans ey25_0_10))) (y51_6_1) ((ey51_6_1)) (w51_7) (ew51_7) (w51_12) (ew51_12) (w51_11) (ew51_11) (show inr (0) from q_20) (show 0 ≤ (y51_6_1) ∧ (y51_6_1) ≤ (m51_7) ∧ (m51_7) ≤ 65536 ∧ (y51_6_1) ≤ 16384 from j51_3) (show 1 ≤ (y25_0_10) ∧ (y25_0_10) ≤ 8 from q_3080 pz25_2) (show 0 ≤ (0) ∧ (0) ≤ (y51_5_6) from q_3079 j51_6) (show (y51_5_6) = 0 ∨ (y51_5_6) + (y25_0_10) ≤ (y51_6_1) + 1 by omega) (show BKI ((w51_7)) ((w51_12)) ((y25_0_10)) ((y51_5_6)) from j51_8) (show HDI ((w51_7)) ((w51_11)) ((y25_0_10)) ((y51_5_6)) from j51_9) (show (m25_1) = 2048 from j51_5) (show 0 ≤ (y51_5_6) ∧ (y51_5_6) ≤ (m51_12) ∧ (m51_12) ≤ 16384 from j51_6) (fun σ48 F48ₚ A48ₚ Hₚ Oₚ hS48 hA48 y48_0_6 ey48_0_6 w48_4 ew48_4 pz48_0 pz48_1 pz48_2 => ⟨rfl, ?_⟩))
          refine v_backc (c := c_51) (s := s_51) H oz_D8cls_48 oz_D8cls_65 Hₚ Oₚ (fun F48 A48 H Oₚ eF48 eA48 => ?_)
          have O := OUT_trans O Oₚ
          -- Finder.unlay
          have cF48 : SF oz_D8clsl_16 F F48 := SF_trans (cF_51) (SF_gluc (ι := oz_D8clsl_21) oz_D8cls_65 hS48 eF48 (by decide +kernel)) (any_sub (lₚ := [(5, 6)]) (by decide +kernel))
          have mF48 := SFm_of cF48 oz_D8cls_60
          have cA48 : SA oz_D8clsl_17 A A48 := SA_trans (cA_51) (SA_gluc (ι := oz_D8clsl_21) oz_D8cls_65 hA48 eA48 (by decide +kernel)) (any_subA (lₚ := [11]) (by decide +kernel))
          have mA48 := SAm_of cA48 oz_D8cls_61
          have r49 : (-2147483648 : Int) ≤ y48_0_6 ∧ y48_0_6 ≤ 2147483647 := rngE (show (-2147483648 : Int) ≤ F48 5 6 ∧ F48 5 6 ≤ 2147483647 from H.krg 5 6 (ltn len_V201_Row_Row_oz_D8cls rfl)) (show F48 5 6 = y48_0_6 from ((eF48 5 6).trans ey48_0_6))
          have hun0 := pz48_0
          have hun := pz48_2
          rw [hun0] at hun
          refine Ew_of (pcₚ := 95) (fun _ => x_aload_n rfl (rk_o (l51_3) rfl rfl)) ?_
          refine v_inv H (o := 6) rfl rfl rfl rfl rfl rfl (by rfl) (C156 (D := puc 6 D_51) (N := puc 6 N_51) (HW_subc H oz_D8cls_45 oz_D8cls_63) (y51_6_1) ((((show F48 6 1 = F_51 6 1 from (eF48 6 1).trans (hS48 1 1 rfl))).trans (ey51_6_1)))  (fun σ50 F50ₚ A50ₚ Hₚ Oₚ hS50 hA50 y50_0_1 ey50_0_1 pz50_0 => ⟨rfl, ?_⟩))
          refine v_backc (c := c_51) (s := s_51) H oz_D8cls_45 oz_D8cls_63 Hₚ Oₚ (fun F50 A50 H Oₚ eF50 eA50 => ?_)
          have O := OUT_trans O Oₚ
          -- Row.clear
          have cF50 : SF oz_D8clsl_16 F F50 := SF_trans (cF48) (SF_gluc (ι := oz_D8clsl_19) oz_D8cls_63 hS50 eF50 (by decide +kernel)) (any_sub (lₚ := [(6, 1), (6, 2), (6, 3), (6, 4)]) (by decide +kernel))
          have mF50 := SFm_of cF50 oz_D8cls_60
          have cA50 : SA oz_D8clsl_17 A A50 := SA_trans (cA48) (SA_gluc (ι := oz_D8clsl_19) oz_D8cls_63 hA50 eA50 (by decide +kernel)) (any_subA (lₚ := []) (by decide +kernel))
          have mA50 := SAm_of cA50 oz_D8cls_61
          have r51 : (-2147483648 : Int) ≤ y50_0_1 ∧ y50_0_1 ≤ 2147483647 := rngE (show (-2147483648 : Int) ≤ F50 6 1 ∧ F50 6 1 ≤ 2147483647 from H.krg 6 1 (ltn len_V201_Row_Row_oz_D8cls rfl)) (show F50 6 1 = y50_0_1 from ((eF50 6 1).trans ey50_0_1))
          refine Ew_of (pcₚ := 99) (fun _ => x_aload_n rfl (rk_o (l51_3) rfl rfl)) ?_
          refine Ew_of (pcₚ := 100) (fun _ => x_aload_n rfl (rk_o (l51_2) rfl rfl)) ?_
          refine v_g H (o := 2) (v := .ref (D_51 4)) rfl rfl rfl rfl rfl (vrf ((mF50 2 0 rfl).trans ((pf4).trans (congrArg (fun q : Nat => (q : Int)) (mD_51 4 rfl).symm)))) ?_
          refine Ew_of (pcₚ := 105) (fun _ => x_iload rfl (rk_o (l51_5) rfl rfl)) ?_
          refine Ew_of (pcₚ := 107) (fun _ => x_iload rfl rk_s) ?_
          refine v_inv H (o := 6) rfl rfl rfl rfl rfl rfl (by rfl) (C161_Br (D := puc 1837062 D_51) (N := puc 1837062 N_51) (HW_subc H oz_D8cls_49 oz_D8cls_66) (((((show F50 6 0 = F48 6 0 from (eF50 6 0).trans (hS50 0 0 rfl))).trans ((show F48 6 0 = F_51 6 0 from (eF48 6 0).trans (hS48 1 0 rfl))))).trans (pm51_7)) (n4) ((congrArg (fun q : Nat => (q : Int)) (mN_51 4 rfl)).trans (en4)) (m51_7) (em51_7) (y50_0_1) (((eF50 6 1).trans ey50_0_1)) (w51_7) (((show A50 7 = A48 7 from (eA50 7))).trans (((show A48 7 = A_51 7 from (eA48 7).trans (funext (hA48 2 rfl)))).trans (ew51_7))) (show inr (x51_5) from j51_0) (show inr (z47) from q_3083 hl6) (show 0 ≤ (y50_0_1) ∧ (y50_0_1) ≤ (m51_7) ∧ (m51_7) ≤ 65536 from q_3082 j51_3 pz50_0 r33) (show (z47) < 0 ∨ 0 ≤ (x51_5) ∧ (x51_5) + (z47) ≤ (n4) from q_3081 h1 hl6 j51_2) (fun σ52 D52ₚ N52ₚ F52ₚ A52ₚ c52 s52 Hₚ Oₚ hD52 hN52 hS52 hA52 pm52_2 m52_2 em52_2 y52_0_1 ey52_0_1 w52_2 ew52_2 pz52_0 pz52_1 pz52_2 => ⟨rfl, ?_⟩))
          refine v_backMc (c := c_51) (s := s_51) H oz_D8cls_49 oz_D8cls_66 Hₚ Oₚ hD52 oz_D8cls_50 (fun D52 N52 F52 A52 H Oₚ eD52 eN52 eF52 eA52 => ?_)
          have O := OUT_trans O Oₚ
          -- Row.addPart
          have cF52 : SF oz_D8clsl_16 F F52 := SF_trans (cF50) (SF_gluc (ι := oz_D8clsl_22) oz_D8cls_66 hS52 eF52 (by decide +kernel)) (any_sub (lₚ := [(6, 0), (6, 1), (6, 2)]) (by decide +kernel))
          have mF52 := SFm_of cF52 oz_D8cls_60
          have cA52 : SA oz_D8clsl_17 A A52 := SA_trans (cA50) (SA_gluc (ι := oz_D8clsl_22) oz_D8cls_66 hA52 eA52 (by decide +kernel)) (any_subA (lₚ := [7]) (by decide +kernel))
          have mA52 := SAm_of cA52 oz_D8cls_61
          have cD52 : SD oz_D8clsl_17 D D52 := SD_trans (cD_51) (SD_gluc (ι := oz_D8clsl_22) oz_D8cls_66 hD52 eD52 (by decide +kernel)) (any_subA (lₚ := [7]) (by decide +kernel))
          have mD52 := SDm_of cD52 oz_D8cls_61
          have cN52 : SD oz_D8clsl_17 N N52 := SD_trans (cN_51) (SD_gluc (ι := oz_D8clsl_22) oz_D8cls_66 hN52 eN52 (by decide +kernel)) (any_subA (lₚ := [7]) (by decide +kernel))
          have mN52 := SDm_of cN52 oz_D8cls_61
          have pf52_1_0 : F52 1 0 = (D52 3 : Int) := ((show F52 1 0 = F50 1 0 from (eF52 1 0))).trans ((((((show F50 1 0 = F48 1 0 from (eF50 1 0))).trans ((show F48 1 0 = F_51 1 0 from (eF48 1 0))))).trans (pm51_3)).trans (congrArg (fun q : Nat => (q : Int)) ((show D52 3 = D_51 3 from (eD52 3))).symm))
          have pf52_5_1 : F52 5 1 = (D52 13 : Int) := ((show F52 5 1 = F50 5 1 from (eF52 5 1))).trans ((((((show F50 5 1 = F48 5 1 from (eF50 5 1))).trans ((show F48 5 1 = F_51 5 1 from (eF48 5 1).trans (hS48 0 1 rfl))))).trans (pm51_13)).trans (congrArg (fun q : Nat => (q : Int)) ((show D52 13 = D_51 13 from (eD52 13))).symm))
          have pf52_5_2 : F52 5 2 = (D52 14 : Int) := ((show F52 5 2 = F50 5 2 from (eF52 5 2))).trans ((((((show F50 5 2 = F48 5 2 from (eF50 5 2))).trans ((show F48 5 2 = F_51 5 2 from (eF48 5 2).trans (hS48 0 2 rfl))))).trans (pm51_14)).trans (congrArg (fun q : Nat => (q : Int)) ((show D52 14 = D_51 14 from (eD52 14))).symm))
          have pf52_5_3 : F52 5 3 = (D52 15 : Int) := ((show F52 5 3 = F50 5 3 from (eF52 5 3))).trans ((((((show F50 5 3 = F48 5 3 from (eF50 5 3))).trans ((show F48 5 3 = F_51 5 3 from (eF48 5 3).trans (hS48 0 3 rfl))))).trans (pm51_15)).trans (congrArg (fun q : Nat => (q : Int)) ((show D52 15 = D_51 15 from (eD52 15))).symm))
          have pf52_5_7 : F52 5 7 = (D52 11 : Int) := ((show F52 5 7 = F50 5 7 from (eF52 5 7))).trans ((((((show F50 5 7 = F48 5 7 from (eF50 5 7))).trans ((show F48 5 7 = F_51 5 7 from (eF48 5 7).trans (hS48 0 7 rfl))))).trans (pf_51_5_7)).trans (congrArg (fun q : Nat => (q : Int)) ((show D52 11 = D_51 11 from (eD52 11))).symm))
          have pf52_5_8 : F52 5 8 = (D52 12 : Int) := ((show F52 5 8 = F50 5 8 from (eF52 5 8))).trans ((((((show F50 5 8 = F48 5 8 from (eF50 5 8))).trans ((show F48 5 8 = F_51 5 8 from (eF48 5 8).trans (hS48 0 8 rfl))))).trans (pm51_12)).trans (congrArg (fun q : Nat => (q : Int)) ((show D52 12 = D_51 12 from (eD52 12))).symm))
          have pf52_6_0 : F52 6 0 = (D52 7 : Int) := (eF52 6 0).trans (pm52_2.trans (congrArg (fun q : Nat => (q : Int)) (eD52 7).symm))
          have pf52_8_0 : F52 8 0 = (D52 9 : Int) := ((show F52 8 0 = F50 8 0 from (eF52 8 0))).trans ((((((show F50 8 0 = F48 8 0 from (eF50 8 0))).trans ((show F48 8 0 = F_51 8 0 from (eF48 8 0))))).trans (pm51_9)).trans (congrArg (fun q : Nat => (q : Int)) ((show D52 9 = D_51 9 from (eD52 9))).symm))
          have r53 : (0 : Int) ≤ m52_2 ∧ m52_2 ≤ 1000000 := nleE (H.nle 7 (ltn len_V201_Row_Row_oz_D8cls rfl)) (show (N52 7 : Int) = m52_2 from (congrArg (fun q : Nat => (q : Int)) (eN52 7)).trans em52_2)
          have r54 : (-2147483648 : Int) ≤ y52_0_1 ∧ y52_0_1 ≤ 2147483647 := rngE (show (-2147483648 : Int) ≤ F52 6 1 ∧ F52 6 1 ≤ 2147483647 from H.krg 6 1 (ltn len_V201_Row_Row_oz_D8cls rfl)) (show F52 6 1 = y52_0_1 from ((eF52 6 1).trans ey52_0_1))
          have hdc : (y52_0_1) = (z47) := q_3084 hl6 pz50_0 pz52_0 pz52_1
          refine Ew_of (pcₚ := 111) (fun _ => x_aload_n rfl (rk_o (l51_0) rfl rfl)) ?_
          refine Ew_stk (congrArg (fun qz : Nat => ([.ref qz] : List Value)) (show D52 0 = D_51 0 from ((show D52 0 = D_51 0 from (eD52 0)))).symm) ?_
          refine v_g H (o := 0) (v := .ref (D52 8)) rfl rfl rfl rfl rfl (vrf ((mF52 0 2 rfl).trans ((pf8).trans (congrArg (fun q : Nat => (q : Int)) (mD52 8 rfl).symm)))) ?_
          refine v_inv H (o := 8) rfl rfl rfl rfl rfl rfl (by rfl) (C156 (D := puc 8 D52) (N := puc 8 N52) (HW_subc H oz_D8cls_51 oz_D8cls_67) (y51_8_1) ((((((show F52 8 1 = F50 8 1 from (eF52 8 1))).trans ((show F50 8 1 = F48 8 1 from (eF50 8 1)))).trans ((show F48 8 1 = F_51 8 1 from (eF48 8 1)))).trans (ey51_8_1)))  (fun σ55 F55ₚ A55ₚ Hₚ Oₚ hS55 hA55 y55_0_1 ey55_0_1 pz55_0 => ⟨rfl, ?_⟩))
          refine v_backc (c := (c_51 + c52)) (s := (s_51 + s52)) H oz_D8cls_51 oz_D8cls_67 Hₚ Oₚ (fun F55 A55 H Oₚ eF55 eA55 => ?_)
          have O := OUT_trans O Oₚ
          -- Row.clear
          have cF55 : SF oz_D8clsl_16 F F55 := SF_trans (cF52) (SF_gluc (ι := oz_D8clsl_23) oz_D8cls_67 hS55 eF55 (by decide +kernel)) (any_sub (lₚ := [(8, 1), (8, 2), (8, 3), (8, 4)]) (by decide +kernel))
          have mF55 := SFm_of cF55 oz_D8cls_60
          have cA55 : SA oz_D8clsl_17 A A55 := SA_trans (cA52) (SA_gluc (ι := oz_D8clsl_23) oz_D8cls_67 hA55 eA55 (by decide +kernel)) (any_subA (lₚ := []) (by decide +kernel))
          have mA55 := SAm_of cA55 oz_D8cls_61
          have r56 : (-2147483648 : Int) ≤ y55_0_1 ∧ y55_0_1 ≤ 2147483647 := rngE (show (-2147483648 : Int) ≤ F55 8 1 ∧ F55 8 1 ≤ 2147483647 from H.krg 8 1 (ltn len_V201_Row_Row_oz_D8cls rfl)) (show F55 8 1 = y55_0_1 from ((eF55 8 1).trans ey55_0_1))
          have hb1 : BKI ((w52_2)) ((w51_12)) ((y25_0_10)) ((y48_0_6)) := by rw [hun0]; exact BKI_0
          have hh1 : HDI ((w52_2)) ((w48_4)) ((y25_0_10)) ((y48_0_6)) := by rw [hun0]; exact HDI_any hun
          refine Ew_of (pcₚ := 118) (fun _ => x_aload_n rfl (rk_o (l51_0) rfl rfl)) ?_
          refine Ew_of (pcₚ := 119) (fun _ => x_aload_n rfl (rk_o (l51_0) rfl rfl)) ?_
          refine Ew_stk (show ([.ref (D_51 0), .ref (D_51 0)] : List Value) = [.ref (D52 0), .ref (D52 0)] by rw [show D52 0 = D_51 0 from ((show D52 0 = D_51 0 from (eD52 0)))]) ?_
          refine v_g H (o := 0) (v := .ref (D52 8)) rfl rfl rfl rfl rfl (vrf ((mF55 0 2 rfl).trans ((pf8).trans (congrArg (fun q : Nat => (q : Int)) (mD52 8 rfl).symm)))) ?_
          refine v_inv H (o := 0) rfl rfl rfl rfl rfl rfl (by rfl) (C194_thispackeda (D := puc 18603012004667702936877666304 D52) (N := puc 18603012004667702936877666304 N52) (HW_subc H oz_D8cls_52 oz_D8cls_68) ((mF55 0 2 rfl).trans ((pf8).trans (congrArg (fun q : Nat => (q : Int)) (mD52 8 rfl).symm))) ((((show F55 8 0 = F52 8 0 from (eF55 8 0).trans (hS55 0 0 rfl)))).trans (pf52_8_0)) ((mF55 0 1 rfl).trans ((pf5).trans (congrArg (fun q : Nat => (q : Int)) (mD52 5 rfl).symm))) ((mF55 5 0 rfl).trans ((pf6).trans (congrArg (fun q : Nat => (q : Int)) (mD52 6 rfl).symm))) ((((show F55 6 0 = F52 6 0 from (eF55 6 0)))).trans (pf52_6_0)) ((((show F55 5 8 = F52 5 8 from (eF55 5 8)))).trans (pf52_5_8)) ((((show F55 5 7 = F52 5 7 from (eF55 5 7)))).trans (pf52_5_7)) ((((show F55 5 1 = F52 5 1 from (eF55 5 1)))).trans (pf52_5_1)) ((((show F55 5 2 = F52 5 2 from (eF55 5 2)))).trans (pf52_5_2)) ((((show F55 5 3 = F52 5 3 from (eF55 5 3)))).trans (pf52_5_3)) (m51_9) ((congrArg (fun q : Nat => (q : Int)) (show N52 9 = N_51 9 from (eN52 9))).trans (em51_9)) (m52_2) ((congrArg (fun q : Nat => (q : Int)) (eN52 7)).trans em52_2) (m51_12) ((congrArg (fun q : Nat => (q : Int)) (show N52 12 = N_51 12 from (eN52 12))).trans (em51_12)) (m25_1) ((congrArg (fun q : Nat => (q : Int)) (show N52 11 = N_51 11 from (eN52 11))).trans ((congrArg (fun q : Nat => (q : Int)) (hN_51 11 rfl)).trans ((congrArg (fun q : Nat => (q : Int)) (eN25 11)).trans em25_1))) (m51_13) ((congrArg (fun q : Nat => (q : Int)) (show N52 13 = N_51 13 from (eN52 13))).trans (em51_13)) (m51_14) ((congrArg (fun q : Nat => (q : Int)) (show N52 14 = N_51 14 from (eN52 14))).trans (em51_14)) (m51_15) ((congrArg (fun q : Nat => (q : Int)) (show N52 15 = N_51 15 from (eN52 15))).trans (em51_15)) (y55_0_1) (((eF55 8 1).trans ey55_0_1)) (y48_0_6) ((((((show F55 5 6 = F52 5 6 from (eF55 5 6))).trans ((show F52 5 6 = F50 5 6 from (eF52 5 6)))).trans ((show F50 5 6 = F48 5 6 from (eF50 5 6)))).trans ((eF48 5 6).trans ey48_0_6))) (y25_0_10) ((((((((show F55 5 10 = F52 5 10 from (eF55 5 10))).trans ((show F52 5 10 = F50 5 10 from (eF52 5 10)))).trans ((show F50 5 10 = F48 5 10 from (eF50 5 10)))).trans ((show F48 5 10 = F_51 5 10 from (eF48 5 10).trans (hS48 0 10 rfl)))).trans (hS_51 5 10 rfl)).trans ((eF25 5 10).trans ey25_0_10))) (y52_0_1) ((((show F55 6 1 = F52 6 1 from (eF55 6 1))).trans ((eF52 6 1).trans ey52_0_1))) (w52_2) (((show A55 7 = A52 7 from (eA55 7))).trans ((eA52 7).trans ew52_2)) (w51_12) (((show A55 12 = A52 12 from (eA55 12))).trans (((show A52 12 = A50 12 from (eA52 12))).trans (((show A50 12 = A48 12 from (eA50 12))).trans (((show A48 12 = A_51 12 from (eA48 12).trans (funext (hA48 3 rfl)))).trans (ew51_12))))) (w48_4) (((show A55 11 = A52 11 from (eA55 11))).trans (((show A52 11 = A50 11 from (eA52 11))).trans (((show A50 11 = A48 11 from (eA50 11))).trans ((eA48 11).trans ew48_4)))) (show 0 ≤ (y55_0_1) ∧ (y55_0_1) ≤ (m51_9) ∧ (m51_9) ≤ 65536 from q_2549 j51_4 pz55_0 r34) (show 0 ≤ (y52_0_1) ∧ (y52_0_1) ≤ (m52_2) ∧ (m52_2) ≤ 65536 ∧ (y52_0_1) ≤ 16384 from q_3086 hdc hl6 pz52_0) (show (y25_0_10) = 4 from q_2785 pz25_2) (show BKI ((w52_2)) ((w51_12)) ((y25_0_10)) ((y48_0_6)) from hb1) (show HDI ((w52_2)) ((w48_4)) ((y25_0_10)) ((y48_0_6)) from hh1) (show (m51_13) = (m51_14) ∧ (m51_15) = (m51_14) ∧ (m51_14) ≤ 65536 ∧ ((m51_14) = 0 ∨ 64 ≤ (m51_14)) ∧ lgq ((m51_14)) = 0 from j51_10) (show (m25_1) = 2048 from j51_5) (show 0 ≤ (y48_0_6) ∧ (y48_0_6) ≤ (m51_12) ∧ (m51_12) ≤ 16384 from q_3085 j51_6 pz48_0 r35) (fun σ57 D57ₚ N57ₚ F57ₚ A57ₚ c57 s57 Hₚ Oₚ hD57 hN57 hS57 hA57 pm57_2 pm57_6 pm57_8 pm57_9 pm57_10 m57_2 em57_2 m57_6 em57_6 m57_8 em57_8 m57_9 em57_9 m57_10 em57_10 y57_1_1 ey57_1_1 y57_3_6 ey57_3_6 w57_6 ew57_6 w57_7 ew57_7 pz57_0 pz57_1 pz57_2 pz57_3 pz57_4 pz57_5 => ⟨rfl, ?_⟩))
          refine v_backMc (c := (c_51 + c52)) (s := (s_51 + s52)) H oz_D8cls_52 oz_D8cls_68 Hₚ Oₚ hD57 oz_D8cls_53 (fun D57 N57 F57 A57 H Oₚ eD57 eN57 eF57 eA57 => ?_)
          have O := OUT_trans O Oₚ
          -- Tags.packBlock
          have cF57 : SF oz_D8clsl_16 F F57 := SF_trans (cF55) (SF_gluc (ι := oz_D8clsl_24) oz_D8cls_68 hS57 eF57 (by decide +kernel)) (any_sub (lₚ := [(5, 1), (5, 2), (5, 3), (5, 4), (5, 5), (5, 6), (5, 8), (5, 12), (5, 13), (5, 14), (5, 15), (5, 16), (5, 17), (5, 18), (8, 0), (8, 1), (8, 2)]) (by decide +kernel))
          have mF57 := SFm_of cF57 oz_D8cls_60
          have cA57 : SA oz_D8clsl_17 A A57 := SA_trans (cA55) (SA_gluc (ι := oz_D8clsl_24) oz_D8cls_68 hA57 eA57 (by decide +kernel)) (any_subA (lₚ := [9, 11, 12, 13, 14, 15]) (by decide +kernel))
          have mA57 := SAm_of cA57 oz_D8cls_61
          have cD57 : SD oz_D8clsl_17 D D57 := SD_trans (cD52) (SD_gluc (ι := oz_D8clsl_24) oz_D8cls_68 hD57 eD57 (by decide +kernel)) (any_subA (lₚ := [9, 12, 13, 14, 15]) (by decide +kernel))
          have mD57 := SDm_of cD57 oz_D8cls_61
          have cN57 : SD oz_D8clsl_17 N N57 := SD_trans (cN52) (SD_gluc (ι := oz_D8clsl_24) oz_D8cls_68 hN57 eN57 (by decide +kernel)) (any_subA (lₚ := [9, 12, 13, 14, 15]) (by decide +kernel))
          have mN57 := SDm_of cN57 oz_D8cls_61
          have pf57_1_0 : F57 1 0 = (D57 3 : Int) := ((show F57 1 0 = F55 1 0 from (eF57 1 0))).trans (((((show F55 1 0 = F52 1 0 from (eF55 1 0)))).trans (pf52_1_0)).trans (congrArg (fun q : Nat => (q : Int)) ((show D57 3 = D52 3 from (eD57 3))).symm))
          have pf57_5_1 : F57 5 1 = (D57 13 : Int) := (eF57 5 1).trans (pm57_8.trans (congrArg (fun q : Nat => (q : Int)) (eD57 13).symm))
          have pf57_5_2 : F57 5 2 = (D57 14 : Int) := (eF57 5 2).trans (pm57_9.trans (congrArg (fun q : Nat => (q : Int)) (eD57 14).symm))
          have pf57_5_3 : F57 5 3 = (D57 15 : Int) := (eF57 5 3).trans (pm57_10.trans (congrArg (fun q : Nat => (q : Int)) (eD57 15).symm))
          have pf57_5_7 : F57 5 7 = (D57 11 : Int) := ((show F57 5 7 = F55 5 7 from (eF57 5 7).trans (hS57 3 7 rfl))).trans (((((show F55 5 7 = F52 5 7 from (eF55 5 7)))).trans (pf52_5_7)).trans (congrArg (fun q : Nat => (q : Int)) ((show D57 11 = D52 11 from (eD57 11).trans (hD57 7 rfl))).symm))
          have pf57_5_8 : F57 5 8 = (D57 12 : Int) := (eF57 5 8).trans (pm57_6.trans (congrArg (fun q : Nat => (q : Int)) (eD57 12).symm))
          have pf57_6_0 : F57 6 0 = (D57 7 : Int) := ((show F57 6 0 = F55 6 0 from (eF57 6 0).trans (hS57 4 0 rfl))).trans (((((show F55 6 0 = F52 6 0 from (eF55 6 0)))).trans (pf52_6_0)).trans (congrArg (fun q : Nat => (q : Int)) ((show D57 7 = D52 7 from (eD57 7).trans (hD57 5 rfl))).symm))
          have pf57_8_0 : F57 8 0 = (D57 9 : Int) := (eF57 8 0).trans (pm57_2.trans (congrArg (fun q : Nat => (q : Int)) (eD57 9).symm))
          have r58 : (0 : Int) ≤ m57_2 ∧ m57_2 ≤ 1000000 := nleE (H.nle 9 (ltn len_V201_Row_Row_oz_D8cls rfl)) (show (N57 9 : Int) = m57_2 from (congrArg (fun q : Nat => (q : Int)) (eN57 9)).trans em57_2)
          have r59 : (0 : Int) ≤ m57_6 ∧ m57_6 ≤ 1000000 := nleE (H.nle 12 (ltn len_V201_Row_Row_oz_D8cls rfl)) (show (N57 12 : Int) = m57_6 from (congrArg (fun q : Nat => (q : Int)) (eN57 12)).trans em57_6)
          have r60 : (0 : Int) ≤ m57_8 ∧ m57_8 ≤ 1000000 := nleE (H.nle 13 (ltn len_V201_Row_Row_oz_D8cls rfl)) (show (N57 13 : Int) = m57_8 from (congrArg (fun q : Nat => (q : Int)) (eN57 13)).trans em57_8)
          have r61 : (0 : Int) ≤ m57_9 ∧ m57_9 ≤ 1000000 := nleE (H.nle 14 (ltn len_V201_Row_Row_oz_D8cls rfl)) (show (N57 14 : Int) = m57_9 from (congrArg (fun q : Nat => (q : Int)) (eN57 14)).trans em57_9)
          have r62 : (0 : Int) ≤ m57_10 ∧ m57_10 ≤ 1000000 := nleE (H.nle 15 (ltn len_V201_Row_Row_oz_D8cls rfl)) (show (N57 15 : Int) = m57_10 from (congrArg (fun q : Nat => (q : Int)) (eN57 15)).trans em57_10)
          have r63 : (-2147483648 : Int) ≤ y57_1_1 ∧ y57_1_1 ≤ 2147483647 := rngE (show (-2147483648 : Int) ≤ F57 8 1 ∧ F57 8 1 ≤ 2147483647 from H.krg 8 1 (ltn len_V201_Row_Row_oz_D8cls rfl)) (show F57 8 1 = y57_1_1 from ((eF57 8 1).trans ey57_1_1))
          have r64 : (-2147483648 : Int) ≤ y57_3_6 ∧ y57_3_6 ≤ 2147483647 := rngE (show (-2147483648 : Int) ≤ F57 5 6 ∧ F57 5 6 ≤ 2147483647 from H.krg 5 6 (ltn len_V201_Row_Row_oz_D8cls rfl)) (show F57 5 6 = y57_3_6 from ((eF57 5 6).trans ey57_3_6))
          have hlq : (y57_3_6) = 0 ∨ (y57_3_6) + 4 ≤ (y52_0_1) + 1 := by omega
          have hln : (m57_8) = (m57_9) ∧ (m57_10) = (m57_9) ∧ (m57_9) ≤ 65536 ∧ ((m57_9) = 0 ∨ 64 ≤ (m57_9)) ∧ lgq ((m57_9)) = 0 := pz57_2
          refine Ew_of (pcₚ := 126) (fun _ => x_aload_n rfl (rk_o (l51_0) rfl rfl)) ?_
          refine Ew_stk (congrArg (fun qz : Nat => ([.ref qz] : List Value)) (show D57 0 = D_51 0 from (((show D57 0 = D52 0 from (eD57 0).trans (hD57 0 rfl))).trans ((show D52 0 = D_51 0 from (eD52 0))))).symm) ?_
          refine v_g H (o := 0) (v := .ref (D57 8)) rfl rfl rfl rfl rfl (vrf ((mF57 0 2 rfl).trans ((pf8).trans (congrArg (fun q : Nat => (q : Int)) (mD57 8 rfl).symm)))) ?_
          refine v_g H (o := 8) (v := I (y57_1_1)) rfl rfl rfl rfl rfl (congrArg (fun z : Int => I z) (((eF57 8 1).trans ey57_1_1) : F57 8 1 = y57_1_1)) ?_
          refine Ew_of (pcₚ := 134) (fun _ => x_iload rfl rk_s) ?_
          have hc142 : ∀ (tc142_0 : Int), ∀ (ls : rO) (σ : rS) (F_c142 : hF) (A_c142 : hA) , rlook ls 0 = some (.ref (D57 0)) → rlook ls 1 = some (.ref (D57 1)) → rlook ls 2 = some (.ref (D57 2)) → rlook ls 3 = some (.ref (D57 6)) → rlook ls 4 = some (I (v31)) → rlook ls 5 = some (I (x51_5)) → HW V201_Row_Row σ D57 N57 F_c142 A_c142 → OUT (V201_Row_Row).length D N σE c s D57 N57 σ ((c_51 + c52) + c57) ((s_51 + s52) + s57) → SF [] F57 F_c142 → SA [] A57 A_c142 → (inr (tc142_0)) → (((y57_1_1) < (z47) ∧ (tc142_0) = (0)) ∨ ((y57_1_1) ≥ (z47) ∧ (tc142_0) = (1))) → Ew 201 (d + 5) 142 ls [I (tc142_0)] σ ((c_51 + c52) + c57) ((s_51 + s52) + s57) Q := by
           as_aux_lemma =>
            intro tc142_0 ls σ F_c142 A_c142  lc142_0 lc142_1 lc142_2 lc142_3 lc142_4 lc142_5 H O hS_c142 hA_c142     jc142_0 jc142_1
            have cF_c142 : SF oz_D8clsl_16 F F_c142 := SF_trans (cF57) hS_c142 (any_sub (by decide +kernel))
            have mF_c142 := SFm_of cF_c142 oz_D8cls_60
            have cA_c142 : SA oz_D8clsl_17 A A_c142 := SA_trans (cA57) hA_c142 (any_subA (by decide +kernel))
            have mA_c142 := SAm_of cA_c142 oz_D8cls_61
            try clear gz47
            try clear pz52_1
            try clear pz57_2
            try clear pz57_5
            refine Ew_of (pcₚ := 144) (fun _ => x_istore rfl) ?_
            refine Ew_of (pcₚ := 145) (fun _ => x_aload_n rfl (rk_o (lc142_0) rfl rfl)) ?_
            refine Ew_of (pcₚ := 146) (fun _ => x_aload_n rfl (rk_o (lc142_1) rfl rfl)) ?_
            refine Ew_of (pcₚ := 148) (fun _ => x_iload rfl rk_s) ?_
            refine w_ifeq (t := 155) rfl rfl (show inr (tc142_0) from jc142_0) (fun b65 => ?_) (fun b65 => ?_)
            · refine Ew_of (pcₚ := 156) (fun _ => x_aload_n rfl (rk_o (lc142_0) rfl rfl)) ?_
              refine v_g H (o := 0) (v := .ref (D57 8)) rfl rfl rfl rfl rfl (vrf ((mF_c142 0 2 rfl).trans ((pf8).trans (congrArg (fun q : Nat => (q : Int)) (mD57 8 rfl).symm)))) ?_
              refine Ew_of (pcₚ := 161) (fun _ => x_iload rfl rk_s) ?_
              have hc169 : ∀ (tc169_0 : Int), ∀ (ls : rO) (σ : rS) (F_c169 : hF) (A_c169 : hA) , rlook ls 0 = some (.ref (D57 0)) → rlook ls 1 = some (.ref (D57 1)) → rlook ls 2 = some (.ref (D57 2)) → rlook ls 3 = some (.ref (D57 6)) → rlook ls 4 = some (I (v31)) → rlook ls 5 = some (I (x51_5)) → HW V201_Row_Row σ D57 N57 F_c169 A_c169 → OUT (V201_Row_Row).length D N σE c s D57 N57 σ ((c_51 + c52) + c57) ((s_51 + s52) + s57) → SF [] F_c142 F_c169 → SA [] A_c142 A_c169 → (inr (tc169_0)) → (((tc142_0) = (0) ∧ (tc169_0) = (0)) ∨ ((tc142_0) ≠ (0) ∧ (tc169_0) = (1))) → Ew 201 (d + 5) 169 ls [I (tc169_0), .ref (D57 8), .ref (D57 1), .ref (D57 0)] σ ((c_51 + c52) + c57) ((s_51 + s52) + s57) Q := by
               as_aux_lemma =>
                intro tc169_0 ls σ F_c169 A_c169  lc169_0 lc169_1 lc169_2 lc169_3 lc169_4 lc169_5 H O hS_c169 hA_c169     jc169_0 jc169_1
                have cF_c169 : SF oz_D8clsl_16 F F_c169 := SF_trans (cF_c142) hS_c169 (any_sub (by decide +kernel))
                have mF_c169 := SFm_of cF_c169 oz_D8cls_60
                have cA_c169 : SA oz_D8clsl_17 A A_c169 := SA_trans (cA_c142) hA_c169 (any_subA (by decide +kernel))
                have mA_c169 := SAm_of cA_c169 oz_D8cls_61
                refine v_inv H (o := 0) rfl rfl rfl rfl rfl rfl (by rfl) (C202_Row_thispackeda (D := puc 64671867190450586112 D57) (N := puc 64671867190450586112 N57) (HW_subc H oz_D8cls_54 oz_D8cls_69) (STC_out HT HE O) ((((hS_c169 1 0 rfl).trans (hS_c142 1 0 rfl))).trans (pf57_1_0)) ((mF_c169 0 2 rfl).trans ((pf8).trans (congrArg (fun q : Nat => (q : Int)) (mD57 8 rfl).symm))) ((((hS_c169 8 0 rfl).trans (hS_c142 8 0 rfl))).trans (pf57_8_0)) ((mF_c169 0 1 rfl).trans ((pf5).trans (congrArg (fun q : Nat => (q : Int)) (mD57 5 rfl).symm))) ((mF_c169 5 0 rfl).trans ((pf6).trans (congrArg (fun q : Nat => (q : Int)) (mD57 6 rfl).symm))) ((((hS_c169 6 0 rfl).trans (hS_c142 6 0 rfl))).trans (pf57_6_0)) (m51_3) ((congrArg (fun q : Nat => (q : Int)) (show N57 3 = N52 3 from (eN57 3))).trans ((congrArg (fun q : Nat => (q : Int)) (show N52 3 = N_51 3 from (eN52 3))).trans (em51_3))) (m57_2) ((congrArg (fun q : Nat => (q : Int)) (eN57 9)).trans em57_2) (m52_2) ((congrArg (fun q : Nat => (q : Int)) (show N57 7 = N52 7 from (eN57 7).trans (hN57 5 rfl))).trans ((congrArg (fun q : Nat => (q : Int)) (eN52 7)).trans em52_2)) (y51_1_1) (((((((((hS_c169 1 1 rfl).trans (hS_c142 1 1 rfl)).trans ((show F57 1 1 = F55 1 1 from (eF57 1 1)))).trans ((show F55 1 1 = F52 1 1 from (eF55 1 1)))).trans ((show F52 1 1 = F50 1 1 from (eF52 1 1)))).trans ((show F50 1 1 = F48 1 1 from (eF50 1 1)))).trans ((show F48 1 1 = F_51 1 1 from (eF48 1 1)))).trans (ey51_1_1))) (y57_1_1) ((((hS_c169 8 1 rfl).trans (hS_c142 8 1 rfl)).trans ((eF57 8 1).trans ey57_1_1))) (y52_0_1) ((((((hS_c169 6 1 rfl).trans (hS_c142 6 1 rfl)).trans ((show F57 6 1 = F55 6 1 from (eF57 6 1).trans (hS57 4 1 rfl)))).trans ((show F55 6 1 = F52 6 1 from (eF55 6 1)))).trans ((eF52 6 1).trans ey52_0_1))) (show inr (tc169_0) from jc169_0) (show 0 ≤ (y51_1_1) ∧ (y51_1_1) ≤ (m51_3) ∧ (m51_3) ≤ 65536 from j51_1) (show 0 ≤ (y57_1_1) ∧ (y57_1_1) ≤ (m57_2) ∧ (m57_2) ≤ 65536 from pz57_0) (show 0 ≤ (y52_0_1) ∧ (y52_0_1) ≤ (m52_2) ∧ (m52_2) ≤ 65536 from pz52_0) (fun σ66 D66ₚ N66ₚ F66ₚ A66ₚ c66 s66 Hₚ Oₚ hD66 hN66 hS66 hA66 pm66_2 m66_2 em66_2 y66_1_1 ey66_1_1 pz66_0 => ⟨rfl, ?_⟩))
                refine v_backMc (c := ((c_51 + c52) + c57)) (s := ((s_51 + s52) + s57)) H oz_D8cls_54 oz_D8cls_69 Hₚ Oₚ hD66 oz_D8cls_55 (fun D66 N66 F66 A66 H Oₚ eD66 eN66 eF66 eA66 => ?_)
                have O := OUT_trans O Oₚ
                -- Tags.addChunk
                have cF66 : SF oz_D8clsl_16 F F66 := SF_trans (cF_c169) (SF_gluc (ι := oz_D8clsl_25) oz_D8cls_69 hS66 eF66 (by decide +kernel)) (any_sub (lₚ := [(1, 0), (1, 1), (1, 2)]) (by decide +kernel))
                have mF66 := SFm_of cF66 oz_D8cls_60
                have cA66 : SA oz_D8clsl_17 A A66 := SA_trans (cA_c169) (SA_gluc (ι := oz_D8clsl_25) oz_D8cls_69 hA66 eA66 (by decide +kernel)) (any_subA (lₚ := [3]) (by decide +kernel))
                have mA66 := SAm_of cA66 oz_D8cls_61
                have cD66 : SD oz_D8clsl_17 D D66 := SD_trans (cD57) (SD_gluc (ι := oz_D8clsl_25) oz_D8cls_69 hD66 eD66 (by decide +kernel)) (any_subA (lₚ := [3]) (by decide +kernel))
                have mD66 := SDm_of cD66 oz_D8cls_61
                have cN66 : SD oz_D8clsl_17 N N66 := SD_trans (cN57) (SD_gluc (ι := oz_D8clsl_25) oz_D8cls_69 hN66 eN66 (by decide +kernel)) (any_subA (lₚ := [3]) (by decide +kernel))
                have mN66 := SDm_of cN66 oz_D8cls_61
                have pf66_1_0 : F66 1 0 = (D66 3 : Int) := (eF66 1 0).trans (pm66_2.trans (congrArg (fun q : Nat => (q : Int)) (eD66 3).symm))
                have pf66_5_1 : F66 5 1 = (D66 13 : Int) := ((show F66 5 1 = F_c169 5 1 from (eF66 5 1).trans (hS66 5 1 rfl))).trans (((((hS_c169 5 1 rfl).trans (hS_c142 5 1 rfl))).trans (pf57_5_1)).trans (congrArg (fun q : Nat => (q : Int)) ((show D66 13 = D57 13 from (eD66 13))).symm))
                have pf66_5_2 : F66 5 2 = (D66 14 : Int) := ((show F66 5 2 = F_c169 5 2 from (eF66 5 2).trans (hS66 5 2 rfl))).trans (((((hS_c169 5 2 rfl).trans (hS_c142 5 2 rfl))).trans (pf57_5_2)).trans (congrArg (fun q : Nat => (q : Int)) ((show D66 14 = D57 14 from (eD66 14))).symm))
                have pf66_5_3 : F66 5 3 = (D66 15 : Int) := ((show F66 5 3 = F_c169 5 3 from (eF66 5 3).trans (hS66 5 3 rfl))).trans (((((hS_c169 5 3 rfl).trans (hS_c142 5 3 rfl))).trans (pf57_5_3)).trans (congrArg (fun q : Nat => (q : Int)) ((show D66 15 = D57 15 from (eD66 15))).symm))
                have pf66_5_7 : F66 5 7 = (D66 11 : Int) := ((show F66 5 7 = F_c169 5 7 from (eF66 5 7).trans (hS66 5 7 rfl))).trans (((((hS_c169 5 7 rfl).trans (hS_c142 5 7 rfl))).trans (pf57_5_7)).trans (congrArg (fun q : Nat => (q : Int)) ((show D66 11 = D57 11 from (eD66 11))).symm))
                have pf66_5_8 : F66 5 8 = (D66 12 : Int) := ((show F66 5 8 = F_c169 5 8 from (eF66 5 8).trans (hS66 5 8 rfl))).trans (((((hS_c169 5 8 rfl).trans (hS_c142 5 8 rfl))).trans (pf57_5_8)).trans (congrArg (fun q : Nat => (q : Int)) ((show D66 12 = D57 12 from (eD66 12))).symm))
                have pf66_6_0 : F66 6 0 = (D66 7 : Int) := ((show F66 6 0 = F_c169 6 0 from (eF66 6 0).trans (hS66 6 0 rfl))).trans (((((hS_c169 6 0 rfl).trans (hS_c142 6 0 rfl))).trans (pf57_6_0)).trans (congrArg (fun q : Nat => (q : Int)) ((show D66 7 = D57 7 from (eD66 7).trans (hD66 7 rfl))).symm))
                have pf66_8_0 : F66 8 0 = (D66 9 : Int) := ((show F66 8 0 = F_c169 8 0 from (eF66 8 0).trans (hS66 3 0 rfl))).trans (((((hS_c169 8 0 rfl).trans (hS_c142 8 0 rfl))).trans (pf57_8_0)).trans (congrArg (fun q : Nat => (q : Int)) ((show D66 9 = D57 9 from (eD66 9).trans (hD66 4 rfl))).symm))
                have r67 : (0 : Int) ≤ m66_2 ∧ m66_2 ≤ 1000000 := nleE (H.nle 3 (ltn len_V201_Row_Row_oz_D8cls rfl)) (show (N66 3 : Int) = m66_2 from (congrArg (fun q : Nat => (q : Int)) (eN66 3)).trans em66_2)
                have r68 : (-2147483648 : Int) ≤ y66_1_1 ∧ y66_1_1 ≤ 2147483647 := rngE (show (-2147483648 : Int) ≤ F66 1 1 ∧ F66 1 1 ≤ 2147483647 from H.krg 1 1 (ltn len_V201_Row_Row_oz_D8cls rfl)) (show F66 1 1 = y66_1_1 from ((eF66 1 1).trans ey66_1_1))
                have hc214 : ∀ (ls : rO) (σ : rS) (D_c214 N_c214 : Nat → Nat) (c_c214 s_c214 : Nat) (F_c214 : hF) (A_c214 : hA) , rlook ls 0 = some (.ref (D_c214 0)) → rlook ls 1 = some (.ref (D_c214 1)) → rlook ls 2 = some (.ref (D_c214 2)) → rlook ls 3 = some (.ref (D_c214 6)) → rlook ls 4 = some (I (v31)) → rlook ls 5 = some (I (x51_5)) → HW V201_Row_Row σ D_c214 N_c214 F_c214 A_c214 → OUT (V201_Row_Row).length D N σE c s D_c214 N_c214 σ c_c214 s_c214 → SD [3] D66 D_c214 → SD [3] N66 N_c214 → SF [(1, 0), (1, 1), (1, 2)] F66 F_c214 → SA [3] A66 A_c214 → F_c214 1 0 = (D_c214 3 : Int) → ∀ mc214_3 : Int, (N_c214 3 : Int) = mc214_3 → ∀ yc214_1_1 : Int, F_c214 1 1 = yc214_1_1 → (0 ≤ (yc214_1_1) ∧ (yc214_1_1) ≤ (mc214_3) ∧ (mc214_3) ≤ 65536) → Ew 201 (d + 5) 214 ls [] σ c_c214 s_c214 Q := by
                 as_aux_lemma =>
                  intro  ls σ D_c214 N_c214 c_c214 s_c214 F_c214 A_c214  lc214_0 lc214_1 lc214_2 lc214_3 lc214_4 lc214_5 H O hD_c214 hN_c214 hS_c214 hA_c214 pmc214_3 mc214_3 emc214_3 yc214_1_1 eyc214_1_1  jc214_0
                  have cF_c214 : SF oz_D8clsl_16 F F_c214 := SF_trans (cF66) hS_c214 (any_sub (by decide +kernel))
                  have mF_c214 := SFm_of cF_c214 oz_D8cls_60
                  have cA_c214 : SA oz_D8clsl_17 A A_c214 := SA_trans (cA66) hA_c214 (any_subA (by decide +kernel))
                  have mA_c214 := SAm_of cA_c214 oz_D8cls_61
                  have cD_c214 : SD oz_D8clsl_17 D D_c214 := SD_trans (cD66) hD_c214 (any_subA (by decide +kernel))
                  have mD_c214 := SDm_of cD_c214 oz_D8cls_61
                  have cN_c214 : SD oz_D8clsl_17 N N_c214 := SD_trans (cN66) hN_c214 (any_subA (by decide +kernel))
                  have mN_c214 := SDm_of cN_c214 oz_D8cls_61
                  have pf_c214_5_1 : F_c214 5 1 = (D_c214 13 : Int) := (hS_c214 5 1 rfl).trans ((pf66_5_1).trans (congrArg (fun q : Nat => (q : Int)) (hD_c214 13 rfl).symm))
                  have pf_c214_5_2 : F_c214 5 2 = (D_c214 14 : Int) := (hS_c214 5 2 rfl).trans ((pf66_5_2).trans (congrArg (fun q : Nat => (q : Int)) (hD_c214 14 rfl).symm))
                  have pf_c214_5_3 : F_c214 5 3 = (D_c214 15 : Int) := (hS_c214 5 3 rfl).trans ((pf66_5_3).trans (congrArg (fun q : Nat => (q : Int)) (hD_c214 15 rfl).symm))
                  have pf_c214_5_7 : F_c214 5 7 = (D_c214 11 : Int) := (hS_c214 5 7 rfl).trans ((pf66_5_7).trans (congrArg (fun q : Nat => (q : Int)) (hD_c214 11 rfl).symm))
                  have pf_c214_5_8 : F_c214 5 8 = (D_c214 12 : Int) := (hS_c214 5 8 rfl).trans ((pf66_5_8).trans (congrArg (fun q : Nat => (q : Int)) (hD_c214 12 rfl).symm))
                  have pf_c214_6_0 : F_c214 6 0 = (D_c214 7 : Int) := (hS_c214 6 0 rfl).trans ((pf66_6_0).trans (congrArg (fun q : Nat => (q : Int)) (hD_c214 7 rfl).symm))
                  have pf_c214_8_0 : F_c214 8 0 = (D_c214 9 : Int) := (hS_c214 8 0 rfl).trans ((pf66_8_0).trans (congrArg (fun q : Nat => (q : Int)) (hD_c214 9 rfl).symm))
                  have r69 : (0 : Int) ≤ mc214_3 ∧ mc214_3 ≤ 1000000 := nleE (H.nle 3 (ltn len_V201_Row_Row_oz_D8cls rfl)) (show (N_c214 3 : Int) = mc214_3 from emc214_3)
                  have r70 : (-2147483648 : Int) ≤ yc214_1_1 ∧ yc214_1_1 ≤ 2147483647 := rngE (show (-2147483648 : Int) ≤ F_c214 1 1 ∧ F_c214 1 1 ≤ 2147483647 from H.krg 1 1 (ltn len_V201_Row_Row_oz_D8cls rfl)) (show F_c214 1 1 = yc214_1_1 from (eyc214_1_1))
                  refine Ew_of (pcₚ := 216) (fun _ => x_iload rfl lc214_5) ?_
                  refine Ew_of (pcₚ := 218) (fun _ => x_iload rfl lc214_4) ?_
                  refine w_iadd rfl ?_
                  refine Ew_of (pcₚ := 221) (fun _ => x_istore rfl) ?_
                  refine Ew_of (pcₚ := 51) (fun _ => x_goto rfl rfl) ?_
                  exact ih51 _ (msE hm51 (q_3090 b43) (q_3091 b44)) _ _ _ _ _ _ _ _ ((x51_5 + v31)) (rk_o (lc214_0) rfl rfl) (rk_o (lc214_1) rfl rfl) (rk_o (lc214_2) rfl rfl) (rk_o (lc214_3) rfl rfl) (rk_o (lc214_4) rfl rfl) (rk_s) H O (SD_trans (SD_trans (SD_trans (SD_trans (hD_51) (SD_gluc (ι := oz_D8clsl_22) oz_D8cls_66 hD52 eD52 (by decide +kernel)) (any_subA (lₚ := [7]) (by decide +kernel))) (SD_gluc (ι := oz_D8clsl_24) oz_D8cls_68 hD57 eD57 (by decide +kernel)) (any_subA (lₚ := [9, 12, 13, 14, 15]) (by decide +kernel))) (SD_gluc (ι := oz_D8clsl_25) oz_D8cls_69 hD66 eD66 (by decide +kernel)) (any_subA (lₚ := [3]) (by decide +kernel))) hD_c214 (any_subA (by decide +kernel))) (SD_trans (SD_trans (SD_trans (SD_trans (hN_51) (SD_gluc (ι := oz_D8clsl_22) oz_D8cls_66 hN52 eN52 (by decide +kernel)) (any_subA (lₚ := [7]) (by decide +kernel))) (SD_gluc (ι := oz_D8clsl_24) oz_D8cls_68 hN57 eN57 (by decide +kernel)) (any_subA (lₚ := [9, 12, 13, 14, 15]) (by decide +kernel))) (SD_gluc (ι := oz_D8clsl_25) oz_D8cls_69 hN66 eN66 (by decide +kernel)) (any_subA (lₚ := [3]) (by decide +kernel))) hN_c214 (any_subA (by decide +kernel))) (SF_trans (SF_trans (SF_trans (SF_trans (SF_trans (SF_trans (SF_trans (SF_trans (SF_trans (hS_51) (SF_gluc (ι := oz_D8clsl_21) oz_D8cls_65 hS48 eF48 (by decide +kernel)) (any_sub (lₚ := [(5, 6)]) (by decide +kernel))) (SF_gluc (ι := oz_D8clsl_19) oz_D8cls_63 hS50 eF50 (by decide +kernel)) (any_sub (lₚ := [(6, 1), (6, 2), (6, 3), (6, 4)]) (by decide +kernel))) (SF_gluc (ι := oz_D8clsl_22) oz_D8cls_66 hS52 eF52 (by decide +kernel)) (any_sub (lₚ := [(6, 0), (6, 1), (6, 2)]) (by decide +kernel))) (SF_gluc (ι := oz_D8clsl_23) oz_D8cls_67 hS55 eF55 (by decide +kernel)) (any_sub (lₚ := [(8, 1), (8, 2), (8, 3), (8, 4)]) (by decide +kernel))) (SF_gluc (ι := oz_D8clsl_24) oz_D8cls_68 hS57 eF57 (by decide +kernel)) (any_sub (lₚ := [(5, 1), (5, 2), (5, 3), (5, 4), (5, 5), (5, 6), (5, 8), (5, 12), (5, 13), (5, 14), (5, 15), (5, 16), (5, 17), (5, 18), (8, 0), (8, 1), (8, 2)]) (by decide +kernel))) hS_c142 (any_sub (by decide +kernel))) hS_c169 (any_sub (by decide +kernel))) (SF_gluc (ι := oz_D8clsl_25) oz_D8cls_69 hS66 eF66 (by decide +kernel)) (any_sub (lₚ := [(1, 0), (1, 1), (1, 2)]) (by decide +kernel))) hS_c214 (any_sub (by decide +kernel))) (SA_trans (SA_trans (SA_trans (SA_trans (SA_trans (SA_trans (SA_trans (SA_trans (SA_trans (hA_51) (SA_gluc (ι := oz_D8clsl_21) oz_D8cls_65 hA48 eA48 (by decide +kernel)) (any_subA (lₚ := [11]) (by decide +kernel))) (SA_gluc (ι := oz_D8clsl_19) oz_D8cls_63 hA50 eA50 (by decide +kernel)) (any_subA (lₚ := []) (by decide +kernel))) (SA_gluc (ι := oz_D8clsl_22) oz_D8cls_66 hA52 eA52 (by decide +kernel)) (any_subA (lₚ := [7]) (by decide +kernel))) (SA_gluc (ι := oz_D8clsl_23) oz_D8cls_67 hA55 eA55 (by decide +kernel)) (any_subA (lₚ := []) (by decide +kernel))) (SA_gluc (ι := oz_D8clsl_24) oz_D8cls_68 hA57 eA57 (by decide +kernel)) (any_subA (lₚ := [9, 11, 12, 13, 14, 15]) (by decide +kernel))) hA_c142 (any_subA (by decide +kernel))) hA_c169 (any_subA (by decide +kernel))) (SA_gluc (ι := oz_D8clsl_25) oz_D8cls_69 hA66 eA66 (by decide +kernel)) (any_subA (lₚ := [3]) (by decide +kernel))) hA_c214 (any_subA (by decide +kernel))) (pmc214_3) (pf_c214_6_0) (pf_c214_8_0) (pf_c214_5_8) (pf_c214_5_1) (pf_c214_5_2) (pf_c214_5_3) (mc214_3) (emc214_3) (m52_2) ((congrArg (fun q : Nat => (q : Int)) (hN_c214 7 rfl)).trans ((congrArg (fun q : Nat => (q : Int)) (show N66 7 = N57 7 from (eN66 7).trans (hN66 7 rfl))).trans ((congrArg (fun q : Nat => (q : Int)) (show N57 7 = N52 7 from (eN57 7).trans (hN57 5 rfl))).trans ((congrArg (fun q : Nat => (q : Int)) (eN52 7)).trans em52_2)))) (m57_2) ((congrArg (fun q : Nat => (q : Int)) (hN_c214 9 rfl)).trans ((congrArg (fun q : Nat => (q : Int)) (show N66 9 = N57 9 from (eN66 9).trans (hN66 4 rfl))).trans ((congrArg (fun q : Nat => (q : Int)) (eN57 9)).trans em57_2))) (m57_6) ((congrArg (fun q : Nat => (q : Int)) (hN_c214 12 rfl)).trans ((congrArg (fun q : Nat => (q : Int)) (show N66 12 = N57 12 from (eN66 12))).trans ((congrArg (fun q : Nat => (q : Int)) (eN57 12)).trans em57_6))) (m57_8) ((congrArg (fun q : Nat => (q : Int)) (hN_c214 13 rfl)).trans ((congrArg (fun q : Nat => (q : Int)) (show N66 13 = N57 13 from (eN66 13))).trans ((congrArg (fun q : Nat => (q : Int)) (eN57 13)).trans em57_8))) (m57_9) ((congrArg (fun q : Nat => (q : Int)) (hN_c214 14 rfl)).trans ((congrArg (fun q : Nat => (q : Int)) (show N66 14 = N57 14 from (eN66 14))).trans ((congrArg (fun q : Nat => (q : Int)) (eN57 14)).trans em57_9))) (m57_10) ((congrArg (fun q : Nat => (q : Int)) (hN_c214 15 rfl)).trans ((congrArg (fun q : Nat => (q : Int)) (show N66 15 = N57 15 from (eN66 15))).trans ((congrArg (fun q : Nat => (q : Int)) (eN57 15)).trans em57_10))) (yc214_1_1) ((eyc214_1_1)) (y57_3_6) ((((((hS_c214 5 6 rfl).trans ((show F66 5 6 = F_c169 5 6 from (eF66 5 6).trans (hS66 5 6 rfl)))).trans (hS_c169 5 6 rfl)).trans (hS_c142 5 6 rfl)).trans ((eF57 5 6).trans ey57_3_6))) (y52_0_1) ((((((((hS_c214 6 1 rfl).trans ((show F66 6 1 = F_c169 6 1 from (eF66 6 1).trans (hS66 6 1 rfl)))).trans (hS_c169 6 1 rfl)).trans (hS_c142 6 1 rfl)).trans ((show F57 6 1 = F55 6 1 from (eF57 6 1).trans (hS57 4 1 rfl)))).trans ((show F55 6 1 = F52 6 1 from (eF55 6 1)))).trans ((eF52 6 1).trans ey52_0_1))) (y57_1_1) ((((((hS_c214 8 1 rfl).trans ((show F66 8 1 = F_c169 8 1 from (eF66 8 1).trans (hS66 3 1 rfl)))).trans (hS_c169 8 1 rfl)).trans (hS_c142 8 1 rfl)).trans ((eF57 8 1).trans ey57_1_1))) (w52_2) ((funext (hA_c214 7 rfl)).trans (((show A66 7 = A_c169 7 from (eA66 7).trans (funext (hA66 7 rfl)))).trans ((funext (hA_c169 7 rfl)).trans ((funext (hA_c142 7 rfl)).trans (((show A57 7 = A55 7 from (eA57 7).trans (funext (hA57 5 rfl)))).trans (((show A55 7 = A52 7 from (eA55 7))).trans ((eA52 7).trans ew52_2))))))) (w57_7) ((funext (hA_c214 11 rfl)).trans (((show A66 11 = A_c169 11 from (eA66 11))).trans ((funext (hA_c169 11 rfl)).trans ((funext (hA_c142 11 rfl)).trans ((eA57 11).trans ew57_7))))) (w57_6) ((funext (hA_c214 12 rfl)).trans (((show A66 12 = A_c169 12 from (eA66 12))).trans ((funext (hA_c169 12 rfl)).trans ((funext (hA_c142 12 rfl)).trans ((eA57 12).trans ew57_6))))) (show inr ((x51_5 + v31)) from q_3089 b43 b44 h5 hs3 j51_2) (show 0 ≤ (yc214_1_1) ∧ (yc214_1_1) ≤ (mc214_3) ∧ (mc214_3) ≤ 65536 from jc214_0) (show 0 ≤ ((x51_5 + v31)) ∧ ((x51_5 + v31)) ≤ (u2_1) + 65536 from q_3088 b43 b44 hs3 j51_2) (show 0 ≤ (y52_0_1) ∧ (y52_0_1) ≤ (m52_2) ∧ (m52_2) ≤ 65536 ∧ (y52_0_1) ≤ 16384 from q_3086 hdc hl6 pz52_0) (show 0 ≤ (y57_1_1) ∧ (y57_1_1) ≤ (m57_2) ∧ (m57_2) ≤ 65536 from pz57_0) (show (m25_1) = 2048 from j51_5) (show 0 ≤ (y57_3_6) ∧ (y57_3_6) ≤ (m57_6) ∧ (m57_6) ≤ 16384 from q_3087 pz57_1) (show (y57_3_6) = 0 ∨ (y57_3_6) + 4 ≤ (y52_0_1) + 1 from hlq) (show BKI ((w52_2)) ((w57_6)) ((y25_0_10)) ((y57_3_6)) from pz57_3) (show HDI ((w52_2)) ((w57_7)) ((y25_0_10)) ((y57_3_6)) from pz57_4) (show (m57_8) = (m57_9) ∧ (m57_10) = (m57_9) ∧ (m57_9) ≤ 65536 ∧ ((m57_9) = 0 ∨ 64 ≤ (m57_9)) ∧ lgq ((m57_9)) = 0 from hln) rfl
                refine Ew_of (pcₚ := 173) (fun _ => x_aload_n rfl lc169_0) ?_
                refine Ew_stk (congrArg (fun qz : Nat => ([.ref qz] : List Value)) (show D66 0 = D57 0 from ((show D66 0 = D57 0 from (eD66 0).trans (hD66 0 rfl)))).symm) ?_
                refine v_g H (o := 0) (v := .ref (D66 10)) rfl rfl rfl rfl rfl (vrf ((mF66 0 0 rfl).trans ((pf10).trans (congrArg (fun q : Nat => (q : Int)) (mD66 10 rfl).symm)))) ?_
                refine Ew_of (pcₚ := 178) (fun _ => x_bipush (z := 6) rfl (by decide)) ?_
                refine v_lI H (o := 10) rfl rfl rfl rfl (n := n10) ((congrArg (fun q : Nat => (q : Int)) (mN66 10 rfl)).trans (en10)) (show 0 ≤ 6 ∧ 6 < n10 from q_3092 h4 r9) (fun v71 ev71 qv71 => ?_)
                have ev71 : (w10) (6) = v71 := (congrFun ((funext (mA66 10 rfl)).trans (ew10)) (6)).symm.trans ev71
                refine w_ifle (t := 214) rfl rfl (show inr (v71) from qv71) (fun b72 => ?_) (fun b72 => ?_)
                · exact hc214  _ _ _ _ _ _ _ _  ((lc169_0).trans (congrArg (fun q : Nat => some (Value.ref q)) (((show D66 0 = D57 0 from (eD66 0).trans (hD66 0 rfl)))).symm)) ((lc169_1).trans (congrArg (fun q : Nat => some (Value.ref q)) (((show D66 1 = D57 1 from (eD66 1).trans (hD66 1 rfl)))).symm)) ((lc169_2).trans (congrArg (fun q : Nat => some (Value.ref q)) (((show D66 2 = D57 2 from (eD66 2)))).symm)) ((lc169_3).trans (congrArg (fun q : Nat => some (Value.ref q)) (((show D66 6 = D57 6 from (eD66 6).trans (hD66 6 rfl)))).symm)) (lc169_4) (lc169_5) H O (SD_refl) (SD_refl) (SF_refl) (SA_refl) (pf66_1_0) (m66_2) ((congrArg (fun q : Nat => (q : Int)) (eN66 3)).trans em66_2) (y66_1_1) (((eF66 1 1).trans ey66_1_1))  (show 0 ≤ (y66_1_1) ∧ (y66_1_1) ≤ (m66_2) ∧ (m66_2) ≤ 65536 from pz66_0)
                · refine Ew_of (pcₚ := 183) (fun _ => x_aload_n rfl lc169_1) ?_
                  refine Ew_of (pcₚ := 184) (fun _ => x_aload_n rfl lc169_0) ?_
                  refine Ew_stk (show ([.ref (D57 0), .ref (D57 1)] : List Value) = [.ref (D66 0), .ref (D66 1)] by rw [show D66 0 = D57 0 from ((show D66 0 = D57 0 from (eD66 0).trans (hD66 0 rfl))), show D66 1 = D57 1 from ((show D66 1 = D57 1 from (eD66 1).trans (hD66 1 rfl)))]) ?_
                  refine v_g H (o := 0) (v := .ref (D66 10)) rfl rfl rfl rfl rfl (vrf ((mF66 0 0 rfl).trans ((pf10).trans (congrArg (fun q : Nat => (q : Int)) (mD66 10 rfl).symm)))) ?_
                  refine Ew_of (pcₚ := 189) (fun _ => x_bipush (z := 6) rfl (by decide)) ?_
                  refine v_lI H (o := 10) rfl rfl rfl rfl (n := n10) ((congrArg (fun q : Nat => (q : Int)) (mN66 10 rfl)).trans (en10)) (show 0 ≤ 6 ∧ 6 < n10 from q_3092 h4 r9) (fun v73 ev73 qv73 => ?_)
                  have ev73 : (w10) (6) = v73 := (congrFun ((funext (mA66 10 rfl)).trans (ew10)) (6)).symm.trans ev73
                  refine Ew_of (pcₚ := 192) (fun _ => x_bipush (z := 8) rfl (by decide)) ?_
                  refine w_ishlA rfl (fun z74 gz74 => ?_)
                  refine Ew_of (pcₚ := 196) (fun _ => x_sipush (z := 254) rfl (by decide)) ?_
                  refine w_ior rfl (fun z75 gz75 => ?_)
                  refine w_i2l rfl (show inr (z75) from gz75) ?_
                  refine Ew_of (pcₚ := 199) (fun _ => x_iconst rfl) ?_
                  refine v_inv H (o := 1) rfl rfl rfl rfl rfl rfl (by rfl) (C160 (D := puc 1537 D66) (N := puc 1537 N66) (HW_subc H oz_D8cls_56 oz_D8cls_62) (pf66_1_0) (m66_2) ((congrArg (fun q : Nat => (q : Int)) (eN66 3)).trans em66_2) (y66_1_1) (((eF66 1 1).trans ey66_1_1)) (show inrJ (z75) from q_428 gz75) (show inr (4) from q_2) (show 0 ≤ (y66_1_1) ∧ (y66_1_1) ≤ (m66_2) ∧ (m66_2) ≤ 65536 from pz66_0) (fun σ76 D76ₚ N76ₚ F76ₚ A76ₚ c76 s76 Hₚ Oₚ hD76 hN76 hS76 hA76 pm76_1 m76_1 em76_1 y76_0_1 ey76_0_1 pz76_0 pz76_1 => ⟨rfl, ?_⟩))
                  refine v_backMc (c := (((c_51 + c52) + c57) + c66)) (s := (((s_51 + s52) + s57) + s66)) H oz_D8cls_56 oz_D8cls_62 Hₚ Oₚ hD76 oz_D8cls_44 (fun D76 N76 F76 A76 H Oₚ eD76 eN76 eF76 eA76 => ?_)
                  have O := OUT_trans O Oₚ
                  -- Row.addNumber
                  have cF76 : SF oz_D8clsl_16 F F76 := SF_trans (cF66) (SF_gluc (ι := oz_D8clsl_18) oz_D8cls_62 hS76 eF76 (by decide +kernel)) (any_sub (lₚ := [(1, 0), (1, 1), (1, 2)]) (by decide +kernel))
                  have mF76 := SFm_of cF76 oz_D8cls_60
                  have cA76 : SA oz_D8clsl_17 A A76 := SA_trans (cA66) (SA_gluc (ι := oz_D8clsl_18) oz_D8cls_62 hA76 eA76 (by decide +kernel)) (any_subA (lₚ := [3]) (by decide +kernel))
                  have mA76 := SAm_of cA76 oz_D8cls_61
                  have cD76 : SD oz_D8clsl_17 D D76 := SD_trans (cD66) (SD_gluc (ι := oz_D8clsl_18) oz_D8cls_62 hD76 eD76 (by decide +kernel)) (any_subA (lₚ := [3]) (by decide +kernel))
                  have mD76 := SDm_of cD76 oz_D8cls_61
                  have cN76 : SD oz_D8clsl_17 N N76 := SD_trans (cN66) (SD_gluc (ι := oz_D8clsl_18) oz_D8cls_62 hN76 eN76 (by decide +kernel)) (any_subA (lₚ := [3]) (by decide +kernel))
                  have mN76 := SDm_of cN76 oz_D8cls_61
                  have pf76_1_0 : F76 1 0 = (D76 3 : Int) := (eF76 1 0).trans (pm76_1.trans (congrArg (fun q : Nat => (q : Int)) (eD76 3).symm))
                  have pf76_5_1 : F76 5 1 = (D76 13 : Int) := ((show F76 5 1 = F66 5 1 from (eF76 5 1))).trans ((pf66_5_1).trans (congrArg (fun q : Nat => (q : Int)) ((show D76 13 = D66 13 from (eD76 13))).symm))
                  have pf76_5_2 : F76 5 2 = (D76 14 : Int) := ((show F76 5 2 = F66 5 2 from (eF76 5 2))).trans ((pf66_5_2).trans (congrArg (fun q : Nat => (q : Int)) ((show D76 14 = D66 14 from (eD76 14))).symm))
                  have pf76_5_3 : F76 5 3 = (D76 15 : Int) := ((show F76 5 3 = F66 5 3 from (eF76 5 3))).trans ((pf66_5_3).trans (congrArg (fun q : Nat => (q : Int)) ((show D76 15 = D66 15 from (eD76 15))).symm))
                  have pf76_5_7 : F76 5 7 = (D76 11 : Int) := ((show F76 5 7 = F66 5 7 from (eF76 5 7))).trans ((pf66_5_7).trans (congrArg (fun q : Nat => (q : Int)) ((show D76 11 = D66 11 from (eD76 11))).symm))
                  have pf76_5_8 : F76 5 8 = (D76 12 : Int) := ((show F76 5 8 = F66 5 8 from (eF76 5 8))).trans ((pf66_5_8).trans (congrArg (fun q : Nat => (q : Int)) ((show D76 12 = D66 12 from (eD76 12))).symm))
                  have pf76_6_0 : F76 6 0 = (D76 7 : Int) := ((show F76 6 0 = F66 6 0 from (eF76 6 0))).trans ((pf66_6_0).trans (congrArg (fun q : Nat => (q : Int)) ((show D76 7 = D66 7 from (eD76 7))).symm))
                  have pf76_8_0 : F76 8 0 = (D76 9 : Int) := ((show F76 8 0 = F66 8 0 from (eF76 8 0))).trans ((pf66_8_0).trans (congrArg (fun q : Nat => (q : Int)) ((show D76 9 = D66 9 from (eD76 9))).symm))
                  have r77 : (0 : Int) ≤ m76_1 ∧ m76_1 ≤ 1000000 := nleE (H.nle 3 (ltn len_V201_Row_Row_oz_D8cls rfl)) (show (N76 3 : Int) = m76_1 from (congrArg (fun q : Nat => (q : Int)) (eN76 3)).trans em76_1)
                  have r78 : (-2147483648 : Int) ≤ y76_0_1 ∧ y76_0_1 ≤ 2147483647 := rngE (show (-2147483648 : Int) ≤ F76 1 1 ∧ F76 1 1 ≤ 2147483647 from H.krg 1 1 (ltn len_V201_Row_Row_oz_D8cls rfl)) (show F76 1 1 = y76_0_1 from ((eF76 1 1).trans ey76_0_1))
                  refine Ew_of (pcₚ := 203) (fun _ => x_aload_n rfl lc169_1) ?_
                  refine Ew_of (pcₚ := 204) (fun _ => x_iconst rfl) ?_
                  refine Ew_of (pcₚ := 205) (fun _ => x_aload_n rfl lc169_0) ?_
                  refine Ew_stk (show ([.ref (D57 0), I (0), .ref (D57 1)] : List Value) = [.ref (D76 0), I (0), .ref (D76 1)] by rw [show D76 0 = D57 0 from (((show D76 0 = D66 0 from (eD76 0))).trans ((show D66 0 = D57 0 from (eD66 0).trans (hD66 0 rfl)))), show D76 1 = D57 1 from (((show D76 1 = D66 1 from (eD76 1).trans (hD76 0 rfl))).trans ((show D66 1 = D57 1 from (eD66 1).trans (hD66 1 rfl))))]) ?_
                  refine v_g H (o := 0) (v := .ref (D76 10)) rfl rfl rfl rfl rfl (vrf ((mF76 0 0 rfl).trans ((pf10).trans (congrArg (fun q : Nat => (q : Int)) (mD76 10 rfl).symm)))) ?_
                  refine Ew_of (pcₚ := 210) (fun _ => x_bipush (z := 6) rfl (by decide)) ?_
                  refine v_lI H (o := 10) rfl rfl rfl rfl (n := n10) ((congrArg (fun q : Nat => (q : Int)) (mN76 10 rfl)).trans (en10)) (show 0 ≤ 6 ∧ 6 < n10 from q_3092 h4 r9) (fun v79 ev79 qv79 => ?_)
                  have ev79 : (w10) (6) = v79 := (congrFun ((funext (mA76 10 rfl)).trans (ew10)) (6)).symm.trans ev79
                  refine v_inv H (o := 1) rfl rfl rfl rfl rfl rfl (by rfl) (C162 (D := puc 1537 D76) (N := puc 1537 N76) (HW_subc H oz_D8cls_57 oz_D8cls_62) (pf76_1_0) (m76_1) ((congrArg (fun q : Nat => (q : Int)) (eN76 3)).trans em76_1) (y76_0_1) (((eF76 1 1).trans ey76_0_1)) (show inr (0) from q_20) (show inr (v79) from qv79) (show 0 ≤ (y76_0_1) ∧ (y76_0_1) ≤ (m76_1) ∧ (m76_1) ≤ 65536 from pz76_0) (fun σ80 D80ₚ N80ₚ F80ₚ A80ₚ c80 s80 Hₚ Oₚ hD80 hN80 hS80 hA80 pm80_1 m80_1 em80_1 y80_0_1 ey80_0_1 pz80_0 pz80_1 => ⟨rfl, ?_⟩))
                  refine v_backMc (c := ((((c_51 + c52) + c57) + c66) + c76)) (s := ((((s_51 + s52) + s57) + s66) + s76)) H oz_D8cls_57 oz_D8cls_62 Hₚ Oₚ hD80 oz_D8cls_44 (fun D80 N80 F80 A80 H Oₚ eD80 eN80 eF80 eA80 => ?_)
                  have O := OUT_trans O Oₚ
                  -- Row.addSame
                  have cF80 : SF oz_D8clsl_16 F F80 := SF_trans (cF76) (SF_gluc (ι := oz_D8clsl_18) oz_D8cls_62 hS80 eF80 (by decide +kernel)) (any_sub (lₚ := [(1, 0), (1, 1), (1, 2)]) (by decide +kernel))
                  have mF80 := SFm_of cF80 oz_D8cls_60
                  have cA80 : SA oz_D8clsl_17 A A80 := SA_trans (cA76) (SA_gluc (ι := oz_D8clsl_18) oz_D8cls_62 hA80 eA80 (by decide +kernel)) (any_subA (lₚ := [3]) (by decide +kernel))
                  have mA80 := SAm_of cA80 oz_D8cls_61
                  have cD80 : SD oz_D8clsl_17 D D80 := SD_trans (cD76) (SD_gluc (ι := oz_D8clsl_18) oz_D8cls_62 hD80 eD80 (by decide +kernel)) (any_subA (lₚ := [3]) (by decide +kernel))
                  have mD80 := SDm_of cD80 oz_D8cls_61
                  have cN80 : SD oz_D8clsl_17 N N80 := SD_trans (cN76) (SD_gluc (ι := oz_D8clsl_18) oz_D8cls_62 hN80 eN80 (by decide +kernel)) (any_subA (lₚ := [3]) (by decide +kernel))
                  have mN80 := SDm_of cN80 oz_D8cls_61
                  have pf80_1_0 : F80 1 0 = (D80 3 : Int) := (eF80 1 0).trans (pm80_1.trans (congrArg (fun q : Nat => (q : Int)) (eD80 3).symm))
                  have pf80_5_1 : F80 5 1 = (D80 13 : Int) := ((show F80 5 1 = F76 5 1 from (eF80 5 1))).trans ((pf76_5_1).trans (congrArg (fun q : Nat => (q : Int)) ((show D80 13 = D76 13 from (eD80 13))).symm))
                  have pf80_5_2 : F80 5 2 = (D80 14 : Int) := ((show F80 5 2 = F76 5 2 from (eF80 5 2))).trans ((pf76_5_2).trans (congrArg (fun q : Nat => (q : Int)) ((show D80 14 = D76 14 from (eD80 14))).symm))
                  have pf80_5_3 : F80 5 3 = (D80 15 : Int) := ((show F80 5 3 = F76 5 3 from (eF80 5 3))).trans ((pf76_5_3).trans (congrArg (fun q : Nat => (q : Int)) ((show D80 15 = D76 15 from (eD80 15))).symm))
                  have pf80_5_7 : F80 5 7 = (D80 11 : Int) := ((show F80 5 7 = F76 5 7 from (eF80 5 7))).trans ((pf76_5_7).trans (congrArg (fun q : Nat => (q : Int)) ((show D80 11 = D76 11 from (eD80 11))).symm))
                  have pf80_5_8 : F80 5 8 = (D80 12 : Int) := ((show F80 5 8 = F76 5 8 from (eF80 5 8))).trans ((pf76_5_8).trans (congrArg (fun q : Nat => (q : Int)) ((show D80 12 = D76 12 from (eD80 12))).symm))
                  have pf80_6_0 : F80 6 0 = (D80 7 : Int) := ((show F80 6 0 = F76 6 0 from (eF80 6 0))).trans ((pf76_6_0).trans (congrArg (fun q : Nat => (q : Int)) ((show D80 7 = D76 7 from (eD80 7))).symm))
                  have pf80_8_0 : F80 8 0 = (D80 9 : Int) := ((show F80 8 0 = F76 8 0 from (eF80 8 0))).trans ((pf76_8_0).trans (congrArg (fun q : Nat => (q : Int)) ((show D80 9 = D76 9 from (eD80 9))).symm))
                  have r81 : (0 : Int) ≤ m80_1 ∧ m80_1 ≤ 1000000 := nleE (H.nle 3 (ltn len_V201_Row_Row_oz_D8cls rfl)) (show (N80 3 : Int) = m80_1 from (congrArg (fun q : Nat => (q : Int)) (eN80 3)).trans em80_1)
                  have r82 : (-2147483648 : Int) ≤ y80_0_1 ∧ y80_0_1 ≤ 2147483647 := rngE (show (-2147483648 : Int) ≤ F80 1 1 ∧ F80 1 1 ≤ 2147483647 from H.krg 1 1 (ltn len_V201_Row_Row_oz_D8cls rfl)) (show F80 1 1 = y80_0_1 from ((eF80 1 1).trans ey80_0_1))
                  exact hc214  _ _ _ _ _ _ _ _  ((lc169_0).trans (congrArg (fun q : Nat => some (Value.ref q)) (((((show D80 0 = D76 0 from (eD80 0))).trans ((show D76 0 = D66 0 from (eD76 0)))).trans ((show D66 0 = D57 0 from (eD66 0).trans (hD66 0 rfl))))).symm)) ((lc169_1).trans (congrArg (fun q : Nat => some (Value.ref q)) (((((show D80 1 = D76 1 from (eD80 1).trans (hD80 0 rfl))).trans ((show D76 1 = D66 1 from (eD76 1).trans (hD76 0 rfl)))).trans ((show D66 1 = D57 1 from (eD66 1).trans (hD66 1 rfl))))).symm)) ((lc169_2).trans (congrArg (fun q : Nat => some (Value.ref q)) (((((show D80 2 = D76 2 from (eD80 2))).trans ((show D76 2 = D66 2 from (eD76 2)))).trans ((show D66 2 = D57 2 from (eD66 2))))).symm)) ((lc169_3).trans (congrArg (fun q : Nat => some (Value.ref q)) (((((show D80 6 = D76 6 from (eD80 6))).trans ((show D76 6 = D66 6 from (eD76 6)))).trans ((show D66 6 = D57 6 from (eD66 6).trans (hD66 6 rfl))))).symm)) (lc169_4) (lc169_5) H O (SD_trans (SD_trans (SD_refl) (SD_gluc (ι := oz_D8clsl_18) oz_D8cls_62 hD76 eD76 (by decide +kernel)) (any_subA (lₚ := [3]) (by decide +kernel))) (SD_gluc (ι := oz_D8clsl_18) oz_D8cls_62 hD80 eD80 (by decide +kernel)) (any_subA (lₚ := [3]) (by decide +kernel))) (SD_trans (SD_trans (SD_refl) (SD_gluc (ι := oz_D8clsl_18) oz_D8cls_62 hN76 eN76 (by decide +kernel)) (any_subA (lₚ := [3]) (by decide +kernel))) (SD_gluc (ι := oz_D8clsl_18) oz_D8cls_62 hN80 eN80 (by decide +kernel)) (any_subA (lₚ := [3]) (by decide +kernel))) (SF_trans (SF_trans (SF_refl) (SF_gluc (ι := oz_D8clsl_18) oz_D8cls_62 hS76 eF76 (by decide +kernel)) (any_sub (lₚ := [(1, 0), (1, 1), (1, 2)]) (by decide +kernel))) (SF_gluc (ι := oz_D8clsl_18) oz_D8cls_62 hS80 eF80 (by decide +kernel)) (any_sub (lₚ := [(1, 0), (1, 1), (1, 2)]) (by decide +kernel))) (SA_trans (SA_trans (SA_refl) (SA_gluc (ι := oz_D8clsl_18) oz_D8cls_62 hA76 eA76 (by decide +kernel)) (any_subA (lₚ := [3]) (by decide +kernel))) (SA_gluc (ι := oz_D8clsl_18) oz_D8cls_62 hA80 eA80 (by decide +kernel)) (any_subA (lₚ := [3]) (by decide +kernel))) (pf80_1_0) (m80_1) ((congrArg (fun q : Nat => (q : Int)) (eN80 3)).trans em80_1) (y80_0_1) (((eF80 1 1).trans ey80_0_1))  (show 0 ≤ (y80_0_1) ∧ (y80_0_1) ≤ (m80_1) ∧ (m80_1) ≤ 65536 from pz80_0)
              refine w_ifeq (t := 168) rfl rfl (show inr (tc142_0) from jc142_0) (fun b83 => ?_) (fun b83 => ?_)
              · refine Ew_of (pcₚ := 169) (fun _ => x_iconst rfl) ?_
                exact hc169 (0) _ _ _ _  (rk_o (lc142_0) rfl rfl) (rk_o (lc142_1) rfl rfl) (rk_o (lc142_2) rfl rfl) (rk_o (lc142_3) rfl rfl) (rk_o (lc142_4) rfl rfl) (rk_o (lc142_5) rfl rfl) H O (SF_refl) (SA_refl)     (show inr (0) from q_20) (show ((tc142_0) = (0) ∧ (0) = (0)) ∨ ((tc142_0) ≠ (0) ∧ (0) = (1)) from q_654 b83)
              · refine Ew_of (pcₚ := 165) (fun _ => x_iconst rfl) ?_
                refine Ew_of (pcₚ := 169) (fun _ => x_goto rfl rfl) ?_
                exact hc169 (1) _ _ _ _  (rk_o (lc142_0) rfl rfl) (rk_o (lc142_1) rfl rfl) (rk_o (lc142_2) rfl rfl) (rk_o (lc142_3) rfl rfl) (rk_o (lc142_4) rfl rfl) (rk_o (lc142_5) rfl rfl) H O (SF_refl) (SA_refl)     (show inr (1) from q_23) (show ((tc142_0) = (0) ∧ (1) = (0)) ∨ ((tc142_0) ≠ (0) ∧ (1) = (1)) from q_655 b83)
            · refine Ew_of (pcₚ := 152) (fun _ => x_aload_n rfl (rk_o (lc142_3) rfl rfl)) ?_
              refine Ew_of (pcₚ := 159) (fun _ => x_goto rfl rfl) ?_
              refine Ew_of (pcₚ := 161) (fun _ => x_iload rfl rk_s) ?_
              have hc169 : ∀ (tc169_0 : Int), ∀ (ls : rO) (σ : rS) (F_c169 : hF) (A_c169 : hA) , rlook ls 0 = some (.ref (D57 0)) → rlook ls 1 = some (.ref (D57 1)) → rlook ls 2 = some (.ref (D57 2)) → rlook ls 3 = some (.ref (D57 6)) → rlook ls 4 = some (I (v31)) → rlook ls 5 = some (I (x51_5)) → HW V201_Row_Row σ D57 N57 F_c169 A_c169 → OUT (V201_Row_Row).length D N σE c s D57 N57 σ ((c_51 + c52) + c57) ((s_51 + s52) + s57) → SF [] F_c142 F_c169 → SA [] A_c142 A_c169 → (inr (tc169_0)) → (((tc142_0) = (0) ∧ (tc169_0) = (0)) ∨ ((tc142_0) ≠ (0) ∧ (tc169_0) = (1))) → Ew 201 (d + 5) 169 ls [I (tc169_0), .ref (D57 6), .ref (D57 1), .ref (D57 0)] σ ((c_51 + c52) + c57) ((s_51 + s52) + s57) Q := by
               as_aux_lemma =>
                intro tc169_0 ls σ F_c169 A_c169  lc169_0 lc169_1 lc169_2 lc169_3 lc169_4 lc169_5 H O hS_c169 hA_c169     jc169_0 jc169_1
                have cF_c169 : SF oz_D8clsl_16 F F_c169 := SF_trans (cF_c142) hS_c169 (any_sub (by decide +kernel))
                have mF_c169 := SFm_of cF_c169 oz_D8cls_60
                have cA_c169 : SA oz_D8clsl_17 A A_c169 := SA_trans (cA_c142) hA_c169 (any_subA (by decide +kernel))
                have mA_c169 := SAm_of cA_c169 oz_D8cls_61
                refine v_inv H (o := 0) rfl rfl rfl rfl rfl rfl (by rfl) (C202_Row_thisfinderdataa (D := puc 246703593357824 D57) (N := puc 246703593357824 N57) (HW_subc H oz_D8cls_58 oz_D8cls_70) (STC_out HT HE O) ((((hS_c169 1 0 rfl).trans (hS_c142 1 0 rfl))).trans (pf57_1_0)) ((mF_c169 0 1 rfl).trans ((pf5).trans (congrArg (fun q : Nat => (q : Int)) (mD57 5 rfl).symm))) ((mF_c169 5 0 rfl).trans ((pf6).trans (congrArg (fun q : Nat => (q : Int)) (mD57 6 rfl).symm))) ((((hS_c169 6 0 rfl).trans (hS_c142 6 0 rfl))).trans (pf57_6_0)) (m51_3) ((congrArg (fun q : Nat => (q : Int)) (show N57 3 = N52 3 from (eN57 3))).trans ((congrArg (fun q : Nat => (q : Int)) (show N52 3 = N_51 3 from (eN52 3))).trans (em51_3))) (m52_2) ((congrArg (fun q : Nat => (q : Int)) (show N57 7 = N52 7 from (eN57 7).trans (hN57 5 rfl))).trans ((congrArg (fun q : Nat => (q : Int)) (eN52 7)).trans em52_2)) (y51_1_1) (((((((((hS_c169 1 1 rfl).trans (hS_c142 1 1 rfl)).trans ((show F57 1 1 = F55 1 1 from (eF57 1 1)))).trans ((show F55 1 1 = F52 1 1 from (eF55 1 1)))).trans ((show F52 1 1 = F50 1 1 from (eF52 1 1)))).trans ((show F50 1 1 = F48 1 1 from (eF50 1 1)))).trans ((show F48 1 1 = F_51 1 1 from (eF48 1 1)))).trans (ey51_1_1))) (y52_0_1) ((((((hS_c169 6 1 rfl).trans (hS_c142 6 1 rfl)).trans ((show F57 6 1 = F55 6 1 from (eF57 6 1).trans (hS57 4 1 rfl)))).trans ((show F55 6 1 = F52 6 1 from (eF55 6 1)))).trans ((eF52 6 1).trans ey52_0_1))) (show inr (tc169_0) from jc169_0) (show 0 ≤ (y51_1_1) ∧ (y51_1_1) ≤ (m51_3) ∧ (m51_3) ≤ 65536 from j51_1) (show 0 ≤ (y52_0_1) ∧ (y52_0_1) ≤ (m52_2) ∧ (m52_2) ≤ 65536 from pz52_0) (show 0 ≤ (y52_0_1) ∧ (y52_0_1) ≤ (m52_2) ∧ (m52_2) ≤ 65536 from pz52_0) (fun σ84 D84ₚ N84ₚ F84ₚ A84ₚ c84 s84 Hₚ Oₚ hD84 hN84 hS84 hA84 pm84_2 m84_2 em84_2 y84_1_1 ey84_1_1 pz84_0 => ⟨rfl, ?_⟩))
                refine v_backMc (c := ((c_51 + c52) + c57)) (s := ((s_51 + s52) + s57)) H oz_D8cls_58 oz_D8cls_70 Hₚ Oₚ hD84 oz_D8cls_59 (fun D84 N84 F84 A84 H Oₚ eD84 eN84 eF84 eA84 => ?_)
                have O := OUT_trans O Oₚ
                -- Tags.addChunk
                have cF84 : SF oz_D8clsl_16 F F84 := SF_trans (cF_c169) (SF_gluc (ι := oz_D8clsl_26) oz_D8cls_70 hS84 eF84 (by decide +kernel)) (any_sub (lₚ := [(1, 0), (1, 1), (1, 2)]) (by decide +kernel))
                have mF84 := SFm_of cF84 oz_D8cls_60
                have cA84 : SA oz_D8clsl_17 A A84 := SA_trans (cA_c169) (SA_gluc (ι := oz_D8clsl_26) oz_D8cls_70 hA84 eA84 (by decide +kernel)) (any_subA (lₚ := [3]) (by decide +kernel))
                have mA84 := SAm_of cA84 oz_D8cls_61
                have cD84 : SD oz_D8clsl_17 D D84 := SD_trans (cD57) (SD_gluc (ι := oz_D8clsl_26) oz_D8cls_70 hD84 eD84 (by decide +kernel)) (any_subA (lₚ := [3]) (by decide +kernel))
                have mD84 := SDm_of cD84 oz_D8cls_61
                have cN84 : SD oz_D8clsl_17 N N84 := SD_trans (cN57) (SD_gluc (ι := oz_D8clsl_26) oz_D8cls_70 hN84 eN84 (by decide +kernel)) (any_subA (lₚ := [3]) (by decide +kernel))
                have mN84 := SDm_of cN84 oz_D8cls_61
                have pf84_1_0 : F84 1 0 = (D84 3 : Int) := (eF84 1 0).trans (pm84_2.trans (congrArg (fun q : Nat => (q : Int)) (eD84 3).symm))
                have pf84_5_1 : F84 5 1 = (D84 13 : Int) := ((show F84 5 1 = F_c169 5 1 from (eF84 5 1).trans (hS84 3 1 rfl))).trans (((((hS_c169 5 1 rfl).trans (hS_c142 5 1 rfl))).trans (pf57_5_1)).trans (congrArg (fun q : Nat => (q : Int)) ((show D84 13 = D57 13 from (eD84 13))).symm))
                have pf84_5_2 : F84 5 2 = (D84 14 : Int) := ((show F84 5 2 = F_c169 5 2 from (eF84 5 2).trans (hS84 3 2 rfl))).trans (((((hS_c169 5 2 rfl).trans (hS_c142 5 2 rfl))).trans (pf57_5_2)).trans (congrArg (fun q : Nat => (q : Int)) ((show D84 14 = D57 14 from (eD84 14))).symm))
                have pf84_5_3 : F84 5 3 = (D84 15 : Int) := ((show F84 5 3 = F_c169 5 3 from (eF84 5 3).trans (hS84 3 3 rfl))).trans (((((hS_c169 5 3 rfl).trans (hS_c142 5 3 rfl))).trans (pf57_5_3)).trans (congrArg (fun q : Nat => (q : Int)) ((show D84 15 = D57 15 from (eD84 15))).symm))
                have pf84_5_7 : F84 5 7 = (D84 11 : Int) := ((show F84 5 7 = F_c169 5 7 from (eF84 5 7).trans (hS84 3 7 rfl))).trans (((((hS_c169 5 7 rfl).trans (hS_c142 5 7 rfl))).trans (pf57_5_7)).trans (congrArg (fun q : Nat => (q : Int)) ((show D84 11 = D57 11 from (eD84 11))).symm))
                have pf84_5_8 : F84 5 8 = (D84 12 : Int) := ((show F84 5 8 = F_c169 5 8 from (eF84 5 8).trans (hS84 3 8 rfl))).trans (((((hS_c169 5 8 rfl).trans (hS_c142 5 8 rfl))).trans (pf57_5_8)).trans (congrArg (fun q : Nat => (q : Int)) ((show D84 12 = D57 12 from (eD84 12))).symm))
                have pf84_6_0 : F84 6 0 = (D84 7 : Int) := ((show F84 6 0 = F_c169 6 0 from (eF84 6 0).trans (hS84 4 0 rfl))).trans (((((hS_c169 6 0 rfl).trans (hS_c142 6 0 rfl))).trans (pf57_6_0)).trans (congrArg (fun q : Nat => (q : Int)) ((show D84 7 = D57 7 from (eD84 7).trans (hD84 5 rfl))).symm))
                have pf84_8_0 : F84 8 0 = (D84 9 : Int) := ((show F84 8 0 = F_c169 8 0 from (eF84 8 0))).trans (((((hS_c169 8 0 rfl).trans (hS_c142 8 0 rfl))).trans (pf57_8_0)).trans (congrArg (fun q : Nat => (q : Int)) ((show D84 9 = D57 9 from (eD84 9))).symm))
                have r85 : (0 : Int) ≤ m84_2 ∧ m84_2 ≤ 1000000 := nleE (H.nle 3 (ltn len_V201_Row_Row_oz_D8cls rfl)) (show (N84 3 : Int) = m84_2 from (congrArg (fun q : Nat => (q : Int)) (eN84 3)).trans em84_2)
                have r86 : (-2147483648 : Int) ≤ y84_1_1 ∧ y84_1_1 ≤ 2147483647 := rngE (show (-2147483648 : Int) ≤ F84 1 1 ∧ F84 1 1 ≤ 2147483647 from H.krg 1 1 (ltn len_V201_Row_Row_oz_D8cls rfl)) (show F84 1 1 = y84_1_1 from ((eF84 1 1).trans ey84_1_1))
                have hc214 : ∀ (ls : rO) (σ : rS) (D_c214 N_c214 : Nat → Nat) (c_c214 s_c214 : Nat) (F_c214 : hF) (A_c214 : hA) , rlook ls 0 = some (.ref (D_c214 0)) → rlook ls 1 = some (.ref (D_c214 1)) → rlook ls 2 = some (.ref (D_c214 2)) → rlook ls 3 = some (.ref (D_c214 6)) → rlook ls 4 = some (I (v31)) → rlook ls 5 = some (I (x51_5)) → HW V201_Row_Row σ D_c214 N_c214 F_c214 A_c214 → OUT (V201_Row_Row).length D N σE c s D_c214 N_c214 σ c_c214 s_c214 → SD [3] D84 D_c214 → SD [3] N84 N_c214 → SF [(1, 0), (1, 1), (1, 2)] F84 F_c214 → SA [3] A84 A_c214 → F_c214 1 0 = (D_c214 3 : Int) → ∀ mc214_3 : Int, (N_c214 3 : Int) = mc214_3 → ∀ yc214_1_1 : Int, F_c214 1 1 = yc214_1_1 → (0 ≤ (yc214_1_1) ∧ (yc214_1_1) ≤ (mc214_3) ∧ (mc214_3) ≤ 65536) → Ew 201 (d + 5) 214 ls [] σ c_c214 s_c214 Q := by
                 as_aux_lemma =>
                  intro  ls σ D_c214 N_c214 c_c214 s_c214 F_c214 A_c214  lc214_0 lc214_1 lc214_2 lc214_3 lc214_4 lc214_5 H O hD_c214 hN_c214 hS_c214 hA_c214 pmc214_3 mc214_3 emc214_3 yc214_1_1 eyc214_1_1  jc214_0
                  have cF_c214 : SF oz_D8clsl_16 F F_c214 := SF_trans (cF84) hS_c214 (any_sub (by decide +kernel))
                  have mF_c214 := SFm_of cF_c214 oz_D8cls_60
                  have cA_c214 : SA oz_D8clsl_17 A A_c214 := SA_trans (cA84) hA_c214 (any_subA (by decide +kernel))
                  have mA_c214 := SAm_of cA_c214 oz_D8cls_61
                  have cD_c214 : SD oz_D8clsl_17 D D_c214 := SD_trans (cD84) hD_c214 (any_subA (by decide +kernel))
                  have mD_c214 := SDm_of cD_c214 oz_D8cls_61
                  have cN_c214 : SD oz_D8clsl_17 N N_c214 := SD_trans (cN84) hN_c214 (any_subA (by decide +kernel))
                  have mN_c214 := SDm_of cN_c214 oz_D8cls_61
                  have pf_c214_5_1 : F_c214 5 1 = (D_c214 13 : Int) := (hS_c214 5 1 rfl).trans ((pf84_5_1).trans (congrArg (fun q : Nat => (q : Int)) (hD_c214 13 rfl).symm))
                  have pf_c214_5_2 : F_c214 5 2 = (D_c214 14 : Int) := (hS_c214 5 2 rfl).trans ((pf84_5_2).trans (congrArg (fun q : Nat => (q : Int)) (hD_c214 14 rfl).symm))
                  have pf_c214_5_3 : F_c214 5 3 = (D_c214 15 : Int) := (hS_c214 5 3 rfl).trans ((pf84_5_3).trans (congrArg (fun q : Nat => (q : Int)) (hD_c214 15 rfl).symm))
                  have pf_c214_5_7 : F_c214 5 7 = (D_c214 11 : Int) := (hS_c214 5 7 rfl).trans ((pf84_5_7).trans (congrArg (fun q : Nat => (q : Int)) (hD_c214 11 rfl).symm))
                  have pf_c214_5_8 : F_c214 5 8 = (D_c214 12 : Int) := (hS_c214 5 8 rfl).trans ((pf84_5_8).trans (congrArg (fun q : Nat => (q : Int)) (hD_c214 12 rfl).symm))
                  have pf_c214_6_0 : F_c214 6 0 = (D_c214 7 : Int) := (hS_c214 6 0 rfl).trans ((pf84_6_0).trans (congrArg (fun q : Nat => (q : Int)) (hD_c214 7 rfl).symm))
                  have pf_c214_8_0 : F_c214 8 0 = (D_c214 9 : Int) := (hS_c214 8 0 rfl).trans ((pf84_8_0).trans (congrArg (fun q : Nat => (q : Int)) (hD_c214 9 rfl).symm))
                  have r87 : (0 : Int) ≤ mc214_3 ∧ mc214_3 ≤ 1000000 := nleE (H.nle 3 (ltn len_V201_Row_Row_oz_D8cls rfl)) (show (N_c214 3 : Int) = mc214_3 from emc214_3)
                  have r88 : (-2147483648 : Int) ≤ yc214_1_1 ∧ yc214_1_1 ≤ 2147483647 := rngE (show (-2147483648 : Int) ≤ F_c214 1 1 ∧ F_c214 1 1 ≤ 2147483647 from H.krg 1 1 (ltn len_V201_Row_Row_oz_D8cls rfl)) (show F_c214 1 1 = yc214_1_1 from (eyc214_1_1))
                  refine Ew_of (pcₚ := 216) (fun _ => x_iload rfl lc214_5) ?_
                  refine Ew_of (pcₚ := 218) (fun _ => x_iload rfl lc214_4) ?_
                  refine w_iadd rfl ?_
                  refine Ew_of (pcₚ := 221) (fun _ => x_istore rfl) ?_
                  refine Ew_of (pcₚ := 51) (fun _ => x_goto rfl rfl) ?_
                  exact ih51 _ (msE hm51 (q_3090 b43) (q_3091 b44)) _ _ _ _ _ _ _ _ ((x51_5 + v31)) (rk_o (lc214_0) rfl rfl) (rk_o (lc214_1) rfl rfl) (rk_o (lc214_2) rfl rfl) (rk_o (lc214_3) rfl rfl) (rk_o (lc214_4) rfl rfl) (rk_s) H O (SD_trans (SD_trans (SD_trans (SD_trans (hD_51) (SD_gluc (ι := oz_D8clsl_22) oz_D8cls_66 hD52 eD52 (by decide +kernel)) (any_subA (lₚ := [7]) (by decide +kernel))) (SD_gluc (ι := oz_D8clsl_24) oz_D8cls_68 hD57 eD57 (by decide +kernel)) (any_subA (lₚ := [9, 12, 13, 14, 15]) (by decide +kernel))) (SD_gluc (ι := oz_D8clsl_26) oz_D8cls_70 hD84 eD84 (by decide +kernel)) (any_subA (lₚ := [3]) (by decide +kernel))) hD_c214 (any_subA (by decide +kernel))) (SD_trans (SD_trans (SD_trans (SD_trans (hN_51) (SD_gluc (ι := oz_D8clsl_22) oz_D8cls_66 hN52 eN52 (by decide +kernel)) (any_subA (lₚ := [7]) (by decide +kernel))) (SD_gluc (ι := oz_D8clsl_24) oz_D8cls_68 hN57 eN57 (by decide +kernel)) (any_subA (lₚ := [9, 12, 13, 14, 15]) (by decide +kernel))) (SD_gluc (ι := oz_D8clsl_26) oz_D8cls_70 hN84 eN84 (by decide +kernel)) (any_subA (lₚ := [3]) (by decide +kernel))) hN_c214 (any_subA (by decide +kernel))) (SF_trans (SF_trans (SF_trans (SF_trans (SF_trans (SF_trans (SF_trans (SF_trans (SF_trans (hS_51) (SF_gluc (ι := oz_D8clsl_21) oz_D8cls_65 hS48 eF48 (by decide +kernel)) (any_sub (lₚ := [(5, 6)]) (by decide +kernel))) (SF_gluc (ι := oz_D8clsl_19) oz_D8cls_63 hS50 eF50 (by decide +kernel)) (any_sub (lₚ := [(6, 1), (6, 2), (6, 3), (6, 4)]) (by decide +kernel))) (SF_gluc (ι := oz_D8clsl_22) oz_D8cls_66 hS52 eF52 (by decide +kernel)) (any_sub (lₚ := [(6, 0), (6, 1), (6, 2)]) (by decide +kernel))) (SF_gluc (ι := oz_D8clsl_23) oz_D8cls_67 hS55 eF55 (by decide +kernel)) (any_sub (lₚ := [(8, 1), (8, 2), (8, 3), (8, 4)]) (by decide +kernel))) (SF_gluc (ι := oz_D8clsl_24) oz_D8cls_68 hS57 eF57 (by decide +kernel)) (any_sub (lₚ := [(5, 1), (5, 2), (5, 3), (5, 4), (5, 5), (5, 6), (5, 8), (5, 12), (5, 13), (5, 14), (5, 15), (5, 16), (5, 17), (5, 18), (8, 0), (8, 1), (8, 2)]) (by decide +kernel))) hS_c142 (any_sub (by decide +kernel))) hS_c169 (any_sub (by decide +kernel))) (SF_gluc (ι := oz_D8clsl_26) oz_D8cls_70 hS84 eF84 (by decide +kernel)) (any_sub (lₚ := [(1, 0), (1, 1), (1, 2)]) (by decide +kernel))) hS_c214 (any_sub (by decide +kernel))) (SA_trans (SA_trans (SA_trans (SA_trans (SA_trans (SA_trans (SA_trans (SA_trans (SA_trans (hA_51) (SA_gluc (ι := oz_D8clsl_21) oz_D8cls_65 hA48 eA48 (by decide +kernel)) (any_subA (lₚ := [11]) (by decide +kernel))) (SA_gluc (ι := oz_D8clsl_19) oz_D8cls_63 hA50 eA50 (by decide +kernel)) (any_subA (lₚ := []) (by decide +kernel))) (SA_gluc (ι := oz_D8clsl_22) oz_D8cls_66 hA52 eA52 (by decide +kernel)) (any_subA (lₚ := [7]) (by decide +kernel))) (SA_gluc (ι := oz_D8clsl_23) oz_D8cls_67 hA55 eA55 (by decide +kernel)) (any_subA (lₚ := []) (by decide +kernel))) (SA_gluc (ι := oz_D8clsl_24) oz_D8cls_68 hA57 eA57 (by decide +kernel)) (any_subA (lₚ := [9, 11, 12, 13, 14, 15]) (by decide +kernel))) hA_c142 (any_subA (by decide +kernel))) hA_c169 (any_subA (by decide +kernel))) (SA_gluc (ι := oz_D8clsl_26) oz_D8cls_70 hA84 eA84 (by decide +kernel)) (any_subA (lₚ := [3]) (by decide +kernel))) hA_c214 (any_subA (by decide +kernel))) (pmc214_3) (pf_c214_6_0) (pf_c214_8_0) (pf_c214_5_8) (pf_c214_5_1) (pf_c214_5_2) (pf_c214_5_3) (mc214_3) (emc214_3) (m52_2) ((congrArg (fun q : Nat => (q : Int)) (hN_c214 7 rfl)).trans ((congrArg (fun q : Nat => (q : Int)) (show N84 7 = N57 7 from (eN84 7).trans (hN84 5 rfl))).trans ((congrArg (fun q : Nat => (q : Int)) (show N57 7 = N52 7 from (eN57 7).trans (hN57 5 rfl))).trans ((congrArg (fun q : Nat => (q : Int)) (eN52 7)).trans em52_2)))) (m57_2) ((congrArg (fun q : Nat => (q : Int)) (hN_c214 9 rfl)).trans ((congrArg (fun q : Nat => (q : Int)) (show N84 9 = N57 9 from (eN84 9))).trans ((congrArg (fun q : Nat => (q : Int)) (eN57 9)).trans em57_2))) (m57_6) ((congrArg (fun q : Nat => (q : Int)) (hN_c214 12 rfl)).trans ((congrArg (fun q : Nat => (q : Int)) (show N84 12 = N57 12 from (eN84 12))).trans ((congrArg (fun q : Nat => (q : Int)) (eN57 12)).trans em57_6))) (m57_8) ((congrArg (fun q : Nat => (q : Int)) (hN_c214 13 rfl)).trans ((congrArg (fun q : Nat => (q : Int)) (show N84 13 = N57 13 from (eN84 13))).trans ((congrArg (fun q : Nat => (q : Int)) (eN57 13)).trans em57_8))) (m57_9) ((congrArg (fun q : Nat => (q : Int)) (hN_c214 14 rfl)).trans ((congrArg (fun q : Nat => (q : Int)) (show N84 14 = N57 14 from (eN84 14))).trans ((congrArg (fun q : Nat => (q : Int)) (eN57 14)).trans em57_9))) (m57_10) ((congrArg (fun q : Nat => (q : Int)) (hN_c214 15 rfl)).trans ((congrArg (fun q : Nat => (q : Int)) (show N84 15 = N57 15 from (eN84 15))).trans ((congrArg (fun q : Nat => (q : Int)) (eN57 15)).trans em57_10))) (yc214_1_1) ((eyc214_1_1)) (y57_3_6) ((((((hS_c214 5 6 rfl).trans ((show F84 5 6 = F_c169 5 6 from (eF84 5 6).trans (hS84 3 6 rfl)))).trans (hS_c169 5 6 rfl)).trans (hS_c142 5 6 rfl)).trans ((eF57 5 6).trans ey57_3_6))) (y52_0_1) ((((((((hS_c214 6 1 rfl).trans ((show F84 6 1 = F_c169 6 1 from (eF84 6 1).trans (hS84 4 1 rfl)))).trans (hS_c169 6 1 rfl)).trans (hS_c142 6 1 rfl)).trans ((show F57 6 1 = F55 6 1 from (eF57 6 1).trans (hS57 4 1 rfl)))).trans ((show F55 6 1 = F52 6 1 from (eF55 6 1)))).trans ((eF52 6 1).trans ey52_0_1))) (y57_1_1) ((((((hS_c214 8 1 rfl).trans ((show F84 8 1 = F_c169 8 1 from (eF84 8 1)))).trans (hS_c169 8 1 rfl)).trans (hS_c142 8 1 rfl)).trans ((eF57 8 1).trans ey57_1_1))) (w52_2) ((funext (hA_c214 7 rfl)).trans (((show A84 7 = A_c169 7 from (eA84 7).trans (funext (hA84 5 rfl)))).trans ((funext (hA_c169 7 rfl)).trans ((funext (hA_c142 7 rfl)).trans (((show A57 7 = A55 7 from (eA57 7).trans (funext (hA57 5 rfl)))).trans (((show A55 7 = A52 7 from (eA55 7))).trans ((eA52 7).trans ew52_2))))))) (w57_7) ((funext (hA_c214 11 rfl)).trans (((show A84 11 = A_c169 11 from (eA84 11))).trans ((funext (hA_c169 11 rfl)).trans ((funext (hA_c142 11 rfl)).trans ((eA57 11).trans ew57_7))))) (w57_6) ((funext (hA_c214 12 rfl)).trans (((show A84 12 = A_c169 12 from (eA84 12))).trans ((funext (hA_c169 12 rfl)).trans ((funext (hA_c142 12 rfl)).trans ((eA57 12).trans ew57_6))))) (show inr ((x51_5 + v31)) from q_3089 b43 b44 h5 hs3 j51_2) (show 0 ≤ (yc214_1_1) ∧ (yc214_1_1) ≤ (mc214_3) ∧ (mc214_3) ≤ 65536 from jc214_0) (show 0 ≤ ((x51_5 + v31)) ∧ ((x51_5 + v31)) ≤ (u2_1) + 65536 from q_3088 b43 b44 hs3 j51_2) (show 0 ≤ (y52_0_1) ∧ (y52_0_1) ≤ (m52_2) ∧ (m52_2) ≤ 65536 ∧ (y52_0_1) ≤ 16384 from q_3086 hdc hl6 pz52_0) (show 0 ≤ (y57_1_1) ∧ (y57_1_1) ≤ (m57_2) ∧ (m57_2) ≤ 65536 from pz57_0) (show (m25_1) = 2048 from j51_5) (show 0 ≤ (y57_3_6) ∧ (y57_3_6) ≤ (m57_6) ∧ (m57_6) ≤ 16384 from q_3087 pz57_1) (show (y57_3_6) = 0 ∨ (y57_3_6) + 4 ≤ (y52_0_1) + 1 from hlq) (show BKI ((w52_2)) ((w57_6)) ((y25_0_10)) ((y57_3_6)) from pz57_3) (show HDI ((w52_2)) ((w57_7)) ((y25_0_10)) ((y57_3_6)) from pz57_4) (show (m57_8) = (m57_9) ∧ (m57_10) = (m57_9) ∧ (m57_9) ≤ 65536 ∧ ((m57_9) = 0 ∨ 64 ≤ (m57_9)) ∧ lgq ((m57_9)) = 0 from hln) rfl
                refine Ew_of (pcₚ := 173) (fun _ => x_aload_n rfl lc169_0) ?_
                refine Ew_stk (congrArg (fun qz : Nat => ([.ref qz] : List Value)) (show D84 0 = D57 0 from ((show D84 0 = D57 0 from (eD84 0).trans (hD84 0 rfl)))).symm) ?_
                refine v_g H (o := 0) (v := .ref (D84 10)) rfl rfl rfl rfl rfl (vrf ((mF84 0 0 rfl).trans ((pf10).trans (congrArg (fun q : Nat => (q : Int)) (mD84 10 rfl).symm)))) ?_
                refine Ew_of (pcₚ := 178) (fun _ => x_bipush (z := 6) rfl (by decide)) ?_
                refine v_lI H (o := 10) rfl rfl rfl rfl (n := n10) ((congrArg (fun q : Nat => (q : Int)) (mN84 10 rfl)).trans (en10)) (show 0 ≤ 6 ∧ 6 < n10 from q_3092 h4 r9) (fun v89 ev89 qv89 => ?_)
                have ev89 : (w10) (6) = v89 := (congrFun ((funext (mA84 10 rfl)).trans (ew10)) (6)).symm.trans ev89
                refine w_ifle (t := 214) rfl rfl (show inr (v89) from qv89) (fun b90 => ?_) (fun b90 => ?_)
                · exact hc214  _ _ _ _ _ _ _ _  ((lc169_0).trans (congrArg (fun q : Nat => some (Value.ref q)) (((show D84 0 = D57 0 from (eD84 0).trans (hD84 0 rfl)))).symm)) ((lc169_1).trans (congrArg (fun q : Nat => some (Value.ref q)) (((show D84 1 = D57 1 from (eD84 1).trans (hD84 1 rfl)))).symm)) ((lc169_2).trans (congrArg (fun q : Nat => some (Value.ref q)) (((show D84 2 = D57 2 from (eD84 2)))).symm)) ((lc169_3).trans (congrArg (fun q : Nat => some (Value.ref q)) (((show D84 6 = D57 6 from (eD84 6).trans (hD84 4 rfl)))).symm)) (lc169_4) (lc169_5) H O (SD_refl) (SD_refl) (SF_refl) (SA_refl) (pf84_1_0) (m84_2) ((congrArg (fun q : Nat => (q : Int)) (eN84 3)).trans em84_2) (y84_1_1) (((eF84 1 1).trans ey84_1_1))  (show 0 ≤ (y84_1_1) ∧ (y84_1_1) ≤ (m84_2) ∧ (m84_2) ≤ 65536 from pz84_0)
                · refine Ew_of (pcₚ := 183) (fun _ => x_aload_n rfl lc169_1) ?_
                  refine Ew_of (pcₚ := 184) (fun _ => x_aload_n rfl lc169_0) ?_
                  refine Ew_stk (show ([.ref (D57 0), .ref (D57 1)] : List Value) = [.ref (D84 0), .ref (D84 1)] by rw [show D84 0 = D57 0 from ((show D84 0 = D57 0 from (eD84 0).trans (hD84 0 rfl))), show D84 1 = D57 1 from ((show D84 1 = D57 1 from (eD84 1).trans (hD84 1 rfl)))]) ?_
                  refine v_g H (o := 0) (v := .ref (D84 10)) rfl rfl rfl rfl rfl (vrf ((mF84 0 0 rfl).trans ((pf10).trans (congrArg (fun q : Nat => (q : Int)) (mD84 10 rfl).symm)))) ?_
                  refine Ew_of (pcₚ := 189) (fun _ => x_bipush (z := 6) rfl (by decide)) ?_
                  refine v_lI H (o := 10) rfl rfl rfl rfl (n := n10) ((congrArg (fun q : Nat => (q : Int)) (mN84 10 rfl)).trans (en10)) (show 0 ≤ 6 ∧ 6 < n10 from q_3092 h4 r9) (fun v91 ev91 qv91 => ?_)
                  have ev91 : (w10) (6) = v91 := (congrFun ((funext (mA84 10 rfl)).trans (ew10)) (6)).symm.trans ev91
                  refine Ew_of (pcₚ := 192) (fun _ => x_bipush (z := 8) rfl (by decide)) ?_
                  refine w_ishlA rfl (fun z92 gz92 => ?_)
                  refine Ew_of (pcₚ := 196) (fun _ => x_sipush (z := 254) rfl (by decide)) ?_
                  refine w_ior rfl (fun z93 gz93 => ?_)
                  refine w_i2l rfl (show inr (z93) from gz93) ?_
                  refine Ew_of (pcₚ := 199) (fun _ => x_iconst rfl) ?_
                  refine v_inv H (o := 1) rfl rfl rfl rfl rfl rfl (by rfl) (C160 (D := puc 1537 D84) (N := puc 1537 N84) (HW_subc H oz_D8cls_56 oz_D8cls_62) (pf84_1_0) (m84_2) ((congrArg (fun q : Nat => (q : Int)) (eN84 3)).trans em84_2) (y84_1_1) (((eF84 1 1).trans ey84_1_1)) (show inrJ (z93) from q_428 gz93) (show inr (4) from q_2) (show 0 ≤ (y84_1_1) ∧ (y84_1_1) ≤ (m84_2) ∧ (m84_2) ≤ 65536 from pz84_0) (fun σ94 D94ₚ N94ₚ F94ₚ A94ₚ c94 s94 Hₚ Oₚ hD94 hN94 hS94 hA94 pm94_1 m94_1 em94_1 y94_0_1 ey94_0_1 pz94_0 pz94_1 => ⟨rfl, ?_⟩))
                  refine v_backMc (c := (((c_51 + c52) + c57) + c84)) (s := (((s_51 + s52) + s57) + s84)) H oz_D8cls_56 oz_D8cls_62 Hₚ Oₚ hD94 oz_D8cls_44 (fun D94 N94 F94 A94 H Oₚ eD94 eN94 eF94 eA94 => ?_)
                  have O := OUT_trans O Oₚ
                  -- Row.addNumber
                  have cF94 : SF oz_D8clsl_16 F F94 := SF_trans (cF84) (SF_gluc (ι := oz_D8clsl_18) oz_D8cls_62 hS94 eF94 (by decide +kernel)) (any_sub (lₚ := [(1, 0), (1, 1), (1, 2)]) (by decide +kernel))
                  have mF94 := SFm_of cF94 oz_D8cls_60
                  have cA94 : SA oz_D8clsl_17 A A94 := SA_trans (cA84) (SA_gluc (ι := oz_D8clsl_18) oz_D8cls_62 hA94 eA94 (by decide +kernel)) (any_subA (lₚ := [3]) (by decide +kernel))
                  have mA94 := SAm_of cA94 oz_D8cls_61
                  have cD94 : SD oz_D8clsl_17 D D94 := SD_trans (cD84) (SD_gluc (ι := oz_D8clsl_18) oz_D8cls_62 hD94 eD94 (by decide +kernel)) (any_subA (lₚ := [3]) (by decide +kernel))
                  have mD94 := SDm_of cD94 oz_D8cls_61
                  have cN94 : SD oz_D8clsl_17 N N94 := SD_trans (cN84) (SD_gluc (ι := oz_D8clsl_18) oz_D8cls_62 hN94 eN94 (by decide +kernel)) (any_subA (lₚ := [3]) (by decide +kernel))
                  have mN94 := SDm_of cN94 oz_D8cls_61
                  have pf94_1_0 : F94 1 0 = (D94 3 : Int) := (eF94 1 0).trans (pm94_1.trans (congrArg (fun q : Nat => (q : Int)) (eD94 3).symm))
                  have pf94_5_1 : F94 5 1 = (D94 13 : Int) := ((show F94 5 1 = F84 5 1 from (eF94 5 1))).trans ((pf84_5_1).trans (congrArg (fun q : Nat => (q : Int)) ((show D94 13 = D84 13 from (eD94 13))).symm))
                  have pf94_5_2 : F94 5 2 = (D94 14 : Int) := ((show F94 5 2 = F84 5 2 from (eF94 5 2))).trans ((pf84_5_2).trans (congrArg (fun q : Nat => (q : Int)) ((show D94 14 = D84 14 from (eD94 14))).symm))
                  have pf94_5_3 : F94 5 3 = (D94 15 : Int) := ((show F94 5 3 = F84 5 3 from (eF94 5 3))).trans ((pf84_5_3).trans (congrArg (fun q : Nat => (q : Int)) ((show D94 15 = D84 15 from (eD94 15))).symm))
                  have pf94_5_7 : F94 5 7 = (D94 11 : Int) := ((show F94 5 7 = F84 5 7 from (eF94 5 7))).trans ((pf84_5_7).trans (congrArg (fun q : Nat => (q : Int)) ((show D94 11 = D84 11 from (eD94 11))).symm))
                  have pf94_5_8 : F94 5 8 = (D94 12 : Int) := ((show F94 5 8 = F84 5 8 from (eF94 5 8))).trans ((pf84_5_8).trans (congrArg (fun q : Nat => (q : Int)) ((show D94 12 = D84 12 from (eD94 12))).symm))
                  have pf94_6_0 : F94 6 0 = (D94 7 : Int) := ((show F94 6 0 = F84 6 0 from (eF94 6 0))).trans ((pf84_6_0).trans (congrArg (fun q : Nat => (q : Int)) ((show D94 7 = D84 7 from (eD94 7))).symm))
                  have pf94_8_0 : F94 8 0 = (D94 9 : Int) := ((show F94 8 0 = F84 8 0 from (eF94 8 0))).trans ((pf84_8_0).trans (congrArg (fun q : Nat => (q : Int)) ((show D94 9 = D84 9 from (eD94 9))).symm))
                  have r95 : (0 : Int) ≤ m94_1 ∧ m94_1 ≤ 1000000 := nleE (H.nle 3 (ltn len_V201_Row_Row_oz_D8cls rfl)) (show (N94 3 : Int) = m94_1 from (congrArg (fun q : Nat => (q : Int)) (eN94 3)).trans em94_1)
                  have r96 : (-2147483648 : Int) ≤ y94_0_1 ∧ y94_0_1 ≤ 2147483647 := rngE (show (-2147483648 : Int) ≤ F94 1 1 ∧ F94 1 1 ≤ 2147483647 from H.krg 1 1 (ltn len_V201_Row_Row_oz_D8cls rfl)) (show F94 1 1 = y94_0_1 from ((eF94 1 1).trans ey94_0_1))
                  refine Ew_of (pcₚ := 203) (fun _ => x_aload_n rfl lc169_1) ?_
                  refine Ew_of (pcₚ := 204) (fun _ => x_iconst rfl) ?_
                  refine Ew_of (pcₚ := 205) (fun _ => x_aload_n rfl lc169_0) ?_
                  refine Ew_stk (show ([.ref (D57 0), I (0), .ref (D57 1)] : List Value) = [.ref (D94 0), I (0), .ref (D94 1)] by rw [show D94 0 = D57 0 from (((show D94 0 = D84 0 from (eD94 0))).trans ((show D84 0 = D57 0 from (eD84 0).trans (hD84 0 rfl)))), show D94 1 = D57 1 from (((show D94 1 = D84 1 from (eD94 1).trans (hD94 0 rfl))).trans ((show D84 1 = D57 1 from (eD84 1).trans (hD84 1 rfl))))]) ?_
                  refine v_g H (o := 0) (v := .ref (D94 10)) rfl rfl rfl rfl rfl (vrf ((mF94 0 0 rfl).trans ((pf10).trans (congrArg (fun q : Nat => (q : Int)) (mD94 10 rfl).symm)))) ?_
                  refine Ew_of (pcₚ := 210) (fun _ => x_bipush (z := 6) rfl (by decide)) ?_
                  refine v_lI H (o := 10) rfl rfl rfl rfl (n := n10) ((congrArg (fun q : Nat => (q : Int)) (mN94 10 rfl)).trans (en10)) (show 0 ≤ 6 ∧ 6 < n10 from q_3092 h4 r9) (fun v97 ev97 qv97 => ?_)
                  have ev97 : (w10) (6) = v97 := (congrFun ((funext (mA94 10 rfl)).trans (ew10)) (6)).symm.trans ev97
                  refine v_inv H (o := 1) rfl rfl rfl rfl rfl rfl (by rfl) (C162 (D := puc 1537 D94) (N := puc 1537 N94) (HW_subc H oz_D8cls_57 oz_D8cls_62) (pf94_1_0) (m94_1) ((congrArg (fun q : Nat => (q : Int)) (eN94 3)).trans em94_1) (y94_0_1) (((eF94 1 1).trans ey94_0_1)) (show inr (0) from q_20) (show inr (v97) from qv97) (show 0 ≤ (y94_0_1) ∧ (y94_0_1) ≤ (m94_1) ∧ (m94_1) ≤ 65536 from pz94_0) (fun σ98 D98ₚ N98ₚ F98ₚ A98ₚ c98 s98 Hₚ Oₚ hD98 hN98 hS98 hA98 pm98_1 m98_1 em98_1 y98_0_1 ey98_0_1 pz98_0 pz98_1 => ⟨rfl, ?_⟩))
                  refine v_backMc (c := ((((c_51 + c52) + c57) + c84) + c94)) (s := ((((s_51 + s52) + s57) + s84) + s94)) H oz_D8cls_57 oz_D8cls_62 Hₚ Oₚ hD98 oz_D8cls_44 (fun D98 N98 F98 A98 H Oₚ eD98 eN98 eF98 eA98 => ?_)
                  have O := OUT_trans O Oₚ
                  -- Row.addSame
                  have cF98 : SF oz_D8clsl_16 F F98 := SF_trans (cF94) (SF_gluc (ι := oz_D8clsl_18) oz_D8cls_62 hS98 eF98 (by decide +kernel)) (any_sub (lₚ := [(1, 0), (1, 1), (1, 2)]) (by decide +kernel))
                  have mF98 := SFm_of cF98 oz_D8cls_60
                  have cA98 : SA oz_D8clsl_17 A A98 := SA_trans (cA94) (SA_gluc (ι := oz_D8clsl_18) oz_D8cls_62 hA98 eA98 (by decide +kernel)) (any_subA (lₚ := [3]) (by decide +kernel))
                  have mA98 := SAm_of cA98 oz_D8cls_61
                  have cD98 : SD oz_D8clsl_17 D D98 := SD_trans (cD94) (SD_gluc (ι := oz_D8clsl_18) oz_D8cls_62 hD98 eD98 (by decide +kernel)) (any_subA (lₚ := [3]) (by decide +kernel))
                  have mD98 := SDm_of cD98 oz_D8cls_61
                  have cN98 : SD oz_D8clsl_17 N N98 := SD_trans (cN94) (SD_gluc (ι := oz_D8clsl_18) oz_D8cls_62 hN98 eN98 (by decide +kernel)) (any_subA (lₚ := [3]) (by decide +kernel))
                  have mN98 := SDm_of cN98 oz_D8cls_61
                  have pf98_1_0 : F98 1 0 = (D98 3 : Int) := (eF98 1 0).trans (pm98_1.trans (congrArg (fun q : Nat => (q : Int)) (eD98 3).symm))
                  have pf98_5_1 : F98 5 1 = (D98 13 : Int) := ((show F98 5 1 = F94 5 1 from (eF98 5 1))).trans ((pf94_5_1).trans (congrArg (fun q : Nat => (q : Int)) ((show D98 13 = D94 13 from (eD98 13))).symm))
                  have pf98_5_2 : F98 5 2 = (D98 14 : Int) := ((show F98 5 2 = F94 5 2 from (eF98 5 2))).trans ((pf94_5_2).trans (congrArg (fun q : Nat => (q : Int)) ((show D98 14 = D94 14 from (eD98 14))).symm))
                  have pf98_5_3 : F98 5 3 = (D98 15 : Int) := ((show F98 5 3 = F94 5 3 from (eF98 5 3))).trans ((pf94_5_3).trans (congrArg (fun q : Nat => (q : Int)) ((show D98 15 = D94 15 from (eD98 15))).symm))
                  have pf98_5_7 : F98 5 7 = (D98 11 : Int) := ((show F98 5 7 = F94 5 7 from (eF98 5 7))).trans ((pf94_5_7).trans (congrArg (fun q : Nat => (q : Int)) ((show D98 11 = D94 11 from (eD98 11))).symm))
                  have pf98_5_8 : F98 5 8 = (D98 12 : Int) := ((show F98 5 8 = F94 5 8 from (eF98 5 8))).trans ((pf94_5_8).trans (congrArg (fun q : Nat => (q : Int)) ((show D98 12 = D94 12 from (eD98 12))).symm))
                  have pf98_6_0 : F98 6 0 = (D98 7 : Int) := ((show F98 6 0 = F94 6 0 from (eF98 6 0))).trans ((pf94_6_0).trans (congrArg (fun q : Nat => (q : Int)) ((show D98 7 = D94 7 from (eD98 7))).symm))
                  have pf98_8_0 : F98 8 0 = (D98 9 : Int) := ((show F98 8 0 = F94 8 0 from (eF98 8 0))).trans ((pf94_8_0).trans (congrArg (fun q : Nat => (q : Int)) ((show D98 9 = D94 9 from (eD98 9))).symm))
                  have r99 : (0 : Int) ≤ m98_1 ∧ m98_1 ≤ 1000000 := nleE (H.nle 3 (ltn len_V201_Row_Row_oz_D8cls rfl)) (show (N98 3 : Int) = m98_1 from (congrArg (fun q : Nat => (q : Int)) (eN98 3)).trans em98_1)
                  have r100 : (-2147483648 : Int) ≤ y98_0_1 ∧ y98_0_1 ≤ 2147483647 := rngE (show (-2147483648 : Int) ≤ F98 1 1 ∧ F98 1 1 ≤ 2147483647 from H.krg 1 1 (ltn len_V201_Row_Row_oz_D8cls rfl)) (show F98 1 1 = y98_0_1 from ((eF98 1 1).trans ey98_0_1))
                  exact hc214  _ _ _ _ _ _ _ _  ((lc169_0).trans (congrArg (fun q : Nat => some (Value.ref q)) (((((show D98 0 = D94 0 from (eD98 0))).trans ((show D94 0 = D84 0 from (eD94 0)))).trans ((show D84 0 = D57 0 from (eD84 0).trans (hD84 0 rfl))))).symm)) ((lc169_1).trans (congrArg (fun q : Nat => some (Value.ref q)) (((((show D98 1 = D94 1 from (eD98 1).trans (hD98 0 rfl))).trans ((show D94 1 = D84 1 from (eD94 1).trans (hD94 0 rfl)))).trans ((show D84 1 = D57 1 from (eD84 1).trans (hD84 1 rfl))))).symm)) ((lc169_2).trans (congrArg (fun q : Nat => some (Value.ref q)) (((((show D98 2 = D94 2 from (eD98 2))).trans ((show D94 2 = D84 2 from (eD94 2)))).trans ((show D84 2 = D57 2 from (eD84 2))))).symm)) ((lc169_3).trans (congrArg (fun q : Nat => some (Value.ref q)) (((((show D98 6 = D94 6 from (eD98 6))).trans ((show D94 6 = D84 6 from (eD94 6)))).trans ((show D84 6 = D57 6 from (eD84 6).trans (hD84 4 rfl))))).symm)) (lc169_4) (lc169_5) H O (SD_trans (SD_trans (SD_refl) (SD_gluc (ι := oz_D8clsl_18) oz_D8cls_62 hD94 eD94 (by decide +kernel)) (any_subA (lₚ := [3]) (by decide +kernel))) (SD_gluc (ι := oz_D8clsl_18) oz_D8cls_62 hD98 eD98 (by decide +kernel)) (any_subA (lₚ := [3]) (by decide +kernel))) (SD_trans (SD_trans (SD_refl) (SD_gluc (ι := oz_D8clsl_18) oz_D8cls_62 hN94 eN94 (by decide +kernel)) (any_subA (lₚ := [3]) (by decide +kernel))) (SD_gluc (ι := oz_D8clsl_18) oz_D8cls_62 hN98 eN98 (by decide +kernel)) (any_subA (lₚ := [3]) (by decide +kernel))) (SF_trans (SF_trans (SF_refl) (SF_gluc (ι := oz_D8clsl_18) oz_D8cls_62 hS94 eF94 (by decide +kernel)) (any_sub (lₚ := [(1, 0), (1, 1), (1, 2)]) (by decide +kernel))) (SF_gluc (ι := oz_D8clsl_18) oz_D8cls_62 hS98 eF98 (by decide +kernel)) (any_sub (lₚ := [(1, 0), (1, 1), (1, 2)]) (by decide +kernel))) (SA_trans (SA_trans (SA_refl) (SA_gluc (ι := oz_D8clsl_18) oz_D8cls_62 hA94 eA94 (by decide +kernel)) (any_subA (lₚ := [3]) (by decide +kernel))) (SA_gluc (ι := oz_D8clsl_18) oz_D8cls_62 hA98 eA98 (by decide +kernel)) (any_subA (lₚ := [3]) (by decide +kernel))) (pf98_1_0) (m98_1) ((congrArg (fun q : Nat => (q : Int)) (eN98 3)).trans em98_1) (y98_0_1) (((eF98 1 1).trans ey98_0_1))  (show 0 ≤ (y98_0_1) ∧ (y98_0_1) ≤ (m98_1) ∧ (m98_1) ≤ 65536 from pz98_0)
              refine w_ifeq (t := 168) rfl rfl (show inr (tc142_0) from jc142_0) (fun b101 => ?_) (fun b101 => ?_)
              · refine Ew_of (pcₚ := 169) (fun _ => x_iconst rfl) ?_
                exact hc169 (0) _ _ _ _  (rk_o (lc142_0) rfl rfl) (rk_o (lc142_1) rfl rfl) (rk_o (lc142_2) rfl rfl) (rk_o (lc142_3) rfl rfl) (rk_o (lc142_4) rfl rfl) (rk_o (lc142_5) rfl rfl) H O (SF_refl) (SA_refl)     (show inr (0) from q_20) (show ((tc142_0) = (0) ∧ (0) = (0)) ∨ ((tc142_0) ≠ (0) ∧ (0) = (1)) from q_654 b101)
              · refine Ew_of (pcₚ := 165) (fun _ => x_iconst rfl) ?_
                refine Ew_of (pcₚ := 169) (fun _ => x_goto rfl rfl) ?_
                exact hc169 (1) _ _ _ _  (rk_o (lc142_0) rfl rfl) (rk_o (lc142_1) rfl rfl) (rk_o (lc142_2) rfl rfl) (rk_o (lc142_3) rfl rfl) (rk_o (lc142_4) rfl rfl) (rk_o (lc142_5) rfl rfl) H O (SF_refl) (SA_refl)     (show inr (1) from q_23) (show ((tc142_0) = (0) ∧ (1) = (0)) ∨ ((tc142_0) ≠ (0) ∧ (1) = (1)) from q_655 b101)
          refine w_icmplt (t := 141) rfl rfl (show inr (y57_1_1) from q_884 pz57_0) (show inr (z47) from q_3083 hl6) (fun b102 => ?_) (fun b102 => ?_)
          · refine Ew_of (pcₚ := 142) (fun _ => x_iconst rfl) ?_
            exact hc142 (0) _ _ _ _  ((rk_o (l51_0) rfl rfl).trans (congrArg (fun q : Nat => some (Value.ref q)) ((((show D57 0 = D52 0 from (eD57 0).trans (hD57 0 rfl))).trans ((show D52 0 = D_51 0 from (eD52 0))))).symm)) ((rk_o (l51_1) rfl rfl).trans (congrArg (fun q : Nat => some (Value.ref q)) ((((show D57 1 = D52 1 from (eD57 1))).trans ((show D52 1 = D_51 1 from (eD52 1))))).symm)) ((rk_o (l51_2) rfl rfl).trans (congrArg (fun q : Nat => some (Value.ref q)) ((((show D57 2 = D52 2 from (eD57 2))).trans ((show D52 2 = D_51 2 from (eD52 2))))).symm)) ((rk_o (l51_3) rfl rfl).trans (congrArg (fun q : Nat => some (Value.ref q)) ((((show D57 6 = D52 6 from (eD57 6).trans (hD57 4 rfl))).trans ((show D52 6 = D_51 6 from (eD52 6).trans (hD52 0 rfl))))).symm)) (rk_o (l51_4) rfl rfl) (rk_o (l51_5) rfl rfl) H O (SF_refl) (SA_refl)     (show inr (0) from q_20) (show ((y57_1_1) < (z47) ∧ (0) = (0)) ∨ ((y57_1_1) ≥ (z47) ∧ (0) = (1)) from q_3093 b102)
          · refine Ew_of (pcₚ := 138) (fun _ => x_iconst rfl) ?_
            refine Ew_of (pcₚ := 142) (fun _ => x_goto rfl rfl) ?_
            exact hc142 (1) _ _ _ _  ((rk_o (l51_0) rfl rfl).trans (congrArg (fun q : Nat => some (Value.ref q)) ((((show D57 0 = D52 0 from (eD57 0).trans (hD57 0 rfl))).trans ((show D52 0 = D_51 0 from (eD52 0))))).symm)) ((rk_o (l51_1) rfl rfl).trans (congrArg (fun q : Nat => some (Value.ref q)) ((((show D57 1 = D52 1 from (eD57 1))).trans ((show D52 1 = D_51 1 from (eD52 1))))).symm)) ((rk_o (l51_2) rfl rfl).trans (congrArg (fun q : Nat => some (Value.ref q)) ((((show D57 2 = D52 2 from (eD57 2))).trans ((show D52 2 = D_51 2 from (eD52 2))))).symm)) ((rk_o (l51_3) rfl rfl).trans (congrArg (fun q : Nat => some (Value.ref q)) ((((show D57 6 = D52 6 from (eD57 6).trans (hD57 4 rfl))).trans ((show D52 6 = D_51 6 from (eD52 6).trans (hD52 0 rfl))))).symm)) (rk_o (l51_4) rfl rfl) (rk_o (l51_5) rfl rfl) H O (SF_refl) (SA_refl)     (show inr (1) from q_23) (show ((y57_1_1) < (z47) ∧ (1) = (0)) ∨ ((y57_1_1) ≥ (z47) ∧ (1) = (1)) from q_3094 b102)
