abbrev V161_S0 : vV := [(0, 7, [(4, 0), (0, 0), (1, 0), (0, 0), (0, 0)]), (1, 0, [])]
theorem len_V161_S0_oz_D8cls : (V161_S0).length = 2 := by decide +kernel
theorem oz_D8cls_1 : vsub V161_S0 V157 [0, 1] = true := by decide +kernel
theorem oz_D8cls_2 : vmov V161_S0 [0, 1] [1] = true := by decide +kernel
def oz_D8clsl_0 : List (Nat × Nat) := [(0, 0), (0, 1), (0, 2)]
theorem oz_D8cls_3 : (oz_D8clsl_0).all (fun p => !tbz 7 (Nat.add (Nat.mul 32 p.1) p.2)) = true := by decide +kernel
def oz_D8clsl_1 : List Nat := [1]
theorem oz_D8cls_4 : (oz_D8clsl_1).all (fun p => !tbz 2 p) = true := by decide +kernel
def oz_D8clsl_2 : List Nat := [0, 1]
theorem oz_D8cls_5 : okc oz_D8clsl_2 512 = true := by decide +kernel

theorem C161_S0 {σE : rS} {D N : Nat → Nat} {F : hF} {A : hA} {d c s : Nat} {Q : wQ} (H : HW V161_S0 σE D N F A) (HT : STC σE) {a2 a3 : Int} (pf1 : F 0 0 = (D 1 : Int)) (n1 : Int) (en1 : (N 1 : Int) = n1) (u0_1 : Int) (eu0_1 : F 0 1 = u0_1) (u0_2 : Int) (eu0_2 : F 0 2 = u0_2) (w1 : Int → Int) (ew1 : A 1 = w1) (h0 : inr (a2)) (h1 : inr (a3)) (h2 : 0 ≤ (u0_1) ∧ (u0_1) ≤ (n1) ∧ (n1) ≤ 65536) (h3 : (a3) < 0 ∨ 0 ≤ (a2) ∧ (a2) + (a3) ≤ 10) (k : ∀ (σ : rS) (Dₚ Nₚ : Nat → Nat) (Fₚ : hF) (Aₚ : hA) (cₚ sₚ : Nat), HW V161_S0 σ Dₚ Nₚ Fₚ Aₚ → OUT (V161_S0).length D N σE c s Dₚ Nₚ σ cₚ sₚ → SD [1] D Dₚ → SD [1] N Nₚ → SF [(0, 0), (0, 1), (0, 2)] F Fₚ → SA [1] A Aₚ → Fₚ 0 0 = (Dₚ 1 : Int) → ∀ m1 : Int, (Nₚ 1 : Int) = m1 → ∀ y0_1 : Int, Fₚ 0 1 = y0_1 → ∀ y0_2 : Int, Fₚ 0 2 = y0_2 → ∀ v1 : Int → Int, Aₚ 1 = v1 → (0 ≤ (y0_1) ∧ (y0_1) ≤ (m1) ∧ (m1) ≤ 65536) → ((y0_1) = (u0_1) + (a3) ∧ 0 ≤ (a3) ∨ (y0_1) = (u0_1) ∧ ((a3) < 0 ∨ 65536 < (u0_1) + (a3))) → (∀ i, (0 : Int) ≤ i → i < (u0_1) → ((v1)) i = ((w1)) i) → (IMP ((0 : Int) ≤ (a3)) (RAP ((u0_2)) ((w1)) ((u0_1)) ((y0_2)) ((v1)) ((y0_1)) (sc ((stf 0)) ((a2)) ((a2) + (a3))))) → Q none σ cₚ sₚ) : Ew 161 (d + 2) 0 (rargs 0 [.ref (D 0), .ref 0, I a2, I a3]) [] σE c s Q := by
  have O := OUT_refl (n := (V161_S0).length) (D := D) (N := N) (σ := σE) (c := c) (s := s)
  have HE := H
  have r1 : (-2147483648 : Int) ≤ u0_1 ∧ u0_1 ≤ 2147483647 := rngE (show (-2147483648 : Int) ≤ F 0 1 ∧ F 0 1 ≤ 2147483647 from H.krg 0 1 (ltn len_V161_S0_oz_D8cls rfl)) (show F 0 1 = u0_1 from (eu0_1))
  have r2 : (0 : Int) ≤ u0_2 ∧ u0_2 ≤ 1 := rngE (show (0 : Int) ≤ F 0 2 ∧ F 0 2 ≤ 1 from H.krg 0 2 (ltn len_V161_S0_oz_D8cls rfl)) (show F 0 2 = u0_2 from (eu0_2))
  have r3 : (0 : Int) ≤ n1 ∧ n1 ≤ 1000000 := nleE (H.nle 1 (ltn len_V161_S0_oz_D8cls rfl)) (show (N 1 : Int) = n1 from en1)
  refine Ew_of (pcₚ := 1) (fun _ => x_aload_n rfl rfl) ?_
  refine Ew_of (pcₚ := 2) (fun _ => x_iload_n rfl rfl) ?_
  refine v_inv H (o := 0) rfl rfl rfl rfl rfl rfl (by rfl) (C157 (D := puc 512 D) (N := puc 512 N) (HW_subc H oz_D8cls_1 oz_D8cls_5) (pf1) (n1) (en1) (u0_1) ((eu0_1)) (w1) (ew1) (show inr (a3) from h1) (show 0 ≤ (u0_1) ∧ (u0_1) ≤ (n1) ∧ (n1) ≤ 65536 from h2) (fun z4 σ4 D4ₚ N4ₚ F4ₚ A4ₚ c4 s4 Hₚ Oₚ hD4 hN4 hS4 hA4 pm4_1 m4_1 em4_1 w4_1 ew4_1 pz4_0 pz4_1 pz4_2 pz4_3 pz4_4 => ⟨rretB rfl pz4_0, ?_⟩))
  refine v_backMc (c := c) (s := s) H oz_D8cls_1 oz_D8cls_5 Hₚ Oₚ hD4 oz_D8cls_2 (fun D4 N4 F4 A4 H Oₚ eD4 eN4 eF4 eA4 => ?_)
  have O := OUT_trans O Oₚ
  -- Row.reserve
  have cF4 : SF oz_D8clsl_0 F F4 := SF_trans (SF_refl) (SF_gluc (ι := oz_D8clsl_2) oz_D8cls_5 hS4 eF4 (by decide +kernel)) (any_sub (lₚ := [(0, 0)]) (by decide +kernel))
  have mF4 := SFm_of cF4 oz_D8cls_3
  have cA4 : SA oz_D8clsl_1 A A4 := SA_trans (SA_refl) (SA_gluc (ι := oz_D8clsl_2) oz_D8cls_5 hA4 eA4 (by decide +kernel)) (any_subA (lₚ := [1]) (by decide +kernel))
  have mA4 := SAm_of cA4 oz_D8cls_4
  have cD4 : SD oz_D8clsl_1 D D4 := SD_trans (SD_refl) (SD_gluc (ι := oz_D8clsl_2) oz_D8cls_5 hD4 eD4 (by decide +kernel)) (any_subA (lₚ := [1]) (by decide +kernel))
  have mD4 := SDm_of cD4 oz_D8cls_4
  have cN4 : SD oz_D8clsl_1 N N4 := SD_trans (SD_refl) (SD_gluc (ι := oz_D8clsl_2) oz_D8cls_5 hN4 eN4 (by decide +kernel)) (any_subA (lₚ := [1]) (by decide +kernel))
  have mN4 := SDm_of cN4 oz_D8cls_4
  have pf4_0_0 : F4 0 0 = (D4 1 : Int) := (eF4 0 0).trans (pm4_1.trans (congrArg (fun q : Nat => (q : Int)) (eD4 1).symm))
  have r5 : (0 : Int) ≤ m4_1 ∧ m4_1 ≤ 1000000 := nleE (H.nle 1 (ltn len_V161_S0_oz_D8cls rfl)) (show (N4 1 : Int) = m4_1 from (congrArg (fun q : Nat => (q : Int)) (eN4 1)).trans em4_1)
  have hsr := pz4_4
  refine w_ifne (t := 14) rfl rfl (show inr (z4) from q_138 pz4_0) (fun b6 => ?_) (fun b6 => ?_)
  · refine Ew_of (pcₚ := 15) (fun _ => x_aload_n rfl rfl) ?_
    refine Ew_of (pcₚ := 16) (fun _ => x_iload_n rfl rfl) ?_
    refine Ew_of (pcₚ := 17) (fun _ => x_aload_n rfl rfl) ?_
    refine Ew_stk (congrArg (fun qz : Nat => ([.ref qz, I (a2), .ref 0] : List Value)) (show D4 0 = D 0 from mD4 0 rfl).symm) ?_
    refine v_g H (o := 0) (v := .ref (D4 1)) rfl rfl rfl rfl rfl (vrf (pf4_0_0)) ?_
    refine Ew_of (pcₚ := 21) (fun _ => x_aload_n rfl rfl) ?_
    refine Ew_stk (congrArg (fun qz : Nat => ([.ref qz, .ref (D4 1), I (a2), .ref 0] : List Value)) (show D4 0 = D 0 from mD4 0 rfl).symm) ?_
    refine v_g H (o := 0) (v := I (u0_1)) rfl rfl rfl rfl rfl (congrArg (fun z : Int => I z) ((((show F4 0 1 = F 0 1 from (eF4 0 1).trans (hS4 0 1 rfl))).trans (eu0_1)) : F4 0 1 = u0_1)) ?_
    refine Ew_of (pcₚ := 25) (fun _ => x_iload_n rfl rfl) ?_
    refine v_cpyS H (STC_out HT HE O) (t := 1) (b0 := 0) rfl rfl rfl rfl rfl rfl (n := m4_1) ((congrArg (fun q : Nat => (q : Int)) (eN4 1)).trans em4_1) (show 0 ≤ a3 ∧ 0 ≤ u0_1 ∧ 0 ≤ a2 ∧ a2 + a3 ≤ ((stl 0).length : Int) ∧ u0_1 + a3 ≤ m4_1 by rw [show (((stl 0).length : Nat) : Int) = 10 from rfl]; omega) (fun σ A7 H Oₚ hA7 ga7 gb7 => ?_)
    have gb7 : ∀ i, i < u0_1 ∨ u0_1 + a3 ≤ i → A7 1 i = (w4_1) i := fun i a => (gb7 i a).trans (congrFun ((eA4 1).trans ew4_1) i)
    have O := OUT_trans O Oₚ
    have cA7 : SA oz_D8clsl_1 A A7 := SA_trans (cA4) hA7 (any_subA (by decide +kernel))
    have mA7 := SAm_of cA7 oz_D8cls_4
    have hsm : ∀ i, (0 : Int) ≤ i → i < (u0_1) → ((A7 1)) i = ((w1)) i := fun i a b => (gb7 i (by omega)).trans (hsr i a b)
    have hcq := ga7
    refine Ew_of (pcₚ := 29) (fun _ => x_aload_n rfl rfl) ?_
    refine Ew_of (pcₚ := 30) (fun _ => x_dup rfl rfl) ?_
    refine Ew_stk (show ([.ref (D 0), .ref (D 0)] : List Value) = [.ref (D4 0), .ref (D4 0)] by rw [show D4 0 = D 0 from mD4 0 rfl]) ?_
    refine v_g H (o := 0) (v := I (u0_1)) rfl rfl rfl rfl rfl (congrArg (fun z : Int => I z) ((((show F4 0 1 = F 0 1 from (eF4 0 1).trans (hS4 0 1 rfl))).trans (eu0_1)) : F4 0 1 = u0_1)) ?_
    refine Ew_of (pcₚ := 34) (fun _ => x_iload_n rfl rfl) ?_
    refine w_iadd rfl ?_
    refine v_p H (o := 0) (z := (u0_1 + a3)) (v := I ((u0_1 + a3))) rfl rfl rfl rfl rfl rfl rfl rfl (show (-2147483648 : Int) ≤ (u0_1 + a3) ∧ (u0_1 + a3) ≤ 2147483647 from q_3469 h1 h3 pz4_1 pz4_2 r5) (fun σ H Oₚ => ?_)
    have O := OUT_trans O Oₚ
    have cFu8 : SF oz_D8clsl_0 F (updF F4 0 1 ((u0_1 + a3))) := SF_upd (cF4) rfl
    have mFu8 := SFm_of cFu8 oz_D8cls_3
    have : IMP ((0 : Int) ≤ (a3)) (RAP ((u0_2)) ((w1)) ((u0_1)) ((u0_2)) ((A7 1)) (((u0_1 + a3))) (sc ((stf 0)) ((a2)) ((a2) + (a3)))) := fun _ => RAP_part (by omega) (by omega) hsm (sc_shift (fun k a b => by rw [hcq _ (by omega) (by omega), show (a2) + ((u0_1) + k - (u0_1)) = (a2) + k by omega]))
    exact w_ret rfl (k _ _ _ _ _ _ _ H O (cD4) (cN4) (cFu8) (cA7) (pf4_0_0) (m4_1) ((congrArg (fun q : Nat => (q : Int)) (eN4 1)).trans em4_1) ((u0_1 + a3)) (rfl) (u0_2) ((((show F4 0 2 = F 0 2 from (eF4 0 2).trans (hS4 0 2 rfl))).trans (eu0_2))) (A7 1) (rfl) (show 0 ≤ ((u0_1 + a3)) ∧ ((u0_1 + a3)) ≤ (m4_1) ∧ (m4_1) ≤ 65536 by omega) (show ((u0_1 + a3)) = (u0_1) + a3 ∧ 0 ≤ a3 ∨ ((u0_1 + a3)) = (u0_1) ∧ (a3 < 0 ∨ 65536 < (u0_1) + a3) by omega) (hsm) (show IMP ((0 : Int) ≤ a3) (RAP ((u0_2)) ((w1)) ((u0_1)) ((u0_2)) ((A7 1)) (((u0_1 + a3))) (sc ((stf 0)) (a2) (a2 + a3))) by assumption))
  · refine Ew_of (pcₚ := 9) (fun _ => x_aload_n rfl rfl) ?_
    refine Ew_of (pcₚ := 10) (fun _ => x_iconst rfl) ?_
    refine Ew_stk (congrArg (fun qz : Nat => ([I (1), .ref qz] : List Value)) (show D4 0 = D 0 from mD4 0 rfl).symm) ?_
    refine v_p H (o := 0) (z := 1) (v := I (1)) rfl rfl rfl rfl rfl rfl rfl (rfit_b (by omega)) (show (0 : Int) ≤ 1 ∧ 1 ≤ 1 from q_35) (fun σ H Oₚ => ?_)
    have O := OUT_trans O Oₚ
    have cFu9 : SF oz_D8clsl_0 F (updF F4 0 2 (1)) := SF_upd (cF4) rfl
    have mFu9 := SFm_of cFu9 oz_D8cls_3
    have : IMP ((0 : Int) ≤ (a3)) (RAP ((u0_2)) ((w1)) ((u0_1)) ((1)) ((w4_1)) ((u0_1)) (sc ((stf 0)) ((a2)) ((a2) + (a3)))) := fun _ => RAP_burst (by omega) (by rw [sc_lenI (by omega)]; omega)
    exact w_ret rfl (k _ _ _ _ _ _ _ H O (cD4) (cN4) (cFu9) (cA4) (pf4_0_0) (m4_1) ((congrArg (fun q : Nat => (q : Int)) (eN4 1)).trans em4_1) (u0_1) ((((show F4 0 1 = F 0 1 from (eF4 0 1).trans (hS4 0 1 rfl))).trans (eu0_1))) (1) (rfl) (w4_1) ((eA4 1).trans ew4_1) (show 0 ≤ (u0_1) ∧ (u0_1) ≤ (m4_1) ∧ (m4_1) ≤ 65536 from pz4_1) (show (u0_1) = (u0_1) + a3 ∧ 0 ≤ a3 ∨ (u0_1) = (u0_1) ∧ (a3 < 0 ∨ 65536 < (u0_1) + a3) by omega) (show ∀ i, (0 : Int) ≤ i → i < (u0_1) → ((w4_1)) i = ((w1)) i by assumption) (show IMP ((0 : Int) ≤ a3) (RAP ((u0_2)) ((w1)) ((u0_1)) ((1)) ((w4_1)) ((u0_1)) (sc ((stf 0)) (a2) (a2 + a3))) by assumption))
abbrev V196_thispackeda : vV := [(0, 10, [(4, 0), (4, 0), (4, 0), (4, 0), (0, 0), (4, 0), (0, 0), (2, 0), (0, 0)]), (0, 7, [(4, 0), (0, 0), (1, 0), (0, 0), (0, 0)]), (1, 0, []), (0, 5, [(4, 0), (4, 0), (4, 0), (4, 0), (0, 0), (0, 0), (0, 0), (4, 0), (4, 0), (0, 0), (0, 0), (0, 0), (0, 0), (0, 0), (0, 0), (0, 0), (0, 0), (0, 0), (0, 0)]), (0, 7, [(4, 0), (0, 0), (1, 0), (0, 0), (0, 0)]), (1, 0, [])]
theorem len_V196_thispackeda_oz_D8cls : (V196_thispackeda).length = 6 := by decide +kernel
theorem oz_D8cls_7 : vsub V196_thispackeda V161_Br [1, 5, 2] = true := by decide +kernel
theorem oz_D8cls_8 : vmov V196_thispackeda [1, 5, 2] [2] = true := by decide +kernel
theorem oz_D8cls_9 : vsub V196_thispackeda V159 [1, 2] = true := by decide +kernel
theorem oz_D8cls_10 : vmov V196_thispackeda [1, 2] [1] = true := by decide +kernel
theorem oz_D8cls_11 : vsub V196_thispackeda V160 [1, 2] = true := by decide +kernel
def oz_D8clsl_3 : List (Nat × Nat) := [(1, 0), (1, 1), (1, 2)]
theorem oz_D8cls_12 : (oz_D8clsl_3).all (fun p => !tbz 30064771072 (Nat.add (Nat.mul 32 p.1) p.2)) = true := by decide +kernel
def oz_D8clsl_4 : List Nat := [2]
theorem oz_D8cls_13 : (oz_D8clsl_4).all (fun p => !tbz 4 p) = true := by decide +kernel
def oz_D8clsl_5 : List Nat := [1, 5, 2]
theorem oz_D8cls_14 : okc oz_D8clsl_5 526849 = true := by decide +kernel
def oz_D8clsl_6 : List Nat := [1, 2]
theorem oz_D8cls_15 : okc oz_D8clsl_6 1025 = true := by decide +kernel

theorem C196_thispackeda {σE : rS} {D N : Nat → Nat} {F : hF} {A : hA} {d c s : Nat} {Q : wQ} (H : HW V196_thispackeda σE D N F A) {a2 a3 : Int} (pf1 : F 0 2 = (D 1 : Int)) (pf2 : F 1 0 = (D 2 : Int)) (pf3 : F 0 1 = (D 3 : Int)) (pf4 : F 3 0 = (D 4 : Int)) (pf5 : F 4 0 = (D 5 : Int)) (n2 : Int) (en2 : (N 2 : Int) = n2) (n5 : Int) (en5 : (N 5 : Int) = n5) (u1_1 : Int) (eu1_1 : F 1 1 = u1_1) (u1_2 : Int) (eu1_2 : F 1 2 = u1_2) (u4_1 : Int) (eu4_1 : F 4 1 = u4_1) (w2 : Int → Int) (ew2 : A 2 = w2) (w5 : Int → Int) (ew5 : A 5 = w5) (h0 : inr (a2)) (h1 : inr (a3)) (h2 : 0 ≤ (u1_1) ∧ (u1_1) ≤ (n2) ∧ (n2) ≤ 65536) (h3 : 0 ≤ (u4_1) ∧ (u4_1) ≤ (n5) ∧ (n5) ≤ 65536) (h4 : 0 ≤ (a2) ∧ 0 ≤ (a3) ∧ (a2) + (a3) ≤ (n5)) (k : ∀ (σ : rS) (Dₚ Nₚ : Nat → Nat) (Fₚ : hF) (Aₚ : hA) (cₚ sₚ : Nat), HW V196_thispackeda σ Dₚ Nₚ Fₚ Aₚ → OUT (V196_thispackeda).length D N σE c s Dₚ Nₚ σ cₚ sₚ → SD [2] D Dₚ → SD [2] N Nₚ → SF [(1, 0), (1, 1), (1, 2)] F Fₚ → SA [2] A Aₚ → Fₚ 1 0 = (Dₚ 2 : Int) → ∀ m2 : Int, (Nₚ 2 : Int) = m2 → ∀ y1_1 : Int, Fₚ 1 1 = y1_1 → ∀ y1_2 : Int, Fₚ 1 2 = y1_2 → ∀ v2 : Int → Int, Aₚ 2 = v2 → (0 ≤ (y1_1) ∧ (y1_1) ≤ (m2) ∧ (m2) ≤ 65536) → (RAP ((u1_2)) ((w2)) ((u1_1)) ((y1_2)) ((v2)) ((y1_1)) (tgl (sc ((w5)) ((a2)) ((a2) + (a3))))) → Q none σ cₚ sₚ) : Ew 196 (d + 3) 0 (rargs 0 [.ref (D 0), .ref (D 1), I a2, I a3]) [] σE c s Q := by
  have O := OUT_refl (n := (V196_thispackeda).length) (D := D) (N := N) (σ := σE) (c := c) (s := s)
  have HE := H
  have r1 : (-2147483648 : Int) ≤ u1_1 ∧ u1_1 ≤ 2147483647 := rngE (show (-2147483648 : Int) ≤ F 1 1 ∧ F 1 1 ≤ 2147483647 from H.krg 1 1 (ltn len_V196_thispackeda_oz_D8cls rfl)) (show F 1 1 = u1_1 from (eu1_1))
  have r2 : (0 : Int) ≤ u1_2 ∧ u1_2 ≤ 1 := rngE (show (0 : Int) ≤ F 1 2 ∧ F 1 2 ≤ 1 from H.krg 1 2 (ltn len_V196_thispackeda_oz_D8cls rfl)) (show F 1 2 = u1_2 from (eu1_2))
  have r3 : (-2147483648 : Int) ≤ u4_1 ∧ u4_1 ≤ 2147483647 := rngE (show (-2147483648 : Int) ≤ F 4 1 ∧ F 4 1 ≤ 2147483647 from H.krg 4 1 (ltn len_V196_thispackeda_oz_D8cls rfl)) (show F 4 1 = u4_1 from (eu4_1))
  have r4 : (0 : Int) ≤ n2 ∧ n2 ≤ 1000000 := nleE (H.nle 2 (ltn len_V196_thispackeda_oz_D8cls rfl)) (show (N 2 : Int) = n2 from en2)
  have r5 : (0 : Int) ≤ n5 ∧ n5 ≤ 1000000 := nleE (H.nle 5 (ltn len_V196_thispackeda_oz_D8cls rfl)) (show (N 5 : Int) = n5 from en5)
  refine Ew_of (pcₚ := 1) (fun _ => x_iload_n rfl rfl) ?_
  refine w_ifne (t := 5) rfl rfl (show inr (a3) from h1) (fun b6 => ?_) (fun b6 => ?_)
  · refine Ew_of (pcₚ := 6) (fun _ => x_iload_n rfl rfl) ?_
    refine Ew_of (pcₚ := 7) (fun _ => x_iconst rfl) ?_
    refine w_isub rfl ?_
    refine Ew_of (pcₚ := 10) (fun _ => x_istore rfl) ?_
    have hc63 : ∀ (ls : rO) (σ : rS) (D_c63 N_c63 : Nat → Nat) (c_c63 s_c63 : Nat) (F_c63 : hF) (A_c63 : hA) , rlook ls 0 = some (.ref (D_c63 0)) → rlook ls 1 = some (.ref (D_c63 1)) → rlook ls 2 = some (I (a2)) → rlook ls 3 = some (I (a3)) → HW V196_thispackeda σ D_c63 N_c63 F_c63 A_c63 → OUT (V196_thispackeda).length D N σE c s D_c63 N_c63 σ c_c63 s_c63 → SD [2] D D_c63 → SD [2] N N_c63 → SF [(1, 0), (1, 1), (1, 2)] F F_c63 → SA [2] A A_c63 → F_c63 1 0 = (D_c63 2 : Int) → ∀ mc63_2 : Int, (N_c63 2 : Int) = mc63_2 → ∀ yc63_1_1 : Int, F_c63 1 1 = yc63_1_1 → ∀ yc63_1_2 : Int, F_c63 1 2 = yc63_1_2 → ∀ wc63_2 : Int → Int, A_c63 2 = wc63_2 → (0 ≤ (yc63_1_1) ∧ (yc63_1_1) ≤ (mc63_2) ∧ (mc63_2) ≤ 65536) → (RAP ((u1_2)) ((w2)) ((u1_1)) ((yc63_1_2)) ((wc63_2)) ((yc63_1_1)) (tgh ((a3)))) → Ew 196 (d + 3) 63 ls [] σ c_c63 s_c63 Q := by
     as_aux_lemma =>
      intro  ls σ D_c63 N_c63 c_c63 s_c63 F_c63 A_c63  lc63_0 lc63_1 lc63_2 lc63_3 H O hD_c63 hN_c63 hS_c63 hA_c63 pmc63_2 mc63_2 emc63_2 yc63_1_1 eyc63_1_1 yc63_1_2 eyc63_1_2 wc63_2 ewc63_2 jc63_0 jc63_1
      have cF_c63 : SF oz_D8clsl_3 F F_c63 := SF_trans (SF_refl) hS_c63 (any_sub (by decide +kernel))
      have mF_c63 := SFm_of cF_c63 oz_D8cls_12
      have cA_c63 : SA oz_D8clsl_4 A A_c63 := SA_trans (SA_refl) hA_c63 (any_subA (by decide +kernel))
      have mA_c63 := SAm_of cA_c63 oz_D8cls_13
      have cD_c63 : SD oz_D8clsl_4 D D_c63 := SD_trans (SD_refl) hD_c63 (any_subA (by decide +kernel))
      have mD_c63 := SDm_of cD_c63 oz_D8cls_13
      have cN_c63 : SD oz_D8clsl_4 N N_c63 := SD_trans (SD_refl) hN_c63 (any_subA (by decide +kernel))
      have mN_c63 := SDm_of cN_c63 oz_D8cls_13
      have r7 : (0 : Int) ≤ mc63_2 ∧ mc63_2 ≤ 1000000 := nleE (H.nle 2 (ltn len_V196_thispackeda_oz_D8cls rfl)) (show (N_c63 2 : Int) = mc63_2 from emc63_2)
      have r8 : (-2147483648 : Int) ≤ yc63_1_1 ∧ yc63_1_1 ≤ 2147483647 := rngE (show (-2147483648 : Int) ≤ F_c63 1 1 ∧ F_c63 1 1 ≤ 2147483647 from H.krg 1 1 (ltn len_V196_thispackeda_oz_D8cls rfl)) (show F_c63 1 1 = yc63_1_1 from (eyc63_1_1))
      have r9 : (0 : Int) ≤ yc63_1_2 ∧ yc63_1_2 ≤ 1 := rngE (show (0 : Int) ≤ F_c63 1 2 ∧ F_c63 1 2 ≤ 1 from H.krg 1 2 (ltn len_V196_thispackeda_oz_D8cls rfl)) (show F_c63 1 2 = yc63_1_2 from (eyc63_1_2))
      have h63 : RAP ((u1_2)) ((w2)) ((u1_1)) ((yc63_1_2)) ((wc63_2)) ((yc63_1_1)) (tgh ((a3))) := jc63_1
      refine Ew_of (pcₚ := 64) (fun _ => x_aload_n rfl lc63_1) ?_
      refine Ew_of (pcₚ := 65) (fun _ => x_aload_n rfl lc63_0) ?_
      refine v_g H (o := 0) (v := .ref (D_c63 3)) rfl rfl rfl rfl rfl (vrf ((mF_c63 0 1 rfl).trans ((pf3).trans (congrArg (fun q : Nat => (q : Int)) (mD_c63 3 rfl).symm)))) ?_
      refine v_g H (o := 3) (v := .ref (D_c63 4)) rfl rfl rfl rfl rfl (vrf ((mF_c63 3 0 rfl).trans ((pf4).trans (congrArg (fun q : Nat => (q : Int)) (mD_c63 4 rfl).symm)))) ?_
      refine v_g H (o := 4) (v := .ref (D_c63 5)) rfl rfl rfl rfl rfl (vrf ((mF_c63 4 0 rfl).trans ((pf5).trans (congrArg (fun q : Nat => (q : Int)) (mD_c63 5 rfl).symm)))) ?_
      refine Ew_of (pcₚ := 75) (fun _ => x_iload_n rfl lc63_2) ?_
      refine Ew_of (pcₚ := 76) (fun _ => x_iload_n rfl lc63_3) ?_
      refine v_inv H (o := 1) rfl rfl rfl rfl rfl rfl (by rfl) (C161_Br (D := puc 526849 D_c63) (N := puc 526849 N_c63) (HW_subc H oz_D8cls_7 oz_D8cls_14) (pmc63_2) (n5) ((congrArg (fun q : Nat => (q : Int)) (mN_c63 5 rfl)).trans (en5)) (mc63_2) (emc63_2) (yc63_1_1) ((eyc63_1_1)) (yc63_1_2) ((eyc63_1_2)) (w5) ((funext (mA_c63 5 rfl)).trans (ew5)) (wc63_2) (ewc63_2) (show inr (a2) from h0) (show inr (a3) from h1) (show 0 ≤ (yc63_1_1) ∧ (yc63_1_1) ≤ (mc63_2) ∧ (mc63_2) ≤ 65536 from jc63_0) (show (a3) < 0 ∨ 0 ≤ (a2) ∧ (a2) + (a3) ≤ (n5) from q_3065 h4) (fun σ10 D10ₚ N10ₚ F10ₚ A10ₚ c10 s10 Hₚ Oₚ hD10 hN10 hS10 hA10 pm10_2 m10_2 em10_2 y10_0_1 ey10_0_1 y10_0_2 ey10_0_2 w10_2 ew10_2 pz10_0 pz10_1 pz10_2 pz10_3 => ⟨rfl, ?_⟩))
      refine v_backMc (c := c_c63) (s := s_c63) H oz_D8cls_7 oz_D8cls_14 Hₚ Oₚ hD10 oz_D8cls_8 (fun D10 N10 F10 A10 H Oₚ eD10 eN10 eF10 eA10 => ?_)
      have O := OUT_trans O Oₚ
      -- Row.addPart
      have cF10 : SF oz_D8clsl_3 F F10 := SF_trans (cF_c63) (SF_gluc (ι := oz_D8clsl_5) oz_D8cls_14 hS10 eF10 (by decide +kernel)) (any_sub (lₚ := [(1, 0), (1, 1), (1, 2)]) (by decide +kernel))
      have mF10 := SFm_of cF10 oz_D8cls_12
      have cA10 : SA oz_D8clsl_4 A A10 := SA_trans (cA_c63) (SA_gluc (ι := oz_D8clsl_5) oz_D8cls_14 hA10 eA10 (by decide +kernel)) (any_subA (lₚ := [2]) (by decide +kernel))
      have mA10 := SAm_of cA10 oz_D8cls_13
      have cD10 : SD oz_D8clsl_4 D D10 := SD_trans (cD_c63) (SD_gluc (ι := oz_D8clsl_5) oz_D8cls_14 hD10 eD10 (by decide +kernel)) (any_subA (lₚ := [2]) (by decide +kernel))
      have mD10 := SDm_of cD10 oz_D8cls_13
      have cN10 : SD oz_D8clsl_4 N N10 := SD_trans (cN_c63) (SD_gluc (ι := oz_D8clsl_5) oz_D8cls_14 hN10 eN10 (by decide +kernel)) (any_subA (lₚ := [2]) (by decide +kernel))
      have mN10 := SDm_of cN10 oz_D8cls_13
      have pf10_1_0 : F10 1 0 = (D10 2 : Int) := (eF10 1 0).trans (pm10_2.trans (congrArg (fun q : Nat => (q : Int)) (eD10 2).symm))
      have r11 : (0 : Int) ≤ m10_2 ∧ m10_2 ≤ 1000000 := nleE (H.nle 2 (ltn len_V196_thispackeda_oz_D8cls rfl)) (show (N10 2 : Int) = m10_2 from (congrArg (fun q : Nat => (q : Int)) (eN10 2)).trans em10_2)
      have r12 : (-2147483648 : Int) ≤ y10_0_1 ∧ y10_0_1 ≤ 2147483647 := rngE (show (-2147483648 : Int) ≤ F10 1 1 ∧ F10 1 1 ≤ 2147483647 from H.krg 1 1 (ltn len_V196_thispackeda_oz_D8cls rfl)) (show F10 1 1 = y10_0_1 from ((eF10 1 1).trans ey10_0_1))
      have r13 : (0 : Int) ≤ y10_0_2 ∧ y10_0_2 ≤ 1 := rngE (show (0 : Int) ≤ F10 1 2 ∧ F10 1 2 ≤ 1 from H.krg 1 2 (ltn len_V196_thispackeda_oz_D8cls rfl)) (show F10 1 2 = y10_0_2 from ((eF10 1 2).trans ey10_0_2))
      have : RAP ((u1_2)) ((w2)) ((u1_1)) ((y10_0_2)) ((w10_2)) ((y10_0_1)) (tgl (sc ((w5)) ((a2)) ((a2) + (a3)))) := RAP_c (RAP_trans h63 (pz10_3 (by omega))) (tgl_s (by omega) (by omega)).symm
      exact w_ret rfl (k _ _ _ _ _ _ _ H O (cD10) (cN10) (cF10) (cA10) (pf10_1_0) (m10_2) ((congrArg (fun q : Nat => (q : Int)) (eN10 2)).trans em10_2) (y10_0_1) (((eF10 1 1).trans ey10_0_1)) (y10_0_2) (((eF10 1 2).trans ey10_0_2)) (w10_2) ((eA10 2).trans ew10_2) (show 0 ≤ (y10_0_1) ∧ (y10_0_1) ≤ (m10_2) ∧ (m10_2) ≤ 65536 from pz10_0) (show RAP ((u1_2)) ((w2)) ((u1_1)) ((y10_0_2)) ((w10_2)) ((y10_0_1)) (tgl (sc ((w5)) (a2) (a2 + a3))) by assumption))
    refine Ew_of (pcₚ := 12) (fun _ => x_iload rfl rk_s) ?_
    refine Ew_of (pcₚ := 14) (fun _ => x_bipush (z := 60) rfl (by decide)) ?_
    refine w_icmpge (t := 28) rfl rfl (show inr ((a3 - 1)) from q_3170 h1 h4) (show inr (60) from q_937) (fun b14 => ?_) (fun b14 => ?_)
    · refine Ew_of (pcₚ := 30) (fun _ => x_iload rfl rk_s) ?_
      refine Ew_of (pcₚ := 33) (fun _ => x_sipush (z := 256) rfl (by decide)) ?_
      refine w_icmpge (t := 40) rfl rfl (show inr ((a3 - 1)) from q_3171 b14 h1) (show inr (256) from q_3) (fun b15 => ?_) (fun b15 => ?_)
      · refine Ew_of (pcₚ := 41) (fun _ => x_iconst rfl) ?_
        refine Ew_of (pcₚ := 43) (fun _ => x_istore rfl) ?_
        refine Ew_of (pcₚ := 44) (fun _ => x_aload_n rfl (rk_o (rk_o (rfl) rfl rfl) rfl rfl)) ?_
        refine Ew_of (pcₚ := 46) (fun _ => x_bipush (z := 59) rfl (by decide)) ?_
        refine Ew_of (pcₚ := 48) (fun _ => x_iload rfl rk_s) ?_
        refine w_iadd rfl ?_
        refine Ew_of (pcₚ := 50) (fun _ => x_iconst rfl) ?_
        refine w_ishlE rfl ?_
        have g16 : inr (slI ((59 + 2)) (2)) := toI_inr _
        refine v_inv H (o := 1) rfl rfl rfl rfl rfl rfl (by rfl) (C159 (D := puc 1025 D) (N := puc 1025 N) (HW_subc H oz_D8cls_9 oz_D8cls_15) (pf2) (n2) (en2) (u1_1) ((eu1_1)) (u1_2) ((eu1_2)) (w2) (ew2) (show inr ((slI ((59 + 2)) (2))) from g16) (show 0 ≤ (u1_1) ∧ (u1_1) ≤ (n2) ∧ (n2) ≤ 65536 from h2) (fun σ17 D17ₚ N17ₚ F17ₚ A17ₚ c17 s17 Hₚ Oₚ hD17 hN17 hS17 hA17 pm17_1 m17_1 em17_1 y17_0_1 ey17_0_1 y17_0_2 ey17_0_2 w17_1 ew17_1 pz17_0 pz17_1 pz17_2 pz17_3 => ⟨rfl, ?_⟩))
        refine v_backMc (c := c) (s := s) H oz_D8cls_9 oz_D8cls_15 Hₚ Oₚ hD17 oz_D8cls_10 (fun D17 N17 F17 A17 H Oₚ eD17 eN17 eF17 eA17 => ?_)
        have O := OUT_trans O Oₚ
        -- Row.add
        have cF17 : SF oz_D8clsl_3 F F17 := SF_trans (SF_refl) (SF_gluc (ι := oz_D8clsl_6) oz_D8cls_15 hS17 eF17 (by decide +kernel)) (any_sub (lₚ := [(1, 0), (1, 1), (1, 2)]) (by decide +kernel))
        have mF17 := SFm_of cF17 oz_D8cls_12
        have cA17 : SA oz_D8clsl_4 A A17 := SA_trans (SA_refl) (SA_gluc (ι := oz_D8clsl_6) oz_D8cls_15 hA17 eA17 (by decide +kernel)) (any_subA (lₚ := [2]) (by decide +kernel))
        have mA17 := SAm_of cA17 oz_D8cls_13
        have cD17 : SD oz_D8clsl_4 D D17 := SD_trans (SD_refl) (SD_gluc (ι := oz_D8clsl_6) oz_D8cls_15 hD17 eD17 (by decide +kernel)) (any_subA (lₚ := [2]) (by decide +kernel))
        have mD17 := SDm_of cD17 oz_D8cls_13
        have cN17 : SD oz_D8clsl_4 N N17 := SD_trans (SD_refl) (SD_gluc (ι := oz_D8clsl_6) oz_D8cls_15 hN17 eN17 (by decide +kernel)) (any_subA (lₚ := [2]) (by decide +kernel))
        have mN17 := SDm_of cN17 oz_D8cls_13
        have pf17_1_0 : F17 1 0 = (D17 2 : Int) := (eF17 1 0).trans (pm17_1.trans (congrArg (fun q : Nat => (q : Int)) (eD17 2).symm))
        have r18 : (0 : Int) ≤ m17_1 ∧ m17_1 ≤ 1000000 := nleE (H.nle 2 (ltn len_V196_thispackeda_oz_D8cls rfl)) (show (N17 2 : Int) = m17_1 from (congrArg (fun q : Nat => (q : Int)) (eN17 2)).trans em17_1)
        have r19 : (-2147483648 : Int) ≤ y17_0_1 ∧ y17_0_1 ≤ 2147483647 := rngE (show (-2147483648 : Int) ≤ F17 1 1 ∧ F17 1 1 ≤ 2147483647 from H.krg 1 1 (ltn len_V196_thispackeda_oz_D8cls rfl)) (show F17 1 1 = y17_0_1 from ((eF17 1 1).trans ey17_0_1))
        have r20 : (0 : Int) ≤ y17_0_2 ∧ y17_0_2 ≤ 1 := rngE (show (0 : Int) ≤ F17 1 2 ∧ F17 1 2 ≤ 1 from H.krg 1 2 (ltn len_V196_thispackeda_oz_D8cls rfl)) (show F17 1 2 = y17_0_2 from ((eF17 1 2).trans ey17_0_2))
        have h1_ := pz17_3
        rw [u8_sl2] at h1_
        refine Ew_of (pcₚ := 55) (fun _ => x_aload_n rfl (rk_o (rk_o (rfl) rfl rfl) rfl rfl)) ?_
        refine Ew_of (pcₚ := 57) (fun _ => x_iload rfl (rk_o (rk_s) rfl rfl)) ?_
        refine w_i2l rfl (show inr ((a3 - 1)) from q_3172 b15 h1) ?_
        refine Ew_of (pcₚ := 60) (fun _ => x_iload rfl rk_s) ?_
        refine Ew_stk (congrArg (fun qz : Nat => ([I (2), J ((a3 - 1)), .ref qz] : List Value)) (show D17 1 = D 1 from mD17 1 rfl).symm) ?_
        refine v_inv H (o := 1) rfl rfl rfl rfl rfl rfl (by rfl) (C160 (D := puc 1025 D17) (N := puc 1025 N17) (HW_subc H oz_D8cls_11 oz_D8cls_15) (pf17_1_0) (m17_1) ((congrArg (fun q : Nat => (q : Int)) (eN17 2)).trans em17_1) (y17_0_1) (((eF17 1 1).trans ey17_0_1)) (y17_0_2) (((eF17 1 2).trans ey17_0_2)) (w17_1) ((eA17 2).trans ew17_1) (show inrJ ((a3 - 1)) from q_3173 b15 h1) (show inr (2) from q_122) (show 0 ≤ (y17_0_1) ∧ (y17_0_1) ≤ (m17_1) ∧ (m17_1) ≤ 65536 from pz17_0) (show 0 ≤ (2) ∧ (2) ≤ 8 from q_2748) (fun σ21 D21ₚ N21ₚ F21ₚ A21ₚ c21 s21 Hₚ Oₚ hD21 hN21 hS21 hA21 pm21_1 m21_1 em21_1 y21_0_1 ey21_0_1 y21_0_2 ey21_0_2 w21_1 ew21_1 pz21_0 pz21_1 pz21_2 => ⟨rfl, ?_⟩))
        refine v_backMc (c := (c + c17)) (s := (s + s17)) H oz_D8cls_11 oz_D8cls_15 Hₚ Oₚ hD21 oz_D8cls_10 (fun D21 N21 F21 A21 H Oₚ eD21 eN21 eF21 eA21 => ?_)
        have O := OUT_trans O Oₚ
        -- Row.addNumber
        have cF21 : SF oz_D8clsl_3 F F21 := SF_trans (cF17) (SF_gluc (ι := oz_D8clsl_6) oz_D8cls_15 hS21 eF21 (by decide +kernel)) (any_sub (lₚ := [(1, 0), (1, 1), (1, 2)]) (by decide +kernel))
        have mF21 := SFm_of cF21 oz_D8cls_12
        have cA21 : SA oz_D8clsl_4 A A21 := SA_trans (cA17) (SA_gluc (ι := oz_D8clsl_6) oz_D8cls_15 hA21 eA21 (by decide +kernel)) (any_subA (lₚ := [2]) (by decide +kernel))
        have mA21 := SAm_of cA21 oz_D8cls_13
        have cD21 : SD oz_D8clsl_4 D D21 := SD_trans (cD17) (SD_gluc (ι := oz_D8clsl_6) oz_D8cls_15 hD21 eD21 (by decide +kernel)) (any_subA (lₚ := [2]) (by decide +kernel))
        have mD21 := SDm_of cD21 oz_D8cls_13
        have cN21 : SD oz_D8clsl_4 N N21 := SD_trans (cN17) (SD_gluc (ι := oz_D8clsl_6) oz_D8cls_15 hN21 eN21 (by decide +kernel)) (any_subA (lₚ := [2]) (by decide +kernel))
        have mN21 := SDm_of cN21 oz_D8cls_13
        have pf21_1_0 : F21 1 0 = (D21 2 : Int) := (eF21 1 0).trans (pm21_1.trans (congrArg (fun q : Nat => (q : Int)) (eD21 2).symm))
        have r22 : (0 : Int) ≤ m21_1 ∧ m21_1 ≤ 1000000 := nleE (H.nle 2 (ltn len_V196_thispackeda_oz_D8cls rfl)) (show (N21 2 : Int) = m21_1 from (congrArg (fun q : Nat => (q : Int)) (eN21 2)).trans em21_1)
        have r23 : (-2147483648 : Int) ≤ y21_0_1 ∧ y21_0_1 ≤ 2147483647 := rngE (show (-2147483648 : Int) ≤ F21 1 1 ∧ F21 1 1 ≤ 2147483647 from H.krg 1 1 (ltn len_V196_thispackeda_oz_D8cls rfl)) (show F21 1 1 = y21_0_1 from ((eF21 1 1).trans ey21_0_1))
        have r24 : (0 : Int) ≤ y21_0_2 ∧ y21_0_2 ≤ 1 := rngE (show (0 : Int) ≤ F21 1 2 ∧ F21 1 2 ≤ 1 from H.krg 1 2 (ltn len_V196_thispackeda_oz_D8cls rfl)) (show F21 1 2 = y21_0_2 from ((eF21 1 2).trans ey21_0_2))
        have : RAP ((u1_2)) ((w2)) ((u1_1)) ((y21_0_2)) ((w21_1)) ((y21_0_1)) (tgh ((a3))) := by first | exact RAP_c (RAP_trans h1_ pz21_2) (tgh_of (by omega) (by omega) (by omega)) | (have h := pNONE_3; rw [u8_sl2] at h; exact RAP_c h (by rw [← tgh_of (n := (a3)) (k := 0) (s := 4 * ((a3 - 1))) (by omega) (by omega) (by omega), nb_0, List.append_nil]))
        exact hc63  _ _ _ _ _ _ _ _  ((rk_o (rk_o (rfl) rfl rfl) rfl rfl).trans (congrArg (fun q : Nat => some (Value.ref q)) (mD21 0 rfl).symm)) ((rk_o (rk_o (rfl) rfl rfl) rfl rfl).trans (congrArg (fun q : Nat => some (Value.ref q)) (mD21 1 rfl).symm)) (rk_o (rk_o (rfl) rfl rfl) rfl rfl) (rk_o (rk_o (rfl) rfl rfl) rfl rfl) H O (SD_trans (SD_trans (SD_refl) (SD_gluc (ι := oz_D8clsl_6) oz_D8cls_15 hD17 eD17 (by decide +kernel)) (any_subA (lₚ := [2]) (by decide +kernel))) (SD_gluc (ι := oz_D8clsl_6) oz_D8cls_15 hD21 eD21 (by decide +kernel)) (any_subA (lₚ := [2]) (by decide +kernel))) (SD_trans (SD_trans (SD_refl) (SD_gluc (ι := oz_D8clsl_6) oz_D8cls_15 hN17 eN17 (by decide +kernel)) (any_subA (lₚ := [2]) (by decide +kernel))) (SD_gluc (ι := oz_D8clsl_6) oz_D8cls_15 hN21 eN21 (by decide +kernel)) (any_subA (lₚ := [2]) (by decide +kernel))) (SF_trans (SF_trans (SF_refl) (SF_gluc (ι := oz_D8clsl_6) oz_D8cls_15 hS17 eF17 (by decide +kernel)) (any_sub (lₚ := [(1, 0), (1, 1), (1, 2)]) (by decide +kernel))) (SF_gluc (ι := oz_D8clsl_6) oz_D8cls_15 hS21 eF21 (by decide +kernel)) (any_sub (lₚ := [(1, 0), (1, 1), (1, 2)]) (by decide +kernel))) (SA_trans (SA_trans (SA_refl) (SA_gluc (ι := oz_D8clsl_6) oz_D8cls_15 hA17 eA17 (by decide +kernel)) (any_subA (lₚ := [2]) (by decide +kernel))) (SA_gluc (ι := oz_D8clsl_6) oz_D8cls_15 hA21 eA21 (by decide +kernel)) (any_subA (lₚ := [2]) (by decide +kernel))) (pf21_1_0) (m21_1) ((congrArg (fun q : Nat => (q : Int)) (eN21 2)).trans em21_1) (y21_0_1) (((eF21 1 1).trans ey21_0_1)) (y21_0_2) (((eF21 1 2).trans ey21_0_2)) (w21_1) ((eA21 2).trans ew21_1) (show 0 ≤ (y21_0_1) ∧ (y21_0_1) ≤ (m21_1) ∧ (m21_1) ≤ 65536 from pz21_0) (show RAP ((u1_2)) ((w2)) ((u1_1)) ((y21_0_2)) ((w21_1)) ((y21_0_1)) (tgh ((a3))) by assumption)
      · refine Ew_of (pcₚ := 37) (fun _ => x_iconst rfl) ?_
        refine Ew_of (pcₚ := 41) (fun _ => x_goto rfl rfl) ?_
        refine Ew_of (pcₚ := 43) (fun _ => x_istore rfl) ?_
        refine Ew_of (pcₚ := 44) (fun _ => x_aload_n rfl (rk_o (rk_o (rfl) rfl rfl) rfl rfl)) ?_
        refine Ew_of (pcₚ := 46) (fun _ => x_bipush (z := 59) rfl (by decide)) ?_
        refine Ew_of (pcₚ := 48) (fun _ => x_iload rfl rk_s) ?_
        refine w_iadd rfl ?_
        refine Ew_of (pcₚ := 50) (fun _ => x_iconst rfl) ?_
        refine w_ishlE rfl ?_
        have g25 : inr (slI ((59 + 1)) (2)) := toI_inr _
        refine v_inv H (o := 1) rfl rfl rfl rfl rfl rfl (by rfl) (C159 (D := puc 1025 D) (N := puc 1025 N) (HW_subc H oz_D8cls_9 oz_D8cls_15) (pf2) (n2) (en2) (u1_1) ((eu1_1)) (u1_2) ((eu1_2)) (w2) (ew2) (show inr ((slI ((59 + 1)) (2))) from g25) (show 0 ≤ (u1_1) ∧ (u1_1) ≤ (n2) ∧ (n2) ≤ 65536 from h2) (fun σ26 D26ₚ N26ₚ F26ₚ A26ₚ c26 s26 Hₚ Oₚ hD26 hN26 hS26 hA26 pm26_1 m26_1 em26_1 y26_0_1 ey26_0_1 y26_0_2 ey26_0_2 w26_1 ew26_1 pz26_0 pz26_1 pz26_2 pz26_3 => ⟨rfl, ?_⟩))
        refine v_backMc (c := c) (s := s) H oz_D8cls_9 oz_D8cls_15 Hₚ Oₚ hD26 oz_D8cls_10 (fun D26 N26 F26 A26 H Oₚ eD26 eN26 eF26 eA26 => ?_)
        have O := OUT_trans O Oₚ
        -- Row.add
        have cF26 : SF oz_D8clsl_3 F F26 := SF_trans (SF_refl) (SF_gluc (ι := oz_D8clsl_6) oz_D8cls_15 hS26 eF26 (by decide +kernel)) (any_sub (lₚ := [(1, 0), (1, 1), (1, 2)]) (by decide +kernel))
        have mF26 := SFm_of cF26 oz_D8cls_12
        have cA26 : SA oz_D8clsl_4 A A26 := SA_trans (SA_refl) (SA_gluc (ι := oz_D8clsl_6) oz_D8cls_15 hA26 eA26 (by decide +kernel)) (any_subA (lₚ := [2]) (by decide +kernel))
        have mA26 := SAm_of cA26 oz_D8cls_13
        have cD26 : SD oz_D8clsl_4 D D26 := SD_trans (SD_refl) (SD_gluc (ι := oz_D8clsl_6) oz_D8cls_15 hD26 eD26 (by decide +kernel)) (any_subA (lₚ := [2]) (by decide +kernel))
        have mD26 := SDm_of cD26 oz_D8cls_13
        have cN26 : SD oz_D8clsl_4 N N26 := SD_trans (SD_refl) (SD_gluc (ι := oz_D8clsl_6) oz_D8cls_15 hN26 eN26 (by decide +kernel)) (any_subA (lₚ := [2]) (by decide +kernel))
        have mN26 := SDm_of cN26 oz_D8cls_13
        have pf26_1_0 : F26 1 0 = (D26 2 : Int) := (eF26 1 0).trans (pm26_1.trans (congrArg (fun q : Nat => (q : Int)) (eD26 2).symm))
        have r27 : (0 : Int) ≤ m26_1 ∧ m26_1 ≤ 1000000 := nleE (H.nle 2 (ltn len_V196_thispackeda_oz_D8cls rfl)) (show (N26 2 : Int) = m26_1 from (congrArg (fun q : Nat => (q : Int)) (eN26 2)).trans em26_1)
        have r28 : (-2147483648 : Int) ≤ y26_0_1 ∧ y26_0_1 ≤ 2147483647 := rngE (show (-2147483648 : Int) ≤ F26 1 1 ∧ F26 1 1 ≤ 2147483647 from H.krg 1 1 (ltn len_V196_thispackeda_oz_D8cls rfl)) (show F26 1 1 = y26_0_1 from ((eF26 1 1).trans ey26_0_1))
        have r29 : (0 : Int) ≤ y26_0_2 ∧ y26_0_2 ≤ 1 := rngE (show (0 : Int) ≤ F26 1 2 ∧ F26 1 2 ≤ 1 from H.krg 1 2 (ltn len_V196_thispackeda_oz_D8cls rfl)) (show F26 1 2 = y26_0_2 from ((eF26 1 2).trans ey26_0_2))
        have h1_ := pz26_3
        rw [u8_sl2] at h1_
        refine Ew_of (pcₚ := 55) (fun _ => x_aload_n rfl (rk_o (rk_o (rfl) rfl rfl) rfl rfl)) ?_
        refine Ew_of (pcₚ := 57) (fun _ => x_iload rfl (rk_o (rk_s) rfl rfl)) ?_
        refine w_i2l rfl (show inr ((a3 - 1)) from q_3174 b14 b15) ?_
        refine Ew_of (pcₚ := 60) (fun _ => x_iload rfl rk_s) ?_
        refine Ew_stk (congrArg (fun qz : Nat => ([I (1), J ((a3 - 1)), .ref qz] : List Value)) (show D26 1 = D 1 from mD26 1 rfl).symm) ?_
        refine v_inv H (o := 1) rfl rfl rfl rfl rfl rfl (by rfl) (C160 (D := puc 1025 D26) (N := puc 1025 N26) (HW_subc H oz_D8cls_11 oz_D8cls_15) (pf26_1_0) (m26_1) ((congrArg (fun q : Nat => (q : Int)) (eN26 2)).trans em26_1) (y26_0_1) (((eF26 1 1).trans ey26_0_1)) (y26_0_2) (((eF26 1 2).trans ey26_0_2)) (w26_1) ((eA26 2).trans ew26_1) (show inrJ ((a3 - 1)) from q_3175 b14 b15) (show inr (1) from q_135) (show 0 ≤ (y26_0_1) ∧ (y26_0_1) ≤ (m26_1) ∧ (m26_1) ≤ 65536 from pz26_0) (show 0 ≤ (1) ∧ (1) ≤ 8 from q_1889) (fun σ30 D30ₚ N30ₚ F30ₚ A30ₚ c30 s30 Hₚ Oₚ hD30 hN30 hS30 hA30 pm30_1 m30_1 em30_1 y30_0_1 ey30_0_1 y30_0_2 ey30_0_2 w30_1 ew30_1 pz30_0 pz30_1 pz30_2 => ⟨rfl, ?_⟩))
        refine v_backMc (c := (c + c26)) (s := (s + s26)) H oz_D8cls_11 oz_D8cls_15 Hₚ Oₚ hD30 oz_D8cls_10 (fun D30 N30 F30 A30 H Oₚ eD30 eN30 eF30 eA30 => ?_)
        have O := OUT_trans O Oₚ
        -- Row.addNumber
        have cF30 : SF oz_D8clsl_3 F F30 := SF_trans (cF26) (SF_gluc (ι := oz_D8clsl_6) oz_D8cls_15 hS30 eF30 (by decide +kernel)) (any_sub (lₚ := [(1, 0), (1, 1), (1, 2)]) (by decide +kernel))
        have mF30 := SFm_of cF30 oz_D8cls_12
        have cA30 : SA oz_D8clsl_4 A A30 := SA_trans (cA26) (SA_gluc (ι := oz_D8clsl_6) oz_D8cls_15 hA30 eA30 (by decide +kernel)) (any_subA (lₚ := [2]) (by decide +kernel))
        have mA30 := SAm_of cA30 oz_D8cls_13
        have cD30 : SD oz_D8clsl_4 D D30 := SD_trans (cD26) (SD_gluc (ι := oz_D8clsl_6) oz_D8cls_15 hD30 eD30 (by decide +kernel)) (any_subA (lₚ := [2]) (by decide +kernel))
        have mD30 := SDm_of cD30 oz_D8cls_13
        have cN30 : SD oz_D8clsl_4 N N30 := SD_trans (cN26) (SD_gluc (ι := oz_D8clsl_6) oz_D8cls_15 hN30 eN30 (by decide +kernel)) (any_subA (lₚ := [2]) (by decide +kernel))
        have mN30 := SDm_of cN30 oz_D8cls_13
        have pf30_1_0 : F30 1 0 = (D30 2 : Int) := (eF30 1 0).trans (pm30_1.trans (congrArg (fun q : Nat => (q : Int)) (eD30 2).symm))
        have r31 : (0 : Int) ≤ m30_1 ∧ m30_1 ≤ 1000000 := nleE (H.nle 2 (ltn len_V196_thispackeda_oz_D8cls rfl)) (show (N30 2 : Int) = m30_1 from (congrArg (fun q : Nat => (q : Int)) (eN30 2)).trans em30_1)
        have r32 : (-2147483648 : Int) ≤ y30_0_1 ∧ y30_0_1 ≤ 2147483647 := rngE (show (-2147483648 : Int) ≤ F30 1 1 ∧ F30 1 1 ≤ 2147483647 from H.krg 1 1 (ltn len_V196_thispackeda_oz_D8cls rfl)) (show F30 1 1 = y30_0_1 from ((eF30 1 1).trans ey30_0_1))
        have r33 : (0 : Int) ≤ y30_0_2 ∧ y30_0_2 ≤ 1 := rngE (show (0 : Int) ≤ F30 1 2 ∧ F30 1 2 ≤ 1 from H.krg 1 2 (ltn len_V196_thispackeda_oz_D8cls rfl)) (show F30 1 2 = y30_0_2 from ((eF30 1 2).trans ey30_0_2))
        have : RAP ((u1_2)) ((w2)) ((u1_1)) ((y30_0_2)) ((w30_1)) ((y30_0_1)) (tgh ((a3))) := by first | exact RAP_c (RAP_trans h1_ pz30_2) (tgh_of (by omega) (by omega) (by omega)) | (have h := pNONE_3; rw [u8_sl2] at h; exact RAP_c h (by rw [← tgh_of (n := (a3)) (k := 0) (s := 4 * ((a3 - 1))) (by omega) (by omega) (by omega), nb_0, List.append_nil]))
        exact hc63  _ _ _ _ _ _ _ _  ((rk_o (rk_o (rfl) rfl rfl) rfl rfl).trans (congrArg (fun q : Nat => some (Value.ref q)) (mD30 0 rfl).symm)) ((rk_o (rk_o (rfl) rfl rfl) rfl rfl).trans (congrArg (fun q : Nat => some (Value.ref q)) (mD30 1 rfl).symm)) (rk_o (rk_o (rfl) rfl rfl) rfl rfl) (rk_o (rk_o (rfl) rfl rfl) rfl rfl) H O (SD_trans (SD_trans (SD_refl) (SD_gluc (ι := oz_D8clsl_6) oz_D8cls_15 hD26 eD26 (by decide +kernel)) (any_subA (lₚ := [2]) (by decide +kernel))) (SD_gluc (ι := oz_D8clsl_6) oz_D8cls_15 hD30 eD30 (by decide +kernel)) (any_subA (lₚ := [2]) (by decide +kernel))) (SD_trans (SD_trans (SD_refl) (SD_gluc (ι := oz_D8clsl_6) oz_D8cls_15 hN26 eN26 (by decide +kernel)) (any_subA (lₚ := [2]) (by decide +kernel))) (SD_gluc (ι := oz_D8clsl_6) oz_D8cls_15 hN30 eN30 (by decide +kernel)) (any_subA (lₚ := [2]) (by decide +kernel))) (SF_trans (SF_trans (SF_refl) (SF_gluc (ι := oz_D8clsl_6) oz_D8cls_15 hS26 eF26 (by decide +kernel)) (any_sub (lₚ := [(1, 0), (1, 1), (1, 2)]) (by decide +kernel))) (SF_gluc (ι := oz_D8clsl_6) oz_D8cls_15 hS30 eF30 (by decide +kernel)) (any_sub (lₚ := [(1, 0), (1, 1), (1, 2)]) (by decide +kernel))) (SA_trans (SA_trans (SA_refl) (SA_gluc (ι := oz_D8clsl_6) oz_D8cls_15 hA26 eA26 (by decide +kernel)) (any_subA (lₚ := [2]) (by decide +kernel))) (SA_gluc (ι := oz_D8clsl_6) oz_D8cls_15 hA30 eA30 (by decide +kernel)) (any_subA (lₚ := [2]) (by decide +kernel))) (pf30_1_0) (m30_1) ((congrArg (fun q : Nat => (q : Int)) (eN30 2)).trans em30_1) (y30_0_1) (((eF30 1 1).trans ey30_0_1)) (y30_0_2) (((eF30 1 2).trans ey30_0_2)) (w30_1) ((eA30 2).trans ew30_1) (show 0 ≤ (y30_0_1) ∧ (y30_0_1) ≤ (m30_1) ∧ (m30_1) ≤ 65536 from pz30_0) (show RAP ((u1_2)) ((w2)) ((u1_1)) ((y30_0_2)) ((w30_1)) ((y30_0_1)) (tgh ((a3))) by assumption)
    · refine Ew_of (pcₚ := 18) (fun _ => x_aload_n rfl (rk_o (rfl) rfl rfl)) ?_
      refine Ew_of (pcₚ := 20) (fun _ => x_iload rfl rk_s) ?_
      refine Ew_of (pcₚ := 21) (fun _ => x_iconst rfl) ?_
      refine w_ishlE rfl ?_
      have g34 : inr (slI ((a3 - 1)) (2)) := toI_inr _
      refine v_inv H (o := 1) rfl rfl rfl rfl rfl rfl (by rfl) (C159 (D := puc 1025 D) (N := puc 1025 N) (HW_subc H oz_D8cls_9 oz_D8cls_15) (pf2) (n2) (en2) (u1_1) ((eu1_1)) (u1_2) ((eu1_2)) (w2) (ew2) (show inr ((slI ((a3 - 1)) (2))) from g34) (show 0 ≤ (u1_1) ∧ (u1_1) ≤ (n2) ∧ (n2) ≤ 65536 from h2) (fun σ35 D35ₚ N35ₚ F35ₚ A35ₚ c35 s35 Hₚ Oₚ hD35 hN35 hS35 hA35 pm35_1 m35_1 em35_1 y35_0_1 ey35_0_1 y35_0_2 ey35_0_2 w35_1 ew35_1 pz35_0 pz35_1 pz35_2 pz35_3 => ⟨rfl, ?_⟩))
      refine v_backMc (c := c) (s := s) H oz_D8cls_9 oz_D8cls_15 Hₚ Oₚ hD35 oz_D8cls_10 (fun D35 N35 F35 A35 H Oₚ eD35 eN35 eF35 eA35 => ?_)
      have O := OUT_trans O Oₚ
      -- Row.add
      have cF35 : SF oz_D8clsl_3 F F35 := SF_trans (SF_refl) (SF_gluc (ι := oz_D8clsl_6) oz_D8cls_15 hS35 eF35 (by decide +kernel)) (any_sub (lₚ := [(1, 0), (1, 1), (1, 2)]) (by decide +kernel))
      have mF35 := SFm_of cF35 oz_D8cls_12
      have cA35 : SA oz_D8clsl_4 A A35 := SA_trans (SA_refl) (SA_gluc (ι := oz_D8clsl_6) oz_D8cls_15 hA35 eA35 (by decide +kernel)) (any_subA (lₚ := [2]) (by decide +kernel))
      have mA35 := SAm_of cA35 oz_D8cls_13
      have cD35 : SD oz_D8clsl_4 D D35 := SD_trans (SD_refl) (SD_gluc (ι := oz_D8clsl_6) oz_D8cls_15 hD35 eD35 (by decide +kernel)) (any_subA (lₚ := [2]) (by decide +kernel))
      have mD35 := SDm_of cD35 oz_D8cls_13
      have cN35 : SD oz_D8clsl_4 N N35 := SD_trans (SD_refl) (SD_gluc (ι := oz_D8clsl_6) oz_D8cls_15 hN35 eN35 (by decide +kernel)) (any_subA (lₚ := [2]) (by decide +kernel))
      have mN35 := SDm_of cN35 oz_D8cls_13
      have pf35_1_0 : F35 1 0 = (D35 2 : Int) := (eF35 1 0).trans (pm35_1.trans (congrArg (fun q : Nat => (q : Int)) (eD35 2).symm))
      have r36 : (0 : Int) ≤ m35_1 ∧ m35_1 ≤ 1000000 := nleE (H.nle 2 (ltn len_V196_thispackeda_oz_D8cls rfl)) (show (N35 2 : Int) = m35_1 from (congrArg (fun q : Nat => (q : Int)) (eN35 2)).trans em35_1)
      have r37 : (-2147483648 : Int) ≤ y35_0_1 ∧ y35_0_1 ≤ 2147483647 := rngE (show (-2147483648 : Int) ≤ F35 1 1 ∧ F35 1 1 ≤ 2147483647 from H.krg 1 1 (ltn len_V196_thispackeda_oz_D8cls rfl)) (show F35 1 1 = y35_0_1 from ((eF35 1 1).trans ey35_0_1))
      have r38 : (0 : Int) ≤ y35_0_2 ∧ y35_0_2 ≤ 1 := rngE (show (0 : Int) ≤ F35 1 2 ∧ F35 1 2 ≤ 1 from H.krg 1 2 (ltn len_V196_thispackeda_oz_D8cls rfl)) (show F35 1 2 = y35_0_2 from ((eF35 1 2).trans ey35_0_2))
      refine Ew_of (pcₚ := 63) (fun _ => x_goto rfl rfl) ?_
      have : RAP ((u1_2)) ((w2)) ((u1_1)) ((y35_0_2)) ((w35_1)) ((y35_0_1)) (tgh ((a3))) := by first | exact RAP_c (RAP_trans h1_ pz30_2) (tgh_of (by omega) (by omega) (by omega)) | (have h := pz35_3; rw [u8_sl2] at h; exact RAP_c h (by rw [← tgh_of (n := (a3)) (k := 0) (s := 4 * ((a3 - 1))) (by omega) (by omega) (by omega), nb_0, List.append_nil]))
      exact hc63  _ _ _ _ _ _ _ _  ((rk_o (rfl) rfl rfl).trans (congrArg (fun q : Nat => some (Value.ref q)) (mD35 0 rfl).symm)) ((rk_o (rfl) rfl rfl).trans (congrArg (fun q : Nat => some (Value.ref q)) (mD35 1 rfl).symm)) (rk_o (rfl) rfl rfl) (rk_o (rfl) rfl rfl) H O (SD_trans (SD_refl) (SD_gluc (ι := oz_D8clsl_6) oz_D8cls_15 hD35 eD35 (by decide +kernel)) (any_subA (lₚ := [2]) (by decide +kernel))) (SD_trans (SD_refl) (SD_gluc (ι := oz_D8clsl_6) oz_D8cls_15 hN35 eN35 (by decide +kernel)) (any_subA (lₚ := [2]) (by decide +kernel))) (SF_trans (SF_refl) (SF_gluc (ι := oz_D8clsl_6) oz_D8cls_15 hS35 eF35 (by decide +kernel)) (any_sub (lₚ := [(1, 0), (1, 1), (1, 2)]) (by decide +kernel))) (SA_trans (SA_refl) (SA_gluc (ι := oz_D8clsl_6) oz_D8cls_15 hA35 eA35 (by decide +kernel)) (any_subA (lₚ := [2]) (by decide +kernel))) (pf35_1_0) (m35_1) ((congrArg (fun q : Nat => (q : Int)) (eN35 2)).trans em35_1) (y35_0_1) (((eF35 1 1).trans ey35_0_1)) (y35_0_2) (((eF35 1 2).trans ey35_0_2)) (w35_1) ((eA35 2).trans ew35_1) (show 0 ≤ (y35_0_1) ∧ (y35_0_1) ≤ (m35_1) ∧ (m35_1) ≤ 65536 from pz35_0) (show RAP ((u1_2)) ((w2)) ((u1_1)) ((y35_0_2)) ((w35_1)) ((y35_0_1)) (tgh ((a3))) by assumption)
  · have : RAP ((u1_2)) ((w2)) ((u1_1)) ((u1_2)) ((w2)) ((u1_1)) (tgl (sc ((w5)) ((a2)) ((a2) + (a3)))) := by rw [sc_nil (b := (a2) + (a3)) (by omega), tgl_0]; exact RAP_refl
    exact w_ret rfl (k _ _ _ _ _ _ _ H O (SD_refl) (SD_refl) (SF_refl) (SA_refl) (pf2) (n2) (en2) (u1_1) ((eu1_1)) (u1_2) ((eu1_2)) (w2) (ew2) (show 0 ≤ (u1_1) ∧ (u1_1) ≤ (n2) ∧ (n2) ≤ 65536 from h2) (show RAP ((u1_2)) ((w2)) ((u1_1)) ((u1_2)) ((w2)) ((u1_1)) (tgl (sc ((w5)) (a2) (a2 + a3))) by assumption))
abbrev V194_thispackeda : vV := [(0, 10, [(4, 0), (4, 0), (4, 0), (4, 0), (0, 0), (4, 0), (0, 0), (2, 0), (0, 0)]), (0, 7, [(4, 0), (0, 0), (1, 0), (0, 0), (0, 0)]), (1, 0, []), (0, 5, [(4, 0), (4, 0), (4, 0), (4, 0), (0, 0), (0, 0), (0, 0), (4, 0), (4, 0), (0, 0), (0, 0), (0, 0), (0, 0), (0, 0), (0, 0), (0, 0), (0, 0), (0, 0), (0, 0)]), (0, 7, [(4, 0), (0, 0), (1, 0), (0, 0), (0, 0)]), (1, 0, []), (1, 1, []), (1, 1, []), (1, 1, []), (1, 1, []), (1, 1, [])]
theorem len_V194_thispackeda_oz_D8cls : (V194_thispackeda).length = 11 := by decide +kernel
theorem oz_D8cls_17 : vsub V194_thispackeda V195_Row [1, 2] = true := by decide +kernel
theorem oz_D8cls_18 : vmov V194_thispackeda [1, 2] [1] = true := by decide +kernel
theorem oz_D8cls_19 : vsub V194_thispackeda V123 [3, 4, 5, 6, 7] = true := by decide +kernel
theorem oz_D8cls_20 : vmov V194_thispackeda [3, 4, 5, 6, 7] [3] = true := by decide +kernel
theorem oz_D8cls_21 : vsub V194_thispackeda V125 [3, 4, 5, 6, 8, 9, 10] = true := by decide +kernel
theorem oz_D8cls_22 : vmov V194_thispackeda [3, 4, 5, 6, 8, 9, 10] [4, 5, 6] = true := by decide +kernel
theorem oz_D8cls_23 : vsub V194_thispackeda V196_thispackeda [0, 1, 2, 3, 4, 5] = true := by decide +kernel
theorem oz_D8cls_24 : vmov V194_thispackeda [0, 1, 2, 3, 4, 5] [2] = true := by decide +kernel
theorem oz_D8cls_25 : vsub V194_thispackeda V197_Row [1, 2] = true := by decide +kernel
def oz_D8clsl_7 : List (Nat × Nat) := [(1, 0), (1, 1), (1, 2), (3, 1), (3, 2), (3, 3), (3, 4), (3, 5), (3, 6), (3, 8), (3, 12), (3, 13), (3, 14), (3, 15), (3, 16), (3, 17), (3, 18)]
theorem oz_D8cls_26 : (oz_D8clsl_7).all (fun p => !tbz 41244121472700643278421578466983936 (Nat.add (Nat.mul 32 p.1) p.2)) = true := by decide +kernel
def oz_D8clsl_8 : List Nat := [2, 6, 7, 8, 9, 10]
theorem oz_D8cls_27 : (oz_D8clsl_8).all (fun p => !tbz 1988 p) = true := by decide +kernel
def oz_D8clsl_9 : List Nat := [2, 6, 8, 9, 10]
theorem oz_D8cls_28 : (oz_D8clsl_9).all (fun p => !tbz 1860 p) = true := by decide +kernel
def oz_D8clsl_10 : List Nat := [3, 4, 5, 6, 7]
theorem oz_D8cls_29 : okc oz_D8clsl_10 481842956291 = true := by decide +kernel
def oz_D8clsl_11 : List Nat := [3, 4, 5, 6, 8, 9, 10]
theorem oz_D8cls_30 : okc oz_D8clsl_11 180461195006052355 = true := by decide +kernel
def oz_D8clsl_12 : List Nat := [0, 1, 2, 3, 4, 5]
theorem oz_D8cls_31 : okc oz_D8clsl_12 176197141529088 = true := by decide +kernel

theorem C194_thispackeda {σE : rS} {D N : Nat → Nat} {F : hF} {A : hA} {d c s : Nat} {Q : wQ} (H : HW V194_thispackeda σE D N F A)  (pf1 : F 0 2 = (D 1 : Int)) (pf2 : F 1 0 = (D 2 : Int)) (pf3 : F 0 1 = (D 3 : Int)) (pf4 : F 3 0 = (D 4 : Int)) (pf5 : F 4 0 = (D 5 : Int)) (pf6 : F 3 8 = (D 6 : Int)) (pf7 : F 3 7 = (D 7 : Int)) (pf8 : F 3 1 = (D 8 : Int)) (pf9 : F 3 2 = (D 9 : Int)) (pf10 : F 3 3 = (D 10 : Int)) (n2 : Int) (en2 : (N 2 : Int) = n2) (n5 : Int) (en5 : (N 5 : Int) = n5) (n6 : Int) (en6 : (N 6 : Int) = n6) (n7 : Int) (en7 : (N 7 : Int) = n7) (n8 : Int) (en8 : (N 8 : Int) = n8) (n9 : Int) (en9 : (N 9 : Int) = n9) (n10 : Int) (en10 : (N 10 : Int) = n10) (u1_1 : Int) (eu1_1 : F 1 1 = u1_1) (u1_2 : Int) (eu1_2 : F 1 2 = u1_2) (u3_6 : Int) (eu3_6 : F 3 6 = u3_6) (u3_9 : Int) (eu3_9 : F 3 9 = u3_9) (u3_10 : Int) (eu3_10 : F 3 10 = u3_10) (u3_11 : Int) (eu3_11 : F 3 11 = u3_11) (u4_1 : Int) (eu4_1 : F 4 1 = u4_1) (w2 : Int → Int) (ew2 : A 2 = w2) (w5 : Int → Int) (ew5 : A 5 = w5) (w6 : Int → Int) (ew6 : A 6 = w6) (w7 : Int → Int) (ew7 : A 7 = w7) (h0 : 0 ≤ (u1_1) ∧ (u1_1) ≤ (n2) ∧ (n2) ≤ 65536) (h1 : 0 ≤ (u4_1) ∧ (u4_1) ≤ (n5) ∧ (n5) ≤ 65536 ∧ (u4_1) ≤ 16384) (h2 : (u3_10) = 4) (h3 : BKI ((w5)) ((w6)) ((u3_10)) ((u3_6))) (h4 : HDI ((w5)) ((w7)) ((u3_10)) ((u3_6))) (h5 : (n8) = (n9) ∧ (n10) = (n9) ∧ (n9) ≤ 65536 ∧ ((n9) = 0 ∨ 64 ≤ (n9)) ∧ lgq ((n9)) = 0) (h6 : (n7) = 2048) (h7 : 0 ≤ (u3_6) ∧ (u3_6) ≤ (n6) ∧ (n6) ≤ 16384) (h8 : (u3_11) = 65535) (k : ∀ (σ : rS) (Dₚ Nₚ : Nat → Nat) (Fₚ : hF) (Aₚ : hA) (cₚ sₚ : Nat), HW V194_thispackeda σ Dₚ Nₚ Fₚ Aₚ → OUT (V194_thispackeda).length D N σE c s Dₚ Nₚ σ cₚ sₚ → SD [2, 6, 8, 9, 10] D Dₚ → SD [2, 6, 8, 9, 10] N Nₚ → SF [(1, 0), (1, 1), (1, 2), (3, 1), (3, 2), (3, 3), (3, 4), (3, 5), (3, 6), (3, 8), (3, 12), (3, 13), (3, 14), (3, 15), (3, 16), (3, 17), (3, 18)] F Fₚ → SA [2, 6, 7, 8, 9, 10] A Aₚ → Fₚ 1 0 = (Dₚ 2 : Int) → Fₚ 3 8 = (Dₚ 6 : Int) → Fₚ 3 1 = (Dₚ 8 : Int) → Fₚ 3 2 = (Dₚ 9 : Int) → Fₚ 3 3 = (Dₚ 10 : Int) → ∀ m2 : Int, (Nₚ 2 : Int) = m2 → ∀ m6 : Int, (Nₚ 6 : Int) = m6 → ∀ m8 : Int, (Nₚ 8 : Int) = m8 → ∀ m9 : Int, (Nₚ 9 : Int) = m9 → ∀ m10 : Int, (Nₚ 10 : Int) = m10 → ∀ y1_1 : Int, Fₚ 1 1 = y1_1 → ∀ y1_2 : Int, Fₚ 1 2 = y1_2 → ∀ y3_6 : Int, Fₚ 3 6 = y3_6 → ∀ v2 : Int → Int, Aₚ 2 = v2 → ∀ v6 : Int → Int, Aₚ 6 = v6 → ∀ v7 : Int → Int, Aₚ 7 = v7 → (0 ≤ (y1_1) ∧ (y1_1) ≤ (m2) ∧ (m2) ≤ 65536) → (0 ≤ (y3_6) ∧ (u3_6) ≤ (y3_6) ∧ (y3_6) ≤ (m6) ∧ (m6) ≤ 16384) → ((m8) = (m9) ∧ (m10) = (m9) ∧ (m9) ≤ 65536 ∧ ((m9) = 0 ∨ 64 ≤ (m9)) ∧ lgq ((m9)) = 0) → (BKI ((w5)) ((v6)) ((u3_10)) ((y3_6))) → (HDI ((w5)) ((v7)) ((u3_10)) ((y3_6))) → ((y3_6) = (u3_6) ∨ (y3_6) + 4 ≤ (u4_1) + 1) → (PKG ((u3_9)) (sc ((w5)) 0 ((u4_1))) ((u1_2)) ((w2)) ((u1_1)) ((y1_2)) ((v2)) ((y1_1))) → Q none σ cₚ sₚ) : Ew 194 (d + 4) 0 (rargs 0 [.ref (D 0), .ref (D 1)]) [] σE c s Q := by
  have O := OUT_refl (n := (V194_thispackeda).length) (D := D) (N := N) (σ := σE) (c := c) (s := s)
  have HE := H
  have r1 : (-2147483648 : Int) ≤ u1_1 ∧ u1_1 ≤ 2147483647 := rngE (show (-2147483648 : Int) ≤ F 1 1 ∧ F 1 1 ≤ 2147483647 from H.krg 1 1 (ltn len_V194_thispackeda_oz_D8cls rfl)) (show F 1 1 = u1_1 from (eu1_1))
  have r2 : (0 : Int) ≤ u1_2 ∧ u1_2 ≤ 1 := rngE (show (0 : Int) ≤ F 1 2 ∧ F 1 2 ≤ 1 from H.krg 1 2 (ltn len_V194_thispackeda_oz_D8cls rfl)) (show F 1 2 = u1_2 from (eu1_2))
  have r3 : (-2147483648 : Int) ≤ u3_6 ∧ u3_6 ≤ 2147483647 := rngE (show (-2147483648 : Int) ≤ F 3 6 ∧ F 3 6 ≤ 2147483647 from H.krg 3 6 (ltn len_V194_thispackeda_oz_D8cls rfl)) (show F 3 6 = u3_6 from (eu3_6))
  have r4 : (-2147483648 : Int) ≤ u3_9 ∧ u3_9 ≤ 2147483647 := rngE (show (-2147483648 : Int) ≤ F 3 9 ∧ F 3 9 ≤ 2147483647 from H.krg 3 9 (ltn len_V194_thispackeda_oz_D8cls rfl)) (show F 3 9 = u3_9 from (eu3_9))
  have r5 : (-2147483648 : Int) ≤ u3_10 ∧ u3_10 ≤ 2147483647 := rngE (show (-2147483648 : Int) ≤ F 3 10 ∧ F 3 10 ≤ 2147483647 from H.krg 3 10 (ltn len_V194_thispackeda_oz_D8cls rfl)) (show F 3 10 = u3_10 from (eu3_10))
  have r6 : (-2147483648 : Int) ≤ u3_11 ∧ u3_11 ≤ 2147483647 := rngE (show (-2147483648 : Int) ≤ F 3 11 ∧ F 3 11 ≤ 2147483647 from H.krg 3 11 (ltn len_V194_thispackeda_oz_D8cls rfl)) (show F 3 11 = u3_11 from (eu3_11))
  have r7 : (-2147483648 : Int) ≤ u4_1 ∧ u4_1 ≤ 2147483647 := rngE (show (-2147483648 : Int) ≤ F 4 1 ∧ F 4 1 ≤ 2147483647 from H.krg 4 1 (ltn len_V194_thispackeda_oz_D8cls rfl)) (show F 4 1 = u4_1 from (eu4_1))
  have r8 : (0 : Int) ≤ n2 ∧ n2 ≤ 1000000 := nleE (H.nle 2 (ltn len_V194_thispackeda_oz_D8cls rfl)) (show (N 2 : Int) = n2 from en2)
  have r9 : (0 : Int) ≤ n5 ∧ n5 ≤ 1000000 := nleE (H.nle 5 (ltn len_V194_thispackeda_oz_D8cls rfl)) (show (N 5 : Int) = n5 from en5)
  have r10 : (0 : Int) ≤ n6 ∧ n6 ≤ 1000000 := nleE (H.nle 6 (ltn len_V194_thispackeda_oz_D8cls rfl)) (show (N 6 : Int) = n6 from en6)
  have r11 : (0 : Int) ≤ n7 ∧ n7 ≤ 1000000 := nleE (H.nle 7 (ltn len_V194_thispackeda_oz_D8cls rfl)) (show (N 7 : Int) = n7 from en7)
  have r12 : (0 : Int) ≤ n8 ∧ n8 ≤ 1000000 := nleE (H.nle 8 (ltn len_V194_thispackeda_oz_D8cls rfl)) (show (N 8 : Int) = n8 from en8)
  have r13 : (0 : Int) ≤ n9 ∧ n9 ≤ 1000000 := nleE (H.nle 9 (ltn len_V194_thispackeda_oz_D8cls rfl)) (show (N 9 : Int) = n9 from en9)
  have r14 : (0 : Int) ≤ n10 ∧ n10 ≤ 1000000 := nleE (H.nle 10 (ltn len_V194_thispackeda_oz_D8cls rfl)) (show (N 10 : Int) = n10 from en10)
  refine Ew_of (pcₚ := 1) (fun _ => x_aload_n rfl rfl) ?_
  refine v_g H (o := 0) (v := .ref (D 3)) rfl rfl rfl rfl rfl (vrf (pf3)) ?_
  refine v_g H (o := 3) (v := .ref (D 4)) rfl rfl rfl rfl rfl (vrf (pf4)) ?_
  refine v_g H (o := 4) (v := I (u4_1)) rfl rfl rfl rfl rfl (congrArg (fun z : Int => I z) ((eu4_1) : F 4 1 = u4_1)) ?_
  refine Ew_of (pcₚ := 11) (fun _ => x_istore_n rfl) ?_
  refine Ew_of (pcₚ := 12) (fun _ => x_aload_n rfl (rk_o (rfl) rfl rfl)) ?_
  refine Ew_of (pcₚ := 13) (fun _ => x_iload_n rfl rk_s) ?_
  refine w_stat24 rfl rfl (by rfl) (C195_Row (D := puc 1025 D) (N := puc 1025 N) (HW_subc H oz_D8cls_17 oz_D8cls_15) (pf2) (n2) (en2) (u1_1) ((eu1_1)) (u1_2) ((eu1_2)) (w2) (ew2) (show inr (u4_1) from q_3068 h1) (show 0 ≤ (u1_1) ∧ (u1_1) ≤ (n2) ∧ (n2) ≤ 65536 from h0) (show 0 ≤ (u4_1) ∧ (u4_1) ≤ 65536 from q_3183 h1) (fun σ15 D15ₚ N15ₚ F15ₚ A15ₚ c15 s15 Hₚ Oₚ hD15 hN15 hS15 hA15 pm15_1 m15_1 em15_1 y15_0_1 ey15_0_1 y15_0_2 ey15_0_2 w15_1 ew15_1 pz15_0 pz15_1 => ⟨rfl, ?_⟩))
  refine v_backMc (c := c) (s := s) H oz_D8cls_17 oz_D8cls_15 Hₚ Oₚ hD15 oz_D8cls_18 (fun D15 N15 F15 A15 H Oₚ eD15 eN15 eF15 eA15 => ?_)
  have O := OUT_trans O Oₚ
  -- Tags.packLength
  have cF15 : SF oz_D8clsl_7 F F15 := SF_trans (SF_refl) (SF_gluc (ι := oz_D8clsl_6) oz_D8cls_15 hS15 eF15 (by decide +kernel)) (any_sub (lₚ := [(1, 0), (1, 1), (1, 2)]) (by decide +kernel))
  have mF15 := SFm_of cF15 oz_D8cls_26
  have cA15 : SA oz_D8clsl_8 A A15 := SA_trans (SA_refl) (SA_gluc (ι := oz_D8clsl_6) oz_D8cls_15 hA15 eA15 (by decide +kernel)) (any_subA (lₚ := [2]) (by decide +kernel))
  have mA15 := SAm_of cA15 oz_D8cls_27
  have cD15 : SD oz_D8clsl_9 D D15 := SD_trans (SD_refl) (SD_gluc (ι := oz_D8clsl_6) oz_D8cls_15 hD15 eD15 (by decide +kernel)) (any_subA (lₚ := [2]) (by decide +kernel))
  have mD15 := SDm_of cD15 oz_D8cls_28
  have cN15 : SD oz_D8clsl_9 N N15 := SD_trans (SD_refl) (SD_gluc (ι := oz_D8clsl_6) oz_D8cls_15 hN15 eN15 (by decide +kernel)) (any_subA (lₚ := [2]) (by decide +kernel))
  have mN15 := SDm_of cN15 oz_D8cls_28
  have pf15_1_0 : F15 1 0 = (D15 2 : Int) := (eF15 1 0).trans (pm15_1.trans (congrArg (fun q : Nat => (q : Int)) (eD15 2).symm))
  have pf15_3_1 : F15 3 1 = (D15 8 : Int) := ((show F15 3 1 = F 3 1 from (eF15 3 1))).trans ((pf8).trans (congrArg (fun q : Nat => (q : Int)) ((show D15 8 = D 8 from (eD15 8))).symm))
  have pf15_3_2 : F15 3 2 = (D15 9 : Int) := ((show F15 3 2 = F 3 2 from (eF15 3 2))).trans ((pf9).trans (congrArg (fun q : Nat => (q : Int)) ((show D15 9 = D 9 from (eD15 9))).symm))
  have pf15_3_3 : F15 3 3 = (D15 10 : Int) := ((show F15 3 3 = F 3 3 from (eF15 3 3))).trans ((pf10).trans (congrArg (fun q : Nat => (q : Int)) ((show D15 10 = D 10 from (eD15 10))).symm))
  have pf15_3_8 : F15 3 8 = (D15 6 : Int) := ((show F15 3 8 = F 3 8 from (eF15 3 8))).trans ((pf6).trans (congrArg (fun q : Nat => (q : Int)) ((show D15 6 = D 6 from (eD15 6))).symm))
  have r16 : (0 : Int) ≤ m15_1 ∧ m15_1 ≤ 1000000 := nleE (H.nle 2 (ltn len_V194_thispackeda_oz_D8cls rfl)) (show (N15 2 : Int) = m15_1 from (congrArg (fun q : Nat => (q : Int)) (eN15 2)).trans em15_1)
  have r17 : (-2147483648 : Int) ≤ y15_0_1 ∧ y15_0_1 ≤ 2147483647 := rngE (show (-2147483648 : Int) ≤ F15 1 1 ∧ F15 1 1 ≤ 2147483647 from H.krg 1 1 (ltn len_V194_thispackeda_oz_D8cls rfl)) (show F15 1 1 = y15_0_1 from ((eF15 1 1).trans ey15_0_1))
  have r18 : (0 : Int) ≤ y15_0_2 ∧ y15_0_2 ≤ 1 := rngE (show (0 : Int) ≤ F15 1 2 ∧ F15 1 2 ≤ 1 from H.krg 1 2 (ltn len_V194_thispackeda_oz_D8cls rfl)) (show F15 1 2 = y15_0_2 from ((eF15 1 2).trans ey15_0_2))
  have hpl := pz15_1
  refine Ew_of (pcₚ := 17) (fun _ => x_aload_n rfl (rk_o (rfl) rfl rfl)) ?_
  refine Ew_stk (congrArg (fun qz : Nat => ([.ref qz] : List Value)) (show D15 0 = D 0 from mD15 0 rfl).symm) ?_
  refine v_g H (o := 0) (v := .ref (D15 3)) rfl rfl rfl rfl rfl (vrf ((mF15 0 1 rfl).trans ((pf3).trans (congrArg (fun q : Nat => (q : Int)) (mD15 3 rfl).symm)))) ?_
  refine Ew_of (pcₚ := 21) (fun _ => x_iload_n rfl rk_s) ?_
  refine v_inv H (o := 3) rfl rfl rfl rfl rfl rfl (by rfl) (C123 (D := puc 481842956291 D15) (N := puc 481842956291 N15) (HW_subc H oz_D8cls_19 oz_D8cls_29) ((mF15 3 0 rfl).trans ((pf4).trans (congrArg (fun q : Nat => (q : Int)) (mD15 4 rfl).symm))) ((mF15 4 0 rfl).trans ((pf5).trans (congrArg (fun q : Nat => (q : Int)) (mD15 5 rfl).symm))) (pf15_3_8) ((mF15 3 7 rfl).trans ((pf7).trans (congrArg (fun q : Nat => (q : Int)) (mD15 7 rfl).symm))) (n5) ((congrArg (fun q : Nat => (q : Int)) (mN15 5 rfl)).trans (en5)) (n6) ((congrArg (fun q : Nat => (q : Int)) (show N15 6 = N 6 from (eN15 6))).trans (en6)) (n7) ((congrArg (fun q : Nat => (q : Int)) (mN15 7 rfl)).trans (en7)) (u3_6) ((((show F15 3 6 = F 3 6 from (eF15 3 6))).trans (eu3_6))) (u3_10) (((mF15 3 10 rfl).trans (eu3_10))) (u4_1) (((mF15 4 1 rfl).trans (eu4_1))) (w5) ((funext (mA15 5 rfl)).trans (ew5)) (w6) (((show A15 6 = A 6 from (eA15 6))).trans (ew6)) (w7) (((show A15 7 = A 7 from (eA15 7))).trans (ew7)) (show inr (u4_1) from q_3068 h1) (show 0 ≤ (u4_1) ∧ (u4_1) ≤ (n5) ∧ (n5) ≤ 65536 ∧ (u4_1) ≤ 16384 from h1) (show 1 ≤ (u3_10) ∧ (u3_10) ≤ 8 from q_3067 h2) (show 0 ≤ (u4_1) ∧ (u4_1) ≤ (u4_1) from q_3066 h1) (h3) (show HDI ((w5)) ((w7)) ((u3_10)) ((u3_6)) by assumption) (show (n7) = 2048 from h6) (show 0 ≤ (u3_6) ∧ (u3_6) ≤ (n6) ∧ (n6) ≤ 16384 from h7) (fun σ19 D19ₚ N19ₚ F19ₚ A19ₚ c19 s19 Hₚ Oₚ hD19 hN19 hS19 hA19 pm19_3 m19_3 em19_3 y19_0_6 ey19_0_6 w19_3 ew19_3 w19_4 ew19_4 pz19_0 pz19_1 pz19_2 pz19_3 pz19_4 => ⟨rfl, ?_⟩))
  refine v_backMc (c := (c + c15)) (s := (s + s15)) H oz_D8cls_19 oz_D8cls_29 Hₚ Oₚ hD19 oz_D8cls_20 (fun D19 N19 F19 A19 H Oₚ eD19 eN19 eF19 eA19 => ?_)
  have O := OUT_trans O Oₚ
  -- Finder.lay
  have cF19 : SF oz_D8clsl_7 F F19 := SF_trans (cF15) (SF_gluc (ι := oz_D8clsl_10) oz_D8cls_29 hS19 eF19 (by decide +kernel)) (any_sub (lₚ := [(3, 6), (3, 8)]) (by decide +kernel))
  have mF19 := SFm_of cF19 oz_D8cls_26
  have cA19 : SA oz_D8clsl_8 A A19 := SA_trans (cA15) (SA_gluc (ι := oz_D8clsl_10) oz_D8cls_29 hA19 eA19 (by decide +kernel)) (any_subA (lₚ := [6, 7]) (by decide +kernel))
  have mA19 := SAm_of cA19 oz_D8cls_27
  have cD19 : SD oz_D8clsl_9 D D19 := SD_trans (cD15) (SD_gluc (ι := oz_D8clsl_10) oz_D8cls_29 hD19 eD19 (by decide +kernel)) (any_subA (lₚ := [6]) (by decide +kernel))
  have mD19 := SDm_of cD19 oz_D8cls_28
  have cN19 : SD oz_D8clsl_9 N N19 := SD_trans (cN15) (SD_gluc (ι := oz_D8clsl_10) oz_D8cls_29 hN19 eN19 (by decide +kernel)) (any_subA (lₚ := [6]) (by decide +kernel))
  have mN19 := SDm_of cN19 oz_D8cls_28
  have pf19_1_0 : F19 1 0 = (D19 2 : Int) := ((show F19 1 0 = F15 1 0 from (eF19 1 0))).trans ((pf15_1_0).trans (congrArg (fun q : Nat => (q : Int)) ((show D19 2 = D15 2 from (eD19 2))).symm))
  have pf19_3_1 : F19 3 1 = (D19 8 : Int) := ((show F19 3 1 = F15 3 1 from (eF19 3 1).trans (hS19 0 1 rfl))).trans ((pf15_3_1).trans (congrArg (fun q : Nat => (q : Int)) ((show D19 8 = D15 8 from (eD19 8))).symm))
  have pf19_3_2 : F19 3 2 = (D19 9 : Int) := ((show F19 3 2 = F15 3 2 from (eF19 3 2).trans (hS19 0 2 rfl))).trans ((pf15_3_2).trans (congrArg (fun q : Nat => (q : Int)) ((show D19 9 = D15 9 from (eD19 9))).symm))
  have pf19_3_3 : F19 3 3 = (D19 10 : Int) := ((show F19 3 3 = F15 3 3 from (eF19 3 3).trans (hS19 0 3 rfl))).trans ((pf15_3_3).trans (congrArg (fun q : Nat => (q : Int)) ((show D19 10 = D15 10 from (eD19 10))).symm))
  have pf19_3_8 : F19 3 8 = (D19 6 : Int) := (eF19 3 8).trans (pm19_3.trans (congrArg (fun q : Nat => (q : Int)) (eD19 6).symm))
  have r20 : (0 : Int) ≤ m19_3 ∧ m19_3 ≤ 1000000 := nleE (H.nle 6 (ltn len_V194_thispackeda_oz_D8cls rfl)) (show (N19 6 : Int) = m19_3 from (congrArg (fun q : Nat => (q : Int)) (eN19 6)).trans em19_3)
  have r21 : (-2147483648 : Int) ≤ y19_0_6 ∧ y19_0_6 ≤ 2147483647 := rngE (show (-2147483648 : Int) ≤ F19 3 6 ∧ F19 3 6 ≤ 2147483647 from H.krg 3 6 (ltn len_V194_thispackeda_oz_D8cls rfl)) (show F19 3 6 = y19_0_6 from ((eF19 3 6).trans ey19_0_6))
  refine Ew_of (pcₚ := 25) (fun _ => x_aload_n rfl (rk_o (rfl) rfl rfl)) ?_
  refine Ew_stk (congrArg (fun qz : Nat => ([.ref qz] : List Value)) (show D19 0 = D 0 from mD19 0 rfl).symm) ?_
  refine v_g H (o := 0) (v := .ref (D19 3)) rfl rfl rfl rfl rfl (vrf ((mF19 0 1 rfl).trans ((pf3).trans (congrArg (fun q : Nat => (q : Int)) (mD19 3 rfl).symm)))) ?_
  refine Ew_of (pcₚ := 29) (fun _ => x_iconst rfl) ?_
  refine Ew_of (pcₚ := 30) (fun _ => x_iload_n rfl rk_s) ?_
  refine Ew_of (pcₚ := 31) (fun _ => x_iload_n rfl rk_s) ?_
  refine Ew_of (pcₚ := 32) (fun _ => x_iload_n rfl rk_s) ?_
  refine Ew_of (pcₚ := 33) (fun _ => x_iconst rfl) ?_
  refine w_isub rfl ?_
  have r22 : (-2147483648 : Int) ≤ F 3 4 ∧ F 3 4 ≤ 2147483647 := rngE (show (-2147483648 : Int) ≤ F19 3 4 ∧ F19 3 4 ≤ 2147483647 from H.krg 3 4 (ltn len_V194_thispackeda_oz_D8cls rfl)) (show F19 3 4 = F 3 4 from (((show F19 3 4 = F15 3 4 from (eF19 3 4).trans (hS19 0 4 rfl))).trans ((show F15 3 4 = F 3 4 from (eF15 3 4)))))
  have r23 : (-2147483648 : Int) ≤ F 3 5 ∧ F 3 5 ≤ 2147483647 := rngE (show (-2147483648 : Int) ≤ F19 3 5 ∧ F19 3 5 ≤ 2147483647 from H.krg 3 5 (ltn len_V194_thispackeda_oz_D8cls rfl)) (show F19 3 5 = F 3 5 from (((show F19 3 5 = F15 3 5 from (eF19 3 5).trans (hS19 0 5 rfl))).trans ((show F15 3 5 = F 3 5 from (eF15 3 5)))))
  refine v_inv H (o := 3) rfl rfl rfl rfl rfl rfl (by rfl) (C125 (D := puc 180461195006052355 D19) (N := puc 180461195006052355 N19) (HW_subc H oz_D8cls_21 oz_D8cls_30) ((mF19 3 0 rfl).trans ((pf4).trans (congrArg (fun q : Nat => (q : Int)) (mD19 4 rfl).symm))) ((mF19 4 0 rfl).trans ((pf5).trans (congrArg (fun q : Nat => (q : Int)) (mD19 5 rfl).symm))) (pf19_3_8) (pf19_3_1) (pf19_3_2) (pf19_3_3) (n5) ((congrArg (fun q : Nat => (q : Int)) (mN19 5 rfl)).trans (en5)) (m19_3) ((congrArg (fun q : Nat => (q : Int)) (eN19 6)).trans em19_3) (n8) ((congrArg (fun q : Nat => (q : Int)) (show N19 8 = N15 8 from (eN19 8))).trans ((congrArg (fun q : Nat => (q : Int)) (show N15 8 = N 8 from (eN15 8))).trans (en8))) (n9) ((congrArg (fun q : Nat => (q : Int)) (show N19 9 = N15 9 from (eN19 9))).trans ((congrArg (fun q : Nat => (q : Int)) (show N15 9 = N 9 from (eN15 9))).trans (en9))) (n10) ((congrArg (fun q : Nat => (q : Int)) (show N19 10 = N15 10 from (eN19 10))).trans ((congrArg (fun q : Nat => (q : Int)) (show N15 10 = N 10 from (eN15 10))).trans (en10))) (F 3 4) ((((show F19 3 4 = F15 3 4 from (eF19 3 4).trans (hS19 0 4 rfl))).trans ((show F15 3 4 = F 3 4 from (eF15 3 4))))) (F 3 5) ((((show F19 3 5 = F15 3 5 from (eF19 3 5).trans (hS19 0 5 rfl))).trans ((show F15 3 5 = F 3 5 from (eF15 3 5))))) (y19_0_6) (((eF19 3 6).trans ey19_0_6)) (u3_9) (((mF19 3 9 rfl).trans (eu3_9))) (u3_10) (((mF19 3 10 rfl).trans (eu3_10))) (u3_11) (((mF19 3 11 rfl).trans (eu3_11))) (u4_1) (((mF19 4 1 rfl).trans (eu4_1))) (w5) ((funext (mA19 5 rfl)).trans (ew5)) (w19_3) ((eA19 6).trans ew19_3) (A 8) (((show A19 8 = A15 8 from (eA19 8))).trans ((show A15 8 = A 8 from (eA15 8)))) (A 9) (((show A19 9 = A15 9 from (eA19 9))).trans ((show A15 9 = A 9 from (eA15 9)))) (A 10) (((show A19 10 = A15 10 from (eA19 10))).trans ((show A15 10 = A 10 from (eA15 10)))) (show inr (0) from q_2) (show inr (u4_1) from q_3068 h1) (show inr (u4_1) from q_3068 h1) (show inr ((u4_1 - 4)) from q_3186 h1) (show 0 ≤ (u4_1) ∧ (u4_1) ≤ (n5) ∧ (n5) ≤ 65536 ∧ (u4_1) ≤ 16384 from h1) (show 1 ≤ (u3_10) ∧ (u3_10) ≤ 8 from q_3067 h2) (show 0 ≤ (0) ∧ (0) ≤ (u4_1) ∧ (u4_1) ≤ (u4_1) from q_3185 h1) (show (u4_1) ≤ (u4_1) ∧ ((u4_1 - 4)) < (u4_1) ∧ ((u4_1 - 4)) < (y19_0_6) from q_3184 h2 pz19_1) (show 0 ≤ (y19_0_6) ∧ (y19_0_6) ≤ (m19_3) ∧ (m19_3) ≤ 16384 from q_3069 h7 pz19_0) (pz19_3) (show (n8) = (n9) ∧ (n10) = (n9) ∧ (n9) ≤ 65536 ∧ ((n9) = 0 ∨ 64 ≤ (n9)) ∧ lgq ((n9)) = 0 from h5) (fun σ24 D24ₚ N24ₚ F24ₚ A24ₚ c24 s24 Hₚ Oₚ hD24 hN24 hS24 hA24 pm24_4 pm24_5 pm24_6 m24_4 em24_4 m24_5 em24_5 m24_6 em24_6 y24_0_4 ey24_0_4 y24_0_5 ey24_0_5 w24_4 ew24_4 w24_5 ew24_5 w24_6 ew24_6 pz24_0 pz24_1 pz24_2 pz24_3 pz24_4 => ⟨rfl, ?_⟩))
  refine v_backMc (c := ((c + c15) + c19)) (s := ((s + s15) + s19)) H oz_D8cls_21 oz_D8cls_30 Hₚ Oₚ hD24 oz_D8cls_22 (fun D24 N24 F24 A24 H Oₚ eD24 eN24 eF24 eA24 => ?_)
  have O := OUT_trans O Oₚ
  -- Finder.go
  have cF24 : SF oz_D8clsl_7 F F24 := SF_trans (cF19) (SF_gluc (ι := oz_D8clsl_11) oz_D8cls_30 hS24 eF24 (by decide +kernel)) (any_sub (lₚ := [(3, 1), (3, 2), (3, 3), (3, 4), (3, 5), (3, 12), (3, 13), (3, 14), (3, 15), (3, 16), (3, 17), (3, 18)]) (by decide +kernel))
  have mF24 := SFm_of cF24 oz_D8cls_26
  have cA24 : SA oz_D8clsl_8 A A24 := SA_trans (cA19) (SA_gluc (ι := oz_D8clsl_11) oz_D8cls_30 hA24 eA24 (by decide +kernel)) (any_subA (lₚ := [8, 9, 10]) (by decide +kernel))
  have mA24 := SAm_of cA24 oz_D8cls_27
  have cD24 : SD oz_D8clsl_9 D D24 := SD_trans (cD19) (SD_gluc (ι := oz_D8clsl_11) oz_D8cls_30 hD24 eD24 (by decide +kernel)) (any_subA (lₚ := [8, 9, 10]) (by decide +kernel))
  have mD24 := SDm_of cD24 oz_D8cls_28
  have cN24 : SD oz_D8clsl_9 N N24 := SD_trans (cN19) (SD_gluc (ι := oz_D8clsl_11) oz_D8cls_30 hN24 eN24 (by decide +kernel)) (any_subA (lₚ := [8, 9, 10]) (by decide +kernel))
  have mN24 := SDm_of cN24 oz_D8cls_28
  have pf24_1_0 : F24 1 0 = (D24 2 : Int) := ((show F24 1 0 = F19 1 0 from (eF24 1 0))).trans ((pf19_1_0).trans (congrArg (fun q : Nat => (q : Int)) ((show D24 2 = D19 2 from (eD24 2))).symm))
  have pf24_3_1 : F24 3 1 = (D24 8 : Int) := (eF24 3 1).trans (pm24_4.trans (congrArg (fun q : Nat => (q : Int)) (eD24 8).symm))
  have pf24_3_2 : F24 3 2 = (D24 9 : Int) := (eF24 3 2).trans (pm24_5.trans (congrArg (fun q : Nat => (q : Int)) (eD24 9).symm))
  have pf24_3_3 : F24 3 3 = (D24 10 : Int) := (eF24 3 3).trans (pm24_6.trans (congrArg (fun q : Nat => (q : Int)) (eD24 10).symm))
  have pf24_3_8 : F24 3 8 = (D24 6 : Int) := ((show F24 3 8 = F19 3 8 from (eF24 3 8).trans (hS24 0 8 rfl))).trans ((pf19_3_8).trans (congrArg (fun q : Nat => (q : Int)) ((show D24 6 = D19 6 from (eD24 6).trans (hD24 3 rfl))).symm))
  have r25 : (0 : Int) ≤ m24_4 ∧ m24_4 ≤ 1000000 := nleE (H.nle 8 (ltn len_V194_thispackeda_oz_D8cls rfl)) (show (N24 8 : Int) = m24_4 from (congrArg (fun q : Nat => (q : Int)) (eN24 8)).trans em24_4)
  have r26 : (0 : Int) ≤ m24_5 ∧ m24_5 ≤ 1000000 := nleE (H.nle 9 (ltn len_V194_thispackeda_oz_D8cls rfl)) (show (N24 9 : Int) = m24_5 from (congrArg (fun q : Nat => (q : Int)) (eN24 9)).trans em24_5)
  have r27 : (0 : Int) ≤ m24_6 ∧ m24_6 ≤ 1000000 := nleE (H.nle 10 (ltn len_V194_thispackeda_oz_D8cls rfl)) (show (N24 10 : Int) = m24_6 from (congrArg (fun q : Nat => (q : Int)) (eN24 10)).trans em24_6)
  have r28 : (-2147483648 : Int) ≤ y24_0_4 ∧ y24_0_4 ≤ 2147483647 := rngE (show (-2147483648 : Int) ≤ F24 3 4 ∧ F24 3 4 ≤ 2147483647 from H.krg 3 4 (ltn len_V194_thispackeda_oz_D8cls rfl)) (show F24 3 4 = y24_0_4 from ((eF24 3 4).trans ey24_0_4))
  have r29 : (-2147483648 : Int) ≤ y24_0_5 ∧ y24_0_5 ≤ 2147483647 := rngE (show (-2147483648 : Int) ≤ F24 3 5 ∧ F24 3 5 ≤ 2147483647 from H.krg 3 5 (ltn len_V194_thispackeda_oz_D8cls rfl)) (show F24 3 5 = y24_0_5 from ((eF24 3 5).trans ey24_0_5))
  refine Ew_of (pcₚ := 38) (fun _ => x_iconst rfl) ?_
  refine Ew_of (pcₚ := 39) (fun _ => x_istore_n rfl) ?_
  refine Ew_of (pcₚ := 40) (fun _ => x_iconst rfl) ?_
  refine Ew_of (pcₚ := 42) (fun _ => x_istore rfl) ?_
  have : su (fun j => ((w24_4)) j + ((w24_5)) j) (0 : Int).toNat = 0 := rfl
  have hfd : FDI ((w24_4)) ((w24_5)) ((w24_6)) ((y24_0_4)) ((u4_1) - 0 - (y24_0_5)) ((u3_10)) := pz24_3
  have hgo := pz24_4
  have : RTO ((u1_2)) ((w2)) ((u1_1)) ((y15_0_2)) ((w15_1)) ((y15_0_1)) (vlr ((u4_1)) ++ tgE ((w5)) 0 (sq ((w24_4)) ((w24_5)) ((w24_6)) ((y24_0_4))) ((y24_0_5))) (tgE ((w5)) (0) (sqd ((w24_4)) ((w24_5)) ((w24_6)) (0) ((y24_0_4))) ((y24_0_5))) := by rw [sqd_0]; exact RTO_s RTO_0 rfl hpl
  suffices hl42 : ∀ (m : Nat), ∀ (ls : rO) (σ : rS) (D_42 N_42 : Nat → Nat) (c_42 s_42 : Nat) (F_42 : hF) (A_42 : hA) (x42_3 : Int) (x42_4 : Int), rlook ls 0 = some (.ref (D_42 0)) → rlook ls 1 = some (.ref (D_42 1)) → rlook ls 3 = some (I (x42_3)) → rlook ls 4 = some (I (x42_4)) → HW V194_thispackeda σ D_42 N_42 F_42 A_42 → OUT (V194_thispackeda).length D N σE c s D_42 N_42 σ c_42 s_42 → SD [2] D24 D_42 → SD [2] N24 N_42 → SF [(1, 0), (1, 1), (1, 2)] F24 F_42 → SA [2] A24 A_42 → F_42 1 0 = (D_42 2 : Int) → ∀ m42_2 : Int, (N_42 2 : Int) = m42_2 → ∀ y42_1_1 : Int, F_42 1 1 = y42_1_1 → ∀ y42_1_2 : Int, F_42 1 2 = y42_1_2 → ∀ w42_2 : Int → Int, A_42 2 = w42_2 → (inr (x42_3)) → (inr (x42_4)) → ((0) ≤ (x42_4)) → ((x42_4) ≤ (0) ∨ (x42_4) ≤ ((y24_0_4))) → (0 ≤ (y42_1_1) ∧ (y42_1_1) ≤ (m42_2) ∧ (m42_2) ≤ 65536) → ((x42_3) = su (fun j => ((w24_4)) j + ((w24_5)) j) ((x42_4) : Int).toNat) → (RTO ((u1_2)) ((w2)) ((u1_1)) ((y42_1_2)) ((w42_2)) ((y42_1_1)) (vlr ((u4_1)) ++ tgE ((w5)) 0 (sq ((w24_4)) ((w24_5)) ((w24_6)) ((y24_0_4))) ((y24_0_5))) (tgE ((w5)) ((x42_3)) (sqd ((w24_4)) ((w24_5)) ((w24_6)) ((x42_4)) ((y24_0_4))) ((y24_0_5)))) → (((y24_0_4)) - (x42_4)).toNat = m → Ew 194 (d + 4) 42 ls [] σ c_42 s_42 Q from
    hl42 _ _ _ _ _ _ _ _ _ (0) (0) ((rk_o (rk_o (rk_o (rfl) rfl rfl) rfl rfl) rfl rfl).trans (congrArg (fun q : Nat => some (Value.ref q)) (mD24 0 rfl).symm)) ((rk_o (rk_o (rk_o (rfl) rfl rfl) rfl rfl) rfl rfl).trans (congrArg (fun q : Nat => some (Value.ref q)) (mD24 1 rfl).symm)) (rk_o (rk_s) rfl rfl) (rk_s) H O (SD_refl) (SD_refl) (SF_refl) (SA_refl) (pf24_1_0) (m15_1) ((congrArg (fun q : Nat => (q : Int)) (show N24 2 = N19 2 from (eN24 2))).trans ((congrArg (fun q : Nat => (q : Int)) (show N19 2 = N15 2 from (eN19 2))).trans ((congrArg (fun q : Nat => (q : Int)) (eN15 2)).trans em15_1))) (y15_0_1) (((((show F24 1 1 = F19 1 1 from (eF24 1 1))).trans ((show F19 1 1 = F15 1 1 from (eF19 1 1)))).trans ((eF15 1 1).trans ey15_0_1))) (y15_0_2) (((((show F24 1 2 = F19 1 2 from (eF24 1 2))).trans ((show F19 1 2 = F15 1 2 from (eF19 1 2)))).trans ((eF15 1 2).trans ey15_0_2))) (w15_1) (((show A24 2 = A19 2 from (eA24 2))).trans (((show A19 2 = A15 2 from (eA19 2))).trans ((eA15 2).trans ew15_1))) (show inr (0) from q_2) (show inr (0) from q_2) (show (0) ≤ (0) from q_1) (show (0) ≤ (0) ∨ (0) ≤ ((y24_0_4)) from q_5) (show 0 ≤ (y15_0_1) ∧ (y15_0_1) ≤ (m15_1) ∧ (m15_1) ≤ 65536 from pz15_0) (show (0) = su (fun j => ((w24_4)) j + ((w24_5)) j) ((0) : Int).toNat by omega) (show RTO ((u1_2)) ((w2)) ((u1_1)) ((y15_0_2)) ((w15_1)) ((y15_0_1)) (vlr ((u4_1)) ++ tgE ((w5)) 0 (sq ((w24_4)) ((w24_5)) ((w24_6)) ((y24_0_4))) ((y24_0_5))) (tgE ((w5)) ((0)) (sqd ((w24_4)) ((w24_5)) ((w24_6)) ((0)) ((y24_0_4))) ((y24_0_5))) by assumption) rfl
  as_aux_lemma =>
  intro m
  induction m using Nat.strongRecOn with
  | _ m ih42 =>
    intro ls σ D_42 N_42 c_42 s_42 F_42 A_42 x42_3 x42_4 l42_0 l42_1 l42_3 l42_4 H O hD_42 hN_42 hS_42 hA_42 pm42_2 m42_2 em42_2 y42_1_1 ey42_1_1 y42_1_2 ey42_1_2 w42_2 ew42_2 j42_0 j42_1 j42_2 j42_3 j42_4 j42_5 j42_6 hm42
    have cF_42 : SF oz_D8clsl_7 F F_42 := SF_trans (cF24) hS_42 (any_sub (by decide +kernel))
    have mF_42 := SFm_of cF_42 oz_D8cls_26
    have cA_42 : SA oz_D8clsl_8 A A_42 := SA_trans (cA24) hA_42 (any_subA (by decide +kernel))
    have mA_42 := SAm_of cA_42 oz_D8cls_27
    have cD_42 : SD oz_D8clsl_9 D D_42 := SD_trans (cD24) hD_42 (any_subA (by decide +kernel))
    have mD_42 := SDm_of cD_42 oz_D8cls_28
    have cN_42 : SD oz_D8clsl_9 N N_42 := SD_trans (cN24) hN_42 (any_subA (by decide +kernel))
    have mN_42 := SDm_of cN_42 oz_D8cls_28
    have pf_42_3_1 : F_42 3 1 = (D_42 8 : Int) := (hS_42 3 1 rfl).trans ((pf24_3_1).trans (congrArg (fun q : Nat => (q : Int)) (hD_42 8 rfl).symm))
    have pf_42_3_2 : F_42 3 2 = (D_42 9 : Int) := (hS_42 3 2 rfl).trans ((pf24_3_2).trans (congrArg (fun q : Nat => (q : Int)) (hD_42 9 rfl).symm))
    have pf_42_3_3 : F_42 3 3 = (D_42 10 : Int) := (hS_42 3 3 rfl).trans ((pf24_3_3).trans (congrArg (fun q : Nat => (q : Int)) (hD_42 10 rfl).symm))
    have pf_42_3_8 : F_42 3 8 = (D_42 6 : Int) := (hS_42 3 8 rfl).trans ((pf24_3_8).trans (congrArg (fun q : Nat => (q : Int)) (hD_42 6 rfl).symm))
    have r30 : (0 : Int) ≤ m42_2 ∧ m42_2 ≤ 1000000 := nleE (H.nle 2 (ltn len_V194_thispackeda_oz_D8cls rfl)) (show (N_42 2 : Int) = m42_2 from em42_2)
    have r31 : (-2147483648 : Int) ≤ y42_1_1 ∧ y42_1_1 ≤ 2147483647 := rngE (show (-2147483648 : Int) ≤ F_42 1 1 ∧ F_42 1 1 ≤ 2147483647 from H.krg 1 1 (ltn len_V194_thispackeda_oz_D8cls rfl)) (show F_42 1 1 = y42_1_1 from (ey42_1_1))
    have r32 : (0 : Int) ≤ y42_1_2 ∧ y42_1_2 ≤ 1 := rngE (show (0 : Int) ≤ F_42 1 2 ∧ F_42 1 2 ≤ 1 from H.krg 1 2 (ltn len_V194_thispackeda_oz_D8cls rfl)) (show F_42 1 2 = y42_1_2 from (ey42_1_2))
    have j42_q : RTO ((u1_2)) ((w2)) ((u1_1)) ((y42_1_2)) ((w42_2)) ((y42_1_1)) (vlr ((u4_1)) ++ tgE ((w5)) 0 (sq ((w24_4)) ((w24_5)) ((w24_6)) ((y24_0_4))) ((y24_0_5))) (tgE ((w5)) ((x42_3)) (sqd ((w24_4)) ((w24_5)) ((w24_6)) ((x42_4)) ((y24_0_4))) ((y24_0_5))) := by assumption
    refine Ew_of (pcₚ := 44) (fun _ => x_iload rfl l42_4) ?_
    refine Ew_of (pcₚ := 45) (fun _ => x_aload_n rfl l42_0) ?_
    refine v_g H (o := 0) (v := .ref (D_42 3)) rfl rfl rfl rfl rfl (vrf ((mF_42 0 1 rfl).trans ((pf3).trans (congrArg (fun q : Nat => (q : Int)) (mD_42 3 rfl).symm)))) ?_
    refine v_g H (o := 3) (v := I (y24_0_4)) rfl rfl rfl rfl rfl (congrArg (fun z : Int => I z) (((hS_42 3 4 rfl).trans ((eF24 3 4).trans ey24_0_4)) : F_42 3 4 = y24_0_4)) ?_
    refine w_icmpge (t := 124) rfl rfl (show inr (x42_4) from j42_1) (show inr (y24_0_4) from q_3187 pz24_1 r28) (fun b33 => ?_) (fun b33 => ?_)
    · have hlx : (x42_4) = (y24_0_4) := q_3188 b33 j42_3 pz24_1
      have hst : su (fun j => ((w24_4)) j + ((w24_5)) j) ((x42_4) : Int).toNat = (u4_1) - 0 - (y24_0_5) := by rw [hlx]; exact hfd.2
      refine Ew_of (pcₚ := 125) (fun _ => x_aload_n rfl l42_0) ?_
      refine Ew_of (pcₚ := 126) (fun _ => x_aload_n rfl l42_1) ?_
      refine Ew_of (pcₚ := 127) (fun _ => x_iload_n rfl l42_3) ?_
      refine Ew_of (pcₚ := 128) (fun _ => x_aload_n rfl l42_0) ?_
      refine v_g H (o := 0) (v := .ref (D_42 3)) rfl rfl rfl rfl rfl (vrf ((mF_42 0 1 rfl).trans ((pf3).trans (congrArg (fun q : Nat => (q : Int)) (mD_42 3 rfl).symm)))) ?_
      refine v_g H (o := 3) (v := I (y24_0_5)) rfl rfl rfl rfl rfl (congrArg (fun z : Int => I z) (((hS_42 3 5 rfl).trans ((eF24 3 5).trans ey24_0_5)) : F_42 3 5 = y24_0_5)) ?_
      refine v_inv H (o := 0) rfl rfl rfl rfl rfl rfl (by rfl) (C196_thispackeda (D := puc 176197141529088 D_42) (N := puc 176197141529088 N_42) (HW_subc H oz_D8cls_23 oz_D8cls_31) ((mF_42 0 2 rfl).trans ((pf1).trans (congrArg (fun q : Nat => (q : Int)) (mD_42 1 rfl).symm))) (pm42_2) ((mF_42 0 1 rfl).trans ((pf3).trans (congrArg (fun q : Nat => (q : Int)) (mD_42 3 rfl).symm))) ((mF_42 3 0 rfl).trans ((pf4).trans (congrArg (fun q : Nat => (q : Int)) (mD_42 4 rfl).symm))) ((mF_42 4 0 rfl).trans ((pf5).trans (congrArg (fun q : Nat => (q : Int)) (mD_42 5 rfl).symm))) (m42_2) (em42_2) (n5) ((congrArg (fun q : Nat => (q : Int)) (mN_42 5 rfl)).trans (en5)) (y42_1_1) ((ey42_1_1)) (y42_1_2) ((ey42_1_2)) (u4_1) (((mF_42 4 1 rfl).trans (eu4_1))) (w42_2) (ew42_2) (w5) ((funext (mA_42 5 rfl)).trans (ew5)) (show inr (x42_3) from j42_0) (show inr (y24_0_5) from q_3189 pz24_2 r29) (show 0 ≤ (y42_1_1) ∧ (y42_1_1) ≤ (m42_2) ∧ (m42_2) ≤ 65536 from j42_4) (show 0 ≤ (u4_1) ∧ (u4_1) ≤ (n5) ∧ (n5) ≤ 65536 from q_3076 h1) (show 0 ≤ (x42_3) ∧ 0 ≤ (y24_0_5) ∧ (x42_3) + (y24_0_5) ≤ (n5) by omega) (fun σ34 D34ₚ N34ₚ F34ₚ A34ₚ c34 s34 Hₚ Oₚ hD34 hN34 hS34 hA34 pm34_2 m34_2 em34_2 y34_1_1 ey34_1_1 y34_1_2 ey34_1_2 w34_2 ew34_2 pz34_0 pz34_1 => ⟨rfl, ?_⟩))
      refine v_backMc (c := c_42) (s := s_42) H oz_D8cls_23 oz_D8cls_31 Hₚ Oₚ hD34 oz_D8cls_24 (fun D34 N34 F34 A34 H Oₚ eD34 eN34 eF34 eA34 => ?_)
      have O := OUT_trans O Oₚ
      -- Tags.packLiterals
      have cF34 : SF oz_D8clsl_7 F F34 := SF_trans (cF_42) (SF_gluc (ι := oz_D8clsl_12) oz_D8cls_31 hS34 eF34 (by decide +kernel)) (any_sub (lₚ := [(1, 0), (1, 1), (1, 2)]) (by decide +kernel))
      have mF34 := SFm_of cF34 oz_D8cls_26
      have cA34 : SA oz_D8clsl_8 A A34 := SA_trans (cA_42) (SA_gluc (ι := oz_D8clsl_12) oz_D8cls_31 hA34 eA34 (by decide +kernel)) (any_subA (lₚ := [2]) (by decide +kernel))
      have mA34 := SAm_of cA34 oz_D8cls_27
      have cD34 : SD oz_D8clsl_9 D D34 := SD_trans (cD_42) (SD_gluc (ι := oz_D8clsl_12) oz_D8cls_31 hD34 eD34 (by decide +kernel)) (any_subA (lₚ := [2]) (by decide +kernel))
      have mD34 := SDm_of cD34 oz_D8cls_28
      have cN34 : SD oz_D8clsl_9 N N34 := SD_trans (cN_42) (SD_gluc (ι := oz_D8clsl_12) oz_D8cls_31 hN34 eN34 (by decide +kernel)) (any_subA (lₚ := [2]) (by decide +kernel))
      have mN34 := SDm_of cN34 oz_D8cls_28
      have pf34_1_0 : F34 1 0 = (D34 2 : Int) := (eF34 1 0).trans (pm34_2.trans (congrArg (fun q : Nat => (q : Int)) (eD34 2).symm))
      have pf34_3_1 : F34 3 1 = (D34 8 : Int) := ((show F34 3 1 = F_42 3 1 from (eF34 3 1).trans (hS34 3 1 rfl))).trans ((pf_42_3_1).trans (congrArg (fun q : Nat => (q : Int)) ((show D34 8 = D_42 8 from (eD34 8))).symm))
      have pf34_3_2 : F34 3 2 = (D34 9 : Int) := ((show F34 3 2 = F_42 3 2 from (eF34 3 2).trans (hS34 3 2 rfl))).trans ((pf_42_3_2).trans (congrArg (fun q : Nat => (q : Int)) ((show D34 9 = D_42 9 from (eD34 9))).symm))
      have pf34_3_3 : F34 3 3 = (D34 10 : Int) := ((show F34 3 3 = F_42 3 3 from (eF34 3 3).trans (hS34 3 3 rfl))).trans ((pf_42_3_3).trans (congrArg (fun q : Nat => (q : Int)) ((show D34 10 = D_42 10 from (eD34 10))).symm))
      have pf34_3_8 : F34 3 8 = (D34 6 : Int) := ((show F34 3 8 = F_42 3 8 from (eF34 3 8).trans (hS34 3 8 rfl))).trans ((pf_42_3_8).trans (congrArg (fun q : Nat => (q : Int)) ((show D34 6 = D_42 6 from (eD34 6))).symm))
      have r35 : (0 : Int) ≤ m34_2 ∧ m34_2 ≤ 1000000 := nleE (H.nle 2 (ltn len_V194_thispackeda_oz_D8cls rfl)) (show (N34 2 : Int) = m34_2 from (congrArg (fun q : Nat => (q : Int)) (eN34 2)).trans em34_2)
      have r36 : (-2147483648 : Int) ≤ y34_1_1 ∧ y34_1_1 ≤ 2147483647 := rngE (show (-2147483648 : Int) ≤ F34 1 1 ∧ F34 1 1 ≤ 2147483647 from H.krg 1 1 (ltn len_V194_thispackeda_oz_D8cls rfl)) (show F34 1 1 = y34_1_1 from ((eF34 1 1).trans ey34_1_1))
      have r37 : (0 : Int) ≤ y34_1_2 ∧ y34_1_2 ≤ 1 := rngE (show (0 : Int) ≤ F34 1 2 ∧ F34 1 2 ≤ 1 from H.krg 1 2 (ltn len_V194_thispackeda_oz_D8cls rfl)) (show F34 1 2 = y34_1_2 from ((eF34 1 2).trans ey34_1_2))
      have hBd : ∀ i, (-128 : Int) ≤ (w5) i ∧ (w5) i ≤ 127 := fun i => by have h1 : (-128 : Int) ≤ A34 5 i ∧ A34 5 i ≤ 127 := H.arg 5 i (by decide) rfl; rw [show A34 5 = w5 from (funext (mA34 5 rfl)).trans (ew5)] at h1; exact h1
      have : PKG ((u3_9)) (sc ((w5)) 0 ((u4_1))) ((u1_2)) ((w2)) ((u1_1)) ((y34_1_2)) ((w34_2)) ((y34_1_1)) := ⟨_, TGB_of (BYI_s hBd) (by omega) hgo (by omega) (by omega) (by omega) (by omega) (by omega), RTO_e j42_q (by rw [sqd_e (by omega)]; exact pz34_1)⟩
      exact w_ret rfl (k _ _ _ _ _ _ _ H O (cD34) (cN34) (cF34) (cA34) (pf34_1_0) (pf34_3_8) (pf34_3_1) (pf34_3_2) (pf34_3_3) (m34_2) ((congrArg (fun q : Nat => (q : Int)) (eN34 2)).trans em34_2) (m19_3) ((congrArg (fun q : Nat => (q : Int)) (show N34 6 = N_42 6 from (eN34 6))).trans ((congrArg (fun q : Nat => (q : Int)) (hN_42 6 rfl)).trans ((congrArg (fun q : Nat => (q : Int)) (show N24 6 = N19 6 from (eN24 6).trans (hN24 3 rfl))).trans ((congrArg (fun q : Nat => (q : Int)) (eN19 6)).trans em19_3)))) (m24_4) ((congrArg (fun q : Nat => (q : Int)) (show N34 8 = N_42 8 from (eN34 8))).trans ((congrArg (fun q : Nat => (q : Int)) (hN_42 8 rfl)).trans ((congrArg (fun q : Nat => (q : Int)) (eN24 8)).trans em24_4))) (m24_5) ((congrArg (fun q : Nat => (q : Int)) (show N34 9 = N_42 9 from (eN34 9))).trans ((congrArg (fun q : Nat => (q : Int)) (hN_42 9 rfl)).trans ((congrArg (fun q : Nat => (q : Int)) (eN24 9)).trans em24_5))) (m24_6) ((congrArg (fun q : Nat => (q : Int)) (show N34 10 = N_42 10 from (eN34 10))).trans ((congrArg (fun q : Nat => (q : Int)) (hN_42 10 rfl)).trans ((congrArg (fun q : Nat => (q : Int)) (eN24 10)).trans em24_6))) (y34_1_1) (((eF34 1 1).trans ey34_1_1)) (y34_1_2) (((eF34 1 2).trans ey34_1_2)) (y19_0_6) ((((((show F34 3 6 = F_42 3 6 from (eF34 3 6).trans (hS34 3 6 rfl))).trans (hS_42 3 6 rfl)).trans ((show F24 3 6 = F19 3 6 from (eF24 3 6).trans (hS24 0 6 rfl)))).trans ((eF19 3 6).trans ey19_0_6))) (w34_2) ((eA34 2).trans ew34_2) (w19_3) (((show A34 6 = A_42 6 from (eA34 6))).trans ((funext (hA_42 6 rfl)).trans (((show A24 6 = A19 6 from (eA24 6).trans (funext (hA24 3 rfl)))).trans ((eA19 6).trans ew19_3)))) (w19_4) (((show A34 7 = A_42 7 from (eA34 7))).trans ((funext (hA_42 7 rfl)).trans (((show A24 7 = A19 7 from (eA24 7))).trans ((eA19 7).trans ew19_4)))) (show 0 ≤ (y34_1_1) ∧ (y34_1_1) ≤ (m34_2) ∧ (m34_2) ≤ 65536 from pz34_0) (show 0 ≤ (y19_0_6) ∧ (u3_6) ≤ (y19_0_6) ∧ (y19_0_6) ≤ (m19_3) ∧ (m19_3) ≤ 16384 from q_3078 h7 pz19_0) (show (m24_4) = (m24_5) ∧ (m24_6) = (m24_5) ∧ (m24_5) ≤ 65536 ∧ ((m24_5) = 0 ∨ 64 ≤ (m24_5)) ∧ lgq ((m24_5)) = 0 from pz24_0) (pz19_3) (pz19_4) (show (y19_0_6) = (u3_6) ∨ (y19_0_6) + 4 ≤ (u4_1) + 1 by omega) (show PKG ((u3_9)) (sc ((w5)) 0 ((u4_1))) ((u1_2)) ((w2)) ((u1_1)) ((y34_1_2)) ((w34_2)) ((y34_1_1)) by assumption))
    · have hfp := FDI_part (i := (x42_4)) hfd (by omega) (by omega) (by omega)
      have hfj := hfd.1 ((x42_4)) (by omega) (by omega)
      refine Ew_of (pcₚ := 55) (fun _ => x_aload_n rfl l42_0) ?_
      refine Ew_of (pcₚ := 56) (fun _ => x_aload_n rfl l42_1) ?_
      refine Ew_of (pcₚ := 57) (fun _ => x_iload_n rfl l42_3) ?_
      refine Ew_of (pcₚ := 58) (fun _ => x_aload_n rfl l42_0) ?_
      refine v_g H (o := 0) (v := .ref (D_42 3)) rfl rfl rfl rfl rfl (vrf ((mF_42 0 1 rfl).trans ((pf3).trans (congrArg (fun q : Nat => (q : Int)) (mD_42 3 rfl).symm)))) ?_
      refine v_g H (o := 3) (v := .ref (D_42 8)) rfl rfl rfl rfl rfl (vrf (pf_42_3_1)) ?_
      refine Ew_of (pcₚ := 66) (fun _ => x_iload rfl l42_4) ?_
      refine v_lI H (o := 8) rfl rfl rfl rfl (n := m24_4) ((congrArg (fun q : Nat => (q : Int)) (hN_42 8 rfl)).trans ((congrArg (fun q : Nat => (q : Int)) (eN24 8)).trans em24_4)) (show 0 ≤ x42_4 ∧ x42_4 < m24_4 from q_3190 b33 j42_2 pz24_0 pz24_1) (fun v38 ev38 qv38 => ?_)
      have ev38 : (w24_4) (x42_4) = v38 := (congrFun ((funext (hA_42 8 rfl)).trans ((eA24 8).trans ew24_4)) (x42_4)).symm.trans ev38
      have hli := ev38
      refine v_inv H (o := 0) rfl rfl rfl rfl rfl rfl (by rfl) (C196_thispackeda (D := puc 176197141529088 D_42) (N := puc 176197141529088 N_42) (HW_subc H oz_D8cls_23 oz_D8cls_31) ((mF_42 0 2 rfl).trans ((pf1).trans (congrArg (fun q : Nat => (q : Int)) (mD_42 1 rfl).symm))) (pm42_2) ((mF_42 0 1 rfl).trans ((pf3).trans (congrArg (fun q : Nat => (q : Int)) (mD_42 3 rfl).symm))) ((mF_42 3 0 rfl).trans ((pf4).trans (congrArg (fun q : Nat => (q : Int)) (mD_42 4 rfl).symm))) ((mF_42 4 0 rfl).trans ((pf5).trans (congrArg (fun q : Nat => (q : Int)) (mD_42 5 rfl).symm))) (m42_2) (em42_2) (n5) ((congrArg (fun q : Nat => (q : Int)) (mN_42 5 rfl)).trans (en5)) (y42_1_1) ((ey42_1_1)) (y42_1_2) ((ey42_1_2)) (u4_1) (((mF_42 4 1 rfl).trans (eu4_1))) (w42_2) (ew42_2) (w5) ((funext (mA_42 5 rfl)).trans (ew5)) (show inr (x42_3) from j42_0) (show inr (v38) from qv38) (show 0 ≤ (y42_1_1) ∧ (y42_1_1) ≤ (m42_2) ∧ (m42_2) ≤ 65536 from j42_4) (show 0 ≤ (u4_1) ∧ (u4_1) ≤ (n5) ∧ (n5) ≤ 65536 from q_3076 h1) (show 0 ≤ (x42_3) ∧ 0 ≤ (v38) ∧ (x42_3) + (v38) ≤ (n5) by omega) (fun σ39 D39ₚ N39ₚ F39ₚ A39ₚ c39 s39 Hₚ Oₚ hD39 hN39 hS39 hA39 pm39_2 m39_2 em39_2 y39_1_1 ey39_1_1 y39_1_2 ey39_1_2 w39_2 ew39_2 pz39_0 pz39_1 => ⟨rfl, ?_⟩))
      refine v_backMc (c := c_42) (s := s_42) H oz_D8cls_23 oz_D8cls_31 Hₚ Oₚ hD39 oz_D8cls_24 (fun D39 N39 F39 A39 H Oₚ eD39 eN39 eF39 eA39 => ?_)
      have O := OUT_trans O Oₚ
      -- Tags.packLiterals
      have cF39 : SF oz_D8clsl_7 F F39 := SF_trans (cF_42) (SF_gluc (ι := oz_D8clsl_12) oz_D8cls_31 hS39 eF39 (by decide +kernel)) (any_sub (lₚ := [(1, 0), (1, 1), (1, 2)]) (by decide +kernel))
      have mF39 := SFm_of cF39 oz_D8cls_26
      have cA39 : SA oz_D8clsl_8 A A39 := SA_trans (cA_42) (SA_gluc (ι := oz_D8clsl_12) oz_D8cls_31 hA39 eA39 (by decide +kernel)) (any_subA (lₚ := [2]) (by decide +kernel))
      have mA39 := SAm_of cA39 oz_D8cls_27
      have cD39 : SD oz_D8clsl_9 D D39 := SD_trans (cD_42) (SD_gluc (ι := oz_D8clsl_12) oz_D8cls_31 hD39 eD39 (by decide +kernel)) (any_subA (lₚ := [2]) (by decide +kernel))
      have mD39 := SDm_of cD39 oz_D8cls_28
      have cN39 : SD oz_D8clsl_9 N N39 := SD_trans (cN_42) (SD_gluc (ι := oz_D8clsl_12) oz_D8cls_31 hN39 eN39 (by decide +kernel)) (any_subA (lₚ := [2]) (by decide +kernel))
      have mN39 := SDm_of cN39 oz_D8cls_28
      have pf39_1_0 : F39 1 0 = (D39 2 : Int) := (eF39 1 0).trans (pm39_2.trans (congrArg (fun q : Nat => (q : Int)) (eD39 2).symm))
      have pf39_3_1 : F39 3 1 = (D39 8 : Int) := ((show F39 3 1 = F_42 3 1 from (eF39 3 1).trans (hS39 3 1 rfl))).trans ((pf_42_3_1).trans (congrArg (fun q : Nat => (q : Int)) ((show D39 8 = D_42 8 from (eD39 8))).symm))
      have pf39_3_2 : F39 3 2 = (D39 9 : Int) := ((show F39 3 2 = F_42 3 2 from (eF39 3 2).trans (hS39 3 2 rfl))).trans ((pf_42_3_2).trans (congrArg (fun q : Nat => (q : Int)) ((show D39 9 = D_42 9 from (eD39 9))).symm))
      have pf39_3_3 : F39 3 3 = (D39 10 : Int) := ((show F39 3 3 = F_42 3 3 from (eF39 3 3).trans (hS39 3 3 rfl))).trans ((pf_42_3_3).trans (congrArg (fun q : Nat => (q : Int)) ((show D39 10 = D_42 10 from (eD39 10))).symm))
      have pf39_3_8 : F39 3 8 = (D39 6 : Int) := ((show F39 3 8 = F_42 3 8 from (eF39 3 8).trans (hS39 3 8 rfl))).trans ((pf_42_3_8).trans (congrArg (fun q : Nat => (q : Int)) ((show D39 6 = D_42 6 from (eD39 6))).symm))
      have r40 : (0 : Int) ≤ m39_2 ∧ m39_2 ≤ 1000000 := nleE (H.nle 2 (ltn len_V194_thispackeda_oz_D8cls rfl)) (show (N39 2 : Int) = m39_2 from (congrArg (fun q : Nat => (q : Int)) (eN39 2)).trans em39_2)
      have r41 : (-2147483648 : Int) ≤ y39_1_1 ∧ y39_1_1 ≤ 2147483647 := rngE (show (-2147483648 : Int) ≤ F39 1 1 ∧ F39 1 1 ≤ 2147483647 from H.krg 1 1 (ltn len_V194_thispackeda_oz_D8cls rfl)) (show F39 1 1 = y39_1_1 from ((eF39 1 1).trans ey39_1_1))
      have r42 : (0 : Int) ≤ y39_1_2 ∧ y39_1_2 ≤ 1 := rngE (show (0 : Int) ≤ F39 1 2 ∧ F39 1 2 ≤ 1 from H.krg 1 2 (ltn len_V194_thispackeda_oz_D8cls rfl)) (show F39 1 2 = y39_1_2 from ((eF39 1 2).trans ey39_1_2))
      have hp1 := pz39_1
      refine Ew_of (pcₚ := 71) (fun _ => x_aload_n rfl l42_1) ?_
      refine Ew_of (pcₚ := 72) (fun _ => x_aload_n rfl l42_0) ?_
      refine Ew_stk (show ([.ref (D_42 0), .ref (D_42 1)] : List Value) = [.ref (D39 0), .ref (D39 1)] by rw [show D39 0 = D_42 0 from ((show D39 0 = D_42 0 from (eD39 0).trans (hD39 0 rfl))), show D39 1 = D_42 1 from ((show D39 1 = D_42 1 from (eD39 1).trans (hD39 1 rfl)))]) ?_
      refine v_g H (o := 0) (v := .ref (D39 3)) rfl rfl rfl rfl rfl (vrf ((mF39 0 1 rfl).trans ((pf3).trans (congrArg (fun q : Nat => (q : Int)) (mD39 3 rfl).symm)))) ?_
      refine v_g H (o := 3) (v := .ref (D39 9)) rfl rfl rfl rfl rfl (vrf (pf39_3_2)) ?_
      refine Ew_of (pcₚ := 80) (fun _ => x_iload rfl l42_4) ?_
      refine v_lI H (o := 9) rfl rfl rfl rfl (n := m24_5) ((congrArg (fun q : Nat => (q : Int)) (show N39 9 = N_42 9 from (eN39 9))).trans ((congrArg (fun q : Nat => (q : Int)) (hN_42 9 rfl)).trans ((congrArg (fun q : Nat => (q : Int)) (eN24 9)).trans em24_5))) (show 0 ≤ x42_4 ∧ x42_4 < m24_5 from q_3191 b33 j42_2 pz24_1) (fun v43 ev43 qv43 => ?_)
      have ev43 : (w24_5) (x42_4) = v43 := (congrFun (((show A39 9 = A_42 9 from (eA39 9))).trans ((funext (hA_42 9 rfl)).trans ((eA24 9).trans ew24_5))) (x42_4)).symm.trans ev43
      have hle := ev43
      refine Ew_of (pcₚ := 82) (fun _ => x_aload_n rfl l42_0) ?_
      refine Ew_stk (congrArg (fun qz : Nat => ([.ref qz, I (v43), .ref (D39 1)] : List Value)) (show D39 0 = D_42 0 from ((show D39 0 = D_42 0 from (eD39 0).trans (hD39 0 rfl)))).symm) ?_
      refine v_g H (o := 0) (v := .ref (D39 3)) rfl rfl rfl rfl rfl (vrf ((mF39 0 1 rfl).trans ((pf3).trans (congrArg (fun q : Nat => (q : Int)) (mD39 3 rfl).symm)))) ?_
      refine v_g H (o := 3) (v := .ref (D39 10)) rfl rfl rfl rfl rfl (vrf (pf39_3_3)) ?_
      refine Ew_of (pcₚ := 90) (fun _ => x_iload rfl l42_4) ?_
      refine v_lI H (o := 10) rfl rfl rfl rfl (n := m24_6) ((congrArg (fun q : Nat => (q : Int)) (show N39 10 = N_42 10 from (eN39 10))).trans ((congrArg (fun q : Nat => (q : Int)) (hN_42 10 rfl)).trans ((congrArg (fun q : Nat => (q : Int)) (eN24 10)).trans em24_6))) (show 0 ≤ x42_4 ∧ x42_4 < m24_6 from q_3192 b33 j42_2 pz24_0 pz24_1) (fun v44 ev44 qv44 => ?_)
      have ev44 : (w24_6) (x42_4) = v44 := (congrFun (((show A39 10 = A_42 10 from (eA39 10))).trans ((funext (hA_42 10 rfl)).trans ((eA24 10).trans ew24_6))) (x42_4)).symm.trans ev44
      have hdi := ev44
      refine w_stat24 rfl rfl (by rfl) (C197_Row (D := puc 1025 D39) (N := puc 1025 N39) (HW_subc H oz_D8cls_25 oz_D8cls_15) (pf39_1_0) (m39_2) ((congrArg (fun q : Nat => (q : Int)) (eN39 2)).trans em39_2) (y39_1_1) (((eF39 1 1).trans ey39_1_1)) (y39_1_2) (((eF39 1 2).trans ey39_1_2)) (w39_2) ((eA39 2).trans ew39_2) (show inr (v43) from qv43) (show inr (v44) from qv44) (show 0 ≤ (y39_1_1) ∧ (y39_1_1) ≤ (m39_2) ∧ (m39_2) ≤ 65536 from pz39_0) (show 0 ≤ (v43) ∧ (v43) ≤ 65536 by omega) (show 0 ≤ (v44) ∧ (v44) ≤ 65535 by omega) (fun σ45 D45ₚ N45ₚ F45ₚ A45ₚ c45 s45 Hₚ Oₚ hD45 hN45 hS45 hA45 pm45_1 m45_1 em45_1 y45_0_1 ey45_0_1 y45_0_2 ey45_0_2 w45_1 ew45_1 pz45_0 pz45_1 => ⟨rfl, ?_⟩))
      refine v_backMc (c := (c_42 + c39)) (s := (s_42 + s39)) H oz_D8cls_25 oz_D8cls_15 Hₚ Oₚ hD45 oz_D8cls_18 (fun D45 N45 F45 A45 H Oₚ eD45 eN45 eF45 eA45 => ?_)
      have O := OUT_trans O Oₚ
      -- Tags.packCopies
      have cF45 : SF oz_D8clsl_7 F F45 := SF_trans (cF39) (SF_gluc (ι := oz_D8clsl_6) oz_D8cls_15 hS45 eF45 (by decide +kernel)) (any_sub (lₚ := [(1, 0), (1, 1), (1, 2)]) (by decide +kernel))
      have mF45 := SFm_of cF45 oz_D8cls_26
      have cA45 : SA oz_D8clsl_8 A A45 := SA_trans (cA39) (SA_gluc (ι := oz_D8clsl_6) oz_D8cls_15 hA45 eA45 (by decide +kernel)) (any_subA (lₚ := [2]) (by decide +kernel))
      have mA45 := SAm_of cA45 oz_D8cls_27
      have cD45 : SD oz_D8clsl_9 D D45 := SD_trans (cD39) (SD_gluc (ι := oz_D8clsl_6) oz_D8cls_15 hD45 eD45 (by decide +kernel)) (any_subA (lₚ := [2]) (by decide +kernel))
      have mD45 := SDm_of cD45 oz_D8cls_28
      have cN45 : SD oz_D8clsl_9 N N45 := SD_trans (cN39) (SD_gluc (ι := oz_D8clsl_6) oz_D8cls_15 hN45 eN45 (by decide +kernel)) (any_subA (lₚ := [2]) (by decide +kernel))
      have mN45 := SDm_of cN45 oz_D8cls_28
      have pf45_1_0 : F45 1 0 = (D45 2 : Int) := (eF45 1 0).trans (pm45_1.trans (congrArg (fun q : Nat => (q : Int)) (eD45 2).symm))
      have pf45_3_1 : F45 3 1 = (D45 8 : Int) := ((show F45 3 1 = F39 3 1 from (eF45 3 1))).trans ((pf39_3_1).trans (congrArg (fun q : Nat => (q : Int)) ((show D45 8 = D39 8 from (eD45 8))).symm))
      have pf45_3_2 : F45 3 2 = (D45 9 : Int) := ((show F45 3 2 = F39 3 2 from (eF45 3 2))).trans ((pf39_3_2).trans (congrArg (fun q : Nat => (q : Int)) ((show D45 9 = D39 9 from (eD45 9))).symm))
      have pf45_3_3 : F45 3 3 = (D45 10 : Int) := ((show F45 3 3 = F39 3 3 from (eF45 3 3))).trans ((pf39_3_3).trans (congrArg (fun q : Nat => (q : Int)) ((show D45 10 = D39 10 from (eD45 10))).symm))
      have pf45_3_8 : F45 3 8 = (D45 6 : Int) := ((show F45 3 8 = F39 3 8 from (eF45 3 8))).trans ((pf39_3_8).trans (congrArg (fun q : Nat => (q : Int)) ((show D45 6 = D39 6 from (eD45 6))).symm))
      have r46 : (0 : Int) ≤ m45_1 ∧ m45_1 ≤ 1000000 := nleE (H.nle 2 (ltn len_V194_thispackeda_oz_D8cls rfl)) (show (N45 2 : Int) = m45_1 from (congrArg (fun q : Nat => (q : Int)) (eN45 2)).trans em45_1)
      have r47 : (-2147483648 : Int) ≤ y45_0_1 ∧ y45_0_1 ≤ 2147483647 := rngE (show (-2147483648 : Int) ≤ F45 1 1 ∧ F45 1 1 ≤ 2147483647 from H.krg 1 1 (ltn len_V194_thispackeda_oz_D8cls rfl)) (show F45 1 1 = y45_0_1 from ((eF45 1 1).trans ey45_0_1))
      have r48 : (0 : Int) ≤ y45_0_2 ∧ y45_0_2 ≤ 1 := rngE (show (0 : Int) ≤ F45 1 2 ∧ F45 1 2 ≤ 1 from H.krg 1 2 (ltn len_V194_thispackeda_oz_D8cls rfl)) (show F45 1 2 = y45_0_2 from ((eF45 1 2).trans ey45_0_2))
      have hp2 := pz45_1
      refine Ew_of (pcₚ := 95) (fun _ => x_iload_n rfl l42_3) ?_
      refine Ew_of (pcₚ := 96) (fun _ => x_aload_n rfl l42_0) ?_
      refine Ew_stk (congrArg (fun qz : Nat => ([.ref qz, I (x42_3)] : List Value)) (show D45 0 = D_42 0 from (((show D45 0 = D39 0 from (eD45 0))).trans ((show D39 0 = D_42 0 from (eD39 0).trans (hD39 0 rfl))))).symm) ?_
      refine v_g H (o := 0) (v := .ref (D45 3)) rfl rfl rfl rfl rfl (vrf ((mF45 0 1 rfl).trans ((pf3).trans (congrArg (fun q : Nat => (q : Int)) (mD45 3 rfl).symm)))) ?_
      refine v_g H (o := 3) (v := .ref (D45 8)) rfl rfl rfl rfl rfl (vrf (pf45_3_1)) ?_
      refine Ew_of (pcₚ := 104) (fun _ => x_iload rfl l42_4) ?_
      refine v_lI H (o := 8) rfl rfl rfl rfl (n := m24_4) ((congrArg (fun q : Nat => (q : Int)) (show N45 8 = N39 8 from (eN45 8))).trans ((congrArg (fun q : Nat => (q : Int)) (show N39 8 = N_42 8 from (eN39 8))).trans ((congrArg (fun q : Nat => (q : Int)) (hN_42 8 rfl)).trans ((congrArg (fun q : Nat => (q : Int)) (eN24 8)).trans em24_4)))) (show 0 ≤ x42_4 ∧ x42_4 < m24_4 from q_3190 b33 j42_2 pz24_0 pz24_1) (fun v49 ev49 qv49 => ?_)
      have ev49 : (w24_4) (x42_4) = v49 := (congrFun (((show A45 8 = A39 8 from (eA45 8))).trans (((show A39 8 = A_42 8 from (eA39 8))).trans ((funext (hA_42 8 rfl)).trans ((eA24 8).trans ew24_4)))) (x42_4)).symm.trans ev49
      refine Ew_of (pcₚ := 106) (fun _ => x_aload_n rfl l42_0) ?_
      refine Ew_stk (congrArg (fun qz : Nat => ([.ref qz, I (v49), I (x42_3)] : List Value)) (show D45 0 = D_42 0 from (((show D45 0 = D39 0 from (eD45 0))).trans ((show D39 0 = D_42 0 from (eD39 0).trans (hD39 0 rfl))))).symm) ?_
      refine v_g H (o := 0) (v := .ref (D45 3)) rfl rfl rfl rfl rfl (vrf ((mF45 0 1 rfl).trans ((pf3).trans (congrArg (fun q : Nat => (q : Int)) (mD45 3 rfl).symm)))) ?_
      refine v_g H (o := 3) (v := .ref (D45 9)) rfl rfl rfl rfl rfl (vrf (pf45_3_2)) ?_
      refine Ew_of (pcₚ := 114) (fun _ => x_iload rfl l42_4) ?_
      refine v_lI H (o := 9) rfl rfl rfl rfl (n := m24_5) ((congrArg (fun q : Nat => (q : Int)) (show N45 9 = N39 9 from (eN45 9))).trans ((congrArg (fun q : Nat => (q : Int)) (show N39 9 = N_42 9 from (eN39 9))).trans ((congrArg (fun q : Nat => (q : Int)) (hN_42 9 rfl)).trans ((congrArg (fun q : Nat => (q : Int)) (eN24 9)).trans em24_5)))) (show 0 ≤ x42_4 ∧ x42_4 < m24_5 from q_3191 b33 j42_2 pz24_1) (fun v50 ev50 qv50 => ?_)
      have ev50 : (w24_5) (x42_4) = v50 := (congrFun (((show A45 9 = A39 9 from (eA45 9))).trans (((show A39 9 = A_42 9 from (eA39 9))).trans ((funext (hA_42 9 rfl)).trans ((eA24 9).trans ew24_5)))) (x42_4)).symm.trans ev50
      refine w_iadd rfl ?_
      refine w_iadd rfl ?_
      refine Ew_of (pcₚ := 118) (fun _ => x_istore_n rfl) ?_
      refine Ew_of (pcₚ := 121) (fun _ => x_iinc (len := 3) rfl (rk_o (l42_4) rfl rfl)) ?_
      refine Ew_of (pcₚ := 42) (fun _ => x_goto rfl rfl) ?_
      have : RTO ((u1_2)) ((w2)) ((u1_1)) ((y45_0_2)) ((w45_1)) ((y45_0_1)) (vlr ((u4_1)) ++ tgE ((w5)) 0 (sq ((w24_4)) ((w24_5)) ((w24_6)) ((y24_0_4))) ((y24_0_5))) (tgE ((w5)) (((x42_3 + (v49 + v50)))) (sqd ((w24_4)) ((w24_5)) ((w24_6)) (((x42_4 + 1))) ((y24_0_4))) ((y24_0_5))) := RTO_s j42_q (tg_step (by omega) (by omega) hli hle hdi (by omega) (by omega)) (RAP_trans hp1 hp2)
      exact ih42 _ (msE hm42 q_16 (q_17 b33)) _ _ _ _ _ _ _ _ ((x42_3 + (v49 + v50))) ((x42_4 + 1)) ((rk_o (rk_o (l42_0) rfl rfl) rfl rfl).trans (congrArg (fun q : Nat => some (Value.ref q)) ((((show D45 0 = D39 0 from (eD45 0))).trans ((show D39 0 = D_42 0 from (eD39 0).trans (hD39 0 rfl))))).symm)) ((rk_o (rk_o (l42_1) rfl rfl) rfl rfl).trans (congrArg (fun q : Nat => some (Value.ref q)) ((((show D45 1 = D39 1 from (eD45 1).trans (hD45 0 rfl))).trans ((show D39 1 = D_42 1 from (eD39 1).trans (hD39 1 rfl))))).symm)) (rk_o (rk_s) rfl rfl) (rk_s) H O (SD_trans (SD_trans (hD_42) (SD_gluc (ι := oz_D8clsl_12) oz_D8cls_31 hD39 eD39 (by decide +kernel)) (any_subA (lₚ := [2]) (by decide +kernel))) (SD_gluc (ι := oz_D8clsl_6) oz_D8cls_15 hD45 eD45 (by decide +kernel)) (any_subA (lₚ := [2]) (by decide +kernel))) (SD_trans (SD_trans (hN_42) (SD_gluc (ι := oz_D8clsl_12) oz_D8cls_31 hN39 eN39 (by decide +kernel)) (any_subA (lₚ := [2]) (by decide +kernel))) (SD_gluc (ι := oz_D8clsl_6) oz_D8cls_15 hN45 eN45 (by decide +kernel)) (any_subA (lₚ := [2]) (by decide +kernel))) (SF_trans (SF_trans (hS_42) (SF_gluc (ι := oz_D8clsl_12) oz_D8cls_31 hS39 eF39 (by decide +kernel)) (any_sub (lₚ := [(1, 0), (1, 1), (1, 2)]) (by decide +kernel))) (SF_gluc (ι := oz_D8clsl_6) oz_D8cls_15 hS45 eF45 (by decide +kernel)) (any_sub (lₚ := [(1, 0), (1, 1), (1, 2)]) (by decide +kernel))) (SA_trans (SA_trans (hA_42) (SA_gluc (ι := oz_D8clsl_12) oz_D8cls_31 hA39 eA39 (by decide +kernel)) (any_subA (lₚ := [2]) (by decide +kernel))) (SA_gluc (ι := oz_D8clsl_6) oz_D8cls_15 hA45 eA45 (by decide +kernel)) (any_subA (lₚ := [2]) (by decide +kernel))) (pf45_1_0) (m45_1) ((congrArg (fun q : Nat => (q : Int)) (eN45 2)).trans em45_1) (y45_0_1) (((eF45 1 1).trans ey45_0_1)) (y45_0_2) (((eF45 1 2).trans ey45_0_2)) (w45_1) ((eA45 2).trans ew45_1) (show inr ((x42_3 + (v49 + v50))) by omega) (show inr ((x42_4 + 1)) from q_3193 b33 j42_2 r28) (show (0) ≤ ((x42_4 + 1)) from q_14 j42_2) (show ((x42_4 + 1)) ≤ (0) ∨ ((x42_4 + 1)) ≤ ((y24_0_4)) from q_13 b33) (show 0 ≤ (y45_0_1) ∧ (y45_0_1) ≤ (m45_1) ∧ (m45_1) ≤ 65536 from pz45_0) (show ((x42_3 + (v49 + v50))) = su (fun j => ((w24_4)) j + ((w24_5)) j) (((x42_4 + 1)) : Int).toNat by omega) (show RTO ((u1_2)) ((w2)) ((u1_1)) ((y45_0_2)) ((w45_1)) ((y45_0_1)) (vlr ((u4_1)) ++ tgE ((w5)) 0 (sq ((w24_4)) ((w24_5)) ((w24_6)) ((y24_0_4))) ((y24_0_5))) (tgE ((w5)) (((x42_3 + (v49 + v50)))) (sqd ((w24_4)) ((w24_5)) ((w24_6)) (((x42_4 + 1))) ((y24_0_4))) ((y24_0_5))) by assumption) rfl
abbrev V202_Row_thispackeda : vV := [(0, 10, [(4, 0), (4, 0), (4, 0), (4, 0), (0, 0), (4, 0), (0, 0), (2, 0), (0, 0)]), (0, 7, [(4, 0), (0, 0), (1, 0), (0, 0), (0, 0)]), (1, 0, []), (0, 7, [(4, 0), (0, 0), (1, 0), (0, 0), (0, 0)]), (1, 0, []), (0, 5, [(4, 0), (4, 0), (4, 0), (4, 0), (0, 0), (0, 0), (0, 0), (4, 0), (4, 0), (0, 0), (0, 0), (0, 0), (0, 0), (0, 0), (0, 0), (0, 0), (0, 0), (0, 0), (0, 0)]), (0, 7, [(4, 0), (0, 0), (1, 0), (0, 0), (0, 0)]), (1, 0, [])]
theorem len_V202_Row_thispackeda_oz_D8cls : (V202_Row_thispackeda).length = 8 := by decide +kernel
theorem oz_D8cls_33 : vsub V202_Row_thispackeda V160 [1, 2] = true := by decide +kernel
theorem oz_D8cls_34 : vmov V202_Row_thispackeda [1, 2] [1] = true := by decide +kernel
theorem oz_D8cls_35 : vsub V202_Row_thispackeda V53_Br [7] = true := by decide +kernel
theorem oz_D8cls_36 : vsub V202_Row_thispackeda V54 [] = true := by decide +kernel
theorem oz_D8cls_37 : vsub V202_Row_thispackeda V161_Br [1, 4, 2] = true := by decide +kernel
theorem oz_D8cls_38 : vmov V202_Row_thispackeda [1, 4, 2] [2] = true := by decide +kernel
def oz_D8clsl_13 : List Nat := [7]
theorem oz_D8cls_39 : okc oz_D8clsl_13 7 = true := by decide +kernel
def oz_D8clsl_14 : List Nat := []
theorem oz_D8cls_40 : okc oz_D8clsl_14 0 = true := by decide +kernel
def oz_D8clsl_15 : List Nat := [1, 4, 2]
theorem oz_D8cls_41 : okc oz_D8clsl_15 526337 = true := by decide +kernel

theorem C202_Row_thispackeda {σE : rS} {D N : Nat → Nat} {F : hF} {A : hA} {d c s : Nat} {Q : wQ} (H : HW V202_Row_thispackeda σE D N F A) (HT : STC σE) {a3 : Int} (pf2 : F 1 0 = (D 2 : Int)) (pf3 : F 0 2 = (D 3 : Int)) (pf4 : F 3 0 = (D 4 : Int)) (pf5 : F 0 1 = (D 5 : Int)) (pf6 : F 5 0 = (D 6 : Int)) (pf7 : F 6 0 = (D 7 : Int)) (n2 : Int) (en2 : (N 2 : Int) = n2) (n4 : Int) (en4 : (N 4 : Int) = n4) (n7 : Int) (en7 : (N 7 : Int) = n7) (u1_1 : Int) (eu1_1 : F 1 1 = u1_1) (u1_2 : Int) (eu1_2 : F 1 2 = u1_2) (u3_1 : Int) (eu3_1 : F 3 1 = u3_1) (u6_1 : Int) (eu6_1 : F 6 1 = u6_1) (w2 : Int → Int) (ew2 : A 2 = w2) (w4 : Int → Int) (ew4 : A 4 = w4) (w7 : Int → Int) (ew7 : A 7 = w7) (h0 : inr (a3)) (h1 : 0 ≤ (u1_1) ∧ (u1_1) ≤ (n2) ∧ (n2) ≤ 65536) (h2 : 0 ≤ (u3_1) ∧ (u3_1) ≤ (n4) ∧ (n4) ≤ 65536) (h3 : 0 ≤ (u6_1) ∧ (u6_1) ≤ (n7) ∧ (n7) ≤ 65536) (h4 : 0 ≤ (a3) ∧ (a3) ≤ 1) (k : ∀ (σ : rS) (Dₚ Nₚ : Nat → Nat) (Fₚ : hF) (Aₚ : hA) (cₚ sₚ : Nat), HW V202_Row_thispackeda σ Dₚ Nₚ Fₚ Aₚ → OUT (V202_Row_thispackeda).length D N σE c s Dₚ Nₚ σ cₚ sₚ → SD [2] D Dₚ → SD [2] N Nₚ → SF [(1, 0), (1, 1), (1, 2)] F Fₚ → SA [2] A Aₚ → Fₚ 1 0 = (Dₚ 2 : Int) → ∀ m2 : Int, (Nₚ 2 : Int) = m2 → ∀ y1_1 : Int, Fₚ 1 1 = y1_1 → ∀ y1_2 : Int, Fₚ 1 2 = y1_2 → ∀ v2 : Int → Int, Aₚ 2 = v2 → (0 ≤ (y1_1) ∧ (y1_1) ≤ (m2) ∧ (m2) ≤ 65536) → (RAP ((u1_2)) ((w2)) ((u1_1)) ((y1_2)) ((v2)) ((y1_1)) (TGk ((a3)) (sc ((w4)) 0 ((u3_1))) (sc ((w7)) 0 ((u6_1))))) → Q none σ cₚ sₚ) : Ew 202 (d + 3) 0 (rargs 0 [.ref (D 0), .ref (D 1), .ref (D 3), I a3]) [] σE c s Q := by
  have O := OUT_refl (n := (V202_Row_thispackeda).length) (D := D) (N := N) (σ := σE) (c := c) (s := s)
  have HE := H
  have r1 : (-2147483648 : Int) ≤ u1_1 ∧ u1_1 ≤ 2147483647 := rngE (show (-2147483648 : Int) ≤ F 1 1 ∧ F 1 1 ≤ 2147483647 from H.krg 1 1 (ltn len_V202_Row_thispackeda_oz_D8cls rfl)) (show F 1 1 = u1_1 from (eu1_1))
  have r2 : (0 : Int) ≤ u1_2 ∧ u1_2 ≤ 1 := rngE (show (0 : Int) ≤ F 1 2 ∧ F 1 2 ≤ 1 from H.krg 1 2 (ltn len_V202_Row_thispackeda_oz_D8cls rfl)) (show F 1 2 = u1_2 from (eu1_2))
  have r3 : (-2147483648 : Int) ≤ u3_1 ∧ u3_1 ≤ 2147483647 := rngE (show (-2147483648 : Int) ≤ F 3 1 ∧ F 3 1 ≤ 2147483647 from H.krg 3 1 (ltn len_V202_Row_thispackeda_oz_D8cls rfl)) (show F 3 1 = u3_1 from (eu3_1))
  have r4 : (-2147483648 : Int) ≤ u6_1 ∧ u6_1 ≤ 2147483647 := rngE (show (-2147483648 : Int) ≤ F 6 1 ∧ F 6 1 ≤ 2147483647 from H.krg 6 1 (ltn len_V202_Row_thispackeda_oz_D8cls rfl)) (show F 6 1 = u6_1 from (eu6_1))
  have r5 : (0 : Int) ≤ n2 ∧ n2 ≤ 1000000 := nleE (H.nle 2 (ltn len_V202_Row_thispackeda_oz_D8cls rfl)) (show (N 2 : Int) = n2 from en2)
  have r6 : (0 : Int) ≤ n4 ∧ n4 ≤ 1000000 := nleE (H.nle 4 (ltn len_V202_Row_thispackeda_oz_D8cls rfl)) (show (N 4 : Int) = n4 from en4)
  have r7 : (0 : Int) ≤ n7 ∧ n7 ≤ 1000000 := nleE (H.nle 7 (ltn len_V202_Row_thispackeda_oz_D8cls rfl)) (show (N 7 : Int) = n7 from en7)
  refine Ew_of (pcₚ := 1) (fun _ => x_aload_n rfl rfl) ?_
  refine v_g H (o := 0) (v := .ref (D 5)) rfl rfl rfl rfl rfl (vrf (pf5)) ?_
  refine v_g H (o := 5) (v := .ref (D 6)) rfl rfl rfl rfl rfl (vrf (pf6)) ?_
  refine Ew_of (pcₚ := 9) (fun _ => x_astore rfl) ?_
  refine Ew_of (pcₚ := 10) (fun _ => x_aload_n rfl (rk_o (rfl) rfl rfl)) ?_
  refine Ew_of (pcₚ := 11) (fun _ => x_aload_n rfl (rk_o (rfl) rfl rfl)) ?_
  refine v_g H (o := 3) (v := I (u3_1)) rfl rfl rfl rfl rfl (congrArg (fun z : Int => I z) ((eu3_1) : F 3 1 = u3_1)) ?_
  refine Ew_of (pcₚ := 15) (fun _ => x_iconst rfl) ?_
  refine w_iadd rfl ?_
  refine Ew_of (pcₚ := 18) (fun _ => x_bipush (z := 8) rfl (by decide)) ?_
  refine w_ishlE rfl ?_
  have g8 : inr (slI ((u3_1 + 4)) (8)) := toI_inr _
  refine Ew_of (pcₚ := 20) (fun _ => x_iload_n rfl (rk_o (rfl) rfl rfl)) ?_
  refine w_iorE rfl ?_
  have g9 : inr (orI ((slI ((u3_1 + 4)) (8))) (a3)) := toI_inr _
  have hv : ((orI ((slI ((u3_1 + 4)) (8))) (a3))) = ((u3_1) + 4) * 256 + (a3) := or8 (by omega) (by omega)
  have hvr : inr (((orI ((slI ((u3_1 + 4)) (8))) (a3)))) := g9
  refine w_i2l rfl (show inr ((orI ((slI ((u3_1 + 4)) (8))) (a3))) from hvr) ?_
  refine Ew_of (pcₚ := 23) (fun _ => x_iconst rfl) ?_
  refine v_inv H (o := 1) rfl rfl rfl rfl rfl rfl (by rfl) (C160 (D := puc 1025 D) (N := puc 1025 N) (HW_subc H oz_D8cls_33 oz_D8cls_15) (pf2) (n2) (en2) (u1_1) ((eu1_1)) (u1_2) ((eu1_2)) (w2) (ew2) (show inrJ ((orI ((slI ((u3_1 + 4)) (8))) (a3))) from q_2579 hvr) (show inr (4) from q_216) (show 0 ≤ (u1_1) ∧ (u1_1) ≤ (n2) ∧ (n2) ≤ 65536 from h1) (show 0 ≤ (4) ∧ (4) ≤ 8 from q_623) (fun σ10 D10ₚ N10ₚ F10ₚ A10ₚ c10 s10 Hₚ Oₚ hD10 hN10 hS10 hA10 pm10_1 m10_1 em10_1 y10_0_1 ey10_0_1 y10_0_2 ey10_0_2 w10_1 ew10_1 pz10_0 pz10_1 pz10_2 => ⟨rfl, ?_⟩))
  refine v_backMc (c := c) (s := s) H oz_D8cls_33 oz_D8cls_15 Hₚ Oₚ hD10 oz_D8cls_34 (fun D10 N10 F10 A10 H Oₚ eD10 eN10 eF10 eA10 => ?_)
  have O := OUT_trans O Oₚ
  -- Row.addNumber
  have cF10 : SF oz_D8clsl_3 F F10 := SF_trans (SF_refl) (SF_gluc (ι := oz_D8clsl_6) oz_D8cls_15 hS10 eF10 (by decide +kernel)) (any_sub (lₚ := [(1, 0), (1, 1), (1, 2)]) (by decide +kernel))
  have mF10 := SFm_of cF10 oz_D8cls_12
  have cA10 : SA oz_D8clsl_4 A A10 := SA_trans (SA_refl) (SA_gluc (ι := oz_D8clsl_6) oz_D8cls_15 hA10 eA10 (by decide +kernel)) (any_subA (lₚ := [2]) (by decide +kernel))
  have mA10 := SAm_of cA10 oz_D8cls_13
  have cD10 : SD oz_D8clsl_4 D D10 := SD_trans (SD_refl) (SD_gluc (ι := oz_D8clsl_6) oz_D8cls_15 hD10 eD10 (by decide +kernel)) (any_subA (lₚ := [2]) (by decide +kernel))
  have mD10 := SDm_of cD10 oz_D8cls_13
  have cN10 : SD oz_D8clsl_4 N N10 := SD_trans (SD_refl) (SD_gluc (ι := oz_D8clsl_6) oz_D8cls_15 hN10 eN10 (by decide +kernel)) (any_subA (lₚ := [2]) (by decide +kernel))
  have mN10 := SDm_of cN10 oz_D8cls_13
  have pf10_1_0 : F10 1 0 = (D10 2 : Int) := (eF10 1 0).trans (pm10_1.trans (congrArg (fun q : Nat => (q : Int)) (eD10 2).symm))
  have r11 : (0 : Int) ≤ m10_1 ∧ m10_1 ≤ 1000000 := nleE (H.nle 2 (ltn len_V202_Row_thispackeda_oz_D8cls rfl)) (show (N10 2 : Int) = m10_1 from (congrArg (fun q : Nat => (q : Int)) (eN10 2)).trans em10_1)
  have r12 : (-2147483648 : Int) ≤ y10_0_1 ∧ y10_0_1 ≤ 2147483647 := rngE (show (-2147483648 : Int) ≤ F10 1 1 ∧ F10 1 1 ≤ 2147483647 from H.krg 1 1 (ltn len_V202_Row_thispackeda_oz_D8cls rfl)) (show F10 1 1 = y10_0_1 from ((eF10 1 1).trans ey10_0_1))
  have r13 : (0 : Int) ≤ y10_0_2 ∧ y10_0_2 ≤ 1 := rngE (show (0 : Int) ≤ F10 1 2 ∧ F10 1 2 ≤ 1 from H.krg 1 2 (ltn len_V202_Row_thispackeda_oz_D8cls rfl)) (show F10 1 2 = y10_0_2 from ((eF10 1 2).trans ey10_0_2))
  have h1_ := pz10_2
  rw [hv] at h1_
  refine Ew_of (pcₚ := 27) (fun _ => x_aload_n rfl (rk_o (rfl) rfl rfl)) ?_
  refine Ew_of (pcₚ := 29) (fun _ => x_aload rfl rk_s) ?_
  refine Ew_stk (show ([.ref (D 6), .ref (D 1)] : List Value) = [.ref (D10 6), .ref (D10 1)] by rw [show D10 1 = D 1 from mD10 1 rfl, show D10 6 = D 6 from mD10 6 rfl]) ?_
  refine v_g H (o := 6) (v := .ref (D10 7)) rfl rfl rfl rfl rfl (vrf ((mF10 6 0 rfl).trans ((pf7).trans (congrArg (fun q : Nat => (q : Int)) (mD10 7 rfl).symm)))) ?_
  refine Ew_of (pcₚ := 33) (fun _ => x_iconst rfl) ?_
  refine Ew_of (pcₚ := 35) (fun _ => x_aload rfl rk_s) ?_
  refine Ew_stk (congrArg (fun qz : Nat => ([.ref qz, I (0), .ref (D10 7), .ref (D10 1)] : List Value)) (show D10 6 = D 6 from mD10 6 rfl).symm) ?_
  refine v_g H (o := 6) (v := I (u6_1)) rfl rfl rfl rfl rfl (congrArg (fun z : Int => I z) (((mF10 6 1 rfl).trans (eu6_1)) : F10 6 1 = u6_1)) ?_
  refine w_stat25 rfl rfl (by rfl) (C53_Br (D := puc 7 D10) (N := puc 7 N10) (HW_subc H oz_D8cls_35 oz_D8cls_39) (STC_out HT HE O) (n7) ((congrArg (fun q : Nat => (q : Int)) (mN10 7 rfl)).trans (en7)) (w7) ((funext (mA10 7 rfl)).trans (ew7)) (show inr (0) from q_2) (show inr (u6_1) from q_38 h3) (show 0 ≤ (0) ∧ (0) ≤ (u6_1) ∧ (u6_1) ≤ (n7) from q_3195 h3) (fun z14 σ14 F14ₚ A14ₚ Hₚ Oₚ hS14 hA14 pz14_0 pz14_1 => ⟨rfl, ?_⟩))
  refine v_backc (c := (c + c10)) (s := (s + s10)) H oz_D8cls_35 oz_D8cls_39 Hₚ Oₚ (fun F14 A14 H Oₚ eF14 eA14 => ?_)
  have O := OUT_trans O Oₚ
  -- PackHouse.polynomialSum
  have cF14 : SF oz_D8clsl_3 F F14 := SF_trans (cF10) (SF_gluc (ι := oz_D8clsl_13) oz_D8cls_39 hS14 eF14 (by decide +kernel)) (any_sub (lₚ := []) (by decide +kernel))
  have mF14 := SFm_of cF14 oz_D8cls_12
  have cA14 : SA oz_D8clsl_4 A A14 := SA_trans (cA10) (SA_gluc (ι := oz_D8clsl_13) oz_D8cls_39 hA14 eA14 (by decide +kernel)) (any_subA (lₚ := []) (by decide +kernel))
  have mA14 := SAm_of cA14 oz_D8cls_13
  have hpo := pz14_1
  refine w_stat25 rfl rfl (by rfl) (C54 (D := puc 0 D10) (N := puc 0 N10) (HW_subc H oz_D8cls_36 oz_D8cls_40) (show inr (z14) from pz14_0) (fun z15 σ15 F15ₚ A15ₚ Hₚ Oₚ hS15 hA15 pz15_0 pz15_1 => ⟨rfl, ?_⟩))
  refine v_backc (c := (c + c10)) (s := (s + s10)) H oz_D8cls_36 oz_D8cls_40 Hₚ Oₚ (fun F15 A15 H Oₚ eF15 eA15 => ?_)
  have O := OUT_trans O Oₚ
  -- PackHouse.maskedSum
  have cF15 : SF oz_D8clsl_3 F F15 := SF_trans (cF14) (SF_gluc (ι := oz_D8clsl_14) oz_D8cls_40 hS15 eF15 (by decide +kernel)) (any_sub (lₚ := []) (by decide +kernel))
  have mF15 := SFm_of cF15 oz_D8cls_12
  have cA15 : SA oz_D8clsl_4 A A15 := SA_trans (cA14) (SA_gluc (ι := oz_D8clsl_14) oz_D8cls_40 hA15 eA15 (by decide +kernel)) (any_subA (lₚ := []) (by decide +kernel))
  have mA15 := SAm_of cA15 oz_D8cls_13
  have hma : IMP True (z15 = adI (rtI (z14) 17) (-1568478504)) := fun _ => pz15_1
  (try clear pz15_1)
  refine w_i2l rfl (show inr (z15) from pz15_0) ?_
  refine Ew_of (pcₚ := 46) (fun _ => x_iconst rfl) ?_
  refine v_inv H (o := 1) rfl rfl rfl rfl rfl rfl (by rfl) (C160 (D := puc 1025 D10) (N := puc 1025 N10) (HW_subc H oz_D8cls_33 oz_D8cls_15) (((((show F15 1 0 = F14 1 0 from (eF15 1 0))).trans ((show F14 1 0 = F10 1 0 from (eF14 1 0))))).trans (pf10_1_0)) (m10_1) ((congrArg (fun q : Nat => (q : Int)) (eN10 2)).trans em10_1) (y10_0_1) (((((show F15 1 1 = F14 1 1 from (eF15 1 1))).trans ((show F14 1 1 = F10 1 1 from (eF14 1 1)))).trans ((eF10 1 1).trans ey10_0_1))) (y10_0_2) (((((show F15 1 2 = F14 1 2 from (eF15 1 2))).trans ((show F14 1 2 = F10 1 2 from (eF14 1 2)))).trans ((eF10 1 2).trans ey10_0_2))) (w10_1) (((show A15 2 = A14 2 from (eA15 2))).trans (((show A14 2 = A10 2 from (eA14 2))).trans ((eA10 2).trans ew10_1))) (show inrJ (z15) from q_2579 pz15_0) (show inr (4) from q_216) (show 0 ≤ (y10_0_1) ∧ (y10_0_1) ≤ (m10_1) ∧ (m10_1) ≤ 65536 from pz10_0) (show 0 ≤ (4) ∧ (4) ≤ 8 from q_623) (fun σ16 D16ₚ N16ₚ F16ₚ A16ₚ c16 s16 Hₚ Oₚ hD16 hN16 hS16 hA16 pm16_1 m16_1 em16_1 y16_0_1 ey16_0_1 y16_0_2 ey16_0_2 w16_1 ew16_1 pz16_0 pz16_1 pz16_2 => ⟨rfl, ?_⟩))
  refine v_backMc (c := (c + c10)) (s := (s + s10)) H oz_D8cls_33 oz_D8cls_15 Hₚ Oₚ hD16 oz_D8cls_34 (fun D16 N16 F16 A16 H Oₚ eD16 eN16 eF16 eA16 => ?_)
  have O := OUT_trans O Oₚ
  -- Row.addNumber
  have cF16 : SF oz_D8clsl_3 F F16 := SF_trans (cF15) (SF_gluc (ι := oz_D8clsl_6) oz_D8cls_15 hS16 eF16 (by decide +kernel)) (any_sub (lₚ := [(1, 0), (1, 1), (1, 2)]) (by decide +kernel))
  have mF16 := SFm_of cF16 oz_D8cls_12
  have cA16 : SA oz_D8clsl_4 A A16 := SA_trans (cA15) (SA_gluc (ι := oz_D8clsl_6) oz_D8cls_15 hA16 eA16 (by decide +kernel)) (any_subA (lₚ := [2]) (by decide +kernel))
  have mA16 := SAm_of cA16 oz_D8cls_13
  have cD16 : SD oz_D8clsl_4 D D16 := SD_trans (cD10) (SD_gluc (ι := oz_D8clsl_6) oz_D8cls_15 hD16 eD16 (by decide +kernel)) (any_subA (lₚ := [2]) (by decide +kernel))
  have mD16 := SDm_of cD16 oz_D8cls_13
  have cN16 : SD oz_D8clsl_4 N N16 := SD_trans (cN10) (SD_gluc (ι := oz_D8clsl_6) oz_D8cls_15 hN16 eN16 (by decide +kernel)) (any_subA (lₚ := [2]) (by decide +kernel))
  have mN16 := SDm_of cN16 oz_D8cls_13
  have pf16_1_0 : F16 1 0 = (D16 2 : Int) := (eF16 1 0).trans (pm16_1.trans (congrArg (fun q : Nat => (q : Int)) (eD16 2).symm))
  have r17 : (0 : Int) ≤ m16_1 ∧ m16_1 ≤ 1000000 := nleE (H.nle 2 (ltn len_V202_Row_thispackeda_oz_D8cls rfl)) (show (N16 2 : Int) = m16_1 from (congrArg (fun q : Nat => (q : Int)) (eN16 2)).trans em16_1)
  have r18 : (-2147483648 : Int) ≤ y16_0_1 ∧ y16_0_1 ≤ 2147483647 := rngE (show (-2147483648 : Int) ≤ F16 1 1 ∧ F16 1 1 ≤ 2147483647 from H.krg 1 1 (ltn len_V202_Row_thispackeda_oz_D8cls rfl)) (show F16 1 1 = y16_0_1 from ((eF16 1 1).trans ey16_0_1))
  have r19 : (0 : Int) ≤ y16_0_2 ∧ y16_0_2 ≤ 1 := rngE (show (0 : Int) ≤ F16 1 2 ∧ F16 1 2 ≤ 1 from H.krg 1 2 (ltn len_V202_Row_thispackeda_oz_D8cls rfl)) (show F16 1 2 = y16_0_2 from ((eF16 1 2).trans ey16_0_2))
  have h2_ := pz16_2
  have hms : z15 = MSK (PLS (sc ((w7)) 0 ((u6_1)))) := by rw [hma trivial, hpo, POL_L (b := (u6_1)) (by omega) (by omega)]; rw [MSK_e]; rfl
  rw [hms] at h2_
  refine Ew_of (pcₚ := 50) (fun _ => x_aload_n rfl (rk_o (rfl) rfl rfl)) ?_
  refine Ew_of (pcₚ := 51) (fun _ => x_aload_n rfl (rk_o (rfl) rfl rfl)) ?_
  refine Ew_stk (show ([.ref (D 3), .ref (D 1)] : List Value) = [.ref (D16 3), .ref (D16 1)] by rw [show D16 1 = D 1 from mD16 1 rfl, show D16 3 = D 3 from mD16 3 rfl]) ?_
  refine v_g H (o := 3) (v := .ref (D16 4)) rfl rfl rfl rfl rfl (vrf ((mF16 3 0 rfl).trans ((pf4).trans (congrArg (fun q : Nat => (q : Int)) (mD16 4 rfl).symm)))) ?_
  refine Ew_of (pcₚ := 55) (fun _ => x_iconst rfl) ?_
  refine Ew_of (pcₚ := 56) (fun _ => x_aload_n rfl (rk_o (rfl) rfl rfl)) ?_
  refine Ew_stk (congrArg (fun qz : Nat => ([.ref qz, I (0), .ref (D16 4), .ref (D16 1)] : List Value)) (show D16 3 = D 3 from mD16 3 rfl).symm) ?_
  refine v_g H (o := 3) (v := I (u3_1)) rfl rfl rfl rfl rfl (congrArg (fun z : Int => I z) (((mF16 3 1 rfl).trans (eu3_1)) : F16 3 1 = u3_1)) ?_
  refine v_inv H (o := 1) rfl rfl rfl rfl rfl rfl (by rfl) (C161_Br (D := puc 526337 D16) (N := puc 526337 N16) (HW_subc H oz_D8cls_37 oz_D8cls_41) (pf16_1_0) (n4) ((congrArg (fun q : Nat => (q : Int)) (mN16 4 rfl)).trans (en4)) (m16_1) ((congrArg (fun q : Nat => (q : Int)) (eN16 2)).trans em16_1) (y16_0_1) (((eF16 1 1).trans ey16_0_1)) (y16_0_2) (((eF16 1 2).trans ey16_0_2)) (w4) ((funext (mA16 4 rfl)).trans (ew4)) (w16_1) ((eA16 2).trans ew16_1) (show inr (0) from q_2) (show inr (u3_1) from q_38 h2) (show 0 ≤ (y16_0_1) ∧ (y16_0_1) ≤ (m16_1) ∧ (m16_1) ≤ 65536 from pz16_0) (show (u3_1) < 0 ∨ 0 ≤ (0) ∧ (0) + (u3_1) ≤ (n4) from q_2944 h2) (fun σ20 D20ₚ N20ₚ F20ₚ A20ₚ c20 s20 Hₚ Oₚ hD20 hN20 hS20 hA20 pm20_2 m20_2 em20_2 y20_0_1 ey20_0_1 y20_0_2 ey20_0_2 w20_2 ew20_2 pz20_0 pz20_1 pz20_2 pz20_3 => ⟨rfl, ?_⟩))
  refine v_backMc (c := ((c + c10) + c16)) (s := ((s + s10) + s16)) H oz_D8cls_37 oz_D8cls_41 Hₚ Oₚ hD20 oz_D8cls_38 (fun D20 N20 F20 A20 H Oₚ eD20 eN20 eF20 eA20 => ?_)
  have O := OUT_trans O Oₚ
  -- Row.addPart
  have cF20 : SF oz_D8clsl_3 F F20 := SF_trans (cF16) (SF_gluc (ι := oz_D8clsl_15) oz_D8cls_41 hS20 eF20 (by decide +kernel)) (any_sub (lₚ := [(1, 0), (1, 1), (1, 2)]) (by decide +kernel))
  have mF20 := SFm_of cF20 oz_D8cls_12
  have cA20 : SA oz_D8clsl_4 A A20 := SA_trans (cA16) (SA_gluc (ι := oz_D8clsl_15) oz_D8cls_41 hA20 eA20 (by decide +kernel)) (any_subA (lₚ := [2]) (by decide +kernel))
  have mA20 := SAm_of cA20 oz_D8cls_13
  have cD20 : SD oz_D8clsl_4 D D20 := SD_trans (cD16) (SD_gluc (ι := oz_D8clsl_15) oz_D8cls_41 hD20 eD20 (by decide +kernel)) (any_subA (lₚ := [2]) (by decide +kernel))
  have mD20 := SDm_of cD20 oz_D8cls_13
  have cN20 : SD oz_D8clsl_4 N N20 := SD_trans (cN16) (SD_gluc (ι := oz_D8clsl_15) oz_D8cls_41 hN20 eN20 (by decide +kernel)) (any_subA (lₚ := [2]) (by decide +kernel))
  have mN20 := SDm_of cN20 oz_D8cls_13
  have pf20_1_0 : F20 1 0 = (D20 2 : Int) := (eF20 1 0).trans (pm20_2.trans (congrArg (fun q : Nat => (q : Int)) (eD20 2).symm))
  have r21 : (0 : Int) ≤ m20_2 ∧ m20_2 ≤ 1000000 := nleE (H.nle 2 (ltn len_V202_Row_thispackeda_oz_D8cls rfl)) (show (N20 2 : Int) = m20_2 from (congrArg (fun q : Nat => (q : Int)) (eN20 2)).trans em20_2)
  have r22 : (-2147483648 : Int) ≤ y20_0_1 ∧ y20_0_1 ≤ 2147483647 := rngE (show (-2147483648 : Int) ≤ F20 1 1 ∧ F20 1 1 ≤ 2147483647 from H.krg 1 1 (ltn len_V202_Row_thispackeda_oz_D8cls rfl)) (show F20 1 1 = y20_0_1 from ((eF20 1 1).trans ey20_0_1))
  have r23 : (0 : Int) ≤ y20_0_2 ∧ y20_0_2 ≤ 1 := rngE (show (0 : Int) ≤ F20 1 2 ∧ F20 1 2 ≤ 1 from H.krg 1 2 (ltn len_V202_Row_thispackeda_oz_D8cls rfl)) (show F20 1 2 = y20_0_2 from ((eF20 1 2).trans ey20_0_2))
  have : RAP ((u1_2)) ((w2)) ((u1_1)) ((y20_0_2)) ((w20_2)) ((y20_0_1)) (TGk ((a3)) (sc ((w4)) 0 ((u3_1))) (sc ((w7)) 0 ((u6_1)))) := RAP_c (RAP_trans h1_ (RAP_trans h2_ (pz20_3 (by omega)))) (by unfold TGk; rw [sc_lenI (by omega), show (u3_1) - 0 = (u3_1) by omega, Int.zero_add])
  exact w_ret rfl (k _ _ _ _ _ _ _ H O (cD20) (cN20) (cF20) (cA20) (pf20_1_0) (m20_2) ((congrArg (fun q : Nat => (q : Int)) (eN20 2)).trans em20_2) (y20_0_1) (((eF20 1 1).trans ey20_0_1)) (y20_0_2) (((eF20 1 2).trans ey20_0_2)) (w20_2) ((eA20 2).trans ew20_2) (show 0 ≤ (y20_0_1) ∧ (y20_0_1) ≤ (m20_2) ∧ (m20_2) ≤ 65536 from pz20_0) (show RAP ((u1_2)) ((w2)) ((u1_1)) ((y20_0_2)) ((w20_2)) ((y20_0_1)) (TGk (a3) (sc ((w4)) 0 ((u3_1))) (sc ((w7)) 0 ((u6_1)))) by assumption))
abbrev V201_Row_Row : vV := [(0, 10, [(4, 0), (4, 0), (4, 0), (4, 0), (0, 0), (4, 0), (0, 0), (2, 0), (0, 0)]), (0, 7, [(4, 0), (0, 0), (1, 0), (0, 0), (0, 0)]), (0, 7, [(4, 0), (0, 0), (1, 0), (0, 0), (0, 0)]), (1, 0, []), (1, 0, []), (0, 5, [(4, 0), (4, 0), (4, 0), (4, 0), (0, 0), (0, 0), (0, 0), (4, 0), (4, 0), (0, 0), (0, 0), (0, 0), (0, 0), (0, 0), (0, 0), (0, 0), (0, 0), (0, 0), (0, 0)]), (0, 7, [(4, 0), (0, 0), (1, 0), (0, 0), (0, 0)]), (1, 0, []), (0, 7, [(4, 0), (0, 0), (1, 0), (0, 0), (0, 0)]), (1, 0, []), (1, 1, []), (1, 1, []), (1, 1, []), (1, 1, []), (1, 1, []), (1, 1, [])]
theorem len_V201_Row_Row_oz_D8cls : (V201_Row_Row).length = 16 := by decide +kernel
theorem oz_D8cls_43 : vsub V201_Row_Row V161_S0 [1, 3] = true := by decide +kernel
theorem oz_D8cls_44 : vmov V201_Row_Row [1, 3] [1] = true := by decide +kernel
theorem oz_D8cls_45 : vsub V201_Row_Row V156 [6] = true := by decide +kernel
theorem oz_D8cls_46 : vsub V201_Row_Row V121 [5, 11] = true := by decide +kernel
theorem oz_D8cls_47 : vmov V201_Row_Row [5, 11] [1] = true := by decide +kernel
theorem oz_D8cls_48 : vsub V201_Row_Row V124 [5, 6, 7, 12, 11] = true := by decide +kernel
theorem oz_D8cls_49 : vsub V201_Row_Row V161_Br [6, 4, 7] = true := by decide +kernel
theorem oz_D8cls_50 : vmov V201_Row_Row [6, 4, 7] [2] = true := by decide +kernel
theorem oz_D8cls_51 : vsub V201_Row_Row V156 [8] = true := by decide +kernel
theorem oz_D8cls_52 : vsub V201_Row_Row V194_thispackeda [0, 8, 9, 5, 6, 7, 12, 11, 13, 14, 15] = true := by decide +kernel
theorem oz_D8cls_53 : vmov V201_Row_Row [0, 8, 9, 5, 6, 7, 12, 11, 13, 14, 15] [2, 6, 8, 9, 10] = true := by decide +kernel
theorem oz_D8cls_54 : vsub V201_Row_Row V202_Row_thispackeda [0, 1, 3, 8, 9, 5, 6, 7] = true := by decide +kernel
theorem oz_D8cls_55 : vmov V201_Row_Row [0, 1, 3, 8, 9, 5, 6, 7] [2] = true := by decide +kernel
theorem oz_D8cls_56 : vsub V201_Row_Row V160 [1, 3] = true := by decide +kernel
theorem oz_D8cls_57 : vsub V201_Row_Row V162 [1, 3] = true := by decide +kernel
theorem oz_D8cls_58 : vsub V201_Row_Row V202_Row_thisfinderdataa [0, 1, 3, 5, 6, 7] = true := by decide +kernel
theorem oz_D8cls_59 : vmov V201_Row_Row [0, 1, 3, 5, 6, 7] [2] = true := by decide +kernel
def oz_D8clsl_16 : List (Nat × Nat) := [(1, 0), (1, 1), (1, 2), (5, 1), (5, 2), (5, 3), (5, 4), (5, 5), (5, 6), (5, 7), (5, 8), (5, 9), (5, 10), (5, 11), (5, 12), (5, 13), (5, 14), (5, 15), (5, 16), (5, 17), (5, 18), (6, 0), (6, 1), (6, 2), (6, 3), (6, 4), (8, 0), (8, 1), (8, 2), (8, 3), (8, 4)]
theorem oz_D8cls_60 : (oz_D8clsl_16).all (fun p => !tbz 3589554766356802058325291455311159676800046370091401349611517366353971380224000 (Nat.add (Nat.mul 32 p.1) p.2)) = true := by decide +kernel
def oz_D8clsl_17 : List Nat := [3, 7, 9, 11, 12, 13, 14, 15]
theorem oz_D8cls_61 : (oz_D8clsl_17).all (fun p => !tbz 64136 p) = true := by decide +kernel
def oz_D8clsl_18 : List Nat := [1, 3]
theorem oz_D8cls_62 : okc oz_D8clsl_18 1537 = true := by decide +kernel
def oz_D8clsl_19 : List Nat := [6]
theorem oz_D8cls_63 : okc oz_D8clsl_19 6 = true := by decide +kernel
def oz_D8clsl_20 : List Nat := [5, 11]
theorem oz_D8cls_64 : okc oz_D8clsl_20 5637 = true := by decide +kernel
def oz_D8clsl_21 : List Nat := [5, 6, 7, 12, 11]
theorem oz_D8cls_65 : okc oz_D8clsl_21 757526694917 = true := by decide +kernel
def oz_D8clsl_22 : List Nat := [6, 4, 7]
theorem oz_D8cls_66 : okc oz_D8clsl_22 1837062 = true := by decide +kernel
def oz_D8clsl_23 : List Nat := [8]
theorem oz_D8cls_67 : okc oz_D8clsl_23 8 = true := by decide +kernel
def oz_D8clsl_24 : List Nat := [0, 8, 9, 5, 6, 7, 12, 11, 13, 14, 15]
theorem oz_D8cls_68 : okc oz_D8clsl_24 18603012004667702936877666304 = true := by decide +kernel
def oz_D8clsl_25 : List Nat := [0, 1, 3, 8, 9, 5, 6, 7]
theorem oz_D8cls_69 : okc oz_D8clsl_25 64671867190450586112 = true := by decide +kernel
def oz_D8clsl_26 : List Nat := [0, 1, 3, 5, 6, 7]
theorem oz_D8cls_70 : okc oz_D8clsl_26 246703593357824 = true := by decide +kernel
set_option maxHeartbeats 16000000 in
theorem C201_Row_Row {σE : rS} {D N : Nat → Nat} {F : hF} {A : hA} {d c s : Nat} {Q : wQ} (H : HW V201_Row_Row σE D N F A) (HT : STC σE)  (pf3 : F 1 0 = (D 3 : Int)) (pf4 : F 2 0 = (D 4 : Int)) (pf5 : F 0 1 = (D 5 : Int)) (pf6 : F 5 0 = (D 6 : Int)) (pf7 : F 6 0 = (D 7 : Int)) (pf8 : F 0 2 = (D 8 : Int)) (pf9 : F 8 0 = (D 9 : Int)) (pf10 : F 0 0 = (D 10 : Int)) (pf11 : F 5 7 = (D 11 : Int)) (pf12 : F 5 8 = (D 12 : Int)) (pf13 : F 5 1 = (D 13 : Int)) (pf14 : F 5 2 = (D 14 : Int)) (pf15 : F 5 3 = (D 15 : Int)) (n3 : Int) (en3 : (N 3 : Int) = n3) (n4 : Int) (en4 : (N 4 : Int) = n4) (n7 : Int) (en7 : (N 7 : Int) = n7) (n9 : Int) (en9 : (N 9 : Int) = n9) (n10 : Int) (en10 : (N 10 : Int) = n10) (n11 : Int) (en11 : (N 11 : Int) = n11) (n12 : Int) (en12 : (N 12 : Int) = n12) (n13 : Int) (en13 : (N 13 : Int) = n13) (n14 : Int) (en14 : (N 14 : Int) = n14) (n15 : Int) (en15 : (N 15 : Int) = n15) (u1_1 : Int) (eu1_1 : F 1 1 = u1_1) (u1_2 : Int) (eu1_2 : F 1 2 = u1_2) (u2_1 : Int) (eu2_1 : F 2 1 = u2_1) (u6_1 : Int) (eu6_1 : F 6 1 = u6_1) (u8_1 : Int) (eu8_1 : F 8 1 = u8_1) (w3 : Int → Int) (ew3 : A 3 = w3) (w4 : Int → Int) (ew4 : A 4 = w4) (w10 : Int → Int) (ew10 : A 10 = w10) (h0 : 0 ≤ (u1_1) ∧ (u1_1) ≤ (n3) ∧ (n3) ≤ 65536) (h1 : 0 ≤ (u2_1) ∧ (u2_1) ≤ (n4) ∧ (n4) ≤ 65536) (h2 : 0 ≤ (u6_1) ∧ (u6_1) ≤ (n7) ∧ (n7) ≤ 65536) (h3 : 0 ≤ (u8_1) ∧ (u8_1) ≤ (n9) ∧ (n9) ≤ 65536) (h4 : (n10) = 10) (h5 : (u2_1) ≤ 16384) (h6 : 1 ≤ ((w10)) 2 ∧ ((w10)) 2 ≤ 65536) (h7 : (u1_1) = 0 ∧ (u1_2) = 0) (h8 : 0 ≤ ((w10)) 6 ∧ ((w10)) 6 ≤ 255) (h9 : (n11) = 0 ∨ (n11) = 2048) (h10 : (n12) ≤ 16384) (h11 : (n13) = (n14) ∧ (n15) = (n14) ∧ (n14) ≤ 65536 ∧ ((n14) = 0 ∨ 64 ≤ (n14)) ∧ lgq ((n14)) = 0) (k : ∀ (σ : rS) (Dₚ Nₚ : Nat → Nat) (Fₚ : hF) (Aₚ : hA) (cₚ sₚ : Nat), HW V201_Row_Row σ Dₚ Nₚ Fₚ Aₚ → OUT (V201_Row_Row).length D N σE c s Dₚ Nₚ σ cₚ sₚ → SD [3, 7, 9, 11, 12, 13, 14, 15] D Dₚ → SD [3, 7, 9, 11, 12, 13, 14, 15] N Nₚ → SF [(1, 0), (1, 1), (1, 2), (5, 1), (5, 2), (5, 3), (5, 4), (5, 5), (5, 6), (5, 7), (5, 8), (5, 9), (5, 10), (5, 11), (5, 12), (5, 13), (5, 14), (5, 15), (5, 16), (5, 17), (5, 18), (6, 0), (6, 1), (6, 2), (6, 3), (6, 4), (8, 0), (8, 1), (8, 2), (8, 3), (8, 4)] F Fₚ → SA [3, 7, 9, 11, 12, 13, 14, 15] A Aₚ → Fₚ 1 0 = (Dₚ 3 : Int) → Fₚ 6 0 = (Dₚ 7 : Int) → Fₚ 8 0 = (Dₚ 9 : Int) → Fₚ 5 7 = (Dₚ 11 : Int) → Fₚ 5 8 = (Dₚ 12 : Int) → Fₚ 5 1 = (Dₚ 13 : Int) → Fₚ 5 2 = (Dₚ 14 : Int) → Fₚ 5 3 = (Dₚ 15 : Int) → ∀ m3 : Int, (Nₚ 3 : Int) = m3 → ∀ m7 : Int, (Nₚ 7 : Int) = m7 → ∀ m9 : Int, (Nₚ 9 : Int) = m9 → ∀ m11 : Int, (Nₚ 11 : Int) = m11 → ∀ m12 : Int, (Nₚ 12 : Int) = m12 → ∀ m13 : Int, (Nₚ 13 : Int) = m13 → ∀ m14 : Int, (Nₚ 14 : Int) = m14 → ∀ m15 : Int, (Nₚ 15 : Int) = m15 → ∀ y1_1 : Int, Fₚ 1 1 = y1_1 → ∀ y1_2 : Int, Fₚ 1 2 = y1_2 → ∀ y6_1 : Int, Fₚ 6 1 = y6_1 → ∀ y8_1 : Int, Fₚ 8 1 = y8_1 → ∀ v3 : Int → Int, Aₚ 3 = v3 → (0 ≤ (y1_1) ∧ (y1_1) ≤ (m3) ∧ (m3) ≤ 65536) → (0 ≤ (y6_1) ∧ (y6_1) ≤ (m7) ∧ (m7) ≤ 65536) → (0 ≤ (y8_1) ∧ (y8_1) ≤ (m9) ∧ (m9) ≤ 65536) → ((m11) = 0 ∨ (m11) = 2048) → ((m12) ≤ 16384) → ((m13) = (m14) ∧ (m15) = (m14) ∧ (m14) ≤ 65536 ∧ ((m14) = 0 ∨ 64 ≤ (m14)) ∧ lgq ((m14)) = 0) → (PKS (((w10)) 0) (((w10)) 2) (((w10)) 6) (sc ((w4)) 0 ((u2_1))) ((u1_2)) ((w3)) ((u1_1)) ((y1_2)) ((v3)) ((y1_1))) → Q none σ cₚ sₚ) : Ew 201 (d + 5) 0 (rargs 0 [.ref (D 0), .ref (D 1), .ref (D 2)]) [] σE c s Q := by
  have O := OUT_refl (n := (V201_Row_Row).length) (D := D) (N := N) (σ := σE) (c := c) (s := s)
  have HE := H
  have r1 : (-2147483648 : Int) ≤ u1_1 ∧ u1_1 ≤ 2147483647 := rngE (show (-2147483648 : Int) ≤ F 1 1 ∧ F 1 1 ≤ 2147483647 from H.krg 1 1 (ltn len_V201_Row_Row_oz_D8cls rfl)) (show F 1 1 = u1_1 from (eu1_1))
  have r2 : (0 : Int) ≤ u1_2 ∧ u1_2 ≤ 1 := rngE (show (0 : Int) ≤ F 1 2 ∧ F 1 2 ≤ 1 from H.krg 1 2 (ltn len_V201_Row_Row_oz_D8cls rfl)) (show F 1 2 = u1_2 from (eu1_2))
  have r3 : (-2147483648 : Int) ≤ u2_1 ∧ u2_1 ≤ 2147483647 := rngE (show (-2147483648 : Int) ≤ F 2 1 ∧ F 2 1 ≤ 2147483647 from H.krg 2 1 (ltn len_V201_Row_Row_oz_D8cls rfl)) (show F 2 1 = u2_1 from (eu2_1))
  have r4 : (-2147483648 : Int) ≤ u6_1 ∧ u6_1 ≤ 2147483647 := rngE (show (-2147483648 : Int) ≤ F 6 1 ∧ F 6 1 ≤ 2147483647 from H.krg 6 1 (ltn len_V201_Row_Row_oz_D8cls rfl)) (show F 6 1 = u6_1 from (eu6_1))
  have r5 : (-2147483648 : Int) ≤ u8_1 ∧ u8_1 ≤ 2147483647 := rngE (show (-2147483648 : Int) ≤ F 8 1 ∧ F 8 1 ≤ 2147483647 from H.krg 8 1 (ltn len_V201_Row_Row_oz_D8cls rfl)) (show F 8 1 = u8_1 from (eu8_1))
  have r6 : (0 : Int) ≤ n3 ∧ n3 ≤ 1000000 := nleE (H.nle 3 (ltn len_V201_Row_Row_oz_D8cls rfl)) (show (N 3 : Int) = n3 from en3)
  have r7 : (0 : Int) ≤ n4 ∧ n4 ≤ 1000000 := nleE (H.nle 4 (ltn len_V201_Row_Row_oz_D8cls rfl)) (show (N 4 : Int) = n4 from en4)
  have r8 : (0 : Int) ≤ n7 ∧ n7 ≤ 1000000 := nleE (H.nle 7 (ltn len_V201_Row_Row_oz_D8cls rfl)) (show (N 7 : Int) = n7 from en7)
  have r9 : (0 : Int) ≤ n9 ∧ n9 ≤ 1000000 := nleE (H.nle 9 (ltn len_V201_Row_Row_oz_D8cls rfl)) (show (N 9 : Int) = n9 from en9)
  have r10 : (0 : Int) ≤ n10 ∧ n10 ≤ 1000000 := nleE (H.nle 10 (ltn len_V201_Row_Row_oz_D8cls rfl)) (show (N 10 : Int) = n10 from en10)
  have r11 : (0 : Int) ≤ n11 ∧ n11 ≤ 1000000 := nleE (H.nle 11 (ltn len_V201_Row_Row_oz_D8cls rfl)) (show (N 11 : Int) = n11 from en11)
  have r12 : (0 : Int) ≤ n12 ∧ n12 ≤ 1000000 := nleE (H.nle 12 (ltn len_V201_Row_Row_oz_D8cls rfl)) (show (N 12 : Int) = n12 from en12)
  have r13 : (0 : Int) ≤ n13 ∧ n13 ≤ 1000000 := nleE (H.nle 13 (ltn len_V201_Row_Row_oz_D8cls rfl)) (show (N 13 : Int) = n13 from en13)
  have r14 : (0 : Int) ≤ n14 ∧ n14 ≤ 1000000 := nleE (H.nle 14 (ltn len_V201_Row_Row_oz_D8cls rfl)) (show (N 14 : Int) = n14 from en14)
  have r15 : (0 : Int) ≤ n15 ∧ n15 ≤ 1000000 := nleE (H.nle 15 (ltn len_V201_Row_Row_oz_D8cls rfl)) (show (N 15 : Int) = n15 from en15)
  refine Ew_of (pcₚ := 1) (fun _ => x_aload_n rfl rfl) ?_
  refine Ew_of (pcₚ := 4) (fun _ => x_getstatic rfl) ?_
  refine Ew_of (pcₚ := 5) (fun _ => x_iconst rfl) ?_
  refine Ew_of (pcₚ := 8) (fun _ => x_getstatic rfl) ?_
  refine v_stL (STC_out HT HE O) (b := 0) (n := 10) rfl rfl rfl ?_
  refine v_inv H (o := 1) rfl rfl rfl rfl rfl rfl (by rfl) (C161_S0 (D := puc 1537 D) (N := puc 1537 N) (HW_subc H oz_D8cls_43 oz_D8cls_62) (STC_out HT HE O) (pf3) (n3) (en3) (u1_1) ((eu1_1)) (u1_2) ((eu1_2)) (w3) (ew3) (show inr (0) from q_2) (show inr (10) from q_746) (show 0 ≤ (u1_1) ∧ (u1_1) ≤ (n3) ∧ (n3) ≤ 65536 from h0) (show (10) < 0 ∨ 0 ≤ (0) ∧ (0) + (10) ≤ 10 from q_3470) (fun σ16 D16ₚ N16ₚ F16ₚ A16ₚ c16 s16 Hₚ Oₚ hD16 hN16 hS16 hA16 pm16_1 m16_1 em16_1 y16_0_1 ey16_0_1 y16_0_2 ey16_0_2 w16_1 ew16_1 pz16_0 pz16_1 pz16_2 pz16_3 => ⟨rfl, ?_⟩))
  refine v_backMc (c := c) (s := s) H oz_D8cls_43 oz_D8cls_62 Hₚ Oₚ hD16 oz_D8cls_44 (fun D16 N16 F16 A16 H Oₚ eD16 eN16 eF16 eA16 => ?_)
  have O := OUT_trans O Oₚ
  -- Row.addPart
  have cF16 : SF oz_D8clsl_16 F F16 := SF_trans (SF_refl) (SF_gluc (ι := oz_D8clsl_18) oz_D8cls_62 hS16 eF16 (by decide +kernel)) (any_sub (lₚ := [(1, 0), (1, 1), (1, 2)]) (by decide +kernel))
  have mF16 := SFm_of cF16 oz_D8cls_60
  have cA16 : SA oz_D8clsl_17 A A16 := SA_trans (SA_refl) (SA_gluc (ι := oz_D8clsl_18) oz_D8cls_62 hA16 eA16 (by decide +kernel)) (any_subA (lₚ := [3]) (by decide +kernel))
  have mA16 := SAm_of cA16 oz_D8cls_61
  have cD16 : SD oz_D8clsl_17 D D16 := SD_trans (SD_refl) (SD_gluc (ι := oz_D8clsl_18) oz_D8cls_62 hD16 eD16 (by decide +kernel)) (any_subA (lₚ := [3]) (by decide +kernel))
  have mD16 := SDm_of cD16 oz_D8cls_61
  have cN16 : SD oz_D8clsl_17 N N16 := SD_trans (SD_refl) (SD_gluc (ι := oz_D8clsl_18) oz_D8cls_62 hN16 eN16 (by decide +kernel)) (any_subA (lₚ := [3]) (by decide +kernel))
  have mN16 := SDm_of cN16 oz_D8cls_61
  have pf16_1_0 : F16 1 0 = (D16 3 : Int) := (eF16 1 0).trans (pm16_1.trans (congrArg (fun q : Nat => (q : Int)) (eD16 3).symm))
  have pf16_5_1 : F16 5 1 = (D16 13 : Int) := ((show F16 5 1 = F 5 1 from (eF16 5 1))).trans ((pf13).trans (congrArg (fun q : Nat => (q : Int)) ((show D16 13 = D 13 from (eD16 13))).symm))
  have pf16_5_2 : F16 5 2 = (D16 14 : Int) := ((show F16 5 2 = F 5 2 from (eF16 5 2))).trans ((pf14).trans (congrArg (fun q : Nat => (q : Int)) ((show D16 14 = D 14 from (eD16 14))).symm))
  have pf16_5_3 : F16 5 3 = (D16 15 : Int) := ((show F16 5 3 = F 5 3 from (eF16 5 3))).trans ((pf15).trans (congrArg (fun q : Nat => (q : Int)) ((show D16 15 = D 15 from (eD16 15))).symm))
  have pf16_5_7 : F16 5 7 = (D16 11 : Int) := ((show F16 5 7 = F 5 7 from (eF16 5 7))).trans ((pf11).trans (congrArg (fun q : Nat => (q : Int)) ((show D16 11 = D 11 from (eD16 11))).symm))
  have pf16_5_8 : F16 5 8 = (D16 12 : Int) := ((show F16 5 8 = F 5 8 from (eF16 5 8))).trans ((pf12).trans (congrArg (fun q : Nat => (q : Int)) ((show D16 12 = D 12 from (eD16 12))).symm))
  have pf16_6_0 : F16 6 0 = (D16 7 : Int) := ((show F16 6 0 = F 6 0 from (eF16 6 0))).trans ((pf7).trans (congrArg (fun q : Nat => (q : Int)) ((show D16 7 = D 7 from (eD16 7))).symm))
  have pf16_8_0 : F16 8 0 = (D16 9 : Int) := ((show F16 8 0 = F 8 0 from (eF16 8 0))).trans ((pf9).trans (congrArg (fun q : Nat => (q : Int)) ((show D16 9 = D 9 from (eD16 9))).symm))
  have r17 : (0 : Int) ≤ m16_1 ∧ m16_1 ≤ 1000000 := nleE (H.nle 3 (ltn len_V201_Row_Row_oz_D8cls rfl)) (show (N16 3 : Int) = m16_1 from (congrArg (fun q : Nat => (q : Int)) (eN16 3)).trans em16_1)
  have r18 : (-2147483648 : Int) ≤ y16_0_1 ∧ y16_0_1 ≤ 2147483647 := rngE (show (-2147483648 : Int) ≤ F16 1 1 ∧ F16 1 1 ≤ 2147483647 from H.krg 1 1 (ltn len_V201_Row_Row_oz_D8cls rfl)) (show F16 1 1 = y16_0_1 from ((eF16 1 1).trans ey16_0_1))
  have r19 : (0 : Int) ≤ y16_0_2 ∧ y16_0_2 ≤ 1 := rngE (show (0 : Int) ≤ F16 1 2 ∧ F16 1 2 ≤ 1 from H.krg 1 2 (ltn len_V201_Row_Row_oz_D8cls rfl)) (show F16 1 2 = y16_0_2 from ((eF16 1 2).trans ey16_0_2))
  have htm : RAP ((u1_2)) ((w3)) ((u1_1)) ((y16_0_2)) ((w16_1)) ((y16_0_1)) (TGm) := RAP_c (pz16_3 (by omega)) TGm_eq
  try clear pz16_1
  refine Ew_of (pcₚ := 13) (fun _ => x_aload_n rfl rfl) ?_
  refine Ew_stk (congrArg (fun qz : Nat => ([.ref qz] : List Value)) (show D16 0 = D 0 from mD16 0 rfl).symm) ?_
  refine v_g H (o := 0) (v := .ref (D16 5)) rfl rfl rfl rfl rfl (vrf ((mF16 0 1 rfl).trans ((pf5).trans (congrArg (fun q : Nat => (q : Int)) (mD16 5 rfl).symm)))) ?_
  refine v_g H (o := 5) (v := .ref (D16 6)) rfl rfl rfl rfl rfl (vrf ((mF16 5 0 rfl).trans ((pf6).trans (congrArg (fun q : Nat => (q : Int)) (mD16 6 rfl).symm)))) ?_
  refine Ew_of (pcₚ := 20) (fun _ => x_astore_n rfl) ?_
  refine Ew_of (pcₚ := 21) (fun _ => x_aload_n rfl rk_s) ?_
  have r20 : (0 : Int) ≤ F 6 2 ∧ F 6 2 ≤ 1 := rngE (show (0 : Int) ≤ F16 6 2 ∧ F16 6 2 ≤ 1 from H.krg 6 2 (ltn len_V201_Row_Row_oz_D8cls rfl)) (show F16 6 2 = F 6 2 from ((show F16 6 2 = F 6 2 from (eF16 6 2))))
  have r21 : (-2147483648 : Int) ≤ F 6 3 ∧ F 6 3 ≤ 2147483647 := rngE (show (-2147483648 : Int) ≤ F16 6 3 ∧ F16 6 3 ≤ 2147483647 from H.krg 6 3 (ltn len_V201_Row_Row_oz_D8cls rfl)) (show F16 6 3 = F 6 3 from ((show F16 6 3 = F 6 3 from (eF16 6 3))))
  have r22 : (-2147483648 : Int) ≤ F 6 4 ∧ F 6 4 ≤ 2147483647 := rngE (show (-2147483648 : Int) ≤ F16 6 4 ∧ F16 6 4 ≤ 2147483647 from H.krg 6 4 (ltn len_V201_Row_Row_oz_D8cls rfl)) (show F16 6 4 = F 6 4 from ((show F16 6 4 = F 6 4 from (eF16 6 4))))
  refine v_inv H (o := 6) rfl rfl rfl rfl rfl rfl (by rfl) (C156 (D := puc 6 D16) (N := puc 6 N16) (HW_subc H oz_D8cls_45 oz_D8cls_63) (u6_1) ((((show F16 6 1 = F 6 1 from (eF16 6 1))).trans (eu6_1))) (F 6 2) (((show F16 6 2 = F 6 2 from (eF16 6 2)))) (F 6 3) (((show F16 6 3 = F 6 3 from (eF16 6 3)))) (F 6 4) (((show F16 6 4 = F 6 4 from (eF16 6 4))))  (fun σ23 F23ₚ A23ₚ Hₚ Oₚ hS23 hA23 y23_0_1 ey23_0_1 y23_0_2 ey23_0_2 y23_0_3 ey23_0_3 y23_0_4 ey23_0_4 pz23_0 pz23_1 pz23_2 => ⟨rfl, ?_⟩))
  refine v_backc (c := (c + c16)) (s := (s + s16)) H oz_D8cls_45 oz_D8cls_63 Hₚ Oₚ (fun F23 A23 H Oₚ eF23 eA23 => ?_)
  have O := OUT_trans O Oₚ
  -- Row.clear
  have cF23 : SF oz_D8clsl_16 F F23 := SF_trans (cF16) (SF_gluc (ι := oz_D8clsl_19) oz_D8cls_63 hS23 eF23 (by decide +kernel)) (any_sub (lₚ := [(6, 1), (6, 2), (6, 3), (6, 4)]) (by decide +kernel))
  have mF23 := SFm_of cF23 oz_D8cls_60
  have cA23 : SA oz_D8clsl_17 A A23 := SA_trans (cA16) (SA_gluc (ι := oz_D8clsl_19) oz_D8cls_63 hA23 eA23 (by decide +kernel)) (any_subA (lₚ := []) (by decide +kernel))
  have mA23 := SAm_of cA23 oz_D8cls_61
  have r24 : (-2147483648 : Int) ≤ y23_0_1 ∧ y23_0_1 ≤ 2147483647 := rngE (show (-2147483648 : Int) ≤ F23 6 1 ∧ F23 6 1 ≤ 2147483647 from H.krg 6 1 (ltn len_V201_Row_Row_oz_D8cls rfl)) (show F23 6 1 = y23_0_1 from ((eF23 6 1).trans ey23_0_1))
  have r25 : (0 : Int) ≤ y23_0_2 ∧ y23_0_2 ≤ 1 := rngE (show (0 : Int) ≤ F23 6 2 ∧ F23 6 2 ≤ 1 from H.krg 6 2 (ltn len_V201_Row_Row_oz_D8cls rfl)) (show F23 6 2 = y23_0_2 from ((eF23 6 2).trans ey23_0_2))
  have r26 : (-2147483648 : Int) ≤ y23_0_3 ∧ y23_0_3 ≤ 2147483647 := rngE (show (-2147483648 : Int) ≤ F23 6 3 ∧ F23 6 3 ≤ 2147483647 from H.krg 6 3 (ltn len_V201_Row_Row_oz_D8cls rfl)) (show F23 6 3 = y23_0_3 from ((eF23 6 3).trans ey23_0_3))
  have r27 : (-2147483648 : Int) ≤ y23_0_4 ∧ y23_0_4 ≤ 2147483647 := rngE (show (-2147483648 : Int) ≤ F23 6 4 ∧ F23 6 4 ≤ 2147483647 from H.krg 6 4 (ltn len_V201_Row_Row_oz_D8cls rfl)) (show F23 6 4 = y23_0_4 from ((eF23 6 4).trans ey23_0_4))
  refine Ew_of (pcₚ := 25) (fun _ => x_aload_n rfl (rk_o (rfl) rfl rfl)) ?_
  refine Ew_stk (congrArg (fun qz : Nat => ([.ref qz] : List Value)) (show D16 0 = D 0 from mD16 0 rfl).symm) ?_
  refine v_g H (o := 0) (v := .ref (D16 5)) rfl rfl rfl rfl rfl (vrf ((mF23 0 1 rfl).trans ((pf5).trans (congrArg (fun q : Nat => (q : Int)) (mD16 5 rfl).symm)))) ?_
  refine Ew_of (pcₚ := 29) (fun _ => x_aload_n rfl (rk_o (rfl) rfl rfl)) ?_
  refine Ew_stk (congrArg (fun qz : Nat => ([.ref qz, .ref (D16 5)] : List Value)) (show D16 0 = D 0 from mD16 0 rfl).symm) ?_
  refine v_g H (o := 0) (v := .ref (D16 10)) rfl rfl rfl rfl rfl (vrf ((mF23 0 0 rfl).trans ((pf10).trans (congrArg (fun q : Nat => (q : Int)) (mD16 10 rfl).symm)))) ?_
  refine Ew_of (pcₚ := 33) (fun _ => x_iconst rfl) ?_
  refine v_lI H (o := 10) rfl rfl rfl rfl (n := n10) ((congrArg (fun q : Nat => (q : Int)) (mN16 10 rfl)).trans (en10)) (show 0 ≤ 0 ∧ 0 < n10 from q_3083 h4 r10) (fun v28 ev28 qv28 => ?_)
  have ev28 : (w10) (0) = v28 := (congrFun ((funext (mA23 10 rfl)).trans (ew10)) (0)).symm.trans ev28
  have hwy := ev28
  refine Ew_of (pcₚ := 35) (fun _ => x_iconst rfl) ?_
  refine Ew_of (pcₚ := 37) (fun _ => x_ldc (z := 65535) rfl (by decide)) ?_
  have r29 : (-2147483648 : Int) ≤ F 5 6 ∧ F 5 6 ≤ 2147483647 := rngE (show (-2147483648 : Int) ≤ F23 5 6 ∧ F23 5 6 ≤ 2147483647 from H.krg 5 6 (ltn len_V201_Row_Row_oz_D8cls rfl)) (show F23 5 6 = F 5 6 from (((show F23 5 6 = F16 5 6 from (eF23 5 6))).trans ((show F16 5 6 = F 5 6 from (eF16 5 6)))))
  have r30 : (-2147483648 : Int) ≤ F 5 9 ∧ F 5 9 ≤ 2147483647 := rngE (show (-2147483648 : Int) ≤ F23 5 9 ∧ F23 5 9 ≤ 2147483647 from H.krg 5 9 (ltn len_V201_Row_Row_oz_D8cls rfl)) (show F23 5 9 = F 5 9 from (((show F23 5 9 = F16 5 9 from (eF23 5 9))).trans ((show F16 5 9 = F 5 9 from (eF16 5 9)))))
  have r31 : (-2147483648 : Int) ≤ F 5 10 ∧ F 5 10 ≤ 2147483647 := rngE (show (-2147483648 : Int) ≤ F23 5 10 ∧ F23 5 10 ≤ 2147483647 from H.krg 5 10 (ltn len_V201_Row_Row_oz_D8cls rfl)) (show F23 5 10 = F 5 10 from (((show F23 5 10 = F16 5 10 from (eF23 5 10))).trans ((show F16 5 10 = F 5 10 from (eF16 5 10)))))
  have r32 : (-2147483648 : Int) ≤ F 5 11 ∧ F 5 11 ≤ 2147483647 := rngE (show (-2147483648 : Int) ≤ F23 5 11 ∧ F23 5 11 ≤ 2147483647 from H.krg 5 11 (ltn len_V201_Row_Row_oz_D8cls rfl)) (show F23 5 11 = F 5 11 from (((show F23 5 11 = F16 5 11 from (eF23 5 11))).trans ((show F16 5 11 = F 5 11 from (eF16 5 11)))))
  refine v_inv H (o := 5) rfl rfl rfl rfl rfl rfl (by rfl) (C121 (D := puc 5637 D16) (N := puc 5637 N16) (HW_subc H oz_D8cls_46 oz_D8cls_64) ((((show F23 5 7 = F16 5 7 from (eF23 5 7)))).trans (pf16_5_7)) (n11) ((congrArg (fun q : Nat => (q : Int)) (show N16 11 = N 11 from (eN16 11))).trans (en11)) (F 5 6) ((((show F23 5 6 = F16 5 6 from (eF23 5 6))).trans ((show F16 5 6 = F 5 6 from (eF16 5 6))))) (F 5 9) ((((show F23 5 9 = F16 5 9 from (eF23 5 9))).trans ((show F16 5 9 = F 5 9 from (eF16 5 9))))) (F 5 10) ((((show F23 5 10 = F16 5 10 from (eF23 5 10))).trans ((show F16 5 10 = F 5 10 from (eF16 5 10))))) (F 5 11) ((((show F23 5 11 = F16 5 11 from (eF23 5 11))).trans ((show F16 5 11 = F 5 11 from (eF16 5 11))))) (A 11) (((show A23 11 = A16 11 from (eA23 11))).trans ((show A16 11 = A 11 from (eA16 11)))) (show inr (v28) from qv28) (show inr (4) from q_216) (show inr (65535) from q_422) (show (n11) = 0 ∨ (n11) = 2048 from h9) (fun σ33 D33ₚ N33ₚ F33ₚ A33ₚ c33 s33 Hₚ Oₚ hD33 hN33 hS33 hA33 pm33_1 m33_1 em33_1 y33_0_6 ey33_0_6 y33_0_9 ey33_0_9 y33_0_10 ey33_0_10 y33_0_11 ey33_0_11 w33_1 ew33_1 pz33_0 pz33_1 pz33_2 pz33_3 => ⟨rfl, ?_⟩))
  refine v_backMc (c := (c + c16)) (s := (s + s16)) H oz_D8cls_46 oz_D8cls_64 Hₚ Oₚ hD33 oz_D8cls_47 (fun D33 N33 F33 A33 H Oₚ eD33 eN33 eF33 eA33 => ?_)
  have O := OUT_trans O Oₚ
  -- Finder.begin
  have cF33 : SF oz_D8clsl_16 F F33 := SF_trans (cF23) (SF_gluc (ι := oz_D8clsl_20) oz_D8cls_64 hS33 eF33 (by decide +kernel)) (any_sub (lₚ := [(5, 6), (5, 7), (5, 9), (5, 10), (5, 11)]) (by decide +kernel))
  have mF33 := SFm_of cF33 oz_D8cls_60
  have cA33 : SA oz_D8clsl_17 A A33 := SA_trans (cA23) (SA_gluc (ι := oz_D8clsl_20) oz_D8cls_64 hA33 eA33 (by decide +kernel)) (any_subA (lₚ := [11]) (by decide +kernel))
  have mA33 := SAm_of cA33 oz_D8cls_61
  have cD33 : SD oz_D8clsl_17 D D33 := SD_trans (cD16) (SD_gluc (ι := oz_D8clsl_20) oz_D8cls_64 hD33 eD33 (by decide +kernel)) (any_subA (lₚ := [11]) (by decide +kernel))
  have mD33 := SDm_of cD33 oz_D8cls_61
  have cN33 : SD oz_D8clsl_17 N N33 := SD_trans (cN16) (SD_gluc (ι := oz_D8clsl_20) oz_D8cls_64 hN33 eN33 (by decide +kernel)) (any_subA (lₚ := [11]) (by decide +kernel))
  have mN33 := SDm_of cN33 oz_D8cls_61
  have pf33_1_0 : F33 1 0 = (D33 3 : Int) := ((show F33 1 0 = F23 1 0 from (eF33 1 0))).trans (((((show F23 1 0 = F16 1 0 from (eF23 1 0)))).trans (pf16_1_0)).trans (congrArg (fun q : Nat => (q : Int)) ((show D33 3 = D16 3 from (eD33 3))).symm))
  have pf33_5_1 : F33 5 1 = (D33 13 : Int) := ((show F33 5 1 = F23 5 1 from (eF33 5 1).trans (hS33 0 1 rfl))).trans (((((show F23 5 1 = F16 5 1 from (eF23 5 1)))).trans (pf16_5_1)).trans (congrArg (fun q : Nat => (q : Int)) ((show D33 13 = D16 13 from (eD33 13))).symm))
  have pf33_5_2 : F33 5 2 = (D33 14 : Int) := ((show F33 5 2 = F23 5 2 from (eF33 5 2).trans (hS33 0 2 rfl))).trans (((((show F23 5 2 = F16 5 2 from (eF23 5 2)))).trans (pf16_5_2)).trans (congrArg (fun q : Nat => (q : Int)) ((show D33 14 = D16 14 from (eD33 14))).symm))
  have pf33_5_3 : F33 5 3 = (D33 15 : Int) := ((show F33 5 3 = F23 5 3 from (eF33 5 3).trans (hS33 0 3 rfl))).trans (((((show F23 5 3 = F16 5 3 from (eF23 5 3)))).trans (pf16_5_3)).trans (congrArg (fun q : Nat => (q : Int)) ((show D33 15 = D16 15 from (eD33 15))).symm))
  have pf33_5_7 : F33 5 7 = (D33 11 : Int) := (eF33 5 7).trans (pm33_1.trans (congrArg (fun q : Nat => (q : Int)) (eD33 11).symm))
  have pf33_5_8 : F33 5 8 = (D33 12 : Int) := ((show F33 5 8 = F23 5 8 from (eF33 5 8).trans (hS33 0 8 rfl))).trans (((((show F23 5 8 = F16 5 8 from (eF23 5 8)))).trans (pf16_5_8)).trans (congrArg (fun q : Nat => (q : Int)) ((show D33 12 = D16 12 from (eD33 12))).symm))
  have pf33_6_0 : F33 6 0 = (D33 7 : Int) := ((show F33 6 0 = F23 6 0 from (eF33 6 0))).trans (((((show F23 6 0 = F16 6 0 from (eF23 6 0).trans (hS23 0 0 rfl)))).trans (pf16_6_0)).trans (congrArg (fun q : Nat => (q : Int)) ((show D33 7 = D16 7 from (eD33 7))).symm))
  have pf33_8_0 : F33 8 0 = (D33 9 : Int) := ((show F33 8 0 = F23 8 0 from (eF33 8 0))).trans (((((show F23 8 0 = F16 8 0 from (eF23 8 0)))).trans (pf16_8_0)).trans (congrArg (fun q : Nat => (q : Int)) ((show D33 9 = D16 9 from (eD33 9))).symm))
  have r34 : (0 : Int) ≤ m33_1 ∧ m33_1 ≤ 1000000 := nleE (H.nle 11 (ltn len_V201_Row_Row_oz_D8cls rfl)) (show (N33 11 : Int) = m33_1 from (congrArg (fun q : Nat => (q : Int)) (eN33 11)).trans em33_1)
  have r35 : (-2147483648 : Int) ≤ y33_0_6 ∧ y33_0_6 ≤ 2147483647 := rngE (show (-2147483648 : Int) ≤ F33 5 6 ∧ F33 5 6 ≤ 2147483647 from H.krg 5 6 (ltn len_V201_Row_Row_oz_D8cls rfl)) (show F33 5 6 = y33_0_6 from ((eF33 5 6).trans ey33_0_6))
  have r36 : (-2147483648 : Int) ≤ y33_0_9 ∧ y33_0_9 ≤ 2147483647 := rngE (show (-2147483648 : Int) ≤ F33 5 9 ∧ F33 5 9 ≤ 2147483647 from H.krg 5 9 (ltn len_V201_Row_Row_oz_D8cls rfl)) (show F33 5 9 = y33_0_9 from ((eF33 5 9).trans ey33_0_9))
  have r37 : (-2147483648 : Int) ≤ y33_0_10 ∧ y33_0_10 ≤ 2147483647 := rngE (show (-2147483648 : Int) ≤ F33 5 10 ∧ F33 5 10 ≤ 2147483647 from H.krg 5 10 (ltn len_V201_Row_Row_oz_D8cls rfl)) (show F33 5 10 = y33_0_10 from ((eF33 5 10).trans ey33_0_10))
  have r38 : (-2147483648 : Int) ≤ y33_0_11 ∧ y33_0_11 ≤ 2147483647 := rngE (show (-2147483648 : Int) ≤ F33 5 11 ∧ F33 5 11 ≤ 2147483647 from H.krg 5 11 (ltn len_V201_Row_Row_oz_D8cls rfl)) (show F33 5 11 = y33_0_11 from ((eF33 5 11).trans ey33_0_11))
  have h37_1 := pz33_1
  have h37_3 := pz33_3
  have hwin : (y33_0_11) = 65535 ∧ (y33_0_9) = ((w10)) 0 := by rw [hwy]; exact ⟨pz33_2.2.2, pz33_2.1⟩
  refine Ew_of (pcₚ := 41) (fun _ => x_aload_n rfl (rk_o (rfl) rfl rfl)) ?_
  refine Ew_stk (congrArg (fun qz : Nat => ([.ref qz] : List Value)) (show D33 0 = D 0 from mD33 0 rfl).symm) ?_
  refine v_g H (o := 0) (v := .ref (D33 10)) rfl rfl rfl rfl rfl (vrf ((mF33 0 0 rfl).trans ((pf10).trans (congrArg (fun q : Nat => (q : Int)) (mD33 10 rfl).symm)))) ?_
  refine Ew_of (pcₚ := 45) (fun _ => x_iconst rfl) ?_
  refine v_lI H (o := 10) rfl rfl rfl rfl (n := n10) ((congrArg (fun q : Nat => (q : Int)) (mN33 10 rfl)).trans (en10)) (show 0 ≤ 2 ∧ 2 < n10 from q_3471 h4 r10) (fun v39 ev39 qv39 => ?_)
  have ev39 : (w10) (2) = v39 := (congrFun ((funext (mA33 10 rfl)).trans (ew10)) (2)).symm.trans ev39
  have hs2 := ev39
  have hs3 : 1 ≤ (v39) ∧ (v39) ≤ 65536 := q_3472 ev39 h6
  refine Ew_of (pcₚ := 48) (fun _ => x_istore rfl) ?_
  refine Ew_of (pcₚ := 49) (fun _ => x_iconst rfl) ?_
  refine Ew_of (pcₚ := 51) (fun _ => x_istore rfl) ?_
  have hb0 : BKI ((A 7)) ((A 12)) ((y33_0_10)) ((y33_0_6)) := by rw [h37_1]; exact BKI_0
  have hh0 : HDI ((A 7)) ((w33_1)) ((y33_0_10)) ((y33_0_6)) := by rw [h37_1]; exact HDI_0 h37_3
  have : ∃ M, ITP (TGs (((w10)) 0) (((w10)) 2) (((w10)) 6) (sc ((w4)) 0 ((u2_1)))) (0, []) (0, M) ∧ RAP ((u1_2)) ((w3)) ((u1_1)) ((y16_0_2)) ((w16_1)) ((y16_0_1)) (TGm ++ M) := ⟨[], ITP_0, by rw [List.append_nil]; exact htm⟩
  suffices hl51 : ∀ (m : Nat), ∀ (ls : rO) (σ : rS) (D_51 N_51 : Nat → Nat) (c_51 s_51 : Nat) (F_51 : hF) (A_51 : hA) (x51_5 : Int), rlook ls 0 = some (.ref (D_51 0)) → rlook ls 1 = some (.ref (D_51 1)) → rlook ls 2 = some (.ref (D_51 2)) → rlook ls 3 = some (.ref (D_51 6)) → rlook ls 4 = some (I (v39)) → rlook ls 5 = some (I (x51_5)) → HW V201_Row_Row σ D_51 N_51 F_51 A_51 → OUT (V201_Row_Row).length D N σE c s D_51 N_51 σ c_51 s_51 → SD [3, 7, 9, 12, 13, 14, 15] D33 D_51 → SD [3, 7, 9, 12, 13, 14, 15] N33 N_51 → SF [(1, 0), (1, 1), (1, 2), (5, 1), (5, 2), (5, 3), (5, 4), (5, 5), (5, 6), (5, 8), (5, 12), (5, 13), (5, 14), (5, 15), (5, 16), (5, 17), (5, 18), (6, 0), (6, 1), (6, 2), (6, 3), (6, 4), (8, 0), (8, 1), (8, 2), (8, 3), (8, 4)] F33 F_51 → SA [3, 7, 9, 11, 12, 13, 14, 15] A33 A_51 → F_51 1 0 = (D_51 3 : Int) → F_51 6 0 = (D_51 7 : Int) → F_51 8 0 = (D_51 9 : Int) → F_51 5 8 = (D_51 12 : Int) → F_51 5 1 = (D_51 13 : Int) → F_51 5 2 = (D_51 14 : Int) → F_51 5 3 = (D_51 15 : Int) → ∀ m51_3 : Int, (N_51 3 : Int) = m51_3 → ∀ m51_7 : Int, (N_51 7 : Int) = m51_7 → ∀ m51_9 : Int, (N_51 9 : Int) = m51_9 → ∀ m51_12 : Int, (N_51 12 : Int) = m51_12 → ∀ m51_13 : Int, (N_51 13 : Int) = m51_13 → ∀ m51_14 : Int, (N_51 14 : Int) = m51_14 → ∀ m51_15 : Int, (N_51 15 : Int) = m51_15 → ∀ y51_1_1 : Int, F_51 1 1 = y51_1_1 → ∀ y51_1_2 : Int, F_51 1 2 = y51_1_2 → ∀ y51_5_6 : Int, F_51 5 6 = y51_5_6 → ∀ y51_6_1 : Int, F_51 6 1 = y51_6_1 → ∀ y51_8_1 : Int, F_51 8 1 = y51_8_1 → ∀ w51_3 : Int → Int, A_51 3 = w51_3 → ∀ w51_7 : Int → Int, A_51 7 = w51_7 → ∀ w51_11 : Int → Int, A_51 11 = w51_11 → ∀ w51_12 : Int → Int, A_51 12 = w51_12 → (inr (x51_5)) → (0 ≤ (y51_1_1) ∧ (y51_1_1) ≤ (m51_3) ∧ (m51_3) ≤ 65536) → (0 ≤ (x51_5) ∧ (x51_5) ≤ (u2_1) + 65536) → ((y51_1_2) = 0 ∨ (y51_1_2) = 1) → (0 ≤ (y51_6_1) ∧ (y51_6_1) ≤ (m51_7) ∧ (m51_7) ≤ 65536 ∧ (y51_6_1) ≤ 16384) → (0 ≤ (y51_8_1) ∧ (y51_8_1) ≤ (m51_9) ∧ (m51_9) ≤ 65536) → ((m33_1) = 2048) → (0 ≤ (y51_5_6) ∧ (y51_5_6) ≤ (m51_12) ∧ (m51_12) ≤ 16384) → ((y51_5_6) = 0 ∨ (y51_5_6) + 4 ≤ (y51_6_1) + 1) → (BKI ((w51_7)) ((w51_12)) ((y33_0_10)) ((y51_5_6))) → (HDI ((w51_7)) ((w51_11)) ((y33_0_10)) ((y51_5_6))) → ((m51_13) = (m51_14) ∧ (m51_15) = (m51_14) ∧ (m51_14) ≤ 65536 ∧ ((m51_14) = 0 ∨ 64 ≤ (m51_14)) ∧ lgq ((m51_14)) = 0) → ((y33_0_11) = 65535 ∧ (y33_0_9) = ((w10)) 0) → (∃ M, ITP (TGs (((w10)) 0) (((w10)) 2) (((w10)) 6) (sc ((w4)) 0 ((u2_1)))) (0, []) ((x51_5), M) ∧ RAP ((u1_2)) ((w3)) ((u1_1)) ((y51_1_2)) ((w51_3)) ((y51_1_1)) (TGm ++ M)) → ((u2_1) + 65536 - (x51_5)).toNat = m → Ew 201 (d + 5) 51 ls [] σ c_51 s_51 Q from
    hl51 _ _ _ _ _ _ _ _ _ (0) ((rk_o (rk_o (rk_o (rfl) rfl rfl) rfl rfl) rfl rfl).trans (congrArg (fun q : Nat => some (Value.ref q)) (mD33 0 rfl).symm)) ((rk_o (rk_o (rk_o (rfl) rfl rfl) rfl rfl) rfl rfl).trans (congrArg (fun q : Nat => some (Value.ref q)) (mD33 1 rfl).symm)) ((rk_o (rk_o (rk_o (rfl) rfl rfl) rfl rfl) rfl rfl).trans (congrArg (fun q : Nat => some (Value.ref q)) (mD33 2 rfl).symm)) ((rk_o (rk_o (rk_s) rfl rfl) rfl rfl).trans (congrArg (fun q : Nat => some (Value.ref q)) (((show D33 6 = D16 6 from (eD33 6)))).symm)) (rk_o (rk_s) rfl rfl) (rk_s) H O (SD_refl) (SD_refl) (SF_refl) (SA_refl) (pf33_1_0) (pf33_6_0) (pf33_8_0) (pf33_5_8) (pf33_5_1) (pf33_5_2) (pf33_5_3) (m16_1) ((congrArg (fun q : Nat => (q : Int)) (show N33 3 = N16 3 from (eN33 3))).trans ((congrArg (fun q : Nat => (q : Int)) (eN16 3)).trans em16_1)) (n7) ((congrArg (fun q : Nat => (q : Int)) (show N33 7 = N16 7 from (eN33 7))).trans ((congrArg (fun q : Nat => (q : Int)) (show N16 7 = N 7 from (eN16 7))).trans (en7))) (n9) ((congrArg (fun q : Nat => (q : Int)) (show N33 9 = N16 9 from (eN33 9))).trans ((congrArg (fun q : Nat => (q : Int)) (show N16 9 = N 9 from (eN16 9))).trans (en9))) (n12) ((congrArg (fun q : Nat => (q : Int)) (show N33 12 = N16 12 from (eN33 12))).trans ((congrArg (fun q : Nat => (q : Int)) (show N16 12 = N 12 from (eN16 12))).trans (en12))) (n13) ((congrArg (fun q : Nat => (q : Int)) (show N33 13 = N16 13 from (eN33 13))).trans ((congrArg (fun q : Nat => (q : Int)) (show N16 13 = N 13 from (eN16 13))).trans (en13))) (n14) ((congrArg (fun q : Nat => (q : Int)) (show N33 14 = N16 14 from (eN33 14))).trans ((congrArg (fun q : Nat => (q : Int)) (show N16 14 = N 14 from (eN16 14))).trans (en14))) (n15) ((congrArg (fun q : Nat => (q : Int)) (show N33 15 = N16 15 from (eN33 15))).trans ((congrArg (fun q : Nat => (q : Int)) (show N16 15 = N 15 from (eN16 15))).trans (en15))) (y16_0_1) (((((show F33 1 1 = F23 1 1 from (eF33 1 1))).trans ((show F23 1 1 = F16 1 1 from (eF23 1 1)))).trans ((eF16 1 1).trans ey16_0_1))) (y16_0_2) (((((show F33 1 2 = F23 1 2 from (eF33 1 2))).trans ((show F23 1 2 = F16 1 2 from (eF23 1 2)))).trans ((eF16 1 2).trans ey16_0_2))) (y33_0_6) (((eF33 5 6).trans ey33_0_6)) (y23_0_1) ((((show F33 6 1 = F23 6 1 from (eF33 6 1))).trans ((eF23 6 1).trans ey23_0_1))) (u8_1) ((((((show F33 8 1 = F23 8 1 from (eF33 8 1))).trans ((show F23 8 1 = F16 8 1 from (eF23 8 1)))).trans ((show F16 8 1 = F 8 1 from (eF16 8 1)))).trans (eu8_1))) (w16_1) (((show A33 3 = A23 3 from (eA33 3))).trans (((show A23 3 = A16 3 from (eA23 3))).trans ((eA16 3).trans ew16_1))) (A 7) (((show A33 7 = A23 7 from (eA33 7))).trans (((show A23 7 = A16 7 from (eA23 7))).trans ((show A16 7 = A 7 from (eA16 7))))) (w33_1) ((eA33 11).trans ew33_1) (A 12) (((show A33 12 = A23 12 from (eA33 12))).trans (((show A23 12 = A16 12 from (eA23 12))).trans ((show A16 12 = A 12 from (eA16 12))))) (show inr (0) from q_2) (show 0 ≤ (y16_0_1) ∧ (y16_0_1) ≤ (m16_1) ∧ (m16_1) ≤ 65536 from pz16_0) (show 0 ≤ (0) ∧ (0) ≤ (u2_1) + 65536 from q_3475 h1) (show (y16_0_2) = 0 ∨ (y16_0_2) = 1 by omega) (show 0 ≤ (y23_0_1) ∧ (y23_0_1) ≤ (n7) ∧ (n7) ≤ 65536 ∧ (y23_0_1) ≤ 16384 from q_3474 h2 pz23_0 r8) (show 0 ≤ (u8_1) ∧ (u8_1) ≤ (n9) ∧ (n9) ≤ 65536 from h3) (show (m33_1) = 2048 from pz33_0) (show 0 ≤ (y33_0_6) ∧ (y33_0_6) ≤ (n12) ∧ (n12) ≤ 16384 from q_3085 h10 pz33_1 r12) (show (y33_0_6) = 0 ∨ (y33_0_6) + 4 ≤ (y23_0_1) + 1 from q_3473 pz33_1) (hb0) (hh0) (show (n13) = (n14) ∧ (n15) = (n14) ∧ (n14) ≤ 65536 ∧ ((n14) = 0 ∨ 64 ≤ (n14)) ∧ lgq ((n14)) = 0 from h11) (show (y33_0_11) = 65535 ∧ (y33_0_9) = ((w10)) 0 from hwin) (show ∃ M, ITP (TGs (((w10)) 0) (((w10)) 2) (((w10)) 6) (sc ((w4)) 0 ((u2_1)))) (0, []) ((0), M) ∧ RAP ((u1_2)) ((w3)) ((u1_1)) ((y16_0_2)) ((w16_1)) ((y16_0_1)) (TGm ++ M) by assumption) rfl
  as_aux_lemma =>
  intro m
  induction m using Nat.strongRecOn with
  | _ m ih51 =>
    intro ls σ D_51 N_51 c_51 s_51 F_51 A_51 x51_5 l51_0 l51_1 l51_2 l51_3 l51_4 l51_5 H O hD_51 hN_51 hS_51 hA_51 pm51_3 pm51_7 pm51_9 pm51_12 pm51_13 pm51_14 pm51_15 m51_3 em51_3 m51_7 em51_7 m51_9 em51_9 m51_12 em51_12 m51_13 em51_13 m51_14 em51_14 m51_15 em51_15 y51_1_1 ey51_1_1 y51_1_2 ey51_1_2 y51_5_6 ey51_5_6 y51_6_1 ey51_6_1 y51_8_1 ey51_8_1 w51_3 ew51_3 w51_7 ew51_7 w51_11 ew51_11 w51_12 ew51_12 j51_0 j51_1 j51_2 j51_3 j51_4 j51_5 j51_6 j51_7 j51_8 j51_9 j51_10 j51_11 j51_12 j51_13 hm51
    have cF_51 : SF oz_D8clsl_16 F F_51 := SF_trans (cF33) hS_51 (any_sub (by decide +kernel))
    have mF_51 := SFm_of cF_51 oz_D8cls_60
    have cA_51 : SA oz_D8clsl_17 A A_51 := SA_trans (cA33) hA_51 (any_subA (by decide +kernel))
    have mA_51 := SAm_of cA_51 oz_D8cls_61
    have cD_51 : SD oz_D8clsl_17 D D_51 := SD_trans (cD33) hD_51 (any_subA (by decide +kernel))
    have mD_51 := SDm_of cD_51 oz_D8cls_61
    have cN_51 : SD oz_D8clsl_17 N N_51 := SD_trans (cN33) hN_51 (any_subA (by decide +kernel))
    have mN_51 := SDm_of cN_51 oz_D8cls_61
    try clear pz16_1
    have pf_51_5_7 : F_51 5 7 = (D_51 11 : Int) := (hS_51 5 7 rfl).trans ((pf33_5_7).trans (congrArg (fun q : Nat => (q : Int)) (hD_51 11 rfl).symm))
    have r40 : (0 : Int) ≤ m51_3 ∧ m51_3 ≤ 1000000 := nleE (H.nle 3 (ltn len_V201_Row_Row_oz_D8cls rfl)) (show (N_51 3 : Int) = m51_3 from em51_3)
    have r41 : (0 : Int) ≤ m51_7 ∧ m51_7 ≤ 1000000 := nleE (H.nle 7 (ltn len_V201_Row_Row_oz_D8cls rfl)) (show (N_51 7 : Int) = m51_7 from em51_7)
    have r42 : (0 : Int) ≤ m51_9 ∧ m51_9 ≤ 1000000 := nleE (H.nle 9 (ltn len_V201_Row_Row_oz_D8cls rfl)) (show (N_51 9 : Int) = m51_9 from em51_9)
    have r43 : (0 : Int) ≤ m51_12 ∧ m51_12 ≤ 1000000 := nleE (H.nle 12 (ltn len_V201_Row_Row_oz_D8cls rfl)) (show (N_51 12 : Int) = m51_12 from em51_12)
    have r44 : (0 : Int) ≤ m51_13 ∧ m51_13 ≤ 1000000 := nleE (H.nle 13 (ltn len_V201_Row_Row_oz_D8cls rfl)) (show (N_51 13 : Int) = m51_13 from em51_13)
    have r45 : (0 : Int) ≤ m51_14 ∧ m51_14 ≤ 1000000 := nleE (H.nle 14 (ltn len_V201_Row_Row_oz_D8cls rfl)) (show (N_51 14 : Int) = m51_14 from em51_14)
    have r46 : (0 : Int) ≤ m51_15 ∧ m51_15 ≤ 1000000 := nleE (H.nle 15 (ltn len_V201_Row_Row_oz_D8cls rfl)) (show (N_51 15 : Int) = m51_15 from em51_15)
    have r47 : (-2147483648 : Int) ≤ y51_1_1 ∧ y51_1_1 ≤ 2147483647 := rngE (show (-2147483648 : Int) ≤ F_51 1 1 ∧ F_51 1 1 ≤ 2147483647 from H.krg 1 1 (ltn len_V201_Row_Row_oz_D8cls rfl)) (show F_51 1 1 = y51_1_1 from (ey51_1_1))
    have r48 : (0 : Int) ≤ y51_1_2 ∧ y51_1_2 ≤ 1 := rngE (show (0 : Int) ≤ F_51 1 2 ∧ F_51 1 2 ≤ 1 from H.krg 1 2 (ltn len_V201_Row_Row_oz_D8cls rfl)) (show F_51 1 2 = y51_1_2 from (ey51_1_2))
    have r49 : (-2147483648 : Int) ≤ y51_5_6 ∧ y51_5_6 ≤ 2147483647 := rngE (show (-2147483648 : Int) ≤ F_51 5 6 ∧ F_51 5 6 ≤ 2147483647 from H.krg 5 6 (ltn len_V201_Row_Row_oz_D8cls rfl)) (show F_51 5 6 = y51_5_6 from (ey51_5_6))
    have r50 : (-2147483648 : Int) ≤ y51_6_1 ∧ y51_6_1 ≤ 2147483647 := rngE (show (-2147483648 : Int) ≤ F_51 6 1 ∧ F_51 6 1 ≤ 2147483647 from H.krg 6 1 (ltn len_V201_Row_Row_oz_D8cls rfl)) (show F_51 6 1 = y51_6_1 from (ey51_6_1))
    have r51 : (-2147483648 : Int) ≤ y51_8_1 ∧ y51_8_1 ≤ 2147483647 := rngE (show (-2147483648 : Int) ≤ F_51 8 1 ∧ F_51 8 1 ≤ 2147483647 from H.krg 8 1 (ltn len_V201_Row_Row_oz_D8cls rfl)) (show F_51 8 1 = y51_8_1 from (ey51_8_1))
    have j51_i : ∃ M, ITP (TGs (((w10)) 0) (((w10)) 2) (((w10)) 6) (sc ((w4)) 0 ((u2_1)))) (0, []) ((x51_5), M) ∧ RAP ((u1_2)) ((w3)) ((u1_1)) ((y51_1_2)) ((w51_3)) ((y51_1_1)) (TGm ++ M) := by assumption
    obtain ⟨Mx, hIT, hRA⟩ := j51_i
    have hLl : ((sc ((w4)) 0 ((u2_1))).length : Int) = (u2_1) := by rw [sc_lenI (by omega)]; omega
    refine Ew_of (pcₚ := 53) (fun _ => x_iload rfl l51_4) ?_
    refine w_ifle (t := 224) rfl rfl (show inr (v39) from qv39) (fun b52 => ?_) (fun b52 => ?_)
    · have : PKS (((w10)) 0) (((w10)) 2) (((w10)) 6) (sc ((w4)) 0 ((u2_1))) ((u1_2)) ((w3)) ((u1_1)) ((y51_1_2)) ((w51_3)) ((y51_1_1)) := ⟨Mx, (x51_5), hIT, by first | exact .inl (by omega) | exact .inr (by omega) | (exfalso; omega), hRA⟩
      exact w_ret rfl (k _ _ _ _ _ _ _ H O (cD_51) (cN_51) (cF_51) (cA_51) (pm51_3) (pm51_7) (pm51_9) (pf_51_5_7) (pm51_12) (pm51_13) (pm51_14) (pm51_15) (m51_3) (em51_3) (m51_7) (em51_7) (m51_9) (em51_9) (m33_1) ((congrArg (fun q : Nat => (q : Int)) (hN_51 11 rfl)).trans ((congrArg (fun q : Nat => (q : Int)) (eN33 11)).trans em33_1)) (m51_12) (em51_12) (m51_13) (em51_13) (m51_14) (em51_14) (m51_15) (em51_15) (y51_1_1) ((ey51_1_1)) (y51_1_2) ((ey51_1_2)) (y51_6_1) ((ey51_6_1)) (y51_8_1) ((ey51_8_1)) (w51_3) (ew51_3) (show 0 ≤ (y51_1_1) ∧ (y51_1_1) ≤ (m51_3) ∧ (m51_3) ≤ 65536 from j51_1) (show 0 ≤ (y51_6_1) ∧ (y51_6_1) ≤ (m51_7) ∧ (m51_7) ≤ 65536 from q_3076 j51_4) (show 0 ≤ (y51_8_1) ∧ (y51_8_1) ≤ (m51_9) ∧ (m51_9) ≤ 65536 from j51_5) (show (m33_1) = 0 ∨ (m33_1) = 2048 from q_3090 j51_6) (show (m51_12) ≤ 16384 from q_3476 j51_7) (show (m51_13) = (m51_14) ∧ (m51_15) = (m51_14) ∧ (m51_14) ≤ 65536 ∧ ((m51_14) = 0 ∨ 64 ≤ (m51_14)) ∧ lgq ((m51_14)) = 0 from j51_11) (show PKS (((w10)) 0) (((w10)) 2) (((w10)) 6) (sc ((w4)) 0 ((u2_1))) ((u1_2)) ((w3)) ((u1_1)) ((y51_1_2)) ((w51_3)) ((y51_1_1)) by assumption))
    · refine Ew_of (pcₚ := 58) (fun _ => x_iload rfl l51_5) ?_
      refine Ew_of (pcₚ := 59) (fun _ => x_aload_n rfl l51_2) ?_
      refine v_g H (o := 2) (v := I (u2_1)) rfl rfl rfl rfl rfl (congrArg (fun z : Int => I z) (((mF_51 2 1 rfl).trans (eu2_1)) : F_51 2 1 = u2_1)) ?_
      refine w_icmpge (t := 224) rfl rfl (show inr (x51_5) from j51_0) (show inr (u2_1) from q_3477 h1 h5) (fun b53 => ?_) (fun b53 => ?_)
      · have : PKS (((w10)) 0) (((w10)) 2) (((w10)) 6) (sc ((w4)) 0 ((u2_1))) ((u1_2)) ((w3)) ((u1_1)) ((y51_1_2)) ((w51_3)) ((y51_1_1)) := ⟨Mx, (x51_5), hIT, by first | exact .inl (by omega) | exact .inr (by omega) | (exfalso; omega), hRA⟩
        exact w_ret rfl (k _ _ _ _ _ _ _ H O (cD_51) (cN_51) (cF_51) (cA_51) (pm51_3) (pm51_7) (pm51_9) (pf_51_5_7) (pm51_12) (pm51_13) (pm51_14) (pm51_15) (m51_3) (em51_3) (m51_7) (em51_7) (m51_9) (em51_9) (m33_1) ((congrArg (fun q : Nat => (q : Int)) (hN_51 11 rfl)).trans ((congrArg (fun q : Nat => (q : Int)) (eN33 11)).trans em33_1)) (m51_12) (em51_12) (m51_13) (em51_13) (m51_14) (em51_14) (m51_15) (em51_15) (y51_1_1) ((ey51_1_1)) (y51_1_2) ((ey51_1_2)) (y51_6_1) ((ey51_6_1)) (y51_8_1) ((ey51_8_1)) (w51_3) (ew51_3) (show 0 ≤ (y51_1_1) ∧ (y51_1_1) ≤ (m51_3) ∧ (m51_3) ≤ 65536 from j51_1) (show 0 ≤ (y51_6_1) ∧ (y51_6_1) ≤ (m51_7) ∧ (m51_7) ≤ 65536 from q_3076 j51_4) (show 0 ≤ (y51_8_1) ∧ (y51_8_1) ≤ (m51_9) ∧ (m51_9) ≤ 65536 from j51_5) (show (m33_1) = 0 ∨ (m33_1) = 2048 from q_3090 j51_6) (show (m51_12) ≤ 16384 from q_3476 j51_7) (show (m51_13) = (m51_14) ∧ (m51_15) = (m51_14) ∧ (m51_14) ≤ 65536 ∧ ((m51_14) = 0 ∨ 64 ≤ (m51_14)) ∧ lgq ((m51_14)) = 0 from j51_11) (show PKS (((w10)) 0) (((w10)) 2) (((w10)) 6) (sc ((w4)) 0 ((u2_1))) ((u1_2)) ((w3)) ((u1_1)) ((y51_1_2)) ((w51_3)) ((y51_1_1)) by assumption))
      · refine Ew_of (pcₚ := 66) (fun _ => x_aload_n rfl l51_1) ?_
        refine v_g H (o := 1) (v := I (y51_1_2)) rfl rfl rfl rfl rfl (congrArg (fun z : Int => I z) ((ey51_1_2) : F_51 1 2 = y51_1_2)) ?_
        refine w_ifne (t := 224) rfl rfl (show inr (y51_1_2) from q_1794 r48) (fun b54 => ?_) (fun b54 => ?_)
        · have : PKS (((w10)) 0) (((w10)) 2) (((w10)) 6) (sc ((w4)) 0 ((u2_1))) ((u1_2)) ((w3)) ((u1_1)) ((y51_1_2)) ((w51_3)) ((y51_1_1)) := ⟨Mx, (x51_5), hIT, by first | exact .inl (by omega) | exact .inr (by omega) | (exfalso; omega), hRA⟩
          exact w_ret rfl (k _ _ _ _ _ _ _ H O (cD_51) (cN_51) (cF_51) (cA_51) (pm51_3) (pm51_7) (pm51_9) (pf_51_5_7) (pm51_12) (pm51_13) (pm51_14) (pm51_15) (m51_3) (em51_3) (m51_7) (em51_7) (m51_9) (em51_9) (m33_1) ((congrArg (fun q : Nat => (q : Int)) (hN_51 11 rfl)).trans ((congrArg (fun q : Nat => (q : Int)) (eN33 11)).trans em33_1)) (m51_12) (em51_12) (m51_13) (em51_13) (m51_14) (em51_14) (m51_15) (em51_15) (y51_1_1) ((ey51_1_1)) (y51_1_2) ((ey51_1_2)) (y51_6_1) ((ey51_6_1)) (y51_8_1) ((ey51_8_1)) (w51_3) (ew51_3) (show 0 ≤ (y51_1_1) ∧ (y51_1_1) ≤ (m51_3) ∧ (m51_3) ≤ 65536 from j51_1) (show 0 ≤ (y51_6_1) ∧ (y51_6_1) ≤ (m51_7) ∧ (m51_7) ≤ 65536 from q_3076 j51_4) (show 0 ≤ (y51_8_1) ∧ (y51_8_1) ≤ (m51_9) ∧ (m51_9) ≤ 65536 from j51_5) (show (m33_1) = 0 ∨ (m33_1) = 2048 from q_3090 j51_6) (show (m51_12) ≤ 16384 from q_3476 j51_7) (show (m51_13) = (m51_14) ∧ (m51_15) = (m51_14) ∧ (m51_14) ≤ 65536 ∧ ((m51_14) = 0 ∨ 64 ≤ (m51_14)) ∧ lgq ((m51_14)) = 0 from j51_11) (show PKS (((w10)) 0) (((w10)) 2) (((w10)) 6) (sc ((w4)) 0 ((u2_1))) ((u1_2)) ((w3)) ((u1_1)) ((y51_1_2)) ((w51_3)) ((y51_1_1)) by assumption))
        · refine Ew_of (pcₚ := 74) (fun _ => x_iload rfl l51_4) ?_
          refine Ew_of (pcₚ := 75) (fun _ => x_aload_n rfl l51_2) ?_
          refine v_g H (o := 2) (v := I (u2_1)) rfl rfl rfl rfl rfl (congrArg (fun z : Int => I z) (((mF_51 2 1 rfl).trans (eu2_1)) : F_51 2 1 = u2_1)) ?_
          refine Ew_of (pcₚ := 80) (fun _ => x_iload rfl l51_5) ?_
          refine w_isub rfl ?_
          refine v_min rfl rfl (show inr (v39) from qv39) (show inr ((u2_1 - x51_5)) from q_3478 b53 h5 j51_2) (fun z55 gz55 => ?_)
          refine Ew_of (pcₚ := 86) (fun _ => x_istore rfl) ?_
          have hl6 : 0 ≤ (z55) ∧ (z55) ≤ 16384 ∧ (x51_5) + (z55) ≤ (u2_1) := by omega
          have hl6b : (x51_5) + (z55) = (x51_5) + (v39) ∨ (x51_5) + (z55) = (u2_1) ∧ (u2_1) < (x51_5) + (v39) := by omega
          obtain ⟨q6, hq6⟩ : ∃ q : Int, q = (z55) := ⟨_, rfl⟩
          refine Ew_of (pcₚ := 87) (fun _ => x_aload_n rfl (rk_o (l51_0) rfl rfl)) ?_
          refine v_g H (o := 0) (v := .ref (D_51 5)) rfl rfl rfl rfl rfl (vrf ((mF_51 0 1 rfl).trans ((pf5).trans (congrArg (fun q : Nat => (q : Int)) (mD_51 5 rfl).symm)))) ?_
          refine Ew_of (pcₚ := 91) (fun _ => x_iconst rfl) ?_
          refine v_inv H (o := 5) rfl rfl rfl rfl rfl rfl (by rfl) (C124 (D := puc 757526694917 D_51) (N := puc 757526694917 N_51) (HW_subc H oz_D8cls_48 oz_D8cls_65) ((mF_51 5 0 rfl).trans ((pf6).trans (congrArg (fun q : Nat => (q : Int)) (mD_51 6 rfl).symm))) (pm51_7) (pm51_12) (pf_51_5_7) (m51_7) (em51_7) (m51_12) (em51_12) (m33_1) ((congrArg (fun q : Nat => (q : Int)) (hN_51 11 rfl)).trans ((congrArg (fun q : Nat => (q : Int)) (eN33 11)).trans em33_1)) (y51_5_6) ((ey51_5_6)) (y33_0_10) (((hS_51 5 10 rfl).trans ((eF33 5 10).trans ey33_0_10))) (y51_6_1) ((ey51_6_1)) (w51_7) (ew51_7) (w51_12) (ew51_12) (w51_11) (ew51_11) (show inr (0) from q_2) (show 0 ≤ (y51_6_1) ∧ (y51_6_1) ≤ (m51_7) ∧ (m51_7) ≤ 65536 ∧ (y51_6_1) ≤ 16384 from j51_4) (show 1 ≤ (y33_0_10) ∧ (y33_0_10) ≤ 8 from q_3480 pz33_2) (show 0 ≤ (0) ∧ (0) ≤ (y51_5_6) from q_3479 j51_7) (show (y51_5_6) = 0 ∨ (y51_5_6) + (y33_0_10) ≤ (y51_6_1) + 1 by omega) (j51_9) (j51_10) (show (m33_1) = 2048 from j51_6) (show 0 ≤ (y51_5_6) ∧ (y51_5_6) ≤ (m51_12) ∧ (m51_12) ≤ 16384 from j51_7) (fun σ56 F56ₚ A56ₚ Hₚ Oₚ hS56 hA56 y56_0_6 ey56_0_6 w56_4 ew56_4 pz56_0 pz56_1 pz56_2 => ⟨rfl, ?_⟩))
          refine v_backc (c := c_51) (s := s_51) H oz_D8cls_48 oz_D8cls_65 Hₚ Oₚ (fun F56 A56 H Oₚ eF56 eA56 => ?_)
          have O := OUT_trans O Oₚ
          -- Finder.unlay
          have cF56 : SF oz_D8clsl_16 F F56 := SF_trans (cF_51) (SF_gluc (ι := oz_D8clsl_21) oz_D8cls_65 hS56 eF56 (by decide +kernel)) (any_sub (lₚ := [(5, 6)]) (by decide +kernel))
          have mF56 := SFm_of cF56 oz_D8cls_60
          have cA56 : SA oz_D8clsl_17 A A56 := SA_trans (cA_51) (SA_gluc (ι := oz_D8clsl_21) oz_D8cls_65 hA56 eA56 (by decide +kernel)) (any_subA (lₚ := [11]) (by decide +kernel))
          have mA56 := SAm_of cA56 oz_D8cls_61
          have r57 : (-2147483648 : Int) ≤ y56_0_6 ∧ y56_0_6 ≤ 2147483647 := rngE (show (-2147483648 : Int) ≤ F56 5 6 ∧ F56 5 6 ≤ 2147483647 from H.krg 5 6 (ltn len_V201_Row_Row_oz_D8cls rfl)) (show F56 5 6 = y56_0_6 from ((eF56 5 6).trans ey56_0_6))
          have hun0 := pz56_0
          have hun := pz56_2
          rw [hun0] at hun
          refine Ew_of (pcₚ := 95) (fun _ => x_aload_n rfl (rk_o (l51_3) rfl rfl)) ?_
          have r58 : (0 : Int) ≤ F_51 6 2 ∧ F_51 6 2 ≤ 1 := rngE (show (0 : Int) ≤ F56 6 2 ∧ F56 6 2 ≤ 1 from H.krg 6 2 (ltn len_V201_Row_Row_oz_D8cls rfl)) (show F56 6 2 = F_51 6 2 from ((show F56 6 2 = F_51 6 2 from (eF56 6 2).trans (hS56 1 2 rfl))))
          have r59 : (-2147483648 : Int) ≤ F_51 6 3 ∧ F_51 6 3 ≤ 2147483647 := rngE (show (-2147483648 : Int) ≤ F56 6 3 ∧ F56 6 3 ≤ 2147483647 from H.krg 6 3 (ltn len_V201_Row_Row_oz_D8cls rfl)) (show F56 6 3 = F_51 6 3 from ((show F56 6 3 = F_51 6 3 from (eF56 6 3).trans (hS56 1 3 rfl))))
          have r60 : (-2147483648 : Int) ≤ F_51 6 4 ∧ F_51 6 4 ≤ 2147483647 := rngE (show (-2147483648 : Int) ≤ F56 6 4 ∧ F56 6 4 ≤ 2147483647 from H.krg 6 4 (ltn len_V201_Row_Row_oz_D8cls rfl)) (show F56 6 4 = F_51 6 4 from ((show F56 6 4 = F_51 6 4 from (eF56 6 4).trans (hS56 1 4 rfl))))
          refine v_inv H (o := 6) rfl rfl rfl rfl rfl rfl (by rfl) (C156 (D := puc 6 D_51) (N := puc 6 N_51) (HW_subc H oz_D8cls_45 oz_D8cls_63) (y51_6_1) ((((show F56 6 1 = F_51 6 1 from (eF56 6 1).trans (hS56 1 1 rfl))).trans (ey51_6_1))) (F_51 6 2) (((show F56 6 2 = F_51 6 2 from (eF56 6 2).trans (hS56 1 2 rfl)))) (F_51 6 3) (((show F56 6 3 = F_51 6 3 from (eF56 6 3).trans (hS56 1 3 rfl)))) (F_51 6 4) (((show F56 6 4 = F_51 6 4 from (eF56 6 4).trans (hS56 1 4 rfl))))  (fun σ61 F61ₚ A61ₚ Hₚ Oₚ hS61 hA61 y61_0_1 ey61_0_1 y61_0_2 ey61_0_2 y61_0_3 ey61_0_3 y61_0_4 ey61_0_4 pz61_0 pz61_1 pz61_2 => ⟨rfl, ?_⟩))
          refine v_backc (c := c_51) (s := s_51) H oz_D8cls_45 oz_D8cls_63 Hₚ Oₚ (fun F61 A61 H Oₚ eF61 eA61 => ?_)
          have O := OUT_trans O Oₚ
          -- Row.clear
          have cF61 : SF oz_D8clsl_16 F F61 := SF_trans (cF56) (SF_gluc (ι := oz_D8clsl_19) oz_D8cls_63 hS61 eF61 (by decide +kernel)) (any_sub (lₚ := [(6, 1), (6, 2), (6, 3), (6, 4)]) (by decide +kernel))
          have mF61 := SFm_of cF61 oz_D8cls_60
          have cA61 : SA oz_D8clsl_17 A A61 := SA_trans (cA56) (SA_gluc (ι := oz_D8clsl_19) oz_D8cls_63 hA61 eA61 (by decide +kernel)) (any_subA (lₚ := []) (by decide +kernel))
          have mA61 := SAm_of cA61 oz_D8cls_61
          have r62 : (-2147483648 : Int) ≤ y61_0_1 ∧ y61_0_1 ≤ 2147483647 := rngE (show (-2147483648 : Int) ≤ F61 6 1 ∧ F61 6 1 ≤ 2147483647 from H.krg 6 1 (ltn len_V201_Row_Row_oz_D8cls rfl)) (show F61 6 1 = y61_0_1 from ((eF61 6 1).trans ey61_0_1))
          have r63 : (0 : Int) ≤ y61_0_2 ∧ y61_0_2 ≤ 1 := rngE (show (0 : Int) ≤ F61 6 2 ∧ F61 6 2 ≤ 1 from H.krg 6 2 (ltn len_V201_Row_Row_oz_D8cls rfl)) (show F61 6 2 = y61_0_2 from ((eF61 6 2).trans ey61_0_2))
          have r64 : (-2147483648 : Int) ≤ y61_0_3 ∧ y61_0_3 ≤ 2147483647 := rngE (show (-2147483648 : Int) ≤ F61 6 3 ∧ F61 6 3 ≤ 2147483647 from H.krg 6 3 (ltn len_V201_Row_Row_oz_D8cls rfl)) (show F61 6 3 = y61_0_3 from ((eF61 6 3).trans ey61_0_3))
          have r65 : (-2147483648 : Int) ≤ y61_0_4 ∧ y61_0_4 ≤ 2147483647 := rngE (show (-2147483648 : Int) ≤ F61 6 4 ∧ F61 6 4 ≤ 2147483647 from H.krg 6 4 (ltn len_V201_Row_Row_oz_D8cls rfl)) (show F61 6 4 = y61_0_4 from ((eF61 6 4).trans ey61_0_4))
          have hcl0 := pz61_0
          have hcl1 := pz61_1
          refine Ew_of (pcₚ := 99) (fun _ => x_aload_n rfl (rk_o (l51_3) rfl rfl)) ?_
          refine Ew_of (pcₚ := 100) (fun _ => x_aload_n rfl (rk_o (l51_2) rfl rfl)) ?_
          refine v_g H (o := 2) (v := .ref (D_51 4)) rfl rfl rfl rfl rfl (vrf ((mF61 2 0 rfl).trans ((pf4).trans (congrArg (fun q : Nat => (q : Int)) (mD_51 4 rfl).symm)))) ?_
          refine Ew_of (pcₚ := 105) (fun _ => x_iload rfl (rk_o (l51_5) rfl rfl)) ?_
          refine Ew_of (pcₚ := 107) (fun _ => x_iload rfl rk_s) ?_
          refine v_inv H (o := 6) rfl rfl rfl rfl rfl rfl (by rfl) (C161_Br (D := puc 1837062 D_51) (N := puc 1837062 N_51) (HW_subc H oz_D8cls_49 oz_D8cls_66) (((((show F61 6 0 = F56 6 0 from (eF61 6 0).trans (hS61 0 0 rfl))).trans ((show F56 6 0 = F_51 6 0 from (eF56 6 0).trans (hS56 1 0 rfl))))).trans (pm51_7)) (n4) ((congrArg (fun q : Nat => (q : Int)) (mN_51 4 rfl)).trans (en4)) (m51_7) (em51_7) (y61_0_1) (((eF61 6 1).trans ey61_0_1)) (y61_0_2) (((eF61 6 2).trans ey61_0_2)) (w4) ((funext (mA61 4 rfl)).trans (ew4)) (w51_7) (((show A61 7 = A56 7 from (eA61 7))).trans (((show A56 7 = A_51 7 from (eA56 7).trans (funext (hA56 2 rfl)))).trans (ew51_7))) (show inr (x51_5) from j51_0) (show inr (z55) from q_3483 hl6) (show 0 ≤ (y61_0_1) ∧ (y61_0_1) ≤ (m51_7) ∧ (m51_7) ≤ 65536 from q_3482 j51_4 pz61_0 r41) (show (z55) < 0 ∨ 0 ≤ (x51_5) ∧ (x51_5) + (z55) ≤ (n4) from q_3481 h1 hl6 j51_2) (fun σ66 D66ₚ N66ₚ F66ₚ A66ₚ c66 s66 Hₚ Oₚ hD66 hN66 hS66 hA66 pm66_2 m66_2 em66_2 y66_0_1 ey66_0_1 y66_0_2 ey66_0_2 w66_2 ew66_2 pz66_0 pz66_1 pz66_2 pz66_3 => ⟨rfl, ?_⟩))
          refine v_backMc (c := c_51) (s := s_51) H oz_D8cls_49 oz_D8cls_66 Hₚ Oₚ hD66 oz_D8cls_50 (fun D66 N66 F66 A66 H Oₚ eD66 eN66 eF66 eA66 => ?_)
          have O := OUT_trans O Oₚ
          -- Row.addPart
          have cF66 : SF oz_D8clsl_16 F F66 := SF_trans (cF61) (SF_gluc (ι := oz_D8clsl_22) oz_D8cls_66 hS66 eF66 (by decide +kernel)) (any_sub (lₚ := [(6, 0), (6, 1), (6, 2)]) (by decide +kernel))
          have mF66 := SFm_of cF66 oz_D8cls_60
          have cA66 : SA oz_D8clsl_17 A A66 := SA_trans (cA61) (SA_gluc (ι := oz_D8clsl_22) oz_D8cls_66 hA66 eA66 (by decide +kernel)) (any_subA (lₚ := [7]) (by decide +kernel))
          have mA66 := SAm_of cA66 oz_D8cls_61
          have cD66 : SD oz_D8clsl_17 D D66 := SD_trans (cD_51) (SD_gluc (ι := oz_D8clsl_22) oz_D8cls_66 hD66 eD66 (by decide +kernel)) (any_subA (lₚ := [7]) (by decide +kernel))
          have mD66 := SDm_of cD66 oz_D8cls_61
          have cN66 : SD oz_D8clsl_17 N N66 := SD_trans (cN_51) (SD_gluc (ι := oz_D8clsl_22) oz_D8cls_66 hN66 eN66 (by decide +kernel)) (any_subA (lₚ := [7]) (by decide +kernel))
          have mN66 := SDm_of cN66 oz_D8cls_61
          have pf66_1_0 : F66 1 0 = (D66 3 : Int) := ((show F66 1 0 = F61 1 0 from (eF66 1 0))).trans ((((((show F61 1 0 = F56 1 0 from (eF61 1 0))).trans ((show F56 1 0 = F_51 1 0 from (eF56 1 0))))).trans (pm51_3)).trans (congrArg (fun q : Nat => (q : Int)) ((show D66 3 = D_51 3 from (eD66 3))).symm))
          have pf66_5_1 : F66 5 1 = (D66 13 : Int) := ((show F66 5 1 = F61 5 1 from (eF66 5 1))).trans ((((((show F61 5 1 = F56 5 1 from (eF61 5 1))).trans ((show F56 5 1 = F_51 5 1 from (eF56 5 1).trans (hS56 0 1 rfl))))).trans (pm51_13)).trans (congrArg (fun q : Nat => (q : Int)) ((show D66 13 = D_51 13 from (eD66 13))).symm))
          have pf66_5_2 : F66 5 2 = (D66 14 : Int) := ((show F66 5 2 = F61 5 2 from (eF66 5 2))).trans ((((((show F61 5 2 = F56 5 2 from (eF61 5 2))).trans ((show F56 5 2 = F_51 5 2 from (eF56 5 2).trans (hS56 0 2 rfl))))).trans (pm51_14)).trans (congrArg (fun q : Nat => (q : Int)) ((show D66 14 = D_51 14 from (eD66 14))).symm))
          have pf66_5_3 : F66 5 3 = (D66 15 : Int) := ((show F66 5 3 = F61 5 3 from (eF66 5 3))).trans ((((((show F61 5 3 = F56 5 3 from (eF61 5 3))).trans ((show F56 5 3 = F_51 5 3 from (eF56 5 3).trans (hS56 0 3 rfl))))).trans (pm51_15)).trans (congrArg (fun q : Nat => (q : Int)) ((show D66 15 = D_51 15 from (eD66 15))).symm))
          have pf66_5_7 : F66 5 7 = (D66 11 : Int) := ((show F66 5 7 = F61 5 7 from (eF66 5 7))).trans ((((((show F61 5 7 = F56 5 7 from (eF61 5 7))).trans ((show F56 5 7 = F_51 5 7 from (eF56 5 7).trans (hS56 0 7 rfl))))).trans (pf_51_5_7)).trans (congrArg (fun q : Nat => (q : Int)) ((show D66 11 = D_51 11 from (eD66 11))).symm))
          have pf66_5_8 : F66 5 8 = (D66 12 : Int) := ((show F66 5 8 = F61 5 8 from (eF66 5 8))).trans ((((((show F61 5 8 = F56 5 8 from (eF61 5 8))).trans ((show F56 5 8 = F_51 5 8 from (eF56 5 8).trans (hS56 0 8 rfl))))).trans (pm51_12)).trans (congrArg (fun q : Nat => (q : Int)) ((show D66 12 = D_51 12 from (eD66 12))).symm))
          have pf66_6_0 : F66 6 0 = (D66 7 : Int) := (eF66 6 0).trans (pm66_2.trans (congrArg (fun q : Nat => (q : Int)) (eD66 7).symm))
          have pf66_8_0 : F66 8 0 = (D66 9 : Int) := ((show F66 8 0 = F61 8 0 from (eF66 8 0))).trans ((((((show F61 8 0 = F56 8 0 from (eF61 8 0))).trans ((show F56 8 0 = F_51 8 0 from (eF56 8 0))))).trans (pm51_9)).trans (congrArg (fun q : Nat => (q : Int)) ((show D66 9 = D_51 9 from (eD66 9))).symm))
          have r67 : (0 : Int) ≤ m66_2 ∧ m66_2 ≤ 1000000 := nleE (H.nle 7 (ltn len_V201_Row_Row_oz_D8cls rfl)) (show (N66 7 : Int) = m66_2 from (congrArg (fun q : Nat => (q : Int)) (eN66 7)).trans em66_2)
          have r68 : (-2147483648 : Int) ≤ y66_0_1 ∧ y66_0_1 ≤ 2147483647 := rngE (show (-2147483648 : Int) ≤ F66 6 1 ∧ F66 6 1 ≤ 2147483647 from H.krg 6 1 (ltn len_V201_Row_Row_oz_D8cls rfl)) (show F66 6 1 = y66_0_1 from ((eF66 6 1).trans ey66_0_1))
          have r69 : (0 : Int) ≤ y66_0_2 ∧ y66_0_2 ≤ 1 := rngE (show (0 : Int) ≤ F66 6 2 ∧ F66 6 2 ≤ 1 from H.krg 6 2 (ltn len_V201_Row_Row_oz_D8cls rfl)) (show F66 6 2 = y66_0_2 from ((eF66 6 2).trans ey66_0_2))
          have hdc : (y66_0_1) = (z55) := q_3484 hl6 pz61_0 pz66_0 pz66_1
          have hda := BEC (pz66_3 (by omega)) hcl1 hcl0 (by rw [sc_lenI (by omega)]; omega)
          have hdd : sc ((w66_2)) 0 ((y66_0_1)) = sl (sc ((w4)) 0 ((u2_1))) ((x51_5)) ((x51_5) + q6) := by rw [hda.2, sl_sc (by omega) (by omega) (by omega), hq6]
          try clear pz66_1
          refine Ew_of (pcₚ := 111) (fun _ => x_aload_n rfl (rk_o (l51_0) rfl rfl)) ?_
          refine Ew_stk (congrArg (fun qz : Nat => ([.ref qz] : List Value)) (show D66 0 = D_51 0 from ((show D66 0 = D_51 0 from (eD66 0)))).symm) ?_
          refine v_g H (o := 0) (v := .ref (D66 8)) rfl rfl rfl rfl rfl (vrf ((mF66 0 2 rfl).trans ((pf8).trans (congrArg (fun q : Nat => (q : Int)) (mD66 8 rfl).symm)))) ?_
          have r70 : (0 : Int) ≤ F_51 8 2 ∧ F_51 8 2 ≤ 1 := rngE (show (0 : Int) ≤ F66 8 2 ∧ F66 8 2 ≤ 1 from H.krg 8 2 (ltn len_V201_Row_Row_oz_D8cls rfl)) (show F66 8 2 = F_51 8 2 from ((((show F66 8 2 = F61 8 2 from (eF66 8 2))).trans ((show F61 8 2 = F56 8 2 from (eF61 8 2)))).trans ((show F56 8 2 = F_51 8 2 from (eF56 8 2)))))
          have r71 : (-2147483648 : Int) ≤ F_51 8 3 ∧ F_51 8 3 ≤ 2147483647 := rngE (show (-2147483648 : Int) ≤ F66 8 3 ∧ F66 8 3 ≤ 2147483647 from H.krg 8 3 (ltn len_V201_Row_Row_oz_D8cls rfl)) (show F66 8 3 = F_51 8 3 from ((((show F66 8 3 = F61 8 3 from (eF66 8 3))).trans ((show F61 8 3 = F56 8 3 from (eF61 8 3)))).trans ((show F56 8 3 = F_51 8 3 from (eF56 8 3)))))
          have r72 : (-2147483648 : Int) ≤ F_51 8 4 ∧ F_51 8 4 ≤ 2147483647 := rngE (show (-2147483648 : Int) ≤ F66 8 4 ∧ F66 8 4 ≤ 2147483647 from H.krg 8 4 (ltn len_V201_Row_Row_oz_D8cls rfl)) (show F66 8 4 = F_51 8 4 from ((((show F66 8 4 = F61 8 4 from (eF66 8 4))).trans ((show F61 8 4 = F56 8 4 from (eF61 8 4)))).trans ((show F56 8 4 = F_51 8 4 from (eF56 8 4)))))
          refine v_inv H (o := 8) rfl rfl rfl rfl rfl rfl (by rfl) (C156 (D := puc 8 D66) (N := puc 8 N66) (HW_subc H oz_D8cls_51 oz_D8cls_67) (y51_8_1) ((((((show F66 8 1 = F61 8 1 from (eF66 8 1))).trans ((show F61 8 1 = F56 8 1 from (eF61 8 1)))).trans ((show F56 8 1 = F_51 8 1 from (eF56 8 1)))).trans (ey51_8_1))) (F_51 8 2) (((((show F66 8 2 = F61 8 2 from (eF66 8 2))).trans ((show F61 8 2 = F56 8 2 from (eF61 8 2)))).trans ((show F56 8 2 = F_51 8 2 from (eF56 8 2))))) (F_51 8 3) (((((show F66 8 3 = F61 8 3 from (eF66 8 3))).trans ((show F61 8 3 = F56 8 3 from (eF61 8 3)))).trans ((show F56 8 3 = F_51 8 3 from (eF56 8 3))))) (F_51 8 4) (((((show F66 8 4 = F61 8 4 from (eF66 8 4))).trans ((show F61 8 4 = F56 8 4 from (eF61 8 4)))).trans ((show F56 8 4 = F_51 8 4 from (eF56 8 4)))))  (fun σ73 F73ₚ A73ₚ Hₚ Oₚ hS73 hA73 y73_0_1 ey73_0_1 y73_0_2 ey73_0_2 y73_0_3 ey73_0_3 y73_0_4 ey73_0_4 pz73_0 pz73_1 pz73_2 => ⟨rfl, ?_⟩))
          refine v_backc (c := (c_51 + c66)) (s := (s_51 + s66)) H oz_D8cls_51 oz_D8cls_67 Hₚ Oₚ (fun F73 A73 H Oₚ eF73 eA73 => ?_)
          have O := OUT_trans O Oₚ
          -- Row.clear
          have cF73 : SF oz_D8clsl_16 F F73 := SF_trans (cF66) (SF_gluc (ι := oz_D8clsl_23) oz_D8cls_67 hS73 eF73 (by decide +kernel)) (any_sub (lₚ := [(8, 1), (8, 2), (8, 3), (8, 4)]) (by decide +kernel))
          have mF73 := SFm_of cF73 oz_D8cls_60
          have cA73 : SA oz_D8clsl_17 A A73 := SA_trans (cA66) (SA_gluc (ι := oz_D8clsl_23) oz_D8cls_67 hA73 eA73 (by decide +kernel)) (any_subA (lₚ := []) (by decide +kernel))
          have mA73 := SAm_of cA73 oz_D8cls_61
          have r74 : (-2147483648 : Int) ≤ y73_0_1 ∧ y73_0_1 ≤ 2147483647 := rngE (show (-2147483648 : Int) ≤ F73 8 1 ∧ F73 8 1 ≤ 2147483647 from H.krg 8 1 (ltn len_V201_Row_Row_oz_D8cls rfl)) (show F73 8 1 = y73_0_1 from ((eF73 8 1).trans ey73_0_1))
          have r75 : (0 : Int) ≤ y73_0_2 ∧ y73_0_2 ≤ 1 := rngE (show (0 : Int) ≤ F73 8 2 ∧ F73 8 2 ≤ 1 from H.krg 8 2 (ltn len_V201_Row_Row_oz_D8cls rfl)) (show F73 8 2 = y73_0_2 from ((eF73 8 2).trans ey73_0_2))
          have r76 : (-2147483648 : Int) ≤ y73_0_3 ∧ y73_0_3 ≤ 2147483647 := rngE (show (-2147483648 : Int) ≤ F73 8 3 ∧ F73 8 3 ≤ 2147483647 from H.krg 8 3 (ltn len_V201_Row_Row_oz_D8cls rfl)) (show F73 8 3 = y73_0_3 from ((eF73 8 3).trans ey73_0_3))
          have r77 : (-2147483648 : Int) ≤ y73_0_4 ∧ y73_0_4 ≤ 2147483647 := rngE (show (-2147483648 : Int) ≤ F73 8 4 ∧ F73 8 4 ≤ 2147483647 from H.krg 8 4 (ltn len_V201_Row_Row_oz_D8cls rfl)) (show F73 8 4 = y73_0_4 from ((eF73 8 4).trans ey73_0_4))
          have hb1 : BKI ((w66_2)) ((w51_12)) ((y33_0_10)) ((y56_0_6)) := by rw [hun0]; exact BKI_0
          have hh1 : HDI ((w66_2)) ((w56_4)) ((y33_0_10)) ((y56_0_6)) := by rw [hun0]; exact HDI_any hun
          have hpc0 := pz73_0
          have hpc1 := pz73_1
          refine Ew_of (pcₚ := 118) (fun _ => x_aload_n rfl (rk_o (l51_0) rfl rfl)) ?_
          refine Ew_of (pcₚ := 119) (fun _ => x_aload_n rfl (rk_o (l51_0) rfl rfl)) ?_
          refine Ew_stk (show ([.ref (D_51 0), .ref (D_51 0)] : List Value) = [.ref (D66 0), .ref (D66 0)] by rw [show D66 0 = D_51 0 from ((show D66 0 = D_51 0 from (eD66 0)))]) ?_
          refine v_g H (o := 0) (v := .ref (D66 8)) rfl rfl rfl rfl rfl (vrf ((mF73 0 2 rfl).trans ((pf8).trans (congrArg (fun q : Nat => (q : Int)) (mD66 8 rfl).symm)))) ?_
          refine v_inv H (o := 0) rfl rfl rfl rfl rfl rfl (by rfl) (C194_thispackeda (D := puc 18603012004667702936877666304 D66) (N := puc 18603012004667702936877666304 N66) (HW_subc H oz_D8cls_52 oz_D8cls_68) ((mF73 0 2 rfl).trans ((pf8).trans (congrArg (fun q : Nat => (q : Int)) (mD66 8 rfl).symm))) ((((show F73 8 0 = F66 8 0 from (eF73 8 0).trans (hS73 0 0 rfl)))).trans (pf66_8_0)) ((mF73 0 1 rfl).trans ((pf5).trans (congrArg (fun q : Nat => (q : Int)) (mD66 5 rfl).symm))) ((mF73 5 0 rfl).trans ((pf6).trans (congrArg (fun q : Nat => (q : Int)) (mD66 6 rfl).symm))) ((((show F73 6 0 = F66 6 0 from (eF73 6 0)))).trans (pf66_6_0)) ((((show F73 5 8 = F66 5 8 from (eF73 5 8)))).trans (pf66_5_8)) ((((show F73 5 7 = F66 5 7 from (eF73 5 7)))).trans (pf66_5_7)) ((((show F73 5 1 = F66 5 1 from (eF73 5 1)))).trans (pf66_5_1)) ((((show F73 5 2 = F66 5 2 from (eF73 5 2)))).trans (pf66_5_2)) ((((show F73 5 3 = F66 5 3 from (eF73 5 3)))).trans (pf66_5_3)) (m51_9) ((congrArg (fun q : Nat => (q : Int)) (show N66 9 = N_51 9 from (eN66 9))).trans (em51_9)) (m66_2) ((congrArg (fun q : Nat => (q : Int)) (eN66 7)).trans em66_2) (m51_12) ((congrArg (fun q : Nat => (q : Int)) (show N66 12 = N_51 12 from (eN66 12))).trans (em51_12)) (m33_1) ((congrArg (fun q : Nat => (q : Int)) (show N66 11 = N_51 11 from (eN66 11))).trans ((congrArg (fun q : Nat => (q : Int)) (hN_51 11 rfl)).trans ((congrArg (fun q : Nat => (q : Int)) (eN33 11)).trans em33_1))) (m51_13) ((congrArg (fun q : Nat => (q : Int)) (show N66 13 = N_51 13 from (eN66 13))).trans (em51_13)) (m51_14) ((congrArg (fun q : Nat => (q : Int)) (show N66 14 = N_51 14 from (eN66 14))).trans (em51_14)) (m51_15) ((congrArg (fun q : Nat => (q : Int)) (show N66 15 = N_51 15 from (eN66 15))).trans (em51_15)) (y73_0_1) (((eF73 8 1).trans ey73_0_1)) (y73_0_2) (((eF73 8 2).trans ey73_0_2)) (y56_0_6) ((((((show F73 5 6 = F66 5 6 from (eF73 5 6))).trans ((show F66 5 6 = F61 5 6 from (eF66 5 6)))).trans ((show F61 5 6 = F56 5 6 from (eF61 5 6)))).trans ((eF56 5 6).trans ey56_0_6))) (y33_0_9) ((((((((show F73 5 9 = F66 5 9 from (eF73 5 9))).trans ((show F66 5 9 = F61 5 9 from (eF66 5 9)))).trans ((show F61 5 9 = F56 5 9 from (eF61 5 9)))).trans ((show F56 5 9 = F_51 5 9 from (eF56 5 9).trans (hS56 0 9 rfl)))).trans (hS_51 5 9 rfl)).trans ((eF33 5 9).trans ey33_0_9))) (y33_0_10) ((((((((show F73 5 10 = F66 5 10 from (eF73 5 10))).trans ((show F66 5 10 = F61 5 10 from (eF66 5 10)))).trans ((show F61 5 10 = F56 5 10 from (eF61 5 10)))).trans ((show F56 5 10 = F_51 5 10 from (eF56 5 10).trans (hS56 0 10 rfl)))).trans (hS_51 5 10 rfl)).trans ((eF33 5 10).trans ey33_0_10))) (y33_0_11) ((((((((show F73 5 11 = F66 5 11 from (eF73 5 11))).trans ((show F66 5 11 = F61 5 11 from (eF66 5 11)))).trans ((show F61 5 11 = F56 5 11 from (eF61 5 11)))).trans ((show F56 5 11 = F_51 5 11 from (eF56 5 11).trans (hS56 0 11 rfl)))).trans (hS_51 5 11 rfl)).trans ((eF33 5 11).trans ey33_0_11))) (y66_0_1) ((((show F73 6 1 = F66 6 1 from (eF73 6 1))).trans ((eF66 6 1).trans ey66_0_1))) (A_51 9) (((show A73 9 = A66 9 from (eA73 9))).trans (((show A66 9 = A61 9 from (eA66 9))).trans (((show A61 9 = A56 9 from (eA61 9))).trans ((show A56 9 = A_51 9 from (eA56 9)))))) (w66_2) (((show A73 7 = A66 7 from (eA73 7))).trans ((eA66 7).trans ew66_2)) (w51_12) (((show A73 12 = A66 12 from (eA73 12))).trans (((show A66 12 = A61 12 from (eA66 12))).trans (((show A61 12 = A56 12 from (eA61 12))).trans (((show A56 12 = A_51 12 from (eA56 12).trans (funext (hA56 3 rfl)))).trans (ew51_12))))) (w56_4) (((show A73 11 = A66 11 from (eA73 11))).trans (((show A66 11 = A61 11 from (eA66 11))).trans (((show A61 11 = A56 11 from (eA61 11))).trans ((eA56 11).trans ew56_4)))) (show 0 ≤ (y73_0_1) ∧ (y73_0_1) ≤ (m51_9) ∧ (m51_9) ≤ 65536 from q_2945 j51_5 pz73_0 r42) (show 0 ≤ (y66_0_1) ∧ (y66_0_1) ≤ (m66_2) ∧ (m66_2) ≤ 65536 ∧ (y66_0_1) ≤ 16384 from q_3487 hdc hl6 pz66_0) (show (y33_0_10) = 4 from q_3087 pz33_2) (hb1) (hh1) (show (m51_13) = (m51_14) ∧ (m51_15) = (m51_14) ∧ (m51_14) ≤ 65536 ∧ ((m51_14) = 0 ∨ 64 ≤ (m51_14)) ∧ lgq ((m51_14)) = 0 from j51_11) (show (m33_1) = 2048 from j51_6) (show 0 ≤ (y56_0_6) ∧ (y56_0_6) ≤ (m51_12) ∧ (m51_12) ≤ 16384 from q_3486 j51_7 pz56_0 r43) (show (y33_0_11) = 65535 from q_3485 j51_12) (fun σ78 D78ₚ N78ₚ F78ₚ A78ₚ c78 s78 Hₚ Oₚ hD78 hN78 hS78 hA78 pm78_2 pm78_6 pm78_8 pm78_9 pm78_10 m78_2 em78_2 m78_6 em78_6 m78_8 em78_8 m78_9 em78_9 m78_10 em78_10 y78_1_1 ey78_1_1 y78_1_2 ey78_1_2 y78_3_6 ey78_3_6 w78_2 ew78_2 w78_6 ew78_6 w78_7 ew78_7 pz78_0 pz78_1 pz78_2 pz78_3 pz78_4 pz78_5 pz78_6 => ⟨rfl, ?_⟩))
          refine v_backMc (c := (c_51 + c66)) (s := (s_51 + s66)) H oz_D8cls_52 oz_D8cls_68 Hₚ Oₚ hD78 oz_D8cls_53 (fun D78 N78 F78 A78 H Oₚ eD78 eN78 eF78 eA78 => ?_)
          have O := OUT_trans O Oₚ
          -- Tags.packBlock
          have cF78 : SF oz_D8clsl_16 F F78 := SF_trans (cF73) (SF_gluc (ι := oz_D8clsl_24) oz_D8cls_68 hS78 eF78 (by decide +kernel)) (any_sub (lₚ := [(5, 1), (5, 2), (5, 3), (5, 4), (5, 5), (5, 6), (5, 8), (5, 12), (5, 13), (5, 14), (5, 15), (5, 16), (5, 17), (5, 18), (8, 0), (8, 1), (8, 2)]) (by decide +kernel))
          have mF78 := SFm_of cF78 oz_D8cls_60
          have cA78 : SA oz_D8clsl_17 A A78 := SA_trans (cA73) (SA_gluc (ι := oz_D8clsl_24) oz_D8cls_68 hA78 eA78 (by decide +kernel)) (any_subA (lₚ := [9, 11, 12, 13, 14, 15]) (by decide +kernel))
          have mA78 := SAm_of cA78 oz_D8cls_61
          have cD78 : SD oz_D8clsl_17 D D78 := SD_trans (cD66) (SD_gluc (ι := oz_D8clsl_24) oz_D8cls_68 hD78 eD78 (by decide +kernel)) (any_subA (lₚ := [9, 12, 13, 14, 15]) (by decide +kernel))
          have mD78 := SDm_of cD78 oz_D8cls_61
          have cN78 : SD oz_D8clsl_17 N N78 := SD_trans (cN66) (SD_gluc (ι := oz_D8clsl_24) oz_D8cls_68 hN78 eN78 (by decide +kernel)) (any_subA (lₚ := [9, 12, 13, 14, 15]) (by decide +kernel))
          have mN78 := SDm_of cN78 oz_D8cls_61
          have pf78_1_0 : F78 1 0 = (D78 3 : Int) := ((show F78 1 0 = F73 1 0 from (eF78 1 0))).trans (((((show F73 1 0 = F66 1 0 from (eF73 1 0)))).trans (pf66_1_0)).trans (congrArg (fun q : Nat => (q : Int)) ((show D78 3 = D66 3 from (eD78 3))).symm))
          have pf78_5_1 : F78 5 1 = (D78 13 : Int) := (eF78 5 1).trans (pm78_8.trans (congrArg (fun q : Nat => (q : Int)) (eD78 13).symm))
          have pf78_5_2 : F78 5 2 = (D78 14 : Int) := (eF78 5 2).trans (pm78_9.trans (congrArg (fun q : Nat => (q : Int)) (eD78 14).symm))
          have pf78_5_3 : F78 5 3 = (D78 15 : Int) := (eF78 5 3).trans (pm78_10.trans (congrArg (fun q : Nat => (q : Int)) (eD78 15).symm))
          have pf78_5_7 : F78 5 7 = (D78 11 : Int) := ((show F78 5 7 = F73 5 7 from (eF78 5 7).trans (hS78 3 7 rfl))).trans (((((show F73 5 7 = F66 5 7 from (eF73 5 7)))).trans (pf66_5_7)).trans (congrArg (fun q : Nat => (q : Int)) ((show D78 11 = D66 11 from (eD78 11).trans (hD78 7 rfl))).symm))
          have pf78_5_8 : F78 5 8 = (D78 12 : Int) := (eF78 5 8).trans (pm78_6.trans (congrArg (fun q : Nat => (q : Int)) (eD78 12).symm))
          have pf78_6_0 : F78 6 0 = (D78 7 : Int) := ((show F78 6 0 = F73 6 0 from (eF78 6 0).trans (hS78 4 0 rfl))).trans (((((show F73 6 0 = F66 6 0 from (eF73 6 0)))).trans (pf66_6_0)).trans (congrArg (fun q : Nat => (q : Int)) ((show D78 7 = D66 7 from (eD78 7).trans (hD78 5 rfl))).symm))
          have pf78_8_0 : F78 8 0 = (D78 9 : Int) := (eF78 8 0).trans (pm78_2.trans (congrArg (fun q : Nat => (q : Int)) (eD78 9).symm))
          have r79 : (0 : Int) ≤ m78_2 ∧ m78_2 ≤ 1000000 := nleE (H.nle 9 (ltn len_V201_Row_Row_oz_D8cls rfl)) (show (N78 9 : Int) = m78_2 from (congrArg (fun q : Nat => (q : Int)) (eN78 9)).trans em78_2)
          have r80 : (0 : Int) ≤ m78_6 ∧ m78_6 ≤ 1000000 := nleE (H.nle 12 (ltn len_V201_Row_Row_oz_D8cls rfl)) (show (N78 12 : Int) = m78_6 from (congrArg (fun q : Nat => (q : Int)) (eN78 12)).trans em78_6)
          have r81 : (0 : Int) ≤ m78_8 ∧ m78_8 ≤ 1000000 := nleE (H.nle 13 (ltn len_V201_Row_Row_oz_D8cls rfl)) (show (N78 13 : Int) = m78_8 from (congrArg (fun q : Nat => (q : Int)) (eN78 13)).trans em78_8)
          have r82 : (0 : Int) ≤ m78_9 ∧ m78_9 ≤ 1000000 := nleE (H.nle 14 (ltn len_V201_Row_Row_oz_D8cls rfl)) (show (N78 14 : Int) = m78_9 from (congrArg (fun q : Nat => (q : Int)) (eN78 14)).trans em78_9)
          have r83 : (0 : Int) ≤ m78_10 ∧ m78_10 ≤ 1000000 := nleE (H.nle 15 (ltn len_V201_Row_Row_oz_D8cls rfl)) (show (N78 15 : Int) = m78_10 from (congrArg (fun q : Nat => (q : Int)) (eN78 15)).trans em78_10)
          have r84 : (-2147483648 : Int) ≤ y78_1_1 ∧ y78_1_1 ≤ 2147483647 := rngE (show (-2147483648 : Int) ≤ F78 8 1 ∧ F78 8 1 ≤ 2147483647 from H.krg 8 1 (ltn len_V201_Row_Row_oz_D8cls rfl)) (show F78 8 1 = y78_1_1 from ((eF78 8 1).trans ey78_1_1))
          have r85 : (0 : Int) ≤ y78_1_2 ∧ y78_1_2 ≤ 1 := rngE (show (0 : Int) ≤ F78 8 2 ∧ F78 8 2 ≤ 1 from H.krg 8 2 (ltn len_V201_Row_Row_oz_D8cls rfl)) (show F78 8 2 = y78_1_2 from ((eF78 8 2).trans ey78_1_2))
          have r86 : (-2147483648 : Int) ≤ y78_3_6 ∧ y78_3_6 ≤ 2147483647 := rngE (show (-2147483648 : Int) ≤ F78 5 6 ∧ F78 5 6 ≤ 2147483647 from H.krg 5 6 (ltn len_V201_Row_Row_oz_D8cls rfl)) (show F78 5 6 = y78_3_6 from ((eF78 5 6).trans ey78_3_6))
          have hlq : (y78_3_6) = 0 ∨ (y78_3_6) + 4 ≤ (y66_0_1) + 1 := by omega
          have hln : (m78_8) = (m78_9) ∧ (m78_10) = (m78_9) ∧ (m78_9) ≤ 65536 ∧ ((m78_9) = 0 ∨ 64 ≤ (m78_9)) ∧ lgq ((m78_9)) = 0 := pz78_2
          obtain ⟨Bk, hBk, hRk⟩ := pz78_6
          rw [hdd] at hBk
          have hBl := TGB_len hBk
          have hsll : ((sl (sc ((w4)) 0 ((u2_1))) ((x51_5)) ((x51_5) + q6)).length : Int) = q6 := by rw [sl_sc (by omega) (by omega) (by omega), sc_lenI (by omega)]; omega
          have hpk := BEC hRk hpc1 hpc0 (by omega)
          have hpl : (Bk.length : Int) = (y78_1_1) := by rw [← hpk.2, sc_lenI (by omega)]; omega
          have hway : (y33_0_9) = ((w10)) 0 := q_3488 j51_12
          rw [hway] at hBk
          have hlqH : HID ((y78_3_6) = 0 ∨ (y78_3_6) + 4 ≤ (y66_0_1) + 1) := hlq
          (try clear hlq)
          have hlnH : HID ((m78_8) = (m78_9) ∧ (m78_10) = (m78_9) ∧ (m78_9) ≤ 65536 ∧ ((m78_9) = 0 ∨ 64 ≤ (m78_9)) ∧ lgq ((m78_9)) = 0) := hln
          (try clear hln)
          have hl6H : HID ((x51_5) + q6 = (x51_5) + (v39) ∨ (x51_5) + q6 = (u2_1) ∧ (u2_1) < (x51_5) + (v39)) := by rw [hq6]; exact hl6b
          (try clear hl6b)
          try clear pz78_2
          try clear pz78_5
          refine Ew_of (pcₚ := 126) (fun _ => x_aload_n rfl (rk_o (l51_0) rfl rfl)) ?_
          refine Ew_stk (congrArg (fun qz : Nat => ([.ref qz] : List Value)) (show D78 0 = D_51 0 from (((show D78 0 = D66 0 from (eD78 0).trans (hD78 0 rfl))).trans ((show D66 0 = D_51 0 from (eD66 0))))).symm) ?_
          refine v_g H (o := 0) (v := .ref (D78 8)) rfl rfl rfl rfl rfl (vrf ((mF78 0 2 rfl).trans ((pf8).trans (congrArg (fun q : Nat => (q : Int)) (mD78 8 rfl).symm)))) ?_
          refine v_g H (o := 8) (v := I (y78_1_1)) rfl rfl rfl rfl rfl (congrArg (fun z : Int => I z) (((eF78 8 1).trans ey78_1_1) : F78 8 1 = y78_1_1)) ?_
          refine Ew_of (pcₚ := 134) (fun _ => x_iload rfl rk_s) ?_
          refine w_icmplt (t := 141) rfl rfl (show inr (y78_1_1) from q_38 pz78_0) (show inr (z55) from q_3483 hl6) (fun b87 => ?_) (fun b87 => ?_)
          · refine Ew_of (pcₚ := 142) (fun _ => x_iconst rfl) ?_
            refine Ew_of (pcₚ := 144) (fun _ => x_istore rfl) ?_
            refine Ew_of (pcₚ := 145) (fun _ => x_aload_n rfl (rk_o (rk_o (l51_0) rfl rfl) rfl rfl)) ?_
            refine Ew_of (pcₚ := 146) (fun _ => x_aload_n rfl (rk_o (rk_o (l51_1) rfl rfl) rfl rfl)) ?_
            refine Ew_of (pcₚ := 148) (fun _ => x_iload rfl rk_s) ?_
            refine w_ifeq (t := 155) rfl rfl (show inr (0) from q_2) (fun b88 => ?_) (fun b88 => ?_)
            · refine Ew_of (pcₚ := 156) (fun _ => x_aload_n rfl (rk_o (rk_o (l51_0) rfl rfl) rfl rfl)) ?_
              refine Ew_stk (show ([.ref (D_51 0), .ref (D_51 1), .ref (D_51 0)] : List Value) = [.ref (D78 0), .ref (D78 1), .ref (D78 0)] by rw [show D78 0 = D_51 0 from (((show D78 0 = D66 0 from (eD78 0).trans (hD78 0 rfl))).trans ((show D66 0 = D_51 0 from (eD66 0)))), show D78 1 = D_51 1 from (((show D78 1 = D66 1 from (eD78 1))).trans ((show D66 1 = D_51 1 from (eD66 1))))]) ?_
              refine v_g H (o := 0) (v := .ref (D78 8)) rfl rfl rfl rfl rfl (vrf ((mF78 0 2 rfl).trans ((pf8).trans (congrArg (fun q : Nat => (q : Int)) (mD78 8 rfl).symm)))) ?_
              refine Ew_of (pcₚ := 161) (fun _ => x_iload rfl rk_s) ?_
              refine w_ifeq (t := 168) rfl rfl (show inr (0) from q_2) (fun b89 => ?_) (fun b89 => ?_)
              · refine Ew_of (pcₚ := 169) (fun _ => x_iconst rfl) ?_
                refine v_inv H (o := 0) rfl rfl rfl rfl rfl rfl (by rfl) (C202_Row_thispackeda (D := puc 64671867190450586112 D78) (N := puc 64671867190450586112 N78) (HW_subc H oz_D8cls_54 oz_D8cls_69) (STC_out HT HE O) (pf78_1_0) ((mF78 0 2 rfl).trans ((pf8).trans (congrArg (fun q : Nat => (q : Int)) (mD78 8 rfl).symm))) (pf78_8_0) ((mF78 0 1 rfl).trans ((pf5).trans (congrArg (fun q : Nat => (q : Int)) (mD78 5 rfl).symm))) ((mF78 5 0 rfl).trans ((pf6).trans (congrArg (fun q : Nat => (q : Int)) (mD78 6 rfl).symm))) (pf78_6_0) (m51_3) ((congrArg (fun q : Nat => (q : Int)) (show N78 3 = N66 3 from (eN78 3))).trans ((congrArg (fun q : Nat => (q : Int)) (show N66 3 = N_51 3 from (eN66 3))).trans (em51_3))) (m78_2) ((congrArg (fun q : Nat => (q : Int)) (eN78 9)).trans em78_2) (m66_2) ((congrArg (fun q : Nat => (q : Int)) (show N78 7 = N66 7 from (eN78 7).trans (hN78 5 rfl))).trans ((congrArg (fun q : Nat => (q : Int)) (eN66 7)).trans em66_2)) (y51_1_1) ((((((((show F78 1 1 = F73 1 1 from (eF78 1 1))).trans ((show F73 1 1 = F66 1 1 from (eF73 1 1)))).trans ((show F66 1 1 = F61 1 1 from (eF66 1 1)))).trans ((show F61 1 1 = F56 1 1 from (eF61 1 1)))).trans ((show F56 1 1 = F_51 1 1 from (eF56 1 1)))).trans (ey51_1_1))) (y51_1_2) ((((((((show F78 1 2 = F73 1 2 from (eF78 1 2))).trans ((show F73 1 2 = F66 1 2 from (eF73 1 2)))).trans ((show F66 1 2 = F61 1 2 from (eF66 1 2)))).trans ((show F61 1 2 = F56 1 2 from (eF61 1 2)))).trans ((show F56 1 2 = F_51 1 2 from (eF56 1 2)))).trans (ey51_1_2))) (y78_1_1) (((eF78 8 1).trans ey78_1_1)) (y66_0_1) (((((show F78 6 1 = F73 6 1 from (eF78 6 1).trans (hS78 4 1 rfl))).trans ((show F73 6 1 = F66 6 1 from (eF73 6 1)))).trans ((eF66 6 1).trans ey66_0_1))) (w51_3) (((show A78 3 = A73 3 from (eA78 3))).trans (((show A73 3 = A66 3 from (eA73 3))).trans (((show A66 3 = A61 3 from (eA66 3))).trans (((show A61 3 = A56 3 from (eA61 3))).trans (((show A56 3 = A_51 3 from (eA56 3))).trans (ew51_3)))))) (w78_2) ((eA78 9).trans ew78_2) (w66_2) (((show A78 7 = A73 7 from (eA78 7).trans (funext (hA78 5 rfl)))).trans (((show A73 7 = A66 7 from (eA73 7))).trans ((eA66 7).trans ew66_2))) (show inr (0) from q_2) (show 0 ≤ (y51_1_1) ∧ (y51_1_1) ≤ (m51_3) ∧ (m51_3) ≤ 65536 from j51_1) (show 0 ≤ (y78_1_1) ∧ (y78_1_1) ≤ (m78_2) ∧ (m78_2) ≤ 65536 from pz78_0) (show 0 ≤ (y66_0_1) ∧ (y66_0_1) ≤ (m66_2) ∧ (m66_2) ≤ 65536 from pz66_0) (show 0 ≤ (0) ∧ (0) ≤ 1 from q_32) (fun σ90 D90ₚ N90ₚ F90ₚ A90ₚ c90 s90 Hₚ Oₚ hD90 hN90 hS90 hA90 pm90_2 m90_2 em90_2 y90_1_1 ey90_1_1 y90_1_2 ey90_1_2 w90_2 ew90_2 pz90_0 pz90_1 => ⟨rfl, ?_⟩))
                refine v_backMc (c := ((c_51 + c66) + c78)) (s := ((s_51 + s66) + s78)) H oz_D8cls_54 oz_D8cls_69 Hₚ Oₚ hD90 oz_D8cls_55 (fun D90 N90 F90 A90 H Oₚ eD90 eN90 eF90 eA90 => ?_)
                have O := OUT_trans O Oₚ
                -- Tags.addChunk
                have cF90 : SF oz_D8clsl_16 F F90 := SF_trans (cF78) (SF_gluc (ι := oz_D8clsl_25) oz_D8cls_69 hS90 eF90 (by decide +kernel)) (any_sub (lₚ := [(1, 0), (1, 1), (1, 2)]) (by decide +kernel))
                have mF90 := SFm_of cF90 oz_D8cls_60
                have cA90 : SA oz_D8clsl_17 A A90 := SA_trans (cA78) (SA_gluc (ι := oz_D8clsl_25) oz_D8cls_69 hA90 eA90 (by decide +kernel)) (any_subA (lₚ := [3]) (by decide +kernel))
                have mA90 := SAm_of cA90 oz_D8cls_61
                have cD90 : SD oz_D8clsl_17 D D90 := SD_trans (cD78) (SD_gluc (ι := oz_D8clsl_25) oz_D8cls_69 hD90 eD90 (by decide +kernel)) (any_subA (lₚ := [3]) (by decide +kernel))
                have mD90 := SDm_of cD90 oz_D8cls_61
                have cN90 : SD oz_D8clsl_17 N N90 := SD_trans (cN78) (SD_gluc (ι := oz_D8clsl_25) oz_D8cls_69 hN90 eN90 (by decide +kernel)) (any_subA (lₚ := [3]) (by decide +kernel))
                have mN90 := SDm_of cN90 oz_D8cls_61
                have pf90_1_0 : F90 1 0 = (D90 3 : Int) := (eF90 1 0).trans (pm90_2.trans (congrArg (fun q : Nat => (q : Int)) (eD90 3).symm))
                have pf90_5_1 : F90 5 1 = (D90 13 : Int) := ((show F90 5 1 = F78 5 1 from (eF90 5 1).trans (hS90 5 1 rfl))).trans ((pf78_5_1).trans (congrArg (fun q : Nat => (q : Int)) ((show D90 13 = D78 13 from (eD90 13))).symm))
                have pf90_5_2 : F90 5 2 = (D90 14 : Int) := ((show F90 5 2 = F78 5 2 from (eF90 5 2).trans (hS90 5 2 rfl))).trans ((pf78_5_2).trans (congrArg (fun q : Nat => (q : Int)) ((show D90 14 = D78 14 from (eD90 14))).symm))
                have pf90_5_3 : F90 5 3 = (D90 15 : Int) := ((show F90 5 3 = F78 5 3 from (eF90 5 3).trans (hS90 5 3 rfl))).trans ((pf78_5_3).trans (congrArg (fun q : Nat => (q : Int)) ((show D90 15 = D78 15 from (eD90 15))).symm))
                have pf90_5_7 : F90 5 7 = (D90 11 : Int) := ((show F90 5 7 = F78 5 7 from (eF90 5 7).trans (hS90 5 7 rfl))).trans ((pf78_5_7).trans (congrArg (fun q : Nat => (q : Int)) ((show D90 11 = D78 11 from (eD90 11))).symm))
                have pf90_5_8 : F90 5 8 = (D90 12 : Int) := ((show F90 5 8 = F78 5 8 from (eF90 5 8).trans (hS90 5 8 rfl))).trans ((pf78_5_8).trans (congrArg (fun q : Nat => (q : Int)) ((show D90 12 = D78 12 from (eD90 12))).symm))
                have pf90_6_0 : F90 6 0 = (D90 7 : Int) := ((show F90 6 0 = F78 6 0 from (eF90 6 0).trans (hS90 6 0 rfl))).trans ((pf78_6_0).trans (congrArg (fun q : Nat => (q : Int)) ((show D90 7 = D78 7 from (eD90 7).trans (hD90 7 rfl))).symm))
                have pf90_8_0 : F90 8 0 = (D90 9 : Int) := ((show F90 8 0 = F78 8 0 from (eF90 8 0).trans (hS90 3 0 rfl))).trans ((pf78_8_0).trans (congrArg (fun q : Nat => (q : Int)) ((show D90 9 = D78 9 from (eD90 9).trans (hD90 4 rfl))).symm))
                have r91 : (0 : Int) ≤ m90_2 ∧ m90_2 ≤ 1000000 := nleE (H.nle 3 (ltn len_V201_Row_Row_oz_D8cls rfl)) (show (N90 3 : Int) = m90_2 from (congrArg (fun q : Nat => (q : Int)) (eN90 3)).trans em90_2)
                have r92 : (-2147483648 : Int) ≤ y90_1_1 ∧ y90_1_1 ≤ 2147483647 := rngE (show (-2147483648 : Int) ≤ F90 1 1 ∧ F90 1 1 ≤ 2147483647 from H.krg 1 1 (ltn len_V201_Row_Row_oz_D8cls rfl)) (show F90 1 1 = y90_1_1 from ((eF90 1 1).trans ey90_1_1))
                have r93 : (0 : Int) ≤ y90_1_2 ∧ y90_1_2 ≤ 1 := rngE (show (0 : Int) ≤ F90 1 2 ∧ F90 1 2 ≤ 1 from H.krg 1 2 (ltn len_V201_Row_Row_oz_D8cls rfl)) (show F90 1 2 = y90_1_2 from ((eF90 1 2).trans ey90_1_2))
                have hab := pz90_1
                rw [hdd] at hab
                obtain ⟨RX, hRX, hR1⟩ : ∃ R : List Int, (((sl (sc ((w4)) 0 ((u2_1))) ((x51_5)) ((x51_5) + q6)).length : Int) ≤ (Bk.length : Int) ∧ R = TGk 1 (sl (sc ((w4)) 0 ((u2_1))) ((x51_5)) ((x51_5) + q6)) (sl (sc ((w4)) 0 ((u2_1))) ((x51_5)) ((x51_5) + q6)) ∨ (Bk.length : Int) < ((sl (sc ((w4)) 0 ((u2_1))) ((x51_5)) ((x51_5) + q6)).length : Int) ∧ R = TGk 0 Bk (sl (sc ((w4)) 0 ((u2_1))) ((x51_5)) ((x51_5) + q6))) ∧ RAP ((u1_2)) ((w3)) ((u1_1)) ((y90_1_2)) ((w90_2)) ((y90_1_1)) ((TGm ++ Mx) ++ R) := by first | (have zc : (y78_1_1) < (z55) := (by assumption); have zd : (Bk.length : Int) < q6 := (by rw [hpl, hq6]; exact zc); have hab2 := hab; rw [hpk.2] at hab2; exact ⟨_, .inr ⟨by rw [hsll]; exact zd, rfl⟩, RAP_trans hRA hab2⟩) | exact ⟨_, .inl ⟨by rw [hsll, hpl, hq6]; omega, rfl⟩, RAP_trans hRA hab⟩
                have hbu0 : (y90_1_2) = 0 ∨ (y90_1_2) = 1 := by omega
                refine Ew_of (pcₚ := 173) (fun _ => x_aload_n rfl (rk_o (rk_o (l51_0) rfl rfl) rfl rfl)) ?_
                refine Ew_stk (congrArg (fun qz : Nat => ([.ref qz] : List Value)) (show D90 0 = D_51 0 from ((((show D90 0 = D78 0 from (eD90 0).trans (hD90 0 rfl))).trans ((show D78 0 = D66 0 from (eD78 0).trans (hD78 0 rfl)))).trans ((show D66 0 = D_51 0 from (eD66 0))))).symm) ?_
                refine v_g H (o := 0) (v := .ref (D90 10)) rfl rfl rfl rfl rfl (vrf ((mF90 0 0 rfl).trans ((pf10).trans (congrArg (fun q : Nat => (q : Int)) (mD90 10 rfl).symm)))) ?_
                refine Ew_of (pcₚ := 178) (fun _ => x_bipush (z := 6) rfl (by decide)) ?_
                refine v_lI H (o := 10) rfl rfl rfl rfl (n := n10) ((congrArg (fun q : Nat => (q : Int)) (mN90 10 rfl)).trans (en10)) (show 0 ≤ 6 ∧ 6 < n10 from q_3489 h4 r10) (fun v94 ev94 qv94 => ?_)
                have ev94 : (w10) (6) = v94 := (congrFun ((funext (mA90 10 rfl)).trans (ew10)) (6)).symm.trans ev94
                have hc214 : ∀ (ls : rO) (σ : rS) (D_c214 N_c214 : Nat → Nat) (c_c214 s_c214 : Nat) (F_c214 : hF) (A_c214 : hA) , rlook ls 0 = some (.ref (D_c214 0)) → rlook ls 1 = some (.ref (D_c214 1)) → rlook ls 2 = some (.ref (D_c214 2)) → rlook ls 3 = some (.ref (D_c214 6)) → rlook ls 4 = some (I (v39)) → rlook ls 5 = some (I (x51_5)) → HW V201_Row_Row σ D_c214 N_c214 F_c214 A_c214 → OUT (V201_Row_Row).length D N σE c s D_c214 N_c214 σ c_c214 s_c214 → SD [3] D90 D_c214 → SD [3] N90 N_c214 → SF [(1, 0), (1, 1), (1, 2)] F90 F_c214 → SA [3] A90 A_c214 → F_c214 1 0 = (D_c214 3 : Int) → ∀ mc214_3 : Int, (N_c214 3 : Int) = mc214_3 → ∀ yc214_1_1 : Int, F_c214 1 1 = yc214_1_1 → ∀ yc214_1_2 : Int, F_c214 1 2 = yc214_1_2 → ∀ wc214_3 : Int → Int, A_c214 3 = wc214_3 → (0 ≤ (yc214_1_1) ∧ (yc214_1_1) ≤ (mc214_3) ∧ (mc214_3) ≤ 65536) → ((yc214_1_2) = 0 ∨ (yc214_1_2) = 1) → (RAP ((u1_2)) ((w3)) ((u1_1)) ((yc214_1_2)) ((wc214_3)) ((yc214_1_1)) ((TGm ++ Mx) ++ (RX ++ TGp (((w10)) 6)))) → Ew 201 (d + 5) 214 ls [] σ c_c214 s_c214 Q := by
                 as_aux_lemma =>
                  intro  ls σ D_c214 N_c214 c_c214 s_c214 F_c214 A_c214  lc214_0 lc214_1 lc214_2 lc214_3 lc214_4 lc214_5 H O hD_c214 hN_c214 hS_c214 hA_c214 pmc214_3 mc214_3 emc214_3 yc214_1_1 eyc214_1_1 yc214_1_2 eyc214_1_2 wc214_3 ewc214_3 jc214_0 jc214_1 jc214_2
                  have cF_c214 : SF oz_D8clsl_16 F F_c214 := SF_trans (cF90) hS_c214 (any_sub (by decide +kernel))
                  have mF_c214 := SFm_of cF_c214 oz_D8cls_60
                  have cA_c214 : SA oz_D8clsl_17 A A_c214 := SA_trans (cA90) hA_c214 (any_subA (by decide +kernel))
                  have mA_c214 := SAm_of cA_c214 oz_D8cls_61
                  have cD_c214 : SD oz_D8clsl_17 D D_c214 := SD_trans (cD90) hD_c214 (any_subA (by decide +kernel))
                  have mD_c214 := SDm_of cD_c214 oz_D8cls_61
                  have cN_c214 : SD oz_D8clsl_17 N N_c214 := SD_trans (cN90) hN_c214 (any_subA (by decide +kernel))
                  have mN_c214 := SDm_of cN_c214 oz_D8cls_61
                  try clear gz55
                  try clear pz66_1
                  try clear pz78_2
                  try clear pz78_5
                  have pf_c214_5_1 : F_c214 5 1 = (D_c214 13 : Int) := (hS_c214 5 1 rfl).trans ((pf90_5_1).trans (congrArg (fun q : Nat => (q : Int)) (hD_c214 13 rfl).symm))
                  have pf_c214_5_2 : F_c214 5 2 = (D_c214 14 : Int) := (hS_c214 5 2 rfl).trans ((pf90_5_2).trans (congrArg (fun q : Nat => (q : Int)) (hD_c214 14 rfl).symm))
                  have pf_c214_5_3 : F_c214 5 3 = (D_c214 15 : Int) := (hS_c214 5 3 rfl).trans ((pf90_5_3).trans (congrArg (fun q : Nat => (q : Int)) (hD_c214 15 rfl).symm))
                  have pf_c214_5_7 : F_c214 5 7 = (D_c214 11 : Int) := (hS_c214 5 7 rfl).trans ((pf90_5_7).trans (congrArg (fun q : Nat => (q : Int)) (hD_c214 11 rfl).symm))
                  have pf_c214_5_8 : F_c214 5 8 = (D_c214 12 : Int) := (hS_c214 5 8 rfl).trans ((pf90_5_8).trans (congrArg (fun q : Nat => (q : Int)) (hD_c214 12 rfl).symm))
                  have pf_c214_6_0 : F_c214 6 0 = (D_c214 7 : Int) := (hS_c214 6 0 rfl).trans ((pf90_6_0).trans (congrArg (fun q : Nat => (q : Int)) (hD_c214 7 rfl).symm))
                  have pf_c214_8_0 : F_c214 8 0 = (D_c214 9 : Int) := (hS_c214 8 0 rfl).trans ((pf90_8_0).trans (congrArg (fun q : Nat => (q : Int)) (hD_c214 9 rfl).symm))
                  have r95 : (0 : Int) ≤ mc214_3 ∧ mc214_3 ≤ 1000000 := nleE (H.nle 3 (ltn len_V201_Row_Row_oz_D8cls rfl)) (show (N_c214 3 : Int) = mc214_3 from emc214_3)
                  have r96 : (-2147483648 : Int) ≤ yc214_1_1 ∧ yc214_1_1 ≤ 2147483647 := rngE (show (-2147483648 : Int) ≤ F_c214 1 1 ∧ F_c214 1 1 ≤ 2147483647 from H.krg 1 1 (ltn len_V201_Row_Row_oz_D8cls rfl)) (show F_c214 1 1 = yc214_1_1 from (eyc214_1_1))
                  have r97 : (0 : Int) ≤ yc214_1_2 ∧ yc214_1_2 ≤ 1 := rngE (show (0 : Int) ≤ F_c214 1 2 ∧ F_c214 1 2 ≤ 1 from H.krg 1 2 (ltn len_V201_Row_Row_oz_D8cls rfl)) (show F_c214 1 2 = yc214_1_2 from (eyc214_1_2))
                  have h214 : RAP ((u1_2)) ((w3)) ((u1_1)) ((yc214_1_2)) ((wc214_3)) ((yc214_1_1)) ((TGm ++ Mx) ++ (RX ++ TGp (((w10)) 6))) := by assumption
                  refine Ew_of (pcₚ := 216) (fun _ => x_iload rfl lc214_5) ?_
                  refine Ew_of (pcₚ := 218) (fun _ => x_iload rfl lc214_4) ?_
                  refine w_iadd rfl ?_
                  have hl6c : (x51_5) + q6 = (x51_5) + (v39) ∨ (x51_5) + q6 = (u2_1) ∧ (u2_1) < (x51_5) + (v39) := hl6H
                  have : ∃ M, ITP (TGs (((w10)) 0) (((w10)) 2) (((w10)) 6) (sc ((w4)) 0 ((u2_1)))) (0, []) ((x51_5) + (v39), M) ∧ RAP ((u1_2)) ((w3)) ((u1_1)) ((yc214_1_2)) ((wc214_3)) ((yc214_1_1)) (TGm ++ M) := ⟨_, TGs_i (e := (x51_5) + q6) (B := Bk) (by omega) (by omega) rfl hBk hRX (by omega) rfl hIT, RAP_c h214 (by simp only [List.append_assoc])⟩
                  refine Ew_of (pcₚ := 221) (fun _ => x_istore rfl) ?_
                  refine Ew_of (pcₚ := 51) (fun _ => x_goto rfl rfl) ?_
                  have hlq : (y78_3_6) = 0 ∨ (y78_3_6) + 4 ≤ (y66_0_1) + 1 := hlqH
                  have hln : (m78_8) = (m78_9) ∧ (m78_10) = (m78_9) ∧ (m78_9) ≤ 65536 ∧ ((m78_9) = 0 ∨ 64 ≤ (m78_9)) ∧ lgq ((m78_9)) = 0 := hlnH
                  exact ih51 _ (msE hm51 (q_3493 b52) (q_3494 b53)) _ _ _ _ _ _ _ _ ((x51_5 + v39)) (rk_o (lc214_0) rfl rfl) (rk_o (lc214_1) rfl rfl) (rk_o (lc214_2) rfl rfl) (rk_o (lc214_3) rfl rfl) (rk_o (lc214_4) rfl rfl) (rk_s) H O (SD_trans (SD_trans (SD_trans (SD_trans (hD_51) (SD_gluc (ι := oz_D8clsl_22) oz_D8cls_66 hD66 eD66 (by decide +kernel)) (any_subA (lₚ := [7]) (by decide +kernel))) (SD_gluc (ι := oz_D8clsl_24) oz_D8cls_68 hD78 eD78 (by decide +kernel)) (any_subA (lₚ := [9, 12, 13, 14, 15]) (by decide +kernel))) (SD_gluc (ι := oz_D8clsl_25) oz_D8cls_69 hD90 eD90 (by decide +kernel)) (any_subA (lₚ := [3]) (by decide +kernel))) hD_c214 (any_subA (by decide +kernel))) (SD_trans (SD_trans (SD_trans (SD_trans (hN_51) (SD_gluc (ι := oz_D8clsl_22) oz_D8cls_66 hN66 eN66 (by decide +kernel)) (any_subA (lₚ := [7]) (by decide +kernel))) (SD_gluc (ι := oz_D8clsl_24) oz_D8cls_68 hN78 eN78 (by decide +kernel)) (any_subA (lₚ := [9, 12, 13, 14, 15]) (by decide +kernel))) (SD_gluc (ι := oz_D8clsl_25) oz_D8cls_69 hN90 eN90 (by decide +kernel)) (any_subA (lₚ := [3]) (by decide +kernel))) hN_c214 (any_subA (by decide +kernel))) (SF_trans (SF_trans (SF_trans (SF_trans (SF_trans (SF_trans (SF_trans (hS_51) (SF_gluc (ι := oz_D8clsl_21) oz_D8cls_65 hS56 eF56 (by decide +kernel)) (any_sub (lₚ := [(5, 6)]) (by decide +kernel))) (SF_gluc (ι := oz_D8clsl_19) oz_D8cls_63 hS61 eF61 (by decide +kernel)) (any_sub (lₚ := [(6, 1), (6, 2), (6, 3), (6, 4)]) (by decide +kernel))) (SF_gluc (ι := oz_D8clsl_22) oz_D8cls_66 hS66 eF66 (by decide +kernel)) (any_sub (lₚ := [(6, 0), (6, 1), (6, 2)]) (by decide +kernel))) (SF_gluc (ι := oz_D8clsl_23) oz_D8cls_67 hS73 eF73 (by decide +kernel)) (any_sub (lₚ := [(8, 1), (8, 2), (8, 3), (8, 4)]) (by decide +kernel))) (SF_gluc (ι := oz_D8clsl_24) oz_D8cls_68 hS78 eF78 (by decide +kernel)) (any_sub (lₚ := [(5, 1), (5, 2), (5, 3), (5, 4), (5, 5), (5, 6), (5, 8), (5, 12), (5, 13), (5, 14), (5, 15), (5, 16), (5, 17), (5, 18), (8, 0), (8, 1), (8, 2)]) (by decide +kernel))) (SF_gluc (ι := oz_D8clsl_25) oz_D8cls_69 hS90 eF90 (by decide +kernel)) (any_sub (lₚ := [(1, 0), (1, 1), (1, 2)]) (by decide +kernel))) hS_c214 (any_sub (by decide +kernel))) (SA_trans (SA_trans (SA_trans (SA_trans (SA_trans (SA_trans (SA_trans (hA_51) (SA_gluc (ι := oz_D8clsl_21) oz_D8cls_65 hA56 eA56 (by decide +kernel)) (any_subA (lₚ := [11]) (by decide +kernel))) (SA_gluc (ι := oz_D8clsl_19) oz_D8cls_63 hA61 eA61 (by decide +kernel)) (any_subA (lₚ := []) (by decide +kernel))) (SA_gluc (ι := oz_D8clsl_22) oz_D8cls_66 hA66 eA66 (by decide +kernel)) (any_subA (lₚ := [7]) (by decide +kernel))) (SA_gluc (ι := oz_D8clsl_23) oz_D8cls_67 hA73 eA73 (by decide +kernel)) (any_subA (lₚ := []) (by decide +kernel))) (SA_gluc (ι := oz_D8clsl_24) oz_D8cls_68 hA78 eA78 (by decide +kernel)) (any_subA (lₚ := [9, 11, 12, 13, 14, 15]) (by decide +kernel))) (SA_gluc (ι := oz_D8clsl_25) oz_D8cls_69 hA90 eA90 (by decide +kernel)) (any_subA (lₚ := [3]) (by decide +kernel))) hA_c214 (any_subA (by decide +kernel))) (pmc214_3) (pf_c214_6_0) (pf_c214_8_0) (pf_c214_5_8) (pf_c214_5_1) (pf_c214_5_2) (pf_c214_5_3) (mc214_3) (emc214_3) (m66_2) ((congrArg (fun q : Nat => (q : Int)) (hN_c214 7 rfl)).trans ((congrArg (fun q : Nat => (q : Int)) (show N90 7 = N78 7 from (eN90 7).trans (hN90 7 rfl))).trans ((congrArg (fun q : Nat => (q : Int)) (show N78 7 = N66 7 from (eN78 7).trans (hN78 5 rfl))).trans ((congrArg (fun q : Nat => (q : Int)) (eN66 7)).trans em66_2)))) (m78_2) ((congrArg (fun q : Nat => (q : Int)) (hN_c214 9 rfl)).trans ((congrArg (fun q : Nat => (q : Int)) (show N90 9 = N78 9 from (eN90 9).trans (hN90 4 rfl))).trans ((congrArg (fun q : Nat => (q : Int)) (eN78 9)).trans em78_2))) (m78_6) ((congrArg (fun q : Nat => (q : Int)) (hN_c214 12 rfl)).trans ((congrArg (fun q : Nat => (q : Int)) (show N90 12 = N78 12 from (eN90 12))).trans ((congrArg (fun q : Nat => (q : Int)) (eN78 12)).trans em78_6))) (m78_8) ((congrArg (fun q : Nat => (q : Int)) (hN_c214 13 rfl)).trans ((congrArg (fun q : Nat => (q : Int)) (show N90 13 = N78 13 from (eN90 13))).trans ((congrArg (fun q : Nat => (q : Int)) (eN78 13)).trans em78_8))) (m78_9) ((congrArg (fun q : Nat => (q : Int)) (hN_c214 14 rfl)).trans ((congrArg (fun q : Nat => (q : Int)) (show N90 14 = N78 14 from (eN90 14))).trans ((congrArg (fun q : Nat => (q : Int)) (eN78 14)).trans em78_9))) (m78_10) ((congrArg (fun q : Nat => (q : Int)) (hN_c214 15 rfl)).trans ((congrArg (fun q : Nat => (q : Int)) (show N90 15 = N78 15 from (eN90 15))).trans ((congrArg (fun q : Nat => (q : Int)) (eN78 15)).trans em78_10))) (yc214_1_1) ((eyc214_1_1)) (yc214_1_2) ((eyc214_1_2)) (y78_3_6) ((((hS_c214 5 6 rfl).trans ((show F90 5 6 = F78 5 6 from (eF90 5 6).trans (hS90 5 6 rfl)))).trans ((eF78 5 6).trans ey78_3_6))) (y66_0_1) ((((((hS_c214 6 1 rfl).trans ((show F90 6 1 = F78 6 1 from (eF90 6 1).trans (hS90 6 1 rfl)))).trans ((show F78 6 1 = F73 6 1 from (eF78 6 1).trans (hS78 4 1 rfl)))).trans ((show F73 6 1 = F66 6 1 from (eF73 6 1)))).trans ((eF66 6 1).trans ey66_0_1))) (y78_1_1) ((((hS_c214 8 1 rfl).trans ((show F90 8 1 = F78 8 1 from (eF90 8 1).trans (hS90 3 1 rfl)))).trans ((eF78 8 1).trans ey78_1_1))) (wc214_3) (ewc214_3) (w66_2) ((funext (hA_c214 7 rfl)).trans (((show A90 7 = A78 7 from (eA90 7).trans (funext (hA90 7 rfl)))).trans (((show A78 7 = A73 7 from (eA78 7).trans (funext (hA78 5 rfl)))).trans (((show A73 7 = A66 7 from (eA73 7))).trans ((eA66 7).trans ew66_2))))) (w78_7) ((funext (hA_c214 11 rfl)).trans (((show A90 11 = A78 11 from (eA90 11))).trans ((eA78 11).trans ew78_7))) (w78_6) ((funext (hA_c214 12 rfl)).trans (((show A90 12 = A78 12 from (eA90 12))).trans ((eA78 12).trans ew78_6))) (show inr ((x51_5 + v39)) from q_3492 b52 b53 h5 hs3 j51_2) (show 0 ≤ (yc214_1_1) ∧ (yc214_1_1) ≤ (mc214_3) ∧ (mc214_3) ≤ 65536 from jc214_0) (show 0 ≤ ((x51_5 + v39)) ∧ ((x51_5 + v39)) ≤ (u2_1) + 65536 from q_3491 b52 b53 hs3 j51_2) (show (yc214_1_2) = 0 ∨ (yc214_1_2) = 1 from jc214_1) (show 0 ≤ (y66_0_1) ∧ (y66_0_1) ≤ (m66_2) ∧ (m66_2) ≤ 65536 ∧ (y66_0_1) ≤ 16384 from q_3487 hdc hl6 pz66_0) (show 0 ≤ (y78_1_1) ∧ (y78_1_1) ≤ (m78_2) ∧ (m78_2) ≤ 65536 from pz78_0) (show (m33_1) = 2048 from j51_6) (show 0 ≤ (y78_3_6) ∧ (y78_3_6) ≤ (m78_6) ∧ (m78_6) ≤ 16384 from q_3490 pz78_1) (show (y78_3_6) = 0 ∨ (y78_3_6) + 4 ≤ (y66_0_1) + 1 from hlq) (pz78_3) (pz78_4) (show (m78_8) = (m78_9) ∧ (m78_10) = (m78_9) ∧ (m78_9) ≤ 65536 ∧ ((m78_9) = 0 ∨ 64 ≤ (m78_9)) ∧ lgq ((m78_9)) = 0 from hln) (show (y33_0_11) = 65535 ∧ (y33_0_9) = ((w10)) 0 from j51_12) (show ∃ M, ITP (TGs (((w10)) 0) (((w10)) 2) (((w10)) 6) (sc ((w4)) 0 ((u2_1)))) (0, []) (((x51_5 + v39)), M) ∧ RAP ((u1_2)) ((w3)) ((u1_1)) ((yc214_1_2)) ((wc214_3)) ((yc214_1_1)) (TGm ++ M) by assumption) rfl
                have hsp := ev94
                refine w_ifle (t := 214) rfl rfl (show inr (v94) from qv94) (fun b98 => ?_) (fun b98 => ?_)
                · have : RAP ((u1_2)) ((w3)) ((u1_1)) ((y90_1_2)) ((w90_2)) ((y90_1_1)) ((TGm ++ Mx) ++ (RX ++ TGp (((w10)) 6))) := by first | (have g_ := hsr; have h2 := pNONE_2 (by omega); rw [← hsr] at h2; exact RAP_c (RAP_trans hR1 (RAP_trans hn1 h2)) (by rw [show TGp (((w10)) 6) = _ from if_neg (by omega)]; simp only [List.append_assoc]; rfl)) | (rw [show TGp (((w10)) 6) = [] from if_pos (by omega), List.append_nil]; exact hR1)
                  exact hc214  _ _ _ _ _ _ _ _  ((rk_o (rk_o (l51_0) rfl rfl) rfl rfl).trans (congrArg (fun q : Nat => some (Value.ref q)) (((((show D90 0 = D78 0 from (eD90 0).trans (hD90 0 rfl))).trans ((show D78 0 = D66 0 from (eD78 0).trans (hD78 0 rfl)))).trans ((show D66 0 = D_51 0 from (eD66 0))))).symm)) ((rk_o (rk_o (l51_1) rfl rfl) rfl rfl).trans (congrArg (fun q : Nat => some (Value.ref q)) (((((show D90 1 = D78 1 from (eD90 1).trans (hD90 1 rfl))).trans ((show D78 1 = D66 1 from (eD78 1)))).trans ((show D66 1 = D_51 1 from (eD66 1))))).symm)) ((rk_o (rk_o (l51_2) rfl rfl) rfl rfl).trans (congrArg (fun q : Nat => some (Value.ref q)) (((((show D90 2 = D78 2 from (eD90 2))).trans ((show D78 2 = D66 2 from (eD78 2)))).trans ((show D66 2 = D_51 2 from (eD66 2))))).symm)) ((rk_o (rk_o (l51_3) rfl rfl) rfl rfl).trans (congrArg (fun q : Nat => some (Value.ref q)) (((((show D90 6 = D78 6 from (eD90 6).trans (hD90 6 rfl))).trans ((show D78 6 = D66 6 from (eD78 6).trans (hD78 4 rfl)))).trans ((show D66 6 = D_51 6 from (eD66 6).trans (hD66 0 rfl))))).symm)) (rk_o (rk_o (l51_4) rfl rfl) rfl rfl) (rk_o (rk_o (l51_5) rfl rfl) rfl rfl) H O (SD_refl) (SD_refl) (SF_refl) (SA_refl) (pf90_1_0) (m90_2) ((congrArg (fun q : Nat => (q : Int)) (eN90 3)).trans em90_2) (y90_1_1) (((eF90 1 1).trans ey90_1_1)) (y90_1_2) (((eF90 1 2).trans ey90_1_2)) (w90_2) ((eA90 3).trans ew90_2) (show 0 ≤ (y90_1_1) ∧ (y90_1_1) ≤ (m90_2) ∧ (m90_2) ≤ 65536 from pz90_0) (show (y90_1_2) = 0 ∨ (y90_1_2) = 1 from hbu0) (show RAP ((u1_2)) ((w3)) ((u1_1)) ((y90_1_2)) ((w90_2)) ((y90_1_1)) ((TGm ++ Mx) ++ (RX ++ TGp (((w10)) 6))) by assumption)
                · refine Ew_of (pcₚ := 183) (fun _ => x_aload_n rfl (rk_o (rk_o (l51_1) rfl rfl) rfl rfl)) ?_
                  refine Ew_of (pcₚ := 184) (fun _ => x_aload_n rfl (rk_o (rk_o (l51_0) rfl rfl) rfl rfl)) ?_
                  refine Ew_stk (show ([.ref (D_51 0), .ref (D_51 1)] : List Value) = [.ref (D90 0), .ref (D90 1)] by rw [show D90 0 = D_51 0 from ((((show D90 0 = D78 0 from (eD90 0).trans (hD90 0 rfl))).trans ((show D78 0 = D66 0 from (eD78 0).trans (hD78 0 rfl)))).trans ((show D66 0 = D_51 0 from (eD66 0)))), show D90 1 = D_51 1 from ((((show D90 1 = D78 1 from (eD90 1).trans (hD90 1 rfl))).trans ((show D78 1 = D66 1 from (eD78 1)))).trans ((show D66 1 = D_51 1 from (eD66 1))))]) ?_
                  refine v_g H (o := 0) (v := .ref (D90 10)) rfl rfl rfl rfl rfl (vrf ((mF90 0 0 rfl).trans ((pf10).trans (congrArg (fun q : Nat => (q : Int)) (mD90 10 rfl).symm)))) ?_
                  refine Ew_of (pcₚ := 189) (fun _ => x_bipush (z := 6) rfl (by decide)) ?_
                  refine v_lI H (o := 10) rfl rfl rfl rfl (n := n10) ((congrArg (fun q : Nat => (q : Int)) (mN90 10 rfl)).trans (en10)) (show 0 ≤ 6 ∧ 6 < n10 from q_3489 h4 r10) (fun v99 ev99 qv99 => ?_)
                  have ev99 : (w10) (6) = v99 := (congrFun ((funext (mA90 10 rfl)).trans (ew10)) (6)).symm.trans ev99
                  have hsq := ev99
                  refine Ew_of (pcₚ := 192) (fun _ => x_bipush (z := 8) rfl (by decide)) ?_
                  refine w_ishlE rfl ?_
                  have g100 : inr (slI (v99) (8)) := toI_inr _
                  refine Ew_of (pcₚ := 196) (fun _ => x_sipush (z := 254) rfl (by decide)) ?_
                  refine w_iorE rfl ?_
                  have g101 : inr (orI ((slI (v99) (8))) (254)) := toI_inr _
                  have hv : ((orI ((slI (v99) (8))) (254))) = ((w10)) 6 * 256 + 254 := by rw [hsq]; exact or8 (by omega) (by omega)
                  have hvr : inr (((orI ((slI (v99) (8))) (254)))) := g101
                  refine w_i2l rfl (show inr ((orI ((slI (v99) (8))) (254))) from hvr) ?_
                  refine Ew_of (pcₚ := 199) (fun _ => x_iconst rfl) ?_
                  refine v_inv H (o := 1) rfl rfl rfl rfl rfl rfl (by rfl) (C160 (D := puc 1537 D90) (N := puc 1537 N90) (HW_subc H oz_D8cls_56 oz_D8cls_62) (pf90_1_0) (m90_2) ((congrArg (fun q : Nat => (q : Int)) (eN90 3)).trans em90_2) (y90_1_1) (((eF90 1 1).trans ey90_1_1)) (y90_1_2) (((eF90 1 2).trans ey90_1_2)) (w90_2) ((eA90 3).trans ew90_2) (show inrJ ((orI ((slI (v99) (8))) (254))) from q_2579 hvr) (show inr (4) from q_216) (show 0 ≤ (y90_1_1) ∧ (y90_1_1) ≤ (m90_2) ∧ (m90_2) ≤ 65536 from pz90_0) (show 0 ≤ (4) ∧ (4) ≤ 8 from q_623) (fun σ102 D102ₚ N102ₚ F102ₚ A102ₚ c102 s102 Hₚ Oₚ hD102 hN102 hS102 hA102 pm102_1 m102_1 em102_1 y102_0_1 ey102_0_1 y102_0_2 ey102_0_2 w102_1 ew102_1 pz102_0 pz102_1 pz102_2 => ⟨rfl, ?_⟩))
                  refine v_backMc (c := (((c_51 + c66) + c78) + c90)) (s := (((s_51 + s66) + s78) + s90)) H oz_D8cls_56 oz_D8cls_62 Hₚ Oₚ hD102 oz_D8cls_44 (fun D102 N102 F102 A102 H Oₚ eD102 eN102 eF102 eA102 => ?_)
                  have O := OUT_trans O Oₚ
                  -- Row.addNumber
                  have cF102 : SF oz_D8clsl_16 F F102 := SF_trans (cF90) (SF_gluc (ι := oz_D8clsl_18) oz_D8cls_62 hS102 eF102 (by decide +kernel)) (any_sub (lₚ := [(1, 0), (1, 1), (1, 2)]) (by decide +kernel))
                  have mF102 := SFm_of cF102 oz_D8cls_60
                  have cA102 : SA oz_D8clsl_17 A A102 := SA_trans (cA90) (SA_gluc (ι := oz_D8clsl_18) oz_D8cls_62 hA102 eA102 (by decide +kernel)) (any_subA (lₚ := [3]) (by decide +kernel))
                  have mA102 := SAm_of cA102 oz_D8cls_61
                  have cD102 : SD oz_D8clsl_17 D D102 := SD_trans (cD90) (SD_gluc (ι := oz_D8clsl_18) oz_D8cls_62 hD102 eD102 (by decide +kernel)) (any_subA (lₚ := [3]) (by decide +kernel))
                  have mD102 := SDm_of cD102 oz_D8cls_61
                  have cN102 : SD oz_D8clsl_17 N N102 := SD_trans (cN90) (SD_gluc (ι := oz_D8clsl_18) oz_D8cls_62 hN102 eN102 (by decide +kernel)) (any_subA (lₚ := [3]) (by decide +kernel))
                  have mN102 := SDm_of cN102 oz_D8cls_61
                  have pf102_1_0 : F102 1 0 = (D102 3 : Int) := (eF102 1 0).trans (pm102_1.trans (congrArg (fun q : Nat => (q : Int)) (eD102 3).symm))
                  have pf102_5_1 : F102 5 1 = (D102 13 : Int) := ((show F102 5 1 = F90 5 1 from (eF102 5 1))).trans ((pf90_5_1).trans (congrArg (fun q : Nat => (q : Int)) ((show D102 13 = D90 13 from (eD102 13))).symm))
                  have pf102_5_2 : F102 5 2 = (D102 14 : Int) := ((show F102 5 2 = F90 5 2 from (eF102 5 2))).trans ((pf90_5_2).trans (congrArg (fun q : Nat => (q : Int)) ((show D102 14 = D90 14 from (eD102 14))).symm))
                  have pf102_5_3 : F102 5 3 = (D102 15 : Int) := ((show F102 5 3 = F90 5 3 from (eF102 5 3))).trans ((pf90_5_3).trans (congrArg (fun q : Nat => (q : Int)) ((show D102 15 = D90 15 from (eD102 15))).symm))
                  have pf102_5_7 : F102 5 7 = (D102 11 : Int) := ((show F102 5 7 = F90 5 7 from (eF102 5 7))).trans ((pf90_5_7).trans (congrArg (fun q : Nat => (q : Int)) ((show D102 11 = D90 11 from (eD102 11))).symm))
                  have pf102_5_8 : F102 5 8 = (D102 12 : Int) := ((show F102 5 8 = F90 5 8 from (eF102 5 8))).trans ((pf90_5_8).trans (congrArg (fun q : Nat => (q : Int)) ((show D102 12 = D90 12 from (eD102 12))).symm))
                  have pf102_6_0 : F102 6 0 = (D102 7 : Int) := ((show F102 6 0 = F90 6 0 from (eF102 6 0))).trans ((pf90_6_0).trans (congrArg (fun q : Nat => (q : Int)) ((show D102 7 = D90 7 from (eD102 7))).symm))
                  have pf102_8_0 : F102 8 0 = (D102 9 : Int) := ((show F102 8 0 = F90 8 0 from (eF102 8 0))).trans ((pf90_8_0).trans (congrArg (fun q : Nat => (q : Int)) ((show D102 9 = D90 9 from (eD102 9))).symm))
                  have r103 : (0 : Int) ≤ m102_1 ∧ m102_1 ≤ 1000000 := nleE (H.nle 3 (ltn len_V201_Row_Row_oz_D8cls rfl)) (show (N102 3 : Int) = m102_1 from (congrArg (fun q : Nat => (q : Int)) (eN102 3)).trans em102_1)
                  have r104 : (-2147483648 : Int) ≤ y102_0_1 ∧ y102_0_1 ≤ 2147483647 := rngE (show (-2147483648 : Int) ≤ F102 1 1 ∧ F102 1 1 ≤ 2147483647 from H.krg 1 1 (ltn len_V201_Row_Row_oz_D8cls rfl)) (show F102 1 1 = y102_0_1 from ((eF102 1 1).trans ey102_0_1))
                  have r105 : (0 : Int) ≤ y102_0_2 ∧ y102_0_2 ≤ 1 := rngE (show (0 : Int) ≤ F102 1 2 ∧ F102 1 2 ≤ 1 from H.krg 1 2 (ltn len_V201_Row_Row_oz_D8cls rfl)) (show F102 1 2 = y102_0_2 from ((eF102 1 2).trans ey102_0_2))
                  have hn1 := pz102_2
                  rw [hv] at hn1
                  try clear pz102_1
                  refine Ew_of (pcₚ := 203) (fun _ => x_aload_n rfl (rk_o (rk_o (l51_1) rfl rfl) rfl rfl)) ?_
                  refine Ew_of (pcₚ := 204) (fun _ => x_iconst rfl) ?_
                  refine Ew_of (pcₚ := 205) (fun _ => x_aload_n rfl (rk_o (rk_o (l51_0) rfl rfl) rfl rfl)) ?_
                  refine Ew_stk (show ([.ref (D_51 0), I (0), .ref (D_51 1)] : List Value) = [.ref (D102 0), I (0), .ref (D102 1)] by rw [show D102 0 = D_51 0 from (((((show D102 0 = D90 0 from (eD102 0))).trans ((show D90 0 = D78 0 from (eD90 0).trans (hD90 0 rfl)))).trans ((show D78 0 = D66 0 from (eD78 0).trans (hD78 0 rfl)))).trans ((show D66 0 = D_51 0 from (eD66 0)))), show D102 1 = D_51 1 from (((((show D102 1 = D90 1 from (eD102 1).trans (hD102 0 rfl))).trans ((show D90 1 = D78 1 from (eD90 1).trans (hD90 1 rfl)))).trans ((show D78 1 = D66 1 from (eD78 1)))).trans ((show D66 1 = D_51 1 from (eD66 1))))]) ?_
                  refine v_g H (o := 0) (v := .ref (D102 10)) rfl rfl rfl rfl rfl (vrf ((mF102 0 0 rfl).trans ((pf10).trans (congrArg (fun q : Nat => (q : Int)) (mD102 10 rfl).symm)))) ?_
                  refine Ew_of (pcₚ := 210) (fun _ => x_bipush (z := 6) rfl (by decide)) ?_
                  refine v_lI H (o := 10) rfl rfl rfl rfl (n := n10) ((congrArg (fun q : Nat => (q : Int)) (mN102 10 rfl)).trans (en10)) (show 0 ≤ 6 ∧ 6 < n10 from q_3489 h4 r10) (fun v106 ev106 qv106 => ?_)
                  have ev106 : (w10) (6) = v106 := (congrFun ((funext (mA102 10 rfl)).trans (ew10)) (6)).symm.trans ev106
                  have hsr := ev106
                  refine v_inv H (o := 1) rfl rfl rfl rfl rfl rfl (by rfl) (C162 (D := puc 1537 D102) (N := puc 1537 N102) (HW_subc H oz_D8cls_57 oz_D8cls_62) (pf102_1_0) (m102_1) ((congrArg (fun q : Nat => (q : Int)) (eN102 3)).trans em102_1) (y102_0_1) (((eF102 1 1).trans ey102_0_1)) (y102_0_2) (((eF102 1 2).trans ey102_0_2)) (w102_1) ((eA102 3).trans ew102_1) (show inr (0) from q_2) (show inr (v106) from qv106) (show 0 ≤ (y102_0_1) ∧ (y102_0_1) ≤ (m102_1) ∧ (m102_1) ≤ 65536 from pz102_0) (fun σ107 D107ₚ N107ₚ F107ₚ A107ₚ c107 s107 Hₚ Oₚ hD107 hN107 hS107 hA107 pm107_1 m107_1 em107_1 y107_0_1 ey107_0_1 y107_0_2 ey107_0_2 w107_1 ew107_1 pz107_0 pz107_1 pz107_2 => ⟨rfl, ?_⟩))
                  refine v_backMc (c := ((((c_51 + c66) + c78) + c90) + c102)) (s := ((((s_51 + s66) + s78) + s90) + s102)) H oz_D8cls_57 oz_D8cls_62 Hₚ Oₚ hD107 oz_D8cls_44 (fun D107 N107 F107 A107 H Oₚ eD107 eN107 eF107 eA107 => ?_)
                  have O := OUT_trans O Oₚ
                  -- Row.addSame
                  have cF107 : SF oz_D8clsl_16 F F107 := SF_trans (cF102) (SF_gluc (ι := oz_D8clsl_18) oz_D8cls_62 hS107 eF107 (by decide +kernel)) (any_sub (lₚ := [(1, 0), (1, 1), (1, 2)]) (by decide +kernel))
                  have mF107 := SFm_of cF107 oz_D8cls_60
                  have cA107 : SA oz_D8clsl_17 A A107 := SA_trans (cA102) (SA_gluc (ι := oz_D8clsl_18) oz_D8cls_62 hA107 eA107 (by decide +kernel)) (any_subA (lₚ := [3]) (by decide +kernel))
                  have mA107 := SAm_of cA107 oz_D8cls_61
                  have cD107 : SD oz_D8clsl_17 D D107 := SD_trans (cD102) (SD_gluc (ι := oz_D8clsl_18) oz_D8cls_62 hD107 eD107 (by decide +kernel)) (any_subA (lₚ := [3]) (by decide +kernel))
                  have mD107 := SDm_of cD107 oz_D8cls_61
                  have cN107 : SD oz_D8clsl_17 N N107 := SD_trans (cN102) (SD_gluc (ι := oz_D8clsl_18) oz_D8cls_62 hN107 eN107 (by decide +kernel)) (any_subA (lₚ := [3]) (by decide +kernel))
                  have mN107 := SDm_of cN107 oz_D8cls_61
                  have pf107_1_0 : F107 1 0 = (D107 3 : Int) := (eF107 1 0).trans (pm107_1.trans (congrArg (fun q : Nat => (q : Int)) (eD107 3).symm))
                  have pf107_5_1 : F107 5 1 = (D107 13 : Int) := ((show F107 5 1 = F102 5 1 from (eF107 5 1))).trans ((pf102_5_1).trans (congrArg (fun q : Nat => (q : Int)) ((show D107 13 = D102 13 from (eD107 13))).symm))
                  have pf107_5_2 : F107 5 2 = (D107 14 : Int) := ((show F107 5 2 = F102 5 2 from (eF107 5 2))).trans ((pf102_5_2).trans (congrArg (fun q : Nat => (q : Int)) ((show D107 14 = D102 14 from (eD107 14))).symm))
                  have pf107_5_3 : F107 5 3 = (D107 15 : Int) := ((show F107 5 3 = F102 5 3 from (eF107 5 3))).trans ((pf102_5_3).trans (congrArg (fun q : Nat => (q : Int)) ((show D107 15 = D102 15 from (eD107 15))).symm))
                  have pf107_5_7 : F107 5 7 = (D107 11 : Int) := ((show F107 5 7 = F102 5 7 from (eF107 5 7))).trans ((pf102_5_7).trans (congrArg (fun q : Nat => (q : Int)) ((show D107 11 = D102 11 from (eD107 11))).symm))
                  have pf107_5_8 : F107 5 8 = (D107 12 : Int) := ((show F107 5 8 = F102 5 8 from (eF107 5 8))).trans ((pf102_5_8).trans (congrArg (fun q : Nat => (q : Int)) ((show D107 12 = D102 12 from (eD107 12))).symm))
                  have pf107_6_0 : F107 6 0 = (D107 7 : Int) := ((show F107 6 0 = F102 6 0 from (eF107 6 0))).trans ((pf102_6_0).trans (congrArg (fun q : Nat => (q : Int)) ((show D107 7 = D102 7 from (eD107 7))).symm))
                  have pf107_8_0 : F107 8 0 = (D107 9 : Int) := ((show F107 8 0 = F102 8 0 from (eF107 8 0))).trans ((pf102_8_0).trans (congrArg (fun q : Nat => (q : Int)) ((show D107 9 = D102 9 from (eD107 9))).symm))
                  have r108 : (0 : Int) ≤ m107_1 ∧ m107_1 ≤ 1000000 := nleE (H.nle 3 (ltn len_V201_Row_Row_oz_D8cls rfl)) (show (N107 3 : Int) = m107_1 from (congrArg (fun q : Nat => (q : Int)) (eN107 3)).trans em107_1)
                  have r109 : (-2147483648 : Int) ≤ y107_0_1 ∧ y107_0_1 ≤ 2147483647 := rngE (show (-2147483648 : Int) ≤ F107 1 1 ∧ F107 1 1 ≤ 2147483647 from H.krg 1 1 (ltn len_V201_Row_Row_oz_D8cls rfl)) (show F107 1 1 = y107_0_1 from ((eF107 1 1).trans ey107_0_1))
                  have r110 : (0 : Int) ≤ y107_0_2 ∧ y107_0_2 ≤ 1 := rngE (show (0 : Int) ≤ F107 1 2 ∧ F107 1 2 ≤ 1 from H.krg 1 2 (ltn len_V201_Row_Row_oz_D8cls rfl)) (show F107 1 2 = y107_0_2 from ((eF107 1 2).trans ey107_0_2))
                  have : RAP ((u1_2)) ((w3)) ((u1_1)) ((y107_0_2)) ((w107_1)) ((y107_0_1)) ((TGm ++ Mx) ++ (RX ++ TGp (((w10)) 6))) := by first | (have g_ := hsr; have h2 := pz107_2 (by omega); rw [← hsr] at h2; exact RAP_c (RAP_trans hR1 (RAP_trans hn1 h2)) (by rw [show TGp (((w10)) 6) = _ from if_neg (by omega)]; simp only [List.append_assoc]; rfl)) | (rw [show TGp (((w10)) 6) = [] from if_pos (by omega), List.append_nil]; exact hR1)
                  exact hc214  _ _ _ _ _ _ _ _  ((rk_o (rk_o (l51_0) rfl rfl) rfl rfl).trans (congrArg (fun q : Nat => some (Value.ref q)) (((((((show D107 0 = D102 0 from (eD107 0))).trans ((show D102 0 = D90 0 from (eD102 0)))).trans ((show D90 0 = D78 0 from (eD90 0).trans (hD90 0 rfl)))).trans ((show D78 0 = D66 0 from (eD78 0).trans (hD78 0 rfl)))).trans ((show D66 0 = D_51 0 from (eD66 0))))).symm)) ((rk_o (rk_o (l51_1) rfl rfl) rfl rfl).trans (congrArg (fun q : Nat => some (Value.ref q)) (((((((show D107 1 = D102 1 from (eD107 1).trans (hD107 0 rfl))).trans ((show D102 1 = D90 1 from (eD102 1).trans (hD102 0 rfl)))).trans ((show D90 1 = D78 1 from (eD90 1).trans (hD90 1 rfl)))).trans ((show D78 1 = D66 1 from (eD78 1)))).trans ((show D66 1 = D_51 1 from (eD66 1))))).symm)) ((rk_o (rk_o (l51_2) rfl rfl) rfl rfl).trans (congrArg (fun q : Nat => some (Value.ref q)) (((((((show D107 2 = D102 2 from (eD107 2))).trans ((show D102 2 = D90 2 from (eD102 2)))).trans ((show D90 2 = D78 2 from (eD90 2)))).trans ((show D78 2 = D66 2 from (eD78 2)))).trans ((show D66 2 = D_51 2 from (eD66 2))))).symm)) ((rk_o (rk_o (l51_3) rfl rfl) rfl rfl).trans (congrArg (fun q : Nat => some (Value.ref q)) (((((((show D107 6 = D102 6 from (eD107 6))).trans ((show D102 6 = D90 6 from (eD102 6)))).trans ((show D90 6 = D78 6 from (eD90 6).trans (hD90 6 rfl)))).trans ((show D78 6 = D66 6 from (eD78 6).trans (hD78 4 rfl)))).trans ((show D66 6 = D_51 6 from (eD66 6).trans (hD66 0 rfl))))).symm)) (rk_o (rk_o (l51_4) rfl rfl) rfl rfl) (rk_o (rk_o (l51_5) rfl rfl) rfl rfl) H O (SD_trans (SD_trans (SD_refl) (SD_gluc (ι := oz_D8clsl_18) oz_D8cls_62 hD102 eD102 (by decide +kernel)) (any_subA (lₚ := [3]) (by decide +kernel))) (SD_gluc (ι := oz_D8clsl_18) oz_D8cls_62 hD107 eD107 (by decide +kernel)) (any_subA (lₚ := [3]) (by decide +kernel))) (SD_trans (SD_trans (SD_refl) (SD_gluc (ι := oz_D8clsl_18) oz_D8cls_62 hN102 eN102 (by decide +kernel)) (any_subA (lₚ := [3]) (by decide +kernel))) (SD_gluc (ι := oz_D8clsl_18) oz_D8cls_62 hN107 eN107 (by decide +kernel)) (any_subA (lₚ := [3]) (by decide +kernel))) (SF_trans (SF_trans (SF_refl) (SF_gluc (ι := oz_D8clsl_18) oz_D8cls_62 hS102 eF102 (by decide +kernel)) (any_sub (lₚ := [(1, 0), (1, 1), (1, 2)]) (by decide +kernel))) (SF_gluc (ι := oz_D8clsl_18) oz_D8cls_62 hS107 eF107 (by decide +kernel)) (any_sub (lₚ := [(1, 0), (1, 1), (1, 2)]) (by decide +kernel))) (SA_trans (SA_trans (SA_refl) (SA_gluc (ι := oz_D8clsl_18) oz_D8cls_62 hA102 eA102 (by decide +kernel)) (any_subA (lₚ := [3]) (by decide +kernel))) (SA_gluc (ι := oz_D8clsl_18) oz_D8cls_62 hA107 eA107 (by decide +kernel)) (any_subA (lₚ := [3]) (by decide +kernel))) (pf107_1_0) (m107_1) ((congrArg (fun q : Nat => (q : Int)) (eN107 3)).trans em107_1) (y107_0_1) (((eF107 1 1).trans ey107_0_1)) (y107_0_2) (((eF107 1 2).trans ey107_0_2)) (w107_1) ((eA107 3).trans ew107_1) (show 0 ≤ (y107_0_1) ∧ (y107_0_1) ≤ (m107_1) ∧ (m107_1) ≤ 65536 from pz107_0) (show (y107_0_2) = 0 ∨ (y107_0_2) = 1 by omega) (show RAP ((u1_2)) ((w3)) ((u1_1)) ((y107_0_2)) ((w107_1)) ((y107_0_1)) ((TGm ++ Mx) ++ (RX ++ TGp (((w10)) 6))) by assumption)
              · exact absurd b89 (by omega)
            · exact absurd b88 (by omega)
          · refine Ew_of (pcₚ := 138) (fun _ => x_iconst rfl) ?_
            refine Ew_of (pcₚ := 142) (fun _ => x_goto rfl rfl) ?_
            refine Ew_of (pcₚ := 144) (fun _ => x_istore rfl) ?_
            refine Ew_of (pcₚ := 145) (fun _ => x_aload_n rfl (rk_o (rk_o (l51_0) rfl rfl) rfl rfl)) ?_
            refine Ew_of (pcₚ := 146) (fun _ => x_aload_n rfl (rk_o (rk_o (l51_1) rfl rfl) rfl rfl)) ?_
            refine Ew_of (pcₚ := 148) (fun _ => x_iload rfl rk_s) ?_
            refine w_ifeq (t := 155) rfl rfl (show inr (1) from q_135) (fun b111 => ?_) (fun b111 => ?_)
            · exact absurd b111 (by omega)
            · refine Ew_of (pcₚ := 152) (fun _ => x_aload_n rfl (rk_o (rk_o (l51_3) rfl rfl) rfl rfl)) ?_
              refine Ew_of (pcₚ := 159) (fun _ => x_goto rfl rfl) ?_
              refine Ew_of (pcₚ := 161) (fun _ => x_iload rfl rk_s) ?_
              refine w_ifeq (t := 168) rfl rfl (show inr (1) from q_135) (fun b112 => ?_) (fun b112 => ?_)
              · exact absurd b112 (by omega)
              · refine Ew_of (pcₚ := 165) (fun _ => x_iconst rfl) ?_
                refine Ew_of (pcₚ := 169) (fun _ => x_goto rfl rfl) ?_
                refine Ew_stk (show ([I (1), .ref (D_51 6), .ref (D_51 1), .ref (D_51 0)] : List Value) = [I (1), .ref (D78 6), .ref (D78 1), .ref (D78 0)] by rw [show D78 0 = D_51 0 from (((show D78 0 = D66 0 from (eD78 0).trans (hD78 0 rfl))).trans ((show D66 0 = D_51 0 from (eD66 0)))), show D78 1 = D_51 1 from (((show D78 1 = D66 1 from (eD78 1))).trans ((show D66 1 = D_51 1 from (eD66 1)))), show D78 6 = D_51 6 from (((show D78 6 = D66 6 from (eD78 6).trans (hD78 4 rfl))).trans ((show D66 6 = D_51 6 from (eD66 6).trans (hD66 0 rfl))))]) ?_
                refine v_inv H (o := 0) rfl rfl rfl rfl rfl rfl (by rfl) (C202_Row_thisfinderdataa (D := puc 246703593357824 D78) (N := puc 246703593357824 N78) (HW_subc H oz_D8cls_58 oz_D8cls_70) (STC_out HT HE O) (pf78_1_0) ((mF78 0 1 rfl).trans ((pf5).trans (congrArg (fun q : Nat => (q : Int)) (mD78 5 rfl).symm))) ((mF78 5 0 rfl).trans ((pf6).trans (congrArg (fun q : Nat => (q : Int)) (mD78 6 rfl).symm))) (pf78_6_0) (m51_3) ((congrArg (fun q : Nat => (q : Int)) (show N78 3 = N66 3 from (eN78 3))).trans ((congrArg (fun q : Nat => (q : Int)) (show N66 3 = N_51 3 from (eN66 3))).trans (em51_3))) (m66_2) ((congrArg (fun q : Nat => (q : Int)) (show N78 7 = N66 7 from (eN78 7).trans (hN78 5 rfl))).trans ((congrArg (fun q : Nat => (q : Int)) (eN66 7)).trans em66_2)) (y51_1_1) ((((((((show F78 1 1 = F73 1 1 from (eF78 1 1))).trans ((show F73 1 1 = F66 1 1 from (eF73 1 1)))).trans ((show F66 1 1 = F61 1 1 from (eF66 1 1)))).trans ((show F61 1 1 = F56 1 1 from (eF61 1 1)))).trans ((show F56 1 1 = F_51 1 1 from (eF56 1 1)))).trans (ey51_1_1))) (y51_1_2) ((((((((show F78 1 2 = F73 1 2 from (eF78 1 2))).trans ((show F73 1 2 = F66 1 2 from (eF73 1 2)))).trans ((show F66 1 2 = F61 1 2 from (eF66 1 2)))).trans ((show F61 1 2 = F56 1 2 from (eF61 1 2)))).trans ((show F56 1 2 = F_51 1 2 from (eF56 1 2)))).trans (ey51_1_2))) (y66_0_1) (((((show F78 6 1 = F73 6 1 from (eF78 6 1).trans (hS78 4 1 rfl))).trans ((show F73 6 1 = F66 6 1 from (eF73 6 1)))).trans ((eF66 6 1).trans ey66_0_1))) (w51_3) (((show A78 3 = A73 3 from (eA78 3))).trans (((show A73 3 = A66 3 from (eA73 3))).trans (((show A66 3 = A61 3 from (eA66 3))).trans (((show A61 3 = A56 3 from (eA61 3))).trans (((show A56 3 = A_51 3 from (eA56 3))).trans (ew51_3)))))) (w66_2) (((show A78 7 = A73 7 from (eA78 7).trans (funext (hA78 5 rfl)))).trans (((show A73 7 = A66 7 from (eA73 7))).trans ((eA66 7).trans ew66_2))) (show inr (1) from q_135) (show 0 ≤ (y51_1_1) ∧ (y51_1_1) ≤ (m51_3) ∧ (m51_3) ≤ 65536 from j51_1) (show 0 ≤ (y66_0_1) ∧ (y66_0_1) ≤ (m66_2) ∧ (m66_2) ≤ 65536 from pz66_0) (show 0 ≤ (y66_0_1) ∧ (y66_0_1) ≤ (m66_2) ∧ (m66_2) ≤ 65536 from pz66_0) (show 0 ≤ (1) ∧ (1) ≤ 1 from q_35) (fun σ113 D113ₚ N113ₚ F113ₚ A113ₚ c113 s113 Hₚ Oₚ hD113 hN113 hS113 hA113 pm113_2 m113_2 em113_2 y113_1_1 ey113_1_1 y113_1_2 ey113_1_2 w113_2 ew113_2 pz113_0 pz113_1 => ⟨rfl, ?_⟩))
                refine v_backMc (c := ((c_51 + c66) + c78)) (s := ((s_51 + s66) + s78)) H oz_D8cls_58 oz_D8cls_70 Hₚ Oₚ hD113 oz_D8cls_59 (fun D113 N113 F113 A113 H Oₚ eD113 eN113 eF113 eA113 => ?_)
                have O := OUT_trans O Oₚ
                -- Tags.addChunk
                have cF113 : SF oz_D8clsl_16 F F113 := SF_trans (cF78) (SF_gluc (ι := oz_D8clsl_26) oz_D8cls_70 hS113 eF113 (by decide +kernel)) (any_sub (lₚ := [(1, 0), (1, 1), (1, 2)]) (by decide +kernel))
                have mF113 := SFm_of cF113 oz_D8cls_60
                have cA113 : SA oz_D8clsl_17 A A113 := SA_trans (cA78) (SA_gluc (ι := oz_D8clsl_26) oz_D8cls_70 hA113 eA113 (by decide +kernel)) (any_subA (lₚ := [3]) (by decide +kernel))
                have mA113 := SAm_of cA113 oz_D8cls_61
                have cD113 : SD oz_D8clsl_17 D D113 := SD_trans (cD78) (SD_gluc (ι := oz_D8clsl_26) oz_D8cls_70 hD113 eD113 (by decide +kernel)) (any_subA (lₚ := [3]) (by decide +kernel))
                have mD113 := SDm_of cD113 oz_D8cls_61
                have cN113 : SD oz_D8clsl_17 N N113 := SD_trans (cN78) (SD_gluc (ι := oz_D8clsl_26) oz_D8cls_70 hN113 eN113 (by decide +kernel)) (any_subA (lₚ := [3]) (by decide +kernel))
                have mN113 := SDm_of cN113 oz_D8cls_61
                have pf113_1_0 : F113 1 0 = (D113 3 : Int) := (eF113 1 0).trans (pm113_2.trans (congrArg (fun q : Nat => (q : Int)) (eD113 3).symm))
                have pf113_5_1 : F113 5 1 = (D113 13 : Int) := ((show F113 5 1 = F78 5 1 from (eF113 5 1).trans (hS113 3 1 rfl))).trans ((pf78_5_1).trans (congrArg (fun q : Nat => (q : Int)) ((show D113 13 = D78 13 from (eD113 13))).symm))
                have pf113_5_2 : F113 5 2 = (D113 14 : Int) := ((show F113 5 2 = F78 5 2 from (eF113 5 2).trans (hS113 3 2 rfl))).trans ((pf78_5_2).trans (congrArg (fun q : Nat => (q : Int)) ((show D113 14 = D78 14 from (eD113 14))).symm))
                have pf113_5_3 : F113 5 3 = (D113 15 : Int) := ((show F113 5 3 = F78 5 3 from (eF113 5 3).trans (hS113 3 3 rfl))).trans ((pf78_5_3).trans (congrArg (fun q : Nat => (q : Int)) ((show D113 15 = D78 15 from (eD113 15))).symm))
                have pf113_5_7 : F113 5 7 = (D113 11 : Int) := ((show F113 5 7 = F78 5 7 from (eF113 5 7).trans (hS113 3 7 rfl))).trans ((pf78_5_7).trans (congrArg (fun q : Nat => (q : Int)) ((show D113 11 = D78 11 from (eD113 11))).symm))
                have pf113_5_8 : F113 5 8 = (D113 12 : Int) := ((show F113 5 8 = F78 5 8 from (eF113 5 8).trans (hS113 3 8 rfl))).trans ((pf78_5_8).trans (congrArg (fun q : Nat => (q : Int)) ((show D113 12 = D78 12 from (eD113 12))).symm))
                have pf113_6_0 : F113 6 0 = (D113 7 : Int) := ((show F113 6 0 = F78 6 0 from (eF113 6 0).trans (hS113 4 0 rfl))).trans ((pf78_6_0).trans (congrArg (fun q : Nat => (q : Int)) ((show D113 7 = D78 7 from (eD113 7).trans (hD113 5 rfl))).symm))
                have pf113_8_0 : F113 8 0 = (D113 9 : Int) := ((show F113 8 0 = F78 8 0 from (eF113 8 0))).trans ((pf78_8_0).trans (congrArg (fun q : Nat => (q : Int)) ((show D113 9 = D78 9 from (eD113 9))).symm))
                have r114 : (0 : Int) ≤ m113_2 ∧ m113_2 ≤ 1000000 := nleE (H.nle 3 (ltn len_V201_Row_Row_oz_D8cls rfl)) (show (N113 3 : Int) = m113_2 from (congrArg (fun q : Nat => (q : Int)) (eN113 3)).trans em113_2)
                have r115 : (-2147483648 : Int) ≤ y113_1_1 ∧ y113_1_1 ≤ 2147483647 := rngE (show (-2147483648 : Int) ≤ F113 1 1 ∧ F113 1 1 ≤ 2147483647 from H.krg 1 1 (ltn len_V201_Row_Row_oz_D8cls rfl)) (show F113 1 1 = y113_1_1 from ((eF113 1 1).trans ey113_1_1))
                have r116 : (0 : Int) ≤ y113_1_2 ∧ y113_1_2 ≤ 1 := rngE (show (0 : Int) ≤ F113 1 2 ∧ F113 1 2 ≤ 1 from H.krg 1 2 (ltn len_V201_Row_Row_oz_D8cls rfl)) (show F113 1 2 = y113_1_2 from ((eF113 1 2).trans ey113_1_2))
                have hab := pz113_1
                rw [hdd] at hab
                obtain ⟨RX, hRX, hR1⟩ : ∃ R : List Int, (((sl (sc ((w4)) 0 ((u2_1))) ((x51_5)) ((x51_5) + q6)).length : Int) ≤ (Bk.length : Int) ∧ R = TGk 1 (sl (sc ((w4)) 0 ((u2_1))) ((x51_5)) ((x51_5) + q6)) (sl (sc ((w4)) 0 ((u2_1))) ((x51_5)) ((x51_5) + q6)) ∨ (Bk.length : Int) < ((sl (sc ((w4)) 0 ((u2_1))) ((x51_5)) ((x51_5) + q6)).length : Int) ∧ R = TGk 0 Bk (sl (sc ((w4)) 0 ((u2_1))) ((x51_5)) ((x51_5) + q6))) ∧ RAP ((u1_2)) ((w3)) ((u1_1)) ((y113_1_2)) ((w113_2)) ((y113_1_1)) ((TGm ++ Mx) ++ R) := by first | (have zc : (y78_1_1) < (z55) := (by assumption); have zd : (Bk.length : Int) < q6 := (by rw [hpl, hq6]; exact zc); have hab2 := hab; rw [hpk.2] at hab2; exact ⟨_, .inr ⟨by rw [hsll]; exact zd, rfl⟩, RAP_trans hRA hab2⟩) | exact ⟨_, .inl ⟨by rw [hsll, hpl, hq6]; omega, rfl⟩, RAP_trans hRA hab⟩
                have hbu0 : (y113_1_2) = 0 ∨ (y113_1_2) = 1 := by omega
                refine Ew_of (pcₚ := 173) (fun _ => x_aload_n rfl (rk_o (rk_o (l51_0) rfl rfl) rfl rfl)) ?_
                refine Ew_stk (congrArg (fun qz : Nat => ([.ref qz] : List Value)) (show D113 0 = D_51 0 from ((((show D113 0 = D78 0 from (eD113 0).trans (hD113 0 rfl))).trans ((show D78 0 = D66 0 from (eD78 0).trans (hD78 0 rfl)))).trans ((show D66 0 = D_51 0 from (eD66 0))))).symm) ?_
                refine v_g H (o := 0) (v := .ref (D113 10)) rfl rfl rfl rfl rfl (vrf ((mF113 0 0 rfl).trans ((pf10).trans (congrArg (fun q : Nat => (q : Int)) (mD113 10 rfl).symm)))) ?_
                refine Ew_of (pcₚ := 178) (fun _ => x_bipush (z := 6) rfl (by decide)) ?_
                refine v_lI H (o := 10) rfl rfl rfl rfl (n := n10) ((congrArg (fun q : Nat => (q : Int)) (mN113 10 rfl)).trans (en10)) (show 0 ≤ 6 ∧ 6 < n10 from q_3489 h4 r10) (fun v117 ev117 qv117 => ?_)
                have ev117 : (w10) (6) = v117 := (congrFun ((funext (mA113 10 rfl)).trans (ew10)) (6)).symm.trans ev117
                have hc214 : ∀ (ls : rO) (σ : rS) (D_c214 N_c214 : Nat → Nat) (c_c214 s_c214 : Nat) (F_c214 : hF) (A_c214 : hA) , rlook ls 0 = some (.ref (D_c214 0)) → rlook ls 1 = some (.ref (D_c214 1)) → rlook ls 2 = some (.ref (D_c214 2)) → rlook ls 3 = some (.ref (D_c214 6)) → rlook ls 4 = some (I (v39)) → rlook ls 5 = some (I (x51_5)) → HW V201_Row_Row σ D_c214 N_c214 F_c214 A_c214 → OUT (V201_Row_Row).length D N σE c s D_c214 N_c214 σ c_c214 s_c214 → SD [3] D113 D_c214 → SD [3] N113 N_c214 → SF [(1, 0), (1, 1), (1, 2)] F113 F_c214 → SA [3] A113 A_c214 → F_c214 1 0 = (D_c214 3 : Int) → ∀ mc214_3 : Int, (N_c214 3 : Int) = mc214_3 → ∀ yc214_1_1 : Int, F_c214 1 1 = yc214_1_1 → ∀ yc214_1_2 : Int, F_c214 1 2 = yc214_1_2 → ∀ wc214_3 : Int → Int, A_c214 3 = wc214_3 → (0 ≤ (yc214_1_1) ∧ (yc214_1_1) ≤ (mc214_3) ∧ (mc214_3) ≤ 65536) → ((yc214_1_2) = 0 ∨ (yc214_1_2) = 1) → (RAP ((u1_2)) ((w3)) ((u1_1)) ((yc214_1_2)) ((wc214_3)) ((yc214_1_1)) ((TGm ++ Mx) ++ (RX ++ TGp (((w10)) 6)))) → Ew 201 (d + 5) 214 ls [] σ c_c214 s_c214 Q := by
                 as_aux_lemma =>
                  intro  ls σ D_c214 N_c214 c_c214 s_c214 F_c214 A_c214  lc214_0 lc214_1 lc214_2 lc214_3 lc214_4 lc214_5 H O hD_c214 hN_c214 hS_c214 hA_c214 pmc214_3 mc214_3 emc214_3 yc214_1_1 eyc214_1_1 yc214_1_2 eyc214_1_2 wc214_3 ewc214_3 jc214_0 jc214_1 jc214_2
                  have cF_c214 : SF oz_D8clsl_16 F F_c214 := SF_trans (cF113) hS_c214 (any_sub (by decide +kernel))
                  have mF_c214 := SFm_of cF_c214 oz_D8cls_60
                  have cA_c214 : SA oz_D8clsl_17 A A_c214 := SA_trans (cA113) hA_c214 (any_subA (by decide +kernel))
                  have mA_c214 := SAm_of cA_c214 oz_D8cls_61
                  have cD_c214 : SD oz_D8clsl_17 D D_c214 := SD_trans (cD113) hD_c214 (any_subA (by decide +kernel))
                  have mD_c214 := SDm_of cD_c214 oz_D8cls_61
                  have cN_c214 : SD oz_D8clsl_17 N N_c214 := SD_trans (cN113) hN_c214 (any_subA (by decide +kernel))
                  have mN_c214 := SDm_of cN_c214 oz_D8cls_61
                  try clear gz55
                  try clear pz66_1
                  try clear pz78_2
                  try clear pz78_5
                  have pf_c214_5_1 : F_c214 5 1 = (D_c214 13 : Int) := (hS_c214 5 1 rfl).trans ((pf113_5_1).trans (congrArg (fun q : Nat => (q : Int)) (hD_c214 13 rfl).symm))
                  have pf_c214_5_2 : F_c214 5 2 = (D_c214 14 : Int) := (hS_c214 5 2 rfl).trans ((pf113_5_2).trans (congrArg (fun q : Nat => (q : Int)) (hD_c214 14 rfl).symm))
                  have pf_c214_5_3 : F_c214 5 3 = (D_c214 15 : Int) := (hS_c214 5 3 rfl).trans ((pf113_5_3).trans (congrArg (fun q : Nat => (q : Int)) (hD_c214 15 rfl).symm))
                  have pf_c214_5_7 : F_c214 5 7 = (D_c214 11 : Int) := (hS_c214 5 7 rfl).trans ((pf113_5_7).trans (congrArg (fun q : Nat => (q : Int)) (hD_c214 11 rfl).symm))
                  have pf_c214_5_8 : F_c214 5 8 = (D_c214 12 : Int) := (hS_c214 5 8 rfl).trans ((pf113_5_8).trans (congrArg (fun q : Nat => (q : Int)) (hD_c214 12 rfl).symm))
                  have pf_c214_6_0 : F_c214 6 0 = (D_c214 7 : Int) := (hS_c214 6 0 rfl).trans ((pf113_6_0).trans (congrArg (fun q : Nat => (q : Int)) (hD_c214 7 rfl).symm))
                  have pf_c214_8_0 : F_c214 8 0 = (D_c214 9 : Int) := (hS_c214 8 0 rfl).trans ((pf113_8_0).trans (congrArg (fun q : Nat => (q : Int)) (hD_c214 9 rfl).symm))
                  have r118 : (0 : Int) ≤ mc214_3 ∧ mc214_3 ≤ 1000000 := nleE (H.nle 3 (ltn len_V201_Row_Row_oz_D8cls rfl)) (show (N_c214 3 : Int) = mc214_3 from emc214_3)
                  have r119 : (-2147483648 : Int) ≤ yc214_1_1 ∧ yc214_1_1 ≤ 2147483647 := rngE (show (-2147483648 : Int) ≤ F_c214 1 1 ∧ F_c214 1 1 ≤ 2147483647 from H.krg 1 1 (ltn len_V201_Row_Row_oz_D8cls rfl)) (show F_c214 1 1 = yc214_1_1 from (eyc214_1_1))
                  have r120 : (0 : Int) ≤ yc214_1_2 ∧ yc214_1_2 ≤ 1 := rngE (show (0 : Int) ≤ F_c214 1 2 ∧ F_c214 1 2 ≤ 1 from H.krg 1 2 (ltn len_V201_Row_Row_oz_D8cls rfl)) (show F_c214 1 2 = yc214_1_2 from (eyc214_1_2))
                  have h214 : RAP ((u1_2)) ((w3)) ((u1_1)) ((yc214_1_2)) ((wc214_3)) ((yc214_1_1)) ((TGm ++ Mx) ++ (RX ++ TGp (((w10)) 6))) := by assumption
                  refine Ew_of (pcₚ := 216) (fun _ => x_iload rfl lc214_5) ?_
                  refine Ew_of (pcₚ := 218) (fun _ => x_iload rfl lc214_4) ?_
                  refine w_iadd rfl ?_
                  have hl6c : (x51_5) + q6 = (x51_5) + (v39) ∨ (x51_5) + q6 = (u2_1) ∧ (u2_1) < (x51_5) + (v39) := hl6H
                  have : ∃ M, ITP (TGs (((w10)) 0) (((w10)) 2) (((w10)) 6) (sc ((w4)) 0 ((u2_1)))) (0, []) ((x51_5) + (v39), M) ∧ RAP ((u1_2)) ((w3)) ((u1_1)) ((yc214_1_2)) ((wc214_3)) ((yc214_1_1)) (TGm ++ M) := ⟨_, TGs_i (e := (x51_5) + q6) (B := Bk) (by omega) (by omega) rfl hBk hRX (by omega) rfl hIT, RAP_c h214 (by simp only [List.append_assoc])⟩
                  refine Ew_of (pcₚ := 221) (fun _ => x_istore rfl) ?_
                  refine Ew_of (pcₚ := 51) (fun _ => x_goto rfl rfl) ?_
                  have hlq : (y78_3_6) = 0 ∨ (y78_3_6) + 4 ≤ (y66_0_1) + 1 := hlqH
                  have hln : (m78_8) = (m78_9) ∧ (m78_10) = (m78_9) ∧ (m78_9) ≤ 65536 ∧ ((m78_9) = 0 ∨ 64 ≤ (m78_9)) ∧ lgq ((m78_9)) = 0 := hlnH
                  exact ih51 _ (msE hm51 (q_3493 b52) (q_3494 b53)) _ _ _ _ _ _ _ _ ((x51_5 + v39)) (rk_o (lc214_0) rfl rfl) (rk_o (lc214_1) rfl rfl) (rk_o (lc214_2) rfl rfl) (rk_o (lc214_3) rfl rfl) (rk_o (lc214_4) rfl rfl) (rk_s) H O (SD_trans (SD_trans (SD_trans (SD_trans (hD_51) (SD_gluc (ι := oz_D8clsl_22) oz_D8cls_66 hD66 eD66 (by decide +kernel)) (any_subA (lₚ := [7]) (by decide +kernel))) (SD_gluc (ι := oz_D8clsl_24) oz_D8cls_68 hD78 eD78 (by decide +kernel)) (any_subA (lₚ := [9, 12, 13, 14, 15]) (by decide +kernel))) (SD_gluc (ι := oz_D8clsl_26) oz_D8cls_70 hD113 eD113 (by decide +kernel)) (any_subA (lₚ := [3]) (by decide +kernel))) hD_c214 (any_subA (by decide +kernel))) (SD_trans (SD_trans (SD_trans (SD_trans (hN_51) (SD_gluc (ι := oz_D8clsl_22) oz_D8cls_66 hN66 eN66 (by decide +kernel)) (any_subA (lₚ := [7]) (by decide +kernel))) (SD_gluc (ι := oz_D8clsl_24) oz_D8cls_68 hN78 eN78 (by decide +kernel)) (any_subA (lₚ := [9, 12, 13, 14, 15]) (by decide +kernel))) (SD_gluc (ι := oz_D8clsl_26) oz_D8cls_70 hN113 eN113 (by decide +kernel)) (any_subA (lₚ := [3]) (by decide +kernel))) hN_c214 (any_subA (by decide +kernel))) (SF_trans (SF_trans (SF_trans (SF_trans (SF_trans (SF_trans (SF_trans (hS_51) (SF_gluc (ι := oz_D8clsl_21) oz_D8cls_65 hS56 eF56 (by decide +kernel)) (any_sub (lₚ := [(5, 6)]) (by decide +kernel))) (SF_gluc (ι := oz_D8clsl_19) oz_D8cls_63 hS61 eF61 (by decide +kernel)) (any_sub (lₚ := [(6, 1), (6, 2), (6, 3), (6, 4)]) (by decide +kernel))) (SF_gluc (ι := oz_D8clsl_22) oz_D8cls_66 hS66 eF66 (by decide +kernel)) (any_sub (lₚ := [(6, 0), (6, 1), (6, 2)]) (by decide +kernel))) (SF_gluc (ι := oz_D8clsl_23) oz_D8cls_67 hS73 eF73 (by decide +kernel)) (any_sub (lₚ := [(8, 1), (8, 2), (8, 3), (8, 4)]) (by decide +kernel))) (SF_gluc (ι := oz_D8clsl_24) oz_D8cls_68 hS78 eF78 (by decide +kernel)) (any_sub (lₚ := [(5, 1), (5, 2), (5, 3), (5, 4), (5, 5), (5, 6), (5, 8), (5, 12), (5, 13), (5, 14), (5, 15), (5, 16), (5, 17), (5, 18), (8, 0), (8, 1), (8, 2)]) (by decide +kernel))) (SF_gluc (ι := oz_D8clsl_26) oz_D8cls_70 hS113 eF113 (by decide +kernel)) (any_sub (lₚ := [(1, 0), (1, 1), (1, 2)]) (by decide +kernel))) hS_c214 (any_sub (by decide +kernel))) (SA_trans (SA_trans (SA_trans (SA_trans (SA_trans (SA_trans (SA_trans (hA_51) (SA_gluc (ι := oz_D8clsl_21) oz_D8cls_65 hA56 eA56 (by decide +kernel)) (any_subA (lₚ := [11]) (by decide +kernel))) (SA_gluc (ι := oz_D8clsl_19) oz_D8cls_63 hA61 eA61 (by decide +kernel)) (any_subA (lₚ := []) (by decide +kernel))) (SA_gluc (ι := oz_D8clsl_22) oz_D8cls_66 hA66 eA66 (by decide +kernel)) (any_subA (lₚ := [7]) (by decide +kernel))) (SA_gluc (ι := oz_D8clsl_23) oz_D8cls_67 hA73 eA73 (by decide +kernel)) (any_subA (lₚ := []) (by decide +kernel))) (SA_gluc (ι := oz_D8clsl_24) oz_D8cls_68 hA78 eA78 (by decide +kernel)) (any_subA (lₚ := [9, 11, 12, 13, 14, 15]) (by decide +kernel))) (SA_gluc (ι := oz_D8clsl_26) oz_D8cls_70 hA113 eA113 (by decide +kernel)) (any_subA (lₚ := [3]) (by decide +kernel))) hA_c214 (any_subA (by decide +kernel))) (pmc214_3) (pf_c214_6_0) (pf_c214_8_0) (pf_c214_5_8) (pf_c214_5_1) (pf_c214_5_2) (pf_c214_5_3) (mc214_3) (emc214_3) (m66_2) ((congrArg (fun q : Nat => (q : Int)) (hN_c214 7 rfl)).trans ((congrArg (fun q : Nat => (q : Int)) (show N113 7 = N78 7 from (eN113 7).trans (hN113 5 rfl))).trans ((congrArg (fun q : Nat => (q : Int)) (show N78 7 = N66 7 from (eN78 7).trans (hN78 5 rfl))).trans ((congrArg (fun q : Nat => (q : Int)) (eN66 7)).trans em66_2)))) (m78_2) ((congrArg (fun q : Nat => (q : Int)) (hN_c214 9 rfl)).trans ((congrArg (fun q : Nat => (q : Int)) (show N113 9 = N78 9 from (eN113 9))).trans ((congrArg (fun q : Nat => (q : Int)) (eN78 9)).trans em78_2))) (m78_6) ((congrArg (fun q : Nat => (q : Int)) (hN_c214 12 rfl)).trans ((congrArg (fun q : Nat => (q : Int)) (show N113 12 = N78 12 from (eN113 12))).trans ((congrArg (fun q : Nat => (q : Int)) (eN78 12)).trans em78_6))) (m78_8) ((congrArg (fun q : Nat => (q : Int)) (hN_c214 13 rfl)).trans ((congrArg (fun q : Nat => (q : Int)) (show N113 13 = N78 13 from (eN113 13))).trans ((congrArg (fun q : Nat => (q : Int)) (eN78 13)).trans em78_8))) (m78_9) ((congrArg (fun q : Nat => (q : Int)) (hN_c214 14 rfl)).trans ((congrArg (fun q : Nat => (q : Int)) (show N113 14 = N78 14 from (eN113 14))).trans ((congrArg (fun q : Nat => (q : Int)) (eN78 14)).trans em78_9))) (m78_10) ((congrArg (fun q : Nat => (q : Int)) (hN_c214 15 rfl)).trans ((congrArg (fun q : Nat => (q : Int)) (show N113 15 = N78 15 from (eN113 15))).trans ((congrArg (fun q : Nat => (q : Int)) (eN78 15)).trans em78_10))) (yc214_1_1) ((eyc214_1_1)) (yc214_1_2) ((eyc214_1_2)) (y78_3_6) ((((hS_c214 5 6 rfl).trans ((show F113 5 6 = F78 5 6 from (eF113 5 6).trans (hS113 3 6 rfl)))).trans ((eF78 5 6).trans ey78_3_6))) (y66_0_1) ((((((hS_c214 6 1 rfl).trans ((show F113 6 1 = F78 6 1 from (eF113 6 1).trans (hS113 4 1 rfl)))).trans ((show F78 6 1 = F73 6 1 from (eF78 6 1).trans (hS78 4 1 rfl)))).trans ((show F73 6 1 = F66 6 1 from (eF73 6 1)))).trans ((eF66 6 1).trans ey66_0_1))) (y78_1_1) ((((hS_c214 8 1 rfl).trans ((show F113 8 1 = F78 8 1 from (eF113 8 1)))).trans ((eF78 8 1).trans ey78_1_1))) (wc214_3) (ewc214_3) (w66_2) ((funext (hA_c214 7 rfl)).trans (((show A113 7 = A78 7 from (eA113 7).trans (funext (hA113 5 rfl)))).trans (((show A78 7 = A73 7 from (eA78 7).trans (funext (hA78 5 rfl)))).trans (((show A73 7 = A66 7 from (eA73 7))).trans ((eA66 7).trans ew66_2))))) (w78_7) ((funext (hA_c214 11 rfl)).trans (((show A113 11 = A78 11 from (eA113 11))).trans ((eA78 11).trans ew78_7))) (w78_6) ((funext (hA_c214 12 rfl)).trans (((show A113 12 = A78 12 from (eA113 12))).trans ((eA78 12).trans ew78_6))) (show inr ((x51_5 + v39)) from q_3492 b52 b53 h5 hs3 j51_2) (show 0 ≤ (yc214_1_1) ∧ (yc214_1_1) ≤ (mc214_3) ∧ (mc214_3) ≤ 65536 from jc214_0) (show 0 ≤ ((x51_5 + v39)) ∧ ((x51_5 + v39)) ≤ (u2_1) + 65536 from q_3491 b52 b53 hs3 j51_2) (show (yc214_1_2) = 0 ∨ (yc214_1_2) = 1 from jc214_1) (show 0 ≤ (y66_0_1) ∧ (y66_0_1) ≤ (m66_2) ∧ (m66_2) ≤ 65536 ∧ (y66_0_1) ≤ 16384 from q_3487 hdc hl6 pz66_0) (show 0 ≤ (y78_1_1) ∧ (y78_1_1) ≤ (m78_2) ∧ (m78_2) ≤ 65536 from pz78_0) (show (m33_1) = 2048 from j51_6) (show 0 ≤ (y78_3_6) ∧ (y78_3_6) ≤ (m78_6) ∧ (m78_6) ≤ 16384 from q_3490 pz78_1) (show (y78_3_6) = 0 ∨ (y78_3_6) + 4 ≤ (y66_0_1) + 1 from hlq) (pz78_3) (pz78_4) (show (m78_8) = (m78_9) ∧ (m78_10) = (m78_9) ∧ (m78_9) ≤ 65536 ∧ ((m78_9) = 0 ∨ 64 ≤ (m78_9)) ∧ lgq ((m78_9)) = 0 from hln) (show (y33_0_11) = 65535 ∧ (y33_0_9) = ((w10)) 0 from j51_12) (show ∃ M, ITP (TGs (((w10)) 0) (((w10)) 2) (((w10)) 6) (sc ((w4)) 0 ((u2_1)))) (0, []) (((x51_5 + v39)), M) ∧ RAP ((u1_2)) ((w3)) ((u1_1)) ((yc214_1_2)) ((wc214_3)) ((yc214_1_1)) (TGm ++ M) by assumption) rfl
                have hsp := ev117
                refine w_ifle (t := 214) rfl rfl (show inr (v117) from qv117) (fun b121 => ?_) (fun b121 => ?_)
                · have : RAP ((u1_2)) ((w3)) ((u1_1)) ((y113_1_2)) ((w113_2)) ((y113_1_1)) ((TGm ++ Mx) ++ (RX ++ TGp (((w10)) 6))) := by first | (have g_ := hsr; have h2 := pz107_2 (by omega); rw [← hsr] at h2; exact RAP_c (RAP_trans hR1 (RAP_trans hn1 h2)) (by rw [show TGp (((w10)) 6) = _ from if_neg (by omega)]; simp only [List.append_assoc]; rfl)) | (rw [show TGp (((w10)) 6) = [] from if_pos (by omega), List.append_nil]; exact hR1)
                  exact hc214  _ _ _ _ _ _ _ _  ((rk_o (rk_o (l51_0) rfl rfl) rfl rfl).trans (congrArg (fun q : Nat => some (Value.ref q)) (((((show D113 0 = D78 0 from (eD113 0).trans (hD113 0 rfl))).trans ((show D78 0 = D66 0 from (eD78 0).trans (hD78 0 rfl)))).trans ((show D66 0 = D_51 0 from (eD66 0))))).symm)) ((rk_o (rk_o (l51_1) rfl rfl) rfl rfl).trans (congrArg (fun q : Nat => some (Value.ref q)) (((((show D113 1 = D78 1 from (eD113 1).trans (hD113 1 rfl))).trans ((show D78 1 = D66 1 from (eD78 1)))).trans ((show D66 1 = D_51 1 from (eD66 1))))).symm)) ((rk_o (rk_o (l51_2) rfl rfl) rfl rfl).trans (congrArg (fun q : Nat => some (Value.ref q)) (((((show D113 2 = D78 2 from (eD113 2))).trans ((show D78 2 = D66 2 from (eD78 2)))).trans ((show D66 2 = D_51 2 from (eD66 2))))).symm)) ((rk_o (rk_o (l51_3) rfl rfl) rfl rfl).trans (congrArg (fun q : Nat => some (Value.ref q)) (((((show D113 6 = D78 6 from (eD113 6).trans (hD113 4 rfl))).trans ((show D78 6 = D66 6 from (eD78 6).trans (hD78 4 rfl)))).trans ((show D66 6 = D_51 6 from (eD66 6).trans (hD66 0 rfl))))).symm)) (rk_o (rk_o (l51_4) rfl rfl) rfl rfl) (rk_o (rk_o (l51_5) rfl rfl) rfl rfl) H O (SD_refl) (SD_refl) (SF_refl) (SA_refl) (pf113_1_0) (m113_2) ((congrArg (fun q : Nat => (q : Int)) (eN113 3)).trans em113_2) (y113_1_1) (((eF113 1 1).trans ey113_1_1)) (y113_1_2) (((eF113 1 2).trans ey113_1_2)) (w113_2) ((eA113 3).trans ew113_2) (show 0 ≤ (y113_1_1) ∧ (y113_1_1) ≤ (m113_2) ∧ (m113_2) ≤ 65536 from pz113_0) (show (y113_1_2) = 0 ∨ (y113_1_2) = 1 from hbu0) (show RAP ((u1_2)) ((w3)) ((u1_1)) ((y113_1_2)) ((w113_2)) ((y113_1_1)) ((TGm ++ Mx) ++ (RX ++ TGp (((w10)) 6))) by assumption)
                · refine Ew_of (pcₚ := 183) (fun _ => x_aload_n rfl (rk_o (rk_o (l51_1) rfl rfl) rfl rfl)) ?_
                  refine Ew_of (pcₚ := 184) (fun _ => x_aload_n rfl (rk_o (rk_o (l51_0) rfl rfl) rfl rfl)) ?_
                  refine Ew_stk (show ([.ref (D_51 0), .ref (D_51 1)] : List Value) = [.ref (D113 0), .ref (D113 1)] by rw [show D113 0 = D_51 0 from ((((show D113 0 = D78 0 from (eD113 0).trans (hD113 0 rfl))).trans ((show D78 0 = D66 0 from (eD78 0).trans (hD78 0 rfl)))).trans ((show D66 0 = D_51 0 from (eD66 0)))), show D113 1 = D_51 1 from ((((show D113 1 = D78 1 from (eD113 1).trans (hD113 1 rfl))).trans ((show D78 1 = D66 1 from (eD78 1)))).trans ((show D66 1 = D_51 1 from (eD66 1))))]) ?_
                  refine v_g H (o := 0) (v := .ref (D113 10)) rfl rfl rfl rfl rfl (vrf ((mF113 0 0 rfl).trans ((pf10).trans (congrArg (fun q : Nat => (q : Int)) (mD113 10 rfl).symm)))) ?_
                  refine Ew_of (pcₚ := 189) (fun _ => x_bipush (z := 6) rfl (by decide)) ?_
                  refine v_lI H (o := 10) rfl rfl rfl rfl (n := n10) ((congrArg (fun q : Nat => (q : Int)) (mN113 10 rfl)).trans (en10)) (show 0 ≤ 6 ∧ 6 < n10 from q_3489 h4 r10) (fun v122 ev122 qv122 => ?_)
                  have ev122 : (w10) (6) = v122 := (congrFun ((funext (mA113 10 rfl)).trans (ew10)) (6)).symm.trans ev122
                  have hsq := ev122
                  refine Ew_of (pcₚ := 192) (fun _ => x_bipush (z := 8) rfl (by decide)) ?_
                  refine w_ishlE rfl ?_
                  have g123 : inr (slI (v122) (8)) := toI_inr _
                  refine Ew_of (pcₚ := 196) (fun _ => x_sipush (z := 254) rfl (by decide)) ?_
                  refine w_iorE rfl ?_
                  have g124 : inr (orI ((slI (v122) (8))) (254)) := toI_inr _
                  have hv : ((orI ((slI (v122) (8))) (254))) = ((w10)) 6 * 256 + 254 := by rw [hsq]; exact or8 (by omega) (by omega)
                  have hvr : inr (((orI ((slI (v122) (8))) (254)))) := g124
                  refine w_i2l rfl (show inr ((orI ((slI (v122) (8))) (254))) from hvr) ?_
                  refine Ew_of (pcₚ := 199) (fun _ => x_iconst rfl) ?_
                  refine v_inv H (o := 1) rfl rfl rfl rfl rfl rfl (by rfl) (C160 (D := puc 1537 D113) (N := puc 1537 N113) (HW_subc H oz_D8cls_56 oz_D8cls_62) (pf113_1_0) (m113_2) ((congrArg (fun q : Nat => (q : Int)) (eN113 3)).trans em113_2) (y113_1_1) (((eF113 1 1).trans ey113_1_1)) (y113_1_2) (((eF113 1 2).trans ey113_1_2)) (w113_2) ((eA113 3).trans ew113_2) (show inrJ ((orI ((slI (v122) (8))) (254))) from q_2579 hvr) (show inr (4) from q_216) (show 0 ≤ (y113_1_1) ∧ (y113_1_1) ≤ (m113_2) ∧ (m113_2) ≤ 65536 from pz113_0) (show 0 ≤ (4) ∧ (4) ≤ 8 from q_623) (fun σ125 D125ₚ N125ₚ F125ₚ A125ₚ c125 s125 Hₚ Oₚ hD125 hN125 hS125 hA125 pm125_1 m125_1 em125_1 y125_0_1 ey125_0_1 y125_0_2 ey125_0_2 w125_1 ew125_1 pz125_0 pz125_1 pz125_2 => ⟨rfl, ?_⟩))
                  refine v_backMc (c := (((c_51 + c66) + c78) + c113)) (s := (((s_51 + s66) + s78) + s113)) H oz_D8cls_56 oz_D8cls_62 Hₚ Oₚ hD125 oz_D8cls_44 (fun D125 N125 F125 A125 H Oₚ eD125 eN125 eF125 eA125 => ?_)
                  have O := OUT_trans O Oₚ
                  -- Row.addNumber
                  have cF125 : SF oz_D8clsl_16 F F125 := SF_trans (cF113) (SF_gluc (ι := oz_D8clsl_18) oz_D8cls_62 hS125 eF125 (by decide +kernel)) (any_sub (lₚ := [(1, 0), (1, 1), (1, 2)]) (by decide +kernel))
                  have mF125 := SFm_of cF125 oz_D8cls_60
                  have cA125 : SA oz_D8clsl_17 A A125 := SA_trans (cA113) (SA_gluc (ι := oz_D8clsl_18) oz_D8cls_62 hA125 eA125 (by decide +kernel)) (any_subA (lₚ := [3]) (by decide +kernel))
                  have mA125 := SAm_of cA125 oz_D8cls_61
                  have cD125 : SD oz_D8clsl_17 D D125 := SD_trans (cD113) (SD_gluc (ι := oz_D8clsl_18) oz_D8cls_62 hD125 eD125 (by decide +kernel)) (any_subA (lₚ := [3]) (by decide +kernel))
                  have mD125 := SDm_of cD125 oz_D8cls_61
                  have cN125 : SD oz_D8clsl_17 N N125 := SD_trans (cN113) (SD_gluc (ι := oz_D8clsl_18) oz_D8cls_62 hN125 eN125 (by decide +kernel)) (any_subA (lₚ := [3]) (by decide +kernel))
                  have mN125 := SDm_of cN125 oz_D8cls_61
                  have pf125_1_0 : F125 1 0 = (D125 3 : Int) := (eF125 1 0).trans (pm125_1.trans (congrArg (fun q : Nat => (q : Int)) (eD125 3).symm))
                  have pf125_5_1 : F125 5 1 = (D125 13 : Int) := ((show F125 5 1 = F113 5 1 from (eF125 5 1))).trans ((pf113_5_1).trans (congrArg (fun q : Nat => (q : Int)) ((show D125 13 = D113 13 from (eD125 13))).symm))
                  have pf125_5_2 : F125 5 2 = (D125 14 : Int) := ((show F125 5 2 = F113 5 2 from (eF125 5 2))).trans ((pf113_5_2).trans (congrArg (fun q : Nat => (q : Int)) ((show D125 14 = D113 14 from (eD125 14))).symm))
                  have pf125_5_3 : F125 5 3 = (D125 15 : Int) := ((show F125 5 3 = F113 5 3 from (eF125 5 3))).trans ((pf113_5_3).trans (congrArg (fun q : Nat => (q : Int)) ((show D125 15 = D113 15 from (eD125 15))).symm))
                  have pf125_5_7 : F125 5 7 = (D125 11 : Int) := ((show F125 5 7 = F113 5 7 from (eF125 5 7))).trans ((pf113_5_7).trans (congrArg (fun q : Nat => (q : Int)) ((show D125 11 = D113 11 from (eD125 11))).symm))
                  have pf125_5_8 : F125 5 8 = (D125 12 : Int) := ((show F125 5 8 = F113 5 8 from (eF125 5 8))).trans ((pf113_5_8).trans (congrArg (fun q : Nat => (q : Int)) ((show D125 12 = D113 12 from (eD125 12))).symm))
                  have pf125_6_0 : F125 6 0 = (D125 7 : Int) := ((show F125 6 0 = F113 6 0 from (eF125 6 0))).trans ((pf113_6_0).trans (congrArg (fun q : Nat => (q : Int)) ((show D125 7 = D113 7 from (eD125 7))).symm))
                  have pf125_8_0 : F125 8 0 = (D125 9 : Int) := ((show F125 8 0 = F113 8 0 from (eF125 8 0))).trans ((pf113_8_0).trans (congrArg (fun q : Nat => (q : Int)) ((show D125 9 = D113 9 from (eD125 9))).symm))
                  have r126 : (0 : Int) ≤ m125_1 ∧ m125_1 ≤ 1000000 := nleE (H.nle 3 (ltn len_V201_Row_Row_oz_D8cls rfl)) (show (N125 3 : Int) = m125_1 from (congrArg (fun q : Nat => (q : Int)) (eN125 3)).trans em125_1)
                  have r127 : (-2147483648 : Int) ≤ y125_0_1 ∧ y125_0_1 ≤ 2147483647 := rngE (show (-2147483648 : Int) ≤ F125 1 1 ∧ F125 1 1 ≤ 2147483647 from H.krg 1 1 (ltn len_V201_Row_Row_oz_D8cls rfl)) (show F125 1 1 = y125_0_1 from ((eF125 1 1).trans ey125_0_1))
                  have r128 : (0 : Int) ≤ y125_0_2 ∧ y125_0_2 ≤ 1 := rngE (show (0 : Int) ≤ F125 1 2 ∧ F125 1 2 ≤ 1 from H.krg 1 2 (ltn len_V201_Row_Row_oz_D8cls rfl)) (show F125 1 2 = y125_0_2 from ((eF125 1 2).trans ey125_0_2))
                  have hn1 := pz125_2
                  rw [hv] at hn1
                  try clear pz125_1
                  refine Ew_of (pcₚ := 203) (fun _ => x_aload_n rfl (rk_o (rk_o (l51_1) rfl rfl) rfl rfl)) ?_
                  refine Ew_of (pcₚ := 204) (fun _ => x_iconst rfl) ?_
                  refine Ew_of (pcₚ := 205) (fun _ => x_aload_n rfl (rk_o (rk_o (l51_0) rfl rfl) rfl rfl)) ?_
                  refine Ew_stk (show ([.ref (D_51 0), I (0), .ref (D_51 1)] : List Value) = [.ref (D125 0), I (0), .ref (D125 1)] by rw [show D125 0 = D_51 0 from (((((show D125 0 = D113 0 from (eD125 0))).trans ((show D113 0 = D78 0 from (eD113 0).trans (hD113 0 rfl)))).trans ((show D78 0 = D66 0 from (eD78 0).trans (hD78 0 rfl)))).trans ((show D66 0 = D_51 0 from (eD66 0)))), show D125 1 = D_51 1 from (((((show D125 1 = D113 1 from (eD125 1).trans (hD125 0 rfl))).trans ((show D113 1 = D78 1 from (eD113 1).trans (hD113 1 rfl)))).trans ((show D78 1 = D66 1 from (eD78 1)))).trans ((show D66 1 = D_51 1 from (eD66 1))))]) ?_
                  refine v_g H (o := 0) (v := .ref (D125 10)) rfl rfl rfl rfl rfl (vrf ((mF125 0 0 rfl).trans ((pf10).trans (congrArg (fun q : Nat => (q : Int)) (mD125 10 rfl).symm)))) ?_
                  refine Ew_of (pcₚ := 210) (fun _ => x_bipush (z := 6) rfl (by decide)) ?_
                  refine v_lI H (o := 10) rfl rfl rfl rfl (n := n10) ((congrArg (fun q : Nat => (q : Int)) (mN125 10 rfl)).trans (en10)) (show 0 ≤ 6 ∧ 6 < n10 from q_3489 h4 r10) (fun v129 ev129 qv129 => ?_)
                  have ev129 : (w10) (6) = v129 := (congrFun ((funext (mA125 10 rfl)).trans (ew10)) (6)).symm.trans ev129
                  have hsr := ev129
                  refine v_inv H (o := 1) rfl rfl rfl rfl rfl rfl (by rfl) (C162 (D := puc 1537 D125) (N := puc 1537 N125) (HW_subc H oz_D8cls_57 oz_D8cls_62) (pf125_1_0) (m125_1) ((congrArg (fun q : Nat => (q : Int)) (eN125 3)).trans em125_1) (y125_0_1) (((eF125 1 1).trans ey125_0_1)) (y125_0_2) (((eF125 1 2).trans ey125_0_2)) (w125_1) ((eA125 3).trans ew125_1) (show inr (0) from q_2) (show inr (v129) from qv129) (show 0 ≤ (y125_0_1) ∧ (y125_0_1) ≤ (m125_1) ∧ (m125_1) ≤ 65536 from pz125_0) (fun σ130 D130ₚ N130ₚ F130ₚ A130ₚ c130 s130 Hₚ Oₚ hD130 hN130 hS130 hA130 pm130_1 m130_1 em130_1 y130_0_1 ey130_0_1 y130_0_2 ey130_0_2 w130_1 ew130_1 pz130_0 pz130_1 pz130_2 => ⟨rfl, ?_⟩))
                  refine v_backMc (c := ((((c_51 + c66) + c78) + c113) + c125)) (s := ((((s_51 + s66) + s78) + s113) + s125)) H oz_D8cls_57 oz_D8cls_62 Hₚ Oₚ hD130 oz_D8cls_44 (fun D130 N130 F130 A130 H Oₚ eD130 eN130 eF130 eA130 => ?_)
                  have O := OUT_trans O Oₚ
                  -- Row.addSame
                  have cF130 : SF oz_D8clsl_16 F F130 := SF_trans (cF125) (SF_gluc (ι := oz_D8clsl_18) oz_D8cls_62 hS130 eF130 (by decide +kernel)) (any_sub (lₚ := [(1, 0), (1, 1), (1, 2)]) (by decide +kernel))
                  have mF130 := SFm_of cF130 oz_D8cls_60
                  have cA130 : SA oz_D8clsl_17 A A130 := SA_trans (cA125) (SA_gluc (ι := oz_D8clsl_18) oz_D8cls_62 hA130 eA130 (by decide +kernel)) (any_subA (lₚ := [3]) (by decide +kernel))
                  have mA130 := SAm_of cA130 oz_D8cls_61
                  have cD130 : SD oz_D8clsl_17 D D130 := SD_trans (cD125) (SD_gluc (ι := oz_D8clsl_18) oz_D8cls_62 hD130 eD130 (by decide +kernel)) (any_subA (lₚ := [3]) (by decide +kernel))
                  have mD130 := SDm_of cD130 oz_D8cls_61
                  have cN130 : SD oz_D8clsl_17 N N130 := SD_trans (cN125) (SD_gluc (ι := oz_D8clsl_18) oz_D8cls_62 hN130 eN130 (by decide +kernel)) (any_subA (lₚ := [3]) (by decide +kernel))
                  have mN130 := SDm_of cN130 oz_D8cls_61
                  have pf130_1_0 : F130 1 0 = (D130 3 : Int) := (eF130 1 0).trans (pm130_1.trans (congrArg (fun q : Nat => (q : Int)) (eD130 3).symm))
                  have pf130_5_1 : F130 5 1 = (D130 13 : Int) := ((show F130 5 1 = F125 5 1 from (eF130 5 1))).trans ((pf125_5_1).trans (congrArg (fun q : Nat => (q : Int)) ((show D130 13 = D125 13 from (eD130 13))).symm))
                  have pf130_5_2 : F130 5 2 = (D130 14 : Int) := ((show F130 5 2 = F125 5 2 from (eF130 5 2))).trans ((pf125_5_2).trans (congrArg (fun q : Nat => (q : Int)) ((show D130 14 = D125 14 from (eD130 14))).symm))
                  have pf130_5_3 : F130 5 3 = (D130 15 : Int) := ((show F130 5 3 = F125 5 3 from (eF130 5 3))).trans ((pf125_5_3).trans (congrArg (fun q : Nat => (q : Int)) ((show D130 15 = D125 15 from (eD130 15))).symm))
                  have pf130_5_7 : F130 5 7 = (D130 11 : Int) := ((show F130 5 7 = F125 5 7 from (eF130 5 7))).trans ((pf125_5_7).trans (congrArg (fun q : Nat => (q : Int)) ((show D130 11 = D125 11 from (eD130 11))).symm))
                  have pf130_5_8 : F130 5 8 = (D130 12 : Int) := ((show F130 5 8 = F125 5 8 from (eF130 5 8))).trans ((pf125_5_8).trans (congrArg (fun q : Nat => (q : Int)) ((show D130 12 = D125 12 from (eD130 12))).symm))
                  have pf130_6_0 : F130 6 0 = (D130 7 : Int) := ((show F130 6 0 = F125 6 0 from (eF130 6 0))).trans ((pf125_6_0).trans (congrArg (fun q : Nat => (q : Int)) ((show D130 7 = D125 7 from (eD130 7))).symm))
                  have pf130_8_0 : F130 8 0 = (D130 9 : Int) := ((show F130 8 0 = F125 8 0 from (eF130 8 0))).trans ((pf125_8_0).trans (congrArg (fun q : Nat => (q : Int)) ((show D130 9 = D125 9 from (eD130 9))).symm))
                  have r131 : (0 : Int) ≤ m130_1 ∧ m130_1 ≤ 1000000 := nleE (H.nle 3 (ltn len_V201_Row_Row_oz_D8cls rfl)) (show (N130 3 : Int) = m130_1 from (congrArg (fun q : Nat => (q : Int)) (eN130 3)).trans em130_1)
                  have r132 : (-2147483648 : Int) ≤ y130_0_1 ∧ y130_0_1 ≤ 2147483647 := rngE (show (-2147483648 : Int) ≤ F130 1 1 ∧ F130 1 1 ≤ 2147483647 from H.krg 1 1 (ltn len_V201_Row_Row_oz_D8cls rfl)) (show F130 1 1 = y130_0_1 from ((eF130 1 1).trans ey130_0_1))
                  have r133 : (0 : Int) ≤ y130_0_2 ∧ y130_0_2 ≤ 1 := rngE (show (0 : Int) ≤ F130 1 2 ∧ F130 1 2 ≤ 1 from H.krg 1 2 (ltn len_V201_Row_Row_oz_D8cls rfl)) (show F130 1 2 = y130_0_2 from ((eF130 1 2).trans ey130_0_2))
                  have : RAP ((u1_2)) ((w3)) ((u1_1)) ((y130_0_2)) ((w130_1)) ((y130_0_1)) ((TGm ++ Mx) ++ (RX ++ TGp (((w10)) 6))) := by first | (have g_ := hsr; have h2 := pz130_2 (by omega); rw [← hsr] at h2; exact RAP_c (RAP_trans hR1 (RAP_trans hn1 h2)) (by rw [show TGp (((w10)) 6) = _ from if_neg (by omega)]; simp only [List.append_assoc]; rfl)) | (rw [show TGp (((w10)) 6) = [] from if_pos (by omega), List.append_nil]; exact hR1)
                  exact hc214  _ _ _ _ _ _ _ _  ((rk_o (rk_o (l51_0) rfl rfl) rfl rfl).trans (congrArg (fun q : Nat => some (Value.ref q)) (((((((show D130 0 = D125 0 from (eD130 0))).trans ((show D125 0 = D113 0 from (eD125 0)))).trans ((show D113 0 = D78 0 from (eD113 0).trans (hD113 0 rfl)))).trans ((show D78 0 = D66 0 from (eD78 0).trans (hD78 0 rfl)))).trans ((show D66 0 = D_51 0 from (eD66 0))))).symm)) ((rk_o (rk_o (l51_1) rfl rfl) rfl rfl).trans (congrArg (fun q : Nat => some (Value.ref q)) (((((((show D130 1 = D125 1 from (eD130 1).trans (hD130 0 rfl))).trans ((show D125 1 = D113 1 from (eD125 1).trans (hD125 0 rfl)))).trans ((show D113 1 = D78 1 from (eD113 1).trans (hD113 1 rfl)))).trans ((show D78 1 = D66 1 from (eD78 1)))).trans ((show D66 1 = D_51 1 from (eD66 1))))).symm)) ((rk_o (rk_o (l51_2) rfl rfl) rfl rfl).trans (congrArg (fun q : Nat => some (Value.ref q)) (((((((show D130 2 = D125 2 from (eD130 2))).trans ((show D125 2 = D113 2 from (eD125 2)))).trans ((show D113 2 = D78 2 from (eD113 2)))).trans ((show D78 2 = D66 2 from (eD78 2)))).trans ((show D66 2 = D_51 2 from (eD66 2))))).symm)) ((rk_o (rk_o (l51_3) rfl rfl) rfl rfl).trans (congrArg (fun q : Nat => some (Value.ref q)) (((((((show D130 6 = D125 6 from (eD130 6))).trans ((show D125 6 = D113 6 from (eD125 6)))).trans ((show D113 6 = D78 6 from (eD113 6).trans (hD113 4 rfl)))).trans ((show D78 6 = D66 6 from (eD78 6).trans (hD78 4 rfl)))).trans ((show D66 6 = D_51 6 from (eD66 6).trans (hD66 0 rfl))))).symm)) (rk_o (rk_o (l51_4) rfl rfl) rfl rfl) (rk_o (rk_o (l51_5) rfl rfl) rfl rfl) H O (SD_trans (SD_trans (SD_refl) (SD_gluc (ι := oz_D8clsl_18) oz_D8cls_62 hD125 eD125 (by decide +kernel)) (any_subA (lₚ := [3]) (by decide +kernel))) (SD_gluc (ι := oz_D8clsl_18) oz_D8cls_62 hD130 eD130 (by decide +kernel)) (any_subA (lₚ := [3]) (by decide +kernel))) (SD_trans (SD_trans (SD_refl) (SD_gluc (ι := oz_D8clsl_18) oz_D8cls_62 hN125 eN125 (by decide +kernel)) (any_subA (lₚ := [3]) (by decide +kernel))) (SD_gluc (ι := oz_D8clsl_18) oz_D8cls_62 hN130 eN130 (by decide +kernel)) (any_subA (lₚ := [3]) (by decide +kernel))) (SF_trans (SF_trans (SF_refl) (SF_gluc (ι := oz_D8clsl_18) oz_D8cls_62 hS125 eF125 (by decide +kernel)) (any_sub (lₚ := [(1, 0), (1, 1), (1, 2)]) (by decide +kernel))) (SF_gluc (ι := oz_D8clsl_18) oz_D8cls_62 hS130 eF130 (by decide +kernel)) (any_sub (lₚ := [(1, 0), (1, 1), (1, 2)]) (by decide +kernel))) (SA_trans (SA_trans (SA_refl) (SA_gluc (ι := oz_D8clsl_18) oz_D8cls_62 hA125 eA125 (by decide +kernel)) (any_subA (lₚ := [3]) (by decide +kernel))) (SA_gluc (ι := oz_D8clsl_18) oz_D8cls_62 hA130 eA130 (by decide +kernel)) (any_subA (lₚ := [3]) (by decide +kernel))) (pf130_1_0) (m130_1) ((congrArg (fun q : Nat => (q : Int)) (eN130 3)).trans em130_1) (y130_0_1) (((eF130 1 1).trans ey130_0_1)) (y130_0_2) (((eF130 1 2).trans ey130_0_2)) (w130_1) ((eA130 3).trans ew130_1) (show 0 ≤ (y130_0_1) ∧ (y130_0_1) ≤ (m130_1) ∧ (m130_1) ≤ 65536 from pz130_0) (show (y130_0_2) = 0 ∨ (y130_0_2) = 1 by omega) (show RAP ((u1_2)) ((w3)) ((u1_1)) ((y130_0_2)) ((w130_1)) ((y130_0_1)) ((TGm ++ Mx) ++ (RX ++ TGp (((w10)) 6))) by assumption)

