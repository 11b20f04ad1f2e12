theorem len_V11_oz_R2vcls : (V11).length = 10 := by decide +kernel
theorem oz_R2vcls_1 : vsub V11 V24 [] = true := by decide +kernel
theorem oz_R2vcls_2 : vsub V11 V27_Row [2] = true := by decide +kernel
theorem oz_R2vcls_3 : vsub V11 V49_Br [3] = true := by decide +kernel
theorem oz_R2vcls_4 : vsub V11 V27_Row [4] = true := by decide +kernel
theorem oz_R2vcls_5 : vsub V11 V49_Br [5] = true := by decide +kernel
theorem oz_R2vcls_6 : vsub V11 V27_Row [6] = true := by decide +kernel
theorem oz_R2vcls_7 : vsub V11 V49_Br [7] = true := by decide +kernel
theorem oz_R2vcls_8 : vsub V11 V27_Row [8] = true := by decide +kernel
theorem oz_R2vcls_9 : vsub V11 V49_Br [9] = true := by decide +kernel
def oz_R2vclsl_0 : List (Nat × Nat) := []
theorem oz_R2vcls_10 : (oz_R2vclsl_0).all (fun p => !tbz 0 (Nat.add (Nat.mul 32 p.1) p.2)) = true := by decide +kernel
def oz_R2vclsl_1 : List Nat := []
theorem oz_R2vcls_11 : (oz_R2vclsl_1).all (fun p => !tbz 0 p) = true := by decide +kernel
theorem oz_R2vcls_12 : okc oz_R2vclsl_1 0 = true := by decide +kernel
def oz_R2vclsl_2 : List Nat := [2]
theorem oz_R2vcls_13 : okc oz_R2vclsl_2 2 = true := by decide +kernel
def oz_R2vclsl_3 : List Nat := [3]
theorem oz_R2vcls_14 : okc oz_R2vclsl_3 3 = true := by decide +kernel
def oz_R2vclsl_4 : List Nat := [4]
theorem oz_R2vcls_15 : okc oz_R2vclsl_4 4 = true := by decide +kernel
def oz_R2vclsl_5 : List Nat := [5]
theorem oz_R2vcls_16 : okc oz_R2vclsl_5 5 = true := by decide +kernel
def oz_R2vclsl_6 : List Nat := [6]
theorem oz_R2vcls_17 : okc oz_R2vclsl_6 6 = true := by decide +kernel
def oz_R2vclsl_7 : List Nat := [7]
theorem oz_R2vcls_18 : okc oz_R2vclsl_7 7 = true := by decide +kernel
def oz_R2vclsl_8 : List Nat := [8]
theorem oz_R2vcls_19 : okc oz_R2vclsl_8 8 = true := by decide +kernel
def oz_R2vclsl_9 : List Nat := [9]
theorem oz_R2vcls_20 : okc oz_R2vclsl_9 9 = true := by decide +kernel

theorem C11p {σE : rS} {D N : Nat → Nat} {F : hF} {A : hA} {d c s : Nat} {Q : wQ} (H : HW V11 σE D N F A) {a1 a2 a3 a4 : Int} (pf1 : HID (F 0 0 = (D 1 : Int))) (pf2 : HID (A 1 0 = (D 2 : Int))) (pf3 : HID (F 2 0 = (D 3 : Int))) (pf4 : HID (A 1 1 = (D 4 : Int))) (pf5 : HID (F 4 0 = (D 5 : Int))) (pf6 : HID (A 1 2 = (D 6 : Int))) (pf7 : HID (F 6 0 = (D 7 : Int))) (pf8 : HID (A 1 3 = (D 8 : Int))) (pf9 : HID (F 8 0 = (D 9 : Int))) (n1 : Int) (en1 : HID ((N 1 : Int) = n1)) (n3 : Int) (en3 : HID ((N 3 : Int) = n3)) (n5 : Int) (en5 : HID ((N 5 : Int) = n5)) (n7 : Int) (en7 : HID ((N 7 : Int) = n7)) (n9 : Int) (en9 : HID ((N 9 : Int) = n9)) (u2_1 : Int) (eu2_1 : HID (F 2 1 = u2_1)) (u4_1 : Int) (eu4_1 : HID (F 4 1 = u4_1)) (u6_1 : Int) (eu6_1 : HID (F 6 1 = u6_1)) (u8_1 : Int) (eu8_1 : HID (F 8 1 = u8_1)) (w3 : Int → Int) (ew3 : A 3 = w3) (w5 : Int → Int) (ew5 : A 5 = w5) (w7 : Int → Int) (ew7 : A 7 = w7) (w9 : Int → Int) (ew9 : A 9 = w9) (h0 : inr (a1)) (h1 : inr (a2)) (h2 : inr (a3)) (h3 : inr (a4)) (h4 : (n1) = 4) (h5 : 0 ≤ (u2_1) ∧ (u2_1) ≤ (n3) ∧ (n3) ≤ 65536) (h6 : 0 ≤ (u4_1) ∧ (u4_1) ≤ (n5) ∧ (n5) ≤ 65536) (h7 : 0 ≤ (u6_1) ∧ (u6_1) ≤ (n7) ∧ (n7) ≤ 65536) (h8 : 0 ≤ (u8_1) ∧ (u8_1) ≤ (n9) ∧ (n9) ≤ 65536) (k : ∀ (z : Int) (σ : rS) (Fₚ : hF) (Aₚ : hA), HW V11 σ D N Fₚ Aₚ → OUT (V11).length D N σE c s D N σ c s → SF [] F Fₚ → SA [] A Aₚ → (inr (z)) → (0 ≤ (a1) ∧ (a1) ≤ 3 ∨ (z) = 0) → (IMP ((a1) = 0) ((z) = NSL (prL (sc ((w3)) 0 ((u2_1))) ((a2)) ((a3))) ((a4)))) → (IMP ((a1) = 1) ((z) = NSL (prL (sc ((w5)) 0 ((u4_1))) ((a2)) ((a3))) ((a4)))) → (IMP ((a1) = 2) ((z) = NSL (prL (sc ((w7)) 0 ((u6_1))) ((a2)) ((a3))) ((a4)))) → (IMP ((a1) = 3) ((z) = NSL (prL (sc ((w9)) 0 ((u8_1))) ((a2)) ((a3))) ((a4)))) → Q (some (I z)) σ c s) : Ew 11 (d + 3) 0 (rargs 0 [.ref (D 0), I a1, I a2, I a3, I a4]) [] σE c s Q := by
  have O := OUT_refl (n := (V11).length) (D := D) (N := N) (σ := σE) (c := c) (s := s)
  have HE := H
  have r1 : HID ((-2147483648 : Int) ≤ u2_1 ∧ u2_1 ≤ 2147483647) := krg_e (show (-2147483648 : Int) ≤ F 2 1 ∧ F 2 1 ≤ 2147483647 from H.krg 2 1 (ltn len_V11_oz_R2vcls rfl)) (show F 2 1 = u2_1 from (eu2_1))
  have r2 : HID ((-2147483648 : Int) ≤ u4_1 ∧ u4_1 ≤ 2147483647) := krg_e (show (-2147483648 : Int) ≤ F 4 1 ∧ F 4 1 ≤ 2147483647 from H.krg 4 1 (ltn len_V11_oz_R2vcls rfl)) (show F 4 1 = u4_1 from (eu4_1))
  have r3 : HID ((-2147483648 : Int) ≤ u6_1 ∧ u6_1 ≤ 2147483647) := krg_e (show (-2147483648 : Int) ≤ F 6 1 ∧ F 6 1 ≤ 2147483647 from H.krg 6 1 (ltn len_V11_oz_R2vcls rfl)) (show F 6 1 = u6_1 from (eu6_1))
  have r4 : HID ((-2147483648 : Int) ≤ u8_1 ∧ u8_1 ≤ 2147483647) := krg_e (show (-2147483648 : Int) ≤ F 8 1 ∧ F 8 1 ≤ 2147483647 from H.krg 8 1 (ltn len_V11_oz_R2vcls rfl)) (show F 8 1 = u8_1 from (eu8_1))
  have r5 : HID ((0 : Int) ≤ n1 ∧ n1 ≤ 1000000) := nrng (H.nle 1 (ltn len_V11_oz_R2vcls rfl)) (show (N 1 : Int) = n1 from en1)
  have r6 : HID ((0 : Int) ≤ n3 ∧ n3 ≤ 1000000) := nrng (H.nle 3 (ltn len_V11_oz_R2vcls rfl)) (show (N 3 : Int) = n3 from en3)
  have r7 : HID ((0 : Int) ≤ n5 ∧ n5 ≤ 1000000) := nrng (H.nle 5 (ltn len_V11_oz_R2vcls rfl)) (show (N 5 : Int) = n5 from en5)
  have r8 : HID ((0 : Int) ≤ n7 ∧ n7 ≤ 1000000) := nrng (H.nle 7 (ltn len_V11_oz_R2vcls rfl)) (show (N 7 : Int) = n7 from en7)
  have r9 : HID ((0 : Int) ≤ n9 ∧ n9 ≤ 1000000) := nrng (H.nle 9 (ltn len_V11_oz_R2vcls rfl)) (show (N 9 : Int) = n9 from en9)
  refine Ew_of (pcₚ := 1) (fun _ => x_iload_n rfl rfl) ?_
  refine w_stat24 rfl rfl (by rfl) (C24x (D := puc 0 D) (N := puc 0 N) (HW_subc H oz_R2vcls_1 oz_R2vcls_12) (show inr (a1) from h0) (fun z10 σ10 F10ₚ A10ₚ Hₚ Oₚ hS10 hA10 pz10_0 pz10_1 => ⟨rretB rfl pz10_0, ?_⟩))
  refine v_backc (c := c) (s := s) H oz_R2vcls_1 oz_R2vcls_12 Hₚ Oₚ (fun F10 A10 H Oₚ eF10 eA10 => ?_)
  have O := OUT_trans O Oₚ
  -- PackHouse.isRow
  have cF10 : SF oz_R2vclsl_0 F F10 := SF_trans (SF_refl) (SF_gluc (ι := oz_R2vclsl_1) oz_R2vcls_12 hS10 eF10 (by decide +kernel)) (any_sub (lₚ := []) (by decide +kernel))
  have mF10 := SFm_of cF10 oz_R2vcls_10
  have cA10 : SA oz_R2vclsl_1 A A10 := SA_trans (SA_refl) (SA_gluc (ι := oz_R2vclsl_1) oz_R2vcls_12 hA10 eA10 (by decide +kernel)) (any_subA (lₚ := []) (by decide +kernel))
  have mA10 := SAm_of cA10 oz_R2vcls_11
  refine w_ifne (t := 9) rfl rfl (show inr (z10) from q_138 pz10_0) (fun b11 => ?_) (fun b11 => ?_)
  · refine Ew_of (pcₚ := 10) (fun _ => x_aload_n rfl rfl) ?_
    refine v_g H (o := 0) (v := .ref (D 1)) rfl rfl rfl rfl rfl (vrf ((mF10 0 0 rfl).trans (pf1))) ?_
    refine Ew_of (pcₚ := 14) (fun _ => x_iload_n rfl rfl) ?_
    rcases (show a1 = 0 ∨ a1 = 1 ∨ a1 = 2 ∨ a1 = 3 by omega) with b12 | b12 | b12 | b12
    · refine v_lR H (o := 1) rfl rfl rfl rfl rfl (n := n1) (en1) (show 0 ≤ a1 ∧ a1 < n1 from q_4724 (HIDe r5) b12 h4) (z := ((D 2 : Nat) : Int)) (v := .ref (D 2)) ((congrArg (A10 1) b12).trans ((mA10 1 rfl 0).trans (pf2))) (vrf rfl) ?_
      refine Ew_of (pcₚ := 16) (fun _ => x_iload_n rfl rfl) ?_
      refine Ew_of (pcₚ := 17) (fun _ => x_iload_n rfl rfl) ?_
      refine w_stat24 rfl rfl (by rfl) (C27_Rowp (D := puc 2 D) (N := puc 2 N) (HW_subc H oz_R2vcls_2 oz_R2vcls_13) (u2_1) (((mF10 2 1 rfl).trans (eu2_1))) (show inr (a2) from h1) (show inr (a3) from h2) (fun z13 σ13 F13ₚ A13ₚ Hₚ Oₚ hS13 hA13 pz13_0 pz13_1 => ⟨rretB rfl pz13_0, ?_⟩))
      refine v_backc (c := c) (s := s) H oz_R2vcls_2 oz_R2vcls_13 Hₚ Oₚ (fun F13 A13 H Oₚ eF13 eA13 => ?_)
      have O := OUT_trans O Oₚ
      -- PackHouse.isPart
      have cF13 : SF oz_R2vclsl_0 F F13 := SF_trans (cF10) (SF_gluc (ι := oz_R2vclsl_2) oz_R2vcls_13 hS13 eF13 (by decide +kernel)) (any_sub (lₚ := []) (by decide +kernel))
      have mF13 := SFm_of cF13 oz_R2vcls_10
      have cA13 : SA oz_R2vclsl_1 A A13 := SA_trans (cA10) (SA_gluc (ι := oz_R2vclsl_2) oz_R2vcls_13 hA13 eA13 (by decide +kernel)) (any_subA (lₚ := []) (by decide +kernel))
      have mA13 := SAm_of cA13 oz_R2vcls_11
      refine Ew_of (pcₚ := 22) (fun _ => x_istore rfl) ?_
      refine Ew_of (pcₚ := 23) (fun _ => x_aload_n rfl (rk_o (rfl) rfl rfl)) ?_
      refine v_g H (o := 0) (v := .ref (D 1)) rfl rfl rfl rfl rfl (vrf ((mF13 0 0 rfl).trans (pf1))) ?_
      refine Ew_of (pcₚ := 27) (fun _ => x_iload_n rfl (rk_o (rfl) rfl rfl)) ?_
      refine v_lR H (o := 1) rfl rfl rfl rfl rfl (n := n1) (en1) (show 0 ≤ a1 ∧ a1 < n1 from q_4724 (HIDe r5) b12 h4) (z := ((D 2 : Nat) : Int)) (v := .ref (D 2)) ((congrArg (A13 1) b12).trans ((mA13 1 rfl 0).trans (pf2))) (vrf rfl) ?_
      refine v_g H (o := 2) (v := .ref (D 3)) rfl rfl rfl rfl rfl (vrf ((mF13 2 0 rfl).trans (pf3))) ?_
      refine Ew_of (pcₚ := 33) (fun _ => x_iload rfl rk_s) ?_
      refine w_ifeq (t := 40) rfl rfl (show inr (z13) from q_138 pz13_0) (fun b14 => ?_) (fun b14 => ?_)
      · refine Ew_of (pcₚ := 41) (fun _ => x_iconst rfl) ?_
        refine Ew_of (pcₚ := 43) (fun _ => x_iload rfl rk_s) ?_
        refine w_ifeq (t := 50) rfl rfl (show inr (z13) from q_123 b14) (fun b15 => ?_) (fun b15 => ?_)
        · refine Ew_of (pcₚ := 51) (fun _ => x_iconst rfl) ?_
          refine Ew_of (pcₚ := 53) (fun _ => x_iload rfl (rk_o (rfl) rfl rfl)) ?_
          refine w_stat24 rfl rfl (by rfl) (C49_Br (D := puc 3 D) (N := puc 3 N) (HW_subc H oz_R2vcls_3 oz_R2vcls_14) (n3) (en3) (w3) ((funext (mA13 3 rfl)).trans (ew3)) (show inr (0) from q_2) (show inr (0) from q_2) (show inr (a4) from h3) (show 0 ≤ (0) ∧ (0) ≤ (0) ∧ (0) ≤ (n3) from q_5037 (HIDe r6)) (fun z16 σ16 F16ₚ A16ₚ Hₚ Oₚ hS16 hA16 pz16_0 pz16_1 => ⟨rfl, ?_⟩))
          refine v_backc (c := c) (s := s) H oz_R2vcls_3 oz_R2vcls_14 Hₚ Oₚ (fun F16 A16 H Oₚ eF16 eA16 => ?_)
          have O := OUT_trans O Oₚ
          -- PackHouse.narrowSum
          have cF16 : SF oz_R2vclsl_0 F F16 := SF_trans (cF13) (SF_gluc (ι := oz_R2vclsl_3) oz_R2vcls_14 hS16 eF16 (by decide +kernel)) (any_sub (lₚ := []) (by decide +kernel))
          have mF16 := SFm_of cF16 oz_R2vcls_10
          have cA16 : SA oz_R2vclsl_1 A A16 := SA_trans (cA13) (SA_gluc (ι := oz_R2vclsl_3) oz_R2vcls_14 hA16 eA16 (by decide +kernel)) (any_subA (lₚ := []) (by decide +kernel))
          have mA16 := SAm_of cA16 oz_R2vcls_11
          have h0_0 : IMP ((a1) = 0) ((z16) = NSL (prL (sc ((w3)) 0 ((u2_1))) ((a2)) ((a3))) ((a4))) := by exact fun q => (pz16_1).trans (by (rw [NSM_L (b := 0) (by (have qg0 := HIDe r1; omega)) (by (have qg0 := HIDe r1; omega)), pr_nil (f := (w3)) (n := (u2_1)) (L := sc ((w3)) 0 ((u2_1))) rfl (by (have qg0 := HIDe r1; omega)) (by (have qg0 := HIDe r1; omega)), sc_nil (by (have qg0 := HIDe r1; omega))]))
          have h0_1 : IMP ((a1) = 1) ((z16) = NSL (prL (sc ((w5)) 0 ((u4_1))) ((a2)) ((a3))) ((a4))) := by exact fun q => absurd q (by (have qg0 := HIDe r2; omega))
          have h0_2 : IMP ((a1) = 2) ((z16) = NSL (prL (sc ((w7)) 0 ((u6_1))) ((a2)) ((a3))) ((a4))) := by exact fun q => absurd q (by (have qg0 := HIDe r3; omega))
          have h0_3 : IMP ((a1) = 3) ((z16) = NSL (prL (sc ((w9)) 0 ((u8_1))) ((a2)) ((a3))) ((a4))) := by exact fun q => absurd q (by (have qg0 := HIDe r4; omega))
          exact w_ireturn rfl (k (z16) _ _ _ H O (cF16) (cA16) (show inr (z16) from pz16_0) (show 0 ≤ a1 ∧ a1 ≤ 3 ∨ (z16) = 0 from q_5038 b12) (h0_0) (h0_1) (h0_2) (h0_3))
        · refine Ew_of (pcₚ := 47) (fun _ => x_iload_n rfl (rk_o (rfl) rfl rfl)) ?_
          refine Ew_of (pcₚ := 51) (fun _ => x_goto rfl rfl) ?_
          refine Ew_of (pcₚ := 53) (fun _ => x_iload rfl (rk_o (rfl) rfl rfl)) ?_
          refine w_stat24 rfl rfl (by rfl) (C49_Br (D := puc 3 D) (N := puc 3 N) (HW_subc H oz_R2vcls_3 oz_R2vcls_14) (n3) (en3) (w3) ((funext (mA13 3 rfl)).trans (ew3)) (show inr (0) from q_2) (show inr (a3) from h2) (show inr (a4) from h3) (show 0 ≤ (0) ∧ (0) ≤ (a3) ∧ (a3) ≤ (n3) by have qh0 := HIDe r6; omega) (fun z17 σ17 F17ₚ A17ₚ Hₚ Oₚ hS17 hA17 pz17_0 pz17_1 => ⟨rfl, ?_⟩))
          refine v_backc (c := c) (s := s) H oz_R2vcls_3 oz_R2vcls_14 Hₚ Oₚ (fun F17 A17 H Oₚ eF17 eA17 => ?_)
          have O := OUT_trans O Oₚ
          -- PackHouse.narrowSum
          have cF17 : SF oz_R2vclsl_0 F F17 := SF_trans (cF13) (SF_gluc (ι := oz_R2vclsl_3) oz_R2vcls_14 hS17 eF17 (by decide +kernel)) (any_sub (lₚ := []) (by decide +kernel))
          have mF17 := SFm_of cF17 oz_R2vcls_10
          have cA17 : SA oz_R2vclsl_1 A A17 := SA_trans (cA13) (SA_gluc (ι := oz_R2vclsl_3) oz_R2vcls_14 hA17 eA17 (by decide +kernel)) (any_subA (lₚ := []) (by decide +kernel))
          have mA17 := SAm_of cA17 oz_R2vcls_11
          have h0_0 : IMP ((a1) = 0) ((z17) = NSL (prL (sc ((w3)) 0 ((u2_1))) ((a2)) ((a3))) ((a4))) := by exact fun q => absurd q (by (have qg0 := HIDe r1; omega))
          have h0_1 : IMP ((a1) = 1) ((z17) = NSL (prL (sc ((w5)) 0 ((u4_1))) ((a2)) ((a3))) ((a4))) := by exact fun q => absurd q (by (have qg0 := HIDe r2; omega))
          have h0_2 : IMP ((a1) = 2) ((z17) = NSL (prL (sc ((w7)) 0 ((u6_1))) ((a2)) ((a3))) ((a4))) := by exact fun q => absurd q (by (have qg0 := HIDe r3; omega))
          have h0_3 : IMP ((a1) = 3) ((z17) = NSL (prL (sc ((w9)) 0 ((u8_1))) ((a2)) ((a3))) ((a4))) := by exact fun q => absurd q (by (have qg0 := HIDe r4; omega))
          exact w_ireturn rfl (k (z17) _ _ _ H O (cF17) (cA17) (show inr (z17) from pz17_0) (show 0 ≤ a1 ∧ a1 ≤ 3 ∨ (z17) = 0 from q_5038 b12) (h0_0) (h0_1) (h0_2) (h0_3))
      · refine Ew_of (pcₚ := 37) (fun _ => x_iload_n rfl (rk_o (rfl) rfl rfl)) ?_
        refine Ew_of (pcₚ := 41) (fun _ => x_goto rfl rfl) ?_
        refine Ew_of (pcₚ := 43) (fun _ => x_iload rfl rk_s) ?_
        refine w_ifeq (t := 50) rfl rfl (show inr (z13) from q_138 pz13_0) (fun b18 => ?_) (fun b18 => ?_)
        · refine Ew_of (pcₚ := 51) (fun _ => x_iconst rfl) ?_
          refine Ew_of (pcₚ := 53) (fun _ => x_iload rfl (rk_o (rfl) rfl rfl)) ?_
          refine w_stat24 rfl rfl (by rfl) (C49_Br (D := puc 3 D) (N := puc 3 N) (HW_subc H oz_R2vcls_3 oz_R2vcls_14) (n3) (en3) (w3) ((funext (mA13 3 rfl)).trans (ew3)) (show inr (a2) from h1) (show inr (0) from q_2) (show inr (a4) from h3) (show 0 ≤ (a2) ∧ (a2) ≤ (0) ∧ (0) ≤ (n3) by have qh0 := HIDe r6; omega) (fun z19 σ19 F19ₚ A19ₚ Hₚ Oₚ hS19 hA19 pz19_0 pz19_1 => ⟨rfl, ?_⟩))
          refine v_backc (c := c) (s := s) H oz_R2vcls_3 oz_R2vcls_14 Hₚ Oₚ (fun F19 A19 H Oₚ eF19 eA19 => ?_)
          have O := OUT_trans O Oₚ
          -- PackHouse.narrowSum
          have cF19 : SF oz_R2vclsl_0 F F19 := SF_trans (cF13) (SF_gluc (ι := oz_R2vclsl_3) oz_R2vcls_14 hS19 eF19 (by decide +kernel)) (any_sub (lₚ := []) (by decide +kernel))
          have mF19 := SFm_of cF19 oz_R2vcls_10
          have cA19 : SA oz_R2vclsl_1 A A19 := SA_trans (cA13) (SA_gluc (ι := oz_R2vclsl_3) oz_R2vcls_14 hA19 eA19 (by decide +kernel)) (any_subA (lₚ := []) (by decide +kernel))
          have mA19 := SAm_of cA19 oz_R2vcls_11
          have h0_0 : IMP ((a1) = 0) ((z19) = NSL (prL (sc ((w3)) 0 ((u2_1))) ((a2)) ((a3))) ((a4))) := by exact fun q => absurd q (by (have qg0 := HIDe r1; omega))
          have h0_1 : IMP ((a1) = 1) ((z19) = NSL (prL (sc ((w5)) 0 ((u4_1))) ((a2)) ((a3))) ((a4))) := by exact fun q => absurd q (by (have qg0 := HIDe r2; omega))
          have h0_2 : IMP ((a1) = 2) ((z19) = NSL (prL (sc ((w7)) 0 ((u6_1))) ((a2)) ((a3))) ((a4))) := by exact fun q => absurd q (by (have qg0 := HIDe r3; omega))
          have h0_3 : IMP ((a1) = 3) ((z19) = NSL (prL (sc ((w9)) 0 ((u8_1))) ((a2)) ((a3))) ((a4))) := by exact fun q => absurd q (by (have qg0 := HIDe r4; omega))
          exact w_ireturn rfl (k (z19) _ _ _ H O (cF19) (cA19) (show inr (z19) from pz19_0) (show 0 ≤ a1 ∧ a1 ≤ 3 ∨ (z19) = 0 from q_5038 b12) (h0_0) (h0_1) (h0_2) (h0_3))
        · refine Ew_of (pcₚ := 47) (fun _ => x_iload_n rfl (rk_o (rfl) rfl rfl)) ?_
          refine Ew_of (pcₚ := 51) (fun _ => x_goto rfl rfl) ?_
          refine Ew_of (pcₚ := 53) (fun _ => x_iload rfl (rk_o (rfl) rfl rfl)) ?_
          refine w_stat24 rfl rfl (by rfl) (C49_Br (D := puc 3 D) (N := puc 3 N) (HW_subc H oz_R2vcls_3 oz_R2vcls_14) (n3) (en3) (w3) ((funext (mA13 3 rfl)).trans (ew3)) (show inr (a2) from h1) (show inr (a3) from h2) (show inr (a4) from h3) (show 0 ≤ (a2) ∧ (a2) ≤ (a3) ∧ (a3) ≤ (n3) by have qh0 := HIDe r6; omega) (fun z20 σ20 F20ₚ A20ₚ Hₚ Oₚ hS20 hA20 pz20_0 pz20_1 => ⟨rfl, ?_⟩))
          refine v_backc (c := c) (s := s) H oz_R2vcls_3 oz_R2vcls_14 Hₚ Oₚ (fun F20 A20 H Oₚ eF20 eA20 => ?_)
          have O := OUT_trans O Oₚ
          -- PackHouse.narrowSum
          have cF20 : SF oz_R2vclsl_0 F F20 := SF_trans (cF13) (SF_gluc (ι := oz_R2vclsl_3) oz_R2vcls_14 hS20 eF20 (by decide +kernel)) (any_sub (lₚ := []) (by decide +kernel))
          have mF20 := SFm_of cF20 oz_R2vcls_10
          have cA20 : SA oz_R2vclsl_1 A A20 := SA_trans (cA13) (SA_gluc (ι := oz_R2vclsl_3) oz_R2vcls_14 hA20 eA20 (by decide +kernel)) (any_subA (lₚ := []) (by decide +kernel))
          have mA20 := SAm_of cA20 oz_R2vcls_11
          have h0_0 : IMP ((a1) = 0) ((z20) = NSL (prL (sc ((w3)) 0 ((u2_1))) ((a2)) ((a3))) ((a4))) := by exact fun q => (pz20_1).trans (by (rw [NSM_L (b := (a3)) (by (have qg0 := HIDe r1; omega)) (by (have qg0 := HIDe r1; omega)), pr_sc (f := (w3)) (n := (u2_1)) (L := sc ((w3)) 0 ((u2_1))) rfl (by (have qg0 := HIDe r1; omega))]))
          have h0_1 : IMP ((a1) = 1) ((z20) = NSL (prL (sc ((w5)) 0 ((u4_1))) ((a2)) ((a3))) ((a4))) := by exact fun q => absurd q (by (have qg0 := HIDe r2; omega))
          have h0_2 : IMP ((a1) = 2) ((z20) = NSL (prL (sc ((w7)) 0 ((u6_1))) ((a2)) ((a3))) ((a4))) := by exact fun q => absurd q (by (have qg0 := HIDe r3; omega))
          have h0_3 : IMP ((a1) = 3) ((z20) = NSL (prL (sc ((w9)) 0 ((u8_1))) ((a2)) ((a3))) ((a4))) := by exact fun q => absurd q (by (have qg0 := HIDe r4; omega))
          exact w_ireturn rfl (k (z20) _ _ _ H O (cF20) (cA20) (show inr (z20) from pz20_0) (show 0 ≤ a1 ∧ a1 ≤ 3 ∨ (z20) = 0 from q_5038 b12) (h0_0) (h0_1) (h0_2) (h0_3))
    · refine v_lR H (o := 1) rfl rfl rfl rfl rfl (n := n1) (en1) (show 0 ≤ a1 ∧ a1 < n1 from q_4726 (HIDe r5) b12 h4) (z := ((D 4 : Nat) : Int)) (v := .ref (D 4)) ((congrArg (A10 1) b12).trans ((mA10 1 rfl 1).trans (pf4))) (vrf rfl) ?_
      refine Ew_of (pcₚ := 16) (fun _ => x_iload_n rfl rfl) ?_
      refine Ew_of (pcₚ := 17) (fun _ => x_iload_n rfl rfl) ?_
      refine w_stat24 rfl rfl (by rfl) (C27_Rowp (D := puc 4 D) (N := puc 4 N) (HW_subc H oz_R2vcls_4 oz_R2vcls_15) (u4_1) (((mF10 4 1 rfl).trans (eu4_1))) (show inr (a2) from h1) (show inr (a3) from h2) (fun z21 σ21 F21ₚ A21ₚ Hₚ Oₚ hS21 hA21 pz21_0 pz21_1 => ⟨rretB rfl pz21_0, ?_⟩))
      refine v_backc (c := c) (s := s) H oz_R2vcls_4 oz_R2vcls_15 Hₚ Oₚ (fun F21 A21 H Oₚ eF21 eA21 => ?_)
      have O := OUT_trans O Oₚ
      -- PackHouse.isPart
      have cF21 : SF oz_R2vclsl_0 F F21 := SF_trans (cF10) (SF_gluc (ι := oz_R2vclsl_4) oz_R2vcls_15 hS21 eF21 (by decide +kernel)) (any_sub (lₚ := []) (by decide +kernel))
      have mF21 := SFm_of cF21 oz_R2vcls_10
      have cA21 : SA oz_R2vclsl_1 A A21 := SA_trans (cA10) (SA_gluc (ι := oz_R2vclsl_4) oz_R2vcls_15 hA21 eA21 (by decide +kernel)) (any_subA (lₚ := []) (by decide +kernel))
      have mA21 := SAm_of cA21 oz_R2vcls_11
      refine Ew_of (pcₚ := 22) (fun _ => x_istore rfl) ?_
      refine Ew_of (pcₚ := 23) (fun _ => x_aload_n rfl (rk_o (rfl) rfl rfl)) ?_
      refine v_g H (o := 0) (v := .ref (D 1)) rfl rfl rfl rfl rfl (vrf ((mF21 0 0 rfl).trans (pf1))) ?_
      refine Ew_of (pcₚ := 27) (fun _ => x_iload_n rfl (rk_o (rfl) rfl rfl)) ?_
      refine v_lR H (o := 1) rfl rfl rfl rfl rfl (n := n1) (en1) (show 0 ≤ a1 ∧ a1 < n1 from q_4726 (HIDe r5) b12 h4) (z := ((D 4 : Nat) : Int)) (v := .ref (D 4)) ((congrArg (A21 1) b12).trans ((mA21 1 rfl 1).trans (pf4))) (vrf rfl) ?_
      refine v_g H (o := 4) (v := .ref (D 5)) rfl rfl rfl rfl rfl (vrf ((mF21 4 0 rfl).trans (pf5))) ?_
      refine Ew_of (pcₚ := 33) (fun _ => x_iload rfl rk_s) ?_
      refine w_ifeq (t := 40) rfl rfl (show inr (z21) from q_138 pz21_0) (fun b22 => ?_) (fun b22 => ?_)
      · refine Ew_of (pcₚ := 41) (fun _ => x_iconst rfl) ?_
        refine Ew_of (pcₚ := 43) (fun _ => x_iload rfl rk_s) ?_
        refine w_ifeq (t := 50) rfl rfl (show inr (z21) from q_123 b22) (fun b23 => ?_) (fun b23 => ?_)
        · refine Ew_of (pcₚ := 51) (fun _ => x_iconst rfl) ?_
          refine Ew_of (pcₚ := 53) (fun _ => x_iload rfl (rk_o (rfl) rfl rfl)) ?_
          refine w_stat24 rfl rfl (by rfl) (C49_Br (D := puc 5 D) (N := puc 5 N) (HW_subc H oz_R2vcls_5 oz_R2vcls_16) (n5) (en5) (w5) ((funext (mA21 5 rfl)).trans (ew5)) (show inr (0) from q_2) (show inr (0) from q_2) (show inr (a4) from h3) (show 0 ≤ (0) ∧ (0) ≤ (0) ∧ (0) ≤ (n5) from q_5037 (HIDe r7)) (fun z24 σ24 F24ₚ A24ₚ Hₚ Oₚ hS24 hA24 pz24_0 pz24_1 => ⟨rfl, ?_⟩))
          refine v_backc (c := c) (s := s) H oz_R2vcls_5 oz_R2vcls_16 Hₚ Oₚ (fun F24 A24 H Oₚ eF24 eA24 => ?_)
          have O := OUT_trans O Oₚ
          -- PackHouse.narrowSum
          have cF24 : SF oz_R2vclsl_0 F F24 := SF_trans (cF21) (SF_gluc (ι := oz_R2vclsl_5) oz_R2vcls_16 hS24 eF24 (by decide +kernel)) (any_sub (lₚ := []) (by decide +kernel))
          have mF24 := SFm_of cF24 oz_R2vcls_10
          have cA24 : SA oz_R2vclsl_1 A A24 := SA_trans (cA21) (SA_gluc (ι := oz_R2vclsl_5) oz_R2vcls_16 hA24 eA24 (by decide +kernel)) (any_subA (lₚ := []) (by decide +kernel))
          have mA24 := SAm_of cA24 oz_R2vcls_11
          have h0_0 : IMP ((a1) = 0) ((z24) = NSL (prL (sc ((w3)) 0 ((u2_1))) ((a2)) ((a3))) ((a4))) := by exact fun q => absurd q (by (have qg0 := HIDe r1; omega))
          have h0_1 : IMP ((a1) = 1) ((z24) = NSL (prL (sc ((w5)) 0 ((u4_1))) ((a2)) ((a3))) ((a4))) := by exact fun q => (pz24_1).trans (by (rw [NSM_L (b := 0) (by (have qg0 := HIDe r2; omega)) (by (have qg0 := HIDe r2; omega)), pr_nil (f := (w5)) (n := (u4_1)) (L := sc ((w5)) 0 ((u4_1))) rfl (by (have qg0 := HIDe r2; omega)) (by (have qg0 := HIDe r2; omega)), sc_nil (by (have qg0 := HIDe r2; omega))]))
          have h0_2 : IMP ((a1) = 2) ((z24) = NSL (prL (sc ((w7)) 0 ((u6_1))) ((a2)) ((a3))) ((a4))) := by exact fun q => absurd q (by (have qg0 := HIDe r3; omega))
          have h0_3 : IMP ((a1) = 3) ((z24) = NSL (prL (sc ((w9)) 0 ((u8_1))) ((a2)) ((a3))) ((a4))) := by exact fun q => absurd q (by (have qg0 := HIDe r4; omega))
          exact w_ireturn rfl (k (z24) _ _ _ H O (cF24) (cA24) (show inr (z24) from pz24_0) (show 0 ≤ a1 ∧ a1 ≤ 3 ∨ (z24) = 0 from q_5039 b12) (h0_0) (h0_1) (h0_2) (h0_3))
        · refine Ew_of (pcₚ := 47) (fun _ => x_iload_n rfl (rk_o (rfl) rfl rfl)) ?_
          refine Ew_of (pcₚ := 51) (fun _ => x_goto rfl rfl) ?_
          refine Ew_of (pcₚ := 53) (fun _ => x_iload rfl (rk_o (rfl) rfl rfl)) ?_
          refine w_stat24 rfl rfl (by rfl) (C49_Br (D := puc 5 D) (N := puc 5 N) (HW_subc H oz_R2vcls_5 oz_R2vcls_16) (n5) (en5) (w5) ((funext (mA21 5 rfl)).trans (ew5)) (show inr (0) from q_2) (show inr (a3) from h2) (show inr (a4) from h3) (show 0 ≤ (0) ∧ (0) ≤ (a3) ∧ (a3) ≤ (n5) by have qh0 := HIDe r7; omega) (fun z25 σ25 F25ₚ A25ₚ Hₚ Oₚ hS25 hA25 pz25_0 pz25_1 => ⟨rfl, ?_⟩))
          refine v_backc (c := c) (s := s) H oz_R2vcls_5 oz_R2vcls_16 Hₚ Oₚ (fun F25 A25 H Oₚ eF25 eA25 => ?_)
          have O := OUT_trans O Oₚ
          -- PackHouse.narrowSum
          have cF25 : SF oz_R2vclsl_0 F F25 := SF_trans (cF21) (SF_gluc (ι := oz_R2vclsl_5) oz_R2vcls_16 hS25 eF25 (by decide +kernel)) (any_sub (lₚ := []) (by decide +kernel))
          have mF25 := SFm_of cF25 oz_R2vcls_10
          have cA25 : SA oz_R2vclsl_1 A A25 := SA_trans (cA21) (SA_gluc (ι := oz_R2vclsl_5) oz_R2vcls_16 hA25 eA25 (by decide +kernel)) (any_subA (lₚ := []) (by decide +kernel))
          have mA25 := SAm_of cA25 oz_R2vcls_11
          have h0_0 : IMP ((a1) = 0) ((z25) = NSL (prL (sc ((w3)) 0 ((u2_1))) ((a2)) ((a3))) ((a4))) := by exact fun q => absurd q (by (have qg0 := HIDe r1; omega))
          have h0_1 : IMP ((a1) = 1) ((z25) = NSL (prL (sc ((w5)) 0 ((u4_1))) ((a2)) ((a3))) ((a4))) := by exact fun q => absurd q (by (have qg0 := HIDe r2; omega))
          have h0_2 : IMP ((a1) = 2) ((z25) = NSL (prL (sc ((w7)) 0 ((u6_1))) ((a2)) ((a3))) ((a4))) := by exact fun q => absurd q (by (have qg0 := HIDe r3; omega))
          have h0_3 : IMP ((a1) = 3) ((z25) = NSL (prL (sc ((w9)) 0 ((u8_1))) ((a2)) ((a3))) ((a4))) := by exact fun q => absurd q (by (have qg0 := HIDe r4; omega))
          exact w_ireturn rfl (k (z25) _ _ _ H O (cF25) (cA25) (show inr (z25) from pz25_0) (show 0 ≤ a1 ∧ a1 ≤ 3 ∨ (z25) = 0 from q_5039 b12) (h0_0) (h0_1) (h0_2) (h0_3))
      · refine Ew_of (pcₚ := 37) (fun _ => x_iload_n rfl (rk_o (rfl) rfl rfl)) ?_
        refine Ew_of (pcₚ := 41) (fun _ => x_goto rfl rfl) ?_
        refine Ew_of (pcₚ := 43) (fun _ => x_iload rfl rk_s) ?_
        refine w_ifeq (t := 50) rfl rfl (show inr (z21) from q_138 pz21_0) (fun b26 => ?_) (fun b26 => ?_)
        · refine Ew_of (pcₚ := 51) (fun _ => x_iconst rfl) ?_
          refine Ew_of (pcₚ := 53) (fun _ => x_iload rfl (rk_o (rfl) rfl rfl)) ?_
          refine w_stat24 rfl rfl (by rfl) (C49_Br (D := puc 5 D) (N := puc 5 N) (HW_subc H oz_R2vcls_5 oz_R2vcls_16) (n5) (en5) (w5) ((funext (mA21 5 rfl)).trans (ew5)) (show inr (a2) from h1) (show inr (0) from q_2) (show inr (a4) from h3) (show 0 ≤ (a2) ∧ (a2) ≤ (0) ∧ (0) ≤ (n5) by have qh0 := HIDe r7; omega) (fun z27 σ27 F27ₚ A27ₚ Hₚ Oₚ hS27 hA27 pz27_0 pz27_1 => ⟨rfl, ?_⟩))
          refine v_backc (c := c) (s := s) H oz_R2vcls_5 oz_R2vcls_16 Hₚ Oₚ (fun F27 A27 H Oₚ eF27 eA27 => ?_)
          have O := OUT_trans O Oₚ
          -- PackHouse.narrowSum
          have cF27 : SF oz_R2vclsl_0 F F27 := SF_trans (cF21) (SF_gluc (ι := oz_R2vclsl_5) oz_R2vcls_16 hS27 eF27 (by decide +kernel)) (any_sub (lₚ := []) (by decide +kernel))
          have mF27 := SFm_of cF27 oz_R2vcls_10
          have cA27 : SA oz_R2vclsl_1 A A27 := SA_trans (cA21) (SA_gluc (ι := oz_R2vclsl_5) oz_R2vcls_16 hA27 eA27 (by decide +kernel)) (any_subA (lₚ := []) (by decide +kernel))
          have mA27 := SAm_of cA27 oz_R2vcls_11
          have h0_0 : IMP ((a1) = 0) ((z27) = NSL (prL (sc ((w3)) 0 ((u2_1))) ((a2)) ((a3))) ((a4))) := by exact fun q => absurd q (by (have qg0 := HIDe r1; omega))
          have h0_1 : IMP ((a1) = 1) ((z27) = NSL (prL (sc ((w5)) 0 ((u4_1))) ((a2)) ((a3))) ((a4))) := by exact fun q => absurd q (by (have qg0 := HIDe r2; omega))
          have h0_2 : IMP ((a1) = 2) ((z27) = NSL (prL (sc ((w7)) 0 ((u6_1))) ((a2)) ((a3))) ((a4))) := by exact fun q => absurd q (by (have qg0 := HIDe r3; omega))
          have h0_3 : IMP ((a1) = 3) ((z27) = NSL (prL (sc ((w9)) 0 ((u8_1))) ((a2)) ((a3))) ((a4))) := by exact fun q => absurd q (by (have qg0 := HIDe r4; omega))
          exact w_ireturn rfl (k (z27) _ _ _ H O (cF27) (cA27) (show inr (z27) from pz27_0) (show 0 ≤ a1 ∧ a1 ≤ 3 ∨ (z27) = 0 from q_5039 b12) (h0_0) (h0_1) (h0_2) (h0_3))
        · refine Ew_of (pcₚ := 47) (fun _ => x_iload_n rfl (rk_o (rfl) rfl rfl)) ?_
          refine Ew_of (pcₚ := 51) (fun _ => x_goto rfl rfl) ?_
          refine Ew_of (pcₚ := 53) (fun _ => x_iload rfl (rk_o (rfl) rfl rfl)) ?_
          refine w_stat24 rfl rfl (by rfl) (C49_Br (D := puc 5 D) (N := puc 5 N) (HW_subc H oz_R2vcls_5 oz_R2vcls_16) (n5) (en5) (w5) ((funext (mA21 5 rfl)).trans (ew5)) (show inr (a2) from h1) (show inr (a3) from h2) (show inr (a4) from h3) (show 0 ≤ (a2) ∧ (a2) ≤ (a3) ∧ (a3) ≤ (n5) by have qh0 := HIDe r7; omega) (fun z28 σ28 F28ₚ A28ₚ Hₚ Oₚ hS28 hA28 pz28_0 pz28_1 => ⟨rfl, ?_⟩))
          refine v_backc (c := c) (s := s) H oz_R2vcls_5 oz_R2vcls_16 Hₚ Oₚ (fun F28 A28 H Oₚ eF28 eA28 => ?_)
          have O := OUT_trans O Oₚ
          -- PackHouse.narrowSum
          have cF28 : SF oz_R2vclsl_0 F F28 := SF_trans (cF21) (SF_gluc (ι := oz_R2vclsl_5) oz_R2vcls_16 hS28 eF28 (by decide +kernel)) (any_sub (lₚ := []) (by decide +kernel))
          have mF28 := SFm_of cF28 oz_R2vcls_10
          have cA28 : SA oz_R2vclsl_1 A A28 := SA_trans (cA21) (SA_gluc (ι := oz_R2vclsl_5) oz_R2vcls_16 hA28 eA28 (by decide +kernel)) (any_subA (lₚ := []) (by decide +kernel))
          have mA28 := SAm_of cA28 oz_R2vcls_11
          have h0_0 : IMP ((a1) = 0) ((z28) = NSL (prL (sc ((w3)) 0 ((u2_1))) ((a2)) ((a3))) ((a4))) := by exact fun q => absurd q (by (have qg0 := HIDe r1; omega))
          have h0_1 : IMP ((a1) = 1) ((z28) = NSL (prL (sc ((w5)) 0 ((u4_1))) ((a2)) ((a3))) ((a4))) := by exact fun q => (pz28_1).trans (by (rw [NSM_L (b := (a3)) (by (have qg0 := HIDe r2; omega)) (by (have qg0 := HIDe r2; omega)), pr_sc (f := (w5)) (n := (u4_1)) (L := sc ((w5)) 0 ((u4_1))) rfl (by (have qg0 := HIDe r2; omega))]))
          have h0_2 : IMP ((a1) = 2) ((z28) = NSL (prL (sc ((w7)) 0 ((u6_1))) ((a2)) ((a3))) ((a4))) := by exact fun q => absurd q (by (have qg0 := HIDe r3; omega))
          have h0_3 : IMP ((a1) = 3) ((z28) = NSL (prL (sc ((w9)) 0 ((u8_1))) ((a2)) ((a3))) ((a4))) := by exact fun q => absurd q (by (have qg0 := HIDe r4; omega))
          exact w_ireturn rfl (k (z28) _ _ _ H O (cF28) (cA28) (show inr (z28) from pz28_0) (show 0 ≤ a1 ∧ a1 ≤ 3 ∨ (z28) = 0 from q_5039 b12) (h0_0) (h0_1) (h0_2) (h0_3))
    · refine v_lR H (o := 1) rfl rfl rfl rfl rfl (n := n1) (en1) (show 0 ≤ a1 ∧ a1 < n1 from q_4727 (HIDe r5) b12 h4) (z := ((D 6 : Nat) : Int)) (v := .ref (D 6)) ((congrArg (A10 1) b12).trans ((mA10 1 rfl 2).trans (pf6))) (vrf rfl) ?_
      refine Ew_of (pcₚ := 16) (fun _ => x_iload_n rfl rfl) ?_
      refine Ew_of (pcₚ := 17) (fun _ => x_iload_n rfl rfl) ?_
      refine w_stat24 rfl rfl (by rfl) (C27_Rowp (D := puc 6 D) (N := puc 6 N) (HW_subc H oz_R2vcls_6 oz_R2vcls_17) (u6_1) (((mF10 6 1 rfl).trans (eu6_1))) (show inr (a2) from h1) (show inr (a3) from h2) (fun z29 σ29 F29ₚ A29ₚ Hₚ Oₚ hS29 hA29 pz29_0 pz29_1 => ⟨rretB rfl pz29_0, ?_⟩))
      refine v_backc (c := c) (s := s) H oz_R2vcls_6 oz_R2vcls_17 Hₚ Oₚ (fun F29 A29 H Oₚ eF29 eA29 => ?_)
      have O := OUT_trans O Oₚ
      -- PackHouse.isPart
      have cF29 : SF oz_R2vclsl_0 F F29 := SF_trans (cF10) (SF_gluc (ι := oz_R2vclsl_6) oz_R2vcls_17 hS29 eF29 (by decide +kernel)) (any_sub (lₚ := []) (by decide +kernel))
      have mF29 := SFm_of cF29 oz_R2vcls_10
      have cA29 : SA oz_R2vclsl_1 A A29 := SA_trans (cA10) (SA_gluc (ι := oz_R2vclsl_6) oz_R2vcls_17 hA29 eA29 (by decide +kernel)) (any_subA (lₚ := []) (by decide +kernel))
      have mA29 := SAm_of cA29 oz_R2vcls_11
      refine Ew_of (pcₚ := 22) (fun _ => x_istore rfl) ?_
      refine Ew_of (pcₚ := 23) (fun _ => x_aload_n rfl (rk_o (rfl) rfl rfl)) ?_
      refine v_g H (o := 0) (v := .ref (D 1)) rfl rfl rfl rfl rfl (vrf ((mF29 0 0 rfl).trans (pf1))) ?_
      refine Ew_of (pcₚ := 27) (fun _ => x_iload_n rfl (rk_o (rfl) rfl rfl)) ?_
      refine v_lR H (o := 1) rfl rfl rfl rfl rfl (n := n1) (en1) (show 0 ≤ a1 ∧ a1 < n1 from q_4727 (HIDe r5) b12 h4) (z := ((D 6 : Nat) : Int)) (v := .ref (D 6)) ((congrArg (A29 1) b12).trans ((mA29 1 rfl 2).trans (pf6))) (vrf rfl) ?_
      refine v_g H (o := 6) (v := .ref (D 7)) rfl rfl rfl rfl rfl (vrf ((mF29 6 0 rfl).trans (pf7))) ?_
      refine Ew_of (pcₚ := 33) (fun _ => x_iload rfl rk_s) ?_
      refine w_ifeq (t := 40) rfl rfl (show inr (z29) from q_138 pz29_0) (fun b30 => ?_) (fun b30 => ?_)
      · refine Ew_of (pcₚ := 41) (fun _ => x_iconst rfl) ?_
        refine Ew_of (pcₚ := 43) (fun _ => x_iload rfl rk_s) ?_
        refine w_ifeq (t := 50) rfl rfl (show inr (z29) from q_123 b30) (fun b31 => ?_) (fun b31 => ?_)
        · refine Ew_of (pcₚ := 51) (fun _ => x_iconst rfl) ?_
          refine Ew_of (pcₚ := 53) (fun _ => x_iload rfl (rk_o (rfl) rfl rfl)) ?_
          refine w_stat24 rfl rfl (by rfl) (C49_Br (D := puc 7 D) (N := puc 7 N) (HW_subc H oz_R2vcls_7 oz_R2vcls_18) (n7) (en7) (w7) ((funext (mA29 7 rfl)).trans (ew7)) (show inr (0) from q_2) (show inr (0) from q_2) (show inr (a4) from h3) (show 0 ≤ (0) ∧ (0) ≤ (0) ∧ (0) ≤ (n7) from q_5037 (HIDe r8)) (fun z32 σ32 F32ₚ A32ₚ Hₚ Oₚ hS32 hA32 pz32_0 pz32_1 => ⟨rfl, ?_⟩))
          refine v_backc (c := c) (s := s) H oz_R2vcls_7 oz_R2vcls_18 Hₚ Oₚ (fun F32 A32 H Oₚ eF32 eA32 => ?_)
          have O := OUT_trans O Oₚ
          -- PackHouse.narrowSum
          have cF32 : SF oz_R2vclsl_0 F F32 := SF_trans (cF29) (SF_gluc (ι := oz_R2vclsl_7) oz_R2vcls_18 hS32 eF32 (by decide +kernel)) (any_sub (lₚ := []) (by decide +kernel))
          have mF32 := SFm_of cF32 oz_R2vcls_10
          have cA32 : SA oz_R2vclsl_1 A A32 := SA_trans (cA29) (SA_gluc (ι := oz_R2vclsl_7) oz_R2vcls_18 hA32 eA32 (by decide +kernel)) (any_subA (lₚ := []) (by decide +kernel))
          have mA32 := SAm_of cA32 oz_R2vcls_11
          have h0_0 : IMP ((a1) = 0) ((z32) = NSL (prL (sc ((w3)) 0 ((u2_1))) ((a2)) ((a3))) ((a4))) := by exact fun q => absurd q (by (have qg0 := HIDe r1; omega))
          have h0_1 : IMP ((a1) = 1) ((z32) = NSL (prL (sc ((w5)) 0 ((u4_1))) ((a2)) ((a3))) ((a4))) := by exact fun q => absurd q (by (have qg0 := HIDe r2; omega))
          have h0_2 : IMP ((a1) = 2) ((z32) = NSL (prL (sc ((w7)) 0 ((u6_1))) ((a2)) ((a3))) ((a4))) := by exact fun q => (pz32_1).trans (by (rw [NSM_L (b := 0) (by (have qg0 := HIDe r3; omega)) (by (have qg0 := HIDe r3; omega)), pr_nil (f := (w7)) (n := (u6_1)) (L := sc ((w7)) 0 ((u6_1))) rfl (by (have qg0 := HIDe r3; omega)) (by (have qg0 := HIDe r3; omega)), sc_nil (by (have qg0 := HIDe r3; omega))]))
          have h0_3 : IMP ((a1) = 3) ((z32) = NSL (prL (sc ((w9)) 0 ((u8_1))) ((a2)) ((a3))) ((a4))) := by exact fun q => absurd q (by (have qg0 := HIDe r4; omega))
          exact w_ireturn rfl (k (z32) _ _ _ H O (cF32) (cA32) (show inr (z32) from pz32_0) (show 0 ≤ a1 ∧ a1 ≤ 3 ∨ (z32) = 0 from q_5040 b12) (h0_0) (h0_1) (h0_2) (h0_3))
        · refine Ew_of (pcₚ := 47) (fun _ => x_iload_n rfl (rk_o (rfl) rfl rfl)) ?_
          refine Ew_of (pcₚ := 51) (fun _ => x_goto rfl rfl) ?_
          refine Ew_of (pcₚ := 53) (fun _ => x_iload rfl (rk_o (rfl) rfl rfl)) ?_
          refine w_stat24 rfl rfl (by rfl) (C49_Br (D := puc 7 D) (N := puc 7 N) (HW_subc H oz_R2vcls_7 oz_R2vcls_18) (n7) (en7) (w7) ((funext (mA29 7 rfl)).trans (ew7)) (show inr (0) from q_2) (show inr (a3) from h2) (show inr (a4) from h3) (show 0 ≤ (0) ∧ (0) ≤ (a3) ∧ (a3) ≤ (n7) by have qh0 := HIDe r8; omega) (fun z33 σ33 F33ₚ A33ₚ Hₚ Oₚ hS33 hA33 pz33_0 pz33_1 => ⟨rfl, ?_⟩))
          refine v_backc (c := c) (s := s) H oz_R2vcls_7 oz_R2vcls_18 Hₚ Oₚ (fun F33 A33 H Oₚ eF33 eA33 => ?_)
          have O := OUT_trans O Oₚ
          -- PackHouse.narrowSum
          have cF33 : SF oz_R2vclsl_0 F F33 := SF_trans (cF29) (SF_gluc (ι := oz_R2vclsl_7) oz_R2vcls_18 hS33 eF33 (by decide +kernel)) (any_sub (lₚ := []) (by decide +kernel))
          have mF33 := SFm_of cF33 oz_R2vcls_10
          have cA33 : SA oz_R2vclsl_1 A A33 := SA_trans (cA29) (SA_gluc (ι := oz_R2vclsl_7) oz_R2vcls_18 hA33 eA33 (by decide +kernel)) (any_subA (lₚ := []) (by decide +kernel))
          have mA33 := SAm_of cA33 oz_R2vcls_11
          have h0_0 : IMP ((a1) = 0) ((z33) = NSL (prL (sc ((w3)) 0 ((u2_1))) ((a2)) ((a3))) ((a4))) := by exact fun q => absurd q (by (have qg0 := HIDe r1; omega))
          have h0_1 : IMP ((a1) = 1) ((z33) = NSL (prL (sc ((w5)) 0 ((u4_1))) ((a2)) ((a3))) ((a4))) := by exact fun q => absurd q (by (have qg0 := HIDe r2; omega))
          have h0_2 : IMP ((a1) = 2) ((z33) = NSL (prL (sc ((w7)) 0 ((u6_1))) ((a2)) ((a3))) ((a4))) := by exact fun q => absurd q (by (have qg0 := HIDe r3; omega))
          have h0_3 : IMP ((a1) = 3) ((z33) = NSL (prL (sc ((w9)) 0 ((u8_1))) ((a2)) ((a3))) ((a4))) := by exact fun q => absurd q (by (have qg0 := HIDe r4; omega))
          exact w_ireturn rfl (k (z33) _ _ _ H O (cF33) (cA33) (show inr (z33) from pz33_0) (show 0 ≤ a1 ∧ a1 ≤ 3 ∨ (z33) = 0 from q_5040 b12) (h0_0) (h0_1) (h0_2) (h0_3))
      · refine Ew_of (pcₚ := 37) (fun _ => x_iload_n rfl (rk_o (rfl) rfl rfl)) ?_
        refine Ew_of (pcₚ := 41) (fun _ => x_goto rfl rfl) ?_
        refine Ew_of (pcₚ := 43) (fun _ => x_iload rfl rk_s) ?_
        refine w_ifeq (t := 50) rfl rfl (show inr (z29) from q_138 pz29_0) (fun b34 => ?_) (fun b34 => ?_)
        · refine Ew_of (pcₚ := 51) (fun _ => x_iconst rfl) ?_
          refine Ew_of (pcₚ := 53) (fun _ => x_iload rfl (rk_o (rfl) rfl rfl)) ?_
          refine w_stat24 rfl rfl (by rfl) (C49_Br (D := puc 7 D) (N := puc 7 N) (HW_subc H oz_R2vcls_7 oz_R2vcls_18) (n7) (en7) (w7) ((funext (mA29 7 rfl)).trans (ew7)) (show inr (a2) from h1) (show inr (0) from q_2) (show inr (a4) from h3) (show 0 ≤ (a2) ∧ (a2) ≤ (0) ∧ (0) ≤ (n7) by have qh0 := HIDe r8; omega) (fun z35 σ35 F35ₚ A35ₚ Hₚ Oₚ hS35 hA35 pz35_0 pz35_1 => ⟨rfl, ?_⟩))
          refine v_backc (c := c) (s := s) H oz_R2vcls_7 oz_R2vcls_18 Hₚ Oₚ (fun F35 A35 H Oₚ eF35 eA35 => ?_)
          have O := OUT_trans O Oₚ
          -- PackHouse.narrowSum
          have cF35 : SF oz_R2vclsl_0 F F35 := SF_trans (cF29) (SF_gluc (ι := oz_R2vclsl_7) oz_R2vcls_18 hS35 eF35 (by decide +kernel)) (any_sub (lₚ := []) (by decide +kernel))
          have mF35 := SFm_of cF35 oz_R2vcls_10
          have cA35 : SA oz_R2vclsl_1 A A35 := SA_trans (cA29) (SA_gluc (ι := oz_R2vclsl_7) oz_R2vcls_18 hA35 eA35 (by decide +kernel)) (any_subA (lₚ := []) (by decide +kernel))
          have mA35 := SAm_of cA35 oz_R2vcls_11
          have h0_0 : IMP ((a1) = 0) ((z35) = NSL (prL (sc ((w3)) 0 ((u2_1))) ((a2)) ((a3))) ((a4))) := by exact fun q => absurd q (by (have qg0 := HIDe r1; omega))
          have h0_1 : IMP ((a1) = 1) ((z35) = NSL (prL (sc ((w5)) 0 ((u4_1))) ((a2)) ((a3))) ((a4))) := by exact fun q => absurd q (by (have qg0 := HIDe r2; omega))
          have h0_2 : IMP ((a1) = 2) ((z35) = NSL (prL (sc ((w7)) 0 ((u6_1))) ((a2)) ((a3))) ((a4))) := by exact fun q => absurd q (by (have qg0 := HIDe r3; omega))
          have h0_3 : IMP ((a1) = 3) ((z35) = NSL (prL (sc ((w9)) 0 ((u8_1))) ((a2)) ((a3))) ((a4))) := by exact fun q => absurd q (by (have qg0 := HIDe r4; omega))
          exact w_ireturn rfl (k (z35) _ _ _ H O (cF35) (cA35) (show inr (z35) from pz35_0) (show 0 ≤ a1 ∧ a1 ≤ 3 ∨ (z35) = 0 from q_5040 b12) (h0_0) (h0_1) (h0_2) (h0_3))
        · refine Ew_of (pcₚ := 47) (fun _ => x_iload_n rfl (rk_o (rfl) rfl rfl)) ?_
          refine Ew_of (pcₚ := 51) (fun _ => x_goto rfl rfl) ?_
          refine Ew_of (pcₚ := 53) (fun _ => x_iload rfl (rk_o (rfl) rfl rfl)) ?_
          refine w_stat24 rfl rfl (by rfl) (C49_Br (D := puc 7 D) (N := puc 7 N) (HW_subc H oz_R2vcls_7 oz_R2vcls_18) (n7) (en7) (w7) ((funext (mA29 7 rfl)).trans (ew7)) (show inr (a2) from h1) (show inr (a3) from h2) (show inr (a4) from h3) (show 0 ≤ (a2) ∧ (a2) ≤ (a3) ∧ (a3) ≤ (n7) by have qh0 := HIDe r8; omega) (fun z36 σ36 F36ₚ A36ₚ Hₚ Oₚ hS36 hA36 pz36_0 pz36_1 => ⟨rfl, ?_⟩))
          refine v_backc (c := c) (s := s) H oz_R2vcls_7 oz_R2vcls_18 Hₚ Oₚ (fun F36 A36 H Oₚ eF36 eA36 => ?_)
          have O := OUT_trans O Oₚ
          -- PackHouse.narrowSum
          have cF36 : SF oz_R2vclsl_0 F F36 := SF_trans (cF29) (SF_gluc (ι := oz_R2vclsl_7) oz_R2vcls_18 hS36 eF36 (by decide +kernel)) (any_sub (lₚ := []) (by decide +kernel))
          have mF36 := SFm_of cF36 oz_R2vcls_10
          have cA36 : SA oz_R2vclsl_1 A A36 := SA_trans (cA29) (SA_gluc (ι := oz_R2vclsl_7) oz_R2vcls_18 hA36 eA36 (by decide +kernel)) (any_subA (lₚ := []) (by decide +kernel))
          have mA36 := SAm_of cA36 oz_R2vcls_11
          have h0_0 : IMP ((a1) = 0) ((z36) = NSL (prL (sc ((w3)) 0 ((u2_1))) ((a2)) ((a3))) ((a4))) := by exact fun q => absurd q (by (have qg0 := HIDe r1; omega))
          have h0_1 : IMP ((a1) = 1) ((z36) = NSL (prL (sc ((w5)) 0 ((u4_1))) ((a2)) ((a3))) ((a4))) := by exact fun q => absurd q (by (have qg0 := HIDe r2; omega))
          have h0_2 : IMP ((a1) = 2) ((z36) = NSL (prL (sc ((w7)) 0 ((u6_1))) ((a2)) ((a3))) ((a4))) := by exact fun q => (pz36_1).trans (by (rw [NSM_L (b := (a3)) (by (have qg0 := HIDe r3; omega)) (by (have qg0 := HIDe r3; omega)), pr_sc (f := (w7)) (n := (u6_1)) (L := sc ((w7)) 0 ((u6_1))) rfl (by (have qg0 := HIDe r3; omega))]))
          have h0_3 : IMP ((a1) = 3) ((z36) = NSL (prL (sc ((w9)) 0 ((u8_1))) ((a2)) ((a3))) ((a4))) := by exact fun q => absurd q (by (have qg0 := HIDe r4; omega))
          exact w_ireturn rfl (k (z36) _ _ _ H O (cF36) (cA36) (show inr (z36) from pz36_0) (show 0 ≤ a1 ∧ a1 ≤ 3 ∨ (z36) = 0 from q_5040 b12) (h0_0) (h0_1) (h0_2) (h0_3))
    · refine v_lR H (o := 1) rfl rfl rfl rfl rfl (n := n1) (en1) (show 0 ≤ a1 ∧ a1 < n1 from q_4728 b12 h4) (z := ((D 8 : Nat) : Int)) (v := .ref (D 8)) ((congrArg (A10 1) b12).trans ((mA10 1 rfl 3).trans (pf8))) (vrf rfl) ?_
      refine Ew_of (pcₚ := 16) (fun _ => x_iload_n rfl rfl) ?_
      refine Ew_of (pcₚ := 17) (fun _ => x_iload_n rfl rfl) ?_
      refine w_stat24 rfl rfl (by rfl) (C27_Rowp (D := puc 8 D) (N := puc 8 N) (HW_subc H oz_R2vcls_8 oz_R2vcls_19) (u8_1) (((mF10 8 1 rfl).trans (eu8_1))) (show inr (a2) from h1) (show inr (a3) from h2) (fun z37 σ37 F37ₚ A37ₚ Hₚ Oₚ hS37 hA37 pz37_0 pz37_1 => ⟨rretB rfl pz37_0, ?_⟩))
      refine v_backc (c := c) (s := s) H oz_R2vcls_8 oz_R2vcls_19 Hₚ Oₚ (fun F37 A37 H Oₚ eF37 eA37 => ?_)
      have O := OUT_trans O Oₚ
      -- PackHouse.isPart
      have cF37 : SF oz_R2vclsl_0 F F37 := SF_trans (cF10) (SF_gluc (ι := oz_R2vclsl_8) oz_R2vcls_19 hS37 eF37 (by decide +kernel)) (any_sub (lₚ := []) (by decide +kernel))
      have mF37 := SFm_of cF37 oz_R2vcls_10
      have cA37 : SA oz_R2vclsl_1 A A37 := SA_trans (cA10) (SA_gluc (ι := oz_R2vclsl_8) oz_R2vcls_19 hA37 eA37 (by decide +kernel)) (any_subA (lₚ := []) (by decide +kernel))
      have mA37 := SAm_of cA37 oz_R2vcls_11
      refine Ew_of (pcₚ := 22) (fun _ => x_istore rfl) ?_
      refine Ew_of (pcₚ := 23) (fun _ => x_aload_n rfl (rk_o (rfl) rfl rfl)) ?_
      refine v_g H (o := 0) (v := .ref (D 1)) rfl rfl rfl rfl rfl (vrf ((mF37 0 0 rfl).trans (pf1))) ?_
      refine Ew_of (pcₚ := 27) (fun _ => x_iload_n rfl (rk_o (rfl) rfl rfl)) ?_
      refine v_lR H (o := 1) rfl rfl rfl rfl rfl (n := n1) (en1) (show 0 ≤ a1 ∧ a1 < n1 from q_4728 b12 h4) (z := ((D 8 : Nat) : Int)) (v := .ref (D 8)) ((congrArg (A37 1) b12).trans ((mA37 1 rfl 3).trans (pf8))) (vrf rfl) ?_
      refine v_g H (o := 8) (v := .ref (D 9)) rfl rfl rfl rfl rfl (vrf ((mF37 8 0 rfl).trans (pf9))) ?_
      refine Ew_of (pcₚ := 33) (fun _ => x_iload rfl rk_s) ?_
      refine w_ifeq (t := 40) rfl rfl (show inr (z37) from q_138 pz37_0) (fun b38 => ?_) (fun b38 => ?_)
      · refine Ew_of (pcₚ := 41) (fun _ => x_iconst rfl) ?_
        refine Ew_of (pcₚ := 43) (fun _ => x_iload rfl rk_s) ?_
        refine w_ifeq (t := 50) rfl rfl (show inr (z37) from q_123 b38) (fun b39 => ?_) (fun b39 => ?_)
        · refine Ew_of (pcₚ := 51) (fun _ => x_iconst rfl) ?_
          refine Ew_of (pcₚ := 53) (fun _ => x_iload rfl (rk_o (rfl) rfl rfl)) ?_
          refine w_stat24 rfl rfl (by rfl) (C49_Br (D := puc 9 D) (N := puc 9 N) (HW_subc H oz_R2vcls_9 oz_R2vcls_20) (n9) (en9) (w9) ((funext (mA37 9 rfl)).trans (ew9)) (show inr (0) from q_2) (show inr (0) from q_2) (show inr (a4) from h3) (show 0 ≤ (0) ∧ (0) ≤ (0) ∧ (0) ≤ (n9) from q_5037 (HIDe r9)) (fun z40 σ40 F40ₚ A40ₚ Hₚ Oₚ hS40 hA40 pz40_0 pz40_1 => ⟨rfl, ?_⟩))
          refine v_backc (c := c) (s := s) H oz_R2vcls_9 oz_R2vcls_20 Hₚ Oₚ (fun F40 A40 H Oₚ eF40 eA40 => ?_)
          have O := OUT_trans O Oₚ
          -- PackHouse.narrowSum
          have cF40 : SF oz_R2vclsl_0 F F40 := SF_trans (cF37) (SF_gluc (ι := oz_R2vclsl_9) oz_R2vcls_20 hS40 eF40 (by decide +kernel)) (any_sub (lₚ := []) (by decide +kernel))
          have mF40 := SFm_of cF40 oz_R2vcls_10
          have cA40 : SA oz_R2vclsl_1 A A40 := SA_trans (cA37) (SA_gluc (ι := oz_R2vclsl_9) oz_R2vcls_20 hA40 eA40 (by decide +kernel)) (any_subA (lₚ := []) (by decide +kernel))
          have mA40 := SAm_of cA40 oz_R2vcls_11
          have h0_0 : IMP ((a1) = 0) ((z40) = NSL (prL (sc ((w3)) 0 ((u2_1))) ((a2)) ((a3))) ((a4))) := by exact fun q => absurd q (by (have qg0 := HIDe r1; omega))
          have h0_1 : IMP ((a1) = 1) ((z40) = NSL (prL (sc ((w5)) 0 ((u4_1))) ((a2)) ((a3))) ((a4))) := by exact fun q => absurd q (by (have qg0 := HIDe r2; omega))
          have h0_2 : IMP ((a1) = 2) ((z40) = NSL (prL (sc ((w7)) 0 ((u6_1))) ((a2)) ((a3))) ((a4))) := by exact fun q => absurd q (by (have qg0 := HIDe r3; omega))
          have h0_3 : IMP ((a1) = 3) ((z40) = NSL (prL (sc ((w9)) 0 ((u8_1))) ((a2)) ((a3))) ((a4))) := by exact fun q => (pz40_1).trans (by (rw [NSM_L (b := 0) (by (have qg0 := HIDe r4; omega)) (by (have qg0 := HIDe r4; omega)), pr_nil (f := (w9)) (n := (u8_1)) (L := sc ((w9)) 0 ((u8_1))) rfl (by (have qg0 := HIDe r4; omega)) (by (have qg0 := HIDe r4; omega)), sc_nil (by (have qg0 := HIDe r4; omega))]))
          exact w_ireturn rfl (k (z40) _ _ _ H O (cF40) (cA40) (show inr (z40) from pz40_0) (show 0 ≤ a1 ∧ a1 ≤ 3 ∨ (z40) = 0 from q_5041 b12) (h0_0) (h0_1) (h0_2) (h0_3))
        · refine Ew_of (pcₚ := 47) (fun _ => x_iload_n rfl (rk_o (rfl) rfl rfl)) ?_
          refine Ew_of (pcₚ := 51) (fun _ => x_goto rfl rfl) ?_
          refine Ew_of (pcₚ := 53) (fun _ => x_iload rfl (rk_o (rfl) rfl rfl)) ?_
          refine w_stat24 rfl rfl (by rfl) (C49_Br (D := puc 9 D) (N := puc 9 N) (HW_subc H oz_R2vcls_9 oz_R2vcls_20) (n9) (en9) (w9) ((funext (mA37 9 rfl)).trans (ew9)) (show inr (0) from q_2) (show inr (a3) from h2) (show inr (a4) from h3) (show 0 ≤ (0) ∧ (0) ≤ (a3) ∧ (a3) ≤ (n9) by have qh0 := HIDe r9; omega) (fun z41 σ41 F41ₚ A41ₚ Hₚ Oₚ hS41 hA41 pz41_0 pz41_1 => ⟨rfl, ?_⟩))
          refine v_backc (c := c) (s := s) H oz_R2vcls_9 oz_R2vcls_20 Hₚ Oₚ (fun F41 A41 H Oₚ eF41 eA41 => ?_)
          have O := OUT_trans O Oₚ
          -- PackHouse.narrowSum
          have cF41 : SF oz_R2vclsl_0 F F41 := SF_trans (cF37) (SF_gluc (ι := oz_R2vclsl_9) oz_R2vcls_20 hS41 eF41 (by decide +kernel)) (any_sub (lₚ := []) (by decide +kernel))
          have mF41 := SFm_of cF41 oz_R2vcls_10
          have cA41 : SA oz_R2vclsl_1 A A41 := SA_trans (cA37) (SA_gluc (ι := oz_R2vclsl_9) oz_R2vcls_20 hA41 eA41 (by decide +kernel)) (any_subA (lₚ := []) (by decide +kernel))
          have mA41 := SAm_of cA41 oz_R2vcls_11
          have h0_0 : IMP ((a1) = 0) ((z41) = NSL (prL (sc ((w3)) 0 ((u2_1))) ((a2)) ((a3))) ((a4))) := by exact fun q => absurd q (by (have qg0 := HIDe r1; omega))
          have h0_1 : IMP ((a1) = 1) ((z41) = NSL (prL (sc ((w5)) 0 ((u4_1))) ((a2)) ((a3))) ((a4))) := by exact fun q => absurd q (by (have qg0 := HIDe r2; omega))
          have h0_2 : IMP ((a1) = 2) ((z41) = NSL (prL (sc ((w7)) 0 ((u6_1))) ((a2)) ((a3))) ((a4))) := by exact fun q => absurd q (by (have qg0 := HIDe r3; omega))
          have h0_3 : IMP ((a1) = 3) ((z41) = NSL (prL (sc ((w9)) 0 ((u8_1))) ((a2)) ((a3))) ((a4))) := by exact fun q => absurd q (by (have qg0 := HIDe r4; omega))
          exact w_ireturn rfl (k (z41) _ _ _ H O (cF41) (cA41) (show inr (z41) from pz41_0) (show 0 ≤ a1 ∧ a1 ≤ 3 ∨ (z41) = 0 from q_5041 b12) (h0_0) (h0_1) (h0_2) (h0_3))
      · refine Ew_of (pcₚ := 37) (fun _ => x_iload_n rfl (rk_o (rfl) rfl rfl)) ?_
        refine Ew_of (pcₚ := 41) (fun _ => x_goto rfl rfl) ?_
        refine Ew_of (pcₚ := 43) (fun _ => x_iload rfl rk_s) ?_
        refine w_ifeq (t := 50) rfl rfl (show inr (z37) from q_138 pz37_0) (fun b42 => ?_) (fun b42 => ?_)
        · refine Ew_of (pcₚ := 51) (fun _ => x_iconst rfl) ?_
          refine Ew_of (pcₚ := 53) (fun _ => x_iload rfl (rk_o (rfl) rfl rfl)) ?_
          refine w_stat24 rfl rfl (by rfl) (C49_Br (D := puc 9 D) (N := puc 9 N) (HW_subc H oz_R2vcls_9 oz_R2vcls_20) (n9) (en9) (w9) ((funext (mA37 9 rfl)).trans (ew9)) (show inr (a2) from h1) (show inr (0) from q_2) (show inr (a4) from h3) (show 0 ≤ (a2) ∧ (a2) ≤ (0) ∧ (0) ≤ (n9) by have qh0 := HIDe r9; omega) (fun z43 σ43 F43ₚ A43ₚ Hₚ Oₚ hS43 hA43 pz43_0 pz43_1 => ⟨rfl, ?_⟩))
          refine v_backc (c := c) (s := s) H oz_R2vcls_9 oz_R2vcls_20 Hₚ Oₚ (fun F43 A43 H Oₚ eF43 eA43 => ?_)
          have O := OUT_trans O Oₚ
          -- PackHouse.narrowSum
          have cF43 : SF oz_R2vclsl_0 F F43 := SF_trans (cF37) (SF_gluc (ι := oz_R2vclsl_9) oz_R2vcls_20 hS43 eF43 (by decide +kernel)) (any_sub (lₚ := []) (by decide +kernel))
          have mF43 := SFm_of cF43 oz_R2vcls_10
          have cA43 : SA oz_R2vclsl_1 A A43 := SA_trans (cA37) (SA_gluc (ι := oz_R2vclsl_9) oz_R2vcls_20 hA43 eA43 (by decide +kernel)) (any_subA (lₚ := []) (by decide +kernel))
          have mA43 := SAm_of cA43 oz_R2vcls_11
          have h0_0 : IMP ((a1) = 0) ((z43) = NSL (prL (sc ((w3)) 0 ((u2_1))) ((a2)) ((a3))) ((a4))) := by exact fun q => absurd q (by (have qg0 := HIDe r1; omega))
          have h0_1 : IMP ((a1) = 1) ((z43) = NSL (prL (sc ((w5)) 0 ((u4_1))) ((a2)) ((a3))) ((a4))) := by exact fun q => absurd q (by (have qg0 := HIDe r2; omega))
          have h0_2 : IMP ((a1) = 2) ((z43) = NSL (prL (sc ((w7)) 0 ((u6_1))) ((a2)) ((a3))) ((a4))) := by exact fun q => absurd q (by (have qg0 := HIDe r3; omega))
          have h0_3 : IMP ((a1) = 3) ((z43) = NSL (prL (sc ((w9)) 0 ((u8_1))) ((a2)) ((a3))) ((a4))) := by exact fun q => absurd q (by (have qg0 := HIDe r4; omega))
          exact w_ireturn rfl (k (z43) _ _ _ H O (cF43) (cA43) (show inr (z43) from pz43_0) (show 0 ≤ a1 ∧ a1 ≤ 3 ∨ (z43) = 0 from q_5041 b12) (h0_0) (h0_1) (h0_2) (h0_3))
        · refine Ew_of (pcₚ := 47) (fun _ => x_iload_n rfl (rk_o (rfl) rfl rfl)) ?_
          refine Ew_of (pcₚ := 51) (fun _ => x_goto rfl rfl) ?_
          refine Ew_of (pcₚ := 53) (fun _ => x_iload rfl (rk_o (rfl) rfl rfl)) ?_
          refine w_stat24 rfl rfl (by rfl) (C49_Br (D := puc 9 D) (N := puc 9 N) (HW_subc H oz_R2vcls_9 oz_R2vcls_20) (n9) (en9) (w9) ((funext (mA37 9 rfl)).trans (ew9)) (show inr (a2) from h1) (show inr (a3) from h2) (show inr (a4) from h3) (show 0 ≤ (a2) ∧ (a2) ≤ (a3) ∧ (a3) ≤ (n9) by have qh0 := HIDe r9; omega) (fun z44 σ44 F44ₚ A44ₚ Hₚ Oₚ hS44 hA44 pz44_0 pz44_1 => ⟨rfl, ?_⟩))
          refine v_backc (c := c) (s := s) H oz_R2vcls_9 oz_R2vcls_20 Hₚ Oₚ (fun F44 A44 H Oₚ eF44 eA44 => ?_)
          have O := OUT_trans O Oₚ
          -- PackHouse.narrowSum
          have cF44 : SF oz_R2vclsl_0 F F44 := SF_trans (cF37) (SF_gluc (ι := oz_R2vclsl_9) oz_R2vcls_20 hS44 eF44 (by decide +kernel)) (any_sub (lₚ := []) (by decide +kernel))
          have mF44 := SFm_of cF44 oz_R2vcls_10
          have cA44 : SA oz_R2vclsl_1 A A44 := SA_trans (cA37) (SA_gluc (ι := oz_R2vclsl_9) oz_R2vcls_20 hA44 eA44 (by decide +kernel)) (any_subA (lₚ := []) (by decide +kernel))
          have mA44 := SAm_of cA44 oz_R2vcls_11
          have h0_0 : IMP ((a1) = 0) ((z44) = NSL (prL (sc ((w3)) 0 ((u2_1))) ((a2)) ((a3))) ((a4))) := by exact fun q => absurd q (by (have qg0 := HIDe r1; omega))
          have h0_1 : IMP ((a1) = 1) ((z44) = NSL (prL (sc ((w5)) 0 ((u4_1))) ((a2)) ((a3))) ((a4))) := by exact fun q => absurd q (by (have qg0 := HIDe r2; omega))
          have h0_2 : IMP ((a1) = 2) ((z44) = NSL (prL (sc ((w7)) 0 ((u6_1))) ((a2)) ((a3))) ((a4))) := by exact fun q => absurd q (by (have qg0 := HIDe r3; omega))
          have h0_3 : IMP ((a1) = 3) ((z44) = NSL (prL (sc ((w9)) 0 ((u8_1))) ((a2)) ((a3))) ((a4))) := by exact fun q => (pz44_1).trans (by (rw [NSM_L (b := (a3)) (by (have qg0 := HIDe r4; omega)) (by (have qg0 := HIDe r4; omega)), pr_sc (f := (w9)) (n := (u8_1)) (L := sc ((w9)) 0 ((u8_1))) rfl (by (have qg0 := HIDe r4; omega))]))
          exact w_ireturn rfl (k (z44) _ _ _ H O (cF44) (cA44) (show inr (z44) from pz44_0) (show 0 ≤ a1 ∧ a1 ≤ 3 ∨ (z44) = 0 from q_5041 b12) (h0_0) (h0_1) (h0_2) (h0_3))
  · refine Ew_of (pcₚ := 8) (fun _ => x_iconst rfl) ?_
    have h0_0 : IMP ((a1) = 0) (0 = NSL (prL (sc ((w3)) 0 ((u2_1))) ((a2)) ((a3))) ((a4))) := fun q => absurd q (by (have qg0 := HIDe r1; omega))
    have h0_1 : IMP ((a1) = 1) (0 = NSL (prL (sc ((w5)) 0 ((u4_1))) ((a2)) ((a3))) ((a4))) := fun q => absurd q (by (have qg0 := HIDe r2; omega))
    have h0_2 : IMP ((a1) = 2) (0 = NSL (prL (sc ((w7)) 0 ((u6_1))) ((a2)) ((a3))) ((a4))) := fun q => absurd q (by (have qg0 := HIDe r3; omega))
    have h0_3 : IMP ((a1) = 3) (0 = NSL (prL (sc ((w9)) 0 ((u8_1))) ((a2)) ((a3))) ((a4))) := fun q => absurd q (by (have qg0 := HIDe r4; omega))
    exact w_ireturn rfl (k (0) _ _ _ H O (cF10) (cA10) (show inr (0) from q_2) (show 0 ≤ a1 ∧ a1 ≤ 3 ∨ (0) = 0 by exact q_4966) (h0_0) (h0_1) (h0_2) (h0_3))
theorem len_V12_oz_R2vcls : (V12).length = 10 := by decide +kernel
theorem oz_R2vcls_22 : vsub V12 V24 [] = true := by decide +kernel
theorem oz_R2vcls_23 : vsub V12 V27_Row [2] = true := by decide +kernel
theorem oz_R2vcls_24 : vsub V12 V51_Br [3] = true := by decide +kernel
theorem oz_R2vcls_25 : vsub V12 V27_Row [4] = true := by decide +kernel
theorem oz_R2vcls_26 : vsub V12 V51_Br [5] = true := by decide +kernel
theorem oz_R2vcls_27 : vsub V12 V27_Row [6] = true := by decide +kernel
theorem oz_R2vcls_28 : vsub V12 V51_Br [7] = true := by decide +kernel
theorem oz_R2vcls_29 : vsub V12 V27_Row [8] = true := by decide +kernel
theorem oz_R2vcls_30 : vsub V12 V51_Br [9] = true := by decide +kernel

theorem C12p {σE : rS} {D N : Nat → Nat} {F : hF} {A : hA} {d c s : Nat} {Q : wQ} (H : HW V12 σE D N F A) {a1 a2 a3 a4 : Int} (pf1 : HID (F 0 0 = (D 1 : Int))) (pf2 : HID (A 1 0 = (D 2 : Int))) (pf3 : HID (F 2 0 = (D 3 : Int))) (pf4 : HID (A 1 1 = (D 4 : Int))) (pf5 : HID (F 4 0 = (D 5 : Int))) (pf6 : HID (A 1 2 = (D 6 : Int))) (pf7 : HID (F 6 0 = (D 7 : Int))) (pf8 : HID (A 1 3 = (D 8 : Int))) (pf9 : HID (F 8 0 = (D 9 : Int))) (n1 : Int) (en1 : HID ((N 1 : Int) = n1)) (n3 : Int) (en3 : HID ((N 3 : Int) = n3)) (n5 : Int) (en5 : HID ((N 5 : Int) = n5)) (n7 : Int) (en7 : HID ((N 7 : Int) = n7)) (n9 : Int) (en9 : HID ((N 9 : Int) = n9)) (u2_1 : Int) (eu2_1 : HID (F 2 1 = u2_1)) (u4_1 : Int) (eu4_1 : HID (F 4 1 = u4_1)) (u6_1 : Int) (eu6_1 : HID (F 6 1 = u6_1)) (u8_1 : Int) (eu8_1 : HID (F 8 1 = u8_1)) (w3 : Int → Int) (ew3 : A 3 = w3) (w5 : Int → Int) (ew5 : A 5 = w5) (w7 : Int → Int) (ew7 : A 7 = w7) (w9 : Int → Int) (ew9 : A 9 = w9) (h0 : inr (a1)) (h1 : inr (a2)) (h2 : inr (a3)) (h3 : inrJ (a4)) (h4 : (n1) = 4) (h5 : 0 ≤ (u2_1) ∧ (u2_1) ≤ (n3) ∧ (n3) ≤ 65536) (h6 : 0 ≤ (u4_1) ∧ (u4_1) ≤ (n5) ∧ (n5) ≤ 65536) (h7 : 0 ≤ (u6_1) ∧ (u6_1) ≤ (n7) ∧ (n7) ≤ 65536) (h8 : 0 ≤ (u8_1) ∧ (u8_1) ≤ (n9) ∧ (n9) ≤ 65536) (k : ∀ (z : Int) (σ : rS) (Fₚ : hF) (Aₚ : hA), HW V12 σ D N Fₚ Aₚ → OUT (V12).length D N σE c s D N σ c s → SF [] F Fₚ → SA [] A Aₚ → (inrJ (z)) → (0 ≤ (a1) ∧ (a1) ≤ 3 ∨ (z) = 0) → (IMP ((a1) = 0) ((z) = WDX (prL (sc ((w3)) 0 ((u2_1))) ((a2)) ((a3))) ((a4)))) → (IMP ((a1) = 1) ((z) = WDX (prL (sc ((w5)) 0 ((u4_1))) ((a2)) ((a3))) ((a4)))) → (IMP ((a1) = 2) ((z) = WDX (prL (sc ((w7)) 0 ((u6_1))) ((a2)) ((a3))) ((a4)))) → (IMP ((a1) = 3) ((z) = WDX (prL (sc ((w9)) 0 ((u8_1))) ((a2)) ((a3))) ((a4)))) → Q (some (J z)) σ c s) : Ew 12 (d + 4) 0 (rargs 0 [.ref (D 0), I a1, I a2, I a3, J a4]) [] σE c s Q := by
  have O := OUT_refl (n := (V12).length) (D := D) (N := N) (σ := σE) (c := c) (s := s)
  have HE := H
  have r1 : HID ((-2147483648 : Int) ≤ u2_1 ∧ u2_1 ≤ 2147483647) := krg_e (show (-2147483648 : Int) ≤ F 2 1 ∧ F 2 1 ≤ 2147483647 from H.krg 2 1 (ltn len_V12_oz_R2vcls rfl)) (show F 2 1 = u2_1 from (eu2_1))
  have r2 : HID ((-2147483648 : Int) ≤ u4_1 ∧ u4_1 ≤ 2147483647) := krg_e (show (-2147483648 : Int) ≤ F 4 1 ∧ F 4 1 ≤ 2147483647 from H.krg 4 1 (ltn len_V12_oz_R2vcls rfl)) (show F 4 1 = u4_1 from (eu4_1))
  have r3 : HID ((-2147483648 : Int) ≤ u6_1 ∧ u6_1 ≤ 2147483647) := krg_e (show (-2147483648 : Int) ≤ F 6 1 ∧ F 6 1 ≤ 2147483647 from H.krg 6 1 (ltn len_V12_oz_R2vcls rfl)) (show F 6 1 = u6_1 from (eu6_1))
  have r4 : HID ((-2147483648 : Int) ≤ u8_1 ∧ u8_1 ≤ 2147483647) := krg_e (show (-2147483648 : Int) ≤ F 8 1 ∧ F 8 1 ≤ 2147483647 from H.krg 8 1 (ltn len_V12_oz_R2vcls rfl)) (show F 8 1 = u8_1 from (eu8_1))
  have r5 : HID ((0 : Int) ≤ n1 ∧ n1 ≤ 1000000) := nrng (H.nle 1 (ltn len_V12_oz_R2vcls rfl)) (show (N 1 : Int) = n1 from en1)
  have r6 : HID ((0 : Int) ≤ n3 ∧ n3 ≤ 1000000) := nrng (H.nle 3 (ltn len_V12_oz_R2vcls rfl)) (show (N 3 : Int) = n3 from en3)
  have r7 : HID ((0 : Int) ≤ n5 ∧ n5 ≤ 1000000) := nrng (H.nle 5 (ltn len_V12_oz_R2vcls rfl)) (show (N 5 : Int) = n5 from en5)
  have r8 : HID ((0 : Int) ≤ n7 ∧ n7 ≤ 1000000) := nrng (H.nle 7 (ltn len_V12_oz_R2vcls rfl)) (show (N 7 : Int) = n7 from en7)
  have r9 : HID ((0 : Int) ≤ n9 ∧ n9 ≤ 1000000) := nrng (H.nle 9 (ltn len_V12_oz_R2vcls rfl)) (show (N 9 : Int) = n9 from en9)
  refine Ew_of (pcₚ := 1) (fun _ => x_iload_n rfl rfl) ?_
  refine w_stat24 rfl rfl (by rfl) (C24x (D := puc 0 D) (N := puc 0 N) (HW_subc H oz_R2vcls_22 oz_R2vcls_12) (show inr (a1) from h0) (fun z10 σ10 F10ₚ A10ₚ Hₚ Oₚ hS10 hA10 pz10_0 pz10_1 => ⟨rretB rfl pz10_0, ?_⟩))
  refine v_backc (c := c) (s := s) H oz_R2vcls_22 oz_R2vcls_12 Hₚ Oₚ (fun F10 A10 H Oₚ eF10 eA10 => ?_)
  have O := OUT_trans O Oₚ
  -- PackHouse.isRow
  have cF10 : SF oz_R2vclsl_0 F F10 := SF_trans (SF_refl) (SF_gluc (ι := oz_R2vclsl_1) oz_R2vcls_12 hS10 eF10 (by decide +kernel)) (any_sub (lₚ := []) (by decide +kernel))
  have mF10 := SFm_of cF10 oz_R2vcls_10
  have cA10 : SA oz_R2vclsl_1 A A10 := SA_trans (SA_refl) (SA_gluc (ι := oz_R2vclsl_1) oz_R2vcls_12 hA10 eA10 (by decide +kernel)) (any_subA (lₚ := []) (by decide +kernel))
  have mA10 := SAm_of cA10 oz_R2vcls_11
  refine w_ifne (t := 9) rfl rfl (show inr (z10) from q_138 pz10_0) (fun b11 => ?_) (fun b11 => ?_)
  · refine Ew_of (pcₚ := 10) (fun _ => x_aload_n rfl rfl) ?_
    refine v_g H (o := 0) (v := .ref (D 1)) rfl rfl rfl rfl rfl (vrf ((mF10 0 0 rfl).trans (pf1))) ?_
    refine Ew_of (pcₚ := 14) (fun _ => x_iload_n rfl rfl) ?_
    rcases (show a1 = 0 ∨ a1 = 1 ∨ a1 = 2 ∨ a1 = 3 by omega) with b12 | b12 | b12 | b12
    · refine v_lR H (o := 1) rfl rfl rfl rfl rfl (n := n1) (en1) (show 0 ≤ a1 ∧ a1 < n1 from q_4724 (HIDe r5) b12 h4) (z := ((D 2 : Nat) : Int)) (v := .ref (D 2)) ((congrArg (A10 1) b12).trans ((mA10 1 rfl 0).trans (pf2))) (vrf rfl) ?_
      refine Ew_of (pcₚ := 16) (fun _ => x_iload_n rfl rfl) ?_
      refine Ew_of (pcₚ := 17) (fun _ => x_iload_n rfl rfl) ?_
      refine w_stat24 rfl rfl (by rfl) (C27_Rowp (D := puc 2 D) (N := puc 2 N) (HW_subc H oz_R2vcls_23 oz_R2vcls_13) (u2_1) (((mF10 2 1 rfl).trans (eu2_1))) (show inr (a2) from h1) (show inr (a3) from h2) (fun z13 σ13 F13ₚ A13ₚ Hₚ Oₚ hS13 hA13 pz13_0 pz13_1 => ⟨rretB rfl pz13_0, ?_⟩))
      refine v_backc (c := c) (s := s) H oz_R2vcls_23 oz_R2vcls_13 Hₚ Oₚ (fun F13 A13 H Oₚ eF13 eA13 => ?_)
      have O := OUT_trans O Oₚ
      -- PackHouse.isPart
      have cF13 : SF oz_R2vclsl_0 F F13 := SF_trans (cF10) (SF_gluc (ι := oz_R2vclsl_2) oz_R2vcls_13 hS13 eF13 (by decide +kernel)) (any_sub (lₚ := []) (by decide +kernel))
      have mF13 := SFm_of cF13 oz_R2vcls_10
      have cA13 : SA oz_R2vclsl_1 A A13 := SA_trans (cA10) (SA_gluc (ι := oz_R2vclsl_2) oz_R2vcls_13 hA13 eA13 (by decide +kernel)) (any_subA (lₚ := []) (by decide +kernel))
      have mA13 := SAm_of cA13 oz_R2vcls_11
      refine Ew_of (pcₚ := 22) (fun _ => x_istore rfl) ?_
      refine Ew_of (pcₚ := 23) (fun _ => x_aload_n rfl (rk_o (rfl) rfl rfl)) ?_
      refine v_g H (o := 0) (v := .ref (D 1)) rfl rfl rfl rfl rfl (vrf ((mF13 0 0 rfl).trans (pf1))) ?_
      refine Ew_of (pcₚ := 27) (fun _ => x_iload_n rfl (rk_o (rfl) rfl rfl)) ?_
      refine v_lR H (o := 1) rfl rfl rfl rfl rfl (n := n1) (en1) (show 0 ≤ a1 ∧ a1 < n1 from q_4724 (HIDe r5) b12 h4) (z := ((D 2 : Nat) : Int)) (v := .ref (D 2)) ((congrArg (A13 1) b12).trans ((mA13 1 rfl 0).trans (pf2))) (vrf rfl) ?_
      refine v_g H (o := 2) (v := .ref (D 3)) rfl rfl rfl rfl rfl (vrf ((mF13 2 0 rfl).trans (pf3))) ?_
      refine Ew_of (pcₚ := 33) (fun _ => x_iload rfl rk_s) ?_
      refine w_ifeq (t := 40) rfl rfl (show inr (z13) from q_138 pz13_0) (fun b14 => ?_) (fun b14 => ?_)
      · refine Ew_of (pcₚ := 41) (fun _ => x_iconst rfl) ?_
        refine Ew_of (pcₚ := 43) (fun _ => x_iload rfl rk_s) ?_
        refine w_ifeq (t := 50) rfl rfl (show inr (z13) from q_123 b14) (fun b15 => ?_) (fun b15 => ?_)
        · refine Ew_of (pcₚ := 51) (fun _ => x_iconst rfl) ?_
          refine Ew_of (pcₚ := 53) (fun _ => x_lload rfl (rk_o (rfl) rfl rfl)) ?_
          refine w_stat24 rfl rfl (by rfl) (C51_Br (D := puc 3 D) (N := puc 3 N) (HW_subc H oz_R2vcls_24 oz_R2vcls_14) (n3) (en3) (w3) ((funext (mA13 3 rfl)).trans (ew3)) (show inr (0) from q_2) (show inr (0) from q_2) (show inrJ (a4) from h3) (show 0 ≤ (0) ∧ (0) ≤ (0) ∧ (0) ≤ (n3) from q_5037 (HIDe r6)) (fun z16 σ16 F16ₚ A16ₚ Hₚ Oₚ hS16 hA16 pz16_0 pz16_1 => ⟨rfl, ?_⟩))
          refine v_backc (c := c) (s := s) H oz_R2vcls_24 oz_R2vcls_14 Hₚ Oₚ (fun F16 A16 H Oₚ eF16 eA16 => ?_)
          have O := OUT_trans O Oₚ
          -- PackHouse.wideSum
          have cF16 : SF oz_R2vclsl_0 F F16 := SF_trans (cF13) (SF_gluc (ι := oz_R2vclsl_3) oz_R2vcls_14 hS16 eF16 (by decide +kernel)) (any_sub (lₚ := []) (by decide +kernel))
          have mF16 := SFm_of cF16 oz_R2vcls_10
          have cA16 : SA oz_R2vclsl_1 A A16 := SA_trans (cA13) (SA_gluc (ι := oz_R2vclsl_3) oz_R2vcls_14 hA16 eA16 (by decide +kernel)) (any_subA (lₚ := []) (by decide +kernel))
          have mA16 := SAm_of cA16 oz_R2vcls_11
          have h0_0 : IMP ((a1) = 0) ((z16) = WDX (prL (sc ((w3)) 0 ((u2_1))) ((a2)) ((a3))) ((a4))) := by exact fun q => (pz16_1).trans (by (rw [WDS_X (b := 0) (by (have qg0 := HIDe r1; omega)) (by (have qg0 := HIDe r1; omega)), pr_nil (f := (w3)) (n := (u2_1)) (L := sc ((w3)) 0 ((u2_1))) rfl (by (have qg0 := HIDe r1; omega)) (by (have qg0 := HIDe r1; omega)), sc_nil (by (have qg0 := HIDe r1; omega))]))
          have h0_1 : IMP ((a1) = 1) ((z16) = WDX (prL (sc ((w5)) 0 ((u4_1))) ((a2)) ((a3))) ((a4))) := by exact fun q => absurd q (by (have qg0 := HIDe r2; omega))
          have h0_2 : IMP ((a1) = 2) ((z16) = WDX (prL (sc ((w7)) 0 ((u6_1))) ((a2)) ((a3))) ((a4))) := by exact fun q => absurd q (by (have qg0 := HIDe r3; omega))
          have h0_3 : IMP ((a1) = 3) ((z16) = WDX (prL (sc ((w9)) 0 ((u8_1))) ((a2)) ((a3))) ((a4))) := by exact fun q => absurd q (by (have qg0 := HIDe r4; omega))
          exact w_lreturn rfl (k (z16) _ _ _ H O (cF16) (cA16) (show inrJ (z16) from pz16_0) (show 0 ≤ a1 ∧ a1 ≤ 3 ∨ (z16) = 0 from q_5038 b12) (h0_0) (h0_1) (h0_2) (h0_3))
        · refine Ew_of (pcₚ := 47) (fun _ => x_iload_n rfl (rk_o (rfl) rfl rfl)) ?_
          refine Ew_of (pcₚ := 51) (fun _ => x_goto rfl rfl) ?_
          refine Ew_of (pcₚ := 53) (fun _ => x_lload rfl (rk_o (rfl) rfl rfl)) ?_
          refine w_stat24 rfl rfl (by rfl) (C51_Br (D := puc 3 D) (N := puc 3 N) (HW_subc H oz_R2vcls_24 oz_R2vcls_14) (n3) (en3) (w3) ((funext (mA13 3 rfl)).trans (ew3)) (show inr (0) from q_2) (show inr (a3) from h2) (show inrJ (a4) from h3) (show 0 ≤ (0) ∧ (0) ≤ (a3) ∧ (a3) ≤ (n3) by have qh0 := HIDe r6; omega) (fun z17 σ17 F17ₚ A17ₚ Hₚ Oₚ hS17 hA17 pz17_0 pz17_1 => ⟨rfl, ?_⟩))
          refine v_backc (c := c) (s := s) H oz_R2vcls_24 oz_R2vcls_14 Hₚ Oₚ (fun F17 A17 H Oₚ eF17 eA17 => ?_)
          have O := OUT_trans O Oₚ
          -- PackHouse.wideSum
          have cF17 : SF oz_R2vclsl_0 F F17 := SF_trans (cF13) (SF_gluc (ι := oz_R2vclsl_3) oz_R2vcls_14 hS17 eF17 (by decide +kernel)) (any_sub (lₚ := []) (by decide +kernel))
          have mF17 := SFm_of cF17 oz_R2vcls_10
          have cA17 : SA oz_R2vclsl_1 A A17 := SA_trans (cA13) (SA_gluc (ι := oz_R2vclsl_3) oz_R2vcls_14 hA17 eA17 (by decide +kernel)) (any_subA (lₚ := []) (by decide +kernel))
          have mA17 := SAm_of cA17 oz_R2vcls_11
          have h0_0 : IMP ((a1) = 0) ((z17) = WDX (prL (sc ((w3)) 0 ((u2_1))) ((a2)) ((a3))) ((a4))) := by exact fun q => absurd q (by (have qg0 := HIDe r1; omega))
          have h0_1 : IMP ((a1) = 1) ((z17) = WDX (prL (sc ((w5)) 0 ((u4_1))) ((a2)) ((a3))) ((a4))) := by exact fun q => absurd q (by (have qg0 := HIDe r2; omega))
          have h0_2 : IMP ((a1) = 2) ((z17) = WDX (prL (sc ((w7)) 0 ((u6_1))) ((a2)) ((a3))) ((a4))) := by exact fun q => absurd q (by (have qg0 := HIDe r3; omega))
          have h0_3 : IMP ((a1) = 3) ((z17) = WDX (prL (sc ((w9)) 0 ((u8_1))) ((a2)) ((a3))) ((a4))) := by exact fun q => absurd q (by (have qg0 := HIDe r4; omega))
          exact w_lreturn rfl (k (z17) _ _ _ H O (cF17) (cA17) (show inrJ (z17) from pz17_0) (show 0 ≤ a1 ∧ a1 ≤ 3 ∨ (z17) = 0 from q_5038 b12) (h0_0) (h0_1) (h0_2) (h0_3))
      · refine Ew_of (pcₚ := 37) (fun _ => x_iload_n rfl (rk_o (rfl) rfl rfl)) ?_
        refine Ew_of (pcₚ := 41) (fun _ => x_goto rfl rfl) ?_
        refine Ew_of (pcₚ := 43) (fun _ => x_iload rfl rk_s) ?_
        refine w_ifeq (t := 50) rfl rfl (show inr (z13) from q_138 pz13_0) (fun b18 => ?_) (fun b18 => ?_)
        · refine Ew_of (pcₚ := 51) (fun _ => x_iconst rfl) ?_
          refine Ew_of (pcₚ := 53) (fun _ => x_lload rfl (rk_o (rfl) rfl rfl)) ?_
          refine w_stat24 rfl rfl (by rfl) (C51_Br (D := puc 3 D) (N := puc 3 N) (HW_subc H oz_R2vcls_24 oz_R2vcls_14) (n3) (en3) (w3) ((funext (mA13 3 rfl)).trans (ew3)) (show inr (a2) from h1) (show inr (0) from q_2) (show inrJ (a4) from h3) (show 0 ≤ (a2) ∧ (a2) ≤ (0) ∧ (0) ≤ (n3) by have qh0 := HIDe r6; omega) (fun z19 σ19 F19ₚ A19ₚ Hₚ Oₚ hS19 hA19 pz19_0 pz19_1 => ⟨rfl, ?_⟩))
          refine v_backc (c := c) (s := s) H oz_R2vcls_24 oz_R2vcls_14 Hₚ Oₚ (fun F19 A19 H Oₚ eF19 eA19 => ?_)
          have O := OUT_trans O Oₚ
          -- PackHouse.wideSum
          have cF19 : SF oz_R2vclsl_0 F F19 := SF_trans (cF13) (SF_gluc (ι := oz_R2vclsl_3) oz_R2vcls_14 hS19 eF19 (by decide +kernel)) (any_sub (lₚ := []) (by decide +kernel))
          have mF19 := SFm_of cF19 oz_R2vcls_10
          have cA19 : SA oz_R2vclsl_1 A A19 := SA_trans (cA13) (SA_gluc (ι := oz_R2vclsl_3) oz_R2vcls_14 hA19 eA19 (by decide +kernel)) (any_subA (lₚ := []) (by decide +kernel))
          have mA19 := SAm_of cA19 oz_R2vcls_11
          have h0_0 : IMP ((a1) = 0) ((z19) = WDX (prL (sc ((w3)) 0 ((u2_1))) ((a2)) ((a3))) ((a4))) := by exact fun q => absurd q (by (have qg0 := HIDe r1; omega))
          have h0_1 : IMP ((a1) = 1) ((z19) = WDX (prL (sc ((w5)) 0 ((u4_1))) ((a2)) ((a3))) ((a4))) := by exact fun q => absurd q (by (have qg0 := HIDe r2; omega))
          have h0_2 : IMP ((a1) = 2) ((z19) = WDX (prL (sc ((w7)) 0 ((u6_1))) ((a2)) ((a3))) ((a4))) := by exact fun q => absurd q (by (have qg0 := HIDe r3; omega))
          have h0_3 : IMP ((a1) = 3) ((z19) = WDX (prL (sc ((w9)) 0 ((u8_1))) ((a2)) ((a3))) ((a4))) := by exact fun q => absurd q (by (have qg0 := HIDe r4; omega))
          exact w_lreturn rfl (k (z19) _ _ _ H O (cF19) (cA19) (show inrJ (z19) from pz19_0) (show 0 ≤ a1 ∧ a1 ≤ 3 ∨ (z19) = 0 from q_5038 b12) (h0_0) (h0_1) (h0_2) (h0_3))
        · refine Ew_of (pcₚ := 47) (fun _ => x_iload_n rfl (rk_o (rfl) rfl rfl)) ?_
          refine Ew_of (pcₚ := 51) (fun _ => x_goto rfl rfl) ?_
          refine Ew_of (pcₚ := 53) (fun _ => x_lload rfl (rk_o (rfl) rfl rfl)) ?_
          refine w_stat24 rfl rfl (by rfl) (C51_Br (D := puc 3 D) (N := puc 3 N) (HW_subc H oz_R2vcls_24 oz_R2vcls_14) (n3) (en3) (w3) ((funext (mA13 3 rfl)).trans (ew3)) (show inr (a2) from h1) (show inr (a3) from h2) (show inrJ (a4) from h3) (show 0 ≤ (a2) ∧ (a2) ≤ (a3) ∧ (a3) ≤ (n3) by have qh0 := HIDe r6; omega) (fun z20 σ20 F20ₚ A20ₚ Hₚ Oₚ hS20 hA20 pz20_0 pz20_1 => ⟨rfl, ?_⟩))
          refine v_backc (c := c) (s := s) H oz_R2vcls_24 oz_R2vcls_14 Hₚ Oₚ (fun F20 A20 H Oₚ eF20 eA20 => ?_)
          have O := OUT_trans O Oₚ
          -- PackHouse.wideSum
          have cF20 : SF oz_R2vclsl_0 F F20 := SF_trans (cF13) (SF_gluc (ι := oz_R2vclsl_3) oz_R2vcls_14 hS20 eF20 (by decide +kernel)) (any_sub (lₚ := []) (by decide +kernel))
          have mF20 := SFm_of cF20 oz_R2vcls_10
          have cA20 : SA oz_R2vclsl_1 A A20 := SA_trans (cA13) (SA_gluc (ι := oz_R2vclsl_3) oz_R2vcls_14 hA20 eA20 (by decide +kernel)) (any_subA (lₚ := []) (by decide +kernel))
          have mA20 := SAm_of cA20 oz_R2vcls_11
          have h0_0 : IMP ((a1) = 0) ((z20) = WDX (prL (sc ((w3)) 0 ((u2_1))) ((a2)) ((a3))) ((a4))) := by exact fun q => (pz20_1).trans (by (rw [WDS_X (b := (a3)) (by (have qg0 := HIDe r1; omega)) (by (have qg0 := HIDe r1; omega)), pr_sc (f := (w3)) (n := (u2_1)) (L := sc ((w3)) 0 ((u2_1))) rfl (by (have qg0 := HIDe r1; omega))]))
          have h0_1 : IMP ((a1) = 1) ((z20) = WDX (prL (sc ((w5)) 0 ((u4_1))) ((a2)) ((a3))) ((a4))) := by exact fun q => absurd q (by (have qg0 := HIDe r2; omega))
          have h0_2 : IMP ((a1) = 2) ((z20) = WDX (prL (sc ((w7)) 0 ((u6_1))) ((a2)) ((a3))) ((a4))) := by exact fun q => absurd q (by (have qg0 := HIDe r3; omega))
          have h0_3 : IMP ((a1) = 3) ((z20) = WDX (prL (sc ((w9)) 0 ((u8_1))) ((a2)) ((a3))) ((a4))) := by exact fun q => absurd q (by (have qg0 := HIDe r4; omega))
          exact w_lreturn rfl (k (z20) _ _ _ H O (cF20) (cA20) (show inrJ (z20) from pz20_0) (show 0 ≤ a1 ∧ a1 ≤ 3 ∨ (z20) = 0 from q_5038 b12) (h0_0) (h0_1) (h0_2) (h0_3))
    · refine v_lR H (o := 1) rfl rfl rfl rfl rfl (n := n1) (en1) (show 0 ≤ a1 ∧ a1 < n1 from q_4726 (HIDe r5) b12 h4) (z := ((D 4 : Nat) : Int)) (v := .ref (D 4)) ((congrArg (A10 1) b12).trans ((mA10 1 rfl 1).trans (pf4))) (vrf rfl) ?_
      refine Ew_of (pcₚ := 16) (fun _ => x_iload_n rfl rfl) ?_
      refine Ew_of (pcₚ := 17) (fun _ => x_iload_n rfl rfl) ?_
      refine w_stat24 rfl rfl (by rfl) (C27_Rowp (D := puc 4 D) (N := puc 4 N) (HW_subc H oz_R2vcls_25 oz_R2vcls_15) (u4_1) (((mF10 4 1 rfl).trans (eu4_1))) (show inr (a2) from h1) (show inr (a3) from h2) (fun z21 σ21 F21ₚ A21ₚ Hₚ Oₚ hS21 hA21 pz21_0 pz21_1 => ⟨rretB rfl pz21_0, ?_⟩))
      refine v_backc (c := c) (s := s) H oz_R2vcls_25 oz_R2vcls_15 Hₚ Oₚ (fun F21 A21 H Oₚ eF21 eA21 => ?_)
      have O := OUT_trans O Oₚ
      -- PackHouse.isPart
      have cF21 : SF oz_R2vclsl_0 F F21 := SF_trans (cF10) (SF_gluc (ι := oz_R2vclsl_4) oz_R2vcls_15 hS21 eF21 (by decide +kernel)) (any_sub (lₚ := []) (by decide +kernel))
      have mF21 := SFm_of cF21 oz_R2vcls_10
      have cA21 : SA oz_R2vclsl_1 A A21 := SA_trans (cA10) (SA_gluc (ι := oz_R2vclsl_4) oz_R2vcls_15 hA21 eA21 (by decide +kernel)) (any_subA (lₚ := []) (by decide +kernel))
      have mA21 := SAm_of cA21 oz_R2vcls_11
      refine Ew_of (pcₚ := 22) (fun _ => x_istore rfl) ?_
      refine Ew_of (pcₚ := 23) (fun _ => x_aload_n rfl (rk_o (rfl) rfl rfl)) ?_
      refine v_g H (o := 0) (v := .ref (D 1)) rfl rfl rfl rfl rfl (vrf ((mF21 0 0 rfl).trans (pf1))) ?_
      refine Ew_of (pcₚ := 27) (fun _ => x_iload_n rfl (rk_o (rfl) rfl rfl)) ?_
      refine v_lR H (o := 1) rfl rfl rfl rfl rfl (n := n1) (en1) (show 0 ≤ a1 ∧ a1 < n1 from q_4726 (HIDe r5) b12 h4) (z := ((D 4 : Nat) : Int)) (v := .ref (D 4)) ((congrArg (A21 1) b12).trans ((mA21 1 rfl 1).trans (pf4))) (vrf rfl) ?_
      refine v_g H (o := 4) (v := .ref (D 5)) rfl rfl rfl rfl rfl (vrf ((mF21 4 0 rfl).trans (pf5))) ?_
      refine Ew_of (pcₚ := 33) (fun _ => x_iload rfl rk_s) ?_
      refine w_ifeq (t := 40) rfl rfl (show inr (z21) from q_138 pz21_0) (fun b22 => ?_) (fun b22 => ?_)
      · refine Ew_of (pcₚ := 41) (fun _ => x_iconst rfl) ?_
        refine Ew_of (pcₚ := 43) (fun _ => x_iload rfl rk_s) ?_
        refine w_ifeq (t := 50) rfl rfl (show inr (z21) from q_123 b22) (fun b23 => ?_) (fun b23 => ?_)
        · refine Ew_of (pcₚ := 51) (fun _ => x_iconst rfl) ?_
          refine Ew_of (pcₚ := 53) (fun _ => x_lload rfl (rk_o (rfl) rfl rfl)) ?_
          refine w_stat24 rfl rfl (by rfl) (C51_Br (D := puc 5 D) (N := puc 5 N) (HW_subc H oz_R2vcls_26 oz_R2vcls_16) (n5) (en5) (w5) ((funext (mA21 5 rfl)).trans (ew5)) (show inr (0) from q_2) (show inr (0) from q_2) (show inrJ (a4) from h3) (show 0 ≤ (0) ∧ (0) ≤ (0) ∧ (0) ≤ (n5) from q_5037 (HIDe r7)) (fun z24 σ24 F24ₚ A24ₚ Hₚ Oₚ hS24 hA24 pz24_0 pz24_1 => ⟨rfl, ?_⟩))
          refine v_backc (c := c) (s := s) H oz_R2vcls_26 oz_R2vcls_16 Hₚ Oₚ (fun F24 A24 H Oₚ eF24 eA24 => ?_)
          have O := OUT_trans O Oₚ
          -- PackHouse.wideSum
          have cF24 : SF oz_R2vclsl_0 F F24 := SF_trans (cF21) (SF_gluc (ι := oz_R2vclsl_5) oz_R2vcls_16 hS24 eF24 (by decide +kernel)) (any_sub (lₚ := []) (by decide +kernel))
          have mF24 := SFm_of cF24 oz_R2vcls_10
          have cA24 : SA oz_R2vclsl_1 A A24 := SA_trans (cA21) (SA_gluc (ι := oz_R2vclsl_5) oz_R2vcls_16 hA24 eA24 (by decide +kernel)) (any_subA (lₚ := []) (by decide +kernel))
          have mA24 := SAm_of cA24 oz_R2vcls_11
          have h0_0 : IMP ((a1) = 0) ((z24) = WDX (prL (sc ((w3)) 0 ((u2_1))) ((a2)) ((a3))) ((a4))) := by exact fun q => absurd q (by (have qg0 := HIDe r1; omega))
          have h0_1 : IMP ((a1) = 1) ((z24) = WDX (prL (sc ((w5)) 0 ((u4_1))) ((a2)) ((a3))) ((a4))) := by exact fun q => (pz24_1).trans (by (rw [WDS_X (b := 0) (by (have qg0 := HIDe r2; omega)) (by (have qg0 := HIDe r2; omega)), pr_nil (f := (w5)) (n := (u4_1)) (L := sc ((w5)) 0 ((u4_1))) rfl (by (have qg0 := HIDe r2; omega)) (by (have qg0 := HIDe r2; omega)), sc_nil (by (have qg0 := HIDe r2; omega))]))
          have h0_2 : IMP ((a1) = 2) ((z24) = WDX (prL (sc ((w7)) 0 ((u6_1))) ((a2)) ((a3))) ((a4))) := by exact fun q => absurd q (by (have qg0 := HIDe r3; omega))
          have h0_3 : IMP ((a1) = 3) ((z24) = WDX (prL (sc ((w9)) 0 ((u8_1))) ((a2)) ((a3))) ((a4))) := by exact fun q => absurd q (by (have qg0 := HIDe r4; omega))
          exact w_lreturn rfl (k (z24) _ _ _ H O (cF24) (cA24) (show inrJ (z24) from pz24_0) (show 0 ≤ a1 ∧ a1 ≤ 3 ∨ (z24) = 0 from q_5039 b12) (h0_0) (h0_1) (h0_2) (h0_3))
        · refine Ew_of (pcₚ := 47) (fun _ => x_iload_n rfl (rk_o (rfl) rfl rfl)) ?_
          refine Ew_of (pcₚ := 51) (fun _ => x_goto rfl rfl) ?_
          refine Ew_of (pcₚ := 53) (fun _ => x_lload rfl (rk_o (rfl) rfl rfl)) ?_
          refine w_stat24 rfl rfl (by rfl) (C51_Br (D := puc 5 D) (N := puc 5 N) (HW_subc H oz_R2vcls_26 oz_R2vcls_16) (n5) (en5) (w5) ((funext (mA21 5 rfl)).trans (ew5)) (show inr (0) from q_2) (show inr (a3) from h2) (show inrJ (a4) from h3) (show 0 ≤ (0) ∧ (0) ≤ (a3) ∧ (a3) ≤ (n5) by have qh0 := HIDe r7; omega) (fun z25 σ25 F25ₚ A25ₚ Hₚ Oₚ hS25 hA25 pz25_0 pz25_1 => ⟨rfl, ?_⟩))
          refine v_backc (c := c) (s := s) H oz_R2vcls_26 oz_R2vcls_16 Hₚ Oₚ (fun F25 A25 H Oₚ eF25 eA25 => ?_)
          have O := OUT_trans O Oₚ
          -- PackHouse.wideSum
          have cF25 : SF oz_R2vclsl_0 F F25 := SF_trans (cF21) (SF_gluc (ι := oz_R2vclsl_5) oz_R2vcls_16 hS25 eF25 (by decide +kernel)) (any_sub (lₚ := []) (by decide +kernel))
          have mF25 := SFm_of cF25 oz_R2vcls_10
          have cA25 : SA oz_R2vclsl_1 A A25 := SA_trans (cA21) (SA_gluc (ι := oz_R2vclsl_5) oz_R2vcls_16 hA25 eA25 (by decide +kernel)) (any_subA (lₚ := []) (by decide +kernel))
          have mA25 := SAm_of cA25 oz_R2vcls_11
          have h0_0 : IMP ((a1) = 0) ((z25) = WDX (prL (sc ((w3)) 0 ((u2_1))) ((a2)) ((a3))) ((a4))) := by exact fun q => absurd q (by (have qg0 := HIDe r1; omega))
          have h0_1 : IMP ((a1) = 1) ((z25) = WDX (prL (sc ((w5)) 0 ((u4_1))) ((a2)) ((a3))) ((a4))) := by exact fun q => absurd q (by (have qg0 := HIDe r2; omega))
          have h0_2 : IMP ((a1) = 2) ((z25) = WDX (prL (sc ((w7)) 0 ((u6_1))) ((a2)) ((a3))) ((a4))) := by exact fun q => absurd q (by (have qg0 := HIDe r3; omega))
          have h0_3 : IMP ((a1) = 3) ((z25) = WDX (prL (sc ((w9)) 0 ((u8_1))) ((a2)) ((a3))) ((a4))) := by exact fun q => absurd q (by (have qg0 := HIDe r4; omega))
          exact w_lreturn rfl (k (z25) _ _ _ H O (cF25) (cA25) (show inrJ (z25) from pz25_0) (show 0 ≤ a1 ∧ a1 ≤ 3 ∨ (z25) = 0 from q_5039 b12) (h0_0) (h0_1) (h0_2) (h0_3))
      · refine Ew_of (pcₚ := 37) (fun _ => x_iload_n rfl (rk_o (rfl) rfl rfl)) ?_
        refine Ew_of (pcₚ := 41) (fun _ => x_goto rfl rfl) ?_
        refine Ew_of (pcₚ := 43) (fun _ => x_iload rfl rk_s) ?_
        refine w_ifeq (t := 50) rfl rfl (show inr (z21) from q_138 pz21_0) (fun b26 => ?_) (fun b26 => ?_)
        · refine Ew_of (pcₚ := 51) (fun _ => x_iconst rfl) ?_
          refine Ew_of (pcₚ := 53) (fun _ => x_lload rfl (rk_o (rfl) rfl rfl)) ?_
          refine w_stat24 rfl rfl (by rfl) (C51_Br (D := puc 5 D) (N := puc 5 N) (HW_subc H oz_R2vcls_26 oz_R2vcls_16) (n5) (en5) (w5) ((funext (mA21 5 rfl)).trans (ew5)) (show inr (a2) from h1) (show inr (0) from q_2) (show inrJ (a4) from h3) (show 0 ≤ (a2) ∧ (a2) ≤ (0) ∧ (0) ≤ (n5) by have qh0 := HIDe r7; omega) (fun z27 σ27 F27ₚ A27ₚ Hₚ Oₚ hS27 hA27 pz27_0 pz27_1 => ⟨rfl, ?_⟩))
          refine v_backc (c := c) (s := s) H oz_R2vcls_26 oz_R2vcls_16 Hₚ Oₚ (fun F27 A27 H Oₚ eF27 eA27 => ?_)
          have O := OUT_trans O Oₚ
          -- PackHouse.wideSum
          have cF27 : SF oz_R2vclsl_0 F F27 := SF_trans (cF21) (SF_gluc (ι := oz_R2vclsl_5) oz_R2vcls_16 hS27 eF27 (by decide +kernel)) (any_sub (lₚ := []) (by decide +kernel))
          have mF27 := SFm_of cF27 oz_R2vcls_10
          have cA27 : SA oz_R2vclsl_1 A A27 := SA_trans (cA21) (SA_gluc (ι := oz_R2vclsl_5) oz_R2vcls_16 hA27 eA27 (by decide +kernel)) (any_subA (lₚ := []) (by decide +kernel))
          have mA27 := SAm_of cA27 oz_R2vcls_11
          have h0_0 : IMP ((a1) = 0) ((z27) = WDX (prL (sc ((w3)) 0 ((u2_1))) ((a2)) ((a3))) ((a4))) := by exact fun q => absurd q (by (have qg0 := HIDe r1; omega))
          have h0_1 : IMP ((a1) = 1) ((z27) = WDX (prL (sc ((w5)) 0 ((u4_1))) ((a2)) ((a3))) ((a4))) := by exact fun q => absurd q (by (have qg0 := HIDe r2; omega))
          have h0_2 : IMP ((a1) = 2) ((z27) = WDX (prL (sc ((w7)) 0 ((u6_1))) ((a2)) ((a3))) ((a4))) := by exact fun q => absurd q (by (have qg0 := HIDe r3; omega))
          have h0_3 : IMP ((a1) = 3) ((z27) = WDX (prL (sc ((w9)) 0 ((u8_1))) ((a2)) ((a3))) ((a4))) := by exact fun q => absurd q (by (have qg0 := HIDe r4; omega))
          exact w_lreturn rfl (k (z27) _ _ _ H O (cF27) (cA27) (show inrJ (z27) from pz27_0) (show 0 ≤ a1 ∧ a1 ≤ 3 ∨ (z27) = 0 from q_5039 b12) (h0_0) (h0_1) (h0_2) (h0_3))
        · refine Ew_of (pcₚ := 47) (fun _ => x_iload_n rfl (rk_o (rfl) rfl rfl)) ?_
          refine Ew_of (pcₚ := 51) (fun _ => x_goto rfl rfl) ?_
          refine Ew_of (pcₚ := 53) (fun _ => x_lload rfl (rk_o (rfl) rfl rfl)) ?_
          refine w_stat24 rfl rfl (by rfl) (C51_Br (D := puc 5 D) (N := puc 5 N) (HW_subc H oz_R2vcls_26 oz_R2vcls_16) (n5) (en5) (w5) ((funext (mA21 5 rfl)).trans (ew5)) (show inr (a2) from h1) (show inr (a3) from h2) (show inrJ (a4) from h3) (show 0 ≤ (a2) ∧ (a2) ≤ (a3) ∧ (a3) ≤ (n5) by have qh0 := HIDe r7; omega) (fun z28 σ28 F28ₚ A28ₚ Hₚ Oₚ hS28 hA28 pz28_0 pz28_1 => ⟨rfl, ?_⟩))
          refine v_backc (c := c) (s := s) H oz_R2vcls_26 oz_R2vcls_16 Hₚ Oₚ (fun F28 A28 H Oₚ eF28 eA28 => ?_)
          have O := OUT_trans O Oₚ
          -- PackHouse.wideSum
          have cF28 : SF oz_R2vclsl_0 F F28 := SF_trans (cF21) (SF_gluc (ι := oz_R2vclsl_5) oz_R2vcls_16 hS28 eF28 (by decide +kernel)) (any_sub (lₚ := []) (by decide +kernel))
          have mF28 := SFm_of cF28 oz_R2vcls_10
          have cA28 : SA oz_R2vclsl_1 A A28 := SA_trans (cA21) (SA_gluc (ι := oz_R2vclsl_5) oz_R2vcls_16 hA28 eA28 (by decide +kernel)) (any_subA (lₚ := []) (by decide +kernel))
          have mA28 := SAm_of cA28 oz_R2vcls_11
          have h0_0 : IMP ((a1) = 0) ((z28) = WDX (prL (sc ((w3)) 0 ((u2_1))) ((a2)) ((a3))) ((a4))) := by exact fun q => absurd q (by (have qg0 := HIDe r1; omega))
          have h0_1 : IMP ((a1) = 1) ((z28) = WDX (prL (sc ((w5)) 0 ((u4_1))) ((a2)) ((a3))) ((a4))) := by exact fun q => (pz28_1).trans (by (rw [WDS_X (b := (a3)) (by (have qg0 := HIDe r2; omega)) (by (have qg0 := HIDe r2; omega)), pr_sc (f := (w5)) (n := (u4_1)) (L := sc ((w5)) 0 ((u4_1))) rfl (by (have qg0 := HIDe r2; omega))]))
          have h0_2 : IMP ((a1) = 2) ((z28) = WDX (prL (sc ((w7)) 0 ((u6_1))) ((a2)) ((a3))) ((a4))) := by exact fun q => absurd q (by (have qg0 := HIDe r3; omega))
          have h0_3 : IMP ((a1) = 3) ((z28) = WDX (prL (sc ((w9)) 0 ((u8_1))) ((a2)) ((a3))) ((a4))) := by exact fun q => absurd q (by (have qg0 := HIDe r4; omega))
          exact w_lreturn rfl (k (z28) _ _ _ H O (cF28) (cA28) (show inrJ (z28) from pz28_0) (show 0 ≤ a1 ∧ a1 ≤ 3 ∨ (z28) = 0 from q_5039 b12) (h0_0) (h0_1) (h0_2) (h0_3))
    · refine v_lR H (o := 1) rfl rfl rfl rfl rfl (n := n1) (en1) (show 0 ≤ a1 ∧ a1 < n1 from q_4727 (HIDe r5) b12 h4) (z := ((D 6 : Nat) : Int)) (v := .ref (D 6)) ((congrArg (A10 1) b12).trans ((mA10 1 rfl 2).trans (pf6))) (vrf rfl) ?_
      refine Ew_of (pcₚ := 16) (fun _ => x_iload_n rfl rfl) ?_
      refine Ew_of (pcₚ := 17) (fun _ => x_iload_n rfl rfl) ?_
      refine w_stat24 rfl rfl (by rfl) (C27_Rowp (D := puc 6 D) (N := puc 6 N) (HW_subc H oz_R2vcls_27 oz_R2vcls_17) (u6_1) (((mF10 6 1 rfl).trans (eu6_1))) (show inr (a2) from h1) (show inr (a3) from h2) (fun z29 σ29 F29ₚ A29ₚ Hₚ Oₚ hS29 hA29 pz29_0 pz29_1 => ⟨rretB rfl pz29_0, ?_⟩))
      refine v_backc (c := c) (s := s) H oz_R2vcls_27 oz_R2vcls_17 Hₚ Oₚ (fun F29 A29 H Oₚ eF29 eA29 => ?_)
      have O := OUT_trans O Oₚ
      -- PackHouse.isPart
      have cF29 : SF oz_R2vclsl_0 F F29 := SF_trans (cF10) (SF_gluc (ι := oz_R2vclsl_6) oz_R2vcls_17 hS29 eF29 (by decide +kernel)) (any_sub (lₚ := []) (by decide +kernel))
      have mF29 := SFm_of cF29 oz_R2vcls_10
      have cA29 : SA oz_R2vclsl_1 A A29 := SA_trans (cA10) (SA_gluc (ι := oz_R2vclsl_6) oz_R2vcls_17 hA29 eA29 (by decide +kernel)) (any_subA (lₚ := []) (by decide +kernel))
      have mA29 := SAm_of cA29 oz_R2vcls_11
      refine Ew_of (pcₚ := 22) (fun _ => x_istore rfl) ?_
      refine Ew_of (pcₚ := 23) (fun _ => x_aload_n rfl (rk_o (rfl) rfl rfl)) ?_
      refine v_g H (o := 0) (v := .ref (D 1)) rfl rfl rfl rfl rfl (vrf ((mF29 0 0 rfl).trans (pf1))) ?_
      refine Ew_of (pcₚ := 27) (fun _ => x_iload_n rfl (rk_o (rfl) rfl rfl)) ?_
      refine v_lR H (o := 1) rfl rfl rfl rfl rfl (n := n1) (en1) (show 0 ≤ a1 ∧ a1 < n1 from q_4727 (HIDe r5) b12 h4) (z := ((D 6 : Nat) : Int)) (v := .ref (D 6)) ((congrArg (A29 1) b12).trans ((mA29 1 rfl 2).trans (pf6))) (vrf rfl) ?_
      refine v_g H (o := 6) (v := .ref (D 7)) rfl rfl rfl rfl rfl (vrf ((mF29 6 0 rfl).trans (pf7))) ?_
      refine Ew_of (pcₚ := 33) (fun _ => x_iload rfl rk_s) ?_
      refine w_ifeq (t := 40) rfl rfl (show inr (z29) from q_138 pz29_0) (fun b30 => ?_) (fun b30 => ?_)
      · refine Ew_of (pcₚ := 41) (fun _ => x_iconst rfl) ?_
        refine Ew_of (pcₚ := 43) (fun _ => x_iload rfl rk_s) ?_
        refine w_ifeq (t := 50) rfl rfl (show inr (z29) from q_123 b30) (fun b31 => ?_) (fun b31 => ?_)
        · refine Ew_of (pcₚ := 51) (fun _ => x_iconst rfl) ?_
          refine Ew_of (pcₚ := 53) (fun _ => x_lload rfl (rk_o (rfl) rfl rfl)) ?_
          refine w_stat24 rfl rfl (by rfl) (C51_Br (D := puc 7 D) (N := puc 7 N) (HW_subc H oz_R2vcls_28 oz_R2vcls_18) (n7) (en7) (w7) ((funext (mA29 7 rfl)).trans (ew7)) (show inr (0) from q_2) (show inr (0) from q_2) (show inrJ (a4) from h3) (show 0 ≤ (0) ∧ (0) ≤ (0) ∧ (0) ≤ (n7) from q_5037 (HIDe r8)) (fun z32 σ32 F32ₚ A32ₚ Hₚ Oₚ hS32 hA32 pz32_0 pz32_1 => ⟨rfl, ?_⟩))
          refine v_backc (c := c) (s := s) H oz_R2vcls_28 oz_R2vcls_18 Hₚ Oₚ (fun F32 A32 H Oₚ eF32 eA32 => ?_)
          have O := OUT_trans O Oₚ
          -- PackHouse.wideSum
          have cF32 : SF oz_R2vclsl_0 F F32 := SF_trans (cF29) (SF_gluc (ι := oz_R2vclsl_7) oz_R2vcls_18 hS32 eF32 (by decide +kernel)) (any_sub (lₚ := []) (by decide +kernel))
          have mF32 := SFm_of cF32 oz_R2vcls_10
          have cA32 : SA oz_R2vclsl_1 A A32 := SA_trans (cA29) (SA_gluc (ι := oz_R2vclsl_7) oz_R2vcls_18 hA32 eA32 (by decide +kernel)) (any_subA (lₚ := []) (by decide +kernel))
          have mA32 := SAm_of cA32 oz_R2vcls_11
          have h0_0 : IMP ((a1) = 0) ((z32) = WDX (prL (sc ((w3)) 0 ((u2_1))) ((a2)) ((a3))) ((a4))) := by exact fun q => absurd q (by (have qg0 := HIDe r1; omega))
          have h0_1 : IMP ((a1) = 1) ((z32) = WDX (prL (sc ((w5)) 0 ((u4_1))) ((a2)) ((a3))) ((a4))) := by exact fun q => absurd q (by (have qg0 := HIDe r2; omega))
          have h0_2 : IMP ((a1) = 2) ((z32) = WDX (prL (sc ((w7)) 0 ((u6_1))) ((a2)) ((a3))) ((a4))) := by exact fun q => (pz32_1).trans (by (rw [WDS_X (b := 0) (by (have qg0 := HIDe r3; omega)) (by (have qg0 := HIDe r3; omega)), pr_nil (f := (w7)) (n := (u6_1)) (L := sc ((w7)) 0 ((u6_1))) rfl (by (have qg0 := HIDe r3; omega)) (by (have qg0 := HIDe r3; omega)), sc_nil (by (have qg0 := HIDe r3; omega))]))
          have h0_3 : IMP ((a1) = 3) ((z32) = WDX (prL (sc ((w9)) 0 ((u8_1))) ((a2)) ((a3))) ((a4))) := by exact fun q => absurd q (by (have qg0 := HIDe r4; omega))
          exact w_lreturn rfl (k (z32) _ _ _ H O (cF32) (cA32) (show inrJ (z32) from pz32_0) (show 0 ≤ a1 ∧ a1 ≤ 3 ∨ (z32) = 0 from q_5040 b12) (h0_0) (h0_1) (h0_2) (h0_3))
        · refine Ew_of (pcₚ := 47) (fun _ => x_iload_n rfl (rk_o (rfl) rfl rfl)) ?_
          refine Ew_of (pcₚ := 51) (fun _ => x_goto rfl rfl) ?_
          refine Ew_of (pcₚ := 53) (fun _ => x_lload rfl (rk_o (rfl) rfl rfl)) ?_
          refine w_stat24 rfl rfl (by rfl) (C51_Br (D := puc 7 D) (N := puc 7 N) (HW_subc H oz_R2vcls_28 oz_R2vcls_18) (n7) (en7) (w7) ((funext (mA29 7 rfl)).trans (ew7)) (show inr (0) from q_2) (show inr (a3) from h2) (show inrJ (a4) from h3) (show 0 ≤ (0) ∧ (0) ≤ (a3) ∧ (a3) ≤ (n7) by have qh0 := HIDe r8; omega) (fun z33 σ33 F33ₚ A33ₚ Hₚ Oₚ hS33 hA33 pz33_0 pz33_1 => ⟨rfl, ?_⟩))
          refine v_backc (c := c) (s := s) H oz_R2vcls_28 oz_R2vcls_18 Hₚ Oₚ (fun F33 A33 H Oₚ eF33 eA33 => ?_)
          have O := OUT_trans O Oₚ
          -- PackHouse.wideSum
          have cF33 : SF oz_R2vclsl_0 F F33 := SF_trans (cF29) (SF_gluc (ι := oz_R2vclsl_7) oz_R2vcls_18 hS33 eF33 (by decide +kernel)) (any_sub (lₚ := []) (by decide +kernel))
          have mF33 := SFm_of cF33 oz_R2vcls_10
          have cA33 : SA oz_R2vclsl_1 A A33 := SA_trans (cA29) (SA_gluc (ι := oz_R2vclsl_7) oz_R2vcls_18 hA33 eA33 (by decide +kernel)) (any_subA (lₚ := []) (by decide +kernel))
          have mA33 := SAm_of cA33 oz_R2vcls_11
          have h0_0 : IMP ((a1) = 0) ((z33) = WDX (prL (sc ((w3)) 0 ((u2_1))) ((a2)) ((a3))) ((a4))) := by exact fun q => absurd q (by (have qg0 := HIDe r1; omega))
          have h0_1 : IMP ((a1) = 1) ((z33) = WDX (prL (sc ((w5)) 0 ((u4_1))) ((a2)) ((a3))) ((a4))) := by exact fun q => absurd q (by (have qg0 := HIDe r2; omega))
          have h0_2 : IMP ((a1) = 2) ((z33) = WDX (prL (sc ((w7)) 0 ((u6_1))) ((a2)) ((a3))) ((a4))) := by exact fun q => absurd q (by (have qg0 := HIDe r3; omega))
          have h0_3 : IMP ((a1) = 3) ((z33) = WDX (prL (sc ((w9)) 0 ((u8_1))) ((a2)) ((a3))) ((a4))) := by exact fun q => absurd q (by (have qg0 := HIDe r4; omega))
          exact w_lreturn rfl (k (z33) _ _ _ H O (cF33) (cA33) (show inrJ (z33) from pz33_0) (show 0 ≤ a1 ∧ a1 ≤ 3 ∨ (z33) = 0 from q_5040 b12) (h0_0) (h0_1) (h0_2) (h0_3))
      · refine Ew_of (pcₚ := 37) (fun _ => x_iload_n rfl (rk_o (rfl) rfl rfl)) ?_
        refine Ew_of (pcₚ := 41) (fun _ => x_goto rfl rfl) ?_
        refine Ew_of (pcₚ := 43) (fun _ => x_iload rfl rk_s) ?_
        refine w_ifeq (t := 50) rfl rfl (show inr (z29) from q_138 pz29_0) (fun b34 => ?_) (fun b34 => ?_)
        · refine Ew_of (pcₚ := 51) (fun _ => x_iconst rfl) ?_
          refine Ew_of (pcₚ := 53) (fun _ => x_lload rfl (rk_o (rfl) rfl rfl)) ?_
          refine w_stat24 rfl rfl (by rfl) (C51_Br (D := puc 7 D) (N := puc 7 N) (HW_subc H oz_R2vcls_28 oz_R2vcls_18) (n7) (en7) (w7) ((funext (mA29 7 rfl)).trans (ew7)) (show inr (a2) from h1) (show inr (0) from q_2) (show inrJ (a4) from h3) (show 0 ≤ (a2) ∧ (a2) ≤ (0) ∧ (0) ≤ (n7) by have qh0 := HIDe r8; omega) (fun z35 σ35 F35ₚ A35ₚ Hₚ Oₚ hS35 hA35 pz35_0 pz35_1 => ⟨rfl, ?_⟩))
          refine v_backc (c := c) (s := s) H oz_R2vcls_28 oz_R2vcls_18 Hₚ Oₚ (fun F35 A35 H Oₚ eF35 eA35 => ?_)
          have O := OUT_trans O Oₚ
          -- PackHouse.wideSum
          have cF35 : SF oz_R2vclsl_0 F F35 := SF_trans (cF29) (SF_gluc (ι := oz_R2vclsl_7) oz_R2vcls_18 hS35 eF35 (by decide +kernel)) (any_sub (lₚ := []) (by decide +kernel))
          have mF35 := SFm_of cF35 oz_R2vcls_10
          have cA35 : SA oz_R2vclsl_1 A A35 := SA_trans (cA29) (SA_gluc (ι := oz_R2vclsl_7) oz_R2vcls_18 hA35 eA35 (by decide +kernel)) (any_subA (lₚ := []) (by decide +kernel))
          have mA35 := SAm_of cA35 oz_R2vcls_11
          have h0_0 : IMP ((a1) = 0) ((z35) = WDX (prL (sc ((w3)) 0 ((u2_1))) ((a2)) ((a3))) ((a4))) := by exact fun q => absurd q (by (have qg0 := HIDe r1; omega))
          have h0_1 : IMP ((a1) = 1) ((z35) = WDX (prL (sc ((w5)) 0 ((u4_1))) ((a2)) ((a3))) ((a4))) := by exact fun q => absurd q (by (have qg0 := HIDe r2; omega))
          have h0_2 : IMP ((a1) = 2) ((z35) = WDX (prL (sc ((w7)) 0 ((u6_1))) ((a2)) ((a3))) ((a4))) := by exact fun q => absurd q (by (have qg0 := HIDe r3; omega))
          have h0_3 : IMP ((a1) = 3) ((z35) = WDX (prL (sc ((w9)) 0 ((u8_1))) ((a2)) ((a3))) ((a4))) := by exact fun q => absurd q (by (have qg0 := HIDe r4; omega))
          exact w_lreturn rfl (k (z35) _ _ _ H O (cF35) (cA35) (show inrJ (z35) from pz35_0) (show 0 ≤ a1 ∧ a1 ≤ 3 ∨ (z35) = 0 from q_5040 b12) (h0_0) (h0_1) (h0_2) (h0_3))
        · refine Ew_of (pcₚ := 47) (fun _ => x_iload_n rfl (rk_o (rfl) rfl rfl)) ?_
          refine Ew_of (pcₚ := 51) (fun _ => x_goto rfl rfl) ?_
          refine Ew_of (pcₚ := 53) (fun _ => x_lload rfl (rk_o (rfl) rfl rfl)) ?_
          refine w_stat24 rfl rfl (by rfl) (C51_Br (D := puc 7 D) (N := puc 7 N) (HW_subc H oz_R2vcls_28 oz_R2vcls_18) (n7) (en7) (w7) ((funext (mA29 7 rfl)).trans (ew7)) (show inr (a2) from h1) (show inr (a3) from h2) (show inrJ (a4) from h3) (show 0 ≤ (a2) ∧ (a2) ≤ (a3) ∧ (a3) ≤ (n7) by have qh0 := HIDe r8; omega) (fun z36 σ36 F36ₚ A36ₚ Hₚ Oₚ hS36 hA36 pz36_0 pz36_1 => ⟨rfl, ?_⟩))
          refine v_backc (c := c) (s := s) H oz_R2vcls_28 oz_R2vcls_18 Hₚ Oₚ (fun F36 A36 H Oₚ eF36 eA36 => ?_)
          have O := OUT_trans O Oₚ
          -- PackHouse.wideSum
          have cF36 : SF oz_R2vclsl_0 F F36 := SF_trans (cF29) (SF_gluc (ι := oz_R2vclsl_7) oz_R2vcls_18 hS36 eF36 (by decide +kernel)) (any_sub (lₚ := []) (by decide +kernel))
          have mF36 := SFm_of cF36 oz_R2vcls_10
          have cA36 : SA oz_R2vclsl_1 A A36 := SA_trans (cA29) (SA_gluc (ι := oz_R2vclsl_7) oz_R2vcls_18 hA36 eA36 (by decide +kernel)) (any_subA (lₚ := []) (by decide +kernel))
          have mA36 := SAm_of cA36 oz_R2vcls_11
          have h0_0 : IMP ((a1) = 0) ((z36) = WDX (prL (sc ((w3)) 0 ((u2_1))) ((a2)) ((a3))) ((a4))) := by exact fun q => absurd q (by (have qg0 := HIDe r1; omega))
          have h0_1 : IMP ((a1) = 1) ((z36) = WDX (prL (sc ((w5)) 0 ((u4_1))) ((a2)) ((a3))) ((a4))) := by exact fun q => absurd q (by (have qg0 := HIDe r2; omega))
          have h0_2 : IMP ((a1) = 2) ((z36) = WDX (prL (sc ((w7)) 0 ((u6_1))) ((a2)) ((a3))) ((a4))) := by exact fun q => (pz36_1).trans (by (rw [WDS_X (b := (a3)) (by (have qg0 := HIDe r3; omega)) (by (have qg0 := HIDe r3; omega)), pr_sc (f := (w7)) (n := (u6_1)) (L := sc ((w7)) 0 ((u6_1))) rfl (by (have qg0 := HIDe r3; omega))]))
          have h0_3 : IMP ((a1) = 3) ((z36) = WDX (prL (sc ((w9)) 0 ((u8_1))) ((a2)) ((a3))) ((a4))) := by exact fun q => absurd q (by (have qg0 := HIDe r4; omega))
          exact w_lreturn rfl (k (z36) _ _ _ H O (cF36) (cA36) (show inrJ (z36) from pz36_0) (show 0 ≤ a1 ∧ a1 ≤ 3 ∨ (z36) = 0 from q_5040 b12) (h0_0) (h0_1) (h0_2) (h0_3))
    · refine v_lR H (o := 1) rfl rfl rfl rfl rfl (n := n1) (en1) (show 0 ≤ a1 ∧ a1 < n1 from q_4728 b12 h4) (z := ((D 8 : Nat) : Int)) (v := .ref (D 8)) ((congrArg (A10 1) b12).trans ((mA10 1 rfl 3).trans (pf8))) (vrf rfl) ?_
      refine Ew_of (pcₚ := 16) (fun _ => x_iload_n rfl rfl) ?_
      refine Ew_of (pcₚ := 17) (fun _ => x_iload_n rfl rfl) ?_
      refine w_stat24 rfl rfl (by rfl) (C27_Rowp (D := puc 8 D) (N := puc 8 N) (HW_subc H oz_R2vcls_29 oz_R2vcls_19) (u8_1) (((mF10 8 1 rfl).trans (eu8_1))) (show inr (a2) from h1) (show inr (a3) from h2) (fun z37 σ37 F37ₚ A37ₚ Hₚ Oₚ hS37 hA37 pz37_0 pz37_1 => ⟨rretB rfl pz37_0, ?_⟩))
      refine v_backc (c := c) (s := s) H oz_R2vcls_29 oz_R2vcls_19 Hₚ Oₚ (fun F37 A37 H Oₚ eF37 eA37 => ?_)
      have O := OUT_trans O Oₚ
      -- PackHouse.isPart
      have cF37 : SF oz_R2vclsl_0 F F37 := SF_trans (cF10) (SF_gluc (ι := oz_R2vclsl_8) oz_R2vcls_19 hS37 eF37 (by decide +kernel)) (any_sub (lₚ := []) (by decide +kernel))
      have mF37 := SFm_of cF37 oz_R2vcls_10
      have cA37 : SA oz_R2vclsl_1 A A37 := SA_trans (cA10) (SA_gluc (ι := oz_R2vclsl_8) oz_R2vcls_19 hA37 eA37 (by decide +kernel)) (any_subA (lₚ := []) (by decide +kernel))
      have mA37 := SAm_of cA37 oz_R2vcls_11
      refine Ew_of (pcₚ := 22) (fun _ => x_istore rfl) ?_
      refine Ew_of (pcₚ := 23) (fun _ => x_aload_n rfl (rk_o (rfl) rfl rfl)) ?_
      refine v_g H (o := 0) (v := .ref (D 1)) rfl rfl rfl rfl rfl (vrf ((mF37 0 0 rfl).trans (pf1))) ?_
      refine Ew_of (pcₚ := 27) (fun _ => x_iload_n rfl (rk_o (rfl) rfl rfl)) ?_
      refine v_lR H (o := 1) rfl rfl rfl rfl rfl (n := n1) (en1) (show 0 ≤ a1 ∧ a1 < n1 from q_4728 b12 h4) (z := ((D 8 : Nat) : Int)) (v := .ref (D 8)) ((congrArg (A37 1) b12).trans ((mA37 1 rfl 3).trans (pf8))) (vrf rfl) ?_
      refine v_g H (o := 8) (v := .ref (D 9)) rfl rfl rfl rfl rfl (vrf ((mF37 8 0 rfl).trans (pf9))) ?_
      refine Ew_of (pcₚ := 33) (fun _ => x_iload rfl rk_s) ?_
      refine w_ifeq (t := 40) rfl rfl (show inr (z37) from q_138 pz37_0) (fun b38 => ?_) (fun b38 => ?_)
      · refine Ew_of (pcₚ := 41) (fun _ => x_iconst rfl) ?_
        refine Ew_of (pcₚ := 43) (fun _ => x_iload rfl rk_s) ?_
        refine w_ifeq (t := 50) rfl rfl (show inr (z37) from q_123 b38) (fun b39 => ?_) (fun b39 => ?_)
        · refine Ew_of (pcₚ := 51) (fun _ => x_iconst rfl) ?_
          refine Ew_of (pcₚ := 53) (fun _ => x_lload rfl (rk_o (rfl) rfl rfl)) ?_
          refine w_stat24 rfl rfl (by rfl) (C51_Br (D := puc 9 D) (N := puc 9 N) (HW_subc H oz_R2vcls_30 oz_R2vcls_20) (n9) (en9) (w9) ((funext (mA37 9 rfl)).trans (ew9)) (show inr (0) from q_2) (show inr (0) from q_2) (show inrJ (a4) from h3) (show 0 ≤ (0) ∧ (0) ≤ (0) ∧ (0) ≤ (n9) from q_5037 (HIDe r9)) (fun z40 σ40 F40ₚ A40ₚ Hₚ Oₚ hS40 hA40 pz40_0 pz40_1 => ⟨rfl, ?_⟩))
          refine v_backc (c := c) (s := s) H oz_R2vcls_30 oz_R2vcls_20 Hₚ Oₚ (fun F40 A40 H Oₚ eF40 eA40 => ?_)
          have O := OUT_trans O Oₚ
          -- PackHouse.wideSum
          have cF40 : SF oz_R2vclsl_0 F F40 := SF_trans (cF37) (SF_gluc (ι := oz_R2vclsl_9) oz_R2vcls_20 hS40 eF40 (by decide +kernel)) (any_sub (lₚ := []) (by decide +kernel))
          have mF40 := SFm_of cF40 oz_R2vcls_10
          have cA40 : SA oz_R2vclsl_1 A A40 := SA_trans (cA37) (SA_gluc (ι := oz_R2vclsl_9) oz_R2vcls_20 hA40 eA40 (by decide +kernel)) (any_subA (lₚ := []) (by decide +kernel))
          have mA40 := SAm_of cA40 oz_R2vcls_11
          have h0_0 : IMP ((a1) = 0) ((z40) = WDX (prL (sc ((w3)) 0 ((u2_1))) ((a2)) ((a3))) ((a4))) := by exact fun q => absurd q (by (have qg0 := HIDe r1; omega))
          have h0_1 : IMP ((a1) = 1) ((z40) = WDX (prL (sc ((w5)) 0 ((u4_1))) ((a2)) ((a3))) ((a4))) := by exact fun q => absurd q (by (have qg0 := HIDe r2; omega))
          have h0_2 : IMP ((a1) = 2) ((z40) = WDX (prL (sc ((w7)) 0 ((u6_1))) ((a2)) ((a3))) ((a4))) := by exact fun q => absurd q (by (have qg0 := HIDe r3; omega))
          have h0_3 : IMP ((a1) = 3) ((z40) = WDX (prL (sc ((w9)) 0 ((u8_1))) ((a2)) ((a3))) ((a4))) := by exact fun q => (pz40_1).trans (by (rw [WDS_X (b := 0) (by (have qg0 := HIDe r4; omega)) (by (have qg0 := HIDe r4; omega)), pr_nil (f := (w9)) (n := (u8_1)) (L := sc ((w9)) 0 ((u8_1))) rfl (by (have qg0 := HIDe r4; omega)) (by (have qg0 := HIDe r4; omega)), sc_nil (by (have qg0 := HIDe r4; omega))]))
          exact w_lreturn rfl (k (z40) _ _ _ H O (cF40) (cA40) (show inrJ (z40) from pz40_0) (show 0 ≤ a1 ∧ a1 ≤ 3 ∨ (z40) = 0 from q_5041 b12) (h0_0) (h0_1) (h0_2) (h0_3))
        · refine Ew_of (pcₚ := 47) (fun _ => x_iload_n rfl (rk_o (rfl) rfl rfl)) ?_
          refine Ew_of (pcₚ := 51) (fun _ => x_goto rfl rfl) ?_
          refine Ew_of (pcₚ := 53) (fun _ => x_lload rfl (rk_o (rfl) rfl rfl)) ?_
          refine w_stat24 rfl rfl (by rfl) (C51_Br (D := puc 9 D) (N := puc 9 N) (HW_subc H oz_R2vcls_30 oz_R2vcls_20) (n9) (en9) (w9) ((funext (mA37 9 rfl)).trans (ew9)) (show inr (0) from q_2) (show inr (a3) from h2) (show inrJ (a4) from h3) (show 0 ≤ (0) ∧ (0) ≤ (a3) ∧ (a3) ≤ (n9) by have qh0 := HIDe r9; omega) (fun z41 σ41 F41ₚ A41ₚ Hₚ Oₚ hS41 hA41 pz41_0 pz41_1 => ⟨rfl, ?_⟩))
          refine v_backc (c := c) (s := s) H oz_R2vcls_30 oz_R2vcls_20 Hₚ Oₚ (fun F41 A41 H Oₚ eF41 eA41 => ?_)
          have O := OUT_trans O Oₚ
          -- PackHouse.wideSum
          have cF41 : SF oz_R2vclsl_0 F F41 := SF_trans (cF37) (SF_gluc (ι := oz_R2vclsl_9) oz_R2vcls_20 hS41 eF41 (by decide +kernel)) (any_sub (lₚ := []) (by decide +kernel))
          have mF41 := SFm_of cF41 oz_R2vcls_10
          have cA41 : SA oz_R2vclsl_1 A A41 := SA_trans (cA37) (SA_gluc (ι := oz_R2vclsl_9) oz_R2vcls_20 hA41 eA41 (by decide +kernel)) (any_subA (lₚ := []) (by decide +kernel))
          have mA41 := SAm_of cA41 oz_R2vcls_11
          have h0_0 : IMP ((a1) = 0) ((z41) = WDX (prL (sc ((w3)) 0 ((u2_1))) ((a2)) ((a3))) ((a4))) := by exact fun q => absurd q (by (have qg0 := HIDe r1; omega))
          have h0_1 : IMP ((a1) = 1) ((z41) = WDX (prL (sc ((w5)) 0 ((u4_1))) ((a2)) ((a3))) ((a4))) := by exact fun q => absurd q (by (have qg0 := HIDe r2; omega))
          have h0_2 : IMP ((a1) = 2) ((z41) = WDX (prL (sc ((w7)) 0 ((u6_1))) ((a2)) ((a3))) ((a4))) := by exact fun q => absurd q (by (have qg0 := HIDe r3; omega))
          have h0_3 : IMP ((a1) = 3) ((z41) = WDX (prL (sc ((w9)) 0 ((u8_1))) ((a2)) ((a3))) ((a4))) := by exact fun q => absurd q (by (have qg0 := HIDe r4; omega))
          exact w_lreturn rfl (k (z41) _ _ _ H O (cF41) (cA41) (show inrJ (z41) from pz41_0) (show 0 ≤ a1 ∧ a1 ≤ 3 ∨ (z41) = 0 from q_5041 b12) (h0_0) (h0_1) (h0_2) (h0_3))
      · refine Ew_of (pcₚ := 37) (fun _ => x_iload_n rfl (rk_o (rfl) rfl rfl)) ?_
        refine Ew_of (pcₚ := 41) (fun _ => x_goto rfl rfl) ?_
        refine Ew_of (pcₚ := 43) (fun _ => x_iload rfl rk_s) ?_
        refine w_ifeq (t := 50) rfl rfl (show inr (z37) from q_138 pz37_0) (fun b42 => ?_) (fun b42 => ?_)
        · refine Ew_of (pcₚ := 51) (fun _ => x_iconst rfl) ?_
          refine Ew_of (pcₚ := 53) (fun _ => x_lload rfl (rk_o (rfl) rfl rfl)) ?_
          refine w_stat24 rfl rfl (by rfl) (C51_Br (D := puc 9 D) (N := puc 9 N) (HW_subc H oz_R2vcls_30 oz_R2vcls_20) (n9) (en9) (w9) ((funext (mA37 9 rfl)).trans (ew9)) (show inr (a2) from h1) (show inr (0) from q_2) (show inrJ (a4) from h3) (show 0 ≤ (a2) ∧ (a2) ≤ (0) ∧ (0) ≤ (n9) by have qh0 := HIDe r9; omega) (fun z43 σ43 F43ₚ A43ₚ Hₚ Oₚ hS43 hA43 pz43_0 pz43_1 => ⟨rfl, ?_⟩))
          refine v_backc (c := c) (s := s) H oz_R2vcls_30 oz_R2vcls_20 Hₚ Oₚ (fun F43 A43 H Oₚ eF43 eA43 => ?_)
          have O := OUT_trans O Oₚ
          -- PackHouse.wideSum
          have cF43 : SF oz_R2vclsl_0 F F43 := SF_trans (cF37) (SF_gluc (ι := oz_R2vclsl_9) oz_R2vcls_20 hS43 eF43 (by decide +kernel)) (any_sub (lₚ := []) (by decide +kernel))
          have mF43 := SFm_of cF43 oz_R2vcls_10
          have cA43 : SA oz_R2vclsl_1 A A43 := SA_trans (cA37) (SA_gluc (ι := oz_R2vclsl_9) oz_R2vcls_20 hA43 eA43 (by decide +kernel)) (any_subA (lₚ := []) (by decide +kernel))
          have mA43 := SAm_of cA43 oz_R2vcls_11
          have h0_0 : IMP ((a1) = 0) ((z43) = WDX (prL (sc ((w3)) 0 ((u2_1))) ((a2)) ((a3))) ((a4))) := by exact fun q => absurd q (by (have qg0 := HIDe r1; omega))
          have h0_1 : IMP ((a1) = 1) ((z43) = WDX (prL (sc ((w5)) 0 ((u4_1))) ((a2)) ((a3))) ((a4))) := by exact fun q => absurd q (by (have qg0 := HIDe r2; omega))
          have h0_2 : IMP ((a1) = 2) ((z43) = WDX (prL (sc ((w7)) 0 ((u6_1))) ((a2)) ((a3))) ((a4))) := by exact fun q => absurd q (by (have qg0 := HIDe r3; omega))
          have h0_3 : IMP ((a1) = 3) ((z43) = WDX (prL (sc ((w9)) 0 ((u8_1))) ((a2)) ((a3))) ((a4))) := by exact fun q => absurd q (by (have qg0 := HIDe r4; omega))
          exact w_lreturn rfl (k (z43) _ _ _ H O (cF43) (cA43) (show inrJ (z43) from pz43_0) (show 0 ≤ a1 ∧ a1 ≤ 3 ∨ (z43) = 0 from q_5041 b12) (h0_0) (h0_1) (h0_2) (h0_3))
        · refine Ew_of (pcₚ := 47) (fun _ => x_iload_n rfl (rk_o (rfl) rfl rfl)) ?_
          refine Ew_of (pcₚ := 51) (fun _ => x_goto rfl rfl) ?_
          refine Ew_of (pcₚ := 53) (fun _ => x_lload rfl (rk_o (rfl) rfl rfl)) ?_
          refine w_stat24 rfl rfl (by rfl) (C51_Br (D := puc 9 D) (N := puc 9 N) (HW_subc H oz_R2vcls_30 oz_R2vcls_20) (n9) (en9) (w9) ((funext (mA37 9 rfl)).trans (ew9)) (show inr (a2) from h1) (show inr (a3) from h2) (show inrJ (a4) from h3) (show 0 ≤ (a2) ∧ (a2) ≤ (a3) ∧ (a3) ≤ (n9) by have qh0 := HIDe r9; omega) (fun z44 σ44 F44ₚ A44ₚ Hₚ Oₚ hS44 hA44 pz44_0 pz44_1 => ⟨rfl, ?_⟩))
          refine v_backc (c := c) (s := s) H oz_R2vcls_30 oz_R2vcls_20 Hₚ Oₚ (fun F44 A44 H Oₚ eF44 eA44 => ?_)
          have O := OUT_trans O Oₚ
          -- PackHouse.wideSum
          have cF44 : SF oz_R2vclsl_0 F F44 := SF_trans (cF37) (SF_gluc (ι := oz_R2vclsl_9) oz_R2vcls_20 hS44 eF44 (by decide +kernel)) (any_sub (lₚ := []) (by decide +kernel))
          have mF44 := SFm_of cF44 oz_R2vcls_10
          have cA44 : SA oz_R2vclsl_1 A A44 := SA_trans (cA37) (SA_gluc (ι := oz_R2vclsl_9) oz_R2vcls_20 hA44 eA44 (by decide +kernel)) (any_subA (lₚ := []) (by decide +kernel))
          have mA44 := SAm_of cA44 oz_R2vcls_11
          have h0_0 : IMP ((a1) = 0) ((z44) = WDX (prL (sc ((w3)) 0 ((u2_1))) ((a2)) ((a3))) ((a4))) := by exact fun q => absurd q (by (have qg0 := HIDe r1; omega))
          have h0_1 : IMP ((a1) = 1) ((z44) = WDX (prL (sc ((w5)) 0 ((u4_1))) ((a2)) ((a3))) ((a4))) := by exact fun q => absurd q (by (have qg0 := HIDe r2; omega))
          have h0_2 : IMP ((a1) = 2) ((z44) = WDX (prL (sc ((w7)) 0 ((u6_1))) ((a2)) ((a3))) ((a4))) := by exact fun q => absurd q (by (have qg0 := HIDe r3; omega))
          have h0_3 : IMP ((a1) = 3) ((z44) = WDX (prL (sc ((w9)) 0 ((u8_1))) ((a2)) ((a3))) ((a4))) := by exact fun q => (pz44_1).trans (by (rw [WDS_X (b := (a3)) (by (have qg0 := HIDe r4; omega)) (by (have qg0 := HIDe r4; omega)), pr_sc (f := (w9)) (n := (u8_1)) (L := sc ((w9)) 0 ((u8_1))) rfl (by (have qg0 := HIDe r4; omega))]))
          exact w_lreturn rfl (k (z44) _ _ _ H O (cF44) (cA44) (show inrJ (z44) from pz44_0) (show 0 ≤ a1 ∧ a1 ≤ 3 ∨ (z44) = 0 from q_5041 b12) (h0_0) (h0_1) (h0_2) (h0_3))
  · refine Ew_of (pcₚ := 8) (fun _ => x_lconst (z := 0) rfl (by decide)) ?_
    have h0_0 : IMP ((a1) = 0) (0 = WDX (prL (sc ((w3)) 0 ((u2_1))) ((a2)) ((a3))) ((a4))) := fun q => absurd q (by (have qg0 := HIDe r1; omega))
    have h0_1 : IMP ((a1) = 1) (0 = WDX (prL (sc ((w5)) 0 ((u4_1))) ((a2)) ((a3))) ((a4))) := fun q => absurd q (by (have qg0 := HIDe r2; omega))
    have h0_2 : IMP ((a1) = 2) (0 = WDX (prL (sc ((w7)) 0 ((u6_1))) ((a2)) ((a3))) ((a4))) := fun q => absurd q (by (have qg0 := HIDe r3; omega))
    have h0_3 : IMP ((a1) = 3) (0 = WDX (prL (sc ((w9)) 0 ((u8_1))) ((a2)) ((a3))) ((a4))) := fun q => absurd q (by (have qg0 := HIDe r4; omega))
    exact w_lreturn rfl (k (0) _ _ _ H O (cF10) (cA10) (show inrJ (0) from q_340) (show 0 ≤ a1 ∧ a1 ≤ 3 ∨ (0) = 0 by exact q_4966) (h0_0) (h0_1) (h0_2) (h0_3))
theorem len_V13_oz_R2vcls : (V13).length = 10 := by decide +kernel
theorem oz_R2vcls_32 : vsub V13 V24 [] = true := by decide +kernel
theorem oz_R2vcls_33 : vsub V13 V27_Row [2] = true := by decide +kernel
theorem oz_R2vcls_34 : vsub V13 V53_Br [3] = true := by decide +kernel
theorem oz_R2vcls_35 : vsub V13 V54 [] = true := by decide +kernel
theorem oz_R2vcls_36 : vsub V13 V27_Row [4] = true := by decide +kernel
theorem oz_R2vcls_37 : vsub V13 V53_Br [5] = true := by decide +kernel
theorem oz_R2vcls_38 : vsub V13 V27_Row [6] = true := by decide +kernel
theorem oz_R2vcls_39 : vsub V13 V53_Br [7] = true := by decide +kernel
theorem oz_R2vcls_40 : vsub V13 V27_Row [8] = true := by decide +kernel
theorem oz_R2vcls_41 : vsub V13 V53_Br [9] = true := by decide +kernel

theorem C13p {σE : rS} {D N : Nat → Nat} {F : hF} {A : hA} {d c s : Nat} {Q : wQ} (H : HW V13 σE D N F A) (HT : STC σE) {a1 a2 a3 a4 : Int} (pf1 : HID (F 0 0 = (D 1 : Int))) (pf2 : HID (A 1 0 = (D 2 : Int))) (pf3 : HID (F 2 0 = (D 3 : Int))) (pf4 : HID (A 1 1 = (D 4 : Int))) (pf5 : HID (F 4 0 = (D 5 : Int))) (pf6 : HID (A 1 2 = (D 6 : Int))) (pf7 : HID (F 6 0 = (D 7 : Int))) (pf8 : HID (A 1 3 = (D 8 : Int))) (pf9 : HID (F 8 0 = (D 9 : Int))) (n1 : Int) (en1 : HID ((N 1 : Int) = n1)) (n3 : Int) (en3 : HID ((N 3 : Int) = n3)) (n5 : Int) (en5 : HID ((N 5 : Int) = n5)) (n7 : Int) (en7 : HID ((N 7 : Int) = n7)) (n9 : Int) (en9 : HID ((N 9 : Int) = n9)) (u2_1 : Int) (eu2_1 : HID (F 2 1 = u2_1)) (u4_1 : Int) (eu4_1 : HID (F 4 1 = u4_1)) (u6_1 : Int) (eu6_1 : HID (F 6 1 = u6_1)) (u8_1 : Int) (eu8_1 : HID (F 8 1 = u8_1)) (w3 : Int → Int) (ew3 : A 3 = w3) (w5 : Int → Int) (ew5 : A 5 = w5) (w7 : Int → Int) (ew7 : A 7 = w7) (w9 : Int → Int) (ew9 : A 9 = w9) (h0 : inr (a1)) (h1 : inr (a2)) (h2 : inr (a3)) (h3 : inr (a4)) (h4 : (a4) = 0 ∨ (a4) = 1) (h5 : (n1) = 4) (h6 : 0 ≤ (u2_1) ∧ (u2_1) ≤ (n3) ∧ (n3) ≤ 65536) (h7 : 0 ≤ (u4_1) ∧ (u4_1) ≤ (n5) ∧ (n5) ≤ 65536) (h8 : 0 ≤ (u6_1) ∧ (u6_1) ≤ (n7) ∧ (n7) ≤ 65536) (h9 : 0 ≤ (u8_1) ∧ (u8_1) ≤ (n9) ∧ (n9) ≤ 65536) (k : ∀ (z : Int) (σ : rS) (Fₚ : hF) (Aₚ : hA), HW V13 σ D N Fₚ Aₚ → OUT (V13).length D N σE c s D N σ c s → SF [] F Fₚ → SA [] A Aₚ → (inr (z)) → (0 ≤ (a1) ∧ (a1) ≤ 3 ∨ (z) = 0) → (IMP ((a1) = 0) ((z) = plY (prL (sc ((w3)) 0 ((u2_1))) ((a2)) ((a3))) ((a4)))) → (IMP ((a1) = 1) ((z) = plY (prL (sc ((w5)) 0 ((u4_1))) ((a2)) ((a3))) ((a4)))) → (IMP ((a1) = 2) ((z) = plY (prL (sc ((w7)) 0 ((u6_1))) ((a2)) ((a3))) ((a4)))) → (IMP ((a1) = 3) ((z) = plY (prL (sc ((w9)) 0 ((u8_1))) ((a2)) ((a3))) ((a4)))) → Q (some (I z)) σ c s) : Ew 13 (d + 2) 0 (rargs 0 [.ref (D 0), I a1, I a2, I a3, I a4]) [] σE c s Q := by
  have O := OUT_refl (n := (V13).length) (D := D) (N := N) (σ := σE) (c := c) (s := s)
  have HE := H
  have r1 : HID ((-2147483648 : Int) ≤ u2_1 ∧ u2_1 ≤ 2147483647) := krg_e (show (-2147483648 : Int) ≤ F 2 1 ∧ F 2 1 ≤ 2147483647 from H.krg 2 1 (ltn len_V13_oz_R2vcls rfl)) (show F 2 1 = u2_1 from (eu2_1))
  have r2 : HID ((-2147483648 : Int) ≤ u4_1 ∧ u4_1 ≤ 2147483647) := krg_e (show (-2147483648 : Int) ≤ F 4 1 ∧ F 4 1 ≤ 2147483647 from H.krg 4 1 (ltn len_V13_oz_R2vcls rfl)) (show F 4 1 = u4_1 from (eu4_1))
  have r3 : HID ((-2147483648 : Int) ≤ u6_1 ∧ u6_1 ≤ 2147483647) := krg_e (show (-2147483648 : Int) ≤ F 6 1 ∧ F 6 1 ≤ 2147483647 from H.krg 6 1 (ltn len_V13_oz_R2vcls rfl)) (show F 6 1 = u6_1 from (eu6_1))
  have r4 : HID ((-2147483648 : Int) ≤ u8_1 ∧ u8_1 ≤ 2147483647) := krg_e (show (-2147483648 : Int) ≤ F 8 1 ∧ F 8 1 ≤ 2147483647 from H.krg 8 1 (ltn len_V13_oz_R2vcls rfl)) (show F 8 1 = u8_1 from (eu8_1))
  have r5 : HID ((0 : Int) ≤ n1 ∧ n1 ≤ 1000000) := nrng (H.nle 1 (ltn len_V13_oz_R2vcls rfl)) (show (N 1 : Int) = n1 from en1)
  have r6 : HID ((0 : Int) ≤ n3 ∧ n3 ≤ 1000000) := nrng (H.nle 3 (ltn len_V13_oz_R2vcls rfl)) (show (N 3 : Int) = n3 from en3)
  have r7 : HID ((0 : Int) ≤ n5 ∧ n5 ≤ 1000000) := nrng (H.nle 5 (ltn len_V13_oz_R2vcls rfl)) (show (N 5 : Int) = n5 from en5)
  have r8 : HID ((0 : Int) ≤ n7 ∧ n7 ≤ 1000000) := nrng (H.nle 7 (ltn len_V13_oz_R2vcls rfl)) (show (N 7 : Int) = n7 from en7)
  have r9 : HID ((0 : Int) ≤ n9 ∧ n9 ≤ 1000000) := nrng (H.nle 9 (ltn len_V13_oz_R2vcls rfl)) (show (N 9 : Int) = n9 from en9)
  refine Ew_of (pcₚ := 1) (fun _ => x_iload_n rfl rfl) ?_
  refine w_stat24 rfl rfl (by rfl) (C24x (D := puc 0 D) (N := puc 0 N) (HW_subc H oz_R2vcls_32 oz_R2vcls_12) (show inr (a1) from h0) (fun z10 σ10 F10ₚ A10ₚ Hₚ Oₚ hS10 hA10 pz10_0 pz10_1 => ⟨rretB rfl pz10_0, ?_⟩))
  refine v_backc (c := c) (s := s) H oz_R2vcls_32 oz_R2vcls_12 Hₚ Oₚ (fun F10 A10 H Oₚ eF10 eA10 => ?_)
  have O := OUT_trans O Oₚ
  -- PackHouse.isRow
  have cF10 : SF oz_R2vclsl_0 F F10 := SF_trans (SF_refl) (SF_gluc (ι := oz_R2vclsl_1) oz_R2vcls_12 hS10 eF10 (by decide +kernel)) (any_sub (lₚ := []) (by decide +kernel))
  have mF10 := SFm_of cF10 oz_R2vcls_10
  have cA10 : SA oz_R2vclsl_1 A A10 := SA_trans (SA_refl) (SA_gluc (ι := oz_R2vclsl_1) oz_R2vcls_12 hA10 eA10 (by decide +kernel)) (any_subA (lₚ := []) (by decide +kernel))
  have mA10 := SAm_of cA10 oz_R2vcls_11
  refine w_ifne (t := 9) rfl rfl (show inr (z10) from q_138 pz10_0) (fun b11 => ?_) (fun b11 => ?_)
  · refine Ew_of (pcₚ := 10) (fun _ => x_aload_n rfl rfl) ?_
    refine v_g H (o := 0) (v := .ref (D 1)) rfl rfl rfl rfl rfl (vrf ((mF10 0 0 rfl).trans (pf1))) ?_
    refine Ew_of (pcₚ := 14) (fun _ => x_iload_n rfl rfl) ?_
    rcases (show a1 = 0 ∨ a1 = 1 ∨ a1 = 2 ∨ a1 = 3 by omega) with b12 | b12 | b12 | b12
    · refine v_lR H (o := 1) rfl rfl rfl rfl rfl (n := n1) (en1) (show 0 ≤ a1 ∧ a1 < n1 from q_4724 (HIDe r5) b12 h5) (z := ((D 2 : Nat) : Int)) (v := .ref (D 2)) ((congrArg (A10 1) b12).trans ((mA10 1 rfl 0).trans (pf2))) (vrf rfl) ?_
      refine Ew_of (pcₚ := 16) (fun _ => x_iload_n rfl rfl) ?_
      refine Ew_of (pcₚ := 17) (fun _ => x_iload_n rfl rfl) ?_
      refine w_stat24 rfl rfl (by rfl) (C27_Rowp (D := puc 2 D) (N := puc 2 N) (HW_subc H oz_R2vcls_33 oz_R2vcls_13) (u2_1) (((mF10 2 1 rfl).trans (eu2_1))) (show inr (a2) from h1) (show inr (a3) from h2) (fun z13 σ13 F13ₚ A13ₚ Hₚ Oₚ hS13 hA13 pz13_0 pz13_1 => ⟨rretB rfl pz13_0, ?_⟩))
      refine v_backc (c := c) (s := s) H oz_R2vcls_33 oz_R2vcls_13 Hₚ Oₚ (fun F13 A13 H Oₚ eF13 eA13 => ?_)
      have O := OUT_trans O Oₚ
      -- PackHouse.isPart
      have cF13 : SF oz_R2vclsl_0 F F13 := SF_trans (cF10) (SF_gluc (ι := oz_R2vclsl_2) oz_R2vcls_13 hS13 eF13 (by decide +kernel)) (any_sub (lₚ := []) (by decide +kernel))
      have mF13 := SFm_of cF13 oz_R2vcls_10
      have cA13 : SA oz_R2vclsl_1 A A13 := SA_trans (cA10) (SA_gluc (ι := oz_R2vclsl_2) oz_R2vcls_13 hA13 eA13 (by decide +kernel)) (any_subA (lₚ := []) (by decide +kernel))
      have mA13 := SAm_of cA13 oz_R2vcls_11
      refine Ew_of (pcₚ := 22) (fun _ => x_istore rfl) ?_
      refine Ew_of (pcₚ := 23) (fun _ => x_aload_n rfl (rk_o (rfl) rfl rfl)) ?_
      refine v_g H (o := 0) (v := .ref (D 1)) rfl rfl rfl rfl rfl (vrf ((mF13 0 0 rfl).trans (pf1))) ?_
      refine Ew_of (pcₚ := 27) (fun _ => x_iload_n rfl (rk_o (rfl) rfl rfl)) ?_
      refine v_lR H (o := 1) rfl rfl rfl rfl rfl (n := n1) (en1) (show 0 ≤ a1 ∧ a1 < n1 from q_4724 (HIDe r5) b12 h5) (z := ((D 2 : Nat) : Int)) (v := .ref (D 2)) ((congrArg (A13 1) b12).trans ((mA13 1 rfl 0).trans (pf2))) (vrf rfl) ?_
      refine v_g H (o := 2) (v := .ref (D 3)) rfl rfl rfl rfl rfl (vrf ((mF13 2 0 rfl).trans (pf3))) ?_
      refine Ew_of (pcₚ := 33) (fun _ => x_iload rfl rk_s) ?_
      refine w_ifeq (t := 40) rfl rfl (show inr (z13) from q_138 pz13_0) (fun b14 => ?_) (fun b14 => ?_)
      · refine Ew_of (pcₚ := 41) (fun _ => x_iconst rfl) ?_
        refine Ew_of (pcₚ := 43) (fun _ => x_iload rfl rk_s) ?_
        refine w_ifeq (t := 50) rfl rfl (show inr (z13) from q_123 b14) (fun b15 => ?_) (fun b15 => ?_)
        · refine Ew_of (pcₚ := 51) (fun _ => x_iconst rfl) ?_
          refine w_stat24 rfl rfl (by rfl) (C53_Br (D := puc 3 D) (N := puc 3 N) (HW_subc H oz_R2vcls_34 oz_R2vcls_14) (STC_out HT HE O) (n3) (en3) (w3) ((funext (mA13 3 rfl)).trans (ew3)) (show inr (0) from q_2) (show inr (0) from q_2) (show 0 ≤ (0) ∧ (0) ≤ (0) ∧ (0) ≤ (n3) from q_5037 (HIDe r6)) (fun z16 σ16 F16ₚ A16ₚ Hₚ Oₚ hS16 hA16 pz16_0 pz16_1 => ⟨rfl, ?_⟩))
          refine v_backc (c := c) (s := s) H oz_R2vcls_34 oz_R2vcls_14 Hₚ Oₚ (fun F16 A16 H Oₚ eF16 eA16 => ?_)
          have O := OUT_trans O Oₚ
          -- PackHouse.polynomialSum
          have cF16 : SF oz_R2vclsl_0 F F16 := SF_trans (cF13) (SF_gluc (ι := oz_R2vclsl_3) oz_R2vcls_14 hS16 eF16 (by decide +kernel)) (any_sub (lₚ := []) (by decide +kernel))
          have mF16 := SFm_of cF16 oz_R2vcls_10
          have cA16 : SA oz_R2vclsl_1 A A16 := SA_trans (cA13) (SA_gluc (ι := oz_R2vclsl_3) oz_R2vcls_14 hA16 eA16 (by decide +kernel)) (any_subA (lₚ := []) (by decide +kernel))
          have mA16 := SAm_of cA16 oz_R2vcls_11
          refine Ew_of (pcₚ := 56) (fun _ => x_istore rfl) ?_
          have hP_0 : IMP ((a1) = 0) ((z16) = PLS (prL (sc ((w3)) 0 ((u2_1))) ((a2)) ((a3)))) := by exact fun q => (pz16_1).trans (by (rw [POL_L (b := 0) (by (have qg0 := HIDe r1; omega)) (by (have qg0 := HIDe r1; omega)), pr_nil (f := (w3)) (n := (u2_1)) (L := sc ((w3)) 0 ((u2_1))) rfl (by (have qg0 := HIDe r1; omega)) (by (have qg0 := HIDe r1; omega)), sc_nil (by (have qg0 := HIDe r1; omega))]))
          have hP_1 : IMP ((a1) = 1) ((z16) = PLS (prL (sc ((w5)) 0 ((u4_1))) ((a2)) ((a3)))) := by exact fun q => absurd q (by (have qg0 := HIDe r2; omega))
          have hP_2 : IMP ((a1) = 2) ((z16) = PLS (prL (sc ((w7)) 0 ((u6_1))) ((a2)) ((a3)))) := by exact fun q => absurd q (by (have qg0 := HIDe r3; omega))
          have hP_3 : IMP ((a1) = 3) ((z16) = PLS (prL (sc ((w9)) 0 ((u8_1))) ((a2)) ((a3)))) := by exact fun q => absurd q (by (have qg0 := HIDe r4; omega))
          refine Ew_of (pcₚ := 58) (fun _ => x_iload rfl (rk_o (rk_o (rfl) rfl rfl) rfl rfl)) ?_
          refine w_ifeq (t := 69) rfl rfl (show inr (a4) from h3) (fun b17 => ?_) (fun b17 => ?_)
          · refine Ew_of (pcₚ := 71) (fun _ => x_iload rfl rk_s) ?_
            have h0_0 : IMP ((a1) = 0) ((z16) = plY (prL (sc ((w3)) 0 ((u2_1))) ((a2)) ((a3))) ((a4))) := by exact fun q => (hP_0 q).trans (plY_0 (by (have qg0 := HIDe r1; omega))).symm
            have h0_1 : IMP ((a1) = 1) ((z16) = plY (prL (sc ((w5)) 0 ((u4_1))) ((a2)) ((a3))) ((a4))) := by exact fun q => absurd q (by (have qg0 := HIDe r2; omega))
            have h0_2 : IMP ((a1) = 2) ((z16) = plY (prL (sc ((w7)) 0 ((u6_1))) ((a2)) ((a3))) ((a4))) := by exact fun q => absurd q (by (have qg0 := HIDe r3; omega))
            have h0_3 : IMP ((a1) = 3) ((z16) = plY (prL (sc ((w9)) 0 ((u8_1))) ((a2)) ((a3))) ((a4))) := by exact fun q => absurd q (by (have qg0 := HIDe r4; omega))
            exact w_ireturn rfl (k (z16) _ _ _ H O (cF16) (cA16) (show inr (z16) from pz16_0) (show 0 ≤ a1 ∧ a1 ≤ 3 ∨ (z16) = 0 from q_5038 b12) (h0_0) (h0_1) (h0_2) (h0_3))
          · refine Ew_of (pcₚ := 63) (fun _ => x_iload rfl rk_s) ?_
            refine w_stat24 rfl rfl (by rfl) (C54 (D := puc 0 D) (N := puc 0 N) (HW_subc H oz_R2vcls_35 oz_R2vcls_12) (show inr (z16) from pz16_0) (fun z18 σ18 F18ₚ A18ₚ Hₚ Oₚ hS18 hA18 pz18_0 pz18_1 => ⟨rfl, ?_⟩))
            refine v_backc (c := c) (s := s) H oz_R2vcls_35 oz_R2vcls_12 Hₚ Oₚ (fun F18 A18 H Oₚ eF18 eA18 => ?_)
            have O := OUT_trans O Oₚ
            -- PackHouse.maskedSum
            have cF18 : SF oz_R2vclsl_0 F F18 := SF_trans (cF16) (SF_gluc (ι := oz_R2vclsl_1) oz_R2vcls_12 hS18 eF18 (by decide +kernel)) (any_sub (lₚ := []) (by decide +kernel))
            have mF18 := SFm_of cF18 oz_R2vcls_10
            have cA18 : SA oz_R2vclsl_1 A A18 := SA_trans (cA16) (SA_gluc (ι := oz_R2vclsl_1) oz_R2vcls_12 hA18 eA18 (by decide +kernel)) (any_subA (lₚ := []) (by decide +kernel))
            have mA18 := SAm_of cA18 oz_R2vcls_11
            refine Ew_of (pcₚ := 71) (fun _ => x_goto rfl rfl) ?_
            have h0_0 : IMP ((a1) = 0) ((z18) = plY (prL (sc ((w3)) 0 ((u2_1))) ((a2)) ((a3))) ((a4))) := by exact fun q => by rw [plY_1 (by (have qg0 := HIDe r1; omega)), ← hP_0 q]; exact pz18_1
            have h0_1 : IMP ((a1) = 1) ((z18) = plY (prL (sc ((w5)) 0 ((u4_1))) ((a2)) ((a3))) ((a4))) := by exact fun q => absurd q (by (have qg0 := HIDe r2; omega))
            have h0_2 : IMP ((a1) = 2) ((z18) = plY (prL (sc ((w7)) 0 ((u6_1))) ((a2)) ((a3))) ((a4))) := by exact fun q => absurd q (by (have qg0 := HIDe r3; omega))
            have h0_3 : IMP ((a1) = 3) ((z18) = plY (prL (sc ((w9)) 0 ((u8_1))) ((a2)) ((a3))) ((a4))) := by exact fun q => absurd q (by (have qg0 := HIDe r4; omega))
            exact w_ireturn rfl (k (z18) _ _ _ H O (cF18) (cA18) (show inr (z18) from pz18_0) (show 0 ≤ a1 ∧ a1 ≤ 3 ∨ (z18) = 0 from q_5038 b12) (h0_0) (h0_1) (h0_2) (h0_3))
        · refine Ew_of (pcₚ := 47) (fun _ => x_iload_n rfl (rk_o (rfl) rfl rfl)) ?_
          refine Ew_of (pcₚ := 51) (fun _ => x_goto rfl rfl) ?_
          refine w_stat24 rfl rfl (by rfl) (C53_Br (D := puc 3 D) (N := puc 3 N) (HW_subc H oz_R2vcls_34 oz_R2vcls_14) (STC_out HT HE O) (n3) (en3) (w3) ((funext (mA13 3 rfl)).trans (ew3)) (show inr (0) from q_2) (show inr (a3) from h2) (show 0 ≤ (0) ∧ (0) ≤ (a3) ∧ (a3) ≤ (n3) by have qh0 := HIDe r6; omega) (fun z19 σ19 F19ₚ A19ₚ Hₚ Oₚ hS19 hA19 pz19_0 pz19_1 => ⟨rfl, ?_⟩))
          refine v_backc (c := c) (s := s) H oz_R2vcls_34 oz_R2vcls_14 Hₚ Oₚ (fun F19 A19 H Oₚ eF19 eA19 => ?_)
          have O := OUT_trans O Oₚ
          -- PackHouse.polynomialSum
          have cF19 : SF oz_R2vclsl_0 F F19 := SF_trans (cF13) (SF_gluc (ι := oz_R2vclsl_3) oz_R2vcls_14 hS19 eF19 (by decide +kernel)) (any_sub (lₚ := []) (by decide +kernel))
          have mF19 := SFm_of cF19 oz_R2vcls_10
          have cA19 : SA oz_R2vclsl_1 A A19 := SA_trans (cA13) (SA_gluc (ι := oz_R2vclsl_3) oz_R2vcls_14 hA19 eA19 (by decide +kernel)) (any_subA (lₚ := []) (by decide +kernel))
          have mA19 := SAm_of cA19 oz_R2vcls_11
          refine Ew_of (pcₚ := 56) (fun _ => x_istore rfl) ?_
          have hP_0 : IMP ((a1) = 0) ((z19) = PLS (prL (sc ((w3)) 0 ((u2_1))) ((a2)) ((a3)))) := by exact fun q => absurd q (by (have qg0 := HIDe r1; omega))
          have hP_1 : IMP ((a1) = 1) ((z19) = PLS (prL (sc ((w5)) 0 ((u4_1))) ((a2)) ((a3)))) := by exact fun q => absurd q (by (have qg0 := HIDe r2; omega))
          have hP_2 : IMP ((a1) = 2) ((z19) = PLS (prL (sc ((w7)) 0 ((u6_1))) ((a2)) ((a3)))) := by exact fun q => absurd q (by (have qg0 := HIDe r3; omega))
          have hP_3 : IMP ((a1) = 3) ((z19) = PLS (prL (sc ((w9)) 0 ((u8_1))) ((a2)) ((a3)))) := by exact fun q => absurd q (by (have qg0 := HIDe r4; omega))
          refine Ew_of (pcₚ := 58) (fun _ => x_iload rfl (rk_o (rk_o (rfl) rfl rfl) rfl rfl)) ?_
          refine w_ifeq (t := 69) rfl rfl (show inr (a4) from h3) (fun b20 => ?_) (fun b20 => ?_)
          · refine Ew_of (pcₚ := 71) (fun _ => x_iload rfl rk_s) ?_
            have h0_0 : IMP ((a1) = 0) ((z19) = plY (prL (sc ((w3)) 0 ((u2_1))) ((a2)) ((a3))) ((a4))) := by exact fun q => absurd q (by (have qg0 := HIDe r1; omega))
            have h0_1 : IMP ((a1) = 1) ((z19) = plY (prL (sc ((w5)) 0 ((u4_1))) ((a2)) ((a3))) ((a4))) := by exact fun q => absurd q (by (have qg0 := HIDe r2; omega))
            have h0_2 : IMP ((a1) = 2) ((z19) = plY (prL (sc ((w7)) 0 ((u6_1))) ((a2)) ((a3))) ((a4))) := by exact fun q => absurd q (by (have qg0 := HIDe r3; omega))
            have h0_3 : IMP ((a1) = 3) ((z19) = plY (prL (sc ((w9)) 0 ((u8_1))) ((a2)) ((a3))) ((a4))) := by exact fun q => absurd q (by (have qg0 := HIDe r4; omega))
            exact w_ireturn rfl (k (z19) _ _ _ H O (cF19) (cA19) (show inr (z19) from pz19_0) (show 0 ≤ a1 ∧ a1 ≤ 3 ∨ (z19) = 0 from q_5038 b12) (h0_0) (h0_1) (h0_2) (h0_3))
          · refine Ew_of (pcₚ := 63) (fun _ => x_iload rfl rk_s) ?_
            refine w_stat24 rfl rfl (by rfl) (C54 (D := puc 0 D) (N := puc 0 N) (HW_subc H oz_R2vcls_35 oz_R2vcls_12) (show inr (z19) from pz19_0) (fun z21 σ21 F21ₚ A21ₚ Hₚ Oₚ hS21 hA21 pz21_0 pz21_1 => ⟨rfl, ?_⟩))
            refine v_backc (c := c) (s := s) H oz_R2vcls_35 oz_R2vcls_12 Hₚ Oₚ (fun F21 A21 H Oₚ eF21 eA21 => ?_)
            have O := OUT_trans O Oₚ
            -- PackHouse.maskedSum
            have cF21 : SF oz_R2vclsl_0 F F21 := SF_trans (cF19) (SF_gluc (ι := oz_R2vclsl_1) oz_R2vcls_12 hS21 eF21 (by decide +kernel)) (any_sub (lₚ := []) (by decide +kernel))
            have mF21 := SFm_of cF21 oz_R2vcls_10
            have cA21 : SA oz_R2vclsl_1 A A21 := SA_trans (cA19) (SA_gluc (ι := oz_R2vclsl_1) oz_R2vcls_12 hA21 eA21 (by decide +kernel)) (any_subA (lₚ := []) (by decide +kernel))
            have mA21 := SAm_of cA21 oz_R2vcls_11
            refine Ew_of (pcₚ := 71) (fun _ => x_goto rfl rfl) ?_
            have h0_0 : IMP ((a1) = 0) ((z21) = plY (prL (sc ((w3)) 0 ((u2_1))) ((a2)) ((a3))) ((a4))) := by exact fun q => absurd q (by (have qg0 := HIDe r1; omega))
            have h0_1 : IMP ((a1) = 1) ((z21) = plY (prL (sc ((w5)) 0 ((u4_1))) ((a2)) ((a3))) ((a4))) := by exact fun q => absurd q (by (have qg0 := HIDe r2; omega))
            have h0_2 : IMP ((a1) = 2) ((z21) = plY (prL (sc ((w7)) 0 ((u6_1))) ((a2)) ((a3))) ((a4))) := by exact fun q => absurd q (by (have qg0 := HIDe r3; omega))
            have h0_3 : IMP ((a1) = 3) ((z21) = plY (prL (sc ((w9)) 0 ((u8_1))) ((a2)) ((a3))) ((a4))) := by exact fun q => absurd q (by (have qg0 := HIDe r4; omega))
            exact w_ireturn rfl (k (z21) _ _ _ H O (cF21) (cA21) (show inr (z21) from pz21_0) (show 0 ≤ a1 ∧ a1 ≤ 3 ∨ (z21) = 0 from q_5038 b12) (h0_0) (h0_1) (h0_2) (h0_3))
      · refine Ew_of (pcₚ := 37) (fun _ => x_iload_n rfl (rk_o (rfl) rfl rfl)) ?_
        refine Ew_of (pcₚ := 41) (fun _ => x_goto rfl rfl) ?_
        refine Ew_of (pcₚ := 43) (fun _ => x_iload rfl rk_s) ?_
        refine w_ifeq (t := 50) rfl rfl (show inr (z13) from q_138 pz13_0) (fun b22 => ?_) (fun b22 => ?_)
        · refine Ew_of (pcₚ := 51) (fun _ => x_iconst rfl) ?_
          refine w_stat24 rfl rfl (by rfl) (C53_Br (D := puc 3 D) (N := puc 3 N) (HW_subc H oz_R2vcls_34 oz_R2vcls_14) (STC_out HT HE O) (n3) (en3) (w3) ((funext (mA13 3 rfl)).trans (ew3)) (show inr (a2) from h1) (show inr (0) from q_2) (show 0 ≤ (a2) ∧ (a2) ≤ (0) ∧ (0) ≤ (n3) by have qh0 := HIDe r6; omega) (fun z23 σ23 F23ₚ A23ₚ Hₚ Oₚ hS23 hA23 pz23_0 pz23_1 => ⟨rfl, ?_⟩))
          refine v_backc (c := c) (s := s) H oz_R2vcls_34 oz_R2vcls_14 Hₚ Oₚ (fun F23 A23 H Oₚ eF23 eA23 => ?_)
          have O := OUT_trans O Oₚ
          -- PackHouse.polynomialSum
          have cF23 : SF oz_R2vclsl_0 F F23 := SF_trans (cF13) (SF_gluc (ι := oz_R2vclsl_3) oz_R2vcls_14 hS23 eF23 (by decide +kernel)) (any_sub (lₚ := []) (by decide +kernel))
          have mF23 := SFm_of cF23 oz_R2vcls_10
          have cA23 : SA oz_R2vclsl_1 A A23 := SA_trans (cA13) (SA_gluc (ι := oz_R2vclsl_3) oz_R2vcls_14 hA23 eA23 (by decide +kernel)) (any_subA (lₚ := []) (by decide +kernel))
          have mA23 := SAm_of cA23 oz_R2vcls_11
          refine Ew_of (pcₚ := 56) (fun _ => x_istore rfl) ?_
          have hP_0 : IMP ((a1) = 0) ((z23) = PLS (prL (sc ((w3)) 0 ((u2_1))) ((a2)) ((a3)))) := by exact fun q => absurd q (by (have qg0 := HIDe r1; omega))
          have hP_1 : IMP ((a1) = 1) ((z23) = PLS (prL (sc ((w5)) 0 ((u4_1))) ((a2)) ((a3)))) := by exact fun q => absurd q (by (have qg0 := HIDe r2; omega))
          have hP_2 : IMP ((a1) = 2) ((z23) = PLS (prL (sc ((w7)) 0 ((u6_1))) ((a2)) ((a3)))) := by exact fun q => absurd q (by (have qg0 := HIDe r3; omega))
          have hP_3 : IMP ((a1) = 3) ((z23) = PLS (prL (sc ((w9)) 0 ((u8_1))) ((a2)) ((a3)))) := by exact fun q => absurd q (by (have qg0 := HIDe r4; omega))
          refine Ew_of (pcₚ := 58) (fun _ => x_iload rfl (rk_o (rk_o (rfl) rfl rfl) rfl rfl)) ?_
          refine w_ifeq (t := 69) rfl rfl (show inr (a4) from h3) (fun b24 => ?_) (fun b24 => ?_)
          · refine Ew_of (pcₚ := 71) (fun _ => x_iload rfl rk_s) ?_
            have h0_0 : IMP ((a1) = 0) ((z23) = plY (prL (sc ((w3)) 0 ((u2_1))) ((a2)) ((a3))) ((a4))) := by exact fun q => absurd q (by (have qg0 := HIDe r1; omega))
            have h0_1 : IMP ((a1) = 1) ((z23) = plY (prL (sc ((w5)) 0 ((u4_1))) ((a2)) ((a3))) ((a4))) := by exact fun q => absurd q (by (have qg0 := HIDe r2; omega))
            have h0_2 : IMP ((a1) = 2) ((z23) = plY (prL (sc ((w7)) 0 ((u6_1))) ((a2)) ((a3))) ((a4))) := by exact fun q => absurd q (by (have qg0 := HIDe r3; omega))
            have h0_3 : IMP ((a1) = 3) ((z23) = plY (prL (sc ((w9)) 0 ((u8_1))) ((a2)) ((a3))) ((a4))) := by exact fun q => absurd q (by (have qg0 := HIDe r4; omega))
            exact w_ireturn rfl (k (z23) _ _ _ H O (cF23) (cA23) (show inr (z23) from pz23_0) (show 0 ≤ a1 ∧ a1 ≤ 3 ∨ (z23) = 0 from q_5038 b12) (h0_0) (h0_1) (h0_2) (h0_3))
          · refine Ew_of (pcₚ := 63) (fun _ => x_iload rfl rk_s) ?_
            refine w_stat24 rfl rfl (by rfl) (C54 (D := puc 0 D) (N := puc 0 N) (HW_subc H oz_R2vcls_35 oz_R2vcls_12) (show inr (z23) from pz23_0) (fun z25 σ25 F25ₚ A25ₚ Hₚ Oₚ hS25 hA25 pz25_0 pz25_1 => ⟨rfl, ?_⟩))
            refine v_backc (c := c) (s := s) H oz_R2vcls_35 oz_R2vcls_12 Hₚ Oₚ (fun F25 A25 H Oₚ eF25 eA25 => ?_)
            have O := OUT_trans O Oₚ
            -- PackHouse.maskedSum
            have cF25 : SF oz_R2vclsl_0 F F25 := SF_trans (cF23) (SF_gluc (ι := oz_R2vclsl_1) oz_R2vcls_12 hS25 eF25 (by decide +kernel)) (any_sub (lₚ := []) (by decide +kernel))
            have mF25 := SFm_of cF25 oz_R2vcls_10
            have cA25 : SA oz_R2vclsl_1 A A25 := SA_trans (cA23) (SA_gluc (ι := oz_R2vclsl_1) oz_R2vcls_12 hA25 eA25 (by decide +kernel)) (any_subA (lₚ := []) (by decide +kernel))
            have mA25 := SAm_of cA25 oz_R2vcls_11
            refine Ew_of (pcₚ := 71) (fun _ => x_goto rfl rfl) ?_
            have h0_0 : IMP ((a1) = 0) ((z25) = plY (prL (sc ((w3)) 0 ((u2_1))) ((a2)) ((a3))) ((a4))) := by exact fun q => absurd q (by (have qg0 := HIDe r1; omega))
            have h0_1 : IMP ((a1) = 1) ((z25) = plY (prL (sc ((w5)) 0 ((u4_1))) ((a2)) ((a3))) ((a4))) := by exact fun q => absurd q (by (have qg0 := HIDe r2; omega))
            have h0_2 : IMP ((a1) = 2) ((z25) = plY (prL (sc ((w7)) 0 ((u6_1))) ((a2)) ((a3))) ((a4))) := by exact fun q => absurd q (by (have qg0 := HIDe r3; omega))
            have h0_3 : IMP ((a1) = 3) ((z25) = plY (prL (sc ((w9)) 0 ((u8_1))) ((a2)) ((a3))) ((a4))) := by exact fun q => absurd q (by (have qg0 := HIDe r4; omega))
            exact w_ireturn rfl (k (z25) _ _ _ H O (cF25) (cA25) (show inr (z25) from pz25_0) (show 0 ≤ a1 ∧ a1 ≤ 3 ∨ (z25) = 0 from q_5038 b12) (h0_0) (h0_1) (h0_2) (h0_3))
        · refine Ew_of (pcₚ := 47) (fun _ => x_iload_n rfl (rk_o (rfl) rfl rfl)) ?_
          refine Ew_of (pcₚ := 51) (fun _ => x_goto rfl rfl) ?_
          refine w_stat24 rfl rfl (by rfl) (C53_Br (D := puc 3 D) (N := puc 3 N) (HW_subc H oz_R2vcls_34 oz_R2vcls_14) (STC_out HT HE O) (n3) (en3) (w3) ((funext (mA13 3 rfl)).trans (ew3)) (show inr (a2) from h1) (show inr (a3) from h2) (show 0 ≤ (a2) ∧ (a2) ≤ (a3) ∧ (a3) ≤ (n3) by have qh0 := HIDe r6; omega) (fun z26 σ26 F26ₚ A26ₚ Hₚ Oₚ hS26 hA26 pz26_0 pz26_1 => ⟨rfl, ?_⟩))
          refine v_backc (c := c) (s := s) H oz_R2vcls_34 oz_R2vcls_14 Hₚ Oₚ (fun F26 A26 H Oₚ eF26 eA26 => ?_)
          have O := OUT_trans O Oₚ
          -- PackHouse.polynomialSum
          have cF26 : SF oz_R2vclsl_0 F F26 := SF_trans (cF13) (SF_gluc (ι := oz_R2vclsl_3) oz_R2vcls_14 hS26 eF26 (by decide +kernel)) (any_sub (lₚ := []) (by decide +kernel))
          have mF26 := SFm_of cF26 oz_R2vcls_10
          have cA26 : SA oz_R2vclsl_1 A A26 := SA_trans (cA13) (SA_gluc (ι := oz_R2vclsl_3) oz_R2vcls_14 hA26 eA26 (by decide +kernel)) (any_subA (lₚ := []) (by decide +kernel))
          have mA26 := SAm_of cA26 oz_R2vcls_11
          refine Ew_of (pcₚ := 56) (fun _ => x_istore rfl) ?_
          have hP_0 : IMP ((a1) = 0) ((z26) = PLS (prL (sc ((w3)) 0 ((u2_1))) ((a2)) ((a3)))) := by exact fun q => (pz26_1).trans (by (rw [POL_L (b := (a3)) (by (have qg0 := HIDe r1; omega)) (by (have qg0 := HIDe r1; omega)), pr_sc (f := (w3)) (n := (u2_1)) (L := sc ((w3)) 0 ((u2_1))) rfl (by (have qg0 := HIDe r1; omega))]))
          have hP_1 : IMP ((a1) = 1) ((z26) = PLS (prL (sc ((w5)) 0 ((u4_1))) ((a2)) ((a3)))) := by exact fun q => absurd q (by (have qg0 := HIDe r2; omega))
          have hP_2 : IMP ((a1) = 2) ((z26) = PLS (prL (sc ((w7)) 0 ((u6_1))) ((a2)) ((a3)))) := by exact fun q => absurd q (by (have qg0 := HIDe r3; omega))
          have hP_3 : IMP ((a1) = 3) ((z26) = PLS (prL (sc ((w9)) 0 ((u8_1))) ((a2)) ((a3)))) := by exact fun q => absurd q (by (have qg0 := HIDe r4; omega))
          refine Ew_of (pcₚ := 58) (fun _ => x_iload rfl (rk_o (rk_o (rfl) rfl rfl) rfl rfl)) ?_
          refine w_ifeq (t := 69) rfl rfl (show inr (a4) from h3) (fun b27 => ?_) (fun b27 => ?_)
          · refine Ew_of (pcₚ := 71) (fun _ => x_iload rfl rk_s) ?_
            have h0_0 : IMP ((a1) = 0) ((z26) = plY (prL (sc ((w3)) 0 ((u2_1))) ((a2)) ((a3))) ((a4))) := by exact fun q => (hP_0 q).trans (plY_0 (by (have qg0 := HIDe r1; omega))).symm
            have h0_1 : IMP ((a1) = 1) ((z26) = plY (prL (sc ((w5)) 0 ((u4_1))) ((a2)) ((a3))) ((a4))) := by exact fun q => absurd q (by (have qg0 := HIDe r2; omega))
            have h0_2 : IMP ((a1) = 2) ((z26) = plY (prL (sc ((w7)) 0 ((u6_1))) ((a2)) ((a3))) ((a4))) := by exact fun q => absurd q (by (have qg0 := HIDe r3; omega))
            have h0_3 : IMP ((a1) = 3) ((z26) = plY (prL (sc ((w9)) 0 ((u8_1))) ((a2)) ((a3))) ((a4))) := by exact fun q => absurd q (by (have qg0 := HIDe r4; omega))
            exact w_ireturn rfl (k (z26) _ _ _ H O (cF26) (cA26) (show inr (z26) from pz26_0) (show 0 ≤ a1 ∧ a1 ≤ 3 ∨ (z26) = 0 from q_5038 b12) (h0_0) (h0_1) (h0_2) (h0_3))
          · refine Ew_of (pcₚ := 63) (fun _ => x_iload rfl rk_s) ?_
            refine w_stat24 rfl rfl (by rfl) (C54 (D := puc 0 D) (N := puc 0 N) (HW_subc H oz_R2vcls_35 oz_R2vcls_12) (show inr (z26) from pz26_0) (fun z28 σ28 F28ₚ A28ₚ Hₚ Oₚ hS28 hA28 pz28_0 pz28_1 => ⟨rfl, ?_⟩))
            refine v_backc (c := c) (s := s) H oz_R2vcls_35 oz_R2vcls_12 Hₚ Oₚ (fun F28 A28 H Oₚ eF28 eA28 => ?_)
            have O := OUT_trans O Oₚ
            -- PackHouse.maskedSum
            have cF28 : SF oz_R2vclsl_0 F F28 := SF_trans (cF26) (SF_gluc (ι := oz_R2vclsl_1) oz_R2vcls_12 hS28 eF28 (by decide +kernel)) (any_sub (lₚ := []) (by decide +kernel))
            have mF28 := SFm_of cF28 oz_R2vcls_10
            have cA28 : SA oz_R2vclsl_1 A A28 := SA_trans (cA26) (SA_gluc (ι := oz_R2vclsl_1) oz_R2vcls_12 hA28 eA28 (by decide +kernel)) (any_subA (lₚ := []) (by decide +kernel))
            have mA28 := SAm_of cA28 oz_R2vcls_11
            refine Ew_of (pcₚ := 71) (fun _ => x_goto rfl rfl) ?_
            have h0_0 : IMP ((a1) = 0) ((z28) = plY (prL (sc ((w3)) 0 ((u2_1))) ((a2)) ((a3))) ((a4))) := by exact fun q => by rw [plY_1 (by (have qg0 := HIDe r1; omega)), ← hP_0 q]; exact pz28_1
            have h0_1 : IMP ((a1) = 1) ((z28) = plY (prL (sc ((w5)) 0 ((u4_1))) ((a2)) ((a3))) ((a4))) := by exact fun q => absurd q (by (have qg0 := HIDe r2; omega))
            have h0_2 : IMP ((a1) = 2) ((z28) = plY (prL (sc ((w7)) 0 ((u6_1))) ((a2)) ((a3))) ((a4))) := by exact fun q => absurd q (by (have qg0 := HIDe r3; omega))
            have h0_3 : IMP ((a1) = 3) ((z28) = plY (prL (sc ((w9)) 0 ((u8_1))) ((a2)) ((a3))) ((a4))) := by exact fun q => absurd q (by (have qg0 := HIDe r4; omega))
            exact w_ireturn rfl (k (z28) _ _ _ H O (cF28) (cA28) (show inr (z28) from pz28_0) (show 0 ≤ a1 ∧ a1 ≤ 3 ∨ (z28) = 0 from q_5038 b12) (h0_0) (h0_1) (h0_2) (h0_3))
    · refine v_lR H (o := 1) rfl rfl rfl rfl rfl (n := n1) (en1) (show 0 ≤ a1 ∧ a1 < n1 from q_4726 (HIDe r5) b12 h5) (z := ((D 4 : Nat) : Int)) (v := .ref (D 4)) ((congrArg (A10 1) b12).trans ((mA10 1 rfl 1).trans (pf4))) (vrf rfl) ?_
      refine Ew_of (pcₚ := 16) (fun _ => x_iload_n rfl rfl) ?_
      refine Ew_of (pcₚ := 17) (fun _ => x_iload_n rfl rfl) ?_
      refine w_stat24 rfl rfl (by rfl) (C27_Rowp (D := puc 4 D) (N := puc 4 N) (HW_subc H oz_R2vcls_36 oz_R2vcls_15) (u4_1) (((mF10 4 1 rfl).trans (eu4_1))) (show inr (a2) from h1) (show inr (a3) from h2) (fun z29 σ29 F29ₚ A29ₚ Hₚ Oₚ hS29 hA29 pz29_0 pz29_1 => ⟨rretB rfl pz29_0, ?_⟩))
      refine v_backc (c := c) (s := s) H oz_R2vcls_36 oz_R2vcls_15 Hₚ Oₚ (fun F29 A29 H Oₚ eF29 eA29 => ?_)
      have O := OUT_trans O Oₚ
      -- PackHouse.isPart
      have cF29 : SF oz_R2vclsl_0 F F29 := SF_trans (cF10) (SF_gluc (ι := oz_R2vclsl_4) oz_R2vcls_15 hS29 eF29 (by decide +kernel)) (any_sub (lₚ := []) (by decide +kernel))
      have mF29 := SFm_of cF29 oz_R2vcls_10
      have cA29 : SA oz_R2vclsl_1 A A29 := SA_trans (cA10) (SA_gluc (ι := oz_R2vclsl_4) oz_R2vcls_15 hA29 eA29 (by decide +kernel)) (any_subA (lₚ := []) (by decide +kernel))
      have mA29 := SAm_of cA29 oz_R2vcls_11
      refine Ew_of (pcₚ := 22) (fun _ => x_istore rfl) ?_
      refine Ew_of (pcₚ := 23) (fun _ => x_aload_n rfl (rk_o (rfl) rfl rfl)) ?_
      refine v_g H (o := 0) (v := .ref (D 1)) rfl rfl rfl rfl rfl (vrf ((mF29 0 0 rfl).trans (pf1))) ?_
      refine Ew_of (pcₚ := 27) (fun _ => x_iload_n rfl (rk_o (rfl) rfl rfl)) ?_
      refine v_lR H (o := 1) rfl rfl rfl rfl rfl (n := n1) (en1) (show 0 ≤ a1 ∧ a1 < n1 from q_4726 (HIDe r5) b12 h5) (z := ((D 4 : Nat) : Int)) (v := .ref (D 4)) ((congrArg (A29 1) b12).trans ((mA29 1 rfl 1).trans (pf4))) (vrf rfl) ?_
      refine v_g H (o := 4) (v := .ref (D 5)) rfl rfl rfl rfl rfl (vrf ((mF29 4 0 rfl).trans (pf5))) ?_
      refine Ew_of (pcₚ := 33) (fun _ => x_iload rfl rk_s) ?_
      refine w_ifeq (t := 40) rfl rfl (show inr (z29) from q_138 pz29_0) (fun b30 => ?_) (fun b30 => ?_)
      · refine Ew_of (pcₚ := 41) (fun _ => x_iconst rfl) ?_
        refine Ew_of (pcₚ := 43) (fun _ => x_iload rfl rk_s) ?_
        refine w_ifeq (t := 50) rfl rfl (show inr (z29) from q_123 b30) (fun b31 => ?_) (fun b31 => ?_)
        · refine Ew_of (pcₚ := 51) (fun _ => x_iconst rfl) ?_
          refine w_stat24 rfl rfl (by rfl) (C53_Br (D := puc 5 D) (N := puc 5 N) (HW_subc H oz_R2vcls_37 oz_R2vcls_16) (STC_out HT HE O) (n5) (en5) (w5) ((funext (mA29 5 rfl)).trans (ew5)) (show inr (0) from q_2) (show inr (0) from q_2) (show 0 ≤ (0) ∧ (0) ≤ (0) ∧ (0) ≤ (n5) from q_5037 (HIDe r7)) (fun z32 σ32 F32ₚ A32ₚ Hₚ Oₚ hS32 hA32 pz32_0 pz32_1 => ⟨rfl, ?_⟩))
          refine v_backc (c := c) (s := s) H oz_R2vcls_37 oz_R2vcls_16 Hₚ Oₚ (fun F32 A32 H Oₚ eF32 eA32 => ?_)
          have O := OUT_trans O Oₚ
          -- PackHouse.polynomialSum
          have cF32 : SF oz_R2vclsl_0 F F32 := SF_trans (cF29) (SF_gluc (ι := oz_R2vclsl_5) oz_R2vcls_16 hS32 eF32 (by decide +kernel)) (any_sub (lₚ := []) (by decide +kernel))
          have mF32 := SFm_of cF32 oz_R2vcls_10
          have cA32 : SA oz_R2vclsl_1 A A32 := SA_trans (cA29) (SA_gluc (ι := oz_R2vclsl_5) oz_R2vcls_16 hA32 eA32 (by decide +kernel)) (any_subA (lₚ := []) (by decide +kernel))
          have mA32 := SAm_of cA32 oz_R2vcls_11
          refine Ew_of (pcₚ := 56) (fun _ => x_istore rfl) ?_
          have hP_0 : IMP ((a1) = 0) ((z32) = PLS (prL (sc ((w3)) 0 ((u2_1))) ((a2)) ((a3)))) := by exact fun q => absurd q (by (have qg0 := HIDe r1; omega))
          have hP_1 : IMP ((a1) = 1) ((z32) = PLS (prL (sc ((w5)) 0 ((u4_1))) ((a2)) ((a3)))) := by exact fun q => (pz32_1).trans (by (rw [POL_L (b := 0) (by (have qg0 := HIDe r2; omega)) (by (have qg0 := HIDe r2; omega)), pr_nil (f := (w5)) (n := (u4_1)) (L := sc ((w5)) 0 ((u4_1))) rfl (by (have qg0 := HIDe r2; omega)) (by (have qg0 := HIDe r2; omega)), sc_nil (by (have qg0 := HIDe r2; omega))]))
          have hP_2 : IMP ((a1) = 2) ((z32) = PLS (prL (sc ((w7)) 0 ((u6_1))) ((a2)) ((a3)))) := by exact fun q => absurd q (by (have qg0 := HIDe r3; omega))
          have hP_3 : IMP ((a1) = 3) ((z32) = PLS (prL (sc ((w9)) 0 ((u8_1))) ((a2)) ((a3)))) := by exact fun q => absurd q (by (have qg0 := HIDe r4; omega))
          refine Ew_of (pcₚ := 58) (fun _ => x_iload rfl (rk_o (rk_o (rfl) rfl rfl) rfl rfl)) ?_
          refine w_ifeq (t := 69) rfl rfl (show inr (a4) from h3) (fun b33 => ?_) (fun b33 => ?_)
          · refine Ew_of (pcₚ := 71) (fun _ => x_iload rfl rk_s) ?_
            have h0_0 : IMP ((a1) = 0) ((z32) = plY (prL (sc ((w3)) 0 ((u2_1))) ((a2)) ((a3))) ((a4))) := by exact fun q => absurd q (by (have qg0 := HIDe r1; omega))
            have h0_1 : IMP ((a1) = 1) ((z32) = plY (prL (sc ((w5)) 0 ((u4_1))) ((a2)) ((a3))) ((a4))) := by exact fun q => (hP_1 q).trans (plY_0 (by (have qg0 := HIDe r2; omega))).symm
            have h0_2 : IMP ((a1) = 2) ((z32) = plY (prL (sc ((w7)) 0 ((u6_1))) ((a2)) ((a3))) ((a4))) := by exact fun q => absurd q (by (have qg0 := HIDe r3; omega))
            have h0_3 : IMP ((a1) = 3) ((z32) = plY (prL (sc ((w9)) 0 ((u8_1))) ((a2)) ((a3))) ((a4))) := by exact fun q => absurd q (by (have qg0 := HIDe r4; omega))
            exact w_ireturn rfl (k (z32) _ _ _ H O (cF32) (cA32) (show inr (z32) from pz32_0) (show 0 ≤ a1 ∧ a1 ≤ 3 ∨ (z32) = 0 from q_5039 b12) (h0_0) (h0_1) (h0_2) (h0_3))
          · refine Ew_of (pcₚ := 63) (fun _ => x_iload rfl rk_s) ?_
            refine w_stat24 rfl rfl (by rfl) (C54 (D := puc 0 D) (N := puc 0 N) (HW_subc H oz_R2vcls_35 oz_R2vcls_12) (show inr (z32) from pz32_0) (fun z34 σ34 F34ₚ A34ₚ Hₚ Oₚ hS34 hA34 pz34_0 pz34_1 => ⟨rfl, ?_⟩))
            refine v_backc (c := c) (s := s) H oz_R2vcls_35 oz_R2vcls_12 Hₚ Oₚ (fun F34 A34 H Oₚ eF34 eA34 => ?_)
            have O := OUT_trans O Oₚ
            -- PackHouse.maskedSum
            have cF34 : SF oz_R2vclsl_0 F F34 := SF_trans (cF32) (SF_gluc (ι := oz_R2vclsl_1) oz_R2vcls_12 hS34 eF34 (by decide +kernel)) (any_sub (lₚ := []) (by decide +kernel))
            have mF34 := SFm_of cF34 oz_R2vcls_10
            have cA34 : SA oz_R2vclsl_1 A A34 := SA_trans (cA32) (SA_gluc (ι := oz_R2vclsl_1) oz_R2vcls_12 hA34 eA34 (by decide +kernel)) (any_subA (lₚ := []) (by decide +kernel))
            have mA34 := SAm_of cA34 oz_R2vcls_11
            refine Ew_of (pcₚ := 71) (fun _ => x_goto rfl rfl) ?_
            have h0_0 : IMP ((a1) = 0) ((z34) = plY (prL (sc ((w3)) 0 ((u2_1))) ((a2)) ((a3))) ((a4))) := by exact fun q => absurd q (by (have qg0 := HIDe r1; omega))
            have h0_1 : IMP ((a1) = 1) ((z34) = plY (prL (sc ((w5)) 0 ((u4_1))) ((a2)) ((a3))) ((a4))) := by exact fun q => by rw [plY_1 (by (have qg0 := HIDe r2; omega)), ← hP_1 q]; exact pz34_1
            have h0_2 : IMP ((a1) = 2) ((z34) = plY (prL (sc ((w7)) 0 ((u6_1))) ((a2)) ((a3))) ((a4))) := by exact fun q => absurd q (by (have qg0 := HIDe r3; omega))
            have h0_3 : IMP ((a1) = 3) ((z34) = plY (prL (sc ((w9)) 0 ((u8_1))) ((a2)) ((a3))) ((a4))) := by exact fun q => absurd q (by (have qg0 := HIDe r4; omega))
            exact w_ireturn rfl (k (z34) _ _ _ H O (cF34) (cA34) (show inr (z34) from pz34_0) (show 0 ≤ a1 ∧ a1 ≤ 3 ∨ (z34) = 0 from q_5039 b12) (h0_0) (h0_1) (h0_2) (h0_3))
        · refine Ew_of (pcₚ := 47) (fun _ => x_iload_n rfl (rk_o (rfl) rfl rfl)) ?_
          refine Ew_of (pcₚ := 51) (fun _ => x_goto rfl rfl) ?_
          refine w_stat24 rfl rfl (by rfl) (C53_Br (D := puc 5 D) (N := puc 5 N) (HW_subc H oz_R2vcls_37 oz_R2vcls_16) (STC_out HT HE O) (n5) (en5) (w5) ((funext (mA29 5 rfl)).trans (ew5)) (show inr (0) from q_2) (show inr (a3) from h2) (show 0 ≤ (0) ∧ (0) ≤ (a3) ∧ (a3) ≤ (n5) by have qh0 := HIDe r7; omega) (fun z35 σ35 F35ₚ A35ₚ Hₚ Oₚ hS35 hA35 pz35_0 pz35_1 => ⟨rfl, ?_⟩))
          refine v_backc (c := c) (s := s) H oz_R2vcls_37 oz_R2vcls_16 Hₚ Oₚ (fun F35 A35 H Oₚ eF35 eA35 => ?_)
          have O := OUT_trans O Oₚ
          -- PackHouse.polynomialSum
          have cF35 : SF oz_R2vclsl_0 F F35 := SF_trans (cF29) (SF_gluc (ι := oz_R2vclsl_5) oz_R2vcls_16 hS35 eF35 (by decide +kernel)) (any_sub (lₚ := []) (by decide +kernel))
          have mF35 := SFm_of cF35 oz_R2vcls_10
          have cA35 : SA oz_R2vclsl_1 A A35 := SA_trans (cA29) (SA_gluc (ι := oz_R2vclsl_5) oz_R2vcls_16 hA35 eA35 (by decide +kernel)) (any_subA (lₚ := []) (by decide +kernel))
          have mA35 := SAm_of cA35 oz_R2vcls_11
          refine Ew_of (pcₚ := 56) (fun _ => x_istore rfl) ?_
          have hP_0 : IMP ((a1) = 0) ((z35) = PLS (prL (sc ((w3)) 0 ((u2_1))) ((a2)) ((a3)))) := by exact fun q => absurd q (by (have qg0 := HIDe r1; omega))
          have hP_1 : IMP ((a1) = 1) ((z35) = PLS (prL (sc ((w5)) 0 ((u4_1))) ((a2)) ((a3)))) := by exact fun q => absurd q (by (have qg0 := HIDe r2; omega))
          have hP_2 : IMP ((a1) = 2) ((z35) = PLS (prL (sc ((w7)) 0 ((u6_1))) ((a2)) ((a3)))) := by exact fun q => absurd q (by (have qg0 := HIDe r3; omega))
          have hP_3 : IMP ((a1) = 3) ((z35) = PLS (prL (sc ((w9)) 0 ((u8_1))) ((a2)) ((a3)))) := by exact fun q => absurd q (by (have qg0 := HIDe r4; omega))
          refine Ew_of (pcₚ := 58) (fun _ => x_iload rfl (rk_o (rk_o (rfl) rfl rfl) rfl rfl)) ?_
          refine w_ifeq (t := 69) rfl rfl (show inr (a4) from h3) (fun b36 => ?_) (fun b36 => ?_)
          · refine Ew_of (pcₚ := 71) (fun _ => x_iload rfl rk_s) ?_
            have h0_0 : IMP ((a1) = 0) ((z35) = plY (prL (sc ((w3)) 0 ((u2_1))) ((a2)) ((a3))) ((a4))) := by exact fun q => absurd q (by (have qg0 := HIDe r1; omega))
            have h0_1 : IMP ((a1) = 1) ((z35) = plY (prL (sc ((w5)) 0 ((u4_1))) ((a2)) ((a3))) ((a4))) := by exact fun q => absurd q (by (have qg0 := HIDe r2; omega))
            have h0_2 : IMP ((a1) = 2) ((z35) = plY (prL (sc ((w7)) 0 ((u6_1))) ((a2)) ((a3))) ((a4))) := by exact fun q => absurd q (by (have qg0 := HIDe r3; omega))
            have h0_3 : IMP ((a1) = 3) ((z35) = plY (prL (sc ((w9)) 0 ((u8_1))) ((a2)) ((a3))) ((a4))) := by exact fun q => absurd q (by (have qg0 := HIDe r4; omega))
            exact w_ireturn rfl (k (z35) _ _ _ H O (cF35) (cA35) (show inr (z35) from pz35_0) (show 0 ≤ a1 ∧ a1 ≤ 3 ∨ (z35) = 0 from q_5039 b12) (h0_0) (h0_1) (h0_2) (h0_3))
          · refine Ew_of (pcₚ := 63) (fun _ => x_iload rfl rk_s) ?_
            refine w_stat24 rfl rfl (by rfl) (C54 (D := puc 0 D) (N := puc 0 N) (HW_subc H oz_R2vcls_35 oz_R2vcls_12) (show inr (z35) from pz35_0) (fun z37 σ37 F37ₚ A37ₚ Hₚ Oₚ hS37 hA37 pz37_0 pz37_1 => ⟨rfl, ?_⟩))
            refine v_backc (c := c) (s := s) H oz_R2vcls_35 oz_R2vcls_12 Hₚ Oₚ (fun F37 A37 H Oₚ eF37 eA37 => ?_)
            have O := OUT_trans O Oₚ
            -- PackHouse.maskedSum
            have cF37 : SF oz_R2vclsl_0 F F37 := SF_trans (cF35) (SF_gluc (ι := oz_R2vclsl_1) oz_R2vcls_12 hS37 eF37 (by decide +kernel)) (any_sub (lₚ := []) (by decide +kernel))
            have mF37 := SFm_of cF37 oz_R2vcls_10
            have cA37 : SA oz_R2vclsl_1 A A37 := SA_trans (cA35) (SA_gluc (ι := oz_R2vclsl_1) oz_R2vcls_12 hA37 eA37 (by decide +kernel)) (any_subA (lₚ := []) (by decide +kernel))
            have mA37 := SAm_of cA37 oz_R2vcls_11
            refine Ew_of (pcₚ := 71) (fun _ => x_goto rfl rfl) ?_
            have h0_0 : IMP ((a1) = 0) ((z37) = plY (prL (sc ((w3)) 0 ((u2_1))) ((a2)) ((a3))) ((a4))) := by exact fun q => absurd q (by (have qg0 := HIDe r1; omega))
            have h0_1 : IMP ((a1) = 1) ((z37) = plY (prL (sc ((w5)) 0 ((u4_1))) ((a2)) ((a3))) ((a4))) := by exact fun q => absurd q (by (have qg0 := HIDe r2; omega))
            have h0_2 : IMP ((a1) = 2) ((z37) = plY (prL (sc ((w7)) 0 ((u6_1))) ((a2)) ((a3))) ((a4))) := by exact fun q => absurd q (by (have qg0 := HIDe r3; omega))
            have h0_3 : IMP ((a1) = 3) ((z37) = plY (prL (sc ((w9)) 0 ((u8_1))) ((a2)) ((a3))) ((a4))) := by exact fun q => absurd q (by (have qg0 := HIDe r4; omega))
            exact w_ireturn rfl (k (z37) _ _ _ H O (cF37) (cA37) (show inr (z37) from pz37_0) (show 0 ≤ a1 ∧ a1 ≤ 3 ∨ (z37) = 0 from q_5039 b12) (h0_0) (h0_1) (h0_2) (h0_3))
      · refine Ew_of (pcₚ := 37) (fun _ => x_iload_n rfl (rk_o (rfl) rfl rfl)) ?_
        refine Ew_of (pcₚ := 41) (fun _ => x_goto rfl rfl) ?_
        refine Ew_of (pcₚ := 43) (fun _ => x_iload rfl rk_s) ?_
        refine w_ifeq (t := 50) rfl rfl (show inr (z29) from q_138 pz29_0) (fun b38 => ?_) (fun b38 => ?_)
        · refine Ew_of (pcₚ := 51) (fun _ => x_iconst rfl) ?_
          refine w_stat24 rfl rfl (by rfl) (C53_Br (D := puc 5 D) (N := puc 5 N) (HW_subc H oz_R2vcls_37 oz_R2vcls_16) (STC_out HT HE O) (n5) (en5) (w5) ((funext (mA29 5 rfl)).trans (ew5)) (show inr (a2) from h1) (show inr (0) from q_2) (show 0 ≤ (a2) ∧ (a2) ≤ (0) ∧ (0) ≤ (n5) by have qh0 := HIDe r7; omega) (fun z39 σ39 F39ₚ A39ₚ Hₚ Oₚ hS39 hA39 pz39_0 pz39_1 => ⟨rfl, ?_⟩))
          refine v_backc (c := c) (s := s) H oz_R2vcls_37 oz_R2vcls_16 Hₚ Oₚ (fun F39 A39 H Oₚ eF39 eA39 => ?_)
          have O := OUT_trans O Oₚ
          -- PackHouse.polynomialSum
          have cF39 : SF oz_R2vclsl_0 F F39 := SF_trans (cF29) (SF_gluc (ι := oz_R2vclsl_5) oz_R2vcls_16 hS39 eF39 (by decide +kernel)) (any_sub (lₚ := []) (by decide +kernel))
          have mF39 := SFm_of cF39 oz_R2vcls_10
          have cA39 : SA oz_R2vclsl_1 A A39 := SA_trans (cA29) (SA_gluc (ι := oz_R2vclsl_5) oz_R2vcls_16 hA39 eA39 (by decide +kernel)) (any_subA (lₚ := []) (by decide +kernel))
          have mA39 := SAm_of cA39 oz_R2vcls_11
          refine Ew_of (pcₚ := 56) (fun _ => x_istore rfl) ?_
          have hP_0 : IMP ((a1) = 0) ((z39) = PLS (prL (sc ((w3)) 0 ((u2_1))) ((a2)) ((a3)))) := by exact fun q => absurd q (by (have qg0 := HIDe r1; omega))
          have hP_1 : IMP ((a1) = 1) ((z39) = PLS (prL (sc ((w5)) 0 ((u4_1))) ((a2)) ((a3)))) := by exact fun q => absurd q (by (have qg0 := HIDe r2; omega))
          have hP_2 : IMP ((a1) = 2) ((z39) = PLS (prL (sc ((w7)) 0 ((u6_1))) ((a2)) ((a3)))) := by exact fun q => absurd q (by (have qg0 := HIDe r3; omega))
          have hP_3 : IMP ((a1) = 3) ((z39) = PLS (prL (sc ((w9)) 0 ((u8_1))) ((a2)) ((a3)))) := by exact fun q => absurd q (by (have qg0 := HIDe r4; omega))
          refine Ew_of (pcₚ := 58) (fun _ => x_iload rfl (rk_o (rk_o (rfl) rfl rfl) rfl rfl)) ?_
          refine w_ifeq (t := 69) rfl rfl (show inr (a4) from h3) (fun b40 => ?_) (fun b40 => ?_)
          · refine Ew_of (pcₚ := 71) (fun _ => x_iload rfl rk_s) ?_
            have h0_0 : IMP ((a1) = 0) ((z39) = plY (prL (sc ((w3)) 0 ((u2_1))) ((a2)) ((a3))) ((a4))) := by exact fun q => absurd q (by (have qg0 := HIDe r1; omega))
            have h0_1 : IMP ((a1) = 1) ((z39) = plY (prL (sc ((w5)) 0 ((u4_1))) ((a2)) ((a3))) ((a4))) := by exact fun q => absurd q (by (have qg0 := HIDe r2; omega))
            have h0_2 : IMP ((a1) = 2) ((z39) = plY (prL (sc ((w7)) 0 ((u6_1))) ((a2)) ((a3))) ((a4))) := by exact fun q => absurd q (by (have qg0 := HIDe r3; omega))
            have h0_3 : IMP ((a1) = 3) ((z39) = plY (prL (sc ((w9)) 0 ((u8_1))) ((a2)) ((a3))) ((a4))) := by exact fun q => absurd q (by (have qg0 := HIDe r4; omega))
            exact w_ireturn rfl (k (z39) _ _ _ H O (cF39) (cA39) (show inr (z39) from pz39_0) (show 0 ≤ a1 ∧ a1 ≤ 3 ∨ (z39) = 0 from q_5039 b12) (h0_0) (h0_1) (h0_2) (h0_3))
          · refine Ew_of (pcₚ := 63) (fun _ => x_iload rfl rk_s) ?_
            refine w_stat24 rfl rfl (by rfl) (C54 (D := puc 0 D) (N := puc 0 N) (HW_subc H oz_R2vcls_35 oz_R2vcls_12) (show inr (z39) from pz39_0) (fun z41 σ41 F41ₚ A41ₚ Hₚ Oₚ hS41 hA41 pz41_0 pz41_1 => ⟨rfl, ?_⟩))
            refine v_backc (c := c) (s := s) H oz_R2vcls_35 oz_R2vcls_12 Hₚ Oₚ (fun F41 A41 H Oₚ eF41 eA41 => ?_)
            have O := OUT_trans O Oₚ
            -- PackHouse.maskedSum
            have cF41 : SF oz_R2vclsl_0 F F41 := SF_trans (cF39) (SF_gluc (ι := oz_R2vclsl_1) oz_R2vcls_12 hS41 eF41 (by decide +kernel)) (any_sub (lₚ := []) (by decide +kernel))
            have mF41 := SFm_of cF41 oz_R2vcls_10
            have cA41 : SA oz_R2vclsl_1 A A41 := SA_trans (cA39) (SA_gluc (ι := oz_R2vclsl_1) oz_R2vcls_12 hA41 eA41 (by decide +kernel)) (any_subA (lₚ := []) (by decide +kernel))
            have mA41 := SAm_of cA41 oz_R2vcls_11
            refine Ew_of (pcₚ := 71) (fun _ => x_goto rfl rfl) ?_
            have h0_0 : IMP ((a1) = 0) ((z41) = plY (prL (sc ((w3)) 0 ((u2_1))) ((a2)) ((a3))) ((a4))) := by exact fun q => absurd q (by (have qg0 := HIDe r1; omega))
            have h0_1 : IMP ((a1) = 1) ((z41) = plY (prL (sc ((w5)) 0 ((u4_1))) ((a2)) ((a3))) ((a4))) := by exact fun q => absurd q (by (have qg0 := HIDe r2; omega))
            have h0_2 : IMP ((a1) = 2) ((z41) = plY (prL (sc ((w7)) 0 ((u6_1))) ((a2)) ((a3))) ((a4))) := by exact fun q => absurd q (by (have qg0 := HIDe r3; omega))
            have h0_3 : IMP ((a1) = 3) ((z41) = plY (prL (sc ((w9)) 0 ((u8_1))) ((a2)) ((a3))) ((a4))) := by exact fun q => absurd q (by (have qg0 := HIDe r4; omega))
            exact w_ireturn rfl (k (z41) _ _ _ H O (cF41) (cA41) (show inr (z41) from pz41_0) (show 0 ≤ a1 ∧ a1 ≤ 3 ∨ (z41) = 0 from q_5039 b12) (h0_0) (h0_1) (h0_2) (h0_3))
        · refine Ew_of (pcₚ := 47) (fun _ => x_iload_n rfl (rk_o (rfl) rfl rfl)) ?_
          refine Ew_of (pcₚ := 51) (fun _ => x_goto rfl rfl) ?_
          refine w_stat24 rfl rfl (by rfl) (C53_Br (D := puc 5 D) (N := puc 5 N) (HW_subc H oz_R2vcls_37 oz_R2vcls_16) (STC_out HT HE O) (n5) (en5) (w5) ((funext (mA29 5 rfl)).trans (ew5)) (show inr (a2) from h1) (show inr (a3) from h2) (show 0 ≤ (a2) ∧ (a2) ≤ (a3) ∧ (a3) ≤ (n5) by have qh0 := HIDe r7; omega) (fun z42 σ42 F42ₚ A42ₚ Hₚ Oₚ hS42 hA42 pz42_0 pz42_1 => ⟨rfl, ?_⟩))
          refine v_backc (c := c) (s := s) H oz_R2vcls_37 oz_R2vcls_16 Hₚ Oₚ (fun F42 A42 H Oₚ eF42 eA42 => ?_)
          have O := OUT_trans O Oₚ
          -- PackHouse.polynomialSum
          have cF42 : SF oz_R2vclsl_0 F F42 := SF_trans (cF29) (SF_gluc (ι := oz_R2vclsl_5) oz_R2vcls_16 hS42 eF42 (by decide +kernel)) (any_sub (lₚ := []) (by decide +kernel))
          have mF42 := SFm_of cF42 oz_R2vcls_10
          have cA42 : SA oz_R2vclsl_1 A A42 := SA_trans (cA29) (SA_gluc (ι := oz_R2vclsl_5) oz_R2vcls_16 hA42 eA42 (by decide +kernel)) (any_subA (lₚ := []) (by decide +kernel))
          have mA42 := SAm_of cA42 oz_R2vcls_11
          refine Ew_of (pcₚ := 56) (fun _ => x_istore rfl) ?_
          have hP_0 : IMP ((a1) = 0) ((z42) = PLS (prL (sc ((w3)) 0 ((u2_1))) ((a2)) ((a3)))) := by exact fun q => absurd q (by (have qg0 := HIDe r1; omega))
          have hP_1 : IMP ((a1) = 1) ((z42) = PLS (prL (sc ((w5)) 0 ((u4_1))) ((a2)) ((a3)))) := by exact fun q => (pz42_1).trans (by (rw [POL_L (b := (a3)) (by (have qg0 := HIDe r2; omega)) (by (have qg0 := HIDe r2; omega)), pr_sc (f := (w5)) (n := (u4_1)) (L := sc ((w5)) 0 ((u4_1))) rfl (by (have qg0 := HIDe r2; omega))]))
          have hP_2 : IMP ((a1) = 2) ((z42) = PLS (prL (sc ((w7)) 0 ((u6_1))) ((a2)) ((a3)))) := by exact fun q => absurd q (by (have qg0 := HIDe r3; omega))
          have hP_3 : IMP ((a1) = 3) ((z42) = PLS (prL (sc ((w9)) 0 ((u8_1))) ((a2)) ((a3)))) := by exact fun q => absurd q (by (have qg0 := HIDe r4; omega))
          refine Ew_of (pcₚ := 58) (fun _ => x_iload rfl (rk_o (rk_o (rfl) rfl rfl) rfl rfl)) ?_
          refine w_ifeq (t := 69) rfl rfl (show inr (a4) from h3) (fun b43 => ?_) (fun b43 => ?_)
          · refine Ew_of (pcₚ := 71) (fun _ => x_iload rfl rk_s) ?_
            have h0_0 : IMP ((a1) = 0) ((z42) = plY (prL (sc ((w3)) 0 ((u2_1))) ((a2)) ((a3))) ((a4))) := by exact fun q => absurd q (by (have qg0 := HIDe r1; omega))
            have h0_1 : IMP ((a1) = 1) ((z42) = plY (prL (sc ((w5)) 0 ((u4_1))) ((a2)) ((a3))) ((a4))) := by exact fun q => (hP_1 q).trans (plY_0 (by (have qg0 := HIDe r2; omega))).symm
            have h0_2 : IMP ((a1) = 2) ((z42) = plY (prL (sc ((w7)) 0 ((u6_1))) ((a2)) ((a3))) ((a4))) := by exact fun q => absurd q (by (have qg0 := HIDe r3; omega))
            have h0_3 : IMP ((a1) = 3) ((z42) = plY (prL (sc ((w9)) 0 ((u8_1))) ((a2)) ((a3))) ((a4))) := by exact fun q => absurd q (by (have qg0 := HIDe r4; omega))
            exact w_ireturn rfl (k (z42) _ _ _ H O (cF42) (cA42) (show inr (z42) from pz42_0) (show 0 ≤ a1 ∧ a1 ≤ 3 ∨ (z42) = 0 from q_5039 b12) (h0_0) (h0_1) (h0_2) (h0_3))
          · refine Ew_of (pcₚ := 63) (fun _ => x_iload rfl rk_s) ?_
            refine w_stat24 rfl rfl (by rfl) (C54 (D := puc 0 D) (N := puc 0 N) (HW_subc H oz_R2vcls_35 oz_R2vcls_12) (show inr (z42) from pz42_0) (fun z44 σ44 F44ₚ A44ₚ Hₚ Oₚ hS44 hA44 pz44_0 pz44_1 => ⟨rfl, ?_⟩))
            refine v_backc (c := c) (s := s) H oz_R2vcls_35 oz_R2vcls_12 Hₚ Oₚ (fun F44 A44 H Oₚ eF44 eA44 => ?_)
            have O := OUT_trans O Oₚ
            -- PackHouse.maskedSum
            have cF44 : SF oz_R2vclsl_0 F F44 := SF_trans (cF42) (SF_gluc (ι := oz_R2vclsl_1) oz_R2vcls_12 hS44 eF44 (by decide +kernel)) (any_sub (lₚ := []) (by decide +kernel))
            have mF44 := SFm_of cF44 oz_R2vcls_10
            have cA44 : SA oz_R2vclsl_1 A A44 := SA_trans (cA42) (SA_gluc (ι := oz_R2vclsl_1) oz_R2vcls_12 hA44 eA44 (by decide +kernel)) (any_subA (lₚ := []) (by decide +kernel))
            have mA44 := SAm_of cA44 oz_R2vcls_11
            refine Ew_of (pcₚ := 71) (fun _ => x_goto rfl rfl) ?_
            have h0_0 : IMP ((a1) = 0) ((z44) = plY (prL (sc ((w3)) 0 ((u2_1))) ((a2)) ((a3))) ((a4))) := by exact fun q => absurd q (by (have qg0 := HIDe r1; omega))
            have h0_1 : IMP ((a1) = 1) ((z44) = plY (prL (sc ((w5)) 0 ((u4_1))) ((a2)) ((a3))) ((a4))) := by exact fun q => by rw [plY_1 (by (have qg0 := HIDe r2; omega)), ← hP_1 q]; exact pz44_1
            have h0_2 : IMP ((a1) = 2) ((z44) = plY (prL (sc ((w7)) 0 ((u6_1))) ((a2)) ((a3))) ((a4))) := by exact fun q => absurd q (by (have qg0 := HIDe r3; omega))
            have h0_3 : IMP ((a1) = 3) ((z44) = plY (prL (sc ((w9)) 0 ((u8_1))) ((a2)) ((a3))) ((a4))) := by exact fun q => absurd q (by (have qg0 := HIDe r4; omega))
            exact w_ireturn rfl (k (z44) _ _ _ H O (cF44) (cA44) (show inr (z44) from pz44_0) (show 0 ≤ a1 ∧ a1 ≤ 3 ∨ (z44) = 0 from q_5039 b12) (h0_0) (h0_1) (h0_2) (h0_3))
    · refine v_lR H (o := 1) rfl rfl rfl rfl rfl (n := n1) (en1) (show 0 ≤ a1 ∧ a1 < n1 from q_4727 (HIDe r5) b12 h5) (z := ((D 6 : Nat) : Int)) (v := .ref (D 6)) ((congrArg (A10 1) b12).trans ((mA10 1 rfl 2).trans (pf6))) (vrf rfl) ?_
      refine Ew_of (pcₚ := 16) (fun _ => x_iload_n rfl rfl) ?_
      refine Ew_of (pcₚ := 17) (fun _ => x_iload_n rfl rfl) ?_
      refine w_stat24 rfl rfl (by rfl) (C27_Rowp (D := puc 6 D) (N := puc 6 N) (HW_subc H oz_R2vcls_38 oz_R2vcls_17) (u6_1) (((mF10 6 1 rfl).trans (eu6_1))) (show inr (a2) from h1) (show inr (a3) from h2) (fun z45 σ45 F45ₚ A45ₚ Hₚ Oₚ hS45 hA45 pz45_0 pz45_1 => ⟨rretB rfl pz45_0, ?_⟩))
      refine v_backc (c := c) (s := s) H oz_R2vcls_38 oz_R2vcls_17 Hₚ Oₚ (fun F45 A45 H Oₚ eF45 eA45 => ?_)
      have O := OUT_trans O Oₚ
      -- PackHouse.isPart
      have cF45 : SF oz_R2vclsl_0 F F45 := SF_trans (cF10) (SF_gluc (ι := oz_R2vclsl_6) oz_R2vcls_17 hS45 eF45 (by decide +kernel)) (any_sub (lₚ := []) (by decide +kernel))
      have mF45 := SFm_of cF45 oz_R2vcls_10
      have cA45 : SA oz_R2vclsl_1 A A45 := SA_trans (cA10) (SA_gluc (ι := oz_R2vclsl_6) oz_R2vcls_17 hA45 eA45 (by decide +kernel)) (any_subA (lₚ := []) (by decide +kernel))
      have mA45 := SAm_of cA45 oz_R2vcls_11
      refine Ew_of (pcₚ := 22) (fun _ => x_istore rfl) ?_
      refine Ew_of (pcₚ := 23) (fun _ => x_aload_n rfl (rk_o (rfl) rfl rfl)) ?_
      refine v_g H (o := 0) (v := .ref (D 1)) rfl rfl rfl rfl rfl (vrf ((mF45 0 0 rfl).trans (pf1))) ?_
      refine Ew_of (pcₚ := 27) (fun _ => x_iload_n rfl (rk_o (rfl) rfl rfl)) ?_
      refine v_lR H (o := 1) rfl rfl rfl rfl rfl (n := n1) (en1) (show 0 ≤ a1 ∧ a1 < n1 from q_4727 (HIDe r5) b12 h5) (z := ((D 6 : Nat) : Int)) (v := .ref (D 6)) ((congrArg (A45 1) b12).trans ((mA45 1 rfl 2).trans (pf6))) (vrf rfl) ?_
      refine v_g H (o := 6) (v := .ref (D 7)) rfl rfl rfl rfl rfl (vrf ((mF45 6 0 rfl).trans (pf7))) ?_
      refine Ew_of (pcₚ := 33) (fun _ => x_iload rfl rk_s) ?_
      refine w_ifeq (t := 40) rfl rfl (show inr (z45) from q_138 pz45_0) (fun b46 => ?_) (fun b46 => ?_)
      · refine Ew_of (pcₚ := 41) (fun _ => x_iconst rfl) ?_
        refine Ew_of (pcₚ := 43) (fun _ => x_iload rfl rk_s) ?_
        refine w_ifeq (t := 50) rfl rfl (show inr (z45) from q_123 b46) (fun b47 => ?_) (fun b47 => ?_)
        · refine Ew_of (pcₚ := 51) (fun _ => x_iconst rfl) ?_
          refine w_stat24 rfl rfl (by rfl) (C53_Br (D := puc 7 D) (N := puc 7 N) (HW_subc H oz_R2vcls_39 oz_R2vcls_18) (STC_out HT HE O) (n7) (en7) (w7) ((funext (mA45 7 rfl)).trans (ew7)) (show inr (0) from q_2) (show inr (0) from q_2) (show 0 ≤ (0) ∧ (0) ≤ (0) ∧ (0) ≤ (n7) from q_5037 (HIDe r8)) (fun z48 σ48 F48ₚ A48ₚ Hₚ Oₚ hS48 hA48 pz48_0 pz48_1 => ⟨rfl, ?_⟩))
          refine v_backc (c := c) (s := s) H oz_R2vcls_39 oz_R2vcls_18 Hₚ Oₚ (fun F48 A48 H Oₚ eF48 eA48 => ?_)
          have O := OUT_trans O Oₚ
          -- PackHouse.polynomialSum
          have cF48 : SF oz_R2vclsl_0 F F48 := SF_trans (cF45) (SF_gluc (ι := oz_R2vclsl_7) oz_R2vcls_18 hS48 eF48 (by decide +kernel)) (any_sub (lₚ := []) (by decide +kernel))
          have mF48 := SFm_of cF48 oz_R2vcls_10
          have cA48 : SA oz_R2vclsl_1 A A48 := SA_trans (cA45) (SA_gluc (ι := oz_R2vclsl_7) oz_R2vcls_18 hA48 eA48 (by decide +kernel)) (any_subA (lₚ := []) (by decide +kernel))
          have mA48 := SAm_of cA48 oz_R2vcls_11
          refine Ew_of (pcₚ := 56) (fun _ => x_istore rfl) ?_
          have hP_0 : IMP ((a1) = 0) ((z48) = PLS (prL (sc ((w3)) 0 ((u2_1))) ((a2)) ((a3)))) := by exact fun q => absurd q (by (have qg0 := HIDe r1; omega))
          have hP_1 : IMP ((a1) = 1) ((z48) = PLS (prL (sc ((w5)) 0 ((u4_1))) ((a2)) ((a3)))) := by exact fun q => absurd q (by (have qg0 := HIDe r2; omega))
          have hP_2 : IMP ((a1) = 2) ((z48) = PLS (prL (sc ((w7)) 0 ((u6_1))) ((a2)) ((a3)))) := by exact fun q => (pz48_1).trans (by (rw [POL_L (b := 0) (by (have qg0 := HIDe r3; omega)) (by (have qg0 := HIDe r3; omega)), pr_nil (f := (w7)) (n := (u6_1)) (L := sc ((w7)) 0 ((u6_1))) rfl (by (have qg0 := HIDe r3; omega)) (by (have qg0 := HIDe r3; omega)), sc_nil (by (have qg0 := HIDe r3; omega))]))
          have hP_3 : IMP ((a1) = 3) ((z48) = PLS (prL (sc ((w9)) 0 ((u8_1))) ((a2)) ((a3)))) := by exact fun q => absurd q (by (have qg0 := HIDe r4; omega))
          refine Ew_of (pcₚ := 58) (fun _ => x_iload rfl (rk_o (rk_o (rfl) rfl rfl) rfl rfl)) ?_
          refine w_ifeq (t := 69) rfl rfl (show inr (a4) from h3) (fun b49 => ?_) (fun b49 => ?_)
          · refine Ew_of (pcₚ := 71) (fun _ => x_iload rfl rk_s) ?_
            have h0_0 : IMP ((a1) = 0) ((z48) = plY (prL (sc ((w3)) 0 ((u2_1))) ((a2)) ((a3))) ((a4))) := by exact fun q => absurd q (by (have qg0 := HIDe r1; omega))
            have h0_1 : IMP ((a1) = 1) ((z48) = plY (prL (sc ((w5)) 0 ((u4_1))) ((a2)) ((a3))) ((a4))) := by exact fun q => absurd q (by (have qg0 := HIDe r2; omega))
            have h0_2 : IMP ((a1) = 2) ((z48) = plY (prL (sc ((w7)) 0 ((u6_1))) ((a2)) ((a3))) ((a4))) := by exact fun q => (hP_2 q).trans (plY_0 (by (have qg0 := HIDe r3; omega))).symm
            have h0_3 : IMP ((a1) = 3) ((z48) = plY (prL (sc ((w9)) 0 ((u8_1))) ((a2)) ((a3))) ((a4))) := by exact fun q => absurd q (by (have qg0 := HIDe r4; omega))
            exact w_ireturn rfl (k (z48) _ _ _ H O (cF48) (cA48) (show inr (z48) from pz48_0) (show 0 ≤ a1 ∧ a1 ≤ 3 ∨ (z48) = 0 from q_5040 b12) (h0_0) (h0_1) (h0_2) (h0_3))
          · refine Ew_of (pcₚ := 63) (fun _ => x_iload rfl rk_s) ?_
            refine w_stat24 rfl rfl (by rfl) (C54 (D := puc 0 D) (N := puc 0 N) (HW_subc H oz_R2vcls_35 oz_R2vcls_12) (show inr (z48) from pz48_0) (fun z50 σ50 F50ₚ A50ₚ Hₚ Oₚ hS50 hA50 pz50_0 pz50_1 => ⟨rfl, ?_⟩))
            refine v_backc (c := c) (s := s) H oz_R2vcls_35 oz_R2vcls_12 Hₚ Oₚ (fun F50 A50 H Oₚ eF50 eA50 => ?_)
            have O := OUT_trans O Oₚ
            -- PackHouse.maskedSum
            have cF50 : SF oz_R2vclsl_0 F F50 := SF_trans (cF48) (SF_gluc (ι := oz_R2vclsl_1) oz_R2vcls_12 hS50 eF50 (by decide +kernel)) (any_sub (lₚ := []) (by decide +kernel))
            have mF50 := SFm_of cF50 oz_R2vcls_10
            have cA50 : SA oz_R2vclsl_1 A A50 := SA_trans (cA48) (SA_gluc (ι := oz_R2vclsl_1) oz_R2vcls_12 hA50 eA50 (by decide +kernel)) (any_subA (lₚ := []) (by decide +kernel))
            have mA50 := SAm_of cA50 oz_R2vcls_11
            refine Ew_of (pcₚ := 71) (fun _ => x_goto rfl rfl) ?_
            have h0_0 : IMP ((a1) = 0) ((z50) = plY (prL (sc ((w3)) 0 ((u2_1))) ((a2)) ((a3))) ((a4))) := by exact fun q => absurd q (by (have qg0 := HIDe r1; omega))
            have h0_1 : IMP ((a1) = 1) ((z50) = plY (prL (sc ((w5)) 0 ((u4_1))) ((a2)) ((a3))) ((a4))) := by exact fun q => absurd q (by (have qg0 := HIDe r2; omega))
            have h0_2 : IMP ((a1) = 2) ((z50) = plY (prL (sc ((w7)) 0 ((u6_1))) ((a2)) ((a3))) ((a4))) := by exact fun q => by rw [plY_1 (by (have qg0 := HIDe r3; omega)), ← hP_2 q]; exact pz50_1
            have h0_3 : IMP ((a1) = 3) ((z50) = plY (prL (sc ((w9)) 0 ((u8_1))) ((a2)) ((a3))) ((a4))) := by exact fun q => absurd q (by (have qg0 := HIDe r4; omega))
            exact w_ireturn rfl (k (z50) _ _ _ H O (cF50) (cA50) (show inr (z50) from pz50_0) (show 0 ≤ a1 ∧ a1 ≤ 3 ∨ (z50) = 0 from q_5040 b12) (h0_0) (h0_1) (h0_2) (h0_3))
        · refine Ew_of (pcₚ := 47) (fun _ => x_iload_n rfl (rk_o (rfl) rfl rfl)) ?_
          refine Ew_of (pcₚ := 51) (fun _ => x_goto rfl rfl) ?_
          refine w_stat24 rfl rfl (by rfl) (C53_Br (D := puc 7 D) (N := puc 7 N) (HW_subc H oz_R2vcls_39 oz_R2vcls_18) (STC_out HT HE O) (n7) (en7) (w7) ((funext (mA45 7 rfl)).trans (ew7)) (show inr (0) from q_2) (show inr (a3) from h2) (show 0 ≤ (0) ∧ (0) ≤ (a3) ∧ (a3) ≤ (n7) by have qh0 := HIDe r8; omega) (fun z51 σ51 F51ₚ A51ₚ Hₚ Oₚ hS51 hA51 pz51_0 pz51_1 => ⟨rfl, ?_⟩))
          refine v_backc (c := c) (s := s) H oz_R2vcls_39 oz_R2vcls_18 Hₚ Oₚ (fun F51 A51 H Oₚ eF51 eA51 => ?_)
          have O := OUT_trans O Oₚ
          -- PackHouse.polynomialSum
          have cF51 : SF oz_R2vclsl_0 F F51 := SF_trans (cF45) (SF_gluc (ι := oz_R2vclsl_7) oz_R2vcls_18 hS51 eF51 (by decide +kernel)) (any_sub (lₚ := []) (by decide +kernel))
          have mF51 := SFm_of cF51 oz_R2vcls_10
          have cA51 : SA oz_R2vclsl_1 A A51 := SA_trans (cA45) (SA_gluc (ι := oz_R2vclsl_7) oz_R2vcls_18 hA51 eA51 (by decide +kernel)) (any_subA (lₚ := []) (by decide +kernel))
          have mA51 := SAm_of cA51 oz_R2vcls_11
          refine Ew_of (pcₚ := 56) (fun _ => x_istore rfl) ?_
          have hP_0 : IMP ((a1) = 0) ((z51) = PLS (prL (sc ((w3)) 0 ((u2_1))) ((a2)) ((a3)))) := by exact fun q => absurd q (by (have qg0 := HIDe r1; omega))
          have hP_1 : IMP ((a1) = 1) ((z51) = PLS (prL (sc ((w5)) 0 ((u4_1))) ((a2)) ((a3)))) := by exact fun q => absurd q (by (have qg0 := HIDe r2; omega))
          have hP_2 : IMP ((a1) = 2) ((z51) = PLS (prL (sc ((w7)) 0 ((u6_1))) ((a2)) ((a3)))) := by exact fun q => absurd q (by (have qg0 := HIDe r3; omega))
          have hP_3 : IMP ((a1) = 3) ((z51) = PLS (prL (sc ((w9)) 0 ((u8_1))) ((a2)) ((a3)))) := by exact fun q => absurd q (by (have qg0 := HIDe r4; omega))
          refine Ew_of (pcₚ := 58) (fun _ => x_iload rfl (rk_o (rk_o (rfl) rfl rfl) rfl rfl)) ?_
          refine w_ifeq (t := 69) rfl rfl (show inr (a4) from h3) (fun b52 => ?_) (fun b52 => ?_)
          · refine Ew_of (pcₚ := 71) (fun _ => x_iload rfl rk_s) ?_
            have h0_0 : IMP ((a1) = 0) ((z51) = plY (prL (sc ((w3)) 0 ((u2_1))) ((a2)) ((a3))) ((a4))) := by exact fun q => absurd q (by (have qg0 := HIDe r1; omega))
            have h0_1 : IMP ((a1) = 1) ((z51) = plY (prL (sc ((w5)) 0 ((u4_1))) ((a2)) ((a3))) ((a4))) := by exact fun q => absurd q (by (have qg0 := HIDe r2; omega))
            have h0_2 : IMP ((a1) = 2) ((z51) = plY (prL (sc ((w7)) 0 ((u6_1))) ((a2)) ((a3))) ((a4))) := by exact fun q => absurd q (by (have qg0 := HIDe r3; omega))
            have h0_3 : IMP ((a1) = 3) ((z51) = plY (prL (sc ((w9)) 0 ((u8_1))) ((a2)) ((a3))) ((a4))) := by exact fun q => absurd q (by (have qg0 := HIDe r4; omega))
            exact w_ireturn rfl (k (z51) _ _ _ H O (cF51) (cA51) (show inr (z51) from pz51_0) (show 0 ≤ a1 ∧ a1 ≤ 3 ∨ (z51) = 0 from q_5040 b12) (h0_0) (h0_1) (h0_2) (h0_3))
          · refine Ew_of (pcₚ := 63) (fun _ => x_iload rfl rk_s) ?_
            refine w_stat24 rfl rfl (by rfl) (C54 (D := puc 0 D) (N := puc 0 N) (HW_subc H oz_R2vcls_35 oz_R2vcls_12) (show inr (z51) from pz51_0) (fun z53 σ53 F53ₚ A53ₚ Hₚ Oₚ hS53 hA53 pz53_0 pz53_1 => ⟨rfl, ?_⟩))
            refine v_backc (c := c) (s := s) H oz_R2vcls_35 oz_R2vcls_12 Hₚ Oₚ (fun F53 A53 H Oₚ eF53 eA53 => ?_)
            have O := OUT_trans O Oₚ
            -- PackHouse.maskedSum
            have cF53 : SF oz_R2vclsl_0 F F53 := SF_trans (cF51) (SF_gluc (ι := oz_R2vclsl_1) oz_R2vcls_12 hS53 eF53 (by decide +kernel)) (any_sub (lₚ := []) (by decide +kernel))
            have mF53 := SFm_of cF53 oz_R2vcls_10
            have cA53 : SA oz_R2vclsl_1 A A53 := SA_trans (cA51) (SA_gluc (ι := oz_R2vclsl_1) oz_R2vcls_12 hA53 eA53 (by decide +kernel)) (any_subA (lₚ := []) (by decide +kernel))
            have mA53 := SAm_of cA53 oz_R2vcls_11
            refine Ew_of (pcₚ := 71) (fun _ => x_goto rfl rfl) ?_
            have h0_0 : IMP ((a1) = 0) ((z53) = plY (prL (sc ((w3)) 0 ((u2_1))) ((a2)) ((a3))) ((a4))) := by exact fun q => absurd q (by (have qg0 := HIDe r1; omega))
            have h0_1 : IMP ((a1) = 1) ((z53) = plY (prL (sc ((w5)) 0 ((u4_1))) ((a2)) ((a3))) ((a4))) := by exact fun q => absurd q (by (have qg0 := HIDe r2; omega))
            have h0_2 : IMP ((a1) = 2) ((z53) = plY (prL (sc ((w7)) 0 ((u6_1))) ((a2)) ((a3))) ((a4))) := by exact fun q => absurd q (by (have qg0 := HIDe r3; omega))
            have h0_3 : IMP ((a1) = 3) ((z53) = plY (prL (sc ((w9)) 0 ((u8_1))) ((a2)) ((a3))) ((a4))) := by exact fun q => absurd q (by (have qg0 := HIDe r4; omega))
            exact w_ireturn rfl (k (z53) _ _ _ H O (cF53) (cA53) (show inr (z53) from pz53_0) (show 0 ≤ a1 ∧ a1 ≤ 3 ∨ (z53) = 0 from q_5040 b12) (h0_0) (h0_1) (h0_2) (h0_3))
      · refine Ew_of (pcₚ := 37) (fun _ => x_iload_n rfl (rk_o (rfl) rfl rfl)) ?_
        refine Ew_of (pcₚ := 41) (fun _ => x_goto rfl rfl) ?_
        refine Ew_of (pcₚ := 43) (fun _ => x_iload rfl rk_s) ?_
        refine w_ifeq (t := 50) rfl rfl (show inr (z45) from q_138 pz45_0) (fun b54 => ?_) (fun b54 => ?_)
        · refine Ew_of (pcₚ := 51) (fun _ => x_iconst rfl) ?_
          refine w_stat24 rfl rfl (by rfl) (C53_Br (D := puc 7 D) (N := puc 7 N) (HW_subc H oz_R2vcls_39 oz_R2vcls_18) (STC_out HT HE O) (n7) (en7) (w7) ((funext (mA45 7 rfl)).trans (ew7)) (show inr (a2) from h1) (show inr (0) from q_2) (show 0 ≤ (a2) ∧ (a2) ≤ (0) ∧ (0) ≤ (n7) by have qh0 := HIDe r8; omega) (fun z55 σ55 F55ₚ A55ₚ Hₚ Oₚ hS55 hA55 pz55_0 pz55_1 => ⟨rfl, ?_⟩))
          refine v_backc (c := c) (s := s) H oz_R2vcls_39 oz_R2vcls_18 Hₚ Oₚ (fun F55 A55 H Oₚ eF55 eA55 => ?_)
          have O := OUT_trans O Oₚ
          -- PackHouse.polynomialSum
          have cF55 : SF oz_R2vclsl_0 F F55 := SF_trans (cF45) (SF_gluc (ι := oz_R2vclsl_7) oz_R2vcls_18 hS55 eF55 (by decide +kernel)) (any_sub (lₚ := []) (by decide +kernel))
          have mF55 := SFm_of cF55 oz_R2vcls_10
          have cA55 : SA oz_R2vclsl_1 A A55 := SA_trans (cA45) (SA_gluc (ι := oz_R2vclsl_7) oz_R2vcls_18 hA55 eA55 (by decide +kernel)) (any_subA (lₚ := []) (by decide +kernel))
          have mA55 := SAm_of cA55 oz_R2vcls_11
          refine Ew_of (pcₚ := 56) (fun _ => x_istore rfl) ?_
          have hP_0 : IMP ((a1) = 0) ((z55) = PLS (prL (sc ((w3)) 0 ((u2_1))) ((a2)) ((a3)))) := by exact fun q => absurd q (by (have qg0 := HIDe r1; omega))
          have hP_1 : IMP ((a1) = 1) ((z55) = PLS (prL (sc ((w5)) 0 ((u4_1))) ((a2)) ((a3)))) := by exact fun q => absurd q (by (have qg0 := HIDe r2; omega))
          have hP_2 : IMP ((a1) = 2) ((z55) = PLS (prL (sc ((w7)) 0 ((u6_1))) ((a2)) ((a3)))) := by exact fun q => absurd q (by (have qg0 := HIDe r3; omega))
          have hP_3 : IMP ((a1) = 3) ((z55) = PLS (prL (sc ((w9)) 0 ((u8_1))) ((a2)) ((a3)))) := by exact fun q => absurd q (by (have qg0 := HIDe r4; omega))
          refine Ew_of (pcₚ := 58) (fun _ => x_iload rfl (rk_o (rk_o (rfl) rfl rfl) rfl rfl)) ?_
          refine w_ifeq (t := 69) rfl rfl (show inr (a4) from h3) (fun b56 => ?_) (fun b56 => ?_)
          · refine Ew_of (pcₚ := 71) (fun _ => x_iload rfl rk_s) ?_
            have h0_0 : IMP ((a1) = 0) ((z55) = plY (prL (sc ((w3)) 0 ((u2_1))) ((a2)) ((a3))) ((a4))) := by exact fun q => absurd q (by (have qg0 := HIDe r1; omega))
            have h0_1 : IMP ((a1) = 1) ((z55) = plY (prL (sc ((w5)) 0 ((u4_1))) ((a2)) ((a3))) ((a4))) := by exact fun q => absurd q (by (have qg0 := HIDe r2; omega))
            have h0_2 : IMP ((a1) = 2) ((z55) = plY (prL (sc ((w7)) 0 ((u6_1))) ((a2)) ((a3))) ((a4))) := by exact fun q => absurd q (by (have qg0 := HIDe r3; omega))
            have h0_3 : IMP ((a1) = 3) ((z55) = plY (prL (sc ((w9)) 0 ((u8_1))) ((a2)) ((a3))) ((a4))) := by exact fun q => absurd q (by (have qg0 := HIDe r4; omega))
            exact w_ireturn rfl (k (z55) _ _ _ H O (cF55) (cA55) (show inr (z55) from pz55_0) (show 0 ≤ a1 ∧ a1 ≤ 3 ∨ (z55) = 0 from q_5040 b12) (h0_0) (h0_1) (h0_2) (h0_3))
          · refine Ew_of (pcₚ := 63) (fun _ => x_iload rfl rk_s) ?_
            refine w_stat24 rfl rfl (by rfl) (C54 (D := puc 0 D) (N := puc 0 N) (HW_subc H oz_R2vcls_35 oz_R2vcls_12) (show inr (z55) from pz55_0) (fun z57 σ57 F57ₚ A57ₚ Hₚ Oₚ hS57 hA57 pz57_0 pz57_1 => ⟨rfl, ?_⟩))
            refine v_backc (c := c) (s := s) H oz_R2vcls_35 oz_R2vcls_12 Hₚ Oₚ (fun F57 A57 H Oₚ eF57 eA57 => ?_)
            have O := OUT_trans O Oₚ
            -- PackHouse.maskedSum
            have cF57 : SF oz_R2vclsl_0 F F57 := SF_trans (cF55) (SF_gluc (ι := oz_R2vclsl_1) oz_R2vcls_12 hS57 eF57 (by decide +kernel)) (any_sub (lₚ := []) (by decide +kernel))
            have mF57 := SFm_of cF57 oz_R2vcls_10
            have cA57 : SA oz_R2vclsl_1 A A57 := SA_trans (cA55) (SA_gluc (ι := oz_R2vclsl_1) oz_R2vcls_12 hA57 eA57 (by decide +kernel)) (any_subA (lₚ := []) (by decide +kernel))
            have mA57 := SAm_of cA57 oz_R2vcls_11
            refine Ew_of (pcₚ := 71) (fun _ => x_goto rfl rfl) ?_
            have h0_0 : IMP ((a1) = 0) ((z57) = plY (prL (sc ((w3)) 0 ((u2_1))) ((a2)) ((a3))) ((a4))) := by exact fun q => absurd q (by (have qg0 := HIDe r1; omega))
            have h0_1 : IMP ((a1) = 1) ((z57) = plY (prL (sc ((w5)) 0 ((u4_1))) ((a2)) ((a3))) ((a4))) := by exact fun q => absurd q (by (have qg0 := HIDe r2; omega))
            have h0_2 : IMP ((a1) = 2) ((z57) = plY (prL (sc ((w7)) 0 ((u6_1))) ((a2)) ((a3))) ((a4))) := by exact fun q => absurd q (by (have qg0 := HIDe r3; omega))
            have h0_3 : IMP ((a1) = 3) ((z57) = plY (prL (sc ((w9)) 0 ((u8_1))) ((a2)) ((a3))) ((a4))) := by exact fun q => absurd q (by (have qg0 := HIDe r4; omega))
            exact w_ireturn rfl (k (z57) _ _ _ H O (cF57) (cA57) (show inr (z57) from pz57_0) (show 0 ≤ a1 ∧ a1 ≤ 3 ∨ (z57) = 0 from q_5040 b12) (h0_0) (h0_1) (h0_2) (h0_3))
        · refine Ew_of (pcₚ := 47) (fun _ => x_iload_n rfl (rk_o (rfl) rfl rfl)) ?_
          refine Ew_of (pcₚ := 51) (fun _ => x_goto rfl rfl) ?_
          refine w_stat24 rfl rfl (by rfl) (C53_Br (D := puc 7 D) (N := puc 7 N) (HW_subc H oz_R2vcls_39 oz_R2vcls_18) (STC_out HT HE O) (n7) (en7) (w7) ((funext (mA45 7 rfl)).trans (ew7)) (show inr (a2) from h1) (show inr (a3) from h2) (show 0 ≤ (a2) ∧ (a2) ≤ (a3) ∧ (a3) ≤ (n7) by have qh0 := HIDe r8; omega) (fun z58 σ58 F58ₚ A58ₚ Hₚ Oₚ hS58 hA58 pz58_0 pz58_1 => ⟨rfl, ?_⟩))
          refine v_backc (c := c) (s := s) H oz_R2vcls_39 oz_R2vcls_18 Hₚ Oₚ (fun F58 A58 H Oₚ eF58 eA58 => ?_)
          have O := OUT_trans O Oₚ
          -- PackHouse.polynomialSum
          have cF58 : SF oz_R2vclsl_0 F F58 := SF_trans (cF45) (SF_gluc (ι := oz_R2vclsl_7) oz_R2vcls_18 hS58 eF58 (by decide +kernel)) (any_sub (lₚ := []) (by decide +kernel))
          have mF58 := SFm_of cF58 oz_R2vcls_10
          have cA58 : SA oz_R2vclsl_1 A A58 := SA_trans (cA45) (SA_gluc (ι := oz_R2vclsl_7) oz_R2vcls_18 hA58 eA58 (by decide +kernel)) (any_subA (lₚ := []) (by decide +kernel))
          have mA58 := SAm_of cA58 oz_R2vcls_11
          refine Ew_of (pcₚ := 56) (fun _ => x_istore rfl) ?_
          have hP_0 : IMP ((a1) = 0) ((z58) = PLS (prL (sc ((w3)) 0 ((u2_1))) ((a2)) ((a3)))) := by exact fun q => absurd q (by (have qg0 := HIDe r1; omega))
          have hP_1 : IMP ((a1) = 1) ((z58) = PLS (prL (sc ((w5)) 0 ((u4_1))) ((a2)) ((a3)))) := by exact fun q => absurd q (by (have qg0 := HIDe r2; omega))
          have hP_2 : IMP ((a1) = 2) ((z58) = PLS (prL (sc ((w7)) 0 ((u6_1))) ((a2)) ((a3)))) := by exact fun q => (pz58_1).trans (by (rw [POL_L (b := (a3)) (by (have qg0 := HIDe r3; omega)) (by (have qg0 := HIDe r3; omega)), pr_sc (f := (w7)) (n := (u6_1)) (L := sc ((w7)) 0 ((u6_1))) rfl (by (have qg0 := HIDe r3; omega))]))
          have hP_3 : IMP ((a1) = 3) ((z58) = PLS (prL (sc ((w9)) 0 ((u8_1))) ((a2)) ((a3)))) := by exact fun q => absurd q (by (have qg0 := HIDe r4; omega))
          refine Ew_of (pcₚ := 58) (fun _ => x_iload rfl (rk_o (rk_o (rfl) rfl rfl) rfl rfl)) ?_
          refine w_ifeq (t := 69) rfl rfl (show inr (a4) from h3) (fun b59 => ?_) (fun b59 => ?_)
          · refine Ew_of (pcₚ := 71) (fun _ => x_iload rfl rk_s) ?_
            have h0_0 : IMP ((a1) = 0) ((z58) = plY (prL (sc ((w3)) 0 ((u2_1))) ((a2)) ((a3))) ((a4))) := by exact fun q => absurd q (by (have qg0 := HIDe r1; omega))
            have h0_1 : IMP ((a1) = 1) ((z58) = plY (prL (sc ((w5)) 0 ((u4_1))) ((a2)) ((a3))) ((a4))) := by exact fun q => absurd q (by (have qg0 := HIDe r2; omega))
            have h0_2 : IMP ((a1) = 2) ((z58) = plY (prL (sc ((w7)) 0 ((u6_1))) ((a2)) ((a3))) ((a4))) := by exact fun q => (hP_2 q).trans (plY_0 (by (have qg0 := HIDe r3; omega))).symm
            have h0_3 : IMP ((a1) = 3) ((z58) = plY (prL (sc ((w9)) 0 ((u8_1))) ((a2)) ((a3))) ((a4))) := by exact fun q => absurd q (by (have qg0 := HIDe r4; omega))
            exact w_ireturn rfl (k (z58) _ _ _ H O (cF58) (cA58) (show inr (z58) from pz58_0) (show 0 ≤ a1 ∧ a1 ≤ 3 ∨ (z58) = 0 from q_5040 b12) (h0_0) (h0_1) (h0_2) (h0_3))
          · refine Ew_of (pcₚ := 63) (fun _ => x_iload rfl rk_s) ?_
            refine w_stat24 rfl rfl (by rfl) (C54 (D := puc 0 D) (N := puc 0 N) (HW_subc H oz_R2vcls_35 oz_R2vcls_12) (show inr (z58) from pz58_0) (fun z60 σ60 F60ₚ A60ₚ Hₚ Oₚ hS60 hA60 pz60_0 pz60_1 => ⟨rfl, ?_⟩))
            refine v_backc (c := c) (s := s) H oz_R2vcls_35 oz_R2vcls_12 Hₚ Oₚ (fun F60 A60 H Oₚ eF60 eA60 => ?_)
            have O := OUT_trans O Oₚ
            -- PackHouse.maskedSum
            have cF60 : SF oz_R2vclsl_0 F F60 := SF_trans (cF58) (SF_gluc (ι := oz_R2vclsl_1) oz_R2vcls_12 hS60 eF60 (by decide +kernel)) (any_sub (lₚ := []) (by decide +kernel))
            have mF60 := SFm_of cF60 oz_R2vcls_10
            have cA60 : SA oz_R2vclsl_1 A A60 := SA_trans (cA58) (SA_gluc (ι := oz_R2vclsl_1) oz_R2vcls_12 hA60 eA60 (by decide +kernel)) (any_subA (lₚ := []) (by decide +kernel))
            have mA60 := SAm_of cA60 oz_R2vcls_11
            refine Ew_of (pcₚ := 71) (fun _ => x_goto rfl rfl) ?_
            have h0_0 : IMP ((a1) = 0) ((z60) = plY (prL (sc ((w3)) 0 ((u2_1))) ((a2)) ((a3))) ((a4))) := by exact fun q => absurd q (by (have qg0 := HIDe r1; omega))
            have h0_1 : IMP ((a1) = 1) ((z60) = plY (prL (sc ((w5)) 0 ((u4_1))) ((a2)) ((a3))) ((a4))) := by exact fun q => absurd q (by (have qg0 := HIDe r2; omega))
            have h0_2 : IMP ((a1) = 2) ((z60) = plY (prL (sc ((w7)) 0 ((u6_1))) ((a2)) ((a3))) ((a4))) := by exact fun q => by rw [plY_1 (by (have qg0 := HIDe r3; omega)), ← hP_2 q]; exact pz60_1
            have h0_3 : IMP ((a1) = 3) ((z60) = plY (prL (sc ((w9)) 0 ((u8_1))) ((a2)) ((a3))) ((a4))) := by exact fun q => absurd q (by (have qg0 := HIDe r4; omega))
            exact w_ireturn rfl (k (z60) _ _ _ H O (cF60) (cA60) (show inr (z60) from pz60_0) (show 0 ≤ a1 ∧ a1 ≤ 3 ∨ (z60) = 0 from q_5040 b12) (h0_0) (h0_1) (h0_2) (h0_3))
    · refine v_lR H (o := 1) rfl rfl rfl rfl rfl (n := n1) (en1) (show 0 ≤ a1 ∧ a1 < n1 from q_4728 b12 h5) (z := ((D 8 : Nat) : Int)) (v := .ref (D 8)) ((congrArg (A10 1) b12).trans ((mA10 1 rfl 3).trans (pf8))) (vrf rfl) ?_
      refine Ew_of (pcₚ := 16) (fun _ => x_iload_n rfl rfl) ?_
      refine Ew_of (pcₚ := 17) (fun _ => x_iload_n rfl rfl) ?_
      refine w_stat24 rfl rfl (by rfl) (C27_Rowp (D := puc 8 D) (N := puc 8 N) (HW_subc H oz_R2vcls_40 oz_R2vcls_19) (u8_1) (((mF10 8 1 rfl).trans (eu8_1))) (show inr (a2) from h1) (show inr (a3) from h2) (fun z61 σ61 F61ₚ A61ₚ Hₚ Oₚ hS61 hA61 pz61_0 pz61_1 => ⟨rretB rfl pz61_0, ?_⟩))
      refine v_backc (c := c) (s := s) H oz_R2vcls_40 oz_R2vcls_19 Hₚ Oₚ (fun F61 A61 H Oₚ eF61 eA61 => ?_)
      have O := OUT_trans O Oₚ
      -- PackHouse.isPart
      have cF61 : SF oz_R2vclsl_0 F F61 := SF_trans (cF10) (SF_gluc (ι := oz_R2vclsl_8) oz_R2vcls_19 hS61 eF61 (by decide +kernel)) (any_sub (lₚ := []) (by decide +kernel))
      have mF61 := SFm_of cF61 oz_R2vcls_10
      have cA61 : SA oz_R2vclsl_1 A A61 := SA_trans (cA10) (SA_gluc (ι := oz_R2vclsl_8) oz_R2vcls_19 hA61 eA61 (by decide +kernel)) (any_subA (lₚ := []) (by decide +kernel))
      have mA61 := SAm_of cA61 oz_R2vcls_11
      refine Ew_of (pcₚ := 22) (fun _ => x_istore rfl) ?_
      refine Ew_of (pcₚ := 23) (fun _ => x_aload_n rfl (rk_o (rfl) rfl rfl)) ?_
      refine v_g H (o := 0) (v := .ref (D 1)) rfl rfl rfl rfl rfl (vrf ((mF61 0 0 rfl).trans (pf1))) ?_
      refine Ew_of (pcₚ := 27) (fun _ => x_iload_n rfl (rk_o (rfl) rfl rfl)) ?_
      refine v_lR H (o := 1) rfl rfl rfl rfl rfl (n := n1) (en1) (show 0 ≤ a1 ∧ a1 < n1 from q_4728 b12 h5) (z := ((D 8 : Nat) : Int)) (v := .ref (D 8)) ((congrArg (A61 1) b12).trans ((mA61 1 rfl 3).trans (pf8))) (vrf rfl) ?_
      refine v_g H (o := 8) (v := .ref (D 9)) rfl rfl rfl rfl rfl (vrf ((mF61 8 0 rfl).trans (pf9))) ?_
      refine Ew_of (pcₚ := 33) (fun _ => x_iload rfl rk_s) ?_
      refine w_ifeq (t := 40) rfl rfl (show inr (z61) from q_138 pz61_0) (fun b62 => ?_) (fun b62 => ?_)
      · refine Ew_of (pcₚ := 41) (fun _ => x_iconst rfl) ?_
        refine Ew_of (pcₚ := 43) (fun _ => x_iload rfl rk_s) ?_
        refine w_ifeq (t := 50) rfl rfl (show inr (z61) from q_123 b62) (fun b63 => ?_) (fun b63 => ?_)
        · refine Ew_of (pcₚ := 51) (fun _ => x_iconst rfl) ?_
          refine w_stat24 rfl rfl (by rfl) (C53_Br (D := puc 9 D) (N := puc 9 N) (HW_subc H oz_R2vcls_41 oz_R2vcls_20) (STC_out HT HE O) (n9) (en9) (w9) ((funext (mA61 9 rfl)).trans (ew9)) (show inr (0) from q_2) (show inr (0) from q_2) (show 0 ≤ (0) ∧ (0) ≤ (0) ∧ (0) ≤ (n9) from q_5037 (HIDe r9)) (fun z64 σ64 F64ₚ A64ₚ Hₚ Oₚ hS64 hA64 pz64_0 pz64_1 => ⟨rfl, ?_⟩))
          refine v_backc (c := c) (s := s) H oz_R2vcls_41 oz_R2vcls_20 Hₚ Oₚ (fun F64 A64 H Oₚ eF64 eA64 => ?_)
          have O := OUT_trans O Oₚ
          -- PackHouse.polynomialSum
          have cF64 : SF oz_R2vclsl_0 F F64 := SF_trans (cF61) (SF_gluc (ι := oz_R2vclsl_9) oz_R2vcls_20 hS64 eF64 (by decide +kernel)) (any_sub (lₚ := []) (by decide +kernel))
          have mF64 := SFm_of cF64 oz_R2vcls_10
          have cA64 : SA oz_R2vclsl_1 A A64 := SA_trans (cA61) (SA_gluc (ι := oz_R2vclsl_9) oz_R2vcls_20 hA64 eA64 (by decide +kernel)) (any_subA (lₚ := []) (by decide +kernel))
          have mA64 := SAm_of cA64 oz_R2vcls_11
          refine Ew_of (pcₚ := 56) (fun _ => x_istore rfl) ?_
          have hP_0 : IMP ((a1) = 0) ((z64) = PLS (prL (sc ((w3)) 0 ((u2_1))) ((a2)) ((a3)))) := by exact fun q => absurd q (by (have qg0 := HIDe r1; omega))
          have hP_1 : IMP ((a1) = 1) ((z64) = PLS (prL (sc ((w5)) 0 ((u4_1))) ((a2)) ((a3)))) := by exact fun q => absurd q (by (have qg0 := HIDe r2; omega))
          have hP_2 : IMP ((a1) = 2) ((z64) = PLS (prL (sc ((w7)) 0 ((u6_1))) ((a2)) ((a3)))) := by exact fun q => absurd q (by (have qg0 := HIDe r3; omega))
          have hP_3 : IMP ((a1) = 3) ((z64) = PLS (prL (sc ((w9)) 0 ((u8_1))) ((a2)) ((a3)))) := by exact fun q => (pz64_1).trans (by (rw [POL_L (b := 0) (by (have qg0 := HIDe r4; omega)) (by (have qg0 := HIDe r4; omega)), pr_nil (f := (w9)) (n := (u8_1)) (L := sc ((w9)) 0 ((u8_1))) rfl (by (have qg0 := HIDe r4; omega)) (by (have qg0 := HIDe r4; omega)), sc_nil (by (have qg0 := HIDe r4; omega))]))
          refine Ew_of (pcₚ := 58) (fun _ => x_iload rfl (rk_o (rk_o (rfl) rfl rfl) rfl rfl)) ?_
          refine w_ifeq (t := 69) rfl rfl (show inr (a4) from h3) (fun b65 => ?_) (fun b65 => ?_)
          · refine Ew_of (pcₚ := 71) (fun _ => x_iload rfl rk_s) ?_
            have h0_0 : IMP ((a1) = 0) ((z64) = plY (prL (sc ((w3)) 0 ((u2_1))) ((a2)) ((a3))) ((a4))) := by exact fun q => absurd q (by (have qg0 := HIDe r1; omega))
            have h0_1 : IMP ((a1) = 1) ((z64) = plY (prL (sc ((w5)) 0 ((u4_1))) ((a2)) ((a3))) ((a4))) := by exact fun q => absurd q (by (have qg0 := HIDe r2; omega))
            have h0_2 : IMP ((a1) = 2) ((z64) = plY (prL (sc ((w7)) 0 ((u6_1))) ((a2)) ((a3))) ((a4))) := by exact fun q => absurd q (by (have qg0 := HIDe r3; omega))
            have h0_3 : IMP ((a1) = 3) ((z64) = plY (prL (sc ((w9)) 0 ((u8_1))) ((a2)) ((a3))) ((a4))) := by exact fun q => (hP_3 q).trans (plY_0 (by (have qg0 := HIDe r4; omega))).symm
            exact w_ireturn rfl (k (z64) _ _ _ H O (cF64) (cA64) (show inr (z64) from pz64_0) (show 0 ≤ a1 ∧ a1 ≤ 3 ∨ (z64) = 0 from q_5041 b12) (h0_0) (h0_1) (h0_2) (h0_3))
          · refine Ew_of (pcₚ := 63) (fun _ => x_iload rfl rk_s) ?_
            refine w_stat24 rfl rfl (by rfl) (C54 (D := puc 0 D) (N := puc 0 N) (HW_subc H oz_R2vcls_35 oz_R2vcls_12) (show inr (z64) from pz64_0) (fun z66 σ66 F66ₚ A66ₚ Hₚ Oₚ hS66 hA66 pz66_0 pz66_1 => ⟨rfl, ?_⟩))
            refine v_backc (c := c) (s := s) H oz_R2vcls_35 oz_R2vcls_12 Hₚ Oₚ (fun F66 A66 H Oₚ eF66 eA66 => ?_)
            have O := OUT_trans O Oₚ
            -- PackHouse.maskedSum
            have cF66 : SF oz_R2vclsl_0 F F66 := SF_trans (cF64) (SF_gluc (ι := oz_R2vclsl_1) oz_R2vcls_12 hS66 eF66 (by decide +kernel)) (any_sub (lₚ := []) (by decide +kernel))
            have mF66 := SFm_of cF66 oz_R2vcls_10
            have cA66 : SA oz_R2vclsl_1 A A66 := SA_trans (cA64) (SA_gluc (ι := oz_R2vclsl_1) oz_R2vcls_12 hA66 eA66 (by decide +kernel)) (any_subA (lₚ := []) (by decide +kernel))
            have mA66 := SAm_of cA66 oz_R2vcls_11
            refine Ew_of (pcₚ := 71) (fun _ => x_goto rfl rfl) ?_
            have h0_0 : IMP ((a1) = 0) ((z66) = plY (prL (sc ((w3)) 0 ((u2_1))) ((a2)) ((a3))) ((a4))) := by exact fun q => absurd q (by (have qg0 := HIDe r1; omega))
            have h0_1 : IMP ((a1) = 1) ((z66) = plY (prL (sc ((w5)) 0 ((u4_1))) ((a2)) ((a3))) ((a4))) := by exact fun q => absurd q (by (have qg0 := HIDe r2; omega))
            have h0_2 : IMP ((a1) = 2) ((z66) = plY (prL (sc ((w7)) 0 ((u6_1))) ((a2)) ((a3))) ((a4))) := by exact fun q => absurd q (by (have qg0 := HIDe r3; omega))
            have h0_3 : IMP ((a1) = 3) ((z66) = plY (prL (sc ((w9)) 0 ((u8_1))) ((a2)) ((a3))) ((a4))) := by exact fun q => by rw [plY_1 (by (have qg0 := HIDe r4; omega)), ← hP_3 q]; exact pz66_1
            exact w_ireturn rfl (k (z66) _ _ _ H O (cF66) (cA66) (show inr (z66) from pz66_0) (show 0 ≤ a1 ∧ a1 ≤ 3 ∨ (z66) = 0 from q_5041 b12) (h0_0) (h0_1) (h0_2) (h0_3))
        · refine Ew_of (pcₚ := 47) (fun _ => x_iload_n rfl (rk_o (rfl) rfl rfl)) ?_
          refine Ew_of (pcₚ := 51) (fun _ => x_goto rfl rfl) ?_
          refine w_stat24 rfl rfl (by rfl) (C53_Br (D := puc 9 D) (N := puc 9 N) (HW_subc H oz_R2vcls_41 oz_R2vcls_20) (STC_out HT HE O) (n9) (en9) (w9) ((funext (mA61 9 rfl)).trans (ew9)) (show inr (0) from q_2) (show inr (a3) from h2) (show 0 ≤ (0) ∧ (0) ≤ (a3) ∧ (a3) ≤ (n9) by have qh0 := HIDe r9; omega) (fun z67 σ67 F67ₚ A67ₚ Hₚ Oₚ hS67 hA67 pz67_0 pz67_1 => ⟨rfl, ?_⟩))
          refine v_backc (c := c) (s := s) H oz_R2vcls_41 oz_R2vcls_20 Hₚ Oₚ (fun F67 A67 H Oₚ eF67 eA67 => ?_)
          have O := OUT_trans O Oₚ
          -- PackHouse.polynomialSum
          have cF67 : SF oz_R2vclsl_0 F F67 := SF_trans (cF61) (SF_gluc (ι := oz_R2vclsl_9) oz_R2vcls_20 hS67 eF67 (by decide +kernel)) (any_sub (lₚ := []) (by decide +kernel))
          have mF67 := SFm_of cF67 oz_R2vcls_10
          have cA67 : SA oz_R2vclsl_1 A A67 := SA_trans (cA61) (SA_gluc (ι := oz_R2vclsl_9) oz_R2vcls_20 hA67 eA67 (by decide +kernel)) (any_subA (lₚ := []) (by decide +kernel))
          have mA67 := SAm_of cA67 oz_R2vcls_11
          refine Ew_of (pcₚ := 56) (fun _ => x_istore rfl) ?_
          have hP_0 : IMP ((a1) = 0) ((z67) = PLS (prL (sc ((w3)) 0 ((u2_1))) ((a2)) ((a3)))) := by exact fun q => absurd q (by (have qg0 := HIDe r1; omega))
          have hP_1 : IMP ((a1) = 1) ((z67) = PLS (prL (sc ((w5)) 0 ((u4_1))) ((a2)) ((a3)))) := by exact fun q => absurd q (by (have qg0 := HIDe r2; omega))
          have hP_2 : IMP ((a1) = 2) ((z67) = PLS (prL (sc ((w7)) 0 ((u6_1))) ((a2)) ((a3)))) := by exact fun q => absurd q (by (have qg0 := HIDe r3; omega))
          have hP_3 : IMP ((a1) = 3) ((z67) = PLS (prL (sc ((w9)) 0 ((u8_1))) ((a2)) ((a3)))) := by exact fun q => absurd q (by (have qg0 := HIDe r4; omega))
          refine Ew_of (pcₚ := 58) (fun _ => x_iload rfl (rk_o (rk_o (rfl) rfl rfl) rfl rfl)) ?_
          refine w_ifeq (t := 69) rfl rfl (show inr (a4) from h3) (fun b68 => ?_) (fun b68 => ?_)
          · refine Ew_of (pcₚ := 71) (fun _ => x_iload rfl rk_s) ?_
            have h0_0 : IMP ((a1) = 0) ((z67) = plY (prL (sc ((w3)) 0 ((u2_1))) ((a2)) ((a3))) ((a4))) := by exact fun q => absurd q (by (have qg0 := HIDe r1; omega))
            have h0_1 : IMP ((a1) = 1) ((z67) = plY (prL (sc ((w5)) 0 ((u4_1))) ((a2)) ((a3))) ((a4))) := by exact fun q => absurd q (by (have qg0 := HIDe r2; omega))
            have h0_2 : IMP ((a1) = 2) ((z67) = plY (prL (sc ((w7)) 0 ((u6_1))) ((a2)) ((a3))) ((a4))) := by exact fun q => absurd q (by (have qg0 := HIDe r3; omega))
            have h0_3 : IMP ((a1) = 3) ((z67) = plY (prL (sc ((w9)) 0 ((u8_1))) ((a2)) ((a3))) ((a4))) := by exact fun q => absurd q (by (have qg0 := HIDe r4; omega))
            exact w_ireturn rfl (k (z67) _ _ _ H O (cF67) (cA67) (show inr (z67) from pz67_0) (show 0 ≤ a1 ∧ a1 ≤ 3 ∨ (z67) = 0 from q_5041 b12) (h0_0) (h0_1) (h0_2) (h0_3))
          · refine Ew_of (pcₚ := 63) (fun _ => x_iload rfl rk_s) ?_
            refine w_stat24 rfl rfl (by rfl) (C54 (D := puc 0 D) (N := puc 0 N) (HW_subc H oz_R2vcls_35 oz_R2vcls_12) (show inr (z67) from pz67_0) (fun z69 σ69 F69ₚ A69ₚ Hₚ Oₚ hS69 hA69 pz69_0 pz69_1 => ⟨rfl, ?_⟩))
            refine v_backc (c := c) (s := s) H oz_R2vcls_35 oz_R2vcls_12 Hₚ Oₚ (fun F69 A69 H Oₚ eF69 eA69 => ?_)
            have O := OUT_trans O Oₚ
            -- PackHouse.maskedSum
            have cF69 : SF oz_R2vclsl_0 F F69 := SF_trans (cF67) (SF_gluc (ι := oz_R2vclsl_1) oz_R2vcls_12 hS69 eF69 (by decide +kernel)) (any_sub (lₚ := []) (by decide +kernel))
            have mF69 := SFm_of cF69 oz_R2vcls_10
            have cA69 : SA oz_R2vclsl_1 A A69 := SA_trans (cA67) (SA_gluc (ι := oz_R2vclsl_1) oz_R2vcls_12 hA69 eA69 (by decide +kernel)) (any_subA (lₚ := []) (by decide +kernel))
            have mA69 := SAm_of cA69 oz_R2vcls_11
            refine Ew_of (pcₚ := 71) (fun _ => x_goto rfl rfl) ?_
            have h0_0 : IMP ((a1) = 0) ((z69) = plY (prL (sc ((w3)) 0 ((u2_1))) ((a2)) ((a3))) ((a4))) := by exact fun q => absurd q (by (have qg0 := HIDe r1; omega))
            have h0_1 : IMP ((a1) = 1) ((z69) = plY (prL (sc ((w5)) 0 ((u4_1))) ((a2)) ((a3))) ((a4))) := by exact fun q => absurd q (by (have qg0 := HIDe r2; omega))
            have h0_2 : IMP ((a1) = 2) ((z69) = plY (prL (sc ((w7)) 0 ((u6_1))) ((a2)) ((a3))) ((a4))) := by exact fun q => absurd q (by (have qg0 := HIDe r3; omega))
            have h0_3 : IMP ((a1) = 3) ((z69) = plY (prL (sc ((w9)) 0 ((u8_1))) ((a2)) ((a3))) ((a4))) := by exact fun q => absurd q (by (have qg0 := HIDe r4; omega))
            exact w_ireturn rfl (k (z69) _ _ _ H O (cF69) (cA69) (show inr (z69) from pz69_0) (show 0 ≤ a1 ∧ a1 ≤ 3 ∨ (z69) = 0 from q_5041 b12) (h0_0) (h0_1) (h0_2) (h0_3))
      · refine Ew_of (pcₚ := 37) (fun _ => x_iload_n rfl (rk_o (rfl) rfl rfl)) ?_
        refine Ew_of (pcₚ := 41) (fun _ => x_goto rfl rfl) ?_
        refine Ew_of (pcₚ := 43) (fun _ => x_iload rfl rk_s) ?_
        refine w_ifeq (t := 50) rfl rfl (show inr (z61) from q_138 pz61_0) (fun b70 => ?_) (fun b70 => ?_)
        · refine Ew_of (pcₚ := 51) (fun _ => x_iconst rfl) ?_
          refine w_stat24 rfl rfl (by rfl) (C53_Br (D := puc 9 D) (N := puc 9 N) (HW_subc H oz_R2vcls_41 oz_R2vcls_20) (STC_out HT HE O) (n9) (en9) (w9) ((funext (mA61 9 rfl)).trans (ew9)) (show inr (a2) from h1) (show inr (0) from q_2) (show 0 ≤ (a2) ∧ (a2) ≤ (0) ∧ (0) ≤ (n9) by have qh0 := HIDe r9; omega) (fun z71 σ71 F71ₚ A71ₚ Hₚ Oₚ hS71 hA71 pz71_0 pz71_1 => ⟨rfl, ?_⟩))
          refine v_backc (c := c) (s := s) H oz_R2vcls_41 oz_R2vcls_20 Hₚ Oₚ (fun F71 A71 H Oₚ eF71 eA71 => ?_)
          have O := OUT_trans O Oₚ
          -- PackHouse.polynomialSum
          have cF71 : SF oz_R2vclsl_0 F F71 := SF_trans (cF61) (SF_gluc (ι := oz_R2vclsl_9) oz_R2vcls_20 hS71 eF71 (by decide +kernel)) (any_sub (lₚ := []) (by decide +kernel))
          have mF71 := SFm_of cF71 oz_R2vcls_10
          have cA71 : SA oz_R2vclsl_1 A A71 := SA_trans (cA61) (SA_gluc (ι := oz_R2vclsl_9) oz_R2vcls_20 hA71 eA71 (by decide +kernel)) (any_subA (lₚ := []) (by decide +kernel))
          have mA71 := SAm_of cA71 oz_R2vcls_11
          refine Ew_of (pcₚ := 56) (fun _ => x_istore rfl) ?_
          have hP_0 : IMP ((a1) = 0) ((z71) = PLS (prL (sc ((w3)) 0 ((u2_1))) ((a2)) ((a3)))) := by exact fun q => absurd q (by (have qg0 := HIDe r1; omega))
          have hP_1 : IMP ((a1) = 1) ((z71) = PLS (prL (sc ((w5)) 0 ((u4_1))) ((a2)) ((a3)))) := by exact fun q => absurd q (by (have qg0 := HIDe r2; omega))
          have hP_2 : IMP ((a1) = 2) ((z71) = PLS (prL (sc ((w7)) 0 ((u6_1))) ((a2)) ((a3)))) := by exact fun q => absurd q (by (have qg0 := HIDe r3; omega))
          have hP_3 : IMP ((a1) = 3) ((z71) = PLS (prL (sc ((w9)) 0 ((u8_1))) ((a2)) ((a3)))) := by exact fun q => absurd q (by (have qg0 := HIDe r4; omega))
          refine Ew_of (pcₚ := 58) (fun _ => x_iload rfl (rk_o (rk_o (rfl) rfl rfl) rfl rfl)) ?_
          refine w_ifeq (t := 69) rfl rfl (show inr (a4) from h3) (fun b72 => ?_) (fun b72 => ?_)
          · refine Ew_of (pcₚ := 71) (fun _ => x_iload rfl rk_s) ?_
            have h0_0 : IMP ((a1) = 0) ((z71) = plY (prL (sc ((w3)) 0 ((u2_1))) ((a2)) ((a3))) ((a4))) := by exact fun q => absurd q (by (have qg0 := HIDe r1; omega))
            have h0_1 : IMP ((a1) = 1) ((z71) = plY (prL (sc ((w5)) 0 ((u4_1))) ((a2)) ((a3))) ((a4))) := by exact fun q => absurd q (by (have qg0 := HIDe r2; omega))
            have h0_2 : IMP ((a1) = 2) ((z71) = plY (prL (sc ((w7)) 0 ((u6_1))) ((a2)) ((a3))) ((a4))) := by exact fun q => absurd q (by (have qg0 := HIDe r3; omega))
            have h0_3 : IMP ((a1) = 3) ((z71) = plY (prL (sc ((w9)) 0 ((u8_1))) ((a2)) ((a3))) ((a4))) := by exact fun q => absurd q (by (have qg0 := HIDe r4; omega))
            exact w_ireturn rfl (k (z71) _ _ _ H O (cF71) (cA71) (show inr (z71) from pz71_0) (show 0 ≤ a1 ∧ a1 ≤ 3 ∨ (z71) = 0 from q_5041 b12) (h0_0) (h0_1) (h0_2) (h0_3))
          · refine Ew_of (pcₚ := 63) (fun _ => x_iload rfl rk_s) ?_
            refine w_stat24 rfl rfl (by rfl) (C54 (D := puc 0 D) (N := puc 0 N) (HW_subc H oz_R2vcls_35 oz_R2vcls_12) (show inr (z71) from pz71_0) (fun z73 σ73 F73ₚ A73ₚ Hₚ Oₚ hS73 hA73 pz73_0 pz73_1 => ⟨rfl, ?_⟩))
            refine v_backc (c := c) (s := s) H oz_R2vcls_35 oz_R2vcls_12 Hₚ Oₚ (fun F73 A73 H Oₚ eF73 eA73 => ?_)
            have O := OUT_trans O Oₚ
            -- PackHouse.maskedSum
            have cF73 : SF oz_R2vclsl_0 F F73 := SF_trans (cF71) (SF_gluc (ι := oz_R2vclsl_1) oz_R2vcls_12 hS73 eF73 (by decide +kernel)) (any_sub (lₚ := []) (by decide +kernel))
            have mF73 := SFm_of cF73 oz_R2vcls_10
            have cA73 : SA oz_R2vclsl_1 A A73 := SA_trans (cA71) (SA_gluc (ι := oz_R2vclsl_1) oz_R2vcls_12 hA73 eA73 (by decide +kernel)) (any_subA (lₚ := []) (by decide +kernel))
            have mA73 := SAm_of cA73 oz_R2vcls_11
            refine Ew_of (pcₚ := 71) (fun _ => x_goto rfl rfl) ?_
            have h0_0 : IMP ((a1) = 0) ((z73) = plY (prL (sc ((w3)) 0 ((u2_1))) ((a2)) ((a3))) ((a4))) := by exact fun q => absurd q (by (have qg0 := HIDe r1; omega))
            have h0_1 : IMP ((a1) = 1) ((z73) = plY (prL (sc ((w5)) 0 ((u4_1))) ((a2)) ((a3))) ((a4))) := by exact fun q => absurd q (by (have qg0 := HIDe r2; omega))
            have h0_2 : IMP ((a1) = 2) ((z73) = plY (prL (sc ((w7)) 0 ((u6_1))) ((a2)) ((a3))) ((a4))) := by exact fun q => absurd q (by (have qg0 := HIDe r3; omega))
            have h0_3 : IMP ((a1) = 3) ((z73) = plY (prL (sc ((w9)) 0 ((u8_1))) ((a2)) ((a3))) ((a4))) := by exact fun q => absurd q (by (have qg0 := HIDe r4; omega))
            exact w_ireturn rfl (k (z73) _ _ _ H O (cF73) (cA73) (show inr (z73) from pz73_0) (show 0 ≤ a1 ∧ a1 ≤ 3 ∨ (z73) = 0 from q_5041 b12) (h0_0) (h0_1) (h0_2) (h0_3))
        · refine Ew_of (pcₚ := 47) (fun _ => x_iload_n rfl (rk_o (rfl) rfl rfl)) ?_
          refine Ew_of (pcₚ := 51) (fun _ => x_goto rfl rfl) ?_
          refine w_stat24 rfl rfl (by rfl) (C53_Br (D := puc 9 D) (N := puc 9 N) (HW_subc H oz_R2vcls_41 oz_R2vcls_20) (STC_out HT HE O) (n9) (en9) (w9) ((funext (mA61 9 rfl)).trans (ew9)) (show inr (a2) from h1) (show inr (a3) from h2) (show 0 ≤ (a2) ∧ (a2) ≤ (a3) ∧ (a3) ≤ (n9) by have qh0 := HIDe r9; omega) (fun z74 σ74 F74ₚ A74ₚ Hₚ Oₚ hS74 hA74 pz74_0 pz74_1 => ⟨rfl, ?_⟩))
          refine v_backc (c := c) (s := s) H oz_R2vcls_41 oz_R2vcls_20 Hₚ Oₚ (fun F74 A74 H Oₚ eF74 eA74 => ?_)
          have O := OUT_trans O Oₚ
          -- PackHouse.polynomialSum
          have cF74 : SF oz_R2vclsl_0 F F74 := SF_trans (cF61) (SF_gluc (ι := oz_R2vclsl_9) oz_R2vcls_20 hS74 eF74 (by decide +kernel)) (any_sub (lₚ := []) (by decide +kernel))
          have mF74 := SFm_of cF74 oz_R2vcls_10
          have cA74 : SA oz_R2vclsl_1 A A74 := SA_trans (cA61) (SA_gluc (ι := oz_R2vclsl_9) oz_R2vcls_20 hA74 eA74 (by decide +kernel)) (any_subA (lₚ := []) (by decide +kernel))
          have mA74 := SAm_of cA74 oz_R2vcls_11
          refine Ew_of (pcₚ := 56) (fun _ => x_istore rfl) ?_
          have hP_0 : IMP ((a1) = 0) ((z74) = PLS (prL (sc ((w3)) 0 ((u2_1))) ((a2)) ((a3)))) := by exact fun q => absurd q (by (have qg0 := HIDe r1; omega))
          have hP_1 : IMP ((a1) = 1) ((z74) = PLS (prL (sc ((w5)) 0 ((u4_1))) ((a2)) ((a3)))) := by exact fun q => absurd q (by (have qg0 := HIDe r2; omega))
          have hP_2 : IMP ((a1) = 2) ((z74) = PLS (prL (sc ((w7)) 0 ((u6_1))) ((a2)) ((a3)))) := by exact fun q => absurd q (by (have qg0 := HIDe r3; omega))
          have hP_3 : IMP ((a1) = 3) ((z74) = PLS (prL (sc ((w9)) 0 ((u8_1))) ((a2)) ((a3)))) := by exact fun q => (pz74_1).trans (by (rw [POL_L (b := (a3)) (by (have qg0 := HIDe r4; omega)) (by (have qg0 := HIDe r4; omega)), pr_sc (f := (w9)) (n := (u8_1)) (L := sc ((w9)) 0 ((u8_1))) rfl (by (have qg0 := HIDe r4; omega))]))
          refine Ew_of (pcₚ := 58) (fun _ => x_iload rfl (rk_o (rk_o (rfl) rfl rfl) rfl rfl)) ?_
          refine w_ifeq (t := 69) rfl rfl (show inr (a4) from h3) (fun b75 => ?_) (fun b75 => ?_)
          · refine Ew_of (pcₚ := 71) (fun _ => x_iload rfl rk_s) ?_
            have h0_0 : IMP ((a1) = 0) ((z74) = plY (prL (sc ((w3)) 0 ((u2_1))) ((a2)) ((a3))) ((a4))) := by exact fun q => absurd q (by (have qg0 := HIDe r1; omega))
            have h0_1 : IMP ((a1) = 1) ((z74) = plY (prL (sc ((w5)) 0 ((u4_1))) ((a2)) ((a3))) ((a4))) := by exact fun q => absurd q (by (have qg0 := HIDe r2; omega))
            have h0_2 : IMP ((a1) = 2) ((z74) = plY (prL (sc ((w7)) 0 ((u6_1))) ((a2)) ((a3))) ((a4))) := by exact fun q => absurd q (by (have qg0 := HIDe r3; omega))
            have h0_3 : IMP ((a1) = 3) ((z74) = plY (prL (sc ((w9)) 0 ((u8_1))) ((a2)) ((a3))) ((a4))) := by exact fun q => (hP_3 q).trans (plY_0 (by (have qg0 := HIDe r4; omega))).symm
            exact w_ireturn rfl (k (z74) _ _ _ H O (cF74) (cA74) (show inr (z74) from pz74_0) (show 0 ≤ a1 ∧ a1 ≤ 3 ∨ (z74) = 0 from q_5041 b12) (h0_0) (h0_1) (h0_2) (h0_3))
          · refine Ew_of (pcₚ := 63) (fun _ => x_iload rfl rk_s) ?_
            refine w_stat24 rfl rfl (by rfl) (C54 (D := puc 0 D) (N := puc 0 N) (HW_subc H oz_R2vcls_35 oz_R2vcls_12) (show inr (z74) from pz74_0) (fun z76 σ76 F76ₚ A76ₚ Hₚ Oₚ hS76 hA76 pz76_0 pz76_1 => ⟨rfl, ?_⟩))
            refine v_backc (c := c) (s := s) H oz_R2vcls_35 oz_R2vcls_12 Hₚ Oₚ (fun F76 A76 H Oₚ eF76 eA76 => ?_)
            have O := OUT_trans O Oₚ
            -- PackHouse.maskedSum
            have cF76 : SF oz_R2vclsl_0 F F76 := SF_trans (cF74) (SF_gluc (ι := oz_R2vclsl_1) oz_R2vcls_12 hS76 eF76 (by decide +kernel)) (any_sub (lₚ := []) (by decide +kernel))
            have mF76 := SFm_of cF76 oz_R2vcls_10
            have cA76 : SA oz_R2vclsl_1 A A76 := SA_trans (cA74) (SA_gluc (ι := oz_R2vclsl_1) oz_R2vcls_12 hA76 eA76 (by decide +kernel)) (any_subA (lₚ := []) (by decide +kernel))
            have mA76 := SAm_of cA76 oz_R2vcls_11
            refine Ew_of (pcₚ := 71) (fun _ => x_goto rfl rfl) ?_
            have h0_0 : IMP ((a1) = 0) ((z76) = plY (prL (sc ((w3)) 0 ((u2_1))) ((a2)) ((a3))) ((a4))) := by exact fun q => absurd q (by (have qg0 := HIDe r1; omega))
            have h0_1 : IMP ((a1) = 1) ((z76) = plY (prL (sc ((w5)) 0 ((u4_1))) ((a2)) ((a3))) ((a4))) := by exact fun q => absurd q (by (have qg0 := HIDe r2; omega))
            have h0_2 : IMP ((a1) = 2) ((z76) = plY (prL (sc ((w7)) 0 ((u6_1))) ((a2)) ((a3))) ((a4))) := by exact fun q => absurd q (by (have qg0 := HIDe r3; omega))
            have h0_3 : IMP ((a1) = 3) ((z76) = plY (prL (sc ((w9)) 0 ((u8_1))) ((a2)) ((a3))) ((a4))) := by exact fun q => by rw [plY_1 (by (have qg0 := HIDe r4; omega)), ← hP_3 q]; exact pz76_1
            exact w_ireturn rfl (k (z76) _ _ _ H O (cF76) (cA76) (show inr (z76) from pz76_0) (show 0 ≤ a1 ∧ a1 ≤ 3 ∨ (z76) = 0 from q_5041 b12) (h0_0) (h0_1) (h0_2) (h0_3))
  · refine Ew_of (pcₚ := 8) (fun _ => x_iconst rfl) ?_
    have h0_0 : IMP ((a1) = 0) (0 = plY (prL (sc ((w3)) 0 ((u2_1))) ((a2)) ((a3))) ((a4))) := fun q => absurd q (by (have qg0 := HIDe r1; omega))
    have h0_1 : IMP ((a1) = 1) (0 = plY (prL (sc ((w5)) 0 ((u4_1))) ((a2)) ((a3))) ((a4))) := fun q => absurd q (by (have qg0 := HIDe r2; omega))
    have h0_2 : IMP ((a1) = 2) (0 = plY (prL (sc ((w7)) 0 ((u6_1))) ((a2)) ((a3))) ((a4))) := fun q => absurd q (by (have qg0 := HIDe r3; omega))
    have h0_3 : IMP ((a1) = 3) (0 = plY (prL (sc ((w9)) 0 ((u8_1))) ((a2)) ((a3))) ((a4))) := fun q => absurd q (by (have qg0 := HIDe r4; omega))
    exact w_ireturn rfl (k (0) _ _ _ H O (cF10) (cA10) (show inr (0) from q_2) (show 0 ≤ a1 ∧ a1 ≤ 3 ∨ (0) = 0 by exact q_4966) (h0_0) (h0_1) (h0_2) (h0_3))

