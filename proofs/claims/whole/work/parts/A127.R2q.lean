section
/-! R2q.cls -/
theorem len_V6_oz_R2qcls : (V6).length = 10 := by decide +kernel
theorem oz_R2qcls_1 : vsub V6 V24 [] = true := by decide +kernel
def oz_R2qclsl_0 : List (Nat × Nat) := []
theorem oz_R2qcls_2 : (oz_R2qclsl_0).all (fun p => !tbz 0 (Nat.add (Nat.mul 32 p.1) p.2)) = true := by decide +kernel
def oz_R2qclsl_1 : List Nat := []
theorem oz_R2qcls_3 : (oz_R2qclsl_1).all (fun p => !tbz 0 p) = true := by decide +kernel
theorem oz_R2qcls_4 : okc oz_R2qclsl_1 0 = true := by decide +kernel

theorem C6p {σE : rS} {D N : Nat → Nat} {F : hF} {A : hA} {d c s : Nat} {Q : wQ} (H : HW V6 σE D N F A) {a1 : Int} (pf1 : HID (F 0 0 = (D 1 : Int))) (pf2 : HID (A 1 0 = (D 2 : Int))) (pf3 : HID (F 2 0 = (D 3 : Int))) (pf4 : HID (A 1 1 = (D 4 : Int))) (pf5 : HID (F 4 0 = (D 5 : Int))) (pf6 : HID (A 1 2 = (D 6 : Int))) (pf7 : HID (F 6 0 = (D 7 : Int))) (pf8 : HID (A 1 3 = (D 8 : Int))) (pf9 : HID (F 8 0 = (D 9 : Int))) (n1 : Int) (en1 : HID ((N 1 : Int) = n1)) (n3 : Int) (en3 : HID ((N 3 : Int) = n3)) (n5 : Int) (en5 : HID ((N 5 : Int) = n5)) (n7 : Int) (en7 : HID ((N 7 : Int) = n7)) (n9 : Int) (en9 : HID ((N 9 : Int) = n9)) (u2_1 : Int) (eu2_1 : HID (F 2 1 = u2_1)) (u4_1 : Int) (eu4_1 : HID (F 4 1 = u4_1)) (u6_1 : Int) (eu6_1 : HID (F 6 1 = u6_1)) (u8_1 : Int) (eu8_1 : HID (F 8 1 = u8_1)) (w3 : Int → Int) (ew3 : A 3 = w3) (w5 : Int → Int) (ew5 : A 5 = w5) (w7 : Int → Int) (ew7 : A 7 = w7) (w9 : Int → Int) (ew9 : A 9 = w9) (h0 : inr (a1)) (h1 : (n1) = 4) (h2 : 0 ≤ (u2_1) ∧ (u2_1) ≤ (n3) ∧ (n3) ≤ 65536) (h3 : 0 ≤ (u4_1) ∧ (u4_1) ≤ (n5) ∧ (n5) ≤ 65536) (h4 : 0 ≤ (u6_1) ∧ (u6_1) ≤ (n7) ∧ (n7) ≤ 65536) (h5 : 0 ≤ (u8_1) ∧ (u8_1) ≤ (n9) ∧ (n9) ≤ 65536) (k : ∀ (z : Int) (σ : rS) (Fₚ : hF) (Aₚ : hA), HW V6 σ D N Fₚ Aₚ → OUT (V6).length D N σE c s D N σ c s → SF [] F Fₚ → SA [] A Aₚ → (inr (z)) → (0 ≤ (a1) ∧ (a1) ≤ 3 ∨ (z) = -1) → (IMP ((a1) = 0) ((z) = ((sc ((w3)) 0 ((u2_1))).length : Int))) → (IMP ((a1) = 1) ((z) = ((sc ((w5)) 0 ((u4_1))).length : Int))) → (IMP ((a1) = 2) ((z) = ((sc ((w7)) 0 ((u6_1))).length : Int))) → (IMP ((a1) = 3) ((z) = ((sc ((w9)) 0 ((u8_1))).length : Int))) → Q (some (I z)) σ c s) : Ew 6 (d + 1) 0 (rargs 0 [.ref (D 0), I a1]) [] σE c s Q := by
  have O := OUT_refl (n := (V6).length) (D := D) (N := N) (σ := σE) (c := c) (s := s)
  have HE := H
  have r1 : HID ((-2147483648 : Int) ≤ u2_1 ∧ u2_1 ≤ 2147483647) := krg_e (show (-2147483648 : Int) ≤ F 2 1 ∧ F 2 1 ≤ 2147483647 from H.krg 2 1 (ltn len_V6_oz_R2qcls rfl)) (show F 2 1 = u2_1 from (eu2_1))
  have r2 : HID ((-2147483648 : Int) ≤ u4_1 ∧ u4_1 ≤ 2147483647) := krg_e (show (-2147483648 : Int) ≤ F 4 1 ∧ F 4 1 ≤ 2147483647 from H.krg 4 1 (ltn len_V6_oz_R2qcls rfl)) (show F 4 1 = u4_1 from (eu4_1))
  have r3 : HID ((-2147483648 : Int) ≤ u6_1 ∧ u6_1 ≤ 2147483647) := krg_e (show (-2147483648 : Int) ≤ F 6 1 ∧ F 6 1 ≤ 2147483647 from H.krg 6 1 (ltn len_V6_oz_R2qcls rfl)) (show F 6 1 = u6_1 from (eu6_1))
  have r4 : HID ((-2147483648 : Int) ≤ u8_1 ∧ u8_1 ≤ 2147483647) := krg_e (show (-2147483648 : Int) ≤ F 8 1 ∧ F 8 1 ≤ 2147483647 from H.krg 8 1 (ltn len_V6_oz_R2qcls rfl)) (show F 8 1 = u8_1 from (eu8_1))
  have r5 : HID ((0 : Int) ≤ n1 ∧ n1 ≤ 1000000) := nrng (H.nle 1 (ltn len_V6_oz_R2qcls rfl)) (show (N 1 : Int) = n1 from en1)
  have hl0 : ((sc ((w3)) 0 ((u2_1))).length : Int) = (u2_1) := by rw [sc_lenI (by (have qg0 := HIDe r1; omega))]; (have qg0 := HIDe r1; omega)
  have hl1 : ((sc ((w5)) 0 ((u4_1))).length : Int) = (u4_1) := by rw [sc_lenI (by (have qg0 := HIDe r2; omega))]; (have qg0 := HIDe r2; omega)
  have hl2 : ((sc ((w7)) 0 ((u6_1))).length : Int) = (u6_1) := by rw [sc_lenI (by (have qg0 := HIDe r3; omega))]; (have qg0 := HIDe r3; omega)
  have hl3 : ((sc ((w9)) 0 ((u8_1))).length : Int) = (u8_1) := by rw [sc_lenI (by (have qg0 := HIDe r4; omega))]; (have qg0 := HIDe r4; omega)
  refine Ew_of (pcₚ := 1) (fun _ => x_iload_n rfl rfl) ?_
  refine w_stat24 rfl rfl (by rfl) (C24x (D := puc 0 D) (N := puc 0 N) (HW_subc H oz_R2qcls_1 oz_R2qcls_4) (show inr (a1) from h0) (fun z10 σ10 F10ₚ A10ₚ Hₚ Oₚ hS10 hA10 pz10_0 pz10_1 => ⟨rretB rfl pz10_0, ?_⟩))
  refine v_backc (c := c) (s := s) H oz_R2qcls_1 oz_R2qcls_4 Hₚ Oₚ (fun F10 A10 H Oₚ eF10 eA10 => ?_)
  have O := OUT_trans O Oₚ
  -- PackHouse.isRow
  have cF10 : SF oz_R2qclsl_0 F F10 := SF_trans (SF_refl) (SF_gluc (ι := oz_R2qclsl_1) oz_R2qcls_4 hS10 eF10 (by decide +kernel)) (any_sub (lₚ := []) (by decide +kernel))
  have mF10 := SFm_of cF10 oz_R2qcls_2
  have cA10 : SA oz_R2qclsl_1 A A10 := SA_trans (SA_refl) (SA_gluc (ι := oz_R2qclsl_1) oz_R2qcls_4 hA10 eA10 (by decide +kernel)) (any_subA (lₚ := []) (by decide +kernel))
  have mA10 := SAm_of cA10 oz_R2qcls_3
  refine w_ifeq (t := 19) rfl rfl (show inr (z10) from q_138 pz10_0) (fun b11 => ?_) (fun b11 => ?_)
  · refine Ew_of (pcₚ := 20) (fun _ => x_iconst rfl) ?_
    have h0_0 : IMP ((a1) = 0) (((-1)) = ((sc ((w3)) 0 ((u2_1))).length : Int)) := by first | exact fun q => absurd q (by (have qg0 := HIDe r1; omega)) | exact fun q => by (have qg0 := HIDe r1; omega)
    have h0_1 : IMP ((a1) = 1) (((-1)) = ((sc ((w5)) 0 ((u4_1))).length : Int)) := by first | exact fun q => absurd q (by (have qg0 := HIDe r2; omega)) | exact fun q => by (have qg0 := HIDe r2; omega)
    have h0_2 : IMP ((a1) = 2) (((-1)) = ((sc ((w7)) 0 ((u6_1))).length : Int)) := by first | exact fun q => absurd q (by (have qg0 := HIDe r3; omega)) | exact fun q => by (have qg0 := HIDe r3; omega)
    have h0_3 : IMP ((a1) = 3) (((-1)) = ((sc ((w9)) 0 ((u8_1))).length : Int)) := by first | exact fun q => absurd q (by (have qg0 := HIDe r4; omega)) | exact fun q => by (have qg0 := HIDe r4; omega)
    exact w_ireturn rfl (k ((-1)) _ _ _ H O (cF10) (cA10) (show inr ((-1)) from q_63) (show 0 ≤ a1 ∧ a1 ≤ 3 ∨ ((-1)) = -1 by first | exact q_4977 | omega) (h0_0) (h0_1) (h0_2) (h0_3))
  · refine Ew_of (pcₚ := 8) (fun _ => x_aload_n rfl rfl) ?_
    refine v_g H (o := 0) (v := .ref (D 1)) rfl rfl rfl rfl rfl (vrf ((mF10 0 0 rfl).trans (pf1))) ?_
    refine Ew_of (pcₚ := 12) (fun _ => x_iload_n rfl rfl) ?_
    rcases (show a1 = 0 ∨ a1 = 1 ∨ a1 = 2 ∨ a1 = 3 by omega) with b12 | b12 | b12 | b12
    · refine v_lR H (o := 1) rfl rfl rfl rfl rfl (n := n1) (en1) (show 0 ≤ a1 ∧ a1 < n1 from q_4724 (HIDe r5) b12 h1) (z := ((D 2 : Nat) : Int)) (v := .ref (D 2)) ((congrArg (A10 1) b12).trans ((mA10 1 rfl 0).trans (pf2))) (vrf rfl) ?_
      refine v_g H (o := 2) (v := I (u2_1)) rfl rfl rfl rfl rfl (congrArg (fun z : Int => I z) (((mF10 2 1 rfl).trans (eu2_1)) : F10 2 1 = u2_1)) ?_
      refine Ew_of (pcₚ := 20) (fun _ => x_goto rfl rfl) ?_
      have h0_0 : IMP ((a1) = 0) ((u2_1) = ((sc ((w3)) 0 ((u2_1))).length : Int)) := by first | exact fun q => absurd q (by (have qg0 := HIDe r1; omega)) | exact fun q => by (have qg0 := HIDe r1; omega)
      have h0_1 : IMP ((a1) = 1) ((u2_1) = ((sc ((w5)) 0 ((u4_1))).length : Int)) := by first | exact fun q => absurd q (by (have qg0 := HIDe r1; have qg1 := HIDe r2; omega)) | exact fun q => by (have qg0 := HIDe r1; have qg1 := HIDe r2; omega)
      have h0_2 : IMP ((a1) = 2) ((u2_1) = ((sc ((w7)) 0 ((u6_1))).length : Int)) := by first | exact fun q => absurd q (by (have qg0 := HIDe r1; have qg1 := HIDe r3; omega)) | exact fun q => by (have qg0 := HIDe r1; have qg1 := HIDe r3; omega)
      have h0_3 : IMP ((a1) = 3) ((u2_1) = ((sc ((w9)) 0 ((u8_1))).length : Int)) := by first | exact fun q => absurd q (by (have qg0 := HIDe r1; have qg1 := HIDe r4; omega)) | exact fun q => by (have qg0 := HIDe r1; have qg1 := HIDe r4; omega)
      exact w_ireturn rfl (k (u2_1) _ _ _ H O (cF10) (cA10) (show inr (u2_1) from q_38 h2) (show 0 ≤ a1 ∧ a1 ≤ 3 ∨ (u2_1) = -1 from q_4978 b12) (h0_0) (h0_1) (h0_2) (h0_3))
    · refine v_lR H (o := 1) rfl rfl rfl rfl rfl (n := n1) (en1) (show 0 ≤ a1 ∧ a1 < n1 from q_4726 (HIDe r5) b12 h1) (z := ((D 4 : Nat) : Int)) (v := .ref (D 4)) ((congrArg (A10 1) b12).trans ((mA10 1 rfl 1).trans (pf4))) (vrf rfl) ?_
      refine v_g H (o := 4) (v := I (u4_1)) rfl rfl rfl rfl rfl (congrArg (fun z : Int => I z) (((mF10 4 1 rfl).trans (eu4_1)) : F10 4 1 = u4_1)) ?_
      refine Ew_of (pcₚ := 20) (fun _ => x_goto rfl rfl) ?_
      have h0_0 : IMP ((a1) = 0) ((u4_1) = ((sc ((w3)) 0 ((u2_1))).length : Int)) := by first | exact fun q => absurd q (by (have qg0 := HIDe r1; have qg1 := HIDe r2; omega)) | exact fun q => by (have qg0 := HIDe r1; have qg1 := HIDe r2; omega)
      have h0_1 : IMP ((a1) = 1) ((u4_1) = ((sc ((w5)) 0 ((u4_1))).length : Int)) := by first | exact fun q => absurd q (by (have qg0 := HIDe r2; omega)) | exact fun q => by (have qg0 := HIDe r2; omega)
      have h0_2 : IMP ((a1) = 2) ((u4_1) = ((sc ((w7)) 0 ((u6_1))).length : Int)) := by first | exact fun q => absurd q (by (have qg0 := HIDe r2; have qg1 := HIDe r3; omega)) | exact fun q => by (have qg0 := HIDe r2; have qg1 := HIDe r3; omega)
      have h0_3 : IMP ((a1) = 3) ((u4_1) = ((sc ((w9)) 0 ((u8_1))).length : Int)) := by first | exact fun q => absurd q (by (have qg0 := HIDe r2; have qg1 := HIDe r4; omega)) | exact fun q => by (have qg0 := HIDe r2; have qg1 := HIDe r4; omega)
      exact w_ireturn rfl (k (u4_1) _ _ _ H O (cF10) (cA10) (show inr (u4_1) from q_38 h3) (show 0 ≤ a1 ∧ a1 ≤ 3 ∨ (u4_1) = -1 from q_4979 b12) (h0_0) (h0_1) (h0_2) (h0_3))
    · refine v_lR H (o := 1) rfl rfl rfl rfl rfl (n := n1) (en1) (show 0 ≤ a1 ∧ a1 < n1 from q_4727 (HIDe r5) b12 h1) (z := ((D 6 : Nat) : Int)) (v := .ref (D 6)) ((congrArg (A10 1) b12).trans ((mA10 1 rfl 2).trans (pf6))) (vrf rfl) ?_
      refine v_g H (o := 6) (v := I (u6_1)) rfl rfl rfl rfl rfl (congrArg (fun z : Int => I z) (((mF10 6 1 rfl).trans (eu6_1)) : F10 6 1 = u6_1)) ?_
      refine Ew_of (pcₚ := 20) (fun _ => x_goto rfl rfl) ?_
      have h0_0 : IMP ((a1) = 0) ((u6_1) = ((sc ((w3)) 0 ((u2_1))).length : Int)) := by first | exact fun q => absurd q (by (have qg0 := HIDe r1; have qg1 := HIDe r3; omega)) | exact fun q => by (have qg0 := HIDe r1; have qg1 := HIDe r3; omega)
      have h0_1 : IMP ((a1) = 1) ((u6_1) = ((sc ((w5)) 0 ((u4_1))).length : Int)) := by first | exact fun q => absurd q (by (have qg0 := HIDe r2; have qg1 := HIDe r3; omega)) | exact fun q => by (have qg0 := HIDe r2; have qg1 := HIDe r3; omega)
      have h0_2 : IMP ((a1) = 2) ((u6_1) = ((sc ((w7)) 0 ((u6_1))).length : Int)) := by first | exact fun q => absurd q (by (have qg0 := HIDe r3; omega)) | exact fun q => by (have qg0 := HIDe r3; omega)
      have h0_3 : IMP ((a1) = 3) ((u6_1) = ((sc ((w9)) 0 ((u8_1))).length : Int)) := by first | exact fun q => absurd q (by (have qg0 := HIDe r3; have qg1 := HIDe r4; omega)) | exact fun q => by (have qg0 := HIDe r3; have qg1 := HIDe r4; omega)
      exact w_ireturn rfl (k (u6_1) _ _ _ H O (cF10) (cA10) (show inr (u6_1) from q_38 h4) (show 0 ≤ a1 ∧ a1 ≤ 3 ∨ (u6_1) = -1 from q_4980 b12) (h0_0) (h0_1) (h0_2) (h0_3))
    · refine v_lR H (o := 1) rfl rfl rfl rfl rfl (n := n1) (en1) (show 0 ≤ a1 ∧ a1 < n1 from q_4728 b12 h1) (z := ((D 8 : Nat) : Int)) (v := .ref (D 8)) ((congrArg (A10 1) b12).trans ((mA10 1 rfl 3).trans (pf8))) (vrf rfl) ?_
      refine v_g H (o := 8) (v := I (u8_1)) rfl rfl rfl rfl rfl (congrArg (fun z : Int => I z) (((mF10 8 1 rfl).trans (eu8_1)) : F10 8 1 = u8_1)) ?_
      refine Ew_of (pcₚ := 20) (fun _ => x_goto rfl rfl) ?_
      have h0_0 : IMP ((a1) = 0) ((u8_1) = ((sc ((w3)) 0 ((u2_1))).length : Int)) := by first | exact fun q => absurd q (by (have qg0 := HIDe r1; have qg1 := HIDe r4; omega)) | exact fun q => by (have qg0 := HIDe r1; have qg1 := HIDe r4; omega)
      have h0_1 : IMP ((a1) = 1) ((u8_1) = ((sc ((w5)) 0 ((u4_1))).length : Int)) := by first | exact fun q => absurd q (by (have qg0 := HIDe r2; have qg1 := HIDe r4; omega)) | exact fun q => by (have qg0 := HIDe r2; have qg1 := HIDe r4; omega)
      have h0_2 : IMP ((a1) = 2) ((u8_1) = ((sc ((w7)) 0 ((u6_1))).length : Int)) := by first | exact fun q => absurd q (by (have qg0 := HIDe r3; have qg1 := HIDe r4; omega)) | exact fun q => by (have qg0 := HIDe r3; have qg1 := HIDe r4; omega)
      have h0_3 : IMP ((a1) = 3) ((u8_1) = ((sc ((w9)) 0 ((u8_1))).length : Int)) := by first | exact fun q => absurd q (by (have qg0 := HIDe r4; omega)) | exact fun q => by (have qg0 := HIDe r4; omega)
      exact w_ireturn rfl (k (u8_1) _ _ _ H O (cF10) (cA10) (show inr (u8_1) from q_38 h5) (show 0 ≤ a1 ∧ a1 ≤ 3 ∨ (u8_1) = -1 from q_4981 b12) (h0_0) (h0_1) (h0_2) (h0_3))
theorem len_V7_oz_R2qcls : (V7).length = 10 := by decide +kernel
theorem oz_R2qcls_6 : vsub V7 V24 [] = true := by decide +kernel

theorem C7p {σE : rS} {D N : Nat → Nat} {F : hF} {A : hA} {d c s : Nat} {Q : wQ} (H : HW V7 σE D N F A) {a1 a2 : Int} (pf1 : HID (F 0 0 = (D 1 : Int))) (pf2 : HID (A 1 0 = (D 2 : Int))) (pf3 : HID (F 2 0 = (D 3 : Int))) (pf4 : HID (A 1 1 = (D 4 : Int))) (pf5 : HID (F 4 0 = (D 5 : Int))) (pf6 : HID (A 1 2 = (D 6 : Int))) (pf7 : HID (F 6 0 = (D 7 : Int))) (pf8 : HID (A 1 3 = (D 8 : Int))) (pf9 : HID (F 8 0 = (D 9 : Int))) (n1 : Int) (en1 : HID ((N 1 : Int) = n1)) (n3 : Int) (en3 : HID ((N 3 : Int) = n3)) (n5 : Int) (en5 : HID ((N 5 : Int) = n5)) (n7 : Int) (en7 : HID ((N 7 : Int) = n7)) (n9 : Int) (en9 : HID ((N 9 : Int) = n9)) (u2_1 : Int) (eu2_1 : HID (F 2 1 = u2_1)) (u4_1 : Int) (eu4_1 : HID (F 4 1 = u4_1)) (u6_1 : Int) (eu6_1 : HID (F 6 1 = u6_1)) (u8_1 : Int) (eu8_1 : HID (F 8 1 = u8_1)) (w3 : Int → Int) (ew3 : A 3 = w3) (w5 : Int → Int) (ew5 : A 5 = w5) (w7 : Int → Int) (ew7 : A 7 = w7) (w9 : Int → Int) (ew9 : A 9 = w9) (h0 : inr (a1)) (h1 : inr (a2)) (h2 : (n1) = 4) (h3 : 0 ≤ (u2_1) ∧ (u2_1) ≤ (n3) ∧ (n3) ≤ 65536) (h4 : 0 ≤ (u4_1) ∧ (u4_1) ≤ (n5) ∧ (n5) ≤ 65536) (h5 : 0 ≤ (u6_1) ∧ (u6_1) ≤ (n7) ∧ (n7) ≤ 65536) (h6 : 0 ≤ (u8_1) ∧ (u8_1) ≤ (n9) ∧ (n9) ≤ 65536) (k : ∀ (z : Int) (σ : rS) (Fₚ : hF) (Aₚ : hA), HW V7 σ D N Fₚ Aₚ → OUT (V7).length D N σE c s D N σ c s → SF [] F Fₚ → SA [] A Aₚ → (inr (z)) → (0 ≤ (a1) ∧ (a1) ≤ 3 ∨ (z) = -1) → (IMP ((a1) = 0) ((0 ≤ (a2) ∧ (a2) < ((sc ((w3)) 0 ((u2_1))).length : Int)) ∧ (z) = ap (sc ((w3)) 0 ((u2_1))) ((a2)) ∨ ¬ (0 ≤ (a2) ∧ (a2) < ((sc ((w3)) 0 ((u2_1))).length : Int)) ∧ (z) = -1)) → (IMP ((a1) = 1) ((0 ≤ (a2) ∧ (a2) < ((sc ((w5)) 0 ((u4_1))).length : Int)) ∧ (z) = ap (sc ((w5)) 0 ((u4_1))) ((a2)) ∨ ¬ (0 ≤ (a2) ∧ (a2) < ((sc ((w5)) 0 ((u4_1))).length : Int)) ∧ (z) = -1)) → (IMP ((a1) = 2) ((0 ≤ (a2) ∧ (a2) < ((sc ((w7)) 0 ((u6_1))).length : Int)) ∧ (z) = ap (sc ((w7)) 0 ((u6_1))) ((a2)) ∨ ¬ (0 ≤ (a2) ∧ (a2) < ((sc ((w7)) 0 ((u6_1))).length : Int)) ∧ (z) = -1)) → (IMP ((a1) = 3) ((0 ≤ (a2) ∧ (a2) < ((sc ((w9)) 0 ((u8_1))).length : Int)) ∧ (z) = ap (sc ((w9)) 0 ((u8_1))) ((a2)) ∨ ¬ (0 ≤ (a2) ∧ (a2) < ((sc ((w9)) 0 ((u8_1))).length : Int)) ∧ (z) = -1)) → Q (some (I z)) σ c s) : Ew 7 (d + 1) 0 (rargs 0 [.ref (D 0), I a1, I a2]) [] σE c s Q := by
  have O := OUT_refl (n := (V7).length) (D := D) (N := N) (σ := σE) (c := c) (s := s)
  have HE := H
  have r1 : HID ((-2147483648 : Int) ≤ u2_1 ∧ u2_1 ≤ 2147483647) := krg_e (show (-2147483648 : Int) ≤ F 2 1 ∧ F 2 1 ≤ 2147483647 from H.krg 2 1 (ltn len_V7_oz_R2qcls rfl)) (show F 2 1 = u2_1 from (eu2_1))
  have r2 : HID ((-2147483648 : Int) ≤ u4_1 ∧ u4_1 ≤ 2147483647) := krg_e (show (-2147483648 : Int) ≤ F 4 1 ∧ F 4 1 ≤ 2147483647 from H.krg 4 1 (ltn len_V7_oz_R2qcls rfl)) (show F 4 1 = u4_1 from (eu4_1))
  have r3 : HID ((-2147483648 : Int) ≤ u6_1 ∧ u6_1 ≤ 2147483647) := krg_e (show (-2147483648 : Int) ≤ F 6 1 ∧ F 6 1 ≤ 2147483647 from H.krg 6 1 (ltn len_V7_oz_R2qcls rfl)) (show F 6 1 = u6_1 from (eu6_1))
  have r4 : HID ((-2147483648 : Int) ≤ u8_1 ∧ u8_1 ≤ 2147483647) := krg_e (show (-2147483648 : Int) ≤ F 8 1 ∧ F 8 1 ≤ 2147483647 from H.krg 8 1 (ltn len_V7_oz_R2qcls rfl)) (show F 8 1 = u8_1 from (eu8_1))
  have r5 : HID ((0 : Int) ≤ n1 ∧ n1 ≤ 1000000) := nrng (H.nle 1 (ltn len_V7_oz_R2qcls rfl)) (show (N 1 : Int) = n1 from en1)
  have hl0 : ((sc ((w3)) 0 ((u2_1))).length : Int) = (u2_1) := by rw [sc_lenI (by (have qg0 := HIDe r1; omega))]; (have qg0 := HIDe r1; omega)
  have hl1 : ((sc ((w5)) 0 ((u4_1))).length : Int) = (u4_1) := by rw [sc_lenI (by (have qg0 := HIDe r2; omega))]; (have qg0 := HIDe r2; omega)
  have hl2 : ((sc ((w7)) 0 ((u6_1))).length : Int) = (u6_1) := by rw [sc_lenI (by (have qg0 := HIDe r3; omega))]; (have qg0 := HIDe r3; omega)
  have hl3 : ((sc ((w9)) 0 ((u8_1))).length : Int) = (u8_1) := by rw [sc_lenI (by (have qg0 := HIDe r4; omega))]; (have qg0 := HIDe r4; omega)
  refine Ew_of (pcₚ := 1) (fun _ => x_iload_n rfl rfl) ?_
  refine w_stat24 rfl rfl (by rfl) (C24x (D := puc 0 D) (N := puc 0 N) (HW_subc H oz_R2qcls_6 oz_R2qcls_4) (show inr (a1) from h0) (fun z10 σ10 F10ₚ A10ₚ Hₚ Oₚ hS10 hA10 pz10_0 pz10_1 => ⟨rretB rfl pz10_0, ?_⟩))
  refine v_backc (c := c) (s := s) H oz_R2qcls_6 oz_R2qcls_4 Hₚ Oₚ (fun F10 A10 H Oₚ eF10 eA10 => ?_)
  have O := OUT_trans O Oₚ
  -- PackHouse.isRow
  have cF10 : SF oz_R2qclsl_0 F F10 := SF_trans (SF_refl) (SF_gluc (ι := oz_R2qclsl_1) oz_R2qcls_4 hS10 eF10 (by decide +kernel)) (any_sub (lₚ := []) (by decide +kernel))
  have mF10 := SFm_of cF10 oz_R2qcls_2
  have cA10 : SA oz_R2qclsl_1 A A10 := SA_trans (SA_refl) (SA_gluc (ι := oz_R2qclsl_1) oz_R2qcls_4 hA10 eA10 (by decide +kernel)) (any_subA (lₚ := []) (by decide +kernel))
  have mA10 := SAm_of cA10 oz_R2qcls_3
  refine w_ifeq (t := 42) rfl rfl (show inr (z10) from q_138 pz10_0) (fun b11 => ?_) (fun b11 => ?_)
  · refine Ew_of (pcₚ := 43) (fun _ => x_iconst rfl) ?_
    have h0_0 : IMP ((a1) = 0) ((0 ≤ (a2) ∧ (a2) < ((sc ((w3)) 0 ((u2_1))).length : Int)) ∧ ((-1)) = ap (sc ((w3)) 0 ((u2_1))) ((a2)) ∨ ¬ (0 ≤ (a2) ∧ (a2) < ((sc ((w3)) 0 ((u2_1))).length : Int)) ∧ ((-1)) = -1) := by first | exact fun q => absurd q (by (have qg0 := HIDe r1; omega)) | exact fun q => .inl ⟨by (have qg0 := HIDe r1; omega), by rw [ap_sc (by (have qg0 := HIDe r1; omega)) (by (have qg0 := HIDe r1; omega)), hv35]; rfl⟩ | exact fun q => .inr ⟨by (have qg0 := HIDe r1; omega), rfl⟩
    have h0_1 : IMP ((a1) = 1) ((0 ≤ (a2) ∧ (a2) < ((sc ((w5)) 0 ((u4_1))).length : Int)) ∧ ((-1)) = ap (sc ((w5)) 0 ((u4_1))) ((a2)) ∨ ¬ (0 ≤ (a2) ∧ (a2) < ((sc ((w5)) 0 ((u4_1))).length : Int)) ∧ ((-1)) = -1) := by first | exact fun q => absurd q (by (have qg0 := HIDe r2; omega)) | exact fun q => .inl ⟨by (have qg0 := HIDe r2; omega), by rw [ap_sc (by (have qg0 := HIDe r2; omega)) (by (have qg0 := HIDe r2; omega)), hv35]; rfl⟩ | exact fun q => .inr ⟨by (have qg0 := HIDe r2; omega), rfl⟩
    have h0_2 : IMP ((a1) = 2) ((0 ≤ (a2) ∧ (a2) < ((sc ((w7)) 0 ((u6_1))).length : Int)) ∧ ((-1)) = ap (sc ((w7)) 0 ((u6_1))) ((a2)) ∨ ¬ (0 ≤ (a2) ∧ (a2) < ((sc ((w7)) 0 ((u6_1))).length : Int)) ∧ ((-1)) = -1) := by first | exact fun q => absurd q (by (have qg0 := HIDe r3; omega)) | exact fun q => .inl ⟨by (have qg0 := HIDe r3; omega), by rw [ap_sc (by (have qg0 := HIDe r3; omega)) (by (have qg0 := HIDe r3; omega)), hv35]; rfl⟩ | exact fun q => .inr ⟨by (have qg0 := HIDe r3; omega), rfl⟩
    have h0_3 : IMP ((a1) = 3) ((0 ≤ (a2) ∧ (a2) < ((sc ((w9)) 0 ((u8_1))).length : Int)) ∧ ((-1)) = ap (sc ((w9)) 0 ((u8_1))) ((a2)) ∨ ¬ (0 ≤ (a2) ∧ (a2) < ((sc ((w9)) 0 ((u8_1))).length : Int)) ∧ ((-1)) = -1) := by first | exact fun q => absurd q (by (have qg0 := HIDe r4; omega)) | exact fun q => .inl ⟨by (have qg0 := HIDe r4; omega), by rw [ap_sc (by (have qg0 := HIDe r4; omega)) (by (have qg0 := HIDe r4; omega)), hv35]; rfl⟩ | exact fun q => .inr ⟨by (have qg0 := HIDe r4; omega), rfl⟩
    exact w_ireturn rfl (k ((-1)) _ _ _ H O (cF10) (cA10) (show inr ((-1)) from q_63) (show 0 ≤ a1 ∧ a1 ≤ 3 ∨ ((-1)) = -1 by first | exact q_4977 | omega) (h0_0) (h0_1) (h0_2) (h0_3))
  · refine Ew_of (pcₚ := 8) (fun _ => x_iload_n rfl rfl) ?_
    refine w_iflt (t := 42) rfl rfl (show inr (a2) from h1) (fun b12 => ?_) (fun b12 => ?_)
    · refine Ew_of (pcₚ := 43) (fun _ => x_iconst rfl) ?_
      have h0_0 : IMP ((a1) = 0) ((0 ≤ (a2) ∧ (a2) < ((sc ((w3)) 0 ((u2_1))).length : Int)) ∧ ((-1)) = ap (sc ((w3)) 0 ((u2_1))) ((a2)) ∨ ¬ (0 ≤ (a2) ∧ (a2) < ((sc ((w3)) 0 ((u2_1))).length : Int)) ∧ ((-1)) = -1) := by first | exact fun q => absurd q (by (have qg0 := HIDe r1; omega)) | exact fun q => .inl ⟨by (have qg0 := HIDe r1; omega), by rw [ap_sc (by (have qg0 := HIDe r1; omega)) (by (have qg0 := HIDe r1; omega)), hv35]; rfl⟩ | exact fun q => .inr ⟨by (have qg0 := HIDe r1; omega), rfl⟩
      have h0_1 : IMP ((a1) = 1) ((0 ≤ (a2) ∧ (a2) < ((sc ((w5)) 0 ((u4_1))).length : Int)) ∧ ((-1)) = ap (sc ((w5)) 0 ((u4_1))) ((a2)) ∨ ¬ (0 ≤ (a2) ∧ (a2) < ((sc ((w5)) 0 ((u4_1))).length : Int)) ∧ ((-1)) = -1) := by first | exact fun q => absurd q (by (have qg0 := HIDe r2; omega)) | exact fun q => .inl ⟨by (have qg0 := HIDe r2; omega), by rw [ap_sc (by (have qg0 := HIDe r2; omega)) (by (have qg0 := HIDe r2; omega)), hv35]; rfl⟩ | exact fun q => .inr ⟨by (have qg0 := HIDe r2; omega), rfl⟩
      have h0_2 : IMP ((a1) = 2) ((0 ≤ (a2) ∧ (a2) < ((sc ((w7)) 0 ((u6_1))).length : Int)) ∧ ((-1)) = ap (sc ((w7)) 0 ((u6_1))) ((a2)) ∨ ¬ (0 ≤ (a2) ∧ (a2) < ((sc ((w7)) 0 ((u6_1))).length : Int)) ∧ ((-1)) = -1) := by first | exact fun q => absurd q (by (have qg0 := HIDe r3; omega)) | exact fun q => .inl ⟨by (have qg0 := HIDe r3; omega), by rw [ap_sc (by (have qg0 := HIDe r3; omega)) (by (have qg0 := HIDe r3; omega)), hv35]; rfl⟩ | exact fun q => .inr ⟨by (have qg0 := HIDe r3; omega), rfl⟩
      have h0_3 : IMP ((a1) = 3) ((0 ≤ (a2) ∧ (a2) < ((sc ((w9)) 0 ((u8_1))).length : Int)) ∧ ((-1)) = ap (sc ((w9)) 0 ((u8_1))) ((a2)) ∨ ¬ (0 ≤ (a2) ∧ (a2) < ((sc ((w9)) 0 ((u8_1))).length : Int)) ∧ ((-1)) = -1) := by first | exact fun q => absurd q (by (have qg0 := HIDe r4; omega)) | exact fun q => .inl ⟨by (have qg0 := HIDe r4; omega), by rw [ap_sc (by (have qg0 := HIDe r4; omega)) (by (have qg0 := HIDe r4; omega)), hv35]; rfl⟩ | exact fun q => .inr ⟨by (have qg0 := HIDe r4; omega), rfl⟩
      exact w_ireturn rfl (k ((-1)) _ _ _ H O (cF10) (cA10) (show inr ((-1)) from q_63) (show 0 ≤ a1 ∧ a1 ≤ 3 ∨ ((-1)) = -1 by first | exact q_4977 | omega) (h0_0) (h0_1) (h0_2) (h0_3))
    · refine Ew_of (pcₚ := 12) (fun _ => x_iload_n rfl rfl) ?_
      refine Ew_of (pcₚ := 13) (fun _ => x_aload_n rfl rfl) ?_
      refine v_g H (o := 0) (v := .ref (D 1)) rfl rfl rfl rfl rfl (vrf ((mF10 0 0 rfl).trans (pf1))) ?_
      refine Ew_of (pcₚ := 17) (fun _ => x_iload_n rfl rfl) ?_
      rcases (show a1 = 0 ∨ a1 = 1 ∨ a1 = 2 ∨ a1 = 3 by omega) with b13 | b13 | b13 | b13
      · refine v_lR H (o := 1) rfl rfl rfl rfl rfl (n := n1) (en1) (show 0 ≤ a1 ∧ a1 < n1 from q_4724 (HIDe r5) b13 h2) (z := ((D 2 : Nat) : Int)) (v := .ref (D 2)) ((congrArg (A10 1) b13).trans ((mA10 1 rfl 0).trans (pf2))) (vrf rfl) ?_
        refine v_g H (o := 2) (v := I (u2_1)) rfl rfl rfl rfl rfl (congrArg (fun z : Int => I z) (((mF10 2 1 rfl).trans (eu2_1)) : F10 2 1 = u2_1)) ?_
        refine w_icmpge (t := 42) rfl rfl (show inr (a2) from h1) (show inr (u2_1) from q_38 h3) (fun b14 => ?_) (fun b14 => ?_)
        · refine Ew_of (pcₚ := 43) (fun _ => x_iconst rfl) ?_
          have h0_0 : IMP ((a1) = 0) ((0 ≤ (a2) ∧ (a2) < ((sc ((w3)) 0 ((u2_1))).length : Int)) ∧ ((-1)) = ap (sc ((w3)) 0 ((u2_1))) ((a2)) ∨ ¬ (0 ≤ (a2) ∧ (a2) < ((sc ((w3)) 0 ((u2_1))).length : Int)) ∧ ((-1)) = -1) := by first | exact fun q => absurd q (by (have qg0 := HIDe r1; omega)) | exact fun q => .inl ⟨by (have qg0 := HIDe r1; omega), by rw [ap_sc (by (have qg0 := HIDe r1; omega)) (by (have qg0 := HIDe r1; omega)), hv35]; rfl⟩ | exact fun q => .inr ⟨by (have qg0 := HIDe r1; omega), rfl⟩
          have h0_1 : IMP ((a1) = 1) ((0 ≤ (a2) ∧ (a2) < ((sc ((w5)) 0 ((u4_1))).length : Int)) ∧ ((-1)) = ap (sc ((w5)) 0 ((u4_1))) ((a2)) ∨ ¬ (0 ≤ (a2) ∧ (a2) < ((sc ((w5)) 0 ((u4_1))).length : Int)) ∧ ((-1)) = -1) := by first | exact fun q => absurd q (by (have qg0 := HIDe r2; omega)) | exact fun q => .inl ⟨by (have qg0 := HIDe r2; omega), by rw [ap_sc (by (have qg0 := HIDe r2; omega)) (by (have qg0 := HIDe r2; omega)), hv35]; rfl⟩ | exact fun q => .inr ⟨by (have qg0 := HIDe r2; omega), rfl⟩
          have h0_2 : IMP ((a1) = 2) ((0 ≤ (a2) ∧ (a2) < ((sc ((w7)) 0 ((u6_1))).length : Int)) ∧ ((-1)) = ap (sc ((w7)) 0 ((u6_1))) ((a2)) ∨ ¬ (0 ≤ (a2) ∧ (a2) < ((sc ((w7)) 0 ((u6_1))).length : Int)) ∧ ((-1)) = -1) := by first | exact fun q => absurd q (by (have qg0 := HIDe r3; omega)) | exact fun q => .inl ⟨by (have qg0 := HIDe r3; omega), by rw [ap_sc (by (have qg0 := HIDe r3; omega)) (by (have qg0 := HIDe r3; omega)), hv35]; rfl⟩ | exact fun q => .inr ⟨by (have qg0 := HIDe r3; omega), rfl⟩
          have h0_3 : IMP ((a1) = 3) ((0 ≤ (a2) ∧ (a2) < ((sc ((w9)) 0 ((u8_1))).length : Int)) ∧ ((-1)) = ap (sc ((w9)) 0 ((u8_1))) ((a2)) ∨ ¬ (0 ≤ (a2) ∧ (a2) < ((sc ((w9)) 0 ((u8_1))).length : Int)) ∧ ((-1)) = -1) := by first | exact fun q => absurd q (by (have qg0 := HIDe r4; omega)) | exact fun q => .inl ⟨by (have qg0 := HIDe r4; omega), by rw [ap_sc (by (have qg0 := HIDe r4; omega)) (by (have qg0 := HIDe r4; omega)), hv35]; rfl⟩ | exact fun q => .inr ⟨by (have qg0 := HIDe r4; omega), rfl⟩
          exact w_ireturn rfl (k ((-1)) _ _ _ H O (cF10) (cA10) (show inr ((-1)) from q_63) (show 0 ≤ a1 ∧ a1 ≤ 3 ∨ ((-1)) = -1 by first | exact q_4982 b13 | omega) (h0_0) (h0_1) (h0_2) (h0_3))
        · refine Ew_of (pcₚ := 25) (fun _ => x_aload_n rfl rfl) ?_
          refine v_g H (o := 0) (v := .ref (D 1)) rfl rfl rfl rfl rfl (vrf ((mF10 0 0 rfl).trans (pf1))) ?_
          refine Ew_of (pcₚ := 29) (fun _ => x_iload_n rfl rfl) ?_
          refine v_lR H (o := 1) rfl rfl rfl rfl rfl (n := n1) (en1) (show 0 ≤ a1 ∧ a1 < n1 from q_4724 (HIDe r5) b13 h2) (z := ((D 2 : Nat) : Int)) (v := .ref (D 2)) ((congrArg (A10 1) b13).trans ((mA10 1 rfl 0).trans (pf2))) (vrf rfl) ?_
          refine v_g H (o := 2) (v := .ref (D 3)) rfl rfl rfl rfl rfl (vrf ((mF10 2 0 rfl).trans (pf3))) ?_
          refine Ew_of (pcₚ := 34) (fun _ => x_iload_n rfl rfl) ?_
          refine v_lB H (o := 3) rfl rfl rfl rfl (n := n3) (en3) (show 0 ≤ a2 ∧ a2 < n3 from q_4732 b12 b14 h3) (fun v15 ev15 (qv15 : HID _) => ?_)
          have ev15 : (w3) (a2) = v15 := (congrFun ((funext (mA10 3 rfl)).trans (ew3)) (a2)).symm.trans ev15
          have hv35 := ev15
          refine Ew_of (pcₚ := 38) (fun _ => x_sipush (z := 255) rfl (by decide)) ?_
          refine v_and255 rfl ?_
          refine Ew_of (pcₚ := 43) (fun _ => x_goto rfl rfl) ?_
          have h0_0 : IMP ((a1) = 0) ((0 ≤ (a2) ∧ (a2) < ((sc ((w3)) 0 ((u2_1))).length : Int)) ∧ ((v15 % 256)) = ap (sc ((w3)) 0 ((u2_1))) ((a2)) ∨ ¬ (0 ≤ (a2) ∧ (a2) < ((sc ((w3)) 0 ((u2_1))).length : Int)) ∧ ((v15 % 256)) = -1) := by first | exact fun q => absurd q (by (have qg0 := HIDe qv15; have qg1 := HIDe r1; omega)) | exact fun q => .inl ⟨by (have qg0 := HIDe qv15; have qg1 := HIDe r1; omega), by rw [ap_sc (by (have qg0 := HIDe qv15; have qg1 := HIDe r1; omega)) (by (have qg0 := HIDe qv15; have qg1 := HIDe r1; omega)), hv35]; rfl⟩ | exact fun q => .inr ⟨by (have qg0 := HIDe qv15; have qg1 := HIDe r1; omega), rfl⟩
          have h0_1 : IMP ((a1) = 1) ((0 ≤ (a2) ∧ (a2) < ((sc ((w5)) 0 ((u4_1))).length : Int)) ∧ ((v15 % 256)) = ap (sc ((w5)) 0 ((u4_1))) ((a2)) ∨ ¬ (0 ≤ (a2) ∧ (a2) < ((sc ((w5)) 0 ((u4_1))).length : Int)) ∧ ((v15 % 256)) = -1) := by first | exact fun q => absurd q (by (have qg0 := HIDe qv15; have qg1 := HIDe r2; omega)) | exact fun q => .inl ⟨by (have qg0 := HIDe qv15; have qg1 := HIDe r2; omega), by rw [ap_sc (by (have qg0 := HIDe qv15; have qg1 := HIDe r2; omega)) (by (have qg0 := HIDe qv15; have qg1 := HIDe r2; omega)), hv35]; rfl⟩ | exact fun q => .inr ⟨by (have qg0 := HIDe qv15; have qg1 := HIDe r2; omega), rfl⟩
          have h0_2 : IMP ((a1) = 2) ((0 ≤ (a2) ∧ (a2) < ((sc ((w7)) 0 ((u6_1))).length : Int)) ∧ ((v15 % 256)) = ap (sc ((w7)) 0 ((u6_1))) ((a2)) ∨ ¬ (0 ≤ (a2) ∧ (a2) < ((sc ((w7)) 0 ((u6_1))).length : Int)) ∧ ((v15 % 256)) = -1) := by first | exact fun q => absurd q (by (have qg0 := HIDe qv15; have qg1 := HIDe r3; omega)) | exact fun q => .inl ⟨by (have qg0 := HIDe qv15; have qg1 := HIDe r3; omega), by rw [ap_sc (by (have qg0 := HIDe qv15; have qg1 := HIDe r3; omega)) (by (have qg0 := HIDe qv15; have qg1 := HIDe r3; omega)), hv35]; rfl⟩ | exact fun q => .inr ⟨by (have qg0 := HIDe qv15; have qg1 := HIDe r3; omega), rfl⟩
          have h0_3 : IMP ((a1) = 3) ((0 ≤ (a2) ∧ (a2) < ((sc ((w9)) 0 ((u8_1))).length : Int)) ∧ ((v15 % 256)) = ap (sc ((w9)) 0 ((u8_1))) ((a2)) ∨ ¬ (0 ≤ (a2) ∧ (a2) < ((sc ((w9)) 0 ((u8_1))).length : Int)) ∧ ((v15 % 256)) = -1) := by first | exact fun q => absurd q (by (have qg0 := HIDe qv15; have qg1 := HIDe r4; omega)) | exact fun q => .inl ⟨by (have qg0 := HIDe qv15; have qg1 := HIDe r4; omega), by rw [ap_sc (by (have qg0 := HIDe qv15; have qg1 := HIDe r4; omega)) (by (have qg0 := HIDe qv15; have qg1 := HIDe r4; omega)), hv35]; rfl⟩ | exact fun q => .inr ⟨by (have qg0 := HIDe qv15; have qg1 := HIDe r4; omega), rfl⟩
          exact w_ireturn rfl (k ((v15 % 256)) _ _ _ H O (cF10) (cA10) (show inr ((v15 % 256)) from q_461) (show 0 ≤ a1 ∧ a1 ≤ 3 ∨ ((v15 % 256)) = -1 by first | exact q_4983 b13 | omega) (h0_0) (h0_1) (h0_2) (h0_3))
      · refine v_lR H (o := 1) rfl rfl rfl rfl rfl (n := n1) (en1) (show 0 ≤ a1 ∧ a1 < n1 from q_4726 (HIDe r5) b13 h2) (z := ((D 4 : Nat) : Int)) (v := .ref (D 4)) ((congrArg (A10 1) b13).trans ((mA10 1 rfl 1).trans (pf4))) (vrf rfl) ?_
        refine v_g H (o := 4) (v := I (u4_1)) rfl rfl rfl rfl rfl (congrArg (fun z : Int => I z) (((mF10 4 1 rfl).trans (eu4_1)) : F10 4 1 = u4_1)) ?_
        refine w_icmpge (t := 42) rfl rfl (show inr (a2) from h1) (show inr (u4_1) from q_38 h4) (fun b16 => ?_) (fun b16 => ?_)
        · refine Ew_of (pcₚ := 43) (fun _ => x_iconst rfl) ?_
          have h0_0 : IMP ((a1) = 0) ((0 ≤ (a2) ∧ (a2) < ((sc ((w3)) 0 ((u2_1))).length : Int)) ∧ ((-1)) = ap (sc ((w3)) 0 ((u2_1))) ((a2)) ∨ ¬ (0 ≤ (a2) ∧ (a2) < ((sc ((w3)) 0 ((u2_1))).length : Int)) ∧ ((-1)) = -1) := by first | exact fun q => absurd q (by (have qg0 := HIDe r1; omega)) | exact fun q => .inl ⟨by (have qg0 := HIDe r1; omega), by rw [ap_sc (by (have qg0 := HIDe r1; omega)) (by (have qg0 := HIDe r1; omega)), hv35]; rfl⟩ | exact fun q => .inr ⟨by (have qg0 := HIDe r1; omega), rfl⟩
          have h0_1 : IMP ((a1) = 1) ((0 ≤ (a2) ∧ (a2) < ((sc ((w5)) 0 ((u4_1))).length : Int)) ∧ ((-1)) = ap (sc ((w5)) 0 ((u4_1))) ((a2)) ∨ ¬ (0 ≤ (a2) ∧ (a2) < ((sc ((w5)) 0 ((u4_1))).length : Int)) ∧ ((-1)) = -1) := by first | exact fun q => absurd q (by (have qg0 := HIDe r2; omega)) | exact fun q => .inl ⟨by (have qg0 := HIDe r2; omega), by rw [ap_sc (by (have qg0 := HIDe r2; omega)) (by (have qg0 := HIDe r2; omega)), hv35]; rfl⟩ | exact fun q => .inr ⟨by (have qg0 := HIDe r2; omega), rfl⟩
          have h0_2 : IMP ((a1) = 2) ((0 ≤ (a2) ∧ (a2) < ((sc ((w7)) 0 ((u6_1))).length : Int)) ∧ ((-1)) = ap (sc ((w7)) 0 ((u6_1))) ((a2)) ∨ ¬ (0 ≤ (a2) ∧ (a2) < ((sc ((w7)) 0 ((u6_1))).length : Int)) ∧ ((-1)) = -1) := by first | exact fun q => absurd q (by (have qg0 := HIDe r3; omega)) | exact fun q => .inl ⟨by (have qg0 := HIDe r3; omega), by rw [ap_sc (by (have qg0 := HIDe r3; omega)) (by (have qg0 := HIDe r3; omega)), hv35]; rfl⟩ | exact fun q => .inr ⟨by (have qg0 := HIDe r3; omega), rfl⟩
          have h0_3 : IMP ((a1) = 3) ((0 ≤ (a2) ∧ (a2) < ((sc ((w9)) 0 ((u8_1))).length : Int)) ∧ ((-1)) = ap (sc ((w9)) 0 ((u8_1))) ((a2)) ∨ ¬ (0 ≤ (a2) ∧ (a2) < ((sc ((w9)) 0 ((u8_1))).length : Int)) ∧ ((-1)) = -1) := by first | exact fun q => absurd q (by (have qg0 := HIDe r4; omega)) | exact fun q => .inl ⟨by (have qg0 := HIDe r4; omega), by rw [ap_sc (by (have qg0 := HIDe r4; omega)) (by (have qg0 := HIDe r4; omega)), hv35]; rfl⟩ | exact fun q => .inr ⟨by (have qg0 := HIDe r4; omega), rfl⟩
          exact w_ireturn rfl (k ((-1)) _ _ _ H O (cF10) (cA10) (show inr ((-1)) from q_63) (show 0 ≤ a1 ∧ a1 ≤ 3 ∨ ((-1)) = -1 by first | exact q_4984 b13 | omega) (h0_0) (h0_1) (h0_2) (h0_3))
        · refine Ew_of (pcₚ := 25) (fun _ => x_aload_n rfl rfl) ?_
          refine v_g H (o := 0) (v := .ref (D 1)) rfl rfl rfl rfl rfl (vrf ((mF10 0 0 rfl).trans (pf1))) ?_
          refine Ew_of (pcₚ := 29) (fun _ => x_iload_n rfl rfl) ?_
          refine v_lR H (o := 1) rfl rfl rfl rfl rfl (n := n1) (en1) (show 0 ≤ a1 ∧ a1 < n1 from q_4726 (HIDe r5) b13 h2) (z := ((D 4 : Nat) : Int)) (v := .ref (D 4)) ((congrArg (A10 1) b13).trans ((mA10 1 rfl 1).trans (pf4))) (vrf rfl) ?_
          refine v_g H (o := 4) (v := .ref (D 5)) rfl rfl rfl rfl rfl (vrf ((mF10 4 0 rfl).trans (pf5))) ?_
          refine Ew_of (pcₚ := 34) (fun _ => x_iload_n rfl rfl) ?_
          refine v_lB H (o := 5) rfl rfl rfl rfl (n := n5) (en5) (show 0 ≤ a2 ∧ a2 < n5 from q_4732 b12 b16 h4) (fun v17 ev17 (qv17 : HID _) => ?_)
          have ev17 : (w5) (a2) = v17 := (congrFun ((funext (mA10 5 rfl)).trans (ew5)) (a2)).symm.trans ev17
          have hv35 := ev17
          refine Ew_of (pcₚ := 38) (fun _ => x_sipush (z := 255) rfl (by decide)) ?_
          refine v_and255 rfl ?_
          refine Ew_of (pcₚ := 43) (fun _ => x_goto rfl rfl) ?_
          have h0_0 : IMP ((a1) = 0) ((0 ≤ (a2) ∧ (a2) < ((sc ((w3)) 0 ((u2_1))).length : Int)) ∧ ((v17 % 256)) = ap (sc ((w3)) 0 ((u2_1))) ((a2)) ∨ ¬ (0 ≤ (a2) ∧ (a2) < ((sc ((w3)) 0 ((u2_1))).length : Int)) ∧ ((v17 % 256)) = -1) := by first | exact fun q => absurd q (by (have qg0 := HIDe qv17; have qg1 := HIDe r1; omega)) | exact fun q => .inl ⟨by (have qg0 := HIDe qv17; have qg1 := HIDe r1; omega), by rw [ap_sc (by (have qg0 := HIDe qv17; have qg1 := HIDe r1; omega)) (by (have qg0 := HIDe qv17; have qg1 := HIDe r1; omega)), hv35]; rfl⟩ | exact fun q => .inr ⟨by (have qg0 := HIDe qv17; have qg1 := HIDe r1; omega), rfl⟩
          have h0_1 : IMP ((a1) = 1) ((0 ≤ (a2) ∧ (a2) < ((sc ((w5)) 0 ((u4_1))).length : Int)) ∧ ((v17 % 256)) = ap (sc ((w5)) 0 ((u4_1))) ((a2)) ∨ ¬ (0 ≤ (a2) ∧ (a2) < ((sc ((w5)) 0 ((u4_1))).length : Int)) ∧ ((v17 % 256)) = -1) := by first | exact fun q => absurd q (by (have qg0 := HIDe qv17; have qg1 := HIDe r2; omega)) | exact fun q => .inl ⟨by (have qg0 := HIDe qv17; have qg1 := HIDe r2; omega), by rw [ap_sc (by (have qg0 := HIDe qv17; have qg1 := HIDe r2; omega)) (by (have qg0 := HIDe qv17; have qg1 := HIDe r2; omega)), hv35]; rfl⟩ | exact fun q => .inr ⟨by (have qg0 := HIDe qv17; have qg1 := HIDe r2; omega), rfl⟩
          have h0_2 : IMP ((a1) = 2) ((0 ≤ (a2) ∧ (a2) < ((sc ((w7)) 0 ((u6_1))).length : Int)) ∧ ((v17 % 256)) = ap (sc ((w7)) 0 ((u6_1))) ((a2)) ∨ ¬ (0 ≤ (a2) ∧ (a2) < ((sc ((w7)) 0 ((u6_1))).length : Int)) ∧ ((v17 % 256)) = -1) := by first | exact fun q => absurd q (by (have qg0 := HIDe qv17; have qg1 := HIDe r3; omega)) | exact fun q => .inl ⟨by (have qg0 := HIDe qv17; have qg1 := HIDe r3; omega), by rw [ap_sc (by (have qg0 := HIDe qv17; have qg1 := HIDe r3; omega)) (by (have qg0 := HIDe qv17; have qg1 := HIDe r3; omega)), hv35]; rfl⟩ | exact fun q => .inr ⟨by (have qg0 := HIDe qv17; have qg1 := HIDe r3; omega), rfl⟩
          have h0_3 : IMP ((a1) = 3) ((0 ≤ (a2) ∧ (a2) < ((sc ((w9)) 0 ((u8_1))).length : Int)) ∧ ((v17 % 256)) = ap (sc ((w9)) 0 ((u8_1))) ((a2)) ∨ ¬ (0 ≤ (a2) ∧ (a2) < ((sc ((w9)) 0 ((u8_1))).length : Int)) ∧ ((v17 % 256)) = -1) := by first | exact fun q => absurd q (by (have qg0 := HIDe qv17; have qg1 := HIDe r4; omega)) | exact fun q => .inl ⟨by (have qg0 := HIDe qv17; have qg1 := HIDe r4; omega), by rw [ap_sc (by (have qg0 := HIDe qv17; have qg1 := HIDe r4; omega)) (by (have qg0 := HIDe qv17; have qg1 := HIDe r4; omega)), hv35]; rfl⟩ | exact fun q => .inr ⟨by (have qg0 := HIDe qv17; have qg1 := HIDe r4; omega), rfl⟩
          exact w_ireturn rfl (k ((v17 % 256)) _ _ _ H O (cF10) (cA10) (show inr ((v17 % 256)) from q_461) (show 0 ≤ a1 ∧ a1 ≤ 3 ∨ ((v17 % 256)) = -1 by first | exact q_4985 b13 | omega) (h0_0) (h0_1) (h0_2) (h0_3))
      · refine v_lR H (o := 1) rfl rfl rfl rfl rfl (n := n1) (en1) (show 0 ≤ a1 ∧ a1 < n1 from q_4727 (HIDe r5) b13 h2) (z := ((D 6 : Nat) : Int)) (v := .ref (D 6)) ((congrArg (A10 1) b13).trans ((mA10 1 rfl 2).trans (pf6))) (vrf rfl) ?_
        refine v_g H (o := 6) (v := I (u6_1)) rfl rfl rfl rfl rfl (congrArg (fun z : Int => I z) (((mF10 6 1 rfl).trans (eu6_1)) : F10 6 1 = u6_1)) ?_
        refine w_icmpge (t := 42) rfl rfl (show inr (a2) from h1) (show inr (u6_1) from q_38 h5) (fun b18 => ?_) (fun b18 => ?_)
        · refine Ew_of (pcₚ := 43) (fun _ => x_iconst rfl) ?_
          have h0_0 : IMP ((a1) = 0) ((0 ≤ (a2) ∧ (a2) < ((sc ((w3)) 0 ((u2_1))).length : Int)) ∧ ((-1)) = ap (sc ((w3)) 0 ((u2_1))) ((a2)) ∨ ¬ (0 ≤ (a2) ∧ (a2) < ((sc ((w3)) 0 ((u2_1))).length : Int)) ∧ ((-1)) = -1) := by first | exact fun q => absurd q (by (have qg0 := HIDe r1; omega)) | exact fun q => .inl ⟨by (have qg0 := HIDe r1; omega), by rw [ap_sc (by (have qg0 := HIDe r1; omega)) (by (have qg0 := HIDe r1; omega)), hv35]; rfl⟩ | exact fun q => .inr ⟨by (have qg0 := HIDe r1; omega), rfl⟩
          have h0_1 : IMP ((a1) = 1) ((0 ≤ (a2) ∧ (a2) < ((sc ((w5)) 0 ((u4_1))).length : Int)) ∧ ((-1)) = ap (sc ((w5)) 0 ((u4_1))) ((a2)) ∨ ¬ (0 ≤ (a2) ∧ (a2) < ((sc ((w5)) 0 ((u4_1))).length : Int)) ∧ ((-1)) = -1) := by first | exact fun q => absurd q (by (have qg0 := HIDe r2; omega)) | exact fun q => .inl ⟨by (have qg0 := HIDe r2; omega), by rw [ap_sc (by (have qg0 := HIDe r2; omega)) (by (have qg0 := HIDe r2; omega)), hv35]; rfl⟩ | exact fun q => .inr ⟨by (have qg0 := HIDe r2; omega), rfl⟩
          have h0_2 : IMP ((a1) = 2) ((0 ≤ (a2) ∧ (a2) < ((sc ((w7)) 0 ((u6_1))).length : Int)) ∧ ((-1)) = ap (sc ((w7)) 0 ((u6_1))) ((a2)) ∨ ¬ (0 ≤ (a2) ∧ (a2) < ((sc ((w7)) 0 ((u6_1))).length : Int)) ∧ ((-1)) = -1) := by first | exact fun q => absurd q (by (have qg0 := HIDe r3; omega)) | exact fun q => .inl ⟨by (have qg0 := HIDe r3; omega), by rw [ap_sc (by (have qg0 := HIDe r3; omega)) (by (have qg0 := HIDe r3; omega)), hv35]; rfl⟩ | exact fun q => .inr ⟨by (have qg0 := HIDe r3; omega), rfl⟩
          have h0_3 : IMP ((a1) = 3) ((0 ≤ (a2) ∧ (a2) < ((sc ((w9)) 0 ((u8_1))).length : Int)) ∧ ((-1)) = ap (sc ((w9)) 0 ((u8_1))) ((a2)) ∨ ¬ (0 ≤ (a2) ∧ (a2) < ((sc ((w9)) 0 ((u8_1))).length : Int)) ∧ ((-1)) = -1) := by first | exact fun q => absurd q (by (have qg0 := HIDe r4; omega)) | exact fun q => .inl ⟨by (have qg0 := HIDe r4; omega), by rw [ap_sc (by (have qg0 := HIDe r4; omega)) (by (have qg0 := HIDe r4; omega)), hv35]; rfl⟩ | exact fun q => .inr ⟨by (have qg0 := HIDe r4; omega), rfl⟩
          exact w_ireturn rfl (k ((-1)) _ _ _ H O (cF10) (cA10) (show inr ((-1)) from q_63) (show 0 ≤ a1 ∧ a1 ≤ 3 ∨ ((-1)) = -1 by first | exact q_4986 b13 | omega) (h0_0) (h0_1) (h0_2) (h0_3))
        · refine Ew_of (pcₚ := 25) (fun _ => x_aload_n rfl rfl) ?_
          refine v_g H (o := 0) (v := .ref (D 1)) rfl rfl rfl rfl rfl (vrf ((mF10 0 0 rfl).trans (pf1))) ?_
          refine Ew_of (pcₚ := 29) (fun _ => x_iload_n rfl rfl) ?_
          refine v_lR H (o := 1) rfl rfl rfl rfl rfl (n := n1) (en1) (show 0 ≤ a1 ∧ a1 < n1 from q_4727 (HIDe r5) b13 h2) (z := ((D 6 : Nat) : Int)) (v := .ref (D 6)) ((congrArg (A10 1) b13).trans ((mA10 1 rfl 2).trans (pf6))) (vrf rfl) ?_
          refine v_g H (o := 6) (v := .ref (D 7)) rfl rfl rfl rfl rfl (vrf ((mF10 6 0 rfl).trans (pf7))) ?_
          refine Ew_of (pcₚ := 34) (fun _ => x_iload_n rfl rfl) ?_
          refine v_lB H (o := 7) rfl rfl rfl rfl (n := n7) (en7) (show 0 ≤ a2 ∧ a2 < n7 from q_4732 b12 b18 h5) (fun v19 ev19 (qv19 : HID _) => ?_)
          have ev19 : (w7) (a2) = v19 := (congrFun ((funext (mA10 7 rfl)).trans (ew7)) (a2)).symm.trans ev19
          have hv35 := ev19
          refine Ew_of (pcₚ := 38) (fun _ => x_sipush (z := 255) rfl (by decide)) ?_
          refine v_and255 rfl ?_
          refine Ew_of (pcₚ := 43) (fun _ => x_goto rfl rfl) ?_
          have h0_0 : IMP ((a1) = 0) ((0 ≤ (a2) ∧ (a2) < ((sc ((w3)) 0 ((u2_1))).length : Int)) ∧ ((v19 % 256)) = ap (sc ((w3)) 0 ((u2_1))) ((a2)) ∨ ¬ (0 ≤ (a2) ∧ (a2) < ((sc ((w3)) 0 ((u2_1))).length : Int)) ∧ ((v19 % 256)) = -1) := by first | exact fun q => absurd q (by (have qg0 := HIDe qv19; have qg1 := HIDe r1; omega)) | exact fun q => .inl ⟨by (have qg0 := HIDe qv19; have qg1 := HIDe r1; omega), by rw [ap_sc (by (have qg0 := HIDe qv19; have qg1 := HIDe r1; omega)) (by (have qg0 := HIDe qv19; have qg1 := HIDe r1; omega)), hv35]; rfl⟩ | exact fun q => .inr ⟨by (have qg0 := HIDe qv19; have qg1 := HIDe r1; omega), rfl⟩
          have h0_1 : IMP ((a1) = 1) ((0 ≤ (a2) ∧ (a2) < ((sc ((w5)) 0 ((u4_1))).length : Int)) ∧ ((v19 % 256)) = ap (sc ((w5)) 0 ((u4_1))) ((a2)) ∨ ¬ (0 ≤ (a2) ∧ (a2) < ((sc ((w5)) 0 ((u4_1))).length : Int)) ∧ ((v19 % 256)) = -1) := by first | exact fun q => absurd q (by (have qg0 := HIDe qv19; have qg1 := HIDe r2; omega)) | exact fun q => .inl ⟨by (have qg0 := HIDe qv19; have qg1 := HIDe r2; omega), by rw [ap_sc (by (have qg0 := HIDe qv19; have qg1 := HIDe r2; omega)) (by (have qg0 := HIDe qv19; have qg1 := HIDe r2; omega)), hv35]; rfl⟩ | exact fun q => .inr ⟨by (have qg0 := HIDe qv19; have qg1 := HIDe r2; omega), rfl⟩
          have h0_2 : IMP ((a1) = 2) ((0 ≤ (a2) ∧ (a2) < ((sc ((w7)) 0 ((u6_1))).length : Int)) ∧ ((v19 % 256)) = ap (sc ((w7)) 0 ((u6_1))) ((a2)) ∨ ¬ (0 ≤ (a2) ∧ (a2) < ((sc ((w7)) 0 ((u6_1))).length : Int)) ∧ ((v19 % 256)) = -1) := by first | exact fun q => absurd q (by (have qg0 := HIDe qv19; have qg1 := HIDe r3; omega)) | exact fun q => .inl ⟨by (have qg0 := HIDe qv19; have qg1 := HIDe r3; omega), by rw [ap_sc (by (have qg0 := HIDe qv19; have qg1 := HIDe r3; omega)) (by (have qg0 := HIDe qv19; have qg1 := HIDe r3; omega)), hv35]; rfl⟩ | exact fun q => .inr ⟨by (have qg0 := HIDe qv19; have qg1 := HIDe r3; omega), rfl⟩
          have h0_3 : IMP ((a1) = 3) ((0 ≤ (a2) ∧ (a2) < ((sc ((w9)) 0 ((u8_1))).length : Int)) ∧ ((v19 % 256)) = ap (sc ((w9)) 0 ((u8_1))) ((a2)) ∨ ¬ (0 ≤ (a2) ∧ (a2) < ((sc ((w9)) 0 ((u8_1))).length : Int)) ∧ ((v19 % 256)) = -1) := by first | exact fun q => absurd q (by (have qg0 := HIDe qv19; have qg1 := HIDe r4; omega)) | exact fun q => .inl ⟨by (have qg0 := HIDe qv19; have qg1 := HIDe r4; omega), by rw [ap_sc (by (have qg0 := HIDe qv19; have qg1 := HIDe r4; omega)) (by (have qg0 := HIDe qv19; have qg1 := HIDe r4; omega)), hv35]; rfl⟩ | exact fun q => .inr ⟨by (have qg0 := HIDe qv19; have qg1 := HIDe r4; omega), rfl⟩
          exact w_ireturn rfl (k ((v19 % 256)) _ _ _ H O (cF10) (cA10) (show inr ((v19 % 256)) from q_461) (show 0 ≤ a1 ∧ a1 ≤ 3 ∨ ((v19 % 256)) = -1 by first | exact q_4987 b13 | omega) (h0_0) (h0_1) (h0_2) (h0_3))
      · refine v_lR H (o := 1) rfl rfl rfl rfl rfl (n := n1) (en1) (show 0 ≤ a1 ∧ a1 < n1 from q_4728 b13 h2) (z := ((D 8 : Nat) : Int)) (v := .ref (D 8)) ((congrArg (A10 1) b13).trans ((mA10 1 rfl 3).trans (pf8))) (vrf rfl) ?_
        refine v_g H (o := 8) (v := I (u8_1)) rfl rfl rfl rfl rfl (congrArg (fun z : Int => I z) (((mF10 8 1 rfl).trans (eu8_1)) : F10 8 1 = u8_1)) ?_
        refine w_icmpge (t := 42) rfl rfl (show inr (a2) from h1) (show inr (u8_1) from q_38 h6) (fun b20 => ?_) (fun b20 => ?_)
        · refine Ew_of (pcₚ := 43) (fun _ => x_iconst rfl) ?_
          have h0_0 : IMP ((a1) = 0) ((0 ≤ (a2) ∧ (a2) < ((sc ((w3)) 0 ((u2_1))).length : Int)) ∧ ((-1)) = ap (sc ((w3)) 0 ((u2_1))) ((a2)) ∨ ¬ (0 ≤ (a2) ∧ (a2) < ((sc ((w3)) 0 ((u2_1))).length : Int)) ∧ ((-1)) = -1) := by first | exact fun q => absurd q (by (have qg0 := HIDe r1; omega)) | exact fun q => .inl ⟨by (have qg0 := HIDe r1; omega), by rw [ap_sc (by (have qg0 := HIDe r1; omega)) (by (have qg0 := HIDe r1; omega)), hv35]; rfl⟩ | exact fun q => .inr ⟨by (have qg0 := HIDe r1; omega), rfl⟩
          have h0_1 : IMP ((a1) = 1) ((0 ≤ (a2) ∧ (a2) < ((sc ((w5)) 0 ((u4_1))).length : Int)) ∧ ((-1)) = ap (sc ((w5)) 0 ((u4_1))) ((a2)) ∨ ¬ (0 ≤ (a2) ∧ (a2) < ((sc ((w5)) 0 ((u4_1))).length : Int)) ∧ ((-1)) = -1) := by first | exact fun q => absurd q (by (have qg0 := HIDe r2; omega)) | exact fun q => .inl ⟨by (have qg0 := HIDe r2; omega), by rw [ap_sc (by (have qg0 := HIDe r2; omega)) (by (have qg0 := HIDe r2; omega)), hv35]; rfl⟩ | exact fun q => .inr ⟨by (have qg0 := HIDe r2; omega), rfl⟩
          have h0_2 : IMP ((a1) = 2) ((0 ≤ (a2) ∧ (a2) < ((sc ((w7)) 0 ((u6_1))).length : Int)) ∧ ((-1)) = ap (sc ((w7)) 0 ((u6_1))) ((a2)) ∨ ¬ (0 ≤ (a2) ∧ (a2) < ((sc ((w7)) 0 ((u6_1))).length : Int)) ∧ ((-1)) = -1) := by first | exact fun q => absurd q (by (have qg0 := HIDe r3; omega)) | exact fun q => .inl ⟨by (have qg0 := HIDe r3; omega), by rw [ap_sc (by (have qg0 := HIDe r3; omega)) (by (have qg0 := HIDe r3; omega)), hv35]; rfl⟩ | exact fun q => .inr ⟨by (have qg0 := HIDe r3; omega), rfl⟩
          have h0_3 : IMP ((a1) = 3) ((0 ≤ (a2) ∧ (a2) < ((sc ((w9)) 0 ((u8_1))).length : Int)) ∧ ((-1)) = ap (sc ((w9)) 0 ((u8_1))) ((a2)) ∨ ¬ (0 ≤ (a2) ∧ (a2) < ((sc ((w9)) 0 ((u8_1))).length : Int)) ∧ ((-1)) = -1) := by first | exact fun q => absurd q (by (have qg0 := HIDe r4; omega)) | exact fun q => .inl ⟨by (have qg0 := HIDe r4; omega), by rw [ap_sc (by (have qg0 := HIDe r4; omega)) (by (have qg0 := HIDe r4; omega)), hv35]; rfl⟩ | exact fun q => .inr ⟨by (have qg0 := HIDe r4; omega), rfl⟩
          exact w_ireturn rfl (k ((-1)) _ _ _ H O (cF10) (cA10) (show inr ((-1)) from q_63) (show 0 ≤ a1 ∧ a1 ≤ 3 ∨ ((-1)) = -1 by first | exact q_4988 b13 | omega) (h0_0) (h0_1) (h0_2) (h0_3))
        · refine Ew_of (pcₚ := 25) (fun _ => x_aload_n rfl rfl) ?_
          refine v_g H (o := 0) (v := .ref (D 1)) rfl rfl rfl rfl rfl (vrf ((mF10 0 0 rfl).trans (pf1))) ?_
          refine Ew_of (pcₚ := 29) (fun _ => x_iload_n rfl rfl) ?_
          refine v_lR H (o := 1) rfl rfl rfl rfl rfl (n := n1) (en1) (show 0 ≤ a1 ∧ a1 < n1 from q_4728 b13 h2) (z := ((D 8 : Nat) : Int)) (v := .ref (D 8)) ((congrArg (A10 1) b13).trans ((mA10 1 rfl 3).trans (pf8))) (vrf rfl) ?_
          refine v_g H (o := 8) (v := .ref (D 9)) rfl rfl rfl rfl rfl (vrf ((mF10 8 0 rfl).trans (pf9))) ?_
          refine Ew_of (pcₚ := 34) (fun _ => x_iload_n rfl rfl) ?_
          refine v_lB H (o := 9) rfl rfl rfl rfl (n := n9) (en9) (show 0 ≤ a2 ∧ a2 < n9 from q_4732 b12 b20 h6) (fun v21 ev21 (qv21 : HID _) => ?_)
          have ev21 : (w9) (a2) = v21 := (congrFun ((funext (mA10 9 rfl)).trans (ew9)) (a2)).symm.trans ev21
          have hv35 := ev21
          refine Ew_of (pcₚ := 38) (fun _ => x_sipush (z := 255) rfl (by decide)) ?_
          refine v_and255 rfl ?_
          refine Ew_of (pcₚ := 43) (fun _ => x_goto rfl rfl) ?_
          have h0_0 : IMP ((a1) = 0) ((0 ≤ (a2) ∧ (a2) < ((sc ((w3)) 0 ((u2_1))).length : Int)) ∧ ((v21 % 256)) = ap (sc ((w3)) 0 ((u2_1))) ((a2)) ∨ ¬ (0 ≤ (a2) ∧ (a2) < ((sc ((w3)) 0 ((u2_1))).length : Int)) ∧ ((v21 % 256)) = -1) := by first | exact fun q => absurd q (by (have qg0 := HIDe qv21; have qg1 := HIDe r1; omega)) | exact fun q => .inl ⟨by (have qg0 := HIDe qv21; have qg1 := HIDe r1; omega), by rw [ap_sc (by (have qg0 := HIDe qv21; have qg1 := HIDe r1; omega)) (by (have qg0 := HIDe qv21; have qg1 := HIDe r1; omega)), hv35]; rfl⟩ | exact fun q => .inr ⟨by (have qg0 := HIDe qv21; have qg1 := HIDe r1; omega), rfl⟩
          have h0_1 : IMP ((a1) = 1) ((0 ≤ (a2) ∧ (a2) < ((sc ((w5)) 0 ((u4_1))).length : Int)) ∧ ((v21 % 256)) = ap (sc ((w5)) 0 ((u4_1))) ((a2)) ∨ ¬ (0 ≤ (a2) ∧ (a2) < ((sc ((w5)) 0 ((u4_1))).length : Int)) ∧ ((v21 % 256)) = -1) := by first | exact fun q => absurd q (by (have qg0 := HIDe qv21; have qg1 := HIDe r2; omega)) | exact fun q => .inl ⟨by (have qg0 := HIDe qv21; have qg1 := HIDe r2; omega), by rw [ap_sc (by (have qg0 := HIDe qv21; have qg1 := HIDe r2; omega)) (by (have qg0 := HIDe qv21; have qg1 := HIDe r2; omega)), hv35]; rfl⟩ | exact fun q => .inr ⟨by (have qg0 := HIDe qv21; have qg1 := HIDe r2; omega), rfl⟩
          have h0_2 : IMP ((a1) = 2) ((0 ≤ (a2) ∧ (a2) < ((sc ((w7)) 0 ((u6_1))).length : Int)) ∧ ((v21 % 256)) = ap (sc ((w7)) 0 ((u6_1))) ((a2)) ∨ ¬ (0 ≤ (a2) ∧ (a2) < ((sc ((w7)) 0 ((u6_1))).length : Int)) ∧ ((v21 % 256)) = -1) := by first | exact fun q => absurd q (by (have qg0 := HIDe qv21; have qg1 := HIDe r3; omega)) | exact fun q => .inl ⟨by (have qg0 := HIDe qv21; have qg1 := HIDe r3; omega), by rw [ap_sc (by (have qg0 := HIDe qv21; have qg1 := HIDe r3; omega)) (by (have qg0 := HIDe qv21; have qg1 := HIDe r3; omega)), hv35]; rfl⟩ | exact fun q => .inr ⟨by (have qg0 := HIDe qv21; have qg1 := HIDe r3; omega), rfl⟩
          have h0_3 : IMP ((a1) = 3) ((0 ≤ (a2) ∧ (a2) < ((sc ((w9)) 0 ((u8_1))).length : Int)) ∧ ((v21 % 256)) = ap (sc ((w9)) 0 ((u8_1))) ((a2)) ∨ ¬ (0 ≤ (a2) ∧ (a2) < ((sc ((w9)) 0 ((u8_1))).length : Int)) ∧ ((v21 % 256)) = -1) := by first | exact fun q => absurd q (by (have qg0 := HIDe qv21; have qg1 := HIDe r4; omega)) | exact fun q => .inl ⟨by (have qg0 := HIDe qv21; have qg1 := HIDe r4; omega), by rw [ap_sc (by (have qg0 := HIDe qv21; have qg1 := HIDe r4; omega)) (by (have qg0 := HIDe qv21; have qg1 := HIDe r4; omega)), hv35]; rfl⟩ | exact fun q => .inr ⟨by (have qg0 := HIDe qv21; have qg1 := HIDe r4; omega), rfl⟩
          exact w_ireturn rfl (k ((v21 % 256)) _ _ _ H O (cF10) (cA10) (show inr ((v21 % 256)) from q_461) (show 0 ≤ a1 ∧ a1 ≤ 3 ∨ ((v21 % 256)) = -1 by first | exact q_4989 b13 | omega) (h0_0) (h0_1) (h0_2) (h0_3))
theorem len_V29_Row_Row_oz_R2qcls : (V29_Row_Row).length = 4 := by decide +kernel

theorem C29_Row_Rowp {σE : rS} {D N : Nat → Nat} {F : hF} {A : hA} {d c s : Nat} {Q : wQ} (H : HW V29_Row_Row σE D N F A)  (pf2 : HID (F 0 0 = (D 2 : Int))) (pf3 : HID (F 1 0 = (D 3 : Int))) (n2 : Int) (en2 : HID ((N 2 : Int) = n2)) (n3 : Int) (en3 : HID ((N 3 : Int) = n3)) (u0_1 : Int) (eu0_1 : HID (F 0 1 = u0_1)) (u1_1 : Int) (eu1_1 : HID (F 1 1 = u1_1)) (w2 : Int → Int) (ew2 : A 2 = w2) (w3 : Int → Int) (ew3 : A 3 = w3) (h0 : 0 ≤ (u0_1) ∧ (u0_1) ≤ (n2) ∧ (n2) ≤ 65536) (h1 : 0 ≤ (u1_1) ∧ (u1_1) ≤ (n3) ∧ (n3) ≤ 65536) (k : ∀ (z : Int) (σ : rS) (Fₚ : hF) (Aₚ : hA), HW V29_Row_Row σ D N Fₚ Aₚ → OUT (V29_Row_Row).length D N σE c s D N σ c s → SF [] F Fₚ → SA [] A Aₚ → (inr (z)) → (DFF (sc ((w2)) 0 ((u0_1))) (sc ((w3)) 0 ((u1_1))) ((z))) → Q (some (I z)) σ c s) : Ew 29 (d + 0) 0 (rargs 0 [.ref (D 0), .ref (D 1)]) [] σE c s Q := by
  have O := OUT_refl (n := (V29_Row_Row).length) (D := D) (N := N) (σ := σE) (c := c) (s := s)
  have HE := H
  have r1 : HID ((-2147483648 : Int) ≤ u0_1 ∧ u0_1 ≤ 2147483647) := krg_e (show (-2147483648 : Int) ≤ F 0 1 ∧ F 0 1 ≤ 2147483647 from H.krg 0 1 (ltn len_V29_Row_Row_oz_R2qcls rfl)) (show F 0 1 = u0_1 from (eu0_1))
  have r2 : HID ((-2147483648 : Int) ≤ u1_1 ∧ u1_1 ≤ 2147483647) := krg_e (show (-2147483648 : Int) ≤ F 1 1 ∧ F 1 1 ≤ 2147483647 from H.krg 1 1 (ltn len_V29_Row_Row_oz_R2qcls rfl)) (show F 1 1 = u1_1 from (eu1_1))
  have r3 : HID ((0 : Int) ≤ n2 ∧ n2 ≤ 1000000) := nrng (H.nle 2 (ltn len_V29_Row_Row_oz_R2qcls rfl)) (show (N 2 : Int) = n2 from en2)
  have r4 : HID ((0 : Int) ≤ n3 ∧ n3 ≤ 1000000) := nrng (H.nle 3 (ltn len_V29_Row_Row_oz_R2qcls rfl)) (show (N 3 : Int) = n3 from en3)
  have hla : ((sc ((w2)) 0 ((u0_1))).length : Int) = (u0_1) := by rw [sc_lenI (by (have qg0 := HIDe r1; omega))]; (have qg0 := HIDe r1; omega)
  have hlb : ((sc ((w3)) 0 ((u1_1))).length : Int) = (u1_1) := by rw [sc_lenI (by (have qg0 := HIDe r2; omega))]; (have qg0 := HIDe r2; omega)
  have hr1 : ∀ i, (-128 : Int) ≤ (w2) i ∧ (w2) i ≤ 127 := fun i => by have h1 : (-128 : Int) ≤ A 2 i ∧ A 2 i ≤ 127 := H.arg 2 i (by decide) rfl; rw [show A 2 = w2 from ew2] at h1; exact h1
  have hr2 : ∀ i, (-128 : Int) ≤ (w3) i ∧ (w3) i ≤ 127 := fun i => by have h1 : (-128 : Int) ≤ A 3 i ∧ A 3 i ≤ 127 := H.arg 3 i (by decide) rfl; rw [show A 3 = w3 from ew3] at h1; exact h1
  refine Ew_of (pcₚ := 1) (fun _ => x_aload_n rfl rfl) ?_
  refine v_g H (o := 0) (v := I (u0_1)) rfl rfl rfl rfl rfl (congrArg (fun z : Int => I z) ((eu0_1) : F 0 1 = u0_1)) ?_
  refine Ew_of (pcₚ := 5) (fun _ => x_aload_n rfl rfl) ?_
  refine v_g H (o := 1) (v := I (u1_1)) rfl rfl rfl rfl rfl (congrArg (fun z : Int => I z) ((eu1_1) : F 1 1 = u1_1)) ?_
  refine v_min rfl rfl (show inr (u0_1) from q_38 h0) (show inr (u1_1) from q_38 h1) (fun z5 gz5 => ?_)
  refine Ew_of (pcₚ := 12) (fun _ => x_istore_n rfl) ?_
  refine Ew_of (pcₚ := 13) (fun _ => x_iconst rfl) ?_
  refine Ew_of (pcₚ := 14) (fun _ => x_istore_n rfl) ?_
  have : ∀ k, 0 ≤ k → k < 0 → ap (sc ((w2)) 0 ((u0_1))) k = ap (sc ((w3)) 0 ((u1_1))) k := fun k a b => absurd b (by (have qg0 := HIDe r1; have qg1 := HIDe r2; omega))
  suffices hl14 : ∀ (m : Nat), ∀ (ls : rO) (σ : rS) (F_14 : hF) (A_14 : hA) (x14_3 : Int), rlook ls 0 = some (.ref (D 0)) → rlook ls 1 = some (.ref (D 1)) → rlook ls 2 = some (I (z5)) → rlook ls 3 = some (I (x14_3)) → HW V29_Row_Row σ D N F_14 A_14 → OUT (V29_Row_Row).length D N σE c s D N σ c s → SF [] F F_14 → SA [] A A_14 → (inr (x14_3)) → (0 ≤ (x14_3) ∧ (x14_3) ≤ (z5)) → (∀ k, 0 ≤ k → k < (x14_3) → ap (sc ((w2)) 0 ((u0_1))) k = ap (sc ((w3)) 0 ((u1_1))) k) → ((z5) - (x14_3)).toNat = m → Ew 29 (d + 0) 14 ls [] σ c s Q from
    hl14 _ _ _ _ _ (0) (rk_o (rk_o (rfl) rfl rfl) rfl rfl) (rk_o (rk_o (rfl) rfl rfl) rfl rfl) (rk_o (rk_s) rfl rfl) (rk_s) H O (SF_refl) (SA_refl)     (show inr (0) from q_2) (show 0 ≤ (0) ∧ (0) ≤ (z5) from q_4990 gz5 h0 h1) (show ∀ k, 0 ≤ k → k < (0) → ap (sc ((w2)) 0 ((u0_1))) k = ap (sc ((w3)) 0 ((u1_1))) k by assumption) rfl
  as_aux_lemma =>
  intro m
  induction m using Nat.strongRecOn with
  | _ m ih14 =>
    intro ls σ F_14 A_14 x14_3 l14_0 l14_1 l14_2 l14_3 H O hS_14 hA_14     j14_0 j14_1 j14_2 hm14
    have cF_14 : SF oz_R2qclsl_0 F F_14 := SF_trans (SF_refl) hS_14 (any_sub (by decide +kernel))
    have mF_14 := SFm_of cF_14 oz_R2qcls_2
    have cA_14 : SA oz_R2qclsl_1 A A_14 := SA_trans (SA_refl) hA_14 (any_subA (by decide +kernel))
    have mA_14 := SAm_of cA_14 oz_R2qcls_3
    have j14_a : ∀ k, 0 ≤ k → k < (x14_3) → ap (sc ((w2)) 0 ((u0_1))) k = ap (sc ((w3)) 0 ((u1_1))) k := by assumption
    obtain ⟨q3, hq3⟩ : ∃ q : Int, q = (x14_3) := ⟨_, rfl⟩
    refine Ew_of (pcₚ := 15) (fun _ => x_iload_n rfl l14_3) ?_
    refine Ew_of (pcₚ := 16) (fun _ => x_iload_n rfl l14_2) ?_
    refine w_icmpge (t := 42) rfl rfl (show inr (x14_3) from j14_0) (show inr (z5) from q_4991 gz5 h0 h1 j14_1) (fun b6 => ?_) (fun b6 => ?_)
    · refine Ew_of (pcₚ := 43) (fun _ => x_aload_n rfl l14_0) ?_
      refine v_g H (o := 0) (v := I (u0_1)) rfl rfl rfl rfl rfl (congrArg (fun z : Int => I z) (((mF_14 0 1 rfl).trans (eu0_1)) : F_14 0 1 = u0_1)) ?_
      refine Ew_of (pcₚ := 47) (fun _ => x_aload_n rfl l14_1) ?_
      refine v_g H (o := 1) (v := I (u1_1)) rfl rfl rfl rfl rfl (congrArg (fun z : Int => I z) (((mF_14 1 1 rfl).trans (eu1_1)) : F_14 1 1 = u1_1)) ?_
      refine w_icmpne (t := 57) rfl rfl (show inr (u0_1) from q_38 h0) (show inr (u1_1) from q_38 h1) (fun b7 => ?_) (fun b7 => ?_)
      · refine Ew_of (pcₚ := 58) (fun _ => x_iload_n rfl l14_2) ?_
        have : DFF (sc ((w2)) 0 ((u0_1))) (sc ((w3)) 0 ((u1_1))) ((z5)) := by first | exact .inl ⟨rfl, DFF_eq (by (have qg0 := HIDe r1; have qg1 := HIDe r2; omega)) (fun k a b => j14_a k a (by (have qg0 := HIDe r1; have qg1 := HIDe r2; omega)))⟩ | exact .inr ⟨by (have qg0 := HIDe r1; have qg1 := HIDe r2; omega), by (have qg0 := HIDe r1; have qg1 := HIDe r2; omega), by (have qg0 := HIDe r1; have qg1 := HIDe r2; omega), fun k a b => j14_a k a (by (have qg0 := HIDe r1; have qg1 := HIDe r2; omega)), .inr ⟨by (have qg0 := HIDe r1; have qg1 := HIDe r2; omega), by (have qg0 := HIDe r1; have qg1 := HIDe r2; omega)⟩⟩
        exact w_ireturn rfl (k (z5) _ _ _ H O (cF_14) (cA_14) (show inr (z5) from q_4992 b6 j14_0 j14_1) (show DFF (sc ((w2)) 0 ((u0_1))) (sc ((w3)) 0 ((u1_1))) ((z5)) by assumption))
      · refine Ew_of (pcₚ := 54) (fun _ => x_iconst rfl) ?_
        refine Ew_of (pcₚ := 58) (fun _ => x_goto rfl rfl) ?_
        have : DFF (sc ((w2)) 0 ((u0_1))) (sc ((w3)) 0 ((u1_1))) (((-1))) := by first | exact .inl ⟨rfl, DFF_eq (by (have qg0 := HIDe r1; have qg1 := HIDe r2; omega)) (fun k a b => j14_a k a (by (have qg0 := HIDe r1; have qg1 := HIDe r2; omega)))⟩ | exact .inr ⟨by (have qg0 := HIDe r1; have qg1 := HIDe r2; omega), by (have qg0 := HIDe r1; have qg1 := HIDe r2; omega), by (have qg0 := HIDe r1; have qg1 := HIDe r2; omega), fun k a b => j14_a k a (by (have qg0 := HIDe r1; have qg1 := HIDe r2; omega)), .inr ⟨by (have qg0 := HIDe r1; have qg1 := HIDe r2; omega), by (have qg0 := HIDe r1; have qg1 := HIDe r2; omega)⟩⟩
        exact w_ireturn rfl (k ((-1)) _ _ _ H O (cF_14) (cA_14) (show inr ((-1)) from q_63) (show DFF (sc ((w2)) 0 ((u0_1))) (sc ((w3)) 0 ((u1_1))) (((-1))) by assumption))
    · refine Ew_of (pcₚ := 20) (fun _ => x_aload_n rfl l14_0) ?_
      refine v_g H (o := 0) (v := .ref (D 2)) rfl rfl rfl rfl rfl (vrf ((mF_14 0 0 rfl).trans (pf2))) ?_
      refine Ew_of (pcₚ := 24) (fun _ => x_iload_n rfl l14_3) ?_
      refine v_lB H (o := 2) rfl rfl rfl rfl (n := n2) (en2) (show 0 ≤ x14_3 ∧ x14_3 < n2 by have qh0 := HIDe r3; omega) (fun v8 ev8 (qv8 : HID _) => ?_)
      have ev8 : (w2) (x14_3) = v8 := (congrFun ((funext (mA_14 2 rfl)).trans (ew2)) (x14_3)).symm.trans ev8
      have hv25 := ev8
      refine Ew_of (pcₚ := 26) (fun _ => x_aload_n rfl l14_1) ?_
      refine v_g H (o := 1) (v := .ref (D 3)) rfl rfl rfl rfl rfl (vrf ((mF_14 1 0 rfl).trans (pf3))) ?_
      refine Ew_of (pcₚ := 30) (fun _ => x_iload_n rfl l14_3) ?_
      refine v_lB H (o := 3) rfl rfl rfl rfl (n := n3) (en3) (show 0 ≤ x14_3 ∧ x14_3 < n3 by have qh0 := HIDe r4; omega) (fun v9 ev9 (qv9 : HID _) => ?_)
      have ev9 : (w3) (x14_3) = v9 := (congrFun ((funext (mA_14 3 rfl)).trans (ew3)) (x14_3)).symm.trans ev9
      have hv31 := ev9
      refine w_icmpeq (t := 36) rfl rfl (show inr (v8) from q_97 (HIDe qv8)) (show inr (v9) from q_97 (HIDe qv9)) (fun b10 => ?_) (fun b10 => ?_)
      · refine Ew_of (pcₚ := 39) (fun _ => x_iinc (len := 3) rfl (l14_3)) ?_
        refine Ew_of (pcₚ := 14) (fun _ => x_goto rfl rfl) ?_
        have : ∀ k, 0 ≤ k → k < ((x14_3 + 1)) → ap (sc ((w2)) 0 ((u0_1))) k = ap (sc ((w3)) 0 ((u1_1))) k := fun k a b => by first | rfl | (by_cases e : k = q3; (rw [e, hq3, ap_sc (by (have qg0 := HIDe r1; have qg1 := HIDe r2; omega)) (by (have qg0 := HIDe r1; have qg1 := HIDe r2; omega)), ap_sc (by (have qg0 := HIDe r1; have qg1 := HIDe r2; omega)) (by (have qg0 := HIDe r1; have qg1 := HIDe r2; omega)), hv25, hv31]; exact congrArg u8 (by (have qg0 := HIDe r1; have qg1 := HIDe r2; omega))); exact j14_a k a (by (have qg0 := HIDe r1; have qg1 := HIDe r2; omega)))
        exact ih14 _ (msE hm14 q_16 (q_17 b6)) _ _ _ _ ((x14_3 + 1)) (rk_o (l14_0) rfl rfl) (rk_o (l14_1) rfl rfl) (rk_o (l14_2) rfl rfl) (rk_s) H O (hS_14) (hA_14)     (show inr ((x14_3 + 1)) by omega) (show 0 ≤ ((x14_3 + 1)) ∧ ((x14_3 + 1)) ≤ (z5) from q_1395 b6 j14_1) (show ∀ k, 0 ≤ k → k < ((x14_3 + 1)) → ap (sc ((w2)) 0 ((u0_1))) k = ap (sc ((w3)) 0 ((u1_1))) k by assumption) rfl
      · refine Ew_of (pcₚ := 35) (fun _ => x_iload_n rfl l14_3) ?_
        have : DFF (sc ((w2)) 0 ((u0_1))) (sc ((w3)) 0 ((u1_1))) ((x14_3)) := by first | exact absurd (hv25.symm.trans hv31) (by (have qg0 := HIDe r1; have qg1 := HIDe r2; omega)) | exact .inr ⟨by (have qg0 := HIDe r1; have qg1 := HIDe r2; omega), by (have qg0 := HIDe r1; have qg1 := HIDe r2; omega), by (have qg0 := HIDe r1; have qg1 := HIDe r2; omega), fun k a b => j14_a k a (by (have qg0 := HIDe r1; have qg1 := HIDe r2; omega)), .inl ⟨by (have qg0 := HIDe r1; have qg1 := HIDe r2; omega), by (have qg0 := HIDe r1; have qg1 := HIDe r2; omega), by rw [ap_sc (by (have qg0 := HIDe r1; have qg1 := HIDe r2; omega)) (by (have qg0 := HIDe r1; have qg1 := HIDe r2; omega)), ap_sc (by (have qg0 := HIDe r1; have qg1 := HIDe r2; omega)) (by (have qg0 := HIDe r1; have qg1 := HIDe r2; omega)), hv25, hv31]; exact fun w => absurd ((u8_inj (by have := hr1 ((x14_3)); rw [hv25] at this; exact this) (by have := hr2 ((x14_3)); rw [hv31] at this; exact this)).mp w) (by (have qg0 := HIDe r1; have qg1 := HIDe r2; omega))⟩⟩
        exact w_ireturn rfl (k (x14_3) _ _ _ H O (cF_14) (cA_14) (show inr (x14_3) from j14_0) (show DFF (sc ((w2)) 0 ((u0_1))) (sc ((w3)) 0 ((u1_1))) ((x14_3)) by assumption))


end
section
/-! 23a -/
theorem sc_mem {f : Int → Int} {a b x : Int} (h : x ∈ sc f a b) : 0 ≤ x ∧ x ≤ 255 := by
  rw [sc_e] at h
  unfold sc0 at h
  obtain ⟨k, _, e⟩ := List.mem_map.mp h
  rw [← e]
  exact u8_rng _
theorem ap_rngL {L : List Int} (h : ∀ x, x ∈ L → 0 ≤ x ∧ x ≤ 255) (k : Int) : 0 ≤ ap L k ∧ ap L k ≤ 255 := by
  unfold ap
  by_cases c : k.toNat < L.length
  · exact h _ (getD_mem c)
  · rw [List.getD_eq_getElem?_getD, List.getElem?_eq_none (by omega)]
    exact ⟨by decide, by decide⟩
theorem AGB_L {I : Int → Int} {n : Int} {L : List Int} (hL : sc I 0 n = L) (hn : 0 ≤ n) (hI : ∀ k, 0 ≤ I k ∧ I k ≤ 255) : AGB I (ap L) n ∧ (L.length : Int) = n := by
  have hl : (L.length : Int) = n := by rw [← hL, sc_lenI hn]; omega
  have e : ∀ k, 0 ≤ k → k < n → I k = ap L k := fun k a b => by rw [← hL, ap_sc a b, u8_id (hI k)]
  exact ⟨⟨⟨e, hI⟩, ⟨fun k a b => (e k a b).symm, ap_rngL (fun x q => by rw [← hL] at q; exact sc_mem q)⟩⟩, hl⟩
def RDQ (f : Int) (L H : List Int) (Dc : DcS) (m ret pl : Int) (O : List Int) : Prop :=
  (f = 0 ∧ ∃ n g, RDT (ap L) (L.length : Int) H m ret pl n g ∧ (0 ≤ ret → O = sc g 0 n)) ∨
  (f = 1 ∧ ∃ n g, RDF (ap L) (L.length : Int) H m ret pl n g ∧ (0 ≤ ret → O = sc g 0 n)) ∨
  (f = 2 ∧ ∃ n g, RDG (ap L) (L.length : Int) m ret pl n g ∧ (0 ≤ ret → O = sc g 0 n)) ∨
  (f = 3 ∧ ∃ n g, RDU (ap L) (L.length : Int) m ret pl n g ∧ (0 ≤ ret → O = sc g 0 n)) ∨
  (f = 4 ∧ ((RDS (ap L) (L.length : Int) m Dc).1 = 0 ∧ ret = ((RDS (ap L) (L.length : Int) m Dc).2.2.1.length : Int) ∧ pl = (L.length : Int) ∧ O = (RDS (ap L) (L.length : Int) m Dc).2.2.1 ∨
    (RDS (ap L) (L.length : Int) m Dc).1 ≠ 0 ∧ ret = -(RDS (ap L) (L.length : Int) m Dc).1 ∧ pl = (RDS (ap L) (L.length : Int) m Dc).2.1))
section RDQx
variable {I : Int → Int} {n m ret pl k : Int} {g : Int → Int} {L H O : List Int} {Dc : DcS}
theorem RDQ_0 (hL : sc I 0 n = L) (hn : 0 ≤ n) (hI : ∀ k, 0 ≤ I k ∧ I k ≤ 255) (x : RDT I n H m ret pl k g) (hO : 0 ≤ ret → O = sc g 0 k) : RDQ 0 L H Dc m ret pl O := by
  obtain ⟨a, e⟩ := AGB_L hL hn hI
  have y := RDT_ag a.1 x
  rw [← e] at y
  exact .inl ⟨rfl, k, g, y, hO⟩
theorem RDQ_1 (hL : sc I 0 n = L) (hn : 0 ≤ n) (hI : ∀ k, 0 ≤ I k ∧ I k ≤ 255) (x : RDF I n H m ret pl k g) (hO : 0 ≤ ret → O = sc g 0 k) : RDQ 1 L H Dc m ret pl O := by
  obtain ⟨a, e⟩ := AGB_L hL hn hI
  have y := RDF_ag a.1 x
  rw [← e] at y
  exact .inr (.inl ⟨rfl, k, g, y, hO⟩)
theorem RDQ_2 (hL : sc I 0 n = L) (hn : 0 ≤ n) (hI : ∀ k, 0 ≤ I k ∧ I k ≤ 255) (x : RDG I n m ret pl k g) (hO : 0 ≤ ret → O = sc g 0 k) : RDQ 2 L H Dc m ret pl O := by
  obtain ⟨a, e⟩ := AGB_L hL hn hI
  have y := RDG_ag a.1 x
  rw [← e] at y
  exact .inr (.inr (.inl ⟨rfl, k, g, y, hO⟩))
theorem RDQ_3 (hL : sc I 0 n = L) (hn : 0 ≤ n) (hI : ∀ k, 0 ≤ I k ∧ I k ≤ 255) (x : RDU I n m ret pl k g) (hO : 0 ≤ ret → O = sc g 0 k) : RDQ 3 L H Dc m ret pl O := by
  obtain ⟨a, e⟩ := AGB_L hL hn hI
  have y := RDU_ag a.1 a.2.2 x
  rw [← e] at y
  exact .inr (.inr (.inr (.inl ⟨rfl, k, g, y, hO⟩)))

theorem RDS_L (hL : sc I 0 n = L) (hn : 0 ≤ n) (hI : ∀ k, 0 ≤ I k ∧ I k ≤ 255) (hD : DCo Dc) : RDS I n m Dc = RDS (ap L) (L.length : Int) m Dc := by
  obtain ⟨a, e⟩ := AGB_L hL hn hI
  rw [RDS_ag a hD, e]
theorem RDQ_4y (e : (RDS (ap L) (L.length : Int) m Dc).1 = 0) (hr : ret = ((RDS (ap L) (L.length : Int) m Dc).2.2.1.length : Int)) (hp : pl = (L.length : Int)) (hO : O = (RDS (ap L) (L.length : Int) m Dc).2.2.1) : RDQ 4 L H Dc m ret pl O := .inr (.inr (.inr (.inr ⟨rfl, .inl ⟨e, hr, hp, hO⟩⟩)))
theorem RDQ_4n (e : (RDS (ap L) (L.length : Int) m Dc).1 ≠ 0) (hr : ret = -(RDS (ap L) (L.length : Int) m Dc).1) (hp : pl = (RDS (ap L) (L.length : Int) m Dc).2.1) : RDQ 4 L H Dc m ret pl O := .inr (.inr (.inr (.inr ⟨rfl, .inr ⟨e, hr, hp⟩⟩)))

theorem RDQ_4r {wh o hs bl dn td h : Int} {out : Int → Int} {B : List Int} (hL : sc I 0 n = L) (hn : 0 ≤ n) (hI : ∀ k, 0 ≤ I k ∧ I k ≤ 255) (hD : DCo Dc) (x : RDA (RDS I n m Dc) ret wh n o out B h hs bl dn td) (h0 : 0 ≤ h) (hO : 0 ≤ ret → O = sc out 0 o) (hB : B = sc g 0 h) : RDQ 4 L H Dc m ret wh O ∧ (RDS (ap L) (L.length : Int) m Dc).2.2.2.1 = hs ∧ (RDS (ap L) (L.length : Int) m Dc).2.2.2.2.1 = bl ∧ (RDS (ap L) (L.length : Int) m Dc).2.2.2.2.2.1 = dn ∧ (RDS (ap L) (L.length : Int) m Dc).2.2.2.2.2.2 = td ∧ ((RDS (ap L) (L.length : Int) m Dc).2.2.1.length : Int) = h := by
  rw [RDS_L hL hn hI hD] at x
  obtain ⟨x1, x2, x3, x4, x5, x⟩ := x
  have hl : (L.length : Int) = n := (AGB_L hL hn hI).2
  have hb : (B.length : Int) = h := by rw [hB, sc_lenI h0]; omega
  refine ⟨?_, x2, x3, x4, x5, by rw [x1]; exact hb⟩
  rcases x with ⟨y1, y2, y3, y4, y5⟩ | ⟨y1, y2, y3⟩
  · exact RDQ_4y y1 (by rw [x1, hb]; exact y2) (by rw [hl]; exact y3) (by rw [hO (by omega), y4, y5, x1])
  · exact RDQ_4n y1 y2 y3
theorem RDQ_det {f ret2 pl2 : Int} {O2 : List Int} (x : RDQ f L H Dc m ret pl O) (y : RDQ f L H Dc m ret2 pl2 O2) (h4 : f = 4 → 0 ≤ (RDS (ap L) (L.length : Int) m Dc).1) : ret = ret2 ∧ pl = pl2 ∧ (0 ≤ ret → O = O2) := by
  rcases x with ⟨e, n, g, a, b⟩ | ⟨e, n, g, a, b⟩ | ⟨e, n, g, a, b⟩ | ⟨e, n, g, a, b⟩ | ⟨e, a⟩ <;> rcases y with ⟨e', n', gₚ, a', b'⟩ | ⟨e', n', gₚ, a', b'⟩ | ⟨e', n', gₚ, a', b'⟩ | ⟨e', n', gₚ, a', b'⟩ | ⟨e', a'⟩ <;> first | (exfalso; omega) | skip
  · obtain ⟨u, v, w⟩ := RDT_det a a'
    exact ⟨u, v, fun q => by rw [b q, b' (by omega)]; exact (w q).2⟩
  · obtain ⟨u, v, w⟩ := RDF_det a a'
    exact ⟨u, v, fun q => by rw [b q, b' (by omega)]; exact (w q).2⟩
  · obtain ⟨u, v, w⟩ := RDG_det a a'
    exact ⟨u, v, fun q => by rw [b q, b' (by omega)]; exact (w q).2⟩
  · obtain ⟨u, v, w⟩ := RDU_det a a'
    exact ⟨u, v, fun q => by rw [b q, b' (by omega)]; exact (w q).2⟩
  · rcases a with ⟨a1, a2, a3, a4⟩ | ⟨a1, a2, a3⟩ <;> rcases a' with ⟨b1, b2, b3, b4⟩ | ⟨b1, b2, b3⟩
    · exact ⟨by rw [a2, b2], by rw [a3, b3], fun _ => by rw [a4, b4]⟩
    · exact absurd a1 b1
    · exact absurd b1 a1
    · have := h4 e
      exact ⟨by rw [a2, b2], by rw [a3, b3], fun q => by omega⟩
end RDQx

def WRL (R : List Int → Prop) (ret : Int) (O : List Int) : Prop := ∃ out, R out ∧ ((out.length : Int) ≤ 65536 ∧ ret = (out.length : Int) ∧ O = out ∨ 65536 < (out.length : Int) ∧ ret = -1)
theorem WRL_r {R : List Int → Prop} {ret n : Int} {g : Int → Int} (x : WRT R ret n g) : WRL R ret (sc g 0 n) := by
  obtain ⟨out, r, x⟩ := x
  refine ⟨out, r, ?_⟩
  rcases x with ⟨x1, x2, x3, x4⟩ | x
  · exact .inl ⟨x1, x2, x4⟩
  · exact .inr x

def WRC (R : List Int → Prop) (ret : Int) (O : List Int) : Prop := ∀ out, R out → ((out.length : Int) ≤ 65536 ∧ ret = (out.length : Int) ∧ O = out) ∨ (65536 < (out.length : Int) ∧ ret = -1)
theorem WR_det {R : List Int → Prop} {ret ret2 : Int} {O O2 : List Int} (x : WRL R ret O) (y : WRC R ret2 O2) : ret = ret2 ∧ (0 ≤ ret → O = O2) := by
  obtain ⟨a, r, x⟩ := x
  rcases x with ⟨x1, x2, x3⟩ | ⟨x1, x2⟩ <;> rcases y a r with ⟨y1, y2, y3⟩ | ⟨y1, y2⟩
  · exact ⟨by omega, fun _ => by rw [x3, y3]⟩
  · omega
  · omega
  · exact ⟨by omega, fun q => by omega⟩
theorem WRC_w {R : List Int → Prop} {b1 n1 ret : Int} {g1 : Int → Int} (x : ∀ out, R out → (b1 = 0 ∧ sc g1 0 n1 = out ∧ (out.length : Int) = n1) ∨ (b1 ≠ 0 ∧ 65536 < (out.length : Int))) (hb : n1 ≤ 65536) (h1 : b1 = 0 ∧ ret = n1 ∨ b1 ≠ 0 ∧ ret = -1) : WRC R ret (sc g1 0 n1) := fun out r => by
  rcases x out r with ⟨a, b, c⟩ | ⟨a, b⟩ <;> rcases h1 with ⟨q1, q2⟩ | ⟨q1, q2⟩
  · exact .inl ⟨by omega, by omega, b⟩
  · exact absurd a q1
  · exact absurd q1 a
  · exact .inr ⟨b, q2⟩
theorem WRC_m {R : List Int → Prop} {M : List Int} {b1 n1 ret : Int} {g0 g1 : Int → Int} (hM : ∀ out, R out → out = M) (x : RAP 0 g0 0 b1 g1 n1 M) (hb : 0 ≤ n1 ∧ n1 ≤ 65536) (h1 : b1 = 0 ∧ ret = n1 ∨ b1 ≠ 0 ∧ ret = -1) : WRC R ret (sc g1 0 n1) := by
  have y := x [] RC_0
  rw [List.nil_append] at y
  refine WRC_w (b1 := b1) (fun out r => ?_) hb.2 h1
  rw [hM out r]
  rcases y with ⟨y1, y2⟩ | ⟨y1, y2⟩
  · exact .inl ⟨y1, y2, by rw [← y2, sc_lenI hb.1]; omega⟩
  · exact .inr ⟨by omega, y2⟩
section WRCx
variable {way fl k key step sp h b1 n1 ret : Int} {H L : List Int} {g0 g1 : Int → Int}
theorem WRC_0 (x : PKB way h L 0 g0 0 b1 g1 n1) (hb : 0 ≤ n1 ∧ n1 ≤ 65536) (h1 : b1 = 0 ∧ ret = n1 ∨ b1 ≠ 0 ∧ ret = -1) : WRC (TOB way h L) ret (sc g1 0 n1) := by
  obtain ⟨M, m, r⟩ := x
  exact WRC_m (fun out q => TOB_det q m) r hb h1
theorem WRC_1 (x : PKF way fl k key step H L 0 g0 0 b1 g1 n1) (hb : 0 ≤ n1 ∧ n1 ≤ 65536) (h1 : b1 = 0 ∧ ret = n1 ∨ b1 ≠ 0 ∧ ret = -1) : WRC (TFR way fl k key step H L) ret (sc g1 0 n1) := WRC_w (b1 := b1) (fun out q => PKF_w (ret := ret) x q hb) hb.2 h1
theorem WRC_2 (x : PKG way L 0 g0 0 b1 g1 n1) (hb : 0 ≤ n1 ∧ n1 ≤ 65536) (h1 : b1 = 0 ∧ ret = n1 ∨ b1 ≠ 0 ∧ ret = -1) : WRC (TGB way L) ret (sc g1 0 n1) := by
  obtain ⟨M, m, r⟩ := x
  exact WRC_m (fun out q => TGB_det q m) r hb h1
theorem WRC_3 (x : PKS way step sp L 0 g0 0 b1 g1 n1) (hb : 0 ≤ n1 ∧ n1 ≤ 65536) (h1 : b1 = 0 ∧ ret = n1 ∨ b1 ≠ 0 ∧ ret = -1) : WRC (TGR way step sp L) ret (sc g1 0 n1) := WRC_w (b1 := b1) (fun out q => PKS_w x q hb) hb.2 h1
theorem WRC_4 {F : List Int} (x : RAP 0 g0 0 b1 g1 n1 F) (hb : 0 ≤ n1 ∧ n1 ≤ 65536) (h1 : b1 = 0 ∧ ret = n1 ∨ b1 ≠ 0 ∧ ret = -1) : WRC (fun out => out = F) ret (sc g1 0 n1) := WRC_m (fun out q => q) x hb h1

def MKL (F : Option (List Int)) (ret : Int) (O : List Int) : Prop := (F = none ∧ ret = -1) ∨ ∃ M, F = some M ∧ ((M.length : Int) ≤ 65536 ∧ ret = (M.length : Int) ∧ O = M ∨ 65536 < (M.length : Int) ∧ ret = -1)
theorem MKL_det {F : Option (List Int)} {ret2 : Int} {O O2 : List Int} (x : MKL F ret O) (y : MKL F ret2 O2) : ret = ret2 ∧ (0 ≤ ret → O = O2) := by
  rcases x with ⟨x1, x2⟩ | ⟨M, x1, x⟩ <;> rcases y with ⟨y1, y2⟩ | ⟨M', y1, y⟩
  · exact ⟨by omega, fun q => by omega⟩
  · rw [x1] at y1; cases y1
  · rw [x1] at y1; cases y1
  · rw [x1] at y1
    have e : M = M' := Option.some.inj y1
    subst e
    rcases x with ⟨x1, x2, x3⟩ | ⟨x1, x2⟩ <;> rcases y with ⟨y1, y2, y3⟩ | ⟨y1, y2⟩
    · exact ⟨by omega, fun _ => by rw [x3, y3]⟩
    · omega
    · omega
    · exact ⟨by omega, fun q => by omega⟩
theorem MKL_r {F : Option (List Int)} {n : Int} {g : Int → Int} (x : MKD F ret n g) : MKL F ret (sc g 0 n) := by
  rcases x with x | ⟨M, x1, x⟩
  · exact .inl x
  · refine .inr ⟨M, x1, ?_⟩
    rcases x with ⟨x1, x2⟩ | ⟨x1, x2, x3, x4⟩
    · exact .inr ⟨x2, x1⟩
    · exact .inl ⟨x2, x1, by rw [x3]; exact x4⟩
end WRCx

def kdS (L : List Int) (a : Int) : Int ⊕ Int := if a + 8 ≤ (L.length : Int) ∧ 407710288 ≤ nvl (ap L) a 4 ∧ nvl (ap L) a 4 ≤ 407710303 ∧ nvl (ap L) (a + 4) 4 ≤ (L.length : Int) - a - 8 then .inl (a + 8 + nvl (ap L) (a + 4) 4) else .inr a
def tgA (L : List Int) (a : Int) : Prop := a + 10 ≤ (L.length : Int) ∧ ∀ k, 0 ≤ k → k < 10 → ap L (a + k) = TGm.getD k.toNat 0
noncomputable def knE (L : List Int) (a : Int) : Int := haveI : ∀ p : Prop, Decidable p := Classical.propDecidable; if (L.length : Int) < a + 4 then 0 else if nvl (ap L) a 4 = 407708164 then 1 else if nvl (ap L) a 4 = 4247762216 then 4 else if nvl (ap L) a 4 = 3962610743 then 5 else if tgA L a then 3 else 0
noncomputable def knF (L : List Int) : Int := knE L (LPF 0 (kdS L) 0)
def KNO (L : List Int) (a : Int) : Prop := knF L = knE L (LPF 0 (kdS L) a)
section KNx
variable {L : List Int} {a b n r : Int}
theorem KNO_0 : KNO L 0 := rfl
theorem KNO_s (h : KNO L a) (h1 : a + 8 ≤ (L.length : Int)) (h2 : 407710288 ≤ nvl (ap L) a 4 ∧ nvl (ap L) a 4 ≤ 407710303) (hn : nvl (ap L) (a + 4) 4 = n) (h3 : n ≤ (L.length : Int) - a - 8) (hb : b = a + 8 + n) : KNO L b := by
  subst hn hb
  unfold KNO at h ⊢
  rw [h]
  congr 1
  exact LPF_s (if_pos ⟨h1, h2.1, h2.2, h3⟩)
theorem KNO_e (h : KNO L a) (hc : ¬ (a + 8 ≤ (L.length : Int) ∧ 407710288 ≤ nvl (ap L) a 4 ∧ nvl (ap L) a 4 ≤ 407710303 ∧ nvl (ap L) (a + 4) 4 ≤ (L.length : Int) - a - 8)) : knF L = knE L a := by
  unfold KNO at h
  rw [h]
  congr 1
  exact LPF_e (if_neg hc)
theorem knE_n (h : (L.length : Int) < a + 4) : knE L a = 0 := if_pos h
theorem knE_1 (h : a + 4 ≤ (L.length : Int)) (h1 : nvl (ap L) a 4 = 407708164) : knE L a = 1 := by
  unfold knE
  rw [if_neg (by omega), if_pos h1]
theorem knE_4 (h : a + 4 ≤ (L.length : Int)) (h1 : nvl (ap L) a 4 = 4247762216) : knE L a = 4 := by
  unfold knE
  rw [if_neg (by omega), if_neg (by omega), if_pos h1]
theorem knE_5 (h : a + 4 ≤ (L.length : Int)) (h1 : nvl (ap L) a 4 = 3962610743) : knE L a = 5 := by
  unfold knE
  rw [if_neg (by omega), if_neg (by omega), if_neg (by omega), if_pos h1]
theorem tgA_v (h : tgA L a) : nvl (ap L) a 4 = 1791 := by
  have h0 := h.2 0 (by decide) (by decide)
  have h1 := h.2 1 (by decide) (by decide)
  have h2 := h.2 2 (by decide) (by decide)
  have h3 := h.2 3 (by decide) (by decide)
  rw [Int.add_zero] at h0
  show u8 (ap L a) + 256 * (u8 (ap L (a + 1)) + 256 * (u8 (ap L (a + 1 + 1)) + 256 * (u8 (ap L (a + 1 + 1 + 1)) + 256 * 0))) = 1791
  rw [h0, h1, show a + 1 + 1 = a + 2 by omega, h2, show a + 2 + 1 = a + 3 by omega, h3]
  decide
theorem knE_3 (h : tgA L a) : knE L a = 3 := by
  have v := tgA_v h
  have := h.1
  unfold knE
  rw [if_neg (by omega), if_neg (by omega), if_neg (by omega), if_neg (by omega), if_pos h]
theorem knE_0 (h1 : nvl (ap L) a 4 ≠ 407708164) (h4 : nvl (ap L) a 4 ≠ 4247762216) (h5 : nvl (ap L) a 4 ≠ 3962610743) (h3 : ¬ tgA L a) : knE L a = 0 := by
  by_cases c : (L.length : Int) < a + 4
  · exact knE_n c
  · unfold knE
    rw [if_neg c, if_neg h1, if_neg h4, if_neg h5, if_neg h3]
end KNx


end
section
/-! 23c -/
abbrev C5t := Int × Int × Int × Int × Int
def CN5 (R : RdR) (k : C5t) : Prop := R.2.2.2.1 = k.1 ∧ R.2.2.2.2.1 = k.2.1 ∧ R.2.2.2.2.2.1 = k.2.2.1 ∧ (R.2.2.1.length : Int) = k.2.2.2.1 ∧ R.2.2.2.2.2.2 = k.2.2.2.2
theorem CN5_det {R : RdR} {k q : C5t} (x : CN5 R k) (y : CN5 R q) : k = q := by
  obtain ⟨a1, a2, a3, a4, a5⟩ := x
  obtain ⟨b1, b2, b3, b4, b5⟩ := y
  obtain ⟨k1, k2, k3, k4, k5⟩ := k
  obtain ⟨q1, q2, q3, q4, q5⟩ := q
  show (k1, k2, k3, k4, k5) = (q1, q2, q3, q4, q5)
  rw [← show R.2.2.2.1 = k1 from a1, ← show R.2.2.2.2.1 = k2 from a2, ← show R.2.2.2.2.2.1 = k3 from a3, ← show (R.2.2.1.length : Int) = k4 from a4, ← show R.2.2.2.2.2.2 = k5 from a5, ← show R.2.2.2.1 = q1 from b1, ← show R.2.2.2.2.1 = q2 from b2, ← show R.2.2.2.2.2.1 = q3 from b3, ← show (R.2.2.1.length : Int) = q4 from b4, ← show R.2.2.2.2.2.2 = q5 from b5]

def RWS (R1 R2 : Int → List Int) : Prop := ∀ q, 0 ≤ q → q ≤ 3 → R2 q = R1 q

def RWN (R1 R2 : Int → List Int) (d : Int) (O : List Int) : Prop := R2 d = O ∧ ∀ q, 0 ≤ q → q ≤ 3 → q ≠ d → R2 q = R1 q
def okd (d : Int) : Prop := 0 ≤ d ∧ d ≤ 3
section RWy
variable {R1 R2 S1 S2 : Int → List Int} {d : Int} {O O2 : List Int}
theorem RWS_t (h : RWS R1 S1) (x : RWS R1 R2) (y : RWS S1 S2) : RWS R2 S2 := fun q a b => by rw [y q a b, h q a b, x q a b]
theorem RWN_t (h : RWS R1 S1) (x : RWN R1 R2 d O) (y : RWN S1 S2 d O2) (e : O = O2) : RWS R2 S2 := fun q a b => by
  by_cases c : q = d
  · rw [c, x.1, y.1, e]
  · rw [x.2 q a b c, y.2 q a b c, h q a b]
end RWy

def RDP (R1 R2 : Int → List Int) (d a f m : Int) (H : List Int) (Dc : DcS) (ret p0 p1 : Int) (k0 k1 : C5t) : Prop :=
  (¬ (okd d ∧ okd a ∧ (0 ≤ f ∧ f ≤ 4) ∧ 0 ≤ m ∧ m ≤ 65536) ∧ ret = -50 ∧ RWS R1 R2 ∧ p1 = p0 ∧ k1 = k0) ∨
  ((okd d ∧ okd a ∧ (0 ≤ f ∧ f ≤ 4) ∧ 0 ≤ m ∧ m ≤ 65536) ∧ ∃ O, RDQ f (R1 a) H Dc m ret p1 O ∧ (0 ≤ ret → RWN R1 R2 d O) ∧ (ret < 0 → RWS R1 R2) ∧ (f = 4 → CN5 (RDS (ap (R1 a)) ((R1 a).length : Int) m Dc) k1) ∧ (f ≠ 4 → k1 = k0))
def OPP (R1 R2 : Int → List Int) (d a m : Int) (H : List Int) (Dc : DcS) (ret p0 p1 : Int) (k0 k1 : C5t) : Prop :=
  (¬ (okd d ∧ okd a ∧ 0 ≤ m ∧ m ≤ 65536) ∧ ret = -50 ∧ RWS R1 R2 ∧ p1 = p0 ∧ k1 = k0) ∨
  ((okd d ∧ okd a ∧ 0 ≤ m ∧ m ≤ 65536) ∧ (knF (R1 a) = 0 ∨ knF (R1 a) = 5) ∧ ret = -51 ∧ RWS R1 R2 ∧ p1 = p0 ∧ k1 = k0) ∨
  ((okd d ∧ okd a ∧ 0 ≤ m ∧ m ≤ 65536) ∧ ¬ (knF (R1 a) = 0 ∨ knF (R1 a) = 5) ∧ RDP R1 R2 d a (knF (R1 a)) m H Dc ret p0 p1 k0 k1)
def CMB (f : Int) (O H : List Int) (Dc : DcS) (L : List Int) (r : Int) : Prop := ∃ ret pl O2, RDQ f O H Dc (L.length : Int) ret pl O2 ∧ (r = 1 ∧ ret = (L.length : Int) ∧ O2 = L ∨ r = 0 ∧ ¬ (ret = (L.length : Int) ∧ O2 = L))
theorem CMB_det {f r s : Int} {O H L : List Int} {Dc : DcS} (x : CMB f O H Dc L r) (y : CMB f O H Dc L s) (h4 : f = 4 → 0 ≤ (RDS (ap O) (O.length : Int) (L.length : Int) Dc).1) : r = s := by
  obtain ⟨a, p, M, x1, x2⟩ := x
  obtain ⟨b, q, M', y1, y2⟩ := y
  obtain ⟨u, v, w⟩ := RDQ_det x1 y1 h4
  rcases x2 with ⟨x2, x3, x4⟩ | ⟨x2, x3⟩ <;> rcases y2 with ⟨y2, y3, y4⟩ | ⟨y2, y3⟩
  · omega
  · exact absurd ⟨by omega, by rw [← w (by omega)]; exact x4⟩ y3
  · exact absurd ⟨by omega, by rw [w (by omega)]; exact y4⟩ x3
  · omega

noncomputable def frD (s : Int → Int) (L : List Int) (Dc : DcS) (st : WSt) : List Int × WSt := frW (s 7) (s 8) (s 2) Dc.2.1 Dc.1 L (s 1) (s 0) st
def WRR (f : Int) (s : Int → Int) (L H : List Int) (Dc : DcS) (st : WSt) (out : List Int) : Prop := (f = 0 ∧ TOB (s 0) (H.length : Int) (H ++ L) out) ∨ (f = 1 ∧ TFR (s 0) (s 3) (s 4) (s 5) (s 2) H L out) ∨ (f = 2 ∧ TGB (s 0) L out) ∨ (f = 3 ∧ TGR (s 0) (s 2) (s 6) L out) ∨ (f = 4 ∧ out = (frD s L Dc st).1) ∨ (f = 5 ∧ mkF (s 9 % 4294967296) L (s 1) (s 0) = some out)
def wrA (f : Int) (H : List Int) (Dc : DcS) : Int := if f < 2 then (H.length : Int) else if f = 4 then (Dc.1.length : Int) else 0

def WRX (f : Int) (s : Int → Int) (L H : List Int) (Dc : DcS) (st : WSt) (ret : Int) (O : List Int) : Prop := (f = 5 ∧ MKL (mkF (s 9 % 4294967296) L (s 1) (s 0)) ret O) ∨ (f ≠ 5 ∧ WRL (WRR f s L H Dc st) ret O)
def WRY (f : Int) (s : Int → Int) (L H : List Int) (Dc : DcS) (st : WSt) (ret : Int) (O : List Int) : Prop := (f = 5 ∧ MKL (mkF (s 9 % 4294967296) L (s 1) (s 0)) ret O) ∨ (f ≠ 5 ∧ WRC (WRR f s L H Dc st) ret O)
theorem WRX_det {f ret ret2 : Int} {s : Int → Int} {L H O O2 : List Int} {Dc : DcS} {st : WSt} (x : WRX f s L H Dc st ret O) (y : WRY f s L H Dc st ret2 O2) : ret = ret2 ∧ (0 ≤ ret → O = O2) := by
  rcases x with ⟨a, b⟩ | ⟨a, b⟩ <;> rcases y with ⟨c, d⟩ | ⟨c, d⟩
  · exact MKL_det b d
  · exact absurd a c
  · exact absurd c a
  · exact WR_det b d

def WRP (T : Int → (Int → Int) → List Int → List Int → DcS → WSt → Int → List Int → Prop) (R1 R2 : Int → List Int) (d a f : Int) (s : Int → Int) (H : List Int) (Dc : DcS) (st : WSt) (ret am0 am1 be0 be1 : Int) (c0 c1 : Int → Int) : Prop :=
  (¬ (okd d ∧ okd a ∧ (0 ≤ f ∧ f ≤ 5) ∧ ((R1 a).length : Int) + wrA f H Dc ≤ 16384) ∧ ret = -1 ∧ RWS R1 R2 ∧ am1 = am0 ∧ be1 = be0 ∧ ∀ i, 0 ≤ i → i < 12 → c1 i = c0 i) ∨
  ((okd d ∧ okd a ∧ (0 ≤ f ∧ f ≤ 5) ∧ ((R1 a).length : Int) + wrA f H Dc ≤ 16384) ∧ ∃ O, T f s (R1 a) H Dc st ret O ∧
    ((ret < 0 ∧ RWS R1 R2 ∧ am1 = am0 ∧ be1 = be0 ∧ ∀ i, 0 ≤ i → i < 12 → c1 i = c0 i) ∨
     (0 ≤ ret ∧ RWN R1 R2 d O ∧ be1 = w32 (be0 + (if BNA s f ((R1 a).length : Int) < ret then 1 else 0)) ∧
      ((f = 5 ∧ am1 = am0) ∨ (f ≠ 5 ∧ ∃ r, CMB f O H Dc (R1 a) r ∧ am1 = w32 (am0 + (1 - r)))) ∧
      (f = 4 → ∀ i, 0 ≤ i → i < 12 → c1 i = (frD s (R1 a) Dc st).2.2.2.2 i) ∧ (f ≠ 4 → ∀ i, 0 ≤ i → i < 12 → c1 i = c0 i))))
def LNP (R1 : Int → List Int) (r : Int) (Dc Dc2 : DcS) (ret : Int) : Prop := (¬ okd r ∧ ret = -5 ∧ Dc2 = Dc) ∨ (okd r ∧ ret = (LNF (ap (R1 r)) ((R1 r).length : Int)).1 ∧ Dc2 = LND (LNF (ap (R1 r)) ((R1 r).length : Int)) Dc)
theorem LNP_det {R1 S1 : Int → List Int} {r ret ret2 : Int} {Dc D1 D2 : DcS} (h : RWS R1 S1) (x : LNP R1 r Dc D1 ret) (y : LNP S1 r Dc D2 ret2) : ret = ret2 ∧ D1 = D2 := by
  rcases x with ⟨a1, a2, a3⟩ | ⟨a1, a2, a3⟩ <;> rcases y with ⟨b1, b2, b3⟩ | ⟨b1, b2, b3⟩
  · exact ⟨by omega, by rw [a3, b3]⟩
  · exact absurd b1 a1
  · exact absurd a1 b1
  · rw [h r a1.1 a1.2] at b2 b3
    exact ⟨by rw [a2, b2], by rw [a3, b3]⟩

theorem plY_0 {L : List Int} {m : Int} (h : m = 0) : plY L m = PLS L := if_pos h
theorem plY_1 {L : List Int} {m : Int} (h : m ≠ 0) : plY L m = adI (rtI (PLS L) 17) (-1568478504) := if_neg h
theorem PLS_nil : PLS [] = 0 := by
  rw [PLS_e]
  unfold PLS0
  rw [POL_e]
  decide +kernel
theorem py_sub {x : Int} : sbI x 1568478504 = adI x (-1568478504) := by
  unfold sbI adI
  show (Int32.ofInt x - Int32.ofInt 1568478504).toInt = (Int32.ofInt x + Int32.ofInt (-1568478504)).toInt
  rw [Int32.sub_eq_add_neg, show -Int32.ofInt 1568478504 = Int32.ofInt (-1568478504) by decide]

section RDn
variable {I g : Int → Int} {e r ret pl n : Int} {H : List Int}
theorem RDT_n (x : RDT I e H r ret pl n g) : ret < 0 ∨ ret = n := by
  obtain ⟨f, V, _, a⟩ := x
  omega
theorem RDF_n (x : RDF I e H r ret pl n g) : ret < 0 ∨ ret = n := by
  obtain ⟨f, V, _, a⟩ := x
  omega
theorem RDG_n (x : RDG I e r ret pl n g) : ret < 0 ∨ ret = n := by
  obtain ⟨f, V, _, a⟩ := x
  omega
theorem RDU_n (x : RDU I e r ret pl n g) : ret < 0 ∨ ret = n := by
  obtain ⟨f, V, _, a⟩ := x
  omega
end RDn
theorem rw_ne {out ro si : Int → Int} {n r k v w : Int} (h0 : 0 ≤ k) (h1 : k < n) (h2 : k < si r) (hv : out k = v) (hw : ro (65536 * r + k) = w) (hne : v ≠ w) (rv : 0 ≤ v ∧ v ≤ 255) (rw_ : 0 ≤ w ∧ w ≤ 255) : sc out 0 n ≠ rwR ro si r := fun e => by
  have x := congrArg (fun L => ap L k) e
  have x : ap (sc out 0 n) k = ap (rwR ro si r) k := x
  unfold rwR at x
  rw [ap_sc h0 h1, ap_sc h0 h2] at x
  unfold sh at x
  rw [hv, hw, u8_id rv, u8_id rw_] at x
  exact hne x

def WEQ (wf wi ws : Int) (wd wl wp wo wa : Int → Int) (rf ri rs : Int) (rd rl rp ro ra : Int → Int) : Prop := wf = rf ∧ wi = ri ∧ ws = rs ∧ (∀ i, 0 ≤ i → i < rs → wd i = rd i) ∧ (∀ i, 0 ≤ i → i < 256 → wl i = rl i) ∧ (∀ i, 0 ≤ i → i < 192 → wp i = rp i) ∧ (∀ i, 0 ≤ i → i < 3 → wo i = ro i) ∧ ∀ i, 0 ≤ i → i < 3 → wa i = w32 (ra i)
def LNZ (R1 : Int → List Int) (r : Int) (Dc : DcS) (ret formed did : Int) (dict : Int → Int) (ds : Int) (dl dp dor dla : Int → Int) : Prop := (¬ okd r ∧ ret = -5 ∧ RDI Dc formed did dict ds dl dp dor dla) ∨ (okd r ∧ ret = (LNF (ap (R1 r)) ((R1 r).length : Int)).1 ∧ RDI (LND (LNF (ap (R1 r)) ((R1 r).length : Int)) Dc) formed did dict ds dl dp dor dla)
section LNy
variable {R1 : Int → List Int} {r ret formed did ds n : Int} {Dc : DcS} {I dict dl dp dor dla : Int → Int}
theorem LNZ_y (ho : okd r) (hL : sc I 0 n = R1 r) (hn : 0 ≤ n) (hI : ∀ k, 0 ≤ I k ∧ I k ≤ 255) (x : LNA I n Dc ret formed did dict ds dl dp dor dla) : LNZ R1 r Dc ret formed did dict ds dl dp dor dla := by
  obtain ⟨a, e⟩ := AGB_L hL hn hI
  obtain ⟨x1, x2⟩ := x
  rw [LNF_ag a hn] at x1 x2
  rw [← e] at x1 x2
  exact .inr ⟨ho, x1, x2⟩
end LNy
theorem WEQ_t {wf wi ws rf ri rs sf si ss : Int} {wd wl wp wo wa rd rl rp ro ra sd sl sp so sa : Int → Int} (h : (rf, ri, rs, rd, rl, rp, ro, ra) = (sf, si, ss, sd, sl, sp, so, sa)) (k : WEQ wf wi ws wd wl wp wo wa sf si ss sd sl sp so sa) : WEQ wf wi ws wd wl wp wo wa rf ri rs rd rl rp ro ra := by
  cases h
  exact k

def abF (p : Int) (sh_ : Int → Int) (k : C5t) (h d i w : Int) : Int := if w = 0 then p else if 1 ≤ w ∧ w ≤ 12 then sh_ (w - 1) else if w = 13 then k.1 else if w = 14 then k.2.1 else if w = 15 then k.2.2.1 else if w = 16 then k.2.2.2.1 else if w = 17 then k.2.2.2.2 else if w = 18 then h else if w = 19 then d else if w = 20 then i else -1
section ABx
variable {p h d i w v : Int} {sh_ : Int → Int} {k : C5t}
theorem ab_0 (e : w = 0) (q : v = p) : v = abF p sh_ k h d i w := by rw [q]; exact (if_pos e).symm
theorem ab_s (e : 1 ≤ w ∧ w ≤ 12) (q : sh_ (w - 1) = v) : v = abF p sh_ k h d i w := by
  unfold abF
  rw [if_neg (by omega), if_pos e, q]
theorem ab_k (e : 13 ≤ w ∧ w ≤ 17) (q : w - 13 = 0 ∧ v = k.1 ∨ w - 13 = 1 ∧ v = k.2.1 ∨ w - 13 = 2 ∧ v = k.2.2.1 ∨ w - 13 = 3 ∧ v = k.2.2.2.1 ∨ (w - 13 < 0 ∨ 3 < w - 13) ∧ v = k.2.2.2.2) : v = abF p sh_ k h d i w := by
  unfold abF
  rw [if_neg (by omega), if_neg (by omega)]
  rcases q with ⟨a, b⟩ | ⟨a, b⟩ | ⟨a, b⟩ | ⟨a, b⟩ | ⟨a, b⟩
  · rw [if_pos (by omega), b]
  · rw [if_neg (by omega), if_pos (by omega), b]
  · rw [if_neg (by omega), if_neg (by omega), if_pos (by omega), b]
  · rw [if_neg (by omega), if_neg (by omega), if_neg (by omega), if_pos (by omega), b]
  · rw [if_neg (by omega), if_neg (by omega), if_neg (by omega), if_neg (by omega), if_pos (by omega), b]
theorem ab_18 (e : w = 18) (q : v = h) : v = abF p sh_ k h d i w := by
  unfold abF
  rw [if_neg (by omega), if_neg (by omega), if_neg (by omega), if_neg (by omega), if_neg (by omega), if_neg (by omega), if_neg (by omega), if_pos e, q]
theorem ab_19 (e : w = 19) (q : v = d) : v = abF p sh_ k h d i w := by
  unfold abF
  rw [if_neg (by omega), if_neg (by omega), if_neg (by omega), if_neg (by omega), if_neg (by omega), if_neg (by omega), if_neg (by omega), if_neg (by omega), if_pos e, q]
theorem ab_20 (e : w = 20) (q : v = i) : v = abF p sh_ k h d i w := by
  unfold abF
  rw [if_neg (by omega), if_neg (by omega), if_neg (by omega), if_neg (by omega), if_neg (by omega), if_neg (by omega), if_neg (by omega), if_neg (by omega), if_neg (by omega), if_pos e, q]
theorem ab_n (e : w < 0 ∨ 20 < w) (q : v = -1) : v = abF p sh_ k h d i w := by
  unfold abF
  rw [if_neg (by omega), if_neg (by omega), if_neg (by omega), if_neg (by omega), if_neg (by omega), if_neg (by omega), if_neg (by omega), if_neg (by omega), if_neg (by omega), if_neg (by omega), q]
end ABx


end
section
/-! 23d -/
theorem kn_or {b0 b1 b2 b3 : Int} (h0 : 0 ≤ b0 ∧ b0 ≤ 255) (h1 : 0 ≤ b1 ∧ b1 ≤ 255) (h2 : 0 ≤ b2 ∧ b2 ≤ 255) (h3 : 0 ≤ b3 ∧ b3 ≤ 255) : orJ (orI (orI b0 (b1 * p2 8)) (b2 * p2 16)) (b3 * p2 24) = b0 + 256 * b1 + 65536 * b2 + 16777216 * b3 := by
  have e8 : p2 8 = 256 := by decide
  have e16 : p2 16 = 65536 := by decide
  have e24 : p2 24 = 16777216 := by decide
  rw [orI_shk (by decide) (by rw [e8]; omega) h1.1 (by rw [e8]; omega), orI_shk (k := 16) (by decide) (by rw [e8, e16]; omega) h2.1 (by rw [e8, e16]; omega), orJ_sh (m := 24) (by decide) (by rw [e8, e16, e24]; omega) h3.1 (by rw [e8, e16, e24]; omega), e8, e16, e24]
  omega
theorem nvl4 {f : Int → Int} {a : Int} : nvl f a 4 = u8 (f a) + 256 * u8 (f (a + 1)) + 65536 * u8 (f (a + 2)) + 16777216 * u8 (f (a + 3)) := by
  show u8 (f a) + 256 * (u8 (f (a + 1)) + 256 * (u8 (f (a + 1 + 1)) + 256 * (u8 (f (a + 1 + 1 + 1)) + 256 * 0))) = _
  rw [show a + 1 + 1 = a + 2 by omega, show a + 2 + 1 = a + 3 by omega]
  omega
section NV4
variable {ro si : Int → Int} {r a : Int}
theorem nv4 (h0 : 0 ≤ a) (h1 : a + 4 ≤ si r) (hr : ∀ i, 0 ≤ ro i ∧ ro i ≤ 255) : nvl (ap (rwR ro si r)) a 4 = ro (65536 * r + a) + 256 * ro (65536 * r + a + 1) + 65536 * ro (65536 * r + a + 2) + 16777216 * ro (65536 * r + a + 3) := by
  rw [nvl4, rwR_g h0 (by omega) hr, rwR_g (k := a + 1) (by omega) (by omega) hr, rwR_g (k := a + 2) (by omega) (by omega) hr, rwR_g (k := a + 3) (by omega) (by omega) hr, u8_id (hr _), u8_id (hr _), u8_id (hr _), u8_id (hr _), show 65536 * r + (a + 1) = 65536 * r + a + 1 by omega, show 65536 * r + (a + 2) = 65536 * r + a + 2 by omega, show 65536 * r + (a + 3) = 65536 * r + a + 3 by omega]
theorem nv4v {p0 p1 p2_ p3 v0 v1 v2 v3 : Int} (h0 : 0 ≤ a) (h1 : a + 4 ≤ si r) (hr : ∀ i, 0 ≤ ro i ∧ ro i ≤ 255) (e0 : ro p0 = v0) (q0 : p0 = 65536 * r + a) (e1 : ro p1 = v1) (q1 : p1 = 65536 * r + a + 1) (e2 : ro p2_ = v2) (q2 : p2_ = 65536 * r + a + 2) (e3 : ro p3 = v3) (q3 : p3 = 65536 * r + a + 3) : nvl (ap (rwR ro si r)) a 4 = v0 + 256 * v1 + 65536 * v2 + 16777216 * v3 := by
  subst q0 q1 q2 q3 e0 e1 e2 e3
  exact nv4 h0 h1 hr
end NV4
theorem tgA_of {L : List Int} {a : Int} (h : a + 10 ≤ (L.length : Int)) (h0 : nvl (ap L) a 4 = 1791) (h4 : nvl (ap L) (a + 4) 4 = 1348554355) (h8 : ap L (a + 8) = 112) (h9 : ap L (a + 9) = 89) (hr : ∀ k, 0 ≤ ap L k ∧ ap L k ≤ 255) : tgA L a := by
  rw [nvl4] at h0 h4
  have r0 := hr a
  have r1 := hr (a + 1)
  have r2 := hr (a + 2)
  have r3 := hr (a + 3)
  have r4 := hr (a + 4)
  have r5 := hr (a + 4 + 1)
  have r6 := hr (a + 4 + 2)
  have r7 := hr (a + 4 + 3)
  rw [u8_id r0, u8_id r1, u8_id r2, u8_id r3] at h0
  rw [u8_id r4, u8_id r5, u8_id r6, u8_id r7] at h4
  refine ⟨h, fun k x y => ?_⟩
  rcases (show k = 0 ∨ k = 1 ∨ k = 2 ∨ k = 3 ∨ k = 4 ∨ k = 5 ∨ k = 6 ∨ k = 7 ∨ k = 8 ∨ k = 9 by omega) with e | e | e | e | e | e | e | e | e | e <;> subst e
  · rw [Int.add_zero]; show ap L a = 255; omega
  · show ap L (a + 1) = 6; omega
  · show ap L (a + 2) = 0; omega
  · show ap L (a + 3) = 0; omega
  · show ap L (a + 4) = 115; omega
  · rw [show a + 5 = a + 4 + 1 by omega]; show ap L (a + 4 + 1) = 78; omega
  · rw [show a + 6 = a + 4 + 2 by omega]; show ap L (a + 4 + 2) = 97; omega
  · rw [show a + 7 = a + 4 + 3 by omega]; show ap L (a + 4 + 3) = 80; omega
  · exact h8
  · exact h9
theorem tgA_4 {L : List Int} {a : Int} (h : tgA L a) : nvl (ap L) (a + 4) 4 = 1348554355 ∧ ap L (a + 8) = 112 ∧ ap L (a + 9) = 89 := by
  have h4 := h.2 4 (by decide) (by decide)
  have h5 := h.2 5 (by decide) (by decide)
  have h6 := h.2 6 (by decide) (by decide)
  have h7 := h.2 7 (by decide) (by decide)
  refine ⟨?_, h.2 8 (by decide) (by decide), h.2 9 (by decide) (by decide)⟩
  rw [nvl4, h4, show a + 4 + 1 = a + 5 by omega, show a + 4 + 2 = a + 6 by omega, show a + 4 + 3 = a + 7 by omega, h5, h6, h7]
  decide

def DCE : DcS := ([], 0, (0, fun _ => 0), fun _ => (-1, 0, fun _ => 0), 1, 4, 8)
theorem RDI_E {formed did ds : Int} {dict dl dp dor dla : Int → Int} (h1 : formed = 0) (h2 : did = 0) (h3 : ds = 0) : RDI DCE formed did dict ds dl dp dor dla := by
  subst h1 h2 h3
  exact ⟨(sc_nil (Int.le_refl 0)).symm, rfl, .inl ⟨rfl, rfl, fun _ _ _ => rfl, rfl, rfl, rfl⟩⟩
theorem DCo_E : DCo DCE := ⟨fun _ _ _ => Int.le_refl _, ⟨.inl (by show (-1 : Int) < 0; decide), Int.le_refl _⟩, ⟨.inl (by show (-1 : Int) < 0; decide), Int.le_refl _⟩, ⟨.inl (by show (-1 : Int) < 0; decide), Int.le_refl _⟩⟩
theorem DCo_L {R : Int × DcS} {Dc : DcS} (h : DCo Dc) (k : DCo R.2) : DCo (LND R Dc) := by
  unfold LND
  split
  · exact h
  · exact k
noncomputable def fgD (w : Int) (Dc : DcS) : DcS := if w = 1 then DCE else Dc
def fgH (w : Int) (H : List Int) : List Int := if w = 0 then [] else H

theorem WRX_0 {s : Int → Int} {L H : List Int} {Dc : DcS} {st : WSt} {ret n : Int} {g : Int → Int} (x : WRT (TOB (s 0) (H.length : Int) (H ++ L)) ret n g) : WRX 0 s L H Dc st ret (sc g 0 n) := by
  obtain ⟨out, a, b⟩ := WRL_r x
  exact .inr ⟨by decide, out, .inl ⟨rfl, a⟩, b⟩
theorem WRX_1 {s : Int → Int} {L H : List Int} {Dc : DcS} {st : WSt} {ret n : Int} {g : Int → Int} (x : WRT (TFR (s 0) (s 3) (s 4) (s 5) (s 2) H L) ret n g) : WRX 1 s L H Dc st ret (sc g 0 n) := by
  obtain ⟨out, a, b⟩ := WRL_r x
  exact .inr ⟨by decide, out, .inr (.inl ⟨rfl, a⟩), b⟩
theorem WRX_2 {s : Int → Int} {L H : List Int} {Dc : DcS} {st : WSt} {ret n : Int} {g : Int → Int} (x : WRT (TGB (s 0) L) ret n g) : WRX 2 s L H Dc st ret (sc g 0 n) := by
  obtain ⟨out, a, b⟩ := WRL_r x
  exact .inr ⟨by decide, out, .inr (.inr (.inl ⟨rfl, a⟩)), b⟩
theorem WRX_3 {s : Int → Int} {L H : List Int} {Dc : DcS} {st : WSt} {ret n : Int} {g : Int → Int} (x : WRT (TGR (s 0) (s 2) (s 6) L) ret n g) : WRX 3 s L H Dc st ret (sc g 0 n) := by
  obtain ⟨out, a, b⟩ := WRL_r x
  exact .inr ⟨by decide, out, .inr (.inr (.inr (.inl ⟨rfl, a⟩))), b⟩
theorem WRX_4 {s : Int → Int} {L H : List Int} {Dc : DcS} {st : WSt} {ret n : Int} {g sh_ : Int → Int} (x : PRQ (frD s L Dc st) ret n g sh_) : WRX 4 s L H Dc st ret (sc g 0 n) := by
  refine .inr ⟨by decide, (frD s L Dc st).1, .inr (.inr (.inr (.inr (.inl ⟨rfl, rfl⟩)))), ?_⟩
  rcases x.1 with ⟨a, b⟩ | ⟨a, b, c, d⟩
  · exact .inr ⟨b, a⟩
  · exact .inl ⟨b, a, by rw [c]; exact d⟩
theorem WRX_5 {s : Int → Int} {L H : List Int} {Dc : DcS} {st : WSt} {ret n : Int} {g : Int → Int} (x : MKD (mkF (s 9 % 4294967296) L (s 1) (s 0)) ret n g) : WRX 5 s L H Dc st ret (sc g 0 n) := .inl ⟨rfl, MKL_r x⟩
theorem nb_m4 {x : Int} : nb (x % 4294967296) 4 = nb x 4 := by
  unfold nb
  refine List.map_congr_left (fun i hi => ?_)
  have h4 := List.mem_range.mp hi
  have h4 : i < 4 := h4
  unfold u8
  rcases (show i = 0 ∨ i = 1 ∨ i = 2 ∨ i = 3 by omega) with e | e | e | e <;> subst e
  · rw [show p2 (8 * ((0 : Nat) : Int)) = 1 by decide]; omega
  · rw [show p2 (8 * ((1 : Nat) : Int)) = 256 by decide]; omega
  · rw [show p2 (8 * ((2 : Nat) : Int)) = 65536 by decide]; omega
  · rw [show p2 (8 * ((3 : Nat) : Int)) = 16777216 by decide]; omega

theorem DC_w {Dc : DcS} {wf wi ws rf ri rs : Int} {wd wl wp wo wa rd rl rp ro ra : Int → Int} (h : WEQ wf wi ws wd wl wp wo wa rf ri rs rd rl rp ro ra) (k : RDI Dc rf ri rd rs rl rp ro ra) : Dc.1 = sc wd 0 ws ∧ Dc.2.1 = wi % 4294967296 := by
  obtain ⟨a1, a2, a3, a4, _⟩ := h
  obtain ⟨b1, b2, _⟩ := k
  exact ⟨by rw [b1, a3]; exact (sc_same (fun i x y => a4 i x y)).symm, by rw [b2, a2]⟩
theorem mkF_m {x l w : Int} {L : List Int} : mkF (x % 4294967296) L l w = mkF x L l w := by
  unfold mkF mkG mkL
  rw [nb_m4]
theorem WRT_n2 {R : List Int → Prop} {ret n : Int} {g : Int → Int} (x : WRT R ret n g) : (-1 ≤ ret ∧ ret ≤ 65536) ∧ (ret < 0 ∨ ret = n) := by
  obtain ⟨out, _, x⟩ := x
  omega
theorem PRQ_n {F : List Int × WSt} {ret n : Int} {g sh_ : Int → Int} (x : PRQ F ret n g sh_) : (-1 ≤ ret ∧ ret ≤ 65536) ∧ (ret < 0 ∨ ret = n) := by
  obtain ⟨x, _⟩ := x
  omega
theorem MKD_n2 {F : Option (List Int)} {ret n : Int} {g : Int → Int} (x : MKD F ret n g) : (-1 ≤ ret ∧ ret ≤ 65536) ∧ (ret < 0 ∨ ret = n) := by
  rcases x with ⟨_, x⟩ | ⟨M, _, x⟩
  · omega
  · omega

def DCl (Dc : DcS) : Prop := (1 ≤ Dc.2.2.2.2.1 ∧ Dc.2.2.2.2.1 ≤ 65536) ∧ (1 ≤ Dc.2.2.2.2.2.1 ∧ Dc.2.2.2.2.2.1 ≤ 65536) ∧ 1 ≤ Dc.2.2.2.2.2.2 ∧ Dc.2.2.2.2.2.2 ≤ 65536
theorem DCl_E : DCl DCE := ⟨⟨by decide, by decide⟩, ⟨by decide, by decide⟩, by decide, by decide⟩
theorem DCl_L {I : Int → Int} {n : Int} {Dc : DcS} (hI : ∀ k, 0 ≤ I k ∧ I k ≤ 255) (h : DCl Dc) (hn : 0 ≤ n ∧ n ≤ 65536) : DCl (LND (LNF I n) Dc) := by
  unfold LND
  by_cases c : (LNF I n).1 < 0
  · rw [if_pos c]; exact h
  · rw [if_neg c]
    unfold LNF at c ⊢
    by_cases c1 : n < 4 ∨ nvl I 0 4 ≠ 3962610743
    · rw [if_pos c1]
      exact ⟨⟨by show (1 : Int) ≤ 1; decide, by show (1 : Int) ≤ 65536; decide⟩, ⟨by show (1 : Int) ≤ 4; decide, by show (4 : Int) ≤ 65536; decide⟩, by show (1 : Int) ≤ 8; decide, by show (8 : Int) ≤ 65536; decide⟩
    · rw [if_neg c1] at c ⊢
      by_cases c2 : n < 8
      · rw [if_pos c2] at c; exact absurd (show (-1 : Int) < 0 by decide) c
      · rw [if_neg c2] at c ⊢
        by_cases c3 : (DSF I 8 n).1 = 0
        · rw [if_pos c3] at c; exact absurd (show (-2 : Int) < 0 by decide) c
        · rw [if_neg c3] at c ⊢
          by_cases c4 : (lnS I n 0).1 = 0 ∨ (lnS I n 1).1 = 0 ∨ (lnS I n 2).1 = 0
          · rw [if_pos c4] at c; exact absurd (show (-3 : Int) < 0 by decide) c
          · rw [if_neg c4] at c ⊢
            unfold LN4 at c ⊢
            by_cases c5 : n < lnP I n 3 + 12
            · rw [if_pos c5] at c; exact absurd (show (-1 : Int) < 0 by decide) c
            · rw [if_neg c5] at c ⊢
              by_cases c6 : (nvl I (lnP I n 3) 4 = 0 ∨ n - (lnP I n 3 + 12) < nvl I (lnP I n 3) 4) ∨ (nvl I (lnP I n 3 + 4) 4 = 0 ∨ n - (lnP I n 3 + 12) < nvl I (lnP I n 3 + 4) 4) ∨ (nvl I (lnP I n 3 + 8) 4 = 0 ∨ n - (lnP I n 3 + 12) < nvl I (lnP I n 3 + 8) 4)
              · rw [if_pos c6] at c; exact absurd (show (-4 : Int) < 0 by decide) c
              · rw [if_neg c6]
                have hp0 : 0 ≤ lnP I n 0 := DSF_p hI (by decide)
                have hp1 : 0 ≤ lnP I n 1 := (SHF_p hp0).1
                have hp2 : 0 ≤ lnP I n 2 := (SHF_p hp1).1
                have hp : 0 ≤ lnP I n 3 := (SHF_p hp2).1
                have n0 := nvl_nn I 4 (lnP I n 3)
                have n1 := nvl_nn I 4 (lnP I n 3 + 4)
                have n2 := nvl_nn I 4 (lnP I n 3 + 8)
                exact ⟨⟨by show 1 ≤ nvl I (lnP I n 3) 4; omega, by show nvl I (lnP I n 3) 4 ≤ 65536; omega⟩, ⟨by show 1 ≤ nvl I (lnP I n 3 + 4) 4; omega, by show nvl I (lnP I n 3 + 4) 4 ≤ 65536; omega⟩, by show 1 ≤ nvl I (lnP I n 3 + 8) 4; omega, by show nvl I (lnP I n 3 + 8) 4 ≤ 65536; omega⟩
theorem w32_id {x : Int} (h : inr x) : w32 x = x := toI_ofI h
theorem LTW_of {Dc : DcS} {wf wi ws rf ri rs : Int} {wd wl wp wo wa rd rl rp ro ra : Int → Int} (h : WEQ wf wi ws wd wl wp wo wa rf ri rs rd rl rp ro ra) (k : RDI Dc rf ri rd rs rl rp ro ra) (hl : DCl Dc) : wf = 0 ∨ 1 ≤ wa 0 ∧ 1 ≤ wa 1 ∧ 1 ≤ wa 2 := by
  obtain ⟨a1, _, _, _, _, _, _, a8⟩ := h
  obtain ⟨_, _, k⟩ := k
  rcases k with ⟨k, _⟩ | ⟨k, _, _, _, b0, b1, b2⟩
  · exact .inl (by omega)
  · obtain ⟨l0, l1, l2⟩ := hl
    have e0 := a8 0 (by decide) (by decide)
    have e1 := a8 1 (by decide) (by decide)
    have e2 := a8 2 (by decide) (by decide)
    rw [w32_id (show inr (ra 0) by omega)] at e0
    rw [w32_id (show inr (ra 1) by omega)] at e1
    rw [w32_id (show inr (ra 2) by omega)] at e2
    exact .inr (by omega)
theorem ad_w {a b : Int} : adI a b = w32 (a + b) := by
  unfold adI w32
  rw [Int32.ofInt_add]
  rfl
theorem wrA_e {f v : Int} {H : List Int} {Dc : DcS} (h : f < 2 ∧ v = (H.length : Int) ∨ f = 4 ∧ v = (Dc.1.length : Int) ∨ 2 ≤ f ∧ f ≠ 4 ∧ v = 0) : wrA f H Dc = v := by
  unfold wrA
  rcases h with ⟨a, b⟩ | ⟨a, b⟩ | ⟨a, b, c⟩
  · rw [if_pos a, b]
  · rw [if_neg (by omega), if_pos a, b]
  · rw [if_neg (by omega), if_neg b, c]
theorem RWS_r {R : Int → List Int} : RWS R R := fun _ _ _ => rfl


end
section
/-! 23b -/
section MKLx
variable {n1 ret : Int} {g1 : Int → Int}
theorem MKL_c {F : Option (List Int)} {m : Int} (x : MKC F m (sc g1 0 n1)) (hb : 0 ≤ n1 ∧ n1 ≤ 65536) (h1 : m ≠ 0 ∧ ret = n1 ∨ m = 0 ∧ ret = -1) : MKL F ret (sc g1 0 n1) := by
  rcases x with ⟨x1, x2⟩ | ⟨x1, x2⟩
  · rcases h1 with ⟨q, _⟩ | ⟨_, q⟩
    · exact absurd x1 q
    · exact .inl ⟨x2, q⟩
  · have hl : ((sc g1 0 n1).length : Int) = n1 := by rw [sc_lenI hb.1]; omega
    rcases h1 with ⟨_, q⟩ | ⟨q, _⟩
    · exact .inr ⟨_, x2, .inl ⟨by omega, by omega, rfl⟩⟩
    · omega
end MKLx


end
section
/-! 99a.ref -/
theorem M73p {σ0 σ : rS} {D N : Nat → Nat} {F : hF} {A : hA} {d c s : Nat} {Q : wQ} (H : HS σ0 σ D N F A) {a1 a2 a3 a4 : Int} (w10 : Int → Int) (ew10 : A 10 = w10) (w11 : Int → Int) (ew11 : A 11 = w11) (h0 : inr (a1)) (h1 : inr (a2)) (h2 : inr (a3)) (h3 : inr (a4)) (h4 : (a4) = 0 ∨ (a4) = 1) (k : ∀ (z : Int) σ Fₚ Aₚ, HS σ0 σ D N Fₚ Aₚ → SF [(2, 1)] F Fₚ → SA [] A Aₚ → (inr (z)) → (((0 ≤ (a1) ∧ (a1) ≤ 3) ∧ ((z) : Int) = plY (prL (rwR ((w10)) ((w11)) ((a1))) ((a2)) ((a3))) ((a4)) ∨ ¬ (0 ≤ (a1) ∧ (a1) ≤ 3) ∧ ((z) : Int) = 0)) → Q (some (I z)) σ c s) : Ew 73 (d + 4) 0 (rargs 0 [.ref (D 0), I a1, I a2, I a3, I a4]) [] σ c s Q := by
  have hSz : ∀ i, (0 : Int) ≤ (w11) i ∧ (w11) i ≤ 65536 := fun i => by have h1 : (0 : Int) ≤ A 11 i ∧ A 11 i ≤ 65536 := H.arng 11 i; rw [show A 11 = w11 from ew11] at h1; exact h1
  have hl0 := rwR_len (ro := (w10)) (si := (w11)) (r := (a1)) (hSz ((a1))).1
  have hsa := hSz ((a1))
  refine Ew_of (pcₚ := 1) (fun _ => x_iload_n rfl rfl) ?_
  refine w_stat24 rfl rfl (by rfl) (M56p H (show inr (a1) from h0) (fun z5 σ F1 A2 H hS3 hA4 pz5_0 pz5_1 => ⟨rretB rfl pz5_0, ?_⟩))
  refine w_ifne (t := 9) rfl rfl (show inr (z5) from q_138 pz5_0) (fun b6 => ?_) (fun b6 => ?_)
  · refine Ew_of (pcₚ := 10) (fun _ => x_aload_n rfl rfl) ?_
    refine w_gT H (o := 0) (t := 2) rfl (H.perm 0 rfl) rfl rfl rfl rfl rfl rfl ?_
    refine Ew_of (pcₚ := 15) (fun _ => x_ldc (z := 65536) rfl (by decide)) ?_
    refine Ew_of (pcₚ := 16) (fun _ => x_iload_n rfl rfl) ?_
    refine w_imul rfl ?_
    refine w_inv H (o := 2) rfl rfl rfl (H.perm 2 rfl) rfl rfl (by rfl) (M304b H (show inr ((65536 * a1)) by omega) (fun σ F7 A8 H hS9 hA10 y12 ey13 pz11_0 => ⟨rfl, ?_⟩))
    have r14 : (-2147483648 : Int) ≤ y12 ∧ y12 ≤ 2147483647 := rngE (show (-2147483648 : Int) ≤ F7 2 1 ∧ F7 2 1 ≤ 2147483647 from H.frng 2 1) (show F7 2 1 = y12 from (ey13))
    refine Ew_of (pcₚ := 21) (fun _ => x_aload_n rfl rfl) ?_
    refine Ew_of (pcₚ := 22) (fun _ => x_iload_n rfl rfl) ?_
    refine Ew_of (pcₚ := 23) (fun _ => x_iload_n rfl rfl) ?_
    refine Ew_of (pcₚ := 24) (fun _ => x_iload_n rfl rfl) ?_
    refine w_inv H (o := 0) rfl rfl rfl (H.perm 0 rfl) rfl rfl (by rfl) (M62p H (w11) ((funext (hA10 11 rfl)).trans ((funext (hA4 11 rfl)).trans (ew11))) (show inr (a1) from h0) (show inr (a2) from h1) (show inr (a3) from h2) (show 0 ≤ (a1) ∧ (a1) ≤ 3 by omega) (fun z19 σ F15 A16 H hS17 hA18 pz19_0 pz19_1 => ⟨rretB rfl pz19_0, ?_⟩))
    refine w_ifeq (t := 42) rfl rfl (show inr (z19) from q_138 pz19_0) (fun b20 => ?_) (fun b20 => ?_)
    · refine Ew_of (pcₚ := 43) (fun _ => x_iconst rfl) ?_
      refine Ew_of (pcₚ := 45) (fun _ => x_istore rfl) ?_
      have hP : IMP True (((0) : Int) = PLS (prL (rwR ((w10)) ((w11)) ((a1))) ((a2)) ((a3)))) := by first | exact fun _ => (pzMISS_1).trans (by rw [POL_L (b := (a3)) (by omega) (by omega), pr_sc (f := sh ((w10)) (65536 * (a1))) (n := ((w11)) ((a1))) (L := rwR ((w10)) ((w11)) ((a1))) rfl (by omega), shf_sh, show (y12) = 65536 * (a1) by omega]) | exact fun _ => (by rw [pr_nil (f := sh ((w10)) (65536 * (a1))) (n := ((w11)) ((a1))) (L := rwR ((w10)) ((w11)) ((a1))) rfl (hSz ((a1))).1 (by omega), PLS_nil])
      refine Ew_of (pcₚ := 47) (fun _ => x_iload rfl (rk_o (rfl) rfl rfl)) ?_
      refine w_ifeq (t := 67) rfl rfl (show inr (a4) from h3) (fun b21 => ?_) (fun b21 => ?_)
      · refine Ew_of (pcₚ := 69) (fun _ => x_iload rfl rk_s) ?_
        have : ((0 ≤ (a1) ∧ (a1) ≤ 3) ∧ ((0) : Int) = plY (prL (rwR ((w10)) ((w11)) ((a1))) ((a2)) ((a3))) ((a4)) ∨ ¬ (0 ≤ (a1) ∧ (a1) ≤ 3) ∧ ((0) : Int) = 0) := by first | exact .inl ⟨by omega, (hP trivial).trans (plY_0 (by omega)).symm⟩ | exact .inl ⟨by omega, by rw [plY_1 (by omega), ← hP trivial, ← py_sub]; rfl⟩
        exact w_ireturn rfl (k (0) σ _ _ H (SF_trans (SF_trans (SF_trans (SF_refl) hS3 (any_sub rfl)) hS9 (any_sub rfl)) hS17 (any_sub rfl)) (SA_trans (SA_trans (SA_trans (SA_refl) hA4 (any_subA rfl)) hA10 (any_subA rfl)) hA18 (any_subA rfl)) (show inr (0) from q_2) (show ((0 ≤ a1 ∧ a1 ≤ 3) ∧ ((0) : Int) = plY (prL (rwR ((w10)) ((w11)) (a1)) (a2) (a3)) (a4) ∨ ¬ (0 ≤ a1 ∧ a1 ≤ 3) ∧ ((0) : Int) = 0) by assumption))
      · refine Ew_of (pcₚ := 52) (fun _ => x_iload rfl rk_s) ?_
        refine Ew_of (pcₚ := 54) (fun _ => x_bipush (z := 17) rfl (by decide)) ?_
        refine w_ishlE rfl ?_
        have g22 : inr (slI (0) (17)) := toI_inr _
        refine Ew_of (pcₚ := 57) (fun _ => x_iload rfl rk_s) ?_
        refine Ew_of (pcₚ := 59) (fun _ => x_bipush (z := 15) rfl (by decide)) ?_
        refine w_iushrE rfl ?_
        have g23 : inr (usI (0) (15)) := toI_inr _
        refine w_iorE rfl ?_
        have g24 : inr (orI ((slI (0) (17))) ((usI (0) (15)))) := toI_inr _
        refine Ew_of (pcₚ := 63) (fun _ => x_ldc (z := 1568478504) rfl (by decide)) ?_
        refine w_isubE rfl ?_
        have g25 : inr (sbI ((orI ((slI (0) (17))) ((usI (0) (15))))) (1568478504)) := toI_inr _
        refine Ew_of (pcₚ := 69) (fun _ => x_goto rfl rfl) ?_
        have : ((0 ≤ (a1) ∧ (a1) ≤ 3) ∧ (((sbI ((orI ((slI (0) (17))) ((usI (0) (15))))) (1568478504))) : Int) = plY (prL (rwR ((w10)) ((w11)) ((a1))) ((a2)) ((a3))) ((a4)) ∨ ¬ (0 ≤ (a1) ∧ (a1) ≤ 3) ∧ (((sbI ((orI ((slI (0) (17))) ((usI (0) (15))))) (1568478504))) : Int) = 0) := by first | exact .inl ⟨by omega, (hP trivial).trans (plY_0 (by omega)).symm⟩ | exact .inl ⟨by omega, by rw [plY_1 (by omega), ← hP trivial, ← py_sub]; rfl⟩
        exact w_ireturn rfl (k ((sbI ((orI ((slI (0) (17))) ((usI (0) (15))))) (1568478504))) σ _ _ H (SF_trans (SF_trans (SF_trans (SF_refl) hS3 (any_sub rfl)) hS9 (any_sub rfl)) hS17 (any_sub rfl)) (SA_trans (SA_trans (SA_trans (SA_refl) hA4 (any_subA rfl)) hA10 (any_subA rfl)) hA18 (any_subA rfl)) (show inr ((sbI ((orI ((slI (0) (17))) ((usI (0) (15))))) (1568478504))) from g25) (show ((0 ≤ a1 ∧ a1 ≤ 3) ∧ (((sbI ((orI ((slI (0) (17))) ((usI (0) (15))))) (1568478504))) : Int) = plY (prL (rwR ((w10)) ((w11)) (a1)) (a2) (a3)) (a4) ∨ ¬ (0 ≤ a1 ∧ a1 ≤ 3) ∧ (((sbI ((orI ((slI (0) (17))) ((usI (0) (15))))) (1568478504))) : Int) = 0) by assumption))
    · refine Ew_of (pcₚ := 31) (fun _ => x_aload_n rfl rfl) ?_
      refine w_gT H (o := 0) (t := 2) rfl (H.perm 0 rfl) rfl rfl rfl rfl rfl rfl ?_
      refine Ew_of (pcₚ := 35) (fun _ => x_iload_n rfl rfl) ?_
      refine Ew_of (pcₚ := 36) (fun _ => x_iload_n rfl rfl) ?_
      refine w_inv H (o := 2) rfl rfl rfl (H.perm 2 rfl) rfl rfl (by rfl) (M318 H (y12) (((hS17 2 1 rfl).trans (ey13))) (w10) ((funext (hA18 10 rfl)).trans ((funext (hA10 10 rfl)).trans ((funext (hA4 10 rfl)).trans (ew10)))) (show inr (a2) from h1) (show inr (a3) from h2) (show 0 ≤ (y12) ∧ (y12) ≤ 196608 by omega) (show 0 ≤ (a2) ∧ (a2) ≤ (a3) ∧ (a3) ≤ 65536 by omega) (fun z30 σ F26 A27 H hS28 hA29 pz30_0 pz30_1 => ⟨rfl, ?_⟩))
      refine Ew_of (pcₚ := 43) (fun _ => x_goto rfl rfl) ?_
      refine Ew_of (pcₚ := 45) (fun _ => x_istore rfl) ?_
      have hP : IMP True (((z30) : Int) = PLS (prL (rwR ((w10)) ((w11)) ((a1))) ((a2)) ((a3)))) := by first | exact fun _ => (pz30_1).trans (by rw [POL_L (b := (a3)) (by omega) (by omega), pr_sc (f := sh ((w10)) (65536 * (a1))) (n := ((w11)) ((a1))) (L := rwR ((w10)) ((w11)) ((a1))) rfl (by omega), shf_sh, show (y12) = 65536 * (a1) by omega]) | exact fun _ => (by rw [pr_nil (f := sh ((w10)) (65536 * (a1))) (n := ((w11)) ((a1))) (L := rwR ((w10)) ((w11)) ((a1))) rfl (hSz ((a1))).1 (by omega), PLS_nil])
      refine Ew_of (pcₚ := 47) (fun _ => x_iload rfl (rk_o (rfl) rfl rfl)) ?_
      refine w_ifeq (t := 67) rfl rfl (show inr (a4) from h3) (fun b31 => ?_) (fun b31 => ?_)
      · refine Ew_of (pcₚ := 69) (fun _ => x_iload rfl rk_s) ?_
        have : ((0 ≤ (a1) ∧ (a1) ≤ 3) ∧ ((z30) : Int) = plY (prL (rwR ((w10)) ((w11)) ((a1))) ((a2)) ((a3))) ((a4)) ∨ ¬ (0 ≤ (a1) ∧ (a1) ≤ 3) ∧ ((z30) : Int) = 0) := by first | exact .inl ⟨by omega, (hP trivial).trans (plY_0 (by omega)).symm⟩ | exact .inl ⟨by omega, by rw [plY_1 (by omega), ← hP trivial, ← py_sub]; rfl⟩
        exact w_ireturn rfl (k (z30) σ _ _ H (SF_trans (SF_trans (SF_trans (SF_trans (SF_refl) hS3 (any_sub rfl)) hS9 (any_sub rfl)) hS17 (any_sub rfl)) hS28 (any_sub rfl)) (SA_trans (SA_trans (SA_trans (SA_trans (SA_refl) hA4 (any_subA rfl)) hA10 (any_subA rfl)) hA18 (any_subA rfl)) hA29 (any_subA rfl)) (show inr (z30) from pz30_0) (show ((0 ≤ a1 ∧ a1 ≤ 3) ∧ ((z30) : Int) = plY (prL (rwR ((w10)) ((w11)) (a1)) (a2) (a3)) (a4) ∨ ¬ (0 ≤ a1 ∧ a1 ≤ 3) ∧ ((z30) : Int) = 0) by assumption))
      · refine Ew_of (pcₚ := 52) (fun _ => x_iload rfl rk_s) ?_
        refine Ew_of (pcₚ := 54) (fun _ => x_bipush (z := 17) rfl (by decide)) ?_
        refine w_ishlE rfl ?_
        have g32 : inr (slI (z30) (17)) := toI_inr _
        refine Ew_of (pcₚ := 57) (fun _ => x_iload rfl rk_s) ?_
        refine Ew_of (pcₚ := 59) (fun _ => x_bipush (z := 15) rfl (by decide)) ?_
        refine w_iushrE rfl ?_
        have g33 : inr (usI (z30) (15)) := toI_inr _
        refine w_iorE rfl ?_
        have g34 : inr (orI ((slI (z30) (17))) ((usI (z30) (15)))) := toI_inr _
        refine Ew_of (pcₚ := 63) (fun _ => x_ldc (z := 1568478504) rfl (by decide)) ?_
        refine w_isubE rfl ?_
        have g35 : inr (sbI ((orI ((slI (z30) (17))) ((usI (z30) (15))))) (1568478504)) := toI_inr _
        refine Ew_of (pcₚ := 69) (fun _ => x_goto rfl rfl) ?_
        have : ((0 ≤ (a1) ∧ (a1) ≤ 3) ∧ (((sbI ((orI ((slI (z30) (17))) ((usI (z30) (15))))) (1568478504))) : Int) = plY (prL (rwR ((w10)) ((w11)) ((a1))) ((a2)) ((a3))) ((a4)) ∨ ¬ (0 ≤ (a1) ∧ (a1) ≤ 3) ∧ (((sbI ((orI ((slI (z30) (17))) ((usI (z30) (15))))) (1568478504))) : Int) = 0) := by first | exact .inl ⟨by omega, (hP trivial).trans (plY_0 (by omega)).symm⟩ | exact .inl ⟨by omega, by rw [plY_1 (by omega), ← hP trivial, ← py_sub]; rfl⟩
        exact w_ireturn rfl (k ((sbI ((orI ((slI (z30) (17))) ((usI (z30) (15))))) (1568478504))) σ _ _ H (SF_trans (SF_trans (SF_trans (SF_trans (SF_refl) hS3 (any_sub rfl)) hS9 (any_sub rfl)) hS17 (any_sub rfl)) hS28 (any_sub rfl)) (SA_trans (SA_trans (SA_trans (SA_trans (SA_refl) hA4 (any_subA rfl)) hA10 (any_subA rfl)) hA18 (any_subA rfl)) hA29 (any_subA rfl)) (show inr ((sbI ((orI ((slI (z30) (17))) ((usI (z30) (15))))) (1568478504))) from g35) (show ((0 ≤ a1 ∧ a1 ≤ 3) ∧ (((sbI ((orI ((slI (z30) (17))) ((usI (z30) (15))))) (1568478504))) : Int) = plY (prL (rwR ((w10)) ((w11)) (a1)) (a2) (a3)) (a4) ∨ ¬ (0 ≤ a1 ∧ a1 ≤ 3) ∧ (((sbI ((orI ((slI (z30) (17))) ((usI (z30) (15))))) (1568478504))) : Int) = 0) by assumption))
  · refine Ew_of (pcₚ := 8) (fun _ => x_iconst rfl) ?_
    have : ((0 ≤ (a1) ∧ (a1) ≤ 3) ∧ (0 : Int) = plY (prL (rwR ((w10)) ((w11)) ((a1))) ((a2)) ((a3))) ((a4)) ∨ ¬ (0 ≤ (a1) ∧ (a1) ≤ 3) ∧ (0 : Int) = 0) := .inr ⟨by omega, rfl⟩
    exact w_ireturn rfl (k (0) σ _ _ H (SF_trans (SF_refl) hS3 (any_sub rfl)) (SA_trans (SA_refl) hA4 (any_subA rfl)) (show inr (0) from q_2) (show ((0 ≤ a1 ∧ a1 ≤ 3) ∧ ((0) : Int) = plY (prL (rwR ((w10)) ((w11)) (a1)) (a2) (a3)) (a4) ∨ ¬ (0 ≤ a1 ∧ a1 ≤ 3) ∧ ((0) : Int) = 0) by assumption))

theorem M83p {σ0 σ : rS} {D N : Nat → Nat} {F : hF} {A : hA} {d c s : Nat} {Q : wQ} (H : HS σ0 σ D N F A) {a1 : Int} (u5_27 : Int) (eu5_27 : F 5 27 = u5_27) (u5_32 : Int) (eu5_32 : F 5 32 = u5_32) (u5_33 : Int) (eu5_33 : F 5 33 = u5_33) (u5_34 : Int) (eu5_34 : F 5 34 = u5_34) (u5_36 : Int) (eu5_36 : F 5 36 = u5_36) (h0 : inr (a1)) (k : ∀ (z : Int) σ Fₚ Aₚ, HS σ0 σ D N Fₚ Aₚ → SF [] F Fₚ → SA [] A Aₚ → (inr (z)) → ((a1) = 3 → 0 ≤ (z) ∧ (z) ≤ 65536) → (((a1) = 0 ∧ (z) = (u5_32) ∨ (a1) = 1 ∧ (z) = (u5_33) ∨ (a1) = 2 ∧ (z) = (u5_34) ∨ (a1) = 3 ∧ (z) = (u5_27) ∨ ((a1) < 0 ∨ 3 < (a1)) ∧ (z) = (u5_36))) → Q (some (I z)) σ c s) : Ew 83 (d + 0) 0 (rargs 0 [.ref (D 0), I a1]) [] σ c s Q := by
  have r1 : (0 : Int) ≤ u5_27 ∧ u5_27 ≤ 65536 := rngE (show (0 : Int) ≤ F 5 27 ∧ F 5 27 ≤ 65536 from H.frng 5 27) (show F 5 27 = u5_27 from (eu5_27))
  have r2 : (-2147483648 : Int) ≤ u5_32 ∧ u5_32 ≤ 2147483647 := rngE (show (-2147483648 : Int) ≤ F 5 32 ∧ F 5 32 ≤ 2147483647 from H.frng 5 32) (show F 5 32 = u5_32 from (eu5_32))
  have r3 : (-2147483648 : Int) ≤ u5_33 ∧ u5_33 ≤ 2147483647 := rngE (show (-2147483648 : Int) ≤ F 5 33 ∧ F 5 33 ≤ 2147483647 from H.frng 5 33) (show F 5 33 = u5_33 from (eu5_33))
  have r4 : (-2147483648 : Int) ≤ u5_34 ∧ u5_34 ≤ 2147483647 := rngE (show (-2147483648 : Int) ≤ F 5 34 ∧ F 5 34 ≤ 2147483647 from H.frng 5 34) (show F 5 34 = u5_34 from (eu5_34))
  have r5 : (-2147483648 : Int) ≤ u5_36 ∧ u5_36 ≤ 2147483647 := rngE (show (-2147483648 : Int) ≤ F 5 36 ∧ F 5 36 ≤ 2147483647 from H.frng 5 36) (show F 5 36 = u5_36 from (eu5_36))
  refine Ew_of (pcₚ := 1) (fun _ => x_iload_n rfl rfl) ?_
  refine w_ifne (t := 14) rfl rfl (show inr (a1) from h0) (fun b6 => ?_) (fun b6 => ?_)
  · refine Ew_of (pcₚ := 15) (fun _ => x_iload_n rfl rfl) ?_
    refine Ew_of (pcₚ := 16) (fun _ => x_iconst rfl) ?_
    refine w_icmpne (t := 29) rfl rfl (show inr (a1) from h0) (show inr (1) from q_135) (fun b7 => ?_) (fun b7 => ?_)
    · refine Ew_of (pcₚ := 30) (fun _ => x_iload_n rfl rfl) ?_
      refine Ew_of (pcₚ := 31) (fun _ => x_iconst rfl) ?_
      refine w_icmpne (t := 44) rfl rfl (show inr (a1) from h0) (show inr (2) from q_122) (fun b8 => ?_) (fun b8 => ?_)
      · refine Ew_of (pcₚ := 45) (fun _ => x_iload_n rfl rfl) ?_
        refine Ew_of (pcₚ := 46) (fun _ => x_iconst rfl) ?_
        refine w_icmpne (t := 59) rfl rfl (show inr (a1) from h0) (show inr (3) from q_246) (fun b9 => ?_) (fun b9 => ?_)
        · refine Ew_of (pcₚ := 60) (fun _ => x_aload_n rfl rfl) ?_
          refine w_gT H (o := 0) (t := 5) rfl (H.perm 0 rfl) rfl rfl rfl rfl rfl rfl ?_
          refine w_gI H (o := 5) (w := u5_36) rfl (H.perm 5 rfl) rfl rfl rfl (fun _ => rfl) (eu5_36) ?_
          exact w_ireturn rfl (k (u5_36) σ _ _ H (SF_refl) (SA_refl) (show inr (u5_36) from q_18 r5) (show a1 = 3 → 0 ≤ (u5_36) ∧ (u5_36) ≤ 65536 by omega) (show (a1 = 0 ∧ (u5_36) = (u5_32) ∨ a1 = 1 ∧ (u5_36) = (u5_33) ∨ a1 = 2 ∧ (u5_36) = (u5_34) ∨ a1 = 3 ∧ (u5_36) = (u5_27) ∨ (a1 < 0 ∨ 3 < a1) ∧ (u5_36) = (u5_36)) by omega))
        · refine Ew_of (pcₚ := 50) (fun _ => x_aload_n rfl rfl) ?_
          refine w_gT H (o := 0) (t := 5) rfl (H.perm 0 rfl) rfl rfl rfl rfl rfl rfl ?_
          refine w_gI H (o := 5) (w := u5_27) rfl (H.perm 5 rfl) rfl rfl rfl (fun _ => rfl) (eu5_27) ?_
          refine Ew_of (pcₚ := 66) (fun _ => x_goto rfl rfl) ?_
          exact w_ireturn rfl (k (u5_27) σ _ _ H (SF_refl) (SA_refl) (show inr (u5_27) from q_286 r1) (show a1 = 3 → 0 ≤ (u5_27) ∧ (u5_27) ≤ 65536 from q_2306 r1) (show (a1 = 0 ∧ (u5_27) = (u5_32) ∨ a1 = 1 ∧ (u5_27) = (u5_33) ∨ a1 = 2 ∧ (u5_27) = (u5_34) ∨ a1 = 3 ∧ (u5_27) = (u5_27) ∨ (a1 < 0 ∨ 3 < a1) ∧ (u5_27) = (u5_36)) from q_4993 b9))
      · refine Ew_of (pcₚ := 35) (fun _ => x_aload_n rfl rfl) ?_
        refine w_gT H (o := 0) (t := 5) rfl (H.perm 0 rfl) rfl rfl rfl rfl rfl rfl ?_
        refine w_gI H (o := 5) (w := u5_34) rfl (H.perm 5 rfl) rfl rfl rfl (fun _ => rfl) (eu5_34) ?_
        refine Ew_of (pcₚ := 66) (fun _ => x_goto rfl rfl) ?_
        exact w_ireturn rfl (k (u5_34) σ _ _ H (SF_refl) (SA_refl) (show inr (u5_34) from q_18 r4) (show a1 = 3 → 0 ≤ (u5_34) ∧ (u5_34) ≤ 65536 from q_2307 b8 r4) (show (a1 = 0 ∧ (u5_34) = (u5_32) ∨ a1 = 1 ∧ (u5_34) = (u5_33) ∨ a1 = 2 ∧ (u5_34) = (u5_34) ∨ a1 = 3 ∧ (u5_34) = (u5_27) ∨ (a1 < 0 ∨ 3 < a1) ∧ (u5_34) = (u5_36)) from q_4994 b8))
    · refine Ew_of (pcₚ := 20) (fun _ => x_aload_n rfl rfl) ?_
      refine w_gT H (o := 0) (t := 5) rfl (H.perm 0 rfl) rfl rfl rfl rfl rfl rfl ?_
      refine w_gI H (o := 5) (w := u5_33) rfl (H.perm 5 rfl) rfl rfl rfl (fun _ => rfl) (eu5_33) ?_
      refine Ew_of (pcₚ := 66) (fun _ => x_goto rfl rfl) ?_
      exact w_ireturn rfl (k (u5_33) σ _ _ H (SF_refl) (SA_refl) (show inr (u5_33) from q_18 r3) (show a1 = 3 → 0 ≤ (u5_33) ∧ (u5_33) ≤ 65536 from q_2308 b7 r3) (show (a1 = 0 ∧ (u5_33) = (u5_32) ∨ a1 = 1 ∧ (u5_33) = (u5_33) ∨ a1 = 2 ∧ (u5_33) = (u5_34) ∨ a1 = 3 ∧ (u5_33) = (u5_27) ∨ (a1 < 0 ∨ 3 < a1) ∧ (u5_33) = (u5_36)) from q_4995 b7))
  · refine Ew_of (pcₚ := 5) (fun _ => x_aload_n rfl rfl) ?_
    refine w_gT H (o := 0) (t := 5) rfl (H.perm 0 rfl) rfl rfl rfl rfl rfl rfl ?_
    refine w_gI H (o := 5) (w := u5_32) rfl (H.perm 5 rfl) rfl rfl rfl (fun _ => rfl) (eu5_32) ?_
    refine Ew_of (pcₚ := 66) (fun _ => x_goto rfl rfl) ?_
    exact w_ireturn rfl (k (u5_32) σ _ _ H (SF_refl) (SA_refl) (show inr (u5_32) from q_18 r2) (show a1 = 3 → 0 ≤ (u5_32) ∧ (u5_32) ≤ 65536 from q_2309 b6 r2) (show (a1 = 0 ∧ (u5_32) = (u5_32) ∨ a1 = 1 ∧ (u5_32) = (u5_33) ∨ a1 = 2 ∧ (u5_32) = (u5_34) ∨ a1 = 3 ∧ (u5_32) = (u5_27) ∨ (a1 < 0 ∨ 3 < a1) ∧ (u5_32) = (u5_36)) from q_4996 b6))

theorem M67p {σ0 σ : rS} {D N : Nat → Nat} {F : hF} {A : hA} {d c s : Nat} {Q : wQ} (H : HS σ0 σ D N F A) {a1 a2 a3 : Int} (h0 : inr (a1)) (h1 : inr (a2)) (h2 : inr (a3)) (k : ∀ (z : Int) σ Fₚ Aₚ, HS σ0 σ D N Fₚ Aₚ → SF [] F Fₚ → SA [] A Aₚ → ((z) = 0 ∨ (z) = 1) → ((z) = 1 ∧ (a2) ≤ (a1) ∧ (a1) ≤ (a3) ∨ (z) = 0 ∧ ((a1) < (a2) ∨ (a3) < (a1))) → Q (some (I z)) σ c s) : Ew 67 (d + 0) 0 (rargs 0 [I a1, I a2, I a3]) [] σ c s Q := by
  refine Ew_of (pcₚ := 1) (fun _ => x_iload_n rfl rfl) ?_
  refine Ew_of (pcₚ := 2) (fun _ => x_iload_n rfl rfl) ?_
  refine w_icmplt (t := 14) rfl rfl (show inr (a1) from h0) (show inr (a2) from h1) (fun b1 => ?_) (fun b1 => ?_)
  · refine Ew_of (pcₚ := 15) (fun _ => x_iconst rfl) ?_
    exact w_ireturn rfl (k (0) σ _ _ H (SF_refl) (SA_refl) (show (0) = 0 ∨ (0) = 1 by first | exact q_45 | omega) (show (0) = 1 ∧ a2 ≤ a1 ∧ a1 ≤ a3 ∨ (0) = 0 ∧ (a1 < a2 ∨ a3 < a1) by first | exact q_4997 b1 | omega))
  · refine Ew_of (pcₚ := 6) (fun _ => x_iload_n rfl rfl) ?_
    refine Ew_of (pcₚ := 7) (fun _ => x_iload_n rfl rfl) ?_
    refine w_icmpgt (t := 14) rfl rfl (show inr (a1) from h0) (show inr (a3) from h2) (fun b2 => ?_) (fun b2 => ?_)
    · refine Ew_of (pcₚ := 15) (fun _ => x_iconst rfl) ?_
      exact w_ireturn rfl (k (0) σ _ _ H (SF_refl) (SA_refl) (show (0) = 0 ∨ (0) = 1 by first | exact q_45 | omega) (show (0) = 1 ∧ a2 ≤ a1 ∧ a1 ≤ a3 ∨ (0) = 0 ∧ (a1 < a2 ∨ a3 < a1) by first | exact q_4998 b2 | omega))
    · refine Ew_of (pcₚ := 11) (fun _ => x_iconst rfl) ?_
      refine Ew_of (pcₚ := 15) (fun _ => x_goto rfl rfl) ?_
      exact w_ireturn rfl (k (1) σ _ _ H (SF_refl) (SA_refl) (show (1) = 0 ∨ (1) = 1 by first | exact q_49 | omega) (show (1) = 1 ∧ a2 ≤ a1 ∧ a1 ≤ a3 ∨ (1) = 0 ∧ (a1 < a2 ∨ a3 < a1) by first | exact q_4999 b1 b2 | omega))

theorem M90p {σ0 σ : rS} {D N : Nat → Nat} {F : hF} {A : hA} {d c s : Nat} {Q : wQ} (H : HS σ0 σ D N F A) {a1 : Int} (u0_9 : Int) (eu0_9 : F 0 9 = u0_9) (u3_2 : Int) (eu3_2 : F 3 2 = u3_2) (u5_2 : Int) (eu5_2 : F 5 2 = u5_2) (u5_3 : Int) (eu5_3 : F 5 3 = u5_3) (u5_27 : Int) (eu5_27 : F 5 27 = u5_27) (u5_32 : Int) (eu5_32 : F 5 32 = u5_32) (u5_33 : Int) (eu5_33 : F 5 33 = u5_33) (u5_34 : Int) (eu5_34 : F 5 34 = u5_34) (u5_36 : Int) (eu5_36 : F 5 36 = u5_36) (w88 : Int → Int) (ew88 : A 88 = w88) (h0 : inr (a1)) (k : ∀ (z : Int) σ Fₚ Aₚ, HS σ0 σ D N Fₚ Aₚ → SF [] F Fₚ → SA [] A Aₚ → (inr (z)) → (((z) : Int) = abF ((u0_9)) ((w88)) ((u5_32), (u5_33), (u5_34), (u5_27), (u5_36)) ((u3_2)) ((u5_2)) ((u5_3)) ((a1))) → Q (some (I z)) σ c s) : Ew 90 (d + 1) 0 (rargs 0 [.ref (D 0), I a1]) [] σ c s Q := by
  have r1 : (-2147483648 : Int) ≤ u0_9 ∧ u0_9 ≤ 2147483647 := rngE (show (-2147483648 : Int) ≤ F 0 9 ∧ F 0 9 ≤ 2147483647 from H.frng 0 9) (show F 0 9 = u0_9 from (eu0_9))
  have r2 : (0 : Int) ≤ u3_2 ∧ u3_2 ≤ 65536 := rngE (show (0 : Int) ≤ F 3 2 ∧ F 3 2 ≤ 65536 from H.frng 3 2) (show F 3 2 = u3_2 from (eu3_2))
  have r3 : (0 : Int) ≤ u5_2 ∧ u5_2 ≤ 65536 := rngE (show (0 : Int) ≤ F 5 2 ∧ F 5 2 ≤ 65536 from H.frng 5 2) (show F 5 2 = u5_2 from (eu5_2))
  have r4 : (-2147483648 : Int) ≤ u5_3 ∧ u5_3 ≤ 2147483647 := rngE (show (-2147483648 : Int) ≤ F 5 3 ∧ F 5 3 ≤ 2147483647 from H.frng 5 3) (show F 5 3 = u5_3 from (eu5_3))
  have r5 : (0 : Int) ≤ u5_27 ∧ u5_27 ≤ 65536 := rngE (show (0 : Int) ≤ F 5 27 ∧ F 5 27 ≤ 65536 from H.frng 5 27) (show F 5 27 = u5_27 from (eu5_27))
  have r6 : (-2147483648 : Int) ≤ u5_32 ∧ u5_32 ≤ 2147483647 := rngE (show (-2147483648 : Int) ≤ F 5 32 ∧ F 5 32 ≤ 2147483647 from H.frng 5 32) (show F 5 32 = u5_32 from (eu5_32))
  have r7 : (-2147483648 : Int) ≤ u5_33 ∧ u5_33 ≤ 2147483647 := rngE (show (-2147483648 : Int) ≤ F 5 33 ∧ F 5 33 ≤ 2147483647 from H.frng 5 33) (show F 5 33 = u5_33 from (eu5_33))
  have r8 : (-2147483648 : Int) ≤ u5_34 ∧ u5_34 ≤ 2147483647 := rngE (show (-2147483648 : Int) ≤ F 5 34 ∧ F 5 34 ≤ 2147483647 from H.frng 5 34) (show F 5 34 = u5_34 from (eu5_34))
  have r9 : (-2147483648 : Int) ≤ u5_36 ∧ u5_36 ≤ 2147483647 := rngE (show (-2147483648 : Int) ≤ F 5 36 ∧ F 5 36 ≤ 2147483647 from H.frng 5 36) (show F 5 36 = u5_36 from (eu5_36))
  refine Ew_of (pcₚ := 1) (fun _ => x_iload_n rfl rfl) ?_
  refine w_ifne (t := 9) rfl rfl (show inr (a1) from h0) (fun b10 => ?_) (fun b10 => ?_)
  · refine Ew_of (pcₚ := 10) (fun _ => x_iload_n rfl rfl) ?_
    refine Ew_of (pcₚ := 11) (fun _ => x_iconst rfl) ?_
    refine Ew_of (pcₚ := 13) (fun _ => x_bipush (z := 12) rfl (by decide)) ?_
    refine w_stat24 rfl rfl (by rfl) (M67p H (show inr (a1) from h0) (show inr (1) from q_135) (show inr (12) from q_599) (fun z15 σ F11 A12 H hS13 hA14 pz15_0 pz15_1 => ⟨rretB rfl pz15_0, ?_⟩))
    refine w_ifeq (t := 31) rfl rfl (show inr (z15) from q_138 pz15_0) (fun b16 => ?_) (fun b16 => ?_)
    · refine Ew_of (pcₚ := 32) (fun _ => x_iload_n rfl rfl) ?_
      refine Ew_of (pcₚ := 34) (fun _ => x_bipush (z := 13) rfl (by decide)) ?_
      refine Ew_of (pcₚ := 36) (fun _ => x_bipush (z := 17) rfl (by decide)) ?_
      refine w_stat24 rfl rfl (by rfl) (M67p H (show inr (a1) from h0) (show inr (13) from q_350) (show inr (17) from q_582) (fun z21 σ F17 A18 H hS19 hA20 pz21_0 pz21_1 => ⟨rretB rfl pz21_0, ?_⟩))
      refine w_ifeq (t := 51) rfl rfl (show inr (z21) from q_138 pz21_0) (fun b22 => ?_) (fun b22 => ?_)
      · refine Ew_of (pcₚ := 52) (fun _ => x_iload_n rfl rfl) ?_
        refine Ew_of (pcₚ := 54) (fun _ => x_bipush (z := 18) rfl (by decide)) ?_
        refine w_icmpne (t := 67) rfl rfl (show inr (a1) from h0) (show inr (18) from q_601) (fun b23 => ?_) (fun b23 => ?_)
        · refine Ew_of (pcₚ := 68) (fun _ => x_iload_n rfl rfl) ?_
          refine Ew_of (pcₚ := 70) (fun _ => x_bipush (z := 19) rfl (by decide)) ?_
          refine w_icmpne (t := 83) rfl rfl (show inr (a1) from h0) (show inr (19) from q_1730) (fun b24 => ?_) (fun b24 => ?_)
          · refine Ew_of (pcₚ := 84) (fun _ => x_iload_n rfl rfl) ?_
            refine Ew_of (pcₚ := 86) (fun _ => x_bipush (z := 20) rfl (by decide)) ?_
            refine w_icmpne (t := 99) rfl rfl (show inr (a1) from h0) (show inr (20) from q_1512) (fun b25 => ?_) (fun b25 => ?_)
            · refine Ew_of (pcₚ := 100) (fun _ => x_iconst rfl) ?_
              have : (((-1)) : Int) = abF ((u0_9)) ((w88)) ((u5_32), (u5_33), (u5_34), (u5_27), (u5_36)) ((u3_2)) ((u5_2)) ((u5_3)) ((a1)) := by first | exact ab_18 (by omega) rfl | exact ab_19 (by omega) rfl | exact ab_20 (by omega) rfl | exact ab_n (by omega) rfl
              exact w_ireturn rfl (k ((-1)) σ _ _ H (SF_trans (SF_trans (SF_refl) hS13 (any_sub rfl)) hS19 (any_sub rfl)) (SA_trans (SA_trans (SA_refl) hA14 (any_subA rfl)) hA20 (any_subA rfl)) (show inr ((-1)) from q_63) (show (((-1)) : Int) = abF ((u0_9)) ((w88)) ((u5_32), (u5_33), (u5_34), (u5_27), (u5_36)) ((u3_2)) ((u5_2)) ((u5_3)) (a1) by assumption))
            · refine Ew_of (pcₚ := 90) (fun _ => x_aload_n rfl rfl) ?_
              refine w_gT H (o := 0) (t := 5) rfl (H.perm 0 rfl) rfl rfl rfl rfl rfl rfl ?_
              refine w_gI H (o := 5) (w := u5_3) rfl (H.perm 5 rfl) rfl rfl rfl (fun _ => rfl) (((hS19 5 3 rfl).trans (hS13 5 3 rfl)).trans (eu5_3)) ?_
              refine Ew_of (pcₚ := 100) (fun _ => x_goto rfl rfl) ?_
              have : ((u5_3) : Int) = abF ((u0_9)) ((w88)) ((u5_32), (u5_33), (u5_34), (u5_27), (u5_36)) ((u3_2)) ((u5_2)) ((u5_3)) ((a1)) := by first | exact ab_18 (by omega) rfl | exact ab_19 (by omega) rfl | exact ab_20 (by omega) rfl | exact ab_n (by omega) rfl
              exact w_ireturn rfl (k (u5_3) σ _ _ H (SF_trans (SF_trans (SF_refl) hS13 (any_sub rfl)) hS19 (any_sub rfl)) (SA_trans (SA_trans (SA_refl) hA14 (any_subA rfl)) hA20 (any_subA rfl)) (show inr (u5_3) from q_18 r4) (show ((u5_3) : Int) = abF ((u0_9)) ((w88)) ((u5_32), (u5_33), (u5_34), (u5_27), (u5_36)) ((u3_2)) ((u5_2)) ((u5_3)) (a1) by assumption))
          · refine Ew_of (pcₚ := 74) (fun _ => x_aload_n rfl rfl) ?_
            refine w_gT H (o := 0) (t := 5) rfl (H.perm 0 rfl) rfl rfl rfl rfl rfl rfl ?_
            refine w_gI H (o := 5) (w := u5_2) rfl (H.perm 5 rfl) rfl rfl rfl (fun _ => rfl) (((hS19 5 2 rfl).trans (hS13 5 2 rfl)).trans (eu5_2)) ?_
            refine Ew_of (pcₚ := 100) (fun _ => x_goto rfl rfl) ?_
            have : ((u5_2) : Int) = abF ((u0_9)) ((w88)) ((u5_32), (u5_33), (u5_34), (u5_27), (u5_36)) ((u3_2)) ((u5_2)) ((u5_3)) ((a1)) := by first | exact ab_18 (by omega) rfl | exact ab_19 (by omega) rfl | exact ab_20 (by omega) rfl | exact ab_n (by omega) rfl
            exact w_ireturn rfl (k (u5_2) σ _ _ H (SF_trans (SF_trans (SF_refl) hS13 (any_sub rfl)) hS19 (any_sub rfl)) (SA_trans (SA_trans (SA_refl) hA14 (any_subA rfl)) hA20 (any_subA rfl)) (show inr (u5_2) from q_286 r3) (show ((u5_2) : Int) = abF ((u0_9)) ((w88)) ((u5_32), (u5_33), (u5_34), (u5_27), (u5_36)) ((u3_2)) ((u5_2)) ((u5_3)) (a1) by assumption))
        · refine Ew_of (pcₚ := 58) (fun _ => x_aload_n rfl rfl) ?_
          refine w_gT H (o := 0) (t := 3) rfl (H.perm 0 rfl) rfl rfl rfl rfl rfl rfl ?_
          refine w_gI H (o := 3) (w := u3_2) rfl (H.perm 3 rfl) rfl rfl rfl (fun _ => rfl) (((hS19 3 2 rfl).trans (hS13 3 2 rfl)).trans (eu3_2)) ?_
          refine Ew_of (pcₚ := 100) (fun _ => x_goto rfl rfl) ?_
          have : ((u3_2) : Int) = abF ((u0_9)) ((w88)) ((u5_32), (u5_33), (u5_34), (u5_27), (u5_36)) ((u3_2)) ((u5_2)) ((u5_3)) ((a1)) := by first | exact ab_18 (by omega) rfl | exact ab_19 (by omega) rfl | exact ab_20 (by omega) rfl | exact ab_n (by omega) rfl
          exact w_ireturn rfl (k (u3_2) σ _ _ H (SF_trans (SF_trans (SF_refl) hS13 (any_sub rfl)) hS19 (any_sub rfl)) (SA_trans (SA_trans (SA_refl) hA14 (any_subA rfl)) hA20 (any_subA rfl)) (show inr (u3_2) from q_286 r2) (show ((u3_2) : Int) = abF ((u0_9)) ((w88)) ((u5_32), (u5_33), (u5_34), (u5_27), (u5_36)) ((u3_2)) ((u5_2)) ((u5_3)) (a1) by assumption))
      · refine Ew_of (pcₚ := 43) (fun _ => x_aload_n rfl rfl) ?_
        refine Ew_of (pcₚ := 44) (fun _ => x_iload_n rfl rfl) ?_
        refine Ew_of (pcₚ := 46) (fun _ => x_bipush (z := 13) rfl (by decide)) ?_
        refine w_isub rfl ?_
        refine w_inv H (o := 0) rfl rfl rfl (H.perm 0 rfl) rfl rfl (by rfl) (M83p H (u5_27) ((((hS19 5 27 rfl).trans (hS13 5 27 rfl)).trans (eu5_27))) (u5_32) ((((hS19 5 32 rfl).trans (hS13 5 32 rfl)).trans (eu5_32))) (u5_33) ((((hS19 5 33 rfl).trans (hS13 5 33 rfl)).trans (eu5_33))) (u5_34) ((((hS19 5 34 rfl).trans (hS13 5 34 rfl)).trans (eu5_34))) (u5_36) ((((hS19 5 36 rfl).trans (hS13 5 36 rfl)).trans (eu5_36))) (show inr ((a1 - 13)) by omega) (fun z30 σ F26 A27 H hS28 hA29 pz30_0 pz30_1 pz30_2 => ⟨rfl, ?_⟩))
        have : ((z30) : Int) = abF ((u0_9)) ((w88)) ((u5_32), (u5_33), (u5_34), (u5_27), (u5_36)) ((u3_2)) ((u5_2)) ((u5_3)) ((a1)) := ab_k (by omega) pz30_2
        exact w_ireturn rfl (k (z30) σ _ _ H (SF_trans (SF_trans (SF_trans (SF_refl) hS13 (any_sub rfl)) hS19 (any_sub rfl)) hS28 (any_sub rfl)) (SA_trans (SA_trans (SA_trans (SA_refl) hA14 (any_subA rfl)) hA20 (any_subA rfl)) hA29 (any_subA rfl)) (show inr (z30) from pz30_0) (show ((z30) : Int) = abF ((u0_9)) ((w88)) ((u5_32), (u5_33), (u5_34), (u5_27), (u5_36)) ((u3_2)) ((u5_2)) ((u5_3)) (a1) by assumption))
    · refine Ew_of (pcₚ := 20) (fun _ => x_aload_n rfl rfl) ?_
      refine w_gT H (o := 0) (t := 6) rfl (H.perm 0 rfl) rfl rfl rfl rfl rfl rfl ?_
      refine w_gT H (o := 6) (t := 88) rfl (H.perm 6 rfl) rfl rfl rfl rfl rfl rfl ?_
      refine Ew_of (pcₚ := 27) (fun _ => x_iload_n rfl rfl) ?_
      refine Ew_of (pcₚ := 28) (fun _ => x_iconst rfl) ?_
      refine w_isub rfl ?_
      refine w_lI H (o := 88) (n := 12) rfl (H.perm 88 rfl) rfl rfl (H.fix 88 rfl rfl) (show 0 ≤ (a1 - 1) ∧ (a1 - 1) < ((12 : Nat) : Int) by omega) (by decide) (fun v31 ev31 qv31 => ?_)
      have qv31 : (-2147483648 : Int) ≤ v31 ∧ v31 ≤ 2147483647 := qv31
      have ev31 : (w88) ((a1 - 1)) = v31 := (congrFun ((funext (hA14 88 rfl)).trans (ew88)) ((a1 - 1))).symm.trans ev31
      have : ((v31) : Int) = abF ((u0_9)) ((w88)) ((u5_32), (u5_33), (u5_34), (u5_27), (u5_36)) ((u3_2)) ((u5_2)) ((u5_3)) ((a1)) := ab_s (by omega) ev31
      exact w_ireturn rfl (k (v31) σ _ _ H (SF_trans (SF_refl) hS13 (any_sub rfl)) (SA_trans (SA_refl) hA14 (any_subA rfl)) (show inr (v31) from q_18 qv31) (show ((v31) : Int) = abF ((u0_9)) ((w88)) ((u5_32), (u5_33), (u5_34), (u5_27), (u5_36)) ((u3_2)) ((u5_2)) ((u5_3)) (a1) by assumption))
  · refine Ew_of (pcₚ := 5) (fun _ => x_aload_n rfl rfl) ?_
    refine w_gI H (o := 0) (w := u0_9) rfl (H.perm 0 rfl) rfl rfl rfl (fun _ => rfl) (eu0_9) ?_
    have : ((u0_9) : Int) = abF ((u0_9)) ((w88)) ((u5_32), (u5_33), (u5_34), (u5_27), (u5_36)) ((u3_2)) ((u5_2)) ((u5_3)) ((a1)) := ab_0 (by omega) rfl
    exact w_ireturn rfl (k (u0_9) σ _ _ H (SF_refl) (SA_refl) (show inr (u0_9) from q_18 r1) (show ((u0_9) : Int) = abF ((u0_9)) ((w88)) ((u5_32), (u5_33), (u5_34), (u5_27), (u5_36)) ((u3_2)) ((u5_2)) ((u5_3)) (a1) by assumption))

theorem M91p {σ0 σ : rS} {D N : Nat → Nat} {F : hF} {A : hA} {d c s : Nat} {Q : wQ} (H : HS σ0 σ D N F A) {a1 : Int} (u0_10 : Int) (eu0_10 : F 0 10 = u0_10) (u0_11 : Int) (eu0_11 : F 0 11 = u0_11) (h0 : inr (a1)) (k : ∀ (z : Int) σ Fₚ Aₚ, HS σ0 σ D N Fₚ Aₚ → SF [] F Fₚ → SA [] A Aₚ → (inr (z)) → (((a1) = 0 ∧ (z) = (u0_10) ∨ (a1) = 1 ∧ (z) = (u0_11) ∨ (a1) ≠ 0 ∧ (a1) ≠ 1 ∧ (z) = -1)) → Q (some (I z)) σ c s) : Ew 91 (d + 0) 0 (rargs 0 [.ref (D 0), I a1]) [] σ c s Q := by
  have r1 : (-2147483648 : Int) ≤ u0_10 ∧ u0_10 ≤ 2147483647 := rngE (show (-2147483648 : Int) ≤ F 0 10 ∧ F 0 10 ≤ 2147483647 from H.frng 0 10) (show F 0 10 = u0_10 from (eu0_10))
  have r2 : (-2147483648 : Int) ≤ u0_11 ∧ u0_11 ≤ 2147483647 := rngE (show (-2147483648 : Int) ≤ F 0 11 ∧ F 0 11 ≤ 2147483647 from H.frng 0 11) (show F 0 11 = u0_11 from (eu0_11))
  refine Ew_of (pcₚ := 1) (fun _ => x_iload_n rfl rfl) ?_
  refine w_ifne (t := 11) rfl rfl (show inr (a1) from h0) (fun b3 => ?_) (fun b3 => ?_)
  · refine Ew_of (pcₚ := 12) (fun _ => x_iload_n rfl rfl) ?_
    refine Ew_of (pcₚ := 13) (fun _ => x_iconst rfl) ?_
    refine w_icmpne (t := 23) rfl rfl (show inr (a1) from h0) (show inr (1) from q_135) (fun b4 => ?_) (fun b4 => ?_)
    · refine Ew_of (pcₚ := 24) (fun _ => x_iconst rfl) ?_
      exact w_ireturn rfl (k ((-1)) σ _ _ H (SF_refl) (SA_refl) (show inr ((-1)) from q_63) (show (a1 = 0 ∧ ((-1)) = (u0_10) ∨ a1 = 1 ∧ ((-1)) = (u0_11) ∨ a1 ≠ 0 ∧ a1 ≠ 1 ∧ ((-1)) = -1) by first | exact q_5000 b3 b4 | omega))
    · refine Ew_of (pcₚ := 17) (fun _ => x_aload_n rfl rfl) ?_
      refine w_gI H (o := 0) (w := u0_11) rfl (H.perm 0 rfl) rfl rfl rfl (fun _ => rfl) (eu0_11) ?_
      refine Ew_of (pcₚ := 24) (fun _ => x_goto rfl rfl) ?_
      exact w_ireturn rfl (k (u0_11) σ _ _ H (SF_refl) (SA_refl) (show inr (u0_11) from q_18 r2) (show (a1 = 0 ∧ (u0_11) = (u0_10) ∨ a1 = 1 ∧ (u0_11) = (u0_11) ∨ a1 ≠ 0 ∧ a1 ≠ 1 ∧ (u0_11) = -1) from q_5001 b4))
  · refine Ew_of (pcₚ := 5) (fun _ => x_aload_n rfl rfl) ?_
    refine w_gI H (o := 0) (w := u0_10) rfl (H.perm 0 rfl) rfl rfl rfl (fun _ => rfl) (eu0_10) ?_
    refine Ew_of (pcₚ := 24) (fun _ => x_goto rfl rfl) ?_
    exact w_ireturn rfl (k (u0_10) σ _ _ H (SF_refl) (SA_refl) (show inr (u0_10) from q_18 r1) (show (a1 = 0 ∧ (u0_10) = (u0_10) ∨ a1 = 1 ∧ (u0_10) = (u0_11) ∨ a1 ≠ 0 ∧ a1 ≠ 1 ∧ (u0_10) = -1) from q_5002 b3))


end
