/-- PackHouse.size: this, this.rows, this.rows.0, this.rows.0.bytes, this.rows.1, this.rows.1.bytes, this.rows.2, this.rows.2.bytes, this.rows.3, this.rows.3.bytes -/
theorem C6p {σE : rS} {D N : Nat → Nat} {F : hF} {A : hA} {d c s : Nat} {Q : wQ} (H : HW V6 σE D N F A) {a1 : Int} (pf1 : F 0 0 = (D 1 : Int)) (pf2 : A 1 0 = (D 2 : Int)) (pf3 : F 2 0 = (D 3 : Int)) (pf4 : A 1 1 = (D 4 : Int)) (pf5 : F 4 0 = (D 5 : Int)) (pf6 : A 1 2 = (D 6 : Int)) (pf7 : F 6 0 = (D 7 : Int)) (pf8 : A 1 3 = (D 8 : Int)) (pf9 : F 8 0 = (D 9 : Int)) (n1 : Int) (en1 : (N 1 : Int) = n1) (n3 : Int) (en3 : (N 3 : Int) = n3) (n5 : Int) (en5 : (N 5 : Int) = n5) (n7 : Int) (en7 : (N 7 : Int) = n7) (n9 : Int) (en9 : (N 9 : Int) = n9) (u2_1 : Int) (eu2_1 : F 2 1 = u2_1) (u4_1 : Int) (eu4_1 : F 4 1 = u4_1) (u6_1 : Int) (eu6_1 : F 6 1 = u6_1) (u8_1 : Int) (eu8_1 : F 8 1 = u8_1) (w3 : Int → Int) (ew3 : A 3 = w3) (w5 : Int → Int) (ew5 : A 5 = w5) (w7 : Int → Int) (ew7 : A 7 = w7) (w9 : Int → Int) (ew9 : A 9 = w9) (h0 : inr (a1)) (h1 : (n1) = 4) (h2 : 0 ≤ (u2_1) ∧ (u2_1) ≤ (n3) ∧ (n3) ≤ 65536) (h3 : 0 ≤ (u4_1) ∧ (u4_1) ≤ (n5) ∧ (n5) ≤ 65536) (h4 : 0 ≤ (u6_1) ∧ (u6_1) ≤ (n7) ∧ (n7) ≤ 65536) (h5 : 0 ≤ (u8_1) ∧ (u8_1) ≤ (n9) ∧ (n9) ≤ 65536) (k : ∀ (z : Int) (σ : rS) (F' : hF) (A' : hA), HW V6 σ D N F' A' → OUT (V6).length D N σE c s D N σ c s → SF [] F F' → SA [] A A' → (inr (z)) → (0 ≤ (a1) ∧ (a1) ≤ 3 ∨ (z) = -1) → (IMP ((a1) = 0) ((z) = ((sc ((w3)) 0 ((u2_1))).length : Int))) → (IMP ((a1) = 1) ((z) = ((sc ((w5)) 0 ((u4_1))).length : Int))) → (IMP ((a1) = 2) ((z) = ((sc ((w7)) 0 ((u6_1))).length : Int))) → (IMP ((a1) = 3) ((z) = ((sc ((w9)) 0 ((u8_1))).length : Int))) → Q (some (I z)) σ c s) : Ew 6 (d + 1) 0 (rargs 0 [.ref (D 0), I a1]) [] σE c s Q := by
  have O := OUT_refl (n := (V6).length) (D := D) (N := N) (σ := σE) (c := c) (s := s)
  have HE := H
  have r1 : HID ((-2147483648 : Int) ≤ u2_1 ∧ u2_1 ≤ 2147483647) := krg_e (show (-2147483648 : Int) ≤ F 2 1 ∧ F 2 1 ≤ 2147483647 from H.krg 2 1 (by decide)) (show F 2 1 = u2_1 from (eu2_1))
  have r2 : HID ((-2147483648 : Int) ≤ u4_1 ∧ u4_1 ≤ 2147483647) := krg_e (show (-2147483648 : Int) ≤ F 4 1 ∧ F 4 1 ≤ 2147483647 from H.krg 4 1 (by decide)) (show F 4 1 = u4_1 from (eu4_1))
  have r3 : HID ((-2147483648 : Int) ≤ u6_1 ∧ u6_1 ≤ 2147483647) := krg_e (show (-2147483648 : Int) ≤ F 6 1 ∧ F 6 1 ≤ 2147483647 from H.krg 6 1 (by decide)) (show F 6 1 = u6_1 from (eu6_1))
  have r4 : HID ((-2147483648 : Int) ≤ u8_1 ∧ u8_1 ≤ 2147483647) := krg_e (show (-2147483648 : Int) ≤ F 8 1 ∧ F 8 1 ≤ 2147483647 from H.krg 8 1 (by decide)) (show F 8 1 = u8_1 from (eu8_1))
  replace pf1 := HIDm pf1
  replace pf2 := HIDm pf2
  replace pf3 := HIDm pf3
  replace pf4 := HIDm pf4
  replace pf5 := HIDm pf5
  replace pf6 := HIDm pf6
  replace pf7 := HIDm pf7
  replace pf8 := HIDm pf8
  replace pf9 := HIDm pf9
  replace en1 := HIDm en1
  replace en3 := HIDm en3
  replace en5 := HIDm en5
  replace en7 := HIDm en7
  replace en9 := HIDm en9
  replace eu2_1 := HIDm eu2_1
  replace eu4_1 := HIDm eu4_1
  replace eu6_1 := HIDm eu6_1
  replace eu8_1 := HIDm eu8_1
  have r5 : HID ((0 : Int) ≤ n1 ∧ n1 ≤ 1000000) := nrng (H.nle 1 (by decide)) (show (N 1 : Int) = n1 from en1)
  have r6 : HID ((0 : Int) ≤ n3 ∧ n3 ≤ 1000000) := nrng (H.nle 3 (by decide)) (show (N 3 : Int) = n3 from en3)
  have r7 : HID ((0 : Int) ≤ n5 ∧ n5 ≤ 1000000) := nrng (H.nle 5 (by decide)) (show (N 5 : Int) = n5 from en5)
  have r8 : HID ((0 : Int) ≤ n7 ∧ n7 ≤ 1000000) := nrng (H.nle 7 (by decide)) (show (N 7 : Int) = n7 from en7)
  have r9 : HID ((0 : Int) ≤ n9 ∧ n9 ≤ 1000000) := nrng (H.nle 9 (by decide)) (show (N 9 : Int) = n9 from en9)
  have hl0 : ((sc ((w3)) 0 ((u2_1))).length : Int) = (u2_1) := by rw [sc_lenI (by (have qg0 := HIDe r1; omega))]; (have qg0 := HIDe r1; omega)
  have hl1 : ((sc ((w5)) 0 ((u4_1))).length : Int) = (u4_1) := by rw [sc_lenI (by (have qg0 := HIDe r2; omega))]; (have qg0 := HIDe r2; omega)
  have hl2 : ((sc ((w7)) 0 ((u6_1))).length : Int) = (u6_1) := by rw [sc_lenI (by (have qg0 := HIDe r3; omega))]; (have qg0 := HIDe r3; omega)
  have hl3 : ((sc ((w9)) 0 ((u8_1))).length : Int) = (u8_1) := by rw [sc_lenI (by (have qg0 := HIDe r4; omega))]; (have qg0 := HIDe r4; omega)
  refine Ew_of (pc' := 1) (fun _ => x_iload_n rfl rfl) ?_
  refine w_stat24 rfl rfl (by rfl) (C24x (D := pul [] D) (N := pul [] N) (HW_sub H (VS_of (show vsub V6 V24 [] = true by decide +kernel))) (show inr (a1) by omega) (fun z10 σ10 F10' A10' H' O' hS10 hA10 pz10_0 pz10_1 => ⟨rretB rfl pz10_0, ?_⟩))
  refine v_back (c := c) (s := s) H (show vsub V6 V24 [] = true by decide +kernel) H' O' (fun F10 A10 H O' eF10 eA10 => ?_)
  have O := OUT_trans O O'
  -- PackHouse.isRow
  refine w_ifeq (t := 19) rfl rfl (show inr (z10) by omega) (fun b11 => ?_) (fun b11 => ?_)
  · refine Ew_of (pc' := 20) (fun _ => x_iconst rfl) ?_
    have h0_0 : IMP ((a1) = 0) (((-1)) = ((sc ((w3)) 0 ((u2_1))).length : Int)) := by first | exact fun q => absurd q (by (have qg0 := HIDe r1; omega)) | exact fun q => by (have qg0 := HIDe r1; omega)
    have h0_1 : IMP ((a1) = 1) (((-1)) = ((sc ((w5)) 0 ((u4_1))).length : Int)) := by first | exact fun q => absurd q (by (have qg0 := HIDe r2; omega)) | exact fun q => by (have qg0 := HIDe r2; omega)
    have h0_2 : IMP ((a1) = 2) (((-1)) = ((sc ((w7)) 0 ((u6_1))).length : Int)) := by first | exact fun q => absurd q (by (have qg0 := HIDe r3; omega)) | exact fun q => by (have qg0 := HIDe r3; omega)
    have h0_3 : IMP ((a1) = 3) (((-1)) = ((sc ((w9)) 0 ((u8_1))).length : Int)) := by first | exact fun q => absurd q (by (have qg0 := HIDe r4; omega)) | exact fun q => by (have qg0 := HIDe r4; omega)
    exact w_ireturn rfl (k ((-1)) _ _ _ H O (SF_trans (SF_refl) (SF_glu (ι := []) hS10 eF10 (by decide +kernel)) (any_sub (l' := []) rfl)) (SA_trans (SA_refl) (SA_glu (ι := []) hA10 eA10 (by decide +kernel)) (any_subA (l' := []) rfl)) (show inr ((-1)) by omega) (show 0 ≤ a1 ∧ a1 ≤ 3 ∨ ((-1)) = -1 by omega) (by assumption) (by assumption) (by assumption) (by assumption))
  · refine Ew_of (pc' := 8) (fun _ => x_aload_n rfl rfl) ?_
    refine v_g H (o := 0) (v := .ref (D 1)) rfl rfl rfl rfl rfl (vrf ((((show F10 0 0 = F 0 0 from (eF10 0 0)))).trans (pf1))) ?_
    refine Ew_of (pc' := 12) (fun _ => x_iload_n rfl rfl) ?_
    rcases (show a1 = 0 ∨ a1 = 1 ∨ a1 = 2 ∨ a1 = 3 by omega) with b12 | b12 | b12 | b12
    · refine v_lR H (o := 1) rfl rfl rfl rfl rfl (n := n1) (en1) (show 0 ≤ a1 ∧ a1 < n1 by have qh0 := HIDe r5; omega) (z := ((D 2 : Nat) : Int)) (v := .ref (D 2)) ((congrArg (A10 1) b12).trans ((congrFun (((show A10 1 = A 1 from (eA10 1)))) 0).trans (pf2))) (vrf rfl) ?_
      refine v_g H (o := 2) (v := I (u2_1)) rfl rfl rfl rfl rfl (congrArg (fun z : Int => I z) ((((show F10 2 1 = F 2 1 from (eF10 2 1))).trans (eu2_1)) : F10 2 1 = u2_1)) ?_
      refine Ew_of (pc' := 20) (fun _ => x_goto rfl rfl) ?_
      have h0_0 : IMP ((a1) = 0) ((u2_1) = ((sc ((w3)) 0 ((u2_1))).length : Int)) := by first | exact fun q => absurd q (by (have qg0 := HIDe r1; omega)) | exact fun q => by (have qg0 := HIDe r1; omega)
      have h0_1 : IMP ((a1) = 1) ((u2_1) = ((sc ((w5)) 0 ((u4_1))).length : Int)) := by first | exact fun q => absurd q (by (have qg0 := HIDe r1; have qg1 := HIDe r2; omega)) | exact fun q => by (have qg0 := HIDe r1; have qg1 := HIDe r2; omega)
      have h0_2 : IMP ((a1) = 2) ((u2_1) = ((sc ((w7)) 0 ((u6_1))).length : Int)) := by first | exact fun q => absurd q (by (have qg0 := HIDe r1; have qg1 := HIDe r3; omega)) | exact fun q => by (have qg0 := HIDe r1; have qg1 := HIDe r3; omega)
      have h0_3 : IMP ((a1) = 3) ((u2_1) = ((sc ((w9)) 0 ((u8_1))).length : Int)) := by first | exact fun q => absurd q (by (have qg0 := HIDe r1; have qg1 := HIDe r4; omega)) | exact fun q => by (have qg0 := HIDe r1; have qg1 := HIDe r4; omega)
      exact w_ireturn rfl (k (u2_1) _ _ _ H O (SF_trans (SF_refl) (SF_glu (ι := []) hS10 eF10 (by decide +kernel)) (any_sub (l' := []) rfl)) (SA_trans (SA_refl) (SA_glu (ι := []) hA10 eA10 (by decide +kernel)) (any_subA (l' := []) rfl)) (show inr (u2_1) by have qh0 := HIDe r1; omega) (show 0 ≤ a1 ∧ a1 ≤ 3 ∨ (u2_1) = -1 by have qh0 := HIDe r1; omega) (by assumption) (by assumption) (by assumption) (by assumption))
    · refine v_lR H (o := 1) rfl rfl rfl rfl rfl (n := n1) (en1) (show 0 ≤ a1 ∧ a1 < n1 by have qh0 := HIDe r5; omega) (z := ((D 4 : Nat) : Int)) (v := .ref (D 4)) ((congrArg (A10 1) b12).trans ((congrFun (((show A10 1 = A 1 from (eA10 1)))) 1).trans (pf4))) (vrf rfl) ?_
      refine v_g H (o := 4) (v := I (u4_1)) rfl rfl rfl rfl rfl (congrArg (fun z : Int => I z) ((((show F10 4 1 = F 4 1 from (eF10 4 1))).trans (eu4_1)) : F10 4 1 = u4_1)) ?_
      refine Ew_of (pc' := 20) (fun _ => x_goto rfl rfl) ?_
      have h0_0 : IMP ((a1) = 0) ((u4_1) = ((sc ((w3)) 0 ((u2_1))).length : Int)) := by first | exact fun q => absurd q (by (have qg0 := HIDe r1; have qg1 := HIDe r2; omega)) | exact fun q => by (have qg0 := HIDe r1; have qg1 := HIDe r2; omega)
      have h0_1 : IMP ((a1) = 1) ((u4_1) = ((sc ((w5)) 0 ((u4_1))).length : Int)) := by first | exact fun q => absurd q (by (have qg0 := HIDe r2; omega)) | exact fun q => by (have qg0 := HIDe r2; omega)
      have h0_2 : IMP ((a1) = 2) ((u4_1) = ((sc ((w7)) 0 ((u6_1))).length : Int)) := by first | exact fun q => absurd q (by (have qg0 := HIDe r2; have qg1 := HIDe r3; omega)) | exact fun q => by (have qg0 := HIDe r2; have qg1 := HIDe r3; omega)
      have h0_3 : IMP ((a1) = 3) ((u4_1) = ((sc ((w9)) 0 ((u8_1))).length : Int)) := by first | exact fun q => absurd q (by (have qg0 := HIDe r2; have qg1 := HIDe r4; omega)) | exact fun q => by (have qg0 := HIDe r2; have qg1 := HIDe r4; omega)
      exact w_ireturn rfl (k (u4_1) _ _ _ H O (SF_trans (SF_refl) (SF_glu (ι := []) hS10 eF10 (by decide +kernel)) (any_sub (l' := []) rfl)) (SA_trans (SA_refl) (SA_glu (ι := []) hA10 eA10 (by decide +kernel)) (any_subA (l' := []) rfl)) (show inr (u4_1) by have qh0 := HIDe r2; omega) (show 0 ≤ a1 ∧ a1 ≤ 3 ∨ (u4_1) = -1 by have qh0 := HIDe r2; omega) (by assumption) (by assumption) (by assumption) (by assumption))
    · refine v_lR H (o := 1) rfl rfl rfl rfl rfl (n := n1) (en1) (show 0 ≤ a1 ∧ a1 < n1 by have qh0 := HIDe r5; omega) (z := ((D 6 : Nat) : Int)) (v := .ref (D 6)) ((congrArg (A10 1) b12).trans ((congrFun (((show A10 1 = A 1 from (eA10 1)))) 2).trans (pf6))) (vrf rfl) ?_
      refine v_g H (o := 6) (v := I (u6_1)) rfl rfl rfl rfl rfl (congrArg (fun z : Int => I z) ((((show F10 6 1 = F 6 1 from (eF10 6 1))).trans (eu6_1)) : F10 6 1 = u6_1)) ?_
      refine Ew_of (pc' := 20) (fun _ => x_goto rfl rfl) ?_
      have h0_0 : IMP ((a1) = 0) ((u6_1) = ((sc ((w3)) 0 ((u2_1))).length : Int)) := by first | exact fun q => absurd q (by (have qg0 := HIDe r1; have qg1 := HIDe r3; omega)) | exact fun q => by (have qg0 := HIDe r1; have qg1 := HIDe r3; omega)
      have h0_1 : IMP ((a1) = 1) ((u6_1) = ((sc ((w5)) 0 ((u4_1))).length : Int)) := by first | exact fun q => absurd q (by (have qg0 := HIDe r2; have qg1 := HIDe r3; omega)) | exact fun q => by (have qg0 := HIDe r2; have qg1 := HIDe r3; omega)
      have h0_2 : IMP ((a1) = 2) ((u6_1) = ((sc ((w7)) 0 ((u6_1))).length : Int)) := by first | exact fun q => absurd q (by (have qg0 := HIDe r3; omega)) | exact fun q => by (have qg0 := HIDe r3; omega)
      have h0_3 : IMP ((a1) = 3) ((u6_1) = ((sc ((w9)) 0 ((u8_1))).length : Int)) := by first | exact fun q => absurd q (by (have qg0 := HIDe r3; have qg1 := HIDe r4; omega)) | exact fun q => by (have qg0 := HIDe r3; have qg1 := HIDe r4; omega)
      exact w_ireturn rfl (k (u6_1) _ _ _ H O (SF_trans (SF_refl) (SF_glu (ι := []) hS10 eF10 (by decide +kernel)) (any_sub (l' := []) rfl)) (SA_trans (SA_refl) (SA_glu (ι := []) hA10 eA10 (by decide +kernel)) (any_subA (l' := []) rfl)) (show inr (u6_1) by have qh0 := HIDe r3; omega) (show 0 ≤ a1 ∧ a1 ≤ 3 ∨ (u6_1) = -1 by have qh0 := HIDe r3; omega) (by assumption) (by assumption) (by assumption) (by assumption))
    · refine v_lR H (o := 1) rfl rfl rfl rfl rfl (n := n1) (en1) (show 0 ≤ a1 ∧ a1 < n1 by have qh0 := HIDe r5; omega) (z := ((D 8 : Nat) : Int)) (v := .ref (D 8)) ((congrArg (A10 1) b12).trans ((congrFun (((show A10 1 = A 1 from (eA10 1)))) 3).trans (pf8))) (vrf rfl) ?_
      refine v_g H (o := 8) (v := I (u8_1)) rfl rfl rfl rfl rfl (congrArg (fun z : Int => I z) ((((show F10 8 1 = F 8 1 from (eF10 8 1))).trans (eu8_1)) : F10 8 1 = u8_1)) ?_
      refine Ew_of (pc' := 20) (fun _ => x_goto rfl rfl) ?_
      have h0_0 : IMP ((a1) = 0) ((u8_1) = ((sc ((w3)) 0 ((u2_1))).length : Int)) := by first | exact fun q => absurd q (by (have qg0 := HIDe r1; have qg1 := HIDe r4; omega)) | exact fun q => by (have qg0 := HIDe r1; have qg1 := HIDe r4; omega)
      have h0_1 : IMP ((a1) = 1) ((u8_1) = ((sc ((w5)) 0 ((u4_1))).length : Int)) := by first | exact fun q => absurd q (by (have qg0 := HIDe r2; have qg1 := HIDe r4; omega)) | exact fun q => by (have qg0 := HIDe r2; have qg1 := HIDe r4; omega)
      have h0_2 : IMP ((a1) = 2) ((u8_1) = ((sc ((w7)) 0 ((u6_1))).length : Int)) := by first | exact fun q => absurd q (by (have qg0 := HIDe r3; have qg1 := HIDe r4; omega)) | exact fun q => by (have qg0 := HIDe r3; have qg1 := HIDe r4; omega)
      have h0_3 : IMP ((a1) = 3) ((u8_1) = ((sc ((w9)) 0 ((u8_1))).length : Int)) := by first | exact fun q => absurd q (by (have qg0 := HIDe r4; omega)) | exact fun q => by (have qg0 := HIDe r4; omega)
      exact w_ireturn rfl (k (u8_1) _ _ _ H O (SF_trans (SF_refl) (SF_glu (ι := []) hS10 eF10 (by decide +kernel)) (any_sub (l' := []) rfl)) (SA_trans (SA_refl) (SA_glu (ι := []) hA10 eA10 (by decide +kernel)) (any_subA (l' := []) rfl)) (show inr (u8_1) by have qh0 := HIDe r4; omega) (show 0 ≤ a1 ∧ a1 ≤ 3 ∨ (u8_1) = -1 by have qh0 := HIDe r4; omega) (by assumption) (by assumption) (by assumption) (by assumption))
/-- PackHouse.byteAt: this, this.rows, this.rows.0, this.rows.0.bytes, this.rows.1, this.rows.1.bytes, this.rows.2, this.rows.2.bytes, this.rows.3, this.rows.3.bytes -/
theorem C7p {σE : rS} {D N : Nat → Nat} {F : hF} {A : hA} {d c s : Nat} {Q : wQ} (H : HW V7 σE D N F A) {a1 a2 : Int} (pf1 : F 0 0 = (D 1 : Int)) (pf2 : A 1 0 = (D 2 : Int)) (pf3 : F 2 0 = (D 3 : Int)) (pf4 : A 1 1 = (D 4 : Int)) (pf5 : F 4 0 = (D 5 : Int)) (pf6 : A 1 2 = (D 6 : Int)) (pf7 : F 6 0 = (D 7 : Int)) (pf8 : A 1 3 = (D 8 : Int)) (pf9 : F 8 0 = (D 9 : Int)) (n1 : Int) (en1 : (N 1 : Int) = n1) (n3 : Int) (en3 : (N 3 : Int) = n3) (n5 : Int) (en5 : (N 5 : Int) = n5) (n7 : Int) (en7 : (N 7 : Int) = n7) (n9 : Int) (en9 : (N 9 : Int) = n9) (u2_1 : Int) (eu2_1 : F 2 1 = u2_1) (u4_1 : Int) (eu4_1 : F 4 1 = u4_1) (u6_1 : Int) (eu6_1 : F 6 1 = u6_1) (u8_1 : Int) (eu8_1 : F 8 1 = u8_1) (w3 : Int → Int) (ew3 : A 3 = w3) (w5 : Int → Int) (ew5 : A 5 = w5) (w7 : Int → Int) (ew7 : A 7 = w7) (w9 : Int → Int) (ew9 : A 9 = w9) (h0 : inr (a1)) (h1 : inr (a2)) (h2 : (n1) = 4) (h3 : 0 ≤ (u2_1) ∧ (u2_1) ≤ (n3) ∧ (n3) ≤ 65536) (h4 : 0 ≤ (u4_1) ∧ (u4_1) ≤ (n5) ∧ (n5) ≤ 65536) (h5 : 0 ≤ (u6_1) ∧ (u6_1) ≤ (n7) ∧ (n7) ≤ 65536) (h6 : 0 ≤ (u8_1) ∧ (u8_1) ≤ (n9) ∧ (n9) ≤ 65536) (k : ∀ (z : Int) (σ : rS) (F' : hF) (A' : hA), HW V7 σ D N F' A' → OUT (V7).length D N σE c s D N σ c s → SF [] F F' → SA [] A A' → (inr (z)) → (0 ≤ (a1) ∧ (a1) ≤ 3 ∨ (z) = -1) → (IMP ((a1) = 0) ((0 ≤ (a2) ∧ (a2) < ((sc ((w3)) 0 ((u2_1))).length : Int)) ∧ (z) = ap (sc ((w3)) 0 ((u2_1))) ((a2)) ∨ ¬ (0 ≤ (a2) ∧ (a2) < ((sc ((w3)) 0 ((u2_1))).length : Int)) ∧ (z) = -1)) → (IMP ((a1) = 1) ((0 ≤ (a2) ∧ (a2) < ((sc ((w5)) 0 ((u4_1))).length : Int)) ∧ (z) = ap (sc ((w5)) 0 ((u4_1))) ((a2)) ∨ ¬ (0 ≤ (a2) ∧ (a2) < ((sc ((w5)) 0 ((u4_1))).length : Int)) ∧ (z) = -1)) → (IMP ((a1) = 2) ((0 ≤ (a2) ∧ (a2) < ((sc ((w7)) 0 ((u6_1))).length : Int)) ∧ (z) = ap (sc ((w7)) 0 ((u6_1))) ((a2)) ∨ ¬ (0 ≤ (a2) ∧ (a2) < ((sc ((w7)) 0 ((u6_1))).length : Int)) ∧ (z) = -1)) → (IMP ((a1) = 3) ((0 ≤ (a2) ∧ (a2) < ((sc ((w9)) 0 ((u8_1))).length : Int)) ∧ (z) = ap (sc ((w9)) 0 ((u8_1))) ((a2)) ∨ ¬ (0 ≤ (a2) ∧ (a2) < ((sc ((w9)) 0 ((u8_1))).length : Int)) ∧ (z) = -1)) → Q (some (I z)) σ c s) : Ew 7 (d + 1) 0 (rargs 0 [.ref (D 0), I a1, I a2]) [] σE c s Q := by
  have O := OUT_refl (n := (V7).length) (D := D) (N := N) (σ := σE) (c := c) (s := s)
  have HE := H
  have r1 : HID ((-2147483648 : Int) ≤ u2_1 ∧ u2_1 ≤ 2147483647) := krg_e (show (-2147483648 : Int) ≤ F 2 1 ∧ F 2 1 ≤ 2147483647 from H.krg 2 1 (by decide)) (show F 2 1 = u2_1 from (eu2_1))
  have r2 : HID ((-2147483648 : Int) ≤ u4_1 ∧ u4_1 ≤ 2147483647) := krg_e (show (-2147483648 : Int) ≤ F 4 1 ∧ F 4 1 ≤ 2147483647 from H.krg 4 1 (by decide)) (show F 4 1 = u4_1 from (eu4_1))
  have r3 : HID ((-2147483648 : Int) ≤ u6_1 ∧ u6_1 ≤ 2147483647) := krg_e (show (-2147483648 : Int) ≤ F 6 1 ∧ F 6 1 ≤ 2147483647 from H.krg 6 1 (by decide)) (show F 6 1 = u6_1 from (eu6_1))
  have r4 : HID ((-2147483648 : Int) ≤ u8_1 ∧ u8_1 ≤ 2147483647) := krg_e (show (-2147483648 : Int) ≤ F 8 1 ∧ F 8 1 ≤ 2147483647 from H.krg 8 1 (by decide)) (show F 8 1 = u8_1 from (eu8_1))
  replace pf1 := HIDm pf1
  replace pf2 := HIDm pf2
  replace pf3 := HIDm pf3
  replace pf4 := HIDm pf4
  replace pf5 := HIDm pf5
  replace pf6 := HIDm pf6
  replace pf7 := HIDm pf7
  replace pf8 := HIDm pf8
  replace pf9 := HIDm pf9
  replace en1 := HIDm en1
  replace en3 := HIDm en3
  replace en5 := HIDm en5
  replace en7 := HIDm en7
  replace en9 := HIDm en9
  replace eu2_1 := HIDm eu2_1
  replace eu4_1 := HIDm eu4_1
  replace eu6_1 := HIDm eu6_1
  replace eu8_1 := HIDm eu8_1
  have r5 : HID ((0 : Int) ≤ n1 ∧ n1 ≤ 1000000) := nrng (H.nle 1 (by decide)) (show (N 1 : Int) = n1 from en1)
  have r6 : HID ((0 : Int) ≤ n3 ∧ n3 ≤ 1000000) := nrng (H.nle 3 (by decide)) (show (N 3 : Int) = n3 from en3)
  have r7 : HID ((0 : Int) ≤ n5 ∧ n5 ≤ 1000000) := nrng (H.nle 5 (by decide)) (show (N 5 : Int) = n5 from en5)
  have r8 : HID ((0 : Int) ≤ n7 ∧ n7 ≤ 1000000) := nrng (H.nle 7 (by decide)) (show (N 7 : Int) = n7 from en7)
  have r9 : HID ((0 : Int) ≤ n9 ∧ n9 ≤ 1000000) := nrng (H.nle 9 (by decide)) (show (N 9 : Int) = n9 from en9)
  have hl0 : ((sc ((w3)) 0 ((u2_1))).length : Int) = (u2_1) := by rw [sc_lenI (by (have qg0 := HIDe r1; omega))]; (have qg0 := HIDe r1; omega)
  have hl1 : ((sc ((w5)) 0 ((u4_1))).length : Int) = (u4_1) := by rw [sc_lenI (by (have qg0 := HIDe r2; omega))]; (have qg0 := HIDe r2; omega)
  have hl2 : ((sc ((w7)) 0 ((u6_1))).length : Int) = (u6_1) := by rw [sc_lenI (by (have qg0 := HIDe r3; omega))]; (have qg0 := HIDe r3; omega)
  have hl3 : ((sc ((w9)) 0 ((u8_1))).length : Int) = (u8_1) := by rw [sc_lenI (by (have qg0 := HIDe r4; omega))]; (have qg0 := HIDe r4; omega)
  refine Ew_of (pc' := 1) (fun _ => x_iload_n rfl rfl) ?_
  refine w_stat24 rfl rfl (by rfl) (C24x (D := pul [] D) (N := pul [] N) (HW_sub H (VS_of (show vsub V7 V24 [] = true by decide +kernel))) (show inr (a1) by omega) (fun z10 σ10 F10' A10' H' O' hS10 hA10 pz10_0 pz10_1 => ⟨rretB rfl pz10_0, ?_⟩))
  refine v_back (c := c) (s := s) H (show vsub V7 V24 [] = true by decide +kernel) H' O' (fun F10 A10 H O' eF10 eA10 => ?_)
  have O := OUT_trans O O'
  -- PackHouse.isRow
  refine w_ifeq (t := 42) rfl rfl (show inr (z10) by omega) (fun b11 => ?_) (fun b11 => ?_)
  · refine Ew_of (pc' := 43) (fun _ => x_iconst rfl) ?_
    have h0_0 : IMP ((a1) = 0) ((0 ≤ (a2) ∧ (a2) < ((sc ((w3)) 0 ((u2_1))).length : Int)) ∧ ((-1)) = ap (sc ((w3)) 0 ((u2_1))) ((a2)) ∨ ¬ (0 ≤ (a2) ∧ (a2) < ((sc ((w3)) 0 ((u2_1))).length : Int)) ∧ ((-1)) = -1) := by first | exact fun q => absurd q (by (have qg0 := HIDe r1; omega)) | exact fun q => .inl ⟨by (have qg0 := HIDe r1; omega), by rw [ap_sc (by (have qg0 := HIDe r1; omega)) (by (have qg0 := HIDe r1; omega)), hv35]; rfl⟩ | exact fun q => .inr ⟨by (have qg0 := HIDe r1; omega), rfl⟩
    have h0_1 : IMP ((a1) = 1) ((0 ≤ (a2) ∧ (a2) < ((sc ((w5)) 0 ((u4_1))).length : Int)) ∧ ((-1)) = ap (sc ((w5)) 0 ((u4_1))) ((a2)) ∨ ¬ (0 ≤ (a2) ∧ (a2) < ((sc ((w5)) 0 ((u4_1))).length : Int)) ∧ ((-1)) = -1) := by first | exact fun q => absurd q (by (have qg0 := HIDe r2; omega)) | exact fun q => .inl ⟨by (have qg0 := HIDe r2; omega), by rw [ap_sc (by (have qg0 := HIDe r2; omega)) (by (have qg0 := HIDe r2; omega)), hv35]; rfl⟩ | exact fun q => .inr ⟨by (have qg0 := HIDe r2; omega), rfl⟩
    have h0_2 : IMP ((a1) = 2) ((0 ≤ (a2) ∧ (a2) < ((sc ((w7)) 0 ((u6_1))).length : Int)) ∧ ((-1)) = ap (sc ((w7)) 0 ((u6_1))) ((a2)) ∨ ¬ (0 ≤ (a2) ∧ (a2) < ((sc ((w7)) 0 ((u6_1))).length : Int)) ∧ ((-1)) = -1) := by first | exact fun q => absurd q (by (have qg0 := HIDe r3; omega)) | exact fun q => .inl ⟨by (have qg0 := HIDe r3; omega), by rw [ap_sc (by (have qg0 := HIDe r3; omega)) (by (have qg0 := HIDe r3; omega)), hv35]; rfl⟩ | exact fun q => .inr ⟨by (have qg0 := HIDe r3; omega), rfl⟩
    have h0_3 : IMP ((a1) = 3) ((0 ≤ (a2) ∧ (a2) < ((sc ((w9)) 0 ((u8_1))).length : Int)) ∧ ((-1)) = ap (sc ((w9)) 0 ((u8_1))) ((a2)) ∨ ¬ (0 ≤ (a2) ∧ (a2) < ((sc ((w9)) 0 ((u8_1))).length : Int)) ∧ ((-1)) = -1) := by first | exact fun q => absurd q (by (have qg0 := HIDe r4; omega)) | exact fun q => .inl ⟨by (have qg0 := HIDe r4; omega), by rw [ap_sc (by (have qg0 := HIDe r4; omega)) (by (have qg0 := HIDe r4; omega)), hv35]; rfl⟩ | exact fun q => .inr ⟨by (have qg0 := HIDe r4; omega), rfl⟩
    exact w_ireturn rfl (k ((-1)) _ _ _ H O (SF_trans (SF_refl) (SF_glu (ι := []) hS10 eF10 (by decide +kernel)) (any_sub (l' := []) rfl)) (SA_trans (SA_refl) (SA_glu (ι := []) hA10 eA10 (by decide +kernel)) (any_subA (l' := []) rfl)) (show inr ((-1)) by omega) (show 0 ≤ a1 ∧ a1 ≤ 3 ∨ ((-1)) = -1 by omega) (by assumption) (by assumption) (by assumption) (by assumption))
  · refine Ew_of (pc' := 8) (fun _ => x_iload_n rfl rfl) ?_
    refine w_iflt (t := 42) rfl rfl (show inr (a2) by omega) (fun b12 => ?_) (fun b12 => ?_)
    · refine Ew_of (pc' := 43) (fun _ => x_iconst rfl) ?_
      have h0_0 : IMP ((a1) = 0) ((0 ≤ (a2) ∧ (a2) < ((sc ((w3)) 0 ((u2_1))).length : Int)) ∧ ((-1)) = ap (sc ((w3)) 0 ((u2_1))) ((a2)) ∨ ¬ (0 ≤ (a2) ∧ (a2) < ((sc ((w3)) 0 ((u2_1))).length : Int)) ∧ ((-1)) = -1) := by first | exact fun q => absurd q (by (have qg0 := HIDe r1; omega)) | exact fun q => .inl ⟨by (have qg0 := HIDe r1; omega), by rw [ap_sc (by (have qg0 := HIDe r1; omega)) (by (have qg0 := HIDe r1; omega)), hv35]; rfl⟩ | exact fun q => .inr ⟨by (have qg0 := HIDe r1; omega), rfl⟩
      have h0_1 : IMP ((a1) = 1) ((0 ≤ (a2) ∧ (a2) < ((sc ((w5)) 0 ((u4_1))).length : Int)) ∧ ((-1)) = ap (sc ((w5)) 0 ((u4_1))) ((a2)) ∨ ¬ (0 ≤ (a2) ∧ (a2) < ((sc ((w5)) 0 ((u4_1))).length : Int)) ∧ ((-1)) = -1) := by first | exact fun q => absurd q (by (have qg0 := HIDe r2; omega)) | exact fun q => .inl ⟨by (have qg0 := HIDe r2; omega), by rw [ap_sc (by (have qg0 := HIDe r2; omega)) (by (have qg0 := HIDe r2; omega)), hv35]; rfl⟩ | exact fun q => .inr ⟨by (have qg0 := HIDe r2; omega), rfl⟩
      have h0_2 : IMP ((a1) = 2) ((0 ≤ (a2) ∧ (a2) < ((sc ((w7)) 0 ((u6_1))).length : Int)) ∧ ((-1)) = ap (sc ((w7)) 0 ((u6_1))) ((a2)) ∨ ¬ (0 ≤ (a2) ∧ (a2) < ((sc ((w7)) 0 ((u6_1))).length : Int)) ∧ ((-1)) = -1) := by first | exact fun q => absurd q (by (have qg0 := HIDe r3; omega)) | exact fun q => .inl ⟨by (have qg0 := HIDe r3; omega), by rw [ap_sc (by (have qg0 := HIDe r3; omega)) (by (have qg0 := HIDe r3; omega)), hv35]; rfl⟩ | exact fun q => .inr ⟨by (have qg0 := HIDe r3; omega), rfl⟩
      have h0_3 : IMP ((a1) = 3) ((0 ≤ (a2) ∧ (a2) < ((sc ((w9)) 0 ((u8_1))).length : Int)) ∧ ((-1)) = ap (sc ((w9)) 0 ((u8_1))) ((a2)) ∨ ¬ (0 ≤ (a2) ∧ (a2) < ((sc ((w9)) 0 ((u8_1))).length : Int)) ∧ ((-1)) = -1) := by first | exact fun q => absurd q (by (have qg0 := HIDe r4; omega)) | exact fun q => .inl ⟨by (have qg0 := HIDe r4; omega), by rw [ap_sc (by (have qg0 := HIDe r4; omega)) (by (have qg0 := HIDe r4; omega)), hv35]; rfl⟩ | exact fun q => .inr ⟨by (have qg0 := HIDe r4; omega), rfl⟩
      exact w_ireturn rfl (k ((-1)) _ _ _ H O (SF_trans (SF_refl) (SF_glu (ι := []) hS10 eF10 (by decide +kernel)) (any_sub (l' := []) rfl)) (SA_trans (SA_refl) (SA_glu (ι := []) hA10 eA10 (by decide +kernel)) (any_subA (l' := []) rfl)) (show inr ((-1)) by omega) (show 0 ≤ a1 ∧ a1 ≤ 3 ∨ ((-1)) = -1 by omega) (by assumption) (by assumption) (by assumption) (by assumption))
    · refine Ew_of (pc' := 12) (fun _ => x_iload_n rfl rfl) ?_
      refine Ew_of (pc' := 13) (fun _ => x_aload_n rfl rfl) ?_
      refine v_g H (o := 0) (v := .ref (D 1)) rfl rfl rfl rfl rfl (vrf ((((show F10 0 0 = F 0 0 from (eF10 0 0)))).trans (pf1))) ?_
      refine Ew_of (pc' := 17) (fun _ => x_iload_n rfl rfl) ?_
      rcases (show a1 = 0 ∨ a1 = 1 ∨ a1 = 2 ∨ a1 = 3 by omega) with b13 | b13 | b13 | b13
      · refine v_lR H (o := 1) rfl rfl rfl rfl rfl (n := n1) (en1) (show 0 ≤ a1 ∧ a1 < n1 by have qh0 := HIDe r5; omega) (z := ((D 2 : Nat) : Int)) (v := .ref (D 2)) ((congrArg (A10 1) b13).trans ((congrFun (((show A10 1 = A 1 from (eA10 1)))) 0).trans (pf2))) (vrf rfl) ?_
        refine v_g H (o := 2) (v := I (u2_1)) rfl rfl rfl rfl rfl (congrArg (fun z : Int => I z) ((((show F10 2 1 = F 2 1 from (eF10 2 1))).trans (eu2_1)) : F10 2 1 = u2_1)) ?_
        refine w_icmpge (t := 42) rfl rfl (show inr (a2) by omega) (show inr (u2_1) by have qh0 := HIDe r1; omega) (fun b14 => ?_) (fun b14 => ?_)
        · refine Ew_of (pc' := 43) (fun _ => x_iconst rfl) ?_
          have h0_0 : IMP ((a1) = 0) ((0 ≤ (a2) ∧ (a2) < ((sc ((w3)) 0 ((u2_1))).length : Int)) ∧ ((-1)) = ap (sc ((w3)) 0 ((u2_1))) ((a2)) ∨ ¬ (0 ≤ (a2) ∧ (a2) < ((sc ((w3)) 0 ((u2_1))).length : Int)) ∧ ((-1)) = -1) := by first | exact fun q => absurd q (by (have qg0 := HIDe r1; omega)) | exact fun q => .inl ⟨by (have qg0 := HIDe r1; omega), by rw [ap_sc (by (have qg0 := HIDe r1; omega)) (by (have qg0 := HIDe r1; omega)), hv35]; rfl⟩ | exact fun q => .inr ⟨by (have qg0 := HIDe r1; omega), rfl⟩
          have h0_1 : IMP ((a1) = 1) ((0 ≤ (a2) ∧ (a2) < ((sc ((w5)) 0 ((u4_1))).length : Int)) ∧ ((-1)) = ap (sc ((w5)) 0 ((u4_1))) ((a2)) ∨ ¬ (0 ≤ (a2) ∧ (a2) < ((sc ((w5)) 0 ((u4_1))).length : Int)) ∧ ((-1)) = -1) := by first | exact fun q => absurd q (by (have qg0 := HIDe r2; omega)) | exact fun q => .inl ⟨by (have qg0 := HIDe r2; omega), by rw [ap_sc (by (have qg0 := HIDe r2; omega)) (by (have qg0 := HIDe r2; omega)), hv35]; rfl⟩ | exact fun q => .inr ⟨by (have qg0 := HIDe r2; omega), rfl⟩
          have h0_2 : IMP ((a1) = 2) ((0 ≤ (a2) ∧ (a2) < ((sc ((w7)) 0 ((u6_1))).length : Int)) ∧ ((-1)) = ap (sc ((w7)) 0 ((u6_1))) ((a2)) ∨ ¬ (0 ≤ (a2) ∧ (a2) < ((sc ((w7)) 0 ((u6_1))).length : Int)) ∧ ((-1)) = -1) := by first | exact fun q => absurd q (by (have qg0 := HIDe r3; omega)) | exact fun q => .inl ⟨by (have qg0 := HIDe r3; omega), by rw [ap_sc (by (have qg0 := HIDe r3; omega)) (by (have qg0 := HIDe r3; omega)), hv35]; rfl⟩ | exact fun q => .inr ⟨by (have qg0 := HIDe r3; omega), rfl⟩
          have h0_3 : IMP ((a1) = 3) ((0 ≤ (a2) ∧ (a2) < ((sc ((w9)) 0 ((u8_1))).length : Int)) ∧ ((-1)) = ap (sc ((w9)) 0 ((u8_1))) ((a2)) ∨ ¬ (0 ≤ (a2) ∧ (a2) < ((sc ((w9)) 0 ((u8_1))).length : Int)) ∧ ((-1)) = -1) := by first | exact fun q => absurd q (by (have qg0 := HIDe r4; omega)) | exact fun q => .inl ⟨by (have qg0 := HIDe r4; omega), by rw [ap_sc (by (have qg0 := HIDe r4; omega)) (by (have qg0 := HIDe r4; omega)), hv35]; rfl⟩ | exact fun q => .inr ⟨by (have qg0 := HIDe r4; omega), rfl⟩
          exact w_ireturn rfl (k ((-1)) _ _ _ H O (SF_trans (SF_refl) (SF_glu (ι := []) hS10 eF10 (by decide +kernel)) (any_sub (l' := []) rfl)) (SA_trans (SA_refl) (SA_glu (ι := []) hA10 eA10 (by decide +kernel)) (any_subA (l' := []) rfl)) (show inr ((-1)) by omega) (show 0 ≤ a1 ∧ a1 ≤ 3 ∨ ((-1)) = -1 by omega) (by assumption) (by assumption) (by assumption) (by assumption))
        · refine Ew_of (pc' := 25) (fun _ => x_aload_n rfl rfl) ?_
          refine v_g H (o := 0) (v := .ref (D 1)) rfl rfl rfl rfl rfl (vrf ((((show F10 0 0 = F 0 0 from (eF10 0 0)))).trans (pf1))) ?_
          refine Ew_of (pc' := 29) (fun _ => x_iload_n rfl rfl) ?_
          refine v_lR H (o := 1) rfl rfl rfl rfl rfl (n := n1) (en1) (show 0 ≤ a1 ∧ a1 < n1 by have qh0 := HIDe r5; omega) (z := ((D 2 : Nat) : Int)) (v := .ref (D 2)) ((congrArg (A10 1) b13).trans ((congrFun (((show A10 1 = A 1 from (eA10 1)))) 0).trans (pf2))) (vrf rfl) ?_
          refine v_g H (o := 2) (v := .ref (D 3)) rfl rfl rfl rfl rfl (vrf ((((show F10 2 0 = F 2 0 from (eF10 2 0)))).trans (pf3))) ?_
          refine Ew_of (pc' := 34) (fun _ => x_iload_n rfl rfl) ?_
          refine v_lB H (o := 3) rfl rfl rfl rfl (n := n3) (en3) (show 0 ≤ a2 ∧ a2 < n3 by have qh0 := HIDe r6; omega) (fun v15 ev15 qv15 => ?_)
          replace qv15 := HIDm qv15
          have ev15 : (w3) (a2) = v15 := (congrFun (((show A10 3 = A 3 from (eA10 3))).trans (ew3)) (a2)).symm.trans ev15
          have hv35 := ev15
          refine Ew_of (pc' := 38) (fun _ => x_sipush (z := 255) rfl (by decide)) ?_
          refine v_and255 rfl ?_
          refine Ew_of (pc' := 43) (fun _ => x_goto rfl rfl) ?_
          have h0_0 : IMP ((a1) = 0) ((0 ≤ (a2) ∧ (a2) < ((sc ((w3)) 0 ((u2_1))).length : Int)) ∧ ((v15 % 256)) = ap (sc ((w3)) 0 ((u2_1))) ((a2)) ∨ ¬ (0 ≤ (a2) ∧ (a2) < ((sc ((w3)) 0 ((u2_1))).length : Int)) ∧ ((v15 % 256)) = -1) := by first | exact fun q => absurd q (by (have qg0 := HIDe qv15; have qg1 := HIDe r1; omega)) | exact fun q => .inl ⟨by (have qg0 := HIDe qv15; have qg1 := HIDe r1; omega), by rw [ap_sc (by (have qg0 := HIDe qv15; have qg1 := HIDe r1; omega)) (by (have qg0 := HIDe qv15; have qg1 := HIDe r1; omega)), hv35]; rfl⟩ | exact fun q => .inr ⟨by (have qg0 := HIDe qv15; have qg1 := HIDe r1; omega), rfl⟩
          have h0_1 : IMP ((a1) = 1) ((0 ≤ (a2) ∧ (a2) < ((sc ((w5)) 0 ((u4_1))).length : Int)) ∧ ((v15 % 256)) = ap (sc ((w5)) 0 ((u4_1))) ((a2)) ∨ ¬ (0 ≤ (a2) ∧ (a2) < ((sc ((w5)) 0 ((u4_1))).length : Int)) ∧ ((v15 % 256)) = -1) := by first | exact fun q => absurd q (by (have qg0 := HIDe qv15; have qg1 := HIDe r2; omega)) | exact fun q => .inl ⟨by (have qg0 := HIDe qv15; have qg1 := HIDe r2; omega), by rw [ap_sc (by (have qg0 := HIDe qv15; have qg1 := HIDe r2; omega)) (by (have qg0 := HIDe qv15; have qg1 := HIDe r2; omega)), hv35]; rfl⟩ | exact fun q => .inr ⟨by (have qg0 := HIDe qv15; have qg1 := HIDe r2; omega), rfl⟩
          have h0_2 : IMP ((a1) = 2) ((0 ≤ (a2) ∧ (a2) < ((sc ((w7)) 0 ((u6_1))).length : Int)) ∧ ((v15 % 256)) = ap (sc ((w7)) 0 ((u6_1))) ((a2)) ∨ ¬ (0 ≤ (a2) ∧ (a2) < ((sc ((w7)) 0 ((u6_1))).length : Int)) ∧ ((v15 % 256)) = -1) := by first | exact fun q => absurd q (by (have qg0 := HIDe qv15; have qg1 := HIDe r3; omega)) | exact fun q => .inl ⟨by (have qg0 := HIDe qv15; have qg1 := HIDe r3; omega), by rw [ap_sc (by (have qg0 := HIDe qv15; have qg1 := HIDe r3; omega)) (by (have qg0 := HIDe qv15; have qg1 := HIDe r3; omega)), hv35]; rfl⟩ | exact fun q => .inr ⟨by (have qg0 := HIDe qv15; have qg1 := HIDe r3; omega), rfl⟩
          have h0_3 : IMP ((a1) = 3) ((0 ≤ (a2) ∧ (a2) < ((sc ((w9)) 0 ((u8_1))).length : Int)) ∧ ((v15 % 256)) = ap (sc ((w9)) 0 ((u8_1))) ((a2)) ∨ ¬ (0 ≤ (a2) ∧ (a2) < ((sc ((w9)) 0 ((u8_1))).length : Int)) ∧ ((v15 % 256)) = -1) := by first | exact fun q => absurd q (by (have qg0 := HIDe qv15; have qg1 := HIDe r4; omega)) | exact fun q => .inl ⟨by (have qg0 := HIDe qv15; have qg1 := HIDe r4; omega), by rw [ap_sc (by (have qg0 := HIDe qv15; have qg1 := HIDe r4; omega)) (by (have qg0 := HIDe qv15; have qg1 := HIDe r4; omega)), hv35]; rfl⟩ | exact fun q => .inr ⟨by (have qg0 := HIDe qv15; have qg1 := HIDe r4; omega), rfl⟩
          exact w_ireturn rfl (k ((v15 % 256)) _ _ _ H O (SF_trans (SF_refl) (SF_glu (ι := []) hS10 eF10 (by decide +kernel)) (any_sub (l' := []) rfl)) (SA_trans (SA_refl) (SA_glu (ι := []) hA10 eA10 (by decide +kernel)) (any_subA (l' := []) rfl)) (show inr ((v15 % 256)) by have qh0 := HIDe qv15; omega) (show 0 ≤ a1 ∧ a1 ≤ 3 ∨ ((v15 % 256)) = -1 by have qh0 := HIDe qv15; omega) (by assumption) (by assumption) (by assumption) (by assumption))
      · refine v_lR H (o := 1) rfl rfl rfl rfl rfl (n := n1) (en1) (show 0 ≤ a1 ∧ a1 < n1 by have qh0 := HIDe r5; omega) (z := ((D 4 : Nat) : Int)) (v := .ref (D 4)) ((congrArg (A10 1) b13).trans ((congrFun (((show A10 1 = A 1 from (eA10 1)))) 1).trans (pf4))) (vrf rfl) ?_
        refine v_g H (o := 4) (v := I (u4_1)) rfl rfl rfl rfl rfl (congrArg (fun z : Int => I z) ((((show F10 4 1 = F 4 1 from (eF10 4 1))).trans (eu4_1)) : F10 4 1 = u4_1)) ?_
        refine w_icmpge (t := 42) rfl rfl (show inr (a2) by omega) (show inr (u4_1) by have qh0 := HIDe r2; omega) (fun b16 => ?_) (fun b16 => ?_)
        · refine Ew_of (pc' := 43) (fun _ => x_iconst rfl) ?_
          have h0_0 : IMP ((a1) = 0) ((0 ≤ (a2) ∧ (a2) < ((sc ((w3)) 0 ((u2_1))).length : Int)) ∧ ((-1)) = ap (sc ((w3)) 0 ((u2_1))) ((a2)) ∨ ¬ (0 ≤ (a2) ∧ (a2) < ((sc ((w3)) 0 ((u2_1))).length : Int)) ∧ ((-1)) = -1) := by first | exact fun q => absurd q (by (have qg0 := HIDe r1; omega)) | exact fun q => .inl ⟨by (have qg0 := HIDe r1; omega), by rw [ap_sc (by (have qg0 := HIDe r1; omega)) (by (have qg0 := HIDe r1; omega)), hv35]; rfl⟩ | exact fun q => .inr ⟨by (have qg0 := HIDe r1; omega), rfl⟩
          have h0_1 : IMP ((a1) = 1) ((0 ≤ (a2) ∧ (a2) < ((sc ((w5)) 0 ((u4_1))).length : Int)) ∧ ((-1)) = ap (sc ((w5)) 0 ((u4_1))) ((a2)) ∨ ¬ (0 ≤ (a2) ∧ (a2) < ((sc ((w5)) 0 ((u4_1))).length : Int)) ∧ ((-1)) = -1) := by first | exact fun q => absurd q (by (have qg0 := HIDe r2; omega)) | exact fun q => .inl ⟨by (have qg0 := HIDe r2; omega), by rw [ap_sc (by (have qg0 := HIDe r2; omega)) (by (have qg0 := HIDe r2; omega)), hv35]; rfl⟩ | exact fun q => .inr ⟨by (have qg0 := HIDe r2; omega), rfl⟩
          have h0_2 : IMP ((a1) = 2) ((0 ≤ (a2) ∧ (a2) < ((sc ((w7)) 0 ((u6_1))).length : Int)) ∧ ((-1)) = ap (sc ((w7)) 0 ((u6_1))) ((a2)) ∨ ¬ (0 ≤ (a2) ∧ (a2) < ((sc ((w7)) 0 ((u6_1))).length : Int)) ∧ ((-1)) = -1) := by first | exact fun q => absurd q (by (have qg0 := HIDe r3; omega)) | exact fun q => .inl ⟨by (have qg0 := HIDe r3; omega), by rw [ap_sc (by (have qg0 := HIDe r3; omega)) (by (have qg0 := HIDe r3; omega)), hv35]; rfl⟩ | exact fun q => .inr ⟨by (have qg0 := HIDe r3; omega), rfl⟩
          have h0_3 : IMP ((a1) = 3) ((0 ≤ (a2) ∧ (a2) < ((sc ((w9)) 0 ((u8_1))).length : Int)) ∧ ((-1)) = ap (sc ((w9)) 0 ((u8_1))) ((a2)) ∨ ¬ (0 ≤ (a2) ∧ (a2) < ((sc ((w9)) 0 ((u8_1))).length : Int)) ∧ ((-1)) = -1) := by first | exact fun q => absurd q (by (have qg0 := HIDe r4; omega)) | exact fun q => .inl ⟨by (have qg0 := HIDe r4; omega), by rw [ap_sc (by (have qg0 := HIDe r4; omega)) (by (have qg0 := HIDe r4; omega)), hv35]; rfl⟩ | exact fun q => .inr ⟨by (have qg0 := HIDe r4; omega), rfl⟩
          exact w_ireturn rfl (k ((-1)) _ _ _ H O (SF_trans (SF_refl) (SF_glu (ι := []) hS10 eF10 (by decide +kernel)) (any_sub (l' := []) rfl)) (SA_trans (SA_refl) (SA_glu (ι := []) hA10 eA10 (by decide +kernel)) (any_subA (l' := []) rfl)) (show inr ((-1)) by omega) (show 0 ≤ a1 ∧ a1 ≤ 3 ∨ ((-1)) = -1 by omega) (by assumption) (by assumption) (by assumption) (by assumption))
        · refine Ew_of (pc' := 25) (fun _ => x_aload_n rfl rfl) ?_
          refine v_g H (o := 0) (v := .ref (D 1)) rfl rfl rfl rfl rfl (vrf ((((show F10 0 0 = F 0 0 from (eF10 0 0)))).trans (pf1))) ?_
          refine Ew_of (pc' := 29) (fun _ => x_iload_n rfl rfl) ?_
          refine v_lR H (o := 1) rfl rfl rfl rfl rfl (n := n1) (en1) (show 0 ≤ a1 ∧ a1 < n1 by have qh0 := HIDe r5; omega) (z := ((D 4 : Nat) : Int)) (v := .ref (D 4)) ((congrArg (A10 1) b13).trans ((congrFun (((show A10 1 = A 1 from (eA10 1)))) 1).trans (pf4))) (vrf rfl) ?_
          refine v_g H (o := 4) (v := .ref (D 5)) rfl rfl rfl rfl rfl (vrf ((((show F10 4 0 = F 4 0 from (eF10 4 0)))).trans (pf5))) ?_
          refine Ew_of (pc' := 34) (fun _ => x_iload_n rfl rfl) ?_
          refine v_lB H (o := 5) rfl rfl rfl rfl (n := n5) (en5) (show 0 ≤ a2 ∧ a2 < n5 by have qh0 := HIDe r7; omega) (fun v17 ev17 qv17 => ?_)
          replace qv17 := HIDm qv17
          have ev17 : (w5) (a2) = v17 := (congrFun (((show A10 5 = A 5 from (eA10 5))).trans (ew5)) (a2)).symm.trans ev17
          have hv35 := ev17
          refine Ew_of (pc' := 38) (fun _ => x_sipush (z := 255) rfl (by decide)) ?_
          refine v_and255 rfl ?_
          refine Ew_of (pc' := 43) (fun _ => x_goto rfl rfl) ?_
          have h0_0 : IMP ((a1) = 0) ((0 ≤ (a2) ∧ (a2) < ((sc ((w3)) 0 ((u2_1))).length : Int)) ∧ ((v17 % 256)) = ap (sc ((w3)) 0 ((u2_1))) ((a2)) ∨ ¬ (0 ≤ (a2) ∧ (a2) < ((sc ((w3)) 0 ((u2_1))).length : Int)) ∧ ((v17 % 256)) = -1) := by first | exact fun q => absurd q (by (have qg0 := HIDe qv17; have qg1 := HIDe r1; omega)) | exact fun q => .inl ⟨by (have qg0 := HIDe qv17; have qg1 := HIDe r1; omega), by rw [ap_sc (by (have qg0 := HIDe qv17; have qg1 := HIDe r1; omega)) (by (have qg0 := HIDe qv17; have qg1 := HIDe r1; omega)), hv35]; rfl⟩ | exact fun q => .inr ⟨by (have qg0 := HIDe qv17; have qg1 := HIDe r1; omega), rfl⟩
          have h0_1 : IMP ((a1) = 1) ((0 ≤ (a2) ∧ (a2) < ((sc ((w5)) 0 ((u4_1))).length : Int)) ∧ ((v17 % 256)) = ap (sc ((w5)) 0 ((u4_1))) ((a2)) ∨ ¬ (0 ≤ (a2) ∧ (a2) < ((sc ((w5)) 0 ((u4_1))).length : Int)) ∧ ((v17 % 256)) = -1) := by first | exact fun q => absurd q (by (have qg0 := HIDe qv17; have qg1 := HIDe r2; omega)) | exact fun q => .inl ⟨by (have qg0 := HIDe qv17; have qg1 := HIDe r2; omega), by rw [ap_sc (by (have qg0 := HIDe qv17; have qg1 := HIDe r2; omega)) (by (have qg0 := HIDe qv17; have qg1 := HIDe r2; omega)), hv35]; rfl⟩ | exact fun q => .inr ⟨by (have qg0 := HIDe qv17; have qg1 := HIDe r2; omega), rfl⟩
          have h0_2 : IMP ((a1) = 2) ((0 ≤ (a2) ∧ (a2) < ((sc ((w7)) 0 ((u6_1))).length : Int)) ∧ ((v17 % 256)) = ap (sc ((w7)) 0 ((u6_1))) ((a2)) ∨ ¬ (0 ≤ (a2) ∧ (a2) < ((sc ((w7)) 0 ((u6_1))).length : Int)) ∧ ((v17 % 256)) = -1) := by first | exact fun q => absurd q (by (have qg0 := HIDe qv17; have qg1 := HIDe r3; omega)) | exact fun q => .inl ⟨by (have qg0 := HIDe qv17; have qg1 := HIDe r3; omega), by rw [ap_sc (by (have qg0 := HIDe qv17; have qg1 := HIDe r3; omega)) (by (have qg0 := HIDe qv17; have qg1 := HIDe r3; omega)), hv35]; rfl⟩ | exact fun q => .inr ⟨by (have qg0 := HIDe qv17; have qg1 := HIDe r3; omega), rfl⟩
          have h0_3 : IMP ((a1) = 3) ((0 ≤ (a2) ∧ (a2) < ((sc ((w9)) 0 ((u8_1))).length : Int)) ∧ ((v17 % 256)) = ap (sc ((w9)) 0 ((u8_1))) ((a2)) ∨ ¬ (0 ≤ (a2) ∧ (a2) < ((sc ((w9)) 0 ((u8_1))).length : Int)) ∧ ((v17 % 256)) = -1) := by first | exact fun q => absurd q (by (have qg0 := HIDe qv17; have qg1 := HIDe r4; omega)) | exact fun q => .inl ⟨by (have qg0 := HIDe qv17; have qg1 := HIDe r4; omega), by rw [ap_sc (by (have qg0 := HIDe qv17; have qg1 := HIDe r4; omega)) (by (have qg0 := HIDe qv17; have qg1 := HIDe r4; omega)), hv35]; rfl⟩ | exact fun q => .inr ⟨by (have qg0 := HIDe qv17; have qg1 := HIDe r4; omega), rfl⟩
          exact w_ireturn rfl (k ((v17 % 256)) _ _ _ H O (SF_trans (SF_refl) (SF_glu (ι := []) hS10 eF10 (by decide +kernel)) (any_sub (l' := []) rfl)) (SA_trans (SA_refl) (SA_glu (ι := []) hA10 eA10 (by decide +kernel)) (any_subA (l' := []) rfl)) (show inr ((v17 % 256)) by have qh0 := HIDe qv17; omega) (show 0 ≤ a1 ∧ a1 ≤ 3 ∨ ((v17 % 256)) = -1 by have qh0 := HIDe qv17; omega) (by assumption) (by assumption) (by assumption) (by assumption))
      · refine v_lR H (o := 1) rfl rfl rfl rfl rfl (n := n1) (en1) (show 0 ≤ a1 ∧ a1 < n1 by have qh0 := HIDe r5; omega) (z := ((D 6 : Nat) : Int)) (v := .ref (D 6)) ((congrArg (A10 1) b13).trans ((congrFun (((show A10 1 = A 1 from (eA10 1)))) 2).trans (pf6))) (vrf rfl) ?_
        refine v_g H (o := 6) (v := I (u6_1)) rfl rfl rfl rfl rfl (congrArg (fun z : Int => I z) ((((show F10 6 1 = F 6 1 from (eF10 6 1))).trans (eu6_1)) : F10 6 1 = u6_1)) ?_
        refine w_icmpge (t := 42) rfl rfl (show inr (a2) by omega) (show inr (u6_1) by have qh0 := HIDe r3; omega) (fun b18 => ?_) (fun b18 => ?_)
        · refine Ew_of (pc' := 43) (fun _ => x_iconst rfl) ?_
          have h0_0 : IMP ((a1) = 0) ((0 ≤ (a2) ∧ (a2) < ((sc ((w3)) 0 ((u2_1))).length : Int)) ∧ ((-1)) = ap (sc ((w3)) 0 ((u2_1))) ((a2)) ∨ ¬ (0 ≤ (a2) ∧ (a2) < ((sc ((w3)) 0 ((u2_1))).length : Int)) ∧ ((-1)) = -1) := by first | exact fun q => absurd q (by (have qg0 := HIDe r1; omega)) | exact fun q => .inl ⟨by (have qg0 := HIDe r1; omega), by rw [ap_sc (by (have qg0 := HIDe r1; omega)) (by (have qg0 := HIDe r1; omega)), hv35]; rfl⟩ | exact fun q => .inr ⟨by (have qg0 := HIDe r1; omega), rfl⟩
          have h0_1 : IMP ((a1) = 1) ((0 ≤ (a2) ∧ (a2) < ((sc ((w5)) 0 ((u4_1))).length : Int)) ∧ ((-1)) = ap (sc ((w5)) 0 ((u4_1))) ((a2)) ∨ ¬ (0 ≤ (a2) ∧ (a2) < ((sc ((w5)) 0 ((u4_1))).length : Int)) ∧ ((-1)) = -1) := by first | exact fun q => absurd q (by (have qg0 := HIDe r2; omega)) | exact fun q => .inl ⟨by (have qg0 := HIDe r2; omega), by rw [ap_sc (by (have qg0 := HIDe r2; omega)) (by (have qg0 := HIDe r2; omega)), hv35]; rfl⟩ | exact fun q => .inr ⟨by (have qg0 := HIDe r2; omega), rfl⟩
          have h0_2 : IMP ((a1) = 2) ((0 ≤ (a2) ∧ (a2) < ((sc ((w7)) 0 ((u6_1))).length : Int)) ∧ ((-1)) = ap (sc ((w7)) 0 ((u6_1))) ((a2)) ∨ ¬ (0 ≤ (a2) ∧ (a2) < ((sc ((w7)) 0 ((u6_1))).length : Int)) ∧ ((-1)) = -1) := by first | exact fun q => absurd q (by (have qg0 := HIDe r3; omega)) | exact fun q => .inl ⟨by (have qg0 := HIDe r3; omega), by rw [ap_sc (by (have qg0 := HIDe r3; omega)) (by (have qg0 := HIDe r3; omega)), hv35]; rfl⟩ | exact fun q => .inr ⟨by (have qg0 := HIDe r3; omega), rfl⟩
          have h0_3 : IMP ((a1) = 3) ((0 ≤ (a2) ∧ (a2) < ((sc ((w9)) 0 ((u8_1))).length : Int)) ∧ ((-1)) = ap (sc ((w9)) 0 ((u8_1))) ((a2)) ∨ ¬ (0 ≤ (a2) ∧ (a2) < ((sc ((w9)) 0 ((u8_1))).length : Int)) ∧ ((-1)) = -1) := by first | exact fun q => absurd q (by (have qg0 := HIDe r4; omega)) | exact fun q => .inl ⟨by (have qg0 := HIDe r4; omega), by rw [ap_sc (by (have qg0 := HIDe r4; omega)) (by (have qg0 := HIDe r4; omega)), hv35]; rfl⟩ | exact fun q => .inr ⟨by (have qg0 := HIDe r4; omega), rfl⟩
          exact w_ireturn rfl (k ((-1)) _ _ _ H O (SF_trans (SF_refl) (SF_glu (ι := []) hS10 eF10 (by decide +kernel)) (any_sub (l' := []) rfl)) (SA_trans (SA_refl) (SA_glu (ι := []) hA10 eA10 (by decide +kernel)) (any_subA (l' := []) rfl)) (show inr ((-1)) by omega) (show 0 ≤ a1 ∧ a1 ≤ 3 ∨ ((-1)) = -1 by omega) (by assumption) (by assumption) (by assumption) (by assumption))
        · refine Ew_of (pc' := 25) (fun _ => x_aload_n rfl rfl) ?_
          refine v_g H (o := 0) (v := .ref (D 1)) rfl rfl rfl rfl rfl (vrf ((((show F10 0 0 = F 0 0 from (eF10 0 0)))).trans (pf1))) ?_
          refine Ew_of (pc' := 29) (fun _ => x_iload_n rfl rfl) ?_
          refine v_lR H (o := 1) rfl rfl rfl rfl rfl (n := n1) (en1) (show 0 ≤ a1 ∧ a1 < n1 by have qh0 := HIDe r5; omega) (z := ((D 6 : Nat) : Int)) (v := .ref (D 6)) ((congrArg (A10 1) b13).trans ((congrFun (((show A10 1 = A 1 from (eA10 1)))) 2).trans (pf6))) (vrf rfl) ?_
          refine v_g H (o := 6) (v := .ref (D 7)) rfl rfl rfl rfl rfl (vrf ((((show F10 6 0 = F 6 0 from (eF10 6 0)))).trans (pf7))) ?_
          refine Ew_of (pc' := 34) (fun _ => x_iload_n rfl rfl) ?_
          refine v_lB H (o := 7) rfl rfl rfl rfl (n := n7) (en7) (show 0 ≤ a2 ∧ a2 < n7 by have qh0 := HIDe r8; omega) (fun v19 ev19 qv19 => ?_)
          replace qv19 := HIDm qv19
          have ev19 : (w7) (a2) = v19 := (congrFun (((show A10 7 = A 7 from (eA10 7))).trans (ew7)) (a2)).symm.trans ev19
          have hv35 := ev19
          refine Ew_of (pc' := 38) (fun _ => x_sipush (z := 255) rfl (by decide)) ?_
          refine v_and255 rfl ?_
          refine Ew_of (pc' := 43) (fun _ => x_goto rfl rfl) ?_
          have h0_0 : IMP ((a1) = 0) ((0 ≤ (a2) ∧ (a2) < ((sc ((w3)) 0 ((u2_1))).length : Int)) ∧ ((v19 % 256)) = ap (sc ((w3)) 0 ((u2_1))) ((a2)) ∨ ¬ (0 ≤ (a2) ∧ (a2) < ((sc ((w3)) 0 ((u2_1))).length : Int)) ∧ ((v19 % 256)) = -1) := by first | exact fun q => absurd q (by (have qg0 := HIDe qv19; have qg1 := HIDe r1; omega)) | exact fun q => .inl ⟨by (have qg0 := HIDe qv19; have qg1 := HIDe r1; omega), by rw [ap_sc (by (have qg0 := HIDe qv19; have qg1 := HIDe r1; omega)) (by (have qg0 := HIDe qv19; have qg1 := HIDe r1; omega)), hv35]; rfl⟩ | exact fun q => .inr ⟨by (have qg0 := HIDe qv19; have qg1 := HIDe r1; omega), rfl⟩
          have h0_1 : IMP ((a1) = 1) ((0 ≤ (a2) ∧ (a2) < ((sc ((w5)) 0 ((u4_1))).length : Int)) ∧ ((v19 % 256)) = ap (sc ((w5)) 0 ((u4_1))) ((a2)) ∨ ¬ (0 ≤ (a2) ∧ (a2) < ((sc ((w5)) 0 ((u4_1))).length : Int)) ∧ ((v19 % 256)) = -1) := by first | exact fun q => absurd q (by (have qg0 := HIDe qv19; have qg1 := HIDe r2; omega)) | exact fun q => .inl ⟨by (have qg0 := HIDe qv19; have qg1 := HIDe r2; omega), by rw [ap_sc (by (have qg0 := HIDe qv19; have qg1 := HIDe r2; omega)) (by (have qg0 := HIDe qv19; have qg1 := HIDe r2; omega)), hv35]; rfl⟩ | exact fun q => .inr ⟨by (have qg0 := HIDe qv19; have qg1 := HIDe r2; omega), rfl⟩
          have h0_2 : IMP ((a1) = 2) ((0 ≤ (a2) ∧ (a2) < ((sc ((w7)) 0 ((u6_1))).length : Int)) ∧ ((v19 % 256)) = ap (sc ((w7)) 0 ((u6_1))) ((a2)) ∨ ¬ (0 ≤ (a2) ∧ (a2) < ((sc ((w7)) 0 ((u6_1))).length : Int)) ∧ ((v19 % 256)) = -1) := by first | exact fun q => absurd q (by (have qg0 := HIDe qv19; have qg1 := HIDe r3; omega)) | exact fun q => .inl ⟨by (have qg0 := HIDe qv19; have qg1 := HIDe r3; omega), by rw [ap_sc (by (have qg0 := HIDe qv19; have qg1 := HIDe r3; omega)) (by (have qg0 := HIDe qv19; have qg1 := HIDe r3; omega)), hv35]; rfl⟩ | exact fun q => .inr ⟨by (have qg0 := HIDe qv19; have qg1 := HIDe r3; omega), rfl⟩
          have h0_3 : IMP ((a1) = 3) ((0 ≤ (a2) ∧ (a2) < ((sc ((w9)) 0 ((u8_1))).length : Int)) ∧ ((v19 % 256)) = ap (sc ((w9)) 0 ((u8_1))) ((a2)) ∨ ¬ (0 ≤ (a2) ∧ (a2) < ((sc ((w9)) 0 ((u8_1))).length : Int)) ∧ ((v19 % 256)) = -1) := by first | exact fun q => absurd q (by (have qg0 := HIDe qv19; have qg1 := HIDe r4; omega)) | exact fun q => .inl ⟨by (have qg0 := HIDe qv19; have qg1 := HIDe r4; omega), by rw [ap_sc (by (have qg0 := HIDe qv19; have qg1 := HIDe r4; omega)) (by (have qg0 := HIDe qv19; have qg1 := HIDe r4; omega)), hv35]; rfl⟩ | exact fun q => .inr ⟨by (have qg0 := HIDe qv19; have qg1 := HIDe r4; omega), rfl⟩
          exact w_ireturn rfl (k ((v19 % 256)) _ _ _ H O (SF_trans (SF_refl) (SF_glu (ι := []) hS10 eF10 (by decide +kernel)) (any_sub (l' := []) rfl)) (SA_trans (SA_refl) (SA_glu (ι := []) hA10 eA10 (by decide +kernel)) (any_subA (l' := []) rfl)) (show inr ((v19 % 256)) by have qh0 := HIDe qv19; omega) (show 0 ≤ a1 ∧ a1 ≤ 3 ∨ ((v19 % 256)) = -1 by have qh0 := HIDe qv19; omega) (by assumption) (by assumption) (by assumption) (by assumption))
      · refine v_lR H (o := 1) rfl rfl rfl rfl rfl (n := n1) (en1) (show 0 ≤ a1 ∧ a1 < n1 by have qh0 := HIDe r5; omega) (z := ((D 8 : Nat) : Int)) (v := .ref (D 8)) ((congrArg (A10 1) b13).trans ((congrFun (((show A10 1 = A 1 from (eA10 1)))) 3).trans (pf8))) (vrf rfl) ?_
        refine v_g H (o := 8) (v := I (u8_1)) rfl rfl rfl rfl rfl (congrArg (fun z : Int => I z) ((((show F10 8 1 = F 8 1 from (eF10 8 1))).trans (eu8_1)) : F10 8 1 = u8_1)) ?_
        refine w_icmpge (t := 42) rfl rfl (show inr (a2) by omega) (show inr (u8_1) by have qh0 := HIDe r4; omega) (fun b20 => ?_) (fun b20 => ?_)
        · refine Ew_of (pc' := 43) (fun _ => x_iconst rfl) ?_
          have h0_0 : IMP ((a1) = 0) ((0 ≤ (a2) ∧ (a2) < ((sc ((w3)) 0 ((u2_1))).length : Int)) ∧ ((-1)) = ap (sc ((w3)) 0 ((u2_1))) ((a2)) ∨ ¬ (0 ≤ (a2) ∧ (a2) < ((sc ((w3)) 0 ((u2_1))).length : Int)) ∧ ((-1)) = -1) := by first | exact fun q => absurd q (by (have qg0 := HIDe r1; omega)) | exact fun q => .inl ⟨by (have qg0 := HIDe r1; omega), by rw [ap_sc (by (have qg0 := HIDe r1; omega)) (by (have qg0 := HIDe r1; omega)), hv35]; rfl⟩ | exact fun q => .inr ⟨by (have qg0 := HIDe r1; omega), rfl⟩
          have h0_1 : IMP ((a1) = 1) ((0 ≤ (a2) ∧ (a2) < ((sc ((w5)) 0 ((u4_1))).length : Int)) ∧ ((-1)) = ap (sc ((w5)) 0 ((u4_1))) ((a2)) ∨ ¬ (0 ≤ (a2) ∧ (a2) < ((sc ((w5)) 0 ((u4_1))).length : Int)) ∧ ((-1)) = -1) := by first | exact fun q => absurd q (by (have qg0 := HIDe r2; omega)) | exact fun q => .inl ⟨by (have qg0 := HIDe r2; omega), by rw [ap_sc (by (have qg0 := HIDe r2; omega)) (by (have qg0 := HIDe r2; omega)), hv35]; rfl⟩ | exact fun q => .inr ⟨by (have qg0 := HIDe r2; omega), rfl⟩
          have h0_2 : IMP ((a1) = 2) ((0 ≤ (a2) ∧ (a2) < ((sc ((w7)) 0 ((u6_1))).length : Int)) ∧ ((-1)) = ap (sc ((w7)) 0 ((u6_1))) ((a2)) ∨ ¬ (0 ≤ (a2) ∧ (a2) < ((sc ((w7)) 0 ((u6_1))).length : Int)) ∧ ((-1)) = -1) := by first | exact fun q => absurd q (by (have qg0 := HIDe r3; omega)) | exact fun q => .inl ⟨by (have qg0 := HIDe r3; omega), by rw [ap_sc (by (have qg0 := HIDe r3; omega)) (by (have qg0 := HIDe r3; omega)), hv35]; rfl⟩ | exact fun q => .inr ⟨by (have qg0 := HIDe r3; omega), rfl⟩
          have h0_3 : IMP ((a1) = 3) ((0 ≤ (a2) ∧ (a2) < ((sc ((w9)) 0 ((u8_1))).length : Int)) ∧ ((-1)) = ap (sc ((w9)) 0 ((u8_1))) ((a2)) ∨ ¬ (0 ≤ (a2) ∧ (a2) < ((sc ((w9)) 0 ((u8_1))).length : Int)) ∧ ((-1)) = -1) := by first | exact fun q => absurd q (by (have qg0 := HIDe r4; omega)) | exact fun q => .inl ⟨by (have qg0 := HIDe r4; omega), by rw [ap_sc (by (have qg0 := HIDe r4; omega)) (by (have qg0 := HIDe r4; omega)), hv35]; rfl⟩ | exact fun q => .inr ⟨by (have qg0 := HIDe r4; omega), rfl⟩
          exact w_ireturn rfl (k ((-1)) _ _ _ H O (SF_trans (SF_refl) (SF_glu (ι := []) hS10 eF10 (by decide +kernel)) (any_sub (l' := []) rfl)) (SA_trans (SA_refl) (SA_glu (ι := []) hA10 eA10 (by decide +kernel)) (any_subA (l' := []) rfl)) (show inr ((-1)) by omega) (show 0 ≤ a1 ∧ a1 ≤ 3 ∨ ((-1)) = -1 by omega) (by assumption) (by assumption) (by assumption) (by assumption))
        · refine Ew_of (pc' := 25) (fun _ => x_aload_n rfl rfl) ?_
          refine v_g H (o := 0) (v := .ref (D 1)) rfl rfl rfl rfl rfl (vrf ((((show F10 0 0 = F 0 0 from (eF10 0 0)))).trans (pf1))) ?_
          refine Ew_of (pc' := 29) (fun _ => x_iload_n rfl rfl) ?_
          refine v_lR H (o := 1) rfl rfl rfl rfl rfl (n := n1) (en1) (show 0 ≤ a1 ∧ a1 < n1 by have qh0 := HIDe r5; omega) (z := ((D 8 : Nat) : Int)) (v := .ref (D 8)) ((congrArg (A10 1) b13).trans ((congrFun (((show A10 1 = A 1 from (eA10 1)))) 3).trans (pf8))) (vrf rfl) ?_
          refine v_g H (o := 8) (v := .ref (D 9)) rfl rfl rfl rfl rfl (vrf ((((show F10 8 0 = F 8 0 from (eF10 8 0)))).trans (pf9))) ?_
          refine Ew_of (pc' := 34) (fun _ => x_iload_n rfl rfl) ?_
          refine v_lB H (o := 9) rfl rfl rfl rfl (n := n9) (en9) (show 0 ≤ a2 ∧ a2 < n9 by have qh0 := HIDe r9; omega) (fun v21 ev21 qv21 => ?_)
          replace qv21 := HIDm qv21
          have ev21 : (w9) (a2) = v21 := (congrFun (((show A10 9 = A 9 from (eA10 9))).trans (ew9)) (a2)).symm.trans ev21
          have hv35 := ev21
          refine Ew_of (pc' := 38) (fun _ => x_sipush (z := 255) rfl (by decide)) ?_
          refine v_and255 rfl ?_
          refine Ew_of (pc' := 43) (fun _ => x_goto rfl rfl) ?_
          have h0_0 : IMP ((a1) = 0) ((0 ≤ (a2) ∧ (a2) < ((sc ((w3)) 0 ((u2_1))).length : Int)) ∧ ((v21 % 256)) = ap (sc ((w3)) 0 ((u2_1))) ((a2)) ∨ ¬ (0 ≤ (a2) ∧ (a2) < ((sc ((w3)) 0 ((u2_1))).length : Int)) ∧ ((v21 % 256)) = -1) := by first | exact fun q => absurd q (by (have qg0 := HIDe qv21; have qg1 := HIDe r1; omega)) | exact fun q => .inl ⟨by (have qg0 := HIDe qv21; have qg1 := HIDe r1; omega), by rw [ap_sc (by (have qg0 := HIDe qv21; have qg1 := HIDe r1; omega)) (by (have qg0 := HIDe qv21; have qg1 := HIDe r1; omega)), hv35]; rfl⟩ | exact fun q => .inr ⟨by (have qg0 := HIDe qv21; have qg1 := HIDe r1; omega), rfl⟩
          have h0_1 : IMP ((a1) = 1) ((0 ≤ (a2) ∧ (a2) < ((sc ((w5)) 0 ((u4_1))).length : Int)) ∧ ((v21 % 256)) = ap (sc ((w5)) 0 ((u4_1))) ((a2)) ∨ ¬ (0 ≤ (a2) ∧ (a2) < ((sc ((w5)) 0 ((u4_1))).length : Int)) ∧ ((v21 % 256)) = -1) := by first | exact fun q => absurd q (by (have qg0 := HIDe qv21; have qg1 := HIDe r2; omega)) | exact fun q => .inl ⟨by (have qg0 := HIDe qv21; have qg1 := HIDe r2; omega), by rw [ap_sc (by (have qg0 := HIDe qv21; have qg1 := HIDe r2; omega)) (by (have qg0 := HIDe qv21; have qg1 := HIDe r2; omega)), hv35]; rfl⟩ | exact fun q => .inr ⟨by (have qg0 := HIDe qv21; have qg1 := HIDe r2; omega), rfl⟩
          have h0_2 : IMP ((a1) = 2) ((0 ≤ (a2) ∧ (a2) < ((sc ((w7)) 0 ((u6_1))).length : Int)) ∧ ((v21 % 256)) = ap (sc ((w7)) 0 ((u6_1))) ((a2)) ∨ ¬ (0 ≤ (a2) ∧ (a2) < ((sc ((w7)) 0 ((u6_1))).length : Int)) ∧ ((v21 % 256)) = -1) := by first | exact fun q => absurd q (by (have qg0 := HIDe qv21; have qg1 := HIDe r3; omega)) | exact fun q => .inl ⟨by (have qg0 := HIDe qv21; have qg1 := HIDe r3; omega), by rw [ap_sc (by (have qg0 := HIDe qv21; have qg1 := HIDe r3; omega)) (by (have qg0 := HIDe qv21; have qg1 := HIDe r3; omega)), hv35]; rfl⟩ | exact fun q => .inr ⟨by (have qg0 := HIDe qv21; have qg1 := HIDe r3; omega), rfl⟩
          have h0_3 : IMP ((a1) = 3) ((0 ≤ (a2) ∧ (a2) < ((sc ((w9)) 0 ((u8_1))).length : Int)) ∧ ((v21 % 256)) = ap (sc ((w9)) 0 ((u8_1))) ((a2)) ∨ ¬ (0 ≤ (a2) ∧ (a2) < ((sc ((w9)) 0 ((u8_1))).length : Int)) ∧ ((v21 % 256)) = -1) := by first | exact fun q => absurd q (by (have qg0 := HIDe qv21; have qg1 := HIDe r4; omega)) | exact fun q => .inl ⟨by (have qg0 := HIDe qv21; have qg1 := HIDe r4; omega), by rw [ap_sc (by (have qg0 := HIDe qv21; have qg1 := HIDe r4; omega)) (by (have qg0 := HIDe qv21; have qg1 := HIDe r4; omega)), hv35]; rfl⟩ | exact fun q => .inr ⟨by (have qg0 := HIDe qv21; have qg1 := HIDe r4; omega), rfl⟩
          exact w_ireturn rfl (k ((v21 % 256)) _ _ _ H O (SF_trans (SF_refl) (SF_glu (ι := []) hS10 eF10 (by decide +kernel)) (any_sub (l' := []) rfl)) (SA_trans (SA_refl) (SA_glu (ι := []) hA10 eA10 (by decide +kernel)) (any_subA (l' := []) rfl)) (show inr ((v21 % 256)) by have qh0 := HIDe qv21; omega) (show 0 ≤ a1 ∧ a1 ≤ 3 ∨ ((v21 % 256)) = -1 by have qh0 := HIDe qv21; omega) (by assumption) (by assumption) (by assumption) (by assumption))
/-- PackHouse.firstUnlike: #1, #2, #1.bytes, #2.bytes -/
theorem C29_Row_Rowp {σE : rS} {D N : Nat → Nat} {F : hF} {A : hA} {d c s : Nat} {Q : wQ} (H : HW V29_Row_Row σE D N F A)  (pf2 : F 0 0 = (D 2 : Int)) (pf3 : F 1 0 = (D 3 : Int)) (n2 : Int) (en2 : (N 2 : Int) = n2) (n3 : Int) (en3 : (N 3 : Int) = n3) (u0_1 : Int) (eu0_1 : F 0 1 = u0_1) (u1_1 : Int) (eu1_1 : F 1 1 = u1_1) (w2 : Int → Int) (ew2 : A 2 = w2) (w3 : Int → Int) (ew3 : A 3 = w3) (h0 : 0 ≤ (u0_1) ∧ (u0_1) ≤ (n2) ∧ (n2) ≤ 65536) (h1 : 0 ≤ (u1_1) ∧ (u1_1) ≤ (n3) ∧ (n3) ≤ 65536) (k : ∀ (z : Int) (σ : rS) (F' : hF) (A' : hA), HW V29_Row_Row σ D N F' A' → OUT (V29_Row_Row).length D N σE c s D N σ c s → SF [] F F' → SA [] A A' → (inr (z)) → (DFF (sc ((w2)) 0 ((u0_1))) (sc ((w3)) 0 ((u1_1))) ((z))) → Q (some (I z)) σ c s) : Ew 29 (d + 0) 0 (rargs 0 [.ref (D 0), .ref (D 1)]) [] σE c s Q := by
  have O := OUT_refl (n := (V29_Row_Row).length) (D := D) (N := N) (σ := σE) (c := c) (s := s)
  have HE := H
  have r1 : HID ((-2147483648 : Int) ≤ u0_1 ∧ u0_1 ≤ 2147483647) := krg_e (show (-2147483648 : Int) ≤ F 0 1 ∧ F 0 1 ≤ 2147483647 from H.krg 0 1 (by decide)) (show F 0 1 = u0_1 from (eu0_1))
  have r2 : HID ((-2147483648 : Int) ≤ u1_1 ∧ u1_1 ≤ 2147483647) := krg_e (show (-2147483648 : Int) ≤ F 1 1 ∧ F 1 1 ≤ 2147483647 from H.krg 1 1 (by decide)) (show F 1 1 = u1_1 from (eu1_1))
  replace pf2 := HIDm pf2
  replace pf3 := HIDm pf3
  replace en2 := HIDm en2
  replace en3 := HIDm en3
  replace eu0_1 := HIDm eu0_1
  replace eu1_1 := HIDm eu1_1
  have r3 : HID ((0 : Int) ≤ n2 ∧ n2 ≤ 1000000) := nrng (H.nle 2 (by decide)) (show (N 2 : Int) = n2 from en2)
  have r4 : HID ((0 : Int) ≤ n3 ∧ n3 ≤ 1000000) := nrng (H.nle 3 (by decide)) (show (N 3 : Int) = n3 from en3)
  have hla : ((sc ((w2)) 0 ((u0_1))).length : Int) = (u0_1) := by rw [sc_lenI (by (have qg0 := HIDe r1; omega))]; (have qg0 := HIDe r1; omega)
  have hlb : ((sc ((w3)) 0 ((u1_1))).length : Int) = (u1_1) := by rw [sc_lenI (by (have qg0 := HIDe r2; omega))]; (have qg0 := HIDe r2; omega)
  have hr1 : ∀ i, (-128 : Int) ≤ (w2) i ∧ (w2) i ≤ 127 := fun i => by have h1 : (-128 : Int) ≤ A 2 i ∧ A 2 i ≤ 127 := H.arg 2 i (by decide) rfl; rw [show A 2 = w2 from ew2] at h1; exact h1
  have hr2 : ∀ i, (-128 : Int) ≤ (w3) i ∧ (w3) i ≤ 127 := fun i => by have h1 : (-128 : Int) ≤ A 3 i ∧ A 3 i ≤ 127 := H.arg 3 i (by decide) rfl; rw [show A 3 = w3 from ew3] at h1; exact h1
  refine Ew_of (pc' := 1) (fun _ => x_aload_n rfl rfl) ?_
  refine v_g H (o := 0) (v := I (u0_1)) rfl rfl rfl rfl rfl (congrArg (fun z : Int => I z) ((eu0_1) : F 0 1 = u0_1)) ?_
  refine Ew_of (pc' := 5) (fun _ => x_aload_n rfl rfl) ?_
  refine v_g H (o := 1) (v := I (u1_1)) rfl rfl rfl rfl rfl (congrArg (fun z : Int => I z) ((eu1_1) : F 1 1 = u1_1)) ?_
  refine v_min rfl rfl (show inr (u0_1) by have qh0 := HIDe r1; omega) (show inr (u1_1) by have qh0 := HIDe r2; omega) (fun z5 gz5 => ?_)
  refine Ew_of (pc' := 12) (fun _ => x_istore_n rfl) ?_
  refine Ew_of (pc' := 13) (fun _ => x_iconst rfl) ?_
  refine Ew_of (pc' := 14) (fun _ => x_istore_n rfl) ?_
  have : ∀ k, 0 ≤ k → k < 0 → ap (sc ((w2)) 0 ((u0_1))) k = ap (sc ((w3)) 0 ((u1_1))) k := fun k a b => absurd b (by (have qg0 := HIDe r1; have qg1 := HIDe r2; omega))
  suffices hl14 : ∀ (m : Nat), ∀ (ls : rO) (σ : rS) (F_14 : hF) (A_14 : hA) (x14_3 : Int), rlook ls 0 = some (.ref (D 0)) → rlook ls 1 = some (.ref (D 1)) → rlook ls 2 = some (I (z5)) → rlook ls 3 = some (I (x14_3)) → HW V29_Row_Row σ D N F_14 A_14 → OUT (V29_Row_Row).length D N σE c s D N σ c s → SF [] F F_14 → SA [] A A_14 → (inr (x14_3)) → (0 ≤ (x14_3) ∧ (x14_3) ≤ (z5)) → (∀ k, 0 ≤ k → k < (x14_3) → ap (sc ((w2)) 0 ((u0_1))) k = ap (sc ((w3)) 0 ((u1_1))) k) → ((z5) - (x14_3)).toNat = m → Ew 29 (d + 0) 14 ls [] σ c s Q from
    hl14 _ _ _ _ _ (0) (rk_o (rk_o (rfl) rfl rfl) rfl rfl) (rk_o (rk_o (rfl) rfl rfl) rfl rfl) (rk_o (rk_s) rfl rfl) (rk_s) H O (SF_refl) (SA_refl)     (show inr (0) by omega) (show 0 ≤ (0) ∧ (0) ≤ (z5) by omega) (by assumption) rfl
  as_aux_lemma =>
  intro m
  induction m using Nat.strongRecOn with
  | _ m ih14 =>
    intro ls σ F_14 A_14 x14_3 l14_0 l14_1 l14_2 l14_3 H O hS_14 hA_14     j14_0 j14_1 j14_2 hm14
    have j14_a : ∀ k, 0 ≤ k → k < (x14_3) → ap (sc ((w2)) 0 ((u0_1))) k = ap (sc ((w3)) 0 ((u1_1))) k := by assumption
    obtain ⟨q3, hq3⟩ : ∃ q : Int, q = (x14_3) := ⟨_, rfl⟩
    refine Ew_of (pc' := 15) (fun _ => x_iload_n rfl l14_3) ?_
    refine Ew_of (pc' := 16) (fun _ => x_iload_n rfl l14_2) ?_
    refine w_icmpge (t := 42) rfl rfl (show inr (x14_3) by omega) (show inr (z5) by omega) (fun b6 => ?_) (fun b6 => ?_)
    · refine Ew_of (pc' := 43) (fun _ => x_aload_n rfl l14_0) ?_
      refine v_g H (o := 0) (v := I (u0_1)) rfl rfl rfl rfl rfl (congrArg (fun z : Int => I z) (((hS_14 0 1 rfl).trans (eu0_1)) : F_14 0 1 = u0_1)) ?_
      refine Ew_of (pc' := 47) (fun _ => x_aload_n rfl l14_1) ?_
      refine v_g H (o := 1) (v := I (u1_1)) rfl rfl rfl rfl rfl (congrArg (fun z : Int => I z) (((hS_14 1 1 rfl).trans (eu1_1)) : F_14 1 1 = u1_1)) ?_
      refine w_icmpne (t := 57) rfl rfl (show inr (u0_1) by have qh0 := HIDe r1; omega) (show inr (u1_1) by have qh0 := HIDe r2; omega) (fun b7 => ?_) (fun b7 => ?_)
      · refine Ew_of (pc' := 58) (fun _ => x_iload_n rfl l14_2) ?_
        have : DFF (sc ((w2)) 0 ((u0_1))) (sc ((w3)) 0 ((u1_1))) ((z5)) := by first | exact .inl ⟨rfl, DFF_eq (by (have qg0 := HIDe r1; have qg1 := HIDe r2; omega)) (fun k a b => j14_a k a (by (have qg0 := HIDe r1; have qg1 := HIDe r2; omega)))⟩ | exact .inr ⟨by (have qg0 := HIDe r1; have qg1 := HIDe r2; omega), by (have qg0 := HIDe r1; have qg1 := HIDe r2; omega), by (have qg0 := HIDe r1; have qg1 := HIDe r2; omega), fun k a b => j14_a k a (by (have qg0 := HIDe r1; have qg1 := HIDe r2; omega)), .inr ⟨by (have qg0 := HIDe r1; have qg1 := HIDe r2; omega), by (have qg0 := HIDe r1; have qg1 := HIDe r2; omega)⟩⟩
        exact w_ireturn rfl (k (z5) _ _ _ H O (SF_trans (SF_refl) hS_14 (any_sub rfl)) (SA_trans (SA_refl) hA_14 (any_subA rfl)) (show inr (z5) by omega) (show DFF (sc ((w2)) 0 ((u0_1))) (sc ((w3)) 0 ((u1_1))) ((z5)) by assumption))
      · refine Ew_of (pc' := 54) (fun _ => x_iconst rfl) ?_
        refine Ew_of (pc' := 58) (fun _ => x_goto rfl rfl) ?_
        have : DFF (sc ((w2)) 0 ((u0_1))) (sc ((w3)) 0 ((u1_1))) (((-1))) := by first | exact .inl ⟨rfl, DFF_eq (by (have qg0 := HIDe r1; have qg1 := HIDe r2; omega)) (fun k a b => j14_a k a (by (have qg0 := HIDe r1; have qg1 := HIDe r2; omega)))⟩ | exact .inr ⟨by (have qg0 := HIDe r1; have qg1 := HIDe r2; omega), by (have qg0 := HIDe r1; have qg1 := HIDe r2; omega), by (have qg0 := HIDe r1; have qg1 := HIDe r2; omega), fun k a b => j14_a k a (by (have qg0 := HIDe r1; have qg1 := HIDe r2; omega)), .inr ⟨by (have qg0 := HIDe r1; have qg1 := HIDe r2; omega), by (have qg0 := HIDe r1; have qg1 := HIDe r2; omega)⟩⟩
        exact w_ireturn rfl (k ((-1)) _ _ _ H O (SF_trans (SF_refl) hS_14 (any_sub rfl)) (SA_trans (SA_refl) hA_14 (any_subA rfl)) (show inr ((-1)) by omega) (show DFF (sc ((w2)) 0 ((u0_1))) (sc ((w3)) 0 ((u1_1))) (((-1))) by assumption))
    · refine Ew_of (pc' := 20) (fun _ => x_aload_n rfl l14_0) ?_
      refine v_g H (o := 0) (v := .ref (D 2)) rfl rfl rfl rfl rfl (vrf (((hS_14 0 0 rfl)).trans (pf2))) ?_
      refine Ew_of (pc' := 24) (fun _ => x_iload_n rfl l14_3) ?_
      refine v_lB H (o := 2) rfl rfl rfl rfl (n := n2) (en2) (show 0 ≤ x14_3 ∧ x14_3 < n2 by have qh0 := HIDe r3; omega) (fun v8 ev8 qv8 => ?_)
      replace qv8 := HIDm qv8
      have ev8 : (w2) (x14_3) = v8 := (congrFun ((funext (hA_14 2 rfl)).trans (ew2)) (x14_3)).symm.trans ev8
      have hv25 := ev8
      refine Ew_of (pc' := 26) (fun _ => x_aload_n rfl l14_1) ?_
      refine v_g H (o := 1) (v := .ref (D 3)) rfl rfl rfl rfl rfl (vrf (((hS_14 1 0 rfl)).trans (pf3))) ?_
      refine Ew_of (pc' := 30) (fun _ => x_iload_n rfl l14_3) ?_
      refine v_lB H (o := 3) rfl rfl rfl rfl (n := n3) (en3) (show 0 ≤ x14_3 ∧ x14_3 < n3 by have qh0 := HIDe r4; omega) (fun v9 ev9 qv9 => ?_)
      replace qv9 := HIDm qv9
      have ev9 : (w3) (x14_3) = v9 := (congrFun ((funext (hA_14 3 rfl)).trans (ew3)) (x14_3)).symm.trans ev9
      have hv31 := ev9
      refine w_icmpeq (t := 36) rfl rfl (show inr (v8) by have qh0 := HIDe qv8; omega) (show inr (v9) by have qh0 := HIDe qv9; omega) (fun b10 => ?_) (fun b10 => ?_)
      · refine Ew_of (pc' := 39) (fun _ => x_iinc (len := 3) rfl (l14_3)) ?_
        refine Ew_of (pc' := 14) (fun _ => x_goto rfl rfl) ?_
        have : ∀ k, 0 ≤ k → k < ((x14_3 + 1)) → ap (sc ((w2)) 0 ((u0_1))) k = ap (sc ((w3)) 0 ((u1_1))) k := fun k a b => by first | rfl | (by_cases e : k = q3; (rw [e, hq3, ap_sc (by (have qg0 := HIDe r1; have qg1 := HIDe r2; omega)) (by (have qg0 := HIDe r1; have qg1 := HIDe r2; omega)), ap_sc (by (have qg0 := HIDe r1; have qg1 := HIDe r2; omega)) (by (have qg0 := HIDe r1; have qg1 := HIDe r2; omega)), hv25, hv31]; exact congrArg u8 (by (have qg0 := HIDe r1; have qg1 := HIDe r2; omega))); exact j14_a k a (by (have qg0 := HIDe r1; have qg1 := HIDe r2; omega)))
        exact ih14 _ (by omega) _ _ _ _ ((x14_3 + 1)) (rk_o (l14_0) rfl rfl) (rk_o (l14_1) rfl rfl) (rk_o (l14_2) rfl rfl) (rk_s) H O (hS_14) (hA_14)     (show inr ((x14_3 + 1)) by omega) (show 0 ≤ ((x14_3 + 1)) ∧ ((x14_3 + 1)) ≤ (z5) by omega) (by assumption) rfl
      · refine Ew_of (pc' := 35) (fun _ => x_iload_n rfl l14_3) ?_
        have : DFF (sc ((w2)) 0 ((u0_1))) (sc ((w3)) 0 ((u1_1))) ((x14_3)) := by first | exact absurd (hv25.symm.trans hv31) (by (have qg0 := HIDe r1; have qg1 := HIDe r2; omega)) | exact .inr ⟨by (have qg0 := HIDe r1; have qg1 := HIDe r2; omega), by (have qg0 := HIDe r1; have qg1 := HIDe r2; omega), by (have qg0 := HIDe r1; have qg1 := HIDe r2; omega), fun k a b => j14_a k a (by (have qg0 := HIDe r1; have qg1 := HIDe r2; omega)), .inl ⟨by (have qg0 := HIDe r1; have qg1 := HIDe r2; omega), by (have qg0 := HIDe r1; have qg1 := HIDe r2; omega), by rw [ap_sc (by (have qg0 := HIDe r1; have qg1 := HIDe r2; omega)) (by (have qg0 := HIDe r1; have qg1 := HIDe r2; omega)), ap_sc (by (have qg0 := HIDe r1; have qg1 := HIDe r2; omega)) (by (have qg0 := HIDe r1; have qg1 := HIDe r2; omega)), hv25, hv31]; exact fun w => absurd ((u8_inj (by have := hr1 ((x14_3)); rw [hv25] at this; exact this) (by have := hr2 ((x14_3)); rw [hv31] at this; exact this)).mp w) (by (have qg0 := HIDe r1; have qg1 := HIDe r2; omega))⟩⟩
        exact w_ireturn rfl (k (x14_3) _ _ _ H O (SF_trans (SF_refl) hS_14 (any_sub rfl)) (SA_trans (SA_refl) hA_14 (any_subA rfl)) (show inr (x14_3) by omega) (show DFF (sc ((w2)) 0 ((u0_1))) (sc ((w3)) 0 ((u1_1))) ((x14_3)) by assumption))
