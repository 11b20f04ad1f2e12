abbrev V18_vx : vV := [(0, 0, [(4, 0), (4, 0), (4, 0), (4, 0), (4, 0), (4, 0), (4, 0), (4, 0), (4, 0), (4, 0), (4, 0), (4, 0), (4, 0), (4, 0), (4, 0), (4, 0), (4, 0), (0, 0), (0, 0)])]
/-- PackHouse.read: this -/
theorem C18_vx {σE : rS} {D N : Nat → Nat} {F : hF} {A : hA} {d c s : Nat} {Q : wQ} (H : HW V18_vx σE D N F A) {a1 a2 a3 a4 : Int} (h0 : inr (a1)) (h1 : inr (a2)) (h2 : inr (a3)) (h3 : inr (a4)) (h4 : (a2) < 0 ∨ 4 ≤ (a2)) (k : ∀ (z : Int) (σ : rS) (Fₚ : hF) (Aₚ : hA), HW V18_vx σ D N Fₚ Aₚ → OUT (V18_vx).length D N σE c s D N σ c s → SF [] F Fₚ → SA [] A Aₚ → (inr (z)) → Q (some (I z)) σ c s) : Ew 18 (d + 1) 0 (rargs 0 [.ref (D 0), I a1, I a2, I a3, I a4]) [] σE c s Q := by
  have O := OUT_refl (n := (V18_vx).length) (D := D) (N := N) (σ := σE) (c := c) (s := s)
  have HE := H
  refine Ew_of (pcₚ := 1) (fun _ => x_iload_n rfl rfl) ?_
  refine w_stat24 rfl rfl (by rfl) (C24 (D := pul [] D) (N := pul [] N) (HW_sub H (VS_of (show vsub V18_vx V24 [] = true by decide +kernel))) (show inr (a1) by omega) (fun z1 σ1 F1ₚ A1ₚ Hₚ Oₚ hS1 hA1 pz1_0 pz1_1 => ⟨rretB rfl pz1_0, ?_⟩))
  refine v_back (c := c) (s := s) H (show vsub V18_vx V24 [] = true by decide +kernel) Hₚ Oₚ (fun F1 A1 H Oₚ eF1 eA1 => ?_)
  have O := OUT_trans O Oₚ
  -- PackHouse.isRow
  refine w_ifeq (t := 35) rfl rfl (show inr (z1) by omega) (fun b2 => ?_) (fun b2 => ?_)
  · refine Ew_of (pcₚ := 37) (fun _ => x_bipush (z := -50) rfl (by decide)) ?_
    exact w_ireturn rfl (k ((-50)) _ _ _ H O (SF_trans (SF_refl) (SF_glu (ι := []) hS1 eF1 (by decide +kernel)) (any_sub (lₚ := []) rfl)) (SA_trans (SA_refl) (SA_glu (ι := []) hA1 eA1 (by decide +kernel)) (any_subA (lₚ := []) rfl)) (show inr ((-50)) by omega))
  · refine Ew_of (pcₚ := 8) (fun _ => x_iload_n rfl rfl) ?_
    refine w_stat24 rfl rfl (by rfl) (C24 (D := pul [] D) (N := pul [] N) (HW_sub H (VS_of (show vsub V18_vx V24 [] = true by decide +kernel))) (show inr (a2) by omega) (fun z3 σ3 F3ₚ A3ₚ Hₚ Oₚ hS3 hA3 pz3_0 pz3_1 => ⟨rretB rfl pz3_0, ?_⟩))
    refine v_back (c := c) (s := s) H (show vsub V18_vx V24 [] = true by decide +kernel) Hₚ Oₚ (fun F3 A3 H Oₚ eF3 eA3 => ?_)
    have O := OUT_trans O Oₚ
    -- PackHouse.isRow
    refine w_ifeq (t := 35) rfl rfl (show inr (z3) by omega) (fun b4 => ?_) (fun b4 => ?_)
    · refine Ew_of (pcₚ := 37) (fun _ => x_bipush (z := -50) rfl (by decide)) ?_
      exact w_ireturn rfl (k ((-50)) _ _ _ H O (SF_trans (SF_trans (SF_refl) (SF_glu (ι := []) hS1 eF1 (by decide +kernel)) (any_sub (lₚ := []) rfl)) (SF_glu (ι := []) hS3 eF3 (by decide +kernel)) (any_sub (lₚ := []) rfl)) (SA_trans (SA_trans (SA_refl) (SA_glu (ι := []) hA1 eA1 (by decide +kernel)) (any_subA (lₚ := []) rfl)) (SA_glu (ι := []) hA3 eA3 (by decide +kernel)) (any_subA (lₚ := []) rfl)) (show inr ((-50)) by omega))
    · exfalso
      omega
abbrev V20_vx : vV := [(0, 0, [(4, 0), (4, 0), (4, 0), (4, 0), (4, 0), (4, 0), (4, 0), (4, 0), (4, 0), (4, 0), (4, 0), (4, 0), (4, 0), (4, 0), (4, 0), (4, 0), (4, 0), (0, 0), (0, 0)])]
/-- PackHouse.open: this -/
theorem C20_vx {σE : rS} {D N : Nat → Nat} {F : hF} {A : hA} {d c s : Nat} {Q : wQ} (H : HW V20_vx σE D N F A) {a1 a2 a3 : Int} (h0 : inr (a1)) (h1 : inr (a2)) (h2 : inr (a3)) (h3 : (a2) < 0 ∨ 4 ≤ (a2)) (k : ∀ (z : Int) (σ : rS) (Fₚ : hF) (Aₚ : hA), HW V20_vx σ D N Fₚ Aₚ → OUT (V20_vx).length D N σE c s D N σ c s → SF [] F Fₚ → SA [] A Aₚ → (inr (z)) → Q (some (I z)) σ c s) : Ew 20 (d + 1) 0 (rargs 0 [.ref (D 0), I a1, I a2, I a3]) [] σE c s Q := by
  have O := OUT_refl (n := (V20_vx).length) (D := D) (N := N) (σ := σE) (c := c) (s := s)
  have HE := H
  refine Ew_of (pcₚ := 1) (fun _ => x_iload_n rfl rfl) ?_
  refine w_stat24 rfl rfl (by rfl) (C24 (D := pul [] D) (N := pul [] N) (HW_sub H (VS_of (show vsub V20_vx V24 [] = true by decide +kernel))) (show inr (a1) by omega) (fun z1 σ1 F1ₚ A1ₚ Hₚ Oₚ hS1 hA1 pz1_0 pz1_1 => ⟨rretB rfl pz1_0, ?_⟩))
  refine v_back (c := c) (s := s) H (show vsub V20_vx V24 [] = true by decide +kernel) Hₚ Oₚ (fun F1 A1 H Oₚ eF1 eA1 => ?_)
  have O := OUT_trans O Oₚ
  -- PackHouse.isRow
  refine w_ifeq (t := 24) rfl rfl (show inr (z1) by omega) (fun b2 => ?_) (fun b2 => ?_)
  · refine Ew_of (pcₚ := 26) (fun _ => x_bipush (z := -50) rfl (by decide)) ?_
    exact w_ireturn rfl (k ((-50)) _ _ _ H O (SF_trans (SF_refl) (SF_glu (ι := []) hS1 eF1 (by decide +kernel)) (any_sub (lₚ := []) rfl)) (SA_trans (SA_refl) (SA_glu (ι := []) hA1 eA1 (by decide +kernel)) (any_subA (lₚ := []) rfl)) (show inr ((-50)) by omega))
  · refine Ew_of (pcₚ := 8) (fun _ => x_iload_n rfl rfl) ?_
    refine w_stat24 rfl rfl (by rfl) (C24 (D := pul [] D) (N := pul [] N) (HW_sub H (VS_of (show vsub V20_vx V24 [] = true by decide +kernel))) (show inr (a2) by omega) (fun z3 σ3 F3ₚ A3ₚ Hₚ Oₚ hS3 hA3 pz3_0 pz3_1 => ⟨rretB rfl pz3_0, ?_⟩))
    refine v_back (c := c) (s := s) H (show vsub V20_vx V24 [] = true by decide +kernel) Hₚ Oₚ (fun F3 A3 H Oₚ eF3 eA3 => ?_)
    have O := OUT_trans O Oₚ
    -- PackHouse.isRow
    refine w_ifeq (t := 24) rfl rfl (show inr (z3) by omega) (fun b4 => ?_) (fun b4 => ?_)
    · refine Ew_of (pcₚ := 26) (fun _ => x_bipush (z := -50) rfl (by decide)) ?_
      exact w_ireturn rfl (k ((-50)) _ _ _ H O (SF_trans (SF_trans (SF_refl) (SF_glu (ι := []) hS1 eF1 (by decide +kernel)) (any_sub (lₚ := []) rfl)) (SF_glu (ι := []) hS3 eF3 (by decide +kernel)) (any_sub (lₚ := []) rfl)) (SA_trans (SA_trans (SA_refl) (SA_glu (ι := []) hA1 eA1 (by decide +kernel)) (any_subA (lₚ := []) rfl)) (SA_glu (ι := []) hA3 eA3 (by decide +kernel)) (any_subA (lₚ := []) rfl)) (show inr ((-50)) by omega))
    · exfalso
      omega
abbrev V15_vx : vV := [(0, 0, [(4, 0), (4, 0), (4, 0), (4, 0), (4, 0), (4, 0), (4, 0), (4, 0), (4, 0), (4, 0), (4, 0), (4, 0), (4, 0), (4, 0), (4, 0), (4, 0), (4, 0), (0, 0), (0, 0)])]
/-- PackHouse.learn: this -/
theorem C15_vx {σE : rS} {D N : Nat → Nat} {F : hF} {A : hA} {d c s : Nat} {Q : wQ} (H : HW V15_vx σE D N F A) {a1 : Int} (h0 : inr (a1)) (h1 : (a1) < 0 ∨ 4 ≤ (a1)) (k : ∀ (z : Int) (σ : rS) (Fₚ : hF) (Aₚ : hA), HW V15_vx σ D N Fₚ Aₚ → OUT (V15_vx).length D N σE c s D N σ c s → SF [] F Fₚ → SA [] A Aₚ → (inr (z)) → Q (some (I z)) σ c s) : Ew 15 (d + 1) 0 (rargs 0 [.ref (D 0), I a1]) [] σE c s Q := by
  have O := OUT_refl (n := (V15_vx).length) (D := D) (N := N) (σ := σE) (c := c) (s := s)
  have HE := H
  refine Ew_of (pcₚ := 1) (fun _ => x_iload_n rfl rfl) ?_
  refine w_stat24 rfl rfl (by rfl) (C24 (D := pul [] D) (N := pul [] N) (HW_sub H (VS_of (show vsub V15_vx V24 [] = true by decide +kernel))) (show inr (a1) by omega) (fun z1 σ1 F1ₚ A1ₚ Hₚ Oₚ hS1 hA1 pz1_0 pz1_1 => ⟨rretB rfl pz1_0, ?_⟩))
  refine v_back (c := c) (s := s) H (show vsub V15_vx V24 [] = true by decide +kernel) Hₚ Oₚ (fun F1 A1 H Oₚ eF1 eA1 => ?_)
  have O := OUT_trans O Oₚ
  -- PackHouse.isRow
  refine w_ifne (t := 10) rfl rfl (show inr (z1) by omega) (fun b2 => ?_) (fun b2 => ?_)
  · exfalso
    omega
  · refine Ew_of (pcₚ := 9) (fun _ => x_bipush (z := -5) rfl (by decide)) ?_
    exact w_ireturn rfl (k ((-5)) _ _ _ H O (SF_trans (SF_refl) (SF_glu (ι := []) hS1 eF1 (by decide +kernel)) (any_sub (lₚ := []) rfl)) (SA_trans (SA_refl) (SA_glu (ι := []) hA1 eA1 (by decide +kernel)) (any_subA (lₚ := []) rfl)) (show inr ((-5)) by omega))
