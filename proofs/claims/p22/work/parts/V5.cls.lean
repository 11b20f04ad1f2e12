abbrev V18_vx : vV := [(0, 0, [(4, 0), (4, 0), (4, 0), (4, 0), (4, 0), (4, 0), (4, 0), (4, 0), (4, 0), (4, 0), (4, 0), (4, 0), (4, 0), (4, 0), (4, 0), (4, 0), (4, 0), (0, 0), (0, 0)])]
theorem len_V18_vx_oz_V5cls : (V18_vx).length = 1 := by decide +kernel
theorem oz_V5cls_1 : vsub V18_vx V24 [] = true := by decide +kernel
def oz_V5clsl_0 : List (Nat × Nat) := []
theorem oz_V5cls_2 : (oz_V5clsl_0).all (fun p => !tbz 0 (Nat.add (Nat.mul 32 p.1) p.2)) = true := by decide +kernel
def oz_V5clsl_1 : List Nat := []
theorem oz_V5cls_3 : (oz_V5clsl_1).all (fun p => !tbz 0 p) = true := by decide +kernel
theorem oz_V5cls_4 : okc oz_V5clsl_1 0 = true := by decide +kernel
/-- PackHouse.read: this -/
theorem C18_vx {σE : rS} {D N : Nat → Nat} {F : hF} {A : hA} {d c s : Nat} {Q : wQ} (H : HW V18_vx σE D N F A) {a1 a2 a3 a4 : Int} (h0 : inr (a1)) (h1 : inr (a2)) (h2 : inr (a3)) (h3 : inr (a4)) (h4 : (a2) < 0 ∨ 4 ≤ (a2)) (k : ∀ (z : Int) (σ : rS) (Fₚ : hF) (Aₚ : hA), HW V18_vx σ D N Fₚ Aₚ → OUT (V18_vx).length D N σE c s D N σ c s → SF [] F Fₚ → SA [] A Aₚ → (inr (z)) → Q (some (I z)) σ c s) : Ew 18 (d + 1) 0 (rargs 0 [.ref (D 0), I a1, I a2, I a3, I a4]) [] σE c s Q := by
  have O := OUT_refl (n := (V18_vx).length) (D := D) (N := N) (σ := σE) (c := c) (s := s)
  have HE := H
  refine Ew_of (pcₚ := 1) (fun _ => x_iload_n rfl rfl) ?_
  refine w_stat24 rfl rfl (by rfl) (C24 (D := puc 0 D) (N := puc 0 N) (HW_subc H oz_V5cls_1 oz_V5cls_4) (show inr (a1) from h0) (fun z1 σ1 F1ₚ A1ₚ Hₚ Oₚ hS1 hA1 pz1_0 pz1_1 => ⟨rretB rfl pz1_0, ?_⟩))
  refine v_backc (c := c) (s := s) H oz_V5cls_1 oz_V5cls_4 Hₚ Oₚ (fun F1 A1 H Oₚ eF1 eA1 => ?_)
  have O := OUT_trans O Oₚ
  -- PackHouse.isRow
  have cF1 : SF oz_V5clsl_0 F F1 := SF_trans (SF_refl) (SF_gluc (ι := oz_V5clsl_1) oz_V5cls_4 hS1 eF1 (by decide +kernel)) (any_sub (lₚ := []) (by decide +kernel))
  have mF1 := SFm_of cF1 oz_V5cls_2
  have cA1 : SA oz_V5clsl_1 A A1 := SA_trans (SA_refl) (SA_gluc (ι := oz_V5clsl_1) oz_V5cls_4 hA1 eA1 (by decide +kernel)) (any_subA (lₚ := []) (by decide +kernel))
  have mA1 := SAm_of cA1 oz_V5cls_3
  refine w_ifeq (t := 35) rfl rfl (show inr (z1) from q_15 pz1_0) (fun b2 => ?_) (fun b2 => ?_)
  · refine Ew_of (pcₚ := 37) (fun _ => x_bipush (z := -50) rfl (by decide)) ?_
    exact w_ireturn rfl (k ((-50)) _ _ _ H O (cF1) (cA1) (show inr ((-50)) from q_2016))
  · refine Ew_of (pcₚ := 8) (fun _ => x_iload_n rfl rfl) ?_
    refine w_stat24 rfl rfl (by rfl) (C24 (D := puc 0 D) (N := puc 0 N) (HW_subc H oz_V5cls_1 oz_V5cls_4) (show inr (a2) from h1) (fun z3 σ3 F3ₚ A3ₚ Hₚ Oₚ hS3 hA3 pz3_0 pz3_1 => ⟨rretB rfl pz3_0, ?_⟩))
    refine v_backc (c := c) (s := s) H oz_V5cls_1 oz_V5cls_4 Hₚ Oₚ (fun F3 A3 H Oₚ eF3 eA3 => ?_)
    have O := OUT_trans O Oₚ
    -- PackHouse.isRow
    have cF3 : SF oz_V5clsl_0 F F3 := SF_trans (cF1) (SF_gluc (ι := oz_V5clsl_1) oz_V5cls_4 hS3 eF3 (by decide +kernel)) (any_sub (lₚ := []) (by decide +kernel))
    have mF3 := SFm_of cF3 oz_V5cls_2
    have cA3 : SA oz_V5clsl_1 A A3 := SA_trans (cA1) (SA_gluc (ι := oz_V5clsl_1) oz_V5cls_4 hA3 eA3 (by decide +kernel)) (any_subA (lₚ := []) (by decide +kernel))
    have mA3 := SAm_of cA3 oz_V5cls_3
    refine w_ifeq (t := 35) rfl rfl (show inr (z3) from q_15 pz3_0) (fun b4 => ?_) (fun b4 => ?_)
    · refine Ew_of (pcₚ := 37) (fun _ => x_bipush (z := -50) rfl (by decide)) ?_
      exact w_ireturn rfl (k ((-50)) _ _ _ H O (cF3) (cA3) (show inr ((-50)) from q_2016))
    · exfalso
      omega
abbrev V20_vx : vV := [(0, 0, [(4, 0), (4, 0), (4, 0), (4, 0), (4, 0), (4, 0), (4, 0), (4, 0), (4, 0), (4, 0), (4, 0), (4, 0), (4, 0), (4, 0), (4, 0), (4, 0), (4, 0), (0, 0), (0, 0)])]
theorem len_V20_vx_oz_V5cls : (V20_vx).length = 1 := by decide +kernel
theorem oz_V5cls_6 : vsub V20_vx V24 [] = true := by decide +kernel
/-- PackHouse.open: this -/
theorem C20_vx {σE : rS} {D N : Nat → Nat} {F : hF} {A : hA} {d c s : Nat} {Q : wQ} (H : HW V20_vx σE D N F A) {a1 a2 a3 : Int} (h0 : inr (a1)) (h1 : inr (a2)) (h2 : inr (a3)) (h3 : (a2) < 0 ∨ 4 ≤ (a2)) (k : ∀ (z : Int) (σ : rS) (Fₚ : hF) (Aₚ : hA), HW V20_vx σ D N Fₚ Aₚ → OUT (V20_vx).length D N σE c s D N σ c s → SF [] F Fₚ → SA [] A Aₚ → (inr (z)) → Q (some (I z)) σ c s) : Ew 20 (d + 1) 0 (rargs 0 [.ref (D 0), I a1, I a2, I a3]) [] σE c s Q := by
  have O := OUT_refl (n := (V20_vx).length) (D := D) (N := N) (σ := σE) (c := c) (s := s)
  have HE := H
  refine Ew_of (pcₚ := 1) (fun _ => x_iload_n rfl rfl) ?_
  refine w_stat24 rfl rfl (by rfl) (C24 (D := puc 0 D) (N := puc 0 N) (HW_subc H oz_V5cls_6 oz_V5cls_4) (show inr (a1) from h0) (fun z1 σ1 F1ₚ A1ₚ Hₚ Oₚ hS1 hA1 pz1_0 pz1_1 => ⟨rretB rfl pz1_0, ?_⟩))
  refine v_backc (c := c) (s := s) H oz_V5cls_6 oz_V5cls_4 Hₚ Oₚ (fun F1 A1 H Oₚ eF1 eA1 => ?_)
  have O := OUT_trans O Oₚ
  -- PackHouse.isRow
  have cF1 : SF oz_V5clsl_0 F F1 := SF_trans (SF_refl) (SF_gluc (ι := oz_V5clsl_1) oz_V5cls_4 hS1 eF1 (by decide +kernel)) (any_sub (lₚ := []) (by decide +kernel))
  have mF1 := SFm_of cF1 oz_V5cls_2
  have cA1 : SA oz_V5clsl_1 A A1 := SA_trans (SA_refl) (SA_gluc (ι := oz_V5clsl_1) oz_V5cls_4 hA1 eA1 (by decide +kernel)) (any_subA (lₚ := []) (by decide +kernel))
  have mA1 := SAm_of cA1 oz_V5cls_3
  refine w_ifeq (t := 24) rfl rfl (show inr (z1) from q_15 pz1_0) (fun b2 => ?_) (fun b2 => ?_)
  · refine Ew_of (pcₚ := 26) (fun _ => x_bipush (z := -50) rfl (by decide)) ?_
    exact w_ireturn rfl (k ((-50)) _ _ _ H O (cF1) (cA1) (show inr ((-50)) from q_2016))
  · refine Ew_of (pcₚ := 8) (fun _ => x_iload_n rfl rfl) ?_
    refine w_stat24 rfl rfl (by rfl) (C24 (D := puc 0 D) (N := puc 0 N) (HW_subc H oz_V5cls_6 oz_V5cls_4) (show inr (a2) from h1) (fun z3 σ3 F3ₚ A3ₚ Hₚ Oₚ hS3 hA3 pz3_0 pz3_1 => ⟨rretB rfl pz3_0, ?_⟩))
    refine v_backc (c := c) (s := s) H oz_V5cls_6 oz_V5cls_4 Hₚ Oₚ (fun F3 A3 H Oₚ eF3 eA3 => ?_)
    have O := OUT_trans O Oₚ
    -- PackHouse.isRow
    have cF3 : SF oz_V5clsl_0 F F3 := SF_trans (cF1) (SF_gluc (ι := oz_V5clsl_1) oz_V5cls_4 hS3 eF3 (by decide +kernel)) (any_sub (lₚ := []) (by decide +kernel))
    have mF3 := SFm_of cF3 oz_V5cls_2
    have cA3 : SA oz_V5clsl_1 A A3 := SA_trans (cA1) (SA_gluc (ι := oz_V5clsl_1) oz_V5cls_4 hA3 eA3 (by decide +kernel)) (any_subA (lₚ := []) (by decide +kernel))
    have mA3 := SAm_of cA3 oz_V5cls_3
    refine w_ifeq (t := 24) rfl rfl (show inr (z3) from q_15 pz3_0) (fun b4 => ?_) (fun b4 => ?_)
    · refine Ew_of (pcₚ := 26) (fun _ => x_bipush (z := -50) rfl (by decide)) ?_
      exact w_ireturn rfl (k ((-50)) _ _ _ H O (cF3) (cA3) (show inr ((-50)) from q_2016))
    · exfalso
      omega
abbrev V15_vx : vV := [(0, 0, [(4, 0), (4, 0), (4, 0), (4, 0), (4, 0), (4, 0), (4, 0), (4, 0), (4, 0), (4, 0), (4, 0), (4, 0), (4, 0), (4, 0), (4, 0), (4, 0), (4, 0), (0, 0), (0, 0)])]
theorem len_V15_vx_oz_V5cls : (V15_vx).length = 1 := by decide +kernel
theorem oz_V5cls_8 : vsub V15_vx V24 [] = true := by decide +kernel
/-- PackHouse.learn: this -/
theorem C15_vx {σE : rS} {D N : Nat → Nat} {F : hF} {A : hA} {d c s : Nat} {Q : wQ} (H : HW V15_vx σE D N F A) {a1 : Int} (h0 : inr (a1)) (h1 : (a1) < 0 ∨ 4 ≤ (a1)) (k : ∀ (z : Int) (σ : rS) (Fₚ : hF) (Aₚ : hA), HW V15_vx σ D N Fₚ Aₚ → OUT (V15_vx).length D N σE c s D N σ c s → SF [] F Fₚ → SA [] A Aₚ → (inr (z)) → Q (some (I z)) σ c s) : Ew 15 (d + 1) 0 (rargs 0 [.ref (D 0), I a1]) [] σE c s Q := by
  have O := OUT_refl (n := (V15_vx).length) (D := D) (N := N) (σ := σE) (c := c) (s := s)
  have HE := H
  refine Ew_of (pcₚ := 1) (fun _ => x_iload_n rfl rfl) ?_
  refine w_stat24 rfl rfl (by rfl) (C24 (D := puc 0 D) (N := puc 0 N) (HW_subc H oz_V5cls_8 oz_V5cls_4) (show inr (a1) from h0) (fun z1 σ1 F1ₚ A1ₚ Hₚ Oₚ hS1 hA1 pz1_0 pz1_1 => ⟨rretB rfl pz1_0, ?_⟩))
  refine v_backc (c := c) (s := s) H oz_V5cls_8 oz_V5cls_4 Hₚ Oₚ (fun F1 A1 H Oₚ eF1 eA1 => ?_)
  have O := OUT_trans O Oₚ
  -- PackHouse.isRow
  have cF1 : SF oz_V5clsl_0 F F1 := SF_trans (SF_refl) (SF_gluc (ι := oz_V5clsl_1) oz_V5cls_4 hS1 eF1 (by decide +kernel)) (any_sub (lₚ := []) (by decide +kernel))
  have mF1 := SFm_of cF1 oz_V5cls_2
  have cA1 : SA oz_V5clsl_1 A A1 := SA_trans (SA_refl) (SA_gluc (ι := oz_V5clsl_1) oz_V5cls_4 hA1 eA1 (by decide +kernel)) (any_subA (lₚ := []) (by decide +kernel))
  have mA1 := SAm_of cA1 oz_V5cls_3
  refine w_ifne (t := 10) rfl rfl (show inr (z1) from q_15 pz1_0) (fun b2 => ?_) (fun b2 => ?_)
  · exfalso
    omega
  · refine Ew_of (pcₚ := 9) (fun _ => x_bipush (z := -5) rfl (by decide)) ?_
    exact w_ireturn rfl (k ((-5)) _ _ _ H O (cF1) (cA1) (show inr ((-5)) from q_2007))
