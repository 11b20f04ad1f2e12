section
/-! R2x.cls -/
theorem len_V33_Row_oz_R2xcls : (V33_Row).length = 2 := by decide +kernel
theorem oz_R2xcls_1 : vsub V33_Row V41_Br [1] = true := by decide +kernel
theorem oz_R2xcls_2 : vsub V33_Row V192_Br [1] = true := by decide +kernel
theorem oz_R2xcls_3 : vsub V33_Row V43_Br [1] = true := by decide +kernel
theorem oz_R2xcls_4 : vsub V33_Row V44_Br [1] = true := by decide +kernel
def oz_R2xclsl_0 : List (Nat × Nat) := []
theorem oz_R2xcls_5 : (oz_R2xclsl_0).all (fun p => !tbz 0 (Nat.add (Nat.mul 32 p.1) p.2)) = true := by decide +kernel
def oz_R2xclsl_1 : List Nat := []
theorem oz_R2xcls_6 : (oz_R2xclsl_1).all (fun p => !tbz 0 p) = true := by decide +kernel
def oz_R2xclsl_2 : List Nat := [1]
theorem oz_R2xcls_7 : okc oz_R2xclsl_2 1 = true := by decide +kernel

theorem C33_Rowp {σE : rS} {D N : Nat → Nat} {F : hF} {A : hA} {d c s : Nat} {Q : wQ} (H : HW V33_Row σE D N F A) (HT : STC σE)  (pf1 : HID (F 0 0 = (D 1 : Int))) (n1 : Int) (en1 : HID ((N 1 : Int) = n1)) (u0_1 : Int) (eu0_1 : HID (F 0 1 = u0_1)) (w1 : Int → Int) (ew1 : A 1 = w1) (h0 : 0 ≤ (u0_1) ∧ (u0_1) ≤ (n1) ∧ (n1) ≤ 65536) (k : ∀ (z : Int) (σ : rS) (Fₚ : hF) (Aₚ : hA), HW V33_Row σ D N Fₚ Aₚ → OUT (V33_Row).length D N σE c s D N σ c s → SF [] F Fₚ → SA [] A Aₚ → (inr (z)) → ((z) = 0 ∨ (z) = 1 ∨ 3 ≤ (z) ∧ (z) ≤ 5) → ((z) = knF (sc ((w1)) 0 ((u0_1)))) → Q (some (I z)) σ c s) : Ew 33 (d + 2) 0 (rargs 0 [.ref (D 0)]) [] σE c s Q := by
  have O := OUT_refl (n := (V33_Row).length) (D := D) (N := N) (σ := σE) (c := c) (s := s)
  have HE := H
  have r1 : HID ((-2147483648 : Int) ≤ u0_1 ∧ u0_1 ≤ 2147483647) := krg_e (show (-2147483648 : Int) ≤ F 0 1 ∧ F 0 1 ≤ 2147483647 from H.krg 0 1 (ltn len_V33_Row_oz_R2xcls rfl)) (show F 0 1 = u0_1 from (eu0_1))
  refine Ew_of (pcₚ := 1) (fun _ => x_aload_n rfl rfl) ?_
  refine v_g H (o := 0) (v := .ref (D 1)) rfl rfl rfl rfl rfl (vrf (pf1)) ?_
  refine Ew_of (pcₚ := 5) (fun _ => x_astore_n rfl) ?_
  refine Ew_of (pcₚ := 6) (fun _ => x_iconst rfl) ?_
  refine Ew_of (pcₚ := 7) (fun _ => x_istore_n rfl) ?_
  refine Ew_of (pcₚ := 8) (fun _ => x_iconst rfl) ?_
  refine Ew_of (pcₚ := 9) (fun _ => x_istore_n rfl) ?_
  have : KNO (sc ((w1)) 0 ((u0_1))) 0 := KNO_0
  suffices hl9 : ∀ (m : Nat), ∀ (ls : rO) (σ : rS) (F_9 : hF) (A_9 : hA) (x9_2 : Int) (x9_3 : Int), rlook ls 0 = some (.ref (D 0)) → rlook ls 1 = some (.ref (D 1)) → rlook ls 2 = some (I (x9_2)) → rlook ls 3 = some (I (x9_3)) → HW V33_Row σ D N F_9 A_9 → OUT (V33_Row).length D N σE c s D N σ c s → SF [] F F_9 → SA [] A A_9 → (inr (x9_2)) → (inr (x9_3)) → (0 ≤ (x9_2) ∧ (x9_2) ≤ (u0_1)) → (0 ≤ (x9_3) ∧ 8 * (x9_3) ≤ (x9_2)) → (KNO (sc ((w1)) 0 ((u0_1))) ((x9_2))) → ((u0_1) + 2 - (x9_3)).toNat = m → Ew 33 (d + 2) 9 ls [] σ c s Q from
    hl9 _ _ _ _ _ (0) (0) (rk_o (rk_o (rk_o (rfl) rfl rfl) rfl rfl) rfl rfl) (rk_o (rk_o (rk_s) rfl rfl) rfl rfl) (rk_o (rk_s) rfl rfl) (rk_s) H O (SF_refl) (SA_refl)     (show inr (0) from q_2) (show inr (0) from q_2) (show 0 ≤ (0) ∧ (0) ≤ (u0_1) from q_3013 h0) (show 0 ≤ (0) ∧ 8 * (0) ≤ (0) from q_5044) (show KNO (sc ((w1)) 0 ((u0_1))) ((0)) by assumption) rfl
  as_aux_lemma =>
  intro m
  induction m using Nat.strongRecOn with
  | _ m ih9 =>
    intro ls σ F_9 A_9 x9_2 x9_3 l9_0 l9_1 l9_2 l9_3 H O hS_9 hA_9     j9_0 j9_1 j9_2 j9_3 j9_4 hm9
    have cF_9 : SF oz_R2xclsl_0 F F_9 := SF_trans (SF_refl) hS_9 (any_sub (by decide +kernel))
    have mF_9 := SFm_of cF_9 oz_R2xcls_5
    have cA_9 : SA oz_R2xclsl_1 A A_9 := SA_trans (SA_refl) hA_9 (any_subA (by decide +kernel))
    have mA_9 := SAm_of cA_9 oz_R2xcls_6
    have j9_k : KNO (sc ((w1)) 0 ((u0_1))) ((x9_2)) := j9_4
    refine Ew_of (pcₚ := 10) (fun _ => x_iload_n rfl l9_3) ?_
    refine Ew_of (pcₚ := 11) (fun _ => x_aload_n rfl l9_0) ?_
    refine v_g H (o := 0) (v := I (u0_1)) rfl rfl rfl rfl rfl (congrArg (fun z : Int => I z) (((mF_9 0 1 rfl).trans (eu0_1)) : F_9 0 1 = u0_1)) ?_
    refine w_icmpgt (t := 56) rfl rfl (show inr (x9_3) from j9_1) (show inr (u0_1) from q_38 h0) (fun b3 => ?_) (fun b3 => ?_)
    · have hkn : knF (sc ((w1)) 0 ((u0_1))) = knE (sc ((w1)) 0 ((u0_1))) ((x9_2)) := KNc_e (by (have qg0 := HIDe r1; omega)) j9_k (by (have qg0 := HIDe r1; omega)) (by first | (exfalso; (have qg0 := HIDe r1; omega)) | (have h := hsp; rw [show zMISS = 0 by (have qg0 := HIDe r1; omega)] at h; exact h))
      refine Ew_of (pcₚ := 57) (fun _ => x_aload_n rfl l9_0) ?_
      refine v_g H (o := 0) (v := I (u0_1)) rfl rfl rfl rfl rfl (congrArg (fun z : Int => I z) (((mF_9 0 1 rfl).trans (eu0_1)) : F_9 0 1 = u0_1)) ?_
      refine Ew_of (pcₚ := 61) (fun _ => x_iload_n rfl l9_2) ?_
      refine w_isub rfl ?_
      refine Ew_of (pcₚ := 63) (fun _ => x_iconst rfl) ?_
      refine w_icmpge (t := 68) rfl rfl (show inr ((u0_1 - x9_2)) from q_5045 b3 j9_2 j9_3) (show inr (4) from q_216) (fun b4 => ?_) (fun b4 => ?_)
      · refine Ew_of (pcₚ := 69) (fun _ => x_aload_n rfl l9_1) ?_
        refine Ew_of (pcₚ := 70) (fun _ => x_iload_n rfl l9_2) ?_
        refine w_stat24 rfl rfl (by rfl) (C41_Br (D := puc 1 D) (N := puc 1 N) (HW_subc H oz_R2xcls_1 oz_R2xcls_7) (n1) (en1) (w1) ((funext (mA_9 1 rfl)).trans (ew1)) (show inr (x9_2) from j9_0) (show 0 ≤ (x9_2) ∧ (x9_2) + 4 ≤ (n1) from q_3015 b4 h0 j9_2) (fun z5 σ5 F5ₚ A5ₚ Hₚ Oₚ hS5 hA5 pz5_0 pz5_1 => ⟨rfl, ?_⟩))
        refine v_backc (c := c) (s := s) H oz_R2xcls_1 oz_R2xcls_7 Hₚ Oₚ (fun F5 A5 H Oₚ eF5 eA5 => ?_)
        have O := OUT_trans O Oₚ
        -- PackHouse.word
        have cF5 : SF oz_R2xclsl_0 F F5 := SF_trans (cF_9) (SF_gluc (ι := oz_R2xclsl_2) oz_R2xcls_7 hS5 eF5 (by decide +kernel)) (any_sub (lₚ := []) (by decide +kernel))
        have mF5 := SFm_of cF5 oz_R2xcls_5
        have cA5 : SA oz_R2xclsl_1 A A5 := SA_trans (cA_9) (SA_gluc (ι := oz_R2xclsl_2) oz_R2xcls_7 hA5 eA5 (by decide +kernel)) (any_subA (lₚ := []) (by decide +kernel))
        have mA5 := SAm_of cA5 oz_R2xcls_6
        have hwd := KNc_w (n := (u0_1)) (by (have qg0 := HIDe r1; omega)) (by (have qg0 := HIDe r1; omega)) (by (have qg0 := HIDe r1; omega)) pz5_1
        by_cases b6 : z5 = (-332356553)
        · refine w_lsk 112 rfl (show inr (z5) from pz5_0) b6 rfl rfl ?_
          refine Ew_of (pcₚ := 113) (fun _ => x_iconst rfl) ?_
          have : ((5) : Int) = knF (sc ((w1)) 0 ((u0_1))) := (hkn.trans (hwd.2.2.1 (by (have qg0 := HIDe r1; omega)))).symm
          exact w_ireturn rfl (k (5) _ _ _ H O (cF5) (cA5) (show inr (5) from q_727) (show (5) = 0 ∨ (5) = 1 ∨ 3 ≤ (5) ∧ (5) ≤ 5 by first | exact q_3016 | omega) (show (5) = knF (sc ((w1)) 0 ((u0_1))) by assumption))
        ·
          by_cases b7 : z5 = (-47205080)
          · refine w_lsk 110 rfl (show inr (z5) from pz5_0) b7 rfl rfl ?_
            refine Ew_of (pcₚ := 111) (fun _ => x_iconst rfl) ?_
            have : ((4) : Int) = knF (sc ((w1)) 0 ((u0_1))) := (hkn.trans (hwd.2.1 (by (have qg0 := HIDe r1; omega)))).symm
            exact w_ireturn rfl (k (4) _ _ _ H O (cF5) (cA5) (show inr (4) from q_216) (show (4) = 0 ∨ (4) = 1 ∨ 3 ≤ (4) ∧ (4) ≤ 5 by first | exact q_3017 | omega) (show (4) = knF (sc ((w1)) 0 ((u0_1))) by assumption))
          ·
            by_cases b8 : z5 = 407708164
            · refine w_lsk 108 rfl (show inr (z5) from pz5_0) b8 rfl rfl ?_
              refine Ew_of (pcₚ := 109) (fun _ => x_iconst rfl) ?_
              have : ((1) : Int) = knF (sc ((w1)) 0 ((u0_1))) := (hkn.trans (hwd.1 (by (have qg0 := HIDe r1; omega)))).symm
              exact w_ireturn rfl (k (1) _ _ _ H O (cF5) (cA5) (show inr (1) from q_135) (show (1) = 0 ∨ (1) = 1 ∨ 3 ≤ (1) ∧ (1) ≤ 5 by first | exact q_3018 | omega) (show (1) = knF (sc ((w1)) 0 ((u0_1))) by assumption))
            ·
              refine w_lsd 114 rfl (show inr (z5) from pz5_0) (by intro q hq; simp at hq; rcases hq with rfl | rfl | rfl <;> (first | omega | (simp; omega) | (intro e; simp at e; omega))) rfl ?_
              refine Ew_of (pcₚ := 115) (fun _ => x_aload_n rfl l9_1) ?_
              refine Ew_of (pcₚ := 116) (fun _ => x_iload_n rfl l9_2) ?_
              refine Ew_of (pcₚ := 117) (fun _ => x_aload_n rfl l9_0) ?_
              refine v_g H (o := 0) (v := I (u0_1)) rfl rfl rfl rfl rfl (congrArg (fun z : Int => I z) (((mF5 0 1 rfl).trans (eu0_1)) : F5 0 1 = u0_1)) ?_
              refine w_stat24 rfl rfl (by rfl) (C192_Br (D := puc 1 D) (N := puc 1 N) (HW_subc H oz_R2xcls_2 oz_R2xcls_7) (STC_out HT HE O) (n1) (en1) (w1) ((funext (mA5 1 rfl)).trans (ew1)) (show inr (x9_2) from j9_0) (show inr (u0_1) from q_38 h0) (show 0 ≤ (x9_2) ∧ 0 ≤ (u0_1) ∧ (u0_1) ≤ (n1) ∧ (n1) ≤ 65536 ∧ (x9_2) ≤ 200000 from q_5046 b3 b4 h0 j9_2 j9_3) (fun z9 σ9 F9ₚ A9ₚ Hₚ Oₚ hS9 hA9 pz9_0 pz9_1 => ⟨rretB rfl pz9_0, ?_⟩))
              refine v_backc (c := c) (s := s) H oz_R2xcls_2 oz_R2xcls_7 Hₚ Oₚ (fun F9 A9 H Oₚ eF9 eA9 => ?_)
              have O := OUT_trans O Oₚ
              -- Tags.isMark
              have cF9 : SF oz_R2xclsl_0 F F9 := SF_trans (cF5) (SF_gluc (ι := oz_R2xclsl_2) oz_R2xcls_7 hS9 eF9 (by decide +kernel)) (any_sub (lₚ := []) (by decide +kernel))
              have mF9 := SFm_of cF9 oz_R2xcls_5
              have cA9 : SA oz_R2xclsl_1 A A9 := SA_trans (cA5) (SA_gluc (ι := oz_R2xclsl_2) oz_R2xcls_7 hA9 eA9 (by decide +kernel)) (any_subA (lₚ := []) (by decide +kernel))
              have mA9 := SAm_of cA9 oz_R2xcls_6
              have him := pz9_1
              refine w_ifeq (t := 130) rfl rfl (show inr (z9) from q_138 pz9_0) (fun b10 => ?_) (fun b10 => ?_)
              · refine Ew_of (pcₚ := 131) (fun _ => x_iconst rfl) ?_
                have : ((0) : Int) = knF (sc ((w1)) 0 ((u0_1))) := (hkn.trans (by first | exact (hwd.2.2.2 (by (have qg0 := HIDe r1; omega)) (by (have qg0 := HIDe r1; omega)) (by (have qg0 := HIDe r1; omega))).1 (by have h := him; rw [show z9 = 1 by (have qg0 := HIDe r1; omega)] at h; exact h) | exact (hwd.2.2.2 (by (have qg0 := HIDe r1; omega)) (by (have qg0 := HIDe r1; omega)) (by (have qg0 := HIDe r1; omega))).2 (by have h := him; rw [show z9 = 0 by (have qg0 := HIDe r1; omega)] at h; exact h))).symm
                exact w_ireturn rfl (k (0) _ _ _ H O (cF9) (cA9) (show inr (0) from q_2) (show (0) = 0 ∨ (0) = 1 ∨ 3 ≤ (0) ∧ (0) ≤ 5 by first | exact q_3020 | omega) (show (0) = knF (sc ((w1)) 0 ((u0_1))) by assumption))
              · refine Ew_of (pcₚ := 127) (fun _ => x_iconst rfl) ?_
                refine Ew_of (pcₚ := 131) (fun _ => x_goto rfl rfl) ?_
                have : ((3) : Int) = knF (sc ((w1)) 0 ((u0_1))) := (hkn.trans (by first | exact (hwd.2.2.2 (by (have qg0 := HIDe r1; omega)) (by (have qg0 := HIDe r1; omega)) (by (have qg0 := HIDe r1; omega))).1 (by have h := him; rw [show z9 = 1 by (have qg0 := HIDe r1; omega)] at h; exact h) | exact (hwd.2.2.2 (by (have qg0 := HIDe r1; omega)) (by (have qg0 := HIDe r1; omega)) (by (have qg0 := HIDe r1; omega))).2 (by have h := him; rw [show z9 = 0 by (have qg0 := HIDe r1; omega)] at h; exact h))).symm
                exact w_ireturn rfl (k (3) _ _ _ H O (cF9) (cA9) (show inr (3) from q_246) (show (3) = 0 ∨ (3) = 1 ∨ 3 ≤ (3) ∧ (3) ≤ 5 by first | exact q_3021 | omega) (show (3) = knF (sc ((w1)) 0 ((u0_1))) by assumption))
      · refine Ew_of (pcₚ := 67) (fun _ => x_iconst rfl) ?_
        have : ((0) : Int) = knF (sc ((w1)) 0 ((u0_1))) := (hkn.trans (knE_n (by rw [sc_lenI (by (have qg0 := HIDe r1; omega))]; (have qg0 := HIDe r1; omega)))).symm
        exact w_ireturn rfl (k (0) _ _ _ H O (cF_9) (cA_9) (show inr (0) from q_2) (show (0) = 0 ∨ (0) = 1 ∨ 3 ≤ (0) ∧ (0) ≤ 5 by first | exact q_3020 | omega) (show (0) = knF (sc ((w1)) 0 ((u0_1))) by assumption))
    · refine Ew_of (pcₚ := 18) (fun _ => x_aload_n rfl l9_1) ?_
      refine Ew_of (pcₚ := 19) (fun _ => x_iload_n rfl l9_2) ?_
      refine Ew_of (pcₚ := 20) (fun _ => x_aload_n rfl l9_0) ?_
      refine v_g H (o := 0) (v := I (u0_1)) rfl rfl rfl rfl rfl (congrArg (fun z : Int => I z) (((mF_9 0 1 rfl).trans (eu0_1)) : F_9 0 1 = u0_1)) ?_
      refine w_stat24 rfl rfl (by rfl) (C43_Br (D := puc 1 D) (N := puc 1 N) (HW_subc H oz_R2xcls_3 oz_R2xcls_7) (n1) (en1) (w1) ((funext (mA_9 1 rfl)).trans (ew1)) (show inr (x9_2) from j9_0) (show inr (u0_1) from q_38 h0) (show 0 ≤ (x9_2) ∧ 0 ≤ (u0_1) ∧ (u0_1) ≤ (n1) ∧ (n1) ≤ 65536 ∧ (x9_2) ≤ 200000 from q_3022 h0 j9_2) (fun z11 σ11 F11ₚ A11ₚ Hₚ Oₚ hS11 hA11 pz11_0 pz11_1 pz11_2 => ⟨rretB rfl pz11_0, ?_⟩))
      refine v_backc (c := c) (s := s) H oz_R2xcls_3 oz_R2xcls_7 Hₚ Oₚ (fun F11 A11 H Oₚ eF11 eA11 => ?_)
      have O := OUT_trans O Oₚ
      -- PackHouse.isSpare
      have cF11 : SF oz_R2xclsl_0 F F11 := SF_trans (cF_9) (SF_gluc (ι := oz_R2xclsl_2) oz_R2xcls_7 hS11 eF11 (by decide +kernel)) (any_sub (lₚ := []) (by decide +kernel))
      have mF11 := SFm_of cF11 oz_R2xcls_5
      have cA11 : SA oz_R2xclsl_1 A A11 := SA_trans (cA_9) (SA_gluc (ι := oz_R2xclsl_2) oz_R2xcls_7 hA11 eA11 (by decide +kernel)) (any_subA (lₚ := []) (by decide +kernel))
      have mA11 := SAm_of cA11 oz_R2xcls_6
      have hsp := pz11_2
      refine w_ifeq (t := 56) rfl rfl (show inr (z11) from q_138 pz11_0) (fun b12 => ?_) (fun b12 => ?_)
      · have hkn : knF (sc ((w1)) 0 ((u0_1))) = knE (sc ((w1)) 0 ((u0_1))) ((x9_2)) := KNc_e (by (have qg0 := HIDe r1; omega)) j9_k (by (have qg0 := HIDe r1; omega)) (by first | (exfalso; (have qg0 := HIDe r1; omega)) | (have h := hsp; rw [show z11 = 0 by (have qg0 := HIDe r1; omega)] at h; exact h))
        refine Ew_of (pcₚ := 57) (fun _ => x_aload_n rfl l9_0) ?_
        refine v_g H (o := 0) (v := I (u0_1)) rfl rfl rfl rfl rfl (congrArg (fun z : Int => I z) (((mF11 0 1 rfl).trans (eu0_1)) : F11 0 1 = u0_1)) ?_
        refine Ew_of (pcₚ := 61) (fun _ => x_iload_n rfl l9_2) ?_
        refine w_isub rfl ?_
        refine Ew_of (pcₚ := 63) (fun _ => x_iconst rfl) ?_
        refine w_icmpge (t := 68) rfl rfl (show inr ((u0_1 - x9_2)) from q_3014 h0 j9_2) (show inr (4) from q_216) (fun b13 => ?_) (fun b13 => ?_)
        · refine Ew_of (pcₚ := 69) (fun _ => x_aload_n rfl l9_1) ?_
          refine Ew_of (pcₚ := 70) (fun _ => x_iload_n rfl l9_2) ?_
          refine w_stat24 rfl rfl (by rfl) (C41_Br (D := puc 1 D) (N := puc 1 N) (HW_subc H oz_R2xcls_1 oz_R2xcls_7) (n1) (en1) (w1) ((funext (mA11 1 rfl)).trans (ew1)) (show inr (x9_2) from j9_0) (show 0 ≤ (x9_2) ∧ (x9_2) + 4 ≤ (n1) from q_3015 b13 h0 j9_2) (fun z14 σ14 F14ₚ A14ₚ Hₚ Oₚ hS14 hA14 pz14_0 pz14_1 => ⟨rfl, ?_⟩))
          refine v_backc (c := c) (s := s) H oz_R2xcls_1 oz_R2xcls_7 Hₚ Oₚ (fun F14 A14 H Oₚ eF14 eA14 => ?_)
          have O := OUT_trans O Oₚ
          -- PackHouse.word
          have cF14 : SF oz_R2xclsl_0 F F14 := SF_trans (cF11) (SF_gluc (ι := oz_R2xclsl_2) oz_R2xcls_7 hS14 eF14 (by decide +kernel)) (any_sub (lₚ := []) (by decide +kernel))
          have mF14 := SFm_of cF14 oz_R2xcls_5
          have cA14 : SA oz_R2xclsl_1 A A14 := SA_trans (cA11) (SA_gluc (ι := oz_R2xclsl_2) oz_R2xcls_7 hA14 eA14 (by decide +kernel)) (any_subA (lₚ := []) (by decide +kernel))
          have mA14 := SAm_of cA14 oz_R2xcls_6
          have hwd := KNc_w (n := (u0_1)) (by (have qg0 := HIDe r1; omega)) (by (have qg0 := HIDe r1; omega)) (by (have qg0 := HIDe r1; omega)) pz14_1
          by_cases b15 : z14 = (-332356553)
          · refine w_lsk 112 rfl (show inr (z14) from pz14_0) b15 rfl rfl ?_
            refine Ew_of (pcₚ := 113) (fun _ => x_iconst rfl) ?_
            have : ((5) : Int) = knF (sc ((w1)) 0 ((u0_1))) := (hkn.trans (hwd.2.2.1 (by (have qg0 := HIDe r1; omega)))).symm
            exact w_ireturn rfl (k (5) _ _ _ H O (cF14) (cA14) (show inr (5) from q_727) (show (5) = 0 ∨ (5) = 1 ∨ 3 ≤ (5) ∧ (5) ≤ 5 by first | exact q_3016 | omega) (show (5) = knF (sc ((w1)) 0 ((u0_1))) by assumption))
          ·
            by_cases b16 : z14 = (-47205080)
            · refine w_lsk 110 rfl (show inr (z14) from pz14_0) b16 rfl rfl ?_
              refine Ew_of (pcₚ := 111) (fun _ => x_iconst rfl) ?_
              have : ((4) : Int) = knF (sc ((w1)) 0 ((u0_1))) := (hkn.trans (hwd.2.1 (by (have qg0 := HIDe r1; omega)))).symm
              exact w_ireturn rfl (k (4) _ _ _ H O (cF14) (cA14) (show inr (4) from q_216) (show (4) = 0 ∨ (4) = 1 ∨ 3 ≤ (4) ∧ (4) ≤ 5 by first | exact q_3017 | omega) (show (4) = knF (sc ((w1)) 0 ((u0_1))) by assumption))
            ·
              by_cases b17 : z14 = 407708164
              · refine w_lsk 108 rfl (show inr (z14) from pz14_0) b17 rfl rfl ?_
                refine Ew_of (pcₚ := 109) (fun _ => x_iconst rfl) ?_
                have : ((1) : Int) = knF (sc ((w1)) 0 ((u0_1))) := (hkn.trans (hwd.1 (by (have qg0 := HIDe r1; omega)))).symm
                exact w_ireturn rfl (k (1) _ _ _ H O (cF14) (cA14) (show inr (1) from q_135) (show (1) = 0 ∨ (1) = 1 ∨ 3 ≤ (1) ∧ (1) ≤ 5 by first | exact q_3018 | omega) (show (1) = knF (sc ((w1)) 0 ((u0_1))) by assumption))
              ·
                refine w_lsd 114 rfl (show inr (z14) from pz14_0) (by intro q hq; simp at hq; rcases hq with rfl | rfl | rfl <;> (first | omega | (simp; omega) | (intro e; simp at e; omega))) rfl ?_
                refine Ew_of (pcₚ := 115) (fun _ => x_aload_n rfl l9_1) ?_
                refine Ew_of (pcₚ := 116) (fun _ => x_iload_n rfl l9_2) ?_
                refine Ew_of (pcₚ := 117) (fun _ => x_aload_n rfl l9_0) ?_
                refine v_g H (o := 0) (v := I (u0_1)) rfl rfl rfl rfl rfl (congrArg (fun z : Int => I z) (((mF14 0 1 rfl).trans (eu0_1)) : F14 0 1 = u0_1)) ?_
                refine w_stat24 rfl rfl (by rfl) (C192_Br (D := puc 1 D) (N := puc 1 N) (HW_subc H oz_R2xcls_2 oz_R2xcls_7) (STC_out HT HE O) (n1) (en1) (w1) ((funext (mA14 1 rfl)).trans (ew1)) (show inr (x9_2) from j9_0) (show inr (u0_1) from q_38 h0) (show 0 ≤ (x9_2) ∧ 0 ≤ (u0_1) ∧ (u0_1) ≤ (n1) ∧ (n1) ≤ 65536 ∧ (x9_2) ≤ 200000 from q_3019 b13 h0 j9_2) (fun z18 σ18 F18ₚ A18ₚ Hₚ Oₚ hS18 hA18 pz18_0 pz18_1 => ⟨rretB rfl pz18_0, ?_⟩))
                refine v_backc (c := c) (s := s) H oz_R2xcls_2 oz_R2xcls_7 Hₚ Oₚ (fun F18 A18 H Oₚ eF18 eA18 => ?_)
                have O := OUT_trans O Oₚ
                -- Tags.isMark
                have cF18 : SF oz_R2xclsl_0 F F18 := SF_trans (cF14) (SF_gluc (ι := oz_R2xclsl_2) oz_R2xcls_7 hS18 eF18 (by decide +kernel)) (any_sub (lₚ := []) (by decide +kernel))
                have mF18 := SFm_of cF18 oz_R2xcls_5
                have cA18 : SA oz_R2xclsl_1 A A18 := SA_trans (cA14) (SA_gluc (ι := oz_R2xclsl_2) oz_R2xcls_7 hA18 eA18 (by decide +kernel)) (any_subA (lₚ := []) (by decide +kernel))
                have mA18 := SAm_of cA18 oz_R2xcls_6
                have him := pz18_1
                refine w_ifeq (t := 130) rfl rfl (show inr (z18) from q_138 pz18_0) (fun b19 => ?_) (fun b19 => ?_)
                · refine Ew_of (pcₚ := 131) (fun _ => x_iconst rfl) ?_
                  have : ((0) : Int) = knF (sc ((w1)) 0 ((u0_1))) := (hkn.trans (by first | exact (hwd.2.2.2 (by (have qg0 := HIDe r1; omega)) (by (have qg0 := HIDe r1; omega)) (by (have qg0 := HIDe r1; omega))).1 (by have h := him; rw [show z18 = 1 by (have qg0 := HIDe r1; omega)] at h; exact h) | exact (hwd.2.2.2 (by (have qg0 := HIDe r1; omega)) (by (have qg0 := HIDe r1; omega)) (by (have qg0 := HIDe r1; omega))).2 (by have h := him; rw [show z18 = 0 by (have qg0 := HIDe r1; omega)] at h; exact h))).symm
                  exact w_ireturn rfl (k (0) _ _ _ H O (cF18) (cA18) (show inr (0) from q_2) (show (0) = 0 ∨ (0) = 1 ∨ 3 ≤ (0) ∧ (0) ≤ 5 by first | exact q_3020 | omega) (show (0) = knF (sc ((w1)) 0 ((u0_1))) by assumption))
                · refine Ew_of (pcₚ := 127) (fun _ => x_iconst rfl) ?_
                  refine Ew_of (pcₚ := 131) (fun _ => x_goto rfl rfl) ?_
                  have : ((3) : Int) = knF (sc ((w1)) 0 ((u0_1))) := (hkn.trans (by first | exact (hwd.2.2.2 (by (have qg0 := HIDe r1; omega)) (by (have qg0 := HIDe r1; omega)) (by (have qg0 := HIDe r1; omega))).1 (by have h := him; rw [show z18 = 1 by (have qg0 := HIDe r1; omega)] at h; exact h) | exact (hwd.2.2.2 (by (have qg0 := HIDe r1; omega)) (by (have qg0 := HIDe r1; omega)) (by (have qg0 := HIDe r1; omega))).2 (by have h := him; rw [show z18 = 0 by (have qg0 := HIDe r1; omega)] at h; exact h))).symm
                  exact w_ireturn rfl (k (3) _ _ _ H O (cF18) (cA18) (show inr (3) from q_246) (show (3) = 0 ∨ (3) = 1 ∨ 3 ≤ (3) ∧ (3) ≤ 5 by first | exact q_3021 | omega) (show (3) = knF (sc ((w1)) 0 ((u0_1))) by assumption))
        · refine Ew_of (pcₚ := 67) (fun _ => x_iconst rfl) ?_
          have : ((0) : Int) = knF (sc ((w1)) 0 ((u0_1))) := (hkn.trans (knE_n (by rw [sc_lenI (by (have qg0 := HIDe r1; omega))]; (have qg0 := HIDe r1; omega)))).symm
          exact w_ireturn rfl (k (0) _ _ _ H O (cF11) (cA11) (show inr (0) from q_2) (show (0) = 0 ∨ (0) = 1 ∨ 3 ≤ (0) ∧ (0) ≤ 5 by first | exact q_3020 | omega) (show (0) = knF (sc ((w1)) 0 ((u0_1))) by assumption))
      · refine Ew_of (pcₚ := 30) (fun _ => x_aload_n rfl l9_1) ?_
        refine Ew_of (pcₚ := 31) (fun _ => x_iload_n rfl l9_2) ?_
        refine Ew_of (pcₚ := 32) (fun _ => x_aload_n rfl l9_0) ?_
        refine v_g H (o := 0) (v := I (u0_1)) rfl rfl rfl rfl rfl (congrArg (fun z : Int => I z) (((mF11 0 1 rfl).trans (eu0_1)) : F11 0 1 = u0_1)) ?_
        refine w_stat24 rfl rfl (by rfl) (C44_Br (D := puc 1 D) (N := puc 1 N) (HW_subc H oz_R2xcls_4 oz_R2xcls_7) (n1) (en1) (w1) ((funext (mA11 1 rfl)).trans (ew1)) (show inr (x9_2) from j9_0) (show inr (u0_1) from q_38 h0) (show 0 ≤ (x9_2) ∧ 0 ≤ (u0_1) ∧ (u0_1) ≤ (n1) ∧ (n1) ≤ 65536 ∧ (x9_2) ≤ 200000 from q_3022 h0 j9_2) (fun z20 σ20 F20ₚ A20ₚ Hₚ Oₚ hS20 hA20 pz20_0 pz20_1 pz20_2 => ⟨rfl, ?_⟩))
        refine v_backc (c := c) (s := s) H oz_R2xcls_4 oz_R2xcls_7 Hₚ Oₚ (fun F20 A20 H Oₚ eF20 eA20 => ?_)
        have O := OUT_trans O Oₚ
        -- PackHouse.afterSpare
        have cF20 : SF oz_R2xclsl_0 F F20 := SF_trans (cF11) (SF_gluc (ι := oz_R2xclsl_2) oz_R2xcls_7 hS20 eF20 (by decide +kernel)) (any_sub (lₚ := []) (by decide +kernel))
        have mF20 := SFm_of cF20 oz_R2xcls_5
        have cA20 : SA oz_R2xclsl_1 A A20 := SA_trans (cA11) (SA_gluc (ι := oz_R2xclsl_2) oz_R2xcls_7 hA20 eA20 (by decide +kernel)) (any_subA (lₚ := []) (by decide +kernel))
        have mA20 := SAm_of cA20 oz_R2xcls_6
        have has := pz20_2
        refine Ew_of (pcₚ := 40) (fun _ => x_istore rfl) ?_
        refine Ew_of (pcₚ := 42) (fun _ => x_iload rfl rk_s) ?_
        refine w_ifge (t := 47) rfl rfl (show inr (z20) from pz20_0) (fun b21 => ?_) (fun b21 => ?_)
        · refine Ew_of (pcₚ := 49) (fun _ => x_iload rfl rk_s) ?_
          refine Ew_of (pcₚ := 50) (fun _ => x_istore_n rfl) ?_
          refine Ew_of (pcₚ := 53) (fun _ => x_iinc (len := 3) rfl (rk_o (rk_o (l9_3) rfl rfl) rfl rfl)) ?_
          refine Ew_of (pcₚ := 9) (fun _ => x_goto rfl rfl) ?_
          have : KNO (sc ((w1)) 0 ((u0_1))) ((z20)) := KNO_c (by (have qg0 := HIDe r1; omega)) j9_k (by (have qg0 := HIDe r1; omega)) (show SPQ _ _ _ 1 by have h := hsp; rw [show z11 = 1 by (have qg0 := HIDe r1; omega)] at h; exact h) has (by (have qg0 := HIDe r1; omega))
          exact ih9 _ (msE hm9 q_2575 (q_3026 b3)) _ _ _ _ (z20) ((x9_3 + 1)) (rk_o (rk_o (rk_o (l9_0) rfl rfl) rfl rfl) rfl rfl) (rk_o (rk_o (rk_o (l9_1) rfl rfl) rfl rfl) rfl rfl) (rk_o (rk_s) rfl rfl) (rk_s) H O (SF_trans (SF_trans (hS_9) (SF_gluc (ι := oz_R2xclsl_2) oz_R2xcls_7 hS11 eF11 (by decide +kernel)) (any_sub (lₚ := []) (by decide +kernel))) (SF_gluc (ι := oz_R2xclsl_2) oz_R2xcls_7 hS20 eF20 (by decide +kernel)) (any_sub (lₚ := []) (by decide +kernel))) (SA_trans (SA_trans (hA_9) (SA_gluc (ι := oz_R2xclsl_2) oz_R2xcls_7 hA11 eA11 (by decide +kernel)) (any_subA (lₚ := []) (by decide +kernel))) (SA_gluc (ι := oz_R2xclsl_2) oz_R2xcls_7 hA20 eA20 (by decide +kernel)) (any_subA (lₚ := []) (by decide +kernel)))     (show inr (z20) from pz20_0) (show inr ((x9_3 + 1)) from q_5048 h0 j9_2 j9_3) (show 0 ≤ (z20) ∧ (z20) ≤ (u0_1) from q_3024 b21 h0 pz20_1) (show 0 ≤ ((x9_3 + 1)) ∧ 8 * ((x9_3 + 1)) ≤ (z20) from q_5047 b21 j9_1 j9_3 pz20_1) (show KNO (sc ((w1)) 0 ((u0_1))) ((z20)) by assumption) rfl
        · refine Ew_of (pcₚ := 46) (fun _ => x_iconst rfl) ?_
          have : ((0) : Int) = knF (sc ((w1)) 0 ((u0_1))) := (KNc_0 (by (have qg0 := HIDe r1; omega)) j9_k (by (have qg0 := HIDe r1; omega)) (show SPQ _ _ _ 1 by have h := hsp; rw [show z11 = 1 by (have qg0 := HIDe r1; omega)] at h; exact h) has (by (have qg0 := HIDe r1; omega))).symm
          exact w_ireturn rfl (k (0) _ _ _ H O (cF20) (cA20) (show inr (0) from q_2) (show (0) = 0 ∨ (0) = 1 ∨ 3 ≤ (0) ∧ (0) ≤ 5 by first | exact q_3020 | omega) (show (0) = knF (sc ((w1)) 0 ((u0_1))) by assumption))
theorem len_V19_oz_R2xcls : (V19).length = 10 := by decide +kernel
theorem oz_R2xcls_9 : vsub V19 V24 [] = true := by decide +kernel
theorem oz_R2xcls_10 : vsub V19 V33_Row [2, 3] = true := by decide +kernel
theorem oz_R2xcls_11 : vsub V19 V33_Row [4, 5] = true := by decide +kernel
theorem oz_R2xcls_12 : vsub V19 V33_Row [6, 7] = true := by decide +kernel
theorem oz_R2xcls_13 : vsub V19 V33_Row [8, 9] = true := by decide +kernel
theorem oz_R2xcls_14 : okc oz_R2xclsl_1 0 = true := by decide +kernel
def oz_R2xclsl_3 : List Nat := [2, 3]
theorem oz_R2xcls_15 : okc oz_R2xclsl_3 1538 = true := by decide +kernel
def oz_R2xclsl_4 : List Nat := [4, 5]
theorem oz_R2xcls_16 : okc oz_R2xclsl_4 2564 = true := by decide +kernel
def oz_R2xclsl_5 : List Nat := [6, 7]
theorem oz_R2xcls_17 : okc oz_R2xclsl_5 3590 = true := by decide +kernel
def oz_R2xclsl_6 : List Nat := [8, 9]
theorem oz_R2xcls_18 : okc oz_R2xclsl_6 4616 = true := by decide +kernel

theorem C19p {σE : rS} {D N : Nat → Nat} {F : hF} {A : hA} {d c s : Nat} {Q : wQ} (H : HW V19 σE D N F A) (HT : STC σE) {a1 : Int} (pf1 : HID (F 0 0 = (D 1 : Int))) (pf2 : HID (A 1 0 = (D 2 : Int))) (pf3 : HID (F 2 0 = (D 3 : Int))) (pf4 : HID (A 1 1 = (D 4 : Int))) (pf5 : HID (F 4 0 = (D 5 : Int))) (pf6 : HID (A 1 2 = (D 6 : Int))) (pf7 : HID (F 6 0 = (D 7 : Int))) (pf8 : HID (A 1 3 = (D 8 : Int))) (pf9 : HID (F 8 0 = (D 9 : Int))) (n1 : Int) (en1 : HID ((N 1 : Int) = n1)) (n3 : Int) (en3 : HID ((N 3 : Int) = n3)) (n5 : Int) (en5 : HID ((N 5 : Int) = n5)) (n7 : Int) (en7 : HID ((N 7 : Int) = n7)) (n9 : Int) (en9 : HID ((N 9 : Int) = n9)) (u2_1 : Int) (eu2_1 : HID (F 2 1 = u2_1)) (u4_1 : Int) (eu4_1 : HID (F 4 1 = u4_1)) (u6_1 : Int) (eu6_1 : HID (F 6 1 = u6_1)) (u8_1 : Int) (eu8_1 : HID (F 8 1 = u8_1)) (w3 : Int → Int) (ew3 : A 3 = w3) (w5 : Int → Int) (ew5 : A 5 = w5) (w7 : Int → Int) (ew7 : A 7 = w7) (w9 : Int → Int) (ew9 : A 9 = w9) (h0 : inr (a1)) (h1 : (n1) = 4) (h2 : 0 ≤ (u2_1) ∧ (u2_1) ≤ (n3) ∧ (n3) ≤ 65536) (h3 : 0 ≤ (u4_1) ∧ (u4_1) ≤ (n5) ∧ (n5) ≤ 65536) (h4 : 0 ≤ (u6_1) ∧ (u6_1) ≤ (n7) ∧ (n7) ≤ 65536) (h5 : 0 ≤ (u8_1) ∧ (u8_1) ≤ (n9) ∧ (n9) ≤ 65536) (k : ∀ (z : Int) (σ : rS) (Fₚ : hF) (Aₚ : hA), HW V19 σ D N Fₚ Aₚ → OUT (V19).length D N σE c s D N σ c s → SF [] F Fₚ → SA [] A Aₚ → (inr (z)) → (0 ≤ (a1) ∧ (a1) ≤ 3 ∨ (z) = -1) → (IMP ((a1) = 0) ((z) = knF (sc ((w3)) 0 ((u2_1))))) → (IMP ((a1) = 1) ((z) = knF (sc ((w5)) 0 ((u4_1))))) → (IMP ((a1) = 2) ((z) = knF (sc ((w7)) 0 ((u6_1))))) → (IMP ((a1) = 3) ((z) = knF (sc ((w9)) 0 ((u8_1))))) → Q (some (I z)) σ c s) : Ew 19 (d + 3) 0 (rargs 0 [.ref (D 0), I a1]) [] σE c s Q := by
  have O := OUT_refl (n := (V19).length) (D := D) (N := N) (σ := σE) (c := c) (s := s)
  have HE := H
  have r1 : HID ((-2147483648 : Int) ≤ u2_1 ∧ u2_1 ≤ 2147483647) := krg_e (show (-2147483648 : Int) ≤ F 2 1 ∧ F 2 1 ≤ 2147483647 from H.krg 2 1 (ltn len_V19_oz_R2xcls rfl)) (show F 2 1 = u2_1 from (eu2_1))
  have r2 : HID ((-2147483648 : Int) ≤ u4_1 ∧ u4_1 ≤ 2147483647) := krg_e (show (-2147483648 : Int) ≤ F 4 1 ∧ F 4 1 ≤ 2147483647 from H.krg 4 1 (ltn len_V19_oz_R2xcls rfl)) (show F 4 1 = u4_1 from (eu4_1))
  have r3 : HID ((-2147483648 : Int) ≤ u6_1 ∧ u6_1 ≤ 2147483647) := krg_e (show (-2147483648 : Int) ≤ F 6 1 ∧ F 6 1 ≤ 2147483647 from H.krg 6 1 (ltn len_V19_oz_R2xcls rfl)) (show F 6 1 = u6_1 from (eu6_1))
  have r4 : HID ((-2147483648 : Int) ≤ u8_1 ∧ u8_1 ≤ 2147483647) := krg_e (show (-2147483648 : Int) ≤ F 8 1 ∧ F 8 1 ≤ 2147483647 from H.krg 8 1 (ltn len_V19_oz_R2xcls rfl)) (show F 8 1 = u8_1 from (eu8_1))
  have r5 : HID ((0 : Int) ≤ n1 ∧ n1 ≤ 1000000) := nrng (H.nle 1 (ltn len_V19_oz_R2xcls rfl)) (show (N 1 : Int) = n1 from en1)
  refine Ew_of (pcₚ := 1) (fun _ => x_iload_n rfl rfl) ?_
  refine w_stat24 rfl rfl (by rfl) (C24x (D := puc 0 D) (N := puc 0 N) (HW_subc H oz_R2xcls_9 oz_R2xcls_14) (show inr (a1) from h0) (fun z10 σ10 F10ₚ A10ₚ Hₚ Oₚ hS10 hA10 pz10_0 pz10_1 => ⟨rretB rfl pz10_0, ?_⟩))
  refine v_backc (c := c) (s := s) H oz_R2xcls_9 oz_R2xcls_14 Hₚ Oₚ (fun F10 A10 H Oₚ eF10 eA10 => ?_)
  have O := OUT_trans O Oₚ
  -- PackHouse.isRow
  have cF10 : SF oz_R2xclsl_0 F F10 := SF_trans (SF_refl) (SF_gluc (ι := oz_R2xclsl_1) oz_R2xcls_14 hS10 eF10 (by decide +kernel)) (any_sub (lₚ := []) (by decide +kernel))
  have mF10 := SFm_of cF10 oz_R2xcls_5
  have cA10 : SA oz_R2xclsl_1 A A10 := SA_trans (SA_refl) (SA_gluc (ι := oz_R2xclsl_1) oz_R2xcls_14 hA10 eA10 (by decide +kernel)) (any_subA (lₚ := []) (by decide +kernel))
  have mA10 := SAm_of cA10 oz_R2xcls_6
  refine w_ifeq (t := 19) rfl rfl (show inr (z10) from q_138 pz10_0) (fun b11 => ?_) (fun b11 => ?_)
  · refine Ew_of (pcₚ := 20) (fun _ => x_iconst rfl) ?_
    have h0_0 : IMP ((a1) = 0) (((-1)) = knF (sc ((w3)) 0 ((u2_1)))) := by first | exact fun q => absurd q (by (have qg0 := HIDe r1; omega)) | exact fun _ => pNONE_2
    have h0_1 : IMP ((a1) = 1) (((-1)) = knF (sc ((w5)) 0 ((u4_1)))) := by first | exact fun q => absurd q (by (have qg0 := HIDe r2; omega)) | exact fun _ => pNONE_2
    have h0_2 : IMP ((a1) = 2) (((-1)) = knF (sc ((w7)) 0 ((u6_1)))) := by first | exact fun q => absurd q (by (have qg0 := HIDe r3; omega)) | exact fun _ => pNONE_2
    have h0_3 : IMP ((a1) = 3) (((-1)) = knF (sc ((w9)) 0 ((u8_1)))) := by first | exact fun q => absurd q (by (have qg0 := HIDe r4; omega)) | exact fun _ => pNONE_2
    exact w_ireturn rfl (k ((-1)) _ _ _ H O (cF10) (cA10) (show inr ((-1)) from q_63) (show 0 ≤ a1 ∧ a1 ≤ 3 ∨ ((-1)) = -1 by first | exact q_4977 | omega) (h0_0) (h0_1) (h0_2) (h0_3))
  · refine Ew_of (pcₚ := 8) (fun _ => x_aload_n rfl rfl) ?_
    refine v_g H (o := 0) (v := .ref (D 1)) rfl rfl rfl rfl rfl (vrf ((mF10 0 0 rfl).trans (pf1))) ?_
    refine Ew_of (pcₚ := 12) (fun _ => x_iload_n rfl rfl) ?_
    rcases (show a1 = 0 ∨ a1 = 1 ∨ a1 = 2 ∨ a1 = 3 by omega) with b12 | b12 | b12 | b12
    · refine v_lR H (o := 1) rfl rfl rfl rfl rfl (n := n1) (en1) (show 0 ≤ a1 ∧ a1 < n1 from q_4724 (HIDe r5) b12 h1) (z := ((D 2 : Nat) : Int)) (v := .ref (D 2)) ((congrArg (A10 1) b12).trans ((mA10 1 rfl 0).trans (pf2))) (vrf rfl) ?_
      refine w_stat24 rfl rfl (by rfl) (C33_Rowp (D := puc 1538 D) (N := puc 1538 N) (HW_subc H oz_R2xcls_10 oz_R2xcls_15) (STC_out HT HE O) ((mF10 2 0 rfl).trans (pf3)) (n3) (en3) (u2_1) (((mF10 2 1 rfl).trans (eu2_1))) (w3) ((funext (mA10 3 rfl)).trans (ew3)) (show 0 ≤ (u2_1) ∧ (u2_1) ≤ (n3) ∧ (n3) ≤ 65536 from h2) (fun z13 σ13 F13ₚ A13ₚ Hₚ Oₚ hS13 hA13 pz13_0 pz13_1 pz13_2 => ⟨rfl, ?_⟩))
      refine v_backc (c := c) (s := s) H oz_R2xcls_10 oz_R2xcls_15 Hₚ Oₚ (fun F13 A13 H Oₚ eF13 eA13 => ?_)
      have O := OUT_trans O Oₚ
      -- PackHouse.formatOf
      have cF13 : SF oz_R2xclsl_0 F F13 := SF_trans (cF10) (SF_gluc (ι := oz_R2xclsl_3) oz_R2xcls_15 hS13 eF13 (by decide +kernel)) (any_sub (lₚ := []) (by decide +kernel))
      have mF13 := SFm_of cF13 oz_R2xcls_5
      have cA13 : SA oz_R2xclsl_1 A A13 := SA_trans (cA10) (SA_gluc (ι := oz_R2xclsl_3) oz_R2xcls_15 hA13 eA13 (by decide +kernel)) (any_subA (lₚ := []) (by decide +kernel))
      have mA13 := SAm_of cA13 oz_R2xcls_6
      refine Ew_of (pcₚ := 20) (fun _ => x_goto rfl rfl) ?_
      have h0_0 : IMP ((a1) = 0) ((z13) = knF (sc ((w3)) 0 ((u2_1)))) := by first | exact fun q => absurd q (by (have qg0 := HIDe r1; omega)) | exact fun _ => pz13_2
      have h0_1 : IMP ((a1) = 1) ((z13) = knF (sc ((w5)) 0 ((u4_1)))) := by first | exact fun q => absurd q (by (have qg0 := HIDe r2; omega)) | exact fun _ => pz13_2
      have h0_2 : IMP ((a1) = 2) ((z13) = knF (sc ((w7)) 0 ((u6_1)))) := by first | exact fun q => absurd q (by (have qg0 := HIDe r3; omega)) | exact fun _ => pz13_2
      have h0_3 : IMP ((a1) = 3) ((z13) = knF (sc ((w9)) 0 ((u8_1)))) := by first | exact fun q => absurd q (by (have qg0 := HIDe r4; omega)) | exact fun _ => pz13_2
      exact w_ireturn rfl (k (z13) _ _ _ H O (cF13) (cA13) (show inr (z13) from pz13_0) (show 0 ≤ a1 ∧ a1 ≤ 3 ∨ (z13) = -1 from q_4978 b12) (h0_0) (h0_1) (h0_2) (h0_3))
    · refine v_lR H (o := 1) rfl rfl rfl rfl rfl (n := n1) (en1) (show 0 ≤ a1 ∧ a1 < n1 from q_4726 (HIDe r5) b12 h1) (z := ((D 4 : Nat) : Int)) (v := .ref (D 4)) ((congrArg (A10 1) b12).trans ((mA10 1 rfl 1).trans (pf4))) (vrf rfl) ?_
      refine w_stat24 rfl rfl (by rfl) (C33_Rowp (D := puc 2564 D) (N := puc 2564 N) (HW_subc H oz_R2xcls_11 oz_R2xcls_16) (STC_out HT HE O) ((mF10 4 0 rfl).trans (pf5)) (n5) (en5) (u4_1) (((mF10 4 1 rfl).trans (eu4_1))) (w5) ((funext (mA10 5 rfl)).trans (ew5)) (show 0 ≤ (u4_1) ∧ (u4_1) ≤ (n5) ∧ (n5) ≤ 65536 from h3) (fun z14 σ14 F14ₚ A14ₚ Hₚ Oₚ hS14 hA14 pz14_0 pz14_1 pz14_2 => ⟨rfl, ?_⟩))
      refine v_backc (c := c) (s := s) H oz_R2xcls_11 oz_R2xcls_16 Hₚ Oₚ (fun F14 A14 H Oₚ eF14 eA14 => ?_)
      have O := OUT_trans O Oₚ
      -- PackHouse.formatOf
      have cF14 : SF oz_R2xclsl_0 F F14 := SF_trans (cF10) (SF_gluc (ι := oz_R2xclsl_4) oz_R2xcls_16 hS14 eF14 (by decide +kernel)) (any_sub (lₚ := []) (by decide +kernel))
      have mF14 := SFm_of cF14 oz_R2xcls_5
      have cA14 : SA oz_R2xclsl_1 A A14 := SA_trans (cA10) (SA_gluc (ι := oz_R2xclsl_4) oz_R2xcls_16 hA14 eA14 (by decide +kernel)) (any_subA (lₚ := []) (by decide +kernel))
      have mA14 := SAm_of cA14 oz_R2xcls_6
      refine Ew_of (pcₚ := 20) (fun _ => x_goto rfl rfl) ?_
      have h0_0 : IMP ((a1) = 0) ((z14) = knF (sc ((w3)) 0 ((u2_1)))) := by first | exact fun q => absurd q (by (have qg0 := HIDe r1; omega)) | exact fun _ => pz14_2
      have h0_1 : IMP ((a1) = 1) ((z14) = knF (sc ((w5)) 0 ((u4_1)))) := by first | exact fun q => absurd q (by (have qg0 := HIDe r2; omega)) | exact fun _ => pz14_2
      have h0_2 : IMP ((a1) = 2) ((z14) = knF (sc ((w7)) 0 ((u6_1)))) := by first | exact fun q => absurd q (by (have qg0 := HIDe r3; omega)) | exact fun _ => pz14_2
      have h0_3 : IMP ((a1) = 3) ((z14) = knF (sc ((w9)) 0 ((u8_1)))) := by first | exact fun q => absurd q (by (have qg0 := HIDe r4; omega)) | exact fun _ => pz14_2
      exact w_ireturn rfl (k (z14) _ _ _ H O (cF14) (cA14) (show inr (z14) from pz14_0) (show 0 ≤ a1 ∧ a1 ≤ 3 ∨ (z14) = -1 from q_4979 b12) (h0_0) (h0_1) (h0_2) (h0_3))
    · refine v_lR H (o := 1) rfl rfl rfl rfl rfl (n := n1) (en1) (show 0 ≤ a1 ∧ a1 < n1 from q_4727 (HIDe r5) b12 h1) (z := ((D 6 : Nat) : Int)) (v := .ref (D 6)) ((congrArg (A10 1) b12).trans ((mA10 1 rfl 2).trans (pf6))) (vrf rfl) ?_
      refine w_stat24 rfl rfl (by rfl) (C33_Rowp (D := puc 3590 D) (N := puc 3590 N) (HW_subc H oz_R2xcls_12 oz_R2xcls_17) (STC_out HT HE O) ((mF10 6 0 rfl).trans (pf7)) (n7) (en7) (u6_1) (((mF10 6 1 rfl).trans (eu6_1))) (w7) ((funext (mA10 7 rfl)).trans (ew7)) (show 0 ≤ (u6_1) ∧ (u6_1) ≤ (n7) ∧ (n7) ≤ 65536 from h4) (fun z15 σ15 F15ₚ A15ₚ Hₚ Oₚ hS15 hA15 pz15_0 pz15_1 pz15_2 => ⟨rfl, ?_⟩))
      refine v_backc (c := c) (s := s) H oz_R2xcls_12 oz_R2xcls_17 Hₚ Oₚ (fun F15 A15 H Oₚ eF15 eA15 => ?_)
      have O := OUT_trans O Oₚ
      -- PackHouse.formatOf
      have cF15 : SF oz_R2xclsl_0 F F15 := SF_trans (cF10) (SF_gluc (ι := oz_R2xclsl_5) oz_R2xcls_17 hS15 eF15 (by decide +kernel)) (any_sub (lₚ := []) (by decide +kernel))
      have mF15 := SFm_of cF15 oz_R2xcls_5
      have cA15 : SA oz_R2xclsl_1 A A15 := SA_trans (cA10) (SA_gluc (ι := oz_R2xclsl_5) oz_R2xcls_17 hA15 eA15 (by decide +kernel)) (any_subA (lₚ := []) (by decide +kernel))
      have mA15 := SAm_of cA15 oz_R2xcls_6
      refine Ew_of (pcₚ := 20) (fun _ => x_goto rfl rfl) ?_
      have h0_0 : IMP ((a1) = 0) ((z15) = knF (sc ((w3)) 0 ((u2_1)))) := by first | exact fun q => absurd q (by (have qg0 := HIDe r1; omega)) | exact fun _ => pz15_2
      have h0_1 : IMP ((a1) = 1) ((z15) = knF (sc ((w5)) 0 ((u4_1)))) := by first | exact fun q => absurd q (by (have qg0 := HIDe r2; omega)) | exact fun _ => pz15_2
      have h0_2 : IMP ((a1) = 2) ((z15) = knF (sc ((w7)) 0 ((u6_1)))) := by first | exact fun q => absurd q (by (have qg0 := HIDe r3; omega)) | exact fun _ => pz15_2
      have h0_3 : IMP ((a1) = 3) ((z15) = knF (sc ((w9)) 0 ((u8_1)))) := by first | exact fun q => absurd q (by (have qg0 := HIDe r4; omega)) | exact fun _ => pz15_2
      exact w_ireturn rfl (k (z15) _ _ _ H O (cF15) (cA15) (show inr (z15) from pz15_0) (show 0 ≤ a1 ∧ a1 ≤ 3 ∨ (z15) = -1 from q_4980 b12) (h0_0) (h0_1) (h0_2) (h0_3))
    · refine v_lR H (o := 1) rfl rfl rfl rfl rfl (n := n1) (en1) (show 0 ≤ a1 ∧ a1 < n1 from q_4728 b12 h1) (z := ((D 8 : Nat) : Int)) (v := .ref (D 8)) ((congrArg (A10 1) b12).trans ((mA10 1 rfl 3).trans (pf8))) (vrf rfl) ?_
      refine w_stat24 rfl rfl (by rfl) (C33_Rowp (D := puc 4616 D) (N := puc 4616 N) (HW_subc H oz_R2xcls_13 oz_R2xcls_18) (STC_out HT HE O) ((mF10 8 0 rfl).trans (pf9)) (n9) (en9) (u8_1) (((mF10 8 1 rfl).trans (eu8_1))) (w9) ((funext (mA10 9 rfl)).trans (ew9)) (show 0 ≤ (u8_1) ∧ (u8_1) ≤ (n9) ∧ (n9) ≤ 65536 from h5) (fun z16 σ16 F16ₚ A16ₚ Hₚ Oₚ hS16 hA16 pz16_0 pz16_1 pz16_2 => ⟨rfl, ?_⟩))
      refine v_backc (c := c) (s := s) H oz_R2xcls_13 oz_R2xcls_18 Hₚ Oₚ (fun F16 A16 H Oₚ eF16 eA16 => ?_)
      have O := OUT_trans O Oₚ
      -- PackHouse.formatOf
      have cF16 : SF oz_R2xclsl_0 F F16 := SF_trans (cF10) (SF_gluc (ι := oz_R2xclsl_6) oz_R2xcls_18 hS16 eF16 (by decide +kernel)) (any_sub (lₚ := []) (by decide +kernel))
      have mF16 := SFm_of cF16 oz_R2xcls_5
      have cA16 : SA oz_R2xclsl_1 A A16 := SA_trans (cA10) (SA_gluc (ι := oz_R2xclsl_6) oz_R2xcls_18 hA16 eA16 (by decide +kernel)) (any_subA (lₚ := []) (by decide +kernel))
      have mA16 := SAm_of cA16 oz_R2xcls_6
      refine Ew_of (pcₚ := 20) (fun _ => x_goto rfl rfl) ?_
      have h0_0 : IMP ((a1) = 0) ((z16) = knF (sc ((w3)) 0 ((u2_1)))) := by first | exact fun q => absurd q (by (have qg0 := HIDe r1; omega)) | exact fun _ => pz16_2
      have h0_1 : IMP ((a1) = 1) ((z16) = knF (sc ((w5)) 0 ((u4_1)))) := by first | exact fun q => absurd q (by (have qg0 := HIDe r2; omega)) | exact fun _ => pz16_2
      have h0_2 : IMP ((a1) = 2) ((z16) = knF (sc ((w7)) 0 ((u6_1)))) := by first | exact fun q => absurd q (by (have qg0 := HIDe r3; omega)) | exact fun _ => pz16_2
      have h0_3 : IMP ((a1) = 3) ((z16) = knF (sc ((w9)) 0 ((u8_1)))) := by first | exact fun q => absurd q (by (have qg0 := HIDe r4; omega)) | exact fun _ => pz16_2
      exact w_ireturn rfl (k (z16) _ _ _ H O (cF16) (cA16) (show inr (z16) from pz16_0) (show 0 ≤ a1 ∧ a1 ≤ 3 ∨ (z16) = -1 from q_4981 b12) (h0_0) (h0_1) (h0_2) (h0_3))


end
section
/-! R2y.cls -/
theorem len_V22_oz_R2ycls : (V22).length = 6 := by decide +kernel
def oz_R2yclsl_0 : List (Nat × Nat) := []
theorem oz_R2ycls_1 : (oz_R2yclsl_0).all (fun p => !tbz 0 (Nat.add (Nat.mul 32 p.1) p.2)) = true := by decide +kernel
def oz_R2yclsl_1 : List Nat := []
theorem oz_R2ycls_2 : (oz_R2yclsl_1).all (fun p => !tbz 0 p) = true := by decide +kernel

theorem C22p {σE : rS} {D N : Nat → Nat} {F : hF} {A : hA} {d c s : Nat} {Q : wQ} (H : HW V22 σE D N F A) {a1 : Int} (pf1 : HID (F 0 13 = (D 1 : Int))) (pf2 : HID (F 0 14 = (D 2 : Int))) (pf3 : HID (F 0 3 = (D 3 : Int))) (pf4 : HID (F 3 0 = (D 4 : Int))) (pf5 : HID (F 0 2 = (D 5 : Int))) (n1 : Int) (en1 : HID ((N 1 : Int) = n1)) (n2 : Int) (en2 : HID ((N 2 : Int) = n2)) (u0_18 : Int) (eu0_18 : HID (F 0 18 = u0_18)) (u3_2 : Int) (eu3_2 : HID (F 3 2 = u3_2)) (u4_1 : Int) (eu4_1 : HID (F 4 1 = u4_1)) (u5_1 : Int) (eu5_1 : HID (F 5 1 = u5_1)) (w1 : Int → Int) (ew1 : A 1 = w1) (w2 : Int → Int) (ew2 : A 2 = w2) (h0 : inr (a1)) (h1 : (n1) = 13) (h2 : (n2) = 5) (h3 : (u4_1) = (u4_1)) (k : ∀ (z : Int) (σ : rS) (Fₚ : hF) (Aₚ : hA), HW V22 σ D N Fₚ Aₚ → OUT (V22).length D N σE c s D N σ c s → SF [] F Fₚ → SA [] A Aₚ → (inr (z)) → (((z) : Int) = abF ((u0_18)) (fun i => ((w1)) (i + 1)) (((w2)) 0, ((w2)) 1, ((w2)) 2, ((w2)) 3, ((w2)) 4) ((u5_1)) ((u4_1)) ((u3_2)) ((a1))) → Q (some (I z)) σ c s) : Ew 22 (d + 0) 0 (rargs 0 [.ref (D 0), I a1]) [] σE c s Q := by
  have O := OUT_refl (n := (V22).length) (D := D) (N := N) (σ := σE) (c := c) (s := s)
  have HE := H
  have r1 : HID ((-2147483648 : Int) ≤ u0_18 ∧ u0_18 ≤ 2147483647) := krg_e (show (-2147483648 : Int) ≤ F 0 18 ∧ F 0 18 ≤ 2147483647 from H.krg 0 18 (ltn len_V22_oz_R2ycls rfl)) (show F 0 18 = u0_18 from (eu0_18))
  have r2 : HID ((-2147483648 : Int) ≤ u3_2 ∧ u3_2 ≤ 2147483647) := krg_e (show (-2147483648 : Int) ≤ F 3 2 ∧ F 3 2 ≤ 2147483647 from H.krg 3 2 (ltn len_V22_oz_R2ycls rfl)) (show F 3 2 = u3_2 from (eu3_2))
  have r3 : HID ((-2147483648 : Int) ≤ u4_1 ∧ u4_1 ≤ 2147483647) := krg_e (show (-2147483648 : Int) ≤ F 4 1 ∧ F 4 1 ≤ 2147483647 from H.krg 4 1 (ltn len_V22_oz_R2ycls rfl)) (show F 4 1 = u4_1 from (eu4_1))
  have r4 : HID ((-2147483648 : Int) ≤ u5_1 ∧ u5_1 ≤ 2147483647) := krg_e (show (-2147483648 : Int) ≤ F 5 1 ∧ F 5 1 ≤ 2147483647 from H.krg 5 1 (ltn len_V22_oz_R2ycls rfl)) (show F 5 1 = u5_1 from (eu5_1))
  refine Ew_of (pcₚ := 1) (fun _ => x_iload_n rfl rfl) ?_
  refine w_ifne (t := 9) rfl rfl (show inr (a1) from h0) (fun b7 => ?_) (fun b7 => ?_)
  · refine Ew_of (pcₚ := 10) (fun _ => x_iload_n rfl rfl) ?_
    refine Ew_of (pcₚ := 11) (fun _ => x_iconst rfl) ?_
    have hc27 : ∀ (ls : rO) (σ : rS) (F_c27 : hF) (A_c27 : hA) , rlook ls 0 = some (.ref (D 0)) → rlook ls 1 = some (I (a1)) → HW V22 σ D N F_c27 A_c27 → OUT (V22).length D N σE c s D N σ c s → SF [] F F_c27 → SA [] A A_c27 → (((a1) < (1)) ∨ ((a1) ≥ (1) ∧ (a1) > (12))) → Ew 22 (d + 0) 27 ls [] σ c s Q := by
     as_aux_lemma =>
      intro  ls σ F_c27 A_c27  lc27_0 lc27_1 H O hS_c27 hA_c27     jc27_0
      have cF_c27 : SF oz_R2yclsl_0 F F_c27 := SF_trans (SF_refl) hS_c27 (any_sub (by decide +kernel))
      have mF_c27 := SFm_of cF_c27 oz_R2ycls_1
      have cA_c27 : SA oz_R2yclsl_1 A A_c27 := SA_trans (SA_refl) hA_c27 (any_subA (by decide +kernel))
      have mA_c27 := SAm_of cA_c27 oz_R2ycls_2
      refine Ew_of (pcₚ := 28) (fun _ => x_iload_n rfl lc27_1) ?_
      refine Ew_of (pcₚ := 30) (fun _ => x_bipush (z := 13) rfl (by decide)) ?_
      have hc49 : ∀ (ls : rO) (σ : rS) (F_c49 : hF) (A_c49 : hA) , rlook ls 0 = some (.ref (D 0)) → rlook ls 1 = some (I (a1)) → HW V22 σ D N F_c49 A_c49 → OUT (V22).length D N σE c s D N σ c s → SF [] F_c27 F_c49 → SA [] A_c27 A_c49 → (((a1) < (13)) ∨ ((a1) ≥ (13) ∧ (a1) > (17))) → Ew 22 (d + 0) 49 ls [] σ c s Q := by
       as_aux_lemma =>
        intro  ls σ F_c49 A_c49  lc49_0 lc49_1 H O hS_c49 hA_c49     jc49_0
        have cF_c49 : SF oz_R2yclsl_0 F F_c49 := SF_trans (cF_c27) hS_c49 (any_sub (by decide +kernel))
        have mF_c49 := SFm_of cF_c49 oz_R2ycls_1
        have cA_c49 : SA oz_R2yclsl_1 A A_c49 := SA_trans (cA_c27) hA_c49 (any_subA (by decide +kernel))
        have mA_c49 := SAm_of cA_c49 oz_R2ycls_2
        refine Ew_of (pcₚ := 50) (fun _ => x_iload_n rfl lc49_1) ?_
        by_cases b8 : a1 = 18
        · refine w_tsk 0 76 rfl (show inr (a1) from h0) (by omega) (by decide) rfl rfl ?_
          refine Ew_of (pcₚ := 77) (fun _ => x_aload_n rfl lc49_0) ?_
          refine v_g H (o := 0) (v := .ref (D 5)) rfl rfl rfl rfl rfl (vrf ((mF_c49 0 2 rfl).trans (pf5))) ?_
          refine v_g H (o := 5) (v := I (u5_1)) rfl rfl rfl rfl rfl (congrArg (fun z : Int => I z) (((mF_c49 5 1 rfl).trans (eu5_1)) : F_c49 5 1 = u5_1)) ?_
          have : ((u5_1) : Int) = abF ((u0_18)) (fun i => ((w1)) (i + 1)) (((w2)) 0, ((w2)) 1, ((w2)) 2, ((w2)) 3, ((w2)) 4) ((u5_1)) ((u4_1)) ((u3_2)) ((a1)) := ab_18 (by (have qg0 := HIDe r1; have qg1 := HIDe r2; have qg2 := HIDe r3; have qg3 := HIDe r4; omega)) rfl
          exact w_ireturn rfl (k (u5_1) _ _ _ H O (cF_c49) (cA_c49) (show inr (u5_1) from q_18 (HIDe r4)) (show ((u5_1) : Int) = abF ((u0_18)) (fun i => ((w1)) (i + 1)) (((w2)) 0, ((w2)) 1, ((w2)) 2, ((w2)) 3, ((w2)) 4) ((u5_1)) ((u4_1)) ((u3_2)) (a1) by assumption))
        ·
          by_cases b9 : a1 = 19
          · refine w_tsk 1 84 rfl (show inr (a1) from h0) (by omega) (by decide) rfl rfl ?_
            refine Ew_of (pcₚ := 85) (fun _ => x_aload_n rfl lc49_0) ?_
            refine v_g H (o := 0) (v := .ref (D 3)) rfl rfl rfl rfl rfl (vrf ((mF_c49 0 3 rfl).trans (pf3))) ?_
            refine v_g H (o := 3) (v := .ref (D 4)) rfl rfl rfl rfl rfl (vrf ((mF_c49 3 0 rfl).trans (pf4))) ?_
            refine v_g H (o := 4) (v := I (u4_1)) rfl rfl rfl rfl rfl (congrArg (fun z : Int => I z) (((mF_c49 4 1 rfl).trans (eu4_1)) : F_c49 4 1 = u4_1)) ?_
            have : ((u4_1) : Int) = abF ((u0_18)) (fun i => ((w1)) (i + 1)) (((w2)) 0, ((w2)) 1, ((w2)) 2, ((w2)) 3, ((w2)) 4) ((u5_1)) ((u4_1)) ((u3_2)) ((a1)) := ab_19 (by (have qg0 := HIDe r1; have qg1 := HIDe r2; have qg2 := HIDe r3; have qg3 := HIDe r4; omega)) rfl
            exact w_ireturn rfl (k (u4_1) _ _ _ H O (cF_c49) (cA_c49) (show inr (u4_1) from q_18 (HIDe r3)) (show ((u4_1) : Int) = abF ((u0_18)) (fun i => ((w1)) (i + 1)) (((w2)) 0, ((w2)) 1, ((w2)) 2, ((w2)) 3, ((w2)) 4) ((u5_1)) ((u4_1)) ((u3_2)) (a1) by assumption))
          ·
            by_cases b10 : a1 = 20
            · refine w_tsk 2 95 rfl (show inr (a1) from h0) (by omega) (by decide) rfl rfl ?_
              refine Ew_of (pcₚ := 96) (fun _ => x_aload_n rfl lc49_0) ?_
              refine v_g H (o := 0) (v := .ref (D 3)) rfl rfl rfl rfl rfl (vrf ((mF_c49 0 3 rfl).trans (pf3))) ?_
              refine v_g H (o := 3) (v := I (u3_2)) rfl rfl rfl rfl rfl (congrArg (fun z : Int => I z) (((mF_c49 3 2 rfl).trans (eu3_2)) : F_c49 3 2 = u3_2)) ?_
              have : ((u3_2) : Int) = abF ((u0_18)) (fun i => ((w1)) (i + 1)) (((w2)) 0, ((w2)) 1, ((w2)) 2, ((w2)) 3, ((w2)) 4) ((u5_1)) ((u4_1)) ((u3_2)) ((a1)) := ab_20 (by (have qg0 := HIDe r1; have qg1 := HIDe r2; have qg2 := HIDe r3; have qg3 := HIDe r4; omega)) rfl
              exact w_ireturn rfl (k (u3_2) _ _ _ H O (cF_c49) (cA_c49) (show inr (u3_2) from q_18 (HIDe r2)) (show ((u3_2) : Int) = abF ((u0_18)) (fun i => ((w1)) (i + 1)) (((w2)) 0, ((w2)) 1, ((w2)) 2, ((w2)) 3, ((w2)) 4) ((u5_1)) ((u4_1)) ((u3_2)) (a1) by assumption))
            ·
              refine w_tsd 103 rfl (show inr (a1) from h0) (by omega) rfl ?_
              refine Ew_of (pcₚ := 104) (fun _ => x_iconst rfl) ?_
              have : (((-1)) : Int) = abF ((u0_18)) (fun i => ((w1)) (i + 1)) (((w2)) 0, ((w2)) 1, ((w2)) 2, ((w2)) 3, ((w2)) 4) ((u5_1)) ((u4_1)) ((u3_2)) ((a1)) := ab_n (by (have qg0 := HIDe r1; have qg1 := HIDe r2; have qg2 := HIDe r3; have qg3 := HIDe r4; omega)) rfl
              exact w_ireturn rfl (k ((-1)) _ _ _ H O (cF_c49) (cA_c49) (show inr ((-1)) from q_63) (show (((-1)) : Int) = abF ((u0_18)) (fun i => ((w1)) (i + 1)) (((w2)) 0, ((w2)) 1, ((w2)) 2, ((w2)) 3, ((w2)) 4) ((u5_1)) ((u4_1)) ((u3_2)) (a1) by assumption))
      refine w_icmplt (t := 49) rfl rfl (show inr (a1) from h0) (show inr (13) from q_350) (fun b11 => ?_) (fun b11 => ?_)
      · exact hc49  _ _ _ _  (lc27_0) (lc27_1) H O (SF_refl) (SA_refl)     (show ((a1) < (13)) ∨ ((a1) ≥ (13) ∧ (a1) > (17)) from q_4740 b11)
      · refine Ew_of (pcₚ := 34) (fun _ => x_iload_n rfl lc27_1) ?_
        refine Ew_of (pcₚ := 36) (fun _ => x_bipush (z := 17) rfl (by decide)) ?_
        refine w_icmpgt (t := 49) rfl rfl (show inr (a1) from h0) (show inr (17) from q_582) (fun b12 => ?_) (fun b12 => ?_)
        · exact hc49  _ _ _ _  (lc27_0) (lc27_1) H O (SF_refl) (SA_refl)     (show ((a1) < (13)) ∨ ((a1) ≥ (13) ∧ (a1) > (17)) from q_4741 b12)
        · refine Ew_of (pcₚ := 40) (fun _ => x_aload_n rfl lc27_0) ?_
          refine v_g H (o := 0) (v := .ref (D 2)) rfl rfl rfl rfl rfl (vrf ((mF_c27 0 14 rfl).trans (pf2))) ?_
          refine Ew_of (pcₚ := 44) (fun _ => x_iload_n rfl lc27_1) ?_
          refine Ew_of (pcₚ := 46) (fun _ => x_bipush (z := 13) rfl (by decide)) ?_
          refine w_isub rfl ?_
          refine v_lI H (o := 2) rfl rfl rfl rfl (n := n2) (en2) (show 0 ≤ (a1 - 13) ∧ (a1 - 13) < n2 from q_4742 b11 b12 h2) (fun v13 ev13 (qv13 : HID _) => ?_)
          have ev13 : (w2) ((a1 - 13)) = v13 := (congrFun ((funext (mA_c27 2 rfl)).trans (ew2)) ((a1 - 13))).symm.trans ev13
          have hc := ev13
          have : ((v13) : Int) = abF ((u0_18)) (fun i => ((w1)) (i + 1)) (((w2)) 0, ((w2)) 1, ((w2)) 2, ((w2)) 3, ((w2)) 4) ((u5_1)) ((u4_1)) ((u3_2)) ((a1)) := ab_k (by (have qg0 := HIDe qv13; have qg1 := HIDe r1; have qg2 := HIDe r2; have qg3 := HIDe r3; have qg4 := HIDe r4; omega)) (by rcases (show (a1) = 13 ∨ (a1) = 14 ∨ (a1) = 15 ∨ (a1) = 16 ∨ (a1) = 17 by (have qg0 := HIDe qv13; have qg1 := HIDe r1; have qg2 := HIDe r2; have qg3 := HIDe r3; have qg4 := HIDe r4; omega)) with e | e | e | e | e; (exact .inl ⟨by (have qg0 := HIDe qv13; have qg1 := HIDe r1; have qg2 := HIDe r2; have qg3 := HIDe r3; have qg4 := HIDe r4; omega), by rw [← hc, e]; rfl⟩); (exact .inr (.inl ⟨by (have qg0 := HIDe qv13; have qg1 := HIDe r1; have qg2 := HIDe r2; have qg3 := HIDe r3; have qg4 := HIDe r4; omega), by rw [← hc, e]; rfl⟩)); (exact .inr (.inr (.inl ⟨by (have qg0 := HIDe qv13; have qg1 := HIDe r1; have qg2 := HIDe r2; have qg3 := HIDe r3; have qg4 := HIDe r4; omega), by rw [← hc, e]; rfl⟩))); (exact .inr (.inr (.inr (.inl ⟨by (have qg0 := HIDe qv13; have qg1 := HIDe r1; have qg2 := HIDe r2; have qg3 := HIDe r3; have qg4 := HIDe r4; omega), by rw [← hc, e]; rfl⟩)))); (exact .inr (.inr (.inr (.inr ⟨by (have qg0 := HIDe qv13; have qg1 := HIDe r1; have qg2 := HIDe r2; have qg3 := HIDe r3; have qg4 := HIDe r4; omega), by rw [← hc, e]; rfl⟩)))))
          exact w_ireturn rfl (k (v13) _ _ _ H O (cF_c27) (cA_c27) (show inr (v13) from (HIDe qv13)) (show ((v13) : Int) = abF ((u0_18)) (fun i => ((w1)) (i + 1)) (((w2)) 0, ((w2)) 1, ((w2)) 2, ((w2)) 3, ((w2)) 4) ((u5_1)) ((u4_1)) ((u3_2)) (a1) by assumption))
    refine w_icmplt (t := 27) rfl rfl (show inr (a1) from h0) (show inr (1) from q_135) (fun b14 => ?_) (fun b14 => ?_)
    · exact hc27  _ _ _ _  (rfl) (rfl) H O (SF_refl) (SA_refl)     (show ((a1) < (1)) ∨ ((a1) ≥ (1) ∧ (a1) > (12)) from q_4743 b14)
    · refine Ew_of (pcₚ := 15) (fun _ => x_iload_n rfl rfl) ?_
      refine Ew_of (pcₚ := 17) (fun _ => x_bipush (z := 12) rfl (by decide)) ?_
      refine w_icmpgt (t := 27) rfl rfl (show inr (a1) from h0) (show inr (12) from q_599) (fun b15 => ?_) (fun b15 => ?_)
      · exact hc27  _ _ _ _  (rfl) (rfl) H O (SF_refl) (SA_refl)     (show ((a1) < (1)) ∨ ((a1) ≥ (1) ∧ (a1) > (12)) from q_4744 b15)
      · refine Ew_of (pcₚ := 21) (fun _ => x_aload_n rfl rfl) ?_
        refine v_g H (o := 0) (v := .ref (D 1)) rfl rfl rfl rfl rfl (vrf (pf1)) ?_
        refine Ew_of (pcₚ := 25) (fun _ => x_iload_n rfl rfl) ?_
        refine v_lI H (o := 1) rfl rfl rfl rfl (n := n1) (en1) (show 0 ≤ a1 ∧ a1 < n1 from q_4745 b14 b15 h1) (fun v16 ev16 (qv16 : HID _) => ?_)
        have ev16 : (w1) (a1) = v16 := (congrFun (ew1) (a1)).symm.trans ev16
        have : ((v16) : Int) = abF ((u0_18)) (fun i => ((w1)) (i + 1)) (((w2)) 0, ((w2)) 1, ((w2)) 2, ((w2)) 3, ((w2)) 4) ((u5_1)) ((u4_1)) ((u3_2)) ((a1)) := ab_s (by (have qg0 := HIDe qv16; have qg1 := HIDe r1; have qg2 := HIDe r2; have qg3 := HIDe r3; have qg4 := HIDe r4; omega)) (by show ((w1)) ((a1) - 1 + 1) = (v16); rw [show (a1) - 1 + 1 = (a1) by (have qg0 := HIDe qv16; have qg1 := HIDe r1; have qg2 := HIDe r2; have qg3 := HIDe r3; have qg4 := HIDe r4; omega)]; exact ev16)
        exact w_ireturn rfl (k (v16) _ _ _ H O (SF_refl) (SA_refl) (show inr (v16) from (HIDe qv16)) (show ((v16) : Int) = abF ((u0_18)) (fun i => ((w1)) (i + 1)) (((w2)) 0, ((w2)) 1, ((w2)) 2, ((w2)) 3, ((w2)) 4) ((u5_1)) ((u4_1)) ((u3_2)) (a1) by assumption))
  · refine Ew_of (pcₚ := 5) (fun _ => x_aload_n rfl rfl) ?_
    refine v_g H (o := 0) (v := I (u0_18)) rfl rfl rfl rfl rfl (congrArg (fun z : Int => I z) ((eu0_18) : F 0 18 = u0_18)) ?_
    have : ((u0_18) : Int) = abF ((u0_18)) (fun i => ((w1)) (i + 1)) (((w2)) 0, ((w2)) 1, ((w2)) 2, ((w2)) 3, ((w2)) 4) ((u5_1)) ((u4_1)) ((u3_2)) ((a1)) := ab_0 (by (have qg0 := HIDe r1; have qg1 := HIDe r2; have qg2 := HIDe r3; have qg3 := HIDe r4; omega)) rfl
    exact w_ireturn rfl (k (u0_18) _ _ _ H O (SF_refl) (SA_refl) (show inr (u0_18) from q_18 (HIDe r1)) (show ((u0_18) : Int) = abF ((u0_18)) (fun i => ((w1)) (i + 1)) (((w2)) 0, ((w2)) 1, ((w2)) 2, ((w2)) 3, ((w2)) 4) ((u5_1)) ((u4_1)) ((u3_2)) (a1) by assumption))
theorem len_V23_oz_R2ycls : (V23).length = 2 := by decide +kernel

theorem C23p {σE : rS} {D N : Nat → Nat} {F : hF} {A : hA} {d c s : Nat} {Q : wQ} (H : HW V23 σE D N F A) {a1 : Int} (pf1 : HID (F 0 16 = (D 1 : Int))) (n1 : Int) (en1 : HID ((N 1 : Int) = n1)) (w1 : Int → Int) (ew1 : A 1 = w1) (h0 : inr (a1)) (h1 : (n1) = 2) (k : ∀ (z : Int) (σ : rS) (Fₚ : hF) (Aₚ : hA), HW V23 σ D N Fₚ Aₚ → OUT (V23).length D N σE c s D N σ c s → SF [] F Fₚ → SA [] A Aₚ → (inr (z)) → (((a1) = 0 ∧ (z) = ((w1)) 0 ∨ (a1) = 1 ∧ (z) = ((w1)) 1 ∨ (a1) ≠ 0 ∧ (a1) ≠ 1 ∧ (z) = -1)) → Q (some (I z)) σ c s) : Ew 23 (d + 0) 0 (rargs 0 [.ref (D 0), I a1]) [] σE c s Q := by
  have O := OUT_refl (n := (V23).length) (D := D) (N := N) (σ := σE) (c := c) (s := s)
  have HE := H
  have r1 : HID ((0 : Int) ≤ n1 ∧ n1 ≤ 1000000) := nrng (H.nle 1 (ltn len_V23_oz_R2ycls rfl)) (show (N 1 : Int) = n1 from en1)
  refine Ew_of (pcₚ := 1) (fun _ => x_iload_n rfl rfl) ?_
  refine w_ifeq (t := 9) rfl rfl (show inr (a1) from h0) (fun b2 => ?_) (fun b2 => ?_)
  · refine Ew_of (pcₚ := 10) (fun _ => x_aload_n rfl rfl) ?_
    refine v_g H (o := 0) (v := .ref (D 1)) rfl rfl rfl rfl rfl (vrf (pf1)) ?_
    refine Ew_of (pcₚ := 14) (fun _ => x_iload_n rfl rfl) ?_
    refine v_lI H (o := 1) rfl rfl rfl rfl (n := n1) (en1) (show 0 ≤ a1 ∧ a1 < n1 from q_5049 (HIDe r1) b2 h1) (fun v3 ev3 (qv3 : HID _) => ?_)
    have ev3 : (w1) (a1) = v3 := (congrFun (ew1) (a1)).symm.trans ev3
    have hst := ev3
    refine Ew_of (pcₚ := 19) (fun _ => x_goto rfl rfl) ?_
    have : ((a1) = 0 ∧ ((v3) : Int) = ((w1)) 0 ∨ (a1) = 1 ∧ ((v3) : Int) = ((w1)) 1 ∨ (a1) ≠ 0 ∧ (a1) ≠ 1 ∧ ((v3) : Int) = -1) := by first | exact .inr (.inr ⟨by (have qg0 := HIDe qv3; omega), by (have qg0 := HIDe qv3; omega), rfl⟩) | exact .inl ⟨by (have qg0 := HIDe qv3; omega), by rw [← hst, show (a1) = 0 by (have qg0 := HIDe qv3; omega)]⟩ | exact .inr (.inl ⟨by (have qg0 := HIDe qv3; omega), by rw [← hst, show (a1) = 1 by (have qg0 := HIDe qv3; omega)]⟩)
    exact w_ireturn rfl (k (v3) _ _ _ H O (SF_refl) (SA_refl) (show inr (v3) from (HIDe qv3)) (show (a1 = 0 ∧ (v3) = ((w1)) 0 ∨ a1 = 1 ∧ (v3) = ((w1)) 1 ∨ a1 ≠ 0 ∧ a1 ≠ 1 ∧ (v3) = -1) by assumption))
  · refine Ew_of (pcₚ := 5) (fun _ => x_iload_n rfl rfl) ?_
    refine Ew_of (pcₚ := 6) (fun _ => x_iconst rfl) ?_
    refine w_icmpne (t := 18) rfl rfl (show inr (a1) from h0) (show inr (1) from q_135) (fun b4 => ?_) (fun b4 => ?_)
    · refine Ew_of (pcₚ := 19) (fun _ => x_iconst rfl) ?_
      have : ((a1) = 0 ∧ (((-1)) : Int) = ((w1)) 0 ∨ (a1) = 1 ∧ (((-1)) : Int) = ((w1)) 1 ∨ (a1) ≠ 0 ∧ (a1) ≠ 1 ∧ (((-1)) : Int) = -1) := by first | exact .inr (.inr ⟨by omega, by omega, rfl⟩) | exact .inl ⟨by omega, by rw [← hst, show (a1) = 0 by omega]⟩ | exact .inr (.inl ⟨by omega, by rw [← hst, show (a1) = 1 by omega]⟩)
      exact w_ireturn rfl (k ((-1)) _ _ _ H O (SF_refl) (SA_refl) (show inr ((-1)) from q_63) (show (a1 = 0 ∧ ((-1)) = ((w1)) 0 ∨ a1 = 1 ∧ ((-1)) = ((w1)) 1 ∨ a1 ≠ 0 ∧ a1 ≠ 1 ∧ ((-1)) = -1) by assumption))
    · refine Ew_of (pcₚ := 10) (fun _ => x_aload_n rfl rfl) ?_
      refine v_g H (o := 0) (v := .ref (D 1)) rfl rfl rfl rfl rfl (vrf (pf1)) ?_
      refine Ew_of (pcₚ := 14) (fun _ => x_iload_n rfl rfl) ?_
      refine v_lI H (o := 1) rfl rfl rfl rfl (n := n1) (en1) (show 0 ≤ a1 ∧ a1 < n1 from q_5050 b4 h1) (fun v5 ev5 (qv5 : HID _) => ?_)
      have ev5 : (w1) (a1) = v5 := (congrFun (ew1) (a1)).symm.trans ev5
      have hst := ev5
      refine Ew_of (pcₚ := 19) (fun _ => x_goto rfl rfl) ?_
      have : ((a1) = 0 ∧ ((v5) : Int) = ((w1)) 0 ∨ (a1) = 1 ∧ ((v5) : Int) = ((w1)) 1 ∨ (a1) ≠ 0 ∧ (a1) ≠ 1 ∧ ((v5) : Int) = -1) := by first | exact .inr (.inr ⟨by (have qg0 := HIDe qv5; omega), by (have qg0 := HIDe qv5; omega), rfl⟩) | exact .inl ⟨by (have qg0 := HIDe qv5; omega), by rw [← hst, show (a1) = 0 by (have qg0 := HIDe qv5; omega)]⟩ | exact .inr (.inl ⟨by (have qg0 := HIDe qv5; omega), by rw [← hst, show (a1) = 1 by (have qg0 := HIDe qv5; omega)]⟩)
      exact w_ireturn rfl (k (v5) _ _ _ H O (SF_refl) (SA_refl) (show inr (v5) from (HIDe qv5)) (show (a1 = 0 ∧ (v5) = ((w1)) 0 ∨ a1 = 1 ∧ (v5) = ((w1)) 1 ∨ a1 ≠ 0 ∧ a1 ≠ 1 ∧ (v5) = -1) by assumption))


end
