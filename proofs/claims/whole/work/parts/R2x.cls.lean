/-- PackHouse.formatOf: #1, #1.bytes -/
theorem C33_Rowp {σE : rS} {D N : Nat → Nat} {F : hF} {A : hA} {d c s : Nat} {Q : wQ} (H : HW V33_Row σE D N F A) (HT : STC σE)  (pf1 : F 0 0 = (D 1 : Int)) (n1 : Int) (en1 : (N 1 : Int) = n1) (u0_1 : Int) (eu0_1 : F 0 1 = u0_1) (w1 : Int → Int) (ew1 : A 1 = w1) (h0 : 0 ≤ (u0_1) ∧ (u0_1) ≤ (n1) ∧ (n1) ≤ 65536) (k : ∀ (z : Int) (σ : rS) (F' : hF) (A' : hA), HW V33_Row σ D N F' A' → OUT (V33_Row).length D N σE c s D N σ c s → SF [] F F' → SA [] A A' → (inr (z)) → ((z) = 0 ∨ (z) = 1 ∨ 3 ≤ (z) ∧ (z) ≤ 5) → ((z) = knF (sc ((w1)) 0 ((u0_1)))) → Q (some (I z)) σ c s) : Ew 33 (d + 2) 0 (rargs 0 [.ref (D 0)]) [] σE c s Q := by
  have O := OUT_refl (n := (V33_Row).length) (D := D) (N := N) (σ := σE) (c := c) (s := s)
  have HE := H
  have r1 : HID ((-2147483648 : Int) ≤ u0_1 ∧ u0_1 ≤ 2147483647) := krg_e (show (-2147483648 : Int) ≤ F 0 1 ∧ F 0 1 ≤ 2147483647 from H.krg 0 1 (by decide)) (show F 0 1 = u0_1 from (eu0_1))
  replace pf1 := HIDm pf1
  replace en1 := HIDm en1
  replace eu0_1 := HIDm eu0_1
  have r2 : HID ((0 : Int) ≤ n1 ∧ n1 ≤ 1000000) := nrng (H.nle 1 (by decide)) (show (N 1 : Int) = n1 from en1)
  refine Ew_of (pc' := 1) (fun _ => x_aload_n rfl rfl) ?_
  refine v_g H (o := 0) (v := .ref (D 1)) rfl rfl rfl rfl rfl (vrf (pf1)) ?_
  refine Ew_of (pc' := 5) (fun _ => x_astore_n rfl) ?_
  refine Ew_of (pc' := 6) (fun _ => x_iconst rfl) ?_
  refine Ew_of (pc' := 7) (fun _ => x_istore_n rfl) ?_
  refine Ew_of (pc' := 8) (fun _ => x_iconst rfl) ?_
  refine Ew_of (pc' := 9) (fun _ => x_istore_n rfl) ?_
  have : KNO (sc ((w1)) 0 ((u0_1))) 0 := KNO_0
  suffices hl9 : ∀ (m : Nat), ∀ (ls : rO) (σ : rS) (F_9 : hF) (A_9 : hA) (x9_2 : Int) (x9_3 : Int), rlook ls 0 = some (.ref (D 0)) → rlook ls 1 = some (.ref (D 1)) → rlook ls 2 = some (I (x9_2)) → rlook ls 3 = some (I (x9_3)) → HW V33_Row σ D N F_9 A_9 → OUT (V33_Row).length D N σE c s D N σ c s → SF [] F F_9 → SA [] A A_9 → (inr (x9_2)) → (inr (x9_3)) → (0 ≤ (x9_2) ∧ (x9_2) ≤ (u0_1)) → (0 ≤ (x9_3) ∧ 8 * (x9_3) ≤ (x9_2)) → (KNO (sc ((w1)) 0 ((u0_1))) ((x9_2))) → ((u0_1) + 2 - (x9_3)).toNat = m → Ew 33 (d + 2) 9 ls [] σ c s Q from
    hl9 _ _ _ _ _ (0) (0) (rk_o (rk_o (rk_o (rfl) rfl rfl) rfl rfl) rfl rfl) (rk_o (rk_o (rk_s) rfl rfl) rfl rfl) (rk_o (rk_s) rfl rfl) (rk_s) H O (SF_refl) (SA_refl)     (show inr (0) by omega) (show inr (0) by omega) (show 0 ≤ (0) ∧ (0) ≤ (u0_1) by have qh0 := HIDe r1; omega) (show 0 ≤ (0) ∧ 8 * (0) ≤ (0) by omega) (show KNO (sc ((w1)) 0 ((u0_1))) ((0)) by assumption) rfl
  as_aux_lemma =>
  intro m
  induction m using Nat.strongRecOn with
  | _ m ih9 =>
    intro ls σ F_9 A_9 x9_2 x9_3 l9_0 l9_1 l9_2 l9_3 H O hS_9 hA_9     j9_0 j9_1 j9_2 j9_3 j9_4 hm9
    have j9_k : KNO (sc ((w1)) 0 ((u0_1))) ((x9_2)) := by assumption
    refine Ew_of (pc' := 10) (fun _ => x_iload_n rfl l9_3) ?_
    refine Ew_of (pc' := 11) (fun _ => x_aload_n rfl l9_0) ?_
    refine v_g H (o := 0) (v := I (u0_1)) rfl rfl rfl rfl rfl (congrArg (fun z : Int => I z) (((hS_9 0 1 rfl).trans (eu0_1)) : F_9 0 1 = u0_1)) ?_
    refine w_icmpgt (t := 56) rfl rfl (show inr (x9_3) by omega) (show inr (u0_1) by have qh0 := HIDe r1; omega) (fun b3 => ?_) (fun b3 => ?_)
    · have hkn : knF (sc ((w1)) 0 ((u0_1))) = knE (sc ((w1)) 0 ((u0_1))) ((x9_2)) := KNc_e (by (have qg0 := HIDe r1; omega)) j9_k (by (have qg0 := HIDe r1; omega)) (by first | (exfalso; (have qg0 := HIDe r1; omega)) | (have h := hsp; rw [show zMISS = 0 by (have qg0 := HIDe r1; omega)] at h; exact h))
      refine Ew_of (pc' := 57) (fun _ => x_aload_n rfl l9_0) ?_
      refine v_g H (o := 0) (v := I (u0_1)) rfl rfl rfl rfl rfl (congrArg (fun z : Int => I z) (((hS_9 0 1 rfl).trans (eu0_1)) : F_9 0 1 = u0_1)) ?_
      refine Ew_of (pc' := 61) (fun _ => x_iload_n rfl l9_2) ?_
      refine w_isub rfl ?_
      refine Ew_of (pc' := 63) (fun _ => x_iconst rfl) ?_
      refine w_icmpge (t := 68) rfl rfl (show inr ((u0_1 - x9_2)) by have qh0 := HIDe r1; omega) (show inr (4) by omega) (fun b4 => ?_) (fun b4 => ?_)
      · refine Ew_of (pc' := 69) (fun _ => x_aload_n rfl l9_1) ?_
        refine Ew_of (pc' := 70) (fun _ => x_iload_n rfl l9_2) ?_
        refine w_stat24 rfl rfl (by rfl) (C41_Br (D := pul [1] D) (N := pul [1] N) (HW_sub H (VS_of (show vsub V33_Row V41_Br [1] = true by decide +kernel))) (n1) (en1) (w1) ((funext (hA_9 1 rfl)).trans (ew1)) (show inr (x9_2) by omega) (show 0 ≤ (x9_2) ∧ (x9_2) + 4 ≤ (n1) by have qh0 := HIDe r2; omega) (fun z5 σ5 F5' A5' H' O' hS5 hA5 pz5_0 pz5_1 => ⟨rfl, ?_⟩))
        refine v_back (c := c) (s := s) H (show vsub V33_Row V41_Br [1] = true by decide +kernel) H' O' (fun F5 A5 H O' eF5 eA5 => ?_)
        have O := OUT_trans O O'
        -- PackHouse.word
        have hwd := KNc_w (n := (u0_1)) (by (have qg0 := HIDe r1; omega)) (by (have qg0 := HIDe r1; omega)) (by (have qg0 := HIDe r1; omega)) pz5_1
        by_cases b6 : z5 = (-332356553)
        · refine w_lsk 112 rfl (show inr (z5) by omega) b6 rfl rfl ?_
          refine Ew_of (pc' := 113) (fun _ => x_iconst rfl) ?_
          have : ((5) : Int) = knF (sc ((w1)) 0 ((u0_1))) := (hkn.trans (hwd.2.2.1 (by (have qg0 := HIDe r1; omega)))).symm
          exact w_ireturn rfl (k (5) _ _ _ H O (SF_trans (SF_trans (SF_refl) hS_9 (any_sub rfl)) (SF_glu (ι := [1]) hS5 eF5 (by decide +kernel)) (any_sub (l' := []) rfl)) (SA_trans (SA_trans (SA_refl) hA_9 (any_subA rfl)) (SA_glu (ι := [1]) hA5 eA5 (by decide +kernel)) (any_subA (l' := []) rfl)) (show inr (5) by omega) (show (5) = 0 ∨ (5) = 1 ∨ 3 ≤ (5) ∧ (5) ≤ 5 by omega) (show (5) = knF (sc ((w1)) 0 ((u0_1))) by assumption))
        ·
          by_cases b7 : z5 = (-47205080)
          · refine w_lsk 110 rfl (show inr (z5) by omega) b7 rfl rfl ?_
            refine Ew_of (pc' := 111) (fun _ => x_iconst rfl) ?_
            have : ((4) : Int) = knF (sc ((w1)) 0 ((u0_1))) := (hkn.trans (hwd.2.1 (by (have qg0 := HIDe r1; omega)))).symm
            exact w_ireturn rfl (k (4) _ _ _ H O (SF_trans (SF_trans (SF_refl) hS_9 (any_sub rfl)) (SF_glu (ι := [1]) hS5 eF5 (by decide +kernel)) (any_sub (l' := []) rfl)) (SA_trans (SA_trans (SA_refl) hA_9 (any_subA rfl)) (SA_glu (ι := [1]) hA5 eA5 (by decide +kernel)) (any_subA (l' := []) rfl)) (show inr (4) by omega) (show (4) = 0 ∨ (4) = 1 ∨ 3 ≤ (4) ∧ (4) ≤ 5 by omega) (show (4) = knF (sc ((w1)) 0 ((u0_1))) by assumption))
          ·
            by_cases b8 : z5 = 407708164
            · refine w_lsk 108 rfl (show inr (z5) by omega) b8 rfl rfl ?_
              refine Ew_of (pc' := 109) (fun _ => x_iconst rfl) ?_
              have : ((1) : Int) = knF (sc ((w1)) 0 ((u0_1))) := (hkn.trans (hwd.1 (by (have qg0 := HIDe r1; omega)))).symm
              exact w_ireturn rfl (k (1) _ _ _ H O (SF_trans (SF_trans (SF_refl) hS_9 (any_sub rfl)) (SF_glu (ι := [1]) hS5 eF5 (by decide +kernel)) (any_sub (l' := []) rfl)) (SA_trans (SA_trans (SA_refl) hA_9 (any_subA rfl)) (SA_glu (ι := [1]) hA5 eA5 (by decide +kernel)) (any_subA (l' := []) rfl)) (show inr (1) by omega) (show (1) = 0 ∨ (1) = 1 ∨ 3 ≤ (1) ∧ (1) ≤ 5 by omega) (show (1) = knF (sc ((w1)) 0 ((u0_1))) by assumption))
            ·
              refine w_lsd 114 rfl (show inr (z5) by omega) (by intro q hq; simp at hq; rcases hq with rfl | rfl | rfl <;> (first | omega | (simp; omega) | (intro e; simp at e; omega))) rfl ?_
              refine Ew_of (pc' := 115) (fun _ => x_aload_n rfl l9_1) ?_
              refine Ew_of (pc' := 116) (fun _ => x_iload_n rfl l9_2) ?_
              refine Ew_of (pc' := 117) (fun _ => x_aload_n rfl l9_0) ?_
              refine v_g H (o := 0) (v := I (u0_1)) rfl rfl rfl rfl rfl (congrArg (fun z : Int => I z) (((((show F5 0 1 = F_9 0 1 from (eF5 0 1))).trans (hS_9 0 1 rfl)).trans (eu0_1)) : F5 0 1 = u0_1)) ?_
              refine w_stat24 rfl rfl (by rfl) (C192_Br (D := pul [1] D) (N := pul [1] N) (HW_sub H (VS_of (show vsub V33_Row V192_Br [1] = true by decide +kernel))) (STC_out HT HE O) (n1) (en1) (w1) (((show A5 1 = A_9 1 from (eA5 1).trans (funext (hA5 0 rfl)))).trans ((funext (hA_9 1 rfl)).trans (ew1))) (show inr (x9_2) by omega) (show inr (u0_1) by have qh0 := HIDe r1; omega) (show 0 ≤ (x9_2) ∧ 0 ≤ (u0_1) ∧ (u0_1) ≤ (n1) ∧ (n1) ≤ 65536 ∧ (x9_2) ≤ 200000 by have qh0 := HIDe r1; have qh1 := HIDe r2; omega) (fun z9 σ9 F9' A9' H' O' hS9 hA9 pz9_0 pz9_1 => ⟨rretB rfl pz9_0, ?_⟩))
              refine v_back (c := c) (s := s) H (show vsub V33_Row V192_Br [1] = true by decide +kernel) H' O' (fun F9 A9 H O' eF9 eA9 => ?_)
              have O := OUT_trans O O'
              -- Tags.isMark
              have him := pz9_1
              refine w_ifeq (t := 130) rfl rfl (show inr (z9) by omega) (fun b10 => ?_) (fun b10 => ?_)
              · refine Ew_of (pc' := 131) (fun _ => x_iconst rfl) ?_
                have : ((0) : Int) = knF (sc ((w1)) 0 ((u0_1))) := (hkn.trans (by first | exact (hwd.2.2.2 (by (have qg0 := HIDe r1; omega)) (by (have qg0 := HIDe r1; omega)) (by (have qg0 := HIDe r1; omega))).1 (by have h := him; rw [show z9 = 1 by (have qg0 := HIDe r1; omega)] at h; exact h) | exact (hwd.2.2.2 (by (have qg0 := HIDe r1; omega)) (by (have qg0 := HIDe r1; omega)) (by (have qg0 := HIDe r1; omega))).2 (by have h := him; rw [show z9 = 0 by (have qg0 := HIDe r1; omega)] at h; exact h))).symm
                exact w_ireturn rfl (k (0) _ _ _ H O (SF_trans (SF_trans (SF_trans (SF_refl) hS_9 (any_sub rfl)) (SF_glu (ι := [1]) hS5 eF5 (by decide +kernel)) (any_sub (l' := []) rfl)) (SF_glu (ι := [1]) hS9 eF9 (by decide +kernel)) (any_sub (l' := []) rfl)) (SA_trans (SA_trans (SA_trans (SA_refl) hA_9 (any_subA rfl)) (SA_glu (ι := [1]) hA5 eA5 (by decide +kernel)) (any_subA (l' := []) rfl)) (SA_glu (ι := [1]) hA9 eA9 (by decide +kernel)) (any_subA (l' := []) rfl)) (show inr (0) by omega) (show (0) = 0 ∨ (0) = 1 ∨ 3 ≤ (0) ∧ (0) ≤ 5 by omega) (show (0) = knF (sc ((w1)) 0 ((u0_1))) by assumption))
              · refine Ew_of (pc' := 127) (fun _ => x_iconst rfl) ?_
                refine Ew_of (pc' := 131) (fun _ => x_goto rfl rfl) ?_
                have : ((3) : Int) = knF (sc ((w1)) 0 ((u0_1))) := (hkn.trans (by first | exact (hwd.2.2.2 (by (have qg0 := HIDe r1; omega)) (by (have qg0 := HIDe r1; omega)) (by (have qg0 := HIDe r1; omega))).1 (by have h := him; rw [show z9 = 1 by (have qg0 := HIDe r1; omega)] at h; exact h) | exact (hwd.2.2.2 (by (have qg0 := HIDe r1; omega)) (by (have qg0 := HIDe r1; omega)) (by (have qg0 := HIDe r1; omega))).2 (by have h := him; rw [show z9 = 0 by (have qg0 := HIDe r1; omega)] at h; exact h))).symm
                exact w_ireturn rfl (k (3) _ _ _ H O (SF_trans (SF_trans (SF_trans (SF_refl) hS_9 (any_sub rfl)) (SF_glu (ι := [1]) hS5 eF5 (by decide +kernel)) (any_sub (l' := []) rfl)) (SF_glu (ι := [1]) hS9 eF9 (by decide +kernel)) (any_sub (l' := []) rfl)) (SA_trans (SA_trans (SA_trans (SA_refl) hA_9 (any_subA rfl)) (SA_glu (ι := [1]) hA5 eA5 (by decide +kernel)) (any_subA (l' := []) rfl)) (SA_glu (ι := [1]) hA9 eA9 (by decide +kernel)) (any_subA (l' := []) rfl)) (show inr (3) by omega) (show (3) = 0 ∨ (3) = 1 ∨ 3 ≤ (3) ∧ (3) ≤ 5 by omega) (show (3) = knF (sc ((w1)) 0 ((u0_1))) by assumption))
      · refine Ew_of (pc' := 67) (fun _ => x_iconst rfl) ?_
        have : ((0) : Int) = knF (sc ((w1)) 0 ((u0_1))) := (hkn.trans (knE_n (by rw [sc_lenI (by (have qg0 := HIDe r1; omega))]; (have qg0 := HIDe r1; omega)))).symm
        exact w_ireturn rfl (k (0) _ _ _ H O (SF_trans (SF_refl) hS_9 (any_sub rfl)) (SA_trans (SA_refl) hA_9 (any_subA rfl)) (show inr (0) by omega) (show (0) = 0 ∨ (0) = 1 ∨ 3 ≤ (0) ∧ (0) ≤ 5 by omega) (show (0) = knF (sc ((w1)) 0 ((u0_1))) by assumption))
    · refine Ew_of (pc' := 18) (fun _ => x_aload_n rfl l9_1) ?_
      refine Ew_of (pc' := 19) (fun _ => x_iload_n rfl l9_2) ?_
      refine Ew_of (pc' := 20) (fun _ => x_aload_n rfl l9_0) ?_
      refine v_g H (o := 0) (v := I (u0_1)) rfl rfl rfl rfl rfl (congrArg (fun z : Int => I z) (((hS_9 0 1 rfl).trans (eu0_1)) : F_9 0 1 = u0_1)) ?_
      refine w_stat24 rfl rfl (by rfl) (C43_Br (D := pul [1] D) (N := pul [1] N) (HW_sub H (VS_of (show vsub V33_Row V43_Br [1] = true by decide +kernel))) (n1) (en1) (w1) ((funext (hA_9 1 rfl)).trans (ew1)) (show inr (x9_2) by omega) (show inr (u0_1) by have qh0 := HIDe r1; omega) (show 0 ≤ (x9_2) ∧ 0 ≤ (u0_1) ∧ (u0_1) ≤ (n1) ∧ (n1) ≤ 65536 ∧ (x9_2) ≤ 200000 by have qh0 := HIDe r1; have qh1 := HIDe r2; omega) (fun z11 σ11 F11' A11' H' O' hS11 hA11 pz11_0 pz11_1 pz11_2 => ⟨rretB rfl pz11_0, ?_⟩))
      refine v_back (c := c) (s := s) H (show vsub V33_Row V43_Br [1] = true by decide +kernel) H' O' (fun F11 A11 H O' eF11 eA11 => ?_)
      have O := OUT_trans O O'
      -- PackHouse.isSpare
      have hsp := pz11_2
      refine w_ifeq (t := 56) rfl rfl (show inr (z11) by omega) (fun b12 => ?_) (fun b12 => ?_)
      · have hkn : knF (sc ((w1)) 0 ((u0_1))) = knE (sc ((w1)) 0 ((u0_1))) ((x9_2)) := KNc_e (by (have qg0 := HIDe r1; omega)) j9_k (by (have qg0 := HIDe r1; omega)) (by first | (exfalso; (have qg0 := HIDe r1; omega)) | (have h := hsp; rw [show z11 = 0 by (have qg0 := HIDe r1; omega)] at h; exact h))
        refine Ew_of (pc' := 57) (fun _ => x_aload_n rfl l9_0) ?_
        refine v_g H (o := 0) (v := I (u0_1)) rfl rfl rfl rfl rfl (congrArg (fun z : Int => I z) (((((show F11 0 1 = F_9 0 1 from (eF11 0 1))).trans (hS_9 0 1 rfl)).trans (eu0_1)) : F11 0 1 = u0_1)) ?_
        refine Ew_of (pc' := 61) (fun _ => x_iload_n rfl l9_2) ?_
        refine w_isub rfl ?_
        refine Ew_of (pc' := 63) (fun _ => x_iconst rfl) ?_
        refine w_icmpge (t := 68) rfl rfl (show inr ((u0_1 - x9_2)) by have qh0 := HIDe r1; omega) (show inr (4) by omega) (fun b13 => ?_) (fun b13 => ?_)
        · refine Ew_of (pc' := 69) (fun _ => x_aload_n rfl l9_1) ?_
          refine Ew_of (pc' := 70) (fun _ => x_iload_n rfl l9_2) ?_
          refine w_stat24 rfl rfl (by rfl) (C41_Br (D := pul [1] D) (N := pul [1] N) (HW_sub H (VS_of (show vsub V33_Row V41_Br [1] = true by decide +kernel))) (n1) (en1) (w1) (((show A11 1 = A_9 1 from (eA11 1).trans (funext (hA11 0 rfl)))).trans ((funext (hA_9 1 rfl)).trans (ew1))) (show inr (x9_2) by omega) (show 0 ≤ (x9_2) ∧ (x9_2) + 4 ≤ (n1) by have qh0 := HIDe r2; omega) (fun z14 σ14 F14' A14' H' O' hS14 hA14 pz14_0 pz14_1 => ⟨rfl, ?_⟩))
          refine v_back (c := c) (s := s) H (show vsub V33_Row V41_Br [1] = true by decide +kernel) H' O' (fun F14 A14 H O' eF14 eA14 => ?_)
          have O := OUT_trans O O'
          -- PackHouse.word
          have hwd := KNc_w (n := (u0_1)) (by (have qg0 := HIDe r1; omega)) (by (have qg0 := HIDe r1; omega)) (by (have qg0 := HIDe r1; omega)) pz14_1
          by_cases b15 : z14 = (-332356553)
          · refine w_lsk 112 rfl (show inr (z14) by omega) b15 rfl rfl ?_
            refine Ew_of (pc' := 113) (fun _ => x_iconst rfl) ?_
            have : ((5) : Int) = knF (sc ((w1)) 0 ((u0_1))) := (hkn.trans (hwd.2.2.1 (by (have qg0 := HIDe r1; omega)))).symm
            exact w_ireturn rfl (k (5) _ _ _ H O (SF_trans (SF_trans (SF_trans (SF_refl) hS_9 (any_sub rfl)) (SF_glu (ι := [1]) hS11 eF11 (by decide +kernel)) (any_sub (l' := []) rfl)) (SF_glu (ι := [1]) hS14 eF14 (by decide +kernel)) (any_sub (l' := []) rfl)) (SA_trans (SA_trans (SA_trans (SA_refl) hA_9 (any_subA rfl)) (SA_glu (ι := [1]) hA11 eA11 (by decide +kernel)) (any_subA (l' := []) rfl)) (SA_glu (ι := [1]) hA14 eA14 (by decide +kernel)) (any_subA (l' := []) rfl)) (show inr (5) by omega) (show (5) = 0 ∨ (5) = 1 ∨ 3 ≤ (5) ∧ (5) ≤ 5 by omega) (show (5) = knF (sc ((w1)) 0 ((u0_1))) by assumption))
          ·
            by_cases b16 : z14 = (-47205080)
            · refine w_lsk 110 rfl (show inr (z14) by omega) b16 rfl rfl ?_
              refine Ew_of (pc' := 111) (fun _ => x_iconst rfl) ?_
              have : ((4) : Int) = knF (sc ((w1)) 0 ((u0_1))) := (hkn.trans (hwd.2.1 (by (have qg0 := HIDe r1; omega)))).symm
              exact w_ireturn rfl (k (4) _ _ _ H O (SF_trans (SF_trans (SF_trans (SF_refl) hS_9 (any_sub rfl)) (SF_glu (ι := [1]) hS11 eF11 (by decide +kernel)) (any_sub (l' := []) rfl)) (SF_glu (ι := [1]) hS14 eF14 (by decide +kernel)) (any_sub (l' := []) rfl)) (SA_trans (SA_trans (SA_trans (SA_refl) hA_9 (any_subA rfl)) (SA_glu (ι := [1]) hA11 eA11 (by decide +kernel)) (any_subA (l' := []) rfl)) (SA_glu (ι := [1]) hA14 eA14 (by decide +kernel)) (any_subA (l' := []) rfl)) (show inr (4) by omega) (show (4) = 0 ∨ (4) = 1 ∨ 3 ≤ (4) ∧ (4) ≤ 5 by omega) (show (4) = knF (sc ((w1)) 0 ((u0_1))) by assumption))
            ·
              by_cases b17 : z14 = 407708164
              · refine w_lsk 108 rfl (show inr (z14) by omega) b17 rfl rfl ?_
                refine Ew_of (pc' := 109) (fun _ => x_iconst rfl) ?_
                have : ((1) : Int) = knF (sc ((w1)) 0 ((u0_1))) := (hkn.trans (hwd.1 (by (have qg0 := HIDe r1; omega)))).symm
                exact w_ireturn rfl (k (1) _ _ _ H O (SF_trans (SF_trans (SF_trans (SF_refl) hS_9 (any_sub rfl)) (SF_glu (ι := [1]) hS11 eF11 (by decide +kernel)) (any_sub (l' := []) rfl)) (SF_glu (ι := [1]) hS14 eF14 (by decide +kernel)) (any_sub (l' := []) rfl)) (SA_trans (SA_trans (SA_trans (SA_refl) hA_9 (any_subA rfl)) (SA_glu (ι := [1]) hA11 eA11 (by decide +kernel)) (any_subA (l' := []) rfl)) (SA_glu (ι := [1]) hA14 eA14 (by decide +kernel)) (any_subA (l' := []) rfl)) (show inr (1) by omega) (show (1) = 0 ∨ (1) = 1 ∨ 3 ≤ (1) ∧ (1) ≤ 5 by omega) (show (1) = knF (sc ((w1)) 0 ((u0_1))) by assumption))
              ·
                refine w_lsd 114 rfl (show inr (z14) by omega) (by intro q hq; simp at hq; rcases hq with rfl | rfl | rfl <;> (first | omega | (simp; omega) | (intro e; simp at e; omega))) rfl ?_
                refine Ew_of (pc' := 115) (fun _ => x_aload_n rfl l9_1) ?_
                refine Ew_of (pc' := 116) (fun _ => x_iload_n rfl l9_2) ?_
                refine Ew_of (pc' := 117) (fun _ => x_aload_n rfl l9_0) ?_
                refine v_g H (o := 0) (v := I (u0_1)) rfl rfl rfl rfl rfl (congrArg (fun z : Int => I z) ((((((show F14 0 1 = F11 0 1 from (eF14 0 1))).trans ((show F11 0 1 = F_9 0 1 from (eF11 0 1)))).trans (hS_9 0 1 rfl)).trans (eu0_1)) : F14 0 1 = u0_1)) ?_
                refine w_stat24 rfl rfl (by rfl) (C192_Br (D := pul [1] D) (N := pul [1] N) (HW_sub H (VS_of (show vsub V33_Row V192_Br [1] = true by decide +kernel))) (STC_out HT HE O) (n1) (en1) (w1) (((show A14 1 = A11 1 from (eA14 1).trans (funext (hA14 0 rfl)))).trans (((show A11 1 = A_9 1 from (eA11 1).trans (funext (hA11 0 rfl)))).trans ((funext (hA_9 1 rfl)).trans (ew1)))) (show inr (x9_2) by omega) (show inr (u0_1) by have qh0 := HIDe r1; omega) (show 0 ≤ (x9_2) ∧ 0 ≤ (u0_1) ∧ (u0_1) ≤ (n1) ∧ (n1) ≤ 65536 ∧ (x9_2) ≤ 200000 by have qh0 := HIDe r1; have qh1 := HIDe r2; omega) (fun z18 σ18 F18' A18' H' O' hS18 hA18 pz18_0 pz18_1 => ⟨rretB rfl pz18_0, ?_⟩))
                refine v_back (c := c) (s := s) H (show vsub V33_Row V192_Br [1] = true by decide +kernel) H' O' (fun F18 A18 H O' eF18 eA18 => ?_)
                have O := OUT_trans O O'
                -- Tags.isMark
                have him := pz18_1
                refine w_ifeq (t := 130) rfl rfl (show inr (z18) by omega) (fun b19 => ?_) (fun b19 => ?_)
                · refine Ew_of (pc' := 131) (fun _ => x_iconst rfl) ?_
                  have : ((0) : Int) = knF (sc ((w1)) 0 ((u0_1))) := (hkn.trans (by first | exact (hwd.2.2.2 (by (have qg0 := HIDe r1; omega)) (by (have qg0 := HIDe r1; omega)) (by (have qg0 := HIDe r1; omega))).1 (by have h := him; rw [show z18 = 1 by (have qg0 := HIDe r1; omega)] at h; exact h) | exact (hwd.2.2.2 (by (have qg0 := HIDe r1; omega)) (by (have qg0 := HIDe r1; omega)) (by (have qg0 := HIDe r1; omega))).2 (by have h := him; rw [show z18 = 0 by (have qg0 := HIDe r1; omega)] at h; exact h))).symm
                  exact w_ireturn rfl (k (0) _ _ _ H O (SF_trans (SF_trans (SF_trans (SF_trans (SF_refl) hS_9 (any_sub rfl)) (SF_glu (ι := [1]) hS11 eF11 (by decide +kernel)) (any_sub (l' := []) rfl)) (SF_glu (ι := [1]) hS14 eF14 (by decide +kernel)) (any_sub (l' := []) rfl)) (SF_glu (ι := [1]) hS18 eF18 (by decide +kernel)) (any_sub (l' := []) rfl)) (SA_trans (SA_trans (SA_trans (SA_trans (SA_refl) hA_9 (any_subA rfl)) (SA_glu (ι := [1]) hA11 eA11 (by decide +kernel)) (any_subA (l' := []) rfl)) (SA_glu (ι := [1]) hA14 eA14 (by decide +kernel)) (any_subA (l' := []) rfl)) (SA_glu (ι := [1]) hA18 eA18 (by decide +kernel)) (any_subA (l' := []) rfl)) (show inr (0) by omega) (show (0) = 0 ∨ (0) = 1 ∨ 3 ≤ (0) ∧ (0) ≤ 5 by omega) (show (0) = knF (sc ((w1)) 0 ((u0_1))) by assumption))
                · refine Ew_of (pc' := 127) (fun _ => x_iconst rfl) ?_
                  refine Ew_of (pc' := 131) (fun _ => x_goto rfl rfl) ?_
                  have : ((3) : Int) = knF (sc ((w1)) 0 ((u0_1))) := (hkn.trans (by first | exact (hwd.2.2.2 (by (have qg0 := HIDe r1; omega)) (by (have qg0 := HIDe r1; omega)) (by (have qg0 := HIDe r1; omega))).1 (by have h := him; rw [show z18 = 1 by (have qg0 := HIDe r1; omega)] at h; exact h) | exact (hwd.2.2.2 (by (have qg0 := HIDe r1; omega)) (by (have qg0 := HIDe r1; omega)) (by (have qg0 := HIDe r1; omega))).2 (by have h := him; rw [show z18 = 0 by (have qg0 := HIDe r1; omega)] at h; exact h))).symm
                  exact w_ireturn rfl (k (3) _ _ _ H O (SF_trans (SF_trans (SF_trans (SF_trans (SF_refl) hS_9 (any_sub rfl)) (SF_glu (ι := [1]) hS11 eF11 (by decide +kernel)) (any_sub (l' := []) rfl)) (SF_glu (ι := [1]) hS14 eF14 (by decide +kernel)) (any_sub (l' := []) rfl)) (SF_glu (ι := [1]) hS18 eF18 (by decide +kernel)) (any_sub (l' := []) rfl)) (SA_trans (SA_trans (SA_trans (SA_trans (SA_refl) hA_9 (any_subA rfl)) (SA_glu (ι := [1]) hA11 eA11 (by decide +kernel)) (any_subA (l' := []) rfl)) (SA_glu (ι := [1]) hA14 eA14 (by decide +kernel)) (any_subA (l' := []) rfl)) (SA_glu (ι := [1]) hA18 eA18 (by decide +kernel)) (any_subA (l' := []) rfl)) (show inr (3) by omega) (show (3) = 0 ∨ (3) = 1 ∨ 3 ≤ (3) ∧ (3) ≤ 5 by omega) (show (3) = knF (sc ((w1)) 0 ((u0_1))) by assumption))
        · refine Ew_of (pc' := 67) (fun _ => x_iconst rfl) ?_
          have : ((0) : Int) = knF (sc ((w1)) 0 ((u0_1))) := (hkn.trans (knE_n (by rw [sc_lenI (by (have qg0 := HIDe r1; omega))]; (have qg0 := HIDe r1; omega)))).symm
          exact w_ireturn rfl (k (0) _ _ _ H O (SF_trans (SF_trans (SF_refl) hS_9 (any_sub rfl)) (SF_glu (ι := [1]) hS11 eF11 (by decide +kernel)) (any_sub (l' := []) rfl)) (SA_trans (SA_trans (SA_refl) hA_9 (any_subA rfl)) (SA_glu (ι := [1]) hA11 eA11 (by decide +kernel)) (any_subA (l' := []) rfl)) (show inr (0) by omega) (show (0) = 0 ∨ (0) = 1 ∨ 3 ≤ (0) ∧ (0) ≤ 5 by omega) (show (0) = knF (sc ((w1)) 0 ((u0_1))) by assumption))
      · refine Ew_of (pc' := 30) (fun _ => x_aload_n rfl l9_1) ?_
        refine Ew_of (pc' := 31) (fun _ => x_iload_n rfl l9_2) ?_
        refine Ew_of (pc' := 32) (fun _ => x_aload_n rfl l9_0) ?_
        refine v_g H (o := 0) (v := I (u0_1)) rfl rfl rfl rfl rfl (congrArg (fun z : Int => I z) (((((show F11 0 1 = F_9 0 1 from (eF11 0 1))).trans (hS_9 0 1 rfl)).trans (eu0_1)) : F11 0 1 = u0_1)) ?_
        refine w_stat24 rfl rfl (by rfl) (C44_Br (D := pul [1] D) (N := pul [1] N) (HW_sub H (VS_of (show vsub V33_Row V44_Br [1] = true by decide +kernel))) (n1) (en1) (w1) (((show A11 1 = A_9 1 from (eA11 1).trans (funext (hA11 0 rfl)))).trans ((funext (hA_9 1 rfl)).trans (ew1))) (show inr (x9_2) by omega) (show inr (u0_1) by have qh0 := HIDe r1; omega) (show 0 ≤ (x9_2) ∧ 0 ≤ (u0_1) ∧ (u0_1) ≤ (n1) ∧ (n1) ≤ 65536 ∧ (x9_2) ≤ 200000 by have qh0 := HIDe r1; have qh1 := HIDe r2; omega) (fun z20 σ20 F20' A20' H' O' hS20 hA20 pz20_0 pz20_1 pz20_2 => ⟨rfl, ?_⟩))
        refine v_back (c := c) (s := s) H (show vsub V33_Row V44_Br [1] = true by decide +kernel) H' O' (fun F20 A20 H O' eF20 eA20 => ?_)
        have O := OUT_trans O O'
        -- PackHouse.afterSpare
        have has := pz20_2
        refine Ew_of (pc' := 40) (fun _ => x_istore rfl) ?_
        refine Ew_of (pc' := 42) (fun _ => x_iload rfl rk_s) ?_
        refine w_ifge (t := 47) rfl rfl (show inr (z20) by omega) (fun b21 => ?_) (fun b21 => ?_)
        · refine Ew_of (pc' := 49) (fun _ => x_iload rfl rk_s) ?_
          refine Ew_of (pc' := 50) (fun _ => x_istore_n rfl) ?_
          refine Ew_of (pc' := 53) (fun _ => x_iinc (len := 3) rfl (rk_o (rk_o (l9_3) rfl rfl) rfl rfl)) ?_
          refine Ew_of (pc' := 9) (fun _ => x_goto rfl rfl) ?_
          have : KNO (sc ((w1)) 0 ((u0_1))) ((z20)) := KNO_c (by (have qg0 := HIDe r1; omega)) j9_k (by (have qg0 := HIDe r1; omega)) (show SPQ _ _ _ 1 by have h := hsp; rw [show z11 = 1 by (have qg0 := HIDe r1; omega)] at h; exact h) has (by (have qg0 := HIDe r1; omega))
          exact ih9 _ (by omega) _ _ _ _ (z20) ((x9_3 + 1)) (rk_o (rk_o (rk_o (l9_0) rfl rfl) rfl rfl) rfl rfl) (rk_o (rk_o (rk_o (l9_1) rfl rfl) rfl rfl) rfl rfl) (rk_o (rk_s) rfl rfl) (rk_s) H O (SF_trans (SF_trans (hS_9) (SF_glu (ι := [1]) hS11 eF11 (by decide +kernel)) (any_sub (l' := []) rfl)) (SF_glu (ι := [1]) hS20 eF20 (by decide +kernel)) (any_sub (l' := []) rfl)) (SA_trans (SA_trans (hA_9) (SA_glu (ι := [1]) hA11 eA11 (by decide +kernel)) (any_subA (l' := []) rfl)) (SA_glu (ι := [1]) hA20 eA20 (by decide +kernel)) (any_subA (l' := []) rfl))     (show inr (z20) by omega) (show inr ((x9_3 + 1)) by omega) (show 0 ≤ (z20) ∧ (z20) ≤ (u0_1) by have qh0 := HIDe r1; omega) (show 0 ≤ ((x9_3 + 1)) ∧ 8 * ((x9_3 + 1)) ≤ (z20) by omega) (show KNO (sc ((w1)) 0 ((u0_1))) ((z20)) by assumption) rfl
        · refine Ew_of (pc' := 46) (fun _ => x_iconst rfl) ?_
          have : ((0) : Int) = knF (sc ((w1)) 0 ((u0_1))) := (KNc_0 (by (have qg0 := HIDe r1; omega)) j9_k (by (have qg0 := HIDe r1; omega)) (show SPQ _ _ _ 1 by have h := hsp; rw [show z11 = 1 by (have qg0 := HIDe r1; omega)] at h; exact h) has (by (have qg0 := HIDe r1; omega))).symm
          exact w_ireturn rfl (k (0) _ _ _ H O (SF_trans (SF_trans (SF_trans (SF_refl) hS_9 (any_sub rfl)) (SF_glu (ι := [1]) hS11 eF11 (by decide +kernel)) (any_sub (l' := []) rfl)) (SF_glu (ι := [1]) hS20 eF20 (by decide +kernel)) (any_sub (l' := []) rfl)) (SA_trans (SA_trans (SA_trans (SA_refl) hA_9 (any_subA rfl)) (SA_glu (ι := [1]) hA11 eA11 (by decide +kernel)) (any_subA (l' := []) rfl)) (SA_glu (ι := [1]) hA20 eA20 (by decide +kernel)) (any_subA (l' := []) rfl)) (show inr (0) by omega) (show (0) = 0 ∨ (0) = 1 ∨ 3 ≤ (0) ∧ (0) ≤ 5 by omega) (show (0) = knF (sc ((w1)) 0 ((u0_1))) by assumption))
/-- PackHouse.kind: this, this.rows, this.rows.0, this.rows.0.bytes, this.rows.1, this.rows.1.bytes, this.rows.2, this.rows.2.bytes, this.rows.3, this.rows.3.bytes -/
theorem C19p {σE : rS} {D N : Nat → Nat} {F : hF} {A : hA} {d c s : Nat} {Q : wQ} (H : HW V19 σE D N F A) (HT : STC σE) {a1 : Int} (pf1 : F 0 0 = (D 1 : Int)) (pf2 : A 1 0 = (D 2 : Int)) (pf3 : F 2 0 = (D 3 : Int)) (pf4 : A 1 1 = (D 4 : Int)) (pf5 : F 4 0 = (D 5 : Int)) (pf6 : A 1 2 = (D 6 : Int)) (pf7 : F 6 0 = (D 7 : Int)) (pf8 : A 1 3 = (D 8 : Int)) (pf9 : F 8 0 = (D 9 : Int)) (n1 : Int) (en1 : (N 1 : Int) = n1) (n3 : Int) (en3 : (N 3 : Int) = n3) (n5 : Int) (en5 : (N 5 : Int) = n5) (n7 : Int) (en7 : (N 7 : Int) = n7) (n9 : Int) (en9 : (N 9 : Int) = n9) (u2_1 : Int) (eu2_1 : F 2 1 = u2_1) (u4_1 : Int) (eu4_1 : F 4 1 = u4_1) (u6_1 : Int) (eu6_1 : F 6 1 = u6_1) (u8_1 : Int) (eu8_1 : F 8 1 = u8_1) (w3 : Int → Int) (ew3 : A 3 = w3) (w5 : Int → Int) (ew5 : A 5 = w5) (w7 : Int → Int) (ew7 : A 7 = w7) (w9 : Int → Int) (ew9 : A 9 = w9) (h0 : inr (a1)) (h1 : (n1) = 4) (h2 : 0 ≤ (u2_1) ∧ (u2_1) ≤ (n3) ∧ (n3) ≤ 65536) (h3 : 0 ≤ (u4_1) ∧ (u4_1) ≤ (n5) ∧ (n5) ≤ 65536) (h4 : 0 ≤ (u6_1) ∧ (u6_1) ≤ (n7) ∧ (n7) ≤ 65536) (h5 : 0 ≤ (u8_1) ∧ (u8_1) ≤ (n9) ∧ (n9) ≤ 65536) (k : ∀ (z : Int) (σ : rS) (F' : hF) (A' : hA), HW V19 σ D N F' A' → OUT (V19).length D N σE c s D N σ c s → SF [] F F' → SA [] A A' → (inr (z)) → (0 ≤ (a1) ∧ (a1) ≤ 3 ∨ (z) = -1) → (IMP ((a1) = 0) ((z) = knF (sc ((w3)) 0 ((u2_1))))) → (IMP ((a1) = 1) ((z) = knF (sc ((w5)) 0 ((u4_1))))) → (IMP ((a1) = 2) ((z) = knF (sc ((w7)) 0 ((u6_1))))) → (IMP ((a1) = 3) ((z) = knF (sc ((w9)) 0 ((u8_1))))) → Q (some (I z)) σ c s) : Ew 19 (d + 3) 0 (rargs 0 [.ref (D 0), I a1]) [] σE c s Q := by
  have O := OUT_refl (n := (V19).length) (D := D) (N := N) (σ := σE) (c := c) (s := s)
  have HE := H
  have r1 : HID ((-2147483648 : Int) ≤ u2_1 ∧ u2_1 ≤ 2147483647) := krg_e (show (-2147483648 : Int) ≤ F 2 1 ∧ F 2 1 ≤ 2147483647 from H.krg 2 1 (by decide)) (show F 2 1 = u2_1 from (eu2_1))
  have r2 : HID ((-2147483648 : Int) ≤ u4_1 ∧ u4_1 ≤ 2147483647) := krg_e (show (-2147483648 : Int) ≤ F 4 1 ∧ F 4 1 ≤ 2147483647 from H.krg 4 1 (by decide)) (show F 4 1 = u4_1 from (eu4_1))
  have r3 : HID ((-2147483648 : Int) ≤ u6_1 ∧ u6_1 ≤ 2147483647) := krg_e (show (-2147483648 : Int) ≤ F 6 1 ∧ F 6 1 ≤ 2147483647 from H.krg 6 1 (by decide)) (show F 6 1 = u6_1 from (eu6_1))
  have r4 : HID ((-2147483648 : Int) ≤ u8_1 ∧ u8_1 ≤ 2147483647) := krg_e (show (-2147483648 : Int) ≤ F 8 1 ∧ F 8 1 ≤ 2147483647 from H.krg 8 1 (by decide)) (show F 8 1 = u8_1 from (eu8_1))
  replace pf1 := HIDm pf1
  replace pf2 := HIDm pf2
  replace pf3 := HIDm pf3
  replace pf4 := HIDm pf4
  replace pf5 := HIDm pf5
  replace pf6 := HIDm pf6
  replace pf7 := HIDm pf7
  replace pf8 := HIDm pf8
  replace pf9 := HIDm pf9
  replace en1 := HIDm en1
  replace en3 := HIDm en3
  replace en5 := HIDm en5
  replace en7 := HIDm en7
  replace en9 := HIDm en9
  replace eu2_1 := HIDm eu2_1
  replace eu4_1 := HIDm eu4_1
  replace eu6_1 := HIDm eu6_1
  replace eu8_1 := HIDm eu8_1
  have r5 : HID ((0 : Int) ≤ n1 ∧ n1 ≤ 1000000) := nrng (H.nle 1 (by decide)) (show (N 1 : Int) = n1 from en1)
  have r6 : HID ((0 : Int) ≤ n3 ∧ n3 ≤ 1000000) := nrng (H.nle 3 (by decide)) (show (N 3 : Int) = n3 from en3)
  have r7 : HID ((0 : Int) ≤ n5 ∧ n5 ≤ 1000000) := nrng (H.nle 5 (by decide)) (show (N 5 : Int) = n5 from en5)
  have r8 : HID ((0 : Int) ≤ n7 ∧ n7 ≤ 1000000) := nrng (H.nle 7 (by decide)) (show (N 7 : Int) = n7 from en7)
  have r9 : HID ((0 : Int) ≤ n9 ∧ n9 ≤ 1000000) := nrng (H.nle 9 (by decide)) (show (N 9 : Int) = n9 from en9)
  refine Ew_of (pc' := 1) (fun _ => x_iload_n rfl rfl) ?_
  refine w_stat24 rfl rfl (by rfl) (C24x (D := pul [] D) (N := pul [] N) (HW_sub H (VS_of (show vsub V19 V24 [] = true by decide +kernel))) (show inr (a1) by omega) (fun z10 σ10 F10' A10' H' O' hS10 hA10 pz10_0 pz10_1 => ⟨rretB rfl pz10_0, ?_⟩))
  refine v_back (c := c) (s := s) H (show vsub V19 V24 [] = true by decide +kernel) H' O' (fun F10 A10 H O' eF10 eA10 => ?_)
  have O := OUT_trans O O'
  -- PackHouse.isRow
  refine w_ifeq (t := 19) rfl rfl (show inr (z10) by omega) (fun b11 => ?_) (fun b11 => ?_)
  · refine Ew_of (pc' := 20) (fun _ => x_iconst rfl) ?_
    have h0_0 : IMP ((a1) = 0) (((-1)) = knF (sc ((w3)) 0 ((u2_1)))) := by first | exact fun q => absurd q (by (have qg0 := HIDe r1; omega)) | exact fun _ => pNONE_2
    have h0_1 : IMP ((a1) = 1) (((-1)) = knF (sc ((w5)) 0 ((u4_1)))) := by first | exact fun q => absurd q (by (have qg0 := HIDe r2; omega)) | exact fun _ => pNONE_2
    have h0_2 : IMP ((a1) = 2) (((-1)) = knF (sc ((w7)) 0 ((u6_1)))) := by first | exact fun q => absurd q (by (have qg0 := HIDe r3; omega)) | exact fun _ => pNONE_2
    have h0_3 : IMP ((a1) = 3) (((-1)) = knF (sc ((w9)) 0 ((u8_1)))) := by first | exact fun q => absurd q (by (have qg0 := HIDe r4; omega)) | exact fun _ => pNONE_2
    exact w_ireturn rfl (k ((-1)) _ _ _ H O (SF_trans (SF_refl) (SF_glu (ι := []) hS10 eF10 (by decide +kernel)) (any_sub (l' := []) rfl)) (SA_trans (SA_refl) (SA_glu (ι := []) hA10 eA10 (by decide +kernel)) (any_subA (l' := []) rfl)) (show inr ((-1)) by omega) (show 0 ≤ a1 ∧ a1 ≤ 3 ∨ ((-1)) = -1 by omega) (show IMP (a1 = 0) (((-1)) = knF (sc ((w3)) 0 ((u2_1)))) by assumption) (show IMP (a1 = 1) (((-1)) = knF (sc ((w5)) 0 ((u4_1)))) by assumption) (show IMP (a1 = 2) (((-1)) = knF (sc ((w7)) 0 ((u6_1)))) by assumption) (show IMP (a1 = 3) (((-1)) = knF (sc ((w9)) 0 ((u8_1)))) by assumption))
  · refine Ew_of (pc' := 8) (fun _ => x_aload_n rfl rfl) ?_
    refine v_g H (o := 0) (v := .ref (D 1)) rfl rfl rfl rfl rfl (vrf ((((show F10 0 0 = F 0 0 from (eF10 0 0)))).trans (pf1))) ?_
    refine Ew_of (pc' := 12) (fun _ => x_iload_n rfl rfl) ?_
    rcases (show a1 = 0 ∨ a1 = 1 ∨ a1 = 2 ∨ a1 = 3 by omega) with b12 | b12 | b12 | b12
    · refine v_lR H (o := 1) rfl rfl rfl rfl rfl (n := n1) (en1) (show 0 ≤ a1 ∧ a1 < n1 by have qh0 := HIDe r5; omega) (z := ((D 2 : Nat) : Int)) (v := .ref (D 2)) ((congrArg (A10 1) b12).trans ((congrFun (((show A10 1 = A 1 from (eA10 1)))) 0).trans (pf2))) (vrf rfl) ?_
      refine w_stat24 rfl rfl (by rfl) (C33_Rowp (D := pul [2, 3] D) (N := pul [2, 3] N) (HW_sub H (VS_of (show vsub V19 V33_Row [2, 3] = true by decide +kernel))) (STC_out HT HE O) ((((show F10 2 0 = F 2 0 from (eF10 2 0)))).trans (pf3)) (n3) (en3) (u2_1) ((((show F10 2 1 = F 2 1 from (eF10 2 1))).trans (eu2_1))) (w3) (((show A10 3 = A 3 from (eA10 3))).trans (ew3)) (show 0 ≤ (u2_1) ∧ (u2_1) ≤ (n3) ∧ (n3) ≤ 65536 by have qh0 := HIDe r1; have qh1 := HIDe r6; omega) (fun z13 σ13 F13' A13' H' O' hS13 hA13 pz13_0 pz13_1 pz13_2 => ⟨rfl, ?_⟩))
      refine v_back (c := c) (s := s) H (show vsub V19 V33_Row [2, 3] = true by decide +kernel) H' O' (fun F13 A13 H O' eF13 eA13 => ?_)
      have O := OUT_trans O O'
      -- PackHouse.formatOf
      refine Ew_of (pc' := 20) (fun _ => x_goto rfl rfl) ?_
      have h0_0 : IMP ((a1) = 0) ((z13) = knF (sc ((w3)) 0 ((u2_1)))) := by first | exact fun q => absurd q (by (have qg0 := HIDe r1; omega)) | exact fun _ => pz13_2
      have h0_1 : IMP ((a1) = 1) ((z13) = knF (sc ((w5)) 0 ((u4_1)))) := by first | exact fun q => absurd q (by (have qg0 := HIDe r2; omega)) | exact fun _ => pz13_2
      have h0_2 : IMP ((a1) = 2) ((z13) = knF (sc ((w7)) 0 ((u6_1)))) := by first | exact fun q => absurd q (by (have qg0 := HIDe r3; omega)) | exact fun _ => pz13_2
      have h0_3 : IMP ((a1) = 3) ((z13) = knF (sc ((w9)) 0 ((u8_1)))) := by first | exact fun q => absurd q (by (have qg0 := HIDe r4; omega)) | exact fun _ => pz13_2
      exact w_ireturn rfl (k (z13) _ _ _ H O (SF_trans (SF_trans (SF_refl) (SF_glu (ι := []) hS10 eF10 (by decide +kernel)) (any_sub (l' := []) rfl)) (SF_glu (ι := [2, 3]) hS13 eF13 (by decide +kernel)) (any_sub (l' := []) rfl)) (SA_trans (SA_trans (SA_refl) (SA_glu (ι := []) hA10 eA10 (by decide +kernel)) (any_subA (l' := []) rfl)) (SA_glu (ι := [2, 3]) hA13 eA13 (by decide +kernel)) (any_subA (l' := []) rfl)) (show inr (z13) by omega) (show 0 ≤ a1 ∧ a1 ≤ 3 ∨ (z13) = -1 by omega) (show IMP (a1 = 0) ((z13) = knF (sc ((w3)) 0 ((u2_1)))) by assumption) (show IMP (a1 = 1) ((z13) = knF (sc ((w5)) 0 ((u4_1)))) by assumption) (show IMP (a1 = 2) ((z13) = knF (sc ((w7)) 0 ((u6_1)))) by assumption) (show IMP (a1 = 3) ((z13) = knF (sc ((w9)) 0 ((u8_1)))) by assumption))
    · refine v_lR H (o := 1) rfl rfl rfl rfl rfl (n := n1) (en1) (show 0 ≤ a1 ∧ a1 < n1 by have qh0 := HIDe r5; omega) (z := ((D 4 : Nat) : Int)) (v := .ref (D 4)) ((congrArg (A10 1) b12).trans ((congrFun (((show A10 1 = A 1 from (eA10 1)))) 1).trans (pf4))) (vrf rfl) ?_
      refine w_stat24 rfl rfl (by rfl) (C33_Rowp (D := pul [4, 5] D) (N := pul [4, 5] N) (HW_sub H (VS_of (show vsub V19 V33_Row [4, 5] = true by decide +kernel))) (STC_out HT HE O) ((((show F10 4 0 = F 4 0 from (eF10 4 0)))).trans (pf5)) (n5) (en5) (u4_1) ((((show F10 4 1 = F 4 1 from (eF10 4 1))).trans (eu4_1))) (w5) (((show A10 5 = A 5 from (eA10 5))).trans (ew5)) (show 0 ≤ (u4_1) ∧ (u4_1) ≤ (n5) ∧ (n5) ≤ 65536 by have qh0 := HIDe r2; have qh1 := HIDe r7; omega) (fun z14 σ14 F14' A14' H' O' hS14 hA14 pz14_0 pz14_1 pz14_2 => ⟨rfl, ?_⟩))
      refine v_back (c := c) (s := s) H (show vsub V19 V33_Row [4, 5] = true by decide +kernel) H' O' (fun F14 A14 H O' eF14 eA14 => ?_)
      have O := OUT_trans O O'
      -- PackHouse.formatOf
      refine Ew_of (pc' := 20) (fun _ => x_goto rfl rfl) ?_
      have h0_0 : IMP ((a1) = 0) ((z14) = knF (sc ((w3)) 0 ((u2_1)))) := by first | exact fun q => absurd q (by (have qg0 := HIDe r1; omega)) | exact fun _ => pz14_2
      have h0_1 : IMP ((a1) = 1) ((z14) = knF (sc ((w5)) 0 ((u4_1)))) := by first | exact fun q => absurd q (by (have qg0 := HIDe r2; omega)) | exact fun _ => pz14_2
      have h0_2 : IMP ((a1) = 2) ((z14) = knF (sc ((w7)) 0 ((u6_1)))) := by first | exact fun q => absurd q (by (have qg0 := HIDe r3; omega)) | exact fun _ => pz14_2
      have h0_3 : IMP ((a1) = 3) ((z14) = knF (sc ((w9)) 0 ((u8_1)))) := by first | exact fun q => absurd q (by (have qg0 := HIDe r4; omega)) | exact fun _ => pz14_2
      exact w_ireturn rfl (k (z14) _ _ _ H O (SF_trans (SF_trans (SF_refl) (SF_glu (ι := []) hS10 eF10 (by decide +kernel)) (any_sub (l' := []) rfl)) (SF_glu (ι := [4, 5]) hS14 eF14 (by decide +kernel)) (any_sub (l' := []) rfl)) (SA_trans (SA_trans (SA_refl) (SA_glu (ι := []) hA10 eA10 (by decide +kernel)) (any_subA (l' := []) rfl)) (SA_glu (ι := [4, 5]) hA14 eA14 (by decide +kernel)) (any_subA (l' := []) rfl)) (show inr (z14) by omega) (show 0 ≤ a1 ∧ a1 ≤ 3 ∨ (z14) = -1 by omega) (show IMP (a1 = 0) ((z14) = knF (sc ((w3)) 0 ((u2_1)))) by assumption) (show IMP (a1 = 1) ((z14) = knF (sc ((w5)) 0 ((u4_1)))) by assumption) (show IMP (a1 = 2) ((z14) = knF (sc ((w7)) 0 ((u6_1)))) by assumption) (show IMP (a1 = 3) ((z14) = knF (sc ((w9)) 0 ((u8_1)))) by assumption))
    · refine v_lR H (o := 1) rfl rfl rfl rfl rfl (n := n1) (en1) (show 0 ≤ a1 ∧ a1 < n1 by have qh0 := HIDe r5; omega) (z := ((D 6 : Nat) : Int)) (v := .ref (D 6)) ((congrArg (A10 1) b12).trans ((congrFun (((show A10 1 = A 1 from (eA10 1)))) 2).trans (pf6))) (vrf rfl) ?_
      refine w_stat24 rfl rfl (by rfl) (C33_Rowp (D := pul [6, 7] D) (N := pul [6, 7] N) (HW_sub H (VS_of (show vsub V19 V33_Row [6, 7] = true by decide +kernel))) (STC_out HT HE O) ((((show F10 6 0 = F 6 0 from (eF10 6 0)))).trans (pf7)) (n7) (en7) (u6_1) ((((show F10 6 1 = F 6 1 from (eF10 6 1))).trans (eu6_1))) (w7) (((show A10 7 = A 7 from (eA10 7))).trans (ew7)) (show 0 ≤ (u6_1) ∧ (u6_1) ≤ (n7) ∧ (n7) ≤ 65536 by have qh0 := HIDe r3; have qh1 := HIDe r8; omega) (fun z15 σ15 F15' A15' H' O' hS15 hA15 pz15_0 pz15_1 pz15_2 => ⟨rfl, ?_⟩))
      refine v_back (c := c) (s := s) H (show vsub V19 V33_Row [6, 7] = true by decide +kernel) H' O' (fun F15 A15 H O' eF15 eA15 => ?_)
      have O := OUT_trans O O'
      -- PackHouse.formatOf
      refine Ew_of (pc' := 20) (fun _ => x_goto rfl rfl) ?_
      have h0_0 : IMP ((a1) = 0) ((z15) = knF (sc ((w3)) 0 ((u2_1)))) := by first | exact fun q => absurd q (by (have qg0 := HIDe r1; omega)) | exact fun _ => pz15_2
      have h0_1 : IMP ((a1) = 1) ((z15) = knF (sc ((w5)) 0 ((u4_1)))) := by first | exact fun q => absurd q (by (have qg0 := HIDe r2; omega)) | exact fun _ => pz15_2
      have h0_2 : IMP ((a1) = 2) ((z15) = knF (sc ((w7)) 0 ((u6_1)))) := by first | exact fun q => absurd q (by (have qg0 := HIDe r3; omega)) | exact fun _ => pz15_2
      have h0_3 : IMP ((a1) = 3) ((z15) = knF (sc ((w9)) 0 ((u8_1)))) := by first | exact fun q => absurd q (by (have qg0 := HIDe r4; omega)) | exact fun _ => pz15_2
      exact w_ireturn rfl (k (z15) _ _ _ H O (SF_trans (SF_trans (SF_refl) (SF_glu (ι := []) hS10 eF10 (by decide +kernel)) (any_sub (l' := []) rfl)) (SF_glu (ι := [6, 7]) hS15 eF15 (by decide +kernel)) (any_sub (l' := []) rfl)) (SA_trans (SA_trans (SA_refl) (SA_glu (ι := []) hA10 eA10 (by decide +kernel)) (any_subA (l' := []) rfl)) (SA_glu (ι := [6, 7]) hA15 eA15 (by decide +kernel)) (any_subA (l' := []) rfl)) (show inr (z15) by omega) (show 0 ≤ a1 ∧ a1 ≤ 3 ∨ (z15) = -1 by omega) (show IMP (a1 = 0) ((z15) = knF (sc ((w3)) 0 ((u2_1)))) by assumption) (show IMP (a1 = 1) ((z15) = knF (sc ((w5)) 0 ((u4_1)))) by assumption) (show IMP (a1 = 2) ((z15) = knF (sc ((w7)) 0 ((u6_1)))) by assumption) (show IMP (a1 = 3) ((z15) = knF (sc ((w9)) 0 ((u8_1)))) by assumption))
    · refine v_lR H (o := 1) rfl rfl rfl rfl rfl (n := n1) (en1) (show 0 ≤ a1 ∧ a1 < n1 by have qh0 := HIDe r5; omega) (z := ((D 8 : Nat) : Int)) (v := .ref (D 8)) ((congrArg (A10 1) b12).trans ((congrFun (((show A10 1 = A 1 from (eA10 1)))) 3).trans (pf8))) (vrf rfl) ?_
      refine w_stat24 rfl rfl (by rfl) (C33_Rowp (D := pul [8, 9] D) (N := pul [8, 9] N) (HW_sub H (VS_of (show vsub V19 V33_Row [8, 9] = true by decide +kernel))) (STC_out HT HE O) ((((show F10 8 0 = F 8 0 from (eF10 8 0)))).trans (pf9)) (n9) (en9) (u8_1) ((((show F10 8 1 = F 8 1 from (eF10 8 1))).trans (eu8_1))) (w9) (((show A10 9 = A 9 from (eA10 9))).trans (ew9)) (show 0 ≤ (u8_1) ∧ (u8_1) ≤ (n9) ∧ (n9) ≤ 65536 by have qh0 := HIDe r4; have qh1 := HIDe r9; omega) (fun z16 σ16 F16' A16' H' O' hS16 hA16 pz16_0 pz16_1 pz16_2 => ⟨rfl, ?_⟩))
      refine v_back (c := c) (s := s) H (show vsub V19 V33_Row [8, 9] = true by decide +kernel) H' O' (fun F16 A16 H O' eF16 eA16 => ?_)
      have O := OUT_trans O O'
      -- PackHouse.formatOf
      refine Ew_of (pc' := 20) (fun _ => x_goto rfl rfl) ?_
      have h0_0 : IMP ((a1) = 0) ((z16) = knF (sc ((w3)) 0 ((u2_1)))) := by first | exact fun q => absurd q (by (have qg0 := HIDe r1; omega)) | exact fun _ => pz16_2
      have h0_1 : IMP ((a1) = 1) ((z16) = knF (sc ((w5)) 0 ((u4_1)))) := by first | exact fun q => absurd q (by (have qg0 := HIDe r2; omega)) | exact fun _ => pz16_2
      have h0_2 : IMP ((a1) = 2) ((z16) = knF (sc ((w7)) 0 ((u6_1)))) := by first | exact fun q => absurd q (by (have qg0 := HIDe r3; omega)) | exact fun _ => pz16_2
      have h0_3 : IMP ((a1) = 3) ((z16) = knF (sc ((w9)) 0 ((u8_1)))) := by first | exact fun q => absurd q (by (have qg0 := HIDe r4; omega)) | exact fun _ => pz16_2
      exact w_ireturn rfl (k (z16) _ _ _ H O (SF_trans (SF_trans (SF_refl) (SF_glu (ι := []) hS10 eF10 (by decide +kernel)) (any_sub (l' := []) rfl)) (SF_glu (ι := [8, 9]) hS16 eF16 (by decide +kernel)) (any_sub (l' := []) rfl)) (SA_trans (SA_trans (SA_refl) (SA_glu (ι := []) hA10 eA10 (by decide +kernel)) (any_subA (l' := []) rfl)) (SA_glu (ι := [8, 9]) hA16 eA16 (by decide +kernel)) (any_subA (l' := []) rfl)) (show inr (z16) by omega) (show 0 ≤ a1 ∧ a1 ≤ 3 ∨ (z16) = -1 by omega) (show IMP (a1 = 0) ((z16) = knF (sc ((w3)) 0 ((u2_1)))) by assumption) (show IMP (a1 = 1) ((z16) = knF (sc ((w5)) 0 ((u4_1)))) by assumption) (show IMP (a1 = 2) ((z16) = knF (sc ((w7)) 0 ((u6_1)))) by assumption) (show IMP (a1 = 3) ((z16) = knF (sc ((w9)) 0 ((u8_1)))) by assumption))
