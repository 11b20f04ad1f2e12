/-- Writer.beginFrame -/
theorem M447f {σ0 σ : rS} {D N : Nat → Nat} {F : hF} {A : hA} {d c s : Nat} {Q : wQ} (H : HS σ0 σ D N F A)  (u6_6 : Int) (eu6_6 : F 6 6 = u6_6) (w49 : Int → Int) (ew49 : A 49 = w49) (w50 : Int → Int) (ew50 : A 50 = w50) (w51 : Int → Int) (ew51 : A 51 = w51) (w52 : Int → Int) (ew52 : A 52 = w52) (w87 : Int → Int) (ew87 : A 87 = w87) (h0 : DW ((u6_6)) ((w49)) ((w50)) ((w51))) (h1 : (u6_6) = 0 ∨ 1 ≤ ((w52)) 0 ∧ 1 ≤ ((w52)) 1 ∧ 1 ≤ ((w52)) 2) (k : ∀ σ F' A', HS σ0 σ D N F' A' → SF [(6, 12)] F F' → SA [53, 54, 55, 56] A A' → ∀ y6_12 : Int, F' 6 12 = y6_12 → ∀ v53 : Int → Int, A' 53 = v53 → ∀ v54 : Int → Int, A' 54 = v54 → ∀ v55 : Int → Int, A' 55 = v55 → ∀ v56 : Int → Int, A' 56 = v56 → (WC ((y6_12)) ((v53))) → (WO ((v54)) ((v55))) → (1 ≤ ((v56)) 0 ∧ 1 ≤ ((v56)) 1 ∧ 1 ≤ ((v56)) 2) → (STQ (bgS ((u6_6)) ((w49)) ((w50)) ((w51)) ((w52)) ((w87))) ((y6_12)) ((v53)) ((v54)) ((v55)) ((v56)) ((w87))) → Q none σ c s) : Ew 447 (d + 0) 0 (rargs 0 [.ref (D 6)]) [] σ c s Q := by
  have r1 : (0 : Int) ≤ u6_6 ∧ u6_6 ≤ 1 := by have h1 : (0 : Int) ≤ F 6 6 ∧ F 6 6 ≤ 1 := H.frng 6 6; rw [show F 6 6 = u6_6 from (eu6_6)] at h1; exact h1
  refine Ew_of (pc' := 1) (fun _ => x_aload_n rfl rfl) ?_
  refine Ew_of (pc' := 2) (fun _ => x_iconst rfl) ?_
  refine w_pI H (o := 6) rfl rfl (H.perm 6 rfl) rfl rfl rfl (fun _ => rfl) rfl (show (0 : Int) ≤ 0 ∧ 0 ≤ 11 by omega) (fun σ H => ?_)
  refine Ew_of (pc' := 6) (fun _ => x_iconst rfl) ?_
  refine Ew_of (pc' := 7) (fun _ => x_istore_n rfl) ?_
  have : ∀ t, (0 : Int) ≤ t → t < 0 → ((A 55)) t < 0 := fun t a b => absurd b (by omega)
  have : ∀ t, 0 ≤ t → t < 0 → ((A 56)) t = if t = 0 then 1 else 4 * t := fun t a b => absurd b (by omega)
  have : ∀ t, 0 ≤ t → t < 0 → ((A 55)) t = -1 := fun t a b => absurd b (by omega)
  suffices hl7 : ∀ (m : Nat), ∀ (ls : rO) (σ : rS) (F_7 : hF) (A_7 : hA) (x7_1 : Int), rlook ls 0 = some (.ref (D 6)) → rlook ls 1 = some (I (x7_1)) → HS σ0 σ D N F_7 A_7 → SF [] (updF F 6 12 (0)) F_7 → SA [55, 56] A A_7 → ∀ w7_55 : Int → Int, A_7 55 = w7_55 → ∀ w7_56 : Int → Int, A_7 56 = w7_56 → (inr (x7_1)) → ((0) ≤ (x7_1)) → ((x7_1) ≤ (0) ∨ (x7_1) ≤ (3)) → (∀ t, 0 ≤ t → t < (x7_1) → ((w7_55)) t < 0) → (∀ t, 0 ≤ t → t < (x7_1) → ((w7_56)) t = if t = 0 then 1 else 4 * t) → (∀ t, 0 ≤ t → t < (x7_1) → ((w7_55)) t = -1) → ((3) - (x7_1)).toNat = m → Ew 447 (d + 0) 7 ls [] σ c s Q from
    hl7 _ _ σ _ _ (0) (rk_o (rfl) rfl rfl) (rk_s) H (SF_refl) (SA_refl)  (A 55) (rfl) (A 56) (rfl) (show inr (0) by omega) (show (0) ≤ (0) by omega) (show (0) ≤ (0) ∨ (0) ≤ (3) by omega) (show ∀ t, 0 ≤ t → t < (0) → ((A 55)) t < 0 by assumption) (show ∀ t, 0 ≤ t → t < (0) → ((A 56)) t = if t = 0 then 1 else 4 * t by assumption) (show ∀ t, 0 ≤ t → t < (0) → ((A 55)) t = -1 by assumption) rfl
  as_aux_lemma =>
  intro m
  induction m using Nat.strongRecOn with
  | _ m ih7 =>
    intro ls σ F_7 A_7 x7_1 l7_0 l7_1 H hS_7 hA_7  w7_55 ew7_55 w7_56 ew7_56 j7_0 j7_1 j7_2 j7_3 j7_4 j7_5 hm7
    have j7_l : ∀ t, 0 ≤ t → t < (x7_1) → ((w7_56)) t = if t = 0 then 1 else 4 * t := by assumption
    have j7_o : ∀ t, 0 ≤ t → t < (x7_1) → ((w7_55)) t = -1 := by assumption
    obtain ⟨qd, hqd⟩ : ∃ q : Int, q = (x7_1) := ⟨_, rfl⟩
    refine Ew_of (pc' := 8) (fun _ => x_iload_n rfl l7_1) ?_
    refine Ew_of (pc' := 9) (fun _ => x_iconst rfl) ?_
    refine w_icmpge (t := 42) rfl rfl (show inr (x7_1) by omega) (show inr (3) by omega) (fun b2 => ?_) (fun b2 => ?_)
    · have : WO ((A 54)) ((w7_55)) := fun t a b => .inl (by have := j7_3 t a (by omega); omega)
      have : WC 0 ((A 53)) := .inl rfl
      have hl40 := j7_l 0 (by omega) (by omega)
      have hl41 := j7_l 1 (by omega) (by omega)
      have hl42 := j7_l 2 (by omega) (by omega)
      rw [if_pos rfl] at hl40
      rw [if_neg (by decide)] at hl41 hl42
      refine Ew_of (pc' := 43) (fun _ => x_aload_n rfl l7_0) ?_
      refine w_gI H (o := 6) (w := u6_6) rfl (H.perm 6 rfl) rfl rfl rfl (fun _ => rfl) ((hS_7 6 6 rfl).trans (eu6_6)) ?_
      refine w_ifne (t := 50) rfl rfl (show inr (u6_6) by omega) (fun b3 => ?_) (fun b3 => ?_)
      · refine Ew_of (pc' := 51) (fun _ => x_iconst rfl) ?_
        refine Ew_of (pc' := 52) (fun _ => x_istore_n rfl) ?_
        have hdi : DW ((u6_6)) ((w49)) ((w50)) ((w51)) := by assumption
        have hdi := hdi (by omega)
        obtain ⟨⟨T, hT⟩, hPS⟩ := hdi
        have : ∀ i, (0 : Int) ≤ i → i < 0 → ((A 53)) i = ((w49)) i := fun i a b => absurd b (by omega)
        have : ∀ i, (0 : Int) ≤ i → i < 0 → ((w49)) i ≤ 0 := fun i a b => absurd b (by omega)
        have hT0 := hT.1
        have : (0 : Int) = mxN ((w49)) (0 : Int).toNat := rfl
        suffices hl52 : ∀ (m : Nat), ∀ (ls : rO) (σ : rS) (F_52 : hF) (A_52 : hA) (x52_1 : Int), rlook ls 0 = some (.ref (D 6)) → rlook ls 1 = some (I (x52_1)) → HS σ0 σ D N F_52 A_52 → SF [(6, 12)] F_7 F_52 → SA [53] A_7 A_52 → ∀ y52_6_12 : Int, F_52 6 12 = y52_6_12 → ∀ w52_53 : Int → Int, A_52 53 = w52_53 → (inr (x52_1)) → ((0) ≤ (x52_1)) → ((x52_1) ≤ (0) ∨ (x52_1) ≤ ((256))) → (∀ i, 0 ≤ i → i < (x52_1) → ((w52_53)) i = ((w49)) i) → (∀ i, 0 ≤ i → i < (x52_1) → ((w49)) i ≤ (y52_6_12)) → ((y52_6_12) ≤ T) → ((y52_6_12) = mxN ((w49)) ((x52_1) : Int).toNat) → (((256)) - (x52_1)).toNat = m → Ew 447 (d + 0) 52 ls [] σ c s Q from
          hl52 _ _ σ _ _ (0) (rk_o (l7_0) rfl rfl) (rk_s) H (SF_refl) (SA_refl) (0) ((hS_7 6 12 rfl)) (A 53) (funext (hA_7 53 rfl)) (show inr (0) by omega) (show (0) ≤ (0) by omega) (show (0) ≤ (0) ∨ (0) ≤ ((256)) by omega) (show ∀ i, 0 ≤ i → i < (0) → ((A 53)) i = ((w49)) i by assumption) (show ∀ i, 0 ≤ i → i < (0) → ((w49)) i ≤ (0) by assumption) (show (0) ≤ T by omega) (show (0) = mxN ((w49)) ((0) : Int).toNat by assumption) rfl
        as_aux_lemma =>
        intro m
        induction m using Nat.strongRecOn with
        | _ m ih52 =>
          intro ls σ F_52 A_52 x52_1 l52_0 l52_1 H hS_52 hA_52 y52_6_12 ey52_6_12 w52_53 ew52_53 j52_0 j52_1 j52_2 j52_3 j52_4 j52_5 j52_6 hm52
          have r4 : (0 : Int) ≤ y52_6_12 ∧ y52_6_12 ≤ 11 := by have h1 : (0 : Int) ≤ F_52 6 12 ∧ F_52 6 12 ≤ 11 := H.frng 6 12; rw [show F_52 6 12 = y52_6_12 from (ey52_6_12)] at h1; exact h1
          have j52_t : (y52_6_12) = mxN ((w49)) ((x52_1) : Int).toNat := by assumption
          obtain ⟨qe, hqe⟩ : ∃ q : Int, q = (x52_1) := ⟨_, rfl⟩
          refine Ew_of (pc' := 53) (fun _ => x_iload_n rfl l52_1) ?_
          refine Ew_of (pc' := 56) (fun _ => x_sipush (z := 256) rfl (by decide)) ?_
          refine w_icmpge (t := 107) rfl rfl (show inr (x52_1) by omega) (show inr (256) by omega) (fun b5 => ?_) (fun b5 => ?_)
          · have htt : (y52_6_12) = T := by obtain ⟨i, a, b, c⟩ := hT.2.2.2.2; have := j52_4 i a (by omega); omega
            have : WC ((y52_6_12)) ((w52_53)) := .inr (by rw [htt]; exact CI_congr hT (fun i a b => j52_3 i a (by omega)))
            have htop : (y52_6_12) = mxN ((w49)) 256 := by have h := j52_t; rw [show (x52_1) = (256 : Int) by omega] at h; exact h
            refine Ew_of (pc' := 108) (fun _ => x_iconst rfl) ?_
            refine Ew_of (pc' := 109) (fun _ => x_istore_n rfl) ?_
            have : ∀ i, (0 : Int) ≤ i → i < 0 → ((A 54)) i = ((w50)) i := fun i a b => absurd b (by omega)
            suffices hl109 : ∀ (m : Nat), ∀ (ls : rO) (σ : rS) (F_109 : hF) (A_109 : hA) (x109_1 : Int), rlook ls 0 = some (.ref (D 6)) → rlook ls 1 = some (I (x109_1)) → HS σ0 σ D N F_109 A_109 → SF [] F_52 F_109 → SA [54] A_52 A_109 → ∀ w109_54 : Int → Int, A_109 54 = w109_54 → (inr (x109_1)) → ((0) ≤ (x109_1)) → ((x109_1) ≤ (0) ∨ (x109_1) ≤ ((192))) → (∀ i, 0 ≤ i → i < (x109_1) → ((w109_54)) i = ((w50)) i) → (((192)) - (x109_1)).toNat = m → Ew 447 (d + 0) 109 ls [] σ c s Q from
              hl109 _ _ σ _ _ (0) (rk_o (l52_0) rfl rfl) (rk_s) H (SF_refl) (SA_refl)  (A 54) ((funext (hA_52 54 rfl)).trans (funext (hA_7 54 rfl))) (show inr (0) by omega) (show (0) ≤ (0) by omega) (show (0) ≤ (0) ∨ (0) ≤ ((192)) by omega) (show ∀ i, 0 ≤ i → i < (0) → ((A 54)) i = ((w50)) i by assumption) rfl
            as_aux_lemma =>
            intro m
            induction m using Nat.strongRecOn with
            | _ m ih109 =>
              intro ls σ F_109 A_109 x109_1 l109_0 l109_1 H hS_109 hA_109  w109_54 ew109_54 j109_0 j109_1 j109_2 j109_3 hm109
              refine Ew_of (pc' := 110) (fun _ => x_iload_n rfl l109_1) ?_
              refine Ew_of (pc' := 113) (fun _ => x_sipush (z := 192) rfl (by decide)) ?_
              refine w_icmpge (t := 134) rfl rfl (show inr (x109_1) by omega) (show inr (192) by omega) (fun b6 => ?_) (fun b6 => ?_)
              · refine Ew_of (pc' := 135) (fun _ => x_iconst rfl) ?_
                refine Ew_of (pc' := 136) (fun _ => x_istore_n rfl) ?_
                have : ∀ i, (0 : Int) ≤ i → i < 0 → ((w7_55)) i = ((w51)) i := fun i a b => absurd b (by omega)
                have : ∀ i, (0 : Int) ≤ i → i < 0 → ((w7_56)) i = ((w52)) i := fun i a b => absurd b (by omega)
                suffices hl136 : ∀ (m : Nat), ∀ (ls : rO) (σ : rS) (F_136 : hF) (A_136 : hA) (x136_1 : Int), rlook ls 0 = some (.ref (D 6)) → rlook ls 1 = some (I (x136_1)) → HS σ0 σ D N F_136 A_136 → SF [] F_109 F_136 → SA [55, 56] A_109 A_136 → ∀ w136_55 : Int → Int, A_136 55 = w136_55 → ∀ w136_56 : Int → Int, A_136 56 = w136_56 → (inr (x136_1)) → ((0) ≤ (x136_1)) → ((x136_1) ≤ (0) ∨ (x136_1) ≤ (3)) → (∀ i, 0 ≤ i → i < (x136_1) → ((w136_55)) i = ((w51)) i) → (∀ i, 0 ≤ i → i < (x136_1) → ((w136_56)) i = ((w52)) i) → ((3) - (x136_1)).toNat = m → Ew 447 (d + 0) 136 ls [] σ c s Q from
                  hl136 _ _ σ _ _ (0) (rk_o (l109_0) rfl rfl) (rk_s) H (SF_refl) (SA_refl)  (w7_55) ((funext (hA_109 55 rfl)).trans ((funext (hA_52 55 rfl)).trans (ew7_55))) (w7_56) ((funext (hA_109 56 rfl)).trans ((funext (hA_52 56 rfl)).trans (ew7_56))) (show inr (0) by omega) (show (0) ≤ (0) by omega) (show (0) ≤ (0) ∨ (0) ≤ (3) by omega) (show ∀ i, 0 ≤ i → i < (0) → ((w7_55)) i = ((w51)) i by assumption) (show ∀ i, 0 ≤ i → i < (0) → ((w7_56)) i = ((w52)) i by assumption) rfl
                as_aux_lemma =>
                intro m
                induction m using Nat.strongRecOn with
                | _ m ih136 =>
                  intro ls σ F_136 A_136 x136_1 l136_0 l136_1 H hS_136 hA_136  w136_55 ew136_55 w136_56 ew136_56 j136_0 j136_1 j136_2 j136_3 j136_4 hm136
                  refine Ew_of (pc' := 137) (fun _ => x_iload_n rfl l136_1) ?_
                  refine Ew_of (pc' := 138) (fun _ => x_iconst rfl) ?_
                  refine w_icmpge (t := 171) rfl rfl (show inr (x136_1) by omega) (show inr (3) by omega) (fun b7 => ?_) (fun b7 => ?_)
                  · have : WO ((w109_54)) ((w136_55)) := fun t a b => .inr (PS_congr (hPS t a b) ⟨a, b⟩ (fun i c e => j109_3 i c (by omega)) (j136_3 t a (by omega)))
                    have hla0 := j136_4 0 (by omega) (by omega)
                    have hla1 := j136_4 1 (by omega) (by omega)
                    have hla2 := j136_4 2 (by omega) (by omega)
                    have : STQ (bgS ((u6_6)) ((w49)) ((w50)) ((w51)) ((w52)) ((w87))) ((y52_6_12)) ((w52_53)) ((w109_54)) ((w136_55)) ((w136_56)) ((w87)) := bgS_1 (by omega) htop (fun i a b => j52_3 i a (by omega)) (fun i a b => j109_3 i a (by omega)) (fun i a b => j136_3 i a (by omega)) (fun i a b => j136_4 i a (by omega))
                    exact w_ret rfl (k σ _ _ H (SF_trans (SF_trans (SF_trans (SF_trans (SF_upd (SF_refl) rfl) hS_7 (any_sub rfl)) hS_52 (any_sub rfl)) hS_109 (any_sub rfl)) hS_136 (any_sub rfl)) (SA_trans (SA_trans (SA_trans (SA_trans (SA_refl) hA_7 (any_subA rfl)) hA_52 (any_subA rfl)) hA_109 (any_subA rfl)) hA_136 (any_subA rfl)) (y52_6_12) ((((hS_136 6 12 rfl).trans (hS_109 6 12 rfl)).trans (ey52_6_12))) (w52_53) ((funext (hA_136 53 rfl)).trans ((funext (hA_109 53 rfl)).trans (ew52_53))) (w109_54) ((funext (hA_136 54 rfl)).trans (ew109_54)) (w136_55) (ew136_55) (w136_56) (ew136_56) (show WC ((y52_6_12)) ((w52_53)) by assumption) (show WO ((w109_54)) ((w136_55)) by assumption) (show 1 ≤ ((w136_56)) 0 ∧ 1 ≤ ((w136_56)) 1 ∧ 1 ≤ ((w136_56)) 2 by omega) (show STQ (bgS ((u6_6)) ((w49)) ((w50)) ((w51)) ((w52)) ((w87))) ((y52_6_12)) ((w52_53)) ((w109_54)) ((w136_55)) ((w136_56)) ((w87)) by assumption))
                  · refine Ew_of (pc' := 142) (fun _ => x_aload_n rfl l136_0) ?_
                    refine w_gT H (o := 6) (t := 55) rfl (H.perm 6 rfl) rfl rfl rfl rfl rfl rfl ?_
                    refine Ew_of (pc' := 146) (fun _ => x_iload_n rfl l136_1) ?_
                    refine Ew_of (pc' := 147) (fun _ => x_aload_n rfl l136_0) ?_
                    refine w_gT H (o := 6) (t := 51) rfl (H.perm 6 rfl) rfl rfl rfl rfl rfl rfl ?_
                    refine Ew_of (pc' := 151) (fun _ => x_iload_n rfl l136_1) ?_
                    refine w_lI H (o := 51) (n := 3) rfl (H.perm 51 rfl) rfl rfl (H.fix 51 rfl rfl) (show 0 ≤ x136_1 ∧ x136_1 < ((3 : Nat) : Int) by omega) (by decide) (fun v8 ev8 qv8 => ?_)
                    have qv8 : (-1 : Int) ≤ v8 ∧ v8 ≤ 9 := qv8
                    have ev8 : (w51) (x136_1) = v8 := (congrFun ((funext (hA_136 51 rfl)).trans ((funext (hA_109 51 rfl)).trans ((funext (hA_52 51 rfl)).trans ((funext (hA_7 51 rfl)).trans (ew51))))) (x136_1)).symm.trans ev8
                    refine w_sI H (o := 55) (n := 3) rfl (H.perm 55 rfl) rfl rfl (H.fix 55 rfl rfl) (show 0 ≤ x136_1 ∧ x136_1 < ((3 : Nat) : Int) by omega) (by decide) (show (-1 : Int) ≤ v8 ∧ v8 ≤ 9 by omega) (fun σ H => ?_)
                    refine Ew_of (pc' := 154) (fun _ => x_aload_n rfl l136_0) ?_
                    refine w_gT H (o := 6) (t := 56) rfl (H.perm 6 rfl) rfl rfl rfl rfl rfl rfl ?_
                    refine Ew_of (pc' := 158) (fun _ => x_iload_n rfl l136_1) ?_
                    refine Ew_of (pc' := 159) (fun _ => x_aload_n rfl l136_0) ?_
                    refine w_gT H (o := 6) (t := 52) rfl (H.perm 6 rfl) rfl rfl rfl rfl rfl rfl ?_
                    refine Ew_of (pc' := 163) (fun _ => x_iload_n rfl l136_1) ?_
                    refine w_lI H (o := 52) (n := 3) rfl (H.perm 52 rfl) rfl rfl (H.fix 52 rfl rfl) (show 0 ≤ x136_1 ∧ x136_1 < ((3 : Nat) : Int) by omega) (by decide) (fun v9 ev9 qv9 => ?_)
                    have qv9 : (-2147483648 : Int) ≤ v9 ∧ v9 ≤ 2147483647 := qv9
                    have ev9 : (w52) (x136_1) = v9 := (congrFun ((funext (hA_136 52 rfl)).trans ((funext (hA_109 52 rfl)).trans ((funext (hA_52 52 rfl)).trans ((funext (hA_7 52 rfl)).trans (ew52))))) (x136_1)).symm.trans ev9
                    refine w_sI H (o := 56) (n := 3) rfl (H.perm 56 rfl) rfl rfl (H.fix 56 rfl rfl) (show 0 ≤ x136_1 ∧ x136_1 < ((3 : Nat) : Int) by omega) (by decide) (show (-2147483648 : Int) ≤ v9 ∧ v9 ≤ 2147483647 by omega) (fun σ H => ?_)
                    refine Ew_of (pc' := 168) (fun _ => x_iinc (len := 3) rfl (l136_1)) ?_
                    refine Ew_of (pc' := 136) (fun _ => x_goto rfl rfl) ?_
                    have : ∀ i, (0 : Int) ≤ i → i < ((x136_1 + 1)) → ((upd1 (w136_55) (x136_1) (v8))) i = ((w51)) i := pt_copy j136_3 (by omega)
                    have : ∀ i, (0 : Int) ≤ i → i < ((x136_1 + 1)) → ((upd1 (w136_56) (x136_1) (v9))) i = ((w52)) i := pt_copy j136_4 (by omega)
                    exact ih136 _ (by omega) _ σ _ _ ((x136_1 + 1)) (rk_o (l136_0) rfl rfl) (rk_s) H (hS_136) (SA_upd (SA_upd (hA_136) rfl) rfl)  (upd1 (w136_55) (x136_1) (v8)) (congrArg (fun q => upd1 q (x136_1) (v8)) (ew136_55)) (upd1 (w136_56) (x136_1) (v9)) (congrArg (fun q => upd1 q (x136_1) (v9)) (ew136_56)) (show inr ((x136_1 + 1)) by omega) (show (0) ≤ ((x136_1 + 1)) by omega) (show ((x136_1 + 1)) ≤ (0) ∨ ((x136_1 + 1)) ≤ (3) by omega) (show ∀ i, 0 ≤ i → i < ((x136_1 + 1)) → ((upd1 (w136_55) (x136_1) (v8))) i = ((w51)) i by assumption) (show ∀ i, 0 ≤ i → i < ((x136_1 + 1)) → ((upd1 (w136_56) (x136_1) (v9))) i = ((w52)) i by assumption) rfl
              · refine Ew_of (pc' := 117) (fun _ => x_aload_n rfl l109_0) ?_
                refine w_gT H (o := 6) (t := 54) rfl (H.perm 6 rfl) rfl rfl rfl rfl rfl rfl ?_
                refine Ew_of (pc' := 121) (fun _ => x_iload_n rfl l109_1) ?_
                refine Ew_of (pc' := 122) (fun _ => x_aload_n rfl l109_0) ?_
                refine w_gT H (o := 6) (t := 50) rfl (H.perm 6 rfl) rfl rfl rfl rfl rfl rfl ?_
                refine Ew_of (pc' := 126) (fun _ => x_iload_n rfl l109_1) ?_
                refine w_lI H (o := 50) (n := 192) rfl (H.perm 50 rfl) rfl rfl (H.fix 50 rfl rfl) (show 0 ≤ x109_1 ∧ x109_1 < ((192 : Nat) : Int) by omega) (by decide) (fun v10 ev10 qv10 => ?_)
                have qv10 : (-1 : Int) ≤ v10 ∧ v10 ≤ 512 := qv10
                have ev10 : (w50) (x109_1) = v10 := (congrFun ((funext (hA_109 50 rfl)).trans ((funext (hA_52 50 rfl)).trans ((funext (hA_7 50 rfl)).trans (ew50)))) (x109_1)).symm.trans ev10
                refine w_sI H (o := 54) (n := 192) rfl (H.perm 54 rfl) rfl rfl (H.fix 54 rfl rfl) (show 0 ≤ x109_1 ∧ x109_1 < ((192 : Nat) : Int) by omega) (by decide) (show (-1 : Int) ≤ v10 ∧ v10 ≤ 512 by omega) (fun σ H => ?_)
                refine Ew_of (pc' := 131) (fun _ => x_iinc (len := 3) rfl (l109_1)) ?_
                refine Ew_of (pc' := 109) (fun _ => x_goto rfl rfl) ?_
                have : ∀ i, (0 : Int) ≤ i → i < ((x109_1 + 1)) → ((upd1 (w109_54) (x109_1) (v10))) i = ((w50)) i := pt_copy j109_3 (by omega)
                exact ih109 _ (by omega) _ σ _ _ ((x109_1 + 1)) (rk_o (l109_0) rfl rfl) (rk_s) H (hS_109) (SA_upd (hA_109) rfl)  (upd1 (w109_54) (x109_1) (v10)) (congrArg (fun q => upd1 q (x109_1) (v10)) (ew109_54)) (show inr ((x109_1 + 1)) by omega) (show (0) ≤ ((x109_1 + 1)) by omega) (show ((x109_1 + 1)) ≤ (0) ∨ ((x109_1 + 1)) ≤ ((192)) by omega) (show ∀ i, 0 ≤ i → i < ((x109_1 + 1)) → ((upd1 (w109_54) (x109_1) (v10))) i = ((w50)) i by assumption) rfl
          · have hTl := hT.2.2.1 ((x52_1)) (by omega) (by omega)
            refine Ew_of (pc' := 60) (fun _ => x_aload_n rfl l52_0) ?_
            refine w_gT H (o := 6) (t := 53) rfl (H.perm 6 rfl) rfl rfl rfl rfl rfl rfl ?_
            refine Ew_of (pc' := 64) (fun _ => x_iload_n rfl l52_1) ?_
            refine Ew_of (pc' := 65) (fun _ => x_aload_n rfl l52_0) ?_
            refine w_gT H (o := 6) (t := 49) rfl (H.perm 6 rfl) rfl rfl rfl rfl rfl rfl ?_
            refine Ew_of (pc' := 69) (fun _ => x_iload_n rfl l52_1) ?_
            refine w_lI H (o := 49) (n := 256) rfl (H.perm 49 rfl) rfl rfl (H.fix 49 rfl rfl) (show 0 ≤ x52_1 ∧ x52_1 < ((256 : Nat) : Int) by omega) (by decide) (fun v11 ev11 qv11 => ?_)
            have qv11 : (0 : Int) ≤ v11 ∧ v11 ≤ 11 := qv11
            have ev11 : (w49) (x52_1) = v11 := (congrFun ((funext (hA_52 49 rfl)).trans ((funext (hA_7 49 rfl)).trans (ew49))) (x52_1)).symm.trans ev11
            have hdl70 := ev11
            refine w_sI H (o := 53) (n := 256) rfl (H.perm 53 rfl) rfl rfl (H.fix 53 rfl rfl) (show 0 ≤ x52_1 ∧ x52_1 < ((256 : Nat) : Int) by omega) (by decide) (show (0 : Int) ≤ v11 ∧ v11 ≤ 11 by omega) (fun σ H => ?_)
            refine Ew_of (pc' := 72) (fun _ => x_aload_n rfl l52_0) ?_
            refine Ew_of (pc' := 73) (fun _ => x_aload_n rfl l52_0) ?_
            refine w_gT H (o := 6) (t := 53) rfl (H.perm 6 rfl) rfl rfl rfl rfl rfl rfl ?_
            refine Ew_of (pc' := 77) (fun _ => x_iload_n rfl l52_1) ?_
            refine w_lI H (o := 53) (n := 256) rfl (H.perm 53 rfl) rfl rfl (H.fix 53 rfl rfl) (show 0 ≤ x52_1 ∧ x52_1 < ((256 : Nat) : Int) by omega) (by decide) (fun v12 ev12 qv12 => ?_)
            have qv12 : (0 : Int) ≤ v12 ∧ v12 ≤ 11 := qv12
            have ev12 : (upd1 (w52_53) (x52_1) (v11)) (x52_1) = v12 := (congrFun (congrArg (fun q => upd1 q (x52_1) (v11)) (ew52_53)) (x52_1)).symm.trans ev12
            refine Ew_of (pc' := 79) (fun _ => x_aload_n rfl l52_0) ?_
            refine w_gI H (o := 6) (w := y52_6_12) rfl (H.perm 6 rfl) rfl rfl rfl (fun _ => rfl) (ey52_6_12) ?_
            have hls : ((upd1 (w52_53) (x52_1) (v11))) ((x52_1)) = ((w49)) ((x52_1)) := by rw [upd1_s]; omega
            refine w_icmple (t := 94) rfl rfl (show inr (v12) by omega) (show inr (y52_6_12) by omega) (fun b13 => ?_) (fun b13 => ?_)
            · refine Ew_of (pc' := 95) (fun _ => x_aload_n rfl l52_0) ?_
              refine w_gI H (o := 6) (w := y52_6_12) rfl (H.perm 6 rfl) rfl rfl rfl (fun _ => rfl) (ey52_6_12) ?_
              refine w_pI H (o := 6) rfl rfl (H.perm 6 rfl) rfl rfl rfl (fun _ => rfl) rfl (show (0 : Int) ≤ y52_6_12 ∧ y52_6_12 ≤ 11 by omega) (fun σ H => ?_)
              have hdx : ((w49)) ((x52_1) + 1 - 1) = ((w49)) ((x52_1)) := by congr 1; omega
              refine Ew_of (pc' := 104) (fun _ => x_iinc (len := 3) rfl (l52_1)) ?_
              refine Ew_of (pc' := 52) (fun _ => x_goto rfl rfl) ?_
              have : ∀ i, (0 : Int) ≤ i → i < ((x52_1 + 1)) → ((upd1 (w52_53) (x52_1) (v11))) i = ((w49)) i := pt_copy j52_3 (by omega)
              have : ∀ i, (0 : Int) ≤ i → i < ((x52_1 + 1)) → ((w49)) i ≤ (y52_6_12) := fun i a b => by by_cases e : i = ((x52_1 + 1)) - 1; rw [e]; omega; have := j52_4 i a (by omega); omega
              have : (y52_6_12) = mxN ((w49)) (((x52_1 + 1)) : Int).toNat := mxN_s j52_t (by omega) (by omega) rfl (by omega)
              exact ih52 _ (by omega) _ σ _ _ ((x52_1 + 1)) (rk_o (l52_0) rfl rfl) (rk_s) H (SF_upd (hS_52) rfl) (SA_upd (hA_52) rfl) (y52_6_12) (rfl) (upd1 (w52_53) (x52_1) (v11)) (congrArg (fun q => upd1 q (x52_1) (v11)) (ew52_53)) (show inr ((x52_1 + 1)) by omega) (show (0) ≤ ((x52_1 + 1)) by omega) (show ((x52_1 + 1)) ≤ (0) ∨ ((x52_1 + 1)) ≤ ((256)) by omega) (show ∀ i, 0 ≤ i → i < ((x52_1 + 1)) → ((upd1 (w52_53) (x52_1) (v11))) i = ((w49)) i by assumption) (show ∀ i, 0 ≤ i → i < ((x52_1 + 1)) → ((w49)) i ≤ (y52_6_12) by assumption) (show (y52_6_12) ≤ T by omega) (show (y52_6_12) = mxN ((w49)) (((x52_1 + 1)) : Int).toNat by assumption) rfl
            · refine Ew_of (pc' := 86) (fun _ => x_aload_n rfl l52_0) ?_
              refine w_gT H (o := 6) (t := 53) rfl (H.perm 6 rfl) rfl rfl rfl rfl rfl rfl ?_
              refine Ew_of (pc' := 90) (fun _ => x_iload_n rfl l52_1) ?_
              refine w_lI H (o := 53) (n := 256) rfl (H.perm 53 rfl) rfl rfl (H.fix 53 rfl rfl) (show 0 ≤ x52_1 ∧ x52_1 < ((256 : Nat) : Int) by omega) (by decide) (fun v14 ev14 qv14 => ?_)
              have qv14 : (0 : Int) ≤ v14 ∧ v14 ≤ 11 := qv14
              have ev14 : (upd1 (w52_53) (x52_1) (v11)) (x52_1) = v14 := (congrFun (congrArg (fun q => upd1 q (x52_1) (v11)) (ew52_53)) (x52_1)).symm.trans ev14
              refine Ew_of (pc' := 98) (fun _ => x_goto rfl rfl) ?_
              refine w_pI H (o := 6) rfl rfl (H.perm 6 rfl) rfl rfl rfl (fun _ => rfl) rfl (show (0 : Int) ≤ v14 ∧ v14 ≤ 11 by omega) (fun σ H => ?_)
              have hdx : ((w49)) ((x52_1) + 1 - 1) = ((w49)) ((x52_1)) := by congr 1; omega
              refine Ew_of (pc' := 104) (fun _ => x_iinc (len := 3) rfl (l52_1)) ?_
              refine Ew_of (pc' := 52) (fun _ => x_goto rfl rfl) ?_
              have : ∀ i, (0 : Int) ≤ i → i < ((x52_1 + 1)) → ((upd1 (w52_53) (x52_1) (v11))) i = ((w49)) i := pt_copy j52_3 (by omega)
              have : ∀ i, (0 : Int) ≤ i → i < ((x52_1 + 1)) → ((w49)) i ≤ (v14) := fun i a b => by by_cases e : i = ((x52_1 + 1)) - 1; rw [e]; omega; have := j52_4 i a (by omega); omega
              have : (v14) = mxN ((w49)) (((x52_1 + 1)) : Int).toNat := mxN_s j52_t (by omega) (by omega) rfl (by omega)
              exact ih52 _ (by omega) _ σ _ _ ((x52_1 + 1)) (rk_o (l52_0) rfl rfl) (rk_s) H (SF_upd (hS_52) rfl) (SA_upd (hA_52) rfl) (v14) (rfl) (upd1 (w52_53) (x52_1) (v11)) (congrArg (fun q => upd1 q (x52_1) (v11)) (ew52_53)) (show inr ((x52_1 + 1)) by omega) (show (0) ≤ ((x52_1 + 1)) by omega) (show ((x52_1 + 1)) ≤ (0) ∨ ((x52_1 + 1)) ≤ ((256)) by omega) (show ∀ i, 0 ≤ i → i < ((x52_1 + 1)) → ((upd1 (w52_53) (x52_1) (v11))) i = ((w49)) i by assumption) (show ∀ i, 0 ≤ i → i < ((x52_1 + 1)) → ((w49)) i ≤ (v14) by assumption) (show (v14) ≤ T by omega) (show (v14) = mxN ((w49)) (((x52_1 + 1)) : Int).toNat by assumption) rfl
      · have : STQ (bgS ((u6_6)) ((w49)) ((w50)) ((w51)) ((w52)) ((w87))) ((0)) ((A 53)) ((A 54)) ((w7_55)) ((w7_56)) ((w87)) := bgS_0 (by omega) (by omega) (fun t a b => j7_o t a (by omega)) ⟨hl40, hl41, hl42⟩
        exact w_ret rfl (k σ _ _ H (SF_trans (SF_upd (SF_refl) rfl) hS_7 (any_sub rfl)) (SA_trans (SA_refl) hA_7 (any_subA rfl)) (0) ((hS_7 6 12 rfl)) (A 53) (funext (hA_7 53 rfl)) (A 54) (funext (hA_7 54 rfl)) (w7_55) (ew7_55) (w7_56) (ew7_56) (show WC ((0)) ((A 53)) by assumption) (show WO ((A 54)) ((w7_55)) by assumption) (show 1 ≤ ((w7_56)) 0 ∧ 1 ≤ ((w7_56)) 1 ∧ 1 ≤ ((w7_56)) 2 by omega) (show STQ (bgS ((u6_6)) ((w49)) ((w50)) ((w51)) ((w52)) ((w87))) ((0)) ((A 53)) ((A 54)) ((w7_55)) ((w7_56)) ((w87)) by assumption))
    · refine Ew_of (pc' := 13) (fun _ => x_aload_n rfl l7_0) ?_
      refine w_gT H (o := 6) (t := 55) rfl (H.perm 6 rfl) rfl rfl rfl rfl rfl rfl ?_
      refine Ew_of (pc' := 17) (fun _ => x_iload_n rfl l7_1) ?_
      refine Ew_of (pc' := 18) (fun _ => x_iconst rfl) ?_
      refine w_sI H (o := 55) (n := 3) rfl (H.perm 55 rfl) rfl rfl (H.fix 55 rfl rfl) (show 0 ≤ x7_1 ∧ x7_1 < ((3 : Nat) : Int) by omega) (by decide) (show (-1 : Int) ≤ (-1) ∧ (-1) ≤ 9 by omega) (fun σ H => ?_)
      refine Ew_of (pc' := 20) (fun _ => x_aload_n rfl l7_0) ?_
      refine w_gT H (o := 6) (t := 56) rfl (H.perm 6 rfl) rfl rfl rfl rfl rfl rfl ?_
      refine Ew_of (pc' := 24) (fun _ => x_iload_n rfl l7_1) ?_
      refine Ew_of (pc' := 25) (fun _ => x_iload_n rfl l7_1) ?_
      refine w_ifne (t := 32) rfl rfl (show inr (x7_1) by omega) (fun b15 => ?_) (fun b15 => ?_)
      · refine Ew_of (pc' := 33) (fun _ => x_iconst rfl) ?_
        refine Ew_of (pc' := 34) (fun _ => x_iload_n rfl l7_1) ?_
        refine w_imul rfl ?_
        refine w_sI H (o := 56) (n := 3) rfl (H.perm 56 rfl) rfl rfl (H.fix 56 rfl rfl) (show 0 ≤ x7_1 ∧ x7_1 < ((3 : Nat) : Int) by omega) (by decide) (show (-2147483648 : Int) ≤ (4 * x7_1) ∧ (4 * x7_1) ≤ 2147483647 by omega) (fun σ H => ?_)
        refine Ew_of (pc' := 39) (fun _ => x_iinc (len := 3) rfl (l7_1)) ?_
        refine Ew_of (pc' := 7) (fun _ => x_goto rfl rfl) ?_
        have : ∀ t, (0 : Int) ≤ t → t < ((x7_1 + 1)) → ((upd1 (w7_55) (x7_1) ((-1)))) t < 0 := fun t a b => by simp only [upd1]; split; omega; exact j7_3 t a (by omega)
        have : ∀ t, 0 ≤ t → t < ((x7_1 + 1)) → ((upd1 (w7_56) (x7_1) ((4 * x7_1)))) t = if t = 0 then 1 else 4 * t := fun t a b => by by_cases e : t = qd; (rw [e, hqd, upd1_s]; first | (rw [if_pos (by omega)]) | (rw [if_neg (by omega)])); (rw [upd1_o (by omega)]; exact j7_l t a (by omega))
        have : ∀ t, 0 ≤ t → t < ((x7_1 + 1)) → ((upd1 (w7_55) (x7_1) ((-1)))) t = -1 := fun t a b => by by_cases e : t = qd; (rw [e, hqd, upd1_s]); (rw [upd1_o (by omega)]; exact j7_o t a (by omega))
        exact ih7 _ (by omega) _ σ _ _ ((x7_1 + 1)) (rk_o (l7_0) rfl rfl) (rk_s) H (hS_7) (SA_upd (SA_upd (hA_7) rfl) rfl)  (upd1 (w7_55) (x7_1) ((-1))) (congrArg (fun q => upd1 q (x7_1) ((-1))) (ew7_55)) (upd1 (w7_56) (x7_1) ((4 * x7_1))) (congrArg (fun q => upd1 q (x7_1) ((4 * x7_1))) (ew7_56)) (show inr ((x7_1 + 1)) by omega) (show (0) ≤ ((x7_1 + 1)) by omega) (show ((x7_1 + 1)) ≤ (0) ∨ ((x7_1 + 1)) ≤ (3) by omega) (show ∀ t, 0 ≤ t → t < ((x7_1 + 1)) → ((upd1 (w7_55) (x7_1) ((-1)))) t < 0 by assumption) (show ∀ t, 0 ≤ t → t < ((x7_1 + 1)) → ((upd1 (w7_56) (x7_1) ((4 * x7_1)))) t = if t = 0 then 1 else 4 * t by assumption) (show ∀ t, 0 ≤ t → t < ((x7_1 + 1)) → ((upd1 (w7_55) (x7_1) ((-1)))) t = -1 by assumption) rfl
      · refine Ew_of (pc' := 29) (fun _ => x_iconst rfl) ?_
        refine Ew_of (pc' := 35) (fun _ => x_goto rfl rfl) ?_
        refine w_sI H (o := 56) (n := 3) rfl (H.perm 56 rfl) rfl rfl (H.fix 56 rfl rfl) (show 0 ≤ x7_1 ∧ x7_1 < ((3 : Nat) : Int) by omega) (by decide) (show (-2147483648 : Int) ≤ 1 ∧ 1 ≤ 2147483647 by omega) (fun σ H => ?_)
        refine Ew_of (pc' := 39) (fun _ => x_iinc (len := 3) rfl (l7_1)) ?_
        refine Ew_of (pc' := 7) (fun _ => x_goto rfl rfl) ?_
        have : ∀ t, (0 : Int) ≤ t → t < ((x7_1 + 1)) → ((upd1 (w7_55) (x7_1) ((-1)))) t < 0 := fun t a b => by simp only [upd1]; split; omega; exact j7_3 t a (by omega)
        have : ∀ t, 0 ≤ t → t < ((x7_1 + 1)) → ((upd1 (w7_56) (x7_1) (1))) t = if t = 0 then 1 else 4 * t := fun t a b => by by_cases e : t = qd; (rw [e, hqd, upd1_s]; first | (rw [if_pos (by omega)]) | (rw [if_neg (by omega)])); (rw [upd1_o (by omega)]; exact j7_l t a (by omega))
        have : ∀ t, 0 ≤ t → t < ((x7_1 + 1)) → ((upd1 (w7_55) (x7_1) ((-1)))) t = -1 := fun t a b => by by_cases e : t = qd; (rw [e, hqd, upd1_s]); (rw [upd1_o (by omega)]; exact j7_o t a (by omega))
        exact ih7 _ (by omega) _ σ _ _ ((x7_1 + 1)) (rk_o (l7_0) rfl rfl) (rk_s) H (hS_7) (SA_upd (SA_upd (hA_7) rfl) rfl)  (upd1 (w7_55) (x7_1) ((-1))) (congrArg (fun q => upd1 q (x7_1) ((-1))) (ew7_55)) (upd1 (w7_56) (x7_1) (1)) (congrArg (fun q => upd1 q (x7_1) (1)) (ew7_56)) (show inr ((x7_1 + 1)) by omega) (show (0) ≤ ((x7_1 + 1)) by omega) (show ((x7_1 + 1)) ≤ (0) ∨ ((x7_1 + 1)) ≤ (3) by omega) (show ∀ t, 0 ≤ t → t < ((x7_1 + 1)) → ((upd1 (w7_55) (x7_1) ((-1)))) t < 0 by assumption) (show ∀ t, 0 ≤ t → t < ((x7_1 + 1)) → ((upd1 (w7_56) (x7_1) (1))) t = if t = 0 then 1 else 4 * t by assumption) (show ∀ t, 0 ≤ t → t < ((x7_1 + 1)) → ((upd1 (w7_55) (x7_1) ((-1)))) t = -1 by assumption) rfl
