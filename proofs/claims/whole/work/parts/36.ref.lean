/-- Reader.decode -/
theorem M273 {σ0 σ : rS} {D N : Nat → Nat} {F : hF} {A : hA} {d c s : Nat} {Q : wQ} (H : HS σ0 σ D N F A) {a1 a2 a3 : Int} (u5_10 : Int) (eu5_10 : F 5 10 = u5_10) (u5_39 : Int) (eu5_39 : F 5 39 = u5_39) (w14 : Int → Int) (ew14 : A 14 = w14) (w31 : Int → Int) (ew31 : A 31 = w31) (w32 : Int → Int) (ew32 : A 32 = w32) (w46 : Int → Int) (ew46 : A 46 = w46) (GG : Int → Int) (h0 : inr (a1)) (h1 : inr (a2)) (h2 : inr (a3)) (h3 : ∀ i, 0 ≤ i → i < 256 → ((w31)) i = GG i) (h4 : 0 ≤ (a1) ∧ (a1) ≤ 65536 ∧ 0 ≤ (a2) ∧ (a2) ≤ 65536) (h5 : 0 ≤ (a3) ∧ (u5_39) + (a3) ≤ 131072) (h6 : 0 ≤ (u5_39)) (h7 : 0 ≤ (u5_10)) (h8 : fl ((w32)) (p2 ((u5_10))) = CELS (GG) ((u5_10))) (k : ∀ (z : Int) σ F' A', HS σ0 σ D N F' A' → SF [(5, 39), (5, 44), (5, 45)] F F' → SA [46] A A' → ∀ y5_39 : Int, F' 5 39 = y5_39 → ∀ v46 : Int → Int, A' 46 = v46 → ((z) = 0 ∨ (z) = 1) → ((u5_39) ≤ (y5_39) ∧ (y5_39) ≤ (u5_39) + (a3)) → (DCA ((w14)) (GG) ((a1)) ((a2)) ((u5_10)) ((a3)) (sc ((w46)) 0 ((u5_39))) ((z)) (sc ((v46)) 0 ((y5_39)))) → ((z) = 0 ∨ (y5_39) = (u5_39) + (a3)) → Q (some (I z)) σ c s) : Ew 273 (d + 2) 0 (rargs 0 [.ref (D 5), I a1, I a2, I a3]) [] σ c s Q := by
  have r1 : (0 : Int) ≤ u5_10 ∧ u5_10 ≤ 11 := by have h1 : (0 : Int) ≤ F 5 10 ∧ F 5 10 ≤ 11 := H.frng 5 10; rw [show F 5 10 = u5_10 from (eu5_10)] at h1; exact h1
  have r2 : (0 : Int) ≤ u5_39 ∧ u5_39 ≤ 131072 := by have h1 : (0 : Int) ≤ F 5 39 ∧ F 5 39 ≤ 131072 := H.frng 5 39; rw [show F 5 39 = u5_39 from (eu5_39)] at h1; exact h1
  refine Ew_of (pc' := 1) (fun _ => x_aload_n rfl rfl) ?_
  refine Ew_of (pc' := 2) (fun _ => x_iload_n rfl rfl) ?_
  refine Ew_of (pc' := 3) (fun _ => x_iload_n rfl rfl) ?_
  refine w_inv H (o := 5) rfl rfl rfl (H.perm 5 rfl) rfl rfl (by rfl) (M267 H (w14) (ew14) (show inr (a1) by omega) (show inr (a2) by omega) (show 0 ≤ (a1) ∧ (a1) ≤ 65536 ∧ 0 ≤ (a2) ∧ (a2) ≤ 65536 by omega) (fun z7 σ F3 A4 H hS5 hA6 y8 ey9 y10 ey11 pz7_0 pz7_1 pz7_2 => ⟨rretB rfl pz7_0, ?_⟩))
  have r12 : (0 : Int) ≤ y8 ∧ y8 ≤ 524288 := by have h1 : (0 : Int) ≤ F3 5 44 ∧ F3 5 44 ≤ 524288 := H.frng 5 44; rw [show F3 5 44 = y8 from (ey9)] at h1; exact h1
  have r13 : (-100 : Int) ≤ y10 ∧ y10 ≤ 524288 := by have h1 : (-100 : Int) ≤ F3 5 45 ∧ F3 5 45 ≤ 524288 := H.frng 5 45; rw [show F3 5 45 = y10 from (ey11)] at h1; exact h1
  have hop := pz7_2
  refine w_ifne (t := 11) rfl rfl (show inr (z7) by omega) (fun b14 => ?_) (fun b14 => ?_)
  · have hop1 : OPS ((w14)) ((a1)) ((a2)) 1 ((y10)) := by have h := hop; rw [show z7 = 1 by omega] at h; exact h
    refine Ew_of (pc' := 12) (fun _ => x_iconst rfl) ?_
    refine Ew_of (pc' := 14) (fun _ => x_istore rfl) ?_
    have : DCI ((w14)) (GG) ((a1)) ((a2)) ((u5_10)) ((a3)) (sc ((w46)) 0 ((u5_39))) 0 ((y10)) (sc ((w46)) 0 ((u5_39))) := DCI_0 hop1 (by omega)
    suffices hl14 : ∀ (m : Nat), ∀ (ls : rO) (σ : rS) (F_14 : hF) (A_14 : hA) (x14_4 : Int), rlook ls 0 = some (.ref (D 5)) → rlook ls 3 = some (I (a3)) → rlook ls 4 = some (I (x14_4)) → HS σ0 σ D N F_14 A_14 → SF [(5, 39), (5, 45)] F3 F_14 → SA [46] A4 A_14 → ∀ y14_5_39 : Int, F_14 5 39 = y14_5_39 → ∀ y14_5_45 : Int, F_14 5 45 = y14_5_45 → ∀ w14_46 : Int → Int, A_14 46 = w14_46 → (inr (x14_4)) → ((0) ≤ (x14_4)) → ((x14_4) ≤ (0) ∨ (x14_4) ≤ ((a3))) → ((y14_5_39) = (u5_39) + (x14_4)) → (0 ≤ (y14_5_45)) → (0 ≤ (y8) ∧ (y8) + (y14_5_45) ≤ 524288) → ((y8) = 8 * (a1)) → (DCI ((w14)) (GG) ((a1)) ((a2)) ((u5_10)) ((a3)) (sc ((w46)) 0 ((u5_39))) ((x14_4)) ((y14_5_45)) (sc ((w14_46)) 0 ((y14_5_39)))) → (((a3)) - (x14_4)).toNat = m → Ew 273 (d + 2) 14 ls [] σ c s Q from
      hl14 _ _ σ _ _ (0) (rk_o (rfl) rfl rfl) (rk_o (rfl) rfl rfl) (rk_s) H (SF_refl) (SA_refl) (u5_39) (((hS5 5 39 rfl).trans (eu5_39))) (y10) ((ey11)) (w46) ((funext (hA6 46 rfl)).trans (ew46)) (show inr (0) by omega) (show (0) ≤ (0) by omega) (show (0) ≤ (0) ∨ (0) ≤ ((a3)) by omega) (show (u5_39) = (u5_39) + (0) by omega) (show 0 ≤ (y10) by omega) (show 0 ≤ (y8) ∧ (y8) + (y10) ≤ 524288 by omega) (show (y8) = 8 * (a1) by omega) (show DCI ((w14)) (GG) ((a1)) ((a2)) ((u5_10)) ((a3)) (sc ((w46)) 0 ((u5_39))) ((0)) ((y10)) (sc ((w46)) 0 ((u5_39))) by assumption) rfl
    as_aux_lemma =>
    intro m
    induction m using Nat.strongRecOn with
    | _ m ih14 =>
      intro ls σ F_14 A_14 x14_4 l14_0 l14_3 l14_4 H hS_14 hA_14 y14_5_39 ey14_5_39 y14_5_45 ey14_5_45 w14_46 ew14_46 j14_0 j14_1 j14_2 j14_3 j14_4 j14_5 j14_6 j14_7 hm14
      have r15 : (0 : Int) ≤ y14_5_39 ∧ y14_5_39 ≤ 131072 := by have h1 : (0 : Int) ≤ F_14 5 39 ∧ F_14 5 39 ≤ 131072 := H.frng 5 39; rw [show F_14 5 39 = y14_5_39 from (ey14_5_39)] at h1; exact h1
      have r16 : (-100 : Int) ≤ y14_5_45 ∧ y14_5_45 ≤ 524288 := by have h1 : (-100 : Int) ≤ F_14 5 45 ∧ F_14 5 45 ≤ 524288 := H.frng 5 45; rw [show F_14 5 45 = y14_5_45 from (ey14_5_45)] at h1; exact h1
      have j14_i : DCI ((w14)) (GG) ((a1)) ((a2)) ((u5_10)) ((a3)) (sc ((w46)) 0 ((u5_39))) ((x14_4)) ((y14_5_45)) (sc ((w14_46)) 0 ((y14_5_39))) := by assumption
      refine Ew_of (pc' := 16) (fun _ => x_iload rfl l14_4) ?_
      refine Ew_of (pc' := 17) (fun _ => x_iload_n rfl l14_3) ?_
      refine w_icmpge (t := 139) rfl rfl (show inr (x14_4) by omega) (show inr (a3) by omega) (fun b17 => ?_) (fun b17 => ?_)
      · refine Ew_of (pc' := 140) (fun _ => x_aload_n rfl l14_0) ?_
        refine w_gI H (o := 5) (w := y14_5_45) rfl (H.perm 5 rfl) rfl rfl rfl (fun _ => rfl) (ey14_5_45) ?_
        refine w_ifne (t := 150) rfl rfl (show inr (y14_5_45) by omega) (fun b18 => ?_) (fun b18 => ?_)
        · refine Ew_of (pc' := 151) (fun _ => x_iconst rfl) ?_
          have : DCA ((w14)) (GG) ((a1)) ((a2)) ((u5_10)) ((a3)) (sc ((w46)) 0 ((u5_39))) ((0)) (sc ((w14_46)) 0 ((y14_5_39))) := by first | exact DCA_y (DCI_e j14_i (by omega) (by omega)) (by omega) | exact DCA_f (DCI_x j14_i (by omega) (by omega)) (by omega)
          exact w_ireturn rfl (k (0) σ _ _ H (SF_trans (SF_trans (SF_refl) hS5 (any_sub rfl)) hS_14 (any_sub rfl)) (SA_trans (SA_trans (SA_refl) hA6 (any_subA rfl)) hA_14 (any_subA rfl)) (y14_5_39) ((ey14_5_39)) (w14_46) (ew14_46) (show (0) = 0 ∨ (0) = 1 by omega) (show (u5_39) ≤ (y14_5_39) ∧ (y14_5_39) ≤ (u5_39) + a3 by omega) (show DCA ((w14)) (GG) (a1) (a2) ((u5_10)) (a3) (sc ((w46)) 0 ((u5_39))) ((0)) (sc ((w14_46)) 0 ((y14_5_39))) by assumption) (show (0) = 0 ∨ (y14_5_39) = (u5_39) + a3 by omega))
        · refine Ew_of (pc' := 147) (fun _ => x_iconst rfl) ?_
          refine Ew_of (pc' := 151) (fun _ => x_goto rfl rfl) ?_
          have : DCA ((w14)) (GG) ((a1)) ((a2)) ((u5_10)) ((a3)) (sc ((w46)) 0 ((u5_39))) ((1)) (sc ((w14_46)) 0 ((y14_5_39))) := by first | exact DCA_y (DCI_e j14_i (by omega) (by omega)) (by omega) | exact DCA_f (DCI_x j14_i (by omega) (by omega)) (by omega)
          exact w_ireturn rfl (k (1) σ _ _ H (SF_trans (SF_trans (SF_refl) hS5 (any_sub rfl)) hS_14 (any_sub rfl)) (SA_trans (SA_trans (SA_refl) hA6 (any_subA rfl)) hA_14 (any_subA rfl)) (y14_5_39) ((ey14_5_39)) (w14_46) (ew14_46) (show (1) = 0 ∨ (1) = 1 by omega) (show (u5_39) ≤ (y14_5_39) ∧ (y14_5_39) ≤ (u5_39) + a3 by omega) (show DCA ((w14)) (GG) (a1) (a2) ((u5_10)) (a3) (sc ((w46)) 0 ((u5_39))) ((1)) (sc ((w14_46)) 0 ((y14_5_39))) by assumption) (show (1) = 0 ∨ (y14_5_39) = (u5_39) + a3 by omega))
      · refine Ew_of (pc' := 21) (fun _ => x_iconst rfl) ?_
        refine Ew_of (pc' := 23) (fun _ => x_istore rfl) ?_
        refine Ew_of (pc' := 24) (fun _ => x_iconst rfl) ?_
        refine Ew_of (pc' := 26) (fun _ => x_istore rfl) ?_
        have : p2 (1 - 1) = 1 := by decide
        have : (0 : Int) = pk ((w14)) (8 * (a1)) ((y14_5_45)) (1 - 1) := pk_00 (by omega)
        suffices hl26 : ∀ (m : Nat), ∀ (ls : rO) (σ : rS) (F_26 : hF) (A_26 : hA) (x26_5 : Int) (x26_6 : Int), rlook ls 0 = some (.ref (D 5)) → rlook ls 3 = some (I (a3)) → rlook ls 4 = some (I (x14_4)) → rlook ls 5 = some (I (x26_5)) → rlook ls 6 = some (I (x26_6)) → HS σ0 σ D N F_26 A_26 → SF [] F_14 F_26 → SA [] A_14 A_26 → (inr (x26_5)) → (inr (x26_6)) → (1 ≤ (x26_6)) → (0 ≤ (x26_5) ∧ (x26_5) < p2 ((x26_6) - 1)) → ((x26_6) ≤ (u5_10) + 1) → ((x26_5) = pk ((w14)) (8 * (a1)) ((y14_5_45)) ((x26_6) - 1)) → ((u5_10) + 1 - (x26_6)).toNat = m → Ew 273 (d + 2) 26 ls [] σ c s Q from
          hl26 _ _ σ _ _ (0) (1) (rk_o (rk_o (l14_0) rfl rfl) rfl rfl) (rk_o (rk_o (l14_3) rfl rfl) rfl rfl) (rk_o (rk_o (l14_4) rfl rfl) rfl rfl) (rk_o (rk_s) rfl rfl) (rk_s) H (SF_refl) (SA_refl)   (show inr (0) by omega) (show inr (1) by omega) (show 1 ≤ (1) by omega) (show 0 ≤ (0) ∧ (0) < p2 ((1) - 1) by omega) (show (1) ≤ (u5_10) + 1 by omega) (show (0) = pk ((w14)) (8 * (a1)) ((y14_5_45)) ((1) - 1) by assumption) rfl
        as_aux_lemma =>
        intro m
        induction m using Nat.strongRecOn with
        | _ m ih26 =>
          intro ls σ F_26 A_26 x26_5 x26_6 l26_0 l26_3 l26_4 l26_5 l26_6 H hS_26 hA_26   j26_0 j26_1 j26_2 j26_3 j26_4 j26_5 hm26
          have j26_k : (x26_5) = pk ((w14)) (8 * (a1)) ((y14_5_45)) ((x26_6) - 1) := by assumption
          refine Ew_of (pc' := 28) (fun _ => x_iload rfl l26_6) ?_
          refine Ew_of (pc' := 29) (fun _ => x_aload_n rfl l26_0) ?_
          refine w_gI H (o := 5) (w := u5_10) rfl (H.perm 5 rfl) rfl rfl rfl (fun _ => rfl) ((((hS_26 5 10 rfl).trans (hS_14 5 10 rfl)).trans (hS5 5 10 rfl)).trans (eu5_10)) ?_
          refine w_icmpgt (t := 78) rfl rfl (show inr (x26_6) by omega) (show inr (u5_10) by omega) (fun b19 => ?_) (fun b19 => ?_)
          · have : p2 ((x26_6) - 1) ≤ p2 11 := p2_mono (by omega)
            have : p2 11 = 2048 := by decide
            have hT6 : (x26_6) - 1 = (u5_10) := by omega
            have hcel : (x26_5) = pk ((w14)) (8 * (a1)) ((y14_5_45)) ((u5_10)) := by rw [← hT6]; exact j26_k
            have hlt : (x26_5) < p2 ((u5_10)) := by rw [← hT6]; omega
            refine Ew_of (pc' := 79) (fun _ => x_aload_n rfl l26_0) ?_
            refine w_gT H (o := 5) (t := 32) rfl (H.perm 5 rfl) rfl rfl rfl rfl rfl rfl ?_
            refine Ew_of (pc' := 84) (fun _ => x_iload rfl l26_5) ?_
            refine w_lI H (o := 32) (n := 2048) rfl (H.perm 32 rfl) rfl rfl (H.fix 32 rfl rfl) (show 0 ≤ x26_5 ∧ x26_5 < ((2048 : Nat) : Int) by omega) (by decide) (fun v20 ev20 qv20 => ?_)
            have qv20 : (0 : Int) ≤ v20 ∧ v20 ≤ 255 := qv20
            have ev20 : (w32) (x26_5) = v20 := (congrFun ((funext (hA_26 32 rfl)).trans ((funext (hA_14 32 rfl)).trans ((funext (hA6 32 rfl)).trans (ew32)))) (x26_5)).symm.trans ev20
            have hsy : (v20) = (CELS (GG) ((u5_10))).getD ((x26_5) : Int).toNat 0 := by have h := CEL_at (show fl ((w32)) (p2 ((u5_10))) = CELS (GG) ((u5_10)) by assumption) (c := (x26_5)) (by omega) hlt; rw [ev20] at h; exact h
            have hr256 : 0 ≤ (v20) ∧ (v20) ≤ 255 := by omega
            refine Ew_of (pc' := 87) (fun _ => x_istore rfl) ?_
            refine Ew_of (pc' := 88) (fun _ => x_aload_n rfl (rk_o (l26_0) rfl rfl)) ?_
            refine Ew_of (pc' := 89) (fun _ => x_dup rfl rfl) ?_
            refine w_gI H (o := 5) (w := y14_5_45) rfl (H.perm 5 rfl) rfl rfl rfl (fun _ => rfl) ((hS_26 5 45 rfl).trans (ey14_5_45)) ?_
            refine Ew_of (pc' := 93) (fun _ => x_aload_n rfl (rk_o (l26_0) rfl rfl)) ?_
            refine w_gT H (o := 5) (t := 31) rfl (H.perm 5 rfl) rfl rfl rfl rfl rfl rfl ?_
            refine Ew_of (pc' := 98) (fun _ => x_iload rfl rk_s) ?_
            refine w_lI H (o := 31) (n := 256) rfl (H.perm 31 rfl) rfl rfl (H.fix 31 rfl rfl) (show 0 ≤ v20 ∧ v20 < ((256 : Nat) : Int) by omega) (by decide) (fun v21 ev21 qv21 => ?_)
            have qv21 : (0 : Int) ≤ v21 ∧ v21 ≤ 11 := qv21
            have ev21 : (w31) (v20) = v21 := (congrFun ((funext (hA_26 31 rfl)).trans ((funext (hA_14 31 rfl)).trans ((funext (hA6 31 rfl)).trans (ew31)))) (v20)).symm.trans ev21
            have hgl := ev21
            have hGG : GG ((v20)) = (v21) := by rw [← (show ∀ i, 0 ≤ i → i < 256 → ((w31)) i = GG i from by assumption) ((v20)) (by omega) (by omega)]; exact hgl
            refine w_isub rfl ?_
            refine w_pI H (o := 5) rfl rfl (H.perm 5 rfl) rfl rfl rfl (fun _ => rfl) rfl (show (-100 : Int) ≤ (y14_5_45 - v21) ∧ (y14_5_45 - v21) ≤ 524288 by omega) (fun σ H => ?_)
            refine Ew_of (pc' := 104) (fun _ => x_aload_n rfl (rk_o (l26_0) rfl rfl)) ?_
            refine w_gI H (o := 5) (w := (y14_5_45 - v21)) rfl (H.perm 5 rfl) rfl rfl rfl (fun _ => rfl) rfl ?_
            refine w_ifge (t := 112) rfl rfl (show inr ((y14_5_45 - v21)) by omega) (fun b22 => ?_) (fun b22 => ?_)
            · refine Ew_of (pc' := 113) (fun _ => x_aload_n rfl (rk_o (l26_0) rfl rfl)) ?_
              refine w_gT H (o := 5) (t := 46) rfl (H.perm 5 rfl) rfl rfl rfl rfl rfl rfl ?_
              refine Ew_of (pc' := 117) (fun _ => x_aload_n rfl (rk_o (l26_0) rfl rfl)) ?_
              refine w_gI H (o := 5) (w := y14_5_39) rfl (H.perm 5 rfl) rfl rfl rfl (fun _ => rfl) ((hS_26 5 39 rfl).trans (ey14_5_39)) ?_
              refine Ew_of (pc' := 122) (fun _ => x_iload rfl rk_s) ?_
              refine w_sI H (o := 46) (n := 131072) rfl (H.perm 46 rfl) rfl rfl (H.fix 46 rfl rfl) (show 0 ≤ y14_5_39 ∧ y14_5_39 < ((131072 : Nat) : Int) by omega) (by decide) (show (0 : Int) ≤ v20 ∧ v20 ≤ 255 by omega) (fun σ H => ?_)
              refine Ew_of (pc' := 124) (fun _ => x_aload_n rfl (rk_o (l26_0) rfl rfl)) ?_
              refine Ew_of (pc' := 125) (fun _ => x_dup rfl rfl) ?_
              refine w_gI H (o := 5) (w := y14_5_39) rfl (H.perm 5 rfl) rfl rfl rfl (fun _ => rfl) ((hS_26 5 39 rfl).trans (ey14_5_39)) ?_
              refine Ew_of (pc' := 129) (fun _ => x_iconst rfl) ?_
              refine w_iadd rfl ?_
              refine w_pI H (o := 5) rfl rfl (H.perm 5 rfl) rfl rfl rfl (fun _ => rfl) rfl (show (0 : Int) ≤ (y14_5_39 + 1) ∧ (y14_5_39 + 1) ≤ 131072 by omega) (fun σ H => ?_)
              refine Ew_of (pc' := 136) (fun _ => x_iinc (len := 3) rfl (rk_o (l26_4) rfl rfl)) ?_
              refine Ew_of (pc' := 14) (fun _ => x_goto rfl rfl) ?_
              have : DCI ((w14)) (GG) ((a1)) ((a2)) ((u5_10)) ((a3)) (sc ((w46)) 0 ((u5_39))) (((x14_4 + 1))) (((y14_5_45 - v21))) (sc ((upd1 (w14_46) (y14_5_39) (v20))) 0 (((y14_5_39 + 1)))) := DCI_s j14_i (by omega) hcel hsy (by omega) (by omega) rfl (sc_w hr256 (by omega) (by omega))
              exact ih14 _ (by omega) _ σ _ _ ((x14_4 + 1)) (rk_o (rk_o (l26_0) rfl rfl) rfl rfl) (rk_o (rk_o (l26_3) rfl rfl) rfl rfl) (rk_s) H (SF_upd (SF_upd (SF_trans (hS_14) hS_26 (any_sub rfl)) rfl) rfl) (SA_upd (SA_trans (hA_14) hA_26 (any_subA rfl)) rfl) ((y14_5_39 + 1)) (rfl) ((y14_5_45 - v21)) (rfl) (upd1 (w14_46) (y14_5_39) (v20)) (congrArg (fun q => upd1 q (y14_5_39) (v20)) ((funext (hA_26 46 rfl)).trans (ew14_46))) (show inr ((x14_4 + 1)) by omega) (show (0) ≤ ((x14_4 + 1)) by omega) (show ((x14_4 + 1)) ≤ (0) ∨ ((x14_4 + 1)) ≤ ((a3)) by omega) (show ((y14_5_39 + 1)) = (u5_39) + ((x14_4 + 1)) by omega) (show 0 ≤ ((y14_5_45 - v21)) by omega) (show 0 ≤ (y8) ∧ (y8) + ((y14_5_45 - v21)) ≤ 524288 by omega) (show (y8) = 8 * (a1) by omega) (show DCI ((w14)) (GG) ((a1)) ((a2)) ((u5_10)) ((a3)) (sc ((w46)) 0 ((u5_39))) (((x14_4 + 1))) (((y14_5_45 - v21))) (sc ((upd1 (w14_46) (y14_5_39) (v20))) 0 (((y14_5_39 + 1)))) by assumption) rfl
            · refine Ew_of (pc' := 111) (fun _ => x_iconst rfl) ?_
              have : DCA ((w14)) (GG) ((a1)) ((a2)) ((u5_10)) ((a3)) (sc ((w46)) 0 ((u5_39))) ((0)) (sc ((w14_46)) 0 ((y14_5_39))) := DCA_f (DCI_f j14_i (by omega) hcel hsy (by omega)) (by omega)
              exact w_ireturn rfl (k (0) σ _ _ H (SF_upd (SF_trans (SF_trans (SF_trans (SF_refl) hS5 (any_sub rfl)) hS_14 (any_sub rfl)) hS_26 (any_sub rfl)) rfl) (SA_trans (SA_trans (SA_trans (SA_refl) hA6 (any_subA rfl)) hA_14 (any_subA rfl)) hA_26 (any_subA rfl)) (y14_5_39) (((hS_26 5 39 rfl).trans (ey14_5_39))) (w14_46) ((funext (hA_26 46 rfl)).trans (ew14_46)) (show (0) = 0 ∨ (0) = 1 by omega) (show (u5_39) ≤ (y14_5_39) ∧ (y14_5_39) ≤ (u5_39) + a3 by omega) (show DCA ((w14)) (GG) (a1) (a2) ((u5_10)) (a3) (sc ((w46)) 0 ((u5_39))) ((0)) (sc ((w14_46)) 0 ((y14_5_39))) by assumption) (show (0) = 0 ∨ (y14_5_39) = (u5_39) + a3 by omega))
          · have hc69 : ∀ (tc69_0 : Int), ∀ (tc69_1 : Int), ∀ (ls : rO) (σ : rS) (F_c69 : hF) (A_c69 : hA) , rlook ls 0 = some (.ref (D 5)) → rlook ls 3 = some (I (a3)) → rlook ls 4 = some (I (x14_4)) → rlook ls 6 = some (I (x26_6)) → HS σ0 σ D N F_c69 A_c69 → SF [] F_26 F_c69 → SA [] A_26 A_c69 → (inr (tc69_1)) → (inr (tc69_0)) → ((tc69_0) = 2 * (x26_5)) → (0 ≤ (tc69_1) ∧ (tc69_1) ≤ 1) → ((x26_6) ≤ (y14_5_45) ∧ (tc69_1) = bt ((w14)) (8 * (a1) + (y14_5_45) - (x26_6)) ∨ (y14_5_45) < (x26_6) ∧ ((tc69_1) : Int) = 0) → Ew 273 (d + 2) 69 ls [I (tc69_1), I (tc69_0)] σ c s Q := by
             as_aux_lemma =>
              intro tc69_0 tc69_1 ls σ F_c69 A_c69  lc69_0 lc69_3 lc69_4 lc69_6 H hS_c69 hA_c69   jc69_0 jc69_1 jc69_2 jc69_3 jc69_4
              have hps := p2_s (y := (x26_6) - 1) (by omega)
              have hpe : p2 ((x26_6) + 1 - 1) = p2 ((x26_6) - 1 + 1) := by congr 1; omega
              have hc69 : (x26_6) ≤ (y14_5_45) ∧ (tc69_1) = bt ((w14)) (8 * (a1) + (y14_5_45) - (x26_6)) ∨ (y14_5_45) < (x26_6) ∧ ((tc69_1) : Int) = 0 := by assumption
              refine w_iadd rfl ?_
              have hk26 : ((tc69_0 + tc69_1)) = pk ((w14)) (8 * (a1)) ((y14_5_45)) ((x26_6) + 1 - 1) := pk_up (q := 8 * (a1) + (y14_5_45) - (x26_6)) j26_k (by omega) (by omega) (by omega) (by rcases hc69 with ⟨x, y⟩ | ⟨x, y⟩; (exact .inl ⟨by omega, y, by omega⟩); (exact .inr ⟨by omega, y⟩)) (by omega)
              refine Ew_of (pc' := 72) (fun _ => x_istore rfl) ?_
              refine Ew_of (pc' := 75) (fun _ => x_iinc (len := 3) rfl (rk_o (lc69_6) rfl rfl)) ?_
              refine Ew_of (pc' := 26) (fun _ => x_goto rfl rfl) ?_
              have : ((tc69_0 + tc69_1)) = pk ((w14)) (8 * (a1)) ((y14_5_45)) (((x26_6 + 1)) - 1) := hk26
              exact ih26 _ (by omega) _ σ _ _ ((tc69_0 + tc69_1)) ((x26_6 + 1)) (rk_o (rk_o (lc69_0) rfl rfl) rfl rfl) (rk_o (rk_o (lc69_3) rfl rfl) rfl rfl) (rk_o (rk_o (lc69_4) rfl rfl) rfl rfl) (rk_o (rk_s) rfl rfl) (rk_s) H (SF_trans (hS_26) hS_c69 (any_sub rfl)) (SA_trans (hA_26) hA_c69 (any_subA rfl))   (show inr ((tc69_0 + tc69_1)) by omega) (show inr ((x26_6 + 1)) by omega) (show 1 ≤ ((x26_6 + 1)) by omega) (show 0 ≤ ((tc69_0 + tc69_1)) ∧ ((tc69_0 + tc69_1)) < p2 (((x26_6 + 1)) - 1) by omega) (show ((x26_6 + 1)) ≤ (u5_10) + 1 by omega) (show ((tc69_0 + tc69_1)) = pk ((w14)) (8 * (a1)) ((y14_5_45)) (((x26_6 + 1)) - 1) by assumption) rfl
            have hps := p2_s (y := (x26_6) - 1) (by omega)
            have : p2 ((x26_6) - 1) ≤ p2 11 := p2_mono (by omega)
            have : p2 11 = 2048 := by decide
            have hpe : p2 ((x26_6) + 1 - 1) = p2 ((x26_6) - 1 + 1) := by congr 1; omega
            refine Ew_of (pc' := 36) (fun _ => x_iconst rfl) ?_
            refine Ew_of (pc' := 38) (fun _ => x_iload rfl l26_5) ?_
            refine w_imul rfl ?_
            refine Ew_of (pc' := 40) (fun _ => x_aload_n rfl l26_0) ?_
            refine w_gI H (o := 5) (w := y14_5_45) rfl (H.perm 5 rfl) rfl rfl rfl (fun _ => rfl) ((hS_26 5 45 rfl).trans (ey14_5_45)) ?_
            refine Ew_of (pc' := 45) (fun _ => x_iload rfl l26_6) ?_
            refine w_isub rfl ?_
            refine w_iflt (t := 68) rfl rfl (show inr ((y14_5_45 - x26_6)) by omega) (fun b23 => ?_) (fun b23 => ?_)
            · refine Ew_of (pc' := 69) (fun _ => x_iconst rfl) ?_
              have : (x26_6) ≤ (y14_5_45) ∧ (0) = bt ((w14)) (8 * (a1) + (y14_5_45) - (x26_6)) ∨ (y14_5_45) < (x26_6) ∧ ((0) : Int) = 0 := by first | exact .inl ⟨by omega, hbt⟩ | exact .inr ⟨by omega, by omega⟩
              exact hc69 ((2 * x26_5)) (0) _ σ _ _  (l26_0) (l26_3) (l26_4) (l26_6) H (SF_refl) (SA_refl)   (show inr (0) by omega) (show inr ((2 * x26_5)) by omega) (show ((2 * x26_5)) = 2 * (x26_5) by omega) (show 0 ≤ (0) ∧ (0) ≤ 1 by omega) (show (x26_6) ≤ (y14_5_45) ∧ (0) = bt ((w14)) (8 * (a1) + (y14_5_45) - (x26_6)) ∨ (y14_5_45) < (x26_6) ∧ ((0) : Int) = 0 by assumption)
            · refine Ew_of (pc' := 50) (fun _ => x_aload_n rfl l26_0) ?_
              refine Ew_of (pc' := 51) (fun _ => x_aload_n rfl l26_0) ?_
              refine w_gI H (o := 5) (w := y8) rfl (H.perm 5 rfl) rfl rfl rfl (fun _ => rfl) (((hS_26 5 44 rfl).trans (hS_14 5 44 rfl)).trans (ey9)) ?_
              refine Ew_of (pc' := 55) (fun _ => x_aload_n rfl l26_0) ?_
              refine w_gI H (o := 5) (w := y14_5_45) rfl (H.perm 5 rfl) rfl rfl rfl (fun _ => rfl) ((hS_26 5 45 rfl).trans (ey14_5_45)) ?_
              refine w_iadd rfl ?_
              refine Ew_of (pc' := 61) (fun _ => x_iload rfl l26_6) ?_
              refine w_isub rfl ?_
              refine w_inv H (o := 5) rfl rfl rfl (H.perm 5 rfl) rfl rfl (by rfl) (M259 H (w14) ((funext (hA_26 14 rfl)).trans ((funext (hA_14 14 rfl)).trans ((funext (hA6 14 rfl)).trans (ew14)))) (show inr (((y8 + y14_5_45) - x26_6)) by omega) (show 0 ≤ (((y8 + y14_5_45) - x26_6)) ∧ (((y8 + y14_5_45) - x26_6)) < 524288 by omega) (fun z28 σ F24 A25 H hS26 hA27 pz28_0 pz28_1 pz28_2 => ⟨rfl, ?_⟩))
              have hbt : (z28) = bt ((w14)) (8 * (a1) + (y14_5_45) - (x26_6)) := by have h := pz28_2; rw [show (y8) + (y14_5_45) - (x26_6) = 8 * (a1) + (y14_5_45) - (x26_6) by omega] at h; exact h
              refine Ew_of (pc' := 69) (fun _ => x_goto rfl rfl) ?_
              have : (x26_6) ≤ (y14_5_45) ∧ (z28) = bt ((w14)) (8 * (a1) + (y14_5_45) - (x26_6)) ∨ (y14_5_45) < (x26_6) ∧ ((z28) : Int) = 0 := by first | exact .inl ⟨by omega, hbt⟩ | exact .inr ⟨by omega, by omega⟩
              exact hc69 ((2 * x26_5)) (z28) _ σ _ _  (l26_0) (l26_3) (l26_4) (l26_6) H (SF_trans (SF_refl) hS26 (any_sub rfl)) (SA_trans (SA_refl) hA27 (any_subA rfl))   (show inr (z28) by omega) (show inr ((2 * x26_5)) by omega) (show ((2 * x26_5)) = 2 * (x26_5) by omega) (show 0 ≤ (z28) ∧ (z28) ≤ 1 by omega) (show (x26_6) ≤ (y14_5_45) ∧ (z28) = bt ((w14)) (8 * (a1) + (y14_5_45) - (x26_6)) ∨ (y14_5_45) < (x26_6) ∧ ((z28) : Int) = 0 by assumption)
  · refine Ew_of (pc' := 10) (fun _ => x_iconst rfl) ?_
    have : DCA ((w14)) (GG) ((a1)) ((a2)) ((u5_10)) ((a3)) (sc ((w46)) 0 ((u5_39))) ((0)) (sc ((w46)) 0 ((u5_39))) := DCA_f (DCF_n hop (by omega)) (by omega)
    exact w_ireturn rfl (k (0) σ _ _ H (SF_trans (SF_refl) hS5 (any_sub rfl)) (SA_trans (SA_refl) hA6 (any_subA rfl)) (u5_39) (((hS5 5 39 rfl).trans (eu5_39))) (w46) ((funext (hA6 46 rfl)).trans (ew46)) (show (0) = 0 ∨ (0) = 1 by omega) (show (u5_39) ≤ (u5_39) ∧ (u5_39) ≤ (u5_39) + a3 by omega) (show DCA ((w14)) (GG) (a1) (a2) ((u5_10)) (a3) (sc ((w46)) 0 ((u5_39))) ((0)) (sc ((w46)) 0 ((u5_39))) by assumption) (show (0) = 0 ∨ (u5_39) = (u5_39) + a3 by omega))
