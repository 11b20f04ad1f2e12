/-- Reader.packed -/
theorem M289 {σ0 σ : rS} {D N : Nat → Nat} {F : hF} {A : hA} {d c s : Nat} {Q : wQ} (H : HS σ0 σ D N F A) {a1 : Int} (u1_1 : Int) (eu1_1 : F 1 1 = u1_1) (u5_25 : Int) (eu5_25 : F 5 25 = u5_25) (u5_26 : Int) (eu5_26 : F 5 26 = u5_26) (u5_27 : Int) (eu5_27 : F 5 27 = u5_27) (u5_28 : Int) (eu5_28 : F 5 28 = u5_28) (w34 : Int → Int) (ew34 : A 34 = w34) (w35 : Int → Int) (ew35 : A 35 = w35) (w36 : Int → Int) (ew36 : A 36 = w36) (w37 : Int → Int) (ew37 : A 37 = w37) (w38 : Int → Int) (ew38 : A 38 = w38) (h0 : inr (a1)) (h1 : 0 ≤ (u5_25) ∧ (u5_25) ≤ (a1) ∧ (a1) ≤ (u1_1)) (h2 : RT ((w35)) ((w36)) ((w37)) ((w34))) (h3 : 1 ≤ ((w38)) 0 ∧ 1 ≤ ((w38)) 1 ∧ 1 ≤ ((w38)) 2) (h4 : (u5_28) ≤ (u5_27) ∧ (u5_27) ≤ (u5_26)) (k : ∀ (z : Int) σ F' A', HS σ0 σ D N F' A' → SF [(5, 10), (5, 19), (5, 25), (5, 27), (5, 30), (5, 31), (5, 34), (5, 39), (5, 40), (5, 41), (5, 42), (5, 43), (5, 44), (5, 45)] F F' → SA [31, 32, 33, 34, 35, 36, 37, 38, 39, 40, 41, 42, 43, 44, 45, 46] A A' → ∀ y5_27 : Int, F' 5 27 = y5_27 → ∀ v34 : Int → Int, A' 34 = v34 → ∀ v35 : Int → Int, A' 35 = v35 → ∀ v36 : Int → Int, A' 36 = v36 → ∀ v37 : Int → Int, A' 37 = v37 → ∀ v38 : Int → Int, A' 38 = v38 → ((z) = 0 ∨ (z) = 1) → (RT ((v35)) ((v36)) ((v37)) ((v34))) → ((u5_27) ≤ (y5_27) ∧ (y5_27) ≤ (u5_26)) → ((z) = 1 → 1 ≤ ((v38)) 0 ∧ 1 ≤ ((v38)) 1 ∧ 1 ≤ ((v38)) 2) → Q (some (I z)) σ c s) : Ew 289 (d + 6) 0 (rargs 0 [.ref (D 5), I a1]) [] σ c s Q := by
  have r1 : (0 : Int) ≤ u1_1 ∧ u1_1 ≤ 65536 := by have h1 : (0 : Int) ≤ F 1 1 ∧ F 1 1 ≤ 65536 := H.frng 1 1; rw [show F 1 1 = u1_1 from (eu1_1)] at h1; exact h1
  have r2 : (0 : Int) ≤ u5_25 ∧ u5_25 ≤ 65536 := by have h1 : (0 : Int) ≤ F 5 25 ∧ F 5 25 ≤ 65536 := H.frng 5 25; rw [show F 5 25 = u5_25 from (eu5_25)] at h1; exact h1
  have r3 : (0 : Int) ≤ u5_26 ∧ u5_26 ≤ 65536 := by have h1 : (0 : Int) ≤ F 5 26 ∧ F 5 26 ≤ 65536 := H.frng 5 26; rw [show F 5 26 = u5_26 from (eu5_26)] at h1; exact h1
  have r4 : (0 : Int) ≤ u5_27 ∧ u5_27 ≤ 65536 := by have h1 : (0 : Int) ≤ F 5 27 ∧ F 5 27 ≤ 65536 := H.frng 5 27; rw [show F 5 27 = u5_27 from (eu5_27)] at h1; exact h1
  have r5 : (0 : Int) ≤ u5_28 ∧ u5_28 ≤ 65536 := by have h1 : (0 : Int) ≤ F 5 28 ∧ F 5 28 ≤ 65536 := H.frng 5 28; rw [show F 5 28 = u5_28 from (eu5_28)] at h1; exact h1
  refine Ew_of (pc' := 1) (fun _ => x_aload_n rfl rfl) ?_
  refine w_gI H (o := 5) (w := u5_25) rfl (H.perm 5 rfl) rfl rfl rfl (fun _ => rfl) (eu5_25) ?_
  refine Ew_of (pc' := 5) (fun _ => x_istore_n rfl) ?_
  refine Ew_of (pc' := 6) (fun _ => x_aload_n rfl (rk_o (rfl) rfl rfl)) ?_
  refine Ew_of (pc' := 7) (fun _ => x_iconst rfl) ?_
  refine w_pI H (o := 5) rfl rfl (H.perm 5 rfl) rfl rfl rfl (fun _ => rfl) rfl (show (0 : Int) ≤ 0 ∧ 0 ≤ 131072 by omega) (fun σ H => ?_)
  refine Ew_of (pc' := 11) (fun _ => x_aload_n rfl (rk_o (rfl) rfl rfl)) ?_
  refine Ew_of (pc' := 12) (fun _ => x_iload_n rfl (rk_o (rfl) rfl rfl)) ?_
  refine w_inv H (o := 5) rfl rfl rfl (H.perm 5 rfl) rfl rfl (by rfl) (M291 H (u1_1) ((eu1_1)) (u5_25) ((eu5_25)) (0) (rfl) (show inr (a1) by omega) (show 0 ≤ (u5_25) ∧ (u5_25) ≤ (a1) ∧ (a1) ≤ (u1_1) by omega) (show (0) = 0 by omega) (fun z10 σ F6 A7 H hS8 hA9 y11 ey12 y13 ey14 pz10_0 pz10_1 pz10_2 => ⟨rretB rfl pz10_0, ?_⟩))
  have r15 : (0 : Int) ≤ y11 ∧ y11 ≤ 65536 := by have h1 : (0 : Int) ≤ F6 5 25 ∧ F6 5 25 ≤ 65536 := H.frng 5 25; rw [show F6 5 25 = y11 from (ey12)] at h1; exact h1
  have r16 : (0 : Int) ≤ y13 ∧ y13 ≤ 131072 := by have h1 : (0 : Int) ≤ F6 5 39 ∧ F6 5 39 ≤ 131072 := H.frng 5 39; rw [show F6 5 39 = y13 from (ey14)] at h1; exact h1
  refine w_ifne (t := 20) rfl rfl (show inr (z10) by omega) (fun b17 => ?_) (fun b17 => ?_)
  · refine Ew_of (pc' := 21) (fun _ => x_aload_n rfl (rk_o (rfl) rfl rfl)) ?_
    refine w_gI H (o := 5) (w := y11) rfl (H.perm 5 rfl) rfl rfl rfl (fun _ => rfl) (ey12) ?_
    refine Ew_of (pc' := 25) (fun _ => x_iload_n rfl (rk_o (rfl) rfl rfl)) ?_
    refine w_icmplt (t := 36) rfl rfl (show inr (y11) by omega) (show inr (a1) by omega) (fun b18 => ?_) (fun b18 => ?_)
    · refine Ew_of (pc' := 37) (fun _ => x_aload_n rfl (rk_o (rfl) rfl rfl)) ?_
      refine w_gT H (o := 5) (t := 1) rfl (H.perm 5 rfl) rfl rfl rfl rfl rfl rfl ?_
      refine w_gT H (o := 1) (t := 14) rfl (H.perm 1 rfl) rfl rfl rfl rfl rfl rfl ?_
      refine Ew_of (pc' := 44) (fun _ => x_aload_n rfl (rk_o (rfl) rfl rfl)) ?_
      refine w_gI H (o := 5) (w := y11) rfl (H.perm 5 rfl) rfl rfl rfl (fun _ => rfl) (ey12) ?_
      refine w_lI H (o := 14) (n := 65536) rfl (H.perm 14 rfl) rfl rfl (H.fix 14 rfl rfl) (show 0 ≤ y11 ∧ y11 < ((65536 : Nat) : Int) by omega) (by decide) (fun v19 ev19 qv19 => ?_)
      have qv19 : (0 : Int) ≤ v19 ∧ v19 ≤ 255 := qv19
      have ev19 : (A 14) (y11) = v19 := (congrFun (funext (hA9 14 rfl)) (y11)).symm.trans ev19
      refine Ew_of (pc' := 49) (fun _ => x_istore_n rfl) ?_
      refine Ew_of (pc' := 50) (fun _ => x_aload_n rfl (rk_o (rk_o (rfl) rfl rfl) rfl rfl)) ?_
      refine Ew_of (pc' := 51) (fun _ => x_dup rfl rfl) ?_
      refine w_gI H (o := 5) (w := y11) rfl (H.perm 5 rfl) rfl rfl rfl (fun _ => rfl) (ey12) ?_
      refine Ew_of (pc' := 55) (fun _ => x_iconst rfl) ?_
      refine w_iadd rfl ?_
      refine w_pI H (o := 5) rfl rfl (H.perm 5 rfl) rfl rfl rfl (fun _ => rfl) rfl (show (0 : Int) ≤ (y11 + 1) ∧ (y11 + 1) ≤ 65536 by omega) (fun σ H => ?_)
      refine Ew_of (pc' := 60) (fun _ => x_iload_n rfl rk_s) ?_
      refine Ew_of (pc' := 62) (fun _ => x_istore rfl) ?_
      have hc166 : ∀ (ls : rO) (σ : rS) (F_c166 : hF) (A_c166 : hA) (xc166_4 : Int), rlook ls 0 = some (.ref (D 5)) → rlook ls 1 = some (I (a1)) → rlook ls 2 = some (I (u5_25)) → rlook ls 4 = some (I (xc166_4)) → HS σ0 σ D N F_c166 A_c166 → SF [(5, 25)] (updF F6 5 25 ((y11 + 1))) F_c166 → SA [] A7 A_c166 → ∀ yc166_5_25 : Int, F_c166 5 25 = yc166_5_25 → (inr (xc166_4)) → (0 ≤ (xc166_4) ∧ (xc166_4) ≤ 98047) → ((yc166_5_25) ≤ (a1) ∧ ((y11 + 1)) ≤ (yc166_5_25)) → Ew 289 (d + 6) 166 ls [] σ c s Q := by
       as_aux_lemma =>
        intro  ls σ F_c166 A_c166 xc166_4 lc166_0 lc166_1 lc166_2 lc166_4 H hS_c166 hA_c166 yc166_5_25 eyc166_5_25  jc166_0 jc166_1 jc166_2
        have r20 : (0 : Int) ≤ yc166_5_25 ∧ yc166_5_25 ≤ 65536 := by have h1 : (0 : Int) ≤ F_c166 5 25 ∧ F_c166 5 25 ≤ 65536 := H.frng 5 25; rw [show F_c166 5 25 = yc166_5_25 from (eyc166_5_25)] at h1; exact h1
        refine Ew_of (pc' := 167) (fun _ => x_aload_n rfl lc166_0) ?_
        refine Ew_of (pc' := 168) (fun _ => x_iconst rfl) ?_
        refine w_pI H (o := 5) rfl rfl (H.perm 5 rfl) rfl rfl rfl (fun _ => rfl) rfl (show (0 : Int) ≤ 0 ∧ 0 ≤ 131072 by omega) (fun σ H => ?_)
        refine Ew_of (pc' := 173) (fun _ => x_iload rfl lc166_4) ?_
        refine w_ifle (t := 184) rfl rfl (show inr (xc166_4) by omega) (fun b21 => ?_) (fun b21 => ?_)
        · refine Ew_of (pc' := 185) (fun _ => x_aload_n rfl lc166_0) ?_
          refine w_gI H (o := 5) (w := yc166_5_25) rfl (H.perm 5 rfl) rfl rfl rfl (fun _ => rfl) (eyc166_5_25) ?_
          refine Ew_of (pc' := 189) (fun _ => x_iload_n rfl lc166_1) ?_
          refine w_icmpge (t := 203) rfl rfl (show inr (yc166_5_25) by omega) (show inr (a1) by omega) (fun b22 => ?_) (fun b22 => ?_)
          · refine Ew_of (pc' := 204) (fun _ => x_aload_n rfl lc166_0) ?_
            refine w_gI H (o := 5) (w := y13) rfl (H.perm 5 rfl) rfl rfl rfl (fun _ => rfl) ((hS_c166 5 39 rfl).trans (ey14)) ?_
            refine Ew_of (pc' := 208) (fun _ => x_aload_n rfl lc166_0) ?_
            refine w_gI H (o := 5) (w := u5_26) rfl (H.perm 5 rfl) rfl rfl rfl (fun _ => rfl) (((hS_c166 5 26 rfl).trans (hS8 5 26 rfl)).trans (eu5_26)) ?_
            refine Ew_of (pc' := 212) (fun _ => x_aload_n rfl lc166_0) ?_
            refine w_gI H (o := 5) (w := u5_27) rfl (H.perm 5 rfl) rfl rfl rfl (fun _ => rfl) (((hS_c166 5 27 rfl).trans (hS8 5 27 rfl)).trans (eu5_27)) ?_
            refine w_isub rfl ?_
            refine w_icmple (t := 227) rfl rfl (show inr (y13) by omega) (show inr ((u5_26 - u5_27)) by omega) (fun b23 => ?_) (fun b23 => ?_)
            · refine Ew_of (pc' := 228) (fun _ => x_aload_n rfl lc166_0) ?_
              refine w_inv H (o := 5) rfl rfl rfl (H.perm 5 rfl) rfl rfl (by rfl) (M290 H (u5_27) ((((hS_c166 5 27 rfl).trans (hS8 5 27 rfl)).trans (eu5_27))) (y13) (((hS_c166 5 39 rfl).trans (ey14))) (0) (rfl) (show (0) ≤ (y13) ∧ (u5_27) + ((y13) - (0)) ≤ 65536 by omega) (fun σ F24 A25 H hS26 hA27 y29 ey30 pz28_0 => ⟨rfl, ?_⟩))
              have r31 : (0 : Int) ≤ y29 ∧ y29 ≤ 65536 := by have h1 : (0 : Int) ≤ F24 5 27 ∧ F24 5 27 ≤ 65536 := H.frng 5 27; rw [show F24 5 27 = y29 from (ey30)] at h1; exact h1
              refine Ew_of (pc' := 232) (fun _ => x_iconst rfl) ?_
              exact w_ireturn rfl (k (1) σ _ _ H (SF_trans (SF_upd (SF_trans (SF_upd (SF_trans (SF_upd (SF_refl) rfl) hS8 (any_sub rfl)) rfl) hS_c166 (any_sub rfl)) rfl) hS26 (any_sub rfl)) (SA_trans (SA_trans (SA_trans (SA_refl) hA9 (any_subA rfl)) hA_c166 (any_subA rfl)) hA27 (any_subA rfl)) (y29) ((ey30)) (w34) ((funext (hA27 34 rfl)).trans ((funext (hA_c166 34 rfl)).trans ((funext (hA9 34 rfl)).trans (ew34)))) (w35) ((funext (hA27 35 rfl)).trans ((funext (hA_c166 35 rfl)).trans ((funext (hA9 35 rfl)).trans (ew35)))) (w36) ((funext (hA27 36 rfl)).trans ((funext (hA_c166 36 rfl)).trans ((funext (hA9 36 rfl)).trans (ew36)))) (w37) ((funext (hA27 37 rfl)).trans ((funext (hA_c166 37 rfl)).trans ((funext (hA9 37 rfl)).trans (ew37)))) (w38) ((funext (hA27 38 rfl)).trans ((funext (hA_c166 38 rfl)).trans ((funext (hA9 38 rfl)).trans (ew38)))) (show (1) = 0 ∨ (1) = 1 by omega) (show RT ((w35)) ((w36)) ((w37)) ((w34)) by assumption) (show (u5_27) ≤ (y29) ∧ (y29) ≤ (u5_26) by omega) (show (1) = 1 → 1 ≤ ((w38)) 0 ∧ 1 ≤ ((w38)) 1 ∧ 1 ≤ ((w38)) 2 by omega))
            · refine Ew_of (pc' := 220) (fun _ => x_aload_n rfl lc166_0) ?_
              refine Ew_of (pc' := 222) (fun _ => x_bipush (z := 7) rfl (by decide)) ?_
              refine Ew_of (pc' := 223) (fun _ => x_iload_n rfl lc166_2) ?_
              refine w_inv H (o := 5) rfl rfl rfl (H.perm 5 rfl) rfl rfl (by rfl) (M282 H (show inr (7) by omega) (show inr (u5_25) by omega) (show 0 ≤ (7) ∧ (7) ≤ 20 by omega) (show 0 ≤ (u5_25) ∧ (u5_25) ≤ 65536 by omega) (fun z36 σ F32 A33 H hS34 hA35 pz36_0 pz36_1 => ⟨rretB rfl pz36_0, ?_⟩))
              exact w_ireturn rfl (k (z36) σ _ _ H (SF_trans (SF_upd (SF_trans (SF_upd (SF_trans (SF_upd (SF_refl) rfl) hS8 (any_sub rfl)) rfl) hS_c166 (any_sub rfl)) rfl) hS34 (any_sub rfl)) (SA_trans (SA_trans (SA_trans (SA_refl) hA9 (any_subA rfl)) hA_c166 (any_subA rfl)) hA35 (any_subA rfl)) (u5_27) (((((hS34 5 27 rfl).trans (hS_c166 5 27 rfl)).trans (hS8 5 27 rfl)).trans (eu5_27))) (w34) ((funext (hA35 34 rfl)).trans ((funext (hA_c166 34 rfl)).trans ((funext (hA9 34 rfl)).trans (ew34)))) (w35) ((funext (hA35 35 rfl)).trans ((funext (hA_c166 35 rfl)).trans ((funext (hA9 35 rfl)).trans (ew35)))) (w36) ((funext (hA35 36 rfl)).trans ((funext (hA_c166 36 rfl)).trans ((funext (hA9 36 rfl)).trans (ew36)))) (w37) ((funext (hA35 37 rfl)).trans ((funext (hA_c166 37 rfl)).trans ((funext (hA9 37 rfl)).trans (ew37)))) (w38) ((funext (hA35 38 rfl)).trans ((funext (hA_c166 38 rfl)).trans ((funext (hA9 38 rfl)).trans (ew38)))) (show (z36) = 0 ∨ (z36) = 1 by omega) (show RT ((w35)) ((w36)) ((w37)) ((w34)) by assumption) (show (u5_27) ≤ (u5_27) ∧ (u5_27) ≤ (u5_26) by omega) (show (z36) = 1 → 1 ≤ ((w38)) 0 ∧ 1 ≤ ((w38)) 1 ∧ 1 ≤ ((w38)) 2 by omega))
          · refine Ew_of (pc' := 193) (fun _ => x_aload_n rfl lc166_0) ?_
            refine Ew_of (pc' := 195) (fun _ => x_bipush (z := 15) rfl (by decide)) ?_
            refine Ew_of (pc' := 196) (fun _ => x_aload_n rfl lc166_0) ?_
            refine w_gI H (o := 5) (w := yc166_5_25) rfl (H.perm 5 rfl) rfl rfl rfl (fun _ => rfl) (eyc166_5_25) ?_
            refine w_inv H (o := 5) rfl rfl rfl (H.perm 5 rfl) rfl rfl (by rfl) (M282 H (show inr (15) by omega) (show inr (yc166_5_25) by omega) (show 0 ≤ (15) ∧ (15) ≤ 20 by omega) (show 0 ≤ (yc166_5_25) ∧ (yc166_5_25) ≤ 65536 by omega) (fun z41 σ F37 A38 H hS39 hA40 pz41_0 pz41_1 => ⟨rretB rfl pz41_0, ?_⟩))
            exact w_ireturn rfl (k (z41) σ _ _ H (SF_trans (SF_upd (SF_trans (SF_upd (SF_trans (SF_upd (SF_refl) rfl) hS8 (any_sub rfl)) rfl) hS_c166 (any_sub rfl)) rfl) hS39 (any_sub rfl)) (SA_trans (SA_trans (SA_trans (SA_refl) hA9 (any_subA rfl)) hA_c166 (any_subA rfl)) hA40 (any_subA rfl)) (u5_27) (((((hS39 5 27 rfl).trans (hS_c166 5 27 rfl)).trans (hS8 5 27 rfl)).trans (eu5_27))) (w34) ((funext (hA40 34 rfl)).trans ((funext (hA_c166 34 rfl)).trans ((funext (hA9 34 rfl)).trans (ew34)))) (w35) ((funext (hA40 35 rfl)).trans ((funext (hA_c166 35 rfl)).trans ((funext (hA9 35 rfl)).trans (ew35)))) (w36) ((funext (hA40 36 rfl)).trans ((funext (hA_c166 36 rfl)).trans ((funext (hA9 36 rfl)).trans (ew36)))) (w37) ((funext (hA40 37 rfl)).trans ((funext (hA_c166 37 rfl)).trans ((funext (hA9 37 rfl)).trans (ew37)))) (w38) ((funext (hA40 38 rfl)).trans ((funext (hA_c166 38 rfl)).trans ((funext (hA9 38 rfl)).trans (ew38)))) (show (z41) = 0 ∨ (z41) = 1 by omega) (show RT ((w35)) ((w36)) ((w37)) ((w34)) by assumption) (show (u5_27) ≤ (u5_27) ∧ (u5_27) ≤ (u5_26) by omega) (show (z41) = 1 → 1 ≤ ((w38)) 0 ∧ 1 ≤ ((w38)) 1 ∧ 1 ≤ ((w38)) 2 by omega))
        · refine Ew_of (pc' := 177) (fun _ => x_aload_n rfl lc166_0) ?_
          refine Ew_of (pc' := 178) (fun _ => x_iload_n rfl lc166_1) ?_
          refine Ew_of (pc' := 180) (fun _ => x_iload rfl lc166_4) ?_
          refine w_inv H (o := 5) rfl rfl rfl (H.perm 5 rfl) rfl rfl (by rfl) (M298 H (u1_1) ((((hS_c166 1 1 rfl).trans (hS8 1 1 rfl)).trans (eu1_1))) (yc166_5_25) ((eyc166_5_25)) (u5_26) ((((hS_c166 5 26 rfl).trans (hS8 5 26 rfl)).trans (eu5_26))) (u5_27) ((((hS_c166 5 27 rfl).trans (hS8 5 27 rfl)).trans (eu5_27))) (u5_28) ((((hS_c166 5 28 rfl).trans (hS8 5 28 rfl)).trans (eu5_28))) (y13) (((hS_c166 5 39 rfl).trans (ey14))) (0) (rfl) (w34) ((funext (hA_c166 34 rfl)).trans ((funext (hA9 34 rfl)).trans (ew34))) (w35) ((funext (hA_c166 35 rfl)).trans ((funext (hA9 35 rfl)).trans (ew35))) (w36) ((funext (hA_c166 36 rfl)).trans ((funext (hA9 36 rfl)).trans (ew36))) (w37) ((funext (hA_c166 37 rfl)).trans ((funext (hA9 37 rfl)).trans (ew37))) (w38) ((funext (hA_c166 38 rfl)).trans ((funext (hA9 38 rfl)).trans (ew38))) (show inr (a1) by omega) (show inr (xc166_4) by omega) (show 0 ≤ (yc166_5_25) ∧ (yc166_5_25) ≤ (a1) ∧ (a1) ≤ (u1_1) by omega) (show 1 ≤ (xc166_4) ∧ (xc166_4) ≤ 100000 by omega) (show RT ((w35)) ((w36)) ((w37)) ((w34)) by assumption) (show 1 ≤ ((w38)) 0 ∧ 1 ≤ ((w38)) 1 ∧ 1 ≤ ((w38)) 2 by omega) (show (0) ≤ (y13) by omega) (show (u5_28) ≤ (u5_27) ∧ (u5_27) ≤ (u5_26) by omega) (fun z46 σ F42 A43 H hS44 hA45 y47 ey48 wq49 ewq50 wq51 ewq52 wq53 ewq54 wq55 ewq56 wq57 ewq58 pz46_0 pz46_1 pz46_2 pz46_3 => ⟨rretB rfl pz46_0, ?_⟩))
          have r59 : (0 : Int) ≤ y47 ∧ y47 ≤ 65536 := by have h1 : (0 : Int) ≤ F42 5 27 ∧ F42 5 27 ≤ 65536 := H.frng 5 27; rw [show F42 5 27 = y47 from (ey48)] at h1; exact h1
          exact w_ireturn rfl (k (z46) σ _ _ H (SF_trans (SF_upd (SF_trans (SF_upd (SF_trans (SF_upd (SF_refl) rfl) hS8 (any_sub rfl)) rfl) hS_c166 (any_sub rfl)) rfl) hS44 (any_sub rfl)) (SA_trans (SA_trans (SA_trans (SA_refl) hA9 (any_subA rfl)) hA_c166 (any_subA rfl)) hA45 (any_subA rfl)) (y47) ((ey48)) (wq49) (ewq50) (wq51) (ewq52) (wq53) (ewq54) (wq55) (ewq56) (wq57) (ewq58) (show (z46) = 0 ∨ (z46) = 1 by omega) (show RT ((wq51)) ((wq53)) ((wq55)) ((wq49)) by assumption) (show (u5_27) ≤ (y47) ∧ (y47) ≤ (u5_26) by omega) (show (z46) = 1 → 1 ≤ ((wq57)) 0 ∧ 1 ≤ ((wq57)) 1 ∧ 1 ≤ ((wq57)) 2 by omega))
      refine Ew_of (pc' := 63) (fun _ => x_iload_n rfl (rk_o (rk_s) rfl rfl)) ?_
      refine Ew_of (pc' := 65) (fun _ => x_bipush (z := 127) rfl (by decide)) ?_
      refine w_icmple (t := 166) rfl rfl (show inr (v19) by omega) (show inr (127) by omega) (fun b60 => ?_) (fun b60 => ?_)
      · exact hc166  _ σ _ _ (v19) (rk_o (rk_o (rk_o (rfl) rfl rfl) rfl rfl) rfl rfl) (rk_o (rk_o (rk_o (rfl) rfl rfl) rfl rfl) rfl rfl) (rk_o (rk_o (rk_s) rfl rfl) rfl rfl) (rk_s) H (SF_refl) (SA_refl) ((y11 + 1)) (rfl)  (show inr (v19) by omega) (show 0 ≤ (v19) ∧ (v19) ≤ 98047 by omega) (show ((y11 + 1)) ≤ (a1) ∧ ((y11 + 1)) ≤ ((y11 + 1)) by omega)
      · refine Ew_of (pc' := 69) (fun _ => x_iload_n rfl (rk_o (rk_o (rk_o (rfl) rfl rfl) rfl rfl) rfl rfl)) ?_
        refine Ew_of (pc' := 70) (fun _ => x_aload_n rfl (rk_o (rk_o (rk_o (rfl) rfl rfl) rfl rfl) rfl rfl)) ?_
        refine w_gI H (o := 5) (w := (y11 + 1)) rfl (H.perm 5 rfl) rfl rfl rfl (fun _ => rfl) rfl ?_
        refine w_isub rfl ?_
        refine Ew_of (pc' := 75) (fun _ => x_iload_n rfl (rk_o (rk_s) rfl rfl)) ?_
        refine Ew_of (pc' := 78) (fun _ => x_sipush (z := 255) rfl (by decide)) ?_
        have hc86 : ∀ (tc86_0 : Int), ∀ (ls : rO) (σ : rS) (F_c86 : hF) (A_c86 : hA) , rlook ls 0 = some (.ref (D 5)) → rlook ls 1 = some (I (a1)) → rlook ls 2 = some (I (u5_25)) → rlook ls 3 = some (I (v19)) → HS σ0 σ D N F_c86 A_c86 → SF [] (updF F6 5 25 ((y11 + 1))) F_c86 → SA [] A7 A_c86 → (inr (tc86_0)) → (((v19) ≠ (255) ∧ (tc86_0) = (1)) ∨ ((v19) = (255) ∧ (tc86_0) = (2))) → Ew 289 (d + 6) 86 ls [I (tc86_0), I ((a1 - (y11 + 1)))] σ c s Q := by
         as_aux_lemma =>
          intro tc86_0 ls σ F_c86 A_c86  lc86_0 lc86_1 lc86_2 lc86_3 H hS_c86 hA_c86   jc86_0 jc86_1
          refine w_icmpge (t := 97) rfl rfl (show inr ((a1 - (y11 + 1))) by omega) (show inr (tc86_0) by omega) (fun b61 => ?_) (fun b61 => ?_)
          · have hc143 : ∀ (tc143_0 : Int), ∀ (ls : rO) (σ : rS) (F_c143 : hF) (A_c143 : hA) , rlook ls 0 = some (.ref (D 5)) → rlook ls 1 = some (I (a1)) → rlook ls 2 = some (I (u5_25)) → rlook ls 3 = some (I (v19)) → HS σ0 σ D N F_c143 A_c143 → SF [] F_c86 F_c143 → SA [] A_c86 A_c143 → (inr (tc143_0)) → (0 ≤ (tc143_0) ∧ (tc143_0) ≤ 98047) → Ew 289 (d + 6) 143 ls [I (tc143_0)] σ c s Q := by
             as_aux_lemma =>
              intro tc143_0 ls σ F_c143 A_c143  lc143_0 lc143_1 lc143_2 lc143_3 H hS_c143 hA_c143   jc143_0 jc143_1
              refine Ew_of (pc' := 145) (fun _ => x_istore rfl) ?_
              refine Ew_of (pc' := 146) (fun _ => x_aload_n rfl (rk_o (lc143_0) rfl rfl)) ?_
              refine Ew_of (pc' := 147) (fun _ => x_dup rfl rfl) ?_
              refine w_gI H (o := 5) (w := (y11 + 1)) rfl (H.perm 5 rfl) rfl rfl rfl (fun _ => rfl) ((hS_c143 5 25 rfl).trans (hS_c86 5 25 rfl)) ?_
              refine Ew_of (pc' := 151) (fun _ => x_iload_n rfl (rk_o (lc143_3) rfl rfl)) ?_
              refine Ew_of (pc' := 154) (fun _ => x_sipush (z := 255) rfl (by decide)) ?_
              refine w_icmpne (t := 161) rfl rfl (show inr (v19) by omega) (show inr (255) by omega) (fun b62 => ?_) (fun b62 => ?_)
              · refine Ew_of (pc' := 162) (fun _ => x_iconst rfl) ?_
                refine w_iadd rfl ?_
                refine w_pI H (o := 5) rfl rfl (H.perm 5 rfl) rfl rfl rfl (fun _ => rfl) rfl (show (0 : Int) ≤ ((y11 + 1) + 1) ∧ ((y11 + 1) + 1) ≤ 65536 by omega) (fun σ H => ?_)
                exact hc166  _ σ _ _ (tc143_0) (rk_o (lc143_0) rfl rfl) (rk_o (lc143_1) rfl rfl) (rk_o (lc143_2) rfl rfl) (rk_s) H (SF_upd (SF_trans (SF_trans (SF_refl) hS_c86 (any_sub rfl)) hS_c143 (any_sub rfl)) rfl) (SA_trans (SA_trans (SA_refl) hA_c86 (any_subA rfl)) hA_c143 (any_subA rfl)) (((y11 + 1) + 1)) (rfl)  (show inr (tc143_0) by omega) (show 0 ≤ (tc143_0) ∧ (tc143_0) ≤ 98047 by omega) (show (((y11 + 1) + 1)) ≤ (a1) ∧ ((y11 + 1)) ≤ (((y11 + 1) + 1)) by omega)
              · refine Ew_of (pc' := 158) (fun _ => x_iconst rfl) ?_
                refine Ew_of (pc' := 162) (fun _ => x_goto rfl rfl) ?_
                refine w_iadd rfl ?_
                refine w_pI H (o := 5) rfl rfl (H.perm 5 rfl) rfl rfl rfl (fun _ => rfl) rfl (show (0 : Int) ≤ ((y11 + 1) + 2) ∧ ((y11 + 1) + 2) ≤ 65536 by omega) (fun σ H => ?_)
                exact hc166  _ σ _ _ (tc143_0) (rk_o (lc143_0) rfl rfl) (rk_o (lc143_1) rfl rfl) (rk_o (lc143_2) rfl rfl) (rk_s) H (SF_upd (SF_trans (SF_trans (SF_refl) hS_c86 (any_sub rfl)) hS_c143 (any_sub rfl)) rfl) (SA_trans (SA_trans (SA_refl) hA_c86 (any_subA rfl)) hA_c143 (any_subA rfl)) (((y11 + 1) + 2)) (rfl)  (show inr (tc143_0) by omega) (show 0 ≤ (tc143_0) ∧ (tc143_0) ≤ 98047 by omega) (show (((y11 + 1) + 2)) ≤ (a1) ∧ ((y11 + 1)) ≤ (((y11 + 1) + 2)) by omega)
            refine Ew_of (pc' := 98) (fun _ => x_iload_n rfl lc86_3) ?_
            refine Ew_of (pc' := 101) (fun _ => x_sipush (z := 255) rfl (by decide)) ?_
            refine w_icmpne (t := 121) rfl rfl (show inr (v19) by omega) (show inr (255) by omega) (fun b63 => ?_) (fun b63 => ?_)
            · refine Ew_of (pc' := 124) (fun _ => x_sipush (z := 256) rfl (by decide)) ?_
              refine Ew_of (pc' := 125) (fun _ => x_iload_n rfl lc86_3) ?_
              refine Ew_of (pc' := 128) (fun _ => x_sipush (z := 128) rfl (by decide)) ?_
              refine w_isub rfl ?_
              refine w_imul rfl ?_
              refine Ew_of (pc' := 131) (fun _ => x_aload_n rfl lc86_0) ?_
              refine w_gT H (o := 5) (t := 1) rfl (H.perm 5 rfl) rfl rfl rfl rfl rfl rfl ?_
              refine w_gT H (o := 1) (t := 14) rfl (H.perm 1 rfl) rfl rfl rfl rfl rfl rfl ?_
              refine Ew_of (pc' := 138) (fun _ => x_aload_n rfl lc86_0) ?_
              refine w_gI H (o := 5) (w := (y11 + 1)) rfl (H.perm 5 rfl) rfl rfl rfl (fun _ => rfl) (hS_c86 5 25 rfl) ?_
              refine w_lI H (o := 14) (n := 65536) rfl (H.perm 14 rfl) rfl rfl (H.fix 14 rfl rfl) (show 0 ≤ (y11 + 1) ∧ (y11 + 1) < ((65536 : Nat) : Int) by omega) (by decide) (fun v64 ev64 qv64 => ?_)
              have qv64 : (0 : Int) ≤ v64 ∧ v64 ≤ 255 := qv64
              have ev64 : (A 14) ((y11 + 1)) = v64 := (congrFun ((funext (hA_c86 14 rfl)).trans (funext (hA9 14 rfl))) ((y11 + 1))).symm.trans ev64
              refine w_iadd rfl ?_
              exact hc143 (((256 * (v19 - 128)) + v64)) _ σ _ _  (lc86_0) (lc86_1) (lc86_2) (lc86_3) H (SF_refl) (SA_refl)   (show inr (((256 * (v19 - 128)) + v64)) by omega) (show 0 ≤ (((256 * (v19 - 128)) + v64)) ∧ (((256 * (v19 - 128)) + v64)) ≤ 98047 by omega)
            · refine Ew_of (pc' := 105) (fun _ => x_aload_n rfl lc86_0) ?_
              refine Ew_of (pc' := 106) (fun _ => x_aload_n rfl lc86_0) ?_
              refine w_gI H (o := 5) (w := (y11 + 1)) rfl (H.perm 5 rfl) rfl rfl rfl (fun _ => rfl) (hS_c86 5 25 rfl) ?_
              refine Ew_of (pc' := 110) (fun _ => x_iconst rfl) ?_
              refine w_inv H (o := 5) rfl rfl rfl (H.perm 5 rfl) rfl rfl (by rfl) (M257 H (A 14) ((funext (hA_c86 14 rfl)).trans (funext (hA9 14 rfl))) (show inr ((y11 + 1)) by omega) (show inr (2) by omega) (show 0 ≤ ((y11 + 1)) ∧ 0 ≤ (2) ∧ (2) ≤ 8 ∧ ((y11 + 1)) + (2) ≤ 65536 by omega) (fun z69 σ F65 A66 H hS67 hA68 pz69_0 pz69_1 pz69_2 pz69_3 pz69_4 pz69_5 pz69_6 pz69_7 pz69_8 => ⟨rfl, ?_⟩))
              replace pz69_1 := pz69_1.resolve_left (by decide)
              replace pz69_2 := pz69_2.resolve_right (by decide)
              replace pz69_3 := pz69_3 (by decide)
              replace pz69_4 := pz69_4 (by decide)
              replace pz69_5 := pz69_5 (by decide)
              clear pz69_6
              clear pz69_7
              replace pz69_8 := pz69_8 (by decide)
              refine w_l2i rfl ?_
              refine Ew_of (pc' := 117) (fun _ => x_sipush (z := 32512) rfl (by decide)) ?_
              refine w_iadd rfl ?_
              refine Ew_of (pc' := 143) (fun _ => x_goto rfl rfl) ?_
              exact hc143 ((z69 + 32512)) _ σ _ _  (lc86_0) (lc86_1) (lc86_2) (lc86_3) H (SF_trans (SF_refl) hS67 (any_sub rfl)) (SA_trans (SA_refl) hA68 (any_subA rfl))   (show inr ((z69 + 32512)) by omega) (show 0 ≤ ((z69 + 32512)) ∧ ((z69 + 32512)) ≤ 98047 by omega)
          · refine Ew_of (pc' := 90) (fun _ => x_aload_n rfl lc86_0) ?_
            refine Ew_of (pc' := 92) (fun _ => x_bipush (z := 10) rfl (by decide)) ?_
            refine Ew_of (pc' := 93) (fun _ => x_iload_n rfl lc86_1) ?_
            refine w_inv H (o := 5) rfl rfl rfl (H.perm 5 rfl) rfl rfl (by rfl) (M282 H (show inr (10) by omega) (show inr (a1) by omega) (show 0 ≤ (10) ∧ (10) ≤ 20 by omega) (show 0 ≤ (a1) ∧ (a1) ≤ 65536 by omega) (fun z74 σ F70 A71 H hS72 hA73 pz74_0 pz74_1 => ⟨rretB rfl pz74_0, ?_⟩))
            exact w_ireturn rfl (k (z74) σ _ _ H (SF_trans (SF_trans (SF_upd (SF_trans (SF_upd (SF_refl) rfl) hS8 (any_sub rfl)) rfl) hS_c86 (any_sub rfl)) hS72 (any_sub rfl)) (SA_trans (SA_trans (SA_trans (SA_refl) hA9 (any_subA rfl)) hA_c86 (any_subA rfl)) hA73 (any_subA rfl)) (u5_27) (((((hS72 5 27 rfl).trans (hS_c86 5 27 rfl)).trans (hS8 5 27 rfl)).trans (eu5_27))) (w34) ((funext (hA73 34 rfl)).trans ((funext (hA_c86 34 rfl)).trans ((funext (hA9 34 rfl)).trans (ew34)))) (w35) ((funext (hA73 35 rfl)).trans ((funext (hA_c86 35 rfl)).trans ((funext (hA9 35 rfl)).trans (ew35)))) (w36) ((funext (hA73 36 rfl)).trans ((funext (hA_c86 36 rfl)).trans ((funext (hA9 36 rfl)).trans (ew36)))) (w37) ((funext (hA73 37 rfl)).trans ((funext (hA_c86 37 rfl)).trans ((funext (hA9 37 rfl)).trans (ew37)))) (w38) ((funext (hA73 38 rfl)).trans ((funext (hA_c86 38 rfl)).trans ((funext (hA9 38 rfl)).trans (ew38)))) (show (z74) = 0 ∨ (z74) = 1 by omega) (show RT ((w35)) ((w36)) ((w37)) ((w34)) by assumption) (show (u5_27) ≤ (u5_27) ∧ (u5_27) ≤ (u5_26) by omega) (show (z74) = 1 → 1 ≤ ((w38)) 0 ∧ 1 ≤ ((w38)) 1 ∧ 1 ≤ ((w38)) 2 by omega))
        refine w_icmpne (t := 85) rfl rfl (show inr (v19) by omega) (show inr (255) by omega) (fun b75 => ?_) (fun b75 => ?_)
        · refine Ew_of (pc' := 86) (fun _ => x_iconst rfl) ?_
          exact hc86 (1) _ σ _ _  (rk_o (rk_o (rk_o (rfl) rfl rfl) rfl rfl) rfl rfl) (rk_o (rk_o (rk_o (rfl) rfl rfl) rfl rfl) rfl rfl) (rk_o (rk_o (rk_s) rfl rfl) rfl rfl) (rk_o (rk_s) rfl rfl) H (SF_refl) (SA_refl)   (show inr (1) by omega) (show ((v19) ≠ (255) ∧ (1) = (1)) ∨ ((v19) = (255) ∧ (1) = (2)) by omega)
        · refine Ew_of (pc' := 82) (fun _ => x_iconst rfl) ?_
          refine Ew_of (pc' := 86) (fun _ => x_goto rfl rfl) ?_
          exact hc86 (2) _ σ _ _  (rk_o (rk_o (rk_o (rfl) rfl rfl) rfl rfl) rfl rfl) (rk_o (rk_o (rk_o (rfl) rfl rfl) rfl rfl) rfl rfl) (rk_o (rk_o (rk_s) rfl rfl) rfl rfl) (rk_o (rk_s) rfl rfl) H (SF_refl) (SA_refl)   (show inr (2) by omega) (show ((v19) ≠ (255) ∧ (2) = (1)) ∨ ((v19) = (255) ∧ (2) = (2)) by omega)
    · refine Ew_of (pc' := 29) (fun _ => x_aload_n rfl (rk_o (rfl) rfl rfl)) ?_
      refine Ew_of (pc' := 31) (fun _ => x_bipush (z := 10) rfl (by decide)) ?_
      refine Ew_of (pc' := 32) (fun _ => x_iload_n rfl (rk_o (rfl) rfl rfl)) ?_
      refine w_inv H (o := 5) rfl rfl rfl (H.perm 5 rfl) rfl rfl (by rfl) (M282 H (show inr (10) by omega) (show inr (a1) by omega) (show 0 ≤ (10) ∧ (10) ≤ 20 by omega) (show 0 ≤ (a1) ∧ (a1) ≤ 65536 by omega) (fun z80 σ F76 A77 H hS78 hA79 pz80_0 pz80_1 => ⟨rretB rfl pz80_0, ?_⟩))
      exact w_ireturn rfl (k (z80) σ _ _ H (SF_trans (SF_trans (SF_upd (SF_refl) rfl) hS8 (any_sub rfl)) hS78 (any_sub rfl)) (SA_trans (SA_trans (SA_refl) hA9 (any_subA rfl)) hA79 (any_subA rfl)) (u5_27) ((((hS78 5 27 rfl).trans (hS8 5 27 rfl)).trans (eu5_27))) (w34) ((funext (hA79 34 rfl)).trans ((funext (hA9 34 rfl)).trans (ew34))) (w35) ((funext (hA79 35 rfl)).trans ((funext (hA9 35 rfl)).trans (ew35))) (w36) ((funext (hA79 36 rfl)).trans ((funext (hA9 36 rfl)).trans (ew36))) (w37) ((funext (hA79 37 rfl)).trans ((funext (hA9 37 rfl)).trans (ew37))) (w38) ((funext (hA79 38 rfl)).trans ((funext (hA9 38 rfl)).trans (ew38))) (show (z80) = 0 ∨ (z80) = 1 by omega) (show RT ((w35)) ((w36)) ((w37)) ((w34)) by assumption) (show (u5_27) ≤ (u5_27) ∧ (u5_27) ≤ (u5_26) by omega) (show (z80) = 1 → 1 ≤ ((w38)) 0 ∧ 1 ≤ ((w38)) 1 ∧ 1 ≤ ((w38)) 2 by omega))
  · refine Ew_of (pc' := 19) (fun _ => x_iconst rfl) ?_
    exact w_ireturn rfl (k (0) σ _ _ H (SF_trans (SF_upd (SF_refl) rfl) hS8 (any_sub rfl)) (SA_trans (SA_refl) hA9 (any_subA rfl)) (u5_27) (((hS8 5 27 rfl).trans (eu5_27))) (w34) ((funext (hA9 34 rfl)).trans (ew34)) (w35) ((funext (hA9 35 rfl)).trans (ew35)) (w36) ((funext (hA9 36 rfl)).trans (ew36)) (w37) ((funext (hA9 37 rfl)).trans (ew37)) (w38) ((funext (hA9 38 rfl)).trans (ew38)) (show (0) = 0 ∨ (0) = 1 by omega) (show RT ((w35)) ((w36)) ((w37)) ((w34)) by assumption) (show (u5_27) ≤ (u5_27) ∧ (u5_27) ≤ (u5_26) by omega) (show (0) = 1 → 1 ≤ ((w38)) 0 ∧ 1 ≤ ((w38)) 1 ∧ 1 ≤ ((w38)) 2 by omega))
/-- Reader.block -/
theorem M288 {σ0 σ : rS} {D N : Nat → Nat} {F : hF} {A : hA} {d c s : Nat} {Q : wQ} (H : HS σ0 σ D N F A)  (u1_1 : Int) (eu1_1 : F 1 1 = u1_1) (u5_25 : Int) (eu5_25 : F 5 25 = u5_25) (u5_26 : Int) (eu5_26 : F 5 26 = u5_26) (u5_27 : Int) (eu5_27 : F 5 27 = u5_27) (u5_28 : Int) (eu5_28 : F 5 28 = u5_28) (w34 : Int → Int) (ew34 : A 34 = w34) (w35 : Int → Int) (ew35 : A 35 = w35) (w36 : Int → Int) (ew36 : A 36 = w36) (w37 : Int → Int) (ew37 : A 37 = w37) (w38 : Int → Int) (ew38 : A 38 = w38) (h0 : (u5_25) + 3 ≤ (u1_1)) (h1 : RT ((w35)) ((w36)) ((w37)) ((w34))) (h2 : 1 ≤ ((w38)) 0 ∧ 1 ≤ ((w38)) 1 ∧ 1 ≤ ((w38)) 2) (h3 : (u5_28) ≤ (u5_27) ∧ (u5_27) ≤ (u5_26)) (k : ∀ (z : Int) σ F' A', HS σ0 σ D N F' A' → SF [(5, 10), (5, 19), (5, 25), (5, 27), (5, 30), (5, 31), (5, 33), (5, 34), (5, 39), (5, 40), (5, 41), (5, 42), (5, 43), (5, 44), (5, 45)] F F' → SA [31, 32, 33, 34, 35, 36, 37, 38, 39, 40, 41, 42, 43, 44, 45, 46] A A' → ∀ y5_25 : Int, F' 5 25 = y5_25 → ∀ y5_27 : Int, F' 5 27 = y5_27 → ∀ v34 : Int → Int, A' 34 = v34 → ∀ v35 : Int → Int, A' 35 = v35 → ∀ v36 : Int → Int, A' 36 = v36 → ∀ v37 : Int → Int, A' 37 = v37 → ∀ v38 : Int → Int, A' 38 = v38 → ((z) = 0 ∨ (z) = 1) → (RT ((v35)) ((v36)) ((v37)) ((v34))) → ((u5_27) ≤ (y5_27) ∧ (y5_27) ≤ (u5_26)) → ((z) = 1 → 1 ≤ ((v38)) 0 ∧ 1 ≤ ((v38)) 1 ∧ 1 ≤ ((v38)) 2) → ((z) = 1 → (u5_25) + 3 ≤ (y5_25) ∧ (y5_25) ≤ (u1_1)) → Q (some (I z)) σ c s) : Ew 288 (d + 7) 0 (rargs 0 [.ref (D 5)]) [] σ c s Q := by
  have r1 : (0 : Int) ≤ u1_1 ∧ u1_1 ≤ 65536 := by have h1 : (0 : Int) ≤ F 1 1 ∧ F 1 1 ≤ 65536 := H.frng 1 1; rw [show F 1 1 = u1_1 from (eu1_1)] at h1; exact h1
  have r2 : (0 : Int) ≤ u5_25 ∧ u5_25 ≤ 65536 := by have h1 : (0 : Int) ≤ F 5 25 ∧ F 5 25 ≤ 65536 := H.frng 5 25; rw [show F 5 25 = u5_25 from (eu5_25)] at h1; exact h1
  have r3 : (0 : Int) ≤ u5_26 ∧ u5_26 ≤ 65536 := by have h1 : (0 : Int) ≤ F 5 26 ∧ F 5 26 ≤ 65536 := H.frng 5 26; rw [show F 5 26 = u5_26 from (eu5_26)] at h1; exact h1
  have r4 : (0 : Int) ≤ u5_27 ∧ u5_27 ≤ 65536 := by have h1 : (0 : Int) ≤ F 5 27 ∧ F 5 27 ≤ 65536 := H.frng 5 27; rw [show F 5 27 = u5_27 from (eu5_27)] at h1; exact h1
  have r5 : (0 : Int) ≤ u5_28 ∧ u5_28 ≤ 65536 := by have h1 : (0 : Int) ≤ F 5 28 ∧ F 5 28 ≤ 65536 := H.frng 5 28; rw [show F 5 28 = u5_28 from (eu5_28)] at h1; exact h1
  refine Ew_of (pc' := 1) (fun _ => x_aload_n rfl rfl) ?_
  refine Ew_of (pc' := 2) (fun _ => x_dup rfl rfl) ?_
  have r6 : (-2147483648 : Int) ≤ F 5 33 ∧ F 5 33 ≤ 2147483647 := by have h1 : (-2147483648 : Int) ≤ F 5 33 ∧ F 5 33 ≤ 2147483647 := H.frng 5 33; rw [show F 5 33 = F 5 33 from rfl] at h1; exact h1
  refine w_gI H (o := 5) (w := F 5 33) rfl (H.perm 5 rfl) rfl rfl rfl (fun _ => rfl) rfl ?_
  refine Ew_of (pc' := 6) (fun _ => x_iconst rfl) ?_
  refine w_iaddA rfl (fun z7 gz7 => ?_)
  refine w_pI H (o := 5) rfl rfl (H.perm 5 rfl) rfl rfl rfl (fun _ => rfl) rfl (show (-2147483648 : Int) ≤ z7 ∧ z7 ≤ 2147483647 by omega) (fun σ H => ?_)
  refine Ew_of (pc' := 11) (fun _ => x_aload_n rfl rfl) ?_
  refine w_gI H (o := 5) (w := u5_25) rfl (H.perm 5 rfl) rfl rfl rfl (fun _ => rfl) (eu5_25) ?_
  refine Ew_of (pc' := 15) (fun _ => x_istore_n rfl) ?_
  refine Ew_of (pc' := 16) (fun _ => x_aload_n rfl (rk_o (rfl) rfl rfl)) ?_
  refine Ew_of (pc' := 17) (fun _ => x_aload_n rfl (rk_o (rfl) rfl rfl)) ?_
  refine w_gI H (o := 5) (w := u5_25) rfl (H.perm 5 rfl) rfl rfl rfl (fun _ => rfl) (eu5_25) ?_
  refine Ew_of (pc' := 21) (fun _ => x_iconst rfl) ?_
  refine w_inv H (o := 5) rfl rfl rfl (H.perm 5 rfl) rfl rfl (by rfl) (M257 H (A 14) (rfl) (show inr (u5_25) by omega) (show inr (3) by omega) (show 0 ≤ (u5_25) ∧ 0 ≤ (3) ∧ (3) ≤ 8 ∧ (u5_25) + (3) ≤ 65536 by omega) (fun z12 σ F8 A9 H hS10 hA11 pz12_0 pz12_1 pz12_2 pz12_3 pz12_4 pz12_5 pz12_6 pz12_7 pz12_8 => ⟨rfl, ?_⟩))
  replace pz12_1 := pz12_1.resolve_left (by decide)
  replace pz12_2 := pz12_2.resolve_right (by decide)
  replace pz12_3 := pz12_3 (by decide)
  replace pz12_4 := pz12_4 (by decide)
  clear pz12_5
  clear pz12_6
  clear pz12_7
  replace pz12_8 := pz12_8 (by decide)
  refine w_l2i rfl ?_
  refine Ew_of (pc' := 26) (fun _ => x_istore_n rfl) ?_
  refine Ew_of (pc' := 27) (fun _ => x_iload_n rfl rk_s) ?_
  refine Ew_of (pc' := 28) (fun _ => x_iconst rfl) ?_
  refine w_idiv rfl (show inr (z12) ∧ 0 ≤ z12 by omega) (show inr (2) ∧ 0 < 2 by omega) ?_
  refine Ew_of (pc' := 30) (fun _ => x_iconst rfl) ?_
  refine w_irem rfl (show inr ((z12 / 2)) ∧ 0 ≤ (z12 / 2) by omega) (show inr (4) ∧ 0 < 4 by omega) ?_
  refine Ew_of (pc' := 32) (fun _ => x_istore_n rfl) ?_
  refine Ew_of (pc' := 33) (fun _ => x_iload_n rfl (rk_o (rk_s) rfl rfl)) ?_
  refine Ew_of (pc' := 35) (fun _ => x_bipush (z := 8) rfl (by decide)) ?_
  refine w_idiv rfl (show inr (z12) ∧ 0 ≤ z12 by omega) (show inr (8) ∧ 0 < 8 by omega) ?_
  refine Ew_of (pc' := 38) (fun _ => x_istore rfl) ?_
  refine Ew_of (pc' := 39) (fun _ => x_iload_n rfl (rk_o (rk_s) rfl rfl)) ?_
  refine Ew_of (pc' := 40) (fun _ => x_iconst rfl) ?_
  refine w_icmpne (t := 50) rfl rfl (show inr (((z12 / 2) % 4)) by omega) (show inr (3) by omega) (fun b13 => ?_) (fun b13 => ?_)
  · refine Ew_of (pc' := 52) (fun _ => x_iload rfl rk_s) ?_
    refine Ew_of (pc' := 53) (fun _ => x_aload_n rfl (rk_o (rk_o (rk_o (rk_o (rfl) rfl rfl) rfl rfl) rfl rfl) rfl rfl)) ?_
    have r14 : (0 : Int) ≤ F 5 29 ∧ F 5 29 ≤ 131072 := by have h1 : (0 : Int) ≤ F8 5 29 ∧ F8 5 29 ≤ 131072 := H.frng 5 29; rw [show F8 5 29 = F 5 29 from (hS10 5 29 rfl)] at h1; exact h1
    refine w_gI H (o := 5) (w := F 5 29) rfl (H.perm 5 rfl) rfl rfl rfl (fun _ => rfl) (hS10 5 29 rfl) ?_
    refine w_icmple (t := 67) rfl rfl (show inr ((z12 / 8)) by omega) (show inr (F 5 29) by omega) (fun b15 => ?_) (fun b15 => ?_)
    · refine Ew_of (pc' := 68) (fun _ => x_aload_n rfl (rk_o (rk_o (rk_o (rk_o (rfl) rfl rfl) rfl rfl) rfl rfl) rfl rfl)) ?_
      refine Ew_of (pc' := 69) (fun _ => x_dup rfl rfl) ?_
      refine w_gI H (o := 5) (w := u5_25) rfl (H.perm 5 rfl) rfl rfl rfl (fun _ => rfl) ((hS10 5 25 rfl).trans (eu5_25)) ?_
      refine Ew_of (pc' := 73) (fun _ => x_iconst rfl) ?_
      refine w_iadd rfl ?_
      refine w_pI H (o := 5) rfl rfl (H.perm 5 rfl) rfl rfl rfl (fun _ => rfl) rfl (show (0 : Int) ≤ (u5_25 + 3) ∧ (u5_25 + 3) ≤ 65536 by omega) (fun σ H => ?_)
      refine Ew_of (pc' := 78) (fun _ => x_iload_n rfl (rk_o (rk_s) rfl rfl)) ?_
      refine Ew_of (pc' := 79) (fun _ => x_iconst rfl) ?_
      have hc88 : ∀ (tc88_0 : Int), ∀ (ls : rO) (σ : rS) (F_c88 : hF) (A_c88 : hA) , rlook ls 0 = some (.ref (D 5)) → rlook ls 1 = some (I (u5_25)) → rlook ls 3 = some (I (((z12 / 2) % 4))) → rlook ls 4 = some (I ((z12 / 8))) → HS σ0 σ D N F_c88 A_c88 → SF [] (updF F8 5 25 ((u5_25 + 3))) F_c88 → SA [] A9 A_c88 → (inr (tc88_0)) → (((((z12 / 2) % 4)) ≠ (1) ∧ (tc88_0) = ((z12 / 8))) ∨ ((((z12 / 2) % 4)) = (1) ∧ (tc88_0) = (1))) → Ew 288 (d + 7) 88 ls [I (tc88_0)] σ c s Q := by
       as_aux_lemma =>
        intro tc88_0 ls σ F_c88 A_c88  lc88_0 lc88_1 lc88_3 lc88_4 H hS_c88 hA_c88   jc88_0 jc88_1
        refine Ew_of (pc' := 90) (fun _ => x_istore rfl) ?_
        refine Ew_of (pc' := 91) (fun _ => x_aload_n rfl (rk_o (lc88_0) rfl rfl)) ?_
        refine Ew_of (pc' := 93) (fun _ => x_iload rfl rk_s) ?_
        refine w_inv H (o := 5) rfl rfl rfl (H.perm 5 rfl) rfl rfl (by rfl) (M283 H (u1_1) ((((hS_c88 1 1 rfl).trans (hS10 1 1 rfl)).trans (eu1_1))) ((u5_25 + 3)) ((hS_c88 5 25 rfl)) (show inr (tc88_0) by omega) (show 0 ≤ (tc88_0) ∧ (tc88_0) ≤ 1000000 by omega) (fun z20 σ F16 A17 H hS18 hA19 pz20_0 pz20_1 => ⟨rretB rfl pz20_0, ?_⟩))
        refine w_ifne (t := 101) rfl rfl (show inr (z20) by omega) (fun b21 => ?_) (fun b21 => ?_)
        · refine Ew_of (pc' := 102) (fun _ => x_aload_n rfl (rk_o (lc88_0) rfl rfl)) ?_
          refine w_gI H (o := 5) (w := (u5_25 + 3)) rfl (H.perm 5 rfl) rfl rfl rfl (fun _ => rfl) ((hS18 5 25 rfl).trans (hS_c88 5 25 rfl)) ?_
          refine Ew_of (pc' := 107) (fun _ => x_iload rfl rk_s) ?_
          refine w_iadd rfl ?_
          refine Ew_of (pc' := 110) (fun _ => x_istore rfl) ?_
          have hc210 : ∀ (ls : rO) (σ : rS) (F_c210 : hF) (A_c210 : hA) , rlook ls 0 = some (.ref (D 5)) → rlook ls 6 = some (I (((u5_25 + 3) + tc88_0))) → HS σ0 σ D N F_c210 A_c210 → SF [(5, 10), (5, 19), (5, 25), (5, 27), (5, 30), (5, 31), (5, 34), (5, 39), (5, 40), (5, 41), (5, 42), (5, 43), (5, 44), (5, 45)] F16 F_c210 → SA [31, 32, 33, 34, 35, 36, 37, 38, 39, 40, 41, 42, 43, 44, 45, 46] A17 A_c210 → ∀ yc210_5_27 : Int, F_c210 5 27 = yc210_5_27 → ∀ wc210_34 : Int → Int, A_c210 34 = wc210_34 → ∀ wc210_35 : Int → Int, A_c210 35 = wc210_35 → ∀ wc210_36 : Int → Int, A_c210 36 = wc210_36 → ∀ wc210_37 : Int → Int, A_c210 37 = wc210_37 → ∀ wc210_38 : Int → Int, A_c210 38 = wc210_38 → ((u5_28) ≤ (yc210_5_27) ∧ (yc210_5_27) ≤ (u5_26)) → ((u5_27) ≤ (yc210_5_27)) → (RT ((wc210_35)) ((wc210_36)) ((wc210_37)) ((wc210_34))) → (1 ≤ ((wc210_38)) 0 ∧ 1 ≤ ((wc210_38)) 1 ∧ 1 ≤ ((wc210_38)) 2) → Ew 288 (d + 7) 210 ls [] σ c s Q := by
           as_aux_lemma =>
            intro  ls σ F_c210 A_c210  lc210_0 lc210_6 H hS_c210 hA_c210 yc210_5_27 eyc210_5_27 wc210_34 ewc210_34 wc210_35 ewc210_35 wc210_36 ewc210_36 wc210_37 ewc210_37 wc210_38 ewc210_38 jc210_0 jc210_1 jc210_2 jc210_3
            have r22 : (0 : Int) ≤ yc210_5_27 ∧ yc210_5_27 ≤ 65536 := by have h1 : (0 : Int) ≤ F_c210 5 27 ∧ F_c210 5 27 ≤ 65536 := H.frng 5 27; rw [show F_c210 5 27 = yc210_5_27 from (eyc210_5_27)] at h1; exact h1
            refine Ew_of (pc' := 211) (fun _ => x_aload_n rfl lc210_0) ?_
            refine Ew_of (pc' := 213) (fun _ => x_iload rfl lc210_6) ?_
            refine w_pI H (o := 5) rfl rfl (H.perm 5 rfl) rfl rfl rfl (fun _ => rfl) rfl (show (0 : Int) ≤ ((u5_25 + 3) + tc88_0) ∧ ((u5_25 + 3) + tc88_0) ≤ 65536 by omega) (fun σ H => ?_)
            refine Ew_of (pc' := 217) (fun _ => x_iconst rfl) ?_
            exact w_ireturn rfl (k (1) σ _ _ H (SF_upd (SF_trans (SF_trans (SF_trans (SF_upd (SF_trans (SF_upd (SF_refl) rfl) hS10 (any_sub rfl)) rfl) hS_c88 (any_sub rfl)) hS18 (any_sub rfl)) hS_c210 (any_sub rfl)) rfl) (SA_trans (SA_trans (SA_trans (SA_trans (SA_refl) hA11 (any_subA rfl)) hA_c88 (any_subA rfl)) hA19 (any_subA rfl)) hA_c210 (any_subA rfl)) (((u5_25 + 3) + tc88_0)) (rfl) (yc210_5_27) ((eyc210_5_27)) (wc210_34) (ewc210_34) (wc210_35) (ewc210_35) (wc210_36) (ewc210_36) (wc210_37) (ewc210_37) (wc210_38) (ewc210_38) (show (1) = 0 ∨ (1) = 1 by omega) (show RT ((wc210_35)) ((wc210_36)) ((wc210_37)) ((wc210_34)) by assumption) (show (u5_27) ≤ (yc210_5_27) ∧ (yc210_5_27) ≤ (u5_26) by omega) (show (1) = 1 → 1 ≤ ((wc210_38)) 0 ∧ 1 ≤ ((wc210_38)) 1 ∧ 1 ≤ ((wc210_38)) 2 by omega) (show (1) = 1 → (u5_25) + 3 ≤ (((u5_25 + 3) + tc88_0)) ∧ (((u5_25 + 3) + tc88_0)) ≤ (u1_1) by omega))
          refine Ew_of (pc' := 111) (fun _ => x_iload_n rfl (rk_o (rk_o (lc88_3) rfl rfl) rfl rfl)) ?_
          refine Ew_of (pc' := 112) (fun _ => x_iconst rfl) ?_
          refine w_icmpne (t := 126) rfl rfl (show inr (((z12 / 2) % 4)) by omega) (show inr (2) by omega) (fun b23 => ?_) (fun b23 => ?_)
          · refine Ew_of (pc' := 128) (fun _ => x_iload rfl (rk_o (rk_o (lc88_4) rfl rfl) rfl rfl)) ?_
            refine Ew_of (pc' := 129) (fun _ => x_aload_n rfl (rk_o (rk_o (lc88_0) rfl rfl) rfl rfl)) ?_
            refine w_gI H (o := 5) (w := u5_26) rfl (H.perm 5 rfl) rfl rfl rfl (fun _ => rfl) ((((hS18 5 26 rfl).trans (hS_c88 5 26 rfl)).trans (hS10 5 26 rfl)).trans (eu5_26)) ?_
            refine Ew_of (pc' := 133) (fun _ => x_aload_n rfl (rk_o (rk_o (lc88_0) rfl rfl) rfl rfl)) ?_
            refine w_gI H (o := 5) (w := u5_27) rfl (H.perm 5 rfl) rfl rfl rfl (fun _ => rfl) ((((hS18 5 27 rfl).trans (hS_c88 5 27 rfl)).trans (hS10 5 27 rfl)).trans (eu5_27)) ?_
            refine w_isub rfl ?_
            refine w_icmple (t := 148) rfl rfl (show inr ((z12 / 8)) by omega) (show inr ((u5_26 - u5_27)) by omega) (fun b24 => ?_) (fun b24 => ?_)
            · refine Ew_of (pc' := 149) (fun _ => x_iconst rfl) ?_
              refine Ew_of (pc' := 151) (fun _ => x_istore rfl) ?_
              suffices hl151 : ∀ (m : Nat), ∀ (ls : rO) (σ : rS) (F_151 : hF) (A_151 : hA) (x151_7 : Int), rlook ls 0 = some (.ref (D 5)) → rlook ls 3 = some (I (((z12 / 2) % 4))) → rlook ls 4 = some (I ((z12 / 8))) → rlook ls 6 = some (I (((u5_25 + 3) + tc88_0))) → rlook ls 7 = some (I (x151_7)) → HS σ0 σ D N F_151 A_151 → SF [(5, 27)] F16 F_151 → SA [45] A17 A_151 → ∀ y151_5_27 : Int, F_151 5 27 = y151_5_27 → (inr (x151_7)) → ((0) ≤ (x151_7)) → ((x151_7) ≤ (0) ∨ (x151_7) ≤ (((z12 / 8)))) → ((y151_5_27) = (u5_27) + (x151_7)) → ((((z12 / 8))) - (x151_7)).toNat = m → Ew 288 (d + 7) 151 ls [] σ c s Q from
                hl151 _ _ σ _ _ (0) (rk_o (rk_o (rk_o (lc88_0) rfl rfl) rfl rfl) rfl rfl) (rk_o (rk_o (rk_o (lc88_3) rfl rfl) rfl rfl) rfl rfl) (rk_o (rk_o (rk_o (lc88_4) rfl rfl) rfl rfl) rfl rfl) (rk_o (rk_s) rfl rfl) (rk_s) H (SF_refl) (SA_refl) (u5_27) (((((hS18 5 27 rfl).trans (hS_c88 5 27 rfl)).trans (hS10 5 27 rfl)).trans (eu5_27)))  (show inr (0) by omega) (show (0) ≤ (0) by omega) (show (0) ≤ (0) ∨ (0) ≤ (((z12 / 8))) by omega) (show (u5_27) = (u5_27) + (0) by omega) rfl
              as_aux_lemma =>
              intro m
              induction m using Nat.strongRecOn with
              | _ m ih151 =>
                intro ls σ F_151 A_151 x151_7 l151_0 l151_3 l151_4 l151_6 l151_7 H hS_151 hA_151 y151_5_27 ey151_5_27  j151_0 j151_1 j151_2 j151_3 hm151
                have r25 : (0 : Int) ≤ y151_5_27 ∧ y151_5_27 ≤ 65536 := by have h1 : (0 : Int) ≤ F_151 5 27 ∧ F_151 5 27 ≤ 65536 := H.frng 5 27; rw [show F_151 5 27 = y151_5_27 from (ey151_5_27)] at h1; exact h1
                refine Ew_of (pc' := 153) (fun _ => x_iload rfl l151_7) ?_
                refine Ew_of (pc' := 155) (fun _ => x_iload rfl l151_4) ?_
                refine w_icmpge (t := 210) rfl rfl (show inr (x151_7) by omega) (show inr ((z12 / 8)) by omega) (fun b26 => ?_) (fun b26 => ?_)
                · exact hc210  _ σ _ _  (l151_0) (l151_6) H (SF_trans (SF_refl) hS_151 (any_sub rfl)) (SA_trans (SA_refl) hA_151 (any_subA rfl)) (y151_5_27) ((ey151_5_27)) (w34) ((funext (hA_151 34 rfl)).trans ((funext (hA19 34 rfl)).trans ((funext (hA_c88 34 rfl)).trans ((funext (hA11 34 rfl)).trans (ew34))))) (w35) ((funext (hA_151 35 rfl)).trans ((funext (hA19 35 rfl)).trans ((funext (hA_c88 35 rfl)).trans ((funext (hA11 35 rfl)).trans (ew35))))) (w36) ((funext (hA_151 36 rfl)).trans ((funext (hA19 36 rfl)).trans ((funext (hA_c88 36 rfl)).trans ((funext (hA11 36 rfl)).trans (ew36))))) (w37) ((funext (hA_151 37 rfl)).trans ((funext (hA19 37 rfl)).trans ((funext (hA_c88 37 rfl)).trans ((funext (hA11 37 rfl)).trans (ew37))))) (w38) ((funext (hA_151 38 rfl)).trans ((funext (hA19 38 rfl)).trans ((funext (hA_c88 38 rfl)).trans ((funext (hA11 38 rfl)).trans (ew38))))) (show (u5_28) ≤ (y151_5_27) ∧ (y151_5_27) ≤ (u5_26) by omega) (show (u5_27) ≤ (y151_5_27) by omega) (show RT ((w35)) ((w36)) ((w37)) ((w34)) by assumption) (show 1 ≤ ((w38)) 0 ∧ 1 ≤ ((w38)) 1 ∧ 1 ≤ ((w38)) 2 by omega)
                · refine Ew_of (pc' := 159) (fun _ => x_aload_n rfl l151_0) ?_
                  refine w_gT H (o := 5) (t := 45) rfl (H.perm 5 rfl) rfl rfl rfl rfl rfl rfl ?_
                  refine Ew_of (pc' := 163) (fun _ => x_aload_n rfl l151_0) ?_
                  refine w_gI H (o := 5) (w := y151_5_27) rfl (H.perm 5 rfl) rfl rfl rfl (fun _ => rfl) (ey151_5_27) ?_
                  refine Ew_of (pc' := 167) (fun _ => x_aload_n rfl l151_0) ?_
                  refine w_gT H (o := 5) (t := 1) rfl (H.perm 5 rfl) rfl rfl rfl rfl rfl rfl ?_
                  refine w_gT H (o := 1) (t := 14) rfl (H.perm 1 rfl) rfl rfl rfl rfl rfl rfl ?_
                  refine Ew_of (pc' := 174) (fun _ => x_iload_n rfl l151_3) ?_
                  refine Ew_of (pc' := 175) (fun _ => x_iconst rfl) ?_
                  have hc192 : ∀ (tc192_0 : Int), ∀ (ls : rO) (σ : rS) (F_c192 : hF) (A_c192 : hA) , rlook ls 0 = some (.ref (D 5)) → rlook ls 3 = some (I (((z12 / 2) % 4))) → rlook ls 4 = some (I ((z12 / 8))) → rlook ls 6 = some (I (((u5_25 + 3) + tc88_0))) → rlook ls 7 = some (I (x151_7)) → HS σ0 σ D N F_c192 A_c192 → SF [] F_151 F_c192 → SA [] A_151 A_c192 → (inr (tc192_0)) → (((((z12 / 2) % 4)) ≠ (1) ∧ 0 ≤ ((u5_25 + 3)) ∧ ((u5_25 + 3)) ≤ 65536 ∧ (tc192_0) = (((u5_25 + 3) + x151_7))) ∨ ((((z12 / 2) % 4)) = (1) ∧ 0 ≤ ((u5_25 + 3)) ∧ ((u5_25 + 3)) ≤ 65536 ∧ (tc192_0) = ((u5_25 + 3)))) → Ew 288 (d + 7) 192 ls [I (tc192_0), .ref (D 14), I (y151_5_27), .ref (D 45)] σ c s Q := by
                   as_aux_lemma =>
                    intro tc192_0 ls σ F_c192 A_c192  lc192_0 lc192_3 lc192_4 lc192_6 lc192_7 H hS_c192 hA_c192   jc192_0 jc192_1
                    refine w_lI H (o := 14) (n := 65536) rfl (H.perm 14 rfl) rfl rfl (H.fix 14 rfl rfl) (show 0 ≤ tc192_0 ∧ tc192_0 < ((65536 : Nat) : Int) by omega) (by decide) (fun v27 ev27 qv27 => ?_)
                    have qv27 : (0 : Int) ≤ v27 ∧ v27 ≤ 255 := qv27
                    have ev27 : (A 14) (tc192_0) = v27 := (congrFun ((funext (hA_c192 14 rfl)).trans ((funext (hA_151 14 rfl)).trans ((funext (hA19 14 rfl)).trans ((funext (hA_c88 14 rfl)).trans (funext (hA11 14 rfl)))))) (tc192_0)).symm.trans ev27
                    refine w_sI H (o := 45) (n := 65536) rfl (H.perm 45 rfl) rfl rfl (H.fix 45 rfl rfl) (show 0 ≤ y151_5_27 ∧ y151_5_27 < ((65536 : Nat) : Int) by omega) (by decide) (show (0 : Int) ≤ v27 ∧ v27 ≤ 255 by omega) (fun σ H => ?_)
                    refine Ew_of (pc' := 195) (fun _ => x_aload_n rfl lc192_0) ?_
                    refine Ew_of (pc' := 196) (fun _ => x_dup rfl rfl) ?_
                    refine w_gI H (o := 5) (w := y151_5_27) rfl (H.perm 5 rfl) rfl rfl rfl (fun _ => rfl) ((hS_c192 5 27 rfl).trans (ey151_5_27)) ?_
                    refine Ew_of (pc' := 200) (fun _ => x_iconst rfl) ?_
                    refine w_iadd rfl ?_
                    refine w_pI H (o := 5) rfl rfl (H.perm 5 rfl) rfl rfl rfl (fun _ => rfl) rfl (show (0 : Int) ≤ (y151_5_27 + 1) ∧ (y151_5_27 + 1) ≤ 65536 by omega) (fun σ H => ?_)
                    refine Ew_of (pc' := 207) (fun _ => x_iinc (len := 3) rfl (lc192_7)) ?_
                    refine Ew_of (pc' := 151) (fun _ => x_goto rfl rfl) ?_
                    exact ih151 _ (by omega) _ σ _ _ ((x151_7 + 1)) (rk_o (lc192_0) rfl rfl) (rk_o (lc192_3) rfl rfl) (rk_o (lc192_4) rfl rfl) (rk_o (lc192_6) rfl rfl) (rk_s) H (SF_upd (SF_trans (hS_151) hS_c192 (any_sub rfl)) rfl) (SA_upd (SA_trans (hA_151) hA_c192 (any_subA rfl)) rfl) ((y151_5_27 + 1)) (rfl)  (show inr ((x151_7 + 1)) by omega) (show (0) ≤ ((x151_7 + 1)) by omega) (show ((x151_7 + 1)) ≤ (0) ∨ ((x151_7 + 1)) ≤ (((z12 / 8))) by omega) (show ((y151_5_27 + 1)) = (u5_27) + ((x151_7 + 1)) by omega) rfl
                  refine w_icmpne (t := 185) rfl rfl (show inr (((z12 / 2) % 4)) by omega) (show inr (1) by omega) (fun b28 => ?_) (fun b28 => ?_)
                  · refine Ew_of (pc' := 186) (fun _ => x_aload_n rfl l151_0) ?_
                    refine w_gI H (o := 5) (w := (u5_25 + 3)) rfl (H.perm 5 rfl) rfl rfl rfl (fun _ => rfl) (((hS_151 5 25 rfl).trans (hS18 5 25 rfl)).trans (hS_c88 5 25 rfl)) ?_
                    refine Ew_of (pc' := 191) (fun _ => x_iload rfl l151_7) ?_
                    refine w_iadd rfl ?_
                    exact hc192 (((u5_25 + 3) + x151_7)) _ σ _ _  (l151_0) (l151_3) (l151_4) (l151_6) (l151_7) H (SF_refl) (SA_refl)   (show inr (((u5_25 + 3) + x151_7)) by omega) (show ((((z12 / 2) % 4)) ≠ (1) ∧ 0 ≤ ((u5_25 + 3)) ∧ ((u5_25 + 3)) ≤ 65536 ∧ (((u5_25 + 3) + x151_7)) = (((u5_25 + 3) + x151_7))) ∨ ((((z12 / 2) % 4)) = (1) ∧ 0 ≤ ((u5_25 + 3)) ∧ ((u5_25 + 3)) ≤ 65536 ∧ (((u5_25 + 3) + x151_7)) = ((u5_25 + 3))) by omega)
                  · refine Ew_of (pc' := 179) (fun _ => x_aload_n rfl l151_0) ?_
                    refine w_gI H (o := 5) (w := (u5_25 + 3)) rfl (H.perm 5 rfl) rfl rfl rfl (fun _ => rfl) (((hS_151 5 25 rfl).trans (hS18 5 25 rfl)).trans (hS_c88 5 25 rfl)) ?_
                    refine Ew_of (pc' := 192) (fun _ => x_goto rfl rfl) ?_
                    exact hc192 ((u5_25 + 3)) _ σ _ _  (l151_0) (l151_3) (l151_4) (l151_6) (l151_7) H (SF_refl) (SA_refl)   (show inr ((u5_25 + 3)) by omega) (show ((((z12 / 2) % 4)) ≠ (1) ∧ 0 ≤ ((u5_25 + 3)) ∧ ((u5_25 + 3)) ≤ 65536 ∧ ((u5_25 + 3)) = (((u5_25 + 3) + x151_7))) ∨ ((((z12 / 2) % 4)) = (1) ∧ 0 ≤ ((u5_25 + 3)) ∧ ((u5_25 + 3)) ≤ 65536 ∧ ((u5_25 + 3)) = ((u5_25 + 3))) by omega)
            · refine Ew_of (pc' := 141) (fun _ => x_aload_n rfl (rk_o (rk_o (lc88_0) rfl rfl) rfl rfl)) ?_
              refine Ew_of (pc' := 143) (fun _ => x_bipush (z := 7) rfl (by decide)) ?_
              refine Ew_of (pc' := 144) (fun _ => x_iload_n rfl (rk_o (rk_o (lc88_1) rfl rfl) rfl rfl)) ?_
              refine w_inv H (o := 5) rfl rfl rfl (H.perm 5 rfl) rfl rfl (by rfl) (M282 H (show inr (7) by omega) (show inr (u5_25) by omega) (show 0 ≤ (7) ∧ (7) ≤ 20 by omega) (show 0 ≤ (u5_25) ∧ (u5_25) ≤ 65536 by omega) (fun z33 σ F29 A30 H hS31 hA32 pz33_0 pz33_1 => ⟨rretB rfl pz33_0, ?_⟩))
              exact w_ireturn rfl (k (z33) σ _ _ H (SF_trans (SF_trans (SF_trans (SF_upd (SF_trans (SF_upd (SF_refl) rfl) hS10 (any_sub rfl)) rfl) hS_c88 (any_sub rfl)) hS18 (any_sub rfl)) hS31 (any_sub rfl)) (SA_trans (SA_trans (SA_trans (SA_trans (SA_refl) hA11 (any_subA rfl)) hA_c88 (any_subA rfl)) hA19 (any_subA rfl)) hA32 (any_subA rfl)) ((u5_25 + 3)) ((((hS31 5 25 rfl).trans (hS18 5 25 rfl)).trans (hS_c88 5 25 rfl))) (u5_27) ((((((hS31 5 27 rfl).trans (hS18 5 27 rfl)).trans (hS_c88 5 27 rfl)).trans (hS10 5 27 rfl)).trans (eu5_27))) (w34) ((funext (hA32 34 rfl)).trans ((funext (hA19 34 rfl)).trans ((funext (hA_c88 34 rfl)).trans ((funext (hA11 34 rfl)).trans (ew34))))) (w35) ((funext (hA32 35 rfl)).trans ((funext (hA19 35 rfl)).trans ((funext (hA_c88 35 rfl)).trans ((funext (hA11 35 rfl)).trans (ew35))))) (w36) ((funext (hA32 36 rfl)).trans ((funext (hA19 36 rfl)).trans ((funext (hA_c88 36 rfl)).trans ((funext (hA11 36 rfl)).trans (ew36))))) (w37) ((funext (hA32 37 rfl)).trans ((funext (hA19 37 rfl)).trans ((funext (hA_c88 37 rfl)).trans ((funext (hA11 37 rfl)).trans (ew37))))) (w38) ((funext (hA32 38 rfl)).trans ((funext (hA19 38 rfl)).trans ((funext (hA_c88 38 rfl)).trans ((funext (hA11 38 rfl)).trans (ew38))))) (show (z33) = 0 ∨ (z33) = 1 by omega) (show RT ((w35)) ((w36)) ((w37)) ((w34)) by assumption) (show (u5_27) ≤ (u5_27) ∧ (u5_27) ≤ (u5_26) by omega) (show (z33) = 1 → 1 ≤ ((w38)) 0 ∧ 1 ≤ ((w38)) 1 ∧ 1 ≤ ((w38)) 2 by omega) (show (z33) = 1 → (u5_25) + 3 ≤ ((u5_25 + 3)) ∧ ((u5_25 + 3)) ≤ (u1_1) by omega))
          · refine Ew_of (pc' := 116) (fun _ => x_aload_n rfl (rk_o (rk_o (lc88_0) rfl rfl) rfl rfl)) ?_
            refine Ew_of (pc' := 118) (fun _ => x_iload rfl rk_s) ?_
            refine w_inv H (o := 5) rfl rfl rfl (H.perm 5 rfl) rfl rfl (by rfl) (M289 H (u1_1) (((((hS18 1 1 rfl).trans (hS_c88 1 1 rfl)).trans (hS10 1 1 rfl)).trans (eu1_1))) ((u5_25 + 3)) (((hS18 5 25 rfl).trans (hS_c88 5 25 rfl))) (u5_26) (((((hS18 5 26 rfl).trans (hS_c88 5 26 rfl)).trans (hS10 5 26 rfl)).trans (eu5_26))) (u5_27) (((((hS18 5 27 rfl).trans (hS_c88 5 27 rfl)).trans (hS10 5 27 rfl)).trans (eu5_27))) (u5_28) (((((hS18 5 28 rfl).trans (hS_c88 5 28 rfl)).trans (hS10 5 28 rfl)).trans (eu5_28))) (w34) ((funext (hA19 34 rfl)).trans ((funext (hA_c88 34 rfl)).trans ((funext (hA11 34 rfl)).trans (ew34)))) (w35) ((funext (hA19 35 rfl)).trans ((funext (hA_c88 35 rfl)).trans ((funext (hA11 35 rfl)).trans (ew35)))) (w36) ((funext (hA19 36 rfl)).trans ((funext (hA_c88 36 rfl)).trans ((funext (hA11 36 rfl)).trans (ew36)))) (w37) ((funext (hA19 37 rfl)).trans ((funext (hA_c88 37 rfl)).trans ((funext (hA11 37 rfl)).trans (ew37)))) (w38) ((funext (hA19 38 rfl)).trans ((funext (hA_c88 38 rfl)).trans ((funext (hA11 38 rfl)).trans (ew38)))) (show inr (((u5_25 + 3) + tc88_0)) by omega) (show 0 ≤ ((u5_25 + 3)) ∧ ((u5_25 + 3)) ≤ (((u5_25 + 3) + tc88_0)) ∧ (((u5_25 + 3) + tc88_0)) ≤ (u1_1) by omega) (show RT ((w35)) ((w36)) ((w37)) ((w34)) by assumption) (show 1 ≤ ((w38)) 0 ∧ 1 ≤ ((w38)) 1 ∧ 1 ≤ ((w38)) 2 by omega) (show (u5_28) ≤ (u5_27) ∧ (u5_27) ≤ (u5_26) by omega) (fun z38 σ F34 A35 H hS36 hA37 y39 ey40 wq41 ewq42 wq43 ewq44 wq45 ewq46 wq47 ewq48 wq49 ewq50 pz38_0 pz38_1 pz38_2 pz38_3 => ⟨rretB rfl pz38_0, ?_⟩))
            have r51 : (0 : Int) ≤ y39 ∧ y39 ≤ 65536 := by have h1 : (0 : Int) ≤ F34 5 27 ∧ F34 5 27 ≤ 65536 := H.frng 5 27; rw [show F34 5 27 = y39 from (ey40)] at h1; exact h1
            refine w_ifne (t := 210) rfl rfl (show inr (z38) by omega) (fun b52 => ?_) (fun b52 => ?_)
            · exact hc210  _ σ _ _  (rk_o (rk_o (lc88_0) rfl rfl) rfl rfl) (rk_s) H (SF_trans (SF_refl) hS36 (any_sub rfl)) (SA_trans (SA_refl) hA37 (any_subA rfl)) (y39) ((ey40)) (wq41) (ewq42) (wq43) (ewq44) (wq45) (ewq46) (wq47) (ewq48) (wq49) (ewq50) (show (u5_28) ≤ (y39) ∧ (y39) ≤ (u5_26) by omega) (show (u5_27) ≤ (y39) by omega) (show RT ((wq43)) ((wq45)) ((wq47)) ((wq41)) by assumption) (show 1 ≤ ((wq49)) 0 ∧ 1 ≤ ((wq49)) 1 ∧ 1 ≤ ((wq49)) 2 by omega)
            · refine Ew_of (pc' := 125) (fun _ => x_iconst rfl) ?_
              have r53 : (0 : Int) ≤ F34 5 25 ∧ F34 5 25 ≤ 65536 := by have h1 : (0 : Int) ≤ F34 5 25 ∧ F34 5 25 ≤ 65536 := H.frng 5 25; rw [show F34 5 25 = F34 5 25 from rfl] at h1; exact h1
              exact w_ireturn rfl (k (0) σ _ _ H (SF_trans (SF_trans (SF_trans (SF_upd (SF_trans (SF_upd (SF_refl) rfl) hS10 (any_sub rfl)) rfl) hS_c88 (any_sub rfl)) hS18 (any_sub rfl)) hS36 (any_sub rfl)) (SA_trans (SA_trans (SA_trans (SA_trans (SA_refl) hA11 (any_subA rfl)) hA_c88 (any_subA rfl)) hA19 (any_subA rfl)) hA37 (any_subA rfl)) (F34 5 25) (rfl) (y39) ((ey40)) (wq41) (ewq42) (wq43) (ewq44) (wq45) (ewq46) (wq47) (ewq48) (wq49) (ewq50) (show (0) = 0 ∨ (0) = 1 by omega) (show RT ((wq43)) ((wq45)) ((wq47)) ((wq41)) by assumption) (show (u5_27) ≤ (y39) ∧ (y39) ≤ (u5_26) by omega) (show (0) = 1 → 1 ≤ ((wq49)) 0 ∧ 1 ≤ ((wq49)) 1 ∧ 1 ≤ ((wq49)) 2 by omega) (show (0) = 1 → (u5_25) + 3 ≤ (F34 5 25) ∧ (F34 5 25) ≤ (u1_1) by omega))
        · refine Ew_of (pc' := 100) (fun _ => x_iconst rfl) ?_
          exact w_ireturn rfl (k (0) σ _ _ H (SF_trans (SF_trans (SF_upd (SF_trans (SF_upd (SF_refl) rfl) hS10 (any_sub rfl)) rfl) hS_c88 (any_sub rfl)) hS18 (any_sub rfl)) (SA_trans (SA_trans (SA_trans (SA_refl) hA11 (any_subA rfl)) hA_c88 (any_subA rfl)) hA19 (any_subA rfl)) ((u5_25 + 3)) (((hS18 5 25 rfl).trans (hS_c88 5 25 rfl))) (u5_27) (((((hS18 5 27 rfl).trans (hS_c88 5 27 rfl)).trans (hS10 5 27 rfl)).trans (eu5_27))) (w34) ((funext (hA19 34 rfl)).trans ((funext (hA_c88 34 rfl)).trans ((funext (hA11 34 rfl)).trans (ew34)))) (w35) ((funext (hA19 35 rfl)).trans ((funext (hA_c88 35 rfl)).trans ((funext (hA11 35 rfl)).trans (ew35)))) (w36) ((funext (hA19 36 rfl)).trans ((funext (hA_c88 36 rfl)).trans ((funext (hA11 36 rfl)).trans (ew36)))) (w37) ((funext (hA19 37 rfl)).trans ((funext (hA_c88 37 rfl)).trans ((funext (hA11 37 rfl)).trans (ew37)))) (w38) ((funext (hA19 38 rfl)).trans ((funext (hA_c88 38 rfl)).trans ((funext (hA11 38 rfl)).trans (ew38)))) (show (0) = 0 ∨ (0) = 1 by omega) (show RT ((w35)) ((w36)) ((w37)) ((w34)) by assumption) (show (u5_27) ≤ (u5_27) ∧ (u5_27) ≤ (u5_26) by omega) (show (0) = 1 → 1 ≤ ((w38)) 0 ∧ 1 ≤ ((w38)) 1 ∧ 1 ≤ ((w38)) 2 by omega) (show (0) = 1 → (u5_25) + 3 ≤ ((u5_25 + 3)) ∧ ((u5_25 + 3)) ≤ (u1_1) by omega))
      refine w_icmpne (t := 86) rfl rfl (show inr (((z12 / 2) % 4)) by omega) (show inr (1) by omega) (fun b54 => ?_) (fun b54 => ?_)
      · refine Ew_of (pc' := 88) (fun _ => x_iload rfl rk_s) ?_
        exact hc88 ((z12 / 8)) _ σ _ _  (rk_o (rk_o (rk_o (rk_o (rfl) rfl rfl) rfl rfl) rfl rfl) rfl rfl) (rk_o (rk_o (rk_o (rk_s) rfl rfl) rfl rfl) rfl rfl) (rk_o (rk_s) rfl rfl) (rk_s) H (SF_refl) (SA_refl)   (show inr ((z12 / 8)) by omega) (show ((((z12 / 2) % 4)) ≠ (1) ∧ ((z12 / 8)) = ((z12 / 8))) ∨ ((((z12 / 2) % 4)) = (1) ∧ ((z12 / 8)) = (1)) by omega)
      · refine Ew_of (pc' := 83) (fun _ => x_iconst rfl) ?_
        refine Ew_of (pc' := 88) (fun _ => x_goto rfl rfl) ?_
        exact hc88 (1) _ σ _ _  (rk_o (rk_o (rk_o (rk_o (rfl) rfl rfl) rfl rfl) rfl rfl) rfl rfl) (rk_o (rk_o (rk_o (rk_s) rfl rfl) rfl rfl) rfl rfl) (rk_o (rk_s) rfl rfl) (rk_s) H (SF_refl) (SA_refl)   (show inr (1) by omega) (show ((((z12 / 2) % 4)) ≠ (1) ∧ (1) = ((z12 / 8))) ∨ ((((z12 / 2) % 4)) = (1) ∧ (1) = (1)) by omega)
    · refine Ew_of (pc' := 60) (fun _ => x_aload_n rfl (rk_o (rk_o (rk_o (rk_o (rfl) rfl rfl) rfl rfl) rfl rfl) rfl rfl)) ?_
      refine Ew_of (pc' := 62) (fun _ => x_bipush (z := 6) rfl (by decide)) ?_
      refine Ew_of (pc' := 63) (fun _ => x_iload_n rfl (rk_o (rk_o (rk_o (rk_s) rfl rfl) rfl rfl) rfl rfl)) ?_
      refine w_inv H (o := 5) rfl rfl rfl (H.perm 5 rfl) rfl rfl (by rfl) (M282 H (show inr (6) by omega) (show inr (u5_25) by omega) (show 0 ≤ (6) ∧ (6) ≤ 20 by omega) (show 0 ≤ (u5_25) ∧ (u5_25) ≤ 65536 by omega) (fun z59 σ F55 A56 H hS57 hA58 pz59_0 pz59_1 => ⟨rretB rfl pz59_0, ?_⟩))
      exact w_ireturn rfl (k (z59) σ _ _ H (SF_trans (SF_trans (SF_upd (SF_refl) rfl) hS10 (any_sub rfl)) hS57 (any_sub rfl)) (SA_trans (SA_trans (SA_refl) hA11 (any_subA rfl)) hA58 (any_subA rfl)) (u5_25) ((((hS57 5 25 rfl).trans (hS10 5 25 rfl)).trans (eu5_25))) (u5_27) ((((hS57 5 27 rfl).trans (hS10 5 27 rfl)).trans (eu5_27))) (w34) ((funext (hA58 34 rfl)).trans ((funext (hA11 34 rfl)).trans (ew34))) (w35) ((funext (hA58 35 rfl)).trans ((funext (hA11 35 rfl)).trans (ew35))) (w36) ((funext (hA58 36 rfl)).trans ((funext (hA11 36 rfl)).trans (ew36))) (w37) ((funext (hA58 37 rfl)).trans ((funext (hA11 37 rfl)).trans (ew37))) (w38) ((funext (hA58 38 rfl)).trans ((funext (hA11 38 rfl)).trans (ew38))) (show (z59) = 0 ∨ (z59) = 1 by omega) (show RT ((w35)) ((w36)) ((w37)) ((w34)) by assumption) (show (u5_27) ≤ (u5_27) ∧ (u5_27) ≤ (u5_26) by omega) (show (z59) = 1 → 1 ≤ ((w38)) 0 ∧ 1 ≤ ((w38)) 1 ∧ 1 ≤ ((w38)) 2 by omega) (show (z59) = 1 → (u5_25) + 3 ≤ (u5_25) ∧ (u5_25) ≤ (u1_1) by omega))
  · refine Ew_of (pc' := 44) (fun _ => x_aload_n rfl (rk_o (rk_o (rk_o (rk_o (rfl) rfl rfl) rfl rfl) rfl rfl) rfl rfl)) ?_
    refine Ew_of (pc' := 45) (fun _ => x_iconst rfl) ?_
    refine Ew_of (pc' := 46) (fun _ => x_iload_n rfl (rk_o (rk_o (rk_o (rk_s) rfl rfl) rfl rfl) rfl rfl)) ?_
    refine w_inv H (o := 5) rfl rfl rfl (H.perm 5 rfl) rfl rfl (by rfl) (M282 H (show inr (5) by omega) (show inr (u5_25) by omega) (show 0 ≤ (5) ∧ (5) ≤ 20 by omega) (show 0 ≤ (u5_25) ∧ (u5_25) ≤ 65536 by omega) (fun z64 σ F60 A61 H hS62 hA63 pz64_0 pz64_1 => ⟨rretB rfl pz64_0, ?_⟩))
    exact w_ireturn rfl (k (z64) σ _ _ H (SF_trans (SF_trans (SF_upd (SF_refl) rfl) hS10 (any_sub rfl)) hS62 (any_sub rfl)) (SA_trans (SA_trans (SA_refl) hA11 (any_subA rfl)) hA63 (any_subA rfl)) (u5_25) ((((hS62 5 25 rfl).trans (hS10 5 25 rfl)).trans (eu5_25))) (u5_27) ((((hS62 5 27 rfl).trans (hS10 5 27 rfl)).trans (eu5_27))) (w34) ((funext (hA63 34 rfl)).trans ((funext (hA11 34 rfl)).trans (ew34))) (w35) ((funext (hA63 35 rfl)).trans ((funext (hA11 35 rfl)).trans (ew35))) (w36) ((funext (hA63 36 rfl)).trans ((funext (hA11 36 rfl)).trans (ew36))) (w37) ((funext (hA63 37 rfl)).trans ((funext (hA11 37 rfl)).trans (ew37))) (w38) ((funext (hA63 38 rfl)).trans ((funext (hA11 38 rfl)).trans (ew38))) (show (z64) = 0 ∨ (z64) = 1 by omega) (show RT ((w35)) ((w36)) ((w37)) ((w34)) by assumption) (show (u5_27) ≤ (u5_27) ∧ (u5_27) ≤ (u5_26) by omega) (show (z64) = 1 → 1 ≤ ((w38)) 0 ∧ 1 ≤ ((w38)) 1 ∧ 1 ≤ ((w38)) 2 by omega) (show (z64) = 1 → (u5_25) + 3 ≤ (u5_25) ∧ (u5_25) ≤ (u1_1) by omega))
/-- Reader.beginFrame -/
theorem M277 {σ0 σ : rS} {D N : Nat → Nat} {F : hF} {A : hA} {d c s : Nat} {Q : wQ} (H : HS σ0 σ D N F A)  (u5_4 : Int) (eu5_4 : F 5 4 = u5_4) (w27 : Int → Int) (ew27 : A 27 = w27) (w28 : Int → Int) (ew28 : A 28 = w28) (w29 : Int → Int) (ew29 : A 29 = w29) (w30 : Int → Int) (ew30 : A 30 = w30) (h0 : DI ((u5_4)) ((w27)) ((w28)) ((w29)) ((w30))) (k : ∀ σ F' A', HS σ0 σ D N F' A' → SF [(5, 10)] F F' → SA [31, 32, 33, 34, 35, 36, 37, 38, 41] A A' → ∀ v34 : Int → Int, A' 34 = v34 → ∀ v35 : Int → Int, A' 35 = v35 → ∀ v36 : Int → Int, A' 36 = v36 → ∀ v37 : Int → Int, A' 37 = v37 → ∀ v38 : Int → Int, A' 38 = v38 → (RT ((v35)) ((v36)) ((v37)) ((v34))) → (1 ≤ ((v38)) 0 ∧ 1 ≤ ((v38)) 1 ∧ 1 ≤ ((v38)) 2) → Q none σ c s) : Ew 277 (d + 3) 0 (rargs 0 [.ref (D 5)]) [] σ c s Q := by
  have r1 : (0 : Int) ≤ u5_4 ∧ u5_4 ≤ 1 := by have h1 : (0 : Int) ≤ F 5 4 ∧ F 5 4 ≤ 1 := H.frng 5 4; rw [show F 5 4 = u5_4 from (eu5_4)] at h1; exact h1
  refine Ew_of (pc' := 1) (fun _ => x_aload_n rfl rfl) ?_
  refine Ew_of (pc' := 2) (fun _ => x_iconst rfl) ?_
  refine w_pI H (o := 5) rfl rfl (H.perm 5 rfl) rfl rfl rfl (fun _ => rfl) rfl (show (0 : Int) ≤ 0 ∧ 0 ≤ 11 by omega) (fun σ H => ?_)
  refine Ew_of (pc' := 6) (fun _ => x_iconst rfl) ?_
  refine Ew_of (pc' := 7) (fun _ => x_istore_n rfl) ?_
  have : ∀ t, (0 : Int) ≤ t → t < 0 → ((A 34)) t < 0 := fun t a b => absurd b (by omega)
  suffices hl7 : ∀ (m : Nat), ∀ (ls : rO) (σ : rS) (F_7 : hF) (A_7 : hA) (x7_1 : Int), rlook ls 0 = some (.ref (D 5)) → rlook ls 1 = some (I (x7_1)) → HS σ0 σ D N F_7 A_7 → SF [] (updF F 5 10 (0)) F_7 → SA [34, 38] A A_7 → ∀ w7_34 : Int → Int, A_7 34 = w7_34 → ∀ w7_38 : Int → Int, A_7 38 = w7_38 → (inr (x7_1)) → ((0) ≤ (x7_1)) → ((x7_1) ≤ (0) ∨ (x7_1) ≤ (3)) → (∀ t, 0 ≤ t → t < (x7_1) → ((w7_34)) t < 0) → (0 < (x7_1) → 1 ≤ ((w7_38)) 0) → (1 < (x7_1) → 1 ≤ ((w7_38)) 1) → (2 < (x7_1) → 1 ≤ ((w7_38)) 2) → ((3) - (x7_1)).toNat = m → Ew 277 (d + 3) 7 ls [] σ c s Q from
    hl7 _ _ σ _ _ (0) (rk_o (rfl) rfl rfl) (rk_s) H (SF_refl) (SA_refl)  (A 34) (rfl) (A 38) (rfl) (show inr (0) by omega) (show (0) ≤ (0) by omega) (show (0) ≤ (0) ∨ (0) ≤ (3) by omega) (show ∀ t, 0 ≤ t → t < (0) → ((A 34)) t < 0 by assumption) (show 0 < (0) → 1 ≤ ((A 38)) 0 by omega) (show 1 < (0) → 1 ≤ ((A 38)) 1 by omega) (show 2 < (0) → 1 ≤ ((A 38)) 2 by omega) rfl
  as_aux_lemma =>
  intro m
  induction m using Nat.strongRecOn with
  | _ m ih7 =>
    intro ls σ F_7 A_7 x7_1 l7_0 l7_1 H hS_7 hA_7  w7_34 ew7_34 w7_38 ew7_38 j7_0 j7_1 j7_2 j7_3 j7_4 j7_5 j7_6 hm7
    refine Ew_of (pc' := 8) (fun _ => x_iload_n rfl l7_1) ?_
    refine Ew_of (pc' := 9) (fun _ => x_iconst rfl) ?_
    refine w_icmpge (t := 45) rfl rfl (show inr (x7_1) by omega) (show inr (3) by omega) (fun b2 => ?_) (fun b2 => ?_)
    · have : RT ((A 35)) ((A 36)) ((A 37)) ((w7_34)) := RT_neg (fun t a b => j7_3 t a (by omega))
      refine Ew_of (pc' := 46) (fun _ => x_aload_n rfl l7_0) ?_
      refine w_gI H (o := 5) (w := u5_4) rfl (H.perm 5 rfl) rfl rfl rfl (fun _ => rfl) ((hS_7 5 4 rfl).trans (eu5_4)) ?_
      refine w_ifne (t := 53) rfl rfl (show inr (u5_4) by omega) (fun b3 => ?_) (fun b3 => ?_)
      · refine Ew_of (pc' := 54) (fun _ => x_iconst rfl) ?_
        refine Ew_of (pc' := 55) (fun _ => x_istore_n rfl) ?_
        have hdi : DI ((u5_4)) ((w27)) ((w28)) ((w29)) ((w30)) := by assumption
        have hdi := hdi (by omega)
        obtain ⟨⟨T, hT⟩, hPS, hla⟩ := hdi
        have : ∀ i, (0 : Int) ≤ i → i < 0 → ((A 31)) i = ((w27)) i := fun i a b => absurd b (by omega)
        have : ∀ i, (0 : Int) ≤ i → i < 0 → ((w27)) i ≤ 0 := fun i a b => absurd b (by omega)
        have hT0 := hT.1
        suffices hl55 : ∀ (m : Nat), ∀ (ls : rO) (σ : rS) (F_55 : hF) (A_55 : hA) (x55_1 : Int), rlook ls 0 = some (.ref (D 5)) → rlook ls 1 = some (I (x55_1)) → HS σ0 σ D N F_55 A_55 → SF [(5, 10)] F_7 F_55 → SA [31] A_7 A_55 → ∀ y55_5_10 : Int, F_55 5 10 = y55_5_10 → ∀ w55_31 : Int → Int, A_55 31 = w55_31 → (inr (x55_1)) → ((0) ≤ (x55_1)) → ((x55_1) ≤ (0) ∨ (x55_1) ≤ ((256))) → (∀ i, 0 ≤ i → i < (x55_1) → ((w55_31)) i = ((w27)) i) → (∀ i, 0 ≤ i → i < (x55_1) → ((w27)) i ≤ (y55_5_10)) → ((y55_5_10) ≤ T) → (((256)) - (x55_1)).toNat = m → Ew 277 (d + 3) 55 ls [] σ c s Q from
          hl55 _ _ σ _ _ (0) (rk_o (l7_0) rfl rfl) (rk_s) H (SF_refl) (SA_refl) (0) ((hS_7 5 10 rfl)) (A 31) (funext (hA_7 31 rfl)) (show inr (0) by omega) (show (0) ≤ (0) by omega) (show (0) ≤ (0) ∨ (0) ≤ ((256)) by omega) (show ∀ i, 0 ≤ i → i < (0) → ((A 31)) i = ((w27)) i by assumption) (show ∀ i, 0 ≤ i → i < (0) → ((w27)) i ≤ (0) by assumption) (show (0) ≤ T by omega) rfl
        as_aux_lemma =>
        intro m
        induction m using Nat.strongRecOn with
        | _ m ih55 =>
          intro ls σ F_55 A_55 x55_1 l55_0 l55_1 H hS_55 hA_55 y55_5_10 ey55_5_10 w55_31 ew55_31 j55_0 j55_1 j55_2 j55_3 j55_4 j55_5 hm55
          have r4 : (0 : Int) ≤ y55_5_10 ∧ y55_5_10 ≤ 11 := by have h1 : (0 : Int) ≤ F_55 5 10 ∧ F_55 5 10 ≤ 11 := H.frng 5 10; rw [show F_55 5 10 = y55_5_10 from (ey55_5_10)] at h1; exact h1
          refine Ew_of (pc' := 56) (fun _ => x_iload_n rfl l55_1) ?_
          refine Ew_of (pc' := 59) (fun _ => x_sipush (z := 256) rfl (by decide)) ?_
          refine w_icmpge (t := 110) rfl rfl (show inr (x55_1) by omega) (show inr (256) by omega) (fun b5 => ?_) (fun b5 => ?_)
          · have htt : (y55_5_10) = T := by obtain ⟨i, a, b, c⟩ := hT.2.2.2.2; have := j55_4 i a (by omega); omega
            have : CI ((w55_31)) ((y55_5_10)) := by rw [htt]; exact CI_congr hT (fun i a b => j55_3 i a (by omega))
            refine Ew_of (pc' := 111) (fun _ => x_aload_n rfl l55_0) ?_
            refine w_inv H (o := 5) rfl rfl rfl (H.perm 5 rfl) rfl rfl (by rfl) (M269 H (y55_5_10) ((ey55_5_10)) (w55_31) (ew55_31) (show CI ((w55_31)) ((y55_5_10)) by assumption) (fun σ F6 A7 H hS8 hA9 => ⟨rfl, ?_⟩))
            refine Ew_of (pc' := 115) (fun _ => x_iconst rfl) ?_
            refine Ew_of (pc' := 116) (fun _ => x_istore_n rfl) ?_
            have : ∀ i, (0 : Int) ≤ i → i < 0 → ((A 33)) i = ((w28)) i := fun i a b => absurd b (by omega)
            suffices hl116 : ∀ (m : Nat), ∀ (ls : rO) (σ : rS) (F_116 : hF) (A_116 : hA) (x116_1 : Int), rlook ls 0 = some (.ref (D 5)) → rlook ls 1 = some (I (x116_1)) → HS σ0 σ D N F_116 A_116 → SF [] F6 F_116 → SA [33] A7 A_116 → ∀ w116_33 : Int → Int, A_116 33 = w116_33 → (inr (x116_1)) → ((0) ≤ (x116_1)) → ((x116_1) ≤ (0) ∨ (x116_1) ≤ ((192))) → (∀ i, 0 ≤ i → i < (x116_1) → ((w116_33)) i = ((w28)) i) → (((192)) - (x116_1)).toNat = m → Ew 277 (d + 3) 116 ls [] σ c s Q from
              hl116 _ _ σ _ _ (0) (rk_o (l55_0) rfl rfl) (rk_s) H (SF_refl) (SA_refl)  (A 33) ((funext (hA9 33 rfl)).trans ((funext (hA_55 33 rfl)).trans (funext (hA_7 33 rfl)))) (show inr (0) by omega) (show (0) ≤ (0) by omega) (show (0) ≤ (0) ∨ (0) ≤ ((192)) by omega) (show ∀ i, 0 ≤ i → i < (0) → ((A 33)) i = ((w28)) i by assumption) rfl
            as_aux_lemma =>
            intro m
            induction m using Nat.strongRecOn with
            | _ m ih116 =>
              intro ls σ F_116 A_116 x116_1 l116_0 l116_1 H hS_116 hA_116  w116_33 ew116_33 j116_0 j116_1 j116_2 j116_3 hm116
              refine Ew_of (pc' := 117) (fun _ => x_iload_n rfl l116_1) ?_
              refine Ew_of (pc' := 120) (fun _ => x_sipush (z := 192) rfl (by decide)) ?_
              refine w_icmpge (t := 141) rfl rfl (show inr (x116_1) by omega) (show inr (192) by omega) (fun b11 => ?_) (fun b11 => ?_)
              · refine Ew_of (pc' := 142) (fun _ => x_iconst rfl) ?_
                refine Ew_of (pc' := 143) (fun _ => x_istore_n rfl) ?_
                suffices hl143 : ∀ (m : Nat), ∀ (ls : rO) (σ : rS) (F_143 : hF) (A_143 : hA) (x143_1 : Int), rlook ls 0 = some (.ref (D 5)) → rlook ls 1 = some (I (x143_1)) → HS σ0 σ D N F_143 A_143 → SF [] F_116 F_143 → SA [34, 35, 36, 37, 38, 41] A_116 A_143 → ∀ w143_34 : Int → Int, A_143 34 = w143_34 → ∀ w143_35 : Int → Int, A_143 35 = w143_35 → ∀ w143_36 : Int → Int, A_143 36 = w143_36 → ∀ w143_37 : Int → Int, A_143 37 = w143_37 → ∀ w143_38 : Int → Int, A_143 38 = w143_38 → (inr (x143_1)) → ((0) ≤ (x143_1)) → ((x143_1) ≤ (0) ∨ (x143_1) ≤ (3)) → (RT ((w143_35)) ((w143_36)) ((w143_37)) ((w143_34))) → (0 < (x143_1) → 1 ≤ ((w143_38)) 0) → (1 < (x143_1) → 1 ≤ ((w143_38)) 1) → (2 < (x143_1) → 1 ≤ ((w143_38)) 2) → ((3) - (x143_1)).toNat = m → Ew 277 (d + 3) 143 ls [] σ c s Q from
                  hl143 _ _ σ _ _ (0) (rk_o (l116_0) rfl rfl) (rk_s) H (SF_refl) (SA_refl)  (w7_34) ((funext (hA_116 34 rfl)).trans ((funext (hA9 34 rfl)).trans ((funext (hA_55 34 rfl)).trans (ew7_34)))) (A 35) ((funext (hA_116 35 rfl)).trans ((funext (hA9 35 rfl)).trans ((funext (hA_55 35 rfl)).trans (funext (hA_7 35 rfl))))) (A 36) ((funext (hA_116 36 rfl)).trans ((funext (hA9 36 rfl)).trans ((funext (hA_55 36 rfl)).trans (funext (hA_7 36 rfl))))) (A 37) ((funext (hA_116 37 rfl)).trans ((funext (hA9 37 rfl)).trans ((funext (hA_55 37 rfl)).trans (funext (hA_7 37 rfl))))) (w7_38) ((funext (hA_116 38 rfl)).trans ((funext (hA9 38 rfl)).trans ((funext (hA_55 38 rfl)).trans (ew7_38)))) (show inr (0) by omega) (show (0) ≤ (0) by omega) (show (0) ≤ (0) ∨ (0) ≤ (3) by omega) (show RT ((A 35)) ((A 36)) ((A 37)) ((w7_34)) by assumption) (show 0 < (0) → 1 ≤ ((w7_38)) 0 by omega) (show 1 < (0) → 1 ≤ ((w7_38)) 1 by omega) (show 2 < (0) → 1 ≤ ((w7_38)) 2 by omega) rfl
                as_aux_lemma =>
                intro m
                induction m using Nat.strongRecOn with
                | _ m ih143 =>
                  intro ls σ F_143 A_143 x143_1 l143_0 l143_1 H hS_143 hA_143  w143_34 ew143_34 w143_35 ew143_35 w143_36 ew143_36 w143_37 ew143_37 w143_38 ew143_38 j143_0 j143_1 j143_2 j143_3 j143_4 j143_5 j143_6 hm143
                  refine Ew_of (pc' := 144) (fun _ => x_iload_n rfl l143_1) ?_
                  refine Ew_of (pc' := 145) (fun _ => x_iconst rfl) ?_
                  refine w_icmpge (t := 183) rfl rfl (show inr (x143_1) by omega) (show inr (3) by omega) (fun b12 => ?_) (fun b12 => ?_)
                  · exact w_ret rfl (k σ _ _ H (SF_trans (SF_trans (SF_trans (SF_trans (SF_trans (SF_upd (SF_refl) rfl) hS_7 (any_sub rfl)) hS_55 (any_sub rfl)) hS8 (any_sub rfl)) hS_116 (any_sub rfl)) hS_143 (any_sub rfl)) (SA_trans (SA_trans (SA_trans (SA_trans (SA_trans (SA_refl) hA_7 (any_subA rfl)) hA_55 (any_subA rfl)) hA9 (any_subA rfl)) hA_116 (any_subA rfl)) hA_143 (any_subA rfl)) (w143_34) (ew143_34) (w143_35) (ew143_35) (w143_36) (ew143_36) (w143_37) (ew143_37) (w143_38) (ew143_38) (show RT ((w143_35)) ((w143_36)) ((w143_37)) ((w143_34)) by assumption) (show 1 ≤ ((w143_38)) 0 ∧ 1 ≤ ((w143_38)) 1 ∧ 1 ≤ ((w143_38)) 2 by omega))
                  · have hps : PS ((w116_33)) (upd1 ((w143_34)) ((x143_1)) (((w29)) ((x143_1)))) ((x143_1)) := PS_congr (hPS ((x143_1)) (by omega) (by omega)) (by omega) (fun i a b => j116_3 i a (by omega)) upd1_s
                    have hrx : RX ((w143_35)) ((w143_36)) ((w143_37)) (upd1 ((w143_34)) ((x143_1)) (((w29)) ((x143_1)))) ((x143_1)) := RX_of (by assumption)
                    have hx0 : (x143_1) = 0 → ((w30)) ((x143_1)) = ((w30)) 0 := fun e => by rw [e]
                    have hx1 : (x143_1) = 1 → ((w30)) ((x143_1)) = ((w30)) 1 := fun e => by rw [e]
                    have hx2 : (x143_1) = 2 → ((w30)) ((x143_1)) = ((w30)) 2 := fun e => by rw [e]
                    refine Ew_of (pc' := 149) (fun _ => x_aload_n rfl l143_0) ?_
                    refine w_gT H (o := 5) (t := 34) rfl (H.perm 5 rfl) rfl rfl rfl rfl rfl rfl ?_
                    refine Ew_of (pc' := 153) (fun _ => x_iload_n rfl l143_1) ?_
                    refine Ew_of (pc' := 154) (fun _ => x_aload_n rfl l143_0) ?_
                    refine w_gT H (o := 5) (t := 29) rfl (H.perm 5 rfl) rfl rfl rfl rfl rfl rfl ?_
                    refine Ew_of (pc' := 158) (fun _ => x_iload_n rfl l143_1) ?_
                    refine w_lI H (o := 29) (n := 3) rfl (H.perm 29 rfl) rfl rfl (H.fix 29 rfl rfl) (show 0 ≤ x143_1 ∧ x143_1 < ((3 : Nat) : Int) by omega) (by decide) (fun v13 ev13 qv13 => ?_)
                    have qv13 : (-1 : Int) ≤ v13 ∧ v13 ≤ 9 := qv13
                    have ev13 : (w29) (x143_1) = v13 := (congrFun ((funext (hA_143 29 rfl)).trans ((funext (hA_116 29 rfl)).trans ((funext (hA9 29 rfl)).trans ((funext (hA_55 29 rfl)).trans ((funext (hA_7 29 rfl)).trans (ew29)))))) (x143_1)).symm.trans ev13
                    rw [ev13] at hps hrx
                    refine w_sI H (o := 34) (n := 3) rfl (H.perm 34 rfl) rfl rfl (H.fix 34 rfl rfl) (show 0 ≤ x143_1 ∧ x143_1 < ((3 : Nat) : Int) by omega) (by decide) (show (-1 : Int) ≤ v13 ∧ v13 ≤ 9 by omega) (fun σ H => ?_)
                    refine Ew_of (pc' := 161) (fun _ => x_aload_n rfl l143_0) ?_
                    refine w_gT H (o := 5) (t := 38) rfl (H.perm 5 rfl) rfl rfl rfl rfl rfl rfl ?_
                    refine Ew_of (pc' := 165) (fun _ => x_iload_n rfl l143_1) ?_
                    refine Ew_of (pc' := 166) (fun _ => x_aload_n rfl l143_0) ?_
                    refine w_gT H (o := 5) (t := 30) rfl (H.perm 5 rfl) rfl rfl rfl rfl rfl rfl ?_
                    refine Ew_of (pc' := 170) (fun _ => x_iload_n rfl l143_1) ?_
                    refine w_lJ H (o := 30) (n := 3) rfl (H.perm 30 rfl) rfl rfl (H.fix 30 rfl rfl) (show 0 ≤ x143_1 ∧ x143_1 < ((3 : Nat) : Int) by omega) (by decide) (fun v14 ev14 qv14 => ?_)
                    have qv14 : (-9223372036854775808 : Int) ≤ v14 ∧ v14 ≤ 9223372036854775807 := qv14
                    have ev14 : (w30) (x143_1) = v14 := (congrFun ((funext (hA_143 30 rfl)).trans ((funext (hA_116 30 rfl)).trans ((funext (hA9 30 rfl)).trans ((funext (hA_55 30 rfl)).trans ((funext (hA_7 30 rfl)).trans (ew30)))))) (x143_1)).symm.trans ev14
                    refine w_sJ H (o := 38) (n := 3) rfl (H.perm 38 rfl) rfl rfl (H.fix 38 rfl rfl) (show 0 ≤ x143_1 ∧ x143_1 < ((3 : Nat) : Int) by omega) (by decide) (show (-9223372036854775808 : Int) ≤ v14 ∧ v14 ≤ 9223372036854775807 by omega) (fun σ H => ?_)
                    refine Ew_of (pc' := 173) (fun _ => x_aload_n rfl l143_0) ?_
                    refine Ew_of (pc' := 174) (fun _ => x_iload_n rfl l143_1) ?_
                    refine w_inv H (o := 5) rfl rfl rfl (H.perm 5 rfl) rfl rfl (by rfl) (M263 H (w116_33) ((funext (hA_143 33 rfl)).trans (ew116_33)) (upd1 (w143_34) (x143_1) (v13)) (congrArg (fun q => upd1 q (x143_1) (v13)) (ew143_34)) (w143_35) (ew143_35) (w143_36) (ew143_36) (w143_37) (ew143_37) (show inr (x143_1) by omega) (show 0 ≤ (x143_1) ∧ (x143_1) ≤ 2 by omega) (show PS ((w116_33)) ((upd1 (w143_34) (x143_1) (v13))) ((x143_1)) by assumption) (show RX ((w143_35)) ((w143_36)) ((w143_37)) ((upd1 (w143_34) (x143_1) (v13))) ((x143_1)) by assumption) (fun σ F15 A16 H hS17 hA18 wq20 ewq21 wq22 ewq23 wq24 ewq25 pz19_0 => ⟨rfl, ?_⟩))
                    refine Ew_of (pc' := 180) (fun _ => x_iinc (len := 3) rfl (l143_1)) ?_
                    refine Ew_of (pc' := 143) (fun _ => x_goto rfl rfl) ?_
                    have hu0 : 0 < ((x143_1 + 1)) → 1 ≤ ((upd1 (w143_38) (x143_1) (v14))) 0 := by simp only [upd1]; omega
                    have hu1 : 1 < ((x143_1 + 1)) → 1 ≤ ((upd1 (w143_38) (x143_1) (v14))) 1 := by simp only [upd1]; omega
                    have hu2 : 2 < ((x143_1 + 1)) → 1 ≤ ((upd1 (w143_38) (x143_1) (v14))) 2 := by simp only [upd1]; omega
                    exact ih143 _ (by omega) _ σ _ _ ((x143_1 + 1)) (rk_o (l143_0) rfl rfl) (rk_s) H (SF_trans (hS_143) hS17 (any_sub rfl)) (SA_trans (SA_upd (SA_upd (hA_143) rfl) rfl) hA18 (any_subA rfl))  (upd1 (w143_34) (x143_1) (v13)) ((funext (hA18 34 rfl)).trans (congrArg (fun q => upd1 q (x143_1) (v13)) (ew143_34))) (wq20) (ewq21) (wq22) (ewq23) (wq24) (ewq25) (upd1 (w143_38) (x143_1) (v14)) ((funext (hA18 38 rfl)).trans (congrArg (fun q => upd1 q (x143_1) (v14)) (ew143_38))) (show inr ((x143_1 + 1)) by omega) (show (0) ≤ ((x143_1 + 1)) by omega) (show ((x143_1 + 1)) ≤ (0) ∨ ((x143_1 + 1)) ≤ (3) by omega) (show RT ((wq20)) ((wq22)) ((wq24)) ((upd1 (w143_34) (x143_1) (v13))) by assumption) (show 0 < ((x143_1 + 1)) → 1 ≤ ((upd1 (w143_38) (x143_1) (v14))) 0 by omega) (show 1 < ((x143_1 + 1)) → 1 ≤ ((upd1 (w143_38) (x143_1) (v14))) 1 by omega) (show 2 < ((x143_1 + 1)) → 1 ≤ ((upd1 (w143_38) (x143_1) (v14))) 2 by omega) rfl
              · refine Ew_of (pc' := 124) (fun _ => x_aload_n rfl l116_0) ?_
                refine w_gT H (o := 5) (t := 33) rfl (H.perm 5 rfl) rfl rfl rfl rfl rfl rfl ?_
                refine Ew_of (pc' := 128) (fun _ => x_iload_n rfl l116_1) ?_
                refine Ew_of (pc' := 129) (fun _ => x_aload_n rfl l116_0) ?_
                refine w_gT H (o := 5) (t := 28) rfl (H.perm 5 rfl) rfl rfl rfl rfl rfl rfl ?_
                refine Ew_of (pc' := 133) (fun _ => x_iload_n rfl l116_1) ?_
                refine w_lI H (o := 28) (n := 192) rfl (H.perm 28 rfl) rfl rfl (H.fix 28 rfl rfl) (show 0 ≤ x116_1 ∧ x116_1 < ((192 : Nat) : Int) by omega) (by decide) (fun v26 ev26 qv26 => ?_)
                have qv26 : (-1 : Int) ≤ v26 ∧ v26 ≤ 512 := qv26
                have ev26 : (w28) (x116_1) = v26 := (congrFun ((funext (hA_116 28 rfl)).trans ((funext (hA9 28 rfl)).trans ((funext (hA_55 28 rfl)).trans ((funext (hA_7 28 rfl)).trans (ew28))))) (x116_1)).symm.trans ev26
                refine w_sI H (o := 33) (n := 192) rfl (H.perm 33 rfl) rfl rfl (H.fix 33 rfl rfl) (show 0 ≤ x116_1 ∧ x116_1 < ((192 : Nat) : Int) by omega) (by decide) (show (-1 : Int) ≤ v26 ∧ v26 ≤ 512 by omega) (fun σ H => ?_)
                refine Ew_of (pc' := 138) (fun _ => x_iinc (len := 3) rfl (l116_1)) ?_
                refine Ew_of (pc' := 116) (fun _ => x_goto rfl rfl) ?_
                have : ∀ i, (0 : Int) ≤ i → i < ((x116_1 + 1)) → ((upd1 (w116_33) (x116_1) (v26))) i = ((w28)) i := pt_copy j116_3 (by omega)
                exact ih116 _ (by omega) _ σ _ _ ((x116_1 + 1)) (rk_o (l116_0) rfl rfl) (rk_s) H (hS_116) (SA_upd (hA_116) rfl)  (upd1 (w116_33) (x116_1) (v26)) (congrArg (fun q => upd1 q (x116_1) (v26)) (ew116_33)) (show inr ((x116_1 + 1)) by omega) (show (0) ≤ ((x116_1 + 1)) by omega) (show ((x116_1 + 1)) ≤ (0) ∨ ((x116_1 + 1)) ≤ ((192)) by omega) (show ∀ i, 0 ≤ i → i < ((x116_1 + 1)) → ((upd1 (w116_33) (x116_1) (v26))) i = ((w28)) i by assumption) rfl
          · have hTl := hT.2.2.1 ((x55_1)) (by omega) (by omega)
            refine Ew_of (pc' := 63) (fun _ => x_aload_n rfl l55_0) ?_
            refine w_gT H (o := 5) (t := 31) rfl (H.perm 5 rfl) rfl rfl rfl rfl rfl rfl ?_
            refine Ew_of (pc' := 67) (fun _ => x_iload_n rfl l55_1) ?_
            refine Ew_of (pc' := 68) (fun _ => x_aload_n rfl l55_0) ?_
            refine w_gT H (o := 5) (t := 27) rfl (H.perm 5 rfl) rfl rfl rfl rfl rfl rfl ?_
            refine Ew_of (pc' := 72) (fun _ => x_iload_n rfl l55_1) ?_
            refine w_lI H (o := 27) (n := 256) rfl (H.perm 27 rfl) rfl rfl (H.fix 27 rfl rfl) (show 0 ≤ x55_1 ∧ x55_1 < ((256 : Nat) : Int) by omega) (by decide) (fun v27 ev27 qv27 => ?_)
            have qv27 : (0 : Int) ≤ v27 ∧ v27 ≤ 11 := qv27
            have ev27 : (w27) (x55_1) = v27 := (congrFun ((funext (hA_55 27 rfl)).trans ((funext (hA_7 27 rfl)).trans (ew27))) (x55_1)).symm.trans ev27
            refine w_sI H (o := 31) (n := 256) rfl (H.perm 31 rfl) rfl rfl (H.fix 31 rfl rfl) (show 0 ≤ x55_1 ∧ x55_1 < ((256 : Nat) : Int) by omega) (by decide) (show (0 : Int) ≤ v27 ∧ v27 ≤ 11 by omega) (fun σ H => ?_)
            refine Ew_of (pc' := 75) (fun _ => x_aload_n rfl l55_0) ?_
            refine Ew_of (pc' := 76) (fun _ => x_aload_n rfl l55_0) ?_
            refine w_gT H (o := 5) (t := 31) rfl (H.perm 5 rfl) rfl rfl rfl rfl rfl rfl ?_
            refine Ew_of (pc' := 80) (fun _ => x_iload_n rfl l55_1) ?_
            refine w_lI H (o := 31) (n := 256) rfl (H.perm 31 rfl) rfl rfl (H.fix 31 rfl rfl) (show 0 ≤ x55_1 ∧ x55_1 < ((256 : Nat) : Int) by omega) (by decide) (fun v28 ev28 qv28 => ?_)
            have qv28 : (0 : Int) ≤ v28 ∧ v28 ≤ 11 := qv28
            have ev28 : (upd1 (w55_31) (x55_1) (v27)) (x55_1) = v28 := (congrFun (congrArg (fun q => upd1 q (x55_1) (v27)) (ew55_31)) (x55_1)).symm.trans ev28
            refine Ew_of (pc' := 82) (fun _ => x_aload_n rfl l55_0) ?_
            refine w_gI H (o := 5) (w := y55_5_10) rfl (H.perm 5 rfl) rfl rfl rfl (fun _ => rfl) (ey55_5_10) ?_
            have hls : ((upd1 (w55_31) (x55_1) (v27))) ((x55_1)) = ((w27)) ((x55_1)) := by rw [upd1_s]; omega
            refine w_icmple (t := 97) rfl rfl (show inr (v28) by omega) (show inr (y55_5_10) by omega) (fun b29 => ?_) (fun b29 => ?_)
            · refine Ew_of (pc' := 98) (fun _ => x_aload_n rfl l55_0) ?_
              refine w_gI H (o := 5) (w := y55_5_10) rfl (H.perm 5 rfl) rfl rfl rfl (fun _ => rfl) (ey55_5_10) ?_
              refine w_pI H (o := 5) rfl rfl (H.perm 5 rfl) rfl rfl rfl (fun _ => rfl) rfl (show (0 : Int) ≤ y55_5_10 ∧ y55_5_10 ≤ 11 by omega) (fun σ H => ?_)
              have hdx : ((w27)) ((x55_1) + 1 - 1) = ((w27)) ((x55_1)) := by congr 1; omega
              refine Ew_of (pc' := 107) (fun _ => x_iinc (len := 3) rfl (l55_1)) ?_
              refine Ew_of (pc' := 55) (fun _ => x_goto rfl rfl) ?_
              have : ∀ i, (0 : Int) ≤ i → i < ((x55_1 + 1)) → ((upd1 (w55_31) (x55_1) (v27))) i = ((w27)) i := pt_copy j55_3 (by omega)
              have : ∀ i, (0 : Int) ≤ i → i < ((x55_1 + 1)) → ((w27)) i ≤ (y55_5_10) := fun i a b => by by_cases e : i = ((x55_1 + 1)) - 1; rw [e]; omega; have := j55_4 i a (by omega); omega
              exact ih55 _ (by omega) _ σ _ _ ((x55_1 + 1)) (rk_o (l55_0) rfl rfl) (rk_s) H (SF_upd (hS_55) rfl) (SA_upd (hA_55) rfl) (y55_5_10) (rfl) (upd1 (w55_31) (x55_1) (v27)) (congrArg (fun q => upd1 q (x55_1) (v27)) (ew55_31)) (show inr ((x55_1 + 1)) by omega) (show (0) ≤ ((x55_1 + 1)) by omega) (show ((x55_1 + 1)) ≤ (0) ∨ ((x55_1 + 1)) ≤ ((256)) by omega) (show ∀ i, 0 ≤ i → i < ((x55_1 + 1)) → ((upd1 (w55_31) (x55_1) (v27))) i = ((w27)) i by assumption) (show ∀ i, 0 ≤ i → i < ((x55_1 + 1)) → ((w27)) i ≤ (y55_5_10) by assumption) (show (y55_5_10) ≤ T by omega) rfl
            · refine Ew_of (pc' := 89) (fun _ => x_aload_n rfl l55_0) ?_
              refine w_gT H (o := 5) (t := 31) rfl (H.perm 5 rfl) rfl rfl rfl rfl rfl rfl ?_
              refine Ew_of (pc' := 93) (fun _ => x_iload_n rfl l55_1) ?_
              refine w_lI H (o := 31) (n := 256) rfl (H.perm 31 rfl) rfl rfl (H.fix 31 rfl rfl) (show 0 ≤ x55_1 ∧ x55_1 < ((256 : Nat) : Int) by omega) (by decide) (fun v30 ev30 qv30 => ?_)
              have qv30 : (0 : Int) ≤ v30 ∧ v30 ≤ 11 := qv30
              have ev30 : (upd1 (w55_31) (x55_1) (v27)) (x55_1) = v30 := (congrFun (congrArg (fun q => upd1 q (x55_1) (v27)) (ew55_31)) (x55_1)).symm.trans ev30
              refine Ew_of (pc' := 101) (fun _ => x_goto rfl rfl) ?_
              refine w_pI H (o := 5) rfl rfl (H.perm 5 rfl) rfl rfl rfl (fun _ => rfl) rfl (show (0 : Int) ≤ v30 ∧ v30 ≤ 11 by omega) (fun σ H => ?_)
              have hdx : ((w27)) ((x55_1) + 1 - 1) = ((w27)) ((x55_1)) := by congr 1; omega
              refine Ew_of (pc' := 107) (fun _ => x_iinc (len := 3) rfl (l55_1)) ?_
              refine Ew_of (pc' := 55) (fun _ => x_goto rfl rfl) ?_
              have : ∀ i, (0 : Int) ≤ i → i < ((x55_1 + 1)) → ((upd1 (w55_31) (x55_1) (v27))) i = ((w27)) i := pt_copy j55_3 (by omega)
              have : ∀ i, (0 : Int) ≤ i → i < ((x55_1 + 1)) → ((w27)) i ≤ (v30) := fun i a b => by by_cases e : i = ((x55_1 + 1)) - 1; rw [e]; omega; have := j55_4 i a (by omega); omega
              exact ih55 _ (by omega) _ σ _ _ ((x55_1 + 1)) (rk_o (l55_0) rfl rfl) (rk_s) H (SF_upd (hS_55) rfl) (SA_upd (hA_55) rfl) (v30) (rfl) (upd1 (w55_31) (x55_1) (v27)) (congrArg (fun q => upd1 q (x55_1) (v27)) (ew55_31)) (show inr ((x55_1 + 1)) by omega) (show (0) ≤ ((x55_1 + 1)) by omega) (show ((x55_1 + 1)) ≤ (0) ∨ ((x55_1 + 1)) ≤ ((256)) by omega) (show ∀ i, 0 ≤ i → i < ((x55_1 + 1)) → ((upd1 (w55_31) (x55_1) (v27))) i = ((w27)) i by assumption) (show ∀ i, 0 ≤ i → i < ((x55_1 + 1)) → ((w27)) i ≤ (v30) by assumption) (show (v30) ≤ T by omega) rfl
      · exact w_ret rfl (k σ _ _ H (SF_trans (SF_upd (SF_refl) rfl) hS_7 (any_sub rfl)) (SA_trans (SA_refl) hA_7 (any_subA rfl)) (w7_34) (ew7_34) (A 35) (funext (hA_7 35 rfl)) (A 36) (funext (hA_7 36 rfl)) (A 37) (funext (hA_7 37 rfl)) (w7_38) (ew7_38) (show RT ((A 35)) ((A 36)) ((A 37)) ((w7_34)) by assumption) (show 1 ≤ ((w7_38)) 0 ∧ 1 ≤ ((w7_38)) 1 ∧ 1 ≤ ((w7_38)) 2 by omega))
    · refine Ew_of (pc' := 13) (fun _ => x_aload_n rfl l7_0) ?_
      refine w_gT H (o := 5) (t := 34) rfl (H.perm 5 rfl) rfl rfl rfl rfl rfl rfl ?_
      refine Ew_of (pc' := 17) (fun _ => x_iload_n rfl l7_1) ?_
      refine Ew_of (pc' := 18) (fun _ => x_iconst rfl) ?_
      refine w_sI H (o := 34) (n := 3) rfl (H.perm 34 rfl) rfl rfl (H.fix 34 rfl rfl) (show 0 ≤ x7_1 ∧ x7_1 < ((3 : Nat) : Int) by omega) (by decide) (show (-1 : Int) ≤ (-1) ∧ (-1) ≤ 9 by omega) (fun σ H => ?_)
      refine Ew_of (pc' := 20) (fun _ => x_aload_n rfl l7_0) ?_
      refine w_gT H (o := 5) (t := 38) rfl (H.perm 5 rfl) rfl rfl rfl rfl rfl rfl ?_
      refine Ew_of (pc' := 24) (fun _ => x_iload_n rfl l7_1) ?_
      refine Ew_of (pc' := 25) (fun _ => x_iload_n rfl l7_1) ?_
      refine w_ifne (t := 32) rfl rfl (show inr (x7_1) by omega) (fun b31 => ?_) (fun b31 => ?_)
      · refine Ew_of (pc' := 35) (fun _ => x_ldc2 (z := 4) rfl (by decide)) ?_
        refine Ew_of (pc' := 36) (fun _ => x_iload_n rfl l7_1) ?_
        refine w_i2l rfl (show inr (x7_1) by omega) ?_
        refine w_lmul rfl ?_
        refine w_sJ H (o := 38) (n := 3) rfl (H.perm 38 rfl) rfl rfl (H.fix 38 rfl rfl) (show 0 ≤ x7_1 ∧ x7_1 < ((3 : Nat) : Int) by omega) (by decide) (show (-9223372036854775808 : Int) ≤ (4 * x7_1) ∧ (4 * x7_1) ≤ 9223372036854775807 by omega) (fun σ H => ?_)
        refine Ew_of (pc' := 42) (fun _ => x_iinc (len := 3) rfl (l7_1)) ?_
        refine Ew_of (pc' := 7) (fun _ => x_goto rfl rfl) ?_
        have : ∀ t, (0 : Int) ≤ t → t < ((x7_1 + 1)) → ((upd1 (w7_34) (x7_1) ((-1)))) t < 0 := fun t a b => by simp only [upd1]; split; omega; exact j7_3 t a (by omega)
        have : ((upd1 (w7_38) (x7_1) ((4 * x7_1)))) 0 = ((upd1 (w7_38) (x7_1) ((4 * x7_1)))) 0 := rfl
        have hu0 : 0 < ((x7_1 + 1)) → 1 ≤ ((upd1 (w7_38) (x7_1) ((4 * x7_1)))) 0 := by simp only [upd1]; omega
        have hu1 : 1 < ((x7_1 + 1)) → 1 ≤ ((upd1 (w7_38) (x7_1) ((4 * x7_1)))) 1 := by simp only [upd1]; omega
        have hu2 : 2 < ((x7_1 + 1)) → 1 ≤ ((upd1 (w7_38) (x7_1) ((4 * x7_1)))) 2 := by simp only [upd1]; omega
        exact ih7 _ (by omega) _ σ _ _ ((x7_1 + 1)) (rk_o (l7_0) rfl rfl) (rk_s) H (hS_7) (SA_upd (SA_upd (hA_7) rfl) rfl)  (upd1 (w7_34) (x7_1) ((-1))) (congrArg (fun q => upd1 q (x7_1) ((-1))) (ew7_34)) (upd1 (w7_38) (x7_1) ((4 * x7_1))) (congrArg (fun q => upd1 q (x7_1) ((4 * x7_1))) (ew7_38)) (show inr ((x7_1 + 1)) by omega) (show (0) ≤ ((x7_1 + 1)) by omega) (show ((x7_1 + 1)) ≤ (0) ∨ ((x7_1 + 1)) ≤ (3) by omega) (show ∀ t, 0 ≤ t → t < ((x7_1 + 1)) → ((upd1 (w7_34) (x7_1) ((-1)))) t < 0 by assumption) (show 0 < ((x7_1 + 1)) → 1 ≤ ((upd1 (w7_38) (x7_1) ((4 * x7_1)))) 0 by omega) (show 1 < ((x7_1 + 1)) → 1 ≤ ((upd1 (w7_38) (x7_1) ((4 * x7_1)))) 1 by omega) (show 2 < ((x7_1 + 1)) → 1 ≤ ((upd1 (w7_38) (x7_1) ((4 * x7_1)))) 2 by omega) rfl
      · refine Ew_of (pc' := 29) (fun _ => x_lconst (z := 1) rfl (by decide)) ?_
        refine Ew_of (pc' := 38) (fun _ => x_goto rfl rfl) ?_
        refine w_sJ H (o := 38) (n := 3) rfl (H.perm 38 rfl) rfl rfl (H.fix 38 rfl rfl) (show 0 ≤ x7_1 ∧ x7_1 < ((3 : Nat) : Int) by omega) (by decide) (show (-9223372036854775808 : Int) ≤ 1 ∧ 1 ≤ 9223372036854775807 by omega) (fun σ H => ?_)
        refine Ew_of (pc' := 42) (fun _ => x_iinc (len := 3) rfl (l7_1)) ?_
        refine Ew_of (pc' := 7) (fun _ => x_goto rfl rfl) ?_
        have : ∀ t, (0 : Int) ≤ t → t < ((x7_1 + 1)) → ((upd1 (w7_34) (x7_1) ((-1)))) t < 0 := fun t a b => by simp only [upd1]; split; omega; exact j7_3 t a (by omega)
        have : ((upd1 (w7_38) (x7_1) (1))) 0 = ((upd1 (w7_38) (x7_1) (1))) 0 := rfl
        have hu0 : 0 < ((x7_1 + 1)) → 1 ≤ ((upd1 (w7_38) (x7_1) (1))) 0 := by simp only [upd1]; omega
        have hu1 : 1 < ((x7_1 + 1)) → 1 ≤ ((upd1 (w7_38) (x7_1) (1))) 1 := by simp only [upd1]; omega
        have hu2 : 2 < ((x7_1 + 1)) → 1 ≤ ((upd1 (w7_38) (x7_1) (1))) 2 := by simp only [upd1]; omega
        exact ih7 _ (by omega) _ σ _ _ ((x7_1 + 1)) (rk_o (l7_0) rfl rfl) (rk_s) H (hS_7) (SA_upd (SA_upd (hA_7) rfl) rfl)  (upd1 (w7_34) (x7_1) ((-1))) (congrArg (fun q => upd1 q (x7_1) ((-1))) (ew7_34)) (upd1 (w7_38) (x7_1) (1)) (congrArg (fun q => upd1 q (x7_1) (1)) (ew7_38)) (show inr ((x7_1 + 1)) by omega) (show (0) ≤ ((x7_1 + 1)) by omega) (show ((x7_1 + 1)) ≤ (0) ∨ ((x7_1 + 1)) ≤ (3) by omega) (show ∀ t, 0 ≤ t → t < ((x7_1 + 1)) → ((upd1 (w7_34) (x7_1) ((-1)))) t < 0 by assumption) (show 0 < ((x7_1 + 1)) → 1 ≤ ((upd1 (w7_38) (x7_1) (1))) 0 by omega) (show 1 < ((x7_1 + 1)) → 1 ≤ ((upd1 (w7_38) (x7_1) (1))) 1 by omega) (show 2 < ((x7_1 + 1)) → 1 ≤ ((upd1 (w7_38) (x7_1) (1))) 2 by omega) rfl
