section
/-! 99j.ref -/
theorem M89p {σ0 σ : rS} {D N : Nat → Nat} {F : hF} {A : hA} {d c s : Nat} {Q : wQ} (H : HS σ0 σ D N F A) {a1 a2 : Int} (w12 : Int → Int) (ew12 : A 12 = w12) (h0 : inr (a1)) (h1 : inr (a2)) (h2 : SE ((w12))) (k : ∀ (z : Int) σ Fₚ Aₚ, HS σ0 σ D N Fₚ Aₚ → SF [] F Fₚ → SA [] A Aₚ → (inr (z)) → ((z) = BNA ((w12)) ((a1)) ((a2))) → Q (some (I z)) σ c s) : Ew 89 (d + 1) 0 (rargs 0 [.ref (D 0), I a1, I a2]) [] σ c s Q := by
  refine Ew_of (pcₚ := 1) (fun _ => x_iload_n rfl rfl) ?_
  refine Ew_of (pcₚ := 2) (fun _ => x_iconst rfl) ?_
  refine Ew_of (pcₚ := 3) (fun _ => x_iconst rfl) ?_
  refine w_stat24 rfl rfl (by rfl) (M67p H (show inr (a1) from h0) (show inr (0) from q_2) (show inr (5) from q_727) (fun z5 σ F1 A2 H hS3 hA4 pz5_0 pz5_1 => ⟨rretB rfl pz5_0, ?_⟩))
  refine w_ifeq (t := 20) rfl rfl (show inr (z5) from q_138 pz5_0) (fun b6 => ?_) (fun b6 => ?_)
  · refine Ew_of (pcₚ := 21) (fun _ => x_iconst rfl) ?_
    have hBA : (((-1)) : Int) = BNA ((w12)) ((a1)) ((a2)) := by unfold BNA; rw [if_neg (by omega)]
    exact w_ireturn rfl (k ((-1)) σ _ _ H (SF_trans (SF_refl) hS3 (any_sub rfl)) (SA_trans (SA_refl) hA4 (any_subA rfl)) (show inr ((-1)) from q_63) (show ((-1)) = BNA ((w12)) (a1) (a2) from hBA))
  · refine Ew_of (pcₚ := 10) (fun _ => x_iload_n rfl rfl) ?_
    refine Ew_of (pcₚ := 11) (fun _ => x_iconst rfl) ?_
    refine Ew_of (pcₚ := 14) (fun _ => x_sipush (z := 16384) rfl (by decide)) ?_
    refine w_stat24 rfl rfl (by rfl) (M67p H (show inr (a2) from h1) (show inr (0) from q_2) (show inr (16384) from q_80) (fun z11 σ F7 A8 H hS9 hA10 pz11_0 pz11_1 => ⟨rretB rfl pz11_0, ?_⟩))
    refine w_ifne (t := 22) rfl rfl (show inr (z11) from q_138 pz11_0) (fun b12 => ?_) (fun b12 => ?_)
    · have hse : SE ((w12)) := h2
      unfold SE at hse
      refine Ew_of (pcₚ := 23) (fun _ => x_aload_n rfl rfl) ?_
      refine w_gT H (o := 0) (t := 12) rfl (H.perm 0 rfl) rfl rfl rfl rfl rfl rfl ?_
      refine Ew_of (pcₚ := 27) (fun _ => x_iconst rfl) ?_
      refine w_lI H (o := 12) (n := 10) rfl (H.perm 12 rfl) rfl rfl (H.fix 12 rfl rfl) (show 0 ≤ 2 ∧ 2 < ((10 : Nat) : Int) from q_2345) (by decide) (fun v13 ev13 qv13 => ?_)
      have qv13 : (-2147483648 : Int) ≤ v13 ∧ v13 ≤ 2147483647 := qv13
      have ev13 : (w12) (2) = v13 := (congrFun ((funext (hA10 12 rfl)).trans ((funext (hA4 12 rfl)).trans (ew12))) (2)).symm.trans ev13
      refine Ew_of (pcₚ := 29) (fun _ => x_istore_n rfl) ?_
      have hc98 : ∀ (ls : rO) (σ : rS) (F_c98 : hF) (A_c98 : hA) (xc98_3 : Int), rlook ls 0 = some (.ref (D 0)) → rlook ls 1 = some (I (a1)) → rlook ls 2 = some (I (a2)) → rlook ls 3 = some (I (xc98_3)) → HS σ0 σ D N F_c98 A_c98 → SF [] F7 F_c98 → SA [] A8 A_c98 → (inr (xc98_3)) → ((a1) ≠ 4 ∧ (xc98_3) = ((w12)) 2 ∨ (a1) = 4 ∧ 1 ≤ (xc98_3) ∧ (xc98_3) ≤ 65536 ∧ ((a2) = 0 ∨ (xc98_3) = SMN (WND ((w12)) ((a2))) (((w12)) 2))) → Ew 89 (d + 1) 98 ls [] σ c s Q := by
       as_aux_lemma =>
        intro  ls σ F_c98 A_c98 xc98_3 lc98_0 lc98_1 lc98_2 lc98_3 H hS_c98 hA_c98   jc98_0 jc98_1
        refine Ew_of (pcₚ := 99) (fun _ => x_iload_n rfl lc98_2) ?_
        refine Ew_of (pcₚ := 100) (fun _ => x_iload_n rfl lc98_3) ?_
        refine w_iadd rfl ?_
        refine Ew_of (pcₚ := 102) (fun _ => x_iconst rfl) ?_
        refine w_isub rfl ?_
        refine Ew_of (pcₚ := 104) (fun _ => x_iload_n rfl lc98_3) ?_
        have hdv : 0 ≤ (((a2 + xc98_3) - 1)) / (xc98_3) ∧ (((a2 + xc98_3) - 1)) / (xc98_3) ≤ (((a2 + xc98_3) - 1)) := ⟨Int.ediv_nonneg (by omega) (by omega), Int.ediv_le_self _ (by omega)⟩
        refine w_idiv rfl (show inr (((a2 + xc98_3) - 1)) ∧ 0 ≤ ((a2 + xc98_3) - 1) by omega) (show inr (xc98_3) ∧ 0 < xc98_3 by omega) ?_
        have hRW : (((((a2 + xc98_3) - 1) / xc98_3)) : Int) = RW ((xc98_3)) ((a2)) := rfl
        have hrl := RW_le (c := (xc98_3)) (n := (a2)) (by omega) (by omega)
        have hrp : (a2) = 0 ∨ 1 ≤ RW ((xc98_3)) ((a2)) := by by_cases q : (a2) = 0; exact .inl q; exact .inr (RW_pos (by omega) (by omega))
        refine Ew_of (pcₚ := 107) (fun _ => x_istore rfl) ?_
        refine Ew_of (pcₚ := 108) (fun _ => x_iload_n rfl (rk_o (lc98_1) rfl rfl)) ?_
        by_cases b14 : a1 = 0
        · refine w_tsk 0 144 rfl (show inr (a1) from h0) (by omega) (by decide) rfl rfl ?_
          refine Ew_of (pcₚ := 145) (fun _ => x_iload_n rfl (rk_o (lc98_2) rfl rfl)) ?_
          refine Ew_of (pcₚ := 146) (fun _ => x_iload_n rfl (rk_o (lc98_2) rfl rfl)) ?_
          refine Ew_of (pcₚ := 149) (fun _ => x_sipush (z := 255) rfl (by decide)) ?_
          refine w_idiv rfl (show inr (a2) ∧ 0 ≤ a2 by omega) (show inr (255) ∧ 0 < 255 from q_2348) ?_
          refine w_iadd rfl ?_
          refine Ew_of (pcₚ := 153) (fun _ => x_bipush (z := 16) rfl (by decide)) ?_
          refine w_iadd rfl ?_
          have hBN : ((((a2 + (a2 / 255)) + 16)) : Int) = BND ((w12)) ((a1)) ((a2)) := BND_0 (by omega)
          have hBA : ((((a2 + (a2 / 255)) + 16)) : Int) = BNA ((w12)) ((a1)) ((a2)) := by unfold BNA; rw [if_pos (by omega)]; exact hBN
          exact w_ireturn rfl (k (((a2 + (a2 / 255)) + 16)) σ _ _ H (SF_trans (SF_trans (SF_trans (SF_refl) hS3 (any_sub rfl)) hS9 (any_sub rfl)) hS_c98 (any_sub rfl)) (SA_trans (SA_trans (SA_trans (SA_refl) hA4 (any_subA rfl)) hA10 (any_subA rfl)) hA_c98 (any_subA rfl)) (show inr (((a2 + (a2 / 255)) + 16)) by omega) (show (((a2 + (a2 / 255)) + 16)) = BNA ((w12)) (a1) (a2) from hBA))
        ·
          by_cases b15 : a1 = 1
          · refine w_tsk 1 155 rfl (show inr (a1) from h0) (by omega) (by decide) rfl rfl ?_
            refine Ew_of (pcₚ := 157) (fun _ => x_bipush (z := 27) rfl (by decide)) ?_
            refine Ew_of (pcₚ := 159) (fun _ => x_bipush (z := 8) rfl (by decide)) ?_
            refine Ew_of (pcₚ := 161) (fun _ => x_iload rfl rk_s) ?_
            refine w_imul rfl ?_
            refine w_iadd rfl ?_
            refine Ew_of (pcₚ := 164) (fun _ => x_iload_n rfl (rk_o (lc98_2) rfl rfl)) ?_
            refine w_iadd rfl ?_
            have hBN : ((((27 + (8 * (((a2 + xc98_3) - 1) / xc98_3))) + a2)) : Int) = BND ((w12)) ((a1)) ((a2)) := BND_1 (by omega) (by rw [show ((w12)) 2 = (xc98_3) by omega]; exact hRW)
            have hBA : ((((27 + (8 * (((a2 + xc98_3) - 1) / xc98_3))) + a2)) : Int) = BNA ((w12)) ((a1)) ((a2)) := by unfold BNA; rw [if_pos (by omega)]; exact hBN
            exact w_ireturn rfl (k (((27 + (8 * (((a2 + xc98_3) - 1) / xc98_3))) + a2)) σ _ _ H (SF_trans (SF_trans (SF_trans (SF_refl) hS3 (any_sub rfl)) hS9 (any_sub rfl)) hS_c98 (any_sub rfl)) (SA_trans (SA_trans (SA_trans (SA_refl) hA4 (any_subA rfl)) hA10 (any_subA rfl)) hA_c98 (any_subA rfl)) (show inr (((27 + (8 * (((a2 + xc98_3) - 1) / xc98_3))) + a2)) by omega) (show (((27 + (8 * (((a2 + xc98_3) - 1) / xc98_3))) + a2)) = BNA ((w12)) (a1) (a2) from hBA))
          ·
            by_cases b16 : a1 = 2
            · refine w_tsk 2 166 rfl (show inr (a1) from h0) (by omega) (by decide) rfl rfl ?_
              refine Ew_of (pcₚ := 168) (fun _ => x_bipush (z := 32) rfl (by decide)) ?_
              refine Ew_of (pcₚ := 169) (fun _ => x_iload_n rfl (rk_o (lc98_2) rfl rfl)) ?_
              refine w_iadd rfl ?_
              refine Ew_of (pcₚ := 171) (fun _ => x_iload_n rfl (rk_o (lc98_2) rfl rfl)) ?_
              refine Ew_of (pcₚ := 173) (fun _ => x_bipush (z := 6) rfl (by decide)) ?_
              refine w_idiv rfl (show inr (a2) ∧ 0 ≤ a2 by omega) (show inr (6) ∧ 0 < 6 from q_2352) ?_
              refine w_iadd rfl ?_
              have hBN : ((((32 + a2) + (a2 / 6))) : Int) = BND ((w12)) ((a1)) ((a2)) := BND_2 (by omega)
              have hBA : ((((32 + a2) + (a2 / 6))) : Int) = BNA ((w12)) ((a1)) ((a2)) := by unfold BNA; rw [if_pos (by omega)]; exact hBN
              exact w_ireturn rfl (k (((32 + a2) + (a2 / 6))) σ _ _ H (SF_trans (SF_trans (SF_trans (SF_refl) hS3 (any_sub rfl)) hS9 (any_sub rfl)) hS_c98 (any_sub rfl)) (SA_trans (SA_trans (SA_trans (SA_refl) hA4 (any_subA rfl)) hA10 (any_subA rfl)) hA_c98 (any_subA rfl)) (show inr (((32 + a2) + (a2 / 6))) by omega) (show (((32 + a2) + (a2 / 6))) = BNA ((w12)) (a1) (a2) from hBA))
            ·
              by_cases b17 : a1 = 3
              · refine w_tsk 3 176 rfl (show inr (a1) from h0) (by omega) (by decide) rfl rfl ?_
                refine Ew_of (pcₚ := 178) (fun _ => x_bipush (z := 10) rfl (by decide)) ?_
                refine Ew_of (pcₚ := 179) (fun _ => x_iload_n rfl (rk_o (lc98_2) rfl rfl)) ?_
                refine w_iadd rfl ?_
                refine Ew_of (pcₚ := 182) (fun _ => x_bipush (z := 8) rfl (by decide)) ?_
                refine Ew_of (pcₚ := 184) (fun _ => x_iload rfl rk_s) ?_
                refine w_imul rfl ?_
                refine w_iadd rfl ?_
                refine Ew_of (pcₚ := 187) (fun _ => x_aload_n rfl (rk_o (lc98_0) rfl rfl)) ?_
                refine w_gT H (o := 0) (t := 12) rfl (H.perm 0 rfl) rfl rfl rfl rfl rfl rfl ?_
                refine Ew_of (pcₚ := 192) (fun _ => x_bipush (z := 6) rfl (by decide)) ?_
                refine w_lI H (o := 12) (n := 10) rfl (H.perm 12 rfl) rfl rfl (H.fix 12 rfl rfl) (show 0 ≤ 6 ∧ 6 < ((10 : Nat) : Int) from q_2354) (by decide) (fun v18 ev18 qv18 => ?_)
                have qv18 : (-2147483648 : Int) ≤ v18 ∧ v18 ≤ 2147483647 := qv18
                have ev18 : (w12) (6) = v18 := (congrFun ((funext (hA_c98 12 rfl)).trans ((funext (hA10 12 rfl)).trans ((funext (hA4 12 rfl)).trans (ew12)))) (6)).symm.trans ev18
                refine w_ifle (t := 211) rfl rfl (show inr (v18) from q_18 qv18) (fun b19 => ?_) (fun b19 => ?_)
                · refine Ew_of (pcₚ := 212) (fun _ => x_iconst rfl) ?_
                  refine w_iadd rfl ?_
                  have hBN : (((((10 + a2) + (8 * (((a2 + xc98_3) - 1) / xc98_3))) + 0)) : Int) = BND ((w12)) ((a1)) ((a2)) := BND_3 (by omega) (by rw [show ((w12)) 2 = (xc98_3) by omega]; exact hRW) (by first | exact .inl ⟨by omega, by congr 1; omega⟩ | exact .inr ⟨by omega, rfl⟩)
                  have hBA : (((((10 + a2) + (8 * (((a2 + xc98_3) - 1) / xc98_3))) + 0)) : Int) = BNA ((w12)) ((a1)) ((a2)) := by unfold BNA; rw [if_pos (by omega)]; exact hBN
                  exact w_ireturn rfl (k ((((10 + a2) + (8 * (((a2 + xc98_3) - 1) / xc98_3))) + 0)) σ _ _ H (SF_trans (SF_trans (SF_trans (SF_refl) hS3 (any_sub rfl)) hS9 (any_sub rfl)) hS_c98 (any_sub rfl)) (SA_trans (SA_trans (SA_trans (SA_refl) hA4 (any_subA rfl)) hA10 (any_subA rfl)) hA_c98 (any_subA rfl)) (show inr ((((10 + a2) + (8 * (((a2 + xc98_3) - 1) / xc98_3))) + 0)) by omega) (show ((((10 + a2) + (8 * (((a2 + xc98_3) - 1) / xc98_3))) + 0)) = BNA ((w12)) (a1) (a2) from hBA))
                · refine Ew_of (pcₚ := 198) (fun _ => x_iload rfl rk_s) ?_
                  refine Ew_of (pcₚ := 199) (fun _ => x_iconst rfl) ?_
                  refine Ew_of (pcₚ := 200) (fun _ => x_aload_n rfl (rk_o (lc98_0) rfl rfl)) ?_
                  refine w_gT H (o := 0) (t := 12) rfl (H.perm 0 rfl) rfl rfl rfl rfl rfl rfl ?_
                  refine Ew_of (pcₚ := 205) (fun _ => x_bipush (z := 6) rfl (by decide)) ?_
                  refine w_lI H (o := 12) (n := 10) rfl (H.perm 12 rfl) rfl rfl (H.fix 12 rfl rfl) (show 0 ≤ 6 ∧ 6 < ((10 : Nat) : Int) from q_2354) (by decide) (fun v20 ev20 qv20 => ?_)
                  have qv20 : (-2147483648 : Int) ≤ v20 ∧ v20 ≤ 2147483647 := qv20
                  have ev20 : (w12) (6) = v20 := (congrFun ((funext (hA_c98 12 rfl)).trans ((funext (hA10 12 rfl)).trans ((funext (hA4 12 rfl)).trans (ew12)))) (6)).symm.trans ev20
                  refine w_iadd rfl ?_
                  have hmm : 0 ≤ ((((a2 + xc98_3) - 1) / xc98_3)) * ((4 + v20)) := Int.mul_nonneg (by omega) (by omega)
                  have hmn : ((((a2 + xc98_3) - 1) / xc98_3)) * ((4 + v20)) ≤ 200000 * 300 := Int.mul_le_mul (by omega) (by omega) (by omega) (by omega)
                  refine w_imul rfl ?_
                  refine Ew_of (pcₚ := 212) (fun _ => x_goto rfl rfl) ?_
                  refine w_iadd rfl ?_
                  have hBN : (((((10 + a2) + (8 * (((a2 + xc98_3) - 1) / xc98_3))) + ((((a2 + xc98_3) - 1) / xc98_3) * (4 + v20)))) : Int) = BND ((w12)) ((a1)) ((a2)) := BND_3 (by omega) (by rw [show ((w12)) 2 = (xc98_3) by omega]; exact hRW) (by first | exact .inl ⟨by omega, by congr 1; omega⟩ | exact .inr ⟨by omega, rfl⟩)
                  have hBA : (((((10 + a2) + (8 * (((a2 + xc98_3) - 1) / xc98_3))) + ((((a2 + xc98_3) - 1) / xc98_3) * (4 + v20)))) : Int) = BNA ((w12)) ((a1)) ((a2)) := by unfold BNA; rw [if_pos (by omega)]; exact hBN
                  exact w_ireturn rfl (k ((((10 + a2) + (8 * (((a2 + xc98_3) - 1) / xc98_3))) + ((((a2 + xc98_3) - 1) / xc98_3) * (4 + v20)))) σ _ _ H (SF_trans (SF_trans (SF_trans (SF_refl) hS3 (any_sub rfl)) hS9 (any_sub rfl)) hS_c98 (any_sub rfl)) (SA_trans (SA_trans (SA_trans (SA_refl) hA4 (any_subA rfl)) hA10 (any_subA rfl)) hA_c98 (any_subA rfl)) (show inr ((((10 + a2) + (8 * (((a2 + xc98_3) - 1) / xc98_3))) + ((((a2 + xc98_3) - 1) / xc98_3) * (4 + v20)))) by omega) (show ((((10 + a2) + (8 * (((a2 + xc98_3) - 1) / xc98_3))) + ((((a2 + xc98_3) - 1) / xc98_3) * (4 + v20)))) = BNA ((w12)) (a1) (a2) from hBA))
              ·
                by_cases b21 : a1 = 4
                · refine w_tsk 4 214 rfl (show inr (a1) from h0) (by omega) (by decide) rfl rfl ?_
                  refine Ew_of (pcₚ := 216) (fun _ => x_bipush (z := 22) rfl (by decide)) ?_
                  refine Ew_of (pcₚ := 217) (fun _ => x_iconst rfl) ?_
                  refine Ew_of (pcₚ := 219) (fun _ => x_iload rfl rk_s) ?_
                  refine Ew_of (pcₚ := 220) (fun _ => x_iconst rfl) ?_
                  refine w_icmpge (t := 227) rfl rfl (show inr ((((a2 + xc98_3) - 1) / xc98_3)) by omega) (show inr (1) from q_135) (fun b22 => ?_) (fun b22 => ?_)
                  · refine Ew_of (pcₚ := 229) (fun _ => x_iload rfl rk_s) ?_
                    have hq4 : (a2) = 0 ∧ (((((a2 + xc98_3) - 1) / xc98_3)) : Int) = 1 ∨ (a2) ≠ 0 ∧ (((((a2 + xc98_3) - 1) / xc98_3)) : Int) = RW (SMN (WND ((w12)) ((a2))) (((w12)) 2)) ((a2)) := by first | exact .inl ⟨by omega, rfl⟩ | exact .inr ⟨by omega, by rw [show SMN (WND ((w12)) ((a2))) (((w12)) 2) = (xc98_3) by omega]; exact hRW⟩
                    refine w_imul rfl ?_
                    refine w_iadd rfl ?_
                    refine Ew_of (pcₚ := 232) (fun _ => x_iload_n rfl (rk_o (lc98_2) rfl rfl)) ?_
                    refine w_iadd rfl ?_
                    have hBN : ((((22 + (3 * (((a2 + xc98_3) - 1) / xc98_3))) + a2)) : Int) = BND ((w12)) ((a1)) ((a2)) := BND_4 (by omega) hq4
                    have hBA : ((((22 + (3 * (((a2 + xc98_3) - 1) / xc98_3))) + a2)) : Int) = BNA ((w12)) ((a1)) ((a2)) := by unfold BNA; rw [if_pos (by omega)]; exact hBN
                    exact w_ireturn rfl (k (((22 + (3 * (((a2 + xc98_3) - 1) / xc98_3))) + a2)) σ _ _ H (SF_trans (SF_trans (SF_trans (SF_refl) hS3 (any_sub rfl)) hS9 (any_sub rfl)) hS_c98 (any_sub rfl)) (SA_trans (SA_trans (SA_trans (SA_refl) hA4 (any_subA rfl)) hA10 (any_subA rfl)) hA_c98 (any_subA rfl)) (show inr (((22 + (3 * (((a2 + xc98_3) - 1) / xc98_3))) + a2)) by omega) (show (((22 + (3 * (((a2 + xc98_3) - 1) / xc98_3))) + a2)) = BNA ((w12)) (a1) (a2) from hBA))
                  · refine Ew_of (pcₚ := 224) (fun _ => x_iconst rfl) ?_
                    refine Ew_of (pcₚ := 229) (fun _ => x_goto rfl rfl) ?_
                    have hq4 : (a2) = 0 ∧ ((1) : Int) = 1 ∨ (a2) ≠ 0 ∧ ((1) : Int) = RW (SMN (WND ((w12)) ((a2))) (((w12)) 2)) ((a2)) := by first | exact .inl ⟨by omega, rfl⟩ | exact .inr ⟨by omega, by rw [show SMN (WND ((w12)) ((a2))) (((w12)) 2) = (xc98_3) by omega]; exact hRW⟩
                    refine w_imul rfl ?_
                    refine w_iadd rfl ?_
                    refine Ew_of (pcₚ := 232) (fun _ => x_iload_n rfl (rk_o (lc98_2) rfl rfl)) ?_
                    refine w_iadd rfl ?_
                    have hBN : ((((22 + (3 * 1)) + a2)) : Int) = BND ((w12)) ((a1)) ((a2)) := BND_4 (by omega) hq4
                    have hBA : ((((22 + (3 * 1)) + a2)) : Int) = BNA ((w12)) ((a1)) ((a2)) := by unfold BNA; rw [if_pos (by omega)]; exact hBN
                    exact w_ireturn rfl (k (((22 + (3 * 1)) + a2)) σ _ _ H (SF_trans (SF_trans (SF_trans (SF_refl) hS3 (any_sub rfl)) hS9 (any_sub rfl)) hS_c98 (any_sub rfl)) (SA_trans (SA_trans (SA_trans (SA_refl) hA4 (any_subA rfl)) hA10 (any_subA rfl)) hA_c98 (any_subA rfl)) (show inr (((22 + (3 * 1)) + a2)) from q_5025 b22 h1 hRW hrp) (show (((22 + (3 * 1)) + a2)) = BNA ((w12)) (a1) (a2) from hBA))
                ·
                  refine w_tsd 234 rfl (show inr (a1) from h0) (by omega) rfl ?_
                  refine Ew_of (pcₚ := 237) (fun _ => x_sipush (z := 700) rfl (by decide)) ?_
                  refine Ew_of (pcₚ := 238) (fun _ => x_iload_n rfl (rk_o (lc98_2) rfl rfl)) ?_
                  refine w_iadd rfl ?_
                  have hBN : (((700 + a2)) : Int) = BND ((w12)) ((a1)) ((a2)) := BND_5 (by omega)
                  have hBA : (((700 + a2)) : Int) = BNA ((w12)) ((a1)) ((a2)) := by unfold BNA; rw [if_pos (by omega)]; exact hBN
                  exact w_ireturn rfl (k ((700 + a2)) σ _ _ H (SF_trans (SF_trans (SF_trans (SF_refl) hS3 (any_sub rfl)) hS9 (any_sub rfl)) hS_c98 (any_sub rfl)) (SA_trans (SA_trans (SA_trans (SA_refl) hA4 (any_subA rfl)) hA10 (any_subA rfl)) hA_c98 (any_subA rfl)) (show inr ((700 + a2)) by omega) (show ((700 + a2)) = BNA ((w12)) (a1) (a2) from hBA))
      refine Ew_of (pcₚ := 30) (fun _ => x_iload_n rfl (rk_o (rfl) rfl rfl)) ?_
      refine Ew_of (pcₚ := 31) (fun _ => x_iconst rfl) ?_
      refine w_icmpne (t := 98) rfl rfl (show inr (a1) from h0) (show inr (4) from q_216) (fun b23 => ?_) (fun b23 => ?_)
      · have hCT : (a1) ≠ 4 ∧ (v13) = ((w12)) 2 ∨ (a1) = 4 ∧ 1 ≤ (v13) ∧ (v13) ≤ 65536 ∧ ((a2) = 0 ∨ (v13) = SMN (WND ((w12)) ((a2))) (((w12)) 2)) := by first | exact .inl ⟨by omega, by omega⟩ | exact .inr ⟨by omega, by omega, by omega, by unfold SMN; split <;> omega⟩
        exact hc98  _ σ _ _ (v13) (rk_o (rfl) rfl rfl) (rk_o (rfl) rfl rfl) (rk_o (rfl) rfl rfl) (rk_s) H (SF_refl) (SA_refl)   (show inr (v13) from q_18 qv13) (show (a1) ≠ 4 ∧ (v13) = ((w12)) 2 ∨ (a1) = 4 ∧ 1 ≤ (v13) ∧ (v13) ≤ 65536 ∧ ((a2) = 0 ∨ (v13) = SMN (WND ((w12)) ((a2))) (((w12)) 2)) from hCT)
      · have hc62 : ∀ (tc62_0 : Int), ∀ (ls : rO) (σ : rS) (F_c62 : hF) (A_c62 : hA) , rlook ls 0 = some (.ref (D 0)) → rlook ls 1 = some (I (a1)) → rlook ls 2 = some (I (a2)) → rlook ls 3 = some (I (v13)) → HS σ0 σ D N F_c62 A_c62 → SF [] F7 F_c62 → SA [] A8 A_c62 → (inr (tc62_0)) → ((tc62_0) = WND ((w12)) ((a2))) → (0 ≤ (tc62_0) ∧ (tc62_0) ≤ 2097152) → ((a2) = 0 ∨ 1 ≤ (tc62_0)) → Ew 89 (d + 1) 62 ls [I (tc62_0)] σ c s Q := by
         as_aux_lemma =>
          intro tc62_0 ls σ F_c62 A_c62  lc62_0 lc62_1 lc62_2 lc62_3 H hS_c62 hA_c62   jc62_0 jc62_1 jc62_2 jc62_3
          refine Ew_of (pcₚ := 64) (fun _ => x_istore rfl) ?_
          refine Ew_of (pcₚ := 66) (fun _ => x_iload rfl rk_s) ?_
          refine Ew_of (pcₚ := 68) (fun _ => x_ldc (z := 131072) rfl (by decide)) ?_
          refine w_icmpge (t := 76) rfl rfl (show inr (tc62_0) from jc62_0) (show inr (131072) from q_1877) (fun b24 => ?_) (fun b24 => ?_)
          · refine Ew_of (pcₚ := 78) (fun _ => x_ldc (z := 131072) rfl (by decide)) ?_
            refine Ew_of (pcₚ := 80) (fun _ => x_istore rfl) ?_
            refine Ew_of (pcₚ := 82) (fun _ => x_iload rfl rk_s) ?_
            refine w_ifle (t := 96) rfl rfl (show inr (131072) from q_1877) (fun b25 => ?_) (fun b25 => ?_)
            · refine Ew_of (pcₚ := 97) (fun _ => x_iload_n rfl (rk_o (rk_o (lc62_3) rfl rfl) rfl rfl)) ?_
              refine Ew_of (pcₚ := 98) (fun _ => x_istore_n rfl) ?_
              have hCT : (a1) ≠ 4 ∧ (v13) = ((w12)) 2 ∨ (a1) = 4 ∧ 1 ≤ (v13) ∧ (v13) ≤ 65536 ∧ ((a2) = 0 ∨ (v13) = SMN (WND ((w12)) ((a2))) (((w12)) 2)) := by first | exact .inl ⟨by omega, by omega⟩ | exact .inr ⟨by omega, by omega, by omega, by unfold SMN; split <;> omega⟩
              exact hc98  _ σ _ _ (v13) (rk_o (rk_o (rk_o (lc62_0) rfl rfl) rfl rfl) rfl rfl) (rk_o (rk_o (rk_o (lc62_1) rfl rfl) rfl rfl) rfl rfl) (rk_o (rk_o (rk_o (lc62_2) rfl rfl) rfl rfl) rfl rfl) (rk_s) H (SF_trans (SF_refl) hS_c62 (any_sub rfl)) (SA_trans (SA_refl) hA_c62 (any_subA rfl))   (show inr (v13) from q_18 qv13) (show (a1) ≠ 4 ∧ (v13) = ((w12)) 2 ∨ (a1) = 4 ∧ 1 ≤ (v13) ∧ (v13) ≤ 65536 ∧ ((a2) = 0 ∨ (v13) = SMN (WND ((w12)) ((a2))) (((w12)) 2)) from hCT)
            · refine Ew_of (pcₚ := 87) (fun _ => x_iload rfl rk_s) ?_
              refine Ew_of (pcₚ := 88) (fun _ => x_iload_n rfl (rk_o (rk_o (lc62_3) rfl rfl) rfl rfl)) ?_
              refine w_icmpge (t := 96) rfl rfl (show inr (131072) from q_1877) (show inr (v13) from q_18 qv13) (fun b26 => ?_) (fun b26 => ?_)
              · refine Ew_of (pcₚ := 97) (fun _ => x_iload_n rfl (rk_o (rk_o (lc62_3) rfl rfl) rfl rfl)) ?_
                refine Ew_of (pcₚ := 98) (fun _ => x_istore_n rfl) ?_
                have hCT : (a1) ≠ 4 ∧ (v13) = ((w12)) 2 ∨ (a1) = 4 ∧ 1 ≤ (v13) ∧ (v13) ≤ 65536 ∧ ((a2) = 0 ∨ (v13) = SMN (WND ((w12)) ((a2))) (((w12)) 2)) := by first | exact .inl ⟨by omega, by omega⟩ | exact .inr ⟨by omega, by omega, by omega, by unfold SMN; split <;> omega⟩
                exact hc98  _ σ _ _ (v13) (rk_o (rk_o (rk_o (lc62_0) rfl rfl) rfl rfl) rfl rfl) (rk_o (rk_o (rk_o (lc62_1) rfl rfl) rfl rfl) rfl rfl) (rk_o (rk_o (rk_o (lc62_2) rfl rfl) rfl rfl) rfl rfl) (rk_s) H (SF_trans (SF_refl) hS_c62 (any_sub rfl)) (SA_trans (SA_refl) hA_c62 (any_subA rfl))   (show inr (v13) from q_5026 b26 qv13) (show (a1) ≠ 4 ∧ (v13) = ((w12)) 2 ∨ (a1) = 4 ∧ 1 ≤ (v13) ∧ (v13) ≤ 65536 ∧ ((a2) = 0 ∨ (v13) = SMN (WND ((w12)) ((a2))) (((w12)) 2)) from hCT)
              · refine Ew_of (pcₚ := 93) (fun _ => x_iload rfl rk_s) ?_
                refine Ew_of (pcₚ := 97) (fun _ => x_goto rfl rfl) ?_
                refine Ew_of (pcₚ := 98) (fun _ => x_istore_n rfl) ?_
                have hCT : (a1) ≠ 4 ∧ (131072) = ((w12)) 2 ∨ (a1) = 4 ∧ 1 ≤ (131072) ∧ (131072) ≤ 65536 ∧ ((a2) = 0 ∨ (131072) = SMN (WND ((w12)) ((a2))) (((w12)) 2)) := by first | exact .inl ⟨by omega, by omega⟩ | exact .inr ⟨by omega, by omega, by omega, by unfold SMN; split <;> omega⟩
                exact hc98  _ σ _ _ (131072) (rk_o (rk_o (rk_o (lc62_0) rfl rfl) rfl rfl) rfl rfl) (rk_o (rk_o (rk_o (lc62_1) rfl rfl) rfl rfl) rfl rfl) (rk_o (rk_o (rk_o (lc62_2) rfl rfl) rfl rfl) rfl rfl) (rk_s) H (SF_trans (SF_refl) hS_c62 (any_sub rfl)) (SA_trans (SA_refl) hA_c62 (any_subA rfl))   (show inr (131072) from q_1877) (show (a1) ≠ 4 ∧ (131072) = ((w12)) 2 ∨ (a1) = 4 ∧ 1 ≤ (131072) ∧ (131072) ≤ 65536 ∧ ((a2) = 0 ∨ (131072) = SMN (WND ((w12)) ((a2))) (((w12)) 2)) by omega)
          · refine Ew_of (pcₚ := 73) (fun _ => x_iload rfl rk_s) ?_
            refine Ew_of (pcₚ := 78) (fun _ => x_goto rfl rfl) ?_
            refine Ew_of (pcₚ := 80) (fun _ => x_istore rfl) ?_
            refine Ew_of (pcₚ := 82) (fun _ => x_iload rfl rk_s) ?_
            refine w_ifle (t := 96) rfl rfl (show inr (tc62_0) from jc62_0) (fun b27 => ?_) (fun b27 => ?_)
            · refine Ew_of (pcₚ := 97) (fun _ => x_iload_n rfl (rk_o (rk_o (lc62_3) rfl rfl) rfl rfl)) ?_
              refine Ew_of (pcₚ := 98) (fun _ => x_istore_n rfl) ?_
              have hCT : (a1) ≠ 4 ∧ (v13) = ((w12)) 2 ∨ (a1) = 4 ∧ 1 ≤ (v13) ∧ (v13) ≤ 65536 ∧ ((a2) = 0 ∨ (v13) = SMN (WND ((w12)) ((a2))) (((w12)) 2)) := by first | exact .inl ⟨by omega, by omega⟩ | exact .inr ⟨by omega, by omega, by omega, by unfold SMN; split <;> omega⟩
              exact hc98  _ σ _ _ (v13) (rk_o (rk_o (rk_o (lc62_0) rfl rfl) rfl rfl) rfl rfl) (rk_o (rk_o (rk_o (lc62_1) rfl rfl) rfl rfl) rfl rfl) (rk_o (rk_o (rk_o (lc62_2) rfl rfl) rfl rfl) rfl rfl) (rk_s) H (SF_trans (SF_refl) hS_c62 (any_sub rfl)) (SA_trans (SA_refl) hA_c62 (any_subA rfl))   (show inr (v13) from q_18 qv13) (show (a1) ≠ 4 ∧ (v13) = ((w12)) 2 ∨ (a1) = 4 ∧ 1 ≤ (v13) ∧ (v13) ≤ 65536 ∧ ((a2) = 0 ∨ (v13) = SMN (WND ((w12)) ((a2))) (((w12)) 2)) from hCT)
            · refine Ew_of (pcₚ := 87) (fun _ => x_iload rfl rk_s) ?_
              refine Ew_of (pcₚ := 88) (fun _ => x_iload_n rfl (rk_o (rk_o (lc62_3) rfl rfl) rfl rfl)) ?_
              refine w_icmpge (t := 96) rfl rfl (show inr (tc62_0) from jc62_0) (show inr (v13) from q_18 qv13) (fun b28 => ?_) (fun b28 => ?_)
              · refine Ew_of (pcₚ := 97) (fun _ => x_iload_n rfl (rk_o (rk_o (lc62_3) rfl rfl) rfl rfl)) ?_
                refine Ew_of (pcₚ := 98) (fun _ => x_istore_n rfl) ?_
                have hCT : (a1) ≠ 4 ∧ (v13) = ((w12)) 2 ∨ (a1) = 4 ∧ 1 ≤ (v13) ∧ (v13) ≤ 65536 ∧ ((a2) = 0 ∨ (v13) = SMN (WND ((w12)) ((a2))) (((w12)) 2)) := by first | exact .inl ⟨by omega, by omega⟩ | exact .inr ⟨by omega, by omega, by omega, by unfold SMN; split <;> omega⟩
                exact hc98  _ σ _ _ (v13) (rk_o (rk_o (rk_o (lc62_0) rfl rfl) rfl rfl) rfl rfl) (rk_o (rk_o (rk_o (lc62_1) rfl rfl) rfl rfl) rfl rfl) (rk_o (rk_o (rk_o (lc62_2) rfl rfl) rfl rfl) rfl rfl) (rk_s) H (SF_trans (SF_refl) hS_c62 (any_sub rfl)) (SA_trans (SA_refl) hA_c62 (any_subA rfl))   (show inr (v13) from q_18 qv13) (show (a1) ≠ 4 ∧ (v13) = ((w12)) 2 ∨ (a1) = 4 ∧ 1 ≤ (v13) ∧ (v13) ≤ 65536 ∧ ((a2) = 0 ∨ (v13) = SMN (WND ((w12)) ((a2))) (((w12)) 2)) from hCT)
              · refine Ew_of (pcₚ := 93) (fun _ => x_iload rfl rk_s) ?_
                refine Ew_of (pcₚ := 97) (fun _ => x_goto rfl rfl) ?_
                refine Ew_of (pcₚ := 98) (fun _ => x_istore_n rfl) ?_
                have hCT : (a1) ≠ 4 ∧ (tc62_0) = ((w12)) 2 ∨ (a1) = 4 ∧ 1 ≤ (tc62_0) ∧ (tc62_0) ≤ 65536 ∧ ((a2) = 0 ∨ (tc62_0) = SMN (WND ((w12)) ((a2))) (((w12)) 2)) := by first | exact .inl ⟨by omega, by omega⟩ | exact .inr ⟨by omega, by omega, by omega, by unfold SMN; split <;> omega⟩
                exact hc98  _ σ _ _ (tc62_0) (rk_o (rk_o (rk_o (lc62_0) rfl rfl) rfl rfl) rfl rfl) (rk_o (rk_o (rk_o (lc62_1) rfl rfl) rfl rfl) rfl rfl) (rk_o (rk_o (rk_o (lc62_2) rfl rfl) rfl rfl) rfl rfl) (rk_s) H (SF_trans (SF_refl) hS_c62 (any_sub rfl)) (SA_trans (SA_refl) hA_c62 (any_subA rfl))   (show inr (tc62_0) from jc62_0) (show (a1) ≠ 4 ∧ (tc62_0) = ((w12)) 2 ∨ (a1) = 4 ∧ 1 ≤ (tc62_0) ∧ (tc62_0) ≤ 65536 ∧ ((a2) = 0 ∨ (tc62_0) = SMN (WND ((w12)) ((a2))) (((w12)) 2)) from hCT)
        refine Ew_of (pcₚ := 35) (fun _ => x_aload_n rfl (rk_o (rfl) rfl rfl)) ?_
        refine w_gT H (o := 0) (t := 12) rfl (H.perm 0 rfl) rfl rfl rfl rfl rfl rfl ?_
        refine Ew_of (pcₚ := 40) (fun _ => x_bipush (z := 7) rfl (by decide)) ?_
        refine w_lI H (o := 12) (n := 10) rfl (H.perm 12 rfl) rfl rfl (H.fix 12 rfl rfl) (show 0 ≤ 7 ∧ 7 < ((10 : Nat) : Int) from q_2361) (by decide) (fun v29 ev29 qv29 => ?_)
        have qv29 : (-2147483648 : Int) ≤ v29 ∧ v29 ≤ 2147483647 := qv29
        have ev29 : (w12) (7) = v29 := (congrFun ((funext (hA10 12 rfl)).trans ((funext (hA4 12 rfl)).trans (ew12))) (7)).symm.trans ev29
        refine Ew_of (pcₚ := 42) (fun _ => x_iconst rfl) ?_
        have hw7 := ev29
        refine w_iandE rfl (show inr (v29) from q_18 qv29) (show inr (4) from q_216) (fun z30 gz30 gaz30 gbz30 gez30 => ?_)
        refine w_ifeq (t := 50) rfl rfl (show inr (z30) from gz30) (fun b31 => ?_) (fun b31 => ?_)
        · refine Ew_of (pcₚ := 51) (fun _ => x_iconst rfl) ?_
          refine Ew_of (pcₚ := 53) (fun _ => x_bipush (z := 10) rfl (by decide)) ?_
          refine Ew_of (pcₚ := 54) (fun _ => x_aload_n rfl (rk_o (rfl) rfl rfl)) ?_
          refine w_gT H (o := 0) (t := 12) rfl (H.perm 0 rfl) rfl rfl rfl rfl rfl rfl ?_
          refine Ew_of (pcₚ := 59) (fun _ => x_bipush (z := 8) rfl (by decide)) ?_
          refine w_lI H (o := 12) (n := 10) rfl (H.perm 12 rfl) rfl rfl (H.fix 12 rfl rfl) (show 0 ≤ 8 ∧ 8 < ((10 : Nat) : Int) from q_2365) (by decide) (fun v32 ev32 qv32 => ?_)
          have qv32 : (-2147483648 : Int) ≤ v32 ∧ v32 ≤ 2147483647 := qv32
          have ev32 : (w12) (8) = v32 := (congrFun ((funext (hA10 12 rfl)).trans ((funext (hA4 12 rfl)).trans (ew12))) (8)).symm.trans ev32
          have hw8 := ev32
          refine w_iadd rfl ?_
          have : p2 (((10 + v32))) ≤ p2 21 := p2_mono (by omega)
          have : p2 21 = 2097152 := by decide
          have := p2_pos (((10 + v32)))
          have hpe : p2 (((10 + v32))) = p2 (10 + ((w12)) 8) := by congr 1; omega
          have hpp := p2_pos (((10 + v32)))
          refine w_ishl1 rfl (show 0 ≤ (10 + v32) ∧ (10 + v32) ≤ 31 by omega) ?_
          have hWN : ((p2 ((10 + v32))) : Int) = WND ((w12)) ((a2)) := by unfold WND; rw [hw7]; first | (rw [if_pos (by omega), hw8]) | (rw [if_neg (by omega)])
          exact hc62 (p2 ((10 + v32))) _ σ _ _  (rk_o (rfl) rfl rfl) (rk_o (rfl) rfl rfl) (rk_o (rfl) rfl rfl) (rk_s) H (SF_refl) (SA_refl)   (show inr (p2 ((10 + v32))) by omega) (show (p2 ((10 + v32))) = WND ((w12)) ((a2)) by omega) (show 0 ≤ (p2 ((10 + v32))) ∧ (p2 ((10 + v32))) ≤ 2097152 by omega) (show (a2) = 0 ∨ 1 ≤ (p2 ((10 + v32))) by omega)
        · refine Ew_of (pcₚ := 47) (fun _ => x_iload_n rfl (rk_o (rfl) rfl rfl)) ?_
          refine Ew_of (pcₚ := 62) (fun _ => x_goto rfl rfl) ?_
          have hWN : ((a2) : Int) = WND ((w12)) ((a2)) := by unfold WND; rw [hw7]; first | (rw [if_pos (by omega), hw8]) | (rw [if_neg (by omega)])
          exact hc62 (a2) _ σ _ _  (rk_o (rfl) rfl rfl) (rk_o (rfl) rfl rfl) (rk_o (rfl) rfl rfl) (rk_s) H (SF_refl) (SA_refl)   (show inr (a2) from h1) (show (a2) = WND ((w12)) ((a2)) from hWN) (show 0 ≤ (a2) ∧ (a2) ≤ 2097152 by omega) (show (a2) = 0 ∨ 1 ≤ (a2) by omega)
    · refine Ew_of (pcₚ := 21) (fun _ => x_iconst rfl) ?_
      have hBA : (((-1)) : Int) = BNA ((w12)) ((a1)) ((a2)) := by unfold BNA; rw [if_neg (by omega)]
      exact w_ireturn rfl (k ((-1)) σ _ _ H (SF_trans (SF_trans (SF_refl) hS3 (any_sub rfl)) hS9 (any_sub rfl)) (SA_trans (SA_trans (SA_refl) hA4 (any_subA rfl)) hA10 (any_subA rfl)) (show inr ((-1)) from q_63) (show ((-1)) = BNA ((w12)) (a1) (a2) from hBA))

theorem M81p {σ0 σ : rS} {D N : Nat → Nat} {F : hF} {A : hA} {d c s : Nat} {Q : wQ} (H : HS σ0 σ D N F A) {a1 a2 a3 : Int} (u0_10 : Int) (eu0_10 : F 0 10 = u0_10) (u0_11 : Int) (eu0_11 : F 0 11 = u0_11) (u3_2 : Int) (eu3_2 : F 3 2 = u3_2) (u4_5 : Int) (eu4_5 : F 4 5 = u4_5) (u5_2 : Int) (eu5_2 : F 5 2 = u5_2) (u5_3 : Int) (eu5_3 : F 5 3 = u5_3) (u5_4 : Int) (eu5_4 : F 5 4 = u5_4) (u5_27 : Int) (eu5_27 : F 5 27 = u5_27) (u5_32 : Int) (eu5_32 : F 5 32 = u5_32) (u5_33 : Int) (eu5_33 : F 5 33 = u5_33) (u5_34 : Int) (eu5_34 : F 5 34 = u5_34) (u5_36 : Int) (eu5_36 : F 5 36 = u5_36) (u6_4 : Int) (eu6_4 : F 6 4 = u6_4) (u6_5 : Int) (eu6_5 : F 6 5 = u6_5) (u6_6 : Int) (eu6_6 : F 6 6 = u6_6) (u6_35 : Int) (eu6_35 : F 6 35 = u6_35) (w10 : Int → Int) (ew10 : A 10 = w10) (w11 : Int → Int) (ew11 : A 11 = w11) (w12 : Int → Int) (ew12 : A 12 = w12) (w16 : Int → Int) (ew16 : A 16 = w16) (w24 : Int → Int) (ew24 : A 24 = w24) (w25 : Int → Int) (ew25 : A 25 = w25) (w26 : Int → Int) (ew26 : A 26 = w26) (w27 : Int → Int) (ew27 : A 27 = w27) (w28 : Int → Int) (ew28 : A 28 = w28) (w29 : Int → Int) (ew29 : A 29 = w29) (w30 : Int → Int) (ew30 : A 30 = w30) (w34 : Int → Int) (ew34 : A 34 = w34) (w35 : Int → Int) (ew35 : A 35 = w35) (w36 : Int → Int) (ew36 : A 36 = w36) (w37 : Int → Int) (ew37 : A 37 = w37) (w48 : Int → Int) (ew48 : A 48 = w48) (w49 : Int → Int) (ew49 : A 49 = w49) (w50 : Int → Int) (ew50 : A 50 = w50) (w51 : Int → Int) (ew51 : A 51 = w51) (w52 : Int → Int) (ew52 : A 52 = w52) (w69 : Int → Int) (ew69 : A 69 = w69) (w88 : Int → Int) (ew88 : A 88 = w88) (Dc : DcS) (h0 : inr (a1)) (h1 : inr (a2)) (h2 : inr (a3)) (h3 : RT ((w35)) ((w36)) ((w37)) ((w34))) (h4 : DI ((u5_4)) ((w27)) ((w28)) ((w29)) ((w30))) (h5 : DW ((u6_6)) ((w49)) ((w50)) ((w51))) (h6 : SE ((w12))) (h7 : andI (((w12)) 3) 2 = 0) (h8 : (u6_4) = (u5_2)) (h9 : KQ bN ((w24)) ((u4_5))) (h10 : KQ bF ((w25)) ((u4_5))) (h11 : RDI Dc ((u5_4)) ((u5_3)) ((w26)) ((u5_2)) ((w27)) ((w28)) ((w29)) ((w30))) (h12 : DCo Dc) (h13 : DCl Dc) (h14 : WEQ ((u6_6)) ((u6_5)) ((u6_4)) ((w48)) ((w49)) ((w50)) ((w51)) ((w52)) ((u5_4)) ((u5_3)) ((u5_2)) ((w26)) ((w27)) ((w28)) ((w29)) ((w30))) (h15 : MDX ((w69)) ((u6_35))) (k : ∀ (z : Int) σ Fₚ Aₚ, HS σ0 σ D N Fₚ Aₚ → SF [(0, 10), (0, 11), (1, 1), (1, 3), (1, 4), (3, 5), (3, 6), (3, 8), (3, 10), (3, 12), (3, 14), (3, 15), (3, 16), (4, 2), (4, 5), (4, 6), (4, 7), (4, 8), (4, 9), (4, 10), (4, 11), (5, 10), (5, 19), (5, 25), (5, 26), (5, 27), (5, 28), (5, 29), (5, 30), (5, 31), (5, 32), (5, 33), (5, 34), (5, 35), (5, 36), (5, 39), (5, 40), (5, 41), (5, 42), (5, 43), (5, 44), (5, 45), (6, 1), (6, 2), (6, 12), (6, 17), (6, 22), (6, 23), (6, 24), (6, 28), (6, 30), (6, 35), (6, 37), (6, 49), (6, 53)] F Fₚ → SA [10, 11, 13, 14, 15, 17, 18, 19, 20, 21, 22, 23, 24, 25, 31, 32, 33, 34, 35, 36, 37, 38, 39, 40, 41, 42, 43, 44, 45, 46, 47, 53, 54, 55, 56, 57, 58, 59, 60, 61, 62, 63, 64, 65, 66, 67, 68, 69, 70, 71, 72, 73, 74, 75, 76, 77, 78, 79, 80, 81, 82, 83, 84, 85, 86, 87, 88] A Aₚ → ∀ y0_10 : Int, Fₚ 0 10 = y0_10 → ∀ y0_11 : Int, Fₚ 0 11 = y0_11 → ∀ y4_5 : Int, Fₚ 4 5 = y4_5 → ∀ y5_27 : Int, Fₚ 5 27 = y5_27 → ∀ y5_32 : Int, Fₚ 5 32 = y5_32 → ∀ y5_33 : Int, Fₚ 5 33 = y5_33 → ∀ y5_34 : Int, Fₚ 5 34 = y5_34 → ∀ y5_36 : Int, Fₚ 5 36 = y5_36 → ∀ y6_35 : Int, Fₚ 6 35 = y6_35 → ∀ v10 : Int → Int, Aₚ 10 = v10 → ∀ v11 : Int → Int, Aₚ 11 = v11 → ∀ v24 : Int → Int, Aₚ 24 = v24 → ∀ v25 : Int → Int, Aₚ 25 = v25 → ∀ v34 : Int → Int, Aₚ 34 = v34 → ∀ v35 : Int → Int, Aₚ 35 = v35 → ∀ v36 : Int → Int, Aₚ 36 = v36 → ∀ v37 : Int → Int, Aₚ 37 = v37 → ∀ v69 : Int → Int, Aₚ 69 = v69 → ∀ v88 : Int → Int, Aₚ 88 = v88 → (inr (z)) → (RT ((v35)) ((v36)) ((v37)) ((v34))) → (KQ bN ((v24)) ((y4_5))) → (KQ bF ((v25)) ((y4_5))) → (WRP WRX (rwR ((w10)) ((w11))) (rwR ((v10)) ((v11))) ((a1)) ((a2)) ((a3)) ((w12)) (sc ((w16)) 0 ((u3_2))) Dc (bgS ((u6_6)) ((w49)) ((w50)) ((w51)) ((w52)) (fun _ => 0)) ((z)) ((u0_10)) ((y0_10)) ((u0_11)) ((y0_11)) ((w88)) ((v88))) → (MDX ((v69)) ((y6_35))) → (((y5_32), (y5_33), (y5_34), (y5_27), (y5_36)) = ((u5_32), (u5_33), (u5_34), (u5_27), (u5_36))) → Q (some (I z)) σ c s) : Ew 81 (d + 13) 0 (rargs 0 [.ref (D 0), I a1, I a2, I a3]) [] σ c s Q := by
  have r1 : (-2147483648 : Int) ≤ u0_10 ∧ u0_10 ≤ 2147483647 := rngE (show (-2147483648 : Int) ≤ F 0 10 ∧ F 0 10 ≤ 2147483647 from H.frng 0 10) (show F 0 10 = u0_10 from (eu0_10))
  have r2 : (-2147483648 : Int) ≤ u0_11 ∧ u0_11 ≤ 2147483647 := rngE (show (-2147483648 : Int) ≤ F 0 11 ∧ F 0 11 ≤ 2147483647 from H.frng 0 11) (show F 0 11 = u0_11 from (eu0_11))
  have r3 : (0 : Int) ≤ u3_2 ∧ u3_2 ≤ 65536 := rngE (show (0 : Int) ≤ F 3 2 ∧ F 3 2 ≤ 65536 from H.frng 3 2) (show F 3 2 = u3_2 from (eu3_2))
  have r4 : (0 : Int) ≤ u4_5 ∧ u4_5 ≤ 16384 := rngE (show (0 : Int) ≤ F 4 5 ∧ F 4 5 ≤ 16384 from H.frng 4 5) (show F 4 5 = u4_5 from (eu4_5))
  have r5 : (0 : Int) ≤ u5_2 ∧ u5_2 ≤ 65536 := rngE (show (0 : Int) ≤ F 5 2 ∧ F 5 2 ≤ 65536 from H.frng 5 2) (show F 5 2 = u5_2 from (eu5_2))
  have r6 : (-2147483648 : Int) ≤ u5_3 ∧ u5_3 ≤ 2147483647 := rngE (show (-2147483648 : Int) ≤ F 5 3 ∧ F 5 3 ≤ 2147483647 from H.frng 5 3) (show F 5 3 = u5_3 from (eu5_3))
  have r7 : (0 : Int) ≤ u5_4 ∧ u5_4 ≤ 1 := rngE (show (0 : Int) ≤ F 5 4 ∧ F 5 4 ≤ 1 from H.frng 5 4) (show F 5 4 = u5_4 from (eu5_4))
  have r8 : (0 : Int) ≤ u5_27 ∧ u5_27 ≤ 65536 := rngE (show (0 : Int) ≤ F 5 27 ∧ F 5 27 ≤ 65536 from H.frng 5 27) (show F 5 27 = u5_27 from (eu5_27))
  have r9 : (-2147483648 : Int) ≤ u5_32 ∧ u5_32 ≤ 2147483647 := rngE (show (-2147483648 : Int) ≤ F 5 32 ∧ F 5 32 ≤ 2147483647 from H.frng 5 32) (show F 5 32 = u5_32 from (eu5_32))
  have r10 : (-2147483648 : Int) ≤ u5_33 ∧ u5_33 ≤ 2147483647 := rngE (show (-2147483648 : Int) ≤ F 5 33 ∧ F 5 33 ≤ 2147483647 from H.frng 5 33) (show F 5 33 = u5_33 from (eu5_33))
  have r11 : (-2147483648 : Int) ≤ u5_34 ∧ u5_34 ≤ 2147483647 := rngE (show (-2147483648 : Int) ≤ F 5 34 ∧ F 5 34 ≤ 2147483647 from H.frng 5 34) (show F 5 34 = u5_34 from (eu5_34))
  have r12 : (-2147483648 : Int) ≤ u5_36 ∧ u5_36 ≤ 2147483647 := rngE (show (-2147483648 : Int) ≤ F 5 36 ∧ F 5 36 ≤ 2147483647 from H.frng 5 36) (show F 5 36 = u5_36 from (eu5_36))
  have r13 : (0 : Int) ≤ u6_4 ∧ u6_4 ≤ 65536 := rngE (show (0 : Int) ≤ F 6 4 ∧ F 6 4 ≤ 65536 from H.frng 6 4) (show F 6 4 = u6_4 from (eu6_4))
  have r14 : (-2147483648 : Int) ≤ u6_5 ∧ u6_5 ≤ 2147483647 := rngE (show (-2147483648 : Int) ≤ F 6 5 ∧ F 6 5 ≤ 2147483647 from H.frng 6 5) (show F 6 5 = u6_5 from (eu6_5))
  have r15 : (0 : Int) ≤ u6_6 ∧ u6_6 ≤ 1 := rngE (show (0 : Int) ≤ F 6 6 ∧ F 6 6 ≤ 1 from H.frng 6 6) (show F 6 6 = u6_6 from (eu6_6))
  have r16 : (0 : Int) ≤ u6_35 ∧ u6_35 ≤ 100000000 := rngE (show (0 : Int) ≤ F 6 35 ∧ F 6 35 ≤ 100000000 from H.frng 6 35) (show F 6 35 = u6_35 from (eu6_35))
  have hSz : ∀ i, (0 : Int) ≤ (w11) i ∧ (w11) i ≤ 65536 := fun i => by have h1 : (0 : Int) ≤ A 11 i ∧ A 11 i ≤ 65536 := H.arng 11 i; rw [show A 11 = w11 from ew11] at h1; exact h1
  have hs2 := hSz ((a2))
  have hln : ((rwR ((w10)) ((w11)) ((a2))).length : Int) = ((w11)) ((a2)) := rwR_len (hSz ((a2))).1
  have hhl : ((sc ((w16)) 0 ((u3_2))).length : Int) = (u3_2) := by rw [sc_lenI (by omega)]; omega
  have hrd : RDI Dc ((u5_4)) ((u5_3)) ((w26)) ((u5_2)) ((w27)) ((w28)) ((w29)) ((w30)) := h11
  have hdl : (Dc.1.length : Int) = (u5_2) := by rw [hrd.1, sc_lenI (by omega)]; omega
  have hwe : WEQ ((u6_6)) ((u6_5)) ((u6_4)) ((w48)) ((w49)) ((w50)) ((w51)) ((w52)) ((u5_4)) ((u5_3)) ((u5_2)) ((w26)) ((w27)) ((w28)) ((w29)) ((w30)) := h14
  have hltw : (u6_6) = 0 ∨ 1 ≤ ((w52)) 0 ∧ 1 ≤ ((w52)) 1 ∧ 1 ≤ ((w52)) 2 := LTW_of hwe hrd (by assumption)
  refine Ew_of (pcₚ := 1) (fun _ => x_iload_n rfl rfl) ?_
  refine w_stat24 rfl rfl (by rfl) (M56p H (show inr (a1) from h0) (fun z21 σ F17 A18 H hS19 hA20 pz21_0 pz21_1 => ⟨rretB rfl pz21_0, ?_⟩))
  refine w_ifeq (t := 41) rfl rfl (show inr (z21) from q_138 pz21_0) (fun b22 => ?_) (fun b22 => ?_)
  · refine Ew_of (pcₚ := 42) (fun _ => x_iconst rfl) ?_
    have : WRP WRX (rwR ((w10)) ((w11))) (rwR ((w10)) ((w11))) ((a1)) ((a2)) ((a3)) ((w12)) (sc ((w16)) 0 ((u3_2))) Dc (bgS ((u6_6)) ((w49)) ((w50)) ((w51)) ((w52)) (fun _ => 0)) (-1) ((u0_10)) ((u0_10)) ((u0_11)) ((u0_11)) ((w88)) ((w88)) := .inl ⟨fun q => (by obtain ⟨q1, q2, q3, q4⟩ := q; unfold okd at q1 q2; first | omega | (rw [hwa, hln] at q4; omega)), rfl, RWS_r, rfl, rfl, fun _ _ _ => rfl⟩
    have : ((u5_32), (u5_33), (u5_34), (u5_27), (u5_36)) = ((u5_32), (u5_33), (u5_34), (u5_27), (u5_36)) := rfl
    exact w_ireturn rfl (k ((-1)) σ _ _ H (SF_trans (SF_refl) hS19 (any_sub rfl)) (SA_trans (SA_refl) hA20 (any_subA rfl)) (u0_10) (((hS19 0 10 rfl).trans (eu0_10))) (u0_11) (((hS19 0 11 rfl).trans (eu0_11))) (u4_5) (((hS19 4 5 rfl).trans (eu4_5))) (u5_27) (((hS19 5 27 rfl).trans (eu5_27))) (u5_32) (((hS19 5 32 rfl).trans (eu5_32))) (u5_33) (((hS19 5 33 rfl).trans (eu5_33))) (u5_34) (((hS19 5 34 rfl).trans (eu5_34))) (u5_36) (((hS19 5 36 rfl).trans (eu5_36))) (u6_35) (((hS19 6 35 rfl).trans (eu6_35))) (w10) ((funext (hA20 10 rfl)).trans (ew10)) (w11) ((funext (hA20 11 rfl)).trans (ew11)) (w24) ((funext (hA20 24 rfl)).trans (ew24)) (w25) ((funext (hA20 25 rfl)).trans (ew25)) (w34) ((funext (hA20 34 rfl)).trans (ew34)) (w35) ((funext (hA20 35 rfl)).trans (ew35)) (w36) ((funext (hA20 36 rfl)).trans (ew36)) (w37) ((funext (hA20 37 rfl)).trans (ew37)) (w69) ((funext (hA20 69 rfl)).trans (ew69)) (w88) ((funext (hA20 88 rfl)).trans (ew88)) (show inr ((-1)) from q_63) (h3) (show KQ bN ((w24)) ((u4_5)) by assumption) (h10) (show WRP WRX (rwR ((w10)) ((w11))) (rwR ((w10)) ((w11))) (a1) (a2) (a3) ((w12)) (sc ((w16)) 0 ((u3_2))) Dc (bgS ((u6_6)) ((w49)) ((w50)) ((w51)) ((w52)) (fun _ => 0)) (((-1))) ((u0_10)) ((u0_10)) ((u0_11)) ((u0_11)) ((w88)) ((w88)) by assumption) (h15) (show ((u5_32), (u5_33), (u5_34), (u5_27), (u5_36)) = ((u5_32), (u5_33), (u5_34), (u5_27), (u5_36)) by assumption))
  · refine Ew_of (pcₚ := 8) (fun _ => x_iload_n rfl rfl) ?_
    refine w_stat24 rfl rfl (by rfl) (M56p H (show inr (a2) from h1) (fun z27 σ F23 A24 H hS25 hA26 pz27_0 pz27_1 => ⟨rretB rfl pz27_0, ?_⟩))
    refine w_ifeq (t := 41) rfl rfl (show inr (z27) from q_138 pz27_0) (fun b28 => ?_) (fun b28 => ?_)
    · refine Ew_of (pcₚ := 42) (fun _ => x_iconst rfl) ?_
      have : WRP WRX (rwR ((w10)) ((w11))) (rwR ((w10)) ((w11))) ((a1)) ((a2)) ((a3)) ((w12)) (sc ((w16)) 0 ((u3_2))) Dc (bgS ((u6_6)) ((w49)) ((w50)) ((w51)) ((w52)) (fun _ => 0)) (-1) ((u0_10)) ((u0_10)) ((u0_11)) ((u0_11)) ((w88)) ((w88)) := .inl ⟨fun q => (by obtain ⟨q1, q2, q3, q4⟩ := q; unfold okd at q1 q2; first | omega | (rw [hwa, hln] at q4; omega)), rfl, RWS_r, rfl, rfl, fun _ _ _ => rfl⟩
      have : ((u5_32), (u5_33), (u5_34), (u5_27), (u5_36)) = ((u5_32), (u5_33), (u5_34), (u5_27), (u5_36)) := rfl
      exact w_ireturn rfl (k ((-1)) σ _ _ H (SF_trans (SF_trans (SF_refl) hS19 (any_sub rfl)) hS25 (any_sub rfl)) (SA_trans (SA_trans (SA_refl) hA20 (any_subA rfl)) hA26 (any_subA rfl)) (u0_10) ((((hS25 0 10 rfl).trans (hS19 0 10 rfl)).trans (eu0_10))) (u0_11) ((((hS25 0 11 rfl).trans (hS19 0 11 rfl)).trans (eu0_11))) (u4_5) ((((hS25 4 5 rfl).trans (hS19 4 5 rfl)).trans (eu4_5))) (u5_27) ((((hS25 5 27 rfl).trans (hS19 5 27 rfl)).trans (eu5_27))) (u5_32) ((((hS25 5 32 rfl).trans (hS19 5 32 rfl)).trans (eu5_32))) (u5_33) ((((hS25 5 33 rfl).trans (hS19 5 33 rfl)).trans (eu5_33))) (u5_34) ((((hS25 5 34 rfl).trans (hS19 5 34 rfl)).trans (eu5_34))) (u5_36) ((((hS25 5 36 rfl).trans (hS19 5 36 rfl)).trans (eu5_36))) (u6_35) ((((hS25 6 35 rfl).trans (hS19 6 35 rfl)).trans (eu6_35))) (w10) ((funext (hA26 10 rfl)).trans ((funext (hA20 10 rfl)).trans (ew10))) (w11) ((funext (hA26 11 rfl)).trans ((funext (hA20 11 rfl)).trans (ew11))) (w24) ((funext (hA26 24 rfl)).trans ((funext (hA20 24 rfl)).trans (ew24))) (w25) ((funext (hA26 25 rfl)).trans ((funext (hA20 25 rfl)).trans (ew25))) (w34) ((funext (hA26 34 rfl)).trans ((funext (hA20 34 rfl)).trans (ew34))) (w35) ((funext (hA26 35 rfl)).trans ((funext (hA20 35 rfl)).trans (ew35))) (w36) ((funext (hA26 36 rfl)).trans ((funext (hA20 36 rfl)).trans (ew36))) (w37) ((funext (hA26 37 rfl)).trans ((funext (hA20 37 rfl)).trans (ew37))) (w69) ((funext (hA26 69 rfl)).trans ((funext (hA20 69 rfl)).trans (ew69))) (w88) ((funext (hA26 88 rfl)).trans ((funext (hA20 88 rfl)).trans (ew88))) (show inr ((-1)) from q_63) (h3) (show KQ bN ((w24)) ((u4_5)) by assumption) (h10) (show WRP WRX (rwR ((w10)) ((w11))) (rwR ((w10)) ((w11))) (a1) (a2) (a3) ((w12)) (sc ((w16)) 0 ((u3_2))) Dc (bgS ((u6_6)) ((w49)) ((w50)) ((w51)) ((w52)) (fun _ => 0)) (((-1))) ((u0_10)) ((u0_10)) ((u0_11)) ((u0_11)) ((w88)) ((w88)) by assumption) (h15) (show ((u5_32), (u5_33), (u5_34), (u5_27), (u5_36)) = ((u5_32), (u5_33), (u5_34), (u5_27), (u5_36)) by assumption))
    · refine Ew_of (pcₚ := 15) (fun _ => x_iload_n rfl rfl) ?_
      refine Ew_of (pcₚ := 16) (fun _ => x_iconst rfl) ?_
      refine Ew_of (pcₚ := 17) (fun _ => x_iconst rfl) ?_
      refine w_stat24 rfl rfl (by rfl) (M67p H (show inr (a3) from h2) (show inr (0) from q_2) (show inr (5) from q_727) (fun z33 σ F29 A30 H hS31 hA32 pz33_0 pz33_1 => ⟨rretB rfl pz33_0, ?_⟩))
      refine w_ifeq (t := 41) rfl rfl (show inr (z33) from q_138 pz33_0) (fun b34 => ?_) (fun b34 => ?_)
      · refine Ew_of (pcₚ := 42) (fun _ => x_iconst rfl) ?_
        have : WRP WRX (rwR ((w10)) ((w11))) (rwR ((w10)) ((w11))) ((a1)) ((a2)) ((a3)) ((w12)) (sc ((w16)) 0 ((u3_2))) Dc (bgS ((u6_6)) ((w49)) ((w50)) ((w51)) ((w52)) (fun _ => 0)) (-1) ((u0_10)) ((u0_10)) ((u0_11)) ((u0_11)) ((w88)) ((w88)) := .inl ⟨fun q => (by obtain ⟨q1, q2, q3, q4⟩ := q; unfold okd at q1 q2; first | omega | (rw [hwa, hln] at q4; omega)), rfl, RWS_r, rfl, rfl, fun _ _ _ => rfl⟩
        have : ((u5_32), (u5_33), (u5_34), (u5_27), (u5_36)) = ((u5_32), (u5_33), (u5_34), (u5_27), (u5_36)) := rfl
        exact w_ireturn rfl (k ((-1)) σ _ _ H (SF_trans (SF_trans (SF_trans (SF_refl) hS19 (any_sub rfl)) hS25 (any_sub rfl)) hS31 (any_sub rfl)) (SA_trans (SA_trans (SA_trans (SA_refl) hA20 (any_subA rfl)) hA26 (any_subA rfl)) hA32 (any_subA rfl)) (u0_10) (((((hS31 0 10 rfl).trans (hS25 0 10 rfl)).trans (hS19 0 10 rfl)).trans (eu0_10))) (u0_11) (((((hS31 0 11 rfl).trans (hS25 0 11 rfl)).trans (hS19 0 11 rfl)).trans (eu0_11))) (u4_5) (((((hS31 4 5 rfl).trans (hS25 4 5 rfl)).trans (hS19 4 5 rfl)).trans (eu4_5))) (u5_27) (((((hS31 5 27 rfl).trans (hS25 5 27 rfl)).trans (hS19 5 27 rfl)).trans (eu5_27))) (u5_32) (((((hS31 5 32 rfl).trans (hS25 5 32 rfl)).trans (hS19 5 32 rfl)).trans (eu5_32))) (u5_33) (((((hS31 5 33 rfl).trans (hS25 5 33 rfl)).trans (hS19 5 33 rfl)).trans (eu5_33))) (u5_34) (((((hS31 5 34 rfl).trans (hS25 5 34 rfl)).trans (hS19 5 34 rfl)).trans (eu5_34))) (u5_36) (((((hS31 5 36 rfl).trans (hS25 5 36 rfl)).trans (hS19 5 36 rfl)).trans (eu5_36))) (u6_35) (((((hS31 6 35 rfl).trans (hS25 6 35 rfl)).trans (hS19 6 35 rfl)).trans (eu6_35))) (w10) ((funext (hA32 10 rfl)).trans ((funext (hA26 10 rfl)).trans ((funext (hA20 10 rfl)).trans (ew10)))) (w11) ((funext (hA32 11 rfl)).trans ((funext (hA26 11 rfl)).trans ((funext (hA20 11 rfl)).trans (ew11)))) (w24) ((funext (hA32 24 rfl)).trans ((funext (hA26 24 rfl)).trans ((funext (hA20 24 rfl)).trans (ew24)))) (w25) ((funext (hA32 25 rfl)).trans ((funext (hA26 25 rfl)).trans ((funext (hA20 25 rfl)).trans (ew25)))) (w34) ((funext (hA32 34 rfl)).trans ((funext (hA26 34 rfl)).trans ((funext (hA20 34 rfl)).trans (ew34)))) (w35) ((funext (hA32 35 rfl)).trans ((funext (hA26 35 rfl)).trans ((funext (hA20 35 rfl)).trans (ew35)))) (w36) ((funext (hA32 36 rfl)).trans ((funext (hA26 36 rfl)).trans ((funext (hA20 36 rfl)).trans (ew36)))) (w37) ((funext (hA32 37 rfl)).trans ((funext (hA26 37 rfl)).trans ((funext (hA20 37 rfl)).trans (ew37)))) (w69) ((funext (hA32 69 rfl)).trans ((funext (hA26 69 rfl)).trans ((funext (hA20 69 rfl)).trans (ew69)))) (w88) ((funext (hA32 88 rfl)).trans ((funext (hA26 88 rfl)).trans ((funext (hA20 88 rfl)).trans (ew88)))) (show inr ((-1)) from q_63) (h3) (show KQ bN ((w24)) ((u4_5)) by assumption) (h10) (show WRP WRX (rwR ((w10)) ((w11))) (rwR ((w10)) ((w11))) (a1) (a2) (a3) ((w12)) (sc ((w16)) 0 ((u3_2))) Dc (bgS ((u6_6)) ((w49)) ((w50)) ((w51)) ((w52)) (fun _ => 0)) (((-1))) ((u0_10)) ((u0_10)) ((u0_11)) ((u0_11)) ((w88)) ((w88)) by assumption) (h15) (show ((u5_32), (u5_33), (u5_34), (u5_27), (u5_36)) = ((u5_32), (u5_33), (u5_34), (u5_27), (u5_36)) by assumption))
      · refine Ew_of (pcₚ := 24) (fun _ => x_aload_n rfl rfl) ?_
        refine w_gT H (o := 0) (t := 11) rfl (H.perm 0 rfl) rfl rfl rfl rfl rfl rfl ?_
        refine Ew_of (pcₚ := 28) (fun _ => x_iload_n rfl rfl) ?_
        refine w_lI H (o := 11) (n := 4) rfl (H.perm 11 rfl) rfl rfl (H.fix 11 rfl rfl) (show 0 ≤ a2 ∧ a2 < ((4 : Nat) : Int) by omega) (by decide) (fun v35 ev35 qv35 => ?_)
        have qv35 : (0 : Int) ≤ v35 ∧ v35 ≤ 65536 := qv35
        have ev35 : (w11) (a2) = v35 := (congrFun ((funext (hA32 11 rfl)).trans ((funext (hA26 11 rfl)).trans ((funext (hA20 11 rfl)).trans (ew11)))) (a2)).symm.trans ev35
        have hv28 := ev35
        refine Ew_of (pcₚ := 30) (fun _ => x_aload_n rfl rfl) ?_
        refine Ew_of (pcₚ := 31) (fun _ => x_iload_n rfl rfl) ?_
        refine w_inv H (o := 0) rfl rfl rfl (H.perm 0 rfl) rfl rfl (by rfl) (M79 H (u3_2) (((((hS31 3 2 rfl).trans (hS25 3 2 rfl)).trans (hS19 3 2 rfl)).trans (eu3_2))) (u5_2) (((((hS31 5 2 rfl).trans (hS25 5 2 rfl)).trans (hS19 5 2 rfl)).trans (eu5_2))) (show inr (a3) from h2) (fun z40 σ F36 A37 H hS38 hA39 pz40_0 pz40_1 pz40_2 => ⟨rfl, ?_⟩))
        have hwa : wrA ((a3)) (sc ((w16)) 0 ((u3_2))) Dc = (z40) := wrA_e (by have := pz40_2; omega)
        refine w_iadd rfl ?_
        refine Ew_of (pcₚ := 38) (fun _ => x_sipush (z := 16384) rfl (by decide)) ?_
        refine w_icmple (t := 43) rfl rfl (show inr ((v35 + z40)) from q_2894 pz40_1 qv35) (show inr (16384) from q_80) (fun b41 => ?_) (fun b41 => ?_)
        · have hse : SE ((w12)) := h6
          unfold SE at hse
          have hok : okd ((a1)) ∧ okd ((a2)) ∧ (0 ≤ (a3) ∧ (a3) ≤ 5) ∧ ((rwR ((w10)) ((w11)) ((a2))).length : Int) + wrA ((a3)) (sc ((w16)) 0 ((u3_2))) Dc ≤ 16384 := ⟨⟨by omega, by omega⟩, ⟨by omega, by omega⟩, by omega, by rw [hwa, hln]; omega⟩
          refine Ew_of (pcₚ := 44) (fun _ => x_aload_n rfl rfl) ?_
          refine w_gT H (o := 0) (t := 11) rfl (H.perm 0 rfl) rfl rfl rfl rfl rfl rfl ?_
          refine Ew_of (pcₚ := 48) (fun _ => x_iload_n rfl rfl) ?_
          refine w_lI H (o := 11) (n := 4) rfl (H.perm 11 rfl) rfl rfl (H.fix 11 rfl rfl) (show 0 ≤ a2 ∧ a2 < ((4 : Nat) : Int) by omega) (by decide) (fun v42 ev42 qv42 => ?_)
          have qv42 : (0 : Int) ≤ v42 ∧ v42 ≤ 65536 := qv42
          have ev42 : (w11) (a2) = v42 := (congrFun ((funext (hA39 11 rfl)).trans ((funext (hA32 11 rfl)).trans ((funext (hA26 11 rfl)).trans ((funext (hA20 11 rfl)).trans (ew11))))) (a2)).symm.trans ev42
          have hv48 := ev42
          refine Ew_of (pcₚ := 51) (fun _ => x_istore rfl) ?_
          refine Ew_of (pcₚ := 52) (fun _ => x_aload_n rfl (rk_o (rfl) rfl rfl)) ?_
          refine Ew_of (pcₚ := 53) (fun _ => x_iload_n rfl (rk_o (rfl) rfl rfl)) ?_
          refine Ew_of (pcₚ := 55) (fun _ => x_iload rfl rk_s) ?_
          refine w_inv H (o := 0) rfl rfl rfl (H.perm 0 rfl) rfl rfl (by rfl) (M89p H (w12) ((funext (hA39 12 rfl)).trans ((funext (hA32 12 rfl)).trans ((funext (hA26 12 rfl)).trans ((funext (hA20 12 rfl)).trans (ew12))))) (show inr (a3) from h2) (show inr (v42) from q_286 qv42) (h6) (fun z47 σ F43 A44 H hS45 hA46 pz47_0 pz47_1 => ⟨rfl, ?_⟩))
          have hbn := pz47_1
          refine Ew_of (pcₚ := 60) (fun _ => x_istore rfl) ?_
          refine Ew_of (pcₚ := 61) (fun _ => x_aload_n rfl (rk_o (rk_o (rfl) rfl rfl) rfl rfl)) ?_
          refine Ew_of (pcₚ := 62) (fun _ => x_iload_n rfl (rk_o (rk_o (rfl) rfl rfl) rfl rfl)) ?_
          refine w_inv H (o := 0) rfl rfl rfl (H.perm 0 rfl) rfl rfl (by rfl) (M74p H (w10) ((funext (hA46 10 rfl)).trans ((funext (hA39 10 rfl)).trans ((funext (hA32 10 rfl)).trans ((funext (hA26 10 rfl)).trans ((funext (hA20 10 rfl)).trans (ew10)))))) (w11) ((funext (hA46 11 rfl)).trans ((funext (hA39 11 rfl)).trans ((funext (hA32 11 rfl)).trans ((funext (hA26 11 rfl)).trans ((funext (hA20 11 rfl)).trans (ew11)))))) (show inr (a2) from h1) (show 0 ≤ (a2) ∧ (a2) ≤ 3 by omega) (fun σ F48 A49 H hS50 hA51 y53 ey54 wq55 ewq56 pz52_0 pz52_1 => ⟨rfl, ?_⟩))
          have r57 : (0 : Int) ≤ y53 ∧ y53 ≤ 65536 := rngE (show (0 : Int) ≤ F48 1 1 ∧ F48 1 1 ≤ 65536 from H.frng 1 1) (show F48 1 1 = y53 from (ey54))
          have hld := pz52_1
          have hld0 := pz52_0
          refine Ew_of (pcₚ := 66) (fun _ => x_aload_n rfl (rk_o (rk_o (rfl) rfl rfl) rfl rfl)) ?_
          refine w_gT H (o := 0) (t := 6) rfl (H.perm 0 rfl) rfl rfl rfl rfl rfl rfl ?_
          refine Ew_of (pcₚ := 70) (fun _ => x_aload_n rfl (rk_o (rk_o (rfl) rfl rfl) rfl rfl)) ?_
          refine w_gT H (o := 0) (t := 12) rfl (H.perm 0 rfl) rfl rfl rfl rfl rfl rfl ?_
          refine Ew_of (pcₚ := 74) (fun _ => x_iconst rfl) ?_
          refine w_lI H (o := 12) (n := 10) rfl (H.perm 12 rfl) rfl rfl (H.fix 12 rfl rfl) (show 0 ≤ 0 ∧ 0 < ((10 : Nat) : Int) from q_2885) (by decide) (fun v58 ev58 qv58 => ?_)
          have qv58 : (-2147483648 : Int) ≤ v58 ∧ v58 ≤ 2147483647 := qv58
          have ev58 : (w12) (0) = v58 := (congrFun ((funext (hA51 12 rfl)).trans ((funext (hA46 12 rfl)).trans ((funext (hA39 12 rfl)).trans ((funext (hA32 12 rfl)).trans ((funext (hA26 12 rfl)).trans ((funext (hA20 12 rfl)).trans (ew12))))))) (0)).symm.trans ev58
          refine Ew_of (pcₚ := 76) (fun _ => x_aload_n rfl (rk_o (rk_o (rfl) rfl rfl) rfl rfl)) ?_
          refine w_gT H (o := 0) (t := 12) rfl (H.perm 0 rfl) rfl rfl rfl rfl rfl rfl ?_
          refine Ew_of (pcₚ := 80) (fun _ => x_iconst rfl) ?_
          refine w_lI H (o := 12) (n := 10) rfl (H.perm 12 rfl) rfl rfl (H.fix 12 rfl rfl) (show 0 ≤ 1 ∧ 1 < ((10 : Nat) : Int) from q_2895) (by decide) (fun v59 ev59 qv59 => ?_)
          have qv59 : (-2147483648 : Int) ≤ v59 ∧ v59 ≤ 2147483647 := qv59
          have ev59 : (w12) (1) = v59 := (congrFun ((funext (hA51 12 rfl)).trans ((funext (hA46 12 rfl)).trans ((funext (hA39 12 rfl)).trans ((funext (hA32 12 rfl)).trans ((funext (hA26 12 rfl)).trans ((funext (hA20 12 rfl)).trans (ew12))))))) (1)).symm.trans ev59
          refine w_inv H (o := 6) rfl rfl rfl (H.perm 6 rfl) rfl rfl (by rfl) (M387p H (show inr (v58) from q_18 qv58) (show inr (v59) from q_18 qv59) (show 0 ≤ (v58) ∧ (v58) ≤ 3 ∧ 0 ≤ (v59) ∧ (v59) ≤ 8 by omega) (fun σ F60 A61 H hS62 hA63 y65 ey66 y67 ey68 pz64_0 pz64_1 => ⟨rfl, ?_⟩))
          have r69 : (0 : Int) ≤ y65 ∧ y65 ≤ 3 := rngE (show (0 : Int) ≤ F60 6 1 ∧ F60 6 1 ≤ 3 from H.frng 6 1) (show F60 6 1 = y65 from (ey66))
          have r70 : (0 : Int) ≤ y67 ∧ y67 ≤ 8 := rngE (show (0 : Int) ≤ F60 6 2 ∧ F60 6 2 ≤ 8 from H.frng 6 2) (show F60 6 2 = y67 from (ey68))
          refine Ew_of (pcₚ := 85) (fun _ => x_aload_n rfl (rk_o (rk_o (rfl) rfl rfl) rfl rfl)) ?_
          refine Ew_of (pcₚ := 86) (fun _ => x_iload_n rfl (rk_o (rk_o (rfl) rfl rfl) rfl rfl)) ?_
          refine w_inv H (o := 0) rfl rfl rfl (H.perm 0 rfl) rfl rfl (by rfl) (M80p H (y53) (((hS62 1 1 rfl).trans (ey54))) (u3_2) (((((((((hS62 3 2 rfl).trans (hS50 3 2 rfl)).trans (hS45 3 2 rfl)).trans (hS38 3 2 rfl)).trans (hS31 3 2 rfl)).trans (hS25 3 2 rfl)).trans (hS19 3 2 rfl)).trans (eu3_2))) (u4_5) (((((((((hS62 4 5 rfl).trans (hS50 4 5 rfl)).trans (hS45 4 5 rfl)).trans (hS38 4 5 rfl)).trans (hS31 4 5 rfl)).trans (hS25 4 5 rfl)).trans (hS19 4 5 rfl)).trans (eu4_5))) (u5_2) (((((((((hS62 5 2 rfl).trans (hS50 5 2 rfl)).trans (hS45 5 2 rfl)).trans (hS38 5 2 rfl)).trans (hS31 5 2 rfl)).trans (hS25 5 2 rfl)).trans (hS19 5 2 rfl)).trans (eu5_2))) (u5_3) (((((((((hS62 5 3 rfl).trans (hS50 5 3 rfl)).trans (hS45 5 3 rfl)).trans (hS38 5 3 rfl)).trans (hS31 5 3 rfl)).trans (hS25 5 3 rfl)).trans (hS19 5 3 rfl)).trans (eu5_3))) (u5_4) (((((((((hS62 5 4 rfl).trans (hS50 5 4 rfl)).trans (hS45 5 4 rfl)).trans (hS38 5 4 rfl)).trans (hS31 5 4 rfl)).trans (hS25 5 4 rfl)).trans (hS19 5 4 rfl)).trans (eu5_4))) (y65) ((ey66)) (y67) ((ey68)) (u6_4) (((((((((hS62 6 4 rfl).trans (hS50 6 4 rfl)).trans (hS45 6 4 rfl)).trans (hS38 6 4 rfl)).trans (hS31 6 4 rfl)).trans (hS25 6 4 rfl)).trans (hS19 6 4 rfl)).trans (eu6_4))) (u6_5) (((((((((hS62 6 5 rfl).trans (hS50 6 5 rfl)).trans (hS45 6 5 rfl)).trans (hS38 6 5 rfl)).trans (hS31 6 5 rfl)).trans (hS25 6 5 rfl)).trans (hS19 6 5 rfl)).trans (eu6_5))) (u6_6) (((((((((hS62 6 6 rfl).trans (hS50 6 6 rfl)).trans (hS45 6 6 rfl)).trans (hS38 6 6 rfl)).trans (hS31 6 6 rfl)).trans (hS25 6 6 rfl)).trans (hS19 6 6 rfl)).trans (eu6_6))) (u6_35) (((((((((hS62 6 35 rfl).trans (hS50 6 35 rfl)).trans (hS45 6 35 rfl)).trans (hS38 6 35 rfl)).trans (hS31 6 35 rfl)).trans (hS25 6 35 rfl)).trans (hS19 6 35 rfl)).trans (eu6_35))) (w12) ((funext (hA63 12 rfl)).trans ((funext (hA51 12 rfl)).trans ((funext (hA46 12 rfl)).trans ((funext (hA39 12 rfl)).trans ((funext (hA32 12 rfl)).trans ((funext (hA26 12 rfl)).trans ((funext (hA20 12 rfl)).trans (ew12)))))))) (wq55) ((funext (hA63 14 rfl)).trans (ewq56)) (w16) ((funext (hA63 16 rfl)).trans ((funext (hA51 16 rfl)).trans ((funext (hA46 16 rfl)).trans ((funext (hA39 16 rfl)).trans ((funext (hA32 16 rfl)).trans ((funext (hA26 16 rfl)).trans ((funext (hA20 16 rfl)).trans (ew16)))))))) (w24) ((funext (hA63 24 rfl)).trans ((funext (hA51 24 rfl)).trans ((funext (hA46 24 rfl)).trans ((funext (hA39 24 rfl)).trans ((funext (hA32 24 rfl)).trans ((funext (hA26 24 rfl)).trans ((funext (hA20 24 rfl)).trans (ew24)))))))) (w25) ((funext (hA63 25 rfl)).trans ((funext (hA51 25 rfl)).trans ((funext (hA46 25 rfl)).trans ((funext (hA39 25 rfl)).trans ((funext (hA32 25 rfl)).trans ((funext (hA26 25 rfl)).trans ((funext (hA20 25 rfl)).trans (ew25)))))))) (w26) ((funext (hA63 26 rfl)).trans ((funext (hA51 26 rfl)).trans ((funext (hA46 26 rfl)).trans ((funext (hA39 26 rfl)).trans ((funext (hA32 26 rfl)).trans ((funext (hA26 26 rfl)).trans ((funext (hA20 26 rfl)).trans (ew26)))))))) (w27) ((funext (hA63 27 rfl)).trans ((funext (hA51 27 rfl)).trans ((funext (hA46 27 rfl)).trans ((funext (hA39 27 rfl)).trans ((funext (hA32 27 rfl)).trans ((funext (hA26 27 rfl)).trans ((funext (hA20 27 rfl)).trans (ew27)))))))) (w28) ((funext (hA63 28 rfl)).trans ((funext (hA51 28 rfl)).trans ((funext (hA46 28 rfl)).trans ((funext (hA39 28 rfl)).trans ((funext (hA32 28 rfl)).trans ((funext (hA26 28 rfl)).trans ((funext (hA20 28 rfl)).trans (ew28)))))))) (w29) ((funext (hA63 29 rfl)).trans ((funext (hA51 29 rfl)).trans ((funext (hA46 29 rfl)).trans ((funext (hA39 29 rfl)).trans ((funext (hA32 29 rfl)).trans ((funext (hA26 29 rfl)).trans ((funext (hA20 29 rfl)).trans (ew29)))))))) (w30) ((funext (hA63 30 rfl)).trans ((funext (hA51 30 rfl)).trans ((funext (hA46 30 rfl)).trans ((funext (hA39 30 rfl)).trans ((funext (hA32 30 rfl)).trans ((funext (hA26 30 rfl)).trans ((funext (hA20 30 rfl)).trans (ew30)))))))) (w48) ((funext (hA63 48 rfl)).trans ((funext (hA51 48 rfl)).trans ((funext (hA46 48 rfl)).trans ((funext (hA39 48 rfl)).trans ((funext (hA32 48 rfl)).trans ((funext (hA26 48 rfl)).trans ((funext (hA20 48 rfl)).trans (ew48)))))))) (w49) ((funext (hA63 49 rfl)).trans ((funext (hA51 49 rfl)).trans ((funext (hA46 49 rfl)).trans ((funext (hA39 49 rfl)).trans ((funext (hA32 49 rfl)).trans ((funext (hA26 49 rfl)).trans ((funext (hA20 49 rfl)).trans (ew49)))))))) (w50) ((funext (hA63 50 rfl)).trans ((funext (hA51 50 rfl)).trans ((funext (hA46 50 rfl)).trans ((funext (hA39 50 rfl)).trans ((funext (hA32 50 rfl)).trans ((funext (hA26 50 rfl)).trans ((funext (hA20 50 rfl)).trans (ew50)))))))) (w51) ((funext (hA63 51 rfl)).trans ((funext (hA51 51 rfl)).trans ((funext (hA46 51 rfl)).trans ((funext (hA39 51 rfl)).trans ((funext (hA32 51 rfl)).trans ((funext (hA26 51 rfl)).trans ((funext (hA20 51 rfl)).trans (ew51)))))))) (w52) ((funext (hA63 52 rfl)).trans ((funext (hA51 52 rfl)).trans ((funext (hA46 52 rfl)).trans ((funext (hA39 52 rfl)).trans ((funext (hA32 52 rfl)).trans ((funext (hA26 52 rfl)).trans ((funext (hA20 52 rfl)).trans (ew52)))))))) (w69) ((funext (hA63 69 rfl)).trans ((funext (hA51 69 rfl)).trans ((funext (hA46 69 rfl)).trans ((funext (hA39 69 rfl)).trans ((funext (hA32 69 rfl)).trans ((funext (hA26 69 rfl)).trans ((funext (hA20 69 rfl)).trans (ew69)))))))) (w88) ((funext (hA63 88 rfl)).trans ((funext (hA51 88 rfl)).trans ((funext (hA46 88 rfl)).trans ((funext (hA39 88 rfl)).trans ((funext (hA32 88 rfl)).trans ((funext (hA26 88 rfl)).trans ((funext (hA20 88 rfl)).trans (ew88)))))))) (Dc) (show inr (a3) from h2) (show 0 ≤ (a3) ∧ (a3) ≤ 5 by omega) (h6) (show andI (((w12)) 3) 2 = 0 from h7) (show 3 ≤ (y67) by omega) (h5) (show (a3) < 2 → (u3_2) + (y53) ≤ 16384 from q_2897 b41 ev35 pz40_2 pz52_0 r3 r57) (show (y53) ≤ 16384 from q_2896 b41 ev35 pz40_1 pz52_0) (show (a3) = 4 → (u6_4) + (y53) ≤ 16384 by omega) (h9) (show KQ bF ((w25)) ((u4_5)) by assumption) (hrd) (hwe) (h15) (show (y67) = ((w12)) 1 from q_5027 ev59 pz64_0) (show (y65) = ((w12)) 0 from q_5027 ev58 pz64_1) (show (u6_6) = 0 ∨ 1 ≤ ((w52)) 0 ∧ 1 ≤ ((w52)) 1 ∧ 1 ≤ ((w52)) 2 from hltw) (fun z75 σ F71 A72 H hS73 hA74 y76 ey77 y78 ey79 y80 ey81 wq82 ewq83 wq84 ewq85 wq86 ewq87 wq88 ewq89 wq90 ewq91 pz75_0 pz75_1 pz75_2 pz75_3 pz75_4 pz75_5 pz75_6 pz75_7 pz75_8 => ⟨rfl, ?_⟩))
          have r92 : (0 : Int) ≤ y76 ∧ y76 ≤ 65536 := rngE (show (0 : Int) ≤ F71 1 3 ∧ F71 1 3 ≤ 65536 from H.frng 1 3) (show F71 1 3 = y76 from (ey77))
          have r93 : (0 : Int) ≤ y78 ∧ y78 ≤ 16384 := rngE (show (0 : Int) ≤ F71 4 5 ∧ F71 4 5 ≤ 16384 from H.frng 4 5) (show F71 4 5 = y78 from (ey79))
          have r94 : (0 : Int) ≤ y80 ∧ y80 ≤ 100000000 := rngE (show (0 : Int) ≤ F71 6 35 ∧ F71 6 35 ≤ 100000000 from H.frng 6 35) (show F71 6 35 = y80 from (ey81))
          have hwx := pz75_3
          rw [hld] at hwx
          have hwm := pz75_4
          have hwsq := pz75_5
          have hwsn := pz75_6
          rw [hld] at hwsq
          refine Ew_of (pcₚ := 91) (fun _ => x_istore rfl) ?_
          refine Ew_of (pcₚ := 93) (fun _ => x_iload rfl rk_s) ?_
          refine w_ifge (t := 98) rfl rfl (show inr (z75) from pz75_0) (fun b95 => ?_) (fun b95 => ?_)
          · obtain ⟨OW, hOW⟩ : ∃ q : List Int, q = sc ((wq82)) 0 ((y76)) := ⟨_, rfl⟩
            rw [← hOW] at hwx
            refine Ew_of (pcₚ := 99) (fun _ => x_aload_n rfl (rk_o (rk_o (rk_o (rfl) rfl rfl) rfl rfl) rfl rfl)) ?_
            refine Ew_of (pcₚ := 100) (fun _ => x_dup rfl rfl) ?_
            refine w_gI H (o := 0) (w := u0_11) rfl (H.perm 0 rfl) rfl rfl rfl (fun _ => rfl) (((((((((hS73 0 11 rfl).trans (hS62 0 11 rfl)).trans (hS50 0 11 rfl)).trans (hS45 0 11 rfl)).trans (hS38 0 11 rfl)).trans (hS31 0 11 rfl)).trans (hS25 0 11 rfl)).trans (hS19 0 11 rfl)).trans (eu0_11)) ?_
            refine Ew_of (pcₚ := 105) (fun _ => x_iload rfl rk_s) ?_
            refine Ew_of (pcₚ := 107) (fun _ => x_iload rfl (rk_o (rk_s) rfl rfl)) ?_
            have hc115 : ∀ (tc115_0 : Int), ∀ (ls : rO) (σ : rS) (F_c115 : hF) (A_c115 : hA) , rlook ls 0 = some (.ref (D 0)) → rlook ls 1 = some (I (a1)) → rlook ls 2 = some (I (a2)) → rlook ls 3 = some (I (a3)) → rlook ls 6 = some (I (z75)) → HS σ0 σ D N F_c115 A_c115 → SF [] F71 F_c115 → SA [] A72 A_c115 → (inr (tc115_0)) → (((z75) ≤ (z47) ∧ (tc115_0) = (0)) ∨ ((z75) > (z47) ∧ (tc115_0) = (1))) → Ew 81 (d + 13) 115 ls [I (tc115_0), I (u0_11), .ref (D 0)] σ c s Q := by
             as_aux_lemma =>
              intro tc115_0 ls σ F_c115 A_c115  lc115_0 lc115_1 lc115_2 lc115_3 lc115_6 H hS_c115 hA_c115   jc115_0 jc115_1
              refine w_iaddE rfl ?_
              have g96 : inr (adI (u0_11) (tc115_0)) := toI_inr _
              have hbe : HID ((((adI (u0_11) (tc115_0))) : Int) = w32 ((u0_11) + (if BNA ((w12)) ((a3)) ((rwR ((w10)) ((w11)) ((a2))).length : Int) < (z75) then 1 else 0))) := by unfold HID; rw [ad_w, hln, hv48, ← hbn]; congr 2; split <;> omega
              refine w_pI H (o := 0) rfl rfl (H.perm 0 rfl) rfl rfl rfl (fun _ => rfl) rfl (show (-2147483648 : Int) ≤ (adI (u0_11) (tc115_0)) ∧ (adI (u0_11) (tc115_0)) ≤ 2147483647 from q_31 g96) (fun σ H => ?_)
              have hc147 : ∀ (ls : rO) (σ : rS) (F_c147 : hF) (A_c147 : hA) , rlook ls 0 = some (.ref (D 0)) → rlook ls 1 = some (I (a1)) → rlook ls 6 = some (I (z75)) → HS σ0 σ D N F_c147 A_c147 → SF [(0, 10), (1, 1), (1, 3), (1, 4), (3, 12), (3, 14), (3, 15), (3, 16), (4, 2), (4, 8), (4, 9), (4, 10), (4, 11), (5, 10), (5, 19), (5, 25), (5, 26), (5, 27), (5, 28), (5, 29), (5, 30), (5, 31), (5, 32), (5, 33), (5, 34), (5, 35), (5, 36), (5, 39), (5, 40), (5, 41), (5, 42), (5, 43), (5, 44), (5, 45)] (updF F_c115 0 11 ((adI (u0_11) (tc115_0)))) F_c147 → SA [13, 14, 15, 17, 21, 22, 23, 31, 32, 33, 34, 35, 36, 37, 38, 39, 40, 41, 42, 43, 44, 45, 46, 47] A_c115 A_c147 → ∀ yc147_0_10 : Int, F_c147 0 10 = yc147_0_10 → ∀ yc147_1_3 : Int, F_c147 1 3 = yc147_1_3 → ∀ yc147_5_27 : Int, F_c147 5 27 = yc147_5_27 → ∀ yc147_5_32 : Int, F_c147 5 32 = yc147_5_32 → ∀ yc147_5_33 : Int, F_c147 5 33 = yc147_5_33 → ∀ yc147_5_34 : Int, F_c147 5 34 = yc147_5_34 → ∀ yc147_5_36 : Int, F_c147 5 36 = yc147_5_36 → ∀ wc147_15 : Int → Int, A_c147 15 = wc147_15 → ∀ wc147_34 : Int → Int, A_c147 34 = wc147_34 → ∀ wc147_35 : Int → Int, A_c147 35 = wc147_35 → ∀ wc147_36 : Int → Int, A_c147 36 = wc147_36 → ∀ wc147_37 : Int → Int, A_c147 37 = wc147_37 → (RT ((wc147_35)) ((wc147_36)) ((wc147_37)) ((wc147_34))) → (HID (((a3) : Int) = 5 ∧ (yc147_0_10) = (u0_10) ∨ ((a3) : Int) ≠ 5 ∧ ∃ r, CMB ((a3)) OW (sc ((w16)) 0 ((u3_2))) Dc (rwR ((w10)) ((w11)) ((a2))) r ∧ (yc147_0_10) = w32 ((u0_10) + (1 - r)))) → (sc ((wc147_15)) 0 ((yc147_1_3)) = OW) → (((yc147_5_32), (yc147_5_33), (yc147_5_34), (yc147_5_27), (yc147_5_36)) = ((u5_32), (u5_33), (u5_34), (u5_27), (u5_36))) → ((yc147_1_3) = (z75)) → Ew 81 (d + 13) 147 ls [] σ c s Q := by
               as_aux_lemma =>
                intro  ls σ F_c147 A_c147  lc147_0 lc147_1 lc147_6 H hS_c147 hA_c147 yc147_0_10 eyc147_0_10 yc147_1_3 eyc147_1_3 yc147_5_27 eyc147_5_27 yc147_5_32 eyc147_5_32 yc147_5_33 eyc147_5_33 yc147_5_34 eyc147_5_34 yc147_5_36 eyc147_5_36 wc147_15 ewc147_15 wc147_34 ewc147_34 wc147_35 ewc147_35 wc147_36 ewc147_36 wc147_37 ewc147_37 jc147_0 jc147_1 jc147_2 jc147_3 jc147_4
                have r97 : (-2147483648 : Int) ≤ yc147_0_10 ∧ yc147_0_10 ≤ 2147483647 := rngE (show (-2147483648 : Int) ≤ F_c147 0 10 ∧ F_c147 0 10 ≤ 2147483647 from H.frng 0 10) (show F_c147 0 10 = yc147_0_10 from (eyc147_0_10))
                have r98 : (0 : Int) ≤ yc147_1_3 ∧ yc147_1_3 ≤ 65536 := rngE (show (0 : Int) ≤ F_c147 1 3 ∧ F_c147 1 3 ≤ 65536 from H.frng 1 3) (show F_c147 1 3 = yc147_1_3 from (eyc147_1_3))
                have r99 : (0 : Int) ≤ yc147_5_27 ∧ yc147_5_27 ≤ 65536 := rngE (show (0 : Int) ≤ F_c147 5 27 ∧ F_c147 5 27 ≤ 65536 from H.frng 5 27) (show F_c147 5 27 = yc147_5_27 from (eyc147_5_27))
                have r100 : (-2147483648 : Int) ≤ yc147_5_32 ∧ yc147_5_32 ≤ 2147483647 := rngE (show (-2147483648 : Int) ≤ F_c147 5 32 ∧ F_c147 5 32 ≤ 2147483647 from H.frng 5 32) (show F_c147 5 32 = yc147_5_32 from (eyc147_5_32))
                have r101 : (-2147483648 : Int) ≤ yc147_5_33 ∧ yc147_5_33 ≤ 2147483647 := rngE (show (-2147483648 : Int) ≤ F_c147 5 33 ∧ F_c147 5 33 ≤ 2147483647 from H.frng 5 33) (show F_c147 5 33 = yc147_5_33 from (eyc147_5_33))
                have r102 : (-2147483648 : Int) ≤ yc147_5_34 ∧ yc147_5_34 ≤ 2147483647 := rngE (show (-2147483648 : Int) ≤ F_c147 5 34 ∧ F_c147 5 34 ≤ 2147483647 from H.frng 5 34) (show F_c147 5 34 = yc147_5_34 from (eyc147_5_34))
                have r103 : (-2147483648 : Int) ≤ yc147_5_36 ∧ yc147_5_36 ≤ 2147483647 := rngE (show (-2147483648 : Int) ≤ F_c147 5 36 ∧ F_c147 5 36 ≤ 2147483647 from H.frng 5 36) (show F_c147 5 36 = yc147_5_36 from (eyc147_5_36))
                refine Ew_of (pcₚ := 148) (fun _ => x_aload_n rfl lc147_0) ?_
                refine Ew_of (pcₚ := 149) (fun _ => x_iload_n rfl lc147_1) ?_
                refine w_inv H (o := 0) rfl rfl rfl (H.perm 0 rfl) rfl rfl (by rfl) (M75p H (yc147_1_3) ((eyc147_1_3)) (w10) ((funext (hA_c147 10 rfl)).trans ((funext (hA_c115 10 rfl)).trans ((funext (hA74 10 rfl)).trans ((funext (hA63 10 rfl)).trans ((funext (hA51 10 rfl)).trans ((funext (hA46 10 rfl)).trans ((funext (hA39 10 rfl)).trans ((funext (hA32 10 rfl)).trans ((funext (hA26 10 rfl)).trans ((funext (hA20 10 rfl)).trans (ew10))))))))))) (w11) ((funext (hA_c147 11 rfl)).trans ((funext (hA_c115 11 rfl)).trans ((funext (hA74 11 rfl)).trans ((funext (hA63 11 rfl)).trans ((funext (hA51 11 rfl)).trans ((funext (hA46 11 rfl)).trans ((funext (hA39 11 rfl)).trans ((funext (hA32 11 rfl)).trans ((funext (hA26 11 rfl)).trans ((funext (hA20 11 rfl)).trans (ew11))))))))))) (wc147_15) (ewc147_15) (show inr (a1) from h0) (show 0 ≤ (a1) ∧ (a1) ≤ 3 by omega) (fun σ F104 A105 H hS106 hA107 wq109 ewq110 wq111 ewq112 pz108_0 => ⟨rfl, ?_⟩))
                have k147 : HID (((a3) : Int) = 5 ∧ (yc147_0_10) = (u0_10) ∨ ((a3) : Int) ≠ 5 ∧ ∃ r, CMB ((a3)) OW (sc ((w16)) 0 ((u3_2))) Dc (rwR ((w10)) ((w11)) ((a2))) r ∧ (yc147_0_10) = w32 ((u0_10) + (1 - r))) := by assumption
                have kow : sc ((wc147_15)) 0 ((yc147_1_3)) = OW := jc147_2
                refine Ew_of (pcₚ := 154) (fun _ => x_iload rfl lc147_6) ?_
                have : WRP WRX (rwR ((w10)) ((w11))) (rwR ((wq109)) ((wq111))) ((a1)) ((a2)) ((a3)) ((w12)) (sc ((w16)) 0 ((u3_2))) Dc (bgS ((u6_6)) ((w49)) ((w50)) ((w51)) ((w52)) (fun _ => 0)) ((z75)) ((u0_10)) ((yc147_0_10)) ((u0_11)) (((adI (u0_11) (tc115_0)))) ((w88)) ((wq90)) := .inr ⟨hok, OW, hwx, .inr ⟨by omega, (by have h := pz108_0; rw [kow] at h; exact h), HIDe hbe, HIDe k147, fun q => hwsq ⟨q, by omega⟩, fun q => hwsn (.inl q)⟩⟩
                exact w_ireturn rfl (k (z75) σ _ _ H (SF_trans (SF_trans (SF_upd (SF_trans (SF_trans (SF_trans (SF_trans (SF_trans (SF_trans (SF_trans (SF_trans (SF_trans (SF_refl) hS19 (any_sub rfl)) hS25 (any_sub rfl)) hS31 (any_sub rfl)) hS38 (any_sub rfl)) hS45 (any_sub rfl)) hS50 (any_sub rfl)) hS62 (any_sub rfl)) hS73 (any_sub rfl)) hS_c115 (any_sub rfl)) rfl) hS_c147 (any_sub rfl)) hS106 (any_sub rfl)) (SA_trans (SA_trans (SA_trans (SA_trans (SA_trans (SA_trans (SA_trans (SA_trans (SA_trans (SA_trans (SA_trans (SA_refl) hA20 (any_subA rfl)) hA26 (any_subA rfl)) hA32 (any_subA rfl)) hA39 (any_subA rfl)) hA46 (any_subA rfl)) hA51 (any_subA rfl)) hA63 (any_subA rfl)) hA74 (any_subA rfl)) hA_c115 (any_subA rfl)) hA_c147 (any_subA rfl)) hA107 (any_subA rfl)) (yc147_0_10) (((hS106 0 10 rfl).trans (eyc147_0_10))) ((adI (u0_11) (tc115_0))) (((hS106 0 11 rfl).trans (hS_c147 0 11 rfl))) (y78) (((((hS106 4 5 rfl).trans (hS_c147 4 5 rfl)).trans (hS_c115 4 5 rfl)).trans (ey79))) (yc147_5_27) (((hS106 5 27 rfl).trans (eyc147_5_27))) (yc147_5_32) (((hS106 5 32 rfl).trans (eyc147_5_32))) (yc147_5_33) (((hS106 5 33 rfl).trans (eyc147_5_33))) (yc147_5_34) (((hS106 5 34 rfl).trans (eyc147_5_34))) (yc147_5_36) (((hS106 5 36 rfl).trans (eyc147_5_36))) (y80) (((((hS106 6 35 rfl).trans (hS_c147 6 35 rfl)).trans (hS_c115 6 35 rfl)).trans (ey81))) (wq109) (ewq110) (wq111) (ewq112) (wq84) ((funext (hA107 24 rfl)).trans ((funext (hA_c147 24 rfl)).trans ((funext (hA_c115 24 rfl)).trans (ewq85)))) (wq86) ((funext (hA107 25 rfl)).trans ((funext (hA_c147 25 rfl)).trans ((funext (hA_c115 25 rfl)).trans (ewq87)))) (wc147_34) ((funext (hA107 34 rfl)).trans (ewc147_34)) (wc147_35) ((funext (hA107 35 rfl)).trans (ewc147_35)) (wc147_36) ((funext (hA107 36 rfl)).trans (ewc147_36)) (wc147_37) ((funext (hA107 37 rfl)).trans (ewc147_37)) (wq88) ((funext (hA107 69 rfl)).trans ((funext (hA_c147 69 rfl)).trans ((funext (hA_c115 69 rfl)).trans (ewq89)))) (wq90) ((funext (hA107 88 rfl)).trans ((funext (hA_c147 88 rfl)).trans ((funext (hA_c115 88 rfl)).trans (ewq91)))) (show inr (z75) from pz75_0) (jc147_0) (pz75_1) (pz75_2) (show WRP WRX (rwR ((w10)) ((w11))) (rwR ((wq109)) ((wq111))) (a1) (a2) (a3) ((w12)) (sc ((w16)) 0 ((u3_2))) Dc (bgS ((u6_6)) ((w49)) ((w50)) ((w51)) ((w52)) (fun _ => 0)) ((z75)) ((u0_10)) ((yc147_0_10)) ((u0_11)) (((adI (u0_11) (tc115_0)))) ((w88)) ((wq90)) by assumption) (pz75_4) (jc147_3))
              refine Ew_of (pcₚ := 120) (fun _ => x_iload_n rfl lc115_3) ?_
              refine Ew_of (pcₚ := 121) (fun _ => x_iconst rfl) ?_
              refine w_icmpge (t := 147) rfl rfl (show inr (a3) from h2) (show inr (5) from q_727) (fun b113 => ?_) (fun b113 => ?_)
              · have : HID (((a3) : Int) = 5 ∧ (u0_10) = (u0_10) ∨ ((a3) : Int) ≠ 5 ∧ ∃ r, CMB ((a3)) OW (sc ((w16)) 0 ((u3_2))) Dc (rwR ((w10)) ((w11)) ((a2))) r ∧ (u0_10) = w32 ((u0_10) + (1 - r))) := by unfold HID; first | exact .inl ⟨by omega, rfl⟩ | exact .inr ⟨by omega, _, hcb, by rw [ad_w]; congr 2; omega⟩
                have : sc ((wq82)) 0 ((y76)) = OW := by first | exact pzMISS_3.trans hOW.symm | exact hOW.symm
                have : ((u5_32), (u5_33), (u5_34), (u5_27), (u5_36)) = ((u5_32), (u5_33), (u5_34), (u5_27), (u5_36)) := by first | exact pzMISS_5 | rfl
                exact hc147  _ σ _ _  (lc115_0) (lc115_1) (lc115_6) H (SF_refl) (SA_refl) (u0_10) (((((((((((hS_c115 0 10 rfl).trans (hS73 0 10 rfl)).trans (hS62 0 10 rfl)).trans (hS50 0 10 rfl)).trans (hS45 0 10 rfl)).trans (hS38 0 10 rfl)).trans (hS31 0 10 rfl)).trans (hS25 0 10 rfl)).trans (hS19 0 10 rfl)).trans (eu0_10))) (y76) (((hS_c115 1 3 rfl).trans (ey77))) (u5_27) (((((((((((hS_c115 5 27 rfl).trans (hS73 5 27 rfl)).trans (hS62 5 27 rfl)).trans (hS50 5 27 rfl)).trans (hS45 5 27 rfl)).trans (hS38 5 27 rfl)).trans (hS31 5 27 rfl)).trans (hS25 5 27 rfl)).trans (hS19 5 27 rfl)).trans (eu5_27))) (u5_32) (((((((((((hS_c115 5 32 rfl).trans (hS73 5 32 rfl)).trans (hS62 5 32 rfl)).trans (hS50 5 32 rfl)).trans (hS45 5 32 rfl)).trans (hS38 5 32 rfl)).trans (hS31 5 32 rfl)).trans (hS25 5 32 rfl)).trans (hS19 5 32 rfl)).trans (eu5_32))) (u5_33) (((((((((((hS_c115 5 33 rfl).trans (hS73 5 33 rfl)).trans (hS62 5 33 rfl)).trans (hS50 5 33 rfl)).trans (hS45 5 33 rfl)).trans (hS38 5 33 rfl)).trans (hS31 5 33 rfl)).trans (hS25 5 33 rfl)).trans (hS19 5 33 rfl)).trans (eu5_33))) (u5_34) (((((((((((hS_c115 5 34 rfl).trans (hS73 5 34 rfl)).trans (hS62 5 34 rfl)).trans (hS50 5 34 rfl)).trans (hS45 5 34 rfl)).trans (hS38 5 34 rfl)).trans (hS31 5 34 rfl)).trans (hS25 5 34 rfl)).trans (hS19 5 34 rfl)).trans (eu5_34))) (u5_36) (((((((((((hS_c115 5 36 rfl).trans (hS73 5 36 rfl)).trans (hS62 5 36 rfl)).trans (hS50 5 36 rfl)).trans (hS45 5 36 rfl)).trans (hS38 5 36 rfl)).trans (hS31 5 36 rfl)).trans (hS25 5 36 rfl)).trans (hS19 5 36 rfl)).trans (eu5_36))) (wq82) ((funext (hA_c115 15 rfl)).trans (ewq83)) (w34) ((funext (hA_c115 34 rfl)).trans ((funext (hA74 34 rfl)).trans ((funext (hA63 34 rfl)).trans ((funext (hA51 34 rfl)).trans ((funext (hA46 34 rfl)).trans ((funext (hA39 34 rfl)).trans ((funext (hA32 34 rfl)).trans ((funext (hA26 34 rfl)).trans ((funext (hA20 34 rfl)).trans (ew34)))))))))) (w35) ((funext (hA_c115 35 rfl)).trans ((funext (hA74 35 rfl)).trans ((funext (hA63 35 rfl)).trans ((funext (hA51 35 rfl)).trans ((funext (hA46 35 rfl)).trans ((funext (hA39 35 rfl)).trans ((funext (hA32 35 rfl)).trans ((funext (hA26 35 rfl)).trans ((funext (hA20 35 rfl)).trans (ew35)))))))))) (w36) ((funext (hA_c115 36 rfl)).trans ((funext (hA74 36 rfl)).trans ((funext (hA63 36 rfl)).trans ((funext (hA51 36 rfl)).trans ((funext (hA46 36 rfl)).trans ((funext (hA39 36 rfl)).trans ((funext (hA32 36 rfl)).trans ((funext (hA26 36 rfl)).trans ((funext (hA20 36 rfl)).trans (ew36)))))))))) (w37) ((funext (hA_c115 37 rfl)).trans ((funext (hA74 37 rfl)).trans ((funext (hA63 37 rfl)).trans ((funext (hA51 37 rfl)).trans ((funext (hA46 37 rfl)).trans ((funext (hA39 37 rfl)).trans ((funext (hA32 37 rfl)).trans ((funext (hA26 37 rfl)).trans ((funext (hA20 37 rfl)).trans (ew37)))))))))) (h3) (show HID (((a3) : Int) = 5 ∧ (u0_10) = (u0_10) ∨ ((a3) : Int) ≠ 5 ∧ ∃ r, CMB ((a3)) OW (sc ((w16)) 0 ((u3_2))) Dc (rwR ((w10)) ((w11)) ((a2))) r ∧ (u0_10) = w32 ((u0_10) + (1 - r))) by assumption) (show sc ((wq82)) 0 ((y76)) = OW by assumption) (show ((u5_32), (u5_33), (u5_34), (u5_27), (u5_36)) = ((u5_32), (u5_33), (u5_34), (u5_27), (u5_36)) by assumption) (show (y76) = (z75) from q_5028 b95 jc115_1 pz75_7 pz75_8 r92)
              · refine Ew_of (pcₚ := 125) (fun _ => x_aload_n rfl lc115_0) ?_
                refine Ew_of (pcₚ := 126) (fun _ => x_dup rfl rfl) ?_
                refine w_gI H (o := 0) (w := u0_10) rfl (H.perm 0 rfl) rfl rfl rfl (fun _ => rfl) ((((((((((hS_c115 0 10 rfl).trans (hS73 0 10 rfl)).trans (hS62 0 10 rfl)).trans (hS50 0 10 rfl)).trans (hS45 0 10 rfl)).trans (hS38 0 10 rfl)).trans (hS31 0 10 rfl)).trans (hS25 0 10 rfl)).trans (hS19 0 10 rfl)).trans (eu0_10)) ?_
                refine Ew_of (pcₚ := 130) (fun _ => x_aload_n rfl lc115_0) ?_
                refine Ew_of (pcₚ := 131) (fun _ => x_iload_n rfl lc115_2) ?_
                refine Ew_of (pcₚ := 132) (fun _ => x_iload_n rfl lc115_3) ?_
                refine w_inv H (o := 0) rfl rfl rfl (H.perm 0 rfl) rfl rfl (by rfl) (M82p H (y76) (((hS_c115 1 3 rfl).trans (ey77))) (u3_2) (((((((((((hS_c115 3 2 rfl).trans (hS73 3 2 rfl)).trans (hS62 3 2 rfl)).trans (hS50 3 2 rfl)).trans (hS45 3 2 rfl)).trans (hS38 3 2 rfl)).trans (hS31 3 2 rfl)).trans (hS25 3 2 rfl)).trans (hS19 3 2 rfl)).trans (eu3_2))) (u5_2) (((((((((((hS_c115 5 2 rfl).trans (hS73 5 2 rfl)).trans (hS62 5 2 rfl)).trans (hS50 5 2 rfl)).trans (hS45 5 2 rfl)).trans (hS38 5 2 rfl)).trans (hS31 5 2 rfl)).trans (hS25 5 2 rfl)).trans (hS19 5 2 rfl)).trans (eu5_2))) (u5_3) (((((((((((hS_c115 5 3 rfl).trans (hS73 5 3 rfl)).trans (hS62 5 3 rfl)).trans (hS50 5 3 rfl)).trans (hS45 5 3 rfl)).trans (hS38 5 3 rfl)).trans (hS31 5 3 rfl)).trans (hS25 5 3 rfl)).trans (hS19 5 3 rfl)).trans (eu5_3))) (u5_4) (((((((((((hS_c115 5 4 rfl).trans (hS73 5 4 rfl)).trans (hS62 5 4 rfl)).trans (hS50 5 4 rfl)).trans (hS45 5 4 rfl)).trans (hS38 5 4 rfl)).trans (hS31 5 4 rfl)).trans (hS25 5 4 rfl)).trans (hS19 5 4 rfl)).trans (eu5_4))) (u5_27) (((((((((((hS_c115 5 27 rfl).trans (hS73 5 27 rfl)).trans (hS62 5 27 rfl)).trans (hS50 5 27 rfl)).trans (hS45 5 27 rfl)).trans (hS38 5 27 rfl)).trans (hS31 5 27 rfl)).trans (hS25 5 27 rfl)).trans (hS19 5 27 rfl)).trans (eu5_27))) (u5_32) (((((((((((hS_c115 5 32 rfl).trans (hS73 5 32 rfl)).trans (hS62 5 32 rfl)).trans (hS50 5 32 rfl)).trans (hS45 5 32 rfl)).trans (hS38 5 32 rfl)).trans (hS31 5 32 rfl)).trans (hS25 5 32 rfl)).trans (hS19 5 32 rfl)).trans (eu5_32))) (u5_33) (((((((((((hS_c115 5 33 rfl).trans (hS73 5 33 rfl)).trans (hS62 5 33 rfl)).trans (hS50 5 33 rfl)).trans (hS45 5 33 rfl)).trans (hS38 5 33 rfl)).trans (hS31 5 33 rfl)).trans (hS25 5 33 rfl)).trans (hS19 5 33 rfl)).trans (eu5_33))) (u5_34) (((((((((((hS_c115 5 34 rfl).trans (hS73 5 34 rfl)).trans (hS62 5 34 rfl)).trans (hS50 5 34 rfl)).trans (hS45 5 34 rfl)).trans (hS38 5 34 rfl)).trans (hS31 5 34 rfl)).trans (hS25 5 34 rfl)).trans (hS19 5 34 rfl)).trans (eu5_34))) (u5_36) (((((((((((hS_c115 5 36 rfl).trans (hS73 5 36 rfl)).trans (hS62 5 36 rfl)).trans (hS50 5 36 rfl)).trans (hS45 5 36 rfl)).trans (hS38 5 36 rfl)).trans (hS31 5 36 rfl)).trans (hS25 5 36 rfl)).trans (hS19 5 36 rfl)).trans (eu5_36))) (w10) ((funext (hA_c115 10 rfl)).trans ((funext (hA74 10 rfl)).trans ((funext (hA63 10 rfl)).trans ((funext (hA51 10 rfl)).trans ((funext (hA46 10 rfl)).trans ((funext (hA39 10 rfl)).trans ((funext (hA32 10 rfl)).trans ((funext (hA26 10 rfl)).trans ((funext (hA20 10 rfl)).trans (ew10)))))))))) (w11) ((funext (hA_c115 11 rfl)).trans ((funext (hA74 11 rfl)).trans ((funext (hA63 11 rfl)).trans ((funext (hA51 11 rfl)).trans ((funext (hA46 11 rfl)).trans ((funext (hA39 11 rfl)).trans ((funext (hA32 11 rfl)).trans ((funext (hA26 11 rfl)).trans ((funext (hA20 11 rfl)).trans (ew11)))))))))) (wq82) ((funext (hA_c115 15 rfl)).trans (ewq83)) (w16) ((funext (hA_c115 16 rfl)).trans ((funext (hA74 16 rfl)).trans ((funext (hA63 16 rfl)).trans ((funext (hA51 16 rfl)).trans ((funext (hA46 16 rfl)).trans ((funext (hA39 16 rfl)).trans ((funext (hA32 16 rfl)).trans ((funext (hA26 16 rfl)).trans ((funext (hA20 16 rfl)).trans (ew16)))))))))) (w26) ((funext (hA_c115 26 rfl)).trans ((funext (hA74 26 rfl)).trans ((funext (hA63 26 rfl)).trans ((funext (hA51 26 rfl)).trans ((funext (hA46 26 rfl)).trans ((funext (hA39 26 rfl)).trans ((funext (hA32 26 rfl)).trans ((funext (hA26 26 rfl)).trans ((funext (hA20 26 rfl)).trans (ew26)))))))))) (w27) ((funext (hA_c115 27 rfl)).trans ((funext (hA74 27 rfl)).trans ((funext (hA63 27 rfl)).trans ((funext (hA51 27 rfl)).trans ((funext (hA46 27 rfl)).trans ((funext (hA39 27 rfl)).trans ((funext (hA32 27 rfl)).trans ((funext (hA26 27 rfl)).trans ((funext (hA20 27 rfl)).trans (ew27)))))))))) (w28) ((funext (hA_c115 28 rfl)).trans ((funext (hA74 28 rfl)).trans ((funext (hA63 28 rfl)).trans ((funext (hA51 28 rfl)).trans ((funext (hA46 28 rfl)).trans ((funext (hA39 28 rfl)).trans ((funext (hA32 28 rfl)).trans ((funext (hA26 28 rfl)).trans ((funext (hA20 28 rfl)).trans (ew28)))))))))) (w29) ((funext (hA_c115 29 rfl)).trans ((funext (hA74 29 rfl)).trans ((funext (hA63 29 rfl)).trans ((funext (hA51 29 rfl)).trans ((funext (hA46 29 rfl)).trans ((funext (hA39 29 rfl)).trans ((funext (hA32 29 rfl)).trans ((funext (hA26 29 rfl)).trans ((funext (hA20 29 rfl)).trans (ew29)))))))))) (w30) ((funext (hA_c115 30 rfl)).trans ((funext (hA74 30 rfl)).trans ((funext (hA63 30 rfl)).trans ((funext (hA51 30 rfl)).trans ((funext (hA46 30 rfl)).trans ((funext (hA39 30 rfl)).trans ((funext (hA32 30 rfl)).trans ((funext (hA26 30 rfl)).trans ((funext (hA20 30 rfl)).trans (ew30)))))))))) (w34) ((funext (hA_c115 34 rfl)).trans ((funext (hA74 34 rfl)).trans ((funext (hA63 34 rfl)).trans ((funext (hA51 34 rfl)).trans ((funext (hA46 34 rfl)).trans ((funext (hA39 34 rfl)).trans ((funext (hA32 34 rfl)).trans ((funext (hA26 34 rfl)).trans ((funext (hA20 34 rfl)).trans (ew34)))))))))) (w35) ((funext (hA_c115 35 rfl)).trans ((funext (hA74 35 rfl)).trans ((funext (hA63 35 rfl)).trans ((funext (hA51 35 rfl)).trans ((funext (hA46 35 rfl)).trans ((funext (hA39 35 rfl)).trans ((funext (hA32 35 rfl)).trans ((funext (hA26 35 rfl)).trans ((funext (hA20 35 rfl)).trans (ew35)))))))))) (w36) ((funext (hA_c115 36 rfl)).trans ((funext (hA74 36 rfl)).trans ((funext (hA63 36 rfl)).trans ((funext (hA51 36 rfl)).trans ((funext (hA46 36 rfl)).trans ((funext (hA39 36 rfl)).trans ((funext (hA32 36 rfl)).trans ((funext (hA26 36 rfl)).trans ((funext (hA20 36 rfl)).trans (ew36)))))))))) (w37) ((funext (hA_c115 37 rfl)).trans ((funext (hA74 37 rfl)).trans ((funext (hA63 37 rfl)).trans ((funext (hA51 37 rfl)).trans ((funext (hA46 37 rfl)).trans ((funext (hA39 37 rfl)).trans ((funext (hA32 37 rfl)).trans ((funext (hA26 37 rfl)).trans ((funext (hA20 37 rfl)).trans (ew37)))))))))) (Dc) (show inr (a2) from h1) (show inr (a3) from h2) (show 0 ≤ (a2) ∧ (a2) ≤ 3 ∧ 0 ≤ (a3) ∧ (a3) ≤ 4 by omega) (h3) (show DI ((u5_4)) ((w27)) ((w28)) ((w29)) ((w30)) by assumption) (hrd) (h12) (fun z118 σ F114 A115 H hS116 hA117 y119 ey120 y121 ey122 y123 ey124 y125 ey126 y127 ey128 y129 ey130 wq131 ewq132 wq133 ewq134 wq135 ewq136 wq137 ewq138 wq139 ewq140 pz118_0 pz118_1 pz118_2 pz118_3 pz118_4 pz118_5 => ⟨rretB rfl pz118_0, ?_⟩))
                have r141 : (0 : Int) ≤ y119 ∧ y119 ≤ 65536 := rngE (show (0 : Int) ≤ F114 1 3 ∧ F114 1 3 ≤ 65536 from H.frng 1 3) (show F114 1 3 = y119 from (ey120))
                have r142 : (0 : Int) ≤ y121 ∧ y121 ≤ 65536 := rngE (show (0 : Int) ≤ F114 5 27 ∧ F114 5 27 ≤ 65536 from H.frng 5 27) (show F114 5 27 = y121 from (ey122))
                have r143 : (-2147483648 : Int) ≤ y123 ∧ y123 ≤ 2147483647 := rngE (show (-2147483648 : Int) ≤ F114 5 32 ∧ F114 5 32 ≤ 2147483647 from H.frng 5 32) (show F114 5 32 = y123 from (ey124))
                have r144 : (-2147483648 : Int) ≤ y125 ∧ y125 ≤ 2147483647 := rngE (show (-2147483648 : Int) ≤ F114 5 33 ∧ F114 5 33 ≤ 2147483647 from H.frng 5 33) (show F114 5 33 = y125 from (ey126))
                have r145 : (-2147483648 : Int) ≤ y127 ∧ y127 ≤ 2147483647 := rngE (show (-2147483648 : Int) ≤ F114 5 34 ∧ F114 5 34 ≤ 2147483647 from H.frng 5 34) (show F114 5 34 = y127 from (ey128))
                have r146 : (-2147483648 : Int) ≤ y129 ∧ y129 ≤ 2147483647 := rngE (show (-2147483648 : Int) ≤ F114 5 36 ∧ F114 5 36 ≤ 2147483647 from H.frng 5 36) (show F114 5 36 = y129 from (ey130))
                have hcb := pz118_4
                rw [← hOW] at hcb
                refine w_ifeq (t := 142) rfl rfl (show inr (z118) from q_138 pz118_0) (fun b147 => ?_) (fun b147 => ?_)
                · refine Ew_of (pcₚ := 143) (fun _ => x_iconst rfl) ?_
                  refine w_iaddE rfl ?_
                  have g148 : inr (adI (u0_10) (1)) := toI_inr _
                  refine w_pI H (o := 0) rfl rfl (H.perm 0 rfl) rfl rfl rfl (fun _ => rfl) rfl (show (-2147483648 : Int) ≤ (adI (u0_10) (1)) ∧ (adI (u0_10) (1)) ≤ 2147483647 from q_31 g148) (fun σ H => ?_)
                  have : HID (((a3) : Int) = 5 ∧ ((adI (u0_10) (1))) = (u0_10) ∨ ((a3) : Int) ≠ 5 ∧ ∃ r, CMB ((a3)) OW (sc ((w16)) 0 ((u3_2))) Dc (rwR ((w10)) ((w11)) ((a2))) r ∧ ((adI (u0_10) (1))) = w32 ((u0_10) + (1 - r))) := by unfold HID; first | exact .inl ⟨by omega, rfl⟩ | exact .inr ⟨by omega, _, hcb, by rw [ad_w]; congr 2; omega⟩
                  have : sc ((wq131)) 0 ((y119)) = OW := by first | exact pz118_3.trans hOW.symm | exact hOW.symm
                  have : ((y123), (y125), (y127), (y121), (y129)) = ((u5_32), (u5_33), (u5_34), (u5_27), (u5_36)) := by first | exact pz118_5 | rfl
                  exact hc147  _ σ _ _  (lc115_0) (lc115_1) (lc115_6) H (SF_upd (SF_trans (SF_refl) hS116 (any_sub rfl)) rfl) (SA_trans (SA_refl) hA117 (any_subA rfl)) ((adI (u0_10) (1))) (rfl) (y119) ((ey120)) (y121) ((ey122)) (y123) ((ey124)) (y125) ((ey126)) (y127) ((ey128)) (y129) ((ey130)) (wq131) (ewq132) (wq133) (ewq134) (wq135) (ewq136) (wq137) (ewq138) (wq139) (ewq140) (pz118_1) (show HID (((a3) : Int) = 5 ∧ ((adI (u0_10) (1))) = (u0_10) ∨ ((a3) : Int) ≠ 5 ∧ ∃ r, CMB ((a3)) OW (sc ((w16)) 0 ((u3_2))) Dc (rwR ((w10)) ((w11)) ((a2))) r ∧ ((adI (u0_10) (1))) = w32 ((u0_10) + (1 - r))) by assumption) (show sc ((wq131)) 0 ((y119)) = OW by assumption) (show ((y123), (y125), (y127), (y121), (y129)) = ((u5_32), (u5_33), (u5_34), (u5_27), (u5_36)) by assumption) (show (y119) = (z75) from q_5029 b95 jc115_1 pz118_2 pz75_7 pz75_8 r141)
                · refine Ew_of (pcₚ := 139) (fun _ => x_iconst rfl) ?_
                  refine Ew_of (pcₚ := 143) (fun _ => x_goto rfl rfl) ?_
                  refine w_iaddE rfl ?_
                  have g149 : inr (adI (u0_10) (0)) := toI_inr _
                  refine w_pI H (o := 0) rfl rfl (H.perm 0 rfl) rfl rfl rfl (fun _ => rfl) rfl (show (-2147483648 : Int) ≤ (adI (u0_10) (0)) ∧ (adI (u0_10) (0)) ≤ 2147483647 from q_31 g149) (fun σ H => ?_)
                  have : HID (((a3) : Int) = 5 ∧ ((adI (u0_10) (0))) = (u0_10) ∨ ((a3) : Int) ≠ 5 ∧ ∃ r, CMB ((a3)) OW (sc ((w16)) 0 ((u3_2))) Dc (rwR ((w10)) ((w11)) ((a2))) r ∧ ((adI (u0_10) (0))) = w32 ((u0_10) + (1 - r))) := by unfold HID; first | exact .inl ⟨by omega, rfl⟩ | exact .inr ⟨by omega, _, hcb, by rw [ad_w]; congr 2; omega⟩
                  have : sc ((wq131)) 0 ((y119)) = OW := by first | exact pz118_3.trans hOW.symm | exact hOW.symm
                  have : ((y123), (y125), (y127), (y121), (y129)) = ((u5_32), (u5_33), (u5_34), (u5_27), (u5_36)) := by first | exact pz118_5 | rfl
                  exact hc147  _ σ _ _  (lc115_0) (lc115_1) (lc115_6) H (SF_upd (SF_trans (SF_refl) hS116 (any_sub rfl)) rfl) (SA_trans (SA_refl) hA117 (any_subA rfl)) ((adI (u0_10) (0))) (rfl) (y119) ((ey120)) (y121) ((ey122)) (y123) ((ey124)) (y125) ((ey126)) (y127) ((ey128)) (y129) ((ey130)) (wq131) (ewq132) (wq133) (ewq134) (wq135) (ewq136) (wq137) (ewq138) (wq139) (ewq140) (pz118_1) (show HID (((a3) : Int) = 5 ∧ ((adI (u0_10) (0))) = (u0_10) ∨ ((a3) : Int) ≠ 5 ∧ ∃ r, CMB ((a3)) OW (sc ((w16)) 0 ((u3_2))) Dc (rwR ((w10)) ((w11)) ((a2))) r ∧ ((adI (u0_10) (0))) = w32 ((u0_10) + (1 - r))) by assumption) (show sc ((wq131)) 0 ((y119)) = OW by assumption) (show ((y123), (y125), (y127), (y121), (y129)) = ((u5_32), (u5_33), (u5_34), (u5_27), (u5_36)) by assumption) (show (y119) = (z75) from q_5029 b95 jc115_1 pz118_2 pz75_7 pz75_8 r141)
            refine w_icmple (t := 114) rfl rfl (show inr (z75) from pz75_0) (show inr (z47) from pz47_0) (fun b150 => ?_) (fun b150 => ?_)
            · refine Ew_of (pcₚ := 115) (fun _ => x_iconst rfl) ?_
              exact hc115 (0) _ σ _ _  (rk_o (rk_o (rk_o (rfl) rfl rfl) rfl rfl) rfl rfl) (rk_o (rk_o (rk_o (rfl) rfl rfl) rfl rfl) rfl rfl) (rk_o (rk_o (rk_o (rfl) rfl rfl) rfl rfl) rfl rfl) (rk_o (rk_o (rk_o (rfl) rfl rfl) rfl rfl) rfl rfl) (rk_s) H (SF_refl) (SA_refl)   (show inr (0) from q_2) (show ((z75) ≤ (z47) ∧ (0) = (0)) ∨ ((z75) > (z47) ∧ (0) = (1)) from q_2900 b150)
            · refine Ew_of (pcₚ := 111) (fun _ => x_iconst rfl) ?_
              refine Ew_of (pcₚ := 115) (fun _ => x_goto rfl rfl) ?_
              exact hc115 (1) _ σ _ _  (rk_o (rk_o (rk_o (rfl) rfl rfl) rfl rfl) rfl rfl) (rk_o (rk_o (rk_o (rfl) rfl rfl) rfl rfl) rfl rfl) (rk_o (rk_o (rk_o (rfl) rfl rfl) rfl rfl) rfl rfl) (rk_o (rk_o (rk_o (rfl) rfl rfl) rfl rfl) rfl rfl) (rk_s) H (SF_refl) (SA_refl)   (show inr (1) from q_135) (show ((z75) ≤ (z47) ∧ (1) = (0)) ∨ ((z75) > (z47) ∧ (1) = (1)) from q_2901 b150)
          · refine Ew_of (pcₚ := 97) (fun _ => x_iconst rfl) ?_
            have : WRP WRX (rwR ((w10)) ((w11))) (rwR ((w10)) ((w11))) ((a1)) ((a2)) ((a3)) ((w12)) (sc ((w16)) 0 ((u3_2))) Dc (bgS ((u6_6)) ((w49)) ((w50)) ((w51)) ((w52)) (fun _ => 0)) (-1) ((u0_10)) ((u0_10)) ((u0_11)) ((u0_11)) ((w88)) ((wq90)) := .inr ⟨hok, _, (by have h := hwx; rw [show ((z75) : Int) = -1 by omega] at h; exact h), .inl ⟨by decide, RWS_r, rfl, rfl, hwsn (.inr (by omega))⟩⟩
            have : ((u5_32), (u5_33), (u5_34), (u5_27), (u5_36)) = ((u5_32), (u5_33), (u5_34), (u5_27), (u5_36)) := rfl
            exact w_ireturn rfl (k ((-1)) σ _ _ H (SF_trans (SF_trans (SF_trans (SF_trans (SF_trans (SF_trans (SF_trans (SF_trans (SF_refl) hS19 (any_sub rfl)) hS25 (any_sub rfl)) hS31 (any_sub rfl)) hS38 (any_sub rfl)) hS45 (any_sub rfl)) hS50 (any_sub rfl)) hS62 (any_sub rfl)) hS73 (any_sub rfl)) (SA_trans (SA_trans (SA_trans (SA_trans (SA_trans (SA_trans (SA_trans (SA_trans (SA_refl) hA20 (any_subA rfl)) hA26 (any_subA rfl)) hA32 (any_subA rfl)) hA39 (any_subA rfl)) hA46 (any_subA rfl)) hA51 (any_subA rfl)) hA63 (any_subA rfl)) hA74 (any_subA rfl)) (u0_10) ((((((((((hS73 0 10 rfl).trans (hS62 0 10 rfl)).trans (hS50 0 10 rfl)).trans (hS45 0 10 rfl)).trans (hS38 0 10 rfl)).trans (hS31 0 10 rfl)).trans (hS25 0 10 rfl)).trans (hS19 0 10 rfl)).trans (eu0_10))) (u0_11) ((((((((((hS73 0 11 rfl).trans (hS62 0 11 rfl)).trans (hS50 0 11 rfl)).trans (hS45 0 11 rfl)).trans (hS38 0 11 rfl)).trans (hS31 0 11 rfl)).trans (hS25 0 11 rfl)).trans (hS19 0 11 rfl)).trans (eu0_11))) (y78) ((ey79)) (u5_27) ((((((((((hS73 5 27 rfl).trans (hS62 5 27 rfl)).trans (hS50 5 27 rfl)).trans (hS45 5 27 rfl)).trans (hS38 5 27 rfl)).trans (hS31 5 27 rfl)).trans (hS25 5 27 rfl)).trans (hS19 5 27 rfl)).trans (eu5_27))) (u5_32) ((((((((((hS73 5 32 rfl).trans (hS62 5 32 rfl)).trans (hS50 5 32 rfl)).trans (hS45 5 32 rfl)).trans (hS38 5 32 rfl)).trans (hS31 5 32 rfl)).trans (hS25 5 32 rfl)).trans (hS19 5 32 rfl)).trans (eu5_32))) (u5_33) ((((((((((hS73 5 33 rfl).trans (hS62 5 33 rfl)).trans (hS50 5 33 rfl)).trans (hS45 5 33 rfl)).trans (hS38 5 33 rfl)).trans (hS31 5 33 rfl)).trans (hS25 5 33 rfl)).trans (hS19 5 33 rfl)).trans (eu5_33))) (u5_34) ((((((((((hS73 5 34 rfl).trans (hS62 5 34 rfl)).trans (hS50 5 34 rfl)).trans (hS45 5 34 rfl)).trans (hS38 5 34 rfl)).trans (hS31 5 34 rfl)).trans (hS25 5 34 rfl)).trans (hS19 5 34 rfl)).trans (eu5_34))) (u5_36) ((((((((((hS73 5 36 rfl).trans (hS62 5 36 rfl)).trans (hS50 5 36 rfl)).trans (hS45 5 36 rfl)).trans (hS38 5 36 rfl)).trans (hS31 5 36 rfl)).trans (hS25 5 36 rfl)).trans (hS19 5 36 rfl)).trans (eu5_36))) (y80) ((ey81)) (w10) ((funext (hA74 10 rfl)).trans ((funext (hA63 10 rfl)).trans ((funext (hA51 10 rfl)).trans ((funext (hA46 10 rfl)).trans ((funext (hA39 10 rfl)).trans ((funext (hA32 10 rfl)).trans ((funext (hA26 10 rfl)).trans ((funext (hA20 10 rfl)).trans (ew10))))))))) (w11) ((funext (hA74 11 rfl)).trans ((funext (hA63 11 rfl)).trans ((funext (hA51 11 rfl)).trans ((funext (hA46 11 rfl)).trans ((funext (hA39 11 rfl)).trans ((funext (hA32 11 rfl)).trans ((funext (hA26 11 rfl)).trans ((funext (hA20 11 rfl)).trans (ew11))))))))) (wq84) (ewq85) (wq86) (ewq87) (w34) ((funext (hA74 34 rfl)).trans ((funext (hA63 34 rfl)).trans ((funext (hA51 34 rfl)).trans ((funext (hA46 34 rfl)).trans ((funext (hA39 34 rfl)).trans ((funext (hA32 34 rfl)).trans ((funext (hA26 34 rfl)).trans ((funext (hA20 34 rfl)).trans (ew34))))))))) (w35) ((funext (hA74 35 rfl)).trans ((funext (hA63 35 rfl)).trans ((funext (hA51 35 rfl)).trans ((funext (hA46 35 rfl)).trans ((funext (hA39 35 rfl)).trans ((funext (hA32 35 rfl)).trans ((funext (hA26 35 rfl)).trans ((funext (hA20 35 rfl)).trans (ew35))))))))) (w36) ((funext (hA74 36 rfl)).trans ((funext (hA63 36 rfl)).trans ((funext (hA51 36 rfl)).trans ((funext (hA46 36 rfl)).trans ((funext (hA39 36 rfl)).trans ((funext (hA32 36 rfl)).trans ((funext (hA26 36 rfl)).trans ((funext (hA20 36 rfl)).trans (ew36))))))))) (w37) ((funext (hA74 37 rfl)).trans ((funext (hA63 37 rfl)).trans ((funext (hA51 37 rfl)).trans ((funext (hA46 37 rfl)).trans ((funext (hA39 37 rfl)).trans ((funext (hA32 37 rfl)).trans ((funext (hA26 37 rfl)).trans ((funext (hA20 37 rfl)).trans (ew37))))))))) (wq88) (ewq89) (wq90) (ewq91) (show inr ((-1)) from q_63) (h3) (show KQ bN ((wq84)) ((y78)) by assumption) (pz75_2) (show WRP WRX (rwR ((w10)) ((w11))) (rwR ((w10)) ((w11))) (a1) (a2) (a3) ((w12)) (sc ((w16)) 0 ((u3_2))) Dc (bgS ((u6_6)) ((w49)) ((w50)) ((w51)) ((w52)) (fun _ => 0)) (((-1))) ((u0_10)) ((u0_10)) ((u0_11)) ((u0_11)) ((w88)) ((wq90)) by assumption) (pz75_4) (show ((u5_32), (u5_33), (u5_34), (u5_27), (u5_36)) = ((u5_32), (u5_33), (u5_34), (u5_27), (u5_36)) by assumption))
        · refine Ew_of (pcₚ := 42) (fun _ => x_iconst rfl) ?_
          have : WRP WRX (rwR ((w10)) ((w11))) (rwR ((w10)) ((w11))) ((a1)) ((a2)) ((a3)) ((w12)) (sc ((w16)) 0 ((u3_2))) Dc (bgS ((u6_6)) ((w49)) ((w50)) ((w51)) ((w52)) (fun _ => 0)) (-1) ((u0_10)) ((u0_10)) ((u0_11)) ((u0_11)) ((w88)) ((w88)) := .inl ⟨fun q => (by obtain ⟨q1, q2, q3, q4⟩ := q; unfold okd at q1 q2; first | omega | (rw [hwa, hln] at q4; omega)), rfl, RWS_r, rfl, rfl, fun _ _ _ => rfl⟩
          have : ((u5_32), (u5_33), (u5_34), (u5_27), (u5_36)) = ((u5_32), (u5_33), (u5_34), (u5_27), (u5_36)) := rfl
          exact w_ireturn rfl (k ((-1)) σ _ _ H (SF_trans (SF_trans (SF_trans (SF_trans (SF_refl) hS19 (any_sub rfl)) hS25 (any_sub rfl)) hS31 (any_sub rfl)) hS38 (any_sub rfl)) (SA_trans (SA_trans (SA_trans (SA_trans (SA_refl) hA20 (any_subA rfl)) hA26 (any_subA rfl)) hA32 (any_subA rfl)) hA39 (any_subA rfl)) (u0_10) ((((((hS38 0 10 rfl).trans (hS31 0 10 rfl)).trans (hS25 0 10 rfl)).trans (hS19 0 10 rfl)).trans (eu0_10))) (u0_11) ((((((hS38 0 11 rfl).trans (hS31 0 11 rfl)).trans (hS25 0 11 rfl)).trans (hS19 0 11 rfl)).trans (eu0_11))) (u4_5) ((((((hS38 4 5 rfl).trans (hS31 4 5 rfl)).trans (hS25 4 5 rfl)).trans (hS19 4 5 rfl)).trans (eu4_5))) (u5_27) ((((((hS38 5 27 rfl).trans (hS31 5 27 rfl)).trans (hS25 5 27 rfl)).trans (hS19 5 27 rfl)).trans (eu5_27))) (u5_32) ((((((hS38 5 32 rfl).trans (hS31 5 32 rfl)).trans (hS25 5 32 rfl)).trans (hS19 5 32 rfl)).trans (eu5_32))) (u5_33) ((((((hS38 5 33 rfl).trans (hS31 5 33 rfl)).trans (hS25 5 33 rfl)).trans (hS19 5 33 rfl)).trans (eu5_33))) (u5_34) ((((((hS38 5 34 rfl).trans (hS31 5 34 rfl)).trans (hS25 5 34 rfl)).trans (hS19 5 34 rfl)).trans (eu5_34))) (u5_36) ((((((hS38 5 36 rfl).trans (hS31 5 36 rfl)).trans (hS25 5 36 rfl)).trans (hS19 5 36 rfl)).trans (eu5_36))) (u6_35) ((((((hS38 6 35 rfl).trans (hS31 6 35 rfl)).trans (hS25 6 35 rfl)).trans (hS19 6 35 rfl)).trans (eu6_35))) (w10) ((funext (hA39 10 rfl)).trans ((funext (hA32 10 rfl)).trans ((funext (hA26 10 rfl)).trans ((funext (hA20 10 rfl)).trans (ew10))))) (w11) ((funext (hA39 11 rfl)).trans ((funext (hA32 11 rfl)).trans ((funext (hA26 11 rfl)).trans ((funext (hA20 11 rfl)).trans (ew11))))) (w24) ((funext (hA39 24 rfl)).trans ((funext (hA32 24 rfl)).trans ((funext (hA26 24 rfl)).trans ((funext (hA20 24 rfl)).trans (ew24))))) (w25) ((funext (hA39 25 rfl)).trans ((funext (hA32 25 rfl)).trans ((funext (hA26 25 rfl)).trans ((funext (hA20 25 rfl)).trans (ew25))))) (w34) ((funext (hA39 34 rfl)).trans ((funext (hA32 34 rfl)).trans ((funext (hA26 34 rfl)).trans ((funext (hA20 34 rfl)).trans (ew34))))) (w35) ((funext (hA39 35 rfl)).trans ((funext (hA32 35 rfl)).trans ((funext (hA26 35 rfl)).trans ((funext (hA20 35 rfl)).trans (ew35))))) (w36) ((funext (hA39 36 rfl)).trans ((funext (hA32 36 rfl)).trans ((funext (hA26 36 rfl)).trans ((funext (hA20 36 rfl)).trans (ew36))))) (w37) ((funext (hA39 37 rfl)).trans ((funext (hA32 37 rfl)).trans ((funext (hA26 37 rfl)).trans ((funext (hA20 37 rfl)).trans (ew37))))) (w69) ((funext (hA39 69 rfl)).trans ((funext (hA32 69 rfl)).trans ((funext (hA26 69 rfl)).trans ((funext (hA20 69 rfl)).trans (ew69))))) (w88) ((funext (hA39 88 rfl)).trans ((funext (hA32 88 rfl)).trans ((funext (hA26 88 rfl)).trans ((funext (hA20 88 rfl)).trans (ew88))))) (show inr ((-1)) from q_63) (h3) (show KQ bN ((w24)) ((u4_5)) by assumption) (h10) (show WRP WRX (rwR ((w10)) ((w11))) (rwR ((w10)) ((w11))) (a1) (a2) (a3) ((w12)) (sc ((w16)) 0 ((u3_2))) Dc (bgS ((u6_6)) ((w49)) ((w50)) ((w51)) ((w52)) (fun _ => 0)) (((-1))) ((u0_10)) ((u0_10)) ((u0_11)) ((u0_11)) ((w88)) ((w88)) by assumption) (h15) (show ((u5_32), (u5_33), (u5_34), (u5_27), (u5_36)) = ((u5_32), (u5_33), (u5_34), (u5_27), (u5_36)) by assumption))


end
section
/-! 23e -/
def rw4 (L0 L1 L2 L3 : List Int) : Int → List Int := fun q => if q = 0 then L0 else if q = 1 then L1 else if q = 2 then L2 else L3
section R4x
variable {L0 L1 L2 L3 M : List Int}
end R4x

def DFP (R : Int → List Int) (r s ret : Int) : Prop := (okd r ∧ okd s ∧ DFF (R r) (R s) ret) ∨ (¬ (okd r ∧ okd s) ∧ ret = -2)

theorem nvl_L {f : Int → Int} {n a : Int} {m : Nat} (h0 : 0 ≤ a) (h1 : a + (m : Int) ≤ n) : nvl (ap (sc f 0 n)) a m = nvl f a m := nvl_congr (fun i x y => by rw [ap_sc (by omega) (by omega), u8_id (u8_rng _)])
section KNc
variable {f : Int → Int} {n a r b w : Int}
theorem KNO_c (hn : 0 ≤ n) (h : KNO (sc f 0 n) a) (h0 : 0 ≤ a) (s : SPQ f a n 1) (k : ASQ f a n b) (hb : 0 ≤ b) : KNO (sc f 0 n) b := by
  have hl : ((sc f 0 n).length : Int) = n := by rw [sc_lenI hn]; omega
  rcases s with ⟨_, s1, s2⟩ | ⟨s, _⟩
  · rcases k with ⟨k, _⟩ | ⟨k1, k2, k3⟩
    · omega
    · have e4 := nvl_L (f := f) (n := n) (a := a) (m := 4) h0 (by omega)
      have e8 := nvl_L (f := f) (n := n) (a := a + 4) (m := 4) (by omega) (by omega)
      exact KNO_s h (by omega) (by rw [e4]; exact s2) e8 (by omega) k1
  · exact absurd s (by decide)
theorem KNc_0 (hn : 0 ≤ n) (h : KNO (sc f 0 n) a) (h0 : 0 ≤ a) (s : SPQ f a n 1) (k : ASQ f a n b) (hb : b < 0) : knF (sc f 0 n) = 0 := by
  have hl : ((sc f 0 n).length : Int) = n := by rw [sc_lenI hn]; omega
  rcases s with ⟨_, s1, s2⟩ | ⟨s, _⟩
  · have e4 := nvl_L (f := f) (n := n) (a := a) (m := 4) h0 (by omega)
    unfold SPm at s2
    have hk : knF (sc f 0 n) = knE (sc f 0 n) a := KNO_e h (fun q => by
      rcases k with ⟨_, k⟩ | ⟨k1, k2, k3⟩
      · have e8 := nvl_L (f := f) (n := n) (a := a + 4) (m := 4) (by omega) (by omega)
        rw [e8] at q
        omega
      · have := nvl_nn f 4 (a + 4)
        omega)
    rw [hk]
    exact knE_0 (by rw [e4]; omega) (by rw [e4]; omega) (by rw [e4]; omega) (fun q => by have := tgA_v q; rw [e4] at this; omega)
  · exact absurd s (by decide)
theorem KNc_e (hn : 0 ≤ n) (h : KNO (sc f 0 n) a) (h0 : 0 ≤ a) (s : SPQ f a n 0) : knF (sc f 0 n) = knE (sc f 0 n) a := by
  have hl : ((sc f 0 n).length : Int) = n := by rw [sc_lenI hn]; omega
  rcases s with ⟨s, _⟩ | ⟨_, s⟩
  · exact absurd s (by decide)
  · refine KNO_e h (fun q => ?_)
    have e4 := nvl_L (f := f) (n := n) (a := a) (m := 4) h0 (by omega)
    rw [e4] at q
    rcases s with s | s
    · omega
    · exact s ⟨q.2.1, q.2.2.1⟩
theorem w32_4 {x : Int} (h : 0 ≤ x ∧ x < 4294967296) : w32 x = if x < 2147483648 then x else x - 4294967296 := by
  have m := w32_m x
  have r := w32_r x
  split <;> omega
theorem nvl4_r (f : Int → Int) (a : Int) : 0 ≤ nvl f a 4 ∧ nvl f a 4 < 4294967296 := by
  rw [nvl4]
  have := u8_rng (f a)
  have := u8_rng (f (a + 1))
  have := u8_rng (f (a + 2))
  have := u8_rng (f (a + 3))
  omega
theorem KNc_w (hn : 0 ≤ n) (h0 : 0 ≤ a) (h4 : a + 4 ≤ n) (hw : w = wdI f a) : (w = 407708164 → knE (sc f 0 n) a = 1) ∧ (w = -47205080 → knE (sc f 0 n) a = 4) ∧ (w = -332356553 → knE (sc f 0 n) a = 5) ∧ (w ≠ 407708164 → w ≠ -47205080 → w ≠ -332356553 → (ISM f a n 1 → knE (sc f 0 n) a = 3) ∧ (ISM f a n 0 → knE (sc f 0 n) a = 0)) := by
  have hl : ((sc f 0 n).length : Int) = n := by rw [sc_lenI hn]; omega
  have e4 := nvl_L (f := f) (n := n) (a := a) (m := 4) h0 (by omega)
  have r4 := nvl4_r f a
  have e := w32_4 r4
  have hw : w = w32 (nvl f a 4) := hw
  rw [e] at hw
  have hx : ∀ k, 0 ≤ k → k < 10 → a + 10 ≤ n → ap (sc f 0 n) (a + k) = u8 (f (a + k)) := fun k x y z => ap_sc (by omega) (by omega)
  refine ⟨fun q => knE_1 (by omega) (by rw [e4]; split at hw <;> omega), fun q => knE_4 (by omega) (by rw [e4]; split at hw <;> omega), fun q => knE_5 (by omega) (by rw [e4]; split at hw <;> omega), fun q1 q2 q3 => ⟨fun s => ?_, fun s => ?_⟩⟩
  · rcases s with ⟨_, s1, s2⟩ | ⟨s, _⟩
    · exact knE_3 ⟨by omega, fun k x y => by rw [hx k x y s1]; exact s2 k x y⟩
    · exact absurd s (by decide)
  · rcases s with ⟨s, _⟩ | ⟨_, s⟩
    · exact absurd s (by decide)
    · exact knE_0 (by rw [e4]; split at hw <;> omega) (by rw [e4]; split at hw <;> omega) (by rw [e4]; split at hw <;> omega) (fun t => s ⟨by have := t.1; omega, fun k x y => by have t1 := t.1; rw [← hx k x y (by omega)]; exact t.2 k x y⟩)
end KNc


end
section
/-! 23f -/
theorem DFP_k {R : Int → List Int} {r s ret k j : Int} (h : r = k) (h2 : s = j) (ok : okd k) (ok2 : okd j) (d : DFF (R k) (R j) ret) : DFP R r s ret := by
  subst h
  subst h2
  exact .inl ⟨ok, ok2, d⟩
section R4y
variable {L0 L1 L2 L3 M0 M1 M2 M3 : List Int}
theorem RWS_4 (h0 : M0 = L0) (h1 : M1 = L1) (h2 : M2 = L2) (h3 : M3 = L3) : RWS (rw4 L0 L1 L2 L3) (rw4 M0 M1 M2 M3) := by
  subst h0; subst h1; subst h2; subst h3
  exact fun _ _ _ => rfl
theorem RWN_4 {d k : Int} {N : List Int} (hd : d = k) (hN : rw4 M0 M1 M2 M3 k = N) (h0 : k ≠ 0 → M0 = L0) (h1 : k ≠ 1 → M1 = L1) (h2 : k ≠ 2 → M2 = L2) (h3 : k ≠ 3 → M3 = L3) : RWN (rw4 L0 L1 L2 L3) (rw4 M0 M1 M2 M3) d N := by
  subst hd
  refine ⟨hN, fun q a b c => ?_⟩
  rcases (show q = 0 ∨ q = 1 ∨ q = 2 ∨ q = 3 by omega) with e | e | e | e
  · subst e; exact h0 (fun w => c w.symm)
  · subst e; exact h1 (fun w => c w.symm)
  · subst e; exact h2 (fun w => c w.symm)
  · subst e; exact h3 (fun w => c w.symm)
end R4y

def CHP (ok : List Int → Prop) (N : List Int → List Int) (R1 R2 : Int → List Int) (r ret : Int) : Prop := ((okd r ∧ ok (R1 r)) ∧ ret = 1 ∧ RWN R1 R2 r (N (R1 r))) ∨ (¬ (okd r ∧ ok (R1 r)) ∧ ret = 0 ∧ RWS R1 R2)
theorem CHP_det {ok : List Int → Prop} {N : List Int → List Int} {R1 R2 S1 S2 : Int → List Int} {r ret ret2 : Int} (h : RWS R1 S1) (x : CHP ok N R1 R2 r ret) (y : CHP ok N S1 S2 r ret2) : ret = ret2 ∧ RWS R2 S2 := by
  rcases x with ⟨a1, a2, a3⟩ | ⟨a1, a2, a3⟩ <;> rcases y with ⟨b1, b2, b3⟩ | ⟨b1, b2, b3⟩
  · exact ⟨by omega, RWN_t h a3 b3 (by rw [h r a1.1.1 a1.1.2])⟩
  · exact absurd (show okd r ∧ ok (S1 r) from ⟨a1.1, by rw [h r a1.1.1 a1.1.2]; exact a1.2⟩) b1
  · exact absurd (show okd r ∧ ok (R1 r) from ⟨b1.1, by rw [← h r b1.1.1 b1.1.2]; exact b1.2⟩) a1
  · exact ⟨by omega, RWS_t h a3 b3⟩
theorem CHP_R {ok : List Int → Prop} {N : List Int → List Int} {R1 R2 : Int → List Int} {r ret : Int} (x : CHQ ((0 ≤ r ∧ r ≤ 3) ∧ ok (R1 r)) (R1 r) (N (R1 r)) ret (R2 r)) (o : ∀ q, 0 ≤ q → q ≤ 3 → q ≠ r → R2 q = R1 q) : CHP ok N R1 R2 r ret := by
  rcases x with ⟨a, b, c⟩ | ⟨a, b, c⟩
  · exact .inl ⟨a, b, c, o⟩
  · refine .inr ⟨a, b, fun q q0 q3 => ?_⟩
    by_cases e : q = r
    · rw [e]; exact c
    · exact o q q0 q3 e
theorem CHP_4 {ok : List Int → Prop} {N : List Int → List Int} {L0 L1 L2 L3 M0 M1 M2 M3 : List Int} {r ret : Int} (h : 0 ≤ r ∧ r ≤ 3 ∨ ret = 0) (c0 : IMP (r = 0) (CHQ (ok L0) L0 (N L0) ret M0)) (c1 : IMP (r = 1) (CHQ (ok L1) L1 (N L1) ret M1)) (c2 : IMP (r = 2) (CHQ (ok L2) L2 (N L2) ret M2)) (c3 : IMP (r = 3) (CHQ (ok L3) L3 (N L3) ret M3))
    (s0 : IMP (r ≠ 0) (M0 = L0)) (s1 : IMP (r ≠ 1) (M1 = L1)) (s2 : IMP (r ≠ 2) (M2 = L2)) (s3 : IMP (r ≠ 3) (M3 = L3)) : CHP ok N (rw4 L0 L1 L2 L3) (rw4 M0 M1 M2 M3) r ret := by
  by_cases hr : 0 ≤ r ∧ r ≤ 3
  · rcases (show r = 0 ∨ r = 1 ∨ r = 2 ∨ r = 3 by omega) with e | e | e | e
    · subst e
      rcases c0 rfl with ⟨a, b, c⟩ | ⟨a, b, c⟩
      · exact .inl ⟨⟨hr, a⟩, b, RWN_4 rfl c (fun w => absurd rfl w) s1 s2 s3⟩
      · exact .inr ⟨fun w => a w.2, b, RWS_4 c (s1 (by decide)) (s2 (by decide)) (s3 (by decide))⟩
    · subst e
      rcases c1 rfl with ⟨a, b, c⟩ | ⟨a, b, c⟩
      · exact .inl ⟨⟨hr, a⟩, b, RWN_4 rfl c s0 (fun w => absurd rfl w) s2 s3⟩
      · exact .inr ⟨fun w => a w.2, b, RWS_4 (s0 (by decide)) c (s2 (by decide)) (s3 (by decide))⟩
    · subst e
      rcases c2 rfl with ⟨a, b, c⟩ | ⟨a, b, c⟩
      · exact .inl ⟨⟨hr, a⟩, b, RWN_4 rfl c s0 s1 (fun w => absurd rfl w) s3⟩
      · exact .inr ⟨fun w => a w.2, b, RWS_4 (s0 (by decide)) (s1 (by decide)) c (s3 (by decide))⟩
    · subst e
      rcases c3 rfl with ⟨a, b, c⟩ | ⟨a, b, c⟩
      · exact .inl ⟨⟨hr, a⟩, b, RWN_4 rfl c s0 s1 s2 (fun w => absurd rfl w)⟩
      · exact .inr ⟨fun w => a w.2, b, RWS_4 (s0 (by decide)) (s1 (by decide)) (s2 (by decide)) c⟩
  · exact .inr ⟨fun w => hr w.1, by omega, RWS_4 (s0 (by omega)) (s1 (by omega)) (s2 (by omega)) (s3 (by omega))⟩

def JNO (R : Int → List Int) (d a f t : Int) : Prop := okd d ∧ okd a ∧ ((prL (R a) f t).length : Int) ≤ 65536 - ((R d).length : Int)
def JNP (R1 R2 : Int → List Int) (d a f t ret : Int) : Prop := (JNO R1 d a f t ∧ ret = 1 ∧ RWN R1 R2 d (R1 d ++ prL (R1 a) f t)) ∨ (¬ JNO R1 d a f t ∧ ret = 0 ∧ RWS R1 R2)
section JNy
variable {R1 R2 S1 S2 : Int → List Int} {d a f t ret ret2 k j : Int}
theorem JNO_s (h : RWS R1 S1) (x : JNO R1 d a f t) : JNO S1 d a f t := ⟨x.1, x.2.1, by rw [h d x.1.1 x.1.2, h a x.2.1.1 x.2.1.2]; exact x.2.2⟩
theorem RWS_sy (h : RWS R1 S1) : RWS S1 R1 := fun q a b => (h q a b).symm
theorem JNP_det (h : RWS R1 S1) (x : JNP R1 R2 d a f t ret) (y : JNP S1 S2 d a f t ret2) : ret = ret2 ∧ RWS R2 S2 := by
  rcases x with ⟨a1, a2, a3⟩ | ⟨a1, a2, a3⟩ <;> rcases y with ⟨b1, b2, b3⟩ | ⟨b1, b2, b3⟩
  · exact ⟨by omega, RWN_t h a3 b3 (by rw [h d a1.1.1 a1.1.2, h a a1.2.1.1 a1.2.1.2])⟩
  · exact absurd (JNO_s h a1) b1
  · exact absurd (JNO_s (RWS_sy h) b1) a1
  · exact ⟨by omega, RWS_t h a3 b3⟩
theorem JNP_R (x : CHQ ((0 ≤ d ∧ d ≤ 3) ∧ (0 ≤ a ∧ a ≤ 3) ∧ ((prL (R1 a) f t).length : Int) ≤ 65536 - ((R1 d).length : Int)) (R1 d) (R1 d ++ prL (R1 a) f t) ret (R2 d)) (o : ∀ q, 0 ≤ q → q ≤ 3 → q ≠ d → R2 q = R1 q) : JNP R1 R2 d a f t ret := by
  rcases x with ⟨a, b, c⟩ | ⟨a, b, c⟩
  · exact .inl ⟨a, b, c, o⟩
  · refine .inr ⟨a, b, fun q q0 q3 => ?_⟩
    by_cases e : q = d
    · rw [e]; exact c
    · exact o q q0 q3 e
theorem JNP_n (h : ¬ (okd d ∧ okd a)) (s : RWS R1 R2) : JNP R1 R2 d a f t 0 := .inr ⟨fun q => h ⟨q.1, q.2.1⟩, rfl, s⟩
theorem JNP_f {c n : Int} (hd : d = k) (ha : a = j) (hp : ((prL (R1 j) f t).length : Int) = n) (hc : ((R1 k).length : Int) = c) (h : 65536 < c + n) (s : RWS R1 R2) : JNP R1 R2 d a f t 0 := by
  subst hd
  subst ha
  exact .inr ⟨fun q => by have := q.2.2; omega, rfl, s⟩
theorem JNP_y {c n : Int} (hd : d = k) (ha : a = j) (hk : okd k) (hj : okd j) (hp : ((prL (R1 j) f t).length : Int) = n) (hc : ((R1 k).length : Int) = c) (h : c + n ≤ 65536) (s : RWN R1 R2 k (R1 k ++ prL (R1 j) f t)) : JNP R1 R2 d a f t 1 := by
  subst hd
  subst ha
  exact .inl ⟨⟨hk, hj, by omega⟩, rfl, s⟩
end JNy
theorem pr5 {g : Int → Int} {n a b l : Int} (hn : 0 ≤ n) (h : (0 ≤ a ∧ a ≤ b ∧ b ≤ n) ∧ l = b - a ∨ ¬ (0 ≤ a ∧ a ≤ b ∧ b ≤ n) ∧ l = 0) : ((prL (sc g 0 n) a b).length : Int) = l ∧ prL (sc g 0 n) a b = sc g a (a + l) := by
  rcases h with ⟨x, y⟩ | ⟨x, y⟩
  · rw [pr_sc rfl x, y, show a + (b - a) = b by omega, sc_lenI (by omega)]
    exact ⟨by omega, rfl⟩
  · rw [pr_nil rfl hn x, y, Int.add_zero, sc_nil (Int.le_refl _)]
    exact ⟨rfl, rfl⟩


end
section
/-! 23g -/
theorem sc_joi {g g1 h : Int → Int} {n m a : Int} (h0 : 0 ≤ n) (hm : 0 ≤ m) (hs : ∀ i, 0 ≤ i → i < n → g1 i = g i) (hc : ∀ k, 0 ≤ k → k < m → g1 (n + k) = h (a + k)) : sc g1 0 (n + m) = sc g 0 n ++ sc h a (a + m) := by
  rw [sc_cat (f := g1) (a := 0) (b := n) (c := n + m) h0 (by omega), sc_same (fun k x y => hs k x y), sc_shift (f := g1) (g := h) (a := n) (b := a) (fun k x y => congrArg u8 (hc k x y))]
theorem app2 {A B C D : List Int} (h : A = C) (k : B = D) : A ++ B = C ++ D := by rw [h, k]
theorem app_r {X Y Z W : List Int} (h : X = Y ++ Z) (e : Z = W) : X = Y ++ W := by rw [h, e]
theorem PRJ {R : Int → List Int} {a j f t l n : Int} {g : Int → Int} (ha : a = j) (hR : R j = sc g 0 n) (hn : 0 ≤ n) (h : (0 ≤ f ∧ f ≤ t ∧ t ≤ n) ∧ l = t - f ∨ ¬ (0 ≤ f ∧ f ≤ t ∧ t ≤ n) ∧ l = 0) : ((prL (R a) f t).length : Int) = l ∧ prL (R a) f t = sc g f (f + l) := by
  subst ha
  rw [hR]
  exact pr5 hn h
section JNz
variable {R1 R2 : Int → List Int} {d a f t k c n : Int} {PL : List Int}
theorem JNP_f2 (hd : d = k) (hP : PL = prL (R1 a) f t) (hp : (PL.length : Int) = n) (hc : ((R1 k).length : Int) = c) (h : 65536 < c + n) (s : RWS R1 R2) : JNP R1 R2 d a f t 0 := JNP_f hd rfl (by rw [← hP]; exact hp) hc h s
theorem JNP_y2 (hd : d = k) (hk : okd k) (hj : okd a) (hP : PL = prL (R1 a) f t) (hp : (PL.length : Int) = n) (hc : ((R1 k).length : Int) = c) (h : c + n ≤ 65536) (s : RWN R1 R2 k (R1 k ++ PL)) : JNP R1 R2 d a f t 1 := by
  subst hP
  exact JNP_y hd rfl hk hj hp hc h s
end JNz


end
section
/-! 23h -/
section RQc
variable {g g2 : Int → Int} {n m f pl ret k : Int} {H : List Int} {Dc : DcS}
theorem RDQ_c0 (h : TBP (ub8 g) n 0 H m f pl (H ++ sc g2 0 k)) (hp : f ≠ 0 ∨ pl = n) (hn : 0 ≤ n) (hk : 0 ≤ k) (hr : f = 0 ∧ ret = k ∨ 1 ≤ f ∧ ret = -f) : RDQ 0 (sc g 0 n) H Dc m ret pl (sc g2 0 k) :=
  RDQ_0 (I := ub8 g) (n := n) (k := k) (g := g2) sc_ub8 hn (ub8_r g) (RDT_c h hp (hr.elim (fun w => .inl ⟨w.1, w.2, hk, rfl⟩) .inr)) (fun _ => rfl)
theorem RDQ_c1 (x : IMP (f ≠ 0) (IT (TAs (ub8 g) n m H) (TAe (ub8 g) n m H) (0, []) (f, pl, []))) (y : IMP (f = 0) (IT (TAs (ub8 g) n m H) (TAe (ub8 g) n m H) (0, []) (0, pl, sc g2 0 k))) (hn : 0 ≤ n) (hk : 0 ≤ k) (hr : f = 0 ∧ ret = k ∨ 1 ≤ f ∧ ret = -f) : RDQ 1 (sc g 0 n) H Dc m ret pl (sc g2 0 k) := by
  refine RDQ_1 (I := ub8 g) (n := n) (k := k) (g := g2) sc_ub8 hn (ub8_r g) ?_ (fun _ => rfl)
  rcases hr with ⟨a, b⟩ | ⟨a, b⟩
  · exact ⟨0, _, y a, .inl ⟨rfl, b, hk, rfl⟩⟩
  · exact ⟨f, _, x (by omega), .inr ⟨a, b⟩⟩
theorem RDQ_c2 (x : IMP (f ≠ 0) (TYB (ub8 g) n 0 m (f, pl, []))) (y : IMP (f = 0) (TYB (ub8 g) n 0 m (0, n, sc g2 0 k))) (hp : f ≠ 0 ∨ pl = n) (hn : 0 ≤ n) (hk : 0 ≤ k) (hr : f = 0 ∧ ret = k ∨ 1 ≤ f ∧ ret = -f) : RDQ 2 (sc g 0 n) H Dc m ret pl (sc g2 0 k) := by
  refine RDQ_2 (I := ub8 g) (n := n) (k := k) (g := g2) sc_ub8 hn (ub8_r g) ?_ (fun _ => rfl)
  rcases hr with ⟨a, b⟩ | ⟨a, b⟩
  · have e : pl = n := by omega
    subst e
    exact ⟨0, _, y a, .inl ⟨rfl, b, hk, rfl⟩⟩
  · exact ⟨f, _, x (by omega), .inr ⟨a, b⟩⟩
theorem RDQ_c3 (x : IMP (f ≠ 0) (IT (TUs (ub8 g) n m) (TUe (ub8 g) n m) (0, []) (f, pl, []))) (y : IMP (f = 0) (IT (TUs (ub8 g) n m) (TUe (ub8 g) n m) (0, []) (0, pl, sc g2 0 k))) (hn : 0 ≤ n) (hk : 0 ≤ k) (hr : f = 0 ∧ ret = k ∨ 1 ≤ f ∧ ret = -f) : RDQ 3 (sc g 0 n) H Dc m ret pl (sc g2 0 k) := by
  refine RDQ_3 (I := ub8 g) (n := n) (k := k) (g := g2) sc_ub8 hn (ub8_r g) ?_ (fun _ => rfl)
  rcases hr with ⟨a, b⟩ | ⟨a, b⟩
  · exact ⟨0, _, y a, .inl ⟨rfl, b, hk, rfl⟩⟩
  · exact ⟨f, _, x (by omega), .inr ⟨a, b⟩⟩
theorem RDQ_c4 {k0 k1 k2 k4 : Int} (hD : DCo Dc) (x : RDS (ub8 g) n m Dc = (f, pl, sc g2 0 k, k0, k1, k2, k4)) (hp : f ≠ 0 ∨ pl = n) (hn : 0 ≤ n) (hk : 0 ≤ k) (hr : f = 0 ∧ ret = k ∨ 1 ≤ f ∧ ret = -f) : RDQ 4 (sc g 0 n) H Dc m ret pl (sc g2 0 k) ∧ CN5 (RDS (ap (sc g 0 n)) ((sc g 0 n).length : Int) m Dc) (k0, k1, k2, k, k4) ∧ 0 ≤ (RDS (ap (sc g 0 n)) ((sc g 0 n).length : Int) m Dc).1 := by
  rw [RDS_L (I := ub8 g) (n := n) (L := sc g 0 n) sc_ub8 hn (ub8_r g) hD] at x
  have hl : ((sc g 0 n).length : Int) = n := by rw [sc_lenI hn]; omega
  have hk2 : ((sc g2 0 k).length : Int) = k := by rw [sc_lenI hk]; omega
  refine ⟨?_, ⟨by rw [x], by rw [x], by rw [x], by rw [x]; exact hk2, by rw [x]⟩, by rw [x]; show 0 ≤ f; omega⟩
  rcases hr with ⟨a, b⟩ | ⟨a, b⟩
  · exact RDQ_4y (by rw [x]; exact a) (by rw [x]; show ret = ((sc g2 0 k).length : Int); omega) (by omega) (by rw [x])
  · exact RDQ_4n (by rw [x]; show f ≠ 0; omega) (by rw [x]; exact b) (by rw [x])

theorem RDQ_D {L O : List Int} {D2 : DcS} (x : RDQ f L H Dc m ret pl O) (h : f ≠ 4) : RDQ f L H D2 m ret pl O := by
  rcases x with x | x | x | x | ⟨e, _⟩
  · exact .inl x
  · exact .inr (.inl x)
  · exact .inr (.inr (.inl x))
  · exact .inr (.inr (.inr (.inl x)))
  · exact absurd e h
end RQc


end
section
/-! 23i -/
noncomputable def wsE : WSt := bgS 0 (fun _ => 0) (fun _ => 0) (fun _ => 0) (fun _ => 0) (fun _ => 0)
section WYc
variable {s : Int → Int} {L H O : List Int} {Dc D2 : DcS} {st st2 : WSt} {ret f h : Int}
theorem WRC_i {P Q : List Int → Prop} (k : ∀ out, Q out → P out) (x : WRC P ret O) : WRC Q ret O := fun out q => x out (k out q)
theorem WRY_0 (hh : (H.length : Int) = h) (x : WRC (TOB (s 0) h (H ++ L)) ret O) : WRY 0 s L H Dc st ret O := by
  subst hh
  exact .inr ⟨by decide, WRC_i (fun out q => by rcases q with ⟨_, q⟩ | ⟨e, _⟩ | ⟨e, _⟩ | ⟨e, _⟩ | ⟨e, _⟩ | ⟨e, _⟩ <;> first | exact q | exact absurd e (by decide)) x⟩
theorem WRY_1 (x : WRC (TFR (s 0) (s 3) (s 4) (s 5) (s 2) H L) ret O) : WRY 1 s L H Dc st ret O := .inr ⟨by decide, WRC_i (fun out q => by rcases q with ⟨e, _⟩ | ⟨_, q⟩ | ⟨e, _⟩ | ⟨e, _⟩ | ⟨e, _⟩ | ⟨e, _⟩ <;> first | exact q | exact absurd e (by decide)) x⟩
theorem WRY_2 (x : WRC (TGB (s 0) L) ret O) : WRY 2 s L H Dc st ret O := .inr ⟨by decide, WRC_i (fun out q => by rcases q with ⟨e, _⟩ | ⟨e, _⟩ | ⟨_, q⟩ | ⟨e, _⟩ | ⟨e, _⟩ | ⟨e, _⟩ <;> first | exact q | exact absurd e (by decide)) x⟩
theorem WRY_3 (x : WRC (TGR (s 0) (s 2) (s 6) L) ret O) : WRY 3 s L H Dc st ret O := .inr ⟨by decide, WRC_i (fun out q => by rcases q with ⟨e, _⟩ | ⟨e, _⟩ | ⟨e, _⟩ | ⟨_, q⟩ | ⟨e, _⟩ | ⟨e, _⟩ <;> first | exact q | exact absurd e (by decide)) x⟩
theorem WRY_4 (x : WRC (fun out => out = (frD s L Dc st).1) ret O) : WRY 4 s L H Dc st ret O := .inr ⟨by decide, WRC_i (fun out q => by rcases q with ⟨e, _⟩ | ⟨e, _⟩ | ⟨e, _⟩ | ⟨e, _⟩ | ⟨_, q⟩ | ⟨e, _⟩ <;> first | exact q | exact absurd e (by decide)) x⟩
theorem WRY_5 (x : MKL (mkF (s 9 % 4294967296) L (s 1) (s 0)) ret O) : WRY 5 s L H Dc st ret O := .inl ⟨rfl, x⟩

theorem WRY_D (hf : f ≠ 4) (x : WRY f s L H Dc st ret O) : WRY f s L H D2 st2 ret O := by
  rcases x with x | ⟨a, x⟩
  · exact .inl x
  · refine .inr ⟨a, WRC_i (fun out q => ?_) x⟩
    rcases q with q | q | q | q | ⟨e, _⟩ | q
    · exact .inl q
    · exact .inr (.inl q)
    · exact .inr (.inr (.inl q))
    · exact .inr (.inr (.inr (.inl q)))
    · exact absurd e hf
    · exact .inr (.inr (.inr (.inr (.inr q))))
end WYc

def STR (c n : Int) (C L : List Int) (a b : Int) : Prop := ∃ r, (r = 1 ∧ c = n ∧ C = L ∨ r = 0 ∧ ¬ (c = n ∧ C = L)) ∧ b = w32 (a + (1 - r))
theorem STR_y {c n a v : Int} {C L : List Int} {z : Int} (ha : a = v) (h : c = n) (d : DFF C L z) (hz : z < 0) : STR c n C L a (adI v 0) := by
  subst ha
  refine ⟨1, .inl ⟨rfl, h, ?_⟩, by rw [ad_w]; congr 1⟩
  rcases d with ⟨_, e⟩ | ⟨e, _⟩
  · exact e
  · omega
theorem STR_n {c n a v : Int} {C L : List Int} (ha : a = v) (h : c ≠ n) : STR c n C L a (adI v 1) := ⟨0, .inr ⟨rfl, fun q => h q.1⟩, by rw [ad_w, ha]; congr 1⟩
theorem STR_u {c n a v : Int} {C L : List Int} {z : Int} (ha : a = v) (d : DFF C L z) (hz : 0 ≤ z) : STR c n C L a (adI v 1) := by
  subst ha
  refine ⟨0, .inr ⟨rfl, fun q => ?_⟩, by rw [ad_w]; congr 1⟩
  have e := DFF_det d (.inl ⟨rfl, q.2⟩)
  omega
theorem STR_C {f m ret pl : Int} {O H L C : List Int} {Dc : DcS} {a b : Int} (q : RDQ f O H Dc (L.length : Int) ret pl C) (x : STR ret (L.length : Int) C L a b) : ∃ r, CMB f O H Dc L r ∧ b = w32 (a + (1 - r)) := by
  obtain ⟨r, x, y⟩ := x
  exact ⟨r, ⟨ret, pl, C, q, x⟩, y⟩
theorem BYN {s : Int → Int} {f n w a a0 : Int} (ha : a = a0) (h5 : 0 ≤ f ∧ f ≤ 5) (hn : 0 ≤ n ∧ n ≤ 16384) {b : Int} (e : b = BND s f n) {v : Int} (hv : b < w ∧ v = adI a0 1 ∨ w ≤ b ∧ v = adI a0 0) : v = w32 (a + (if BNA s f n < w then 1 else 0)) := by
  subst ha
  have e2 : BNA s f n = b := by rw [e]; unfold BNA; rw [if_pos (by omega)]
  rw [e2]
  rcases hv with ⟨p, q⟩ | ⟨p, q⟩
  · rw [q, ad_w, if_pos p]
  · rw [q, ad_w, if_neg (by omega)]


end
section
/-! 23j -/
theorem LNZ_P {R1 : Int → List Int} {r ret formed did ds : Int} {Dc : DcS} {dict dl dp dor dla : Int → Int} (x : LNZ R1 r Dc ret formed did dict ds dl dp dor dla) : ∃ D2, LNP R1 r Dc D2 ret ∧ RDI D2 formed did dict ds dl dp dor dla := by
  rcases x with ⟨a, b, c⟩ | ⟨a, b, c⟩
  · exact ⟨Dc, .inl ⟨a, b, rfl⟩, c⟩
  · exact ⟨_, .inr ⟨a, b, rfl⟩, c⟩
theorem fg_o {w : Int} {Dc : DcS} (h : DCo Dc) : DCo (fgD w Dc) := by
  unfold fgD
  split
  · exact DCo_E
  · exact h
theorem fg_l {w : Int} {Dc : DcS} (h : DCl Dc) : DCl (fgD w Dc) := by
  unfold fgD
  split
  · exact DCl_E
  · exact h
theorem rwR_rng {ro si : Int → Int} {r x : Int} (q : x ∈ rwR ro si r) : 0 ≤ x ∧ x ≤ 255 := sc_mem q
theorem LNP_o {R1 : Int → List Int} {r ret : Int} {Dc D2 : DcS} (x : LNP R1 r Dc D2 ret) (h : DCo Dc) (hr : ∀ x, x ∈ R1 r → 0 ≤ x ∧ x ≤ 255) : DCo D2 := by
  rcases x with ⟨_, _, e⟩ | ⟨_, _, e⟩
  · rw [e]; exact h
  · rw [e]; exact DCo_L h (LNF_o (ap_rngL hr))
theorem LNP_l {ro si : Int → Int} {r ret : Int} {Dc D2 : DcS} (x : LNP (rwR ro si) r Dc D2 ret) (h : DCl Dc) (hs : ∀ i, 0 ≤ si i ∧ si i ≤ 65536) : DCl D2 := by
  rcases x with ⟨_, _, e⟩ | ⟨_, _, e⟩
  · rw [e]; exact h
  · rw [e]
    have hl := rwR_len (ro := ro) (si := si) (r := r) (hs r).1
    exact DCl_L (ap_rngL (fun x q => rwR_rng q)) h (by rw [hl]; exact hs r)


end
