theorem M350 {σ0 σ : rS} {D N : Nat → Nat} {F : hF} {A : hA} {d c s : Nat} {Q : wQ} (H : HS σ0 σ D N F A) {a1 a2 : Int} (u1_1 : Int) (eu1_1 : F 1 1 = u1_1) (u4_9 : Int) (eu4_9 : F 4 9 = u4_9) (u4_10 : Int) (eu4_10 : F 4 10 = u4_10) (w14 : Int → Int) (ew14 : A 14 = w14) (h0 : inr (a1)) (h1 : inr (a2)) (h2 : 0 ≤ (a1) ∧ (a1) < (u1_1) ∧ 0 ≤ (a2) ∧ (a2) ≤ 255) (h3 : (u4_10) = 0) (h4 : (u4_9) ≤ (u1_1)) (h5 : ((w14)) ((a1)) = (a2)) (k : ∀ (z : Int) σ Fₚ Aₚ, HS σ0 σ D N Fₚ Aₚ → SF [(4, 9), (4, 10), (4, 11)] F Fₚ → SA [] A Aₚ → ∀ y4_9 : Int, Fₚ 4 9 = y4_9 → ∀ y4_10 : Int, Fₚ 4 10 = y4_10 → ∀ y4_11 : Int, Fₚ 4 11 = y4_11 → ((z) = 0 ∨ (z) = 1) → ((y4_9) ≤ (u1_1)) → ((z) = 1 → (y4_10) = 0 ∧ (a1) + 4 ≤ (y4_9) ∧ (y4_9) ≤ (u1_1) ∧ ((a2) ≤ 1 → (a1) + 8 ≤ (y4_9))) → ((z) = 0 → (y4_10) ≠ 0) → (0 ≤ (y4_10) ∧ (y4_10) ≤ 20) → (IMP (((z) : Int) = 0) (∃ z, TUh ((w14)) ((u1_1)) ((a1)) ((y4_10)) ((y4_11)) ((a2)) z)) → (IMP (((z) : Int) = 1) (TUh ((w14)) ((u1_1)) ((a1)) 0 0 ((a2)) ((y4_9) - (a1) - 4))) → Q (some (I z)) σ c s) : Ew 350 (d + 1) 0 (rargs 0 [.ref (D 4), I a1, I a2]) [] σ c s Q := by
  have r1 : (0 : Int) ≤ u1_1 ∧ u1_1 ≤ 65536 := rngE (show (0 : Int) ≤ F 1 1 ∧ F 1 1 ≤ 65536 from H.frng 1 1) (show F 1 1 = u1_1 from (eu1_1))
  have r2 : (0 : Int) ≤ u4_9 ∧ u4_9 ≤ 65536 := rngE (show (0 : Int) ≤ F 4 9 ∧ F 4 9 ≤ 65536 from H.frng 4 9) (show F 4 9 = u4_9 from (eu4_9))
  have r3 : (-2147483648 : Int) ≤ u4_10 ∧ u4_10 ≤ 2147483647 := rngE (show (-2147483648 : Int) ≤ F 4 10 ∧ F 4 10 ≤ 2147483647 from H.frng 4 10) (show F 4 10 = u4_10 from (eu4_10))
  have hBd : ∀ i, (0 : Int) ≤ (w14) i ∧ (w14) i ≤ 255 := fun i => by have h1 : (0 : Int) ≤ A 14 i ∧ A 14 i ≤ 255 := H.arng 14 i; rw [show A 14 = w14 from ew14] at h1; exact h1
  have hk0 : ((w14)) ((a1)) = (a2) := h5
  refine Ew_of (pcₚ := 1) (fun _ => x_iload_n rfl rfl) ?_
  have hc19 : ∀ (ls : rO) (σ : rS) (F_c19 : hF) (A_c19 : hA) , rlook ls 0 = some (.ref (D 4)) → rlook ls 1 = some (I (a1)) → rlook ls 2 = some (I (a2)) → HS σ0 σ D N F_c19 A_c19 → SF [] F F_c19 → SA [] A A_c19 → (((a1) ≠ (0)) ∨ ((a1) = (0) ∧ (a2) = (255))) → Ew 350 (d + 1) 19 ls [] σ c s Q := by
   as_aux_lemma =>
    intro  ls σ F_c19 A_c19  lc19_0 lc19_1 lc19_2 H hS_c19 hA_c19   jc19_0
    refine Ew_of (pcₚ := 20) (fun _ => x_iload_n rfl lc19_2) ?_
    refine Ew_of (pcₚ := 21) (fun _ => x_iconst rfl) ?_
    have hc38 : ∀ (ls : rO) (σ : rS) (F_c38 : hF) (A_c38 : hA) , rlook ls 0 = some (.ref (D 4)) → rlook ls 1 = some (I (a1)) → rlook ls 2 = some (I (a2)) → HS σ0 σ D N F_c38 A_c38 → SF [] F_c19 F_c38 → SA [] A_c19 A_c38 → (((a2) < (2)) ∨ ((a2) ≥ (2) ∧ (a2) > (127))) → Ew 350 (d + 1) 38 ls [] σ c s Q := by
     as_aux_lemma =>
      intro  ls σ F_c38 A_c38  lc38_0 lc38_1 lc38_2 H hS_c38 hA_c38   jc38_0
      refine Ew_of (pcₚ := 39) (fun _ => x_iload_n rfl lc38_1) ?_
      refine Ew_of (pcₚ := 40) (fun _ => x_iconst rfl) ?_
      refine w_iadd rfl ?_
      refine Ew_of (pcₚ := 42) (fun _ => x_aload_n rfl lc38_0) ?_
      refine w_gT H (o := 4) (t := 1) rfl (H.perm 4 rfl) rfl rfl rfl rfl rfl rfl ?_
      refine w_gI H (o := 1) (w := u1_1) rfl (H.perm 1 rfl) rfl rfl rfl (fun _ => rfl) (((hS_c38 1 1 rfl).trans (hS_c19 1 1 rfl)).trans (eu1_1)) ?_
      refine w_icmple (t := 65) rfl rfl (show inr ((a1 + 4)) from q_1082 h2 r1) (show inr (u1_1) from q_286 r1) (fun b4 => ?_) (fun b4 => ?_)
      · refine Ew_of (pcₚ := 66) (fun _ => x_aload_n rfl lc38_0) ?_
        refine Ew_of (pcₚ := 67) (fun _ => x_iload_n rfl lc38_1) ?_
        refine Ew_of (pcₚ := 68) (fun _ => x_iconst rfl) ?_
        refine w_iadd rfl ?_
        refine w_inv H (o := 4) rfl rfl rfl (H.perm 4 rfl) rfl rfl (by rfl) (M349 H (w14) ((funext (hA_c38 14 rfl)).trans ((funext (hA_c19 14 rfl)).trans (ew14))) (show inr ((a1 + 1)) from q_1084 b4 h2 r1) (show 0 ≤ ((a1 + 1)) ∧ ((a1 + 1)) < 65536 from q_1083 b4 h2 r1) (fun z9 σ F5 A6 H hS7 hA8 pz9_0 pz9_1 pz9_2 => ⟨rfl, ?_⟩))
        have h1_ := pz9_2
        refine Ew_of (pcₚ := 75) (fun _ => x_sipush (z := 256) rfl (by decide)) ?_
        refine Ew_of (pcₚ := 76) (fun _ => x_aload_n rfl lc38_0) ?_
        refine Ew_of (pcₚ := 77) (fun _ => x_iload_n rfl lc38_1) ?_
        refine Ew_of (pcₚ := 78) (fun _ => x_iconst rfl) ?_
        refine w_iadd rfl ?_
        refine w_inv H (o := 4) rfl rfl rfl (H.perm 4 rfl) rfl rfl (by rfl) (M349 H (w14) ((funext (hA8 14 rfl)).trans ((funext (hA_c38 14 rfl)).trans ((funext (hA_c19 14 rfl)).trans (ew14)))) (show inr ((a1 + 2)) from q_1086 b4 h2 r1) (show 0 ≤ ((a1 + 2)) ∧ ((a1 + 2)) < 65536 from q_1085 b4 h2 r1) (fun z14 σ F10 A11 H hS12 hA13 pz14_0 pz14_1 pz14_2 => ⟨rfl, ?_⟩))
        have h2_ := pz14_2
        refine w_imul rfl ?_
        refine w_iadd rfl ?_
        refine Ew_of (pcₚ := 86) (fun _ => x_ldc (z := 65536) rfl (by decide)) ?_
        refine Ew_of (pcₚ := 87) (fun _ => x_aload_n rfl lc38_0) ?_
        refine Ew_of (pcₚ := 88) (fun _ => x_iload_n rfl lc38_1) ?_
        refine Ew_of (pcₚ := 89) (fun _ => x_iconst rfl) ?_
        refine w_iadd rfl ?_
        refine w_inv H (o := 4) rfl rfl rfl (H.perm 4 rfl) rfl rfl (by rfl) (M349 H (w14) ((funext (hA13 14 rfl)).trans ((funext (hA8 14 rfl)).trans ((funext (hA_c38 14 rfl)).trans ((funext (hA_c19 14 rfl)).trans (ew14))))) (show inr ((a1 + 3)) from q_1088 b4 h2 r1) (show 0 ≤ ((a1 + 3)) ∧ ((a1 + 3)) < 65536 from q_1087 b4 h2 r1) (fun z19 σ F15 A16 H hS17 hA18 pz19_0 pz19_1 pz19_2 => ⟨rfl, ?_⟩))
        have h3_ := pz19_2
        refine w_imul rfl ?_
        refine w_iadd rfl ?_
        have hz : (((z9 + (256 * z14)) + (65536 * z19))) = nvl ((w14)) ((a1) + 1) 3 := nvl_3 hBd h1_ (by omega) h2_ (by omega) h3_ (by omega) (by omega)
        refine Ew_of (pcₚ := 96) (fun _ => x_istore_n rfl) ?_
        obtain ⟨q3, hq3⟩ : ∃ q : Int, q = (((z9 + (256 * z14)) + (65536 * z19))) := ⟨_, rfl⟩
        have hz3 : q3 = nvl ((w14)) ((a1) + 1) 3 := hq3.trans hz
        refine Ew_of (pcₚ := 97) (fun _ => x_iload_n rfl (rk_o (lc38_1) rfl rfl)) ?_
        refine Ew_of (pcₚ := 98) (fun _ => x_iconst rfl) ?_
        refine w_iadd rfl ?_
        refine Ew_of (pcₚ := 100) (fun _ => x_iload_n rfl rk_s) ?_
        refine w_iadd rfl ?_
        refine Ew_of (pcₚ := 102) (fun _ => x_aload_n rfl (rk_o (lc38_0) rfl rfl)) ?_
        refine w_gT H (o := 4) (t := 1) rfl (H.perm 4 rfl) rfl rfl rfl rfl rfl rfl ?_
        refine w_gI H (o := 1) (w := u1_1) rfl (H.perm 1 rfl) rfl rfl rfl (fun _ => rfl) ((((((hS17 1 1 rfl).trans (hS12 1 1 rfl)).trans (hS7 1 1 rfl)).trans (hS_c38 1 1 rfl)).trans (hS_c19 1 1 rfl)).trans (eu1_1)) ?_
        refine w_icmple (t := 125) rfl rfl (show inr (((a1 + 4) + ((z9 + (256 * z14)) + (65536 * z19)))) from q_1089 b4 h2 pz14_1 pz19_1 pz9_1 r1) (show inr (u1_1) from q_286 r1) (fun b20 => ?_) (fun b20 => ?_)
        · have hg : TUg ((w14)) ((u1_1)) ((a1)) ((a2)) (q3) := ⟨hk0, by omega, by omega, by omega, hz3, by omega⟩
          refine Ew_of (pcₚ := 126) (fun _ => x_aload_n rfl (rk_o (lc38_0) rfl rfl)) ?_
          refine Ew_of (pcₚ := 127) (fun _ => x_iload_n rfl (rk_o (lc38_1) rfl rfl)) ?_
          refine Ew_of (pcₚ := 128) (fun _ => x_iconst rfl) ?_
          refine w_iadd rfl ?_
          refine Ew_of (pcₚ := 130) (fun _ => x_iload_n rfl rk_s) ?_
          refine w_iadd rfl ?_
          refine w_pI H (o := 4) rfl rfl (H.perm 4 rfl) rfl rfl rfl (fun _ => rfl) rfl (show (0 : Int) ≤ ((a1 + 4) + ((z9 + (256 * z14)) + (65536 * z19))) ∧ ((a1 + 4) + ((z9 + (256 * z14)) + (65536 * z19))) ≤ 65536 from q_1090 b20 h2 pz14_1 pz19_1 pz9_1 r1) (fun σ H => ?_)
          refine Ew_of (pcₚ := 135) (fun _ => x_iload_n rfl (rk_o (lc38_2) rfl rfl)) ?_
          refine Ew_of (pcₚ := 138) (fun _ => x_sipush (z := 255) rfl (by decide)) ?_
          refine w_icmpne (t := 221) rfl rfl (show inr (a2) from h1) (show inr (255) from q_297) (fun b21 => ?_) (fun b21 => ?_)
          · refine Ew_of (pcₚ := 222) (fun _ => x_iload_n rfl (rk_o (lc38_2) rfl rfl)) ?_
            refine Ew_of (pcₚ := 223) (fun _ => x_iconst rfl) ?_
            have hc247 : ∀ (tc247_0 : Int), ∀ (ls : rO) (σ : rS) (F_c247 : hF) (A_c247 : hA) , rlook ls 0 = some (.ref (D 4)) → rlook ls 1 = some (I (a1)) → HS σ0 σ D N F_c247 A_c247 → SF [] (updF F15 4 9 (((a1 + 4) + ((z9 + (256 * z14)) + (65536 * z19))))) F_c247 → SA [] A16 A_c247 → (inr (tc247_0)) → (((a2) > (1) ∧ (a2) ≠ (1) ∧ (tc247_0) = (0)) ∨ ((a2) > (1) ∧ (a2) = (1) ∧ (((z9 + (256 * z14)) + (65536 * z19))) ≤ (65540) ∧ (tc247_0) = (0)) ∨ ((a2) > (1) ∧ (a2) = (1) ∧ (((z9 + (256 * z14)) + (65536 * z19))) > (65540) ∧ (tc247_0) = (1)) ∨ ((a2) ≤ (1) ∧ (((z9 + (256 * z14)) + (65536 * z19))) < (4) ∧ (tc247_0) = (1)) ∨ ((a2) ≤ (1) ∧ (((z9 + (256 * z14)) + (65536 * z19))) ≥ (4) ∧ (a2) ≠ (1) ∧ (tc247_0) = (0)) ∨ ((a2) ≤ (1) ∧ (((z9 + (256 * z14)) + (65536 * z19))) ≥ (4) ∧ (a2) = (1) ∧ (((z9 + (256 * z14)) + (65536 * z19))) ≤ (65540) ∧ (tc247_0) = (0)) ∨ ((a2) ≤ (1) ∧ (((z9 + (256 * z14)) + (65536 * z19))) ≥ (4) ∧ (a2) = (1) ∧ (((z9 + (256 * z14)) + (65536 * z19))) > (65540) ∧ (tc247_0) = (1))) → Ew 350 (d + 1) 247 ls [I (tc247_0)] σ c s Q := by
             as_aux_lemma =>
              intro tc247_0 ls σ F_c247 A_c247  lc247_0 lc247_1 H hS_c247 hA_c247   jc247_0 jc247_1
              refine Ew_of (pcₚ := 249) (fun _ => x_istore rfl) ?_
              refine Ew_of (pcₚ := 251) (fun _ => x_iload rfl rk_s) ?_
              refine w_ifeq (t := 264) rfl rfl (show inr (tc247_0) from jc247_0) (fun b22 => ?_) (fun b22 => ?_)
              · refine Ew_of (pcₚ := 265) (fun _ => x_iconst rfl) ?_
                refine Ew_of (pcₚ := 269) (fun _ => x_goto rfl rfl) ?_
                have r23 : (-2147483648 : Int) ≤ F 4 11 ∧ F 4 11 ≤ 2147483647 := rngE (show (-2147483648 : Int) ≤ F_c247 4 11 ∧ F_c247 4 11 ≤ 2147483647 from H.frng 4 11) (show F_c247 4 11 = F 4 11 from ((((((hS_c247 4 11 rfl).trans (hS17 4 11 rfl)).trans (hS12 4 11 rfl)).trans (hS7 4 11 rfl)).trans (hS_c38 4 11 rfl)).trans (hS_c19 4 11 rfl)))
                have : IMP (((1) : Int) = 0) (∃ z, TUh ((w14)) ((u1_1)) ((a1)) ((u4_10)) ((F 4 11)) ((a2)) z) := by first | exact fun z => absurd z (by omega) | exact fun _ => ⟨q3, TUh_10 hg (by omega) (by omega) (by omega) (by omega)⟩
                have : IMP (((1) : Int) = 1) (TUh ((w14)) ((u1_1)) ((a1)) 0 0 ((a2)) ((((a1 + 4) + ((z9 + (256 * z14)) + (65536 * z19)))) - (a1) - 4)) := by first | exact fun z => absurd z (by omega) | (intro _; rw [show (((a1 + 4) + ((z9 + (256 * z14)) + (65536 * z19)))) - (a1) - 4 = q3 by omega]; exact TUh_0 hg (.inr (by omega)) rfl)
                exact w_ireturn rfl (k (1) σ _ _ H (SF_trans (SF_upd (SF_trans (SF_trans (SF_trans (SF_trans (SF_trans (SF_refl) hS_c19 (any_sub rfl)) hS_c38 (any_sub rfl)) hS7 (any_sub rfl)) hS12 (any_sub rfl)) hS17 (any_sub rfl)) rfl) hS_c247 (any_sub rfl)) (SA_trans (SA_trans (SA_trans (SA_trans (SA_trans (SA_trans (SA_refl) hA_c19 (any_subA rfl)) hA_c38 (any_subA rfl)) hA8 (any_subA rfl)) hA13 (any_subA rfl)) hA18 (any_subA rfl)) hA_c247 (any_subA rfl)) (((a1 + 4) + ((z9 + (256 * z14)) + (65536 * z19)))) ((hS_c247 4 9 rfl)) (u4_10) ((((((((hS_c247 4 10 rfl).trans (hS17 4 10 rfl)).trans (hS12 4 10 rfl)).trans (hS7 4 10 rfl)).trans (hS_c38 4 10 rfl)).trans (hS_c19 4 10 rfl)).trans (eu4_10))) (F 4 11) (((((((hS_c247 4 11 rfl).trans (hS17 4 11 rfl)).trans (hS12 4 11 rfl)).trans (hS7 4 11 rfl)).trans (hS_c38 4 11 rfl)).trans (hS_c19 4 11 rfl))) (show (1) = 0 ∨ (1) = 1 by first | exact q_49 | omega) (show (((a1 + 4) + ((z9 + (256 * z14)) + (65536 * z19)))) ≤ (u1_1) from b20) (show (1) = 1 → (u4_10) = 0 ∧ a1 + 4 ≤ (((a1 + 4) + ((z9 + (256 * z14)) + (65536 * z19)))) ∧ (((a1 + 4) + ((z9 + (256 * z14)) + (65536 * z19)))) ≤ (u1_1) ∧ (a2 ≤ 1 → a1 + 8 ≤ (((a1 + 4) + ((z9 + (256 * z14)) + (65536 * z19))))) by omega) (show (1) = 0 → (u4_10) ≠ 0 by first | exact q_1091 h3 | omega) (show 0 ≤ (u4_10) ∧ (u4_10) ≤ 20 from q_1002 h3) (show IMP (((1) : Int) = 0) (∃ z, TUh ((w14)) ((u1_1)) (a1) ((u4_10)) ((F 4 11)) (a2) z) by assumption) (show IMP (((1) : Int) = 1) (TUh ((w14)) ((u1_1)) (a1) 0 0 (a2) ((((a1 + 4) + ((z9 + (256 * z14)) + (65536 * z19)))) - a1 - 4)) by assumption))
              · refine Ew_of (pcₚ := 255) (fun _ => x_aload_n rfl (rk_o (lc247_0) rfl rfl)) ?_
                refine Ew_of (pcₚ := 257) (fun _ => x_bipush (z := 10) rfl (by decide)) ?_
                refine Ew_of (pcₚ := 258) (fun _ => x_iload_n rfl (rk_o (lc247_1) rfl rfl)) ?_
                have r24 : (-2147483648 : Int) ≤ F 4 11 ∧ F 4 11 ≤ 2147483647 := rngE (show (-2147483648 : Int) ≤ F_c247 4 11 ∧ F_c247 4 11 ≤ 2147483647 from H.frng 4 11) (show F_c247 4 11 = F 4 11 from ((((((hS_c247 4 11 rfl).trans (hS17 4 11 rfl)).trans (hS12 4 11 rfl)).trans (hS7 4 11 rfl)).trans (hS_c38 4 11 rfl)).trans (hS_c19 4 11 rfl)))
                refine w_inv H (o := 4) rfl rfl rfl (H.perm 4 rfl) rfl rfl (by rfl) (M335 H (u4_10) ((((((((hS_c247 4 10 rfl).trans (hS17 4 10 rfl)).trans (hS12 4 10 rfl)).trans (hS7 4 10 rfl)).trans (hS_c38 4 10 rfl)).trans (hS_c19 4 10 rfl)).trans (eu4_10))) (F 4 11) (((((((hS_c247 4 11 rfl).trans (hS17 4 11 rfl)).trans (hS12 4 11 rfl)).trans (hS7 4 11 rfl)).trans (hS_c38 4 11 rfl)).trans (hS_c19 4 11 rfl))) (show inr (10) from q_746) (show inr (a1) from h0) (fun z29 σ F25 A26 H hS27 hA28 y30 ey31 y32 ey33 pz29_0 pz29_1 pz29_2 => ⟨rretB rfl pz29_0, ?_⟩))
                have r34 : (-2147483648 : Int) ≤ y30 ∧ y30 ≤ 2147483647 := rngE (show (-2147483648 : Int) ≤ F25 4 10 ∧ F25 4 10 ≤ 2147483647 from H.frng 4 10) (show F25 4 10 = y30 from (ey31))
                have r35 : (-2147483648 : Int) ≤ y32 ∧ y32 ≤ 2147483647 := rngE (show (-2147483648 : Int) ≤ F25 4 11 ∧ F25 4 11 ≤ 2147483647 from H.frng 4 11) (show F25 4 11 = y32 from (ey33))
                refine w_ifeq (t := 268) rfl rfl (show inr (z29) from q_123 pz29_1) (fun b36 => ?_) (fun b36 => ?_)
                · refine Ew_of (pcₚ := 269) (fun _ => x_iconst rfl) ?_
                  have : IMP (((0) : Int) = 0) (∃ z, TUh ((w14)) ((u1_1)) ((a1)) ((y30)) ((y32)) ((a2)) z) := by first | exact fun z => absurd z (by omega) | exact fun _ => ⟨q3, TUh_10 hg (by omega) (by omega) (by omega) (by omega)⟩
                  have : IMP (((0) : Int) = 1) (TUh ((w14)) ((u1_1)) ((a1)) 0 0 ((a2)) ((((a1 + 4) + ((z9 + (256 * z14)) + (65536 * z19)))) - (a1) - 4)) := by first | exact fun z => absurd z (by omega) | (intro _; rw [show (((a1 + 4) + ((z9 + (256 * z14)) + (65536 * z19)))) - (a1) - 4 = q3 by omega]; exact TUh_0 hg (.inr (by omega)) rfl)
                  exact w_ireturn rfl (k (0) σ _ _ H (SF_trans (SF_trans (SF_upd (SF_trans (SF_trans (SF_trans (SF_trans (SF_trans (SF_refl) hS_c19 (any_sub rfl)) hS_c38 (any_sub rfl)) hS7 (any_sub rfl)) hS12 (any_sub rfl)) hS17 (any_sub rfl)) rfl) hS_c247 (any_sub rfl)) hS27 (any_sub rfl)) (SA_trans (SA_trans (SA_trans (SA_trans (SA_trans (SA_trans (SA_trans (SA_refl) hA_c19 (any_subA rfl)) hA_c38 (any_subA rfl)) hA8 (any_subA rfl)) hA13 (any_subA rfl)) hA18 (any_subA rfl)) hA_c247 (any_subA rfl)) hA28 (any_subA rfl)) (((a1 + 4) + ((z9 + (256 * z14)) + (65536 * z19)))) (((hS27 4 9 rfl).trans (hS_c247 4 9 rfl))) (y30) ((ey31)) (y32) ((ey33)) (show (0) = 0 ∨ (0) = 1 by first | exact q_45 | omega) (show (((a1 + 4) + ((z9 + (256 * z14)) + (65536 * z19)))) ≤ (u1_1) from b20) (show (0) = 1 → (y30) = 0 ∧ a1 + 4 ≤ (((a1 + 4) + ((z9 + (256 * z14)) + (65536 * z19)))) ∧ (((a1 + 4) + ((z9 + (256 * z14)) + (65536 * z19)))) ≤ (u1_1) ∧ (a2 ≤ 1 → a1 + 8 ≤ (((a1 + 4) + ((z9 + (256 * z14)) + (65536 * z19))))) by first | exact q_1093 b20 pz14_1 pz19_1 pz9_1 r34 | omega) (show (0) = 0 → (y30) ≠ 0 by omega) (show 0 ≤ (y30) ∧ (y30) ≤ 20 from q_1092 h3 pz29_2) (show IMP (((0) : Int) = 0) (∃ z, TUh ((w14)) ((u1_1)) (a1) ((y30)) ((y32)) (a2) z) by assumption) (show IMP (((0) : Int) = 1) (TUh ((w14)) ((u1_1)) (a1) 0 0 (a2) ((((a1 + 4) + ((z9 + (256 * z14)) + (65536 * z19)))) - a1 - 4)) by assumption))
                · exact absurd b36 (by omega)
            have hc231 : ∀ (ls : rO) (σ : rS) (F_c231 : hF) (A_c231 : hA) , rlook ls 0 = some (.ref (D 4)) → rlook ls 1 = some (I (a1)) → rlook ls 2 = some (I (a2)) → rlook ls 3 = some (I (((z9 + (256 * z14)) + (65536 * z19)))) → HS σ0 σ D N F_c231 A_c231 → SF [] (updF F15 4 9 (((a1 + 4) + ((z9 + (256 * z14)) + (65536 * z19))))) F_c231 → SA [] A16 A_c231 → (((a2) > (1)) ∨ ((a2) ≤ (1) ∧ (((z9 + (256 * z14)) + (65536 * z19))) ≥ (4))) → Ew 350 (d + 1) 231 ls [] σ c s Q := by
             as_aux_lemma =>
              intro  ls σ F_c231 A_c231  lc231_0 lc231_1 lc231_2 lc231_3 H hS_c231 hA_c231   jc231_0
              refine Ew_of (pcₚ := 232) (fun _ => x_iload_n rfl lc231_2) ?_
              refine Ew_of (pcₚ := 233) (fun _ => x_iconst rfl) ?_
              refine w_icmpne (t := 246) rfl rfl (show inr (a2) from h1) (show inr (1) from q_135) (fun b37 => ?_) (fun b37 => ?_)
              · refine Ew_of (pcₚ := 247) (fun _ => x_iconst rfl) ?_
                exact hc247 (0) _ σ _ _  (lc231_0) (lc231_1) H (SF_trans (SF_refl) hS_c231 (any_sub rfl)) (SA_trans (SA_refl) hA_c231 (any_subA rfl))   (show inr (0) from q_2) (show ((a2) > (1) ∧ (a2) ≠ (1) ∧ (0) = (0)) ∨ ((a2) > (1) ∧ (a2) = (1) ∧ (((z9 + (256 * z14)) + (65536 * z19))) ≤ (65540) ∧ (0) = (0)) ∨ ((a2) > (1) ∧ (a2) = (1) ∧ (((z9 + (256 * z14)) + (65536 * z19))) > (65540) ∧ (0) = (1)) ∨ ((a2) ≤ (1) ∧ (((z9 + (256 * z14)) + (65536 * z19))) < (4) ∧ (0) = (1)) ∨ ((a2) ≤ (1) ∧ (((z9 + (256 * z14)) + (65536 * z19))) ≥ (4) ∧ (a2) ≠ (1) ∧ (0) = (0)) ∨ ((a2) ≤ (1) ∧ (((z9 + (256 * z14)) + (65536 * z19))) ≥ (4) ∧ (a2) = (1) ∧ (((z9 + (256 * z14)) + (65536 * z19))) ≤ (65540) ∧ (0) = (0)) ∨ ((a2) ≤ (1) ∧ (((z9 + (256 * z14)) + (65536 * z19))) ≥ (4) ∧ (a2) = (1) ∧ (((z9 + (256 * z14)) + (65536 * z19))) > (65540) ∧ (0) = (1)) by omega)
              · refine Ew_of (pcₚ := 237) (fun _ => x_iload_n rfl lc231_3) ?_
                refine Ew_of (pcₚ := 239) (fun _ => x_ldc (z := 65540) rfl (by decide)) ?_
                refine w_icmple (t := 246) rfl rfl (show inr (((z9 + (256 * z14)) + (65536 * z19))) from q_1095 pz14_1 pz19_1 pz9_1) (show inr (65540) from q_1094) (fun b38 => ?_) (fun b38 => ?_)
                · refine Ew_of (pcₚ := 247) (fun _ => x_iconst rfl) ?_
                  exact hc247 (0) _ σ _ _  (lc231_0) (lc231_1) H (SF_trans (SF_refl) hS_c231 (any_sub rfl)) (SA_trans (SA_refl) hA_c231 (any_subA rfl))   (show inr (0) from q_2) (show ((a2) > (1) ∧ (a2) ≠ (1) ∧ (0) = (0)) ∨ ((a2) > (1) ∧ (a2) = (1) ∧ (((z9 + (256 * z14)) + (65536 * z19))) ≤ (65540) ∧ (0) = (0)) ∨ ((a2) > (1) ∧ (a2) = (1) ∧ (((z9 + (256 * z14)) + (65536 * z19))) > (65540) ∧ (0) = (1)) ∨ ((a2) ≤ (1) ∧ (((z9 + (256 * z14)) + (65536 * z19))) < (4) ∧ (0) = (1)) ∨ ((a2) ≤ (1) ∧ (((z9 + (256 * z14)) + (65536 * z19))) ≥ (4) ∧ (a2) ≠ (1) ∧ (0) = (0)) ∨ ((a2) ≤ (1) ∧ (((z9 + (256 * z14)) + (65536 * z19))) ≥ (4) ∧ (a2) = (1) ∧ (((z9 + (256 * z14)) + (65536 * z19))) ≤ (65540) ∧ (0) = (0)) ∨ ((a2) ≤ (1) ∧ (((z9 + (256 * z14)) + (65536 * z19))) ≥ (4) ∧ (a2) = (1) ∧ (((z9 + (256 * z14)) + (65536 * z19))) > (65540) ∧ (0) = (1)) by omega)
                · refine Ew_of (pcₚ := 243) (fun _ => x_iconst rfl) ?_
                  refine Ew_of (pcₚ := 247) (fun _ => x_goto rfl rfl) ?_
                  exact hc247 (1) _ σ _ _  (lc231_0) (lc231_1) H (SF_trans (SF_refl) hS_c231 (any_sub rfl)) (SA_trans (SA_refl) hA_c231 (any_subA rfl))   (show inr (1) from q_135) (show ((a2) > (1) ∧ (a2) ≠ (1) ∧ (1) = (0)) ∨ ((a2) > (1) ∧ (a2) = (1) ∧ (((z9 + (256 * z14)) + (65536 * z19))) ≤ (65540) ∧ (1) = (0)) ∨ ((a2) > (1) ∧ (a2) = (1) ∧ (((z9 + (256 * z14)) + (65536 * z19))) > (65540) ∧ (1) = (1)) ∨ ((a2) ≤ (1) ∧ (((z9 + (256 * z14)) + (65536 * z19))) < (4) ∧ (1) = (1)) ∨ ((a2) ≤ (1) ∧ (((z9 + (256 * z14)) + (65536 * z19))) ≥ (4) ∧ (a2) ≠ (1) ∧ (1) = (0)) ∨ ((a2) ≤ (1) ∧ (((z9 + (256 * z14)) + (65536 * z19))) ≥ (4) ∧ (a2) = (1) ∧ (((z9 + (256 * z14)) + (65536 * z19))) ≤ (65540) ∧ (1) = (0)) ∨ ((a2) ≤ (1) ∧ (((z9 + (256 * z14)) + (65536 * z19))) ≥ (4) ∧ (a2) = (1) ∧ (((z9 + (256 * z14)) + (65536 * z19))) > (65540) ∧ (1) = (1)) from q_1096 b20 b37 b38 h2 r1)
            refine w_icmpgt (t := 231) rfl rfl (show inr (a2) from h1) (show inr (1) from q_135) (fun b39 => ?_) (fun b39 => ?_)
            · exact hc231  _ σ _ _  (rk_o (lc38_0) rfl rfl) (rk_o (lc38_1) rfl rfl) (rk_o (lc38_2) rfl rfl) (rk_s) H (SF_refl) (SA_refl)   (show ((a2) > (1)) ∨ ((a2) ≤ (1) ∧ (((z9 + (256 * z14)) + (65536 * z19))) ≥ (4)) from q_1097 b39)
            · refine Ew_of (pcₚ := 227) (fun _ => x_iload_n rfl rk_s) ?_
              refine Ew_of (pcₚ := 228) (fun _ => x_iconst rfl) ?_
              refine w_icmplt (t := 242) rfl rfl (show inr (((z9 + (256 * z14)) + (65536 * z19))) from q_1095 pz14_1 pz19_1 pz9_1) (show inr (4) from q_216) (fun b40 => ?_) (fun b40 => ?_)
              · refine Ew_of (pcₚ := 243) (fun _ => x_iconst rfl) ?_
                refine Ew_of (pcₚ := 247) (fun _ => x_goto rfl rfl) ?_
                exact hc247 (1) _ σ _ _  (rk_o (lc38_0) rfl rfl) (rk_o (lc38_1) rfl rfl) H (SF_refl) (SA_refl)   (show inr (1) from q_135) (show ((a2) > (1) ∧ (a2) ≠ (1) ∧ (1) = (0)) ∨ ((a2) > (1) ∧ (a2) = (1) ∧ (((z9 + (256 * z14)) + (65536 * z19))) ≤ (65540) ∧ (1) = (0)) ∨ ((a2) > (1) ∧ (a2) = (1) ∧ (((z9 + (256 * z14)) + (65536 * z19))) > (65540) ∧ (1) = (1)) ∨ ((a2) ≤ (1) ∧ (((z9 + (256 * z14)) + (65536 * z19))) < (4) ∧ (1) = (1)) ∨ ((a2) ≤ (1) ∧ (((z9 + (256 * z14)) + (65536 * z19))) ≥ (4) ∧ (a2) ≠ (1) ∧ (1) = (0)) ∨ ((a2) ≤ (1) ∧ (((z9 + (256 * z14)) + (65536 * z19))) ≥ (4) ∧ (a2) = (1) ∧ (((z9 + (256 * z14)) + (65536 * z19))) ≤ (65540) ∧ (1) = (0)) ∨ ((a2) ≤ (1) ∧ (((z9 + (256 * z14)) + (65536 * z19))) ≥ (4) ∧ (a2) = (1) ∧ (((z9 + (256 * z14)) + (65536 * z19))) > (65540) ∧ (1) = (1)) from q_1098 b39 b40)
              · exact hc231  _ σ _ _  (rk_o (lc38_0) rfl rfl) (rk_o (lc38_1) rfl rfl) (rk_o (lc38_2) rfl rfl) (rk_s) H (SF_refl) (SA_refl)   (show ((a2) > (1)) ∨ ((a2) ≤ (1) ∧ (((z9 + (256 * z14)) + (65536 * z19))) ≥ (4)) from q_1099 b39 b40)
          · refine Ew_of (pcₚ := 142) (fun _ => x_iload_n rfl rk_s) ?_
            refine Ew_of (pcₚ := 144) (fun _ => x_bipush (z := 6) rfl (by decide)) ?_
            have hc152 : ∀ (tc152_0 : Int), ∀ (ls : rO) (σ : rS) (F_c152 : hF) (A_c152 : hA) , rlook ls 0 = some (.ref (D 4)) → rlook ls 1 = some (I (a1)) → HS σ0 σ D N F_c152 A_c152 → SF [] (updF F15 4 9 (((a1 + 4) + ((z9 + (256 * z14)) + (65536 * z19))))) F_c152 → SA [] A16 A_c152 → (inr (tc152_0)) → (((((z9 + (256 * z14)) + (65536 * z19))) ≠ (6) ∧ (tc152_0) = (0)) ∨ ((((z9 + (256 * z14)) + (65536 * z19))) = (6) ∧ (tc152_0) = (1))) → Ew 350 (d + 1) 152 ls [I (tc152_0)] σ c s Q := by
             as_aux_lemma =>
              intro tc152_0 ls σ F_c152 A_c152  lc152_0 lc152_1 H hS_c152 hA_c152   jc152_0 jc152_1
              refine Ew_of (pcₚ := 154) (fun _ => x_istore rfl) ?_
              refine Ew_of (pcₚ := 155) (fun _ => x_iconst rfl) ?_
              refine Ew_of (pcₚ := 157) (fun _ => x_istore rfl) ?_
              have : IMP (((tc152_0) : Int) = 1) (MKI ((w14)) ((a1)) (0)) := by first | exact fun _ => MKI_0 | exact fun z => absurd z (by omega)
              have : IMP (((tc152_0) : Int) = 0) (¬(q3 = 6 ∧ MKQ ((w14)) ((a1)) ((u1_1)))) := by first | exact fun z => absurd z (by omega) | exact fun _ q => absurd q.1 (by omega)
              suffices hl157 : ∀ (m : Nat), ∀ (ls : rO) (σ : rS) (F_157 : hF) (A_157 : hA) (x157_4 : Int) (x157_5 : Int), rlook ls 0 = some (.ref (D 4)) → rlook ls 1 = some (I (a1)) → rlook ls 4 = some (I (x157_4)) → rlook ls 5 = some (I (x157_5)) → HS σ0 σ D N F_157 A_157 → SF [] F_c152 F_157 → SA [] A_c152 A_157 → (inr (x157_4)) → (inr (x157_5)) → (0 ≤ (x157_5) ∧ (x157_5) ≤ 6) → ((x157_4) = 0 ∨ (x157_4) = 1) → ((x157_4) = 0 ∨ (((a1 + 4) + ((z9 + (256 * z14)) + (65536 * z19)))) = (a1) + 10) → (IMP (((x157_4) : Int) = 1) (MKI ((w14)) ((a1)) ((x157_5)))) → (IMP (((x157_4) : Int) = 0) (¬(q3 = 6 ∧ MKQ ((w14)) ((a1)) ((u1_1))))) → (6 - (x157_5)).toNat = m → Ew 350 (d + 1) 157 ls [] σ c s Q from
                hl157 _ _ σ _ _ (tc152_0) (0) (rk_o (rk_o (lc152_0) rfl rfl) rfl rfl) (rk_o (rk_o (lc152_1) rfl rfl) rfl rfl) (rk_o (rk_s) rfl rfl) (rk_s) H (SF_refl) (SA_refl)   (show inr (tc152_0) from jc152_0) (show inr (0) from q_2) (show 0 ≤ (0) ∧ (0) ≤ 6 from q_1100) (show (tc152_0) = 0 ∨ (tc152_0) = 1 by omega) (show (tc152_0) = 0 ∨ (((a1 + 4) + ((z9 + (256 * z14)) + (65536 * z19)))) = (a1) + 10 by omega) (show IMP (((tc152_0) : Int) = 1) (MKI ((w14)) ((a1)) ((0))) by assumption) (show IMP (((tc152_0) : Int) = 0) (¬(q3 = 6 ∧ MKQ ((w14)) ((a1)) ((u1_1)))) by assumption) rfl
              as_aux_lemma =>
              intro m
              induction m using Nat.strongRecOn with
              | _ m ih157 =>
                intro ls σ F_157 A_157 x157_4 x157_5 l157_0 l157_1 l157_4 l157_5 H hS_157 hA_157   j157_0 j157_1 j157_2 j157_3 j157_4 j157_5 j157_6 hm157
                have j157_1 : IMP (((x157_4) : Int) = 1) (MKI ((w14)) ((a1)) ((x157_5))) := j157_5
                have j157_0 : IMP (((x157_4) : Int) = 0) (¬(q3 = 6 ∧ MKQ ((w14)) ((a1)) ((u1_1)))) := j157_6
                refine Ew_of (pcₚ := 159) (fun _ => x_iload rfl l157_5) ?_
                refine Ew_of (pcₚ := 161) (fun _ => x_bipush (z := 6) rfl (by decide)) ?_
                have hc200 : ∀ (ls : rO) (σ : rS) (F_c200 : hF) (A_c200 : hA) , rlook ls 0 = some (.ref (D 4)) → rlook ls 1 = some (I (a1)) → rlook ls 4 = some (I (x157_4)) → HS σ0 σ D N F_c200 A_c200 → SF [] F_157 F_c200 → SA [] A_157 A_c200 → (((x157_5) ≥ (6)) ∨ ((x157_5) < (6) ∧ (x157_4) = (0))) → Ew 350 (d + 1) 200 ls [] σ c s Q := by
                 as_aux_lemma =>
                  intro  ls σ F_c200 A_c200  lc200_0 lc200_1 lc200_4 H hS_c200 hA_c200   jc200_0
                  refine Ew_of (pcₚ := 202) (fun _ => x_iload rfl lc200_4) ?_
                  refine w_ifne (t := 215) rfl rfl (show inr (x157_4) from q_138 j157_3) (fun b41 => ?_) (fun b41 => ?_)
                  · refine Ew_of (pcₚ := 216) (fun _ => x_iconst rfl) ?_
                    refine Ew_of (pcₚ := 220) (fun _ => x_goto rfl rfl) ?_
                    have r42 : (-2147483648 : Int) ≤ F 4 11 ∧ F 4 11 ≤ 2147483647 := rngE (show (-2147483648 : Int) ≤ F_c200 4 11 ∧ F_c200 4 11 ≤ 2147483647 from H.frng 4 11) (show F_c200 4 11 = F 4 11 from ((((((((hS_c200 4 11 rfl).trans (hS_157 4 11 rfl)).trans (hS_c152 4 11 rfl)).trans (hS17 4 11 rfl)).trans (hS12 4 11 rfl)).trans (hS7 4 11 rfl)).trans (hS_c38 4 11 rfl)).trans (hS_c19 4 11 rfl)))
                    have : IMP (((1) : Int) = 0) (∃ z, TUh ((w14)) ((u1_1)) ((a1)) ((u4_10)) ((F 4 11)) ((a2)) z) := by first | exact fun z => absurd z (by omega) | exact fun _ => ⟨q3, TUh_m hg (by omega) (j157_0 (by omega)) (by omega) (by omega)⟩
                    have : IMP (((1) : Int) = 1) (TUh ((w14)) ((u1_1)) ((a1)) 0 0 ((a2)) ((((a1 + 4) + ((z9 + (256 * z14)) + (65536 * z19)))) - (a1) - 4)) := by first | exact fun z => absurd z (by omega) | (intro _; rw [show (((a1 + 4) + ((z9 + (256 * z14)) + (65536 * z19)))) - (a1) - 4 = q3 by omega]; exact TUh_0 hg (.inl ⟨by omega, by omega, MKI_y (j157_1 (by omega)) (by omega) (by omega)⟩) rfl)
                    exact w_ireturn rfl (k (1) σ _ _ H (SF_trans (SF_trans (SF_trans (SF_upd (SF_trans (SF_trans (SF_trans (SF_trans (SF_trans (SF_refl) hS_c19 (any_sub rfl)) hS_c38 (any_sub rfl)) hS7 (any_sub rfl)) hS12 (any_sub rfl)) hS17 (any_sub rfl)) rfl) hS_c152 (any_sub rfl)) hS_157 (any_sub rfl)) hS_c200 (any_sub rfl)) (SA_trans (SA_trans (SA_trans (SA_trans (SA_trans (SA_trans (SA_trans (SA_trans (SA_refl) hA_c19 (any_subA rfl)) hA_c38 (any_subA rfl)) hA8 (any_subA rfl)) hA13 (any_subA rfl)) hA18 (any_subA rfl)) hA_c152 (any_subA rfl)) hA_157 (any_subA rfl)) hA_c200 (any_subA rfl)) (((a1 + 4) + ((z9 + (256 * z14)) + (65536 * z19)))) ((((hS_c200 4 9 rfl).trans (hS_157 4 9 rfl)).trans (hS_c152 4 9 rfl))) (u4_10) ((((((((((hS_c200 4 10 rfl).trans (hS_157 4 10 rfl)).trans (hS_c152 4 10 rfl)).trans (hS17 4 10 rfl)).trans (hS12 4 10 rfl)).trans (hS7 4 10 rfl)).trans (hS_c38 4 10 rfl)).trans (hS_c19 4 10 rfl)).trans (eu4_10))) (F 4 11) (((((((((hS_c200 4 11 rfl).trans (hS_157 4 11 rfl)).trans (hS_c152 4 11 rfl)).trans (hS17 4 11 rfl)).trans (hS12 4 11 rfl)).trans (hS7 4 11 rfl)).trans (hS_c38 4 11 rfl)).trans (hS_c19 4 11 rfl))) (show (1) = 0 ∨ (1) = 1 by first | exact q_49 | omega) (show (((a1 + 4) + ((z9 + (256 * z14)) + (65536 * z19)))) ≤ (u1_1) from b20) (show (1) = 1 → (u4_10) = 0 ∧ a1 + 4 ≤ (((a1 + 4) + ((z9 + (256 * z14)) + (65536 * z19)))) ∧ (((a1 + 4) + ((z9 + (256 * z14)) + (65536 * z19)))) ≤ (u1_1) ∧ (a2 ≤ 1 → a1 + 8 ≤ (((a1 + 4) + ((z9 + (256 * z14)) + (65536 * z19))))) by first | exact q_1101 b20 b21 h3 pz14_1 pz19_1 pz9_1 | omega) (show (1) = 0 → (u4_10) ≠ 0 by first | exact q_1091 h3 | omega) (show 0 ≤ (u4_10) ∧ (u4_10) ≤ 20 from q_1002 h3) (show IMP (((1) : Int) = 0) (∃ z, TUh ((w14)) ((u1_1)) (a1) ((u4_10)) ((F 4 11)) (a2) z) by assumption) (show IMP (((1) : Int) = 1) (TUh ((w14)) ((u1_1)) (a1) 0 0 (a2) ((((a1 + 4) + ((z9 + (256 * z14)) + (65536 * z19)))) - a1 - 4)) by assumption))
                  · refine Ew_of (pcₚ := 206) (fun _ => x_aload_n rfl lc200_0) ?_
                    refine Ew_of (pcₚ := 208) (fun _ => x_bipush (z := 8) rfl (by decide)) ?_
                    refine Ew_of (pcₚ := 209) (fun _ => x_iload_n rfl lc200_1) ?_
                    have r43 : (-2147483648 : Int) ≤ F 4 11 ∧ F 4 11 ≤ 2147483647 := rngE (show (-2147483648 : Int) ≤ F_c200 4 11 ∧ F_c200 4 11 ≤ 2147483647 from H.frng 4 11) (show F_c200 4 11 = F 4 11 from ((((((((hS_c200 4 11 rfl).trans (hS_157 4 11 rfl)).trans (hS_c152 4 11 rfl)).trans (hS17 4 11 rfl)).trans (hS12 4 11 rfl)).trans (hS7 4 11 rfl)).trans (hS_c38 4 11 rfl)).trans (hS_c19 4 11 rfl)))
                    refine w_inv H (o := 4) rfl rfl rfl (H.perm 4 rfl) rfl rfl (by rfl) (M335 H (u4_10) ((((((((((hS_c200 4 10 rfl).trans (hS_157 4 10 rfl)).trans (hS_c152 4 10 rfl)).trans (hS17 4 10 rfl)).trans (hS12 4 10 rfl)).trans (hS7 4 10 rfl)).trans (hS_c38 4 10 rfl)).trans (hS_c19 4 10 rfl)).trans (eu4_10))) (F 4 11) (((((((((hS_c200 4 11 rfl).trans (hS_157 4 11 rfl)).trans (hS_c152 4 11 rfl)).trans (hS17 4 11 rfl)).trans (hS12 4 11 rfl)).trans (hS7 4 11 rfl)).trans (hS_c38 4 11 rfl)).trans (hS_c19 4 11 rfl))) (show inr (8) from q_141) (show inr (a1) from h0) (fun z48 σ F44 A45 H hS46 hA47 y49 ey50 y51 ey52 pz48_0 pz48_1 pz48_2 => ⟨rretB rfl pz48_0, ?_⟩))
                    have r53 : (-2147483648 : Int) ≤ y49 ∧ y49 ≤ 2147483647 := rngE (show (-2147483648 : Int) ≤ F44 4 10 ∧ F44 4 10 ≤ 2147483647 from H.frng 4 10) (show F44 4 10 = y49 from (ey50))
                    have r54 : (-2147483648 : Int) ≤ y51 ∧ y51 ≤ 2147483647 := rngE (show (-2147483648 : Int) ≤ F44 4 11 ∧ F44 4 11 ≤ 2147483647 from H.frng 4 11) (show F44 4 11 = y51 from (ey52))
                    refine w_ifeq (t := 219) rfl rfl (show inr (z48) from q_123 pz48_1) (fun b55 => ?_) (fun b55 => ?_)
                    · refine Ew_of (pcₚ := 220) (fun _ => x_iconst rfl) ?_
                      have : IMP (((0) : Int) = 0) (∃ z, TUh ((w14)) ((u1_1)) ((a1)) ((y49)) ((y51)) ((a2)) z) := by first | exact fun z => absurd z (by omega) | exact fun _ => ⟨q3, TUh_m hg (by omega) (j157_0 (by omega)) (by omega) (by omega)⟩
                      have : IMP (((0) : Int) = 1) (TUh ((w14)) ((u1_1)) ((a1)) 0 0 ((a2)) ((((a1 + 4) + ((z9 + (256 * z14)) + (65536 * z19)))) - (a1) - 4)) := by first | exact fun z => absurd z (by omega) | (intro _; rw [show (((a1 + 4) + ((z9 + (256 * z14)) + (65536 * z19)))) - (a1) - 4 = q3 by omega]; exact TUh_0 hg (.inl ⟨by omega, by omega, MKI_y (j157_1 (by omega)) (by omega) (by omega)⟩) rfl)
                      exact w_ireturn rfl (k (0) σ _ _ H (SF_trans (SF_trans (SF_trans (SF_trans (SF_upd (SF_trans (SF_trans (SF_trans (SF_trans (SF_trans (SF_refl) hS_c19 (any_sub rfl)) hS_c38 (any_sub rfl)) hS7 (any_sub rfl)) hS12 (any_sub rfl)) hS17 (any_sub rfl)) rfl) hS_c152 (any_sub rfl)) hS_157 (any_sub rfl)) hS_c200 (any_sub rfl)) hS46 (any_sub rfl)) (SA_trans (SA_trans (SA_trans (SA_trans (SA_trans (SA_trans (SA_trans (SA_trans (SA_trans (SA_refl) hA_c19 (any_subA rfl)) hA_c38 (any_subA rfl)) hA8 (any_subA rfl)) hA13 (any_subA rfl)) hA18 (any_subA rfl)) hA_c152 (any_subA rfl)) hA_157 (any_subA rfl)) hA_c200 (any_subA rfl)) hA47 (any_subA rfl)) (((a1 + 4) + ((z9 + (256 * z14)) + (65536 * z19)))) (((((hS46 4 9 rfl).trans (hS_c200 4 9 rfl)).trans (hS_157 4 9 rfl)).trans (hS_c152 4 9 rfl))) (y49) ((ey50)) (y51) ((ey52)) (show (0) = 0 ∨ (0) = 1 by first | exact q_45 | omega) (show (((a1 + 4) + ((z9 + (256 * z14)) + (65536 * z19)))) ≤ (u1_1) from b20) (show (0) = 1 → (y49) = 0 ∧ a1 + 4 ≤ (((a1 + 4) + ((z9 + (256 * z14)) + (65536 * z19)))) ∧ (((a1 + 4) + ((z9 + (256 * z14)) + (65536 * z19)))) ≤ (u1_1) ∧ (a2 ≤ 1 → a1 + 8 ≤ (((a1 + 4) + ((z9 + (256 * z14)) + (65536 * z19))))) by first | exact q_1103 b20 b21 pz14_1 pz19_1 pz9_1 r53 | omega) (show (0) = 0 → (y49) ≠ 0 by omega) (show 0 ≤ (y49) ∧ (y49) ≤ 20 from q_1102 h3 pz48_2) (show IMP (((0) : Int) = 0) (∃ z, TUh ((w14)) ((u1_1)) (a1) ((y49)) ((y51)) (a2) z) by assumption) (show IMP (((0) : Int) = 1) (TUh ((w14)) ((u1_1)) (a1) 0 0 (a2) ((((a1 + 4) + ((z9 + (256 * z14)) + (65536 * z19)))) - a1 - 4)) by assumption))
                    · exact absurd b55 (by omega)
                refine w_icmpge (t := 200) rfl rfl (show inr (x157_5) from q_1104 j157_2) (show inr (6) from q_756) (fun b56 => ?_) (fun b56 => ?_)
                · exact hc200  _ σ _ _  (l157_0) (l157_1) (l157_4) H (SF_refl) (SA_refl)   (show ((x157_5) ≥ (6)) ∨ ((x157_5) < (6) ∧ (x157_4) = (0)) from q_1105 b56)
                · refine Ew_of (pcₚ := 166) (fun _ => x_iload rfl l157_4) ?_
                  refine w_ifeq (t := 200) rfl rfl (show inr (x157_4) from q_138 j157_3) (fun b57 => ?_) (fun b57 => ?_)
                  · exact hc200  _ σ _ _  (l157_0) (l157_1) (l157_4) H (SF_refl) (SA_refl)   (show ((x157_5) ≥ (6)) ∨ ((x157_5) < (6) ∧ (x157_4) = (0)) from q_1106 b56 b57)
                  · refine Ew_of (pcₚ := 170) (fun _ => x_aload_n rfl l157_0) ?_
                    refine Ew_of (pcₚ := 171) (fun _ => x_iload_n rfl l157_1) ?_
                    refine Ew_of (pcₚ := 172) (fun _ => x_iconst rfl) ?_
                    refine w_iadd rfl ?_
                    refine Ew_of (pcₚ := 175) (fun _ => x_iload rfl l157_5) ?_
                    refine w_iadd rfl ?_
                    refine w_inv H (o := 4) rfl rfl rfl (H.perm 4 rfl) rfl rfl (by rfl) (M349 H (w14) ((funext (hA_157 14 rfl)).trans ((funext (hA_c152 14 rfl)).trans ((funext (hA18 14 rfl)).trans ((funext (hA13 14 rfl)).trans ((funext (hA8 14 rfl)).trans ((funext (hA_c38 14 rfl)).trans ((funext (hA_c19 14 rfl)).trans (ew14)))))))) (show inr (((a1 + 4) + x157_5)) from q_1107 b4 b56 h2 j157_2 r1) (show 0 ≤ (((a1 + 4) + x157_5)) ∧ (((a1 + 4) + x157_5)) < 65536 by omega) (fun z62 σ F58 A59 H hS60 hA61 pz62_0 pz62_1 pz62_2 => ⟨rfl, ?_⟩))
                    have hby := pz62_2
                    refine Ew_of (pcₚ := 181) (fun _ => x_iload rfl l157_5) ?_
                    refine w_stat24 rfl rfl (by rfl) (M346 H (show inr (x157_5) from q_1108 b56 j157_2) (fun z67 σ F63 A64 H hS65 hA66 pz67_0 pz67_1 pz67_2 => ⟨rfl, ?_⟩))
                    have hmk := pz67_2
                    obtain ⟨qb, hqb⟩ : ∃ q : Int, q = (z62) := ⟨_, rfl⟩
                    obtain ⟨qm, hqm⟩ : ∃ q : Int, q = (z67) := ⟨_, rfl⟩
                    rw [← hqb] at hby
                    rw [← hqm] at hmk
                    obtain ⟨q5, hq5⟩ : ∃ q : Int, q = (x157_5) := ⟨_, rfl⟩
                    refine w_icmpne (t := 191) rfl rfl (show inr (z62) from pz62_0) (show inr (z67) from pz67_0) (fun b68 => ?_) (fun b68 => ?_)
                    · refine Ew_of (pcₚ := 192) (fun _ => x_iconst rfl) ?_
                      refine Ew_of (pcₚ := 194) (fun _ => x_istore rfl) ?_
                      refine Ew_of (pcₚ := 197) (fun _ => x_iinc (len := 3) rfl (rk_o (l157_5) rfl rfl)) ?_
                      refine Ew_of (pcₚ := 157) (fun _ => x_goto rfl rfl) ?_
                      have : IMP (((0) : Int) = 1) (MKI ((w14)) ((a1)) (((x157_5 + 1)))) := by first | exact fun z => absurd z (by omega) | exact fun _ => MKI_s (j157_1 (by omega)) hby (by omega) (hmk (by omega)) (by omega) (by omega)
                      have : IMP (((0) : Int) = 0) (¬(q3 = 6 ∧ MKQ ((w14)) ((a1)) ((u1_1)))) := by first | exact fun z => absurd z (by omega) | exact fun _ q => MKI_n (n := q5) (w := qm) (by omega) hby (by omega) (by rw [hq5]; exact hmk (by omega)) (by omega) q.2
                      exact ih157 _ (msE hm157 q_1112 (q_1113 b56)) _ σ _ _ (0) ((x157_5 + 1)) (rk_o (rk_o (l157_0) rfl rfl) rfl rfl) (rk_o (rk_o (l157_1) rfl rfl) rfl rfl) (rk_o (rk_s) rfl rfl) (rk_s) H (SF_trans (SF_trans (hS_157) hS60 (any_sub rfl)) hS65 (any_sub rfl)) (SA_trans (SA_trans (hA_157) hA61 (any_subA rfl)) hA66 (any_subA rfl))   (show inr (0) from q_2) (show inr ((x157_5 + 1)) from q_1111 b56 j157_2) (show 0 ≤ ((x157_5 + 1)) ∧ ((x157_5 + 1)) ≤ 6 from q_1110 b56 j157_2) (show (0) = 0 ∨ (0) = 1 from q_45) (show (0) = 0 ∨ (((a1 + 4) + ((z9 + (256 * z14)) + (65536 * z19)))) = (a1) + 10 from q_1109) (show IMP (((0) : Int) = 1) (MKI ((w14)) ((a1)) (((x157_5 + 1)))) by assumption) (show IMP (((0) : Int) = 0) (¬(q3 = 6 ∧ MKQ ((w14)) ((a1)) ((u1_1)))) by assumption) rfl
                    · refine Ew_of (pcₚ := 188) (fun _ => x_iconst rfl) ?_
                      refine Ew_of (pcₚ := 192) (fun _ => x_goto rfl rfl) ?_
                      refine Ew_of (pcₚ := 194) (fun _ => x_istore rfl) ?_
                      refine Ew_of (pcₚ := 197) (fun _ => x_iinc (len := 3) rfl (rk_o (l157_5) rfl rfl)) ?_
                      refine Ew_of (pcₚ := 157) (fun _ => x_goto rfl rfl) ?_
                      have : IMP (((1) : Int) = 1) (MKI ((w14)) ((a1)) (((x157_5 + 1)))) := by first | exact fun z => absurd z (by omega) | exact fun _ => MKI_s (j157_1 (by omega)) hby (by omega) (hmk (by omega)) (by omega) (by omega)
                      have : IMP (((1) : Int) = 0) (¬(q3 = 6 ∧ MKQ ((w14)) ((a1)) ((u1_1)))) := by first | exact fun z => absurd z (by omega) | exact fun _ q => MKI_n (n := q5) (w := qm) (by omega) hby (by omega) (by rw [hq5]; exact hmk (by omega)) (by omega) q.2
                      exact ih157 _ (msE hm157 q_1112 (q_1113 b56)) _ σ _ _ (1) ((x157_5 + 1)) (rk_o (rk_o (l157_0) rfl rfl) rfl rfl) (rk_o (rk_o (l157_1) rfl rfl) rfl rfl) (rk_o (rk_s) rfl rfl) (rk_s) H (SF_trans (SF_trans (hS_157) hS60 (any_sub rfl)) hS65 (any_sub rfl)) (SA_trans (SA_trans (hA_157) hA61 (any_subA rfl)) hA66 (any_subA rfl))   (show inr (1) from q_135) (show inr ((x157_5 + 1)) from q_1111 b56 j157_2) (show 0 ≤ ((x157_5 + 1)) ∧ ((x157_5 + 1)) ≤ 6 from q_1110 b56 j157_2) (show (1) = 0 ∨ (1) = 1 from q_49) (show (1) = 0 ∨ (((a1 + 4) + ((z9 + (256 * z14)) + (65536 * z19)))) = (a1) + 10 by omega) (show IMP (((1) : Int) = 1) (MKI ((w14)) ((a1)) (((x157_5 + 1)))) by assumption) (show IMP (((1) : Int) = 0) (¬(q3 = 6 ∧ MKQ ((w14)) ((a1)) ((u1_1)))) by assumption) rfl
            refine w_icmpne (t := 151) rfl rfl (show inr (((z9 + (256 * z14)) + (65536 * z19))) from q_1095 pz14_1 pz19_1 pz9_1) (show inr (6) from q_756) (fun b69 => ?_) (fun b69 => ?_)
            · refine Ew_of (pcₚ := 152) (fun _ => x_iconst rfl) ?_
              exact hc152 (0) _ σ _ _  (rk_o (lc38_0) rfl rfl) (rk_o (lc38_1) rfl rfl) H (SF_refl) (SA_refl)   (show inr (0) from q_2) (show ((((z9 + (256 * z14)) + (65536 * z19))) ≠ (6) ∧ (0) = (0)) ∨ ((((z9 + (256 * z14)) + (65536 * z19))) = (6) ∧ (0) = (1)) from q_1114 b69)
            · refine Ew_of (pcₚ := 148) (fun _ => x_iconst rfl) ?_
              refine Ew_of (pcₚ := 152) (fun _ => x_goto rfl rfl) ?_
              exact hc152 (1) _ σ _ _  (rk_o (lc38_0) rfl rfl) (rk_o (lc38_1) rfl rfl) H (SF_refl) (SA_refl)   (show inr (1) from q_135) (show ((((z9 + (256 * z14)) + (65536 * z19))) ≠ (6) ∧ (1) = (0)) ∨ ((((z9 + (256 * z14)) + (65536 * z19))) = (6) ∧ (1) = (1)) from q_1115 b69)
        · refine Ew_of (pcₚ := 112) (fun _ => x_aload_n rfl (rk_o (lc38_0) rfl rfl)) ?_
          refine Ew_of (pcₚ := 114) (fun _ => x_bipush (z := 7) rfl (by decide)) ?_
          refine Ew_of (pcₚ := 115) (fun _ => x_aload_n rfl (rk_o (lc38_0) rfl rfl)) ?_
          refine w_gT H (o := 4) (t := 1) rfl (H.perm 4 rfl) rfl rfl rfl rfl rfl rfl ?_
          refine w_gI H (o := 1) (w := u1_1) rfl (H.perm 1 rfl) rfl rfl rfl (fun _ => rfl) ((((((hS17 1 1 rfl).trans (hS12 1 1 rfl)).trans (hS7 1 1 rfl)).trans (hS_c38 1 1 rfl)).trans (hS_c19 1 1 rfl)).trans (eu1_1)) ?_
          have r70 : (-2147483648 : Int) ≤ F 4 11 ∧ F 4 11 ≤ 2147483647 := rngE (show (-2147483648 : Int) ≤ F15 4 11 ∧ F15 4 11 ≤ 2147483647 from H.frng 4 11) (show F15 4 11 = F 4 11 from (((((hS17 4 11 rfl).trans (hS12 4 11 rfl)).trans (hS7 4 11 rfl)).trans (hS_c38 4 11 rfl)).trans (hS_c19 4 11 rfl)))
          refine w_inv H (o := 4) rfl rfl rfl (H.perm 4 rfl) rfl rfl (by rfl) (M335 H (u4_10) (((((((hS17 4 10 rfl).trans (hS12 4 10 rfl)).trans (hS7 4 10 rfl)).trans (hS_c38 4 10 rfl)).trans (hS_c19 4 10 rfl)).trans (eu4_10))) (F 4 11) ((((((hS17 4 11 rfl).trans (hS12 4 11 rfl)).trans (hS7 4 11 rfl)).trans (hS_c38 4 11 rfl)).trans (hS_c19 4 11 rfl))) (show inr (7) from q_597) (show inr (u1_1) from q_286 r1) (fun z75 σ F71 A72 H hS73 hA74 y76 ey77 y78 ey79 pz75_0 pz75_1 pz75_2 => ⟨rretB rfl pz75_0, ?_⟩))
          have r80 : (-2147483648 : Int) ≤ y76 ∧ y76 ≤ 2147483647 := rngE (show (-2147483648 : Int) ≤ F71 4 10 ∧ F71 4 10 ≤ 2147483647 from H.frng 4 10) (show F71 4 10 = y76 from (ey77))
          have r81 : (-2147483648 : Int) ≤ y78 ∧ y78 ≤ 2147483647 := rngE (show (-2147483648 : Int) ≤ F71 4 11 ∧ F71 4 11 ≤ 2147483647 from H.frng 4 11) (show F71 4 11 = y78 from (ey79))
          have : IMP (((z75) : Int) = 0) (∃ z, TUh ((w14)) ((u1_1)) ((a1)) ((y76)) ((y78)) ((a2)) z) := fun _ => ⟨(((z9 + (256 * z14)) + (65536 * z19))), TUh_z hk0 (by omega) (by omega) (by omega) hz (by omega) (by omega) (by omega)⟩
          have : IMP (((z75) : Int) = 1) (TUh ((w14)) ((u1_1)) ((a1)) 0 0 ((a2)) ((u4_9) - (a1) - 4)) := fun z => absurd z (by omega)
          exact w_ireturn rfl (k (z75) σ _ _ H (SF_trans (SF_trans (SF_trans (SF_trans (SF_trans (SF_trans (SF_refl) hS_c19 (any_sub rfl)) hS_c38 (any_sub rfl)) hS7 (any_sub rfl)) hS12 (any_sub rfl)) hS17 (any_sub rfl)) hS73 (any_sub rfl)) (SA_trans (SA_trans (SA_trans (SA_trans (SA_trans (SA_trans (SA_refl) hA_c19 (any_subA rfl)) hA_c38 (any_subA rfl)) hA8 (any_subA rfl)) hA13 (any_subA rfl)) hA18 (any_subA rfl)) hA74 (any_subA rfl)) (u4_9) ((((((((hS73 4 9 rfl).trans (hS17 4 9 rfl)).trans (hS12 4 9 rfl)).trans (hS7 4 9 rfl)).trans (hS_c38 4 9 rfl)).trans (hS_c19 4 9 rfl)).trans (eu4_9))) (y76) ((ey77)) (y78) ((ey79)) (show (z75) = 0 ∨ (z75) = 1 from pz75_0) (show (u4_9) ≤ (u1_1) from h4) (show (z75) = 1 → (y76) = 0 ∧ a1 + 4 ≤ (u4_9) ∧ (u4_9) ≤ (u1_1) ∧ (a2 ≤ 1 → a1 + 8 ≤ (u4_9)) from q_1117 h0 h4 pz75_1 r2 r80) (show (z75) = 0 → (y76) ≠ 0 by omega) (show 0 ≤ (y76) ∧ (y76) ≤ 20 from q_1116 h3 pz75_2) (show IMP (((z75) : Int) = 0) (∃ z, TUh ((w14)) ((u1_1)) (a1) ((y76)) ((y78)) (a2) z) by assumption) (show IMP (((z75) : Int) = 1) (TUh ((w14)) ((u1_1)) (a1) 0 0 (a2) ((u4_9) - a1 - 4)) by assumption))
      · refine Ew_of (pcₚ := 52) (fun _ => x_aload_n rfl lc38_0) ?_
        refine Ew_of (pcₚ := 54) (fun _ => x_bipush (z := 7) rfl (by decide)) ?_
        refine Ew_of (pcₚ := 55) (fun _ => x_aload_n rfl lc38_0) ?_
        refine w_gT H (o := 4) (t := 1) rfl (H.perm 4 rfl) rfl rfl rfl rfl rfl rfl ?_
        refine w_gI H (o := 1) (w := u1_1) rfl (H.perm 1 rfl) rfl rfl rfl (fun _ => rfl) (((hS_c38 1 1 rfl).trans (hS_c19 1 1 rfl)).trans (eu1_1)) ?_
        have r82 : (-2147483648 : Int) ≤ F 4 11 ∧ F 4 11 ≤ 2147483647 := rngE (show (-2147483648 : Int) ≤ F_c38 4 11 ∧ F_c38 4 11 ≤ 2147483647 from H.frng 4 11) (show F_c38 4 11 = F 4 11 from ((hS_c38 4 11 rfl).trans (hS_c19 4 11 rfl)))
        refine w_inv H (o := 4) rfl rfl rfl (H.perm 4 rfl) rfl rfl (by rfl) (M335 H (u4_10) ((((hS_c38 4 10 rfl).trans (hS_c19 4 10 rfl)).trans (eu4_10))) (F 4 11) (((hS_c38 4 11 rfl).trans (hS_c19 4 11 rfl))) (show inr (7) from q_597) (show inr (u1_1) from q_286 r1) (fun z87 σ F83 A84 H hS85 hA86 y88 ey89 y90 ey91 pz87_0 pz87_1 pz87_2 => ⟨rretB rfl pz87_0, ?_⟩))
        have r92 : (-2147483648 : Int) ≤ y88 ∧ y88 ≤ 2147483647 := rngE (show (-2147483648 : Int) ≤ F83 4 10 ∧ F83 4 10 ≤ 2147483647 from H.frng 4 10) (show F83 4 10 = y88 from (ey89))
        have r93 : (-2147483648 : Int) ≤ y90 ∧ y90 ≤ 2147483647 := rngE (show (-2147483648 : Int) ≤ F83 4 11 ∧ F83 4 11 ≤ 2147483647 from H.frng 4 11) (show F83 4 11 = y90 from (ey91))
        have : IMP (((z87) : Int) = 0) (∃ z, TUh ((w14)) ((u1_1)) ((a1)) ((y88)) ((y90)) ((a2)) z) := fun _ => ⟨0, TUh_7 hk0 (by omega) (by omega) (by omega) (by omega) (by omega)⟩
        have : IMP (((z87) : Int) = 1) (TUh ((w14)) ((u1_1)) ((a1)) 0 0 ((a2)) ((u4_9) - (a1) - 4)) := fun z => absurd z (by omega)
        exact w_ireturn rfl (k (z87) σ _ _ H (SF_trans (SF_trans (SF_trans (SF_refl) hS_c19 (any_sub rfl)) hS_c38 (any_sub rfl)) hS85 (any_sub rfl)) (SA_trans (SA_trans (SA_trans (SA_refl) hA_c19 (any_subA rfl)) hA_c38 (any_subA rfl)) hA86 (any_subA rfl)) (u4_9) (((((hS85 4 9 rfl).trans (hS_c38 4 9 rfl)).trans (hS_c19 4 9 rfl)).trans (eu4_9))) (y88) ((ey89)) (y90) ((ey91)) (show (z87) = 0 ∨ (z87) = 1 from pz87_0) (show (u4_9) ≤ (u1_1) from h4) (show (z87) = 1 → (y88) = 0 ∧ a1 + 4 ≤ (u4_9) ∧ (u4_9) ≤ (u1_1) ∧ (a2 ≤ 1 → a1 + 8 ≤ (u4_9)) from q_1117 h0 h4 pz87_1 r2 r92) (show (z87) = 0 → (y88) ≠ 0 by omega) (show 0 ≤ (y88) ∧ (y88) ≤ 20 from q_1116 h3 pz87_2) (show IMP (((z87) : Int) = 0) (∃ z, TUh ((w14)) ((u1_1)) (a1) ((y88)) ((y90)) (a2) z) by assumption) (show IMP (((z87) : Int) = 1) (TUh ((w14)) ((u1_1)) (a1) 0 0 (a2) ((u4_9) - a1 - 4)) by assumption))
    refine w_icmplt (t := 38) rfl rfl (show inr (a2) from h1) (show inr (2) from q_122) (fun b94 => ?_) (fun b94 => ?_)
    · exact hc38  _ σ _ _  (lc19_0) (lc19_1) (lc19_2) H (SF_refl) (SA_refl)   (show ((a2) < (2)) ∨ ((a2) ≥ (2) ∧ (a2) > (127)) from q_1118 b94)
    · refine Ew_of (pcₚ := 25) (fun _ => x_iload_n rfl lc19_2) ?_
      refine Ew_of (pcₚ := 27) (fun _ => x_bipush (z := 127) rfl (by decide)) ?_
      refine w_icmpgt (t := 38) rfl rfl (show inr (a2) from h1) (show inr (127) from q_1119) (fun b95 => ?_) (fun b95 => ?_)
      · exact hc38  _ σ _ _  (lc19_0) (lc19_1) (lc19_2) H (SF_refl) (SA_refl)   (show ((a2) < (2)) ∨ ((a2) ≥ (2) ∧ (a2) > (127)) from q_1120 b95)
      · refine Ew_of (pcₚ := 31) (fun _ => x_aload_n rfl lc19_0) ?_
        refine Ew_of (pcₚ := 33) (fun _ => x_bipush (z := 9) rfl (by decide)) ?_
        refine Ew_of (pcₚ := 34) (fun _ => x_iload_n rfl lc19_1) ?_
        have r96 : (-2147483648 : Int) ≤ F 4 11 ∧ F 4 11 ≤ 2147483647 := rngE (show (-2147483648 : Int) ≤ F_c19 4 11 ∧ F_c19 4 11 ≤ 2147483647 from H.frng 4 11) (show F_c19 4 11 = F 4 11 from (hS_c19 4 11 rfl))
        refine w_inv H (o := 4) rfl rfl rfl (H.perm 4 rfl) rfl rfl (by rfl) (M335 H (u4_10) (((hS_c19 4 10 rfl).trans (eu4_10))) (F 4 11) ((hS_c19 4 11 rfl)) (show inr (9) from q_291) (show inr (a1) from h0) (fun z101 σ F97 A98 H hS99 hA100 y102 ey103 y104 ey105 pz101_0 pz101_1 pz101_2 => ⟨rretB rfl pz101_0, ?_⟩))
        have r106 : (-2147483648 : Int) ≤ y102 ∧ y102 ≤ 2147483647 := rngE (show (-2147483648 : Int) ≤ F97 4 10 ∧ F97 4 10 ≤ 2147483647 from H.frng 4 10) (show F97 4 10 = y102 from (ey103))
        have r107 : (-2147483648 : Int) ≤ y104 ∧ y104 ≤ 2147483647 := rngE (show (-2147483648 : Int) ≤ F97 4 11 ∧ F97 4 11 ≤ 2147483647 from H.frng 4 11) (show F97 4 11 = y104 from (ey105))
        have : IMP (((z101) : Int) = 0) (∃ z, TUh ((w14)) ((u1_1)) ((a1)) ((y102)) ((y104)) ((a2)) z) := fun _ => ⟨0, TUh_9 hk0 (by omega) (by omega) (by omega) (by omega)⟩
        have : IMP (((z101) : Int) = 1) (TUh ((w14)) ((u1_1)) ((a1)) 0 0 ((a2)) ((u4_9) - (a1) - 4)) := fun z => absurd z (by omega)
        exact w_ireturn rfl (k (z101) σ _ _ H (SF_trans (SF_trans (SF_refl) hS_c19 (any_sub rfl)) hS99 (any_sub rfl)) (SA_trans (SA_trans (SA_refl) hA_c19 (any_subA rfl)) hA100 (any_subA rfl)) (u4_9) ((((hS99 4 9 rfl).trans (hS_c19 4 9 rfl)).trans (eu4_9))) (y102) ((ey103)) (y104) ((ey105)) (show (z101) = 0 ∨ (z101) = 1 from pz101_0) (show (u4_9) ≤ (u1_1) from h4) (show (z101) = 1 → (y102) = 0 ∧ a1 + 4 ≤ (u4_9) ∧ (u4_9) ≤ (u1_1) ∧ (a2 ≤ 1 → a1 + 8 ≤ (u4_9)) from q_1122 h0 h4 pz101_1 r106 r2) (show (z101) = 0 → (y102) ≠ 0 by omega) (show 0 ≤ (y102) ∧ (y102) ≤ 20 from q_1121 h3 pz101_2) (show IMP (((z101) : Int) = 0) (∃ z, TUh ((w14)) ((u1_1)) (a1) ((y102)) ((y104)) (a2) z) by assumption) (show IMP (((z101) : Int) = 1) (TUh ((w14)) ((u1_1)) (a1) 0 0 (a2) ((u4_9) - a1 - 4)) by assumption))
  refine w_ifne (t := 19) rfl rfl (show inr (a1) from h0) (fun b108 => ?_) (fun b108 => ?_)
  · exact hc19  _ σ _ _  (rfl) (rfl) (rfl) H (SF_refl) (SA_refl)   (show ((a1) ≠ (0)) ∨ ((a1) = (0) ∧ (a2) = (255)) from q_1123 b108)
  · refine Ew_of (pcₚ := 5) (fun _ => x_iload_n rfl rfl) ?_
    refine Ew_of (pcₚ := 8) (fun _ => x_sipush (z := 255) rfl (by decide)) ?_
    refine w_icmpeq (t := 19) rfl rfl (show inr (a2) from h1) (show inr (255) from q_297) (fun b109 => ?_) (fun b109 => ?_)
    · exact hc19  _ σ _ _  (rfl) (rfl) (rfl) H (SF_refl) (SA_refl)   (show ((a1) ≠ (0)) ∨ ((a1) = (0) ∧ (a2) = (255)) from q_1124 b108 b109)
    · refine Ew_of (pcₚ := 12) (fun _ => x_aload_n rfl rfl) ?_
      refine Ew_of (pcₚ := 14) (fun _ => x_bipush (z := 8) rfl (by decide)) ?_
      refine Ew_of (pcₚ := 15) (fun _ => x_iload_n rfl rfl) ?_
      have r110 : (-2147483648 : Int) ≤ F 4 11 ∧ F 4 11 ≤ 2147483647 := H.frng 4 11
      refine w_inv H (o := 4) rfl rfl rfl (H.perm 4 rfl) rfl rfl (by rfl) (M335 H (u4_10) ((eu4_10)) (F 4 11) (rfl) (show inr (8) from q_141) (show inr (a1) from h0) (fun z115 σ F111 A112 H hS113 hA114 y116 ey117 y118 ey119 pz115_0 pz115_1 pz115_2 => ⟨rretB rfl pz115_0, ?_⟩))
      have r120 : (-2147483648 : Int) ≤ y116 ∧ y116 ≤ 2147483647 := rngE (show (-2147483648 : Int) ≤ F111 4 10 ∧ F111 4 10 ≤ 2147483647 from H.frng 4 10) (show F111 4 10 = y116 from (ey117))
      have r121 : (-2147483648 : Int) ≤ y118 ∧ y118 ≤ 2147483647 := rngE (show (-2147483648 : Int) ≤ F111 4 11 ∧ F111 4 11 ≤ 2147483647 from H.frng 4 11) (show F111 4 11 = y118 from (ey119))
      have : IMP (((z115) : Int) = 0) (∃ z, TUh ((w14)) ((u1_1)) ((a1)) ((y116)) ((y118)) ((a2)) z) := fun _ => ⟨0, TUh_8 hk0 (by omega) (by omega) (by omega) (by omega)⟩
      have : IMP (((z115) : Int) = 1) (TUh ((w14)) ((u1_1)) ((a1)) 0 0 ((a2)) ((u4_9) - (a1) - 4)) := fun z => absurd z (by omega)
      exact w_ireturn rfl (k (z115) σ _ _ H (SF_trans (SF_refl) hS113 (any_sub rfl)) (SA_trans (SA_refl) hA114 (any_subA rfl)) (u4_9) (((hS113 4 9 rfl).trans (eu4_9))) (y116) ((ey117)) (y118) ((ey119)) (show (z115) = 0 ∨ (z115) = 1 from pz115_0) (show (u4_9) ≤ (u1_1) from h4) (show (z115) = 1 → (y116) = 0 ∧ a1 + 4 ≤ (u4_9) ∧ (u4_9) ≤ (u1_1) ∧ (a2 ≤ 1 → a1 + 8 ≤ (u4_9)) from q_1125 b108 h4 pz115_1 r120 r2) (show (z115) = 0 → (y116) ≠ 0 by omega) (show 0 ≤ (y116) ∧ (y116) ≤ 20 from q_1102 h3 pz115_2) (show IMP (((z115) : Int) = 0) (∃ z, TUh ((w14)) ((u1_1)) (a1) ((y116)) ((y118)) (a2) z) by assumption) (show IMP (((z115) : Int) = 1) (TUh ((w14)) ((u1_1)) (a1) 0 0 (a2) ((u4_9) - a1 - 4)) by assumption))

theorem M351 {σ0 σ : rS} {D N : Nat → Nat} {F : hF} {A : hA} {d c s : Nat} {Q : wQ} (H : HS σ0 σ D N F A) {a1 a2 a3 : Int} (u1_1 : Int) (eu1_1 : F 1 1 = u1_1) (u4_2 : Int) (eu4_2 : F 4 2 = u4_2) (u4_9 : Int) (eu4_9 : F 4 9 = u4_9) (u4_10 : Int) (eu4_10 : F 4 10 = u4_10) (w14 : Int → Int) (ew14 : A 14 = w14) (w23 : Int → Int) (ew23 : A 23 = w23) (h0 : inr (a1)) (h1 : inr (a2)) (h2 : inr (a3)) (h3 : 0 ≤ (a1) ∧ (a1) < (u1_1) ∧ 0 ≤ (a2) ∧ (a2) ≤ 255) (h4 : (u4_10) = 0) (h5 : (a1) + 4 ≤ (u4_9) ∧ (u4_9) ≤ (u1_1) ∧ ((a2) ≤ 1 → (a1) + 8 ≤ (u4_9))) (h6 : 0 ≤ (u4_2) ∧ (u4_2) ≤ (a3) ∧ (a3) ≤ 65536) (h7 : TUh ((w14)) ((u1_1)) ((a1)) 0 0 ((a2)) ((u4_9) - (a1) - 4)) (k : ∀ σ Fₚ Aₚ, HS σ0 σ D N Fₚ Aₚ → SF [(4, 2), (4, 8), (4, 10), (4, 11)] F Fₚ → SA [23] A Aₚ → ∀ y4_2 : Int, Fₚ 4 2 = y4_2 → ∀ y4_10 : Int, Fₚ 4 10 = y4_10 → ∀ y4_11 : Int, Fₚ 4 11 = y4_11 → ∀ v23 : Int → Int, Aₚ 23 = v23 → (0 ≤ (y4_2) ∧ (y4_2) ≤ (a3)) → (0 ≤ (y4_10) ∧ (y4_10) ≤ 20) → (IMP ((y4_10) ≠ 0) (TUe ((w14)) ((u1_1)) ((a3)) ((a1), sc ((w23)) 0 ((u4_2))) ((y4_10), (y4_11), []))) → (IMP ((y4_10) = 0) (TUs ((w14)) ((u1_1)) ((a3)) ((a1), sc ((w23)) 0 ((u4_2))) ((u4_9), sc ((v23)) 0 ((y4_2))))) → Q none σ c s) : Ew 351 (d + 4) 0 (rargs 0 [.ref (D 4), I a1, I a2, I a3]) [] σ c s Q := by
  have r1 : (0 : Int) ≤ u1_1 ∧ u1_1 ≤ 65536 := rngE (show (0 : Int) ≤ F 1 1 ∧ F 1 1 ≤ 65536 from H.frng 1 1) (show F 1 1 = u1_1 from (eu1_1))
  have r2 : (-2147483648 : Int) ≤ u4_2 ∧ u4_2 ≤ 2147483647 := rngE (show (-2147483648 : Int) ≤ F 4 2 ∧ F 4 2 ≤ 2147483647 from H.frng 4 2) (show F 4 2 = u4_2 from (eu4_2))
  have r3 : (0 : Int) ≤ u4_9 ∧ u4_9 ≤ 65536 := rngE (show (0 : Int) ≤ F 4 9 ∧ F 4 9 ≤ 65536 from H.frng 4 9) (show F 4 9 = u4_9 from (eu4_9))
  have r4 : (-2147483648 : Int) ≤ u4_10 ∧ u4_10 ≤ 2147483647 := rngE (show (-2147483648 : Int) ≤ F 4 10 ∧ F 4 10 ≤ 2147483647 from H.frng 4 10) (show F 4 10 = u4_10 from (eu4_10))
  have hBd : ∀ i, (0 : Int) ≤ (w14) i ∧ (w14) i ≤ 255 := fun i => by have h1 : (0 : Int) ≤ A 14 i ∧ A 14 i ≤ 255 := H.arng 14 i; rw [show A 14 = w14 from ew14] at h1; exact h1
  have hT0 : TUh ((w14)) ((u1_1)) ((a1)) 0 0 ((a2)) ((u4_9) - (a1) - 4) := h7
  refine Ew_of (pcₚ := 1) (fun _ => x_iload_n rfl rfl) ?_
  refine Ew_of (pcₚ := 2) (fun _ => x_iconst rfl) ?_
  refine w_icmple (t := 6) rfl rfl (show inr (a2) from h1) (show inr (1) from q_135) (fun b5 => ?_) (fun b5 => ?_)
  · refine Ew_of (pcₚ := 7) (fun _ => x_aload_n rfl rfl) ?_
    refine w_gI H (o := 4) (w := u4_2) rfl (H.perm 4 rfl) rfl rfl rfl (fun _ => rfl) (eu4_2) ?_
    refine Ew_of (pcₚ := 12) (fun _ => x_istore rfl) ?_
    have hCl : ((sc ((w23)) 0 ((u4_2))).length : Int) = (u4_2) := by rw [sc_lenI (by omega)]; omega
    refine Ew_of (pcₚ := 13) (fun _ => x_iload_n rfl (rk_o (rfl) rfl rfl)) ?_
    refine Ew_of (pcₚ := 15) (fun _ => x_iload rfl rk_s) ?_
    refine w_isub rfl ?_
    refine Ew_of (pcₚ := 18) (fun _ => x_istore rfl) ?_
    refine Ew_of (pcₚ := 19) (fun _ => x_aload_n rfl (rk_o (rk_o (rfl) rfl rfl) rfl rfl)) ?_
    refine Ew_of (pcₚ := 20) (fun _ => x_iload_n rfl (rk_o (rk_o (rfl) rfl rfl) rfl rfl)) ?_
    refine Ew_of (pcₚ := 22) (fun _ => x_bipush (z := 8) rfl (by decide)) ?_
    refine w_iadd rfl ?_
    refine w_pI H (o := 4) rfl rfl (H.perm 4 rfl) rfl rfl rfl (fun _ => rfl) rfl (show (0 : Int) ≤ (a1 + 8) ∧ (a1 + 8) ≤ 65536 from q_1126 b5 h3 h5 r3) (fun σ H => ?_)
    have r6 : (-2147483648 : Int) ≤ F 4 11 ∧ F 4 11 ≤ 2147483647 := H.frng 4 11
    have hc130 : ∀ (ls : rO) (σ : rS) (F_c130 : hF) (A_c130 : hA) , rlook ls 0 = some (.ref (D 4)) → rlook ls 1 = some (I (a1)) → rlook ls 4 = some (I (u4_2)) → HS σ0 σ D N F_c130 A_c130 → SF [(4, 2), (4, 8), (4, 10), (4, 11)] (updF F 4 8 ((a1 + 8))) F_c130 → SA [23] A A_c130 → ∀ yc130_4_2 : Int, F_c130 4 2 = yc130_4_2 → ∀ yc130_4_10 : Int, F_c130 4 10 = yc130_4_10 → ∀ yc130_4_11 : Int, F_c130 4 11 = yc130_4_11 → ∀ wc130_23 : Int → Int, A_c130 23 = wc130_23 → ((u4_2) ≤ (yc130_4_2) ∧ (yc130_4_2) ≤ (a3)) → (0 ≤ (yc130_4_10) ∧ (yc130_4_10) ≤ 20) → (IMP (((yc130_4_10) : Int) ≠ 0) (∃ X, TUb ((w14)) ((a3)) ((a1)) ((a2)) ((u4_9) - (a1) - 4) (sc ((w23)) 0 ((u4_2))) ((yc130_4_10)) ((yc130_4_11)) X)) → (IMP (((yc130_4_10) : Int) = 0) (TUb ((w14)) ((a3)) ((a1)) ((a2)) ((u4_9) - (a1) - 4) (sc ((w23)) 0 ((u4_2))) 0 0 (sc ((wc130_23)) ((u4_2)) ((yc130_4_2))))) → (KLO ((w23)) ((wc130_23)) ((u4_2))) → Ew 351 (d + 4) 130 ls [] σ c s Q := by
     as_aux_lemma =>
      intro  ls σ F_c130 A_c130  lc130_0 lc130_1 lc130_4 H hS_c130 hA_c130 yc130_4_2 eyc130_4_2 yc130_4_10 eyc130_4_10 yc130_4_11 eyc130_4_11 wc130_23 ewc130_23 jc130_0 jc130_1 jc130_2 jc130_3 jc130_4
      have r7 : (-2147483648 : Int) ≤ yc130_4_2 ∧ yc130_4_2 ≤ 2147483647 := rngE (show (-2147483648 : Int) ≤ F_c130 4 2 ∧ F_c130 4 2 ≤ 2147483647 from H.frng 4 2) (show F_c130 4 2 = yc130_4_2 from (eyc130_4_2))
      have r8 : (-2147483648 : Int) ≤ yc130_4_10 ∧ yc130_4_10 ≤ 2147483647 := rngE (show (-2147483648 : Int) ≤ F_c130 4 10 ∧ F_c130 4 10 ≤ 2147483647 from H.frng 4 10) (show F_c130 4 10 = yc130_4_10 from (eyc130_4_10))
      have r9 : (-2147483648 : Int) ≤ yc130_4_11 ∧ yc130_4_11 ≤ 2147483647 := rngE (show (-2147483648 : Int) ≤ F_c130 4 11 ∧ F_c130 4 11 ≤ 2147483647 from H.frng 4 11) (show F_c130 4 11 = yc130_4_11 from (eyc130_4_11))
      have k130f : IMP (((yc130_4_10) : Int) ≠ 0) (∃ X, TUb ((w14)) ((a3)) ((a1)) ((a2)) ((u4_9) - (a1) - 4) (sc ((w23)) 0 ((u4_2))) ((yc130_4_10)) ((yc130_4_11)) X) := by assumption
      have k130y : IMP (((yc130_4_10) : Int) = 0) (TUb ((w14)) ((a3)) ((a1)) ((a2)) ((u4_9) - (a1) - 4) (sc ((w23)) 0 ((u4_2))) 0 0 (sc ((wc130_23)) ((u4_2)) ((yc130_4_2)))) := jc130_3
      have k130k : KLO ((w23)) ((wc130_23)) ((u4_2)) := jc130_4
      refine Ew_of (pcₚ := 131) (fun _ => x_aload_n rfl lc130_0) ?_
      refine w_gI H (o := 4) (w := yc130_4_10) rfl (H.perm 4 rfl) rfl rfl rfl (fun _ => rfl) (eyc130_4_10) ?_
      refine w_ifeq (t := 138) rfl rfl (show inr (yc130_4_10) from q_1068 jc130_1) (fun b10 => ?_) (fun b10 => ?_)
      · refine Ew_of (pcₚ := 139) (fun _ => x_aload_n rfl lc130_0) ?_
        refine Ew_of (pcₚ := 140) (fun _ => x_iload_n rfl lc130_1) ?_
        refine Ew_of (pcₚ := 141) (fun _ => x_iconst rfl) ?_
        refine w_iadd rfl ?_
        refine w_inv H (o := 4) rfl rfl rfl (H.perm 4 rfl) rfl rfl (by rfl) (M349 H (w14) ((funext (hA_c130 14 rfl)).trans (ew14)) (show inr ((a1 + 4)) from q_1128 h3 h5 r3) (show 0 ≤ ((a1 + 4)) ∧ ((a1 + 4)) < 65536 from q_1127 b5 h3 h5 r3) (fun z15 σ F11 A12 H hS13 hA14 pz15_0 pz15_1 pz15_2 => ⟨rfl, ?_⟩))
        have w0_ := pz15_2
        refine Ew_of (pcₚ := 146) (fun _ => x_aload_n rfl lc130_0) ?_
        refine Ew_of (pcₚ := 147) (fun _ => x_iload_n rfl lc130_1) ?_
        refine Ew_of (pcₚ := 148) (fun _ => x_iconst rfl) ?_
        refine w_iadd rfl ?_
        refine w_inv H (o := 4) rfl rfl rfl (H.perm 4 rfl) rfl rfl (by rfl) (M349 H (w14) ((funext (hA14 14 rfl)).trans ((funext (hA_c130 14 rfl)).trans (ew14))) (show inr ((a1 + 5)) from q_1130 h3 h5 r3) (show 0 ≤ ((a1 + 5)) ∧ ((a1 + 5)) < 65536 from q_1129 b5 h3 h5 r3) (fun z20 σ F16 A17 H hS18 hA19 pz20_0 pz20_1 pz20_2 => ⟨rfl, ?_⟩))
        have w1_ := pz20_2
        refine Ew_of (pcₚ := 154) (fun _ => x_bipush (z := 8) rfl (by decide)) ?_
        refine w_ishlE rfl ?_
        have g21 : inr (slI (z20) (8)) := toI_inr _
        refine w_iorE rfl ?_
        have g22 : inr (orI (z15) ((slI (z20) (8)))) := toI_inr _
        refine Ew_of (pcₚ := 157) (fun _ => x_aload_n rfl lc130_0) ?_
        refine Ew_of (pcₚ := 158) (fun _ => x_iload_n rfl lc130_1) ?_
        refine Ew_of (pcₚ := 160) (fun _ => x_bipush (z := 6) rfl (by decide)) ?_
        refine w_iadd rfl ?_
        refine w_inv H (o := 4) rfl rfl rfl (H.perm 4 rfl) rfl rfl (by rfl) (M349 H (w14) ((funext (hA19 14 rfl)).trans ((funext (hA14 14 rfl)).trans ((funext (hA_c130 14 rfl)).trans (ew14)))) (show inr ((a1 + 6)) from q_1132 h3 h5 r3) (show 0 ≤ ((a1 + 6)) ∧ ((a1 + 6)) < 65536 from q_1131 b5 h3 h5 r3) (fun z27 σ F23 A24 H hS25 hA26 pz27_0 pz27_1 pz27_2 => ⟨rfl, ?_⟩))
        have w2_ := pz27_2
        refine Ew_of (pcₚ := 166) (fun _ => x_bipush (z := 16) rfl (by decide)) ?_
        refine w_ishlE rfl ?_
        have g28 : inr (slI (z27) (16)) := toI_inr _
        refine w_iorE rfl ?_
        have g29 : inr (orI ((orI (z15) ((slI (z20) (8))))) ((slI (z27) (16)))) := toI_inr _
        refine Ew_of (pcₚ := 169) (fun _ => x_aload_n rfl lc130_0) ?_
        refine Ew_of (pcₚ := 170) (fun _ => x_iload_n rfl lc130_1) ?_
        refine Ew_of (pcₚ := 172) (fun _ => x_bipush (z := 7) rfl (by decide)) ?_
        refine w_iadd rfl ?_
        refine w_inv H (o := 4) rfl rfl rfl (H.perm 4 rfl) rfl rfl (by rfl) (M349 H (w14) ((funext (hA26 14 rfl)).trans ((funext (hA19 14 rfl)).trans ((funext (hA14 14 rfl)).trans ((funext (hA_c130 14 rfl)).trans (ew14))))) (show inr ((a1 + 7)) from q_1134 h3 h5 r3) (show 0 ≤ ((a1 + 7)) ∧ ((a1 + 7)) < 65536 from q_1133 b5 h3 h5 r3) (fun z34 σ F30 A31 H hS32 hA33 pz34_0 pz34_1 pz34_2 => ⟨rfl, ?_⟩))
        have w3_ := pz34_2
        refine Ew_of (pcₚ := 178) (fun _ => x_bipush (z := 24) rfl (by decide)) ?_
        refine w_ishlE rfl ?_
        have g35 : inr (slI (z34) (24)) := toI_inr _
        refine w_iorE rfl ?_
        have g36 : inr (orI ((orI ((orI (z15) ((slI (z20) (8))))) ((slI (z27) (16))))) ((slI (z34) (24)))) := toI_inr _
        obtain ⟨qw, hqw⟩ : ∃ q : Int, q = ((orI ((orI ((orI (z15) ((slI (z20) (8))))) ((slI (z27) (16))))) ((slI (z34) (24))))) := ⟨_, rfl⟩
        rw [← hqw]
        have gqw : inr qw := by rw [hqw]; first | assumption | omega
        replace hqw : IMP True (qw = ((orI ((orI ((orI (z15) ((slI (z20) (8))))) ((slI (z27) (16))))) ((slI (z34) (24)))))) := fun _ => hqw
        try clear g36
        try clear g35
        try clear g29
        try clear g28
        try clear g22
        try clear g21
        have hwd : IMP True (qw = wdI ((w14)) ((a1) + 4)) := fun _ => (hqw trivial).trans (wd_or4 hBd w0_ (by omega) w1_ (by omega) w2_ (by omega) w3_ (by omega))
        refine Ew_of (pcₚ := 182) (fun _ => x_istore rfl) ?_
        refine Ew_of (pcₚ := 183) (fun _ => x_aload_n rfl (rk_o (lc130_0) rfl rfl)) ?_
        refine w_gT H (o := 4) (t := 23) rfl (H.perm 4 rfl) rfl rfl rfl rfl rfl rfl ?_
        refine Ew_of (pcₚ := 188) (fun _ => x_iload rfl (rk_o (lc130_4) rfl rfl)) ?_
        refine Ew_of (pcₚ := 189) (fun _ => x_aload_n rfl (rk_o (lc130_0) rfl rfl)) ?_
        refine w_gI H (o := 4) (w := yc130_4_2) rfl (H.perm 4 rfl) rfl rfl rfl (fun _ => rfl) (((((hS32 4 2 rfl).trans (hS25 4 2 rfl)).trans (hS18 4 2 rfl)).trans (hS13 4 2 rfl)).trans (eyc130_4_2)) ?_
        refine w_stat24 rfl rfl (by rfl) (M345_23 H (wc130_23) ((funext (hA33 23 rfl)).trans ((funext (hA26 23 rfl)).trans ((funext (hA19 23 rfl)).trans ((funext (hA14 23 rfl)).trans (ewc130_23))))) (show inr (u4_2) from q_38 h6) (show inr (yc130_4_2) from q_18 r7) (show 0 ≤ (u4_2) ∧ (u4_2) ≤ (yc130_4_2) ∧ (yc130_4_2) ≤ 70000 from q_1135 h6 jc130_0) (fun z41 σ F37 A38 H hS39 hA40 pz41_0 pz41_1 => ⟨rfl, ?_⟩))
        have hsm : IMP True ((z41) = MSK (PLS (sc ((wc130_23)) ((u4_2)) ((yc130_4_2))))) := fun _ => by rw [pz41_1, POL_L (b := (yc130_4_2)) (by omega) (by omega)]; rw [MSK_e]; rfl
        (try clear pz41_1)
        have hsi := pz41_0
        have hTy := k130y (by omega)
        have hC2 : sc ((wc130_23)) 0 ((yc130_4_2)) = sc ((w23)) 0 ((u4_2)) ++ sc ((wc130_23)) ((u4_2)) ((yc130_4_2)) := by rw [sc_cat (b := (u4_2)) (by omega) (by omega), KLO_sc k130k]
        refine Ew_of (pcₚ := 197) (fun _ => x_iload rfl rk_s) ?_
        refine w_icmpeq (t := 210) rfl rfl (show inr (z41) from pz41_0) (show inr (qw) from gqw) (fun b42 => ?_) (fun b42 => ?_)
        · have : IMP ((yc130_4_10) ≠ 0) (TUe ((w14)) ((u1_1)) ((a3)) ((a1), sc ((w23)) 0 ((u4_2))) ((yc130_4_10), (yc130_4_11), [])) := by first | exact fun z => absurd z (by omega) | exact fun _ => TUe_c (by omega) hT0 (by omega) hTy (TUc_n (hsm trivial) hsi (hwd trivial) (by omega)) (by omega) (by omega)
          have : IMP ((yc130_4_10) = 0) (TUs ((w14)) ((u1_1)) ((a3)) ((a1), sc ((w23)) 0 ((u4_2))) ((u4_9), sc ((wc130_23)) 0 ((yc130_4_2)))) := by first | exact fun z => absurd z (by omega) | exact fun _ => TUs_y (by omega) hT0 (by omega) hTy (TUc_y (hsm trivial) (hwd trivial) (by omega)) (by omega) hC2
          exact w_ret rfl (k σ _ _ H (SF_trans (SF_trans (SF_trans (SF_trans (SF_trans (SF_trans (SF_upd (SF_refl) rfl) hS_c130 (any_sub rfl)) hS13 (any_sub rfl)) hS18 (any_sub rfl)) hS25 (any_sub rfl)) hS32 (any_sub rfl)) hS39 (any_sub rfl)) (SA_trans (SA_trans (SA_trans (SA_trans (SA_trans (SA_trans (SA_refl) hA_c130 (any_subA rfl)) hA14 (any_subA rfl)) hA19 (any_subA rfl)) hA26 (any_subA rfl)) hA33 (any_subA rfl)) hA40 (any_subA rfl)) (yc130_4_2) (((((((hS39 4 2 rfl).trans (hS32 4 2 rfl)).trans (hS25 4 2 rfl)).trans (hS18 4 2 rfl)).trans (hS13 4 2 rfl)).trans (eyc130_4_2))) (yc130_4_10) (((((((hS39 4 10 rfl).trans (hS32 4 10 rfl)).trans (hS25 4 10 rfl)).trans (hS18 4 10 rfl)).trans (hS13 4 10 rfl)).trans (eyc130_4_10))) (yc130_4_11) (((((((hS39 4 11 rfl).trans (hS32 4 11 rfl)).trans (hS25 4 11 rfl)).trans (hS18 4 11 rfl)).trans (hS13 4 11 rfl)).trans (eyc130_4_11))) (wc130_23) ((funext (hA40 23 rfl)).trans ((funext (hA33 23 rfl)).trans ((funext (hA26 23 rfl)).trans ((funext (hA19 23 rfl)).trans ((funext (hA14 23 rfl)).trans (ewc130_23)))))) (show 0 ≤ (yc130_4_2) ∧ (yc130_4_2) ≤ a3 from q_1136 h6 jc130_0) (show 0 ≤ (yc130_4_10) ∧ (yc130_4_10) ≤ 20 from jc130_1) (show IMP ((yc130_4_10) ≠ 0) (TUe ((w14)) ((u1_1)) (a3) (a1, sc ((w23)) 0 ((u4_2))) ((yc130_4_10), (yc130_4_11), [])) by assumption) (show IMP ((yc130_4_10) = 0) (TUs ((w14)) ((u1_1)) (a3) (a1, sc ((w23)) 0 ((u4_2))) ((u4_9), sc ((wc130_23)) 0 ((yc130_4_2)))) by assumption))
        · refine Ew_of (pcₚ := 201) (fun _ => x_aload_n rfl (rk_o (lc130_0) rfl rfl)) ?_
          refine Ew_of (pcₚ := 203) (fun _ => x_bipush (z := 11) rfl (by decide)) ?_
          refine Ew_of (pcₚ := 204) (fun _ => x_iload_n rfl (rk_o (lc130_1) rfl rfl)) ?_
          refine Ew_of (pcₚ := 205) (fun _ => x_iconst rfl) ?_
          refine w_iadd rfl ?_
          refine w_inv H (o := 4) rfl rfl rfl (H.perm 4 rfl) rfl rfl (by rfl) (M335 H (yc130_4_10) (((((((hS39 4 10 rfl).trans (hS32 4 10 rfl)).trans (hS25 4 10 rfl)).trans (hS18 4 10 rfl)).trans (hS13 4 10 rfl)).trans (eyc130_4_10))) (yc130_4_11) (((((((hS39 4 11 rfl).trans (hS32 4 11 rfl)).trans (hS25 4 11 rfl)).trans (hS18 4 11 rfl)).trans (hS13 4 11 rfl)).trans (eyc130_4_11))) (show inr (11) from q_326) (show inr ((a1 + 4)) from q_1128 h3 h5 r3) (fun z47 σ F43 A44 H hS45 hA46 y48 ey49 y50 ey51 pz47_0 pz47_1 pz47_2 => ⟨rretB rfl pz47_0, ?_⟩))
          have r52 : (-2147483648 : Int) ≤ y48 ∧ y48 ≤ 2147483647 := rngE (show (-2147483648 : Int) ≤ F43 4 10 ∧ F43 4 10 ≤ 2147483647 from H.frng 4 10) (show F43 4 10 = y48 from (ey49))
          have r53 : (-2147483648 : Int) ≤ y50 ∧ y50 ≤ 2147483647 := rngE (show (-2147483648 : Int) ≤ F43 4 11 ∧ F43 4 11 ≤ 2147483647 from H.frng 4 11) (show F43 4 11 = y50 from (ey51))
          refine Ew_of (pcₚ := 210) (fun _ => x_pop rfl rfl) ?_
          have : IMP ((y48) ≠ 0) (TUe ((w14)) ((u1_1)) ((a3)) ((a1), sc ((w23)) 0 ((u4_2))) ((y48), (y50), [])) := by first | exact fun z => absurd z (by omega) | exact fun _ => TUe_c (by omega) hT0 (by omega) hTy (TUc_n (hsm trivial) hsi (hwd trivial) (by omega)) (by omega) (by omega)
          have : IMP ((y48) = 0) (TUs ((w14)) ((u1_1)) ((a3)) ((a1), sc ((w23)) 0 ((u4_2))) ((u4_9), sc ((wc130_23)) 0 ((yc130_4_2)))) := by first | exact fun z => absurd z (by omega) | exact fun _ => TUs_y (by omega) hT0 (by omega) hTy (TUc_y (hsm trivial) (hwd trivial) (by omega)) (by omega) hC2
          exact w_ret rfl (k σ _ _ H (SF_trans (SF_trans (SF_trans (SF_trans (SF_trans (SF_trans (SF_trans (SF_upd (SF_refl) rfl) hS_c130 (any_sub rfl)) hS13 (any_sub rfl)) hS18 (any_sub rfl)) hS25 (any_sub rfl)) hS32 (any_sub rfl)) hS39 (any_sub rfl)) hS45 (any_sub rfl)) (SA_trans (SA_trans (SA_trans (SA_trans (SA_trans (SA_trans (SA_trans (SA_refl) hA_c130 (any_subA rfl)) hA14 (any_subA rfl)) hA19 (any_subA rfl)) hA26 (any_subA rfl)) hA33 (any_subA rfl)) hA40 (any_subA rfl)) hA46 (any_subA rfl)) (yc130_4_2) ((((((((hS45 4 2 rfl).trans (hS39 4 2 rfl)).trans (hS32 4 2 rfl)).trans (hS25 4 2 rfl)).trans (hS18 4 2 rfl)).trans (hS13 4 2 rfl)).trans (eyc130_4_2))) (y48) ((ey49)) (y50) ((ey51)) (wc130_23) ((funext (hA46 23 rfl)).trans ((funext (hA40 23 rfl)).trans ((funext (hA33 23 rfl)).trans ((funext (hA26 23 rfl)).trans ((funext (hA19 23 rfl)).trans ((funext (hA14 23 rfl)).trans (ewc130_23))))))) (show 0 ≤ (yc130_4_2) ∧ (yc130_4_2) ≤ a3 from q_1136 h6 jc130_0) (show 0 ≤ (y48) ∧ (y48) ≤ 20 from q_1137 b10 pz47_2) (show IMP ((y48) ≠ 0) (TUe ((w14)) ((u1_1)) (a3) (a1, sc ((w23)) 0 ((u4_2))) ((y48), (y50), [])) by assumption) (show IMP ((y48) = 0) (TUs ((w14)) ((u1_1)) (a3) (a1, sc ((w23)) 0 ((u4_2))) ((u4_9), sc ((wc130_23)) 0 ((yc130_4_2)))) by assumption))
      · have : IMP ((yc130_4_10) ≠ 0) (TUe ((w14)) ((u1_1)) ((a3)) ((a1), sc ((w23)) 0 ((u4_2))) ((yc130_4_10), (yc130_4_11), [])) := fun z => TUe_f2 (by omega) hT0 (by omega) (k130f z) z
        have : IMP ((yc130_4_10) = 0) (TUs ((w14)) ((u1_1)) ((a3)) ((a1), sc ((w23)) 0 ((u4_2))) ((u4_9), sc ((wc130_23)) 0 ((yc130_4_2)))) := fun z => absurd z (by omega)
        exact w_ret rfl (k σ _ _ H (SF_trans (SF_upd (SF_refl) rfl) hS_c130 (any_sub rfl)) (SA_trans (SA_refl) hA_c130 (any_subA rfl)) (yc130_4_2) ((eyc130_4_2)) (yc130_4_10) ((eyc130_4_10)) (yc130_4_11) ((eyc130_4_11)) (wc130_23) (ewc130_23) (show 0 ≤ (yc130_4_2) ∧ (yc130_4_2) ≤ a3 from q_1136 h6 jc130_0) (show 0 ≤ (yc130_4_10) ∧ (yc130_4_10) ≤ 20 from jc130_1) (show IMP ((yc130_4_10) ≠ 0) (TUe ((w14)) ((u1_1)) (a3) (a1, sc ((w23)) 0 ((u4_2))) ((yc130_4_10), (yc130_4_11), [])) by assumption) (show IMP ((yc130_4_10) = 0) (TUs ((w14)) ((u1_1)) (a3) (a1, sc ((w23)) 0 ((u4_2))) ((u4_9), sc ((wc130_23)) 0 ((yc130_4_2)))) by assumption))
    refine Ew_of (pcₚ := 27) (fun _ => x_iload_n rfl (rk_o (rk_o (rfl) rfl rfl) rfl rfl)) ?_
    refine w_ifne (t := 65) rfl rfl (show inr (a2) from h1) (fun b54 => ?_) (fun b54 => ?_)
    · refine Ew_of (pcₚ := 66) (fun _ => x_aload_n rfl (rk_o (rk_o (rfl) rfl rfl) rfl rfl)) ?_
      refine w_gI H (o := 4) (w := u4_9) rfl (H.perm 4 rfl) rfl rfl rfl (fun _ => rfl) (eu4_9) ?_
      refine Ew_of (pcₚ := 70) (fun _ => x_aload_n rfl (rk_o (rk_o (rfl) rfl rfl) rfl rfl)) ?_
      refine w_gI H (o := 4) (w := (a1 + 8)) rfl (H.perm 4 rfl) rfl rfl rfl (fun _ => rfl) rfl ?_
      refine w_isub rfl ?_
      refine Ew_of (pcₚ := 76) (fun _ => x_iload rfl rk_s) ?_
      refine w_icmple (t := 95) rfl rfl (show inr ((u4_9 - (a1 + 8))) from q_1138 h3 h5 r3) (show inr ((a3 - u4_2)) from q_614 h6) (fun b55 => ?_) (fun b55 => ?_)
      · refine Ew_of (pcₚ := 96) (fun _ => x_aload_n rfl (rk_o (rk_o (rfl) rfl rfl) rfl rfl)) ?_
        refine w_gI H (o := 4) (w := (a1 + 8)) rfl (H.perm 4 rfl) rfl rfl rfl (fun _ => rfl) rfl ?_
        refine Ew_of (pcₚ := 101) (fun _ => x_istore rfl) ?_
        have : sc ((w23)) ((u4_2)) ((u4_2)) = [] ++ sc ((w14)) ((a1) + 8) ((a1) + 8) := by rw [sc_nil (Int.le_refl _), sc_nil (Int.le_refl _)]; rfl
        have : KLO ((w23)) ((w23)) ((u4_2)) := KLO_0
        suffices hl101 : ∀ (m : Nat), ∀ (ls : rO) (σ : rS) (F_101 : hF) (A_101 : hA) (x101_6 : Int), rlook ls 0 = some (.ref (D 4)) → rlook ls 1 = some (I (a1)) → rlook ls 4 = some (I (u4_2)) → rlook ls 6 = some (I (x101_6)) → HS σ0 σ D N F_101 A_101 → SF [(4, 2)] (updF F 4 8 ((a1 + 8))) F_101 → SA [23] A A_101 → ∀ y101_4_2 : Int, F_101 4 2 = y101_4_2 → ∀ w101_23 : Int → Int, A_101 23 = w101_23 → (inr (x101_6)) → (((a1 + 8)) ≤ (x101_6)) → ((x101_6) ≤ ((a1 + 8)) ∨ (x101_6) ≤ ((u4_9))) → ((y101_4_2) = (u4_2) + ((x101_6) - ((a1) + 8))) → (sc ((w101_23)) ((u4_2)) ((y101_4_2)) = [] ++ sc ((w14)) ((a1) + 8) ((x101_6))) → (KLO ((w23)) ((w101_23)) ((u4_2))) → (((u4_9)) - (x101_6)).toNat = m → Ew 351 (d + 4) 101 ls [] σ c s Q from
          hl101 _ _ σ _ _ ((a1 + 8)) (rk_o (rk_o (rk_o (rfl) rfl rfl) rfl rfl) rfl rfl) (rk_o (rk_o (rk_o (rfl) rfl rfl) rfl rfl) rfl rfl) (rk_o (rk_o (rk_s) rfl rfl) rfl rfl) (rk_s) H (SF_refl) (SA_refl) (u4_2) ((eu4_2)) (w23) (ew23) (show inr ((a1 + 8)) from q_1142 h3 h5 r3) (show ((a1 + 8)) ≤ ((a1 + 8)) from q_1141) (show ((a1 + 8)) ≤ ((a1 + 8)) ∨ ((a1 + 8)) ≤ ((u4_9)) from q_1140) (show (u4_2) = (u4_2) + (((a1 + 8)) - ((a1) + 8)) from q_1139) (show sc ((w23)) ((u4_2)) ((u4_2)) = [] ++ sc ((w14)) ((a1) + 8) (((a1 + 8))) by assumption) (show KLO ((w23)) ((w23)) ((u4_2)) by assumption) rfl
        as_aux_lemma =>
        intro m
        induction m using Nat.strongRecOn with
        | _ m ih101 =>
          intro ls σ F_101 A_101 x101_6 l101_0 l101_1 l101_4 l101_6 H hS_101 hA_101 y101_4_2 ey101_4_2 w101_23 ew101_23 j101_0 j101_1 j101_2 j101_3 j101_4 j101_5 hm101
          have r56 : (-2147483648 : Int) ≤ y101_4_2 ∧ y101_4_2 ≤ 2147483647 := rngE (show (-2147483648 : Int) ≤ F_101 4 2 ∧ F_101 4 2 ≤ 2147483647 from H.frng 4 2) (show F_101 4 2 = y101_4_2 from (ey101_4_2))
          have j101_q : sc ((w101_23)) ((u4_2)) ((y101_4_2)) = [] ++ sc ((w14)) ((a1) + 8) ((x101_6)) := by assumption
          have j101_k : KLO ((w23)) ((w101_23)) ((u4_2)) := j101_5
          obtain ⟨q6, hq6⟩ : ∃ q : Int, q = (x101_6) := ⟨_, rfl⟩
          refine Ew_of (pcₚ := 103) (fun _ => x_iload rfl l101_6) ?_
          refine Ew_of (pcₚ := 104) (fun _ => x_aload_n rfl l101_0) ?_
          refine w_gI H (o := 4) (w := u4_9) rfl (H.perm 4 rfl) rfl rfl rfl (fun _ => rfl) ((hS_101 4 9 rfl).trans (eu4_9)) ?_
          refine w_icmpge (t := 130) rfl rfl (show inr (x101_6) from j101_0) (show inr (u4_9) from q_286 r3) (fun b57 => ?_) (fun b57 => ?_)
          · have : IMP (((u4_10) : Int) ≠ 0) (∃ X, TUb ((w14)) ((a3)) ((a1)) ((a2)) ((u4_9) - (a1) - 4) (sc ((w23)) 0 ((u4_2))) ((u4_10)) ((F 4 11)) X) := by first | exact fun z => ⟨_, TUb_0f (by omega) (hBf (by omega)) (by omega) (by omega) hmm (by omega) (by omega)⟩ | exact fun _ => ⟨[], TUb_1f (by omega) (by rw [hCl]; omega) (by omega) (by rw [hCl]; omega)⟩ | exact fun z => absurd z (by omega)
            have : IMP (((u4_10) : Int) = 0) (TUb ((w14)) ((a3)) ((a1)) ((a2)) ((u4_9) - (a1) - 4) (sc ((w23)) 0 ((u4_2))) 0 0 (sc ((w101_23)) ((u4_2)) ((y101_4_2)))) := by first | exact fun z => absurd z (by omega) | exact fun z => TUb_0y (by omega) (hBy (by omega)) (by omega) (by omega) hmm | exact fun _ => TUb_1y (by omega) (by rw [hCl]; omega) (j101_q.trans (List.nil_append _)) rfl (by omega)
            have : KLO ((w23)) ((w101_23)) ((u4_2)) := by first | exact hBk | exact j101_k | exact KLO_0
            exact hc130  _ σ _ _  (l101_0) (l101_1) (l101_4) H (SF_trans (SF_refl) hS_101 (any_sub rfl)) (SA_trans (SA_refl) hA_101 (any_subA rfl)) (y101_4_2) ((ey101_4_2)) (u4_10) (((hS_101 4 10 rfl).trans (eu4_10))) (F 4 11) ((hS_101 4 11 rfl)) (w101_23) (ew101_23) (show (u4_2) ≤ (y101_4_2) ∧ (y101_4_2) ≤ (a3) by omega) (show 0 ≤ (u4_10) ∧ (u4_10) ≤ 20 from q_1002 h4) (show IMP (((u4_10) : Int) ≠ 0) (∃ X, TUb ((w14)) ((a3)) ((a1)) ((a2)) ((u4_9) - (a1) - 4) (sc ((w23)) 0 ((u4_2))) ((u4_10)) ((F 4 11)) X) by assumption) (show IMP (((u4_10) : Int) = 0) (TUb ((w14)) ((a3)) ((a1)) ((a2)) ((u4_9) - (a1) - 4) (sc ((w23)) 0 ((u4_2))) 0 0 (sc ((w101_23)) ((u4_2)) ((y101_4_2)))) by assumption) (j101_k)
          · refine Ew_of (pcₚ := 111) (fun _ => x_aload_n rfl l101_0) ?_
            refine Ew_of (pcₚ := 112) (fun _ => x_aload_n rfl l101_0) ?_
            refine w_gT H (o := 4) (t := 1) rfl (H.perm 4 rfl) rfl rfl rfl rfl rfl rfl ?_
            refine w_gT H (o := 1) (t := 14) rfl (H.perm 1 rfl) rfl rfl rfl rfl rfl rfl ?_
            refine Ew_of (pcₚ := 120) (fun _ => x_iload rfl l101_6) ?_
            refine w_lI H (o := 14) (n := 65536) rfl (H.perm 14 rfl) rfl rfl (H.fix 14 rfl rfl) (show 0 ≤ x101_6 ∧ x101_6 < ((65536 : Nat) : Int) from q_1143 b57 h3 j101_1 r3) (by decide) (fun v58 ev58 qv58 => ?_)
            have qv58 : (0 : Int) ≤ v58 ∧ v58 ≤ 255 := qv58
            have ev58 : (w14) (x101_6) = v58 := (congrFun ((funext (hA_101 14 rfl)).trans (ew14)) (x101_6)).symm.trans ev58
            have hv := ev58
            refine w_inv H (o := 4) rfl rfl rfl (H.perm 4 rfl) rfl rfl (by rfl) (M320 H (y101_4_2) ((ey101_4_2)) (w101_23) (ew101_23) (show inr (v58) from q_299 qv58) (show 0 ≤ (y101_4_2) ∧ (y101_4_2) ≤ 100000000 from q_1144 b55 b57 h6 j101_1 j101_3) (fun σ F59 A60 H hS61 hA62 y64 ey65 wv66 ewv67 pz63_0 pz63_1 pz63_2 => ⟨rfl, ?_⟩))
            have r68 : (-2147483648 : Int) ≤ y64 ∧ y64 ≤ 2147483647 := rngE (show (-2147483648 : Int) ≤ F59 4 2 ∧ F59 4 2 ≤ 2147483647 from H.frng 4 2) (show F59 4 2 = y64 from (ey65))
            have hpt := pz63_1
            have hpk := pz63_2
            have : sc ((wv66)) ((u4_2)) ((y64)) = [] ++ sc ((w14)) ((a1) + 8) ((x101_6) + 1) := PTQ j101_q (by omega) (by omega) hv hpt (by omega) rfl
            have : KLO ((w23)) ((wv66)) ((u4_2)) := KLO_t j101_k (KLO_p hpk) (by omega)
            refine Ew_of (pcₚ := 127) (fun _ => x_iinc (len := 3) rfl (l101_6)) ?_
            refine Ew_of (pcₚ := 101) (fun _ => x_goto rfl rfl) ?_
            exact ih101 _ (msE hm101 q_16 (q_17 b57)) _ σ _ _ ((x101_6 + 1)) (rk_o (l101_0) rfl rfl) (rk_o (l101_1) rfl rfl) (rk_o (l101_4) rfl rfl) (rk_s) H (SF_trans (hS_101) hS61 (any_sub rfl)) (SA_trans (hA_101) hA62 (any_subA rfl)) (y64) ((ey65)) (wv66) (ewv67) (show inr ((x101_6 + 1)) from q_698 b57 j101_0 r3) (show ((a1 + 8)) ≤ ((x101_6 + 1)) from q_1147 j101_1) (show ((x101_6 + 1)) ≤ ((a1 + 8)) ∨ ((x101_6 + 1)) ≤ ((u4_9)) from q_1146 b57) (show (y64) = (u4_2) + (((x101_6 + 1)) - ((a1) + 8)) from q_1145 j101_3 pz63_0) (show sc ((wv66)) ((u4_2)) ((y64)) = [] ++ sc ((w14)) ((a1) + 8) (((x101_6 + 1))) by assumption) (show KLO ((w23)) ((wv66)) ((u4_2)) by assumption) rfl
      · refine Ew_of (pcₚ := 80) (fun _ => x_aload_n rfl (rk_o (rk_o (rfl) rfl rfl) rfl rfl)) ?_
        refine Ew_of (pcₚ := 81) (fun _ => x_iconst rfl) ?_
        refine Ew_of (pcₚ := 82) (fun _ => x_aload_n rfl (rk_o (rk_o (rfl) rfl rfl) rfl rfl)) ?_
        refine w_gI H (o := 4) (w := (a1 + 8)) rfl (H.perm 4 rfl) rfl rfl rfl (fun _ => rfl) rfl ?_
        refine Ew_of (pcₚ := 87) (fun _ => x_iload rfl rk_s) ?_
        refine w_iadd rfl ?_
        refine w_inv H (o := 4) rfl rfl rfl (H.perm 4 rfl) rfl rfl (by rfl) (M335 H (u4_10) ((eu4_10)) (F 4 11) (rfl) (show inr (3) from q_246) (show inr (((a1 + 8) + (a3 - u4_2))) from q_1148 b55 h3 h6 r3) (fun z73 σ F69 A70 H hS71 hA72 y74 ey75 y76 ey77 pz73_0 pz73_1 pz73_2 => ⟨rretB rfl pz73_0, ?_⟩))
        have r78 : (-2147483648 : Int) ≤ y74 ∧ y74 ≤ 2147483647 := rngE (show (-2147483648 : Int) ≤ F69 4 10 ∧ F69 4 10 ≤ 2147483647 from H.frng 4 10) (show F69 4 10 = y74 from (ey75))
        have r79 : (-2147483648 : Int) ≤ y76 ∧ y76 ≤ 2147483647 := rngE (show (-2147483648 : Int) ≤ F69 4 11 ∧ F69 4 11 ≤ 2147483647 from H.frng 4 11) (show F69 4 11 = y76 from (ey77))
        refine Ew_of (pcₚ := 92) (fun _ => x_pop rfl rfl) ?_
        refine Ew_of (pcₚ := 130) (fun _ => x_goto rfl rfl) ?_
        have : IMP (((y74) : Int) ≠ 0) (∃ X, TUb ((w14)) ((a3)) ((a1)) ((a2)) ((u4_9) - (a1) - 4) (sc ((w23)) 0 ((u4_2))) ((y74)) ((y76)) X) := by first | exact fun z => ⟨_, TUb_0f (by omega) (hBf (by omega)) (by omega) (by omega) hmm (by omega) (by omega)⟩ | exact fun _ => ⟨[], TUb_1f (by omega) (by rw [hCl]; omega) (by omega) (by rw [hCl]; omega)⟩ | exact fun z => absurd z (by omega)
        have : IMP (((y74) : Int) = 0) (TUb ((w14)) ((a3)) ((a1)) ((a2)) ((u4_9) - (a1) - 4) (sc ((w23)) 0 ((u4_2))) 0 0 (sc ((w23)) ((u4_2)) ((u4_2)))) := by first | exact fun z => absurd z (by omega) | exact fun z => TUb_0y (by omega) (hBy (by omega)) (by omega) (by omega) hmm | exact fun _ => TUb_1y (by omega) (by rw [hCl]; omega) (j101_q.trans (List.nil_append _)) rfl (by omega)
        have : KLO ((w23)) ((w23)) ((u4_2)) := by first | exact hBk | exact j101_k | exact KLO_0
        exact hc130  _ σ _ _  (rk_o (rk_o (rfl) rfl rfl) rfl rfl) (rk_o (rk_o (rfl) rfl rfl) rfl rfl) (rk_o (rk_s) rfl rfl) H (SF_trans (SF_refl) hS71 (any_sub rfl)) (SA_trans (SA_refl) hA72 (any_subA rfl)) (u4_2) (((hS71 4 2 rfl).trans (eu4_2))) (y74) ((ey75)) (y76) ((ey77)) (w23) ((funext (hA72 23 rfl)).trans (ew23)) (show (u4_2) ≤ (u4_2) ∧ (u4_2) ≤ (a3) from q_619 h6) (show 0 ≤ (y74) ∧ (y74) ≤ 20 from q_1149 h4 pz73_2) (show IMP (((y74) : Int) ≠ 0) (∃ X, TUb ((w14)) ((a3)) ((a1)) ((a2)) ((u4_9) - (a1) - 4) (sc ((w23)) 0 ((u4_2))) ((y74)) ((y76)) X) by assumption) (show IMP (((y74) : Int) = 0) (TUb ((w14)) ((a3)) ((a1)) ((a2)) ((u4_9) - (a1) - 4) (sc ((w23)) 0 ((u4_2))) 0 0 (sc ((w23)) ((u4_2)) ((u4_2)))) by assumption) (show KLO ((w23)) ((w23)) ((u4_2)) by assumption)
    · refine Ew_of (pcₚ := 31) (fun _ => x_aload_n rfl (rk_o (rk_o (rfl) rfl rfl) rfl rfl)) ?_
      refine Ew_of (pcₚ := 33) (fun _ => x_iload rfl rk_s) ?_
      refine Ew_of (pcₚ := 35) (fun _ => x_ldc (z := 65536) rfl (by decide)) ?_
      have hc45 : ∀ (tc45_0 : Int), ∀ (ls : rO) (σ : rS) (F_c45 : hF) (A_c45 : hA) , rlook ls 0 = some (.ref (D 4)) → rlook ls 1 = some (I (a1)) → rlook ls 4 = some (I (u4_2)) → HS σ0 σ D N F_c45 A_c45 → SF [] (updF F 4 8 ((a1 + 8))) F_c45 → SA [] A A_c45 → (inr (tc45_0)) → ((((a3 - u4_2)) ≥ (65536) ∧ (tc45_0) = (65536)) ∨ (((a3 - u4_2)) < (65536) ∧ (tc45_0) = ((a3 - u4_2)))) → Ew 351 (d + 4) 45 ls [I (tc45_0), .ref (D 4)] σ c s Q := by
       as_aux_lemma =>
        intro tc45_0 ls σ F_c45 A_c45  lc45_0 lc45_1 lc45_4 H hS_c45 hA_c45   jc45_0 jc45_1
        have hmm : (tc45_0) = (if 65536 ≤ (a3) - ((sc ((w23)) 0 ((u4_2))).length : Int) then 65536 else (a3) - ((sc ((w23)) 0 ((u4_2))).length : Int)) := by rw [hCl]; split <;> omega
        refine w_inv H (o := 4) rfl rfl rfl (H.perm 4 rfl) rfl rfl (by rfl) (M341 H (u4_2) (((hS_c45 4 2 rfl).trans (eu4_2))) ((a1 + 8)) ((hS_c45 4 8 rfl)) (u4_9) (((hS_c45 4 9 rfl).trans (eu4_9))) (u4_10) (((hS_c45 4 10 rfl).trans (eu4_10))) (w14) ((funext (hA_c45 14 rfl)).trans (ew14)) (w23) ((funext (hA_c45 23 rfl)).trans (ew23)) (show inr (tc45_0) from jc45_0) (show 0 ≤ (tc45_0) ∧ 0 ≤ (u4_2) ∧ (u4_2) + (tc45_0) ≤ 65536 from q_1151 h6 jc45_1) (show 0 ≤ ((a1 + 8)) ∧ ((a1 + 8)) ≤ (u4_9) from q_1150 b5 h3 h5) (show (u4_10) = 0 from h4) (fun σ F80 A81 H hS82 hA83 y85 ey86 y87 ey88 y89 ey90 y91 ey92 wv93 ewv94 pz84_0 pz84_1 pz84_2 pz84_3 pz84_4 pz84_5 => ⟨rfl, ?_⟩))
        have r95 : (-2147483648 : Int) ≤ y85 ∧ y85 ≤ 2147483647 := rngE (show (-2147483648 : Int) ≤ F80 4 2 ∧ F80 4 2 ≤ 2147483647 from H.frng 4 2) (show F80 4 2 = y85 from (ey86))
        have r96 : (0 : Int) ≤ y87 ∧ y87 ≤ 65536 := rngE (show (0 : Int) ≤ F80 4 8 ∧ F80 4 8 ≤ 65536 from H.frng 4 8) (show F80 4 8 = y87 from (ey88))
        have r97 : (-2147483648 : Int) ≤ y89 ∧ y89 ≤ 2147483647 := rngE (show (-2147483648 : Int) ≤ F80 4 10 ∧ F80 4 10 ≤ 2147483647 from H.frng 4 10) (show F80 4 10 = y89 from (ey90))
        have r98 : (-2147483648 : Int) ≤ y91 ∧ y91 ≤ 2147483647 := rngE (show (-2147483648 : Int) ≤ F80 4 11 ∧ F80 4 11 ≤ 2147483647 from H.frng 4 11) (show F80 4 11 = y91 from (ey92))
        have hBf := pz84_3
        have hBy := pz84_4
        have hBk := pz84_5
        obtain ⟨qf, hqf⟩ : ∃ q : Int, q = (y89) := ⟨_, rfl⟩
        rw [← hqf] at hBf hBy
        refine Ew_of (pcₚ := 49) (fun _ => x_aload_n rfl lc45_0) ?_
        refine w_gI H (o := 4) (w := y89) rfl (H.perm 4 rfl) rfl rfl rfl (fun _ => rfl) (ey90) ?_
        refine Ew_of (pcₚ := 53) (fun _ => x_iconst rfl) ?_
        refine w_icmpne (t := 130) rfl rfl (show inr (y89) from q_1068 pz84_2) (show inr (1) from q_135) (fun b99 => ?_) (fun b99 => ?_)
        · have : IMP (((y89) : Int) ≠ 0) (∃ X, TUb ((w14)) ((a3)) ((a1)) ((a2)) ((u4_9) - (a1) - 4) (sc ((w23)) 0 ((u4_2))) ((y89)) ((y91)) X) := by first | exact fun z => ⟨_, TUb_0f (by omega) (hBf (by omega)) (by omega) (by omega) hmm (by omega) (by omega)⟩ | exact fun _ => ⟨[], TUb_1f (by omega) (by rw [hCl]; omega) (by omega) (by rw [hCl]; omega)⟩ | exact fun z => absurd z (by omega)
          have : IMP (((y89) : Int) = 0) (TUb ((w14)) ((a3)) ((a1)) ((a2)) ((u4_9) - (a1) - 4) (sc ((w23)) 0 ((u4_2))) 0 0 (sc ((wv93)) ((u4_2)) ((y85)))) := by first | exact fun z => absurd z (by omega) | exact fun z => TUb_0y (by omega) (hBy (by omega)) (by omega) (by omega) hmm | exact fun _ => TUb_1y (by omega) (by rw [hCl]; omega) (j101_q.trans (List.nil_append _)) rfl (by omega)
          have : KLO ((w23)) ((wv93)) ((u4_2)) := by first | exact hBk | exact j101_k | exact KLO_0
          exact hc130  _ σ _ _  (lc45_0) (lc45_1) (lc45_4) H (SF_trans (SF_trans (SF_refl) hS_c45 (any_sub rfl)) hS82 (any_sub rfl)) (SA_trans (SA_trans (SA_refl) hA_c45 (any_subA rfl)) hA83 (any_subA rfl)) (y85) ((ey86)) (y89) ((ey90)) (y91) ((ey92)) (wv93) (ewv94) (show (u4_2) ≤ (y85) ∧ (y85) ≤ (a3) from q_1152 jc45_1 pz84_1) (show 0 ≤ (y89) ∧ (y89) ≤ 20 from pz84_2) (show IMP (((y89) : Int) ≠ 0) (∃ X, TUb ((w14)) ((a3)) ((a1)) ((a2)) ((u4_9) - (a1) - 4) (sc ((w23)) 0 ((u4_2))) ((y89)) ((y91)) X) by assumption) (show IMP (((y89) : Int) = 0) (TUb ((w14)) ((a3)) ((a1)) ((a2)) ((u4_9) - (a1) - 4) (sc ((w23)) 0 ((u4_2))) 0 0 (sc ((wv93)) ((u4_2)) ((y85)))) by assumption) (pz84_5)
        · refine Ew_of (pcₚ := 57) (fun _ => x_aload_n rfl lc45_0) ?_
          refine Ew_of (pcₚ := 59) (fun _ => x_bipush (z := 12) rfl (by decide)) ?_
          refine w_pI H (o := 4) rfl rfl (H.perm 4 rfl) rfl rfl rfl (fun _ => rfl) rfl (show (-2147483648 : Int) ≤ 12 ∧ 12 ≤ 2147483647 from q_1153) (fun σ H => ?_)
          refine Ew_of (pcₚ := 130) (fun _ => x_goto rfl rfl) ?_
          have : IMP (((12) : Int) ≠ 0) (∃ X, TUb ((w14)) ((a3)) ((a1)) ((a2)) ((u4_9) - (a1) - 4) (sc ((w23)) 0 ((u4_2))) ((12)) ((y91)) X) := by first | exact fun z => ⟨_, TUb_0f (by omega) (hBf (by omega)) (by omega) (by omega) hmm (by omega) (by omega)⟩ | exact fun _ => ⟨[], TUb_1f (by omega) (by rw [hCl]; omega) (by omega) (by rw [hCl]; omega)⟩ | exact fun z => absurd z (by omega)
          have : IMP (((12) : Int) = 0) (TUb ((w14)) ((a3)) ((a1)) ((a2)) ((u4_9) - (a1) - 4) (sc ((w23)) 0 ((u4_2))) 0 0 (sc ((wv93)) ((u4_2)) ((y85)))) := by first | exact fun z => absurd z (by omega) | exact fun z => TUb_0y (by omega) (hBy (by omega)) (by omega) (by omega) hmm | exact fun _ => TUb_1y (by omega) (by rw [hCl]; omega) (j101_q.trans (List.nil_append _)) rfl (by omega)
          have : KLO ((w23)) ((wv93)) ((u4_2)) := by first | exact hBk | exact j101_k | exact KLO_0
          exact hc130  _ σ _ _  (lc45_0) (lc45_1) (lc45_4) H (SF_upd (SF_trans (SF_trans (SF_refl) hS_c45 (any_sub rfl)) hS82 (any_sub rfl)) rfl) (SA_trans (SA_trans (SA_refl) hA_c45 (any_subA rfl)) hA83 (any_subA rfl)) (y85) ((ey86)) (12) (rfl) (y91) ((ey92)) (wv93) (ewv94) (show (u4_2) ≤ (y85) ∧ (y85) ≤ (a3) from q_1152 jc45_1 pz84_1) (show 0 ≤ (12) ∧ (12) ≤ 20 from q_1154) (show IMP (((12) : Int) ≠ 0) (∃ X, TUb ((w14)) ((a3)) ((a1)) ((a2)) ((u4_9) - (a1) - 4) (sc ((w23)) 0 ((u4_2))) ((12)) ((y91)) X) by assumption) (show IMP (((12) : Int) = 0) (TUb ((w14)) ((a3)) ((a1)) ((a2)) ((u4_9) - (a1) - 4) (sc ((w23)) 0 ((u4_2))) 0 0 (sc ((wv93)) ((u4_2)) ((y85)))) by assumption) (pz84_5)
      refine w_icmpge (t := 43) rfl rfl (show inr ((a3 - u4_2)) from q_614 h6) (show inr (65536) from q_52) (fun b100 => ?_) (fun b100 => ?_)
      · refine Ew_of (pcₚ := 45) (fun _ => x_ldc (z := 65536) rfl (by decide)) ?_
        exact hc45 (65536) _ σ _ _  (rk_o (rk_o (rfl) rfl rfl) rfl rfl) (rk_o (rk_o (rfl) rfl rfl) rfl rfl) (rk_o (rk_s) rfl rfl) H (SF_refl) (SA_refl)   (show inr (65536) from q_52) (show (((a3 - u4_2)) ≥ (65536) ∧ (65536) = (65536)) ∨ (((a3 - u4_2)) < (65536) ∧ (65536) = ((a3 - u4_2))) from q_1155 b100)
      · refine Ew_of (pcₚ := 40) (fun _ => x_iload rfl rk_s) ?_
        refine Ew_of (pcₚ := 45) (fun _ => x_goto rfl rfl) ?_
        exact hc45 ((a3 - u4_2)) _ σ _ _  (rk_o (rk_o (rfl) rfl rfl) rfl rfl) (rk_o (rk_o (rfl) rfl rfl) rfl rfl) (rk_o (rk_s) rfl rfl) H (SF_refl) (SA_refl)   (show inr ((a3 - u4_2)) from q_1157 b100 h6) (show (((a3 - u4_2)) ≥ (65536) ∧ ((a3 - u4_2)) = (65536)) ∨ (((a3 - u4_2)) < (65536) ∧ ((a3 - u4_2)) = ((a3 - u4_2))) from q_1156 b100)
  · have r101 : (-2147483648 : Int) ≤ F 4 11 ∧ F 4 11 ≤ 2147483647 := H.frng 4 11
    have : IMP ((u4_10) ≠ 0) (TUe ((w14)) ((u1_1)) ((a3)) ((a1), sc ((w23)) 0 ((u4_2))) ((u4_10), (F 4 11), [])) := fun z => absurd z (by omega)
    have : IMP ((u4_10) = 0) (TUs ((w14)) ((u1_1)) ((a3)) ((a1), sc ((w23)) 0 ((u4_2))) ((u4_9), sc ((w23)) 0 ((u4_2)))) := fun _ => TUs_n (by omega) hT0 (by omega) (by omega)
    exact w_ret rfl (k σ _ _ H (SF_refl) (SA_refl) (u4_2) ((eu4_2)) (u4_10) ((eu4_10)) (F 4 11) (rfl) (w23) (ew23) (show 0 ≤ (u4_2) ∧ (u4_2) ≤ a3 from q_1158 h6) (show 0 ≤ (u4_10) ∧ (u4_10) ≤ 20 from q_1002 h4) (show IMP ((u4_10) ≠ 0) (TUe ((w14)) ((u1_1)) (a3) (a1, sc ((w23)) 0 ((u4_2))) ((u4_10), (F 4 11), [])) by assumption) (show IMP ((u4_10) = 0) (TUs ((w14)) ((u1_1)) (a3) (a1, sc ((w23)) 0 ((u4_2))) ((u4_9), sc ((w23)) 0 ((u4_2)))) by assumption))

theorem M343 {σ0 σ : rS} {D N : Nat → Nat} {F : hF} {A : hA} {d c s : Nat} {Q : wQ} (H : HS σ0 σ D N F A)  (u1_1 : Int) (eu1_1 : F 1 1 = u1_1) (u4_2 : Int) (eu4_2 : F 4 2 = u4_2) (u4_10 : Int) (eu4_10 : F 4 10 = u4_10) (u4_11 : Int) (eu4_11 : F 4 11 = u4_11) (w23 : Int → Int) (ew23 : A 23 = w23) (h0 : 0 ≤ (u4_2) ∧ (u4_2) ≤ 65536) (h1 : 0 ≤ (u4_10) ∧ (u4_10) ≤ 20) (k : ∀ (z : Int) σ Fₚ Aₚ, HS σ0 σ D N Fₚ Aₚ → SF [(1, 3), (1, 4)] F Fₚ → SA [15] A Aₚ → ∀ y1_3 : Int, Fₚ 1 3 = y1_3 → ∀ y1_4 : Int, Fₚ 1 4 = y1_4 → ∀ v15 : Int → Int, Aₚ 15 = v15 → (inr (z)) → ((u4_10) = 0 ∧ (y1_4) = (u1_1) ∧ (z) = (u4_2) ∧ (y1_3) = (u4_2) ∨ (u4_10) ≠ 0 ∧ (y1_4) = (u4_11) ∧ (z) = -(u4_10)) → (IMP ((u4_10) = 0) (CPY ((w23)) ((v15)) (0) (0) ((u4_2)))) → Q (some (I z)) σ c s) : Ew 343 (d + 1) 0 (rargs 0 [.ref (D 4)]) [] σ c s Q := by
  have r1 : (0 : Int) ≤ u1_1 ∧ u1_1 ≤ 65536 := rngE (show (0 : Int) ≤ F 1 1 ∧ F 1 1 ≤ 65536 from H.frng 1 1) (show F 1 1 = u1_1 from (eu1_1))
  have r2 : (-2147483648 : Int) ≤ u4_2 ∧ u4_2 ≤ 2147483647 := rngE (show (-2147483648 : Int) ≤ F 4 2 ∧ F 4 2 ≤ 2147483647 from H.frng 4 2) (show F 4 2 = u4_2 from (eu4_2))
  have r3 : (-2147483648 : Int) ≤ u4_10 ∧ u4_10 ≤ 2147483647 := rngE (show (-2147483648 : Int) ≤ F 4 10 ∧ F 4 10 ≤ 2147483647 from H.frng 4 10) (show F 4 10 = u4_10 from (eu4_10))
  have r4 : (-2147483648 : Int) ≤ u4_11 ∧ u4_11 ≤ 2147483647 := rngE (show (-2147483648 : Int) ≤ F 4 11 ∧ F 4 11 ≤ 2147483647 from H.frng 4 11) (show F 4 11 = u4_11 from (eu4_11))
  refine Ew_of (pcₚ := 1) (fun _ => x_aload_n rfl rfl) ?_
  refine w_gT H (o := 4) (t := 1) rfl (H.perm 4 rfl) rfl rfl rfl rfl rfl rfl ?_
  refine Ew_of (pcₚ := 5) (fun _ => x_aload_n rfl rfl) ?_
  refine w_gI H (o := 4) (w := u4_10) rfl (H.perm 4 rfl) rfl rfl rfl (fun _ => rfl) (eu4_10) ?_
  have hc25 : ∀ (tc25_0 : Int), ∀ (ls : rO) (σ : rS) (F_c25 : hF) (A_c25 : hA) , rlook ls 0 = some (.ref (D 4)) → HS σ0 σ D N F_c25 A_c25 → SF [] F F_c25 → SA [] A A_c25 → (inr (tc25_0)) → (((u4_10) ≠ (0) ∧ (tc25_0) = (u4_11)) ∨ ((u4_10) = (0) ∧ (tc25_0) = (u1_1))) → Ew 343 (d + 1) 25 ls [I (tc25_0), .ref (D 1)] σ c s Q := by
   as_aux_lemma =>
    intro tc25_0 ls σ F_c25 A_c25  lc25_0 H hS_c25 hA_c25   jc25_0 jc25_1
    refine w_pI H (o := 1) rfl rfl (H.perm 1 rfl) rfl rfl rfl (fun _ => rfl) rfl (show (-2147483648 : Int) ≤ tc25_0 ∧ tc25_0 ≤ 2147483647 from q_31 jc25_0) (fun σ H => ?_)
    refine Ew_of (pcₚ := 29) (fun _ => x_aload_n rfl lc25_0) ?_
    refine w_gI H (o := 4) (w := u4_10) rfl (H.perm 4 rfl) rfl rfl rfl (fun _ => rfl) ((hS_c25 4 10 rfl).trans (eu4_10)) ?_
    refine w_ifne (t := 42) rfl rfl (show inr (u4_10) from q_1068 h1) (fun b5 => ?_) (fun b5 => ?_)
    · refine Ew_of (pcₚ := 43) (fun _ => x_aload_n rfl lc25_0) ?_
      refine w_gI H (o := 4) (w := u4_10) rfl (H.perm 4 rfl) rfl rfl rfl (fun _ => rfl) ((hS_c25 4 10 rfl).trans (eu4_10)) ?_
      refine w_ineg rfl ?_
      have : IMP ((u4_10) = 0) (CPY ((w23)) ((A 15)) (0) (0) ((u4_2))) := by first | exact fun _ => hcp | exact fun z => absurd z (by omega)
      have r6 : (0 : Int) ≤ F 1 3 ∧ F 1 3 ≤ 65536 := rngE (show (0 : Int) ≤ (updF F_c25 1 4 (tc25_0)) 1 3 ∧ (updF F_c25 1 4 (tc25_0)) 1 3 ≤ 65536 from H.frng 1 3) (show (updF F_c25 1 4 (tc25_0)) 1 3 = F 1 3 from (hS_c25 1 3 rfl))
      exact w_ireturn rfl (k ((-u4_10)) σ _ _ H (SF_upd (SF_trans (SF_refl) hS_c25 (any_sub rfl)) rfl) (SA_trans (SA_refl) hA_c25 (any_subA rfl)) (F 1 3) ((hS_c25 1 3 rfl)) (tc25_0) (rfl) (A 15) (funext (hA_c25 15 rfl)) (show inr ((-u4_10)) from q_1159 h1) (show (u4_10) = 0 ∧ (tc25_0) = (u1_1) ∧ ((-u4_10)) = (u4_2) ∧ (F 1 3) = (u4_2) ∨ (u4_10) ≠ 0 ∧ (tc25_0) = (u4_11) ∧ ((-u4_10)) = -(u4_10) by omega) (show IMP ((u4_10) = 0) (CPY ((w23)) ((A 15)) (0) (0) ((u4_2))) by assumption))
    · refine Ew_of (pcₚ := 36) (fun _ => x_aload_n rfl lc25_0) ?_
      refine w_inv H (o := 4) rfl rfl rfl (H.perm 4 rfl) rfl rfl (by rfl) (M322 H (u4_2) (((hS_c25 4 2 rfl).trans (eu4_2))) (w23) ((funext (hA_c25 23 rfl)).trans (ew23)) (show 0 ≤ (u4_2) ∧ (u4_2) ≤ 65536 from h0) (fun z11 σ F7 A8 H hS9 hA10 y12 ey13 wv14 ewv15 pz11_0 pz11_1 pz11_2 => ⟨rfl, ?_⟩))
      have r16 : (0 : Int) ≤ y12 ∧ y12 ≤ 65536 := rngE (show (0 : Int) ≤ F7 1 3 ∧ F7 1 3 ≤ 65536 from H.frng 1 3) (show F7 1 3 = y12 from (ey13))
      have hcp := pz11_2
      refine Ew_of (pcₚ := 47) (fun _ => x_goto rfl rfl) ?_
      have : IMP ((u4_10) = 0) (CPY ((w23)) ((wv14)) (0) (0) ((u4_2))) := by first | exact fun _ => hcp | exact fun z => absurd z (by omega)
      exact w_ireturn rfl (k (z11) σ _ _ H (SF_trans (SF_upd (SF_trans (SF_refl) hS_c25 (any_sub rfl)) rfl) hS9 (any_sub rfl)) (SA_trans (SA_trans (SA_refl) hA_c25 (any_subA rfl)) hA10 (any_subA rfl)) (y12) ((ey13)) (tc25_0) ((hS9 1 4 rfl)) (wv14) (ewv15) (show inr (z11) from pz11_0) (show (u4_10) = 0 ∧ (tc25_0) = (u1_1) ∧ (z11) = (u4_2) ∧ (y12) = (u4_2) ∨ (u4_10) ≠ 0 ∧ (tc25_0) = (u4_11) ∧ (z11) = -(u4_10) by omega) (show IMP ((u4_10) = 0) (CPY ((w23)) ((wv14)) (0) (0) ((u4_2))) by assumption))
  refine w_ifne (t := 21) rfl rfl (show inr (u4_10) from q_1068 h1) (fun b17 => ?_) (fun b17 => ?_)
  · refine Ew_of (pcₚ := 22) (fun _ => x_aload_n rfl rfl) ?_
    refine w_gI H (o := 4) (w := u4_11) rfl (H.perm 4 rfl) rfl rfl rfl (fun _ => rfl) (eu4_11) ?_
    exact hc25 (u4_11) _ σ _ _  (rfl) H (SF_refl) (SA_refl)   (show inr (u4_11) from q_18 r4) (show ((u4_10) ≠ (0) ∧ (u4_11) = (u4_11)) ∨ ((u4_10) = (0) ∧ (u4_11) = (u1_1)) from q_1160 b17)
  · refine Ew_of (pcₚ := 12) (fun _ => x_aload_n rfl rfl) ?_
    refine w_gT H (o := 4) (t := 1) rfl (H.perm 4 rfl) rfl rfl rfl rfl rfl rfl ?_
    refine w_gI H (o := 1) (w := u1_1) rfl (H.perm 1 rfl) rfl rfl rfl (fun _ => rfl) (eu1_1) ?_
    refine Ew_of (pcₚ := 25) (fun _ => x_goto rfl rfl) ?_
    exact hc25 (u1_1) _ σ _ _  (rfl) H (SF_refl) (SA_refl)   (show inr (u1_1) from q_286 r1) (show ((u4_10) ≠ (0) ∧ (u1_1) = (u4_11)) ∨ ((u4_10) = (0) ∧ (u1_1) = (u1_1)) from q_1161 b17)

theorem M344 {σ0 σ : rS} {D N : Nat → Nat} {F : hF} {A : hA} {d c s : Nat} {Q : wQ} (H : HS σ0 σ D N F A) {a1 : Int} (u1_1 : Int) (eu1_1 : F 1 1 = u1_1) (w14 : Int → Int) (ew14 : A 14 = w14) (h0 : inr (a1)) (h1 : 0 ≤ (a1) ∧ (a1) ≤ 65536) (k : ∀ (z : Int) σ Fₚ Aₚ, HS σ0 σ D N Fₚ Aₚ → SF [(1, 3), (1, 4), (4, 2), (4, 8), (4, 9), (4, 10), (4, 11)] F Fₚ → SA [15, 23] A Aₚ → ∀ y1_3 : Int, Fₚ 1 3 = y1_3 → ∀ y1_4 : Int, Fₚ 1 4 = y1_4 → ∀ v15 : Int → Int, Aₚ 15 = v15 → (inr (z)) → (RDG ((w14)) ((u1_1)) ((a1)) ((z)) ((y1_4)) ((y1_3)) ((v15))) → Q (some (I z)) σ c s) : Ew 344 (d + 4) 0 (rargs 0 [.ref (D 4), I a1]) [] σ c s Q := by
  have r1 : (0 : Int) ≤ u1_1 ∧ u1_1 ≤ 65536 := rngE (show (0 : Int) ≤ F 1 1 ∧ F 1 1 ≤ 65536 from H.frng 1 1) (show F 1 1 = u1_1 from (eu1_1))
  refine Ew_of (pcₚ := 1) (fun _ => x_aload_n rfl rfl) ?_
  refine w_inv H (o := 4) rfl rfl rfl (H.perm 4 rfl) rfl rfl (by rfl) (M342 H (u1_1) ((eu1_1))  (fun σ F2 A3 H hS4 hA5 y7 ey8 y9 ey10 y11 ey12 y13 ey14 pz6_0 => ⟨rfl, ?_⟩))
  have r15 : (-2147483648 : Int) ≤ y7 ∧ y7 ≤ 2147483647 := rngE (show (-2147483648 : Int) ≤ F2 4 2 ∧ F2 4 2 ≤ 2147483647 from H.frng 4 2) (show F2 4 2 = y7 from (ey8))
  have r16 : (0 : Int) ≤ y9 ∧ y9 ≤ 65536 := rngE (show (0 : Int) ≤ F2 4 8 ∧ F2 4 8 ≤ 65536 from H.frng 4 8) (show F2 4 8 = y9 from (ey10))
  have r17 : (0 : Int) ≤ y11 ∧ y11 ≤ 65536 := rngE (show (0 : Int) ≤ F2 4 9 ∧ F2 4 9 ≤ 65536 from H.frng 4 9) (show F2 4 9 = y11 from (ey12))
  have r18 : (-2147483648 : Int) ≤ y13 ∧ y13 ≤ 2147483647 := rngE (show (-2147483648 : Int) ≤ F2 4 10 ∧ F2 4 10 ≤ 2147483647 from H.frng 4 10) (show F2 4 10 = y13 from (ey14))
  have ha0 : (y9) = 0 := q_1162 pz6_0
  have he0 : (y11) = (u1_1) := q_1163 pz6_0
  have hm0 : (y7) = 0 := q_1164 pz6_0
  refine Ew_of (pcₚ := 5) (fun _ => x_aload_n rfl rfl) ?_
  refine Ew_of (pcₚ := 6) (fun _ => x_iload_n rfl rfl) ?_
  refine w_inv H (o := 4) rfl rfl rfl (H.perm 4 rfl) rfl rfl (by rfl) (M341 H (y7) ((ey8)) (y9) ((ey10)) (y11) ((ey12)) (y13) ((ey14)) (w14) ((funext (hA5 14 rfl)).trans (ew14)) (A 23) (funext (hA5 23 rfl)) (show inr (a1) from h0) (show 0 ≤ (a1) ∧ 0 ≤ (y7) ∧ (y7) + (a1) ≤ 65536 from q_1167 h1 hm0) (show 0 ≤ (y9) ∧ (y9) ≤ (y11) from q_1166 ha0 r16 r17) (show (y13) = 0 from q_1165 pz6_0) (fun σ F19 A20 H hS21 hA22 y24 ey25 y26 ey27 y28 ey29 y30 ey31 wv32 ewv33 pz23_0 pz23_1 pz23_2 pz23_3 pz23_4 pz23_5 => ⟨rfl, ?_⟩))
  have r34 : (-2147483648 : Int) ≤ y24 ∧ y24 ≤ 2147483647 := rngE (show (-2147483648 : Int) ≤ F19 4 2 ∧ F19 4 2 ≤ 2147483647 from H.frng 4 2) (show F19 4 2 = y24 from (ey25))
  have r35 : (0 : Int) ≤ y26 ∧ y26 ≤ 65536 := rngE (show (0 : Int) ≤ F19 4 8 ∧ F19 4 8 ≤ 65536 from H.frng 4 8) (show F19 4 8 = y26 from (ey27))
  have r36 : (-2147483648 : Int) ≤ y28 ∧ y28 ≤ 2147483647 := rngE (show (-2147483648 : Int) ≤ F19 4 10 ∧ F19 4 10 ≤ 2147483647 from H.frng 4 10) (show F19 4 10 = y28 from (ey29))
  have r37 : (-2147483648 : Int) ≤ y30 ∧ y30 ≤ 2147483647 := rngE (show (-2147483648 : Int) ≤ F19 4 11 ∧ F19 4 11 ≤ 2147483647 from H.frng 4 11) (show F19 4 11 = y30 from (ey31))
  have hBf := pz23_3
  have hBy := pz23_4
  rw [ha0, he0] at hBf hBy
  rw [hm0] at hBy
  refine Ew_of (pcₚ := 10) (fun _ => x_aload_n rfl rfl) ?_
  refine w_inv H (o := 4) rfl rfl rfl (H.perm 4 rfl) rfl rfl (by rfl) (M343 H (u1_1) ((((hS21 1 1 rfl).trans (hS4 1 1 rfl)).trans (eu1_1))) (y24) ((ey25)) (y28) ((ey29)) (y30) ((ey31)) (wv32) (ewv33) (show 0 ≤ (y24) ∧ (y24) ≤ 65536 from q_1168 h1 hm0 pz23_1) (show 0 ≤ (y28) ∧ (y28) ≤ 20 from pz23_2) (fun z42 σ F38 A39 H hS40 hA41 y43 ey44 y45 ey46 wv47 ewv48 pz42_0 pz42_1 pz42_2 => ⟨rfl, ?_⟩))
  have r49 : (0 : Int) ≤ y43 ∧ y43 ≤ 65536 := rngE (show (0 : Int) ≤ F38 1 3 ∧ F38 1 3 ≤ 65536 from H.frng 1 3) (show F38 1 3 = y43 from (ey44))
  have r50 : (-2147483648 : Int) ≤ y45 ∧ y45 ≤ 2147483647 := rngE (show (-2147483648 : Int) ≤ F38 1 4 ∧ F38 1 4 ≤ 2147483647 from H.frng 1 4) (show F38 1 4 = y45 from (ey46))
  have hcp := pz42_2
  have hvv := pz42_1
  have : RDG ((w14)) ((u1_1)) ((a1)) ((z42)) ((y45)) ((y43)) ((wv47)) := by rcases (show (y28) = 0 ∨ (y28) ≠ 0 by omega) with z | z; (exact ⟨0, sc ((wv32)) 0 ((y24)), by have h := hBy z; rw [show (y45) = (u1_1) by omega]; exact h, .inl ⟨rfl, by omega, by omega, by rw [show (y43) = (y24) by omega]; exact CPY_sc (hcp z) (by omega) (by omega)⟩⟩); (exact ⟨(y28), [], by have h := hBf z; rw [show (y45) = (y30) by omega]; exact h, .inr ⟨by omega, by omega⟩⟩)
  exact w_ireturn rfl (k (z42) σ _ _ H (SF_trans (SF_trans (SF_trans (SF_refl) hS4 (any_sub rfl)) hS21 (any_sub rfl)) hS40 (any_sub rfl)) (SA_trans (SA_trans (SA_trans (SA_refl) hA5 (any_subA rfl)) hA22 (any_subA rfl)) hA41 (any_subA rfl)) (y43) ((ey44)) (y45) ((ey46)) (wv47) (ewv48) (show inr (z42) from pz42_0) (show RDG ((w14)) ((u1_1)) (a1) ((z42)) ((y45)) ((y43)) ((wv47)) by assumption))

theorem M352 {σ0 σ : rS} {D N : Nat → Nat} {F : hF} {A : hA} {d c s : Nat} {Q : wQ} (H : HS σ0 σ D N F A) {a1 : Int} (u1_1 : Int) (eu1_1 : F 1 1 = u1_1) (w14 : Int → Int) (ew14 : A 14 = w14) (h0 : inr (a1)) (h1 : 0 ≤ (a1) ∧ (a1) ≤ 65536) (k : ∀ (z : Int) σ Fₚ Aₚ, HS σ0 σ D N Fₚ Aₚ → SF [(1, 3), (1, 4), (4, 2), (4, 8), (4, 9), (4, 10), (4, 11)] F Fₚ → SA [15, 23] A Aₚ → ∀ y1_3 : Int, Fₚ 1 3 = y1_3 → ∀ y1_4 : Int, Fₚ 1 4 = y1_4 → ∀ v15 : Int → Int, Aₚ 15 = v15 → (inr (z)) → (RDU ((w14)) ((u1_1)) ((a1)) ((z)) ((y1_4)) ((y1_3)) ((v15))) → Q (some (I z)) σ c s) : Ew 352 (d + 5) 0 (rargs 0 [.ref (D 4), I a1]) [] σ c s Q := by
  have r1 : (0 : Int) ≤ u1_1 ∧ u1_1 ≤ 65536 := rngE (show (0 : Int) ≤ F 1 1 ∧ F 1 1 ≤ 65536 from H.frng 1 1) (show F 1 1 = u1_1 from (eu1_1))
  refine Ew_of (pcₚ := 1) (fun _ => x_aload_n rfl rfl) ?_
  refine w_inv H (o := 4) rfl rfl rfl (H.perm 4 rfl) rfl rfl (by rfl) (M342 H (u1_1) ((eu1_1))  (fun σ F2 A3 H hS4 hA5 y7 ey8 y9 ey10 y11 ey12 y13 ey14 pz6_0 => ⟨rfl, ?_⟩))
  have r15 : (-2147483648 : Int) ≤ y7 ∧ y7 ≤ 2147483647 := rngE (show (-2147483648 : Int) ≤ F2 4 2 ∧ F2 4 2 ≤ 2147483647 from H.frng 4 2) (show F2 4 2 = y7 from (ey8))
  have r16 : (0 : Int) ≤ y9 ∧ y9 ≤ 65536 := rngE (show (0 : Int) ≤ F2 4 8 ∧ F2 4 8 ≤ 65536 from H.frng 4 8) (show F2 4 8 = y9 from (ey10))
  have r17 : (0 : Int) ≤ y11 ∧ y11 ≤ 65536 := rngE (show (0 : Int) ≤ F2 4 9 ∧ F2 4 9 ≤ 65536 from H.frng 4 9) (show F2 4 9 = y11 from (ey12))
  have r18 : (-2147483648 : Int) ≤ y13 ∧ y13 ≤ 2147483647 := rngE (show (-2147483648 : Int) ≤ F2 4 10 ∧ F2 4 10 ≤ 2147483647 from H.frng 4 10) (show F2 4 10 = y13 from (ey14))
  refine Ew_of (pcₚ := 5) (fun _ => x_iconst rfl) ?_
  refine Ew_of (pcₚ := 6) (fun _ => x_istore_n rfl) ?_
  have : IMP ((y13) = 0) (ITO (TUs ((w14)) ((u1_1)) ((a1))) (TUe ((w14)) ((u1_1)) ((a1))) (0, []) ((0 : Int), sc ((A 23)) 0 ((y7)))) := fun _ => by rw [show (y7) = 0 by omega, sc_nil (Int.le_refl 0)]; exact ITO_0
  have r19 : (-2147483648 : Int) ≤ F 4 11 ∧ F 4 11 ≤ 2147483647 := rngE (show (-2147483648 : Int) ≤ F2 4 11 ∧ F2 4 11 ≤ 2147483647 from H.frng 4 11) (show F2 4 11 = F 4 11 from (hS4 4 11 rfl))
  have : IMP ((y13) ≠ 0) (IT (TUs ((w14)) ((u1_1)) ((a1))) (TUe ((w14)) ((u1_1)) ((a1))) (0, []) ((y13), (F 4 11), [])) := fun z => absurd z (by omega)
  suffices hl6 : ∀ (m : Nat), ∀ (ls : rO) (σ : rS) (F_6 : hF) (A_6 : hA) (x6_2 : Int), rlook ls 0 = some (.ref (D 4)) → rlook ls 1 = some (I (a1)) → rlook ls 2 = some (I (x6_2)) → HS σ0 σ D N F_6 A_6 → SF [(4, 2), (4, 8), (4, 9), (4, 10), (4, 11)] F2 F_6 → SA [23] A3 A_6 → ∀ y6_4_2 : Int, F_6 4 2 = y6_4_2 → ∀ y6_4_9 : Int, F_6 4 9 = y6_4_9 → ∀ y6_4_10 : Int, F_6 4 10 = y6_4_10 → ∀ y6_4_11 : Int, F_6 4 11 = y6_4_11 → ∀ w6_23 : Int → Int, A_6 23 = w6_23 → (inr (x6_2)) → (0 ≤ (x6_2) ∧ (x6_2) ≤ (u1_1)) → ((y6_4_9) ≤ (u1_1)) → (0 ≤ (y6_4_2) ∧ (y6_4_2) ≤ (a1)) → (0 ≤ (y6_4_10) ∧ (y6_4_10) ≤ 20) → (IMP ((y6_4_10) = 0) (ITO (TUs ((w14)) ((u1_1)) ((a1))) (TUe ((w14)) ((u1_1)) ((a1))) (0, []) ((x6_2), sc ((w6_23)) 0 ((y6_4_2))))) → (IMP ((y6_4_10) ≠ 0) (IT (TUs ((w14)) ((u1_1)) ((a1))) (TUe ((w14)) ((u1_1)) ((a1))) (0, []) ((y6_4_10), (y6_4_11), []))) → (if (y6_4_10) = 0 then (u1_1) - (x6_2) + 1 else 0).toNat = m → Ew 352 (d + 5) 6 ls [] σ c s Q from
    hl6 _ _ σ _ _ (0) (rk_o (rfl) rfl rfl) (rk_o (rfl) rfl rfl) (rk_s) H (SF_refl) (SA_refl) (y7) ((ey8)) (y11) ((ey12)) (y13) ((ey14)) (F 4 11) ((hS4 4 11 rfl)) (A 23) (funext (hA5 23 rfl)) (show inr (0) from q_2) (show 0 ≤ (0) ∧ (0) ≤ (u1_1) from q_1172 r1) (show (y11) ≤ (u1_1) from q_1171 pz6_0) (show 0 ≤ (y7) ∧ (y7) ≤ (a1) from q_1170 h1 pz6_0) (show 0 ≤ (y13) ∧ (y13) ≤ 20 from q_1169 pz6_0) (show IMP ((y13) = 0) (ITO (TUs ((w14)) ((u1_1)) ((a1))) (TUe ((w14)) ((u1_1)) ((a1))) (0, []) ((0), sc ((A 23)) 0 ((y7)))) by assumption) (show IMP ((y13) ≠ 0) (IT (TUs ((w14)) ((u1_1)) ((a1))) (TUe ((w14)) ((u1_1)) ((a1))) (0, []) ((y13), (F 4 11), [])) by assumption) rfl
  as_aux_lemma =>
  intro m
  induction m using Nat.strongRecOn with
  | _ m ih6 =>
    intro ls σ F_6 A_6 x6_2 l6_0 l6_1 l6_2 H hS_6 hA_6 y6_4_2 ey6_4_2 y6_4_9 ey6_4_9 y6_4_10 ey6_4_10 y6_4_11 ey6_4_11 w6_23 ew6_23 j6_0 j6_1 j6_2 j6_3 j6_4 j6_5 j6_6 hm6
    have r20 : (-2147483648 : Int) ≤ y6_4_2 ∧ y6_4_2 ≤ 2147483647 := rngE (show (-2147483648 : Int) ≤ F_6 4 2 ∧ F_6 4 2 ≤ 2147483647 from H.frng 4 2) (show F_6 4 2 = y6_4_2 from (ey6_4_2))
    have r21 : (0 : Int) ≤ y6_4_9 ∧ y6_4_9 ≤ 65536 := rngE (show (0 : Int) ≤ F_6 4 9 ∧ F_6 4 9 ≤ 65536 from H.frng 4 9) (show F_6 4 9 = y6_4_9 from (ey6_4_9))
    have r22 : (-2147483648 : Int) ≤ y6_4_10 ∧ y6_4_10 ≤ 2147483647 := rngE (show (-2147483648 : Int) ≤ F_6 4 10 ∧ F_6 4 10 ≤ 2147483647 from H.frng 4 10) (show F_6 4 10 = y6_4_10 from (ey6_4_10))
    have r23 : (-2147483648 : Int) ≤ y6_4_11 ∧ y6_4_11 ≤ 2147483647 := rngE (show (-2147483648 : Int) ≤ F_6 4 11 ∧ F_6 4 11 ≤ 2147483647 from H.frng 4 11) (show F_6 4 11 = y6_4_11 from (ey6_4_11))
    have j6_i : IMP ((y6_4_10) = 0) (ITO (TUs ((w14)) ((u1_1)) ((a1))) (TUe ((w14)) ((u1_1)) ((a1))) (0, []) ((x6_2), sc ((w6_23)) 0 ((y6_4_2)))) := by assumption
    have j6_e : IMP ((y6_4_10) ≠ 0) (IT (TUs ((w14)) ((u1_1)) ((a1))) (TUe ((w14)) ((u1_1)) ((a1))) (0, []) ((y6_4_10), (y6_4_11), [])) := by assumption
    refine Ew_of (pcₚ := 7) (fun _ => x_aload_n rfl l6_0) ?_
    refine w_gI H (o := 4) (w := y6_4_10) rfl (H.perm 4 rfl) rfl rfl rfl (fun _ => rfl) (ey6_4_10) ?_
    refine w_ifne (t := 54) rfl rfl (show inr (y6_4_10) from q_1068 j6_4) (fun b24 => ?_) (fun b24 => ?_)
    · obtain ⟨qf, hqf⟩ : ∃ q : Int, q = (y6_4_10) := ⟨_, rfl⟩
      obtain ⟨ql, hql⟩ : ∃ q : Int, q = (y6_4_2) := ⟨_, rfl⟩
      refine Ew_of (pcₚ := 55) (fun _ => x_aload_n rfl l6_0) ?_
      refine w_inv H (o := 4) rfl rfl rfl (H.perm 4 rfl) rfl rfl (by rfl) (M343 H (u1_1) ((((hS_6 1 1 rfl).trans (hS4 1 1 rfl)).trans (eu1_1))) (y6_4_2) ((ey6_4_2)) (y6_4_10) ((ey6_4_10)) (y6_4_11) ((ey6_4_11)) (w6_23) (ew6_23) (show 0 ≤ (y6_4_2) ∧ (y6_4_2) ≤ 65536 from q_1173 h1 j6_3) (show 0 ≤ (y6_4_10) ∧ (y6_4_10) ≤ 20 from j6_4) (fun z29 σ F25 A26 H hS27 hA28 y30 ey31 y32 ey33 wv34 ewv35 pz29_0 pz29_1 pz29_2 => ⟨rfl, ?_⟩))
      have r36 : (0 : Int) ≤ y30 ∧ y30 ≤ 65536 := rngE (show (0 : Int) ≤ F25 1 3 ∧ F25 1 3 ≤ 65536 from H.frng 1 3) (show F25 1 3 = y30 from (ey31))
      have r37 : (-2147483648 : Int) ≤ y32 ∧ y32 ≤ 2147483647 := rngE (show (-2147483648 : Int) ≤ F25 1 4 ∧ F25 1 4 ≤ 2147483647 from H.frng 1 4) (show F25 1 4 = y32 from (ey33))
      have hcp := pz29_2
      have hvv := pz29_1
      have : RDU ((w14)) ((u1_1)) ((a1)) ((z29)) ((y32)) ((y30)) ((wv34)) := by rcases (show (y6_4_10) = 0 ∨ (y6_4_10) ≠ 0 from q_1174 b24) with z | z; (exact ⟨0, sc ((w6_23)) 0 ((y6_4_2)), by have h := ITO_e (j6_i z) (TUe_0 (by omega) rfl rfl); rw [show (y32) = (u1_1) by omega]; exact h, .inl ⟨rfl, by omega, by omega, by rw [show (y30) = (y6_4_2) by omega]; exact CPY_sc (hcp z) (by omega) (by omega)⟩⟩); (exact ⟨(y6_4_10), [], by have h := j6_e z; rw [show (y32) = (y6_4_11) by omega]; exact h, .inr ⟨by omega, by omega⟩⟩)
      exact w_ireturn rfl (k (z29) σ _ _ H (SF_trans (SF_trans (SF_trans (SF_refl) hS4 (any_sub rfl)) hS_6 (any_sub rfl)) hS27 (any_sub rfl)) (SA_trans (SA_trans (SA_trans (SA_refl) hA5 (any_subA rfl)) hA_6 (any_subA rfl)) hA28 (any_subA rfl)) (y30) ((ey31)) (y32) ((ey33)) (wv34) (ewv35) (show inr (z29) from pz29_0) (show RDU ((w14)) ((u1_1)) (a1) ((z29)) ((y32)) ((y30)) ((wv34)) by assumption))
    · refine Ew_of (pcₚ := 14) (fun _ => x_iload_n rfl l6_2) ?_
      refine Ew_of (pcₚ := 15) (fun _ => x_aload_n rfl l6_0) ?_
      refine w_gT H (o := 4) (t := 1) rfl (H.perm 4 rfl) rfl rfl rfl rfl rfl rfl ?_
      refine w_gI H (o := 1) (w := u1_1) rfl (H.perm 1 rfl) rfl rfl rfl (fun _ => rfl) (((hS_6 1 1 rfl).trans (hS4 1 1 rfl)).trans (eu1_1)) ?_
      refine w_icmpge (t := 54) rfl rfl (show inr (x6_2) from j6_0) (show inr (u1_1) from q_286 r1) (fun b38 => ?_) (fun b38 => ?_)
      · obtain ⟨qf, hqf⟩ : ∃ q : Int, q = (y6_4_10) := ⟨_, rfl⟩
        obtain ⟨ql, hql⟩ : ∃ q : Int, q = (y6_4_2) := ⟨_, rfl⟩
        refine Ew_of (pcₚ := 55) (fun _ => x_aload_n rfl l6_0) ?_
        refine w_inv H (o := 4) rfl rfl rfl (H.perm 4 rfl) rfl rfl (by rfl) (M343 H (u1_1) ((((hS_6 1 1 rfl).trans (hS4 1 1 rfl)).trans (eu1_1))) (y6_4_2) ((ey6_4_2)) (y6_4_10) ((ey6_4_10)) (y6_4_11) ((ey6_4_11)) (w6_23) (ew6_23) (show 0 ≤ (y6_4_2) ∧ (y6_4_2) ≤ 65536 from q_1173 h1 j6_3) (show 0 ≤ (y6_4_10) ∧ (y6_4_10) ≤ 20 from j6_4) (fun z43 σ F39 A40 H hS41 hA42 y44 ey45 y46 ey47 wv48 ewv49 pz43_0 pz43_1 pz43_2 => ⟨rfl, ?_⟩))
        have r50 : (0 : Int) ≤ y44 ∧ y44 ≤ 65536 := rngE (show (0 : Int) ≤ F39 1 3 ∧ F39 1 3 ≤ 65536 from H.frng 1 3) (show F39 1 3 = y44 from (ey45))
        have r51 : (-2147483648 : Int) ≤ y46 ∧ y46 ≤ 2147483647 := rngE (show (-2147483648 : Int) ≤ F39 1 4 ∧ F39 1 4 ≤ 2147483647 from H.frng 1 4) (show F39 1 4 = y46 from (ey47))
        have hcp := pz43_2
        have hvv := pz43_1
        have : RDU ((w14)) ((u1_1)) ((a1)) ((z43)) ((y46)) ((y44)) ((wv48)) := by rcases (show (y6_4_10) = 0 ∨ (y6_4_10) ≠ 0 from q_1175 b24) with z | z; (exact ⟨0, sc ((w6_23)) 0 ((y6_4_2)), by have h := ITO_e (j6_i z) (TUe_0 (by omega) rfl rfl); rw [show (y46) = (u1_1) by omega]; exact h, .inl ⟨rfl, by omega, by omega, by rw [show (y44) = (y6_4_2) by omega]; exact CPY_sc (hcp z) (by omega) (by omega)⟩⟩); (exact ⟨(y6_4_10), [], by have h := j6_e z; rw [show (y46) = (y6_4_11) by omega]; exact h, .inr ⟨by omega, by omega⟩⟩)
        exact w_ireturn rfl (k (z43) σ _ _ H (SF_trans (SF_trans (SF_trans (SF_refl) hS4 (any_sub rfl)) hS_6 (any_sub rfl)) hS41 (any_sub rfl)) (SA_trans (SA_trans (SA_trans (SA_refl) hA5 (any_subA rfl)) hA_6 (any_subA rfl)) hA42 (any_subA rfl)) (y44) ((ey45)) (y46) ((ey47)) (wv48) (ewv49) (show inr (z43) from pz43_0) (show RDU ((w14)) ((u1_1)) (a1) ((z43)) ((y46)) ((y44)) ((wv48)) by assumption))
      · have hito := j6_i (by omega)
        refine Ew_of (pcₚ := 25) (fun _ => x_aload_n rfl l6_0) ?_
        refine Ew_of (pcₚ := 26) (fun _ => x_iload_n rfl l6_2) ?_
        refine w_inv H (o := 4) rfl rfl rfl (H.perm 4 rfl) rfl rfl (by rfl) (M349 H (w14) ((funext (hA_6 14 rfl)).trans ((funext (hA5 14 rfl)).trans (ew14))) (show inr (x6_2) from j6_0) (show 0 ≤ (x6_2) ∧ (x6_2) < 65536 from q_1176 b38 j6_1 r1) (fun z56 σ F52 A53 H hS54 hA55 pz56_0 pz56_1 pz56_2 => ⟨rfl, ?_⟩))
        have : ((w14)) ((x6_2)) = (z56) := pz56_2.symm
        refine Ew_of (pcₚ := 30) (fun _ => x_istore_n rfl) ?_
        refine Ew_of (pcₚ := 31) (fun _ => x_aload_n rfl (rk_o (l6_0) rfl rfl)) ?_
        refine Ew_of (pcₚ := 32) (fun _ => x_iload_n rfl (rk_o (l6_2) rfl rfl)) ?_
        refine Ew_of (pcₚ := 33) (fun _ => x_iload_n rfl rk_s) ?_
        refine w_inv H (o := 4) rfl rfl rfl (H.perm 4 rfl) rfl rfl (by rfl) (M350 H (u1_1) (((((hS54 1 1 rfl).trans (hS_6 1 1 rfl)).trans (hS4 1 1 rfl)).trans (eu1_1))) (y6_4_9) (((hS54 4 9 rfl).trans (ey6_4_9))) (y6_4_10) (((hS54 4 10 rfl).trans (ey6_4_10))) (w14) ((funext (hA55 14 rfl)).trans ((funext (hA_6 14 rfl)).trans ((funext (hA5 14 rfl)).trans (ew14)))) (show inr (x6_2) from j6_0) (show inr (z56) from pz56_0) (show 0 ≤ (x6_2) ∧ (x6_2) < (u1_1) ∧ 0 ≤ (z56) ∧ (z56) ≤ 255 from q_1177 b38 j6_1 pz56_1) (show (y6_4_10) = 0 from b24) (show (y6_4_9) ≤ (u1_1) from j6_2) (show ((w14)) ((x6_2)) = (z56) by assumption) (fun z61 σ F57 A58 H hS59 hA60 y62 ey63 y64 ey65 y66 ey67 pz61_0 pz61_1 pz61_2 pz61_3 pz61_4 pz61_5 pz61_6 => ⟨rretB rfl pz61_0, ?_⟩))
        have r68 : (0 : Int) ≤ y62 ∧ y62 ≤ 65536 := rngE (show (0 : Int) ≤ F57 4 9 ∧ F57 4 9 ≤ 65536 from H.frng 4 9) (show F57 4 9 = y62 from (ey63))
        have r69 : (-2147483648 : Int) ≤ y64 ∧ y64 ≤ 2147483647 := rngE (show (-2147483648 : Int) ≤ F57 4 10 ∧ F57 4 10 ≤ 2147483647 from H.frng 4 10) (show F57 4 10 = y64 from (ey65))
        have r70 : (-2147483648 : Int) ≤ y66 ∧ y66 ≤ 2147483647 := rngE (show (-2147483648 : Int) ≤ F57 4 11 ∧ F57 4 11 ≤ 2147483647 from H.frng 4 11) (show F57 4 11 = y66 from (ey67))
        have hc46 : ∀ (ls : rO) (σ : rS) (F_c46 : hF) (A_c46 : hA) , rlook ls 0 = some (.ref (D 4)) → rlook ls 1 = some (I (a1)) → HS σ0 σ D N F_c46 A_c46 → SF [(4, 2), (4, 8), (4, 10), (4, 11)] F57 F_c46 → SA [23] A58 A_c46 → ∀ yc46_4_2 : Int, F_c46 4 2 = yc46_4_2 → ∀ yc46_4_10 : Int, F_c46 4 10 = yc46_4_10 → ∀ yc46_4_11 : Int, F_c46 4 11 = yc46_4_11 → ∀ wc46_23 : Int → Int, A_c46 23 = wc46_23 → ((yc46_4_10) ≠ 0 ∨ (x6_2) + 4 ≤ (y62) ∧ (y62) ≤ (u1_1)) → (0 ≤ (yc46_4_2) ∧ (yc46_4_2) ≤ (a1)) → (0 ≤ (y62) ∧ (y62) ≤ (u1_1)) → (0 ≤ (yc46_4_10) ∧ (yc46_4_10) ≤ 20) → (IMP ((yc46_4_10) = 0) (ITO (TUs ((w14)) ((u1_1)) ((a1))) (TUe ((w14)) ((u1_1)) ((a1))) (0, []) ((y62), sc ((wc46_23)) 0 ((yc46_4_2))))) → (IMP ((yc46_4_10) ≠ 0) (IT (TUs ((w14)) ((u1_1)) ((a1))) (TUe ((w14)) ((u1_1)) ((a1))) (0, []) ((yc46_4_10), (yc46_4_11), []))) → Ew 352 (d + 5) 46 ls [] σ c s Q := by
         as_aux_lemma =>
          intro  ls σ F_c46 A_c46  lc46_0 lc46_1 H hS_c46 hA_c46 yc46_4_2 eyc46_4_2 yc46_4_10 eyc46_4_10 yc46_4_11 eyc46_4_11 wc46_23 ewc46_23 jc46_0 jc46_1 jc46_2 jc46_3 jc46_4 jc46_5
          have r71 : (-2147483648 : Int) ≤ yc46_4_2 ∧ yc46_4_2 ≤ 2147483647 := rngE (show (-2147483648 : Int) ≤ F_c46 4 2 ∧ F_c46 4 2 ≤ 2147483647 from H.frng 4 2) (show F_c46 4 2 = yc46_4_2 from (eyc46_4_2))
          have r72 : (-2147483648 : Int) ≤ yc46_4_10 ∧ yc46_4_10 ≤ 2147483647 := rngE (show (-2147483648 : Int) ≤ F_c46 4 10 ∧ F_c46 4 10 ≤ 2147483647 from H.frng 4 10) (show F_c46 4 10 = yc46_4_10 from (eyc46_4_10))
          have r73 : (-2147483648 : Int) ≤ yc46_4_11 ∧ yc46_4_11 ≤ 2147483647 := rngE (show (-2147483648 : Int) ≤ F_c46 4 11 ∧ F_c46 4 11 ≤ 2147483647 from H.frng 4 11) (show F_c46 4 11 = yc46_4_11 from (eyc46_4_11))
          refine Ew_of (pcₚ := 47) (fun _ => x_aload_n rfl lc46_0) ?_
          refine w_gI H (o := 4) (w := y62) rfl (H.perm 4 rfl) rfl rfl rfl (fun _ => rfl) ((hS_c46 4 9 rfl).trans (ey63)) ?_
          refine Ew_of (pcₚ := 51) (fun _ => x_istore_n rfl) ?_
          refine Ew_of (pcₚ := 6) (fun _ => x_goto rfl rfl) ?_
          exact ih6 _ (by omega) _ σ _ _ (y62) (rk_o (lc46_0) rfl rfl) (rk_o (lc46_1) rfl rfl) (rk_s) H (SF_trans (SF_trans (SF_trans (hS_6) hS54 (any_sub rfl)) hS59 (any_sub rfl)) hS_c46 (any_sub rfl)) (SA_trans (SA_trans (SA_trans (hA_6) hA55 (any_subA rfl)) hA60 (any_subA rfl)) hA_c46 (any_subA rfl)) (yc46_4_2) ((eyc46_4_2)) (y62) (((hS_c46 4 9 rfl).trans (ey63))) (yc46_4_10) ((eyc46_4_10)) (yc46_4_11) ((eyc46_4_11)) (wc46_23) (ewc46_23) (show inr (y62) from q_1178 jc46_2 r68) (show 0 ≤ (y62) ∧ (y62) ≤ (u1_1) from jc46_2) (show (y62) ≤ (u1_1) from pz61_1) (show 0 ≤ (yc46_4_2) ∧ (yc46_4_2) ≤ (a1) from jc46_1) (show 0 ≤ (yc46_4_10) ∧ (yc46_4_10) ≤ 20 from jc46_3) (jc46_4) (jc46_5) rfl
        have ho0 := pz61_5
        have ho1 := pz61_6
        obtain ⟨qo, hqo⟩ : ∃ q : Int, q = (z61) := ⟨_, rfl⟩
        rw [← hqo] at ho0 ho1
        refine w_ifeq (t := 46) rfl rfl (show inr (z61) from q_138 pz61_0) (fun b74 => ?_) (fun b74 => ?_)
        · have : IMP ((y64) = 0) (ITO (TUs ((w14)) ((u1_1)) ((a1))) (TUe ((w14)) ((u1_1)) ((a1))) (0, []) ((y62), sc ((w6_23)) 0 ((y6_4_2)))) := by first | exact fun z => ITO_s hito (pzMISS_3 z) | exact fun z => absurd z (by omega)
          have : IMP ((y64) ≠ 0) (IT (TUs ((w14)) ((u1_1)) ((a1))) (TUe ((w14)) ((u1_1)) ((a1))) (0, []) ((y64), (y66), [])) := by first | exact fun z => ITO_e hito (pzMISS_2 z) | (intro z; obtain ⟨zz, hz⟩ := ho0 (by omega); exact ITO_e hito (TUe_h (by omega) hz z))
          exact hc46  _ σ _ _  (rk_o (l6_0) rfl rfl) (rk_o (l6_1) rfl rfl) H (SF_refl) (SA_refl) (y6_4_2) ((((hS59 4 2 rfl).trans (hS54 4 2 rfl)).trans (ey6_4_2))) (y64) ((ey65)) (y66) ((ey67)) (w6_23) ((funext (hA60 23 rfl)).trans ((funext (hA55 23 rfl)).trans (ew6_23))) (show (y64) ≠ 0 ∨ (x6_2) + 4 ≤ (y62) ∧ (y62) ≤ (u1_1) by omega) (show 0 ≤ (y6_4_2) ∧ (y6_4_2) ≤ (a1) from j6_3) (show 0 ≤ (y62) ∧ (y62) ≤ (u1_1) from q_1179 pz61_1 r68) (show 0 ≤ (y64) ∧ (y64) ≤ 20 from pz61_4) (show IMP ((y64) = 0) (ITO (TUs ((w14)) ((u1_1)) ((a1))) (TUe ((w14)) ((u1_1)) ((a1))) (0, []) ((y62), sc ((w6_23)) 0 ((y6_4_2)))) by assumption) (show IMP ((y64) ≠ 0) (IT (TUs ((w14)) ((u1_1)) ((a1))) (TUe ((w14)) ((u1_1)) ((a1))) (0, []) ((y64), (y66), [])) by assumption)
        · have : TUh ((w14)) ((u1_1)) ((x6_2)) 0 0 ((z56)) ((y62) - (x6_2) - 4) := ho1 (by omega)
          refine Ew_of (pcₚ := 40) (fun _ => x_aload_n rfl (rk_o (l6_0) rfl rfl)) ?_
          refine Ew_of (pcₚ := 41) (fun _ => x_iload_n rfl (rk_o (l6_2) rfl rfl)) ?_
          refine Ew_of (pcₚ := 42) (fun _ => x_iload_n rfl rk_s) ?_
          refine Ew_of (pcₚ := 43) (fun _ => x_iload_n rfl (rk_o (l6_1) rfl rfl)) ?_
          refine w_inv H (o := 4) rfl rfl rfl (H.perm 4 rfl) rfl rfl (by rfl) (M351 H (u1_1) ((((((hS59 1 1 rfl).trans (hS54 1 1 rfl)).trans (hS_6 1 1 rfl)).trans (hS4 1 1 rfl)).trans (eu1_1))) (y6_4_2) ((((hS59 4 2 rfl).trans (hS54 4 2 rfl)).trans (ey6_4_2))) (y62) ((ey63)) (y64) ((ey65)) (w14) ((funext (hA60 14 rfl)).trans ((funext (hA55 14 rfl)).trans ((funext (hA_6 14 rfl)).trans ((funext (hA5 14 rfl)).trans (ew14))))) (w6_23) ((funext (hA60 23 rfl)).trans ((funext (hA55 23 rfl)).trans (ew6_23))) (show inr (x6_2) from j6_0) (show inr (z56) from pz56_0) (show inr (a1) from h0) (show 0 ≤ (x6_2) ∧ (x6_2) < (u1_1) ∧ 0 ≤ (z56) ∧ (z56) ≤ 255 from q_1177 b38 j6_1 pz56_1) (show (y64) = 0 from q_1181 b74 pz61_0 pz61_2 pz61_4) (show (x6_2) + 4 ≤ (y62) ∧ (y62) ≤ (u1_1) ∧ ((z56) ≤ 1 → (x6_2) + 8 ≤ (y62)) by omega) (show 0 ≤ (y6_4_2) ∧ (y6_4_2) ≤ (a1) ∧ (a1) ≤ 65536 from q_1180 h1 j6_3) (show TUh ((w14)) ((u1_1)) ((x6_2)) 0 0 ((z56)) ((y62) - (x6_2) - 4) by assumption) (fun σ F75 A76 H hS77 hA78 y80 ey81 y82 ey83 y84 ey85 wv86 ewv87 pz79_0 pz79_1 pz79_2 pz79_3 => ⟨rfl, ?_⟩))
          have r88 : (-2147483648 : Int) ≤ y80 ∧ y80 ≤ 2147483647 := rngE (show (-2147483648 : Int) ≤ F75 4 2 ∧ F75 4 2 ≤ 2147483647 from H.frng 4 2) (show F75 4 2 = y80 from (ey81))
          have r89 : (-2147483648 : Int) ≤ y82 ∧ y82 ≤ 2147483647 := rngE (show (-2147483648 : Int) ≤ F75 4 10 ∧ F75 4 10 ≤ 2147483647 from H.frng 4 10) (show F75 4 10 = y82 from (ey83))
          have r90 : (-2147483648 : Int) ≤ y84 ∧ y84 ≤ 2147483647 := rngE (show (-2147483648 : Int) ≤ F75 4 11 ∧ F75 4 11 ≤ 2147483647 from H.frng 4 11) (show F75 4 11 = y84 from (ey85))
          have : IMP ((y82) = 0) (ITO (TUs ((w14)) ((u1_1)) ((a1))) (TUe ((w14)) ((u1_1)) ((a1))) (0, []) ((y62), sc ((wv86)) 0 ((y80)))) := by first | exact fun z => ITO_s hito (pz79_3 z) | exact fun z => absurd z (by omega)
          have : IMP ((y82) ≠ 0) (IT (TUs ((w14)) ((u1_1)) ((a1))) (TUe ((w14)) ((u1_1)) ((a1))) (0, []) ((y82), (y84), [])) := by first | exact fun z => ITO_e hito (pz79_2 z) | (intro z; obtain ⟨zz, hz⟩ := ho0 (by omega); exact ITO_e hito (TUe_h (by omega) hz z))
          exact hc46  _ σ _ _  (rk_o (l6_0) rfl rfl) (rk_o (l6_1) rfl rfl) H (SF_trans (SF_refl) hS77 (any_sub rfl)) (SA_trans (SA_refl) hA78 (any_subA rfl)) (y80) ((ey81)) (y82) ((ey83)) (y84) ((ey85)) (wv86) (ewv87) (show (y82) ≠ 0 ∨ (x6_2) + 4 ≤ (y62) ∧ (y62) ≤ (u1_1) from q_1182 b74 pz61_0 pz61_1 pz61_2) (show 0 ≤ (y80) ∧ (y80) ≤ (a1) from pz79_0) (show 0 ≤ (y62) ∧ (y62) ≤ (u1_1) from q_1179 pz61_1 r68) (show 0 ≤ (y82) ∧ (y82) ≤ 20 from pz79_1) (show IMP ((y82) = 0) (ITO (TUs ((w14)) ((u1_1)) ((a1))) (TUe ((w14)) ((u1_1)) ((a1))) (0, []) ((y62), sc ((wv86)) 0 ((y80)))) by assumption) (show IMP ((y82) ≠ 0) (IT (TUs ((w14)) ((u1_1)) ((a1))) (TUe ((w14)) ((u1_1)) ((a1))) (0, []) ((y82), (y84), [])) by assumption)

theorem M347 {σ0 σ : rS} {D N : Nat → Nat} {F : hF} {A : hA} {d c s : Nat} {Q : wQ} (H : HS σ0 σ D N F A) {a1 a2 a3 : Int} (u4_2 : Int) (eu4_2 : F 4 2 = u4_2) (u4_5 : Int) (eu4_5 : F 4 5 = u4_5) (w14 : Int → Int) (ew14 : A 14 = w14) (w23 : Int → Int) (ew23 : A 23 = w23) (w24 : Int → Int) (ew24 : A 24 = w24) (w25 : Int → Int) (ew25 : A 25 = w25) (h0 : inr (a1)) (h1 : inr (a2)) (h2 : inr (a3)) (h3 : 0 ≤ (a1) ∧ (a1) ≤ (a2) ∧ (a2) ≤ 16384) (h4 : 0 ≤ (a3) ∧ (a3) ≤ 3) (h5 : 0 ≤ (u4_2) ∧ (u4_2) ≤ 7000000) (h6 : KQ bN ((w24)) ((u4_5))) (h7 : KQ bF ((w25)) ((u4_5))) (k : ∀ σ Fₚ Aₚ, HS σ0 σ D N Fₚ Aₚ → SF [(4, 2), (4, 5), (4, 6), (4, 7)] F Fₚ → SA [23, 24, 25] A Aₚ → ∀ y4_2 : Int, Fₚ 4 2 = y4_2 → ∀ y4_5 : Int, Fₚ 4 5 = y4_5 → ∀ v23 : Int → Int, Aₚ 23 = v23 → ∀ v24 : Int → Int, Aₚ 24 = v24 → ∀ v25 : Int → Int, Aₚ 25 = v25 → (KQ bN ((v24)) ((y4_5))) → (KQ bF ((v25)) ((y4_5))) → ((u4_2) ≤ (y4_2) ∧ (y4_2) ≤ (u4_2) + 10 * ((a2) - (a1)) + 28) → (PRW 70000 ((a3)) (sc ((w14)) ((a1)) ((a2))) ((w23)) ((u4_2)) ((v23)) ((y4_2))) → Q none σ c s) : Ew 347 (d + 5) 0 (rargs 0 [.ref (D 4), I a1, I a2, I a3]) [] σ c s Q := by
  have r1 : (-2147483648 : Int) ≤ u4_2 ∧ u4_2 ≤ 2147483647 := rngE (show (-2147483648 : Int) ≤ F 4 2 ∧ F 4 2 ≤ 2147483647 from H.frng 4 2) (show F 4 2 = u4_2 from (eu4_2))
  have r2 : (0 : Int) ≤ u4_5 ∧ u4_5 ≤ 16384 := rngE (show (0 : Int) ≤ F 4 5 ∧ F 4 5 ≤ 16384 from H.frng 4 5) (show F 4 5 = u4_5 from (eu4_5))
  refine Ew_of (pcₚ := 1) (fun _ => x_aload_n rfl rfl) ?_
  refine w_gI H (o := 4) (w := u4_2) rfl (H.perm 4 rfl) rfl rfl rfl (fun _ => rfl) (eu4_2) ?_
  refine Ew_of (pcₚ := 6) (fun _ => x_istore rfl) ?_
  refine Ew_of (pcₚ := 7) (fun _ => x_aload_n rfl (rk_o (rfl) rfl rfl)) ?_
  refine Ew_of (pcₚ := 8) (fun _ => x_iconst rfl) ?_
  refine Ew_of (pcₚ := 9) (fun _ => x_iconst rfl) ?_
  refine w_inv H (o := 4) rfl rfl rfl (H.perm 4 rfl) rfl rfl (by rfl) (M321 H (u4_2) ((eu4_2)) (w23) (ew23) (show inr (0) from q_2) (show inr (4) from q_216) (show 0 ≤ (4) ∧ (4) ≤ 4 from q_1183) (show 0 ≤ (u4_2) ∧ (u4_2) ≤ 10000000 by omega) (fun σ F3 A4 H hS5 hA6 y8 ey9 wv10 ewv11 pz7_0 pz7_1 pz7_2 => ⟨rfl, ?_⟩))
  have r12 : (-2147483648 : Int) ≤ y8 ∧ y8 ≤ 2147483647 := rngE (show (-2147483648 : Int) ≤ F3 4 2 ∧ F3 4 2 ≤ 2147483647 from H.frng 4 2) (show F3 4 2 = y8 from (ey9))
  have h1_ := pz7_1
  refine Ew_of (pcₚ := 13) (fun _ => x_aload_n rfl (rk_o (rfl) rfl rfl)) ?_
  refine Ew_of (pcₚ := 14) (fun _ => x_aload_n rfl (rk_o (rfl) rfl rfl)) ?_
  refine w_gT H (o := 4) (t := 1) rfl (H.perm 4 rfl) rfl rfl rfl rfl rfl rfl ?_
  refine w_gT H (o := 1) (t := 14) rfl (H.perm 1 rfl) rfl rfl rfl rfl rfl rfl ?_
  refine Ew_of (pcₚ := 21) (fun _ => x_iload_n rfl (rk_o (rfl) rfl rfl)) ?_
  refine Ew_of (pcₚ := 22) (fun _ => x_iload_n rfl (rk_o (rfl) rfl rfl)) ?_
  refine w_stat24 rfl rfl (by rfl) (M345_14 H (w14) ((funext (hA6 14 rfl)).trans (ew14)) (show inr (a1) from h0) (show inr (a2) from h1) (show 0 ≤ (a1) ∧ (a1) ≤ (a2) ∧ (a2) ≤ 65536 from q_1184 h3) (fun z17 σ F13 A14 H hS15 hA16 pz17_0 pz17_1 => ⟨rfl, ?_⟩))
  have hsm : (z17) = MSK (PLS (sc ((w14)) ((a1)) ((a2)))) := by rw [pz17_1, POL_L (b := (a2)) (by omega) (by omega)]; rw [MSK_e]; rfl
  refine Ew_of (pcₚ := 26) (fun _ => x_iconst rfl) ?_
  refine w_inv H (o := 4) rfl rfl rfl (H.perm 4 rfl) rfl rfl (by rfl) (M321 H (y8) (((hS15 4 2 rfl).trans (ey9))) (wv10) ((funext (hA16 23 rfl)).trans (ewv11)) (show inr (z17) from pz17_0) (show inr (4) from q_216) (show 0 ≤ (4) ∧ (4) ≤ 4 from q_1183) (show 0 ≤ (y8) ∧ (y8) ≤ 10000000 by omega) (fun σ F18 A19 H hS20 hA21 y23 ey24 wv25 ewv26 pz22_0 pz22_1 pz22_2 => ⟨rfl, ?_⟩))
  have r27 : (-2147483648 : Int) ≤ y23 ∧ y23 ≤ 2147483647 := rngE (show (-2147483648 : Int) ≤ F18 4 2 ∧ F18 4 2 ≤ 2147483647 from H.frng 4 2) (show F18 4 2 = y23 from (ey24))
  have h2_ := pz22_1
  rw [hsm] at h2_
  refine Ew_of (pcₚ := 30) (fun _ => x_aload_n rfl (rk_o (rfl) rfl rfl)) ?_
  refine Ew_of (pcₚ := 31) (fun _ => x_iload_n rfl (rk_o (rfl) rfl rfl)) ?_
  refine Ew_of (pcₚ := 32) (fun _ => x_iload_n rfl (rk_o (rfl) rfl rfl)) ?_
  refine Ew_of (pcₚ := 33) (fun _ => x_iload_n rfl (rk_o (rfl) rfl rfl)) ?_
  refine w_inv H (o := 4) rfl rfl rfl (H.perm 4 rfl) rfl rfl (by rfl) (M333 H (y23) ((ey24)) (u4_5) (((((hS20 4 5 rfl).trans (hS15 4 5 rfl)).trans (hS5 4 5 rfl)).trans (eu4_5))) (w14) ((funext (hA21 14 rfl)).trans ((funext (hA16 14 rfl)).trans ((funext (hA6 14 rfl)).trans (ew14)))) (wv25) (ewv26) (w24) ((funext (hA21 24 rfl)).trans ((funext (hA16 24 rfl)).trans ((funext (hA6 24 rfl)).trans (ew24)))) (w25) ((funext (hA21 25 rfl)).trans ((funext (hA16 25 rfl)).trans ((funext (hA6 25 rfl)).trans (ew25)))) (show inr (a1) from h0) (show inr (a2) from h1) (show inr (a3) from h2) (show 0 ≤ (a1) ∧ (a1) ≤ (a2) ∧ (a2) ≤ 16384 from h3) (show 0 ≤ (a3) ∧ (a3) ≤ 3 from h4) (show 0 ≤ (y23) ∧ (y23) ≤ 8000000 from q_1185 h5 pz22_0 pz7_0 r27) (h6) (show KQ bF ((w25)) ((u4_5)) by assumption) (fun σ F28 A29 H hS30 hA31 y33 ey34 y35 ey36 wv37 ewv38 wv39 ewv40 wv41 ewv42 pz32_0 pz32_1 pz32_2 pz32_3 => ⟨rfl, ?_⟩))
  have r43 : (-2147483648 : Int) ≤ y33 ∧ y33 ≤ 2147483647 := rngE (show (-2147483648 : Int) ≤ F28 4 2 ∧ F28 4 2 ≤ 2147483647 from H.frng 4 2) (show F28 4 2 = y33 from (ey34))
  have r44 : (0 : Int) ≤ y35 ∧ y35 ≤ 16384 := rngE (show (0 : Int) ≤ F28 4 5 ∧ F28 4 5 ≤ 16384 from H.frng 4 5) (show F28 4 5 = y35 from (ey36))
  have hBd : ∀ i, (0 : Int) ≤ (w14) i ∧ (w14) i ≤ 255 := fun i => by have h1 : (0 : Int) ≤ A29 14 i ∧ A29 14 i ≤ 255 := H.arng 14 i; rw [show A29 14 = w14 from (funext (hA31 14 rfl)).trans ((funext (hA21 14 rfl)).trans ((funext (hA16 14 rfl)).trans ((funext (hA6 14 rfl)).trans (ew14))))] at h1; exact h1
  obtain ⟨Bk, hBk, h3_⟩ := TGW_B pz32_3 (BYI_shf (BYI_u hBd)) (by omega)
  rw [sc_shf, show (a1) + 0 = (a1) by omega, show (a1) + ((a2) - (a1)) = (a2) by omega] at hBk
  have hq : QAP 70000 ((w23)) ((u4_2)) ((wv37)) ((y33)) (nb 0 4 ++ (nb (MSK (PLS (sc ((w14)) ((a1)) ((a2))))) 4 ++ Bk)) := QAP_trans h1_ (QAP_trans h2_ h3_)
  have hql := QAP_len hq (by omega)
  simp only [List.length_append, nb_len] at hql
  have hql2 : (y33) = (u4_2) + 8 + (Bk.length : Int) := by omega
  refine Ew_of (pcₚ := 37) (fun _ => x_aload_n rfl (rk_o (rfl) rfl rfl)) ?_
  refine w_gI H (o := 4) (w := y33) rfl (H.perm 4 rfl) rfl rfl rfl (fun _ => rfl) (ey34) ?_
  refine Ew_of (pcₚ := 42) (fun _ => x_iload rfl rk_s) ?_
  refine w_isub rfl ?_
  refine Ew_of (pcₚ := 44) (fun _ => x_iconst rfl) ?_
  refine w_isub rfl ?_
  refine Ew_of (pcₚ := 47) (fun _ => x_istore rfl) ?_
  refine Ew_of (pcₚ := 48) (fun _ => x_iconst rfl) ?_
  refine Ew_of (pcₚ := 50) (fun _ => x_istore rfl) ?_
  have hc108 : ∀ (ls : rO) (σ : rS) (F_c108 : hF) (A_c108 : hA) (xc108_5 : Int) (xc108_6 : Int), rlook ls 0 = some (.ref (D 4)) → rlook ls 4 = some (I (u4_2)) → rlook ls 5 = some (I (xc108_5)) → rlook ls 6 = some (I (xc108_6)) → HS σ0 σ D N F_c108 A_c108 → SF [(4, 2)] F28 F_c108 → SA [23] A29 A_c108 → ∀ yc108_4_2 : Int, F_c108 4 2 = yc108_4_2 → ∀ wc108_23 : Int → Int, A_c108 23 = wc108_23 → (inr (xc108_5)) → (inr (xc108_6)) → ((u4_2) + 8 ≤ (yc108_4_2) ∧ (yc108_4_2) ≤ (u4_2) + 10 * ((a2) - (a1)) + 28) → ((xc108_5) = (yc108_4_2) - (u4_2) - 4) → ((xc108_6) = 1 ∧ (a2) - (a1) ≤ (Bk.length : Int) ∧ (yc108_4_2) = (u4_2) + 8 + ((a2) - (a1)) ∨ (xc108_6) = 0 ∧ (Bk.length : Int) < (a2) - (a1) ∧ (yc108_4_2) = (u4_2) + 8 + (Bk.length : Int)) → (QAP 70000 ((w23)) ((u4_2)) ((wc108_23)) ((yc108_4_2)) (nb 0 4 ++ (nb (MSK (PLS (sc ((w14)) ((a1)) ((a2))))) 4 ++ (if (xc108_6) = 1 then sc ((w14)) ((a1)) ((a2)) else Bk)))) → Ew 347 (d + 5) 108 ls [] σ c s Q := by
   as_aux_lemma =>
    intro  ls σ F_c108 A_c108 xc108_5 xc108_6 lc108_0 lc108_4 lc108_5 lc108_6 H hS_c108 hA_c108 yc108_4_2 eyc108_4_2 wc108_23 ewc108_23 jc108_0 jc108_1 jc108_2 jc108_3 jc108_4 jc108_5
    have r45 : (-2147483648 : Int) ≤ yc108_4_2 ∧ yc108_4_2 ≤ 2147483647 := rngE (show (-2147483648 : Int) ≤ F_c108 4 2 ∧ F_c108 4 2 ≤ 2147483647 from H.frng 4 2) (show F_c108 4 2 = yc108_4_2 from (eyc108_4_2))
    have k108 : QAP 70000 ((w23)) ((u4_2)) ((wc108_23)) ((yc108_4_2)) (nb 0 4 ++ (nb (MSK (PLS (sc ((w14)) ((a1)) ((a2))))) 4 ++ (if (xc108_6) = 1 then sc ((w14)) ((a1)) ((a2)) else Bk))) := by assumption
    refine Ew_of (pcₚ := 109) (fun _ => x_aload_n rfl lc108_0) ?_
    refine w_gI H (o := 4) (w := yc108_4_2) rfl (H.perm 4 rfl) rfl rfl rfl (fun _ => rfl) (eyc108_4_2) ?_
    refine Ew_of (pcₚ := 114) (fun _ => x_istore rfl) ?_
    refine Ew_of (pcₚ := 115) (fun _ => x_aload_n rfl (rk_o (lc108_0) rfl rfl)) ?_
    refine Ew_of (pcₚ := 117) (fun _ => x_iload rfl (rk_o (lc108_4) rfl rfl)) ?_
    refine w_pI H (o := 4) rfl rfl (H.perm 4 rfl) rfl rfl rfl (fun _ => rfl) rfl (show (-2147483648 : Int) ≤ u4_2 ∧ u4_2 ≤ 2147483647 from r1) (fun σ H => ?_)
    refine Ew_of (pcₚ := 121) (fun _ => x_aload_n rfl (rk_o (lc108_0) rfl rfl)) ?_
    refine Ew_of (pcₚ := 123) (fun _ => x_iload rfl (rk_o (lc108_6) rfl rfl)) ?_
    refine w_inv H (o := 4) rfl rfl rfl (H.perm 4 rfl) rfl rfl (by rfl) (M320 H (u4_2) (rfl) (wc108_23) (ewc108_23) (show inr (xc108_6) from jc108_1) (show 0 ≤ (u4_2) ∧ (u4_2) ≤ 100000000 from q_1186 h5 r1) (fun σ F46 A47 H hS48 hA49 y51 ey52 wv53 ewv54 pz50_0 pz50_1 pz50_2 => ⟨rfl, ?_⟩))
    have r55 : (-2147483648 : Int) ≤ y51 ∧ y51 ≤ 2147483647 := rngE (show (-2147483648 : Int) ≤ F46 4 2 ∧ F46 4 2 ≤ 2147483647 from H.frng 4 2) (show F46 4 2 = y51 from (ey52))
    have hk1 := pz50_1
    have ho1 := pz50_2
    refine Ew_of (pcₚ := 127) (fun _ => x_aload_n rfl (rk_o (lc108_0) rfl rfl)) ?_
    refine Ew_of (pcₚ := 129) (fun _ => x_iload rfl (rk_o (lc108_5) rfl rfl)) ?_
    refine Ew_of (pcₚ := 130) (fun _ => x_iconst rfl) ?_
    refine w_inv H (o := 4) rfl rfl rfl (H.perm 4 rfl) rfl rfl (by rfl) (M321 H (y51) ((ey52)) (wv53) (ewv54) (show inr (xc108_5) from jc108_0) (show inr (3) from q_246) (show 0 ≤ (3) ∧ (3) ≤ 4 from q_1187) (show 0 ≤ (y51) ∧ (y51) ≤ 10000000 by omega) (fun σ F56 A57 H hS58 hA59 y61 ey62 wv63 ewv64 pz60_0 pz60_1 pz60_2 => ⟨rfl, ?_⟩))
    have r65 : (-2147483648 : Int) ≤ y61 ∧ y61 ≤ 2147483647 := rngE (show (-2147483648 : Int) ≤ F56 4 2 ∧ F56 4 2 ≤ 2147483647 from H.frng 4 2) (show F56 4 2 = y61 from (ey62))
    have hk2 := pz60_1
    have ho2 := pz60_2
    refine Ew_of (pcₚ := 134) (fun _ => x_aload_n rfl (rk_o (lc108_0) rfl rfl)) ?_
    refine Ew_of (pcₚ := 136) (fun _ => x_iload rfl rk_s) ?_
    refine w_pI H (o := 4) rfl rfl (H.perm 4 rfl) rfl rfl rfl (fun _ => rfl) rfl (show (-2147483648 : Int) ≤ yc108_4_2 ∧ yc108_4_2 ≤ 2147483647 from r45) (fun σ H => ?_)
    have hrl : ((sc ((w14)) ((a1)) ((a2))).length : Int) = (a2) - (a1) := sc_lenI (by omega)
    have : PRW 70000 ((a3)) (sc ((w14)) ((a1)) ((a2))) ((w23)) ((u4_2)) ((wv63)) ((yc108_4_2)) := by rcases (show (xc108_6) = 1 ∨ (xc108_6) = 0 by omega) with z | z; (rw [if_pos z] at k108; exact ⟨Bk, _, hBk, .inl ⟨by omega, rfl⟩, by have h := TGk_of k108 (QAP_trans hk1 hk2) (by omega) (by omega) (fun i x => (ho2 i (by omega)).trans (ho1 i (by omega))); rw [z] at h; exact h⟩); (rw [if_neg (by omega)] at k108; exact ⟨Bk, _, hBk, .inr ⟨by omega, rfl⟩, by have h := TGk_of k108 (QAP_trans hk1 hk2) (by omega) (by omega) (fun i x => (ho2 i (by omega)).trans (ho1 i (by omega))); rw [z] at h; exact h⟩)
    exact w_ret rfl (k σ _ _ H (SF_upd (SF_trans (SF_trans (SF_upd (SF_trans (SF_trans (SF_trans (SF_trans (SF_trans (SF_refl) hS5 (any_sub rfl)) hS15 (any_sub rfl)) hS20 (any_sub rfl)) hS30 (any_sub rfl)) hS_c108 (any_sub rfl)) rfl) hS48 (any_sub rfl)) hS58 (any_sub rfl)) rfl) (SA_trans (SA_trans (SA_trans (SA_trans (SA_trans (SA_trans (SA_trans (SA_refl) hA6 (any_subA rfl)) hA16 (any_subA rfl)) hA21 (any_subA rfl)) hA31 (any_subA rfl)) hA_c108 (any_subA rfl)) hA49 (any_subA rfl)) hA59 (any_subA rfl)) (yc108_4_2) (rfl) (y35) (((((hS58 4 5 rfl).trans (hS48 4 5 rfl)).trans (hS_c108 4 5 rfl)).trans (ey36))) (wv63) (ewv64) (wv39) ((funext (hA59 24 rfl)).trans ((funext (hA49 24 rfl)).trans ((funext (hA_c108 24 rfl)).trans (ewv40)))) (wv41) ((funext (hA59 25 rfl)).trans ((funext (hA49 25 rfl)).trans ((funext (hA_c108 25 rfl)).trans (ewv42)))) (pz32_0) (pz32_1) (show (u4_2) ≤ (yc108_4_2) ∧ (yc108_4_2) ≤ (u4_2) + 10 * (a2 - a1) + 28 from q_1188 jc108_2) (show PRW 70000 (a3) (sc ((w14)) (a1) (a2)) ((w23)) ((u4_2)) ((wv63)) ((yc108_4_2)) by assumption))
  refine Ew_of (pcₚ := 52) (fun _ => x_iload rfl (rk_o (rk_s) rfl rfl)) ?_
  refine Ew_of (pcₚ := 53) (fun _ => x_iconst rfl) ?_
  refine w_isub rfl ?_
  refine Ew_of (pcₚ := 55) (fun _ => x_iload_n rfl (rk_o (rk_o (rk_o (rfl) rfl rfl) rfl rfl) rfl rfl)) ?_
  refine Ew_of (pcₚ := 56) (fun _ => x_iload_n rfl (rk_o (rk_o (rk_o (rfl) rfl rfl) rfl rfl) rfl rfl)) ?_
  refine w_isub rfl ?_
  refine w_icmplt (t := 108) rfl rfl (show inr ((((y33 - u4_2) - 4) - 4)) from q_1190 h5 pz22_0 pz32_2 pz7_0 r43) (show inr ((a2 - a1)) from q_1189 h3 pz32_2) (fun b66 => ?_) (fun b66 => ?_)
  · have : QAP 70000 ((w23)) ((u4_2)) ((wv37)) ((y33)) (nb 0 4 ++ (nb (MSK (PLS (sc ((w14)) ((a1)) ((a2))))) 4 ++ (if (0) = 1 then sc ((w14)) ((a1)) ((a2)) else Bk))) := by first | (rw [if_pos (by omega)]; exact QAP_c j82_q (by rw [← hq7, show q7 = (a2) by omega])) | (rw [if_neg (by omega)]; exact hq)
    exact hc108  _ σ _ _ (((y33 - u4_2) - 4)) (0) (rk_o (rk_o (rk_o (rfl) rfl rfl) rfl rfl) rfl rfl) (rk_o (rk_o (rk_s) rfl rfl) rfl rfl) (rk_o (rk_s) rfl rfl) (rk_s) H (SF_refl) (SA_refl) (y33) ((ey34)) (wv37) (ewv38) (show inr (((y33 - u4_2) - 4)) from q_1194 h5 pz22_0 pz32_2 pz7_0 r43) (show inr (0) from q_2) (show (u4_2) + 8 ≤ (y33) ∧ (y33) ≤ (u4_2) + 10 * ((a2) - (a1)) + 28 from q_1193 b66 pz22_0 pz32_2 pz7_0) (show (((y33 - u4_2) - 4)) = (y33) - (u4_2) - 4 from q_1192) (show (0) = 1 ∧ (a2) - (a1) ≤ (Bk.length : Int) ∧ (y33) = (u4_2) + 8 + ((a2) - (a1)) ∨ (0) = 0 ∧ (Bk.length : Int) < (a2) - (a1) ∧ (y33) = (u4_2) + 8 + (Bk.length : Int) from q_1191 b66 hql2) (show QAP 70000 ((w23)) ((u4_2)) ((wv37)) ((y33)) (nb 0 4 ++ (nb (MSK (PLS (sc ((w14)) ((a1)) ((a2))))) 4 ++ (if (0) = 1 then sc ((w14)) ((a1)) ((a2)) else Bk))) by assumption)
  · refine Ew_of (pcₚ := 61) (fun _ => x_iconst rfl) ?_
    refine Ew_of (pcₚ := 63) (fun _ => x_istore rfl) ?_
    refine Ew_of (pcₚ := 64) (fun _ => x_iload_n rfl (rk_o (rk_o (rk_o (rk_o (rfl) rfl rfl) rfl rfl) rfl rfl) rfl rfl)) ?_
    refine Ew_of (pcₚ := 65) (fun _ => x_iload_n rfl (rk_o (rk_o (rk_o (rk_o (rfl) rfl rfl) rfl rfl) rfl rfl) rfl rfl)) ?_
    refine w_isub rfl ?_
    refine Ew_of (pcₚ := 67) (fun _ => x_iconst rfl) ?_
    refine w_iadd rfl ?_
    refine Ew_of (pcₚ := 70) (fun _ => x_istore rfl) ?_
    refine Ew_of (pcₚ := 71) (fun _ => x_aload_n rfl (rk_o (rk_o (rk_o (rk_o (rk_o (rfl) rfl rfl) rfl rfl) rfl rfl) rfl rfl) rfl rfl)) ?_
    refine Ew_of (pcₚ := 73) (fun _ => x_iload rfl (rk_o (rk_o (rk_o (rk_o (rk_s) rfl rfl) rfl rfl) rfl rfl) rfl rfl)) ?_
    refine Ew_of (pcₚ := 75) (fun _ => x_bipush (z := 8) rfl (by decide)) ?_
    refine w_iadd rfl ?_
    refine w_pI H (o := 4) rfl rfl (H.perm 4 rfl) rfl rfl rfl (fun _ => rfl) rfl (show (-2147483648 : Int) ≤ (u4_2 + 8) ∧ (u4_2 + 8) ≤ 2147483647 by omega) (fun σ H => ?_)
    refine Ew_of (pcₚ := 80) (fun _ => x_iload_n rfl (rk_o (rk_o (rk_o (rk_o (rk_o (rfl) rfl rfl) rfl rfl) rfl rfl) rfl rfl) rfl rfl)) ?_
    refine Ew_of (pcₚ := 82) (fun _ => x_istore rfl) ?_
    have : QAP 70000 ((w23)) ((u4_2)) ((wv37)) (((u4_2 + 8))) (nb 0 4 ++ (nb (MSK (PLS (sc ((w14)) ((a1)) ((a2))))) 4 ++ sc ((w14)) ((a1)) ((a1)))) := by rw [sc_nil (a := (a1)) (Int.le_refl _), List.append_nil]; have h := hq; rw [← List.append_assoc] at h; exact QAP_cut h (by simp only [List.length_append, nb_len]; omega)
    suffices hl82 : ∀ (m : Nat), ∀ (ls : rO) (σ : rS) (F_82 : hF) (A_82 : hA) (x82_7 : Int), rlook ls 0 = some (.ref (D 4)) → rlook ls 2 = some (I (a2)) → rlook ls 4 = some (I (u4_2)) → rlook ls 5 = some (I (((a2 - a1) + 4))) → rlook ls 6 = some (I (1)) → rlook ls 7 = some (I (x82_7)) → HS σ0 σ D N F_82 A_82 → SF [(4, 2)] (updF F28 4 2 ((u4_2 + 8))) F_82 → SA [23] A29 A_82 → ∀ y82_4_2 : Int, F_82 4 2 = y82_4_2 → ∀ w82_23 : Int → Int, A_82 23 = w82_23 → (inr (x82_7)) → ((a1) ≤ (x82_7)) → ((x82_7) ≤ (a1) ∨ (x82_7) ≤ ((a2))) → ((y82_4_2) = (u4_2) + 8 + ((x82_7) - (a1))) → (QAP 70000 ((w23)) ((u4_2)) ((w82_23)) ((y82_4_2)) (nb 0 4 ++ (nb (MSK (PLS (sc ((w14)) ((a1)) ((a2))))) 4 ++ sc ((w14)) ((a1)) ((x82_7))))) → (((a2)) - (x82_7)).toNat = m → Ew 347 (d + 5) 82 ls [] σ c s Q from
      hl82 _ _ σ _ _ (a1) (rk_o (rk_o (rk_o (rk_o (rk_o (rk_o (rfl) rfl rfl) rfl rfl) rfl rfl) rfl rfl) rfl rfl) rfl rfl) (rk_o (rk_o (rk_o (rk_o (rk_o (rk_o (rfl) rfl rfl) rfl rfl) rfl rfl) rfl rfl) rfl rfl) rfl rfl) (rk_o (rk_o (rk_o (rk_o (rk_o (rk_s) rfl rfl) rfl rfl) rfl rfl) rfl rfl) rfl rfl) (rk_o (rk_s) rfl rfl) (rk_o (rk_o (rk_s) rfl rfl) rfl rfl) (rk_s) H (SF_refl) (SA_refl) ((u4_2 + 8)) (rfl) (wv37) (ewv38) (show inr (a1) from h0) (show (a1) ≤ (a1) from q_43) (show (a1) ≤ (a1) ∨ (a1) ≤ ((a2)) from q_156) (show ((u4_2 + 8)) = (u4_2) + 8 + ((a1) - (a1)) from q_1195) (show QAP 70000 ((w23)) ((u4_2)) ((wv37)) (((u4_2 + 8))) (nb 0 4 ++ (nb (MSK (PLS (sc ((w14)) ((a1)) ((a2))))) 4 ++ sc ((w14)) ((a1)) ((a1)))) by assumption) rfl
    as_aux_lemma =>
    intro m
    induction m using Nat.strongRecOn with
    | _ m ih82 =>
      intro ls σ F_82 A_82 x82_7 l82_0 l82_2 l82_4 l82_5 l82_6 l82_7 H hS_82 hA_82 y82_4_2 ey82_4_2 w82_23 ew82_23 j82_0 j82_1 j82_2 j82_3 j82_4 hm82
      have r67 : (-2147483648 : Int) ≤ y82_4_2 ∧ y82_4_2 ≤ 2147483647 := rngE (show (-2147483648 : Int) ≤ F_82 4 2 ∧ F_82 4 2 ≤ 2147483647 from H.frng 4 2) (show F_82 4 2 = y82_4_2 from (ey82_4_2))
      have j82_q : QAP 70000 ((w23)) ((u4_2)) ((w82_23)) ((y82_4_2)) (nb 0 4 ++ (nb (MSK (PLS (sc ((w14)) ((a1)) ((a2))))) 4 ++ sc ((w14)) ((a1)) ((x82_7)))) := by assumption
      obtain ⟨q7, hq7⟩ : ∃ q : Int, q = (x82_7) := ⟨_, rfl⟩
      refine Ew_of (pcₚ := 84) (fun _ => x_iload rfl l82_7) ?_
      refine Ew_of (pcₚ := 85) (fun _ => x_iload_n rfl l82_2) ?_
      refine w_icmpge (t := 108) rfl rfl (show inr (x82_7) from j82_0) (show inr (a2) from h1) (fun b68 => ?_) (fun b68 => ?_)
      · have : QAP 70000 ((w23)) ((u4_2)) ((w82_23)) ((y82_4_2)) (nb 0 4 ++ (nb (MSK (PLS (sc ((w14)) ((a1)) ((a2))))) 4 ++ (if (1) = 1 then sc ((w14)) ((a1)) ((a2)) else Bk))) := by first | (rw [if_pos (by omega)]; exact QAP_c j82_q (by rw [← hq7, show q7 = (a2) by omega])) | (rw [if_neg (by omega)]; exact hq)
        exact hc108  _ σ _ _ (((a2 - a1) + 4)) (1) (l82_0) (l82_4) (l82_5) (l82_6) H (SF_trans (SF_upd (SF_refl) rfl) hS_82 (any_sub rfl)) (SA_trans (SA_refl) hA_82 (any_subA rfl)) (y82_4_2) ((ey82_4_2)) (w82_23) (ew82_23) (show inr (((a2 - a1) + 4)) from q_1198 h3 pz32_2) (show inr (1) from q_135) (show (u4_2) + 8 ≤ (y82_4_2) ∧ (y82_4_2) ≤ (u4_2) + 10 * ((a2) - (a1)) + 28 from q_1197 j82_1 j82_2 j82_3 pz32_2) (show (((a2 - a1) + 4)) = (y82_4_2) - (u4_2) - 4 from q_1196 b68 h3 j82_2 j82_3) (show (1) = 1 ∧ (a2) - (a1) ≤ (Bk.length : Int) ∧ (y82_4_2) = (u4_2) + 8 + ((a2) - (a1)) ∨ (1) = 0 ∧ (Bk.length : Int) < (a2) - (a1) ∧ (y82_4_2) = (u4_2) + 8 + (Bk.length : Int) by omega) (show QAP 70000 ((w23)) ((u4_2)) ((w82_23)) ((y82_4_2)) (nb 0 4 ++ (nb (MSK (PLS (sc ((w14)) ((a1)) ((a2))))) 4 ++ (if (1) = 1 then sc ((w14)) ((a1)) ((a2)) else Bk))) by assumption)
      · refine Ew_of (pcₚ := 89) (fun _ => x_aload_n rfl l82_0) ?_
        refine Ew_of (pcₚ := 90) (fun _ => x_aload_n rfl l82_0) ?_
        refine w_gT H (o := 4) (t := 1) rfl (H.perm 4 rfl) rfl rfl rfl rfl rfl rfl ?_
        refine w_gT H (o := 1) (t := 14) rfl (H.perm 1 rfl) rfl rfl rfl rfl rfl rfl ?_
        refine Ew_of (pcₚ := 98) (fun _ => x_iload rfl l82_7) ?_
        refine w_lI H (o := 14) (n := 65536) rfl (H.perm 14 rfl) rfl rfl (H.fix 14 rfl rfl) (show 0 ≤ x82_7 ∧ x82_7 < ((65536 : Nat) : Int) from q_1199 b68 h3 j82_1) (by decide) (fun v69 ev69 qv69 => ?_)
        have qv69 : (0 : Int) ≤ v69 ∧ v69 ≤ 255 := qv69
        have ev69 : (w14) (x82_7) = v69 := (congrFun ((funext (hA_82 14 rfl)).trans ((funext (hA31 14 rfl)).trans ((funext (hA21 14 rfl)).trans ((funext (hA16 14 rfl)).trans ((funext (hA6 14 rfl)).trans (ew14)))))) (x82_7)).symm.trans ev69
        have hv := ev69
        refine w_inv H (o := 4) rfl rfl rfl (H.perm 4 rfl) rfl rfl (by rfl) (M320 H (y82_4_2) ((ey82_4_2)) (w82_23) (ew82_23) (show inr (v69) from q_299 qv69) (show 0 ≤ (y82_4_2) ∧ (y82_4_2) ≤ 100000000 from q_1200 b68 h3 h5 j82_1 j82_3 r67) (fun σ F70 A71 H hS72 hA73 y75 ey76 wv77 ewv78 pz74_0 pz74_1 pz74_2 => ⟨rfl, ?_⟩))
        have r79 : (-2147483648 : Int) ≤ y75 ∧ y75 ≤ 2147483647 := rngE (show (-2147483648 : Int) ≤ F70 4 2 ∧ F70 4 2 ≤ 2147483647 from H.frng 4 2) (show F70 4 2 = y75 from (ey76))
        have hpv := pz74_1
        have : QAP 70000 ((w23)) ((u4_2)) ((wv77)) ((y75)) (nb 0 4 ++ (nb (MSK (PLS (sc ((w14)) ((a1)) ((a2))))) 4 ++ sc ((w14)) ((a1)) ((x82_7) + 1))) := QAP_c (QAP_trans j82_q hpv) (by rw [sc_snoc (b := (x82_7)) (by omega) rfl, hv]; simp only [List.append_assoc])
        refine Ew_of (pcₚ := 105) (fun _ => x_iinc (len := 3) rfl (l82_7)) ?_
        refine Ew_of (pcₚ := 82) (fun _ => x_goto rfl rfl) ?_
        exact ih82 _ (msE hm82 q_16 (q_17 b68)) _ σ _ _ ((x82_7 + 1)) (rk_o (l82_0) rfl rfl) (rk_o (l82_2) rfl rfl) (rk_o (l82_4) rfl rfl) (rk_o (l82_5) rfl rfl) (rk_o (l82_6) rfl rfl) (rk_s) H (SF_trans (hS_82) hS72 (any_sub rfl)) (SA_trans (hA_82) hA73 (any_subA rfl)) (y75) ((ey76)) (wv77) (ewv78) (show inr ((x82_7 + 1)) from q_470 b68 h3 j82_0) (show (a1) ≤ ((x82_7 + 1)) from q_161 j82_1) (show ((x82_7 + 1)) ≤ (a1) ∨ ((x82_7 + 1)) ≤ ((a2)) from q_160 b68) (show (y75) = (u4_2) + 8 + (((x82_7 + 1)) - (a1)) from q_1201 j82_3 pz74_0) (show QAP 70000 ((w23)) ((u4_2)) ((wv77)) ((y75)) (nb 0 4 ++ (nb (MSK (PLS (sc ((w14)) ((a1)) ((a2))))) 4 ++ sc ((w14)) ((a1)) (((x82_7 + 1))))) by assumption) rfl

theorem M348 {σ0 σ : rS} {D N : Nat → Nat} {F : hF} {A : hA} {d c s : Nat} {Q : wQ} (H : HS σ0 σ D N F A) {a1 a2 a3 : Int} (u1_1 : Int) (eu1_1 : F 1 1 = u1_1) (u4_5 : Int) (eu4_5 : F 4 5 = u4_5) (w14 : Int → Int) (ew14 : A 14 = w14) (w24 : Int → Int) (ew24 : A 24 = w24) (w25 : Int → Int) (ew25 : A 25 = w25) (h0 : inr (a1)) (h1 : inr (a2)) (h2 : inr (a3)) (h3 : 1 ≤ (a1) ∧ (a1) ≤ 65536) (h4 : 0 ≤ (a2) ∧ (a2) ≤ 3) (h5 : 0 ≤ (a3) ∧ (a3) ≤ 255) (h6 : (u1_1) ≤ 16384) (h7 : KQ bN ((w24)) ((u4_5))) (h8 : KQ bF ((w25)) ((u4_5))) (k : ∀ (z : Int) σ Fₚ Aₚ, HS σ0 σ D N Fₚ Aₚ → SF [(1, 3), (4, 2), (4, 5), (4, 6), (4, 7)] F Fₚ → SA [15, 23, 24, 25] A Aₚ → ∀ y1_3 : Int, Fₚ 1 3 = y1_3 → ∀ y4_5 : Int, Fₚ 4 5 = y4_5 → ∀ v15 : Int → Int, Aₚ 15 = v15 → ∀ v24 : Int → Int, Aₚ 24 = v24 → ∀ v25 : Int → Int, Aₚ 25 = v25 → (inr (z)) → (KQ bN ((v24)) ((y4_5))) → (KQ bF ((v25)) ((y4_5))) → (WRT (TGR ((a2)) ((a1)) ((a3)) (sc ((w14)) 0 ((u1_1)))) ((z)) ((y1_3)) ((v15))) → Q (some (I z)) σ c s) : Ew 348 (d + 6) 0 (rargs 0 [.ref (D 4), I a1, I a2, I a3]) [] σ c s Q := by
  have r1 : (0 : Int) ≤ u1_1 ∧ u1_1 ≤ 65536 := rngE (show (0 : Int) ≤ F 1 1 ∧ F 1 1 ≤ 65536 from H.frng 1 1) (show F 1 1 = u1_1 from (eu1_1))
  have r2 : (0 : Int) ≤ u4_5 ∧ u4_5 ≤ 16384 := rngE (show (0 : Int) ≤ F 4 5 ∧ F 4 5 ≤ 16384 from H.frng 4 5) (show F 4 5 = u4_5 from (eu4_5))
  refine Ew_of (pcₚ := 1) (fun _ => x_aload_n rfl rfl) ?_
  refine Ew_of (pcₚ := 2) (fun _ => x_iconst rfl) ?_
  refine w_pI H (o := 4) rfl rfl (H.perm 4 rfl) rfl rfl rfl (fun _ => rfl) rfl (show (-2147483648 : Int) ≤ 0 ∧ 0 ≤ 2147483647 from q_22) (fun σ H => ?_)
  refine Ew_of (pcₚ := 6) (fun _ => x_aload_n rfl rfl) ?_
  refine Ew_of (pcₚ := 9) (fun _ => x_sipush (z := 255) rfl (by decide)) ?_
  refine w_inv H (o := 4) rfl rfl rfl (H.perm 4 rfl) rfl rfl (by rfl) (M320 H (0) (rfl) (A 23) (rfl) (show inr (255) from q_297) (show 0 ≤ (0) ∧ (0) ≤ 100000000 from q_1202) (fun σ F3 A4 H hS5 hA6 y8 ey9 wv10 ewv11 pz7_0 pz7_1 pz7_2 => ⟨rfl, ?_⟩))
  have r12 : (-2147483648 : Int) ≤ y8 ∧ y8 ≤ 2147483647 := rngE (show (-2147483648 : Int) ≤ F3 4 2 ∧ F3 4 2 ≤ 2147483647 from H.frng 4 2) (show F3 4 2 = y8 from (ey9))
  have hm1 := RQ_q (RQ_0 (cap := 70000)) pz7_1
  refine Ew_of (pcₚ := 13) (fun _ => x_aload_n rfl rfl) ?_
  refine Ew_of (pcₚ := 15) (fun _ => x_bipush (z := 6) rfl (by decide)) ?_
  refine Ew_of (pcₚ := 16) (fun _ => x_iconst rfl) ?_
  refine w_inv H (o := 4) rfl rfl rfl (H.perm 4 rfl) rfl rfl (by rfl) (M321 H (y8) ((ey9)) (wv10) (ewv11) (show inr (6) from q_756) (show inr (3) from q_246) (show 0 ≤ (3) ∧ (3) ≤ 4 from q_1187) (show 0 ≤ (y8) ∧ (y8) ≤ 10000000 from q_1203 pz7_0) (fun σ F13 A14 H hS15 hA16 y18 ey19 wv20 ewv21 pz17_0 pz17_1 pz17_2 => ⟨rfl, ?_⟩))
  have r22 : (-2147483648 : Int) ≤ y18 ∧ y18 ≤ 2147483647 := rngE (show (-2147483648 : Int) ≤ F13 4 2 ∧ F13 4 2 ≤ 2147483647 from H.frng 4 2) (show F13 4 2 = y18 from (ey19))
  refine Ew_of (pcₚ := 20) (fun _ => x_iconst rfl) ?_
  refine Ew_of (pcₚ := 22) (fun _ => x_istore rfl) ?_
  have : RQ 70000 ((wv20)) ((y18)) (TGm.take (4 + 0 : Int).toNat) := RQ_c (RQ_q hm1 pz17_1) (by decide +kernel)
  suffices hl22 : ∀ (m : Nat), ∀ (ls : rO) (σ : rS) (F_22 : hF) (A_22 : hA) (x22_4 : Int), rlook ls 0 = some (.ref (D 4)) → rlook ls 1 = some (I (a1)) → rlook ls 2 = some (I (a2)) → rlook ls 3 = some (I (a3)) → rlook ls 4 = some (I (x22_4)) → HS σ0 σ D N F_22 A_22 → SF [(4, 2)] F13 F_22 → SA [23] A14 A_22 → ∀ y22_4_2 : Int, F_22 4 2 = y22_4_2 → ∀ w22_23 : Int → Int, A_22 23 = w22_23 → (inr (x22_4)) → ((0) ≤ (x22_4)) → ((x22_4) ≤ (0) ∨ (x22_4) ≤ ((6))) → ((y22_4_2) = 4 + (x22_4)) → (RQ 70000 ((w22_23)) ((y22_4_2)) (TGm.take (4 + (x22_4) : Int).toNat)) → (((6)) - (x22_4)).toNat = m → Ew 348 (d + 6) 22 ls [] σ c s Q from
    hl22 _ _ σ _ _ (0) (rk_o (rfl) rfl rfl) (rk_o (rfl) rfl rfl) (rk_o (rfl) rfl rfl) (rk_o (rfl) rfl rfl) (rk_s) H (SF_refl) (SA_refl) (y18) ((ey19)) (wv20) (ewv21) (show inr (0) from q_2) (show (0) ≤ (0) from q_1) (show (0) ≤ (0) ∨ (0) ≤ ((6)) from q_1205) (show (y18) = 4 + (0) from q_1204 pz17_0 pz7_0) (show RQ 70000 ((wv20)) ((y18)) (TGm.take (4 + (0) : Int).toNat) by assumption) rfl
  as_aux_lemma =>
  intro m
  induction m using Nat.strongRecOn with
  | _ m ih22 =>
    intro ls σ F_22 A_22 x22_4 l22_0 l22_1 l22_2 l22_3 l22_4 H hS_22 hA_22 y22_4_2 ey22_4_2 w22_23 ew22_23 j22_0 j22_1 j22_2 j22_3 j22_4 hm22
    have r23 : (-2147483648 : Int) ≤ y22_4_2 ∧ y22_4_2 ≤ 2147483647 := rngE (show (-2147483648 : Int) ≤ F_22 4 2 ∧ F_22 4 2 ≤ 2147483647 from H.frng 4 2) (show F_22 4 2 = y22_4_2 from (ey22_4_2))
    have j22_q : RQ 70000 ((w22_23)) ((y22_4_2)) (TGm.take (4 + (x22_4) : Int).toNat) := by assumption
    refine Ew_of (pcₚ := 24) (fun _ => x_iload rfl l22_4) ?_
    refine Ew_of (pcₚ := 26) (fun _ => x_bipush (z := 6) rfl (by decide)) ?_
    refine w_icmpge (t := 44) rfl rfl (show inr (x22_4) from j22_0) (show inr (6) from q_756) (fun b24 => ?_) (fun b24 => ?_)
    · refine Ew_of (pcₚ := 45) (fun _ => x_iconst rfl) ?_
      refine Ew_of (pcₚ := 47) (fun _ => x_istore rfl) ?_
      have : ∃ M, ITP (TGs ((a2)) ((a1)) ((a3)) (sc ((w14)) 0 ((u1_1)))) (0, []) (0, M) ∧ RQ 70000 ((w22_23)) ((y22_4_2)) (TGm ++ M) := ⟨[], ITP_0, RQ_c j22_q (by rw [show x22_4 = 6 by omega]; rfl)⟩
      suffices hl47 : ∀ (m : Nat), ∀ (ls : rO) (σ : rS) (F_47 : hF) (A_47 : hA) (x47_4 : Int), rlook ls 0 = some (.ref (D 4)) → rlook ls 1 = some (I (a1)) → rlook ls 2 = some (I (a2)) → rlook ls 3 = some (I (a3)) → rlook ls 4 = some (I (x47_4)) → HS σ0 σ D N F_47 A_47 → SF [(4, 2), (4, 5), (4, 6), (4, 7)] F_22 F_47 → SA [23, 24, 25] A_22 A_47 → ∀ y47_4_2 : Int, F_47 4 2 = y47_4_2 → ∀ y47_4_5 : Int, F_47 4 5 = y47_4_5 → ∀ w47_23 : Int → Int, A_47 23 = w47_23 → ∀ w47_24 : Int → Int, A_47 24 = w47_24 → ∀ w47_25 : Int → Int, A_47 25 = w47_25 → (inr (x47_4)) → (0 ≤ (x47_4)) → (0 ≤ (y47_4_2)) → ((y47_4_2) ≤ 10 + 310 * (x47_4) ∧ (x47_4) ≤ (u1_1) ∨ (y47_4_2) ≤ 10 + 310 * (u1_1) ∧ (u1_1) ≤ (x47_4)) → (∃ M, ITP (TGs ((a2)) ((a1)) ((a3)) (sc ((w14)) 0 ((u1_1)))) (0, []) ((x47_4), M) ∧ RQ 70000 ((w47_23)) ((y47_4_2)) (TGm ++ M)) → (KQ bN ((w47_24)) ((y47_4_5))) → (KQ bF ((w47_25)) ((y47_4_5))) → ((u1_1) - (x47_4)).toNat = m → Ew 348 (d + 6) 47 ls [] σ c s Q from
        hl47 _ _ σ _ _ (0) (rk_o (l22_0) rfl rfl) (rk_o (l22_1) rfl rfl) (rk_o (l22_2) rfl rfl) (rk_o (l22_3) rfl rfl) (rk_s) H (SF_refl) (SA_refl) (y22_4_2) ((ey22_4_2)) (u4_5) (((((hS_22 4 5 rfl).trans (hS15 4 5 rfl)).trans (hS5 4 5 rfl)).trans (eu4_5))) (w22_23) (ew22_23) (w24) ((funext (hA_22 24 rfl)).trans ((funext (hA16 24 rfl)).trans ((funext (hA6 24 rfl)).trans (ew24)))) (w25) ((funext (hA_22 25 rfl)).trans ((funext (hA16 25 rfl)).trans ((funext (hA6 25 rfl)).trans (ew25)))) (show inr (0) from q_2) (show 0 ≤ (0) from q_1) (show 0 ≤ (y22_4_2) from q_1206 b24 j22_3) (show (y22_4_2) ≤ 10 + 310 * (0) ∧ (0) ≤ (u1_1) ∨ (y22_4_2) ≤ 10 + 310 * (u1_1) ∧ (u1_1) ≤ (0) by omega) (show ∃ M, ITP (TGs ((a2)) ((a1)) ((a3)) (sc ((w14)) 0 ((u1_1)))) (0, []) ((0), M) ∧ RQ 70000 ((w22_23)) ((y22_4_2)) (TGm ++ M) by assumption) (h7) (show KQ bF ((w25)) ((u4_5)) by assumption) rfl
      as_aux_lemma =>
      intro m
      induction m using Nat.strongRecOn with
      | _ m ih47 =>
        intro ls σ F_47 A_47 x47_4 l47_0 l47_1 l47_2 l47_3 l47_4 H hS_47 hA_47 y47_4_2 ey47_4_2 y47_4_5 ey47_4_5 w47_23 ew47_23 w47_24 ew47_24 w47_25 ew47_25 j47_0 j47_1 j47_2 j47_3 j47_4 j47_5 j47_6 hm47
        have r25 : (-2147483648 : Int) ≤ y47_4_2 ∧ y47_4_2 ≤ 2147483647 := rngE (show (-2147483648 : Int) ≤ F_47 4 2 ∧ F_47 4 2 ≤ 2147483647 from H.frng 4 2) (show F_47 4 2 = y47_4_2 from (ey47_4_2))
        have r26 : (0 : Int) ≤ y47_4_5 ∧ y47_4_5 ≤ 16384 := rngE (show (0 : Int) ≤ F_47 4 5 ∧ F_47 4 5 ≤ 16384 from H.frng 4 5) (show F_47 4 5 = y47_4_5 from (ey47_4_5))
        have j47_i : ∃ M, ITP (TGs ((a2)) ((a1)) ((a3)) (sc ((w14)) 0 ((u1_1)))) (0, []) ((x47_4), M) ∧ RQ 70000 ((w47_23)) ((y47_4_2)) (TGm ++ M) := by assumption
        obtain ⟨Mx, hIT, hRQ⟩ := j47_i
        have hLl : ((sc ((w14)) 0 ((u1_1))).length : Int) = (u1_1) := by rw [sc_lenI (by omega)]; omega
        refine Ew_of (pcₚ := 49) (fun _ => x_iload rfl l47_4) ?_
        refine Ew_of (pcₚ := 50) (fun _ => x_aload_n rfl l47_0) ?_
        refine w_gT H (o := 4) (t := 1) rfl (H.perm 4 rfl) rfl rfl rfl rfl rfl rfl ?_
        refine w_gI H (o := 1) (w := u1_1) rfl (H.perm 1 rfl) rfl rfl rfl (fun _ => rfl) (((((hS_47 1 1 rfl).trans (hS_22 1 1 rfl)).trans (hS15 1 1 rfl)).trans (hS5 1 1 rfl)).trans (eu1_1)) ?_
        refine w_icmpge (t := 140) rfl rfl (show inr (x47_4) from j47_0) (show inr (u1_1) from q_286 r1) (fun b27 => ?_) (fun b27 => ?_)
        · refine Ew_of (pcₚ := 141) (fun _ => x_aload_n rfl l47_0) ?_
          refine w_gI H (o := 4) (w := y47_4_2) rfl (H.perm 4 rfl) rfl rfl rfl (fun _ => rfl) (ey47_4_2) ?_
          refine Ew_of (pcₚ := 146) (fun _ => x_ldc (z := 65536) rfl (by decide)) ?_
          refine w_icmple (t := 153) rfl rfl (show inr (y47_4_2) from q_1207 j47_2 r25) (show inr (65536) from q_52) (fun b28 => ?_) (fun b28 => ?_)
          · refine Ew_of (pcₚ := 154) (fun _ => x_aload_n rfl l47_0) ?_
            refine w_inv H (o := 4) rfl rfl rfl (H.perm 4 rfl) rfl rfl (by rfl) (M322 H (y47_4_2) ((ey47_4_2)) (w47_23) (ew47_23) (show 0 ≤ (y47_4_2) ∧ (y47_4_2) ≤ 65536 from q_1208 b28 j47_2) (fun z33 σ F29 A30 H hS31 hA32 y34 ey35 wv36 ewv37 pz33_0 pz33_1 pz33_2 => ⟨rfl, ?_⟩))
            have r38 : (0 : Int) ≤ y34 ∧ y34 ≤ 65536 := rngE (show (0 : Int) ≤ F29 1 3 ∧ F29 1 3 ≤ 65536 from H.frng 1 3) (show F29 1 3 = y34 from (ey35))
            have hTR := TGR_of hIT (by omega)
            have : WRT (TGR ((a2)) ((a1)) ((a3)) (sc ((w14)) 0 ((u1_1)))) ((z33)) ((y34)) ((wv36)) := by first | exact WRT_n hTR hRQ (by omega) rfl | exact WRT_y hTR hRQ (by omega) (by omega) (by omega) (by omega) pz33_2 (by omega)
            exact w_ireturn rfl (k (z33) σ _ _ H (SF_trans (SF_trans (SF_trans (SF_trans (SF_trans (SF_upd (SF_refl) rfl) hS5 (any_sub rfl)) hS15 (any_sub rfl)) hS_22 (any_sub rfl)) hS_47 (any_sub rfl)) hS31 (any_sub rfl)) (SA_trans (SA_trans (SA_trans (SA_trans (SA_trans (SA_refl) hA6 (any_subA rfl)) hA16 (any_subA rfl)) hA_22 (any_subA rfl)) hA_47 (any_subA rfl)) hA32 (any_subA rfl)) (y34) ((ey35)) (y47_4_5) (((hS31 4 5 rfl).trans (ey47_4_5))) (wv36) (ewv37) (w47_24) ((funext (hA32 24 rfl)).trans (ew47_24)) (w47_25) ((funext (hA32 25 rfl)).trans (ew47_25)) (show inr (z33) from pz33_0) (j47_5) (j47_6) (show WRT (TGR (a2) (a1) (a3) (sc ((w14)) 0 ((u1_1)))) ((z33)) ((y34)) ((wv36)) by assumption))
          · refine Ew_of (pcₚ := 150) (fun _ => x_iconst rfl) ?_
            refine Ew_of (pcₚ := 157) (fun _ => x_goto rfl rfl) ?_
            have hTR := TGR_of hIT (by omega)
            have r39 : (0 : Int) ≤ F 1 3 ∧ F 1 3 ≤ 65536 := rngE (show (0 : Int) ≤ F_47 1 3 ∧ F_47 1 3 ≤ 65536 from H.frng 1 3) (show F_47 1 3 = F 1 3 from ((((hS_47 1 3 rfl).trans (hS_22 1 3 rfl)).trans (hS15 1 3 rfl)).trans (hS5 1 3 rfl)))
            have : WRT (TGR ((a2)) ((a1)) ((a3)) (sc ((w14)) 0 ((u1_1)))) (((-1))) ((F 1 3)) ((A 15)) := by first | exact WRT_n hTR hRQ (by omega) rfl | exact WRT_y hTR hRQ (by omega) (by omega) (by omega) (by omega) pz33_2 (by omega)
            exact w_ireturn rfl (k ((-1)) σ _ _ H (SF_trans (SF_trans (SF_trans (SF_trans (SF_upd (SF_refl) rfl) hS5 (any_sub rfl)) hS15 (any_sub rfl)) hS_22 (any_sub rfl)) hS_47 (any_sub rfl)) (SA_trans (SA_trans (SA_trans (SA_trans (SA_refl) hA6 (any_subA rfl)) hA16 (any_subA rfl)) hA_22 (any_subA rfl)) hA_47 (any_subA rfl)) (F 1 3) (((((hS_47 1 3 rfl).trans (hS_22 1 3 rfl)).trans (hS15 1 3 rfl)).trans (hS5 1 3 rfl))) (y47_4_5) ((ey47_4_5)) (A 15) ((funext (hA_47 15 rfl)).trans ((funext (hA_22 15 rfl)).trans ((funext (hA16 15 rfl)).trans (funext (hA6 15 rfl))))) (w47_24) (ew47_24) (w47_25) (ew47_25) (show inr ((-1)) from q_63) (j47_5) (j47_6) (show WRT (TGR (a2) (a1) (a3) (sc ((w14)) 0 ((u1_1)))) (((-1))) ((F 1 3)) ((A 15)) by assumption))
        · refine Ew_of (pcₚ := 60) (fun _ => x_aload_n rfl l47_0) ?_
          refine Ew_of (pcₚ := 62) (fun _ => x_iload rfl l47_4) ?_
          have hc90 : ∀ (tc90_0 : Int), ∀ (ls : rO) (σ : rS) (F_c90 : hF) (A_c90 : hA) , rlook ls 0 = some (.ref (D 4)) → rlook ls 1 = some (I (a1)) → rlook ls 2 = some (I (a2)) → rlook ls 3 = some (I (a3)) → rlook ls 4 = some (I (x47_4)) → HS σ0 σ D N F_c90 A_c90 → SF [] F_47 F_c90 → SA [] A_47 A_c90 → (inr (tc90_0)) → ((tc90_0) = (x47_4) + (a1) ∧ (tc90_0) ≤ (u1_1) ∨ (tc90_0) = (u1_1) ∧ (u1_1) < (x47_4) + (a1)) → ((x47_4) ≤ (tc90_0)) → Ew 348 (d + 6) 90 ls [I (tc90_0), I (x47_4), .ref (D 4)] σ c s Q := by
           as_aux_lemma =>
            intro tc90_0 ls σ F_c90 A_c90  lc90_0 lc90_1 lc90_2 lc90_3 lc90_4 H hS_c90 hA_c90   jc90_0 jc90_1 jc90_2
            obtain ⟨qe, hqe⟩ : ∃ q : Int, q = (tc90_0) := ⟨_, rfl⟩
            refine Ew_of (pcₚ := 91) (fun _ => x_iload_n rfl lc90_2) ?_
            refine w_inv H (o := 4) rfl rfl rfl (H.perm 4 rfl) rfl rfl (by rfl) (M347 H (y47_4_2) (((hS_c90 4 2 rfl).trans (ey47_4_2))) (y47_4_5) (((hS_c90 4 5 rfl).trans (ey47_4_5))) (w14) ((funext (hA_c90 14 rfl)).trans ((funext (hA_47 14 rfl)).trans ((funext (hA_22 14 rfl)).trans ((funext (hA16 14 rfl)).trans ((funext (hA6 14 rfl)).trans (ew14)))))) (w47_23) ((funext (hA_c90 23 rfl)).trans (ew47_23)) (w47_24) ((funext (hA_c90 24 rfl)).trans (ew47_24)) (w47_25) ((funext (hA_c90 25 rfl)).trans (ew47_25)) (show inr (x47_4) from j47_0) (show inr (tc90_0) from jc90_0) (show inr (a2) from h1) (show 0 ≤ (x47_4) ∧ (x47_4) ≤ (tc90_0) ∧ (tc90_0) ≤ 16384 from q_1209 h6 j47_1 jc90_1 jc90_2) (show 0 ≤ (a2) ∧ (a2) ≤ 3 from h4) (show 0 ≤ (y47_4_2) ∧ (y47_4_2) ≤ 7000000 by omega) (j47_5) (j47_6) (fun σ F40 A41 H hS42 hA43 y45 ey46 y47 ey48 wv49 ewv50 wv51 ewv52 wv53 ewv54 pz44_0 pz44_1 pz44_2 pz44_3 => ⟨rfl, ?_⟩))
            have r55 : (-2147483648 : Int) ≤ y45 ∧ y45 ≤ 2147483647 := rngE (show (-2147483648 : Int) ≤ F40 4 2 ∧ F40 4 2 ≤ 2147483647 from H.frng 4 2) (show F40 4 2 = y45 from (ey46))
            have r56 : (0 : Int) ≤ y47 ∧ y47 ≤ 16384 := rngE (show (0 : Int) ≤ F40 4 5 ∧ F40 4 5 ≤ 16384 from H.frng 4 5) (show F40 4 5 = y47 from (ey48))
            obtain ⟨Bk, RX, hBk, hRX, hQk⟩ := pz44_3
            rw [← hqe] at hBk hRX
            have hR1 : RQ 70000 ((wv49)) ((y45)) ((TGm ++ Mx) ++ RX) := RQ_q hRQ hQk
            refine Ew_of (pcₚ := 95) (fun _ => x_iload_n rfl lc90_3) ?_
            have hc131 : ∀ (ls : rO) (σ : rS) (F_c131 : hF) (A_c131 : hA) , rlook ls 0 = some (.ref (D 4)) → rlook ls 1 = some (I (a1)) → rlook ls 2 = some (I (a2)) → rlook ls 3 = some (I (a3)) → rlook ls 4 = some (I (x47_4)) → HS σ0 σ D N F_c131 A_c131 → SF [(4, 2)] F40 F_c131 → SA [23] A41 A_c131 → ∀ yc131_4_2 : Int, F_c131 4 2 = yc131_4_2 → ∀ wc131_23 : Int → Int, A_c131 23 = wc131_23 → ((y45) ≤ (yc131_4_2) ∧ (yc131_4_2) ≤ (y45) + 4 + (a3)) → (RQ 70000 ((wc131_23)) ((yc131_4_2)) ((TGm ++ Mx) ++ (RX ++ TGp ((a3))))) → Ew 348 (d + 6) 131 ls [] σ c s Q := by
             as_aux_lemma =>
              intro  ls σ F_c131 A_c131  lc131_0 lc131_1 lc131_2 lc131_3 lc131_4 H hS_c131 hA_c131 yc131_4_2 eyc131_4_2 wc131_23 ewc131_23 jc131_0 jc131_1
              have r57 : (-2147483648 : Int) ≤ yc131_4_2 ∧ yc131_4_2 ≤ 2147483647 := rngE (show (-2147483648 : Int) ≤ F_c131 4 2 ∧ F_c131 4 2 ≤ 2147483647 from H.frng 4 2) (show F_c131 4 2 = yc131_4_2 from (eyc131_4_2))
              have k131 : RQ 70000 ((wc131_23)) ((yc131_4_2)) ((TGm ++ Mx) ++ (RX ++ TGp ((a3)))) := by assumption
              refine Ew_of (pcₚ := 133) (fun _ => x_iload rfl lc131_4) ?_
              refine Ew_of (pcₚ := 134) (fun _ => x_iload_n rfl lc131_1) ?_
              refine w_iadd rfl ?_
              have : ∃ M, ITP (TGs ((a2)) ((a1)) ((a3)) (sc ((w14)) 0 ((u1_1)))) (0, []) ((x47_4) + (a1), M) ∧ RQ 70000 ((wc131_23)) ((yc131_4_2)) (TGm ++ M) := ⟨_, TGs_i (e := qe) (B := Bk) (by omega) (by omega) (sl_sc (by omega) (by omega) (by omega)) hBk hRX rfl rfl hIT, RQ_c k131 (by simp only [List.append_assoc])⟩
              refine Ew_of (pcₚ := 137) (fun _ => x_istore rfl) ?_
              refine Ew_of (pcₚ := 47) (fun _ => x_goto rfl rfl) ?_
              exact ih47 _ (msE hm47 (q_1213 h3) (q_17 b27)) _ σ _ _ ((x47_4 + a1)) (rk_o (lc131_0) rfl rfl) (rk_o (lc131_1) rfl rfl) (rk_o (lc131_2) rfl rfl) (rk_o (lc131_3) rfl rfl) (rk_s) H (SF_trans (SF_trans (SF_trans (hS_47) hS_c90 (any_sub rfl)) hS42 (any_sub rfl)) hS_c131 (any_sub rfl)) (SA_trans (SA_trans (SA_trans (hA_47) hA_c90 (any_subA rfl)) hA43 (any_subA rfl)) hA_c131 (any_subA rfl)) (yc131_4_2) ((eyc131_4_2)) (y47) (((hS_c131 4 5 rfl).trans (ey48))) (wc131_23) (ewc131_23) (wv51) ((funext (hA_c131 24 rfl)).trans (ewv52)) (wv53) ((funext (hA_c131 25 rfl)).trans (ewv54)) (show inr ((x47_4 + a1)) from q_1212 b27 h3 j47_1 r1) (show 0 ≤ ((x47_4 + a1)) from q_1211 h3 j47_1) (show 0 ≤ (yc131_4_2) from q_1210 j47_2 jc131_0 pz44_2) (show (yc131_4_2) ≤ 10 + 310 * ((x47_4 + a1)) ∧ ((x47_4 + a1)) ≤ (u1_1) ∨ (yc131_4_2) ≤ 10 + 310 * (u1_1) ∧ (u1_1) ≤ ((x47_4 + a1)) by omega) (show ∃ M, ITP (TGs ((a2)) ((a1)) ((a3)) (sc ((w14)) 0 ((u1_1)))) (0, []) (((x47_4 + a1)), M) ∧ RQ 70000 ((wc131_23)) ((yc131_4_2)) (TGm ++ M) by assumption) (pz44_0) (pz44_1) rfl
            refine w_ifle (t := 131) rfl rfl (show inr (a3) from h2) (fun b58 => ?_) (fun b58 => ?_)
            · have : RQ 70000 ((wv49)) ((y45)) ((TGm ++ Mx) ++ (RX ++ TGp ((a3)))) := by first | (rw [show TGp ((a3)) = [] from if_pos (by omega), List.append_nil]; exact hR1) | (rw [show TGp ((a3)) = _ from if_neg (by omega)]; exact RQ_c j114_q (by rw [← hq5, show q5 = (a3) by omega]))
              exact hc131  _ σ _ _  (lc90_0) (lc90_1) (lc90_2) (lc90_3) (lc90_4) H (SF_refl) (SA_refl) (y45) ((ey46)) (wv49) (ewv50) (show (y45) ≤ (y45) ∧ (y45) ≤ (y45) + 4 + (a3) from q_1214 h5) (show RQ 70000 ((wv49)) ((y45)) ((TGm ++ Mx) ++ (RX ++ TGp ((a3)))) by assumption)
            · refine Ew_of (pcₚ := 99) (fun _ => x_aload_n rfl lc90_0) ?_
              refine Ew_of (pcₚ := 102) (fun _ => x_sipush (z := 254) rfl (by decide)) ?_
              refine w_inv H (o := 4) rfl rfl rfl (H.perm 4 rfl) rfl rfl (by rfl) (M320 H (y45) ((ey46)) (wv49) (ewv50) (show inr (254) from q_1215) (show 0 ≤ (y45) ∧ (y45) ≤ 100000000 by omega) (fun σ F59 A60 H hS61 hA62 y64 ey65 wv66 ewv67 pz63_0 pz63_1 pz63_2 => ⟨rfl, ?_⟩))
              have r68 : (-2147483648 : Int) ≤ y64 ∧ y64 ≤ 2147483647 := rngE (show (-2147483648 : Int) ≤ F59 4 2 ∧ F59 4 2 ≤ 2147483647 from H.frng 4 2) (show F59 4 2 = y64 from (ey65))
              have hs1 := pz63_1
              refine Ew_of (pcₚ := 106) (fun _ => x_aload_n rfl lc90_0) ?_
              refine Ew_of (pcₚ := 107) (fun _ => x_iload_n rfl lc90_3) ?_
              refine Ew_of (pcₚ := 108) (fun _ => x_iconst rfl) ?_
              refine w_inv H (o := 4) rfl rfl rfl (H.perm 4 rfl) rfl rfl (by rfl) (M321 H (y64) ((ey65)) (wv66) (ewv67) (show inr (a3) from h2) (show inr (3) from q_246) (show 0 ≤ (3) ∧ (3) ≤ 4 from q_1187) (show 0 ≤ (y64) ∧ (y64) ≤ 10000000 by omega) (fun σ F69 A70 H hS71 hA72 y74 ey75 wv76 ewv77 pz73_0 pz73_1 pz73_2 => ⟨rfl, ?_⟩))
              have r78 : (-2147483648 : Int) ≤ y74 ∧ y74 ≤ 2147483647 := rngE (show (-2147483648 : Int) ≤ F69 4 2 ∧ F69 4 2 ≤ 2147483647 from H.frng 4 2) (show F69 4 2 = y74 from (ey75))
              refine Ew_of (pcₚ := 112) (fun _ => x_iconst rfl) ?_
              refine Ew_of (pcₚ := 114) (fun _ => x_istore rfl) ?_
              have : RQ 70000 ((wv76)) ((y74)) ((TGm ++ Mx) ++ (RX ++ (nb ((a3) * 256 + 254) 4 ++ List.replicate (0 : Int).toNat 0))) := RQ_c (RQ_q (RQ_q hR1 hs1) pz73_1) (by rw [List.append_assoc, List.append_assoc, List.append_assoc, nb_k4 (by omega)]; simp only [List.append_assoc]; rfl)
              suffices hl114 : ∀ (m : Nat), ∀ (ls : rO) (σ : rS) (F_114 : hF) (A_114 : hA) (x114_5 : Int), rlook ls 0 = some (.ref (D 4)) → rlook ls 1 = some (I (a1)) → rlook ls 2 = some (I (a2)) → rlook ls 3 = some (I (a3)) → rlook ls 4 = some (I (x47_4)) → rlook ls 5 = some (I (x114_5)) → HS σ0 σ D N F_114 A_114 → SF [(4, 2)] F69 F_114 → SA [23] A70 A_114 → ∀ y114_4_2 : Int, F_114 4 2 = y114_4_2 → ∀ w114_23 : Int → Int, A_114 23 = w114_23 → (inr (x114_5)) → ((0) ≤ (x114_5)) → ((x114_5) ≤ (0) ∨ (x114_5) ≤ ((a3))) → ((y114_4_2) = (y74) + (x114_5)) → (RQ 70000 ((w114_23)) ((y114_4_2)) ((TGm ++ Mx) ++ (RX ++ (nb ((a3) * 256 + 254) 4 ++ List.replicate ((x114_5) : Int).toNat 0)))) → (((a3)) - (x114_5)).toNat = m → Ew 348 (d + 6) 114 ls [] σ c s Q from
                hl114 _ _ σ _ _ (0) (rk_o (lc90_0) rfl rfl) (rk_o (lc90_1) rfl rfl) (rk_o (lc90_2) rfl rfl) (rk_o (lc90_3) rfl rfl) (rk_o (lc90_4) rfl rfl) (rk_s) H (SF_refl) (SA_refl) (y74) ((ey75)) (wv76) (ewv77) (show inr (0) from q_2) (show (0) ≤ (0) from q_1) (show (0) ≤ (0) ∨ (0) ≤ ((a3)) from q_5) (show (y74) = (y74) + (0) from q_365) (show RQ 70000 ((wv76)) ((y74)) ((TGm ++ Mx) ++ (RX ++ (nb ((a3) * 256 + 254) 4 ++ List.replicate ((0) : Int).toNat 0))) by assumption) rfl
              as_aux_lemma =>
              intro m
              induction m using Nat.strongRecOn with
              | _ m ih114 =>
                intro ls σ F_114 A_114 x114_5 l114_0 l114_1 l114_2 l114_3 l114_4 l114_5 H hS_114 hA_114 y114_4_2 ey114_4_2 w114_23 ew114_23 j114_0 j114_1 j114_2 j114_3 j114_4 hm114
                have r79 : (-2147483648 : Int) ≤ y114_4_2 ∧ y114_4_2 ≤ 2147483647 := rngE (show (-2147483648 : Int) ≤ F_114 4 2 ∧ F_114 4 2 ≤ 2147483647 from H.frng 4 2) (show F_114 4 2 = y114_4_2 from (ey114_4_2))
                have j114_q : RQ 70000 ((w114_23)) ((y114_4_2)) ((TGm ++ Mx) ++ (RX ++ (nb ((a3) * 256 + 254) 4 ++ List.replicate ((x114_5) : Int).toNat 0))) := by assumption
                obtain ⟨q5, hq5⟩ : ∃ q : Int, q = (x114_5) := ⟨_, rfl⟩
                refine Ew_of (pcₚ := 116) (fun _ => x_iload rfl l114_5) ?_
                refine Ew_of (pcₚ := 117) (fun _ => x_iload_n rfl l114_3) ?_
                refine w_icmpge (t := 131) rfl rfl (show inr (x114_5) from j114_0) (show inr (a3) from h2) (fun b80 => ?_) (fun b80 => ?_)
                · have : RQ 70000 ((w114_23)) ((y114_4_2)) ((TGm ++ Mx) ++ (RX ++ TGp ((a3)))) := by first | (rw [show TGp ((a3)) = [] from if_pos (by omega), List.append_nil]; exact hR1) | (rw [show TGp ((a3)) = _ from if_neg (by omega)]; exact RQ_c j114_q (by rw [← hq5, show q5 = (a3) by omega]))
                  exact hc131  _ σ _ _  (l114_0) (l114_1) (l114_2) (l114_3) (l114_4) H (SF_trans (SF_trans (SF_trans (SF_refl) hS61 (any_sub rfl)) hS71 (any_sub rfl)) hS_114 (any_sub rfl)) (SA_trans (SA_trans (SA_trans (SA_refl) hA62 (any_subA rfl)) hA72 (any_subA rfl)) hA_114 (any_subA rfl)) (y114_4_2) ((ey114_4_2)) (w114_23) (ew114_23) (show (y45) ≤ (y114_4_2) ∧ (y114_4_2) ≤ (y45) + 4 + (a3) from q_1216 b58 b80 j114_1 j114_2 j114_3 pz63_0 pz73_0 r55 r79) (show RQ 70000 ((w114_23)) ((y114_4_2)) ((TGm ++ Mx) ++ (RX ++ TGp ((a3)))) by assumption)
                · refine Ew_of (pcₚ := 121) (fun _ => x_aload_n rfl l114_0) ?_
                  refine Ew_of (pcₚ := 122) (fun _ => x_iconst rfl) ?_
                  refine w_inv H (o := 4) rfl rfl rfl (H.perm 4 rfl) rfl rfl (by rfl) (M320 H (y114_4_2) ((ey114_4_2)) (w114_23) (ew114_23) (show inr (0) from q_2) (show 0 ≤ (y114_4_2) ∧ (y114_4_2) ≤ 100000000 by omega) (fun σ F81 A82 H hS83 hA84 y86 ey87 wv88 ewv89 pz85_0 pz85_1 pz85_2 => ⟨rfl, ?_⟩))
                  have r90 : (-2147483648 : Int) ≤ y86 ∧ y86 ≤ 2147483647 := rngE (show (-2147483648 : Int) ≤ F81 4 2 ∧ F81 4 2 ≤ 2147483647 from H.frng 4 2) (show F81 4 2 = y86 from (ey87))
                  have hz := pz85_1
                  rw [u8_id (by omega)] at hz
                  have : RQ 70000 ((wv88)) ((y86)) ((TGm ++ Mx) ++ (RX ++ (nb ((a3) * 256 + 254) 4 ++ List.replicate ((x114_5) + 1 : Int).toNat 0))) := RQ_c (RQ_q j114_q hz) (by rw [rep_s (k := (x114_5)) (by omega) rfl]; simp only [List.append_assoc])
                  refine Ew_of (pcₚ := 128) (fun _ => x_iinc (len := 3) rfl (l114_5)) ?_
                  refine Ew_of (pcₚ := 114) (fun _ => x_goto rfl rfl) ?_
                  exact ih114 _ (msE hm114 q_16 (q_17 b80)) _ σ _ _ ((x114_5 + 1)) (rk_o (l114_0) rfl rfl) (rk_o (l114_1) rfl rfl) (rk_o (l114_2) rfl rfl) (rk_o (l114_3) rfl rfl) (rk_o (l114_4) rfl rfl) (rk_s) H (SF_trans (hS_114) hS83 (any_sub rfl)) (SA_trans (hA_114) hA84 (any_subA rfl)) (y86) ((ey87)) (wv88) (ewv89) (show inr ((x114_5 + 1)) from q_1217 b80 h5 j114_1) (show (0) ≤ ((x114_5 + 1)) from q_14 j114_1) (show ((x114_5 + 1)) ≤ (0) ∨ ((x114_5 + 1)) ≤ ((a3)) from q_13 b80) (show (y86) = (y74) + ((x114_5 + 1)) from q_368 j114_3 pz85_0) (show RQ 70000 ((wv88)) ((y86)) ((TGm ++ Mx) ++ (RX ++ (nb ((a3) * 256 + 254) 4 ++ List.replicate (((x114_5 + 1)) : Int).toNat 0))) by assumption) rfl
          refine Ew_of (pcₚ := 64) (fun _ => x_iload rfl l47_4) ?_
          refine Ew_of (pcₚ := 65) (fun _ => x_iload_n rfl l47_1) ?_
          refine w_iadd rfl ?_
          refine Ew_of (pcₚ := 67) (fun _ => x_aload_n rfl l47_0) ?_
          refine w_gT H (o := 4) (t := 1) rfl (H.perm 4 rfl) rfl rfl rfl rfl rfl rfl ?_
          refine w_gI H (o := 1) (w := u1_1) rfl (H.perm 1 rfl) rfl rfl rfl (fun _ => rfl) (((((hS_47 1 1 rfl).trans (hS_22 1 1 rfl)).trans (hS15 1 1 rfl)).trans (hS5 1 1 rfl)).trans (eu1_1)) ?_
          refine w_icmpge (t := 83) rfl rfl (show inr ((x47_4 + a1)) from q_1212 b27 h3 j47_1 r1) (show inr (u1_1) from q_286 r1) (fun b91 => ?_) (fun b91 => ?_)
          · refine Ew_of (pcₚ := 84) (fun _ => x_aload_n rfl l47_0) ?_
            refine w_gT H (o := 4) (t := 1) rfl (H.perm 4 rfl) rfl rfl rfl rfl rfl rfl ?_
            refine w_gI H (o := 1) (w := u1_1) rfl (H.perm 1 rfl) rfl rfl rfl (fun _ => rfl) (((((hS_47 1 1 rfl).trans (hS_22 1 1 rfl)).trans (hS15 1 1 rfl)).trans (hS5 1 1 rfl)).trans (eu1_1)) ?_
            exact hc90 (u1_1) _ σ _ _  (l47_0) (l47_1) (l47_2) (l47_3) (l47_4) H (SF_refl) (SA_refl)   (show inr (u1_1) from q_286 r1) (show (u1_1) = (x47_4) + (a1) ∧ (u1_1) ≤ (u1_1) ∨ (u1_1) = (u1_1) ∧ (u1_1) < (x47_4) + (a1) by omega) (show (x47_4) ≤ (u1_1) from q_1218 b27)
          · refine Ew_of (pcₚ := 78) (fun _ => x_iload rfl l47_4) ?_
            refine Ew_of (pcₚ := 79) (fun _ => x_iload_n rfl l47_1) ?_
            refine w_iadd rfl ?_
            refine Ew_of (pcₚ := 90) (fun _ => x_goto rfl rfl) ?_
            exact hc90 ((x47_4 + a1)) _ σ _ _  (l47_0) (l47_1) (l47_2) (l47_3) (l47_4) H (SF_refl) (SA_refl)   (show inr ((x47_4 + a1)) from q_1221 b91 h3 j47_1 r1) (show ((x47_4 + a1)) = (x47_4) + (a1) ∧ ((x47_4 + a1)) ≤ (u1_1) ∨ ((x47_4 + a1)) = (u1_1) ∧ (u1_1) < (x47_4) + (a1) from q_1220 b91) (show (x47_4) ≤ ((x47_4 + a1)) from q_1219 h3)
    · refine Ew_of (pcₚ := 30) (fun _ => x_aload_n rfl l22_0) ?_
      refine Ew_of (pcₚ := 32) (fun _ => x_iload rfl l22_4) ?_
      refine w_stat24 rfl rfl (by rfl) (M346 H (show inr (x22_4) from j22_0) (fun z96 σ F92 A93 H hS94 hA95 pz96_0 pz96_1 pz96_2 => ⟨rfl, ?_⟩))
      have hmk := pz96_2
      refine w_inv H (o := 4) rfl rfl rfl (H.perm 4 rfl) rfl rfl (by rfl) (M320 H (y22_4_2) (((hS94 4 2 rfl).trans (ey22_4_2))) (w22_23) ((funext (hA95 23 rfl)).trans (ew22_23)) (show inr (z96) from pz96_0) (show 0 ≤ (y22_4_2) ∧ (y22_4_2) ≤ 100000000 from q_1222 b24 j22_1 j22_3) (fun σ F97 A98 H hS99 hA100 y102 ey103 wv104 ewv105 pz101_0 pz101_1 pz101_2 => ⟨rfl, ?_⟩))
      have r106 : (-2147483648 : Int) ≤ y102 ∧ y102 ≤ 2147483647 := rngE (show (-2147483648 : Int) ≤ F97 4 2 ∧ F97 4 2 ≤ 2147483647 from H.frng 4 2) (show F97 4 2 = y102 from (ey103))
      have hpt := pz101_1
      rw [u8_id (by omega), hmk (by omega)] at hpt
      have : RQ 70000 ((wv104)) ((y102)) (TGm.take (4 + ((x22_4) + 1) : Int).toNat) := RQ_c (RQ_q j22_q hpt) (TGm_s (by omega)).symm
      refine Ew_of (pcₚ := 41) (fun _ => x_iinc (len := 3) rfl (l22_4)) ?_
      refine Ew_of (pcₚ := 22) (fun _ => x_goto rfl rfl) ?_
      exact ih22 _ (msE hm22 q_1112 (q_1113 b24)) _ σ _ _ ((x22_4 + 1)) (rk_o (l22_0) rfl rfl) (rk_o (l22_1) rfl rfl) (rk_o (l22_2) rfl rfl) (rk_o (l22_3) rfl rfl) (rk_s) H (SF_trans (SF_trans (hS_22) hS94 (any_sub rfl)) hS99 (any_sub rfl)) (SA_trans (SA_trans (hA_22) hA95 (any_subA rfl)) hA100 (any_subA rfl)) (y102) ((ey103)) (wv104) (ewv105) (show inr ((x22_4 + 1)) from q_1225 b24 j22_1) (show (0) ≤ ((x22_4 + 1)) from q_14 j22_1) (show ((x22_4 + 1)) ≤ (0) ∨ ((x22_4 + 1)) ≤ ((6)) from q_1224 b24) (show (y102) = 4 + ((x22_4 + 1)) from q_1223 j22_3 pz101_0) (show RQ 70000 ((wv104)) ((y102)) (TGm.take (4 + ((x22_4 + 1)) : Int).toNat) by assumption) rfl

