/-- Tokens.append -/
theorem M368 {σ0 σ : rS} {D N : Nat → Nat} {F : hF} {A : hA} {d c s : Nat} {Q : wQ} (H : HS σ0 σ D N F A) {a1 a2 : Int} (u3_5 : Int) (eu3_5 : F 3 5 = u3_5) (h0 : inr (a1)) (h1 : inr (a2)) (h2 : 0 ≤ (u3_5) ∧ (u3_5) ≤ 16384) (h3 : 0 ≤ (a1) ∧ (a1) ≤ (a2) ∧ (a2) ≤ 65536 ∧ (u3_5) + ((a2) - (a1)) ≤ 16384) (k : ∀ σ F' A', HS σ0 σ D N F' A' → SF [(3, 5)] F F' → SA [18] A A' → ∀ y3_5 : Int, F' 3 5 = y3_5 → ((y3_5) = (u3_5) + ((a2) - (a1))) → Q none σ c s) : Ew 368 (d + 0) 0 (rargs 0 [.ref (D 3), I a1, I a2]) [] σ c s Q := by
  have r1 : (-2147483648 : Int) ≤ u3_5 ∧ u3_5 ≤ 2147483647 := by have h1 : (-2147483648 : Int) ≤ F 3 5 ∧ F 3 5 ≤ 2147483647 := H.frng 3 5; rw [show F 3 5 = u3_5 from (eu3_5)] at h1; exact h1
  refine Ew_of (pc' := 1) (fun _ => x_iload_n rfl rfl) ?_
  refine Ew_of (pc' := 2) (fun _ => x_istore_n rfl) ?_
  suffices hl2 : ∀ (m : Nat), ∀ (ls : rO) (σ : rS) (F_2 : hF) (A_2 : hA) (x2_3 : Int), rlook ls 0 = some (.ref (D 3)) → rlook ls 2 = some (I (a2)) → rlook ls 3 = some (I (x2_3)) → HS σ0 σ D N F_2 A_2 → SF [(3, 5)] F F_2 → SA [18] A A_2 → ∀ y2_3_5 : Int, F_2 3 5 = y2_3_5 → (inr (x2_3)) → ((a1) ≤ (x2_3)) → ((x2_3) ≤ (a1) ∨ (x2_3) ≤ ((a2))) → ((y2_3_5) = (u3_5) + ((x2_3) - (a1))) → (((a2)) - (x2_3)).toNat = m → Ew 368 (d + 0) 2 ls [] σ c s Q from
    hl2 _ _ σ _ _ (a1) (rk_o (rfl) rfl rfl) (rk_o (rfl) rfl rfl) (rk_s) H (SF_refl) (SA_refl) (u3_5) ((eu3_5))  (show inr (a1) by omega) (show (a1) ≤ (a1) by omega) (show (a1) ≤ (a1) ∨ (a1) ≤ ((a2)) by omega) (show (u3_5) = (u3_5) + ((a1) - (a1)) by omega) rfl
  as_aux_lemma =>
  intro m
  induction m using Nat.strongRecOn with
  | _ m ih2 =>
    intro ls σ F_2 A_2 x2_3 l2_0 l2_2 l2_3 H hS_2 hA_2 y2_3_5 ey2_3_5  j2_0 j2_1 j2_2 j2_3 hm2
    have r2 : (-2147483648 : Int) ≤ y2_3_5 ∧ y2_3_5 ≤ 2147483647 := by have h1 : (-2147483648 : Int) ≤ F_2 3 5 ∧ F_2 3 5 ≤ 2147483647 := H.frng 3 5; rw [show F_2 3 5 = y2_3_5 from (ey2_3_5)] at h1; exact h1
    refine Ew_of (pc' := 3) (fun _ => x_iload_n rfl l2_3) ?_
    refine Ew_of (pc' := 4) (fun _ => x_iload_n rfl l2_2) ?_
    refine w_icmpge (t := 41) rfl rfl (show inr (x2_3) by omega) (show inr (a2) by omega) (fun b3 => ?_) (fun b3 => ?_)
    · exact w_ret rfl (k σ _ _ H (SF_trans (SF_refl) hS_2 (any_sub rfl)) (SA_trans (SA_refl) hA_2 (any_subA rfl)) (y2_3_5) ((ey2_3_5)) (show (y2_3_5) = (u3_5) + (a2 - a1) by omega))
    · refine Ew_of (pc' := 8) (fun _ => x_aload_n rfl l2_0) ?_
      refine w_gT H (o := 3) (t := 18) rfl (H.perm 3 rfl) rfl rfl rfl rfl rfl rfl ?_
      refine Ew_of (pc' := 12) (fun _ => x_aload_n rfl l2_0) ?_
      refine w_gI H (o := 3) (w := y2_3_5) rfl (H.perm 3 rfl) rfl rfl rfl (fun _ => rfl) (ey2_3_5) ?_
      refine Ew_of (pc' := 16) (fun _ => x_aload_n rfl l2_0) ?_
      refine w_gT H (o := 3) (t := 1) rfl (H.perm 3 rfl) rfl rfl rfl rfl rfl rfl ?_
      refine w_gT H (o := 1) (t := 14) rfl (H.perm 1 rfl) rfl rfl rfl rfl rfl rfl ?_
      refine Ew_of (pc' := 23) (fun _ => x_iload_n rfl l2_3) ?_
      refine w_lI H (o := 14) (n := 65536) rfl (H.perm 14 rfl) rfl rfl (H.fix 14 rfl rfl) (show 0 ≤ x2_3 ∧ x2_3 < ((65536 : Nat) : Int) by omega) (by decide) (fun v4 ev4 qv4 => ?_)
      have qv4 : (0 : Int) ≤ v4 ∧ v4 ≤ 255 := qv4
      have ev4 : (A 14) (x2_3) = v4 := (congrFun (funext (hA_2 14 rfl)) (x2_3)).symm.trans ev4
      refine w_sI H (o := 18) (n := 16384) rfl (H.perm 18 rfl) rfl rfl (H.fix 18 rfl rfl) (show 0 ≤ y2_3_5 ∧ y2_3_5 < ((16384 : Nat) : Int) by omega) (by decide) (show (0 : Int) ≤ v4 ∧ v4 ≤ 255 by omega) (fun σ H => ?_)
      refine Ew_of (pc' := 26) (fun _ => x_aload_n rfl l2_0) ?_
      refine Ew_of (pc' := 27) (fun _ => x_dup rfl rfl) ?_
      refine w_gI H (o := 3) (w := y2_3_5) rfl (H.perm 3 rfl) rfl rfl rfl (fun _ => rfl) (ey2_3_5) ?_
      refine Ew_of (pc' := 31) (fun _ => x_iconst rfl) ?_
      refine w_iadd rfl ?_
      refine w_pI H (o := 3) rfl rfl (H.perm 3 rfl) rfl rfl rfl (fun _ => rfl) rfl (show (-2147483648 : Int) ≤ (y2_3_5 + 1) ∧ (y2_3_5 + 1) ≤ 2147483647 by omega) (fun σ H => ?_)
      refine Ew_of (pc' := 38) (fun _ => x_iinc (len := 3) rfl (l2_3)) ?_
      refine Ew_of (pc' := 2) (fun _ => x_goto rfl rfl) ?_
      exact ih2 _ (by omega) _ σ _ _ ((x2_3 + 1)) (rk_o (l2_0) rfl rfl) (rk_o (l2_2) rfl rfl) (rk_s) H (SF_upd (hS_2) rfl) (SA_upd (hA_2) rfl) ((y2_3_5 + 1)) (rfl)  (show inr ((x2_3 + 1)) by omega) (show (a1) ≤ ((x2_3 + 1)) by omega) (show ((x2_3 + 1)) ≤ (a1) ∨ ((x2_3 + 1)) ≤ ((a2)) by omega) (show ((y2_3_5 + 1)) = (u3_5) + (((x2_3 + 1)) - (a1)) by omega) rfl
/-- Tokens.sequence -/
theorem M365 {σ0 σ : rS} {D N : Nat → Nat} {F : hF} {A : hA} {d c s : Nat} {Q : wQ} (H : HS σ0 σ D N F A) {a1 a2 a3 a4 : Int} (u3_10 : Int) (eu3_10 : F 3 10 = u3_10) (h0 : inr (a1)) (h1 : inr (a2)) (h2 : inr (a3)) (h3 : inr (a4)) (h4 : 0 ≤ (a1) ∧ (a1) ≤ (a2) ∧ (a2) ≤ 16384) (h5 : (a3) = 0 ∨ 4 ≤ (a3)) (h6 : (a3) ≤ 16384 ∧ 0 ≤ (a4) ∧ (a4) ≤ 16384) (h7 : 0 ≤ (u3_10) ∧ (u3_10) ≤ 5000000) (k : ∀ σ F' A', HS σ0 σ D N F' A' → SF [(3, 10)] F F' → SA [20] A A' → ∀ y3_10 : Int, F' 3 10 = y3_10 → ((u3_10) ≤ (y3_10) ∧ (y3_10) ≤ (u3_10) + ((a2) - (a1)) + 140) → Q none σ c s) : Ew 365 (d + 2) 0 (rargs 0 [.ref (D 3), I a1, I a2, I a3, I a4]) [] σ c s Q := by
  have r1 : (-2147483648 : Int) ≤ u3_10 ∧ u3_10 ≤ 2147483647 := by have h1 : (-2147483648 : Int) ≤ F 3 10 ∧ F 3 10 ≤ 2147483647 := H.frng 3 10; rw [show F 3 10 = u3_10 from (eu3_10)] at h1; exact h1
  refine Ew_of (pc' := 1) (fun _ => x_iload_n rfl rfl) ?_
  refine Ew_of (pc' := 2) (fun _ => x_iload_n rfl rfl) ?_
  refine w_isub rfl ?_
  refine Ew_of (pc' := 5) (fun _ => x_istore rfl) ?_
  refine Ew_of (pc' := 6) (fun _ => x_iload_n rfl (rk_o (rfl) rfl rfl)) ?_
  refine Ew_of (pc' := 7) (fun _ => x_iconst rfl) ?_
  refine w_isub rfl ?_
  refine Ew_of (pc' := 10) (fun _ => x_istore rfl) ?_
  refine Ew_of (pc' := 11) (fun _ => x_aload_n rfl (rk_o (rk_o (rfl) rfl rfl) rfl rfl)) ?_
  refine Ew_of (pc' := 13) (fun _ => x_iload rfl (rk_o (rk_s) rfl rfl)) ?_
  refine Ew_of (pc' := 15) (fun _ => x_bipush (z := 15) rfl (by decide)) ?_
  refine w_icmple (t := 23) rfl rfl (show inr ((a2 - a1)) by omega) (show inr (15) by omega) (fun b2 => ?_) (fun b2 => ?_)
  · refine Ew_of (pc' := 25) (fun _ => x_iload rfl (rk_o (rk_s) rfl rfl)) ?_
    refine Ew_of (pc' := 27) (fun _ => x_bipush (z := 16) rfl (by decide)) ?_
    refine w_imul rfl ?_
    refine Ew_of (pc' := 29) (fun _ => x_iload_n rfl (rk_o (rk_o (rfl) rfl rfl) rfl rfl)) ?_
    refine w_ifne (t := 36) rfl rfl (show inr (a3) by omega) (fun b3 => ?_) (fun b3 => ?_)
    · refine Ew_of (pc' := 38) (fun _ => x_iload rfl rk_s) ?_
      refine Ew_of (pc' := 40) (fun _ => x_bipush (z := 15) rfl (by decide)) ?_
      refine w_icmple (t := 48) rfl rfl (show inr ((a3 - 4)) by omega) (show inr (15) by omega) (fun b4 => ?_) (fun b4 => ?_)
      · refine Ew_of (pc' := 50) (fun _ => x_iload rfl rk_s) ?_
        refine w_iadd rfl ?_
        refine w_inv H (o := 3) rfl rfl rfl (H.perm 3 rfl) rfl rfl (by rfl) (M363 H (u3_10) ((eu3_10)) (show inr ((((a2 - a1) * 16) + (a3 - 4))) by omega) (show 0 ≤ ((((a2 - a1) * 16) + (a3 - 4))) ∧ ((((a2 - a1) * 16) + (a3 - 4))) ≤ 255 by omega) (show 0 ≤ (u3_10) ∧ (u3_10) ≤ 100000000 by omega) (fun σ F5 A6 H hS7 hA8 y10 ey11 pz9_0 => ⟨rfl, ?_⟩))
        have r12 : (-2147483648 : Int) ≤ y10 ∧ y10 ≤ 2147483647 := by have h1 : (-2147483648 : Int) ≤ F5 3 10 ∧ F5 3 10 ≤ 2147483647 := H.frng 3 10; rw [show F5 3 10 = y10 from (ey11)] at h1; exact h1
        refine Ew_of (pc' := 55) (fun _ => x_aload_n rfl (rk_o (rk_o (rfl) rfl rfl) rfl rfl)) ?_
        refine Ew_of (pc' := 57) (fun _ => x_iload rfl (rk_o (rk_s) rfl rfl)) ?_
        refine w_inv H (o := 3) rfl rfl rfl (H.perm 3 rfl) rfl rfl (by rfl) (M364 H (y10) ((ey11)) (show inr ((a2 - a1)) by omega) (show -10 ≤ ((a2 - a1)) ∧ ((a2 - a1)) ≤ 100000 by omega) (show 0 ≤ (y10) ∧ (y10) ≤ 10000000 by omega) (fun σ F13 A14 H hS15 hA16 y18 ey19 pz17_0 => ⟨rfl, ?_⟩))
        have r20 : (-2147483648 : Int) ≤ y18 ∧ y18 ≤ 2147483647 := by have h1 : (-2147483648 : Int) ≤ F13 3 10 ∧ F13 3 10 ≤ 2147483647 := H.frng 3 10; rw [show F13 3 10 = y18 from (ey19)] at h1; exact h1
        refine Ew_of (pc' := 61) (fun _ => x_iload_n rfl (rk_o (rk_o (rfl) rfl rfl) rfl rfl)) ?_
        refine Ew_of (pc' := 63) (fun _ => x_istore rfl) ?_
        suffices hl63 : ∀ (m : Nat), ∀ (ls : rO) (σ : rS) (F_63 : hF) (A_63 : hA) (x63_7 : Int), rlook ls 0 = some (.ref (D 3)) → rlook ls 2 = some (I (a2)) → rlook ls 3 = some (I (a3)) → rlook ls 4 = some (I (a4)) → rlook ls 6 = some (I ((a3 - 4))) → rlook ls 7 = some (I (x63_7)) → HS σ0 σ D N F_63 A_63 → SF [(3, 10)] F13 F_63 → SA [20] A14 A_63 → ∀ y63_3_10 : Int, F_63 3 10 = y63_3_10 → (inr (x63_7)) → ((a1) ≤ (x63_7)) → ((x63_7) ≤ (a1) ∨ (x63_7) ≤ ((a2))) → ((y63_3_10) = (y18) + ((x63_7) - (a1))) → (((a2)) - (x63_7)).toNat = m → Ew 365 (d + 2) 63 ls [] σ c s Q from
          hl63 _ _ σ _ _ (a1) (rk_o (rk_o (rk_o (rfl) rfl rfl) rfl rfl) rfl rfl) (rk_o (rk_o (rk_o (rfl) rfl rfl) rfl rfl) rfl rfl) (rk_o (rk_o (rk_o (rfl) rfl rfl) rfl rfl) rfl rfl) (rk_o (rk_o (rk_o (rfl) rfl rfl) rfl rfl) rfl rfl) (rk_o (rk_s) rfl rfl) (rk_s) H (SF_refl) (SA_refl) (y18) ((ey19))  (show inr (a1) by omega) (show (a1) ≤ (a1) by omega) (show (a1) ≤ (a1) ∨ (a1) ≤ ((a2)) by omega) (show (y18) = (y18) + ((a1) - (a1)) by omega) rfl
        as_aux_lemma =>
        intro m
        induction m using Nat.strongRecOn with
        | _ m ih63 =>
          intro ls σ F_63 A_63 x63_7 l63_0 l63_2 l63_3 l63_4 l63_6 l63_7 H hS_63 hA_63 y63_3_10 ey63_3_10  j63_0 j63_1 j63_2 j63_3 hm63
          have r21 : (-2147483648 : Int) ≤ y63_3_10 ∧ y63_3_10 ≤ 2147483647 := by have h1 : (-2147483648 : Int) ≤ F_63 3 10 ∧ F_63 3 10 ≤ 2147483647 := H.frng 3 10; rw [show F_63 3 10 = y63_3_10 from (ey63_3_10)] at h1; exact h1
          refine Ew_of (pc' := 65) (fun _ => x_iload rfl l63_7) ?_
          refine Ew_of (pc' := 66) (fun _ => x_iload_n rfl l63_2) ?_
          refine w_icmpge (t := 86) rfl rfl (show inr (x63_7) by omega) (show inr (a2) by omega) (fun b22 => ?_) (fun b22 => ?_)
          · refine Ew_of (pc' := 87) (fun _ => x_iload_n rfl l63_3) ?_
            refine w_ifne (t := 91) rfl rfl (show inr (a3) by omega) (fun b23 => ?_) (fun b23 => ?_)
            · refine Ew_of (pc' := 92) (fun _ => x_aload_n rfl l63_0) ?_
              refine Ew_of (pc' := 94) (fun _ => x_iload rfl l63_4) ?_
              refine Ew_of (pc' := 97) (fun _ => x_sipush (z := 256) rfl (by decide)) ?_
              refine w_irem rfl (show inr (a4) ∧ 0 ≤ a4 by omega) (show inr (256) ∧ 0 < 256 by omega) ?_
              refine w_inv H (o := 3) rfl rfl rfl (H.perm 3 rfl) rfl rfl (by rfl) (M363 H (y63_3_10) ((ey63_3_10)) (show inr ((a4 % 256)) by omega) (show 0 ≤ ((a4 % 256)) ∧ ((a4 % 256)) ≤ 255 by omega) (show 0 ≤ (y63_3_10) ∧ (y63_3_10) ≤ 100000000 by omega) (fun σ F24 A25 H hS26 hA27 y29 ey30 pz28_0 => ⟨rfl, ?_⟩))
              have r31 : (-2147483648 : Int) ≤ y29 ∧ y29 ≤ 2147483647 := by have h1 : (-2147483648 : Int) ≤ F24 3 10 ∧ F24 3 10 ≤ 2147483647 := H.frng 3 10; rw [show F24 3 10 = y29 from (ey30)] at h1; exact h1
              refine Ew_of (pc' := 102) (fun _ => x_aload_n rfl l63_0) ?_
              refine Ew_of (pc' := 104) (fun _ => x_iload rfl l63_4) ?_
              refine Ew_of (pc' := 107) (fun _ => x_sipush (z := 256) rfl (by decide)) ?_
              refine w_idiv rfl (show inr (a4) ∧ 0 ≤ a4 by omega) (show inr (256) ∧ 0 < 256 by omega) ?_
              refine w_inv H (o := 3) rfl rfl rfl (H.perm 3 rfl) rfl rfl (by rfl) (M363 H (y29) ((ey30)) (show inr ((a4 / 256)) by omega) (show 0 ≤ ((a4 / 256)) ∧ ((a4 / 256)) ≤ 255 by omega) (show 0 ≤ (y29) ∧ (y29) ≤ 100000000 by omega) (fun σ F32 A33 H hS34 hA35 y37 ey38 pz36_0 => ⟨rfl, ?_⟩))
              have r39 : (-2147483648 : Int) ≤ y37 ∧ y37 ≤ 2147483647 := by have h1 : (-2147483648 : Int) ≤ F32 3 10 ∧ F32 3 10 ≤ 2147483647 := H.frng 3 10; rw [show F32 3 10 = y37 from (ey38)] at h1; exact h1
              refine Ew_of (pc' := 112) (fun _ => x_aload_n rfl l63_0) ?_
              refine Ew_of (pc' := 114) (fun _ => x_iload rfl l63_6) ?_
              refine w_inv H (o := 3) rfl rfl rfl (H.perm 3 rfl) rfl rfl (by rfl) (M364 H (y37) ((ey38)) (show inr ((a3 - 4)) by omega) (show -10 ≤ ((a3 - 4)) ∧ ((a3 - 4)) ≤ 100000 by omega) (show 0 ≤ (y37) ∧ (y37) ≤ 10000000 by omega) (fun σ F40 A41 H hS42 hA43 y45 ey46 pz44_0 => ⟨rfl, ?_⟩))
              have r47 : (-2147483648 : Int) ≤ y45 ∧ y45 ≤ 2147483647 := by have h1 : (-2147483648 : Int) ≤ F40 3 10 ∧ F40 3 10 ≤ 2147483647 := H.frng 3 10; rw [show F40 3 10 = y45 from (ey46)] at h1; exact h1
              exact w_ret rfl (k σ _ _ H (SF_trans (SF_trans (SF_trans (SF_trans (SF_trans (SF_trans (SF_refl) hS7 (any_sub rfl)) hS15 (any_sub rfl)) hS_63 (any_sub rfl)) hS26 (any_sub rfl)) hS34 (any_sub rfl)) hS42 (any_sub rfl)) (SA_trans (SA_trans (SA_trans (SA_trans (SA_trans (SA_trans (SA_refl) hA8 (any_subA rfl)) hA16 (any_subA rfl)) hA_63 (any_subA rfl)) hA27 (any_subA rfl)) hA35 (any_subA rfl)) hA43 (any_subA rfl)) (y45) ((ey46)) (show (u3_10) ≤ (y45) ∧ (y45) ≤ (u3_10) + (a2 - a1) + 140 by omega))
            · exact w_ret rfl (k σ _ _ H (SF_trans (SF_trans (SF_trans (SF_refl) hS7 (any_sub rfl)) hS15 (any_sub rfl)) hS_63 (any_sub rfl)) (SA_trans (SA_trans (SA_trans (SA_refl) hA8 (any_subA rfl)) hA16 (any_subA rfl)) hA_63 (any_subA rfl)) (y63_3_10) ((ey63_3_10)) (show (u3_10) ≤ (y63_3_10) ∧ (y63_3_10) ≤ (u3_10) + (a2 - a1) + 140 by omega))
          · refine Ew_of (pc' := 70) (fun _ => x_aload_n rfl l63_0) ?_
            refine Ew_of (pc' := 71) (fun _ => x_aload_n rfl l63_0) ?_
            refine w_gT H (o := 3) (t := 18) rfl (H.perm 3 rfl) rfl rfl rfl rfl rfl rfl ?_
            refine Ew_of (pc' := 76) (fun _ => x_iload rfl l63_7) ?_
            refine w_lI H (o := 18) (n := 16384) rfl (H.perm 18 rfl) rfl rfl (H.fix 18 rfl rfl) (show 0 ≤ x63_7 ∧ x63_7 < ((16384 : Nat) : Int) by omega) (by decide) (fun v48 ev48 qv48 => ?_)
            have qv48 : (0 : Int) ≤ v48 ∧ v48 ≤ 255 := qv48
            have ev48 : (A 18) (x63_7) = v48 := (congrFun ((funext (hA_63 18 rfl)).trans ((funext (hA16 18 rfl)).trans (funext (hA8 18 rfl)))) (x63_7)).symm.trans ev48
            refine w_inv H (o := 3) rfl rfl rfl (H.perm 3 rfl) rfl rfl (by rfl) (M363 H (y63_3_10) ((ey63_3_10)) (show inr (v48) by omega) (show 0 ≤ (v48) ∧ (v48) ≤ 255 by omega) (show 0 ≤ (y63_3_10) ∧ (y63_3_10) ≤ 100000000 by omega) (fun σ F49 A50 H hS51 hA52 y54 ey55 pz53_0 => ⟨rfl, ?_⟩))
            have r56 : (-2147483648 : Int) ≤ y54 ∧ y54 ≤ 2147483647 := by have h1 : (-2147483648 : Int) ≤ F49 3 10 ∧ F49 3 10 ≤ 2147483647 := H.frng 3 10; rw [show F49 3 10 = y54 from (ey55)] at h1; exact h1
            refine Ew_of (pc' := 83) (fun _ => x_iinc (len := 3) rfl (l63_7)) ?_
            refine Ew_of (pc' := 63) (fun _ => x_goto rfl rfl) ?_
            exact ih63 _ (by omega) _ σ _ _ ((x63_7 + 1)) (rk_o (l63_0) rfl rfl) (rk_o (l63_2) rfl rfl) (rk_o (l63_3) rfl rfl) (rk_o (l63_4) rfl rfl) (rk_o (l63_6) rfl rfl) (rk_s) H (SF_trans (hS_63) hS51 (any_sub rfl)) (SA_trans (hA_63) hA52 (any_subA rfl)) (y54) ((ey55))  (show inr ((x63_7 + 1)) by omega) (show (a1) ≤ ((x63_7 + 1)) by omega) (show ((x63_7 + 1)) ≤ (a1) ∨ ((x63_7 + 1)) ≤ ((a2)) by omega) (show (y54) = (y18) + (((x63_7 + 1)) - (a1)) by omega) rfl
      · refine Ew_of (pc' := 45) (fun _ => x_bipush (z := 15) rfl (by decide)) ?_
        refine Ew_of (pc' := 50) (fun _ => x_goto rfl rfl) ?_
        refine w_iadd rfl ?_
        refine w_inv H (o := 3) rfl rfl rfl (H.perm 3 rfl) rfl rfl (by rfl) (M363 H (u3_10) ((eu3_10)) (show inr ((((a2 - a1) * 16) + 15)) by omega) (show 0 ≤ ((((a2 - a1) * 16) + 15)) ∧ ((((a2 - a1) * 16) + 15)) ≤ 255 by omega) (show 0 ≤ (u3_10) ∧ (u3_10) ≤ 100000000 by omega) (fun σ F57 A58 H hS59 hA60 y62 ey63 pz61_0 => ⟨rfl, ?_⟩))
        have r64 : (-2147483648 : Int) ≤ y62 ∧ y62 ≤ 2147483647 := by have h1 : (-2147483648 : Int) ≤ F57 3 10 ∧ F57 3 10 ≤ 2147483647 := H.frng 3 10; rw [show F57 3 10 = y62 from (ey63)] at h1; exact h1
        refine Ew_of (pc' := 55) (fun _ => x_aload_n rfl (rk_o (rk_o (rfl) rfl rfl) rfl rfl)) ?_
        refine Ew_of (pc' := 57) (fun _ => x_iload rfl (rk_o (rk_s) rfl rfl)) ?_
        refine w_inv H (o := 3) rfl rfl rfl (H.perm 3 rfl) rfl rfl (by rfl) (M364 H (y62) ((ey63)) (show inr ((a2 - a1)) by omega) (show -10 ≤ ((a2 - a1)) ∧ ((a2 - a1)) ≤ 100000 by omega) (show 0 ≤ (y62) ∧ (y62) ≤ 10000000 by omega) (fun σ F65 A66 H hS67 hA68 y70 ey71 pz69_0 => ⟨rfl, ?_⟩))
        have r72 : (-2147483648 : Int) ≤ y70 ∧ y70 ≤ 2147483647 := by have h1 : (-2147483648 : Int) ≤ F65 3 10 ∧ F65 3 10 ≤ 2147483647 := H.frng 3 10; rw [show F65 3 10 = y70 from (ey71)] at h1; exact h1
        refine Ew_of (pc' := 61) (fun _ => x_iload_n rfl (rk_o (rk_o (rfl) rfl rfl) rfl rfl)) ?_
        refine Ew_of (pc' := 63) (fun _ => x_istore rfl) ?_
        suffices hl63 : ∀ (m : Nat), ∀ (ls : rO) (σ : rS) (F_63 : hF) (A_63 : hA) (x63_7 : Int), rlook ls 0 = some (.ref (D 3)) → rlook ls 2 = some (I (a2)) → rlook ls 3 = some (I (a3)) → rlook ls 4 = some (I (a4)) → rlook ls 6 = some (I ((a3 - 4))) → rlook ls 7 = some (I (x63_7)) → HS σ0 σ D N F_63 A_63 → SF [(3, 10)] F65 F_63 → SA [20] A66 A_63 → ∀ y63_3_10 : Int, F_63 3 10 = y63_3_10 → (inr (x63_7)) → ((a1) ≤ (x63_7)) → ((x63_7) ≤ (a1) ∨ (x63_7) ≤ ((a2))) → ((y63_3_10) = (y70) + ((x63_7) - (a1))) → (((a2)) - (x63_7)).toNat = m → Ew 365 (d + 2) 63 ls [] σ c s Q from
          hl63 _ _ σ _ _ (a1) (rk_o (rk_o (rk_o (rfl) rfl rfl) rfl rfl) rfl rfl) (rk_o (rk_o (rk_o (rfl) rfl rfl) rfl rfl) rfl rfl) (rk_o (rk_o (rk_o (rfl) rfl rfl) rfl rfl) rfl rfl) (rk_o (rk_o (rk_o (rfl) rfl rfl) rfl rfl) rfl rfl) (rk_o (rk_s) rfl rfl) (rk_s) H (SF_refl) (SA_refl) (y70) ((ey71))  (show inr (a1) by omega) (show (a1) ≤ (a1) by omega) (show (a1) ≤ (a1) ∨ (a1) ≤ ((a2)) by omega) (show (y70) = (y70) + ((a1) - (a1)) by omega) rfl
        as_aux_lemma =>
        intro m
        induction m using Nat.strongRecOn with
        | _ m ih63 =>
          intro ls σ F_63 A_63 x63_7 l63_0 l63_2 l63_3 l63_4 l63_6 l63_7 H hS_63 hA_63 y63_3_10 ey63_3_10  j63_0 j63_1 j63_2 j63_3 hm63
          have r73 : (-2147483648 : Int) ≤ y63_3_10 ∧ y63_3_10 ≤ 2147483647 := by have h1 : (-2147483648 : Int) ≤ F_63 3 10 ∧ F_63 3 10 ≤ 2147483647 := H.frng 3 10; rw [show F_63 3 10 = y63_3_10 from (ey63_3_10)] at h1; exact h1
          refine Ew_of (pc' := 65) (fun _ => x_iload rfl l63_7) ?_
          refine Ew_of (pc' := 66) (fun _ => x_iload_n rfl l63_2) ?_
          refine w_icmpge (t := 86) rfl rfl (show inr (x63_7) by omega) (show inr (a2) by omega) (fun b74 => ?_) (fun b74 => ?_)
          · refine Ew_of (pc' := 87) (fun _ => x_iload_n rfl l63_3) ?_
            refine w_ifne (t := 91) rfl rfl (show inr (a3) by omega) (fun b75 => ?_) (fun b75 => ?_)
            · refine Ew_of (pc' := 92) (fun _ => x_aload_n rfl l63_0) ?_
              refine Ew_of (pc' := 94) (fun _ => x_iload rfl l63_4) ?_
              refine Ew_of (pc' := 97) (fun _ => x_sipush (z := 256) rfl (by decide)) ?_
              refine w_irem rfl (show inr (a4) ∧ 0 ≤ a4 by omega) (show inr (256) ∧ 0 < 256 by omega) ?_
              refine w_inv H (o := 3) rfl rfl rfl (H.perm 3 rfl) rfl rfl (by rfl) (M363 H (y63_3_10) ((ey63_3_10)) (show inr ((a4 % 256)) by omega) (show 0 ≤ ((a4 % 256)) ∧ ((a4 % 256)) ≤ 255 by omega) (show 0 ≤ (y63_3_10) ∧ (y63_3_10) ≤ 100000000 by omega) (fun σ F76 A77 H hS78 hA79 y81 ey82 pz80_0 => ⟨rfl, ?_⟩))
              have r83 : (-2147483648 : Int) ≤ y81 ∧ y81 ≤ 2147483647 := by have h1 : (-2147483648 : Int) ≤ F76 3 10 ∧ F76 3 10 ≤ 2147483647 := H.frng 3 10; rw [show F76 3 10 = y81 from (ey82)] at h1; exact h1
              refine Ew_of (pc' := 102) (fun _ => x_aload_n rfl l63_0) ?_
              refine Ew_of (pc' := 104) (fun _ => x_iload rfl l63_4) ?_
              refine Ew_of (pc' := 107) (fun _ => x_sipush (z := 256) rfl (by decide)) ?_
              refine w_idiv rfl (show inr (a4) ∧ 0 ≤ a4 by omega) (show inr (256) ∧ 0 < 256 by omega) ?_
              refine w_inv H (o := 3) rfl rfl rfl (H.perm 3 rfl) rfl rfl (by rfl) (M363 H (y81) ((ey82)) (show inr ((a4 / 256)) by omega) (show 0 ≤ ((a4 / 256)) ∧ ((a4 / 256)) ≤ 255 by omega) (show 0 ≤ (y81) ∧ (y81) ≤ 100000000 by omega) (fun σ F84 A85 H hS86 hA87 y89 ey90 pz88_0 => ⟨rfl, ?_⟩))
              have r91 : (-2147483648 : Int) ≤ y89 ∧ y89 ≤ 2147483647 := by have h1 : (-2147483648 : Int) ≤ F84 3 10 ∧ F84 3 10 ≤ 2147483647 := H.frng 3 10; rw [show F84 3 10 = y89 from (ey90)] at h1; exact h1
              refine Ew_of (pc' := 112) (fun _ => x_aload_n rfl l63_0) ?_
              refine Ew_of (pc' := 114) (fun _ => x_iload rfl l63_6) ?_
              refine w_inv H (o := 3) rfl rfl rfl (H.perm 3 rfl) rfl rfl (by rfl) (M364 H (y89) ((ey90)) (show inr ((a3 - 4)) by omega) (show -10 ≤ ((a3 - 4)) ∧ ((a3 - 4)) ≤ 100000 by omega) (show 0 ≤ (y89) ∧ (y89) ≤ 10000000 by omega) (fun σ F92 A93 H hS94 hA95 y97 ey98 pz96_0 => ⟨rfl, ?_⟩))
              have r99 : (-2147483648 : Int) ≤ y97 ∧ y97 ≤ 2147483647 := by have h1 : (-2147483648 : Int) ≤ F92 3 10 ∧ F92 3 10 ≤ 2147483647 := H.frng 3 10; rw [show F92 3 10 = y97 from (ey98)] at h1; exact h1
              exact w_ret rfl (k σ _ _ H (SF_trans (SF_trans (SF_trans (SF_trans (SF_trans (SF_trans (SF_refl) hS59 (any_sub rfl)) hS67 (any_sub rfl)) hS_63 (any_sub rfl)) hS78 (any_sub rfl)) hS86 (any_sub rfl)) hS94 (any_sub rfl)) (SA_trans (SA_trans (SA_trans (SA_trans (SA_trans (SA_trans (SA_refl) hA60 (any_subA rfl)) hA68 (any_subA rfl)) hA_63 (any_subA rfl)) hA79 (any_subA rfl)) hA87 (any_subA rfl)) hA95 (any_subA rfl)) (y97) ((ey98)) (show (u3_10) ≤ (y97) ∧ (y97) ≤ (u3_10) + (a2 - a1) + 140 by omega))
            · exact w_ret rfl (k σ _ _ H (SF_trans (SF_trans (SF_trans (SF_refl) hS59 (any_sub rfl)) hS67 (any_sub rfl)) hS_63 (any_sub rfl)) (SA_trans (SA_trans (SA_trans (SA_refl) hA60 (any_subA rfl)) hA68 (any_subA rfl)) hA_63 (any_subA rfl)) (y63_3_10) ((ey63_3_10)) (show (u3_10) ≤ (y63_3_10) ∧ (y63_3_10) ≤ (u3_10) + (a2 - a1) + 140 by omega))
          · refine Ew_of (pc' := 70) (fun _ => x_aload_n rfl l63_0) ?_
            refine Ew_of (pc' := 71) (fun _ => x_aload_n rfl l63_0) ?_
            refine w_gT H (o := 3) (t := 18) rfl (H.perm 3 rfl) rfl rfl rfl rfl rfl rfl ?_
            refine Ew_of (pc' := 76) (fun _ => x_iload rfl l63_7) ?_
            refine w_lI H (o := 18) (n := 16384) rfl (H.perm 18 rfl) rfl rfl (H.fix 18 rfl rfl) (show 0 ≤ x63_7 ∧ x63_7 < ((16384 : Nat) : Int) by omega) (by decide) (fun v100 ev100 qv100 => ?_)
            have qv100 : (0 : Int) ≤ v100 ∧ v100 ≤ 255 := qv100
            have ev100 : (A 18) (x63_7) = v100 := (congrFun ((funext (hA_63 18 rfl)).trans ((funext (hA68 18 rfl)).trans (funext (hA60 18 rfl)))) (x63_7)).symm.trans ev100
            refine w_inv H (o := 3) rfl rfl rfl (H.perm 3 rfl) rfl rfl (by rfl) (M363 H (y63_3_10) ((ey63_3_10)) (show inr (v100) by omega) (show 0 ≤ (v100) ∧ (v100) ≤ 255 by omega) (show 0 ≤ (y63_3_10) ∧ (y63_3_10) ≤ 100000000 by omega) (fun σ F101 A102 H hS103 hA104 y106 ey107 pz105_0 => ⟨rfl, ?_⟩))
            have r108 : (-2147483648 : Int) ≤ y106 ∧ y106 ≤ 2147483647 := by have h1 : (-2147483648 : Int) ≤ F101 3 10 ∧ F101 3 10 ≤ 2147483647 := H.frng 3 10; rw [show F101 3 10 = y106 from (ey107)] at h1; exact h1
            refine Ew_of (pc' := 83) (fun _ => x_iinc (len := 3) rfl (l63_7)) ?_
            refine Ew_of (pc' := 63) (fun _ => x_goto rfl rfl) ?_
            exact ih63 _ (by omega) _ σ _ _ ((x63_7 + 1)) (rk_o (l63_0) rfl rfl) (rk_o (l63_2) rfl rfl) (rk_o (l63_3) rfl rfl) (rk_o (l63_4) rfl rfl) (rk_o (l63_6) rfl rfl) (rk_s) H (SF_trans (hS_63) hS103 (any_sub rfl)) (SA_trans (hA_63) hA104 (any_subA rfl)) (y106) ((ey107))  (show inr ((x63_7 + 1)) by omega) (show (a1) ≤ ((x63_7 + 1)) by omega) (show ((x63_7 + 1)) ≤ (a1) ∨ ((x63_7 + 1)) ≤ ((a2)) by omega) (show (y106) = (y70) + (((x63_7 + 1)) - (a1)) by omega) rfl
    · refine Ew_of (pc' := 33) (fun _ => x_iconst rfl) ?_
      refine Ew_of (pc' := 50) (fun _ => x_goto rfl rfl) ?_
      refine w_iadd rfl ?_
      refine w_inv H (o := 3) rfl rfl rfl (H.perm 3 rfl) rfl rfl (by rfl) (M363 H (u3_10) ((eu3_10)) (show inr ((((a2 - a1) * 16) + 0)) by omega) (show 0 ≤ ((((a2 - a1) * 16) + 0)) ∧ ((((a2 - a1) * 16) + 0)) ≤ 255 by omega) (show 0 ≤ (u3_10) ∧ (u3_10) ≤ 100000000 by omega) (fun σ F109 A110 H hS111 hA112 y114 ey115 pz113_0 => ⟨rfl, ?_⟩))
      have r116 : (-2147483648 : Int) ≤ y114 ∧ y114 ≤ 2147483647 := by have h1 : (-2147483648 : Int) ≤ F109 3 10 ∧ F109 3 10 ≤ 2147483647 := H.frng 3 10; rw [show F109 3 10 = y114 from (ey115)] at h1; exact h1
      refine Ew_of (pc' := 55) (fun _ => x_aload_n rfl (rk_o (rk_o (rfl) rfl rfl) rfl rfl)) ?_
      refine Ew_of (pc' := 57) (fun _ => x_iload rfl (rk_o (rk_s) rfl rfl)) ?_
      refine w_inv H (o := 3) rfl rfl rfl (H.perm 3 rfl) rfl rfl (by rfl) (M364 H (y114) ((ey115)) (show inr ((a2 - a1)) by omega) (show -10 ≤ ((a2 - a1)) ∧ ((a2 - a1)) ≤ 100000 by omega) (show 0 ≤ (y114) ∧ (y114) ≤ 10000000 by omega) (fun σ F117 A118 H hS119 hA120 y122 ey123 pz121_0 => ⟨rfl, ?_⟩))
      have r124 : (-2147483648 : Int) ≤ y122 ∧ y122 ≤ 2147483647 := by have h1 : (-2147483648 : Int) ≤ F117 3 10 ∧ F117 3 10 ≤ 2147483647 := H.frng 3 10; rw [show F117 3 10 = y122 from (ey123)] at h1; exact h1
      refine Ew_of (pc' := 61) (fun _ => x_iload_n rfl (rk_o (rk_o (rfl) rfl rfl) rfl rfl)) ?_
      refine Ew_of (pc' := 63) (fun _ => x_istore rfl) ?_
      suffices hl63 : ∀ (m : Nat), ∀ (ls : rO) (σ : rS) (F_63 : hF) (A_63 : hA) (x63_7 : Int), rlook ls 0 = some (.ref (D 3)) → rlook ls 2 = some (I (a2)) → rlook ls 3 = some (I (a3)) → rlook ls 4 = some (I (a4)) → rlook ls 6 = some (I ((a3 - 4))) → rlook ls 7 = some (I (x63_7)) → HS σ0 σ D N F_63 A_63 → SF [(3, 10)] F117 F_63 → SA [20] A118 A_63 → ∀ y63_3_10 : Int, F_63 3 10 = y63_3_10 → (inr (x63_7)) → ((a1) ≤ (x63_7)) → ((x63_7) ≤ (a1) ∨ (x63_7) ≤ ((a2))) → ((y63_3_10) = (y122) + ((x63_7) - (a1))) → (((a2)) - (x63_7)).toNat = m → Ew 365 (d + 2) 63 ls [] σ c s Q from
        hl63 _ _ σ _ _ (a1) (rk_o (rk_o (rk_o (rfl) rfl rfl) rfl rfl) rfl rfl) (rk_o (rk_o (rk_o (rfl) rfl rfl) rfl rfl) rfl rfl) (rk_o (rk_o (rk_o (rfl) rfl rfl) rfl rfl) rfl rfl) (rk_o (rk_o (rk_o (rfl) rfl rfl) rfl rfl) rfl rfl) (rk_o (rk_s) rfl rfl) (rk_s) H (SF_refl) (SA_refl) (y122) ((ey123))  (show inr (a1) by omega) (show (a1) ≤ (a1) by omega) (show (a1) ≤ (a1) ∨ (a1) ≤ ((a2)) by omega) (show (y122) = (y122) + ((a1) - (a1)) by omega) rfl
      as_aux_lemma =>
      intro m
      induction m using Nat.strongRecOn with
      | _ m ih63 =>
        intro ls σ F_63 A_63 x63_7 l63_0 l63_2 l63_3 l63_4 l63_6 l63_7 H hS_63 hA_63 y63_3_10 ey63_3_10  j63_0 j63_1 j63_2 j63_3 hm63
        have r125 : (-2147483648 : Int) ≤ y63_3_10 ∧ y63_3_10 ≤ 2147483647 := by have h1 : (-2147483648 : Int) ≤ F_63 3 10 ∧ F_63 3 10 ≤ 2147483647 := H.frng 3 10; rw [show F_63 3 10 = y63_3_10 from (ey63_3_10)] at h1; exact h1
        refine Ew_of (pc' := 65) (fun _ => x_iload rfl l63_7) ?_
        refine Ew_of (pc' := 66) (fun _ => x_iload_n rfl l63_2) ?_
        refine w_icmpge (t := 86) rfl rfl (show inr (x63_7) by omega) (show inr (a2) by omega) (fun b126 => ?_) (fun b126 => ?_)
        · refine Ew_of (pc' := 87) (fun _ => x_iload_n rfl l63_3) ?_
          refine w_ifne (t := 91) rfl rfl (show inr (a3) by omega) (fun b127 => ?_) (fun b127 => ?_)
          · refine Ew_of (pc' := 92) (fun _ => x_aload_n rfl l63_0) ?_
            refine Ew_of (pc' := 94) (fun _ => x_iload rfl l63_4) ?_
            refine Ew_of (pc' := 97) (fun _ => x_sipush (z := 256) rfl (by decide)) ?_
            refine w_irem rfl (show inr (a4) ∧ 0 ≤ a4 by omega) (show inr (256) ∧ 0 < 256 by omega) ?_
            refine w_inv H (o := 3) rfl rfl rfl (H.perm 3 rfl) rfl rfl (by rfl) (M363 H (y63_3_10) ((ey63_3_10)) (show inr ((a4 % 256)) by omega) (show 0 ≤ ((a4 % 256)) ∧ ((a4 % 256)) ≤ 255 by omega) (show 0 ≤ (y63_3_10) ∧ (y63_3_10) ≤ 100000000 by omega) (fun σ F128 A129 H hS130 hA131 y133 ey134 pz132_0 => ⟨rfl, ?_⟩))
            have r135 : (-2147483648 : Int) ≤ y133 ∧ y133 ≤ 2147483647 := by have h1 : (-2147483648 : Int) ≤ F128 3 10 ∧ F128 3 10 ≤ 2147483647 := H.frng 3 10; rw [show F128 3 10 = y133 from (ey134)] at h1; exact h1
            refine Ew_of (pc' := 102) (fun _ => x_aload_n rfl l63_0) ?_
            refine Ew_of (pc' := 104) (fun _ => x_iload rfl l63_4) ?_
            refine Ew_of (pc' := 107) (fun _ => x_sipush (z := 256) rfl (by decide)) ?_
            refine w_idiv rfl (show inr (a4) ∧ 0 ≤ a4 by omega) (show inr (256) ∧ 0 < 256 by omega) ?_
            refine w_inv H (o := 3) rfl rfl rfl (H.perm 3 rfl) rfl rfl (by rfl) (M363 H (y133) ((ey134)) (show inr ((a4 / 256)) by omega) (show 0 ≤ ((a4 / 256)) ∧ ((a4 / 256)) ≤ 255 by omega) (show 0 ≤ (y133) ∧ (y133) ≤ 100000000 by omega) (fun σ F136 A137 H hS138 hA139 y141 ey142 pz140_0 => ⟨rfl, ?_⟩))
            have r143 : (-2147483648 : Int) ≤ y141 ∧ y141 ≤ 2147483647 := by have h1 : (-2147483648 : Int) ≤ F136 3 10 ∧ F136 3 10 ≤ 2147483647 := H.frng 3 10; rw [show F136 3 10 = y141 from (ey142)] at h1; exact h1
            refine Ew_of (pc' := 112) (fun _ => x_aload_n rfl l63_0) ?_
            refine Ew_of (pc' := 114) (fun _ => x_iload rfl l63_6) ?_
            refine w_inv H (o := 3) rfl rfl rfl (H.perm 3 rfl) rfl rfl (by rfl) (M364 H (y141) ((ey142)) (show inr ((a3 - 4)) by omega) (show -10 ≤ ((a3 - 4)) ∧ ((a3 - 4)) ≤ 100000 by omega) (show 0 ≤ (y141) ∧ (y141) ≤ 10000000 by omega) (fun σ F144 A145 H hS146 hA147 y149 ey150 pz148_0 => ⟨rfl, ?_⟩))
            have r151 : (-2147483648 : Int) ≤ y149 ∧ y149 ≤ 2147483647 := by have h1 : (-2147483648 : Int) ≤ F144 3 10 ∧ F144 3 10 ≤ 2147483647 := H.frng 3 10; rw [show F144 3 10 = y149 from (ey150)] at h1; exact h1
            exact w_ret rfl (k σ _ _ H (SF_trans (SF_trans (SF_trans (SF_trans (SF_trans (SF_trans (SF_refl) hS111 (any_sub rfl)) hS119 (any_sub rfl)) hS_63 (any_sub rfl)) hS130 (any_sub rfl)) hS138 (any_sub rfl)) hS146 (any_sub rfl)) (SA_trans (SA_trans (SA_trans (SA_trans (SA_trans (SA_trans (SA_refl) hA112 (any_subA rfl)) hA120 (any_subA rfl)) hA_63 (any_subA rfl)) hA131 (any_subA rfl)) hA139 (any_subA rfl)) hA147 (any_subA rfl)) (y149) ((ey150)) (show (u3_10) ≤ (y149) ∧ (y149) ≤ (u3_10) + (a2 - a1) + 140 by omega))
          · exact w_ret rfl (k σ _ _ H (SF_trans (SF_trans (SF_trans (SF_refl) hS111 (any_sub rfl)) hS119 (any_sub rfl)) hS_63 (any_sub rfl)) (SA_trans (SA_trans (SA_trans (SA_refl) hA112 (any_subA rfl)) hA120 (any_subA rfl)) hA_63 (any_subA rfl)) (y63_3_10) ((ey63_3_10)) (show (u3_10) ≤ (y63_3_10) ∧ (y63_3_10) ≤ (u3_10) + (a2 - a1) + 140 by omega))
        · refine Ew_of (pc' := 70) (fun _ => x_aload_n rfl l63_0) ?_
          refine Ew_of (pc' := 71) (fun _ => x_aload_n rfl l63_0) ?_
          refine w_gT H (o := 3) (t := 18) rfl (H.perm 3 rfl) rfl rfl rfl rfl rfl rfl ?_
          refine Ew_of (pc' := 76) (fun _ => x_iload rfl l63_7) ?_
          refine w_lI H (o := 18) (n := 16384) rfl (H.perm 18 rfl) rfl rfl (H.fix 18 rfl rfl) (show 0 ≤ x63_7 ∧ x63_7 < ((16384 : Nat) : Int) by omega) (by decide) (fun v152 ev152 qv152 => ?_)
          have qv152 : (0 : Int) ≤ v152 ∧ v152 ≤ 255 := qv152
          have ev152 : (A 18) (x63_7) = v152 := (congrFun ((funext (hA_63 18 rfl)).trans ((funext (hA120 18 rfl)).trans (funext (hA112 18 rfl)))) (x63_7)).symm.trans ev152
          refine w_inv H (o := 3) rfl rfl rfl (H.perm 3 rfl) rfl rfl (by rfl) (M363 H (y63_3_10) ((ey63_3_10)) (show inr (v152) by omega) (show 0 ≤ (v152) ∧ (v152) ≤ 255 by omega) (show 0 ≤ (y63_3_10) ∧ (y63_3_10) ≤ 100000000 by omega) (fun σ F153 A154 H hS155 hA156 y158 ey159 pz157_0 => ⟨rfl, ?_⟩))
          have r160 : (-2147483648 : Int) ≤ y158 ∧ y158 ≤ 2147483647 := by have h1 : (-2147483648 : Int) ≤ F153 3 10 ∧ F153 3 10 ≤ 2147483647 := H.frng 3 10; rw [show F153 3 10 = y158 from (ey159)] at h1; exact h1
          refine Ew_of (pc' := 83) (fun _ => x_iinc (len := 3) rfl (l63_7)) ?_
          refine Ew_of (pc' := 63) (fun _ => x_goto rfl rfl) ?_
          exact ih63 _ (by omega) _ σ _ _ ((x63_7 + 1)) (rk_o (l63_0) rfl rfl) (rk_o (l63_2) rfl rfl) (rk_o (l63_3) rfl rfl) (rk_o (l63_4) rfl rfl) (rk_o (l63_6) rfl rfl) (rk_s) H (SF_trans (hS_63) hS155 (any_sub rfl)) (SA_trans (hA_63) hA156 (any_subA rfl)) (y158) ((ey159))  (show inr ((x63_7 + 1)) by omega) (show (a1) ≤ ((x63_7 + 1)) by omega) (show ((x63_7 + 1)) ≤ (a1) ∨ ((x63_7 + 1)) ≤ ((a2)) by omega) (show (y158) = (y122) + (((x63_7 + 1)) - (a1)) by omega) rfl
  · refine Ew_of (pc' := 20) (fun _ => x_bipush (z := 15) rfl (by decide)) ?_
    refine Ew_of (pc' := 25) (fun _ => x_goto rfl rfl) ?_
    refine Ew_of (pc' := 27) (fun _ => x_bipush (z := 16) rfl (by decide)) ?_
    refine w_imul rfl ?_
    refine Ew_of (pc' := 29) (fun _ => x_iload_n rfl (rk_o (rk_o (rfl) rfl rfl) rfl rfl)) ?_
    refine w_ifne (t := 36) rfl rfl (show inr (a3) by omega) (fun b161 => ?_) (fun b161 => ?_)
    · refine Ew_of (pc' := 38) (fun _ => x_iload rfl rk_s) ?_
      refine Ew_of (pc' := 40) (fun _ => x_bipush (z := 15) rfl (by decide)) ?_
      refine w_icmple (t := 48) rfl rfl (show inr ((a3 - 4)) by omega) (show inr (15) by omega) (fun b162 => ?_) (fun b162 => ?_)
      · refine Ew_of (pc' := 50) (fun _ => x_iload rfl rk_s) ?_
        refine w_iadd rfl ?_
        refine w_inv H (o := 3) rfl rfl rfl (H.perm 3 rfl) rfl rfl (by rfl) (M363 H (u3_10) ((eu3_10)) (show inr (((15 * 16) + (a3 - 4))) by omega) (show 0 ≤ (((15 * 16) + (a3 - 4))) ∧ (((15 * 16) + (a3 - 4))) ≤ 255 by omega) (show 0 ≤ (u3_10) ∧ (u3_10) ≤ 100000000 by omega) (fun σ F163 A164 H hS165 hA166 y168 ey169 pz167_0 => ⟨rfl, ?_⟩))
        have r170 : (-2147483648 : Int) ≤ y168 ∧ y168 ≤ 2147483647 := by have h1 : (-2147483648 : Int) ≤ F163 3 10 ∧ F163 3 10 ≤ 2147483647 := H.frng 3 10; rw [show F163 3 10 = y168 from (ey169)] at h1; exact h1
        refine Ew_of (pc' := 55) (fun _ => x_aload_n rfl (rk_o (rk_o (rfl) rfl rfl) rfl rfl)) ?_
        refine Ew_of (pc' := 57) (fun _ => x_iload rfl (rk_o (rk_s) rfl rfl)) ?_
        refine w_inv H (o := 3) rfl rfl rfl (H.perm 3 rfl) rfl rfl (by rfl) (M364 H (y168) ((ey169)) (show inr ((a2 - a1)) by omega) (show -10 ≤ ((a2 - a1)) ∧ ((a2 - a1)) ≤ 100000 by omega) (show 0 ≤ (y168) ∧ (y168) ≤ 10000000 by omega) (fun σ F171 A172 H hS173 hA174 y176 ey177 pz175_0 => ⟨rfl, ?_⟩))
        have r178 : (-2147483648 : Int) ≤ y176 ∧ y176 ≤ 2147483647 := by have h1 : (-2147483648 : Int) ≤ F171 3 10 ∧ F171 3 10 ≤ 2147483647 := H.frng 3 10; rw [show F171 3 10 = y176 from (ey177)] at h1; exact h1
        refine Ew_of (pc' := 61) (fun _ => x_iload_n rfl (rk_o (rk_o (rfl) rfl rfl) rfl rfl)) ?_
        refine Ew_of (pc' := 63) (fun _ => x_istore rfl) ?_
        suffices hl63 : ∀ (m : Nat), ∀ (ls : rO) (σ : rS) (F_63 : hF) (A_63 : hA) (x63_7 : Int), rlook ls 0 = some (.ref (D 3)) → rlook ls 2 = some (I (a2)) → rlook ls 3 = some (I (a3)) → rlook ls 4 = some (I (a4)) → rlook ls 6 = some (I ((a3 - 4))) → rlook ls 7 = some (I (x63_7)) → HS σ0 σ D N F_63 A_63 → SF [(3, 10)] F171 F_63 → SA [20] A172 A_63 → ∀ y63_3_10 : Int, F_63 3 10 = y63_3_10 → (inr (x63_7)) → ((a1) ≤ (x63_7)) → ((x63_7) ≤ (a1) ∨ (x63_7) ≤ ((a2))) → ((y63_3_10) = (y176) + ((x63_7) - (a1))) → (((a2)) - (x63_7)).toNat = m → Ew 365 (d + 2) 63 ls [] σ c s Q from
          hl63 _ _ σ _ _ (a1) (rk_o (rk_o (rk_o (rfl) rfl rfl) rfl rfl) rfl rfl) (rk_o (rk_o (rk_o (rfl) rfl rfl) rfl rfl) rfl rfl) (rk_o (rk_o (rk_o (rfl) rfl rfl) rfl rfl) rfl rfl) (rk_o (rk_o (rk_o (rfl) rfl rfl) rfl rfl) rfl rfl) (rk_o (rk_s) rfl rfl) (rk_s) H (SF_refl) (SA_refl) (y176) ((ey177))  (show inr (a1) by omega) (show (a1) ≤ (a1) by omega) (show (a1) ≤ (a1) ∨ (a1) ≤ ((a2)) by omega) (show (y176) = (y176) + ((a1) - (a1)) by omega) rfl
        as_aux_lemma =>
        intro m
        induction m using Nat.strongRecOn with
        | _ m ih63 =>
          intro ls σ F_63 A_63 x63_7 l63_0 l63_2 l63_3 l63_4 l63_6 l63_7 H hS_63 hA_63 y63_3_10 ey63_3_10  j63_0 j63_1 j63_2 j63_3 hm63
          have r179 : (-2147483648 : Int) ≤ y63_3_10 ∧ y63_3_10 ≤ 2147483647 := by have h1 : (-2147483648 : Int) ≤ F_63 3 10 ∧ F_63 3 10 ≤ 2147483647 := H.frng 3 10; rw [show F_63 3 10 = y63_3_10 from (ey63_3_10)] at h1; exact h1
          refine Ew_of (pc' := 65) (fun _ => x_iload rfl l63_7) ?_
          refine Ew_of (pc' := 66) (fun _ => x_iload_n rfl l63_2) ?_
          refine w_icmpge (t := 86) rfl rfl (show inr (x63_7) by omega) (show inr (a2) by omega) (fun b180 => ?_) (fun b180 => ?_)
          · refine Ew_of (pc' := 87) (fun _ => x_iload_n rfl l63_3) ?_
            refine w_ifne (t := 91) rfl rfl (show inr (a3) by omega) (fun b181 => ?_) (fun b181 => ?_)
            · refine Ew_of (pc' := 92) (fun _ => x_aload_n rfl l63_0) ?_
              refine Ew_of (pc' := 94) (fun _ => x_iload rfl l63_4) ?_
              refine Ew_of (pc' := 97) (fun _ => x_sipush (z := 256) rfl (by decide)) ?_
              refine w_irem rfl (show inr (a4) ∧ 0 ≤ a4 by omega) (show inr (256) ∧ 0 < 256 by omega) ?_
              refine w_inv H (o := 3) rfl rfl rfl (H.perm 3 rfl) rfl rfl (by rfl) (M363 H (y63_3_10) ((ey63_3_10)) (show inr ((a4 % 256)) by omega) (show 0 ≤ ((a4 % 256)) ∧ ((a4 % 256)) ≤ 255 by omega) (show 0 ≤ (y63_3_10) ∧ (y63_3_10) ≤ 100000000 by omega) (fun σ F182 A183 H hS184 hA185 y187 ey188 pz186_0 => ⟨rfl, ?_⟩))
              have r189 : (-2147483648 : Int) ≤ y187 ∧ y187 ≤ 2147483647 := by have h1 : (-2147483648 : Int) ≤ F182 3 10 ∧ F182 3 10 ≤ 2147483647 := H.frng 3 10; rw [show F182 3 10 = y187 from (ey188)] at h1; exact h1
              refine Ew_of (pc' := 102) (fun _ => x_aload_n rfl l63_0) ?_
              refine Ew_of (pc' := 104) (fun _ => x_iload rfl l63_4) ?_
              refine Ew_of (pc' := 107) (fun _ => x_sipush (z := 256) rfl (by decide)) ?_
              refine w_idiv rfl (show inr (a4) ∧ 0 ≤ a4 by omega) (show inr (256) ∧ 0 < 256 by omega) ?_
              refine w_inv H (o := 3) rfl rfl rfl (H.perm 3 rfl) rfl rfl (by rfl) (M363 H (y187) ((ey188)) (show inr ((a4 / 256)) by omega) (show 0 ≤ ((a4 / 256)) ∧ ((a4 / 256)) ≤ 255 by omega) (show 0 ≤ (y187) ∧ (y187) ≤ 100000000 by omega) (fun σ F190 A191 H hS192 hA193 y195 ey196 pz194_0 => ⟨rfl, ?_⟩))
              have r197 : (-2147483648 : Int) ≤ y195 ∧ y195 ≤ 2147483647 := by have h1 : (-2147483648 : Int) ≤ F190 3 10 ∧ F190 3 10 ≤ 2147483647 := H.frng 3 10; rw [show F190 3 10 = y195 from (ey196)] at h1; exact h1
              refine Ew_of (pc' := 112) (fun _ => x_aload_n rfl l63_0) ?_
              refine Ew_of (pc' := 114) (fun _ => x_iload rfl l63_6) ?_
              refine w_inv H (o := 3) rfl rfl rfl (H.perm 3 rfl) rfl rfl (by rfl) (M364 H (y195) ((ey196)) (show inr ((a3 - 4)) by omega) (show -10 ≤ ((a3 - 4)) ∧ ((a3 - 4)) ≤ 100000 by omega) (show 0 ≤ (y195) ∧ (y195) ≤ 10000000 by omega) (fun σ F198 A199 H hS200 hA201 y203 ey204 pz202_0 => ⟨rfl, ?_⟩))
              have r205 : (-2147483648 : Int) ≤ y203 ∧ y203 ≤ 2147483647 := by have h1 : (-2147483648 : Int) ≤ F198 3 10 ∧ F198 3 10 ≤ 2147483647 := H.frng 3 10; rw [show F198 3 10 = y203 from (ey204)] at h1; exact h1
              exact w_ret rfl (k σ _ _ H (SF_trans (SF_trans (SF_trans (SF_trans (SF_trans (SF_trans (SF_refl) hS165 (any_sub rfl)) hS173 (any_sub rfl)) hS_63 (any_sub rfl)) hS184 (any_sub rfl)) hS192 (any_sub rfl)) hS200 (any_sub rfl)) (SA_trans (SA_trans (SA_trans (SA_trans (SA_trans (SA_trans (SA_refl) hA166 (any_subA rfl)) hA174 (any_subA rfl)) hA_63 (any_subA rfl)) hA185 (any_subA rfl)) hA193 (any_subA rfl)) hA201 (any_subA rfl)) (y203) ((ey204)) (show (u3_10) ≤ (y203) ∧ (y203) ≤ (u3_10) + (a2 - a1) + 140 by omega))
            · exact w_ret rfl (k σ _ _ H (SF_trans (SF_trans (SF_trans (SF_refl) hS165 (any_sub rfl)) hS173 (any_sub rfl)) hS_63 (any_sub rfl)) (SA_trans (SA_trans (SA_trans (SA_refl) hA166 (any_subA rfl)) hA174 (any_subA rfl)) hA_63 (any_subA rfl)) (y63_3_10) ((ey63_3_10)) (show (u3_10) ≤ (y63_3_10) ∧ (y63_3_10) ≤ (u3_10) + (a2 - a1) + 140 by omega))
          · refine Ew_of (pc' := 70) (fun _ => x_aload_n rfl l63_0) ?_
            refine Ew_of (pc' := 71) (fun _ => x_aload_n rfl l63_0) ?_
            refine w_gT H (o := 3) (t := 18) rfl (H.perm 3 rfl) rfl rfl rfl rfl rfl rfl ?_
            refine Ew_of (pc' := 76) (fun _ => x_iload rfl l63_7) ?_
            refine w_lI H (o := 18) (n := 16384) rfl (H.perm 18 rfl) rfl rfl (H.fix 18 rfl rfl) (show 0 ≤ x63_7 ∧ x63_7 < ((16384 : Nat) : Int) by omega) (by decide) (fun v206 ev206 qv206 => ?_)
            have qv206 : (0 : Int) ≤ v206 ∧ v206 ≤ 255 := qv206
            have ev206 : (A 18) (x63_7) = v206 := (congrFun ((funext (hA_63 18 rfl)).trans ((funext (hA174 18 rfl)).trans (funext (hA166 18 rfl)))) (x63_7)).symm.trans ev206
            refine w_inv H (o := 3) rfl rfl rfl (H.perm 3 rfl) rfl rfl (by rfl) (M363 H (y63_3_10) ((ey63_3_10)) (show inr (v206) by omega) (show 0 ≤ (v206) ∧ (v206) ≤ 255 by omega) (show 0 ≤ (y63_3_10) ∧ (y63_3_10) ≤ 100000000 by omega) (fun σ F207 A208 H hS209 hA210 y212 ey213 pz211_0 => ⟨rfl, ?_⟩))
            have r214 : (-2147483648 : Int) ≤ y212 ∧ y212 ≤ 2147483647 := by have h1 : (-2147483648 : Int) ≤ F207 3 10 ∧ F207 3 10 ≤ 2147483647 := H.frng 3 10; rw [show F207 3 10 = y212 from (ey213)] at h1; exact h1
            refine Ew_of (pc' := 83) (fun _ => x_iinc (len := 3) rfl (l63_7)) ?_
            refine Ew_of (pc' := 63) (fun _ => x_goto rfl rfl) ?_
            exact ih63 _ (by omega) _ σ _ _ ((x63_7 + 1)) (rk_o (l63_0) rfl rfl) (rk_o (l63_2) rfl rfl) (rk_o (l63_3) rfl rfl) (rk_o (l63_4) rfl rfl) (rk_o (l63_6) rfl rfl) (rk_s) H (SF_trans (hS_63) hS209 (any_sub rfl)) (SA_trans (hA_63) hA210 (any_subA rfl)) (y212) ((ey213))  (show inr ((x63_7 + 1)) by omega) (show (a1) ≤ ((x63_7 + 1)) by omega) (show ((x63_7 + 1)) ≤ (a1) ∨ ((x63_7 + 1)) ≤ ((a2)) by omega) (show (y212) = (y176) + (((x63_7 + 1)) - (a1)) by omega) rfl
      · refine Ew_of (pc' := 45) (fun _ => x_bipush (z := 15) rfl (by decide)) ?_
        refine Ew_of (pc' := 50) (fun _ => x_goto rfl rfl) ?_
        refine w_iadd rfl ?_
        refine w_inv H (o := 3) rfl rfl rfl (H.perm 3 rfl) rfl rfl (by rfl) (M363 H (u3_10) ((eu3_10)) (show inr (((15 * 16) + 15)) by omega) (show 0 ≤ (((15 * 16) + 15)) ∧ (((15 * 16) + 15)) ≤ 255 by omega) (show 0 ≤ (u3_10) ∧ (u3_10) ≤ 100000000 by omega) (fun σ F215 A216 H hS217 hA218 y220 ey221 pz219_0 => ⟨rfl, ?_⟩))
        have r222 : (-2147483648 : Int) ≤ y220 ∧ y220 ≤ 2147483647 := by have h1 : (-2147483648 : Int) ≤ F215 3 10 ∧ F215 3 10 ≤ 2147483647 := H.frng 3 10; rw [show F215 3 10 = y220 from (ey221)] at h1; exact h1
        refine Ew_of (pc' := 55) (fun _ => x_aload_n rfl (rk_o (rk_o (rfl) rfl rfl) rfl rfl)) ?_
        refine Ew_of (pc' := 57) (fun _ => x_iload rfl (rk_o (rk_s) rfl rfl)) ?_
        refine w_inv H (o := 3) rfl rfl rfl (H.perm 3 rfl) rfl rfl (by rfl) (M364 H (y220) ((ey221)) (show inr ((a2 - a1)) by omega) (show -10 ≤ ((a2 - a1)) ∧ ((a2 - a1)) ≤ 100000 by omega) (show 0 ≤ (y220) ∧ (y220) ≤ 10000000 by omega) (fun σ F223 A224 H hS225 hA226 y228 ey229 pz227_0 => ⟨rfl, ?_⟩))
        have r230 : (-2147483648 : Int) ≤ y228 ∧ y228 ≤ 2147483647 := by have h1 : (-2147483648 : Int) ≤ F223 3 10 ∧ F223 3 10 ≤ 2147483647 := H.frng 3 10; rw [show F223 3 10 = y228 from (ey229)] at h1; exact h1
        refine Ew_of (pc' := 61) (fun _ => x_iload_n rfl (rk_o (rk_o (rfl) rfl rfl) rfl rfl)) ?_
        refine Ew_of (pc' := 63) (fun _ => x_istore rfl) ?_
        suffices hl63 : ∀ (m : Nat), ∀ (ls : rO) (σ : rS) (F_63 : hF) (A_63 : hA) (x63_7 : Int), rlook ls 0 = some (.ref (D 3)) → rlook ls 2 = some (I (a2)) → rlook ls 3 = some (I (a3)) → rlook ls 4 = some (I (a4)) → rlook ls 6 = some (I ((a3 - 4))) → rlook ls 7 = some (I (x63_7)) → HS σ0 σ D N F_63 A_63 → SF [(3, 10)] F223 F_63 → SA [20] A224 A_63 → ∀ y63_3_10 : Int, F_63 3 10 = y63_3_10 → (inr (x63_7)) → ((a1) ≤ (x63_7)) → ((x63_7) ≤ (a1) ∨ (x63_7) ≤ ((a2))) → ((y63_3_10) = (y228) + ((x63_7) - (a1))) → (((a2)) - (x63_7)).toNat = m → Ew 365 (d + 2) 63 ls [] σ c s Q from
          hl63 _ _ σ _ _ (a1) (rk_o (rk_o (rk_o (rfl) rfl rfl) rfl rfl) rfl rfl) (rk_o (rk_o (rk_o (rfl) rfl rfl) rfl rfl) rfl rfl) (rk_o (rk_o (rk_o (rfl) rfl rfl) rfl rfl) rfl rfl) (rk_o (rk_o (rk_o (rfl) rfl rfl) rfl rfl) rfl rfl) (rk_o (rk_s) rfl rfl) (rk_s) H (SF_refl) (SA_refl) (y228) ((ey229))  (show inr (a1) by omega) (show (a1) ≤ (a1) by omega) (show (a1) ≤ (a1) ∨ (a1) ≤ ((a2)) by omega) (show (y228) = (y228) + ((a1) - (a1)) by omega) rfl
        as_aux_lemma =>
        intro m
        induction m using Nat.strongRecOn with
        | _ m ih63 =>
          intro ls σ F_63 A_63 x63_7 l63_0 l63_2 l63_3 l63_4 l63_6 l63_7 H hS_63 hA_63 y63_3_10 ey63_3_10  j63_0 j63_1 j63_2 j63_3 hm63
          have r231 : (-2147483648 : Int) ≤ y63_3_10 ∧ y63_3_10 ≤ 2147483647 := by have h1 : (-2147483648 : Int) ≤ F_63 3 10 ∧ F_63 3 10 ≤ 2147483647 := H.frng 3 10; rw [show F_63 3 10 = y63_3_10 from (ey63_3_10)] at h1; exact h1
          refine Ew_of (pc' := 65) (fun _ => x_iload rfl l63_7) ?_
          refine Ew_of (pc' := 66) (fun _ => x_iload_n rfl l63_2) ?_
          refine w_icmpge (t := 86) rfl rfl (show inr (x63_7) by omega) (show inr (a2) by omega) (fun b232 => ?_) (fun b232 => ?_)
          · refine Ew_of (pc' := 87) (fun _ => x_iload_n rfl l63_3) ?_
            refine w_ifne (t := 91) rfl rfl (show inr (a3) by omega) (fun b233 => ?_) (fun b233 => ?_)
            · refine Ew_of (pc' := 92) (fun _ => x_aload_n rfl l63_0) ?_
              refine Ew_of (pc' := 94) (fun _ => x_iload rfl l63_4) ?_
              refine Ew_of (pc' := 97) (fun _ => x_sipush (z := 256) rfl (by decide)) ?_
              refine w_irem rfl (show inr (a4) ∧ 0 ≤ a4 by omega) (show inr (256) ∧ 0 < 256 by omega) ?_
              refine w_inv H (o := 3) rfl rfl rfl (H.perm 3 rfl) rfl rfl (by rfl) (M363 H (y63_3_10) ((ey63_3_10)) (show inr ((a4 % 256)) by omega) (show 0 ≤ ((a4 % 256)) ∧ ((a4 % 256)) ≤ 255 by omega) (show 0 ≤ (y63_3_10) ∧ (y63_3_10) ≤ 100000000 by omega) (fun σ F234 A235 H hS236 hA237 y239 ey240 pz238_0 => ⟨rfl, ?_⟩))
              have r241 : (-2147483648 : Int) ≤ y239 ∧ y239 ≤ 2147483647 := by have h1 : (-2147483648 : Int) ≤ F234 3 10 ∧ F234 3 10 ≤ 2147483647 := H.frng 3 10; rw [show F234 3 10 = y239 from (ey240)] at h1; exact h1
              refine Ew_of (pc' := 102) (fun _ => x_aload_n rfl l63_0) ?_
              refine Ew_of (pc' := 104) (fun _ => x_iload rfl l63_4) ?_
              refine Ew_of (pc' := 107) (fun _ => x_sipush (z := 256) rfl (by decide)) ?_
              refine w_idiv rfl (show inr (a4) ∧ 0 ≤ a4 by omega) (show inr (256) ∧ 0 < 256 by omega) ?_
              refine w_inv H (o := 3) rfl rfl rfl (H.perm 3 rfl) rfl rfl (by rfl) (M363 H (y239) ((ey240)) (show inr ((a4 / 256)) by omega) (show 0 ≤ ((a4 / 256)) ∧ ((a4 / 256)) ≤ 255 by omega) (show 0 ≤ (y239) ∧ (y239) ≤ 100000000 by omega) (fun σ F242 A243 H hS244 hA245 y247 ey248 pz246_0 => ⟨rfl, ?_⟩))
              have r249 : (-2147483648 : Int) ≤ y247 ∧ y247 ≤ 2147483647 := by have h1 : (-2147483648 : Int) ≤ F242 3 10 ∧ F242 3 10 ≤ 2147483647 := H.frng 3 10; rw [show F242 3 10 = y247 from (ey248)] at h1; exact h1
              refine Ew_of (pc' := 112) (fun _ => x_aload_n rfl l63_0) ?_
              refine Ew_of (pc' := 114) (fun _ => x_iload rfl l63_6) ?_
              refine w_inv H (o := 3) rfl rfl rfl (H.perm 3 rfl) rfl rfl (by rfl) (M364 H (y247) ((ey248)) (show inr ((a3 - 4)) by omega) (show -10 ≤ ((a3 - 4)) ∧ ((a3 - 4)) ≤ 100000 by omega) (show 0 ≤ (y247) ∧ (y247) ≤ 10000000 by omega) (fun σ F250 A251 H hS252 hA253 y255 ey256 pz254_0 => ⟨rfl, ?_⟩))
              have r257 : (-2147483648 : Int) ≤ y255 ∧ y255 ≤ 2147483647 := by have h1 : (-2147483648 : Int) ≤ F250 3 10 ∧ F250 3 10 ≤ 2147483647 := H.frng 3 10; rw [show F250 3 10 = y255 from (ey256)] at h1; exact h1
              exact w_ret rfl (k σ _ _ H (SF_trans (SF_trans (SF_trans (SF_trans (SF_trans (SF_trans (SF_refl) hS217 (any_sub rfl)) hS225 (any_sub rfl)) hS_63 (any_sub rfl)) hS236 (any_sub rfl)) hS244 (any_sub rfl)) hS252 (any_sub rfl)) (SA_trans (SA_trans (SA_trans (SA_trans (SA_trans (SA_trans (SA_refl) hA218 (any_subA rfl)) hA226 (any_subA rfl)) hA_63 (any_subA rfl)) hA237 (any_subA rfl)) hA245 (any_subA rfl)) hA253 (any_subA rfl)) (y255) ((ey256)) (show (u3_10) ≤ (y255) ∧ (y255) ≤ (u3_10) + (a2 - a1) + 140 by omega))
            · exact w_ret rfl (k σ _ _ H (SF_trans (SF_trans (SF_trans (SF_refl) hS217 (any_sub rfl)) hS225 (any_sub rfl)) hS_63 (any_sub rfl)) (SA_trans (SA_trans (SA_trans (SA_refl) hA218 (any_subA rfl)) hA226 (any_subA rfl)) hA_63 (any_subA rfl)) (y63_3_10) ((ey63_3_10)) (show (u3_10) ≤ (y63_3_10) ∧ (y63_3_10) ≤ (u3_10) + (a2 - a1) + 140 by omega))
          · refine Ew_of (pc' := 70) (fun _ => x_aload_n rfl l63_0) ?_
            refine Ew_of (pc' := 71) (fun _ => x_aload_n rfl l63_0) ?_
            refine w_gT H (o := 3) (t := 18) rfl (H.perm 3 rfl) rfl rfl rfl rfl rfl rfl ?_
            refine Ew_of (pc' := 76) (fun _ => x_iload rfl l63_7) ?_
            refine w_lI H (o := 18) (n := 16384) rfl (H.perm 18 rfl) rfl rfl (H.fix 18 rfl rfl) (show 0 ≤ x63_7 ∧ x63_7 < ((16384 : Nat) : Int) by omega) (by decide) (fun v258 ev258 qv258 => ?_)
            have qv258 : (0 : Int) ≤ v258 ∧ v258 ≤ 255 := qv258
            have ev258 : (A 18) (x63_7) = v258 := (congrFun ((funext (hA_63 18 rfl)).trans ((funext (hA226 18 rfl)).trans (funext (hA218 18 rfl)))) (x63_7)).symm.trans ev258
            refine w_inv H (o := 3) rfl rfl rfl (H.perm 3 rfl) rfl rfl (by rfl) (M363 H (y63_3_10) ((ey63_3_10)) (show inr (v258) by omega) (show 0 ≤ (v258) ∧ (v258) ≤ 255 by omega) (show 0 ≤ (y63_3_10) ∧ (y63_3_10) ≤ 100000000 by omega) (fun σ F259 A260 H hS261 hA262 y264 ey265 pz263_0 => ⟨rfl, ?_⟩))
            have r266 : (-2147483648 : Int) ≤ y264 ∧ y264 ≤ 2147483647 := by have h1 : (-2147483648 : Int) ≤ F259 3 10 ∧ F259 3 10 ≤ 2147483647 := H.frng 3 10; rw [show F259 3 10 = y264 from (ey265)] at h1; exact h1
            refine Ew_of (pc' := 83) (fun _ => x_iinc (len := 3) rfl (l63_7)) ?_
            refine Ew_of (pc' := 63) (fun _ => x_goto rfl rfl) ?_
            exact ih63 _ (by omega) _ σ _ _ ((x63_7 + 1)) (rk_o (l63_0) rfl rfl) (rk_o (l63_2) rfl rfl) (rk_o (l63_3) rfl rfl) (rk_o (l63_4) rfl rfl) (rk_o (l63_6) rfl rfl) (rk_s) H (SF_trans (hS_63) hS261 (any_sub rfl)) (SA_trans (hA_63) hA262 (any_subA rfl)) (y264) ((ey265))  (show inr ((x63_7 + 1)) by omega) (show (a1) ≤ ((x63_7 + 1)) by omega) (show ((x63_7 + 1)) ≤ (a1) ∨ ((x63_7 + 1)) ≤ ((a2)) by omega) (show (y264) = (y228) + (((x63_7 + 1)) - (a1)) by omega) rfl
    · refine Ew_of (pc' := 33) (fun _ => x_iconst rfl) ?_
      refine Ew_of (pc' := 50) (fun _ => x_goto rfl rfl) ?_
      refine w_iadd rfl ?_
      refine w_inv H (o := 3) rfl rfl rfl (H.perm 3 rfl) rfl rfl (by rfl) (M363 H (u3_10) ((eu3_10)) (show inr (((15 * 16) + 0)) by omega) (show 0 ≤ (((15 * 16) + 0)) ∧ (((15 * 16) + 0)) ≤ 255 by omega) (show 0 ≤ (u3_10) ∧ (u3_10) ≤ 100000000 by omega) (fun σ F267 A268 H hS269 hA270 y272 ey273 pz271_0 => ⟨rfl, ?_⟩))
      have r274 : (-2147483648 : Int) ≤ y272 ∧ y272 ≤ 2147483647 := by have h1 : (-2147483648 : Int) ≤ F267 3 10 ∧ F267 3 10 ≤ 2147483647 := H.frng 3 10; rw [show F267 3 10 = y272 from (ey273)] at h1; exact h1
      refine Ew_of (pc' := 55) (fun _ => x_aload_n rfl (rk_o (rk_o (rfl) rfl rfl) rfl rfl)) ?_
      refine Ew_of (pc' := 57) (fun _ => x_iload rfl (rk_o (rk_s) rfl rfl)) ?_
      refine w_inv H (o := 3) rfl rfl rfl (H.perm 3 rfl) rfl rfl (by rfl) (M364 H (y272) ((ey273)) (show inr ((a2 - a1)) by omega) (show -10 ≤ ((a2 - a1)) ∧ ((a2 - a1)) ≤ 100000 by omega) (show 0 ≤ (y272) ∧ (y272) ≤ 10000000 by omega) (fun σ F275 A276 H hS277 hA278 y280 ey281 pz279_0 => ⟨rfl, ?_⟩))
      have r282 : (-2147483648 : Int) ≤ y280 ∧ y280 ≤ 2147483647 := by have h1 : (-2147483648 : Int) ≤ F275 3 10 ∧ F275 3 10 ≤ 2147483647 := H.frng 3 10; rw [show F275 3 10 = y280 from (ey281)] at h1; exact h1
      refine Ew_of (pc' := 61) (fun _ => x_iload_n rfl (rk_o (rk_o (rfl) rfl rfl) rfl rfl)) ?_
      refine Ew_of (pc' := 63) (fun _ => x_istore rfl) ?_
      suffices hl63 : ∀ (m : Nat), ∀ (ls : rO) (σ : rS) (F_63 : hF) (A_63 : hA) (x63_7 : Int), rlook ls 0 = some (.ref (D 3)) → rlook ls 2 = some (I (a2)) → rlook ls 3 = some (I (a3)) → rlook ls 4 = some (I (a4)) → rlook ls 6 = some (I ((a3 - 4))) → rlook ls 7 = some (I (x63_7)) → HS σ0 σ D N F_63 A_63 → SF [(3, 10)] F275 F_63 → SA [20] A276 A_63 → ∀ y63_3_10 : Int, F_63 3 10 = y63_3_10 → (inr (x63_7)) → ((a1) ≤ (x63_7)) → ((x63_7) ≤ (a1) ∨ (x63_7) ≤ ((a2))) → ((y63_3_10) = (y280) + ((x63_7) - (a1))) → (((a2)) - (x63_7)).toNat = m → Ew 365 (d + 2) 63 ls [] σ c s Q from
        hl63 _ _ σ _ _ (a1) (rk_o (rk_o (rk_o (rfl) rfl rfl) rfl rfl) rfl rfl) (rk_o (rk_o (rk_o (rfl) rfl rfl) rfl rfl) rfl rfl) (rk_o (rk_o (rk_o (rfl) rfl rfl) rfl rfl) rfl rfl) (rk_o (rk_o (rk_o (rfl) rfl rfl) rfl rfl) rfl rfl) (rk_o (rk_s) rfl rfl) (rk_s) H (SF_refl) (SA_refl) (y280) ((ey281))  (show inr (a1) by omega) (show (a1) ≤ (a1) by omega) (show (a1) ≤ (a1) ∨ (a1) ≤ ((a2)) by omega) (show (y280) = (y280) + ((a1) - (a1)) by omega) rfl
      as_aux_lemma =>
      intro m
      induction m using Nat.strongRecOn with
      | _ m ih63 =>
        intro ls σ F_63 A_63 x63_7 l63_0 l63_2 l63_3 l63_4 l63_6 l63_7 H hS_63 hA_63 y63_3_10 ey63_3_10  j63_0 j63_1 j63_2 j63_3 hm63
        have r283 : (-2147483648 : Int) ≤ y63_3_10 ∧ y63_3_10 ≤ 2147483647 := by have h1 : (-2147483648 : Int) ≤ F_63 3 10 ∧ F_63 3 10 ≤ 2147483647 := H.frng 3 10; rw [show F_63 3 10 = y63_3_10 from (ey63_3_10)] at h1; exact h1
        refine Ew_of (pc' := 65) (fun _ => x_iload rfl l63_7) ?_
        refine Ew_of (pc' := 66) (fun _ => x_iload_n rfl l63_2) ?_
        refine w_icmpge (t := 86) rfl rfl (show inr (x63_7) by omega) (show inr (a2) by omega) (fun b284 => ?_) (fun b284 => ?_)
        · refine Ew_of (pc' := 87) (fun _ => x_iload_n rfl l63_3) ?_
          refine w_ifne (t := 91) rfl rfl (show inr (a3) by omega) (fun b285 => ?_) (fun b285 => ?_)
          · refine Ew_of (pc' := 92) (fun _ => x_aload_n rfl l63_0) ?_
            refine Ew_of (pc' := 94) (fun _ => x_iload rfl l63_4) ?_
            refine Ew_of (pc' := 97) (fun _ => x_sipush (z := 256) rfl (by decide)) ?_
            refine w_irem rfl (show inr (a4) ∧ 0 ≤ a4 by omega) (show inr (256) ∧ 0 < 256 by omega) ?_
            refine w_inv H (o := 3) rfl rfl rfl (H.perm 3 rfl) rfl rfl (by rfl) (M363 H (y63_3_10) ((ey63_3_10)) (show inr ((a4 % 256)) by omega) (show 0 ≤ ((a4 % 256)) ∧ ((a4 % 256)) ≤ 255 by omega) (show 0 ≤ (y63_3_10) ∧ (y63_3_10) ≤ 100000000 by omega) (fun σ F286 A287 H hS288 hA289 y291 ey292 pz290_0 => ⟨rfl, ?_⟩))
            have r293 : (-2147483648 : Int) ≤ y291 ∧ y291 ≤ 2147483647 := by have h1 : (-2147483648 : Int) ≤ F286 3 10 ∧ F286 3 10 ≤ 2147483647 := H.frng 3 10; rw [show F286 3 10 = y291 from (ey292)] at h1; exact h1
            refine Ew_of (pc' := 102) (fun _ => x_aload_n rfl l63_0) ?_
            refine Ew_of (pc' := 104) (fun _ => x_iload rfl l63_4) ?_
            refine Ew_of (pc' := 107) (fun _ => x_sipush (z := 256) rfl (by decide)) ?_
            refine w_idiv rfl (show inr (a4) ∧ 0 ≤ a4 by omega) (show inr (256) ∧ 0 < 256 by omega) ?_
            refine w_inv H (o := 3) rfl rfl rfl (H.perm 3 rfl) rfl rfl (by rfl) (M363 H (y291) ((ey292)) (show inr ((a4 / 256)) by omega) (show 0 ≤ ((a4 / 256)) ∧ ((a4 / 256)) ≤ 255 by omega) (show 0 ≤ (y291) ∧ (y291) ≤ 100000000 by omega) (fun σ F294 A295 H hS296 hA297 y299 ey300 pz298_0 => ⟨rfl, ?_⟩))
            have r301 : (-2147483648 : Int) ≤ y299 ∧ y299 ≤ 2147483647 := by have h1 : (-2147483648 : Int) ≤ F294 3 10 ∧ F294 3 10 ≤ 2147483647 := H.frng 3 10; rw [show F294 3 10 = y299 from (ey300)] at h1; exact h1
            refine Ew_of (pc' := 112) (fun _ => x_aload_n rfl l63_0) ?_
            refine Ew_of (pc' := 114) (fun _ => x_iload rfl l63_6) ?_
            refine w_inv H (o := 3) rfl rfl rfl (H.perm 3 rfl) rfl rfl (by rfl) (M364 H (y299) ((ey300)) (show inr ((a3 - 4)) by omega) (show -10 ≤ ((a3 - 4)) ∧ ((a3 - 4)) ≤ 100000 by omega) (show 0 ≤ (y299) ∧ (y299) ≤ 10000000 by omega) (fun σ F302 A303 H hS304 hA305 y307 ey308 pz306_0 => ⟨rfl, ?_⟩))
            have r309 : (-2147483648 : Int) ≤ y307 ∧ y307 ≤ 2147483647 := by have h1 : (-2147483648 : Int) ≤ F302 3 10 ∧ F302 3 10 ≤ 2147483647 := H.frng 3 10; rw [show F302 3 10 = y307 from (ey308)] at h1; exact h1
            exact w_ret rfl (k σ _ _ H (SF_trans (SF_trans (SF_trans (SF_trans (SF_trans (SF_trans (SF_refl) hS269 (any_sub rfl)) hS277 (any_sub rfl)) hS_63 (any_sub rfl)) hS288 (any_sub rfl)) hS296 (any_sub rfl)) hS304 (any_sub rfl)) (SA_trans (SA_trans (SA_trans (SA_trans (SA_trans (SA_trans (SA_refl) hA270 (any_subA rfl)) hA278 (any_subA rfl)) hA_63 (any_subA rfl)) hA289 (any_subA rfl)) hA297 (any_subA rfl)) hA305 (any_subA rfl)) (y307) ((ey308)) (show (u3_10) ≤ (y307) ∧ (y307) ≤ (u3_10) + (a2 - a1) + 140 by omega))
          · exact w_ret rfl (k σ _ _ H (SF_trans (SF_trans (SF_trans (SF_refl) hS269 (any_sub rfl)) hS277 (any_sub rfl)) hS_63 (any_sub rfl)) (SA_trans (SA_trans (SA_trans (SA_refl) hA270 (any_subA rfl)) hA278 (any_subA rfl)) hA_63 (any_subA rfl)) (y63_3_10) ((ey63_3_10)) (show (u3_10) ≤ (y63_3_10) ∧ (y63_3_10) ≤ (u3_10) + (a2 - a1) + 140 by omega))
        · refine Ew_of (pc' := 70) (fun _ => x_aload_n rfl l63_0) ?_
          refine Ew_of (pc' := 71) (fun _ => x_aload_n rfl l63_0) ?_
          refine w_gT H (o := 3) (t := 18) rfl (H.perm 3 rfl) rfl rfl rfl rfl rfl rfl ?_
          refine Ew_of (pc' := 76) (fun _ => x_iload rfl l63_7) ?_
          refine w_lI H (o := 18) (n := 16384) rfl (H.perm 18 rfl) rfl rfl (H.fix 18 rfl rfl) (show 0 ≤ x63_7 ∧ x63_7 < ((16384 : Nat) : Int) by omega) (by decide) (fun v310 ev310 qv310 => ?_)
          have qv310 : (0 : Int) ≤ v310 ∧ v310 ≤ 255 := qv310
          have ev310 : (A 18) (x63_7) = v310 := (congrFun ((funext (hA_63 18 rfl)).trans ((funext (hA278 18 rfl)).trans (funext (hA270 18 rfl)))) (x63_7)).symm.trans ev310
          refine w_inv H (o := 3) rfl rfl rfl (H.perm 3 rfl) rfl rfl (by rfl) (M363 H (y63_3_10) ((ey63_3_10)) (show inr (v310) by omega) (show 0 ≤ (v310) ∧ (v310) ≤ 255 by omega) (show 0 ≤ (y63_3_10) ∧ (y63_3_10) ≤ 100000000 by omega) (fun σ F311 A312 H hS313 hA314 y316 ey317 pz315_0 => ⟨rfl, ?_⟩))
          have r318 : (-2147483648 : Int) ≤ y316 ∧ y316 ≤ 2147483647 := by have h1 : (-2147483648 : Int) ≤ F311 3 10 ∧ F311 3 10 ≤ 2147483647 := H.frng 3 10; rw [show F311 3 10 = y316 from (ey317)] at h1; exact h1
          refine Ew_of (pc' := 83) (fun _ => x_iinc (len := 3) rfl (l63_7)) ?_
          refine Ew_of (pc' := 63) (fun _ => x_goto rfl rfl) ?_
          exact ih63 _ (by omega) _ σ _ _ ((x63_7 + 1)) (rk_o (l63_0) rfl rfl) (rk_o (l63_2) rfl rfl) (rk_o (l63_3) rfl rfl) (rk_o (l63_4) rfl rfl) (rk_o (l63_6) rfl rfl) (rk_s) H (SF_trans (hS_63) hS313 (any_sub rfl)) (SA_trans (hA_63) hA314 (any_subA rfl)) (y316) ((ey317))  (show inr ((x63_7 + 1)) by omega) (show (a1) ≤ ((x63_7 + 1)) by omega) (show ((x63_7 + 1)) ≤ (a1) ∨ ((x63_7 + 1)) ≤ ((a2)) by omega) (show (y316) = (y280) + (((x63_7 + 1)) - (a1)) by omega) rfl
/-- Tokens.writeBlock -/
theorem M366 {σ0 σ : rS} {D N : Nat → Nat} {F : hF} {A : hA} {d c s : Nat} {Q : wQ} (H : HS σ0 σ D N F A) {a1 a2 : Int} (u3_5 : Int) (eu3_5 : F 3 5 = u3_5) (h0 : inr (a1)) (h1 : inr (a2)) (h2 : 0 ≤ (u3_5) ∧ (u3_5) ≤ 16384) (h3 : 0 ≤ (a1) ∧ (a1) ≤ (u3_5)) (k : ∀ σ F' A', HS σ0 σ D N F' A' → SF [(3, 6), (3, 10)] F F' → SA [20] A A' → ∀ y3_10 : Int, F' 3 10 = y3_10 → (0 ≤ (y3_10) ∧ (y3_10) ≤ 3000000) → Q none σ c s) : Ew 366 (d + 3) 0 (rargs 0 [.ref (D 3), I a1, I a2]) [] σ c s Q := by
  have r1 : (-2147483648 : Int) ≤ u3_5 ∧ u3_5 ≤ 2147483647 := by have h1 : (-2147483648 : Int) ≤ F 3 5 ∧ F 3 5 ≤ 2147483647 := H.frng 3 5; rw [show F 3 5 = u3_5 from (eu3_5)] at h1; exact h1
  refine Ew_of (pc' := 1) (fun _ => x_aload_n rfl rfl) ?_
  refine Ew_of (pc' := 2) (fun _ => x_iconst rfl) ?_
  refine w_pI H (o := 3) rfl rfl (H.perm 3 rfl) rfl rfl rfl (fun _ => rfl) rfl (show (-2147483648 : Int) ≤ 0 ∧ 0 ≤ 2147483647 by omega) (fun σ H => ?_)
  refine Ew_of (pc' := 6) (fun _ => x_iload_n rfl rfl) ?_
  refine Ew_of (pc' := 7) (fun _ => x_istore_n rfl) ?_
  refine Ew_of (pc' := 8) (fun _ => x_iload_n rfl (rk_o (rfl) rfl rfl)) ?_
  refine Ew_of (pc' := 10) (fun _ => x_istore rfl) ?_
  suffices hl10 : ∀ (m : Nat), ∀ (ls : rO) (σ : rS) (F_10 : hF) (A_10 : hA) (x10_3 : Int) (x10_4 : Int), rlook ls 0 = some (.ref (D 3)) → rlook ls 2 = some (I (a2)) → rlook ls 3 = some (I (x10_3)) → rlook ls 4 = some (I (x10_4)) → HS σ0 σ D N F_10 A_10 → SF [(3, 6), (3, 10)] (updF F 3 10 (0)) F_10 → SA [20] A A_10 → ∀ y10_3_10 : Int, F_10 3 10 = y10_3_10 → (inr (x10_3)) → (inr (x10_4)) → ((a1) ≤ (x10_3) ∧ (x10_3) ≤ (x10_4) ∧ (x10_4) ≤ (u3_5)) → (0 ≤ (y10_3_10) ∧ (y10_3_10) ≤ 141 * ((x10_3) - (a1))) → ((u3_5) - (x10_4)).toNat = m → Ew 366 (d + 3) 10 ls [] σ c s Q from
    hl10 _ _ σ _ _ (a1) (a1) (rk_o (rk_o (rfl) rfl rfl) rfl rfl) (rk_o (rk_o (rfl) rfl rfl) rfl rfl) (rk_o (rk_s) rfl rfl) (rk_s) H (SF_refl) (SA_refl) (0) (rfl)  (show inr (a1) by omega) (show inr (a1) by omega) (show (a1) ≤ (a1) ∧ (a1) ≤ (a1) ∧ (a1) ≤ (u3_5) by omega) (show 0 ≤ (0) ∧ (0) ≤ 141 * ((a1) - (a1)) by omega) rfl
  as_aux_lemma =>
  intro m
  induction m using Nat.strongRecOn with
  | _ m ih10 =>
    intro ls σ F_10 A_10 x10_3 x10_4 l10_0 l10_2 l10_3 l10_4 H hS_10 hA_10 y10_3_10 ey10_3_10  j10_0 j10_1 j10_2 j10_3 hm10
    have r2 : (-2147483648 : Int) ≤ y10_3_10 ∧ y10_3_10 ≤ 2147483647 := by have h1 : (-2147483648 : Int) ≤ F_10 3 10 ∧ F_10 3 10 ≤ 2147483647 := H.frng 3 10; rw [show F_10 3 10 = y10_3_10 from (ey10_3_10)] at h1; exact h1
    refine Ew_of (pc' := 12) (fun _ => x_iload rfl l10_4) ?_
    refine Ew_of (pc' := 13) (fun _ => x_aload_n rfl l10_0) ?_
    refine w_gI H (o := 3) (w := u3_5) rfl (H.perm 3 rfl) rfl rfl rfl (fun _ => rfl) ((hS_10 3 5 rfl).trans (eu3_5)) ?_
    refine w_icmpge (t := 68) rfl rfl (show inr (x10_4) by omega) (show inr (u3_5) by omega) (fun b3 => ?_) (fun b3 => ?_)
    · refine Ew_of (pc' := 69) (fun _ => x_aload_n rfl l10_0) ?_
      refine Ew_of (pc' := 70) (fun _ => x_iload_n rfl l10_3) ?_
      refine Ew_of (pc' := 71) (fun _ => x_aload_n rfl l10_0) ?_
      refine w_gI H (o := 3) (w := u3_5) rfl (H.perm 3 rfl) rfl rfl rfl (fun _ => rfl) ((hS_10 3 5 rfl).trans (eu3_5)) ?_
      refine Ew_of (pc' := 75) (fun _ => x_iconst rfl) ?_
      refine Ew_of (pc' := 76) (fun _ => x_iconst rfl) ?_
      refine w_inv H (o := 3) rfl rfl rfl (H.perm 3 rfl) rfl rfl (by rfl) (M365 H (y10_3_10) ((ey10_3_10)) (show inr (x10_3) by omega) (show inr (u3_5) by omega) (show inr (0) by omega) (show inr (0) by omega) (show 0 ≤ (x10_3) ∧ (x10_3) ≤ (u3_5) ∧ (u3_5) ≤ 16384 by omega) (show (0) = 0 ∨ 4 ≤ (0) by omega) (show (0) ≤ 16384 ∧ 0 ≤ (0) ∧ (0) ≤ 16384 by omega) (show 0 ≤ (y10_3_10) ∧ (y10_3_10) ≤ 5000000 by omega) (fun σ F4 A5 H hS6 hA7 y9 ey10 pz8_0 => ⟨rfl, ?_⟩))
      have r11 : (-2147483648 : Int) ≤ y9 ∧ y9 ≤ 2147483647 := by have h1 : (-2147483648 : Int) ≤ F4 3 10 ∧ F4 3 10 ≤ 2147483647 := H.frng 3 10; rw [show F4 3 10 = y9 from (ey10)] at h1; exact h1
      exact w_ret rfl (k σ _ _ H (SF_trans (SF_trans (SF_upd (SF_refl) rfl) hS_10 (any_sub rfl)) hS6 (any_sub rfl)) (SA_trans (SA_trans (SA_refl) hA_10 (any_subA rfl)) hA7 (any_subA rfl)) (y9) ((ey10)) (show 0 ≤ (y9) ∧ (y9) ≤ 3000000 by omega))
    · refine Ew_of (pc' := 20) (fun _ => x_aload_n rfl l10_0) ?_
      refine Ew_of (pc' := 22) (fun _ => x_iload rfl l10_4) ?_
      refine Ew_of (pc' := 23) (fun _ => x_iload_n rfl l10_2) ?_
      refine w_inv H (o := 3) rfl rfl rfl (H.perm 3 rfl) rfl rfl (by rfl) (M362 H (u3_5) (((hS_10 3 5 rfl).trans (eu3_5))) (show inr (x10_4) by omega) (show inr (a2) by omega) (show 0 ≤ (u3_5) ∧ (u3_5) ≤ 16384 by omega) (show 0 ≤ (x10_4) ∧ (x10_4) < 16384 by omega) (fun z16 σ F12 A13 H hS14 hA15 y17 ey18 pz16_0 pz16_1 pz16_2 pz16_3 => ⟨rfl, ?_⟩))
      have r19 : (0 : Int) ≤ y17 ∧ y17 ≤ 16384 := by have h1 : (0 : Int) ≤ F12 3 6 ∧ F12 3 6 ≤ 16384 := H.frng 3 6; rw [show F12 3 6 = y17 from (ey18)] at h1; exact h1
      refine Ew_of (pc' := 28) (fun _ => x_istore rfl) ?_
      refine Ew_of (pc' := 30) (fun _ => x_iload rfl rk_s) ?_
      refine w_ifne (t := 39) rfl rfl (show inr (z16) by omega) (fun b20 => ?_) (fun b20 => ?_)
      · refine Ew_of (pc' := 40) (fun _ => x_aload_n rfl (rk_o (l10_0) rfl rfl)) ?_
        refine Ew_of (pc' := 41) (fun _ => x_iload_n rfl (rk_o (l10_3) rfl rfl)) ?_
        refine Ew_of (pc' := 43) (fun _ => x_iload rfl (rk_o (l10_4) rfl rfl)) ?_
        refine Ew_of (pc' := 45) (fun _ => x_iload rfl rk_s) ?_
        refine Ew_of (pc' := 47) (fun _ => x_iload rfl (rk_o (l10_4) rfl rfl)) ?_
        refine Ew_of (pc' := 48) (fun _ => x_aload_n rfl (rk_o (l10_0) rfl rfl)) ?_
        refine w_gI H (o := 3) (w := y17) rfl (H.perm 3 rfl) rfl rfl rfl (fun _ => rfl) (ey18) ?_
        refine w_isub rfl ?_
        refine w_inv H (o := 3) rfl rfl rfl (H.perm 3 rfl) rfl rfl (by rfl) (M365 H (y10_3_10) (((hS14 3 10 rfl).trans (ey10_3_10))) (show inr (x10_3) by omega) (show inr (x10_4) by omega) (show inr (z16) by omega) (show inr ((x10_4 - y17)) by omega) (show 0 ≤ (x10_3) ∧ (x10_3) ≤ (x10_4) ∧ (x10_4) ≤ 16384 by omega) (show (z16) = 0 ∨ 4 ≤ (z16) by omega) (show (z16) ≤ 16384 ∧ 0 ≤ ((x10_4 - y17)) ∧ ((x10_4 - y17)) ≤ 16384 by omega) (show 0 ≤ (y10_3_10) ∧ (y10_3_10) ≤ 5000000 by omega) (fun σ F21 A22 H hS23 hA24 y26 ey27 pz25_0 => ⟨rfl, ?_⟩))
        have r28 : (-2147483648 : Int) ≤ y26 ∧ y26 ≤ 2147483647 := by have h1 : (-2147483648 : Int) ≤ F21 3 10 ∧ F21 3 10 ≤ 2147483647 := H.frng 3 10; rw [show F21 3 10 = y26 from (ey27)] at h1; exact h1
        refine Ew_of (pc' := 57) (fun _ => x_iload rfl (rk_o (l10_4) rfl rfl)) ?_
        refine Ew_of (pc' := 59) (fun _ => x_iload rfl rk_s) ?_
        refine w_iadd rfl ?_
        refine Ew_of (pc' := 62) (fun _ => x_istore rfl) ?_
        refine Ew_of (pc' := 64) (fun _ => x_iload rfl rk_s) ?_
        refine Ew_of (pc' := 65) (fun _ => x_istore_n rfl) ?_
        refine Ew_of (pc' := 10) (fun _ => x_goto rfl rfl) ?_
        exact ih10 _ (by omega) _ σ _ _ ((x10_4 + z16)) ((x10_4 + z16)) (rk_o (rk_o (rk_o (l10_0) rfl rfl) rfl rfl) rfl rfl) (rk_o (rk_o (rk_o (l10_2) rfl rfl) rfl rfl) rfl rfl) (rk_s) (rk_o (rk_s) rfl rfl) H (SF_trans (SF_trans (hS_10) hS14 (any_sub rfl)) hS23 (any_sub rfl)) (SA_trans (SA_trans (hA_10) hA15 (any_subA rfl)) hA24 (any_subA rfl)) (y26) ((ey27))  (show inr ((x10_4 + z16)) by omega) (show inr ((x10_4 + z16)) by omega) (show (a1) ≤ ((x10_4 + z16)) ∧ ((x10_4 + z16)) ≤ ((x10_4 + z16)) ∧ ((x10_4 + z16)) ≤ (u3_5) by omega) (show 0 ≤ (y26) ∧ (y26) ≤ 141 * (((x10_4 + z16)) - (a1)) by omega) rfl
      · refine Ew_of (pc' := 36) (fun _ => x_iinc (len := 3) rfl (rk_o (l10_4) rfl rfl)) ?_
        refine Ew_of (pc' := 10) (fun _ => x_goto rfl rfl) ?_
        exact ih10 _ (by omega) _ σ _ _ (x10_3) ((x10_4 + 1)) (rk_o (rk_o (l10_0) rfl rfl) rfl rfl) (rk_o (rk_o (l10_2) rfl rfl) rfl rfl) (rk_o (rk_o (l10_3) rfl rfl) rfl rfl) (rk_s) H (SF_trans (hS_10) hS14 (any_sub rfl)) (SA_trans (hA_10) hA15 (any_subA rfl)) (y10_3_10) (((hS14 3 10 rfl).trans (ey10_3_10)))  (show inr (x10_3) by omega) (show inr ((x10_4 + 1)) by omega) (show (a1) ≤ (x10_3) ∧ (x10_3) ≤ ((x10_4 + 1)) ∧ ((x10_4 + 1)) ≤ (u3_5) by omega) (show 0 ≤ (y10_3_10) ∧ (y10_3_10) ≤ 141 * ((x10_3) - (a1)) by omega) rfl
/-- Tokens.show -/
theorem M369_19 {σ0 σ : rS} {D N : Nat → Nat} {F : hF} {A : hA} {d c s : Nat} {Q : wQ} (H : HS σ0 σ D N F A) {a2 : Int} (h0 : inr (a2)) (h1 : 0 ≤ (a2) ∧ (a2) ≤ 100000000) (k : ∀ (z : Int) σ F' A', HS σ0 σ D N F' A' → SF [(1, 3)] F F' → SA [15] A A' → (inr (z)) → ((z) = -1 ∨ (z) = (a2)) → Q (some (I z)) σ c s) : Ew 369 (d + 0) 0 (rargs 0 [.ref (D 3), .ref (D 19), I a2]) [] σ c s Q := by
  refine Ew_of (pc' := 1) (fun _ => x_iload_n rfl rfl) ?_
  refine Ew_of (pc' := 3) (fun _ => x_ldc (z := 65536) rfl (by decide)) ?_
  refine w_icmple (t := 8) rfl rfl (show inr (a2) by omega) (show inr (65536) by omega) (fun b1 => ?_) (fun b1 => ?_)
  · refine Ew_of (pc' := 9) (fun _ => x_iconst rfl) ?_
    refine Ew_of (pc' := 10) (fun _ => x_istore_n rfl) ?_
    suffices hl10 : ∀ (m : Nat), ∀ (ls : rO) (σ : rS) (F_10 : hF) (A_10 : hA) (x10_3 : Int), rlook ls 0 = some (.ref (D 3)) → rlook ls 1 = some (.ref (D 19)) → rlook ls 2 = some (I (a2)) → rlook ls 3 = some (I (x10_3)) → HS σ0 σ D N F_10 A_10 → SF [] F F_10 → SA [15] A A_10 → (inr (x10_3)) → ((0) ≤ (x10_3)) → ((x10_3) ≤ (0) ∨ (x10_3) ≤ ((a2))) → (((a2)) - (x10_3)).toNat = m → Ew 369 (d + 0) 10 ls [] σ c s Q from
      hl10 _ _ σ _ _ (0) (rk_o (rfl) rfl rfl) (rk_o (rfl) rfl rfl) (rk_o (rfl) rfl rfl) (rk_s) H (SF_refl) (SA_refl)   (show inr (0) by omega) (show (0) ≤ (0) by omega) (show (0) ≤ (0) ∨ (0) ≤ ((a2)) by omega) rfl
    as_aux_lemma =>
    intro m
    induction m using Nat.strongRecOn with
    | _ m ih10 =>
      intro ls σ F_10 A_10 x10_3 l10_0 l10_1 l10_2 l10_3 H hS_10 hA_10   j10_0 j10_1 j10_2 hm10
      refine Ew_of (pc' := 11) (fun _ => x_iload_n rfl l10_3) ?_
      refine Ew_of (pc' := 12) (fun _ => x_iload_n rfl l10_2) ?_
      refine w_icmpge (t := 33) rfl rfl (show inr (x10_3) by omega) (show inr (a2) by omega) (fun b2 => ?_) (fun b2 => ?_)
      · refine Ew_of (pc' := 34) (fun _ => x_aload_n rfl l10_0) ?_
        refine w_gT H (o := 3) (t := 1) rfl (H.perm 3 rfl) rfl rfl rfl rfl rfl rfl ?_
        refine Ew_of (pc' := 38) (fun _ => x_iload_n rfl l10_2) ?_
        refine w_pI H (o := 1) rfl rfl (H.perm 1 rfl) rfl rfl rfl (fun _ => rfl) rfl (show (0 : Int) ≤ a2 ∧ a2 ≤ 65536 by omega) (fun σ H => ?_)
        refine Ew_of (pc' := 42) (fun _ => x_iload_n rfl l10_2) ?_
        exact w_ireturn rfl (k (a2) σ _ _ H (SF_upd (SF_trans (SF_refl) hS_10 (any_sub rfl)) rfl) (SA_trans (SA_refl) hA_10 (any_subA rfl)) (show inr (a2) by omega) (show (a2) = -1 ∨ (a2) = a2 by omega))
      · refine Ew_of (pc' := 16) (fun _ => x_aload_n rfl l10_0) ?_
        refine w_gT H (o := 3) (t := 1) rfl (H.perm 3 rfl) rfl rfl rfl rfl rfl rfl ?_
        refine w_gT H (o := 1) (t := 15) rfl (H.perm 1 rfl) rfl rfl rfl rfl rfl rfl ?_
        refine Ew_of (pc' := 23) (fun _ => x_iload_n rfl l10_3) ?_
        refine Ew_of (pc' := 24) (fun _ => x_aload_n rfl l10_1) ?_
        refine Ew_of (pc' := 25) (fun _ => x_iload_n rfl l10_3) ?_
        refine w_lI H (o := 19) (n := 70000) rfl (H.perm 19 rfl) rfl rfl (H.fix 19 rfl rfl) (show 0 ≤ x10_3 ∧ x10_3 < ((70000 : Nat) : Int) by omega) (by decide) (fun v3 ev3 qv3 => ?_)
        have qv3 : (0 : Int) ≤ v3 ∧ v3 ≤ 255 := qv3
        have ev3 : (A 19) (x10_3) = v3 := (congrFun (funext (hA_10 19 rfl)) (x10_3)).symm.trans ev3
        refine w_sI H (o := 15) (n := 65536) rfl (H.perm 15 rfl) rfl rfl (H.fix 15 rfl rfl) (show 0 ≤ x10_3 ∧ x10_3 < ((65536 : Nat) : Int) by omega) (by decide) (show (0 : Int) ≤ v3 ∧ v3 ≤ 255 by omega) (fun σ H => ?_)
        refine Ew_of (pc' := 30) (fun _ => x_iinc (len := 3) rfl (l10_3)) ?_
        refine Ew_of (pc' := 10) (fun _ => x_goto rfl rfl) ?_
        exact ih10 _ (by omega) _ σ _ _ ((x10_3 + 1)) (rk_o (l10_0) rfl rfl) (rk_o (l10_1) rfl rfl) (rk_o (l10_2) rfl rfl) (rk_s) H (hS_10) (SA_upd (hA_10) rfl)   (show inr ((x10_3 + 1)) by omega) (show (0) ≤ ((x10_3 + 1)) by omega) (show ((x10_3 + 1)) ≤ (0) ∨ ((x10_3 + 1)) ≤ ((a2)) by omega) rfl
  · refine Ew_of (pc' := 7) (fun _ => x_iconst rfl) ?_
    exact w_ireturn rfl (k ((-1)) σ _ _ H (SF_refl) (SA_refl) (show inr ((-1)) by omega) (show ((-1)) = -1 ∨ ((-1)) = a2 by omega))
/-- Tokens.show -/
theorem M369_20 {σ0 σ : rS} {D N : Nat → Nat} {F : hF} {A : hA} {d c s : Nat} {Q : wQ} (H : HS σ0 σ D N F A) {a2 : Int} (h0 : inr (a2)) (h1 : 0 ≤ (a2) ∧ (a2) ≤ 100000000) (k : ∀ (z : Int) σ F' A', HS σ0 σ D N F' A' → SF [(1, 3)] F F' → SA [15] A A' → (inr (z)) → ((z) = -1 ∨ (z) = (a2)) → Q (some (I z)) σ c s) : Ew 369 (d + 0) 0 (rargs 0 [.ref (D 3), .ref (D 20), I a2]) [] σ c s Q := by
  refine Ew_of (pc' := 1) (fun _ => x_iload_n rfl rfl) ?_
  refine Ew_of (pc' := 3) (fun _ => x_ldc (z := 65536) rfl (by decide)) ?_
  refine w_icmple (t := 8) rfl rfl (show inr (a2) by omega) (show inr (65536) by omega) (fun b1 => ?_) (fun b1 => ?_)
  · refine Ew_of (pc' := 9) (fun _ => x_iconst rfl) ?_
    refine Ew_of (pc' := 10) (fun _ => x_istore_n rfl) ?_
    suffices hl10 : ∀ (m : Nat), ∀ (ls : rO) (σ : rS) (F_10 : hF) (A_10 : hA) (x10_3 : Int), rlook ls 0 = some (.ref (D 3)) → rlook ls 1 = some (.ref (D 20)) → rlook ls 2 = some (I (a2)) → rlook ls 3 = some (I (x10_3)) → HS σ0 σ D N F_10 A_10 → SF [] F F_10 → SA [15] A A_10 → (inr (x10_3)) → ((0) ≤ (x10_3)) → ((x10_3) ≤ (0) ∨ (x10_3) ≤ ((a2))) → (((a2)) - (x10_3)).toNat = m → Ew 369 (d + 0) 10 ls [] σ c s Q from
      hl10 _ _ σ _ _ (0) (rk_o (rfl) rfl rfl) (rk_o (rfl) rfl rfl) (rk_o (rfl) rfl rfl) (rk_s) H (SF_refl) (SA_refl)   (show inr (0) by omega) (show (0) ≤ (0) by omega) (show (0) ≤ (0) ∨ (0) ≤ ((a2)) by omega) rfl
    as_aux_lemma =>
    intro m
    induction m using Nat.strongRecOn with
    | _ m ih10 =>
      intro ls σ F_10 A_10 x10_3 l10_0 l10_1 l10_2 l10_3 H hS_10 hA_10   j10_0 j10_1 j10_2 hm10
      refine Ew_of (pc' := 11) (fun _ => x_iload_n rfl l10_3) ?_
      refine Ew_of (pc' := 12) (fun _ => x_iload_n rfl l10_2) ?_
      refine w_icmpge (t := 33) rfl rfl (show inr (x10_3) by omega) (show inr (a2) by omega) (fun b2 => ?_) (fun b2 => ?_)
      · refine Ew_of (pc' := 34) (fun _ => x_aload_n rfl l10_0) ?_
        refine w_gT H (o := 3) (t := 1) rfl (H.perm 3 rfl) rfl rfl rfl rfl rfl rfl ?_
        refine Ew_of (pc' := 38) (fun _ => x_iload_n rfl l10_2) ?_
        refine w_pI H (o := 1) rfl rfl (H.perm 1 rfl) rfl rfl rfl (fun _ => rfl) rfl (show (0 : Int) ≤ a2 ∧ a2 ≤ 65536 by omega) (fun σ H => ?_)
        refine Ew_of (pc' := 42) (fun _ => x_iload_n rfl l10_2) ?_
        exact w_ireturn rfl (k (a2) σ _ _ H (SF_upd (SF_trans (SF_refl) hS_10 (any_sub rfl)) rfl) (SA_trans (SA_refl) hA_10 (any_subA rfl)) (show inr (a2) by omega) (show (a2) = -1 ∨ (a2) = a2 by omega))
      · refine Ew_of (pc' := 16) (fun _ => x_aload_n rfl l10_0) ?_
        refine w_gT H (o := 3) (t := 1) rfl (H.perm 3 rfl) rfl rfl rfl rfl rfl rfl ?_
        refine w_gT H (o := 1) (t := 15) rfl (H.perm 1 rfl) rfl rfl rfl rfl rfl rfl ?_
        refine Ew_of (pc' := 23) (fun _ => x_iload_n rfl l10_3) ?_
        refine Ew_of (pc' := 24) (fun _ => x_aload_n rfl l10_1) ?_
        refine Ew_of (pc' := 25) (fun _ => x_iload_n rfl l10_3) ?_
        refine w_lI H (o := 20) (n := 70000) rfl (H.perm 20 rfl) rfl rfl (H.fix 20 rfl rfl) (show 0 ≤ x10_3 ∧ x10_3 < ((70000 : Nat) : Int) by omega) (by decide) (fun v3 ev3 qv3 => ?_)
        have qv3 : (0 : Int) ≤ v3 ∧ v3 ≤ 255 := qv3
        have ev3 : (A 20) (x10_3) = v3 := (congrFun (funext (hA_10 20 rfl)) (x10_3)).symm.trans ev3
        refine w_sI H (o := 15) (n := 65536) rfl (H.perm 15 rfl) rfl rfl (H.fix 15 rfl rfl) (show 0 ≤ x10_3 ∧ x10_3 < ((65536 : Nat) : Int) by omega) (by decide) (show (0 : Int) ≤ v3 ∧ v3 ≤ 255 by omega) (fun σ H => ?_)
        refine Ew_of (pc' := 30) (fun _ => x_iinc (len := 3) rfl (l10_3)) ?_
        refine Ew_of (pc' := 10) (fun _ => x_goto rfl rfl) ?_
        exact ih10 _ (by omega) _ σ _ _ ((x10_3 + 1)) (rk_o (l10_0) rfl rfl) (rk_o (l10_1) rfl rfl) (rk_o (l10_2) rfl rfl) (rk_s) H (hS_10) (SA_upd (hA_10) rfl)   (show inr ((x10_3 + 1)) by omega) (show (0) ≤ ((x10_3 + 1)) by omega) (show ((x10_3 + 1)) ≤ (0) ∨ ((x10_3 + 1)) ≤ ((a2)) by omega) rfl
  · refine Ew_of (pc' := 7) (fun _ => x_iconst rfl) ?_
    exact w_ireturn rfl (k ((-1)) σ _ _ H (SF_refl) (SA_refl) (show inr ((-1)) by omega) (show ((-1)) = -1 ∨ ((-1)) = a2 by omega))
/-- Tokens.show -/
theorem M369_22 {σ0 σ : rS} {D N : Nat → Nat} {F : hF} {A : hA} {d c s : Nat} {Q : wQ} (H : HS σ0 σ D N F A) {a2 : Int} (h0 : inr (a2)) (h1 : 0 ≤ (a2) ∧ (a2) ≤ 100000000) (k : ∀ (z : Int) σ F' A', HS σ0 σ D N F' A' → SF [(1, 3)] F F' → SA [15] A A' → (inr (z)) → ((z) = -1 ∨ (z) = (a2)) → Q (some (I z)) σ c s) : Ew 369 (d + 0) 0 (rargs 0 [.ref (D 3), .ref (D 22), I a2]) [] σ c s Q := by
  refine Ew_of (pc' := 1) (fun _ => x_iload_n rfl rfl) ?_
  refine Ew_of (pc' := 3) (fun _ => x_ldc (z := 65536) rfl (by decide)) ?_
  refine w_icmple (t := 8) rfl rfl (show inr (a2) by omega) (show inr (65536) by omega) (fun b1 => ?_) (fun b1 => ?_)
  · refine Ew_of (pc' := 9) (fun _ => x_iconst rfl) ?_
    refine Ew_of (pc' := 10) (fun _ => x_istore_n rfl) ?_
    suffices hl10 : ∀ (m : Nat), ∀ (ls : rO) (σ : rS) (F_10 : hF) (A_10 : hA) (x10_3 : Int), rlook ls 0 = some (.ref (D 3)) → rlook ls 1 = some (.ref (D 22)) → rlook ls 2 = some (I (a2)) → rlook ls 3 = some (I (x10_3)) → HS σ0 σ D N F_10 A_10 → SF [] F F_10 → SA [15] A A_10 → (inr (x10_3)) → ((0) ≤ (x10_3)) → ((x10_3) ≤ (0) ∨ (x10_3) ≤ ((a2))) → (((a2)) - (x10_3)).toNat = m → Ew 369 (d + 0) 10 ls [] σ c s Q from
      hl10 _ _ σ _ _ (0) (rk_o (rfl) rfl rfl) (rk_o (rfl) rfl rfl) (rk_o (rfl) rfl rfl) (rk_s) H (SF_refl) (SA_refl)   (show inr (0) by omega) (show (0) ≤ (0) by omega) (show (0) ≤ (0) ∨ (0) ≤ ((a2)) by omega) rfl
    as_aux_lemma =>
    intro m
    induction m using Nat.strongRecOn with
    | _ m ih10 =>
      intro ls σ F_10 A_10 x10_3 l10_0 l10_1 l10_2 l10_3 H hS_10 hA_10   j10_0 j10_1 j10_2 hm10
      refine Ew_of (pc' := 11) (fun _ => x_iload_n rfl l10_3) ?_
      refine Ew_of (pc' := 12) (fun _ => x_iload_n rfl l10_2) ?_
      refine w_icmpge (t := 33) rfl rfl (show inr (x10_3) by omega) (show inr (a2) by omega) (fun b2 => ?_) (fun b2 => ?_)
      · refine Ew_of (pc' := 34) (fun _ => x_aload_n rfl l10_0) ?_
        refine w_gT H (o := 3) (t := 1) rfl (H.perm 3 rfl) rfl rfl rfl rfl rfl rfl ?_
        refine Ew_of (pc' := 38) (fun _ => x_iload_n rfl l10_2) ?_
        refine w_pI H (o := 1) rfl rfl (H.perm 1 rfl) rfl rfl rfl (fun _ => rfl) rfl (show (0 : Int) ≤ a2 ∧ a2 ≤ 65536 by omega) (fun σ H => ?_)
        refine Ew_of (pc' := 42) (fun _ => x_iload_n rfl l10_2) ?_
        exact w_ireturn rfl (k (a2) σ _ _ H (SF_upd (SF_trans (SF_refl) hS_10 (any_sub rfl)) rfl) (SA_trans (SA_refl) hA_10 (any_subA rfl)) (show inr (a2) by omega) (show (a2) = -1 ∨ (a2) = a2 by omega))
      · refine Ew_of (pc' := 16) (fun _ => x_aload_n rfl l10_0) ?_
        refine w_gT H (o := 3) (t := 1) rfl (H.perm 3 rfl) rfl rfl rfl rfl rfl rfl ?_
        refine w_gT H (o := 1) (t := 15) rfl (H.perm 1 rfl) rfl rfl rfl rfl rfl rfl ?_
        refine Ew_of (pc' := 23) (fun _ => x_iload_n rfl l10_3) ?_
        refine Ew_of (pc' := 24) (fun _ => x_aload_n rfl l10_1) ?_
        refine Ew_of (pc' := 25) (fun _ => x_iload_n rfl l10_3) ?_
        refine w_lI H (o := 22) (n := 65536) rfl (H.perm 22 rfl) rfl rfl (H.fix 22 rfl rfl) (show 0 ≤ x10_3 ∧ x10_3 < ((65536 : Nat) : Int) by omega) (by decide) (fun v3 ev3 qv3 => ?_)
        have qv3 : (0 : Int) ≤ v3 ∧ v3 ≤ 255 := qv3
        have ev3 : (A 22) (x10_3) = v3 := (congrFun (funext (hA_10 22 rfl)) (x10_3)).symm.trans ev3
        refine w_sI H (o := 15) (n := 65536) rfl (H.perm 15 rfl) rfl rfl (H.fix 15 rfl rfl) (show 0 ≤ x10_3 ∧ x10_3 < ((65536 : Nat) : Int) by omega) (by decide) (show (0 : Int) ≤ v3 ∧ v3 ≤ 255 by omega) (fun σ H => ?_)
        refine Ew_of (pc' := 30) (fun _ => x_iinc (len := 3) rfl (l10_3)) ?_
        refine Ew_of (pc' := 10) (fun _ => x_goto rfl rfl) ?_
        exact ih10 _ (by omega) _ σ _ _ ((x10_3 + 1)) (rk_o (l10_0) rfl rfl) (rk_o (l10_1) rfl rfl) (rk_o (l10_2) rfl rfl) (rk_s) H (hS_10) (SA_upd (hA_10) rfl)   (show inr ((x10_3 + 1)) by omega) (show (0) ≤ ((x10_3 + 1)) by omega) (show ((x10_3 + 1)) ≤ (0) ∨ ((x10_3 + 1)) ≤ ((a2)) by omega) rfl
  · refine Ew_of (pc' := 7) (fun _ => x_iconst rfl) ?_
    exact w_ireturn rfl (k ((-1)) σ _ _ H (SF_refl) (SA_refl) (show inr ((-1)) by omega) (show ((-1)) = -1 ∨ ((-1)) = a2 by omega))
/-- Tokens.block -/
theorem M370 {σ0 σ : rS} {D N : Nat → Nat} {F : hF} {A : hA} {d c s : Nat} {Q : wQ} (H : HS σ0 σ D N F A) {a1 : Int} (u1_1 : Int) (eu1_1 : F 1 1 = u1_1) (u3_2 : Int) (eu3_2 : F 3 2 = u3_2) (h0 : inr (a1)) (h1 : (u3_2) + (u1_1) ≤ 16384) (k : ∀ (z : Int) σ F' A', HS σ0 σ D N F' A' → SF [(1, 3), (3, 5), (3, 6), (3, 10)] F F' → SA [15, 18, 20] A A' → (inr (z)) → Q (some (I z)) σ c s) : Ew 370 (d + 4) 0 (rargs 0 [.ref (D 3), I a1]) [] σ c s Q := by
  have r1 : (0 : Int) ≤ u1_1 ∧ u1_1 ≤ 65536 := by have h1 : (0 : Int) ≤ F 1 1 ∧ F 1 1 ≤ 65536 := H.frng 1 1; rw [show F 1 1 = u1_1 from (eu1_1)] at h1; exact h1
  have r2 : (0 : Int) ≤ u3_2 ∧ u3_2 ≤ 65536 := by have h1 : (0 : Int) ≤ F 3 2 ∧ F 3 2 ≤ 65536 := H.frng 3 2; rw [show F 3 2 = u3_2 from (eu3_2)] at h1; exact h1
  refine Ew_of (pc' := 1) (fun _ => x_iload_n rfl rfl) ?_
  refine w_iflt (t := 9) rfl rfl (show inr (a1) by omega) (fun b3 => ?_) (fun b3 => ?_)
  · refine Ew_of (pc' := 10) (fun _ => x_iconst rfl) ?_
    exact w_ireturn rfl (k ((-1)) σ _ _ H (SF_refl) (SA_refl) (show inr ((-1)) by omega))
  · refine Ew_of (pc' := 5) (fun _ => x_iload_n rfl rfl) ?_
    refine Ew_of (pc' := 6) (fun _ => x_iconst rfl) ?_
    refine w_icmple (t := 11) rfl rfl (show inr (a1) by omega) (show inr (3) by omega) (fun b4 => ?_) (fun b4 => ?_)
    · refine Ew_of (pc' := 12) (fun _ => x_aload_n rfl rfl) ?_
      refine w_inv H (o := 3) rfl rfl rfl (H.perm 3 rfl) rfl rfl (by rfl) (M367 H (u3_2) ((eu3_2)) (show (u3_2) ≤ 16384 by omega) (fun σ F5 A6 H hS7 hA8 y10 ey11 pz9_0 => ⟨rfl, ?_⟩))
      have r12 : (-2147483648 : Int) ≤ y10 ∧ y10 ≤ 2147483647 := by have h1 : (-2147483648 : Int) ≤ F5 3 5 ∧ F5 3 5 ≤ 2147483647 := H.frng 3 5; rw [show F5 3 5 = y10 from (ey11)] at h1; exact h1
      refine Ew_of (pc' := 16) (fun _ => x_aload_n rfl rfl) ?_
      refine Ew_of (pc' := 17) (fun _ => x_iconst rfl) ?_
      refine Ew_of (pc' := 18) (fun _ => x_aload_n rfl rfl) ?_
      refine w_gT H (o := 3) (t := 1) rfl (H.perm 3 rfl) rfl rfl rfl rfl rfl rfl ?_
      refine w_gI H (o := 1) (w := u1_1) rfl (H.perm 1 rfl) rfl rfl rfl (fun _ => rfl) ((hS7 1 1 rfl).trans (eu1_1)) ?_
      refine w_inv H (o := 3) rfl rfl rfl (H.perm 3 rfl) rfl rfl (by rfl) (M368 H (y10) ((ey11)) (show inr (0) by omega) (show inr (u1_1) by omega) (show 0 ≤ (y10) ∧ (y10) ≤ 16384 by omega) (show 0 ≤ (0) ∧ (0) ≤ (u1_1) ∧ (u1_1) ≤ 65536 ∧ (y10) + ((u1_1) - (0)) ≤ 16384 by omega) (fun σ F13 A14 H hS15 hA16 y18 ey19 pz17_0 => ⟨rfl, ?_⟩))
      have r20 : (-2147483648 : Int) ≤ y18 ∧ y18 ≤ 2147483647 := by have h1 : (-2147483648 : Int) ≤ F13 3 5 ∧ F13 3 5 ≤ 2147483647 := H.frng 3 5; rw [show F13 3 5 = y18 from (ey19)] at h1; exact h1
      refine Ew_of (pc' := 28) (fun _ => x_aload_n rfl rfl) ?_
      refine Ew_of (pc' := 29) (fun _ => x_aload_n rfl rfl) ?_
      refine w_gI H (o := 3) (w := u3_2) rfl (H.perm 3 rfl) rfl rfl rfl (fun _ => rfl) (((hS15 3 2 rfl).trans (hS7 3 2 rfl)).trans (eu3_2)) ?_
      refine Ew_of (pc' := 33) (fun _ => x_iload_n rfl rfl) ?_
      refine w_inv H (o := 3) rfl rfl rfl (H.perm 3 rfl) rfl rfl (by rfl) (M366 H (y18) ((ey19)) (show inr (u3_2) by omega) (show inr (a1) by omega) (show 0 ≤ (y18) ∧ (y18) ≤ 16384 by omega) (show 0 ≤ (u3_2) ∧ (u3_2) ≤ (y18) by omega) (fun σ F21 A22 H hS23 hA24 y26 ey27 pz25_0 => ⟨rfl, ?_⟩))
      have r28 : (-2147483648 : Int) ≤ y26 ∧ y26 ≤ 2147483647 := by have h1 : (-2147483648 : Int) ≤ F21 3 10 ∧ F21 3 10 ≤ 2147483647 := H.frng 3 10; rw [show F21 3 10 = y26 from (ey27)] at h1; exact h1
      refine Ew_of (pc' := 37) (fun _ => x_aload_n rfl rfl) ?_
      refine Ew_of (pc' := 38) (fun _ => x_aload_n rfl rfl) ?_
      refine w_gT H (o := 3) (t := 20) rfl (H.perm 3 rfl) rfl rfl rfl rfl rfl rfl ?_
      refine Ew_of (pc' := 42) (fun _ => x_aload_n rfl rfl) ?_
      refine w_gI H (o := 3) (w := y26) rfl (H.perm 3 rfl) rfl rfl rfl (fun _ => rfl) (ey27) ?_
      refine w_inv H (o := 3) rfl rfl rfl (H.perm 3 rfl) rfl rfl (by rfl) (M369_20 H (show inr (y26) by omega) (show 0 ≤ (y26) ∧ (y26) ≤ 100000000 by omega) (fun z33 σ F29 A30 H hS31 hA32 pz33_0 pz33_1 => ⟨rfl, ?_⟩))
      exact w_ireturn rfl (k (z33) σ _ _ H (SF_trans (SF_trans (SF_trans (SF_trans (SF_refl) hS7 (any_sub rfl)) hS15 (any_sub rfl)) hS23 (any_sub rfl)) hS31 (any_sub rfl)) (SA_trans (SA_trans (SA_trans (SA_trans (SA_refl) hA8 (any_subA rfl)) hA16 (any_subA rfl)) hA24 (any_subA rfl)) hA32 (any_subA rfl)) (show inr (z33) by omega))
    · refine Ew_of (pc' := 10) (fun _ => x_iconst rfl) ?_
      exact w_ireturn rfl (k ((-1)) σ _ _ H (SF_refl) (SA_refl) (show inr ((-1)) by omega))
/-- Tokens.makeNumber -/
theorem M377 {σ0 σ : rS} {D N : Nat → Nat} {F : hF} {A : hA} {d c s : Nat} {Q : wQ} (H : HS σ0 σ D N F A) {a1 a2 : Int} (u3_8 : Int) (eu3_8 : F 3 8 = u3_8) (h0 : inrJ (a1)) (h1 : inr (a2)) (h2 : 0 ≤ (a2) ∧ (a2) ≤ 8) (h3 : 0 ≤ (u3_8) ∧ (u3_8) ≤ 10000000) (k : ∀ σ F' A', HS σ0 σ D N F' A' → SF [(3, 8)] F F' → SA [19] A A' → ∀ y3_8 : Int, F' 3 8 = y3_8 → ((y3_8) = (u3_8) + (a2)) → Q none σ c s) : Ew 377 (d + 1) 0 (rargs 0 [.ref (D 3), J a1, I a2]) [] σ c s Q := by
  have r1 : (-2147483648 : Int) ≤ u3_8 ∧ u3_8 ≤ 2147483647 := by have h1 : (-2147483648 : Int) ≤ F 3 8 ∧ F 3 8 ≤ 2147483647 := H.frng 3 8; rw [show F 3 8 = u3_8 from (eu3_8)] at h1; exact h1
  refine Ew_of (pc' := 1) (fun _ => x_iconst rfl) ?_
  refine Ew_of (pc' := 3) (fun _ => x_istore rfl) ?_
  suffices hl3 : ∀ (m : Nat), ∀ (ls : rO) (σ : rS) (F_3 : hF) (A_3 : hA) (x3_4 : Int), rlook ls 0 = some (.ref (D 3)) → rlook ls 1 = some (J (a1)) → rlook ls 3 = some (I (a2)) → rlook ls 4 = some (I (x3_4)) → HS σ0 σ D N F_3 A_3 → SF [(3, 8)] F F_3 → SA [19] A A_3 → ∀ y3_3_8 : Int, F_3 3 8 = y3_3_8 → (inr (x3_4)) → ((0) ≤ (x3_4)) → ((x3_4) ≤ (0) ∨ (x3_4) ≤ ((a2))) → ((y3_3_8) = (u3_8) + (x3_4)) → (((a2)) - (x3_4)).toNat = m → Ew 377 (d + 1) 3 ls [] σ c s Q from
    hl3 _ _ σ _ _ (0) (rk_o (rfl) rfl rfl) (rk_o (rfl) rfl rfl) (rk_o (rfl) rfl rfl) (rk_s) H (SF_refl) (SA_refl) (u3_8) ((eu3_8))  (show inr (0) by omega) (show (0) ≤ (0) by omega) (show (0) ≤ (0) ∨ (0) ≤ ((a2)) by omega) (show (u3_8) = (u3_8) + (0) by omega) rfl
  as_aux_lemma =>
  intro m
  induction m using Nat.strongRecOn with
  | _ m ih3 =>
    intro ls σ F_3 A_3 x3_4 l3_0 l3_1 l3_3 l3_4 H hS_3 hA_3 y3_3_8 ey3_3_8  j3_0 j3_1 j3_2 j3_3 hm3
    have r2 : (-2147483648 : Int) ≤ y3_3_8 ∧ y3_3_8 ≤ 2147483647 := by have h1 : (-2147483648 : Int) ≤ F_3 3 8 ∧ F_3 3 8 ≤ 2147483647 := H.frng 3 8; rw [show F_3 3 8 = y3_3_8 from (ey3_3_8)] at h1; exact h1
    refine Ew_of (pc' := 5) (fun _ => x_iload rfl l3_4) ?_
    refine Ew_of (pc' := 6) (fun _ => x_iload_n rfl l3_3) ?_
    refine w_icmpge (t := 31) rfl rfl (show inr (x3_4) by omega) (show inr (a2) by omega) (fun b3 => ?_) (fun b3 => ?_)
    · exact w_ret rfl (k σ _ _ H (SF_trans (SF_refl) hS_3 (any_sub rfl)) (SA_trans (SA_refl) hA_3 (any_subA rfl)) (y3_3_8) ((ey3_3_8)) (show (y3_3_8) = (u3_8) + a2 by omega))
    · refine Ew_of (pc' := 10) (fun _ => x_aload_n rfl l3_0) ?_
      refine Ew_of (pc' := 11) (fun _ => x_lload_n rfl l3_1) ?_
      refine Ew_of (pc' := 13) (fun _ => x_bipush (z := 8) rfl (by decide)) ?_
      refine Ew_of (pc' := 15) (fun _ => x_iload rfl l3_4) ?_
      refine w_imul rfl ?_
      refine w_lshrA rfl (fun z4 gz4 => ?_)
      refine Ew_of (pc' := 20) (fun _ => x_ldc2 (z := 255) rfl (by decide)) ?_
      refine w_land rfl (show inrJ (z4) by omega) (show inrJ (255) by omega) (fun z5 gz5 gaz5 gbz5 => ?_)
      refine w_l2i rfl ?_
      refine w_inv H (o := 3) rfl rfl rfl (H.perm 3 rfl) rfl rfl (by rfl) (M376 H (y3_3_8) ((ey3_3_8)) (show inr (z5) by omega) (show 0 ≤ (z5) ∧ (z5) ≤ 255 by omega) (show 0 ≤ (y3_3_8) ∧ (y3_3_8) ≤ 100000000 by omega) (fun σ F6 A7 H hS8 hA9 y11 ey12 pz10_0 => ⟨rfl, ?_⟩))
      have r13 : (-2147483648 : Int) ≤ y11 ∧ y11 ≤ 2147483647 := by have h1 : (-2147483648 : Int) ≤ F6 3 8 ∧ F6 3 8 ≤ 2147483647 := H.frng 3 8; rw [show F6 3 8 = y11 from (ey12)] at h1; exact h1
      refine Ew_of (pc' := 28) (fun _ => x_iinc (len := 3) rfl (l3_4)) ?_
      refine Ew_of (pc' := 3) (fun _ => x_goto rfl rfl) ?_
      exact ih3 _ (by omega) _ σ _ _ ((x3_4 + 1)) (rk_o (l3_0) rfl rfl) (rk_o (l3_1) rfl rfl) (rk_o (l3_3) rfl rfl) (rk_s) H (SF_trans (hS_3) hS8 (any_sub rfl)) (SA_trans (hA_3) hA9 (any_subA rfl)) (y11) ((ey12))  (show inr ((x3_4 + 1)) by omega) (show (0) ≤ ((x3_4 + 1)) by omega) (show ((x3_4 + 1)) ≤ (0) ∨ ((x3_4 + 1)) ≤ ((a2)) by omega) (show (y11) = (u3_8) + ((x3_4 + 1)) by omega) rfl
