/-- Tokens.readBlock -/
theorem M372 {σ0 σ : rS} {D N : Nat → Nat} {F : hF} {A : hA} {d c s : Nat} {Q : wQ} (H : HS σ0 σ D N F A) {a1 a2 a3 : Int} (u3_12 : Int) (eu3_12 : F 3 12 = u3_12) (h0 : inr (a1)) (h1 : inr (a2)) (h2 : inr (a3)) (h3 : 0 ≤ (a1) ∧ (a1) ≤ (a2) ∧ (a2) ≤ 65536 ∧ 0 ≤ (a3) ∧ (a3) ≤ 65536) (h4 : 0 ≤ (u3_12) ∧ (u3_12) + (a3) ≤ 131072) (k : ∀ (z : Int) σ F' A', HS σ0 σ D N F' A' → SF [(1, 4), (3, 12), (3, 15), (3, 16)] F F' → SA [21] A A' → ∀ y3_12 : Int, F' 3 12 = y3_12 → (inr (z)) → (0 ≤ (z) ∧ (z) ≤ 3) → ((u3_12) ≤ (y3_12) ∧ (y3_12) ≤ (u3_12) + (a3)) → Q (some (I z)) σ c s) : Ew 372 (d + 1) 0 (rargs 0 [.ref (D 3), I a1, I a2, I a3]) [] σ c s Q := by
  have r1 : (-2147483648 : Int) ≤ u3_12 ∧ u3_12 ≤ 2147483647 := by have h1 : (-2147483648 : Int) ≤ F 3 12 ∧ F 3 12 ≤ 2147483647 := H.frng 3 12; rw [show F 3 12 = u3_12 from (eu3_12)] at h1; exact h1
  refine Ew_of (pc' := 1) (fun _ => x_aload_n rfl rfl) ?_
  refine Ew_of (pc' := 2) (fun _ => x_iload_n rfl rfl) ?_
  refine w_pI H (o := 3) rfl rfl (H.perm 3 rfl) rfl rfl rfl (fun _ => rfl) rfl (show (-2147483648 : Int) ≤ a1 ∧ a1 ≤ 2147483647 by omega) (fun σ H => ?_)
  refine Ew_of (pc' := 6) (fun _ => x_aload_n rfl rfl) ?_
  refine w_gI H (o := 3) (w := u3_12) rfl (H.perm 3 rfl) rfl rfl rfl (fun _ => rfl) (eu3_12) ?_
  refine Ew_of (pc' := 11) (fun _ => x_istore rfl) ?_
  suffices hl11 : ∀ (m : Nat), ∀ (ls : rO) (σ : rS) (F_11 : hF) (A_11 : hA) , rlook ls 0 = some (.ref (D 3)) → rlook ls 2 = some (I (a2)) → rlook ls 3 = some (I (a3)) → rlook ls 4 = some (I (u3_12)) → HS σ0 σ D N F_11 A_11 → SF [(1, 4), (3, 12), (3, 15), (3, 16)] (updF F 3 15 (a1)) F_11 → SA [21] A A_11 → ∀ y11_3_12 : Int, F_11 3 12 = y11_3_12 → ∀ y11_3_15 : Int, F_11 3 15 = y11_3_15 → (0 ≤ (y11_3_15) ∧ (y11_3_15) ≤ (a2)) → ((u3_12) ≤ (y11_3_12) ∧ (y11_3_12) ≤ (u3_12) + (a3)) → ((a2) - (y11_3_15)).toNat = m → Ew 372 (d + 1) 11 ls [] σ c s Q from
    hl11 _ _ σ _ _  (rk_o (rfl) rfl rfl) (rk_o (rfl) rfl rfl) (rk_o (rfl) rfl rfl) (rk_s) H (SF_refl) (SA_refl) (u3_12) ((eu3_12)) (a1) (rfl)  (show 0 ≤ (a1) ∧ (a1) ≤ (a2) by omega) (show (u3_12) ≤ (u3_12) ∧ (u3_12) ≤ (u3_12) + (a3) by omega) rfl
  as_aux_lemma =>
  intro m
  induction m using Nat.strongRecOn with
  | _ m ih11 =>
    intro ls σ F_11 A_11  l11_0 l11_2 l11_3 l11_4 H hS_11 hA_11 y11_3_12 ey11_3_12 y11_3_15 ey11_3_15  j11_0 j11_1 hm11
    have r2 : (-2147483648 : Int) ≤ y11_3_12 ∧ y11_3_12 ≤ 2147483647 := by have h1 : (-2147483648 : Int) ≤ F_11 3 12 ∧ F_11 3 12 ≤ 2147483647 := H.frng 3 12; rw [show F_11 3 12 = y11_3_12 from (ey11_3_12)] at h1; exact h1
    have r3 : (-2147483648 : Int) ≤ y11_3_15 ∧ y11_3_15 ≤ 2147483647 := by have h1 : (-2147483648 : Int) ≤ F_11 3 15 ∧ F_11 3 15 ≤ 2147483647 := H.frng 3 15; rw [show F_11 3 15 = y11_3_15 from (ey11_3_15)] at h1; exact h1
    refine Ew_of (pc' := 12) (fun _ => x_aload_n rfl l11_0) ?_
    refine w_gT H (o := 3) (t := 1) rfl (H.perm 3 rfl) rfl rfl rfl rfl rfl rfl ?_
    refine Ew_of (pc' := 16) (fun _ => x_iload_n rfl l11_2) ?_
    refine w_pI H (o := 1) rfl rfl (H.perm 1 rfl) rfl rfl rfl (fun _ => rfl) rfl (show (-2147483648 : Int) ≤ a2 ∧ a2 ≤ 2147483647 by omega) (fun σ H => ?_)
    refine Ew_of (pc' := 20) (fun _ => x_aload_n rfl l11_0) ?_
    refine w_gI H (o := 3) (w := y11_3_15) rfl (H.perm 3 rfl) rfl rfl rfl (fun _ => rfl) (ey11_3_15) ?_
    refine Ew_of (pc' := 24) (fun _ => x_iload_n rfl l11_2) ?_
    refine w_icmpne (t := 29) rfl rfl (show inr (y11_3_15) by omega) (show inr (a2) by omega) (fun b4 => ?_) (fun b4 => ?_)
    · refine Ew_of (pc' := 30) (fun _ => x_aload_n rfl l11_0) ?_
      refine w_gT H (o := 3) (t := 1) rfl (H.perm 3 rfl) rfl rfl rfl rfl rfl rfl ?_
      refine w_gT H (o := 1) (t := 14) rfl (H.perm 1 rfl) rfl rfl rfl rfl rfl rfl ?_
      refine Ew_of (pc' := 37) (fun _ => x_aload_n rfl l11_0) ?_
      refine w_gI H (o := 3) (w := y11_3_15) rfl (H.perm 3 rfl) rfl rfl rfl (fun _ => rfl) (ey11_3_15) ?_
      refine w_lI H (o := 14) (n := 65536) rfl (H.perm 14 rfl) rfl rfl (H.fix 14 rfl rfl) (show 0 ≤ y11_3_15 ∧ y11_3_15 < ((65536 : Nat) : Int) by omega) (by decide) (fun v5 ev5 qv5 => ?_)
      have qv5 : (0 : Int) ≤ v5 ∧ v5 ≤ 255 := qv5
      have ev5 : (A 14) (y11_3_15) = v5 := (congrFun (funext (hA_11 14 rfl)) (y11_3_15)).symm.trans ev5
      refine Ew_of (pc' := 43) (fun _ => x_istore rfl) ?_
      refine Ew_of (pc' := 44) (fun _ => x_aload_n rfl (rk_o (l11_0) rfl rfl)) ?_
      refine Ew_of (pc' := 45) (fun _ => x_dup rfl rfl) ?_
      refine w_gI H (o := 3) (w := y11_3_15) rfl (H.perm 3 rfl) rfl rfl rfl (fun _ => rfl) (ey11_3_15) ?_
      refine Ew_of (pc' := 49) (fun _ => x_iconst rfl) ?_
      refine w_iadd rfl ?_
      refine w_pI H (o := 3) rfl rfl (H.perm 3 rfl) rfl rfl rfl (fun _ => rfl) rfl (show (-2147483648 : Int) ≤ (y11_3_15 + 1) ∧ (y11_3_15 + 1) ≤ 2147483647 by omega) (fun σ H => ?_)
      refine Ew_of (pc' := 54) (fun _ => x_aload_n rfl (rk_o (l11_0) rfl rfl)) ?_
      refine Ew_of (pc' := 56) (fun _ => x_iload rfl rk_s) ?_
      refine Ew_of (pc' := 58) (fun _ => x_bipush (z := 16) rfl (by decide)) ?_
      refine w_idiv rfl (show inr (v5) ∧ 0 ≤ v5 by omega) (show inr (16) ∧ 0 < 16 by omega) ?_
      refine Ew_of (pc' := 60) (fun _ => x_iload_n rfl (rk_o (l11_2) rfl rfl)) ?_
      refine w_inv H (o := 3) rfl rfl rfl (H.perm 3 rfl) rfl rfl (by rfl) (M371 H ((y11_3_15 + 1)) (rfl) (show inr ((v5 / 16)) by omega) (show inr (a2) by omega) (show 0 ≤ ((v5 / 16)) ∧ ((v5 / 16)) ≤ 15 by omega) (show 0 ≤ ((y11_3_15 + 1)) ∧ ((y11_3_15 + 1)) ≤ (a2) ∧ (a2) ≤ 65536 by omega) (fun z10 σ F6 A7 H hS8 hA9 y11 ey12 y13 ey14 pz10_0 pz10_1 pz10_2 => ⟨rretB rfl pz10_0, ?_⟩))
      have r15 : (-2147483648 : Int) ≤ y11 ∧ y11 ≤ 2147483647 := by have h1 : (-2147483648 : Int) ≤ F6 3 15 ∧ F6 3 15 ≤ 2147483647 := H.frng 3 15; rw [show F6 3 15 = y11 from (ey12)] at h1; exact h1
      have r16 : (-2147483648 : Int) ≤ y13 ∧ y13 ≤ 2147483647 := by have h1 : (-2147483648 : Int) ≤ F6 3 16 ∧ F6 3 16 ≤ 2147483647 := H.frng 3 16; rw [show F6 3 16 = y13 from (ey14)] at h1; exact h1
      refine w_ifne (t := 68) rfl rfl (show inr (z10) by omega) (fun b17 => ?_) (fun b17 => ?_)
      · refine Ew_of (pc' := 69) (fun _ => x_aload_n rfl (rk_o (l11_0) rfl rfl)) ?_
        refine w_gI H (o := 3) (w := y13) rfl (H.perm 3 rfl) rfl rfl rfl (fun _ => rfl) (ey14) ?_
        refine Ew_of (pc' := 74) (fun _ => x_istore rfl) ?_
        suffices hl74 : ∀ (m : Nat), ∀ (ls : rO) (σ : rS) (F_74 : hF) (A_74 : hA) (x74_6 : Int), rlook ls 0 = some (.ref (D 3)) → rlook ls 2 = some (I (a2)) → rlook ls 3 = some (I (a3)) → rlook ls 4 = some (I (u3_12)) → rlook ls 5 = some (I (v5)) → rlook ls 6 = some (I (x74_6)) → HS σ0 σ D N F_74 A_74 → SF [(3, 12), (3, 15)] F6 F_74 → SA [21] A7 A_74 → ∀ y74_3_12 : Int, F_74 3 12 = y74_3_12 → ∀ y74_3_15 : Int, F_74 3 15 = y74_3_15 → (inr (x74_6)) → ((x74_6) ≤ (y13)) → ((y13) ≤ (x74_6) ∨ (0) ≤ (x74_6)) → ((y11) ≤ (y74_3_15) ∧ (y74_3_15) ≤ (a2)) → ((u3_12) ≤ (y74_3_12) ∧ (y74_3_12) ≤ (u3_12) + (a3)) → ((x74_6) - (0)).toNat = m → Ew 372 (d + 1) 74 ls [] σ c s Q from
          hl74 _ _ σ _ _ (y13) (rk_o (rk_o (l11_0) rfl rfl) rfl rfl) (rk_o (rk_o (l11_2) rfl rfl) rfl rfl) (rk_o (rk_o (l11_3) rfl rfl) rfl rfl) (rk_o (rk_o (l11_4) rfl rfl) rfl rfl) (rk_o (rk_s) rfl rfl) (rk_s) H (SF_refl) (SA_refl) (y11_3_12) (((hS8 3 12 rfl).trans (ey11_3_12))) (y11) ((ey12))  (show inr (y13) by omega) (show (y13) ≤ (y13) by omega) (show (y13) ≤ (y13) ∨ (0) ≤ (y13) by omega) (show (y11) ≤ (y11) ∧ (y11) ≤ (a2) by omega) (show (u3_12) ≤ (y11_3_12) ∧ (y11_3_12) ≤ (u3_12) + (a3) by omega) rfl
        as_aux_lemma =>
        intro m
        induction m using Nat.strongRecOn with
        | _ m ih74 =>
          intro ls σ F_74 A_74 x74_6 l74_0 l74_2 l74_3 l74_4 l74_5 l74_6 H hS_74 hA_74 y74_3_12 ey74_3_12 y74_3_15 ey74_3_15  j74_0 j74_1 j74_2 j74_3 j74_4 hm74
          have r18 : (-2147483648 : Int) ≤ y74_3_12 ∧ y74_3_12 ≤ 2147483647 := by have h1 : (-2147483648 : Int) ≤ F_74 3 12 ∧ F_74 3 12 ≤ 2147483647 := H.frng 3 12; rw [show F_74 3 12 = y74_3_12 from (ey74_3_12)] at h1; exact h1
          have r19 : (-2147483648 : Int) ≤ y74_3_15 ∧ y74_3_15 ≤ 2147483647 := by have h1 : (-2147483648 : Int) ≤ F_74 3 15 ∧ F_74 3 15 ≤ 2147483647 := H.frng 3 15; rw [show F_74 3 15 = y74_3_15 from (ey74_3_15)] at h1; exact h1
          refine Ew_of (pc' := 76) (fun _ => x_iload rfl l74_6) ?_
          refine w_ifle (t := 160) rfl rfl (show inr (x74_6) by omega) (fun b20 => ?_) (fun b20 => ?_)
          · refine Ew_of (pc' := 161) (fun _ => x_aload_n rfl l74_0) ?_
            refine w_gI H (o := 3) (w := y74_3_15) rfl (H.perm 3 rfl) rfl rfl rfl (fun _ => rfl) (ey74_3_15) ?_
            refine Ew_of (pc' := 165) (fun _ => x_iload_n rfl l74_2) ?_
            refine w_icmpne (t := 170) rfl rfl (show inr (y74_3_15) by omega) (show inr (a2) by omega) (fun b21 => ?_) (fun b21 => ?_)
            · refine Ew_of (pc' := 171) (fun _ => x_aload_n rfl l74_0) ?_
              refine w_gI H (o := 3) (w := y74_3_15) rfl (H.perm 3 rfl) rfl rfl rfl (fun _ => rfl) (ey74_3_15) ?_
              refine Ew_of (pc' := 176) (fun _ => x_istore rfl) ?_
              refine Ew_of (pc' := 177) (fun _ => x_aload_n rfl (rk_o (l74_0) rfl rfl)) ?_
              refine w_gI H (o := 3) (w := y74_3_15) rfl (H.perm 3 rfl) rfl rfl rfl (fun _ => rfl) (ey74_3_15) ?_
              refine Ew_of (pc' := 181) (fun _ => x_iconst rfl) ?_
              refine w_iadd rfl ?_
              refine Ew_of (pc' := 183) (fun _ => x_iload_n rfl (rk_o (l74_2) rfl rfl)) ?_
              refine w_icmple (t := 188) rfl rfl (show inr ((y74_3_15 + 2)) by omega) (show inr (a2) by omega) (fun b22 => ?_) (fun b22 => ?_)
              · refine Ew_of (pc' := 189) (fun _ => x_aload_n rfl (rk_o (l74_0) rfl rfl)) ?_
                refine w_gT H (o := 3) (t := 1) rfl (H.perm 3 rfl) rfl rfl rfl rfl rfl rfl ?_
                refine w_gT H (o := 1) (t := 14) rfl (H.perm 1 rfl) rfl rfl rfl rfl rfl rfl ?_
                refine Ew_of (pc' := 196) (fun _ => x_aload_n rfl (rk_o (l74_0) rfl rfl)) ?_
                refine w_gI H (o := 3) (w := y74_3_15) rfl (H.perm 3 rfl) rfl rfl rfl (fun _ => rfl) (ey74_3_15) ?_
                refine w_lI H (o := 14) (n := 65536) rfl (H.perm 14 rfl) rfl rfl (H.fix 14 rfl rfl) (show 0 ≤ y74_3_15 ∧ y74_3_15 < ((65536 : Nat) : Int) by omega) (by decide) (fun v23 ev23 qv23 => ?_)
                have qv23 : (0 : Int) ≤ v23 ∧ v23 ≤ 255 := qv23
                have ev23 : (A 14) (y74_3_15) = v23 := (congrFun ((funext (hA_74 14 rfl)).trans ((funext (hA9 14 rfl)).trans (funext (hA_11 14 rfl)))) (y74_3_15)).symm.trans ev23
                refine Ew_of (pc' := 203) (fun _ => x_sipush (z := 256) rfl (by decide)) ?_
                refine Ew_of (pc' := 204) (fun _ => x_aload_n rfl (rk_o (l74_0) rfl rfl)) ?_
                refine w_gT H (o := 3) (t := 1) rfl (H.perm 3 rfl) rfl rfl rfl rfl rfl rfl ?_
                refine w_gT H (o := 1) (t := 14) rfl (H.perm 1 rfl) rfl rfl rfl rfl rfl rfl ?_
                refine Ew_of (pc' := 211) (fun _ => x_aload_n rfl (rk_o (l74_0) rfl rfl)) ?_
                refine w_gI H (o := 3) (w := y74_3_15) rfl (H.perm 3 rfl) rfl rfl rfl (fun _ => rfl) (ey74_3_15) ?_
                refine Ew_of (pc' := 215) (fun _ => x_iconst rfl) ?_
                refine w_iadd rfl ?_
                refine w_lI H (o := 14) (n := 65536) rfl (H.perm 14 rfl) rfl rfl (H.fix 14 rfl rfl) (show 0 ≤ (y74_3_15 + 1) ∧ (y74_3_15 + 1) < ((65536 : Nat) : Int) by omega) (by decide) (fun v24 ev24 qv24 => ?_)
                have qv24 : (0 : Int) ≤ v24 ∧ v24 ≤ 255 := qv24
                have ev24 : (A 14) ((y74_3_15 + 1)) = v24 := (congrFun ((funext (hA_74 14 rfl)).trans ((funext (hA9 14 rfl)).trans (funext (hA_11 14 rfl)))) ((y74_3_15 + 1))).symm.trans ev24
                refine w_imul rfl ?_
                refine w_iadd rfl ?_
                refine Ew_of (pc' := 221) (fun _ => x_istore rfl) ?_
                refine Ew_of (pc' := 222) (fun _ => x_aload_n rfl (rk_o (rk_o (l74_0) rfl rfl) rfl rfl)) ?_
                refine Ew_of (pc' := 223) (fun _ => x_dup rfl rfl) ?_
                refine w_gI H (o := 3) (w := y74_3_15) rfl (H.perm 3 rfl) rfl rfl rfl (fun _ => rfl) (ey74_3_15) ?_
                refine Ew_of (pc' := 227) (fun _ => x_iconst rfl) ?_
                refine w_iadd rfl ?_
                refine w_pI H (o := 3) rfl rfl (H.perm 3 rfl) rfl rfl rfl (fun _ => rfl) rfl (show (-2147483648 : Int) ≤ (y74_3_15 + 2) ∧ (y74_3_15 + 2) ≤ 2147483647 by omega) (fun σ H => ?_)
                refine Ew_of (pc' := 233) (fun _ => x_iload rfl rk_s) ?_
                refine w_ifeq (t := 245) rfl rfl (show inr ((v23 + (256 * v24))) by omega) (fun b25 => ?_) (fun b25 => ?_)
                · refine Ew_of (pc' := 246) (fun _ => x_aload_n rfl (rk_o (rk_o (l74_0) rfl rfl) rfl rfl)) ?_
                  refine w_gT H (o := 3) (t := 1) rfl (H.perm 3 rfl) rfl rfl rfl rfl rfl rfl ?_
                  refine Ew_of (pc' := 251) (fun _ => x_iload rfl (rk_o (rk_s) rfl rfl)) ?_
                  refine w_pI H (o := 1) rfl rfl (H.perm 1 rfl) rfl rfl rfl (fun _ => rfl) rfl (show (-2147483648 : Int) ≤ y74_3_15 ∧ y74_3_15 ≤ 2147483647 by omega) (fun σ H => ?_)
                  refine Ew_of (pc' := 255) (fun _ => x_iconst rfl) ?_
                  exact w_ireturn rfl (k (2) σ _ _ H (SF_upd (SF_upd (SF_trans (SF_trans (SF_upd (SF_upd (SF_trans (SF_upd (SF_refl) rfl) hS_11 (any_sub rfl)) rfl) rfl) hS8 (any_sub rfl)) hS_74 (any_sub rfl)) rfl) rfl) (SA_trans (SA_trans (SA_trans (SA_refl) hA_11 (any_subA rfl)) hA9 (any_subA rfl)) hA_74 (any_subA rfl)) (y74_3_12) ((ey74_3_12)) (show inr (2) by omega) (show 0 ≤ (2) ∧ (2) ≤ 3 by omega) (show (u3_12) ≤ (y74_3_12) ∧ (y74_3_12) ≤ (u3_12) + a3 by omega))
                · refine Ew_of (pc' := 238) (fun _ => x_iload rfl rk_s) ?_
                  refine Ew_of (pc' := 239) (fun _ => x_aload_n rfl (rk_o (rk_o (l74_0) rfl rfl) rfl rfl)) ?_
                  refine w_gI H (o := 3) (w := y74_3_12) rfl (H.perm 3 rfl) rfl rfl rfl (fun _ => rfl) (ey74_3_12) ?_
                  refine w_icmple (t := 256) rfl rfl (show inr ((v23 + (256 * v24))) by omega) (show inr (y74_3_12) by omega) (fun b26 => ?_) (fun b26 => ?_)
                  · refine Ew_of (pc' := 257) (fun _ => x_aload_n rfl (rk_o (rk_o (l74_0) rfl rfl) rfl rfl)) ?_
                    refine Ew_of (pc' := 259) (fun _ => x_iload rfl (rk_o (rk_o (l74_5) rfl rfl) rfl rfl)) ?_
                    refine Ew_of (pc' := 261) (fun _ => x_bipush (z := 16) rfl (by decide)) ?_
                    refine w_irem rfl (show inr (v5) ∧ 0 ≤ v5 by omega) (show inr (16) ∧ 0 < 16 by omega) ?_
                    refine Ew_of (pc' := 263) (fun _ => x_iload_n rfl (rk_o (rk_o (l74_2) rfl rfl) rfl rfl)) ?_
                    refine w_inv H (o := 3) rfl rfl rfl (H.perm 3 rfl) rfl rfl (by rfl) (M371 H ((y74_3_15 + 2)) (rfl) (show inr ((v5 % 16)) by omega) (show inr (a2) by omega) (show 0 ≤ ((v5 % 16)) ∧ ((v5 % 16)) ≤ 15 by omega) (show 0 ≤ ((y74_3_15 + 2)) ∧ ((y74_3_15 + 2)) ≤ (a2) ∧ (a2) ≤ 65536 by omega) (fun z31 σ F27 A28 H hS29 hA30 y32 ey33 y34 ey35 pz31_0 pz31_1 pz31_2 => ⟨rretB rfl pz31_0, ?_⟩))
                    have r36 : (-2147483648 : Int) ≤ y32 ∧ y32 ≤ 2147483647 := by have h1 : (-2147483648 : Int) ≤ F27 3 15 ∧ F27 3 15 ≤ 2147483647 := H.frng 3 15; rw [show F27 3 15 = y32 from (ey33)] at h1; exact h1
                    have r37 : (-2147483648 : Int) ≤ y34 ∧ y34 ≤ 2147483647 := by have h1 : (-2147483648 : Int) ≤ F27 3 16 ∧ F27 3 16 ≤ 2147483647 := H.frng 3 16; rw [show F27 3 16 = y34 from (ey35)] at h1; exact h1
                    refine w_ifne (t := 271) rfl rfl (show inr (z31) by omega) (fun b38 => ?_) (fun b38 => ?_)
                    · refine Ew_of (pc' := 272) (fun _ => x_aload_n rfl (rk_o (rk_o (l74_0) rfl rfl) rfl rfl)) ?_
                      refine w_gI H (o := 3) (w := y34) rfl (H.perm 3 rfl) rfl rfl rfl (fun _ => rfl) (ey35) ?_
                      refine Ew_of (pc' := 276) (fun _ => x_iconst rfl) ?_
                      refine w_iadd rfl ?_
                      refine Ew_of (pc' := 278) (fun _ => x_iload_n rfl (rk_o (rk_o (l74_3) rfl rfl) rfl rfl)) ?_
                      refine Ew_of (pc' := 279) (fun _ => x_aload_n rfl (rk_o (rk_o (l74_0) rfl rfl) rfl rfl)) ?_
                      refine w_gI H (o := 3) (w := y74_3_12) rfl (H.perm 3 rfl) rfl rfl rfl (fun _ => rfl) ((hS29 3 12 rfl).trans (ey74_3_12)) ?_
                      refine Ew_of (pc' := 284) (fun _ => x_iload rfl (rk_o (rk_o (l74_4) rfl rfl) rfl rfl)) ?_
                      refine w_isub rfl ?_
                      refine w_isub rfl ?_
                      refine w_icmple (t := 300) rfl rfl (show inr ((y34 + 4)) by omega) (show inr ((a3 - (y74_3_12 - u3_12))) by omega) (fun b39 => ?_) (fun b39 => ?_)
                      · refine Ew_of (pc' := 301) (fun _ => x_iconst rfl) ?_
                        refine Ew_of (pc' := 303) (fun _ => x_istore rfl) ?_
                        suffices hl303 : ∀ (m : Nat), ∀ (ls : rO) (σ : rS) (F_303 : hF) (A_303 : hA) (x303_8 : Int), rlook ls 0 = some (.ref (D 3)) → rlook ls 2 = some (I (a2)) → rlook ls 3 = some (I (a3)) → rlook ls 4 = some (I (u3_12)) → rlook ls 7 = some (I ((v23 + (256 * v24)))) → rlook ls 8 = some (I (x303_8)) → HS σ0 σ D N F_303 A_303 → SF [(3, 12)] F27 F_303 → SA [21] A28 A_303 → ∀ y303_3_12 : Int, F_303 3 12 = y303_3_12 → (inr (x303_8)) → ((0) ≤ (x303_8)) → ((x303_8) ≤ (0) ∨ (x303_8) ≤ (((y34) + 4))) → ((y303_3_12) = (y74_3_12) + (x303_8)) → ((((y34) + 4)) - (x303_8)).toNat = m → Ew 372 (d + 1) 303 ls [] σ c s Q from
                          hl303 _ _ σ _ _ (0) (rk_o (rk_o (rk_o (l74_0) rfl rfl) rfl rfl) rfl rfl) (rk_o (rk_o (rk_o (l74_2) rfl rfl) rfl rfl) rfl rfl) (rk_o (rk_o (rk_o (l74_3) rfl rfl) rfl rfl) rfl rfl) (rk_o (rk_o (rk_o (l74_4) rfl rfl) rfl rfl) rfl rfl) (rk_o (rk_s) rfl rfl) (rk_s) H (SF_refl) (SA_refl) (y74_3_12) (((hS29 3 12 rfl).trans (ey74_3_12)))  (show inr (0) by omega) (show (0) ≤ (0) by omega) (show (0) ≤ (0) ∨ (0) ≤ (((y34) + 4)) by omega) (show (y74_3_12) = (y74_3_12) + (0) by omega) rfl
                        as_aux_lemma =>
                        intro m
                        induction m using Nat.strongRecOn with
                        | _ m ih303 =>
                          intro ls σ F_303 A_303 x303_8 l303_0 l303_2 l303_3 l303_4 l303_7 l303_8 H hS_303 hA_303 y303_3_12 ey303_3_12  j303_0 j303_1 j303_2 j303_3 hm303
                          have r40 : (-2147483648 : Int) ≤ y303_3_12 ∧ y303_3_12 ≤ 2147483647 := by have h1 : (-2147483648 : Int) ≤ F_303 3 12 ∧ F_303 3 12 ≤ 2147483647 := H.frng 3 12; rw [show F_303 3 12 = y303_3_12 from (ey303_3_12)] at h1; exact h1
                          refine Ew_of (pc' := 305) (fun _ => x_iload rfl l303_8) ?_
                          refine Ew_of (pc' := 306) (fun _ => x_aload_n rfl l303_0) ?_
                          refine w_gI H (o := 3) (w := y34) rfl (H.perm 3 rfl) rfl rfl rfl (fun _ => rfl) ((hS_303 3 16 rfl).trans (ey35)) ?_
                          refine Ew_of (pc' := 310) (fun _ => x_iconst rfl) ?_
                          refine w_iadd rfl ?_
                          refine w_icmpge (t := 351) rfl rfl (show inr (x303_8) by omega) (show inr ((y34 + 4)) by omega) (fun b41 => ?_) (fun b41 => ?_)
                          · refine Ew_of (pc' := 11) (fun _ => x_goto rfl rfl) ?_
                            exact ih11 _ (by omega) _ σ _ _  (l303_0) (l303_2) (l303_3) (l303_4) H (SF_trans (SF_trans (SF_upd (SF_trans (SF_trans (SF_upd (SF_upd (hS_11) rfl) rfl) hS8 (any_sub rfl)) hS_74 (any_sub rfl)) rfl) hS29 (any_sub rfl)) hS_303 (any_sub rfl)) (SA_trans (SA_trans (SA_trans (SA_trans (hA_11) hA9 (any_subA rfl)) hA_74 (any_subA rfl)) hA30 (any_subA rfl)) hA_303 (any_subA rfl)) (y303_3_12) ((ey303_3_12)) (y32) (((hS_303 3 15 rfl).trans (ey33)))  (show 0 ≤ (y32) ∧ (y32) ≤ (a2) by omega) (show (u3_12) ≤ (y303_3_12) ∧ (y303_3_12) ≤ (u3_12) + (a3) by omega) rfl
                          · refine Ew_of (pc' := 315) (fun _ => x_aload_n rfl l303_0) ?_
                            refine w_gT H (o := 3) (t := 21) rfl (H.perm 3 rfl) rfl rfl rfl rfl rfl rfl ?_
                            refine Ew_of (pc' := 319) (fun _ => x_aload_n rfl l303_0) ?_
                            refine w_gI H (o := 3) (w := y303_3_12) rfl (H.perm 3 rfl) rfl rfl rfl (fun _ => rfl) (ey303_3_12) ?_
                            refine Ew_of (pc' := 323) (fun _ => x_aload_n rfl l303_0) ?_
                            refine w_gT H (o := 3) (t := 21) rfl (H.perm 3 rfl) rfl rfl rfl rfl rfl rfl ?_
                            refine Ew_of (pc' := 327) (fun _ => x_aload_n rfl l303_0) ?_
                            refine w_gI H (o := 3) (w := y303_3_12) rfl (H.perm 3 rfl) rfl rfl rfl (fun _ => rfl) (ey303_3_12) ?_
                            refine Ew_of (pc' := 332) (fun _ => x_iload rfl l303_7) ?_
                            refine w_isub rfl ?_
                            refine w_lI H (o := 21) (n := 131072) rfl (H.perm 21 rfl) rfl rfl (H.fix 21 rfl rfl) (show 0 ≤ (y303_3_12 - (v23 + (256 * v24))) ∧ (y303_3_12 - (v23 + (256 * v24))) < ((131072 : Nat) : Int) by omega) (by decide) (fun v42 ev42 qv42 => ?_)
                            have qv42 : (0 : Int) ≤ v42 ∧ v42 ≤ 255 := qv42
                            have ev42 : (A_303 21) ((y303_3_12 - (v23 + (256 * v24)))) = v42 := (congrFun (rfl : A_303 21 = A_303 21) ((y303_3_12 - (v23 + (256 * v24))))).symm.trans ev42
                            refine w_sI H (o := 21) (n := 131072) rfl (H.perm 21 rfl) rfl rfl (H.fix 21 rfl rfl) (show 0 ≤ y303_3_12 ∧ y303_3_12 < ((131072 : Nat) : Int) by omega) (by decide) (show (0 : Int) ≤ v42 ∧ v42 ≤ 255 by omega) (fun σ H => ?_)
                            refine Ew_of (pc' := 336) (fun _ => x_aload_n rfl l303_0) ?_
                            refine Ew_of (pc' := 337) (fun _ => x_dup rfl rfl) ?_
                            refine w_gI H (o := 3) (w := y303_3_12) rfl (H.perm 3 rfl) rfl rfl rfl (fun _ => rfl) (ey303_3_12) ?_
                            refine Ew_of (pc' := 341) (fun _ => x_iconst rfl) ?_
                            refine w_iadd rfl ?_
                            refine w_pI H (o := 3) rfl rfl (H.perm 3 rfl) rfl rfl rfl (fun _ => rfl) rfl (show (-2147483648 : Int) ≤ (y303_3_12 + 1) ∧ (y303_3_12 + 1) ≤ 2147483647 by omega) (fun σ H => ?_)
                            refine Ew_of (pc' := 348) (fun _ => x_iinc (len := 3) rfl (l303_8)) ?_
                            refine Ew_of (pc' := 303) (fun _ => x_goto rfl rfl) ?_
                            exact ih303 _ (by omega) _ σ _ _ ((x303_8 + 1)) (rk_o (l303_0) rfl rfl) (rk_o (l303_2) rfl rfl) (rk_o (l303_3) rfl rfl) (rk_o (l303_4) rfl rfl) (rk_o (l303_7) rfl rfl) (rk_s) H (SF_upd (hS_303) rfl) (SA_upd (hA_303) rfl) ((y303_3_12 + 1)) (rfl)  (show inr ((x303_8 + 1)) by omega) (show (0) ≤ ((x303_8 + 1)) by omega) (show ((x303_8 + 1)) ≤ (0) ∨ ((x303_8 + 1)) ≤ (((y34) + 4)) by omega) (show ((y303_3_12 + 1)) = (y74_3_12) + ((x303_8 + 1)) by omega) rfl
                      · refine Ew_of (pc' := 290) (fun _ => x_aload_n rfl (rk_o (rk_o (l74_0) rfl rfl) rfl rfl)) ?_
                        refine w_gT H (o := 3) (t := 1) rfl (H.perm 3 rfl) rfl rfl rfl rfl rfl rfl ?_
                        refine Ew_of (pc' := 295) (fun _ => x_iload rfl (rk_o (rk_s) rfl rfl)) ?_
                        refine w_pI H (o := 1) rfl rfl (H.perm 1 rfl) rfl rfl rfl (fun _ => rfl) rfl (show (-2147483648 : Int) ≤ y74_3_15 ∧ y74_3_15 ≤ 2147483647 by omega) (fun σ H => ?_)
                        refine Ew_of (pc' := 299) (fun _ => x_iconst rfl) ?_
                        exact w_ireturn rfl (k (3) σ _ _ H (SF_upd (SF_trans (SF_upd (SF_trans (SF_trans (SF_upd (SF_upd (SF_trans (SF_upd (SF_refl) rfl) hS_11 (any_sub rfl)) rfl) rfl) hS8 (any_sub rfl)) hS_74 (any_sub rfl)) rfl) hS29 (any_sub rfl)) rfl) (SA_trans (SA_trans (SA_trans (SA_trans (SA_refl) hA_11 (any_subA rfl)) hA9 (any_subA rfl)) hA_74 (any_subA rfl)) hA30 (any_subA rfl)) (y74_3_12) (((hS29 3 12 rfl).trans (ey74_3_12))) (show inr (3) by omega) (show 0 ≤ (3) ∧ (3) ≤ 3 by omega) (show (u3_12) ≤ (y74_3_12) ∧ (y74_3_12) ≤ (u3_12) + a3 by omega))
                    · refine Ew_of (pc' := 270) (fun _ => x_iconst rfl) ?_
                      exact w_ireturn rfl (k (1) σ _ _ H (SF_trans (SF_upd (SF_trans (SF_trans (SF_upd (SF_upd (SF_trans (SF_upd (SF_refl) rfl) hS_11 (any_sub rfl)) rfl) rfl) hS8 (any_sub rfl)) hS_74 (any_sub rfl)) rfl) hS29 (any_sub rfl)) (SA_trans (SA_trans (SA_trans (SA_trans (SA_refl) hA_11 (any_subA rfl)) hA9 (any_subA rfl)) hA_74 (any_subA rfl)) hA30 (any_subA rfl)) (y74_3_12) (((hS29 3 12 rfl).trans (ey74_3_12))) (show inr (1) by omega) (show 0 ≤ (1) ∧ (1) ≤ 3 by omega) (show (u3_12) ≤ (y74_3_12) ∧ (y74_3_12) ≤ (u3_12) + a3 by omega))
                  · refine Ew_of (pc' := 246) (fun _ => x_aload_n rfl (rk_o (rk_o (l74_0) rfl rfl) rfl rfl)) ?_
                    refine w_gT H (o := 3) (t := 1) rfl (H.perm 3 rfl) rfl rfl rfl rfl rfl rfl ?_
                    refine Ew_of (pc' := 251) (fun _ => x_iload rfl (rk_o (rk_s) rfl rfl)) ?_
                    refine w_pI H (o := 1) rfl rfl (H.perm 1 rfl) rfl rfl rfl (fun _ => rfl) rfl (show (-2147483648 : Int) ≤ y74_3_15 ∧ y74_3_15 ≤ 2147483647 by omega) (fun σ H => ?_)
                    refine Ew_of (pc' := 255) (fun _ => x_iconst rfl) ?_
                    exact w_ireturn rfl (k (2) σ _ _ H (SF_upd (SF_upd (SF_trans (SF_trans (SF_upd (SF_upd (SF_trans (SF_upd (SF_refl) rfl) hS_11 (any_sub rfl)) rfl) rfl) hS8 (any_sub rfl)) hS_74 (any_sub rfl)) rfl) rfl) (SA_trans (SA_trans (SA_trans (SA_refl) hA_11 (any_subA rfl)) hA9 (any_subA rfl)) hA_74 (any_subA rfl)) (y74_3_12) ((ey74_3_12)) (show inr (2) by omega) (show 0 ≤ (2) ∧ (2) ≤ 3 by omega) (show (u3_12) ≤ (y74_3_12) ∧ (y74_3_12) ≤ (u3_12) + a3 by omega))
              · refine Ew_of (pc' := 187) (fun _ => x_iconst rfl) ?_
                exact w_ireturn rfl (k (1) σ _ _ H (SF_trans (SF_trans (SF_upd (SF_upd (SF_trans (SF_upd (SF_refl) rfl) hS_11 (any_sub rfl)) rfl) rfl) hS8 (any_sub rfl)) hS_74 (any_sub rfl)) (SA_trans (SA_trans (SA_trans (SA_refl) hA_11 (any_subA rfl)) hA9 (any_subA rfl)) hA_74 (any_subA rfl)) (y74_3_12) ((ey74_3_12)) (show inr (1) by omega) (show 0 ≤ (1) ∧ (1) ≤ 3 by omega) (show (u3_12) ≤ (y74_3_12) ∧ (y74_3_12) ≤ (u3_12) + a3 by omega))
            · refine Ew_of (pc' := 169) (fun _ => x_iconst rfl) ?_
              exact w_ireturn rfl (k (0) σ _ _ H (SF_trans (SF_trans (SF_upd (SF_upd (SF_trans (SF_upd (SF_refl) rfl) hS_11 (any_sub rfl)) rfl) rfl) hS8 (any_sub rfl)) hS_74 (any_sub rfl)) (SA_trans (SA_trans (SA_trans (SA_refl) hA_11 (any_subA rfl)) hA9 (any_subA rfl)) hA_74 (any_subA rfl)) (y74_3_12) ((ey74_3_12)) (show inr (0) by omega) (show 0 ≤ (0) ∧ (0) ≤ 3 by omega) (show (u3_12) ≤ (y74_3_12) ∧ (y74_3_12) ≤ (u3_12) + a3 by omega))
          · refine Ew_of (pc' := 80) (fun _ => x_aload_n rfl l74_0) ?_
            refine w_gI H (o := 3) (w := y74_3_15) rfl (H.perm 3 rfl) rfl rfl rfl (fun _ => rfl) (ey74_3_15) ?_
            refine Ew_of (pc' := 84) (fun _ => x_iload_n rfl l74_2) ?_
            refine w_icmpne (t := 89) rfl rfl (show inr (y74_3_15) by omega) (show inr (a2) by omega) (fun b43 => ?_) (fun b43 => ?_)
            · refine Ew_of (pc' := 90) (fun _ => x_aload_n rfl l74_0) ?_
              refine w_gI H (o := 3) (w := y74_3_12) rfl (H.perm 3 rfl) rfl rfl rfl (fun _ => rfl) (ey74_3_12) ?_
              refine Ew_of (pc' := 95) (fun _ => x_iload rfl l74_4) ?_
              refine w_isub rfl ?_
              refine Ew_of (pc' := 97) (fun _ => x_iload_n rfl l74_3) ?_
              refine w_icmpne (t := 113) rfl rfl (show inr ((y74_3_12 - u3_12)) by omega) (show inr (a3) by omega) (fun b44 => ?_) (fun b44 => ?_)
              · refine Ew_of (pc' := 114) (fun _ => x_aload_n rfl l74_0) ?_
                refine w_gT H (o := 3) (t := 21) rfl (H.perm 3 rfl) rfl rfl rfl rfl rfl rfl ?_
                refine Ew_of (pc' := 118) (fun _ => x_aload_n rfl l74_0) ?_
                refine w_gI H (o := 3) (w := y74_3_12) rfl (H.perm 3 rfl) rfl rfl rfl (fun _ => rfl) (ey74_3_12) ?_
                refine Ew_of (pc' := 122) (fun _ => x_aload_n rfl l74_0) ?_
                refine w_gT H (o := 3) (t := 1) rfl (H.perm 3 rfl) rfl rfl rfl rfl rfl rfl ?_
                refine w_gT H (o := 1) (t := 14) rfl (H.perm 1 rfl) rfl rfl rfl rfl rfl rfl ?_
                refine Ew_of (pc' := 129) (fun _ => x_aload_n rfl l74_0) ?_
                refine w_gI H (o := 3) (w := y74_3_15) rfl (H.perm 3 rfl) rfl rfl rfl (fun _ => rfl) (ey74_3_15) ?_
                refine w_lI H (o := 14) (n := 65536) rfl (H.perm 14 rfl) rfl rfl (H.fix 14 rfl rfl) (show 0 ≤ y74_3_15 ∧ y74_3_15 < ((65536 : Nat) : Int) by omega) (by decide) (fun v45 ev45 qv45 => ?_)
                have qv45 : (0 : Int) ≤ v45 ∧ v45 ≤ 255 := qv45
                have ev45 : (A 14) (y74_3_15) = v45 := (congrFun ((funext (hA_74 14 rfl)).trans ((funext (hA9 14 rfl)).trans (funext (hA_11 14 rfl)))) (y74_3_15)).symm.trans ev45
                refine w_sI H (o := 21) (n := 131072) rfl (H.perm 21 rfl) rfl rfl (H.fix 21 rfl rfl) (show 0 ≤ y74_3_12 ∧ y74_3_12 < ((131072 : Nat) : Int) by omega) (by decide) (show (0 : Int) ≤ v45 ∧ v45 ≤ 255 by omega) (fun σ H => ?_)
                refine Ew_of (pc' := 135) (fun _ => x_aload_n rfl l74_0) ?_
                refine Ew_of (pc' := 136) (fun _ => x_dup rfl rfl) ?_
                refine w_gI H (o := 3) (w := y74_3_12) rfl (H.perm 3 rfl) rfl rfl rfl (fun _ => rfl) (ey74_3_12) ?_
                refine Ew_of (pc' := 140) (fun _ => x_iconst rfl) ?_
                refine w_iadd rfl ?_
                refine w_pI H (o := 3) rfl rfl (H.perm 3 rfl) rfl rfl rfl (fun _ => rfl) rfl (show (-2147483648 : Int) ≤ (y74_3_12 + 1) ∧ (y74_3_12 + 1) ≤ 2147483647 by omega) (fun σ H => ?_)
                refine Ew_of (pc' := 145) (fun _ => x_aload_n rfl l74_0) ?_
                refine Ew_of (pc' := 146) (fun _ => x_dup rfl rfl) ?_
                refine w_gI H (o := 3) (w := y74_3_15) rfl (H.perm 3 rfl) rfl rfl rfl (fun _ => rfl) (ey74_3_15) ?_
                refine Ew_of (pc' := 150) (fun _ => x_iconst rfl) ?_
                refine w_iadd rfl ?_
                refine w_pI H (o := 3) rfl rfl (H.perm 3 rfl) rfl rfl rfl (fun _ => rfl) rfl (show (-2147483648 : Int) ≤ (y74_3_15 + 1) ∧ (y74_3_15 + 1) ≤ 2147483647 by omega) (fun σ H => ?_)
                refine Ew_of (pc' := 157) (fun _ => x_iinc (len := 3) rfl (l74_6)) ?_
                refine Ew_of (pc' := 74) (fun _ => x_goto rfl rfl) ?_
                exact ih74 _ (by omega) _ σ _ _ ((x74_6 + (-1))) (rk_o (l74_0) rfl rfl) (rk_o (l74_2) rfl rfl) (rk_o (l74_3) rfl rfl) (rk_o (l74_4) rfl rfl) (rk_o (l74_5) rfl rfl) (rk_s) H (SF_upd (SF_upd (hS_74) rfl) rfl) (SA_upd (hA_74) rfl) ((y74_3_12 + 1)) (rfl) ((y74_3_15 + 1)) (rfl)  (show inr ((x74_6 + (-1))) by omega) (show ((x74_6 + (-1))) ≤ (y13) by omega) (show (y13) ≤ ((x74_6 + (-1))) ∨ (0) ≤ ((x74_6 + (-1))) by omega) (show (y11) ≤ ((y74_3_15 + 1)) ∧ ((y74_3_15 + 1)) ≤ (a2) by omega) (show (u3_12) ≤ ((y74_3_12 + 1)) ∧ ((y74_3_12 + 1)) ≤ (u3_12) + (a3) by omega) rfl
              · refine Ew_of (pc' := 101) (fun _ => x_aload_n rfl l74_0) ?_
                refine w_gT H (o := 3) (t := 1) rfl (H.perm 3 rfl) rfl rfl rfl rfl rfl rfl ?_
                refine Ew_of (pc' := 105) (fun _ => x_aload_n rfl l74_0) ?_
                refine w_gI H (o := 3) (w := y74_3_15) rfl (H.perm 3 rfl) rfl rfl rfl (fun _ => rfl) (ey74_3_15) ?_
                refine w_pI H (o := 1) rfl rfl (H.perm 1 rfl) rfl rfl rfl (fun _ => rfl) rfl (show (-2147483648 : Int) ≤ y74_3_15 ∧ y74_3_15 ≤ 2147483647 by omega) (fun σ H => ?_)
                refine Ew_of (pc' := 112) (fun _ => x_iconst rfl) ?_
                exact w_ireturn rfl (k (3) σ _ _ H (SF_upd (SF_trans (SF_trans (SF_upd (SF_upd (SF_trans (SF_upd (SF_refl) rfl) hS_11 (any_sub rfl)) rfl) rfl) hS8 (any_sub rfl)) hS_74 (any_sub rfl)) rfl) (SA_trans (SA_trans (SA_trans (SA_refl) hA_11 (any_subA rfl)) hA9 (any_subA rfl)) hA_74 (any_subA rfl)) (y74_3_12) ((ey74_3_12)) (show inr (3) by omega) (show 0 ≤ (3) ∧ (3) ≤ 3 by omega) (show (u3_12) ≤ (y74_3_12) ∧ (y74_3_12) ≤ (u3_12) + a3 by omega))
            · refine Ew_of (pc' := 88) (fun _ => x_iconst rfl) ?_
              exact w_ireturn rfl (k (1) σ _ _ H (SF_trans (SF_trans (SF_upd (SF_upd (SF_trans (SF_upd (SF_refl) rfl) hS_11 (any_sub rfl)) rfl) rfl) hS8 (any_sub rfl)) hS_74 (any_sub rfl)) (SA_trans (SA_trans (SA_trans (SA_refl) hA_11 (any_subA rfl)) hA9 (any_subA rfl)) hA_74 (any_subA rfl)) (y74_3_12) ((ey74_3_12)) (show inr (1) by omega) (show 0 ≤ (1) ∧ (1) ≤ 3 by omega) (show (u3_12) ≤ (y74_3_12) ∧ (y74_3_12) ≤ (u3_12) + a3 by omega))
      · refine Ew_of (pc' := 67) (fun _ => x_iconst rfl) ?_
        exact w_ireturn rfl (k (1) σ _ _ H (SF_trans (SF_upd (SF_upd (SF_trans (SF_upd (SF_refl) rfl) hS_11 (any_sub rfl)) rfl) rfl) hS8 (any_sub rfl)) (SA_trans (SA_trans (SA_refl) hA_11 (any_subA rfl)) hA9 (any_subA rfl)) (y11_3_12) (((hS8 3 12 rfl).trans (ey11_3_12))) (show inr (1) by omega) (show 0 ≤ (1) ∧ (1) ≤ 3 by omega) (show (u3_12) ≤ (y11_3_12) ∧ (y11_3_12) ≤ (u3_12) + a3 by omega))
    · refine Ew_of (pc' := 28) (fun _ => x_iconst rfl) ?_
      exact w_ireturn rfl (k (1) σ _ _ H (SF_upd (SF_trans (SF_upd (SF_refl) rfl) hS_11 (any_sub rfl)) rfl) (SA_trans (SA_refl) hA_11 (any_subA rfl)) (y11_3_12) ((ey11_3_12)) (show inr (1) by omega) (show 0 ≤ (1) ∧ (1) ≤ 3 by omega) (show (u3_12) ≤ (y11_3_12) ∧ (y11_3_12) ≤ (u3_12) + a3 by omega))
/-- Tokens.unblock -/
theorem M374 {σ0 σ : rS} {D N : Nat → Nat} {F : hF} {A : hA} {d c s : Nat} {Q : wQ} (H : HS σ0 σ D N F A) {a1 : Int} (h0 : inr (a1)) (k : ∀ (z : Int) σ F' A', HS σ0 σ D N F' A' → SF [(1, 3), (1, 4), (3, 12), (3, 15), (3, 16)] F F' → SA [15, 21] A A' → (inr (z)) → Q (some (I z)) σ c s) : Ew 374 (d + 2) 0 (rargs 0 [.ref (D 3), I a1]) [] σ c s Q := by
  refine Ew_of (pc' := 1) (fun _ => x_iload_n rfl rfl) ?_
  refine w_iflt (t := 10) rfl rfl (show inr (a1) by omega) (fun b1 => ?_) (fun b1 => ?_)
  · refine Ew_of (pc' := 12) (fun _ => x_bipush (z := -4) rfl (by decide)) ?_
    exact w_ireturn rfl (k ((-4)) σ _ _ H (SF_refl) (SA_refl) (show inr ((-4)) by omega))
  · refine Ew_of (pc' := 5) (fun _ => x_iload_n rfl rfl) ?_
    refine Ew_of (pc' := 7) (fun _ => x_ldc (z := 65536) rfl (by decide)) ?_
    refine w_icmple (t := 13) rfl rfl (show inr (a1) by omega) (show inr (65536) by omega) (fun b2 => ?_) (fun b2 => ?_)
    · refine Ew_of (pc' := 14) (fun _ => x_aload_n rfl rfl) ?_
      have r3 : (0 : Int) ≤ F 3 2 ∧ F 3 2 ≤ 65536 := by have h1 : (0 : Int) ≤ F 3 2 ∧ F 3 2 ≤ 65536 := H.frng 3 2; rw [show F 3 2 = F 3 2 from rfl] at h1; exact h1
      refine w_inv H (o := 3) rfl rfl rfl (H.perm 3 rfl) rfl rfl (by rfl) (M373 H (F 3 2) (rfl)  (fun σ F4 A5 H hS6 hA7 y9 ey10 pz8_0 => ⟨rfl, ?_⟩))
      have r11 : (-2147483648 : Int) ≤ y9 ∧ y9 ≤ 2147483647 := by have h1 : (-2147483648 : Int) ≤ F4 3 12 ∧ F4 3 12 ≤ 2147483647 := H.frng 3 12; rw [show F4 3 12 = y9 from (ey10)] at h1; exact h1
      refine Ew_of (pc' := 18) (fun _ => x_aload_n rfl rfl) ?_
      refine Ew_of (pc' := 19) (fun _ => x_iconst rfl) ?_
      refine Ew_of (pc' := 20) (fun _ => x_aload_n rfl rfl) ?_
      refine w_gT H (o := 3) (t := 1) rfl (H.perm 3 rfl) rfl rfl rfl rfl rfl rfl ?_
      have r12 : (0 : Int) ≤ F 1 1 ∧ F 1 1 ≤ 65536 := by have h1 : (0 : Int) ≤ F4 1 1 ∧ F4 1 1 ≤ 65536 := H.frng 1 1; rw [show F4 1 1 = F 1 1 from (hS6 1 1 rfl)] at h1; exact h1
      refine w_gI H (o := 1) (w := F 1 1) rfl (H.perm 1 rfl) rfl rfl rfl (fun _ => rfl) (hS6 1 1 rfl) ?_
      refine Ew_of (pc' := 27) (fun _ => x_iload_n rfl rfl) ?_
      refine w_inv H (o := 3) rfl rfl rfl (H.perm 3 rfl) rfl rfl (by rfl) (M372 H (y9) ((ey10)) (show inr (0) by omega) (show inr (F 1 1) by omega) (show inr (a1) by omega) (show 0 ≤ (0) ∧ (0) ≤ (F 1 1) ∧ (F 1 1) ≤ 65536 ∧ 0 ≤ (a1) ∧ (a1) ≤ 65536 by omega) (show 0 ≤ (y9) ∧ (y9) + (a1) ≤ 131072 by omega) (fun z17 σ F13 A14 H hS15 hA16 y18 ey19 pz17_0 pz17_1 pz17_2 => ⟨rfl, ?_⟩))
      have r20 : (-2147483648 : Int) ≤ y18 ∧ y18 ≤ 2147483647 := by have h1 : (-2147483648 : Int) ≤ F13 3 12 ∧ F13 3 12 ≤ 2147483647 := H.frng 3 12; rw [show F13 3 12 = y18 from (ey19)] at h1; exact h1
      refine Ew_of (pc' := 31) (fun _ => x_istore_n rfl) ?_
      refine Ew_of (pc' := 32) (fun _ => x_iload_n rfl rk_s) ?_
      refine w_ifle (t := 38) rfl rfl (show inr (z17) by omega) (fun b21 => ?_) (fun b21 => ?_)
      · refine Ew_of (pc' := 39) (fun _ => x_aload_n rfl (rk_o (rfl) rfl rfl)) ?_
        refine w_gT H (o := 3) (t := 1) rfl (H.perm 3 rfl) rfl rfl rfl rfl rfl rfl ?_
        refine Ew_of (pc' := 43) (fun _ => x_aload_n rfl (rk_o (rfl) rfl rfl)) ?_
        refine w_gI H (o := 3) (w := y18) rfl (H.perm 3 rfl) rfl rfl rfl (fun _ => rfl) (ey19) ?_
        refine Ew_of (pc' := 47) (fun _ => x_aload_n rfl (rk_o (rfl) rfl rfl)) ?_
        refine w_gI H (o := 3) (w := F 3 2) rfl (H.perm 3 rfl) rfl rfl rfl (fun _ => rfl) ((hS15 3 2 rfl).trans (hS6 3 2 rfl)) ?_
        refine w_isub rfl ?_
        refine w_pI H (o := 1) rfl rfl (H.perm 1 rfl) rfl rfl rfl (fun _ => rfl) rfl (show (0 : Int) ≤ (y18 - F 3 2) ∧ (y18 - F 3 2) ≤ 65536 by omega) (fun σ H => ?_)
        refine Ew_of (pc' := 55) (fun _ => x_iconst rfl) ?_
        refine Ew_of (pc' := 56) (fun _ => x_istore_n rfl) ?_
        suffices hl56 : ∀ (m : Nat), ∀ (ls : rO) (σ : rS) (F_56 : hF) (A_56 : hA) (x56_3 : Int), rlook ls 0 = some (.ref (D 3)) → rlook ls 3 = some (I (x56_3)) → HS σ0 σ D N F_56 A_56 → SF [] (updF F13 1 3 ((y18 - F 3 2))) F_56 → SA [15] A14 A_56 → (inr (x56_3)) → ((0) ≤ (x56_3)) → ((x56_3) ≤ (0) ∨ (x56_3) ≤ (((y18 - F 3 2)))) → ((((y18 - F 3 2))) - (x56_3)).toNat = m → Ew 374 (d + 2) 56 ls [] σ c s Q from
          hl56 _ _ σ _ _ (0) (rk_o (rk_o (rfl) rfl rfl) rfl rfl) (rk_s) H (SF_refl) (SA_refl)   (show inr (0) by omega) (show (0) ≤ (0) by omega) (show (0) ≤ (0) ∨ (0) ≤ (((y18 - F 3 2))) by omega) rfl
        as_aux_lemma =>
        intro m
        induction m using Nat.strongRecOn with
        | _ m ih56 =>
          intro ls σ F_56 A_56 x56_3 l56_0 l56_3 H hS_56 hA_56   j56_0 j56_1 j56_2 hm56
          refine Ew_of (pc' := 57) (fun _ => x_iload_n rfl l56_3) ?_
          refine Ew_of (pc' := 58) (fun _ => x_aload_n rfl l56_0) ?_
          refine w_gT H (o := 3) (t := 1) rfl (H.perm 3 rfl) rfl rfl rfl rfl rfl rfl ?_
          refine w_gI H (o := 1) (w := (y18 - F 3 2)) rfl (H.perm 1 rfl) rfl rfl rfl (fun _ => rfl) (hS_56 1 3 rfl) ?_
          refine w_icmpge (t := 93) rfl rfl (show inr (x56_3) by omega) (show inr ((y18 - F 3 2)) by omega) (fun b22 => ?_) (fun b22 => ?_)
          · refine Ew_of (pc' := 94) (fun _ => x_aload_n rfl l56_0) ?_
            refine w_gT H (o := 3) (t := 1) rfl (H.perm 3 rfl) rfl rfl rfl rfl rfl rfl ?_
            refine w_gI H (o := 1) (w := (y18 - F 3 2)) rfl (H.perm 1 rfl) rfl rfl rfl (fun _ => rfl) (hS_56 1 3 rfl) ?_
            exact w_ireturn rfl (k ((y18 - F 3 2)) σ _ _ H (SF_trans (SF_upd (SF_trans (SF_trans (SF_refl) hS6 (any_sub rfl)) hS15 (any_sub rfl)) rfl) hS_56 (any_sub rfl)) (SA_trans (SA_trans (SA_trans (SA_refl) hA7 (any_subA rfl)) hA16 (any_subA rfl)) hA_56 (any_subA rfl)) (show inr ((y18 - F 3 2)) by omega))
          · refine Ew_of (pc' := 68) (fun _ => x_aload_n rfl l56_0) ?_
            refine w_gT H (o := 3) (t := 1) rfl (H.perm 3 rfl) rfl rfl rfl rfl rfl rfl ?_
            refine w_gT H (o := 1) (t := 15) rfl (H.perm 1 rfl) rfl rfl rfl rfl rfl rfl ?_
            refine Ew_of (pc' := 75) (fun _ => x_iload_n rfl l56_3) ?_
            refine Ew_of (pc' := 76) (fun _ => x_aload_n rfl l56_0) ?_
            refine w_gT H (o := 3) (t := 21) rfl (H.perm 3 rfl) rfl rfl rfl rfl rfl rfl ?_
            refine Ew_of (pc' := 80) (fun _ => x_aload_n rfl l56_0) ?_
            refine w_gI H (o := 3) (w := F 3 2) rfl (H.perm 3 rfl) rfl rfl rfl (fun _ => rfl) (((hS_56 3 2 rfl).trans (hS15 3 2 rfl)).trans (hS6 3 2 rfl)) ?_
            refine Ew_of (pc' := 84) (fun _ => x_iload_n rfl l56_3) ?_
            refine w_iadd rfl ?_
            refine w_lI H (o := 21) (n := 131072) rfl (H.perm 21 rfl) rfl rfl (H.fix 21 rfl rfl) (show 0 ≤ (F 3 2 + x56_3) ∧ (F 3 2 + x56_3) < ((131072 : Nat) : Int) by omega) (by decide) (fun v23 ev23 qv23 => ?_)
            have qv23 : (0 : Int) ≤ v23 ∧ v23 ≤ 255 := qv23
            have ev23 : (A14 21) ((F 3 2 + x56_3)) = v23 := (congrFun (funext (hA_56 21 rfl)) ((F 3 2 + x56_3))).symm.trans ev23
            refine w_sI H (o := 15) (n := 65536) rfl (H.perm 15 rfl) rfl rfl (H.fix 15 rfl rfl) (show 0 ≤ x56_3 ∧ x56_3 < ((65536 : Nat) : Int) by omega) (by decide) (show (0 : Int) ≤ v23 ∧ v23 ≤ 255 by omega) (fun σ H => ?_)
            refine Ew_of (pc' := 90) (fun _ => x_iinc (len := 3) rfl (l56_3)) ?_
            refine Ew_of (pc' := 56) (fun _ => x_goto rfl rfl) ?_
            exact ih56 _ (by omega) _ σ _ _ ((x56_3 + 1)) (rk_o (l56_0) rfl rfl) (rk_s) H (hS_56) (SA_upd (hA_56) rfl)   (show inr ((x56_3 + 1)) by omega) (show (0) ≤ ((x56_3 + 1)) by omega) (show ((x56_3 + 1)) ≤ (0) ∨ ((x56_3 + 1)) ≤ (((y18 - F 3 2))) by omega) rfl
      · refine Ew_of (pc' := 36) (fun _ => x_iload_n rfl rk_s) ?_
        refine w_ineg rfl ?_
        exact w_ireturn rfl (k ((-z17)) σ _ _ H (SF_trans (SF_trans (SF_refl) hS6 (any_sub rfl)) hS15 (any_sub rfl)) (SA_trans (SA_trans (SA_refl) hA7 (any_subA rfl)) hA16 (any_subA rfl)) (show inr ((-z17)) by omega))
    · refine Ew_of (pc' := 12) (fun _ => x_bipush (z := -4) rfl (by decide)) ?_
      exact w_ireturn rfl (k ((-4)) σ _ _ H (SF_refl) (SA_refl) (show inr ((-4)) by omega))
/-- Tokens.sumOf -/
theorem M359_19 {σ0 σ : rS} {D N : Nat → Nat} {F : hF} {A : hA} {d c s : Nat} {Q : wQ} (H : HS σ0 σ D N F A) {a2 a3 : Int} (h0 : inr (a2)) (h1 : inr (a3)) (h2 : 0 ≤ (a2) ∧ (a2) ≤ (a3) ∧ (a3) ≤ 70000) (k : ∀ (z : Int) σ F' A', HS σ0 σ D N F' A' → SF [] F F' → SA [17] A A' → (inrJ (z)) → Q (some (J z)) σ c s) : Ew 359 (d + 1) 0 (rargs 0 [.ref (D 3), .ref (D 19), I a2, I a3]) [] σ c s Q := by
  refine Ew_of (pc' := 3) (fun _ => x_ldc2 (z := 2654435761) rfl (by decide)) ?_
  refine Ew_of (pc' := 5) (fun _ => x_lstore rfl) ?_
  refine Ew_of (pc' := 8) (fun _ => x_ldc2 (z := 2246822519) rfl (by decide)) ?_
  refine Ew_of (pc' := 10) (fun _ => x_lstore rfl) ?_
  refine Ew_of (pc' := 13) (fun _ => x_ldc2 (z := 3266489917) rfl (by decide)) ?_
  refine Ew_of (pc' := 15) (fun _ => x_lstore rfl) ?_
  refine Ew_of (pc' := 18) (fun _ => x_ldc2 (z := 668265263) rfl (by decide)) ?_
  refine Ew_of (pc' := 20) (fun _ => x_lstore rfl) ?_
  refine Ew_of (pc' := 23) (fun _ => x_ldc2 (z := 374761393) rfl (by decide)) ?_
  refine Ew_of (pc' := 25) (fun _ => x_lstore rfl) ?_
  refine Ew_of (pc' := 26) (fun _ => x_iload_n rfl (rk2_o (rk2_o (rk2_o (rk2_o (rk2_o (rfl) rfl rfl) rfl rfl) rfl rfl) rfl rfl) rfl rfl)) ?_
  refine Ew_of (pc' := 27) (fun _ => x_iload_n rfl (rk2_o (rk2_o (rk2_o (rk2_o (rk2_o (rfl) rfl rfl) rfl rfl) rfl rfl) rfl rfl) rfl rfl)) ?_
  refine w_isub rfl ?_
  refine Ew_of (pc' := 30) (fun _ => x_istore rfl) ?_
  refine Ew_of (pc' := 31) (fun _ => x_iload_n rfl (rk_o (rk2_o (rk2_o (rk2_o (rk2_o (rk2_o (rfl) rfl rfl) rfl rfl) rfl rfl) rfl rfl) rfl rfl) rfl rfl)) ?_
  refine Ew_of (pc' := 33) (fun _ => x_istore rfl) ?_
  refine Ew_of (pc' := 35) (fun _ => x_lload rfl (rk_o (rk_o (rk2_s) rfl rfl) rfl rfl)) ?_
  refine Ew_of (pc' := 37) (fun _ => x_lstore rfl) ?_
  refine Ew_of (pc' := 39) (fun _ => x_iload rfl (rk2_o (rk_o (rk_s) rfl rfl) rfl rfl)) ?_
  refine Ew_of (pc' := 41) (fun _ => x_bipush (z := 16) rfl (by decide)) ?_
  refine w_icmplt (t := 210) rfl rfl (show inr ((a3 - a2)) by omega) (show inr (16) by omega) (fun b1 => ?_) (fun b1 => ?_)
  · refine Ew_of (pc' := 212) (fun _ => x_lload rfl rk2_s) ?_
    refine Ew_of (pc' := 214) (fun _ => x_iload rfl (rk2_o (rk_o (rk_s) rfl rfl) rfl rfl)) ?_
    refine w_i2l rfl (show inr ((a3 - a2)) by omega) ?_
    refine w_laddA rfl (fun z2 gz2 => ?_)
    refine Ew_of (pc' := 219) (fun _ => x_ldc2 (z := 4294967295) rfl (by decide)) ?_
    refine w_land rfl (show inrJ (z2) by omega) (show inrJ (4294967295) by omega) (fun z3 gz3 gaz3 gbz3 => ?_)
    refine Ew_of (pc' := 222) (fun _ => x_lstore rfl) ?_
    suffices hl222 : ∀ (m : Nat), ∀ (ls : rO) (σ : rS) (F_222 : hF) (A_222 : hA) (x222_15 : Int) (x222_16 : Int), rlook ls 1 = some (.ref (D 19)) → rlook ls 3 = some (I (a3)) → rlook ls 4 = some (J (2654435761)) → rlook ls 6 = some (J (2246822519)) → rlook ls 8 = some (J (3266489917)) → rlook ls 10 = some (J (668265263)) → rlook ls 12 = some (J (374761393)) → rlook ls 15 = some (I (x222_15)) → rlook ls 16 = some (J (x222_16)) → HS σ0 σ D N F_222 A_222 → SF [] F F_222 → SA [] A A_222 → (inr (x222_15)) → (inrJ (x222_16)) → ((a2) ≤ (x222_15) ∧ (x222_15) ≤ (a3)) → ((a3) - (x222_15)).toNat = m → Ew 359 (d + 1) 222 ls [] σ c s Q from
      hl222 _ _ σ _ _ (a2) (z3) (rk2_o (rk2_o (rk_o (rk_o (rk2_o (rk2_o (rk2_o (rk2_o (rk2_o (rfl) rfl rfl) rfl rfl) rfl rfl) rfl rfl) rfl rfl) rfl rfl) rfl rfl) rfl rfl) rfl rfl) (rk2_o (rk2_o (rk_o (rk_o (rk2_o (rk2_o (rk2_o (rk2_o (rk2_o (rfl) rfl rfl) rfl rfl) rfl rfl) rfl rfl) rfl rfl) rfl rfl) rfl rfl) rfl rfl) rfl rfl) (rk2_o (rk2_o (rk_o (rk_o (rk2_o (rk2_o (rk2_o (rk2_o (rk2_s) rfl rfl) rfl rfl) rfl rfl) rfl rfl) rfl rfl) rfl rfl) rfl rfl) rfl rfl) (rk2_o (rk2_o (rk_o (rk_o (rk2_o (rk2_o (rk2_o (rk2_s) rfl rfl) rfl rfl) rfl rfl) rfl rfl) rfl rfl) rfl rfl) rfl rfl) (rk2_o (rk2_o (rk_o (rk_o (rk2_o (rk2_o (rk2_s) rfl rfl) rfl rfl) rfl rfl) rfl rfl) rfl rfl) rfl rfl) (rk2_o (rk2_o (rk_o (rk_o (rk2_o (rk2_s) rfl rfl) rfl rfl) rfl rfl) rfl rfl) rfl rfl) (rk2_o (rk2_o (rk_o (rk_o (rk2_s) rfl rfl) rfl rfl) rfl rfl) rfl rfl) (rk2_o (rk2_o (rk_s) rfl rfl) rfl rfl) (rk2_s) H (SF_refl) (SA_refl)   (show inr (a2) by omega) (show inrJ (z3) by omega) (show (a2) ≤ (a2) ∧ (a2) ≤ (a3) by omega) rfl
    as_aux_lemma =>
    intro m
    induction m using Nat.strongRecOn with
    | _ m ih222 =>
      intro ls σ F_222 A_222 x222_15 x222_16 l222_1 l222_3 l222_4 l222_6 l222_8 l222_10 l222_12 l222_15 l222_16 H hS_222 hA_222   j222_0 j222_1 j222_2 hm222
      refine Ew_of (pc' := 223) (fun _ => x_iload_n rfl l222_3) ?_
      refine Ew_of (pc' := 225) (fun _ => x_iload rfl l222_15) ?_
      refine w_isub rfl ?_
      refine Ew_of (pc' := 227) (fun _ => x_iconst rfl) ?_
      refine w_icmplt (t := 266) rfl rfl (show inr ((a3 - x222_15)) by omega) (show inr (4) by omega) (fun b4 => ?_) (fun b4 => ?_)
      · suffices hl266 : ∀ (m : Nat), ∀ (ls : rO) (σ : rS) (F_266 : hF) (A_266 : hA) (x266_15 : Int) (x266_16 : Int), rlook ls 1 = some (.ref (D 19)) → rlook ls 3 = some (I (a3)) → rlook ls 4 = some (J (2654435761)) → rlook ls 6 = some (J (2246822519)) → rlook ls 8 = some (J (3266489917)) → rlook ls 12 = some (J (374761393)) → rlook ls 15 = some (I (x266_15)) → rlook ls 16 = some (J (x266_16)) → HS σ0 σ D N F_266 A_266 → SF [] F_222 F_266 → SA [] A_222 A_266 → (inr (x266_15)) → (inrJ (x266_16)) → ((x222_15) ≤ (x266_15)) → ((x266_15) ≤ (x222_15) ∨ (x266_15) ≤ ((a3))) → (((a3)) - (x266_15)).toNat = m → Ew 359 (d + 1) 266 ls [] σ c s Q from
          hl266 _ _ σ _ _ (x222_15) (x222_16) (l222_1) (l222_3) (l222_4) (l222_6) (l222_8) (l222_12) (l222_15) (l222_16) H (SF_refl) (SA_refl)   (show inr (x222_15) by omega) (show inrJ (x222_16) by omega) (show (x222_15) ≤ (x222_15) by omega) (show (x222_15) ≤ (x222_15) ∨ (x222_15) ≤ ((a3)) by omega) rfl
        as_aux_lemma =>
        intro m
        induction m using Nat.strongRecOn with
        | _ m ih266 =>
          intro ls σ F_266 A_266 x266_15 x266_16 l266_1 l266_3 l266_4 l266_6 l266_8 l266_12 l266_15 l266_16 H hS_266 hA_266   j266_0 j266_1 j266_2 j266_3 hm266
          refine Ew_of (pc' := 268) (fun _ => x_iload rfl l266_15) ?_
          refine Ew_of (pc' := 269) (fun _ => x_iload_n rfl l266_3) ?_
          refine w_icmpge (t := 307) rfl rfl (show inr (x266_15) by omega) (show inr (a3) by omega) (fun b5 => ?_) (fun b5 => ?_)
          · refine Ew_of (pc' := 309) (fun _ => x_lload rfl l266_16) ?_
            refine Ew_of (pc' := 311) (fun _ => x_lload rfl l266_16) ?_
            refine Ew_of (pc' := 313) (fun _ => x_bipush (z := 15) rfl (by decide)) ?_
            refine w_lshrA rfl (fun z6 gz6 => ?_)
            refine w_lxorA rfl (fun z7 gz7 => ?_)
            refine Ew_of (pc' := 317) (fun _ => x_lload rfl l266_6) ?_
            refine w_stat24 rfl rfl (by rfl) (M357 H (show inrJ (z7) by omega) (show inrJ (2246822519) by omega) (fun z12 σ F8 A9 H hS10 hA11 pz12_0 => ⟨rfl, ?_⟩))
            refine Ew_of (pc' := 322) (fun _ => x_lstore rfl) ?_
            refine Ew_of (pc' := 324) (fun _ => x_lload rfl rk2_s) ?_
            refine Ew_of (pc' := 326) (fun _ => x_lload rfl rk2_s) ?_
            refine Ew_of (pc' := 328) (fun _ => x_bipush (z := 13) rfl (by decide)) ?_
            refine w_lshrA rfl (fun z13 gz13 => ?_)
            refine w_lxorA rfl (fun z14 gz14 => ?_)
            refine Ew_of (pc' := 332) (fun _ => x_lload rfl (rk2_o (l266_8) rfl rfl)) ?_
            refine w_stat24 rfl rfl (by rfl) (M357 H (show inrJ (z14) by omega) (show inrJ (3266489917) by omega) (fun z19 σ F15 A16 H hS17 hA18 pz19_0 => ⟨rfl, ?_⟩))
            refine Ew_of (pc' := 337) (fun _ => x_lstore rfl) ?_
            refine Ew_of (pc' := 339) (fun _ => x_lload rfl rk2_s) ?_
            refine Ew_of (pc' := 341) (fun _ => x_lload rfl rk2_s) ?_
            refine Ew_of (pc' := 343) (fun _ => x_bipush (z := 16) rfl (by decide)) ?_
            refine w_lshrA rfl (fun z20 gz20 => ?_)
            refine w_lxorA rfl (fun z21 gz21 => ?_)
            exact w_lreturn rfl (k (z21) σ _ _ H (SF_trans (SF_trans (SF_trans (SF_trans (SF_refl) hS_222 (any_sub rfl)) hS_266 (any_sub rfl)) hS10 (any_sub rfl)) hS17 (any_sub rfl)) (SA_trans (SA_trans (SA_trans (SA_trans (SA_refl) hA_222 (any_subA rfl)) hA_266 (any_subA rfl)) hA11 (any_subA rfl)) hA18 (any_subA rfl)) (show inrJ (z21) by omega))
          · refine Ew_of (pc' := 274) (fun _ => x_lload rfl l266_16) ?_
            refine Ew_of (pc' := 275) (fun _ => x_aload_n rfl l266_1) ?_
            refine Ew_of (pc' := 277) (fun _ => x_iload rfl l266_15) ?_
            refine w_lI H (o := 19) (n := 70000) rfl (H.perm 19 rfl) rfl rfl (H.fix 19 rfl rfl) (show 0 ≤ x266_15 ∧ x266_15 < ((70000 : Nat) : Int) by omega) (by decide) (fun v22 ev22 qv22 => ?_)
            have qv22 : (0 : Int) ≤ v22 ∧ v22 ≤ 255 := qv22
            have ev22 : (A 19) (x266_15) = v22 := (congrFun ((funext (hA_266 19 rfl)).trans (funext (hA_222 19 rfl))) (x266_15)).symm.trans ev22
            refine w_i2l rfl (show inr (v22) by omega) ?_
            refine Ew_of (pc' := 281) (fun _ => x_lload rfl l266_12) ?_
            refine w_stat24 rfl rfl (by rfl) (M357 H (show inrJ (v22) by omega) (show inrJ (374761393) by omega) (fun z27 σ F23 A24 H hS25 hA26 pz27_0 => ⟨rfl, ?_⟩))
            refine w_laddA rfl (fun z28 gz28 => ?_)
            refine Ew_of (pc' := 288) (fun _ => x_ldc2 (z := 4294967295) rfl (by decide)) ?_
            refine w_land rfl (show inrJ (z28) by omega) (show inrJ (4294967295) by omega) (fun z29 gz29 gaz29 gbz29 => ?_)
            refine Ew_of (pc' := 291) (fun _ => x_bipush (z := 11) rfl (by decide)) ?_
            refine w_stat24 rfl rfl (by rfl) (M356 H (show inrJ (z29) by omega) (show inr (11) by omega) (fun z34 σ F30 A31 H hS32 hA33 pz34_0 => ⟨rfl, ?_⟩))
            refine Ew_of (pc' := 296) (fun _ => x_lload rfl l266_4) ?_
            refine w_stat24 rfl rfl (by rfl) (M357 H (show inrJ (z34) by omega) (show inrJ (2654435761) by omega) (fun z39 σ F35 A36 H hS37 hA38 pz39_0 => ⟨rfl, ?_⟩))
            refine Ew_of (pc' := 301) (fun _ => x_lstore rfl) ?_
            refine Ew_of (pc' := 304) (fun _ => x_iinc (len := 3) rfl (rk2_o (l266_15) rfl rfl)) ?_
            refine Ew_of (pc' := 266) (fun _ => x_goto rfl rfl) ?_
            exact ih266 _ (by omega) _ σ _ _ ((x266_15 + 1)) (z39) (rk_o (rk2_o (l266_1) rfl rfl) rfl rfl) (rk_o (rk2_o (l266_3) rfl rfl) rfl rfl) (rk_o (rk2_o (l266_4) rfl rfl) rfl rfl) (rk_o (rk2_o (l266_6) rfl rfl) rfl rfl) (rk_o (rk2_o (l266_8) rfl rfl) rfl rfl) (rk_o (rk2_o (l266_12) rfl rfl) rfl rfl) (rk_s) (rk_o (rk2_s) rfl rfl) H (SF_trans (SF_trans (SF_trans (hS_266) hS25 (any_sub rfl)) hS32 (any_sub rfl)) hS37 (any_sub rfl)) (SA_trans (SA_trans (SA_trans (hA_266) hA26 (any_subA rfl)) hA33 (any_subA rfl)) hA38 (any_subA rfl))   (show inr ((x266_15 + 1)) by omega) (show inrJ (z39) by omega) (show (x222_15) ≤ ((x266_15 + 1)) by omega) (show ((x266_15 + 1)) ≤ (x222_15) ∨ ((x266_15 + 1)) ≤ ((a3)) by omega) rfl
      · refine Ew_of (pc' := 232) (fun _ => x_lload rfl l222_16) ?_
        refine Ew_of (pc' := 233) (fun _ => x_aload_n rfl l222_1) ?_
        refine Ew_of (pc' := 235) (fun _ => x_iload rfl l222_15) ?_
        refine w_stat24 rfl rfl (by rfl) (M358_19 H (show inr (x222_15) by omega) (show 0 ≤ (x222_15) ∧ (x222_15) + 3 < 70000 by omega) (fun z44 σ F40 A41 H hS42 hA43 pz44_0 => ⟨rfl, ?_⟩))
        refine Ew_of (pc' := 240) (fun _ => x_lload rfl l222_8) ?_
        refine w_stat24 rfl rfl (by rfl) (M357 H (show inrJ (z44) by omega) (show inrJ (3266489917) by omega) (fun z49 σ F45 A46 H hS47 hA48 pz49_0 => ⟨rfl, ?_⟩))
        refine w_laddA rfl (fun z50 gz50 => ?_)
        refine Ew_of (pc' := 247) (fun _ => x_ldc2 (z := 4294967295) rfl (by decide)) ?_
        refine w_land rfl (show inrJ (z50) by omega) (show inrJ (4294967295) by omega) (fun z51 gz51 gaz51 gbz51 => ?_)
        refine Ew_of (pc' := 250) (fun _ => x_bipush (z := 17) rfl (by decide)) ?_
        refine w_stat24 rfl rfl (by rfl) (M356 H (show inrJ (z51) by omega) (show inr (17) by omega) (fun z56 σ F52 A53 H hS54 hA55 pz56_0 => ⟨rfl, ?_⟩))
        refine Ew_of (pc' := 255) (fun _ => x_lload rfl l222_10) ?_
        refine w_stat24 rfl rfl (by rfl) (M357 H (show inrJ (z56) by omega) (show inrJ (668265263) by omega) (fun z61 σ F57 A58 H hS59 hA60 pz61_0 => ⟨rfl, ?_⟩))
        refine Ew_of (pc' := 260) (fun _ => x_lstore rfl) ?_
        refine Ew_of (pc' := 263) (fun _ => x_iinc (len := 3) rfl (rk2_o (l222_15) rfl rfl)) ?_
        refine Ew_of (pc' := 222) (fun _ => x_goto rfl rfl) ?_
        exact ih222 _ (by omega) _ σ _ _ ((x222_15 + 4)) (z61) (rk_o (rk2_o (l222_1) rfl rfl) rfl rfl) (rk_o (rk2_o (l222_3) rfl rfl) rfl rfl) (rk_o (rk2_o (l222_4) rfl rfl) rfl rfl) (rk_o (rk2_o (l222_6) rfl rfl) rfl rfl) (rk_o (rk2_o (l222_8) rfl rfl) rfl rfl) (rk_o (rk2_o (l222_10) rfl rfl) rfl rfl) (rk_o (rk2_o (l222_12) rfl rfl) rfl rfl) (rk_s) (rk_o (rk2_s) rfl rfl) H (SF_trans (SF_trans (SF_trans (SF_trans (hS_222) hS42 (any_sub rfl)) hS47 (any_sub rfl)) hS54 (any_sub rfl)) hS59 (any_sub rfl)) (SA_trans (SA_trans (SA_trans (SA_trans (hA_222) hA43 (any_subA rfl)) hA48 (any_subA rfl)) hA55 (any_subA rfl)) hA60 (any_subA rfl))   (show inr ((x222_15 + 4)) by omega) (show inrJ (z61) by omega) (show (a2) ≤ ((x222_15 + 4)) ∧ ((x222_15 + 4)) ≤ (a3) by omega) rfl
  · refine Ew_of (pc' := 45) (fun _ => x_aload_n rfl (rk2_o (rk_o (rk_o (rk2_o (rk2_o (rk2_o (rk2_o (rk2_o (rfl) rfl rfl) rfl rfl) rfl rfl) rfl rfl) rfl rfl) rfl rfl) rfl rfl) rfl rfl)) ?_
    refine w_gT H (o := 3) (t := 17) rfl (H.perm 3 rfl) rfl rfl rfl rfl rfl rfl ?_
    refine Ew_of (pc' := 49) (fun _ => x_iconst rfl) ?_
    refine Ew_of (pc' := 51) (fun _ => x_lload rfl (rk2_o (rk_o (rk_o (rk2_o (rk2_o (rk2_o (rk2_o (rk2_s) rfl rfl) rfl rfl) rfl rfl) rfl rfl) rfl rfl) rfl rfl) rfl rfl)) ?_
    refine Ew_of (pc' := 53) (fun _ => x_lload rfl (rk2_o (rk_o (rk_o (rk2_o (rk2_o (rk2_o (rk2_s) rfl rfl) rfl rfl) rfl rfl) rfl rfl) rfl rfl) rfl rfl)) ?_
    refine w_laddA rfl (fun z62 gz62 => ?_)
    refine Ew_of (pc' := 57) (fun _ => x_ldc2 (z := 4294967295) rfl (by decide)) ?_
    refine w_land rfl (show inrJ (z62) by omega) (show inrJ (4294967295) by omega) (fun z63 gz63 gaz63 gbz63 => ?_)
    refine w_sJ H (o := 17) (n := 4) rfl (H.perm 17 rfl) rfl rfl (H.fix 17 rfl rfl) (show 0 ≤ 0 ∧ 0 < ((4 : Nat) : Int) by omega) (by decide) (show (-9223372036854775808 : Int) ≤ z63 ∧ z63 ≤ 9223372036854775807 by omega) (fun σ H => ?_)
    refine Ew_of (pc' := 60) (fun _ => x_aload_n rfl (rk2_o (rk_o (rk_o (rk2_o (rk2_o (rk2_o (rk2_o (rk2_o (rfl) rfl rfl) rfl rfl) rfl rfl) rfl rfl) rfl rfl) rfl rfl) rfl rfl) rfl rfl)) ?_
    refine w_gT H (o := 3) (t := 17) rfl (H.perm 3 rfl) rfl rfl rfl rfl rfl rfl ?_
    refine Ew_of (pc' := 64) (fun _ => x_iconst rfl) ?_
    refine Ew_of (pc' := 66) (fun _ => x_lload rfl (rk2_o (rk_o (rk_o (rk2_o (rk2_o (rk2_o (rk2_s) rfl rfl) rfl rfl) rfl rfl) rfl rfl) rfl rfl) rfl rfl)) ?_
    refine w_sJ H (o := 17) (n := 4) rfl (H.perm 17 rfl) rfl rfl (H.fix 17 rfl rfl) (show 0 ≤ 1 ∧ 1 < ((4 : Nat) : Int) by omega) (by decide) (show (-9223372036854775808 : Int) ≤ 2246822519 ∧ 2246822519 ≤ 9223372036854775807 by omega) (fun σ H => ?_)
    refine Ew_of (pc' := 68) (fun _ => x_aload_n rfl (rk2_o (rk_o (rk_o (rk2_o (rk2_o (rk2_o (rk2_o (rk2_o (rfl) rfl rfl) rfl rfl) rfl rfl) rfl rfl) rfl rfl) rfl rfl) rfl rfl) rfl rfl)) ?_
    refine w_gT H (o := 3) (t := 17) rfl (H.perm 3 rfl) rfl rfl rfl rfl rfl rfl ?_
    refine Ew_of (pc' := 72) (fun _ => x_iconst rfl) ?_
    refine Ew_of (pc' := 73) (fun _ => x_lconst (z := 0) rfl (by decide)) ?_
    refine w_sJ H (o := 17) (n := 4) rfl (H.perm 17 rfl) rfl rfl (H.fix 17 rfl rfl) (show 0 ≤ 2 ∧ 2 < ((4 : Nat) : Int) by omega) (by decide) (show (-9223372036854775808 : Int) ≤ 0 ∧ 0 ≤ 9223372036854775807 by omega) (fun σ H => ?_)
    refine Ew_of (pc' := 75) (fun _ => x_aload_n rfl (rk2_o (rk_o (rk_o (rk2_o (rk2_o (rk2_o (rk2_o (rk2_o (rfl) rfl rfl) rfl rfl) rfl rfl) rfl rfl) rfl rfl) rfl rfl) rfl rfl) rfl rfl)) ?_
    refine w_gT H (o := 3) (t := 17) rfl (H.perm 3 rfl) rfl rfl rfl rfl rfl rfl ?_
    refine Ew_of (pc' := 79) (fun _ => x_iconst rfl) ?_
    refine Ew_of (pc' := 80) (fun _ => x_lconst (z := 0) rfl (by decide)) ?_
    refine Ew_of (pc' := 82) (fun _ => x_lload rfl (rk2_o (rk_o (rk_o (rk2_o (rk2_o (rk2_o (rk2_o (rk2_s) rfl rfl) rfl rfl) rfl rfl) rfl rfl) rfl rfl) rfl rfl) rfl rfl)) ?_
    refine w_lsubA rfl (fun z64 gz64 => ?_)
    refine Ew_of (pc' := 86) (fun _ => x_ldc2 (z := 4294967295) rfl (by decide)) ?_
    refine w_land rfl (show inrJ (z64) by omega) (show inrJ (4294967295) by omega) (fun z65 gz65 gaz65 gbz65 => ?_)
    refine w_sJ H (o := 17) (n := 4) rfl (H.perm 17 rfl) rfl rfl (H.fix 17 rfl rfl) (show 0 ≤ 3 ∧ 3 < ((4 : Nat) : Int) by omega) (by decide) (show (-9223372036854775808 : Int) ≤ z65 ∧ z65 ≤ 9223372036854775807 by omega) (fun σ H => ?_)
    suffices hl88 : ∀ (m : Nat), ∀ (ls : rO) (σ : rS) (F_88 : hF) (A_88 : hA) (x88_15 : Int), rlook ls 0 = some (.ref (D 3)) → rlook ls 1 = some (.ref (D 19)) → rlook ls 3 = some (I (a3)) → rlook ls 4 = some (J (2654435761)) → rlook ls 6 = some (J (2246822519)) → rlook ls 8 = some (J (3266489917)) → rlook ls 10 = some (J (668265263)) → rlook ls 12 = some (J (374761393)) → rlook ls 14 = some (I ((a3 - a2))) → rlook ls 15 = some (I (x88_15)) → HS σ0 σ D N F_88 A_88 → SF [] F F_88 → SA [17] (updA (updA (updA (updA A 17 (0) (z63)) 17 (1) (2246822519)) 17 (2) (0)) 17 (3) (z65)) A_88 → (inr (x88_15)) → ((a2) ≤ (x88_15) ∧ (x88_15) ≤ (a3)) → ((a3) - (x88_15)).toNat = m → Ew 359 (d + 1) 88 ls [] σ c s Q from
      hl88 _ _ σ _ _ (a2) (rk2_o (rk_o (rk_o (rk2_o (rk2_o (rk2_o (rk2_o (rk2_o (rfl) rfl rfl) rfl rfl) rfl rfl) rfl rfl) rfl rfl) rfl rfl) rfl rfl) rfl rfl) (rk2_o (rk_o (rk_o (rk2_o (rk2_o (rk2_o (rk2_o (rk2_o (rfl) rfl rfl) rfl rfl) rfl rfl) rfl rfl) rfl rfl) rfl rfl) rfl rfl) rfl rfl) (rk2_o (rk_o (rk_o (rk2_o (rk2_o (rk2_o (rk2_o (rk2_o (rfl) rfl rfl) rfl rfl) rfl rfl) rfl rfl) rfl rfl) rfl rfl) rfl rfl) rfl rfl) (rk2_o (rk_o (rk_o (rk2_o (rk2_o (rk2_o (rk2_o (rk2_s) rfl rfl) rfl rfl) rfl rfl) rfl rfl) rfl rfl) rfl rfl) rfl rfl) (rk2_o (rk_o (rk_o (rk2_o (rk2_o (rk2_o (rk2_s) rfl rfl) rfl rfl) rfl rfl) rfl rfl) rfl rfl) rfl rfl) (rk2_o (rk_o (rk_o (rk2_o (rk2_o (rk2_s) rfl rfl) rfl rfl) rfl rfl) rfl rfl) rfl rfl) (rk2_o (rk_o (rk_o (rk2_o (rk2_s) rfl rfl) rfl rfl) rfl rfl) rfl rfl) (rk2_o (rk_o (rk_o (rk2_s) rfl rfl) rfl rfl) rfl rfl) (rk2_o (rk_o (rk_s) rfl rfl) rfl rfl) (rk2_o (rk_s) rfl rfl) H (SF_refl) (SA_refl)   (show inr (a2) by omega) (show (a2) ≤ (a2) ∧ (a2) ≤ (a3) by omega) rfl
    as_aux_lemma =>
    intro m
    induction m using Nat.strongRecOn with
    | _ m ih88 =>
      intro ls σ F_88 A_88 x88_15 l88_0 l88_1 l88_3 l88_4 l88_6 l88_8 l88_10 l88_12 l88_14 l88_15 H hS_88 hA_88   j88_0 j88_1 hm88
      refine Ew_of (pc' := 89) (fun _ => x_iload_n rfl l88_3) ?_
      refine Ew_of (pc' := 91) (fun _ => x_iload rfl l88_15) ?_
      refine w_isub rfl ?_
      refine Ew_of (pc' := 94) (fun _ => x_bipush (z := 16) rfl (by decide)) ?_
      refine w_icmplt (t := 158) rfl rfl (show inr ((a3 - x88_15)) by omega) (show inr (16) by omega) (fun b66 => ?_) (fun b66 => ?_)
      · refine Ew_of (pc' := 159) (fun _ => x_aload_n rfl l88_0) ?_
        refine w_gT H (o := 3) (t := 17) rfl (H.perm 3 rfl) rfl rfl rfl rfl rfl rfl ?_
        refine Ew_of (pc' := 163) (fun _ => x_iconst rfl) ?_
        refine w_lJ H (o := 17) (n := 4) rfl (H.perm 17 rfl) rfl rfl (H.fix 17 rfl rfl) (show 0 ≤ 0 ∧ 0 < ((4 : Nat) : Int) by omega) (by decide) (fun v67 ev67 qv67 => ?_)
        have qv67 : (-9223372036854775808 : Int) ≤ v67 ∧ v67 ≤ 9223372036854775807 := qv67
        have ev67 : (A_88 17) (0) = v67 := (congrFun (rfl : A_88 17 = A_88 17) (0)).symm.trans ev67
        refine Ew_of (pc' := 165) (fun _ => x_iconst rfl) ?_
        refine w_stat24 rfl rfl (by rfl) (M356 H (show inrJ (v67) by omega) (show inr (1) by omega) (fun z72 σ F68 A69 H hS70 hA71 pz72_0 => ⟨rfl, ?_⟩))
        refine Ew_of (pc' := 169) (fun _ => x_aload_n rfl l88_0) ?_
        refine w_gT H (o := 3) (t := 17) rfl (H.perm 3 rfl) rfl rfl rfl rfl rfl rfl ?_
        refine Ew_of (pc' := 173) (fun _ => x_iconst rfl) ?_
        refine w_lJ H (o := 17) (n := 4) rfl (H.perm 17 rfl) rfl rfl (H.fix 17 rfl rfl) (show 0 ≤ 1 ∧ 1 < ((4 : Nat) : Int) by omega) (by decide) (fun v73 ev73 qv73 => ?_)
        have qv73 : (-9223372036854775808 : Int) ≤ v73 ∧ v73 ≤ 9223372036854775807 := qv73
        have ev73 : (A_88 17) (1) = v73 := (congrFun (funext (hA71 17 rfl)) (1)).symm.trans ev73
        refine Ew_of (pc' := 176) (fun _ => x_bipush (z := 7) rfl (by decide)) ?_
        refine w_stat24 rfl rfl (by rfl) (M356 H (show inrJ (v73) by omega) (show inr (7) by omega) (fun z78 σ F74 A75 H hS76 hA77 pz78_0 => ⟨rfl, ?_⟩))
        refine w_laddA rfl (fun z79 gz79 => ?_)
        refine Ew_of (pc' := 181) (fun _ => x_aload_n rfl l88_0) ?_
        refine w_gT H (o := 3) (t := 17) rfl (H.perm 3 rfl) rfl rfl rfl rfl rfl rfl ?_
        refine Ew_of (pc' := 185) (fun _ => x_iconst rfl) ?_
        refine w_lJ H (o := 17) (n := 4) rfl (H.perm 17 rfl) rfl rfl (H.fix 17 rfl rfl) (show 0 ≤ 2 ∧ 2 < ((4 : Nat) : Int) by omega) (by decide) (fun v80 ev80 qv80 => ?_)
        have qv80 : (-9223372036854775808 : Int) ≤ v80 ∧ v80 ≤ 9223372036854775807 := qv80
        have ev80 : (A_88 17) (2) = v80 := (congrFun ((funext (hA77 17 rfl)).trans (funext (hA71 17 rfl))) (2)).symm.trans ev80
        refine Ew_of (pc' := 188) (fun _ => x_bipush (z := 12) rfl (by decide)) ?_
        refine w_stat24 rfl rfl (by rfl) (M356 H (show inrJ (v80) by omega) (show inr (12) by omega) (fun z85 σ F81 A82 H hS83 hA84 pz85_0 => ⟨rfl, ?_⟩))
        refine w_laddA rfl (fun z86 gz86 => ?_)
        refine Ew_of (pc' := 193) (fun _ => x_aload_n rfl l88_0) ?_
        refine w_gT H (o := 3) (t := 17) rfl (H.perm 3 rfl) rfl rfl rfl rfl rfl rfl ?_
        refine Ew_of (pc' := 197) (fun _ => x_iconst rfl) ?_
        refine w_lJ H (o := 17) (n := 4) rfl (H.perm 17 rfl) rfl rfl (H.fix 17 rfl rfl) (show 0 ≤ 3 ∧ 3 < ((4 : Nat) : Int) by omega) (by decide) (fun v87 ev87 qv87 => ?_)
        have qv87 : (-9223372036854775808 : Int) ≤ v87 ∧ v87 ≤ 9223372036854775807 := qv87
        have ev87 : (A_88 17) (3) = v87 := (congrFun ((funext (hA84 17 rfl)).trans ((funext (hA77 17 rfl)).trans (funext (hA71 17 rfl)))) (3)).symm.trans ev87
        refine Ew_of (pc' := 200) (fun _ => x_bipush (z := 18) rfl (by decide)) ?_
        refine w_stat24 rfl rfl (by rfl) (M356 H (show inrJ (v87) by omega) (show inr (18) by omega) (fun z92 σ F88 A89 H hS90 hA91 pz92_0 => ⟨rfl, ?_⟩))
        refine w_laddA rfl (fun z93 gz93 => ?_)
        refine Ew_of (pc' := 207) (fun _ => x_ldc2 (z := 4294967295) rfl (by decide)) ?_
        refine w_land rfl (show inrJ (z93) by omega) (show inrJ (4294967295) by omega) (fun z94 gz94 gaz94 gbz94 => ?_)
        refine Ew_of (pc' := 210) (fun _ => x_lstore rfl) ?_
        refine Ew_of (pc' := 212) (fun _ => x_lload rfl rk2_s) ?_
        refine Ew_of (pc' := 214) (fun _ => x_iload rfl (rk2_o (l88_14) rfl rfl)) ?_
        refine w_i2l rfl (show inr ((a3 - a2)) by omega) ?_
        refine w_laddA rfl (fun z95 gz95 => ?_)
        refine Ew_of (pc' := 219) (fun _ => x_ldc2 (z := 4294967295) rfl (by decide)) ?_
        refine w_land rfl (show inrJ (z95) by omega) (show inrJ (4294967295) by omega) (fun z96 gz96 gaz96 gbz96 => ?_)
        refine Ew_of (pc' := 222) (fun _ => x_lstore rfl) ?_
        suffices hl222 : ∀ (m : Nat), ∀ (ls : rO) (σ : rS) (F_222 : hF) (A_222 : hA) (x222_15 : Int) (x222_16 : Int), rlook ls 1 = some (.ref (D 19)) → rlook ls 3 = some (I (a3)) → rlook ls 4 = some (J (2654435761)) → rlook ls 6 = some (J (2246822519)) → rlook ls 8 = some (J (3266489917)) → rlook ls 10 = some (J (668265263)) → rlook ls 12 = some (J (374761393)) → rlook ls 15 = some (I (x222_15)) → rlook ls 16 = some (J (x222_16)) → HS σ0 σ D N F_222 A_222 → SF [] F88 F_222 → SA [] A89 A_222 → (inr (x222_15)) → (inrJ (x222_16)) → ((a2) ≤ (x222_15) ∧ (x222_15) ≤ (a3)) → ((a3) - (x222_15)).toNat = m → Ew 359 (d + 1) 222 ls [] σ c s Q from
          hl222 _ _ σ _ _ (x88_15) (z96) (rk2_o (rk2_o (l88_1) rfl rfl) rfl rfl) (rk2_o (rk2_o (l88_3) rfl rfl) rfl rfl) (rk2_o (rk2_o (l88_4) rfl rfl) rfl rfl) (rk2_o (rk2_o (l88_6) rfl rfl) rfl rfl) (rk2_o (rk2_o (l88_8) rfl rfl) rfl rfl) (rk2_o (rk2_o (l88_10) rfl rfl) rfl rfl) (rk2_o (rk2_o (l88_12) rfl rfl) rfl rfl) (rk2_o (rk2_o (l88_15) rfl rfl) rfl rfl) (rk2_s) H (SF_refl) (SA_refl)   (show inr (x88_15) by omega) (show inrJ (z96) by omega) (show (a2) ≤ (x88_15) ∧ (x88_15) ≤ (a3) by omega) rfl
        as_aux_lemma =>
        intro m
        induction m using Nat.strongRecOn with
        | _ m ih222 =>
          intro ls σ F_222 A_222 x222_15 x222_16 l222_1 l222_3 l222_4 l222_6 l222_8 l222_10 l222_12 l222_15 l222_16 H hS_222 hA_222   j222_0 j222_1 j222_2 hm222
          refine Ew_of (pc' := 223) (fun _ => x_iload_n rfl l222_3) ?_
          refine Ew_of (pc' := 225) (fun _ => x_iload rfl l222_15) ?_
          refine w_isub rfl ?_
          refine Ew_of (pc' := 227) (fun _ => x_iconst rfl) ?_
          refine w_icmplt (t := 266) rfl rfl (show inr ((a3 - x222_15)) by omega) (show inr (4) by omega) (fun b97 => ?_) (fun b97 => ?_)
          · suffices hl266 : ∀ (m : Nat), ∀ (ls : rO) (σ : rS) (F_266 : hF) (A_266 : hA) (x266_15 : Int) (x266_16 : Int), rlook ls 1 = some (.ref (D 19)) → rlook ls 3 = some (I (a3)) → rlook ls 4 = some (J (2654435761)) → rlook ls 6 = some (J (2246822519)) → rlook ls 8 = some (J (3266489917)) → rlook ls 12 = some (J (374761393)) → rlook ls 15 = some (I (x266_15)) → rlook ls 16 = some (J (x266_16)) → HS σ0 σ D N F_266 A_266 → SF [] F_222 F_266 → SA [] A_222 A_266 → (inr (x266_15)) → (inrJ (x266_16)) → ((x222_15) ≤ (x266_15)) → ((x266_15) ≤ (x222_15) ∨ (x266_15) ≤ ((a3))) → (((a3)) - (x266_15)).toNat = m → Ew 359 (d + 1) 266 ls [] σ c s Q from
              hl266 _ _ σ _ _ (x222_15) (x222_16) (l222_1) (l222_3) (l222_4) (l222_6) (l222_8) (l222_12) (l222_15) (l222_16) H (SF_refl) (SA_refl)   (show inr (x222_15) by omega) (show inrJ (x222_16) by omega) (show (x222_15) ≤ (x222_15) by omega) (show (x222_15) ≤ (x222_15) ∨ (x222_15) ≤ ((a3)) by omega) rfl
            as_aux_lemma =>
            intro m
            induction m using Nat.strongRecOn with
            | _ m ih266 =>
              intro ls σ F_266 A_266 x266_15 x266_16 l266_1 l266_3 l266_4 l266_6 l266_8 l266_12 l266_15 l266_16 H hS_266 hA_266   j266_0 j266_1 j266_2 j266_3 hm266
              refine Ew_of (pc' := 268) (fun _ => x_iload rfl l266_15) ?_
              refine Ew_of (pc' := 269) (fun _ => x_iload_n rfl l266_3) ?_
              refine w_icmpge (t := 307) rfl rfl (show inr (x266_15) by omega) (show inr (a3) by omega) (fun b98 => ?_) (fun b98 => ?_)
              · refine Ew_of (pc' := 309) (fun _ => x_lload rfl l266_16) ?_
                refine Ew_of (pc' := 311) (fun _ => x_lload rfl l266_16) ?_
                refine Ew_of (pc' := 313) (fun _ => x_bipush (z := 15) rfl (by decide)) ?_
                refine w_lshrA rfl (fun z99 gz99 => ?_)
                refine w_lxorA rfl (fun z100 gz100 => ?_)
                refine Ew_of (pc' := 317) (fun _ => x_lload rfl l266_6) ?_
                refine w_stat24 rfl rfl (by rfl) (M357 H (show inrJ (z100) by omega) (show inrJ (2246822519) by omega) (fun z105 σ F101 A102 H hS103 hA104 pz105_0 => ⟨rfl, ?_⟩))
                refine Ew_of (pc' := 322) (fun _ => x_lstore rfl) ?_
                refine Ew_of (pc' := 324) (fun _ => x_lload rfl rk2_s) ?_
                refine Ew_of (pc' := 326) (fun _ => x_lload rfl rk2_s) ?_
                refine Ew_of (pc' := 328) (fun _ => x_bipush (z := 13) rfl (by decide)) ?_
                refine w_lshrA rfl (fun z106 gz106 => ?_)
                refine w_lxorA rfl (fun z107 gz107 => ?_)
                refine Ew_of (pc' := 332) (fun _ => x_lload rfl (rk2_o (l266_8) rfl rfl)) ?_
                refine w_stat24 rfl rfl (by rfl) (M357 H (show inrJ (z107) by omega) (show inrJ (3266489917) by omega) (fun z112 σ F108 A109 H hS110 hA111 pz112_0 => ⟨rfl, ?_⟩))
                refine Ew_of (pc' := 337) (fun _ => x_lstore rfl) ?_
                refine Ew_of (pc' := 339) (fun _ => x_lload rfl rk2_s) ?_
                refine Ew_of (pc' := 341) (fun _ => x_lload rfl rk2_s) ?_
                refine Ew_of (pc' := 343) (fun _ => x_bipush (z := 16) rfl (by decide)) ?_
                refine w_lshrA rfl (fun z113 gz113 => ?_)
                refine w_lxorA rfl (fun z114 gz114 => ?_)
                exact w_lreturn rfl (k (z114) σ _ _ H (SF_trans (SF_trans (SF_trans (SF_trans (SF_trans (SF_trans (SF_trans (SF_trans (SF_trans (SF_refl) hS_88 (any_sub rfl)) hS70 (any_sub rfl)) hS76 (any_sub rfl)) hS83 (any_sub rfl)) hS90 (any_sub rfl)) hS_222 (any_sub rfl)) hS_266 (any_sub rfl)) hS103 (any_sub rfl)) hS110 (any_sub rfl)) (SA_trans (SA_trans (SA_trans (SA_trans (SA_trans (SA_trans (SA_trans (SA_trans (SA_trans (SA_upd (SA_upd (SA_upd (SA_upd (SA_refl) rfl) rfl) rfl) rfl) hA_88 (any_subA rfl)) hA71 (any_subA rfl)) hA77 (any_subA rfl)) hA84 (any_subA rfl)) hA91 (any_subA rfl)) hA_222 (any_subA rfl)) hA_266 (any_subA rfl)) hA104 (any_subA rfl)) hA111 (any_subA rfl)) (show inrJ (z114) by omega))
              · refine Ew_of (pc' := 274) (fun _ => x_lload rfl l266_16) ?_
                refine Ew_of (pc' := 275) (fun _ => x_aload_n rfl l266_1) ?_
                refine Ew_of (pc' := 277) (fun _ => x_iload rfl l266_15) ?_
                refine w_lI H (o := 19) (n := 70000) rfl (H.perm 19 rfl) rfl rfl (H.fix 19 rfl rfl) (show 0 ≤ x266_15 ∧ x266_15 < ((70000 : Nat) : Int) by omega) (by decide) (fun v115 ev115 qv115 => ?_)
                have qv115 : (0 : Int) ≤ v115 ∧ v115 ≤ 255 := qv115
                have ev115 : (A 19) (x266_15) = v115 := (congrFun ((funext (hA_266 19 rfl)).trans ((funext (hA_222 19 rfl)).trans ((funext (hA91 19 rfl)).trans ((funext (hA84 19 rfl)).trans ((funext (hA77 19 rfl)).trans ((funext (hA71 19 rfl)).trans (funext (hA_88 19 rfl)))))))) (x266_15)).symm.trans ev115
                refine w_i2l rfl (show inr (v115) by omega) ?_
                refine Ew_of (pc' := 281) (fun _ => x_lload rfl l266_12) ?_
                refine w_stat24 rfl rfl (by rfl) (M357 H (show inrJ (v115) by omega) (show inrJ (374761393) by omega) (fun z120 σ F116 A117 H hS118 hA119 pz120_0 => ⟨rfl, ?_⟩))
                refine w_laddA rfl (fun z121 gz121 => ?_)
                refine Ew_of (pc' := 288) (fun _ => x_ldc2 (z := 4294967295) rfl (by decide)) ?_
                refine w_land rfl (show inrJ (z121) by omega) (show inrJ (4294967295) by omega) (fun z122 gz122 gaz122 gbz122 => ?_)
                refine Ew_of (pc' := 291) (fun _ => x_bipush (z := 11) rfl (by decide)) ?_
                refine w_stat24 rfl rfl (by rfl) (M356 H (show inrJ (z122) by omega) (show inr (11) by omega) (fun z127 σ F123 A124 H hS125 hA126 pz127_0 => ⟨rfl, ?_⟩))
                refine Ew_of (pc' := 296) (fun _ => x_lload rfl l266_4) ?_
                refine w_stat24 rfl rfl (by rfl) (M357 H (show inrJ (z127) by omega) (show inrJ (2654435761) by omega) (fun z132 σ F128 A129 H hS130 hA131 pz132_0 => ⟨rfl, ?_⟩))
                refine Ew_of (pc' := 301) (fun _ => x_lstore rfl) ?_
                refine Ew_of (pc' := 304) (fun _ => x_iinc (len := 3) rfl (rk2_o (l266_15) rfl rfl)) ?_
                refine Ew_of (pc' := 266) (fun _ => x_goto rfl rfl) ?_
                exact ih266 _ (by omega) _ σ _ _ ((x266_15 + 1)) (z132) (rk_o (rk2_o (l266_1) rfl rfl) rfl rfl) (rk_o (rk2_o (l266_3) rfl rfl) rfl rfl) (rk_o (rk2_o (l266_4) rfl rfl) rfl rfl) (rk_o (rk2_o (l266_6) rfl rfl) rfl rfl) (rk_o (rk2_o (l266_8) rfl rfl) rfl rfl) (rk_o (rk2_o (l266_12) rfl rfl) rfl rfl) (rk_s) (rk_o (rk2_s) rfl rfl) H (SF_trans (SF_trans (SF_trans (hS_266) hS118 (any_sub rfl)) hS125 (any_sub rfl)) hS130 (any_sub rfl)) (SA_trans (SA_trans (SA_trans (hA_266) hA119 (any_subA rfl)) hA126 (any_subA rfl)) hA131 (any_subA rfl))   (show inr ((x266_15 + 1)) by omega) (show inrJ (z132) by omega) (show (x222_15) ≤ ((x266_15 + 1)) by omega) (show ((x266_15 + 1)) ≤ (x222_15) ∨ ((x266_15 + 1)) ≤ ((a3)) by omega) rfl
          · refine Ew_of (pc' := 232) (fun _ => x_lload rfl l222_16) ?_
            refine Ew_of (pc' := 233) (fun _ => x_aload_n rfl l222_1) ?_
            refine Ew_of (pc' := 235) (fun _ => x_iload rfl l222_15) ?_
            refine w_stat24 rfl rfl (by rfl) (M358_19 H (show inr (x222_15) by omega) (show 0 ≤ (x222_15) ∧ (x222_15) + 3 < 70000 by omega) (fun z137 σ F133 A134 H hS135 hA136 pz137_0 => ⟨rfl, ?_⟩))
            refine Ew_of (pc' := 240) (fun _ => x_lload rfl l222_8) ?_
            refine w_stat24 rfl rfl (by rfl) (M357 H (show inrJ (z137) by omega) (show inrJ (3266489917) by omega) (fun z142 σ F138 A139 H hS140 hA141 pz142_0 => ⟨rfl, ?_⟩))
            refine w_laddA rfl (fun z143 gz143 => ?_)
            refine Ew_of (pc' := 247) (fun _ => x_ldc2 (z := 4294967295) rfl (by decide)) ?_
            refine w_land rfl (show inrJ (z143) by omega) (show inrJ (4294967295) by omega) (fun z144 gz144 gaz144 gbz144 => ?_)
            refine Ew_of (pc' := 250) (fun _ => x_bipush (z := 17) rfl (by decide)) ?_
            refine w_stat24 rfl rfl (by rfl) (M356 H (show inrJ (z144) by omega) (show inr (17) by omega) (fun z149 σ F145 A146 H hS147 hA148 pz149_0 => ⟨rfl, ?_⟩))
            refine Ew_of (pc' := 255) (fun _ => x_lload rfl l222_10) ?_
            refine w_stat24 rfl rfl (by rfl) (M357 H (show inrJ (z149) by omega) (show inrJ (668265263) by omega) (fun z154 σ F150 A151 H hS152 hA153 pz154_0 => ⟨rfl, ?_⟩))
            refine Ew_of (pc' := 260) (fun _ => x_lstore rfl) ?_
            refine Ew_of (pc' := 263) (fun _ => x_iinc (len := 3) rfl (rk2_o (l222_15) rfl rfl)) ?_
            refine Ew_of (pc' := 222) (fun _ => x_goto rfl rfl) ?_
            exact ih222 _ (by omega) _ σ _ _ ((x222_15 + 4)) (z154) (rk_o (rk2_o (l222_1) rfl rfl) rfl rfl) (rk_o (rk2_o (l222_3) rfl rfl) rfl rfl) (rk_o (rk2_o (l222_4) rfl rfl) rfl rfl) (rk_o (rk2_o (l222_6) rfl rfl) rfl rfl) (rk_o (rk2_o (l222_8) rfl rfl) rfl rfl) (rk_o (rk2_o (l222_10) rfl rfl) rfl rfl) (rk_o (rk2_o (l222_12) rfl rfl) rfl rfl) (rk_s) (rk_o (rk2_s) rfl rfl) H (SF_trans (SF_trans (SF_trans (SF_trans (hS_222) hS135 (any_sub rfl)) hS140 (any_sub rfl)) hS147 (any_sub rfl)) hS152 (any_sub rfl)) (SA_trans (SA_trans (SA_trans (SA_trans (hA_222) hA136 (any_subA rfl)) hA141 (any_subA rfl)) hA148 (any_subA rfl)) hA153 (any_subA rfl))   (show inr ((x222_15 + 4)) by omega) (show inrJ (z154) by omega) (show (a2) ≤ ((x222_15 + 4)) ∧ ((x222_15 + 4)) ≤ (a3) by omega) rfl
      · refine Ew_of (pc' := 98) (fun _ => x_iconst rfl) ?_
        refine Ew_of (pc' := 100) (fun _ => x_istore rfl) ?_
        suffices hl100 : ∀ (m : Nat), ∀ (ls : rO) (σ : rS) (F_100 : hF) (A_100 : hA) (x100_15 : Int) (x100_18 : Int), rlook ls 0 = some (.ref (D 3)) → rlook ls 1 = some (.ref (D 19)) → rlook ls 3 = some (I (a3)) → rlook ls 4 = some (J (2654435761)) → rlook ls 6 = some (J (2246822519)) → rlook ls 8 = some (J (3266489917)) → rlook ls 10 = some (J (668265263)) → rlook ls 12 = some (J (374761393)) → rlook ls 14 = some (I ((a3 - a2))) → rlook ls 15 = some (I (x100_15)) → rlook ls 18 = some (I (x100_18)) → HS σ0 σ D N F_100 A_100 → SF [] F_88 F_100 → SA [17] A_88 A_100 → (inr (x100_15)) → (inr (x100_18)) → ((0) ≤ (x100_18)) → ((x100_18) ≤ (0) ∨ (x100_18) ≤ (4)) → ((x100_15) = (x88_15) + 4 * (x100_18)) → ((4) - (x100_18)).toNat = m → Ew 359 (d + 1) 100 ls [] σ c s Q from
          hl100 _ _ σ _ _ (x88_15) (0) (rk_o (l88_0) rfl rfl) (rk_o (l88_1) rfl rfl) (rk_o (l88_3) rfl rfl) (rk_o (l88_4) rfl rfl) (rk_o (l88_6) rfl rfl) (rk_o (l88_8) rfl rfl) (rk_o (l88_10) rfl rfl) (rk_o (l88_12) rfl rfl) (rk_o (l88_14) rfl rfl) (rk_o (l88_15) rfl rfl) (rk_s) H (SF_refl) (SA_refl)   (show inr (x88_15) by omega) (show inr (0) by omega) (show (0) ≤ (0) by omega) (show (0) ≤ (0) ∨ (0) ≤ (4) by omega) (show (x88_15) = (x88_15) + 4 * (0) by omega) rfl
        as_aux_lemma =>
        intro m
        induction m using Nat.strongRecOn with
        | _ m ih100 =>
          intro ls σ F_100 A_100 x100_15 x100_18 l100_0 l100_1 l100_3 l100_4 l100_6 l100_8 l100_10 l100_12 l100_14 l100_15 l100_18 H hS_100 hA_100   j100_0 j100_1 j100_2 j100_3 j100_4 hm100
          refine Ew_of (pc' := 102) (fun _ => x_iload rfl l100_18) ?_
          refine Ew_of (pc' := 103) (fun _ => x_iconst rfl) ?_
          refine w_icmpge (t := 155) rfl rfl (show inr (x100_18) by omega) (show inr (4) by omega) (fun b155 => ?_) (fun b155 => ?_)
          · refine Ew_of (pc' := 88) (fun _ => x_goto rfl rfl) ?_
            exact ih88 _ (by omega) _ σ _ _ (x100_15) (l100_0) (l100_1) (l100_3) (l100_4) (l100_6) (l100_8) (l100_10) (l100_12) (l100_14) (l100_15) H (SF_trans (hS_88) hS_100 (any_sub rfl)) (SA_trans (hA_88) hA_100 (any_subA rfl))   (show inr (x100_15) by omega) (show (a2) ≤ (x100_15) ∧ (x100_15) ≤ (a3) by omega) rfl
          · refine Ew_of (pc' := 107) (fun _ => x_aload_n rfl l100_0) ?_
            refine w_gT H (o := 3) (t := 17) rfl (H.perm 3 rfl) rfl rfl rfl rfl rfl rfl ?_
            refine Ew_of (pc' := 112) (fun _ => x_iload rfl l100_18) ?_
            refine Ew_of (pc' := 113) (fun _ => x_aload_n rfl l100_0) ?_
            refine w_gT H (o := 3) (t := 17) rfl (H.perm 3 rfl) rfl rfl rfl rfl rfl rfl ?_
            refine Ew_of (pc' := 118) (fun _ => x_iload rfl l100_18) ?_
            refine w_lJ H (o := 17) (n := 4) rfl (H.perm 17 rfl) rfl rfl (H.fix 17 rfl rfl) (show 0 ≤ x100_18 ∧ x100_18 < ((4 : Nat) : Int) by omega) (by decide) (fun v156 ev156 qv156 => ?_)
            have qv156 : (-9223372036854775808 : Int) ≤ v156 ∧ v156 ≤ 9223372036854775807 := qv156
            have ev156 : (A_100 17) (x100_18) = v156 := (congrFun (rfl : A_100 17 = A_100 17) (x100_18)).symm.trans ev156
            refine Ew_of (pc' := 120) (fun _ => x_aload_n rfl l100_1) ?_
            refine Ew_of (pc' := 122) (fun _ => x_iload rfl l100_15) ?_
            refine w_stat24 rfl rfl (by rfl) (M358_19 H (show inr (x100_15) by omega) (show 0 ≤ (x100_15) ∧ (x100_15) + 3 < 70000 by omega) (fun z161 σ F157 A158 H hS159 hA160 pz161_0 => ⟨rfl, ?_⟩))
            refine Ew_of (pc' := 127) (fun _ => x_lload rfl l100_6) ?_
            refine w_stat24 rfl rfl (by rfl) (M357 H (show inrJ (z161) by omega) (show inrJ (2246822519) by omega) (fun z166 σ F162 A163 H hS164 hA165 pz166_0 => ⟨rfl, ?_⟩))
            refine w_laddA rfl (fun z167 gz167 => ?_)
            refine Ew_of (pc' := 134) (fun _ => x_ldc2 (z := 4294967295) rfl (by decide)) ?_
            refine w_land rfl (show inrJ (z167) by omega) (show inrJ (4294967295) by omega) (fun z168 gz168 gaz168 gbz168 => ?_)
            refine Ew_of (pc' := 137) (fun _ => x_bipush (z := 13) rfl (by decide)) ?_
            refine w_stat24 rfl rfl (by rfl) (M356 H (show inrJ (z168) by omega) (show inr (13) by omega) (fun z173 σ F169 A170 H hS171 hA172 pz173_0 => ⟨rfl, ?_⟩))
            refine Ew_of (pc' := 142) (fun _ => x_lload rfl l100_4) ?_
            refine w_stat24 rfl rfl (by rfl) (M357 H (show inrJ (z173) by omega) (show inrJ (2654435761) by omega) (fun z178 σ F174 A175 H hS176 hA177 pz178_0 => ⟨rfl, ?_⟩))
            refine w_sJ H (o := 17) (n := 4) rfl (H.perm 17 rfl) rfl rfl (H.fix 17 rfl rfl) (show 0 ≤ x100_18 ∧ x100_18 < ((4 : Nat) : Int) by omega) (by decide) (show (-9223372036854775808 : Int) ≤ z178 ∧ z178 ≤ 9223372036854775807 by omega) (fun σ H => ?_)
            refine Ew_of (pc' := 149) (fun _ => x_iinc (len := 3) rfl (l100_15)) ?_
            refine Ew_of (pc' := 152) (fun _ => x_iinc (len := 3) rfl (rk_o (l100_18) rfl rfl)) ?_
            refine Ew_of (pc' := 100) (fun _ => x_goto rfl rfl) ?_
            exact ih100 _ (by omega) _ σ _ _ ((x100_15 + 4)) ((x100_18 + 1)) (rk_o (rk_o (l100_0) rfl rfl) rfl rfl) (rk_o (rk_o (l100_1) rfl rfl) rfl rfl) (rk_o (rk_o (l100_3) rfl rfl) rfl rfl) (rk_o (rk_o (l100_4) rfl rfl) rfl rfl) (rk_o (rk_o (l100_6) rfl rfl) rfl rfl) (rk_o (rk_o (l100_8) rfl rfl) rfl rfl) (rk_o (rk_o (l100_10) rfl rfl) rfl rfl) (rk_o (rk_o (l100_12) rfl rfl) rfl rfl) (rk_o (rk_o (l100_14) rfl rfl) rfl rfl) (rk_o (rk_s) rfl rfl) (rk_s) H (SF_trans (SF_trans (SF_trans (SF_trans (hS_100) hS159 (any_sub rfl)) hS164 (any_sub rfl)) hS171 (any_sub rfl)) hS176 (any_sub rfl)) (SA_upd (SA_trans (SA_trans (SA_trans (SA_trans (hA_100) hA160 (any_subA rfl)) hA165 (any_subA rfl)) hA172 (any_subA rfl)) hA177 (any_subA rfl)) rfl)   (show inr ((x100_15 + 4)) by omega) (show inr ((x100_18 + 1)) by omega) (show (0) ≤ ((x100_18 + 1)) by omega) (show ((x100_18 + 1)) ≤ (0) ∨ ((x100_18 + 1)) ≤ (4) by omega) (show ((x100_15 + 4)) = (x88_15) + 4 * ((x100_18 + 1)) by omega) rfl
/-- Tokens.sumOf -/
theorem M359_20 {σ0 σ : rS} {D N : Nat → Nat} {F : hF} {A : hA} {d c s : Nat} {Q : wQ} (H : HS σ0 σ D N F A) {a2 a3 : Int} (h0 : inr (a2)) (h1 : inr (a3)) (h2 : 0 ≤ (a2) ∧ (a2) ≤ (a3) ∧ (a3) ≤ 70000) (k : ∀ (z : Int) σ F' A', HS σ0 σ D N F' A' → SF [] F F' → SA [17] A A' → (inrJ (z)) → Q (some (J z)) σ c s) : Ew 359 (d + 1) 0 (rargs 0 [.ref (D 3), .ref (D 20), I a2, I a3]) [] σ c s Q := by
  refine Ew_of (pc' := 3) (fun _ => x_ldc2 (z := 2654435761) rfl (by decide)) ?_
  refine Ew_of (pc' := 5) (fun _ => x_lstore rfl) ?_
  refine Ew_of (pc' := 8) (fun _ => x_ldc2 (z := 2246822519) rfl (by decide)) ?_
  refine Ew_of (pc' := 10) (fun _ => x_lstore rfl) ?_
  refine Ew_of (pc' := 13) (fun _ => x_ldc2 (z := 3266489917) rfl (by decide)) ?_
  refine Ew_of (pc' := 15) (fun _ => x_lstore rfl) ?_
  refine Ew_of (pc' := 18) (fun _ => x_ldc2 (z := 668265263) rfl (by decide)) ?_
  refine Ew_of (pc' := 20) (fun _ => x_lstore rfl) ?_
  refine Ew_of (pc' := 23) (fun _ => x_ldc2 (z := 374761393) rfl (by decide)) ?_
  refine Ew_of (pc' := 25) (fun _ => x_lstore rfl) ?_
  refine Ew_of (pc' := 26) (fun _ => x_iload_n rfl (rk2_o (rk2_o (rk2_o (rk2_o (rk2_o (rfl) rfl rfl) rfl rfl) rfl rfl) rfl rfl) rfl rfl)) ?_
  refine Ew_of (pc' := 27) (fun _ => x_iload_n rfl (rk2_o (rk2_o (rk2_o (rk2_o (rk2_o (rfl) rfl rfl) rfl rfl) rfl rfl) rfl rfl) rfl rfl)) ?_
  refine w_isub rfl ?_
  refine Ew_of (pc' := 30) (fun _ => x_istore rfl) ?_
  refine Ew_of (pc' := 31) (fun _ => x_iload_n rfl (rk_o (rk2_o (rk2_o (rk2_o (rk2_o (rk2_o (rfl) rfl rfl) rfl rfl) rfl rfl) rfl rfl) rfl rfl) rfl rfl)) ?_
  refine Ew_of (pc' := 33) (fun _ => x_istore rfl) ?_
  refine Ew_of (pc' := 35) (fun _ => x_lload rfl (rk_o (rk_o (rk2_s) rfl rfl) rfl rfl)) ?_
  refine Ew_of (pc' := 37) (fun _ => x_lstore rfl) ?_
  refine Ew_of (pc' := 39) (fun _ => x_iload rfl (rk2_o (rk_o (rk_s) rfl rfl) rfl rfl)) ?_
  refine Ew_of (pc' := 41) (fun _ => x_bipush (z := 16) rfl (by decide)) ?_
  refine w_icmplt (t := 210) rfl rfl (show inr ((a3 - a2)) by omega) (show inr (16) by omega) (fun b1 => ?_) (fun b1 => ?_)
  · refine Ew_of (pc' := 212) (fun _ => x_lload rfl rk2_s) ?_
    refine Ew_of (pc' := 214) (fun _ => x_iload rfl (rk2_o (rk_o (rk_s) rfl rfl) rfl rfl)) ?_
    refine w_i2l rfl (show inr ((a3 - a2)) by omega) ?_
    refine w_laddA rfl (fun z2 gz2 => ?_)
    refine Ew_of (pc' := 219) (fun _ => x_ldc2 (z := 4294967295) rfl (by decide)) ?_
    refine w_land rfl (show inrJ (z2) by omega) (show inrJ (4294967295) by omega) (fun z3 gz3 gaz3 gbz3 => ?_)
    refine Ew_of (pc' := 222) (fun _ => x_lstore rfl) ?_
    suffices hl222 : ∀ (m : Nat), ∀ (ls : rO) (σ : rS) (F_222 : hF) (A_222 : hA) (x222_15 : Int) (x222_16 : Int), rlook ls 1 = some (.ref (D 20)) → rlook ls 3 = some (I (a3)) → rlook ls 4 = some (J (2654435761)) → rlook ls 6 = some (J (2246822519)) → rlook ls 8 = some (J (3266489917)) → rlook ls 10 = some (J (668265263)) → rlook ls 12 = some (J (374761393)) → rlook ls 15 = some (I (x222_15)) → rlook ls 16 = some (J (x222_16)) → HS σ0 σ D N F_222 A_222 → SF [] F F_222 → SA [] A A_222 → (inr (x222_15)) → (inrJ (x222_16)) → ((a2) ≤ (x222_15) ∧ (x222_15) ≤ (a3)) → ((a3) - (x222_15)).toNat = m → Ew 359 (d + 1) 222 ls [] σ c s Q from
      hl222 _ _ σ _ _ (a2) (z3) (rk2_o (rk2_o (rk_o (rk_o (rk2_o (rk2_o (rk2_o (rk2_o (rk2_o (rfl) rfl rfl) rfl rfl) rfl rfl) rfl rfl) rfl rfl) rfl rfl) rfl rfl) rfl rfl) rfl rfl) (rk2_o (rk2_o (rk_o (rk_o (rk2_o (rk2_o (rk2_o (rk2_o (rk2_o (rfl) rfl rfl) rfl rfl) rfl rfl) rfl rfl) rfl rfl) rfl rfl) rfl rfl) rfl rfl) rfl rfl) (rk2_o (rk2_o (rk_o (rk_o (rk2_o (rk2_o (rk2_o (rk2_o (rk2_s) rfl rfl) rfl rfl) rfl rfl) rfl rfl) rfl rfl) rfl rfl) rfl rfl) rfl rfl) (rk2_o (rk2_o (rk_o (rk_o (rk2_o (rk2_o (rk2_o (rk2_s) rfl rfl) rfl rfl) rfl rfl) rfl rfl) rfl rfl) rfl rfl) rfl rfl) (rk2_o (rk2_o (rk_o (rk_o (rk2_o (rk2_o (rk2_s) rfl rfl) rfl rfl) rfl rfl) rfl rfl) rfl rfl) rfl rfl) (rk2_o (rk2_o (rk_o (rk_o (rk2_o (rk2_s) rfl rfl) rfl rfl) rfl rfl) rfl rfl) rfl rfl) (rk2_o (rk2_o (rk_o (rk_o (rk2_s) rfl rfl) rfl rfl) rfl rfl) rfl rfl) (rk2_o (rk2_o (rk_s) rfl rfl) rfl rfl) (rk2_s) H (SF_refl) (SA_refl)   (show inr (a2) by omega) (show inrJ (z3) by omega) (show (a2) ≤ (a2) ∧ (a2) ≤ (a3) by omega) rfl
    as_aux_lemma =>
    intro m
    induction m using Nat.strongRecOn with
    | _ m ih222 =>
      intro ls σ F_222 A_222 x222_15 x222_16 l222_1 l222_3 l222_4 l222_6 l222_8 l222_10 l222_12 l222_15 l222_16 H hS_222 hA_222   j222_0 j222_1 j222_2 hm222
      refine Ew_of (pc' := 223) (fun _ => x_iload_n rfl l222_3) ?_
      refine Ew_of (pc' := 225) (fun _ => x_iload rfl l222_15) ?_
      refine w_isub rfl ?_
      refine Ew_of (pc' := 227) (fun _ => x_iconst rfl) ?_
      refine w_icmplt (t := 266) rfl rfl (show inr ((a3 - x222_15)) by omega) (show inr (4) by omega) (fun b4 => ?_) (fun b4 => ?_)
      · suffices hl266 : ∀ (m : Nat), ∀ (ls : rO) (σ : rS) (F_266 : hF) (A_266 : hA) (x266_15 : Int) (x266_16 : Int), rlook ls 1 = some (.ref (D 20)) → rlook ls 3 = some (I (a3)) → rlook ls 4 = some (J (2654435761)) → rlook ls 6 = some (J (2246822519)) → rlook ls 8 = some (J (3266489917)) → rlook ls 12 = some (J (374761393)) → rlook ls 15 = some (I (x266_15)) → rlook ls 16 = some (J (x266_16)) → HS σ0 σ D N F_266 A_266 → SF [] F_222 F_266 → SA [] A_222 A_266 → (inr (x266_15)) → (inrJ (x266_16)) → ((x222_15) ≤ (x266_15)) → ((x266_15) ≤ (x222_15) ∨ (x266_15) ≤ ((a3))) → (((a3)) - (x266_15)).toNat = m → Ew 359 (d + 1) 266 ls [] σ c s Q from
          hl266 _ _ σ _ _ (x222_15) (x222_16) (l222_1) (l222_3) (l222_4) (l222_6) (l222_8) (l222_12) (l222_15) (l222_16) H (SF_refl) (SA_refl)   (show inr (x222_15) by omega) (show inrJ (x222_16) by omega) (show (x222_15) ≤ (x222_15) by omega) (show (x222_15) ≤ (x222_15) ∨ (x222_15) ≤ ((a3)) by omega) rfl
        as_aux_lemma =>
        intro m
        induction m using Nat.strongRecOn with
        | _ m ih266 =>
          intro ls σ F_266 A_266 x266_15 x266_16 l266_1 l266_3 l266_4 l266_6 l266_8 l266_12 l266_15 l266_16 H hS_266 hA_266   j266_0 j266_1 j266_2 j266_3 hm266
          refine Ew_of (pc' := 268) (fun _ => x_iload rfl l266_15) ?_
          refine Ew_of (pc' := 269) (fun _ => x_iload_n rfl l266_3) ?_
          refine w_icmpge (t := 307) rfl rfl (show inr (x266_15) by omega) (show inr (a3) by omega) (fun b5 => ?_) (fun b5 => ?_)
          · refine Ew_of (pc' := 309) (fun _ => x_lload rfl l266_16) ?_
            refine Ew_of (pc' := 311) (fun _ => x_lload rfl l266_16) ?_
            refine Ew_of (pc' := 313) (fun _ => x_bipush (z := 15) rfl (by decide)) ?_
            refine w_lshrA rfl (fun z6 gz6 => ?_)
            refine w_lxorA rfl (fun z7 gz7 => ?_)
            refine Ew_of (pc' := 317) (fun _ => x_lload rfl l266_6) ?_
            refine w_stat24 rfl rfl (by rfl) (M357 H (show inrJ (z7) by omega) (show inrJ (2246822519) by omega) (fun z12 σ F8 A9 H hS10 hA11 pz12_0 => ⟨rfl, ?_⟩))
            refine Ew_of (pc' := 322) (fun _ => x_lstore rfl) ?_
            refine Ew_of (pc' := 324) (fun _ => x_lload rfl rk2_s) ?_
            refine Ew_of (pc' := 326) (fun _ => x_lload rfl rk2_s) ?_
            refine Ew_of (pc' := 328) (fun _ => x_bipush (z := 13) rfl (by decide)) ?_
            refine w_lshrA rfl (fun z13 gz13 => ?_)
            refine w_lxorA rfl (fun z14 gz14 => ?_)
            refine Ew_of (pc' := 332) (fun _ => x_lload rfl (rk2_o (l266_8) rfl rfl)) ?_
            refine w_stat24 rfl rfl (by rfl) (M357 H (show inrJ (z14) by omega) (show inrJ (3266489917) by omega) (fun z19 σ F15 A16 H hS17 hA18 pz19_0 => ⟨rfl, ?_⟩))
            refine Ew_of (pc' := 337) (fun _ => x_lstore rfl) ?_
            refine Ew_of (pc' := 339) (fun _ => x_lload rfl rk2_s) ?_
            refine Ew_of (pc' := 341) (fun _ => x_lload rfl rk2_s) ?_
            refine Ew_of (pc' := 343) (fun _ => x_bipush (z := 16) rfl (by decide)) ?_
            refine w_lshrA rfl (fun z20 gz20 => ?_)
            refine w_lxorA rfl (fun z21 gz21 => ?_)
            exact w_lreturn rfl (k (z21) σ _ _ H (SF_trans (SF_trans (SF_trans (SF_trans (SF_refl) hS_222 (any_sub rfl)) hS_266 (any_sub rfl)) hS10 (any_sub rfl)) hS17 (any_sub rfl)) (SA_trans (SA_trans (SA_trans (SA_trans (SA_refl) hA_222 (any_subA rfl)) hA_266 (any_subA rfl)) hA11 (any_subA rfl)) hA18 (any_subA rfl)) (show inrJ (z21) by omega))
          · refine Ew_of (pc' := 274) (fun _ => x_lload rfl l266_16) ?_
            refine Ew_of (pc' := 275) (fun _ => x_aload_n rfl l266_1) ?_
            refine Ew_of (pc' := 277) (fun _ => x_iload rfl l266_15) ?_
            refine w_lI H (o := 20) (n := 70000) rfl (H.perm 20 rfl) rfl rfl (H.fix 20 rfl rfl) (show 0 ≤ x266_15 ∧ x266_15 < ((70000 : Nat) : Int) by omega) (by decide) (fun v22 ev22 qv22 => ?_)
            have qv22 : (0 : Int) ≤ v22 ∧ v22 ≤ 255 := qv22
            have ev22 : (A 20) (x266_15) = v22 := (congrFun ((funext (hA_266 20 rfl)).trans (funext (hA_222 20 rfl))) (x266_15)).symm.trans ev22
            refine w_i2l rfl (show inr (v22) by omega) ?_
            refine Ew_of (pc' := 281) (fun _ => x_lload rfl l266_12) ?_
            refine w_stat24 rfl rfl (by rfl) (M357 H (show inrJ (v22) by omega) (show inrJ (374761393) by omega) (fun z27 σ F23 A24 H hS25 hA26 pz27_0 => ⟨rfl, ?_⟩))
            refine w_laddA rfl (fun z28 gz28 => ?_)
            refine Ew_of (pc' := 288) (fun _ => x_ldc2 (z := 4294967295) rfl (by decide)) ?_
            refine w_land rfl (show inrJ (z28) by omega) (show inrJ (4294967295) by omega) (fun z29 gz29 gaz29 gbz29 => ?_)
            refine Ew_of (pc' := 291) (fun _ => x_bipush (z := 11) rfl (by decide)) ?_
            refine w_stat24 rfl rfl (by rfl) (M356 H (show inrJ (z29) by omega) (show inr (11) by omega) (fun z34 σ F30 A31 H hS32 hA33 pz34_0 => ⟨rfl, ?_⟩))
            refine Ew_of (pc' := 296) (fun _ => x_lload rfl l266_4) ?_
            refine w_stat24 rfl rfl (by rfl) (M357 H (show inrJ (z34) by omega) (show inrJ (2654435761) by omega) (fun z39 σ F35 A36 H hS37 hA38 pz39_0 => ⟨rfl, ?_⟩))
            refine Ew_of (pc' := 301) (fun _ => x_lstore rfl) ?_
            refine Ew_of (pc' := 304) (fun _ => x_iinc (len := 3) rfl (rk2_o (l266_15) rfl rfl)) ?_
            refine Ew_of (pc' := 266) (fun _ => x_goto rfl rfl) ?_
            exact ih266 _ (by omega) _ σ _ _ ((x266_15 + 1)) (z39) (rk_o (rk2_o (l266_1) rfl rfl) rfl rfl) (rk_o (rk2_o (l266_3) rfl rfl) rfl rfl) (rk_o (rk2_o (l266_4) rfl rfl) rfl rfl) (rk_o (rk2_o (l266_6) rfl rfl) rfl rfl) (rk_o (rk2_o (l266_8) rfl rfl) rfl rfl) (rk_o (rk2_o (l266_12) rfl rfl) rfl rfl) (rk_s) (rk_o (rk2_s) rfl rfl) H (SF_trans (SF_trans (SF_trans (hS_266) hS25 (any_sub rfl)) hS32 (any_sub rfl)) hS37 (any_sub rfl)) (SA_trans (SA_trans (SA_trans (hA_266) hA26 (any_subA rfl)) hA33 (any_subA rfl)) hA38 (any_subA rfl))   (show inr ((x266_15 + 1)) by omega) (show inrJ (z39) by omega) (show (x222_15) ≤ ((x266_15 + 1)) by omega) (show ((x266_15 + 1)) ≤ (x222_15) ∨ ((x266_15 + 1)) ≤ ((a3)) by omega) rfl
      · refine Ew_of (pc' := 232) (fun _ => x_lload rfl l222_16) ?_
        refine Ew_of (pc' := 233) (fun _ => x_aload_n rfl l222_1) ?_
        refine Ew_of (pc' := 235) (fun _ => x_iload rfl l222_15) ?_
        refine w_stat24 rfl rfl (by rfl) (M358_20 H (show inr (x222_15) by omega) (show 0 ≤ (x222_15) ∧ (x222_15) + 3 < 70000 by omega) (fun z44 σ F40 A41 H hS42 hA43 pz44_0 => ⟨rfl, ?_⟩))
        refine Ew_of (pc' := 240) (fun _ => x_lload rfl l222_8) ?_
        refine w_stat24 rfl rfl (by rfl) (M357 H (show inrJ (z44) by omega) (show inrJ (3266489917) by omega) (fun z49 σ F45 A46 H hS47 hA48 pz49_0 => ⟨rfl, ?_⟩))
        refine w_laddA rfl (fun z50 gz50 => ?_)
        refine Ew_of (pc' := 247) (fun _ => x_ldc2 (z := 4294967295) rfl (by decide)) ?_
        refine w_land rfl (show inrJ (z50) by omega) (show inrJ (4294967295) by omega) (fun z51 gz51 gaz51 gbz51 => ?_)
        refine Ew_of (pc' := 250) (fun _ => x_bipush (z := 17) rfl (by decide)) ?_
        refine w_stat24 rfl rfl (by rfl) (M356 H (show inrJ (z51) by omega) (show inr (17) by omega) (fun z56 σ F52 A53 H hS54 hA55 pz56_0 => ⟨rfl, ?_⟩))
        refine Ew_of (pc' := 255) (fun _ => x_lload rfl l222_10) ?_
        refine w_stat24 rfl rfl (by rfl) (M357 H (show inrJ (z56) by omega) (show inrJ (668265263) by omega) (fun z61 σ F57 A58 H hS59 hA60 pz61_0 => ⟨rfl, ?_⟩))
        refine Ew_of (pc' := 260) (fun _ => x_lstore rfl) ?_
        refine Ew_of (pc' := 263) (fun _ => x_iinc (len := 3) rfl (rk2_o (l222_15) rfl rfl)) ?_
        refine Ew_of (pc' := 222) (fun _ => x_goto rfl rfl) ?_
        exact ih222 _ (by omega) _ σ _ _ ((x222_15 + 4)) (z61) (rk_o (rk2_o (l222_1) rfl rfl) rfl rfl) (rk_o (rk2_o (l222_3) rfl rfl) rfl rfl) (rk_o (rk2_o (l222_4) rfl rfl) rfl rfl) (rk_o (rk2_o (l222_6) rfl rfl) rfl rfl) (rk_o (rk2_o (l222_8) rfl rfl) rfl rfl) (rk_o (rk2_o (l222_10) rfl rfl) rfl rfl) (rk_o (rk2_o (l222_12) rfl rfl) rfl rfl) (rk_s) (rk_o (rk2_s) rfl rfl) H (SF_trans (SF_trans (SF_trans (SF_trans (hS_222) hS42 (any_sub rfl)) hS47 (any_sub rfl)) hS54 (any_sub rfl)) hS59 (any_sub rfl)) (SA_trans (SA_trans (SA_trans (SA_trans (hA_222) hA43 (any_subA rfl)) hA48 (any_subA rfl)) hA55 (any_subA rfl)) hA60 (any_subA rfl))   (show inr ((x222_15 + 4)) by omega) (show inrJ (z61) by omega) (show (a2) ≤ ((x222_15 + 4)) ∧ ((x222_15 + 4)) ≤ (a3) by omega) rfl
  · refine Ew_of (pc' := 45) (fun _ => x_aload_n rfl (rk2_o (rk_o (rk_o (rk2_o (rk2_o (rk2_o (rk2_o (rk2_o (rfl) rfl rfl) rfl rfl) rfl rfl) rfl rfl) rfl rfl) rfl rfl) rfl rfl) rfl rfl)) ?_
    refine w_gT H (o := 3) (t := 17) rfl (H.perm 3 rfl) rfl rfl rfl rfl rfl rfl ?_
    refine Ew_of (pc' := 49) (fun _ => x_iconst rfl) ?_
    refine Ew_of (pc' := 51) (fun _ => x_lload rfl (rk2_o (rk_o (rk_o (rk2_o (rk2_o (rk2_o (rk2_o (rk2_s) rfl rfl) rfl rfl) rfl rfl) rfl rfl) rfl rfl) rfl rfl) rfl rfl)) ?_
    refine Ew_of (pc' := 53) (fun _ => x_lload rfl (rk2_o (rk_o (rk_o (rk2_o (rk2_o (rk2_o (rk2_s) rfl rfl) rfl rfl) rfl rfl) rfl rfl) rfl rfl) rfl rfl)) ?_
    refine w_laddA rfl (fun z62 gz62 => ?_)
    refine Ew_of (pc' := 57) (fun _ => x_ldc2 (z := 4294967295) rfl (by decide)) ?_
    refine w_land rfl (show inrJ (z62) by omega) (show inrJ (4294967295) by omega) (fun z63 gz63 gaz63 gbz63 => ?_)
    refine w_sJ H (o := 17) (n := 4) rfl (H.perm 17 rfl) rfl rfl (H.fix 17 rfl rfl) (show 0 ≤ 0 ∧ 0 < ((4 : Nat) : Int) by omega) (by decide) (show (-9223372036854775808 : Int) ≤ z63 ∧ z63 ≤ 9223372036854775807 by omega) (fun σ H => ?_)
    refine Ew_of (pc' := 60) (fun _ => x_aload_n rfl (rk2_o (rk_o (rk_o (rk2_o (rk2_o (rk2_o (rk2_o (rk2_o (rfl) rfl rfl) rfl rfl) rfl rfl) rfl rfl) rfl rfl) rfl rfl) rfl rfl) rfl rfl)) ?_
    refine w_gT H (o := 3) (t := 17) rfl (H.perm 3 rfl) rfl rfl rfl rfl rfl rfl ?_
    refine Ew_of (pc' := 64) (fun _ => x_iconst rfl) ?_
    refine Ew_of (pc' := 66) (fun _ => x_lload rfl (rk2_o (rk_o (rk_o (rk2_o (rk2_o (rk2_o (rk2_s) rfl rfl) rfl rfl) rfl rfl) rfl rfl) rfl rfl) rfl rfl)) ?_
    refine w_sJ H (o := 17) (n := 4) rfl (H.perm 17 rfl) rfl rfl (H.fix 17 rfl rfl) (show 0 ≤ 1 ∧ 1 < ((4 : Nat) : Int) by omega) (by decide) (show (-9223372036854775808 : Int) ≤ 2246822519 ∧ 2246822519 ≤ 9223372036854775807 by omega) (fun σ H => ?_)
    refine Ew_of (pc' := 68) (fun _ => x_aload_n rfl (rk2_o (rk_o (rk_o (rk2_o (rk2_o (rk2_o (rk2_o (rk2_o (rfl) rfl rfl) rfl rfl) rfl rfl) rfl rfl) rfl rfl) rfl rfl) rfl rfl) rfl rfl)) ?_
    refine w_gT H (o := 3) (t := 17) rfl (H.perm 3 rfl) rfl rfl rfl rfl rfl rfl ?_
    refine Ew_of (pc' := 72) (fun _ => x_iconst rfl) ?_
    refine Ew_of (pc' := 73) (fun _ => x_lconst (z := 0) rfl (by decide)) ?_
    refine w_sJ H (o := 17) (n := 4) rfl (H.perm 17 rfl) rfl rfl (H.fix 17 rfl rfl) (show 0 ≤ 2 ∧ 2 < ((4 : Nat) : Int) by omega) (by decide) (show (-9223372036854775808 : Int) ≤ 0 ∧ 0 ≤ 9223372036854775807 by omega) (fun σ H => ?_)
    refine Ew_of (pc' := 75) (fun _ => x_aload_n rfl (rk2_o (rk_o (rk_o (rk2_o (rk2_o (rk2_o (rk2_o (rk2_o (rfl) rfl rfl) rfl rfl) rfl rfl) rfl rfl) rfl rfl) rfl rfl) rfl rfl) rfl rfl)) ?_
    refine w_gT H (o := 3) (t := 17) rfl (H.perm 3 rfl) rfl rfl rfl rfl rfl rfl ?_
    refine Ew_of (pc' := 79) (fun _ => x_iconst rfl) ?_
    refine Ew_of (pc' := 80) (fun _ => x_lconst (z := 0) rfl (by decide)) ?_
    refine Ew_of (pc' := 82) (fun _ => x_lload rfl (rk2_o (rk_o (rk_o (rk2_o (rk2_o (rk2_o (rk2_o (rk2_s) rfl rfl) rfl rfl) rfl rfl) rfl rfl) rfl rfl) rfl rfl) rfl rfl)) ?_
    refine w_lsubA rfl (fun z64 gz64 => ?_)
    refine Ew_of (pc' := 86) (fun _ => x_ldc2 (z := 4294967295) rfl (by decide)) ?_
    refine w_land rfl (show inrJ (z64) by omega) (show inrJ (4294967295) by omega) (fun z65 gz65 gaz65 gbz65 => ?_)
    refine w_sJ H (o := 17) (n := 4) rfl (H.perm 17 rfl) rfl rfl (H.fix 17 rfl rfl) (show 0 ≤ 3 ∧ 3 < ((4 : Nat) : Int) by omega) (by decide) (show (-9223372036854775808 : Int) ≤ z65 ∧ z65 ≤ 9223372036854775807 by omega) (fun σ H => ?_)
    suffices hl88 : ∀ (m : Nat), ∀ (ls : rO) (σ : rS) (F_88 : hF) (A_88 : hA) (x88_15 : Int), rlook ls 0 = some (.ref (D 3)) → rlook ls 1 = some (.ref (D 20)) → rlook ls 3 = some (I (a3)) → rlook ls 4 = some (J (2654435761)) → rlook ls 6 = some (J (2246822519)) → rlook ls 8 = some (J (3266489917)) → rlook ls 10 = some (J (668265263)) → rlook ls 12 = some (J (374761393)) → rlook ls 14 = some (I ((a3 - a2))) → rlook ls 15 = some (I (x88_15)) → HS σ0 σ D N F_88 A_88 → SF [] F F_88 → SA [17] (updA (updA (updA (updA A 17 (0) (z63)) 17 (1) (2246822519)) 17 (2) (0)) 17 (3) (z65)) A_88 → (inr (x88_15)) → ((a2) ≤ (x88_15) ∧ (x88_15) ≤ (a3)) → ((a3) - (x88_15)).toNat = m → Ew 359 (d + 1) 88 ls [] σ c s Q from
      hl88 _ _ σ _ _ (a2) (rk2_o (rk_o (rk_o (rk2_o (rk2_o (rk2_o (rk2_o (rk2_o (rfl) rfl rfl) rfl rfl) rfl rfl) rfl rfl) rfl rfl) rfl rfl) rfl rfl) rfl rfl) (rk2_o (rk_o (rk_o (rk2_o (rk2_o (rk2_o (rk2_o (rk2_o (rfl) rfl rfl) rfl rfl) rfl rfl) rfl rfl) rfl rfl) rfl rfl) rfl rfl) rfl rfl) (rk2_o (rk_o (rk_o (rk2_o (rk2_o (rk2_o (rk2_o (rk2_o (rfl) rfl rfl) rfl rfl) rfl rfl) rfl rfl) rfl rfl) rfl rfl) rfl rfl) rfl rfl) (rk2_o (rk_o (rk_o (rk2_o (rk2_o (rk2_o (rk2_o (rk2_s) rfl rfl) rfl rfl) rfl rfl) rfl rfl) rfl rfl) rfl rfl) rfl rfl) (rk2_o (rk_o (rk_o (rk2_o (rk2_o (rk2_o (rk2_s) rfl rfl) rfl rfl) rfl rfl) rfl rfl) rfl rfl) rfl rfl) (rk2_o (rk_o (rk_o (rk2_o (rk2_o (rk2_s) rfl rfl) rfl rfl) rfl rfl) rfl rfl) rfl rfl) (rk2_o (rk_o (rk_o (rk2_o (rk2_s) rfl rfl) rfl rfl) rfl rfl) rfl rfl) (rk2_o (rk_o (rk_o (rk2_s) rfl rfl) rfl rfl) rfl rfl) (rk2_o (rk_o (rk_s) rfl rfl) rfl rfl) (rk2_o (rk_s) rfl rfl) H (SF_refl) (SA_refl)   (show inr (a2) by omega) (show (a2) ≤ (a2) ∧ (a2) ≤ (a3) by omega) rfl
    as_aux_lemma =>
    intro m
    induction m using Nat.strongRecOn with
    | _ m ih88 =>
      intro ls σ F_88 A_88 x88_15 l88_0 l88_1 l88_3 l88_4 l88_6 l88_8 l88_10 l88_12 l88_14 l88_15 H hS_88 hA_88   j88_0 j88_1 hm88
      refine Ew_of (pc' := 89) (fun _ => x_iload_n rfl l88_3) ?_
      refine Ew_of (pc' := 91) (fun _ => x_iload rfl l88_15) ?_
      refine w_isub rfl ?_
      refine Ew_of (pc' := 94) (fun _ => x_bipush (z := 16) rfl (by decide)) ?_
      refine w_icmplt (t := 158) rfl rfl (show inr ((a3 - x88_15)) by omega) (show inr (16) by omega) (fun b66 => ?_) (fun b66 => ?_)
      · refine Ew_of (pc' := 159) (fun _ => x_aload_n rfl l88_0) ?_
        refine w_gT H (o := 3) (t := 17) rfl (H.perm 3 rfl) rfl rfl rfl rfl rfl rfl ?_
        refine Ew_of (pc' := 163) (fun _ => x_iconst rfl) ?_
        refine w_lJ H (o := 17) (n := 4) rfl (H.perm 17 rfl) rfl rfl (H.fix 17 rfl rfl) (show 0 ≤ 0 ∧ 0 < ((4 : Nat) : Int) by omega) (by decide) (fun v67 ev67 qv67 => ?_)
        have qv67 : (-9223372036854775808 : Int) ≤ v67 ∧ v67 ≤ 9223372036854775807 := qv67
        have ev67 : (A_88 17) (0) = v67 := (congrFun (rfl : A_88 17 = A_88 17) (0)).symm.trans ev67
        refine Ew_of (pc' := 165) (fun _ => x_iconst rfl) ?_
        refine w_stat24 rfl rfl (by rfl) (M356 H (show inrJ (v67) by omega) (show inr (1) by omega) (fun z72 σ F68 A69 H hS70 hA71 pz72_0 => ⟨rfl, ?_⟩))
        refine Ew_of (pc' := 169) (fun _ => x_aload_n rfl l88_0) ?_
        refine w_gT H (o := 3) (t := 17) rfl (H.perm 3 rfl) rfl rfl rfl rfl rfl rfl ?_
        refine Ew_of (pc' := 173) (fun _ => x_iconst rfl) ?_
        refine w_lJ H (o := 17) (n := 4) rfl (H.perm 17 rfl) rfl rfl (H.fix 17 rfl rfl) (show 0 ≤ 1 ∧ 1 < ((4 : Nat) : Int) by omega) (by decide) (fun v73 ev73 qv73 => ?_)
        have qv73 : (-9223372036854775808 : Int) ≤ v73 ∧ v73 ≤ 9223372036854775807 := qv73
        have ev73 : (A_88 17) (1) = v73 := (congrFun (funext (hA71 17 rfl)) (1)).symm.trans ev73
        refine Ew_of (pc' := 176) (fun _ => x_bipush (z := 7) rfl (by decide)) ?_
        refine w_stat24 rfl rfl (by rfl) (M356 H (show inrJ (v73) by omega) (show inr (7) by omega) (fun z78 σ F74 A75 H hS76 hA77 pz78_0 => ⟨rfl, ?_⟩))
        refine w_laddA rfl (fun z79 gz79 => ?_)
        refine Ew_of (pc' := 181) (fun _ => x_aload_n rfl l88_0) ?_
        refine w_gT H (o := 3) (t := 17) rfl (H.perm 3 rfl) rfl rfl rfl rfl rfl rfl ?_
        refine Ew_of (pc' := 185) (fun _ => x_iconst rfl) ?_
        refine w_lJ H (o := 17) (n := 4) rfl (H.perm 17 rfl) rfl rfl (H.fix 17 rfl rfl) (show 0 ≤ 2 ∧ 2 < ((4 : Nat) : Int) by omega) (by decide) (fun v80 ev80 qv80 => ?_)
        have qv80 : (-9223372036854775808 : Int) ≤ v80 ∧ v80 ≤ 9223372036854775807 := qv80
        have ev80 : (A_88 17) (2) = v80 := (congrFun ((funext (hA77 17 rfl)).trans (funext (hA71 17 rfl))) (2)).symm.trans ev80
        refine Ew_of (pc' := 188) (fun _ => x_bipush (z := 12) rfl (by decide)) ?_
        refine w_stat24 rfl rfl (by rfl) (M356 H (show inrJ (v80) by omega) (show inr (12) by omega) (fun z85 σ F81 A82 H hS83 hA84 pz85_0 => ⟨rfl, ?_⟩))
        refine w_laddA rfl (fun z86 gz86 => ?_)
        refine Ew_of (pc' := 193) (fun _ => x_aload_n rfl l88_0) ?_
        refine w_gT H (o := 3) (t := 17) rfl (H.perm 3 rfl) rfl rfl rfl rfl rfl rfl ?_
        refine Ew_of (pc' := 197) (fun _ => x_iconst rfl) ?_
        refine w_lJ H (o := 17) (n := 4) rfl (H.perm 17 rfl) rfl rfl (H.fix 17 rfl rfl) (show 0 ≤ 3 ∧ 3 < ((4 : Nat) : Int) by omega) (by decide) (fun v87 ev87 qv87 => ?_)
        have qv87 : (-9223372036854775808 : Int) ≤ v87 ∧ v87 ≤ 9223372036854775807 := qv87
        have ev87 : (A_88 17) (3) = v87 := (congrFun ((funext (hA84 17 rfl)).trans ((funext (hA77 17 rfl)).trans (funext (hA71 17 rfl)))) (3)).symm.trans ev87
        refine Ew_of (pc' := 200) (fun _ => x_bipush (z := 18) rfl (by decide)) ?_
        refine w_stat24 rfl rfl (by rfl) (M356 H (show inrJ (v87) by omega) (show inr (18) by omega) (fun z92 σ F88 A89 H hS90 hA91 pz92_0 => ⟨rfl, ?_⟩))
        refine w_laddA rfl (fun z93 gz93 => ?_)
        refine Ew_of (pc' := 207) (fun _ => x_ldc2 (z := 4294967295) rfl (by decide)) ?_
        refine w_land rfl (show inrJ (z93) by omega) (show inrJ (4294967295) by omega) (fun z94 gz94 gaz94 gbz94 => ?_)
        refine Ew_of (pc' := 210) (fun _ => x_lstore rfl) ?_
        refine Ew_of (pc' := 212) (fun _ => x_lload rfl rk2_s) ?_
        refine Ew_of (pc' := 214) (fun _ => x_iload rfl (rk2_o (l88_14) rfl rfl)) ?_
        refine w_i2l rfl (show inr ((a3 - a2)) by omega) ?_
        refine w_laddA rfl (fun z95 gz95 => ?_)
        refine Ew_of (pc' := 219) (fun _ => x_ldc2 (z := 4294967295) rfl (by decide)) ?_
        refine w_land rfl (show inrJ (z95) by omega) (show inrJ (4294967295) by omega) (fun z96 gz96 gaz96 gbz96 => ?_)
        refine Ew_of (pc' := 222) (fun _ => x_lstore rfl) ?_
        suffices hl222 : ∀ (m : Nat), ∀ (ls : rO) (σ : rS) (F_222 : hF) (A_222 : hA) (x222_15 : Int) (x222_16 : Int), rlook ls 1 = some (.ref (D 20)) → rlook ls 3 = some (I (a3)) → rlook ls 4 = some (J (2654435761)) → rlook ls 6 = some (J (2246822519)) → rlook ls 8 = some (J (3266489917)) → rlook ls 10 = some (J (668265263)) → rlook ls 12 = some (J (374761393)) → rlook ls 15 = some (I (x222_15)) → rlook ls 16 = some (J (x222_16)) → HS σ0 σ D N F_222 A_222 → SF [] F88 F_222 → SA [] A89 A_222 → (inr (x222_15)) → (inrJ (x222_16)) → ((a2) ≤ (x222_15) ∧ (x222_15) ≤ (a3)) → ((a3) - (x222_15)).toNat = m → Ew 359 (d + 1) 222 ls [] σ c s Q from
          hl222 _ _ σ _ _ (x88_15) (z96) (rk2_o (rk2_o (l88_1) rfl rfl) rfl rfl) (rk2_o (rk2_o (l88_3) rfl rfl) rfl rfl) (rk2_o (rk2_o (l88_4) rfl rfl) rfl rfl) (rk2_o (rk2_o (l88_6) rfl rfl) rfl rfl) (rk2_o (rk2_o (l88_8) rfl rfl) rfl rfl) (rk2_o (rk2_o (l88_10) rfl rfl) rfl rfl) (rk2_o (rk2_o (l88_12) rfl rfl) rfl rfl) (rk2_o (rk2_o (l88_15) rfl rfl) rfl rfl) (rk2_s) H (SF_refl) (SA_refl)   (show inr (x88_15) by omega) (show inrJ (z96) by omega) (show (a2) ≤ (x88_15) ∧ (x88_15) ≤ (a3) by omega) rfl
        as_aux_lemma =>
        intro m
        induction m using Nat.strongRecOn with
        | _ m ih222 =>
          intro ls σ F_222 A_222 x222_15 x222_16 l222_1 l222_3 l222_4 l222_6 l222_8 l222_10 l222_12 l222_15 l222_16 H hS_222 hA_222   j222_0 j222_1 j222_2 hm222
          refine Ew_of (pc' := 223) (fun _ => x_iload_n rfl l222_3) ?_
          refine Ew_of (pc' := 225) (fun _ => x_iload rfl l222_15) ?_
          refine w_isub rfl ?_
          refine Ew_of (pc' := 227) (fun _ => x_iconst rfl) ?_
          refine w_icmplt (t := 266) rfl rfl (show inr ((a3 - x222_15)) by omega) (show inr (4) by omega) (fun b97 => ?_) (fun b97 => ?_)
          · suffices hl266 : ∀ (m : Nat), ∀ (ls : rO) (σ : rS) (F_266 : hF) (A_266 : hA) (x266_15 : Int) (x266_16 : Int), rlook ls 1 = some (.ref (D 20)) → rlook ls 3 = some (I (a3)) → rlook ls 4 = some (J (2654435761)) → rlook ls 6 = some (J (2246822519)) → rlook ls 8 = some (J (3266489917)) → rlook ls 12 = some (J (374761393)) → rlook ls 15 = some (I (x266_15)) → rlook ls 16 = some (J (x266_16)) → HS σ0 σ D N F_266 A_266 → SF [] F_222 F_266 → SA [] A_222 A_266 → (inr (x266_15)) → (inrJ (x266_16)) → ((x222_15) ≤ (x266_15)) → ((x266_15) ≤ (x222_15) ∨ (x266_15) ≤ ((a3))) → (((a3)) - (x266_15)).toNat = m → Ew 359 (d + 1) 266 ls [] σ c s Q from
              hl266 _ _ σ _ _ (x222_15) (x222_16) (l222_1) (l222_3) (l222_4) (l222_6) (l222_8) (l222_12) (l222_15) (l222_16) H (SF_refl) (SA_refl)   (show inr (x222_15) by omega) (show inrJ (x222_16) by omega) (show (x222_15) ≤ (x222_15) by omega) (show (x222_15) ≤ (x222_15) ∨ (x222_15) ≤ ((a3)) by omega) rfl
            as_aux_lemma =>
            intro m
            induction m using Nat.strongRecOn with
            | _ m ih266 =>
              intro ls σ F_266 A_266 x266_15 x266_16 l266_1 l266_3 l266_4 l266_6 l266_8 l266_12 l266_15 l266_16 H hS_266 hA_266   j266_0 j266_1 j266_2 j266_3 hm266
              refine Ew_of (pc' := 268) (fun _ => x_iload rfl l266_15) ?_
              refine Ew_of (pc' := 269) (fun _ => x_iload_n rfl l266_3) ?_
              refine w_icmpge (t := 307) rfl rfl (show inr (x266_15) by omega) (show inr (a3) by omega) (fun b98 => ?_) (fun b98 => ?_)
              · refine Ew_of (pc' := 309) (fun _ => x_lload rfl l266_16) ?_
                refine Ew_of (pc' := 311) (fun _ => x_lload rfl l266_16) ?_
                refine Ew_of (pc' := 313) (fun _ => x_bipush (z := 15) rfl (by decide)) ?_
                refine w_lshrA rfl (fun z99 gz99 => ?_)
                refine w_lxorA rfl (fun z100 gz100 => ?_)
                refine Ew_of (pc' := 317) (fun _ => x_lload rfl l266_6) ?_
                refine w_stat24 rfl rfl (by rfl) (M357 H (show inrJ (z100) by omega) (show inrJ (2246822519) by omega) (fun z105 σ F101 A102 H hS103 hA104 pz105_0 => ⟨rfl, ?_⟩))
                refine Ew_of (pc' := 322) (fun _ => x_lstore rfl) ?_
                refine Ew_of (pc' := 324) (fun _ => x_lload rfl rk2_s) ?_
                refine Ew_of (pc' := 326) (fun _ => x_lload rfl rk2_s) ?_
                refine Ew_of (pc' := 328) (fun _ => x_bipush (z := 13) rfl (by decide)) ?_
                refine w_lshrA rfl (fun z106 gz106 => ?_)
                refine w_lxorA rfl (fun z107 gz107 => ?_)
                refine Ew_of (pc' := 332) (fun _ => x_lload rfl (rk2_o (l266_8) rfl rfl)) ?_
                refine w_stat24 rfl rfl (by rfl) (M357 H (show inrJ (z107) by omega) (show inrJ (3266489917) by omega) (fun z112 σ F108 A109 H hS110 hA111 pz112_0 => ⟨rfl, ?_⟩))
                refine Ew_of (pc' := 337) (fun _ => x_lstore rfl) ?_
                refine Ew_of (pc' := 339) (fun _ => x_lload rfl rk2_s) ?_
                refine Ew_of (pc' := 341) (fun _ => x_lload rfl rk2_s) ?_
                refine Ew_of (pc' := 343) (fun _ => x_bipush (z := 16) rfl (by decide)) ?_
                refine w_lshrA rfl (fun z113 gz113 => ?_)
                refine w_lxorA rfl (fun z114 gz114 => ?_)
                exact w_lreturn rfl (k (z114) σ _ _ H (SF_trans (SF_trans (SF_trans (SF_trans (SF_trans (SF_trans (SF_trans (SF_trans (SF_trans (SF_refl) hS_88 (any_sub rfl)) hS70 (any_sub rfl)) hS76 (any_sub rfl)) hS83 (any_sub rfl)) hS90 (any_sub rfl)) hS_222 (any_sub rfl)) hS_266 (any_sub rfl)) hS103 (any_sub rfl)) hS110 (any_sub rfl)) (SA_trans (SA_trans (SA_trans (SA_trans (SA_trans (SA_trans (SA_trans (SA_trans (SA_trans (SA_upd (SA_upd (SA_upd (SA_upd (SA_refl) rfl) rfl) rfl) rfl) hA_88 (any_subA rfl)) hA71 (any_subA rfl)) hA77 (any_subA rfl)) hA84 (any_subA rfl)) hA91 (any_subA rfl)) hA_222 (any_subA rfl)) hA_266 (any_subA rfl)) hA104 (any_subA rfl)) hA111 (any_subA rfl)) (show inrJ (z114) by omega))
              · refine Ew_of (pc' := 274) (fun _ => x_lload rfl l266_16) ?_
                refine Ew_of (pc' := 275) (fun _ => x_aload_n rfl l266_1) ?_
                refine Ew_of (pc' := 277) (fun _ => x_iload rfl l266_15) ?_
                refine w_lI H (o := 20) (n := 70000) rfl (H.perm 20 rfl) rfl rfl (H.fix 20 rfl rfl) (show 0 ≤ x266_15 ∧ x266_15 < ((70000 : Nat) : Int) by omega) (by decide) (fun v115 ev115 qv115 => ?_)
                have qv115 : (0 : Int) ≤ v115 ∧ v115 ≤ 255 := qv115
                have ev115 : (A 20) (x266_15) = v115 := (congrFun ((funext (hA_266 20 rfl)).trans ((funext (hA_222 20 rfl)).trans ((funext (hA91 20 rfl)).trans ((funext (hA84 20 rfl)).trans ((funext (hA77 20 rfl)).trans ((funext (hA71 20 rfl)).trans (funext (hA_88 20 rfl)))))))) (x266_15)).symm.trans ev115
                refine w_i2l rfl (show inr (v115) by omega) ?_
                refine Ew_of (pc' := 281) (fun _ => x_lload rfl l266_12) ?_
                refine w_stat24 rfl rfl (by rfl) (M357 H (show inrJ (v115) by omega) (show inrJ (374761393) by omega) (fun z120 σ F116 A117 H hS118 hA119 pz120_0 => ⟨rfl, ?_⟩))
                refine w_laddA rfl (fun z121 gz121 => ?_)
                refine Ew_of (pc' := 288) (fun _ => x_ldc2 (z := 4294967295) rfl (by decide)) ?_
                refine w_land rfl (show inrJ (z121) by omega) (show inrJ (4294967295) by omega) (fun z122 gz122 gaz122 gbz122 => ?_)
                refine Ew_of (pc' := 291) (fun _ => x_bipush (z := 11) rfl (by decide)) ?_
                refine w_stat24 rfl rfl (by rfl) (M356 H (show inrJ (z122) by omega) (show inr (11) by omega) (fun z127 σ F123 A124 H hS125 hA126 pz127_0 => ⟨rfl, ?_⟩))
                refine Ew_of (pc' := 296) (fun _ => x_lload rfl l266_4) ?_
                refine w_stat24 rfl rfl (by rfl) (M357 H (show inrJ (z127) by omega) (show inrJ (2654435761) by omega) (fun z132 σ F128 A129 H hS130 hA131 pz132_0 => ⟨rfl, ?_⟩))
                refine Ew_of (pc' := 301) (fun _ => x_lstore rfl) ?_
                refine Ew_of (pc' := 304) (fun _ => x_iinc (len := 3) rfl (rk2_o (l266_15) rfl rfl)) ?_
                refine Ew_of (pc' := 266) (fun _ => x_goto rfl rfl) ?_
                exact ih266 _ (by omega) _ σ _ _ ((x266_15 + 1)) (z132) (rk_o (rk2_o (l266_1) rfl rfl) rfl rfl) (rk_o (rk2_o (l266_3) rfl rfl) rfl rfl) (rk_o (rk2_o (l266_4) rfl rfl) rfl rfl) (rk_o (rk2_o (l266_6) rfl rfl) rfl rfl) (rk_o (rk2_o (l266_8) rfl rfl) rfl rfl) (rk_o (rk2_o (l266_12) rfl rfl) rfl rfl) (rk_s) (rk_o (rk2_s) rfl rfl) H (SF_trans (SF_trans (SF_trans (hS_266) hS118 (any_sub rfl)) hS125 (any_sub rfl)) hS130 (any_sub rfl)) (SA_trans (SA_trans (SA_trans (hA_266) hA119 (any_subA rfl)) hA126 (any_subA rfl)) hA131 (any_subA rfl))   (show inr ((x266_15 + 1)) by omega) (show inrJ (z132) by omega) (show (x222_15) ≤ ((x266_15 + 1)) by omega) (show ((x266_15 + 1)) ≤ (x222_15) ∨ ((x266_15 + 1)) ≤ ((a3)) by omega) rfl
          · refine Ew_of (pc' := 232) (fun _ => x_lload rfl l222_16) ?_
            refine Ew_of (pc' := 233) (fun _ => x_aload_n rfl l222_1) ?_
            refine Ew_of (pc' := 235) (fun _ => x_iload rfl l222_15) ?_
            refine w_stat24 rfl rfl (by rfl) (M358_20 H (show inr (x222_15) by omega) (show 0 ≤ (x222_15) ∧ (x222_15) + 3 < 70000 by omega) (fun z137 σ F133 A134 H hS135 hA136 pz137_0 => ⟨rfl, ?_⟩))
            refine Ew_of (pc' := 240) (fun _ => x_lload rfl l222_8) ?_
            refine w_stat24 rfl rfl (by rfl) (M357 H (show inrJ (z137) by omega) (show inrJ (3266489917) by omega) (fun z142 σ F138 A139 H hS140 hA141 pz142_0 => ⟨rfl, ?_⟩))
            refine w_laddA rfl (fun z143 gz143 => ?_)
            refine Ew_of (pc' := 247) (fun _ => x_ldc2 (z := 4294967295) rfl (by decide)) ?_
            refine w_land rfl (show inrJ (z143) by omega) (show inrJ (4294967295) by omega) (fun z144 gz144 gaz144 gbz144 => ?_)
            refine Ew_of (pc' := 250) (fun _ => x_bipush (z := 17) rfl (by decide)) ?_
            refine w_stat24 rfl rfl (by rfl) (M356 H (show inrJ (z144) by omega) (show inr (17) by omega) (fun z149 σ F145 A146 H hS147 hA148 pz149_0 => ⟨rfl, ?_⟩))
            refine Ew_of (pc' := 255) (fun _ => x_lload rfl l222_10) ?_
            refine w_stat24 rfl rfl (by rfl) (M357 H (show inrJ (z149) by omega) (show inrJ (668265263) by omega) (fun z154 σ F150 A151 H hS152 hA153 pz154_0 => ⟨rfl, ?_⟩))
            refine Ew_of (pc' := 260) (fun _ => x_lstore rfl) ?_
            refine Ew_of (pc' := 263) (fun _ => x_iinc (len := 3) rfl (rk2_o (l222_15) rfl rfl)) ?_
            refine Ew_of (pc' := 222) (fun _ => x_goto rfl rfl) ?_
            exact ih222 _ (by omega) _ σ _ _ ((x222_15 + 4)) (z154) (rk_o (rk2_o (l222_1) rfl rfl) rfl rfl) (rk_o (rk2_o (l222_3) rfl rfl) rfl rfl) (rk_o (rk2_o (l222_4) rfl rfl) rfl rfl) (rk_o (rk2_o (l222_6) rfl rfl) rfl rfl) (rk_o (rk2_o (l222_8) rfl rfl) rfl rfl) (rk_o (rk2_o (l222_10) rfl rfl) rfl rfl) (rk_o (rk2_o (l222_12) rfl rfl) rfl rfl) (rk_s) (rk_o (rk2_s) rfl rfl) H (SF_trans (SF_trans (SF_trans (SF_trans (hS_222) hS135 (any_sub rfl)) hS140 (any_sub rfl)) hS147 (any_sub rfl)) hS152 (any_sub rfl)) (SA_trans (SA_trans (SA_trans (SA_trans (hA_222) hA136 (any_subA rfl)) hA141 (any_subA rfl)) hA148 (any_subA rfl)) hA153 (any_subA rfl))   (show inr ((x222_15 + 4)) by omega) (show inrJ (z154) by omega) (show (a2) ≤ ((x222_15 + 4)) ∧ ((x222_15 + 4)) ≤ (a3) by omega) rfl
      · refine Ew_of (pc' := 98) (fun _ => x_iconst rfl) ?_
        refine Ew_of (pc' := 100) (fun _ => x_istore rfl) ?_
        suffices hl100 : ∀ (m : Nat), ∀ (ls : rO) (σ : rS) (F_100 : hF) (A_100 : hA) (x100_15 : Int) (x100_18 : Int), rlook ls 0 = some (.ref (D 3)) → rlook ls 1 = some (.ref (D 20)) → rlook ls 3 = some (I (a3)) → rlook ls 4 = some (J (2654435761)) → rlook ls 6 = some (J (2246822519)) → rlook ls 8 = some (J (3266489917)) → rlook ls 10 = some (J (668265263)) → rlook ls 12 = some (J (374761393)) → rlook ls 14 = some (I ((a3 - a2))) → rlook ls 15 = some (I (x100_15)) → rlook ls 18 = some (I (x100_18)) → HS σ0 σ D N F_100 A_100 → SF [] F_88 F_100 → SA [17] A_88 A_100 → (inr (x100_15)) → (inr (x100_18)) → ((0) ≤ (x100_18)) → ((x100_18) ≤ (0) ∨ (x100_18) ≤ (4)) → ((x100_15) = (x88_15) + 4 * (x100_18)) → ((4) - (x100_18)).toNat = m → Ew 359 (d + 1) 100 ls [] σ c s Q from
          hl100 _ _ σ _ _ (x88_15) (0) (rk_o (l88_0) rfl rfl) (rk_o (l88_1) rfl rfl) (rk_o (l88_3) rfl rfl) (rk_o (l88_4) rfl rfl) (rk_o (l88_6) rfl rfl) (rk_o (l88_8) rfl rfl) (rk_o (l88_10) rfl rfl) (rk_o (l88_12) rfl rfl) (rk_o (l88_14) rfl rfl) (rk_o (l88_15) rfl rfl) (rk_s) H (SF_refl) (SA_refl)   (show inr (x88_15) by omega) (show inr (0) by omega) (show (0) ≤ (0) by omega) (show (0) ≤ (0) ∨ (0) ≤ (4) by omega) (show (x88_15) = (x88_15) + 4 * (0) by omega) rfl
        as_aux_lemma =>
        intro m
        induction m using Nat.strongRecOn with
        | _ m ih100 =>
          intro ls σ F_100 A_100 x100_15 x100_18 l100_0 l100_1 l100_3 l100_4 l100_6 l100_8 l100_10 l100_12 l100_14 l100_15 l100_18 H hS_100 hA_100   j100_0 j100_1 j100_2 j100_3 j100_4 hm100
          refine Ew_of (pc' := 102) (fun _ => x_iload rfl l100_18) ?_
          refine Ew_of (pc' := 103) (fun _ => x_iconst rfl) ?_
          refine w_icmpge (t := 155) rfl rfl (show inr (x100_18) by omega) (show inr (4) by omega) (fun b155 => ?_) (fun b155 => ?_)
          · refine Ew_of (pc' := 88) (fun _ => x_goto rfl rfl) ?_
            exact ih88 _ (by omega) _ σ _ _ (x100_15) (l100_0) (l100_1) (l100_3) (l100_4) (l100_6) (l100_8) (l100_10) (l100_12) (l100_14) (l100_15) H (SF_trans (hS_88) hS_100 (any_sub rfl)) (SA_trans (hA_88) hA_100 (any_subA rfl))   (show inr (x100_15) by omega) (show (a2) ≤ (x100_15) ∧ (x100_15) ≤ (a3) by omega) rfl
          · refine Ew_of (pc' := 107) (fun _ => x_aload_n rfl l100_0) ?_
            refine w_gT H (o := 3) (t := 17) rfl (H.perm 3 rfl) rfl rfl rfl rfl rfl rfl ?_
            refine Ew_of (pc' := 112) (fun _ => x_iload rfl l100_18) ?_
            refine Ew_of (pc' := 113) (fun _ => x_aload_n rfl l100_0) ?_
            refine w_gT H (o := 3) (t := 17) rfl (H.perm 3 rfl) rfl rfl rfl rfl rfl rfl ?_
            refine Ew_of (pc' := 118) (fun _ => x_iload rfl l100_18) ?_
            refine w_lJ H (o := 17) (n := 4) rfl (H.perm 17 rfl) rfl rfl (H.fix 17 rfl rfl) (show 0 ≤ x100_18 ∧ x100_18 < ((4 : Nat) : Int) by omega) (by decide) (fun v156 ev156 qv156 => ?_)
            have qv156 : (-9223372036854775808 : Int) ≤ v156 ∧ v156 ≤ 9223372036854775807 := qv156
            have ev156 : (A_100 17) (x100_18) = v156 := (congrFun (rfl : A_100 17 = A_100 17) (x100_18)).symm.trans ev156
            refine Ew_of (pc' := 120) (fun _ => x_aload_n rfl l100_1) ?_
            refine Ew_of (pc' := 122) (fun _ => x_iload rfl l100_15) ?_
            refine w_stat24 rfl rfl (by rfl) (M358_20 H (show inr (x100_15) by omega) (show 0 ≤ (x100_15) ∧ (x100_15) + 3 < 70000 by omega) (fun z161 σ F157 A158 H hS159 hA160 pz161_0 => ⟨rfl, ?_⟩))
            refine Ew_of (pc' := 127) (fun _ => x_lload rfl l100_6) ?_
            refine w_stat24 rfl rfl (by rfl) (M357 H (show inrJ (z161) by omega) (show inrJ (2246822519) by omega) (fun z166 σ F162 A163 H hS164 hA165 pz166_0 => ⟨rfl, ?_⟩))
            refine w_laddA rfl (fun z167 gz167 => ?_)
            refine Ew_of (pc' := 134) (fun _ => x_ldc2 (z := 4294967295) rfl (by decide)) ?_
            refine w_land rfl (show inrJ (z167) by omega) (show inrJ (4294967295) by omega) (fun z168 gz168 gaz168 gbz168 => ?_)
            refine Ew_of (pc' := 137) (fun _ => x_bipush (z := 13) rfl (by decide)) ?_
            refine w_stat24 rfl rfl (by rfl) (M356 H (show inrJ (z168) by omega) (show inr (13) by omega) (fun z173 σ F169 A170 H hS171 hA172 pz173_0 => ⟨rfl, ?_⟩))
            refine Ew_of (pc' := 142) (fun _ => x_lload rfl l100_4) ?_
            refine w_stat24 rfl rfl (by rfl) (M357 H (show inrJ (z173) by omega) (show inrJ (2654435761) by omega) (fun z178 σ F174 A175 H hS176 hA177 pz178_0 => ⟨rfl, ?_⟩))
            refine w_sJ H (o := 17) (n := 4) rfl (H.perm 17 rfl) rfl rfl (H.fix 17 rfl rfl) (show 0 ≤ x100_18 ∧ x100_18 < ((4 : Nat) : Int) by omega) (by decide) (show (-9223372036854775808 : Int) ≤ z178 ∧ z178 ≤ 9223372036854775807 by omega) (fun σ H => ?_)
            refine Ew_of (pc' := 149) (fun _ => x_iinc (len := 3) rfl (l100_15)) ?_
            refine Ew_of (pc' := 152) (fun _ => x_iinc (len := 3) rfl (rk_o (l100_18) rfl rfl)) ?_
            refine Ew_of (pc' := 100) (fun _ => x_goto rfl rfl) ?_
            exact ih100 _ (by omega) _ σ _ _ ((x100_15 + 4)) ((x100_18 + 1)) (rk_o (rk_o (l100_0) rfl rfl) rfl rfl) (rk_o (rk_o (l100_1) rfl rfl) rfl rfl) (rk_o (rk_o (l100_3) rfl rfl) rfl rfl) (rk_o (rk_o (l100_4) rfl rfl) rfl rfl) (rk_o (rk_o (l100_6) rfl rfl) rfl rfl) (rk_o (rk_o (l100_8) rfl rfl) rfl rfl) (rk_o (rk_o (l100_10) rfl rfl) rfl rfl) (rk_o (rk_o (l100_12) rfl rfl) rfl rfl) (rk_o (rk_o (l100_14) rfl rfl) rfl rfl) (rk_o (rk_s) rfl rfl) (rk_s) H (SF_trans (SF_trans (SF_trans (SF_trans (hS_100) hS159 (any_sub rfl)) hS164 (any_sub rfl)) hS171 (any_sub rfl)) hS176 (any_sub rfl)) (SA_upd (SA_trans (SA_trans (SA_trans (SA_trans (hA_100) hA160 (any_subA rfl)) hA165 (any_subA rfl)) hA172 (any_subA rfl)) hA177 (any_subA rfl)) rfl)   (show inr ((x100_15 + 4)) by omega) (show inr ((x100_18 + 1)) by omega) (show (0) ≤ ((x100_18 + 1)) by omega) (show ((x100_18 + 1)) ≤ (0) ∨ ((x100_18 + 1)) ≤ (4) by omega) (show ((x100_15 + 4)) = (x88_15) + 4 * ((x100_18 + 1)) by omega) rfl
/-- Tokens.sumOf -/
theorem M359_14 {σ0 σ : rS} {D N : Nat → Nat} {F : hF} {A : hA} {d c s : Nat} {Q : wQ} (H : HS σ0 σ D N F A) {a2 a3 : Int} (h0 : inr (a2)) (h1 : inr (a3)) (h2 : 0 ≤ (a2) ∧ (a2) ≤ (a3) ∧ (a3) ≤ 65536) (k : ∀ (z : Int) σ F' A', HS σ0 σ D N F' A' → SF [] F F' → SA [17] A A' → (inrJ (z)) → Q (some (J z)) σ c s) : Ew 359 (d + 1) 0 (rargs 0 [.ref (D 3), .ref (D 14), I a2, I a3]) [] σ c s Q := by
  refine Ew_of (pc' := 3) (fun _ => x_ldc2 (z := 2654435761) rfl (by decide)) ?_
  refine Ew_of (pc' := 5) (fun _ => x_lstore rfl) ?_
  refine Ew_of (pc' := 8) (fun _ => x_ldc2 (z := 2246822519) rfl (by decide)) ?_
  refine Ew_of (pc' := 10) (fun _ => x_lstore rfl) ?_
  refine Ew_of (pc' := 13) (fun _ => x_ldc2 (z := 3266489917) rfl (by decide)) ?_
  refine Ew_of (pc' := 15) (fun _ => x_lstore rfl) ?_
  refine Ew_of (pc' := 18) (fun _ => x_ldc2 (z := 668265263) rfl (by decide)) ?_
  refine Ew_of (pc' := 20) (fun _ => x_lstore rfl) ?_
  refine Ew_of (pc' := 23) (fun _ => x_ldc2 (z := 374761393) rfl (by decide)) ?_
  refine Ew_of (pc' := 25) (fun _ => x_lstore rfl) ?_
  refine Ew_of (pc' := 26) (fun _ => x_iload_n rfl (rk2_o (rk2_o (rk2_o (rk2_o (rk2_o (rfl) rfl rfl) rfl rfl) rfl rfl) rfl rfl) rfl rfl)) ?_
  refine Ew_of (pc' := 27) (fun _ => x_iload_n rfl (rk2_o (rk2_o (rk2_o (rk2_o (rk2_o (rfl) rfl rfl) rfl rfl) rfl rfl) rfl rfl) rfl rfl)) ?_
  refine w_isub rfl ?_
  refine Ew_of (pc' := 30) (fun _ => x_istore rfl) ?_
  refine Ew_of (pc' := 31) (fun _ => x_iload_n rfl (rk_o (rk2_o (rk2_o (rk2_o (rk2_o (rk2_o (rfl) rfl rfl) rfl rfl) rfl rfl) rfl rfl) rfl rfl) rfl rfl)) ?_
  refine Ew_of (pc' := 33) (fun _ => x_istore rfl) ?_
  refine Ew_of (pc' := 35) (fun _ => x_lload rfl (rk_o (rk_o (rk2_s) rfl rfl) rfl rfl)) ?_
  refine Ew_of (pc' := 37) (fun _ => x_lstore rfl) ?_
  refine Ew_of (pc' := 39) (fun _ => x_iload rfl (rk2_o (rk_o (rk_s) rfl rfl) rfl rfl)) ?_
  refine Ew_of (pc' := 41) (fun _ => x_bipush (z := 16) rfl (by decide)) ?_
  refine w_icmplt (t := 210) rfl rfl (show inr ((a3 - a2)) by omega) (show inr (16) by omega) (fun b1 => ?_) (fun b1 => ?_)
  · refine Ew_of (pc' := 212) (fun _ => x_lload rfl rk2_s) ?_
    refine Ew_of (pc' := 214) (fun _ => x_iload rfl (rk2_o (rk_o (rk_s) rfl rfl) rfl rfl)) ?_
    refine w_i2l rfl (show inr ((a3 - a2)) by omega) ?_
    refine w_laddA rfl (fun z2 gz2 => ?_)
    refine Ew_of (pc' := 219) (fun _ => x_ldc2 (z := 4294967295) rfl (by decide)) ?_
    refine w_land rfl (show inrJ (z2) by omega) (show inrJ (4294967295) by omega) (fun z3 gz3 gaz3 gbz3 => ?_)
    refine Ew_of (pc' := 222) (fun _ => x_lstore rfl) ?_
    suffices hl222 : ∀ (m : Nat), ∀ (ls : rO) (σ : rS) (F_222 : hF) (A_222 : hA) (x222_15 : Int) (x222_16 : Int), rlook ls 1 = some (.ref (D 14)) → rlook ls 3 = some (I (a3)) → rlook ls 4 = some (J (2654435761)) → rlook ls 6 = some (J (2246822519)) → rlook ls 8 = some (J (3266489917)) → rlook ls 10 = some (J (668265263)) → rlook ls 12 = some (J (374761393)) → rlook ls 15 = some (I (x222_15)) → rlook ls 16 = some (J (x222_16)) → HS σ0 σ D N F_222 A_222 → SF [] F F_222 → SA [] A A_222 → (inr (x222_15)) → (inrJ (x222_16)) → ((a2) ≤ (x222_15) ∧ (x222_15) ≤ (a3)) → ((a3) - (x222_15)).toNat = m → Ew 359 (d + 1) 222 ls [] σ c s Q from
      hl222 _ _ σ _ _ (a2) (z3) (rk2_o (rk2_o (rk_o (rk_o (rk2_o (rk2_o (rk2_o (rk2_o (rk2_o (rfl) rfl rfl) rfl rfl) rfl rfl) rfl rfl) rfl rfl) rfl rfl) rfl rfl) rfl rfl) rfl rfl) (rk2_o (rk2_o (rk_o (rk_o (rk2_o (rk2_o (rk2_o (rk2_o (rk2_o (rfl) rfl rfl) rfl rfl) rfl rfl) rfl rfl) rfl rfl) rfl rfl) rfl rfl) rfl rfl) rfl rfl) (rk2_o (rk2_o (rk_o (rk_o (rk2_o (rk2_o (rk2_o (rk2_o (rk2_s) rfl rfl) rfl rfl) rfl rfl) rfl rfl) rfl rfl) rfl rfl) rfl rfl) rfl rfl) (rk2_o (rk2_o (rk_o (rk_o (rk2_o (rk2_o (rk2_o (rk2_s) rfl rfl) rfl rfl) rfl rfl) rfl rfl) rfl rfl) rfl rfl) rfl rfl) (rk2_o (rk2_o (rk_o (rk_o (rk2_o (rk2_o (rk2_s) rfl rfl) rfl rfl) rfl rfl) rfl rfl) rfl rfl) rfl rfl) (rk2_o (rk2_o (rk_o (rk_o (rk2_o (rk2_s) rfl rfl) rfl rfl) rfl rfl) rfl rfl) rfl rfl) (rk2_o (rk2_o (rk_o (rk_o (rk2_s) rfl rfl) rfl rfl) rfl rfl) rfl rfl) (rk2_o (rk2_o (rk_s) rfl rfl) rfl rfl) (rk2_s) H (SF_refl) (SA_refl)   (show inr (a2) by omega) (show inrJ (z3) by omega) (show (a2) ≤ (a2) ∧ (a2) ≤ (a3) by omega) rfl
    as_aux_lemma =>
    intro m
    induction m using Nat.strongRecOn with
    | _ m ih222 =>
      intro ls σ F_222 A_222 x222_15 x222_16 l222_1 l222_3 l222_4 l222_6 l222_8 l222_10 l222_12 l222_15 l222_16 H hS_222 hA_222   j222_0 j222_1 j222_2 hm222
      refine Ew_of (pc' := 223) (fun _ => x_iload_n rfl l222_3) ?_
      refine Ew_of (pc' := 225) (fun _ => x_iload rfl l222_15) ?_
      refine w_isub rfl ?_
      refine Ew_of (pc' := 227) (fun _ => x_iconst rfl) ?_
      refine w_icmplt (t := 266) rfl rfl (show inr ((a3 - x222_15)) by omega) (show inr (4) by omega) (fun b4 => ?_) (fun b4 => ?_)
      · suffices hl266 : ∀ (m : Nat), ∀ (ls : rO) (σ : rS) (F_266 : hF) (A_266 : hA) (x266_15 : Int) (x266_16 : Int), rlook ls 1 = some (.ref (D 14)) → rlook ls 3 = some (I (a3)) → rlook ls 4 = some (J (2654435761)) → rlook ls 6 = some (J (2246822519)) → rlook ls 8 = some (J (3266489917)) → rlook ls 12 = some (J (374761393)) → rlook ls 15 = some (I (x266_15)) → rlook ls 16 = some (J (x266_16)) → HS σ0 σ D N F_266 A_266 → SF [] F_222 F_266 → SA [] A_222 A_266 → (inr (x266_15)) → (inrJ (x266_16)) → ((x222_15) ≤ (x266_15)) → ((x266_15) ≤ (x222_15) ∨ (x266_15) ≤ ((a3))) → (((a3)) - (x266_15)).toNat = m → Ew 359 (d + 1) 266 ls [] σ c s Q from
          hl266 _ _ σ _ _ (x222_15) (x222_16) (l222_1) (l222_3) (l222_4) (l222_6) (l222_8) (l222_12) (l222_15) (l222_16) H (SF_refl) (SA_refl)   (show inr (x222_15) by omega) (show inrJ (x222_16) by omega) (show (x222_15) ≤ (x222_15) by omega) (show (x222_15) ≤ (x222_15) ∨ (x222_15) ≤ ((a3)) by omega) rfl
        as_aux_lemma =>
        intro m
        induction m using Nat.strongRecOn with
        | _ m ih266 =>
          intro ls σ F_266 A_266 x266_15 x266_16 l266_1 l266_3 l266_4 l266_6 l266_8 l266_12 l266_15 l266_16 H hS_266 hA_266   j266_0 j266_1 j266_2 j266_3 hm266
          refine Ew_of (pc' := 268) (fun _ => x_iload rfl l266_15) ?_
          refine Ew_of (pc' := 269) (fun _ => x_iload_n rfl l266_3) ?_
          refine w_icmpge (t := 307) rfl rfl (show inr (x266_15) by omega) (show inr (a3) by omega) (fun b5 => ?_) (fun b5 => ?_)
          · refine Ew_of (pc' := 309) (fun _ => x_lload rfl l266_16) ?_
            refine Ew_of (pc' := 311) (fun _ => x_lload rfl l266_16) ?_
            refine Ew_of (pc' := 313) (fun _ => x_bipush (z := 15) rfl (by decide)) ?_
            refine w_lshrA rfl (fun z6 gz6 => ?_)
            refine w_lxorA rfl (fun z7 gz7 => ?_)
            refine Ew_of (pc' := 317) (fun _ => x_lload rfl l266_6) ?_
            refine w_stat24 rfl rfl (by rfl) (M357 H (show inrJ (z7) by omega) (show inrJ (2246822519) by omega) (fun z12 σ F8 A9 H hS10 hA11 pz12_0 => ⟨rfl, ?_⟩))
            refine Ew_of (pc' := 322) (fun _ => x_lstore rfl) ?_
            refine Ew_of (pc' := 324) (fun _ => x_lload rfl rk2_s) ?_
            refine Ew_of (pc' := 326) (fun _ => x_lload rfl rk2_s) ?_
            refine Ew_of (pc' := 328) (fun _ => x_bipush (z := 13) rfl (by decide)) ?_
            refine w_lshrA rfl (fun z13 gz13 => ?_)
            refine w_lxorA rfl (fun z14 gz14 => ?_)
            refine Ew_of (pc' := 332) (fun _ => x_lload rfl (rk2_o (l266_8) rfl rfl)) ?_
            refine w_stat24 rfl rfl (by rfl) (M357 H (show inrJ (z14) by omega) (show inrJ (3266489917) by omega) (fun z19 σ F15 A16 H hS17 hA18 pz19_0 => ⟨rfl, ?_⟩))
            refine Ew_of (pc' := 337) (fun _ => x_lstore rfl) ?_
            refine Ew_of (pc' := 339) (fun _ => x_lload rfl rk2_s) ?_
            refine Ew_of (pc' := 341) (fun _ => x_lload rfl rk2_s) ?_
            refine Ew_of (pc' := 343) (fun _ => x_bipush (z := 16) rfl (by decide)) ?_
            refine w_lshrA rfl (fun z20 gz20 => ?_)
            refine w_lxorA rfl (fun z21 gz21 => ?_)
            exact w_lreturn rfl (k (z21) σ _ _ H (SF_trans (SF_trans (SF_trans (SF_trans (SF_refl) hS_222 (any_sub rfl)) hS_266 (any_sub rfl)) hS10 (any_sub rfl)) hS17 (any_sub rfl)) (SA_trans (SA_trans (SA_trans (SA_trans (SA_refl) hA_222 (any_subA rfl)) hA_266 (any_subA rfl)) hA11 (any_subA rfl)) hA18 (any_subA rfl)) (show inrJ (z21) by omega))
          · refine Ew_of (pc' := 274) (fun _ => x_lload rfl l266_16) ?_
            refine Ew_of (pc' := 275) (fun _ => x_aload_n rfl l266_1) ?_
            refine Ew_of (pc' := 277) (fun _ => x_iload rfl l266_15) ?_
            refine w_lI H (o := 14) (n := 65536) rfl (H.perm 14 rfl) rfl rfl (H.fix 14 rfl rfl) (show 0 ≤ x266_15 ∧ x266_15 < ((65536 : Nat) : Int) by omega) (by decide) (fun v22 ev22 qv22 => ?_)
            have qv22 : (0 : Int) ≤ v22 ∧ v22 ≤ 255 := qv22
            have ev22 : (A 14) (x266_15) = v22 := (congrFun ((funext (hA_266 14 rfl)).trans (funext (hA_222 14 rfl))) (x266_15)).symm.trans ev22
            refine w_i2l rfl (show inr (v22) by omega) ?_
            refine Ew_of (pc' := 281) (fun _ => x_lload rfl l266_12) ?_
            refine w_stat24 rfl rfl (by rfl) (M357 H (show inrJ (v22) by omega) (show inrJ (374761393) by omega) (fun z27 σ F23 A24 H hS25 hA26 pz27_0 => ⟨rfl, ?_⟩))
            refine w_laddA rfl (fun z28 gz28 => ?_)
            refine Ew_of (pc' := 288) (fun _ => x_ldc2 (z := 4294967295) rfl (by decide)) ?_
            refine w_land rfl (show inrJ (z28) by omega) (show inrJ (4294967295) by omega) (fun z29 gz29 gaz29 gbz29 => ?_)
            refine Ew_of (pc' := 291) (fun _ => x_bipush (z := 11) rfl (by decide)) ?_
            refine w_stat24 rfl rfl (by rfl) (M356 H (show inrJ (z29) by omega) (show inr (11) by omega) (fun z34 σ F30 A31 H hS32 hA33 pz34_0 => ⟨rfl, ?_⟩))
            refine Ew_of (pc' := 296) (fun _ => x_lload rfl l266_4) ?_
            refine w_stat24 rfl rfl (by rfl) (M357 H (show inrJ (z34) by omega) (show inrJ (2654435761) by omega) (fun z39 σ F35 A36 H hS37 hA38 pz39_0 => ⟨rfl, ?_⟩))
            refine Ew_of (pc' := 301) (fun _ => x_lstore rfl) ?_
            refine Ew_of (pc' := 304) (fun _ => x_iinc (len := 3) rfl (rk2_o (l266_15) rfl rfl)) ?_
            refine Ew_of (pc' := 266) (fun _ => x_goto rfl rfl) ?_
            exact ih266 _ (by omega) _ σ _ _ ((x266_15 + 1)) (z39) (rk_o (rk2_o (l266_1) rfl rfl) rfl rfl) (rk_o (rk2_o (l266_3) rfl rfl) rfl rfl) (rk_o (rk2_o (l266_4) rfl rfl) rfl rfl) (rk_o (rk2_o (l266_6) rfl rfl) rfl rfl) (rk_o (rk2_o (l266_8) rfl rfl) rfl rfl) (rk_o (rk2_o (l266_12) rfl rfl) rfl rfl) (rk_s) (rk_o (rk2_s) rfl rfl) H (SF_trans (SF_trans (SF_trans (hS_266) hS25 (any_sub rfl)) hS32 (any_sub rfl)) hS37 (any_sub rfl)) (SA_trans (SA_trans (SA_trans (hA_266) hA26 (any_subA rfl)) hA33 (any_subA rfl)) hA38 (any_subA rfl))   (show inr ((x266_15 + 1)) by omega) (show inrJ (z39) by omega) (show (x222_15) ≤ ((x266_15 + 1)) by omega) (show ((x266_15 + 1)) ≤ (x222_15) ∨ ((x266_15 + 1)) ≤ ((a3)) by omega) rfl
      · refine Ew_of (pc' := 232) (fun _ => x_lload rfl l222_16) ?_
        refine Ew_of (pc' := 233) (fun _ => x_aload_n rfl l222_1) ?_
        refine Ew_of (pc' := 235) (fun _ => x_iload rfl l222_15) ?_
        refine w_stat24 rfl rfl (by rfl) (M358_14 H (show inr (x222_15) by omega) (show 0 ≤ (x222_15) ∧ (x222_15) + 3 < 65536 by omega) (fun z44 σ F40 A41 H hS42 hA43 pz44_0 => ⟨rfl, ?_⟩))
        refine Ew_of (pc' := 240) (fun _ => x_lload rfl l222_8) ?_
        refine w_stat24 rfl rfl (by rfl) (M357 H (show inrJ (z44) by omega) (show inrJ (3266489917) by omega) (fun z49 σ F45 A46 H hS47 hA48 pz49_0 => ⟨rfl, ?_⟩))
        refine w_laddA rfl (fun z50 gz50 => ?_)
        refine Ew_of (pc' := 247) (fun _ => x_ldc2 (z := 4294967295) rfl (by decide)) ?_
        refine w_land rfl (show inrJ (z50) by omega) (show inrJ (4294967295) by omega) (fun z51 gz51 gaz51 gbz51 => ?_)
        refine Ew_of (pc' := 250) (fun _ => x_bipush (z := 17) rfl (by decide)) ?_
        refine w_stat24 rfl rfl (by rfl) (M356 H (show inrJ (z51) by omega) (show inr (17) by omega) (fun z56 σ F52 A53 H hS54 hA55 pz56_0 => ⟨rfl, ?_⟩))
        refine Ew_of (pc' := 255) (fun _ => x_lload rfl l222_10) ?_
        refine w_stat24 rfl rfl (by rfl) (M357 H (show inrJ (z56) by omega) (show inrJ (668265263) by omega) (fun z61 σ F57 A58 H hS59 hA60 pz61_0 => ⟨rfl, ?_⟩))
        refine Ew_of (pc' := 260) (fun _ => x_lstore rfl) ?_
        refine Ew_of (pc' := 263) (fun _ => x_iinc (len := 3) rfl (rk2_o (l222_15) rfl rfl)) ?_
        refine Ew_of (pc' := 222) (fun _ => x_goto rfl rfl) ?_
        exact ih222 _ (by omega) _ σ _ _ ((x222_15 + 4)) (z61) (rk_o (rk2_o (l222_1) rfl rfl) rfl rfl) (rk_o (rk2_o (l222_3) rfl rfl) rfl rfl) (rk_o (rk2_o (l222_4) rfl rfl) rfl rfl) (rk_o (rk2_o (l222_6) rfl rfl) rfl rfl) (rk_o (rk2_o (l222_8) rfl rfl) rfl rfl) (rk_o (rk2_o (l222_10) rfl rfl) rfl rfl) (rk_o (rk2_o (l222_12) rfl rfl) rfl rfl) (rk_s) (rk_o (rk2_s) rfl rfl) H (SF_trans (SF_trans (SF_trans (SF_trans (hS_222) hS42 (any_sub rfl)) hS47 (any_sub rfl)) hS54 (any_sub rfl)) hS59 (any_sub rfl)) (SA_trans (SA_trans (SA_trans (SA_trans (hA_222) hA43 (any_subA rfl)) hA48 (any_subA rfl)) hA55 (any_subA rfl)) hA60 (any_subA rfl))   (show inr ((x222_15 + 4)) by omega) (show inrJ (z61) by omega) (show (a2) ≤ ((x222_15 + 4)) ∧ ((x222_15 + 4)) ≤ (a3) by omega) rfl
  · refine Ew_of (pc' := 45) (fun _ => x_aload_n rfl (rk2_o (rk_o (rk_o (rk2_o (rk2_o (rk2_o (rk2_o (rk2_o (rfl) rfl rfl) rfl rfl) rfl rfl) rfl rfl) rfl rfl) rfl rfl) rfl rfl) rfl rfl)) ?_
    refine w_gT H (o := 3) (t := 17) rfl (H.perm 3 rfl) rfl rfl rfl rfl rfl rfl ?_
    refine Ew_of (pc' := 49) (fun _ => x_iconst rfl) ?_
    refine Ew_of (pc' := 51) (fun _ => x_lload rfl (rk2_o (rk_o (rk_o (rk2_o (rk2_o (rk2_o (rk2_o (rk2_s) rfl rfl) rfl rfl) rfl rfl) rfl rfl) rfl rfl) rfl rfl) rfl rfl)) ?_
    refine Ew_of (pc' := 53) (fun _ => x_lload rfl (rk2_o (rk_o (rk_o (rk2_o (rk2_o (rk2_o (rk2_s) rfl rfl) rfl rfl) rfl rfl) rfl rfl) rfl rfl) rfl rfl)) ?_
    refine w_laddA rfl (fun z62 gz62 => ?_)
    refine Ew_of (pc' := 57) (fun _ => x_ldc2 (z := 4294967295) rfl (by decide)) ?_
    refine w_land rfl (show inrJ (z62) by omega) (show inrJ (4294967295) by omega) (fun z63 gz63 gaz63 gbz63 => ?_)
    refine w_sJ H (o := 17) (n := 4) rfl (H.perm 17 rfl) rfl rfl (H.fix 17 rfl rfl) (show 0 ≤ 0 ∧ 0 < ((4 : Nat) : Int) by omega) (by decide) (show (-9223372036854775808 : Int) ≤ z63 ∧ z63 ≤ 9223372036854775807 by omega) (fun σ H => ?_)
    refine Ew_of (pc' := 60) (fun _ => x_aload_n rfl (rk2_o (rk_o (rk_o (rk2_o (rk2_o (rk2_o (rk2_o (rk2_o (rfl) rfl rfl) rfl rfl) rfl rfl) rfl rfl) rfl rfl) rfl rfl) rfl rfl) rfl rfl)) ?_
    refine w_gT H (o := 3) (t := 17) rfl (H.perm 3 rfl) rfl rfl rfl rfl rfl rfl ?_
    refine Ew_of (pc' := 64) (fun _ => x_iconst rfl) ?_
    refine Ew_of (pc' := 66) (fun _ => x_lload rfl (rk2_o (rk_o (rk_o (rk2_o (rk2_o (rk2_o (rk2_s) rfl rfl) rfl rfl) rfl rfl) rfl rfl) rfl rfl) rfl rfl)) ?_
    refine w_sJ H (o := 17) (n := 4) rfl (H.perm 17 rfl) rfl rfl (H.fix 17 rfl rfl) (show 0 ≤ 1 ∧ 1 < ((4 : Nat) : Int) by omega) (by decide) (show (-9223372036854775808 : Int) ≤ 2246822519 ∧ 2246822519 ≤ 9223372036854775807 by omega) (fun σ H => ?_)
    refine Ew_of (pc' := 68) (fun _ => x_aload_n rfl (rk2_o (rk_o (rk_o (rk2_o (rk2_o (rk2_o (rk2_o (rk2_o (rfl) rfl rfl) rfl rfl) rfl rfl) rfl rfl) rfl rfl) rfl rfl) rfl rfl) rfl rfl)) ?_
    refine w_gT H (o := 3) (t := 17) rfl (H.perm 3 rfl) rfl rfl rfl rfl rfl rfl ?_
    refine Ew_of (pc' := 72) (fun _ => x_iconst rfl) ?_
    refine Ew_of (pc' := 73) (fun _ => x_lconst (z := 0) rfl (by decide)) ?_
    refine w_sJ H (o := 17) (n := 4) rfl (H.perm 17 rfl) rfl rfl (H.fix 17 rfl rfl) (show 0 ≤ 2 ∧ 2 < ((4 : Nat) : Int) by omega) (by decide) (show (-9223372036854775808 : Int) ≤ 0 ∧ 0 ≤ 9223372036854775807 by omega) (fun σ H => ?_)
    refine Ew_of (pc' := 75) (fun _ => x_aload_n rfl (rk2_o (rk_o (rk_o (rk2_o (rk2_o (rk2_o (rk2_o (rk2_o (rfl) rfl rfl) rfl rfl) rfl rfl) rfl rfl) rfl rfl) rfl rfl) rfl rfl) rfl rfl)) ?_
    refine w_gT H (o := 3) (t := 17) rfl (H.perm 3 rfl) rfl rfl rfl rfl rfl rfl ?_
    refine Ew_of (pc' := 79) (fun _ => x_iconst rfl) ?_
    refine Ew_of (pc' := 80) (fun _ => x_lconst (z := 0) rfl (by decide)) ?_
    refine Ew_of (pc' := 82) (fun _ => x_lload rfl (rk2_o (rk_o (rk_o (rk2_o (rk2_o (rk2_o (rk2_o (rk2_s) rfl rfl) rfl rfl) rfl rfl) rfl rfl) rfl rfl) rfl rfl) rfl rfl)) ?_
    refine w_lsubA rfl (fun z64 gz64 => ?_)
    refine Ew_of (pc' := 86) (fun _ => x_ldc2 (z := 4294967295) rfl (by decide)) ?_
    refine w_land rfl (show inrJ (z64) by omega) (show inrJ (4294967295) by omega) (fun z65 gz65 gaz65 gbz65 => ?_)
    refine w_sJ H (o := 17) (n := 4) rfl (H.perm 17 rfl) rfl rfl (H.fix 17 rfl rfl) (show 0 ≤ 3 ∧ 3 < ((4 : Nat) : Int) by omega) (by decide) (show (-9223372036854775808 : Int) ≤ z65 ∧ z65 ≤ 9223372036854775807 by omega) (fun σ H => ?_)
    suffices hl88 : ∀ (m : Nat), ∀ (ls : rO) (σ : rS) (F_88 : hF) (A_88 : hA) (x88_15 : Int), rlook ls 0 = some (.ref (D 3)) → rlook ls 1 = some (.ref (D 14)) → rlook ls 3 = some (I (a3)) → rlook ls 4 = some (J (2654435761)) → rlook ls 6 = some (J (2246822519)) → rlook ls 8 = some (J (3266489917)) → rlook ls 10 = some (J (668265263)) → rlook ls 12 = some (J (374761393)) → rlook ls 14 = some (I ((a3 - a2))) → rlook ls 15 = some (I (x88_15)) → HS σ0 σ D N F_88 A_88 → SF [] F F_88 → SA [17] (updA (updA (updA (updA A 17 (0) (z63)) 17 (1) (2246822519)) 17 (2) (0)) 17 (3) (z65)) A_88 → (inr (x88_15)) → ((a2) ≤ (x88_15) ∧ (x88_15) ≤ (a3)) → ((a3) - (x88_15)).toNat = m → Ew 359 (d + 1) 88 ls [] σ c s Q from
      hl88 _ _ σ _ _ (a2) (rk2_o (rk_o (rk_o (rk2_o (rk2_o (rk2_o (rk2_o (rk2_o (rfl) rfl rfl) rfl rfl) rfl rfl) rfl rfl) rfl rfl) rfl rfl) rfl rfl) rfl rfl) (rk2_o (rk_o (rk_o (rk2_o (rk2_o (rk2_o (rk2_o (rk2_o (rfl) rfl rfl) rfl rfl) rfl rfl) rfl rfl) rfl rfl) rfl rfl) rfl rfl) rfl rfl) (rk2_o (rk_o (rk_o (rk2_o (rk2_o (rk2_o (rk2_o (rk2_o (rfl) rfl rfl) rfl rfl) rfl rfl) rfl rfl) rfl rfl) rfl rfl) rfl rfl) rfl rfl) (rk2_o (rk_o (rk_o (rk2_o (rk2_o (rk2_o (rk2_o (rk2_s) rfl rfl) rfl rfl) rfl rfl) rfl rfl) rfl rfl) rfl rfl) rfl rfl) (rk2_o (rk_o (rk_o (rk2_o (rk2_o (rk2_o (rk2_s) rfl rfl) rfl rfl) rfl rfl) rfl rfl) rfl rfl) rfl rfl) (rk2_o (rk_o (rk_o (rk2_o (rk2_o (rk2_s) rfl rfl) rfl rfl) rfl rfl) rfl rfl) rfl rfl) (rk2_o (rk_o (rk_o (rk2_o (rk2_s) rfl rfl) rfl rfl) rfl rfl) rfl rfl) (rk2_o (rk_o (rk_o (rk2_s) rfl rfl) rfl rfl) rfl rfl) (rk2_o (rk_o (rk_s) rfl rfl) rfl rfl) (rk2_o (rk_s) rfl rfl) H (SF_refl) (SA_refl)   (show inr (a2) by omega) (show (a2) ≤ (a2) ∧ (a2) ≤ (a3) by omega) rfl
    as_aux_lemma =>
    intro m
    induction m using Nat.strongRecOn with
    | _ m ih88 =>
      intro ls σ F_88 A_88 x88_15 l88_0 l88_1 l88_3 l88_4 l88_6 l88_8 l88_10 l88_12 l88_14 l88_15 H hS_88 hA_88   j88_0 j88_1 hm88
      refine Ew_of (pc' := 89) (fun _ => x_iload_n rfl l88_3) ?_
      refine Ew_of (pc' := 91) (fun _ => x_iload rfl l88_15) ?_
      refine w_isub rfl ?_
      refine Ew_of (pc' := 94) (fun _ => x_bipush (z := 16) rfl (by decide)) ?_
      refine w_icmplt (t := 158) rfl rfl (show inr ((a3 - x88_15)) by omega) (show inr (16) by omega) (fun b66 => ?_) (fun b66 => ?_)
      · refine Ew_of (pc' := 159) (fun _ => x_aload_n rfl l88_0) ?_
        refine w_gT H (o := 3) (t := 17) rfl (H.perm 3 rfl) rfl rfl rfl rfl rfl rfl ?_
        refine Ew_of (pc' := 163) (fun _ => x_iconst rfl) ?_
        refine w_lJ H (o := 17) (n := 4) rfl (H.perm 17 rfl) rfl rfl (H.fix 17 rfl rfl) (show 0 ≤ 0 ∧ 0 < ((4 : Nat) : Int) by omega) (by decide) (fun v67 ev67 qv67 => ?_)
        have qv67 : (-9223372036854775808 : Int) ≤ v67 ∧ v67 ≤ 9223372036854775807 := qv67
        have ev67 : (A_88 17) (0) = v67 := (congrFun (rfl : A_88 17 = A_88 17) (0)).symm.trans ev67
        refine Ew_of (pc' := 165) (fun _ => x_iconst rfl) ?_
        refine w_stat24 rfl rfl (by rfl) (M356 H (show inrJ (v67) by omega) (show inr (1) by omega) (fun z72 σ F68 A69 H hS70 hA71 pz72_0 => ⟨rfl, ?_⟩))
        refine Ew_of (pc' := 169) (fun _ => x_aload_n rfl l88_0) ?_
        refine w_gT H (o := 3) (t := 17) rfl (H.perm 3 rfl) rfl rfl rfl rfl rfl rfl ?_
        refine Ew_of (pc' := 173) (fun _ => x_iconst rfl) ?_
        refine w_lJ H (o := 17) (n := 4) rfl (H.perm 17 rfl) rfl rfl (H.fix 17 rfl rfl) (show 0 ≤ 1 ∧ 1 < ((4 : Nat) : Int) by omega) (by decide) (fun v73 ev73 qv73 => ?_)
        have qv73 : (-9223372036854775808 : Int) ≤ v73 ∧ v73 ≤ 9223372036854775807 := qv73
        have ev73 : (A_88 17) (1) = v73 := (congrFun (funext (hA71 17 rfl)) (1)).symm.trans ev73
        refine Ew_of (pc' := 176) (fun _ => x_bipush (z := 7) rfl (by decide)) ?_
        refine w_stat24 rfl rfl (by rfl) (M356 H (show inrJ (v73) by omega) (show inr (7) by omega) (fun z78 σ F74 A75 H hS76 hA77 pz78_0 => ⟨rfl, ?_⟩))
        refine w_laddA rfl (fun z79 gz79 => ?_)
        refine Ew_of (pc' := 181) (fun _ => x_aload_n rfl l88_0) ?_
        refine w_gT H (o := 3) (t := 17) rfl (H.perm 3 rfl) rfl rfl rfl rfl rfl rfl ?_
        refine Ew_of (pc' := 185) (fun _ => x_iconst rfl) ?_
        refine w_lJ H (o := 17) (n := 4) rfl (H.perm 17 rfl) rfl rfl (H.fix 17 rfl rfl) (show 0 ≤ 2 ∧ 2 < ((4 : Nat) : Int) by omega) (by decide) (fun v80 ev80 qv80 => ?_)
        have qv80 : (-9223372036854775808 : Int) ≤ v80 ∧ v80 ≤ 9223372036854775807 := qv80
        have ev80 : (A_88 17) (2) = v80 := (congrFun ((funext (hA77 17 rfl)).trans (funext (hA71 17 rfl))) (2)).symm.trans ev80
        refine Ew_of (pc' := 188) (fun _ => x_bipush (z := 12) rfl (by decide)) ?_
        refine w_stat24 rfl rfl (by rfl) (M356 H (show inrJ (v80) by omega) (show inr (12) by omega) (fun z85 σ F81 A82 H hS83 hA84 pz85_0 => ⟨rfl, ?_⟩))
        refine w_laddA rfl (fun z86 gz86 => ?_)
        refine Ew_of (pc' := 193) (fun _ => x_aload_n rfl l88_0) ?_
        refine w_gT H (o := 3) (t := 17) rfl (H.perm 3 rfl) rfl rfl rfl rfl rfl rfl ?_
        refine Ew_of (pc' := 197) (fun _ => x_iconst rfl) ?_
        refine w_lJ H (o := 17) (n := 4) rfl (H.perm 17 rfl) rfl rfl (H.fix 17 rfl rfl) (show 0 ≤ 3 ∧ 3 < ((4 : Nat) : Int) by omega) (by decide) (fun v87 ev87 qv87 => ?_)
        have qv87 : (-9223372036854775808 : Int) ≤ v87 ∧ v87 ≤ 9223372036854775807 := qv87
        have ev87 : (A_88 17) (3) = v87 := (congrFun ((funext (hA84 17 rfl)).trans ((funext (hA77 17 rfl)).trans (funext (hA71 17 rfl)))) (3)).symm.trans ev87
        refine Ew_of (pc' := 200) (fun _ => x_bipush (z := 18) rfl (by decide)) ?_
        refine w_stat24 rfl rfl (by rfl) (M356 H (show inrJ (v87) by omega) (show inr (18) by omega) (fun z92 σ F88 A89 H hS90 hA91 pz92_0 => ⟨rfl, ?_⟩))
        refine w_laddA rfl (fun z93 gz93 => ?_)
        refine Ew_of (pc' := 207) (fun _ => x_ldc2 (z := 4294967295) rfl (by decide)) ?_
        refine w_land rfl (show inrJ (z93) by omega) (show inrJ (4294967295) by omega) (fun z94 gz94 gaz94 gbz94 => ?_)
        refine Ew_of (pc' := 210) (fun _ => x_lstore rfl) ?_
        refine Ew_of (pc' := 212) (fun _ => x_lload rfl rk2_s) ?_
        refine Ew_of (pc' := 214) (fun _ => x_iload rfl (rk2_o (l88_14) rfl rfl)) ?_
        refine w_i2l rfl (show inr ((a3 - a2)) by omega) ?_
        refine w_laddA rfl (fun z95 gz95 => ?_)
        refine Ew_of (pc' := 219) (fun _ => x_ldc2 (z := 4294967295) rfl (by decide)) ?_
        refine w_land rfl (show inrJ (z95) by omega) (show inrJ (4294967295) by omega) (fun z96 gz96 gaz96 gbz96 => ?_)
        refine Ew_of (pc' := 222) (fun _ => x_lstore rfl) ?_
        suffices hl222 : ∀ (m : Nat), ∀ (ls : rO) (σ : rS) (F_222 : hF) (A_222 : hA) (x222_15 : Int) (x222_16 : Int), rlook ls 1 = some (.ref (D 14)) → rlook ls 3 = some (I (a3)) → rlook ls 4 = some (J (2654435761)) → rlook ls 6 = some (J (2246822519)) → rlook ls 8 = some (J (3266489917)) → rlook ls 10 = some (J (668265263)) → rlook ls 12 = some (J (374761393)) → rlook ls 15 = some (I (x222_15)) → rlook ls 16 = some (J (x222_16)) → HS σ0 σ D N F_222 A_222 → SF [] F88 F_222 → SA [] A89 A_222 → (inr (x222_15)) → (inrJ (x222_16)) → ((a2) ≤ (x222_15) ∧ (x222_15) ≤ (a3)) → ((a3) - (x222_15)).toNat = m → Ew 359 (d + 1) 222 ls [] σ c s Q from
          hl222 _ _ σ _ _ (x88_15) (z96) (rk2_o (rk2_o (l88_1) rfl rfl) rfl rfl) (rk2_o (rk2_o (l88_3) rfl rfl) rfl rfl) (rk2_o (rk2_o (l88_4) rfl rfl) rfl rfl) (rk2_o (rk2_o (l88_6) rfl rfl) rfl rfl) (rk2_o (rk2_o (l88_8) rfl rfl) rfl rfl) (rk2_o (rk2_o (l88_10) rfl rfl) rfl rfl) (rk2_o (rk2_o (l88_12) rfl rfl) rfl rfl) (rk2_o (rk2_o (l88_15) rfl rfl) rfl rfl) (rk2_s) H (SF_refl) (SA_refl)   (show inr (x88_15) by omega) (show inrJ (z96) by omega) (show (a2) ≤ (x88_15) ∧ (x88_15) ≤ (a3) by omega) rfl
        as_aux_lemma =>
        intro m
        induction m using Nat.strongRecOn with
        | _ m ih222 =>
          intro ls σ F_222 A_222 x222_15 x222_16 l222_1 l222_3 l222_4 l222_6 l222_8 l222_10 l222_12 l222_15 l222_16 H hS_222 hA_222   j222_0 j222_1 j222_2 hm222
          refine Ew_of (pc' := 223) (fun _ => x_iload_n rfl l222_3) ?_
          refine Ew_of (pc' := 225) (fun _ => x_iload rfl l222_15) ?_
          refine w_isub rfl ?_
          refine Ew_of (pc' := 227) (fun _ => x_iconst rfl) ?_
          refine w_icmplt (t := 266) rfl rfl (show inr ((a3 - x222_15)) by omega) (show inr (4) by omega) (fun b97 => ?_) (fun b97 => ?_)
          · suffices hl266 : ∀ (m : Nat), ∀ (ls : rO) (σ : rS) (F_266 : hF) (A_266 : hA) (x266_15 : Int) (x266_16 : Int), rlook ls 1 = some (.ref (D 14)) → rlook ls 3 = some (I (a3)) → rlook ls 4 = some (J (2654435761)) → rlook ls 6 = some (J (2246822519)) → rlook ls 8 = some (J (3266489917)) → rlook ls 12 = some (J (374761393)) → rlook ls 15 = some (I (x266_15)) → rlook ls 16 = some (J (x266_16)) → HS σ0 σ D N F_266 A_266 → SF [] F_222 F_266 → SA [] A_222 A_266 → (inr (x266_15)) → (inrJ (x266_16)) → ((x222_15) ≤ (x266_15)) → ((x266_15) ≤ (x222_15) ∨ (x266_15) ≤ ((a3))) → (((a3)) - (x266_15)).toNat = m → Ew 359 (d + 1) 266 ls [] σ c s Q from
              hl266 _ _ σ _ _ (x222_15) (x222_16) (l222_1) (l222_3) (l222_4) (l222_6) (l222_8) (l222_12) (l222_15) (l222_16) H (SF_refl) (SA_refl)   (show inr (x222_15) by omega) (show inrJ (x222_16) by omega) (show (x222_15) ≤ (x222_15) by omega) (show (x222_15) ≤ (x222_15) ∨ (x222_15) ≤ ((a3)) by omega) rfl
            as_aux_lemma =>
            intro m
            induction m using Nat.strongRecOn with
            | _ m ih266 =>
              intro ls σ F_266 A_266 x266_15 x266_16 l266_1 l266_3 l266_4 l266_6 l266_8 l266_12 l266_15 l266_16 H hS_266 hA_266   j266_0 j266_1 j266_2 j266_3 hm266
              refine Ew_of (pc' := 268) (fun _ => x_iload rfl l266_15) ?_
              refine Ew_of (pc' := 269) (fun _ => x_iload_n rfl l266_3) ?_
              refine w_icmpge (t := 307) rfl rfl (show inr (x266_15) by omega) (show inr (a3) by omega) (fun b98 => ?_) (fun b98 => ?_)
              · refine Ew_of (pc' := 309) (fun _ => x_lload rfl l266_16) ?_
                refine Ew_of (pc' := 311) (fun _ => x_lload rfl l266_16) ?_
                refine Ew_of (pc' := 313) (fun _ => x_bipush (z := 15) rfl (by decide)) ?_
                refine w_lshrA rfl (fun z99 gz99 => ?_)
                refine w_lxorA rfl (fun z100 gz100 => ?_)
                refine Ew_of (pc' := 317) (fun _ => x_lload rfl l266_6) ?_
                refine w_stat24 rfl rfl (by rfl) (M357 H (show inrJ (z100) by omega) (show inrJ (2246822519) by omega) (fun z105 σ F101 A102 H hS103 hA104 pz105_0 => ⟨rfl, ?_⟩))
                refine Ew_of (pc' := 322) (fun _ => x_lstore rfl) ?_
                refine Ew_of (pc' := 324) (fun _ => x_lload rfl rk2_s) ?_
                refine Ew_of (pc' := 326) (fun _ => x_lload rfl rk2_s) ?_
                refine Ew_of (pc' := 328) (fun _ => x_bipush (z := 13) rfl (by decide)) ?_
                refine w_lshrA rfl (fun z106 gz106 => ?_)
                refine w_lxorA rfl (fun z107 gz107 => ?_)
                refine Ew_of (pc' := 332) (fun _ => x_lload rfl (rk2_o (l266_8) rfl rfl)) ?_
                refine w_stat24 rfl rfl (by rfl) (M357 H (show inrJ (z107) by omega) (show inrJ (3266489917) by omega) (fun z112 σ F108 A109 H hS110 hA111 pz112_0 => ⟨rfl, ?_⟩))
                refine Ew_of (pc' := 337) (fun _ => x_lstore rfl) ?_
                refine Ew_of (pc' := 339) (fun _ => x_lload rfl rk2_s) ?_
                refine Ew_of (pc' := 341) (fun _ => x_lload rfl rk2_s) ?_
                refine Ew_of (pc' := 343) (fun _ => x_bipush (z := 16) rfl (by decide)) ?_
                refine w_lshrA rfl (fun z113 gz113 => ?_)
                refine w_lxorA rfl (fun z114 gz114 => ?_)
                exact w_lreturn rfl (k (z114) σ _ _ H (SF_trans (SF_trans (SF_trans (SF_trans (SF_trans (SF_trans (SF_trans (SF_trans (SF_trans (SF_refl) hS_88 (any_sub rfl)) hS70 (any_sub rfl)) hS76 (any_sub rfl)) hS83 (any_sub rfl)) hS90 (any_sub rfl)) hS_222 (any_sub rfl)) hS_266 (any_sub rfl)) hS103 (any_sub rfl)) hS110 (any_sub rfl)) (SA_trans (SA_trans (SA_trans (SA_trans (SA_trans (SA_trans (SA_trans (SA_trans (SA_trans (SA_upd (SA_upd (SA_upd (SA_upd (SA_refl) rfl) rfl) rfl) rfl) hA_88 (any_subA rfl)) hA71 (any_subA rfl)) hA77 (any_subA rfl)) hA84 (any_subA rfl)) hA91 (any_subA rfl)) hA_222 (any_subA rfl)) hA_266 (any_subA rfl)) hA104 (any_subA rfl)) hA111 (any_subA rfl)) (show inrJ (z114) by omega))
              · refine Ew_of (pc' := 274) (fun _ => x_lload rfl l266_16) ?_
                refine Ew_of (pc' := 275) (fun _ => x_aload_n rfl l266_1) ?_
                refine Ew_of (pc' := 277) (fun _ => x_iload rfl l266_15) ?_
                refine w_lI H (o := 14) (n := 65536) rfl (H.perm 14 rfl) rfl rfl (H.fix 14 rfl rfl) (show 0 ≤ x266_15 ∧ x266_15 < ((65536 : Nat) : Int) by omega) (by decide) (fun v115 ev115 qv115 => ?_)
                have qv115 : (0 : Int) ≤ v115 ∧ v115 ≤ 255 := qv115
                have ev115 : (A 14) (x266_15) = v115 := (congrFun ((funext (hA_266 14 rfl)).trans ((funext (hA_222 14 rfl)).trans ((funext (hA91 14 rfl)).trans ((funext (hA84 14 rfl)).trans ((funext (hA77 14 rfl)).trans ((funext (hA71 14 rfl)).trans (funext (hA_88 14 rfl)))))))) (x266_15)).symm.trans ev115
                refine w_i2l rfl (show inr (v115) by omega) ?_
                refine Ew_of (pc' := 281) (fun _ => x_lload rfl l266_12) ?_
                refine w_stat24 rfl rfl (by rfl) (M357 H (show inrJ (v115) by omega) (show inrJ (374761393) by omega) (fun z120 σ F116 A117 H hS118 hA119 pz120_0 => ⟨rfl, ?_⟩))
                refine w_laddA rfl (fun z121 gz121 => ?_)
                refine Ew_of (pc' := 288) (fun _ => x_ldc2 (z := 4294967295) rfl (by decide)) ?_
                refine w_land rfl (show inrJ (z121) by omega) (show inrJ (4294967295) by omega) (fun z122 gz122 gaz122 gbz122 => ?_)
                refine Ew_of (pc' := 291) (fun _ => x_bipush (z := 11) rfl (by decide)) ?_
                refine w_stat24 rfl rfl (by rfl) (M356 H (show inrJ (z122) by omega) (show inr (11) by omega) (fun z127 σ F123 A124 H hS125 hA126 pz127_0 => ⟨rfl, ?_⟩))
                refine Ew_of (pc' := 296) (fun _ => x_lload rfl l266_4) ?_
                refine w_stat24 rfl rfl (by rfl) (M357 H (show inrJ (z127) by omega) (show inrJ (2654435761) by omega) (fun z132 σ F128 A129 H hS130 hA131 pz132_0 => ⟨rfl, ?_⟩))
                refine Ew_of (pc' := 301) (fun _ => x_lstore rfl) ?_
                refine Ew_of (pc' := 304) (fun _ => x_iinc (len := 3) rfl (rk2_o (l266_15) rfl rfl)) ?_
                refine Ew_of (pc' := 266) (fun _ => x_goto rfl rfl) ?_
                exact ih266 _ (by omega) _ σ _ _ ((x266_15 + 1)) (z132) (rk_o (rk2_o (l266_1) rfl rfl) rfl rfl) (rk_o (rk2_o (l266_3) rfl rfl) rfl rfl) (rk_o (rk2_o (l266_4) rfl rfl) rfl rfl) (rk_o (rk2_o (l266_6) rfl rfl) rfl rfl) (rk_o (rk2_o (l266_8) rfl rfl) rfl rfl) (rk_o (rk2_o (l266_12) rfl rfl) rfl rfl) (rk_s) (rk_o (rk2_s) rfl rfl) H (SF_trans (SF_trans (SF_trans (hS_266) hS118 (any_sub rfl)) hS125 (any_sub rfl)) hS130 (any_sub rfl)) (SA_trans (SA_trans (SA_trans (hA_266) hA119 (any_subA rfl)) hA126 (any_subA rfl)) hA131 (any_subA rfl))   (show inr ((x266_15 + 1)) by omega) (show inrJ (z132) by omega) (show (x222_15) ≤ ((x266_15 + 1)) by omega) (show ((x266_15 + 1)) ≤ (x222_15) ∨ ((x266_15 + 1)) ≤ ((a3)) by omega) rfl
          · refine Ew_of (pc' := 232) (fun _ => x_lload rfl l222_16) ?_
            refine Ew_of (pc' := 233) (fun _ => x_aload_n rfl l222_1) ?_
            refine Ew_of (pc' := 235) (fun _ => x_iload rfl l222_15) ?_
            refine w_stat24 rfl rfl (by rfl) (M358_14 H (show inr (x222_15) by omega) (show 0 ≤ (x222_15) ∧ (x222_15) + 3 < 65536 by omega) (fun z137 σ F133 A134 H hS135 hA136 pz137_0 => ⟨rfl, ?_⟩))
            refine Ew_of (pc' := 240) (fun _ => x_lload rfl l222_8) ?_
            refine w_stat24 rfl rfl (by rfl) (M357 H (show inrJ (z137) by omega) (show inrJ (3266489917) by omega) (fun z142 σ F138 A139 H hS140 hA141 pz142_0 => ⟨rfl, ?_⟩))
            refine w_laddA rfl (fun z143 gz143 => ?_)
            refine Ew_of (pc' := 247) (fun _ => x_ldc2 (z := 4294967295) rfl (by decide)) ?_
            refine w_land rfl (show inrJ (z143) by omega) (show inrJ (4294967295) by omega) (fun z144 gz144 gaz144 gbz144 => ?_)
            refine Ew_of (pc' := 250) (fun _ => x_bipush (z := 17) rfl (by decide)) ?_
            refine w_stat24 rfl rfl (by rfl) (M356 H (show inrJ (z144) by omega) (show inr (17) by omega) (fun z149 σ F145 A146 H hS147 hA148 pz149_0 => ⟨rfl, ?_⟩))
            refine Ew_of (pc' := 255) (fun _ => x_lload rfl l222_10) ?_
            refine w_stat24 rfl rfl (by rfl) (M357 H (show inrJ (z149) by omega) (show inrJ (668265263) by omega) (fun z154 σ F150 A151 H hS152 hA153 pz154_0 => ⟨rfl, ?_⟩))
            refine Ew_of (pc' := 260) (fun _ => x_lstore rfl) ?_
            refine Ew_of (pc' := 263) (fun _ => x_iinc (len := 3) rfl (rk2_o (l222_15) rfl rfl)) ?_
            refine Ew_of (pc' := 222) (fun _ => x_goto rfl rfl) ?_
            exact ih222 _ (by omega) _ σ _ _ ((x222_15 + 4)) (z154) (rk_o (rk2_o (l222_1) rfl rfl) rfl rfl) (rk_o (rk2_o (l222_3) rfl rfl) rfl rfl) (rk_o (rk2_o (l222_4) rfl rfl) rfl rfl) (rk_o (rk2_o (l222_6) rfl rfl) rfl rfl) (rk_o (rk2_o (l222_8) rfl rfl) rfl rfl) (rk_o (rk2_o (l222_10) rfl rfl) rfl rfl) (rk_o (rk2_o (l222_12) rfl rfl) rfl rfl) (rk_s) (rk_o (rk2_s) rfl rfl) H (SF_trans (SF_trans (SF_trans (SF_trans (hS_222) hS135 (any_sub rfl)) hS140 (any_sub rfl)) hS147 (any_sub rfl)) hS152 (any_sub rfl)) (SA_trans (SA_trans (SA_trans (SA_trans (hA_222) hA136 (any_subA rfl)) hA141 (any_subA rfl)) hA148 (any_subA rfl)) hA153 (any_subA rfl))   (show inr ((x222_15 + 4)) by omega) (show inrJ (z154) by omega) (show (a2) ≤ ((x222_15 + 4)) ∧ ((x222_15 + 4)) ≤ (a3) by omega) rfl
      · refine Ew_of (pc' := 98) (fun _ => x_iconst rfl) ?_
        refine Ew_of (pc' := 100) (fun _ => x_istore rfl) ?_
        suffices hl100 : ∀ (m : Nat), ∀ (ls : rO) (σ : rS) (F_100 : hF) (A_100 : hA) (x100_15 : Int) (x100_18 : Int), rlook ls 0 = some (.ref (D 3)) → rlook ls 1 = some (.ref (D 14)) → rlook ls 3 = some (I (a3)) → rlook ls 4 = some (J (2654435761)) → rlook ls 6 = some (J (2246822519)) → rlook ls 8 = some (J (3266489917)) → rlook ls 10 = some (J (668265263)) → rlook ls 12 = some (J (374761393)) → rlook ls 14 = some (I ((a3 - a2))) → rlook ls 15 = some (I (x100_15)) → rlook ls 18 = some (I (x100_18)) → HS σ0 σ D N F_100 A_100 → SF [] F_88 F_100 → SA [17] A_88 A_100 → (inr (x100_15)) → (inr (x100_18)) → ((0) ≤ (x100_18)) → ((x100_18) ≤ (0) ∨ (x100_18) ≤ (4)) → ((x100_15) = (x88_15) + 4 * (x100_18)) → ((4) - (x100_18)).toNat = m → Ew 359 (d + 1) 100 ls [] σ c s Q from
          hl100 _ _ σ _ _ (x88_15) (0) (rk_o (l88_0) rfl rfl) (rk_o (l88_1) rfl rfl) (rk_o (l88_3) rfl rfl) (rk_o (l88_4) rfl rfl) (rk_o (l88_6) rfl rfl) (rk_o (l88_8) rfl rfl) (rk_o (l88_10) rfl rfl) (rk_o (l88_12) rfl rfl) (rk_o (l88_14) rfl rfl) (rk_o (l88_15) rfl rfl) (rk_s) H (SF_refl) (SA_refl)   (show inr (x88_15) by omega) (show inr (0) by omega) (show (0) ≤ (0) by omega) (show (0) ≤ (0) ∨ (0) ≤ (4) by omega) (show (x88_15) = (x88_15) + 4 * (0) by omega) rfl
        as_aux_lemma =>
        intro m
        induction m using Nat.strongRecOn with
        | _ m ih100 =>
          intro ls σ F_100 A_100 x100_15 x100_18 l100_0 l100_1 l100_3 l100_4 l100_6 l100_8 l100_10 l100_12 l100_14 l100_15 l100_18 H hS_100 hA_100   j100_0 j100_1 j100_2 j100_3 j100_4 hm100
          refine Ew_of (pc' := 102) (fun _ => x_iload rfl l100_18) ?_
          refine Ew_of (pc' := 103) (fun _ => x_iconst rfl) ?_
          refine w_icmpge (t := 155) rfl rfl (show inr (x100_18) by omega) (show inr (4) by omega) (fun b155 => ?_) (fun b155 => ?_)
          · refine Ew_of (pc' := 88) (fun _ => x_goto rfl rfl) ?_
            exact ih88 _ (by omega) _ σ _ _ (x100_15) (l100_0) (l100_1) (l100_3) (l100_4) (l100_6) (l100_8) (l100_10) (l100_12) (l100_14) (l100_15) H (SF_trans (hS_88) hS_100 (any_sub rfl)) (SA_trans (hA_88) hA_100 (any_subA rfl))   (show inr (x100_15) by omega) (show (a2) ≤ (x100_15) ∧ (x100_15) ≤ (a3) by omega) rfl
          · refine Ew_of (pc' := 107) (fun _ => x_aload_n rfl l100_0) ?_
            refine w_gT H (o := 3) (t := 17) rfl (H.perm 3 rfl) rfl rfl rfl rfl rfl rfl ?_
            refine Ew_of (pc' := 112) (fun _ => x_iload rfl l100_18) ?_
            refine Ew_of (pc' := 113) (fun _ => x_aload_n rfl l100_0) ?_
            refine w_gT H (o := 3) (t := 17) rfl (H.perm 3 rfl) rfl rfl rfl rfl rfl rfl ?_
            refine Ew_of (pc' := 118) (fun _ => x_iload rfl l100_18) ?_
            refine w_lJ H (o := 17) (n := 4) rfl (H.perm 17 rfl) rfl rfl (H.fix 17 rfl rfl) (show 0 ≤ x100_18 ∧ x100_18 < ((4 : Nat) : Int) by omega) (by decide) (fun v156 ev156 qv156 => ?_)
            have qv156 : (-9223372036854775808 : Int) ≤ v156 ∧ v156 ≤ 9223372036854775807 := qv156
            have ev156 : (A_100 17) (x100_18) = v156 := (congrFun (rfl : A_100 17 = A_100 17) (x100_18)).symm.trans ev156
            refine Ew_of (pc' := 120) (fun _ => x_aload_n rfl l100_1) ?_
            refine Ew_of (pc' := 122) (fun _ => x_iload rfl l100_15) ?_
            refine w_stat24 rfl rfl (by rfl) (M358_14 H (show inr (x100_15) by omega) (show 0 ≤ (x100_15) ∧ (x100_15) + 3 < 65536 by omega) (fun z161 σ F157 A158 H hS159 hA160 pz161_0 => ⟨rfl, ?_⟩))
            refine Ew_of (pc' := 127) (fun _ => x_lload rfl l100_6) ?_
            refine w_stat24 rfl rfl (by rfl) (M357 H (show inrJ (z161) by omega) (show inrJ (2246822519) by omega) (fun z166 σ F162 A163 H hS164 hA165 pz166_0 => ⟨rfl, ?_⟩))
            refine w_laddA rfl (fun z167 gz167 => ?_)
            refine Ew_of (pc' := 134) (fun _ => x_ldc2 (z := 4294967295) rfl (by decide)) ?_
            refine w_land rfl (show inrJ (z167) by omega) (show inrJ (4294967295) by omega) (fun z168 gz168 gaz168 gbz168 => ?_)
            refine Ew_of (pc' := 137) (fun _ => x_bipush (z := 13) rfl (by decide)) ?_
            refine w_stat24 rfl rfl (by rfl) (M356 H (show inrJ (z168) by omega) (show inr (13) by omega) (fun z173 σ F169 A170 H hS171 hA172 pz173_0 => ⟨rfl, ?_⟩))
            refine Ew_of (pc' := 142) (fun _ => x_lload rfl l100_4) ?_
            refine w_stat24 rfl rfl (by rfl) (M357 H (show inrJ (z173) by omega) (show inrJ (2654435761) by omega) (fun z178 σ F174 A175 H hS176 hA177 pz178_0 => ⟨rfl, ?_⟩))
            refine w_sJ H (o := 17) (n := 4) rfl (H.perm 17 rfl) rfl rfl (H.fix 17 rfl rfl) (show 0 ≤ x100_18 ∧ x100_18 < ((4 : Nat) : Int) by omega) (by decide) (show (-9223372036854775808 : Int) ≤ z178 ∧ z178 ≤ 9223372036854775807 by omega) (fun σ H => ?_)
            refine Ew_of (pc' := 149) (fun _ => x_iinc (len := 3) rfl (l100_15)) ?_
            refine Ew_of (pc' := 152) (fun _ => x_iinc (len := 3) rfl (rk_o (l100_18) rfl rfl)) ?_
            refine Ew_of (pc' := 100) (fun _ => x_goto rfl rfl) ?_
            exact ih100 _ (by omega) _ σ _ _ ((x100_15 + 4)) ((x100_18 + 1)) (rk_o (rk_o (l100_0) rfl rfl) rfl rfl) (rk_o (rk_o (l100_1) rfl rfl) rfl rfl) (rk_o (rk_o (l100_3) rfl rfl) rfl rfl) (rk_o (rk_o (l100_4) rfl rfl) rfl rfl) (rk_o (rk_o (l100_6) rfl rfl) rfl rfl) (rk_o (rk_o (l100_8) rfl rfl) rfl rfl) (rk_o (rk_o (l100_10) rfl rfl) rfl rfl) (rk_o (rk_o (l100_12) rfl rfl) rfl rfl) (rk_o (rk_o (l100_14) rfl rfl) rfl rfl) (rk_o (rk_s) rfl rfl) (rk_s) H (SF_trans (SF_trans (SF_trans (SF_trans (hS_100) hS159 (any_sub rfl)) hS164 (any_sub rfl)) hS171 (any_sub rfl)) hS176 (any_sub rfl)) (SA_upd (SA_trans (SA_trans (SA_trans (SA_trans (hA_100) hA160 (any_subA rfl)) hA165 (any_subA rfl)) hA172 (any_subA rfl)) hA177 (any_subA rfl)) rfl)   (show inr ((x100_15 + 4)) by omega) (show inr ((x100_18 + 1)) by omega) (show (0) ≤ ((x100_18 + 1)) by omega) (show ((x100_18 + 1)) ≤ (0) ∨ ((x100_18 + 1)) ≤ (4) by omega) (show ((x100_15 + 4)) = (x88_15) + 4 * ((x100_18 + 1)) by omega) rfl
/-- Tokens.sumOf -/
theorem M359_22 {σ0 σ : rS} {D N : Nat → Nat} {F : hF} {A : hA} {d c s : Nat} {Q : wQ} (H : HS σ0 σ D N F A) {a2 a3 : Int} (h0 : inr (a2)) (h1 : inr (a3)) (h2 : 0 ≤ (a2) ∧ (a2) ≤ (a3) ∧ (a3) ≤ 65536) (k : ∀ (z : Int) σ F' A', HS σ0 σ D N F' A' → SF [] F F' → SA [17] A A' → (inrJ (z)) → Q (some (J z)) σ c s) : Ew 359 (d + 1) 0 (rargs 0 [.ref (D 3), .ref (D 22), I a2, I a3]) [] σ c s Q := by
  refine Ew_of (pc' := 3) (fun _ => x_ldc2 (z := 2654435761) rfl (by decide)) ?_
  refine Ew_of (pc' := 5) (fun _ => x_lstore rfl) ?_
  refine Ew_of (pc' := 8) (fun _ => x_ldc2 (z := 2246822519) rfl (by decide)) ?_
  refine Ew_of (pc' := 10) (fun _ => x_lstore rfl) ?_
  refine Ew_of (pc' := 13) (fun _ => x_ldc2 (z := 3266489917) rfl (by decide)) ?_
  refine Ew_of (pc' := 15) (fun _ => x_lstore rfl) ?_
  refine Ew_of (pc' := 18) (fun _ => x_ldc2 (z := 668265263) rfl (by decide)) ?_
  refine Ew_of (pc' := 20) (fun _ => x_lstore rfl) ?_
  refine Ew_of (pc' := 23) (fun _ => x_ldc2 (z := 374761393) rfl (by decide)) ?_
  refine Ew_of (pc' := 25) (fun _ => x_lstore rfl) ?_
  refine Ew_of (pc' := 26) (fun _ => x_iload_n rfl (rk2_o (rk2_o (rk2_o (rk2_o (rk2_o (rfl) rfl rfl) rfl rfl) rfl rfl) rfl rfl) rfl rfl)) ?_
  refine Ew_of (pc' := 27) (fun _ => x_iload_n rfl (rk2_o (rk2_o (rk2_o (rk2_o (rk2_o (rfl) rfl rfl) rfl rfl) rfl rfl) rfl rfl) rfl rfl)) ?_
  refine w_isub rfl ?_
  refine Ew_of (pc' := 30) (fun _ => x_istore rfl) ?_
  refine Ew_of (pc' := 31) (fun _ => x_iload_n rfl (rk_o (rk2_o (rk2_o (rk2_o (rk2_o (rk2_o (rfl) rfl rfl) rfl rfl) rfl rfl) rfl rfl) rfl rfl) rfl rfl)) ?_
  refine Ew_of (pc' := 33) (fun _ => x_istore rfl) ?_
  refine Ew_of (pc' := 35) (fun _ => x_lload rfl (rk_o (rk_o (rk2_s) rfl rfl) rfl rfl)) ?_
  refine Ew_of (pc' := 37) (fun _ => x_lstore rfl) ?_
  refine Ew_of (pc' := 39) (fun _ => x_iload rfl (rk2_o (rk_o (rk_s) rfl rfl) rfl rfl)) ?_
  refine Ew_of (pc' := 41) (fun _ => x_bipush (z := 16) rfl (by decide)) ?_
  refine w_icmplt (t := 210) rfl rfl (show inr ((a3 - a2)) by omega) (show inr (16) by omega) (fun b1 => ?_) (fun b1 => ?_)
  · refine Ew_of (pc' := 212) (fun _ => x_lload rfl rk2_s) ?_
    refine Ew_of (pc' := 214) (fun _ => x_iload rfl (rk2_o (rk_o (rk_s) rfl rfl) rfl rfl)) ?_
    refine w_i2l rfl (show inr ((a3 - a2)) by omega) ?_
    refine w_laddA rfl (fun z2 gz2 => ?_)
    refine Ew_of (pc' := 219) (fun _ => x_ldc2 (z := 4294967295) rfl (by decide)) ?_
    refine w_land rfl (show inrJ (z2) by omega) (show inrJ (4294967295) by omega) (fun z3 gz3 gaz3 gbz3 => ?_)
    refine Ew_of (pc' := 222) (fun _ => x_lstore rfl) ?_
    suffices hl222 : ∀ (m : Nat), ∀ (ls : rO) (σ : rS) (F_222 : hF) (A_222 : hA) (x222_15 : Int) (x222_16 : Int), rlook ls 1 = some (.ref (D 22)) → rlook ls 3 = some (I (a3)) → rlook ls 4 = some (J (2654435761)) → rlook ls 6 = some (J (2246822519)) → rlook ls 8 = some (J (3266489917)) → rlook ls 10 = some (J (668265263)) → rlook ls 12 = some (J (374761393)) → rlook ls 15 = some (I (x222_15)) → rlook ls 16 = some (J (x222_16)) → HS σ0 σ D N F_222 A_222 → SF [] F F_222 → SA [] A A_222 → (inr (x222_15)) → (inrJ (x222_16)) → ((a2) ≤ (x222_15) ∧ (x222_15) ≤ (a3)) → ((a3) - (x222_15)).toNat = m → Ew 359 (d + 1) 222 ls [] σ c s Q from
      hl222 _ _ σ _ _ (a2) (z3) (rk2_o (rk2_o (rk_o (rk_o (rk2_o (rk2_o (rk2_o (rk2_o (rk2_o (rfl) rfl rfl) rfl rfl) rfl rfl) rfl rfl) rfl rfl) rfl rfl) rfl rfl) rfl rfl) rfl rfl) (rk2_o (rk2_o (rk_o (rk_o (rk2_o (rk2_o (rk2_o (rk2_o (rk2_o (rfl) rfl rfl) rfl rfl) rfl rfl) rfl rfl) rfl rfl) rfl rfl) rfl rfl) rfl rfl) rfl rfl) (rk2_o (rk2_o (rk_o (rk_o (rk2_o (rk2_o (rk2_o (rk2_o (rk2_s) rfl rfl) rfl rfl) rfl rfl) rfl rfl) rfl rfl) rfl rfl) rfl rfl) rfl rfl) (rk2_o (rk2_o (rk_o (rk_o (rk2_o (rk2_o (rk2_o (rk2_s) rfl rfl) rfl rfl) rfl rfl) rfl rfl) rfl rfl) rfl rfl) rfl rfl) (rk2_o (rk2_o (rk_o (rk_o (rk2_o (rk2_o (rk2_s) rfl rfl) rfl rfl) rfl rfl) rfl rfl) rfl rfl) rfl rfl) (rk2_o (rk2_o (rk_o (rk_o (rk2_o (rk2_s) rfl rfl) rfl rfl) rfl rfl) rfl rfl) rfl rfl) (rk2_o (rk2_o (rk_o (rk_o (rk2_s) rfl rfl) rfl rfl) rfl rfl) rfl rfl) (rk2_o (rk2_o (rk_s) rfl rfl) rfl rfl) (rk2_s) H (SF_refl) (SA_refl)   (show inr (a2) by omega) (show inrJ (z3) by omega) (show (a2) ≤ (a2) ∧ (a2) ≤ (a3) by omega) rfl
    as_aux_lemma =>
    intro m
    induction m using Nat.strongRecOn with
    | _ m ih222 =>
      intro ls σ F_222 A_222 x222_15 x222_16 l222_1 l222_3 l222_4 l222_6 l222_8 l222_10 l222_12 l222_15 l222_16 H hS_222 hA_222   j222_0 j222_1 j222_2 hm222
      refine Ew_of (pc' := 223) (fun _ => x_iload_n rfl l222_3) ?_
      refine Ew_of (pc' := 225) (fun _ => x_iload rfl l222_15) ?_
      refine w_isub rfl ?_
      refine Ew_of (pc' := 227) (fun _ => x_iconst rfl) ?_
      refine w_icmplt (t := 266) rfl rfl (show inr ((a3 - x222_15)) by omega) (show inr (4) by omega) (fun b4 => ?_) (fun b4 => ?_)
      · suffices hl266 : ∀ (m : Nat), ∀ (ls : rO) (σ : rS) (F_266 : hF) (A_266 : hA) (x266_15 : Int) (x266_16 : Int), rlook ls 1 = some (.ref (D 22)) → rlook ls 3 = some (I (a3)) → rlook ls 4 = some (J (2654435761)) → rlook ls 6 = some (J (2246822519)) → rlook ls 8 = some (J (3266489917)) → rlook ls 12 = some (J (374761393)) → rlook ls 15 = some (I (x266_15)) → rlook ls 16 = some (J (x266_16)) → HS σ0 σ D N F_266 A_266 → SF [] F_222 F_266 → SA [] A_222 A_266 → (inr (x266_15)) → (inrJ (x266_16)) → ((x222_15) ≤ (x266_15)) → ((x266_15) ≤ (x222_15) ∨ (x266_15) ≤ ((a3))) → (((a3)) - (x266_15)).toNat = m → Ew 359 (d + 1) 266 ls [] σ c s Q from
          hl266 _ _ σ _ _ (x222_15) (x222_16) (l222_1) (l222_3) (l222_4) (l222_6) (l222_8) (l222_12) (l222_15) (l222_16) H (SF_refl) (SA_refl)   (show inr (x222_15) by omega) (show inrJ (x222_16) by omega) (show (x222_15) ≤ (x222_15) by omega) (show (x222_15) ≤ (x222_15) ∨ (x222_15) ≤ ((a3)) by omega) rfl
        as_aux_lemma =>
        intro m
        induction m using Nat.strongRecOn with
        | _ m ih266 =>
          intro ls σ F_266 A_266 x266_15 x266_16 l266_1 l266_3 l266_4 l266_6 l266_8 l266_12 l266_15 l266_16 H hS_266 hA_266   j266_0 j266_1 j266_2 j266_3 hm266
          refine Ew_of (pc' := 268) (fun _ => x_iload rfl l266_15) ?_
          refine Ew_of (pc' := 269) (fun _ => x_iload_n rfl l266_3) ?_
          refine w_icmpge (t := 307) rfl rfl (show inr (x266_15) by omega) (show inr (a3) by omega) (fun b5 => ?_) (fun b5 => ?_)
          · refine Ew_of (pc' := 309) (fun _ => x_lload rfl l266_16) ?_
            refine Ew_of (pc' := 311) (fun _ => x_lload rfl l266_16) ?_
            refine Ew_of (pc' := 313) (fun _ => x_bipush (z := 15) rfl (by decide)) ?_
            refine w_lshrA rfl (fun z6 gz6 => ?_)
            refine w_lxorA rfl (fun z7 gz7 => ?_)
            refine Ew_of (pc' := 317) (fun _ => x_lload rfl l266_6) ?_
            refine w_stat24 rfl rfl (by rfl) (M357 H (show inrJ (z7) by omega) (show inrJ (2246822519) by omega) (fun z12 σ F8 A9 H hS10 hA11 pz12_0 => ⟨rfl, ?_⟩))
            refine Ew_of (pc' := 322) (fun _ => x_lstore rfl) ?_
            refine Ew_of (pc' := 324) (fun _ => x_lload rfl rk2_s) ?_
            refine Ew_of (pc' := 326) (fun _ => x_lload rfl rk2_s) ?_
            refine Ew_of (pc' := 328) (fun _ => x_bipush (z := 13) rfl (by decide)) ?_
            refine w_lshrA rfl (fun z13 gz13 => ?_)
            refine w_lxorA rfl (fun z14 gz14 => ?_)
            refine Ew_of (pc' := 332) (fun _ => x_lload rfl (rk2_o (l266_8) rfl rfl)) ?_
            refine w_stat24 rfl rfl (by rfl) (M357 H (show inrJ (z14) by omega) (show inrJ (3266489917) by omega) (fun z19 σ F15 A16 H hS17 hA18 pz19_0 => ⟨rfl, ?_⟩))
            refine Ew_of (pc' := 337) (fun _ => x_lstore rfl) ?_
            refine Ew_of (pc' := 339) (fun _ => x_lload rfl rk2_s) ?_
            refine Ew_of (pc' := 341) (fun _ => x_lload rfl rk2_s) ?_
            refine Ew_of (pc' := 343) (fun _ => x_bipush (z := 16) rfl (by decide)) ?_
            refine w_lshrA rfl (fun z20 gz20 => ?_)
            refine w_lxorA rfl (fun z21 gz21 => ?_)
            exact w_lreturn rfl (k (z21) σ _ _ H (SF_trans (SF_trans (SF_trans (SF_trans (SF_refl) hS_222 (any_sub rfl)) hS_266 (any_sub rfl)) hS10 (any_sub rfl)) hS17 (any_sub rfl)) (SA_trans (SA_trans (SA_trans (SA_trans (SA_refl) hA_222 (any_subA rfl)) hA_266 (any_subA rfl)) hA11 (any_subA rfl)) hA18 (any_subA rfl)) (show inrJ (z21) by omega))
          · refine Ew_of (pc' := 274) (fun _ => x_lload rfl l266_16) ?_
            refine Ew_of (pc' := 275) (fun _ => x_aload_n rfl l266_1) ?_
            refine Ew_of (pc' := 277) (fun _ => x_iload rfl l266_15) ?_
            refine w_lI H (o := 22) (n := 65536) rfl (H.perm 22 rfl) rfl rfl (H.fix 22 rfl rfl) (show 0 ≤ x266_15 ∧ x266_15 < ((65536 : Nat) : Int) by omega) (by decide) (fun v22 ev22 qv22 => ?_)
            have qv22 : (0 : Int) ≤ v22 ∧ v22 ≤ 255 := qv22
            have ev22 : (A 22) (x266_15) = v22 := (congrFun ((funext (hA_266 22 rfl)).trans (funext (hA_222 22 rfl))) (x266_15)).symm.trans ev22
            refine w_i2l rfl (show inr (v22) by omega) ?_
            refine Ew_of (pc' := 281) (fun _ => x_lload rfl l266_12) ?_
            refine w_stat24 rfl rfl (by rfl) (M357 H (show inrJ (v22) by omega) (show inrJ (374761393) by omega) (fun z27 σ F23 A24 H hS25 hA26 pz27_0 => ⟨rfl, ?_⟩))
            refine w_laddA rfl (fun z28 gz28 => ?_)
            refine Ew_of (pc' := 288) (fun _ => x_ldc2 (z := 4294967295) rfl (by decide)) ?_
            refine w_land rfl (show inrJ (z28) by omega) (show inrJ (4294967295) by omega) (fun z29 gz29 gaz29 gbz29 => ?_)
            refine Ew_of (pc' := 291) (fun _ => x_bipush (z := 11) rfl (by decide)) ?_
            refine w_stat24 rfl rfl (by rfl) (M356 H (show inrJ (z29) by omega) (show inr (11) by omega) (fun z34 σ F30 A31 H hS32 hA33 pz34_0 => ⟨rfl, ?_⟩))
            refine Ew_of (pc' := 296) (fun _ => x_lload rfl l266_4) ?_
            refine w_stat24 rfl rfl (by rfl) (M357 H (show inrJ (z34) by omega) (show inrJ (2654435761) by omega) (fun z39 σ F35 A36 H hS37 hA38 pz39_0 => ⟨rfl, ?_⟩))
            refine Ew_of (pc' := 301) (fun _ => x_lstore rfl) ?_
            refine Ew_of (pc' := 304) (fun _ => x_iinc (len := 3) rfl (rk2_o (l266_15) rfl rfl)) ?_
            refine Ew_of (pc' := 266) (fun _ => x_goto rfl rfl) ?_
            exact ih266 _ (by omega) _ σ _ _ ((x266_15 + 1)) (z39) (rk_o (rk2_o (l266_1) rfl rfl) rfl rfl) (rk_o (rk2_o (l266_3) rfl rfl) rfl rfl) (rk_o (rk2_o (l266_4) rfl rfl) rfl rfl) (rk_o (rk2_o (l266_6) rfl rfl) rfl rfl) (rk_o (rk2_o (l266_8) rfl rfl) rfl rfl) (rk_o (rk2_o (l266_12) rfl rfl) rfl rfl) (rk_s) (rk_o (rk2_s) rfl rfl) H (SF_trans (SF_trans (SF_trans (hS_266) hS25 (any_sub rfl)) hS32 (any_sub rfl)) hS37 (any_sub rfl)) (SA_trans (SA_trans (SA_trans (hA_266) hA26 (any_subA rfl)) hA33 (any_subA rfl)) hA38 (any_subA rfl))   (show inr ((x266_15 + 1)) by omega) (show inrJ (z39) by omega) (show (x222_15) ≤ ((x266_15 + 1)) by omega) (show ((x266_15 + 1)) ≤ (x222_15) ∨ ((x266_15 + 1)) ≤ ((a3)) by omega) rfl
      · refine Ew_of (pc' := 232) (fun _ => x_lload rfl l222_16) ?_
        refine Ew_of (pc' := 233) (fun _ => x_aload_n rfl l222_1) ?_
        refine Ew_of (pc' := 235) (fun _ => x_iload rfl l222_15) ?_
        refine w_stat24 rfl rfl (by rfl) (M358_22 H (show inr (x222_15) by omega) (show 0 ≤ (x222_15) ∧ (x222_15) + 3 < 65536 by omega) (fun z44 σ F40 A41 H hS42 hA43 pz44_0 => ⟨rfl, ?_⟩))
        refine Ew_of (pc' := 240) (fun _ => x_lload rfl l222_8) ?_
        refine w_stat24 rfl rfl (by rfl) (M357 H (show inrJ (z44) by omega) (show inrJ (3266489917) by omega) (fun z49 σ F45 A46 H hS47 hA48 pz49_0 => ⟨rfl, ?_⟩))
        refine w_laddA rfl (fun z50 gz50 => ?_)
        refine Ew_of (pc' := 247) (fun _ => x_ldc2 (z := 4294967295) rfl (by decide)) ?_
        refine w_land rfl (show inrJ (z50) by omega) (show inrJ (4294967295) by omega) (fun z51 gz51 gaz51 gbz51 => ?_)
        refine Ew_of (pc' := 250) (fun _ => x_bipush (z := 17) rfl (by decide)) ?_
        refine w_stat24 rfl rfl (by rfl) (M356 H (show inrJ (z51) by omega) (show inr (17) by omega) (fun z56 σ F52 A53 H hS54 hA55 pz56_0 => ⟨rfl, ?_⟩))
        refine Ew_of (pc' := 255) (fun _ => x_lload rfl l222_10) ?_
        refine w_stat24 rfl rfl (by rfl) (M357 H (show inrJ (z56) by omega) (show inrJ (668265263) by omega) (fun z61 σ F57 A58 H hS59 hA60 pz61_0 => ⟨rfl, ?_⟩))
        refine Ew_of (pc' := 260) (fun _ => x_lstore rfl) ?_
        refine Ew_of (pc' := 263) (fun _ => x_iinc (len := 3) rfl (rk2_o (l222_15) rfl rfl)) ?_
        refine Ew_of (pc' := 222) (fun _ => x_goto rfl rfl) ?_
        exact ih222 _ (by omega) _ σ _ _ ((x222_15 + 4)) (z61) (rk_o (rk2_o (l222_1) rfl rfl) rfl rfl) (rk_o (rk2_o (l222_3) rfl rfl) rfl rfl) (rk_o (rk2_o (l222_4) rfl rfl) rfl rfl) (rk_o (rk2_o (l222_6) rfl rfl) rfl rfl) (rk_o (rk2_o (l222_8) rfl rfl) rfl rfl) (rk_o (rk2_o (l222_10) rfl rfl) rfl rfl) (rk_o (rk2_o (l222_12) rfl rfl) rfl rfl) (rk_s) (rk_o (rk2_s) rfl rfl) H (SF_trans (SF_trans (SF_trans (SF_trans (hS_222) hS42 (any_sub rfl)) hS47 (any_sub rfl)) hS54 (any_sub rfl)) hS59 (any_sub rfl)) (SA_trans (SA_trans (SA_trans (SA_trans (hA_222) hA43 (any_subA rfl)) hA48 (any_subA rfl)) hA55 (any_subA rfl)) hA60 (any_subA rfl))   (show inr ((x222_15 + 4)) by omega) (show inrJ (z61) by omega) (show (a2) ≤ ((x222_15 + 4)) ∧ ((x222_15 + 4)) ≤ (a3) by omega) rfl
  · refine Ew_of (pc' := 45) (fun _ => x_aload_n rfl (rk2_o (rk_o (rk_o (rk2_o (rk2_o (rk2_o (rk2_o (rk2_o (rfl) rfl rfl) rfl rfl) rfl rfl) rfl rfl) rfl rfl) rfl rfl) rfl rfl) rfl rfl)) ?_
    refine w_gT H (o := 3) (t := 17) rfl (H.perm 3 rfl) rfl rfl rfl rfl rfl rfl ?_
    refine Ew_of (pc' := 49) (fun _ => x_iconst rfl) ?_
    refine Ew_of (pc' := 51) (fun _ => x_lload rfl (rk2_o (rk_o (rk_o (rk2_o (rk2_o (rk2_o (rk2_o (rk2_s) rfl rfl) rfl rfl) rfl rfl) rfl rfl) rfl rfl) rfl rfl) rfl rfl)) ?_
    refine Ew_of (pc' := 53) (fun _ => x_lload rfl (rk2_o (rk_o (rk_o (rk2_o (rk2_o (rk2_o (rk2_s) rfl rfl) rfl rfl) rfl rfl) rfl rfl) rfl rfl) rfl rfl)) ?_
    refine w_laddA rfl (fun z62 gz62 => ?_)
    refine Ew_of (pc' := 57) (fun _ => x_ldc2 (z := 4294967295) rfl (by decide)) ?_
    refine w_land rfl (show inrJ (z62) by omega) (show inrJ (4294967295) by omega) (fun z63 gz63 gaz63 gbz63 => ?_)
    refine w_sJ H (o := 17) (n := 4) rfl (H.perm 17 rfl) rfl rfl (H.fix 17 rfl rfl) (show 0 ≤ 0 ∧ 0 < ((4 : Nat) : Int) by omega) (by decide) (show (-9223372036854775808 : Int) ≤ z63 ∧ z63 ≤ 9223372036854775807 by omega) (fun σ H => ?_)
    refine Ew_of (pc' := 60) (fun _ => x_aload_n rfl (rk2_o (rk_o (rk_o (rk2_o (rk2_o (rk2_o (rk2_o (rk2_o (rfl) rfl rfl) rfl rfl) rfl rfl) rfl rfl) rfl rfl) rfl rfl) rfl rfl) rfl rfl)) ?_
    refine w_gT H (o := 3) (t := 17) rfl (H.perm 3 rfl) rfl rfl rfl rfl rfl rfl ?_
    refine Ew_of (pc' := 64) (fun _ => x_iconst rfl) ?_
    refine Ew_of (pc' := 66) (fun _ => x_lload rfl (rk2_o (rk_o (rk_o (rk2_o (rk2_o (rk2_o (rk2_s) rfl rfl) rfl rfl) rfl rfl) rfl rfl) rfl rfl) rfl rfl)) ?_
    refine w_sJ H (o := 17) (n := 4) rfl (H.perm 17 rfl) rfl rfl (H.fix 17 rfl rfl) (show 0 ≤ 1 ∧ 1 < ((4 : Nat) : Int) by omega) (by decide) (show (-9223372036854775808 : Int) ≤ 2246822519 ∧ 2246822519 ≤ 9223372036854775807 by omega) (fun σ H => ?_)
    refine Ew_of (pc' := 68) (fun _ => x_aload_n rfl (rk2_o (rk_o (rk_o (rk2_o (rk2_o (rk2_o (rk2_o (rk2_o (rfl) rfl rfl) rfl rfl) rfl rfl) rfl rfl) rfl rfl) rfl rfl) rfl rfl) rfl rfl)) ?_
    refine w_gT H (o := 3) (t := 17) rfl (H.perm 3 rfl) rfl rfl rfl rfl rfl rfl ?_
    refine Ew_of (pc' := 72) (fun _ => x_iconst rfl) ?_
    refine Ew_of (pc' := 73) (fun _ => x_lconst (z := 0) rfl (by decide)) ?_
    refine w_sJ H (o := 17) (n := 4) rfl (H.perm 17 rfl) rfl rfl (H.fix 17 rfl rfl) (show 0 ≤ 2 ∧ 2 < ((4 : Nat) : Int) by omega) (by decide) (show (-9223372036854775808 : Int) ≤ 0 ∧ 0 ≤ 9223372036854775807 by omega) (fun σ H => ?_)
    refine Ew_of (pc' := 75) (fun _ => x_aload_n rfl (rk2_o (rk_o (rk_o (rk2_o (rk2_o (rk2_o (rk2_o (rk2_o (rfl) rfl rfl) rfl rfl) rfl rfl) rfl rfl) rfl rfl) rfl rfl) rfl rfl) rfl rfl)) ?_
    refine w_gT H (o := 3) (t := 17) rfl (H.perm 3 rfl) rfl rfl rfl rfl rfl rfl ?_
    refine Ew_of (pc' := 79) (fun _ => x_iconst rfl) ?_
    refine Ew_of (pc' := 80) (fun _ => x_lconst (z := 0) rfl (by decide)) ?_
    refine Ew_of (pc' := 82) (fun _ => x_lload rfl (rk2_o (rk_o (rk_o (rk2_o (rk2_o (rk2_o (rk2_o (rk2_s) rfl rfl) rfl rfl) rfl rfl) rfl rfl) rfl rfl) rfl rfl) rfl rfl)) ?_
    refine w_lsubA rfl (fun z64 gz64 => ?_)
    refine Ew_of (pc' := 86) (fun _ => x_ldc2 (z := 4294967295) rfl (by decide)) ?_
    refine w_land rfl (show inrJ (z64) by omega) (show inrJ (4294967295) by omega) (fun z65 gz65 gaz65 gbz65 => ?_)
    refine w_sJ H (o := 17) (n := 4) rfl (H.perm 17 rfl) rfl rfl (H.fix 17 rfl rfl) (show 0 ≤ 3 ∧ 3 < ((4 : Nat) : Int) by omega) (by decide) (show (-9223372036854775808 : Int) ≤ z65 ∧ z65 ≤ 9223372036854775807 by omega) (fun σ H => ?_)
    suffices hl88 : ∀ (m : Nat), ∀ (ls : rO) (σ : rS) (F_88 : hF) (A_88 : hA) (x88_15 : Int), rlook ls 0 = some (.ref (D 3)) → rlook ls 1 = some (.ref (D 22)) → rlook ls 3 = some (I (a3)) → rlook ls 4 = some (J (2654435761)) → rlook ls 6 = some (J (2246822519)) → rlook ls 8 = some (J (3266489917)) → rlook ls 10 = some (J (668265263)) → rlook ls 12 = some (J (374761393)) → rlook ls 14 = some (I ((a3 - a2))) → rlook ls 15 = some (I (x88_15)) → HS σ0 σ D N F_88 A_88 → SF [] F F_88 → SA [17] (updA (updA (updA (updA A 17 (0) (z63)) 17 (1) (2246822519)) 17 (2) (0)) 17 (3) (z65)) A_88 → (inr (x88_15)) → ((a2) ≤ (x88_15) ∧ (x88_15) ≤ (a3)) → ((a3) - (x88_15)).toNat = m → Ew 359 (d + 1) 88 ls [] σ c s Q from
      hl88 _ _ σ _ _ (a2) (rk2_o (rk_o (rk_o (rk2_o (rk2_o (rk2_o (rk2_o (rk2_o (rfl) rfl rfl) rfl rfl) rfl rfl) rfl rfl) rfl rfl) rfl rfl) rfl rfl) rfl rfl) (rk2_o (rk_o (rk_o (rk2_o (rk2_o (rk2_o (rk2_o (rk2_o (rfl) rfl rfl) rfl rfl) rfl rfl) rfl rfl) rfl rfl) rfl rfl) rfl rfl) rfl rfl) (rk2_o (rk_o (rk_o (rk2_o (rk2_o (rk2_o (rk2_o (rk2_o (rfl) rfl rfl) rfl rfl) rfl rfl) rfl rfl) rfl rfl) rfl rfl) rfl rfl) rfl rfl) (rk2_o (rk_o (rk_o (rk2_o (rk2_o (rk2_o (rk2_o (rk2_s) rfl rfl) rfl rfl) rfl rfl) rfl rfl) rfl rfl) rfl rfl) rfl rfl) (rk2_o (rk_o (rk_o (rk2_o (rk2_o (rk2_o (rk2_s) rfl rfl) rfl rfl) rfl rfl) rfl rfl) rfl rfl) rfl rfl) (rk2_o (rk_o (rk_o (rk2_o (rk2_o (rk2_s) rfl rfl) rfl rfl) rfl rfl) rfl rfl) rfl rfl) (rk2_o (rk_o (rk_o (rk2_o (rk2_s) rfl rfl) rfl rfl) rfl rfl) rfl rfl) (rk2_o (rk_o (rk_o (rk2_s) rfl rfl) rfl rfl) rfl rfl) (rk2_o (rk_o (rk_s) rfl rfl) rfl rfl) (rk2_o (rk_s) rfl rfl) H (SF_refl) (SA_refl)   (show inr (a2) by omega) (show (a2) ≤ (a2) ∧ (a2) ≤ (a3) by omega) rfl
    as_aux_lemma =>
    intro m
    induction m using Nat.strongRecOn with
    | _ m ih88 =>
      intro ls σ F_88 A_88 x88_15 l88_0 l88_1 l88_3 l88_4 l88_6 l88_8 l88_10 l88_12 l88_14 l88_15 H hS_88 hA_88   j88_0 j88_1 hm88
      refine Ew_of (pc' := 89) (fun _ => x_iload_n rfl l88_3) ?_
      refine Ew_of (pc' := 91) (fun _ => x_iload rfl l88_15) ?_
      refine w_isub rfl ?_
      refine Ew_of (pc' := 94) (fun _ => x_bipush (z := 16) rfl (by decide)) ?_
      refine w_icmplt (t := 158) rfl rfl (show inr ((a3 - x88_15)) by omega) (show inr (16) by omega) (fun b66 => ?_) (fun b66 => ?_)
      · refine Ew_of (pc' := 159) (fun _ => x_aload_n rfl l88_0) ?_
        refine w_gT H (o := 3) (t := 17) rfl (H.perm 3 rfl) rfl rfl rfl rfl rfl rfl ?_
        refine Ew_of (pc' := 163) (fun _ => x_iconst rfl) ?_
        refine w_lJ H (o := 17) (n := 4) rfl (H.perm 17 rfl) rfl rfl (H.fix 17 rfl rfl) (show 0 ≤ 0 ∧ 0 < ((4 : Nat) : Int) by omega) (by decide) (fun v67 ev67 qv67 => ?_)
        have qv67 : (-9223372036854775808 : Int) ≤ v67 ∧ v67 ≤ 9223372036854775807 := qv67
        have ev67 : (A_88 17) (0) = v67 := (congrFun (rfl : A_88 17 = A_88 17) (0)).symm.trans ev67
        refine Ew_of (pc' := 165) (fun _ => x_iconst rfl) ?_
        refine w_stat24 rfl rfl (by rfl) (M356 H (show inrJ (v67) by omega) (show inr (1) by omega) (fun z72 σ F68 A69 H hS70 hA71 pz72_0 => ⟨rfl, ?_⟩))
        refine Ew_of (pc' := 169) (fun _ => x_aload_n rfl l88_0) ?_
        refine w_gT H (o := 3) (t := 17) rfl (H.perm 3 rfl) rfl rfl rfl rfl rfl rfl ?_
        refine Ew_of (pc' := 173) (fun _ => x_iconst rfl) ?_
        refine w_lJ H (o := 17) (n := 4) rfl (H.perm 17 rfl) rfl rfl (H.fix 17 rfl rfl) (show 0 ≤ 1 ∧ 1 < ((4 : Nat) : Int) by omega) (by decide) (fun v73 ev73 qv73 => ?_)
        have qv73 : (-9223372036854775808 : Int) ≤ v73 ∧ v73 ≤ 9223372036854775807 := qv73
        have ev73 : (A_88 17) (1) = v73 := (congrFun (funext (hA71 17 rfl)) (1)).symm.trans ev73
        refine Ew_of (pc' := 176) (fun _ => x_bipush (z := 7) rfl (by decide)) ?_
        refine w_stat24 rfl rfl (by rfl) (M356 H (show inrJ (v73) by omega) (show inr (7) by omega) (fun z78 σ F74 A75 H hS76 hA77 pz78_0 => ⟨rfl, ?_⟩))
        refine w_laddA rfl (fun z79 gz79 => ?_)
        refine Ew_of (pc' := 181) (fun _ => x_aload_n rfl l88_0) ?_
        refine w_gT H (o := 3) (t := 17) rfl (H.perm 3 rfl) rfl rfl rfl rfl rfl rfl ?_
        refine Ew_of (pc' := 185) (fun _ => x_iconst rfl) ?_
        refine w_lJ H (o := 17) (n := 4) rfl (H.perm 17 rfl) rfl rfl (H.fix 17 rfl rfl) (show 0 ≤ 2 ∧ 2 < ((4 : Nat) : Int) by omega) (by decide) (fun v80 ev80 qv80 => ?_)
        have qv80 : (-9223372036854775808 : Int) ≤ v80 ∧ v80 ≤ 9223372036854775807 := qv80
        have ev80 : (A_88 17) (2) = v80 := (congrFun ((funext (hA77 17 rfl)).trans (funext (hA71 17 rfl))) (2)).symm.trans ev80
        refine Ew_of (pc' := 188) (fun _ => x_bipush (z := 12) rfl (by decide)) ?_
        refine w_stat24 rfl rfl (by rfl) (M356 H (show inrJ (v80) by omega) (show inr (12) by omega) (fun z85 σ F81 A82 H hS83 hA84 pz85_0 => ⟨rfl, ?_⟩))
        refine w_laddA rfl (fun z86 gz86 => ?_)
        refine Ew_of (pc' := 193) (fun _ => x_aload_n rfl l88_0) ?_
        refine w_gT H (o := 3) (t := 17) rfl (H.perm 3 rfl) rfl rfl rfl rfl rfl rfl ?_
        refine Ew_of (pc' := 197) (fun _ => x_iconst rfl) ?_
        refine w_lJ H (o := 17) (n := 4) rfl (H.perm 17 rfl) rfl rfl (H.fix 17 rfl rfl) (show 0 ≤ 3 ∧ 3 < ((4 : Nat) : Int) by omega) (by decide) (fun v87 ev87 qv87 => ?_)
        have qv87 : (-9223372036854775808 : Int) ≤ v87 ∧ v87 ≤ 9223372036854775807 := qv87
        have ev87 : (A_88 17) (3) = v87 := (congrFun ((funext (hA84 17 rfl)).trans ((funext (hA77 17 rfl)).trans (funext (hA71 17 rfl)))) (3)).symm.trans ev87
        refine Ew_of (pc' := 200) (fun _ => x_bipush (z := 18) rfl (by decide)) ?_
        refine w_stat24 rfl rfl (by rfl) (M356 H (show inrJ (v87) by omega) (show inr (18) by omega) (fun z92 σ F88 A89 H hS90 hA91 pz92_0 => ⟨rfl, ?_⟩))
        refine w_laddA rfl (fun z93 gz93 => ?_)
        refine Ew_of (pc' := 207) (fun _ => x_ldc2 (z := 4294967295) rfl (by decide)) ?_
        refine w_land rfl (show inrJ (z93) by omega) (show inrJ (4294967295) by omega) (fun z94 gz94 gaz94 gbz94 => ?_)
        refine Ew_of (pc' := 210) (fun _ => x_lstore rfl) ?_
        refine Ew_of (pc' := 212) (fun _ => x_lload rfl rk2_s) ?_
        refine Ew_of (pc' := 214) (fun _ => x_iload rfl (rk2_o (l88_14) rfl rfl)) ?_
        refine w_i2l rfl (show inr ((a3 - a2)) by omega) ?_
        refine w_laddA rfl (fun z95 gz95 => ?_)
        refine Ew_of (pc' := 219) (fun _ => x_ldc2 (z := 4294967295) rfl (by decide)) ?_
        refine w_land rfl (show inrJ (z95) by omega) (show inrJ (4294967295) by omega) (fun z96 gz96 gaz96 gbz96 => ?_)
        refine Ew_of (pc' := 222) (fun _ => x_lstore rfl) ?_
        suffices hl222 : ∀ (m : Nat), ∀ (ls : rO) (σ : rS) (F_222 : hF) (A_222 : hA) (x222_15 : Int) (x222_16 : Int), rlook ls 1 = some (.ref (D 22)) → rlook ls 3 = some (I (a3)) → rlook ls 4 = some (J (2654435761)) → rlook ls 6 = some (J (2246822519)) → rlook ls 8 = some (J (3266489917)) → rlook ls 10 = some (J (668265263)) → rlook ls 12 = some (J (374761393)) → rlook ls 15 = some (I (x222_15)) → rlook ls 16 = some (J (x222_16)) → HS σ0 σ D N F_222 A_222 → SF [] F88 F_222 → SA [] A89 A_222 → (inr (x222_15)) → (inrJ (x222_16)) → ((a2) ≤ (x222_15) ∧ (x222_15) ≤ (a3)) → ((a3) - (x222_15)).toNat = m → Ew 359 (d + 1) 222 ls [] σ c s Q from
          hl222 _ _ σ _ _ (x88_15) (z96) (rk2_o (rk2_o (l88_1) rfl rfl) rfl rfl) (rk2_o (rk2_o (l88_3) rfl rfl) rfl rfl) (rk2_o (rk2_o (l88_4) rfl rfl) rfl rfl) (rk2_o (rk2_o (l88_6) rfl rfl) rfl rfl) (rk2_o (rk2_o (l88_8) rfl rfl) rfl rfl) (rk2_o (rk2_o (l88_10) rfl rfl) rfl rfl) (rk2_o (rk2_o (l88_12) rfl rfl) rfl rfl) (rk2_o (rk2_o (l88_15) rfl rfl) rfl rfl) (rk2_s) H (SF_refl) (SA_refl)   (show inr (x88_15) by omega) (show inrJ (z96) by omega) (show (a2) ≤ (x88_15) ∧ (x88_15) ≤ (a3) by omega) rfl
        as_aux_lemma =>
        intro m
        induction m using Nat.strongRecOn with
        | _ m ih222 =>
          intro ls σ F_222 A_222 x222_15 x222_16 l222_1 l222_3 l222_4 l222_6 l222_8 l222_10 l222_12 l222_15 l222_16 H hS_222 hA_222   j222_0 j222_1 j222_2 hm222
          refine Ew_of (pc' := 223) (fun _ => x_iload_n rfl l222_3) ?_
          refine Ew_of (pc' := 225) (fun _ => x_iload rfl l222_15) ?_
          refine w_isub rfl ?_
          refine Ew_of (pc' := 227) (fun _ => x_iconst rfl) ?_
          refine w_icmplt (t := 266) rfl rfl (show inr ((a3 - x222_15)) by omega) (show inr (4) by omega) (fun b97 => ?_) (fun b97 => ?_)
          · suffices hl266 : ∀ (m : Nat), ∀ (ls : rO) (σ : rS) (F_266 : hF) (A_266 : hA) (x266_15 : Int) (x266_16 : Int), rlook ls 1 = some (.ref (D 22)) → rlook ls 3 = some (I (a3)) → rlook ls 4 = some (J (2654435761)) → rlook ls 6 = some (J (2246822519)) → rlook ls 8 = some (J (3266489917)) → rlook ls 12 = some (J (374761393)) → rlook ls 15 = some (I (x266_15)) → rlook ls 16 = some (J (x266_16)) → HS σ0 σ D N F_266 A_266 → SF [] F_222 F_266 → SA [] A_222 A_266 → (inr (x266_15)) → (inrJ (x266_16)) → ((x222_15) ≤ (x266_15)) → ((x266_15) ≤ (x222_15) ∨ (x266_15) ≤ ((a3))) → (((a3)) - (x266_15)).toNat = m → Ew 359 (d + 1) 266 ls [] σ c s Q from
              hl266 _ _ σ _ _ (x222_15) (x222_16) (l222_1) (l222_3) (l222_4) (l222_6) (l222_8) (l222_12) (l222_15) (l222_16) H (SF_refl) (SA_refl)   (show inr (x222_15) by omega) (show inrJ (x222_16) by omega) (show (x222_15) ≤ (x222_15) by omega) (show (x222_15) ≤ (x222_15) ∨ (x222_15) ≤ ((a3)) by omega) rfl
            as_aux_lemma =>
            intro m
            induction m using Nat.strongRecOn with
            | _ m ih266 =>
              intro ls σ F_266 A_266 x266_15 x266_16 l266_1 l266_3 l266_4 l266_6 l266_8 l266_12 l266_15 l266_16 H hS_266 hA_266   j266_0 j266_1 j266_2 j266_3 hm266
              refine Ew_of (pc' := 268) (fun _ => x_iload rfl l266_15) ?_
              refine Ew_of (pc' := 269) (fun _ => x_iload_n rfl l266_3) ?_
              refine w_icmpge (t := 307) rfl rfl (show inr (x266_15) by omega) (show inr (a3) by omega) (fun b98 => ?_) (fun b98 => ?_)
              · refine Ew_of (pc' := 309) (fun _ => x_lload rfl l266_16) ?_
                refine Ew_of (pc' := 311) (fun _ => x_lload rfl l266_16) ?_
                refine Ew_of (pc' := 313) (fun _ => x_bipush (z := 15) rfl (by decide)) ?_
                refine w_lshrA rfl (fun z99 gz99 => ?_)
                refine w_lxorA rfl (fun z100 gz100 => ?_)
                refine Ew_of (pc' := 317) (fun _ => x_lload rfl l266_6) ?_
                refine w_stat24 rfl rfl (by rfl) (M357 H (show inrJ (z100) by omega) (show inrJ (2246822519) by omega) (fun z105 σ F101 A102 H hS103 hA104 pz105_0 => ⟨rfl, ?_⟩))
                refine Ew_of (pc' := 322) (fun _ => x_lstore rfl) ?_
                refine Ew_of (pc' := 324) (fun _ => x_lload rfl rk2_s) ?_
                refine Ew_of (pc' := 326) (fun _ => x_lload rfl rk2_s) ?_
                refine Ew_of (pc' := 328) (fun _ => x_bipush (z := 13) rfl (by decide)) ?_
                refine w_lshrA rfl (fun z106 gz106 => ?_)
                refine w_lxorA rfl (fun z107 gz107 => ?_)
                refine Ew_of (pc' := 332) (fun _ => x_lload rfl (rk2_o (l266_8) rfl rfl)) ?_
                refine w_stat24 rfl rfl (by rfl) (M357 H (show inrJ (z107) by omega) (show inrJ (3266489917) by omega) (fun z112 σ F108 A109 H hS110 hA111 pz112_0 => ⟨rfl, ?_⟩))
                refine Ew_of (pc' := 337) (fun _ => x_lstore rfl) ?_
                refine Ew_of (pc' := 339) (fun _ => x_lload rfl rk2_s) ?_
                refine Ew_of (pc' := 341) (fun _ => x_lload rfl rk2_s) ?_
                refine Ew_of (pc' := 343) (fun _ => x_bipush (z := 16) rfl (by decide)) ?_
                refine w_lshrA rfl (fun z113 gz113 => ?_)
                refine w_lxorA rfl (fun z114 gz114 => ?_)
                exact w_lreturn rfl (k (z114) σ _ _ H (SF_trans (SF_trans (SF_trans (SF_trans (SF_trans (SF_trans (SF_trans (SF_trans (SF_trans (SF_refl) hS_88 (any_sub rfl)) hS70 (any_sub rfl)) hS76 (any_sub rfl)) hS83 (any_sub rfl)) hS90 (any_sub rfl)) hS_222 (any_sub rfl)) hS_266 (any_sub rfl)) hS103 (any_sub rfl)) hS110 (any_sub rfl)) (SA_trans (SA_trans (SA_trans (SA_trans (SA_trans (SA_trans (SA_trans (SA_trans (SA_trans (SA_upd (SA_upd (SA_upd (SA_upd (SA_refl) rfl) rfl) rfl) rfl) hA_88 (any_subA rfl)) hA71 (any_subA rfl)) hA77 (any_subA rfl)) hA84 (any_subA rfl)) hA91 (any_subA rfl)) hA_222 (any_subA rfl)) hA_266 (any_subA rfl)) hA104 (any_subA rfl)) hA111 (any_subA rfl)) (show inrJ (z114) by omega))
              · refine Ew_of (pc' := 274) (fun _ => x_lload rfl l266_16) ?_
                refine Ew_of (pc' := 275) (fun _ => x_aload_n rfl l266_1) ?_
                refine Ew_of (pc' := 277) (fun _ => x_iload rfl l266_15) ?_
                refine w_lI H (o := 22) (n := 65536) rfl (H.perm 22 rfl) rfl rfl (H.fix 22 rfl rfl) (show 0 ≤ x266_15 ∧ x266_15 < ((65536 : Nat) : Int) by omega) (by decide) (fun v115 ev115 qv115 => ?_)
                have qv115 : (0 : Int) ≤ v115 ∧ v115 ≤ 255 := qv115
                have ev115 : (A 22) (x266_15) = v115 := (congrFun ((funext (hA_266 22 rfl)).trans ((funext (hA_222 22 rfl)).trans ((funext (hA91 22 rfl)).trans ((funext (hA84 22 rfl)).trans ((funext (hA77 22 rfl)).trans ((funext (hA71 22 rfl)).trans (funext (hA_88 22 rfl)))))))) (x266_15)).symm.trans ev115
                refine w_i2l rfl (show inr (v115) by omega) ?_
                refine Ew_of (pc' := 281) (fun _ => x_lload rfl l266_12) ?_
                refine w_stat24 rfl rfl (by rfl) (M357 H (show inrJ (v115) by omega) (show inrJ (374761393) by omega) (fun z120 σ F116 A117 H hS118 hA119 pz120_0 => ⟨rfl, ?_⟩))
                refine w_laddA rfl (fun z121 gz121 => ?_)
                refine Ew_of (pc' := 288) (fun _ => x_ldc2 (z := 4294967295) rfl (by decide)) ?_
                refine w_land rfl (show inrJ (z121) by omega) (show inrJ (4294967295) by omega) (fun z122 gz122 gaz122 gbz122 => ?_)
                refine Ew_of (pc' := 291) (fun _ => x_bipush (z := 11) rfl (by decide)) ?_
                refine w_stat24 rfl rfl (by rfl) (M356 H (show inrJ (z122) by omega) (show inr (11) by omega) (fun z127 σ F123 A124 H hS125 hA126 pz127_0 => ⟨rfl, ?_⟩))
                refine Ew_of (pc' := 296) (fun _ => x_lload rfl l266_4) ?_
                refine w_stat24 rfl rfl (by rfl) (M357 H (show inrJ (z127) by omega) (show inrJ (2654435761) by omega) (fun z132 σ F128 A129 H hS130 hA131 pz132_0 => ⟨rfl, ?_⟩))
                refine Ew_of (pc' := 301) (fun _ => x_lstore rfl) ?_
                refine Ew_of (pc' := 304) (fun _ => x_iinc (len := 3) rfl (rk2_o (l266_15) rfl rfl)) ?_
                refine Ew_of (pc' := 266) (fun _ => x_goto rfl rfl) ?_
                exact ih266 _ (by omega) _ σ _ _ ((x266_15 + 1)) (z132) (rk_o (rk2_o (l266_1) rfl rfl) rfl rfl) (rk_o (rk2_o (l266_3) rfl rfl) rfl rfl) (rk_o (rk2_o (l266_4) rfl rfl) rfl rfl) (rk_o (rk2_o (l266_6) rfl rfl) rfl rfl) (rk_o (rk2_o (l266_8) rfl rfl) rfl rfl) (rk_o (rk2_o (l266_12) rfl rfl) rfl rfl) (rk_s) (rk_o (rk2_s) rfl rfl) H (SF_trans (SF_trans (SF_trans (hS_266) hS118 (any_sub rfl)) hS125 (any_sub rfl)) hS130 (any_sub rfl)) (SA_trans (SA_trans (SA_trans (hA_266) hA119 (any_subA rfl)) hA126 (any_subA rfl)) hA131 (any_subA rfl))   (show inr ((x266_15 + 1)) by omega) (show inrJ (z132) by omega) (show (x222_15) ≤ ((x266_15 + 1)) by omega) (show ((x266_15 + 1)) ≤ (x222_15) ∨ ((x266_15 + 1)) ≤ ((a3)) by omega) rfl
          · refine Ew_of (pc' := 232) (fun _ => x_lload rfl l222_16) ?_
            refine Ew_of (pc' := 233) (fun _ => x_aload_n rfl l222_1) ?_
            refine Ew_of (pc' := 235) (fun _ => x_iload rfl l222_15) ?_
            refine w_stat24 rfl rfl (by rfl) (M358_22 H (show inr (x222_15) by omega) (show 0 ≤ (x222_15) ∧ (x222_15) + 3 < 65536 by omega) (fun z137 σ F133 A134 H hS135 hA136 pz137_0 => ⟨rfl, ?_⟩))
            refine Ew_of (pc' := 240) (fun _ => x_lload rfl l222_8) ?_
            refine w_stat24 rfl rfl (by rfl) (M357 H (show inrJ (z137) by omega) (show inrJ (3266489917) by omega) (fun z142 σ F138 A139 H hS140 hA141 pz142_0 => ⟨rfl, ?_⟩))
            refine w_laddA rfl (fun z143 gz143 => ?_)
            refine Ew_of (pc' := 247) (fun _ => x_ldc2 (z := 4294967295) rfl (by decide)) ?_
            refine w_land rfl (show inrJ (z143) by omega) (show inrJ (4294967295) by omega) (fun z144 gz144 gaz144 gbz144 => ?_)
            refine Ew_of (pc' := 250) (fun _ => x_bipush (z := 17) rfl (by decide)) ?_
            refine w_stat24 rfl rfl (by rfl) (M356 H (show inrJ (z144) by omega) (show inr (17) by omega) (fun z149 σ F145 A146 H hS147 hA148 pz149_0 => ⟨rfl, ?_⟩))
            refine Ew_of (pc' := 255) (fun _ => x_lload rfl l222_10) ?_
            refine w_stat24 rfl rfl (by rfl) (M357 H (show inrJ (z149) by omega) (show inrJ (668265263) by omega) (fun z154 σ F150 A151 H hS152 hA153 pz154_0 => ⟨rfl, ?_⟩))
            refine Ew_of (pc' := 260) (fun _ => x_lstore rfl) ?_
            refine Ew_of (pc' := 263) (fun _ => x_iinc (len := 3) rfl (rk2_o (l222_15) rfl rfl)) ?_
            refine Ew_of (pc' := 222) (fun _ => x_goto rfl rfl) ?_
            exact ih222 _ (by omega) _ σ _ _ ((x222_15 + 4)) (z154) (rk_o (rk2_o (l222_1) rfl rfl) rfl rfl) (rk_o (rk2_o (l222_3) rfl rfl) rfl rfl) (rk_o (rk2_o (l222_4) rfl rfl) rfl rfl) (rk_o (rk2_o (l222_6) rfl rfl) rfl rfl) (rk_o (rk2_o (l222_8) rfl rfl) rfl rfl) (rk_o (rk2_o (l222_10) rfl rfl) rfl rfl) (rk_o (rk2_o (l222_12) rfl rfl) rfl rfl) (rk_s) (rk_o (rk2_s) rfl rfl) H (SF_trans (SF_trans (SF_trans (SF_trans (hS_222) hS135 (any_sub rfl)) hS140 (any_sub rfl)) hS147 (any_sub rfl)) hS152 (any_sub rfl)) (SA_trans (SA_trans (SA_trans (SA_trans (hA_222) hA136 (any_subA rfl)) hA141 (any_subA rfl)) hA148 (any_subA rfl)) hA153 (any_subA rfl))   (show inr ((x222_15 + 4)) by omega) (show inrJ (z154) by omega) (show (a2) ≤ ((x222_15 + 4)) ∧ ((x222_15 + 4)) ≤ (a3) by omega) rfl
      · refine Ew_of (pc' := 98) (fun _ => x_iconst rfl) ?_
        refine Ew_of (pc' := 100) (fun _ => x_istore rfl) ?_
        suffices hl100 : ∀ (m : Nat), ∀ (ls : rO) (σ : rS) (F_100 : hF) (A_100 : hA) (x100_15 : Int) (x100_18 : Int), rlook ls 0 = some (.ref (D 3)) → rlook ls 1 = some (.ref (D 22)) → rlook ls 3 = some (I (a3)) → rlook ls 4 = some (J (2654435761)) → rlook ls 6 = some (J (2246822519)) → rlook ls 8 = some (J (3266489917)) → rlook ls 10 = some (J (668265263)) → rlook ls 12 = some (J (374761393)) → rlook ls 14 = some (I ((a3 - a2))) → rlook ls 15 = some (I (x100_15)) → rlook ls 18 = some (I (x100_18)) → HS σ0 σ D N F_100 A_100 → SF [] F_88 F_100 → SA [17] A_88 A_100 → (inr (x100_15)) → (inr (x100_18)) → ((0) ≤ (x100_18)) → ((x100_18) ≤ (0) ∨ (x100_18) ≤ (4)) → ((x100_15) = (x88_15) + 4 * (x100_18)) → ((4) - (x100_18)).toNat = m → Ew 359 (d + 1) 100 ls [] σ c s Q from
          hl100 _ _ σ _ _ (x88_15) (0) (rk_o (l88_0) rfl rfl) (rk_o (l88_1) rfl rfl) (rk_o (l88_3) rfl rfl) (rk_o (l88_4) rfl rfl) (rk_o (l88_6) rfl rfl) (rk_o (l88_8) rfl rfl) (rk_o (l88_10) rfl rfl) (rk_o (l88_12) rfl rfl) (rk_o (l88_14) rfl rfl) (rk_o (l88_15) rfl rfl) (rk_s) H (SF_refl) (SA_refl)   (show inr (x88_15) by omega) (show inr (0) by omega) (show (0) ≤ (0) by omega) (show (0) ≤ (0) ∨ (0) ≤ (4) by omega) (show (x88_15) = (x88_15) + 4 * (0) by omega) rfl
        as_aux_lemma =>
        intro m
        induction m using Nat.strongRecOn with
        | _ m ih100 =>
          intro ls σ F_100 A_100 x100_15 x100_18 l100_0 l100_1 l100_3 l100_4 l100_6 l100_8 l100_10 l100_12 l100_14 l100_15 l100_18 H hS_100 hA_100   j100_0 j100_1 j100_2 j100_3 j100_4 hm100
          refine Ew_of (pc' := 102) (fun _ => x_iload rfl l100_18) ?_
          refine Ew_of (pc' := 103) (fun _ => x_iconst rfl) ?_
          refine w_icmpge (t := 155) rfl rfl (show inr (x100_18) by omega) (show inr (4) by omega) (fun b155 => ?_) (fun b155 => ?_)
          · refine Ew_of (pc' := 88) (fun _ => x_goto rfl rfl) ?_
            exact ih88 _ (by omega) _ σ _ _ (x100_15) (l100_0) (l100_1) (l100_3) (l100_4) (l100_6) (l100_8) (l100_10) (l100_12) (l100_14) (l100_15) H (SF_trans (hS_88) hS_100 (any_sub rfl)) (SA_trans (hA_88) hA_100 (any_subA rfl))   (show inr (x100_15) by omega) (show (a2) ≤ (x100_15) ∧ (x100_15) ≤ (a3) by omega) rfl
          · refine Ew_of (pc' := 107) (fun _ => x_aload_n rfl l100_0) ?_
            refine w_gT H (o := 3) (t := 17) rfl (H.perm 3 rfl) rfl rfl rfl rfl rfl rfl ?_
            refine Ew_of (pc' := 112) (fun _ => x_iload rfl l100_18) ?_
            refine Ew_of (pc' := 113) (fun _ => x_aload_n rfl l100_0) ?_
            refine w_gT H (o := 3) (t := 17) rfl (H.perm 3 rfl) rfl rfl rfl rfl rfl rfl ?_
            refine Ew_of (pc' := 118) (fun _ => x_iload rfl l100_18) ?_
            refine w_lJ H (o := 17) (n := 4) rfl (H.perm 17 rfl) rfl rfl (H.fix 17 rfl rfl) (show 0 ≤ x100_18 ∧ x100_18 < ((4 : Nat) : Int) by omega) (by decide) (fun v156 ev156 qv156 => ?_)
            have qv156 : (-9223372036854775808 : Int) ≤ v156 ∧ v156 ≤ 9223372036854775807 := qv156
            have ev156 : (A_100 17) (x100_18) = v156 := (congrFun (rfl : A_100 17 = A_100 17) (x100_18)).symm.trans ev156
            refine Ew_of (pc' := 120) (fun _ => x_aload_n rfl l100_1) ?_
            refine Ew_of (pc' := 122) (fun _ => x_iload rfl l100_15) ?_
            refine w_stat24 rfl rfl (by rfl) (M358_22 H (show inr (x100_15) by omega) (show 0 ≤ (x100_15) ∧ (x100_15) + 3 < 65536 by omega) (fun z161 σ F157 A158 H hS159 hA160 pz161_0 => ⟨rfl, ?_⟩))
            refine Ew_of (pc' := 127) (fun _ => x_lload rfl l100_6) ?_
            refine w_stat24 rfl rfl (by rfl) (M357 H (show inrJ (z161) by omega) (show inrJ (2246822519) by omega) (fun z166 σ F162 A163 H hS164 hA165 pz166_0 => ⟨rfl, ?_⟩))
            refine w_laddA rfl (fun z167 gz167 => ?_)
            refine Ew_of (pc' := 134) (fun _ => x_ldc2 (z := 4294967295) rfl (by decide)) ?_
            refine w_land rfl (show inrJ (z167) by omega) (show inrJ (4294967295) by omega) (fun z168 gz168 gaz168 gbz168 => ?_)
            refine Ew_of (pc' := 137) (fun _ => x_bipush (z := 13) rfl (by decide)) ?_
            refine w_stat24 rfl rfl (by rfl) (M356 H (show inrJ (z168) by omega) (show inr (13) by omega) (fun z173 σ F169 A170 H hS171 hA172 pz173_0 => ⟨rfl, ?_⟩))
            refine Ew_of (pc' := 142) (fun _ => x_lload rfl l100_4) ?_
            refine w_stat24 rfl rfl (by rfl) (M357 H (show inrJ (z173) by omega) (show inrJ (2654435761) by omega) (fun z178 σ F174 A175 H hS176 hA177 pz178_0 => ⟨rfl, ?_⟩))
            refine w_sJ H (o := 17) (n := 4) rfl (H.perm 17 rfl) rfl rfl (H.fix 17 rfl rfl) (show 0 ≤ x100_18 ∧ x100_18 < ((4 : Nat) : Int) by omega) (by decide) (show (-9223372036854775808 : Int) ≤ z178 ∧ z178 ≤ 9223372036854775807 by omega) (fun σ H => ?_)
            refine Ew_of (pc' := 149) (fun _ => x_iinc (len := 3) rfl (l100_15)) ?_
            refine Ew_of (pc' := 152) (fun _ => x_iinc (len := 3) rfl (rk_o (l100_18) rfl rfl)) ?_
            refine Ew_of (pc' := 100) (fun _ => x_goto rfl rfl) ?_
            exact ih100 _ (by omega) _ σ _ _ ((x100_15 + 4)) ((x100_18 + 1)) (rk_o (rk_o (l100_0) rfl rfl) rfl rfl) (rk_o (rk_o (l100_1) rfl rfl) rfl rfl) (rk_o (rk_o (l100_3) rfl rfl) rfl rfl) (rk_o (rk_o (l100_4) rfl rfl) rfl rfl) (rk_o (rk_o (l100_6) rfl rfl) rfl rfl) (rk_o (rk_o (l100_8) rfl rfl) rfl rfl) (rk_o (rk_o (l100_10) rfl rfl) rfl rfl) (rk_o (rk_o (l100_12) rfl rfl) rfl rfl) (rk_o (rk_o (l100_14) rfl rfl) rfl rfl) (rk_o (rk_s) rfl rfl) (rk_s) H (SF_trans (SF_trans (SF_trans (SF_trans (hS_100) hS159 (any_sub rfl)) hS164 (any_sub rfl)) hS171 (any_sub rfl)) hS176 (any_sub rfl)) (SA_upd (SA_trans (SA_trans (SA_trans (SA_trans (hA_100) hA160 (any_subA rfl)) hA165 (any_subA rfl)) hA172 (any_subA rfl)) hA177 (any_subA rfl)) rfl)   (show inr ((x100_15 + 4)) by omega) (show inr ((x100_18 + 1)) by omega) (show (0) ≤ ((x100_18 + 1)) by omega) (show ((x100_18 + 1)) ≤ (0) ∨ ((x100_18 + 1)) ≤ (4) by omega) (show ((x100_15 + 4)) = (x88_15) + 4 * ((x100_18 + 1)) by omega) rfl
