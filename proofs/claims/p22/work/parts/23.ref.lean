/-- Tokens.readBlock -/
theorem M372 {σ0 σ : rS} {D N : Nat → Nat} {F : hF} {A : hA} {d c s : Nat} {Q : wQ} (H : HS σ0 σ D N F A) {a1 a2 a3 : Int} (u3_12 : Int) (eu3_12 : F 3 12 = u3_12) (h0 : inr (a1)) (h1 : inr (a2)) (h2 : inr (a3)) (h3 : 0 ≤ (a1) ∧ (a1) ≤ (a2) ∧ (a2) ≤ 65536 ∧ 0 ≤ (a3) ∧ (a3) ≤ 65536) (h4 : 0 ≤ (u3_12) ∧ (u3_12) + (a3) ≤ 131072) (k : ∀ (z : Int) σ Fₚ Aₚ, HS σ0 σ D N Fₚ Aₚ → SF [(1, 4), (3, 12), (3, 15), (3, 16)] F Fₚ → SA [21] A Aₚ → ∀ y3_12 : Int, Fₚ 3 12 = y3_12 → (inr (z)) → (0 ≤ (z) ∧ (z) ≤ 3) → ((u3_12) ≤ (y3_12) ∧ (y3_12) ≤ (u3_12) + (a3)) → Q (some (I z)) σ c s) : Ew 372 (d + 1) 0 (rargs 0 [.ref (D 3), I a1, I a2, I a3]) [] σ c s Q := by
  have r1 : (-2147483648 : Int) ≤ u3_12 ∧ u3_12 ≤ 2147483647 := rngE (show (-2147483648 : Int) ≤ F 3 12 ∧ F 3 12 ≤ 2147483647 from H.frng 3 12) (show F 3 12 = u3_12 from (eu3_12))
  refine Ew_of (pcₚ := 1) (fun _ => x_aload_n rfl rfl) ?_
  refine Ew_of (pcₚ := 2) (fun _ => x_iload_n rfl rfl) ?_
  refine w_pI H (o := 3) rfl rfl (H.perm 3 rfl) rfl rfl rfl (fun _ => rfl) rfl (show (-2147483648 : Int) ≤ a1 ∧ a1 ≤ 2147483647 from q_271 h3) (fun σ H => ?_)
  refine Ew_of (pcₚ := 6) (fun _ => x_aload_n rfl rfl) ?_
  refine w_gI H (o := 3) (w := u3_12) rfl (H.perm 3 rfl) rfl rfl rfl (fun _ => rfl) (eu3_12) ?_
  refine Ew_of (pcₚ := 11) (fun _ => x_istore rfl) ?_
  suffices hl11 : ∀ (m : Nat), ∀ (ls : rO) (σ : rS) (F_11 : hF) (A_11 : hA) , rlook ls 0 = some (.ref (D 3)) → rlook ls 2 = some (I (a2)) → rlook ls 3 = some (I (a3)) → rlook ls 4 = some (I (u3_12)) → HS σ0 σ D N F_11 A_11 → SF [(1, 4), (3, 12), (3, 15), (3, 16)] (updF F 3 15 (a1)) F_11 → SA [21] A A_11 → ∀ y11_3_12 : Int, F_11 3 12 = y11_3_12 → ∀ y11_3_15 : Int, F_11 3 15 = y11_3_15 → (0 ≤ (y11_3_15) ∧ (y11_3_15) ≤ (a2)) → ((u3_12) ≤ (y11_3_12) ∧ (y11_3_12) ≤ (u3_12) + (a3)) → ((a2) - (y11_3_15)).toNat = m → Ew 372 (d + 1) 11 ls [] σ c s Q from
    hl11 _ _ σ _ _  (rk_o (rfl) rfl rfl) (rk_o (rfl) rfl rfl) (rk_o (rfl) rfl rfl) (rk_s) H (SF_refl) (SA_refl) (u3_12) ((eu3_12)) (a1) (rfl)  (show 0 ≤ (a1) ∧ (a1) ≤ (a2) from q_273 h3) (show (u3_12) ≤ (u3_12) ∧ (u3_12) ≤ (u3_12) + (a3) from q_272 h3) rfl
  as_aux_lemma =>
  intro m
  induction m using Nat.strongRecOn with
  | _ m ih11 =>
    intro ls σ F_11 A_11  l11_0 l11_2 l11_3 l11_4 H hS_11 hA_11 y11_3_12 ey11_3_12 y11_3_15 ey11_3_15  j11_0 j11_1 hm11
    have r2 : (-2147483648 : Int) ≤ y11_3_12 ∧ y11_3_12 ≤ 2147483647 := rngE (show (-2147483648 : Int) ≤ F_11 3 12 ∧ F_11 3 12 ≤ 2147483647 from H.frng 3 12) (show F_11 3 12 = y11_3_12 from (ey11_3_12))
    have r3 : (-2147483648 : Int) ≤ y11_3_15 ∧ y11_3_15 ≤ 2147483647 := rngE (show (-2147483648 : Int) ≤ F_11 3 15 ∧ F_11 3 15 ≤ 2147483647 from H.frng 3 15) (show F_11 3 15 = y11_3_15 from (ey11_3_15))
    refine Ew_of (pcₚ := 12) (fun _ => x_aload_n rfl l11_0) ?_
    refine w_gT H (o := 3) (t := 1) rfl (H.perm 3 rfl) rfl rfl rfl rfl rfl rfl ?_
    refine Ew_of (pcₚ := 16) (fun _ => x_iload_n rfl l11_2) ?_
    refine w_pI H (o := 1) rfl rfl (H.perm 1 rfl) rfl rfl rfl (fun _ => rfl) rfl (show (-2147483648 : Int) ≤ a2 ∧ a2 ≤ 2147483647 from q_274 h3 j11_0) (fun σ H => ?_)
    refine Ew_of (pcₚ := 20) (fun _ => x_aload_n rfl l11_0) ?_
    refine w_gI H (o := 3) (w := y11_3_15) rfl (H.perm 3 rfl) rfl rfl rfl (fun _ => rfl) (ey11_3_15) ?_
    refine Ew_of (pcₚ := 24) (fun _ => x_iload_n rfl l11_2) ?_
    refine w_icmpne (t := 29) rfl rfl (show inr (y11_3_15) from q_275 j11_0 r3) (show inr (a2) from h1) (fun b4 => ?_) (fun b4 => ?_)
    · refine Ew_of (pcₚ := 30) (fun _ => x_aload_n rfl l11_0) ?_
      refine w_gT H (o := 3) (t := 1) rfl (H.perm 3 rfl) rfl rfl rfl rfl rfl rfl ?_
      refine w_gT H (o := 1) (t := 14) rfl (H.perm 1 rfl) rfl rfl rfl rfl rfl rfl ?_
      refine Ew_of (pcₚ := 37) (fun _ => x_aload_n rfl l11_0) ?_
      refine w_gI H (o := 3) (w := y11_3_15) rfl (H.perm 3 rfl) rfl rfl rfl (fun _ => rfl) (ey11_3_15) ?_
      refine w_lI H (o := 14) (n := 65536) rfl (H.perm 14 rfl) rfl rfl (H.fix 14 rfl rfl) (show 0 ≤ y11_3_15 ∧ y11_3_15 < ((65536 : Nat) : Int) by omega) (by decide) (fun v5 ev5 qv5 => ?_)
      have qv5 : (0 : Int) ≤ v5 ∧ v5 ≤ 255 := qv5
      have ev5 : (A 14) (y11_3_15) = v5 := (congrFun (funext (hA_11 14 rfl)) (y11_3_15)).symm.trans ev5
      refine Ew_of (pcₚ := 43) (fun _ => x_istore rfl) ?_
      refine Ew_of (pcₚ := 44) (fun _ => x_aload_n rfl (rk_o (l11_0) rfl rfl)) ?_
      refine Ew_of (pcₚ := 45) (fun _ => x_dup rfl rfl) ?_
      refine w_gI H (o := 3) (w := y11_3_15) rfl (H.perm 3 rfl) rfl rfl rfl (fun _ => rfl) (ey11_3_15) ?_
      refine Ew_of (pcₚ := 49) (fun _ => x_iconst rfl) ?_
      refine w_iadd rfl ?_
      refine w_pI H (o := 3) rfl rfl (H.perm 3 rfl) rfl rfl rfl (fun _ => rfl) rfl (show (-2147483648 : Int) ≤ (y11_3_15 + 1) ∧ (y11_3_15 + 1) ≤ 2147483647 from q_276 h3 j11_0) (fun σ H => ?_)
      refine Ew_of (pcₚ := 54) (fun _ => x_aload_n rfl (rk_o (l11_0) rfl rfl)) ?_
      refine Ew_of (pcₚ := 56) (fun _ => x_iload rfl rk_s) ?_
      refine Ew_of (pcₚ := 58) (fun _ => x_bipush (z := 16) rfl (by decide)) ?_
      refine w_idiv rfl (show inr (v5) ∧ 0 ≤ v5 from q_278 qv5) (show inr (16) ∧ 0 < 16 from q_277) ?_
      refine Ew_of (pcₚ := 60) (fun _ => x_iload_n rfl (rk_o (l11_2) rfl rfl)) ?_
      refine w_inv H (o := 3) rfl rfl rfl (H.perm 3 rfl) rfl rfl (by rfl) (M371 H ((y11_3_15 + 1)) (rfl) (show inr ((v5 / 16)) from q_280 qv5) (show inr (a2) from h1) (show 0 ≤ ((v5 / 16)) ∧ ((v5 / 16)) ≤ 15 from q_279 qv5) (show 0 ≤ ((y11_3_15 + 1)) ∧ ((y11_3_15 + 1)) ≤ (a2) ∧ (a2) ≤ 65536 by omega) (fun z10 σ F6 A7 H hS8 hA9 y11 ey12 y13 ey14 pz10_0 pz10_1 pz10_2 => ⟨rretB rfl pz10_0, ?_⟩))
      have r15 : (-2147483648 : Int) ≤ y11 ∧ y11 ≤ 2147483647 := rngE (show (-2147483648 : Int) ≤ F6 3 15 ∧ F6 3 15 ≤ 2147483647 from H.frng 3 15) (show F6 3 15 = y11 from (ey12))
      have r16 : (-2147483648 : Int) ≤ y13 ∧ y13 ≤ 2147483647 := rngE (show (-2147483648 : Int) ≤ F6 3 16 ∧ F6 3 16 ≤ 2147483647 from H.frng 3 16) (show F6 3 16 = y13 from (ey14))
      refine w_ifne (t := 68) rfl rfl (show inr (z10) from q_15 pz10_0) (fun b17 => ?_) (fun b17 => ?_)
      · refine Ew_of (pcₚ := 69) (fun _ => x_aload_n rfl (rk_o (l11_0) rfl rfl)) ?_
        refine w_gI H (o := 3) (w := y13) rfl (H.perm 3 rfl) rfl rfl rfl (fun _ => rfl) (ey14) ?_
        refine Ew_of (pcₚ := 74) (fun _ => x_istore rfl) ?_
        suffices hl74 : ∀ (m : Nat), ∀ (ls : rO) (σ : rS) (F_74 : hF) (A_74 : hA) (x74_6 : Int), rlook ls 0 = some (.ref (D 3)) → rlook ls 2 = some (I (a2)) → rlook ls 3 = some (I (a3)) → rlook ls 4 = some (I (u3_12)) → rlook ls 5 = some (I (v5)) → rlook ls 6 = some (I (x74_6)) → HS σ0 σ D N F_74 A_74 → SF [(3, 12), (3, 15)] F6 F_74 → SA [21] A7 A_74 → ∀ y74_3_12 : Int, F_74 3 12 = y74_3_12 → ∀ y74_3_15 : Int, F_74 3 15 = y74_3_15 → (inr (x74_6)) → ((x74_6) ≤ (y13)) → ((y13) ≤ (x74_6) ∨ (0) ≤ (x74_6)) → ((y11) ≤ (y74_3_15) ∧ (y74_3_15) ≤ (a2)) → ((u3_12) ≤ (y74_3_12) ∧ (y74_3_12) ≤ (u3_12) + (a3)) → ((x74_6) - (0)).toNat = m → Ew 372 (d + 1) 74 ls [] σ c s Q from
          hl74 _ _ σ _ _ (y13) (rk_o (rk_o (l11_0) rfl rfl) rfl rfl) (rk_o (rk_o (l11_2) rfl rfl) rfl rfl) (rk_o (rk_o (l11_3) rfl rfl) rfl rfl) (rk_o (rk_o (l11_4) rfl rfl) rfl rfl) (rk_o (rk_s) rfl rfl) (rk_s) H (SF_refl) (SA_refl) (y11_3_12) (((hS8 3 12 rfl).trans (ey11_3_12))) (y11) ((ey12))  (show inr (y13) from q_283 pz10_2 r16) (show (y13) ≤ (y13) from q_102) (show (y13) ≤ (y13) ∨ (0) ≤ (y13) from q_282) (show (y11) ≤ (y11) ∧ (y11) ≤ (a2) from q_281 pz10_1) (show (u3_12) ≤ (y11_3_12) ∧ (y11_3_12) ≤ (u3_12) + (a3) from j11_1) rfl
        as_aux_lemma =>
        intro m
        induction m using Nat.strongRecOn with
        | _ m ih74 =>
          intro ls σ F_74 A_74 x74_6 l74_0 l74_2 l74_3 l74_4 l74_5 l74_6 H hS_74 hA_74 y74_3_12 ey74_3_12 y74_3_15 ey74_3_15  j74_0 j74_1 j74_2 j74_3 j74_4 hm74
          have r18 : (-2147483648 : Int) ≤ y74_3_12 ∧ y74_3_12 ≤ 2147483647 := rngE (show (-2147483648 : Int) ≤ F_74 3 12 ∧ F_74 3 12 ≤ 2147483647 from H.frng 3 12) (show F_74 3 12 = y74_3_12 from (ey74_3_12))
          have r19 : (-2147483648 : Int) ≤ y74_3_15 ∧ y74_3_15 ≤ 2147483647 := rngE (show (-2147483648 : Int) ≤ F_74 3 15 ∧ F_74 3 15 ≤ 2147483647 from H.frng 3 15) (show F_74 3 15 = y74_3_15 from (ey74_3_15))
          refine Ew_of (pcₚ := 76) (fun _ => x_iload rfl l74_6) ?_
          refine w_ifle (t := 160) rfl rfl (show inr (x74_6) from j74_0) (fun b20 => ?_) (fun b20 => ?_)
          · refine Ew_of (pcₚ := 161) (fun _ => x_aload_n rfl l74_0) ?_
            refine w_gI H (o := 3) (w := y74_3_15) rfl (H.perm 3 rfl) rfl rfl rfl (fun _ => rfl) (ey74_3_15) ?_
            refine Ew_of (pcₚ := 165) (fun _ => x_iload_n rfl l74_2) ?_
            refine w_icmpne (t := 170) rfl rfl (show inr (y74_3_15) from q_22 r19) (show inr (a2) from h1) (fun b21 => ?_) (fun b21 => ?_)
            · refine Ew_of (pcₚ := 171) (fun _ => x_aload_n rfl l74_0) ?_
              refine w_gI H (o := 3) (w := y74_3_15) rfl (H.perm 3 rfl) rfl rfl rfl (fun _ => rfl) (ey74_3_15) ?_
              refine Ew_of (pcₚ := 176) (fun _ => x_istore rfl) ?_
              refine Ew_of (pcₚ := 177) (fun _ => x_aload_n rfl (rk_o (l74_0) rfl rfl)) ?_
              refine w_gI H (o := 3) (w := y74_3_15) rfl (H.perm 3 rfl) rfl rfl rfl (fun _ => rfl) (ey74_3_15) ?_
              refine Ew_of (pcₚ := 181) (fun _ => x_iconst rfl) ?_
              refine w_iadd rfl ?_
              refine Ew_of (pcₚ := 183) (fun _ => x_iload_n rfl (rk_o (l74_2) rfl rfl)) ?_
              refine w_icmple (t := 188) rfl rfl (show inr ((y74_3_15 + 2)) from q_284 h3 j74_3 r19) (show inr (a2) from h1) (fun b22 => ?_) (fun b22 => ?_)
              · refine Ew_of (pcₚ := 189) (fun _ => x_aload_n rfl (rk_o (l74_0) rfl rfl)) ?_
                refine w_gT H (o := 3) (t := 1) rfl (H.perm 3 rfl) rfl rfl rfl rfl rfl rfl ?_
                refine w_gT H (o := 1) (t := 14) rfl (H.perm 1 rfl) rfl rfl rfl rfl rfl rfl ?_
                refine Ew_of (pcₚ := 196) (fun _ => x_aload_n rfl (rk_o (l74_0) rfl rfl)) ?_
                refine w_gI H (o := 3) (w := y74_3_15) rfl (H.perm 3 rfl) rfl rfl rfl (fun _ => rfl) (ey74_3_15) ?_
                refine w_lI H (o := 14) (n := 65536) rfl (H.perm 14 rfl) rfl rfl (H.fix 14 rfl rfl) (show 0 ≤ y74_3_15 ∧ y74_3_15 < ((65536 : Nat) : Int) from q_285 b22 h3 j11_0 j74_3 pz10_1) (by decide) (fun v23 ev23 qv23 => ?_)
                have qv23 : (0 : Int) ≤ v23 ∧ v23 ≤ 255 := qv23
                have ev23 : (A 14) (y74_3_15) = v23 := (congrFun ((funext (hA_74 14 rfl)).trans ((funext (hA9 14 rfl)).trans (funext (hA_11 14 rfl)))) (y74_3_15)).symm.trans ev23
                refine Ew_of (pcₚ := 203) (fun _ => x_sipush (z := 256) rfl (by decide)) ?_
                refine Ew_of (pcₚ := 204) (fun _ => x_aload_n rfl (rk_o (l74_0) rfl rfl)) ?_
                refine w_gT H (o := 3) (t := 1) rfl (H.perm 3 rfl) rfl rfl rfl rfl rfl rfl ?_
                refine w_gT H (o := 1) (t := 14) rfl (H.perm 1 rfl) rfl rfl rfl rfl rfl rfl ?_
                refine Ew_of (pcₚ := 211) (fun _ => x_aload_n rfl (rk_o (l74_0) rfl rfl)) ?_
                refine w_gI H (o := 3) (w := y74_3_15) rfl (H.perm 3 rfl) rfl rfl rfl (fun _ => rfl) (ey74_3_15) ?_
                refine Ew_of (pcₚ := 215) (fun _ => x_iconst rfl) ?_
                refine w_iadd rfl ?_
                refine w_lI H (o := 14) (n := 65536) rfl (H.perm 14 rfl) rfl rfl (H.fix 14 rfl rfl) (show 0 ≤ (y74_3_15 + 1) ∧ (y74_3_15 + 1) < ((65536 : Nat) : Int) from q_286 b22 h3 j11_0 j74_3 pz10_1) (by decide) (fun v24 ev24 qv24 => ?_)
                have qv24 : (0 : Int) ≤ v24 ∧ v24 ≤ 255 := qv24
                have ev24 : (A 14) ((y74_3_15 + 1)) = v24 := (congrFun ((funext (hA_74 14 rfl)).trans ((funext (hA9 14 rfl)).trans (funext (hA_11 14 rfl)))) ((y74_3_15 + 1))).symm.trans ev24
                refine w_imul rfl ?_
                refine w_iadd rfl ?_
                refine Ew_of (pcₚ := 221) (fun _ => x_istore rfl) ?_
                refine Ew_of (pcₚ := 222) (fun _ => x_aload_n rfl (rk_o (rk_o (l74_0) rfl rfl) rfl rfl)) ?_
                refine Ew_of (pcₚ := 223) (fun _ => x_dup rfl rfl) ?_
                refine w_gI H (o := 3) (w := y74_3_15) rfl (H.perm 3 rfl) rfl rfl rfl (fun _ => rfl) (ey74_3_15) ?_
                refine Ew_of (pcₚ := 227) (fun _ => x_iconst rfl) ?_
                refine w_iadd rfl ?_
                refine w_pI H (o := 3) rfl rfl (H.perm 3 rfl) rfl rfl rfl (fun _ => rfl) rfl (show (-2147483648 : Int) ≤ (y74_3_15 + 2) ∧ (y74_3_15 + 2) ≤ 2147483647 from q_287 b22 h3 r19) (fun σ H => ?_)
                refine Ew_of (pcₚ := 233) (fun _ => x_iload rfl rk_s) ?_
                refine w_ifeq (t := 245) rfl rfl (show inr ((v23 + (256 * v24))) from q_288 qv23 qv24) (fun b25 => ?_) (fun b25 => ?_)
                · refine Ew_of (pcₚ := 246) (fun _ => x_aload_n rfl (rk_o (rk_o (l74_0) rfl rfl) rfl rfl)) ?_
                  refine w_gT H (o := 3) (t := 1) rfl (H.perm 3 rfl) rfl rfl rfl rfl rfl rfl ?_
                  refine Ew_of (pcₚ := 251) (fun _ => x_iload rfl (rk_o (rk_s) rfl rfl)) ?_
                  refine w_pI H (o := 1) rfl rfl (H.perm 1 rfl) rfl rfl rfl (fun _ => rfl) rfl (show (-2147483648 : Int) ≤ y74_3_15 ∧ y74_3_15 ≤ 2147483647 from r19) (fun σ H => ?_)
                  refine Ew_of (pcₚ := 255) (fun _ => x_iconst rfl) ?_
                  exact w_ireturn rfl (k (2) σ _ _ H (SF_upd (SF_upd (SF_trans (SF_trans (SF_upd (SF_upd (SF_trans (SF_upd (SF_refl) rfl) hS_11 (any_sub rfl)) rfl) rfl) hS8 (any_sub rfl)) hS_74 (any_sub rfl)) rfl) rfl) (SA_trans (SA_trans (SA_trans (SA_refl) hA_11 (any_subA rfl)) hA9 (any_subA rfl)) hA_74 (any_subA rfl)) (y74_3_12) ((ey74_3_12)) (show inr (2) from q_55) (show 0 ≤ (2) ∧ (2) ≤ 3 by first | exact q_289 | omega) (show (u3_12) ≤ (y74_3_12) ∧ (y74_3_12) ≤ (u3_12) + a3 from j74_4))
                · refine Ew_of (pcₚ := 238) (fun _ => x_iload rfl rk_s) ?_
                  refine Ew_of (pcₚ := 239) (fun _ => x_aload_n rfl (rk_o (rk_o (l74_0) rfl rfl) rfl rfl)) ?_
                  refine w_gI H (o := 3) (w := y74_3_12) rfl (H.perm 3 rfl) rfl rfl rfl (fun _ => rfl) (ey74_3_12) ?_
                  refine w_icmple (t := 256) rfl rfl (show inr ((v23 + (256 * v24))) from q_288 qv23 qv24) (show inr (y74_3_12) from q_22 r18) (fun b26 => ?_) (fun b26 => ?_)
                  · refine Ew_of (pcₚ := 257) (fun _ => x_aload_n rfl (rk_o (rk_o (l74_0) rfl rfl) rfl rfl)) ?_
                    refine Ew_of (pcₚ := 259) (fun _ => x_iload rfl (rk_o (rk_o (l74_5) rfl rfl) rfl rfl)) ?_
                    refine Ew_of (pcₚ := 261) (fun _ => x_bipush (z := 16) rfl (by decide)) ?_
                    refine w_irem rfl (show inr (v5) ∧ 0 ≤ v5 from q_278 qv5) (show inr (16) ∧ 0 < 16 from q_277) ?_
                    refine Ew_of (pcₚ := 263) (fun _ => x_iload_n rfl (rk_o (rk_o (l74_2) rfl rfl) rfl rfl)) ?_
                    refine w_inv H (o := 3) rfl rfl rfl (H.perm 3 rfl) rfl rfl (by rfl) (M371 H ((y74_3_15 + 2)) (rfl) (show inr ((v5 % 16)) from q_292) (show inr (a2) from h1) (show 0 ≤ ((v5 % 16)) ∧ ((v5 % 16)) ≤ 15 from q_291) (show 0 ≤ ((y74_3_15 + 2)) ∧ ((y74_3_15 + 2)) ≤ (a2) ∧ (a2) ≤ 65536 from q_290 b22 h3 j11_0 j74_3 pz10_1) (fun z31 σ F27 A28 H hS29 hA30 y32 ey33 y34 ey35 pz31_0 pz31_1 pz31_2 => ⟨rretB rfl pz31_0, ?_⟩))
                    have r36 : (-2147483648 : Int) ≤ y32 ∧ y32 ≤ 2147483647 := rngE (show (-2147483648 : Int) ≤ F27 3 15 ∧ F27 3 15 ≤ 2147483647 from H.frng 3 15) (show F27 3 15 = y32 from (ey33))
                    have r37 : (-2147483648 : Int) ≤ y34 ∧ y34 ≤ 2147483647 := rngE (show (-2147483648 : Int) ≤ F27 3 16 ∧ F27 3 16 ≤ 2147483647 from H.frng 3 16) (show F27 3 16 = y34 from (ey35))
                    refine w_ifne (t := 271) rfl rfl (show inr (z31) from q_15 pz31_0) (fun b38 => ?_) (fun b38 => ?_)
                    · refine Ew_of (pcₚ := 272) (fun _ => x_aload_n rfl (rk_o (rk_o (l74_0) rfl rfl) rfl rfl)) ?_
                      refine w_gI H (o := 3) (w := y34) rfl (H.perm 3 rfl) rfl rfl rfl (fun _ => rfl) (ey35) ?_
                      refine Ew_of (pcₚ := 276) (fun _ => x_iconst rfl) ?_
                      refine w_iadd rfl ?_
                      refine Ew_of (pcₚ := 278) (fun _ => x_iload_n rfl (rk_o (rk_o (l74_3) rfl rfl) rfl rfl)) ?_
                      refine Ew_of (pcₚ := 279) (fun _ => x_aload_n rfl (rk_o (rk_o (l74_0) rfl rfl) rfl rfl)) ?_
                      refine w_gI H (o := 3) (w := y74_3_12) rfl (H.perm 3 rfl) rfl rfl rfl (fun _ => rfl) ((hS29 3 12 rfl).trans (ey74_3_12)) ?_
                      refine Ew_of (pcₚ := 284) (fun _ => x_iload rfl (rk_o (rk_o (l74_4) rfl rfl) rfl rfl)) ?_
                      refine w_isub rfl ?_
                      refine w_isub rfl ?_
                      refine w_icmple (t := 300) rfl rfl (show inr ((y34 + 4)) by omega) (show inr ((a3 - (y74_3_12 - u3_12))) from q_293 h3 j74_4) (fun b39 => ?_) (fun b39 => ?_)
                      · refine Ew_of (pcₚ := 301) (fun _ => x_iconst rfl) ?_
                        refine Ew_of (pcₚ := 303) (fun _ => x_istore rfl) ?_
                        suffices hl303 : ∀ (m : Nat), ∀ (ls : rO) (σ : rS) (F_303 : hF) (A_303 : hA) (x303_8 : Int), rlook ls 0 = some (.ref (D 3)) → rlook ls 2 = some (I (a2)) → rlook ls 3 = some (I (a3)) → rlook ls 4 = some (I (u3_12)) → rlook ls 7 = some (I ((v23 + (256 * v24)))) → rlook ls 8 = some (I (x303_8)) → HS σ0 σ D N F_303 A_303 → SF [(3, 12)] F27 F_303 → SA [21] A28 A_303 → ∀ y303_3_12 : Int, F_303 3 12 = y303_3_12 → (inr (x303_8)) → ((0) ≤ (x303_8)) → ((x303_8) ≤ (0) ∨ (x303_8) ≤ (((y34) + 4))) → ((y303_3_12) = (y74_3_12) + (x303_8)) → ((((y34) + 4)) - (x303_8)).toNat = m → Ew 372 (d + 1) 303 ls [] σ c s Q from
                          hl303 _ _ σ _ _ (0) (rk_o (rk_o (rk_o (l74_0) rfl rfl) rfl rfl) rfl rfl) (rk_o (rk_o (rk_o (l74_2) rfl rfl) rfl rfl) rfl rfl) (rk_o (rk_o (rk_o (l74_3) rfl rfl) rfl rfl) rfl rfl) (rk_o (rk_o (rk_o (l74_4) rfl rfl) rfl rfl) rfl rfl) (rk_o (rk_s) rfl rfl) (rk_s) H (SF_refl) (SA_refl) (y74_3_12) (((hS29 3 12 rfl).trans (ey74_3_12)))  (show inr (0) from q_20) (show (0) ≤ (0) from q_25) (show (0) ≤ (0) ∨ (0) ≤ (((y34) + 4)) from q_294) (show (y74_3_12) = (y74_3_12) + (0) from q_110) rfl
                        as_aux_lemma =>
                        intro m
                        induction m using Nat.strongRecOn with
                        | _ m ih303 =>
                          intro ls σ F_303 A_303 x303_8 l303_0 l303_2 l303_3 l303_4 l303_7 l303_8 H hS_303 hA_303 y303_3_12 ey303_3_12  j303_0 j303_1 j303_2 j303_3 hm303
                          have r40 : (-2147483648 : Int) ≤ y303_3_12 ∧ y303_3_12 ≤ 2147483647 := rngE (show (-2147483648 : Int) ≤ F_303 3 12 ∧ F_303 3 12 ≤ 2147483647 from H.frng 3 12) (show F_303 3 12 = y303_3_12 from (ey303_3_12))
                          refine Ew_of (pcₚ := 305) (fun _ => x_iload rfl l303_8) ?_
                          refine Ew_of (pcₚ := 306) (fun _ => x_aload_n rfl l303_0) ?_
                          refine w_gI H (o := 3) (w := y34) rfl (H.perm 3 rfl) rfl rfl rfl (fun _ => rfl) ((hS_303 3 16 rfl).trans (ey35)) ?_
                          refine Ew_of (pcₚ := 310) (fun _ => x_iconst rfl) ?_
                          refine w_iadd rfl ?_
                          refine w_icmpge (t := 351) rfl rfl (show inr (x303_8) from j303_0) (show inr ((y34 + 4)) from q_295 b39 h3 j74_4 pz31_2) (fun b41 => ?_) (fun b41 => ?_)
                          · refine Ew_of (pcₚ := 11) (fun _ => x_goto rfl rfl) ?_
                            exact ih11 _ (msE hm11 (q_297 j74_3 pz10_1 pz31_1) (q_298 b22 j11_0 j74_3 pz10_1)) _ σ _ _  (l303_0) (l303_2) (l303_3) (l303_4) H (SF_trans (SF_trans (SF_upd (SF_trans (SF_trans (SF_upd (SF_upd (hS_11) rfl) rfl) hS8 (any_sub rfl)) hS_74 (any_sub rfl)) rfl) hS29 (any_sub rfl)) hS_303 (any_sub rfl)) (SA_trans (SA_trans (SA_trans (SA_trans (hA_11) hA9 (any_subA rfl)) hA_74 (any_subA rfl)) hA30 (any_subA rfl)) hA_303 (any_subA rfl)) (y303_3_12) ((ey303_3_12)) (y32) (((hS_303 3 15 rfl).trans (ey33)))  (show 0 ≤ (y32) ∧ (y32) ≤ (a2) from q_296 j11_0 j74_3 pz10_1 pz31_1) (show (u3_12) ≤ (y303_3_12) ∧ (y303_3_12) ≤ (u3_12) + (a3) by omega) rfl
                          · refine Ew_of (pcₚ := 315) (fun _ => x_aload_n rfl l303_0) ?_
                            refine w_gT H (o := 3) (t := 21) rfl (H.perm 3 rfl) rfl rfl rfl rfl rfl rfl ?_
                            refine Ew_of (pcₚ := 319) (fun _ => x_aload_n rfl l303_0) ?_
                            refine w_gI H (o := 3) (w := y303_3_12) rfl (H.perm 3 rfl) rfl rfl rfl (fun _ => rfl) (ey303_3_12) ?_
                            refine Ew_of (pcₚ := 323) (fun _ => x_aload_n rfl l303_0) ?_
                            refine w_gT H (o := 3) (t := 21) rfl (H.perm 3 rfl) rfl rfl rfl rfl rfl rfl ?_
                            refine Ew_of (pcₚ := 327) (fun _ => x_aload_n rfl l303_0) ?_
                            refine w_gI H (o := 3) (w := y303_3_12) rfl (H.perm 3 rfl) rfl rfl rfl (fun _ => rfl) (ey303_3_12) ?_
                            refine Ew_of (pcₚ := 332) (fun _ => x_iload rfl l303_7) ?_
                            refine w_isub rfl ?_
                            refine w_lI H (o := 21) (n := 131072) rfl (H.perm 21 rfl) rfl rfl (H.fix 21 rfl rfl) (show 0 ≤ (y303_3_12 - (v23 + (256 * v24))) ∧ (y303_3_12 - (v23 + (256 * v24))) < ((131072 : Nat) : Int) from q_299 b26 b39 b41 h4 j303_1 j303_3 qv23 qv24) (by decide) (fun v42 ev42 qv42 => ?_)
                            have qv42 : (0 : Int) ≤ v42 ∧ v42 ≤ 255 := qv42
                            have ev42 : (A_303 21) ((y303_3_12 - (v23 + (256 * v24)))) = v42 := (congrFun (rfl : A_303 21 = A_303 21) ((y303_3_12 - (v23 + (256 * v24))))).symm.trans ev42
                            refine w_sI H (o := 21) (n := 131072) rfl (H.perm 21 rfl) rfl rfl (H.fix 21 rfl rfl) (show 0 ≤ y303_3_12 ∧ y303_3_12 < ((131072 : Nat) : Int) from q_300 b39 b41 h4 j303_1 j303_3 j74_4) (by decide) (show (0 : Int) ≤ v42 ∧ v42 ≤ 255 from qv42) (fun σ H => ?_)
                            refine Ew_of (pcₚ := 336) (fun _ => x_aload_n rfl l303_0) ?_
                            refine Ew_of (pcₚ := 337) (fun _ => x_dup rfl rfl) ?_
                            refine w_gI H (o := 3) (w := y303_3_12) rfl (H.perm 3 rfl) rfl rfl rfl (fun _ => rfl) (ey303_3_12) ?_
                            refine Ew_of (pcₚ := 341) (fun _ => x_iconst rfl) ?_
                            refine w_iadd rfl ?_
                            refine w_pI H (o := 3) rfl rfl (H.perm 3 rfl) rfl rfl rfl (fun _ => rfl) rfl (show (-2147483648 : Int) ≤ (y303_3_12 + 1) ∧ (y303_3_12 + 1) ≤ 2147483647 from q_301 b39 b41 h4 j303_3 r40) (fun σ H => ?_)
                            refine Ew_of (pcₚ := 348) (fun _ => x_iinc (len := 3) rfl (l303_8)) ?_
                            refine Ew_of (pcₚ := 303) (fun _ => x_goto rfl rfl) ?_
                            exact ih303 _ (msE hm303 q_305 (q_306 b41)) _ σ _ _ ((x303_8 + 1)) (rk_o (l303_0) rfl rfl) (rk_o (l303_2) rfl rfl) (rk_o (l303_3) rfl rfl) (rk_o (l303_4) rfl rfl) (rk_o (l303_7) rfl rfl) (rk_s) H (SF_upd (hS_303) rfl) (SA_upd (hA_303) rfl) ((y303_3_12 + 1)) (rfl)  (show inr ((x303_8 + 1)) from q_304 b39 b41 h3 j303_1 j74_4) (show (0) ≤ ((x303_8 + 1)) from q_29 j303_1) (show ((x303_8 + 1)) ≤ (0) ∨ ((x303_8 + 1)) ≤ (((y34) + 4)) from q_303 b41) (show ((y303_3_12 + 1)) = (y74_3_12) + ((x303_8 + 1)) from q_302 j303_3) rfl
                      · refine Ew_of (pcₚ := 290) (fun _ => x_aload_n rfl (rk_o (rk_o (l74_0) rfl rfl) rfl rfl)) ?_
                        refine w_gT H (o := 3) (t := 1) rfl (H.perm 3 rfl) rfl rfl rfl rfl rfl rfl ?_
                        refine Ew_of (pcₚ := 295) (fun _ => x_iload rfl (rk_o (rk_s) rfl rfl)) ?_
                        refine w_pI H (o := 1) rfl rfl (H.perm 1 rfl) rfl rfl rfl (fun _ => rfl) rfl (show (-2147483648 : Int) ≤ y74_3_15 ∧ y74_3_15 ≤ 2147483647 from r19) (fun σ H => ?_)
                        refine Ew_of (pcₚ := 299) (fun _ => x_iconst rfl) ?_
                        exact w_ireturn rfl (k (3) σ _ _ H (SF_upd (SF_trans (SF_upd (SF_trans (SF_trans (SF_upd (SF_upd (SF_trans (SF_upd (SF_refl) rfl) hS_11 (any_sub rfl)) rfl) rfl) hS8 (any_sub rfl)) hS_74 (any_sub rfl)) rfl) hS29 (any_sub rfl)) rfl) (SA_trans (SA_trans (SA_trans (SA_trans (SA_refl) hA_11 (any_subA rfl)) hA9 (any_subA rfl)) hA_74 (any_subA rfl)) hA30 (any_subA rfl)) (y74_3_12) (((hS29 3 12 rfl).trans (ey74_3_12))) (show inr (3) from q_66) (show 0 ≤ (3) ∧ (3) ≤ 3 by first | exact q_307 | omega) (show (u3_12) ≤ (y74_3_12) ∧ (y74_3_12) ≤ (u3_12) + a3 from j74_4))
                    · refine Ew_of (pcₚ := 270) (fun _ => x_iconst rfl) ?_
                      exact w_ireturn rfl (k (1) σ _ _ H (SF_trans (SF_upd (SF_trans (SF_trans (SF_upd (SF_upd (SF_trans (SF_upd (SF_refl) rfl) hS_11 (any_sub rfl)) rfl) rfl) hS8 (any_sub rfl)) hS_74 (any_sub rfl)) rfl) hS29 (any_sub rfl)) (SA_trans (SA_trans (SA_trans (SA_trans (SA_refl) hA_11 (any_subA rfl)) hA9 (any_subA rfl)) hA_74 (any_subA rfl)) hA30 (any_subA rfl)) (y74_3_12) (((hS29 3 12 rfl).trans (ey74_3_12))) (show inr (1) from q_23) (show 0 ≤ (1) ∧ (1) ≤ 3 by first | exact q_308 | omega) (show (u3_12) ≤ (y74_3_12) ∧ (y74_3_12) ≤ (u3_12) + a3 from j74_4))
                  · refine Ew_of (pcₚ := 246) (fun _ => x_aload_n rfl (rk_o (rk_o (l74_0) rfl rfl) rfl rfl)) ?_
                    refine w_gT H (o := 3) (t := 1) rfl (H.perm 3 rfl) rfl rfl rfl rfl rfl rfl ?_
                    refine Ew_of (pcₚ := 251) (fun _ => x_iload rfl (rk_o (rk_s) rfl rfl)) ?_
                    refine w_pI H (o := 1) rfl rfl (H.perm 1 rfl) rfl rfl rfl (fun _ => rfl) rfl (show (-2147483648 : Int) ≤ y74_3_15 ∧ y74_3_15 ≤ 2147483647 from r19) (fun σ H => ?_)
                    refine Ew_of (pcₚ := 255) (fun _ => x_iconst rfl) ?_
                    exact w_ireturn rfl (k (2) σ _ _ H (SF_upd (SF_upd (SF_trans (SF_trans (SF_upd (SF_upd (SF_trans (SF_upd (SF_refl) rfl) hS_11 (any_sub rfl)) rfl) rfl) hS8 (any_sub rfl)) hS_74 (any_sub rfl)) rfl) rfl) (SA_trans (SA_trans (SA_trans (SA_refl) hA_11 (any_subA rfl)) hA9 (any_subA rfl)) hA_74 (any_subA rfl)) (y74_3_12) ((ey74_3_12)) (show inr (2) from q_55) (show 0 ≤ (2) ∧ (2) ≤ 3 by first | exact q_289 | omega) (show (u3_12) ≤ (y74_3_12) ∧ (y74_3_12) ≤ (u3_12) + a3 from j74_4))
              · refine Ew_of (pcₚ := 187) (fun _ => x_iconst rfl) ?_
                exact w_ireturn rfl (k (1) σ _ _ H (SF_trans (SF_trans (SF_upd (SF_upd (SF_trans (SF_upd (SF_refl) rfl) hS_11 (any_sub rfl)) rfl) rfl) hS8 (any_sub rfl)) hS_74 (any_sub rfl)) (SA_trans (SA_trans (SA_trans (SA_refl) hA_11 (any_subA rfl)) hA9 (any_subA rfl)) hA_74 (any_subA rfl)) (y74_3_12) ((ey74_3_12)) (show inr (1) from q_23) (show 0 ≤ (1) ∧ (1) ≤ 3 by first | exact q_308 | omega) (show (u3_12) ≤ (y74_3_12) ∧ (y74_3_12) ≤ (u3_12) + a3 from j74_4))
            · refine Ew_of (pcₚ := 169) (fun _ => x_iconst rfl) ?_
              exact w_ireturn rfl (k (0) σ _ _ H (SF_trans (SF_trans (SF_upd (SF_upd (SF_trans (SF_upd (SF_refl) rfl) hS_11 (any_sub rfl)) rfl) rfl) hS8 (any_sub rfl)) hS_74 (any_sub rfl)) (SA_trans (SA_trans (SA_trans (SA_refl) hA_11 (any_subA rfl)) hA9 (any_subA rfl)) hA_74 (any_subA rfl)) (y74_3_12) ((ey74_3_12)) (show inr (0) from q_20) (show 0 ≤ (0) ∧ (0) ≤ 3 by first | exact q_309 | omega) (show (u3_12) ≤ (y74_3_12) ∧ (y74_3_12) ≤ (u3_12) + a3 from j74_4))
          · refine Ew_of (pcₚ := 80) (fun _ => x_aload_n rfl l74_0) ?_
            refine w_gI H (o := 3) (w := y74_3_15) rfl (H.perm 3 rfl) rfl rfl rfl (fun _ => rfl) (ey74_3_15) ?_
            refine Ew_of (pcₚ := 84) (fun _ => x_iload_n rfl l74_2) ?_
            refine w_icmpne (t := 89) rfl rfl (show inr (y74_3_15) from q_22 r19) (show inr (a2) from h1) (fun b43 => ?_) (fun b43 => ?_)
            · refine Ew_of (pcₚ := 90) (fun _ => x_aload_n rfl l74_0) ?_
              refine w_gI H (o := 3) (w := y74_3_12) rfl (H.perm 3 rfl) rfl rfl rfl (fun _ => rfl) (ey74_3_12) ?_
              refine Ew_of (pcₚ := 95) (fun _ => x_iload rfl l74_4) ?_
              refine w_isub rfl ?_
              refine Ew_of (pcₚ := 97) (fun _ => x_iload_n rfl l74_3) ?_
              refine w_icmpne (t := 113) rfl rfl (show inr ((y74_3_12 - u3_12)) from q_310 h4 j74_4) (show inr (a3) from h2) (fun b44 => ?_) (fun b44 => ?_)
              · refine Ew_of (pcₚ := 114) (fun _ => x_aload_n rfl l74_0) ?_
                refine w_gT H (o := 3) (t := 21) rfl (H.perm 3 rfl) rfl rfl rfl rfl rfl rfl ?_
                refine Ew_of (pcₚ := 118) (fun _ => x_aload_n rfl l74_0) ?_
                refine w_gI H (o := 3) (w := y74_3_12) rfl (H.perm 3 rfl) rfl rfl rfl (fun _ => rfl) (ey74_3_12) ?_
                refine Ew_of (pcₚ := 122) (fun _ => x_aload_n rfl l74_0) ?_
                refine w_gT H (o := 3) (t := 1) rfl (H.perm 3 rfl) rfl rfl rfl rfl rfl rfl ?_
                refine w_gT H (o := 1) (t := 14) rfl (H.perm 1 rfl) rfl rfl rfl rfl rfl rfl ?_
                refine Ew_of (pcₚ := 129) (fun _ => x_aload_n rfl l74_0) ?_
                refine w_gI H (o := 3) (w := y74_3_15) rfl (H.perm 3 rfl) rfl rfl rfl (fun _ => rfl) (ey74_3_15) ?_
                refine w_lI H (o := 14) (n := 65536) rfl (H.perm 14 rfl) rfl rfl (H.fix 14 rfl rfl) (show 0 ≤ y74_3_15 ∧ y74_3_15 < ((65536 : Nat) : Int) by omega) (by decide) (fun v45 ev45 qv45 => ?_)
                have qv45 : (0 : Int) ≤ v45 ∧ v45 ≤ 255 := qv45
                have ev45 : (A 14) (y74_3_15) = v45 := (congrFun ((funext (hA_74 14 rfl)).trans ((funext (hA9 14 rfl)).trans (funext (hA_11 14 rfl)))) (y74_3_15)).symm.trans ev45
                refine w_sI H (o := 21) (n := 131072) rfl (H.perm 21 rfl) rfl rfl (H.fix 21 rfl rfl) (show 0 ≤ y74_3_12 ∧ y74_3_12 < ((131072 : Nat) : Int) by omega) (by decide) (show (0 : Int) ≤ v45 ∧ v45 ≤ 255 from qv45) (fun σ H => ?_)
                refine Ew_of (pcₚ := 135) (fun _ => x_aload_n rfl l74_0) ?_
                refine Ew_of (pcₚ := 136) (fun _ => x_dup rfl rfl) ?_
                refine w_gI H (o := 3) (w := y74_3_12) rfl (H.perm 3 rfl) rfl rfl rfl (fun _ => rfl) (ey74_3_12) ?_
                refine Ew_of (pcₚ := 140) (fun _ => x_iconst rfl) ?_
                refine w_iadd rfl ?_
                refine w_pI H (o := 3) rfl rfl (H.perm 3 rfl) rfl rfl rfl (fun _ => rfl) rfl (show (-2147483648 : Int) ≤ (y74_3_12 + 1) ∧ (y74_3_12 + 1) ≤ 2147483647 from q_311 h4 j74_4 r18) (fun σ H => ?_)
                refine Ew_of (pcₚ := 145) (fun _ => x_aload_n rfl l74_0) ?_
                refine Ew_of (pcₚ := 146) (fun _ => x_dup rfl rfl) ?_
                refine w_gI H (o := 3) (w := y74_3_15) rfl (H.perm 3 rfl) rfl rfl rfl (fun _ => rfl) (ey74_3_15) ?_
                refine Ew_of (pcₚ := 150) (fun _ => x_iconst rfl) ?_
                refine w_iadd rfl ?_
                refine w_pI H (o := 3) rfl rfl (H.perm 3 rfl) rfl rfl rfl (fun _ => rfl) rfl (show (-2147483648 : Int) ≤ (y74_3_15 + 1) ∧ (y74_3_15 + 1) ≤ 2147483647 from q_312 h3 j74_3 r19) (fun σ H => ?_)
                refine Ew_of (pcₚ := 157) (fun _ => x_iinc (len := 3) rfl (l74_6)) ?_
                refine Ew_of (pcₚ := 74) (fun _ => x_goto rfl rfl) ?_
                exact ih74 _ (msE hm74 q_316 (q_317 b20)) _ σ _ _ ((x74_6 + (-1))) (rk_o (l74_0) rfl rfl) (rk_o (l74_2) rfl rfl) (rk_o (l74_3) rfl rfl) (rk_o (l74_4) rfl rfl) (rk_o (l74_5) rfl rfl) (rk_s) H (SF_upd (SF_upd (hS_74) rfl) rfl) (SA_upd (hA_74) rfl) ((y74_3_12 + 1)) (rfl) ((y74_3_15 + 1)) (rfl)  (show inr ((x74_6 + (-1))) from q_315 b20 j74_0) (show ((x74_6 + (-1))) ≤ (y13) from q_314 j74_1) (show (y13) ≤ ((x74_6 + (-1))) ∨ (0) ≤ ((x74_6 + (-1))) from q_313 b20) (show (y11) ≤ ((y74_3_15 + 1)) ∧ ((y74_3_15 + 1)) ≤ (a2) by omega) (show (u3_12) ≤ ((y74_3_12 + 1)) ∧ ((y74_3_12 + 1)) ≤ (u3_12) + (a3) by omega) rfl
              · refine Ew_of (pcₚ := 101) (fun _ => x_aload_n rfl l74_0) ?_
                refine w_gT H (o := 3) (t := 1) rfl (H.perm 3 rfl) rfl rfl rfl rfl rfl rfl ?_
                refine Ew_of (pcₚ := 105) (fun _ => x_aload_n rfl l74_0) ?_
                refine w_gI H (o := 3) (w := y74_3_15) rfl (H.perm 3 rfl) rfl rfl rfl (fun _ => rfl) (ey74_3_15) ?_
                refine w_pI H (o := 1) rfl rfl (H.perm 1 rfl) rfl rfl rfl (fun _ => rfl) rfl (show (-2147483648 : Int) ≤ y74_3_15 ∧ y74_3_15 ≤ 2147483647 from r19) (fun σ H => ?_)
                refine Ew_of (pcₚ := 112) (fun _ => x_iconst rfl) ?_
                exact w_ireturn rfl (k (3) σ _ _ H (SF_upd (SF_trans (SF_trans (SF_upd (SF_upd (SF_trans (SF_upd (SF_refl) rfl) hS_11 (any_sub rfl)) rfl) rfl) hS8 (any_sub rfl)) hS_74 (any_sub rfl)) rfl) (SA_trans (SA_trans (SA_trans (SA_refl) hA_11 (any_subA rfl)) hA9 (any_subA rfl)) hA_74 (any_subA rfl)) (y74_3_12) ((ey74_3_12)) (show inr (3) from q_66) (show 0 ≤ (3) ∧ (3) ≤ 3 by first | exact q_307 | omega) (show (u3_12) ≤ (y74_3_12) ∧ (y74_3_12) ≤ (u3_12) + a3 from j74_4))
            · refine Ew_of (pcₚ := 88) (fun _ => x_iconst rfl) ?_
              exact w_ireturn rfl (k (1) σ _ _ H (SF_trans (SF_trans (SF_upd (SF_upd (SF_trans (SF_upd (SF_refl) rfl) hS_11 (any_sub rfl)) rfl) rfl) hS8 (any_sub rfl)) hS_74 (any_sub rfl)) (SA_trans (SA_trans (SA_trans (SA_refl) hA_11 (any_subA rfl)) hA9 (any_subA rfl)) hA_74 (any_subA rfl)) (y74_3_12) ((ey74_3_12)) (show inr (1) from q_23) (show 0 ≤ (1) ∧ (1) ≤ 3 by first | exact q_308 | omega) (show (u3_12) ≤ (y74_3_12) ∧ (y74_3_12) ≤ (u3_12) + a3 from j74_4))
      · refine Ew_of (pcₚ := 67) (fun _ => x_iconst rfl) ?_
        exact w_ireturn rfl (k (1) σ _ _ H (SF_trans (SF_upd (SF_upd (SF_trans (SF_upd (SF_refl) rfl) hS_11 (any_sub rfl)) rfl) rfl) hS8 (any_sub rfl)) (SA_trans (SA_trans (SA_refl) hA_11 (any_subA rfl)) hA9 (any_subA rfl)) (y11_3_12) (((hS8 3 12 rfl).trans (ey11_3_12))) (show inr (1) from q_23) (show 0 ≤ (1) ∧ (1) ≤ 3 by first | exact q_308 | omega) (show (u3_12) ≤ (y11_3_12) ∧ (y11_3_12) ≤ (u3_12) + a3 from j11_1))
    · refine Ew_of (pcₚ := 28) (fun _ => x_iconst rfl) ?_
      exact w_ireturn rfl (k (1) σ _ _ H (SF_upd (SF_trans (SF_upd (SF_refl) rfl) hS_11 (any_sub rfl)) rfl) (SA_trans (SA_refl) hA_11 (any_subA rfl)) (y11_3_12) ((ey11_3_12)) (show inr (1) from q_23) (show 0 ≤ (1) ∧ (1) ≤ 3 by first | exact q_308 | omega) (show (u3_12) ≤ (y11_3_12) ∧ (y11_3_12) ≤ (u3_12) + a3 from j11_1))
/-- Tokens.unblock -/
theorem M374 {σ0 σ : rS} {D N : Nat → Nat} {F : hF} {A : hA} {d c s : Nat} {Q : wQ} (H : HS σ0 σ D N F A) {a1 : Int} (h0 : inr (a1)) (k : ∀ (z : Int) σ Fₚ Aₚ, HS σ0 σ D N Fₚ Aₚ → SF [(1, 3), (1, 4), (3, 12), (3, 15), (3, 16)] F Fₚ → SA [15, 21] A Aₚ → (inr (z)) → Q (some (I z)) σ c s) : Ew 374 (d + 2) 0 (rargs 0 [.ref (D 3), I a1]) [] σ c s Q := by
  refine Ew_of (pcₚ := 1) (fun _ => x_iload_n rfl rfl) ?_
  refine w_iflt (t := 10) rfl rfl (show inr (a1) from h0) (fun b1 => ?_) (fun b1 => ?_)
  · refine Ew_of (pcₚ := 12) (fun _ => x_bipush (z := -4) rfl (by decide)) ?_
    exact w_ireturn rfl (k ((-4)) σ _ _ H (SF_refl) (SA_refl) (show inr ((-4)) from q_318))
  · refine Ew_of (pcₚ := 5) (fun _ => x_iload_n rfl rfl) ?_
    refine Ew_of (pcₚ := 7) (fun _ => x_ldc (z := 65536) rfl (by decide)) ?_
    refine w_icmple (t := 13) rfl rfl (show inr (a1) from h0) (show inr (65536) from q_35) (fun b2 => ?_) (fun b2 => ?_)
    · refine Ew_of (pcₚ := 14) (fun _ => x_aload_n rfl rfl) ?_
      have r3 : (0 : Int) ≤ F 3 2 ∧ F 3 2 ≤ 65536 := H.frng 3 2
      refine w_inv H (o := 3) rfl rfl rfl (H.perm 3 rfl) rfl rfl (by rfl) (M373 H (F 3 2) (rfl)  (fun σ F4 A5 H hS6 hA7 y9 ey10 pz8_0 => ⟨rfl, ?_⟩))
      have r11 : (-2147483648 : Int) ≤ y9 ∧ y9 ≤ 2147483647 := rngE (show (-2147483648 : Int) ≤ F4 3 12 ∧ F4 3 12 ≤ 2147483647 from H.frng 3 12) (show F4 3 12 = y9 from (ey10))
      refine Ew_of (pcₚ := 18) (fun _ => x_aload_n rfl rfl) ?_
      refine Ew_of (pcₚ := 19) (fun _ => x_iconst rfl) ?_
      refine Ew_of (pcₚ := 20) (fun _ => x_aload_n rfl rfl) ?_
      refine w_gT H (o := 3) (t := 1) rfl (H.perm 3 rfl) rfl rfl rfl rfl rfl rfl ?_
      have r12 : (0 : Int) ≤ F 1 1 ∧ F 1 1 ≤ 65536 := rngE (show (0 : Int) ≤ F4 1 1 ∧ F4 1 1 ≤ 65536 from H.frng 1 1) (show F4 1 1 = F 1 1 from (hS6 1 1 rfl))
      refine w_gI H (o := 1) (w := F 1 1) rfl (H.perm 1 rfl) rfl rfl rfl (fun _ => rfl) (hS6 1 1 rfl) ?_
      refine Ew_of (pcₚ := 27) (fun _ => x_iload_n rfl rfl) ?_
      refine w_inv H (o := 3) rfl rfl rfl (H.perm 3 rfl) rfl rfl (by rfl) (M372 H (y9) ((ey10)) (show inr (0) from q_20) (show inr (F 1 1) from q_12 r12) (show inr (a1) from h0) (show 0 ≤ (0) ∧ (0) ≤ (F 1 1) ∧ (F 1 1) ≤ 65536 ∧ 0 ≤ (a1) ∧ (a1) ≤ 65536 from q_320 b1 b2 r12) (show 0 ≤ (y9) ∧ (y9) + (a1) ≤ 131072 from q_319 b2 pz8_0 r3) (fun z17 σ F13 A14 H hS15 hA16 y18 ey19 pz17_0 pz17_1 pz17_2 => ⟨rfl, ?_⟩))
      have r20 : (-2147483648 : Int) ≤ y18 ∧ y18 ≤ 2147483647 := rngE (show (-2147483648 : Int) ≤ F13 3 12 ∧ F13 3 12 ≤ 2147483647 from H.frng 3 12) (show F13 3 12 = y18 from (ey19))
      refine Ew_of (pcₚ := 31) (fun _ => x_istore_n rfl) ?_
      refine Ew_of (pcₚ := 32) (fun _ => x_iload_n rfl rk_s) ?_
      refine w_ifle (t := 38) rfl rfl (show inr (z17) from pz17_0) (fun b21 => ?_) (fun b21 => ?_)
      · refine Ew_of (pcₚ := 39) (fun _ => x_aload_n rfl (rk_o (rfl) rfl rfl)) ?_
        refine w_gT H (o := 3) (t := 1) rfl (H.perm 3 rfl) rfl rfl rfl rfl rfl rfl ?_
        refine Ew_of (pcₚ := 43) (fun _ => x_aload_n rfl (rk_o (rfl) rfl rfl)) ?_
        refine w_gI H (o := 3) (w := y18) rfl (H.perm 3 rfl) rfl rfl rfl (fun _ => rfl) (ey19) ?_
        refine Ew_of (pcₚ := 47) (fun _ => x_aload_n rfl (rk_o (rfl) rfl rfl)) ?_
        refine w_gI H (o := 3) (w := F 3 2) rfl (H.perm 3 rfl) rfl rfl rfl (fun _ => rfl) ((hS15 3 2 rfl).trans (hS6 3 2 rfl)) ?_
        refine w_isub rfl ?_
        refine w_pI H (o := 1) rfl rfl (H.perm 1 rfl) rfl rfl rfl (fun _ => rfl) rfl (show (0 : Int) ≤ (y18 - F 3 2) ∧ (y18 - F 3 2) ≤ 65536 from q_321 b2 pz17_2 pz8_0) (fun σ H => ?_)
        refine Ew_of (pcₚ := 55) (fun _ => x_iconst rfl) ?_
        refine Ew_of (pcₚ := 56) (fun _ => x_istore_n rfl) ?_
        suffices hl56 : ∀ (m : Nat), ∀ (ls : rO) (σ : rS) (F_56 : hF) (A_56 : hA) (x56_3 : Int), rlook ls 0 = some (.ref (D 3)) → rlook ls 3 = some (I (x56_3)) → HS σ0 σ D N F_56 A_56 → SF [] (updF F13 1 3 ((y18 - F 3 2))) F_56 → SA [15] A14 A_56 → (inr (x56_3)) → ((0) ≤ (x56_3)) → ((x56_3) ≤ (0) ∨ (x56_3) ≤ (((y18 - F 3 2)))) → ((((y18 - F 3 2))) - (x56_3)).toNat = m → Ew 374 (d + 2) 56 ls [] σ c s Q from
          hl56 _ _ σ _ _ (0) (rk_o (rk_o (rfl) rfl rfl) rfl rfl) (rk_s) H (SF_refl) (SA_refl)   (show inr (0) from q_20) (show (0) ≤ (0) from q_25) (show (0) ≤ (0) ∨ (0) ≤ (((y18 - F 3 2))) from q_322) rfl
        as_aux_lemma =>
        intro m
        induction m using Nat.strongRecOn with
        | _ m ih56 =>
          intro ls σ F_56 A_56 x56_3 l56_0 l56_3 H hS_56 hA_56   j56_0 j56_1 j56_2 hm56
          refine Ew_of (pcₚ := 57) (fun _ => x_iload_n rfl l56_3) ?_
          refine Ew_of (pcₚ := 58) (fun _ => x_aload_n rfl l56_0) ?_
          refine w_gT H (o := 3) (t := 1) rfl (H.perm 3 rfl) rfl rfl rfl rfl rfl rfl ?_
          refine w_gI H (o := 1) (w := (y18 - F 3 2)) rfl (H.perm 1 rfl) rfl rfl rfl (fun _ => rfl) (hS_56 1 3 rfl) ?_
          refine w_icmpge (t := 93) rfl rfl (show inr (x56_3) from j56_0) (show inr ((y18 - F 3 2)) from q_323 pz17_2 pz8_0 r20 r3) (fun b22 => ?_) (fun b22 => ?_)
          · refine Ew_of (pcₚ := 94) (fun _ => x_aload_n rfl l56_0) ?_
            refine w_gT H (o := 3) (t := 1) rfl (H.perm 3 rfl) rfl rfl rfl rfl rfl rfl ?_
            refine w_gI H (o := 1) (w := (y18 - F 3 2)) rfl (H.perm 1 rfl) rfl rfl rfl (fun _ => rfl) (hS_56 1 3 rfl) ?_
            exact w_ireturn rfl (k ((y18 - F 3 2)) σ _ _ H (SF_trans (SF_upd (SF_trans (SF_trans (SF_refl) hS6 (any_sub rfl)) hS15 (any_sub rfl)) rfl) hS_56 (any_sub rfl)) (SA_trans (SA_trans (SA_trans (SA_refl) hA7 (any_subA rfl)) hA16 (any_subA rfl)) hA_56 (any_subA rfl)) (show inr ((y18 - F 3 2)) from q_323 pz17_2 pz8_0 r20 r3))
          · refine Ew_of (pcₚ := 68) (fun _ => x_aload_n rfl l56_0) ?_
            refine w_gT H (o := 3) (t := 1) rfl (H.perm 3 rfl) rfl rfl rfl rfl rfl rfl ?_
            refine w_gT H (o := 1) (t := 15) rfl (H.perm 1 rfl) rfl rfl rfl rfl rfl rfl ?_
            refine Ew_of (pcₚ := 75) (fun _ => x_iload_n rfl l56_3) ?_
            refine Ew_of (pcₚ := 76) (fun _ => x_aload_n rfl l56_0) ?_
            refine w_gT H (o := 3) (t := 21) rfl (H.perm 3 rfl) rfl rfl rfl rfl rfl rfl ?_
            refine Ew_of (pcₚ := 80) (fun _ => x_aload_n rfl l56_0) ?_
            refine w_gI H (o := 3) (w := F 3 2) rfl (H.perm 3 rfl) rfl rfl rfl (fun _ => rfl) (((hS_56 3 2 rfl).trans (hS15 3 2 rfl)).trans (hS6 3 2 rfl)) ?_
            refine Ew_of (pcₚ := 84) (fun _ => x_iload_n rfl l56_3) ?_
            refine w_iadd rfl ?_
            refine w_lI H (o := 21) (n := 131072) rfl (H.perm 21 rfl) rfl rfl (H.fix 21 rfl rfl) (show 0 ≤ (F 3 2 + x56_3) ∧ (F 3 2 + x56_3) < ((131072 : Nat) : Int) from q_324 b2 b22 j56_1 pz17_2 pz8_0 r3) (by decide) (fun v23 ev23 qv23 => ?_)
            have qv23 : (0 : Int) ≤ v23 ∧ v23 ≤ 255 := qv23
            have ev23 : (A14 21) ((F 3 2 + x56_3)) = v23 := (congrFun (funext (hA_56 21 rfl)) ((F 3 2 + x56_3))).symm.trans ev23
            refine w_sI H (o := 15) (n := 65536) rfl (H.perm 15 rfl) rfl rfl (H.fix 15 rfl rfl) (show 0 ≤ x56_3 ∧ x56_3 < ((65536 : Nat) : Int) from q_325 b2 b22 j56_1 pz17_2 pz8_0) (by decide) (show (0 : Int) ≤ v23 ∧ v23 ≤ 255 from qv23) (fun σ H => ?_)
            refine Ew_of (pcₚ := 90) (fun _ => x_iinc (len := 3) rfl (l56_3)) ?_
            refine Ew_of (pcₚ := 56) (fun _ => x_goto rfl rfl) ?_
            exact ih56 _ (msE hm56 q_328 (q_329 b22)) _ σ _ _ ((x56_3 + 1)) (rk_o (l56_0) rfl rfl) (rk_s) H (hS_56) (SA_upd (hA_56) rfl)   (show inr ((x56_3 + 1)) from q_327 b22 j56_1 r20 r3) (show (0) ≤ ((x56_3 + 1)) from q_29 j56_1) (show ((x56_3 + 1)) ≤ (0) ∨ ((x56_3 + 1)) ≤ (((y18 - F 3 2))) from q_326 b22) rfl
      · refine Ew_of (pcₚ := 36) (fun _ => x_iload_n rfl rk_s) ?_
        refine w_ineg rfl ?_
        exact w_ireturn rfl (k ((-z17)) σ _ _ H (SF_trans (SF_trans (SF_refl) hS6 (any_sub rfl)) hS15 (any_sub rfl)) (SA_trans (SA_trans (SA_refl) hA7 (any_subA rfl)) hA16 (any_subA rfl)) (show inr ((-z17)) from q_330 b21 pz17_1))
    · refine Ew_of (pcₚ := 12) (fun _ => x_bipush (z := -4) rfl (by decide)) ?_
      exact w_ireturn rfl (k ((-4)) σ _ _ H (SF_refl) (SA_refl) (show inr ((-4)) from q_318))
/-- Tokens.sumOf -/
theorem M359_19 {σ0 σ : rS} {D N : Nat → Nat} {F : hF} {A : hA} {d c s : Nat} {Q : wQ} (H : HS σ0 σ D N F A) {a2 a3 : Int} (h0 : inr (a2)) (h1 : inr (a3)) (h2 : 0 ≤ (a2) ∧ (a2) ≤ (a3) ∧ (a3) ≤ 70000) (k : ∀ (z : Int) σ Fₚ Aₚ, HS σ0 σ D N Fₚ Aₚ → SF [] F Fₚ → SA [17] A Aₚ → (inrJ (z)) → Q (some (J z)) σ c s) : Ew 359 (d + 1) 0 (rargs 0 [.ref (D 3), .ref (D 19), I a2, I a3]) [] σ c s Q := by
  refine Ew_of (pcₚ := 3) (fun _ => x_ldc2 (z := 2654435761) rfl (by decide)) ?_
  refine Ew_of (pcₚ := 5) (fun _ => x_lstore rfl) ?_
  refine Ew_of (pcₚ := 8) (fun _ => x_ldc2 (z := 2246822519) rfl (by decide)) ?_
  refine Ew_of (pcₚ := 10) (fun _ => x_lstore rfl) ?_
  refine Ew_of (pcₚ := 13) (fun _ => x_ldc2 (z := 3266489917) rfl (by decide)) ?_
  refine Ew_of (pcₚ := 15) (fun _ => x_lstore rfl) ?_
  refine Ew_of (pcₚ := 18) (fun _ => x_ldc2 (z := 668265263) rfl (by decide)) ?_
  refine Ew_of (pcₚ := 20) (fun _ => x_lstore rfl) ?_
  refine Ew_of (pcₚ := 23) (fun _ => x_ldc2 (z := 374761393) rfl (by decide)) ?_
  refine Ew_of (pcₚ := 25) (fun _ => x_lstore rfl) ?_
  refine Ew_of (pcₚ := 26) (fun _ => x_iload_n rfl (rk2_o (rk2_o (rk2_o (rk2_o (rk2_o (rfl) rfl rfl) rfl rfl) rfl rfl) rfl rfl) rfl rfl)) ?_
  refine Ew_of (pcₚ := 27) (fun _ => x_iload_n rfl (rk2_o (rk2_o (rk2_o (rk2_o (rk2_o (rfl) rfl rfl) rfl rfl) rfl rfl) rfl rfl) rfl rfl)) ?_
  refine w_isub rfl ?_
  refine Ew_of (pcₚ := 30) (fun _ => x_istore rfl) ?_
  refine Ew_of (pcₚ := 31) (fun _ => x_iload_n rfl (rk_o (rk2_o (rk2_o (rk2_o (rk2_o (rk2_o (rfl) rfl rfl) rfl rfl) rfl rfl) rfl rfl) rfl rfl) rfl rfl)) ?_
  refine Ew_of (pcₚ := 33) (fun _ => x_istore rfl) ?_
  refine Ew_of (pcₚ := 35) (fun _ => x_lload rfl (rk_o (rk_o (rk2_s) rfl rfl) rfl rfl)) ?_
  refine Ew_of (pcₚ := 37) (fun _ => x_lstore rfl) ?_
  refine Ew_of (pcₚ := 39) (fun _ => x_iload rfl (rk2_o (rk_o (rk_s) rfl rfl) rfl rfl)) ?_
  refine Ew_of (pcₚ := 41) (fun _ => x_bipush (z := 16) rfl (by decide)) ?_
  refine w_icmplt (t := 210) rfl rfl (show inr ((a3 - a2)) from q_331 h2) (show inr (16) from q_86) (fun b1 => ?_) (fun b1 => ?_)
  · refine Ew_of (pcₚ := 212) (fun _ => x_lload rfl rk2_s) ?_
    refine Ew_of (pcₚ := 214) (fun _ => x_iload rfl (rk2_o (rk_o (rk_s) rfl rfl) rfl rfl)) ?_
    refine w_i2l rfl (show inr ((a3 - a2)) from q_332 b1 h2) ?_
    refine w_laddA rfl (fun z2 gz2 => ?_)
    refine Ew_of (pcₚ := 219) (fun _ => x_ldc2 (z := 4294967295) rfl (by decide)) ?_
    refine w_land rfl (show inrJ (z2) from gz2) (show inrJ (4294967295) from q_50) (fun z3 gz3 gaz3 gbz3 => ?_)
    refine Ew_of (pcₚ := 222) (fun _ => x_lstore rfl) ?_
    suffices hl222 : ∀ (m : Nat), ∀ (ls : rO) (σ : rS) (F_222 : hF) (A_222 : hA) (x222_15 : Int) (x222_16 : Int), rlook ls 1 = some (.ref (D 19)) → rlook ls 3 = some (I (a3)) → rlook ls 4 = some (J (2654435761)) → rlook ls 6 = some (J (2246822519)) → rlook ls 8 = some (J (3266489917)) → rlook ls 10 = some (J (668265263)) → rlook ls 12 = some (J (374761393)) → rlook ls 15 = some (I (x222_15)) → rlook ls 16 = some (J (x222_16)) → HS σ0 σ D N F_222 A_222 → SF [] F F_222 → SA [] A A_222 → (inr (x222_15)) → (inrJ (x222_16)) → ((a2) ≤ (x222_15) ∧ (x222_15) ≤ (a3)) → ((a3) - (x222_15)).toNat = m → Ew 359 (d + 1) 222 ls [] σ c s Q from
      hl222 _ _ σ _ _ (a2) (z3) (rk2_o (rk2_o (rk_o (rk_o (rk2_o (rk2_o (rk2_o (rk2_o (rk2_o (rfl) rfl rfl) rfl rfl) rfl rfl) rfl rfl) rfl rfl) rfl rfl) rfl rfl) rfl rfl) rfl rfl) (rk2_o (rk2_o (rk_o (rk_o (rk2_o (rk2_o (rk2_o (rk2_o (rk2_o (rfl) rfl rfl) rfl rfl) rfl rfl) rfl rfl) rfl rfl) rfl rfl) rfl rfl) rfl rfl) rfl rfl) (rk2_o (rk2_o (rk_o (rk_o (rk2_o (rk2_o (rk2_o (rk2_o (rk2_s) rfl rfl) rfl rfl) rfl rfl) rfl rfl) rfl rfl) rfl rfl) rfl rfl) rfl rfl) (rk2_o (rk2_o (rk_o (rk_o (rk2_o (rk2_o (rk2_o (rk2_s) rfl rfl) rfl rfl) rfl rfl) rfl rfl) rfl rfl) rfl rfl) rfl rfl) (rk2_o (rk2_o (rk_o (rk_o (rk2_o (rk2_o (rk2_s) rfl rfl) rfl rfl) rfl rfl) rfl rfl) rfl rfl) rfl rfl) (rk2_o (rk2_o (rk_o (rk_o (rk2_o (rk2_s) rfl rfl) rfl rfl) rfl rfl) rfl rfl) rfl rfl) (rk2_o (rk2_o (rk_o (rk_o (rk2_s) rfl rfl) rfl rfl) rfl rfl) rfl rfl) (rk2_o (rk2_o (rk_s) rfl rfl) rfl rfl) (rk2_s) H (SF_refl) (SA_refl)   (show inr (a2) from h0) (show inrJ (z3) from gz3) (show (a2) ≤ (a2) ∧ (a2) ≤ (a3) from q_333 h2) rfl
    as_aux_lemma =>
    intro m
    induction m using Nat.strongRecOn with
    | _ m ih222 =>
      intro ls σ F_222 A_222 x222_15 x222_16 l222_1 l222_3 l222_4 l222_6 l222_8 l222_10 l222_12 l222_15 l222_16 H hS_222 hA_222   j222_0 j222_1 j222_2 hm222
      refine Ew_of (pcₚ := 223) (fun _ => x_iload_n rfl l222_3) ?_
      refine Ew_of (pcₚ := 225) (fun _ => x_iload rfl l222_15) ?_
      refine w_isub rfl ?_
      refine Ew_of (pcₚ := 227) (fun _ => x_iconst rfl) ?_
      refine w_icmplt (t := 266) rfl rfl (show inr ((a3 - x222_15)) from q_334 b1 j222_2) (show inr (4) from q_2) (fun b4 => ?_) (fun b4 => ?_)
      · suffices hl266 : ∀ (m : Nat), ∀ (ls : rO) (σ : rS) (F_266 : hF) (A_266 : hA) (x266_15 : Int) (x266_16 : Int), rlook ls 1 = some (.ref (D 19)) → rlook ls 3 = some (I (a3)) → rlook ls 4 = some (J (2654435761)) → rlook ls 6 = some (J (2246822519)) → rlook ls 8 = some (J (3266489917)) → rlook ls 12 = some (J (374761393)) → rlook ls 15 = some (I (x266_15)) → rlook ls 16 = some (J (x266_16)) → HS σ0 σ D N F_266 A_266 → SF [] F_222 F_266 → SA [] A_222 A_266 → (inr (x266_15)) → (inrJ (x266_16)) → ((x222_15) ≤ (x266_15)) → ((x266_15) ≤ (x222_15) ∨ (x266_15) ≤ ((a3))) → (((a3)) - (x266_15)).toNat = m → Ew 359 (d + 1) 266 ls [] σ c s Q from
          hl266 _ _ σ _ _ (x222_15) (x222_16) (l222_1) (l222_3) (l222_4) (l222_6) (l222_8) (l222_12) (l222_15) (l222_16) H (SF_refl) (SA_refl)   (show inr (x222_15) from j222_0) (show inrJ (x222_16) from j222_1) (show (x222_15) ≤ (x222_15) from q_102) (show (x222_15) ≤ (x222_15) ∨ (x222_15) ≤ ((a3)) from q_101) rfl
        as_aux_lemma =>
        intro m
        induction m using Nat.strongRecOn with
        | _ m ih266 =>
          intro ls σ F_266 A_266 x266_15 x266_16 l266_1 l266_3 l266_4 l266_6 l266_8 l266_12 l266_15 l266_16 H hS_266 hA_266   j266_0 j266_1 j266_2 j266_3 hm266
          refine Ew_of (pcₚ := 268) (fun _ => x_iload rfl l266_15) ?_
          refine Ew_of (pcₚ := 269) (fun _ => x_iload_n rfl l266_3) ?_
          refine w_icmpge (t := 307) rfl rfl (show inr (x266_15) from j266_0) (show inr (a3) from h1) (fun b5 => ?_) (fun b5 => ?_)
          · refine Ew_of (pcₚ := 309) (fun _ => x_lload rfl l266_16) ?_
            refine Ew_of (pcₚ := 311) (fun _ => x_lload rfl l266_16) ?_
            refine Ew_of (pcₚ := 313) (fun _ => x_bipush (z := 15) rfl (by decide)) ?_
            refine w_lshrA rfl (fun z6 gz6 => ?_)
            refine w_lxorA rfl (fun z7 gz7 => ?_)
            refine Ew_of (pcₚ := 317) (fun _ => x_lload rfl l266_6) ?_
            refine w_stat24 rfl rfl (by rfl) (M357 H (show inrJ (z7) from gz7) (show inrJ (2246822519) from q_335) (fun z12 σ F8 A9 H hS10 hA11 pz12_0 => ⟨rfl, ?_⟩))
            refine Ew_of (pcₚ := 322) (fun _ => x_lstore rfl) ?_
            refine Ew_of (pcₚ := 324) (fun _ => x_lload rfl rk2_s) ?_
            refine Ew_of (pcₚ := 326) (fun _ => x_lload rfl rk2_s) ?_
            refine Ew_of (pcₚ := 328) (fun _ => x_bipush (z := 13) rfl (by decide)) ?_
            refine w_lshrA rfl (fun z13 gz13 => ?_)
            refine w_lxorA rfl (fun z14 gz14 => ?_)
            refine Ew_of (pcₚ := 332) (fun _ => x_lload rfl (rk2_o (l266_8) rfl rfl)) ?_
            refine w_stat24 rfl rfl (by rfl) (M357 H (show inrJ (z14) from gz14) (show inrJ (3266489917) from q_336) (fun z19 σ F15 A16 H hS17 hA18 pz19_0 => ⟨rfl, ?_⟩))
            refine Ew_of (pcₚ := 337) (fun _ => x_lstore rfl) ?_
            refine Ew_of (pcₚ := 339) (fun _ => x_lload rfl rk2_s) ?_
            refine Ew_of (pcₚ := 341) (fun _ => x_lload rfl rk2_s) ?_
            refine Ew_of (pcₚ := 343) (fun _ => x_bipush (z := 16) rfl (by decide)) ?_
            refine w_lshrA rfl (fun z20 gz20 => ?_)
            refine w_lxorA rfl (fun z21 gz21 => ?_)
            exact w_lreturn rfl (k (z21) σ _ _ H (SF_trans (SF_trans (SF_trans (SF_trans (SF_refl) hS_222 (any_sub rfl)) hS_266 (any_sub rfl)) hS10 (any_sub rfl)) hS17 (any_sub rfl)) (SA_trans (SA_trans (SA_trans (SA_trans (SA_refl) hA_222 (any_subA rfl)) hA_266 (any_subA rfl)) hA11 (any_subA rfl)) hA18 (any_subA rfl)) (show inrJ (z21) from gz21))
          · refine Ew_of (pcₚ := 274) (fun _ => x_lload rfl l266_16) ?_
            refine Ew_of (pcₚ := 275) (fun _ => x_aload_n rfl l266_1) ?_
            refine Ew_of (pcₚ := 277) (fun _ => x_iload rfl l266_15) ?_
            refine w_lI H (o := 19) (n := 70000) rfl (H.perm 19 rfl) rfl rfl (H.fix 19 rfl rfl) (show 0 ≤ x266_15 ∧ x266_15 < ((70000 : Nat) : Int) from q_337 b5 h2 j222_2 j266_2) (by decide) (fun v22 ev22 qv22 => ?_)
            have qv22 : (0 : Int) ≤ v22 ∧ v22 ≤ 255 := qv22
            have ev22 : (A 19) (x266_15) = v22 := (congrFun ((funext (hA_266 19 rfl)).trans (funext (hA_222 19 rfl))) (x266_15)).symm.trans ev22
            refine w_i2l rfl (show inr (v22) from q_38 qv22) ?_
            refine Ew_of (pcₚ := 281) (fun _ => x_lload rfl l266_12) ?_
            refine w_stat24 rfl rfl (by rfl) (M357 H (show inrJ (v22) from q_194 qv22) (show inrJ (374761393) from q_338) (fun z27 σ F23 A24 H hS25 hA26 pz27_0 => ⟨rfl, ?_⟩))
            refine w_laddA rfl (fun z28 gz28 => ?_)
            refine Ew_of (pcₚ := 288) (fun _ => x_ldc2 (z := 4294967295) rfl (by decide)) ?_
            refine w_land rfl (show inrJ (z28) from gz28) (show inrJ (4294967295) from q_50) (fun z29 gz29 gaz29 gbz29 => ?_)
            refine Ew_of (pcₚ := 291) (fun _ => x_bipush (z := 11) rfl (by decide)) ?_
            refine w_stat24 rfl rfl (by rfl) (M356 H (show inrJ (z29) from gz29) (show inr (11) from q_67) (fun z34 σ F30 A31 H hS32 hA33 pz34_0 => ⟨rfl, ?_⟩))
            refine Ew_of (pcₚ := 296) (fun _ => x_lload rfl l266_4) ?_
            refine w_stat24 rfl rfl (by rfl) (M357 H (show inrJ (z34) from pz34_0) (show inrJ (2654435761) from q_339) (fun z39 σ F35 A36 H hS37 hA38 pz39_0 => ⟨rfl, ?_⟩))
            refine Ew_of (pcₚ := 301) (fun _ => x_lstore rfl) ?_
            refine Ew_of (pcₚ := 304) (fun _ => x_iinc (len := 3) rfl (rk2_o (l266_15) rfl rfl)) ?_
            refine Ew_of (pcₚ := 266) (fun _ => x_goto rfl rfl) ?_
            exact ih266 _ (msE hm266 q_31 (q_34 b5)) _ σ _ _ ((x266_15 + 1)) (z39) (rk_o (rk2_o (l266_1) rfl rfl) rfl rfl) (rk_o (rk2_o (l266_3) rfl rfl) rfl rfl) (rk_o (rk2_o (l266_4) rfl rfl) rfl rfl) (rk_o (rk2_o (l266_6) rfl rfl) rfl rfl) (rk_o (rk2_o (l266_8) rfl rfl) rfl rfl) (rk_o (rk2_o (l266_12) rfl rfl) rfl rfl) (rk_s) (rk_o (rk2_s) rfl rfl) H (SF_trans (SF_trans (SF_trans (hS_266) hS25 (any_sub rfl)) hS32 (any_sub rfl)) hS37 (any_sub rfl)) (SA_trans (SA_trans (SA_trans (hA_266) hA26 (any_subA rfl)) hA33 (any_subA rfl)) hA38 (any_subA rfl))   (show inr ((x266_15 + 1)) from q_340 b5 h2 j266_0) (show inrJ (z39) from pz39_0) (show (x222_15) ≤ ((x266_15 + 1)) from q_105 j266_2) (show ((x266_15 + 1)) ≤ (x222_15) ∨ ((x266_15 + 1)) ≤ ((a3)) from q_104 b5) rfl
      · refine Ew_of (pcₚ := 232) (fun _ => x_lload rfl l222_16) ?_
        refine Ew_of (pcₚ := 233) (fun _ => x_aload_n rfl l222_1) ?_
        refine Ew_of (pcₚ := 235) (fun _ => x_iload rfl l222_15) ?_
        refine w_stat24 rfl rfl (by rfl) (M358_19 H (show inr (x222_15) from j222_0) (show 0 ≤ (x222_15) ∧ (x222_15) + 3 < 70000 from q_341 b4 h2 j222_2) (fun z44 σ F40 A41 H hS42 hA43 pz44_0 => ⟨rfl, ?_⟩))
        refine Ew_of (pcₚ := 240) (fun _ => x_lload rfl l222_8) ?_
        refine w_stat24 rfl rfl (by rfl) (M357 H (show inrJ (z44) from pz44_0) (show inrJ (3266489917) from q_336) (fun z49 σ F45 A46 H hS47 hA48 pz49_0 => ⟨rfl, ?_⟩))
        refine w_laddA rfl (fun z50 gz50 => ?_)
        refine Ew_of (pcₚ := 247) (fun _ => x_ldc2 (z := 4294967295) rfl (by decide)) ?_
        refine w_land rfl (show inrJ (z50) from gz50) (show inrJ (4294967295) from q_50) (fun z51 gz51 gaz51 gbz51 => ?_)
        refine Ew_of (pcₚ := 250) (fun _ => x_bipush (z := 17) rfl (by decide)) ?_
        refine w_stat24 rfl rfl (by rfl) (M356 H (show inrJ (z51) from gz51) (show inr (17) from q_342) (fun z56 σ F52 A53 H hS54 hA55 pz56_0 => ⟨rfl, ?_⟩))
        refine Ew_of (pcₚ := 255) (fun _ => x_lload rfl l222_10) ?_
        refine w_stat24 rfl rfl (by rfl) (M357 H (show inrJ (z56) from pz56_0) (show inrJ (668265263) from q_343) (fun z61 σ F57 A58 H hS59 hA60 pz61_0 => ⟨rfl, ?_⟩))
        refine Ew_of (pcₚ := 260) (fun _ => x_lstore rfl) ?_
        refine Ew_of (pcₚ := 263) (fun _ => x_iinc (len := 3) rfl (rk2_o (l222_15) rfl rfl)) ?_
        refine Ew_of (pcₚ := 222) (fun _ => x_goto rfl rfl) ?_
        exact ih222 _ (msE hm222 q_346 (q_347 b4)) _ σ _ _ ((x222_15 + 4)) (z61) (rk_o (rk2_o (l222_1) rfl rfl) rfl rfl) (rk_o (rk2_o (l222_3) rfl rfl) rfl rfl) (rk_o (rk2_o (l222_4) rfl rfl) rfl rfl) (rk_o (rk2_o (l222_6) rfl rfl) rfl rfl) (rk_o (rk2_o (l222_8) rfl rfl) rfl rfl) (rk_o (rk2_o (l222_10) rfl rfl) rfl rfl) (rk_o (rk2_o (l222_12) rfl rfl) rfl rfl) (rk_s) (rk_o (rk2_s) rfl rfl) H (SF_trans (SF_trans (SF_trans (SF_trans (hS_222) hS42 (any_sub rfl)) hS47 (any_sub rfl)) hS54 (any_sub rfl)) hS59 (any_sub rfl)) (SA_trans (SA_trans (SA_trans (SA_trans (hA_222) hA43 (any_subA rfl)) hA48 (any_subA rfl)) hA55 (any_subA rfl)) hA60 (any_subA rfl))   (show inr ((x222_15 + 4)) from q_345 b4 h2 j222_0) (show inrJ (z61) from pz61_0) (show (a2) ≤ ((x222_15 + 4)) ∧ ((x222_15 + 4)) ≤ (a3) from q_344 b4 j222_2) rfl
  · refine Ew_of (pcₚ := 45) (fun _ => x_aload_n rfl (rk2_o (rk_o (rk_o (rk2_o (rk2_o (rk2_o (rk2_o (rk2_o (rfl) rfl rfl) rfl rfl) rfl rfl) rfl rfl) rfl rfl) rfl rfl) rfl rfl) rfl rfl)) ?_
    refine w_gT H (o := 3) (t := 17) rfl (H.perm 3 rfl) rfl rfl rfl rfl rfl rfl ?_
    refine Ew_of (pcₚ := 49) (fun _ => x_iconst rfl) ?_
    refine Ew_of (pcₚ := 51) (fun _ => x_lload rfl (rk2_o (rk_o (rk_o (rk2_o (rk2_o (rk2_o (rk2_o (rk2_s) rfl rfl) rfl rfl) rfl rfl) rfl rfl) rfl rfl) rfl rfl) rfl rfl)) ?_
    refine Ew_of (pcₚ := 53) (fun _ => x_lload rfl (rk2_o (rk_o (rk_o (rk2_o (rk2_o (rk2_o (rk2_s) rfl rfl) rfl rfl) rfl rfl) rfl rfl) rfl rfl) rfl rfl)) ?_
    refine w_laddA rfl (fun z62 gz62 => ?_)
    refine Ew_of (pcₚ := 57) (fun _ => x_ldc2 (z := 4294967295) rfl (by decide)) ?_
    refine w_land rfl (show inrJ (z62) from gz62) (show inrJ (4294967295) from q_50) (fun z63 gz63 gaz63 gbz63 => ?_)
    refine w_sJ H (o := 17) (n := 4) rfl (H.perm 17 rfl) rfl rfl (H.fix 17 rfl rfl) (show 0 ≤ 0 ∧ 0 < ((4 : Nat) : Int) from q_348) (by decide) (show (-9223372036854775808 : Int) ≤ z63 ∧ z63 ≤ 9223372036854775807 by omega) (fun σ H => ?_)
    refine Ew_of (pcₚ := 60) (fun _ => x_aload_n rfl (rk2_o (rk_o (rk_o (rk2_o (rk2_o (rk2_o (rk2_o (rk2_o (rfl) rfl rfl) rfl rfl) rfl rfl) rfl rfl) rfl rfl) rfl rfl) rfl rfl) rfl rfl)) ?_
    refine w_gT H (o := 3) (t := 17) rfl (H.perm 3 rfl) rfl rfl rfl rfl rfl rfl ?_
    refine Ew_of (pcₚ := 64) (fun _ => x_iconst rfl) ?_
    refine Ew_of (pcₚ := 66) (fun _ => x_lload rfl (rk2_o (rk_o (rk_o (rk2_o (rk2_o (rk2_o (rk2_s) rfl rfl) rfl rfl) rfl rfl) rfl rfl) rfl rfl) rfl rfl)) ?_
    refine w_sJ H (o := 17) (n := 4) rfl (H.perm 17 rfl) rfl rfl (H.fix 17 rfl rfl) (show 0 ≤ 1 ∧ 1 < ((4 : Nat) : Int) from q_350) (by decide) (show (-9223372036854775808 : Int) ≤ 2246822519 ∧ 2246822519 ≤ 9223372036854775807 from q_349) (fun σ H => ?_)
    refine Ew_of (pcₚ := 68) (fun _ => x_aload_n rfl (rk2_o (rk_o (rk_o (rk2_o (rk2_o (rk2_o (rk2_o (rk2_o (rfl) rfl rfl) rfl rfl) rfl rfl) rfl rfl) rfl rfl) rfl rfl) rfl rfl) rfl rfl)) ?_
    refine w_gT H (o := 3) (t := 17) rfl (H.perm 3 rfl) rfl rfl rfl rfl rfl rfl ?_
    refine Ew_of (pcₚ := 72) (fun _ => x_iconst rfl) ?_
    refine Ew_of (pcₚ := 73) (fun _ => x_lconst (z := 0) rfl (by decide)) ?_
    refine w_sJ H (o := 17) (n := 4) rfl (H.perm 17 rfl) rfl rfl (H.fix 17 rfl rfl) (show 0 ≤ 2 ∧ 2 < ((4 : Nat) : Int) from q_352) (by decide) (show (-9223372036854775808 : Int) ≤ 0 ∧ 0 ≤ 9223372036854775807 from q_351) (fun σ H => ?_)
    refine Ew_of (pcₚ := 75) (fun _ => x_aload_n rfl (rk2_o (rk_o (rk_o (rk2_o (rk2_o (rk2_o (rk2_o (rk2_o (rfl) rfl rfl) rfl rfl) rfl rfl) rfl rfl) rfl rfl) rfl rfl) rfl rfl) rfl rfl)) ?_
    refine w_gT H (o := 3) (t := 17) rfl (H.perm 3 rfl) rfl rfl rfl rfl rfl rfl ?_
    refine Ew_of (pcₚ := 79) (fun _ => x_iconst rfl) ?_
    refine Ew_of (pcₚ := 80) (fun _ => x_lconst (z := 0) rfl (by decide)) ?_
    refine Ew_of (pcₚ := 82) (fun _ => x_lload rfl (rk2_o (rk_o (rk_o (rk2_o (rk2_o (rk2_o (rk2_o (rk2_s) rfl rfl) rfl rfl) rfl rfl) rfl rfl) rfl rfl) rfl rfl) rfl rfl)) ?_
    refine w_lsubA rfl (fun z64 gz64 => ?_)
    refine Ew_of (pcₚ := 86) (fun _ => x_ldc2 (z := 4294967295) rfl (by decide)) ?_
    refine w_land rfl (show inrJ (z64) from gz64) (show inrJ (4294967295) from q_50) (fun z65 gz65 gaz65 gbz65 => ?_)
    refine w_sJ H (o := 17) (n := 4) rfl (H.perm 17 rfl) rfl rfl (H.fix 17 rfl rfl) (show 0 ≤ 3 ∧ 3 < ((4 : Nat) : Int) from q_353) (by decide) (show (-9223372036854775808 : Int) ≤ z65 ∧ z65 ≤ 9223372036854775807 by omega) (fun σ H => ?_)
    suffices hl88 : ∀ (m : Nat), ∀ (ls : rO) (σ : rS) (F_88 : hF) (A_88 : hA) (x88_15 : Int), rlook ls 0 = some (.ref (D 3)) → rlook ls 1 = some (.ref (D 19)) → rlook ls 3 = some (I (a3)) → rlook ls 4 = some (J (2654435761)) → rlook ls 6 = some (J (2246822519)) → rlook ls 8 = some (J (3266489917)) → rlook ls 10 = some (J (668265263)) → rlook ls 12 = some (J (374761393)) → rlook ls 14 = some (I ((a3 - a2))) → rlook ls 15 = some (I (x88_15)) → HS σ0 σ D N F_88 A_88 → SF [] F F_88 → SA [17] (updA (updA (updA (updA A 17 (0) (z63)) 17 (1) (2246822519)) 17 (2) (0)) 17 (3) (z65)) A_88 → (inr (x88_15)) → ((a2) ≤ (x88_15) ∧ (x88_15) ≤ (a3)) → ((a3) - (x88_15)).toNat = m → Ew 359 (d + 1) 88 ls [] σ c s Q from
      hl88 _ _ σ _ _ (a2) (rk2_o (rk_o (rk_o (rk2_o (rk2_o (rk2_o (rk2_o (rk2_o (rfl) rfl rfl) rfl rfl) rfl rfl) rfl rfl) rfl rfl) rfl rfl) rfl rfl) rfl rfl) (rk2_o (rk_o (rk_o (rk2_o (rk2_o (rk2_o (rk2_o (rk2_o (rfl) rfl rfl) rfl rfl) rfl rfl) rfl rfl) rfl rfl) rfl rfl) rfl rfl) rfl rfl) (rk2_o (rk_o (rk_o (rk2_o (rk2_o (rk2_o (rk2_o (rk2_o (rfl) rfl rfl) rfl rfl) rfl rfl) rfl rfl) rfl rfl) rfl rfl) rfl rfl) rfl rfl) (rk2_o (rk_o (rk_o (rk2_o (rk2_o (rk2_o (rk2_o (rk2_s) rfl rfl) rfl rfl) rfl rfl) rfl rfl) rfl rfl) rfl rfl) rfl rfl) (rk2_o (rk_o (rk_o (rk2_o (rk2_o (rk2_o (rk2_s) rfl rfl) rfl rfl) rfl rfl) rfl rfl) rfl rfl) rfl rfl) (rk2_o (rk_o (rk_o (rk2_o (rk2_o (rk2_s) rfl rfl) rfl rfl) rfl rfl) rfl rfl) rfl rfl) (rk2_o (rk_o (rk_o (rk2_o (rk2_s) rfl rfl) rfl rfl) rfl rfl) rfl rfl) (rk2_o (rk_o (rk_o (rk2_s) rfl rfl) rfl rfl) rfl rfl) (rk2_o (rk_o (rk_s) rfl rfl) rfl rfl) (rk2_o (rk_s) rfl rfl) H (SF_refl) (SA_refl)   (show inr (a2) from h0) (show (a2) ≤ (a2) ∧ (a2) ≤ (a3) from q_333 h2) rfl
    as_aux_lemma =>
    intro m
    induction m using Nat.strongRecOn with
    | _ m ih88 =>
      intro ls σ F_88 A_88 x88_15 l88_0 l88_1 l88_3 l88_4 l88_6 l88_8 l88_10 l88_12 l88_14 l88_15 H hS_88 hA_88   j88_0 j88_1 hm88
      refine Ew_of (pcₚ := 89) (fun _ => x_iload_n rfl l88_3) ?_
      refine Ew_of (pcₚ := 91) (fun _ => x_iload rfl l88_15) ?_
      refine w_isub rfl ?_
      refine Ew_of (pcₚ := 94) (fun _ => x_bipush (z := 16) rfl (by decide)) ?_
      refine w_icmplt (t := 158) rfl rfl (show inr ((a3 - x88_15)) from q_354 h2 j88_1) (show inr (16) from q_86) (fun b66 => ?_) (fun b66 => ?_)
      · refine Ew_of (pcₚ := 159) (fun _ => x_aload_n rfl l88_0) ?_
        refine w_gT H (o := 3) (t := 17) rfl (H.perm 3 rfl) rfl rfl rfl rfl rfl rfl ?_
        refine Ew_of (pcₚ := 163) (fun _ => x_iconst rfl) ?_
        refine w_lJ H (o := 17) (n := 4) rfl (H.perm 17 rfl) rfl rfl (H.fix 17 rfl rfl) (show 0 ≤ 0 ∧ 0 < ((4 : Nat) : Int) from q_348) (by decide) (fun v67 ev67 qv67 => ?_)
        have qv67 : (-9223372036854775808 : Int) ≤ v67 ∧ v67 ≤ 9223372036854775807 := qv67
        have ev67 : (A_88 17) (0) = v67 := (congrFun (rfl : A_88 17 = A_88 17) (0)).symm.trans ev67
        refine Ew_of (pcₚ := 165) (fun _ => x_iconst rfl) ?_
        refine w_stat24 rfl rfl (by rfl) (M356 H (show inrJ (v67) by omega) (show inr (1) from q_23) (fun z72 σ F68 A69 H hS70 hA71 pz72_0 => ⟨rfl, ?_⟩))
        refine Ew_of (pcₚ := 169) (fun _ => x_aload_n rfl l88_0) ?_
        refine w_gT H (o := 3) (t := 17) rfl (H.perm 3 rfl) rfl rfl rfl rfl rfl rfl ?_
        refine Ew_of (pcₚ := 173) (fun _ => x_iconst rfl) ?_
        refine w_lJ H (o := 17) (n := 4) rfl (H.perm 17 rfl) rfl rfl (H.fix 17 rfl rfl) (show 0 ≤ 1 ∧ 1 < ((4 : Nat) : Int) from q_350) (by decide) (fun v73 ev73 qv73 => ?_)
        have qv73 : (-9223372036854775808 : Int) ≤ v73 ∧ v73 ≤ 9223372036854775807 := qv73
        have ev73 : (A_88 17) (1) = v73 := (congrFun (funext (hA71 17 rfl)) (1)).symm.trans ev73
        refine Ew_of (pcₚ := 176) (fun _ => x_bipush (z := 7) rfl (by decide)) ?_
        refine w_stat24 rfl rfl (by rfl) (M356 H (show inrJ (v73) by omega) (show inr (7) from q_355) (fun z78 σ F74 A75 H hS76 hA77 pz78_0 => ⟨rfl, ?_⟩))
        refine w_laddA rfl (fun z79 gz79 => ?_)
        refine Ew_of (pcₚ := 181) (fun _ => x_aload_n rfl l88_0) ?_
        refine w_gT H (o := 3) (t := 17) rfl (H.perm 3 rfl) rfl rfl rfl rfl rfl rfl ?_
        refine Ew_of (pcₚ := 185) (fun _ => x_iconst rfl) ?_
        refine w_lJ H (o := 17) (n := 4) rfl (H.perm 17 rfl) rfl rfl (H.fix 17 rfl rfl) (show 0 ≤ 2 ∧ 2 < ((4 : Nat) : Int) from q_352) (by decide) (fun v80 ev80 qv80 => ?_)
        have qv80 : (-9223372036854775808 : Int) ≤ v80 ∧ v80 ≤ 9223372036854775807 := qv80
        have ev80 : (A_88 17) (2) = v80 := (congrFun ((funext (hA77 17 rfl)).trans (funext (hA71 17 rfl))) (2)).symm.trans ev80
        refine Ew_of (pcₚ := 188) (fun _ => x_bipush (z := 12) rfl (by decide)) ?_
        refine w_stat24 rfl rfl (by rfl) (M356 H (show inrJ (v80) by omega) (show inr (12) from q_356) (fun z85 σ F81 A82 H hS83 hA84 pz85_0 => ⟨rfl, ?_⟩))
        refine w_laddA rfl (fun z86 gz86 => ?_)
        refine Ew_of (pcₚ := 193) (fun _ => x_aload_n rfl l88_0) ?_
        refine w_gT H (o := 3) (t := 17) rfl (H.perm 3 rfl) rfl rfl rfl rfl rfl rfl ?_
        refine Ew_of (pcₚ := 197) (fun _ => x_iconst rfl) ?_
        refine w_lJ H (o := 17) (n := 4) rfl (H.perm 17 rfl) rfl rfl (H.fix 17 rfl rfl) (show 0 ≤ 3 ∧ 3 < ((4 : Nat) : Int) from q_353) (by decide) (fun v87 ev87 qv87 => ?_)
        have qv87 : (-9223372036854775808 : Int) ≤ v87 ∧ v87 ≤ 9223372036854775807 := qv87
        have ev87 : (A_88 17) (3) = v87 := (congrFun ((funext (hA84 17 rfl)).trans ((funext (hA77 17 rfl)).trans (funext (hA71 17 rfl)))) (3)).symm.trans ev87
        refine Ew_of (pcₚ := 200) (fun _ => x_bipush (z := 18) rfl (by decide)) ?_
        refine w_stat24 rfl rfl (by rfl) (M356 H (show inrJ (v87) by omega) (show inr (18) from q_357) (fun z92 σ F88 A89 H hS90 hA91 pz92_0 => ⟨rfl, ?_⟩))
        refine w_laddA rfl (fun z93 gz93 => ?_)
        refine Ew_of (pcₚ := 207) (fun _ => x_ldc2 (z := 4294967295) rfl (by decide)) ?_
        refine w_land rfl (show inrJ (z93) from gz93) (show inrJ (4294967295) from q_50) (fun z94 gz94 gaz94 gbz94 => ?_)
        refine Ew_of (pcₚ := 210) (fun _ => x_lstore rfl) ?_
        refine Ew_of (pcₚ := 212) (fun _ => x_lload rfl rk2_s) ?_
        refine Ew_of (pcₚ := 214) (fun _ => x_iload rfl (rk2_o (l88_14) rfl rfl)) ?_
        refine w_i2l rfl (show inr ((a3 - a2)) from q_358 b1 h2) ?_
        refine w_laddA rfl (fun z95 gz95 => ?_)
        refine Ew_of (pcₚ := 219) (fun _ => x_ldc2 (z := 4294967295) rfl (by decide)) ?_
        refine w_land rfl (show inrJ (z95) from gz95) (show inrJ (4294967295) from q_50) (fun z96 gz96 gaz96 gbz96 => ?_)
        refine Ew_of (pcₚ := 222) (fun _ => x_lstore rfl) ?_
        suffices hl222 : ∀ (m : Nat), ∀ (ls : rO) (σ : rS) (F_222 : hF) (A_222 : hA) (x222_15 : Int) (x222_16 : Int), rlook ls 1 = some (.ref (D 19)) → rlook ls 3 = some (I (a3)) → rlook ls 4 = some (J (2654435761)) → rlook ls 6 = some (J (2246822519)) → rlook ls 8 = some (J (3266489917)) → rlook ls 10 = some (J (668265263)) → rlook ls 12 = some (J (374761393)) → rlook ls 15 = some (I (x222_15)) → rlook ls 16 = some (J (x222_16)) → HS σ0 σ D N F_222 A_222 → SF [] F88 F_222 → SA [] A89 A_222 → (inr (x222_15)) → (inrJ (x222_16)) → ((a2) ≤ (x222_15) ∧ (x222_15) ≤ (a3)) → ((a3) - (x222_15)).toNat = m → Ew 359 (d + 1) 222 ls [] σ c s Q from
          hl222 _ _ σ _ _ (x88_15) (z96) (rk2_o (rk2_o (l88_1) rfl rfl) rfl rfl) (rk2_o (rk2_o (l88_3) rfl rfl) rfl rfl) (rk2_o (rk2_o (l88_4) rfl rfl) rfl rfl) (rk2_o (rk2_o (l88_6) rfl rfl) rfl rfl) (rk2_o (rk2_o (l88_8) rfl rfl) rfl rfl) (rk2_o (rk2_o (l88_10) rfl rfl) rfl rfl) (rk2_o (rk2_o (l88_12) rfl rfl) rfl rfl) (rk2_o (rk2_o (l88_15) rfl rfl) rfl rfl) (rk2_s) H (SF_refl) (SA_refl)   (show inr (x88_15) from j88_0) (show inrJ (z96) from gz96) (show (a2) ≤ (x88_15) ∧ (x88_15) ≤ (a3) from j88_1) rfl
        as_aux_lemma =>
        intro m
        induction m using Nat.strongRecOn with
        | _ m ih222 =>
          intro ls σ F_222 A_222 x222_15 x222_16 l222_1 l222_3 l222_4 l222_6 l222_8 l222_10 l222_12 l222_15 l222_16 H hS_222 hA_222   j222_0 j222_1 j222_2 hm222
          refine Ew_of (pcₚ := 223) (fun _ => x_iload_n rfl l222_3) ?_
          refine Ew_of (pcₚ := 225) (fun _ => x_iload rfl l222_15) ?_
          refine w_isub rfl ?_
          refine Ew_of (pcₚ := 227) (fun _ => x_iconst rfl) ?_
          refine w_icmplt (t := 266) rfl rfl (show inr ((a3 - x222_15)) from q_354 h2 j222_2) (show inr (4) from q_2) (fun b97 => ?_) (fun b97 => ?_)
          · suffices hl266 : ∀ (m : Nat), ∀ (ls : rO) (σ : rS) (F_266 : hF) (A_266 : hA) (x266_15 : Int) (x266_16 : Int), rlook ls 1 = some (.ref (D 19)) → rlook ls 3 = some (I (a3)) → rlook ls 4 = some (J (2654435761)) → rlook ls 6 = some (J (2246822519)) → rlook ls 8 = some (J (3266489917)) → rlook ls 12 = some (J (374761393)) → rlook ls 15 = some (I (x266_15)) → rlook ls 16 = some (J (x266_16)) → HS σ0 σ D N F_266 A_266 → SF [] F_222 F_266 → SA [] A_222 A_266 → (inr (x266_15)) → (inrJ (x266_16)) → ((x222_15) ≤ (x266_15)) → ((x266_15) ≤ (x222_15) ∨ (x266_15) ≤ ((a3))) → (((a3)) - (x266_15)).toNat = m → Ew 359 (d + 1) 266 ls [] σ c s Q from
              hl266 _ _ σ _ _ (x222_15) (x222_16) (l222_1) (l222_3) (l222_4) (l222_6) (l222_8) (l222_12) (l222_15) (l222_16) H (SF_refl) (SA_refl)   (show inr (x222_15) from j222_0) (show inrJ (x222_16) from j222_1) (show (x222_15) ≤ (x222_15) from q_102) (show (x222_15) ≤ (x222_15) ∨ (x222_15) ≤ ((a3)) from q_101) rfl
            as_aux_lemma =>
            intro m
            induction m using Nat.strongRecOn with
            | _ m ih266 =>
              intro ls σ F_266 A_266 x266_15 x266_16 l266_1 l266_3 l266_4 l266_6 l266_8 l266_12 l266_15 l266_16 H hS_266 hA_266   j266_0 j266_1 j266_2 j266_3 hm266
              refine Ew_of (pcₚ := 268) (fun _ => x_iload rfl l266_15) ?_
              refine Ew_of (pcₚ := 269) (fun _ => x_iload_n rfl l266_3) ?_
              refine w_icmpge (t := 307) rfl rfl (show inr (x266_15) from j266_0) (show inr (a3) from h1) (fun b98 => ?_) (fun b98 => ?_)
              · refine Ew_of (pcₚ := 309) (fun _ => x_lload rfl l266_16) ?_
                refine Ew_of (pcₚ := 311) (fun _ => x_lload rfl l266_16) ?_
                refine Ew_of (pcₚ := 313) (fun _ => x_bipush (z := 15) rfl (by decide)) ?_
                refine w_lshrA rfl (fun z99 gz99 => ?_)
                refine w_lxorA rfl (fun z100 gz100 => ?_)
                refine Ew_of (pcₚ := 317) (fun _ => x_lload rfl l266_6) ?_
                refine w_stat24 rfl rfl (by rfl) (M357 H (show inrJ (z100) from gz100) (show inrJ (2246822519) from q_335) (fun z105 σ F101 A102 H hS103 hA104 pz105_0 => ⟨rfl, ?_⟩))
                refine Ew_of (pcₚ := 322) (fun _ => x_lstore rfl) ?_
                refine Ew_of (pcₚ := 324) (fun _ => x_lload rfl rk2_s) ?_
                refine Ew_of (pcₚ := 326) (fun _ => x_lload rfl rk2_s) ?_
                refine Ew_of (pcₚ := 328) (fun _ => x_bipush (z := 13) rfl (by decide)) ?_
                refine w_lshrA rfl (fun z106 gz106 => ?_)
                refine w_lxorA rfl (fun z107 gz107 => ?_)
                refine Ew_of (pcₚ := 332) (fun _ => x_lload rfl (rk2_o (l266_8) rfl rfl)) ?_
                refine w_stat24 rfl rfl (by rfl) (M357 H (show inrJ (z107) from gz107) (show inrJ (3266489917) from q_336) (fun z112 σ F108 A109 H hS110 hA111 pz112_0 => ⟨rfl, ?_⟩))
                refine Ew_of (pcₚ := 337) (fun _ => x_lstore rfl) ?_
                refine Ew_of (pcₚ := 339) (fun _ => x_lload rfl rk2_s) ?_
                refine Ew_of (pcₚ := 341) (fun _ => x_lload rfl rk2_s) ?_
                refine Ew_of (pcₚ := 343) (fun _ => x_bipush (z := 16) rfl (by decide)) ?_
                refine w_lshrA rfl (fun z113 gz113 => ?_)
                refine w_lxorA rfl (fun z114 gz114 => ?_)
                exact w_lreturn rfl (k (z114) σ _ _ H (SF_trans (SF_trans (SF_trans (SF_trans (SF_trans (SF_trans (SF_trans (SF_trans (SF_trans (SF_refl) hS_88 (any_sub rfl)) hS70 (any_sub rfl)) hS76 (any_sub rfl)) hS83 (any_sub rfl)) hS90 (any_sub rfl)) hS_222 (any_sub rfl)) hS_266 (any_sub rfl)) hS103 (any_sub rfl)) hS110 (any_sub rfl)) (SA_trans (SA_trans (SA_trans (SA_trans (SA_trans (SA_trans (SA_trans (SA_trans (SA_trans (SA_upd (SA_upd (SA_upd (SA_upd (SA_refl) rfl) rfl) rfl) rfl) hA_88 (any_subA rfl)) hA71 (any_subA rfl)) hA77 (any_subA rfl)) hA84 (any_subA rfl)) hA91 (any_subA rfl)) hA_222 (any_subA rfl)) hA_266 (any_subA rfl)) hA104 (any_subA rfl)) hA111 (any_subA rfl)) (show inrJ (z114) from gz114))
              · refine Ew_of (pcₚ := 274) (fun _ => x_lload rfl l266_16) ?_
                refine Ew_of (pcₚ := 275) (fun _ => x_aload_n rfl l266_1) ?_
                refine Ew_of (pcₚ := 277) (fun _ => x_iload rfl l266_15) ?_
                refine w_lI H (o := 19) (n := 70000) rfl (H.perm 19 rfl) rfl rfl (H.fix 19 rfl rfl) (show 0 ≤ x266_15 ∧ x266_15 < ((70000 : Nat) : Int) from q_337 b98 h2 j222_2 j266_2) (by decide) (fun v115 ev115 qv115 => ?_)
                have qv115 : (0 : Int) ≤ v115 ∧ v115 ≤ 255 := qv115
                have ev115 : (A 19) (x266_15) = v115 := (congrFun ((funext (hA_266 19 rfl)).trans ((funext (hA_222 19 rfl)).trans ((funext (hA91 19 rfl)).trans ((funext (hA84 19 rfl)).trans ((funext (hA77 19 rfl)).trans ((funext (hA71 19 rfl)).trans (funext (hA_88 19 rfl)))))))) (x266_15)).symm.trans ev115
                refine w_i2l rfl (show inr (v115) from q_38 qv115) ?_
                refine Ew_of (pcₚ := 281) (fun _ => x_lload rfl l266_12) ?_
                refine w_stat24 rfl rfl (by rfl) (M357 H (show inrJ (v115) from q_194 qv115) (show inrJ (374761393) from q_338) (fun z120 σ F116 A117 H hS118 hA119 pz120_0 => ⟨rfl, ?_⟩))
                refine w_laddA rfl (fun z121 gz121 => ?_)
                refine Ew_of (pcₚ := 288) (fun _ => x_ldc2 (z := 4294967295) rfl (by decide)) ?_
                refine w_land rfl (show inrJ (z121) from gz121) (show inrJ (4294967295) from q_50) (fun z122 gz122 gaz122 gbz122 => ?_)
                refine Ew_of (pcₚ := 291) (fun _ => x_bipush (z := 11) rfl (by decide)) ?_
                refine w_stat24 rfl rfl (by rfl) (M356 H (show inrJ (z122) from gz122) (show inr (11) from q_67) (fun z127 σ F123 A124 H hS125 hA126 pz127_0 => ⟨rfl, ?_⟩))
                refine Ew_of (pcₚ := 296) (fun _ => x_lload rfl l266_4) ?_
                refine w_stat24 rfl rfl (by rfl) (M357 H (show inrJ (z127) from pz127_0) (show inrJ (2654435761) from q_339) (fun z132 σ F128 A129 H hS130 hA131 pz132_0 => ⟨rfl, ?_⟩))
                refine Ew_of (pcₚ := 301) (fun _ => x_lstore rfl) ?_
                refine Ew_of (pcₚ := 304) (fun _ => x_iinc (len := 3) rfl (rk2_o (l266_15) rfl rfl)) ?_
                refine Ew_of (pcₚ := 266) (fun _ => x_goto rfl rfl) ?_
                exact ih266 _ (msE hm266 q_31 (q_34 b98)) _ σ _ _ ((x266_15 + 1)) (z132) (rk_o (rk2_o (l266_1) rfl rfl) rfl rfl) (rk_o (rk2_o (l266_3) rfl rfl) rfl rfl) (rk_o (rk2_o (l266_4) rfl rfl) rfl rfl) (rk_o (rk2_o (l266_6) rfl rfl) rfl rfl) (rk_o (rk2_o (l266_8) rfl rfl) rfl rfl) (rk_o (rk2_o (l266_12) rfl rfl) rfl rfl) (rk_s) (rk_o (rk2_s) rfl rfl) H (SF_trans (SF_trans (SF_trans (hS_266) hS118 (any_sub rfl)) hS125 (any_sub rfl)) hS130 (any_sub rfl)) (SA_trans (SA_trans (SA_trans (hA_266) hA119 (any_subA rfl)) hA126 (any_subA rfl)) hA131 (any_subA rfl))   (show inr ((x266_15 + 1)) from q_340 b98 h2 j266_0) (show inrJ (z132) from pz132_0) (show (x222_15) ≤ ((x266_15 + 1)) from q_105 j266_2) (show ((x266_15 + 1)) ≤ (x222_15) ∨ ((x266_15 + 1)) ≤ ((a3)) from q_104 b98) rfl
          · refine Ew_of (pcₚ := 232) (fun _ => x_lload rfl l222_16) ?_
            refine Ew_of (pcₚ := 233) (fun _ => x_aload_n rfl l222_1) ?_
            refine Ew_of (pcₚ := 235) (fun _ => x_iload rfl l222_15) ?_
            refine w_stat24 rfl rfl (by rfl) (M358_19 H (show inr (x222_15) from j222_0) (show 0 ≤ (x222_15) ∧ (x222_15) + 3 < 70000 from q_341 b97 h2 j222_2) (fun z137 σ F133 A134 H hS135 hA136 pz137_0 => ⟨rfl, ?_⟩))
            refine Ew_of (pcₚ := 240) (fun _ => x_lload rfl l222_8) ?_
            refine w_stat24 rfl rfl (by rfl) (M357 H (show inrJ (z137) from pz137_0) (show inrJ (3266489917) from q_336) (fun z142 σ F138 A139 H hS140 hA141 pz142_0 => ⟨rfl, ?_⟩))
            refine w_laddA rfl (fun z143 gz143 => ?_)
            refine Ew_of (pcₚ := 247) (fun _ => x_ldc2 (z := 4294967295) rfl (by decide)) ?_
            refine w_land rfl (show inrJ (z143) from gz143) (show inrJ (4294967295) from q_50) (fun z144 gz144 gaz144 gbz144 => ?_)
            refine Ew_of (pcₚ := 250) (fun _ => x_bipush (z := 17) rfl (by decide)) ?_
            refine w_stat24 rfl rfl (by rfl) (M356 H (show inrJ (z144) from gz144) (show inr (17) from q_342) (fun z149 σ F145 A146 H hS147 hA148 pz149_0 => ⟨rfl, ?_⟩))
            refine Ew_of (pcₚ := 255) (fun _ => x_lload rfl l222_10) ?_
            refine w_stat24 rfl rfl (by rfl) (M357 H (show inrJ (z149) from pz149_0) (show inrJ (668265263) from q_343) (fun z154 σ F150 A151 H hS152 hA153 pz154_0 => ⟨rfl, ?_⟩))
            refine Ew_of (pcₚ := 260) (fun _ => x_lstore rfl) ?_
            refine Ew_of (pcₚ := 263) (fun _ => x_iinc (len := 3) rfl (rk2_o (l222_15) rfl rfl)) ?_
            refine Ew_of (pcₚ := 222) (fun _ => x_goto rfl rfl) ?_
            exact ih222 _ (msE hm222 q_346 (q_347 b97)) _ σ _ _ ((x222_15 + 4)) (z154) (rk_o (rk2_o (l222_1) rfl rfl) rfl rfl) (rk_o (rk2_o (l222_3) rfl rfl) rfl rfl) (rk_o (rk2_o (l222_4) rfl rfl) rfl rfl) (rk_o (rk2_o (l222_6) rfl rfl) rfl rfl) (rk_o (rk2_o (l222_8) rfl rfl) rfl rfl) (rk_o (rk2_o (l222_10) rfl rfl) rfl rfl) (rk_o (rk2_o (l222_12) rfl rfl) rfl rfl) (rk_s) (rk_o (rk2_s) rfl rfl) H (SF_trans (SF_trans (SF_trans (SF_trans (hS_222) hS135 (any_sub rfl)) hS140 (any_sub rfl)) hS147 (any_sub rfl)) hS152 (any_sub rfl)) (SA_trans (SA_trans (SA_trans (SA_trans (hA_222) hA136 (any_subA rfl)) hA141 (any_subA rfl)) hA148 (any_subA rfl)) hA153 (any_subA rfl))   (show inr ((x222_15 + 4)) from q_345 b97 h2 j222_0) (show inrJ (z154) from pz154_0) (show (a2) ≤ ((x222_15 + 4)) ∧ ((x222_15 + 4)) ≤ (a3) from q_344 b97 j222_2) rfl
      · refine Ew_of (pcₚ := 98) (fun _ => x_iconst rfl) ?_
        refine Ew_of (pcₚ := 100) (fun _ => x_istore rfl) ?_
        suffices hl100 : ∀ (m : Nat), ∀ (ls : rO) (σ : rS) (F_100 : hF) (A_100 : hA) (x100_15 : Int) (x100_18 : Int), rlook ls 0 = some (.ref (D 3)) → rlook ls 1 = some (.ref (D 19)) → rlook ls 3 = some (I (a3)) → rlook ls 4 = some (J (2654435761)) → rlook ls 6 = some (J (2246822519)) → rlook ls 8 = some (J (3266489917)) → rlook ls 10 = some (J (668265263)) → rlook ls 12 = some (J (374761393)) → rlook ls 14 = some (I ((a3 - a2))) → rlook ls 15 = some (I (x100_15)) → rlook ls 18 = some (I (x100_18)) → HS σ0 σ D N F_100 A_100 → SF [] F_88 F_100 → SA [17] A_88 A_100 → (inr (x100_15)) → (inr (x100_18)) → ((0) ≤ (x100_18)) → ((x100_18) ≤ (0) ∨ (x100_18) ≤ (4)) → ((x100_15) = (x88_15) + 4 * (x100_18)) → ((4) - (x100_18)).toNat = m → Ew 359 (d + 1) 100 ls [] σ c s Q from
          hl100 _ _ σ _ _ (x88_15) (0) (rk_o (l88_0) rfl rfl) (rk_o (l88_1) rfl rfl) (rk_o (l88_3) rfl rfl) (rk_o (l88_4) rfl rfl) (rk_o (l88_6) rfl rfl) (rk_o (l88_8) rfl rfl) (rk_o (l88_10) rfl rfl) (rk_o (l88_12) rfl rfl) (rk_o (l88_14) rfl rfl) (rk_o (l88_15) rfl rfl) (rk_s) H (SF_refl) (SA_refl)   (show inr (x88_15) from j88_0) (show inr (0) from q_20) (show (0) ≤ (0) from q_25) (show (0) ≤ (0) ∨ (0) ≤ (4) from q_360) (show (x88_15) = (x88_15) + 4 * (0) from q_359) rfl
        as_aux_lemma =>
        intro m
        induction m using Nat.strongRecOn with
        | _ m ih100 =>
          intro ls σ F_100 A_100 x100_15 x100_18 l100_0 l100_1 l100_3 l100_4 l100_6 l100_8 l100_10 l100_12 l100_14 l100_15 l100_18 H hS_100 hA_100   j100_0 j100_1 j100_2 j100_3 j100_4 hm100
          refine Ew_of (pcₚ := 102) (fun _ => x_iload rfl l100_18) ?_
          refine Ew_of (pcₚ := 103) (fun _ => x_iconst rfl) ?_
          refine w_icmpge (t := 155) rfl rfl (show inr (x100_18) from j100_1) (show inr (4) from q_2) (fun b155 => ?_) (fun b155 => ?_)
          · refine Ew_of (pcₚ := 88) (fun _ => x_goto rfl rfl) ?_
            exact ih88 _ (msE hm88 (q_361 b155 j100_4) (q_94 b66)) _ σ _ _ (x100_15) (l100_0) (l100_1) (l100_3) (l100_4) (l100_6) (l100_8) (l100_10) (l100_12) (l100_14) (l100_15) H (SF_trans (hS_88) hS_100 (any_sub rfl)) (SA_trans (hA_88) hA_100 (any_subA rfl))   (show inr (x100_15) from j100_0) (show (a2) ≤ (x100_15) ∧ (x100_15) ≤ (a3) by omega) rfl
          · refine Ew_of (pcₚ := 107) (fun _ => x_aload_n rfl l100_0) ?_
            refine w_gT H (o := 3) (t := 17) rfl (H.perm 3 rfl) rfl rfl rfl rfl rfl rfl ?_
            refine Ew_of (pcₚ := 112) (fun _ => x_iload rfl l100_18) ?_
            refine Ew_of (pcₚ := 113) (fun _ => x_aload_n rfl l100_0) ?_
            refine w_gT H (o := 3) (t := 17) rfl (H.perm 3 rfl) rfl rfl rfl rfl rfl rfl ?_
            refine Ew_of (pcₚ := 118) (fun _ => x_iload rfl l100_18) ?_
            refine w_lJ H (o := 17) (n := 4) rfl (H.perm 17 rfl) rfl rfl (H.fix 17 rfl rfl) (show 0 ≤ x100_18 ∧ x100_18 < ((4 : Nat) : Int) from q_362 b155 j100_2) (by decide) (fun v156 ev156 qv156 => ?_)
            have qv156 : (-9223372036854775808 : Int) ≤ v156 ∧ v156 ≤ 9223372036854775807 := qv156
            have ev156 : (A_100 17) (x100_18) = v156 := (congrFun (rfl : A_100 17 = A_100 17) (x100_18)).symm.trans ev156
            refine Ew_of (pcₚ := 120) (fun _ => x_aload_n rfl l100_1) ?_
            refine Ew_of (pcₚ := 122) (fun _ => x_iload rfl l100_15) ?_
            refine w_stat24 rfl rfl (by rfl) (M358_19 H (show inr (x100_15) from j100_0) (show 0 ≤ (x100_15) ∧ (x100_15) + 3 < 70000 from q_363 b155 b66 h2 j100_2 j100_4 j88_1) (fun z161 σ F157 A158 H hS159 hA160 pz161_0 => ⟨rfl, ?_⟩))
            refine Ew_of (pcₚ := 127) (fun _ => x_lload rfl l100_6) ?_
            refine w_stat24 rfl rfl (by rfl) (M357 H (show inrJ (z161) from pz161_0) (show inrJ (2246822519) from q_335) (fun z166 σ F162 A163 H hS164 hA165 pz166_0 => ⟨rfl, ?_⟩))
            refine w_laddA rfl (fun z167 gz167 => ?_)
            refine Ew_of (pcₚ := 134) (fun _ => x_ldc2 (z := 4294967295) rfl (by decide)) ?_
            refine w_land rfl (show inrJ (z167) from gz167) (show inrJ (4294967295) from q_50) (fun z168 gz168 gaz168 gbz168 => ?_)
            refine Ew_of (pcₚ := 137) (fun _ => x_bipush (z := 13) rfl (by decide)) ?_
            refine w_stat24 rfl rfl (by rfl) (M356 H (show inrJ (z168) from gz168) (show inr (13) from q_90) (fun z173 σ F169 A170 H hS171 hA172 pz173_0 => ⟨rfl, ?_⟩))
            refine Ew_of (pcₚ := 142) (fun _ => x_lload rfl l100_4) ?_
            refine w_stat24 rfl rfl (by rfl) (M357 H (show inrJ (z173) from pz173_0) (show inrJ (2654435761) from q_339) (fun z178 σ F174 A175 H hS176 hA177 pz178_0 => ⟨rfl, ?_⟩))
            refine w_sJ H (o := 17) (n := 4) rfl (H.perm 17 rfl) rfl rfl (H.fix 17 rfl rfl) (show 0 ≤ x100_18 ∧ x100_18 < ((4 : Nat) : Int) from q_362 b155 j100_2) (by decide) (show (-9223372036854775808 : Int) ≤ z178 ∧ z178 ≤ 9223372036854775807 by omega) (fun σ H => ?_)
            refine Ew_of (pcₚ := 149) (fun _ => x_iinc (len := 3) rfl (l100_15)) ?_
            refine Ew_of (pcₚ := 152) (fun _ => x_iinc (len := 3) rfl (rk_o (l100_18) rfl rfl)) ?_
            refine Ew_of (pcₚ := 100) (fun _ => x_goto rfl rfl) ?_
            exact ih100 _ (msE hm100 q_368 (q_369 b155)) _ σ _ _ ((x100_15 + 4)) ((x100_18 + 1)) (rk_o (rk_o (l100_0) rfl rfl) rfl rfl) (rk_o (rk_o (l100_1) rfl rfl) rfl rfl) (rk_o (rk_o (l100_3) rfl rfl) rfl rfl) (rk_o (rk_o (l100_4) rfl rfl) rfl rfl) (rk_o (rk_o (l100_6) rfl rfl) rfl rfl) (rk_o (rk_o (l100_8) rfl rfl) rfl rfl) (rk_o (rk_o (l100_10) rfl rfl) rfl rfl) (rk_o (rk_o (l100_12) rfl rfl) rfl rfl) (rk_o (rk_o (l100_14) rfl rfl) rfl rfl) (rk_o (rk_s) rfl rfl) (rk_s) H (SF_trans (SF_trans (SF_trans (SF_trans (hS_100) hS159 (any_sub rfl)) hS164 (any_sub rfl)) hS171 (any_sub rfl)) hS176 (any_sub rfl)) (SA_upd (SA_trans (SA_trans (SA_trans (SA_trans (hA_100) hA160 (any_subA rfl)) hA165 (any_subA rfl)) hA172 (any_subA rfl)) hA177 (any_subA rfl)) rfl)   (show inr ((x100_15 + 4)) from q_367 b155 b66 h2 j100_0 j100_4) (show inr ((x100_18 + 1)) from q_366 b155 j100_2) (show (0) ≤ ((x100_18 + 1)) from q_29 j100_2) (show ((x100_18 + 1)) ≤ (0) ∨ ((x100_18 + 1)) ≤ (4) from q_365 b155) (show ((x100_15 + 4)) = (x88_15) + 4 * ((x100_18 + 1)) from q_364 j100_4) rfl
/-- Tokens.sumOf -/
theorem M359_20 {σ0 σ : rS} {D N : Nat → Nat} {F : hF} {A : hA} {d c s : Nat} {Q : wQ} (H : HS σ0 σ D N F A) {a2 a3 : Int} (h0 : inr (a2)) (h1 : inr (a3)) (h2 : 0 ≤ (a2) ∧ (a2) ≤ (a3) ∧ (a3) ≤ 70000) (k : ∀ (z : Int) σ Fₚ Aₚ, HS σ0 σ D N Fₚ Aₚ → SF [] F Fₚ → SA [17] A Aₚ → (inrJ (z)) → Q (some (J z)) σ c s) : Ew 359 (d + 1) 0 (rargs 0 [.ref (D 3), .ref (D 20), I a2, I a3]) [] σ c s Q := by
  refine Ew_of (pcₚ := 3) (fun _ => x_ldc2 (z := 2654435761) rfl (by decide)) ?_
  refine Ew_of (pcₚ := 5) (fun _ => x_lstore rfl) ?_
  refine Ew_of (pcₚ := 8) (fun _ => x_ldc2 (z := 2246822519) rfl (by decide)) ?_
  refine Ew_of (pcₚ := 10) (fun _ => x_lstore rfl) ?_
  refine Ew_of (pcₚ := 13) (fun _ => x_ldc2 (z := 3266489917) rfl (by decide)) ?_
  refine Ew_of (pcₚ := 15) (fun _ => x_lstore rfl) ?_
  refine Ew_of (pcₚ := 18) (fun _ => x_ldc2 (z := 668265263) rfl (by decide)) ?_
  refine Ew_of (pcₚ := 20) (fun _ => x_lstore rfl) ?_
  refine Ew_of (pcₚ := 23) (fun _ => x_ldc2 (z := 374761393) rfl (by decide)) ?_
  refine Ew_of (pcₚ := 25) (fun _ => x_lstore rfl) ?_
  refine Ew_of (pcₚ := 26) (fun _ => x_iload_n rfl (rk2_o (rk2_o (rk2_o (rk2_o (rk2_o (rfl) rfl rfl) rfl rfl) rfl rfl) rfl rfl) rfl rfl)) ?_
  refine Ew_of (pcₚ := 27) (fun _ => x_iload_n rfl (rk2_o (rk2_o (rk2_o (rk2_o (rk2_o (rfl) rfl rfl) rfl rfl) rfl rfl) rfl rfl) rfl rfl)) ?_
  refine w_isub rfl ?_
  refine Ew_of (pcₚ := 30) (fun _ => x_istore rfl) ?_
  refine Ew_of (pcₚ := 31) (fun _ => x_iload_n rfl (rk_o (rk2_o (rk2_o (rk2_o (rk2_o (rk2_o (rfl) rfl rfl) rfl rfl) rfl rfl) rfl rfl) rfl rfl) rfl rfl)) ?_
  refine Ew_of (pcₚ := 33) (fun _ => x_istore rfl) ?_
  refine Ew_of (pcₚ := 35) (fun _ => x_lload rfl (rk_o (rk_o (rk2_s) rfl rfl) rfl rfl)) ?_
  refine Ew_of (pcₚ := 37) (fun _ => x_lstore rfl) ?_
  refine Ew_of (pcₚ := 39) (fun _ => x_iload rfl (rk2_o (rk_o (rk_s) rfl rfl) rfl rfl)) ?_
  refine Ew_of (pcₚ := 41) (fun _ => x_bipush (z := 16) rfl (by decide)) ?_
  refine w_icmplt (t := 210) rfl rfl (show inr ((a3 - a2)) from q_331 h2) (show inr (16) from q_86) (fun b1 => ?_) (fun b1 => ?_)
  · refine Ew_of (pcₚ := 212) (fun _ => x_lload rfl rk2_s) ?_
    refine Ew_of (pcₚ := 214) (fun _ => x_iload rfl (rk2_o (rk_o (rk_s) rfl rfl) rfl rfl)) ?_
    refine w_i2l rfl (show inr ((a3 - a2)) from q_332 b1 h2) ?_
    refine w_laddA rfl (fun z2 gz2 => ?_)
    refine Ew_of (pcₚ := 219) (fun _ => x_ldc2 (z := 4294967295) rfl (by decide)) ?_
    refine w_land rfl (show inrJ (z2) from gz2) (show inrJ (4294967295) from q_50) (fun z3 gz3 gaz3 gbz3 => ?_)
    refine Ew_of (pcₚ := 222) (fun _ => x_lstore rfl) ?_
    suffices hl222 : ∀ (m : Nat), ∀ (ls : rO) (σ : rS) (F_222 : hF) (A_222 : hA) (x222_15 : Int) (x222_16 : Int), rlook ls 1 = some (.ref (D 20)) → rlook ls 3 = some (I (a3)) → rlook ls 4 = some (J (2654435761)) → rlook ls 6 = some (J (2246822519)) → rlook ls 8 = some (J (3266489917)) → rlook ls 10 = some (J (668265263)) → rlook ls 12 = some (J (374761393)) → rlook ls 15 = some (I (x222_15)) → rlook ls 16 = some (J (x222_16)) → HS σ0 σ D N F_222 A_222 → SF [] F F_222 → SA [] A A_222 → (inr (x222_15)) → (inrJ (x222_16)) → ((a2) ≤ (x222_15) ∧ (x222_15) ≤ (a3)) → ((a3) - (x222_15)).toNat = m → Ew 359 (d + 1) 222 ls [] σ c s Q from
      hl222 _ _ σ _ _ (a2) (z3) (rk2_o (rk2_o (rk_o (rk_o (rk2_o (rk2_o (rk2_o (rk2_o (rk2_o (rfl) rfl rfl) rfl rfl) rfl rfl) rfl rfl) rfl rfl) rfl rfl) rfl rfl) rfl rfl) rfl rfl) (rk2_o (rk2_o (rk_o (rk_o (rk2_o (rk2_o (rk2_o (rk2_o (rk2_o (rfl) rfl rfl) rfl rfl) rfl rfl) rfl rfl) rfl rfl) rfl rfl) rfl rfl) rfl rfl) rfl rfl) (rk2_o (rk2_o (rk_o (rk_o (rk2_o (rk2_o (rk2_o (rk2_o (rk2_s) rfl rfl) rfl rfl) rfl rfl) rfl rfl) rfl rfl) rfl rfl) rfl rfl) rfl rfl) (rk2_o (rk2_o (rk_o (rk_o (rk2_o (rk2_o (rk2_o (rk2_s) rfl rfl) rfl rfl) rfl rfl) rfl rfl) rfl rfl) rfl rfl) rfl rfl) (rk2_o (rk2_o (rk_o (rk_o (rk2_o (rk2_o (rk2_s) rfl rfl) rfl rfl) rfl rfl) rfl rfl) rfl rfl) rfl rfl) (rk2_o (rk2_o (rk_o (rk_o (rk2_o (rk2_s) rfl rfl) rfl rfl) rfl rfl) rfl rfl) rfl rfl) (rk2_o (rk2_o (rk_o (rk_o (rk2_s) rfl rfl) rfl rfl) rfl rfl) rfl rfl) (rk2_o (rk2_o (rk_s) rfl rfl) rfl rfl) (rk2_s) H (SF_refl) (SA_refl)   (show inr (a2) from h0) (show inrJ (z3) from gz3) (show (a2) ≤ (a2) ∧ (a2) ≤ (a3) from q_333 h2) rfl
    as_aux_lemma =>
    intro m
    induction m using Nat.strongRecOn with
    | _ m ih222 =>
      intro ls σ F_222 A_222 x222_15 x222_16 l222_1 l222_3 l222_4 l222_6 l222_8 l222_10 l222_12 l222_15 l222_16 H hS_222 hA_222   j222_0 j222_1 j222_2 hm222
      refine Ew_of (pcₚ := 223) (fun _ => x_iload_n rfl l222_3) ?_
      refine Ew_of (pcₚ := 225) (fun _ => x_iload rfl l222_15) ?_
      refine w_isub rfl ?_
      refine Ew_of (pcₚ := 227) (fun _ => x_iconst rfl) ?_
      refine w_icmplt (t := 266) rfl rfl (show inr ((a3 - x222_15)) from q_334 b1 j222_2) (show inr (4) from q_2) (fun b4 => ?_) (fun b4 => ?_)
      · suffices hl266 : ∀ (m : Nat), ∀ (ls : rO) (σ : rS) (F_266 : hF) (A_266 : hA) (x266_15 : Int) (x266_16 : Int), rlook ls 1 = some (.ref (D 20)) → rlook ls 3 = some (I (a3)) → rlook ls 4 = some (J (2654435761)) → rlook ls 6 = some (J (2246822519)) → rlook ls 8 = some (J (3266489917)) → rlook ls 12 = some (J (374761393)) → rlook ls 15 = some (I (x266_15)) → rlook ls 16 = some (J (x266_16)) → HS σ0 σ D N F_266 A_266 → SF [] F_222 F_266 → SA [] A_222 A_266 → (inr (x266_15)) → (inrJ (x266_16)) → ((x222_15) ≤ (x266_15)) → ((x266_15) ≤ (x222_15) ∨ (x266_15) ≤ ((a3))) → (((a3)) - (x266_15)).toNat = m → Ew 359 (d + 1) 266 ls [] σ c s Q from
          hl266 _ _ σ _ _ (x222_15) (x222_16) (l222_1) (l222_3) (l222_4) (l222_6) (l222_8) (l222_12) (l222_15) (l222_16) H (SF_refl) (SA_refl)   (show inr (x222_15) from j222_0) (show inrJ (x222_16) from j222_1) (show (x222_15) ≤ (x222_15) from q_102) (show (x222_15) ≤ (x222_15) ∨ (x222_15) ≤ ((a3)) from q_101) rfl
        as_aux_lemma =>
        intro m
        induction m using Nat.strongRecOn with
        | _ m ih266 =>
          intro ls σ F_266 A_266 x266_15 x266_16 l266_1 l266_3 l266_4 l266_6 l266_8 l266_12 l266_15 l266_16 H hS_266 hA_266   j266_0 j266_1 j266_2 j266_3 hm266
          refine Ew_of (pcₚ := 268) (fun _ => x_iload rfl l266_15) ?_
          refine Ew_of (pcₚ := 269) (fun _ => x_iload_n rfl l266_3) ?_
          refine w_icmpge (t := 307) rfl rfl (show inr (x266_15) from j266_0) (show inr (a3) from h1) (fun b5 => ?_) (fun b5 => ?_)
          · refine Ew_of (pcₚ := 309) (fun _ => x_lload rfl l266_16) ?_
            refine Ew_of (pcₚ := 311) (fun _ => x_lload rfl l266_16) ?_
            refine Ew_of (pcₚ := 313) (fun _ => x_bipush (z := 15) rfl (by decide)) ?_
            refine w_lshrA rfl (fun z6 gz6 => ?_)
            refine w_lxorA rfl (fun z7 gz7 => ?_)
            refine Ew_of (pcₚ := 317) (fun _ => x_lload rfl l266_6) ?_
            refine w_stat24 rfl rfl (by rfl) (M357 H (show inrJ (z7) from gz7) (show inrJ (2246822519) from q_335) (fun z12 σ F8 A9 H hS10 hA11 pz12_0 => ⟨rfl, ?_⟩))
            refine Ew_of (pcₚ := 322) (fun _ => x_lstore rfl) ?_
            refine Ew_of (pcₚ := 324) (fun _ => x_lload rfl rk2_s) ?_
            refine Ew_of (pcₚ := 326) (fun _ => x_lload rfl rk2_s) ?_
            refine Ew_of (pcₚ := 328) (fun _ => x_bipush (z := 13) rfl (by decide)) ?_
            refine w_lshrA rfl (fun z13 gz13 => ?_)
            refine w_lxorA rfl (fun z14 gz14 => ?_)
            refine Ew_of (pcₚ := 332) (fun _ => x_lload rfl (rk2_o (l266_8) rfl rfl)) ?_
            refine w_stat24 rfl rfl (by rfl) (M357 H (show inrJ (z14) from gz14) (show inrJ (3266489917) from q_336) (fun z19 σ F15 A16 H hS17 hA18 pz19_0 => ⟨rfl, ?_⟩))
            refine Ew_of (pcₚ := 337) (fun _ => x_lstore rfl) ?_
            refine Ew_of (pcₚ := 339) (fun _ => x_lload rfl rk2_s) ?_
            refine Ew_of (pcₚ := 341) (fun _ => x_lload rfl rk2_s) ?_
            refine Ew_of (pcₚ := 343) (fun _ => x_bipush (z := 16) rfl (by decide)) ?_
            refine w_lshrA rfl (fun z20 gz20 => ?_)
            refine w_lxorA rfl (fun z21 gz21 => ?_)
            exact w_lreturn rfl (k (z21) σ _ _ H (SF_trans (SF_trans (SF_trans (SF_trans (SF_refl) hS_222 (any_sub rfl)) hS_266 (any_sub rfl)) hS10 (any_sub rfl)) hS17 (any_sub rfl)) (SA_trans (SA_trans (SA_trans (SA_trans (SA_refl) hA_222 (any_subA rfl)) hA_266 (any_subA rfl)) hA11 (any_subA rfl)) hA18 (any_subA rfl)) (show inrJ (z21) from gz21))
          · refine Ew_of (pcₚ := 274) (fun _ => x_lload rfl l266_16) ?_
            refine Ew_of (pcₚ := 275) (fun _ => x_aload_n rfl l266_1) ?_
            refine Ew_of (pcₚ := 277) (fun _ => x_iload rfl l266_15) ?_
            refine w_lI H (o := 20) (n := 70000) rfl (H.perm 20 rfl) rfl rfl (H.fix 20 rfl rfl) (show 0 ≤ x266_15 ∧ x266_15 < ((70000 : Nat) : Int) from q_337 b5 h2 j222_2 j266_2) (by decide) (fun v22 ev22 qv22 => ?_)
            have qv22 : (0 : Int) ≤ v22 ∧ v22 ≤ 255 := qv22
            have ev22 : (A 20) (x266_15) = v22 := (congrFun ((funext (hA_266 20 rfl)).trans (funext (hA_222 20 rfl))) (x266_15)).symm.trans ev22
            refine w_i2l rfl (show inr (v22) from q_38 qv22) ?_
            refine Ew_of (pcₚ := 281) (fun _ => x_lload rfl l266_12) ?_
            refine w_stat24 rfl rfl (by rfl) (M357 H (show inrJ (v22) from q_194 qv22) (show inrJ (374761393) from q_338) (fun z27 σ F23 A24 H hS25 hA26 pz27_0 => ⟨rfl, ?_⟩))
            refine w_laddA rfl (fun z28 gz28 => ?_)
            refine Ew_of (pcₚ := 288) (fun _ => x_ldc2 (z := 4294967295) rfl (by decide)) ?_
            refine w_land rfl (show inrJ (z28) from gz28) (show inrJ (4294967295) from q_50) (fun z29 gz29 gaz29 gbz29 => ?_)
            refine Ew_of (pcₚ := 291) (fun _ => x_bipush (z := 11) rfl (by decide)) ?_
            refine w_stat24 rfl rfl (by rfl) (M356 H (show inrJ (z29) from gz29) (show inr (11) from q_67) (fun z34 σ F30 A31 H hS32 hA33 pz34_0 => ⟨rfl, ?_⟩))
            refine Ew_of (pcₚ := 296) (fun _ => x_lload rfl l266_4) ?_
            refine w_stat24 rfl rfl (by rfl) (M357 H (show inrJ (z34) from pz34_0) (show inrJ (2654435761) from q_339) (fun z39 σ F35 A36 H hS37 hA38 pz39_0 => ⟨rfl, ?_⟩))
            refine Ew_of (pcₚ := 301) (fun _ => x_lstore rfl) ?_
            refine Ew_of (pcₚ := 304) (fun _ => x_iinc (len := 3) rfl (rk2_o (l266_15) rfl rfl)) ?_
            refine Ew_of (pcₚ := 266) (fun _ => x_goto rfl rfl) ?_
            exact ih266 _ (msE hm266 q_31 (q_34 b5)) _ σ _ _ ((x266_15 + 1)) (z39) (rk_o (rk2_o (l266_1) rfl rfl) rfl rfl) (rk_o (rk2_o (l266_3) rfl rfl) rfl rfl) (rk_o (rk2_o (l266_4) rfl rfl) rfl rfl) (rk_o (rk2_o (l266_6) rfl rfl) rfl rfl) (rk_o (rk2_o (l266_8) rfl rfl) rfl rfl) (rk_o (rk2_o (l266_12) rfl rfl) rfl rfl) (rk_s) (rk_o (rk2_s) rfl rfl) H (SF_trans (SF_trans (SF_trans (hS_266) hS25 (any_sub rfl)) hS32 (any_sub rfl)) hS37 (any_sub rfl)) (SA_trans (SA_trans (SA_trans (hA_266) hA26 (any_subA rfl)) hA33 (any_subA rfl)) hA38 (any_subA rfl))   (show inr ((x266_15 + 1)) from q_340 b5 h2 j266_0) (show inrJ (z39) from pz39_0) (show (x222_15) ≤ ((x266_15 + 1)) from q_105 j266_2) (show ((x266_15 + 1)) ≤ (x222_15) ∨ ((x266_15 + 1)) ≤ ((a3)) from q_104 b5) rfl
      · refine Ew_of (pcₚ := 232) (fun _ => x_lload rfl l222_16) ?_
        refine Ew_of (pcₚ := 233) (fun _ => x_aload_n rfl l222_1) ?_
        refine Ew_of (pcₚ := 235) (fun _ => x_iload rfl l222_15) ?_
        refine w_stat24 rfl rfl (by rfl) (M358_20 H (show inr (x222_15) from j222_0) (show 0 ≤ (x222_15) ∧ (x222_15) + 3 < 70000 from q_341 b4 h2 j222_2) (fun z44 σ F40 A41 H hS42 hA43 pz44_0 => ⟨rfl, ?_⟩))
        refine Ew_of (pcₚ := 240) (fun _ => x_lload rfl l222_8) ?_
        refine w_stat24 rfl rfl (by rfl) (M357 H (show inrJ (z44) from pz44_0) (show inrJ (3266489917) from q_336) (fun z49 σ F45 A46 H hS47 hA48 pz49_0 => ⟨rfl, ?_⟩))
        refine w_laddA rfl (fun z50 gz50 => ?_)
        refine Ew_of (pcₚ := 247) (fun _ => x_ldc2 (z := 4294967295) rfl (by decide)) ?_
        refine w_land rfl (show inrJ (z50) from gz50) (show inrJ (4294967295) from q_50) (fun z51 gz51 gaz51 gbz51 => ?_)
        refine Ew_of (pcₚ := 250) (fun _ => x_bipush (z := 17) rfl (by decide)) ?_
        refine w_stat24 rfl rfl (by rfl) (M356 H (show inrJ (z51) from gz51) (show inr (17) from q_342) (fun z56 σ F52 A53 H hS54 hA55 pz56_0 => ⟨rfl, ?_⟩))
        refine Ew_of (pcₚ := 255) (fun _ => x_lload rfl l222_10) ?_
        refine w_stat24 rfl rfl (by rfl) (M357 H (show inrJ (z56) from pz56_0) (show inrJ (668265263) from q_343) (fun z61 σ F57 A58 H hS59 hA60 pz61_0 => ⟨rfl, ?_⟩))
        refine Ew_of (pcₚ := 260) (fun _ => x_lstore rfl) ?_
        refine Ew_of (pcₚ := 263) (fun _ => x_iinc (len := 3) rfl (rk2_o (l222_15) rfl rfl)) ?_
        refine Ew_of (pcₚ := 222) (fun _ => x_goto rfl rfl) ?_
        exact ih222 _ (msE hm222 q_346 (q_347 b4)) _ σ _ _ ((x222_15 + 4)) (z61) (rk_o (rk2_o (l222_1) rfl rfl) rfl rfl) (rk_o (rk2_o (l222_3) rfl rfl) rfl rfl) (rk_o (rk2_o (l222_4) rfl rfl) rfl rfl) (rk_o (rk2_o (l222_6) rfl rfl) rfl rfl) (rk_o (rk2_o (l222_8) rfl rfl) rfl rfl) (rk_o (rk2_o (l222_10) rfl rfl) rfl rfl) (rk_o (rk2_o (l222_12) rfl rfl) rfl rfl) (rk_s) (rk_o (rk2_s) rfl rfl) H (SF_trans (SF_trans (SF_trans (SF_trans (hS_222) hS42 (any_sub rfl)) hS47 (any_sub rfl)) hS54 (any_sub rfl)) hS59 (any_sub rfl)) (SA_trans (SA_trans (SA_trans (SA_trans (hA_222) hA43 (any_subA rfl)) hA48 (any_subA rfl)) hA55 (any_subA rfl)) hA60 (any_subA rfl))   (show inr ((x222_15 + 4)) from q_345 b4 h2 j222_0) (show inrJ (z61) from pz61_0) (show (a2) ≤ ((x222_15 + 4)) ∧ ((x222_15 + 4)) ≤ (a3) from q_344 b4 j222_2) rfl
  · refine Ew_of (pcₚ := 45) (fun _ => x_aload_n rfl (rk2_o (rk_o (rk_o (rk2_o (rk2_o (rk2_o (rk2_o (rk2_o (rfl) rfl rfl) rfl rfl) rfl rfl) rfl rfl) rfl rfl) rfl rfl) rfl rfl) rfl rfl)) ?_
    refine w_gT H (o := 3) (t := 17) rfl (H.perm 3 rfl) rfl rfl rfl rfl rfl rfl ?_
    refine Ew_of (pcₚ := 49) (fun _ => x_iconst rfl) ?_
    refine Ew_of (pcₚ := 51) (fun _ => x_lload rfl (rk2_o (rk_o (rk_o (rk2_o (rk2_o (rk2_o (rk2_o (rk2_s) rfl rfl) rfl rfl) rfl rfl) rfl rfl) rfl rfl) rfl rfl) rfl rfl)) ?_
    refine Ew_of (pcₚ := 53) (fun _ => x_lload rfl (rk2_o (rk_o (rk_o (rk2_o (rk2_o (rk2_o (rk2_s) rfl rfl) rfl rfl) rfl rfl) rfl rfl) rfl rfl) rfl rfl)) ?_
    refine w_laddA rfl (fun z62 gz62 => ?_)
    refine Ew_of (pcₚ := 57) (fun _ => x_ldc2 (z := 4294967295) rfl (by decide)) ?_
    refine w_land rfl (show inrJ (z62) from gz62) (show inrJ (4294967295) from q_50) (fun z63 gz63 gaz63 gbz63 => ?_)
    refine w_sJ H (o := 17) (n := 4) rfl (H.perm 17 rfl) rfl rfl (H.fix 17 rfl rfl) (show 0 ≤ 0 ∧ 0 < ((4 : Nat) : Int) from q_348) (by decide) (show (-9223372036854775808 : Int) ≤ z63 ∧ z63 ≤ 9223372036854775807 by omega) (fun σ H => ?_)
    refine Ew_of (pcₚ := 60) (fun _ => x_aload_n rfl (rk2_o (rk_o (rk_o (rk2_o (rk2_o (rk2_o (rk2_o (rk2_o (rfl) rfl rfl) rfl rfl) rfl rfl) rfl rfl) rfl rfl) rfl rfl) rfl rfl) rfl rfl)) ?_
    refine w_gT H (o := 3) (t := 17) rfl (H.perm 3 rfl) rfl rfl rfl rfl rfl rfl ?_
    refine Ew_of (pcₚ := 64) (fun _ => x_iconst rfl) ?_
    refine Ew_of (pcₚ := 66) (fun _ => x_lload rfl (rk2_o (rk_o (rk_o (rk2_o (rk2_o (rk2_o (rk2_s) rfl rfl) rfl rfl) rfl rfl) rfl rfl) rfl rfl) rfl rfl)) ?_
    refine w_sJ H (o := 17) (n := 4) rfl (H.perm 17 rfl) rfl rfl (H.fix 17 rfl rfl) (show 0 ≤ 1 ∧ 1 < ((4 : Nat) : Int) from q_350) (by decide) (show (-9223372036854775808 : Int) ≤ 2246822519 ∧ 2246822519 ≤ 9223372036854775807 from q_349) (fun σ H => ?_)
    refine Ew_of (pcₚ := 68) (fun _ => x_aload_n rfl (rk2_o (rk_o (rk_o (rk2_o (rk2_o (rk2_o (rk2_o (rk2_o (rfl) rfl rfl) rfl rfl) rfl rfl) rfl rfl) rfl rfl) rfl rfl) rfl rfl) rfl rfl)) ?_
    refine w_gT H (o := 3) (t := 17) rfl (H.perm 3 rfl) rfl rfl rfl rfl rfl rfl ?_
    refine Ew_of (pcₚ := 72) (fun _ => x_iconst rfl) ?_
    refine Ew_of (pcₚ := 73) (fun _ => x_lconst (z := 0) rfl (by decide)) ?_
    refine w_sJ H (o := 17) (n := 4) rfl (H.perm 17 rfl) rfl rfl (H.fix 17 rfl rfl) (show 0 ≤ 2 ∧ 2 < ((4 : Nat) : Int) from q_352) (by decide) (show (-9223372036854775808 : Int) ≤ 0 ∧ 0 ≤ 9223372036854775807 from q_351) (fun σ H => ?_)
    refine Ew_of (pcₚ := 75) (fun _ => x_aload_n rfl (rk2_o (rk_o (rk_o (rk2_o (rk2_o (rk2_o (rk2_o (rk2_o (rfl) rfl rfl) rfl rfl) rfl rfl) rfl rfl) rfl rfl) rfl rfl) rfl rfl) rfl rfl)) ?_
    refine w_gT H (o := 3) (t := 17) rfl (H.perm 3 rfl) rfl rfl rfl rfl rfl rfl ?_
    refine Ew_of (pcₚ := 79) (fun _ => x_iconst rfl) ?_
    refine Ew_of (pcₚ := 80) (fun _ => x_lconst (z := 0) rfl (by decide)) ?_
    refine Ew_of (pcₚ := 82) (fun _ => x_lload rfl (rk2_o (rk_o (rk_o (rk2_o (rk2_o (rk2_o (rk2_o (rk2_s) rfl rfl) rfl rfl) rfl rfl) rfl rfl) rfl rfl) rfl rfl) rfl rfl)) ?_
    refine w_lsubA rfl (fun z64 gz64 => ?_)
    refine Ew_of (pcₚ := 86) (fun _ => x_ldc2 (z := 4294967295) rfl (by decide)) ?_
    refine w_land rfl (show inrJ (z64) from gz64) (show inrJ (4294967295) from q_50) (fun z65 gz65 gaz65 gbz65 => ?_)
    refine w_sJ H (o := 17) (n := 4) rfl (H.perm 17 rfl) rfl rfl (H.fix 17 rfl rfl) (show 0 ≤ 3 ∧ 3 < ((4 : Nat) : Int) from q_353) (by decide) (show (-9223372036854775808 : Int) ≤ z65 ∧ z65 ≤ 9223372036854775807 by omega) (fun σ H => ?_)
    suffices hl88 : ∀ (m : Nat), ∀ (ls : rO) (σ : rS) (F_88 : hF) (A_88 : hA) (x88_15 : Int), rlook ls 0 = some (.ref (D 3)) → rlook ls 1 = some (.ref (D 20)) → rlook ls 3 = some (I (a3)) → rlook ls 4 = some (J (2654435761)) → rlook ls 6 = some (J (2246822519)) → rlook ls 8 = some (J (3266489917)) → rlook ls 10 = some (J (668265263)) → rlook ls 12 = some (J (374761393)) → rlook ls 14 = some (I ((a3 - a2))) → rlook ls 15 = some (I (x88_15)) → HS σ0 σ D N F_88 A_88 → SF [] F F_88 → SA [17] (updA (updA (updA (updA A 17 (0) (z63)) 17 (1) (2246822519)) 17 (2) (0)) 17 (3) (z65)) A_88 → (inr (x88_15)) → ((a2) ≤ (x88_15) ∧ (x88_15) ≤ (a3)) → ((a3) - (x88_15)).toNat = m → Ew 359 (d + 1) 88 ls [] σ c s Q from
      hl88 _ _ σ _ _ (a2) (rk2_o (rk_o (rk_o (rk2_o (rk2_o (rk2_o (rk2_o (rk2_o (rfl) rfl rfl) rfl rfl) rfl rfl) rfl rfl) rfl rfl) rfl rfl) rfl rfl) rfl rfl) (rk2_o (rk_o (rk_o (rk2_o (rk2_o (rk2_o (rk2_o (rk2_o (rfl) rfl rfl) rfl rfl) rfl rfl) rfl rfl) rfl rfl) rfl rfl) rfl rfl) rfl rfl) (rk2_o (rk_o (rk_o (rk2_o (rk2_o (rk2_o (rk2_o (rk2_o (rfl) rfl rfl) rfl rfl) rfl rfl) rfl rfl) rfl rfl) rfl rfl) rfl rfl) rfl rfl) (rk2_o (rk_o (rk_o (rk2_o (rk2_o (rk2_o (rk2_o (rk2_s) rfl rfl) rfl rfl) rfl rfl) rfl rfl) rfl rfl) rfl rfl) rfl rfl) (rk2_o (rk_o (rk_o (rk2_o (rk2_o (rk2_o (rk2_s) rfl rfl) rfl rfl) rfl rfl) rfl rfl) rfl rfl) rfl rfl) (rk2_o (rk_o (rk_o (rk2_o (rk2_o (rk2_s) rfl rfl) rfl rfl) rfl rfl) rfl rfl) rfl rfl) (rk2_o (rk_o (rk_o (rk2_o (rk2_s) rfl rfl) rfl rfl) rfl rfl) rfl rfl) (rk2_o (rk_o (rk_o (rk2_s) rfl rfl) rfl rfl) rfl rfl) (rk2_o (rk_o (rk_s) rfl rfl) rfl rfl) (rk2_o (rk_s) rfl rfl) H (SF_refl) (SA_refl)   (show inr (a2) from h0) (show (a2) ≤ (a2) ∧ (a2) ≤ (a3) from q_333 h2) rfl
    as_aux_lemma =>
    intro m
    induction m using Nat.strongRecOn with
    | _ m ih88 =>
      intro ls σ F_88 A_88 x88_15 l88_0 l88_1 l88_3 l88_4 l88_6 l88_8 l88_10 l88_12 l88_14 l88_15 H hS_88 hA_88   j88_0 j88_1 hm88
      refine Ew_of (pcₚ := 89) (fun _ => x_iload_n rfl l88_3) ?_
      refine Ew_of (pcₚ := 91) (fun _ => x_iload rfl l88_15) ?_
      refine w_isub rfl ?_
      refine Ew_of (pcₚ := 94) (fun _ => x_bipush (z := 16) rfl (by decide)) ?_
      refine w_icmplt (t := 158) rfl rfl (show inr ((a3 - x88_15)) from q_354 h2 j88_1) (show inr (16) from q_86) (fun b66 => ?_) (fun b66 => ?_)
      · refine Ew_of (pcₚ := 159) (fun _ => x_aload_n rfl l88_0) ?_
        refine w_gT H (o := 3) (t := 17) rfl (H.perm 3 rfl) rfl rfl rfl rfl rfl rfl ?_
        refine Ew_of (pcₚ := 163) (fun _ => x_iconst rfl) ?_
        refine w_lJ H (o := 17) (n := 4) rfl (H.perm 17 rfl) rfl rfl (H.fix 17 rfl rfl) (show 0 ≤ 0 ∧ 0 < ((4 : Nat) : Int) from q_348) (by decide) (fun v67 ev67 qv67 => ?_)
        have qv67 : (-9223372036854775808 : Int) ≤ v67 ∧ v67 ≤ 9223372036854775807 := qv67
        have ev67 : (A_88 17) (0) = v67 := (congrFun (rfl : A_88 17 = A_88 17) (0)).symm.trans ev67
        refine Ew_of (pcₚ := 165) (fun _ => x_iconst rfl) ?_
        refine w_stat24 rfl rfl (by rfl) (M356 H (show inrJ (v67) by omega) (show inr (1) from q_23) (fun z72 σ F68 A69 H hS70 hA71 pz72_0 => ⟨rfl, ?_⟩))
        refine Ew_of (pcₚ := 169) (fun _ => x_aload_n rfl l88_0) ?_
        refine w_gT H (o := 3) (t := 17) rfl (H.perm 3 rfl) rfl rfl rfl rfl rfl rfl ?_
        refine Ew_of (pcₚ := 173) (fun _ => x_iconst rfl) ?_
        refine w_lJ H (o := 17) (n := 4) rfl (H.perm 17 rfl) rfl rfl (H.fix 17 rfl rfl) (show 0 ≤ 1 ∧ 1 < ((4 : Nat) : Int) from q_350) (by decide) (fun v73 ev73 qv73 => ?_)
        have qv73 : (-9223372036854775808 : Int) ≤ v73 ∧ v73 ≤ 9223372036854775807 := qv73
        have ev73 : (A_88 17) (1) = v73 := (congrFun (funext (hA71 17 rfl)) (1)).symm.trans ev73
        refine Ew_of (pcₚ := 176) (fun _ => x_bipush (z := 7) rfl (by decide)) ?_
        refine w_stat24 rfl rfl (by rfl) (M356 H (show inrJ (v73) by omega) (show inr (7) from q_355) (fun z78 σ F74 A75 H hS76 hA77 pz78_0 => ⟨rfl, ?_⟩))
        refine w_laddA rfl (fun z79 gz79 => ?_)
        refine Ew_of (pcₚ := 181) (fun _ => x_aload_n rfl l88_0) ?_
        refine w_gT H (o := 3) (t := 17) rfl (H.perm 3 rfl) rfl rfl rfl rfl rfl rfl ?_
        refine Ew_of (pcₚ := 185) (fun _ => x_iconst rfl) ?_
        refine w_lJ H (o := 17) (n := 4) rfl (H.perm 17 rfl) rfl rfl (H.fix 17 rfl rfl) (show 0 ≤ 2 ∧ 2 < ((4 : Nat) : Int) from q_352) (by decide) (fun v80 ev80 qv80 => ?_)
        have qv80 : (-9223372036854775808 : Int) ≤ v80 ∧ v80 ≤ 9223372036854775807 := qv80
        have ev80 : (A_88 17) (2) = v80 := (congrFun ((funext (hA77 17 rfl)).trans (funext (hA71 17 rfl))) (2)).symm.trans ev80
        refine Ew_of (pcₚ := 188) (fun _ => x_bipush (z := 12) rfl (by decide)) ?_
        refine w_stat24 rfl rfl (by rfl) (M356 H (show inrJ (v80) by omega) (show inr (12) from q_356) (fun z85 σ F81 A82 H hS83 hA84 pz85_0 => ⟨rfl, ?_⟩))
        refine w_laddA rfl (fun z86 gz86 => ?_)
        refine Ew_of (pcₚ := 193) (fun _ => x_aload_n rfl l88_0) ?_
        refine w_gT H (o := 3) (t := 17) rfl (H.perm 3 rfl) rfl rfl rfl rfl rfl rfl ?_
        refine Ew_of (pcₚ := 197) (fun _ => x_iconst rfl) ?_
        refine w_lJ H (o := 17) (n := 4) rfl (H.perm 17 rfl) rfl rfl (H.fix 17 rfl rfl) (show 0 ≤ 3 ∧ 3 < ((4 : Nat) : Int) from q_353) (by decide) (fun v87 ev87 qv87 => ?_)
        have qv87 : (-9223372036854775808 : Int) ≤ v87 ∧ v87 ≤ 9223372036854775807 := qv87
        have ev87 : (A_88 17) (3) = v87 := (congrFun ((funext (hA84 17 rfl)).trans ((funext (hA77 17 rfl)).trans (funext (hA71 17 rfl)))) (3)).symm.trans ev87
        refine Ew_of (pcₚ := 200) (fun _ => x_bipush (z := 18) rfl (by decide)) ?_
        refine w_stat24 rfl rfl (by rfl) (M356 H (show inrJ (v87) by omega) (show inr (18) from q_357) (fun z92 σ F88 A89 H hS90 hA91 pz92_0 => ⟨rfl, ?_⟩))
        refine w_laddA rfl (fun z93 gz93 => ?_)
        refine Ew_of (pcₚ := 207) (fun _ => x_ldc2 (z := 4294967295) rfl (by decide)) ?_
        refine w_land rfl (show inrJ (z93) from gz93) (show inrJ (4294967295) from q_50) (fun z94 gz94 gaz94 gbz94 => ?_)
        refine Ew_of (pcₚ := 210) (fun _ => x_lstore rfl) ?_
        refine Ew_of (pcₚ := 212) (fun _ => x_lload rfl rk2_s) ?_
        refine Ew_of (pcₚ := 214) (fun _ => x_iload rfl (rk2_o (l88_14) rfl rfl)) ?_
        refine w_i2l rfl (show inr ((a3 - a2)) from q_358 b1 h2) ?_
        refine w_laddA rfl (fun z95 gz95 => ?_)
        refine Ew_of (pcₚ := 219) (fun _ => x_ldc2 (z := 4294967295) rfl (by decide)) ?_
        refine w_land rfl (show inrJ (z95) from gz95) (show inrJ (4294967295) from q_50) (fun z96 gz96 gaz96 gbz96 => ?_)
        refine Ew_of (pcₚ := 222) (fun _ => x_lstore rfl) ?_
        suffices hl222 : ∀ (m : Nat), ∀ (ls : rO) (σ : rS) (F_222 : hF) (A_222 : hA) (x222_15 : Int) (x222_16 : Int), rlook ls 1 = some (.ref (D 20)) → rlook ls 3 = some (I (a3)) → rlook ls 4 = some (J (2654435761)) → rlook ls 6 = some (J (2246822519)) → rlook ls 8 = some (J (3266489917)) → rlook ls 10 = some (J (668265263)) → rlook ls 12 = some (J (374761393)) → rlook ls 15 = some (I (x222_15)) → rlook ls 16 = some (J (x222_16)) → HS σ0 σ D N F_222 A_222 → SF [] F88 F_222 → SA [] A89 A_222 → (inr (x222_15)) → (inrJ (x222_16)) → ((a2) ≤ (x222_15) ∧ (x222_15) ≤ (a3)) → ((a3) - (x222_15)).toNat = m → Ew 359 (d + 1) 222 ls [] σ c s Q from
          hl222 _ _ σ _ _ (x88_15) (z96) (rk2_o (rk2_o (l88_1) rfl rfl) rfl rfl) (rk2_o (rk2_o (l88_3) rfl rfl) rfl rfl) (rk2_o (rk2_o (l88_4) rfl rfl) rfl rfl) (rk2_o (rk2_o (l88_6) rfl rfl) rfl rfl) (rk2_o (rk2_o (l88_8) rfl rfl) rfl rfl) (rk2_o (rk2_o (l88_10) rfl rfl) rfl rfl) (rk2_o (rk2_o (l88_12) rfl rfl) rfl rfl) (rk2_o (rk2_o (l88_15) rfl rfl) rfl rfl) (rk2_s) H (SF_refl) (SA_refl)   (show inr (x88_15) from j88_0) (show inrJ (z96) from gz96) (show (a2) ≤ (x88_15) ∧ (x88_15) ≤ (a3) from j88_1) rfl
        as_aux_lemma =>
        intro m
        induction m using Nat.strongRecOn with
        | _ m ih222 =>
          intro ls σ F_222 A_222 x222_15 x222_16 l222_1 l222_3 l222_4 l222_6 l222_8 l222_10 l222_12 l222_15 l222_16 H hS_222 hA_222   j222_0 j222_1 j222_2 hm222
          refine Ew_of (pcₚ := 223) (fun _ => x_iload_n rfl l222_3) ?_
          refine Ew_of (pcₚ := 225) (fun _ => x_iload rfl l222_15) ?_
          refine w_isub rfl ?_
          refine Ew_of (pcₚ := 227) (fun _ => x_iconst rfl) ?_
          refine w_icmplt (t := 266) rfl rfl (show inr ((a3 - x222_15)) from q_354 h2 j222_2) (show inr (4) from q_2) (fun b97 => ?_) (fun b97 => ?_)
          · suffices hl266 : ∀ (m : Nat), ∀ (ls : rO) (σ : rS) (F_266 : hF) (A_266 : hA) (x266_15 : Int) (x266_16 : Int), rlook ls 1 = some (.ref (D 20)) → rlook ls 3 = some (I (a3)) → rlook ls 4 = some (J (2654435761)) → rlook ls 6 = some (J (2246822519)) → rlook ls 8 = some (J (3266489917)) → rlook ls 12 = some (J (374761393)) → rlook ls 15 = some (I (x266_15)) → rlook ls 16 = some (J (x266_16)) → HS σ0 σ D N F_266 A_266 → SF [] F_222 F_266 → SA [] A_222 A_266 → (inr (x266_15)) → (inrJ (x266_16)) → ((x222_15) ≤ (x266_15)) → ((x266_15) ≤ (x222_15) ∨ (x266_15) ≤ ((a3))) → (((a3)) - (x266_15)).toNat = m → Ew 359 (d + 1) 266 ls [] σ c s Q from
              hl266 _ _ σ _ _ (x222_15) (x222_16) (l222_1) (l222_3) (l222_4) (l222_6) (l222_8) (l222_12) (l222_15) (l222_16) H (SF_refl) (SA_refl)   (show inr (x222_15) from j222_0) (show inrJ (x222_16) from j222_1) (show (x222_15) ≤ (x222_15) from q_102) (show (x222_15) ≤ (x222_15) ∨ (x222_15) ≤ ((a3)) from q_101) rfl
            as_aux_lemma =>
            intro m
            induction m using Nat.strongRecOn with
            | _ m ih266 =>
              intro ls σ F_266 A_266 x266_15 x266_16 l266_1 l266_3 l266_4 l266_6 l266_8 l266_12 l266_15 l266_16 H hS_266 hA_266   j266_0 j266_1 j266_2 j266_3 hm266
              refine Ew_of (pcₚ := 268) (fun _ => x_iload rfl l266_15) ?_
              refine Ew_of (pcₚ := 269) (fun _ => x_iload_n rfl l266_3) ?_
              refine w_icmpge (t := 307) rfl rfl (show inr (x266_15) from j266_0) (show inr (a3) from h1) (fun b98 => ?_) (fun b98 => ?_)
              · refine Ew_of (pcₚ := 309) (fun _ => x_lload rfl l266_16) ?_
                refine Ew_of (pcₚ := 311) (fun _ => x_lload rfl l266_16) ?_
                refine Ew_of (pcₚ := 313) (fun _ => x_bipush (z := 15) rfl (by decide)) ?_
                refine w_lshrA rfl (fun z99 gz99 => ?_)
                refine w_lxorA rfl (fun z100 gz100 => ?_)
                refine Ew_of (pcₚ := 317) (fun _ => x_lload rfl l266_6) ?_
                refine w_stat24 rfl rfl (by rfl) (M357 H (show inrJ (z100) from gz100) (show inrJ (2246822519) from q_335) (fun z105 σ F101 A102 H hS103 hA104 pz105_0 => ⟨rfl, ?_⟩))
                refine Ew_of (pcₚ := 322) (fun _ => x_lstore rfl) ?_
                refine Ew_of (pcₚ := 324) (fun _ => x_lload rfl rk2_s) ?_
                refine Ew_of (pcₚ := 326) (fun _ => x_lload rfl rk2_s) ?_
                refine Ew_of (pcₚ := 328) (fun _ => x_bipush (z := 13) rfl (by decide)) ?_
                refine w_lshrA rfl (fun z106 gz106 => ?_)
                refine w_lxorA rfl (fun z107 gz107 => ?_)
                refine Ew_of (pcₚ := 332) (fun _ => x_lload rfl (rk2_o (l266_8) rfl rfl)) ?_
                refine w_stat24 rfl rfl (by rfl) (M357 H (show inrJ (z107) from gz107) (show inrJ (3266489917) from q_336) (fun z112 σ F108 A109 H hS110 hA111 pz112_0 => ⟨rfl, ?_⟩))
                refine Ew_of (pcₚ := 337) (fun _ => x_lstore rfl) ?_
                refine Ew_of (pcₚ := 339) (fun _ => x_lload rfl rk2_s) ?_
                refine Ew_of (pcₚ := 341) (fun _ => x_lload rfl rk2_s) ?_
                refine Ew_of (pcₚ := 343) (fun _ => x_bipush (z := 16) rfl (by decide)) ?_
                refine w_lshrA rfl (fun z113 gz113 => ?_)
                refine w_lxorA rfl (fun z114 gz114 => ?_)
                exact w_lreturn rfl (k (z114) σ _ _ H (SF_trans (SF_trans (SF_trans (SF_trans (SF_trans (SF_trans (SF_trans (SF_trans (SF_trans (SF_refl) hS_88 (any_sub rfl)) hS70 (any_sub rfl)) hS76 (any_sub rfl)) hS83 (any_sub rfl)) hS90 (any_sub rfl)) hS_222 (any_sub rfl)) hS_266 (any_sub rfl)) hS103 (any_sub rfl)) hS110 (any_sub rfl)) (SA_trans (SA_trans (SA_trans (SA_trans (SA_trans (SA_trans (SA_trans (SA_trans (SA_trans (SA_upd (SA_upd (SA_upd (SA_upd (SA_refl) rfl) rfl) rfl) rfl) hA_88 (any_subA rfl)) hA71 (any_subA rfl)) hA77 (any_subA rfl)) hA84 (any_subA rfl)) hA91 (any_subA rfl)) hA_222 (any_subA rfl)) hA_266 (any_subA rfl)) hA104 (any_subA rfl)) hA111 (any_subA rfl)) (show inrJ (z114) from gz114))
              · refine Ew_of (pcₚ := 274) (fun _ => x_lload rfl l266_16) ?_
                refine Ew_of (pcₚ := 275) (fun _ => x_aload_n rfl l266_1) ?_
                refine Ew_of (pcₚ := 277) (fun _ => x_iload rfl l266_15) ?_
                refine w_lI H (o := 20) (n := 70000) rfl (H.perm 20 rfl) rfl rfl (H.fix 20 rfl rfl) (show 0 ≤ x266_15 ∧ x266_15 < ((70000 : Nat) : Int) from q_337 b98 h2 j222_2 j266_2) (by decide) (fun v115 ev115 qv115 => ?_)
                have qv115 : (0 : Int) ≤ v115 ∧ v115 ≤ 255 := qv115
                have ev115 : (A 20) (x266_15) = v115 := (congrFun ((funext (hA_266 20 rfl)).trans ((funext (hA_222 20 rfl)).trans ((funext (hA91 20 rfl)).trans ((funext (hA84 20 rfl)).trans ((funext (hA77 20 rfl)).trans ((funext (hA71 20 rfl)).trans (funext (hA_88 20 rfl)))))))) (x266_15)).symm.trans ev115
                refine w_i2l rfl (show inr (v115) from q_38 qv115) ?_
                refine Ew_of (pcₚ := 281) (fun _ => x_lload rfl l266_12) ?_
                refine w_stat24 rfl rfl (by rfl) (M357 H (show inrJ (v115) from q_194 qv115) (show inrJ (374761393) from q_338) (fun z120 σ F116 A117 H hS118 hA119 pz120_0 => ⟨rfl, ?_⟩))
                refine w_laddA rfl (fun z121 gz121 => ?_)
                refine Ew_of (pcₚ := 288) (fun _ => x_ldc2 (z := 4294967295) rfl (by decide)) ?_
                refine w_land rfl (show inrJ (z121) from gz121) (show inrJ (4294967295) from q_50) (fun z122 gz122 gaz122 gbz122 => ?_)
                refine Ew_of (pcₚ := 291) (fun _ => x_bipush (z := 11) rfl (by decide)) ?_
                refine w_stat24 rfl rfl (by rfl) (M356 H (show inrJ (z122) from gz122) (show inr (11) from q_67) (fun z127 σ F123 A124 H hS125 hA126 pz127_0 => ⟨rfl, ?_⟩))
                refine Ew_of (pcₚ := 296) (fun _ => x_lload rfl l266_4) ?_
                refine w_stat24 rfl rfl (by rfl) (M357 H (show inrJ (z127) from pz127_0) (show inrJ (2654435761) from q_339) (fun z132 σ F128 A129 H hS130 hA131 pz132_0 => ⟨rfl, ?_⟩))
                refine Ew_of (pcₚ := 301) (fun _ => x_lstore rfl) ?_
                refine Ew_of (pcₚ := 304) (fun _ => x_iinc (len := 3) rfl (rk2_o (l266_15) rfl rfl)) ?_
                refine Ew_of (pcₚ := 266) (fun _ => x_goto rfl rfl) ?_
                exact ih266 _ (msE hm266 q_31 (q_34 b98)) _ σ _ _ ((x266_15 + 1)) (z132) (rk_o (rk2_o (l266_1) rfl rfl) rfl rfl) (rk_o (rk2_o (l266_3) rfl rfl) rfl rfl) (rk_o (rk2_o (l266_4) rfl rfl) rfl rfl) (rk_o (rk2_o (l266_6) rfl rfl) rfl rfl) (rk_o (rk2_o (l266_8) rfl rfl) rfl rfl) (rk_o (rk2_o (l266_12) rfl rfl) rfl rfl) (rk_s) (rk_o (rk2_s) rfl rfl) H (SF_trans (SF_trans (SF_trans (hS_266) hS118 (any_sub rfl)) hS125 (any_sub rfl)) hS130 (any_sub rfl)) (SA_trans (SA_trans (SA_trans (hA_266) hA119 (any_subA rfl)) hA126 (any_subA rfl)) hA131 (any_subA rfl))   (show inr ((x266_15 + 1)) from q_340 b98 h2 j266_0) (show inrJ (z132) from pz132_0) (show (x222_15) ≤ ((x266_15 + 1)) from q_105 j266_2) (show ((x266_15 + 1)) ≤ (x222_15) ∨ ((x266_15 + 1)) ≤ ((a3)) from q_104 b98) rfl
          · refine Ew_of (pcₚ := 232) (fun _ => x_lload rfl l222_16) ?_
            refine Ew_of (pcₚ := 233) (fun _ => x_aload_n rfl l222_1) ?_
            refine Ew_of (pcₚ := 235) (fun _ => x_iload rfl l222_15) ?_
            refine w_stat24 rfl rfl (by rfl) (M358_20 H (show inr (x222_15) from j222_0) (show 0 ≤ (x222_15) ∧ (x222_15) + 3 < 70000 from q_341 b97 h2 j222_2) (fun z137 σ F133 A134 H hS135 hA136 pz137_0 => ⟨rfl, ?_⟩))
            refine Ew_of (pcₚ := 240) (fun _ => x_lload rfl l222_8) ?_
            refine w_stat24 rfl rfl (by rfl) (M357 H (show inrJ (z137) from pz137_0) (show inrJ (3266489917) from q_336) (fun z142 σ F138 A139 H hS140 hA141 pz142_0 => ⟨rfl, ?_⟩))
            refine w_laddA rfl (fun z143 gz143 => ?_)
            refine Ew_of (pcₚ := 247) (fun _ => x_ldc2 (z := 4294967295) rfl (by decide)) ?_
            refine w_land rfl (show inrJ (z143) from gz143) (show inrJ (4294967295) from q_50) (fun z144 gz144 gaz144 gbz144 => ?_)
            refine Ew_of (pcₚ := 250) (fun _ => x_bipush (z := 17) rfl (by decide)) ?_
            refine w_stat24 rfl rfl (by rfl) (M356 H (show inrJ (z144) from gz144) (show inr (17) from q_342) (fun z149 σ F145 A146 H hS147 hA148 pz149_0 => ⟨rfl, ?_⟩))
            refine Ew_of (pcₚ := 255) (fun _ => x_lload rfl l222_10) ?_
            refine w_stat24 rfl rfl (by rfl) (M357 H (show inrJ (z149) from pz149_0) (show inrJ (668265263) from q_343) (fun z154 σ F150 A151 H hS152 hA153 pz154_0 => ⟨rfl, ?_⟩))
            refine Ew_of (pcₚ := 260) (fun _ => x_lstore rfl) ?_
            refine Ew_of (pcₚ := 263) (fun _ => x_iinc (len := 3) rfl (rk2_o (l222_15) rfl rfl)) ?_
            refine Ew_of (pcₚ := 222) (fun _ => x_goto rfl rfl) ?_
            exact ih222 _ (msE hm222 q_346 (q_347 b97)) _ σ _ _ ((x222_15 + 4)) (z154) (rk_o (rk2_o (l222_1) rfl rfl) rfl rfl) (rk_o (rk2_o (l222_3) rfl rfl) rfl rfl) (rk_o (rk2_o (l222_4) rfl rfl) rfl rfl) (rk_o (rk2_o (l222_6) rfl rfl) rfl rfl) (rk_o (rk2_o (l222_8) rfl rfl) rfl rfl) (rk_o (rk2_o (l222_10) rfl rfl) rfl rfl) (rk_o (rk2_o (l222_12) rfl rfl) rfl rfl) (rk_s) (rk_o (rk2_s) rfl rfl) H (SF_trans (SF_trans (SF_trans (SF_trans (hS_222) hS135 (any_sub rfl)) hS140 (any_sub rfl)) hS147 (any_sub rfl)) hS152 (any_sub rfl)) (SA_trans (SA_trans (SA_trans (SA_trans (hA_222) hA136 (any_subA rfl)) hA141 (any_subA rfl)) hA148 (any_subA rfl)) hA153 (any_subA rfl))   (show inr ((x222_15 + 4)) from q_345 b97 h2 j222_0) (show inrJ (z154) from pz154_0) (show (a2) ≤ ((x222_15 + 4)) ∧ ((x222_15 + 4)) ≤ (a3) from q_344 b97 j222_2) rfl
      · refine Ew_of (pcₚ := 98) (fun _ => x_iconst rfl) ?_
        refine Ew_of (pcₚ := 100) (fun _ => x_istore rfl) ?_
        suffices hl100 : ∀ (m : Nat), ∀ (ls : rO) (σ : rS) (F_100 : hF) (A_100 : hA) (x100_15 : Int) (x100_18 : Int), rlook ls 0 = some (.ref (D 3)) → rlook ls 1 = some (.ref (D 20)) → rlook ls 3 = some (I (a3)) → rlook ls 4 = some (J (2654435761)) → rlook ls 6 = some (J (2246822519)) → rlook ls 8 = some (J (3266489917)) → rlook ls 10 = some (J (668265263)) → rlook ls 12 = some (J (374761393)) → rlook ls 14 = some (I ((a3 - a2))) → rlook ls 15 = some (I (x100_15)) → rlook ls 18 = some (I (x100_18)) → HS σ0 σ D N F_100 A_100 → SF [] F_88 F_100 → SA [17] A_88 A_100 → (inr (x100_15)) → (inr (x100_18)) → ((0) ≤ (x100_18)) → ((x100_18) ≤ (0) ∨ (x100_18) ≤ (4)) → ((x100_15) = (x88_15) + 4 * (x100_18)) → ((4) - (x100_18)).toNat = m → Ew 359 (d + 1) 100 ls [] σ c s Q from
          hl100 _ _ σ _ _ (x88_15) (0) (rk_o (l88_0) rfl rfl) (rk_o (l88_1) rfl rfl) (rk_o (l88_3) rfl rfl) (rk_o (l88_4) rfl rfl) (rk_o (l88_6) rfl rfl) (rk_o (l88_8) rfl rfl) (rk_o (l88_10) rfl rfl) (rk_o (l88_12) rfl rfl) (rk_o (l88_14) rfl rfl) (rk_o (l88_15) rfl rfl) (rk_s) H (SF_refl) (SA_refl)   (show inr (x88_15) from j88_0) (show inr (0) from q_20) (show (0) ≤ (0) from q_25) (show (0) ≤ (0) ∨ (0) ≤ (4) from q_360) (show (x88_15) = (x88_15) + 4 * (0) from q_359) rfl
        as_aux_lemma =>
        intro m
        induction m using Nat.strongRecOn with
        | _ m ih100 =>
          intro ls σ F_100 A_100 x100_15 x100_18 l100_0 l100_1 l100_3 l100_4 l100_6 l100_8 l100_10 l100_12 l100_14 l100_15 l100_18 H hS_100 hA_100   j100_0 j100_1 j100_2 j100_3 j100_4 hm100
          refine Ew_of (pcₚ := 102) (fun _ => x_iload rfl l100_18) ?_
          refine Ew_of (pcₚ := 103) (fun _ => x_iconst rfl) ?_
          refine w_icmpge (t := 155) rfl rfl (show inr (x100_18) from j100_1) (show inr (4) from q_2) (fun b155 => ?_) (fun b155 => ?_)
          · refine Ew_of (pcₚ := 88) (fun _ => x_goto rfl rfl) ?_
            exact ih88 _ (msE hm88 (q_361 b155 j100_4) (q_94 b66)) _ σ _ _ (x100_15) (l100_0) (l100_1) (l100_3) (l100_4) (l100_6) (l100_8) (l100_10) (l100_12) (l100_14) (l100_15) H (SF_trans (hS_88) hS_100 (any_sub rfl)) (SA_trans (hA_88) hA_100 (any_subA rfl))   (show inr (x100_15) from j100_0) (show (a2) ≤ (x100_15) ∧ (x100_15) ≤ (a3) by omega) rfl
          · refine Ew_of (pcₚ := 107) (fun _ => x_aload_n rfl l100_0) ?_
            refine w_gT H (o := 3) (t := 17) rfl (H.perm 3 rfl) rfl rfl rfl rfl rfl rfl ?_
            refine Ew_of (pcₚ := 112) (fun _ => x_iload rfl l100_18) ?_
            refine Ew_of (pcₚ := 113) (fun _ => x_aload_n rfl l100_0) ?_
            refine w_gT H (o := 3) (t := 17) rfl (H.perm 3 rfl) rfl rfl rfl rfl rfl rfl ?_
            refine Ew_of (pcₚ := 118) (fun _ => x_iload rfl l100_18) ?_
            refine w_lJ H (o := 17) (n := 4) rfl (H.perm 17 rfl) rfl rfl (H.fix 17 rfl rfl) (show 0 ≤ x100_18 ∧ x100_18 < ((4 : Nat) : Int) from q_362 b155 j100_2) (by decide) (fun v156 ev156 qv156 => ?_)
            have qv156 : (-9223372036854775808 : Int) ≤ v156 ∧ v156 ≤ 9223372036854775807 := qv156
            have ev156 : (A_100 17) (x100_18) = v156 := (congrFun (rfl : A_100 17 = A_100 17) (x100_18)).symm.trans ev156
            refine Ew_of (pcₚ := 120) (fun _ => x_aload_n rfl l100_1) ?_
            refine Ew_of (pcₚ := 122) (fun _ => x_iload rfl l100_15) ?_
            refine w_stat24 rfl rfl (by rfl) (M358_20 H (show inr (x100_15) from j100_0) (show 0 ≤ (x100_15) ∧ (x100_15) + 3 < 70000 from q_363 b155 b66 h2 j100_2 j100_4 j88_1) (fun z161 σ F157 A158 H hS159 hA160 pz161_0 => ⟨rfl, ?_⟩))
            refine Ew_of (pcₚ := 127) (fun _ => x_lload rfl l100_6) ?_
            refine w_stat24 rfl rfl (by rfl) (M357 H (show inrJ (z161) from pz161_0) (show inrJ (2246822519) from q_335) (fun z166 σ F162 A163 H hS164 hA165 pz166_0 => ⟨rfl, ?_⟩))
            refine w_laddA rfl (fun z167 gz167 => ?_)
            refine Ew_of (pcₚ := 134) (fun _ => x_ldc2 (z := 4294967295) rfl (by decide)) ?_
            refine w_land rfl (show inrJ (z167) from gz167) (show inrJ (4294967295) from q_50) (fun z168 gz168 gaz168 gbz168 => ?_)
            refine Ew_of (pcₚ := 137) (fun _ => x_bipush (z := 13) rfl (by decide)) ?_
            refine w_stat24 rfl rfl (by rfl) (M356 H (show inrJ (z168) from gz168) (show inr (13) from q_90) (fun z173 σ F169 A170 H hS171 hA172 pz173_0 => ⟨rfl, ?_⟩))
            refine Ew_of (pcₚ := 142) (fun _ => x_lload rfl l100_4) ?_
            refine w_stat24 rfl rfl (by rfl) (M357 H (show inrJ (z173) from pz173_0) (show inrJ (2654435761) from q_339) (fun z178 σ F174 A175 H hS176 hA177 pz178_0 => ⟨rfl, ?_⟩))
            refine w_sJ H (o := 17) (n := 4) rfl (H.perm 17 rfl) rfl rfl (H.fix 17 rfl rfl) (show 0 ≤ x100_18 ∧ x100_18 < ((4 : Nat) : Int) from q_362 b155 j100_2) (by decide) (show (-9223372036854775808 : Int) ≤ z178 ∧ z178 ≤ 9223372036854775807 by omega) (fun σ H => ?_)
            refine Ew_of (pcₚ := 149) (fun _ => x_iinc (len := 3) rfl (l100_15)) ?_
            refine Ew_of (pcₚ := 152) (fun _ => x_iinc (len := 3) rfl (rk_o (l100_18) rfl rfl)) ?_
            refine Ew_of (pcₚ := 100) (fun _ => x_goto rfl rfl) ?_
            exact ih100 _ (msE hm100 q_368 (q_369 b155)) _ σ _ _ ((x100_15 + 4)) ((x100_18 + 1)) (rk_o (rk_o (l100_0) rfl rfl) rfl rfl) (rk_o (rk_o (l100_1) rfl rfl) rfl rfl) (rk_o (rk_o (l100_3) rfl rfl) rfl rfl) (rk_o (rk_o (l100_4) rfl rfl) rfl rfl) (rk_o (rk_o (l100_6) rfl rfl) rfl rfl) (rk_o (rk_o (l100_8) rfl rfl) rfl rfl) (rk_o (rk_o (l100_10) rfl rfl) rfl rfl) (rk_o (rk_o (l100_12) rfl rfl) rfl rfl) (rk_o (rk_o (l100_14) rfl rfl) rfl rfl) (rk_o (rk_s) rfl rfl) (rk_s) H (SF_trans (SF_trans (SF_trans (SF_trans (hS_100) hS159 (any_sub rfl)) hS164 (any_sub rfl)) hS171 (any_sub rfl)) hS176 (any_sub rfl)) (SA_upd (SA_trans (SA_trans (SA_trans (SA_trans (hA_100) hA160 (any_subA rfl)) hA165 (any_subA rfl)) hA172 (any_subA rfl)) hA177 (any_subA rfl)) rfl)   (show inr ((x100_15 + 4)) from q_367 b155 b66 h2 j100_0 j100_4) (show inr ((x100_18 + 1)) from q_366 b155 j100_2) (show (0) ≤ ((x100_18 + 1)) from q_29 j100_2) (show ((x100_18 + 1)) ≤ (0) ∨ ((x100_18 + 1)) ≤ (4) from q_365 b155) (show ((x100_15 + 4)) = (x88_15) + 4 * ((x100_18 + 1)) from q_364 j100_4) rfl
/-- Tokens.sumOf -/
theorem M359_14 {σ0 σ : rS} {D N : Nat → Nat} {F : hF} {A : hA} {d c s : Nat} {Q : wQ} (H : HS σ0 σ D N F A) {a2 a3 : Int} (h0 : inr (a2)) (h1 : inr (a3)) (h2 : 0 ≤ (a2) ∧ (a2) ≤ (a3) ∧ (a3) ≤ 65536) (k : ∀ (z : Int) σ Fₚ Aₚ, HS σ0 σ D N Fₚ Aₚ → SF [] F Fₚ → SA [17] A Aₚ → (inrJ (z)) → Q (some (J z)) σ c s) : Ew 359 (d + 1) 0 (rargs 0 [.ref (D 3), .ref (D 14), I a2, I a3]) [] σ c s Q := by
  refine Ew_of (pcₚ := 3) (fun _ => x_ldc2 (z := 2654435761) rfl (by decide)) ?_
  refine Ew_of (pcₚ := 5) (fun _ => x_lstore rfl) ?_
  refine Ew_of (pcₚ := 8) (fun _ => x_ldc2 (z := 2246822519) rfl (by decide)) ?_
  refine Ew_of (pcₚ := 10) (fun _ => x_lstore rfl) ?_
  refine Ew_of (pcₚ := 13) (fun _ => x_ldc2 (z := 3266489917) rfl (by decide)) ?_
  refine Ew_of (pcₚ := 15) (fun _ => x_lstore rfl) ?_
  refine Ew_of (pcₚ := 18) (fun _ => x_ldc2 (z := 668265263) rfl (by decide)) ?_
  refine Ew_of (pcₚ := 20) (fun _ => x_lstore rfl) ?_
  refine Ew_of (pcₚ := 23) (fun _ => x_ldc2 (z := 374761393) rfl (by decide)) ?_
  refine Ew_of (pcₚ := 25) (fun _ => x_lstore rfl) ?_
  refine Ew_of (pcₚ := 26) (fun _ => x_iload_n rfl (rk2_o (rk2_o (rk2_o (rk2_o (rk2_o (rfl) rfl rfl) rfl rfl) rfl rfl) rfl rfl) rfl rfl)) ?_
  refine Ew_of (pcₚ := 27) (fun _ => x_iload_n rfl (rk2_o (rk2_o (rk2_o (rk2_o (rk2_o (rfl) rfl rfl) rfl rfl) rfl rfl) rfl rfl) rfl rfl)) ?_
  refine w_isub rfl ?_
  refine Ew_of (pcₚ := 30) (fun _ => x_istore rfl) ?_
  refine Ew_of (pcₚ := 31) (fun _ => x_iload_n rfl (rk_o (rk2_o (rk2_o (rk2_o (rk2_o (rk2_o (rfl) rfl rfl) rfl rfl) rfl rfl) rfl rfl) rfl rfl) rfl rfl)) ?_
  refine Ew_of (pcₚ := 33) (fun _ => x_istore rfl) ?_
  refine Ew_of (pcₚ := 35) (fun _ => x_lload rfl (rk_o (rk_o (rk2_s) rfl rfl) rfl rfl)) ?_
  refine Ew_of (pcₚ := 37) (fun _ => x_lstore rfl) ?_
  refine Ew_of (pcₚ := 39) (fun _ => x_iload rfl (rk2_o (rk_o (rk_s) rfl rfl) rfl rfl)) ?_
  refine Ew_of (pcₚ := 41) (fun _ => x_bipush (z := 16) rfl (by decide)) ?_
  refine w_icmplt (t := 210) rfl rfl (show inr ((a3 - a2)) from q_370 h2) (show inr (16) from q_86) (fun b1 => ?_) (fun b1 => ?_)
  · refine Ew_of (pcₚ := 212) (fun _ => x_lload rfl rk2_s) ?_
    refine Ew_of (pcₚ := 214) (fun _ => x_iload rfl (rk2_o (rk_o (rk_s) rfl rfl) rfl rfl)) ?_
    refine w_i2l rfl (show inr ((a3 - a2)) from q_371 b1 h2) ?_
    refine w_laddA rfl (fun z2 gz2 => ?_)
    refine Ew_of (pcₚ := 219) (fun _ => x_ldc2 (z := 4294967295) rfl (by decide)) ?_
    refine w_land rfl (show inrJ (z2) from gz2) (show inrJ (4294967295) from q_50) (fun z3 gz3 gaz3 gbz3 => ?_)
    refine Ew_of (pcₚ := 222) (fun _ => x_lstore rfl) ?_
    suffices hl222 : ∀ (m : Nat), ∀ (ls : rO) (σ : rS) (F_222 : hF) (A_222 : hA) (x222_15 : Int) (x222_16 : Int), rlook ls 1 = some (.ref (D 14)) → rlook ls 3 = some (I (a3)) → rlook ls 4 = some (J (2654435761)) → rlook ls 6 = some (J (2246822519)) → rlook ls 8 = some (J (3266489917)) → rlook ls 10 = some (J (668265263)) → rlook ls 12 = some (J (374761393)) → rlook ls 15 = some (I (x222_15)) → rlook ls 16 = some (J (x222_16)) → HS σ0 σ D N F_222 A_222 → SF [] F F_222 → SA [] A A_222 → (inr (x222_15)) → (inrJ (x222_16)) → ((a2) ≤ (x222_15) ∧ (x222_15) ≤ (a3)) → ((a3) - (x222_15)).toNat = m → Ew 359 (d + 1) 222 ls [] σ c s Q from
      hl222 _ _ σ _ _ (a2) (z3) (rk2_o (rk2_o (rk_o (rk_o (rk2_o (rk2_o (rk2_o (rk2_o (rk2_o (rfl) rfl rfl) rfl rfl) rfl rfl) rfl rfl) rfl rfl) rfl rfl) rfl rfl) rfl rfl) rfl rfl) (rk2_o (rk2_o (rk_o (rk_o (rk2_o (rk2_o (rk2_o (rk2_o (rk2_o (rfl) rfl rfl) rfl rfl) rfl rfl) rfl rfl) rfl rfl) rfl rfl) rfl rfl) rfl rfl) rfl rfl) (rk2_o (rk2_o (rk_o (rk_o (rk2_o (rk2_o (rk2_o (rk2_o (rk2_s) rfl rfl) rfl rfl) rfl rfl) rfl rfl) rfl rfl) rfl rfl) rfl rfl) rfl rfl) (rk2_o (rk2_o (rk_o (rk_o (rk2_o (rk2_o (rk2_o (rk2_s) rfl rfl) rfl rfl) rfl rfl) rfl rfl) rfl rfl) rfl rfl) rfl rfl) (rk2_o (rk2_o (rk_o (rk_o (rk2_o (rk2_o (rk2_s) rfl rfl) rfl rfl) rfl rfl) rfl rfl) rfl rfl) rfl rfl) (rk2_o (rk2_o (rk_o (rk_o (rk2_o (rk2_s) rfl rfl) rfl rfl) rfl rfl) rfl rfl) rfl rfl) (rk2_o (rk2_o (rk_o (rk_o (rk2_s) rfl rfl) rfl rfl) rfl rfl) rfl rfl) (rk2_o (rk2_o (rk_s) rfl rfl) rfl rfl) (rk2_s) H (SF_refl) (SA_refl)   (show inr (a2) from h0) (show inrJ (z3) from gz3) (show (a2) ≤ (a2) ∧ (a2) ≤ (a3) from q_372 h2) rfl
    as_aux_lemma =>
    intro m
    induction m using Nat.strongRecOn with
    | _ m ih222 =>
      intro ls σ F_222 A_222 x222_15 x222_16 l222_1 l222_3 l222_4 l222_6 l222_8 l222_10 l222_12 l222_15 l222_16 H hS_222 hA_222   j222_0 j222_1 j222_2 hm222
      refine Ew_of (pcₚ := 223) (fun _ => x_iload_n rfl l222_3) ?_
      refine Ew_of (pcₚ := 225) (fun _ => x_iload rfl l222_15) ?_
      refine w_isub rfl ?_
      refine Ew_of (pcₚ := 227) (fun _ => x_iconst rfl) ?_
      refine w_icmplt (t := 266) rfl rfl (show inr ((a3 - x222_15)) from q_334 b1 j222_2) (show inr (4) from q_2) (fun b4 => ?_) (fun b4 => ?_)
      · suffices hl266 : ∀ (m : Nat), ∀ (ls : rO) (σ : rS) (F_266 : hF) (A_266 : hA) (x266_15 : Int) (x266_16 : Int), rlook ls 1 = some (.ref (D 14)) → rlook ls 3 = some (I (a3)) → rlook ls 4 = some (J (2654435761)) → rlook ls 6 = some (J (2246822519)) → rlook ls 8 = some (J (3266489917)) → rlook ls 12 = some (J (374761393)) → rlook ls 15 = some (I (x266_15)) → rlook ls 16 = some (J (x266_16)) → HS σ0 σ D N F_266 A_266 → SF [] F_222 F_266 → SA [] A_222 A_266 → (inr (x266_15)) → (inrJ (x266_16)) → ((x222_15) ≤ (x266_15)) → ((x266_15) ≤ (x222_15) ∨ (x266_15) ≤ ((a3))) → (((a3)) - (x266_15)).toNat = m → Ew 359 (d + 1) 266 ls [] σ c s Q from
          hl266 _ _ σ _ _ (x222_15) (x222_16) (l222_1) (l222_3) (l222_4) (l222_6) (l222_8) (l222_12) (l222_15) (l222_16) H (SF_refl) (SA_refl)   (show inr (x222_15) from j222_0) (show inrJ (x222_16) from j222_1) (show (x222_15) ≤ (x222_15) from q_102) (show (x222_15) ≤ (x222_15) ∨ (x222_15) ≤ ((a3)) from q_101) rfl
        as_aux_lemma =>
        intro m
        induction m using Nat.strongRecOn with
        | _ m ih266 =>
          intro ls σ F_266 A_266 x266_15 x266_16 l266_1 l266_3 l266_4 l266_6 l266_8 l266_12 l266_15 l266_16 H hS_266 hA_266   j266_0 j266_1 j266_2 j266_3 hm266
          refine Ew_of (pcₚ := 268) (fun _ => x_iload rfl l266_15) ?_
          refine Ew_of (pcₚ := 269) (fun _ => x_iload_n rfl l266_3) ?_
          refine w_icmpge (t := 307) rfl rfl (show inr (x266_15) from j266_0) (show inr (a3) from h1) (fun b5 => ?_) (fun b5 => ?_)
          · refine Ew_of (pcₚ := 309) (fun _ => x_lload rfl l266_16) ?_
            refine Ew_of (pcₚ := 311) (fun _ => x_lload rfl l266_16) ?_
            refine Ew_of (pcₚ := 313) (fun _ => x_bipush (z := 15) rfl (by decide)) ?_
            refine w_lshrA rfl (fun z6 gz6 => ?_)
            refine w_lxorA rfl (fun z7 gz7 => ?_)
            refine Ew_of (pcₚ := 317) (fun _ => x_lload rfl l266_6) ?_
            refine w_stat24 rfl rfl (by rfl) (M357 H (show inrJ (z7) from gz7) (show inrJ (2246822519) from q_335) (fun z12 σ F8 A9 H hS10 hA11 pz12_0 => ⟨rfl, ?_⟩))
            refine Ew_of (pcₚ := 322) (fun _ => x_lstore rfl) ?_
            refine Ew_of (pcₚ := 324) (fun _ => x_lload rfl rk2_s) ?_
            refine Ew_of (pcₚ := 326) (fun _ => x_lload rfl rk2_s) ?_
            refine Ew_of (pcₚ := 328) (fun _ => x_bipush (z := 13) rfl (by decide)) ?_
            refine w_lshrA rfl (fun z13 gz13 => ?_)
            refine w_lxorA rfl (fun z14 gz14 => ?_)
            refine Ew_of (pcₚ := 332) (fun _ => x_lload rfl (rk2_o (l266_8) rfl rfl)) ?_
            refine w_stat24 rfl rfl (by rfl) (M357 H (show inrJ (z14) from gz14) (show inrJ (3266489917) from q_336) (fun z19 σ F15 A16 H hS17 hA18 pz19_0 => ⟨rfl, ?_⟩))
            refine Ew_of (pcₚ := 337) (fun _ => x_lstore rfl) ?_
            refine Ew_of (pcₚ := 339) (fun _ => x_lload rfl rk2_s) ?_
            refine Ew_of (pcₚ := 341) (fun _ => x_lload rfl rk2_s) ?_
            refine Ew_of (pcₚ := 343) (fun _ => x_bipush (z := 16) rfl (by decide)) ?_
            refine w_lshrA rfl (fun z20 gz20 => ?_)
            refine w_lxorA rfl (fun z21 gz21 => ?_)
            exact w_lreturn rfl (k (z21) σ _ _ H (SF_trans (SF_trans (SF_trans (SF_trans (SF_refl) hS_222 (any_sub rfl)) hS_266 (any_sub rfl)) hS10 (any_sub rfl)) hS17 (any_sub rfl)) (SA_trans (SA_trans (SA_trans (SA_trans (SA_refl) hA_222 (any_subA rfl)) hA_266 (any_subA rfl)) hA11 (any_subA rfl)) hA18 (any_subA rfl)) (show inrJ (z21) from gz21))
          · refine Ew_of (pcₚ := 274) (fun _ => x_lload rfl l266_16) ?_
            refine Ew_of (pcₚ := 275) (fun _ => x_aload_n rfl l266_1) ?_
            refine Ew_of (pcₚ := 277) (fun _ => x_iload rfl l266_15) ?_
            refine w_lI H (o := 14) (n := 65536) rfl (H.perm 14 rfl) rfl rfl (H.fix 14 rfl rfl) (show 0 ≤ x266_15 ∧ x266_15 < ((65536 : Nat) : Int) from q_373 b5 h2 j222_2 j266_2) (by decide) (fun v22 ev22 qv22 => ?_)
            have qv22 : (0 : Int) ≤ v22 ∧ v22 ≤ 255 := qv22
            have ev22 : (A 14) (x266_15) = v22 := (congrFun ((funext (hA_266 14 rfl)).trans (funext (hA_222 14 rfl))) (x266_15)).symm.trans ev22
            refine w_i2l rfl (show inr (v22) from q_38 qv22) ?_
            refine Ew_of (pcₚ := 281) (fun _ => x_lload rfl l266_12) ?_
            refine w_stat24 rfl rfl (by rfl) (M357 H (show inrJ (v22) from q_194 qv22) (show inrJ (374761393) from q_338) (fun z27 σ F23 A24 H hS25 hA26 pz27_0 => ⟨rfl, ?_⟩))
            refine w_laddA rfl (fun z28 gz28 => ?_)
            refine Ew_of (pcₚ := 288) (fun _ => x_ldc2 (z := 4294967295) rfl (by decide)) ?_
            refine w_land rfl (show inrJ (z28) from gz28) (show inrJ (4294967295) from q_50) (fun z29 gz29 gaz29 gbz29 => ?_)
            refine Ew_of (pcₚ := 291) (fun _ => x_bipush (z := 11) rfl (by decide)) ?_
            refine w_stat24 rfl rfl (by rfl) (M356 H (show inrJ (z29) from gz29) (show inr (11) from q_67) (fun z34 σ F30 A31 H hS32 hA33 pz34_0 => ⟨rfl, ?_⟩))
            refine Ew_of (pcₚ := 296) (fun _ => x_lload rfl l266_4) ?_
            refine w_stat24 rfl rfl (by rfl) (M357 H (show inrJ (z34) from pz34_0) (show inrJ (2654435761) from q_339) (fun z39 σ F35 A36 H hS37 hA38 pz39_0 => ⟨rfl, ?_⟩))
            refine Ew_of (pcₚ := 301) (fun _ => x_lstore rfl) ?_
            refine Ew_of (pcₚ := 304) (fun _ => x_iinc (len := 3) rfl (rk2_o (l266_15) rfl rfl)) ?_
            refine Ew_of (pcₚ := 266) (fun _ => x_goto rfl rfl) ?_
            exact ih266 _ (msE hm266 q_31 (q_34 b5)) _ σ _ _ ((x266_15 + 1)) (z39) (rk_o (rk2_o (l266_1) rfl rfl) rfl rfl) (rk_o (rk2_o (l266_3) rfl rfl) rfl rfl) (rk_o (rk2_o (l266_4) rfl rfl) rfl rfl) (rk_o (rk2_o (l266_6) rfl rfl) rfl rfl) (rk_o (rk2_o (l266_8) rfl rfl) rfl rfl) (rk_o (rk2_o (l266_12) rfl rfl) rfl rfl) (rk_s) (rk_o (rk2_s) rfl rfl) H (SF_trans (SF_trans (SF_trans (hS_266) hS25 (any_sub rfl)) hS32 (any_sub rfl)) hS37 (any_sub rfl)) (SA_trans (SA_trans (SA_trans (hA_266) hA26 (any_subA rfl)) hA33 (any_subA rfl)) hA38 (any_subA rfl))   (show inr ((x266_15 + 1)) from q_106 b5 h2 j266_0) (show inrJ (z39) from pz39_0) (show (x222_15) ≤ ((x266_15 + 1)) from q_105 j266_2) (show ((x266_15 + 1)) ≤ (x222_15) ∨ ((x266_15 + 1)) ≤ ((a3)) from q_104 b5) rfl
      · refine Ew_of (pcₚ := 232) (fun _ => x_lload rfl l222_16) ?_
        refine Ew_of (pcₚ := 233) (fun _ => x_aload_n rfl l222_1) ?_
        refine Ew_of (pcₚ := 235) (fun _ => x_iload rfl l222_15) ?_
        refine w_stat24 rfl rfl (by rfl) (M358_14 H (show inr (x222_15) from j222_0) (show 0 ≤ (x222_15) ∧ (x222_15) + 3 < 65536 from q_374 b4 h2 j222_2) (fun z44 σ F40 A41 H hS42 hA43 pz44_0 => ⟨rfl, ?_⟩))
        refine Ew_of (pcₚ := 240) (fun _ => x_lload rfl l222_8) ?_
        refine w_stat24 rfl rfl (by rfl) (M357 H (show inrJ (z44) from pz44_0) (show inrJ (3266489917) from q_336) (fun z49 σ F45 A46 H hS47 hA48 pz49_0 => ⟨rfl, ?_⟩))
        refine w_laddA rfl (fun z50 gz50 => ?_)
        refine Ew_of (pcₚ := 247) (fun _ => x_ldc2 (z := 4294967295) rfl (by decide)) ?_
        refine w_land rfl (show inrJ (z50) from gz50) (show inrJ (4294967295) from q_50) (fun z51 gz51 gaz51 gbz51 => ?_)
        refine Ew_of (pcₚ := 250) (fun _ => x_bipush (z := 17) rfl (by decide)) ?_
        refine w_stat24 rfl rfl (by rfl) (M356 H (show inrJ (z51) from gz51) (show inr (17) from q_342) (fun z56 σ F52 A53 H hS54 hA55 pz56_0 => ⟨rfl, ?_⟩))
        refine Ew_of (pcₚ := 255) (fun _ => x_lload rfl l222_10) ?_
        refine w_stat24 rfl rfl (by rfl) (M357 H (show inrJ (z56) from pz56_0) (show inrJ (668265263) from q_343) (fun z61 σ F57 A58 H hS59 hA60 pz61_0 => ⟨rfl, ?_⟩))
        refine Ew_of (pcₚ := 260) (fun _ => x_lstore rfl) ?_
        refine Ew_of (pcₚ := 263) (fun _ => x_iinc (len := 3) rfl (rk2_o (l222_15) rfl rfl)) ?_
        refine Ew_of (pcₚ := 222) (fun _ => x_goto rfl rfl) ?_
        exact ih222 _ (msE hm222 q_346 (q_347 b4)) _ σ _ _ ((x222_15 + 4)) (z61) (rk_o (rk2_o (l222_1) rfl rfl) rfl rfl) (rk_o (rk2_o (l222_3) rfl rfl) rfl rfl) (rk_o (rk2_o (l222_4) rfl rfl) rfl rfl) (rk_o (rk2_o (l222_6) rfl rfl) rfl rfl) (rk_o (rk2_o (l222_8) rfl rfl) rfl rfl) (rk_o (rk2_o (l222_10) rfl rfl) rfl rfl) (rk_o (rk2_o (l222_12) rfl rfl) rfl rfl) (rk_s) (rk_o (rk2_s) rfl rfl) H (SF_trans (SF_trans (SF_trans (SF_trans (hS_222) hS42 (any_sub rfl)) hS47 (any_sub rfl)) hS54 (any_sub rfl)) hS59 (any_sub rfl)) (SA_trans (SA_trans (SA_trans (SA_trans (hA_222) hA43 (any_subA rfl)) hA48 (any_subA rfl)) hA55 (any_subA rfl)) hA60 (any_subA rfl))   (show inr ((x222_15 + 4)) from q_375 b4 h2 j222_0) (show inrJ (z61) from pz61_0) (show (a2) ≤ ((x222_15 + 4)) ∧ ((x222_15 + 4)) ≤ (a3) from q_344 b4 j222_2) rfl
  · refine Ew_of (pcₚ := 45) (fun _ => x_aload_n rfl (rk2_o (rk_o (rk_o (rk2_o (rk2_o (rk2_o (rk2_o (rk2_o (rfl) rfl rfl) rfl rfl) rfl rfl) rfl rfl) rfl rfl) rfl rfl) rfl rfl) rfl rfl)) ?_
    refine w_gT H (o := 3) (t := 17) rfl (H.perm 3 rfl) rfl rfl rfl rfl rfl rfl ?_
    refine Ew_of (pcₚ := 49) (fun _ => x_iconst rfl) ?_
    refine Ew_of (pcₚ := 51) (fun _ => x_lload rfl (rk2_o (rk_o (rk_o (rk2_o (rk2_o (rk2_o (rk2_o (rk2_s) rfl rfl) rfl rfl) rfl rfl) rfl rfl) rfl rfl) rfl rfl) rfl rfl)) ?_
    refine Ew_of (pcₚ := 53) (fun _ => x_lload rfl (rk2_o (rk_o (rk_o (rk2_o (rk2_o (rk2_o (rk2_s) rfl rfl) rfl rfl) rfl rfl) rfl rfl) rfl rfl) rfl rfl)) ?_
    refine w_laddA rfl (fun z62 gz62 => ?_)
    refine Ew_of (pcₚ := 57) (fun _ => x_ldc2 (z := 4294967295) rfl (by decide)) ?_
    refine w_land rfl (show inrJ (z62) from gz62) (show inrJ (4294967295) from q_50) (fun z63 gz63 gaz63 gbz63 => ?_)
    refine w_sJ H (o := 17) (n := 4) rfl (H.perm 17 rfl) rfl rfl (H.fix 17 rfl rfl) (show 0 ≤ 0 ∧ 0 < ((4 : Nat) : Int) from q_348) (by decide) (show (-9223372036854775808 : Int) ≤ z63 ∧ z63 ≤ 9223372036854775807 by omega) (fun σ H => ?_)
    refine Ew_of (pcₚ := 60) (fun _ => x_aload_n rfl (rk2_o (rk_o (rk_o (rk2_o (rk2_o (rk2_o (rk2_o (rk2_o (rfl) rfl rfl) rfl rfl) rfl rfl) rfl rfl) rfl rfl) rfl rfl) rfl rfl) rfl rfl)) ?_
    refine w_gT H (o := 3) (t := 17) rfl (H.perm 3 rfl) rfl rfl rfl rfl rfl rfl ?_
    refine Ew_of (pcₚ := 64) (fun _ => x_iconst rfl) ?_
    refine Ew_of (pcₚ := 66) (fun _ => x_lload rfl (rk2_o (rk_o (rk_o (rk2_o (rk2_o (rk2_o (rk2_s) rfl rfl) rfl rfl) rfl rfl) rfl rfl) rfl rfl) rfl rfl)) ?_
    refine w_sJ H (o := 17) (n := 4) rfl (H.perm 17 rfl) rfl rfl (H.fix 17 rfl rfl) (show 0 ≤ 1 ∧ 1 < ((4 : Nat) : Int) from q_350) (by decide) (show (-9223372036854775808 : Int) ≤ 2246822519 ∧ 2246822519 ≤ 9223372036854775807 from q_349) (fun σ H => ?_)
    refine Ew_of (pcₚ := 68) (fun _ => x_aload_n rfl (rk2_o (rk_o (rk_o (rk2_o (rk2_o (rk2_o (rk2_o (rk2_o (rfl) rfl rfl) rfl rfl) rfl rfl) rfl rfl) rfl rfl) rfl rfl) rfl rfl) rfl rfl)) ?_
    refine w_gT H (o := 3) (t := 17) rfl (H.perm 3 rfl) rfl rfl rfl rfl rfl rfl ?_
    refine Ew_of (pcₚ := 72) (fun _ => x_iconst rfl) ?_
    refine Ew_of (pcₚ := 73) (fun _ => x_lconst (z := 0) rfl (by decide)) ?_
    refine w_sJ H (o := 17) (n := 4) rfl (H.perm 17 rfl) rfl rfl (H.fix 17 rfl rfl) (show 0 ≤ 2 ∧ 2 < ((4 : Nat) : Int) from q_352) (by decide) (show (-9223372036854775808 : Int) ≤ 0 ∧ 0 ≤ 9223372036854775807 from q_351) (fun σ H => ?_)
    refine Ew_of (pcₚ := 75) (fun _ => x_aload_n rfl (rk2_o (rk_o (rk_o (rk2_o (rk2_o (rk2_o (rk2_o (rk2_o (rfl) rfl rfl) rfl rfl) rfl rfl) rfl rfl) rfl rfl) rfl rfl) rfl rfl) rfl rfl)) ?_
    refine w_gT H (o := 3) (t := 17) rfl (H.perm 3 rfl) rfl rfl rfl rfl rfl rfl ?_
    refine Ew_of (pcₚ := 79) (fun _ => x_iconst rfl) ?_
    refine Ew_of (pcₚ := 80) (fun _ => x_lconst (z := 0) rfl (by decide)) ?_
    refine Ew_of (pcₚ := 82) (fun _ => x_lload rfl (rk2_o (rk_o (rk_o (rk2_o (rk2_o (rk2_o (rk2_o (rk2_s) rfl rfl) rfl rfl) rfl rfl) rfl rfl) rfl rfl) rfl rfl) rfl rfl)) ?_
    refine w_lsubA rfl (fun z64 gz64 => ?_)
    refine Ew_of (pcₚ := 86) (fun _ => x_ldc2 (z := 4294967295) rfl (by decide)) ?_
    refine w_land rfl (show inrJ (z64) from gz64) (show inrJ (4294967295) from q_50) (fun z65 gz65 gaz65 gbz65 => ?_)
    refine w_sJ H (o := 17) (n := 4) rfl (H.perm 17 rfl) rfl rfl (H.fix 17 rfl rfl) (show 0 ≤ 3 ∧ 3 < ((4 : Nat) : Int) from q_353) (by decide) (show (-9223372036854775808 : Int) ≤ z65 ∧ z65 ≤ 9223372036854775807 by omega) (fun σ H => ?_)
    suffices hl88 : ∀ (m : Nat), ∀ (ls : rO) (σ : rS) (F_88 : hF) (A_88 : hA) (x88_15 : Int), rlook ls 0 = some (.ref (D 3)) → rlook ls 1 = some (.ref (D 14)) → rlook ls 3 = some (I (a3)) → rlook ls 4 = some (J (2654435761)) → rlook ls 6 = some (J (2246822519)) → rlook ls 8 = some (J (3266489917)) → rlook ls 10 = some (J (668265263)) → rlook ls 12 = some (J (374761393)) → rlook ls 14 = some (I ((a3 - a2))) → rlook ls 15 = some (I (x88_15)) → HS σ0 σ D N F_88 A_88 → SF [] F F_88 → SA [17] (updA (updA (updA (updA A 17 (0) (z63)) 17 (1) (2246822519)) 17 (2) (0)) 17 (3) (z65)) A_88 → (inr (x88_15)) → ((a2) ≤ (x88_15) ∧ (x88_15) ≤ (a3)) → ((a3) - (x88_15)).toNat = m → Ew 359 (d + 1) 88 ls [] σ c s Q from
      hl88 _ _ σ _ _ (a2) (rk2_o (rk_o (rk_o (rk2_o (rk2_o (rk2_o (rk2_o (rk2_o (rfl) rfl rfl) rfl rfl) rfl rfl) rfl rfl) rfl rfl) rfl rfl) rfl rfl) rfl rfl) (rk2_o (rk_o (rk_o (rk2_o (rk2_o (rk2_o (rk2_o (rk2_o (rfl) rfl rfl) rfl rfl) rfl rfl) rfl rfl) rfl rfl) rfl rfl) rfl rfl) rfl rfl) (rk2_o (rk_o (rk_o (rk2_o (rk2_o (rk2_o (rk2_o (rk2_o (rfl) rfl rfl) rfl rfl) rfl rfl) rfl rfl) rfl rfl) rfl rfl) rfl rfl) rfl rfl) (rk2_o (rk_o (rk_o (rk2_o (rk2_o (rk2_o (rk2_o (rk2_s) rfl rfl) rfl rfl) rfl rfl) rfl rfl) rfl rfl) rfl rfl) rfl rfl) (rk2_o (rk_o (rk_o (rk2_o (rk2_o (rk2_o (rk2_s) rfl rfl) rfl rfl) rfl rfl) rfl rfl) rfl rfl) rfl rfl) (rk2_o (rk_o (rk_o (rk2_o (rk2_o (rk2_s) rfl rfl) rfl rfl) rfl rfl) rfl rfl) rfl rfl) (rk2_o (rk_o (rk_o (rk2_o (rk2_s) rfl rfl) rfl rfl) rfl rfl) rfl rfl) (rk2_o (rk_o (rk_o (rk2_s) rfl rfl) rfl rfl) rfl rfl) (rk2_o (rk_o (rk_s) rfl rfl) rfl rfl) (rk2_o (rk_s) rfl rfl) H (SF_refl) (SA_refl)   (show inr (a2) from h0) (show (a2) ≤ (a2) ∧ (a2) ≤ (a3) from q_372 h2) rfl
    as_aux_lemma =>
    intro m
    induction m using Nat.strongRecOn with
    | _ m ih88 =>
      intro ls σ F_88 A_88 x88_15 l88_0 l88_1 l88_3 l88_4 l88_6 l88_8 l88_10 l88_12 l88_14 l88_15 H hS_88 hA_88   j88_0 j88_1 hm88
      refine Ew_of (pcₚ := 89) (fun _ => x_iload_n rfl l88_3) ?_
      refine Ew_of (pcₚ := 91) (fun _ => x_iload rfl l88_15) ?_
      refine w_isub rfl ?_
      refine Ew_of (pcₚ := 94) (fun _ => x_bipush (z := 16) rfl (by decide)) ?_
      refine w_icmplt (t := 158) rfl rfl (show inr ((a3 - x88_15)) from q_376 h2 j88_1) (show inr (16) from q_86) (fun b66 => ?_) (fun b66 => ?_)
      · refine Ew_of (pcₚ := 159) (fun _ => x_aload_n rfl l88_0) ?_
        refine w_gT H (o := 3) (t := 17) rfl (H.perm 3 rfl) rfl rfl rfl rfl rfl rfl ?_
        refine Ew_of (pcₚ := 163) (fun _ => x_iconst rfl) ?_
        refine w_lJ H (o := 17) (n := 4) rfl (H.perm 17 rfl) rfl rfl (H.fix 17 rfl rfl) (show 0 ≤ 0 ∧ 0 < ((4 : Nat) : Int) from q_348) (by decide) (fun v67 ev67 qv67 => ?_)
        have qv67 : (-9223372036854775808 : Int) ≤ v67 ∧ v67 ≤ 9223372036854775807 := qv67
        have ev67 : (A_88 17) (0) = v67 := (congrFun (rfl : A_88 17 = A_88 17) (0)).symm.trans ev67
        refine Ew_of (pcₚ := 165) (fun _ => x_iconst rfl) ?_
        refine w_stat24 rfl rfl (by rfl) (M356 H (show inrJ (v67) by omega) (show inr (1) from q_23) (fun z72 σ F68 A69 H hS70 hA71 pz72_0 => ⟨rfl, ?_⟩))
        refine Ew_of (pcₚ := 169) (fun _ => x_aload_n rfl l88_0) ?_
        refine w_gT H (o := 3) (t := 17) rfl (H.perm 3 rfl) rfl rfl rfl rfl rfl rfl ?_
        refine Ew_of (pcₚ := 173) (fun _ => x_iconst rfl) ?_
        refine w_lJ H (o := 17) (n := 4) rfl (H.perm 17 rfl) rfl rfl (H.fix 17 rfl rfl) (show 0 ≤ 1 ∧ 1 < ((4 : Nat) : Int) from q_350) (by decide) (fun v73 ev73 qv73 => ?_)
        have qv73 : (-9223372036854775808 : Int) ≤ v73 ∧ v73 ≤ 9223372036854775807 := qv73
        have ev73 : (A_88 17) (1) = v73 := (congrFun (funext (hA71 17 rfl)) (1)).symm.trans ev73
        refine Ew_of (pcₚ := 176) (fun _ => x_bipush (z := 7) rfl (by decide)) ?_
        refine w_stat24 rfl rfl (by rfl) (M356 H (show inrJ (v73) by omega) (show inr (7) from q_355) (fun z78 σ F74 A75 H hS76 hA77 pz78_0 => ⟨rfl, ?_⟩))
        refine w_laddA rfl (fun z79 gz79 => ?_)
        refine Ew_of (pcₚ := 181) (fun _ => x_aload_n rfl l88_0) ?_
        refine w_gT H (o := 3) (t := 17) rfl (H.perm 3 rfl) rfl rfl rfl rfl rfl rfl ?_
        refine Ew_of (pcₚ := 185) (fun _ => x_iconst rfl) ?_
        refine w_lJ H (o := 17) (n := 4) rfl (H.perm 17 rfl) rfl rfl (H.fix 17 rfl rfl) (show 0 ≤ 2 ∧ 2 < ((4 : Nat) : Int) from q_352) (by decide) (fun v80 ev80 qv80 => ?_)
        have qv80 : (-9223372036854775808 : Int) ≤ v80 ∧ v80 ≤ 9223372036854775807 := qv80
        have ev80 : (A_88 17) (2) = v80 := (congrFun ((funext (hA77 17 rfl)).trans (funext (hA71 17 rfl))) (2)).symm.trans ev80
        refine Ew_of (pcₚ := 188) (fun _ => x_bipush (z := 12) rfl (by decide)) ?_
        refine w_stat24 rfl rfl (by rfl) (M356 H (show inrJ (v80) by omega) (show inr (12) from q_356) (fun z85 σ F81 A82 H hS83 hA84 pz85_0 => ⟨rfl, ?_⟩))
        refine w_laddA rfl (fun z86 gz86 => ?_)
        refine Ew_of (pcₚ := 193) (fun _ => x_aload_n rfl l88_0) ?_
        refine w_gT H (o := 3) (t := 17) rfl (H.perm 3 rfl) rfl rfl rfl rfl rfl rfl ?_
        refine Ew_of (pcₚ := 197) (fun _ => x_iconst rfl) ?_
        refine w_lJ H (o := 17) (n := 4) rfl (H.perm 17 rfl) rfl rfl (H.fix 17 rfl rfl) (show 0 ≤ 3 ∧ 3 < ((4 : Nat) : Int) from q_353) (by decide) (fun v87 ev87 qv87 => ?_)
        have qv87 : (-9223372036854775808 : Int) ≤ v87 ∧ v87 ≤ 9223372036854775807 := qv87
        have ev87 : (A_88 17) (3) = v87 := (congrFun ((funext (hA84 17 rfl)).trans ((funext (hA77 17 rfl)).trans (funext (hA71 17 rfl)))) (3)).symm.trans ev87
        refine Ew_of (pcₚ := 200) (fun _ => x_bipush (z := 18) rfl (by decide)) ?_
        refine w_stat24 rfl rfl (by rfl) (M356 H (show inrJ (v87) by omega) (show inr (18) from q_357) (fun z92 σ F88 A89 H hS90 hA91 pz92_0 => ⟨rfl, ?_⟩))
        refine w_laddA rfl (fun z93 gz93 => ?_)
        refine Ew_of (pcₚ := 207) (fun _ => x_ldc2 (z := 4294967295) rfl (by decide)) ?_
        refine w_land rfl (show inrJ (z93) from gz93) (show inrJ (4294967295) from q_50) (fun z94 gz94 gaz94 gbz94 => ?_)
        refine Ew_of (pcₚ := 210) (fun _ => x_lstore rfl) ?_
        refine Ew_of (pcₚ := 212) (fun _ => x_lload rfl rk2_s) ?_
        refine Ew_of (pcₚ := 214) (fun _ => x_iload rfl (rk2_o (l88_14) rfl rfl)) ?_
        refine w_i2l rfl (show inr ((a3 - a2)) from q_377 b1 h2) ?_
        refine w_laddA rfl (fun z95 gz95 => ?_)
        refine Ew_of (pcₚ := 219) (fun _ => x_ldc2 (z := 4294967295) rfl (by decide)) ?_
        refine w_land rfl (show inrJ (z95) from gz95) (show inrJ (4294967295) from q_50) (fun z96 gz96 gaz96 gbz96 => ?_)
        refine Ew_of (pcₚ := 222) (fun _ => x_lstore rfl) ?_
        suffices hl222 : ∀ (m : Nat), ∀ (ls : rO) (σ : rS) (F_222 : hF) (A_222 : hA) (x222_15 : Int) (x222_16 : Int), rlook ls 1 = some (.ref (D 14)) → rlook ls 3 = some (I (a3)) → rlook ls 4 = some (J (2654435761)) → rlook ls 6 = some (J (2246822519)) → rlook ls 8 = some (J (3266489917)) → rlook ls 10 = some (J (668265263)) → rlook ls 12 = some (J (374761393)) → rlook ls 15 = some (I (x222_15)) → rlook ls 16 = some (J (x222_16)) → HS σ0 σ D N F_222 A_222 → SF [] F88 F_222 → SA [] A89 A_222 → (inr (x222_15)) → (inrJ (x222_16)) → ((a2) ≤ (x222_15) ∧ (x222_15) ≤ (a3)) → ((a3) - (x222_15)).toNat = m → Ew 359 (d + 1) 222 ls [] σ c s Q from
          hl222 _ _ σ _ _ (x88_15) (z96) (rk2_o (rk2_o (l88_1) rfl rfl) rfl rfl) (rk2_o (rk2_o (l88_3) rfl rfl) rfl rfl) (rk2_o (rk2_o (l88_4) rfl rfl) rfl rfl) (rk2_o (rk2_o (l88_6) rfl rfl) rfl rfl) (rk2_o (rk2_o (l88_8) rfl rfl) rfl rfl) (rk2_o (rk2_o (l88_10) rfl rfl) rfl rfl) (rk2_o (rk2_o (l88_12) rfl rfl) rfl rfl) (rk2_o (rk2_o (l88_15) rfl rfl) rfl rfl) (rk2_s) H (SF_refl) (SA_refl)   (show inr (x88_15) from j88_0) (show inrJ (z96) from gz96) (show (a2) ≤ (x88_15) ∧ (x88_15) ≤ (a3) from j88_1) rfl
        as_aux_lemma =>
        intro m
        induction m using Nat.strongRecOn with
        | _ m ih222 =>
          intro ls σ F_222 A_222 x222_15 x222_16 l222_1 l222_3 l222_4 l222_6 l222_8 l222_10 l222_12 l222_15 l222_16 H hS_222 hA_222   j222_0 j222_1 j222_2 hm222
          refine Ew_of (pcₚ := 223) (fun _ => x_iload_n rfl l222_3) ?_
          refine Ew_of (pcₚ := 225) (fun _ => x_iload rfl l222_15) ?_
          refine w_isub rfl ?_
          refine Ew_of (pcₚ := 227) (fun _ => x_iconst rfl) ?_
          refine w_icmplt (t := 266) rfl rfl (show inr ((a3 - x222_15)) from q_376 h2 j222_2) (show inr (4) from q_2) (fun b97 => ?_) (fun b97 => ?_)
          · suffices hl266 : ∀ (m : Nat), ∀ (ls : rO) (σ : rS) (F_266 : hF) (A_266 : hA) (x266_15 : Int) (x266_16 : Int), rlook ls 1 = some (.ref (D 14)) → rlook ls 3 = some (I (a3)) → rlook ls 4 = some (J (2654435761)) → rlook ls 6 = some (J (2246822519)) → rlook ls 8 = some (J (3266489917)) → rlook ls 12 = some (J (374761393)) → rlook ls 15 = some (I (x266_15)) → rlook ls 16 = some (J (x266_16)) → HS σ0 σ D N F_266 A_266 → SF [] F_222 F_266 → SA [] A_222 A_266 → (inr (x266_15)) → (inrJ (x266_16)) → ((x222_15) ≤ (x266_15)) → ((x266_15) ≤ (x222_15) ∨ (x266_15) ≤ ((a3))) → (((a3)) - (x266_15)).toNat = m → Ew 359 (d + 1) 266 ls [] σ c s Q from
              hl266 _ _ σ _ _ (x222_15) (x222_16) (l222_1) (l222_3) (l222_4) (l222_6) (l222_8) (l222_12) (l222_15) (l222_16) H (SF_refl) (SA_refl)   (show inr (x222_15) from j222_0) (show inrJ (x222_16) from j222_1) (show (x222_15) ≤ (x222_15) from q_102) (show (x222_15) ≤ (x222_15) ∨ (x222_15) ≤ ((a3)) from q_101) rfl
            as_aux_lemma =>
            intro m
            induction m using Nat.strongRecOn with
            | _ m ih266 =>
              intro ls σ F_266 A_266 x266_15 x266_16 l266_1 l266_3 l266_4 l266_6 l266_8 l266_12 l266_15 l266_16 H hS_266 hA_266   j266_0 j266_1 j266_2 j266_3 hm266
              refine Ew_of (pcₚ := 268) (fun _ => x_iload rfl l266_15) ?_
              refine Ew_of (pcₚ := 269) (fun _ => x_iload_n rfl l266_3) ?_
              refine w_icmpge (t := 307) rfl rfl (show inr (x266_15) from j266_0) (show inr (a3) from h1) (fun b98 => ?_) (fun b98 => ?_)
              · refine Ew_of (pcₚ := 309) (fun _ => x_lload rfl l266_16) ?_
                refine Ew_of (pcₚ := 311) (fun _ => x_lload rfl l266_16) ?_
                refine Ew_of (pcₚ := 313) (fun _ => x_bipush (z := 15) rfl (by decide)) ?_
                refine w_lshrA rfl (fun z99 gz99 => ?_)
                refine w_lxorA rfl (fun z100 gz100 => ?_)
                refine Ew_of (pcₚ := 317) (fun _ => x_lload rfl l266_6) ?_
                refine w_stat24 rfl rfl (by rfl) (M357 H (show inrJ (z100) from gz100) (show inrJ (2246822519) from q_335) (fun z105 σ F101 A102 H hS103 hA104 pz105_0 => ⟨rfl, ?_⟩))
                refine Ew_of (pcₚ := 322) (fun _ => x_lstore rfl) ?_
                refine Ew_of (pcₚ := 324) (fun _ => x_lload rfl rk2_s) ?_
                refine Ew_of (pcₚ := 326) (fun _ => x_lload rfl rk2_s) ?_
                refine Ew_of (pcₚ := 328) (fun _ => x_bipush (z := 13) rfl (by decide)) ?_
                refine w_lshrA rfl (fun z106 gz106 => ?_)
                refine w_lxorA rfl (fun z107 gz107 => ?_)
                refine Ew_of (pcₚ := 332) (fun _ => x_lload rfl (rk2_o (l266_8) rfl rfl)) ?_
                refine w_stat24 rfl rfl (by rfl) (M357 H (show inrJ (z107) from gz107) (show inrJ (3266489917) from q_336) (fun z112 σ F108 A109 H hS110 hA111 pz112_0 => ⟨rfl, ?_⟩))
                refine Ew_of (pcₚ := 337) (fun _ => x_lstore rfl) ?_
                refine Ew_of (pcₚ := 339) (fun _ => x_lload rfl rk2_s) ?_
                refine Ew_of (pcₚ := 341) (fun _ => x_lload rfl rk2_s) ?_
                refine Ew_of (pcₚ := 343) (fun _ => x_bipush (z := 16) rfl (by decide)) ?_
                refine w_lshrA rfl (fun z113 gz113 => ?_)
                refine w_lxorA rfl (fun z114 gz114 => ?_)
                exact w_lreturn rfl (k (z114) σ _ _ H (SF_trans (SF_trans (SF_trans (SF_trans (SF_trans (SF_trans (SF_trans (SF_trans (SF_trans (SF_refl) hS_88 (any_sub rfl)) hS70 (any_sub rfl)) hS76 (any_sub rfl)) hS83 (any_sub rfl)) hS90 (any_sub rfl)) hS_222 (any_sub rfl)) hS_266 (any_sub rfl)) hS103 (any_sub rfl)) hS110 (any_sub rfl)) (SA_trans (SA_trans (SA_trans (SA_trans (SA_trans (SA_trans (SA_trans (SA_trans (SA_trans (SA_upd (SA_upd (SA_upd (SA_upd (SA_refl) rfl) rfl) rfl) rfl) hA_88 (any_subA rfl)) hA71 (any_subA rfl)) hA77 (any_subA rfl)) hA84 (any_subA rfl)) hA91 (any_subA rfl)) hA_222 (any_subA rfl)) hA_266 (any_subA rfl)) hA104 (any_subA rfl)) hA111 (any_subA rfl)) (show inrJ (z114) from gz114))
              · refine Ew_of (pcₚ := 274) (fun _ => x_lload rfl l266_16) ?_
                refine Ew_of (pcₚ := 275) (fun _ => x_aload_n rfl l266_1) ?_
                refine Ew_of (pcₚ := 277) (fun _ => x_iload rfl l266_15) ?_
                refine w_lI H (o := 14) (n := 65536) rfl (H.perm 14 rfl) rfl rfl (H.fix 14 rfl rfl) (show 0 ≤ x266_15 ∧ x266_15 < ((65536 : Nat) : Int) from q_373 b98 h2 j222_2 j266_2) (by decide) (fun v115 ev115 qv115 => ?_)
                have qv115 : (0 : Int) ≤ v115 ∧ v115 ≤ 255 := qv115
                have ev115 : (A 14) (x266_15) = v115 := (congrFun ((funext (hA_266 14 rfl)).trans ((funext (hA_222 14 rfl)).trans ((funext (hA91 14 rfl)).trans ((funext (hA84 14 rfl)).trans ((funext (hA77 14 rfl)).trans ((funext (hA71 14 rfl)).trans (funext (hA_88 14 rfl)))))))) (x266_15)).symm.trans ev115
                refine w_i2l rfl (show inr (v115) from q_38 qv115) ?_
                refine Ew_of (pcₚ := 281) (fun _ => x_lload rfl l266_12) ?_
                refine w_stat24 rfl rfl (by rfl) (M357 H (show inrJ (v115) from q_194 qv115) (show inrJ (374761393) from q_338) (fun z120 σ F116 A117 H hS118 hA119 pz120_0 => ⟨rfl, ?_⟩))
                refine w_laddA rfl (fun z121 gz121 => ?_)
                refine Ew_of (pcₚ := 288) (fun _ => x_ldc2 (z := 4294967295) rfl (by decide)) ?_
                refine w_land rfl (show inrJ (z121) from gz121) (show inrJ (4294967295) from q_50) (fun z122 gz122 gaz122 gbz122 => ?_)
                refine Ew_of (pcₚ := 291) (fun _ => x_bipush (z := 11) rfl (by decide)) ?_
                refine w_stat24 rfl rfl (by rfl) (M356 H (show inrJ (z122) from gz122) (show inr (11) from q_67) (fun z127 σ F123 A124 H hS125 hA126 pz127_0 => ⟨rfl, ?_⟩))
                refine Ew_of (pcₚ := 296) (fun _ => x_lload rfl l266_4) ?_
                refine w_stat24 rfl rfl (by rfl) (M357 H (show inrJ (z127) from pz127_0) (show inrJ (2654435761) from q_339) (fun z132 σ F128 A129 H hS130 hA131 pz132_0 => ⟨rfl, ?_⟩))
                refine Ew_of (pcₚ := 301) (fun _ => x_lstore rfl) ?_
                refine Ew_of (pcₚ := 304) (fun _ => x_iinc (len := 3) rfl (rk2_o (l266_15) rfl rfl)) ?_
                refine Ew_of (pcₚ := 266) (fun _ => x_goto rfl rfl) ?_
                exact ih266 _ (msE hm266 q_31 (q_34 b98)) _ σ _ _ ((x266_15 + 1)) (z132) (rk_o (rk2_o (l266_1) rfl rfl) rfl rfl) (rk_o (rk2_o (l266_3) rfl rfl) rfl rfl) (rk_o (rk2_o (l266_4) rfl rfl) rfl rfl) (rk_o (rk2_o (l266_6) rfl rfl) rfl rfl) (rk_o (rk2_o (l266_8) rfl rfl) rfl rfl) (rk_o (rk2_o (l266_12) rfl rfl) rfl rfl) (rk_s) (rk_o (rk2_s) rfl rfl) H (SF_trans (SF_trans (SF_trans (hS_266) hS118 (any_sub rfl)) hS125 (any_sub rfl)) hS130 (any_sub rfl)) (SA_trans (SA_trans (SA_trans (hA_266) hA119 (any_subA rfl)) hA126 (any_subA rfl)) hA131 (any_subA rfl))   (show inr ((x266_15 + 1)) from q_106 b98 h2 j266_0) (show inrJ (z132) from pz132_0) (show (x222_15) ≤ ((x266_15 + 1)) from q_105 j266_2) (show ((x266_15 + 1)) ≤ (x222_15) ∨ ((x266_15 + 1)) ≤ ((a3)) from q_104 b98) rfl
          · refine Ew_of (pcₚ := 232) (fun _ => x_lload rfl l222_16) ?_
            refine Ew_of (pcₚ := 233) (fun _ => x_aload_n rfl l222_1) ?_
            refine Ew_of (pcₚ := 235) (fun _ => x_iload rfl l222_15) ?_
            refine w_stat24 rfl rfl (by rfl) (M358_14 H (show inr (x222_15) from j222_0) (show 0 ≤ (x222_15) ∧ (x222_15) + 3 < 65536 from q_374 b97 h2 j222_2) (fun z137 σ F133 A134 H hS135 hA136 pz137_0 => ⟨rfl, ?_⟩))
            refine Ew_of (pcₚ := 240) (fun _ => x_lload rfl l222_8) ?_
            refine w_stat24 rfl rfl (by rfl) (M357 H (show inrJ (z137) from pz137_0) (show inrJ (3266489917) from q_336) (fun z142 σ F138 A139 H hS140 hA141 pz142_0 => ⟨rfl, ?_⟩))
            refine w_laddA rfl (fun z143 gz143 => ?_)
            refine Ew_of (pcₚ := 247) (fun _ => x_ldc2 (z := 4294967295) rfl (by decide)) ?_
            refine w_land rfl (show inrJ (z143) from gz143) (show inrJ (4294967295) from q_50) (fun z144 gz144 gaz144 gbz144 => ?_)
            refine Ew_of (pcₚ := 250) (fun _ => x_bipush (z := 17) rfl (by decide)) ?_
            refine w_stat24 rfl rfl (by rfl) (M356 H (show inrJ (z144) from gz144) (show inr (17) from q_342) (fun z149 σ F145 A146 H hS147 hA148 pz149_0 => ⟨rfl, ?_⟩))
            refine Ew_of (pcₚ := 255) (fun _ => x_lload rfl l222_10) ?_
            refine w_stat24 rfl rfl (by rfl) (M357 H (show inrJ (z149) from pz149_0) (show inrJ (668265263) from q_343) (fun z154 σ F150 A151 H hS152 hA153 pz154_0 => ⟨rfl, ?_⟩))
            refine Ew_of (pcₚ := 260) (fun _ => x_lstore rfl) ?_
            refine Ew_of (pcₚ := 263) (fun _ => x_iinc (len := 3) rfl (rk2_o (l222_15) rfl rfl)) ?_
            refine Ew_of (pcₚ := 222) (fun _ => x_goto rfl rfl) ?_
            exact ih222 _ (msE hm222 q_346 (q_347 b97)) _ σ _ _ ((x222_15 + 4)) (z154) (rk_o (rk2_o (l222_1) rfl rfl) rfl rfl) (rk_o (rk2_o (l222_3) rfl rfl) rfl rfl) (rk_o (rk2_o (l222_4) rfl rfl) rfl rfl) (rk_o (rk2_o (l222_6) rfl rfl) rfl rfl) (rk_o (rk2_o (l222_8) rfl rfl) rfl rfl) (rk_o (rk2_o (l222_10) rfl rfl) rfl rfl) (rk_o (rk2_o (l222_12) rfl rfl) rfl rfl) (rk_s) (rk_o (rk2_s) rfl rfl) H (SF_trans (SF_trans (SF_trans (SF_trans (hS_222) hS135 (any_sub rfl)) hS140 (any_sub rfl)) hS147 (any_sub rfl)) hS152 (any_sub rfl)) (SA_trans (SA_trans (SA_trans (SA_trans (hA_222) hA136 (any_subA rfl)) hA141 (any_subA rfl)) hA148 (any_subA rfl)) hA153 (any_subA rfl))   (show inr ((x222_15 + 4)) from q_375 b97 h2 j222_0) (show inrJ (z154) from pz154_0) (show (a2) ≤ ((x222_15 + 4)) ∧ ((x222_15 + 4)) ≤ (a3) from q_344 b97 j222_2) rfl
      · refine Ew_of (pcₚ := 98) (fun _ => x_iconst rfl) ?_
        refine Ew_of (pcₚ := 100) (fun _ => x_istore rfl) ?_
        suffices hl100 : ∀ (m : Nat), ∀ (ls : rO) (σ : rS) (F_100 : hF) (A_100 : hA) (x100_15 : Int) (x100_18 : Int), rlook ls 0 = some (.ref (D 3)) → rlook ls 1 = some (.ref (D 14)) → rlook ls 3 = some (I (a3)) → rlook ls 4 = some (J (2654435761)) → rlook ls 6 = some (J (2246822519)) → rlook ls 8 = some (J (3266489917)) → rlook ls 10 = some (J (668265263)) → rlook ls 12 = some (J (374761393)) → rlook ls 14 = some (I ((a3 - a2))) → rlook ls 15 = some (I (x100_15)) → rlook ls 18 = some (I (x100_18)) → HS σ0 σ D N F_100 A_100 → SF [] F_88 F_100 → SA [17] A_88 A_100 → (inr (x100_15)) → (inr (x100_18)) → ((0) ≤ (x100_18)) → ((x100_18) ≤ (0) ∨ (x100_18) ≤ (4)) → ((x100_15) = (x88_15) + 4 * (x100_18)) → ((4) - (x100_18)).toNat = m → Ew 359 (d + 1) 100 ls [] σ c s Q from
          hl100 _ _ σ _ _ (x88_15) (0) (rk_o (l88_0) rfl rfl) (rk_o (l88_1) rfl rfl) (rk_o (l88_3) rfl rfl) (rk_o (l88_4) rfl rfl) (rk_o (l88_6) rfl rfl) (rk_o (l88_8) rfl rfl) (rk_o (l88_10) rfl rfl) (rk_o (l88_12) rfl rfl) (rk_o (l88_14) rfl rfl) (rk_o (l88_15) rfl rfl) (rk_s) H (SF_refl) (SA_refl)   (show inr (x88_15) from j88_0) (show inr (0) from q_20) (show (0) ≤ (0) from q_25) (show (0) ≤ (0) ∨ (0) ≤ (4) from q_360) (show (x88_15) = (x88_15) + 4 * (0) from q_359) rfl
        as_aux_lemma =>
        intro m
        induction m using Nat.strongRecOn with
        | _ m ih100 =>
          intro ls σ F_100 A_100 x100_15 x100_18 l100_0 l100_1 l100_3 l100_4 l100_6 l100_8 l100_10 l100_12 l100_14 l100_15 l100_18 H hS_100 hA_100   j100_0 j100_1 j100_2 j100_3 j100_4 hm100
          refine Ew_of (pcₚ := 102) (fun _ => x_iload rfl l100_18) ?_
          refine Ew_of (pcₚ := 103) (fun _ => x_iconst rfl) ?_
          refine w_icmpge (t := 155) rfl rfl (show inr (x100_18) from j100_1) (show inr (4) from q_2) (fun b155 => ?_) (fun b155 => ?_)
          · refine Ew_of (pcₚ := 88) (fun _ => x_goto rfl rfl) ?_
            exact ih88 _ (msE hm88 (q_361 b155 j100_4) (q_94 b66)) _ σ _ _ (x100_15) (l100_0) (l100_1) (l100_3) (l100_4) (l100_6) (l100_8) (l100_10) (l100_12) (l100_14) (l100_15) H (SF_trans (hS_88) hS_100 (any_sub rfl)) (SA_trans (hA_88) hA_100 (any_subA rfl))   (show inr (x100_15) from j100_0) (show (a2) ≤ (x100_15) ∧ (x100_15) ≤ (a3) by omega) rfl
          · refine Ew_of (pcₚ := 107) (fun _ => x_aload_n rfl l100_0) ?_
            refine w_gT H (o := 3) (t := 17) rfl (H.perm 3 rfl) rfl rfl rfl rfl rfl rfl ?_
            refine Ew_of (pcₚ := 112) (fun _ => x_iload rfl l100_18) ?_
            refine Ew_of (pcₚ := 113) (fun _ => x_aload_n rfl l100_0) ?_
            refine w_gT H (o := 3) (t := 17) rfl (H.perm 3 rfl) rfl rfl rfl rfl rfl rfl ?_
            refine Ew_of (pcₚ := 118) (fun _ => x_iload rfl l100_18) ?_
            refine w_lJ H (o := 17) (n := 4) rfl (H.perm 17 rfl) rfl rfl (H.fix 17 rfl rfl) (show 0 ≤ x100_18 ∧ x100_18 < ((4 : Nat) : Int) from q_362 b155 j100_2) (by decide) (fun v156 ev156 qv156 => ?_)
            have qv156 : (-9223372036854775808 : Int) ≤ v156 ∧ v156 ≤ 9223372036854775807 := qv156
            have ev156 : (A_100 17) (x100_18) = v156 := (congrFun (rfl : A_100 17 = A_100 17) (x100_18)).symm.trans ev156
            refine Ew_of (pcₚ := 120) (fun _ => x_aload_n rfl l100_1) ?_
            refine Ew_of (pcₚ := 122) (fun _ => x_iload rfl l100_15) ?_
            refine w_stat24 rfl rfl (by rfl) (M358_14 H (show inr (x100_15) from j100_0) (show 0 ≤ (x100_15) ∧ (x100_15) + 3 < 65536 from q_378 b155 b66 h2 j100_2 j100_4 j88_1) (fun z161 σ F157 A158 H hS159 hA160 pz161_0 => ⟨rfl, ?_⟩))
            refine Ew_of (pcₚ := 127) (fun _ => x_lload rfl l100_6) ?_
            refine w_stat24 rfl rfl (by rfl) (M357 H (show inrJ (z161) from pz161_0) (show inrJ (2246822519) from q_335) (fun z166 σ F162 A163 H hS164 hA165 pz166_0 => ⟨rfl, ?_⟩))
            refine w_laddA rfl (fun z167 gz167 => ?_)
            refine Ew_of (pcₚ := 134) (fun _ => x_ldc2 (z := 4294967295) rfl (by decide)) ?_
            refine w_land rfl (show inrJ (z167) from gz167) (show inrJ (4294967295) from q_50) (fun z168 gz168 gaz168 gbz168 => ?_)
            refine Ew_of (pcₚ := 137) (fun _ => x_bipush (z := 13) rfl (by decide)) ?_
            refine w_stat24 rfl rfl (by rfl) (M356 H (show inrJ (z168) from gz168) (show inr (13) from q_90) (fun z173 σ F169 A170 H hS171 hA172 pz173_0 => ⟨rfl, ?_⟩))
            refine Ew_of (pcₚ := 142) (fun _ => x_lload rfl l100_4) ?_
            refine w_stat24 rfl rfl (by rfl) (M357 H (show inrJ (z173) from pz173_0) (show inrJ (2654435761) from q_339) (fun z178 σ F174 A175 H hS176 hA177 pz178_0 => ⟨rfl, ?_⟩))
            refine w_sJ H (o := 17) (n := 4) rfl (H.perm 17 rfl) rfl rfl (H.fix 17 rfl rfl) (show 0 ≤ x100_18 ∧ x100_18 < ((4 : Nat) : Int) from q_362 b155 j100_2) (by decide) (show (-9223372036854775808 : Int) ≤ z178 ∧ z178 ≤ 9223372036854775807 by omega) (fun σ H => ?_)
            refine Ew_of (pcₚ := 149) (fun _ => x_iinc (len := 3) rfl (l100_15)) ?_
            refine Ew_of (pcₚ := 152) (fun _ => x_iinc (len := 3) rfl (rk_o (l100_18) rfl rfl)) ?_
            refine Ew_of (pcₚ := 100) (fun _ => x_goto rfl rfl) ?_
            exact ih100 _ (msE hm100 q_368 (q_369 b155)) _ σ _ _ ((x100_15 + 4)) ((x100_18 + 1)) (rk_o (rk_o (l100_0) rfl rfl) rfl rfl) (rk_o (rk_o (l100_1) rfl rfl) rfl rfl) (rk_o (rk_o (l100_3) rfl rfl) rfl rfl) (rk_o (rk_o (l100_4) rfl rfl) rfl rfl) (rk_o (rk_o (l100_6) rfl rfl) rfl rfl) (rk_o (rk_o (l100_8) rfl rfl) rfl rfl) (rk_o (rk_o (l100_10) rfl rfl) rfl rfl) (rk_o (rk_o (l100_12) rfl rfl) rfl rfl) (rk_o (rk_o (l100_14) rfl rfl) rfl rfl) (rk_o (rk_s) rfl rfl) (rk_s) H (SF_trans (SF_trans (SF_trans (SF_trans (hS_100) hS159 (any_sub rfl)) hS164 (any_sub rfl)) hS171 (any_sub rfl)) hS176 (any_sub rfl)) (SA_upd (SA_trans (SA_trans (SA_trans (SA_trans (hA_100) hA160 (any_subA rfl)) hA165 (any_subA rfl)) hA172 (any_subA rfl)) hA177 (any_subA rfl)) rfl)   (show inr ((x100_15 + 4)) from q_379 b155 b66 h2 j100_0 j100_4) (show inr ((x100_18 + 1)) from q_366 b155 j100_2) (show (0) ≤ ((x100_18 + 1)) from q_29 j100_2) (show ((x100_18 + 1)) ≤ (0) ∨ ((x100_18 + 1)) ≤ (4) from q_365 b155) (show ((x100_15 + 4)) = (x88_15) + 4 * ((x100_18 + 1)) from q_364 j100_4) rfl
/-- Tokens.sumOf -/
theorem M359_22 {σ0 σ : rS} {D N : Nat → Nat} {F : hF} {A : hA} {d c s : Nat} {Q : wQ} (H : HS σ0 σ D N F A) {a2 a3 : Int} (h0 : inr (a2)) (h1 : inr (a3)) (h2 : 0 ≤ (a2) ∧ (a2) ≤ (a3) ∧ (a3) ≤ 65536) (k : ∀ (z : Int) σ Fₚ Aₚ, HS σ0 σ D N Fₚ Aₚ → SF [] F Fₚ → SA [17] A Aₚ → (inrJ (z)) → Q (some (J z)) σ c s) : Ew 359 (d + 1) 0 (rargs 0 [.ref (D 3), .ref (D 22), I a2, I a3]) [] σ c s Q := by
  refine Ew_of (pcₚ := 3) (fun _ => x_ldc2 (z := 2654435761) rfl (by decide)) ?_
  refine Ew_of (pcₚ := 5) (fun _ => x_lstore rfl) ?_
  refine Ew_of (pcₚ := 8) (fun _ => x_ldc2 (z := 2246822519) rfl (by decide)) ?_
  refine Ew_of (pcₚ := 10) (fun _ => x_lstore rfl) ?_
  refine Ew_of (pcₚ := 13) (fun _ => x_ldc2 (z := 3266489917) rfl (by decide)) ?_
  refine Ew_of (pcₚ := 15) (fun _ => x_lstore rfl) ?_
  refine Ew_of (pcₚ := 18) (fun _ => x_ldc2 (z := 668265263) rfl (by decide)) ?_
  refine Ew_of (pcₚ := 20) (fun _ => x_lstore rfl) ?_
  refine Ew_of (pcₚ := 23) (fun _ => x_ldc2 (z := 374761393) rfl (by decide)) ?_
  refine Ew_of (pcₚ := 25) (fun _ => x_lstore rfl) ?_
  refine Ew_of (pcₚ := 26) (fun _ => x_iload_n rfl (rk2_o (rk2_o (rk2_o (rk2_o (rk2_o (rfl) rfl rfl) rfl rfl) rfl rfl) rfl rfl) rfl rfl)) ?_
  refine Ew_of (pcₚ := 27) (fun _ => x_iload_n rfl (rk2_o (rk2_o (rk2_o (rk2_o (rk2_o (rfl) rfl rfl) rfl rfl) rfl rfl) rfl rfl) rfl rfl)) ?_
  refine w_isub rfl ?_
  refine Ew_of (pcₚ := 30) (fun _ => x_istore rfl) ?_
  refine Ew_of (pcₚ := 31) (fun _ => x_iload_n rfl (rk_o (rk2_o (rk2_o (rk2_o (rk2_o (rk2_o (rfl) rfl rfl) rfl rfl) rfl rfl) rfl rfl) rfl rfl) rfl rfl)) ?_
  refine Ew_of (pcₚ := 33) (fun _ => x_istore rfl) ?_
  refine Ew_of (pcₚ := 35) (fun _ => x_lload rfl (rk_o (rk_o (rk2_s) rfl rfl) rfl rfl)) ?_
  refine Ew_of (pcₚ := 37) (fun _ => x_lstore rfl) ?_
  refine Ew_of (pcₚ := 39) (fun _ => x_iload rfl (rk2_o (rk_o (rk_s) rfl rfl) rfl rfl)) ?_
  refine Ew_of (pcₚ := 41) (fun _ => x_bipush (z := 16) rfl (by decide)) ?_
  refine w_icmplt (t := 210) rfl rfl (show inr ((a3 - a2)) from q_370 h2) (show inr (16) from q_86) (fun b1 => ?_) (fun b1 => ?_)
  · refine Ew_of (pcₚ := 212) (fun _ => x_lload rfl rk2_s) ?_
    refine Ew_of (pcₚ := 214) (fun _ => x_iload rfl (rk2_o (rk_o (rk_s) rfl rfl) rfl rfl)) ?_
    refine w_i2l rfl (show inr ((a3 - a2)) from q_371 b1 h2) ?_
    refine w_laddA rfl (fun z2 gz2 => ?_)
    refine Ew_of (pcₚ := 219) (fun _ => x_ldc2 (z := 4294967295) rfl (by decide)) ?_
    refine w_land rfl (show inrJ (z2) from gz2) (show inrJ (4294967295) from q_50) (fun z3 gz3 gaz3 gbz3 => ?_)
    refine Ew_of (pcₚ := 222) (fun _ => x_lstore rfl) ?_
    suffices hl222 : ∀ (m : Nat), ∀ (ls : rO) (σ : rS) (F_222 : hF) (A_222 : hA) (x222_15 : Int) (x222_16 : Int), rlook ls 1 = some (.ref (D 22)) → rlook ls 3 = some (I (a3)) → rlook ls 4 = some (J (2654435761)) → rlook ls 6 = some (J (2246822519)) → rlook ls 8 = some (J (3266489917)) → rlook ls 10 = some (J (668265263)) → rlook ls 12 = some (J (374761393)) → rlook ls 15 = some (I (x222_15)) → rlook ls 16 = some (J (x222_16)) → HS σ0 σ D N F_222 A_222 → SF [] F F_222 → SA [] A A_222 → (inr (x222_15)) → (inrJ (x222_16)) → ((a2) ≤ (x222_15) ∧ (x222_15) ≤ (a3)) → ((a3) - (x222_15)).toNat = m → Ew 359 (d + 1) 222 ls [] σ c s Q from
      hl222 _ _ σ _ _ (a2) (z3) (rk2_o (rk2_o (rk_o (rk_o (rk2_o (rk2_o (rk2_o (rk2_o (rk2_o (rfl) rfl rfl) rfl rfl) rfl rfl) rfl rfl) rfl rfl) rfl rfl) rfl rfl) rfl rfl) rfl rfl) (rk2_o (rk2_o (rk_o (rk_o (rk2_o (rk2_o (rk2_o (rk2_o (rk2_o (rfl) rfl rfl) rfl rfl) rfl rfl) rfl rfl) rfl rfl) rfl rfl) rfl rfl) rfl rfl) rfl rfl) (rk2_o (rk2_o (rk_o (rk_o (rk2_o (rk2_o (rk2_o (rk2_o (rk2_s) rfl rfl) rfl rfl) rfl rfl) rfl rfl) rfl rfl) rfl rfl) rfl rfl) rfl rfl) (rk2_o (rk2_o (rk_o (rk_o (rk2_o (rk2_o (rk2_o (rk2_s) rfl rfl) rfl rfl) rfl rfl) rfl rfl) rfl rfl) rfl rfl) rfl rfl) (rk2_o (rk2_o (rk_o (rk_o (rk2_o (rk2_o (rk2_s) rfl rfl) rfl rfl) rfl rfl) rfl rfl) rfl rfl) rfl rfl) (rk2_o (rk2_o (rk_o (rk_o (rk2_o (rk2_s) rfl rfl) rfl rfl) rfl rfl) rfl rfl) rfl rfl) (rk2_o (rk2_o (rk_o (rk_o (rk2_s) rfl rfl) rfl rfl) rfl rfl) rfl rfl) (rk2_o (rk2_o (rk_s) rfl rfl) rfl rfl) (rk2_s) H (SF_refl) (SA_refl)   (show inr (a2) from h0) (show inrJ (z3) from gz3) (show (a2) ≤ (a2) ∧ (a2) ≤ (a3) from q_372 h2) rfl
    as_aux_lemma =>
    intro m
    induction m using Nat.strongRecOn with
    | _ m ih222 =>
      intro ls σ F_222 A_222 x222_15 x222_16 l222_1 l222_3 l222_4 l222_6 l222_8 l222_10 l222_12 l222_15 l222_16 H hS_222 hA_222   j222_0 j222_1 j222_2 hm222
      refine Ew_of (pcₚ := 223) (fun _ => x_iload_n rfl l222_3) ?_
      refine Ew_of (pcₚ := 225) (fun _ => x_iload rfl l222_15) ?_
      refine w_isub rfl ?_
      refine Ew_of (pcₚ := 227) (fun _ => x_iconst rfl) ?_
      refine w_icmplt (t := 266) rfl rfl (show inr ((a3 - x222_15)) from q_334 b1 j222_2) (show inr (4) from q_2) (fun b4 => ?_) (fun b4 => ?_)
      · suffices hl266 : ∀ (m : Nat), ∀ (ls : rO) (σ : rS) (F_266 : hF) (A_266 : hA) (x266_15 : Int) (x266_16 : Int), rlook ls 1 = some (.ref (D 22)) → rlook ls 3 = some (I (a3)) → rlook ls 4 = some (J (2654435761)) → rlook ls 6 = some (J (2246822519)) → rlook ls 8 = some (J (3266489917)) → rlook ls 12 = some (J (374761393)) → rlook ls 15 = some (I (x266_15)) → rlook ls 16 = some (J (x266_16)) → HS σ0 σ D N F_266 A_266 → SF [] F_222 F_266 → SA [] A_222 A_266 → (inr (x266_15)) → (inrJ (x266_16)) → ((x222_15) ≤ (x266_15)) → ((x266_15) ≤ (x222_15) ∨ (x266_15) ≤ ((a3))) → (((a3)) - (x266_15)).toNat = m → Ew 359 (d + 1) 266 ls [] σ c s Q from
          hl266 _ _ σ _ _ (x222_15) (x222_16) (l222_1) (l222_3) (l222_4) (l222_6) (l222_8) (l222_12) (l222_15) (l222_16) H (SF_refl) (SA_refl)   (show inr (x222_15) from j222_0) (show inrJ (x222_16) from j222_1) (show (x222_15) ≤ (x222_15) from q_102) (show (x222_15) ≤ (x222_15) ∨ (x222_15) ≤ ((a3)) from q_101) rfl
        as_aux_lemma =>
        intro m
        induction m using Nat.strongRecOn with
        | _ m ih266 =>
          intro ls σ F_266 A_266 x266_15 x266_16 l266_1 l266_3 l266_4 l266_6 l266_8 l266_12 l266_15 l266_16 H hS_266 hA_266   j266_0 j266_1 j266_2 j266_3 hm266
          refine Ew_of (pcₚ := 268) (fun _ => x_iload rfl l266_15) ?_
          refine Ew_of (pcₚ := 269) (fun _ => x_iload_n rfl l266_3) ?_
          refine w_icmpge (t := 307) rfl rfl (show inr (x266_15) from j266_0) (show inr (a3) from h1) (fun b5 => ?_) (fun b5 => ?_)
          · refine Ew_of (pcₚ := 309) (fun _ => x_lload rfl l266_16) ?_
            refine Ew_of (pcₚ := 311) (fun _ => x_lload rfl l266_16) ?_
            refine Ew_of (pcₚ := 313) (fun _ => x_bipush (z := 15) rfl (by decide)) ?_
            refine w_lshrA rfl (fun z6 gz6 => ?_)
            refine w_lxorA rfl (fun z7 gz7 => ?_)
            refine Ew_of (pcₚ := 317) (fun _ => x_lload rfl l266_6) ?_
            refine w_stat24 rfl rfl (by rfl) (M357 H (show inrJ (z7) from gz7) (show inrJ (2246822519) from q_335) (fun z12 σ F8 A9 H hS10 hA11 pz12_0 => ⟨rfl, ?_⟩))
            refine Ew_of (pcₚ := 322) (fun _ => x_lstore rfl) ?_
            refine Ew_of (pcₚ := 324) (fun _ => x_lload rfl rk2_s) ?_
            refine Ew_of (pcₚ := 326) (fun _ => x_lload rfl rk2_s) ?_
            refine Ew_of (pcₚ := 328) (fun _ => x_bipush (z := 13) rfl (by decide)) ?_
            refine w_lshrA rfl (fun z13 gz13 => ?_)
            refine w_lxorA rfl (fun z14 gz14 => ?_)
            refine Ew_of (pcₚ := 332) (fun _ => x_lload rfl (rk2_o (l266_8) rfl rfl)) ?_
            refine w_stat24 rfl rfl (by rfl) (M357 H (show inrJ (z14) from gz14) (show inrJ (3266489917) from q_336) (fun z19 σ F15 A16 H hS17 hA18 pz19_0 => ⟨rfl, ?_⟩))
            refine Ew_of (pcₚ := 337) (fun _ => x_lstore rfl) ?_
            refine Ew_of (pcₚ := 339) (fun _ => x_lload rfl rk2_s) ?_
            refine Ew_of (pcₚ := 341) (fun _ => x_lload rfl rk2_s) ?_
            refine Ew_of (pcₚ := 343) (fun _ => x_bipush (z := 16) rfl (by decide)) ?_
            refine w_lshrA rfl (fun z20 gz20 => ?_)
            refine w_lxorA rfl (fun z21 gz21 => ?_)
            exact w_lreturn rfl (k (z21) σ _ _ H (SF_trans (SF_trans (SF_trans (SF_trans (SF_refl) hS_222 (any_sub rfl)) hS_266 (any_sub rfl)) hS10 (any_sub rfl)) hS17 (any_sub rfl)) (SA_trans (SA_trans (SA_trans (SA_trans (SA_refl) hA_222 (any_subA rfl)) hA_266 (any_subA rfl)) hA11 (any_subA rfl)) hA18 (any_subA rfl)) (show inrJ (z21) from gz21))
          · refine Ew_of (pcₚ := 274) (fun _ => x_lload rfl l266_16) ?_
            refine Ew_of (pcₚ := 275) (fun _ => x_aload_n rfl l266_1) ?_
            refine Ew_of (pcₚ := 277) (fun _ => x_iload rfl l266_15) ?_
            refine w_lI H (o := 22) (n := 65536) rfl (H.perm 22 rfl) rfl rfl (H.fix 22 rfl rfl) (show 0 ≤ x266_15 ∧ x266_15 < ((65536 : Nat) : Int) from q_373 b5 h2 j222_2 j266_2) (by decide) (fun v22 ev22 qv22 => ?_)
            have qv22 : (0 : Int) ≤ v22 ∧ v22 ≤ 255 := qv22
            have ev22 : (A 22) (x266_15) = v22 := (congrFun ((funext (hA_266 22 rfl)).trans (funext (hA_222 22 rfl))) (x266_15)).symm.trans ev22
            refine w_i2l rfl (show inr (v22) from q_38 qv22) ?_
            refine Ew_of (pcₚ := 281) (fun _ => x_lload rfl l266_12) ?_
            refine w_stat24 rfl rfl (by rfl) (M357 H (show inrJ (v22) from q_194 qv22) (show inrJ (374761393) from q_338) (fun z27 σ F23 A24 H hS25 hA26 pz27_0 => ⟨rfl, ?_⟩))
            refine w_laddA rfl (fun z28 gz28 => ?_)
            refine Ew_of (pcₚ := 288) (fun _ => x_ldc2 (z := 4294967295) rfl (by decide)) ?_
            refine w_land rfl (show inrJ (z28) from gz28) (show inrJ (4294967295) from q_50) (fun z29 gz29 gaz29 gbz29 => ?_)
            refine Ew_of (pcₚ := 291) (fun _ => x_bipush (z := 11) rfl (by decide)) ?_
            refine w_stat24 rfl rfl (by rfl) (M356 H (show inrJ (z29) from gz29) (show inr (11) from q_67) (fun z34 σ F30 A31 H hS32 hA33 pz34_0 => ⟨rfl, ?_⟩))
            refine Ew_of (pcₚ := 296) (fun _ => x_lload rfl l266_4) ?_
            refine w_stat24 rfl rfl (by rfl) (M357 H (show inrJ (z34) from pz34_0) (show inrJ (2654435761) from q_339) (fun z39 σ F35 A36 H hS37 hA38 pz39_0 => ⟨rfl, ?_⟩))
            refine Ew_of (pcₚ := 301) (fun _ => x_lstore rfl) ?_
            refine Ew_of (pcₚ := 304) (fun _ => x_iinc (len := 3) rfl (rk2_o (l266_15) rfl rfl)) ?_
            refine Ew_of (pcₚ := 266) (fun _ => x_goto rfl rfl) ?_
            exact ih266 _ (msE hm266 q_31 (q_34 b5)) _ σ _ _ ((x266_15 + 1)) (z39) (rk_o (rk2_o (l266_1) rfl rfl) rfl rfl) (rk_o (rk2_o (l266_3) rfl rfl) rfl rfl) (rk_o (rk2_o (l266_4) rfl rfl) rfl rfl) (rk_o (rk2_o (l266_6) rfl rfl) rfl rfl) (rk_o (rk2_o (l266_8) rfl rfl) rfl rfl) (rk_o (rk2_o (l266_12) rfl rfl) rfl rfl) (rk_s) (rk_o (rk2_s) rfl rfl) H (SF_trans (SF_trans (SF_trans (hS_266) hS25 (any_sub rfl)) hS32 (any_sub rfl)) hS37 (any_sub rfl)) (SA_trans (SA_trans (SA_trans (hA_266) hA26 (any_subA rfl)) hA33 (any_subA rfl)) hA38 (any_subA rfl))   (show inr ((x266_15 + 1)) from q_106 b5 h2 j266_0) (show inrJ (z39) from pz39_0) (show (x222_15) ≤ ((x266_15 + 1)) from q_105 j266_2) (show ((x266_15 + 1)) ≤ (x222_15) ∨ ((x266_15 + 1)) ≤ ((a3)) from q_104 b5) rfl
      · refine Ew_of (pcₚ := 232) (fun _ => x_lload rfl l222_16) ?_
        refine Ew_of (pcₚ := 233) (fun _ => x_aload_n rfl l222_1) ?_
        refine Ew_of (pcₚ := 235) (fun _ => x_iload rfl l222_15) ?_
        refine w_stat24 rfl rfl (by rfl) (M358_22 H (show inr (x222_15) from j222_0) (show 0 ≤ (x222_15) ∧ (x222_15) + 3 < 65536 from q_374 b4 h2 j222_2) (fun z44 σ F40 A41 H hS42 hA43 pz44_0 => ⟨rfl, ?_⟩))
        refine Ew_of (pcₚ := 240) (fun _ => x_lload rfl l222_8) ?_
        refine w_stat24 rfl rfl (by rfl) (M357 H (show inrJ (z44) from pz44_0) (show inrJ (3266489917) from q_336) (fun z49 σ F45 A46 H hS47 hA48 pz49_0 => ⟨rfl, ?_⟩))
        refine w_laddA rfl (fun z50 gz50 => ?_)
        refine Ew_of (pcₚ := 247) (fun _ => x_ldc2 (z := 4294967295) rfl (by decide)) ?_
        refine w_land rfl (show inrJ (z50) from gz50) (show inrJ (4294967295) from q_50) (fun z51 gz51 gaz51 gbz51 => ?_)
        refine Ew_of (pcₚ := 250) (fun _ => x_bipush (z := 17) rfl (by decide)) ?_
        refine w_stat24 rfl rfl (by rfl) (M356 H (show inrJ (z51) from gz51) (show inr (17) from q_342) (fun z56 σ F52 A53 H hS54 hA55 pz56_0 => ⟨rfl, ?_⟩))
        refine Ew_of (pcₚ := 255) (fun _ => x_lload rfl l222_10) ?_
        refine w_stat24 rfl rfl (by rfl) (M357 H (show inrJ (z56) from pz56_0) (show inrJ (668265263) from q_343) (fun z61 σ F57 A58 H hS59 hA60 pz61_0 => ⟨rfl, ?_⟩))
        refine Ew_of (pcₚ := 260) (fun _ => x_lstore rfl) ?_
        refine Ew_of (pcₚ := 263) (fun _ => x_iinc (len := 3) rfl (rk2_o (l222_15) rfl rfl)) ?_
        refine Ew_of (pcₚ := 222) (fun _ => x_goto rfl rfl) ?_
        exact ih222 _ (msE hm222 q_346 (q_347 b4)) _ σ _ _ ((x222_15 + 4)) (z61) (rk_o (rk2_o (l222_1) rfl rfl) rfl rfl) (rk_o (rk2_o (l222_3) rfl rfl) rfl rfl) (rk_o (rk2_o (l222_4) rfl rfl) rfl rfl) (rk_o (rk2_o (l222_6) rfl rfl) rfl rfl) (rk_o (rk2_o (l222_8) rfl rfl) rfl rfl) (rk_o (rk2_o (l222_10) rfl rfl) rfl rfl) (rk_o (rk2_o (l222_12) rfl rfl) rfl rfl) (rk_s) (rk_o (rk2_s) rfl rfl) H (SF_trans (SF_trans (SF_trans (SF_trans (hS_222) hS42 (any_sub rfl)) hS47 (any_sub rfl)) hS54 (any_sub rfl)) hS59 (any_sub rfl)) (SA_trans (SA_trans (SA_trans (SA_trans (hA_222) hA43 (any_subA rfl)) hA48 (any_subA rfl)) hA55 (any_subA rfl)) hA60 (any_subA rfl))   (show inr ((x222_15 + 4)) from q_375 b4 h2 j222_0) (show inrJ (z61) from pz61_0) (show (a2) ≤ ((x222_15 + 4)) ∧ ((x222_15 + 4)) ≤ (a3) from q_344 b4 j222_2) rfl
  · refine Ew_of (pcₚ := 45) (fun _ => x_aload_n rfl (rk2_o (rk_o (rk_o (rk2_o (rk2_o (rk2_o (rk2_o (rk2_o (rfl) rfl rfl) rfl rfl) rfl rfl) rfl rfl) rfl rfl) rfl rfl) rfl rfl) rfl rfl)) ?_
    refine w_gT H (o := 3) (t := 17) rfl (H.perm 3 rfl) rfl rfl rfl rfl rfl rfl ?_
    refine Ew_of (pcₚ := 49) (fun _ => x_iconst rfl) ?_
    refine Ew_of (pcₚ := 51) (fun _ => x_lload rfl (rk2_o (rk_o (rk_o (rk2_o (rk2_o (rk2_o (rk2_o (rk2_s) rfl rfl) rfl rfl) rfl rfl) rfl rfl) rfl rfl) rfl rfl) rfl rfl)) ?_
    refine Ew_of (pcₚ := 53) (fun _ => x_lload rfl (rk2_o (rk_o (rk_o (rk2_o (rk2_o (rk2_o (rk2_s) rfl rfl) rfl rfl) rfl rfl) rfl rfl) rfl rfl) rfl rfl)) ?_
    refine w_laddA rfl (fun z62 gz62 => ?_)
    refine Ew_of (pcₚ := 57) (fun _ => x_ldc2 (z := 4294967295) rfl (by decide)) ?_
    refine w_land rfl (show inrJ (z62) from gz62) (show inrJ (4294967295) from q_50) (fun z63 gz63 gaz63 gbz63 => ?_)
    refine w_sJ H (o := 17) (n := 4) rfl (H.perm 17 rfl) rfl rfl (H.fix 17 rfl rfl) (show 0 ≤ 0 ∧ 0 < ((4 : Nat) : Int) from q_348) (by decide) (show (-9223372036854775808 : Int) ≤ z63 ∧ z63 ≤ 9223372036854775807 by omega) (fun σ H => ?_)
    refine Ew_of (pcₚ := 60) (fun _ => x_aload_n rfl (rk2_o (rk_o (rk_o (rk2_o (rk2_o (rk2_o (rk2_o (rk2_o (rfl) rfl rfl) rfl rfl) rfl rfl) rfl rfl) rfl rfl) rfl rfl) rfl rfl) rfl rfl)) ?_
    refine w_gT H (o := 3) (t := 17) rfl (H.perm 3 rfl) rfl rfl rfl rfl rfl rfl ?_
    refine Ew_of (pcₚ := 64) (fun _ => x_iconst rfl) ?_
    refine Ew_of (pcₚ := 66) (fun _ => x_lload rfl (rk2_o (rk_o (rk_o (rk2_o (rk2_o (rk2_o (rk2_s) rfl rfl) rfl rfl) rfl rfl) rfl rfl) rfl rfl) rfl rfl)) ?_
    refine w_sJ H (o := 17) (n := 4) rfl (H.perm 17 rfl) rfl rfl (H.fix 17 rfl rfl) (show 0 ≤ 1 ∧ 1 < ((4 : Nat) : Int) from q_350) (by decide) (show (-9223372036854775808 : Int) ≤ 2246822519 ∧ 2246822519 ≤ 9223372036854775807 from q_349) (fun σ H => ?_)
    refine Ew_of (pcₚ := 68) (fun _ => x_aload_n rfl (rk2_o (rk_o (rk_o (rk2_o (rk2_o (rk2_o (rk2_o (rk2_o (rfl) rfl rfl) rfl rfl) rfl rfl) rfl rfl) rfl rfl) rfl rfl) rfl rfl) rfl rfl)) ?_
    refine w_gT H (o := 3) (t := 17) rfl (H.perm 3 rfl) rfl rfl rfl rfl rfl rfl ?_
    refine Ew_of (pcₚ := 72) (fun _ => x_iconst rfl) ?_
    refine Ew_of (pcₚ := 73) (fun _ => x_lconst (z := 0) rfl (by decide)) ?_
    refine w_sJ H (o := 17) (n := 4) rfl (H.perm 17 rfl) rfl rfl (H.fix 17 rfl rfl) (show 0 ≤ 2 ∧ 2 < ((4 : Nat) : Int) from q_352) (by decide) (show (-9223372036854775808 : Int) ≤ 0 ∧ 0 ≤ 9223372036854775807 from q_351) (fun σ H => ?_)
    refine Ew_of (pcₚ := 75) (fun _ => x_aload_n rfl (rk2_o (rk_o (rk_o (rk2_o (rk2_o (rk2_o (rk2_o (rk2_o (rfl) rfl rfl) rfl rfl) rfl rfl) rfl rfl) rfl rfl) rfl rfl) rfl rfl) rfl rfl)) ?_
    refine w_gT H (o := 3) (t := 17) rfl (H.perm 3 rfl) rfl rfl rfl rfl rfl rfl ?_
    refine Ew_of (pcₚ := 79) (fun _ => x_iconst rfl) ?_
    refine Ew_of (pcₚ := 80) (fun _ => x_lconst (z := 0) rfl (by decide)) ?_
    refine Ew_of (pcₚ := 82) (fun _ => x_lload rfl (rk2_o (rk_o (rk_o (rk2_o (rk2_o (rk2_o (rk2_o (rk2_s) rfl rfl) rfl rfl) rfl rfl) rfl rfl) rfl rfl) rfl rfl) rfl rfl)) ?_
    refine w_lsubA rfl (fun z64 gz64 => ?_)
    refine Ew_of (pcₚ := 86) (fun _ => x_ldc2 (z := 4294967295) rfl (by decide)) ?_
    refine w_land rfl (show inrJ (z64) from gz64) (show inrJ (4294967295) from q_50) (fun z65 gz65 gaz65 gbz65 => ?_)
    refine w_sJ H (o := 17) (n := 4) rfl (H.perm 17 rfl) rfl rfl (H.fix 17 rfl rfl) (show 0 ≤ 3 ∧ 3 < ((4 : Nat) : Int) from q_353) (by decide) (show (-9223372036854775808 : Int) ≤ z65 ∧ z65 ≤ 9223372036854775807 by omega) (fun σ H => ?_)
    suffices hl88 : ∀ (m : Nat), ∀ (ls : rO) (σ : rS) (F_88 : hF) (A_88 : hA) (x88_15 : Int), rlook ls 0 = some (.ref (D 3)) → rlook ls 1 = some (.ref (D 22)) → rlook ls 3 = some (I (a3)) → rlook ls 4 = some (J (2654435761)) → rlook ls 6 = some (J (2246822519)) → rlook ls 8 = some (J (3266489917)) → rlook ls 10 = some (J (668265263)) → rlook ls 12 = some (J (374761393)) → rlook ls 14 = some (I ((a3 - a2))) → rlook ls 15 = some (I (x88_15)) → HS σ0 σ D N F_88 A_88 → SF [] F F_88 → SA [17] (updA (updA (updA (updA A 17 (0) (z63)) 17 (1) (2246822519)) 17 (2) (0)) 17 (3) (z65)) A_88 → (inr (x88_15)) → ((a2) ≤ (x88_15) ∧ (x88_15) ≤ (a3)) → ((a3) - (x88_15)).toNat = m → Ew 359 (d + 1) 88 ls [] σ c s Q from
      hl88 _ _ σ _ _ (a2) (rk2_o (rk_o (rk_o (rk2_o (rk2_o (rk2_o (rk2_o (rk2_o (rfl) rfl rfl) rfl rfl) rfl rfl) rfl rfl) rfl rfl) rfl rfl) rfl rfl) rfl rfl) (rk2_o (rk_o (rk_o (rk2_o (rk2_o (rk2_o (rk2_o (rk2_o (rfl) rfl rfl) rfl rfl) rfl rfl) rfl rfl) rfl rfl) rfl rfl) rfl rfl) rfl rfl) (rk2_o (rk_o (rk_o (rk2_o (rk2_o (rk2_o (rk2_o (rk2_o (rfl) rfl rfl) rfl rfl) rfl rfl) rfl rfl) rfl rfl) rfl rfl) rfl rfl) rfl rfl) (rk2_o (rk_o (rk_o (rk2_o (rk2_o (rk2_o (rk2_o (rk2_s) rfl rfl) rfl rfl) rfl rfl) rfl rfl) rfl rfl) rfl rfl) rfl rfl) (rk2_o (rk_o (rk_o (rk2_o (rk2_o (rk2_o (rk2_s) rfl rfl) rfl rfl) rfl rfl) rfl rfl) rfl rfl) rfl rfl) (rk2_o (rk_o (rk_o (rk2_o (rk2_o (rk2_s) rfl rfl) rfl rfl) rfl rfl) rfl rfl) rfl rfl) (rk2_o (rk_o (rk_o (rk2_o (rk2_s) rfl rfl) rfl rfl) rfl rfl) rfl rfl) (rk2_o (rk_o (rk_o (rk2_s) rfl rfl) rfl rfl) rfl rfl) (rk2_o (rk_o (rk_s) rfl rfl) rfl rfl) (rk2_o (rk_s) rfl rfl) H (SF_refl) (SA_refl)   (show inr (a2) from h0) (show (a2) ≤ (a2) ∧ (a2) ≤ (a3) from q_372 h2) rfl
    as_aux_lemma =>
    intro m
    induction m using Nat.strongRecOn with
    | _ m ih88 =>
      intro ls σ F_88 A_88 x88_15 l88_0 l88_1 l88_3 l88_4 l88_6 l88_8 l88_10 l88_12 l88_14 l88_15 H hS_88 hA_88   j88_0 j88_1 hm88
      refine Ew_of (pcₚ := 89) (fun _ => x_iload_n rfl l88_3) ?_
      refine Ew_of (pcₚ := 91) (fun _ => x_iload rfl l88_15) ?_
      refine w_isub rfl ?_
      refine Ew_of (pcₚ := 94) (fun _ => x_bipush (z := 16) rfl (by decide)) ?_
      refine w_icmplt (t := 158) rfl rfl (show inr ((a3 - x88_15)) from q_376 h2 j88_1) (show inr (16) from q_86) (fun b66 => ?_) (fun b66 => ?_)
      · refine Ew_of (pcₚ := 159) (fun _ => x_aload_n rfl l88_0) ?_
        refine w_gT H (o := 3) (t := 17) rfl (H.perm 3 rfl) rfl rfl rfl rfl rfl rfl ?_
        refine Ew_of (pcₚ := 163) (fun _ => x_iconst rfl) ?_
        refine w_lJ H (o := 17) (n := 4) rfl (H.perm 17 rfl) rfl rfl (H.fix 17 rfl rfl) (show 0 ≤ 0 ∧ 0 < ((4 : Nat) : Int) from q_348) (by decide) (fun v67 ev67 qv67 => ?_)
        have qv67 : (-9223372036854775808 : Int) ≤ v67 ∧ v67 ≤ 9223372036854775807 := qv67
        have ev67 : (A_88 17) (0) = v67 := (congrFun (rfl : A_88 17 = A_88 17) (0)).symm.trans ev67
        refine Ew_of (pcₚ := 165) (fun _ => x_iconst rfl) ?_
        refine w_stat24 rfl rfl (by rfl) (M356 H (show inrJ (v67) by omega) (show inr (1) from q_23) (fun z72 σ F68 A69 H hS70 hA71 pz72_0 => ⟨rfl, ?_⟩))
        refine Ew_of (pcₚ := 169) (fun _ => x_aload_n rfl l88_0) ?_
        refine w_gT H (o := 3) (t := 17) rfl (H.perm 3 rfl) rfl rfl rfl rfl rfl rfl ?_
        refine Ew_of (pcₚ := 173) (fun _ => x_iconst rfl) ?_
        refine w_lJ H (o := 17) (n := 4) rfl (H.perm 17 rfl) rfl rfl (H.fix 17 rfl rfl) (show 0 ≤ 1 ∧ 1 < ((4 : Nat) : Int) from q_350) (by decide) (fun v73 ev73 qv73 => ?_)
        have qv73 : (-9223372036854775808 : Int) ≤ v73 ∧ v73 ≤ 9223372036854775807 := qv73
        have ev73 : (A_88 17) (1) = v73 := (congrFun (funext (hA71 17 rfl)) (1)).symm.trans ev73
        refine Ew_of (pcₚ := 176) (fun _ => x_bipush (z := 7) rfl (by decide)) ?_
        refine w_stat24 rfl rfl (by rfl) (M356 H (show inrJ (v73) by omega) (show inr (7) from q_355) (fun z78 σ F74 A75 H hS76 hA77 pz78_0 => ⟨rfl, ?_⟩))
        refine w_laddA rfl (fun z79 gz79 => ?_)
        refine Ew_of (pcₚ := 181) (fun _ => x_aload_n rfl l88_0) ?_
        refine w_gT H (o := 3) (t := 17) rfl (H.perm 3 rfl) rfl rfl rfl rfl rfl rfl ?_
        refine Ew_of (pcₚ := 185) (fun _ => x_iconst rfl) ?_
        refine w_lJ H (o := 17) (n := 4) rfl (H.perm 17 rfl) rfl rfl (H.fix 17 rfl rfl) (show 0 ≤ 2 ∧ 2 < ((4 : Nat) : Int) from q_352) (by decide) (fun v80 ev80 qv80 => ?_)
        have qv80 : (-9223372036854775808 : Int) ≤ v80 ∧ v80 ≤ 9223372036854775807 := qv80
        have ev80 : (A_88 17) (2) = v80 := (congrFun ((funext (hA77 17 rfl)).trans (funext (hA71 17 rfl))) (2)).symm.trans ev80
        refine Ew_of (pcₚ := 188) (fun _ => x_bipush (z := 12) rfl (by decide)) ?_
        refine w_stat24 rfl rfl (by rfl) (M356 H (show inrJ (v80) by omega) (show inr (12) from q_356) (fun z85 σ F81 A82 H hS83 hA84 pz85_0 => ⟨rfl, ?_⟩))
        refine w_laddA rfl (fun z86 gz86 => ?_)
        refine Ew_of (pcₚ := 193) (fun _ => x_aload_n rfl l88_0) ?_
        refine w_gT H (o := 3) (t := 17) rfl (H.perm 3 rfl) rfl rfl rfl rfl rfl rfl ?_
        refine Ew_of (pcₚ := 197) (fun _ => x_iconst rfl) ?_
        refine w_lJ H (o := 17) (n := 4) rfl (H.perm 17 rfl) rfl rfl (H.fix 17 rfl rfl) (show 0 ≤ 3 ∧ 3 < ((4 : Nat) : Int) from q_353) (by decide) (fun v87 ev87 qv87 => ?_)
        have qv87 : (-9223372036854775808 : Int) ≤ v87 ∧ v87 ≤ 9223372036854775807 := qv87
        have ev87 : (A_88 17) (3) = v87 := (congrFun ((funext (hA84 17 rfl)).trans ((funext (hA77 17 rfl)).trans (funext (hA71 17 rfl)))) (3)).symm.trans ev87
        refine Ew_of (pcₚ := 200) (fun _ => x_bipush (z := 18) rfl (by decide)) ?_
        refine w_stat24 rfl rfl (by rfl) (M356 H (show inrJ (v87) by omega) (show inr (18) from q_357) (fun z92 σ F88 A89 H hS90 hA91 pz92_0 => ⟨rfl, ?_⟩))
        refine w_laddA rfl (fun z93 gz93 => ?_)
        refine Ew_of (pcₚ := 207) (fun _ => x_ldc2 (z := 4294967295) rfl (by decide)) ?_
        refine w_land rfl (show inrJ (z93) from gz93) (show inrJ (4294967295) from q_50) (fun z94 gz94 gaz94 gbz94 => ?_)
        refine Ew_of (pcₚ := 210) (fun _ => x_lstore rfl) ?_
        refine Ew_of (pcₚ := 212) (fun _ => x_lload rfl rk2_s) ?_
        refine Ew_of (pcₚ := 214) (fun _ => x_iload rfl (rk2_o (l88_14) rfl rfl)) ?_
        refine w_i2l rfl (show inr ((a3 - a2)) from q_377 b1 h2) ?_
        refine w_laddA rfl (fun z95 gz95 => ?_)
        refine Ew_of (pcₚ := 219) (fun _ => x_ldc2 (z := 4294967295) rfl (by decide)) ?_
        refine w_land rfl (show inrJ (z95) from gz95) (show inrJ (4294967295) from q_50) (fun z96 gz96 gaz96 gbz96 => ?_)
        refine Ew_of (pcₚ := 222) (fun _ => x_lstore rfl) ?_
        suffices hl222 : ∀ (m : Nat), ∀ (ls : rO) (σ : rS) (F_222 : hF) (A_222 : hA) (x222_15 : Int) (x222_16 : Int), rlook ls 1 = some (.ref (D 22)) → rlook ls 3 = some (I (a3)) → rlook ls 4 = some (J (2654435761)) → rlook ls 6 = some (J (2246822519)) → rlook ls 8 = some (J (3266489917)) → rlook ls 10 = some (J (668265263)) → rlook ls 12 = some (J (374761393)) → rlook ls 15 = some (I (x222_15)) → rlook ls 16 = some (J (x222_16)) → HS σ0 σ D N F_222 A_222 → SF [] F88 F_222 → SA [] A89 A_222 → (inr (x222_15)) → (inrJ (x222_16)) → ((a2) ≤ (x222_15) ∧ (x222_15) ≤ (a3)) → ((a3) - (x222_15)).toNat = m → Ew 359 (d + 1) 222 ls [] σ c s Q from
          hl222 _ _ σ _ _ (x88_15) (z96) (rk2_o (rk2_o (l88_1) rfl rfl) rfl rfl) (rk2_o (rk2_o (l88_3) rfl rfl) rfl rfl) (rk2_o (rk2_o (l88_4) rfl rfl) rfl rfl) (rk2_o (rk2_o (l88_6) rfl rfl) rfl rfl) (rk2_o (rk2_o (l88_8) rfl rfl) rfl rfl) (rk2_o (rk2_o (l88_10) rfl rfl) rfl rfl) (rk2_o (rk2_o (l88_12) rfl rfl) rfl rfl) (rk2_o (rk2_o (l88_15) rfl rfl) rfl rfl) (rk2_s) H (SF_refl) (SA_refl)   (show inr (x88_15) from j88_0) (show inrJ (z96) from gz96) (show (a2) ≤ (x88_15) ∧ (x88_15) ≤ (a3) from j88_1) rfl
        as_aux_lemma =>
        intro m
        induction m using Nat.strongRecOn with
        | _ m ih222 =>
          intro ls σ F_222 A_222 x222_15 x222_16 l222_1 l222_3 l222_4 l222_6 l222_8 l222_10 l222_12 l222_15 l222_16 H hS_222 hA_222   j222_0 j222_1 j222_2 hm222
          refine Ew_of (pcₚ := 223) (fun _ => x_iload_n rfl l222_3) ?_
          refine Ew_of (pcₚ := 225) (fun _ => x_iload rfl l222_15) ?_
          refine w_isub rfl ?_
          refine Ew_of (pcₚ := 227) (fun _ => x_iconst rfl) ?_
          refine w_icmplt (t := 266) rfl rfl (show inr ((a3 - x222_15)) from q_376 h2 j222_2) (show inr (4) from q_2) (fun b97 => ?_) (fun b97 => ?_)
          · suffices hl266 : ∀ (m : Nat), ∀ (ls : rO) (σ : rS) (F_266 : hF) (A_266 : hA) (x266_15 : Int) (x266_16 : Int), rlook ls 1 = some (.ref (D 22)) → rlook ls 3 = some (I (a3)) → rlook ls 4 = some (J (2654435761)) → rlook ls 6 = some (J (2246822519)) → rlook ls 8 = some (J (3266489917)) → rlook ls 12 = some (J (374761393)) → rlook ls 15 = some (I (x266_15)) → rlook ls 16 = some (J (x266_16)) → HS σ0 σ D N F_266 A_266 → SF [] F_222 F_266 → SA [] A_222 A_266 → (inr (x266_15)) → (inrJ (x266_16)) → ((x222_15) ≤ (x266_15)) → ((x266_15) ≤ (x222_15) ∨ (x266_15) ≤ ((a3))) → (((a3)) - (x266_15)).toNat = m → Ew 359 (d + 1) 266 ls [] σ c s Q from
              hl266 _ _ σ _ _ (x222_15) (x222_16) (l222_1) (l222_3) (l222_4) (l222_6) (l222_8) (l222_12) (l222_15) (l222_16) H (SF_refl) (SA_refl)   (show inr (x222_15) from j222_0) (show inrJ (x222_16) from j222_1) (show (x222_15) ≤ (x222_15) from q_102) (show (x222_15) ≤ (x222_15) ∨ (x222_15) ≤ ((a3)) from q_101) rfl
            as_aux_lemma =>
            intro m
            induction m using Nat.strongRecOn with
            | _ m ih266 =>
              intro ls σ F_266 A_266 x266_15 x266_16 l266_1 l266_3 l266_4 l266_6 l266_8 l266_12 l266_15 l266_16 H hS_266 hA_266   j266_0 j266_1 j266_2 j266_3 hm266
              refine Ew_of (pcₚ := 268) (fun _ => x_iload rfl l266_15) ?_
              refine Ew_of (pcₚ := 269) (fun _ => x_iload_n rfl l266_3) ?_
              refine w_icmpge (t := 307) rfl rfl (show inr (x266_15) from j266_0) (show inr (a3) from h1) (fun b98 => ?_) (fun b98 => ?_)
              · refine Ew_of (pcₚ := 309) (fun _ => x_lload rfl l266_16) ?_
                refine Ew_of (pcₚ := 311) (fun _ => x_lload rfl l266_16) ?_
                refine Ew_of (pcₚ := 313) (fun _ => x_bipush (z := 15) rfl (by decide)) ?_
                refine w_lshrA rfl (fun z99 gz99 => ?_)
                refine w_lxorA rfl (fun z100 gz100 => ?_)
                refine Ew_of (pcₚ := 317) (fun _ => x_lload rfl l266_6) ?_
                refine w_stat24 rfl rfl (by rfl) (M357 H (show inrJ (z100) from gz100) (show inrJ (2246822519) from q_335) (fun z105 σ F101 A102 H hS103 hA104 pz105_0 => ⟨rfl, ?_⟩))
                refine Ew_of (pcₚ := 322) (fun _ => x_lstore rfl) ?_
                refine Ew_of (pcₚ := 324) (fun _ => x_lload rfl rk2_s) ?_
                refine Ew_of (pcₚ := 326) (fun _ => x_lload rfl rk2_s) ?_
                refine Ew_of (pcₚ := 328) (fun _ => x_bipush (z := 13) rfl (by decide)) ?_
                refine w_lshrA rfl (fun z106 gz106 => ?_)
                refine w_lxorA rfl (fun z107 gz107 => ?_)
                refine Ew_of (pcₚ := 332) (fun _ => x_lload rfl (rk2_o (l266_8) rfl rfl)) ?_
                refine w_stat24 rfl rfl (by rfl) (M357 H (show inrJ (z107) from gz107) (show inrJ (3266489917) from q_336) (fun z112 σ F108 A109 H hS110 hA111 pz112_0 => ⟨rfl, ?_⟩))
                refine Ew_of (pcₚ := 337) (fun _ => x_lstore rfl) ?_
                refine Ew_of (pcₚ := 339) (fun _ => x_lload rfl rk2_s) ?_
                refine Ew_of (pcₚ := 341) (fun _ => x_lload rfl rk2_s) ?_
                refine Ew_of (pcₚ := 343) (fun _ => x_bipush (z := 16) rfl (by decide)) ?_
                refine w_lshrA rfl (fun z113 gz113 => ?_)
                refine w_lxorA rfl (fun z114 gz114 => ?_)
                exact w_lreturn rfl (k (z114) σ _ _ H (SF_trans (SF_trans (SF_trans (SF_trans (SF_trans (SF_trans (SF_trans (SF_trans (SF_trans (SF_refl) hS_88 (any_sub rfl)) hS70 (any_sub rfl)) hS76 (any_sub rfl)) hS83 (any_sub rfl)) hS90 (any_sub rfl)) hS_222 (any_sub rfl)) hS_266 (any_sub rfl)) hS103 (any_sub rfl)) hS110 (any_sub rfl)) (SA_trans (SA_trans (SA_trans (SA_trans (SA_trans (SA_trans (SA_trans (SA_trans (SA_trans (SA_upd (SA_upd (SA_upd (SA_upd (SA_refl) rfl) rfl) rfl) rfl) hA_88 (any_subA rfl)) hA71 (any_subA rfl)) hA77 (any_subA rfl)) hA84 (any_subA rfl)) hA91 (any_subA rfl)) hA_222 (any_subA rfl)) hA_266 (any_subA rfl)) hA104 (any_subA rfl)) hA111 (any_subA rfl)) (show inrJ (z114) from gz114))
              · refine Ew_of (pcₚ := 274) (fun _ => x_lload rfl l266_16) ?_
                refine Ew_of (pcₚ := 275) (fun _ => x_aload_n rfl l266_1) ?_
                refine Ew_of (pcₚ := 277) (fun _ => x_iload rfl l266_15) ?_
                refine w_lI H (o := 22) (n := 65536) rfl (H.perm 22 rfl) rfl rfl (H.fix 22 rfl rfl) (show 0 ≤ x266_15 ∧ x266_15 < ((65536 : Nat) : Int) from q_373 b98 h2 j222_2 j266_2) (by decide) (fun v115 ev115 qv115 => ?_)
                have qv115 : (0 : Int) ≤ v115 ∧ v115 ≤ 255 := qv115
                have ev115 : (A 22) (x266_15) = v115 := (congrFun ((funext (hA_266 22 rfl)).trans ((funext (hA_222 22 rfl)).trans ((funext (hA91 22 rfl)).trans ((funext (hA84 22 rfl)).trans ((funext (hA77 22 rfl)).trans ((funext (hA71 22 rfl)).trans (funext (hA_88 22 rfl)))))))) (x266_15)).symm.trans ev115
                refine w_i2l rfl (show inr (v115) from q_38 qv115) ?_
                refine Ew_of (pcₚ := 281) (fun _ => x_lload rfl l266_12) ?_
                refine w_stat24 rfl rfl (by rfl) (M357 H (show inrJ (v115) from q_194 qv115) (show inrJ (374761393) from q_338) (fun z120 σ F116 A117 H hS118 hA119 pz120_0 => ⟨rfl, ?_⟩))
                refine w_laddA rfl (fun z121 gz121 => ?_)
                refine Ew_of (pcₚ := 288) (fun _ => x_ldc2 (z := 4294967295) rfl (by decide)) ?_
                refine w_land rfl (show inrJ (z121) from gz121) (show inrJ (4294967295) from q_50) (fun z122 gz122 gaz122 gbz122 => ?_)
                refine Ew_of (pcₚ := 291) (fun _ => x_bipush (z := 11) rfl (by decide)) ?_
                refine w_stat24 rfl rfl (by rfl) (M356 H (show inrJ (z122) from gz122) (show inr (11) from q_67) (fun z127 σ F123 A124 H hS125 hA126 pz127_0 => ⟨rfl, ?_⟩))
                refine Ew_of (pcₚ := 296) (fun _ => x_lload rfl l266_4) ?_
                refine w_stat24 rfl rfl (by rfl) (M357 H (show inrJ (z127) from pz127_0) (show inrJ (2654435761) from q_339) (fun z132 σ F128 A129 H hS130 hA131 pz132_0 => ⟨rfl, ?_⟩))
                refine Ew_of (pcₚ := 301) (fun _ => x_lstore rfl) ?_
                refine Ew_of (pcₚ := 304) (fun _ => x_iinc (len := 3) rfl (rk2_o (l266_15) rfl rfl)) ?_
                refine Ew_of (pcₚ := 266) (fun _ => x_goto rfl rfl) ?_
                exact ih266 _ (msE hm266 q_31 (q_34 b98)) _ σ _ _ ((x266_15 + 1)) (z132) (rk_o (rk2_o (l266_1) rfl rfl) rfl rfl) (rk_o (rk2_o (l266_3) rfl rfl) rfl rfl) (rk_o (rk2_o (l266_4) rfl rfl) rfl rfl) (rk_o (rk2_o (l266_6) rfl rfl) rfl rfl) (rk_o (rk2_o (l266_8) rfl rfl) rfl rfl) (rk_o (rk2_o (l266_12) rfl rfl) rfl rfl) (rk_s) (rk_o (rk2_s) rfl rfl) H (SF_trans (SF_trans (SF_trans (hS_266) hS118 (any_sub rfl)) hS125 (any_sub rfl)) hS130 (any_sub rfl)) (SA_trans (SA_trans (SA_trans (hA_266) hA119 (any_subA rfl)) hA126 (any_subA rfl)) hA131 (any_subA rfl))   (show inr ((x266_15 + 1)) from q_106 b98 h2 j266_0) (show inrJ (z132) from pz132_0) (show (x222_15) ≤ ((x266_15 + 1)) from q_105 j266_2) (show ((x266_15 + 1)) ≤ (x222_15) ∨ ((x266_15 + 1)) ≤ ((a3)) from q_104 b98) rfl
          · refine Ew_of (pcₚ := 232) (fun _ => x_lload rfl l222_16) ?_
            refine Ew_of (pcₚ := 233) (fun _ => x_aload_n rfl l222_1) ?_
            refine Ew_of (pcₚ := 235) (fun _ => x_iload rfl l222_15) ?_
            refine w_stat24 rfl rfl (by rfl) (M358_22 H (show inr (x222_15) from j222_0) (show 0 ≤ (x222_15) ∧ (x222_15) + 3 < 65536 from q_374 b97 h2 j222_2) (fun z137 σ F133 A134 H hS135 hA136 pz137_0 => ⟨rfl, ?_⟩))
            refine Ew_of (pcₚ := 240) (fun _ => x_lload rfl l222_8) ?_
            refine w_stat24 rfl rfl (by rfl) (M357 H (show inrJ (z137) from pz137_0) (show inrJ (3266489917) from q_336) (fun z142 σ F138 A139 H hS140 hA141 pz142_0 => ⟨rfl, ?_⟩))
            refine w_laddA rfl (fun z143 gz143 => ?_)
            refine Ew_of (pcₚ := 247) (fun _ => x_ldc2 (z := 4294967295) rfl (by decide)) ?_
            refine w_land rfl (show inrJ (z143) from gz143) (show inrJ (4294967295) from q_50) (fun z144 gz144 gaz144 gbz144 => ?_)
            refine Ew_of (pcₚ := 250) (fun _ => x_bipush (z := 17) rfl (by decide)) ?_
            refine w_stat24 rfl rfl (by rfl) (M356 H (show inrJ (z144) from gz144) (show inr (17) from q_342) (fun z149 σ F145 A146 H hS147 hA148 pz149_0 => ⟨rfl, ?_⟩))
            refine Ew_of (pcₚ := 255) (fun _ => x_lload rfl l222_10) ?_
            refine w_stat24 rfl rfl (by rfl) (M357 H (show inrJ (z149) from pz149_0) (show inrJ (668265263) from q_343) (fun z154 σ F150 A151 H hS152 hA153 pz154_0 => ⟨rfl, ?_⟩))
            refine Ew_of (pcₚ := 260) (fun _ => x_lstore rfl) ?_
            refine Ew_of (pcₚ := 263) (fun _ => x_iinc (len := 3) rfl (rk2_o (l222_15) rfl rfl)) ?_
            refine Ew_of (pcₚ := 222) (fun _ => x_goto rfl rfl) ?_
            exact ih222 _ (msE hm222 q_346 (q_347 b97)) _ σ _ _ ((x222_15 + 4)) (z154) (rk_o (rk2_o (l222_1) rfl rfl) rfl rfl) (rk_o (rk2_o (l222_3) rfl rfl) rfl rfl) (rk_o (rk2_o (l222_4) rfl rfl) rfl rfl) (rk_o (rk2_o (l222_6) rfl rfl) rfl rfl) (rk_o (rk2_o (l222_8) rfl rfl) rfl rfl) (rk_o (rk2_o (l222_10) rfl rfl) rfl rfl) (rk_o (rk2_o (l222_12) rfl rfl) rfl rfl) (rk_s) (rk_o (rk2_s) rfl rfl) H (SF_trans (SF_trans (SF_trans (SF_trans (hS_222) hS135 (any_sub rfl)) hS140 (any_sub rfl)) hS147 (any_sub rfl)) hS152 (any_sub rfl)) (SA_trans (SA_trans (SA_trans (SA_trans (hA_222) hA136 (any_subA rfl)) hA141 (any_subA rfl)) hA148 (any_subA rfl)) hA153 (any_subA rfl))   (show inr ((x222_15 + 4)) from q_375 b97 h2 j222_0) (show inrJ (z154) from pz154_0) (show (a2) ≤ ((x222_15 + 4)) ∧ ((x222_15 + 4)) ≤ (a3) from q_344 b97 j222_2) rfl
      · refine Ew_of (pcₚ := 98) (fun _ => x_iconst rfl) ?_
        refine Ew_of (pcₚ := 100) (fun _ => x_istore rfl) ?_
        suffices hl100 : ∀ (m : Nat), ∀ (ls : rO) (σ : rS) (F_100 : hF) (A_100 : hA) (x100_15 : Int) (x100_18 : Int), rlook ls 0 = some (.ref (D 3)) → rlook ls 1 = some (.ref (D 22)) → rlook ls 3 = some (I (a3)) → rlook ls 4 = some (J (2654435761)) → rlook ls 6 = some (J (2246822519)) → rlook ls 8 = some (J (3266489917)) → rlook ls 10 = some (J (668265263)) → rlook ls 12 = some (J (374761393)) → rlook ls 14 = some (I ((a3 - a2))) → rlook ls 15 = some (I (x100_15)) → rlook ls 18 = some (I (x100_18)) → HS σ0 σ D N F_100 A_100 → SF [] F_88 F_100 → SA [17] A_88 A_100 → (inr (x100_15)) → (inr (x100_18)) → ((0) ≤ (x100_18)) → ((x100_18) ≤ (0) ∨ (x100_18) ≤ (4)) → ((x100_15) = (x88_15) + 4 * (x100_18)) → ((4) - (x100_18)).toNat = m → Ew 359 (d + 1) 100 ls [] σ c s Q from
          hl100 _ _ σ _ _ (x88_15) (0) (rk_o (l88_0) rfl rfl) (rk_o (l88_1) rfl rfl) (rk_o (l88_3) rfl rfl) (rk_o (l88_4) rfl rfl) (rk_o (l88_6) rfl rfl) (rk_o (l88_8) rfl rfl) (rk_o (l88_10) rfl rfl) (rk_o (l88_12) rfl rfl) (rk_o (l88_14) rfl rfl) (rk_o (l88_15) rfl rfl) (rk_s) H (SF_refl) (SA_refl)   (show inr (x88_15) from j88_0) (show inr (0) from q_20) (show (0) ≤ (0) from q_25) (show (0) ≤ (0) ∨ (0) ≤ (4) from q_360) (show (x88_15) = (x88_15) + 4 * (0) from q_359) rfl
        as_aux_lemma =>
        intro m
        induction m using Nat.strongRecOn with
        | _ m ih100 =>
          intro ls σ F_100 A_100 x100_15 x100_18 l100_0 l100_1 l100_3 l100_4 l100_6 l100_8 l100_10 l100_12 l100_14 l100_15 l100_18 H hS_100 hA_100   j100_0 j100_1 j100_2 j100_3 j100_4 hm100
          refine Ew_of (pcₚ := 102) (fun _ => x_iload rfl l100_18) ?_
          refine Ew_of (pcₚ := 103) (fun _ => x_iconst rfl) ?_
          refine w_icmpge (t := 155) rfl rfl (show inr (x100_18) from j100_1) (show inr (4) from q_2) (fun b155 => ?_) (fun b155 => ?_)
          · refine Ew_of (pcₚ := 88) (fun _ => x_goto rfl rfl) ?_
            exact ih88 _ (msE hm88 (q_361 b155 j100_4) (q_94 b66)) _ σ _ _ (x100_15) (l100_0) (l100_1) (l100_3) (l100_4) (l100_6) (l100_8) (l100_10) (l100_12) (l100_14) (l100_15) H (SF_trans (hS_88) hS_100 (any_sub rfl)) (SA_trans (hA_88) hA_100 (any_subA rfl))   (show inr (x100_15) from j100_0) (show (a2) ≤ (x100_15) ∧ (x100_15) ≤ (a3) by omega) rfl
          · refine Ew_of (pcₚ := 107) (fun _ => x_aload_n rfl l100_0) ?_
            refine w_gT H (o := 3) (t := 17) rfl (H.perm 3 rfl) rfl rfl rfl rfl rfl rfl ?_
            refine Ew_of (pcₚ := 112) (fun _ => x_iload rfl l100_18) ?_
            refine Ew_of (pcₚ := 113) (fun _ => x_aload_n rfl l100_0) ?_
            refine w_gT H (o := 3) (t := 17) rfl (H.perm 3 rfl) rfl rfl rfl rfl rfl rfl ?_
            refine Ew_of (pcₚ := 118) (fun _ => x_iload rfl l100_18) ?_
            refine w_lJ H (o := 17) (n := 4) rfl (H.perm 17 rfl) rfl rfl (H.fix 17 rfl rfl) (show 0 ≤ x100_18 ∧ x100_18 < ((4 : Nat) : Int) from q_362 b155 j100_2) (by decide) (fun v156 ev156 qv156 => ?_)
            have qv156 : (-9223372036854775808 : Int) ≤ v156 ∧ v156 ≤ 9223372036854775807 := qv156
            have ev156 : (A_100 17) (x100_18) = v156 := (congrFun (rfl : A_100 17 = A_100 17) (x100_18)).symm.trans ev156
            refine Ew_of (pcₚ := 120) (fun _ => x_aload_n rfl l100_1) ?_
            refine Ew_of (pcₚ := 122) (fun _ => x_iload rfl l100_15) ?_
            refine w_stat24 rfl rfl (by rfl) (M358_22 H (show inr (x100_15) from j100_0) (show 0 ≤ (x100_15) ∧ (x100_15) + 3 < 65536 from q_378 b155 b66 h2 j100_2 j100_4 j88_1) (fun z161 σ F157 A158 H hS159 hA160 pz161_0 => ⟨rfl, ?_⟩))
            refine Ew_of (pcₚ := 127) (fun _ => x_lload rfl l100_6) ?_
            refine w_stat24 rfl rfl (by rfl) (M357 H (show inrJ (z161) from pz161_0) (show inrJ (2246822519) from q_335) (fun z166 σ F162 A163 H hS164 hA165 pz166_0 => ⟨rfl, ?_⟩))
            refine w_laddA rfl (fun z167 gz167 => ?_)
            refine Ew_of (pcₚ := 134) (fun _ => x_ldc2 (z := 4294967295) rfl (by decide)) ?_
            refine w_land rfl (show inrJ (z167) from gz167) (show inrJ (4294967295) from q_50) (fun z168 gz168 gaz168 gbz168 => ?_)
            refine Ew_of (pcₚ := 137) (fun _ => x_bipush (z := 13) rfl (by decide)) ?_
            refine w_stat24 rfl rfl (by rfl) (M356 H (show inrJ (z168) from gz168) (show inr (13) from q_90) (fun z173 σ F169 A170 H hS171 hA172 pz173_0 => ⟨rfl, ?_⟩))
            refine Ew_of (pcₚ := 142) (fun _ => x_lload rfl l100_4) ?_
            refine w_stat24 rfl rfl (by rfl) (M357 H (show inrJ (z173) from pz173_0) (show inrJ (2654435761) from q_339) (fun z178 σ F174 A175 H hS176 hA177 pz178_0 => ⟨rfl, ?_⟩))
            refine w_sJ H (o := 17) (n := 4) rfl (H.perm 17 rfl) rfl rfl (H.fix 17 rfl rfl) (show 0 ≤ x100_18 ∧ x100_18 < ((4 : Nat) : Int) from q_362 b155 j100_2) (by decide) (show (-9223372036854775808 : Int) ≤ z178 ∧ z178 ≤ 9223372036854775807 by omega) (fun σ H => ?_)
            refine Ew_of (pcₚ := 149) (fun _ => x_iinc (len := 3) rfl (l100_15)) ?_
            refine Ew_of (pcₚ := 152) (fun _ => x_iinc (len := 3) rfl (rk_o (l100_18) rfl rfl)) ?_
            refine Ew_of (pcₚ := 100) (fun _ => x_goto rfl rfl) ?_
            exact ih100 _ (msE hm100 q_368 (q_369 b155)) _ σ _ _ ((x100_15 + 4)) ((x100_18 + 1)) (rk_o (rk_o (l100_0) rfl rfl) rfl rfl) (rk_o (rk_o (l100_1) rfl rfl) rfl rfl) (rk_o (rk_o (l100_3) rfl rfl) rfl rfl) (rk_o (rk_o (l100_4) rfl rfl) rfl rfl) (rk_o (rk_o (l100_6) rfl rfl) rfl rfl) (rk_o (rk_o (l100_8) rfl rfl) rfl rfl) (rk_o (rk_o (l100_10) rfl rfl) rfl rfl) (rk_o (rk_o (l100_12) rfl rfl) rfl rfl) (rk_o (rk_o (l100_14) rfl rfl) rfl rfl) (rk_o (rk_s) rfl rfl) (rk_s) H (SF_trans (SF_trans (SF_trans (SF_trans (hS_100) hS159 (any_sub rfl)) hS164 (any_sub rfl)) hS171 (any_sub rfl)) hS176 (any_sub rfl)) (SA_upd (SA_trans (SA_trans (SA_trans (SA_trans (hA_100) hA160 (any_subA rfl)) hA165 (any_subA rfl)) hA172 (any_subA rfl)) hA177 (any_subA rfl)) rfl)   (show inr ((x100_15 + 4)) from q_379 b155 b66 h2 j100_0 j100_4) (show inr ((x100_18 + 1)) from q_366 b155 j100_2) (show (0) ≤ ((x100_18 + 1)) from q_29 j100_2) (show ((x100_18 + 1)) ≤ (0) ∨ ((x100_18 + 1)) ≤ (4) from q_365 b155) (show ((x100_15 + 4)) = (x88_15) + 4 * ((x100_18 + 1)) from q_364 j100_4) rfl
