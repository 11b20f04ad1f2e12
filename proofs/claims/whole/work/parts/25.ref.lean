/-- Tokens.readPart -/
theorem M384 {σ0 σ : rS} {D N : Nat → Nat} {F : hF} {A : hA} {d c s : Nat} {Q : wQ} (H : HS σ0 σ D N F A) {a1 a2 a3 a4 a5 : Int} (u1_1 : Int) (eu1_1 : F 1 1 = u1_1) (u3_14 : Int) (eu3_14 : F 3 14 = u3_14) (u3_15 : Int) (eu3_15 : F 3 15 = u3_15) (h0 : inrJ (a1)) (h1 : inr (a2)) (h2 : inr (a3)) (h3 : inr (a4)) (h4 : inr (a5)) (h5 : 0 ≤ (a1) ∧ (a1) ≤ 4294967295) (h6 : 0 ≤ (u3_15) ∧ (u3_15) ≤ (u1_1)) (h7 : (u3_15) + 4 ≤ (u1_1)) (h8 : 0 ≤ (a3) ∧ (a3) ≤ 4194304) (h9 : 0 ≤ (a4) ∧ (a4) ≤ (u3_14) ∧ (u3_14) ≤ (a5) ∧ (a5) ≤ 65536) (k : ∀ (z : Int) σ F' A', HS σ0 σ D N F' A' → SF [(1, 4), (3, 12), (3, 14), (3, 15), (3, 16)] F F' → SA [17, 21, 22] A A' → ∀ y3_14 : Int, F' 3 14 = y3_14 → ∀ y3_15 : Int, F' 3 15 = y3_15 → (inr (z)) → (0 ≤ (z) ∧ (z) ≤ 20) → ((u3_14) ≤ (y3_14) ∧ (y3_14) ≤ (a5)) → ((z) ≠ 0 ∨ (u3_15) + 4 ≤ (y3_15) ∧ (y3_15) ≤ (u1_1)) → Q (some (I z)) σ c s) : Ew 384 (d + 2) 0 (rargs 0 [.ref (D 3), J a1, I a2, I a3, I a4, I a5]) [] σ c s Q := by
  have r1 : (0 : Int) ≤ u1_1 ∧ u1_1 ≤ 65536 := by have h1 : (0 : Int) ≤ F 1 1 ∧ F 1 1 ≤ 65536 := H.frng 1 1; rw [show F 1 1 = u1_1 from (eu1_1)] at h1; exact h1
  have r2 : (0 : Int) ≤ u3_14 ∧ u3_14 ≤ 65536 := by have h1 : (0 : Int) ≤ F 3 14 ∧ F 3 14 ≤ 65536 := H.frng 3 14; rw [show F 3 14 = u3_14 from (eu3_14)] at h1; exact h1
  have r3 : (-2147483648 : Int) ≤ u3_15 ∧ u3_15 ≤ 2147483647 := by have h1 : (-2147483648 : Int) ≤ F 3 15 ∧ F 3 15 ≤ 2147483647 := H.frng 3 15; rw [show F 3 15 = u3_15 from (eu3_15)] at h1; exact h1
  have hc13 : ∀ (tc13_0 : Int), ∀ (ls : rO) (σ : rS) (F_c13 : hF) (A_c13 : hA) , rlook ls 0 = some (.ref (D 3)) → rlook ls 1 = some (J (a1)) → rlook ls 3 = some (I (a2)) → rlook ls 4 = some (I (a3)) → rlook ls 5 = some (I (a4)) → rlook ls 6 = some (I (a5)) → HS σ0 σ D N F_c13 A_c13 → SF [] F F_c13 → SA [] A A_c13 → (inr (tc13_0)) → ((tc13_0) = 0 ∧ (a1) < 2147483648 ∨ (tc13_0) = 1 ∧ 2147483648 ≤ (a1)) → Ew 384 (d + 2) 13 ls [I (tc13_0)] σ c s Q := by
   as_aux_lemma =>
    intro tc13_0 ls σ F_c13 A_c13  lc13_0 lc13_1 lc13_3 lc13_4 lc13_5 lc13_6 H hS_c13 hA_c13   jc13_0 jc13_1
    refine Ew_of (pc' := 15) (fun _ => x_istore rfl) ?_
    refine Ew_of (pc' := 17) (fun _ => x_iload rfl rk_s) ?_
    refine w_ifeq (t := 28) rfl rfl (show inr (tc13_0) by omega) (fun b4 => ?_) (fun b4 => ?_)
    · refine Ew_of (pc' := 29) (fun _ => x_lload_n rfl (rk_o (lc13_1) rfl rfl)) ?_
      refine Ew_of (pc' := 31) (fun _ => x_lstore rfl) ?_
      refine Ew_of (pc' := 33) (fun _ => x_lload rfl rk2_s) ?_
      refine Ew_of (pc' := 35) (fun _ => x_iload rfl (rk2_o (rk_o (lc13_4) rfl rfl) rfl rfl)) ?_
      refine w_i2l rfl (show inr (a3) by omega) ?_
      refine w_lcmp rfl (show inrJ (a1) by omega) (show inrJ (a3) by omega) (fun z5 gz5 gaz5 gbz5 => ?_)
      refine w_ifle (t := 51) rfl rfl (show inr (z5) by omega) (fun b6 => ?_) (fun b6 => ?_)
      · refine Ew_of (pc' := 52) (fun _ => x_aload_n rfl (rk2_o (rk_o (lc13_0) rfl rfl) rfl rfl)) ?_
        refine Ew_of (pc' := 53) (fun _ => x_dup rfl rfl) ?_
        refine w_gI H (o := 3) (w := u3_15) rfl (H.perm 3 rfl) rfl rfl rfl (fun _ => rfl) ((hS_c13 3 15 rfl).trans (eu3_15)) ?_
        refine Ew_of (pc' := 57) (fun _ => x_iconst rfl) ?_
        refine w_iadd rfl ?_
        refine w_pI H (o := 3) rfl rfl (H.perm 3 rfl) rfl rfl rfl (fun _ => rfl) rfl (show (-2147483648 : Int) ≤ (u3_15 + 4) ∧ (u3_15 + 4) ≤ 2147483647 by omega) (fun σ H => ?_)
        refine Ew_of (pc' := 62) (fun _ => x_aload_n rfl (rk2_o (rk_o (lc13_0) rfl rfl) rfl rfl)) ?_
        refine w_gI H (o := 3) (w := (u3_15 + 4)) rfl (H.perm 3 rfl) rfl rfl rfl (fun _ => rfl) rfl ?_
        refine Ew_of (pc' := 67) (fun _ => x_istore rfl) ?_
        refine Ew_of (pc' := 69) (fun _ => x_lload rfl (rk_o (rk2_s) rfl rfl)) ?_
        refine Ew_of (pc' := 70) (fun _ => x_aload_n rfl (rk_o (rk2_o (rk_o (lc13_0) rfl rfl) rfl rfl) rfl rfl)) ?_
        refine w_gT H (o := 3) (t := 1) rfl (H.perm 3 rfl) rfl rfl rfl rfl rfl rfl ?_
        refine w_gI H (o := 1) (w := u1_1) rfl (H.perm 1 rfl) rfl rfl rfl (fun _ => rfl) ((hS_c13 1 1 rfl).trans (eu1_1)) ?_
        refine Ew_of (pc' := 77) (fun _ => x_aload_n rfl (rk_o (rk2_o (rk_o (lc13_0) rfl rfl) rfl rfl) rfl rfl)) ?_
        refine w_gI H (o := 3) (w := (u3_15 + 4)) rfl (H.perm 3 rfl) rfl rfl rfl (fun _ => rfl) rfl ?_
        refine w_isub rfl ?_
        refine w_i2l rfl (show inr ((u1_1 - (u3_15 + 4))) by omega) ?_
        refine w_lcmp rfl (show inrJ (a1) by omega) (show inrJ ((u1_1 - (u3_15 + 4))) by omega) (fun z7 gz7 gaz7 gbz7 => ?_)
        refine w_ifle (t := 99) rfl rfl (show inr (z7) by omega) (fun b8 => ?_) (fun b8 => ?_)
        · refine Ew_of (pc' := 101) (fun _ => x_iload rfl rk_s) ?_
          refine Ew_of (pc' := 103) (fun _ => x_lload rfl (rk_o (rk2_s) rfl rfl)) ?_
          refine w_l2i rfl ?_
          refine w_iadd rfl ?_
          refine Ew_of (pc' := 107) (fun _ => x_istore rfl) ?_
          refine Ew_of (pc' := 108) (fun _ => x_aload_n rfl (rk_o (rk_o (rk2_o (rk_o (lc13_0) rfl rfl) rfl rfl) rfl rfl) rfl rfl)) ?_
          refine Ew_of (pc' := 110) (fun _ => x_iload rfl rk_s) ?_
          refine w_pI H (o := 3) rfl rfl (H.perm 3 rfl) rfl rfl rfl (fun _ => rfl) rfl (show (-2147483648 : Int) ≤ ((u3_15 + 4) + a1) ∧ ((u3_15 + 4) + a1) ≤ 2147483647 by omega) (fun σ H => ?_)
          have hc190 : ∀ (ls : rO) (σ : rS) (F_c190 : hF) (A_c190 : hA) , rlook ls 0 = some (.ref (D 3)) → rlook ls 3 = some (I (a2)) → rlook ls 5 = some (I (a4)) → rlook ls 6 = some (I (a5)) → rlook ls 7 = some (I (tc13_0)) → rlook ls 8 = some (J (a1)) → rlook ls 10 = some (I ((u3_15 + 4))) → rlook ls 11 = some (I (((u3_15 + 4) + a1))) → HS σ0 σ D N F_c190 A_c190 → SF [(1, 4), (3, 15)] (updF (updF F_c13 3 15 ((u3_15 + 4))) 3 15 (((u3_15 + 4) + a1))) F_c190 → SA [17] A_c13 A_c190 → ∀ yc190_3_15 : Int, F_c190 3 15 = yc190_3_15 → ((((u3_15 + 4) + a1)) ≤ (yc190_3_15) ∧ (yc190_3_15) ≤ (u1_1)) → Ew 384 (d + 2) 190 ls [] σ c s Q := by
           as_aux_lemma =>
            intro  ls σ F_c190 A_c190  lc190_0 lc190_3 lc190_5 lc190_6 lc190_7 lc190_8 lc190_10 lc190_11 H hS_c190 hA_c190 yc190_3_15 eyc190_3_15  jc190_0
            have r9 : (-2147483648 : Int) ≤ yc190_3_15 ∧ yc190_3_15 ≤ 2147483647 := by have h1 : (-2147483648 : Int) ≤ F_c190 3 15 ∧ F_c190 3 15 ≤ 2147483647 := H.frng 3 15; rw [show F_c190 3 15 = yc190_3_15 from (eyc190_3_15)] at h1; exact h1
            refine Ew_of (pc' := 191) (fun _ => x_aload_n rfl lc190_0) ?_
            refine w_gI H (o := 3) (w := yc190_3_15) rfl (H.perm 3 rfl) rfl rfl rfl (fun _ => rfl) (eyc190_3_15) ?_
            refine Ew_of (pc' := 196) (fun _ => x_istore rfl) ?_
            refine Ew_of (pc' := 198) (fun _ => x_iload rfl (rk_o (lc190_6) rfl rfl)) ?_
            refine Ew_of (pc' := 199) (fun _ => x_aload_n rfl (rk_o (lc190_0) rfl rfl)) ?_
            refine w_gI H (o := 3) (w := u3_14) rfl (H.perm 3 rfl) rfl rfl rfl (fun _ => rfl) (((hS_c190 3 14 rfl).trans (hS_c13 3 14 rfl)).trans (eu3_14)) ?_
            refine w_isub rfl ?_
            refine Ew_of (pc' := 205) (fun _ => x_istore rfl) ?_
            refine Ew_of (pc' := 207) (fun _ => x_iload rfl (rk_o (rk_o (lc190_7) rfl rfl) rfl rfl)) ?_
            refine w_ifeq (t := 278) rfl rfl (show inr (tc13_0) by omega) (fun b10 => ?_) (fun b10 => ?_)
            · refine Ew_of (pc' := 279) (fun _ => x_aload_n rfl (rk_o (rk_o (lc190_0) rfl rfl) rfl rfl)) ?_
              have r11 : (0 : Int) ≤ F 3 2 ∧ F 3 2 ≤ 65536 := by have h1 : (0 : Int) ≤ F_c190 3 2 ∧ F_c190 3 2 ≤ 65536 := H.frng 3 2; rw [show F_c190 3 2 = F 3 2 from ((hS_c190 3 2 rfl).trans (hS_c13 3 2 rfl))] at h1; exact h1
              refine w_inv H (o := 3) rfl rfl rfl (H.perm 3 rfl) rfl rfl (by rfl) (M373 H (F 3 2) (((hS_c190 3 2 rfl).trans (hS_c13 3 2 rfl)))  (fun σ F12 A13 H hS14 hA15 y17 ey18 pz16_0 => ⟨rfl, ?_⟩))
              have r19 : (-2147483648 : Int) ≤ y17 ∧ y17 ≤ 2147483647 := by have h1 : (-2147483648 : Int) ≤ F12 3 12 ∧ F12 3 12 ≤ 2147483647 := H.frng 3 12; rw [show F12 3 12 = y17 from (ey18)] at h1; exact h1
              refine Ew_of (pc' := 284) (fun _ => x_iload rfl (rk_o (rk_o (lc190_5) rfl rfl) rfl rfl)) ?_
              refine Ew_of (pc' := 286) (fun _ => x_istore rfl) ?_
              suffices hl286 : ∀ (m : Nat), ∀ (ls : rO) (σ : rS) (F_286 : hF) (A_286 : hA) (x286_14 : Int), rlook ls 0 = some (.ref (D 3)) → rlook ls 3 = some (I (a2)) → rlook ls 10 = some (I ((u3_15 + 4))) → rlook ls 11 = some (I (((u3_15 + 4) + a1))) → rlook ls 12 = some (I (yc190_3_15)) → rlook ls 13 = some (I ((a5 - u3_14))) → rlook ls 14 = some (I (x286_14)) → HS σ0 σ D N F_286 A_286 → SF [(3, 12)] F12 F_286 → SA [21] A13 A_286 → ∀ y286_3_12 : Int, F_286 3 12 = y286_3_12 → (inr (x286_14)) → ((a4) ≤ (x286_14)) → ((x286_14) ≤ (a4) ∨ (x286_14) ≤ ((u3_14))) → ((y286_3_12) = (y17) + ((x286_14) - (a4))) → (((u3_14)) - (x286_14)).toNat = m → Ew 384 (d + 2) 286 ls [] σ c s Q from
                hl286 _ _ σ _ _ (a4) (rk_o (rk_o (rk_o (lc190_0) rfl rfl) rfl rfl) rfl rfl) (rk_o (rk_o (rk_o (lc190_3) rfl rfl) rfl rfl) rfl rfl) (rk_o (rk_o (rk_o (lc190_10) rfl rfl) rfl rfl) rfl rfl) (rk_o (rk_o (rk_o (lc190_11) rfl rfl) rfl rfl) rfl rfl) (rk_o (rk_o (rk_s) rfl rfl) rfl rfl) (rk_o (rk_s) rfl rfl) (rk_s) H (SF_refl) (SA_refl) (y17) ((ey18))  (show inr (a4) by omega) (show (a4) ≤ (a4) by omega) (show (a4) ≤ (a4) ∨ (a4) ≤ ((u3_14)) by omega) (show (y17) = (y17) + ((a4) - (a4)) by omega) rfl
              as_aux_lemma =>
              intro m
              induction m using Nat.strongRecOn with
              | _ m ih286 =>
                intro ls σ F_286 A_286 x286_14 l286_0 l286_3 l286_10 l286_11 l286_12 l286_13 l286_14 H hS_286 hA_286 y286_3_12 ey286_3_12  j286_0 j286_1 j286_2 j286_3 hm286
                have r20 : (-2147483648 : Int) ≤ y286_3_12 ∧ y286_3_12 ≤ 2147483647 := by have h1 : (-2147483648 : Int) ≤ F_286 3 12 ∧ F_286 3 12 ≤ 2147483647 := H.frng 3 12; rw [show F_286 3 12 = y286_3_12 from (ey286_3_12)] at h1; exact h1
                refine Ew_of (pc' := 288) (fun _ => x_iload rfl l286_14) ?_
                refine Ew_of (pc' := 289) (fun _ => x_aload_n rfl l286_0) ?_
                refine w_gI H (o := 3) (w := u3_14) rfl (H.perm 3 rfl) rfl rfl rfl (fun _ => rfl) (((((hS_286 3 14 rfl).trans (hS14 3 14 rfl)).trans (hS_c190 3 14 rfl)).trans (hS_c13 3 14 rfl)).trans (eu3_14)) ?_
                refine w_icmpge (t := 334) rfl rfl (show inr (x286_14) by omega) (show inr (u3_14) by omega) (fun b21 => ?_) (fun b21 => ?_)
                · refine Ew_of (pc' := 335) (fun _ => x_aload_n rfl l286_0) ?_
                  refine w_gI H (o := 3) (w := y286_3_12) rfl (H.perm 3 rfl) rfl rfl rfl (fun _ => rfl) (ey286_3_12) ?_
                  refine Ew_of (pc' := 340) (fun _ => x_istore rfl) ?_
                  refine Ew_of (pc' := 341) (fun _ => x_aload_n rfl (rk_o (l286_0) rfl rfl)) ?_
                  refine Ew_of (pc' := 343) (fun _ => x_iload rfl (rk_o (l286_10) rfl rfl)) ?_
                  refine Ew_of (pc' := 345) (fun _ => x_iload rfl (rk_o (l286_11) rfl rfl)) ?_
                  refine Ew_of (pc' := 347) (fun _ => x_iload rfl (rk_o (l286_13) rfl rfl)) ?_
                  refine w_inv H (o := 3) rfl rfl rfl (H.perm 3 rfl) rfl rfl (by rfl) (M372 H (y286_3_12) ((ey286_3_12)) (show inr ((u3_15 + 4)) by omega) (show inr (((u3_15 + 4) + a1)) by omega) (show inr ((a5 - u3_14)) by omega) (show 0 ≤ ((u3_15 + 4)) ∧ ((u3_15 + 4)) ≤ (((u3_15 + 4) + a1)) ∧ (((u3_15 + 4) + a1)) ≤ 65536 ∧ 0 ≤ ((a5 - u3_14)) ∧ ((a5 - u3_14)) ≤ 65536 by omega) (show 0 ≤ (y286_3_12) ∧ (y286_3_12) + ((a5 - u3_14)) ≤ 131072 by omega) (fun z26 σ F22 A23 H hS24 hA25 y27 ey28 pz26_0 pz26_1 pz26_2 => ⟨rfl, ?_⟩))
                  have r29 : (-2147483648 : Int) ≤ y27 ∧ y27 ≤ 2147483647 := by have h1 : (-2147483648 : Int) ≤ F22 3 12 ∧ F22 3 12 ≤ 2147483647 := H.frng 3 12; rw [show F22 3 12 = y27 from (ey28)] at h1; exact h1
                  refine Ew_of (pc' := 352) (fun _ => x_istore rfl) ?_
                  refine Ew_of (pc' := 354) (fun _ => x_iload rfl rk_s) ?_
                  refine w_ifle (t := 371) rfl rfl (show inr (z26) by omega) (fun b30 => ?_) (fun b30 => ?_)
                  · refine Ew_of (pc' := 373) (fun _ => x_iload rfl (rk_o (rk_s) rfl rfl)) ?_
                    refine Ew_of (pc' := 375) (fun _ => x_istore rfl) ?_
                    suffices hl375 : ∀ (m : Nat), ∀ (ls : rO) (σ : rS) (F_375 : hF) (A_375 : hA) (x375_16 : Int), rlook ls 0 = some (.ref (D 3)) → rlook ls 12 = some (I (yc190_3_15)) → rlook ls 16 = some (I (x375_16)) → HS σ0 σ D N F_375 A_375 → SF [(3, 14)] F22 F_375 → SA [22] A23 A_375 → ∀ y375_3_14 : Int, F_375 3 14 = y375_3_14 → (inr (x375_16)) → ((y286_3_12) ≤ (x375_16)) → ((x375_16) ≤ (y286_3_12) ∨ (x375_16) ≤ ((y27))) → ((y375_3_14) = (u3_14) + ((x375_16) - (y286_3_12))) → (((y27)) - (x375_16)).toNat = m → Ew 384 (d + 2) 375 ls [] σ c s Q from
                      hl375 _ _ σ _ _ (y286_3_12) (rk_o (rk_o (rk_o (l286_0) rfl rfl) rfl rfl) rfl rfl) (rk_o (rk_o (rk_o (l286_12) rfl rfl) rfl rfl) rfl rfl) (rk_s) H (SF_refl) (SA_refl) (u3_14) (((((((hS24 3 14 rfl).trans (hS_286 3 14 rfl)).trans (hS14 3 14 rfl)).trans (hS_c190 3 14 rfl)).trans (hS_c13 3 14 rfl)).trans (eu3_14)))  (show inr (y286_3_12) by omega) (show (y286_3_12) ≤ (y286_3_12) by omega) (show (y286_3_12) ≤ (y286_3_12) ∨ (y286_3_12) ≤ ((y27)) by omega) (show (u3_14) = (u3_14) + ((y286_3_12) - (y286_3_12)) by omega) rfl
                    as_aux_lemma =>
                    intro m
                    induction m using Nat.strongRecOn with
                    | _ m ih375 =>
                      intro ls σ F_375 A_375 x375_16 l375_0 l375_12 l375_16 H hS_375 hA_375 y375_3_14 ey375_3_14  j375_0 j375_1 j375_2 j375_3 hm375
                      have r31 : (0 : Int) ≤ y375_3_14 ∧ y375_3_14 ≤ 65536 := by have h1 : (0 : Int) ≤ F_375 3 14 ∧ F_375 3 14 ≤ 65536 := H.frng 3 14; rw [show F_375 3 14 = y375_3_14 from (ey375_3_14)] at h1; exact h1
                      refine Ew_of (pc' := 377) (fun _ => x_iload rfl l375_16) ?_
                      refine Ew_of (pc' := 378) (fun _ => x_aload_n rfl l375_0) ?_
                      refine w_gI H (o := 3) (w := y27) rfl (H.perm 3 rfl) rfl rfl rfl (fun _ => rfl) ((hS_375 3 12 rfl).trans (ey28)) ?_
                      refine w_icmpge (t := 416) rfl rfl (show inr (x375_16) by omega) (show inr (y27) by omega) (fun b32 => ?_) (fun b32 => ?_)
                      · refine Ew_of (pc' := 417) (fun _ => x_aload_n rfl l375_0) ?_
                        refine Ew_of (pc' := 419) (fun _ => x_iload rfl l375_12) ?_
                        refine w_pI H (o := 3) rfl rfl (H.perm 3 rfl) rfl rfl rfl (fun _ => rfl) rfl (show (-2147483648 : Int) ≤ yc190_3_15 ∧ yc190_3_15 ≤ 2147483647 by omega) (fun σ H => ?_)
                        refine Ew_of (pc' := 423) (fun _ => x_iconst rfl) ?_
                        exact w_ireturn rfl (k (0) σ _ _ H (SF_upd (SF_trans (SF_trans (SF_trans (SF_trans (SF_trans (SF_upd (SF_upd (SF_trans (SF_refl) hS_c13 (any_sub rfl)) rfl) rfl) hS_c190 (any_sub rfl)) hS14 (any_sub rfl)) hS_286 (any_sub rfl)) hS24 (any_sub rfl)) hS_375 (any_sub rfl)) rfl) (SA_trans (SA_trans (SA_trans (SA_trans (SA_trans (SA_trans (SA_refl) hA_c13 (any_subA rfl)) hA_c190 (any_subA rfl)) hA15 (any_subA rfl)) hA_286 (any_subA rfl)) hA25 (any_subA rfl)) hA_375 (any_subA rfl)) (y375_3_14) ((ey375_3_14)) (yc190_3_15) (rfl) (show inr (0) by omega) (show 0 ≤ (0) ∧ (0) ≤ 20 by omega) (show (u3_14) ≤ (y375_3_14) ∧ (y375_3_14) ≤ a5 by omega) (show (0) ≠ 0 ∨ (u3_15) + 4 ≤ (yc190_3_15) ∧ (yc190_3_15) ≤ (u1_1) by omega))
                      · refine Ew_of (pc' := 385) (fun _ => x_aload_n rfl l375_0) ?_
                        refine w_gT H (o := 3) (t := 22) rfl (H.perm 3 rfl) rfl rfl rfl rfl rfl rfl ?_
                        refine Ew_of (pc' := 389) (fun _ => x_aload_n rfl l375_0) ?_
                        refine w_gI H (o := 3) (w := y375_3_14) rfl (H.perm 3 rfl) rfl rfl rfl (fun _ => rfl) (ey375_3_14) ?_
                        refine Ew_of (pc' := 393) (fun _ => x_aload_n rfl l375_0) ?_
                        refine w_gT H (o := 3) (t := 21) rfl (H.perm 3 rfl) rfl rfl rfl rfl rfl rfl ?_
                        refine Ew_of (pc' := 398) (fun _ => x_iload rfl l375_16) ?_
                        refine w_lI H (o := 21) (n := 131072) rfl (H.perm 21 rfl) rfl rfl (H.fix 21 rfl rfl) (show 0 ≤ x375_16 ∧ x375_16 < ((131072 : Nat) : Int) by omega) (by decide) (fun v33 ev33 qv33 => ?_)
                        have qv33 : (0 : Int) ≤ v33 ∧ v33 ≤ 255 := qv33
                        have ev33 : (A23 21) (x375_16) = v33 := (congrFun (funext (hA_375 21 rfl)) (x375_16)).symm.trans ev33
                        refine w_sI H (o := 22) (n := 65536) rfl (H.perm 22 rfl) rfl rfl (H.fix 22 rfl rfl) (show 0 ≤ y375_3_14 ∧ y375_3_14 < ((65536 : Nat) : Int) by omega) (by decide) (show (0 : Int) ≤ v33 ∧ v33 ≤ 255 by omega) (fun σ H => ?_)
                        refine Ew_of (pc' := 401) (fun _ => x_aload_n rfl l375_0) ?_
                        refine Ew_of (pc' := 402) (fun _ => x_dup rfl rfl) ?_
                        refine w_gI H (o := 3) (w := y375_3_14) rfl (H.perm 3 rfl) rfl rfl rfl (fun _ => rfl) (ey375_3_14) ?_
                        refine Ew_of (pc' := 406) (fun _ => x_iconst rfl) ?_
                        refine w_iadd rfl ?_
                        refine w_pI H (o := 3) rfl rfl (H.perm 3 rfl) rfl rfl rfl (fun _ => rfl) rfl (show (0 : Int) ≤ (y375_3_14 + 1) ∧ (y375_3_14 + 1) ≤ 65536 by omega) (fun σ H => ?_)
                        refine Ew_of (pc' := 413) (fun _ => x_iinc (len := 3) rfl (l375_16)) ?_
                        refine Ew_of (pc' := 375) (fun _ => x_goto rfl rfl) ?_
                        exact ih375 _ (by omega) _ σ _ _ ((x375_16 + 1)) (rk_o (l375_0) rfl rfl) (rk_o (l375_12) rfl rfl) (rk_s) H (SF_upd (hS_375) rfl) (SA_upd (hA_375) rfl) ((y375_3_14 + 1)) (rfl)  (show inr ((x375_16 + 1)) by omega) (show (y286_3_12) ≤ ((x375_16 + 1)) by omega) (show ((x375_16 + 1)) ≤ (y286_3_12) ∨ ((x375_16 + 1)) ≤ ((y27)) by omega) (show ((y375_3_14 + 1)) = (u3_14) + (((x375_16 + 1)) - (y286_3_12)) by omega) rfl
                  · refine Ew_of (pc' := 359) (fun _ => x_iload rfl rk_s) ?_
                    refine Ew_of (pc' := 360) (fun _ => x_iconst rfl) ?_
                    refine w_icmpne (t := 368) rfl rfl (show inr (z26) by omega) (show inr (1) by omega) (fun b34 => ?_) (fun b34 => ?_)
                    · refine Ew_of (pc' := 370) (fun _ => x_iload rfl rk_s) ?_
                      have r35 : (-2147483648 : Int) ≤ F22 3 15 ∧ F22 3 15 ≤ 2147483647 := by have h1 : (-2147483648 : Int) ≤ F22 3 15 ∧ F22 3 15 ≤ 2147483647 := H.frng 3 15; rw [show F22 3 15 = F22 3 15 from rfl] at h1; exact h1
                      exact w_ireturn rfl (k (z26) σ _ _ H (SF_trans (SF_trans (SF_trans (SF_trans (SF_upd (SF_upd (SF_trans (SF_refl) hS_c13 (any_sub rfl)) rfl) rfl) hS_c190 (any_sub rfl)) hS14 (any_sub rfl)) hS_286 (any_sub rfl)) hS24 (any_sub rfl)) (SA_trans (SA_trans (SA_trans (SA_trans (SA_trans (SA_refl) hA_c13 (any_subA rfl)) hA_c190 (any_subA rfl)) hA15 (any_subA rfl)) hA_286 (any_subA rfl)) hA25 (any_subA rfl)) (u3_14) (((((((hS24 3 14 rfl).trans (hS_286 3 14 rfl)).trans (hS14 3 14 rfl)).trans (hS_c190 3 14 rfl)).trans (hS_c13 3 14 rfl)).trans (eu3_14))) (F22 3 15) (rfl) (show inr (z26) by omega) (show 0 ≤ (z26) ∧ (z26) ≤ 20 by omega) (show (u3_14) ≤ (u3_14) ∧ (u3_14) ≤ a5 by omega) (show (z26) ≠ 0 ∨ (u3_15) + 4 ≤ (F22 3 15) ∧ (F22 3 15) ≤ (u1_1) by omega))
                    · refine Ew_of (pc' := 365) (fun _ => x_bipush (z := 9) rfl (by decide)) ?_
                      refine Ew_of (pc' := 370) (fun _ => x_goto rfl rfl) ?_
                      have r36 : (-2147483648 : Int) ≤ F22 3 15 ∧ F22 3 15 ≤ 2147483647 := by have h1 : (-2147483648 : Int) ≤ F22 3 15 ∧ F22 3 15 ≤ 2147483647 := H.frng 3 15; rw [show F22 3 15 = F22 3 15 from rfl] at h1; exact h1
                      exact w_ireturn rfl (k (9) σ _ _ H (SF_trans (SF_trans (SF_trans (SF_trans (SF_upd (SF_upd (SF_trans (SF_refl) hS_c13 (any_sub rfl)) rfl) rfl) hS_c190 (any_sub rfl)) hS14 (any_sub rfl)) hS_286 (any_sub rfl)) hS24 (any_sub rfl)) (SA_trans (SA_trans (SA_trans (SA_trans (SA_trans (SA_refl) hA_c13 (any_subA rfl)) hA_c190 (any_subA rfl)) hA15 (any_subA rfl)) hA_286 (any_subA rfl)) hA25 (any_subA rfl)) (u3_14) (((((((hS24 3 14 rfl).trans (hS_286 3 14 rfl)).trans (hS14 3 14 rfl)).trans (hS_c190 3 14 rfl)).trans (hS_c13 3 14 rfl)).trans (eu3_14))) (F22 3 15) (rfl) (show inr (9) by omega) (show 0 ≤ (9) ∧ (9) ≤ 20 by omega) (show (u3_14) ≤ (u3_14) ∧ (u3_14) ≤ a5 by omega) (show (9) ≠ 0 ∨ (u3_15) + 4 ≤ (F22 3 15) ∧ (F22 3 15) ≤ (u1_1) by omega))
                · refine Ew_of (pc' := 296) (fun _ => x_iload_n rfl l286_3) ?_
                  refine Ew_of (pc' := 298) (fun _ => x_bipush (z := 32) rfl (by decide)) ?_
                  refine w_iand rfl (show inr (a2) by omega) (show inr (32) by omega) (fun z37 gz37 gaz37 gbz37 => ?_)
                  refine w_ifne (t := 334) rfl rfl (show inr (z37) by omega) (fun b38 => ?_) (fun b38 => ?_)
                  · refine Ew_of (pc' := 335) (fun _ => x_aload_n rfl l286_0) ?_
                    refine w_gI H (o := 3) (w := y286_3_12) rfl (H.perm 3 rfl) rfl rfl rfl (fun _ => rfl) (ey286_3_12) ?_
                    refine Ew_of (pc' := 340) (fun _ => x_istore rfl) ?_
                    refine Ew_of (pc' := 341) (fun _ => x_aload_n rfl (rk_o (l286_0) rfl rfl)) ?_
                    refine Ew_of (pc' := 343) (fun _ => x_iload rfl (rk_o (l286_10) rfl rfl)) ?_
                    refine Ew_of (pc' := 345) (fun _ => x_iload rfl (rk_o (l286_11) rfl rfl)) ?_
                    refine Ew_of (pc' := 347) (fun _ => x_iload rfl (rk_o (l286_13) rfl rfl)) ?_
                    refine w_inv H (o := 3) rfl rfl rfl (H.perm 3 rfl) rfl rfl (by rfl) (M372 H (y286_3_12) ((ey286_3_12)) (show inr ((u3_15 + 4)) by omega) (show inr (((u3_15 + 4) + a1)) by omega) (show inr ((a5 - u3_14)) by omega) (show 0 ≤ ((u3_15 + 4)) ∧ ((u3_15 + 4)) ≤ (((u3_15 + 4) + a1)) ∧ (((u3_15 + 4) + a1)) ≤ 65536 ∧ 0 ≤ ((a5 - u3_14)) ∧ ((a5 - u3_14)) ≤ 65536 by omega) (show 0 ≤ (y286_3_12) ∧ (y286_3_12) + ((a5 - u3_14)) ≤ 131072 by omega) (fun z43 σ F39 A40 H hS41 hA42 y44 ey45 pz43_0 pz43_1 pz43_2 => ⟨rfl, ?_⟩))
                    have r46 : (-2147483648 : Int) ≤ y44 ∧ y44 ≤ 2147483647 := by have h1 : (-2147483648 : Int) ≤ F39 3 12 ∧ F39 3 12 ≤ 2147483647 := H.frng 3 12; rw [show F39 3 12 = y44 from (ey45)] at h1; exact h1
                    refine Ew_of (pc' := 352) (fun _ => x_istore rfl) ?_
                    refine Ew_of (pc' := 354) (fun _ => x_iload rfl rk_s) ?_
                    refine w_ifle (t := 371) rfl rfl (show inr (z43) by omega) (fun b47 => ?_) (fun b47 => ?_)
                    · refine Ew_of (pc' := 373) (fun _ => x_iload rfl (rk_o (rk_s) rfl rfl)) ?_
                      refine Ew_of (pc' := 375) (fun _ => x_istore rfl) ?_
                      suffices hl375 : ∀ (m : Nat), ∀ (ls : rO) (σ : rS) (F_375 : hF) (A_375 : hA) (x375_16 : Int), rlook ls 0 = some (.ref (D 3)) → rlook ls 12 = some (I (yc190_3_15)) → rlook ls 16 = some (I (x375_16)) → HS σ0 σ D N F_375 A_375 → SF [(3, 14)] F39 F_375 → SA [22] A40 A_375 → ∀ y375_3_14 : Int, F_375 3 14 = y375_3_14 → (inr (x375_16)) → ((y286_3_12) ≤ (x375_16)) → ((x375_16) ≤ (y286_3_12) ∨ (x375_16) ≤ ((y44))) → ((y375_3_14) = (u3_14) + ((x375_16) - (y286_3_12))) → (((y44)) - (x375_16)).toNat = m → Ew 384 (d + 2) 375 ls [] σ c s Q from
                        hl375 _ _ σ _ _ (y286_3_12) (rk_o (rk_o (rk_o (l286_0) rfl rfl) rfl rfl) rfl rfl) (rk_o (rk_o (rk_o (l286_12) rfl rfl) rfl rfl) rfl rfl) (rk_s) H (SF_refl) (SA_refl) (u3_14) (((((((hS41 3 14 rfl).trans (hS_286 3 14 rfl)).trans (hS14 3 14 rfl)).trans (hS_c190 3 14 rfl)).trans (hS_c13 3 14 rfl)).trans (eu3_14)))  (show inr (y286_3_12) by omega) (show (y286_3_12) ≤ (y286_3_12) by omega) (show (y286_3_12) ≤ (y286_3_12) ∨ (y286_3_12) ≤ ((y44)) by omega) (show (u3_14) = (u3_14) + ((y286_3_12) - (y286_3_12)) by omega) rfl
                      as_aux_lemma =>
                      intro m
                      induction m using Nat.strongRecOn with
                      | _ m ih375 =>
                        intro ls σ F_375 A_375 x375_16 l375_0 l375_12 l375_16 H hS_375 hA_375 y375_3_14 ey375_3_14  j375_0 j375_1 j375_2 j375_3 hm375
                        have r48 : (0 : Int) ≤ y375_3_14 ∧ y375_3_14 ≤ 65536 := by have h1 : (0 : Int) ≤ F_375 3 14 ∧ F_375 3 14 ≤ 65536 := H.frng 3 14; rw [show F_375 3 14 = y375_3_14 from (ey375_3_14)] at h1; exact h1
                        refine Ew_of (pc' := 377) (fun _ => x_iload rfl l375_16) ?_
                        refine Ew_of (pc' := 378) (fun _ => x_aload_n rfl l375_0) ?_
                        refine w_gI H (o := 3) (w := y44) rfl (H.perm 3 rfl) rfl rfl rfl (fun _ => rfl) ((hS_375 3 12 rfl).trans (ey45)) ?_
                        refine w_icmpge (t := 416) rfl rfl (show inr (x375_16) by omega) (show inr (y44) by omega) (fun b49 => ?_) (fun b49 => ?_)
                        · refine Ew_of (pc' := 417) (fun _ => x_aload_n rfl l375_0) ?_
                          refine Ew_of (pc' := 419) (fun _ => x_iload rfl l375_12) ?_
                          refine w_pI H (o := 3) rfl rfl (H.perm 3 rfl) rfl rfl rfl (fun _ => rfl) rfl (show (-2147483648 : Int) ≤ yc190_3_15 ∧ yc190_3_15 ≤ 2147483647 by omega) (fun σ H => ?_)
                          refine Ew_of (pc' := 423) (fun _ => x_iconst rfl) ?_
                          exact w_ireturn rfl (k (0) σ _ _ H (SF_upd (SF_trans (SF_trans (SF_trans (SF_trans (SF_trans (SF_upd (SF_upd (SF_trans (SF_refl) hS_c13 (any_sub rfl)) rfl) rfl) hS_c190 (any_sub rfl)) hS14 (any_sub rfl)) hS_286 (any_sub rfl)) hS41 (any_sub rfl)) hS_375 (any_sub rfl)) rfl) (SA_trans (SA_trans (SA_trans (SA_trans (SA_trans (SA_trans (SA_refl) hA_c13 (any_subA rfl)) hA_c190 (any_subA rfl)) hA15 (any_subA rfl)) hA_286 (any_subA rfl)) hA42 (any_subA rfl)) hA_375 (any_subA rfl)) (y375_3_14) ((ey375_3_14)) (yc190_3_15) (rfl) (show inr (0) by omega) (show 0 ≤ (0) ∧ (0) ≤ 20 by omega) (show (u3_14) ≤ (y375_3_14) ∧ (y375_3_14) ≤ a5 by omega) (show (0) ≠ 0 ∨ (u3_15) + 4 ≤ (yc190_3_15) ∧ (yc190_3_15) ≤ (u1_1) by omega))
                        · refine Ew_of (pc' := 385) (fun _ => x_aload_n rfl l375_0) ?_
                          refine w_gT H (o := 3) (t := 22) rfl (H.perm 3 rfl) rfl rfl rfl rfl rfl rfl ?_
                          refine Ew_of (pc' := 389) (fun _ => x_aload_n rfl l375_0) ?_
                          refine w_gI H (o := 3) (w := y375_3_14) rfl (H.perm 3 rfl) rfl rfl rfl (fun _ => rfl) (ey375_3_14) ?_
                          refine Ew_of (pc' := 393) (fun _ => x_aload_n rfl l375_0) ?_
                          refine w_gT H (o := 3) (t := 21) rfl (H.perm 3 rfl) rfl rfl rfl rfl rfl rfl ?_
                          refine Ew_of (pc' := 398) (fun _ => x_iload rfl l375_16) ?_
                          refine w_lI H (o := 21) (n := 131072) rfl (H.perm 21 rfl) rfl rfl (H.fix 21 rfl rfl) (show 0 ≤ x375_16 ∧ x375_16 < ((131072 : Nat) : Int) by omega) (by decide) (fun v50 ev50 qv50 => ?_)
                          have qv50 : (0 : Int) ≤ v50 ∧ v50 ≤ 255 := qv50
                          have ev50 : (A40 21) (x375_16) = v50 := (congrFun (funext (hA_375 21 rfl)) (x375_16)).symm.trans ev50
                          refine w_sI H (o := 22) (n := 65536) rfl (H.perm 22 rfl) rfl rfl (H.fix 22 rfl rfl) (show 0 ≤ y375_3_14 ∧ y375_3_14 < ((65536 : Nat) : Int) by omega) (by decide) (show (0 : Int) ≤ v50 ∧ v50 ≤ 255 by omega) (fun σ H => ?_)
                          refine Ew_of (pc' := 401) (fun _ => x_aload_n rfl l375_0) ?_
                          refine Ew_of (pc' := 402) (fun _ => x_dup rfl rfl) ?_
                          refine w_gI H (o := 3) (w := y375_3_14) rfl (H.perm 3 rfl) rfl rfl rfl (fun _ => rfl) (ey375_3_14) ?_
                          refine Ew_of (pc' := 406) (fun _ => x_iconst rfl) ?_
                          refine w_iadd rfl ?_
                          refine w_pI H (o := 3) rfl rfl (H.perm 3 rfl) rfl rfl rfl (fun _ => rfl) rfl (show (0 : Int) ≤ (y375_3_14 + 1) ∧ (y375_3_14 + 1) ≤ 65536 by omega) (fun σ H => ?_)
                          refine Ew_of (pc' := 413) (fun _ => x_iinc (len := 3) rfl (l375_16)) ?_
                          refine Ew_of (pc' := 375) (fun _ => x_goto rfl rfl) ?_
                          exact ih375 _ (by omega) _ σ _ _ ((x375_16 + 1)) (rk_o (l375_0) rfl rfl) (rk_o (l375_12) rfl rfl) (rk_s) H (SF_upd (hS_375) rfl) (SA_upd (hA_375) rfl) ((y375_3_14 + 1)) (rfl)  (show inr ((x375_16 + 1)) by omega) (show (y286_3_12) ≤ ((x375_16 + 1)) by omega) (show ((x375_16 + 1)) ≤ (y286_3_12) ∨ ((x375_16 + 1)) ≤ ((y44)) by omega) (show ((y375_3_14 + 1)) = (u3_14) + (((x375_16 + 1)) - (y286_3_12)) by omega) rfl
                    · refine Ew_of (pc' := 359) (fun _ => x_iload rfl rk_s) ?_
                      refine Ew_of (pc' := 360) (fun _ => x_iconst rfl) ?_
                      refine w_icmpne (t := 368) rfl rfl (show inr (z43) by omega) (show inr (1) by omega) (fun b51 => ?_) (fun b51 => ?_)
                      · refine Ew_of (pc' := 370) (fun _ => x_iload rfl rk_s) ?_
                        have r52 : (-2147483648 : Int) ≤ F39 3 15 ∧ F39 3 15 ≤ 2147483647 := by have h1 : (-2147483648 : Int) ≤ F39 3 15 ∧ F39 3 15 ≤ 2147483647 := H.frng 3 15; rw [show F39 3 15 = F39 3 15 from rfl] at h1; exact h1
                        exact w_ireturn rfl (k (z43) σ _ _ H (SF_trans (SF_trans (SF_trans (SF_trans (SF_upd (SF_upd (SF_trans (SF_refl) hS_c13 (any_sub rfl)) rfl) rfl) hS_c190 (any_sub rfl)) hS14 (any_sub rfl)) hS_286 (any_sub rfl)) hS41 (any_sub rfl)) (SA_trans (SA_trans (SA_trans (SA_trans (SA_trans (SA_refl) hA_c13 (any_subA rfl)) hA_c190 (any_subA rfl)) hA15 (any_subA rfl)) hA_286 (any_subA rfl)) hA42 (any_subA rfl)) (u3_14) (((((((hS41 3 14 rfl).trans (hS_286 3 14 rfl)).trans (hS14 3 14 rfl)).trans (hS_c190 3 14 rfl)).trans (hS_c13 3 14 rfl)).trans (eu3_14))) (F39 3 15) (rfl) (show inr (z43) by omega) (show 0 ≤ (z43) ∧ (z43) ≤ 20 by omega) (show (u3_14) ≤ (u3_14) ∧ (u3_14) ≤ a5 by omega) (show (z43) ≠ 0 ∨ (u3_15) + 4 ≤ (F39 3 15) ∧ (F39 3 15) ≤ (u1_1) by omega))
                      · refine Ew_of (pc' := 365) (fun _ => x_bipush (z := 9) rfl (by decide)) ?_
                        refine Ew_of (pc' := 370) (fun _ => x_goto rfl rfl) ?_
                        have r53 : (-2147483648 : Int) ≤ F39 3 15 ∧ F39 3 15 ≤ 2147483647 := by have h1 : (-2147483648 : Int) ≤ F39 3 15 ∧ F39 3 15 ≤ 2147483647 := H.frng 3 15; rw [show F39 3 15 = F39 3 15 from rfl] at h1; exact h1
                        exact w_ireturn rfl (k (9) σ _ _ H (SF_trans (SF_trans (SF_trans (SF_trans (SF_upd (SF_upd (SF_trans (SF_refl) hS_c13 (any_sub rfl)) rfl) rfl) hS_c190 (any_sub rfl)) hS14 (any_sub rfl)) hS_286 (any_sub rfl)) hS41 (any_sub rfl)) (SA_trans (SA_trans (SA_trans (SA_trans (SA_trans (SA_refl) hA_c13 (any_subA rfl)) hA_c190 (any_subA rfl)) hA15 (any_subA rfl)) hA_286 (any_subA rfl)) hA42 (any_subA rfl)) (u3_14) (((((((hS41 3 14 rfl).trans (hS_286 3 14 rfl)).trans (hS14 3 14 rfl)).trans (hS_c190 3 14 rfl)).trans (hS_c13 3 14 rfl)).trans (eu3_14))) (F39 3 15) (rfl) (show inr (9) by omega) (show 0 ≤ (9) ∧ (9) ≤ 20 by omega) (show (u3_14) ≤ (u3_14) ∧ (u3_14) ≤ a5 by omega) (show (9) ≠ 0 ∨ (u3_15) + 4 ≤ (F39 3 15) ∧ (F39 3 15) ≤ (u1_1) by omega))
                  · refine Ew_of (pc' := 303) (fun _ => x_aload_n rfl l286_0) ?_
                    refine w_gT H (o := 3) (t := 21) rfl (H.perm 3 rfl) rfl rfl rfl rfl rfl rfl ?_
                    refine Ew_of (pc' := 307) (fun _ => x_aload_n rfl l286_0) ?_
                    refine w_gI H (o := 3) (w := y286_3_12) rfl (H.perm 3 rfl) rfl rfl rfl (fun _ => rfl) (ey286_3_12) ?_
                    refine Ew_of (pc' := 311) (fun _ => x_aload_n rfl l286_0) ?_
                    refine w_gT H (o := 3) (t := 22) rfl (H.perm 3 rfl) rfl rfl rfl rfl rfl rfl ?_
                    refine Ew_of (pc' := 316) (fun _ => x_iload rfl l286_14) ?_
                    refine w_lI H (o := 22) (n := 65536) rfl (H.perm 22 rfl) rfl rfl (H.fix 22 rfl rfl) (show 0 ≤ x286_14 ∧ x286_14 < ((65536 : Nat) : Int) by omega) (by decide) (fun v54 ev54 qv54 => ?_)
                    have qv54 : (0 : Int) ≤ v54 ∧ v54 ≤ 255 := qv54
                    have ev54 : (A 22) (x286_14) = v54 := (congrFun ((funext (hA_286 22 rfl)).trans ((funext (hA15 22 rfl)).trans ((funext (hA_c190 22 rfl)).trans (funext (hA_c13 22 rfl))))) (x286_14)).symm.trans ev54
                    refine w_sI H (o := 21) (n := 131072) rfl (H.perm 21 rfl) rfl rfl (H.fix 21 rfl rfl) (show 0 ≤ y286_3_12 ∧ y286_3_12 < ((131072 : Nat) : Int) by omega) (by decide) (show (0 : Int) ≤ v54 ∧ v54 ≤ 255 by omega) (fun σ H => ?_)
                    refine Ew_of (pc' := 319) (fun _ => x_aload_n rfl l286_0) ?_
                    refine Ew_of (pc' := 320) (fun _ => x_dup rfl rfl) ?_
                    refine w_gI H (o := 3) (w := y286_3_12) rfl (H.perm 3 rfl) rfl rfl rfl (fun _ => rfl) (ey286_3_12) ?_
                    refine Ew_of (pc' := 324) (fun _ => x_iconst rfl) ?_
                    refine w_iadd rfl ?_
                    refine w_pI H (o := 3) rfl rfl (H.perm 3 rfl) rfl rfl rfl (fun _ => rfl) rfl (show (-2147483648 : Int) ≤ (y286_3_12 + 1) ∧ (y286_3_12 + 1) ≤ 2147483647 by omega) (fun σ H => ?_)
                    refine Ew_of (pc' := 331) (fun _ => x_iinc (len := 3) rfl (l286_14)) ?_
                    refine Ew_of (pc' := 286) (fun _ => x_goto rfl rfl) ?_
                    exact ih286 _ (by omega) _ σ _ _ ((x286_14 + 1)) (rk_o (l286_0) rfl rfl) (rk_o (l286_3) rfl rfl) (rk_o (l286_10) rfl rfl) (rk_o (l286_11) rfl rfl) (rk_o (l286_12) rfl rfl) (rk_o (l286_13) rfl rfl) (rk_s) H (SF_upd (hS_286) rfl) (SA_upd (hA_286) rfl) ((y286_3_12 + 1)) (rfl)  (show inr ((x286_14 + 1)) by omega) (show (a4) ≤ ((x286_14 + 1)) by omega) (show ((x286_14 + 1)) ≤ (a4) ∨ ((x286_14 + 1)) ≤ ((u3_14)) by omega) (show ((y286_3_12 + 1)) = (y17) + (((x286_14 + 1)) - (a4)) by omega) rfl
            · refine Ew_of (pc' := 212) (fun _ => x_lload rfl (rk_o (rk_o (lc190_8) rfl rfl) rfl rfl)) ?_
              refine Ew_of (pc' := 214) (fun _ => x_iload rfl rk_s) ?_
              refine w_i2l rfl (show inr ((a5 - u3_14)) by omega) ?_
              refine w_lcmp rfl (show inrJ (a1) by omega) (show inrJ ((a5 - u3_14)) by omega) (fun z55 gz55 gaz55 gbz55 => ?_)
              refine w_ifle (t := 230) rfl rfl (show inr (z55) by omega) (fun b56 => ?_) (fun b56 => ?_)
              · refine Ew_of (pc' := 232) (fun _ => x_iload rfl (rk_o (rk_o (lc190_10) rfl rfl) rfl rfl)) ?_
                refine Ew_of (pc' := 234) (fun _ => x_istore rfl) ?_
                suffices hl234 : ∀ (m : Nat), ∀ (ls : rO) (σ : rS) (F_234 : hF) (A_234 : hA) (x234_14 : Int), rlook ls 0 = some (.ref (D 3)) → rlook ls 11 = some (I (((u3_15 + 4) + a1))) → rlook ls 14 = some (I (x234_14)) → HS σ0 σ D N F_234 A_234 → SF [(3, 14)] F_c190 F_234 → SA [22] A_c190 A_234 → ∀ y234_3_14 : Int, F_234 3 14 = y234_3_14 → (inr (x234_14)) → (((u3_15 + 4)) ≤ (x234_14)) → ((x234_14) ≤ ((u3_15 + 4)) ∨ (x234_14) ≤ ((((u3_15 + 4) + a1)))) → ((y234_3_14) = (u3_14) + ((x234_14) - ((u3_15 + 4)))) → (((((u3_15 + 4) + a1))) - (x234_14)).toNat = m → Ew 384 (d + 2) 234 ls [] σ c s Q from
                  hl234 _ _ σ _ _ ((u3_15 + 4)) (rk_o (rk_o (rk_o (lc190_0) rfl rfl) rfl rfl) rfl rfl) (rk_o (rk_o (rk_o (lc190_11) rfl rfl) rfl rfl) rfl rfl) (rk_s) H (SF_refl) (SA_refl) (u3_14) ((((hS_c190 3 14 rfl).trans (hS_c13 3 14 rfl)).trans (eu3_14)))  (show inr ((u3_15 + 4)) by omega) (show ((u3_15 + 4)) ≤ ((u3_15 + 4)) by omega) (show ((u3_15 + 4)) ≤ ((u3_15 + 4)) ∨ ((u3_15 + 4)) ≤ ((((u3_15 + 4) + a1))) by omega) (show (u3_14) = (u3_14) + (((u3_15 + 4)) - ((u3_15 + 4))) by omega) rfl
                as_aux_lemma =>
                intro m
                induction m using Nat.strongRecOn with
                | _ m ih234 =>
                  intro ls σ F_234 A_234 x234_14 l234_0 l234_11 l234_14 H hS_234 hA_234 y234_3_14 ey234_3_14  j234_0 j234_1 j234_2 j234_3 hm234
                  have r57 : (0 : Int) ≤ y234_3_14 ∧ y234_3_14 ≤ 65536 := by have h1 : (0 : Int) ≤ F_234 3 14 ∧ F_234 3 14 ≤ 65536 := H.frng 3 14; rw [show F_234 3 14 = y234_3_14 from (ey234_3_14)] at h1; exact h1
                  refine Ew_of (pc' := 236) (fun _ => x_iload rfl l234_14) ?_
                  refine Ew_of (pc' := 238) (fun _ => x_iload rfl l234_11) ?_
                  refine w_icmpge (t := 276) rfl rfl (show inr (x234_14) by omega) (show inr (((u3_15 + 4) + a1)) by omega) (fun b58 => ?_) (fun b58 => ?_)
                  · refine Ew_of (pc' := 277) (fun _ => x_iconst rfl) ?_
                    exact w_ireturn rfl (k (0) σ _ _ H (SF_trans (SF_trans (SF_upd (SF_upd (SF_trans (SF_refl) hS_c13 (any_sub rfl)) rfl) rfl) hS_c190 (any_sub rfl)) hS_234 (any_sub rfl)) (SA_trans (SA_trans (SA_trans (SA_refl) hA_c13 (any_subA rfl)) hA_c190 (any_subA rfl)) hA_234 (any_subA rfl)) (y234_3_14) ((ey234_3_14)) (yc190_3_15) (((hS_234 3 15 rfl).trans (eyc190_3_15))) (show inr (0) by omega) (show 0 ≤ (0) ∧ (0) ≤ 20 by omega) (show (u3_14) ≤ (y234_3_14) ∧ (y234_3_14) ≤ a5 by omega) (show (0) ≠ 0 ∨ (u3_15) + 4 ≤ (yc190_3_15) ∧ (yc190_3_15) ≤ (u1_1) by omega))
                  · refine Ew_of (pc' := 242) (fun _ => x_aload_n rfl l234_0) ?_
                    refine w_gT H (o := 3) (t := 22) rfl (H.perm 3 rfl) rfl rfl rfl rfl rfl rfl ?_
                    refine Ew_of (pc' := 246) (fun _ => x_aload_n rfl l234_0) ?_
                    refine w_gI H (o := 3) (w := y234_3_14) rfl (H.perm 3 rfl) rfl rfl rfl (fun _ => rfl) (ey234_3_14) ?_
                    refine Ew_of (pc' := 250) (fun _ => x_aload_n rfl l234_0) ?_
                    refine w_gT H (o := 3) (t := 1) rfl (H.perm 3 rfl) rfl rfl rfl rfl rfl rfl ?_
                    refine w_gT H (o := 1) (t := 14) rfl (H.perm 1 rfl) rfl rfl rfl rfl rfl rfl ?_
                    refine Ew_of (pc' := 258) (fun _ => x_iload rfl l234_14) ?_
                    refine w_lI H (o := 14) (n := 65536) rfl (H.perm 14 rfl) rfl rfl (H.fix 14 rfl rfl) (show 0 ≤ x234_14 ∧ x234_14 < ((65536 : Nat) : Int) by omega) (by decide) (fun v59 ev59 qv59 => ?_)
                    have qv59 : (0 : Int) ≤ v59 ∧ v59 ≤ 255 := qv59
                    have ev59 : (A 14) (x234_14) = v59 := (congrFun ((funext (hA_234 14 rfl)).trans ((funext (hA_c190 14 rfl)).trans (funext (hA_c13 14 rfl)))) (x234_14)).symm.trans ev59
                    refine w_sI H (o := 22) (n := 65536) rfl (H.perm 22 rfl) rfl rfl (H.fix 22 rfl rfl) (show 0 ≤ y234_3_14 ∧ y234_3_14 < ((65536 : Nat) : Int) by omega) (by decide) (show (0 : Int) ≤ v59 ∧ v59 ≤ 255 by omega) (fun σ H => ?_)
                    refine Ew_of (pc' := 261) (fun _ => x_aload_n rfl l234_0) ?_
                    refine Ew_of (pc' := 262) (fun _ => x_dup rfl rfl) ?_
                    refine w_gI H (o := 3) (w := y234_3_14) rfl (H.perm 3 rfl) rfl rfl rfl (fun _ => rfl) (ey234_3_14) ?_
                    refine Ew_of (pc' := 266) (fun _ => x_iconst rfl) ?_
                    refine w_iadd rfl ?_
                    refine w_pI H (o := 3) rfl rfl (H.perm 3 rfl) rfl rfl rfl (fun _ => rfl) rfl (show (0 : Int) ≤ (y234_3_14 + 1) ∧ (y234_3_14 + 1) ≤ 65536 by omega) (fun σ H => ?_)
                    refine Ew_of (pc' := 273) (fun _ => x_iinc (len := 3) rfl (l234_14)) ?_
                    refine Ew_of (pc' := 234) (fun _ => x_goto rfl rfl) ?_
                    exact ih234 _ (by omega) _ σ _ _ ((x234_14 + 1)) (rk_o (l234_0) rfl rfl) (rk_o (l234_11) rfl rfl) (rk_s) H (SF_upd (hS_234) rfl) (SA_upd (hA_234) rfl) ((y234_3_14 + 1)) (rfl)  (show inr ((x234_14 + 1)) by omega) (show ((u3_15 + 4)) ≤ ((x234_14 + 1)) by omega) (show ((x234_14 + 1)) ≤ ((u3_15 + 4)) ∨ ((x234_14 + 1)) ≤ ((((u3_15 + 4) + a1))) by omega) (show ((y234_3_14 + 1)) = (u3_14) + (((x234_14 + 1)) - ((u3_15 + 4))) by omega) rfl
              · refine Ew_of (pc' := 220) (fun _ => x_aload_n rfl (rk_o (rk_o (lc190_0) rfl rfl) rfl rfl)) ?_
                refine Ew_of (pc' := 221) (fun _ => x_iconst rfl) ?_
                refine Ew_of (pc' := 223) (fun _ => x_iload rfl (rk_o (rk_o (lc190_10) rfl rfl) rfl rfl)) ?_
                refine Ew_of (pc' := 225) (fun _ => x_iload rfl rk_s) ?_
                refine w_iadd rfl ?_
                refine w_inv H (o := 3) rfl rfl rfl (H.perm 3 rfl) rfl rfl (by rfl) (M381 H (show inr (3) by omega) (show inr (((u3_15 + 4) + (a5 - u3_14))) by omega) (fun z64 σ F60 A61 H hS62 hA63 pz64_0 pz64_1 => ⟨rfl, ?_⟩))
                exact w_ireturn rfl (k (z64) σ _ _ H (SF_trans (SF_trans (SF_upd (SF_upd (SF_trans (SF_refl) hS_c13 (any_sub rfl)) rfl) rfl) hS_c190 (any_sub rfl)) hS62 (any_sub rfl)) (SA_trans (SA_trans (SA_trans (SA_refl) hA_c13 (any_subA rfl)) hA_c190 (any_subA rfl)) hA63 (any_subA rfl)) (u3_14) (((((hS62 3 14 rfl).trans (hS_c190 3 14 rfl)).trans (hS_c13 3 14 rfl)).trans (eu3_14))) (yc190_3_15) (((hS62 3 15 rfl).trans (eyc190_3_15))) (show inr (z64) by omega) (show 0 ≤ (z64) ∧ (z64) ≤ 20 by omega) (show (u3_14) ≤ (u3_14) ∧ (u3_14) ≤ a5 by omega) (show (z64) ≠ 0 ∨ (u3_15) + 4 ≤ (yc190_3_15) ∧ (yc190_3_15) ≤ (u1_1) by omega))
          refine Ew_of (pc' := 114) (fun _ => x_iload_n rfl (rk_o (rk_o (rk2_o (rk_o (lc13_3) rfl rfl) rfl rfl) rfl rfl) rfl rfl)) ?_
          refine Ew_of (pc' := 116) (fun _ => x_bipush (z := 16) rfl (by decide)) ?_
          refine w_iand rfl (show inr (a2) by omega) (show inr (16) by omega) (fun z65 gz65 gaz65 gbz65 => ?_)
          refine w_ifeq (t := 190) rfl rfl (show inr (z65) by omega) (fun b66 => ?_) (fun b66 => ?_)
          · exact hc190  _ σ _ _  (rk_o (rk_o (rk2_o (rk_o (lc13_0) rfl rfl) rfl rfl) rfl rfl) rfl rfl) (rk_o (rk_o (rk2_o (rk_o (lc13_3) rfl rfl) rfl rfl) rfl rfl) rfl rfl) (rk_o (rk_o (rk2_o (rk_o (lc13_5) rfl rfl) rfl rfl) rfl rfl) rfl rfl) (rk_o (rk_o (rk2_o (rk_o (lc13_6) rfl rfl) rfl rfl) rfl rfl) rfl rfl) (rk_o (rk_o (rk2_o (rk_s) rfl rfl) rfl rfl) rfl rfl) (rk_o (rk_o (rk2_s) rfl rfl) rfl rfl) (rk_o (rk_s) rfl rfl) (rk_s) H (SF_refl) (SA_refl) (((u3_15 + 4) + a1)) (rfl)  (show (((u3_15 + 4) + a1)) ≤ (((u3_15 + 4) + a1)) ∧ (((u3_15 + 4) + a1)) ≤ (u1_1) by omega)
          · refine Ew_of (pc' := 121) (fun _ => x_aload_n rfl (rk_o (rk_o (rk2_o (rk_o (lc13_0) rfl rfl) rfl rfl) rfl rfl) rfl rfl)) ?_
            refine Ew_of (pc' := 122) (fun _ => x_iconst rfl) ?_
            refine w_inv H (o := 3) rfl rfl rfl (H.perm 3 rfl) rfl rfl (by rfl) (M379 H (u1_1) (((hS_c13 1 1 rfl).trans (eu1_1))) (((u3_15 + 4) + a1)) (rfl) (show inr (4) by omega) (show 0 ≤ (4) ∧ (4) ≤ 65536 by omega) (show 0 ≤ (((u3_15 + 4) + a1)) ∧ (((u3_15 + 4) + a1)) ≤ 70000 by omega) (fun z71 σ F67 A68 H hS69 hA70 pz71_0 pz71_1 => ⟨rretB rfl pz71_0, ?_⟩))
            refine w_ifne (t := 141) rfl rfl (show inr (z71) by omega) (fun b72 => ?_) (fun b72 => ?_)
            · refine Ew_of (pc' := 142) (fun _ => x_aload_n rfl (rk_o (rk_o (rk2_o (rk_o (lc13_0) rfl rfl) rfl rfl) rfl rfl) rfl rfl)) ?_
              refine Ew_of (pc' := 143) (fun _ => x_aload_n rfl (rk_o (rk_o (rk2_o (rk_o (lc13_0) rfl rfl) rfl rfl) rfl rfl) rfl rfl)) ?_
              refine w_gI H (o := 3) (w := ((u3_15 + 4) + a1)) rfl (H.perm 3 rfl) rfl rfl rfl (fun _ => rfl) (hS69 3 15 rfl) ?_
              refine Ew_of (pc' := 147) (fun _ => x_iconst rfl) ?_
              refine w_inv H (o := 3) rfl rfl rfl (H.perm 3 rfl) rfl rfl (by rfl) (M380 H (show inr (((u3_15 + 4) + a1)) by omega) (show inr (4) by omega) (show 0 ≤ (((u3_15 + 4) + a1)) ∧ 0 ≤ (4) ∧ (4) ≤ 8 ∧ (((u3_15 + 4) + a1)) + (4) ≤ 65536 by omega) (fun z77 σ F73 A74 H hS75 hA76 pz77_0 pz77_1 pz77_2 pz77_3 pz77_4 pz77_5 => ⟨rfl, ?_⟩))
              refine Ew_of (pc' := 151) (fun _ => x_aload_n rfl (rk_o (rk_o (rk2_o (rk_o (lc13_0) rfl rfl) rfl rfl) rfl rfl) rfl rfl)) ?_
              refine Ew_of (pc' := 152) (fun _ => x_aload_n rfl (rk_o (rk_o (rk2_o (rk_o (lc13_0) rfl rfl) rfl rfl) rfl rfl) rfl rfl)) ?_
              refine w_gT H (o := 3) (t := 1) rfl (H.perm 3 rfl) rfl rfl rfl rfl rfl rfl ?_
              refine w_gT H (o := 1) (t := 14) rfl (H.perm 1 rfl) rfl rfl rfl rfl rfl rfl ?_
              refine Ew_of (pc' := 160) (fun _ => x_iload rfl (rk_o (rk_s) rfl rfl)) ?_
              refine Ew_of (pc' := 162) (fun _ => x_iload rfl rk_s) ?_
              refine w_inv H (o := 3) rfl rfl rfl (H.perm 3 rfl) rfl rfl (by rfl) (M359_14 H (show inr ((u3_15 + 4)) by omega) (show inr (((u3_15 + 4) + a1)) by omega) (show 0 ≤ ((u3_15 + 4)) ∧ ((u3_15 + 4)) ≤ (((u3_15 + 4) + a1)) ∧ (((u3_15 + 4) + a1)) ≤ 65536 by omega) (fun z82 σ F78 A79 H hS80 hA81 pz82_0 => ⟨rfl, ?_⟩))
              refine w_lcmp rfl (show inrJ (z77) by omega) (show inrJ (z82) by omega) (fun z83 gz83 gaz83 gbz83 => ?_)
              refine w_ifeq (t := 180) rfl rfl (show inr (z83) by omega) (fun b84 => ?_) (fun b84 => ?_)
              · refine Ew_of (pc' := 181) (fun _ => x_aload_n rfl (rk_o (rk_o (rk2_o (rk_o (lc13_0) rfl rfl) rfl rfl) rfl rfl) rfl rfl)) ?_
                refine Ew_of (pc' := 182) (fun _ => x_dup rfl rfl) ?_
                refine w_gI H (o := 3) (w := ((u3_15 + 4) + a1)) rfl (H.perm 3 rfl) rfl rfl rfl (fun _ => rfl) (((hS80 3 15 rfl).trans (hS75 3 15 rfl)).trans (hS69 3 15 rfl)) ?_
                refine Ew_of (pc' := 186) (fun _ => x_iconst rfl) ?_
                refine w_iadd rfl ?_
                refine w_pI H (o := 3) rfl rfl (H.perm 3 rfl) rfl rfl rfl (fun _ => rfl) rfl (show (-2147483648 : Int) ≤ (((u3_15 + 4) + a1) + 4) ∧ (((u3_15 + 4) + a1) + 4) ≤ 2147483647 by omega) (fun σ H => ?_)
                exact hc190  _ σ _ _  (rk_o (rk_o (rk2_o (rk_o (lc13_0) rfl rfl) rfl rfl) rfl rfl) rfl rfl) (rk_o (rk_o (rk2_o (rk_o (lc13_3) rfl rfl) rfl rfl) rfl rfl) rfl rfl) (rk_o (rk_o (rk2_o (rk_o (lc13_5) rfl rfl) rfl rfl) rfl rfl) rfl rfl) (rk_o (rk_o (rk2_o (rk_o (lc13_6) rfl rfl) rfl rfl) rfl rfl) rfl rfl) (rk_o (rk_o (rk2_o (rk_s) rfl rfl) rfl rfl) rfl rfl) (rk_o (rk_o (rk2_s) rfl rfl) rfl rfl) (rk_o (rk_s) rfl rfl) (rk_s) H (SF_upd (SF_trans (SF_trans (SF_trans (SF_refl) hS69 (any_sub rfl)) hS75 (any_sub rfl)) hS80 (any_sub rfl)) rfl) (SA_trans (SA_trans (SA_trans (SA_refl) hA70 (any_subA rfl)) hA76 (any_subA rfl)) hA81 (any_subA rfl)) ((((u3_15 + 4) + a1) + 4)) (rfl)  (show (((u3_15 + 4) + a1)) ≤ ((((u3_15 + 4) + a1) + 4)) ∧ ((((u3_15 + 4) + a1) + 4)) ≤ (u1_1) by omega)
              · refine Ew_of (pc' := 170) (fun _ => x_aload_n rfl (rk_o (rk_o (rk2_o (rk_o (lc13_0) rfl rfl) rfl rfl) rfl rfl) rfl rfl)) ?_
                refine Ew_of (pc' := 172) (fun _ => x_bipush (z := 8) rfl (by decide)) ?_
                refine Ew_of (pc' := 173) (fun _ => x_aload_n rfl (rk_o (rk_o (rk2_o (rk_o (lc13_0) rfl rfl) rfl rfl) rfl rfl) rfl rfl)) ?_
                refine w_gI H (o := 3) (w := ((u3_15 + 4) + a1)) rfl (H.perm 3 rfl) rfl rfl rfl (fun _ => rfl) (((hS80 3 15 rfl).trans (hS75 3 15 rfl)).trans (hS69 3 15 rfl)) ?_
                refine w_inv H (o := 3) rfl rfl rfl (H.perm 3 rfl) rfl rfl (by rfl) (M381 H (show inr (8) by omega) (show inr (((u3_15 + 4) + a1)) by omega) (fun z89 σ F85 A86 H hS87 hA88 pz89_0 pz89_1 => ⟨rfl, ?_⟩))
                exact w_ireturn rfl (k (z89) σ _ _ H (SF_trans (SF_trans (SF_trans (SF_trans (SF_upd (SF_upd (SF_trans (SF_refl) hS_c13 (any_sub rfl)) rfl) rfl) hS69 (any_sub rfl)) hS75 (any_sub rfl)) hS80 (any_sub rfl)) hS87 (any_sub rfl)) (SA_trans (SA_trans (SA_trans (SA_trans (SA_trans (SA_refl) hA_c13 (any_subA rfl)) hA70 (any_subA rfl)) hA76 (any_subA rfl)) hA81 (any_subA rfl)) hA88 (any_subA rfl)) (u3_14) (((((((hS87 3 14 rfl).trans (hS80 3 14 rfl)).trans (hS75 3 14 rfl)).trans (hS69 3 14 rfl)).trans (hS_c13 3 14 rfl)).trans (eu3_14))) (((u3_15 + 4) + a1)) (((((hS87 3 15 rfl).trans (hS80 3 15 rfl)).trans (hS75 3 15 rfl)).trans (hS69 3 15 rfl))) (show inr (z89) by omega) (show 0 ≤ (z89) ∧ (z89) ≤ 20 by omega) (show (u3_14) ≤ (u3_14) ∧ (u3_14) ≤ a5 by omega) (show (z89) ≠ 0 ∨ (u3_15) + 4 ≤ (((u3_15 + 4) + a1)) ∧ (((u3_15 + 4) + a1)) ≤ (u1_1) by omega))
            · refine Ew_of (pc' := 129) (fun _ => x_aload_n rfl (rk_o (rk_o (rk2_o (rk_o (lc13_0) rfl rfl) rfl rfl) rfl rfl) rfl rfl)) ?_
              refine Ew_of (pc' := 130) (fun _ => x_iconst rfl) ?_
              refine Ew_of (pc' := 131) (fun _ => x_aload_n rfl (rk_o (rk_o (rk2_o (rk_o (lc13_0) rfl rfl) rfl rfl) rfl rfl) rfl rfl)) ?_
              refine w_gT H (o := 3) (t := 1) rfl (H.perm 3 rfl) rfl rfl rfl rfl rfl rfl ?_
              refine w_gI H (o := 1) (w := u1_1) rfl (H.perm 1 rfl) rfl rfl rfl (fun _ => rfl) (((hS69 1 1 rfl).trans (hS_c13 1 1 rfl)).trans (eu1_1)) ?_
              refine w_inv H (o := 3) rfl rfl rfl (H.perm 3 rfl) rfl rfl (by rfl) (M381 H (show inr (1) by omega) (show inr (u1_1) by omega) (fun z94 σ F90 A91 H hS92 hA93 pz94_0 pz94_1 => ⟨rfl, ?_⟩))
              exact w_ireturn rfl (k (z94) σ _ _ H (SF_trans (SF_trans (SF_upd (SF_upd (SF_trans (SF_refl) hS_c13 (any_sub rfl)) rfl) rfl) hS69 (any_sub rfl)) hS92 (any_sub rfl)) (SA_trans (SA_trans (SA_trans (SA_refl) hA_c13 (any_subA rfl)) hA70 (any_subA rfl)) hA93 (any_subA rfl)) (u3_14) (((((hS92 3 14 rfl).trans (hS69 3 14 rfl)).trans (hS_c13 3 14 rfl)).trans (eu3_14))) (((u3_15 + 4) + a1)) (((hS92 3 15 rfl).trans (hS69 3 15 rfl))) (show inr (z94) by omega) (show 0 ≤ (z94) ∧ (z94) ≤ 20 by omega) (show (u3_14) ≤ (u3_14) ∧ (u3_14) ≤ a5 by omega) (show (z94) ≠ 0 ∨ (u3_15) + 4 ≤ (((u3_15 + 4) + a1)) ∧ (((u3_15 + 4) + a1)) ≤ (u1_1) by omega))
        · refine Ew_of (pc' := 87) (fun _ => x_aload_n rfl (rk_o (rk2_o (rk_o (lc13_0) rfl rfl) rfl rfl) rfl rfl)) ?_
          refine Ew_of (pc' := 88) (fun _ => x_iconst rfl) ?_
          refine Ew_of (pc' := 89) (fun _ => x_aload_n rfl (rk_o (rk2_o (rk_o (lc13_0) rfl rfl) rfl rfl) rfl rfl)) ?_
          refine w_gT H (o := 3) (t := 1) rfl (H.perm 3 rfl) rfl rfl rfl rfl rfl rfl ?_
          refine w_gI H (o := 1) (w := u1_1) rfl (H.perm 1 rfl) rfl rfl rfl (fun _ => rfl) ((hS_c13 1 1 rfl).trans (eu1_1)) ?_
          refine w_inv H (o := 3) rfl rfl rfl (H.perm 3 rfl) rfl rfl (by rfl) (M381 H (show inr (1) by omega) (show inr (u1_1) by omega) (fun z99 σ F95 A96 H hS97 hA98 pz99_0 pz99_1 => ⟨rfl, ?_⟩))
          exact w_ireturn rfl (k (z99) σ _ _ H (SF_trans (SF_upd (SF_trans (SF_refl) hS_c13 (any_sub rfl)) rfl) hS97 (any_sub rfl)) (SA_trans (SA_trans (SA_refl) hA_c13 (any_subA rfl)) hA98 (any_subA rfl)) (u3_14) ((((hS97 3 14 rfl).trans (hS_c13 3 14 rfl)).trans (eu3_14))) ((u3_15 + 4)) ((hS97 3 15 rfl)) (show inr (z99) by omega) (show 0 ≤ (z99) ∧ (z99) ≤ 20 by omega) (show (u3_14) ≤ (u3_14) ∧ (u3_14) ≤ a5 by omega) (show (z99) ≠ 0 ∨ (u3_15) + 4 ≤ ((u3_15 + 4)) ∧ ((u3_15 + 4)) ≤ (u1_1) by omega))
      · refine Ew_of (pc' := 41) (fun _ => x_aload_n rfl (rk2_o (rk_o (lc13_0) rfl rfl) rfl rfl)) ?_
        refine Ew_of (pc' := 43) (fun _ => x_bipush (z := 7) rfl (by decide)) ?_
        refine Ew_of (pc' := 44) (fun _ => x_aload_n rfl (rk2_o (rk_o (lc13_0) rfl rfl) rfl rfl)) ?_
        refine w_gI H (o := 3) (w := u3_15) rfl (H.perm 3 rfl) rfl rfl rfl (fun _ => rfl) ((hS_c13 3 15 rfl).trans (eu3_15)) ?_
        refine w_inv H (o := 3) rfl rfl rfl (H.perm 3 rfl) rfl rfl (by rfl) (M381 H (show inr (7) by omega) (show inr (u3_15) by omega) (fun z104 σ F100 A101 H hS102 hA103 pz104_0 pz104_1 => ⟨rfl, ?_⟩))
        exact w_ireturn rfl (k (z104) σ _ _ H (SF_trans (SF_trans (SF_refl) hS_c13 (any_sub rfl)) hS102 (any_sub rfl)) (SA_trans (SA_trans (SA_refl) hA_c13 (any_subA rfl)) hA103 (any_subA rfl)) (u3_14) ((((hS102 3 14 rfl).trans (hS_c13 3 14 rfl)).trans (eu3_14))) (u3_15) ((((hS102 3 15 rfl).trans (hS_c13 3 15 rfl)).trans (eu3_15))) (show inr (z104) by omega) (show 0 ≤ (z104) ∧ (z104) ≤ 20 by omega) (show (u3_14) ≤ (u3_14) ∧ (u3_14) ≤ a5 by omega) (show (z104) ≠ 0 ∨ (u3_15) + 4 ≤ (u3_15) ∧ (u3_15) ≤ (u1_1) by omega))
    · refine Ew_of (pc' := 21) (fun _ => x_lload_n rfl (rk_o (lc13_1) rfl rfl)) ?_
      refine Ew_of (pc' := 24) (fun _ => x_ldc2 (z := 2147483648) rfl (by decide)) ?_
      refine w_lsub rfl ?_
      refine Ew_of (pc' := 29) (fun _ => x_goto rfl rfl) ?_
      refine Ew_of (pc' := 31) (fun _ => x_lstore rfl) ?_
      refine Ew_of (pc' := 33) (fun _ => x_lload rfl rk2_s) ?_
      refine Ew_of (pc' := 35) (fun _ => x_iload rfl (rk2_o (rk_o (lc13_4) rfl rfl) rfl rfl)) ?_
      refine w_i2l rfl (show inr (a3) by omega) ?_
      refine w_lcmp rfl (show inrJ ((a1 - 2147483648)) by omega) (show inrJ (a3) by omega) (fun z105 gz105 gaz105 gbz105 => ?_)
      refine w_ifle (t := 51) rfl rfl (show inr (z105) by omega) (fun b106 => ?_) (fun b106 => ?_)
      · refine Ew_of (pc' := 52) (fun _ => x_aload_n rfl (rk2_o (rk_o (lc13_0) rfl rfl) rfl rfl)) ?_
        refine Ew_of (pc' := 53) (fun _ => x_dup rfl rfl) ?_
        refine w_gI H (o := 3) (w := u3_15) rfl (H.perm 3 rfl) rfl rfl rfl (fun _ => rfl) ((hS_c13 3 15 rfl).trans (eu3_15)) ?_
        refine Ew_of (pc' := 57) (fun _ => x_iconst rfl) ?_
        refine w_iadd rfl ?_
        refine w_pI H (o := 3) rfl rfl (H.perm 3 rfl) rfl rfl rfl (fun _ => rfl) rfl (show (-2147483648 : Int) ≤ (u3_15 + 4) ∧ (u3_15 + 4) ≤ 2147483647 by omega) (fun σ H => ?_)
        refine Ew_of (pc' := 62) (fun _ => x_aload_n rfl (rk2_o (rk_o (lc13_0) rfl rfl) rfl rfl)) ?_
        refine w_gI H (o := 3) (w := (u3_15 + 4)) rfl (H.perm 3 rfl) rfl rfl rfl (fun _ => rfl) rfl ?_
        refine Ew_of (pc' := 67) (fun _ => x_istore rfl) ?_
        refine Ew_of (pc' := 69) (fun _ => x_lload rfl (rk_o (rk2_s) rfl rfl)) ?_
        refine Ew_of (pc' := 70) (fun _ => x_aload_n rfl (rk_o (rk2_o (rk_o (lc13_0) rfl rfl) rfl rfl) rfl rfl)) ?_
        refine w_gT H (o := 3) (t := 1) rfl (H.perm 3 rfl) rfl rfl rfl rfl rfl rfl ?_
        refine w_gI H (o := 1) (w := u1_1) rfl (H.perm 1 rfl) rfl rfl rfl (fun _ => rfl) ((hS_c13 1 1 rfl).trans (eu1_1)) ?_
        refine Ew_of (pc' := 77) (fun _ => x_aload_n rfl (rk_o (rk2_o (rk_o (lc13_0) rfl rfl) rfl rfl) rfl rfl)) ?_
        refine w_gI H (o := 3) (w := (u3_15 + 4)) rfl (H.perm 3 rfl) rfl rfl rfl (fun _ => rfl) rfl ?_
        refine w_isub rfl ?_
        refine w_i2l rfl (show inr ((u1_1 - (u3_15 + 4))) by omega) ?_
        refine w_lcmp rfl (show inrJ ((a1 - 2147483648)) by omega) (show inrJ ((u1_1 - (u3_15 + 4))) by omega) (fun z107 gz107 gaz107 gbz107 => ?_)
        refine w_ifle (t := 99) rfl rfl (show inr (z107) by omega) (fun b108 => ?_) (fun b108 => ?_)
        · refine Ew_of (pc' := 101) (fun _ => x_iload rfl rk_s) ?_
          refine Ew_of (pc' := 103) (fun _ => x_lload rfl (rk_o (rk2_s) rfl rfl)) ?_
          refine w_l2i rfl ?_
          refine w_iadd rfl ?_
          refine Ew_of (pc' := 107) (fun _ => x_istore rfl) ?_
          refine Ew_of (pc' := 108) (fun _ => x_aload_n rfl (rk_o (rk_o (rk2_o (rk_o (lc13_0) rfl rfl) rfl rfl) rfl rfl) rfl rfl)) ?_
          refine Ew_of (pc' := 110) (fun _ => x_iload rfl rk_s) ?_
          refine w_pI H (o := 3) rfl rfl (H.perm 3 rfl) rfl rfl rfl (fun _ => rfl) rfl (show (-2147483648 : Int) ≤ ((u3_15 + 4) + (a1 - 2147483648)) ∧ ((u3_15 + 4) + (a1 - 2147483648)) ≤ 2147483647 by omega) (fun σ H => ?_)
          have hc190 : ∀ (ls : rO) (σ : rS) (F_c190 : hF) (A_c190 : hA) , rlook ls 0 = some (.ref (D 3)) → rlook ls 3 = some (I (a2)) → rlook ls 5 = some (I (a4)) → rlook ls 6 = some (I (a5)) → rlook ls 7 = some (I (tc13_0)) → rlook ls 8 = some (J ((a1 - 2147483648))) → rlook ls 10 = some (I ((u3_15 + 4))) → rlook ls 11 = some (I (((u3_15 + 4) + (a1 - 2147483648)))) → HS σ0 σ D N F_c190 A_c190 → SF [(1, 4), (3, 15)] (updF (updF F_c13 3 15 ((u3_15 + 4))) 3 15 (((u3_15 + 4) + (a1 - 2147483648)))) F_c190 → SA [17] A_c13 A_c190 → ∀ yc190_3_15 : Int, F_c190 3 15 = yc190_3_15 → ((((u3_15 + 4) + (a1 - 2147483648))) ≤ (yc190_3_15) ∧ (yc190_3_15) ≤ (u1_1)) → Ew 384 (d + 2) 190 ls [] σ c s Q := by
           as_aux_lemma =>
            intro  ls σ F_c190 A_c190  lc190_0 lc190_3 lc190_5 lc190_6 lc190_7 lc190_8 lc190_10 lc190_11 H hS_c190 hA_c190 yc190_3_15 eyc190_3_15  jc190_0
            have r109 : (-2147483648 : Int) ≤ yc190_3_15 ∧ yc190_3_15 ≤ 2147483647 := by have h1 : (-2147483648 : Int) ≤ F_c190 3 15 ∧ F_c190 3 15 ≤ 2147483647 := H.frng 3 15; rw [show F_c190 3 15 = yc190_3_15 from (eyc190_3_15)] at h1; exact h1
            refine Ew_of (pc' := 191) (fun _ => x_aload_n rfl lc190_0) ?_
            refine w_gI H (o := 3) (w := yc190_3_15) rfl (H.perm 3 rfl) rfl rfl rfl (fun _ => rfl) (eyc190_3_15) ?_
            refine Ew_of (pc' := 196) (fun _ => x_istore rfl) ?_
            refine Ew_of (pc' := 198) (fun _ => x_iload rfl (rk_o (lc190_6) rfl rfl)) ?_
            refine Ew_of (pc' := 199) (fun _ => x_aload_n rfl (rk_o (lc190_0) rfl rfl)) ?_
            refine w_gI H (o := 3) (w := u3_14) rfl (H.perm 3 rfl) rfl rfl rfl (fun _ => rfl) (((hS_c190 3 14 rfl).trans (hS_c13 3 14 rfl)).trans (eu3_14)) ?_
            refine w_isub rfl ?_
            refine Ew_of (pc' := 205) (fun _ => x_istore rfl) ?_
            refine Ew_of (pc' := 207) (fun _ => x_iload rfl (rk_o (rk_o (lc190_7) rfl rfl) rfl rfl)) ?_
            refine w_ifeq (t := 278) rfl rfl (show inr (tc13_0) by omega) (fun b110 => ?_) (fun b110 => ?_)
            · refine Ew_of (pc' := 279) (fun _ => x_aload_n rfl (rk_o (rk_o (lc190_0) rfl rfl) rfl rfl)) ?_
              have r111 : (0 : Int) ≤ F 3 2 ∧ F 3 2 ≤ 65536 := by have h1 : (0 : Int) ≤ F_c190 3 2 ∧ F_c190 3 2 ≤ 65536 := H.frng 3 2; rw [show F_c190 3 2 = F 3 2 from ((hS_c190 3 2 rfl).trans (hS_c13 3 2 rfl))] at h1; exact h1
              refine w_inv H (o := 3) rfl rfl rfl (H.perm 3 rfl) rfl rfl (by rfl) (M373 H (F 3 2) (((hS_c190 3 2 rfl).trans (hS_c13 3 2 rfl)))  (fun σ F112 A113 H hS114 hA115 y117 ey118 pz116_0 => ⟨rfl, ?_⟩))
              have r119 : (-2147483648 : Int) ≤ y117 ∧ y117 ≤ 2147483647 := by have h1 : (-2147483648 : Int) ≤ F112 3 12 ∧ F112 3 12 ≤ 2147483647 := H.frng 3 12; rw [show F112 3 12 = y117 from (ey118)] at h1; exact h1
              refine Ew_of (pc' := 284) (fun _ => x_iload rfl (rk_o (rk_o (lc190_5) rfl rfl) rfl rfl)) ?_
              refine Ew_of (pc' := 286) (fun _ => x_istore rfl) ?_
              suffices hl286 : ∀ (m : Nat), ∀ (ls : rO) (σ : rS) (F_286 : hF) (A_286 : hA) (x286_14 : Int), rlook ls 0 = some (.ref (D 3)) → rlook ls 3 = some (I (a2)) → rlook ls 10 = some (I ((u3_15 + 4))) → rlook ls 11 = some (I (((u3_15 + 4) + (a1 - 2147483648)))) → rlook ls 12 = some (I (yc190_3_15)) → rlook ls 13 = some (I ((a5 - u3_14))) → rlook ls 14 = some (I (x286_14)) → HS σ0 σ D N F_286 A_286 → SF [(3, 12)] F112 F_286 → SA [21] A113 A_286 → ∀ y286_3_12 : Int, F_286 3 12 = y286_3_12 → (inr (x286_14)) → ((a4) ≤ (x286_14)) → ((x286_14) ≤ (a4) ∨ (x286_14) ≤ ((u3_14))) → ((y286_3_12) = (y117) + ((x286_14) - (a4))) → (((u3_14)) - (x286_14)).toNat = m → Ew 384 (d + 2) 286 ls [] σ c s Q from
                hl286 _ _ σ _ _ (a4) (rk_o (rk_o (rk_o (lc190_0) rfl rfl) rfl rfl) rfl rfl) (rk_o (rk_o (rk_o (lc190_3) rfl rfl) rfl rfl) rfl rfl) (rk_o (rk_o (rk_o (lc190_10) rfl rfl) rfl rfl) rfl rfl) (rk_o (rk_o (rk_o (lc190_11) rfl rfl) rfl rfl) rfl rfl) (rk_o (rk_o (rk_s) rfl rfl) rfl rfl) (rk_o (rk_s) rfl rfl) (rk_s) H (SF_refl) (SA_refl) (y117) ((ey118))  (show inr (a4) by omega) (show (a4) ≤ (a4) by omega) (show (a4) ≤ (a4) ∨ (a4) ≤ ((u3_14)) by omega) (show (y117) = (y117) + ((a4) - (a4)) by omega) rfl
              as_aux_lemma =>
              intro m
              induction m using Nat.strongRecOn with
              | _ m ih286 =>
                intro ls σ F_286 A_286 x286_14 l286_0 l286_3 l286_10 l286_11 l286_12 l286_13 l286_14 H hS_286 hA_286 y286_3_12 ey286_3_12  j286_0 j286_1 j286_2 j286_3 hm286
                have r120 : (-2147483648 : Int) ≤ y286_3_12 ∧ y286_3_12 ≤ 2147483647 := by have h1 : (-2147483648 : Int) ≤ F_286 3 12 ∧ F_286 3 12 ≤ 2147483647 := H.frng 3 12; rw [show F_286 3 12 = y286_3_12 from (ey286_3_12)] at h1; exact h1
                refine Ew_of (pc' := 288) (fun _ => x_iload rfl l286_14) ?_
                refine Ew_of (pc' := 289) (fun _ => x_aload_n rfl l286_0) ?_
                refine w_gI H (o := 3) (w := u3_14) rfl (H.perm 3 rfl) rfl rfl rfl (fun _ => rfl) (((((hS_286 3 14 rfl).trans (hS114 3 14 rfl)).trans (hS_c190 3 14 rfl)).trans (hS_c13 3 14 rfl)).trans (eu3_14)) ?_
                refine w_icmpge (t := 334) rfl rfl (show inr (x286_14) by omega) (show inr (u3_14) by omega) (fun b121 => ?_) (fun b121 => ?_)
                · refine Ew_of (pc' := 335) (fun _ => x_aload_n rfl l286_0) ?_
                  refine w_gI H (o := 3) (w := y286_3_12) rfl (H.perm 3 rfl) rfl rfl rfl (fun _ => rfl) (ey286_3_12) ?_
                  refine Ew_of (pc' := 340) (fun _ => x_istore rfl) ?_
                  refine Ew_of (pc' := 341) (fun _ => x_aload_n rfl (rk_o (l286_0) rfl rfl)) ?_
                  refine Ew_of (pc' := 343) (fun _ => x_iload rfl (rk_o (l286_10) rfl rfl)) ?_
                  refine Ew_of (pc' := 345) (fun _ => x_iload rfl (rk_o (l286_11) rfl rfl)) ?_
                  refine Ew_of (pc' := 347) (fun _ => x_iload rfl (rk_o (l286_13) rfl rfl)) ?_
                  refine w_inv H (o := 3) rfl rfl rfl (H.perm 3 rfl) rfl rfl (by rfl) (M372 H (y286_3_12) ((ey286_3_12)) (show inr ((u3_15 + 4)) by omega) (show inr (((u3_15 + 4) + (a1 - 2147483648))) by omega) (show inr ((a5 - u3_14)) by omega) (show 0 ≤ ((u3_15 + 4)) ∧ ((u3_15 + 4)) ≤ (((u3_15 + 4) + (a1 - 2147483648))) ∧ (((u3_15 + 4) + (a1 - 2147483648))) ≤ 65536 ∧ 0 ≤ ((a5 - u3_14)) ∧ ((a5 - u3_14)) ≤ 65536 by omega) (show 0 ≤ (y286_3_12) ∧ (y286_3_12) + ((a5 - u3_14)) ≤ 131072 by omega) (fun z126 σ F122 A123 H hS124 hA125 y127 ey128 pz126_0 pz126_1 pz126_2 => ⟨rfl, ?_⟩))
                  have r129 : (-2147483648 : Int) ≤ y127 ∧ y127 ≤ 2147483647 := by have h1 : (-2147483648 : Int) ≤ F122 3 12 ∧ F122 3 12 ≤ 2147483647 := H.frng 3 12; rw [show F122 3 12 = y127 from (ey128)] at h1; exact h1
                  refine Ew_of (pc' := 352) (fun _ => x_istore rfl) ?_
                  refine Ew_of (pc' := 354) (fun _ => x_iload rfl rk_s) ?_
                  refine w_ifle (t := 371) rfl rfl (show inr (z126) by omega) (fun b130 => ?_) (fun b130 => ?_)
                  · refine Ew_of (pc' := 373) (fun _ => x_iload rfl (rk_o (rk_s) rfl rfl)) ?_
                    refine Ew_of (pc' := 375) (fun _ => x_istore rfl) ?_
                    suffices hl375 : ∀ (m : Nat), ∀ (ls : rO) (σ : rS) (F_375 : hF) (A_375 : hA) (x375_16 : Int), rlook ls 0 = some (.ref (D 3)) → rlook ls 12 = some (I (yc190_3_15)) → rlook ls 16 = some (I (x375_16)) → HS σ0 σ D N F_375 A_375 → SF [(3, 14)] F122 F_375 → SA [22] A123 A_375 → ∀ y375_3_14 : Int, F_375 3 14 = y375_3_14 → (inr (x375_16)) → ((y286_3_12) ≤ (x375_16)) → ((x375_16) ≤ (y286_3_12) ∨ (x375_16) ≤ ((y127))) → ((y375_3_14) = (u3_14) + ((x375_16) - (y286_3_12))) → (((y127)) - (x375_16)).toNat = m → Ew 384 (d + 2) 375 ls [] σ c s Q from
                      hl375 _ _ σ _ _ (y286_3_12) (rk_o (rk_o (rk_o (l286_0) rfl rfl) rfl rfl) rfl rfl) (rk_o (rk_o (rk_o (l286_12) rfl rfl) rfl rfl) rfl rfl) (rk_s) H (SF_refl) (SA_refl) (u3_14) (((((((hS124 3 14 rfl).trans (hS_286 3 14 rfl)).trans (hS114 3 14 rfl)).trans (hS_c190 3 14 rfl)).trans (hS_c13 3 14 rfl)).trans (eu3_14)))  (show inr (y286_3_12) by omega) (show (y286_3_12) ≤ (y286_3_12) by omega) (show (y286_3_12) ≤ (y286_3_12) ∨ (y286_3_12) ≤ ((y127)) by omega) (show (u3_14) = (u3_14) + ((y286_3_12) - (y286_3_12)) by omega) rfl
                    as_aux_lemma =>
                    intro m
                    induction m using Nat.strongRecOn with
                    | _ m ih375 =>
                      intro ls σ F_375 A_375 x375_16 l375_0 l375_12 l375_16 H hS_375 hA_375 y375_3_14 ey375_3_14  j375_0 j375_1 j375_2 j375_3 hm375
                      have r131 : (0 : Int) ≤ y375_3_14 ∧ y375_3_14 ≤ 65536 := by have h1 : (0 : Int) ≤ F_375 3 14 ∧ F_375 3 14 ≤ 65536 := H.frng 3 14; rw [show F_375 3 14 = y375_3_14 from (ey375_3_14)] at h1; exact h1
                      refine Ew_of (pc' := 377) (fun _ => x_iload rfl l375_16) ?_
                      refine Ew_of (pc' := 378) (fun _ => x_aload_n rfl l375_0) ?_
                      refine w_gI H (o := 3) (w := y127) rfl (H.perm 3 rfl) rfl rfl rfl (fun _ => rfl) ((hS_375 3 12 rfl).trans (ey128)) ?_
                      refine w_icmpge (t := 416) rfl rfl (show inr (x375_16) by omega) (show inr (y127) by omega) (fun b132 => ?_) (fun b132 => ?_)
                      · refine Ew_of (pc' := 417) (fun _ => x_aload_n rfl l375_0) ?_
                        refine Ew_of (pc' := 419) (fun _ => x_iload rfl l375_12) ?_
                        refine w_pI H (o := 3) rfl rfl (H.perm 3 rfl) rfl rfl rfl (fun _ => rfl) rfl (show (-2147483648 : Int) ≤ yc190_3_15 ∧ yc190_3_15 ≤ 2147483647 by omega) (fun σ H => ?_)
                        refine Ew_of (pc' := 423) (fun _ => x_iconst rfl) ?_
                        exact w_ireturn rfl (k (0) σ _ _ H (SF_upd (SF_trans (SF_trans (SF_trans (SF_trans (SF_trans (SF_upd (SF_upd (SF_trans (SF_refl) hS_c13 (any_sub rfl)) rfl) rfl) hS_c190 (any_sub rfl)) hS114 (any_sub rfl)) hS_286 (any_sub rfl)) hS124 (any_sub rfl)) hS_375 (any_sub rfl)) rfl) (SA_trans (SA_trans (SA_trans (SA_trans (SA_trans (SA_trans (SA_refl) hA_c13 (any_subA rfl)) hA_c190 (any_subA rfl)) hA115 (any_subA rfl)) hA_286 (any_subA rfl)) hA125 (any_subA rfl)) hA_375 (any_subA rfl)) (y375_3_14) ((ey375_3_14)) (yc190_3_15) (rfl) (show inr (0) by omega) (show 0 ≤ (0) ∧ (0) ≤ 20 by omega) (show (u3_14) ≤ (y375_3_14) ∧ (y375_3_14) ≤ a5 by omega) (show (0) ≠ 0 ∨ (u3_15) + 4 ≤ (yc190_3_15) ∧ (yc190_3_15) ≤ (u1_1) by omega))
                      · refine Ew_of (pc' := 385) (fun _ => x_aload_n rfl l375_0) ?_
                        refine w_gT H (o := 3) (t := 22) rfl (H.perm 3 rfl) rfl rfl rfl rfl rfl rfl ?_
                        refine Ew_of (pc' := 389) (fun _ => x_aload_n rfl l375_0) ?_
                        refine w_gI H (o := 3) (w := y375_3_14) rfl (H.perm 3 rfl) rfl rfl rfl (fun _ => rfl) (ey375_3_14) ?_
                        refine Ew_of (pc' := 393) (fun _ => x_aload_n rfl l375_0) ?_
                        refine w_gT H (o := 3) (t := 21) rfl (H.perm 3 rfl) rfl rfl rfl rfl rfl rfl ?_
                        refine Ew_of (pc' := 398) (fun _ => x_iload rfl l375_16) ?_
                        refine w_lI H (o := 21) (n := 131072) rfl (H.perm 21 rfl) rfl rfl (H.fix 21 rfl rfl) (show 0 ≤ x375_16 ∧ x375_16 < ((131072 : Nat) : Int) by omega) (by decide) (fun v133 ev133 qv133 => ?_)
                        have qv133 : (0 : Int) ≤ v133 ∧ v133 ≤ 255 := qv133
                        have ev133 : (A123 21) (x375_16) = v133 := (congrFun (funext (hA_375 21 rfl)) (x375_16)).symm.trans ev133
                        refine w_sI H (o := 22) (n := 65536) rfl (H.perm 22 rfl) rfl rfl (H.fix 22 rfl rfl) (show 0 ≤ y375_3_14 ∧ y375_3_14 < ((65536 : Nat) : Int) by omega) (by decide) (show (0 : Int) ≤ v133 ∧ v133 ≤ 255 by omega) (fun σ H => ?_)
                        refine Ew_of (pc' := 401) (fun _ => x_aload_n rfl l375_0) ?_
                        refine Ew_of (pc' := 402) (fun _ => x_dup rfl rfl) ?_
                        refine w_gI H (o := 3) (w := y375_3_14) rfl (H.perm 3 rfl) rfl rfl rfl (fun _ => rfl) (ey375_3_14) ?_
                        refine Ew_of (pc' := 406) (fun _ => x_iconst rfl) ?_
                        refine w_iadd rfl ?_
                        refine w_pI H (o := 3) rfl rfl (H.perm 3 rfl) rfl rfl rfl (fun _ => rfl) rfl (show (0 : Int) ≤ (y375_3_14 + 1) ∧ (y375_3_14 + 1) ≤ 65536 by omega) (fun σ H => ?_)
                        refine Ew_of (pc' := 413) (fun _ => x_iinc (len := 3) rfl (l375_16)) ?_
                        refine Ew_of (pc' := 375) (fun _ => x_goto rfl rfl) ?_
                        exact ih375 _ (by omega) _ σ _ _ ((x375_16 + 1)) (rk_o (l375_0) rfl rfl) (rk_o (l375_12) rfl rfl) (rk_s) H (SF_upd (hS_375) rfl) (SA_upd (hA_375) rfl) ((y375_3_14 + 1)) (rfl)  (show inr ((x375_16 + 1)) by omega) (show (y286_3_12) ≤ ((x375_16 + 1)) by omega) (show ((x375_16 + 1)) ≤ (y286_3_12) ∨ ((x375_16 + 1)) ≤ ((y127)) by omega) (show ((y375_3_14 + 1)) = (u3_14) + (((x375_16 + 1)) - (y286_3_12)) by omega) rfl
                  · refine Ew_of (pc' := 359) (fun _ => x_iload rfl rk_s) ?_
                    refine Ew_of (pc' := 360) (fun _ => x_iconst rfl) ?_
                    refine w_icmpne (t := 368) rfl rfl (show inr (z126) by omega) (show inr (1) by omega) (fun b134 => ?_) (fun b134 => ?_)
                    · refine Ew_of (pc' := 370) (fun _ => x_iload rfl rk_s) ?_
                      have r135 : (-2147483648 : Int) ≤ F122 3 15 ∧ F122 3 15 ≤ 2147483647 := by have h1 : (-2147483648 : Int) ≤ F122 3 15 ∧ F122 3 15 ≤ 2147483647 := H.frng 3 15; rw [show F122 3 15 = F122 3 15 from rfl] at h1; exact h1
                      exact w_ireturn rfl (k (z126) σ _ _ H (SF_trans (SF_trans (SF_trans (SF_trans (SF_upd (SF_upd (SF_trans (SF_refl) hS_c13 (any_sub rfl)) rfl) rfl) hS_c190 (any_sub rfl)) hS114 (any_sub rfl)) hS_286 (any_sub rfl)) hS124 (any_sub rfl)) (SA_trans (SA_trans (SA_trans (SA_trans (SA_trans (SA_refl) hA_c13 (any_subA rfl)) hA_c190 (any_subA rfl)) hA115 (any_subA rfl)) hA_286 (any_subA rfl)) hA125 (any_subA rfl)) (u3_14) (((((((hS124 3 14 rfl).trans (hS_286 3 14 rfl)).trans (hS114 3 14 rfl)).trans (hS_c190 3 14 rfl)).trans (hS_c13 3 14 rfl)).trans (eu3_14))) (F122 3 15) (rfl) (show inr (z126) by omega) (show 0 ≤ (z126) ∧ (z126) ≤ 20 by omega) (show (u3_14) ≤ (u3_14) ∧ (u3_14) ≤ a5 by omega) (show (z126) ≠ 0 ∨ (u3_15) + 4 ≤ (F122 3 15) ∧ (F122 3 15) ≤ (u1_1) by omega))
                    · refine Ew_of (pc' := 365) (fun _ => x_bipush (z := 9) rfl (by decide)) ?_
                      refine Ew_of (pc' := 370) (fun _ => x_goto rfl rfl) ?_
                      have r136 : (-2147483648 : Int) ≤ F122 3 15 ∧ F122 3 15 ≤ 2147483647 := by have h1 : (-2147483648 : Int) ≤ F122 3 15 ∧ F122 3 15 ≤ 2147483647 := H.frng 3 15; rw [show F122 3 15 = F122 3 15 from rfl] at h1; exact h1
                      exact w_ireturn rfl (k (9) σ _ _ H (SF_trans (SF_trans (SF_trans (SF_trans (SF_upd (SF_upd (SF_trans (SF_refl) hS_c13 (any_sub rfl)) rfl) rfl) hS_c190 (any_sub rfl)) hS114 (any_sub rfl)) hS_286 (any_sub rfl)) hS124 (any_sub rfl)) (SA_trans (SA_trans (SA_trans (SA_trans (SA_trans (SA_refl) hA_c13 (any_subA rfl)) hA_c190 (any_subA rfl)) hA115 (any_subA rfl)) hA_286 (any_subA rfl)) hA125 (any_subA rfl)) (u3_14) (((((((hS124 3 14 rfl).trans (hS_286 3 14 rfl)).trans (hS114 3 14 rfl)).trans (hS_c190 3 14 rfl)).trans (hS_c13 3 14 rfl)).trans (eu3_14))) (F122 3 15) (rfl) (show inr (9) by omega) (show 0 ≤ (9) ∧ (9) ≤ 20 by omega) (show (u3_14) ≤ (u3_14) ∧ (u3_14) ≤ a5 by omega) (show (9) ≠ 0 ∨ (u3_15) + 4 ≤ (F122 3 15) ∧ (F122 3 15) ≤ (u1_1) by omega))
                · refine Ew_of (pc' := 296) (fun _ => x_iload_n rfl l286_3) ?_
                  refine Ew_of (pc' := 298) (fun _ => x_bipush (z := 32) rfl (by decide)) ?_
                  refine w_iand rfl (show inr (a2) by omega) (show inr (32) by omega) (fun z137 gz137 gaz137 gbz137 => ?_)
                  refine w_ifne (t := 334) rfl rfl (show inr (z137) by omega) (fun b138 => ?_) (fun b138 => ?_)
                  · refine Ew_of (pc' := 335) (fun _ => x_aload_n rfl l286_0) ?_
                    refine w_gI H (o := 3) (w := y286_3_12) rfl (H.perm 3 rfl) rfl rfl rfl (fun _ => rfl) (ey286_3_12) ?_
                    refine Ew_of (pc' := 340) (fun _ => x_istore rfl) ?_
                    refine Ew_of (pc' := 341) (fun _ => x_aload_n rfl (rk_o (l286_0) rfl rfl)) ?_
                    refine Ew_of (pc' := 343) (fun _ => x_iload rfl (rk_o (l286_10) rfl rfl)) ?_
                    refine Ew_of (pc' := 345) (fun _ => x_iload rfl (rk_o (l286_11) rfl rfl)) ?_
                    refine Ew_of (pc' := 347) (fun _ => x_iload rfl (rk_o (l286_13) rfl rfl)) ?_
                    refine w_inv H (o := 3) rfl rfl rfl (H.perm 3 rfl) rfl rfl (by rfl) (M372 H (y286_3_12) ((ey286_3_12)) (show inr ((u3_15 + 4)) by omega) (show inr (((u3_15 + 4) + (a1 - 2147483648))) by omega) (show inr ((a5 - u3_14)) by omega) (show 0 ≤ ((u3_15 + 4)) ∧ ((u3_15 + 4)) ≤ (((u3_15 + 4) + (a1 - 2147483648))) ∧ (((u3_15 + 4) + (a1 - 2147483648))) ≤ 65536 ∧ 0 ≤ ((a5 - u3_14)) ∧ ((a5 - u3_14)) ≤ 65536 by omega) (show 0 ≤ (y286_3_12) ∧ (y286_3_12) + ((a5 - u3_14)) ≤ 131072 by omega) (fun z143 σ F139 A140 H hS141 hA142 y144 ey145 pz143_0 pz143_1 pz143_2 => ⟨rfl, ?_⟩))
                    have r146 : (-2147483648 : Int) ≤ y144 ∧ y144 ≤ 2147483647 := by have h1 : (-2147483648 : Int) ≤ F139 3 12 ∧ F139 3 12 ≤ 2147483647 := H.frng 3 12; rw [show F139 3 12 = y144 from (ey145)] at h1; exact h1
                    refine Ew_of (pc' := 352) (fun _ => x_istore rfl) ?_
                    refine Ew_of (pc' := 354) (fun _ => x_iload rfl rk_s) ?_
                    refine w_ifle (t := 371) rfl rfl (show inr (z143) by omega) (fun b147 => ?_) (fun b147 => ?_)
                    · refine Ew_of (pc' := 373) (fun _ => x_iload rfl (rk_o (rk_s) rfl rfl)) ?_
                      refine Ew_of (pc' := 375) (fun _ => x_istore rfl) ?_
                      suffices hl375 : ∀ (m : Nat), ∀ (ls : rO) (σ : rS) (F_375 : hF) (A_375 : hA) (x375_16 : Int), rlook ls 0 = some (.ref (D 3)) → rlook ls 12 = some (I (yc190_3_15)) → rlook ls 16 = some (I (x375_16)) → HS σ0 σ D N F_375 A_375 → SF [(3, 14)] F139 F_375 → SA [22] A140 A_375 → ∀ y375_3_14 : Int, F_375 3 14 = y375_3_14 → (inr (x375_16)) → ((y286_3_12) ≤ (x375_16)) → ((x375_16) ≤ (y286_3_12) ∨ (x375_16) ≤ ((y144))) → ((y375_3_14) = (u3_14) + ((x375_16) - (y286_3_12))) → (((y144)) - (x375_16)).toNat = m → Ew 384 (d + 2) 375 ls [] σ c s Q from
                        hl375 _ _ σ _ _ (y286_3_12) (rk_o (rk_o (rk_o (l286_0) rfl rfl) rfl rfl) rfl rfl) (rk_o (rk_o (rk_o (l286_12) rfl rfl) rfl rfl) rfl rfl) (rk_s) H (SF_refl) (SA_refl) (u3_14) (((((((hS141 3 14 rfl).trans (hS_286 3 14 rfl)).trans (hS114 3 14 rfl)).trans (hS_c190 3 14 rfl)).trans (hS_c13 3 14 rfl)).trans (eu3_14)))  (show inr (y286_3_12) by omega) (show (y286_3_12) ≤ (y286_3_12) by omega) (show (y286_3_12) ≤ (y286_3_12) ∨ (y286_3_12) ≤ ((y144)) by omega) (show (u3_14) = (u3_14) + ((y286_3_12) - (y286_3_12)) by omega) rfl
                      as_aux_lemma =>
                      intro m
                      induction m using Nat.strongRecOn with
                      | _ m ih375 =>
                        intro ls σ F_375 A_375 x375_16 l375_0 l375_12 l375_16 H hS_375 hA_375 y375_3_14 ey375_3_14  j375_0 j375_1 j375_2 j375_3 hm375
                        have r148 : (0 : Int) ≤ y375_3_14 ∧ y375_3_14 ≤ 65536 := by have h1 : (0 : Int) ≤ F_375 3 14 ∧ F_375 3 14 ≤ 65536 := H.frng 3 14; rw [show F_375 3 14 = y375_3_14 from (ey375_3_14)] at h1; exact h1
                        refine Ew_of (pc' := 377) (fun _ => x_iload rfl l375_16) ?_
                        refine Ew_of (pc' := 378) (fun _ => x_aload_n rfl l375_0) ?_
                        refine w_gI H (o := 3) (w := y144) rfl (H.perm 3 rfl) rfl rfl rfl (fun _ => rfl) ((hS_375 3 12 rfl).trans (ey145)) ?_
                        refine w_icmpge (t := 416) rfl rfl (show inr (x375_16) by omega) (show inr (y144) by omega) (fun b149 => ?_) (fun b149 => ?_)
                        · refine Ew_of (pc' := 417) (fun _ => x_aload_n rfl l375_0) ?_
                          refine Ew_of (pc' := 419) (fun _ => x_iload rfl l375_12) ?_
                          refine w_pI H (o := 3) rfl rfl (H.perm 3 rfl) rfl rfl rfl (fun _ => rfl) rfl (show (-2147483648 : Int) ≤ yc190_3_15 ∧ yc190_3_15 ≤ 2147483647 by omega) (fun σ H => ?_)
                          refine Ew_of (pc' := 423) (fun _ => x_iconst rfl) ?_
                          exact w_ireturn rfl (k (0) σ _ _ H (SF_upd (SF_trans (SF_trans (SF_trans (SF_trans (SF_trans (SF_upd (SF_upd (SF_trans (SF_refl) hS_c13 (any_sub rfl)) rfl) rfl) hS_c190 (any_sub rfl)) hS114 (any_sub rfl)) hS_286 (any_sub rfl)) hS141 (any_sub rfl)) hS_375 (any_sub rfl)) rfl) (SA_trans (SA_trans (SA_trans (SA_trans (SA_trans (SA_trans (SA_refl) hA_c13 (any_subA rfl)) hA_c190 (any_subA rfl)) hA115 (any_subA rfl)) hA_286 (any_subA rfl)) hA142 (any_subA rfl)) hA_375 (any_subA rfl)) (y375_3_14) ((ey375_3_14)) (yc190_3_15) (rfl) (show inr (0) by omega) (show 0 ≤ (0) ∧ (0) ≤ 20 by omega) (show (u3_14) ≤ (y375_3_14) ∧ (y375_3_14) ≤ a5 by omega) (show (0) ≠ 0 ∨ (u3_15) + 4 ≤ (yc190_3_15) ∧ (yc190_3_15) ≤ (u1_1) by omega))
                        · refine Ew_of (pc' := 385) (fun _ => x_aload_n rfl l375_0) ?_
                          refine w_gT H (o := 3) (t := 22) rfl (H.perm 3 rfl) rfl rfl rfl rfl rfl rfl ?_
                          refine Ew_of (pc' := 389) (fun _ => x_aload_n rfl l375_0) ?_
                          refine w_gI H (o := 3) (w := y375_3_14) rfl (H.perm 3 rfl) rfl rfl rfl (fun _ => rfl) (ey375_3_14) ?_
                          refine Ew_of (pc' := 393) (fun _ => x_aload_n rfl l375_0) ?_
                          refine w_gT H (o := 3) (t := 21) rfl (H.perm 3 rfl) rfl rfl rfl rfl rfl rfl ?_
                          refine Ew_of (pc' := 398) (fun _ => x_iload rfl l375_16) ?_
                          refine w_lI H (o := 21) (n := 131072) rfl (H.perm 21 rfl) rfl rfl (H.fix 21 rfl rfl) (show 0 ≤ x375_16 ∧ x375_16 < ((131072 : Nat) : Int) by omega) (by decide) (fun v150 ev150 qv150 => ?_)
                          have qv150 : (0 : Int) ≤ v150 ∧ v150 ≤ 255 := qv150
                          have ev150 : (A140 21) (x375_16) = v150 := (congrFun (funext (hA_375 21 rfl)) (x375_16)).symm.trans ev150
                          refine w_sI H (o := 22) (n := 65536) rfl (H.perm 22 rfl) rfl rfl (H.fix 22 rfl rfl) (show 0 ≤ y375_3_14 ∧ y375_3_14 < ((65536 : Nat) : Int) by omega) (by decide) (show (0 : Int) ≤ v150 ∧ v150 ≤ 255 by omega) (fun σ H => ?_)
                          refine Ew_of (pc' := 401) (fun _ => x_aload_n rfl l375_0) ?_
                          refine Ew_of (pc' := 402) (fun _ => x_dup rfl rfl) ?_
                          refine w_gI H (o := 3) (w := y375_3_14) rfl (H.perm 3 rfl) rfl rfl rfl (fun _ => rfl) (ey375_3_14) ?_
                          refine Ew_of (pc' := 406) (fun _ => x_iconst rfl) ?_
                          refine w_iadd rfl ?_
                          refine w_pI H (o := 3) rfl rfl (H.perm 3 rfl) rfl rfl rfl (fun _ => rfl) rfl (show (0 : Int) ≤ (y375_3_14 + 1) ∧ (y375_3_14 + 1) ≤ 65536 by omega) (fun σ H => ?_)
                          refine Ew_of (pc' := 413) (fun _ => x_iinc (len := 3) rfl (l375_16)) ?_
                          refine Ew_of (pc' := 375) (fun _ => x_goto rfl rfl) ?_
                          exact ih375 _ (by omega) _ σ _ _ ((x375_16 + 1)) (rk_o (l375_0) rfl rfl) (rk_o (l375_12) rfl rfl) (rk_s) H (SF_upd (hS_375) rfl) (SA_upd (hA_375) rfl) ((y375_3_14 + 1)) (rfl)  (show inr ((x375_16 + 1)) by omega) (show (y286_3_12) ≤ ((x375_16 + 1)) by omega) (show ((x375_16 + 1)) ≤ (y286_3_12) ∨ ((x375_16 + 1)) ≤ ((y144)) by omega) (show ((y375_3_14 + 1)) = (u3_14) + (((x375_16 + 1)) - (y286_3_12)) by omega) rfl
                    · refine Ew_of (pc' := 359) (fun _ => x_iload rfl rk_s) ?_
                      refine Ew_of (pc' := 360) (fun _ => x_iconst rfl) ?_
                      refine w_icmpne (t := 368) rfl rfl (show inr (z143) by omega) (show inr (1) by omega) (fun b151 => ?_) (fun b151 => ?_)
                      · refine Ew_of (pc' := 370) (fun _ => x_iload rfl rk_s) ?_
                        have r152 : (-2147483648 : Int) ≤ F139 3 15 ∧ F139 3 15 ≤ 2147483647 := by have h1 : (-2147483648 : Int) ≤ F139 3 15 ∧ F139 3 15 ≤ 2147483647 := H.frng 3 15; rw [show F139 3 15 = F139 3 15 from rfl] at h1; exact h1
                        exact w_ireturn rfl (k (z143) σ _ _ H (SF_trans (SF_trans (SF_trans (SF_trans (SF_upd (SF_upd (SF_trans (SF_refl) hS_c13 (any_sub rfl)) rfl) rfl) hS_c190 (any_sub rfl)) hS114 (any_sub rfl)) hS_286 (any_sub rfl)) hS141 (any_sub rfl)) (SA_trans (SA_trans (SA_trans (SA_trans (SA_trans (SA_refl) hA_c13 (any_subA rfl)) hA_c190 (any_subA rfl)) hA115 (any_subA rfl)) hA_286 (any_subA rfl)) hA142 (any_subA rfl)) (u3_14) (((((((hS141 3 14 rfl).trans (hS_286 3 14 rfl)).trans (hS114 3 14 rfl)).trans (hS_c190 3 14 rfl)).trans (hS_c13 3 14 rfl)).trans (eu3_14))) (F139 3 15) (rfl) (show inr (z143) by omega) (show 0 ≤ (z143) ∧ (z143) ≤ 20 by omega) (show (u3_14) ≤ (u3_14) ∧ (u3_14) ≤ a5 by omega) (show (z143) ≠ 0 ∨ (u3_15) + 4 ≤ (F139 3 15) ∧ (F139 3 15) ≤ (u1_1) by omega))
                      · refine Ew_of (pc' := 365) (fun _ => x_bipush (z := 9) rfl (by decide)) ?_
                        refine Ew_of (pc' := 370) (fun _ => x_goto rfl rfl) ?_
                        have r153 : (-2147483648 : Int) ≤ F139 3 15 ∧ F139 3 15 ≤ 2147483647 := by have h1 : (-2147483648 : Int) ≤ F139 3 15 ∧ F139 3 15 ≤ 2147483647 := H.frng 3 15; rw [show F139 3 15 = F139 3 15 from rfl] at h1; exact h1
                        exact w_ireturn rfl (k (9) σ _ _ H (SF_trans (SF_trans (SF_trans (SF_trans (SF_upd (SF_upd (SF_trans (SF_refl) hS_c13 (any_sub rfl)) rfl) rfl) hS_c190 (any_sub rfl)) hS114 (any_sub rfl)) hS_286 (any_sub rfl)) hS141 (any_sub rfl)) (SA_trans (SA_trans (SA_trans (SA_trans (SA_trans (SA_refl) hA_c13 (any_subA rfl)) hA_c190 (any_subA rfl)) hA115 (any_subA rfl)) hA_286 (any_subA rfl)) hA142 (any_subA rfl)) (u3_14) (((((((hS141 3 14 rfl).trans (hS_286 3 14 rfl)).trans (hS114 3 14 rfl)).trans (hS_c190 3 14 rfl)).trans (hS_c13 3 14 rfl)).trans (eu3_14))) (F139 3 15) (rfl) (show inr (9) by omega) (show 0 ≤ (9) ∧ (9) ≤ 20 by omega) (show (u3_14) ≤ (u3_14) ∧ (u3_14) ≤ a5 by omega) (show (9) ≠ 0 ∨ (u3_15) + 4 ≤ (F139 3 15) ∧ (F139 3 15) ≤ (u1_1) by omega))
                  · refine Ew_of (pc' := 303) (fun _ => x_aload_n rfl l286_0) ?_
                    refine w_gT H (o := 3) (t := 21) rfl (H.perm 3 rfl) rfl rfl rfl rfl rfl rfl ?_
                    refine Ew_of (pc' := 307) (fun _ => x_aload_n rfl l286_0) ?_
                    refine w_gI H (o := 3) (w := y286_3_12) rfl (H.perm 3 rfl) rfl rfl rfl (fun _ => rfl) (ey286_3_12) ?_
                    refine Ew_of (pc' := 311) (fun _ => x_aload_n rfl l286_0) ?_
                    refine w_gT H (o := 3) (t := 22) rfl (H.perm 3 rfl) rfl rfl rfl rfl rfl rfl ?_
                    refine Ew_of (pc' := 316) (fun _ => x_iload rfl l286_14) ?_
                    refine w_lI H (o := 22) (n := 65536) rfl (H.perm 22 rfl) rfl rfl (H.fix 22 rfl rfl) (show 0 ≤ x286_14 ∧ x286_14 < ((65536 : Nat) : Int) by omega) (by decide) (fun v154 ev154 qv154 => ?_)
                    have qv154 : (0 : Int) ≤ v154 ∧ v154 ≤ 255 := qv154
                    have ev154 : (A 22) (x286_14) = v154 := (congrFun ((funext (hA_286 22 rfl)).trans ((funext (hA115 22 rfl)).trans ((funext (hA_c190 22 rfl)).trans (funext (hA_c13 22 rfl))))) (x286_14)).symm.trans ev154
                    refine w_sI H (o := 21) (n := 131072) rfl (H.perm 21 rfl) rfl rfl (H.fix 21 rfl rfl) (show 0 ≤ y286_3_12 ∧ y286_3_12 < ((131072 : Nat) : Int) by omega) (by decide) (show (0 : Int) ≤ v154 ∧ v154 ≤ 255 by omega) (fun σ H => ?_)
                    refine Ew_of (pc' := 319) (fun _ => x_aload_n rfl l286_0) ?_
                    refine Ew_of (pc' := 320) (fun _ => x_dup rfl rfl) ?_
                    refine w_gI H (o := 3) (w := y286_3_12) rfl (H.perm 3 rfl) rfl rfl rfl (fun _ => rfl) (ey286_3_12) ?_
                    refine Ew_of (pc' := 324) (fun _ => x_iconst rfl) ?_
                    refine w_iadd rfl ?_
                    refine w_pI H (o := 3) rfl rfl (H.perm 3 rfl) rfl rfl rfl (fun _ => rfl) rfl (show (-2147483648 : Int) ≤ (y286_3_12 + 1) ∧ (y286_3_12 + 1) ≤ 2147483647 by omega) (fun σ H => ?_)
                    refine Ew_of (pc' := 331) (fun _ => x_iinc (len := 3) rfl (l286_14)) ?_
                    refine Ew_of (pc' := 286) (fun _ => x_goto rfl rfl) ?_
                    exact ih286 _ (by omega) _ σ _ _ ((x286_14 + 1)) (rk_o (l286_0) rfl rfl) (rk_o (l286_3) rfl rfl) (rk_o (l286_10) rfl rfl) (rk_o (l286_11) rfl rfl) (rk_o (l286_12) rfl rfl) (rk_o (l286_13) rfl rfl) (rk_s) H (SF_upd (hS_286) rfl) (SA_upd (hA_286) rfl) ((y286_3_12 + 1)) (rfl)  (show inr ((x286_14 + 1)) by omega) (show (a4) ≤ ((x286_14 + 1)) by omega) (show ((x286_14 + 1)) ≤ (a4) ∨ ((x286_14 + 1)) ≤ ((u3_14)) by omega) (show ((y286_3_12 + 1)) = (y117) + (((x286_14 + 1)) - (a4)) by omega) rfl
            · refine Ew_of (pc' := 212) (fun _ => x_lload rfl (rk_o (rk_o (lc190_8) rfl rfl) rfl rfl)) ?_
              refine Ew_of (pc' := 214) (fun _ => x_iload rfl rk_s) ?_
              refine w_i2l rfl (show inr ((a5 - u3_14)) by omega) ?_
              refine w_lcmp rfl (show inrJ ((a1 - 2147483648)) by omega) (show inrJ ((a5 - u3_14)) by omega) (fun z155 gz155 gaz155 gbz155 => ?_)
              refine w_ifle (t := 230) rfl rfl (show inr (z155) by omega) (fun b156 => ?_) (fun b156 => ?_)
              · refine Ew_of (pc' := 232) (fun _ => x_iload rfl (rk_o (rk_o (lc190_10) rfl rfl) rfl rfl)) ?_
                refine Ew_of (pc' := 234) (fun _ => x_istore rfl) ?_
                suffices hl234 : ∀ (m : Nat), ∀ (ls : rO) (σ : rS) (F_234 : hF) (A_234 : hA) (x234_14 : Int), rlook ls 0 = some (.ref (D 3)) → rlook ls 11 = some (I (((u3_15 + 4) + (a1 - 2147483648)))) → rlook ls 14 = some (I (x234_14)) → HS σ0 σ D N F_234 A_234 → SF [(3, 14)] F_c190 F_234 → SA [22] A_c190 A_234 → ∀ y234_3_14 : Int, F_234 3 14 = y234_3_14 → (inr (x234_14)) → (((u3_15 + 4)) ≤ (x234_14)) → ((x234_14) ≤ ((u3_15 + 4)) ∨ (x234_14) ≤ ((((u3_15 + 4) + (a1 - 2147483648))))) → ((y234_3_14) = (u3_14) + ((x234_14) - ((u3_15 + 4)))) → (((((u3_15 + 4) + (a1 - 2147483648)))) - (x234_14)).toNat = m → Ew 384 (d + 2) 234 ls [] σ c s Q from
                  hl234 _ _ σ _ _ ((u3_15 + 4)) (rk_o (rk_o (rk_o (lc190_0) rfl rfl) rfl rfl) rfl rfl) (rk_o (rk_o (rk_o (lc190_11) rfl rfl) rfl rfl) rfl rfl) (rk_s) H (SF_refl) (SA_refl) (u3_14) ((((hS_c190 3 14 rfl).trans (hS_c13 3 14 rfl)).trans (eu3_14)))  (show inr ((u3_15 + 4)) by omega) (show ((u3_15 + 4)) ≤ ((u3_15 + 4)) by omega) (show ((u3_15 + 4)) ≤ ((u3_15 + 4)) ∨ ((u3_15 + 4)) ≤ ((((u3_15 + 4) + (a1 - 2147483648)))) by omega) (show (u3_14) = (u3_14) + (((u3_15 + 4)) - ((u3_15 + 4))) by omega) rfl
                as_aux_lemma =>
                intro m
                induction m using Nat.strongRecOn with
                | _ m ih234 =>
                  intro ls σ F_234 A_234 x234_14 l234_0 l234_11 l234_14 H hS_234 hA_234 y234_3_14 ey234_3_14  j234_0 j234_1 j234_2 j234_3 hm234
                  have r157 : (0 : Int) ≤ y234_3_14 ∧ y234_3_14 ≤ 65536 := by have h1 : (0 : Int) ≤ F_234 3 14 ∧ F_234 3 14 ≤ 65536 := H.frng 3 14; rw [show F_234 3 14 = y234_3_14 from (ey234_3_14)] at h1; exact h1
                  refine Ew_of (pc' := 236) (fun _ => x_iload rfl l234_14) ?_
                  refine Ew_of (pc' := 238) (fun _ => x_iload rfl l234_11) ?_
                  refine w_icmpge (t := 276) rfl rfl (show inr (x234_14) by omega) (show inr (((u3_15 + 4) + (a1 - 2147483648))) by omega) (fun b158 => ?_) (fun b158 => ?_)
                  · refine Ew_of (pc' := 277) (fun _ => x_iconst rfl) ?_
                    exact w_ireturn rfl (k (0) σ _ _ H (SF_trans (SF_trans (SF_upd (SF_upd (SF_trans (SF_refl) hS_c13 (any_sub rfl)) rfl) rfl) hS_c190 (any_sub rfl)) hS_234 (any_sub rfl)) (SA_trans (SA_trans (SA_trans (SA_refl) hA_c13 (any_subA rfl)) hA_c190 (any_subA rfl)) hA_234 (any_subA rfl)) (y234_3_14) ((ey234_3_14)) (yc190_3_15) (((hS_234 3 15 rfl).trans (eyc190_3_15))) (show inr (0) by omega) (show 0 ≤ (0) ∧ (0) ≤ 20 by omega) (show (u3_14) ≤ (y234_3_14) ∧ (y234_3_14) ≤ a5 by omega) (show (0) ≠ 0 ∨ (u3_15) + 4 ≤ (yc190_3_15) ∧ (yc190_3_15) ≤ (u1_1) by omega))
                  · refine Ew_of (pc' := 242) (fun _ => x_aload_n rfl l234_0) ?_
                    refine w_gT H (o := 3) (t := 22) rfl (H.perm 3 rfl) rfl rfl rfl rfl rfl rfl ?_
                    refine Ew_of (pc' := 246) (fun _ => x_aload_n rfl l234_0) ?_
                    refine w_gI H (o := 3) (w := y234_3_14) rfl (H.perm 3 rfl) rfl rfl rfl (fun _ => rfl) (ey234_3_14) ?_
                    refine Ew_of (pc' := 250) (fun _ => x_aload_n rfl l234_0) ?_
                    refine w_gT H (o := 3) (t := 1) rfl (H.perm 3 rfl) rfl rfl rfl rfl rfl rfl ?_
                    refine w_gT H (o := 1) (t := 14) rfl (H.perm 1 rfl) rfl rfl rfl rfl rfl rfl ?_
                    refine Ew_of (pc' := 258) (fun _ => x_iload rfl l234_14) ?_
                    refine w_lI H (o := 14) (n := 65536) rfl (H.perm 14 rfl) rfl rfl (H.fix 14 rfl rfl) (show 0 ≤ x234_14 ∧ x234_14 < ((65536 : Nat) : Int) by omega) (by decide) (fun v159 ev159 qv159 => ?_)
                    have qv159 : (0 : Int) ≤ v159 ∧ v159 ≤ 255 := qv159
                    have ev159 : (A 14) (x234_14) = v159 := (congrFun ((funext (hA_234 14 rfl)).trans ((funext (hA_c190 14 rfl)).trans (funext (hA_c13 14 rfl)))) (x234_14)).symm.trans ev159
                    refine w_sI H (o := 22) (n := 65536) rfl (H.perm 22 rfl) rfl rfl (H.fix 22 rfl rfl) (show 0 ≤ y234_3_14 ∧ y234_3_14 < ((65536 : Nat) : Int) by omega) (by decide) (show (0 : Int) ≤ v159 ∧ v159 ≤ 255 by omega) (fun σ H => ?_)
                    refine Ew_of (pc' := 261) (fun _ => x_aload_n rfl l234_0) ?_
                    refine Ew_of (pc' := 262) (fun _ => x_dup rfl rfl) ?_
                    refine w_gI H (o := 3) (w := y234_3_14) rfl (H.perm 3 rfl) rfl rfl rfl (fun _ => rfl) (ey234_3_14) ?_
                    refine Ew_of (pc' := 266) (fun _ => x_iconst rfl) ?_
                    refine w_iadd rfl ?_
                    refine w_pI H (o := 3) rfl rfl (H.perm 3 rfl) rfl rfl rfl (fun _ => rfl) rfl (show (0 : Int) ≤ (y234_3_14 + 1) ∧ (y234_3_14 + 1) ≤ 65536 by omega) (fun σ H => ?_)
                    refine Ew_of (pc' := 273) (fun _ => x_iinc (len := 3) rfl (l234_14)) ?_
                    refine Ew_of (pc' := 234) (fun _ => x_goto rfl rfl) ?_
                    exact ih234 _ (by omega) _ σ _ _ ((x234_14 + 1)) (rk_o (l234_0) rfl rfl) (rk_o (l234_11) rfl rfl) (rk_s) H (SF_upd (hS_234) rfl) (SA_upd (hA_234) rfl) ((y234_3_14 + 1)) (rfl)  (show inr ((x234_14 + 1)) by omega) (show ((u3_15 + 4)) ≤ ((x234_14 + 1)) by omega) (show ((x234_14 + 1)) ≤ ((u3_15 + 4)) ∨ ((x234_14 + 1)) ≤ ((((u3_15 + 4) + (a1 - 2147483648)))) by omega) (show ((y234_3_14 + 1)) = (u3_14) + (((x234_14 + 1)) - ((u3_15 + 4))) by omega) rfl
              · refine Ew_of (pc' := 220) (fun _ => x_aload_n rfl (rk_o (rk_o (lc190_0) rfl rfl) rfl rfl)) ?_
                refine Ew_of (pc' := 221) (fun _ => x_iconst rfl) ?_
                refine Ew_of (pc' := 223) (fun _ => x_iload rfl (rk_o (rk_o (lc190_10) rfl rfl) rfl rfl)) ?_
                refine Ew_of (pc' := 225) (fun _ => x_iload rfl rk_s) ?_
                refine w_iadd rfl ?_
                refine w_inv H (o := 3) rfl rfl rfl (H.perm 3 rfl) rfl rfl (by rfl) (M381 H (show inr (3) by omega) (show inr (((u3_15 + 4) + (a5 - u3_14))) by omega) (fun z164 σ F160 A161 H hS162 hA163 pz164_0 pz164_1 => ⟨rfl, ?_⟩))
                exact w_ireturn rfl (k (z164) σ _ _ H (SF_trans (SF_trans (SF_upd (SF_upd (SF_trans (SF_refl) hS_c13 (any_sub rfl)) rfl) rfl) hS_c190 (any_sub rfl)) hS162 (any_sub rfl)) (SA_trans (SA_trans (SA_trans (SA_refl) hA_c13 (any_subA rfl)) hA_c190 (any_subA rfl)) hA163 (any_subA rfl)) (u3_14) (((((hS162 3 14 rfl).trans (hS_c190 3 14 rfl)).trans (hS_c13 3 14 rfl)).trans (eu3_14))) (yc190_3_15) (((hS162 3 15 rfl).trans (eyc190_3_15))) (show inr (z164) by omega) (show 0 ≤ (z164) ∧ (z164) ≤ 20 by omega) (show (u3_14) ≤ (u3_14) ∧ (u3_14) ≤ a5 by omega) (show (z164) ≠ 0 ∨ (u3_15) + 4 ≤ (yc190_3_15) ∧ (yc190_3_15) ≤ (u1_1) by omega))
          refine Ew_of (pc' := 114) (fun _ => x_iload_n rfl (rk_o (rk_o (rk2_o (rk_o (lc13_3) rfl rfl) rfl rfl) rfl rfl) rfl rfl)) ?_
          refine Ew_of (pc' := 116) (fun _ => x_bipush (z := 16) rfl (by decide)) ?_
          refine w_iand rfl (show inr (a2) by omega) (show inr (16) by omega) (fun z165 gz165 gaz165 gbz165 => ?_)
          refine w_ifeq (t := 190) rfl rfl (show inr (z165) by omega) (fun b166 => ?_) (fun b166 => ?_)
          · exact hc190  _ σ _ _  (rk_o (rk_o (rk2_o (rk_o (lc13_0) rfl rfl) rfl rfl) rfl rfl) rfl rfl) (rk_o (rk_o (rk2_o (rk_o (lc13_3) rfl rfl) rfl rfl) rfl rfl) rfl rfl) (rk_o (rk_o (rk2_o (rk_o (lc13_5) rfl rfl) rfl rfl) rfl rfl) rfl rfl) (rk_o (rk_o (rk2_o (rk_o (lc13_6) rfl rfl) rfl rfl) rfl rfl) rfl rfl) (rk_o (rk_o (rk2_o (rk_s) rfl rfl) rfl rfl) rfl rfl) (rk_o (rk_o (rk2_s) rfl rfl) rfl rfl) (rk_o (rk_s) rfl rfl) (rk_s) H (SF_refl) (SA_refl) (((u3_15 + 4) + (a1 - 2147483648))) (rfl)  (show (((u3_15 + 4) + (a1 - 2147483648))) ≤ (((u3_15 + 4) + (a1 - 2147483648))) ∧ (((u3_15 + 4) + (a1 - 2147483648))) ≤ (u1_1) by omega)
          · refine Ew_of (pc' := 121) (fun _ => x_aload_n rfl (rk_o (rk_o (rk2_o (rk_o (lc13_0) rfl rfl) rfl rfl) rfl rfl) rfl rfl)) ?_
            refine Ew_of (pc' := 122) (fun _ => x_iconst rfl) ?_
            refine w_inv H (o := 3) rfl rfl rfl (H.perm 3 rfl) rfl rfl (by rfl) (M379 H (u1_1) (((hS_c13 1 1 rfl).trans (eu1_1))) (((u3_15 + 4) + (a1 - 2147483648))) (rfl) (show inr (4) by omega) (show 0 ≤ (4) ∧ (4) ≤ 65536 by omega) (show 0 ≤ (((u3_15 + 4) + (a1 - 2147483648))) ∧ (((u3_15 + 4) + (a1 - 2147483648))) ≤ 70000 by omega) (fun z171 σ F167 A168 H hS169 hA170 pz171_0 pz171_1 => ⟨rretB rfl pz171_0, ?_⟩))
            refine w_ifne (t := 141) rfl rfl (show inr (z171) by omega) (fun b172 => ?_) (fun b172 => ?_)
            · refine Ew_of (pc' := 142) (fun _ => x_aload_n rfl (rk_o (rk_o (rk2_o (rk_o (lc13_0) rfl rfl) rfl rfl) rfl rfl) rfl rfl)) ?_
              refine Ew_of (pc' := 143) (fun _ => x_aload_n rfl (rk_o (rk_o (rk2_o (rk_o (lc13_0) rfl rfl) rfl rfl) rfl rfl) rfl rfl)) ?_
              refine w_gI H (o := 3) (w := ((u3_15 + 4) + (a1 - 2147483648))) rfl (H.perm 3 rfl) rfl rfl rfl (fun _ => rfl) (hS169 3 15 rfl) ?_
              refine Ew_of (pc' := 147) (fun _ => x_iconst rfl) ?_
              refine w_inv H (o := 3) rfl rfl rfl (H.perm 3 rfl) rfl rfl (by rfl) (M380 H (show inr (((u3_15 + 4) + (a1 - 2147483648))) by omega) (show inr (4) by omega) (show 0 ≤ (((u3_15 + 4) + (a1 - 2147483648))) ∧ 0 ≤ (4) ∧ (4) ≤ 8 ∧ (((u3_15 + 4) + (a1 - 2147483648))) + (4) ≤ 65536 by omega) (fun z177 σ F173 A174 H hS175 hA176 pz177_0 pz177_1 pz177_2 pz177_3 pz177_4 pz177_5 => ⟨rfl, ?_⟩))
              refine Ew_of (pc' := 151) (fun _ => x_aload_n rfl (rk_o (rk_o (rk2_o (rk_o (lc13_0) rfl rfl) rfl rfl) rfl rfl) rfl rfl)) ?_
              refine Ew_of (pc' := 152) (fun _ => x_aload_n rfl (rk_o (rk_o (rk2_o (rk_o (lc13_0) rfl rfl) rfl rfl) rfl rfl) rfl rfl)) ?_
              refine w_gT H (o := 3) (t := 1) rfl (H.perm 3 rfl) rfl rfl rfl rfl rfl rfl ?_
              refine w_gT H (o := 1) (t := 14) rfl (H.perm 1 rfl) rfl rfl rfl rfl rfl rfl ?_
              refine Ew_of (pc' := 160) (fun _ => x_iload rfl (rk_o (rk_s) rfl rfl)) ?_
              refine Ew_of (pc' := 162) (fun _ => x_iload rfl rk_s) ?_
              refine w_inv H (o := 3) rfl rfl rfl (H.perm 3 rfl) rfl rfl (by rfl) (M359_14 H (show inr ((u3_15 + 4)) by omega) (show inr (((u3_15 + 4) + (a1 - 2147483648))) by omega) (show 0 ≤ ((u3_15 + 4)) ∧ ((u3_15 + 4)) ≤ (((u3_15 + 4) + (a1 - 2147483648))) ∧ (((u3_15 + 4) + (a1 - 2147483648))) ≤ 65536 by omega) (fun z182 σ F178 A179 H hS180 hA181 pz182_0 => ⟨rfl, ?_⟩))
              refine w_lcmp rfl (show inrJ (z177) by omega) (show inrJ (z182) by omega) (fun z183 gz183 gaz183 gbz183 => ?_)
              refine w_ifeq (t := 180) rfl rfl (show inr (z183) by omega) (fun b184 => ?_) (fun b184 => ?_)
              · refine Ew_of (pc' := 181) (fun _ => x_aload_n rfl (rk_o (rk_o (rk2_o (rk_o (lc13_0) rfl rfl) rfl rfl) rfl rfl) rfl rfl)) ?_
                refine Ew_of (pc' := 182) (fun _ => x_dup rfl rfl) ?_
                refine w_gI H (o := 3) (w := ((u3_15 + 4) + (a1 - 2147483648))) rfl (H.perm 3 rfl) rfl rfl rfl (fun _ => rfl) (((hS180 3 15 rfl).trans (hS175 3 15 rfl)).trans (hS169 3 15 rfl)) ?_
                refine Ew_of (pc' := 186) (fun _ => x_iconst rfl) ?_
                refine w_iadd rfl ?_
                refine w_pI H (o := 3) rfl rfl (H.perm 3 rfl) rfl rfl rfl (fun _ => rfl) rfl (show (-2147483648 : Int) ≤ (((u3_15 + 4) + (a1 - 2147483648)) + 4) ∧ (((u3_15 + 4) + (a1 - 2147483648)) + 4) ≤ 2147483647 by omega) (fun σ H => ?_)
                exact hc190  _ σ _ _  (rk_o (rk_o (rk2_o (rk_o (lc13_0) rfl rfl) rfl rfl) rfl rfl) rfl rfl) (rk_o (rk_o (rk2_o (rk_o (lc13_3) rfl rfl) rfl rfl) rfl rfl) rfl rfl) (rk_o (rk_o (rk2_o (rk_o (lc13_5) rfl rfl) rfl rfl) rfl rfl) rfl rfl) (rk_o (rk_o (rk2_o (rk_o (lc13_6) rfl rfl) rfl rfl) rfl rfl) rfl rfl) (rk_o (rk_o (rk2_o (rk_s) rfl rfl) rfl rfl) rfl rfl) (rk_o (rk_o (rk2_s) rfl rfl) rfl rfl) (rk_o (rk_s) rfl rfl) (rk_s) H (SF_upd (SF_trans (SF_trans (SF_trans (SF_refl) hS169 (any_sub rfl)) hS175 (any_sub rfl)) hS180 (any_sub rfl)) rfl) (SA_trans (SA_trans (SA_trans (SA_refl) hA170 (any_subA rfl)) hA176 (any_subA rfl)) hA181 (any_subA rfl)) ((((u3_15 + 4) + (a1 - 2147483648)) + 4)) (rfl)  (show (((u3_15 + 4) + (a1 - 2147483648))) ≤ ((((u3_15 + 4) + (a1 - 2147483648)) + 4)) ∧ ((((u3_15 + 4) + (a1 - 2147483648)) + 4)) ≤ (u1_1) by omega)
              · refine Ew_of (pc' := 170) (fun _ => x_aload_n rfl (rk_o (rk_o (rk2_o (rk_o (lc13_0) rfl rfl) rfl rfl) rfl rfl) rfl rfl)) ?_
                refine Ew_of (pc' := 172) (fun _ => x_bipush (z := 8) rfl (by decide)) ?_
                refine Ew_of (pc' := 173) (fun _ => x_aload_n rfl (rk_o (rk_o (rk2_o (rk_o (lc13_0) rfl rfl) rfl rfl) rfl rfl) rfl rfl)) ?_
                refine w_gI H (o := 3) (w := ((u3_15 + 4) + (a1 - 2147483648))) rfl (H.perm 3 rfl) rfl rfl rfl (fun _ => rfl) (((hS180 3 15 rfl).trans (hS175 3 15 rfl)).trans (hS169 3 15 rfl)) ?_
                refine w_inv H (o := 3) rfl rfl rfl (H.perm 3 rfl) rfl rfl (by rfl) (M381 H (show inr (8) by omega) (show inr (((u3_15 + 4) + (a1 - 2147483648))) by omega) (fun z189 σ F185 A186 H hS187 hA188 pz189_0 pz189_1 => ⟨rfl, ?_⟩))
                exact w_ireturn rfl (k (z189) σ _ _ H (SF_trans (SF_trans (SF_trans (SF_trans (SF_upd (SF_upd (SF_trans (SF_refl) hS_c13 (any_sub rfl)) rfl) rfl) hS169 (any_sub rfl)) hS175 (any_sub rfl)) hS180 (any_sub rfl)) hS187 (any_sub rfl)) (SA_trans (SA_trans (SA_trans (SA_trans (SA_trans (SA_refl) hA_c13 (any_subA rfl)) hA170 (any_subA rfl)) hA176 (any_subA rfl)) hA181 (any_subA rfl)) hA188 (any_subA rfl)) (u3_14) (((((((hS187 3 14 rfl).trans (hS180 3 14 rfl)).trans (hS175 3 14 rfl)).trans (hS169 3 14 rfl)).trans (hS_c13 3 14 rfl)).trans (eu3_14))) (((u3_15 + 4) + (a1 - 2147483648))) (((((hS187 3 15 rfl).trans (hS180 3 15 rfl)).trans (hS175 3 15 rfl)).trans (hS169 3 15 rfl))) (show inr (z189) by omega) (show 0 ≤ (z189) ∧ (z189) ≤ 20 by omega) (show (u3_14) ≤ (u3_14) ∧ (u3_14) ≤ a5 by omega) (show (z189) ≠ 0 ∨ (u3_15) + 4 ≤ (((u3_15 + 4) + (a1 - 2147483648))) ∧ (((u3_15 + 4) + (a1 - 2147483648))) ≤ (u1_1) by omega))
            · refine Ew_of (pc' := 129) (fun _ => x_aload_n rfl (rk_o (rk_o (rk2_o (rk_o (lc13_0) rfl rfl) rfl rfl) rfl rfl) rfl rfl)) ?_
              refine Ew_of (pc' := 130) (fun _ => x_iconst rfl) ?_
              refine Ew_of (pc' := 131) (fun _ => x_aload_n rfl (rk_o (rk_o (rk2_o (rk_o (lc13_0) rfl rfl) rfl rfl) rfl rfl) rfl rfl)) ?_
              refine w_gT H (o := 3) (t := 1) rfl (H.perm 3 rfl) rfl rfl rfl rfl rfl rfl ?_
              refine w_gI H (o := 1) (w := u1_1) rfl (H.perm 1 rfl) rfl rfl rfl (fun _ => rfl) (((hS169 1 1 rfl).trans (hS_c13 1 1 rfl)).trans (eu1_1)) ?_
              refine w_inv H (o := 3) rfl rfl rfl (H.perm 3 rfl) rfl rfl (by rfl) (M381 H (show inr (1) by omega) (show inr (u1_1) by omega) (fun z194 σ F190 A191 H hS192 hA193 pz194_0 pz194_1 => ⟨rfl, ?_⟩))
              exact w_ireturn rfl (k (z194) σ _ _ H (SF_trans (SF_trans (SF_upd (SF_upd (SF_trans (SF_refl) hS_c13 (any_sub rfl)) rfl) rfl) hS169 (any_sub rfl)) hS192 (any_sub rfl)) (SA_trans (SA_trans (SA_trans (SA_refl) hA_c13 (any_subA rfl)) hA170 (any_subA rfl)) hA193 (any_subA rfl)) (u3_14) (((((hS192 3 14 rfl).trans (hS169 3 14 rfl)).trans (hS_c13 3 14 rfl)).trans (eu3_14))) (((u3_15 + 4) + (a1 - 2147483648))) (((hS192 3 15 rfl).trans (hS169 3 15 rfl))) (show inr (z194) by omega) (show 0 ≤ (z194) ∧ (z194) ≤ 20 by omega) (show (u3_14) ≤ (u3_14) ∧ (u3_14) ≤ a5 by omega) (show (z194) ≠ 0 ∨ (u3_15) + 4 ≤ (((u3_15 + 4) + (a1 - 2147483648))) ∧ (((u3_15 + 4) + (a1 - 2147483648))) ≤ (u1_1) by omega))
        · refine Ew_of (pc' := 87) (fun _ => x_aload_n rfl (rk_o (rk2_o (rk_o (lc13_0) rfl rfl) rfl rfl) rfl rfl)) ?_
          refine Ew_of (pc' := 88) (fun _ => x_iconst rfl) ?_
          refine Ew_of (pc' := 89) (fun _ => x_aload_n rfl (rk_o (rk2_o (rk_o (lc13_0) rfl rfl) rfl rfl) rfl rfl)) ?_
          refine w_gT H (o := 3) (t := 1) rfl (H.perm 3 rfl) rfl rfl rfl rfl rfl rfl ?_
          refine w_gI H (o := 1) (w := u1_1) rfl (H.perm 1 rfl) rfl rfl rfl (fun _ => rfl) ((hS_c13 1 1 rfl).trans (eu1_1)) ?_
          refine w_inv H (o := 3) rfl rfl rfl (H.perm 3 rfl) rfl rfl (by rfl) (M381 H (show inr (1) by omega) (show inr (u1_1) by omega) (fun z199 σ F195 A196 H hS197 hA198 pz199_0 pz199_1 => ⟨rfl, ?_⟩))
          exact w_ireturn rfl (k (z199) σ _ _ H (SF_trans (SF_upd (SF_trans (SF_refl) hS_c13 (any_sub rfl)) rfl) hS197 (any_sub rfl)) (SA_trans (SA_trans (SA_refl) hA_c13 (any_subA rfl)) hA198 (any_subA rfl)) (u3_14) ((((hS197 3 14 rfl).trans (hS_c13 3 14 rfl)).trans (eu3_14))) ((u3_15 + 4)) ((hS197 3 15 rfl)) (show inr (z199) by omega) (show 0 ≤ (z199) ∧ (z199) ≤ 20 by omega) (show (u3_14) ≤ (u3_14) ∧ (u3_14) ≤ a5 by omega) (show (z199) ≠ 0 ∨ (u3_15) + 4 ≤ ((u3_15 + 4)) ∧ ((u3_15 + 4)) ≤ (u1_1) by omega))
      · refine Ew_of (pc' := 41) (fun _ => x_aload_n rfl (rk2_o (rk_o (lc13_0) rfl rfl) rfl rfl)) ?_
        refine Ew_of (pc' := 43) (fun _ => x_bipush (z := 7) rfl (by decide)) ?_
        refine Ew_of (pc' := 44) (fun _ => x_aload_n rfl (rk2_o (rk_o (lc13_0) rfl rfl) rfl rfl)) ?_
        refine w_gI H (o := 3) (w := u3_15) rfl (H.perm 3 rfl) rfl rfl rfl (fun _ => rfl) ((hS_c13 3 15 rfl).trans (eu3_15)) ?_
        refine w_inv H (o := 3) rfl rfl rfl (H.perm 3 rfl) rfl rfl (by rfl) (M381 H (show inr (7) by omega) (show inr (u3_15) by omega) (fun z204 σ F200 A201 H hS202 hA203 pz204_0 pz204_1 => ⟨rfl, ?_⟩))
        exact w_ireturn rfl (k (z204) σ _ _ H (SF_trans (SF_trans (SF_refl) hS_c13 (any_sub rfl)) hS202 (any_sub rfl)) (SA_trans (SA_trans (SA_refl) hA_c13 (any_subA rfl)) hA203 (any_subA rfl)) (u3_14) ((((hS202 3 14 rfl).trans (hS_c13 3 14 rfl)).trans (eu3_14))) (u3_15) ((((hS202 3 15 rfl).trans (hS_c13 3 15 rfl)).trans (eu3_15))) (show inr (z204) by omega) (show 0 ≤ (z204) ∧ (z204) ≤ 20 by omega) (show (u3_14) ≤ (u3_14) ∧ (u3_14) ≤ a5 by omega) (show (z204) ≠ 0 ∨ (u3_15) + 4 ≤ (u3_15) ∧ (u3_15) ≤ (u1_1) by omega))
  refine Ew_of (pc' := 1) (fun _ => x_lload_n rfl rfl) ?_
  refine Ew_of (pc' := 4) (fun _ => x_ldc2 (z := 2147483648) rfl (by decide)) ?_
  refine w_lcmp rfl (show inrJ (a1) by omega) (show inrJ (2147483648) by omega) (fun z205 gz205 gaz205 gbz205 => ?_)
  refine w_iflt (t := 12) rfl rfl (show inr (z205) by omega) (fun b206 => ?_) (fun b206 => ?_)
  · refine Ew_of (pc' := 13) (fun _ => x_iconst rfl) ?_
    exact hc13 (0) _ σ _ _  (rfl) (rfl) (rfl) (rfl) (rfl) (rfl) H (SF_refl) (SA_refl)   (show inr (0) by omega) (show (0) = 0 ∧ (a1) < 2147483648 ∨ (0) = 1 ∧ 2147483648 ≤ (a1) by omega)
  · refine Ew_of (pc' := 9) (fun _ => x_iconst rfl) ?_
    refine Ew_of (pc' := 13) (fun _ => x_goto rfl rfl) ?_
    exact hc13 (1) _ σ _ _  (rfl) (rfl) (rfl) (rfl) (rfl) (rfl) H (SF_refl) (SA_refl)   (show inr (1) by omega) (show (1) = 0 ∧ (a1) < 2147483648 ∨ (1) = 1 ∧ 2147483648 ≤ (a1) by omega)
/-- Tokens.readFrame -/
theorem M383 {σ0 σ : rS} {D N : Nat → Nat} {F : hF} {A : hA} {d c s : Nat} {Q : wQ} (H : HS σ0 σ D N F A) {a1 : Int} (u1_1 : Int) (eu1_1 : F 1 1 = u1_1) (u3_14 : Int) (eu3_14 : F 3 14 = u3_14) (u3_15 : Int) (eu3_15 : F 3 15 = u3_15) (h0 : inr (a1)) (h1 : 0 ≤ (u3_15) ∧ (u3_15) ≤ (u1_1)) (h2 : 0 ≤ (a1) ∧ (a1) ≤ 65536 ∧ (u3_14) ≤ (a1)) (k : ∀ (z : Int) σ F' A', HS σ0 σ D N F' A' → SF [(1, 4), (3, 12), (3, 14), (3, 15), (3, 16)] F F' → SA [17, 21, 22] A A' → ∀ y3_14 : Int, F' 3 14 = y3_14 → ∀ y3_15 : Int, F' 3 15 = y3_15 → (inr (z)) → (0 ≤ (z) ∧ (z) ≤ 20) → ((y3_14) ≤ (a1)) → ((z) ≠ 0 ∨ (u3_15) ≤ (y3_15) ∧ (y3_15) ≤ (u1_1)) → Q (some (I z)) σ c s) : Ew 383 (d + 3) 0 (rargs 0 [.ref (D 3), I a1]) [] σ c s Q := by
  have r1 : (0 : Int) ≤ u1_1 ∧ u1_1 ≤ 65536 := by have h1 : (0 : Int) ≤ F 1 1 ∧ F 1 1 ≤ 65536 := H.frng 1 1; rw [show F 1 1 = u1_1 from (eu1_1)] at h1; exact h1
  have r2 : (0 : Int) ≤ u3_14 ∧ u3_14 ≤ 65536 := by have h1 : (0 : Int) ≤ F 3 14 ∧ F 3 14 ≤ 65536 := H.frng 3 14; rw [show F 3 14 = u3_14 from (eu3_14)] at h1; exact h1
  have r3 : (-2147483648 : Int) ≤ u3_15 ∧ u3_15 ≤ 2147483647 := by have h1 : (-2147483648 : Int) ≤ F 3 15 ∧ F 3 15 ≤ 2147483647 := H.frng 3 15; rw [show F 3 15 = u3_15 from (eu3_15)] at h1; exact h1
  refine Ew_of (pc' := 1) (fun _ => x_aload_n rfl rfl) ?_
  refine w_gI H (o := 3) (w := u3_15) rfl (H.perm 3 rfl) rfl rfl rfl (fun _ => rfl) (eu3_15) ?_
  refine Ew_of (pc' := 5) (fun _ => x_istore_n rfl) ?_
  refine Ew_of (pc' := 6) (fun _ => x_aload_n rfl (rk_o (rfl) rfl rfl)) ?_
  refine Ew_of (pc' := 7) (fun _ => x_iconst rfl) ?_
  refine w_inv H (o := 3) rfl rfl rfl (H.perm 3 rfl) rfl rfl (by rfl) (M379 H (u1_1) ((eu1_1)) (u3_15) ((eu3_15)) (show inr (1) by omega) (show 0 ≤ (1) ∧ (1) ≤ 65536 by omega) (show 0 ≤ (u3_15) ∧ (u3_15) ≤ 70000 by omega) (fun z8 σ F4 A5 H hS6 hA7 pz8_0 pz8_1 => ⟨rretB rfl pz8_0, ?_⟩))
  refine w_ifne (t := 26) rfl rfl (show inr (z8) by omega) (fun b9 => ?_) (fun b9 => ?_)
  · refine Ew_of (pc' := 27) (fun _ => x_aload_n rfl (rk_o (rfl) rfl rfl)) ?_
    refine w_gT H (o := 3) (t := 1) rfl (H.perm 3 rfl) rfl rfl rfl rfl rfl rfl ?_
    refine w_gT H (o := 1) (t := 14) rfl (H.perm 1 rfl) rfl rfl rfl rfl rfl rfl ?_
    refine Ew_of (pc' := 34) (fun _ => x_aload_n rfl (rk_o (rfl) rfl rfl)) ?_
    refine w_gI H (o := 3) (w := u3_15) rfl (H.perm 3 rfl) rfl rfl rfl (fun _ => rfl) ((hS6 3 15 rfl).trans (eu3_15)) ?_
    refine w_lI H (o := 14) (n := 65536) rfl (H.perm 14 rfl) rfl rfl (H.fix 14 rfl rfl) (show 0 ≤ u3_15 ∧ u3_15 < ((65536 : Nat) : Int) by omega) (by decide) (fun v10 ev10 qv10 => ?_)
    have qv10 : (0 : Int) ≤ v10 ∧ v10 ≤ 255 := qv10
    have ev10 : (A 14) (u3_15) = v10 := (congrFun (funext (hA7 14 rfl)) (u3_15)).symm.trans ev10
    refine Ew_of (pc' := 39) (fun _ => x_istore_n rfl) ?_
    refine Ew_of (pc' := 40) (fun _ => x_iload_n rfl rk_s) ?_
    refine w_stat24 rfl rfl (by rfl) (M375 H (show inr (v10) by omega) (fun z15 σ F11 A12 H hS13 hA14 pz15_0 pz15_1 => ⟨rretB rfl pz15_0, ?_⟩))
    refine w_ifne (t := 56) rfl rfl (show inr (z15) by omega) (fun b16 => ?_) (fun b16 => ?_)
    · refine Ew_of (pc' := 57) (fun _ => x_aload_n rfl (rk_o (rk_o (rfl) rfl rfl) rfl rfl)) ?_
      refine Ew_of (pc' := 58) (fun _ => x_dup rfl rfl) ?_
      refine w_gI H (o := 3) (w := u3_15) rfl (H.perm 3 rfl) rfl rfl rfl (fun _ => rfl) (((hS13 3 15 rfl).trans (hS6 3 15 rfl)).trans (eu3_15)) ?_
      refine Ew_of (pc' := 62) (fun _ => x_iconst rfl) ?_
      refine w_iadd rfl ?_
      refine w_pI H (o := 3) rfl rfl (H.perm 3 rfl) rfl rfl rfl (fun _ => rfl) rfl (show (-2147483648 : Int) ≤ (u3_15 + 1) ∧ (u3_15 + 1) ≤ 2147483647 by omega) (fun σ H => ?_)
      refine Ew_of (pc' := 67) (fun _ => x_aload_n rfl (rk_o (rk_o (rfl) rfl rfl) rfl rfl)) ?_
      refine Ew_of (pc' := 68) (fun _ => x_iconst rfl) ?_
      refine w_inv H (o := 3) rfl rfl rfl (H.perm 3 rfl) rfl rfl (by rfl) (M379 H (u1_1) ((((hS13 1 1 rfl).trans (hS6 1 1 rfl)).trans (eu1_1))) ((u3_15 + 1)) (rfl) (show inr (1) by omega) (show 0 ≤ (1) ∧ (1) ≤ 65536 by omega) (show 0 ≤ ((u3_15 + 1)) ∧ ((u3_15 + 1)) ≤ 70000 by omega) (fun z21 σ F17 A18 H hS19 hA20 pz21_0 pz21_1 => ⟨rretB rfl pz21_0, ?_⟩))
      refine w_ifne (t := 87) rfl rfl (show inr (z21) by omega) (fun b22 => ?_) (fun b22 => ?_)
      · refine Ew_of (pc' := 88) (fun _ => x_aload_n rfl (rk_o (rk_o (rfl) rfl rfl) rfl rfl)) ?_
        refine w_gT H (o := 3) (t := 1) rfl (H.perm 3 rfl) rfl rfl rfl rfl rfl rfl ?_
        refine w_gT H (o := 1) (t := 14) rfl (H.perm 1 rfl) rfl rfl rfl rfl rfl rfl ?_
        refine Ew_of (pc' := 95) (fun _ => x_aload_n rfl (rk_o (rk_o (rfl) rfl rfl) rfl rfl)) ?_
        refine w_gI H (o := 3) (w := (u3_15 + 1)) rfl (H.perm 3 rfl) rfl rfl rfl (fun _ => rfl) (hS19 3 15 rfl) ?_
        refine w_lI H (o := 14) (n := 65536) rfl (H.perm 14 rfl) rfl rfl (H.fix 14 rfl rfl) (show 0 ≤ (u3_15 + 1) ∧ (u3_15 + 1) < ((65536 : Nat) : Int) by omega) (by decide) (fun v23 ev23 qv23 => ?_)
        have qv23 : (0 : Int) ≤ v23 ∧ v23 ≤ 255 := qv23
        have ev23 : (A 14) ((u3_15 + 1)) = v23 := (congrFun ((funext (hA20 14 rfl)).trans ((funext (hA14 14 rfl)).trans (funext (hA7 14 rfl)))) ((u3_15 + 1))).symm.trans ev23
        refine Ew_of (pc' := 101) (fun _ => x_bipush (z := 16) rfl (by decide)) ?_
        refine w_idiv rfl (show inr (v23) ∧ 0 ≤ v23 by omega) (show inr (16) ∧ 0 < 16 by omega) ?_
        refine Ew_of (pc' := 104) (fun _ => x_istore rfl) ?_
        refine Ew_of (pc' := 106) (fun _ => x_iload rfl rk_s) ?_
        refine Ew_of (pc' := 107) (fun _ => x_iconst rfl) ?_
        refine w_icmplt (t := 135) rfl rfl (show inr ((v23 / 16)) by omega) (show inr (4) by omega) (fun b24 => ?_) (fun b24 => ?_)
        · refine Ew_of (pc' := 136) (fun _ => x_aload_n rfl (rk_o (rk_o (rk_o (rfl) rfl rfl) rfl rfl) rfl rfl)) ?_
          refine Ew_of (pc' := 137) (fun _ => x_iconst rfl) ?_
          refine Ew_of (pc' := 138) (fun _ => x_aload_n rfl (rk_o (rk_o (rk_o (rfl) rfl rfl) rfl rfl) rfl rfl)) ?_
          refine w_gI H (o := 3) (w := (u3_15 + 1)) rfl (H.perm 3 rfl) rfl rfl rfl (fun _ => rfl) (hS19 3 15 rfl) ?_
          refine w_inv H (o := 3) rfl rfl rfl (H.perm 3 rfl) rfl rfl (by rfl) (M381 H (show inr (5) by omega) (show inr ((u3_15 + 1)) by omega) (fun z29 σ F25 A26 H hS27 hA28 pz29_0 pz29_1 => ⟨rfl, ?_⟩))
          exact w_ireturn rfl (k (z29) σ _ _ H (SF_trans (SF_trans (SF_upd (SF_trans (SF_trans (SF_refl) hS6 (any_sub rfl)) hS13 (any_sub rfl)) rfl) hS19 (any_sub rfl)) hS27 (any_sub rfl)) (SA_trans (SA_trans (SA_trans (SA_trans (SA_refl) hA7 (any_subA rfl)) hA14 (any_subA rfl)) hA20 (any_subA rfl)) hA28 (any_subA rfl)) (u3_14) ((((((hS27 3 14 rfl).trans (hS19 3 14 rfl)).trans (hS13 3 14 rfl)).trans (hS6 3 14 rfl)).trans (eu3_14))) ((u3_15 + 1)) (((hS27 3 15 rfl).trans (hS19 3 15 rfl))) (show inr (z29) by omega) (show 0 ≤ (z29) ∧ (z29) ≤ 20 by omega) (show (u3_14) ≤ a1 by omega) (show (z29) ≠ 0 ∨ (u3_15) ≤ ((u3_15 + 1)) ∧ ((u3_15 + 1)) ≤ (u1_1) by omega))
        · refine Ew_of (pc' := 112) (fun _ => x_iload rfl rk_s) ?_
          refine Ew_of (pc' := 114) (fun _ => x_bipush (z := 7) rfl (by decide)) ?_
          refine w_icmpgt (t := 135) rfl rfl (show inr ((v23 / 16)) by omega) (show inr (7) by omega) (fun b30 => ?_) (fun b30 => ?_)
          · refine Ew_of (pc' := 136) (fun _ => x_aload_n rfl (rk_o (rk_o (rk_o (rfl) rfl rfl) rfl rfl) rfl rfl)) ?_
            refine Ew_of (pc' := 137) (fun _ => x_iconst rfl) ?_
            refine Ew_of (pc' := 138) (fun _ => x_aload_n rfl (rk_o (rk_o (rk_o (rfl) rfl rfl) rfl rfl) rfl rfl)) ?_
            refine w_gI H (o := 3) (w := (u3_15 + 1)) rfl (H.perm 3 rfl) rfl rfl rfl (fun _ => rfl) (hS19 3 15 rfl) ?_
            refine w_inv H (o := 3) rfl rfl rfl (H.perm 3 rfl) rfl rfl (by rfl) (M381 H (show inr (5) by omega) (show inr ((u3_15 + 1)) by omega) (fun z35 σ F31 A32 H hS33 hA34 pz35_0 pz35_1 => ⟨rfl, ?_⟩))
            exact w_ireturn rfl (k (z35) σ _ _ H (SF_trans (SF_trans (SF_upd (SF_trans (SF_trans (SF_refl) hS6 (any_sub rfl)) hS13 (any_sub rfl)) rfl) hS19 (any_sub rfl)) hS33 (any_sub rfl)) (SA_trans (SA_trans (SA_trans (SA_trans (SA_refl) hA7 (any_subA rfl)) hA14 (any_subA rfl)) hA20 (any_subA rfl)) hA34 (any_subA rfl)) (u3_14) ((((((hS33 3 14 rfl).trans (hS19 3 14 rfl)).trans (hS13 3 14 rfl)).trans (hS6 3 14 rfl)).trans (eu3_14))) ((u3_15 + 1)) (((hS33 3 15 rfl).trans (hS19 3 15 rfl))) (show inr (z35) by omega) (show 0 ≤ (z35) ∧ (z35) ≤ 20 by omega) (show (u3_14) ≤ a1 by omega) (show (z35) ≠ 0 ∨ (u3_15) ≤ ((u3_15 + 1)) ∧ ((u3_15 + 1)) ≤ (u1_1) by omega))
          · refine Ew_of (pc' := 118) (fun _ => x_aload_n rfl (rk_o (rk_o (rk_o (rfl) rfl rfl) rfl rfl) rfl rfl)) ?_
            refine w_gT H (o := 3) (t := 1) rfl (H.perm 3 rfl) rfl rfl rfl rfl rfl rfl ?_
            refine w_gT H (o := 1) (t := 14) rfl (H.perm 1 rfl) rfl rfl rfl rfl rfl rfl ?_
            refine Ew_of (pc' := 125) (fun _ => x_aload_n rfl (rk_o (rk_o (rk_o (rfl) rfl rfl) rfl rfl) rfl rfl)) ?_
            refine w_gI H (o := 3) (w := (u3_15 + 1)) rfl (H.perm 3 rfl) rfl rfl rfl (fun _ => rfl) (hS19 3 15 rfl) ?_
            refine w_lI H (o := 14) (n := 65536) rfl (H.perm 14 rfl) rfl rfl (H.fix 14 rfl rfl) (show 0 ≤ (u3_15 + 1) ∧ (u3_15 + 1) < ((65536 : Nat) : Int) by omega) (by decide) (fun v36 ev36 qv36 => ?_)
            have qv36 : (0 : Int) ≤ v36 ∧ v36 ≤ 255 := qv36
            have ev36 : (A 14) ((u3_15 + 1)) = v36 := (congrFun ((funext (hA20 14 rfl)).trans ((funext (hA14 14 rfl)).trans (funext (hA7 14 rfl)))) ((u3_15 + 1))).symm.trans ev36
            refine Ew_of (pc' := 131) (fun _ => x_bipush (z := 16) rfl (by decide)) ?_
            refine w_irem rfl (show inr (v36) ∧ 0 ≤ v36 by omega) (show inr (16) ∧ 0 < 16 by omega) ?_
            refine w_ifeq (t := 145) rfl rfl (show inr ((v36 % 16)) by omega) (fun b37 => ?_) (fun b37 => ?_)
            · refine Ew_of (pc' := 146) (fun _ => x_aload_n rfl (rk_o (rk_o (rk_o (rfl) rfl rfl) rfl rfl) rfl rfl)) ?_
              refine Ew_of (pc' := 147) (fun _ => x_dup rfl rfl) ?_
              refine w_gI H (o := 3) (w := (u3_15 + 1)) rfl (H.perm 3 rfl) rfl rfl rfl (fun _ => rfl) (hS19 3 15 rfl) ?_
              refine Ew_of (pc' := 151) (fun _ => x_iconst rfl) ?_
              refine w_iadd rfl ?_
              refine w_pI H (o := 3) rfl rfl (H.perm 3 rfl) rfl rfl rfl (fun _ => rfl) rfl (show (-2147483648 : Int) ≤ ((u3_15 + 1) + 1) ∧ ((u3_15 + 1) + 1) ≤ 2147483647 by omega) (fun σ H => ?_)
              refine Ew_of (pc' := 156) (fun _ => x_aload_n rfl (rk_o (rk_o (rk_o (rfl) rfl rfl) rfl rfl) rfl rfl)) ?_
              refine w_gI H (o := 3) (w := ((u3_15 + 1) + 1)) rfl (H.perm 3 rfl) rfl rfl rfl (fun _ => rfl) rfl ?_
              refine Ew_of (pc' := 161) (fun _ => x_istore rfl) ?_
              have hc179 : ∀ (ls : rO) (σ : rS) (F_c179 : hF) (A_c179 : hA) , rlook ls 0 = some (.ref (D 3)) → rlook ls 1 = some (I (a1)) → rlook ls 2 = some (I (u3_15)) → rlook ls 3 = some (I (v10)) → rlook ls 4 = some (I ((v23 / 16))) → rlook ls 5 = some (I (((u3_15 + 1) + 1))) → HS σ0 σ D N F_c179 A_c179 → SF [(3, 15)] (updF F17 3 15 (((u3_15 + 1) + 1))) F_c179 → SA [] A18 A_c179 → ∀ yc179_3_15 : Int, F_c179 3 15 = yc179_3_15 → ((((u3_15 + 1) + 1)) ≤ (yc179_3_15) ∧ (yc179_3_15) ≤ (((u3_15 + 1) + 1)) + 8) → (andI (v10) 8 = 0 ∨ (((u3_15 + 1) + 1)) + 8 ≤ (yc179_3_15)) → Ew 383 (d + 3) 179 ls [] σ c s Q := by
               as_aux_lemma =>
                intro  ls σ F_c179 A_c179  lc179_0 lc179_1 lc179_2 lc179_3 lc179_4 lc179_5 H hS_c179 hA_c179 yc179_3_15 eyc179_3_15  jc179_0 jc179_1
                have r38 : (-2147483648 : Int) ≤ yc179_3_15 ∧ yc179_3_15 ≤ 2147483647 := by have h1 : (-2147483648 : Int) ≤ F_c179 3 15 ∧ F_c179 3 15 ≤ 2147483647 := H.frng 3 15; rw [show F_c179 3 15 = yc179_3_15 from (eyc179_3_15)] at h1; exact h1
                have hc195 : ∀ (ls : rO) (σ : rS) (F_c195 : hF) (A_c195 : hA) , rlook ls 0 = some (.ref (D 3)) → rlook ls 1 = some (I (a1)) → rlook ls 2 = some (I (u3_15)) → rlook ls 3 = some (I (v10)) → rlook ls 4 = some (I ((v23 / 16))) → rlook ls 5 = some (I (((u3_15 + 1) + 1))) → HS σ0 σ D N F_c195 A_c195 → SF [(3, 15)] F_c179 F_c195 → SA [] A_c179 A_c195 → ∀ yc195_3_15 : Int, F_c195 3 15 = yc195_3_15 → ((((u3_15 + 1) + 1)) ≤ (yc195_3_15) ∧ (yc195_3_15) ≤ (((u3_15 + 1) + 1)) + 12) → (andI (v10) 8 = 0 ∨ (((u3_15 + 1) + 1)) + 8 ≤ (yc195_3_15)) → Ew 383 (d + 3) 195 ls [] σ c s Q := by
                 as_aux_lemma =>
                  intro  ls σ F_c195 A_c195  lc195_0 lc195_1 lc195_2 lc195_3 lc195_4 lc195_5 H hS_c195 hA_c195 yc195_3_15 eyc195_3_15  jc195_0 jc195_1
                  have r39 : (-2147483648 : Int) ≤ yc195_3_15 ∧ yc195_3_15 ≤ 2147483647 := by have h1 : (-2147483648 : Int) ≤ F_c195 3 15 ∧ F_c195 3 15 ≤ 2147483647 := H.frng 3 15; rw [show F_c195 3 15 = yc195_3_15 from (eyc195_3_15)] at h1; exact h1
                  refine Ew_of (pc' := 196) (fun _ => x_aload_n rfl lc195_0) ?_
                  refine Ew_of (pc' := 197) (fun _ => x_iconst rfl) ?_
                  refine w_inv H (o := 3) rfl rfl rfl (H.perm 3 rfl) rfl rfl (by rfl) (M379 H (u1_1) (((((((hS_c195 1 1 rfl).trans (hS_c179 1 1 rfl)).trans (hS19 1 1 rfl)).trans (hS13 1 1 rfl)).trans (hS6 1 1 rfl)).trans (eu1_1))) (yc195_3_15) ((eyc195_3_15)) (show inr (1) by omega) (show 0 ≤ (1) ∧ (1) ≤ 65536 by omega) (show 0 ≤ (yc195_3_15) ∧ (yc195_3_15) ≤ 70000 by omega) (fun z44 σ F40 A41 H hS42 hA43 pz44_0 pz44_1 => ⟨rretB rfl pz44_0, ?_⟩))
                  refine w_ifne (t := 216) rfl rfl (show inr (z44) by omega) (fun b45 => ?_) (fun b45 => ?_)
                  · refine Ew_of (pc' := 217) (fun _ => x_aload_n rfl lc195_0) ?_
                    refine w_gT H (o := 3) (t := 1) rfl (H.perm 3 rfl) rfl rfl rfl rfl rfl rfl ?_
                    refine w_gT H (o := 1) (t := 14) rfl (H.perm 1 rfl) rfl rfl rfl rfl rfl rfl ?_
                    refine Ew_of (pc' := 224) (fun _ => x_aload_n rfl lc195_0) ?_
                    refine w_gI H (o := 3) (w := yc195_3_15) rfl (H.perm 3 rfl) rfl rfl rfl (fun _ => rfl) ((hS42 3 15 rfl).trans (eyc195_3_15)) ?_
                    refine w_lI H (o := 14) (n := 65536) rfl (H.perm 14 rfl) rfl rfl (H.fix 14 rfl rfl) (show 0 ≤ yc195_3_15 ∧ yc195_3_15 < ((65536 : Nat) : Int) by omega) (by decide) (fun v46 ev46 qv46 => ?_)
                    have qv46 : (0 : Int) ≤ v46 ∧ v46 ≤ 255 := qv46
                    have ev46 : (A 14) (yc195_3_15) = v46 := (congrFun ((funext (hA43 14 rfl)).trans ((funext (hA_c195 14 rfl)).trans ((funext (hA_c179 14 rfl)).trans ((funext (hA20 14 rfl)).trans ((funext (hA14 14 rfl)).trans (funext (hA7 14 rfl))))))) (yc195_3_15)).symm.trans ev46
                    refine w_i2l rfl (show inr (v46) by omega) ?_
                    refine Ew_of (pc' := 230) (fun _ => x_aload_n rfl lc195_0) ?_
                    refine Ew_of (pc' := 231) (fun _ => x_aload_n rfl lc195_0) ?_
                    refine w_gT H (o := 3) (t := 1) rfl (H.perm 3 rfl) rfl rfl rfl rfl rfl rfl ?_
                    refine w_gT H (o := 1) (t := 14) rfl (H.perm 1 rfl) rfl rfl rfl rfl rfl rfl ?_
                    refine Ew_of (pc' := 238) (fun _ => x_iload_n rfl lc195_2) ?_
                    refine Ew_of (pc' := 239) (fun _ => x_aload_n rfl lc195_0) ?_
                    refine w_gI H (o := 3) (w := yc195_3_15) rfl (H.perm 3 rfl) rfl rfl rfl (fun _ => rfl) ((hS42 3 15 rfl).trans (eyc195_3_15)) ?_
                    refine w_inv H (o := 3) rfl rfl rfl (H.perm 3 rfl) rfl rfl (by rfl) (M359_14 H (show inr (u3_15) by omega) (show inr (yc195_3_15) by omega) (show 0 ≤ (u3_15) ∧ (u3_15) ≤ (yc195_3_15) ∧ (yc195_3_15) ≤ 65536 by omega) (fun z51 σ F47 A48 H hS49 hA50 pz51_0 => ⟨rfl, ?_⟩))
                    refine Ew_of (pc' := 247) (fun _ => x_bipush (z := 8) rfl (by decide)) ?_
                    refine w_lshrA rfl (fun z52 gz52 => ?_)
                    refine Ew_of (pc' := 251) (fun _ => x_ldc2 (z := 255) rfl (by decide)) ?_
                    refine w_land rfl (show inrJ (z52) by omega) (show inrJ (255) by omega) (fun z53 gz53 gaz53 gbz53 => ?_)
                    refine w_lcmp rfl (show inrJ (v46) by omega) (show inrJ (z53) by omega) (fun z54 gz54 gaz54 gbz54 => ?_)
                    refine w_ifeq (t := 267) rfl rfl (show inr (z54) by omega) (fun b55 => ?_) (fun b55 => ?_)
                    · refine Ew_of (pc' := 268) (fun _ => x_aload_n rfl lc195_0) ?_
                      refine Ew_of (pc' := 269) (fun _ => x_dup rfl rfl) ?_
                      refine w_gI H (o := 3) (w := yc195_3_15) rfl (H.perm 3 rfl) rfl rfl rfl (fun _ => rfl) (((hS49 3 15 rfl).trans (hS42 3 15 rfl)).trans (eyc195_3_15)) ?_
                      refine Ew_of (pc' := 273) (fun _ => x_iconst rfl) ?_
                      refine w_iadd rfl ?_
                      refine w_pI H (o := 3) rfl rfl (H.perm 3 rfl) rfl rfl rfl (fun _ => rfl) rfl (show (-2147483648 : Int) ≤ (yc195_3_15 + 1) ∧ (yc195_3_15 + 1) ≤ 2147483647 by omega) (fun σ H => ?_)
                      refine Ew_of (pc' := 278) (fun _ => x_aload_n rfl lc195_0) ?_
                      refine w_gI H (o := 3) (w := u3_14) rfl (H.perm 3 rfl) rfl rfl rfl (fun _ => rfl) ((((((((hS49 3 14 rfl).trans (hS42 3 14 rfl)).trans (hS_c195 3 14 rfl)).trans (hS_c179 3 14 rfl)).trans (hS19 3 14 rfl)).trans (hS13 3 14 rfl)).trans (hS6 3 14 rfl)).trans (eu3_14)) ?_
                      refine Ew_of (pc' := 283) (fun _ => x_istore rfl) ?_
                      refine Ew_of (pc' := 284) (fun _ => x_iconst rfl) ?_
                      refine Ew_of (pc' := 286) (fun _ => x_istore rfl) ?_
                      suffices hl286 : ∀ (m : Nat), ∀ (ls : rO) (σ : rS) (F_286 : hF) (A_286 : hA) (x286_7 : Int), rlook ls 0 = some (.ref (D 3)) → rlook ls 1 = some (I (a1)) → rlook ls 3 = some (I (v10)) → rlook ls 4 = some (I ((v23 / 16))) → rlook ls 5 = some (I (((u3_15 + 1) + 1))) → rlook ls 6 = some (I (u3_14)) → rlook ls 7 = some (I (x286_7)) → HS σ0 σ D N F_286 A_286 → SF [(1, 4), (3, 12), (3, 14), (3, 15), (3, 16)] (updF F47 3 15 ((yc195_3_15 + 1))) F_286 → SA [17, 21, 22] A48 A_286 → ∀ y286_3_14 : Int, F_286 3 14 = y286_3_14 → ∀ y286_3_15 : Int, F_286 3 15 = y286_3_15 → (inr (x286_7)) → ((x286_7) = 0 ∨ (x286_7) = 1) → ((((u3_15 + 1) + 1)) ≤ (y286_3_15) ∧ (y286_3_15) ≤ (u1_1)) → (andI (v10) 8 = 0 ∨ (((u3_15 + 1) + 1)) + 8 ≤ (y286_3_15)) → ((u3_14) ≤ (y286_3_14) ∧ (y286_3_14) ≤ (a1)) → (2 * ((u1_1) - (y286_3_15)) + (x286_7)).toNat = m → Ew 383 (d + 3) 286 ls [] σ c s Q from
                        hl286 _ _ σ _ _ (1) (rk_o (rk_o (lc195_0) rfl rfl) rfl rfl) (rk_o (rk_o (lc195_1) rfl rfl) rfl rfl) (rk_o (rk_o (lc195_3) rfl rfl) rfl rfl) (rk_o (rk_o (lc195_4) rfl rfl) rfl rfl) (rk_o (rk_o (lc195_5) rfl rfl) rfl rfl) (rk_o (rk_s) rfl rfl) (rk_s) H (SF_refl) (SA_refl) (u3_14) (((((((((hS49 3 14 rfl).trans (hS42 3 14 rfl)).trans (hS_c195 3 14 rfl)).trans (hS_c179 3 14 rfl)).trans (hS19 3 14 rfl)).trans (hS13 3 14 rfl)).trans (hS6 3 14 rfl)).trans (eu3_14))) ((yc195_3_15 + 1)) (rfl)  (show inr (1) by omega) (show (1) = 0 ∨ (1) = 1 by omega) (show (((u3_15 + 1) + 1)) ≤ ((yc195_3_15 + 1)) ∧ ((yc195_3_15 + 1)) ≤ (u1_1) by omega) (show andI (v10) 8 = 0 ∨ (((u3_15 + 1) + 1)) + 8 ≤ ((yc195_3_15 + 1)) by omega) (show (u3_14) ≤ (u3_14) ∧ (u3_14) ≤ (a1) by omega) rfl
                      as_aux_lemma =>
                      intro m
                      induction m using Nat.strongRecOn with
                      | _ m ih286 =>
                        intro ls σ F_286 A_286 x286_7 l286_0 l286_1 l286_3 l286_4 l286_5 l286_6 l286_7 H hS_286 hA_286 y286_3_14 ey286_3_14 y286_3_15 ey286_3_15  j286_0 j286_1 j286_2 j286_3 j286_4 hm286
                        have r56 : (0 : Int) ≤ y286_3_14 ∧ y286_3_14 ≤ 65536 := by have h1 : (0 : Int) ≤ F_286 3 14 ∧ F_286 3 14 ≤ 65536 := H.frng 3 14; rw [show F_286 3 14 = y286_3_14 from (ey286_3_14)] at h1; exact h1
                        have r57 : (-2147483648 : Int) ≤ y286_3_15 ∧ y286_3_15 ≤ 2147483647 := by have h1 : (-2147483648 : Int) ≤ F_286 3 15 ∧ F_286 3 15 ≤ 2147483647 := H.frng 3 15; rw [show F_286 3 15 = y286_3_15 from (ey286_3_15)] at h1; exact h1
                        refine Ew_of (pc' := 288) (fun _ => x_iload rfl l286_7) ?_
                        refine w_ifeq (t := 400) rfl rfl (show inr (x286_7) by omega) (fun b58 => ?_) (fun b58 => ?_)
                        · have hc475 : ∀ (ls : rO) (σ : rS) (F_c475 : hF) (A_c475 : hA) , rlook ls 0 = some (.ref (D 3)) → rlook ls 3 = some (I (v10)) → rlook ls 5 = some (I (((u3_15 + 1) + 1))) → rlook ls 6 = some (I (u3_14)) → HS σ0 σ D N F_c475 A_c475 → SF [(1, 4), (3, 15)] F_286 F_c475 → SA [17] A_286 A_c475 → ∀ yc475_3_15 : Int, F_c475 3 15 = yc475_3_15 → ((((u3_15 + 1) + 1)) ≤ (yc475_3_15) ∧ (yc475_3_15) ≤ (u1_1)) → (andI (v10) 8 = 0 ∨ (((u3_15 + 1) + 1)) + 8 ≤ (yc475_3_15)) → Ew 383 (d + 3) 475 ls [] σ c s Q := by
                           as_aux_lemma =>
                            intro  ls σ F_c475 A_c475  lc475_0 lc475_3 lc475_5 lc475_6 H hS_c475 hA_c475 yc475_3_15 eyc475_3_15  jc475_0 jc475_1
                            have r59 : (-2147483648 : Int) ≤ yc475_3_15 ∧ yc475_3_15 ≤ 2147483647 := by have h1 : (-2147483648 : Int) ≤ F_c475 3 15 ∧ F_c475 3 15 ≤ 2147483647 := H.frng 3 15; rw [show F_c475 3 15 = yc475_3_15 from (eyc475_3_15)] at h1; exact h1
                            refine Ew_of (pc' := 476) (fun _ => x_iload_n rfl lc475_3) ?_
                            refine Ew_of (pc' := 478) (fun _ => x_bipush (z := 8) rfl (by decide)) ?_
                            refine w_iandE rfl (show inr (v10) by omega) (show inr (8) by omega) (fun z60 gz60 gaz60 gbz60 gez60 => ?_)
                            refine w_ifeq (t := 513) rfl rfl (show inr (z60) by omega) (fun b61 => ?_) (fun b61 => ?_)
                            · refine Ew_of (pc' := 514) (fun _ => x_iconst rfl) ?_
                              exact w_ireturn rfl (k (0) σ _ _ H (SF_trans (SF_trans (SF_upd (SF_trans (SF_trans (SF_trans (SF_trans (SF_upd (SF_trans (SF_upd (SF_trans (SF_trans (SF_refl) hS6 (any_sub rfl)) hS13 (any_sub rfl)) rfl) hS19 (any_sub rfl)) rfl) hS_c179 (any_sub rfl)) hS_c195 (any_sub rfl)) hS42 (any_sub rfl)) hS49 (any_sub rfl)) rfl) hS_286 (any_sub rfl)) hS_c475 (any_sub rfl)) (SA_trans (SA_trans (SA_trans (SA_trans (SA_trans (SA_trans (SA_trans (SA_trans (SA_trans (SA_refl) hA7 (any_subA rfl)) hA14 (any_subA rfl)) hA20 (any_subA rfl)) hA_c179 (any_subA rfl)) hA_c195 (any_subA rfl)) hA43 (any_subA rfl)) hA50 (any_subA rfl)) hA_286 (any_subA rfl)) hA_c475 (any_subA rfl)) (y286_3_14) (((hS_c475 3 14 rfl).trans (ey286_3_14))) (yc475_3_15) ((eyc475_3_15)) (show inr (0) by omega) (show 0 ≤ (0) ∧ (0) ≤ 20 by omega) (show (y286_3_14) ≤ a1 by omega) (show (0) ≠ 0 ∨ (u3_15) ≤ (yc475_3_15) ∧ (yc475_3_15) ≤ (u1_1) by omega))
                            · refine Ew_of (pc' := 483) (fun _ => x_aload_n rfl lc475_0) ?_
                              refine Ew_of (pc' := 485) (fun _ => x_iload rfl lc475_5) ?_
                              refine Ew_of (pc' := 487) (fun _ => x_bipush (z := 8) rfl (by decide)) ?_
                              refine w_inv H (o := 3) rfl rfl rfl (H.perm 3 rfl) rfl rfl (by rfl) (M380 H (show inr (((u3_15 + 1) + 1)) by omega) (show inr (8) by omega) (show 0 ≤ (((u3_15 + 1) + 1)) ∧ 0 ≤ (8) ∧ (8) ≤ 8 ∧ (((u3_15 + 1) + 1)) + (8) ≤ 65536 by omega) (fun z66 σ F62 A63 H hS64 hA65 pz66_0 pz66_1 pz66_2 pz66_3 pz66_4 pz66_5 => ⟨rfl, ?_⟩))
                              refine Ew_of (pc' := 491) (fun _ => x_aload_n rfl lc475_0) ?_
                              refine w_gI H (o := 3) (w := y286_3_14) rfl (H.perm 3 rfl) rfl rfl rfl (fun _ => rfl) (((hS64 3 14 rfl).trans (hS_c475 3 14 rfl)).trans (ey286_3_14)) ?_
                              refine Ew_of (pc' := 496) (fun _ => x_iload rfl lc475_6) ?_
                              refine w_isub rfl ?_
                              refine w_i2l rfl (show inr ((y286_3_14 - u3_14)) by omega) ?_
                              refine w_lcmp rfl (show inrJ (z66) by omega) (show inrJ ((y286_3_14 - u3_14)) by omega) (fun z67 gz67 gaz67 gbz67 => ?_)
                              refine w_ifeq (t := 513) rfl rfl (show inr (z67) by omega) (fun b68 => ?_) (fun b68 => ?_)
                              · refine Ew_of (pc' := 514) (fun _ => x_iconst rfl) ?_
                                exact w_ireturn rfl (k (0) σ _ _ H (SF_trans (SF_trans (SF_trans (SF_upd (SF_trans (SF_trans (SF_trans (SF_trans (SF_upd (SF_trans (SF_upd (SF_trans (SF_trans (SF_refl) hS6 (any_sub rfl)) hS13 (any_sub rfl)) rfl) hS19 (any_sub rfl)) rfl) hS_c179 (any_sub rfl)) hS_c195 (any_sub rfl)) hS42 (any_sub rfl)) hS49 (any_sub rfl)) rfl) hS_286 (any_sub rfl)) hS_c475 (any_sub rfl)) hS64 (any_sub rfl)) (SA_trans (SA_trans (SA_trans (SA_trans (SA_trans (SA_trans (SA_trans (SA_trans (SA_trans (SA_trans (SA_refl) hA7 (any_subA rfl)) hA14 (any_subA rfl)) hA20 (any_subA rfl)) hA_c179 (any_subA rfl)) hA_c195 (any_subA rfl)) hA43 (any_subA rfl)) hA50 (any_subA rfl)) hA_286 (any_subA rfl)) hA_c475 (any_subA rfl)) hA65 (any_subA rfl)) (y286_3_14) ((((hS64 3 14 rfl).trans (hS_c475 3 14 rfl)).trans (ey286_3_14))) (yc475_3_15) (((hS64 3 15 rfl).trans (eyc475_3_15))) (show inr (0) by omega) (show 0 ≤ (0) ∧ (0) ≤ 20 by omega) (show (y286_3_14) ≤ a1 by omega) (show (0) ≠ 0 ∨ (u3_15) ≤ (yc475_3_15) ∧ (yc475_3_15) ≤ (u1_1) by omega))
                              · refine Ew_of (pc' := 503) (fun _ => x_aload_n rfl lc475_0) ?_
                                refine Ew_of (pc' := 505) (fun _ => x_bipush (z := 11) rfl (by decide)) ?_
                                refine Ew_of (pc' := 507) (fun _ => x_iload rfl lc475_5) ?_
                                refine w_inv H (o := 3) rfl rfl rfl (H.perm 3 rfl) rfl rfl (by rfl) (M381 H (show inr (11) by omega) (show inr (((u3_15 + 1) + 1)) by omega) (fun z73 σ F69 A70 H hS71 hA72 pz73_0 pz73_1 => ⟨rfl, ?_⟩))
                                refine Ew_of (pc' := 514) (fun _ => x_goto rfl rfl) ?_
                                exact w_ireturn rfl (k (z73) σ _ _ H (SF_trans (SF_trans (SF_trans (SF_trans (SF_upd (SF_trans (SF_trans (SF_trans (SF_trans (SF_upd (SF_trans (SF_upd (SF_trans (SF_trans (SF_refl) hS6 (any_sub rfl)) hS13 (any_sub rfl)) rfl) hS19 (any_sub rfl)) rfl) hS_c179 (any_sub rfl)) hS_c195 (any_sub rfl)) hS42 (any_sub rfl)) hS49 (any_sub rfl)) rfl) hS_286 (any_sub rfl)) hS_c475 (any_sub rfl)) hS64 (any_sub rfl)) hS71 (any_sub rfl)) (SA_trans (SA_trans (SA_trans (SA_trans (SA_trans (SA_trans (SA_trans (SA_trans (SA_trans (SA_trans (SA_trans (SA_refl) hA7 (any_subA rfl)) hA14 (any_subA rfl)) hA20 (any_subA rfl)) hA_c179 (any_subA rfl)) hA_c195 (any_subA rfl)) hA43 (any_subA rfl)) hA50 (any_subA rfl)) hA_286 (any_subA rfl)) hA_c475 (any_subA rfl)) hA65 (any_subA rfl)) hA72 (any_subA rfl)) (y286_3_14) (((((hS71 3 14 rfl).trans (hS64 3 14 rfl)).trans (hS_c475 3 14 rfl)).trans (ey286_3_14))) (yc475_3_15) ((((hS71 3 15 rfl).trans (hS64 3 15 rfl)).trans (eyc475_3_15))) (show inr (z73) by omega) (show 0 ≤ (z73) ∧ (z73) ≤ 20 by omega) (show (y286_3_14) ≤ a1 by omega) (show (z73) ≠ 0 ∨ (u3_15) ≤ (yc475_3_15) ∧ (yc475_3_15) ≤ (u1_1) by omega))
                          refine Ew_of (pc' := 401) (fun _ => x_iload_n rfl l286_3) ?_
                          refine Ew_of (pc' := 402) (fun _ => x_iconst rfl) ?_
                          refine w_iand rfl (show inr (v10) by omega) (show inr (4) by omega) (fun z74 gz74 gaz74 gbz74 => ?_)
                          refine w_ifeq (t := 475) rfl rfl (show inr (z74) by omega) (fun b75 => ?_) (fun b75 => ?_)
                          · exact hc475  _ σ _ _  (l286_0) (l286_3) (l286_5) (l286_6) H (SF_refl) (SA_refl) (y286_3_15) ((ey286_3_15))  (show (((u3_15 + 1) + 1)) ≤ (y286_3_15) ∧ (y286_3_15) ≤ (u1_1) by omega) (show andI (v10) 8 = 0 ∨ (((u3_15 + 1) + 1)) + 8 ≤ (y286_3_15) by omega)
                          · refine Ew_of (pc' := 407) (fun _ => x_aload_n rfl l286_0) ?_
                            refine Ew_of (pc' := 408) (fun _ => x_iconst rfl) ?_
                            refine w_inv H (o := 3) rfl rfl rfl (H.perm 3 rfl) rfl rfl (by rfl) (M379 H (u1_1) ((((((((((hS_286 1 1 rfl).trans (hS49 1 1 rfl)).trans (hS42 1 1 rfl)).trans (hS_c195 1 1 rfl)).trans (hS_c179 1 1 rfl)).trans (hS19 1 1 rfl)).trans (hS13 1 1 rfl)).trans (hS6 1 1 rfl)).trans (eu1_1))) (y286_3_15) ((ey286_3_15)) (show inr (4) by omega) (show 0 ≤ (4) ∧ (4) ≤ 65536 by omega) (show 0 ≤ (y286_3_15) ∧ (y286_3_15) ≤ 70000 by omega) (fun z80 σ F76 A77 H hS78 hA79 pz80_0 pz80_1 => ⟨rretB rfl pz80_0, ?_⟩))
                            refine w_ifne (t := 427) rfl rfl (show inr (z80) by omega) (fun b81 => ?_) (fun b81 => ?_)
                            · refine Ew_of (pc' := 428) (fun _ => x_aload_n rfl l286_0) ?_
                              refine Ew_of (pc' := 429) (fun _ => x_aload_n rfl l286_0) ?_
                              refine w_gI H (o := 3) (w := y286_3_15) rfl (H.perm 3 rfl) rfl rfl rfl (fun _ => rfl) ((hS78 3 15 rfl).trans (ey286_3_15)) ?_
                              refine Ew_of (pc' := 433) (fun _ => x_iconst rfl) ?_
                              refine w_inv H (o := 3) rfl rfl rfl (H.perm 3 rfl) rfl rfl (by rfl) (M380 H (show inr (y286_3_15) by omega) (show inr (4) by omega) (show 0 ≤ (y286_3_15) ∧ 0 ≤ (4) ∧ (4) ≤ 8 ∧ (y286_3_15) + (4) ≤ 65536 by omega) (fun z86 σ F82 A83 H hS84 hA85 pz86_0 pz86_1 pz86_2 pz86_3 pz86_4 pz86_5 => ⟨rfl, ?_⟩))
                              refine Ew_of (pc' := 437) (fun _ => x_aload_n rfl l286_0) ?_
                              refine Ew_of (pc' := 438) (fun _ => x_aload_n rfl l286_0) ?_
                              refine w_gT H (o := 3) (t := 22) rfl (H.perm 3 rfl) rfl rfl rfl rfl rfl rfl ?_
                              refine Ew_of (pc' := 443) (fun _ => x_iload rfl l286_6) ?_
                              refine Ew_of (pc' := 444) (fun _ => x_aload_n rfl l286_0) ?_
                              refine w_gI H (o := 3) (w := y286_3_14) rfl (H.perm 3 rfl) rfl rfl rfl (fun _ => rfl) (((hS84 3 14 rfl).trans (hS78 3 14 rfl)).trans (ey286_3_14)) ?_
                              refine w_inv H (o := 3) rfl rfl rfl (H.perm 3 rfl) rfl rfl (by rfl) (M359_22 H (show inr (u3_14) by omega) (show inr (y286_3_14) by omega) (show 0 ≤ (u3_14) ∧ (u3_14) ≤ (y286_3_14) ∧ (y286_3_14) ≤ 65536 by omega) (fun z91 σ F87 A88 H hS89 hA90 pz91_0 => ⟨rfl, ?_⟩))
                              refine w_lcmp rfl (show inrJ (z86) by omega) (show inrJ (z91) by omega) (fun z92 gz92 gaz92 gbz92 => ?_)
                              refine w_ifeq (t := 465) rfl rfl (show inr (z92) by omega) (fun b93 => ?_) (fun b93 => ?_)
                              · refine Ew_of (pc' := 466) (fun _ => x_aload_n rfl l286_0) ?_
                                refine Ew_of (pc' := 467) (fun _ => x_dup rfl rfl) ?_
                                refine w_gI H (o := 3) (w := y286_3_15) rfl (H.perm 3 rfl) rfl rfl rfl (fun _ => rfl) ((((hS89 3 15 rfl).trans (hS84 3 15 rfl)).trans (hS78 3 15 rfl)).trans (ey286_3_15)) ?_
                                refine Ew_of (pc' := 471) (fun _ => x_iconst rfl) ?_
                                refine w_iadd rfl ?_
                                refine w_pI H (o := 3) rfl rfl (H.perm 3 rfl) rfl rfl rfl (fun _ => rfl) rfl (show (-2147483648 : Int) ≤ (y286_3_15 + 4) ∧ (y286_3_15 + 4) ≤ 2147483647 by omega) (fun σ H => ?_)
                                exact hc475  _ σ _ _  (l286_0) (l286_3) (l286_5) (l286_6) H (SF_upd (SF_trans (SF_trans (SF_trans (SF_refl) hS78 (any_sub rfl)) hS84 (any_sub rfl)) hS89 (any_sub rfl)) rfl) (SA_trans (SA_trans (SA_trans (SA_refl) hA79 (any_subA rfl)) hA85 (any_subA rfl)) hA90 (any_subA rfl)) ((y286_3_15 + 4)) (rfl)  (show (((u3_15 + 1) + 1)) ≤ ((y286_3_15 + 4)) ∧ ((y286_3_15 + 4)) ≤ (u1_1) by omega) (show andI (v10) 8 = 0 ∨ (((u3_15 + 1) + 1)) + 8 ≤ ((y286_3_15 + 4)) by omega)
                              · refine Ew_of (pc' := 455) (fun _ => x_aload_n rfl l286_0) ?_
                                refine Ew_of (pc' := 457) (fun _ => x_bipush (z := 10) rfl (by decide)) ?_
                                refine Ew_of (pc' := 458) (fun _ => x_aload_n rfl l286_0) ?_
                                refine w_gI H (o := 3) (w := y286_3_15) rfl (H.perm 3 rfl) rfl rfl rfl (fun _ => rfl) ((((hS89 3 15 rfl).trans (hS84 3 15 rfl)).trans (hS78 3 15 rfl)).trans (ey286_3_15)) ?_
                                refine w_inv H (o := 3) rfl rfl rfl (H.perm 3 rfl) rfl rfl (by rfl) (M381 H (show inr (10) by omega) (show inr (y286_3_15) by omega) (fun z98 σ F94 A95 H hS96 hA97 pz98_0 pz98_1 => ⟨rfl, ?_⟩))
                                exact w_ireturn rfl (k (z98) σ _ _ H (SF_trans (SF_trans (SF_trans (SF_trans (SF_trans (SF_upd (SF_trans (SF_trans (SF_trans (SF_trans (SF_upd (SF_trans (SF_upd (SF_trans (SF_trans (SF_refl) hS6 (any_sub rfl)) hS13 (any_sub rfl)) rfl) hS19 (any_sub rfl)) rfl) hS_c179 (any_sub rfl)) hS_c195 (any_sub rfl)) hS42 (any_sub rfl)) hS49 (any_sub rfl)) rfl) hS_286 (any_sub rfl)) hS78 (any_sub rfl)) hS84 (any_sub rfl)) hS89 (any_sub rfl)) hS96 (any_sub rfl)) (SA_trans (SA_trans (SA_trans (SA_trans (SA_trans (SA_trans (SA_trans (SA_trans (SA_trans (SA_trans (SA_trans (SA_trans (SA_refl) hA7 (any_subA rfl)) hA14 (any_subA rfl)) hA20 (any_subA rfl)) hA_c179 (any_subA rfl)) hA_c195 (any_subA rfl)) hA43 (any_subA rfl)) hA50 (any_subA rfl)) hA_286 (any_subA rfl)) hA79 (any_subA rfl)) hA85 (any_subA rfl)) hA90 (any_subA rfl)) hA97 (any_subA rfl)) (y286_3_14) ((((((hS96 3 14 rfl).trans (hS89 3 14 rfl)).trans (hS84 3 14 rfl)).trans (hS78 3 14 rfl)).trans (ey286_3_14))) (y286_3_15) ((((((hS96 3 15 rfl).trans (hS89 3 15 rfl)).trans (hS84 3 15 rfl)).trans (hS78 3 15 rfl)).trans (ey286_3_15))) (show inr (z98) by omega) (show 0 ≤ (z98) ∧ (z98) ≤ 20 by omega) (show (y286_3_14) ≤ a1 by omega) (show (z98) ≠ 0 ∨ (u3_15) ≤ (y286_3_15) ∧ (y286_3_15) ≤ (u1_1) by omega))
                            · refine Ew_of (pc' := 415) (fun _ => x_aload_n rfl l286_0) ?_
                              refine Ew_of (pc' := 416) (fun _ => x_iconst rfl) ?_
                              refine Ew_of (pc' := 417) (fun _ => x_aload_n rfl l286_0) ?_
                              refine w_gT H (o := 3) (t := 1) rfl (H.perm 3 rfl) rfl rfl rfl rfl rfl rfl ?_
                              refine w_gI H (o := 1) (w := u1_1) rfl (H.perm 1 rfl) rfl rfl rfl (fun _ => rfl) ((((((((((hS78 1 1 rfl).trans (hS_286 1 1 rfl)).trans (hS49 1 1 rfl)).trans (hS42 1 1 rfl)).trans (hS_c195 1 1 rfl)).trans (hS_c179 1 1 rfl)).trans (hS19 1 1 rfl)).trans (hS13 1 1 rfl)).trans (hS6 1 1 rfl)).trans (eu1_1)) ?_
                              refine w_inv H (o := 3) rfl rfl rfl (H.perm 3 rfl) rfl rfl (by rfl) (M381 H (show inr (1) by omega) (show inr (u1_1) by omega) (fun z103 σ F99 A100 H hS101 hA102 pz103_0 pz103_1 => ⟨rfl, ?_⟩))
                              exact w_ireturn rfl (k (z103) σ _ _ H (SF_trans (SF_trans (SF_trans (SF_upd (SF_trans (SF_trans (SF_trans (SF_trans (SF_upd (SF_trans (SF_upd (SF_trans (SF_trans (SF_refl) hS6 (any_sub rfl)) hS13 (any_sub rfl)) rfl) hS19 (any_sub rfl)) rfl) hS_c179 (any_sub rfl)) hS_c195 (any_sub rfl)) hS42 (any_sub rfl)) hS49 (any_sub rfl)) rfl) hS_286 (any_sub rfl)) hS78 (any_sub rfl)) hS101 (any_sub rfl)) (SA_trans (SA_trans (SA_trans (SA_trans (SA_trans (SA_trans (SA_trans (SA_trans (SA_trans (SA_trans (SA_refl) hA7 (any_subA rfl)) hA14 (any_subA rfl)) hA20 (any_subA rfl)) hA_c179 (any_subA rfl)) hA_c195 (any_subA rfl)) hA43 (any_subA rfl)) hA50 (any_subA rfl)) hA_286 (any_subA rfl)) hA79 (any_subA rfl)) hA102 (any_subA rfl)) (y286_3_14) ((((hS101 3 14 rfl).trans (hS78 3 14 rfl)).trans (ey286_3_14))) (y286_3_15) ((((hS101 3 15 rfl).trans (hS78 3 15 rfl)).trans (ey286_3_15))) (show inr (z103) by omega) (show 0 ≤ (z103) ∧ (z103) ≤ 20 by omega) (show (y286_3_14) ≤ a1 by omega) (show (z103) ≠ 0 ∨ (u3_15) ≤ (y286_3_15) ∧ (y286_3_15) ≤ (u1_1) by omega))
                        · refine Ew_of (pc' := 292) (fun _ => x_aload_n rfl l286_0) ?_
                          refine Ew_of (pc' := 293) (fun _ => x_iconst rfl) ?_
                          refine w_inv H (o := 3) rfl rfl rfl (H.perm 3 rfl) rfl rfl (by rfl) (M379 H (u1_1) ((((((((((hS_286 1 1 rfl).trans (hS49 1 1 rfl)).trans (hS42 1 1 rfl)).trans (hS_c195 1 1 rfl)).trans (hS_c179 1 1 rfl)).trans (hS19 1 1 rfl)).trans (hS13 1 1 rfl)).trans (hS6 1 1 rfl)).trans (eu1_1))) (y286_3_15) ((ey286_3_15)) (show inr (4) by omega) (show 0 ≤ (4) ∧ (4) ≤ 65536 by omega) (show 0 ≤ (y286_3_15) ∧ (y286_3_15) ≤ 70000 by omega) (fun z108 σ F104 A105 H hS106 hA107 pz108_0 pz108_1 => ⟨rretB rfl pz108_0, ?_⟩))
                          refine w_ifne (t := 312) rfl rfl (show inr (z108) by omega) (fun b109 => ?_) (fun b109 => ?_)
                          · have hc335 : ∀ (tc335_0 : Int), ∀ (ls : rO) (σ : rS) (F_c335 : hF) (A_c335 : hA) (xc335_8 : Int), rlook ls 0 = some (.ref (D 3)) → rlook ls 1 = some (I (a1)) → rlook ls 3 = some (I (v10)) → rlook ls 4 = some (I ((v23 / 16))) → rlook ls 5 = some (I (((u3_15 + 1) + 1))) → rlook ls 6 = some (I (u3_14)) → rlook ls 8 = some (J (xc335_8)) → HS σ0 σ D N F_c335 A_c335 → SF [] F104 F_c335 → SA [] A105 A_c335 → (inrJ (xc335_8)) → (inr (tc335_0)) → ((tc335_0) = 0 ∨ (tc335_0) = 1 ∧ 0 < (xc335_8)) → (0 ≤ (xc335_8) ∧ (xc335_8) ≤ 4294967295) → Ew 383 (d + 3) 335 ls [I (tc335_0)] σ c s Q := by
                             as_aux_lemma =>
                              intro tc335_0 ls σ F_c335 A_c335 xc335_8 lc335_0 lc335_1 lc335_3 lc335_4 lc335_5 lc335_6 lc335_8 H hS_c335 hA_c335   jc335_0 jc335_1 jc335_2 jc335_3
                              refine Ew_of (pc' := 337) (fun _ => x_istore rfl) ?_
                              refine Ew_of (pc' := 339) (fun _ => x_iload rfl rk_s) ?_
                              refine w_ifeq (t := 364) rfl rfl (show inr (tc335_0) by omega) (fun b110 => ?_) (fun b110 => ?_)
                              · refine Ew_of (pc' := 365) (fun _ => x_iconst rfl) ?_
                                refine Ew_of (pc' := 367) (fun _ => x_istore rfl) ?_
                                refine Ew_of (pc' := 369) (fun _ => x_iload rfl rk_s) ?_
                                refine w_ifle (t := 375) rfl rfl (show inr (0) by omega) (fun b111 => ?_) (fun b111 => ?_)
                                · refine Ew_of (pc' := 376) (fun _ => x_aload_n rfl (rk_o (rk_o (lc335_0) rfl rfl) rfl rfl)) ?_
                                  refine Ew_of (pc' := 378) (fun _ => x_iload rfl (rk_o (rk_s) rfl rfl)) ?_
                                  refine w_ifeq (t := 388) rfl rfl (show inr (tc335_0) by omega) (fun b112 => ?_) (fun b112 => ?_)
                                  · refine Ew_of (pc' := 389) (fun _ => x_aload_n rfl (rk_o (rk_o (lc335_0) rfl rfl) rfl rfl)) ?_
                                    refine w_gI H (o := 3) (w := y286_3_15) rfl (H.perm 3 rfl) rfl rfl rfl (fun _ => rfl) (((hS_c335 3 15 rfl).trans (hS106 3 15 rfl)).trans (ey286_3_15)) ?_
                                    refine Ew_of (pc' := 393) (fun _ => x_iconst rfl) ?_
                                    refine w_iadd rfl ?_
                                    refine w_pI H (o := 3) rfl rfl (H.perm 3 rfl) rfl rfl rfl (fun _ => rfl) rfl (show (-2147483648 : Int) ≤ (y286_3_15 + 4) ∧ (y286_3_15 + 4) ≤ 2147483647 by omega) (fun σ H => ?_)
                                    refine Ew_of (pc' := 286) (fun _ => x_goto rfl rfl) ?_
                                    exact ih286 _ (by omega) _ σ _ _ (tc335_0) (rk_o (rk_o (lc335_0) rfl rfl) rfl rfl) (rk_o (rk_o (lc335_1) rfl rfl) rfl rfl) (rk_o (rk_o (lc335_3) rfl rfl) rfl rfl) (rk_o (rk_o (lc335_4) rfl rfl) rfl rfl) (rk_o (rk_o (lc335_5) rfl rfl) rfl rfl) (rk_o (rk_o (lc335_6) rfl rfl) rfl rfl) (rk_o (rk_s) rfl rfl) H (SF_upd (SF_trans (SF_trans (hS_286) hS106 (any_sub rfl)) hS_c335 (any_sub rfl)) rfl) (SA_trans (SA_trans (hA_286) hA107 (any_subA rfl)) hA_c335 (any_subA rfl)) (y286_3_14) ((((hS_c335 3 14 rfl).trans (hS106 3 14 rfl)).trans (ey286_3_14))) ((y286_3_15 + 4)) (rfl)  (show inr (tc335_0) by omega) (show (tc335_0) = 0 ∨ (tc335_0) = 1 by omega) (show (((u3_15 + 1) + 1)) ≤ ((y286_3_15 + 4)) ∧ ((y286_3_15 + 4)) ≤ (u1_1) by omega) (show andI (v10) 8 = 0 ∨ (((u3_15 + 1) + 1)) + 8 ≤ ((y286_3_15 + 4)) by omega) (show (u3_14) ≤ (y286_3_14) ∧ (y286_3_14) ≤ (a1) by omega) rfl
                                  · refine Ew_of (pc' := 382) (fun _ => x_aload_n rfl (rk_o (rk_o (lc335_0) rfl rfl) rfl rfl)) ?_
                                    refine w_gI H (o := 3) (w := y286_3_15) rfl (H.perm 3 rfl) rfl rfl rfl (fun _ => rfl) (((hS_c335 3 15 rfl).trans (hS106 3 15 rfl)).trans (ey286_3_15)) ?_
                                    refine Ew_of (pc' := 394) (fun _ => x_goto rfl rfl) ?_
                                    refine w_pI H (o := 3) rfl rfl (H.perm 3 rfl) rfl rfl rfl (fun _ => rfl) rfl (show (-2147483648 : Int) ≤ y286_3_15 ∧ y286_3_15 ≤ 2147483647 by omega) (fun σ H => ?_)
                                    refine Ew_of (pc' := 286) (fun _ => x_goto rfl rfl) ?_
                                    exact ih286 _ (by omega) _ σ _ _ (tc335_0) (rk_o (rk_o (lc335_0) rfl rfl) rfl rfl) (rk_o (rk_o (lc335_1) rfl rfl) rfl rfl) (rk_o (rk_o (lc335_3) rfl rfl) rfl rfl) (rk_o (rk_o (lc335_4) rfl rfl) rfl rfl) (rk_o (rk_o (lc335_5) rfl rfl) rfl rfl) (rk_o (rk_o (lc335_6) rfl rfl) rfl rfl) (rk_o (rk_s) rfl rfl) H (SF_upd (SF_trans (SF_trans (hS_286) hS106 (any_sub rfl)) hS_c335 (any_sub rfl)) rfl) (SA_trans (SA_trans (hA_286) hA107 (any_subA rfl)) hA_c335 (any_subA rfl)) (y286_3_14) ((((hS_c335 3 14 rfl).trans (hS106 3 14 rfl)).trans (ey286_3_14))) (y286_3_15) (rfl)  (show inr (tc335_0) by omega) (show (tc335_0) = 0 ∨ (tc335_0) = 1 by omega) (show (((u3_15 + 1) + 1)) ≤ (y286_3_15) ∧ (y286_3_15) ≤ (u1_1) by omega) (show andI (v10) 8 = 0 ∨ (((u3_15 + 1) + 1)) + 8 ≤ (y286_3_15) by omega) (show (u3_14) ≤ (y286_3_14) ∧ (y286_3_14) ≤ (a1) by omega) rfl
                                · refine Ew_of (pc' := 374) (fun _ => x_iload rfl rk_s) ?_
                                  exact w_ireturn rfl (k (0) σ _ _ H (SF_trans (SF_trans (SF_trans (SF_upd (SF_trans (SF_trans (SF_trans (SF_trans (SF_upd (SF_trans (SF_upd (SF_trans (SF_trans (SF_refl) hS6 (any_sub rfl)) hS13 (any_sub rfl)) rfl) hS19 (any_sub rfl)) rfl) hS_c179 (any_sub rfl)) hS_c195 (any_sub rfl)) hS42 (any_sub rfl)) hS49 (any_sub rfl)) rfl) hS_286 (any_sub rfl)) hS106 (any_sub rfl)) hS_c335 (any_sub rfl)) (SA_trans (SA_trans (SA_trans (SA_trans (SA_trans (SA_trans (SA_trans (SA_trans (SA_trans (SA_trans (SA_refl) hA7 (any_subA rfl)) hA14 (any_subA rfl)) hA20 (any_subA rfl)) hA_c179 (any_subA rfl)) hA_c195 (any_subA rfl)) hA43 (any_subA rfl)) hA50 (any_subA rfl)) hA_286 (any_subA rfl)) hA107 (any_subA rfl)) hA_c335 (any_subA rfl)) (y286_3_14) ((((hS_c335 3 14 rfl).trans (hS106 3 14 rfl)).trans (ey286_3_14))) (y286_3_15) ((((hS_c335 3 15 rfl).trans (hS106 3 15 rfl)).trans (ey286_3_15))) (show inr (0) by omega) (show 0 ≤ (0) ∧ (0) ≤ 20 by omega) (show (y286_3_14) ≤ a1 by omega) (show (0) ≠ 0 ∨ (u3_15) ≤ (y286_3_15) ∧ (y286_3_15) ≤ (u1_1) by omega))
                              · refine Ew_of (pc' := 343) (fun _ => x_aload_n rfl (rk_o (lc335_0) rfl rfl)) ?_
                                refine Ew_of (pc' := 345) (fun _ => x_lload rfl (rk_o (lc335_8) rfl rfl)) ?_
                                refine Ew_of (pc' := 346) (fun _ => x_iload_n rfl (rk_o (lc335_3) rfl rfl)) ?_
                                refine Ew_of (pc' := 347) (fun _ => x_iconst rfl) ?_
                                refine Ew_of (pc' := 349) (fun _ => x_bipush (z := 8) rfl (by decide)) ?_
                                refine Ew_of (pc' := 350) (fun _ => x_iconst rfl) ?_
                                refine Ew_of (pc' := 352) (fun _ => x_iload rfl (rk_o (lc335_4) rfl rfl)) ?_
                                refine w_imul rfl ?_
                                refine w_iadd rfl ?_
                                have : p2 ((8 + (2 * (v23 / 16)))) ≤ p2 22 := p2_mono (by omega)
                                have : p2 22 = 4194304 := by decide
                                have := p2_pos ((8 + (2 * (v23 / 16))))
                                refine w_ishlX rfl (fun z113 gz113 dz113 => ?_)
                                refine Ew_of (pc' := 357) (fun _ => x_iload rfl (rk_o (lc335_6) rfl rfl)) ?_
                                refine Ew_of (pc' := 358) (fun _ => x_iload_n rfl (rk_o (lc335_1) rfl rfl)) ?_
                                refine w_inv H (o := 3) rfl rfl rfl (H.perm 3 rfl) rfl rfl (by rfl) (M384 H (u1_1) ((((((((((((hS_c335 1 1 rfl).trans (hS106 1 1 rfl)).trans (hS_286 1 1 rfl)).trans (hS49 1 1 rfl)).trans (hS42 1 1 rfl)).trans (hS_c195 1 1 rfl)).trans (hS_c179 1 1 rfl)).trans (hS19 1 1 rfl)).trans (hS13 1 1 rfl)).trans (hS6 1 1 rfl)).trans (eu1_1))) (y286_3_14) ((((hS_c335 3 14 rfl).trans (hS106 3 14 rfl)).trans (ey286_3_14))) (y286_3_15) ((((hS_c335 3 15 rfl).trans (hS106 3 15 rfl)).trans (ey286_3_15))) (show inrJ (xc335_8) by omega) (show inr (v10) by omega) (show inr (z113) by omega) (show inr (u3_14) by omega) (show inr (a1) by omega) (show 0 ≤ (xc335_8) ∧ (xc335_8) ≤ 4294967295 by omega) (show 0 ≤ (y286_3_15) ∧ (y286_3_15) ≤ (u1_1) by omega) (show (y286_3_15) + 4 ≤ (u1_1) by omega) (show 0 ≤ (z113) ∧ (z113) ≤ 4194304 by omega) (show 0 ≤ (u3_14) ∧ (u3_14) ≤ (y286_3_14) ∧ (y286_3_14) ≤ (a1) ∧ (a1) ≤ 65536 by omega) (fun z118 σ F114 A115 H hS116 hA117 y119 ey120 y121 ey122 pz118_0 pz118_1 pz118_2 pz118_3 => ⟨rfl, ?_⟩))
                                have r123 : (0 : Int) ≤ y119 ∧ y119 ≤ 65536 := by have h1 : (0 : Int) ≤ F114 3 14 ∧ F114 3 14 ≤ 65536 := H.frng 3 14; rw [show F114 3 14 = y119 from (ey120)] at h1; exact h1
                                have r124 : (-2147483648 : Int) ≤ y121 ∧ y121 ≤ 2147483647 := by have h1 : (-2147483648 : Int) ≤ F114 3 15 ∧ F114 3 15 ≤ 2147483647 := H.frng 3 15; rw [show F114 3 15 = y121 from (ey122)] at h1; exact h1
                                refine Ew_of (pc' := 365) (fun _ => x_goto rfl rfl) ?_
                                refine Ew_of (pc' := 367) (fun _ => x_istore rfl) ?_
                                refine Ew_of (pc' := 369) (fun _ => x_iload rfl rk_s) ?_
                                refine w_ifle (t := 375) rfl rfl (show inr (z118) by omega) (fun b125 => ?_) (fun b125 => ?_)
                                · refine Ew_of (pc' := 376) (fun _ => x_aload_n rfl (rk_o (rk_o (lc335_0) rfl rfl) rfl rfl)) ?_
                                  refine Ew_of (pc' := 378) (fun _ => x_iload rfl (rk_o (rk_s) rfl rfl)) ?_
                                  refine w_ifeq (t := 388) rfl rfl (show inr (tc335_0) by omega) (fun b126 => ?_) (fun b126 => ?_)
                                  · refine Ew_of (pc' := 389) (fun _ => x_aload_n rfl (rk_o (rk_o (lc335_0) rfl rfl) rfl rfl)) ?_
                                    refine w_gI H (o := 3) (w := y121) rfl (H.perm 3 rfl) rfl rfl rfl (fun _ => rfl) (ey122) ?_
                                    refine Ew_of (pc' := 393) (fun _ => x_iconst rfl) ?_
                                    refine w_iadd rfl ?_
                                    refine w_pI H (o := 3) rfl rfl (H.perm 3 rfl) rfl rfl rfl (fun _ => rfl) rfl (show (-2147483648 : Int) ≤ (y121 + 4) ∧ (y121 + 4) ≤ 2147483647 by omega) (fun σ H => ?_)
                                    refine Ew_of (pc' := 286) (fun _ => x_goto rfl rfl) ?_
                                    exact ih286 _ (by omega) _ σ _ _ (tc335_0) (rk_o (rk_o (lc335_0) rfl rfl) rfl rfl) (rk_o (rk_o (lc335_1) rfl rfl) rfl rfl) (rk_o (rk_o (lc335_3) rfl rfl) rfl rfl) (rk_o (rk_o (lc335_4) rfl rfl) rfl rfl) (rk_o (rk_o (lc335_5) rfl rfl) rfl rfl) (rk_o (rk_o (lc335_6) rfl rfl) rfl rfl) (rk_o (rk_s) rfl rfl) H (SF_upd (SF_trans (SF_trans (SF_trans (hS_286) hS106 (any_sub rfl)) hS_c335 (any_sub rfl)) hS116 (any_sub rfl)) rfl) (SA_trans (SA_trans (SA_trans (hA_286) hA107 (any_subA rfl)) hA_c335 (any_subA rfl)) hA117 (any_subA rfl)) (y119) ((ey120)) ((y121 + 4)) (rfl)  (show inr (tc335_0) by omega) (show (tc335_0) = 0 ∨ (tc335_0) = 1 by omega) (show (((u3_15 + 1) + 1)) ≤ ((y121 + 4)) ∧ ((y121 + 4)) ≤ (u1_1) by omega) (show andI (v10) 8 = 0 ∨ (((u3_15 + 1) + 1)) + 8 ≤ ((y121 + 4)) by omega) (show (u3_14) ≤ (y119) ∧ (y119) ≤ (a1) by omega) rfl
                                  · refine Ew_of (pc' := 382) (fun _ => x_aload_n rfl (rk_o (rk_o (lc335_0) rfl rfl) rfl rfl)) ?_
                                    refine w_gI H (o := 3) (w := y121) rfl (H.perm 3 rfl) rfl rfl rfl (fun _ => rfl) (ey122) ?_
                                    refine Ew_of (pc' := 394) (fun _ => x_goto rfl rfl) ?_
                                    refine w_pI H (o := 3) rfl rfl (H.perm 3 rfl) rfl rfl rfl (fun _ => rfl) rfl (show (-2147483648 : Int) ≤ y121 ∧ y121 ≤ 2147483647 by omega) (fun σ H => ?_)
                                    refine Ew_of (pc' := 286) (fun _ => x_goto rfl rfl) ?_
                                    exact ih286 _ (by omega) _ σ _ _ (tc335_0) (rk_o (rk_o (lc335_0) rfl rfl) rfl rfl) (rk_o (rk_o (lc335_1) rfl rfl) rfl rfl) (rk_o (rk_o (lc335_3) rfl rfl) rfl rfl) (rk_o (rk_o (lc335_4) rfl rfl) rfl rfl) (rk_o (rk_o (lc335_5) rfl rfl) rfl rfl) (rk_o (rk_o (lc335_6) rfl rfl) rfl rfl) (rk_o (rk_s) rfl rfl) H (SF_upd (SF_trans (SF_trans (SF_trans (hS_286) hS106 (any_sub rfl)) hS_c335 (any_sub rfl)) hS116 (any_sub rfl)) rfl) (SA_trans (SA_trans (SA_trans (hA_286) hA107 (any_subA rfl)) hA_c335 (any_subA rfl)) hA117 (any_subA rfl)) (y119) ((ey120)) (y121) (rfl)  (show inr (tc335_0) by omega) (show (tc335_0) = 0 ∨ (tc335_0) = 1 by omega) (show (((u3_15 + 1) + 1)) ≤ (y121) ∧ (y121) ≤ (u1_1) by omega) (show andI (v10) 8 = 0 ∨ (((u3_15 + 1) + 1)) + 8 ≤ (y121) by omega) (show (u3_14) ≤ (y119) ∧ (y119) ≤ (a1) by omega) rfl
                                · refine Ew_of (pc' := 374) (fun _ => x_iload rfl rk_s) ?_
                                  exact w_ireturn rfl (k (z118) σ _ _ H (SF_trans (SF_trans (SF_trans (SF_trans (SF_upd (SF_trans (SF_trans (SF_trans (SF_trans (SF_upd (SF_trans (SF_upd (SF_trans (SF_trans (SF_refl) hS6 (any_sub rfl)) hS13 (any_sub rfl)) rfl) hS19 (any_sub rfl)) rfl) hS_c179 (any_sub rfl)) hS_c195 (any_sub rfl)) hS42 (any_sub rfl)) hS49 (any_sub rfl)) rfl) hS_286 (any_sub rfl)) hS106 (any_sub rfl)) hS_c335 (any_sub rfl)) hS116 (any_sub rfl)) (SA_trans (SA_trans (SA_trans (SA_trans (SA_trans (SA_trans (SA_trans (SA_trans (SA_trans (SA_trans (SA_trans (SA_refl) hA7 (any_subA rfl)) hA14 (any_subA rfl)) hA20 (any_subA rfl)) hA_c179 (any_subA rfl)) hA_c195 (any_subA rfl)) hA43 (any_subA rfl)) hA50 (any_subA rfl)) hA_286 (any_subA rfl)) hA107 (any_subA rfl)) hA_c335 (any_subA rfl)) hA117 (any_subA rfl)) (y119) ((ey120)) (y121) ((ey122)) (show inr (z118) by omega) (show 0 ≤ (z118) ∧ (z118) ≤ 20 by omega) (show (y119) ≤ a1 by omega) (show (z118) ≠ 0 ∨ (u3_15) ≤ (y121) ∧ (y121) ≤ (u1_1) by omega))
                            refine Ew_of (pc' := 313) (fun _ => x_aload_n rfl l286_0) ?_
                            refine Ew_of (pc' := 314) (fun _ => x_aload_n rfl l286_0) ?_
                            refine w_gI H (o := 3) (w := y286_3_15) rfl (H.perm 3 rfl) rfl rfl rfl (fun _ => rfl) ((hS106 3 15 rfl).trans (ey286_3_15)) ?_
                            refine Ew_of (pc' := 318) (fun _ => x_iconst rfl) ?_
                            refine w_inv H (o := 3) rfl rfl rfl (H.perm 3 rfl) rfl rfl (by rfl) (M380 H (show inr (y286_3_15) by omega) (show inr (4) by omega) (show 0 ≤ (y286_3_15) ∧ 0 ≤ (4) ∧ (4) ≤ 8 ∧ (y286_3_15) + (4) ≤ 65536 by omega) (fun z131 σ F127 A128 H hS129 hA130 pz131_0 pz131_1 pz131_2 pz131_3 pz131_4 pz131_5 => ⟨rfl, ?_⟩))
                            refine Ew_of (pc' := 323) (fun _ => x_lstore rfl) ?_
                            refine Ew_of (pc' := 325) (fun _ => x_lload rfl rk2_s) ?_
                            refine Ew_of (pc' := 326) (fun _ => x_lconst (z := 0) rfl (by decide)) ?_
                            refine w_lcmp rfl (show inrJ (z131) by omega) (show inrJ (0) by omega) (fun z132 gz132 gaz132 gbz132 => ?_)
                            refine w_ifeq (t := 334) rfl rfl (show inr (z132) by omega) (fun b133 => ?_) (fun b133 => ?_)
                            · refine Ew_of (pc' := 335) (fun _ => x_iconst rfl) ?_
                              exact hc335 (0) _ σ _ _ (z131) (rk2_o (l286_0) rfl rfl) (rk2_o (l286_1) rfl rfl) (rk2_o (l286_3) rfl rfl) (rk2_o (l286_4) rfl rfl) (rk2_o (l286_5) rfl rfl) (rk2_o (l286_6) rfl rfl) (rk2_s) H (SF_trans (SF_refl) hS129 (any_sub rfl)) (SA_trans (SA_refl) hA130 (any_subA rfl))   (show inrJ (z131) by omega) (show inr (0) by omega) (show (0) = 0 ∨ (0) = 1 ∧ 0 < (z131) by omega) (show 0 ≤ (z131) ∧ (z131) ≤ 4294967295 by omega)
                            · refine Ew_of (pc' := 331) (fun _ => x_iconst rfl) ?_
                              refine Ew_of (pc' := 335) (fun _ => x_goto rfl rfl) ?_
                              exact hc335 (1) _ σ _ _ (z131) (rk2_o (l286_0) rfl rfl) (rk2_o (l286_1) rfl rfl) (rk2_o (l286_3) rfl rfl) (rk2_o (l286_4) rfl rfl) (rk2_o (l286_5) rfl rfl) (rk2_o (l286_6) rfl rfl) (rk2_s) H (SF_trans (SF_refl) hS129 (any_sub rfl)) (SA_trans (SA_refl) hA130 (any_subA rfl))   (show inrJ (z131) by omega) (show inr (1) by omega) (show (1) = 0 ∨ (1) = 1 ∧ 0 < (z131) by omega) (show 0 ≤ (z131) ∧ (z131) ≤ 4294967295 by omega)
                          · refine Ew_of (pc' := 300) (fun _ => x_aload_n rfl l286_0) ?_
                            refine Ew_of (pc' := 301) (fun _ => x_iconst rfl) ?_
                            refine Ew_of (pc' := 302) (fun _ => x_aload_n rfl l286_0) ?_
                            refine w_gT H (o := 3) (t := 1) rfl (H.perm 3 rfl) rfl rfl rfl rfl rfl rfl ?_
                            refine w_gI H (o := 1) (w := u1_1) rfl (H.perm 1 rfl) rfl rfl rfl (fun _ => rfl) ((((((((((hS106 1 1 rfl).trans (hS_286 1 1 rfl)).trans (hS49 1 1 rfl)).trans (hS42 1 1 rfl)).trans (hS_c195 1 1 rfl)).trans (hS_c179 1 1 rfl)).trans (hS19 1 1 rfl)).trans (hS13 1 1 rfl)).trans (hS6 1 1 rfl)).trans (eu1_1)) ?_
                            refine w_inv H (o := 3) rfl rfl rfl (H.perm 3 rfl) rfl rfl (by rfl) (M381 H (show inr (1) by omega) (show inr (u1_1) by omega) (fun z138 σ F134 A135 H hS136 hA137 pz138_0 pz138_1 => ⟨rfl, ?_⟩))
                            exact w_ireturn rfl (k (z138) σ _ _ H (SF_trans (SF_trans (SF_trans (SF_upd (SF_trans (SF_trans (SF_trans (SF_trans (SF_upd (SF_trans (SF_upd (SF_trans (SF_trans (SF_refl) hS6 (any_sub rfl)) hS13 (any_sub rfl)) rfl) hS19 (any_sub rfl)) rfl) hS_c179 (any_sub rfl)) hS_c195 (any_sub rfl)) hS42 (any_sub rfl)) hS49 (any_sub rfl)) rfl) hS_286 (any_sub rfl)) hS106 (any_sub rfl)) hS136 (any_sub rfl)) (SA_trans (SA_trans (SA_trans (SA_trans (SA_trans (SA_trans (SA_trans (SA_trans (SA_trans (SA_trans (SA_refl) hA7 (any_subA rfl)) hA14 (any_subA rfl)) hA20 (any_subA rfl)) hA_c179 (any_subA rfl)) hA_c195 (any_subA rfl)) hA43 (any_subA rfl)) hA50 (any_subA rfl)) hA_286 (any_subA rfl)) hA107 (any_subA rfl)) hA137 (any_subA rfl)) (y286_3_14) ((((hS136 3 14 rfl).trans (hS106 3 14 rfl)).trans (ey286_3_14))) (y286_3_15) ((((hS136 3 15 rfl).trans (hS106 3 15 rfl)).trans (ey286_3_15))) (show inr (z138) by omega) (show 0 ≤ (z138) ∧ (z138) ≤ 20 by omega) (show (y286_3_14) ≤ a1 by omega) (show (z138) ≠ 0 ∨ (u3_15) ≤ (y286_3_15) ∧ (y286_3_15) ≤ (u1_1) by omega))
                    · refine Ew_of (pc' := 257) (fun _ => x_aload_n rfl lc195_0) ?_
                      refine Ew_of (pc' := 259) (fun _ => x_bipush (z := 6) rfl (by decide)) ?_
                      refine Ew_of (pc' := 260) (fun _ => x_aload_n rfl lc195_0) ?_
                      refine w_gI H (o := 3) (w := yc195_3_15) rfl (H.perm 3 rfl) rfl rfl rfl (fun _ => rfl) (((hS49 3 15 rfl).trans (hS42 3 15 rfl)).trans (eyc195_3_15)) ?_
                      refine w_inv H (o := 3) rfl rfl rfl (H.perm 3 rfl) rfl rfl (by rfl) (M381 H (show inr (6) by omega) (show inr (yc195_3_15) by omega) (fun z143 σ F139 A140 H hS141 hA142 pz143_0 pz143_1 => ⟨rfl, ?_⟩))
                      exact w_ireturn rfl (k (z143) σ _ _ H (SF_trans (SF_trans (SF_trans (SF_trans (SF_trans (SF_upd (SF_trans (SF_upd (SF_trans (SF_trans (SF_refl) hS6 (any_sub rfl)) hS13 (any_sub rfl)) rfl) hS19 (any_sub rfl)) rfl) hS_c179 (any_sub rfl)) hS_c195 (any_sub rfl)) hS42 (any_sub rfl)) hS49 (any_sub rfl)) hS141 (any_sub rfl)) (SA_trans (SA_trans (SA_trans (SA_trans (SA_trans (SA_trans (SA_trans (SA_trans (SA_refl) hA7 (any_subA rfl)) hA14 (any_subA rfl)) hA20 (any_subA rfl)) hA_c179 (any_subA rfl)) hA_c195 (any_subA rfl)) hA43 (any_subA rfl)) hA50 (any_subA rfl)) hA142 (any_subA rfl)) (u3_14) ((((((((((hS141 3 14 rfl).trans (hS49 3 14 rfl)).trans (hS42 3 14 rfl)).trans (hS_c195 3 14 rfl)).trans (hS_c179 3 14 rfl)).trans (hS19 3 14 rfl)).trans (hS13 3 14 rfl)).trans (hS6 3 14 rfl)).trans (eu3_14))) (yc195_3_15) (((((hS141 3 15 rfl).trans (hS49 3 15 rfl)).trans (hS42 3 15 rfl)).trans (eyc195_3_15))) (show inr (z143) by omega) (show 0 ≤ (z143) ∧ (z143) ≤ 20 by omega) (show (u3_14) ≤ a1 by omega) (show (z143) ≠ 0 ∨ (u3_15) ≤ (yc195_3_15) ∧ (yc195_3_15) ≤ (u1_1) by omega))
                  · refine Ew_of (pc' := 204) (fun _ => x_aload_n rfl lc195_0) ?_
                    refine Ew_of (pc' := 205) (fun _ => x_iconst rfl) ?_
                    refine Ew_of (pc' := 206) (fun _ => x_aload_n rfl lc195_0) ?_
                    refine w_gT H (o := 3) (t := 1) rfl (H.perm 3 rfl) rfl rfl rfl rfl rfl rfl ?_
                    refine w_gI H (o := 1) (w := u1_1) rfl (H.perm 1 rfl) rfl rfl rfl (fun _ => rfl) (((((((hS42 1 1 rfl).trans (hS_c195 1 1 rfl)).trans (hS_c179 1 1 rfl)).trans (hS19 1 1 rfl)).trans (hS13 1 1 rfl)).trans (hS6 1 1 rfl)).trans (eu1_1)) ?_
                    refine w_inv H (o := 3) rfl rfl rfl (H.perm 3 rfl) rfl rfl (by rfl) (M381 H (show inr (1) by omega) (show inr (u1_1) by omega) (fun z148 σ F144 A145 H hS146 hA147 pz148_0 pz148_1 => ⟨rfl, ?_⟩))
                    exact w_ireturn rfl (k (z148) σ _ _ H (SF_trans (SF_trans (SF_trans (SF_trans (SF_upd (SF_trans (SF_upd (SF_trans (SF_trans (SF_refl) hS6 (any_sub rfl)) hS13 (any_sub rfl)) rfl) hS19 (any_sub rfl)) rfl) hS_c179 (any_sub rfl)) hS_c195 (any_sub rfl)) hS42 (any_sub rfl)) hS146 (any_sub rfl)) (SA_trans (SA_trans (SA_trans (SA_trans (SA_trans (SA_trans (SA_trans (SA_refl) hA7 (any_subA rfl)) hA14 (any_subA rfl)) hA20 (any_subA rfl)) hA_c179 (any_subA rfl)) hA_c195 (any_subA rfl)) hA43 (any_subA rfl)) hA147 (any_subA rfl)) (u3_14) (((((((((hS146 3 14 rfl).trans (hS42 3 14 rfl)).trans (hS_c195 3 14 rfl)).trans (hS_c179 3 14 rfl)).trans (hS19 3 14 rfl)).trans (hS13 3 14 rfl)).trans (hS6 3 14 rfl)).trans (eu3_14))) (yc195_3_15) ((((hS146 3 15 rfl).trans (hS42 3 15 rfl)).trans (eyc195_3_15))) (show inr (z148) by omega) (show 0 ≤ (z148) ∧ (z148) ≤ 20 by omega) (show (u3_14) ≤ a1 by omega) (show (z148) ≠ 0 ∨ (u3_15) ≤ (yc195_3_15) ∧ (yc195_3_15) ≤ (u1_1) by omega))
                refine Ew_of (pc' := 180) (fun _ => x_iload_n rfl lc179_3) ?_
                refine Ew_of (pc' := 181) (fun _ => x_iconst rfl) ?_
                refine w_iand rfl (show inr (v10) by omega) (show inr (1) by omega) (fun z149 gz149 gaz149 gbz149 => ?_)
                refine w_ifeq (t := 195) rfl rfl (show inr (z149) by omega) (fun b150 => ?_) (fun b150 => ?_)
                · exact hc195  _ σ _ _  (lc179_0) (lc179_1) (lc179_2) (lc179_3) (lc179_4) (lc179_5) H (SF_refl) (SA_refl) (yc179_3_15) ((eyc179_3_15))  (show (((u3_15 + 1) + 1)) ≤ (yc179_3_15) ∧ (yc179_3_15) ≤ (((u3_15 + 1) + 1)) + 12 by omega) (show andI (v10) 8 = 0 ∨ (((u3_15 + 1) + 1)) + 8 ≤ (yc179_3_15) by omega)
                · refine Ew_of (pc' := 186) (fun _ => x_aload_n rfl lc179_0) ?_
                  refine Ew_of (pc' := 187) (fun _ => x_dup rfl rfl) ?_
                  refine w_gI H (o := 3) (w := yc179_3_15) rfl (H.perm 3 rfl) rfl rfl rfl (fun _ => rfl) (eyc179_3_15) ?_
                  refine Ew_of (pc' := 191) (fun _ => x_iconst rfl) ?_
                  refine w_iadd rfl ?_
                  refine w_pI H (o := 3) rfl rfl (H.perm 3 rfl) rfl rfl rfl (fun _ => rfl) rfl (show (-2147483648 : Int) ≤ (yc179_3_15 + 4) ∧ (yc179_3_15 + 4) ≤ 2147483647 by omega) (fun σ H => ?_)
                  exact hc195  _ σ _ _  (lc179_0) (lc179_1) (lc179_2) (lc179_3) (lc179_4) (lc179_5) H (SF_upd (SF_refl) rfl) (SA_refl) ((yc179_3_15 + 4)) (rfl)  (show (((u3_15 + 1) + 1)) ≤ ((yc179_3_15 + 4)) ∧ ((yc179_3_15 + 4)) ≤ (((u3_15 + 1) + 1)) + 12 by omega) (show andI (v10) 8 = 0 ∨ (((u3_15 + 1) + 1)) + 8 ≤ ((yc179_3_15 + 4)) by omega)
              refine Ew_of (pc' := 162) (fun _ => x_iload_n rfl (rk_o (rk_o (rk_s) rfl rfl) rfl rfl)) ?_
              refine Ew_of (pc' := 164) (fun _ => x_bipush (z := 8) rfl (by decide)) ?_
              refine w_iandE rfl (show inr (v10) by omega) (show inr (8) by omega) (fun z151 gz151 gaz151 gbz151 gez151 => ?_)
              refine w_ifeq (t := 179) rfl rfl (show inr (z151) by omega) (fun b152 => ?_) (fun b152 => ?_)
              · exact hc179  _ σ _ _  (rk_o (rk_o (rk_o (rk_o (rfl) rfl rfl) rfl rfl) rfl rfl) rfl rfl) (rk_o (rk_o (rk_o (rk_o (rfl) rfl rfl) rfl rfl) rfl rfl) rfl rfl) (rk_o (rk_o (rk_o (rk_s) rfl rfl) rfl rfl) rfl rfl) (rk_o (rk_o (rk_s) rfl rfl) rfl rfl) (rk_o (rk_s) rfl rfl) (rk_s) H (SF_refl) (SA_refl) (((u3_15 + 1) + 1)) (rfl)  (show (((u3_15 + 1) + 1)) ≤ (((u3_15 + 1) + 1)) ∧ (((u3_15 + 1) + 1)) ≤ (((u3_15 + 1) + 1)) + 8 by omega) (show andI (v10) 8 = 0 ∨ (((u3_15 + 1) + 1)) + 8 ≤ (((u3_15 + 1) + 1)) by omega)
              · refine Ew_of (pc' := 169) (fun _ => x_aload_n rfl (rk_o (rk_o (rk_o (rk_o (rfl) rfl rfl) rfl rfl) rfl rfl) rfl rfl)) ?_
                refine Ew_of (pc' := 170) (fun _ => x_dup rfl rfl) ?_
                refine w_gI H (o := 3) (w := ((u3_15 + 1) + 1)) rfl (H.perm 3 rfl) rfl rfl rfl (fun _ => rfl) rfl ?_
                refine Ew_of (pc' := 175) (fun _ => x_bipush (z := 8) rfl (by decide)) ?_
                refine w_iadd rfl ?_
                refine w_pI H (o := 3) rfl rfl (H.perm 3 rfl) rfl rfl rfl (fun _ => rfl) rfl (show (-2147483648 : Int) ≤ (((u3_15 + 1) + 1) + 8) ∧ (((u3_15 + 1) + 1) + 8) ≤ 2147483647 by omega) (fun σ H => ?_)
                exact hc179  _ σ _ _  (rk_o (rk_o (rk_o (rk_o (rfl) rfl rfl) rfl rfl) rfl rfl) rfl rfl) (rk_o (rk_o (rk_o (rk_o (rfl) rfl rfl) rfl rfl) rfl rfl) rfl rfl) (rk_o (rk_o (rk_o (rk_s) rfl rfl) rfl rfl) rfl rfl) (rk_o (rk_o (rk_s) rfl rfl) rfl rfl) (rk_o (rk_s) rfl rfl) (rk_s) H (SF_upd (SF_refl) rfl) (SA_refl) ((((u3_15 + 1) + 1) + 8)) (rfl)  (show (((u3_15 + 1) + 1)) ≤ ((((u3_15 + 1) + 1) + 8)) ∧ ((((u3_15 + 1) + 1) + 8)) ≤ (((u3_15 + 1) + 1)) + 8 by omega) (show andI (v10) 8 = 0 ∨ (((u3_15 + 1) + 1)) + 8 ≤ ((((u3_15 + 1) + 1) + 8)) by omega)
            · refine Ew_of (pc' := 136) (fun _ => x_aload_n rfl (rk_o (rk_o (rk_o (rfl) rfl rfl) rfl rfl) rfl rfl)) ?_
              refine Ew_of (pc' := 137) (fun _ => x_iconst rfl) ?_
              refine Ew_of (pc' := 138) (fun _ => x_aload_n rfl (rk_o (rk_o (rk_o (rfl) rfl rfl) rfl rfl) rfl rfl)) ?_
              refine w_gI H (o := 3) (w := (u3_15 + 1)) rfl (H.perm 3 rfl) rfl rfl rfl (fun _ => rfl) (hS19 3 15 rfl) ?_
              refine w_inv H (o := 3) rfl rfl rfl (H.perm 3 rfl) rfl rfl (by rfl) (M381 H (show inr (5) by omega) (show inr ((u3_15 + 1)) by omega) (fun z157 σ F153 A154 H hS155 hA156 pz157_0 pz157_1 => ⟨rfl, ?_⟩))
              exact w_ireturn rfl (k (z157) σ _ _ H (SF_trans (SF_trans (SF_upd (SF_trans (SF_trans (SF_refl) hS6 (any_sub rfl)) hS13 (any_sub rfl)) rfl) hS19 (any_sub rfl)) hS155 (any_sub rfl)) (SA_trans (SA_trans (SA_trans (SA_trans (SA_refl) hA7 (any_subA rfl)) hA14 (any_subA rfl)) hA20 (any_subA rfl)) hA156 (any_subA rfl)) (u3_14) ((((((hS155 3 14 rfl).trans (hS19 3 14 rfl)).trans (hS13 3 14 rfl)).trans (hS6 3 14 rfl)).trans (eu3_14))) ((u3_15 + 1)) (((hS155 3 15 rfl).trans (hS19 3 15 rfl))) (show inr (z157) by omega) (show 0 ≤ (z157) ∧ (z157) ≤ 20 by omega) (show (u3_14) ≤ a1 by omega) (show (z157) ≠ 0 ∨ (u3_15) ≤ ((u3_15 + 1)) ∧ ((u3_15 + 1)) ≤ (u1_1) by omega))
      · refine Ew_of (pc' := 75) (fun _ => x_aload_n rfl (rk_o (rk_o (rfl) rfl rfl) rfl rfl)) ?_
        refine Ew_of (pc' := 76) (fun _ => x_iconst rfl) ?_
        refine Ew_of (pc' := 77) (fun _ => x_aload_n rfl (rk_o (rk_o (rfl) rfl rfl) rfl rfl)) ?_
        refine w_gT H (o := 3) (t := 1) rfl (H.perm 3 rfl) rfl rfl rfl rfl rfl rfl ?_
        refine w_gI H (o := 1) (w := u1_1) rfl (H.perm 1 rfl) rfl rfl rfl (fun _ => rfl) ((((hS19 1 1 rfl).trans (hS13 1 1 rfl)).trans (hS6 1 1 rfl)).trans (eu1_1)) ?_
        refine w_inv H (o := 3) rfl rfl rfl (H.perm 3 rfl) rfl rfl (by rfl) (M381 H (show inr (1) by omega) (show inr (u1_1) by omega) (fun z162 σ F158 A159 H hS160 hA161 pz162_0 pz162_1 => ⟨rfl, ?_⟩))
        exact w_ireturn rfl (k (z162) σ _ _ H (SF_trans (SF_trans (SF_upd (SF_trans (SF_trans (SF_refl) hS6 (any_sub rfl)) hS13 (any_sub rfl)) rfl) hS19 (any_sub rfl)) hS160 (any_sub rfl)) (SA_trans (SA_trans (SA_trans (SA_trans (SA_refl) hA7 (any_subA rfl)) hA14 (any_subA rfl)) hA20 (any_subA rfl)) hA161 (any_subA rfl)) (u3_14) ((((((hS160 3 14 rfl).trans (hS19 3 14 rfl)).trans (hS13 3 14 rfl)).trans (hS6 3 14 rfl)).trans (eu3_14))) ((u3_15 + 1)) (((hS160 3 15 rfl).trans (hS19 3 15 rfl))) (show inr (z162) by omega) (show 0 ≤ (z162) ∧ (z162) ≤ 20 by omega) (show (u3_14) ≤ a1 by omega) (show (z162) ≠ 0 ∨ (u3_15) ≤ ((u3_15 + 1)) ∧ ((u3_15 + 1)) ≤ (u1_1) by omega))
    · refine Ew_of (pc' := 47) (fun _ => x_aload_n rfl (rk_o (rk_o (rfl) rfl rfl) rfl rfl)) ?_
      refine Ew_of (pc' := 48) (fun _ => x_iconst rfl) ?_
      refine Ew_of (pc' := 49) (fun _ => x_aload_n rfl (rk_o (rk_o (rfl) rfl rfl) rfl rfl)) ?_
      refine w_gI H (o := 3) (w := u3_15) rfl (H.perm 3 rfl) rfl rfl rfl (fun _ => rfl) (((hS13 3 15 rfl).trans (hS6 3 15 rfl)).trans (eu3_15)) ?_
      refine w_inv H (o := 3) rfl rfl rfl (H.perm 3 rfl) rfl rfl (by rfl) (M381 H (show inr (5) by omega) (show inr (u3_15) by omega) (fun z167 σ F163 A164 H hS165 hA166 pz167_0 pz167_1 => ⟨rfl, ?_⟩))
      exact w_ireturn rfl (k (z167) σ _ _ H (SF_trans (SF_trans (SF_trans (SF_refl) hS6 (any_sub rfl)) hS13 (any_sub rfl)) hS165 (any_sub rfl)) (SA_trans (SA_trans (SA_trans (SA_refl) hA7 (any_subA rfl)) hA14 (any_subA rfl)) hA166 (any_subA rfl)) (u3_14) (((((hS165 3 14 rfl).trans (hS13 3 14 rfl)).trans (hS6 3 14 rfl)).trans (eu3_14))) (u3_15) (((((hS165 3 15 rfl).trans (hS13 3 15 rfl)).trans (hS6 3 15 rfl)).trans (eu3_15))) (show inr (z167) by omega) (show 0 ≤ (z167) ∧ (z167) ≤ 20 by omega) (show (u3_14) ≤ a1 by omega) (show (z167) ≠ 0 ∨ (u3_15) ≤ (u3_15) ∧ (u3_15) ≤ (u1_1) by omega))
  · refine Ew_of (pc' := 14) (fun _ => x_aload_n rfl (rk_o (rfl) rfl rfl)) ?_
    refine Ew_of (pc' := 15) (fun _ => x_iconst rfl) ?_
    refine Ew_of (pc' := 16) (fun _ => x_aload_n rfl (rk_o (rfl) rfl rfl)) ?_
    refine w_gT H (o := 3) (t := 1) rfl (H.perm 3 rfl) rfl rfl rfl rfl rfl rfl ?_
    refine w_gI H (o := 1) (w := u1_1) rfl (H.perm 1 rfl) rfl rfl rfl (fun _ => rfl) ((hS6 1 1 rfl).trans (eu1_1)) ?_
    refine w_inv H (o := 3) rfl rfl rfl (H.perm 3 rfl) rfl rfl (by rfl) (M381 H (show inr (1) by omega) (show inr (u1_1) by omega) (fun z172 σ F168 A169 H hS170 hA171 pz172_0 pz172_1 => ⟨rfl, ?_⟩))
    exact w_ireturn rfl (k (z172) σ _ _ H (SF_trans (SF_trans (SF_refl) hS6 (any_sub rfl)) hS170 (any_sub rfl)) (SA_trans (SA_trans (SA_refl) hA7 (any_subA rfl)) hA171 (any_subA rfl)) (u3_14) ((((hS170 3 14 rfl).trans (hS6 3 14 rfl)).trans (eu3_14))) (u3_15) ((((hS170 3 15 rfl).trans (hS6 3 15 rfl)).trans (eu3_15))) (show inr (z172) by omega) (show 0 ≤ (z172) ∧ (z172) ≤ 20 by omega) (show (u3_14) ≤ a1 by omega) (show (z172) ≠ 0 ∨ (u3_15) ≤ (u3_15) ∧ (u3_15) ≤ (u1_1) by omega))
/-- Tokens.readNext -/
theorem M382 {σ0 σ : rS} {D N : Nat → Nat} {F : hF} {A : hA} {d c s : Nat} {Q : wQ} (H : HS σ0 σ D N F A) {a1 : Int} (u1_1 : Int) (eu1_1 : F 1 1 = u1_1) (u3_14 : Int) (eu3_14 : F 3 14 = u3_14) (u3_15 : Int) (eu3_15 : F 3 15 = u3_15) (h0 : inr (a1)) (h1 : 0 ≤ (u3_15) ∧ (u3_15) ≤ (u1_1)) (h2 : 0 ≤ (a1) ∧ (a1) ≤ 65536 ∧ (u3_14) ≤ (a1)) (k : ∀ (z : Int) σ F' A', HS σ0 σ D N F' A' → SF [(1, 4), (3, 12), (3, 14), (3, 15), (3, 16)] F F' → SA [17, 21, 22] A A' → ∀ y3_14 : Int, F' 3 14 = y3_14 → ∀ y3_15 : Int, F' 3 15 = y3_15 → (inr (z)) → (0 ≤ (z) ∧ (z) ≤ 20) → ((y3_14) ≤ (a1)) → ((z) ≠ 0 ∨ (u3_15) + 4 ≤ (y3_15) ∧ (y3_15) ≤ (u1_1)) → Q (some (I z)) σ c s) : Ew 382 (d + 4) 0 (rargs 0 [.ref (D 3), I a1]) [] σ c s Q := by
  have r1 : (0 : Int) ≤ u1_1 ∧ u1_1 ≤ 65536 := by have h1 : (0 : Int) ≤ F 1 1 ∧ F 1 1 ≤ 65536 := H.frng 1 1; rw [show F 1 1 = u1_1 from (eu1_1)] at h1; exact h1
  have r2 : (0 : Int) ≤ u3_14 ∧ u3_14 ≤ 65536 := by have h1 : (0 : Int) ≤ F 3 14 ∧ F 3 14 ≤ 65536 := H.frng 3 14; rw [show F 3 14 = u3_14 from (eu3_14)] at h1; exact h1
  have r3 : (-2147483648 : Int) ≤ u3_15 ∧ u3_15 ≤ 2147483647 := by have h1 : (-2147483648 : Int) ≤ F 3 15 ∧ F 3 15 ≤ 2147483647 := H.frng 3 15; rw [show F 3 15 = u3_15 from (eu3_15)] at h1; exact h1
  refine Ew_of (pc' := 1) (fun _ => x_aload_n rfl rfl) ?_
  refine Ew_of (pc' := 2) (fun _ => x_iconst rfl) ?_
  refine w_inv H (o := 3) rfl rfl rfl (H.perm 3 rfl) rfl rfl (by rfl) (M379 H (u1_1) ((eu1_1)) (u3_15) ((eu3_15)) (show inr (4) by omega) (show 0 ≤ (4) ∧ (4) ≤ 65536 by omega) (show 0 ≤ (u3_15) ∧ (u3_15) ≤ 70000 by omega) (fun z8 σ F4 A5 H hS6 hA7 pz8_0 pz8_1 => ⟨rretB rfl pz8_0, ?_⟩))
  refine w_ifne (t := 21) rfl rfl (show inr (z8) by omega) (fun b9 => ?_) (fun b9 => ?_)
  · refine Ew_of (pc' := 22) (fun _ => x_aload_n rfl rfl) ?_
    refine Ew_of (pc' := 23) (fun _ => x_aload_n rfl rfl) ?_
    refine w_gI H (o := 3) (w := u3_15) rfl (H.perm 3 rfl) rfl rfl rfl (fun _ => rfl) ((hS6 3 15 rfl).trans (eu3_15)) ?_
    refine Ew_of (pc' := 27) (fun _ => x_iconst rfl) ?_
    refine w_inv H (o := 3) rfl rfl rfl (H.perm 3 rfl) rfl rfl (by rfl) (M380 H (show inr (u3_15) by omega) (show inr (4) by omega) (show 0 ≤ (u3_15) ∧ 0 ≤ (4) ∧ (4) ≤ 8 ∧ (u3_15) + (4) ≤ 65536 by omega) (fun z14 σ F10 A11 H hS12 hA13 pz14_0 pz14_1 pz14_2 pz14_3 pz14_4 pz14_5 => ⟨rfl, ?_⟩))
    refine Ew_of (pc' := 31) (fun _ => x_lstore_n rfl) ?_
    refine Ew_of (pc' := 32) (fun _ => x_lload_n rfl rk2_s) ?_
    refine Ew_of (pc' := 35) (fun _ => x_ldc2 (z := 407710288) rfl (by decide)) ?_
    refine w_lcmp rfl (show inrJ (z14) by omega) (show inrJ (407710288) by omega) (fun z15 gz15 gaz15 gbz15 => ?_)
    refine w_iflt (t := 145) rfl rfl (show inr (z15) by omega) (fun b16 => ?_) (fun b16 => ?_)
    · refine Ew_of (pc' := 146) (fun _ => x_lload_n rfl rk2_s) ?_
      refine Ew_of (pc' := 149) (fun _ => x_ldc2 (z := 407708164) rfl (by decide)) ?_
      refine w_lcmp rfl (show inrJ (z14) by omega) (show inrJ (407708164) by omega) (fun z17 gz17 gaz17 gbz17 => ?_)
      refine w_ifeq (t := 163) rfl rfl (show inr (z17) by omega) (fun b18 => ?_) (fun b18 => ?_)
      · refine Ew_of (pc' := 164) (fun _ => x_aload_n rfl (rk2_o (rfl) rfl rfl)) ?_
        refine Ew_of (pc' := 165) (fun _ => x_dup rfl rfl) ?_
        refine w_gI H (o := 3) (w := u3_15) rfl (H.perm 3 rfl) rfl rfl rfl (fun _ => rfl) (((hS12 3 15 rfl).trans (hS6 3 15 rfl)).trans (eu3_15)) ?_
        refine Ew_of (pc' := 169) (fun _ => x_iconst rfl) ?_
        refine w_iadd rfl ?_
        refine w_pI H (o := 3) rfl rfl (H.perm 3 rfl) rfl rfl rfl (fun _ => rfl) rfl (show (-2147483648 : Int) ≤ (u3_15 + 4) ∧ (u3_15 + 4) ≤ 2147483647 by omega) (fun σ H => ?_)
        refine Ew_of (pc' := 174) (fun _ => x_aload_n rfl (rk2_o (rfl) rfl rfl)) ?_
        refine Ew_of (pc' := 175) (fun _ => x_iload_n rfl (rk2_o (rfl) rfl rfl)) ?_
        refine w_inv H (o := 3) rfl rfl rfl (H.perm 3 rfl) rfl rfl (by rfl) (M383 H (u1_1) ((((hS12 1 1 rfl).trans (hS6 1 1 rfl)).trans (eu1_1))) (u3_14) ((((hS12 3 14 rfl).trans (hS6 3 14 rfl)).trans (eu3_14))) ((u3_15 + 4)) (rfl) (show inr (a1) by omega) (show 0 ≤ ((u3_15 + 4)) ∧ ((u3_15 + 4)) ≤ (u1_1) by omega) (show 0 ≤ (a1) ∧ (a1) ≤ 65536 ∧ (u3_14) ≤ (a1) by omega) (fun z23 σ F19 A20 H hS21 hA22 y24 ey25 y26 ey27 pz23_0 pz23_1 pz23_2 pz23_3 => ⟨rfl, ?_⟩))
        have r28 : (0 : Int) ≤ y24 ∧ y24 ≤ 65536 := by have h1 : (0 : Int) ≤ F19 3 14 ∧ F19 3 14 ≤ 65536 := H.frng 3 14; rw [show F19 3 14 = y24 from (ey25)] at h1; exact h1
        have r29 : (-2147483648 : Int) ≤ y26 ∧ y26 ≤ 2147483647 := by have h1 : (-2147483648 : Int) ≤ F19 3 15 ∧ F19 3 15 ≤ 2147483647 := H.frng 3 15; rw [show F19 3 15 = y26 from (ey27)] at h1; exact h1
        exact w_ireturn rfl (k (z23) σ _ _ H (SF_trans (SF_upd (SF_trans (SF_trans (SF_refl) hS6 (any_sub rfl)) hS12 (any_sub rfl)) rfl) hS21 (any_sub rfl)) (SA_trans (SA_trans (SA_trans (SA_refl) hA7 (any_subA rfl)) hA13 (any_subA rfl)) hA22 (any_subA rfl)) (y24) ((ey25)) (y26) ((ey27)) (show inr (z23) by omega) (show 0 ≤ (z23) ∧ (z23) ≤ 20 by omega) (show (y24) ≤ a1 by omega) (show (z23) ≠ 0 ∨ (u3_15) + 4 ≤ (y26) ∧ (y26) ≤ (u1_1) by omega))
      · refine Ew_of (pc' := 154) (fun _ => x_aload_n rfl (rk2_o (rfl) rfl rfl)) ?_
        refine Ew_of (pc' := 155) (fun _ => x_iconst rfl) ?_
        refine Ew_of (pc' := 156) (fun _ => x_aload_n rfl (rk2_o (rfl) rfl rfl)) ?_
        refine w_gI H (o := 3) (w := u3_15) rfl (H.perm 3 rfl) rfl rfl rfl (fun _ => rfl) (((hS12 3 15 rfl).trans (hS6 3 15 rfl)).trans (eu3_15)) ?_
        refine w_inv H (o := 3) rfl rfl rfl (H.perm 3 rfl) rfl rfl (by rfl) (M381 H (show inr (4) by omega) (show inr (u3_15) by omega) (fun z34 σ F30 A31 H hS32 hA33 pz34_0 pz34_1 => ⟨rfl, ?_⟩))
        exact w_ireturn rfl (k (z34) σ _ _ H (SF_trans (SF_trans (SF_trans (SF_refl) hS6 (any_sub rfl)) hS12 (any_sub rfl)) hS32 (any_sub rfl)) (SA_trans (SA_trans (SA_trans (SA_refl) hA7 (any_subA rfl)) hA13 (any_subA rfl)) hA33 (any_subA rfl)) (u3_14) (((((hS32 3 14 rfl).trans (hS12 3 14 rfl)).trans (hS6 3 14 rfl)).trans (eu3_14))) (u3_15) (((((hS32 3 15 rfl).trans (hS12 3 15 rfl)).trans (hS6 3 15 rfl)).trans (eu3_15))) (show inr (z34) by omega) (show 0 ≤ (z34) ∧ (z34) ≤ 20 by omega) (show (u3_14) ≤ a1 by omega) (show (z34) ≠ 0 ∨ (u3_15) + 4 ≤ (u3_15) ∧ (u3_15) ≤ (u1_1) by omega))
    · refine Ew_of (pc' := 40) (fun _ => x_lload_n rfl rk2_s) ?_
      refine Ew_of (pc' := 43) (fun _ => x_ldc2 (z := 407710303) rfl (by decide)) ?_
      refine w_lcmp rfl (show inrJ (z14) by omega) (show inrJ (407710303) by omega) (fun z35 gz35 gaz35 gbz35 => ?_)
      refine w_ifgt (t := 145) rfl rfl (show inr (z35) by omega) (fun b36 => ?_) (fun b36 => ?_)
      · refine Ew_of (pc' := 146) (fun _ => x_lload_n rfl rk2_s) ?_
        refine Ew_of (pc' := 149) (fun _ => x_ldc2 (z := 407708164) rfl (by decide)) ?_
        refine w_lcmp rfl (show inrJ (z14) by omega) (show inrJ (407708164) by omega) (fun z37 gz37 gaz37 gbz37 => ?_)
        refine w_ifeq (t := 163) rfl rfl (show inr (z37) by omega) (fun b38 => ?_) (fun b38 => ?_)
        · refine Ew_of (pc' := 164) (fun _ => x_aload_n rfl (rk2_o (rfl) rfl rfl)) ?_
          refine Ew_of (pc' := 165) (fun _ => x_dup rfl rfl) ?_
          refine w_gI H (o := 3) (w := u3_15) rfl (H.perm 3 rfl) rfl rfl rfl (fun _ => rfl) (((hS12 3 15 rfl).trans (hS6 3 15 rfl)).trans (eu3_15)) ?_
          refine Ew_of (pc' := 169) (fun _ => x_iconst rfl) ?_
          refine w_iadd rfl ?_
          refine w_pI H (o := 3) rfl rfl (H.perm 3 rfl) rfl rfl rfl (fun _ => rfl) rfl (show (-2147483648 : Int) ≤ (u3_15 + 4) ∧ (u3_15 + 4) ≤ 2147483647 by omega) (fun σ H => ?_)
          refine Ew_of (pc' := 174) (fun _ => x_aload_n rfl (rk2_o (rfl) rfl rfl)) ?_
          refine Ew_of (pc' := 175) (fun _ => x_iload_n rfl (rk2_o (rfl) rfl rfl)) ?_
          refine w_inv H (o := 3) rfl rfl rfl (H.perm 3 rfl) rfl rfl (by rfl) (M383 H (u1_1) ((((hS12 1 1 rfl).trans (hS6 1 1 rfl)).trans (eu1_1))) (u3_14) ((((hS12 3 14 rfl).trans (hS6 3 14 rfl)).trans (eu3_14))) ((u3_15 + 4)) (rfl) (show inr (a1) by omega) (show 0 ≤ ((u3_15 + 4)) ∧ ((u3_15 + 4)) ≤ (u1_1) by omega) (show 0 ≤ (a1) ∧ (a1) ≤ 65536 ∧ (u3_14) ≤ (a1) by omega) (fun z43 σ F39 A40 H hS41 hA42 y44 ey45 y46 ey47 pz43_0 pz43_1 pz43_2 pz43_3 => ⟨rfl, ?_⟩))
          have r48 : (0 : Int) ≤ y44 ∧ y44 ≤ 65536 := by have h1 : (0 : Int) ≤ F39 3 14 ∧ F39 3 14 ≤ 65536 := H.frng 3 14; rw [show F39 3 14 = y44 from (ey45)] at h1; exact h1
          have r49 : (-2147483648 : Int) ≤ y46 ∧ y46 ≤ 2147483647 := by have h1 : (-2147483648 : Int) ≤ F39 3 15 ∧ F39 3 15 ≤ 2147483647 := H.frng 3 15; rw [show F39 3 15 = y46 from (ey47)] at h1; exact h1
          exact w_ireturn rfl (k (z43) σ _ _ H (SF_trans (SF_upd (SF_trans (SF_trans (SF_refl) hS6 (any_sub rfl)) hS12 (any_sub rfl)) rfl) hS41 (any_sub rfl)) (SA_trans (SA_trans (SA_trans (SA_refl) hA7 (any_subA rfl)) hA13 (any_subA rfl)) hA42 (any_subA rfl)) (y44) ((ey45)) (y46) ((ey47)) (show inr (z43) by omega) (show 0 ≤ (z43) ∧ (z43) ≤ 20 by omega) (show (y44) ≤ a1 by omega) (show (z43) ≠ 0 ∨ (u3_15) + 4 ≤ (y46) ∧ (y46) ≤ (u1_1) by omega))
        · refine Ew_of (pc' := 154) (fun _ => x_aload_n rfl (rk2_o (rfl) rfl rfl)) ?_
          refine Ew_of (pc' := 155) (fun _ => x_iconst rfl) ?_
          refine Ew_of (pc' := 156) (fun _ => x_aload_n rfl (rk2_o (rfl) rfl rfl)) ?_
          refine w_gI H (o := 3) (w := u3_15) rfl (H.perm 3 rfl) rfl rfl rfl (fun _ => rfl) (((hS12 3 15 rfl).trans (hS6 3 15 rfl)).trans (eu3_15)) ?_
          refine w_inv H (o := 3) rfl rfl rfl (H.perm 3 rfl) rfl rfl (by rfl) (M381 H (show inr (4) by omega) (show inr (u3_15) by omega) (fun z54 σ F50 A51 H hS52 hA53 pz54_0 pz54_1 => ⟨rfl, ?_⟩))
          exact w_ireturn rfl (k (z54) σ _ _ H (SF_trans (SF_trans (SF_trans (SF_refl) hS6 (any_sub rfl)) hS12 (any_sub rfl)) hS52 (any_sub rfl)) (SA_trans (SA_trans (SA_trans (SA_refl) hA7 (any_subA rfl)) hA13 (any_subA rfl)) hA53 (any_subA rfl)) (u3_14) (((((hS52 3 14 rfl).trans (hS12 3 14 rfl)).trans (hS6 3 14 rfl)).trans (eu3_14))) (u3_15) (((((hS52 3 15 rfl).trans (hS12 3 15 rfl)).trans (hS6 3 15 rfl)).trans (eu3_15))) (show inr (z54) by omega) (show 0 ≤ (z54) ∧ (z54) ≤ 20 by omega) (show (u3_14) ≤ a1 by omega) (show (z54) ≠ 0 ∨ (u3_15) + 4 ≤ (u3_15) ∧ (u3_15) ≤ (u1_1) by omega))
      · refine Ew_of (pc' := 48) (fun _ => x_aload_n rfl (rk2_o (rfl) rfl rfl)) ?_
        refine Ew_of (pc' := 49) (fun _ => x_dup rfl rfl) ?_
        refine w_gI H (o := 3) (w := u3_15) rfl (H.perm 3 rfl) rfl rfl rfl (fun _ => rfl) (((hS12 3 15 rfl).trans (hS6 3 15 rfl)).trans (eu3_15)) ?_
        refine Ew_of (pc' := 53) (fun _ => x_iconst rfl) ?_
        refine w_iadd rfl ?_
        refine w_pI H (o := 3) rfl rfl (H.perm 3 rfl) rfl rfl rfl (fun _ => rfl) rfl (show (-2147483648 : Int) ≤ (u3_15 + 4) ∧ (u3_15 + 4) ≤ 2147483647 by omega) (fun σ H => ?_)
        refine Ew_of (pc' := 58) (fun _ => x_aload_n rfl (rk2_o (rfl) rfl rfl)) ?_
        refine Ew_of (pc' := 59) (fun _ => x_iconst rfl) ?_
        refine w_inv H (o := 3) rfl rfl rfl (H.perm 3 rfl) rfl rfl (by rfl) (M379 H (u1_1) ((((hS12 1 1 rfl).trans (hS6 1 1 rfl)).trans (eu1_1))) ((u3_15 + 4)) (rfl) (show inr (4) by omega) (show 0 ≤ (4) ∧ (4) ≤ 65536 by omega) (show 0 ≤ ((u3_15 + 4)) ∧ ((u3_15 + 4)) ≤ 70000 by omega) (fun z59 σ F55 A56 H hS57 hA58 pz59_0 pz59_1 => ⟨rretB rfl pz59_0, ?_⟩))
        refine w_ifne (t := 78) rfl rfl (show inr (z59) by omega) (fun b60 => ?_) (fun b60 => ?_)
        · refine Ew_of (pc' := 79) (fun _ => x_aload_n rfl (rk2_o (rfl) rfl rfl)) ?_
          refine Ew_of (pc' := 80) (fun _ => x_aload_n rfl (rk2_o (rfl) rfl rfl)) ?_
          refine w_gI H (o := 3) (w := (u3_15 + 4)) rfl (H.perm 3 rfl) rfl rfl rfl (fun _ => rfl) (hS57 3 15 rfl) ?_
          refine Ew_of (pc' := 84) (fun _ => x_iconst rfl) ?_
          refine w_inv H (o := 3) rfl rfl rfl (H.perm 3 rfl) rfl rfl (by rfl) (M380 H (show inr ((u3_15 + 4)) by omega) (show inr (4) by omega) (show 0 ≤ ((u3_15 + 4)) ∧ 0 ≤ (4) ∧ (4) ≤ 8 ∧ ((u3_15 + 4)) + (4) ≤ 65536 by omega) (fun z65 σ F61 A62 H hS63 hA64 pz65_0 pz65_1 pz65_2 pz65_3 pz65_4 pz65_5 => ⟨rfl, ?_⟩))
          refine Ew_of (pc' := 89) (fun _ => x_lstore rfl) ?_
          refine Ew_of (pc' := 90) (fun _ => x_aload_n rfl (rk2_o (rk2_o (rfl) rfl rfl) rfl rfl)) ?_
          refine Ew_of (pc' := 91) (fun _ => x_dup rfl rfl) ?_
          refine w_gI H (o := 3) (w := (u3_15 + 4)) rfl (H.perm 3 rfl) rfl rfl rfl (fun _ => rfl) ((hS63 3 15 rfl).trans (hS57 3 15 rfl)) ?_
          refine Ew_of (pc' := 95) (fun _ => x_iconst rfl) ?_
          refine w_iadd rfl ?_
          refine w_pI H (o := 3) rfl rfl (H.perm 3 rfl) rfl rfl rfl (fun _ => rfl) rfl (show (-2147483648 : Int) ≤ ((u3_15 + 4) + 4) ∧ ((u3_15 + 4) + 4) ≤ 2147483647 by omega) (fun σ H => ?_)
          refine Ew_of (pc' := 101) (fun _ => x_lload rfl rk2_s) ?_
          refine Ew_of (pc' := 102) (fun _ => x_aload_n rfl (rk2_o (rk2_o (rfl) rfl rfl) rfl rfl)) ?_
          refine w_gT H (o := 3) (t := 1) rfl (H.perm 3 rfl) rfl rfl rfl rfl rfl rfl ?_
          refine w_gI H (o := 1) (w := u1_1) rfl (H.perm 1 rfl) rfl rfl rfl (fun _ => rfl) (((((hS63 1 1 rfl).trans (hS57 1 1 rfl)).trans (hS12 1 1 rfl)).trans (hS6 1 1 rfl)).trans (eu1_1)) ?_
          refine Ew_of (pc' := 109) (fun _ => x_aload_n rfl (rk2_o (rk2_o (rfl) rfl rfl) rfl rfl)) ?_
          refine w_gI H (o := 3) (w := ((u3_15 + 4) + 4)) rfl (H.perm 3 rfl) rfl rfl rfl (fun _ => rfl) rfl ?_
          refine w_isub rfl ?_
          refine w_i2l rfl (show inr ((u1_1 - ((u3_15 + 4) + 4))) by omega) ?_
          refine w_lcmp rfl (show inrJ (z65) by omega) (show inrJ ((u1_1 - ((u3_15 + 4) + 4))) by omega) (fun z66 gz66 gaz66 gbz66 => ?_)
          refine w_ifle (t := 131) rfl rfl (show inr (z66) by omega) (fun b67 => ?_) (fun b67 => ?_)
          · refine Ew_of (pc' := 132) (fun _ => x_aload_n rfl (rk2_o (rk2_o (rfl) rfl rfl) rfl rfl)) ?_
            refine Ew_of (pc' := 133) (fun _ => x_dup rfl rfl) ?_
            refine w_gI H (o := 3) (w := ((u3_15 + 4) + 4)) rfl (H.perm 3 rfl) rfl rfl rfl (fun _ => rfl) rfl ?_
            refine Ew_of (pc' := 138) (fun _ => x_lload rfl rk2_s) ?_
            refine w_l2i rfl ?_
            refine w_iadd rfl ?_
            refine w_pI H (o := 3) rfl rfl (H.perm 3 rfl) rfl rfl rfl (fun _ => rfl) rfl (show (-2147483648 : Int) ≤ (((u3_15 + 4) + 4) + z65) ∧ (((u3_15 + 4) + 4) + z65) ≤ 2147483647 by omega) (fun σ H => ?_)
            refine Ew_of (pc' := 144) (fun _ => x_iconst rfl) ?_
            exact w_ireturn rfl (k (0) σ _ _ H (SF_upd (SF_upd (SF_trans (SF_trans (SF_upd (SF_trans (SF_trans (SF_refl) hS6 (any_sub rfl)) hS12 (any_sub rfl)) rfl) hS57 (any_sub rfl)) hS63 (any_sub rfl)) rfl) rfl) (SA_trans (SA_trans (SA_trans (SA_trans (SA_refl) hA7 (any_subA rfl)) hA13 (any_subA rfl)) hA58 (any_subA rfl)) hA64 (any_subA rfl)) (u3_14) ((((((hS63 3 14 rfl).trans (hS57 3 14 rfl)).trans (hS12 3 14 rfl)).trans (hS6 3 14 rfl)).trans (eu3_14))) ((((u3_15 + 4) + 4) + z65)) (rfl) (show inr (0) by omega) (show 0 ≤ (0) ∧ (0) ≤ 20 by omega) (show (u3_14) ≤ a1 by omega) (show (0) ≠ 0 ∨ (u3_15) + 4 ≤ ((((u3_15 + 4) + 4) + z65)) ∧ ((((u3_15 + 4) + 4) + z65)) ≤ (u1_1) by omega))
          · refine Ew_of (pc' := 119) (fun _ => x_aload_n rfl (rk2_o (rk2_o (rfl) rfl rfl) rfl rfl)) ?_
            refine Ew_of (pc' := 120) (fun _ => x_iconst rfl) ?_
            refine Ew_of (pc' := 121) (fun _ => x_aload_n rfl (rk2_o (rk2_o (rfl) rfl rfl) rfl rfl)) ?_
            refine w_gT H (o := 3) (t := 1) rfl (H.perm 3 rfl) rfl rfl rfl rfl rfl rfl ?_
            refine w_gI H (o := 1) (w := u1_1) rfl (H.perm 1 rfl) rfl rfl rfl (fun _ => rfl) (((((hS63 1 1 rfl).trans (hS57 1 1 rfl)).trans (hS12 1 1 rfl)).trans (hS6 1 1 rfl)).trans (eu1_1)) ?_
            refine w_inv H (o := 3) rfl rfl rfl (H.perm 3 rfl) rfl rfl (by rfl) (M381 H (show inr (1) by omega) (show inr (u1_1) by omega) (fun z72 σ F68 A69 H hS70 hA71 pz72_0 pz72_1 => ⟨rfl, ?_⟩))
            exact w_ireturn rfl (k (z72) σ _ _ H (SF_trans (SF_upd (SF_trans (SF_trans (SF_upd (SF_trans (SF_trans (SF_refl) hS6 (any_sub rfl)) hS12 (any_sub rfl)) rfl) hS57 (any_sub rfl)) hS63 (any_sub rfl)) rfl) hS70 (any_sub rfl)) (SA_trans (SA_trans (SA_trans (SA_trans (SA_trans (SA_refl) hA7 (any_subA rfl)) hA13 (any_subA rfl)) hA58 (any_subA rfl)) hA64 (any_subA rfl)) hA71 (any_subA rfl)) (u3_14) (((((((hS70 3 14 rfl).trans (hS63 3 14 rfl)).trans (hS57 3 14 rfl)).trans (hS12 3 14 rfl)).trans (hS6 3 14 rfl)).trans (eu3_14))) (((u3_15 + 4) + 4)) ((hS70 3 15 rfl)) (show inr (z72) by omega) (show 0 ≤ (z72) ∧ (z72) ≤ 20 by omega) (show (u3_14) ≤ a1 by omega) (show (z72) ≠ 0 ∨ (u3_15) + 4 ≤ (((u3_15 + 4) + 4)) ∧ (((u3_15 + 4) + 4)) ≤ (u1_1) by omega))
        · refine Ew_of (pc' := 66) (fun _ => x_aload_n rfl (rk2_o (rfl) rfl rfl)) ?_
          refine Ew_of (pc' := 67) (fun _ => x_iconst rfl) ?_
          refine Ew_of (pc' := 68) (fun _ => x_aload_n rfl (rk2_o (rfl) rfl rfl)) ?_
          refine w_gT H (o := 3) (t := 1) rfl (H.perm 3 rfl) rfl rfl rfl rfl rfl rfl ?_
          refine w_gI H (o := 1) (w := u1_1) rfl (H.perm 1 rfl) rfl rfl rfl (fun _ => rfl) ((((hS57 1 1 rfl).trans (hS12 1 1 rfl)).trans (hS6 1 1 rfl)).trans (eu1_1)) ?_
          refine w_inv H (o := 3) rfl rfl rfl (H.perm 3 rfl) rfl rfl (by rfl) (M381 H (show inr (1) by omega) (show inr (u1_1) by omega) (fun z77 σ F73 A74 H hS75 hA76 pz77_0 pz77_1 => ⟨rfl, ?_⟩))
          exact w_ireturn rfl (k (z77) σ _ _ H (SF_trans (SF_trans (SF_upd (SF_trans (SF_trans (SF_refl) hS6 (any_sub rfl)) hS12 (any_sub rfl)) rfl) hS57 (any_sub rfl)) hS75 (any_sub rfl)) (SA_trans (SA_trans (SA_trans (SA_trans (SA_refl) hA7 (any_subA rfl)) hA13 (any_subA rfl)) hA58 (any_subA rfl)) hA76 (any_subA rfl)) (u3_14) ((((((hS75 3 14 rfl).trans (hS57 3 14 rfl)).trans (hS12 3 14 rfl)).trans (hS6 3 14 rfl)).trans (eu3_14))) ((u3_15 + 4)) (((hS75 3 15 rfl).trans (hS57 3 15 rfl))) (show inr (z77) by omega) (show 0 ≤ (z77) ∧ (z77) ≤ 20 by omega) (show (u3_14) ≤ a1 by omega) (show (z77) ≠ 0 ∨ (u3_15) + 4 ≤ ((u3_15 + 4)) ∧ ((u3_15 + 4)) ≤ (u1_1) by omega))
  · refine Ew_of (pc' := 9) (fun _ => x_aload_n rfl rfl) ?_
    refine Ew_of (pc' := 10) (fun _ => x_iconst rfl) ?_
    refine Ew_of (pc' := 11) (fun _ => x_aload_n rfl rfl) ?_
    refine w_gT H (o := 3) (t := 1) rfl (H.perm 3 rfl) rfl rfl rfl rfl rfl rfl ?_
    refine w_gI H (o := 1) (w := u1_1) rfl (H.perm 1 rfl) rfl rfl rfl (fun _ => rfl) ((hS6 1 1 rfl).trans (eu1_1)) ?_
    refine w_inv H (o := 3) rfl rfl rfl (H.perm 3 rfl) rfl rfl (by rfl) (M381 H (show inr (1) by omega) (show inr (u1_1) by omega) (fun z82 σ F78 A79 H hS80 hA81 pz82_0 pz82_1 => ⟨rfl, ?_⟩))
    exact w_ireturn rfl (k (z82) σ _ _ H (SF_trans (SF_trans (SF_refl) hS6 (any_sub rfl)) hS80 (any_sub rfl)) (SA_trans (SA_trans (SA_refl) hA7 (any_subA rfl)) hA81 (any_subA rfl)) (u3_14) ((((hS80 3 14 rfl).trans (hS6 3 14 rfl)).trans (eu3_14))) (u3_15) ((((hS80 3 15 rfl).trans (hS6 3 15 rfl)).trans (eu3_15))) (show inr (z82) by omega) (show 0 ≤ (z82) ∧ (z82) ≤ 20 by omega) (show (u3_14) ≤ a1 by omega) (show (z82) ≠ 0 ∨ (u3_15) + 4 ≤ (u3_15) ∧ (u3_15) ≤ (u1_1) by omega))
/-- Tokens.unframe -/
theorem M385 {σ0 σ : rS} {D N : Nat → Nat} {F : hF} {A : hA} {d c s : Nat} {Q : wQ} (H : HS σ0 σ D N F A) {a1 : Int} (h0 : inr (a1)) (k : ∀ (z : Int) σ F' A', HS σ0 σ D N F' A' → SF [(1, 3), (1, 4), (3, 12), (3, 14), (3, 15), (3, 16)] F F' → SA [15, 17, 21, 22] A A' → (inr (z)) → Q (some (I z)) σ c s) : Ew 385 (d + 5) 0 (rargs 0 [.ref (D 3), I a1]) [] σ c s Q := by
  refine Ew_of (pc' := 1) (fun _ => x_iload_n rfl rfl) ?_
  refine w_iflt (t := 10) rfl rfl (show inr (a1) by omega) (fun b1 => ?_) (fun b1 => ?_)
  · refine Ew_of (pc' := 12) (fun _ => x_bipush (z := -12) rfl (by decide)) ?_
    exact w_ireturn rfl (k ((-12)) σ _ _ H (SF_refl) (SA_refl) (show inr ((-12)) by omega))
  · refine Ew_of (pc' := 5) (fun _ => x_iload_n rfl rfl) ?_
    refine Ew_of (pc' := 7) (fun _ => x_ldc (z := 65536) rfl (by decide)) ?_
    refine w_icmple (t := 13) rfl rfl (show inr (a1) by omega) (show inr (65536) by omega) (fun b2 => ?_) (fun b2 => ?_)
    · refine Ew_of (pc' := 14) (fun _ => x_aload_n rfl rfl) ?_
      refine Ew_of (pc' := 15) (fun _ => x_iconst rfl) ?_
      refine w_pI H (o := 3) rfl rfl (H.perm 3 rfl) rfl rfl rfl (fun _ => rfl) rfl (show (-2147483648 : Int) ≤ 0 ∧ 0 ≤ 2147483647 by omega) (fun σ H => ?_)
      refine Ew_of (pc' := 19) (fun _ => x_aload_n rfl rfl) ?_
      refine Ew_of (pc' := 20) (fun _ => x_iconst rfl) ?_
      refine w_pI H (o := 3) rfl rfl (H.perm 3 rfl) rfl rfl rfl (fun _ => rfl) rfl (show (0 : Int) ≤ 0 ∧ 0 ≤ 65536 by omega) (fun σ H => ?_)
      refine Ew_of (pc' := 24) (fun _ => x_iconst rfl) ?_
      refine Ew_of (pc' := 25) (fun _ => x_istore_n rfl) ?_
      have r3 : (0 : Int) ≤ F 1 1 ∧ F 1 1 ≤ 65536 := by have h1 : (0 : Int) ≤ (updF (updF F 3 15 (0)) 3 14 (0)) 1 1 ∧ (updF (updF F 3 15 (0)) 3 14 (0)) 1 1 ≤ 65536 := H.frng 1 1; rw [show (updF (updF F 3 15 (0)) 3 14 (0)) 1 1 = F 1 1 from rfl] at h1; exact h1
      suffices hl25 : ∀ (m : Nat), ∀ (ls : rO) (σ : rS) (F_25 : hF) (A_25 : hA) (x25_2 : Int), rlook ls 0 = some (.ref (D 3)) → rlook ls 1 = some (I (a1)) → rlook ls 2 = some (I (x25_2)) → HS σ0 σ D N F_25 A_25 → SF [(1, 4), (3, 12), (3, 14), (3, 15), (3, 16)] (updF (updF F 3 15 (0)) 3 14 (0)) F_25 → SA [17, 21, 22] A A_25 → ∀ y25_3_14 : Int, F_25 3 14 = y25_3_14 → ∀ y25_3_15 : Int, F_25 3 15 = y25_3_15 → (inr (x25_2)) → ((x25_2) ≠ 0 ∨ 0 ≤ (y25_3_15) ∧ (y25_3_15) ≤ (F 1 1)) → (0 ≤ (x25_2) ∧ (x25_2) ≤ 20) → ((y25_3_14) ≤ (a1)) → (if (x25_2) = 0 then 2 * (F 1 1) - 2 * (y25_3_15) + 1 else 0).toNat = m → Ew 385 (d + 5) 25 ls [] σ c s Q from
        hl25 _ _ σ _ _ (0) (rk_o (rfl) rfl rfl) (rk_o (rfl) rfl rfl) (rk_s) H (SF_refl) (SA_refl) (0) (rfl) (0) (rfl)  (show inr (0) by omega) (show (0) ≠ 0 ∨ 0 ≤ (0) ∧ (0) ≤ (F 1 1) by omega) (show 0 ≤ (0) ∧ (0) ≤ 20 by omega) (show (0) ≤ (a1) by omega) rfl
      as_aux_lemma =>
      intro m
      induction m using Nat.strongRecOn with
      | _ m ih25 =>
        intro ls σ F_25 A_25 x25_2 l25_0 l25_1 l25_2 H hS_25 hA_25 y25_3_14 ey25_3_14 y25_3_15 ey25_3_15  j25_0 j25_1 j25_2 j25_3 hm25
        have r4 : (0 : Int) ≤ y25_3_14 ∧ y25_3_14 ≤ 65536 := by have h1 : (0 : Int) ≤ F_25 3 14 ∧ F_25 3 14 ≤ 65536 := H.frng 3 14; rw [show F_25 3 14 = y25_3_14 from (ey25_3_14)] at h1; exact h1
        have r5 : (-2147483648 : Int) ≤ y25_3_15 ∧ y25_3_15 ≤ 2147483647 := by have h1 : (-2147483648 : Int) ≤ F_25 3 15 ∧ F_25 3 15 ≤ 2147483647 := H.frng 3 15; rw [show F_25 3 15 = y25_3_15 from (ey25_3_15)] at h1; exact h1
        refine Ew_of (pc' := 26) (fun _ => x_aload_n rfl l25_0) ?_
        refine w_gI H (o := 3) (w := y25_3_15) rfl (H.perm 3 rfl) rfl rfl rfl (fun _ => rfl) (ey25_3_15) ?_
        refine Ew_of (pc' := 30) (fun _ => x_aload_n rfl l25_0) ?_
        refine w_gT H (o := 3) (t := 1) rfl (H.perm 3 rfl) rfl rfl rfl rfl rfl rfl ?_
        refine w_gI H (o := 1) (w := F 1 1) rfl (H.perm 1 rfl) rfl rfl rfl (fun _ => rfl) (hS_25 1 1 rfl) ?_
        refine w_icmpge (t := 52) rfl rfl (show inr (y25_3_15) by omega) (show inr (F 1 1) by omega) (fun b6 => ?_) (fun b6 => ?_)
        · refine Ew_of (pc' := 53) (fun _ => x_iload_n rfl l25_2) ?_
          refine w_ifle (t := 59) rfl rfl (show inr (x25_2) by omega) (fun b7 => ?_) (fun b7 => ?_)
          · refine Ew_of (pc' := 60) (fun _ => x_aload_n rfl l25_0) ?_
            refine w_gT H (o := 3) (t := 1) rfl (H.perm 3 rfl) rfl rfl rfl rfl rfl rfl ?_
            refine Ew_of (pc' := 64) (fun _ => x_aload_n rfl l25_0) ?_
            refine w_gT H (o := 3) (t := 1) rfl (H.perm 3 rfl) rfl rfl rfl rfl rfl rfl ?_
            refine w_gI H (o := 1) (w := F 1 1) rfl (H.perm 1 rfl) rfl rfl rfl (fun _ => rfl) (hS_25 1 1 rfl) ?_
            refine w_pI H (o := 1) rfl rfl (H.perm 1 rfl) rfl rfl rfl (fun _ => rfl) rfl (show (-2147483648 : Int) ≤ F 1 1 ∧ F 1 1 ≤ 2147483647 by omega) (fun σ H => ?_)
            refine Ew_of (pc' := 74) (fun _ => x_aload_n rfl l25_0) ?_
            refine Ew_of (pc' := 75) (fun _ => x_aload_n rfl l25_0) ?_
            refine w_gT H (o := 3) (t := 22) rfl (H.perm 3 rfl) rfl rfl rfl rfl rfl rfl ?_
            refine Ew_of (pc' := 79) (fun _ => x_aload_n rfl l25_0) ?_
            refine w_gI H (o := 3) (w := y25_3_14) rfl (H.perm 3 rfl) rfl rfl rfl (fun _ => rfl) (ey25_3_14) ?_
            refine w_inv H (o := 3) rfl rfl rfl (H.perm 3 rfl) rfl rfl (by rfl) (M369_22 H (show inr (y25_3_14) by omega) (show 0 ≤ (y25_3_14) ∧ (y25_3_14) ≤ 100000000 by omega) (fun z12 σ F8 A9 H hS10 hA11 pz12_0 pz12_1 => ⟨rfl, ?_⟩))
            exact w_ireturn rfl (k (z12) σ _ _ H (SF_trans (SF_upd (SF_trans (SF_upd (SF_upd (SF_refl) rfl) rfl) hS_25 (any_sub rfl)) rfl) hS10 (any_sub rfl)) (SA_trans (SA_trans (SA_refl) hA_25 (any_subA rfl)) hA11 (any_subA rfl)) (show inr (z12) by omega))
          · refine Ew_of (pc' := 57) (fun _ => x_iload_n rfl l25_2) ?_
            refine w_ineg rfl ?_
            exact w_ireturn rfl (k ((-x25_2)) σ _ _ H (SF_trans (SF_upd (SF_upd (SF_refl) rfl) rfl) hS_25 (any_sub rfl)) (SA_trans (SA_refl) hA_25 (any_subA rfl)) (show inr ((-x25_2)) by omega))
        · refine Ew_of (pc' := 40) (fun _ => x_iload_n rfl l25_2) ?_
          refine w_ifne (t := 52) rfl rfl (show inr (x25_2) by omega) (fun b13 => ?_) (fun b13 => ?_)
          · refine Ew_of (pc' := 53) (fun _ => x_iload_n rfl l25_2) ?_
            refine w_ifle (t := 59) rfl rfl (show inr (x25_2) by omega) (fun b14 => ?_) (fun b14 => ?_)
            · refine Ew_of (pc' := 60) (fun _ => x_aload_n rfl l25_0) ?_
              refine w_gT H (o := 3) (t := 1) rfl (H.perm 3 rfl) rfl rfl rfl rfl rfl rfl ?_
              refine Ew_of (pc' := 64) (fun _ => x_aload_n rfl l25_0) ?_
              refine w_gT H (o := 3) (t := 1) rfl (H.perm 3 rfl) rfl rfl rfl rfl rfl rfl ?_
              refine w_gI H (o := 1) (w := F 1 1) rfl (H.perm 1 rfl) rfl rfl rfl (fun _ => rfl) (hS_25 1 1 rfl) ?_
              refine w_pI H (o := 1) rfl rfl (H.perm 1 rfl) rfl rfl rfl (fun _ => rfl) rfl (show (-2147483648 : Int) ≤ F 1 1 ∧ F 1 1 ≤ 2147483647 by omega) (fun σ H => ?_)
              refine Ew_of (pc' := 74) (fun _ => x_aload_n rfl l25_0) ?_
              refine Ew_of (pc' := 75) (fun _ => x_aload_n rfl l25_0) ?_
              refine w_gT H (o := 3) (t := 22) rfl (H.perm 3 rfl) rfl rfl rfl rfl rfl rfl ?_
              refine Ew_of (pc' := 79) (fun _ => x_aload_n rfl l25_0) ?_
              refine w_gI H (o := 3) (w := y25_3_14) rfl (H.perm 3 rfl) rfl rfl rfl (fun _ => rfl) (ey25_3_14) ?_
              refine w_inv H (o := 3) rfl rfl rfl (H.perm 3 rfl) rfl rfl (by rfl) (M369_22 H (show inr (y25_3_14) by omega) (show 0 ≤ (y25_3_14) ∧ (y25_3_14) ≤ 100000000 by omega) (fun z19 σ F15 A16 H hS17 hA18 pz19_0 pz19_1 => ⟨rfl, ?_⟩))
              exact w_ireturn rfl (k (z19) σ _ _ H (SF_trans (SF_upd (SF_trans (SF_upd (SF_upd (SF_refl) rfl) rfl) hS_25 (any_sub rfl)) rfl) hS17 (any_sub rfl)) (SA_trans (SA_trans (SA_refl) hA_25 (any_subA rfl)) hA18 (any_subA rfl)) (show inr (z19) by omega))
            · refine Ew_of (pc' := 57) (fun _ => x_iload_n rfl l25_2) ?_
              refine w_ineg rfl ?_
              exact w_ireturn rfl (k ((-x25_2)) σ _ _ H (SF_trans (SF_upd (SF_upd (SF_refl) rfl) rfl) hS_25 (any_sub rfl)) (SA_trans (SA_refl) hA_25 (any_subA rfl)) (show inr ((-x25_2)) by omega))
          · refine Ew_of (pc' := 44) (fun _ => x_aload_n rfl l25_0) ?_
            refine Ew_of (pc' := 45) (fun _ => x_iload_n rfl l25_1) ?_
            refine w_inv H (o := 3) rfl rfl rfl (H.perm 3 rfl) rfl rfl (by rfl) (M382 H (F 1 1) ((hS_25 1 1 rfl)) (y25_3_14) ((ey25_3_14)) (y25_3_15) ((ey25_3_15)) (show inr (a1) by omega) (show 0 ≤ (y25_3_15) ∧ (y25_3_15) ≤ (F 1 1) by omega) (show 0 ≤ (a1) ∧ (a1) ≤ 65536 ∧ (y25_3_14) ≤ (a1) by omega) (fun z24 σ F20 A21 H hS22 hA23 y25 ey26 y27 ey28 pz24_0 pz24_1 pz24_2 pz24_3 => ⟨rfl, ?_⟩))
            have r29 : (0 : Int) ≤ y25 ∧ y25 ≤ 65536 := by have h1 : (0 : Int) ≤ F20 3 14 ∧ F20 3 14 ≤ 65536 := H.frng 3 14; rw [show F20 3 14 = y25 from (ey26)] at h1; exact h1
            have r30 : (-2147483648 : Int) ≤ y27 ∧ y27 ≤ 2147483647 := by have h1 : (-2147483648 : Int) ≤ F20 3 15 ∧ F20 3 15 ≤ 2147483647 := H.frng 3 15; rw [show F20 3 15 = y27 from (ey28)] at h1; exact h1
            refine Ew_of (pc' := 49) (fun _ => x_istore_n rfl) ?_
            refine Ew_of (pc' := 25) (fun _ => x_goto rfl rfl) ?_
            exact ih25 _ (by omega) _ σ _ _ (z24) (rk_o (l25_0) rfl rfl) (rk_o (l25_1) rfl rfl) (rk_s) H (SF_trans (hS_25) hS22 (any_sub rfl)) (SA_trans (hA_25) hA23 (any_subA rfl)) (y25) ((ey26)) (y27) ((ey28))  (show inr (z24) by omega) (show (z24) ≠ 0 ∨ 0 ≤ (y27) ∧ (y27) ≤ (F 1 1) by omega) (show 0 ≤ (z24) ∧ (z24) ≤ 20 by omega) (show (y25) ≤ (a1) by omega) rfl
    · refine Ew_of (pc' := 12) (fun _ => x_bipush (z := -12) rfl (by decide)) ?_
      exact w_ireturn rfl (k ((-12)) σ _ _ H (SF_refl) (SA_refl) (show inr ((-12)) by omega))
