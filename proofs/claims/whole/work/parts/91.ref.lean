/-- Writer.sayBlock -/
theorem M449 {σ0 σ : rS} {D N : Nat → Nat} {F : hF} {A : hA} {d c s : Nat} {Q : wQ} (H : HS σ0 σ D N F A) {a1 a2 a3 : Int} (u1_1 : Int) (eu1_1 : F 1 1 = u1_1) (u6_2 : Int) (eu6_2 : F 6 2 = u6_2) (u6_4 : Int) (eu6_4 : F 6 4 = u6_4) (u6_12 : Int) (eu6_12 : F 6 12 = u6_12) (u6_37 : Int) (eu6_37 : F 6 37 = u6_37) (w53 : Int → Int) (ew53 : A 53 = w53) (w54 : Int → Int) (ew54 : A 54 = w54) (w55 : Int → Int) (ew55 : A 55 = w55) (h0 : inr (a1)) (h1 : inr (a2)) (h2 : inr (a3)) (h3 : (a3) = 0 ∨ (a3) = 1) (h4 : 0 ≤ (a1) ∧ (a1) ≤ (a2) ∧ (a2) ≤ (u1_1)) (h5 : 0 ≤ (u6_37) ∧ (u6_37) ≤ 40000000) (h6 : 3 ≤ (u6_2)) (h7 : 0 ≤ (u6_4) ∧ (u6_4) + (u1_1) ≤ 16384) (h8 : WC ((u6_12)) ((w53))) (h9 : WO ((w54)) ((w55))) (k : ∀ σ F' A', HS σ0 σ D N F' A' → SF [(6, 12), (6, 17), (6, 22), (6, 23), (6, 28), (6, 30), (6, 35), (6, 37), (6, 49), (6, 53)] F F' → SA [53, 54, 55, 56, 57, 58, 59, 60, 61, 62, 63, 64, 65, 66, 67, 68, 69, 70, 71, 72, 73, 74, 75, 76, 77, 78, 79, 80, 81, 82, 83, 84, 85, 87] A A' → ∀ y6_12 : Int, F' 6 12 = y6_12 → ∀ y6_37 : Int, F' 6 37 = y6_37 → ∀ v53 : Int → Int, A' 53 = v53 → ∀ v54 : Int → Int, A' 54 = v54 → ∀ v55 : Int → Int, A' 55 = v55 → ((u6_37) ≤ (y6_37) ∧ (y6_37) ≤ (u6_37) + 4 + ((a2) - (a1))) → (WC ((y6_12)) ((v53))) → (WO ((v54)) ((v55))) → Q none σ c s) : Ew 449 (d + 7) 0 (rargs 0 [.ref (D 6), I a1, I a2, I a3]) [] σ c s Q := by
  have r1 : (0 : Int) ≤ u1_1 ∧ u1_1 ≤ 65536 := by have h1 : (0 : Int) ≤ F 1 1 ∧ F 1 1 ≤ 65536 := H.frng 1 1; rw [show F 1 1 = u1_1 from (eu1_1)] at h1; exact h1
  have r2 : (0 : Int) ≤ u6_2 ∧ u6_2 ≤ 8 := by have h1 : (0 : Int) ≤ F 6 2 ∧ F 6 2 ≤ 8 := H.frng 6 2; rw [show F 6 2 = u6_2 from (eu6_2)] at h1; exact h1
  have r3 : (0 : Int) ≤ u6_4 ∧ u6_4 ≤ 65536 := by have h1 : (0 : Int) ≤ F 6 4 ∧ F 6 4 ≤ 65536 := H.frng 6 4; rw [show F 6 4 = u6_4 from (eu6_4)] at h1; exact h1
  have r4 : (0 : Int) ≤ u6_12 ∧ u6_12 ≤ 11 := by have h1 : (0 : Int) ≤ F 6 12 ∧ F 6 12 ≤ 11 := H.frng 6 12; rw [show F 6 12 = u6_12 from (eu6_12)] at h1; exact h1
  have r5 : (0 : Int) ≤ u6_37 ∧ u6_37 ≤ 100000000 := by have h1 : (0 : Int) ≤ F 6 37 ∧ F 6 37 ≤ 100000000 := H.frng 6 37; rw [show F 6 37 = u6_37 from (eu6_37)] at h1; exact h1
  refine Ew_of (pc' := 1) (fun _ => x_aload_n rfl rfl) ?_
  refine w_gI H (o := 6) (w := u6_37) rfl (H.perm 6 rfl) rfl rfl rfl (fun _ => rfl) (eu6_37) ?_
  refine Ew_of (pc' := 6) (fun _ => x_istore rfl) ?_
  refine Ew_of (pc' := 7) (fun _ => x_iload_n rfl (rk_o (rfl) rfl rfl)) ?_
  refine Ew_of (pc' := 8) (fun _ => x_iload_n rfl (rk_o (rfl) rfl rfl)) ?_
  refine w_isub rfl ?_
  refine Ew_of (pc' := 11) (fun _ => x_istore rfl) ?_
  refine Ew_of (pc' := 13) (fun _ => x_iload rfl rk_s) ?_
  have hc21 : ∀ (tc21_0 : Int), ∀ (ls : rO) (σ : rS) (F_c21 : hF) (A_c21 : hA) , rlook ls 0 = some (.ref (D 6)) → rlook ls 1 = some (I (a1)) → rlook ls 2 = some (I (a2)) → rlook ls 3 = some (I (a3)) → rlook ls 4 = some (I (u6_37)) → rlook ls 5 = some (I ((a2 - a1))) → HS σ0 σ D N F_c21 A_c21 → SF [] F F_c21 → SA [] A A_c21 → (inr (tc21_0)) → ((((a2 - a1)) ≤ (0) ∧ (tc21_0) = (0)) ∨ (((a2 - a1)) > (0) ∧ (tc21_0) = (1))) → Ew 449 (d + 7) 21 ls [I (tc21_0)] σ c s Q := by
   as_aux_lemma =>
    intro tc21_0 ls σ F_c21 A_c21  lc21_0 lc21_1 lc21_2 lc21_3 lc21_4 lc21_5 H hS_c21 hA_c21   jc21_0 jc21_1
    refine Ew_of (pc' := 23) (fun _ => x_istore rfl) ?_
    refine Ew_of (pc' := 24) (fun _ => x_iload_n rfl (rk_o (lc21_1) rfl rfl)) ?_
    refine Ew_of (pc' := 26) (fun _ => x_istore rfl) ?_
    suffices hl26 : ∀ (m : Nat), ∀ (ls : rO) (σ : rS) (F_26 : hF) (A_26 : hA) (x26_6 : Int) (x26_7 : Int), rlook ls 0 = some (.ref (D 6)) → rlook ls 1 = some (I (a1)) → rlook ls 2 = some (I (a2)) → rlook ls 3 = some (I (a3)) → rlook ls 4 = some (I (u6_37)) → rlook ls 5 = some (I ((a2 - a1))) → rlook ls 6 = some (I (x26_6)) → rlook ls 7 = some (I (x26_7)) → HS σ0 σ D N F_26 A_26 → SF [] F_c21 F_26 → SA [] A_c21 A_26 → (inr (x26_6)) → (inr (x26_7)) → ((a1) ≤ (x26_7) ∧ (x26_7) ≤ (a2)) → ((x26_6) = 0 ∨ (x26_6) = 1 ∧ (a1) < (a2)) → ((a2) - (x26_7)).toNat = m → Ew 449 (d + 7) 26 ls [] σ c s Q from
      hl26 _ _ σ _ _ (tc21_0) (a1) (rk_o (rk_o (lc21_0) rfl rfl) rfl rfl) (rk_o (rk_o (lc21_1) rfl rfl) rfl rfl) (rk_o (rk_o (lc21_2) rfl rfl) rfl rfl) (rk_o (rk_o (lc21_3) rfl rfl) rfl rfl) (rk_o (rk_o (lc21_4) rfl rfl) rfl rfl) (rk_o (rk_o (lc21_5) rfl rfl) rfl rfl) (rk_o (rk_s) rfl rfl) (rk_s) H (SF_refl) (SA_refl)   (show inr (tc21_0) by omega) (show inr (a1) by omega) (show (a1) ≤ (a1) ∧ (a1) ≤ (a2) by omega) (show (tc21_0) = 0 ∨ (tc21_0) = 1 ∧ (a1) < (a2) by omega) rfl
    as_aux_lemma =>
    intro m
    induction m using Nat.strongRecOn with
    | _ m ih26 =>
      intro ls σ F_26 A_26 x26_6 x26_7 l26_0 l26_1 l26_2 l26_3 l26_4 l26_5 l26_6 l26_7 H hS_26 hA_26   j26_0 j26_1 j26_2 j26_3 hm26
      refine Ew_of (pc' := 28) (fun _ => x_iload rfl l26_7) ?_
      refine Ew_of (pc' := 29) (fun _ => x_iload_n rfl l26_2) ?_
      refine w_icmpge (t := 72) rfl rfl (show inr (x26_7) by omega) (show inr (a2) by omega) (fun b6 => ?_) (fun b6 => ?_)
      · refine Ew_of (pc' := 74) (fun _ => x_iload rfl l26_6) ?_
        refine w_ifeq (t := 111) rfl rfl (show inr (x26_6) by omega) (fun b7 => ?_) (fun b7 => ?_)
        · refine Ew_of (pc' := 112) (fun _ => x_aload_n rfl l26_0) ?_
          refine w_inv H (o := 6) rfl rfl rfl (H.perm 6 rfl) rfl rfl (by rfl) (M445 H (u6_12) ((((hS_26 6 12 rfl).trans (hS_c21 6 12 rfl)).trans (eu6_12))) (w53) ((funext (hA_26 53 rfl)).trans ((funext (hA_c21 53 rfl)).trans (ew53))) (w54) ((funext (hA_26 54 rfl)).trans ((funext (hA_c21 54 rfl)).trans (ew54))) (w55) ((funext (hA_26 55 rfl)).trans ((funext (hA_c21 55 rfl)).trans (ew55))) (show WC ((u6_12)) ((w53)) by assumption) (show WO ((w54)) ((w55)) by assumption) (fun σ F8 A9 H hS10 hA11 y13 ey14 wq15 ewq16 wq17 ewq18 wq19 ewq20 pz12_0 pz12_1 => ⟨rfl, ?_⟩))
          have r21 : (0 : Int) ≤ y13 ∧ y13 ≤ 11 := by have h1 : (0 : Int) ≤ F8 6 17 ∧ F8 6 17 ≤ 11 := H.frng 6 17; rw [show F8 6 17 = y13 from (ey14)] at h1; exact h1
          refine Ew_of (pc' := 116) (fun _ => x_aload_n rfl l26_0) ?_
          refine Ew_of (pc' := 117) (fun _ => x_lconst (z := 0) rfl (by decide)) ?_
          refine Ew_of (pc' := 118) (fun _ => x_iconst rfl) ?_
          refine w_inv H (o := 6) rfl rfl rfl (H.perm 6 rfl) rfl rfl (by rfl) (M393 H (u6_37) (((((hS10 6 37 rfl).trans (hS_26 6 37 rfl)).trans (hS_c21 6 37 rfl)).trans (eu6_37))) (A 70) ((funext (hA11 70 rfl)).trans ((funext (hA_26 70 rfl)).trans (funext (hA_c21 70 rfl)))) (show inrJ (0) by omega) (show inr (3) by omega) (show 0 ≤ (3) ∧ (3) ≤ 8 by omega) (show 0 ≤ (u6_37) ∧ (u6_37) ≤ 90000000 by omega) (fun σ F22 A23 H hS24 hA25 y27 ey28 wq29 ewq30 pz26_0 pz26_1 => ⟨rfl, ?_⟩))
          have r31 : (0 : Int) ≤ y27 ∧ y27 ≤ 100000000 := by have h1 : (0 : Int) ≤ F22 6 37 ∧ F22 6 37 ≤ 100000000 := H.frng 6 37; rw [show F22 6 37 = y27 from (ey28)] at h1; exact h1
          refine Ew_of (pc' := 122) (fun _ => x_aload_n rfl l26_0) ?_
          refine Ew_of (pc' := 123) (fun _ => x_iconst rfl) ?_
          refine w_pI H (o := 6) rfl rfl (H.perm 6 rfl) rfl rfl rfl (fun _ => rfl) rfl (show (0 : Int) ≤ 0 ∧ 0 ≤ 16384 by omega) (fun σ H => ?_)
          refine Ew_of (pc' := 127) (fun _ => x_iconst rfl) ?_
          refine Ew_of (pc' := 129) (fun _ => x_istore rfl) ?_
          suffices hl129 : ∀ (m : Nat), ∀ (ls : rO) (σ : rS) (F_129 : hF) (A_129 : hA) (x129_7 : Int), rlook ls 0 = some (.ref (D 6)) → rlook ls 1 = some (I (a1)) → rlook ls 2 = some (I (a2)) → rlook ls 3 = some (I (a3)) → rlook ls 4 = some (I (u6_37)) → rlook ls 5 = some (I ((a2 - a1))) → rlook ls 7 = some (I (x129_7)) → HS σ0 σ D N F_129 A_129 → SF [(6, 22)] (updF F22 6 22 (0)) F_129 → SA [61] A23 A_129 → ∀ y129_6_22 : Int, F_129 6 22 = y129_6_22 → (inr (x129_7)) → ((0) ≤ (x129_7)) → ((x129_7) ≤ (0) ∨ (x129_7) ≤ ((u6_4))) → ((y129_6_22) = (x129_7)) → (((u6_4)) - (x129_7)).toNat = m → Ew 449 (d + 7) 129 ls [] σ c s Q from
            hl129 _ _ σ _ _ (0) (rk_o (l26_0) rfl rfl) (rk_o (l26_1) rfl rfl) (rk_o (l26_2) rfl rfl) (rk_o (l26_3) rfl rfl) (rk_o (l26_4) rfl rfl) (rk_o (l26_5) rfl rfl) (rk_s) H (SF_refl) (SA_refl) (0) (rfl)  (show inr (0) by omega) (show (0) ≤ (0) by omega) (show (0) ≤ (0) ∨ (0) ≤ ((u6_4)) by omega) (show (0) = (0) by omega) rfl
          as_aux_lemma =>
          intro m
          induction m using Nat.strongRecOn with
          | _ m ih129 =>
            intro ls σ F_129 A_129 x129_7 l129_0 l129_1 l129_2 l129_3 l129_4 l129_5 l129_7 H hS_129 hA_129 y129_6_22 ey129_6_22  j129_0 j129_1 j129_2 j129_3 hm129
            have r32 : (0 : Int) ≤ y129_6_22 ∧ y129_6_22 ≤ 16384 := by have h1 : (0 : Int) ≤ F_129 6 22 ∧ F_129 6 22 ≤ 16384 := H.frng 6 22; rw [show F_129 6 22 = y129_6_22 from (ey129_6_22)] at h1; exact h1
            refine Ew_of (pc' := 131) (fun _ => x_iload rfl l129_7) ?_
            refine Ew_of (pc' := 132) (fun _ => x_aload_n rfl l129_0) ?_
            refine w_gI H (o := 6) (w := u6_4) rfl (H.perm 6 rfl) rfl rfl rfl (fun _ => rfl) ((((((hS_129 6 4 rfl).trans (hS24 6 4 rfl)).trans (hS10 6 4 rfl)).trans (hS_26 6 4 rfl)).trans (hS_c21 6 4 rfl)).trans (eu6_4)) ?_
            refine w_icmpge (t := 170) rfl rfl (show inr (x129_7) by omega) (show inr (u6_4) by omega) (fun b33 => ?_) (fun b33 => ?_)
            · refine Ew_of (pc' := 171) (fun _ => x_iconst rfl) ?_
              refine Ew_of (pc' := 173) (fun _ => x_istore rfl) ?_
              suffices hl173 : ∀ (m : Nat), ∀ (ls : rO) (σ : rS) (F_173 : hF) (A_173 : hA) (x173_7 : Int), rlook ls 0 = some (.ref (D 6)) → rlook ls 1 = some (I (a1)) → rlook ls 2 = some (I (a2)) → rlook ls 3 = some (I (a3)) → rlook ls 4 = some (I (u6_37)) → rlook ls 5 = some (I ((a2 - a1))) → rlook ls 7 = some (I (x173_7)) → HS σ0 σ D N F_173 A_173 → SF [(6, 22)] F_129 F_173 → SA [61] A_129 A_173 → ∀ y173_6_22 : Int, F_173 6 22 = y173_6_22 → (inr (x173_7)) → ((0) ≤ (x173_7)) → ((x173_7) ≤ (0) ∨ (x173_7) ≤ ((a2))) → ((y173_6_22) = (u6_4) + (x173_7)) → (((a2)) - (x173_7)).toNat = m → Ew 449 (d + 7) 173 ls [] σ c s Q from
                hl173 _ _ σ _ _ (0) (rk_o (l129_0) rfl rfl) (rk_o (l129_1) rfl rfl) (rk_o (l129_2) rfl rfl) (rk_o (l129_3) rfl rfl) (rk_o (l129_4) rfl rfl) (rk_o (l129_5) rfl rfl) (rk_s) H (SF_refl) (SA_refl) (y129_6_22) ((ey129_6_22))  (show inr (0) by omega) (show (0) ≤ (0) by omega) (show (0) ≤ (0) ∨ (0) ≤ ((a2)) by omega) (show (y129_6_22) = (u6_4) + (0) by omega) rfl
              as_aux_lemma =>
              intro m
              induction m using Nat.strongRecOn with
              | _ m ih173 =>
                intro ls σ F_173 A_173 x173_7 l173_0 l173_1 l173_2 l173_3 l173_4 l173_5 l173_7 H hS_173 hA_173 y173_6_22 ey173_6_22  j173_0 j173_1 j173_2 j173_3 hm173
                have r34 : (0 : Int) ≤ y173_6_22 ∧ y173_6_22 ≤ 16384 := by have h1 : (0 : Int) ≤ F_173 6 22 ∧ F_173 6 22 ≤ 16384 := H.frng 6 22; rw [show F_173 6 22 = y173_6_22 from (ey173_6_22)] at h1; exact h1
                refine Ew_of (pc' := 175) (fun _ => x_iload rfl l173_7) ?_
                refine Ew_of (pc' := 176) (fun _ => x_iload_n rfl l173_2) ?_
                refine w_icmpge (t := 214) rfl rfl (show inr (x173_7) by omega) (show inr (a2) by omega) (fun b35 => ?_) (fun b35 => ?_)
                · refine Ew_of (pc' := 216) (fun _ => x_bipush (z := 8) rfl (by decide)) ?_
                  refine Ew_of (pc' := 218) (fun _ => x_istore rfl) ?_
                  suffices hl218 : ∀ (m : Nat), ∀ (ls : rO) (σ : rS) (F_218 : hF) (A_218 : hA) (x218_7 : Int), rlook ls 0 = some (.ref (D 6)) → rlook ls 1 = some (I (a1)) → rlook ls 2 = some (I (a2)) → rlook ls 3 = some (I (a3)) → rlook ls 4 = some (I (u6_37)) → rlook ls 5 = some (I ((a2 - a1))) → rlook ls 7 = some (I (x218_7)) → HS σ0 σ D N F_218 A_218 → SF [] F_173 F_218 → SA [85] A_173 A_218 → (inr (x218_7)) → ((8) ≤ (x218_7)) → ((x218_7) ≤ (8) ∨ (x218_7) ≤ ((12))) → (((12)) - (x218_7)).toNat = m → Ew 449 (d + 7) 218 ls [] σ c s Q from
                    hl218 _ _ σ _ _ (8) (rk_o (l173_0) rfl rfl) (rk_o (l173_1) rfl rfl) (rk_o (l173_2) rfl rfl) (rk_o (l173_3) rfl rfl) (rk_o (l173_4) rfl rfl) (rk_o (l173_5) rfl rfl) (rk_s) H (SF_refl) (SA_refl)   (show inr (8) by omega) (show (8) ≤ (8) by omega) (show (8) ≤ (8) ∨ (8) ≤ ((12)) by omega) rfl
                  as_aux_lemma =>
                  intro m
                  induction m using Nat.strongRecOn with
                  | _ m ih218 =>
                    intro ls σ F_218 A_218 x218_7 l218_0 l218_1 l218_2 l218_3 l218_4 l218_5 l218_7 H hS_218 hA_218   j218_0 j218_1 j218_2 hm218
                    refine Ew_of (pc' := 220) (fun _ => x_iload rfl l218_7) ?_
                    refine Ew_of (pc' := 222) (fun _ => x_bipush (z := 12) rfl (by decide)) ?_
                    refine w_icmpge (t := 245) rfl rfl (show inr (x218_7) by omega) (show inr (12) by omega) (fun b36 => ?_) (fun b36 => ?_)
                    · refine Ew_of (pc' := 246) (fun _ => x_aload_n rfl l218_0) ?_
                      refine Ew_of (pc' := 247) (fun _ => x_aload_n rfl l218_0) ?_
                      refine w_gI H (o := 6) (w := u6_4) rfl (H.perm 6 rfl) rfl rfl rfl (fun _ => rfl) ((((((((hS_218 6 4 rfl).trans (hS_173 6 4 rfl)).trans (hS_129 6 4 rfl)).trans (hS24 6 4 rfl)).trans (hS10 6 4 rfl)).trans (hS_26 6 4 rfl)).trans (hS_c21 6 4 rfl)).trans (eu6_4)) ?_
                      refine Ew_of (pc' := 251) (fun _ => x_iload_n rfl l218_1) ?_
                      refine w_iadd rfl ?_
                      have r37 : (0 : Int) ≤ F 6 1 ∧ F 6 1 ≤ 3 := by have h1 : (0 : Int) ≤ F_218 6 1 ∧ F_218 6 1 ≤ 3 := H.frng 6 1; rw [show F_218 6 1 = F 6 1 from (((((((hS_218 6 1 rfl).trans (hS_173 6 1 rfl)).trans (hS_129 6 1 rfl)).trans (hS24 6 1 rfl)).trans (hS10 6 1 rfl)).trans (hS_26 6 1 rfl)).trans (hS_c21 6 1 rfl))] at h1; exact h1
                      have r38 : (0 : Int) ≤ F 6 24 ∧ F 6 24 ≤ 16777216 := by have h1 : (0 : Int) ≤ F_218 6 24 ∧ F_218 6 24 ≤ 16777216 := H.frng 6 24; rw [show F_218 6 24 = F 6 24 from (((((((hS_218 6 24 rfl).trans (hS_173 6 24 rfl)).trans (hS_129 6 24 rfl)).trans (hS24 6 24 rfl)).trans (hS10 6 24 rfl)).trans (hS_26 6 24 rfl)).trans (hS_c21 6 24 rfl))] at h1; exact h1
                      refine w_inv H (o := 6) rfl rfl rfl (H.perm 6 rfl) rfl rfl (by rfl) (M399b H (F 6 1) ((((((((hS_218 6 1 rfl).trans (hS_173 6 1 rfl)).trans (hS_129 6 1 rfl)).trans (hS24 6 1 rfl)).trans (hS10 6 1 rfl)).trans (hS_26 6 1 rfl)).trans (hS_c21 6 1 rfl))) (u6_2) (((((((((hS_218 6 2 rfl).trans (hS_173 6 2 rfl)).trans (hS_129 6 2 rfl)).trans (hS24 6 2 rfl)).trans (hS10 6 2 rfl)).trans (hS_26 6 2 rfl)).trans (hS_c21 6 2 rfl)).trans (eu6_2))) (y173_6_22) (((hS_218 6 22 rfl).trans (ey173_6_22))) (F 6 24) ((((((((hS_218 6 24 rfl).trans (hS_173 6 24 rfl)).trans (hS_129 6 24 rfl)).trans (hS24 6 24 rfl)).trans (hS10 6 24 rfl)).trans (hS_26 6 24 rfl)).trans (hS_c21 6 24 rfl))) (A_173 61) (funext (hA_218 61 rfl)) (show inr ((u6_4 + a1)) by omega) (show 0 ≤ ((u6_4 + a1)) ∧ ((u6_4 + a1)) ≤ (y173_6_22) by omega) (show 0 ≤ (y173_6_22) ∧ (y173_6_22) ≤ 16384 by omega) (show 3 ≤ (u6_2) ∧ (u6_2) ≤ 8 by omega) (show 0 ≤ (F 6 1) ∧ (F 6 1) ≤ 3 by omega) (fun σ F39 A40 H hS41 hA42 y44 ey45 y46 ey47 wq48 ewq49 wq50 ewq51 wq52 ewq53 wq54 ewq55 pz43_0 pz43_1 pz43_2 => ⟨rfl, ?_⟩))
                      have r56 : (0 : Int) ≤ y44 ∧ y44 ≤ 8001 := by have h1 : (0 : Int) ≤ F39 6 28 ∧ F39 6 28 ≤ 8001 := H.frng 6 28; rw [show F39 6 28 = y44 from (ey45)] at h1; exact h1
                      have r57 : (0 : Int) ≤ y46 ∧ y46 ≤ 16385 := by have h1 : (0 : Int) ≤ F39 6 30 ∧ F39 6 30 ≤ 16385 := H.frng 6 30; rw [show F39 6 30 = y46 from (ey47)] at h1; exact h1
                      have hgo := pz43_1
                      refine Ew_of (pc' := 256) (fun _ => x_aload_n rfl l218_0) ?_
                      have r58 : (0 : Int) ≤ F 6 35 ∧ F 6 35 ≤ 100000000 := by have h1 : (0 : Int) ≤ F39 6 35 ∧ F39 6 35 ≤ 100000000 := H.frng 6 35; rw [show F39 6 35 = F 6 35 from ((((((((hS41 6 35 rfl).trans (hS_218 6 35 rfl)).trans (hS_173 6 35 rfl)).trans (hS_129 6 35 rfl)).trans (hS24 6 35 rfl)).trans (hS10 6 35 rfl)).trans (hS_26 6 35 rfl)).trans (hS_c21 6 35 rfl))] at h1; exact h1
                      refine w_inv H (o := 6) rfl rfl rfl (H.perm 6 rfl) rfl rfl (by rfl) (M434f H (u6_12) ((((((((((hS41 6 12 rfl).trans (hS_218 6 12 rfl)).trans (hS_173 6 12 rfl)).trans (hS_129 6 12 rfl)).trans (hS24 6 12 rfl)).trans (hS10 6 12 rfl)).trans (hS_26 6 12 rfl)).trans (hS_c21 6 12 rfl)).trans (eu6_12))) (y46) ((ey47)) (F 6 35) (((((((((hS41 6 35 rfl).trans (hS_218 6 35 rfl)).trans (hS_173 6 35 rfl)).trans (hS_129 6 35 rfl)).trans (hS24 6 35 rfl)).trans (hS10 6 35 rfl)).trans (hS_26 6 35 rfl)).trans (hS_c21 6 35 rfl))) (y27) ((((((hS41 6 37 rfl).trans (hS_218 6 37 rfl)).trans (hS_173 6 37 rfl)).trans (hS_129 6 37 rfl)).trans (ey28))) (w53) ((funext (hA42 53 rfl)).trans ((funext (hA_218 53 rfl)).trans ((funext (hA_173 53 rfl)).trans ((funext (hA_129 53 rfl)).trans ((funext (hA25 53 rfl)).trans ((funext (hA11 53 rfl)).trans ((funext (hA_26 53 rfl)).trans ((funext (hA_c21 53 rfl)).trans (ew53))))))))) (wq54) (ewq55) (A 69) ((funext (hA42 69 rfl)).trans ((funext (hA_218 69 rfl)).trans ((funext (hA_173 69 rfl)).trans ((funext (hA_129 69 rfl)).trans ((funext (hA25 69 rfl)).trans ((funext (hA11 69 rfl)).trans ((funext (hA_26 69 rfl)).trans (funext (hA_c21 69 rfl))))))))) (wq29) ((funext (hA42 70 rfl)).trans ((funext (hA_218 70 rfl)).trans ((funext (hA_173 70 rfl)).trans ((funext (hA_129 70 rfl)).trans (ewq30))))) (show WC ((u6_12)) ((w53)) by assumption) (show 0 ≤ (y27) ∧ (y27) ≤ 50000000 by omega) (fun z63 σ F59 A60 H hS61 hA62 y64 ey65 y66 ey67 y68 ey69 wq70 ewq71 wq72 ewq73 wq74 ewq75 pz63_0 pz63_1 pz63_2 pz63_3 pz63_4 => ⟨rfl, ?_⟩))
                      have r76 : (0 : Int) ≤ y64 ∧ y64 ≤ 11 := by have h1 : (0 : Int) ≤ F59 6 12 ∧ F59 6 12 ≤ 11 := H.frng 6 12; rw [show F59 6 12 = y64 from (ey65)] at h1; exact h1
                      have r77 : (0 : Int) ≤ y66 ∧ y66 ≤ 100000000 := by have h1 : (0 : Int) ≤ F59 6 35 ∧ F59 6 35 ≤ 100000000 := H.frng 6 35; rw [show F59 6 35 = y66 from (ey67)] at h1; exact h1
                      have r78 : (0 : Int) ≤ y68 ∧ y68 ≤ 100000000 := by have h1 : (0 : Int) ≤ F59 6 37 ∧ F59 6 37 ≤ 100000000 := H.frng 6 37; rw [show F59 6 37 = y68 from (ey69)] at h1; exact h1
                      refine Ew_of (pc' := 261) (fun _ => x_istore rfl) ?_
                      have : ∀ j, 0 ≤ j → j < (y44) → 3 ≤ ((wq50)) j := hgo.1
                      refine Ew_of (pc' := 262) (fun _ => x_aload_n rfl (rk_o (l218_0) rfl rfl)) ?_
                      refine w_inv H (o := 6) rfl rfl rfl (H.perm 6 rfl) rfl rfl (by rfl) (M404b H (y44) (((hS61 6 28 rfl).trans (ey45))) (A 56) ((funext (hA62 56 rfl)).trans ((funext (hA42 56 rfl)).trans ((funext (hA_218 56 rfl)).trans ((funext (hA_173 56 rfl)).trans ((funext (hA_129 56 rfl)).trans ((funext (hA25 56 rfl)).trans ((funext (hA11 56 rfl)).trans ((funext (hA_26 56 rfl)).trans (funext (hA_c21 56 rfl)))))))))) (wq48) ((funext (hA62 62 rfl)).trans (ewq49)) (wq50) ((funext (hA62 63 rfl)).trans (ewq51)) (wq52) ((funext (hA62 64 rfl)).trans (ewq53)) (show ∀ j, 0 ≤ j → j < (y44) → 3 ≤ ((wq50)) j by assumption) (fun σ F79 A80 H hS81 hA82 wq84 ewq85 wq86 ewq87 wq88 ewq89 wq90 ewq91 pz83_0 pz83_1 => ⟨rfl, ?_⟩))
                      have : GOE ((wq48)) ((wq50)) ((y44)) 16384 := ⟨hgo.1, by have := hgo.2; omega⟩
                      refine Ew_of (pc' := 266) (fun _ => x_aload_n rfl (rk_o (l218_0) rfl rfl)) ?_
                      refine w_inv H (o := 6) rfl rfl rfl (H.perm 6 rfl) rfl rfl (by rfl) (M444 H (y44) ((((hS81 6 28 rfl).trans (hS61 6 28 rfl)).trans (ey45))) (y66) (((hS81 6 35 rfl).trans (ey67))) (y68) (((hS81 6 37 rfl).trans (ey69))) (w54) ((funext (hA82 54 rfl)).trans ((funext (hA62 54 rfl)).trans ((funext (hA42 54 rfl)).trans ((funext (hA_218 54 rfl)).trans ((funext (hA_173 54 rfl)).trans ((funext (hA_129 54 rfl)).trans ((funext (hA25 54 rfl)).trans ((funext (hA11 54 rfl)).trans ((funext (hA_26 54 rfl)).trans ((funext (hA_c21 54 rfl)).trans (ew54))))))))))) (w55) ((funext (hA82 55 rfl)).trans ((funext (hA62 55 rfl)).trans ((funext (hA42 55 rfl)).trans ((funext (hA_218 55 rfl)).trans ((funext (hA_173 55 rfl)).trans ((funext (hA_129 55 rfl)).trans ((funext (hA25 55 rfl)).trans ((funext (hA11 55 rfl)).trans ((funext (hA_26 55 rfl)).trans ((funext (hA_c21 55 rfl)).trans (ew55))))))))))) (wq48) ((funext (hA82 62 rfl)).trans ((funext (hA62 62 rfl)).trans (ewq49))) (wq50) ((funext (hA82 63 rfl)).trans ((funext (hA62 63 rfl)).trans (ewq51))) (wq52) ((funext (hA82 64 rfl)).trans ((funext (hA62 64 rfl)).trans (ewq53))) (wq86) (ewq87) (wq88) (ewq89) (wq90) (ewq91) (wq72) ((funext (hA82 69 rfl)).trans (ewq73)) (wq74) ((funext (hA82 70 rfl)).trans (ewq75)) (A 87) ((funext (hA82 87 rfl)).trans ((funext (hA62 87 rfl)).trans ((funext (hA42 87 rfl)).trans ((funext (hA_218 87 rfl)).trans ((funext (hA_173 87 rfl)).trans ((funext (hA_129 87 rfl)).trans ((funext (hA25 87 rfl)).trans ((funext (hA11 87 rfl)).trans ((funext (hA_26 87 rfl)).trans (funext (hA_c21 87 rfl))))))))))) (show WO ((w54)) ((w55)) by assumption) (show 0 ≤ (y68) ∧ (y68) ≤ 70000000 by omega) (show TLI ((wq86)) ((wq88)) ((wq48)) ((wq50)) ((y44)) by assumption) (show GOE ((wq48)) ((wq50)) ((y44)) 16384 by assumption) (show TLW ((wq86)) ((wq88)) ((wq90)) ((wq48)) ((wq50)) ((wq52)) rr ((y44)) by assumption) (fun σ F92 A93 H hS94 hA95 y97 ey98 y99 ey100 wq101 ewq102 wq103 ewq104 wq105 ewq106 wq107 ewq108 wq109 ewq110 pz96_0 pz96_1 pz96_2 => ⟨rfl, ?_⟩))
                      have r111 : (0 : Int) ≤ y97 ∧ y97 ≤ 100000000 := by have h1 : (0 : Int) ≤ F92 6 35 ∧ F92 6 35 ≤ 100000000 := H.frng 6 35; rw [show F92 6 35 = y97 from (ey98)] at h1; exact h1
                      have r112 : (0 : Int) ≤ y99 ∧ y99 ≤ 100000000 := by have h1 : (0 : Int) ≤ F92 6 37 ∧ F92 6 37 ≤ 100000000 := H.frng 6 37; rw [show F92 6 37 = y99 from (ey100)] at h1; exact h1
                      refine Ew_of (pc' := 270) (fun _ => x_aload_n rfl (rk_o (l218_0) rfl rfl)) ?_
                      refine w_gI H (o := 6) (w := y99) rfl (H.perm 6 rfl) rfl rfl rfl (fun _ => rfl) (ey100) ?_
                      refine Ew_of (pc' := 275) (fun _ => x_iload rfl (rk_o (l218_4) rfl rfl)) ?_
                      refine w_isub rfl ?_
                      refine Ew_of (pc' := 277) (fun _ => x_iconst rfl) ?_
                      refine w_isub rfl ?_
                      refine Ew_of (pc' := 280) (fun _ => x_istore rfl) ?_
                      refine Ew_of (pc' := 282) (fun _ => x_iload rfl rk_s) ?_
                      refine Ew_of (pc' := 284) (fun _ => x_iload rfl (rk_o (rk_o (l218_5) rfl rfl) rfl rfl)) ?_
                      refine w_icmpge (t := 334) rfl rfl (show inr (((y99 - u6_37) - 3)) by omega) (show inr ((a2 - a1)) by omega) (fun b113 => ?_) (fun b113 => ?_)
                      · refine Ew_of (pc' := 335) (fun _ => x_aload_n rfl (rk_o (rk_o (l218_0) rfl rfl) rfl rfl)) ?_
                        refine w_inv H (o := 6) rfl rfl rfl (H.perm 6 rfl) rfl rfl (by rfl) (M446 H (y13) ((((((((((hS94 6 17 rfl).trans (hS81 6 17 rfl)).trans (hS61 6 17 rfl)).trans (hS41 6 17 rfl)).trans (hS_218 6 17 rfl)).trans (hS_173 6 17 rfl)).trans (hS_129 6 17 rfl)).trans (hS24 6 17 rfl)).trans (ey14))) (wq15) ((funext (hA95 57 rfl)).trans ((funext (hA82 57 rfl)).trans ((funext (hA62 57 rfl)).trans ((funext (hA42 57 rfl)).trans ((funext (hA_218 57 rfl)).trans ((funext (hA_173 57 rfl)).trans ((funext (hA_129 57 rfl)).trans ((funext (hA25 57 rfl)).trans (ewq16))))))))) (wq17) ((funext (hA95 58 rfl)).trans ((funext (hA82 58 rfl)).trans ((funext (hA62 58 rfl)).trans ((funext (hA42 58 rfl)).trans ((funext (hA_218 58 rfl)).trans ((funext (hA_173 58 rfl)).trans ((funext (hA_129 58 rfl)).trans ((funext (hA25 58 rfl)).trans (ewq18))))))))) (wq19) ((funext (hA95 59 rfl)).trans ((funext (hA82 59 rfl)).trans ((funext (hA62 59 rfl)).trans ((funext (hA42 59 rfl)).trans ((funext (hA_218 59 rfl)).trans ((funext (hA_173 59 rfl)).trans ((funext (hA_129 59 rfl)).trans ((funext (hA25 59 rfl)).trans (ewq20))))))))) (show WC ((y13)) ((wq15)) by assumption) (show WO ((wq17)) ((wq19)) by assumption) (fun σ F114 A115 H hS116 hA117 y119 ey120 wq121 ewq122 wq123 ewq124 wq125 ewq126 pz118_0 pz118_1 => ⟨rfl, ?_⟩))
                        have r127 : (0 : Int) ≤ y119 ∧ y119 ≤ 11 := by have h1 : (0 : Int) ≤ F114 6 12 ∧ F114 6 12 ≤ 11 := H.frng 6 12; rw [show F114 6 12 = y119 from (ey120)] at h1; exact h1
                        refine Ew_of (pc' := 340) (fun _ => x_bipush (z := 8) rfl (by decide)) ?_
                        refine Ew_of (pc' := 342) (fun _ => x_istore rfl) ?_
                        suffices hl342 : ∀ (m : Nat), ∀ (ls : rO) (σ : rS) (F_342 : hF) (A_342 : hA) (x342_9 : Int), rlook ls 0 = some (.ref (D 6)) → rlook ls 1 = some (I (a1)) → rlook ls 2 = some (I (a2)) → rlook ls 3 = some (I (a3)) → rlook ls 4 = some (I (u6_37)) → rlook ls 5 = some (I ((a2 - a1))) → rlook ls 9 = some (I (x342_9)) → HS σ0 σ D N F_342 A_342 → SF [] F114 F_342 → SA [87] A115 A_342 → (inr (x342_9)) → ((8) ≤ (x342_9)) → ((x342_9) ≤ (8) ∨ (x342_9) ≤ ((12))) → (((12)) - (x342_9)).toNat = m → Ew 449 (d + 7) 342 ls [] σ c s Q from
                          hl342 _ _ σ _ _ (8) (rk_o (rk_o (rk_o (l218_0) rfl rfl) rfl rfl) rfl rfl) (rk_o (rk_o (rk_o (l218_1) rfl rfl) rfl rfl) rfl rfl) (rk_o (rk_o (rk_o (l218_2) rfl rfl) rfl rfl) rfl rfl) (rk_o (rk_o (rk_o (l218_3) rfl rfl) rfl rfl) rfl rfl) (rk_o (rk_o (rk_o (l218_4) rfl rfl) rfl rfl) rfl rfl) (rk_o (rk_o (rk_o (l218_5) rfl rfl) rfl rfl) rfl rfl) (rk_s) H (SF_refl) (SA_refl)   (show inr (8) by omega) (show (8) ≤ (8) by omega) (show (8) ≤ (8) ∨ (8) ≤ ((12)) by omega) rfl
                        as_aux_lemma =>
                        intro m
                        induction m using Nat.strongRecOn with
                        | _ m ih342 =>
                          intro ls σ F_342 A_342 x342_9 l342_0 l342_1 l342_2 l342_3 l342_4 l342_5 l342_9 H hS_342 hA_342   j342_0 j342_1 j342_2 hm342
                          refine Ew_of (pc' := 344) (fun _ => x_iload rfl l342_9) ?_
                          refine Ew_of (pc' := 346) (fun _ => x_bipush (z := 12) rfl (by decide)) ?_
                          refine w_icmpge (t := 369) rfl rfl (show inr (x342_9) by omega) (show inr (12) by omega) (fun b128 => ?_) (fun b128 => ?_)
                          · refine Ew_of (pc' := 370) (fun _ => x_aload_n rfl l342_0) ?_
                            refine Ew_of (pc' := 372) (fun _ => x_iload rfl l342_4) ?_
                            refine w_pI H (o := 6) rfl rfl (H.perm 6 rfl) rfl rfl rfl (fun _ => rfl) rfl (show (0 : Int) ≤ u6_37 ∧ u6_37 ≤ 100000000 by omega) (fun σ H => ?_)
                            refine Ew_of (pc' := 376) (fun _ => x_aload_n rfl l342_0) ?_
                            refine Ew_of (pc' := 378) (fun _ => x_iload rfl l342_4) ?_
                            refine Ew_of (pc' := 380) (fun _ => x_iload rfl l342_5) ?_
                            refine Ew_of (pc' := 381) (fun _ => x_iconst rfl) ?_
                            refine Ew_of (pc' := 382) (fun _ => x_iload_n rfl l342_3) ?_
                            refine w_inv H (o := 6) rfl rfl rfl (H.perm 6 rfl) rfl rfl (by rfl) (M448 H (u6_37) (rfl) (show inr (u6_37) by omega) (show inr ((a2 - a1)) by omega) (show inr (0) by omega) (show inr (a3) by omega) (show (a3) = 0 ∨ (a3) = 1 by omega) (show 0 ≤ (u6_37) ∧ (u6_37) ≤ 80000000 by omega) (show 0 ≤ ((a2 - a1)) ∧ ((a2 - a1)) ≤ 20000000 ∧ 0 ≤ (0) ∧ (0) ≤ 3 by omega) (fun σ F129 A130 H hS131 hA132 y134 ey135 pz133_0 => ⟨rfl, ?_⟩))
                            have r136 : (0 : Int) ≤ y134 ∧ y134 ≤ 100000000 := by have h1 : (0 : Int) ≤ F129 6 37 ∧ F129 6 37 ≤ 100000000 := H.frng 6 37; rw [show F129 6 37 = y134 from (ey135)] at h1; exact h1
                            refine Ew_of (pc' := 386) (fun _ => x_iload_n rfl l342_1) ?_
                            refine Ew_of (pc' := 388) (fun _ => x_istore rfl) ?_
                            suffices hl388 : ∀ (m : Nat), ∀ (ls : rO) (σ : rS) (F_388 : hF) (A_388 : hA) (x388_9 : Int), rlook ls 0 = some (.ref (D 6)) → rlook ls 2 = some (I (a2)) → rlook ls 9 = some (I (x388_9)) → HS σ0 σ D N F_388 A_388 → SF [(6, 37)] F129 F_388 → SA [70] A130 A_388 → ∀ y388_6_37 : Int, F_388 6 37 = y388_6_37 → (inr (x388_9)) → ((a1) ≤ (x388_9) ∧ (x388_9) ≤ (a2)) → ((y388_6_37) = (u6_37) + 3 + ((x388_9) - (a1))) → ((a2) - (x388_9)).toNat = m → Ew 449 (d + 7) 388 ls [] σ c s Q from
                              hl388 _ _ σ _ _ (a1) (rk_o (l342_0) rfl rfl) (rk_o (l342_2) rfl rfl) (rk_s) H (SF_refl) (SA_refl) (y134) ((ey135))  (show inr (a1) by omega) (show (a1) ≤ (a1) ∧ (a1) ≤ (a2) by omega) (show (y134) = (u6_37) + 3 + ((a1) - (a1)) by omega) rfl
                            as_aux_lemma =>
                            intro m
                            induction m using Nat.strongRecOn with
                            | _ m ih388 =>
                              intro ls σ F_388 A_388 x388_9 l388_0 l388_2 l388_9 H hS_388 hA_388 y388_6_37 ey388_6_37  j388_0 j388_1 j388_2 hm388
                              have r137 : (0 : Int) ≤ y388_6_37 ∧ y388_6_37 ≤ 100000000 := by have h1 : (0 : Int) ≤ F_388 6 37 ∧ F_388 6 37 ≤ 100000000 := H.frng 6 37; rw [show F_388 6 37 = y388_6_37 from (ey388_6_37)] at h1; exact h1
                              refine Ew_of (pc' := 390) (fun _ => x_iload rfl l388_9) ?_
                              refine Ew_of (pc' := 391) (fun _ => x_iload_n rfl l388_2) ?_
                              refine w_icmpge (t := 414) rfl rfl (show inr (x388_9) by omega) (show inr (a2) by omega) (fun b138 => ?_) (fun b138 => ?_)
                              · refine Ew_of (pc' := 415) (fun _ => x_aload_n rfl l388_0) ?_
                                refine w_gT H (o := 6) (t := 87) rfl (H.perm 6 rfl) rfl rfl rfl rfl rfl rfl ?_
                                refine Ew_of (pc' := 419) (fun _ => x_iconst rfl) ?_
                                refine Ew_of (pc' := 420) (fun _ => x_dup2 rfl rfl rfl) ?_
                                refine w_lI H (o := 87) (n := 12) rfl (H.perm 87 rfl) rfl rfl (H.fix 87 rfl rfl) (show 0 ≤ 0 ∧ 0 < ((12 : Nat) : Int) by omega) (by decide) (fun v139 ev139 qv139 => ?_)
                                have qv139 : (-2147483648 : Int) ≤ v139 ∧ v139 ≤ 2147483647 := qv139
                                have ev139 : (A_342 87) (0) = v139 := (congrFun ((funext (hA_388 87 rfl)).trans (funext (hA132 87 rfl))) (0)).symm.trans ev139
                                refine Ew_of (pc' := 422) (fun _ => x_iconst rfl) ?_
                                refine w_iaddA rfl (fun z140 gz140 => ?_)
                                refine w_sI H (o := 87) (n := 12) rfl (H.perm 87 rfl) rfl rfl (H.fix 87 rfl rfl) (show 0 ≤ 0 ∧ 0 < ((12 : Nat) : Int) by omega) (by decide) (show (-2147483648 : Int) ≤ z140 ∧ z140 ≤ 2147483647 by omega) (fun σ H => ?_)
                                exact w_ret rfl (k σ _ _ H (SF_trans (SF_trans (SF_upd (SF_trans (SF_trans (SF_trans (SF_trans (SF_trans (SF_trans (SF_trans (SF_trans (SF_trans (SF_upd (SF_trans (SF_trans (SF_trans (SF_trans (SF_refl) hS_c21 (any_sub rfl)) hS_26 (any_sub rfl)) hS10 (any_sub rfl)) hS24 (any_sub rfl)) rfl) hS_129 (any_sub rfl)) hS_173 (any_sub rfl)) hS_218 (any_sub rfl)) hS41 (any_sub rfl)) hS61 (any_sub rfl)) hS81 (any_sub rfl)) hS94 (any_sub rfl)) hS116 (any_sub rfl)) hS_342 (any_sub rfl)) rfl) hS131 (any_sub rfl)) hS_388 (any_sub rfl)) (SA_upd (SA_trans (SA_trans (SA_trans (SA_trans (SA_trans (SA_trans (SA_trans (SA_trans (SA_trans (SA_trans (SA_trans (SA_trans (SA_trans (SA_trans (SA_trans (SA_refl) hA_c21 (any_subA rfl)) hA_26 (any_subA rfl)) hA11 (any_subA rfl)) hA25 (any_subA rfl)) hA_129 (any_subA rfl)) hA_173 (any_subA rfl)) hA_218 (any_subA rfl)) hA42 (any_subA rfl)) hA62 (any_subA rfl)) hA82 (any_subA rfl)) hA95 (any_subA rfl)) hA117 (any_subA rfl)) hA_342 (any_subA rfl)) hA132 (any_subA rfl)) hA_388 (any_subA rfl)) rfl) (y119) (((((hS_388 6 12 rfl).trans (hS131 6 12 rfl)).trans (hS_342 6 12 rfl)).trans (ey120))) (y388_6_37) ((ey388_6_37)) (wq121) ((funext (hA_388 53 rfl)).trans ((funext (hA132 53 rfl)).trans ((funext (hA_342 53 rfl)).trans (ewq122)))) (wq123) ((funext (hA_388 54 rfl)).trans ((funext (hA132 54 rfl)).trans ((funext (hA_342 54 rfl)).trans (ewq124)))) (wq125) ((funext (hA_388 55 rfl)).trans ((funext (hA132 55 rfl)).trans ((funext (hA_342 55 rfl)).trans (ewq126)))) (show (u6_37) ≤ (y388_6_37) ∧ (y388_6_37) ≤ (u6_37) + 4 + (a2 - a1) by omega) (show WC ((y119)) ((wq121)) by assumption) (show WO ((wq123)) ((wq125)) by assumption))
                              · refine Ew_of (pc' := 395) (fun _ => x_aload_n rfl l388_0) ?_
                                refine Ew_of (pc' := 396) (fun _ => x_aload_n rfl l388_0) ?_
                                refine w_gT H (o := 6) (t := 1) rfl (H.perm 6 rfl) rfl rfl rfl rfl rfl rfl ?_
                                refine w_gT H (o := 1) (t := 14) rfl (H.perm 1 rfl) rfl rfl rfl rfl rfl rfl ?_
                                refine Ew_of (pc' := 404) (fun _ => x_iload rfl l388_9) ?_
                                refine w_lI H (o := 14) (n := 65536) rfl (H.perm 14 rfl) rfl rfl (H.fix 14 rfl rfl) (show 0 ≤ x388_9 ∧ x388_9 < ((65536 : Nat) : Int) by omega) (by decide) (fun v141 ev141 qv141 => ?_)
                                have qv141 : (0 : Int) ≤ v141 ∧ v141 ≤ 255 := qv141
                                have ev141 : (A 14) (x388_9) = v141 := (congrFun ((funext (hA_388 14 rfl)).trans ((funext (hA132 14 rfl)).trans ((funext (hA_342 14 rfl)).trans ((funext (hA117 14 rfl)).trans ((funext (hA95 14 rfl)).trans ((funext (hA82 14 rfl)).trans ((funext (hA62 14 rfl)).trans ((funext (hA42 14 rfl)).trans ((funext (hA_218 14 rfl)).trans ((funext (hA_173 14 rfl)).trans ((funext (hA_129 14 rfl)).trans ((funext (hA25 14 rfl)).trans ((funext (hA11 14 rfl)).trans ((funext (hA_26 14 rfl)).trans (funext (hA_c21 14 rfl)))))))))))))))) (x388_9)).symm.trans ev141
                                refine w_inv H (o := 6) rfl rfl rfl (H.perm 6 rfl) rfl rfl (by rfl) (M392 H (y388_6_37) ((ey388_6_37)) (A_388 70) (rfl) (show inr (v141) by omega) (show 0 ≤ (y388_6_37) ∧ (y388_6_37) ≤ 99999999 by omega) (fun σ F142 A143 H hS144 hA145 y147 ey148 wq149 ewq150 pz146_0 pz146_1 => ⟨rfl, ?_⟩))
                                have r151 : (0 : Int) ≤ y147 ∧ y147 ≤ 100000000 := by have h1 : (0 : Int) ≤ F142 6 37 ∧ F142 6 37 ≤ 100000000 := H.frng 6 37; rw [show F142 6 37 = y147 from (ey148)] at h1; exact h1
                                refine Ew_of (pc' := 411) (fun _ => x_iinc (len := 3) rfl (l388_9)) ?_
                                refine Ew_of (pc' := 388) (fun _ => x_goto rfl rfl) ?_
                                exact ih388 _ (by omega) _ σ _ _ ((x388_9 + 1)) (rk_o (l388_0) rfl rfl) (rk_o (l388_2) rfl rfl) (rk_s) H (SF_trans (hS_388) hS144 (any_sub rfl)) (SA_trans (hA_388) hA145 (any_subA rfl)) (y147) ((ey148))  (show inr ((x388_9 + 1)) by omega) (show (a1) ≤ ((x388_9 + 1)) ∧ ((x388_9 + 1)) ≤ (a2) by omega) (show (y147) = (u6_37) + 3 + (((x388_9 + 1)) - (a1)) by omega) rfl
                          · refine Ew_of (pc' := 350) (fun _ => x_aload_n rfl l342_0) ?_
                            refine w_gT H (o := 6) (t := 87) rfl (H.perm 6 rfl) rfl rfl rfl rfl rfl rfl ?_
                            refine Ew_of (pc' := 355) (fun _ => x_iload rfl l342_9) ?_
                            refine Ew_of (pc' := 356) (fun _ => x_aload_n rfl l342_0) ?_
                            refine w_gT H (o := 6) (t := 85) rfl (H.perm 6 rfl) rfl rfl rfl rfl rfl rfl ?_
                            refine Ew_of (pc' := 361) (fun _ => x_iload rfl l342_9) ?_
                            refine w_lI H (o := 85) (n := 12) rfl (H.perm 85 rfl) rfl rfl (H.fix 85 rfl rfl) (show 0 ≤ x342_9 ∧ x342_9 < ((12 : Nat) : Int) by omega) (by decide) (fun v152 ev152 qv152 => ?_)
                            have qv152 : (-2147483648 : Int) ≤ v152 ∧ v152 ≤ 2147483647 := qv152
                            have ev152 : (A_218 85) (x342_9) = v152 := (congrFun ((funext (hA_342 85 rfl)).trans ((funext (hA117 85 rfl)).trans ((funext (hA95 85 rfl)).trans ((funext (hA82 85 rfl)).trans ((funext (hA62 85 rfl)).trans (funext (hA42 85 rfl))))))) (x342_9)).symm.trans ev152
                            refine w_sI H (o := 87) (n := 12) rfl (H.perm 87 rfl) rfl rfl (H.fix 87 rfl rfl) (show 0 ≤ x342_9 ∧ x342_9 < ((12 : Nat) : Int) by omega) (by decide) (show (-2147483648 : Int) ≤ v152 ∧ v152 ≤ 2147483647 by omega) (fun σ H => ?_)
                            refine Ew_of (pc' := 366) (fun _ => x_iinc (len := 3) rfl (l342_9)) ?_
                            refine Ew_of (pc' := 342) (fun _ => x_goto rfl rfl) ?_
                            exact ih342 _ (by omega) _ σ _ _ ((x342_9 + 1)) (rk_o (l342_0) rfl rfl) (rk_o (l342_1) rfl rfl) (rk_o (l342_2) rfl rfl) (rk_o (l342_3) rfl rfl) (rk_o (l342_4) rfl rfl) (rk_o (l342_5) rfl rfl) (rk_s) H (hS_342) (SA_upd (hA_342) rfl)   (show inr ((x342_9 + 1)) by omega) (show (8) ≤ ((x342_9 + 1)) by omega) (show ((x342_9 + 1)) ≤ (8) ∨ ((x342_9 + 1)) ≤ ((12)) by omega) rfl
                      · refine Ew_of (pc' := 288) (fun _ => x_aload_n rfl (rk_o (rk_o (l218_0) rfl rfl) rfl rfl)) ?_
                        refine Ew_of (pc' := 290) (fun _ => x_iload rfl (rk_o (rk_o (l218_4) rfl rfl) rfl rfl)) ?_
                        refine Ew_of (pc' := 292) (fun _ => x_iload rfl rk_s) ?_
                        refine Ew_of (pc' := 293) (fun _ => x_iconst rfl) ?_
                        refine Ew_of (pc' := 294) (fun _ => x_iload_n rfl (rk_o (rk_o (l218_3) rfl rfl) rfl rfl)) ?_
                        refine w_inv H (o := 6) rfl rfl rfl (H.perm 6 rfl) rfl rfl (by rfl) (M448 H (y99) ((ey100)) (show inr (u6_37) by omega) (show inr (((y99 - u6_37) - 3)) by omega) (show inr (2) by omega) (show inr (a3) by omega) (show (a3) = 0 ∨ (a3) = 1 by omega) (show 0 ≤ (u6_37) ∧ (u6_37) ≤ 80000000 by omega) (show 0 ≤ (((y99 - u6_37) - 3)) ∧ (((y99 - u6_37) - 3)) ≤ 20000000 ∧ 0 ≤ (2) ∧ (2) ≤ 3 by omega) (fun σ F153 A154 H hS155 hA156 y158 ey159 pz157_0 => ⟨rfl, ?_⟩))
                        have r160 : (0 : Int) ≤ y158 ∧ y158 ≤ 100000000 := by have h1 : (0 : Int) ≤ F153 6 37 ∧ F153 6 37 ≤ 100000000 := H.frng 6 37; rw [show F153 6 37 = y158 from (ey159)] at h1; exact h1
                        refine Ew_of (pc' := 298) (fun _ => x_aload_n rfl (rk_o (rk_o (l218_0) rfl rfl) rfl rfl)) ?_
                        refine w_gT H (o := 6) (t := 87) rfl (H.perm 6 rfl) rfl rfl rfl rfl rfl rfl ?_
                        refine Ew_of (pc' := 302) (fun _ => x_iconst rfl) ?_
                        refine Ew_of (pc' := 303) (fun _ => x_dup2 rfl rfl rfl) ?_
                        refine w_lI H (o := 87) (n := 12) rfl (H.perm 87 rfl) rfl rfl (H.fix 87 rfl rfl) (show 0 ≤ 2 ∧ 2 < ((12 : Nat) : Int) by omega) (by decide) (fun v161 ev161 qv161 => ?_)
                        have qv161 : (-2147483648 : Int) ≤ v161 ∧ v161 ≤ 2147483647 := qv161
                        have ev161 : (wq109) (2) = v161 := (congrFun ((funext (hA156 87 rfl)).trans (ewq110)) (2)).symm.trans ev161
                        refine Ew_of (pc' := 305) (fun _ => x_iconst rfl) ?_
                        refine w_iaddA rfl (fun z162 gz162 => ?_)
                        refine w_sI H (o := 87) (n := 12) rfl (H.perm 87 rfl) rfl rfl (H.fix 87 rfl rfl) (show 0 ≤ 2 ∧ 2 < ((12 : Nat) : Int) by omega) (by decide) (show (-2147483648 : Int) ≤ z162 ∧ z162 ≤ 2147483647 by omega) (fun σ H => ?_)
                        refine Ew_of (pc' := 308) (fun _ => x_aload_n rfl (rk_o (rk_o (l218_0) rfl rfl) rfl rfl)) ?_
                        refine w_gT H (o := 6) (t := 87) rfl (H.perm 6 rfl) rfl rfl rfl rfl rfl rfl ?_
                        refine Ew_of (pc' := 312) (fun _ => x_iconst rfl) ?_
                        refine Ew_of (pc' := 313) (fun _ => x_dup2 rfl rfl rfl) ?_
                        refine w_lI H (o := 87) (n := 12) rfl (H.perm 87 rfl) rfl rfl (H.fix 87 rfl rfl) (show 0 ≤ 3 ∧ 3 < ((12 : Nat) : Int) by omega) (by decide) (fun v163 ev163 qv163 => ?_)
                        have qv163 : (-2147483648 : Int) ≤ v163 ∧ v163 ≤ 2147483647 := qv163
                        refine Ew_of (pc' := 315) (fun _ => x_aload_n rfl (rk_o (rk_o (l218_0) rfl rfl) rfl rfl)) ?_
                        refine w_gI H (o := 6) (w := y44) rfl (H.perm 6 rfl) rfl rfl rfl (fun _ => rfl) (((((hS155 6 28 rfl).trans (hS94 6 28 rfl)).trans (hS81 6 28 rfl)).trans (hS61 6 28 rfl)).trans (ey45)) ?_
                        refine w_iaddA rfl (fun z164 gz164 => ?_)
                        refine w_sI H (o := 87) (n := 12) rfl (H.perm 87 rfl) rfl rfl (H.fix 87 rfl rfl) (show 0 ≤ 3 ∧ 3 < ((12 : Nat) : Int) by omega) (by decide) (show (-2147483648 : Int) ≤ z164 ∧ z164 ≤ 2147483647 by omega) (fun σ H => ?_)
                        refine Ew_of (pc' := 321) (fun _ => x_aload_n rfl (rk_o (rk_o (l218_0) rfl rfl) rfl rfl)) ?_
                        refine w_gT H (o := 6) (t := 87) rfl (H.perm 6 rfl) rfl rfl rfl rfl rfl rfl ?_
                        refine Ew_of (pc' := 325) (fun _ => x_iconst rfl) ?_
                        refine Ew_of (pc' := 327) (fun _ => x_iload rfl (rk_o (rk_s) rfl rfl)) ?_
                        refine w_iadd rfl ?_
                        refine Ew_of (pc' := 329) (fun _ => x_dup2 rfl rfl rfl) ?_
                        refine w_lI H (o := 87) (n := 12) rfl (H.perm 87 rfl) rfl rfl (H.fix 87 rfl rfl) (show 0 ≤ (4 + z63) ∧ (4 + z63) < ((12 : Nat) : Int) by omega) (by decide) (fun v165 ev165 qv165 => ?_)
                        have qv165 : (-2147483648 : Int) ≤ v165 ∧ v165 ≤ 2147483647 := qv165
                        refine Ew_of (pc' := 331) (fun _ => x_iconst rfl) ?_
                        refine w_iaddA rfl (fun z166 gz166 => ?_)
                        refine w_sI H (o := 87) (n := 12) rfl (H.perm 87 rfl) rfl rfl (H.fix 87 rfl rfl) (show 0 ≤ (4 + z63) ∧ (4 + z63) < ((12 : Nat) : Int) by omega) (by decide) (show (-2147483648 : Int) ≤ z166 ∧ z166 ≤ 2147483647 by omega) (fun σ H => ?_)
                        exact w_ret rfl (k σ _ _ H (SF_trans (SF_trans (SF_trans (SF_trans (SF_trans (SF_trans (SF_trans (SF_trans (SF_upd (SF_trans (SF_trans (SF_trans (SF_trans (SF_refl) hS_c21 (any_sub rfl)) hS_26 (any_sub rfl)) hS10 (any_sub rfl)) hS24 (any_sub rfl)) rfl) hS_129 (any_sub rfl)) hS_173 (any_sub rfl)) hS_218 (any_sub rfl)) hS41 (any_sub rfl)) hS61 (any_sub rfl)) hS81 (any_sub rfl)) hS94 (any_sub rfl)) hS155 (any_sub rfl)) (SA_upd (SA_upd (SA_upd (SA_trans (SA_trans (SA_trans (SA_trans (SA_trans (SA_trans (SA_trans (SA_trans (SA_trans (SA_trans (SA_trans (SA_trans (SA_refl) hA_c21 (any_subA rfl)) hA_26 (any_subA rfl)) hA11 (any_subA rfl)) hA25 (any_subA rfl)) hA_129 (any_subA rfl)) hA_173 (any_subA rfl)) hA_218 (any_subA rfl)) hA42 (any_subA rfl)) hA62 (any_subA rfl)) hA82 (any_subA rfl)) hA95 (any_subA rfl)) hA156 (any_subA rfl)) rfl) rfl) rfl) (y64) (((((hS155 6 12 rfl).trans (hS94 6 12 rfl)).trans (hS81 6 12 rfl)).trans (ey65))) (y158) ((ey159)) (wq70) ((funext (hA156 53 rfl)).trans ((funext (hA95 53 rfl)).trans ((funext (hA82 53 rfl)).trans (ewq71)))) (wq101) ((funext (hA156 54 rfl)).trans (ewq102)) (wq103) ((funext (hA156 55 rfl)).trans (ewq104)) (show (u6_37) ≤ (y158) ∧ (y158) ≤ (u6_37) + 4 + (a2 - a1) by omega) (show WC ((y64)) ((wq70)) by assumption) (show WO ((wq101)) ((wq103)) by assumption))
                    · refine Ew_of (pc' := 226) (fun _ => x_aload_n rfl l218_0) ?_
                      refine w_gT H (o := 6) (t := 85) rfl (H.perm 6 rfl) rfl rfl rfl rfl rfl rfl ?_
                      refine Ew_of (pc' := 231) (fun _ => x_iload rfl l218_7) ?_
                      refine Ew_of (pc' := 232) (fun _ => x_aload_n rfl l218_0) ?_
                      refine w_gT H (o := 6) (t := 87) rfl (H.perm 6 rfl) rfl rfl rfl rfl rfl rfl ?_
                      refine Ew_of (pc' := 237) (fun _ => x_iload rfl l218_7) ?_
                      refine w_lI H (o := 87) (n := 12) rfl (H.perm 87 rfl) rfl rfl (H.fix 87 rfl rfl) (show 0 ≤ x218_7 ∧ x218_7 < ((12 : Nat) : Int) by omega) (by decide) (fun v167 ev167 qv167 => ?_)
                      have qv167 : (-2147483648 : Int) ≤ v167 ∧ v167 ≤ 2147483647 := qv167
                      have ev167 : (A 87) (x218_7) = v167 := (congrFun ((funext (hA_218 87 rfl)).trans ((funext (hA_173 87 rfl)).trans ((funext (hA_129 87 rfl)).trans ((funext (hA25 87 rfl)).trans ((funext (hA11 87 rfl)).trans ((funext (hA_26 87 rfl)).trans (funext (hA_c21 87 rfl)))))))) (x218_7)).symm.trans ev167
                      refine w_sI H (o := 85) (n := 12) rfl (H.perm 85 rfl) rfl rfl (H.fix 85 rfl rfl) (show 0 ≤ x218_7 ∧ x218_7 < ((12 : Nat) : Int) by omega) (by decide) (show (-2147483648 : Int) ≤ v167 ∧ v167 ≤ 2147483647 by omega) (fun σ H => ?_)
                      refine Ew_of (pc' := 242) (fun _ => x_iinc (len := 3) rfl (l218_7)) ?_
                      refine Ew_of (pc' := 218) (fun _ => x_goto rfl rfl) ?_
                      exact ih218 _ (by omega) _ σ _ _ ((x218_7 + 1)) (rk_o (l218_0) rfl rfl) (rk_o (l218_1) rfl rfl) (rk_o (l218_2) rfl rfl) (rk_o (l218_3) rfl rfl) (rk_o (l218_4) rfl rfl) (rk_o (l218_5) rfl rfl) (rk_s) H (hS_218) (SA_upd (hA_218) rfl)   (show inr ((x218_7 + 1)) by omega) (show (8) ≤ ((x218_7 + 1)) by omega) (show ((x218_7 + 1)) ≤ (8) ∨ ((x218_7 + 1)) ≤ ((12)) by omega) rfl
                · refine Ew_of (pc' := 180) (fun _ => x_aload_n rfl l173_0) ?_
                  refine w_gT H (o := 6) (t := 61) rfl (H.perm 6 rfl) rfl rfl rfl rfl rfl rfl ?_
                  refine Ew_of (pc' := 184) (fun _ => x_aload_n rfl l173_0) ?_
                  refine w_gI H (o := 6) (w := y173_6_22) rfl (H.perm 6 rfl) rfl rfl rfl (fun _ => rfl) (ey173_6_22) ?_
                  refine Ew_of (pc' := 188) (fun _ => x_aload_n rfl l173_0) ?_
                  refine w_gT H (o := 6) (t := 1) rfl (H.perm 6 rfl) rfl rfl rfl rfl rfl rfl ?_
                  refine w_gT H (o := 1) (t := 14) rfl (H.perm 1 rfl) rfl rfl rfl rfl rfl rfl ?_
                  refine Ew_of (pc' := 196) (fun _ => x_iload rfl l173_7) ?_
                  refine w_lI H (o := 14) (n := 65536) rfl (H.perm 14 rfl) rfl rfl (H.fix 14 rfl rfl) (show 0 ≤ x173_7 ∧ x173_7 < ((65536 : Nat) : Int) by omega) (by decide) (fun v168 ev168 qv168 => ?_)
                  have qv168 : (0 : Int) ≤ v168 ∧ v168 ≤ 255 := qv168
                  have ev168 : (A 14) (x173_7) = v168 := (congrFun ((funext (hA_173 14 rfl)).trans ((funext (hA_129 14 rfl)).trans ((funext (hA25 14 rfl)).trans ((funext (hA11 14 rfl)).trans ((funext (hA_26 14 rfl)).trans (funext (hA_c21 14 rfl))))))) (x173_7)).symm.trans ev168
                  refine w_sI H (o := 61) (n := 16384) rfl (H.perm 61 rfl) rfl rfl (H.fix 61 rfl rfl) (show 0 ≤ y173_6_22 ∧ y173_6_22 < ((16384 : Nat) : Int) by omega) (by decide) (show (0 : Int) ≤ v168 ∧ v168 ≤ 255 by omega) (fun σ H => ?_)
                  refine Ew_of (pc' := 199) (fun _ => x_aload_n rfl l173_0) ?_
                  refine Ew_of (pc' := 200) (fun _ => x_dup rfl rfl) ?_
                  refine w_gI H (o := 6) (w := y173_6_22) rfl (H.perm 6 rfl) rfl rfl rfl (fun _ => rfl) (ey173_6_22) ?_
                  refine Ew_of (pc' := 204) (fun _ => x_iconst rfl) ?_
                  refine w_iadd rfl ?_
                  refine w_pI H (o := 6) rfl rfl (H.perm 6 rfl) rfl rfl rfl (fun _ => rfl) rfl (show (0 : Int) ≤ (y173_6_22 + 1) ∧ (y173_6_22 + 1) ≤ 16384 by omega) (fun σ H => ?_)
                  refine Ew_of (pc' := 211) (fun _ => x_iinc (len := 3) rfl (l173_7)) ?_
                  refine Ew_of (pc' := 173) (fun _ => x_goto rfl rfl) ?_
                  exact ih173 _ (by omega) _ σ _ _ ((x173_7 + 1)) (rk_o (l173_0) rfl rfl) (rk_o (l173_1) rfl rfl) (rk_o (l173_2) rfl rfl) (rk_o (l173_3) rfl rfl) (rk_o (l173_4) rfl rfl) (rk_o (l173_5) rfl rfl) (rk_s) H (SF_upd (hS_173) rfl) (SA_upd (hA_173) rfl) ((y173_6_22 + 1)) (rfl)  (show inr ((x173_7 + 1)) by omega) (show (0) ≤ ((x173_7 + 1)) by omega) (show ((x173_7 + 1)) ≤ (0) ∨ ((x173_7 + 1)) ≤ ((a2)) by omega) (show ((y173_6_22 + 1)) = (u6_4) + ((x173_7 + 1)) by omega) rfl
            · refine Ew_of (pc' := 139) (fun _ => x_aload_n rfl l129_0) ?_
              refine w_gT H (o := 6) (t := 61) rfl (H.perm 6 rfl) rfl rfl rfl rfl rfl rfl ?_
              refine Ew_of (pc' := 143) (fun _ => x_aload_n rfl l129_0) ?_
              refine w_gI H (o := 6) (w := y129_6_22) rfl (H.perm 6 rfl) rfl rfl rfl (fun _ => rfl) (ey129_6_22) ?_
              refine Ew_of (pc' := 147) (fun _ => x_aload_n rfl l129_0) ?_
              refine w_gT H (o := 6) (t := 48) rfl (H.perm 6 rfl) rfl rfl rfl rfl rfl rfl ?_
              refine Ew_of (pc' := 152) (fun _ => x_iload rfl l129_7) ?_
              refine w_lI H (o := 48) (n := 65536) rfl (H.perm 48 rfl) rfl rfl (H.fix 48 rfl rfl) (show 0 ≤ x129_7 ∧ x129_7 < ((65536 : Nat) : Int) by omega) (by decide) (fun v169 ev169 qv169 => ?_)
              have qv169 : (0 : Int) ≤ v169 ∧ v169 ≤ 255 := qv169
              have ev169 : (A 48) (x129_7) = v169 := (congrFun ((funext (hA_129 48 rfl)).trans ((funext (hA25 48 rfl)).trans ((funext (hA11 48 rfl)).trans ((funext (hA_26 48 rfl)).trans (funext (hA_c21 48 rfl)))))) (x129_7)).symm.trans ev169
              refine w_sI H (o := 61) (n := 16384) rfl (H.perm 61 rfl) rfl rfl (H.fix 61 rfl rfl) (show 0 ≤ y129_6_22 ∧ y129_6_22 < ((16384 : Nat) : Int) by omega) (by decide) (show (0 : Int) ≤ v169 ∧ v169 ≤ 255 by omega) (fun σ H => ?_)
              refine Ew_of (pc' := 155) (fun _ => x_aload_n rfl l129_0) ?_
              refine Ew_of (pc' := 156) (fun _ => x_dup rfl rfl) ?_
              refine w_gI H (o := 6) (w := y129_6_22) rfl (H.perm 6 rfl) rfl rfl rfl (fun _ => rfl) (ey129_6_22) ?_
              refine Ew_of (pc' := 160) (fun _ => x_iconst rfl) ?_
              refine w_iadd rfl ?_
              refine w_pI H (o := 6) rfl rfl (H.perm 6 rfl) rfl rfl rfl (fun _ => rfl) rfl (show (0 : Int) ≤ (y129_6_22 + 1) ∧ (y129_6_22 + 1) ≤ 16384 by omega) (fun σ H => ?_)
              refine Ew_of (pc' := 167) (fun _ => x_iinc (len := 3) rfl (l129_7)) ?_
              refine Ew_of (pc' := 129) (fun _ => x_goto rfl rfl) ?_
              exact ih129 _ (by omega) _ σ _ _ ((x129_7 + 1)) (rk_o (l129_0) rfl rfl) (rk_o (l129_1) rfl rfl) (rk_o (l129_2) rfl rfl) (rk_o (l129_3) rfl rfl) (rk_o (l129_4) rfl rfl) (rk_o (l129_5) rfl rfl) (rk_s) H (SF_upd (hS_129) rfl) (SA_upd (hA_129) rfl) ((y129_6_22 + 1)) (rfl)  (show inr ((x129_7 + 1)) by omega) (show (0) ≤ ((x129_7 + 1)) by omega) (show ((x129_7 + 1)) ≤ (0) ∨ ((x129_7 + 1)) ≤ ((u6_4)) by omega) (show ((y129_6_22 + 1)) = ((x129_7 + 1)) by omega) rfl
        · refine Ew_of (pc' := 78) (fun _ => x_aload_n rfl l26_0) ?_
          refine Ew_of (pc' := 80) (fun _ => x_iload rfl l26_4) ?_
          refine Ew_of (pc' := 82) (fun _ => x_iload rfl l26_5) ?_
          refine Ew_of (pc' := 83) (fun _ => x_iconst rfl) ?_
          refine Ew_of (pc' := 84) (fun _ => x_iload_n rfl l26_3) ?_
          refine w_inv H (o := 6) rfl rfl rfl (H.perm 6 rfl) rfl rfl (by rfl) (M448 H (u6_37) ((((hS_26 6 37 rfl).trans (hS_c21 6 37 rfl)).trans (eu6_37))) (show inr (u6_37) by omega) (show inr ((a2 - a1)) by omega) (show inr (1) by omega) (show inr (a3) by omega) (show (a3) = 0 ∨ (a3) = 1 by omega) (show 0 ≤ (u6_37) ∧ (u6_37) ≤ 80000000 by omega) (show 0 ≤ ((a2 - a1)) ∧ ((a2 - a1)) ≤ 20000000 ∧ 0 ≤ (1) ∧ (1) ≤ 3 by omega) (fun σ F170 A171 H hS172 hA173 y175 ey176 pz174_0 => ⟨rfl, ?_⟩))
          have r177 : (0 : Int) ≤ y175 ∧ y175 ≤ 100000000 := by have h1 : (0 : Int) ≤ F170 6 37 ∧ F170 6 37 ≤ 100000000 := H.frng 6 37; rw [show F170 6 37 = y175 from (ey176)] at h1; exact h1
          refine Ew_of (pc' := 88) (fun _ => x_aload_n rfl l26_0) ?_
          refine Ew_of (pc' := 89) (fun _ => x_aload_n rfl l26_0) ?_
          refine w_gT H (o := 6) (t := 1) rfl (H.perm 6 rfl) rfl rfl rfl rfl rfl rfl ?_
          refine w_gT H (o := 1) (t := 14) rfl (H.perm 1 rfl) rfl rfl rfl rfl rfl rfl ?_
          refine Ew_of (pc' := 96) (fun _ => x_iload_n rfl l26_1) ?_
          refine w_lI H (o := 14) (n := 65536) rfl (H.perm 14 rfl) rfl rfl (H.fix 14 rfl rfl) (show 0 ≤ a1 ∧ a1 < ((65536 : Nat) : Int) by omega) (by decide) (fun v178 ev178 qv178 => ?_)
          have qv178 : (0 : Int) ≤ v178 ∧ v178 ≤ 255 := qv178
          have ev178 : (A 14) (a1) = v178 := (congrFun ((funext (hA173 14 rfl)).trans ((funext (hA_26 14 rfl)).trans (funext (hA_c21 14 rfl)))) (a1)).symm.trans ev178
          refine w_inv H (o := 6) rfl rfl rfl (H.perm 6 rfl) rfl rfl (by rfl) (M392 H (y175) ((ey176)) (A171 70) (rfl) (show inr (v178) by omega) (show 0 ≤ (y175) ∧ (y175) ≤ 99999999 by omega) (fun σ F179 A180 H hS181 hA182 y184 ey185 wq186 ewq187 pz183_0 pz183_1 => ⟨rfl, ?_⟩))
          have r188 : (0 : Int) ≤ y184 ∧ y184 ≤ 100000000 := by have h1 : (0 : Int) ≤ F179 6 37 ∧ F179 6 37 ≤ 100000000 := H.frng 6 37; rw [show F179 6 37 = y184 from (ey185)] at h1; exact h1
          refine Ew_of (pc' := 101) (fun _ => x_aload_n rfl l26_0) ?_
          refine w_gT H (o := 6) (t := 87) rfl (H.perm 6 rfl) rfl rfl rfl rfl rfl rfl ?_
          refine Ew_of (pc' := 105) (fun _ => x_iconst rfl) ?_
          refine Ew_of (pc' := 106) (fun _ => x_dup2 rfl rfl rfl) ?_
          refine w_lI H (o := 87) (n := 12) rfl (H.perm 87 rfl) rfl rfl (H.fix 87 rfl rfl) (show 0 ≤ 1 ∧ 1 < ((12 : Nat) : Int) by omega) (by decide) (fun v189 ev189 qv189 => ?_)
          have qv189 : (-2147483648 : Int) ≤ v189 ∧ v189 ≤ 2147483647 := qv189
          have ev189 : (A 87) (1) = v189 := (congrFun ((funext (hA182 87 rfl)).trans ((funext (hA173 87 rfl)).trans ((funext (hA_26 87 rfl)).trans (funext (hA_c21 87 rfl))))) (1)).symm.trans ev189
          refine Ew_of (pc' := 108) (fun _ => x_iconst rfl) ?_
          refine w_iaddA rfl (fun z190 gz190 => ?_)
          refine w_sI H (o := 87) (n := 12) rfl (H.perm 87 rfl) rfl rfl (H.fix 87 rfl rfl) (show 0 ≤ 1 ∧ 1 < ((12 : Nat) : Int) by omega) (by decide) (show (-2147483648 : Int) ≤ z190 ∧ z190 ≤ 2147483647 by omega) (fun σ H => ?_)
          exact w_ret rfl (k σ _ _ H (SF_trans (SF_trans (SF_trans (SF_trans (SF_refl) hS_c21 (any_sub rfl)) hS_26 (any_sub rfl)) hS172 (any_sub rfl)) hS181 (any_sub rfl)) (SA_upd (SA_trans (SA_trans (SA_trans (SA_trans (SA_refl) hA_c21 (any_subA rfl)) hA_26 (any_subA rfl)) hA173 (any_subA rfl)) hA182 (any_subA rfl)) rfl) (u6_12) ((((((hS181 6 12 rfl).trans (hS172 6 12 rfl)).trans (hS_26 6 12 rfl)).trans (hS_c21 6 12 rfl)).trans (eu6_12))) (y184) ((ey185)) (w53) ((funext (hA182 53 rfl)).trans ((funext (hA173 53 rfl)).trans ((funext (hA_26 53 rfl)).trans ((funext (hA_c21 53 rfl)).trans (ew53))))) (w54) ((funext (hA182 54 rfl)).trans ((funext (hA173 54 rfl)).trans ((funext (hA_26 54 rfl)).trans ((funext (hA_c21 54 rfl)).trans (ew54))))) (w55) ((funext (hA182 55 rfl)).trans ((funext (hA173 55 rfl)).trans ((funext (hA_26 55 rfl)).trans ((funext (hA_c21 55 rfl)).trans (ew55))))) (show (u6_37) ≤ (y184) ∧ (y184) ≤ (u6_37) + 4 + (a2 - a1) by omega) (show WC ((u6_12)) ((w53)) by assumption) (show WO ((w54)) ((w55)) by assumption))
      · refine Ew_of (pc' := 34) (fun _ => x_iload rfl l26_6) ?_
        refine w_ifeq (t := 63) rfl rfl (show inr (x26_6) by omega) (fun b191 => ?_) (fun b191 => ?_)
        · refine Ew_of (pc' := 64) (fun _ => x_iconst rfl) ?_
          refine Ew_of (pc' := 66) (fun _ => x_istore rfl) ?_
          refine Ew_of (pc' := 69) (fun _ => x_iinc (len := 3) rfl (rk_o (l26_7) rfl rfl)) ?_
          refine Ew_of (pc' := 26) (fun _ => x_goto rfl rfl) ?_
          exact ih26 _ (by omega) _ σ _ _ (0) ((x26_7 + 1)) (rk_o (rk_o (l26_0) rfl rfl) rfl rfl) (rk_o (rk_o (l26_1) rfl rfl) rfl rfl) (rk_o (rk_o (l26_2) rfl rfl) rfl rfl) (rk_o (rk_o (l26_3) rfl rfl) rfl rfl) (rk_o (rk_o (l26_4) rfl rfl) rfl rfl) (rk_o (rk_o (l26_5) rfl rfl) rfl rfl) (rk_o (rk_s) rfl rfl) (rk_s) H (hS_26) (hA_26)   (show inr (0) by omega) (show inr ((x26_7 + 1)) by omega) (show (a1) ≤ ((x26_7 + 1)) ∧ ((x26_7 + 1)) ≤ (a2) by omega) (show (0) = 0 ∨ (0) = 1 ∧ (a1) < (a2) by omega) rfl
        · refine Ew_of (pc' := 38) (fun _ => x_aload_n rfl l26_0) ?_
          refine w_gT H (o := 6) (t := 1) rfl (H.perm 6 rfl) rfl rfl rfl rfl rfl rfl ?_
          refine w_gT H (o := 1) (t := 14) rfl (H.perm 1 rfl) rfl rfl rfl rfl rfl rfl ?_
          refine Ew_of (pc' := 46) (fun _ => x_iload rfl l26_7) ?_
          refine w_lI H (o := 14) (n := 65536) rfl (H.perm 14 rfl) rfl rfl (H.fix 14 rfl rfl) (show 0 ≤ x26_7 ∧ x26_7 < ((65536 : Nat) : Int) by omega) (by decide) (fun v192 ev192 qv192 => ?_)
          have qv192 : (0 : Int) ≤ v192 ∧ v192 ≤ 255 := qv192
          have ev192 : (A 14) (x26_7) = v192 := (congrFun ((funext (hA_26 14 rfl)).trans (funext (hA_c21 14 rfl))) (x26_7)).symm.trans ev192
          refine Ew_of (pc' := 48) (fun _ => x_aload_n rfl l26_0) ?_
          refine w_gT H (o := 6) (t := 1) rfl (H.perm 6 rfl) rfl rfl rfl rfl rfl rfl ?_
          refine w_gT H (o := 1) (t := 14) rfl (H.perm 1 rfl) rfl rfl rfl rfl rfl rfl ?_
          refine Ew_of (pc' := 55) (fun _ => x_iload_n rfl l26_1) ?_
          refine w_lI H (o := 14) (n := 65536) rfl (H.perm 14 rfl) rfl rfl (H.fix 14 rfl rfl) (show 0 ≤ a1 ∧ a1 < ((65536 : Nat) : Int) by omega) (by decide) (fun v193 ev193 qv193 => ?_)
          have qv193 : (0 : Int) ≤ v193 ∧ v193 ≤ 255 := qv193
          have ev193 : (A 14) (a1) = v193 := (congrFun ((funext (hA_26 14 rfl)).trans (funext (hA_c21 14 rfl))) (a1)).symm.trans ev193
          refine w_icmpne (t := 63) rfl rfl (show inr (v192) by omega) (show inr (v193) by omega) (fun b194 => ?_) (fun b194 => ?_)
          · refine Ew_of (pc' := 64) (fun _ => x_iconst rfl) ?_
            refine Ew_of (pc' := 66) (fun _ => x_istore rfl) ?_
            refine Ew_of (pc' := 69) (fun _ => x_iinc (len := 3) rfl (rk_o (l26_7) rfl rfl)) ?_
            refine Ew_of (pc' := 26) (fun _ => x_goto rfl rfl) ?_
            exact ih26 _ (by omega) _ σ _ _ (0) ((x26_7 + 1)) (rk_o (rk_o (l26_0) rfl rfl) rfl rfl) (rk_o (rk_o (l26_1) rfl rfl) rfl rfl) (rk_o (rk_o (l26_2) rfl rfl) rfl rfl) (rk_o (rk_o (l26_3) rfl rfl) rfl rfl) (rk_o (rk_o (l26_4) rfl rfl) rfl rfl) (rk_o (rk_o (l26_5) rfl rfl) rfl rfl) (rk_o (rk_s) rfl rfl) (rk_s) H (hS_26) (hA_26)   (show inr (0) by omega) (show inr ((x26_7 + 1)) by omega) (show (a1) ≤ ((x26_7 + 1)) ∧ ((x26_7 + 1)) ≤ (a2) by omega) (show (0) = 0 ∨ (0) = 1 ∧ (a1) < (a2) by omega) rfl
          · refine Ew_of (pc' := 60) (fun _ => x_iconst rfl) ?_
            refine Ew_of (pc' := 64) (fun _ => x_goto rfl rfl) ?_
            refine Ew_of (pc' := 66) (fun _ => x_istore rfl) ?_
            refine Ew_of (pc' := 69) (fun _ => x_iinc (len := 3) rfl (rk_o (l26_7) rfl rfl)) ?_
            refine Ew_of (pc' := 26) (fun _ => x_goto rfl rfl) ?_
            exact ih26 _ (by omega) _ σ _ _ (1) ((x26_7 + 1)) (rk_o (rk_o (l26_0) rfl rfl) rfl rfl) (rk_o (rk_o (l26_1) rfl rfl) rfl rfl) (rk_o (rk_o (l26_2) rfl rfl) rfl rfl) (rk_o (rk_o (l26_3) rfl rfl) rfl rfl) (rk_o (rk_o (l26_4) rfl rfl) rfl rfl) (rk_o (rk_o (l26_5) rfl rfl) rfl rfl) (rk_o (rk_s) rfl rfl) (rk_s) H (hS_26) (hA_26)   (show inr (1) by omega) (show inr ((x26_7 + 1)) by omega) (show (a1) ≤ ((x26_7 + 1)) ∧ ((x26_7 + 1)) ≤ (a2) by omega) (show (1) = 0 ∨ (1) = 1 ∧ (a1) < (a2) by omega) rfl
  refine w_ifle (t := 20) rfl rfl (show inr ((a2 - a1)) by omega) (fun b195 => ?_) (fun b195 => ?_)
  · refine Ew_of (pc' := 21) (fun _ => x_iconst rfl) ?_
    exact hc21 (0) _ σ _ _  (rk_o (rk_o (rfl) rfl rfl) rfl rfl) (rk_o (rk_o (rfl) rfl rfl) rfl rfl) (rk_o (rk_o (rfl) rfl rfl) rfl rfl) (rk_o (rk_o (rfl) rfl rfl) rfl rfl) (rk_o (rk_s) rfl rfl) (rk_s) H (SF_refl) (SA_refl)   (show inr (0) by omega) (show (((a2 - a1)) ≤ (0) ∧ (0) = (0)) ∨ (((a2 - a1)) > (0) ∧ (0) = (1)) by omega)
  · refine Ew_of (pc' := 17) (fun _ => x_iconst rfl) ?_
    refine Ew_of (pc' := 21) (fun _ => x_goto rfl rfl) ?_
    exact hc21 (1) _ σ _ _  (rk_o (rk_o (rfl) rfl rfl) rfl rfl) (rk_o (rk_o (rfl) rfl rfl) rfl rfl) (rk_o (rk_o (rfl) rfl rfl) rfl rfl) (rk_o (rk_o (rfl) rfl rfl) rfl rfl) (rk_o (rk_s) rfl rfl) (rk_s) H (SF_refl) (SA_refl)   (show inr (1) by omega) (show (((a2 - a1)) ≤ (0) ∧ (1) = (0)) ∨ (((a2 - a1)) > (0) ∧ (1) = (1)) by omega)
