/-- Writer.sayBlock -/
theorem M449 {σ0 σ : rS} {D N : Nat → Nat} {F : hF} {A : hA} {d c s : Nat} {Q : wQ} (H : HS σ0 σ D N F A) {a1 a2 a3 : Int} (u1_1 : Int) (eu1_1 : F 1 1 = u1_1) (u6_2 : Int) (eu6_2 : F 6 2 = u6_2) (u6_4 : Int) (eu6_4 : F 6 4 = u6_4) (u6_12 : Int) (eu6_12 : F 6 12 = u6_12) (u6_37 : Int) (eu6_37 : F 6 37 = u6_37) (w53 : Int → Int) (ew53 : A 53 = w53) (w54 : Int → Int) (ew54 : A 54 = w54) (w55 : Int → Int) (ew55 : A 55 = w55) (h0 : inr (a1)) (h1 : inr (a2)) (h2 : inr (a3)) (h3 : (a3) = 0 ∨ (a3) = 1) (h4 : 0 ≤ (a1) ∧ (a1) ≤ (a2) ∧ (a2) ≤ (u1_1)) (h5 : 0 ≤ (u6_37) ∧ (u6_37) ≤ 40000000) (h6 : 3 ≤ (u6_2)) (h7 : 0 ≤ (u6_4) ∧ (u6_4) + (u1_1) ≤ 16384) (h8 : WC ((u6_12)) ((w53))) (h9 : WO ((w54)) ((w55))) (k : ∀ σ Fₚ Aₚ, HS σ0 σ D N Fₚ Aₚ → SF [(6, 12), (6, 17), (6, 22), (6, 23), (6, 28), (6, 30), (6, 35), (6, 37), (6, 49), (6, 53)] F Fₚ → SA [53, 54, 55, 56, 57, 58, 59, 60, 61, 62, 63, 64, 65, 66, 67, 68, 69, 70, 71, 72, 73, 74, 75, 76, 77, 78, 79, 80, 81, 82, 83, 84, 85, 87] A Aₚ → ∀ y6_12 : Int, Fₚ 6 12 = y6_12 → ∀ y6_37 : Int, Fₚ 6 37 = y6_37 → ∀ v53 : Int → Int, Aₚ 53 = v53 → ∀ v54 : Int → Int, Aₚ 54 = v54 → ∀ v55 : Int → Int, Aₚ 55 = v55 → ((u6_37) ≤ (y6_37) ∧ (y6_37) ≤ (u6_37) + 4 + ((a2) - (a1))) → (WC ((y6_12)) ((v53))) → (WO ((v54)) ((v55))) → Q none σ c s) : Ew 449 (d + 7) 0 (rargs 0 [.ref (D 6), I a1, I a2, I a3]) [] σ c s Q := by
  have r1 : (0 : Int) ≤ u1_1 ∧ u1_1 ≤ 65536 := rngE (show (0 : Int) ≤ F 1 1 ∧ F 1 1 ≤ 65536 from H.frng 1 1) (show F 1 1 = u1_1 from (eu1_1))
  have r2 : (0 : Int) ≤ u6_2 ∧ u6_2 ≤ 8 := rngE (show (0 : Int) ≤ F 6 2 ∧ F 6 2 ≤ 8 from H.frng 6 2) (show F 6 2 = u6_2 from (eu6_2))
  have r3 : (0 : Int) ≤ u6_4 ∧ u6_4 ≤ 65536 := rngE (show (0 : Int) ≤ F 6 4 ∧ F 6 4 ≤ 65536 from H.frng 6 4) (show F 6 4 = u6_4 from (eu6_4))
  have r4 : (0 : Int) ≤ u6_12 ∧ u6_12 ≤ 11 := rngE (show (0 : Int) ≤ F 6 12 ∧ F 6 12 ≤ 11 from H.frng 6 12) (show F 6 12 = u6_12 from (eu6_12))
  have r5 : (0 : Int) ≤ u6_37 ∧ u6_37 ≤ 100000000 := rngE (show (0 : Int) ≤ F 6 37 ∧ F 6 37 ≤ 100000000 from H.frng 6 37) (show F 6 37 = u6_37 from (eu6_37))
  refine Ew_of (pcₚ := 1) (fun _ => x_aload_n rfl rfl) ?_
  refine w_gI H (o := 6) (w := u6_37) rfl (H.perm 6 rfl) rfl rfl rfl (fun _ => rfl) (eu6_37) ?_
  refine Ew_of (pcₚ := 6) (fun _ => x_istore rfl) ?_
  refine Ew_of (pcₚ := 7) (fun _ => x_iload_n rfl (rk_o (rfl) rfl rfl)) ?_
  refine Ew_of (pcₚ := 8) (fun _ => x_iload_n rfl (rk_o (rfl) rfl rfl)) ?_
  refine w_isub rfl ?_
  refine Ew_of (pcₚ := 11) (fun _ => x_istore rfl) ?_
  refine Ew_of (pcₚ := 13) (fun _ => x_iload rfl rk_s) ?_
  have hc21 : ∀ (tc21_0 : Int), ∀ (ls : rO) (σ : rS) (F_c21 : hF) (A_c21 : hA) , rlook ls 0 = some (.ref (D 6)) → rlook ls 1 = some (I (a1)) → rlook ls 2 = some (I (a2)) → rlook ls 3 = some (I (a3)) → rlook ls 4 = some (I (u6_37)) → rlook ls 5 = some (I ((a2 - a1))) → HS σ0 σ D N F_c21 A_c21 → SF [] F F_c21 → SA [] A A_c21 → (inr (tc21_0)) → ((((a2 - a1)) ≤ (0) ∧ (tc21_0) = (0)) ∨ (((a2 - a1)) > (0) ∧ (tc21_0) = (1))) → Ew 449 (d + 7) 21 ls [I (tc21_0)] σ c s Q := by
   as_aux_lemma =>
    intro tc21_0 ls σ F_c21 A_c21  lc21_0 lc21_1 lc21_2 lc21_3 lc21_4 lc21_5 H hS_c21 hA_c21   jc21_0 jc21_1
    refine Ew_of (pcₚ := 23) (fun _ => x_istore rfl) ?_
    refine Ew_of (pcₚ := 24) (fun _ => x_iload_n rfl (rk_o (lc21_1) rfl rfl)) ?_
    refine Ew_of (pcₚ := 26) (fun _ => x_istore rfl) ?_
    suffices hl26 : ∀ (m : Nat), ∀ (ls : rO) (σ : rS) (F_26 : hF) (A_26 : hA) (x26_6 : Int) (x26_7 : Int), rlook ls 0 = some (.ref (D 6)) → rlook ls 1 = some (I (a1)) → rlook ls 2 = some (I (a2)) → rlook ls 3 = some (I (a3)) → rlook ls 4 = some (I (u6_37)) → rlook ls 5 = some (I ((a2 - a1))) → rlook ls 6 = some (I (x26_6)) → rlook ls 7 = some (I (x26_7)) → HS σ0 σ D N F_26 A_26 → SF [] F_c21 F_26 → SA [] A_c21 A_26 → (inr (x26_6)) → (inr (x26_7)) → ((a1) ≤ (x26_7) ∧ (x26_7) ≤ (a2)) → ((x26_6) = 0 ∨ (x26_6) = 1 ∧ (a1) < (a2)) → ((a2) - (x26_7)).toNat = m → Ew 449 (d + 7) 26 ls [] σ c s Q from
      hl26 _ _ σ _ _ (tc21_0) (a1) (rk_o (rk_o (lc21_0) rfl rfl) rfl rfl) (rk_o (rk_o (lc21_1) rfl rfl) rfl rfl) (rk_o (rk_o (lc21_2) rfl rfl) rfl rfl) (rk_o (rk_o (lc21_3) rfl rfl) rfl rfl) (rk_o (rk_o (lc21_4) rfl rfl) rfl rfl) (rk_o (rk_o (lc21_5) rfl rfl) rfl rfl) (rk_o (rk_s) rfl rfl) (rk_s) H (SF_refl) (SA_refl)   (show inr (tc21_0) from jc21_0) (show inr (a1) from h0) (show (a1) ≤ (a1) ∧ (a1) ≤ (a2) from q_2385 h4) (show (tc21_0) = 0 ∨ (tc21_0) = 1 ∧ (a1) < (a2) by omega) rfl
    as_aux_lemma =>
    intro m
    induction m using Nat.strongRecOn with
    | _ m ih26 =>
      intro ls σ F_26 A_26 x26_6 x26_7 l26_0 l26_1 l26_2 l26_3 l26_4 l26_5 l26_6 l26_7 H hS_26 hA_26   j26_0 j26_1 j26_2 j26_3 hm26
      refine Ew_of (pcₚ := 28) (fun _ => x_iload rfl l26_7) ?_
      refine Ew_of (pcₚ := 29) (fun _ => x_iload_n rfl l26_2) ?_
      refine w_icmpge (t := 72) rfl rfl (show inr (x26_7) from j26_1) (show inr (a2) from h1) (fun b6 => ?_) (fun b6 => ?_)
      · refine Ew_of (pcₚ := 74) (fun _ => x_iload rfl l26_6) ?_
        refine w_ifeq (t := 111) rfl rfl (show inr (x26_6) from j26_0) (fun b7 => ?_) (fun b7 => ?_)
        · refine Ew_of (pcₚ := 112) (fun _ => x_aload_n rfl l26_0) ?_
          refine w_inv H (o := 6) rfl rfl rfl (H.perm 6 rfl) rfl rfl (by rfl) (M445 H (u6_12) ((((hS_26 6 12 rfl).trans (hS_c21 6 12 rfl)).trans (eu6_12))) (w53) ((funext (hA_26 53 rfl)).trans ((funext (hA_c21 53 rfl)).trans (ew53))) (w54) ((funext (hA_26 54 rfl)).trans ((funext (hA_c21 54 rfl)).trans (ew54))) (w55) ((funext (hA_26 55 rfl)).trans ((funext (hA_c21 55 rfl)).trans (ew55))) (show WC ((u6_12)) ((w53)) from h8) (show WO ((w54)) ((w55)) from h9) (fun σ F8 A9 H hS10 hA11 y13 ey14 wq15 ewq16 wq17 ewq18 wq19 ewq20 pz12_0 pz12_1 => ⟨rfl, ?_⟩))
          have r21 : (0 : Int) ≤ y13 ∧ y13 ≤ 11 := rngE (show (0 : Int) ≤ F8 6 17 ∧ F8 6 17 ≤ 11 from H.frng 6 17) (show F8 6 17 = y13 from (ey14))
          refine Ew_of (pcₚ := 116) (fun _ => x_aload_n rfl l26_0) ?_
          refine Ew_of (pcₚ := 117) (fun _ => x_lconst (z := 0) rfl (by decide)) ?_
          refine Ew_of (pcₚ := 118) (fun _ => x_iconst rfl) ?_
          refine w_inv H (o := 6) rfl rfl rfl (H.perm 6 rfl) rfl rfl (by rfl) (M393 H (u6_37) (((((hS10 6 37 rfl).trans (hS_26 6 37 rfl)).trans (hS_c21 6 37 rfl)).trans (eu6_37))) (show inrJ (0) from q_81) (show inr (3) from q_66) (show 0 ≤ (3) ∧ (3) ≤ 8 from q_1880) (show 0 ≤ (u6_37) ∧ (u6_37) ≤ 90000000 from q_2386 h5 r5) (fun σ F22 A23 H hS24 hA25 y27 ey28 pz26_0 => ⟨rfl, ?_⟩))
          have r29 : (0 : Int) ≤ y27 ∧ y27 ≤ 100000000 := rngE (show (0 : Int) ≤ F22 6 37 ∧ F22 6 37 ≤ 100000000 from H.frng 6 37) (show F22 6 37 = y27 from (ey28))
          refine Ew_of (pcₚ := 122) (fun _ => x_aload_n rfl l26_0) ?_
          refine Ew_of (pcₚ := 123) (fun _ => x_iconst rfl) ?_
          refine w_pI H (o := 6) rfl rfl (H.perm 6 rfl) rfl rfl rfl (fun _ => rfl) rfl (show (0 : Int) ≤ 0 ∧ 0 ≤ 16384 from q_1789) (fun σ H => ?_)
          refine Ew_of (pcₚ := 127) (fun _ => x_iconst rfl) ?_
          refine Ew_of (pcₚ := 129) (fun _ => x_istore rfl) ?_
          suffices hl129 : ∀ (m : Nat), ∀ (ls : rO) (σ : rS) (F_129 : hF) (A_129 : hA) (x129_7 : Int), rlook ls 0 = some (.ref (D 6)) → rlook ls 1 = some (I (a1)) → rlook ls 2 = some (I (a2)) → rlook ls 3 = some (I (a3)) → rlook ls 4 = some (I (u6_37)) → rlook ls 5 = some (I ((a2 - a1))) → rlook ls 7 = some (I (x129_7)) → HS σ0 σ D N F_129 A_129 → SF [(6, 22)] (updF F22 6 22 (0)) F_129 → SA [61] A23 A_129 → ∀ y129_6_22 : Int, F_129 6 22 = y129_6_22 → (inr (x129_7)) → ((0) ≤ (x129_7)) → ((x129_7) ≤ (0) ∨ (x129_7) ≤ ((u6_4))) → ((y129_6_22) = (x129_7)) → (((u6_4)) - (x129_7)).toNat = m → Ew 449 (d + 7) 129 ls [] σ c s Q from
            hl129 _ _ σ _ _ (0) (rk_o (l26_0) rfl rfl) (rk_o (l26_1) rfl rfl) (rk_o (l26_2) rfl rfl) (rk_o (l26_3) rfl rfl) (rk_o (l26_4) rfl rfl) (rk_o (l26_5) rfl rfl) (rk_s) H (SF_refl) (SA_refl) (0) (rfl)  (show inr (0) from q_20) (show (0) ≤ (0) from q_25) (show (0) ≤ (0) ∨ (0) ≤ ((u6_4)) from q_24) (show (0) = (0) from q_64) rfl
          as_aux_lemma =>
          intro m
          induction m using Nat.strongRecOn with
          | _ m ih129 =>
            intro ls σ F_129 A_129 x129_7 l129_0 l129_1 l129_2 l129_3 l129_4 l129_5 l129_7 H hS_129 hA_129 y129_6_22 ey129_6_22  j129_0 j129_1 j129_2 j129_3 hm129
            have r30 : (0 : Int) ≤ y129_6_22 ∧ y129_6_22 ≤ 16384 := rngE (show (0 : Int) ≤ F_129 6 22 ∧ F_129 6 22 ≤ 16384 from H.frng 6 22) (show F_129 6 22 = y129_6_22 from (ey129_6_22))
            refine Ew_of (pcₚ := 131) (fun _ => x_iload rfl l129_7) ?_
            refine Ew_of (pcₚ := 132) (fun _ => x_aload_n rfl l129_0) ?_
            refine w_gI H (o := 6) (w := u6_4) rfl (H.perm 6 rfl) rfl rfl rfl (fun _ => rfl) ((((((hS_129 6 4 rfl).trans (hS24 6 4 rfl)).trans (hS10 6 4 rfl)).trans (hS_26 6 4 rfl)).trans (hS_c21 6 4 rfl)).trans (eu6_4)) ?_
            refine w_icmpge (t := 170) rfl rfl (show inr (x129_7) from j129_0) (show inr (u6_4) from q_12 r3) (fun b31 => ?_) (fun b31 => ?_)
            · refine Ew_of (pcₚ := 171) (fun _ => x_iconst rfl) ?_
              refine Ew_of (pcₚ := 173) (fun _ => x_istore rfl) ?_
              suffices hl173 : ∀ (m : Nat), ∀ (ls : rO) (σ : rS) (F_173 : hF) (A_173 : hA) (x173_7 : Int), rlook ls 0 = some (.ref (D 6)) → rlook ls 1 = some (I (a1)) → rlook ls 2 = some (I (a2)) → rlook ls 3 = some (I (a3)) → rlook ls 4 = some (I (u6_37)) → rlook ls 5 = some (I ((a2 - a1))) → rlook ls 7 = some (I (x173_7)) → HS σ0 σ D N F_173 A_173 → SF [(6, 22)] F_129 F_173 → SA [61] A_129 A_173 → ∀ y173_6_22 : Int, F_173 6 22 = y173_6_22 → (inr (x173_7)) → ((0) ≤ (x173_7)) → ((x173_7) ≤ (0) ∨ (x173_7) ≤ ((a2))) → ((y173_6_22) = (u6_4) + (x173_7)) → (((a2)) - (x173_7)).toNat = m → Ew 449 (d + 7) 173 ls [] σ c s Q from
                hl173 _ _ σ _ _ (0) (rk_o (l129_0) rfl rfl) (rk_o (l129_1) rfl rfl) (rk_o (l129_2) rfl rfl) (rk_o (l129_3) rfl rfl) (rk_o (l129_4) rfl rfl) (rk_o (l129_5) rfl rfl) (rk_s) H (SF_refl) (SA_refl) (y129_6_22) ((ey129_6_22))  (show inr (0) from q_20) (show (0) ≤ (0) from q_25) (show (0) ≤ (0) ∨ (0) ≤ ((a2)) from q_24) (show (y129_6_22) = (u6_4) + (0) from q_2387 b31 j129_2 j129_3 r3) rfl
              as_aux_lemma =>
              intro m
              induction m using Nat.strongRecOn with
              | _ m ih173 =>
                intro ls σ F_173 A_173 x173_7 l173_0 l173_1 l173_2 l173_3 l173_4 l173_5 l173_7 H hS_173 hA_173 y173_6_22 ey173_6_22  j173_0 j173_1 j173_2 j173_3 hm173
                have r32 : (0 : Int) ≤ y173_6_22 ∧ y173_6_22 ≤ 16384 := rngE (show (0 : Int) ≤ F_173 6 22 ∧ F_173 6 22 ≤ 16384 from H.frng 6 22) (show F_173 6 22 = y173_6_22 from (ey173_6_22))
                refine Ew_of (pcₚ := 175) (fun _ => x_iload rfl l173_7) ?_
                refine Ew_of (pcₚ := 176) (fun _ => x_iload_n rfl l173_2) ?_
                refine w_icmpge (t := 214) rfl rfl (show inr (x173_7) from j173_0) (show inr (a2) from h1) (fun b33 => ?_) (fun b33 => ?_)
                · refine Ew_of (pcₚ := 216) (fun _ => x_bipush (z := 8) rfl (by decide)) ?_
                  refine Ew_of (pcₚ := 218) (fun _ => x_istore rfl) ?_
                  suffices hl218 : ∀ (m : Nat), ∀ (ls : rO) (σ : rS) (F_218 : hF) (A_218 : hA) (x218_7 : Int), rlook ls 0 = some (.ref (D 6)) → rlook ls 1 = some (I (a1)) → rlook ls 2 = some (I (a2)) → rlook ls 3 = some (I (a3)) → rlook ls 4 = some (I (u6_37)) → rlook ls 5 = some (I ((a2 - a1))) → rlook ls 7 = some (I (x218_7)) → HS σ0 σ D N F_218 A_218 → SF [] F_173 F_218 → SA [85] A_173 A_218 → (inr (x218_7)) → ((8) ≤ (x218_7)) → ((x218_7) ≤ (8) ∨ (x218_7) ≤ ((12))) → (((12)) - (x218_7)).toNat = m → Ew 449 (d + 7) 218 ls [] σ c s Q from
                    hl218 _ _ σ _ _ (8) (rk_o (l173_0) rfl rfl) (rk_o (l173_1) rfl rfl) (rk_o (l173_2) rfl rfl) (rk_o (l173_3) rfl rfl) (rk_o (l173_4) rfl rfl) (rk_o (l173_5) rfl rfl) (rk_s) H (SF_refl) (SA_refl)   (show inr (8) from q_96) (show (8) ≤ (8) from q_2389) (show (8) ≤ (8) ∨ (8) ≤ ((12)) from q_2388) rfl
                  as_aux_lemma =>
                  intro m
                  induction m using Nat.strongRecOn with
                  | _ m ih218 =>
                    intro ls σ F_218 A_218 x218_7 l218_0 l218_1 l218_2 l218_3 l218_4 l218_5 l218_7 H hS_218 hA_218   j218_0 j218_1 j218_2 hm218
                    refine Ew_of (pcₚ := 220) (fun _ => x_iload rfl l218_7) ?_
                    refine Ew_of (pcₚ := 222) (fun _ => x_bipush (z := 12) rfl (by decide)) ?_
                    refine w_icmpge (t := 245) rfl rfl (show inr (x218_7) from j218_0) (show inr (12) from q_356) (fun b34 => ?_) (fun b34 => ?_)
                    · refine Ew_of (pcₚ := 246) (fun _ => x_aload_n rfl l218_0) ?_
                      refine Ew_of (pcₚ := 247) (fun _ => x_aload_n rfl l218_0) ?_
                      refine w_gI H (o := 6) (w := u6_4) rfl (H.perm 6 rfl) rfl rfl rfl (fun _ => rfl) ((((((((hS_218 6 4 rfl).trans (hS_173 6 4 rfl)).trans (hS_129 6 4 rfl)).trans (hS24 6 4 rfl)).trans (hS10 6 4 rfl)).trans (hS_26 6 4 rfl)).trans (hS_c21 6 4 rfl)).trans (eu6_4)) ?_
                      refine Ew_of (pcₚ := 251) (fun _ => x_iload_n rfl l218_1) ?_
                      refine w_iadd rfl ?_
                      refine w_inv H (o := 6) rfl rfl rfl (H.perm 6 rfl) rfl rfl (by rfl) (M399b H (u6_2) (((((((((hS_218 6 2 rfl).trans (hS_173 6 2 rfl)).trans (hS_129 6 2 rfl)).trans (hS24 6 2 rfl)).trans (hS10 6 2 rfl)).trans (hS_26 6 2 rfl)).trans (hS_c21 6 2 rfl)).trans (eu6_2))) (y173_6_22) (((hS_218 6 22 rfl).trans (ey173_6_22))) (show inr ((u6_4 + a1)) from q_2391 h4 h7 r3) (show 0 ≤ ((u6_4 + a1)) ∧ ((u6_4 + a1)) ≤ (y173_6_22) from q_2390 b33 h4 j173_3 r3) (show 3 ≤ (u6_2) from h6) (fun σ F35 A36 H hS37 hA38 y40 ey41 y42 ey43 wq44 ewq45 wq46 ewq47 pz39_0 pz39_1 => ⟨rfl, ?_⟩))
                      have r48 : (0 : Int) ≤ y40 ∧ y40 ≤ 8001 := rngE (show (0 : Int) ≤ F35 6 28 ∧ F35 6 28 ≤ 8001 from H.frng 6 28) (show F35 6 28 = y40 from (ey41))
                      have r49 : (0 : Int) ≤ y42 ∧ y42 ≤ 16385 := rngE (show (0 : Int) ≤ F35 6 30 ∧ F35 6 30 ≤ 16385 from H.frng 6 30) (show F35 6 30 = y42 from (ey43))
                      have hgo := pz39_1
                      refine Ew_of (pcₚ := 256) (fun _ => x_aload_n rfl l218_0) ?_
                      refine w_inv H (o := 6) rfl rfl rfl (H.perm 6 rfl) rfl rfl (by rfl) (M434 H (u6_12) ((((((((((hS37 6 12 rfl).trans (hS_218 6 12 rfl)).trans (hS_173 6 12 rfl)).trans (hS_129 6 12 rfl)).trans (hS24 6 12 rfl)).trans (hS10 6 12 rfl)).trans (hS_26 6 12 rfl)).trans (hS_c21 6 12 rfl)).trans (eu6_12))) (y27) ((((((hS37 6 37 rfl).trans (hS_218 6 37 rfl)).trans (hS_173 6 37 rfl)).trans (hS_129 6 37 rfl)).trans (ey28))) (w53) ((funext (hA38 53 rfl)).trans ((funext (hA_218 53 rfl)).trans ((funext (hA_173 53 rfl)).trans ((funext (hA_129 53 rfl)).trans ((funext (hA25 53 rfl)).trans ((funext (hA11 53 rfl)).trans ((funext (hA_26 53 rfl)).trans ((funext (hA_c21 53 rfl)).trans (ew53))))))))) (show WC ((u6_12)) ((w53)) from h8) (show 0 ≤ (y27) ∧ (y27) ≤ 50000000 by omega) (fun z54 σ F50 A51 H hS52 hA53 y55 ey56 y57 ey58 wq59 ewq60 pz54_0 pz54_1 pz54_2 pz54_3 => ⟨rfl, ?_⟩))
                      have r61 : (0 : Int) ≤ y55 ∧ y55 ≤ 11 := rngE (show (0 : Int) ≤ F50 6 12 ∧ F50 6 12 ≤ 11 from H.frng 6 12) (show F50 6 12 = y55 from (ey56))
                      have r62 : (0 : Int) ≤ y57 ∧ y57 ≤ 100000000 := rngE (show (0 : Int) ≤ F50 6 37 ∧ F50 6 37 ≤ 100000000 from H.frng 6 37) (show F50 6 37 = y57 from (ey58))
                      refine Ew_of (pcₚ := 261) (fun _ => x_istore rfl) ?_
                      have : ∀ j, 0 ≤ j → j < (y40) → 3 ≤ ((wq46)) j := hgo.1
                      refine Ew_of (pcₚ := 262) (fun _ => x_aload_n rfl (rk_o (l218_0) rfl rfl)) ?_
                      refine w_inv H (o := 6) rfl rfl rfl (H.perm 6 rfl) rfl rfl (by rfl) (M404b H (y40) (((hS52 6 28 rfl).trans (ey41))) (wq44) ((funext (hA53 62 rfl)).trans (ewq45)) (wq46) ((funext (hA53 63 rfl)).trans (ewq47)) (show ∀ j, 0 ≤ j → j < (y40) → 3 ≤ ((wq46)) j by assumption) (fun σ F63 A64 H hS65 hA66 wq68 ewq69 wq70 ewq71 pz67_0 => ⟨rfl, ?_⟩))
                      have : GOE ((wq44)) ((wq46)) ((y40)) 16384 := ⟨hgo.1, by have := hgo.2; omega⟩
                      refine Ew_of (pcₚ := 266) (fun _ => x_aload_n rfl (rk_o (l218_0) rfl rfl)) ?_
                      refine w_inv H (o := 6) rfl rfl rfl (H.perm 6 rfl) rfl rfl (by rfl) (M444 H (y40) ((((hS65 6 28 rfl).trans (hS52 6 28 rfl)).trans (ey41))) (y57) (((hS65 6 37 rfl).trans (ey58))) (w54) ((funext (hA66 54 rfl)).trans ((funext (hA53 54 rfl)).trans ((funext (hA38 54 rfl)).trans ((funext (hA_218 54 rfl)).trans ((funext (hA_173 54 rfl)).trans ((funext (hA_129 54 rfl)).trans ((funext (hA25 54 rfl)).trans ((funext (hA11 54 rfl)).trans ((funext (hA_26 54 rfl)).trans ((funext (hA_c21 54 rfl)).trans (ew54))))))))))) (w55) ((funext (hA66 55 rfl)).trans ((funext (hA53 55 rfl)).trans ((funext (hA38 55 rfl)).trans ((funext (hA_218 55 rfl)).trans ((funext (hA_173 55 rfl)).trans ((funext (hA_129 55 rfl)).trans ((funext (hA25 55 rfl)).trans ((funext (hA11 55 rfl)).trans ((funext (hA_26 55 rfl)).trans ((funext (hA_c21 55 rfl)).trans (ew55))))))))))) (wq44) ((funext (hA66 62 rfl)).trans ((funext (hA53 62 rfl)).trans (ewq45))) (wq46) ((funext (hA66 63 rfl)).trans ((funext (hA53 63 rfl)).trans (ewq47))) (wq68) (ewq69) (wq70) (ewq71) (show WO ((w54)) ((w55)) from h9) (show 0 ≤ (y57) ∧ (y57) ≤ 70000000 by omega) (show TLI ((wq68)) ((wq70)) ((wq44)) ((wq46)) ((y40)) from pz67_0) (show GOE ((wq44)) ((wq46)) ((y40)) 16384 by assumption) (fun σ F72 A73 H hS74 hA75 y77 ey78 wq79 ewq80 wq81 ewq82 pz76_0 pz76_1 => ⟨rfl, ?_⟩))
                      have r83 : (0 : Int) ≤ y77 ∧ y77 ≤ 100000000 := rngE (show (0 : Int) ≤ F72 6 37 ∧ F72 6 37 ≤ 100000000 from H.frng 6 37) (show F72 6 37 = y77 from (ey78))
                      refine Ew_of (pcₚ := 270) (fun _ => x_aload_n rfl (rk_o (l218_0) rfl rfl)) ?_
                      refine w_gI H (o := 6) (w := y77) rfl (H.perm 6 rfl) rfl rfl rfl (fun _ => rfl) (ey78) ?_
                      refine Ew_of (pcₚ := 275) (fun _ => x_iload rfl (rk_o (l218_4) rfl rfl)) ?_
                      refine w_isub rfl ?_
                      refine Ew_of (pcₚ := 277) (fun _ => x_iconst rfl) ?_
                      refine w_isub rfl ?_
                      refine Ew_of (pcₚ := 280) (fun _ => x_istore rfl) ?_
                      refine Ew_of (pcₚ := 282) (fun _ => x_iload rfl rk_s) ?_
                      refine Ew_of (pcₚ := 284) (fun _ => x_iload rfl (rk_o (rk_o (l218_5) rfl rfl) rfl rfl)) ?_
                      refine w_icmpge (t := 334) rfl rfl (show inr (((y77 - u6_37) - 3)) from q_2393 r5 r83) (show inr ((a2 - a1)) from q_2392 h1 h4) (fun b84 => ?_) (fun b84 => ?_)
                      · refine Ew_of (pcₚ := 335) (fun _ => x_aload_n rfl (rk_o (rk_o (l218_0) rfl rfl) rfl rfl)) ?_
                        refine w_inv H (o := 6) rfl rfl rfl (H.perm 6 rfl) rfl rfl (by rfl) (M446 H (y13) ((((((((((hS74 6 17 rfl).trans (hS65 6 17 rfl)).trans (hS52 6 17 rfl)).trans (hS37 6 17 rfl)).trans (hS_218 6 17 rfl)).trans (hS_173 6 17 rfl)).trans (hS_129 6 17 rfl)).trans (hS24 6 17 rfl)).trans (ey14))) (wq15) ((funext (hA75 57 rfl)).trans ((funext (hA66 57 rfl)).trans ((funext (hA53 57 rfl)).trans ((funext (hA38 57 rfl)).trans ((funext (hA_218 57 rfl)).trans ((funext (hA_173 57 rfl)).trans ((funext (hA_129 57 rfl)).trans ((funext (hA25 57 rfl)).trans (ewq16))))))))) (wq17) ((funext (hA75 58 rfl)).trans ((funext (hA66 58 rfl)).trans ((funext (hA53 58 rfl)).trans ((funext (hA38 58 rfl)).trans ((funext (hA_218 58 rfl)).trans ((funext (hA_173 58 rfl)).trans ((funext (hA_129 58 rfl)).trans ((funext (hA25 58 rfl)).trans (ewq18))))))))) (wq19) ((funext (hA75 59 rfl)).trans ((funext (hA66 59 rfl)).trans ((funext (hA53 59 rfl)).trans ((funext (hA38 59 rfl)).trans ((funext (hA_218 59 rfl)).trans ((funext (hA_173 59 rfl)).trans ((funext (hA_129 59 rfl)).trans ((funext (hA25 59 rfl)).trans (ewq20))))))))) (show WC ((y13)) ((wq15)) from pz12_0) (show WO ((wq17)) ((wq19)) from pz12_1) (fun σ F85 A86 H hS87 hA88 y90 ey91 wq92 ewq93 wq94 ewq95 wq96 ewq97 pz89_0 pz89_1 => ⟨rfl, ?_⟩))
                        have r98 : (0 : Int) ≤ y90 ∧ y90 ≤ 11 := rngE (show (0 : Int) ≤ F85 6 12 ∧ F85 6 12 ≤ 11 from H.frng 6 12) (show F85 6 12 = y90 from (ey91))
                        refine Ew_of (pcₚ := 340) (fun _ => x_bipush (z := 8) rfl (by decide)) ?_
                        refine Ew_of (pcₚ := 342) (fun _ => x_istore rfl) ?_
                        suffices hl342 : ∀ (m : Nat), ∀ (ls : rO) (σ : rS) (F_342 : hF) (A_342 : hA) (x342_9 : Int), rlook ls 0 = some (.ref (D 6)) → rlook ls 1 = some (I (a1)) → rlook ls 2 = some (I (a2)) → rlook ls 3 = some (I (a3)) → rlook ls 4 = some (I (u6_37)) → rlook ls 5 = some (I ((a2 - a1))) → rlook ls 9 = some (I (x342_9)) → HS σ0 σ D N F_342 A_342 → SF [] F85 F_342 → SA [87] A86 A_342 → (inr (x342_9)) → ((8) ≤ (x342_9)) → ((x342_9) ≤ (8) ∨ (x342_9) ≤ ((12))) → (((12)) - (x342_9)).toNat = m → Ew 449 (d + 7) 342 ls [] σ c s Q from
                          hl342 _ _ σ _ _ (8) (rk_o (rk_o (rk_o (l218_0) rfl rfl) rfl rfl) rfl rfl) (rk_o (rk_o (rk_o (l218_1) rfl rfl) rfl rfl) rfl rfl) (rk_o (rk_o (rk_o (l218_2) rfl rfl) rfl rfl) rfl rfl) (rk_o (rk_o (rk_o (l218_3) rfl rfl) rfl rfl) rfl rfl) (rk_o (rk_o (rk_o (l218_4) rfl rfl) rfl rfl) rfl rfl) (rk_o (rk_o (rk_o (l218_5) rfl rfl) rfl rfl) rfl rfl) (rk_s) H (SF_refl) (SA_refl)   (show inr (8) from q_96) (show (8) ≤ (8) from q_2389) (show (8) ≤ (8) ∨ (8) ≤ ((12)) from q_2388) rfl
                        as_aux_lemma =>
                        intro m
                        induction m using Nat.strongRecOn with
                        | _ m ih342 =>
                          intro ls σ F_342 A_342 x342_9 l342_0 l342_1 l342_2 l342_3 l342_4 l342_5 l342_9 H hS_342 hA_342   j342_0 j342_1 j342_2 hm342
                          refine Ew_of (pcₚ := 344) (fun _ => x_iload rfl l342_9) ?_
                          refine Ew_of (pcₚ := 346) (fun _ => x_bipush (z := 12) rfl (by decide)) ?_
                          refine w_icmpge (t := 369) rfl rfl (show inr (x342_9) from j342_0) (show inr (12) from q_356) (fun b99 => ?_) (fun b99 => ?_)
                          · refine Ew_of (pcₚ := 370) (fun _ => x_aload_n rfl l342_0) ?_
                            refine Ew_of (pcₚ := 372) (fun _ => x_iload rfl l342_4) ?_
                            refine w_pI H (o := 6) rfl rfl (H.perm 6 rfl) rfl rfl rfl (fun _ => rfl) rfl (show (0 : Int) ≤ u6_37 ∧ u6_37 ≤ 100000000 from r5) (fun σ H => ?_)
                            refine Ew_of (pcₚ := 376) (fun _ => x_aload_n rfl l342_0) ?_
                            refine Ew_of (pcₚ := 378) (fun _ => x_iload rfl l342_4) ?_
                            refine Ew_of (pcₚ := 380) (fun _ => x_iload rfl l342_5) ?_
                            refine Ew_of (pcₚ := 381) (fun _ => x_iconst rfl) ?_
                            refine Ew_of (pcₚ := 382) (fun _ => x_iload_n rfl l342_3) ?_
                            refine w_inv H (o := 6) rfl rfl rfl (H.perm 6 rfl) rfl rfl (by rfl) (M448 H (u6_37) (rfl) (show inr (u6_37) from q_1689 r5) (show inr ((a2 - a1)) from q_2392 h1 h4) (show inr (0) from q_20) (show inr (a3) from h2) (show (a3) = 0 ∨ (a3) = 1 from h3) (show 0 ≤ (u6_37) ∧ (u6_37) ≤ 80000000 from q_2395 h5 r5) (show 0 ≤ ((a2 - a1)) ∧ ((a2 - a1)) ≤ 20000000 ∧ 0 ≤ (0) ∧ (0) ≤ 3 from q_2394 h4 r1) (fun σ F100 A101 H hS102 hA103 y105 ey106 pz104_0 => ⟨rfl, ?_⟩))
                            have r107 : (0 : Int) ≤ y105 ∧ y105 ≤ 100000000 := rngE (show (0 : Int) ≤ F100 6 37 ∧ F100 6 37 ≤ 100000000 from H.frng 6 37) (show F100 6 37 = y105 from (ey106))
                            refine Ew_of (pcₚ := 386) (fun _ => x_iload_n rfl l342_1) ?_
                            refine Ew_of (pcₚ := 388) (fun _ => x_istore rfl) ?_
                            suffices hl388 : ∀ (m : Nat), ∀ (ls : rO) (σ : rS) (F_388 : hF) (A_388 : hA) (x388_9 : Int), rlook ls 0 = some (.ref (D 6)) → rlook ls 2 = some (I (a2)) → rlook ls 9 = some (I (x388_9)) → HS σ0 σ D N F_388 A_388 → SF [(6, 37)] F100 F_388 → SA [70] A101 A_388 → ∀ y388_6_37 : Int, F_388 6 37 = y388_6_37 → (inr (x388_9)) → ((a1) ≤ (x388_9) ∧ (x388_9) ≤ (a2)) → ((y388_6_37) = (u6_37) + 3 + ((x388_9) - (a1))) → ((a2) - (x388_9)).toNat = m → Ew 449 (d + 7) 388 ls [] σ c s Q from
                              hl388 _ _ σ _ _ (a1) (rk_o (l342_0) rfl rfl) (rk_o (l342_2) rfl rfl) (rk_s) H (SF_refl) (SA_refl) (y105) ((ey106))  (show inr (a1) from h0) (show (a1) ≤ (a1) ∧ (a1) ≤ (a2) from q_2385 h4) (show (y105) = (u6_37) + 3 + ((a1) - (a1)) from q_2396 pz104_0) rfl
                            as_aux_lemma =>
                            intro m
                            induction m using Nat.strongRecOn with
                            | _ m ih388 =>
                              intro ls σ F_388 A_388 x388_9 l388_0 l388_2 l388_9 H hS_388 hA_388 y388_6_37 ey388_6_37  j388_0 j388_1 j388_2 hm388
                              have r108 : (0 : Int) ≤ y388_6_37 ∧ y388_6_37 ≤ 100000000 := rngE (show (0 : Int) ≤ F_388 6 37 ∧ F_388 6 37 ≤ 100000000 from H.frng 6 37) (show F_388 6 37 = y388_6_37 from (ey388_6_37))
                              refine Ew_of (pcₚ := 390) (fun _ => x_iload rfl l388_9) ?_
                              refine Ew_of (pcₚ := 391) (fun _ => x_iload_n rfl l388_2) ?_
                              refine w_icmpge (t := 414) rfl rfl (show inr (x388_9) from j388_0) (show inr (a2) from h1) (fun b109 => ?_) (fun b109 => ?_)
                              · refine Ew_of (pcₚ := 415) (fun _ => x_aload_n rfl l388_0) ?_
                                refine w_gT H (o := 6) (t := 87) rfl (H.perm 6 rfl) rfl rfl rfl rfl rfl rfl ?_
                                refine Ew_of (pcₚ := 419) (fun _ => x_iconst rfl) ?_
                                refine Ew_of (pcₚ := 420) (fun _ => x_dup2 rfl rfl rfl) ?_
                                refine w_lI H (o := 87) (n := 12) rfl (H.perm 87 rfl) rfl rfl (H.fix 87 rfl rfl) (show 0 ≤ 0 ∧ 0 < ((12 : Nat) : Int) from q_2397) (by decide) (fun v110 ev110 qv110 => ?_)
                                have qv110 : (-2147483648 : Int) ≤ v110 ∧ v110 ≤ 2147483647 := qv110
                                have ev110 : (A_342 87) (0) = v110 := (congrFun ((funext (hA_388 87 rfl)).trans (funext (hA103 87 rfl))) (0)).symm.trans ev110
                                refine Ew_of (pcₚ := 422) (fun _ => x_iconst rfl) ?_
                                refine w_iaddA rfl (fun z111 gz111 => ?_)
                                refine w_sI H (o := 87) (n := 12) rfl (H.perm 87 rfl) rfl rfl (H.fix 87 rfl rfl) (show 0 ≤ 0 ∧ 0 < ((12 : Nat) : Int) from q_2397) (by decide) (show (-2147483648 : Int) ≤ z111 ∧ z111 ≤ 2147483647 from q_61 gz111) (fun σ H => ?_)
                                exact w_ret rfl (k σ _ _ H (SF_trans (SF_trans (SF_upd (SF_trans (SF_trans (SF_trans (SF_trans (SF_trans (SF_trans (SF_trans (SF_trans (SF_trans (SF_upd (SF_trans (SF_trans (SF_trans (SF_trans (SF_refl) hS_c21 (any_sub rfl)) hS_26 (any_sub rfl)) hS10 (any_sub rfl)) hS24 (any_sub rfl)) rfl) hS_129 (any_sub rfl)) hS_173 (any_sub rfl)) hS_218 (any_sub rfl)) hS37 (any_sub rfl)) hS52 (any_sub rfl)) hS65 (any_sub rfl)) hS74 (any_sub rfl)) hS87 (any_sub rfl)) hS_342 (any_sub rfl)) rfl) hS102 (any_sub rfl)) hS_388 (any_sub rfl)) (SA_upd (SA_trans (SA_trans (SA_trans (SA_trans (SA_trans (SA_trans (SA_trans (SA_trans (SA_trans (SA_trans (SA_trans (SA_trans (SA_trans (SA_trans (SA_trans (SA_refl) hA_c21 (any_subA rfl)) hA_26 (any_subA rfl)) hA11 (any_subA rfl)) hA25 (any_subA rfl)) hA_129 (any_subA rfl)) hA_173 (any_subA rfl)) hA_218 (any_subA rfl)) hA38 (any_subA rfl)) hA53 (any_subA rfl)) hA66 (any_subA rfl)) hA75 (any_subA rfl)) hA88 (any_subA rfl)) hA_342 (any_subA rfl)) hA103 (any_subA rfl)) hA_388 (any_subA rfl)) rfl) (y90) (((((hS_388 6 12 rfl).trans (hS102 6 12 rfl)).trans (hS_342 6 12 rfl)).trans (ey91))) (y388_6_37) ((ey388_6_37)) (wq92) ((funext (hA_388 53 rfl)).trans ((funext (hA103 53 rfl)).trans ((funext (hA_342 53 rfl)).trans (ewq93)))) (wq94) ((funext (hA_388 54 rfl)).trans ((funext (hA103 54 rfl)).trans ((funext (hA_342 54 rfl)).trans (ewq95)))) (wq96) ((funext (hA_388 55 rfl)).trans ((funext (hA103 55 rfl)).trans ((funext (hA_342 55 rfl)).trans (ewq97)))) (show (u6_37) ≤ (y388_6_37) ∧ (y388_6_37) ≤ (u6_37) + 4 + (a2 - a1) from q_2398 j388_1 j388_2) (show WC ((y90)) ((wq92)) from pz89_0) (show WO ((wq94)) ((wq96)) from pz89_1))
                              · refine Ew_of (pcₚ := 395) (fun _ => x_aload_n rfl l388_0) ?_
                                refine Ew_of (pcₚ := 396) (fun _ => x_aload_n rfl l388_0) ?_
                                refine w_gT H (o := 6) (t := 1) rfl (H.perm 6 rfl) rfl rfl rfl rfl rfl rfl ?_
                                refine w_gT H (o := 1) (t := 14) rfl (H.perm 1 rfl) rfl rfl rfl rfl rfl rfl ?_
                                refine Ew_of (pcₚ := 404) (fun _ => x_iload rfl l388_9) ?_
                                refine w_lI H (o := 14) (n := 65536) rfl (H.perm 14 rfl) rfl rfl (H.fix 14 rfl rfl) (show 0 ≤ x388_9 ∧ x388_9 < ((65536 : Nat) : Int) from q_2399 b109 h4 j388_1 r1) (by decide) (fun v112 ev112 qv112 => ?_)
                                have qv112 : (0 : Int) ≤ v112 ∧ v112 ≤ 255 := qv112
                                have ev112 : (A 14) (x388_9) = v112 := (congrFun ((funext (hA_388 14 rfl)).trans ((funext (hA103 14 rfl)).trans ((funext (hA_342 14 rfl)).trans ((funext (hA88 14 rfl)).trans ((funext (hA75 14 rfl)).trans ((funext (hA66 14 rfl)).trans ((funext (hA53 14 rfl)).trans ((funext (hA38 14 rfl)).trans ((funext (hA_218 14 rfl)).trans ((funext (hA_173 14 rfl)).trans ((funext (hA_129 14 rfl)).trans ((funext (hA25 14 rfl)).trans ((funext (hA11 14 rfl)).trans ((funext (hA_26 14 rfl)).trans (funext (hA_c21 14 rfl)))))))))))))))) (x388_9)).symm.trans ev112
                                refine w_inv H (o := 6) rfl rfl rfl (H.perm 6 rfl) rfl rfl (by rfl) (M392 H (y388_6_37) ((ey388_6_37)) (show inr (v112) from q_38 qv112) (show 0 ≤ (y388_6_37) ∧ (y388_6_37) ≤ 99999999 by omega) (fun σ F113 A114 H hS115 hA116 y118 ey119 pz117_0 => ⟨rfl, ?_⟩))
                                have r120 : (0 : Int) ≤ y118 ∧ y118 ≤ 100000000 := rngE (show (0 : Int) ≤ F113 6 37 ∧ F113 6 37 ≤ 100000000 from H.frng 6 37) (show F113 6 37 = y118 from (ey119))
                                refine Ew_of (pcₚ := 411) (fun _ => x_iinc (len := 3) rfl (l388_9)) ?_
                                refine Ew_of (pcₚ := 388) (fun _ => x_goto rfl rfl) ?_
                                exact ih388 _ (msE hm388 q_31 (q_34 b109)) _ σ _ _ ((x388_9 + 1)) (rk_o (l388_0) rfl rfl) (rk_o (l388_2) rfl rfl) (rk_s) H (SF_trans (hS_388) hS115 (any_sub rfl)) (SA_trans (hA_388) hA116 (any_subA rfl)) (y118) ((ey119))  (show inr ((x388_9 + 1)) from q_2401 b109 h4 j388_0 r1) (show (a1) ≤ ((x388_9 + 1)) ∧ ((x388_9 + 1)) ≤ (a2) from q_1251 b109 j388_1) (show (y118) = (u6_37) + 3 + (((x388_9 + 1)) - (a1)) from q_2400 j388_2 pz117_0) rfl
                          · refine Ew_of (pcₚ := 350) (fun _ => x_aload_n rfl l342_0) ?_
                            refine w_gT H (o := 6) (t := 87) rfl (H.perm 6 rfl) rfl rfl rfl rfl rfl rfl ?_
                            refine Ew_of (pcₚ := 355) (fun _ => x_iload rfl l342_9) ?_
                            refine Ew_of (pcₚ := 356) (fun _ => x_aload_n rfl l342_0) ?_
                            refine w_gT H (o := 6) (t := 85) rfl (H.perm 6 rfl) rfl rfl rfl rfl rfl rfl ?_
                            refine Ew_of (pcₚ := 361) (fun _ => x_iload rfl l342_9) ?_
                            refine w_lI H (o := 85) (n := 12) rfl (H.perm 85 rfl) rfl rfl (H.fix 85 rfl rfl) (show 0 ≤ x342_9 ∧ x342_9 < ((12 : Nat) : Int) from q_2402 b99 j342_1) (by decide) (fun v121 ev121 qv121 => ?_)
                            have qv121 : (-2147483648 : Int) ≤ v121 ∧ v121 ≤ 2147483647 := qv121
                            have ev121 : (A_218 85) (x342_9) = v121 := (congrFun ((funext (hA_342 85 rfl)).trans ((funext (hA88 85 rfl)).trans ((funext (hA75 85 rfl)).trans ((funext (hA66 85 rfl)).trans ((funext (hA53 85 rfl)).trans (funext (hA38 85 rfl))))))) (x342_9)).symm.trans ev121
                            refine w_sI H (o := 87) (n := 12) rfl (H.perm 87 rfl) rfl rfl (H.fix 87 rfl rfl) (show 0 ≤ x342_9 ∧ x342_9 < ((12 : Nat) : Int) from q_2402 b99 j342_1) (by decide) (show (-2147483648 : Int) ≤ v121 ∧ v121 ≤ 2147483647 from qv121) (fun σ H => ?_)
                            refine Ew_of (pcₚ := 366) (fun _ => x_iinc (len := 3) rfl (l342_9)) ?_
                            refine Ew_of (pcₚ := 342) (fun _ => x_goto rfl rfl) ?_
                            exact ih342 _ (msE hm342 q_2323 (q_2406 b99)) _ σ _ _ ((x342_9 + 1)) (rk_o (l342_0) rfl rfl) (rk_o (l342_1) rfl rfl) (rk_o (l342_2) rfl rfl) (rk_o (l342_3) rfl rfl) (rk_o (l342_4) rfl rfl) (rk_o (l342_5) rfl rfl) (rk_s) H (hS_342) (SA_upd (hA_342) rfl)   (show inr ((x342_9 + 1)) from q_2405 b99 j342_1) (show (8) ≤ ((x342_9 + 1)) from q_2404 j342_1) (show ((x342_9 + 1)) ≤ (8) ∨ ((x342_9 + 1)) ≤ ((12)) from q_2403 b99) rfl
                      · refine Ew_of (pcₚ := 288) (fun _ => x_aload_n rfl (rk_o (rk_o (l218_0) rfl rfl) rfl rfl)) ?_
                        refine Ew_of (pcₚ := 290) (fun _ => x_iload rfl (rk_o (rk_o (l218_4) rfl rfl) rfl rfl)) ?_
                        refine Ew_of (pcₚ := 292) (fun _ => x_iload rfl rk_s) ?_
                        refine Ew_of (pcₚ := 293) (fun _ => x_iconst rfl) ?_
                        refine Ew_of (pcₚ := 294) (fun _ => x_iload_n rfl (rk_o (rk_o (l218_3) rfl rfl) rfl rfl)) ?_
                        refine w_inv H (o := 6) rfl rfl rfl (H.perm 6 rfl) rfl rfl (by rfl) (M448 H (y77) ((ey78)) (show inr (u6_37) from q_1689 r5) (show inr (((y77 - u6_37) - 3)) from q_2393 r5 r83) (show inr (2) from q_55) (show inr (a3) from h2) (show (a3) = 0 ∨ (a3) = 1 from h3) (show 0 ≤ (u6_37) ∧ (u6_37) ≤ 80000000 from q_2395 h5 r5) (show 0 ≤ (((y77 - u6_37) - 3)) ∧ (((y77 - u6_37) - 3)) ≤ 20000000 ∧ 0 ≤ (2) ∧ (2) ≤ 3 from q_2407 pz26_0 pz54_3 pz76_0) (fun σ F122 A123 H hS124 hA125 y127 ey128 pz126_0 => ⟨rfl, ?_⟩))
                        have r129 : (0 : Int) ≤ y127 ∧ y127 ≤ 100000000 := rngE (show (0 : Int) ≤ F122 6 37 ∧ F122 6 37 ≤ 100000000 from H.frng 6 37) (show F122 6 37 = y127 from (ey128))
                        refine Ew_of (pcₚ := 298) (fun _ => x_aload_n rfl (rk_o (rk_o (l218_0) rfl rfl) rfl rfl)) ?_
                        refine w_gT H (o := 6) (t := 87) rfl (H.perm 6 rfl) rfl rfl rfl rfl rfl rfl ?_
                        refine Ew_of (pcₚ := 302) (fun _ => x_iconst rfl) ?_
                        refine Ew_of (pcₚ := 303) (fun _ => x_dup2 rfl rfl rfl) ?_
                        refine w_lI H (o := 87) (n := 12) rfl (H.perm 87 rfl) rfl rfl (H.fix 87 rfl rfl) (show 0 ≤ 2 ∧ 2 < ((12 : Nat) : Int) from q_2408) (by decide) (fun v130 ev130 qv130 => ?_)
                        have qv130 : (-2147483648 : Int) ≤ v130 ∧ v130 ≤ 2147483647 := qv130
                        have ev130 : (A73 87) (2) = v130 := (congrFun (funext (hA125 87 rfl)) (2)).symm.trans ev130
                        refine Ew_of (pcₚ := 305) (fun _ => x_iconst rfl) ?_
                        refine w_iaddA rfl (fun z131 gz131 => ?_)
                        refine w_sI H (o := 87) (n := 12) rfl (H.perm 87 rfl) rfl rfl (H.fix 87 rfl rfl) (show 0 ≤ 2 ∧ 2 < ((12 : Nat) : Int) from q_2408) (by decide) (show (-2147483648 : Int) ≤ z131 ∧ z131 ≤ 2147483647 from q_61 gz131) (fun σ H => ?_)
                        refine Ew_of (pcₚ := 308) (fun _ => x_aload_n rfl (rk_o (rk_o (l218_0) rfl rfl) rfl rfl)) ?_
                        refine w_gT H (o := 6) (t := 87) rfl (H.perm 6 rfl) rfl rfl rfl rfl rfl rfl ?_
                        refine Ew_of (pcₚ := 312) (fun _ => x_iconst rfl) ?_
                        refine Ew_of (pcₚ := 313) (fun _ => x_dup2 rfl rfl rfl) ?_
                        refine w_lI H (o := 87) (n := 12) rfl (H.perm 87 rfl) rfl rfl (H.fix 87 rfl rfl) (show 0 ≤ 3 ∧ 3 < ((12 : Nat) : Int) from q_2409) (by decide) (fun v132 ev132 qv132 => ?_)
                        have qv132 : (-2147483648 : Int) ≤ v132 ∧ v132 ≤ 2147483647 := qv132
                        refine Ew_of (pcₚ := 315) (fun _ => x_aload_n rfl (rk_o (rk_o (l218_0) rfl rfl) rfl rfl)) ?_
                        refine w_gI H (o := 6) (w := y40) rfl (H.perm 6 rfl) rfl rfl rfl (fun _ => rfl) (((((hS124 6 28 rfl).trans (hS74 6 28 rfl)).trans (hS65 6 28 rfl)).trans (hS52 6 28 rfl)).trans (ey41)) ?_
                        refine w_iaddA rfl (fun z133 gz133 => ?_)
                        refine w_sI H (o := 87) (n := 12) rfl (H.perm 87 rfl) rfl rfl (H.fix 87 rfl rfl) (show 0 ≤ 3 ∧ 3 < ((12 : Nat) : Int) from q_2409) (by decide) (show (-2147483648 : Int) ≤ z133 ∧ z133 ≤ 2147483647 from q_61 gz133) (fun σ H => ?_)
                        refine Ew_of (pcₚ := 321) (fun _ => x_aload_n rfl (rk_o (rk_o (l218_0) rfl rfl) rfl rfl)) ?_
                        refine w_gT H (o := 6) (t := 87) rfl (H.perm 6 rfl) rfl rfl rfl rfl rfl rfl ?_
                        refine Ew_of (pcₚ := 325) (fun _ => x_iconst rfl) ?_
                        refine Ew_of (pcₚ := 327) (fun _ => x_iload rfl (rk_o (rk_s) rfl rfl)) ?_
                        refine w_iadd rfl ?_
                        refine Ew_of (pcₚ := 329) (fun _ => x_dup2 rfl rfl rfl) ?_
                        refine w_lI H (o := 87) (n := 12) rfl (H.perm 87 rfl) rfl rfl (H.fix 87 rfl rfl) (show 0 ≤ (4 + z54) ∧ (4 + z54) < ((12 : Nat) : Int) from q_2410 pz54_1) (by decide) (fun v134 ev134 qv134 => ?_)
                        have qv134 : (-2147483648 : Int) ≤ v134 ∧ v134 ≤ 2147483647 := qv134
                        refine Ew_of (pcₚ := 331) (fun _ => x_iconst rfl) ?_
                        refine w_iaddA rfl (fun z135 gz135 => ?_)
                        refine w_sI H (o := 87) (n := 12) rfl (H.perm 87 rfl) rfl rfl (H.fix 87 rfl rfl) (show 0 ≤ (4 + z54) ∧ (4 + z54) < ((12 : Nat) : Int) from q_2410 pz54_1) (by decide) (show (-2147483648 : Int) ≤ z135 ∧ z135 ≤ 2147483647 from q_61 gz135) (fun σ H => ?_)
                        exact w_ret rfl (k σ _ _ H (SF_trans (SF_trans (SF_trans (SF_trans (SF_trans (SF_trans (SF_trans (SF_trans (SF_upd (SF_trans (SF_trans (SF_trans (SF_trans (SF_refl) hS_c21 (any_sub rfl)) hS_26 (any_sub rfl)) hS10 (any_sub rfl)) hS24 (any_sub rfl)) rfl) hS_129 (any_sub rfl)) hS_173 (any_sub rfl)) hS_218 (any_sub rfl)) hS37 (any_sub rfl)) hS52 (any_sub rfl)) hS65 (any_sub rfl)) hS74 (any_sub rfl)) hS124 (any_sub rfl)) (SA_upd (SA_upd (SA_upd (SA_trans (SA_trans (SA_trans (SA_trans (SA_trans (SA_trans (SA_trans (SA_trans (SA_trans (SA_trans (SA_trans (SA_trans (SA_refl) hA_c21 (any_subA rfl)) hA_26 (any_subA rfl)) hA11 (any_subA rfl)) hA25 (any_subA rfl)) hA_129 (any_subA rfl)) hA_173 (any_subA rfl)) hA_218 (any_subA rfl)) hA38 (any_subA rfl)) hA53 (any_subA rfl)) hA66 (any_subA rfl)) hA75 (any_subA rfl)) hA125 (any_subA rfl)) rfl) rfl) rfl) (y55) (((((hS124 6 12 rfl).trans (hS74 6 12 rfl)).trans (hS65 6 12 rfl)).trans (ey56))) (y127) ((ey128)) (wq59) ((funext (hA125 53 rfl)).trans ((funext (hA75 53 rfl)).trans ((funext (hA66 53 rfl)).trans (ewq60)))) (wq79) ((funext (hA125 54 rfl)).trans (ewq80)) (wq81) ((funext (hA125 55 rfl)).trans (ewq82)) (show (u6_37) ≤ (y127) ∧ (y127) ≤ (u6_37) + 4 + (a2 - a1) from q_2411 b84 h4 pz126_0) (show WC ((y55)) ((wq59)) from pz54_2) (show WO ((wq79)) ((wq81)) from pz76_1))
                    · refine Ew_of (pcₚ := 226) (fun _ => x_aload_n rfl l218_0) ?_
                      refine w_gT H (o := 6) (t := 85) rfl (H.perm 6 rfl) rfl rfl rfl rfl rfl rfl ?_
                      refine Ew_of (pcₚ := 231) (fun _ => x_iload rfl l218_7) ?_
                      refine Ew_of (pcₚ := 232) (fun _ => x_aload_n rfl l218_0) ?_
                      refine w_gT H (o := 6) (t := 87) rfl (H.perm 6 rfl) rfl rfl rfl rfl rfl rfl ?_
                      refine Ew_of (pcₚ := 237) (fun _ => x_iload rfl l218_7) ?_
                      refine w_lI H (o := 87) (n := 12) rfl (H.perm 87 rfl) rfl rfl (H.fix 87 rfl rfl) (show 0 ≤ x218_7 ∧ x218_7 < ((12 : Nat) : Int) from q_2402 b34 j218_1) (by decide) (fun v136 ev136 qv136 => ?_)
                      have qv136 : (-2147483648 : Int) ≤ v136 ∧ v136 ≤ 2147483647 := qv136
                      have ev136 : (A 87) (x218_7) = v136 := (congrFun ((funext (hA_218 87 rfl)).trans ((funext (hA_173 87 rfl)).trans ((funext (hA_129 87 rfl)).trans ((funext (hA25 87 rfl)).trans ((funext (hA11 87 rfl)).trans ((funext (hA_26 87 rfl)).trans (funext (hA_c21 87 rfl)))))))) (x218_7)).symm.trans ev136
                      refine w_sI H (o := 85) (n := 12) rfl (H.perm 85 rfl) rfl rfl (H.fix 85 rfl rfl) (show 0 ≤ x218_7 ∧ x218_7 < ((12 : Nat) : Int) from q_2402 b34 j218_1) (by decide) (show (-2147483648 : Int) ≤ v136 ∧ v136 ≤ 2147483647 from qv136) (fun σ H => ?_)
                      refine Ew_of (pcₚ := 242) (fun _ => x_iinc (len := 3) rfl (l218_7)) ?_
                      refine Ew_of (pcₚ := 218) (fun _ => x_goto rfl rfl) ?_
                      exact ih218 _ (msE hm218 q_2323 (q_2406 b34)) _ σ _ _ ((x218_7 + 1)) (rk_o (l218_0) rfl rfl) (rk_o (l218_1) rfl rfl) (rk_o (l218_2) rfl rfl) (rk_o (l218_3) rfl rfl) (rk_o (l218_4) rfl rfl) (rk_o (l218_5) rfl rfl) (rk_s) H (hS_218) (SA_upd (hA_218) rfl)   (show inr ((x218_7 + 1)) from q_2405 b34 j218_1) (show (8) ≤ ((x218_7 + 1)) from q_2404 j218_1) (show ((x218_7 + 1)) ≤ (8) ∨ ((x218_7 + 1)) ≤ ((12)) from q_2403 b34) rfl
                · refine Ew_of (pcₚ := 180) (fun _ => x_aload_n rfl l173_0) ?_
                  refine w_gT H (o := 6) (t := 61) rfl (H.perm 6 rfl) rfl rfl rfl rfl rfl rfl ?_
                  refine Ew_of (pcₚ := 184) (fun _ => x_aload_n rfl l173_0) ?_
                  refine w_gI H (o := 6) (w := y173_6_22) rfl (H.perm 6 rfl) rfl rfl rfl (fun _ => rfl) (ey173_6_22) ?_
                  refine Ew_of (pcₚ := 188) (fun _ => x_aload_n rfl l173_0) ?_
                  refine w_gT H (o := 6) (t := 1) rfl (H.perm 6 rfl) rfl rfl rfl rfl rfl rfl ?_
                  refine w_gT H (o := 1) (t := 14) rfl (H.perm 1 rfl) rfl rfl rfl rfl rfl rfl ?_
                  refine Ew_of (pcₚ := 196) (fun _ => x_iload rfl l173_7) ?_
                  refine w_lI H (o := 14) (n := 65536) rfl (H.perm 14 rfl) rfl rfl (H.fix 14 rfl rfl) (show 0 ≤ x173_7 ∧ x173_7 < ((65536 : Nat) : Int) from q_2412 j173_1 j173_3 r3 r32) (by decide) (fun v137 ev137 qv137 => ?_)
                  have qv137 : (0 : Int) ≤ v137 ∧ v137 ≤ 255 := qv137
                  have ev137 : (A 14) (x173_7) = v137 := (congrFun ((funext (hA_173 14 rfl)).trans ((funext (hA_129 14 rfl)).trans ((funext (hA25 14 rfl)).trans ((funext (hA11 14 rfl)).trans ((funext (hA_26 14 rfl)).trans (funext (hA_c21 14 rfl))))))) (x173_7)).symm.trans ev137
                  refine w_sI H (o := 61) (n := 16384) rfl (H.perm 61 rfl) rfl rfl (H.fix 61 rfl rfl) (show 0 ≤ y173_6_22 ∧ y173_6_22 < ((16384 : Nat) : Int) from q_2413 b33 h4 h7 j173_3 r32) (by decide) (show (0 : Int) ≤ v137 ∧ v137 ≤ 255 from qv137) (fun σ H => ?_)
                  refine Ew_of (pcₚ := 199) (fun _ => x_aload_n rfl l173_0) ?_
                  refine Ew_of (pcₚ := 200) (fun _ => x_dup rfl rfl) ?_
                  refine w_gI H (o := 6) (w := y173_6_22) rfl (H.perm 6 rfl) rfl rfl rfl (fun _ => rfl) (ey173_6_22) ?_
                  refine Ew_of (pcₚ := 204) (fun _ => x_iconst rfl) ?_
                  refine w_iadd rfl ?_
                  refine w_pI H (o := 6) rfl rfl (H.perm 6 rfl) rfl rfl rfl (fun _ => rfl) rfl (show (0 : Int) ≤ (y173_6_22 + 1) ∧ (y173_6_22 + 1) ≤ 16384 from q_2414 b33 h4 h7 j173_3 r32) (fun σ H => ?_)
                  refine Ew_of (pcₚ := 211) (fun _ => x_iinc (len := 3) rfl (l173_7)) ?_
                  refine Ew_of (pcₚ := 173) (fun _ => x_goto rfl rfl) ?_
                  exact ih173 _ (msE hm173 q_31 (q_34 b33)) _ σ _ _ ((x173_7 + 1)) (rk_o (l173_0) rfl rfl) (rk_o (l173_1) rfl rfl) (rk_o (l173_2) rfl rfl) (rk_o (l173_3) rfl rfl) (rk_o (l173_4) rfl rfl) (rk_o (l173_5) rfl rfl) (rk_s) H (SF_upd (hS_173) rfl) (SA_upd (hA_173) rfl) ((y173_6_22 + 1)) (rfl)  (show inr ((x173_7 + 1)) from q_2415 j173_1 j173_3 r3 r32) (show (0) ≤ ((x173_7 + 1)) from q_29 j173_1) (show ((x173_7 + 1)) ≤ (0) ∨ ((x173_7 + 1)) ≤ ((a2)) from q_33 b33) (show ((y173_6_22 + 1)) = (u6_4) + ((x173_7 + 1)) from q_302 j173_3) rfl
            · refine Ew_of (pcₚ := 139) (fun _ => x_aload_n rfl l129_0) ?_
              refine w_gT H (o := 6) (t := 61) rfl (H.perm 6 rfl) rfl rfl rfl rfl rfl rfl ?_
              refine Ew_of (pcₚ := 143) (fun _ => x_aload_n rfl l129_0) ?_
              refine w_gI H (o := 6) (w := y129_6_22) rfl (H.perm 6 rfl) rfl rfl rfl (fun _ => rfl) (ey129_6_22) ?_
              refine Ew_of (pcₚ := 147) (fun _ => x_aload_n rfl l129_0) ?_
              refine w_gT H (o := 6) (t := 48) rfl (H.perm 6 rfl) rfl rfl rfl rfl rfl rfl ?_
              refine Ew_of (pcₚ := 152) (fun _ => x_iload rfl l129_7) ?_
              refine w_lI H (o := 48) (n := 65536) rfl (H.perm 48 rfl) rfl rfl (H.fix 48 rfl rfl) (show 0 ≤ x129_7 ∧ x129_7 < ((65536 : Nat) : Int) from q_2416 j129_1 j129_3 r30) (by decide) (fun v138 ev138 qv138 => ?_)
              have qv138 : (0 : Int) ≤ v138 ∧ v138 ≤ 255 := qv138
              have ev138 : (A 48) (x129_7) = v138 := (congrFun ((funext (hA_129 48 rfl)).trans ((funext (hA25 48 rfl)).trans ((funext (hA11 48 rfl)).trans ((funext (hA_26 48 rfl)).trans (funext (hA_c21 48 rfl)))))) (x129_7)).symm.trans ev138
              refine w_sI H (o := 61) (n := 16384) rfl (H.perm 61 rfl) rfl rfl (H.fix 61 rfl rfl) (show 0 ≤ y129_6_22 ∧ y129_6_22 < ((16384 : Nat) : Int) from q_2417 b31 h7 j129_3 r1 r30) (by decide) (show (0 : Int) ≤ v138 ∧ v138 ≤ 255 from qv138) (fun σ H => ?_)
              refine Ew_of (pcₚ := 155) (fun _ => x_aload_n rfl l129_0) ?_
              refine Ew_of (pcₚ := 156) (fun _ => x_dup rfl rfl) ?_
              refine w_gI H (o := 6) (w := y129_6_22) rfl (H.perm 6 rfl) rfl rfl rfl (fun _ => rfl) (ey129_6_22) ?_
              refine Ew_of (pcₚ := 160) (fun _ => x_iconst rfl) ?_
              refine w_iadd rfl ?_
              refine w_pI H (o := 6) rfl rfl (H.perm 6 rfl) rfl rfl rfl (fun _ => rfl) rfl (show (0 : Int) ≤ (y129_6_22 + 1) ∧ (y129_6_22 + 1) ≤ 16384 from q_2418 b31 h7 j129_3 r1 r30) (fun σ H => ?_)
              refine Ew_of (pcₚ := 167) (fun _ => x_iinc (len := 3) rfl (l129_7)) ?_
              refine Ew_of (pcₚ := 129) (fun _ => x_goto rfl rfl) ?_
              exact ih129 _ (msE hm129 q_31 (q_34 b31)) _ σ _ _ ((x129_7 + 1)) (rk_o (l129_0) rfl rfl) (rk_o (l129_1) rfl rfl) (rk_o (l129_2) rfl rfl) (rk_o (l129_3) rfl rfl) (rk_o (l129_4) rfl rfl) (rk_o (l129_5) rfl rfl) (rk_s) H (SF_upd (hS_129) rfl) (SA_upd (hA_129) rfl) ((y129_6_22 + 1)) (rfl)  (show inr ((x129_7 + 1)) from q_2420 j129_1 j129_3 r30) (show (0) ≤ ((x129_7 + 1)) from q_29 j129_1) (show ((x129_7 + 1)) ≤ (0) ∨ ((x129_7 + 1)) ≤ ((u6_4)) from q_33 b31) (show ((y129_6_22 + 1)) = ((x129_7 + 1)) from q_2419 j129_3) rfl
        · refine Ew_of (pcₚ := 78) (fun _ => x_aload_n rfl l26_0) ?_
          refine Ew_of (pcₚ := 80) (fun _ => x_iload rfl l26_4) ?_
          refine Ew_of (pcₚ := 82) (fun _ => x_iload rfl l26_5) ?_
          refine Ew_of (pcₚ := 83) (fun _ => x_iconst rfl) ?_
          refine Ew_of (pcₚ := 84) (fun _ => x_iload_n rfl l26_3) ?_
          refine w_inv H (o := 6) rfl rfl rfl (H.perm 6 rfl) rfl rfl (by rfl) (M448 H (u6_37) ((((hS_26 6 37 rfl).trans (hS_c21 6 37 rfl)).trans (eu6_37))) (show inr (u6_37) from q_1689 r5) (show inr ((a2 - a1)) from q_2392 h1 h4) (show inr (1) from q_23) (show inr (a3) from h2) (show (a3) = 0 ∨ (a3) = 1 from h3) (show 0 ≤ (u6_37) ∧ (u6_37) ≤ 80000000 from q_2395 h5 r5) (show 0 ≤ ((a2 - a1)) ∧ ((a2 - a1)) ≤ 20000000 ∧ 0 ≤ (1) ∧ (1) ≤ 3 from q_2421 h4 r1) (fun σ F139 A140 H hS141 hA142 y144 ey145 pz143_0 => ⟨rfl, ?_⟩))
          have r146 : (0 : Int) ≤ y144 ∧ y144 ≤ 100000000 := rngE (show (0 : Int) ≤ F139 6 37 ∧ F139 6 37 ≤ 100000000 from H.frng 6 37) (show F139 6 37 = y144 from (ey145))
          refine Ew_of (pcₚ := 88) (fun _ => x_aload_n rfl l26_0) ?_
          refine Ew_of (pcₚ := 89) (fun _ => x_aload_n rfl l26_0) ?_
          refine w_gT H (o := 6) (t := 1) rfl (H.perm 6 rfl) rfl rfl rfl rfl rfl rfl ?_
          refine w_gT H (o := 1) (t := 14) rfl (H.perm 1 rfl) rfl rfl rfl rfl rfl rfl ?_
          refine Ew_of (pcₚ := 96) (fun _ => x_iload_n rfl l26_1) ?_
          refine w_lI H (o := 14) (n := 65536) rfl (H.perm 14 rfl) rfl rfl (H.fix 14 rfl rfl) (show 0 ≤ a1 ∧ a1 < ((65536 : Nat) : Int) by omega) (by decide) (fun v147 ev147 qv147 => ?_)
          have qv147 : (0 : Int) ≤ v147 ∧ v147 ≤ 255 := qv147
          have ev147 : (A 14) (a1) = v147 := (congrFun ((funext (hA142 14 rfl)).trans ((funext (hA_26 14 rfl)).trans (funext (hA_c21 14 rfl)))) (a1)).symm.trans ev147
          refine w_inv H (o := 6) rfl rfl rfl (H.perm 6 rfl) rfl rfl (by rfl) (M392 H (y144) ((ey145)) (show inr (v147) from q_38 qv147) (show 0 ≤ (y144) ∧ (y144) ≤ 99999999 by omega) (fun σ F148 A149 H hS150 hA151 y153 ey154 pz152_0 => ⟨rfl, ?_⟩))
          have r155 : (0 : Int) ≤ y153 ∧ y153 ≤ 100000000 := rngE (show (0 : Int) ≤ F148 6 37 ∧ F148 6 37 ≤ 100000000 from H.frng 6 37) (show F148 6 37 = y153 from (ey154))
          refine Ew_of (pcₚ := 101) (fun _ => x_aload_n rfl l26_0) ?_
          refine w_gT H (o := 6) (t := 87) rfl (H.perm 6 rfl) rfl rfl rfl rfl rfl rfl ?_
          refine Ew_of (pcₚ := 105) (fun _ => x_iconst rfl) ?_
          refine Ew_of (pcₚ := 106) (fun _ => x_dup2 rfl rfl rfl) ?_
          refine w_lI H (o := 87) (n := 12) rfl (H.perm 87 rfl) rfl rfl (H.fix 87 rfl rfl) (show 0 ≤ 1 ∧ 1 < ((12 : Nat) : Int) from q_2422) (by decide) (fun v156 ev156 qv156 => ?_)
          have qv156 : (-2147483648 : Int) ≤ v156 ∧ v156 ≤ 2147483647 := qv156
          have ev156 : (A 87) (1) = v156 := (congrFun ((funext (hA151 87 rfl)).trans ((funext (hA142 87 rfl)).trans ((funext (hA_26 87 rfl)).trans (funext (hA_c21 87 rfl))))) (1)).symm.trans ev156
          refine Ew_of (pcₚ := 108) (fun _ => x_iconst rfl) ?_
          refine w_iaddA rfl (fun z157 gz157 => ?_)
          refine w_sI H (o := 87) (n := 12) rfl (H.perm 87 rfl) rfl rfl (H.fix 87 rfl rfl) (show 0 ≤ 1 ∧ 1 < ((12 : Nat) : Int) from q_2422) (by decide) (show (-2147483648 : Int) ≤ z157 ∧ z157 ≤ 2147483647 from q_61 gz157) (fun σ H => ?_)
          exact w_ret rfl (k σ _ _ H (SF_trans (SF_trans (SF_trans (SF_trans (SF_refl) hS_c21 (any_sub rfl)) hS_26 (any_sub rfl)) hS141 (any_sub rfl)) hS150 (any_sub rfl)) (SA_upd (SA_trans (SA_trans (SA_trans (SA_trans (SA_refl) hA_c21 (any_subA rfl)) hA_26 (any_subA rfl)) hA142 (any_subA rfl)) hA151 (any_subA rfl)) rfl) (u6_12) ((((((hS150 6 12 rfl).trans (hS141 6 12 rfl)).trans (hS_26 6 12 rfl)).trans (hS_c21 6 12 rfl)).trans (eu6_12))) (y153) ((ey154)) (w53) ((funext (hA151 53 rfl)).trans ((funext (hA142 53 rfl)).trans ((funext (hA_26 53 rfl)).trans ((funext (hA_c21 53 rfl)).trans (ew53))))) (w54) ((funext (hA151 54 rfl)).trans ((funext (hA142 54 rfl)).trans ((funext (hA_26 54 rfl)).trans ((funext (hA_c21 54 rfl)).trans (ew54))))) (w55) ((funext (hA151 55 rfl)).trans ((funext (hA142 55 rfl)).trans ((funext (hA_26 55 rfl)).trans ((funext (hA_c21 55 rfl)).trans (ew55))))) (show (u6_37) ≤ (y153) ∧ (y153) ≤ (u6_37) + 4 + (a2 - a1) from q_2423 h4 pz143_0 pz152_0) (show WC ((u6_12)) ((w53)) from h8) (show WO ((w54)) ((w55)) from h9))
      · refine Ew_of (pcₚ := 34) (fun _ => x_iload rfl l26_6) ?_
        refine w_ifeq (t := 63) rfl rfl (show inr (x26_6) from j26_0) (fun b158 => ?_) (fun b158 => ?_)
        · refine Ew_of (pcₚ := 64) (fun _ => x_iconst rfl) ?_
          refine Ew_of (pcₚ := 66) (fun _ => x_istore rfl) ?_
          refine Ew_of (pcₚ := 69) (fun _ => x_iinc (len := 3) rfl (rk_o (l26_7) rfl rfl)) ?_
          refine Ew_of (pcₚ := 26) (fun _ => x_goto rfl rfl) ?_
          exact ih26 _ (msE hm26 q_31 (q_34 b6)) _ σ _ _ (0) ((x26_7 + 1)) (rk_o (rk_o (l26_0) rfl rfl) rfl rfl) (rk_o (rk_o (l26_1) rfl rfl) rfl rfl) (rk_o (rk_o (l26_2) rfl rfl) rfl rfl) (rk_o (rk_o (l26_3) rfl rfl) rfl rfl) (rk_o (rk_o (l26_4) rfl rfl) rfl rfl) (rk_o (rk_o (l26_5) rfl rfl) rfl rfl) (rk_o (rk_s) rfl rfl) (rk_s) H (hS_26) (hA_26)   (show inr (0) from q_20) (show inr ((x26_7 + 1)) from q_2401 b6 h4 j26_1 r1) (show (a1) ≤ ((x26_7 + 1)) ∧ ((x26_7 + 1)) ≤ (a2) from q_1251 b6 j26_2) (show (0) = 0 ∨ (0) = 1 ∧ (a1) < (a2) from q_2424) rfl
        · refine Ew_of (pcₚ := 38) (fun _ => x_aload_n rfl l26_0) ?_
          refine w_gT H (o := 6) (t := 1) rfl (H.perm 6 rfl) rfl rfl rfl rfl rfl rfl ?_
          refine w_gT H (o := 1) (t := 14) rfl (H.perm 1 rfl) rfl rfl rfl rfl rfl rfl ?_
          refine Ew_of (pcₚ := 46) (fun _ => x_iload rfl l26_7) ?_
          refine w_lI H (o := 14) (n := 65536) rfl (H.perm 14 rfl) rfl rfl (H.fix 14 rfl rfl) (show 0 ≤ x26_7 ∧ x26_7 < ((65536 : Nat) : Int) from q_2399 b6 h4 j26_2 r1) (by decide) (fun v159 ev159 qv159 => ?_)
          have qv159 : (0 : Int) ≤ v159 ∧ v159 ≤ 255 := qv159
          have ev159 : (A 14) (x26_7) = v159 := (congrFun ((funext (hA_26 14 rfl)).trans (funext (hA_c21 14 rfl))) (x26_7)).symm.trans ev159
          refine Ew_of (pcₚ := 48) (fun _ => x_aload_n rfl l26_0) ?_
          refine w_gT H (o := 6) (t := 1) rfl (H.perm 6 rfl) rfl rfl rfl rfl rfl rfl ?_
          refine w_gT H (o := 1) (t := 14) rfl (H.perm 1 rfl) rfl rfl rfl rfl rfl rfl ?_
          refine Ew_of (pcₚ := 55) (fun _ => x_iload_n rfl l26_1) ?_
          refine w_lI H (o := 14) (n := 65536) rfl (H.perm 14 rfl) rfl rfl (H.fix 14 rfl rfl) (show 0 ≤ a1 ∧ a1 < ((65536 : Nat) : Int) by omega) (by decide) (fun v160 ev160 qv160 => ?_)
          have qv160 : (0 : Int) ≤ v160 ∧ v160 ≤ 255 := qv160
          have ev160 : (A 14) (a1) = v160 := (congrFun ((funext (hA_26 14 rfl)).trans (funext (hA_c21 14 rfl))) (a1)).symm.trans ev160
          refine w_icmpne (t := 63) rfl rfl (show inr (v159) from q_38 qv159) (show inr (v160) from q_38 qv160) (fun b161 => ?_) (fun b161 => ?_)
          · refine Ew_of (pcₚ := 64) (fun _ => x_iconst rfl) ?_
            refine Ew_of (pcₚ := 66) (fun _ => x_istore rfl) ?_
            refine Ew_of (pcₚ := 69) (fun _ => x_iinc (len := 3) rfl (rk_o (l26_7) rfl rfl)) ?_
            refine Ew_of (pcₚ := 26) (fun _ => x_goto rfl rfl) ?_
            exact ih26 _ (msE hm26 q_31 (q_34 b6)) _ σ _ _ (0) ((x26_7 + 1)) (rk_o (rk_o (l26_0) rfl rfl) rfl rfl) (rk_o (rk_o (l26_1) rfl rfl) rfl rfl) (rk_o (rk_o (l26_2) rfl rfl) rfl rfl) (rk_o (rk_o (l26_3) rfl rfl) rfl rfl) (rk_o (rk_o (l26_4) rfl rfl) rfl rfl) (rk_o (rk_o (l26_5) rfl rfl) rfl rfl) (rk_o (rk_s) rfl rfl) (rk_s) H (hS_26) (hA_26)   (show inr (0) from q_20) (show inr ((x26_7 + 1)) from q_2401 b6 h4 j26_1 r1) (show (a1) ≤ ((x26_7 + 1)) ∧ ((x26_7 + 1)) ≤ (a2) from q_1251 b6 j26_2) (show (0) = 0 ∨ (0) = 1 ∧ (a1) < (a2) from q_2424) rfl
          · refine Ew_of (pcₚ := 60) (fun _ => x_iconst rfl) ?_
            refine Ew_of (pcₚ := 64) (fun _ => x_goto rfl rfl) ?_
            refine Ew_of (pcₚ := 66) (fun _ => x_istore rfl) ?_
            refine Ew_of (pcₚ := 69) (fun _ => x_iinc (len := 3) rfl (rk_o (l26_7) rfl rfl)) ?_
            refine Ew_of (pcₚ := 26) (fun _ => x_goto rfl rfl) ?_
            exact ih26 _ (msE hm26 q_31 (q_34 b6)) _ σ _ _ (1) ((x26_7 + 1)) (rk_o (rk_o (l26_0) rfl rfl) rfl rfl) (rk_o (rk_o (l26_1) rfl rfl) rfl rfl) (rk_o (rk_o (l26_2) rfl rfl) rfl rfl) (rk_o (rk_o (l26_3) rfl rfl) rfl rfl) (rk_o (rk_o (l26_4) rfl rfl) rfl rfl) (rk_o (rk_o (l26_5) rfl rfl) rfl rfl) (rk_o (rk_s) rfl rfl) (rk_s) H (hS_26) (hA_26)   (show inr (1) from q_23) (show inr ((x26_7 + 1)) from q_2401 b6 h4 j26_1 r1) (show (a1) ≤ ((x26_7 + 1)) ∧ ((x26_7 + 1)) ≤ (a2) from q_1251 b6 j26_2) (show (1) = 0 ∨ (1) = 1 ∧ (a1) < (a2) from q_2425 b6 j26_2) rfl
  refine w_ifle (t := 20) rfl rfl (show inr ((a2 - a1)) from q_2392 h1 h4) (fun b162 => ?_) (fun b162 => ?_)
  · refine Ew_of (pcₚ := 21) (fun _ => x_iconst rfl) ?_
    exact hc21 (0) _ σ _ _  (rk_o (rk_o (rfl) rfl rfl) rfl rfl) (rk_o (rk_o (rfl) rfl rfl) rfl rfl) (rk_o (rk_o (rfl) rfl rfl) rfl rfl) (rk_o (rk_o (rfl) rfl rfl) rfl rfl) (rk_o (rk_s) rfl rfl) (rk_s) H (SF_refl) (SA_refl)   (show inr (0) from q_20) (show (((a2 - a1)) ≤ (0) ∧ (0) = (0)) ∨ (((a2 - a1)) > (0) ∧ (0) = (1)) from q_2426 b162)
  · refine Ew_of (pcₚ := 17) (fun _ => x_iconst rfl) ?_
    refine Ew_of (pcₚ := 21) (fun _ => x_goto rfl rfl) ?_
    exact hc21 (1) _ σ _ _  (rk_o (rk_o (rfl) rfl rfl) rfl rfl) (rk_o (rk_o (rfl) rfl rfl) rfl rfl) (rk_o (rk_o (rfl) rfl rfl) rfl rfl) (rk_o (rk_o (rfl) rfl rfl) rfl rfl) (rk_o (rk_s) rfl rfl) (rk_s) H (SF_refl) (SA_refl)   (show inr (1) from q_23) (show (((a2 - a1)) ≤ (0) ∧ (1) = (0)) ∨ (((a2 - a1)) > (0) ∧ (1) = (1)) from q_2427 b162)
