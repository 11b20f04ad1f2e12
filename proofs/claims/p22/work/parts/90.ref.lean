/-- Writer.saySequences -/
theorem M444 {σ0 σ : rS} {D N : Nat → Nat} {F : hF} {A : hA} {d c s : Nat} {Q : wQ} (H : HS σ0 σ D N F A)  (u6_28 : Int) (eu6_28 : F 6 28 = u6_28) (u6_37 : Int) (eu6_37 : F 6 37 = u6_37) (w54 : Int → Int) (ew54 : A 54 = w54) (w55 : Int → Int) (ew55 : A 55 = w55) (w62 : Int → Int) (ew62 : A 62 = w62) (w63 : Int → Int) (ew63 : A 63 = w63) (w66 : Int → Int) (ew66 : A 66 = w66) (w67 : Int → Int) (ew67 : A 67 = w67) (h0 : WO ((w54)) ((w55))) (h1 : 0 ≤ (u6_37) ∧ (u6_37) ≤ 70000000) (h2 : TLI ((w66)) ((w67)) ((w62)) ((w63)) ((u6_28))) (h3 : GOE ((w62)) ((w63)) ((u6_28)) 16384) (k : ∀ σ Fₚ Aₚ, HS σ0 σ D N Fₚ Aₚ → SF [(6, 35), (6, 37)] F Fₚ → SA [54, 55, 69, 70, 71, 72, 73, 74, 75, 76, 77, 78, 87] A Aₚ → ∀ y6_37 : Int, Fₚ 6 37 = y6_37 → ∀ v54 : Int → Int, Aₚ 54 = v54 → ∀ v55 : Int → Int, Aₚ 55 = v55 → ((u6_37) ≤ (y6_37) ∧ (y6_37) ≤ (u6_37) + 30000) → (WO ((v54)) ((v55))) → Q none σ c s) : Ew 444 (d + 6) 0 (rargs 0 [.ref (D 6)]) [] σ c s Q := by
  have r1 : (0 : Int) ≤ u6_28 ∧ u6_28 ≤ 8001 := rngE (show (0 : Int) ≤ F 6 28 ∧ F 6 28 ≤ 8001 from H.frng 6 28) (show F 6 28 = u6_28 from (eu6_28))
  have r2 : (0 : Int) ≤ u6_37 ∧ u6_37 ≤ 100000000 := rngE (show (0 : Int) ≤ F 6 37 ∧ F 6 37 ≤ 100000000 from H.frng 6 37) (show F 6 37 = u6_37 from (eu6_37))
  have htl : TLI ((w66)) ((w67)) ((w62)) ((w63)) ((u6_28)) := h2
  have hgo : GOE ((w62)) ((w63)) ((u6_28)) 16384 := h3
  refine Ew_of (pcₚ := 1) (fun _ => x_aload_n rfl rfl) ?_
  refine w_gI H (o := 6) (w := u6_28) rfl (H.perm 6 rfl) rfl rfl rfl (fun _ => rfl) (eu6_28) ?_
  refine Ew_of (pcₚ := 5) (fun _ => x_istore_n rfl) ?_
  have hc70 : ∀ (ls : rO) (σ : rS) (F_c70 : hF) (A_c70 : hA) , rlook ls 0 = some (.ref (D 6)) → rlook ls 1 = some (I (u6_28)) → HS σ0 σ D N F_c70 A_c70 → SF [(6, 37)] F F_c70 → SA [70] A A_c70 → ∀ yc70_6_37 : Int, F_c70 6 37 = yc70_6_37 → ((u6_37) ≤ (yc70_6_37) ∧ (yc70_6_37) ≤ (u6_37) + 3) → Ew 444 (d + 6) 70 ls [] σ c s Q := by
   as_aux_lemma =>
    intro  ls σ F_c70 A_c70  lc70_0 lc70_1 H hS_c70 hA_c70 yc70_6_37 eyc70_6_37  jc70_0
    have r3 : (0 : Int) ≤ yc70_6_37 ∧ yc70_6_37 ≤ 100000000 := rngE (show (0 : Int) ≤ F_c70 6 37 ∧ F_c70 6 37 ≤ 100000000 from H.frng 6 37) (show F_c70 6 37 = yc70_6_37 from (eyc70_6_37))
    refine Ew_of (pcₚ := 71) (fun _ => x_iload_n rfl lc70_1) ?_
    refine w_ifne (t := 75) rfl rfl (show inr (u6_28) from q_1788 r1) (fun b4 => ?_) (fun b4 => ?_)
    · refine Ew_of (pcₚ := 76) (fun _ => x_aload_n rfl lc70_0) ?_
      refine w_gI H (o := 6) (w := yc70_6_37) rfl (H.perm 6 rfl) rfl rfl rfl (fun _ => rfl) (eyc70_6_37) ?_
      refine Ew_of (pcₚ := 80) (fun _ => x_istore_n rfl) ?_
      refine Ew_of (pcₚ := 81) (fun _ => x_aload_n rfl (rk_o (lc70_0) rfl rfl)) ?_
      refine Ew_of (pcₚ := 82) (fun _ => x_iconst rfl) ?_
      refine w_inv H (o := 6) rfl rfl rfl (H.perm 6 rfl) rfl rfl (by rfl) (M392 H (yc70_6_37) ((eyc70_6_37)) (show inr (0) from q_20) (show 0 ≤ (yc70_6_37) ∧ (yc70_6_37) ≤ 99999999 by omega) (fun σ F5 A6 H hS7 hA8 y10 ey11 pz9_0 => ⟨rfl, ?_⟩))
      have r12 : (0 : Int) ≤ y10 ∧ y10 ≤ 100000000 := rngE (show (0 : Int) ≤ F5 6 37 ∧ F5 6 37 ≤ 100000000 from H.frng 6 37) (show F5 6 37 = y10 from (ey11))
      refine Ew_of (pcₚ := 86) (fun _ => x_iconst rfl) ?_
      refine Ew_of (pcₚ := 87) (fun _ => x_istore_n rfl) ?_
      refine Ew_of (pcₚ := 88) (fun _ => x_iconst rfl) ?_
      refine Ew_of (pcₚ := 90) (fun _ => x_istore rfl) ?_
      have : ∀ t, (0 : Int) ≤ t → t < (0 : Int) → TBL ((w54)) ((w55)) (sh ((w66)) (8001 * t)) t ((u6_28)) := fun t a b => absurd b (by omega)
      suffices hl90 : ∀ (m : Nat), ∀ (ls : rO) (σ : rS) (F_90 : hF) (A_90 : hA) (x90_3 : Int) (x90_4 : Int), rlook ls 0 = some (.ref (D 6)) → rlook ls 2 = some (I (yc70_6_37)) → rlook ls 3 = some (I (x90_3)) → rlook ls 4 = some (I (x90_4)) → HS σ0 σ D N F_90 A_90 → SF [(6, 35), (6, 37)] F5 F_90 → SA [54, 55, 69, 70, 71, 72, 73, 74, 75, 76, 77, 78, 87] A6 A_90 → ∀ y90_6_37 : Int, F_90 6 37 = y90_6_37 → ∀ w90_54 : Int → Int, A_90 54 = w90_54 → ∀ w90_55 : Int → Int, A_90 55 = w90_55 → (inr (x90_3)) → (inr (x90_4)) → ((0) ≤ (x90_4)) → ((x90_4) ≤ (0) ∨ (x90_4) ≤ (3)) → (WO ((w90_54)) ((w90_55))) → (∀ t, (0 : Int) ≤ t → t < (x90_4) → TBL ((w90_54)) ((w90_55)) (sh ((w66)) (8001 * t)) t ((u6_28))) → ((u6_37) ≤ (y90_6_37) ∧ (y90_6_37) ≤ (u6_37) + (4 + 100 * (x90_4))) → (0 ≤ (x90_3) ∧ (x90_3) ≤ 255) → ((3) - (x90_4)).toNat = m → Ew 444 (d + 6) 90 ls [] σ c s Q from
        hl90 _ _ σ _ _ (0) (0) (rk_o (rk_o (rk_o (lc70_0) rfl rfl) rfl rfl) rfl rfl) (rk_o (rk_o (rk_s) rfl rfl) rfl rfl) (rk_o (rk_s) rfl rfl) (rk_s) H (SF_refl) (SA_refl) (y10) ((ey11)) (w54) ((funext (hA8 54 rfl)).trans ((funext (hA_c70 54 rfl)).trans (ew54))) (w55) ((funext (hA8 55 rfl)).trans ((funext (hA_c70 55 rfl)).trans (ew55))) (show inr (0) from q_20) (show inr (0) from q_20) (show (0) ≤ (0) from q_25) (show (0) ≤ (0) ∨ (0) ≤ (3) from q_1534) (show WO ((w54)) ((w55)) from h0) (show ∀ t, (0 : Int) ≤ t → t < (0) → TBL ((w54)) ((w55)) (sh ((w66)) (8001 * t)) t ((u6_28)) by assumption) (show (u6_37) ≤ (y10) ∧ (y10) ≤ (u6_37) + (4 + 100 * (0)) from q_2368 jc70_0 pz9_0) (show 0 ≤ (0) ∧ (0) ≤ 255 from q_1162) rfl
      as_aux_lemma =>
      intro m
      induction m using Nat.strongRecOn with
      | _ m ih90 =>
        intro ls σ F_90 A_90 x90_3 x90_4 l90_0 l90_2 l90_3 l90_4 H hS_90 hA_90 y90_6_37 ey90_6_37 w90_54 ew90_54 w90_55 ew90_55 j90_0 j90_1 j90_2 j90_3 j90_4 j90_5 j90_6 j90_7 hm90
        have r13 : (0 : Int) ≤ y90_6_37 ∧ y90_6_37 ≤ 100000000 := rngE (show (0 : Int) ≤ F_90 6 37 ∧ F_90 6 37 ≤ 100000000 from H.frng 6 37) (show F_90 6 37 = y90_6_37 from (ey90_6_37))
        have j90_t : ∀ t, (0 : Int) ≤ t → t < (x90_4) → TBL ((w90_54)) ((w90_55)) (sh ((w66)) (8001 * t)) t ((u6_28)) := by assumption
        refine Ew_of (pcₚ := 92) (fun _ => x_iload rfl l90_4) ?_
        refine Ew_of (pcₚ := 93) (fun _ => x_iconst rfl) ?_
        refine w_icmpge (t := 141) rfl rfl (show inr (x90_4) from j90_1) (show inr (3) from q_66) (fun b14 => ?_) (fun b14 => ?_)
        · have hc154 : ∀ (ls : rO) (σ : rS) (F_c154 : hF) (A_c154 : hA) , rlook ls 0 = some (.ref (D 6)) → HS σ0 σ D N F_c154 A_c154 → SF [] F_90 F_c154 → SA [70] A_90 A_c154 → Ew 444 (d + 6) 154 ls [] σ c s Q := by
           as_aux_lemma =>
            intro  ls σ F_c154 A_c154  lc154_0 H hS_c154 hA_c154   
            have hts := TLI_sum htl hgo (by omega)
            have : TBL ((w90_54)) ((w90_55)) (sh ((w66)) (8001 * 0)) 0 ((u6_28)) := j90_t 0 (by omega) (by omega)
            have : TBL ((w90_54)) ((w90_55)) (sh ((w66)) (8001 * 1)) 1 ((u6_28)) := j90_t 1 (by omega) (by omega)
            have : TBL ((w90_54)) ((w90_55)) (sh ((w66)) (8001 * 2)) 2 ((u6_28)) := j90_t 2 (by omega) (by omega)
            refine Ew_of (pcₚ := 155) (fun _ => x_aload_n rfl lc154_0) ?_
            refine w_inv H (o := 6) rfl rfl rfl (H.perm 6 rfl) rfl rfl (by rfl) (M443 H (u6_28) ((((((hS_c154 6 28 rfl).trans (hS_90 6 28 rfl)).trans (hS7 6 28 rfl)).trans (hS_c70 6 28 rfl)).trans (eu6_28))) (y90_6_37) (((hS_c154 6 37 rfl).trans (ey90_6_37))) (w90_54) ((funext (hA_c154 54 rfl)).trans (ew90_54)) (w90_55) ((funext (hA_c154 55 rfl)).trans (ew90_55)) (w66) ((funext (hA_c154 66 rfl)).trans ((funext (hA_90 66 rfl)).trans ((funext (hA8 66 rfl)).trans ((funext (hA_c70 66 rfl)).trans (ew66))))) (w67) ((funext (hA_c154 67 rfl)).trans ((funext (hA_90 67 rfl)).trans ((funext (hA8 67 rfl)).trans ((funext (hA_c70 67 rfl)).trans (ew67))))) (show 1 ≤ (u6_28) by omega) (show WO ((w90_54)) ((w90_55)) from j90_4) (show TBL ((w90_54)) ((w90_55)) (sh ((w66)) (8001 * 0)) 0 ((u6_28)) by assumption) (show TBL ((w90_54)) ((w90_55)) (sh ((w66)) (8001 * 1)) 1 ((u6_28)) by assumption) (show TBL ((w90_54)) ((w90_55)) (sh ((w66)) (8001 * 2)) 2 ((u6_28)) by assumption) (show 0 ≤ (y90_6_37) ∧ (y90_6_37) ≤ 80000000 by omega) (show 17 * (u6_28) + su (mo3 ((w67))) ((u6_28) : Int).toNat ≤ 180224 by omega) (fun σ F15 A16 H hS17 hA18 y20 ey21 pz19_0 => ⟨rfl, ?_⟩))
            have r22 : (0 : Int) ≤ y20 ∧ y20 ≤ 100000000 := rngE (show (0 : Int) ≤ F15 6 37 ∧ F15 6 37 ≤ 100000000 from H.frng 6 37) (show F15 6 37 = y20 from (ey21))
            exact w_ret rfl (k σ _ _ H (SF_trans (SF_trans (SF_trans (SF_trans (SF_trans (SF_refl) hS_c70 (any_sub rfl)) hS7 (any_sub rfl)) hS_90 (any_sub rfl)) hS_c154 (any_sub rfl)) hS17 (any_sub rfl)) (SA_trans (SA_trans (SA_trans (SA_trans (SA_trans (SA_refl) hA_c70 (any_subA rfl)) hA8 (any_subA rfl)) hA_90 (any_subA rfl)) hA_c154 (any_subA rfl)) hA18 (any_subA rfl)) (y20) ((ey21)) (w90_54) ((funext (hA18 54 rfl)).trans ((funext (hA_c154 54 rfl)).trans (ew90_54))) (w90_55) ((funext (hA18 55 rfl)).trans ((funext (hA_c154 55 rfl)).trans (ew90_55))) (show (u6_37) ≤ (y20) ∧ (y20) ≤ (u6_37) + 30000 by omega) (show WO ((w90_54)) ((w90_55)) from j90_4))
          refine Ew_of (pcₚ := 142) (fun _ => x_iload_n rfl l90_2) ?_
          refine Ew_of (pcₚ := 144) (fun _ => x_ldc (z := 65536) rfl (by decide)) ?_
          refine w_icmpge (t := 154) rfl rfl (show inr (yc70_6_37) from q_1689 r3) (show inr (65536) from q_35) (fun b23 => ?_) (fun b23 => ?_)
          · exact hc154  _ σ _ _  (l90_0) H (SF_refl) (SA_refl)
          · refine Ew_of (pcₚ := 148) (fun _ => x_aload_n rfl l90_0) ?_
            refine w_gT H (o := 6) (t := 70) rfl (H.perm 6 rfl) rfl rfl rfl rfl rfl rfl ?_
            refine Ew_of (pcₚ := 152) (fun _ => x_iload_n rfl l90_2) ?_
            refine Ew_of (pcₚ := 153) (fun _ => x_iload_n rfl l90_3) ?_
            refine w_sI H (o := 70) (n := 65536) rfl (H.perm 70 rfl) rfl rfl (H.fix 70 rfl rfl) (show 0 ≤ yc70_6_37 ∧ yc70_6_37 < ((65536 : Nat) : Int) from q_1707 b23 r3) (by decide) (show (0 : Int) ≤ x90_3 ∧ x90_3 ≤ 255 from j90_7) (fun σ H => ?_)
            exact hc154  _ σ _ _  (l90_0) H (SF_refl) (SA_upd (SA_refl) rfl)   
        · refine Ew_of (pcₚ := 97) (fun _ => x_aload_n rfl l90_0) ?_
          refine Ew_of (pcₚ := 99) (fun _ => x_iload rfl l90_4) ?_
          have : ∀ j, 0 ≤ j → j < (u6_28) → (sh ((w66)) (8001 * (x90_4))) j ≤ lS ((x90_4)) := TLI_sy htl (by omega) (by omega)
          refine w_inv H (o := 6) rfl rfl rfl (H.perm 6 rfl) rfl rfl (by rfl) (M437 H (u6_28) (((((hS_90 6 28 rfl).trans (hS7 6 28 rfl)).trans (hS_c70 6 28 rfl)).trans (eu6_28))) (w90_54) (ew90_54) (w90_55) (ew90_55) (w66) ((funext (hA_90 66 rfl)).trans ((funext (hA8 66 rfl)).trans ((funext (hA_c70 66 rfl)).trans (ew66)))) (show inr (x90_4) from j90_1) (show 0 ≤ (x90_4) ∧ (x90_4) ≤ 2 from q_1540 b14 j90_2) (show 1 ≤ (u6_28) by omega) (show WO ((w90_54)) ((w90_55)) from j90_4) (show ∀ j, 0 ≤ j → j < (u6_28) → (sh ((w66)) (8001 * (x90_4))) j ≤ lS ((x90_4)) by assumption) (fun z28 σ F24 A25 H hS26 hA27 y29 ey30 wq31 ewq32 wq33 ewq34 pz28_0 pz28_1 pz28_2 pz28_3 pz28_4 pz28_5 pz28_6 => ⟨rfl, ?_⟩))
          have r35 : (0 : Int) ≤ y29 ∧ y29 ≤ 100000000 := rngE (show (0 : Int) ≤ F24 6 35 ∧ F24 6 35 ≤ 100000000 from H.frng 6 35) (show F24 6 35 = y29 from (ey30))
          have ht1 := pz28_3
          have ht2 := pz28_5
          have ht3 := pz28_6
          have : ∀ t, (0 : Int) ≤ t → t < ((x90_4) + 1) → TBL ((wq31)) ((wq33)) (sh ((w66)) (8001 * t)) t ((u6_28)) := fun t a b => by by_cases e : t = (x90_4); (rw [e]; exact ht1); exact TBL_keep (j90_t t a (by omega)) ht2 ht3 e
          refine Ew_of (pcₚ := 104) (fun _ => x_istore rfl) ?_
          refine Ew_of (pcₚ := 105) (fun _ => x_aload_n rfl (rk_o (l90_0) rfl rfl)) ?_
          refine w_inv H (o := 6) rfl rfl rfl (H.perm 6 rfl) rfl rfl (by rfl) (M394 H (y29) ((ey30)) (y90_6_37) (((hS26 6 37 rfl).trans (ey90_6_37))) (show 0 ≤ (y29) ∧ (y29) ≤ 192000 from q_2369 pz28_2 r35) (show 0 ≤ (y90_6_37) ∧ (y90_6_37) ≤ 90000000 by omega) (fun σ F36 A37 H hS38 hA39 y41 ey42 pz40_0 => ⟨rfl, ?_⟩))
          have r43 : (0 : Int) ≤ y41 ∧ y41 ≤ 100000000 := rngE (show (0 : Int) ≤ F36 6 37 ∧ F36 6 37 ≤ 100000000 from H.frng 6 37) (show F36 6 37 = y41 from (ey42))
          refine Ew_of (pcₚ := 109) (fun _ => x_iload_n rfl (rk_o (l90_3) rfl rfl)) ?_
          refine Ew_of (pcₚ := 111) (fun _ => x_iload rfl rk_s) ?_
          refine Ew_of (pcₚ := 113) (fun _ => x_bipush (z := 6) rfl (by decide)) ?_
          refine Ew_of (pcₚ := 114) (fun _ => x_iconst rfl) ?_
          refine Ew_of (pcₚ := 116) (fun _ => x_iload rfl (rk_o (l90_4) rfl rfl)) ?_
          refine w_imul rfl ?_
          refine w_isub rfl ?_
          have hp6 : (((6 - (2 * x90_4))) = 6 → p2 (((6 - (2 * x90_4)))) = 64) ∧ (((6 - (2 * x90_4))) = 4 → p2 (((6 - (2 * x90_4)))) = 16) ∧ (((6 - (2 * x90_4))) = 2 → p2 (((6 - (2 * x90_4)))) = 4) := ⟨fun q => by rw [q]; decide, fun q => by rw [q]; decide, fun q => by rw [q]; decide⟩
          have hmm : (z28) * p2 (((6 - (2 * x90_4)))) ≤ 3 * p2 (((6 - (2 * x90_4)))) := Int.mul_le_mul_of_nonneg_right (by omega) (by omega)
          have hmn : 0 ≤ (z28) * p2 (((6 - (2 * x90_4)))) := Int.mul_nonneg (by omega) (by omega)
          refine w_ishlT rfl (show 0 ≤ (6 - (2 * x90_4)) ∧ (6 - (2 * x90_4)) ≤ 31 from q_2370 b14 j90_6) ?_
          refine w_iorB rfl (show 0 ≤ x90_3 ∧ x90_3 ≤ 255 from j90_7) (show 0 ≤ (z28 * p2 ((6 - (2 * x90_4)))) ∧ (z28 * p2 ((6 - (2 * x90_4)))) ≤ 255 by omega) (fun z45 gz45 => ?_)
          refine Ew_of (pcₚ := 121) (fun _ => x_istore_n rfl) ?_
          refine Ew_of (pcₚ := 122) (fun _ => x_aload_n rfl (rk_o (rk_o (l90_0) rfl rfl) rfl rfl)) ?_
          refine w_gT H (o := 6) (t := 87) rfl (H.perm 6 rfl) rfl rfl rfl rfl rfl rfl ?_
          refine Ew_of (pcₚ := 127) (fun _ => x_bipush (z := 8) rfl (by decide)) ?_
          refine Ew_of (pcₚ := 129) (fun _ => x_iload rfl (rk_o (rk_s) rfl rfl)) ?_
          refine w_iadd rfl ?_
          refine Ew_of (pcₚ := 131) (fun _ => x_dup2 rfl rfl rfl) ?_
          refine w_lI H (o := 87) (n := 12) rfl (H.perm 87 rfl) rfl rfl (H.fix 87 rfl rfl) (show 0 ≤ (8 + z28) ∧ (8 + z28) < ((12 : Nat) : Int) from q_2371 pz28_1) (by decide) (fun v46 ev46 qv46 => ?_)
          have qv46 : (-2147483648 : Int) ≤ v46 ∧ v46 ≤ 2147483647 := qv46
          have ev46 : (A_90 87) ((8 + z28)) = v46 := (congrFun ((funext (hA39 87 rfl)).trans (funext (hA27 87 rfl))) ((8 + z28))).symm.trans ev46
          refine Ew_of (pcₚ := 133) (fun _ => x_iconst rfl) ?_
          refine w_iaddA rfl (fun z47 gz47 => ?_)
          refine w_sI H (o := 87) (n := 12) rfl (H.perm 87 rfl) rfl rfl (H.fix 87 rfl rfl) (show 0 ≤ (8 + z28) ∧ (8 + z28) < ((12 : Nat) : Int) from q_2371 pz28_1) (by decide) (show (-2147483648 : Int) ≤ z47 ∧ z47 ≤ 2147483647 from q_61 gz47) (fun σ H => ?_)
          refine Ew_of (pcₚ := 138) (fun _ => x_iinc (len := 3) rfl (rk_o (rk_o (l90_4) rfl rfl) rfl rfl)) ?_
          refine Ew_of (pcₚ := 90) (fun _ => x_goto rfl rfl) ?_
          exact ih90 _ (msE hm90 q_595 (q_596 b14)) _ σ _ _ (z45) ((x90_4 + 1)) (rk_o (rk_o (rk_o (l90_0) rfl rfl) rfl rfl) rfl rfl) (rk_o (rk_o (rk_o (l90_2) rfl rfl) rfl rfl) rfl rfl) (rk_o (rk_s) rfl rfl) (rk_s) H (SF_trans (SF_trans (hS_90) hS26 (any_sub rfl)) hS38 (any_sub rfl)) (SA_upd (SA_trans (SA_trans (hA_90) hA27 (any_subA rfl)) hA39 (any_subA rfl)) rfl) (y41) ((ey42)) (wq31) ((funext (hA39 54 rfl)).trans (ewq32)) (wq33) ((funext (hA39 55 rfl)).trans (ewq34)) (show inr (z45) by omega) (show inr ((x90_4 + 1)) from q_2373 b14 j90_6) (show (0) ≤ ((x90_4 + 1)) from q_2372 j90_6) (show ((x90_4 + 1)) ≤ (0) ∨ ((x90_4 + 1)) ≤ (3) from q_1541 b14) (show WO ((wq31)) ((wq33)) from pz28_4) (show ∀ t, (0 : Int) ≤ t → t < ((x90_4 + 1)) → TBL ((wq31)) ((wq33)) (sh ((w66)) (8001 * t)) t ((u6_28)) by assumption) (show (u6_37) ≤ (y41) ∧ (y41) ≤ (u6_37) + (4 + 100 * ((x90_4 + 1))) by omega) (show 0 ≤ (z45) ∧ (z45) ≤ 255 by omega) rfl
    · exact w_ret rfl (k σ _ _ H (SF_trans (SF_refl) hS_c70 (any_sub rfl)) (SA_trans (SA_refl) hA_c70 (any_subA rfl)) (yc70_6_37) ((eyc70_6_37)) (w54) ((funext (hA_c70 54 rfl)).trans (ew54)) (w55) ((funext (hA_c70 55 rfl)).trans (ew55)) (show (u6_37) ≤ (yc70_6_37) ∧ (yc70_6_37) ≤ (u6_37) + 30000 from q_2374 jc70_0) (show WO ((w54)) ((w55)) from h0))
  refine Ew_of (pcₚ := 6) (fun _ => x_iload_n rfl rk_s) ?_
  refine Ew_of (pcₚ := 9) (fun _ => x_sipush (z := 128) rfl (by decide)) ?_
  refine w_icmpge (t := 20) rfl rfl (show inr (u6_28) from q_1788 r1) (show inr (128) from q_53) (fun b48 => ?_) (fun b48 => ?_)
  · refine Ew_of (pcₚ := 21) (fun _ => x_iload_n rfl rk_s) ?_
    refine Ew_of (pcₚ := 24) (fun _ => x_sipush (z := 32512) rfl (by decide)) ?_
    refine w_icmpge (t := 52) rfl rfl (show inr (u6_28) from q_2376 b48 r1) (show inr (32512) from q_2375) (fun b49 => ?_) (fun b49 => ?_)
    · refine Ew_of (pcₚ := 53) (fun _ => x_aload_n rfl (rk_o (rfl) rfl rfl)) ?_
      refine Ew_of (pcₚ := 56) (fun _ => x_sipush (z := 255) rfl (by decide)) ?_
      refine w_inv H (o := 6) rfl rfl rfl (H.perm 6 rfl) rfl rfl (by rfl) (M392 H (u6_37) ((eu6_37)) (show inr (255) from q_36) (show 0 ≤ (u6_37) ∧ (u6_37) ≤ 99999999 by omega) (fun σ F50 A51 H hS52 hA53 y55 ey56 pz54_0 => ⟨rfl, ?_⟩))
      have r57 : (0 : Int) ≤ y55 ∧ y55 ≤ 100000000 := rngE (show (0 : Int) ≤ F50 6 37 ∧ F50 6 37 ≤ 100000000 from H.frng 6 37) (show F50 6 37 = y55 from (ey56))
      refine Ew_of (pcₚ := 60) (fun _ => x_aload_n rfl (rk_o (rfl) rfl rfl)) ?_
      refine Ew_of (pcₚ := 61) (fun _ => x_iload_n rfl rk_s) ?_
      refine Ew_of (pcₚ := 64) (fun _ => x_sipush (z := 32512) rfl (by decide)) ?_
      refine w_isub rfl ?_
      refine w_i2l rfl (show inr ((u6_28 - 32512)) from q_2377 b49 r1) ?_
      refine Ew_of (pcₚ := 67) (fun _ => x_iconst rfl) ?_
      refine w_inv H (o := 6) rfl rfl rfl (H.perm 6 rfl) rfl rfl (by rfl) (M393 H (y55) ((ey56)) (show inrJ ((u6_28 - 32512)) from q_2380 b49 r1) (show inr (2) from q_55) (show 0 ≤ (2) ∧ (2) ≤ 8 from q_2379) (show 0 ≤ (y55) ∧ (y55) ≤ 90000000 from q_2378 h1 pz54_0 r57) (fun σ F58 A59 H hS60 hA61 y63 ey64 pz62_0 => ⟨rfl, ?_⟩))
      have r65 : (0 : Int) ≤ y63 ∧ y63 ≤ 100000000 := rngE (show (0 : Int) ≤ F58 6 37 ∧ F58 6 37 ≤ 100000000 from H.frng 6 37) (show F58 6 37 = y63 from (ey64))
      exact hc70  _ σ _ _  (rk_o (rfl) rfl rfl) (rk_s) H (SF_trans (SF_trans (SF_refl) hS52 (any_sub rfl)) hS60 (any_sub rfl)) (SA_trans (SA_trans (SA_refl) hA53 (any_subA rfl)) hA61 (any_subA rfl)) (y63) ((ey64))  (show (u6_37) ≤ (y63) ∧ (y63) ≤ (u6_37) + 3 from q_696 pz54_0 pz62_0)
    · refine Ew_of (pcₚ := 28) (fun _ => x_aload_n rfl (rk_o (rfl) rfl rfl)) ?_
      refine Ew_of (pcₚ := 31) (fun _ => x_sipush (z := 128) rfl (by decide)) ?_
      refine Ew_of (pcₚ := 32) (fun _ => x_iload_n rfl rk_s) ?_
      refine Ew_of (pcₚ := 35) (fun _ => x_sipush (z := 256) rfl (by decide)) ?_
      refine w_idiv rfl (show inr (u6_28) ∧ 0 ≤ u6_28 from q_2381 b48 b49 r1) (show inr (256) ∧ 0 < 256 from q_210) ?_
      refine w_iadd rfl ?_
      refine w_inv H (o := 6) rfl rfl rfl (H.perm 6 rfl) rfl rfl (by rfl) (M392 H (u6_37) ((eu6_37)) (show inr ((128 + (u6_28 / 256))) from q_2382 b48 b49) (show 0 ≤ (u6_37) ∧ (u6_37) ≤ 99999999 by omega) (fun σ F66 A67 H hS68 hA69 y71 ey72 pz70_0 => ⟨rfl, ?_⟩))
      have r73 : (0 : Int) ≤ y71 ∧ y71 ≤ 100000000 := rngE (show (0 : Int) ≤ F66 6 37 ∧ F66 6 37 ≤ 100000000 from H.frng 6 37) (show F66 6 37 = y71 from (ey72))
      refine Ew_of (pcₚ := 41) (fun _ => x_aload_n rfl (rk_o (rfl) rfl rfl)) ?_
      refine Ew_of (pcₚ := 42) (fun _ => x_iload_n rfl rk_s) ?_
      refine Ew_of (pcₚ := 45) (fun _ => x_sipush (z := 256) rfl (by decide)) ?_
      refine w_irem rfl (show inr (u6_28) ∧ 0 ≤ u6_28 from q_2381 b48 b49 r1) (show inr (256) ∧ 0 < 256 from q_210) ?_
      refine w_inv H (o := 6) rfl rfl rfl (H.perm 6 rfl) rfl rfl (by rfl) (M392 H (y71) ((ey72)) (show inr ((u6_28 % 256)) from q_213) (show 0 ≤ (y71) ∧ (y71) ≤ 99999999 by omega) (fun σ F74 A75 H hS76 hA77 y79 ey80 pz78_0 => ⟨rfl, ?_⟩))
      have r81 : (0 : Int) ≤ y79 ∧ y79 ≤ 100000000 := rngE (show (0 : Int) ≤ F74 6 37 ∧ F74 6 37 ≤ 100000000 from H.frng 6 37) (show F74 6 37 = y79 from (ey80))
      refine Ew_of (pcₚ := 70) (fun _ => x_goto rfl rfl) ?_
      exact hc70  _ σ _ _  (rk_o (rfl) rfl rfl) (rk_s) H (SF_trans (SF_trans (SF_refl) hS68 (any_sub rfl)) hS76 (any_sub rfl)) (SA_trans (SA_trans (SA_refl) hA69 (any_subA rfl)) hA77 (any_subA rfl)) (y79) ((ey80))  (show (u6_37) ≤ (y79) ∧ (y79) ≤ (u6_37) + 3 from q_700 pz70_0 pz78_0)
  · refine Ew_of (pcₚ := 13) (fun _ => x_aload_n rfl (rk_o (rfl) rfl rfl)) ?_
    refine Ew_of (pcₚ := 14) (fun _ => x_iload_n rfl rk_s) ?_
    refine w_inv H (o := 6) rfl rfl rfl (H.perm 6 rfl) rfl rfl (by rfl) (M392 H (u6_37) ((eu6_37)) (show inr (u6_28) from q_2383 b48 r1) (show 0 ≤ (u6_37) ∧ (u6_37) ≤ 99999999 by omega) (fun σ F82 A83 H hS84 hA85 y87 ey88 pz86_0 => ⟨rfl, ?_⟩))
    have r89 : (0 : Int) ≤ y87 ∧ y87 ≤ 100000000 := rngE (show (0 : Int) ≤ F82 6 37 ∧ F82 6 37 ≤ 100000000 from H.frng 6 37) (show F82 6 37 = y87 from (ey88))
    refine Ew_of (pcₚ := 70) (fun _ => x_goto rfl rfl) ?_
    exact hc70  _ σ _ _  (rk_o (rfl) rfl rfl) (rk_s) H (SF_trans (SF_refl) hS84 (any_sub rfl)) (SA_trans (SA_refl) hA85 (any_subA rfl)) (y87) ((ey88))  (show (u6_37) ≤ (y87) ∧ (y87) ≤ (u6_37) + 3 from q_2384 pz86_0)
