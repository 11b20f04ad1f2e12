/-- Reader.weightsByStates -/
theorem M272 {σ0 σ : rS} {D N : Nat → Nat} {F : hF} {A : hA} {d c s : Nat} {Q : wQ} (H : HS σ0 σ D N F A) {a1 a2 : Int} (h0 : inr (a1)) (h1 : inr (a2)) (h2 : 0 ≤ (a1) ∧ (a1) ≤ 65536 ∧ 0 ≤ (a2) ∧ (a2) ≤ 65536) (k : ∀ (z : Int) σ Fₚ Aₚ, HS σ0 σ D N Fₚ Aₚ → SF [(5, 19), (5, 44), (5, 45)] F Fₚ → SA [39, 40, 41, 42, 43, 44] A Aₚ → (inr (z)) → ((z) = -1 ∨ 2 ≤ (z) ∧ (z) ≤ 255) → Q (some (I z)) σ c s) : Ew 272 (d + 2) 0 (rargs 0 [.ref (D 5), I a1, I a2]) [] σ c s Q := by
  refine Ew_of (pcₚ := 1) (fun _ => x_aload_n rfl rfl) ?_
  refine Ew_of (pcₚ := 2) (fun _ => x_iload_n rfl rfl) ?_
  refine Ew_of (pcₚ := 3) (fun _ => x_iload_n rfl rfl) ?_
  refine Ew_of (pcₚ := 5) (fun _ => x_bipush (z := 6) rfl (by decide)) ?_
  refine Ew_of (pcₚ := 7) (fun _ => x_bipush (z := 11) rfl (by decide)) ?_
  refine w_inv H (o := 5) rfl rfl rfl (H.perm 5 rfl) rfl rfl (by rfl) (M261 H (show inr (a1) from h0) (show inr (a2) from h1) (show inr (6) from q_545) (show inr (11) from q_67) (show 0 ≤ (a1) ∧ (a1) ≤ 65536 ∧ (a2) ≤ 65536 ∧ 0 ≤ (a2) from q_1149 h2) (show 6 ≤ (6) ∧ (6) ≤ 9 ∧ 0 ≤ (11) ∧ (11) ≤ 63 from q_1148) (fun z5 σ F1 A2 H hS3 hA4 y6 ey7 wq8 ewq9 pz5_0 pz5_1 pz5_2 => ⟨rfl, ?_⟩))
  have r10 : (0 : Int) ≤ y6 ∧ y6 ≤ 20 := rngE (show (0 : Int) ≤ F1 5 19 ∧ F1 5 19 ≤ 20 from H.frng 5 19) (show F1 5 19 = y6 from (ey7))
  refine Ew_of (pcₚ := 11) (fun _ => x_istore_n rfl) ?_
  refine Ew_of (pcₚ := 12) (fun _ => x_iload_n rfl rk_s) ?_
  refine w_iflt (t := 24) rfl rfl (show inr (z5) from pz5_0) (fun b11 => ?_) (fun b11 => ?_)
  · refine Ew_of (pcₚ := 25) (fun _ => x_iconst rfl) ?_
    exact w_ireturn rfl (k ((-1)) σ _ _ H (SF_trans (SF_refl) hS3 (any_sub rfl)) (SA_trans (SA_refl) hA4 (any_subA rfl)) (show inr ((-1)) from q_16) (show ((-1)) = -1 ∨ 2 ≤ ((-1)) ∧ ((-1)) ≤ 255 by first | exact q_1150 | omega))
  · refine Ew_of (pcₚ := 16) (fun _ => x_aload_n rfl (rk_o (rfl) rfl rfl)) ?_
    refine Ew_of (pcₚ := 17) (fun _ => x_iload_n rfl rk_s) ?_
    refine Ew_of (pcₚ := 18) (fun _ => x_iload_n rfl (rk_o (rfl) rfl rfl)) ?_
    refine w_inv H (o := 5) rfl rfl rfl (H.perm 5 rfl) rfl rfl (by rfl) (M267 H (show inr (z5) from pz5_0) (show inr (a2) from h1) (show 0 ≤ (z5) ∧ (z5) ≤ 65536 ∧ 0 ≤ (a2) ∧ (a2) ≤ 65536 from q_1151 b11 h2 pz5_1 pz5_2) (fun z16 σ F12 A13 H hS14 hA15 y17 ey18 y19 ey20 pz16_0 pz16_1 => ⟨rretB rfl pz16_0, ?_⟩))
    have r21 : (0 : Int) ≤ y17 ∧ y17 ≤ 524288 := rngE (show (0 : Int) ≤ F12 5 44 ∧ F12 5 44 ≤ 524288 from H.frng 5 44) (show F12 5 44 = y17 from (ey18))
    have r22 : (-100 : Int) ≤ y19 ∧ y19 ≤ 524288 := rngE (show (-100 : Int) ≤ F12 5 45 ∧ F12 5 45 ≤ 524288 from H.frng 5 45) (show F12 5 45 = y19 from (ey20))
    refine w_ifne (t := 26) rfl rfl (show inr (z16) from q_15 pz16_0) (fun b23 => ?_) (fun b23 => ?_)
    · have hsh : SH ((wq8)) 0 64 ((y6)) 11 := pz5_2 (by omega)
      have hs12 := SH_12 hsh
      have hp5 := p2_5 (o := (y6)) ⟨hsh.1, hsh.2.1⟩
      refine Ew_of (pcₚ := 27) (fun _ => x_aload_n rfl (rk_o (rfl) rfl rfl)) ?_
      refine Ew_of (pcₚ := 28) (fun _ => x_aload_n rfl (rk_o (rfl) rfl rfl)) ?_
      refine w_gT H (o := 5) (t := 39) rfl (H.perm 5 rfl) rfl rfl rfl rfl rfl rfl ?_
      refine Ew_of (pcₚ := 32) (fun _ => x_iconst rfl) ?_
      refine Ew_of (pcₚ := 34) (fun _ => x_bipush (z := 12) rfl (by decide)) ?_
      refine Ew_of (pcₚ := 35) (fun _ => x_aload_n rfl (rk_o (rfl) rfl rfl)) ?_
      refine w_gI H (o := 5) (w := y6) rfl (H.perm 5 rfl) rfl rfl rfl (fun _ => rfl) ((hS14 5 19 rfl).trans (ey7)) ?_
      refine Ew_of (pcₚ := 39) (fun _ => x_aload_n rfl (rk_o (rfl) rfl rfl)) ?_
      refine w_gT H (o := 5) (t := 42) rfl (H.perm 5 rfl) rfl rfl rfl rfl rfl rfl ?_
      refine Ew_of (pcₚ := 43) (fun _ => x_aload_n rfl (rk_o (rfl) rfl rfl)) ?_
      refine w_gT H (o := 5) (t := 43) rfl (H.perm 5 rfl) rfl rfl rfl rfl rfl rfl ?_
      refine Ew_of (pcₚ := 47) (fun _ => x_aload_n rfl (rk_o (rfl) rfl rfl)) ?_
      refine w_gT H (o := 5) (t := 44) rfl (H.perm 5 rfl) rfl rfl rfl rfl rfl rfl ?_
      refine Ew_of (pcₚ := 51) (fun _ => x_iconst rfl) ?_
      refine w_inv H (o := 5) rfl rfl rfl (H.perm 5 rfl) rfl rfl (by rfl) (M262_39_42_43_44 H (wq8) ((funext (hA15 39 rfl)).trans (ewq9)) (A 42) ((funext (hA15 42 rfl)).trans (funext (hA4 42 rfl))) (A 43) ((funext (hA15 43 rfl)).trans (funext (hA4 43 rfl))) (A 44) ((funext (hA15 44 rfl)).trans (funext (hA4 44 rfl))) (11) (show inr (0) from q_20) (show inr (12) from q_356) (show inr (y6) from q_975 r10) (show inr (0) from q_20) (show SH ((wq8)) (0) (12) (y6) (11) by assumption) (show 0 ≤ (0) ∧ 1 ≤ (12) ∧ (12) ≤ 64 ∧ (0) + (12) ≤ 256 from q_1153) (show 0 ≤ (0) ∧ (0) + p2 ((y6)) ≤ 64 by omega) (show (12) * 5 ≤ 64 from q_1152) (fun σ F24 A25 H hS26 hA27 wq29 ewq30 wq31 ewq32 wq33 ewq34 pz28_0 pz28_1 pz28_2 pz28_3 => ⟨rfl, ?_⟩))
      refine Ew_of (pcₚ := 55) (fun _ => x_aload_n rfl (rk_o (rfl) rfl rfl)) ?_
      refine w_gI H (o := 5) (w := y19) rfl (H.perm 5 rfl) rfl rfl rfl (fun _ => rfl) ((hS26 5 45 rfl).trans (ey20)) ?_
      refine Ew_of (pcₚ := 59) (fun _ => x_iconst rfl) ?_
      refine Ew_of (pcₚ := 60) (fun _ => x_aload_n rfl (rk_o (rfl) rfl rfl)) ?_
      refine w_gI H (o := 5) (w := y6) rfl (H.perm 5 rfl) rfl rfl rfl (fun _ => rfl) (((hS26 5 19 rfl).trans (hS14 5 19 rfl)).trans (ey7)) ?_
      refine w_imul rfl ?_
      refine w_icmpge (t := 69) rfl rfl (show inr (y19) from q_1155 r22) (show inr ((2 * y6)) from q_1154 r10) (fun b35 => ?_) (fun b35 => ?_)
      · refine Ew_of (pcₚ := 70) (fun _ => x_aload_n rfl (rk_o (rfl) rfl rfl)) ?_
        refine Ew_of (pcₚ := 71) (fun _ => x_aload_n rfl (rk_o (rfl) rfl rfl)) ?_
        refine w_gI H (o := 5) (w := y6) rfl (H.perm 5 rfl) rfl rfl rfl (fun _ => rfl) (((hS26 5 19 rfl).trans (hS14 5 19 rfl)).trans (ey7)) ?_
        refine w_inv H (o := 5) rfl rfl rfl (H.perm 5 rfl) rfl rfl (by rfl) (M268 H (y17) (((hS26 5 44 rfl).trans (ey18))) (y19) (((hS26 5 45 rfl).trans (ey20))) (show inr (y6) from q_975 r10) (show 0 ≤ (y6) ∧ (y6) ≤ 31 from q_977 r10) (show 0 ≤ (y17) ∧ (y17) + (y19) ≤ 524288 from q_1157 b23 h2 pz16_0 pz16_1 r21 r22) (show (y6) ≤ (y19) from q_1156 b35 r10) (fun z40 σ F36 A37 H hS38 hA39 y41 ey42 pz40_0 pz40_1 pz40_2 => ⟨rfl, ?_⟩))
        have r43 : (-100 : Int) ≤ y41 ∧ y41 ≤ 524288 := rngE (show (-100 : Int) ≤ F36 5 45 ∧ F36 5 45 ≤ 524288 from H.frng 5 45) (show F36 5 45 = y41 from (ey42))
        refine w_l2i rfl ?_
        refine Ew_of (pcₚ := 80) (fun _ => x_istore rfl) ?_
        refine Ew_of (pcₚ := 81) (fun _ => x_aload_n rfl (rk_o (rk_o (rfl) rfl rfl) rfl rfl)) ?_
        refine Ew_of (pcₚ := 82) (fun _ => x_aload_n rfl (rk_o (rk_o (rfl) rfl rfl) rfl rfl)) ?_
        refine w_gI H (o := 5) (w := y6) rfl (H.perm 5 rfl) rfl rfl rfl (fun _ => rfl) ((((hS38 5 19 rfl).trans (hS26 5 19 rfl)).trans (hS14 5 19 rfl)).trans (ey7)) ?_
        refine w_inv H (o := 5) rfl rfl rfl (H.perm 5 rfl) rfl rfl (by rfl) (M268 H (y17) ((((hS38 5 44 rfl).trans (hS26 5 44 rfl)).trans (ey18))) (y41) ((ey42)) (show inr (y6) from q_975 r10) (show 0 ≤ (y6) ∧ (y6) ≤ 31 from q_977 r10) (show 0 ≤ (y17) ∧ (y17) + (y41) ≤ 524288 from q_1159 b23 h2 pz16_0 pz16_1 pz40_1 r10 r21 r43) (show (y6) ≤ (y41) from q_1158 b35 pz40_1) (fun z48 σ F44 A45 H hS46 hA47 y49 ey50 pz48_0 pz48_1 pz48_2 => ⟨rfl, ?_⟩))
        have r51 : (-100 : Int) ≤ y49 ∧ y49 ≤ 524288 := rngE (show (-100 : Int) ≤ F44 5 45 ∧ F44 5 45 ≤ 524288 from H.frng 5 45) (show F44 5 45 = y49 from (ey50))
        refine w_l2i rfl ?_
        refine Ew_of (pcₚ := 91) (fun _ => x_istore rfl) ?_
        refine Ew_of (pcₚ := 92) (fun _ => x_iconst rfl) ?_
        refine Ew_of (pcₚ := 94) (fun _ => x_istore rfl) ?_
        refine Ew_of (pcₚ := 95) (fun _ => x_iconst rfl) ?_
        refine Ew_of (pcₚ := 97) (fun _ => x_istore rfl) ?_
        suffices hl97 : ∀ (m : Nat), ∀ (ls : rO) (σ : rS) (F_97 : hF) (A_97 : hA) (x97_4 : Int) (x97_5 : Int) (x97_6 : Int) (x97_7 : Int), rlook ls 0 = some (.ref (D 5)) → rlook ls 4 = some (I (x97_4)) → rlook ls 5 = some (I (x97_5)) → rlook ls 6 = some (I (x97_6)) → rlook ls 7 = some (I (x97_7)) → HS σ0 σ D N F_97 A_97 → SF [(5, 45)] F44 F_97 → SA [40] A45 A_97 → ∀ y97_5_45 : Int, F_97 5 45 = y97_5_45 → (inr (x97_4)) → (inr (x97_5)) → (inr (x97_6)) → (inr (x97_7)) → (0 ≤ (x97_4) ∧ (x97_4) < p2 ((y6))) → (0 ≤ (x97_5) ∧ (x97_5) < p2 ((y6))) → (0 ≤ (x97_6) ∧ (x97_6) ≤ 255) → ((x97_7) = 0 ∨ (x97_7) = 1) → (0 ≤ (y17) ∧ (y17) + (y97_5_45) ≤ 524288) → (0 ≤ (y97_5_45)) → (255 - (x97_6)).toNat = m → Ew 272 (d + 2) 97 ls [] σ c s Q from
          hl97 _ _ σ _ _ (z40) (z48) (0) (1) (rk_o (rk_o (rk_o (rk_o (rk_o (rfl) rfl rfl) rfl rfl) rfl rfl) rfl rfl) rfl rfl) (rk_o (rk_o (rk_o (rk_s) rfl rfl) rfl rfl) rfl rfl) (rk_o (rk_o (rk_s) rfl rfl) rfl rfl) (rk_o (rk_s) rfl rfl) (rk_s) H (SF_refl) (SA_refl) (y49) ((ey50))  (show inr (z40) by omega) (show inr (z48) by omega) (show inr (0) from q_20) (show inr (1) from q_23) (show 0 ≤ (z40) ∧ (z40) < p2 ((y6)) from pz40_2) (show 0 ≤ (z48) ∧ (z48) < p2 ((y6)) from pz48_2) (show 0 ≤ (0) ∧ (0) ≤ 255 from q_1162) (show (1) = 0 ∨ (1) = 1 from q_5) (show 0 ≤ (y17) ∧ (y17) + (y49) ≤ 524288 from q_1161 b23 h2 pz16_0 pz16_1 pz40_1 pz48_1 r10 r21 r51) (show 0 ≤ (y49) from q_1160 b35 pz40_1 pz48_1) rfl
        as_aux_lemma =>
        intro m
        induction m using Nat.strongRecOn with
        | _ m ih97 =>
          intro ls σ F_97 A_97 x97_4 x97_5 x97_6 x97_7 l97_0 l97_4 l97_5 l97_6 l97_7 H hS_97 hA_97 y97_5_45 ey97_5_45  j97_0 j97_1 j97_2 j97_3 j97_4 j97_5 j97_6 j97_7 j97_8 j97_9 hm97
          have r52 : (-100 : Int) ≤ y97_5_45 ∧ y97_5_45 ≤ 524288 := rngE (show (-100 : Int) ≤ F_97 5 45 ∧ F_97 5 45 ≤ 524288 from H.frng 5 45) (show F_97 5 45 = y97_5_45 from (ey97_5_45))
          refine Ew_of (pcₚ := 99) (fun _ => x_iload rfl l97_6) ?_
          refine Ew_of (pcₚ := 102) (fun _ => x_sipush (z := 255) rfl (by decide)) ?_
          refine w_icmpge (t := 253) rfl rfl (show inr (x97_6) from j97_2) (show inr (255) from q_36) (fun b53 => ?_) (fun b53 => ?_)
          · refine Ew_of (pcₚ := 254) (fun _ => x_iconst rfl) ?_
            exact w_ireturn rfl (k ((-1)) σ _ _ H (SF_trans (SF_trans (SF_trans (SF_trans (SF_trans (SF_trans (SF_refl) hS3 (any_sub rfl)) hS14 (any_sub rfl)) hS26 (any_sub rfl)) hS38 (any_sub rfl)) hS46 (any_sub rfl)) hS_97 (any_sub rfl)) (SA_trans (SA_trans (SA_trans (SA_trans (SA_trans (SA_trans (SA_refl) hA4 (any_subA rfl)) hA15 (any_subA rfl)) hA27 (any_subA rfl)) hA39 (any_subA rfl)) hA47 (any_subA rfl)) hA_97 (any_subA rfl)) (show inr ((-1)) from q_16) (show ((-1)) = -1 ∨ 2 ≤ ((-1)) ∧ ((-1)) ≤ 255 by first | exact q_1150 | omega))
          · refine Ew_of (pcₚ := 107) (fun _ => x_iload rfl l97_7) ?_
            have hc117 : ∀ (tc117_0 : Int), ∀ (ls : rO) (σ : rS) (F_c117 : hF) (A_c117 : hA) , rlook ls 0 = some (.ref (D 5)) → rlook ls 4 = some (I (x97_4)) → rlook ls 5 = some (I (x97_5)) → rlook ls 6 = some (I (x97_6)) → rlook ls 7 = some (I (x97_7)) → HS σ0 σ D N F_c117 A_c117 → SF [] F_97 F_c117 → SA [] A_97 A_c117 → (inr (tc117_0)) → (((x97_7) = (0) ∧ (tc117_0) = (x97_5)) ∨ ((x97_7) ≠ (0) ∧ (tc117_0) = (x97_4))) → Ew 272 (d + 2) 117 ls [I (tc117_0)] σ c s Q := by
             as_aux_lemma =>
              intro tc117_0 ls σ F_c117 A_c117  lc117_0 lc117_4 lc117_5 lc117_6 lc117_7 H hS_c117 hA_c117   jc117_0 jc117_1
              refine Ew_of (pcₚ := 119) (fun _ => x_istore rfl) ?_
              have hti := (show TI ((wq29)) ((wq31)) ((wq33)) 0 ((y6)) 11 from pz28_0) ((tc117_0)) (by omega) (by omega)
              rw [Int.zero_add] at hti
              have hto := (show TI ((wq29)) ((wq31)) ((wq33)) 0 ((y6)) 11 from pz28_0) ((x97_4)) (by omega) (by omega)
              rw [Int.zero_add] at hto
              have htw := (show TI ((wq29)) ((wq31)) ((wq33)) 0 ((y6)) 11 from pz28_0) ((x97_5)) (by omega) (by omega)
              rw [Int.zero_add] at htw
              refine Ew_of (pcₚ := 120) (fun _ => x_aload_n rfl (rk_o (lc117_0) rfl rfl)) ?_
              refine w_gT H (o := 5) (t := 40) rfl (H.perm 5 rfl) rfl rfl rfl rfl rfl rfl ?_
              refine Ew_of (pcₚ := 125) (fun _ => x_iload rfl (rk_o (lc117_6) rfl rfl)) ?_
              refine Ew_of (pcₚ := 126) (fun _ => x_aload_n rfl (rk_o (lc117_0) rfl rfl)) ?_
              refine w_gT H (o := 5) (t := 42) rfl (H.perm 5 rfl) rfl rfl rfl rfl rfl rfl ?_
              refine Ew_of (pcₚ := 131) (fun _ => x_iload rfl rk_s) ?_
              refine w_lI H (o := 42) (n := 64) rfl (H.perm 42 rfl) rfl rfl (H.fix 42 rfl rfl) (show 0 ≤ tc117_0 ∧ tc117_0 < ((64 : Nat) : Int) by omega) (by decide) (fun v54 ev54 qv54 => ?_)
              have qv54 : (-1 : Int) ≤ v54 ∧ v54 ≤ 11 := qv54
              have ev54 : (wq29) (tc117_0) = v54 := (congrFun ((funext (hA_c117 42 rfl)).trans ((funext (hA_97 42 rfl)).trans ((funext (hA47 42 rfl)).trans ((funext (hA39 42 rfl)).trans (ewq30))))) (tc117_0)).symm.trans ev54
              refine w_sI H (o := 40) (n := 256) rfl (H.perm 40 rfl) rfl rfl (H.fix 40 rfl rfl) (show 0 ≤ x97_6 ∧ x97_6 < ((256 : Nat) : Int) from q_1164 b53 j97_6) (by decide) (show (-1 : Int) ≤ v54 ∧ v54 ≤ 15 from q_1163 qv54) (fun σ H => ?_)
              refine Ew_of (pcₚ := 136) (fun _ => x_iinc (len := 3) rfl (rk_o (lc117_6) rfl rfl)) ?_
              refine Ew_of (pcₚ := 137) (fun _ => x_aload_n rfl (rk_o (rk_o (lc117_0) rfl rfl) rfl rfl)) ?_
              refine w_gT H (o := 5) (t := 43) rfl (H.perm 5 rfl) rfl rfl rfl rfl rfl rfl ?_
              refine Ew_of (pcₚ := 142) (fun _ => x_iload rfl (rk_o (rk_s) rfl rfl)) ?_
              refine w_lI H (o := 43) (n := 64) rfl (H.perm 43 rfl) rfl rfl (H.fix 43 rfl rfl) (show 0 ≤ tc117_0 ∧ tc117_0 < ((64 : Nat) : Int) by omega) (by decide) (fun v55 ev55 qv55 => ?_)
              have qv55 : (0 : Int) ≤ v55 ∧ v55 ≤ 6 := qv55
              have ev55 : (wq31) (tc117_0) = v55 := (congrFun ((funext (hA_c117 43 rfl)).trans ((funext (hA_97 43 rfl)).trans ((funext (hA47 43 rfl)).trans ((funext (hA39 43 rfl)).trans (ewq32))))) (tc117_0)).symm.trans ev55
              refine Ew_of (pcₚ := 145) (fun _ => x_istore rfl) ?_
              rw [ev55] at hti
              have hpb := p2_le9 (o := (v55)) (by omega)
              refine Ew_of (pcₚ := 146) (fun _ => x_aload_n rfl (rk_o (rk_o (rk_o (lc117_0) rfl rfl) rfl rfl) rfl rfl)) ?_
              refine w_gI H (o := 5) (w := y97_5_45) rfl (H.perm 5 rfl) rfl rfl rfl (fun _ => rfl) ((hS_c117 5 45 rfl).trans (ey97_5_45)) ?_
              refine Ew_of (pcₚ := 151) (fun _ => x_iload rfl rk_s) ?_
              refine w_icmpge (t := 193) rfl rfl (show inr (y97_5_45) from q_1155 r52) (show inr (v55) from q_1165 qv55) (fun b56 => ?_) (fun b56 => ?_)
              · refine Ew_of (pcₚ := 194) (fun _ => x_aload_n rfl (rk_o (rk_o (rk_o (lc117_0) rfl rfl) rfl rfl) rfl rfl)) ?_
                refine w_gT H (o := 5) (t := 44) rfl (H.perm 5 rfl) rfl rfl rfl rfl rfl rfl ?_
                refine Ew_of (pcₚ := 199) (fun _ => x_iload rfl (rk_o (rk_o (rk_s) rfl rfl) rfl rfl)) ?_
                refine w_lI H (o := 44) (n := 64) rfl (H.perm 44 rfl) rfl rfl (H.fix 44 rfl rfl) (show 0 ≤ tc117_0 ∧ tc117_0 < ((64 : Nat) : Int) by omega) (by decide) (fun v57 ev57 qv57 => ?_)
                have qv57 : (0 : Int) ≤ v57 ∧ v57 ≤ 63 := qv57
                have ev57 : (wq33) (tc117_0) = v57 := (congrFun ((funext (hA_c117 44 rfl)).trans ((funext (hA_97 44 rfl)).trans ((funext (hA47 44 rfl)).trans ((funext (hA39 44 rfl)).trans (ewq34))))) (tc117_0)).symm.trans ev57
                refine Ew_of (pcₚ := 201) (fun _ => x_aload_n rfl (rk_o (rk_o (rk_o (lc117_0) rfl rfl) rfl rfl) rfl rfl)) ?_
                refine Ew_of (pcₚ := 203) (fun _ => x_iload rfl rk_s) ?_
                refine w_inv H (o := 5) rfl rfl rfl (H.perm 5 rfl) rfl rfl (by rfl) (M268 H (y17) (((((((hS_c117 5 44 rfl).trans (hS_97 5 44 rfl)).trans (hS46 5 44 rfl)).trans (hS38 5 44 rfl)).trans (hS26 5 44 rfl)).trans (ey18))) (y97_5_45) (((hS_c117 5 45 rfl).trans (ey97_5_45))) (show inr (v55) from q_1165 qv55) (show 0 ≤ (v55) ∧ (v55) ≤ 31 from q_1166 qv55) (show 0 ≤ (y17) ∧ (y17) + (y97_5_45) ≤ 524288 from j97_8) (show (v55) ≤ (y97_5_45) from b56) (fun z62 σ F58 A59 H hS60 hA61 y63 ey64 pz62_0 pz62_1 pz62_2 => ⟨rfl, ?_⟩))
                have r65 : (-100 : Int) ≤ y63 ∧ y63 ≤ 524288 := rngE (show (-100 : Int) ≤ F58 5 45 ∧ F58 5 45 ≤ 524288 from H.frng 5 45) (show F58 5 45 = y63 from (ey64))
                refine w_l2i rfl ?_
                refine w_iadd rfl ?_
                refine Ew_of (pcₚ := 210) (fun _ => x_istore rfl) ?_
                refine Ew_of (pcₚ := 212) (fun _ => x_iload rfl (rk_o (rk_o (rk_o (rk_o (lc117_7) rfl rfl) rfl rfl) rfl rfl) rfl rfl)) ?_
                have hc222 : ∀ (tc222_0 : Int), ∀ (ls : rO) (σ : rS) (F_c222 : hF) (A_c222 : hA) , rlook ls 0 = some (.ref (D 5)) → rlook ls 5 = some (I (x97_5)) → rlook ls 6 = some (I ((x97_6 + 1))) → rlook ls 7 = some (I (x97_7)) → rlook ls 8 = some (I ((v57 + z62))) → HS σ0 σ D N F_c222 A_c222 → SF [] F58 F_c222 → SA [] A59 A_c222 → (inr (tc222_0)) → (((x97_7) = (0) ∧ (tc222_0) = (x97_4)) ∨ ((x97_7) ≠ (0) ∧ (tc222_0) = ((v57 + z62)))) → Ew 272 (d + 2) 222 ls [I (tc222_0)] σ c s Q := by
                 as_aux_lemma =>
                  intro tc222_0 ls σ F_c222 A_c222  lc222_0 lc222_5 lc222_6 lc222_7 lc222_8 H hS_c222 hA_c222   jc222_0 jc222_1
                  refine Ew_of (pcₚ := 224) (fun _ => x_istore rfl) ?_
                  refine Ew_of (pcₚ := 226) (fun _ => x_iload rfl (rk_o (lc222_7) rfl rfl)) ?_
                  have hc236 : ∀ (tc236_0 : Int), ∀ (ls : rO) (σ : rS) (F_c236 : hF) (A_c236 : hA) , rlook ls 0 = some (.ref (D 5)) → rlook ls 4 = some (I (tc222_0)) → rlook ls 6 = some (I ((x97_6 + 1))) → rlook ls 7 = some (I (x97_7)) → HS σ0 σ D N F_c236 A_c236 → SF [] F_c222 F_c236 → SA [] A_c222 A_c236 → (inr (tc236_0)) → (((x97_7) = (0) ∧ (tc236_0) = ((v57 + z62))) ∨ ((x97_7) ≠ (0) ∧ (tc236_0) = (x97_5))) → Ew 272 (d + 2) 236 ls [I (tc236_0)] σ c s Q := by
                   as_aux_lemma =>
                    intro tc236_0 ls σ F_c236 A_c236  lc236_0 lc236_4 lc236_6 lc236_7 H hS_c236 hA_c236   jc236_0 jc236_1
                    refine Ew_of (pcₚ := 238) (fun _ => x_istore rfl) ?_
                    refine Ew_of (pcₚ := 240) (fun _ => x_iload rfl (rk_o (lc236_7) rfl rfl)) ?_
                    refine w_ifne (t := 247) rfl rfl (show inr (x97_7) from j97_3) (fun b66 => ?_) (fun b66 => ?_)
                    · refine Ew_of (pcₚ := 248) (fun _ => x_iconst rfl) ?_
                      refine Ew_of (pcₚ := 250) (fun _ => x_istore rfl) ?_
                      refine Ew_of (pcₚ := 97) (fun _ => x_goto rfl rfl) ?_
                      exact ih97 _ (msE hm97 q_1171 (q_1172 b53)) _ σ _ _ (tc222_0) (tc236_0) ((x97_6 + 1)) (0) (rk_o (rk_o (lc236_0) rfl rfl) rfl rfl) (rk_o (rk_o (lc236_4) rfl rfl) rfl rfl) (rk_o (rk_s) rfl rfl) (rk_o (rk_o (lc236_6) rfl rfl) rfl rfl) (rk_s) H (SF_trans (SF_trans (SF_trans (SF_trans (hS_97) hS_c117 (any_sub rfl)) hS60 (any_sub rfl)) hS_c222 (any_sub rfl)) hS_c236 (any_sub rfl)) (SA_trans (SA_trans (SA_trans (SA_upd (SA_trans (hA_97) hA_c117 (any_subA rfl)) rfl) hA61 (any_subA rfl)) hA_c222 (any_subA rfl)) hA_c236 (any_subA rfl)) (y63) ((((hS_c236 5 45 rfl).trans (hS_c222 5 45 rfl)).trans (ey64)))  (show inr (tc222_0) from jc222_0) (show inr (tc236_0) from jc236_0) (show inr ((x97_6 + 1)) from q_1170 b53 j97_6) (show inr (0) from q_20) (show 0 ≤ (tc222_0) ∧ (tc222_0) < p2 ((y6)) by omega) (show 0 ≤ (tc236_0) ∧ (tc236_0) < p2 ((y6)) by omega) (show 0 ≤ ((x97_6 + 1)) ∧ ((x97_6 + 1)) ≤ 255 from q_1169 b53 j97_6) (show (0) = 0 ∨ (0) = 1 from q_1) (show 0 ≤ (y17) ∧ (y17) + (y63) ≤ 524288 from q_1168 j97_8 pz62_1 qv55) (show 0 ≤ (y63) from q_1167 b56 pz62_1) rfl
                    · refine Ew_of (pcₚ := 244) (fun _ => x_iconst rfl) ?_
                      refine Ew_of (pcₚ := 248) (fun _ => x_goto rfl rfl) ?_
                      refine Ew_of (pcₚ := 250) (fun _ => x_istore rfl) ?_
                      refine Ew_of (pcₚ := 97) (fun _ => x_goto rfl rfl) ?_
                      exact ih97 _ (msE hm97 q_1171 (q_1172 b53)) _ σ _ _ (tc222_0) (tc236_0) ((x97_6 + 1)) (1) (rk_o (rk_o (lc236_0) rfl rfl) rfl rfl) (rk_o (rk_o (lc236_4) rfl rfl) rfl rfl) (rk_o (rk_s) rfl rfl) (rk_o (rk_o (lc236_6) rfl rfl) rfl rfl) (rk_s) H (SF_trans (SF_trans (SF_trans (SF_trans (hS_97) hS_c117 (any_sub rfl)) hS60 (any_sub rfl)) hS_c222 (any_sub rfl)) hS_c236 (any_sub rfl)) (SA_trans (SA_trans (SA_trans (SA_upd (SA_trans (hA_97) hA_c117 (any_subA rfl)) rfl) hA61 (any_subA rfl)) hA_c222 (any_subA rfl)) hA_c236 (any_subA rfl)) (y63) ((((hS_c236 5 45 rfl).trans (hS_c222 5 45 rfl)).trans (ey64)))  (show inr (tc222_0) from jc222_0) (show inr (tc236_0) from jc236_0) (show inr ((x97_6 + 1)) from q_1170 b53 j97_6) (show inr (1) from q_23) (show 0 ≤ (tc222_0) ∧ (tc222_0) < p2 ((y6)) by omega) (show 0 ≤ (tc236_0) ∧ (tc236_0) < p2 ((y6)) by omega) (show 0 ≤ ((x97_6 + 1)) ∧ ((x97_6 + 1)) ≤ 255 from q_1169 b53 j97_6) (show (1) = 0 ∨ (1) = 1 from q_5) (show 0 ≤ (y17) ∧ (y17) + (y63) ≤ 524288 from q_1168 j97_8 pz62_1 qv55) (show 0 ≤ (y63) from q_1167 b56 pz62_1) rfl
                  refine w_ifeq (t := 234) rfl rfl (show inr (x97_7) from j97_3) (fun b67 => ?_) (fun b67 => ?_)
                  · refine Ew_of (pcₚ := 236) (fun _ => x_iload rfl (rk_o (lc222_8) rfl rfl)) ?_
                    exact hc236 ((v57 + z62)) _ σ _ _  (rk_o (lc222_0) rfl rfl) (rk_s) (rk_o (lc222_6) rfl rfl) (rk_o (lc222_7) rfl rfl) H (SF_refl) (SA_refl)   (show inr ((v57 + z62)) by omega) (show ((x97_7) = (0) ∧ ((v57 + z62)) = ((v57 + z62))) ∨ ((x97_7) ≠ (0) ∧ ((v57 + z62)) = (x97_5)) from q_1173 b67)
                  · refine Ew_of (pcₚ := 231) (fun _ => x_iload rfl (rk_o (lc222_5) rfl rfl)) ?_
                    refine Ew_of (pcₚ := 236) (fun _ => x_goto rfl rfl) ?_
                    exact hc236 (x97_5) _ σ _ _  (rk_o (lc222_0) rfl rfl) (rk_s) (rk_o (lc222_6) rfl rfl) (rk_o (lc222_7) rfl rfl) H (SF_refl) (SA_refl)   (show inr (x97_5) from j97_1) (show ((x97_7) = (0) ∧ (x97_5) = ((v57 + z62))) ∨ ((x97_7) ≠ (0) ∧ (x97_5) = (x97_5)) from q_1174 b67)
                refine w_ifeq (t := 220) rfl rfl (show inr (x97_7) from j97_3) (fun b68 => ?_) (fun b68 => ?_)
                · refine Ew_of (pcₚ := 222) (fun _ => x_iload rfl (rk_o (rk_o (rk_o (rk_o (lc117_4) rfl rfl) rfl rfl) rfl rfl) rfl rfl)) ?_
                  exact hc222 (x97_4) _ σ _ _  (rk_o (rk_o (rk_o (rk_o (lc117_0) rfl rfl) rfl rfl) rfl rfl) rfl rfl) (rk_o (rk_o (rk_o (rk_o (lc117_5) rfl rfl) rfl rfl) rfl rfl) rfl rfl) (rk_o (rk_o (rk_s) rfl rfl) rfl rfl) (rk_o (rk_o (rk_o (rk_o (lc117_7) rfl rfl) rfl rfl) rfl rfl) rfl rfl) (rk_s) H (SF_refl) (SA_refl)   (show inr (x97_4) from j97_0) (show ((x97_7) = (0) ∧ (x97_4) = (x97_4)) ∨ ((x97_7) ≠ (0) ∧ (x97_4) = ((v57 + z62))) from q_1175 b68)
                · refine Ew_of (pcₚ := 217) (fun _ => x_iload rfl rk_s) ?_
                  refine Ew_of (pcₚ := 222) (fun _ => x_goto rfl rfl) ?_
                  exact hc222 ((v57 + z62)) _ σ _ _  (rk_o (rk_o (rk_o (rk_o (lc117_0) rfl rfl) rfl rfl) rfl rfl) rfl rfl) (rk_o (rk_o (rk_o (rk_o (lc117_5) rfl rfl) rfl rfl) rfl rfl) rfl rfl) (rk_o (rk_o (rk_s) rfl rfl) rfl rfl) (rk_o (rk_o (rk_o (rk_o (lc117_7) rfl rfl) rfl rfl) rfl rfl) rfl rfl) (rk_s) H (SF_refl) (SA_refl)   (show inr ((v57 + z62)) by omega) (show ((x97_7) = (0) ∧ ((v57 + z62)) = (x97_4)) ∨ ((x97_7) ≠ (0) ∧ ((v57 + z62)) = ((v57 + z62))) from q_1176 b68)
              · refine Ew_of (pcₚ := 156) (fun _ => x_iload rfl (rk_o (rk_s) rfl rfl)) ?_
                refine Ew_of (pcₚ := 159) (fun _ => x_sipush (z := 255) rfl (by decide)) ?_
                refine w_icmpne (t := 164) rfl rfl (show inr ((x97_6 + 1)) from q_1170 b53 j97_6) (show inr (255) from q_36) (fun b69 => ?_) (fun b69 => ?_)
                · refine Ew_of (pcₚ := 165) (fun _ => x_aload_n rfl (rk_o (rk_o (rk_o (lc117_0) rfl rfl) rfl rfl) rfl rfl)) ?_
                  refine w_gT H (o := 5) (t := 40) rfl (H.perm 5 rfl) rfl rfl rfl rfl rfl rfl ?_
                  refine Ew_of (pcₚ := 170) (fun _ => x_iload rfl (rk_o (rk_s) rfl rfl)) ?_
                  refine Ew_of (pcₚ := 171) (fun _ => x_aload_n rfl (rk_o (rk_o (rk_o (lc117_0) rfl rfl) rfl rfl) rfl rfl)) ?_
                  refine w_gT H (o := 5) (t := 42) rfl (H.perm 5 rfl) rfl rfl rfl rfl rfl rfl ?_
                  refine Ew_of (pcₚ := 176) (fun _ => x_iload rfl (rk_o (rk_o (rk_o (lc117_7) rfl rfl) rfl rfl) rfl rfl)) ?_
                  have hc186 : ∀ (tc186_0 : Int), ∀ (ls : rO) (σ : rS) (F_c186 : hF) (A_c186 : hA) , rlook ls 6 = some (I ((x97_6 + 1))) → HS σ0 σ D N F_c186 A_c186 → SF [] F_c117 F_c186 → SA [] (updA A_c117 40 (x97_6) (v54)) A_c186 → (inr (tc186_0)) → (((x97_7) = (0) ∧ (tc186_0) = (x97_4)) ∨ ((x97_7) ≠ (0) ∧ (tc186_0) = (x97_5))) → Ew 272 (d + 2) 186 ls [I (tc186_0), .ref (D 42), I ((x97_6 + 1)), .ref (D 40)] σ c s Q := by
                   as_aux_lemma =>
                    intro tc186_0 ls σ F_c186 A_c186  lc186_6 H hS_c186 hA_c186   jc186_0 jc186_1
                    refine w_lI H (o := 42) (n := 64) rfl (H.perm 42 rfl) rfl rfl (H.fix 42 rfl rfl) (show 0 ≤ tc186_0 ∧ tc186_0 < ((64 : Nat) : Int) by omega) (by decide) (fun v70 ev70 qv70 => ?_)
                    have qv70 : (-1 : Int) ≤ v70 ∧ v70 ≤ 11 := qv70
                    have ev70 : (wq29) (tc186_0) = v70 := (congrFun ((funext (hA_c186 42 rfl)).trans ((funext (hA_c117 42 rfl)).trans ((funext (hA_97 42 rfl)).trans ((funext (hA47 42 rfl)).trans ((funext (hA39 42 rfl)).trans (ewq30)))))) (tc186_0)).symm.trans ev70
                    refine w_sI H (o := 40) (n := 256) rfl (H.perm 40 rfl) rfl rfl (H.fix 40 rfl rfl) (show 0 ≤ (x97_6 + 1) ∧ (x97_6 + 1) < ((256 : Nat) : Int) from q_1177 b53 j97_6) (by decide) (show (-1 : Int) ≤ v70 ∧ v70 ≤ 15 from q_1163 qv70) (fun σ H => ?_)
                    refine Ew_of (pcₚ := 190) (fun _ => x_iload rfl lc186_6) ?_
                    refine Ew_of (pcₚ := 191) (fun _ => x_iconst rfl) ?_
                    refine w_iadd rfl ?_
                    exact w_ireturn rfl (k (((x97_6 + 1) + 1)) σ _ _ H (SF_trans (SF_trans (SF_trans (SF_trans (SF_trans (SF_trans (SF_trans (SF_trans (SF_refl) hS3 (any_sub rfl)) hS14 (any_sub rfl)) hS26 (any_sub rfl)) hS38 (any_sub rfl)) hS46 (any_sub rfl)) hS_97 (any_sub rfl)) hS_c117 (any_sub rfl)) hS_c186 (any_sub rfl)) (SA_upd (SA_trans (SA_upd (SA_trans (SA_trans (SA_trans (SA_trans (SA_trans (SA_trans (SA_trans (SA_refl) hA4 (any_subA rfl)) hA15 (any_subA rfl)) hA27 (any_subA rfl)) hA39 (any_subA rfl)) hA47 (any_subA rfl)) hA_97 (any_subA rfl)) hA_c117 (any_subA rfl)) rfl) hA_c186 (any_subA rfl)) rfl) (show inr (((x97_6 + 1) + 1)) from q_1178 b53 j97_6) (show (((x97_6 + 1) + 1)) = -1 ∨ 2 ≤ (((x97_6 + 1) + 1)) ∧ (((x97_6 + 1) + 1)) ≤ 255 by omega))
                  refine w_ifeq (t := 184) rfl rfl (show inr (x97_7) from j97_3) (fun b71 => ?_) (fun b71 => ?_)
                  · refine Ew_of (pcₚ := 186) (fun _ => x_iload rfl (rk_o (rk_o (rk_o (lc117_4) rfl rfl) rfl rfl) rfl rfl)) ?_
                    exact hc186 (x97_4) _ σ _ _  (rk_o (rk_s) rfl rfl) H (SF_refl) (SA_refl)   (show inr (x97_4) from j97_0) (show ((x97_7) = (0) ∧ (x97_4) = (x97_4)) ∨ ((x97_7) ≠ (0) ∧ (x97_4) = (x97_5)) from q_1179 b71)
                  · refine Ew_of (pcₚ := 181) (fun _ => x_iload rfl (rk_o (rk_o (rk_o (lc117_5) rfl rfl) rfl rfl) rfl rfl)) ?_
                    refine Ew_of (pcₚ := 186) (fun _ => x_goto rfl rfl) ?_
                    exact hc186 (x97_5) _ σ _ _  (rk_o (rk_s) rfl rfl) H (SF_refl) (SA_refl)   (show inr (x97_5) from j97_1) (show ((x97_7) = (0) ∧ (x97_5) = (x97_4)) ∨ ((x97_7) ≠ (0) ∧ (x97_5) = (x97_5)) from q_1180 b71)
                · refine Ew_of (pcₚ := 163) (fun _ => x_iconst rfl) ?_
                  exact w_ireturn rfl (k ((-1)) σ _ _ H (SF_trans (SF_trans (SF_trans (SF_trans (SF_trans (SF_trans (SF_trans (SF_refl) hS3 (any_sub rfl)) hS14 (any_sub rfl)) hS26 (any_sub rfl)) hS38 (any_sub rfl)) hS46 (any_sub rfl)) hS_97 (any_sub rfl)) hS_c117 (any_sub rfl)) (SA_upd (SA_trans (SA_trans (SA_trans (SA_trans (SA_trans (SA_trans (SA_trans (SA_refl) hA4 (any_subA rfl)) hA15 (any_subA rfl)) hA27 (any_subA rfl)) hA39 (any_subA rfl)) hA47 (any_subA rfl)) hA_97 (any_subA rfl)) hA_c117 (any_subA rfl)) rfl) (show inr ((-1)) from q_16) (show ((-1)) = -1 ∨ 2 ≤ ((-1)) ∧ ((-1)) ≤ 255 by first | exact q_1150 | omega))
            refine w_ifeq (t := 115) rfl rfl (show inr (x97_7) from j97_3) (fun b72 => ?_) (fun b72 => ?_)
            · refine Ew_of (pcₚ := 117) (fun _ => x_iload rfl l97_5) ?_
              exact hc117 (x97_5) _ σ _ _  (l97_0) (l97_4) (l97_5) (l97_6) (l97_7) H (SF_refl) (SA_refl)   (show inr (x97_5) from j97_1) (show ((x97_7) = (0) ∧ (x97_5) = (x97_5)) ∨ ((x97_7) ≠ (0) ∧ (x97_5) = (x97_4)) from q_1179 b72)
            · refine Ew_of (pcₚ := 112) (fun _ => x_iload rfl l97_4) ?_
              refine Ew_of (pcₚ := 117) (fun _ => x_goto rfl rfl) ?_
              exact hc117 (x97_4) _ σ _ _  (l97_0) (l97_4) (l97_5) (l97_6) (l97_7) H (SF_refl) (SA_refl)   (show inr (x97_4) from j97_0) (show ((x97_7) = (0) ∧ (x97_4) = (x97_5)) ∨ ((x97_7) ≠ (0) ∧ (x97_4) = (x97_4)) from q_1180 b72)
      · refine Ew_of (pcₚ := 68) (fun _ => x_iconst rfl) ?_
        exact w_ireturn rfl (k ((-1)) σ _ _ H (SF_trans (SF_trans (SF_trans (SF_refl) hS3 (any_sub rfl)) hS14 (any_sub rfl)) hS26 (any_sub rfl)) (SA_trans (SA_trans (SA_trans (SA_refl) hA4 (any_subA rfl)) hA15 (any_subA rfl)) hA27 (any_subA rfl)) (show inr ((-1)) from q_16) (show ((-1)) = -1 ∨ 2 ≤ ((-1)) ∧ ((-1)) ≤ 255 by first | exact q_1150 | omega))
    · refine Ew_of (pcₚ := 25) (fun _ => x_iconst rfl) ?_
      exact w_ireturn rfl (k ((-1)) σ _ _ H (SF_trans (SF_trans (SF_refl) hS3 (any_sub rfl)) hS14 (any_sub rfl)) (SA_trans (SA_trans (SA_refl) hA4 (any_subA rfl)) hA15 (any_subA rfl)) (show inr ((-1)) from q_16) (show ((-1)) = -1 ∨ 2 ≤ ((-1)) ∧ ((-1)) ≤ 255 by first | exact q_1150 | omega))
/-- Reader.decode -/
theorem M273 {σ0 σ : rS} {D N : Nat → Nat} {F : hF} {A : hA} {d c s : Nat} {Q : wQ} (H : HS σ0 σ D N F A) {a1 a2 a3 : Int} (u5_39 : Int) (eu5_39 : F 5 39 = u5_39) (h0 : inr (a1)) (h1 : inr (a2)) (h2 : inr (a3)) (h3 : 0 ≤ (a1) ∧ (a1) ≤ 65536 ∧ 0 ≤ (a2) ∧ (a2) ≤ 65536) (h4 : 0 ≤ (a3) ∧ (u5_39) + (a3) ≤ 131072) (k : ∀ (z : Int) σ Fₚ Aₚ, HS σ0 σ D N Fₚ Aₚ → SF [(5, 39), (5, 44), (5, 45)] F Fₚ → SA [46] A Aₚ → ∀ y5_39 : Int, Fₚ 5 39 = y5_39 → ((z) = 0 ∨ (z) = 1) → ((u5_39) ≤ (y5_39) ∧ (y5_39) ≤ (u5_39) + (a3)) → Q (some (I z)) σ c s) : Ew 273 (d + 2) 0 (rargs 0 [.ref (D 5), I a1, I a2, I a3]) [] σ c s Q := by
  have r1 : (0 : Int) ≤ u5_39 ∧ u5_39 ≤ 131072 := rngE (show (0 : Int) ≤ F 5 39 ∧ F 5 39 ≤ 131072 from H.frng 5 39) (show F 5 39 = u5_39 from (eu5_39))
  refine Ew_of (pcₚ := 1) (fun _ => x_aload_n rfl rfl) ?_
  refine Ew_of (pcₚ := 2) (fun _ => x_iload_n rfl rfl) ?_
  refine Ew_of (pcₚ := 3) (fun _ => x_iload_n rfl rfl) ?_
  refine w_inv H (o := 5) rfl rfl rfl (H.perm 5 rfl) rfl rfl (by rfl) (M267 H (show inr (a1) from h0) (show inr (a2) from h1) (show 0 ≤ (a1) ∧ (a1) ≤ 65536 ∧ 0 ≤ (a2) ∧ (a2) ≤ 65536 from h3) (fun z6 σ F2 A3 H hS4 hA5 y7 ey8 y9 ey10 pz6_0 pz6_1 => ⟨rretB rfl pz6_0, ?_⟩))
  have r11 : (0 : Int) ≤ y7 ∧ y7 ≤ 524288 := rngE (show (0 : Int) ≤ F2 5 44 ∧ F2 5 44 ≤ 524288 from H.frng 5 44) (show F2 5 44 = y7 from (ey8))
  have r12 : (-100 : Int) ≤ y9 ∧ y9 ≤ 524288 := rngE (show (-100 : Int) ≤ F2 5 45 ∧ F2 5 45 ≤ 524288 from H.frng 5 45) (show F2 5 45 = y9 from (ey10))
  refine w_ifne (t := 11) rfl rfl (show inr (z6) from q_15 pz6_0) (fun b13 => ?_) (fun b13 => ?_)
  · refine Ew_of (pcₚ := 12) (fun _ => x_iconst rfl) ?_
    refine Ew_of (pcₚ := 14) (fun _ => x_istore rfl) ?_
    suffices hl14 : ∀ (m : Nat), ∀ (ls : rO) (σ : rS) (F_14 : hF) (A_14 : hA) (x14_4 : Int), rlook ls 0 = some (.ref (D 5)) → rlook ls 3 = some (I (a3)) → rlook ls 4 = some (I (x14_4)) → HS σ0 σ D N F_14 A_14 → SF [(5, 39), (5, 45)] F2 F_14 → SA [46] A3 A_14 → ∀ y14_5_39 : Int, F_14 5 39 = y14_5_39 → ∀ y14_5_45 : Int, F_14 5 45 = y14_5_45 → (inr (x14_4)) → ((0) ≤ (x14_4)) → ((x14_4) ≤ (0) ∨ (x14_4) ≤ ((a3))) → ((y14_5_39) = (u5_39) + (x14_4)) → (0 ≤ (y14_5_45)) → (0 ≤ (y7) ∧ (y7) + (y14_5_45) ≤ 524288) → (((a3)) - (x14_4)).toNat = m → Ew 273 (d + 2) 14 ls [] σ c s Q from
      hl14 _ _ σ _ _ (0) (rk_o (rfl) rfl rfl) (rk_o (rfl) rfl rfl) (rk_s) H (SF_refl) (SA_refl) (u5_39) (((hS4 5 39 rfl).trans (eu5_39))) (y9) ((ey10))  (show inr (0) from q_20) (show (0) ≤ (0) from q_25) (show (0) ≤ (0) ∨ (0) ≤ ((a3)) from q_24) (show (u5_39) = (u5_39) + (0) from q_110) (show 0 ≤ (y9) from q_1182 b13 pz6_0 pz6_1) (show 0 ≤ (y7) ∧ (y7) + (y9) ≤ 524288 from q_1181 b13 h3 pz6_0 pz6_1 r11 r12) rfl
    as_aux_lemma =>
    intro m
    induction m using Nat.strongRecOn with
    | _ m ih14 =>
      intro ls σ F_14 A_14 x14_4 l14_0 l14_3 l14_4 H hS_14 hA_14 y14_5_39 ey14_5_39 y14_5_45 ey14_5_45  j14_0 j14_1 j14_2 j14_3 j14_4 j14_5 hm14
      have r14 : (0 : Int) ≤ y14_5_39 ∧ y14_5_39 ≤ 131072 := rngE (show (0 : Int) ≤ F_14 5 39 ∧ F_14 5 39 ≤ 131072 from H.frng 5 39) (show F_14 5 39 = y14_5_39 from (ey14_5_39))
      have r15 : (-100 : Int) ≤ y14_5_45 ∧ y14_5_45 ≤ 524288 := rngE (show (-100 : Int) ≤ F_14 5 45 ∧ F_14 5 45 ≤ 524288 from H.frng 5 45) (show F_14 5 45 = y14_5_45 from (ey14_5_45))
      refine Ew_of (pcₚ := 16) (fun _ => x_iload rfl l14_4) ?_
      refine Ew_of (pcₚ := 17) (fun _ => x_iload_n rfl l14_3) ?_
      refine w_icmpge (t := 139) rfl rfl (show inr (x14_4) from j14_0) (show inr (a3) from h2) (fun b16 => ?_) (fun b16 => ?_)
      · refine Ew_of (pcₚ := 140) (fun _ => x_aload_n rfl l14_0) ?_
        refine w_gI H (o := 5) (w := y14_5_45) rfl (H.perm 5 rfl) rfl rfl rfl (fun _ => rfl) (ey14_5_45) ?_
        refine w_ifne (t := 150) rfl rfl (show inr (y14_5_45) from q_1155 r15) (fun b17 => ?_) (fun b17 => ?_)
        · refine Ew_of (pcₚ := 151) (fun _ => x_iconst rfl) ?_
          exact w_ireturn rfl (k (0) σ _ _ H (SF_trans (SF_trans (SF_refl) hS4 (any_sub rfl)) hS_14 (any_sub rfl)) (SA_trans (SA_trans (SA_refl) hA5 (any_subA rfl)) hA_14 (any_subA rfl)) (y14_5_39) ((ey14_5_39)) (show (0) = 0 ∨ (0) = 1 by first | exact q_1 | omega) (show (u5_39) ≤ (y14_5_39) ∧ (y14_5_39) ≤ (u5_39) + a3 from q_1183 h4 j14_1 j14_2 j14_3))
        · refine Ew_of (pcₚ := 147) (fun _ => x_iconst rfl) ?_
          refine Ew_of (pcₚ := 151) (fun _ => x_goto rfl rfl) ?_
          exact w_ireturn rfl (k (1) σ _ _ H (SF_trans (SF_trans (SF_refl) hS4 (any_sub rfl)) hS_14 (any_sub rfl)) (SA_trans (SA_trans (SA_refl) hA5 (any_subA rfl)) hA_14 (any_subA rfl)) (y14_5_39) ((ey14_5_39)) (show (1) = 0 ∨ (1) = 1 by first | exact q_5 | omega) (show (u5_39) ≤ (y14_5_39) ∧ (y14_5_39) ≤ (u5_39) + a3 from q_1183 h4 j14_1 j14_2 j14_3))
      · refine Ew_of (pcₚ := 21) (fun _ => x_iconst rfl) ?_
        refine Ew_of (pcₚ := 23) (fun _ => x_istore rfl) ?_
        refine Ew_of (pcₚ := 24) (fun _ => x_iconst rfl) ?_
        refine Ew_of (pcₚ := 26) (fun _ => x_istore rfl) ?_
        have : p2 (1 - 1) = 1 := by decide
        have r18 : (0 : Int) ≤ F 5 10 ∧ F 5 10 ≤ 11 := rngE (show (0 : Int) ≤ F_14 5 10 ∧ F_14 5 10 ≤ 11 from H.frng 5 10) (show F_14 5 10 = F 5 10 from ((hS_14 5 10 rfl).trans (hS4 5 10 rfl)))
        suffices hl26 : ∀ (m : Nat), ∀ (ls : rO) (σ : rS) (F_26 : hF) (A_26 : hA) (x26_5 : Int) (x26_6 : Int), rlook ls 0 = some (.ref (D 5)) → rlook ls 3 = some (I (a3)) → rlook ls 4 = some (I (x14_4)) → rlook ls 5 = some (I (x26_5)) → rlook ls 6 = some (I (x26_6)) → HS σ0 σ D N F_26 A_26 → SF [] F_14 F_26 → SA [] A_14 A_26 → (inr (x26_5)) → (inr (x26_6)) → ((1) ≤ (x26_6)) → ((x26_6) ≤ (1) ∨ (x26_6) ≤ (((F 5 10) + 1))) → (1 ≤ (x26_6)) → (0 ≤ (x26_5) ∧ (x26_5) < p2 ((x26_6) - 1)) → ((((F 5 10) + 1)) - (x26_6)).toNat = m → Ew 273 (d + 2) 26 ls [] σ c s Q from
          hl26 _ _ σ _ _ (0) (1) (rk_o (rk_o (l14_0) rfl rfl) rfl rfl) (rk_o (rk_o (l14_3) rfl rfl) rfl rfl) (rk_o (rk_o (l14_4) rfl rfl) rfl rfl) (rk_o (rk_s) rfl rfl) (rk_s) H (SF_refl) (SA_refl)   (show inr (0) from q_20) (show inr (1) from q_23) (show (1) ≤ (1) from q_1136) (show (1) ≤ (1) ∨ (1) ≤ (((F 5 10) + 1)) from q_1137) (show 1 ≤ (1) from q_1136) (show 0 ≤ (0) ∧ (0) < p2 ((1) - 1) by omega) rfl
        as_aux_lemma =>
        intro m
        induction m using Nat.strongRecOn with
        | _ m ih26 =>
          intro ls σ F_26 A_26 x26_5 x26_6 l26_0 l26_3 l26_4 l26_5 l26_6 H hS_26 hA_26   j26_0 j26_1 j26_2 j26_3 j26_4 j26_5 hm26
          refine Ew_of (pcₚ := 28) (fun _ => x_iload rfl l26_6) ?_
          refine Ew_of (pcₚ := 29) (fun _ => x_aload_n rfl l26_0) ?_
          refine w_gI H (o := 5) (w := F 5 10) rfl (H.perm 5 rfl) rfl rfl rfl (fun _ => rfl) (((hS_26 5 10 rfl).trans (hS_14 5 10 rfl)).trans (hS4 5 10 rfl)) ?_
          refine w_icmpgt (t := 78) rfl rfl (show inr (x26_6) from j26_1) (show inr (F 5 10) from q_1138 r18) (fun b19 => ?_) (fun b19 => ?_)
          · have : p2 ((x26_6) - 1) ≤ p2 11 := p2_mono (by omega)
            have : p2 11 = 2048 := by decide
            refine Ew_of (pcₚ := 79) (fun _ => x_aload_n rfl l26_0) ?_
            refine w_gT H (o := 5) (t := 32) rfl (H.perm 5 rfl) rfl rfl rfl rfl rfl rfl ?_
            refine Ew_of (pcₚ := 84) (fun _ => x_iload rfl l26_5) ?_
            refine w_lI H (o := 32) (n := 2048) rfl (H.perm 32 rfl) rfl rfl (H.fix 32 rfl rfl) (show 0 ≤ x26_5 ∧ x26_5 < ((2048 : Nat) : Int) by omega) (by decide) (fun v20 ev20 qv20 => ?_)
            have qv20 : (0 : Int) ≤ v20 ∧ v20 ≤ 255 := qv20
            have ev20 : (A 32) (x26_5) = v20 := (congrFun ((funext (hA_26 32 rfl)).trans ((funext (hA_14 32 rfl)).trans (funext (hA5 32 rfl)))) (x26_5)).symm.trans ev20
            refine Ew_of (pcₚ := 87) (fun _ => x_istore rfl) ?_
            refine Ew_of (pcₚ := 88) (fun _ => x_aload_n rfl (rk_o (l26_0) rfl rfl)) ?_
            refine Ew_of (pcₚ := 89) (fun _ => x_dup rfl rfl) ?_
            refine w_gI H (o := 5) (w := y14_5_45) rfl (H.perm 5 rfl) rfl rfl rfl (fun _ => rfl) ((hS_26 5 45 rfl).trans (ey14_5_45)) ?_
            refine Ew_of (pcₚ := 93) (fun _ => x_aload_n rfl (rk_o (l26_0) rfl rfl)) ?_
            refine w_gT H (o := 5) (t := 31) rfl (H.perm 5 rfl) rfl rfl rfl rfl rfl rfl ?_
            refine Ew_of (pcₚ := 98) (fun _ => x_iload rfl rk_s) ?_
            refine w_lI H (o := 31) (n := 256) rfl (H.perm 31 rfl) rfl rfl (H.fix 31 rfl rfl) (show 0 ≤ v20 ∧ v20 < ((256 : Nat) : Int) from q_1184 qv20) (by decide) (fun v21 ev21 qv21 => ?_)
            have qv21 : (0 : Int) ≤ v21 ∧ v21 ≤ 11 := qv21
            have ev21 : (A 31) (v20) = v21 := (congrFun ((funext (hA_26 31 rfl)).trans ((funext (hA_14 31 rfl)).trans (funext (hA5 31 rfl)))) (v20)).symm.trans ev21
            refine w_isub rfl ?_
            refine w_pI H (o := 5) rfl rfl (H.perm 5 rfl) rfl rfl rfl (fun _ => rfl) rfl (show (-100 : Int) ≤ (y14_5_45 - v21) ∧ (y14_5_45 - v21) ≤ 524288 from q_1185 j14_4 qv21 r15) (fun σ H => ?_)
            refine Ew_of (pcₚ := 104) (fun _ => x_aload_n rfl (rk_o (l26_0) rfl rfl)) ?_
            refine w_gI H (o := 5) (w := (y14_5_45 - v21)) rfl (H.perm 5 rfl) rfl rfl rfl (fun _ => rfl) rfl ?_
            refine w_ifge (t := 112) rfl rfl (show inr ((y14_5_45 - v21)) from q_1186 qv21 r15) (fun b22 => ?_) (fun b22 => ?_)
            · refine Ew_of (pcₚ := 113) (fun _ => x_aload_n rfl (rk_o (l26_0) rfl rfl)) ?_
              refine w_gT H (o := 5) (t := 46) rfl (H.perm 5 rfl) rfl rfl rfl rfl rfl rfl ?_
              refine Ew_of (pcₚ := 117) (fun _ => x_aload_n rfl (rk_o (l26_0) rfl rfl)) ?_
              refine w_gI H (o := 5) (w := y14_5_39) rfl (H.perm 5 rfl) rfl rfl rfl (fun _ => rfl) ((hS_26 5 39 rfl).trans (ey14_5_39)) ?_
              refine Ew_of (pcₚ := 122) (fun _ => x_iload rfl rk_s) ?_
              refine w_sI H (o := 46) (n := 131072) rfl (H.perm 46 rfl) rfl rfl (H.fix 46 rfl rfl) (show 0 ≤ y14_5_39 ∧ y14_5_39 < ((131072 : Nat) : Int) from q_1187 b16 h4 j14_3 r14) (by decide) (show (0 : Int) ≤ v20 ∧ v20 ≤ 255 from qv20) (fun σ H => ?_)
              refine Ew_of (pcₚ := 124) (fun _ => x_aload_n rfl (rk_o (l26_0) rfl rfl)) ?_
              refine Ew_of (pcₚ := 125) (fun _ => x_dup rfl rfl) ?_
              refine w_gI H (o := 5) (w := y14_5_39) rfl (H.perm 5 rfl) rfl rfl rfl (fun _ => rfl) ((hS_26 5 39 rfl).trans (ey14_5_39)) ?_
              refine Ew_of (pcₚ := 129) (fun _ => x_iconst rfl) ?_
              refine w_iadd rfl ?_
              refine w_pI H (o := 5) rfl rfl (H.perm 5 rfl) rfl rfl rfl (fun _ => rfl) rfl (show (0 : Int) ≤ (y14_5_39 + 1) ∧ (y14_5_39 + 1) ≤ 131072 from q_1188 b16 h4 j14_3 r14) (fun σ H => ?_)
              refine Ew_of (pcₚ := 136) (fun _ => x_iinc (len := 3) rfl (rk_o (l26_4) rfl rfl)) ?_
              refine Ew_of (pcₚ := 14) (fun _ => x_goto rfl rfl) ?_
              exact ih14 _ (msE hm14 q_31 (q_34 b16)) _ σ _ _ ((x14_4 + 1)) (rk_o (rk_o (l26_0) rfl rfl) rfl rfl) (rk_o (rk_o (l26_3) rfl rfl) rfl rfl) (rk_s) H (SF_upd (SF_upd (SF_trans (hS_14) hS_26 (any_sub rfl)) rfl) rfl) (SA_upd (SA_trans (hA_14) hA_26 (any_subA rfl)) rfl) ((y14_5_39 + 1)) (rfl) ((y14_5_45 - v21)) (rfl)  (show inr ((x14_4 + 1)) from q_1190 j14_1 j14_3 r1 r14) (show (0) ≤ ((x14_4 + 1)) from q_29 j14_1) (show ((x14_4 + 1)) ≤ (0) ∨ ((x14_4 + 1)) ≤ ((a3)) from q_33 b16) (show ((y14_5_39 + 1)) = (u5_39) + ((x14_4 + 1)) from q_302 j14_3) (show 0 ≤ ((y14_5_45 - v21)) from b22) (show 0 ≤ (y7) ∧ (y7) + ((y14_5_45 - v21)) ≤ 524288 from q_1189 j14_5 qv21) rfl
            · refine Ew_of (pcₚ := 111) (fun _ => x_iconst rfl) ?_
              exact w_ireturn rfl (k (0) σ _ _ H (SF_upd (SF_trans (SF_trans (SF_trans (SF_refl) hS4 (any_sub rfl)) hS_14 (any_sub rfl)) hS_26 (any_sub rfl)) rfl) (SA_trans (SA_trans (SA_trans (SA_refl) hA5 (any_subA rfl)) hA_14 (any_subA rfl)) hA_26 (any_subA rfl)) (y14_5_39) (((hS_26 5 39 rfl).trans (ey14_5_39))) (show (0) = 0 ∨ (0) = 1 by first | exact q_1 | omega) (show (u5_39) ≤ (y14_5_39) ∧ (y14_5_39) ≤ (u5_39) + a3 from q_1191 b16 j14_1 j14_3))
          · have hc69 : ∀ (tc69_0 : Int), ∀ (tc69_1 : Int), ∀ (ls : rO) (σ : rS) (F_c69 : hF) (A_c69 : hA) , rlook ls 0 = some (.ref (D 5)) → rlook ls 3 = some (I (a3)) → rlook ls 4 = some (I (x14_4)) → rlook ls 6 = some (I (x26_6)) → HS σ0 σ D N F_c69 A_c69 → SF [] F_26 F_c69 → SA [] A_26 A_c69 → (inr (tc69_1)) → (inr (tc69_0)) → ((tc69_0) = 2 * (x26_5)) → (0 ≤ (tc69_1) ∧ (tc69_1) ≤ 1) → Ew 273 (d + 2) 69 ls [I (tc69_1), I (tc69_0)] σ c s Q := by
             as_aux_lemma =>
              intro tc69_0 tc69_1 ls σ F_c69 A_c69  lc69_0 lc69_3 lc69_4 lc69_6 H hS_c69 hA_c69   jc69_0 jc69_1 jc69_2 jc69_3
              have hps := p2_s (y := (x26_6) - 1) (by omega)
              have hpe : p2 ((x26_6) + 1 - 1) = p2 ((x26_6) - 1 + 1) := by congr 1; omega
              refine w_iadd rfl ?_
              refine Ew_of (pcₚ := 72) (fun _ => x_istore rfl) ?_
              refine Ew_of (pcₚ := 75) (fun _ => x_iinc (len := 3) rfl (rk_o (lc69_6) rfl rfl)) ?_
              refine Ew_of (pcₚ := 26) (fun _ => x_goto rfl rfl) ?_
              exact ih26 _ (msE hm26 q_672 (q_673 b19)) _ σ _ _ ((tc69_0 + tc69_1)) ((x26_6 + 1)) (rk_o (rk_o (lc69_0) rfl rfl) rfl rfl) (rk_o (rk_o (lc69_3) rfl rfl) rfl rfl) (rk_o (rk_o (lc69_4) rfl rfl) rfl rfl) (rk_o (rk_s) rfl rfl) (rk_s) H (SF_trans (hS_26) hS_c69 (any_sub rfl)) (SA_trans (hA_26) hA_c69 (any_subA rfl))   (show inr ((tc69_0 + tc69_1)) by omega) (show inr ((x26_6 + 1)) from q_1140 b19 j26_4 r18) (show (1) ≤ ((x26_6 + 1)) from q_670 j26_4) (show ((x26_6 + 1)) ≤ (1) ∨ ((x26_6 + 1)) ≤ (((F 5 10) + 1)) from q_1139 b19) (show 1 ≤ ((x26_6 + 1)) from q_670 j26_4) (show 0 ≤ ((tc69_0 + tc69_1)) ∧ ((tc69_0 + tc69_1)) < p2 (((x26_6 + 1)) - 1) by omega) rfl
            have hps := p2_s (y := (x26_6) - 1) (by omega)
            have : p2 ((x26_6) - 1) ≤ p2 11 := p2_mono (by omega)
            have : p2 11 = 2048 := by decide
            have hpe : p2 ((x26_6) + 1 - 1) = p2 ((x26_6) - 1 + 1) := by congr 1; omega
            refine Ew_of (pcₚ := 36) (fun _ => x_iconst rfl) ?_
            refine Ew_of (pcₚ := 38) (fun _ => x_iload rfl l26_5) ?_
            refine w_imul rfl ?_
            refine Ew_of (pcₚ := 40) (fun _ => x_aload_n rfl l26_0) ?_
            refine w_gI H (o := 5) (w := y14_5_45) rfl (H.perm 5 rfl) rfl rfl rfl (fun _ => rfl) ((hS_26 5 45 rfl).trans (ey14_5_45)) ?_
            refine Ew_of (pcₚ := 45) (fun _ => x_iload rfl l26_6) ?_
            refine w_isub rfl ?_
            refine w_iflt (t := 68) rfl rfl (show inr ((y14_5_45 - x26_6)) from q_1192 j14_4 j26_1 j26_4 r15) (fun b23 => ?_) (fun b23 => ?_)
            · refine Ew_of (pcₚ := 69) (fun _ => x_iconst rfl) ?_
              exact hc69 ((2 * x26_5)) (0) _ σ _ _  (l26_0) (l26_3) (l26_4) (l26_6) H (SF_refl) (SA_refl)   (show inr (0) from q_20) (show inr ((2 * x26_5)) by omega) (show ((2 * x26_5)) = 2 * (x26_5) from q_1194) (show 0 ≤ (0) ∧ (0) ≤ 1 from q_1193)
            · refine Ew_of (pcₚ := 50) (fun _ => x_aload_n rfl l26_0) ?_
              refine Ew_of (pcₚ := 51) (fun _ => x_aload_n rfl l26_0) ?_
              refine w_gI H (o := 5) (w := y7) rfl (H.perm 5 rfl) rfl rfl rfl (fun _ => rfl) (((hS_26 5 44 rfl).trans (hS_14 5 44 rfl)).trans (ey8)) ?_
              refine Ew_of (pcₚ := 55) (fun _ => x_aload_n rfl l26_0) ?_
              refine w_gI H (o := 5) (w := y14_5_45) rfl (H.perm 5 rfl) rfl rfl rfl (fun _ => rfl) ((hS_26 5 45 rfl).trans (ey14_5_45)) ?_
              refine w_iadd rfl ?_
              refine Ew_of (pcₚ := 61) (fun _ => x_iload rfl l26_6) ?_
              refine w_isub rfl ?_
              refine w_inv H (o := 5) rfl rfl rfl (H.perm 5 rfl) rfl rfl (by rfl) (M259 H (show inr (((y7 + y14_5_45) - x26_6)) from q_1196 b23 j14_5 j26_4) (show 0 ≤ (((y7 + y14_5_45) - x26_6)) ∧ (((y7 + y14_5_45) - x26_6)) < 524288 from q_1195 b23 j14_5 j26_4) (fun z28 σ F24 A25 H hS26 hA27 pz28_0 pz28_1 => ⟨rfl, ?_⟩))
              refine Ew_of (pcₚ := 69) (fun _ => x_goto rfl rfl) ?_
              exact hc69 ((2 * x26_5)) (z28) _ σ _ _  (l26_0) (l26_3) (l26_4) (l26_6) H (SF_trans (SF_refl) hS26 (any_sub rfl)) (SA_trans (SA_refl) hA27 (any_subA rfl))   (show inr (z28) from pz28_0) (show inr ((2 * x26_5)) by omega) (show ((2 * x26_5)) = 2 * (x26_5) from q_1194) (show 0 ≤ (z28) ∧ (z28) ≤ 1 from pz28_1)
  · refine Ew_of (pcₚ := 10) (fun _ => x_iconst rfl) ?_
    exact w_ireturn rfl (k (0) σ _ _ H (SF_trans (SF_refl) hS4 (any_sub rfl)) (SA_trans (SA_refl) hA5 (any_subA rfl)) (u5_39) (((hS4 5 39 rfl).trans (eu5_39))) (show (0) = 0 ∨ (0) = 1 by first | exact q_1 | omega) (show (u5_39) ≤ (u5_39) ∧ (u5_39) ≤ (u5_39) + a3 from q_1197 h4))
/-- Reader.describe -/
theorem M271 {σ0 σ : rS} {D N : Nat → Nat} {F : hF} {A : hA} {d c s : Nat} {Q : wQ} (H : HS σ0 σ D N F A) {a1 a2 : Int} (h0 : inr (a1)) (h1 : inr (a2)) (h2 : 0 ≤ (a1) ∧ (a1) ≤ 65536 ∧ 0 ≤ (a2) ∧ (a2) ≤ 65536) (k : ∀ (z : Int) σ Fₚ Aₚ, HS σ0 σ D N Fₚ Aₚ → SF [(5, 10), (5, 19), (5, 44), (5, 45)] F Fₚ → SA [31, 32, 39, 40, 41, 42, 43, 44] A Aₚ → ∀ y5_10 : Int, Fₚ 5 10 = y5_10 → ∀ v31 : Int → Int, Aₚ 31 = v31 → (inr (z)) → ((z) = -1 ∨ (a1) < (z) ∧ (z) ≤ (a2)) → ((z) ≠ -1 → CI ((v31)) ((y5_10))) → Q (some (I z)) σ c s) : Ew 271 (d + 3) 0 (rargs 0 [.ref (D 5), I a1, I a2]) [] σ c s Q := by
  refine Ew_of (pcₚ := 1) (fun _ => x_iload_n rfl rfl) ?_
  refine Ew_of (pcₚ := 2) (fun _ => x_iload_n rfl rfl) ?_
  refine w_icmplt (t := 7) rfl rfl (show inr (a1) from h0) (show inr (a2) from h1) (fun b1 => ?_) (fun b1 => ?_)
  · refine Ew_of (pcₚ := 8) (fun _ => x_aload_n rfl rfl) ?_
    refine w_gT H (o := 5) (t := 1) rfl (H.perm 5 rfl) rfl rfl rfl rfl rfl rfl ?_
    refine w_gT H (o := 1) (t := 14) rfl (H.perm 1 rfl) rfl rfl rfl rfl rfl rfl ?_
    refine Ew_of (pcₚ := 15) (fun _ => x_iload_n rfl rfl) ?_
    refine w_lI H (o := 14) (n := 65536) rfl (H.perm 14 rfl) rfl rfl (H.fix 14 rfl rfl) (show 0 ≤ a1 ∧ a1 < ((65536 : Nat) : Int) from q_1198 b1 h2) (by decide) (fun v2 ev2 qv2 => ?_)
    have qv2 : (0 : Int) ≤ v2 ∧ v2 ≤ 255 := qv2
    have ev2 : (A 14) (a1) = v2 := (congrFun (rfl : A 14 = A 14) (a1)).symm.trans ev2
    refine Ew_of (pcₚ := 17) (fun _ => x_istore_n rfl) ?_
    refine Ew_of (pcₚ := 18) (fun _ => x_iload_n rfl (rk_o (rfl) rfl rfl)) ?_
    refine Ew_of (pcₚ := 19) (fun _ => x_iconst rfl) ?_
    refine w_iadd rfl ?_
    refine Ew_of (pcₚ := 21) (fun _ => x_iload_n rfl rk_s) ?_
    refine Ew_of (pcₚ := 23) (fun _ => x_bipush (z := 127) rfl (by decide)) ?_
    have hc38 : ∀ (tc38_0 : Int), ∀ (ls : rO) (σ : rS) (F_c38 : hF) (A_c38 : hA) , rlook ls 0 = some (.ref (D 5)) → rlook ls 1 = some (I (a1)) → rlook ls 2 = some (I (a2)) → rlook ls 3 = some (I (v2)) → HS σ0 σ D N F_c38 A_c38 → SF [] F F_c38 → SA [] A A_c38 → (inr (tc38_0)) → (((v2) ≤ (127) ∧ (tc38_0) = (v2)) ∨ ((v2) > (127) ∧ (tc38_0) = ((((v2 - 127) + 1) / 2)))) → Ew 271 (d + 3) 38 ls [I (tc38_0), I ((a1 + 1))] σ c s Q := by
     as_aux_lemma =>
      intro tc38_0 ls σ F_c38 A_c38  lc38_0 lc38_1 lc38_2 lc38_3 H hS_c38 hA_c38   jc38_0 jc38_1
      refine w_iadd rfl ?_
      refine Ew_of (pcₚ := 41) (fun _ => x_istore rfl) ?_
      refine Ew_of (pcₚ := 43) (fun _ => x_iload rfl rk_s) ?_
      refine Ew_of (pcₚ := 44) (fun _ => x_iload_n rfl (rk_o (lc38_2) rfl rfl)) ?_
      refine w_icmple (t := 49) rfl rfl (show inr (((a1 + 1) + tc38_0)) from q_1199 h2 jc38_0 jc38_1 qv2) (show inr (a2) from h1) (fun b3 => ?_) (fun b3 => ?_)
      · refine Ew_of (pcₚ := 50) (fun _ => x_iload_n rfl (rk_o (lc38_3) rfl rfl)) ?_
        refine Ew_of (pcₚ := 52) (fun _ => x_bipush (z := 127) rfl (by decide)) ?_
        refine w_isub rfl ?_
        refine Ew_of (pcₚ := 55) (fun _ => x_istore rfl) ?_
        have hc145 : ∀ (ls : rO) (σ : rS) (F_c145 : hF) (A_c145 : hA) (xc145_5 : Int), rlook ls 0 = some (.ref (D 5)) → rlook ls 4 = some (I (((a1 + 1) + tc38_0))) → rlook ls 5 = some (I (xc145_5)) → HS σ0 σ D N F_c145 A_c145 → SF [(5, 19), (5, 44), (5, 45)] F_c38 F_c145 → SA [39, 40, 41, 42, 43, 44] A_c38 A_c145 → (inr (xc145_5)) → ((xc145_5) = -1 ∨ 1 ≤ (xc145_5) ∧ (xc145_5) ≤ 255) → Ew 271 (d + 3) 145 ls [] σ c s Q := by
         as_aux_lemma =>
          intro  ls σ F_c145 A_c145 xc145_5 lc145_0 lc145_4 lc145_5 H hS_c145 hA_c145   jc145_0 jc145_1
          refine Ew_of (pcₚ := 147) (fun _ => x_iload rfl lc145_5) ?_
          refine w_ifge (t := 152) rfl rfl (show inr (xc145_5) from jc145_0) (fun b4 => ?_) (fun b4 => ?_)
          · refine Ew_of (pcₚ := 153) (fun _ => x_iconst rfl) ?_
            refine Ew_of (pcₚ := 155) (fun _ => x_istore rfl) ?_
            refine Ew_of (pcₚ := 156) (fun _ => x_iconst rfl) ?_
            refine Ew_of (pcₚ := 158) (fun _ => x_istore rfl) ?_
            refine Ew_of (pcₚ := 159) (fun _ => x_iconst rfl) ?_
            refine Ew_of (pcₚ := 161) (fun _ => x_istore rfl) ?_
            have : su (fun i => wk (((A_c145 40)) i)) (0 : Int).toNat = 0 := rfl
            have : su (fun i => on1 (((A_c145 40)) i)) (0 : Int).toNat = 0 := rfl
            suffices hl161 : ∀ (m : Nat), ∀ (ls : rO) (σ : rS) (F_161 : hF) (A_161 : hA) (x161_6 : Int) (x161_7 : Int) (x161_8 : Int), rlook ls 0 = some (.ref (D 5)) → rlook ls 4 = some (I (((a1 + 1) + tc38_0))) → rlook ls 5 = some (I (xc145_5)) → rlook ls 6 = some (I (x161_6)) → rlook ls 7 = some (I (x161_7)) → rlook ls 8 = some (I (x161_8)) → HS σ0 σ D N F_161 A_161 → SF [] F_c145 F_161 → SA [] A_c145 A_161 → (inr (x161_6)) → (inr (x161_7)) → (inr (x161_8)) → ((0) ≤ (x161_8)) → ((x161_8) ≤ (0) ∨ (x161_8) ≤ ((xc145_5))) → ((x161_6) = su (fun i => wk (((A_c145 40)) i)) ((x161_8) : Int).toNat) → ((x161_7) = su (fun i => on1 (((A_c145 40)) i)) ((x161_8) : Int).toNat) → (0 ≤ (x161_6) ∧ (x161_6) ≤ 16384 * (x161_8)) → (0 ≤ (x161_7) ∧ (x161_7) ≤ (x161_8)) → (((xc145_5)) - (x161_8)).toNat = m → Ew 271 (d + 3) 161 ls [] σ c s Q from
              hl161 _ _ σ _ _ (0) (0) (0) (rk_o (rk_o (rk_o (lc145_0) rfl rfl) rfl rfl) rfl rfl) (rk_o (rk_o (rk_o (lc145_4) rfl rfl) rfl rfl) rfl rfl) (rk_o (rk_o (rk_o (lc145_5) rfl rfl) rfl rfl) rfl rfl) (rk_o (rk_o (rk_s) rfl rfl) rfl rfl) (rk_o (rk_s) rfl rfl) (rk_s) H (SF_refl) (SA_refl)   (show inr (0) from q_20) (show inr (0) from q_20) (show inr (0) from q_20) (show (0) ≤ (0) from q_25) (show (0) ≤ (0) ∨ (0) ≤ ((xc145_5)) from q_24) (show (0) = su (fun i => wk (((A_c145 40)) i)) ((0) : Int).toNat by omega) (show (0) = su (fun i => on1 (((A_c145 40)) i)) ((0) : Int).toNat by omega) (show 0 ≤ (0) ∧ (0) ≤ 16384 * (0) from q_1201) (show 0 ≤ (0) ∧ (0) ≤ (0) from q_1200) rfl
            as_aux_lemma =>
            intro m
            induction m using Nat.strongRecOn with
            | _ m ih161 =>
              intro ls σ F_161 A_161 x161_6 x161_7 x161_8 l161_0 l161_4 l161_5 l161_6 l161_7 l161_8 H hS_161 hA_161   j161_0 j161_1 j161_2 j161_3 j161_4 j161_5 j161_6 j161_7 j161_8 hm161
              refine Ew_of (pcₚ := 163) (fun _ => x_iload rfl l161_8) ?_
              refine Ew_of (pcₚ := 165) (fun _ => x_iload rfl l161_5) ?_
              refine w_icmpge (t := 225) rfl rfl (show inr (x161_8) from j161_2) (show inr (xc145_5) from jc145_0) (fun b5 => ?_) (fun b5 => ?_)
              · have hn8 : su (fun i => wk (((A_c145 40)) i)) ((x161_8) : Int).toNat = su (fun i => wk (((A_c145 40)) i)) ((xc145_5) : Int).toNat := by rw [show (x161_8) = (xc145_5) by omega]
                have hn9 : su (fun i => on1 (((A_c145 40)) i)) ((x161_8) : Int).toNat = su (fun i => on1 (((A_c145 40)) i)) ((xc145_5) : Int).toNat := by rw [show (x161_8) = (xc145_5) by omega]
                refine Ew_of (pcₚ := 227) (fun _ => x_iload rfl l161_6) ?_
                refine w_ifne (t := 232) rfl rfl (show inr (x161_6) from j161_0) (fun b6 => ?_) (fun b6 => ?_)
                · refine Ew_of (pcₚ := 234) (fun _ => x_iload rfl l161_6) ?_
                  refine w_stat24 rfl rfl (by rfl) (M260 H (show inr (x161_6) from j161_0) (show 0 ≤ (x161_6) from q_1202 j161_7) (fun z11 σ F7 A8 H hS9 hA10 pz11_0 pz11_1 pz11_2 => ⟨rfl, ?_⟩))
                  have hz1 := p2_s (y := (z11)) (by omega)
                  have hzp := p2_pos ((z11))
                  have hzc : (z11) < 23 := p2_lt (by omega) (by rw [show p2 23 = 8388608 from by decide]; omega)
                  refine Ew_of (pcₚ := 238) (fun _ => x_iconst rfl) ?_
                  refine w_iadd rfl ?_
                  refine Ew_of (pcₚ := 241) (fun _ => x_istore rfl) ?_
                  refine Ew_of (pcₚ := 242) (fun _ => x_iconst rfl) ?_
                  refine Ew_of (pcₚ := 244) (fun _ => x_iload rfl rk_s) ?_
                  refine w_ishl1 rfl (show 0 ≤ (z11 + 1) ∧ (z11 + 1) ≤ 31 from q_1203 hzc pz11_1) ?_
                  refine Ew_of (pcₚ := 247) (fun _ => x_iload rfl (rk_o (l161_6) rfl rfl)) ?_
                  refine w_isub rfl ?_
                  refine Ew_of (pcₚ := 250) (fun _ => x_istore rfl) ?_
                  refine Ew_of (pcₚ := 252) (fun _ => x_iload rfl (rk_o (rk_s) rfl rfl)) ?_
                  refine Ew_of (pcₚ := 254) (fun _ => x_bipush (z := 11) rfl (by decide)) ?_
                  refine w_icmpgt (t := 266) rfl rfl (show inr ((z11 + 1)) from q_1204 hzc pz11_1) (show inr (11) from q_67) (fun b13 => ?_) (fun b13 => ?_)
                  · refine Ew_of (pcₚ := 267) (fun _ => x_iconst rfl) ?_
                    have r14 : (0 : Int) ≤ F 5 10 ∧ F 5 10 ≤ 11 := rngE (show (0 : Int) ≤ F7 5 10 ∧ F7 5 10 ≤ 11 from H.frng 5 10) (show F7 5 10 = F 5 10 from ((((hS9 5 10 rfl).trans (hS_161 5 10 rfl)).trans (hS_c145 5 10 rfl)).trans (hS_c38 5 10 rfl)))
                    exact w_ireturn rfl (k ((-1)) σ _ _ H (SF_trans (SF_trans (SF_trans (SF_trans (SF_refl) hS_c38 (any_sub rfl)) hS_c145 (any_sub rfl)) hS_161 (any_sub rfl)) hS9 (any_sub rfl)) (SA_trans (SA_trans (SA_trans (SA_trans (SA_refl) hA_c38 (any_subA rfl)) hA_c145 (any_subA rfl)) hA_161 (any_subA rfl)) hA10 (any_subA rfl)) (F 5 10) (((((hS9 5 10 rfl).trans (hS_161 5 10 rfl)).trans (hS_c145 5 10 rfl)).trans (hS_c38 5 10 rfl))) (A 31) ((funext (hA10 31 rfl)).trans ((funext (hA_161 31 rfl)).trans ((funext (hA_c145 31 rfl)).trans (funext (hA_c38 31 rfl))))) (show inr ((-1)) from q_16) (show ((-1)) = -1 ∨ a1 < ((-1)) ∧ ((-1)) ≤ a2 by first | exact q_1205 | omega) (show ((-1)) ≠ -1 → CI ((A 31)) ((F 5 10)) by first | assumption | exact fun h => absurd rfl h | exact fun h => absurd h (by decide) | omega))
                  · refine Ew_of (pcₚ := 258) (fun _ => x_aload_n rfl (rk_o (rk_o (l161_0) rfl rfl) rfl rfl)) ?_
                    refine Ew_of (pcₚ := 260) (fun _ => x_iload rfl rk_s) ?_
                    refine w_inv H (o := 5) rfl rfl rfl (H.perm 5 rfl) rfl rfl (by rfl) (M270 H (show inr ((p2 ((z11 + 1)) - x161_6)) by omega) (fun z19 σ F15 A16 H hS17 hA18 pz19_0 pz19_1 => ⟨rretB rfl pz19_0, ?_⟩))
                    refine w_ifne (t := 268) rfl rfl (show inr (z19) from q_15 pz19_0) (fun b20 => ?_) (fun b20 => ?_)
                    · refine Ew_of (pcₚ := 269) (fun _ => x_aload_n rfl (rk_o (rk_o (l161_0) rfl rfl) rfl rfl)) ?_
                      refine w_gT H (o := 5) (t := 40) rfl (H.perm 5 rfl) rfl rfl rfl rfl rfl rfl ?_
                      refine Ew_of (pcₚ := 274) (fun _ => x_iload rfl (rk_o (rk_o (l161_5) rfl rfl) rfl rfl)) ?_
                      refine Ew_of (pcₚ := 276) (fun _ => x_iload rfl rk_s) ?_
                      refine w_stat24 rfl rfl (by rfl) (M260 H (show inr ((p2 ((z11 + 1)) - x161_6)) by omega) (show 0 ≤ ((p2 ((z11 + 1)) - x161_6)) by omega) (fun z25 σ F21 A22 H hS23 hA24 pz25_0 pz25_1 pz25_2 => ⟨rfl, ?_⟩))
                      have hrr : p2 ((z25)) = ((p2 ((z11 + 1)) - x161_6)) := IP_eq (pz19_1 (by omega)) (by omega) (by omega) (by omega)
                      have hds := desc_ok (w := (A_c145 40)) (n := (xc145_5)) (sum := (x161_6)) (z := ((z11 + 1)) - 1) (r := (z25)) (by omega) (by omega) (by rw [show ((z11 + 1)) - 1 = z11 by omega]; omega) (by rw [show ((z11 + 1)) - 1 = z11 by omega]; omega) (by omega) (by omega) (by rw [show ((z11 + 1)) - 1 = z11 by omega]; omega)
                      have hou := on1_upd (w := (A_c145 40)) (n := (xc145_5)) (v := (z25) + 1) (by omega)
                      have hoo := on1_eq ((z25) + 1)
                      rw [show ((z11 + 1)) - 1 + 1 = ((z11 + 1)) by omega] at hds
                      refine Ew_of (pcₚ := 280) (fun _ => x_iconst rfl) ?_
                      refine w_iadd rfl ?_
                      refine w_sI H (o := 40) (n := 256) rfl (H.perm 40 rfl) rfl rfl (H.fix 40 rfl rfl) (show 0 ≤ xc145_5 ∧ xc145_5 < ((256 : Nat) : Int) from q_1206 b4 b5 j161_4 jc145_1) (by decide) (show (-1 : Int) ≤ (z25 + 1) ∧ (z25 + 1) ≤ 15 by omega) (fun σ H => ?_)
                      refine Ew_of (pcₚ := 284) (fun _ => x_iload rfl (rk_o (rk_o (l161_7) rfl rfl) rfl rfl)) ?_
                      refine Ew_of (pcₚ := 285) (fun _ => x_aload_n rfl (rk_o (rk_o (l161_0) rfl rfl) rfl rfl)) ?_
                      refine w_gT H (o := 5) (t := 40) rfl (H.perm 5 rfl) rfl rfl rfl rfl rfl rfl ?_
                      refine Ew_of (pcₚ := 290) (fun _ => x_iload rfl (rk_o (rk_o (l161_5) rfl rfl) rfl rfl)) ?_
                      refine w_lI H (o := 40) (n := 256) rfl (H.perm 40 rfl) rfl rfl (H.fix 40 rfl rfl) (show 0 ≤ xc145_5 ∧ xc145_5 < ((256 : Nat) : Int) from q_1206 b4 b5 j161_4 jc145_1) (by decide) (fun v26 ev26 qv26 => ?_)
                      have qv26 : (-1 : Int) ≤ v26 ∧ v26 ≤ 15 := qv26
                      have ev26 : (upd1 (A_c145 40) (xc145_5) ((z25 + 1))) (xc145_5) = v26 := (congrFun (congrArg (fun q => upd1 q (xc145_5) ((z25 + 1))) ((funext (hA24 40 rfl)).trans ((funext (hA18 40 rfl)).trans ((funext (hA10 40 rfl)).trans (funext (hA_161 40 rfl)))))) (xc145_5)).symm.trans ev26
                      refine Ew_of (pcₚ := 292) (fun _ => x_iconst rfl) ?_
                      have hc300 : ∀ (tc300_0 : Int), ∀ (ls : rO) (σ : rS) (F_c300 : hF) (A_c300 : hA) , rlook ls 0 = some (.ref (D 5)) → rlook ls 4 = some (I (((a1 + 1) + tc38_0))) → rlook ls 5 = some (I (xc145_5)) → rlook ls 8 = some (I ((z11 + 1))) → HS σ0 σ D N F_c300 A_c300 → SF [] F21 F_c300 → SA [] (updA A22 40 (xc145_5) ((z25 + 1))) A_c300 → (inr (tc300_0)) → (((v26) ≠ (1) ∧ (tc300_0) = (0)) ∨ ((v26) = (1) ∧ (tc300_0) = (1))) → Ew 271 (d + 3) 300 ls [I (tc300_0), I (x161_7)] σ c s Q := by
                       as_aux_lemma =>
                        intro tc300_0 ls σ F_c300 A_c300  lc300_0 lc300_4 lc300_5 lc300_8 H hS_c300 hA_c300   jc300_0 jc300_1
                        refine w_iadd rfl ?_
                        refine Ew_of (pcₚ := 303) (fun _ => x_istore rfl) ?_
                        refine Ew_of (pcₚ := 305) (fun _ => x_iload rfl rk_s) ?_
                        refine Ew_of (pcₚ := 306) (fun _ => x_iconst rfl) ?_
                        refine w_icmpge (t := 311) rfl rfl (show inr ((x161_7 + tc300_0)) by omega) (show inr (2) from q_55) (fun b27 => ?_) (fun b27 => ?_)
                        · have hci := CI_of (w := (upd1 (A_c145 40) (xc145_5) ((z25 + 1)))) (n := (xc145_5)) (t := ((z11 + 1))) (by omega) (by omega) (by omega) (by omega) hds.2.1 hds.2.2 (by omega)
                          refine Ew_of (pcₚ := 312) (fun _ => x_aload_n rfl (rk_o (lc300_0) rfl rfl)) ?_
                          refine Ew_of (pcₚ := 314) (fun _ => x_iload rfl (rk_o (lc300_8) rfl rfl)) ?_
                          refine w_pI H (o := 5) rfl rfl (H.perm 5 rfl) rfl rfl rfl (fun _ => rfl) rfl (show (0 : Int) ≤ (z11 + 1) ∧ (z11 + 1) ≤ 11 from q_1207 b13 pz11_1) (fun σ H => ?_)
                          refine Ew_of (pcₚ := 318) (fun _ => x_iconst rfl) ?_
                          refine Ew_of (pcₚ := 320) (fun _ => x_istore rfl) ?_
                          have : ∀ i, (0 : Int) ≤ i → i < 0 → ((A 31)) i = lw ((upd1 (A_c145 40) (xc145_5) ((z25 + 1)))) ((xc145_5)) (((z11 + 1))) i := fun i a b => absurd b (by omega)
                          suffices hl320 : ∀ (m : Nat), ∀ (ls : rO) (σ : rS) (F_320 : hF) (A_320 : hA) (x320_10 : Int), rlook ls 0 = some (.ref (D 5)) → rlook ls 4 = some (I (((a1 + 1) + tc38_0))) → rlook ls 5 = some (I (xc145_5)) → rlook ls 8 = some (I ((z11 + 1))) → rlook ls 10 = some (I (x320_10)) → HS σ0 σ D N F_320 A_320 → SF [] (updF F_c300 5 10 ((z11 + 1))) F_320 → SA [31] A_c300 A_320 → ∀ w320_31 : Int → Int, A_320 31 = w320_31 → (inr (x320_10)) → ((0) ≤ (x320_10)) → ((x320_10) ≤ (0) ∨ (x320_10) ≤ ((256))) → (∀ i, 0 ≤ i → i < (x320_10) → ((w320_31)) i = lw ((upd1 (A_c145 40) (xc145_5) ((z25 + 1)))) ((xc145_5)) (((z11 + 1))) i) → (((256)) - (x320_10)).toNat = m → Ew 271 (d + 3) 320 ls [] σ c s Q from
                            hl320 _ _ σ _ _ (0) (rk_o (rk_o (lc300_0) rfl rfl) rfl rfl) (rk_o (rk_o (lc300_4) rfl rfl) rfl rfl) (rk_o (rk_o (lc300_5) rfl rfl) rfl rfl) (rk_o (rk_o (lc300_8) rfl rfl) rfl rfl) (rk_s) H (SF_refl) (SA_refl)  (A 31) ((funext (hA_c300 31 rfl)).trans ((funext (hA24 31 rfl)).trans ((funext (hA18 31 rfl)).trans ((funext (hA10 31 rfl)).trans ((funext (hA_161 31 rfl)).trans ((funext (hA_c145 31 rfl)).trans (funext (hA_c38 31 rfl)))))))) (show inr (0) from q_20) (show (0) ≤ (0) from q_25) (show (0) ≤ (0) ∨ (0) ≤ ((256)) from q_976) (show ∀ i, 0 ≤ i → i < (0) → ((A 31)) i = lw ((upd1 (A_c145 40) (xc145_5) ((z25 + 1)))) ((xc145_5)) (((z11 + 1))) i by assumption) rfl
                          as_aux_lemma =>
                          intro m
                          induction m using Nat.strongRecOn with
                          | _ m ih320 =>
                            intro ls σ F_320 A_320 x320_10 l320_0 l320_4 l320_5 l320_8 l320_10 H hS_320 hA_320  w320_31 ew320_31 j320_0 j320_1 j320_2 j320_3 hm320
                            refine Ew_of (pcₚ := 322) (fun _ => x_iload rfl l320_10) ?_
                            refine Ew_of (pcₚ := 325) (fun _ => x_sipush (z := 256) rfl (by decide)) ?_
                            refine w_icmpge (t := 374) rfl rfl (show inr (x320_10) from j320_0) (show inr (256) from q_716) (fun b28 => ?_) (fun b28 => ?_)
                            · have hcl : CI ((w320_31)) (((z11 + 1))) := CI_congr hci (fun i a b => j320_3 i a (by omega))
                              refine Ew_of (pcₚ := 375) (fun _ => x_aload_n rfl l320_0) ?_
                              refine w_inv H (o := 5) rfl rfl rfl (H.perm 5 rfl) rfl rfl (by rfl) (M269 H ((z11 + 1)) ((hS_320 5 10 rfl)) (w320_31) (ew320_31) (show CI ((w320_31)) (((z11 + 1))) from hcl) (fun σ F29 A30 H hS31 hA32 => ⟨rfl, ?_⟩))
                              have : (((a1 + 1) + tc38_0)) ≠ -1 → CI ((w320_31)) (((z11 + 1))) := fun _ => hcl
                              refine Ew_of (pcₚ := 380) (fun _ => x_iload rfl l320_4) ?_
                              exact w_ireturn rfl (k (((a1 + 1) + tc38_0)) σ _ _ H (SF_trans (SF_trans (SF_upd (SF_trans (SF_trans (SF_trans (SF_trans (SF_trans (SF_trans (SF_trans (SF_refl) hS_c38 (any_sub rfl)) hS_c145 (any_sub rfl)) hS_161 (any_sub rfl)) hS9 (any_sub rfl)) hS17 (any_sub rfl)) hS23 (any_sub rfl)) hS_c300 (any_sub rfl)) rfl) hS_320 (any_sub rfl)) hS31 (any_sub rfl)) (SA_trans (SA_trans (SA_trans (SA_upd (SA_trans (SA_trans (SA_trans (SA_trans (SA_trans (SA_trans (SA_refl) hA_c38 (any_subA rfl)) hA_c145 (any_subA rfl)) hA_161 (any_subA rfl)) hA10 (any_subA rfl)) hA18 (any_subA rfl)) hA24 (any_subA rfl)) rfl) hA_c300 (any_subA rfl)) hA_320 (any_subA rfl)) hA32 (any_subA rfl)) ((z11 + 1)) (((hS31 5 10 rfl).trans (hS_320 5 10 rfl))) (w320_31) ((funext (hA32 31 rfl)).trans (ew320_31)) (show inr (((a1 + 1) + tc38_0)) from q_1208 b3 h2 jc38_0) (show (((a1 + 1) + tc38_0)) = -1 ∨ a1 < (((a1 + 1) + tc38_0)) ∧ (((a1 + 1) + tc38_0)) ≤ a2 by omega) (show (((a1 + 1) + tc38_0)) ≠ -1 → CI ((w320_31)) (((z11 + 1))) by first | assumption | exact fun h => absurd rfl h | exact fun h => absurd h (by decide) | omega))
                            · have hlw := lw_eq ((upd1 (A_c145 40) (xc145_5) ((z25 + 1)))) ((xc145_5)) (((z11 + 1))) ((x320_10))
                              have hwt := fun q => hds.2.1 ((x320_10)) (by omega) q
                              refine Ew_of (pcₚ := 329) (fun _ => x_aload_n rfl l320_0) ?_
                              refine w_gT H (o := 5) (t := 31) rfl (H.perm 5 rfl) rfl rfl rfl rfl rfl rfl ?_
                              refine Ew_of (pcₚ := 334) (fun _ => x_iload rfl l320_10) ?_
                              refine Ew_of (pcₚ := 336) (fun _ => x_iload rfl l320_10) ?_
                              refine Ew_of (pcₚ := 338) (fun _ => x_iload rfl l320_5) ?_
                              refine w_icmpgt (t := 366) rfl rfl (show inr (x320_10) from j320_0) (show inr (xc145_5) from jc145_0) (fun b34 => ?_) (fun b34 => ?_)
                              · refine Ew_of (pcₚ := 367) (fun _ => x_iconst rfl) ?_
                                refine w_sI H (o := 31) (n := 256) rfl (H.perm 31 rfl) rfl rfl (H.fix 31 rfl rfl) (show 0 ≤ x320_10 ∧ x320_10 < ((256 : Nat) : Int) from q_1030 b28 j320_1) (by decide) (show (0 : Int) ≤ 0 ∧ 0 ≤ 11 from q_1209) (fun σ H => ?_)
                                refine Ew_of (pcₚ := 371) (fun _ => x_iinc (len := 3) rfl (l320_10)) ?_
                                refine Ew_of (pcₚ := 320) (fun _ => x_goto rfl rfl) ?_
                                have : ∀ i, (0 : Int) ≤ i → i < ((x320_10 + 1)) → ((upd1 (w320_31) (x320_10) (0))) i = lw ((upd1 (A_c145 40) (xc145_5) ((z25 + 1)))) ((xc145_5)) (((z11 + 1))) i := pt_upd j320_3 (by omega)
                                exact ih320 _ (msE hm320 q_1033 (q_1034 b28)) _ σ _ _ ((x320_10 + 1)) (rk_o (l320_0) rfl rfl) (rk_o (l320_4) rfl rfl) (rk_o (l320_5) rfl rfl) (rk_o (l320_8) rfl rfl) (rk_s) H (hS_320) (SA_upd (hA_320) rfl)  (upd1 (w320_31) (x320_10) (0)) (congrArg (fun q => upd1 q (x320_10) (0)) (ew320_31)) (show inr ((x320_10 + 1)) from q_1032 b28 j320_1) (show (0) ≤ ((x320_10 + 1)) from q_29 j320_1) (show ((x320_10 + 1)) ≤ (0) ∨ ((x320_10 + 1)) ≤ ((256)) from q_1031 b28) (show ∀ i, 0 ≤ i → i < ((x320_10 + 1)) → ((upd1 (w320_31) (x320_10) (0))) i = lw ((upd1 (A_c145 40) (xc145_5) ((z25 + 1)))) ((xc145_5)) (((z11 + 1))) i by assumption) rfl
                              · refine Ew_of (pcₚ := 342) (fun _ => x_aload_n rfl l320_0) ?_
                                refine w_gT H (o := 5) (t := 40) rfl (H.perm 5 rfl) rfl rfl rfl rfl rfl rfl ?_
                                refine Ew_of (pcₚ := 347) (fun _ => x_iload rfl l320_10) ?_
                                refine w_lI H (o := 40) (n := 256) rfl (H.perm 40 rfl) rfl rfl (H.fix 40 rfl rfl) (show 0 ≤ x320_10 ∧ x320_10 < ((256 : Nat) : Int) from q_1030 b28 j320_1) (by decide) (fun v35 ev35 qv35 => ?_)
                                have qv35 : (-1 : Int) ≤ v35 ∧ v35 ≤ 15 := qv35
                                have ev35 : (upd1 (A_c145 40) (xc145_5) ((z25 + 1))) (x320_10) = v35 := (congrFun ((funext (hA_320 40 rfl)).trans ((funext (hA_c300 40 rfl)).trans (congrArg (fun q => upd1 q (xc145_5) ((z25 + 1))) ((funext (hA24 40 rfl)).trans ((funext (hA18 40 rfl)).trans ((funext (hA10 40 rfl)).trans (funext (hA_161 40 rfl)))))))) (x320_10)).symm.trans ev35
                                refine w_ifle (t := 366) rfl rfl (show inr (v35) from q_1210 qv35) (fun b36 => ?_) (fun b36 => ?_)
                                · refine Ew_of (pcₚ := 367) (fun _ => x_iconst rfl) ?_
                                  refine w_sI H (o := 31) (n := 256) rfl (H.perm 31 rfl) rfl rfl (H.fix 31 rfl rfl) (show 0 ≤ x320_10 ∧ x320_10 < ((256 : Nat) : Int) from q_1030 b28 j320_1) (by decide) (show (0 : Int) ≤ 0 ∧ 0 ≤ 11 from q_1209) (fun σ H => ?_)
                                  refine Ew_of (pcₚ := 371) (fun _ => x_iinc (len := 3) rfl (l320_10)) ?_
                                  refine Ew_of (pcₚ := 320) (fun _ => x_goto rfl rfl) ?_
                                  have : ∀ i, (0 : Int) ≤ i → i < ((x320_10 + 1)) → ((upd1 (w320_31) (x320_10) (0))) i = lw ((upd1 (A_c145 40) (xc145_5) ((z25 + 1)))) ((xc145_5)) (((z11 + 1))) i := pt_upd j320_3 (by omega)
                                  exact ih320 _ (msE hm320 q_1033 (q_1034 b28)) _ σ _ _ ((x320_10 + 1)) (rk_o (l320_0) rfl rfl) (rk_o (l320_4) rfl rfl) (rk_o (l320_5) rfl rfl) (rk_o (l320_8) rfl rfl) (rk_s) H (hS_320) (SA_upd (hA_320) rfl)  (upd1 (w320_31) (x320_10) (0)) (congrArg (fun q => upd1 q (x320_10) (0)) (ew320_31)) (show inr ((x320_10 + 1)) from q_1032 b28 j320_1) (show (0) ≤ ((x320_10 + 1)) from q_29 j320_1) (show ((x320_10 + 1)) ≤ (0) ∨ ((x320_10 + 1)) ≤ ((256)) from q_1031 b28) (show ∀ i, 0 ≤ i → i < ((x320_10 + 1)) → ((upd1 (w320_31) (x320_10) (0))) i = lw ((upd1 (A_c145 40) (xc145_5) ((z25 + 1)))) ((xc145_5)) (((z11 + 1))) i by assumption) rfl
                                · refine Ew_of (pcₚ := 353) (fun _ => x_iload rfl l320_8) ?_
                                  refine Ew_of (pcₚ := 354) (fun _ => x_iconst rfl) ?_
                                  refine w_iadd rfl ?_
                                  refine Ew_of (pcₚ := 356) (fun _ => x_aload_n rfl l320_0) ?_
                                  refine w_gT H (o := 5) (t := 40) rfl (H.perm 5 rfl) rfl rfl rfl rfl rfl rfl ?_
                                  refine Ew_of (pcₚ := 361) (fun _ => x_iload rfl l320_10) ?_
                                  refine w_lI H (o := 40) (n := 256) rfl (H.perm 40 rfl) rfl rfl (H.fix 40 rfl rfl) (show 0 ≤ x320_10 ∧ x320_10 < ((256 : Nat) : Int) from q_1030 b28 j320_1) (by decide) (fun v37 ev37 qv37 => ?_)
                                  have qv37 : (-1 : Int) ≤ v37 ∧ v37 ≤ 15 := qv37
                                  have ev37 : (upd1 (A_c145 40) (xc145_5) ((z25 + 1))) (x320_10) = v37 := (congrFun ((funext (hA_320 40 rfl)).trans ((funext (hA_c300 40 rfl)).trans (congrArg (fun q => upd1 q (xc145_5) ((z25 + 1))) ((funext (hA24 40 rfl)).trans ((funext (hA18 40 rfl)).trans ((funext (hA10 40 rfl)).trans (funext (hA_161 40 rfl)))))))) (x320_10)).symm.trans ev37
                                  refine w_isub rfl ?_
                                  refine Ew_of (pcₚ := 367) (fun _ => x_goto rfl rfl) ?_
                                  refine w_sI H (o := 31) (n := 256) rfl (H.perm 31 rfl) rfl rfl (H.fix 31 rfl rfl) (show 0 ≤ x320_10 ∧ x320_10 < ((256 : Nat) : Int) from q_1030 b28 j320_1) (by decide) (show (0 : Int) ≤ (((z11 + 1) + 1) - v37) ∧ (((z11 + 1) + 1) - v37) ≤ 11 by omega) (fun σ H => ?_)
                                  refine Ew_of (pcₚ := 371) (fun _ => x_iinc (len := 3) rfl (l320_10)) ?_
                                  refine Ew_of (pcₚ := 320) (fun _ => x_goto rfl rfl) ?_
                                  have : ∀ i, (0 : Int) ≤ i → i < ((x320_10 + 1)) → ((upd1 (w320_31) (x320_10) ((((z11 + 1) + 1) - v37)))) i = lw ((upd1 (A_c145 40) (xc145_5) ((z25 + 1)))) ((xc145_5)) (((z11 + 1))) i := pt_upd j320_3 (by omega)
                                  exact ih320 _ (msE hm320 q_1033 (q_1034 b28)) _ σ _ _ ((x320_10 + 1)) (rk_o (l320_0) rfl rfl) (rk_o (l320_4) rfl rfl) (rk_o (l320_5) rfl rfl) (rk_o (l320_8) rfl rfl) (rk_s) H (hS_320) (SA_upd (hA_320) rfl)  (upd1 (w320_31) (x320_10) ((((z11 + 1) + 1) - v37))) (congrArg (fun q => upd1 q (x320_10) ((((z11 + 1) + 1) - v37))) (ew320_31)) (show inr ((x320_10 + 1)) from q_1032 b28 j320_1) (show (0) ≤ ((x320_10 + 1)) from q_29 j320_1) (show ((x320_10 + 1)) ≤ (0) ∨ ((x320_10 + 1)) ≤ ((256)) from q_1031 b28) (show ∀ i, 0 ≤ i → i < ((x320_10 + 1)) → ((upd1 (w320_31) (x320_10) ((((z11 + 1) + 1) - v37)))) i = lw ((upd1 (A_c145 40) (xc145_5) ((z25 + 1)))) ((xc145_5)) (((z11 + 1))) i by assumption) rfl
                        · refine Ew_of (pcₚ := 310) (fun _ => x_iconst rfl) ?_
                          have r38 : (0 : Int) ≤ F 5 10 ∧ F 5 10 ≤ 11 := rngE (show (0 : Int) ≤ F_c300 5 10 ∧ F_c300 5 10 ≤ 11 from H.frng 5 10) (show F_c300 5 10 = F 5 10 from (((((((hS_c300 5 10 rfl).trans (hS23 5 10 rfl)).trans (hS17 5 10 rfl)).trans (hS9 5 10 rfl)).trans (hS_161 5 10 rfl)).trans (hS_c145 5 10 rfl)).trans (hS_c38 5 10 rfl)))
                          exact w_ireturn rfl (k ((-1)) σ _ _ H (SF_trans (SF_trans (SF_trans (SF_trans (SF_trans (SF_trans (SF_trans (SF_refl) hS_c38 (any_sub rfl)) hS_c145 (any_sub rfl)) hS_161 (any_sub rfl)) hS9 (any_sub rfl)) hS17 (any_sub rfl)) hS23 (any_sub rfl)) hS_c300 (any_sub rfl)) (SA_trans (SA_upd (SA_trans (SA_trans (SA_trans (SA_trans (SA_trans (SA_trans (SA_refl) hA_c38 (any_subA rfl)) hA_c145 (any_subA rfl)) hA_161 (any_subA rfl)) hA10 (any_subA rfl)) hA18 (any_subA rfl)) hA24 (any_subA rfl)) rfl) hA_c300 (any_subA rfl)) (F 5 10) ((((((((hS_c300 5 10 rfl).trans (hS23 5 10 rfl)).trans (hS17 5 10 rfl)).trans (hS9 5 10 rfl)).trans (hS_161 5 10 rfl)).trans (hS_c145 5 10 rfl)).trans (hS_c38 5 10 rfl))) (A 31) ((funext (hA_c300 31 rfl)).trans ((funext (hA24 31 rfl)).trans ((funext (hA18 31 rfl)).trans ((funext (hA10 31 rfl)).trans ((funext (hA_161 31 rfl)).trans ((funext (hA_c145 31 rfl)).trans (funext (hA_c38 31 rfl)))))))) (show inr ((-1)) from q_16) (show ((-1)) = -1 ∨ a1 < ((-1)) ∧ ((-1)) ≤ a2 by first | exact q_1205 | omega) (show ((-1)) ≠ -1 → CI ((A 31)) ((F 5 10)) by first | assumption | exact fun h => absurd rfl h | exact fun h => absurd h (by decide) | omega))
                      refine w_icmpne (t := 299) rfl rfl (show inr (v26) from q_1210 qv26) (show inr (1) from q_23) (fun b39 => ?_) (fun b39 => ?_)
                      · refine Ew_of (pcₚ := 300) (fun _ => x_iconst rfl) ?_
                        exact hc300 (0) _ σ _ _  (rk_o (rk_o (l161_0) rfl rfl) rfl rfl) (rk_o (rk_o (l161_4) rfl rfl) rfl rfl) (rk_o (rk_o (l161_5) rfl rfl) rfl rfl) (rk_o (rk_s) rfl rfl) H (SF_refl) (SA_refl)   (show inr (0) from q_20) (show ((v26) ≠ (1) ∧ (0) = (0)) ∨ ((v26) = (1) ∧ (0) = (1)) from q_1009 b39)
                      · refine Ew_of (pcₚ := 296) (fun _ => x_iconst rfl) ?_
                        refine Ew_of (pcₚ := 300) (fun _ => x_goto rfl rfl) ?_
                        exact hc300 (1) _ σ _ _  (rk_o (rk_o (l161_0) rfl rfl) rfl rfl) (rk_o (rk_o (l161_4) rfl rfl) rfl rfl) (rk_o (rk_o (l161_5) rfl rfl) rfl rfl) (rk_o (rk_s) rfl rfl) H (SF_refl) (SA_refl)   (show inr (1) from q_23) (show ((v26) ≠ (1) ∧ (1) = (0)) ∨ ((v26) = (1) ∧ (1) = (1)) from q_1010 b39)
                    · refine Ew_of (pcₚ := 267) (fun _ => x_iconst rfl) ?_
                      have r40 : (0 : Int) ≤ F 5 10 ∧ F 5 10 ≤ 11 := rngE (show (0 : Int) ≤ F15 5 10 ∧ F15 5 10 ≤ 11 from H.frng 5 10) (show F15 5 10 = F 5 10 from (((((hS17 5 10 rfl).trans (hS9 5 10 rfl)).trans (hS_161 5 10 rfl)).trans (hS_c145 5 10 rfl)).trans (hS_c38 5 10 rfl)))
                      exact w_ireturn rfl (k ((-1)) σ _ _ H (SF_trans (SF_trans (SF_trans (SF_trans (SF_trans (SF_refl) hS_c38 (any_sub rfl)) hS_c145 (any_sub rfl)) hS_161 (any_sub rfl)) hS9 (any_sub rfl)) hS17 (any_sub rfl)) (SA_trans (SA_trans (SA_trans (SA_trans (SA_trans (SA_refl) hA_c38 (any_subA rfl)) hA_c145 (any_subA rfl)) hA_161 (any_subA rfl)) hA10 (any_subA rfl)) hA18 (any_subA rfl)) (F 5 10) ((((((hS17 5 10 rfl).trans (hS9 5 10 rfl)).trans (hS_161 5 10 rfl)).trans (hS_c145 5 10 rfl)).trans (hS_c38 5 10 rfl))) (A 31) ((funext (hA18 31 rfl)).trans ((funext (hA10 31 rfl)).trans ((funext (hA_161 31 rfl)).trans ((funext (hA_c145 31 rfl)).trans (funext (hA_c38 31 rfl)))))) (show inr ((-1)) from q_16) (show ((-1)) = -1 ∨ a1 < ((-1)) ∧ ((-1)) ≤ a2 by first | exact q_1205 | omega) (show ((-1)) ≠ -1 → CI ((A 31)) ((F 5 10)) by first | assumption | exact fun h => absurd rfl h | exact fun h => absurd h (by decide) | omega))
                · refine Ew_of (pcₚ := 231) (fun _ => x_iconst rfl) ?_
                  have r41 : (0 : Int) ≤ F 5 10 ∧ F 5 10 ≤ 11 := rngE (show (0 : Int) ≤ F_161 5 10 ∧ F_161 5 10 ≤ 11 from H.frng 5 10) (show F_161 5 10 = F 5 10 from (((hS_161 5 10 rfl).trans (hS_c145 5 10 rfl)).trans (hS_c38 5 10 rfl)))
                  exact w_ireturn rfl (k ((-1)) σ _ _ H (SF_trans (SF_trans (SF_trans (SF_refl) hS_c38 (any_sub rfl)) hS_c145 (any_sub rfl)) hS_161 (any_sub rfl)) (SA_trans (SA_trans (SA_trans (SA_refl) hA_c38 (any_subA rfl)) hA_c145 (any_subA rfl)) hA_161 (any_subA rfl)) (F 5 10) ((((hS_161 5 10 rfl).trans (hS_c145 5 10 rfl)).trans (hS_c38 5 10 rfl))) (A 31) ((funext (hA_161 31 rfl)).trans ((funext (hA_c145 31 rfl)).trans (funext (hA_c38 31 rfl)))) (show inr ((-1)) from q_16) (show ((-1)) = -1 ∨ a1 < ((-1)) ∧ ((-1)) ≤ a2 by first | exact q_1205 | omega) (show ((-1)) ≠ -1 → CI ((A 31)) ((F 5 10)) by first | assumption | exact fun h => absurd rfl h | exact fun h => absurd h (by decide) | omega))
              · have hsw := su_s (f := fun i => wk (((A_c145 40)) i)) (i := (x161_8)) (by omega)
                have hso := su_s (f := fun i => on1 (((A_c145 40)) i)) (i := (x161_8)) (by omega)
                have hwk := wk_eq (((A_c145 40)) ((x161_8)))
                have hon := on1_eq (((A_c145 40)) ((x161_8)))
                refine Ew_of (pcₚ := 170) (fun _ => x_iload rfl l161_6) ?_
                refine Ew_of (pcₚ := 171) (fun _ => x_aload_n rfl l161_0) ?_
                refine w_gT H (o := 5) (t := 40) rfl (H.perm 5 rfl) rfl rfl rfl rfl rfl rfl ?_
                refine Ew_of (pcₚ := 176) (fun _ => x_iload rfl l161_8) ?_
                refine w_lI H (o := 40) (n := 256) rfl (H.perm 40 rfl) rfl rfl (H.fix 40 rfl rfl) (show 0 ≤ x161_8 ∧ x161_8 < ((256 : Nat) : Int) from q_1211 b5 j161_3 j161_4 jc145_1) (by decide) (fun v42 ev42 qv42 => ?_)
                have qv42 : (-1 : Int) ≤ v42 ∧ v42 ≤ 15 := qv42
                have ev42 : (A_c145 40) (x161_8) = v42 := (congrFun (funext (hA_161 40 rfl)) (x161_8)).symm.trans ev42
                have hpw2 : p2 (((A_c145 40)) ((x161_8)) - 1) ≤ p2 14 := p2_mono (by omega)
                have hp14 : p2 14 = 16384 := by decide
                have hpw3 := p2_pos (((A_c145 40)) ((x161_8)) - 1)
                have hc195 : ∀ (tc195_0 : Int), ∀ (ls : rO) (σ : rS) (F_c195 : hF) (A_c195 : hA) , rlook ls 0 = some (.ref (D 5)) → rlook ls 4 = some (I (((a1 + 1) + tc38_0))) → rlook ls 5 = some (I (xc145_5)) → rlook ls 7 = some (I (x161_7)) → rlook ls 8 = some (I (x161_8)) → HS σ0 σ D N F_c195 A_c195 → SF [] F_161 F_c195 → SA [] A_161 A_c195 → (inr (tc195_0)) → (((v42) ≤ (0) ∧ (tc195_0) = (0)) ∨ ((v42) > (0) ∧ (-1) ≤ ((A_c145 40) (x161_8)) ∧ ((A_c145 40) (x161_8)) ≤ 15 ∧ (tc195_0) = (p2 (((A_c145 40) (x161_8) - 1))))) → Ew 271 (d + 3) 195 ls [I (tc195_0), I (x161_6)] σ c s Q := by
                 as_aux_lemma =>
                  intro tc195_0 ls σ F_c195 A_c195  lc195_0 lc195_4 lc195_5 lc195_7 lc195_8 H hS_c195 hA_c195   jc195_0 jc195_1
                  refine w_iadd rfl ?_
                  refine Ew_of (pcₚ := 198) (fun _ => x_istore rfl) ?_
                  refine Ew_of (pcₚ := 200) (fun _ => x_iload rfl (rk_o (lc195_7) rfl rfl)) ?_
                  refine Ew_of (pcₚ := 201) (fun _ => x_aload_n rfl (rk_o (lc195_0) rfl rfl)) ?_
                  refine w_gT H (o := 5) (t := 40) rfl (H.perm 5 rfl) rfl rfl rfl rfl rfl rfl ?_
                  refine Ew_of (pcₚ := 206) (fun _ => x_iload rfl (rk_o (lc195_8) rfl rfl)) ?_
                  refine w_lI H (o := 40) (n := 256) rfl (H.perm 40 rfl) rfl rfl (H.fix 40 rfl rfl) (show 0 ≤ x161_8 ∧ x161_8 < ((256 : Nat) : Int) from q_1211 b5 j161_3 j161_4 jc145_1) (by decide) (fun v43 ev43 qv43 => ?_)
                  have qv43 : (-1 : Int) ≤ v43 ∧ v43 ≤ 15 := qv43
                  have ev43 : (A_c145 40) (x161_8) = v43 := (congrFun ((funext (hA_c195 40 rfl)).trans (funext (hA_161 40 rfl))) (x161_8)).symm.trans ev43
                  refine Ew_of (pcₚ := 208) (fun _ => x_iconst rfl) ?_
                  refine w_icmpne (t := 215) rfl rfl (show inr (v43) from q_1210 qv43) (show inr (1) from q_23) (fun b44 => ?_) (fun b44 => ?_)
                  · refine Ew_of (pcₚ := 216) (fun _ => x_iconst rfl) ?_
                    refine w_iadd rfl ?_
                    refine Ew_of (pcₚ := 219) (fun _ => x_istore rfl) ?_
                    refine Ew_of (pcₚ := 222) (fun _ => x_iinc (len := 3) rfl (rk_o (rk_o (lc195_8) rfl rfl) rfl rfl)) ?_
                    refine Ew_of (pcₚ := 161) (fun _ => x_goto rfl rfl) ?_
                    exact ih161 _ (msE hm161 q_31 (q_34 b5)) _ σ _ _ ((x161_6 + tc195_0)) ((x161_7 + 0)) ((x161_8 + 1)) (rk_o (rk_o (rk_o (lc195_0) rfl rfl) rfl rfl) rfl rfl) (rk_o (rk_o (rk_o (lc195_4) rfl rfl) rfl rfl) rfl rfl) (rk_o (rk_o (rk_o (lc195_5) rfl rfl) rfl rfl) rfl rfl) (rk_o (rk_o (rk_s) rfl rfl) rfl rfl) (rk_o (rk_s) rfl rfl) (rk_s) H (SF_trans (hS_161) hS_c195 (any_sub rfl)) (SA_trans (hA_161) hA_c195 (any_subA rfl))   (show inr ((x161_6 + tc195_0)) by omega) (show inr ((x161_7 + 0)) from q_1215 j161_1 j161_8) (show inr ((x161_8 + 1)) from q_1214 b5 j161_7 jc145_0) (show (0) ≤ ((x161_8 + 1)) from q_1213 j161_7) (show ((x161_8 + 1)) ≤ (0) ∨ ((x161_8 + 1)) ≤ ((xc145_5)) from q_33 b5) (show ((x161_6 + tc195_0)) = su (fun i => wk (((A_c145 40)) i)) (((x161_8 + 1)) : Int).toNat by omega) (show ((x161_7 + 0)) = su (fun i => on1 (((A_c145 40)) i)) (((x161_8 + 1)) : Int).toNat by omega) (show 0 ≤ ((x161_6 + tc195_0)) ∧ ((x161_6 + tc195_0)) ≤ 16384 * ((x161_8 + 1)) by omega) (show 0 ≤ ((x161_7 + 0)) ∧ ((x161_7 + 0)) ≤ ((x161_8 + 1)) from q_1212 j161_8) rfl
                  · refine Ew_of (pcₚ := 212) (fun _ => x_iconst rfl) ?_
                    refine Ew_of (pcₚ := 216) (fun _ => x_goto rfl rfl) ?_
                    refine w_iadd rfl ?_
                    refine Ew_of (pcₚ := 219) (fun _ => x_istore rfl) ?_
                    refine Ew_of (pcₚ := 222) (fun _ => x_iinc (len := 3) rfl (rk_o (rk_o (lc195_8) rfl rfl) rfl rfl)) ?_
                    refine Ew_of (pcₚ := 161) (fun _ => x_goto rfl rfl) ?_
                    exact ih161 _ (msE hm161 q_31 (q_34 b5)) _ σ _ _ ((x161_6 + tc195_0)) ((x161_7 + 1)) ((x161_8 + 1)) (rk_o (rk_o (rk_o (lc195_0) rfl rfl) rfl rfl) rfl rfl) (rk_o (rk_o (rk_o (lc195_4) rfl rfl) rfl rfl) rfl rfl) (rk_o (rk_o (rk_o (lc195_5) rfl rfl) rfl rfl) rfl rfl) (rk_o (rk_o (rk_s) rfl rfl) rfl rfl) (rk_o (rk_s) rfl rfl) (rk_s) H (SF_trans (hS_161) hS_c195 (any_sub rfl)) (SA_trans (hA_161) hA_c195 (any_subA rfl))   (show inr ((x161_6 + tc195_0)) by omega) (show inr ((x161_7 + 1)) by omega) (show inr ((x161_8 + 1)) from q_1214 b5 j161_7 jc145_0) (show (0) ≤ ((x161_8 + 1)) from q_1213 j161_7) (show ((x161_8 + 1)) ≤ (0) ∨ ((x161_8 + 1)) ≤ ((xc145_5)) from q_33 b5) (show ((x161_6 + tc195_0)) = su (fun i => wk (((A_c145 40)) i)) (((x161_8 + 1)) : Int).toNat by omega) (show ((x161_7 + 1)) = su (fun i => on1 (((A_c145 40)) i)) (((x161_8 + 1)) : Int).toNat by omega) (show 0 ≤ ((x161_6 + tc195_0)) ∧ ((x161_6 + tc195_0)) ≤ 16384 * ((x161_8 + 1)) by omega) (show 0 ≤ ((x161_7 + 1)) ∧ ((x161_7 + 1)) ≤ ((x161_8 + 1)) from q_1216 j161_8) rfl
                refine w_ifle (t := 194) rfl rfl (show inr (v42) from q_1210 qv42) (fun b45 => ?_) (fun b45 => ?_)
                · refine Ew_of (pcₚ := 195) (fun _ => x_iconst rfl) ?_
                  exact hc195 (0) _ σ _ _  (l161_0) (l161_4) (l161_5) (l161_7) (l161_8) H (SF_refl) (SA_refl)   (show inr (0) from q_20) (show ((v42) ≤ (0) ∧ (0) = (0)) ∨ ((v42) > (0) ∧ (-1) ≤ ((A_c145 40) (x161_8)) ∧ ((A_c145 40) (x161_8)) ≤ 15 ∧ (0) = (p2 (((A_c145 40) (x161_8) - 1)))) from q_1217 b45)
                · refine Ew_of (pcₚ := 181) (fun _ => x_iconst rfl) ?_
                  refine Ew_of (pcₚ := 182) (fun _ => x_aload_n rfl l161_0) ?_
                  refine w_gT H (o := 5) (t := 40) rfl (H.perm 5 rfl) rfl rfl rfl rfl rfl rfl ?_
                  refine Ew_of (pcₚ := 187) (fun _ => x_iload rfl l161_8) ?_
                  refine w_lI H (o := 40) (n := 256) rfl (H.perm 40 rfl) rfl rfl (H.fix 40 rfl rfl) (show 0 ≤ x161_8 ∧ x161_8 < ((256 : Nat) : Int) from q_1211 b5 j161_3 j161_4 jc145_1) (by decide) (fun v46 ev46 qv46 => ?_)
                  have qv46 : (-1 : Int) ≤ v46 ∧ v46 ≤ 15 := qv46
                  have ev46 : (A_c145 40) (x161_8) = v46 := (congrFun (funext (hA_161 40 rfl)) (x161_8)).symm.trans ev46
                  refine Ew_of (pcₚ := 189) (fun _ => x_iconst rfl) ?_
                  refine w_isub rfl ?_
                  have hpw : p2 (((v46 - 1))) = p2 (((A_c145 40)) ((x161_8)) - 1) := by congr 1; omega
                  have : p2 (((v46 - 1))) ≤ p2 14 := p2_mono (by omega)
                  have : p2 14 = 16384 := by decide
                  have := p2_pos (((v46 - 1)))
                  refine w_ishl1 rfl (show 0 ≤ (v46 - 1) ∧ (v46 - 1) ≤ 31 from q_1218 b45 ev42 ev46 qv46) ?_
                  refine Ew_of (pcₚ := 195) (fun _ => x_goto rfl rfl) ?_
                  exact hc195 (p2 ((v46 - 1))) _ σ _ _  (l161_0) (l161_4) (l161_5) (l161_7) (l161_8) H (SF_refl) (SA_refl)   (show inr (p2 ((v46 - 1))) by omega) (show ((v42) ≤ (0) ∧ (p2 ((v46 - 1))) = (0)) ∨ ((v42) > (0) ∧ (-1) ≤ ((A_c145 40) (x161_8)) ∧ ((A_c145 40) (x161_8)) ≤ 15 ∧ (p2 ((v46 - 1))) = (p2 (((A_c145 40) (x161_8) - 1)))) from q_1219 b45 ev46 hpw qv46)
          · refine Ew_of (pcₚ := 151) (fun _ => x_iconst rfl) ?_
            have r48 : (0 : Int) ≤ F 5 10 ∧ F 5 10 ≤ 11 := rngE (show (0 : Int) ≤ F_c145 5 10 ∧ F_c145 5 10 ≤ 11 from H.frng 5 10) (show F_c145 5 10 = F 5 10 from ((hS_c145 5 10 rfl).trans (hS_c38 5 10 rfl)))
            exact w_ireturn rfl (k ((-1)) σ _ _ H (SF_trans (SF_trans (SF_refl) hS_c38 (any_sub rfl)) hS_c145 (any_sub rfl)) (SA_trans (SA_trans (SA_refl) hA_c38 (any_subA rfl)) hA_c145 (any_subA rfl)) (F 5 10) (((hS_c145 5 10 rfl).trans (hS_c38 5 10 rfl))) (A 31) ((funext (hA_c145 31 rfl)).trans (funext (hA_c38 31 rfl))) (show inr ((-1)) from q_16) (show ((-1)) = -1 ∨ a1 < ((-1)) ∧ ((-1)) ≤ a2 by first | exact q_1205 | omega) (show ((-1)) ≠ -1 → CI ((A 31)) ((F 5 10)) by first | assumption | exact fun h => absurd rfl h | exact fun h => absurd h (by decide) | omega))
        refine Ew_of (pcₚ := 56) (fun _ => x_iload_n rfl (rk_o (rk_o (lc38_3) rfl rfl) rfl rfl)) ?_
        refine Ew_of (pcₚ := 58) (fun _ => x_bipush (z := 127) rfl (by decide)) ?_
        refine w_icmple (t := 134) rfl rfl (show inr (v2) from q_38 qv2) (show inr (127) from q_869) (fun b49 => ?_) (fun b49 => ?_)
        · refine Ew_of (pcₚ := 135) (fun _ => x_aload_n rfl (rk_o (rk_o (lc38_0) rfl rfl) rfl rfl)) ?_
          refine Ew_of (pcₚ := 136) (fun _ => x_iload_n rfl (rk_o (rk_o (lc38_1) rfl rfl) rfl rfl)) ?_
          refine Ew_of (pcₚ := 137) (fun _ => x_iconst rfl) ?_
          refine w_iadd rfl ?_
          refine Ew_of (pcₚ := 140) (fun _ => x_iload rfl (rk_o (rk_s) rfl rfl)) ?_
          refine w_inv H (o := 5) rfl rfl rfl (H.perm 5 rfl) rfl rfl (by rfl) (M272 H (show inr ((a1 + 1)) from q_1221 h2) (show inr (((a1 + 1) + tc38_0)) from q_1208 b3 h2 jc38_0) (show 0 ≤ ((a1 + 1)) ∧ ((a1 + 1)) ≤ 65536 ∧ 0 ≤ (((a1 + 1) + tc38_0)) ∧ (((a1 + 1) + tc38_0)) ≤ 65536 from q_1220 b1 b3 h2 jc38_1 qv2) (fun z54 σ F50 A51 H hS52 hA53 pz54_0 pz54_1 => ⟨rfl, ?_⟩))
          refine Ew_of (pcₚ := 145) (fun _ => x_istore rfl) ?_
          exact hc145  _ σ _ _ (z54) (rk_o (rk_o (rk_o (lc38_0) rfl rfl) rfl rfl) rfl rfl) (rk_o (rk_o (rk_s) rfl rfl) rfl rfl) (rk_s) H (SF_trans (SF_refl) hS52 (any_sub rfl)) (SA_trans (SA_refl) hA53 (any_subA rfl))   (show inr (z54) from pz54_0) (show (z54) = -1 ∨ 1 ≤ (z54) ∧ (z54) ≤ 255 by omega)
        · refine Ew_of (pcₚ := 62) (fun _ => x_iconst rfl) ?_
          refine Ew_of (pcₚ := 64) (fun _ => x_istore rfl) ?_
          suffices hl64 : ∀ (m : Nat), ∀ (ls : rO) (σ : rS) (F_64 : hF) (A_64 : hA) (x64_6 : Int), rlook ls 0 = some (.ref (D 5)) → rlook ls 1 = some (I (a1)) → rlook ls 4 = some (I (((a1 + 1) + tc38_0))) → rlook ls 5 = some (I ((v2 - 127))) → rlook ls 6 = some (I (x64_6)) → HS σ0 σ D N F_64 A_64 → SF [] F_c38 F_64 → SA [40] A_c38 A_64 → (inr (x64_6)) → ((0) ≤ (x64_6)) → ((x64_6) ≤ (0) ∨ (x64_6) ≤ (((v2 - 127)))) → ((((v2 - 127))) - (x64_6)).toNat = m → Ew 271 (d + 3) 64 ls [] σ c s Q from
            hl64 _ _ σ _ _ (0) (rk_o (rk_o (rk_o (lc38_0) rfl rfl) rfl rfl) rfl rfl) (rk_o (rk_o (rk_o (lc38_1) rfl rfl) rfl rfl) rfl rfl) (rk_o (rk_o (rk_s) rfl rfl) rfl rfl) (rk_o (rk_s) rfl rfl) (rk_s) H (SF_refl) (SA_refl)   (show inr (0) from q_20) (show (0) ≤ (0) from q_25) (show (0) ≤ (0) ∨ (0) ≤ (((v2 - 127))) from q_1222) rfl
          as_aux_lemma =>
          intro m
          induction m using Nat.strongRecOn with
          | _ m ih64 =>
            intro ls σ F_64 A_64 x64_6 l64_0 l64_1 l64_4 l64_5 l64_6 H hS_64 hA_64   j64_0 j64_1 j64_2 hm64
            refine Ew_of (pcₚ := 66) (fun _ => x_iload rfl l64_6) ?_
            refine Ew_of (pcₚ := 68) (fun _ => x_iload rfl l64_5) ?_
            refine w_icmpge (t := 131) rfl rfl (show inr (x64_6) from j64_0) (show inr ((v2 - 127)) from q_1223 b49 qv2) (fun b55 => ?_) (fun b55 => ?_)
            · refine Ew_of (pcₚ := 145) (fun _ => x_goto rfl rfl) ?_
              exact hc145  _ σ _ _ ((v2 - 127)) (l64_0) (l64_4) (l64_5) H (SF_trans (SF_refl) hS_64 (any_sub rfl)) (SA_trans (SA_refl) hA_64 (any_subA rfl))   (show inr ((v2 - 127)) from q_1223 b49 qv2) (show ((v2 - 127)) = -1 ∨ 1 ≤ ((v2 - 127)) ∧ ((v2 - 127)) ≤ 255 from q_1224 b49 qv2)
            · refine Ew_of (pcₚ := 72) (fun _ => x_aload_n rfl l64_0) ?_
              refine w_gT H (o := 5) (t := 40) rfl (H.perm 5 rfl) rfl rfl rfl rfl rfl rfl ?_
              refine Ew_of (pcₚ := 77) (fun _ => x_iload rfl l64_6) ?_
              refine Ew_of (pcₚ := 79) (fun _ => x_iload rfl l64_6) ?_
              refine Ew_of (pcₚ := 80) (fun _ => x_iconst rfl) ?_
              refine w_irem rfl (show inr (x64_6) ∧ 0 ≤ x64_6 from q_968 j64_0 j64_1) (show inr (2) ∧ 0 < 2 from q_967) ?_
              refine w_ifne (t := 105) rfl rfl (show inr ((x64_6 % 2)) from q_1225) (fun b56 => ?_) (fun b56 => ?_)
              · refine Ew_of (pcₚ := 106) (fun _ => x_aload_n rfl l64_0) ?_
                refine w_gT H (o := 5) (t := 1) rfl (H.perm 5 rfl) rfl rfl rfl rfl rfl rfl ?_
                refine w_gT H (o := 1) (t := 14) rfl (H.perm 1 rfl) rfl rfl rfl rfl rfl rfl ?_
                refine Ew_of (pcₚ := 113) (fun _ => x_iload_n rfl l64_1) ?_
                refine Ew_of (pcₚ := 114) (fun _ => x_iconst rfl) ?_
                refine w_iadd rfl ?_
                refine Ew_of (pcₚ := 117) (fun _ => x_iload rfl l64_6) ?_
                refine Ew_of (pcₚ := 118) (fun _ => x_iconst rfl) ?_
                refine w_idiv rfl (show inr (x64_6) ∧ 0 ≤ x64_6 from q_968 j64_0 j64_1) (show inr (2) ∧ 0 < 2 from q_967) ?_
                refine w_iadd rfl ?_
                refine w_lI H (o := 14) (n := 65536) rfl (H.perm 14 rfl) rfl rfl (H.fix 14 rfl rfl) (show 0 ≤ ((a1 + 1) + (x64_6 / 2)) ∧ ((a1 + 1) + (x64_6 / 2)) < ((65536 : Nat) : Int) by omega) (by decide) (fun v57 ev57 qv57 => ?_)
                have qv57 : (0 : Int) ≤ v57 ∧ v57 ≤ 255 := qv57
                have ev57 : (A 14) (((a1 + 1) + (x64_6 / 2))) = v57 := (congrFun ((funext (hA_64 14 rfl)).trans (funext (hA_c38 14 rfl))) (((a1 + 1) + (x64_6 / 2)))).symm.trans ev57
                refine Ew_of (pcₚ := 123) (fun _ => x_bipush (z := 15) rfl (by decide)) ?_
                refine w_iand rfl (show inr (v57) from q_38 qv57) (show inr (15) from q_143) (fun z58 gz58 gaz58 gbz58 => ?_)
                refine w_sI H (o := 40) (n := 256) rfl (H.perm 40 rfl) rfl rfl (H.fix 40 rfl rfl) (show 0 ≤ x64_6 ∧ x64_6 < ((256 : Nat) : Int) from q_1226 b55 j64_1 qv2) (by decide) (show (-1 : Int) ≤ z58 ∧ z58 ≤ 15 by omega) (fun σ H => ?_)
                refine Ew_of (pcₚ := 128) (fun _ => x_iinc (len := 3) rfl (l64_6)) ?_
                refine Ew_of (pcₚ := 64) (fun _ => x_goto rfl rfl) ?_
                exact ih64 _ (msE hm64 q_1229 (q_1230 b55)) _ σ _ _ ((x64_6 + 1)) (rk_o (l64_0) rfl rfl) (rk_o (l64_1) rfl rfl) (rk_o (l64_4) rfl rfl) (rk_o (l64_5) rfl rfl) (rk_s) H (hS_64) (SA_upd (hA_64) rfl)   (show inr ((x64_6 + 1)) from q_1228 b55 j64_1 qv2) (show (0) ≤ ((x64_6 + 1)) from q_29 j64_1) (show ((x64_6 + 1)) ≤ (0) ∨ ((x64_6 + 1)) ≤ (((v2 - 127))) from q_1227 b55) rfl
              · refine Ew_of (pcₚ := 85) (fun _ => x_aload_n rfl l64_0) ?_
                refine w_gT H (o := 5) (t := 1) rfl (H.perm 5 rfl) rfl rfl rfl rfl rfl rfl ?_
                refine w_gT H (o := 1) (t := 14) rfl (H.perm 1 rfl) rfl rfl rfl rfl rfl rfl ?_
                refine Ew_of (pcₚ := 92) (fun _ => x_iload_n rfl l64_1) ?_
                refine Ew_of (pcₚ := 93) (fun _ => x_iconst rfl) ?_
                refine w_iadd rfl ?_
                refine Ew_of (pcₚ := 96) (fun _ => x_iload rfl l64_6) ?_
                refine Ew_of (pcₚ := 97) (fun _ => x_iconst rfl) ?_
                refine w_idiv rfl (show inr (x64_6) ∧ 0 ≤ x64_6 from q_968 j64_0 j64_1) (show inr (2) ∧ 0 < 2 from q_967) ?_
                refine w_iadd rfl ?_
                refine w_lI H (o := 14) (n := 65536) rfl (H.perm 14 rfl) rfl rfl (H.fix 14 rfl rfl) (show 0 ≤ ((a1 + 1) + (x64_6 / 2)) ∧ ((a1 + 1) + (x64_6 / 2)) < ((65536 : Nat) : Int) by omega) (by decide) (fun v59 ev59 qv59 => ?_)
                have qv59 : (0 : Int) ≤ v59 ∧ v59 ≤ 255 := qv59
                have ev59 : (A 14) (((a1 + 1) + (x64_6 / 2))) = v59 := (congrFun ((funext (hA_64 14 rfl)).trans (funext (hA_c38 14 rfl))) (((a1 + 1) + (x64_6 / 2)))).symm.trans ev59
                refine Ew_of (pcₚ := 101) (fun _ => x_iconst rfl) ?_
                refine w_ishrK 4 16 (by decide) (by decide) rfl (show inr (v59) from q_38 qv59) (fun z60 gz60 dz60 => ?_)
                refine Ew_of (pcₚ := 124) (fun _ => x_goto rfl rfl) ?_
                refine w_sI H (o := 40) (n := 256) rfl (H.perm 40 rfl) rfl rfl (H.fix 40 rfl rfl) (show 0 ≤ x64_6 ∧ x64_6 < ((256 : Nat) : Int) from q_1226 b55 j64_1 qv2) (by decide) (show (-1 : Int) ≤ z60 ∧ z60 ≤ 15 by omega) (fun σ H => ?_)
                refine Ew_of (pcₚ := 128) (fun _ => x_iinc (len := 3) rfl (l64_6)) ?_
                refine Ew_of (pcₚ := 64) (fun _ => x_goto rfl rfl) ?_
                exact ih64 _ (msE hm64 q_1229 (q_1230 b55)) _ σ _ _ ((x64_6 + 1)) (rk_o (l64_0) rfl rfl) (rk_o (l64_1) rfl rfl) (rk_o (l64_4) rfl rfl) (rk_o (l64_5) rfl rfl) (rk_s) H (hS_64) (SA_upd (hA_64) rfl)   (show inr ((x64_6 + 1)) from q_1228 b55 j64_1 qv2) (show (0) ≤ ((x64_6 + 1)) from q_29 j64_1) (show ((x64_6 + 1)) ≤ (0) ∨ ((x64_6 + 1)) ≤ (((v2 - 127))) from q_1227 b55) rfl
      · refine Ew_of (pcₚ := 48) (fun _ => x_iconst rfl) ?_
        have r61 : (0 : Int) ≤ F 5 10 ∧ F 5 10 ≤ 11 := rngE (show (0 : Int) ≤ F_c38 5 10 ∧ F_c38 5 10 ≤ 11 from H.frng 5 10) (show F_c38 5 10 = F 5 10 from (hS_c38 5 10 rfl))
        exact w_ireturn rfl (k ((-1)) σ _ _ H (SF_trans (SF_refl) hS_c38 (any_sub rfl)) (SA_trans (SA_refl) hA_c38 (any_subA rfl)) (F 5 10) ((hS_c38 5 10 rfl)) (A 31) (funext (hA_c38 31 rfl)) (show inr ((-1)) from q_16) (show ((-1)) = -1 ∨ a1 < ((-1)) ∧ ((-1)) ≤ a2 by first | exact q_1205 | omega) (show ((-1)) ≠ -1 → CI ((A 31)) ((F 5 10)) by first | assumption | exact fun h => absurd rfl h | exact fun h => absurd h (by decide) | omega))
    refine w_icmple (t := 37) rfl rfl (show inr (v2) from q_38 qv2) (show inr (127) from q_869) (fun b62 => ?_) (fun b62 => ?_)
    · refine Ew_of (pcₚ := 38) (fun _ => x_iload_n rfl rk_s) ?_
      exact hc38 (v2) _ σ _ _  (rk_o (rfl) rfl rfl) (rk_o (rfl) rfl rfl) (rk_o (rfl) rfl rfl) (rk_s) H (SF_refl) (SA_refl)   (show inr (v2) from q_1232 b62 qv2) (show ((v2) ≤ (127) ∧ (v2) = (v2)) ∨ ((v2) > (127) ∧ (v2) = ((((v2 - 127) + 1) / 2))) from q_1231 b62)
    · refine Ew_of (pcₚ := 27) (fun _ => x_iload_n rfl rk_s) ?_
      refine Ew_of (pcₚ := 29) (fun _ => x_bipush (z := 127) rfl (by decide)) ?_
      refine w_isub rfl ?_
      refine Ew_of (pcₚ := 31) (fun _ => x_iconst rfl) ?_
      refine w_iadd rfl ?_
      refine Ew_of (pcₚ := 33) (fun _ => x_iconst rfl) ?_
      refine w_idiv rfl (show inr (((v2 - 127) + 1)) ∧ 0 ≤ ((v2 - 127) + 1) from q_1233 b62 qv2) (show inr (2) ∧ 0 < 2 from q_967) ?_
      refine Ew_of (pcₚ := 38) (fun _ => x_goto rfl rfl) ?_
      exact hc38 ((((v2 - 127) + 1) / 2)) _ σ _ _  (rk_o (rfl) rfl rfl) (rk_o (rfl) rfl rfl) (rk_o (rfl) rfl rfl) (rk_s) H (SF_refl) (SA_refl)   (show inr ((((v2 - 127) + 1) / 2)) from q_1235 b62 qv2) (show ((v2) ≤ (127) ∧ ((((v2 - 127) + 1) / 2)) = (v2)) ∨ ((v2) > (127) ∧ ((((v2 - 127) + 1) / 2)) = ((((v2 - 127) + 1) / 2))) from q_1234 b62)
  · refine Ew_of (pcₚ := 6) (fun _ => x_iconst rfl) ?_
    have r63 : (0 : Int) ≤ F 5 10 ∧ F 5 10 ≤ 11 := H.frng 5 10
    exact w_ireturn rfl (k ((-1)) σ _ _ H (SF_refl) (SA_refl) (F 5 10) (rfl) (A 31) (rfl) (show inr ((-1)) from q_16) (show ((-1)) = -1 ∨ a1 < ((-1)) ∧ ((-1)) ≤ a2 by first | exact q_1205 | omega) (show ((-1)) ≠ -1 → CI ((A 31)) ((F 5 10)) by first | assumption | exact fun h => absurd rfl h | exact fun h => absurd h (by decide) | omega))
