/-- Writer.putShare -/
theorem M412_75 {σ0 σ : rS} {D N : Nat → Nat} {F : hF} {A : hA} {d c s : Nat} {Q : wQ} (H : HS σ0 σ D N F A) {a2 a3 : Int} (u6_35 : Int) (eu6_35 : F 6 35 = u6_35) (w75 : Int → Int) (ew75 : A 75 = w75) (lst : Int) (h0 : inr (a2)) (h1 : inr (a3)) (h2 : SH ((w75)) (a2) 64 (a3) lst) (h3 : 0 ≤ (a2) ∧ (a2) + 64 ≤ 64) (h4 : 0 ≤ (u6_35) ∧ (u6_35) ≤ 1000000) (h5 : 0 ≤ lst) (k : ∀ σ Fₚ Aₚ, HS σ0 σ D N Fₚ Aₚ → SF [(6, 35)] F Fₚ → SA [69] A Aₚ → ∀ y6_35 : Int, Fₚ 6 35 = y6_35 → ((u6_35) ≤ (y6_35) ∧ (y6_35) ≤ (u6_35) + 11 + 12 * (lst + 1)) → Q none σ c s) : Ew 412 (d + 1) 0 (rargs 0 [.ref (D 6), .ref (D 75), I a2, I a3]) [] σ c s Q := by
  have r1 : (0 : Int) ≤ u6_35 ∧ u6_35 ≤ 100000000 := rngE (show (0 : Int) ≤ F 6 35 ∧ F 6 35 ≤ 100000000 from H.frng 6 35) (show F 6 35 = u6_35 from (eu6_35))
  have hsh : SH ((w75)) (a2) 64 (a3) lst := h2
  have h59 : 5 ≤ (a3) ∧ (a3) ≤ 9 := ⟨hsh.1, hsh.2.1⟩
  have hp5 := p2_5 h59
  have hmt := mp_SH hsh
  have hm0_ : mp (sh ((w75)) ((a2))) 0 = 0 := rfl
  refine Ew_of (pcₚ := 1) (fun _ => x_aload_n rfl rfl) ?_
  refine Ew_of (pcₚ := 2) (fun _ => x_iload_n rfl rfl) ?_
  refine Ew_of (pcₚ := 3) (fun _ => x_iconst rfl) ?_
  refine w_isub rfl ?_
  refine Ew_of (pcₚ := 5) (fun _ => x_iconst rfl) ?_
  refine w_inv H (o := 6) rfl rfl rfl (H.perm 6 rfl) rfl rfl (by rfl) (M389 H (u6_35) ((eu6_35)) (show inr ((a3 - 5)) from q_2159 h59) (show inr (4) from q_2) (show 0 ≤ (4) ∧ (4) ≤ 31 from q_2158) (show 0 ≤ (u6_35) ∧ (u6_35) ≤ 90000000 from q_2157 h4 r1) (fun σ F2 A3 H hS4 hA5 y7 ey8 pz6_0 => ⟨rfl, ?_⟩))
  have r9 : (0 : Int) ≤ y7 ∧ y7 ≤ 100000000 := rngE (show (0 : Int) ≤ F2 6 35 ∧ F2 6 35 ≤ 100000000 from H.frng 6 35) (show F2 6 35 = y7 from (ey8))
  refine Ew_of (pcₚ := 9) (fun _ => x_iconst rfl) ?_
  refine Ew_of (pcₚ := 10) (fun _ => x_iload_n rfl rfl) ?_
  refine w_ishl1 rfl (show 0 ≤ a3 ∧ a3 ≤ 31 from q_1046 h59) ?_
  refine Ew_of (pcₚ := 13) (fun _ => x_istore rfl) ?_
  refine Ew_of (pcₚ := 14) (fun _ => x_iconst rfl) ?_
  refine Ew_of (pcₚ := 16) (fun _ => x_istore rfl) ?_
  suffices hl16 : ∀ (m : Nat), ∀ (ls : rO) (σ : rS) (F_16 : hF) (A_16 : hA) (x16_4 : Int) (x16_5 : Int), rlook ls 0 = some (.ref (D 6)) → rlook ls 1 = some (.ref (D 75)) → rlook ls 2 = some (I (a2)) → rlook ls 4 = some (I (x16_4)) → rlook ls 5 = some (I (x16_5)) → HS σ0 σ D N F_16 A_16 → SF [(6, 35)] F2 F_16 → SA [69] A3 A_16 → ∀ y16_6_35 : Int, F_16 6 35 = y16_6_35 → (inr (x16_4)) → (inr (x16_5)) → (0 ≤ (x16_5) ∧ (x16_5) ≤ 64) → ((x16_5) ≤ lst + 1) → ((x16_4) = p2 ((a3)) - mp (sh ((w75)) ((a2))) ((x16_5))) → (0 ≤ (x16_4) ∧ (x16_4) ≤ 512) → ((u6_35) ≤ (y16_6_35) ∧ (y16_6_35) ≤ (u6_35) + 4 + 12 * (x16_5)) → (64 - (x16_5)).toNat = m → Ew 412 (d + 1) 16 ls [] σ c s Q from
    hl16 _ _ σ _ _ (p2 (a3)) (0) (rk_o (rk_o (rfl) rfl rfl) rfl rfl) (rk_o (rk_o (rfl) rfl rfl) rfl rfl) (rk_o (rk_o (rfl) rfl rfl) rfl rfl) (rk_o (rk_s) rfl rfl) (rk_s) H (SF_refl) (SA_refl) (y7) ((ey8))  (show inr (p2 (a3)) by omega) (show inr (0) from q_20) (show 0 ≤ (0) ∧ (0) ≤ 64 from q_2161) (show (0) ≤ lst + 1 from q_29 h5) (show (p2 (a3)) = p2 ((a3)) - mp (sh ((w75)) ((a2))) ((0)) from q_2094 hm0_) (show 0 ≤ (p2 (a3)) ∧ (p2 (a3)) ≤ 512 by omega) (show (u6_35) ≤ (y7) ∧ (y7) ≤ (u6_35) + 4 + 12 * (0) from q_2160 pz6_0) rfl
  as_aux_lemma =>
  intro m
  induction m using Nat.strongRecOn with
  | _ m ih16 =>
    intro ls σ F_16 A_16 x16_4 x16_5 l16_0 l16_1 l16_2 l16_4 l16_5 H hS_16 hA_16 y16_6_35 ey16_6_35  j16_0 j16_1 j16_2 j16_3 j16_4 j16_5 j16_6 hm16
    have r11 : (0 : Int) ≤ y16_6_35 ∧ y16_6_35 ≤ 100000000 := rngE (show (0 : Int) ≤ F_16 6 35 ∧ F_16 6 35 ≤ 100000000 from H.frng 6 35) (show F_16 6 35 = y16_6_35 from (ey16_6_35))
    refine Ew_of (pcₚ := 18) (fun _ => x_iload rfl l16_4) ?_
    refine w_ifle (t := 181) rfl rfl (show inr (x16_4) from j16_0) (fun b12 => ?_) (fun b12 => ?_)
    · refine Ew_of (pcₚ := 182) (fun _ => x_aload_n rfl l16_0) ?_
      refine w_inv H (o := 6) rfl rfl rfl (H.perm 6 rfl) rfl rfl (by rfl) (M390 H (y16_6_35) ((ey16_6_35)) (show 0 ≤ (y16_6_35) ∧ (y16_6_35) ≤ 99000000 from q_2162 h4 j16_2 j16_6 r11) (fun σ F13 A14 H hS15 hA16 y18 ey19 pz17_0 => ⟨rfl, ?_⟩))
      have r20 : (0 : Int) ≤ y18 ∧ y18 ≤ 100000000 := rngE (show (0 : Int) ≤ F13 6 35 ∧ F13 6 35 ≤ 100000000 from H.frng 6 35) (show F13 6 35 = y18 from (ey19))
      exact w_ret rfl (k σ _ _ H (SF_trans (SF_trans (SF_trans (SF_refl) hS4 (any_sub rfl)) hS_16 (any_sub rfl)) hS15 (any_sub rfl)) (SA_trans (SA_trans (SA_trans (SA_refl) hA5 (any_subA rfl)) hA_16 (any_subA rfl)) hA16 (any_subA rfl)) (y18) ((ey19)) (show (u6_35) ≤ (y18) ∧ (y18) ≤ (u6_35) + 11 + 12 * (lst + 1) from q_2163 j16_3 j16_6 pz17_0))
    · have hl64 : (x16_5) < 64 := by by_cases q : (x16_5) < 64; exact q; exact absurd (show mp (sh ((w75)) ((a2))) ((x16_5)) = mp (sh ((w75)) ((a2))) 64 by rw [show (x16_5) = 64 by omega]) (by omega)
      have hll : (x16_5) ≤ lst := by obtain ⟨k, k0, k1, k2⟩ := nz_ex (P := sh ((w75)) ((a2))) (s := (x16_5)) (by omega) (by omega) (by omega); have := (SH_le ((x16_5) + k) hsh (by omega) (by omega)).2.2.2 k2; omega
      have hle := SH_le ((x16_5)) hsh (by omega) (by omega)
      have hms := mp_s (P := sh ((w75)) ((a2))) (s := (x16_5)) (by omega)
      have hmx := mp_le (P := sh ((w75)) ((a2))) (s := (x16_5) + 1) (t := 64) (by omega) (by omega)
      have hpe : (sh ((w75)) ((a2))) ((x16_5)) = ((w75)) ((a2) + (x16_5)) := rfl
      have hme := mass_eq ((sh ((w75)) ((a2))) ((x16_5)))
      refine Ew_of (pcₚ := 22) (fun _ => x_aload_n rfl l16_1) ?_
      refine Ew_of (pcₚ := 23) (fun _ => x_iload_n rfl l16_2) ?_
      refine Ew_of (pcₚ := 25) (fun _ => x_iload rfl l16_5) ?_
      refine w_iadd rfl ?_
      refine w_lI H (o := 75) (n := 64) rfl (H.perm 75 rfl) rfl rfl (H.fix 75 rfl rfl) (show 0 ≤ (a2 + x16_5) ∧ (a2 + x16_5) < ((64 : Nat) : Int) from q_2164 h3 hl64 j16_2) (by decide) (fun v21 ev21 qv21 => ?_)
      have qv21 : (-2147483648 : Int) ≤ v21 ∧ v21 ≤ 2147483647 := qv21
      have ev21 : (w75) ((a2 + x16_5)) = v21 := (congrFun ((funext (hA_16 75 rfl)).trans ((funext (hA5 75 rfl)).trans (ew75))) ((a2 + x16_5))).symm.trans ev21
      refine Ew_of (pcₚ := 28) (fun _ => x_iconst rfl) ?_
      refine w_iadd rfl ?_
      refine Ew_of (pcₚ := 31) (fun _ => x_istore rfl) ?_
      refine Ew_of (pcₚ := 33) (fun _ => x_iload rfl (rk_o (l16_4) rfl rfl)) ?_
      refine Ew_of (pcₚ := 34) (fun _ => x_iconst rfl) ?_
      refine w_iadd rfl ?_
      refine w_stat24 rfl rfl (by rfl) (M400 H (show inr ((x16_4 + 1)) from q_984 b12 j16_5) (show 1 ≤ ((x16_4 + 1)) from q_2165 b12) (fun z26 σ F22 A23 H hS24 hA25 pz26_0 pz26_1 pz26_2 => ⟨rfl, ?_⟩))
      refine Ew_of (pcₚ := 40) (fun _ => x_istore rfl) ?_
      have hk9 : (z26) < 10 := p2_lt (by omega) (by rw [show p2 10 = 1024 from by decide]; omega)
      have hkp := p2_pos ((z26))
      refine Ew_of (pcₚ := 41) (fun _ => x_iconst rfl) ?_
      refine Ew_of (pcₚ := 43) (fun _ => x_iload rfl rk_s) ?_
      refine w_ishl1 rfl (show 0 ≤ z26 ∧ z26 ≤ 31 from q_2166 hk9 pz26_1) ?_
      refine Ew_of (pcₚ := 46) (fun _ => x_istore rfl) ?_
      refine Ew_of (pcₚ := 47) (fun _ => x_iconst rfl) ?_
      refine Ew_of (pcₚ := 49) (fun _ => x_iload rfl rk_s) ?_
      refine w_imul rfl ?_
      refine Ew_of (pcₚ := 51) (fun _ => x_iconst rfl) ?_
      refine w_isub rfl ?_
      refine Ew_of (pcₚ := 54) (fun _ => x_iload rfl (rk_o (rk_o (rk_o (l16_4) rfl rfl) rfl rfl) rfl rfl)) ?_
      refine w_isub rfl ?_
      refine Ew_of (pcₚ := 57) (fun _ => x_istore rfl) ?_
      refine Ew_of (pcₚ := 58) (fun _ => x_aload_n rfl (rk_o (rk_o (rk_o (rk_o (l16_0) rfl rfl) rfl rfl) rfl rfl) rfl rfl)) ?_
      refine Ew_of (pcₚ := 60) (fun _ => x_iload rfl (rk_o (rk_o (rk_o (rk_s) rfl rfl) rfl rfl) rfl rfl)) ?_
      refine Ew_of (pcₚ := 62) (fun _ => x_iload rfl rk_s) ?_
      have hc82 : ∀ (tc82_0 : Int), ∀ (ls : rO) (σ : rS) (F_c82 : hF) (A_c82 : hA) , rlook ls 0 = some (.ref (D 6)) → rlook ls 1 = some (.ref (D 75)) → rlook ls 2 = some (I (a2)) → rlook ls 4 = some (I (x16_4)) → rlook ls 5 = some (I (x16_5)) → rlook ls 6 = some (I ((v21 + 1))) → rlook ls 7 = some (I (z26)) → rlook ls 9 = some (I ((((2 * p2 (z26)) - 2) - x16_4))) → HS σ0 σ D N F_c82 A_c82 → SF [] F22 F_c82 → SA [] A23 A_c82 → (inr (tc82_0)) → ((((v21 + 1)) < ((((2 * p2 (z26)) - 2) - x16_4)) ∧ (tc82_0) = ((v21 + 1))) ∨ (((v21 + 1)) ≥ ((((2 * p2 (z26)) - 2) - x16_4)) ∧ ((v21 + 1)) ≥ (p2 (z26)) ∧ (tc82_0) = (((v21 + 1) + (((2 * p2 (z26)) - 2) - x16_4)))) ∨ (((v21 + 1)) ≥ ((((2 * p2 (z26)) - 2) - x16_4)) ∧ ((v21 + 1)) < (p2 (z26)) ∧ (tc82_0) = ((v21 + 1)))) → Ew 412 (d + 1) 82 ls [I (tc82_0), .ref (D 6)] σ c s Q := by
       as_aux_lemma =>
        intro tc82_0 ls σ F_c82 A_c82  lc82_0 lc82_1 lc82_2 lc82_4 lc82_5 lc82_6 lc82_7 lc82_9 H hS_c82 hA_c82   jc82_0 jc82_1
        refine Ew_of (pcₚ := 84) (fun _ => x_iload rfl lc82_6) ?_
        refine Ew_of (pcₚ := 86) (fun _ => x_iload rfl lc82_9) ?_
        have hc98 : ∀ (tc98_0 : Int), ∀ (ls : rO) (σ : rS) (F_c98 : hF) (A_c98 : hA) , rlook ls 0 = some (.ref (D 6)) → rlook ls 1 = some (.ref (D 75)) → rlook ls 2 = some (I (a2)) → rlook ls 4 = some (I (x16_4)) → rlook ls 5 = some (I (x16_5)) → rlook ls 6 = some (I ((v21 + 1))) → HS σ0 σ D N F_c98 A_c98 → SF [] F_c82 F_c98 → SA [] A_c82 A_c98 → (inr (tc98_0)) → ((((v21 + 1)) ≥ ((((2 * p2 (z26)) - 2) - x16_4)) ∧ (tc98_0) = ((z26 + 1))) ∨ (((v21 + 1)) < ((((2 * p2 (z26)) - 2) - x16_4)) ∧ (tc98_0) = (z26))) → Ew 412 (d + 1) 98 ls [I (tc98_0), I (tc82_0), .ref (D 6)] σ c s Q := by
         as_aux_lemma =>
          intro tc98_0 ls σ F_c98 A_c98  lc98_0 lc98_1 lc98_2 lc98_4 lc98_5 lc98_6 H hS_c98 hA_c98   jc98_0 jc98_1
          refine w_inv H (o := 6) rfl rfl rfl (H.perm 6 rfl) rfl rfl (by rfl) (M389 H (y16_6_35) (((((hS_c98 6 35 rfl).trans (hS_c82 6 35 rfl)).trans (hS24 6 35 rfl)).trans (ey16_6_35))) (show inr (tc82_0) from jc82_0) (show inr (tc98_0) from jc98_0) (show 0 ≤ (tc98_0) ∧ (tc98_0) ≤ 31 from q_2168 hk9 jc98_1 pz26_1) (show 0 ≤ (y16_6_35) ∧ (y16_6_35) ≤ 90000000 from q_2167 h4 hl64 j16_6 r11) (fun σ F28 A29 H hS30 hA31 y33 ey34 pz32_0 => ⟨rfl, ?_⟩))
          have r35 : (0 : Int) ≤ y33 ∧ y33 ≤ 100000000 := rngE (show (0 : Int) ≤ F28 6 35 ∧ F28 6 35 ≤ 100000000 from H.frng 6 35) (show F28 6 35 = y33 from (ey34))
          refine Ew_of (pcₚ := 103) (fun _ => x_iload rfl lc98_4) ?_
          refine Ew_of (pcₚ := 105) (fun _ => x_iload rfl lc98_6) ?_
          refine Ew_of (pcₚ := 106) (fun _ => x_iconst rfl) ?_
          refine w_isub rfl ?_
          refine w_stat24 rfl rfl (by rfl) (M406 H (show inr (((v21 + 1) - 1)) from q_2169 qv21) (show -1 ≤ (((v21 + 1) - 1)) by omega) (fun z40 σ F36 A37 H hS38 hA39 pz40_0 pz40_1 => ⟨rfl, ?_⟩))
          have hmv : (z40) = mass ((sh ((w75)) ((a2))) ((x16_5))) := by rw [pz40_1]; congr 1; omega
          refine w_isub rfl ?_
          refine Ew_of (pcₚ := 113) (fun _ => x_istore rfl) ?_
          refine Ew_of (pcₚ := 116) (fun _ => x_iinc (len := 3) rfl (rk_o (lc98_5) rfl rfl)) ?_
          refine Ew_of (pcₚ := 118) (fun _ => x_iload rfl (rk_o (rk_o (lc98_6) rfl rfl) rfl rfl)) ?_
          refine Ew_of (pcₚ := 119) (fun _ => x_iconst rfl) ?_
          refine w_icmpeq (t := 125) rfl rfl (show inr ((v21 + 1)) by omega) (show inr (1) from q_23) (fun b41 => ?_) (fun b41 => ?_)
          · refine Ew_of (pcₚ := 126) (fun _ => x_iconst rfl) ?_
            refine Ew_of (pcₚ := 128) (fun _ => x_istore rfl) ?_
            obtain ⟨m0, hm0⟩ := FP_ex (nz_ex (P := sh ((w75)) ((a2))) (s := ((x16_5 + 1))) (by omega) (by omega) (by omega))
            have : ∀ j, ((x16_5 + 1)) ≤ j → j < ((x16_5 + 1)) + 0 → (sh ((w75)) ((a2))) j = 0 := fun j a b => absurd b (by omega)
            suffices hl128 : ∀ (mx : Nat), ∀ (ls : rO) (σ : rS) (F_128 : hF) (A_128 : hA) (x128_10 : Int), rlook ls 0 = some (.ref (D 6)) → rlook ls 1 = some (.ref (D 75)) → rlook ls 2 = some (I (a2)) → rlook ls 4 = some (I ((x16_4 - z40))) → rlook ls 5 = some (I ((x16_5 + 1))) → rlook ls 10 = some (I (x128_10)) → HS σ0 σ D N F_128 A_128 → SF [] F36 F_128 → SA [] A37 A_128 → (inr (x128_10)) → (0 ≤ (x128_10)) → (∀ j, ((x16_5 + 1)) ≤ j → j < ((x16_5 + 1)) + (x128_10) → (sh ((w75)) ((a2))) j = 0) → (FP (fun k => (sh ((w75)) ((a2))) (((x16_5 + 1)) + k) ≠ 0) (64 - ((x16_5 + 1))) ((x128_10)) mx) → Ew 412 (d + 1) 128 ls [] σ c s Q from
              hl128 (m0) _ σ _ _ (0) (rk_o (rk_o (rk_o (lc98_0) rfl rfl) rfl rfl) rfl rfl) (rk_o (rk_o (rk_o (lc98_1) rfl rfl) rfl rfl) rfl rfl) (rk_o (rk_o (rk_o (lc98_2) rfl rfl) rfl rfl) rfl rfl) (rk_o (rk_o (rk_s) rfl rfl) rfl rfl) (rk_o (rk_s) rfl rfl) (rk_s) H (SF_refl) (SA_refl)   (show inr (0) from q_20) (show 0 ≤ (0) from q_25) (show ∀ j, ((x16_5 + 1)) ≤ j → j < ((x16_5 + 1)) + (0) → (sh ((w75)) ((a2))) j = 0 by assumption) (by assumption)
            as_aux_lemma =>
            intro mx
            induction mx using Nat.strongRecOn with
            | _ mx ih128 =>
              intro ls σ F_128 A_128 x128_10 l128_0 l128_1 l128_2 l128_4 l128_5 l128_10 H hS_128 hA_128   j128_0 j128_1 j128_2 hm128
              have hfl := FP_lt hm128
              have hpz : (sh ((w75)) ((a2))) (((x16_5 + 1)) + (x128_10)) = ((w75)) ((a2) + ((x16_5 + 1)) + (x128_10)) := by show ((w75)) ((a2) + (((x16_5 + 1)) + (x128_10))) = _; congr 1; omega
              have j128_z : ∀ j, ((x16_5 + 1)) ≤ j → j < ((x16_5 + 1)) + (x128_10) → (sh ((w75)) ((a2))) j = 0 := by assumption
              refine Ew_of (pcₚ := 129) (fun _ => x_aload_n rfl l128_1) ?_
              refine Ew_of (pcₚ := 130) (fun _ => x_iload_n rfl l128_2) ?_
              refine Ew_of (pcₚ := 132) (fun _ => x_iload rfl l128_5) ?_
              refine w_iadd rfl ?_
              refine Ew_of (pcₚ := 135) (fun _ => x_iload rfl l128_10) ?_
              refine w_iadd rfl ?_
              refine w_lI H (o := 75) (n := 64) rfl (H.perm 75 rfl) rfl rfl (H.fix 75 rfl rfl) (show 0 ≤ ((a2 + (x16_5 + 1)) + x128_10) ∧ ((a2 + (x16_5 + 1)) + x128_10) < ((64 : Nat) : Int) by omega) (by decide) (fun v42 ev42 qv42 => ?_)
              have qv42 : (-2147483648 : Int) ≤ v42 ∧ v42 ≤ 2147483647 := qv42
              have ev42 : (w75) (((a2 + (x16_5 + 1)) + x128_10)) = v42 := (congrFun ((funext (hA_128 75 rfl)).trans ((funext (hA39 75 rfl)).trans ((funext (hA31 75 rfl)).trans ((funext (hA_c98 75 rfl)).trans ((funext (hA_c82 75 rfl)).trans ((funext (hA25 75 rfl)).trans ((funext (hA_16 75 rfl)).trans ((funext (hA5 75 rfl)).trans (ew75))))))))) (((a2 + (x16_5 + 1)) + x128_10))).symm.trans ev42
              refine w_ifne (t := 146) rfl rfl (show inr (v42) from q_22 qv42) (fun b43 => ?_) (fun b43 => ?_)
              · have hlz := (SH_le (((x16_5 + 1)) + (x128_10)) hsh (by omega) (by omega)).2.2.2 (by show (sh ((w75)) ((a2))) (((x16_5 + 1)) + (x128_10)) ≠ 0; omega)
                have hmz := mp_zeroI (P := sh ((w75)) ((a2))) (s := ((x16_5 + 1))) (z := (x128_10)) (t := ((x16_5 + 1)) + (x128_10)) (by omega) (by omega) (by assumption) rfl
                refine Ew_of (pcₚ := 148) (fun _ => x_iload rfl l128_5) ?_
                refine Ew_of (pcₚ := 150) (fun _ => x_iload rfl l128_10) ?_
                refine w_iadd rfl ?_
                refine Ew_of (pcₚ := 153) (fun _ => x_istore rfl) ?_
                suffices hl153 : ∀ (m : Nat), ∀ (ls : rO) (σ : rS) (F_153 : hF) (A_153 : hA) (x153_10 : Int), rlook ls 0 = some (.ref (D 6)) → rlook ls 1 = some (.ref (D 75)) → rlook ls 2 = some (I (a2)) → rlook ls 4 = some (I ((x16_4 - z40))) → rlook ls 5 = some (I (((x16_5 + 1) + x128_10))) → rlook ls 10 = some (I (x153_10)) → HS σ0 σ D N F_153 A_153 → SF [(6, 35)] F_128 F_153 → SA [69] A_128 A_153 → ∀ y153_6_35 : Int, F_153 6 35 = y153_6_35 → (inr (x153_10)) → (0 ≤ (x153_10) ∧ (x153_10) ≤ (x128_10)) → ((y33) ≤ (y153_6_35) ∧ (y153_6_35) ≤ (y33) + ((x128_10) - (x153_10))) → ((x153_10)).toNat = m → Ew 412 (d + 1) 153 ls [] σ c s Q from
                  hl153 _ _ σ _ _ (x128_10) (rk_o (l128_0) rfl rfl) (rk_o (l128_1) rfl rfl) (rk_o (l128_2) rfl rfl) (rk_o (l128_4) rfl rfl) (rk_s) (rk_o (l128_10) rfl rfl) H (SF_refl) (SA_refl) (y33) ((((hS_128 6 35 rfl).trans (hS38 6 35 rfl)).trans (ey34)))  (show inr (x128_10) by omega) (show 0 ≤ (x128_10) ∧ (x128_10) ≤ (x128_10) by omega) (show (y33) ≤ (y33) ∧ (y33) ≤ (y33) + ((x128_10) - (x128_10)) from q_2170) rfl
                as_aux_lemma =>
                intro m
                induction m using Nat.strongRecOn with
                | _ m ih153 =>
                  intro ls σ F_153 A_153 x153_10 l153_0 l153_1 l153_2 l153_4 l153_5 l153_10 H hS_153 hA_153 y153_6_35 ey153_6_35  j153_0 j153_1 j153_2 hm153
                  have r44 : (0 : Int) ≤ y153_6_35 ∧ y153_6_35 ≤ 100000000 := rngE (show (0 : Int) ≤ F_153 6 35 ∧ F_153 6 35 ≤ 100000000 from H.frng 6 35) (show F_153 6 35 = y153_6_35 from (ey153_6_35))
                  refine Ew_of (pcₚ := 155) (fun _ => x_iload rfl l153_10) ?_
                  refine Ew_of (pcₚ := 156) (fun _ => x_iconst rfl) ?_
                  refine w_icmple (t := 171) rfl rfl (show inr (x153_10) from j153_0) (show inr (2) from q_55) (fun b45 => ?_) (fun b45 => ?_)
                  · refine Ew_of (pcₚ := 172) (fun _ => x_aload_n rfl l153_0) ?_
                    refine Ew_of (pcₚ := 174) (fun _ => x_iload rfl l153_10) ?_
                    refine Ew_of (pcₚ := 175) (fun _ => x_iconst rfl) ?_
                    refine w_inv H (o := 6) rfl rfl rfl (H.perm 6 rfl) rfl rfl (by rfl) (M389 H (y153_6_35) ((ey153_6_35)) (show inr (x153_10) from j153_0) (show inr (2) from q_55) (show 0 ≤ (2) ∧ (2) ≤ 31 from q_2171) (show 0 ≤ (y153_6_35) ∧ (y153_6_35) ≤ 90000000 by omega) (fun σ F46 A47 H hS48 hA49 y51 ey52 pz50_0 => ⟨rfl, ?_⟩))
                    have r53 : (0 : Int) ≤ y51 ∧ y51 ≤ 100000000 := rngE (show (0 : Int) ≤ F46 6 35 ∧ F46 6 35 ≤ 100000000 from H.frng 6 35) (show F46 6 35 = y51 from (ey52))
                    refine Ew_of (pcₚ := 16) (fun _ => x_goto rfl rfl) ?_
                    exact ih16 _ (msE hm16 (q_2172 j153_1) (q_1094 hl64)) _ σ _ _ ((x16_4 - z40)) (((x16_5 + 1) + x128_10)) (l153_0) (l153_1) (l153_2) (l153_4) (l153_5) H (SF_trans (SF_trans (SF_trans (SF_trans (SF_trans (SF_trans (SF_trans (SF_trans (hS_16) hS24 (any_sub rfl)) hS_c82 (any_sub rfl)) hS_c98 (any_sub rfl)) hS30 (any_sub rfl)) hS38 (any_sub rfl)) hS_128 (any_sub rfl)) hS_153 (any_sub rfl)) hS48 (any_sub rfl)) (SA_trans (SA_trans (SA_trans (SA_trans (SA_trans (SA_trans (SA_trans (SA_trans (hA_16) hA25 (any_subA rfl)) hA_c82 (any_subA rfl)) hA_c98 (any_subA rfl)) hA31 (any_subA rfl)) hA39 (any_subA rfl)) hA_128 (any_subA rfl)) hA_153 (any_subA rfl)) hA49 (any_subA rfl)) (y51) ((ey52))  (show inr ((x16_4 - z40)) by omega) (show inr (((x16_5 + 1) + x128_10)) by omega) (show 0 ≤ (((x16_5 + 1) + x128_10)) ∧ (((x16_5 + 1) + x128_10)) ≤ 64 by omega) (show (((x16_5 + 1) + x128_10)) ≤ lst + 1 by omega) (show ((x16_4 - z40)) = p2 ((a3)) - mp (sh ((w75)) ((a2))) ((((x16_5 + 1) + x128_10))) by omega) (show 0 ≤ ((x16_4 - z40)) ∧ ((x16_4 - z40)) ≤ 512 by omega) (show (u6_35) ≤ (y51) ∧ (y51) ≤ (u6_35) + 4 + 12 * (((x16_5 + 1) + x128_10)) by omega) rfl
                  · refine Ew_of (pcₚ := 160) (fun _ => x_aload_n rfl l153_0) ?_
                    refine Ew_of (pcₚ := 161) (fun _ => x_iconst rfl) ?_
                    refine Ew_of (pcₚ := 162) (fun _ => x_iconst rfl) ?_
                    refine w_inv H (o := 6) rfl rfl rfl (H.perm 6 rfl) rfl rfl (by rfl) (M389 H (y153_6_35) ((ey153_6_35)) (show inr (3) from q_66) (show inr (2) from q_55) (show 0 ≤ (2) ∧ (2) ≤ 31 from q_2171) (show 0 ≤ (y153_6_35) ∧ (y153_6_35) ≤ 90000000 by omega) (fun σ F54 A55 H hS56 hA57 y59 ey60 pz58_0 => ⟨rfl, ?_⟩))
                    have r61 : (0 : Int) ≤ y59 ∧ y59 ≤ 100000000 := rngE (show (0 : Int) ≤ F54 6 35 ∧ F54 6 35 ≤ 100000000 from H.frng 6 35) (show F54 6 35 = y59 from (ey60))
                    refine Ew_of (pcₚ := 168) (fun _ => x_iinc (len := 3) rfl (l153_10)) ?_
                    refine Ew_of (pcₚ := 153) (fun _ => x_goto rfl rfl) ?_
                    exact ih153 _ (msE hm153 q_2176 (q_2177 b45)) _ σ _ _ ((x153_10 + (-3))) (rk_o (l153_0) rfl rfl) (rk_o (l153_1) rfl rfl) (rk_o (l153_2) rfl rfl) (rk_o (l153_4) rfl rfl) (rk_o (l153_5) rfl rfl) (rk_s) H (SF_trans (hS_153) hS56 (any_sub rfl)) (SA_trans (hA_153) hA57 (any_subA rfl)) (y59) ((ey60))  (show inr ((x153_10 + (-3))) from q_2175 b45 j153_0) (show 0 ≤ ((x153_10 + (-3))) ∧ ((x153_10 + (-3))) ≤ (x128_10) from q_2174 b45 j153_1) (show (y33) ≤ (y59) ∧ (y59) ≤ (y33) + ((x128_10) - ((x153_10 + (-3)))) from q_2173 j153_2 pz58_0) rfl
              · refine Ew_of (pcₚ := 143) (fun _ => x_iinc (len := 3) rfl (l128_10)) ?_
                refine Ew_of (pcₚ := 128) (fun _ => x_goto rfl rfl) ?_
                have hnq : ¬ ((fun k => (sh ((w75)) ((a2))) (((x16_5 + 1)) + k) ≠ 0)) x128_10 := fun q => by have q : (sh ((w75)) ((a2))) (((x16_5 + 1)) + x128_10) ≠ 0 := q; omega
                have : ∀ j, ((x16_5 + 1)) ≤ j → j < ((x16_5 + 1)) + ((x128_10 + 1)) → (sh ((w75)) ((a2))) j = 0 := fun j a b => by by_cases e : j = ((x16_5 + 1)) + x128_10; (rw [e]; omega); exact j128_z j a (by omega)
                have hfn := FP_next hm128 hnq (show ((x128_10 + 1)) = x128_10 + 1 from rfl)
                have := hfn.1
                have := hfn.2
                exact ih128 (mx - 1) (by omega) _ σ _ _ ((x128_10 + 1)) (rk_o (l128_0) rfl rfl) (rk_o (l128_1) rfl rfl) (rk_o (l128_2) rfl rfl) (rk_o (l128_4) rfl rfl) (rk_o (l128_5) rfl rfl) (rk_s) H (hS_128) (hA_128)   (show inr ((x128_10 + 1)) by omega) (show 0 ≤ ((x128_10 + 1)) by omega) (show ∀ j, ((x16_5 + 1)) ≤ j → j < ((x16_5 + 1)) + ((x128_10 + 1)) → (sh ((w75)) ((a2))) j = 0 by assumption) (by assumption)
          · refine Ew_of (pcₚ := 16) (fun _ => x_goto rfl rfl) ?_
            exact ih16 _ (msE hm16 q_1093 (q_1094 hl64)) _ σ _ _ ((x16_4 - z40)) ((x16_5 + 1)) (rk_o (rk_o (lc98_0) rfl rfl) rfl rfl) (rk_o (rk_o (lc98_1) rfl rfl) rfl rfl) (rk_o (rk_o (lc98_2) rfl rfl) rfl rfl) (rk_o (rk_s) rfl rfl) (rk_s) H (SF_trans (SF_trans (SF_trans (SF_trans (SF_trans (hS_16) hS24 (any_sub rfl)) hS_c82 (any_sub rfl)) hS_c98 (any_sub rfl)) hS30 (any_sub rfl)) hS38 (any_sub rfl)) (SA_trans (SA_trans (SA_trans (SA_trans (SA_trans (hA_16) hA25 (any_subA rfl)) hA_c82 (any_subA rfl)) hA_c98 (any_subA rfl)) hA31 (any_subA rfl)) hA39 (any_subA rfl)) (y33) (((hS38 6 35 rfl).trans (ey34)))  (show inr ((x16_4 - z40)) by omega) (show inr ((x16_5 + 1)) from q_2180 hl64 j16_6) (show 0 ≤ ((x16_5 + 1)) ∧ ((x16_5 + 1)) ≤ 64 from q_2179 hl64 j16_6) (show ((x16_5 + 1)) ≤ lst + 1 from q_2178 hll) (show ((x16_4 - z40)) = p2 ((a3)) - mp (sh ((w75)) ((a2))) (((x16_5 + 1))) by omega) (show 0 ≤ ((x16_4 - z40)) ∧ ((x16_4 - z40)) ≤ 512 by omega) (show (u6_35) ≤ (y33) ∧ (y33) ≤ (u6_35) + 4 + 12 * ((x16_5 + 1)) by omega) rfl
        refine w_icmpge (t := 94) rfl rfl (show inr ((v21 + 1)) by omega) (show inr ((((2 * p2 (z26)) - 2) - x16_4)) from q_2181 j16_5 pz26_2) (fun b62 => ?_) (fun b62 => ?_)
        · refine Ew_of (pcₚ := 96) (fun _ => x_iload rfl lc82_7) ?_
          refine Ew_of (pcₚ := 97) (fun _ => x_iconst rfl) ?_
          refine w_iadd rfl ?_
          exact hc98 ((z26 + 1)) _ σ _ _  (lc82_0) (lc82_1) (lc82_2) (lc82_4) (lc82_5) (lc82_6) H (SF_refl) (SA_refl)   (show inr ((z26 + 1)) from q_2183 hk9 pz26_1) (show (((v21 + 1)) ≥ ((((2 * p2 (z26)) - 2) - x16_4)) ∧ ((z26 + 1)) = ((z26 + 1))) ∨ (((v21 + 1)) < ((((2 * p2 (z26)) - 2) - x16_4)) ∧ ((z26 + 1)) = (z26)) from q_2182 b62)
        · refine Ew_of (pcₚ := 91) (fun _ => x_iload rfl lc82_7) ?_
          refine Ew_of (pcₚ := 98) (fun _ => x_goto rfl rfl) ?_
          exact hc98 (z26) _ σ _ _  (lc82_0) (lc82_1) (lc82_2) (lc82_4) (lc82_5) (lc82_6) H (SF_refl) (SA_refl)   (show inr (z26) from pz26_0) (show (((v21 + 1)) ≥ ((((2 * p2 (z26)) - 2) - x16_4)) ∧ (z26) = ((z26 + 1))) ∨ (((v21 + 1)) < ((((2 * p2 (z26)) - 2) - x16_4)) ∧ (z26) = (z26)) from q_2184 b62)
      refine w_icmplt (t := 72) rfl rfl (show inr ((v21 + 1)) by omega) (show inr ((((2 * p2 (z26)) - 2) - x16_4)) from q_2181 j16_5 pz26_2) (fun b63 => ?_) (fun b63 => ?_)
      · refine Ew_of (pcₚ := 74) (fun _ => x_iload rfl (rk_o (rk_o (rk_o (rk_s) rfl rfl) rfl rfl) rfl rfl)) ?_
        refine Ew_of (pcₚ := 82) (fun _ => x_goto rfl rfl) ?_
        exact hc82 ((v21 + 1)) _ σ _ _  (rk_o (rk_o (rk_o (rk_o (l16_0) rfl rfl) rfl rfl) rfl rfl) rfl rfl) (rk_o (rk_o (rk_o (rk_o (l16_1) rfl rfl) rfl rfl) rfl rfl) rfl rfl) (rk_o (rk_o (rk_o (rk_o (l16_2) rfl rfl) rfl rfl) rfl rfl) rfl rfl) (rk_o (rk_o (rk_o (rk_o (l16_4) rfl rfl) rfl rfl) rfl rfl) rfl rfl) (rk_o (rk_o (rk_o (rk_o (l16_5) rfl rfl) rfl rfl) rfl rfl) rfl rfl) (rk_o (rk_o (rk_o (rk_s) rfl rfl) rfl rfl) rfl rfl) (rk_o (rk_o (rk_s) rfl rfl) rfl rfl) (rk_s) H (SF_refl) (SA_refl)   (show inr ((v21 + 1)) from q_2186 b63 j16_5 pz26_2 qv21) (show (((v21 + 1)) < ((((2 * p2 (z26)) - 2) - x16_4)) ∧ ((v21 + 1)) = ((v21 + 1))) ∨ (((v21 + 1)) ≥ ((((2 * p2 (z26)) - 2) - x16_4)) ∧ ((v21 + 1)) ≥ (p2 (z26)) ∧ ((v21 + 1)) = (((v21 + 1) + (((2 * p2 (z26)) - 2) - x16_4)))) ∨ (((v21 + 1)) ≥ ((((2 * p2 (z26)) - 2) - x16_4)) ∧ ((v21 + 1)) < (p2 (z26)) ∧ ((v21 + 1)) = ((v21 + 1))) from q_2185 b63)
      · refine Ew_of (pcₚ := 67) (fun _ => x_iload rfl (rk_o (rk_o (rk_o (rk_s) rfl rfl) rfl rfl) rfl rfl)) ?_
        refine Ew_of (pcₚ := 69) (fun _ => x_iload rfl (rk_o (rk_s) rfl rfl)) ?_
        refine w_icmpge (t := 77) rfl rfl (show inr ((v21 + 1)) by omega) (show inr (p2 (z26)) from q_2187 j16_5 pz26_2) (fun b64 => ?_) (fun b64 => ?_)
        · refine Ew_of (pcₚ := 79) (fun _ => x_iload rfl (rk_o (rk_o (rk_o (rk_s) rfl rfl) rfl rfl) rfl rfl)) ?_
          refine Ew_of (pcₚ := 81) (fun _ => x_iload rfl rk_s) ?_
          refine w_iadd rfl ?_
          exact hc82 (((v21 + 1) + (((2 * p2 (z26)) - 2) - x16_4))) _ σ _ _  (rk_o (rk_o (rk_o (rk_o (l16_0) rfl rfl) rfl rfl) rfl rfl) rfl rfl) (rk_o (rk_o (rk_o (rk_o (l16_1) rfl rfl) rfl rfl) rfl rfl) rfl rfl) (rk_o (rk_o (rk_o (rk_o (l16_2) rfl rfl) rfl rfl) rfl rfl) rfl rfl) (rk_o (rk_o (rk_o (rk_o (l16_4) rfl rfl) rfl rfl) rfl rfl) rfl rfl) (rk_o (rk_o (rk_o (rk_o (l16_5) rfl rfl) rfl rfl) rfl rfl) rfl rfl) (rk_o (rk_o (rk_o (rk_s) rfl rfl) rfl rfl) rfl rfl) (rk_o (rk_o (rk_s) rfl rfl) rfl rfl) (rk_s) H (SF_refl) (SA_refl)   (show inr (((v21 + 1) + (((2 * p2 (z26)) - 2) - x16_4))) by omega) (show (((v21 + 1)) < ((((2 * p2 (z26)) - 2) - x16_4)) ∧ (((v21 + 1) + (((2 * p2 (z26)) - 2) - x16_4))) = ((v21 + 1))) ∨ (((v21 + 1)) ≥ ((((2 * p2 (z26)) - 2) - x16_4)) ∧ ((v21 + 1)) ≥ (p2 (z26)) ∧ (((v21 + 1) + (((2 * p2 (z26)) - 2) - x16_4))) = (((v21 + 1) + (((2 * p2 (z26)) - 2) - x16_4)))) ∨ (((v21 + 1)) ≥ ((((2 * p2 (z26)) - 2) - x16_4)) ∧ ((v21 + 1)) < (p2 (z26)) ∧ (((v21 + 1) + (((2 * p2 (z26)) - 2) - x16_4))) = ((v21 + 1))) from q_2188 b63 b64)
        · refine Ew_of (pcₚ := 74) (fun _ => x_iload rfl (rk_o (rk_o (rk_o (rk_s) rfl rfl) rfl rfl) rfl rfl)) ?_
          refine Ew_of (pcₚ := 82) (fun _ => x_goto rfl rfl) ?_
          exact hc82 ((v21 + 1)) _ σ _ _  (rk_o (rk_o (rk_o (rk_o (l16_0) rfl rfl) rfl rfl) rfl rfl) rfl rfl) (rk_o (rk_o (rk_o (rk_o (l16_1) rfl rfl) rfl rfl) rfl rfl) rfl rfl) (rk_o (rk_o (rk_o (rk_o (l16_2) rfl rfl) rfl rfl) rfl rfl) rfl rfl) (rk_o (rk_o (rk_o (rk_o (l16_4) rfl rfl) rfl rfl) rfl rfl) rfl rfl) (rk_o (rk_o (rk_o (rk_o (l16_5) rfl rfl) rfl rfl) rfl rfl) rfl rfl) (rk_o (rk_o (rk_o (rk_s) rfl rfl) rfl rfl) rfl rfl) (rk_o (rk_o (rk_s) rfl rfl) rfl rfl) (rk_s) H (SF_refl) (SA_refl)   (show inr ((v21 + 1)) from q_2190 b64 j16_5 pz26_2 qv21) (show (((v21 + 1)) < ((((2 * p2 (z26)) - 2) - x16_4)) ∧ ((v21 + 1)) = ((v21 + 1))) ∨ (((v21 + 1)) ≥ ((((2 * p2 (z26)) - 2) - x16_4)) ∧ ((v21 + 1)) ≥ (p2 (z26)) ∧ ((v21 + 1)) = (((v21 + 1) + (((2 * p2 (z26)) - 2) - x16_4)))) ∨ (((v21 + 1)) ≥ ((((2 * p2 (z26)) - 2) - x16_4)) ∧ ((v21 + 1)) < (p2 (z26)) ∧ ((v21 + 1)) = ((v21 + 1))) from q_2189 b63 b64)
