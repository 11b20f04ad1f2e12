theorem M311 {σ0 σ : rS} {D N : Nat → Nat} {F : hF} {A : hA} {d c s : Nat} {Q : wQ} (H : HS σ0 σ D N F A) {a1 a2 a3 a4 : Int} (u2_1 : Int) (eu2_1 : F 2 1 = u2_1) (w10 : Int → Int) (ew10 : A 10 = w10) (h0 : inrJ (a1)) (h1 : inr (a2)) (h2 : inr (a3)) (h3 : inr (a4)) (h4 : 0 ≤ (u2_1) ∧ (u2_1) ≤ 196608) (h5 : 0 ≤ (a2) ∧ (a2) ≤ (a3) ∧ (a3) ≤ 65536 ∧ 0 ≤ (a4) ∧ (a4) ≤ 3) (k : ∀ (z : Int) σ Fₚ Aₚ, HS σ0 σ D N Fₚ Aₚ → SF [] F Fₚ → SA [] A Aₚ → (inrJ (z)) → ((z) = wLn (shf ((w10)) ((u2_1))) ((a2) + 8 * (a4)) (((a3) - (a2)) / 32).toNat ((a1))) → Q (some (J z)) σ c s) : Ew 311 (d + 2) 0 (rargs 0 [.ref (D 2), J a1, I a2, I a3, I a4]) [] σ c s Q := by
  have r1 : (-2147483648 : Int) ≤ u2_1 ∧ u2_1 ≤ 2147483647 := rngE (show (-2147483648 : Int) ≤ F 2 1 ∧ F 2 1 ≤ 2147483647 from H.frng 2 1) (show F 2 1 = u2_1 from (eu2_1))
  refine Ew_of (pcₚ := 1) (fun _ => x_lload_n rfl rfl) ?_
  refine Ew_of (pcₚ := 3) (fun _ => x_lstore rfl) ?_
  refine Ew_of (pcₚ := 4) (fun _ => x_iload_n rfl (rk2_o (rfl) rfl rfl)) ?_
  refine Ew_of (pcₚ := 6) (fun _ => x_istore rfl) ?_
  have : wLn (shf ((w10)) ((u2_1))) ((a2) + 8 * (a4)) (((a3) - (a2)) / 32).toNat ((a1)) = wLn (shf ((w10)) ((u2_1))) ((a2) + 8 * (a4)) (((a3) - (a2)) / 32).toNat ((a1)) := rfl
  suffices hl6 : ∀ (m : Nat), ∀ (ls : rO) (σ : rS) (F_6 : hF) (A_6 : hA) (x6_6 : Int) (x6_8 : Int), rlook ls 0 = some (.ref (D 2)) → rlook ls 4 = some (I (a3)) → rlook ls 5 = some (I (a4)) → rlook ls 6 = some (J (x6_6)) → rlook ls 8 = some (I (x6_8)) → HS σ0 σ D N F_6 A_6 → SF [] F F_6 → SA [] A A_6 → (inrJ (x6_6)) → (inr (x6_8)) → ((a2) ≤ (x6_8) ∧ (x6_8) ≤ (a3)) → (wLn (shf ((w10)) ((u2_1))) ((a2) + 8 * (a4)) (((a3) - (a2)) / 32).toNat ((a1)) = wLn (shf ((w10)) ((u2_1))) ((x6_8) + 8 * (a4)) (((a3) - (x6_8)) / 32).toNat ((x6_6))) → ((a3) - (x6_8)).toNat = m → Ew 311 (d + 2) 6 ls [] σ c s Q from
    hl6 _ _ σ _ _ (a1) (a2) (rk_o (rk2_o (rfl) rfl rfl) rfl rfl) (rk_o (rk2_o (rfl) rfl rfl) rfl rfl) (rk_o (rk2_o (rfl) rfl rfl) rfl rfl) (rk_o (rk2_s) rfl rfl) (rk_s) H (SF_refl) (SA_refl)   (show inrJ (a1) from h0) (show inr (a2) from h1) (show (a2) ≤ (a2) ∧ (a2) ≤ (a3) from q_344 h5) (show wLn (shf ((w10)) ((u2_1))) ((a2) + 8 * (a4)) (((a3) - (a2)) / 32).toNat ((a1)) = wLn (shf ((w10)) ((u2_1))) ((a2) + 8 * (a4)) (((a3) - (a2)) / 32).toNat ((a1)) by assumption) rfl
  as_aux_lemma =>
  intro m
  induction m using Nat.strongRecOn with
  | _ m ih6 =>
    intro ls σ F_6 A_6 x6_6 x6_8 l6_0 l6_4 l6_5 l6_6 l6_8 H hS_6 hA_6   j6_0 j6_1 j6_2 j6_3 hm6
    have j6_q : wLn (shf ((w10)) ((u2_1))) ((a2) + 8 * (a4)) (((a3) - (a2)) / 32).toNat ((a1)) = wLn (shf ((w10)) ((u2_1))) ((x6_8) + 8 * (a4)) (((a3) - (x6_8)) / 32).toNat ((x6_6)) := by assumption
    refine Ew_of (pcₚ := 8) (fun _ => x_iload rfl l6_4) ?_
    refine Ew_of (pcₚ := 10) (fun _ => x_iload rfl l6_8) ?_
    refine w_isub rfl ?_
    refine Ew_of (pcₚ := 13) (fun _ => x_bipush (z := 32) rfl (by decide)) ?_
    refine w_icmplt (t := 54) rfl rfl (show inr ((a3 - x6_8)) from q_346 h5 j6_2) (show inr (32) from q_655) (fun b2 => ?_) (fun b2 => ?_)
    · refine Ew_of (pcₚ := 56) (fun _ => x_lload rfl l6_6) ?_
      have : (x6_6) = wLn (shf ((w10)) ((u2_1))) ((a2) + 8 * (a4)) (((a3) - (a2)) / 32).toNat ((a1)) := (j6_q.trans (wLn_0 (by omega))).symm
      exact w_lreturn rfl (k (x6_6) σ _ _ H (SF_trans (SF_refl) hS_6 (any_sub rfl)) (SA_trans (SA_refl) hA_6 (any_subA rfl)) (show inrJ (x6_6) from j6_0) (show (x6_6) = wLn (shf ((w10)) ((u2_1))) (a2 + 8 * a4) ((a3 - a2) / 32).toNat (a1) by assumption))
    · refine Ew_of (pcₚ := 18) (fun _ => x_lload rfl l6_6) ?_
      refine Ew_of (pcₚ := 19) (fun _ => x_aload_n rfl l6_0) ?_
      refine Ew_of (pcₚ := 21) (fun _ => x_iload rfl l6_8) ?_
      refine Ew_of (pcₚ := 23) (fun _ => x_bipush (z := 8) rfl (by decide)) ?_
      refine Ew_of (pcₚ := 25) (fun _ => x_iload rfl l6_5) ?_
      refine w_imul rfl ?_
      refine w_iadd rfl ?_
      refine Ew_of (pcₚ := 29) (fun _ => x_bipush (z := 8) rfl (by decide)) ?_
      refine w_inv H (o := 2) rfl rfl rfl (H.perm 2 rfl) rfl rfl (by rfl) (M306 H (u2_1) (((hS_6 2 1 rfl).trans (eu2_1))) (w10) ((funext (hA_6 10 rfl)).trans (ew10)) (show inr ((x6_8 + (8 * a4))) from q_791 b2 h5 j6_2) (show inr (8) from q_141) (show 0 ≤ (u2_1) ∧ (u2_1) ≤ 196608 from h4) (show 0 ≤ ((x6_8 + (8 * a4))) ∧ 0 ≤ (8) ∧ (8) ≤ 8 ∧ ((x6_8 + (8 * a4))) + (8) ≤ 65536 from q_790 b2 h5 j6_2) (fun z7 σ F3 A4 H hS5 hA6 pz7_0 pz7_1 => ⟨rfl, ?_⟩))
      have hnv := NVQ_8 pz7_1 pz7_0
      refine Ew_of (pcₚ := 35) (fun _ => x_ldc2 (z := -4417276706812531889) rfl (by decide)) ?_
      refine w_lmulE rfl ?_
      have g8 : inrJ (muJ (z7) ((-4417276706812531889))) := toJ_inr _
      refine w_laddE rfl ?_
      have g9 : inrJ (adJ (x6_6) ((muJ (z7) ((-4417276706812531889))))) := toJ_inr _
      refine Ew_of (pcₚ := 39) (fun _ => x_bipush (z := 31) rfl (by decide)) ?_
      refine w_stat24 rfl rfl (by rfl) (M310 H (show inrJ ((adJ (x6_6) ((muJ (z7) ((-4417276706812531889)))))) from g9) (show inr (31) from q_323) (show 0 ≤ (31) ∧ (31) ≤ 64 from q_322) (fun z14 σ F10 A11 H hS12 hA13 pz14_0 pz14_1 => ⟨rfl, ?_⟩))
      have hrt := pz14_1
      refine Ew_of (pcₚ := 45) (fun _ => x_ldc2 (z := -7046029288634856825) rfl (by decide)) ?_
      refine w_lmulE rfl ?_
      have g15 : inrJ (muJ (z14) ((-7046029288634856825))) := toJ_inr _
      refine Ew_of (pcₚ := 48) (fun _ => x_lstore rfl) ?_
      refine Ew_of (pcₚ := 51) (fun _ => x_iinc (len := 3) rfl (rk2_o (l6_8) rfl rfl)) ?_
      refine Ew_of (pcₚ := 6) (fun _ => x_goto rfl rfl) ?_
      have : wLn (shf ((w10)) ((u2_1))) ((a2) + 8 * (a4)) (((a3) - (a2)) / 32).toNat ((a1)) = wLn (shf ((w10)) ((u2_1))) (((x6_8 + 32)) + 8 * (a4)) (((a3) - ((x6_8 + 32))) / 32).toNat (((muJ (z14) ((-7046029288634856825))))) := j6_q.trans (wLn_s (by omega) (wl_c hnv hrt) (by omega))
      exact ih6 _ (msE hm6 q_794 (q_795 b2)) _ σ _ _ ((muJ (z14) ((-7046029288634856825)))) ((x6_8 + 32)) (rk_o (rk2_o (l6_0) rfl rfl) rfl rfl) (rk_o (rk2_o (l6_4) rfl rfl) rfl rfl) (rk_o (rk2_o (l6_5) rfl rfl) rfl rfl) (rk_o (rk2_s) rfl rfl) (rk_s) H (SF_trans (SF_trans (hS_6) hS5 (any_sub rfl)) hS12 (any_sub rfl)) (SA_trans (SA_trans (hA_6) hA6 (any_subA rfl)) hA13 (any_subA rfl))   (show inrJ ((muJ (z14) ((-7046029288634856825)))) from g15) (show inr ((x6_8 + 32)) from q_793 b2 h5 j6_1) (show (a2) ≤ ((x6_8 + 32)) ∧ ((x6_8 + 32)) ≤ (a3) from q_792 b2 j6_2) (show wLn (shf ((w10)) ((u2_1))) ((a2) + 8 * (a4)) (((a3) - (a2)) / 32).toNat ((a1)) = wLn (shf ((w10)) ((u2_1))) (((x6_8 + 32)) + 8 * (a4)) (((a3) - ((x6_8 + 32))) / 32).toNat (((muJ (z14) ((-7046029288634856825))))) by assumption) rfl

theorem M313 {σ0 σ : rS} {D N : Nat → Nat} {F : hF} {A : hA} {d c s : Nat} {Q : wQ} (H : HS σ0 σ D N F A) {a1 a2 a3 : Int} (u2_1 : Int) (eu2_1 : F 2 1 = u2_1) (w10 : Int → Int) (ew10 : A 10 = w10) (h0 : inr (a1)) (h1 : inr (a2)) (h2 : inrJ (a3)) (h3 : 0 ≤ (u2_1) ∧ (u2_1) ≤ 196608) (h4 : 0 ≤ (a1) ∧ (a1) ≤ (a2) ∧ (a2) ≤ 65536) (k : ∀ (z : Int) σ Fₚ Aₚ, HS σ0 σ D N Fₚ Aₚ → SF [] F Fₚ → SA [] A Aₚ → (inrJ (z)) → ((z) = wTop (shf ((w10)) ((u2_1))) ((a1)) ((a2) - (a1)) ((a3))) → Q (some (J z)) σ c s) : Ew 313 (d + 3) 0 (rargs 0 [.ref (D 2), I a1, I a2, J a3]) [] σ c s Q := by
  have r1 : (-2147483648 : Int) ≤ u2_1 ∧ u2_1 ≤ 2147483647 := rngE (show (-2147483648 : Int) ≤ F 2 1 ∧ F 2 1 ≤ 2147483647 from H.frng 2 1) (show F 2 1 = u2_1 from (eu2_1))
  refine Ew_of (pcₚ := 1) (fun _ => x_aload_n rfl rfl) ?_
  refine Ew_of (pcₚ := 2) (fun _ => x_lload_n rfl rfl) ?_
  refine Ew_of (pcₚ := 5) (fun _ => x_ldc2 (z := -7046029288634856825) rfl (by decide)) ?_
  refine w_laddE rfl ?_
  have g2 : inrJ (adJ (a3) ((-7046029288634856825))) := toJ_inr _
  refine Ew_of (pcₚ := 9) (fun _ => x_ldc2 (z := -4417276706812531889) rfl (by decide)) ?_
  refine w_laddE rfl ?_
  have g3 : inrJ (adJ ((adJ (a3) ((-7046029288634856825)))) ((-4417276706812531889))) := toJ_inr _
  refine Ew_of (pcₚ := 11) (fun _ => x_iload_n rfl rfl) ?_
  refine Ew_of (pcₚ := 12) (fun _ => x_iload_n rfl rfl) ?_
  refine Ew_of (pcₚ := 13) (fun _ => x_iconst rfl) ?_
  refine w_inv H (o := 2) rfl rfl rfl (H.perm 2 rfl) rfl rfl (by rfl) (M311 H (u2_1) ((eu2_1)) (w10) (ew10) (show inrJ ((adJ ((adJ (a3) ((-7046029288634856825)))) ((-4417276706812531889)))) from g3) (show inr (a1) from h0) (show inr (a2) from h1) (show inr (0) from q_2) (show 0 ≤ (u2_1) ∧ (u2_1) ≤ 196608 from h3) (show 0 ≤ (a1) ∧ (a1) ≤ (a2) ∧ (a2) ≤ 65536 ∧ 0 ≤ (0) ∧ (0) ≤ 3 from q_796 h4) (fun z8 σ F4 A5 H hS6 hA7 pz8_0 pz8_1 => ⟨rfl, ?_⟩))
  have L1_ := pz8_1
  refine Ew_of (pcₚ := 18) (fun _ => x_lstore rfl) ?_
  refine Ew_of (pcₚ := 19) (fun _ => x_aload_n rfl (rk2_o (rfl) rfl rfl)) ?_
  refine Ew_of (pcₚ := 20) (fun _ => x_lload_n rfl (rk2_o (rfl) rfl rfl)) ?_
  refine Ew_of (pcₚ := 23) (fun _ => x_ldc2 (z := -4417276706812531889) rfl (by decide)) ?_
  refine w_laddE rfl ?_
  have g9 : inrJ (adJ (a3) ((-4417276706812531889))) := toJ_inr _
  refine Ew_of (pcₚ := 25) (fun _ => x_iload_n rfl (rk2_o (rfl) rfl rfl)) ?_
  refine Ew_of (pcₚ := 26) (fun _ => x_iload_n rfl (rk2_o (rfl) rfl rfl)) ?_
  refine Ew_of (pcₚ := 27) (fun _ => x_iconst rfl) ?_
  refine w_inv H (o := 2) rfl rfl rfl (H.perm 2 rfl) rfl rfl (by rfl) (M311 H (u2_1) (((hS6 2 1 rfl).trans (eu2_1))) (w10) ((funext (hA7 10 rfl)).trans (ew10)) (show inrJ ((adJ (a3) ((-4417276706812531889)))) from g9) (show inr (a1) from h0) (show inr (a2) from h1) (show inr (1) from q_135) (show 0 ≤ (u2_1) ∧ (u2_1) ≤ 196608 from h3) (show 0 ≤ (a1) ∧ (a1) ≤ (a2) ∧ (a2) ≤ 65536 ∧ 0 ≤ (1) ∧ (1) ≤ 3 from q_797 h4) (fun z14 σ F10 A11 H hS12 hA13 pz14_0 pz14_1 => ⟨rfl, ?_⟩))
  have L2_ := pz14_1
  refine Ew_of (pcₚ := 32) (fun _ => x_lstore rfl) ?_
  refine Ew_of (pcₚ := 33) (fun _ => x_aload_n rfl (rk2_o (rk2_o (rfl) rfl rfl) rfl rfl)) ?_
  refine Ew_of (pcₚ := 34) (fun _ => x_lload_n rfl (rk2_o (rk2_o (rfl) rfl rfl) rfl rfl)) ?_
  refine Ew_of (pcₚ := 35) (fun _ => x_iload_n rfl (rk2_o (rk2_o (rfl) rfl rfl) rfl rfl)) ?_
  refine Ew_of (pcₚ := 36) (fun _ => x_iload_n rfl (rk2_o (rk2_o (rfl) rfl rfl) rfl rfl)) ?_
  refine Ew_of (pcₚ := 37) (fun _ => x_iconst rfl) ?_
  refine w_inv H (o := 2) rfl rfl rfl (H.perm 2 rfl) rfl rfl (by rfl) (M311 H (u2_1) ((((hS12 2 1 rfl).trans (hS6 2 1 rfl)).trans (eu2_1))) (w10) ((funext (hA13 10 rfl)).trans ((funext (hA7 10 rfl)).trans (ew10))) (show inrJ (a3) from h2) (show inr (a1) from h0) (show inr (a2) from h1) (show inr (2) from q_122) (show 0 ≤ (u2_1) ∧ (u2_1) ≤ 196608 from h3) (show 0 ≤ (a1) ∧ (a1) ≤ (a2) ∧ (a2) ≤ 65536 ∧ 0 ≤ (2) ∧ (2) ≤ 3 from q_798 h4) (fun z19 σ F15 A16 H hS17 hA18 pz19_0 pz19_1 => ⟨rfl, ?_⟩))
  have L3_ := pz19_1
  refine Ew_of (pcₚ := 42) (fun _ => x_lstore rfl) ?_
  refine Ew_of (pcₚ := 43) (fun _ => x_aload_n rfl (rk2_o (rk2_o (rk2_o (rfl) rfl rfl) rfl rfl) rfl rfl)) ?_
  refine Ew_of (pcₚ := 44) (fun _ => x_lload_n rfl (rk2_o (rk2_o (rk2_o (rfl) rfl rfl) rfl rfl) rfl rfl)) ?_
  refine Ew_of (pcₚ := 47) (fun _ => x_ldc2 (z := -7046029288634856825) rfl (by decide)) ?_
  refine w_lsubE rfl ?_
  have g20 : inrJ (sbJ (a3) ((-7046029288634856825))) := toJ_inr _
  refine Ew_of (pcₚ := 49) (fun _ => x_iload_n rfl (rk2_o (rk2_o (rk2_o (rfl) rfl rfl) rfl rfl) rfl rfl)) ?_
  refine Ew_of (pcₚ := 50) (fun _ => x_iload_n rfl (rk2_o (rk2_o (rk2_o (rfl) rfl rfl) rfl rfl) rfl rfl)) ?_
  refine Ew_of (pcₚ := 51) (fun _ => x_iconst rfl) ?_
  refine w_inv H (o := 2) rfl rfl rfl (H.perm 2 rfl) rfl rfl (by rfl) (M311 H (u2_1) (((((hS17 2 1 rfl).trans (hS12 2 1 rfl)).trans (hS6 2 1 rfl)).trans (eu2_1))) (w10) ((funext (hA18 10 rfl)).trans ((funext (hA13 10 rfl)).trans ((funext (hA7 10 rfl)).trans (ew10)))) (show inrJ ((sbJ (a3) ((-7046029288634856825)))) from g20) (show inr (a1) from h0) (show inr (a2) from h1) (show inr (3) from q_246) (show 0 ≤ (u2_1) ∧ (u2_1) ≤ 196608 from h3) (show 0 ≤ (a1) ∧ (a1) ≤ (a2) ∧ (a2) ≤ 65536 ∧ 0 ≤ (3) ∧ (3) ≤ 3 from q_799 h4) (fun z25 σ F21 A22 H hS23 hA24 pz25_0 pz25_1 => ⟨rfl, ?_⟩))
  have L4_ := pz25_1
  refine Ew_of (pcₚ := 56) (fun _ => x_lstore rfl) ?_
  refine Ew_of (pcₚ := 58) (fun _ => x_lload rfl (rk2_o (rk2_o (rk2_o (rk2_s) rfl rfl) rfl rfl) rfl rfl)) ?_
  refine Ew_of (pcₚ := 59) (fun _ => x_iconst rfl) ?_
  refine w_stat24 rfl rfl (by rfl) (M310 H (show inrJ (z8) from pz8_0) (show inr (1) from q_135) (show 0 ≤ (1) ∧ (1) ≤ 64 from q_800) (fun z30 σ F26 A27 H hS28 hA29 pz30_0 pz30_1 => ⟨rfl, ?_⟩))
  have r1_ := pz30_1
  refine Ew_of (pcₚ := 64) (fun _ => x_lload rfl (rk2_o (rk2_o (rk2_s) rfl rfl) rfl rfl)) ?_
  refine Ew_of (pcₚ := 66) (fun _ => x_bipush (z := 7) rfl (by decide)) ?_
  refine w_stat24 rfl rfl (by rfl) (M310 H (show inrJ (z14) from pz14_0) (show inr (7) from q_597) (show 0 ≤ (7) ∧ (7) ≤ 64 from q_801) (fun z35 σ F31 A32 H hS33 hA34 pz35_0 pz35_1 => ⟨rfl, ?_⟩))
  have r2_ := pz35_1
  refine w_laddE rfl ?_
  have g36 : inrJ (adJ (z30) (z35)) := toJ_inr _
  refine Ew_of (pcₚ := 72) (fun _ => x_lload rfl (rk2_o (rk2_s) rfl rfl)) ?_
  refine Ew_of (pcₚ := 74) (fun _ => x_bipush (z := 12) rfl (by decide)) ?_
  refine w_stat24 rfl rfl (by rfl) (M310 H (show inrJ (z19) from pz19_0) (show inr (12) from q_599) (show 0 ≤ (12) ∧ (12) ≤ 64 from q_802) (fun z41 σ F37 A38 H hS39 hA40 pz41_0 pz41_1 => ⟨rfl, ?_⟩))
  have r3_ := pz41_1
  refine w_laddE rfl ?_
  have g42 : inrJ (adJ ((adJ (z30) (z35))) (z41)) := toJ_inr _
  refine Ew_of (pcₚ := 80) (fun _ => x_lload rfl rk2_s) ?_
  refine Ew_of (pcₚ := 82) (fun _ => x_bipush (z := 18) rfl (by decide)) ?_
  refine w_stat24 rfl rfl (by rfl) (M310 H (show inrJ (z25) from pz25_0) (show inr (18) from q_601) (show 0 ≤ (18) ∧ (18) ≤ 64 from q_803) (fun z47 σ F43 A44 H hS45 hA46 pz47_0 pz47_1 => ⟨rfl, ?_⟩))
  have r4_ := pz47_1
  refine w_laddE rfl ?_
  have g48 : inrJ (adJ ((adJ ((adJ (z30) (z35))) (z41))) (z47)) := toJ_inr _
  refine Ew_of (pcₚ := 88) (fun _ => x_lstore rfl) ?_
  refine Ew_of (pcₚ := 90) (fun _ => x_lload rfl rk2_s) ?_
  refine Ew_of (pcₚ := 92) (fun _ => x_lload rfl (rk2_o (rk2_o (rk2_o (rk2_o (rk2_s) rfl rfl) rfl rfl) rfl rfl) rfl rfl)) ?_
  refine w_stat24 rfl rfl (by rfl) (M312 H (show inrJ ((adJ ((adJ ((adJ (z30) (z35))) (z41))) (z47))) from g48) (show inrJ (z8) from pz8_0) (fun z53 σ F49 A50 H hS51 hA52 pz53_0 pz53_1 => ⟨rfl, ?_⟩))
  have k1_ := pz53_1
  refine Ew_of (pcₚ := 97) (fun _ => x_lstore rfl) ?_
  refine Ew_of (pcₚ := 99) (fun _ => x_lload rfl rk2_s) ?_
  refine Ew_of (pcₚ := 101) (fun _ => x_lload rfl (rk2_o (rk2_o (rk2_o (rk2_o (rk2_s) rfl rfl) rfl rfl) rfl rfl) rfl rfl)) ?_
  refine w_stat24 rfl rfl (by rfl) (M312 H (show inrJ (z53) from pz53_0) (show inrJ (z14) from pz14_0) (fun z58 σ F54 A55 H hS56 hA57 pz58_0 pz58_1 => ⟨rfl, ?_⟩))
  have k2_ := pz58_1
  refine Ew_of (pcₚ := 106) (fun _ => x_lstore rfl) ?_
  refine Ew_of (pcₚ := 108) (fun _ => x_lload rfl rk2_s) ?_
  refine Ew_of (pcₚ := 110) (fun _ => x_lload rfl (rk2_o (rk2_o (rk2_o (rk2_o (rk2_s) rfl rfl) rfl rfl) rfl rfl) rfl rfl)) ?_
  refine w_stat24 rfl rfl (by rfl) (M312 H (show inrJ (z58) from pz58_0) (show inrJ (z19) from pz19_0) (fun z63 σ F59 A60 H hS61 hA62 pz63_0 pz63_1 => ⟨rfl, ?_⟩))
  have k3_ := pz63_1
  refine Ew_of (pcₚ := 115) (fun _ => x_lstore rfl) ?_
  refine Ew_of (pcₚ := 117) (fun _ => x_lload rfl rk2_s) ?_
  refine Ew_of (pcₚ := 119) (fun _ => x_lload rfl (rk2_o (rk2_o (rk2_o (rk2_o (rk2_s) rfl rfl) rfl rfl) rfl rfl) rfl rfl)) ?_
  refine w_stat24 rfl rfl (by rfl) (M312 H (show inrJ (z63) from pz63_0) (show inrJ (z25) from pz25_0) (fun z68 σ F64 A65 H hS66 hA67 pz68_0 pz68_1 => ⟨rfl, ?_⟩))
  have : (z68) = wTop (shf ((w10)) ((u2_1))) ((a1)) ((a2) - (a1)) ((a3)) := wTop_of (wLn_p L1_.symm (by omega)) (wLn_p L2_.symm (by omega)) (wLn_p L3_.symm (by omega)) (wLn_p L4_.symm (by omega)) r1_ r2_ r3_ r4_ k1_ k2_ k3_ pz68_1
  exact w_lreturn rfl (k (z68) σ _ _ H (SF_trans (SF_trans (SF_trans (SF_trans (SF_trans (SF_trans (SF_trans (SF_trans (SF_trans (SF_trans (SF_trans (SF_trans (SF_refl) hS6 (any_sub rfl)) hS12 (any_sub rfl)) hS17 (any_sub rfl)) hS23 (any_sub rfl)) hS28 (any_sub rfl)) hS33 (any_sub rfl)) hS39 (any_sub rfl)) hS45 (any_sub rfl)) hS51 (any_sub rfl)) hS56 (any_sub rfl)) hS61 (any_sub rfl)) hS66 (any_sub rfl)) (SA_trans (SA_trans (SA_trans (SA_trans (SA_trans (SA_trans (SA_trans (SA_trans (SA_trans (SA_trans (SA_trans (SA_trans (SA_refl) hA7 (any_subA rfl)) hA13 (any_subA rfl)) hA18 (any_subA rfl)) hA24 (any_subA rfl)) hA29 (any_subA rfl)) hA34 (any_subA rfl)) hA40 (any_subA rfl)) hA46 (any_subA rfl)) hA52 (any_subA rfl)) hA57 (any_subA rfl)) hA62 (any_subA rfl)) hA67 (any_subA rfl)) (show inrJ (z68) from pz68_0) (show (z68) = wTop (shf ((w10)) ((u2_1))) (a1) (a2 - a1) (a3) by assumption))

theorem M309 {σ0 σ : rS} {D N : Nat → Nat} {F : hF} {A : hA} {d c s : Nat} {Q : wQ} (H : HS σ0 σ D N F A) {a1 a2 a3 : Int} (u2_1 : Int) (eu2_1 : F 2 1 = u2_1) (w10 : Int → Int) (ew10 : A 10 = w10) (h0 : inr (a1)) (h1 : inr (a2)) (h2 : inr (a3)) (h3 : 0 ≤ (u2_1) ∧ (u2_1) ≤ 196608) (h4 : 0 ≤ (a1) ∧ (a1) ≤ (a2) ∧ (a2) ≤ 65536) (k : ∀ (z : Int) σ Fₚ Aₚ, HS σ0 σ D N Fₚ Aₚ → SF [] F Fₚ → SA [] A Aₚ → (inr (z)) → ((z) = NSM (shf ((w10)) ((u2_1))) ((a1)) ((a2) - (a1)) ((a3))) → Q (some (I z)) σ c s) : Ew 309 (d + 3) 0 (rargs 0 [.ref (D 2), I a1, I a2, I a3]) [] σ c s Q := by
  have r1 : (-2147483648 : Int) ≤ u2_1 ∧ u2_1 ≤ 2147483647 := rngE (show (-2147483648 : Int) ≤ F 2 1 ∧ F 2 1 ≤ 2147483647 from H.frng 2 1) (show F 2 1 = u2_1 from (eu2_1))
  refine Ew_of (pcₚ := 1) (fun _ => x_iload_n rfl rfl) ?_
  refine Ew_of (pcₚ := 2) (fun _ => x_iload_n rfl rfl) ?_
  refine w_isub rfl ?_
  refine Ew_of (pcₚ := 5) (fun _ => x_istore rfl) ?_
  refine Ew_of (pcₚ := 6) (fun _ => x_iload_n rfl (rk_o (rfl) rfl rfl)) ?_
  refine Ew_of (pcₚ := 8) (fun _ => x_ldc (z := 374761393) rfl (by decide)) ?_
  refine w_iaddE rfl ?_
  have g2 : inr (adI (a3) (374761393)) := toI_inr _
  refine Ew_of (pcₚ := 11) (fun _ => x_istore rfl) ?_
  refine Ew_of (pcₚ := 12) (fun _ => x_iload_n rfl (rk_o (rk_o (rfl) rfl rfl) rfl rfl)) ?_
  refine Ew_of (pcₚ := 14) (fun _ => x_istore rfl) ?_
  have hc102 : ∀ (ls : rO) (σ : rS) (F_c102 : hF) (A_c102 : hA) (xc102_5 : Int) (xc102_6 : Int), rlook ls 0 = some (.ref (D 2)) → rlook ls 2 = some (I (a2)) → rlook ls 4 = some (I ((a2 - a1))) → rlook ls 5 = some (I (xc102_5)) → rlook ls 6 = some (I (xc102_6)) → HS σ0 σ D N F_c102 A_c102 → SF [] F F_c102 → SA [] A A_c102 → (inr (xc102_5)) → (inr (xc102_6)) → ((a1) ≤ (xc102_6) ∧ (xc102_6) ≤ (a2)) → (NS1 (shf ((w10)) ((u2_1))) ((a1)) ((a2) - (a1)) ((a3)) ((xc102_6)) ((xc102_5))) → Ew 309 (d + 3) 102 ls [] σ c s Q := by
   as_aux_lemma =>
    intro  ls σ F_c102 A_c102 xc102_5 xc102_6 lc102_0 lc102_2 lc102_4 lc102_5 lc102_6 H hS_c102 hA_c102   jc102_0 jc102_1 jc102_2 jc102_3
    have hc1 : NS1 (shf ((w10)) ((u2_1))) ((a1)) ((a2) - (a1)) ((a3)) ((xc102_6)) ((xc102_5)) := jc102_3
    refine Ew_of (pcₚ := 104) (fun _ => x_iload rfl lc102_5) ?_
    refine Ew_of (pcₚ := 106) (fun _ => x_iload rfl lc102_4) ?_
    refine w_iaddE rfl ?_
    have g3 : inr (adI (xc102_5) ((a2 - a1))) := toI_inr _
    refine Ew_of (pcₚ := 109) (fun _ => x_istore rfl) ?_
    refine Ew_of (pcₚ := 110) (fun _ => x_iconst rfl) ?_
    refine Ew_of (pcₚ := 112) (fun _ => x_istore rfl) ?_
    have hc1p := hc1.1
    have : ∃ xp xh, NS1 (shf ((w10)) ((u2_1))) ((a1)) ((a2) - (a1)) ((a3)) xp xh ∧ nS4n (shf ((w10)) ((u2_1))) xp (((a2) - (a1)) % 16 / 4).toNat (adI xh ((a2) - (a1))) = nS4n (shf ((w10)) ((u2_1))) ((xc102_6)) (((a2) - (xc102_6)) / 4).toNat (((adI (xc102_5) ((a2 - a1))))) := ⟨(xc102_6), _, hc1, by rw [show ((a2) - (a1)) % 16 / 4 = ((a2) - (xc102_6)) / 4 by omega]⟩
    suffices hl112 : ∀ (m : Nat), ∀ (ls : rO) (σ : rS) (F_112 : hF) (A_112 : hA) (x112_5 : Int) (x112_6 : Int) (x112_7 : Int), rlook ls 0 = some (.ref (D 2)) → rlook ls 2 = some (I (a2)) → rlook ls 5 = some (I (x112_5)) → rlook ls 6 = some (I (x112_6)) → rlook ls 7 = some (I (x112_7)) → HS σ0 σ D N F_112 A_112 → SF [] F_c102 F_112 → SA [] A_c102 A_112 → (inr (x112_5)) → (inr (x112_6)) → (inr (x112_7)) → ((a1) ≤ (x112_6) ∧ (x112_6) ≤ (a2)) → (0 ≤ (x112_7) ∧ (x112_7) ≤ 3) → ((a2) - (x112_6) ≤ 15 - 4 * (x112_7)) → (((a2) - (x112_6)) % 4 = ((a2) - (a1)) % 4) → (∃ xp xh, NS1 (shf ((w10)) ((u2_1))) ((a1)) ((a2) - (a1)) ((a3)) xp xh ∧ nS4n (shf ((w10)) ((u2_1))) xp (((a2) - (a1)) % 16 / 4).toNat (adI xh ((a2) - (a1))) = nS4n (shf ((w10)) ((u2_1))) ((x112_6)) (((a2) - (x112_6)) / 4).toNat ((x112_5))) → (3 - (x112_7)).toNat = m → Ew 309 (d + 3) 112 ls [] σ c s Q from
      hl112 _ _ σ _ _ ((adI (xc102_5) ((a2 - a1)))) (xc102_6) (0) (rk_o (rk_o (lc102_0) rfl rfl) rfl rfl) (rk_o (rk_o (lc102_2) rfl rfl) rfl rfl) (rk_o (rk_s) rfl rfl) (rk_o (rk_o (lc102_6) rfl rfl) rfl rfl) (rk_s) H (SF_refl) (SA_refl)   (show inr ((adI (xc102_5) ((a2 - a1)))) from g3) (show inr (xc102_6) from jc102_1) (show inr (0) from q_2) (show (a1) ≤ (xc102_6) ∧ (xc102_6) ≤ (a2) from jc102_2) (show 0 ≤ (0) ∧ (0) ≤ 3 from q_548) (show (a2) - (xc102_6) ≤ 15 - 4 * (0) by omega) (show ((a2) - (xc102_6)) % 4 = ((a2) - (a1)) % 4 by omega) (show ∃ xp xh, NS1 (shf ((w10)) ((u2_1))) ((a1)) ((a2) - (a1)) ((a3)) xp xh ∧ nS4n (shf ((w10)) ((u2_1))) xp (((a2) - (a1)) % 16 / 4).toNat (adI xh ((a2) - (a1))) = nS4n (shf ((w10)) ((u2_1))) ((xc102_6)) (((a2) - (xc102_6)) / 4).toNat (((adI (xc102_5) ((a2 - a1))))) by assumption) rfl
    as_aux_lemma =>
    intro m
    induction m using Nat.strongRecOn with
    | _ m ih112 =>
      intro ls σ F_112 A_112 x112_5 x112_6 x112_7 l112_0 l112_2 l112_5 l112_6 l112_7 H hS_112 hA_112   j112_0 j112_1 j112_2 j112_3 j112_4 j112_5 j112_6 j112_7 hm112
      have j112_q : ∃ xp xh, NS1 (shf ((w10)) ((u2_1))) ((a1)) ((a2) - (a1)) ((a3)) xp xh ∧ nS4n (shf ((w10)) ((u2_1))) xp (((a2) - (a1)) % 16 / 4).toNat (adI xh ((a2) - (a1))) = nS4n (shf ((w10)) ((u2_1))) ((x112_6)) (((a2) - (x112_6)) / 4).toNat ((x112_5)) := by assumption
      refine Ew_of (pcₚ := 114) (fun _ => x_iload rfl l112_7) ?_
      refine Ew_of (pcₚ := 115) (fun _ => x_iconst rfl) ?_
      have hc159 : ∀ (ls : rO) (σ : rS) (F_c159 : hF) (A_c159 : hA) , rlook ls 0 = some (.ref (D 2)) → rlook ls 2 = some (I (a2)) → rlook ls 5 = some (I (x112_5)) → rlook ls 6 = some (I (x112_6)) → HS σ0 σ D N F_c159 A_c159 → SF [] F_112 F_c159 → SA [] A_112 A_c159 → (((x112_7) ≥ (3)) ∨ ((x112_7) < (3) ∧ ((a2 - x112_6)) < (4))) → Ew 309 (d + 3) 159 ls [] σ c s Q := by
       as_aux_lemma =>
        intro  ls σ F_c159 A_c159  lc159_0 lc159_2 lc159_5 lc159_6 H hS_c159 hA_c159   jc159_0
        refine Ew_of (pcₚ := 161) (fun _ => x_iload rfl lc159_6) ?_
        refine Ew_of (pcₚ := 163) (fun _ => x_istore rfl) ?_
        have : ∃ xp xh, NS1 (shf ((w10)) ((u2_1))) ((a1)) ((a2) - (a1)) ((a3)) xp xh ∧ nS1n (shf ((w10)) ((u2_1))) ((a2) - ((a2) - (a1)) % 4) (((a2) - (a1)) % 4).toNat (nS4n (shf ((w10)) ((u2_1))) xp (((a2) - (a1)) % 16 / 4).toNat (adI xh ((a2) - (a1)))) = nS1n (shf ((w10)) ((u2_1))) ((x112_6)) ((a2) - (x112_6)).toNat ((x112_5)) := by obtain ⟨xp, xh, q1, q2⟩ := j112_q; refine ⟨xp, xh, q1, ?_⟩; rw [q2, nS4n_0 (by omega), show (a2) - ((a2) - (a1)) % 4 = (x112_6) by omega, show ((a2) - (a1)) % 4 = (a2) - (x112_6) by omega]
        suffices hl163 : ∀ (m : Nat), ∀ (ls : rO) (σ : rS) (F_163 : hF) (A_163 : hA) (x163_5 : Int) (x163_7 : Int), rlook ls 0 = some (.ref (D 2)) → rlook ls 2 = some (I (a2)) → rlook ls 5 = some (I (x163_5)) → rlook ls 7 = some (I (x163_7)) → HS σ0 σ D N F_163 A_163 → SF [] F_c159 F_163 → SA [] A_c159 A_163 → (inr (x163_5)) → (inr (x163_7)) → ((x112_6) ≤ (x163_7)) → ((x163_7) ≤ (x112_6) ∨ (x163_7) ≤ ((a2))) → (∃ xp xh, NS1 (shf ((w10)) ((u2_1))) ((a1)) ((a2) - (a1)) ((a3)) xp xh ∧ nS1n (shf ((w10)) ((u2_1))) ((a2) - ((a2) - (a1)) % 4) (((a2) - (a1)) % 4).toNat (nS4n (shf ((w10)) ((u2_1))) xp (((a2) - (a1)) % 16 / 4).toNat (adI xh ((a2) - (a1)))) = nS1n (shf ((w10)) ((u2_1))) ((x163_7)) ((a2) - (x163_7)).toNat ((x163_5))) → (((a2)) - (x163_7)).toNat = m → Ew 309 (d + 3) 163 ls [] σ c s Q from
          hl163 _ _ σ _ _ (x112_5) (x112_6) (rk_o (lc159_0) rfl rfl) (rk_o (lc159_2) rfl rfl) (rk_o (lc159_5) rfl rfl) (rk_s) H (SF_refl) (SA_refl)   (show inr (x112_5) from j112_0) (show inr (x112_6) from j112_1) (show (x112_6) ≤ (x112_6) from q_43) (show (x112_6) ≤ (x112_6) ∨ (x112_6) ≤ ((a2)) from q_156) (show ∃ xp xh, NS1 (shf ((w10)) ((u2_1))) ((a1)) ((a2) - (a1)) ((a3)) xp xh ∧ nS1n (shf ((w10)) ((u2_1))) ((a2) - ((a2) - (a1)) % 4) (((a2) - (a1)) % 4).toNat (nS4n (shf ((w10)) ((u2_1))) xp (((a2) - (a1)) % 16 / 4).toNat (adI xh ((a2) - (a1)))) = nS1n (shf ((w10)) ((u2_1))) ((x112_6)) ((a2) - (x112_6)).toNat ((x112_5)) by assumption) rfl
        as_aux_lemma =>
        intro m
        induction m using Nat.strongRecOn with
        | _ m ih163 =>
          intro ls σ F_163 A_163 x163_5 x163_7 l163_0 l163_2 l163_5 l163_7 H hS_163 hA_163   j163_0 j163_1 j163_2 j163_3 j163_4 hm163
          have j163_q : ∃ xp xh, NS1 (shf ((w10)) ((u2_1))) ((a1)) ((a2) - (a1)) ((a3)) xp xh ∧ nS1n (shf ((w10)) ((u2_1))) ((a2) - ((a2) - (a1)) % 4) (((a2) - (a1)) % 4).toNat (nS4n (shf ((w10)) ((u2_1))) xp (((a2) - (a1)) % 16 / 4).toNat (adI xh ((a2) - (a1)))) = nS1n (shf ((w10)) ((u2_1))) ((x163_7)) ((a2) - (x163_7)).toNat ((x163_5)) := by assumption
          refine Ew_of (pcₚ := 165) (fun _ => x_iload rfl l163_7) ?_
          refine Ew_of (pcₚ := 166) (fun _ => x_iload_n rfl l163_2) ?_
          refine w_icmpge (t := 197) rfl rfl (show inr (x163_7) from j163_1) (show inr (a2) from h1) (fun b4 => ?_) (fun b4 => ?_)
          · refine Ew_of (pcₚ := 199) (fun _ => x_iload rfl l163_5) ?_
            refine Ew_of (pcₚ := 201) (fun _ => x_iload rfl l163_5) ?_
            refine Ew_of (pcₚ := 203) (fun _ => x_bipush (z := 15) rfl (by decide)) ?_
            refine w_iushrE rfl ?_
            have g5 : inr (usI (x163_5) (15)) := toI_inr _
            refine w_ixorE rfl ?_
            have g6 : inr (xoI (x163_5) ((usI (x163_5) (15)))) := toI_inr _
            refine Ew_of (pcₚ := 207) (fun _ => x_ldc (z := -2048144777) rfl (by decide)) ?_
            refine w_imulE rfl ?_
            have g7 : inr (muI ((xoI (x163_5) ((usI (x163_5) (15))))) ((-2048144777))) := toI_inr _
            refine Ew_of (pcₚ := 210) (fun _ => x_istore rfl) ?_
            refine Ew_of (pcₚ := 212) (fun _ => x_iload rfl rk_s) ?_
            refine Ew_of (pcₚ := 214) (fun _ => x_iload rfl rk_s) ?_
            refine Ew_of (pcₚ := 216) (fun _ => x_bipush (z := 13) rfl (by decide)) ?_
            refine w_iushrE rfl ?_
            have g8 : inr (usI ((muI ((xoI (x163_5) ((usI (x163_5) (15))))) ((-2048144777)))) (13)) := toI_inr _
            refine w_ixorE rfl ?_
            have g9 : inr (xoI ((muI ((xoI (x163_5) ((usI (x163_5) (15))))) ((-2048144777)))) ((usI ((muI ((xoI (x163_5) ((usI (x163_5) (15))))) ((-2048144777)))) (13)))) := toI_inr _
            refine Ew_of (pcₚ := 220) (fun _ => x_ldc (z := -1028477379) rfl (by decide)) ?_
            refine w_imulE rfl ?_
            have g10 : inr (muI ((xoI ((muI ((xoI (x163_5) ((usI (x163_5) (15))))) ((-2048144777)))) ((usI ((muI ((xoI (x163_5) ((usI (x163_5) (15))))) ((-2048144777)))) (13))))) ((-1028477379))) := toI_inr _
            refine Ew_of (pcₚ := 223) (fun _ => x_istore rfl) ?_
            refine Ew_of (pcₚ := 225) (fun _ => x_iload rfl rk_s) ?_
            refine Ew_of (pcₚ := 227) (fun _ => x_iload rfl rk_s) ?_
            refine Ew_of (pcₚ := 229) (fun _ => x_bipush (z := 16) rfl (by decide)) ?_
            refine w_iushrE rfl ?_
            have g11 : inr (usI ((muI ((xoI ((muI ((xoI (x163_5) ((usI (x163_5) (15))))) ((-2048144777)))) ((usI ((muI ((xoI (x163_5) ((usI (x163_5) (15))))) ((-2048144777)))) (13))))) ((-1028477379)))) (16)) := toI_inr _
            refine w_ixorE rfl ?_
            have g12 : inr (xoI ((muI ((xoI ((muI ((xoI (x163_5) ((usI (x163_5) (15))))) ((-2048144777)))) ((usI ((muI ((xoI (x163_5) ((usI (x163_5) (15))))) ((-2048144777)))) (13))))) ((-1028477379)))) ((usI ((muI ((xoI ((muI ((xoI (x163_5) ((usI (x163_5) (15))))) ((-2048144777)))) ((usI ((muI ((xoI (x163_5) ((usI (x163_5) (15))))) ((-2048144777)))) (13))))) ((-1028477379)))) (16)))) := toI_inr _
            have : ((xoI ((muI ((xoI ((muI ((xoI (x163_5) ((usI (x163_5) (15))))) ((-2048144777)))) ((usI ((muI ((xoI (x163_5) ((usI (x163_5) (15))))) ((-2048144777)))) (13))))) ((-1028477379)))) ((usI ((muI ((xoI ((muI ((xoI (x163_5) ((usI (x163_5) (15))))) ((-2048144777)))) ((usI ((muI ((xoI (x163_5) ((usI (x163_5) (15))))) ((-2048144777)))) (13))))) ((-1028477379)))) (16))))) = NSM (shf ((w10)) ((u2_1))) ((a1)) ((a2) - (a1)) ((a3)) := by obtain ⟨xp, xh, q1, q2⟩ := j163_q; rw [nS1n_0 (k := ((a2) - (x163_7)).toNat) (by omega)] at q2; rw [show (a2) - ((a2) - (a1)) % 4 = (a1) + ((a2) - (a1)) - ((a2) - (a1)) % 4 by omega] at q2; exact NSM_of q1 rfl rfl q2
            exact w_ireturn rfl (k ((xoI ((muI ((xoI ((muI ((xoI (x163_5) ((usI (x163_5) (15))))) ((-2048144777)))) ((usI ((muI ((xoI (x163_5) ((usI (x163_5) (15))))) ((-2048144777)))) (13))))) ((-1028477379)))) ((usI ((muI ((xoI ((muI ((xoI (x163_5) ((usI (x163_5) (15))))) ((-2048144777)))) ((usI ((muI ((xoI (x163_5) ((usI (x163_5) (15))))) ((-2048144777)))) (13))))) ((-1028477379)))) (16))))) σ _ _ H (SF_trans (SF_trans (SF_trans (SF_trans (SF_refl) hS_c102 (any_sub rfl)) hS_112 (any_sub rfl)) hS_c159 (any_sub rfl)) hS_163 (any_sub rfl)) (SA_trans (SA_trans (SA_trans (SA_trans (SA_refl) hA_c102 (any_subA rfl)) hA_112 (any_subA rfl)) hA_c159 (any_subA rfl)) hA_163 (any_subA rfl)) (show inr ((xoI ((muI ((xoI ((muI ((xoI (x163_5) ((usI (x163_5) (15))))) ((-2048144777)))) ((usI ((muI ((xoI (x163_5) ((usI (x163_5) (15))))) ((-2048144777)))) (13))))) ((-1028477379)))) ((usI ((muI ((xoI ((muI ((xoI (x163_5) ((usI (x163_5) (15))))) ((-2048144777)))) ((usI ((muI ((xoI (x163_5) ((usI (x163_5) (15))))) ((-2048144777)))) (13))))) ((-1028477379)))) (16))))) from g12) (show ((xoI ((muI ((xoI ((muI ((xoI (x163_5) ((usI (x163_5) (15))))) ((-2048144777)))) ((usI ((muI ((xoI (x163_5) ((usI (x163_5) (15))))) ((-2048144777)))) (13))))) ((-1028477379)))) ((usI ((muI ((xoI ((muI ((xoI (x163_5) ((usI (x163_5) (15))))) ((-2048144777)))) ((usI ((muI ((xoI (x163_5) ((usI (x163_5) (15))))) ((-2048144777)))) (13))))) ((-1028477379)))) (16))))) = NSM (shf ((w10)) ((u2_1))) (a1) (a2 - a1) (a3) by assumption))
          · refine Ew_of (pcₚ := 171) (fun _ => x_iload rfl l163_5) ?_
            refine Ew_of (pcₚ := 172) (fun _ => x_aload_n rfl l163_0) ?_
            refine Ew_of (pcₚ := 174) (fun _ => x_iload rfl l163_7) ?_
            refine w_inv H (o := 2) rfl rfl rfl (H.perm 2 rfl) rfl rfl (by rfl) (M305 H (u2_1) ((((((hS_163 2 1 rfl).trans (hS_c159 2 1 rfl)).trans (hS_112 2 1 rfl)).trans (hS_c102 2 1 rfl)).trans (eu2_1))) (w10) ((funext (hA_163 10 rfl)).trans ((funext (hA_c159 10 rfl)).trans ((funext (hA_112 10 rfl)).trans ((funext (hA_c102 10 rfl)).trans (ew10))))) (show inr (x163_7) from j163_1) (show 0 ≤ (u2_1) + (x163_7) ∧ (u2_1) + (x163_7) < 262144 ∧ 0 ≤ (u2_1) ∧ (u2_1) ≤ 262144 from q_804 b4 h3 h4 j112_3 j163_2) (fun z17 σ F13 A14 H hS15 hA16 pz17_0 pz17_1 pz17_2 => ⟨rfl, ?_⟩))
            have w6 := pz17_2
            have w6r := pz17_1
            refine Ew_of (pcₚ := 179) (fun _ => x_ldc (z := 374761393) rfl (by decide)) ?_
            refine w_imulE rfl ?_
            have g18 : inr (muI (z17) (374761393)) := toI_inr _
            refine w_iaddE rfl ?_
            have g19 : inr (adI (x163_5) ((muI (z17) (374761393)))) := toI_inr _
            refine Ew_of (pcₚ := 183) (fun _ => x_bipush (z := 11) rfl (by decide)) ?_
            refine w_stat24 rfl rfl (by rfl) (M307 H (show inr ((adI (x163_5) ((muI (z17) (374761393))))) from g19) (show inr (11) from q_326) (show 0 ≤ (11) ∧ (11) ≤ 32 from q_805) (fun z24 σ F20 A21 H hS22 hA23 pz24_0 pz24_1 => ⟨rfl, ?_⟩))
            have r6_ := pz24_1
            refine Ew_of (pcₚ := 188) (fun _ => x_ldc (z := -1640531535) rfl (by decide)) ?_
            refine w_imulE rfl ?_
            have g25 : inr (muI (z24) ((-1640531535))) := toI_inr _
            refine Ew_of (pcₚ := 191) (fun _ => x_istore rfl) ?_
            refine Ew_of (pcₚ := 194) (fun _ => x_iinc (len := 3) rfl (rk_o (l163_7) rfl rfl)) ?_
            refine Ew_of (pcₚ := 163) (fun _ => x_goto rfl rfl) ?_
            have : ∃ xp xh, NS1 (shf ((w10)) ((u2_1))) ((a1)) ((a2) - (a1)) ((a3)) xp xh ∧ nS1n (shf ((w10)) ((u2_1))) ((a2) - ((a2) - (a1)) % 4) (((a2) - (a1)) % 4).toNat (nS4n (shf ((w10)) ((u2_1))) xp (((a2) - (a1)) % 16 / 4).toNat (adI xh ((a2) - (a1)))) = nS1n (shf ((w10)) ((u2_1))) (((x163_7 + 1))) ((a2) - ((x163_7 + 1))).toNat (((muI (z24) ((-1640531535))))) := by obtain ⟨xp, xh, q1, q2⟩ := j163_q; exact ⟨xp, xh, q1, q2.trans (nS1n_s (by omega) (by unfold nS1; rw [show shf _ _ _ = _ from w6.symm, u8_id w6r, ← r6_]) (by omega))⟩
            exact ih163 _ (msE hm163 q_16 (q_17 b4)) _ σ _ _ ((muI (z24) ((-1640531535)))) ((x163_7 + 1)) (rk_o (rk_o (l163_0) rfl rfl) rfl rfl) (rk_o (rk_o (l163_2) rfl rfl) rfl rfl) (rk_o (rk_s) rfl rfl) (rk_s) H (SF_trans (SF_trans (hS_163) hS15 (any_sub rfl)) hS22 (any_sub rfl)) (SA_trans (SA_trans (hA_163) hA16 (any_subA rfl)) hA23 (any_subA rfl))   (show inr ((muI (z24) ((-1640531535)))) from g25) (show inr ((x163_7 + 1)) from q_361 b4 h4 j163_1) (show (x112_6) ≤ ((x163_7 + 1)) from q_161 j163_2) (show ((x163_7 + 1)) ≤ (x112_6) ∨ ((x163_7 + 1)) ≤ ((a2)) from q_160 b4) (show ∃ xp xh, NS1 (shf ((w10)) ((u2_1))) ((a1)) ((a2) - (a1)) ((a3)) xp xh ∧ nS1n (shf ((w10)) ((u2_1))) ((a2) - ((a2) - (a1)) % 4) (((a2) - (a1)) % 4).toNat (nS4n (shf ((w10)) ((u2_1))) xp (((a2) - (a1)) % 16 / 4).toNat (adI xh ((a2) - (a1)))) = nS1n (shf ((w10)) ((u2_1))) (((x163_7 + 1))) ((a2) - ((x163_7 + 1))).toNat (((muI (z24) ((-1640531535))))) by assumption) rfl
      refine w_icmpge (t := 159) rfl rfl (show inr (x112_7) from j112_2) (show inr (3) from q_246) (fun b26 => ?_) (fun b26 => ?_)
      · exact hc159  _ σ _ _  (l112_0) (l112_2) (l112_5) (l112_6) H (SF_refl) (SA_refl)   (show ((x112_7) ≥ (3)) ∨ ((x112_7) < (3) ∧ ((a2 - x112_6)) < (4)) from q_806 b26)
      · refine Ew_of (pcₚ := 119) (fun _ => x_iload_n rfl l112_2) ?_
        refine Ew_of (pcₚ := 121) (fun _ => x_iload rfl l112_6) ?_
        refine w_isub rfl ?_
        refine Ew_of (pcₚ := 123) (fun _ => x_iconst rfl) ?_
        refine w_icmplt (t := 159) rfl rfl (show inr ((a2 - x112_6)) from q_615 h4 j112_3) (show inr (4) from q_216) (fun b27 => ?_) (fun b27 => ?_)
        · exact hc159  _ σ _ _  (l112_0) (l112_2) (l112_5) (l112_6) H (SF_refl) (SA_refl)   (show ((x112_7) ≥ (3)) ∨ ((x112_7) < (3) ∧ ((a2 - x112_6)) < (4)) from q_807 b26 b27)
        · refine Ew_of (pcₚ := 128) (fun _ => x_iload rfl l112_5) ?_
          refine Ew_of (pcₚ := 129) (fun _ => x_aload_n rfl l112_0) ?_
          refine Ew_of (pcₚ := 131) (fun _ => x_iload rfl l112_6) ?_
          refine Ew_of (pcₚ := 132) (fun _ => x_iconst rfl) ?_
          refine w_inv H (o := 2) rfl rfl rfl (H.perm 2 rfl) rfl rfl (by rfl) (M306 H (u2_1) ((((hS_112 2 1 rfl).trans (hS_c102 2 1 rfl)).trans (eu2_1))) (w10) ((funext (hA_112 10 rfl)).trans ((funext (hA_c102 10 rfl)).trans (ew10))) (show inr (x112_6) from j112_1) (show inr (4) from q_216) (show 0 ≤ (u2_1) ∧ (u2_1) ≤ 196608 from h3) (show 0 ≤ (x112_6) ∧ 0 ≤ (4) ∧ (4) ≤ 8 ∧ (x112_6) + (4) ≤ 65536 from q_808 b27 h4 j112_3) (fun z32 σ F28 A29 H hS30 hA31 pz32_0 pz32_1 => ⟨rfl, ?_⟩))
          have w5 := pz32_1
          refine w_l2i rfl ?_
          refine Ew_of (pcₚ := 138) (fun _ => x_ldc (z := -1028477379) rfl (by decide)) ?_
          refine w_imulE rfl ?_
          have g33 : inr (muI (z32) ((-1028477379))) := toI_inr _
          refine w_iaddE rfl ?_
          have g34 : inr (adI (x112_5) ((muI (z32) ((-1028477379))))) := toI_inr _
          refine Ew_of (pcₚ := 142) (fun _ => x_bipush (z := 17) rfl (by decide)) ?_
          refine w_stat24 rfl rfl (by rfl) (M307 H (show inr ((adI (x112_5) ((muI (z32) ((-1028477379)))))) from g34) (show inr (17) from q_582) (show 0 ≤ (17) ∧ (17) ≤ 32 from q_809) (fun z39 σ F35 A36 H hS37 hA38 pz39_0 pz39_1 => ⟨rfl, ?_⟩))
          have r5_ := pz39_1
          refine Ew_of (pcₚ := 147) (fun _ => x_ldc (z := 668265263) rfl (by decide)) ?_
          refine w_imulE rfl ?_
          have g40 : inr (muI (z39) (668265263)) := toI_inr _
          refine Ew_of (pcₚ := 150) (fun _ => x_istore rfl) ?_
          refine Ew_of (pcₚ := 153) (fun _ => x_iinc (len := 3) rfl (rk_o (l112_6) rfl rfl)) ?_
          refine Ew_of (pcₚ := 156) (fun _ => x_iinc (len := 3) rfl (rk_o (rk_o (l112_7) rfl rfl) rfl rfl)) ?_
          refine Ew_of (pcₚ := 112) (fun _ => x_goto rfl rfl) ?_
          have : ∃ xp xh, NS1 (shf ((w10)) ((u2_1))) ((a1)) ((a2) - (a1)) ((a3)) xp xh ∧ nS4n (shf ((w10)) ((u2_1))) xp (((a2) - (a1)) % 16 / 4).toNat (adI xh ((a2) - (a1))) = nS4n (shf ((w10)) ((u2_1))) (((x112_6 + 4))) (((a2) - ((x112_6 + 4))) / 4).toNat (((muI (z39) (668265263)))) := by obtain ⟨xp, xh, q1, q2⟩ := j112_q; exact ⟨xp, xh, q1, q2.trans (nS4n_s (by omega) (nS4_l w5 r5_ rfl) (by omega))⟩
          exact ih112 _ (msE hm112 q_813 (q_814 b26)) _ σ _ _ ((muI (z39) (668265263))) ((x112_6 + 4)) ((x112_7 + 1)) (rk_o (rk_o (rk_o (l112_0) rfl rfl) rfl rfl) rfl rfl) (rk_o (rk_o (rk_o (l112_2) rfl rfl) rfl rfl) rfl rfl) (rk_o (rk_o (rk_s) rfl rfl) rfl rfl) (rk_o (rk_s) rfl rfl) (rk_s) H (SF_trans (SF_trans (hS_112) hS30 (any_sub rfl)) hS37 (any_sub rfl)) (SA_trans (SA_trans (hA_112) hA31 (any_subA rfl)) hA38 (any_subA rfl))   (show inr ((muI (z39) (668265263))) from g40) (show inr ((x112_6 + 4)) from q_618 b27 h4 j112_1) (show inr ((x112_7 + 1)) from q_812 b26 j112_4) (show (a1) ≤ ((x112_6 + 4)) ∧ ((x112_6 + 4)) ≤ (a2) from q_584 b27 j112_3) (show 0 ≤ ((x112_7 + 1)) ∧ ((x112_7 + 1)) ≤ 3 from q_811 b26 j112_4) (show (a2) - ((x112_6 + 4)) ≤ 15 - 4 * ((x112_7 + 1)) from q_810 j112_5) (show ((a2) - ((x112_6 + 4))) % 4 = ((a2) - (a1)) % 4 by omega) (show ∃ xp xh, NS1 (shf ((w10)) ((u2_1))) ((a1)) ((a2) - (a1)) ((a3)) xp xh ∧ nS4n (shf ((w10)) ((u2_1))) xp (((a2) - (a1)) % 16 / 4).toNat (adI xh ((a2) - (a1))) = nS4n (shf ((w10)) ((u2_1))) (((x112_6 + 4))) (((a2) - ((x112_6 + 4))) / 4).toNat (((muI (z39) (668265263)))) by assumption) rfl
  refine Ew_of (pcₚ := 16) (fun _ => x_iload rfl (rk_o (rk_o (rk_s) rfl rfl) rfl rfl)) ?_
  refine Ew_of (pcₚ := 18) (fun _ => x_bipush (z := 16) rfl (by decide)) ?_
  refine w_icmplt (t := 102) rfl rfl (show inr ((a2 - a1)) from q_614 h4) (show inr (16) from q_345) (fun b41 => ?_) (fun b41 => ?_)
  · have : NS1 (shf ((w10)) ((u2_1))) ((a1)) ((a2) - (a1)) ((a3)) ((a1)) (((adI (a3) (374761393)))) := by exact NS1_n (by omega) (by omega) (by omega) (by rfl)
    exact hc102  _ σ _ _ ((adI (a3) (374761393))) (a1) (rk_o (rk_o (rk_o (rfl) rfl rfl) rfl rfl) rfl rfl) (rk_o (rk_o (rk_o (rfl) rfl rfl) rfl rfl) rfl rfl) (rk_o (rk_o (rk_s) rfl rfl) rfl rfl) (rk_o (rk_s) rfl rfl) (rk_s) H (SF_refl) (SA_refl)   (show inr ((adI (a3) (374761393))) from g2) (show inr (a1) from h0) (show (a1) ≤ (a1) ∧ (a1) ≤ (a2) from q_619 h4) (show NS1 (shf ((w10)) ((u2_1))) ((a1)) ((a2) - (a1)) ((a3)) ((a1)) (((adI (a3) (374761393)))) by assumption)
  · refine Ew_of (pcₚ := 22) (fun _ => x_aload_n rfl (rk_o (rk_o (rk_o (rfl) rfl rfl) rfl rfl) rfl rfl)) ?_
    refine Ew_of (pcₚ := 23) (fun _ => x_iload_n rfl (rk_o (rk_o (rk_o (rfl) rfl rfl) rfl rfl) rfl rfl)) ?_
    refine Ew_of (pcₚ := 25) (fun _ => x_ldc (z := -1640531535) rfl (by decide)) ?_
    refine w_iaddE rfl ?_
    have g42 : inr (adI (a3) ((-1640531535))) := toI_inr _
    refine Ew_of (pcₚ := 28) (fun _ => x_ldc (z := -2048144777) rfl (by decide)) ?_
    refine w_iaddE rfl ?_
    have g43 : inr (adI ((adI (a3) ((-1640531535)))) ((-2048144777))) := toI_inr _
    refine Ew_of (pcₚ := 30) (fun _ => x_iload_n rfl (rk_o (rk_o (rk_o (rfl) rfl rfl) rfl rfl) rfl rfl)) ?_
    refine Ew_of (pcₚ := 31) (fun _ => x_iload_n rfl (rk_o (rk_o (rk_o (rfl) rfl rfl) rfl rfl) rfl rfl)) ?_
    refine Ew_of (pcₚ := 32) (fun _ => x_iconst rfl) ?_
    refine w_inv H (o := 2) rfl rfl rfl (H.perm 2 rfl) rfl rfl (by rfl) (M308 H (u2_1) ((eu2_1)) (w10) (ew10) (show inr ((adI ((adI (a3) ((-1640531535)))) ((-2048144777)))) from g43) (show inr (a1) from h0) (show inr (a2) from h1) (show inr (0) from q_2) (show 0 ≤ (u2_1) ∧ (u2_1) ≤ 196608 from h3) (show 0 ≤ (a1) ∧ (a1) ≤ (a2) ∧ (a2) ≤ 65536 ∧ 0 ≤ (0) ∧ (0) ≤ 3 from q_796 h4) (fun z48 σ F44 A45 H hS46 hA47 pz48_0 pz48_1 => ⟨rfl, ?_⟩))
    have L1_ := pz48_1
    refine Ew_of (pcₚ := 36) (fun _ => x_iconst rfl) ?_
    refine w_stat24 rfl rfl (by rfl) (M307 H (show inr (z48) from pz48_0) (show inr (1) from q_135) (show 0 ≤ (1) ∧ (1) ≤ 32 from q_815) (fun z53 σ F49 A50 H hS51 hA52 pz53_0 pz53_1 => ⟨rfl, ?_⟩))
    have r1_ := pz53_1
    refine Ew_of (pcₚ := 40) (fun _ => x_aload_n rfl (rk_o (rk_o (rk_o (rfl) rfl rfl) rfl rfl) rfl rfl)) ?_
    refine Ew_of (pcₚ := 41) (fun _ => x_iload_n rfl (rk_o (rk_o (rk_o (rfl) rfl rfl) rfl rfl) rfl rfl)) ?_
    refine Ew_of (pcₚ := 43) (fun _ => x_ldc (z := -2048144777) rfl (by decide)) ?_
    refine w_iaddE rfl ?_
    have g54 : inr (adI (a3) ((-2048144777))) := toI_inr _
    refine Ew_of (pcₚ := 45) (fun _ => x_iload_n rfl (rk_o (rk_o (rk_o (rfl) rfl rfl) rfl rfl) rfl rfl)) ?_
    refine Ew_of (pcₚ := 46) (fun _ => x_iload_n rfl (rk_o (rk_o (rk_o (rfl) rfl rfl) rfl rfl) rfl rfl)) ?_
    refine Ew_of (pcₚ := 47) (fun _ => x_iconst rfl) ?_
    refine w_inv H (o := 2) rfl rfl rfl (H.perm 2 rfl) rfl rfl (by rfl) (M308 H (u2_1) ((((hS51 2 1 rfl).trans (hS46 2 1 rfl)).trans (eu2_1))) (w10) ((funext (hA52 10 rfl)).trans ((funext (hA47 10 rfl)).trans (ew10))) (show inr ((adI (a3) ((-2048144777)))) from g54) (show inr (a1) from h0) (show inr (a2) from h1) (show inr (1) from q_135) (show 0 ≤ (u2_1) ∧ (u2_1) ≤ 196608 from h3) (show 0 ≤ (a1) ∧ (a1) ≤ (a2) ∧ (a2) ≤ 65536 ∧ 0 ≤ (1) ∧ (1) ≤ 3 from q_797 h4) (fun z59 σ F55 A56 H hS57 hA58 pz59_0 pz59_1 => ⟨rfl, ?_⟩))
    have L2_ := pz59_1
    refine Ew_of (pcₚ := 52) (fun _ => x_bipush (z := 7) rfl (by decide)) ?_
    refine w_stat24 rfl rfl (by rfl) (M307 H (show inr (z59) from pz59_0) (show inr (7) from q_597) (show 0 ≤ (7) ∧ (7) ≤ 32 from q_816) (fun z64 σ F60 A61 H hS62 hA63 pz64_0 pz64_1 => ⟨rfl, ?_⟩))
    have r2_ := pz64_1
    refine w_iaddE rfl ?_
    have g65 : inr (adI (z53) (z64)) := toI_inr _
    refine Ew_of (pcₚ := 58) (fun _ => x_istore rfl) ?_
    refine Ew_of (pcₚ := 60) (fun _ => x_iload rfl rk_s) ?_
    refine Ew_of (pcₚ := 61) (fun _ => x_aload_n rfl (rk_o (rk_o (rk_o (rk_o (rfl) rfl rfl) rfl rfl) rfl rfl) rfl rfl)) ?_
    refine Ew_of (pcₚ := 62) (fun _ => x_iload_n rfl (rk_o (rk_o (rk_o (rk_o (rfl) rfl rfl) rfl rfl) rfl rfl) rfl rfl)) ?_
    refine Ew_of (pcₚ := 63) (fun _ => x_iload_n rfl (rk_o (rk_o (rk_o (rk_o (rfl) rfl rfl) rfl rfl) rfl rfl) rfl rfl)) ?_
    refine Ew_of (pcₚ := 64) (fun _ => x_iload_n rfl (rk_o (rk_o (rk_o (rk_o (rfl) rfl rfl) rfl rfl) rfl rfl) rfl rfl)) ?_
    refine Ew_of (pcₚ := 65) (fun _ => x_iconst rfl) ?_
    refine w_inv H (o := 2) rfl rfl rfl (H.perm 2 rfl) rfl rfl (by rfl) (M308 H (u2_1) ((((((hS62 2 1 rfl).trans (hS57 2 1 rfl)).trans (hS51 2 1 rfl)).trans (hS46 2 1 rfl)).trans (eu2_1))) (w10) ((funext (hA63 10 rfl)).trans ((funext (hA58 10 rfl)).trans ((funext (hA52 10 rfl)).trans ((funext (hA47 10 rfl)).trans (ew10))))) (show inr (a3) from h2) (show inr (a1) from h0) (show inr (a2) from h1) (show inr (2) from q_122) (show 0 ≤ (u2_1) ∧ (u2_1) ≤ 196608 from h3) (show 0 ≤ (a1) ∧ (a1) ≤ (a2) ∧ (a2) ≤ 65536 ∧ 0 ≤ (2) ∧ (2) ≤ 3 from q_798 h4) (fun z70 σ F66 A67 H hS68 hA69 pz70_0 pz70_1 => ⟨rfl, ?_⟩))
    have L3_ := pz70_1
    refine Ew_of (pcₚ := 70) (fun _ => x_bipush (z := 12) rfl (by decide)) ?_
    refine w_stat24 rfl rfl (by rfl) (M307 H (show inr (z70) from pz70_0) (show inr (12) from q_599) (show 0 ≤ (12) ∧ (12) ≤ 32 from q_817) (fun z75 σ F71 A72 H hS73 hA74 pz75_0 pz75_1 => ⟨rfl, ?_⟩))
    have r3_ := pz75_1
    refine Ew_of (pcₚ := 74) (fun _ => x_aload_n rfl (rk_o (rk_o (rk_o (rk_o (rfl) rfl rfl) rfl rfl) rfl rfl) rfl rfl)) ?_
    refine Ew_of (pcₚ := 75) (fun _ => x_iload_n rfl (rk_o (rk_o (rk_o (rk_o (rfl) rfl rfl) rfl rfl) rfl rfl) rfl rfl)) ?_
    refine Ew_of (pcₚ := 77) (fun _ => x_ldc (z := -1640531535) rfl (by decide)) ?_
    refine w_isubE rfl ?_
    have g76 : inr (sbI (a3) ((-1640531535))) := toI_inr _
    refine Ew_of (pcₚ := 79) (fun _ => x_iload_n rfl (rk_o (rk_o (rk_o (rk_o (rfl) rfl rfl) rfl rfl) rfl rfl) rfl rfl)) ?_
    refine Ew_of (pcₚ := 80) (fun _ => x_iload_n rfl (rk_o (rk_o (rk_o (rk_o (rfl) rfl rfl) rfl rfl) rfl rfl) rfl rfl)) ?_
    refine Ew_of (pcₚ := 81) (fun _ => x_iconst rfl) ?_
    refine w_inv H (o := 2) rfl rfl rfl (H.perm 2 rfl) rfl rfl (by rfl) (M308 H (u2_1) ((((((((hS73 2 1 rfl).trans (hS68 2 1 rfl)).trans (hS62 2 1 rfl)).trans (hS57 2 1 rfl)).trans (hS51 2 1 rfl)).trans (hS46 2 1 rfl)).trans (eu2_1))) (w10) ((funext (hA74 10 rfl)).trans ((funext (hA69 10 rfl)).trans ((funext (hA63 10 rfl)).trans ((funext (hA58 10 rfl)).trans ((funext (hA52 10 rfl)).trans ((funext (hA47 10 rfl)).trans (ew10))))))) (show inr ((sbI (a3) ((-1640531535)))) from g76) (show inr (a1) from h0) (show inr (a2) from h1) (show inr (3) from q_246) (show 0 ≤ (u2_1) ∧ (u2_1) ≤ 196608 from h3) (show 0 ≤ (a1) ∧ (a1) ≤ (a2) ∧ (a2) ≤ 65536 ∧ 0 ≤ (3) ∧ (3) ≤ 3 from q_799 h4) (fun z81 σ F77 A78 H hS79 hA80 pz81_0 pz81_1 => ⟨rfl, ?_⟩))
    have L4_ := pz81_1
    refine Ew_of (pcₚ := 86) (fun _ => x_bipush (z := 18) rfl (by decide)) ?_
    refine w_stat24 rfl rfl (by rfl) (M307 H (show inr (z81) from pz81_0) (show inr (18) from q_601) (show 0 ≤ (18) ∧ (18) ≤ 32 from q_818) (fun z86 σ F82 A83 H hS84 hA85 pz86_0 pz86_1 => ⟨rfl, ?_⟩))
    have r4_ := pz86_1
    refine w_iaddE rfl ?_
    have g87 : inr (adI (z75) (z86)) := toI_inr _
    refine w_iaddE rfl ?_
    have g88 : inr (adI ((adI (z53) (z64))) ((adI (z75) (z86)))) := toI_inr _
    refine Ew_of (pcₚ := 93) (fun _ => x_istore rfl) ?_
    refine Ew_of (pcₚ := 94) (fun _ => x_iload_n rfl (rk_o (rk_o (rk_o (rk_o (rk_o (rfl) rfl rfl) rfl rfl) rfl rfl) rfl rfl) rfl rfl)) ?_
    refine Ew_of (pcₚ := 96) (fun _ => x_iload rfl (rk_o (rk_o (rk_o (rk_o (rk_s) rfl rfl) rfl rfl) rfl rfl) rfl rfl)) ?_
    refine Ew_of (pcₚ := 98) (fun _ => x_bipush (z := 16) rfl (by decide)) ?_
    refine w_irem rfl (show inr ((a2 - a1)) ∧ 0 ≤ (a2 - a1) from q_819 b41 h4) (show inr (16) ∧ 0 < 16 from q_514) ?_
    refine w_isub rfl ?_
    refine Ew_of (pcₚ := 102) (fun _ => x_istore rfl) ?_
    have : NS1 (shf ((w10)) ((u2_1))) ((a1)) ((a2) - (a1)) ((a3)) (((a2 - ((a2 - a1) % 16)))) (((adI ((adI (z53) (z64))) ((adI (z75) (z86)))))) := by (rw [adI_assoc]; exact NS1_y (by omega) (by omega) (nLn_p L1_.symm (by omega)) (nLn_p L2_.symm (by omega)) (nLn_p L3_.symm (by omega)) (nLn_p L4_.symm (by omega)) r1_ r2_ r3_ r4_)
    exact hc102  _ σ _ _ ((adI ((adI (z53) (z64))) ((adI (z75) (z86))))) ((a2 - ((a2 - a1) % 16))) (rk_o (rk_o (rk_o (rk_o (rk_o (rk_o (rfl) rfl rfl) rfl rfl) rfl rfl) rfl rfl) rfl rfl) rfl rfl) (rk_o (rk_o (rk_o (rk_o (rk_o (rk_o (rfl) rfl rfl) rfl rfl) rfl rfl) rfl rfl) rfl rfl) rfl rfl) (rk_o (rk_o (rk_o (rk_o (rk_o (rk_s) rfl rfl) rfl rfl) rfl rfl) rfl rfl) rfl rfl) (rk_o (rk_s) rfl rfl) (rk_s) H (SF_trans (SF_trans (SF_trans (SF_trans (SF_trans (SF_trans (SF_trans (SF_trans (SF_refl) hS46 (any_sub rfl)) hS51 (any_sub rfl)) hS57 (any_sub rfl)) hS62 (any_sub rfl)) hS68 (any_sub rfl)) hS73 (any_sub rfl)) hS79 (any_sub rfl)) hS84 (any_sub rfl)) (SA_trans (SA_trans (SA_trans (SA_trans (SA_trans (SA_trans (SA_trans (SA_trans (SA_refl) hA47 (any_subA rfl)) hA52 (any_subA rfl)) hA58 (any_subA rfl)) hA63 (any_subA rfl)) hA69 (any_subA rfl)) hA74 (any_subA rfl)) hA80 (any_subA rfl)) hA85 (any_subA rfl))   (show inr ((adI ((adI (z53) (z64))) ((adI (z75) (z86))))) from g88) (show inr ((a2 - ((a2 - a1) % 16))) from q_821 b41 h4) (show (a1) ≤ ((a2 - ((a2 - a1) % 16))) ∧ ((a2 - ((a2 - a1) % 16))) ≤ (a2) from q_820 b41) (show NS1 (shf ((w10)) ((u2_1))) ((a1)) ((a2) - (a1)) ((a3)) (((a2 - ((a2 - a1) % 16)))) (((adI ((adI (z53) (z64))) ((adI (z75) (z86)))))) by assumption)

theorem M314 {σ0 σ : rS} {D N : Nat → Nat} {F : hF} {A : hA} {d c s : Nat} {Q : wQ} (H : HS σ0 σ D N F A) {a1 a2 a3 : Int} (u2_1 : Int) (eu2_1 : F 2 1 = u2_1) (w10 : Int → Int) (ew10 : A 10 = w10) (h0 : inr (a1)) (h1 : inr (a2)) (h2 : inrJ (a3)) (h3 : 0 ≤ (u2_1) ∧ (u2_1) ≤ 196608) (h4 : 0 ≤ (a1) ∧ (a1) ≤ (a2) ∧ (a2) ≤ 65536) (k : ∀ (z : Int) σ Fₚ Aₚ, HS σ0 σ D N Fₚ Aₚ → SF [] F Fₚ → SA [] A Aₚ → (inrJ (z)) → ((z) = WDS (shf ((w10)) ((u2_1))) ((a1)) ((a2) - (a1)) ((a3))) → Q (some (J z)) σ c s) : Ew 314 (d + 4) 0 (rargs 0 [.ref (D 2), I a1, I a2, J a3]) [] σ c s Q := by
  have r1 : (-2147483648 : Int) ≤ u2_1 ∧ u2_1 ≤ 2147483647 := rngE (show (-2147483648 : Int) ≤ F 2 1 ∧ F 2 1 ≤ 2147483647 from H.frng 2 1) (show F 2 1 = u2_1 from (eu2_1))
  refine Ew_of (pcₚ := 1) (fun _ => x_iload_n rfl rfl) ?_
  refine Ew_of (pcₚ := 2) (fun _ => x_iload_n rfl rfl) ?_
  refine w_isub rfl ?_
  refine Ew_of (pcₚ := 5) (fun _ => x_istore rfl) ?_
  have hc27 : ∀ (tc27_0 : Int), ∀ (ls : rO) (σ : rS) (F_c27 : hF) (A_c27 : hA) , rlook ls 0 = some (.ref (D 2)) → rlook ls 1 = some (I (a1)) → rlook ls 2 = some (I (a2)) → rlook ls 5 = some (I ((a2 - a1))) → HS σ0 σ D N F_c27 A_c27 → SF [] F F_c27 → SA [] A A_c27 → (inrJ (tc27_0)) → ((tc27_0) = WTI (shf ((w10)) ((u2_1))) ((a1)) ((a2) - (a1)) ((a3))) → Ew 314 (d + 4) 27 ls [J (tc27_0)] σ c s Q := by
   as_aux_lemma =>
    intro tc27_0 ls σ F_c27 A_c27  lc27_0 lc27_1 lc27_2 lc27_5 H hS_c27 hA_c27   jc27_0 jc27_1
    have hw27 : (tc27_0) = WTI (shf ((w10)) ((u2_1))) ((a1)) ((a2) - (a1)) ((a3)) := jc27_1
    refine Ew_of (pcₚ := 29) (fun _ => x_lstore rfl) ?_
    have hc47 : ∀ (tc47_0 : Int), ∀ (ls : rO) (σ : rS) (F_c47 : hF) (A_c47 : hA) , rlook ls 0 = some (.ref (D 2)) → rlook ls 2 = some (I (a2)) → rlook ls 5 = some (I ((a2 - a1))) → rlook ls 6 = some (J (tc27_0)) → HS σ0 σ D N F_c47 A_c47 → SF [] F_c27 F_c47 → SA [] A_c27 A_c47 → (inr (tc47_0)) → ((tc47_0) = (a2) - ((a2) - (a1)) % 32) → Ew 314 (d + 4) 47 ls [I (tc47_0)] σ c s Q := by
     as_aux_lemma =>
      intro tc47_0 ls σ F_c47 A_c47  lc47_0 lc47_2 lc47_5 lc47_6 H hS_c47 hA_c47   jc47_0 jc47_1
      refine Ew_of (pcₚ := 49) (fun _ => x_istore rfl) ?_
      refine Ew_of (pcₚ := 51) (fun _ => x_lload rfl (rk_o (lc47_6) rfl rfl)) ?_
      refine Ew_of (pcₚ := 53) (fun _ => x_iload rfl (rk_o (lc47_5) rfl rfl)) ?_
      refine w_i2l rfl (show inr ((a2 - a1)) from q_614 h4) ?_
      refine w_laddE rfl ?_
      have g2 : inrJ (adJ (tc27_0) ((a2 - a1))) := toJ_inr _
      refine Ew_of (pcₚ := 57) (fun _ => x_lstore rfl) ?_
      refine Ew_of (pcₚ := 58) (fun _ => x_iconst rfl) ?_
      refine Ew_of (pcₚ := 60) (fun _ => x_istore rfl) ?_
      have : WRI8 (shf ((w10)) ((u2_1))) ((a2) - ((a2) - (a1)) % 32) ((a2)) (adJ (WTI (shf ((w10)) ((u2_1))) ((a1)) ((a2) - (a1)) ((a3))) ((a2) - (a1))) ((tc47_0)) (((adJ (tc27_0) ((a2 - a1))))) := WRI8_i (by omega) (by rw [hw27]) (by omega)
      suffices hl60 : ∀ (m : Nat), ∀ (ls : rO) (σ : rS) (F_60 : hF) (A_60 : hA) (x60_6 : Int) (x60_8 : Int) (x60_9 : Int), rlook ls 0 = some (.ref (D 2)) → rlook ls 2 = some (I (a2)) → rlook ls 6 = some (J (x60_6)) → rlook ls 8 = some (I (x60_8)) → rlook ls 9 = some (I (x60_9)) → HS σ0 σ D N F_60 A_60 → SF [] F_c47 F_60 → SA [] A_c47 A_60 → (inrJ (x60_6)) → (inr (x60_8)) → (inr (x60_9)) → ((a1) ≤ (x60_8) ∧ (x60_8) ≤ (a2)) → (0 ≤ (x60_9) ∧ (x60_9) ≤ 3) → ((a2) - (x60_8) ≤ 31 - 8 * (x60_9)) → (WRI8 (shf ((w10)) ((u2_1))) ((a2) - ((a2) - (a1)) % 32) ((a2)) (adJ (WTI (shf ((w10)) ((u2_1))) ((a1)) ((a2) - (a1)) ((a3))) ((a2) - (a1))) ((x60_8)) ((x60_6))) → (3 - (x60_9)).toNat = m → Ew 314 (d + 4) 60 ls [] σ c s Q from
        hl60 _ _ σ _ _ ((adJ (tc27_0) ((a2 - a1)))) (tc47_0) (0) (rk_o (rk2_o (rk_o (lc47_0) rfl rfl) rfl rfl) rfl rfl) (rk_o (rk2_o (rk_o (lc47_2) rfl rfl) rfl rfl) rfl rfl) (rk_o (rk2_s) rfl rfl) (rk_o (rk2_o (rk_s) rfl rfl) rfl rfl) (rk_s) H (SF_refl) (SA_refl)   (show inrJ ((adJ (tc27_0) ((a2 - a1)))) from g2) (show inr (tc47_0) from jc47_0) (show inr (0) from q_2) (show (a1) ≤ (tc47_0) ∧ (tc47_0) ≤ (a2) by omega) (show 0 ≤ (0) ∧ (0) ≤ 3 from q_548) (show (a2) - (tc47_0) ≤ 31 - 8 * (0) from q_822 jc47_1) (show WRI8 (shf ((w10)) ((u2_1))) ((a2) - ((a2) - (a1)) % 32) ((a2)) (adJ (WTI (shf ((w10)) ((u2_1))) ((a1)) ((a2) - (a1)) ((a3))) ((a2) - (a1))) ((tc47_0)) (((adJ (tc27_0) ((a2 - a1))))) by assumption) rfl
      as_aux_lemma =>
      intro m
      induction m using Nat.strongRecOn with
      | _ m ih60 =>
        intro ls σ F_60 A_60 x60_6 x60_8 x60_9 l60_0 l60_2 l60_6 l60_8 l60_9 H hS_60 hA_60   j60_0 j60_1 j60_2 j60_3 j60_4 j60_5 j60_6 hm60
        have j60_q : WRI8 (shf ((w10)) ((u2_1))) ((a2) - ((a2) - (a1)) % 32) ((a2)) (adJ (WTI (shf ((w10)) ((u2_1))) ((a1)) ((a2) - (a1)) ((a3))) ((a2) - (a1))) ((x60_8)) ((x60_6)) := j60_6
        refine Ew_of (pcₚ := 62) (fun _ => x_iload rfl l60_9) ?_
        refine Ew_of (pcₚ := 63) (fun _ => x_iconst rfl) ?_
        have hc123 : ∀ (ls : rO) (σ : rS) (F_c123 : hF) (A_c123 : hA) , rlook ls 0 = some (.ref (D 2)) → rlook ls 2 = some (I (a2)) → rlook ls 6 = some (J (x60_6)) → rlook ls 8 = some (I (x60_8)) → HS σ0 σ D N F_c123 A_c123 → SF [] F_60 F_c123 → SA [] A_60 A_c123 → (((x60_9) ≥ (3)) ∨ ((x60_9) < (3) ∧ ((a2 - x60_8)) < (8))) → Ew 314 (d + 4) 123 ls [] σ c s Q := by
         as_aux_lemma =>
          intro  ls σ F_c123 A_c123  lc123_0 lc123_2 lc123_6 lc123_8 H hS_c123 hA_c123   jc123_0
          have hc163 : ∀ (ls : rO) (σ : rS) (F_c163 : hF) (A_c163 : hA) (xc163_6 : Int) (xc163_8 : Int), rlook ls 0 = some (.ref (D 2)) → rlook ls 2 = some (I (a2)) → rlook ls 6 = some (J (xc163_6)) → rlook ls 8 = some (I (xc163_8)) → HS σ0 σ D N F_c163 A_c163 → SF [] F_c123 F_c163 → SA [] A_c123 A_c163 → (inrJ (xc163_6)) → (inr (xc163_8)) → ((a1) ≤ (xc163_8) ∧ (xc163_8) ≤ (a2)) → (WRI1 (shf ((w10)) ((u2_1))) ((a2) - ((a2) - (a1)) % 32) ((a2)) (adJ (WTI (shf ((w10)) ((u2_1))) ((a1)) ((a2) - (a1)) ((a3))) ((a2) - (a1))) ((xc163_8)) ((xc163_6))) → Ew 314 (d + 4) 163 ls [] σ c s Q := by
           as_aux_lemma =>
            intro  ls σ F_c163 A_c163 xc163_6 xc163_8 lc163_0 lc163_2 lc163_6 lc163_8 H hS_c163 hA_c163   jc163_0 jc163_1 jc163_2 jc163_3
            refine Ew_of (pcₚ := 165) (fun _ => x_iload rfl lc163_8) ?_
            refine Ew_of (pcₚ := 167) (fun _ => x_istore rfl) ?_
            have : WRI1 (shf ((w10)) ((u2_1))) ((a2) - ((a2) - (a1)) % 32) ((a2)) (adJ (WTI (shf ((w10)) ((u2_1))) ((a1)) ((a2) - (a1)) ((a3))) ((a2) - (a1))) ((xc163_8)) ((xc163_6)) := by assumption
            suffices hl167 : ∀ (m : Nat), ∀ (ls : rO) (σ : rS) (F_167 : hF) (A_167 : hA) (x167_6 : Int) (x167_9 : Int), rlook ls 0 = some (.ref (D 2)) → rlook ls 2 = some (I (a2)) → rlook ls 6 = some (J (x167_6)) → rlook ls 9 = some (I (x167_9)) → HS σ0 σ D N F_167 A_167 → SF [] F_c163 F_167 → SA [] A_c163 A_167 → (inrJ (x167_6)) → (inr (x167_9)) → ((xc163_8) ≤ (x167_9)) → ((x167_9) ≤ (xc163_8) ∨ (x167_9) ≤ ((a2))) → (WRI1 (shf ((w10)) ((u2_1))) ((a2) - ((a2) - (a1)) % 32) ((a2)) (adJ (WTI (shf ((w10)) ((u2_1))) ((a1)) ((a2) - (a1)) ((a3))) ((a2) - (a1))) ((x167_9)) ((x167_6))) → (((a2)) - (x167_9)).toNat = m → Ew 314 (d + 4) 167 ls [] σ c s Q from
              hl167 _ _ σ _ _ (xc163_6) (xc163_8) (rk_o (lc163_0) rfl rfl) (rk_o (lc163_2) rfl rfl) (rk_o (lc163_6) rfl rfl) (rk_s) H (SF_refl) (SA_refl)   (show inrJ (xc163_6) from jc163_0) (show inr (xc163_8) from jc163_1) (show (xc163_8) ≤ (xc163_8) from q_43) (show (xc163_8) ≤ (xc163_8) ∨ (xc163_8) ≤ ((a2)) from q_156) (jc163_3) rfl
            as_aux_lemma =>
            intro m
            induction m using Nat.strongRecOn with
            | _ m ih167 =>
              intro ls σ F_167 A_167 x167_6 x167_9 l167_0 l167_2 l167_6 l167_9 H hS_167 hA_167   j167_0 j167_1 j167_2 j167_3 j167_4 hm167
              have j167_q : WRI1 (shf ((w10)) ((u2_1))) ((a2) - ((a2) - (a1)) % 32) ((a2)) (adJ (WTI (shf ((w10)) ((u2_1))) ((a1)) ((a2) - (a1)) ((a3))) ((a2) - (a1))) ((x167_9)) ((x167_6)) := j167_4
              refine Ew_of (pcₚ := 169) (fun _ => x_iload rfl l167_9) ?_
              refine Ew_of (pcₚ := 170) (fun _ => x_iload_n rfl l167_2) ?_
              refine w_icmpge (t := 204) rfl rfl (show inr (x167_9) from j167_1) (show inr (a2) from h1) (fun b3 => ?_) (fun b3 => ?_)
              · refine Ew_of (pcₚ := 206) (fun _ => x_lload rfl l167_6) ?_
                refine Ew_of (pcₚ := 208) (fun _ => x_lload rfl l167_6) ?_
                refine Ew_of (pcₚ := 210) (fun _ => x_bipush (z := 33) rfl (by decide)) ?_
                refine w_lushrE rfl ?_
                have g4 : inrJ (usJ (x167_6) (33)) := toJ_inr _
                refine w_lxorE rfl ?_
                have g5 : inrJ (xoJ (x167_6) ((usJ (x167_6) (33)))) := toJ_inr _
                refine Ew_of (pcₚ := 215) (fun _ => x_ldc2 (z := -4417276706812531889) rfl (by decide)) ?_
                refine w_lmulE rfl ?_
                have g6 : inrJ (muJ ((xoJ (x167_6) ((usJ (x167_6) (33))))) ((-4417276706812531889))) := toJ_inr _
                refine Ew_of (pcₚ := 218) (fun _ => x_lstore rfl) ?_
                refine Ew_of (pcₚ := 220) (fun _ => x_lload rfl rk2_s) ?_
                refine Ew_of (pcₚ := 222) (fun _ => x_lload rfl rk2_s) ?_
                refine Ew_of (pcₚ := 224) (fun _ => x_bipush (z := 29) rfl (by decide)) ?_
                refine w_lushrE rfl ?_
                have g7 : inrJ (usJ ((muJ ((xoJ (x167_6) ((usJ (x167_6) (33))))) ((-4417276706812531889)))) (29)) := toJ_inr _
                refine w_lxorE rfl ?_
                have g8 : inrJ (xoJ ((muJ ((xoJ (x167_6) ((usJ (x167_6) (33))))) ((-4417276706812531889)))) ((usJ ((muJ ((xoJ (x167_6) ((usJ (x167_6) (33))))) ((-4417276706812531889)))) (29)))) := toJ_inr _
                refine Ew_of (pcₚ := 229) (fun _ => x_ldc2 (z := 1609587929392839161) rfl (by decide)) ?_
                refine w_lmulE rfl ?_
                have g9 : inrJ (muJ ((xoJ ((muJ ((xoJ (x167_6) ((usJ (x167_6) (33))))) ((-4417276706812531889)))) ((usJ ((muJ ((xoJ (x167_6) ((usJ (x167_6) (33))))) ((-4417276706812531889)))) (29))))) (1609587929392839161)) := toJ_inr _
                refine Ew_of (pcₚ := 232) (fun _ => x_lstore rfl) ?_
                refine Ew_of (pcₚ := 234) (fun _ => x_lload rfl rk2_s) ?_
                refine Ew_of (pcₚ := 236) (fun _ => x_lload rfl rk2_s) ?_
                refine Ew_of (pcₚ := 238) (fun _ => x_bipush (z := 32) rfl (by decide)) ?_
                refine w_lushrE rfl ?_
                have g10 : inrJ (usJ ((muJ ((xoJ ((muJ ((xoJ (x167_6) ((usJ (x167_6) (33))))) ((-4417276706812531889)))) ((usJ ((muJ ((xoJ (x167_6) ((usJ (x167_6) (33))))) ((-4417276706812531889)))) (29))))) (1609587929392839161))) (32)) := toJ_inr _
                refine w_lxorE rfl ?_
                have g11 : inrJ (xoJ ((muJ ((xoJ ((muJ ((xoJ (x167_6) ((usJ (x167_6) (33))))) ((-4417276706812531889)))) ((usJ ((muJ ((xoJ (x167_6) ((usJ (x167_6) (33))))) ((-4417276706812531889)))) (29))))) (1609587929392839161))) ((usJ ((muJ ((xoJ ((muJ ((xoJ (x167_6) ((usJ (x167_6) (33))))) ((-4417276706812531889)))) ((usJ ((muJ ((xoJ (x167_6) ((usJ (x167_6) (33))))) ((-4417276706812531889)))) (29))))) (1609587929392839161))) (32)))) := toJ_inr _
                have : ((xoJ ((muJ ((xoJ ((muJ ((xoJ (x167_6) ((usJ (x167_6) (33))))) ((-4417276706812531889)))) ((usJ ((muJ ((xoJ (x167_6) ((usJ (x167_6) (33))))) ((-4417276706812531889)))) (29))))) (1609587929392839161))) ((usJ ((muJ ((xoJ ((muJ ((xoJ (x167_6) ((usJ (x167_6) (33))))) ((-4417276706812531889)))) ((usJ ((muJ ((xoJ (x167_6) ((usJ (x167_6) (33))))) ((-4417276706812531889)))) (29))))) (1609587929392839161))) (32))))) = WDS (shf ((w10)) ((u2_1))) ((a1)) ((a2) - (a1)) ((a3)) := WDS_w (WRI1_e j167_q (by omega)) (by omega) (by omega)
                exact w_lreturn rfl (k ((xoJ ((muJ ((xoJ ((muJ ((xoJ (x167_6) ((usJ (x167_6) (33))))) ((-4417276706812531889)))) ((usJ ((muJ ((xoJ (x167_6) ((usJ (x167_6) (33))))) ((-4417276706812531889)))) (29))))) (1609587929392839161))) ((usJ ((muJ ((xoJ ((muJ ((xoJ (x167_6) ((usJ (x167_6) (33))))) ((-4417276706812531889)))) ((usJ ((muJ ((xoJ (x167_6) ((usJ (x167_6) (33))))) ((-4417276706812531889)))) (29))))) (1609587929392839161))) (32))))) σ _ _ H (SF_trans (SF_trans (SF_trans (SF_trans (SF_trans (SF_trans (SF_refl) hS_c27 (any_sub rfl)) hS_c47 (any_sub rfl)) hS_60 (any_sub rfl)) hS_c123 (any_sub rfl)) hS_c163 (any_sub rfl)) hS_167 (any_sub rfl)) (SA_trans (SA_trans (SA_trans (SA_trans (SA_trans (SA_trans (SA_refl) hA_c27 (any_subA rfl)) hA_c47 (any_subA rfl)) hA_60 (any_subA rfl)) hA_c123 (any_subA rfl)) hA_c163 (any_subA rfl)) hA_167 (any_subA rfl)) (show inrJ ((xoJ ((muJ ((xoJ ((muJ ((xoJ (x167_6) ((usJ (x167_6) (33))))) ((-4417276706812531889)))) ((usJ ((muJ ((xoJ (x167_6) ((usJ (x167_6) (33))))) ((-4417276706812531889)))) (29))))) (1609587929392839161))) ((usJ ((muJ ((xoJ ((muJ ((xoJ (x167_6) ((usJ (x167_6) (33))))) ((-4417276706812531889)))) ((usJ ((muJ ((xoJ (x167_6) ((usJ (x167_6) (33))))) ((-4417276706812531889)))) (29))))) (1609587929392839161))) (32))))) from g11) (show ((xoJ ((muJ ((xoJ ((muJ ((xoJ (x167_6) ((usJ (x167_6) (33))))) ((-4417276706812531889)))) ((usJ ((muJ ((xoJ (x167_6) ((usJ (x167_6) (33))))) ((-4417276706812531889)))) (29))))) (1609587929392839161))) ((usJ ((muJ ((xoJ ((muJ ((xoJ (x167_6) ((usJ (x167_6) (33))))) ((-4417276706812531889)))) ((usJ ((muJ ((xoJ (x167_6) ((usJ (x167_6) (33))))) ((-4417276706812531889)))) (29))))) (1609587929392839161))) (32))))) = WDS (shf ((w10)) ((u2_1))) (a1) (a2 - a1) (a3) by assumption))
              · refine Ew_of (pcₚ := 175) (fun _ => x_lload rfl l167_6) ?_
                refine Ew_of (pcₚ := 176) (fun _ => x_aload_n rfl l167_0) ?_
                refine Ew_of (pcₚ := 178) (fun _ => x_iload rfl l167_9) ?_
                refine w_inv H (o := 2) rfl rfl rfl (H.perm 2 rfl) rfl rfl (by rfl) (M305 H (u2_1) ((((((((hS_167 2 1 rfl).trans (hS_c163 2 1 rfl)).trans (hS_c123 2 1 rfl)).trans (hS_60 2 1 rfl)).trans (hS_c47 2 1 rfl)).trans (hS_c27 2 1 rfl)).trans (eu2_1))) (w10) ((funext (hA_167 10 rfl)).trans ((funext (hA_c163 10 rfl)).trans ((funext (hA_c123 10 rfl)).trans ((funext (hA_60 10 rfl)).trans ((funext (hA_c47 10 rfl)).trans ((funext (hA_c27 10 rfl)).trans (ew10))))))) (show inr (x167_9) from j167_1) (show 0 ≤ (u2_1) + (x167_9) ∧ (u2_1) + (x167_9) < 262144 ∧ 0 ≤ (u2_1) ∧ (u2_1) ≤ 262144 from q_823 b3 h3 h4 j167_2 jc163_2) (fun z16 σ F12 A13 H hS14 hA15 pz16_0 pz16_1 pz16_2 => ⟨rfl, ?_⟩))
                have hat := pz16_2
                have har := pz16_1
                refine w_i2l rfl (show inr (z16) from pz16_0) ?_
                refine Ew_of (pcₚ := 185) (fun _ => x_ldc2 (z := 2870177450012600261) rfl (by decide)) ?_
                refine w_lmulE rfl ?_
                have g17 : inrJ (muJ (z16) (2870177450012600261)) := toJ_inr _
                refine w_lxorE rfl ?_
                have g18 : inrJ (xoJ (x167_6) ((muJ (z16) (2870177450012600261)))) := toJ_inr _
                refine Ew_of (pcₚ := 189) (fun _ => x_bipush (z := 11) rfl (by decide)) ?_
                refine w_stat24 rfl rfl (by rfl) (M310 H (show inrJ ((xoJ (x167_6) ((muJ (z16) (2870177450012600261))))) from g18) (show inr (11) from q_326) (show 0 ≤ (11) ∧ (11) ≤ 64 from q_824) (fun z23 σ F19 A20 H hS21 hA22 pz23_0 pz23_1 => ⟨rfl, ?_⟩))
                have r1_ := pz23_1
                refine Ew_of (pcₚ := 195) (fun _ => x_ldc2 (z := -7046029288634856825) rfl (by decide)) ?_
                refine w_lmulE rfl ?_
                have g24 : inrJ (muJ (z23) ((-7046029288634856825))) := toJ_inr _
                refine Ew_of (pcₚ := 198) (fun _ => x_lstore rfl) ?_
                refine Ew_of (pcₚ := 201) (fun _ => x_iinc (len := 3) rfl (rk2_o (l167_9) rfl rfl)) ?_
                refine Ew_of (pcₚ := 167) (fun _ => x_goto rfl rfl) ?_
                have : WRI1 (shf ((w10)) ((u2_1))) ((a2) - ((a2) - (a1)) % 32) ((a2)) (adJ (WTI (shf ((w10)) ((u2_1))) ((a1)) ((a2) - (a1)) ((a3))) ((a2) - (a1))) (((x167_9 + 1))) (((muJ (z23) ((-7046029288634856825))))) := WRI1_s j167_q (by omega) (w1_r (show shf _ _ _ = _ from hat.symm) har r1_) (by omega)
                exact ih167 _ (msE hm167 q_16 (q_17 b3)) _ σ _ _ ((muJ (z23) ((-7046029288634856825)))) ((x167_9 + 1)) (rk_o (rk2_o (l167_0) rfl rfl) rfl rfl) (rk_o (rk2_o (l167_2) rfl rfl) rfl rfl) (rk_o (rk2_s) rfl rfl) (rk_s) H (SF_trans (SF_trans (hS_167) hS14 (any_sub rfl)) hS21 (any_sub rfl)) (SA_trans (SA_trans (hA_167) hA15 (any_subA rfl)) hA22 (any_subA rfl))   (show inrJ ((muJ (z23) ((-7046029288634856825)))) from g24) (show inr ((x167_9 + 1)) from q_361 b3 h4 j167_1) (show (xc163_8) ≤ ((x167_9 + 1)) from q_161 j167_2) (show ((x167_9 + 1)) ≤ (xc163_8) ∨ ((x167_9 + 1)) ≤ ((a2)) from q_160 b3) (show WRI1 (shf ((w10)) ((u2_1))) ((a2) - ((a2) - (a1)) % 32) ((a2)) (adJ (WTI (shf ((w10)) ((u2_1))) ((a1)) ((a2) - (a1)) ((a3))) ((a2) - (a1))) (((x167_9 + 1))) (((muJ (z23) ((-7046029288634856825))))) by assumption) rfl
          refine Ew_of (pcₚ := 124) (fun _ => x_iload_n rfl lc123_2) ?_
          refine Ew_of (pcₚ := 126) (fun _ => x_iload rfl lc123_8) ?_
          refine w_isub rfl ?_
          refine Ew_of (pcₚ := 128) (fun _ => x_iconst rfl) ?_
          refine w_icmplt (t := 163) rfl rfl (show inr ((a2 - x60_8)) from q_615 h4 j60_3) (show inr (4) from q_216) (fun b25 => ?_) (fun b25 => ?_)
          · have : WRI1 (shf ((w10)) ((u2_1))) ((a2) - ((a2) - (a1)) % 32) ((a2)) (adJ (WTI (shf ((w10)) ((u2_1))) ((a1)) ((a2) - (a1)) ((a3))) ((a2) - (a1))) ((x60_8)) ((x60_6)) := by exact WRI1_n j60_q (by omega)
            exact hc163  _ σ _ _ (x60_6) (x60_8) (lc123_0) (lc123_2) (lc123_6) (lc123_8) H (SF_refl) (SA_refl)   (show inrJ (x60_6) from j60_0) (show inr (x60_8) from j60_1) (show (a1) ≤ (x60_8) ∧ (x60_8) ≤ (a2) from j60_3) (show WRI1 (shf ((w10)) ((u2_1))) ((a2) - ((a2) - (a1)) % 32) ((a2)) (adJ (WTI (shf ((w10)) ((u2_1))) ((a1)) ((a2) - (a1)) ((a3))) ((a2) - (a1))) ((x60_8)) ((x60_6)) by assumption)
          · refine Ew_of (pcₚ := 133) (fun _ => x_lload rfl lc123_6) ?_
            refine Ew_of (pcₚ := 134) (fun _ => x_aload_n rfl lc123_0) ?_
            refine Ew_of (pcₚ := 136) (fun _ => x_iload rfl lc123_8) ?_
            refine Ew_of (pcₚ := 137) (fun _ => x_iconst rfl) ?_
            refine w_inv H (o := 2) rfl rfl rfl (H.perm 2 rfl) rfl rfl (by rfl) (M306 H (u2_1) ((((((hS_c123 2 1 rfl).trans (hS_60 2 1 rfl)).trans (hS_c47 2 1 rfl)).trans (hS_c27 2 1 rfl)).trans (eu2_1))) (w10) ((funext (hA_c123 10 rfl)).trans ((funext (hA_60 10 rfl)).trans ((funext (hA_c47 10 rfl)).trans ((funext (hA_c27 10 rfl)).trans (ew10))))) (show inr (x60_8) from j60_1) (show inr (4) from q_216) (show 0 ≤ (u2_1) ∧ (u2_1) ≤ 196608 from h3) (show 0 ≤ (x60_8) ∧ 0 ≤ (4) ∧ (4) ≤ 8 ∧ (x60_8) + (4) ≤ 65536 from q_808 b25 h4 j60_3) (fun z30 σ F26 A27 H hS28 hA29 pz30_0 pz30_1 => ⟨rfl, ?_⟩))
            have n4_ := NVQ_4 pz30_1 pz30_0
            refine Ew_of (pcₚ := 143) (fun _ => x_ldc2 (z := -7046029288634856825) rfl (by decide)) ?_
            refine w_lmulE rfl ?_
            have g31 : inrJ (muJ (z30) ((-7046029288634856825))) := toJ_inr _
            refine w_lxorE rfl ?_
            have g32 : inrJ (xoJ (x60_6) ((muJ (z30) ((-7046029288634856825))))) := toJ_inr _
            refine Ew_of (pcₚ := 147) (fun _ => x_bipush (z := 23) rfl (by decide)) ?_
            refine w_stat24 rfl rfl (by rfl) (M310 H (show inrJ ((xoJ (x60_6) ((muJ (z30) ((-7046029288634856825)))))) from g32) (show inr (23) from q_826) (show 0 ≤ (23) ∧ (23) ≤ 64 from q_825) (fun z37 σ F33 A34 H hS35 hA36 pz37_0 pz37_1 => ⟨rfl, ?_⟩))
            have r4_ := pz37_1
            refine Ew_of (pcₚ := 153) (fun _ => x_ldc2 (z := -4417276706812531889) rfl (by decide)) ?_
            refine w_lmulE rfl ?_
            have g38 : inrJ (muJ (z37) ((-4417276706812531889))) := toJ_inr _
            refine Ew_of (pcₚ := 157) (fun _ => x_ldc2 (z := 1609587929392839161) rfl (by decide)) ?_
            refine w_laddE rfl ?_
            have g39 : inrJ (adJ ((muJ (z37) ((-4417276706812531889)))) (1609587929392839161)) := toJ_inr _
            refine Ew_of (pcₚ := 160) (fun _ => x_lstore rfl) ?_
            refine Ew_of (pcₚ := 163) (fun _ => x_iinc (len := 3) rfl (rk2_o (lc123_8) rfl rfl)) ?_
            have : WRI1 (shf ((w10)) ((u2_1))) ((a2) - ((a2) - (a1)) % 32) ((a2)) (adJ (WTI (shf ((w10)) ((u2_1))) ((a1)) ((a2) - (a1)) ((a3))) ((a2) - (a1))) (((x60_8 + 4))) (((adJ ((muJ (z37) ((-4417276706812531889)))) (1609587929392839161)))) := by exact WRI1_y j60_q (by omega) (w4_c n4_ r4_) (by omega)
            exact hc163  _ σ _ _ ((adJ ((muJ (z37) ((-4417276706812531889)))) (1609587929392839161))) ((x60_8 + 4)) (rk_o (rk2_o (lc123_0) rfl rfl) rfl rfl) (rk_o (rk2_o (lc123_2) rfl rfl) rfl rfl) (rk_o (rk2_s) rfl rfl) (rk_s) H (SF_trans (SF_trans (SF_refl) hS28 (any_sub rfl)) hS35 (any_sub rfl)) (SA_trans (SA_trans (SA_refl) hA29 (any_subA rfl)) hA36 (any_subA rfl))   (show inrJ ((adJ ((muJ (z37) ((-4417276706812531889)))) (1609587929392839161))) from g39) (show inr ((x60_8 + 4)) from q_618 b25 h4 j60_1) (show (a1) ≤ ((x60_8 + 4)) ∧ ((x60_8 + 4)) ≤ (a2) from q_584 b25 j60_3) (show WRI1 (shf ((w10)) ((u2_1))) ((a2) - ((a2) - (a1)) % 32) ((a2)) (adJ (WTI (shf ((w10)) ((u2_1))) ((a1)) ((a2) - (a1)) ((a3))) ((a2) - (a1))) (((x60_8 + 4))) (((adJ ((muJ (z37) ((-4417276706812531889)))) (1609587929392839161)))) by assumption)
        refine w_icmpge (t := 123) rfl rfl (show inr (x60_9) from j60_2) (show inr (3) from q_246) (fun b40 => ?_) (fun b40 => ?_)
        · exact hc123  _ σ _ _  (l60_0) (l60_2) (l60_6) (l60_8) H (SF_refl) (SA_refl)   (show ((x60_9) ≥ (3)) ∨ ((x60_9) < (3) ∧ ((a2 - x60_8)) < (8)) from q_827 b40)
        · refine Ew_of (pcₚ := 67) (fun _ => x_iload_n rfl l60_2) ?_
          refine Ew_of (pcₚ := 69) (fun _ => x_iload rfl l60_8) ?_
          refine w_isub rfl ?_
          refine Ew_of (pcₚ := 72) (fun _ => x_bipush (z := 8) rfl (by decide)) ?_
          refine w_icmplt (t := 123) rfl rfl (show inr ((a2 - x60_8)) from q_615 h4 j60_3) (show inr (8) from q_141) (fun b41 => ?_) (fun b41 => ?_)
          · exact hc123  _ σ _ _  (l60_0) (l60_2) (l60_6) (l60_8) H (SF_refl) (SA_refl)   (show ((x60_9) ≥ (3)) ∨ ((x60_9) < (3) ∧ ((a2 - x60_8)) < (8)) from q_828 b40 b41)
          · refine Ew_of (pcₚ := 77) (fun _ => x_lload rfl l60_6) ?_
            refine Ew_of (pcₚ := 78) (fun _ => x_aload_n rfl l60_0) ?_
            refine Ew_of (pcₚ := 80) (fun _ => x_iload rfl l60_8) ?_
            refine Ew_of (pcₚ := 82) (fun _ => x_bipush (z := 8) rfl (by decide)) ?_
            refine w_inv H (o := 2) rfl rfl rfl (H.perm 2 rfl) rfl rfl (by rfl) (M306 H (u2_1) (((((hS_60 2 1 rfl).trans (hS_c47 2 1 rfl)).trans (hS_c27 2 1 rfl)).trans (eu2_1))) (w10) ((funext (hA_60 10 rfl)).trans ((funext (hA_c47 10 rfl)).trans ((funext (hA_c27 10 rfl)).trans (ew10)))) (show inr (x60_8) from j60_1) (show inr (8) from q_141) (show 0 ≤ (u2_1) ∧ (u2_1) ≤ 196608 from h3) (show 0 ≤ (x60_8) ∧ 0 ≤ (8) ∧ (8) ≤ 8 ∧ (x60_8) + (8) ≤ 65536 from q_829 b41 h4 j60_3) (fun z46 σ F42 A43 H hS44 hA45 pz46_0 pz46_1 => ⟨rfl, ?_⟩))
            have n8_ := NVQ_8 pz46_1 pz46_0
            refine Ew_of (pcₚ := 88) (fun _ => x_ldc2 (z := -4417276706812531889) rfl (by decide)) ?_
            refine w_lmulE rfl ?_
            have g47 : inrJ (muJ (z46) ((-4417276706812531889))) := toJ_inr _
            refine Ew_of (pcₚ := 91) (fun _ => x_bipush (z := 31) rfl (by decide)) ?_
            refine w_stat24 rfl rfl (by rfl) (M310 H (show inrJ ((muJ (z46) ((-4417276706812531889)))) from g47) (show inr (31) from q_323) (show 0 ≤ (31) ∧ (31) ≤ 64 from q_322) (fun z52 σ F48 A49 H hS50 hA51 pz52_0 pz52_1 => ⟨rfl, ?_⟩))
            have ra_ := pz52_1
            refine Ew_of (pcₚ := 97) (fun _ => x_ldc2 (z := -7046029288634856825) rfl (by decide)) ?_
            refine w_lmulE rfl ?_
            have g53 : inrJ (muJ (z52) ((-7046029288634856825))) := toJ_inr _
            refine w_lxorE rfl ?_
            have g54 : inrJ (xoJ (x60_6) ((muJ (z52) ((-7046029288634856825))))) := toJ_inr _
            refine Ew_of (pcₚ := 101) (fun _ => x_bipush (z := 27) rfl (by decide)) ?_
            refine w_stat24 rfl rfl (by rfl) (M310 H (show inrJ ((xoJ (x60_6) ((muJ (z52) ((-7046029288634856825)))))) from g54) (show inr (27) from q_831) (show 0 ≤ (27) ∧ (27) ≤ 64 from q_830) (fun z59 σ F55 A56 H hS57 hA58 pz59_0 pz59_1 => ⟨rfl, ?_⟩))
            have rb_ := pz59_1
            refine Ew_of (pcₚ := 107) (fun _ => x_ldc2 (z := -7046029288634856825) rfl (by decide)) ?_
            refine w_lmulE rfl ?_
            have g60 : inrJ (muJ (z59) ((-7046029288634856825))) := toJ_inr _
            refine Ew_of (pcₚ := 111) (fun _ => x_ldc2 (z := -8796714831421723037) rfl (by decide)) ?_
            refine w_laddE rfl ?_
            have g61 : inrJ (adJ ((muJ (z59) ((-7046029288634856825)))) ((-8796714831421723037))) := toJ_inr _
            refine Ew_of (pcₚ := 114) (fun _ => x_lstore rfl) ?_
            refine Ew_of (pcₚ := 117) (fun _ => x_iinc (len := 3) rfl (rk2_o (l60_8) rfl rfl)) ?_
            refine Ew_of (pcₚ := 120) (fun _ => x_iinc (len := 3) rfl (rk_o (rk2_o (l60_9) rfl rfl) rfl rfl)) ?_
            refine Ew_of (pcₚ := 60) (fun _ => x_goto rfl rfl) ?_
            have : WRI8 (shf ((w10)) ((u2_1))) ((a2) - ((a2) - (a1)) % 32) ((a2)) (adJ (WTI (shf ((w10)) ((u2_1))) ((a1)) ((a2) - (a1)) ((a3))) ((a2) - (a1))) (((x60_8 + 8))) (((adJ ((muJ (z59) ((-7046029288634856825)))) ((-8796714831421723037))))) := WRI8_s j60_q (by omega) (w8_r n8_ ra_ rb_) (by omega)
            exact ih60 _ (msE hm60 q_813 (q_814 b40)) _ σ _ _ ((adJ ((muJ (z59) ((-7046029288634856825)))) ((-8796714831421723037)))) ((x60_8 + 8)) ((x60_9 + 1)) (rk_o (rk_o (rk2_o (l60_0) rfl rfl) rfl rfl) rfl rfl) (rk_o (rk_o (rk2_o (l60_2) rfl rfl) rfl rfl) rfl rfl) (rk_o (rk_o (rk2_s) rfl rfl) rfl rfl) (rk_o (rk_s) rfl rfl) (rk_s) H (SF_trans (SF_trans (SF_trans (hS_60) hS44 (any_sub rfl)) hS50 (any_sub rfl)) hS57 (any_sub rfl)) (SA_trans (SA_trans (SA_trans (hA_60) hA45 (any_subA rfl)) hA51 (any_subA rfl)) hA58 (any_subA rfl))   (show inrJ ((adJ ((muJ (z59) ((-7046029288634856825)))) ((-8796714831421723037)))) from g61) (show inr ((x60_8 + 8)) from q_834 b41 h4 j60_1) (show inr ((x60_9 + 1)) from q_812 b40 j60_4) (show (a1) ≤ ((x60_8 + 8)) ∧ ((x60_8 + 8)) ≤ (a2) from q_833 b41 j60_3) (show 0 ≤ ((x60_9 + 1)) ∧ ((x60_9 + 1)) ≤ 3 from q_811 b40 j60_4) (show (a2) - ((x60_8 + 8)) ≤ 31 - 8 * ((x60_9 + 1)) from q_832 j60_5) (show WRI8 (shf ((w10)) ((u2_1))) ((a2) - ((a2) - (a1)) % 32) ((a2)) (adJ (WTI (shf ((w10)) ((u2_1))) ((a1)) ((a2) - (a1)) ((a3))) ((a2) - (a1))) (((x60_8 + 8))) (((adJ ((muJ (z59) ((-7046029288634856825)))) ((-8796714831421723037))))) by assumption) rfl
    refine Ew_of (pcₚ := 31) (fun _ => x_iload rfl (rk2_o (lc27_5) rfl rfl)) ?_
    refine Ew_of (pcₚ := 33) (fun _ => x_bipush (z := 32) rfl (by decide)) ?_
    refine w_icmplt (t := 46) rfl rfl (show inr ((a2 - a1)) from q_614 h4) (show inr (32) from q_655) (fun b62 => ?_) (fun b62 => ?_)
    · refine Ew_of (pcₚ := 47) (fun _ => x_iload_n rfl (rk2_o (lc27_1) rfl rfl)) ?_
      exact hc47 (a1) _ σ _ _  (rk2_o (lc27_0) rfl rfl) (rk2_o (lc27_2) rfl rfl) (rk2_o (lc27_5) rfl rfl) (rk2_s) H (SF_refl) (SA_refl)   (show inr (a1) from h0) (show (a1) = (a2) - ((a2) - (a1)) % 32 by omega)
    · refine Ew_of (pcₚ := 37) (fun _ => x_iload_n rfl (rk2_o (lc27_2) rfl rfl)) ?_
      refine Ew_of (pcₚ := 39) (fun _ => x_iload rfl (rk2_o (lc27_5) rfl rfl)) ?_
      refine Ew_of (pcₚ := 41) (fun _ => x_bipush (z := 32) rfl (by decide)) ?_
      refine w_irem rfl (show inr ((a2 - a1)) ∧ 0 ≤ (a2 - a1) from q_836 b62 h4) (show inr (32) ∧ 0 < 32 from q_835) ?_
      refine w_isub rfl ?_
      refine Ew_of (pcₚ := 47) (fun _ => x_goto rfl rfl) ?_
      exact hc47 ((a2 - ((a2 - a1) % 32))) _ σ _ _  (rk2_o (lc27_0) rfl rfl) (rk2_o (lc27_2) rfl rfl) (rk2_o (lc27_5) rfl rfl) (rk2_s) H (SF_refl) (SA_refl)   (show inr ((a2 - ((a2 - a1) % 32))) from q_838 b62 h4) (show ((a2 - ((a2 - a1) % 32))) = (a2) - ((a2) - (a1)) % 32 from q_837)
  refine Ew_of (pcₚ := 7) (fun _ => x_iload rfl rk_s) ?_
  refine Ew_of (pcₚ := 9) (fun _ => x_bipush (z := 32) rfl (by decide)) ?_
  refine w_icmplt (t := 22) rfl rfl (show inr ((a2 - a1)) from q_614 h4) (show inr (32) from q_655) (fun b63 => ?_) (fun b63 => ?_)
  · refine Ew_of (pcₚ := 23) (fun _ => x_lload_n rfl (rk_o (rfl) rfl rfl)) ?_
    refine Ew_of (pcₚ := 26) (fun _ => x_ldc2 (z := 2870177450012600261) rfl (by decide)) ?_
    refine w_laddE rfl ?_
    have g64 : inrJ (adJ (a3) (2870177450012600261)) := toJ_inr _
    have : ((adJ (a3) (2870177450012600261))) = WTI (shf ((w10)) ((u2_1))) ((a1)) ((a2) - (a1)) ((a3)) := by exact WTI_n (by omega) (by rfl)
    exact hc27 ((adJ (a3) (2870177450012600261))) _ σ _ _  (rk_o (rfl) rfl rfl) (rk_o (rfl) rfl rfl) (rk_o (rfl) rfl rfl) (rk_s) H (SF_refl) (SA_refl)   (show inrJ ((adJ (a3) (2870177450012600261))) from g64) (show ((adJ (a3) (2870177450012600261))) = WTI (shf ((w10)) ((u2_1))) ((a1)) ((a2) - (a1)) ((a3)) by assumption)
  · refine Ew_of (pcₚ := 13) (fun _ => x_aload_n rfl (rk_o (rfl) rfl rfl)) ?_
    refine Ew_of (pcₚ := 14) (fun _ => x_iload_n rfl (rk_o (rfl) rfl rfl)) ?_
    refine Ew_of (pcₚ := 15) (fun _ => x_iload_n rfl (rk_o (rfl) rfl rfl)) ?_
    refine Ew_of (pcₚ := 16) (fun _ => x_lload_n rfl (rk_o (rfl) rfl rfl)) ?_
    refine w_inv H (o := 2) rfl rfl rfl (H.perm 2 rfl) rfl rfl (by rfl) (M313 H (u2_1) ((eu2_1)) (w10) (ew10) (show inr (a1) from h0) (show inr (a2) from h1) (show inrJ (a3) from h2) (show 0 ≤ (u2_1) ∧ (u2_1) ≤ 196608 from h3) (show 0 ≤ (a1) ∧ (a1) ≤ (a2) ∧ (a2) ≤ 65536 from h4) (fun z69 σ F65 A66 H hS67 hA68 pz69_0 pz69_1 => ⟨rfl, ?_⟩))
    refine Ew_of (pcₚ := 27) (fun _ => x_goto rfl rfl) ?_
    have : (z69) = WTI (shf ((w10)) ((u2_1))) ((a1)) ((a2) - (a1)) ((a3)) := by exact WTI_y (by omega) pz69_1
    exact hc27 (z69) _ σ _ _  (rk_o (rfl) rfl rfl) (rk_o (rfl) rfl rfl) (rk_o (rfl) rfl rfl) (rk_s) H (SF_trans (SF_refl) hS67 (any_sub rfl)) (SA_trans (SA_refl) hA68 (any_subA rfl))   (show inrJ (z69) from pz69_0) (show (z69) = WTI (shf ((w10)) ((u2_1))) ((a1)) ((a2) - (a1)) ((a3)) by assumption)

theorem M323 {σ0 σ : rS} {D N : Nat → Nat} {F : hF} {A : hA} {d c s : Nat} {Q : wQ} (H : HS σ0 σ D N F A) {a1 a2 a3 : Int} (w14 : Int → Int) (ew14 : A 14 = w14) (h0 : inr (a1)) (h1 : inr (a2)) (h2 : inr (a3)) (h3 : 0 ≤ (a1) ∧ (a1) < (a2) ∧ (a2) ≤ (a3) ∧ (a3) ≤ 65536) (k : ∀ (z : Int) σ Fₚ Aₚ, HS σ0 σ D N Fₚ Aₚ → SF [] F Fₚ → SA [] A Aₚ → (inr (z)) → (0 ≤ (z) ∧ (z) ≤ (a3) - (a2)) → ((z) = cpl ((w14)) ((a1)) ((a2)) ((a3))) → Q (some (I z)) σ c s) : Ew 323 (d + 0) 0 (rargs 0 [.ref (D 4), I a1, I a2, I a3]) [] σ c s Q := by
  refine Ew_of (pcₚ := 1) (fun _ => x_iconst rfl) ?_
  refine Ew_of (pcₚ := 3) (fun _ => x_istore rfl) ?_
  have : EQB ((w14)) ((a1)) ((a2)) (0) := EQB_0
  suffices hl3 : ∀ (m : Nat), ∀ (ls : rO) (σ : rS) (F_3 : hF) (A_3 : hA) (x3_4 : Int), rlook ls 0 = some (.ref (D 4)) → rlook ls 1 = some (I (a1)) → rlook ls 2 = some (I (a2)) → rlook ls 3 = some (I (a3)) → rlook ls 4 = some (I (x3_4)) → HS σ0 σ D N F_3 A_3 → SF [] F F_3 → SA [] A A_3 → (inr (x3_4)) → (0 ≤ (x3_4) ∧ (x3_4) ≤ (a3) - (a2)) → (EQB ((w14)) ((a1)) ((a2)) ((x3_4))) → ((a3) - (a2) - (x3_4)).toNat = m → Ew 323 (d + 0) 3 ls [] σ c s Q from
    hl3 _ _ σ _ _ (0) (rk_o (rfl) rfl rfl) (rk_o (rfl) rfl rfl) (rk_o (rfl) rfl rfl) (rk_o (rfl) rfl rfl) (rk_s) H (SF_refl) (SA_refl)   (show inr (0) from q_2) (show 0 ≤ (0) ∧ (0) ≤ (a3) - (a2) from q_839 h3) (show EQB ((w14)) ((a1)) ((a2)) ((0)) by assumption) rfl
  as_aux_lemma =>
  intro m
  induction m using Nat.strongRecOn with
  | _ m ih3 =>
    intro ls σ F_3 A_3 x3_4 l3_0 l3_1 l3_2 l3_3 l3_4 H hS_3 hA_3   j3_0 j3_1 j3_2 hm3
    have j3_q : EQB ((w14)) ((a1)) ((a2)) ((x3_4)) := j3_2
    refine Ew_of (pcₚ := 4) (fun _ => x_iload_n rfl l3_2) ?_
    refine Ew_of (pcₚ := 6) (fun _ => x_iload rfl l3_4) ?_
    refine w_iadd rfl ?_
    refine Ew_of (pcₚ := 8) (fun _ => x_iload_n rfl l3_3) ?_
    refine w_icmpge (t := 44) rfl rfl (show inr ((a2 + x3_4)) from q_840 h3 j3_1) (show inr (a3) from h2) (fun b1 => ?_) (fun b1 => ?_)
    · have : (x3_4) = cpl ((w14)) ((a1)) ((a2)) ((a3)) := (cpl_is (by omega) (by omega) j3_q (by exact .inl (by omega))).symm
      refine Ew_of (pcₚ := 46) (fun _ => x_iload rfl l3_4) ?_
      exact w_ireturn rfl (k (x3_4) σ _ _ H (SF_trans (SF_refl) hS_3 (any_sub rfl)) (SA_trans (SA_refl) hA_3 (any_subA rfl)) (show inr (x3_4) from j3_0) (show 0 ≤ (x3_4) ∧ (x3_4) ≤ a3 - a2 from j3_1) (show (x3_4) = cpl ((w14)) (a1) (a2) (a3) by assumption))
    · refine Ew_of (pcₚ := 12) (fun _ => x_aload_n rfl l3_0) ?_
      refine w_gT H (o := 4) (t := 1) rfl (H.perm 4 rfl) rfl rfl rfl rfl rfl rfl ?_
      refine w_gT H (o := 1) (t := 14) rfl (H.perm 1 rfl) rfl rfl rfl rfl rfl rfl ?_
      refine Ew_of (pcₚ := 19) (fun _ => x_iload_n rfl l3_1) ?_
      refine Ew_of (pcₚ := 21) (fun _ => x_iload rfl l3_4) ?_
      refine w_iadd rfl ?_
      refine w_lI H (o := 14) (n := 65536) rfl (H.perm 14 rfl) rfl rfl (H.fix 14 rfl rfl) (show 0 ≤ (a1 + x3_4) ∧ (a1 + x3_4) < ((65536 : Nat) : Int) from q_841 b1 h3 j3_1) (by decide) (fun v2 ev2 qv2 => ?_)
      have qv2 : (0 : Int) ≤ v2 ∧ v2 ≤ 255 := qv2
      have ev2 : (w14) ((a1 + x3_4)) = v2 := (congrFun ((funext (hA_3 14 rfl)).trans (ew14)) ((a1 + x3_4))).symm.trans ev2
      refine Ew_of (pcₚ := 24) (fun _ => x_aload_n rfl l3_0) ?_
      refine w_gT H (o := 4) (t := 1) rfl (H.perm 4 rfl) rfl rfl rfl rfl rfl rfl ?_
      refine w_gT H (o := 1) (t := 14) rfl (H.perm 1 rfl) rfl rfl rfl rfl rfl rfl ?_
      refine Ew_of (pcₚ := 31) (fun _ => x_iload_n rfl l3_2) ?_
      refine Ew_of (pcₚ := 33) (fun _ => x_iload rfl l3_4) ?_
      refine w_iadd rfl ?_
      refine w_lI H (o := 14) (n := 65536) rfl (H.perm 14 rfl) rfl rfl (H.fix 14 rfl rfl) (show 0 ≤ (a2 + x3_4) ∧ (a2 + x3_4) < ((65536 : Nat) : Int) from q_842 b1 h3 j3_1) (by decide) (fun v3 ev3 qv3 => ?_)
      have qv3 : (0 : Int) ≤ v3 ∧ v3 ≤ 255 := qv3
      have ev3 : (w14) ((a2 + x3_4)) = v3 := (congrFun ((funext (hA_3 14 rfl)).trans (ew14)) ((a2 + x3_4))).symm.trans ev3
      have hb1 := ev2
      have hb2 := ev3
      refine w_icmpne (t := 44) rfl rfl (show inr (v2) from q_299 qv2) (show inr (v3) from q_299 qv3) (fun b4 => ?_) (fun b4 => ?_)
      · have : (x3_4) = cpl ((w14)) ((a1)) ((a2)) ((a3)) := (cpl_is (by omega) (by omega) j3_q (by exact .inr (by rw [hb1, hb2]; omega))).symm
        refine Ew_of (pcₚ := 46) (fun _ => x_iload rfl l3_4) ?_
        exact w_ireturn rfl (k (x3_4) σ _ _ H (SF_trans (SF_refl) hS_3 (any_sub rfl)) (SA_trans (SA_refl) hA_3 (any_subA rfl)) (show inr (x3_4) from j3_0) (show 0 ≤ (x3_4) ∧ (x3_4) ≤ a3 - a2 from j3_1) (show (x3_4) = cpl ((w14)) (a1) (a2) (a3) by assumption))
      · have : EQB ((w14)) ((a1)) ((a2)) ((x3_4) + 1) := EQB_s j3_q (by rw [hb1, hb2]; omega) rfl
        refine Ew_of (pcₚ := 41) (fun _ => x_iinc (len := 3) rfl (l3_4)) ?_
        refine Ew_of (pcₚ := 3) (fun _ => x_goto rfl rfl) ?_
        exact ih3 _ (msE hm3 q_101 (q_102 b1)) _ σ _ _ ((x3_4 + 1)) (rk_o (l3_0) rfl rfl) (rk_o (l3_1) rfl rfl) (rk_o (l3_2) rfl rfl) (rk_o (l3_3) rfl rfl) (rk_s) H (hS_3) (hA_3)   (show inr ((x3_4 + 1)) from q_844 b1 h3 j3_1) (show 0 ≤ ((x3_4 + 1)) ∧ ((x3_4 + 1)) ≤ (a3) - (a2) from q_843 b1 j3_1) (show EQB ((w14)) ((a1)) ((a2)) (((x3_4 + 1))) by assumption) rfl

theorem M324 {σ0 σ : rS} {D N : Nat → Nat} {F : hF} {A : hA} {d c s : Nat} {Q : wQ} (H : HS σ0 σ D N F A) {a1 a2 a3 a4 : Int} (w14 : Int → Int) (ew14 : A 14 = w14) (h0 : inr (a1)) (h1 : inr (a2)) (h2 : inr (a3)) (h3 : inr (a4)) (h4 : 0 ≤ (a1) ∧ (a1) ≤ (a2) ∧ (a2) ≤ (a3) ∧ (a3) ≤ 16384) (h5 : 4 ≤ (a4) ∧ (a4) ≤ 8) (k : ∀ σ Fₚ Aₚ, HS σ0 σ D N Fₚ Aₚ → SF [(4, 6), (4, 7)] F Fₚ → SA [] A Aₚ → ∀ y4_6 : Int, Fₚ 4 6 = y4_6 → ∀ y4_7 : Int, Fₚ 4 7 = y4_7 → ((y4_7) = 0 ∨ (a1) ≤ (y4_6) ∧ (y4_6) < (a2) ∧ (a4) ≤ (y4_7) ∧ (y4_7) ≤ (a3) - (a2)) → (NRQ (shf ((w14)) ((a1))) ((a3) - (a1)) 65535 ((a4)) ((a2) - (a1)) ((y4_7)) ((a2) - (y4_6))) → Q none σ c s) : Ew 324 (d + 1) 0 (rargs 0 [.ref (D 4), I a1, I a2, I a3, I a4]) [] σ c s Q := by
  refine Ew_of (pcₚ := 1) (fun _ => x_aload_n rfl rfl) ?_
  refine Ew_of (pcₚ := 2) (fun _ => x_iconst rfl) ?_
  refine w_pI H (o := 4) rfl rfl (H.perm 4 rfl) rfl rfl rfl (fun _ => rfl) rfl (show (0 : Int) ≤ 0 ∧ 0 ≤ 65536 from q_300) (fun σ H => ?_)
  refine Ew_of (pcₚ := 6) (fun _ => x_iload_n rfl rfl) ?_
  refine Ew_of (pcₚ := 7) (fun _ => x_iconst rfl) ?_
  refine w_isub rfl ?_
  refine Ew_of (pcₚ := 10) (fun _ => x_istore rfl) ?_
  have r1 : (0 : Int) ≤ F 4 6 ∧ F 4 6 ≤ 65536 := H.frng 4 6
  have : SCI (shf ((w14)) ((a1))) ((a3) - (a1)) 65535 ((a4)) 0 ((a2) - (a1)) (((a2 - 1)) - (a1)) ((0)) ((a2) - (F 4 6)) := SCI_0 (by omega) (by omega)
  suffices hl10 : ∀ (m : Nat), ∀ (ls : rO) (σ : rS) (F_10 : hF) (A_10 : hA) (x10_5 : Int), rlook ls 0 = some (.ref (D 4)) → rlook ls 1 = some (I (a1)) → rlook ls 2 = some (I (a2)) → rlook ls 3 = some (I (a3)) → rlook ls 4 = some (I (a4)) → rlook ls 5 = some (I (x10_5)) → HS σ0 σ D N F_10 A_10 → SF [(4, 6), (4, 7)] (updF F 4 7 (0)) F_10 → SA [] A A_10 → ∀ y10_4_6 : Int, F_10 4 6 = y10_4_6 → ∀ y10_4_7 : Int, F_10 4 7 = y10_4_7 → (inr (x10_5)) → ((a1) - 1 ≤ (x10_5) ∧ (x10_5) ≤ (a2) - 1) → ((y10_4_7) = 0 ∨ (a1) ≤ (y10_4_6) ∧ (y10_4_6) < (a2) ∧ (a4) ≤ (y10_4_7) ∧ (y10_4_7) ≤ (a3) - (a2)) → (SCI (shf ((w14)) ((a1))) ((a3) - (a1)) 65535 ((a4)) 0 ((a2) - (a1)) ((x10_5) - (a1)) ((y10_4_7)) ((a2) - (y10_4_6))) → ((x10_5) - (a1) + 1).toNat = m → Ew 324 (d + 1) 10 ls [] σ c s Q from
    hl10 _ _ σ _ _ ((a2 - 1)) (rk_o (rfl) rfl rfl) (rk_o (rfl) rfl rfl) (rk_o (rfl) rfl rfl) (rk_o (rfl) rfl rfl) (rk_o (rfl) rfl rfl) (rk_s) H (SF_refl) (SA_refl) (F 4 6) (rfl) (0) (rfl)  (show inr ((a2 - 1)) from q_847 h4) (show (a1) - 1 ≤ ((a2 - 1)) ∧ ((a2 - 1)) ≤ (a2) - 1 from q_846 h4) (show (0) = 0 ∨ (a1) ≤ (F 4 6) ∧ (F 4 6) < (a2) ∧ (a4) ≤ (0) ∧ (0) ≤ (a3) - (a2) from q_845) (show SCI (shf ((w14)) ((a1))) ((a3) - (a1)) 65535 ((a4)) 0 ((a2) - (a1)) (((a2 - 1)) - (a1)) ((0)) ((a2) - (F 4 6)) by assumption) rfl
  as_aux_lemma =>
  intro m
  induction m using Nat.strongRecOn with
  | _ m ih10 =>
    intro ls σ F_10 A_10 x10_5 l10_0 l10_1 l10_2 l10_3 l10_4 l10_5 H hS_10 hA_10 y10_4_6 ey10_4_6 y10_4_7 ey10_4_7  j10_0 j10_1 j10_2 j10_3 hm10
    have r2 : (0 : Int) ≤ y10_4_6 ∧ y10_4_6 ≤ 65536 := rngE (show (0 : Int) ≤ F_10 4 6 ∧ F_10 4 6 ≤ 65536 from H.frng 4 6) (show F_10 4 6 = y10_4_6 from (ey10_4_6))
    have r3 : (0 : Int) ≤ y10_4_7 ∧ y10_4_7 ≤ 65536 := rngE (show (0 : Int) ≤ F_10 4 7 ∧ F_10 4 7 ≤ 65536 from H.frng 4 7) (show F_10 4 7 = y10_4_7 from (ey10_4_7))
    have j10_s : SCI (shf ((w14)) ((a1))) ((a3) - (a1)) 65535 ((a4)) 0 ((a2) - (a1)) ((x10_5) - (a1)) ((y10_4_7)) ((a2) - (y10_4_6)) := j10_3
    refine Ew_of (pcₚ := 12) (fun _ => x_iload rfl l10_5) ?_
    refine Ew_of (pcₚ := 13) (fun _ => x_iload_n rfl l10_1) ?_
    refine w_icmplt (t := 58) rfl rfl (show inr (x10_5) from j10_0) (show inr (a1) from h0) (fun b4 => ?_) (fun b4 => ?_)
    · have : NRQ (shf ((w14)) ((a1))) ((a3) - (a1)) 65535 ((a4)) ((a2) - (a1)) ((y10_4_7)) ((a2) - (y10_4_6)) := SCI_nr j10_s (by omega)
      exact w_ret rfl (k σ _ _ H (SF_trans (SF_upd (SF_refl) rfl) hS_10 (any_sub rfl)) (SA_trans (SA_refl) hA_10 (any_subA rfl)) (y10_4_6) ((ey10_4_6)) (y10_4_7) ((ey10_4_7)) (show (y10_4_7) = 0 ∨ a1 ≤ (y10_4_6) ∧ (y10_4_6) < a2 ∧ a4 ≤ (y10_4_7) ∧ (y10_4_7) ≤ a3 - a2 from j10_2) (show NRQ (shf ((w14)) (a1)) (a3 - a1) 65535 (a4) (a2 - a1) ((y10_4_7)) (a2 - (y10_4_6)) by assumption))
    · refine Ew_of (pcₚ := 17) (fun _ => x_aload_n rfl l10_0) ?_
      refine w_gI H (o := 4) (w := y10_4_7) rfl (H.perm 4 rfl) rfl rfl rfl (fun _ => rfl) (ey10_4_7) ?_
      refine w_ifne (t := 58) rfl rfl (show inr (y10_4_7) from q_286 r3) (fun b5 => ?_) (fun b5 => ?_)
      · have : NRQ (shf ((w14)) ((a1))) ((a3) - (a1)) 65535 ((a4)) ((a2) - (a1)) ((y10_4_7)) ((a2) - (y10_4_6)) := SCI_nr j10_s (by omega)
        exact w_ret rfl (k σ _ _ H (SF_trans (SF_upd (SF_refl) rfl) hS_10 (any_sub rfl)) (SA_trans (SA_refl) hA_10 (any_subA rfl)) (y10_4_6) ((ey10_4_6)) (y10_4_7) ((ey10_4_7)) (show (y10_4_7) = 0 ∨ a1 ≤ (y10_4_6) ∧ (y10_4_6) < a2 ∧ a4 ≤ (y10_4_7) ∧ (y10_4_7) ≤ a3 - a2 from j10_2) (show NRQ (shf ((w14)) (a1)) (a3 - a1) 65535 (a4) (a2 - a1) ((y10_4_7)) (a2 - (y10_4_6)) by assumption))
      · refine Ew_of (pcₚ := 24) (fun _ => x_aload_n rfl l10_0) ?_
        refine Ew_of (pcₚ := 26) (fun _ => x_iload rfl l10_5) ?_
        refine Ew_of (pcₚ := 27) (fun _ => x_iload_n rfl l10_2) ?_
        refine Ew_of (pcₚ := 28) (fun _ => x_iload_n rfl l10_3) ?_
        refine w_inv H (o := 4) rfl rfl rfl (H.perm 4 rfl) rfl rfl (by rfl) (M323 H (w14) ((funext (hA_10 14 rfl)).trans (ew14)) (show inr (x10_5) from j10_0) (show inr (a2) from h1) (show inr (a3) from h2) (show 0 ≤ (x10_5) ∧ (x10_5) < (a2) ∧ (a2) ≤ (a3) ∧ (a3) ≤ 65536 from q_848 b4 h4 j10_1) (fun z10 σ F6 A7 H hS8 hA9 pz10_0 pz10_1 pz10_2 => ⟨rfl, ?_⟩))
        have hcp : cpl (shf ((w14)) ((a1))) ((x10_5) - (a1)) ((a2) - (a1)) ((a3) - (a1)) = (z10) := by rw [← cpl_shf (q2 := (x10_5)) (p2_ := (a2)) (e2 := (a3)) (by omega) (by omega) (by omega)]; exact (pz10_2).symm
        refine Ew_of (pcₚ := 33) (fun _ => x_istore rfl) ?_
        refine Ew_of (pcₚ := 35) (fun _ => x_iload rfl rk_s) ?_
        refine Ew_of (pcₚ := 37) (fun _ => x_iload rfl (rk_o (l10_4) rfl rfl)) ?_
        refine w_icmplt (t := 52) rfl rfl (show inr (z10) from pz10_0) (show inr (a4) from h3) (fun b11 => ?_) (fun b11 => ?_)
        · refine Ew_of (pcₚ := 55) (fun _ => x_iinc (len := 3) rfl (rk_o (l10_5) rfl rfl)) ?_
          refine Ew_of (pcₚ := 10) (fun _ => x_goto rfl rfl) ?_
          have : SCI (shf ((w14)) ((a1))) ((a3) - (a1)) 65535 ((a4)) 0 ((a2) - (a1)) (((x10_5 + (-1))) - (a1)) ((y10_4_7)) ((a2) - (y10_4_6)) := by exact SCI_e (SCI_n j10_s rfl hcp (by unfold BET; omega) (by omega)) (by omega) (by omega) (by omega)
          exact ih10 _ (msE hm10 q_851 (q_852 b4)) _ σ _ _ ((x10_5 + (-1))) (rk_o (rk_o (l10_0) rfl rfl) rfl rfl) (rk_o (rk_o (l10_1) rfl rfl) rfl rfl) (rk_o (rk_o (l10_2) rfl rfl) rfl rfl) (rk_o (rk_o (l10_3) rfl rfl) rfl rfl) (rk_o (rk_o (l10_4) rfl rfl) rfl rfl) (rk_s) H (SF_trans (hS_10) hS8 (any_sub rfl)) (SA_trans (hA_10) hA9 (any_subA rfl)) (y10_4_6) (((hS8 4 6 rfl).trans (ey10_4_6))) (y10_4_7) (((hS8 4 7 rfl).trans (ey10_4_7)))  (show inr ((x10_5 + (-1))) from q_850 b4 h4 j10_0) (show (a1) - 1 ≤ ((x10_5 + (-1))) ∧ ((x10_5 + (-1))) ≤ (a2) - 1 from q_849 b4 j10_1) (show (y10_4_7) = 0 ∨ (a1) ≤ (y10_4_6) ∧ (y10_4_6) < (a2) ∧ (a4) ≤ (y10_4_7) ∧ (y10_4_7) ≤ (a3) - (a2) from j10_2) (show SCI (shf ((w14)) ((a1))) ((a3) - (a1)) 65535 ((a4)) 0 ((a2) - (a1)) (((x10_5 + (-1))) - (a1)) ((y10_4_7)) ((a2) - (y10_4_6)) by assumption) rfl
        · refine Ew_of (pcₚ := 41) (fun _ => x_aload_n rfl (rk_o (l10_0) rfl rfl)) ?_
          refine Ew_of (pcₚ := 43) (fun _ => x_iload rfl (rk_o (l10_5) rfl rfl)) ?_
          refine w_pI H (o := 4) rfl rfl (H.perm 4 rfl) rfl rfl rfl (fun _ => rfl) rfl (show (0 : Int) ≤ x10_5 ∧ x10_5 ≤ 65536 from q_853 b4 h4 j10_1) (fun σ H => ?_)
          refine Ew_of (pcₚ := 47) (fun _ => x_aload_n rfl (rk_o (l10_0) rfl rfl)) ?_
          refine Ew_of (pcₚ := 49) (fun _ => x_iload rfl rk_s) ?_
          refine w_pI H (o := 4) rfl rfl (H.perm 4 rfl) rfl rfl rfl (fun _ => rfl) rfl (show (0 : Int) ≤ z10 ∧ z10 ≤ 65536 from q_854 h4 pz10_1) (fun σ H => ?_)
          refine Ew_of (pcₚ := 55) (fun _ => x_iinc (len := 3) rfl (rk_o (l10_5) rfl rfl)) ?_
          refine Ew_of (pcₚ := 10) (fun _ => x_goto rfl rfl) ?_
          have : SCI (shf ((w14)) ((a1))) ((a3) - (a1)) 65535 ((a4)) 0 ((a2) - (a1)) (((x10_5 + (-1))) - (a1)) ((z10)) ((a2) - (x10_5)) := by exact SCI_e (SCI_y j10_s rfl (by omega) (by omega) (by omega) hcp (by unfold BET; omega) (by omega)) (by omega) (by omega) (by omega)
          exact ih10 _ (msE hm10 q_851 (q_852 b4)) _ σ _ _ ((x10_5 + (-1))) (rk_o (rk_o (l10_0) rfl rfl) rfl rfl) (rk_o (rk_o (l10_1) rfl rfl) rfl rfl) (rk_o (rk_o (l10_2) rfl rfl) rfl rfl) (rk_o (rk_o (l10_3) rfl rfl) rfl rfl) (rk_o (rk_o (l10_4) rfl rfl) rfl rfl) (rk_s) H (SF_upd (SF_upd (SF_trans (hS_10) hS8 (any_sub rfl)) rfl) rfl) (SA_trans (hA_10) hA9 (any_subA rfl)) (x10_5) (rfl) (z10) (rfl)  (show inr ((x10_5 + (-1))) from q_850 b4 h4 j10_0) (show (a1) - 1 ≤ ((x10_5 + (-1))) ∧ ((x10_5 + (-1))) ≤ (a2) - 1 from q_849 b4 j10_1) (show (z10) = 0 ∨ (a1) ≤ (x10_5) ∧ (x10_5) < (a2) ∧ (a4) ≤ (z10) ∧ (z10) ≤ (a3) - (a2) from q_855 b11 b4 j10_1 pz10_1) (show SCI (shf ((w14)) ((a1))) ((a3) - (a1)) 65535 ((a4)) 0 ((a2) - (a1)) (((x10_5 + (-1))) - (a1)) ((z10)) ((a2) - (x10_5)) by assumption) rfl

theorem M325 {σ0 σ : rS} {D N : Nat → Nat} {F : hF} {A : hA} {d c s : Nat} {Q : wQ} (H : HS σ0 σ D N F A) {a1 a2 a3 : Int} (w14 : Int → Int) (ew14 : A 14 = w14) (h0 : inr (a1)) (h1 : inr (a2)) (h2 : inr (a3)) (h3 : 0 ≤ (a1) ∧ (a1) ≤ (a2) ∧ (a2) ≤ (a3) ∧ (a3) ≤ 16384) (k : ∀ σ Fₚ Aₚ, HS σ0 σ D N Fₚ Aₚ → SF [(4, 6), (4, 7)] F Fₚ → SA [] A Aₚ → ∀ y4_6 : Int, Fₚ 4 6 = y4_6 → ∀ y4_7 : Int, Fₚ 4 7 = y4_7 → ((y4_7) = 0 ∨ (a1) ≤ (y4_6) ∧ (y4_6) < (a2) ∧ 4 ≤ (y4_7) ∧ (y4_7) ≤ (a3) - (a2)) → (LGQ (shf ((w14)) ((a1))) ((a3) - (a1)) 65535 4 ((a2) - (a1)) ((y4_7)) ((a2) - (y4_6))) → (0 ≤ (y4_7)) → Q none σ c s) : Ew 325 (d + 1) 0 (rargs 0 [.ref (D 4), I a1, I a2, I a3]) [] σ c s Q := by
  refine Ew_of (pcₚ := 1) (fun _ => x_aload_n rfl rfl) ?_
  refine Ew_of (pcₚ := 2) (fun _ => x_iconst rfl) ?_
  refine w_pI H (o := 4) rfl rfl (H.perm 4 rfl) rfl rfl rfl (fun _ => rfl) rfl (show (0 : Int) ≤ 0 ∧ 0 ≤ 65536 from q_300) (fun σ H => ?_)
  refine Ew_of (pcₚ := 6) (fun _ => x_iload_n rfl rfl) ?_
  refine Ew_of (pcₚ := 7) (fun _ => x_iconst rfl) ?_
  refine w_isub rfl ?_
  refine Ew_of (pcₚ := 10) (fun _ => x_istore rfl) ?_
  have r1 : (0 : Int) ≤ F 4 6 ∧ F 4 6 ≤ 65536 := H.frng 4 6
  have : SCI (shf ((w14)) ((a1))) ((a3) - (a1)) 65535 (4) 2 ((a2) - (a1)) (((a2 - 1)) - (a1)) ((0)) ((a2) - (F 4 6)) := SCI_0 (by omega) (by omega)
  suffices hl10 : ∀ (m : Nat), ∀ (ls : rO) (σ : rS) (F_10 : hF) (A_10 : hA) (x10_4 : Int), rlook ls 0 = some (.ref (D 4)) → rlook ls 1 = some (I (a1)) → rlook ls 2 = some (I (a2)) → rlook ls 3 = some (I (a3)) → rlook ls 4 = some (I (x10_4)) → HS σ0 σ D N F_10 A_10 → SF [(4, 6), (4, 7)] (updF F 4 7 (0)) F_10 → SA [] A A_10 → ∀ y10_4_6 : Int, F_10 4 6 = y10_4_6 → ∀ y10_4_7 : Int, F_10 4 7 = y10_4_7 → (inr (x10_4)) → ((a1) - 1 ≤ (x10_4) ∧ (x10_4) ≤ (a2) - 1) → ((y10_4_7) = 0 ∨ (a1) ≤ (y10_4_6) ∧ (y10_4_6) < (a2) ∧ 4 ≤ (y10_4_7) ∧ (y10_4_7) ≤ (a3) - (a2)) → (0 ≤ (y10_4_7)) → (SCI (shf ((w14)) ((a1))) ((a3) - (a1)) 65535 (4) 2 ((a2) - (a1)) ((x10_4) - (a1)) ((y10_4_7)) ((a2) - (y10_4_6))) → ((x10_4) - (a1) + 1).toNat = m → Ew 325 (d + 1) 10 ls [] σ c s Q from
    hl10 _ _ σ _ _ ((a2 - 1)) (rk_o (rfl) rfl rfl) (rk_o (rfl) rfl rfl) (rk_o (rfl) rfl rfl) (rk_o (rfl) rfl rfl) (rk_s) H (SF_refl) (SA_refl) (F 4 6) (rfl) (0) (rfl)  (show inr ((a2 - 1)) from q_847 h3) (show (a1) - 1 ≤ ((a2 - 1)) ∧ ((a2 - 1)) ≤ (a2) - 1 from q_846 h3) (show (0) = 0 ∨ (a1) ≤ (F 4 6) ∧ (F 4 6) < (a2) ∧ 4 ≤ (0) ∧ (0) ≤ (a3) - (a2) from q_856) (show 0 ≤ (0) from q_1) (show SCI (shf ((w14)) ((a1))) ((a3) - (a1)) 65535 (4) 2 ((a2) - (a1)) (((a2 - 1)) - (a1)) ((0)) ((a2) - (F 4 6)) by assumption) rfl
  as_aux_lemma =>
  intro m
  induction m using Nat.strongRecOn with
  | _ m ih10 =>
    intro ls σ F_10 A_10 x10_4 l10_0 l10_1 l10_2 l10_3 l10_4 H hS_10 hA_10 y10_4_6 ey10_4_6 y10_4_7 ey10_4_7  j10_0 j10_1 j10_2 j10_3 j10_4 hm10
    have r2 : (0 : Int) ≤ y10_4_6 ∧ y10_4_6 ≤ 65536 := rngE (show (0 : Int) ≤ F_10 4 6 ∧ F_10 4 6 ≤ 65536 from H.frng 4 6) (show F_10 4 6 = y10_4_6 from (ey10_4_6))
    have r3 : (0 : Int) ≤ y10_4_7 ∧ y10_4_7 ≤ 65536 := rngE (show (0 : Int) ≤ F_10 4 7 ∧ F_10 4 7 ≤ 65536 from H.frng 4 7) (show F_10 4 7 = y10_4_7 from (ey10_4_7))
    have j10_s : SCI (shf ((w14)) ((a1))) ((a3) - (a1)) 65535 (4) 2 ((a2) - (a1)) ((x10_4) - (a1)) ((y10_4_7)) ((a2) - (y10_4_6)) := j10_4
    refine Ew_of (pcₚ := 12) (fun _ => x_iload rfl l10_4) ?_
    refine Ew_of (pcₚ := 13) (fun _ => x_iload_n rfl l10_1) ?_
    refine w_icmplt (t := 59) rfl rfl (show inr (x10_4) from j10_0) (show inr (a1) from h0) (fun b4 => ?_) (fun b4 => ?_)
    · have : LGQ (shf ((w14)) ((a1))) ((a3) - (a1)) 65535 4 ((a2) - (a1)) ((y10_4_7)) ((a2) - (y10_4_6)) := SCI_lg j10_s (by omega) (by omega)
      exact w_ret rfl (k σ _ _ H (SF_trans (SF_upd (SF_refl) rfl) hS_10 (any_sub rfl)) (SA_trans (SA_refl) hA_10 (any_subA rfl)) (y10_4_6) ((ey10_4_6)) (y10_4_7) ((ey10_4_7)) (show (y10_4_7) = 0 ∨ a1 ≤ (y10_4_6) ∧ (y10_4_6) < a2 ∧ 4 ≤ (y10_4_7) ∧ (y10_4_7) ≤ a3 - a2 from j10_2) (show LGQ (shf ((w14)) (a1)) (a3 - a1) 65535 4 (a2 - a1) ((y10_4_7)) (a2 - (y10_4_6)) by assumption) (show 0 ≤ (y10_4_7) from j10_3))
    · refine Ew_of (pcₚ := 17) (fun _ => x_aload_n rfl l10_0) ?_
      refine Ew_of (pcₚ := 19) (fun _ => x_iload rfl l10_4) ?_
      refine Ew_of (pcₚ := 20) (fun _ => x_iload_n rfl l10_2) ?_
      refine Ew_of (pcₚ := 21) (fun _ => x_iload_n rfl l10_3) ?_
      refine w_inv H (o := 4) rfl rfl rfl (H.perm 4 rfl) rfl rfl (by rfl) (M323 H (w14) ((funext (hA_10 14 rfl)).trans (ew14)) (show inr (x10_4) from j10_0) (show inr (a2) from h1) (show inr (a3) from h2) (show 0 ≤ (x10_4) ∧ (x10_4) < (a2) ∧ (a2) ≤ (a3) ∧ (a3) ≤ 65536 from q_848 b4 h3 j10_1) (fun z9 σ F5 A6 H hS7 hA8 pz9_0 pz9_1 pz9_2 => ⟨rfl, ?_⟩))
      have hcp : cpl (shf ((w14)) ((a1))) ((x10_4) - (a1)) ((a2) - (a1)) ((a3) - (a1)) = (z9) := by rw [← cpl_shf (q2 := (x10_4)) (p2_ := (a2)) (e2 := (a3)) (by omega) (by omega) (by omega)]; exact (pz9_2).symm
      refine Ew_of (pcₚ := 26) (fun _ => x_istore rfl) ?_
      refine Ew_of (pcₚ := 28) (fun _ => x_iload rfl rk_s) ?_
      refine Ew_of (pcₚ := 29) (fun _ => x_iconst rfl) ?_
      refine w_icmplt (t := 53) rfl rfl (show inr (z9) from pz9_0) (show inr (4) from q_216) (fun b10 => ?_) (fun b10 => ?_)
      · refine Ew_of (pcₚ := 56) (fun _ => x_iinc (len := 3) rfl (rk_o (l10_4) rfl rfl)) ?_
        refine Ew_of (pcₚ := 10) (fun _ => x_goto rfl rfl) ?_
        have : SCI (shf ((w14)) ((a1))) ((a3) - (a1)) 65535 (4) 2 ((a2) - (a1)) (((x10_4 + (-1))) - (a1)) ((y10_4_7)) ((a2) - (y10_4_6)) := by exact SCI_e (SCI_n j10_s rfl hcp (by unfold BET; omega) (by omega)) (by omega) (by omega) (by omega)
        exact ih10 _ (msE hm10 q_851 (q_852 b4)) _ σ _ _ ((x10_4 + (-1))) (rk_o (rk_o (l10_0) rfl rfl) rfl rfl) (rk_o (rk_o (l10_1) rfl rfl) rfl rfl) (rk_o (rk_o (l10_2) rfl rfl) rfl rfl) (rk_o (rk_o (l10_3) rfl rfl) rfl rfl) (rk_s) H (SF_trans (hS_10) hS7 (any_sub rfl)) (SA_trans (hA_10) hA8 (any_subA rfl)) (y10_4_6) (((hS7 4 6 rfl).trans (ey10_4_6))) (y10_4_7) (((hS7 4 7 rfl).trans (ey10_4_7)))  (show inr ((x10_4 + (-1))) from q_850 b4 h3 j10_0) (show (a1) - 1 ≤ ((x10_4 + (-1))) ∧ ((x10_4 + (-1))) ≤ (a2) - 1 from q_849 b4 j10_1) (show (y10_4_7) = 0 ∨ (a1) ≤ (y10_4_6) ∧ (y10_4_6) < (a2) ∧ 4 ≤ (y10_4_7) ∧ (y10_4_7) ≤ (a3) - (a2) from j10_2) (show 0 ≤ (y10_4_7) from j10_3) (show SCI (shf ((w14)) ((a1))) ((a3) - (a1)) 65535 (4) 2 ((a2) - (a1)) (((x10_4 + (-1))) - (a1)) ((y10_4_7)) ((a2) - (y10_4_6)) by assumption) rfl
      · refine Ew_of (pcₚ := 34) (fun _ => x_iload rfl rk_s) ?_
        refine Ew_of (pcₚ := 35) (fun _ => x_aload_n rfl (rk_o (l10_0) rfl rfl)) ?_
        refine w_gI H (o := 4) (w := y10_4_7) rfl (H.perm 4 rfl) rfl rfl rfl (fun _ => rfl) ((hS7 4 7 rfl).trans (ey10_4_7)) ?_
        refine w_icmple (t := 53) rfl rfl (show inr (z9) from pz9_0) (show inr (y10_4_7) from q_286 r3) (fun b11 => ?_) (fun b11 => ?_)
        · refine Ew_of (pcₚ := 56) (fun _ => x_iinc (len := 3) rfl (rk_o (l10_4) rfl rfl)) ?_
          refine Ew_of (pcₚ := 10) (fun _ => x_goto rfl rfl) ?_
          have : SCI (shf ((w14)) ((a1))) ((a3) - (a1)) 65535 (4) 2 ((a2) - (a1)) (((x10_4 + (-1))) - (a1)) ((y10_4_7)) ((a2) - (y10_4_6)) := by exact SCI_e (SCI_n j10_s rfl hcp (by unfold BET; omega) (by omega)) (by omega) (by omega) (by omega)
          exact ih10 _ (msE hm10 q_851 (q_852 b4)) _ σ _ _ ((x10_4 + (-1))) (rk_o (rk_o (l10_0) rfl rfl) rfl rfl) (rk_o (rk_o (l10_1) rfl rfl) rfl rfl) (rk_o (rk_o (l10_2) rfl rfl) rfl rfl) (rk_o (rk_o (l10_3) rfl rfl) rfl rfl) (rk_s) H (SF_trans (hS_10) hS7 (any_sub rfl)) (SA_trans (hA_10) hA8 (any_subA rfl)) (y10_4_6) (((hS7 4 6 rfl).trans (ey10_4_6))) (y10_4_7) (((hS7 4 7 rfl).trans (ey10_4_7)))  (show inr ((x10_4 + (-1))) from q_850 b4 h3 j10_0) (show (a1) - 1 ≤ ((x10_4 + (-1))) ∧ ((x10_4 + (-1))) ≤ (a2) - 1 from q_849 b4 j10_1) (show (y10_4_7) = 0 ∨ (a1) ≤ (y10_4_6) ∧ (y10_4_6) < (a2) ∧ 4 ≤ (y10_4_7) ∧ (y10_4_7) ≤ (a3) - (a2) from j10_2) (show 0 ≤ (y10_4_7) from j10_3) (show SCI (shf ((w14)) ((a1))) ((a3) - (a1)) 65535 (4) 2 ((a2) - (a1)) (((x10_4 + (-1))) - (a1)) ((y10_4_7)) ((a2) - (y10_4_6)) by assumption) rfl
        · refine Ew_of (pcₚ := 42) (fun _ => x_aload_n rfl (rk_o (l10_0) rfl rfl)) ?_
          refine Ew_of (pcₚ := 44) (fun _ => x_iload rfl (rk_o (l10_4) rfl rfl)) ?_
          refine w_pI H (o := 4) rfl rfl (H.perm 4 rfl) rfl rfl rfl (fun _ => rfl) rfl (show (0 : Int) ≤ x10_4 ∧ x10_4 ≤ 65536 from q_853 b4 h3 j10_1) (fun σ H => ?_)
          refine Ew_of (pcₚ := 48) (fun _ => x_aload_n rfl (rk_o (l10_0) rfl rfl)) ?_
          refine Ew_of (pcₚ := 50) (fun _ => x_iload rfl rk_s) ?_
          refine w_pI H (o := 4) rfl rfl (H.perm 4 rfl) rfl rfl rfl (fun _ => rfl) rfl (show (0 : Int) ≤ z9 ∧ z9 ≤ 65536 from q_854 h3 pz9_1) (fun σ H => ?_)
          refine Ew_of (pcₚ := 56) (fun _ => x_iinc (len := 3) rfl (rk_o (l10_4) rfl rfl)) ?_
          refine Ew_of (pcₚ := 10) (fun _ => x_goto rfl rfl) ?_
          have : SCI (shf ((w14)) ((a1))) ((a3) - (a1)) 65535 (4) 2 ((a2) - (a1)) (((x10_4 + (-1))) - (a1)) ((z9)) ((a2) - (x10_4)) := by exact SCI_e (SCI_y j10_s rfl (by omega) (by omega) (by omega) hcp (by unfold BET; omega) (by omega)) (by omega) (by omega) (by omega)
          exact ih10 _ (msE hm10 q_851 (q_852 b4)) _ σ _ _ ((x10_4 + (-1))) (rk_o (rk_o (l10_0) rfl rfl) rfl rfl) (rk_o (rk_o (l10_1) rfl rfl) rfl rfl) (rk_o (rk_o (l10_2) rfl rfl) rfl rfl) (rk_o (rk_o (l10_3) rfl rfl) rfl rfl) (rk_s) H (SF_upd (SF_upd (SF_trans (hS_10) hS7 (any_sub rfl)) rfl) rfl) (SA_trans (hA_10) hA8 (any_subA rfl)) (x10_4) (rfl) (z9) (rfl)  (show inr ((x10_4 + (-1))) from q_850 b4 h3 j10_0) (show (a1) - 1 ≤ ((x10_4 + (-1))) ∧ ((x10_4 + (-1))) ≤ (a2) - 1 from q_849 b4 j10_1) (show (z9) = 0 ∨ (a1) ≤ (x10_4) ∧ (x10_4) < (a2) ∧ 4 ≤ (z9) ∧ (z9) ≤ (a3) - (a2) from q_857 b10 b4 j10_1 pz9_1) (show 0 ≤ (z9) from q_641 pz9_1) (show SCI (shf ((w14)) ((a1))) ((a3) - (a1)) 65535 (4) 2 ((a2) - (a1)) (((x10_4 + (-1))) - (a1)) ((z9)) ((a2) - (x10_4)) by assumption) rfl

theorem M326 {σ0 σ : rS} {D N : Nat → Nat} {F : hF} {A : hA} {d c s : Nat} {Q : wQ} (H : HS σ0 σ D N F A) {a1 a2 a3 a4 : Int} (w14 : Int → Int) (ew14 : A 14 = w14) (h0 : inr (a1)) (h1 : inr (a2)) (h2 : inr (a3)) (h3 : inr (a4)) (h4 : 0 ≤ (a1) ∧ (a1) ≤ (a2) ∧ (a2) < (a3) ∧ (a3) ≤ 16384) (h5 : 0 ≤ (a4) ∧ (a4) ≤ 3) (k : ∀ σ Fₚ Aₚ, HS σ0 σ D N Fₚ Aₚ → SF [(4, 6), (4, 7)] F Fₚ → SA [] A Aₚ → ∀ y4_6 : Int, Fₚ 4 6 = y4_6 → ∀ y4_7 : Int, Fₚ 4 7 = y4_7 → ((y4_7) = 0 ∨ (a1) ≤ (y4_6) ∧ (y4_6) < (a2) ∧ 4 ≤ (y4_7) ∧ (y4_7) ≤ (a3) - (a2)) → (MTL (shf ((w14)) ((a1))) ((a3) - (a1)) 65535 4 ((a4)) ((a3) - (a1) - 4) ((a2) - (a1)) ((y4_7)) ((a2) - (y4_6))) → Q none σ c s) : Ew 326 (d + 2) 0 (rargs 0 [.ref (D 4), I a1, I a2, I a3, I a4]) [] σ c s Q := by
  have r1 : (0 : Int) ≤ F 4 6 ∧ F 4 6 ≤ 65536 := H.frng 4 6
  have r2 : (0 : Int) ≤ F 4 7 ∧ F 4 7 ≤ 65536 := H.frng 4 7
  have hc15 : ∀ (ls : rO) (σ : rS) (F_c15 : hF) (A_c15 : hA) , rlook ls 0 = some (.ref (D 4)) → rlook ls 1 = some (I (a1)) → rlook ls 2 = some (I (a2)) → rlook ls 3 = some (I (a3)) → rlook ls 4 = some (I (a4)) → HS σ0 σ D N F_c15 A_c15 → SF [(4, 6), (4, 7)] F F_c15 → SA [] A A_c15 → ∀ yc15_4_6 : Int, F_c15 4 6 = yc15_4_6 → ∀ yc15_4_7 : Int, F_c15 4 7 = yc15_4_7 → ((a4) ≠ 1 ∨ (yc15_4_7) = 0 ∨ (a1) ≤ (yc15_4_6) ∧ (yc15_4_6) < (a2) ∧ 8 ≤ (yc15_4_7) ∧ (yc15_4_7) ≤ (a3) - (a2)) → (IMP ((a4) = 1) (NRQ (shf ((w14)) ((a1))) ((a3) - (a1)) 65535 8 ((a2) - (a1)) ((yc15_4_7)) ((a2) - (yc15_4_6)))) → Ew 326 (d + 2) 15 ls [] σ c s Q := by
   as_aux_lemma =>
    intro  ls σ F_c15 A_c15  lc15_0 lc15_1 lc15_2 lc15_3 lc15_4 H hS_c15 hA_c15 yc15_4_6 eyc15_4_6 yc15_4_7 eyc15_4_7  jc15_0 jc15_1
    have r3 : (0 : Int) ≤ yc15_4_6 ∧ yc15_4_6 ≤ 65536 := rngE (show (0 : Int) ≤ F_c15 4 6 ∧ F_c15 4 6 ≤ 65536 from H.frng 4 6) (show F_c15 4 6 = yc15_4_6 from (eyc15_4_6))
    have r4 : (0 : Int) ≤ yc15_4_7 ∧ yc15_4_7 ≤ 65536 := rngE (show (0 : Int) ≤ F_c15 4 7 ∧ F_c15 4 7 ≤ 65536 from H.frng 4 7) (show F_c15 4 7 = yc15_4_7 from (eyc15_4_7))
    have hc41 : ∀ (ls : rO) (σ : rS) (F_c41 : hF) (A_c41 : hA) , rlook ls 0 = some (.ref (D 4)) → rlook ls 1 = some (I (a1)) → rlook ls 2 = some (I (a2)) → rlook ls 3 = some (I (a3)) → rlook ls 4 = some (I (a4)) → HS σ0 σ D N F_c41 A_c41 → SF [(4, 6), (4, 7)] F_c15 F_c41 → SA [] A_c15 A_c41 → ∀ yc41_4_6 : Int, F_c41 4 6 = yc41_4_6 → ∀ yc41_4_7 : Int, F_c41 4 7 = yc41_4_7 → (2 ≤ (a4) ∨ (yc41_4_7) = 0 ∨ (a1) ≤ (yc41_4_6) ∧ (yc41_4_6) < (a2) ∧ 4 ≤ (yc41_4_7) ∧ (yc41_4_7) ≤ (a3) - (a2)) → (IMP ((a4) < 2) (MTL (shf ((w14)) ((a1))) ((a3) - (a1)) 65535 4 ((a4)) ((a3) - (a1) - 4) ((a2) - (a1)) ((yc41_4_7)) ((a2) - (yc41_4_6)))) → Ew 326 (d + 2) 41 ls [] σ c s Q := by
     as_aux_lemma =>
      intro  ls σ F_c41 A_c41  lc41_0 lc41_1 lc41_2 lc41_3 lc41_4 H hS_c41 hA_c41 yc41_4_6 eyc41_4_6 yc41_4_7 eyc41_4_7  jc41_0 jc41_1
      have r5 : (0 : Int) ≤ yc41_4_6 ∧ yc41_4_6 ≤ 65536 := rngE (show (0 : Int) ≤ F_c41 4 6 ∧ F_c41 4 6 ≤ 65536 from H.frng 4 6) (show F_c41 4 6 = yc41_4_6 from (eyc41_4_6))
      have r6 : (0 : Int) ≤ yc41_4_7 ∧ yc41_4_7 ≤ 65536 := rngE (show (0 : Int) ≤ F_c41 4 7 ∧ F_c41 4 7 ≤ 65536 from H.frng 4 7) (show F_c41 4 7 = yc41_4_7 from (eyc41_4_7))
      have hc56 : ∀ (ls : rO) (σ : rS) (F_c56 : hF) (A_c56 : hA) , rlook ls 0 = some (.ref (D 4)) → rlook ls 1 = some (I (a1)) → rlook ls 2 = some (I (a2)) → rlook ls 3 = some (I (a3)) → rlook ls 4 = some (I (a4)) → HS σ0 σ D N F_c56 A_c56 → SF [(4, 6), (4, 7)] F_c41 F_c56 → SA [] A_c41 A_c56 → ∀ yc56_4_6 : Int, F_c56 4 6 = yc56_4_6 → ∀ yc56_4_7 : Int, F_c56 4 7 = yc56_4_7 → (2 ≤ (a4) ∨ (yc56_4_7) = 0 ∨ (a1) ≤ (yc56_4_6) ∧ (yc56_4_6) < (a2) ∧ 4 ≤ (yc56_4_7) ∧ (yc56_4_7) ≤ (a3) - (a2)) → (IMP ((a4) < 2) (MTL (shf ((w14)) ((a1))) ((a3) - (a1)) 65535 4 ((a4)) ((a3) - (a1) - 4) ((a2) - (a1)) ((yc56_4_7)) ((a2) - (yc56_4_6)))) → (IMP ((a4) = 3) (∃ d1, LGQ (shf ((w14)) ((a1))) ((a3) - (a1)) 65535 4 ((a2) - (a1) + 1) ((yc56_4_7)) d1)) → Ew 326 (d + 2) 56 ls [] σ c s Q := by
       as_aux_lemma =>
        intro  ls σ F_c56 A_c56  lc56_0 lc56_1 lc56_2 lc56_3 lc56_4 H hS_c56 hA_c56 yc56_4_6 eyc56_4_6 yc56_4_7 eyc56_4_7  jc56_0 jc56_1 jc56_2
        have r7 : (0 : Int) ≤ yc56_4_6 ∧ yc56_4_6 ≤ 65536 := rngE (show (0 : Int) ≤ F_c56 4 6 ∧ F_c56 4 6 ≤ 65536 from H.frng 4 6) (show F_c56 4 6 = yc56_4_6 from (eyc56_4_6))
        have r8 : (0 : Int) ≤ yc56_4_7 ∧ yc56_4_7 ≤ 65536 := rngE (show (0 : Int) ≤ F_c56 4 7 ∧ F_c56 4 7 ≤ 65536 from H.frng 4 7) (show F_c56 4 7 = yc56_4_7 from (eyc56_4_7))
        have k56 : IMP ((a4) < 2) (MTL (shf ((w14)) ((a1))) ((a3) - (a1)) 65535 4 ((a4)) ((a3) - (a1) - 4) ((a2) - (a1)) ((yc56_4_7)) ((a2) - (yc56_4_6))) := jc56_1
        have k563 : IMP ((a4) = 3) (∃ d1, LGQ (shf ((w14)) ((a1))) ((a3) - (a1)) 65535 4 ((a2) - (a1) + 1) ((yc56_4_7)) d1) := by assumption
        refine Ew_of (pcₚ := 57) (fun _ => x_aload_n rfl lc56_0) ?_
        refine w_gI H (o := 4) (w := yc56_4_7) rfl (H.perm 4 rfl) rfl rfl rfl (fun _ => rfl) (eyc56_4_7) ?_
        refine Ew_of (pcₚ := 62) (fun _ => x_istore rfl) ?_
        have hc75 : ∀ (ls : rO) (σ : rS) (F_c75 : hF) (A_c75 : hA) , rlook ls 0 = some (.ref (D 4)) → rlook ls 4 = some (I (a4)) → rlook ls 5 = some (I (yc56_4_7)) → HS σ0 σ D N F_c75 A_c75 → SF [(4, 6), (4, 7)] F_c56 F_c75 → SA [] A_c56 A_c75 → ∀ yc75_4_6 : Int, F_c75 4 6 = yc75_4_6 → ∀ yc75_4_7 : Int, F_c75 4 7 = yc75_4_7 → ((yc75_4_7) = 0 ∨ (a1) ≤ (yc75_4_6) ∧ (yc75_4_6) < (a2) ∧ 4 ≤ (yc75_4_7) ∧ (yc75_4_7) ≤ (a3) - (a2)) → (0 ≤ (yc75_4_7) ∨ (a4) < 2) → (IMP ((a4) < 2) (MTL (shf ((w14)) ((a1))) ((a3) - (a1)) 65535 4 ((a4)) ((a3) - (a1) - 4) ((a2) - (a1)) ((yc75_4_7)) ((a2) - (yc75_4_6)))) → (IMP (2 ≤ (a4)) (LGQ (shf ((w14)) ((a1))) ((a3) - (a1)) 65535 4 ((a2) - (a1)) ((yc75_4_7)) ((a2) - (yc75_4_6)))) → Ew 326 (d + 2) 75 ls [] σ c s Q := by
         as_aux_lemma =>
          intro  ls σ F_c75 A_c75  lc75_0 lc75_4 lc75_5 H hS_c75 hA_c75 yc75_4_6 eyc75_4_6 yc75_4_7 eyc75_4_7  jc75_0 jc75_1 jc75_2 jc75_3
          have r9 : (0 : Int) ≤ yc75_4_6 ∧ yc75_4_6 ≤ 65536 := rngE (show (0 : Int) ≤ F_c75 4 6 ∧ F_c75 4 6 ≤ 65536 from H.frng 4 6) (show F_c75 4 6 = yc75_4_6 from (eyc75_4_6))
          have r10 : (0 : Int) ≤ yc75_4_7 ∧ yc75_4_7 ≤ 65536 := rngE (show (0 : Int) ≤ F_c75 4 7 ∧ F_c75 4 7 ≤ 65536 from H.frng 4 7) (show F_c75 4 7 = yc75_4_7 from (eyc75_4_7))
          have k75 : IMP ((a4) < 2) (MTL (shf ((w14)) ((a1))) ((a3) - (a1)) 65535 4 ((a4)) ((a3) - (a1) - 4) ((a2) - (a1)) ((yc75_4_7)) ((a2) - (yc75_4_6))) := jc75_2
          have k752 : IMP (2 ≤ (a4)) (LGQ (shf ((w14)) ((a1))) ((a3) - (a1)) 65535 4 ((a2) - (a1)) ((yc75_4_7)) ((a2) - (yc75_4_6))) := jc75_3
          refine Ew_of (pcₚ := 77) (fun _ => x_iload rfl lc75_4) ?_
          refine Ew_of (pcₚ := 78) (fun _ => x_iconst rfl) ?_
          refine w_icmpne (t := 95) rfl rfl (show inr (a4) from h3) (show inr (3) from q_246) (fun b11 => ?_) (fun b11 => ?_)
          · have : MTL (shf ((w14)) ((a1))) ((a3) - (a1)) 65535 4 ((a4)) ((a3) - (a1) - 4) ((a2) - (a1)) ((yc75_4_7)) ((a2) - (yc75_4_6)) := by rcases (show (a4) < 2 ∨ (a4) = 2 ∨ (a4) = 3 by omega) with z | z | z; (exact k75 z); ((have h := k752 (by omega); rw [z]; exact MTG_2 h)); (obtain ⟨d1, h1⟩ := k563 z; rw [z]; exact MTG_3 (k752 (by omega)) h1 rfl (by omega) (by omega))
            exact w_ret rfl (k σ _ _ H (SF_trans (SF_trans (SF_trans (SF_trans (SF_refl) hS_c15 (any_sub rfl)) hS_c41 (any_sub rfl)) hS_c56 (any_sub rfl)) hS_c75 (any_sub rfl)) (SA_trans (SA_trans (SA_trans (SA_trans (SA_refl) hA_c15 (any_subA rfl)) hA_c41 (any_subA rfl)) hA_c56 (any_subA rfl)) hA_c75 (any_subA rfl)) (yc75_4_6) ((eyc75_4_6)) (yc75_4_7) ((eyc75_4_7)) (show (yc75_4_7) = 0 ∨ a1 ≤ (yc75_4_6) ∧ (yc75_4_6) < a2 ∧ 4 ≤ (yc75_4_7) ∧ (yc75_4_7) ≤ a3 - a2 from jc75_0) (show MTL (shf ((w14)) (a1)) (a3 - a1) 65535 4 (a4) (a3 - a1 - 4) (a2 - a1) ((yc75_4_7)) (a2 - (yc75_4_6)) by assumption))
          · refine Ew_of (pcₚ := 83) (fun _ => x_iload rfl lc75_5) ?_
            refine Ew_of (pcₚ := 84) (fun _ => x_aload_n rfl lc75_0) ?_
            refine w_gI H (o := 4) (w := yc75_4_7) rfl (H.perm 4 rfl) rfl rfl rfl (fun _ => rfl) (eyc75_4_7) ?_
            refine w_icmple (t := 95) rfl rfl (show inr (yc56_4_7) from q_286 r8) (show inr (yc75_4_7) from q_286 r10) (fun b12 => ?_) (fun b12 => ?_)
            · have : MTL (shf ((w14)) ((a1))) ((a3) - (a1)) 65535 4 ((a4)) ((a3) - (a1) - 4) ((a2) - (a1)) ((yc75_4_7)) ((a2) - (yc75_4_6)) := by rcases (show (a4) < 2 ∨ (a4) = 2 ∨ (a4) = 3 from q_858 b11) with z | z | z; (exact k75 z); ((have h := k752 (by omega); rw [z]; exact MTG_2 h)); (obtain ⟨d1, h1⟩ := k563 z; rw [z]; exact MTG_3 (k752 (by omega)) h1 rfl (by omega) (by omega))
              exact w_ret rfl (k σ _ _ H (SF_trans (SF_trans (SF_trans (SF_trans (SF_refl) hS_c15 (any_sub rfl)) hS_c41 (any_sub rfl)) hS_c56 (any_sub rfl)) hS_c75 (any_sub rfl)) (SA_trans (SA_trans (SA_trans (SA_trans (SA_refl) hA_c15 (any_subA rfl)) hA_c41 (any_subA rfl)) hA_c56 (any_subA rfl)) hA_c75 (any_subA rfl)) (yc75_4_6) ((eyc75_4_6)) (yc75_4_7) ((eyc75_4_7)) (show (yc75_4_7) = 0 ∨ a1 ≤ (yc75_4_6) ∧ (yc75_4_6) < a2 ∧ 4 ≤ (yc75_4_7) ∧ (yc75_4_7) ≤ a3 - a2 from jc75_0) (show MTL (shf ((w14)) (a1)) (a3 - a1) 65535 4 (a4) (a3 - a1 - 4) (a2 - a1) ((yc75_4_7)) (a2 - (yc75_4_6)) by assumption))
            · refine Ew_of (pcₚ := 91) (fun _ => x_aload_n rfl lc75_0) ?_
              refine Ew_of (pcₚ := 92) (fun _ => x_iconst rfl) ?_
              refine w_pI H (o := 4) rfl rfl (H.perm 4 rfl) rfl rfl rfl (fun _ => rfl) rfl (show (0 : Int) ≤ 0 ∧ 0 ≤ 65536 from q_300) (fun σ H => ?_)
              have : MTL (shf ((w14)) ((a1))) ((a3) - (a1)) 65535 4 ((a4)) ((a3) - (a1) - 4) ((a2) - (a1)) ((0)) ((a2) - (yc75_4_6)) := by rcases (show (a4) < 2 ∨ (a4) = 2 ∨ (a4) = 3 from q_858 b11) with z | z | z; ((exfalso; omega)); ((exfalso; omega)); (obtain ⟨d1, h1⟩ := k563 z; rw [z]; exact MTG_3 (k752 (by omega)) h1 rfl (by omega) (by omega))
              exact w_ret rfl (k σ _ _ H (SF_upd (SF_trans (SF_trans (SF_trans (SF_trans (SF_refl) hS_c15 (any_sub rfl)) hS_c41 (any_sub rfl)) hS_c56 (any_sub rfl)) hS_c75 (any_sub rfl)) rfl) (SA_trans (SA_trans (SA_trans (SA_trans (SA_refl) hA_c15 (any_subA rfl)) hA_c41 (any_subA rfl)) hA_c56 (any_subA rfl)) hA_c75 (any_subA rfl)) (yc75_4_6) ((eyc75_4_6)) (0) (rfl) (show (0) = 0 ∨ a1 ≤ (yc75_4_6) ∧ (yc75_4_6) < a2 ∧ 4 ≤ (0) ∧ (0) ≤ a3 - a2 by first | exact q_856 | omega) (show MTL (shf ((w14)) (a1)) (a3 - a1) 65535 4 (a4) (a3 - a1 - 4) (a2 - a1) ((0)) (a2 - (yc75_4_6)) by assumption))
        refine Ew_of (pcₚ := 64) (fun _ => x_iload rfl (rk_o (lc56_4) rfl rfl)) ?_
        refine Ew_of (pcₚ := 65) (fun _ => x_iconst rfl) ?_
        refine w_icmplt (t := 75) rfl rfl (show inr (a4) from h3) (show inr (2) from q_122) (fun b13 => ?_) (fun b13 => ?_)
        · have : IMP ((a4) < 2) (MTL (shf ((w14)) ((a1))) ((a3) - (a1)) 65535 4 ((a4)) ((a3) - (a1) - 4) ((a2) - (a1)) ((yc56_4_7)) ((a2) - (yc56_4_6))) := by exact k56
          have : IMP (2 ≤ (a4)) (LGQ (shf ((w14)) ((a1))) ((a3) - (a1)) 65535 4 ((a2) - (a1)) ((yc56_4_7)) ((a2) - (yc56_4_6))) := by exact fun z => absurd z (by omega)
          exact hc75  _ σ _ _  (rk_o (lc56_0) rfl rfl) (rk_o (lc56_4) rfl rfl) (rk_s) H (SF_refl) (SA_refl) (yc56_4_6) ((eyc56_4_6)) (yc56_4_7) ((eyc56_4_7))  (show (yc56_4_7) = 0 ∨ (a1) ≤ (yc56_4_6) ∧ (yc56_4_6) < (a2) ∧ 4 ≤ (yc56_4_7) ∧ (yc56_4_7) ≤ (a3) - (a2) by omega) (show 0 ≤ (yc56_4_7) ∨ (a4) < 2 from q_859 r8) (k56) (show IMP (2 ≤ (a4)) (LGQ (shf ((w14)) ((a1))) ((a3) - (a1)) 65535 4 ((a2) - (a1)) ((yc56_4_7)) ((a2) - (yc56_4_6))) by assumption)
        · refine Ew_of (pcₚ := 69) (fun _ => x_aload_n rfl (rk_o (lc56_0) rfl rfl)) ?_
          refine Ew_of (pcₚ := 70) (fun _ => x_iload_n rfl (rk_o (lc56_1) rfl rfl)) ?_
          refine Ew_of (pcₚ := 71) (fun _ => x_iload_n rfl (rk_o (lc56_2) rfl rfl)) ?_
          refine Ew_of (pcₚ := 72) (fun _ => x_iload_n rfl (rk_o (lc56_3) rfl rfl)) ?_
          refine w_inv H (o := 4) rfl rfl rfl (H.perm 4 rfl) rfl rfl (by rfl) (M325 H (w14) ((funext (hA_c56 14 rfl)).trans ((funext (hA_c41 14 rfl)).trans ((funext (hA_c15 14 rfl)).trans (ew14)))) (show inr (a1) from h0) (show inr (a2) from h1) (show inr (a3) from h2) (show 0 ≤ (a1) ∧ (a1) ≤ (a2) ∧ (a2) ≤ (a3) ∧ (a3) ≤ 16384 from q_860 h4) (fun σ F14 A15 H hS16 hA17 y19 ey20 y21 ey22 pz18_0 pz18_1 pz18_2 => ⟨rfl, ?_⟩))
          have r23 : (0 : Int) ≤ y19 ∧ y19 ≤ 65536 := rngE (show (0 : Int) ≤ F14 4 6 ∧ F14 4 6 ≤ 65536 from H.frng 4 6) (show F14 4 6 = y19 from (ey20))
          have r24 : (0 : Int) ≤ y21 ∧ y21 ≤ 65536 := rngE (show (0 : Int) ≤ F14 4 7 ∧ F14 4 7 ≤ 65536 from H.frng 4 7) (show F14 4 7 = y21 from (ey22))
          have : IMP ((a4) < 2) (MTL (shf ((w14)) ((a1))) ((a3) - (a1)) 65535 4 ((a4)) ((a3) - (a1) - 4) ((a2) - (a1)) ((y21)) ((a2) - (y19))) := by exact fun z => absurd z (by omega)
          have : IMP (2 ≤ (a4)) (LGQ (shf ((w14)) ((a1))) ((a3) - (a1)) 65535 4 ((a2) - (a1)) ((y21)) ((a2) - (y19))) := by exact fun _ => pz18_1
          exact hc75  _ σ _ _  (rk_o (lc56_0) rfl rfl) (rk_o (lc56_4) rfl rfl) (rk_s) H (SF_trans (SF_refl) hS16 (any_sub rfl)) (SA_trans (SA_refl) hA17 (any_subA rfl)) (y19) ((ey20)) (y21) ((ey22))  (show (y21) = 0 ∨ (a1) ≤ (y19) ∧ (y19) < (a2) ∧ 4 ≤ (y21) ∧ (y21) ≤ (a3) - (a2) from pz18_0) (show 0 ≤ (y21) ∨ (a4) < 2 from q_859 r24) (show IMP ((a4) < 2) (MTL (shf ((w14)) ((a1))) ((a3) - (a1)) 65535 4 ((a4)) ((a3) - (a1) - 4) ((a2) - (a1)) ((y21)) ((a2) - (y19))) by assumption) (show IMP (2 ≤ (a4)) (LGQ (shf ((w14)) ((a1))) ((a3) - (a1)) 65535 4 ((a2) - (a1)) ((y21)) ((a2) - (y19))) by assumption)
      have k41 : IMP ((a4) < 2) (MTL (shf ((w14)) ((a1))) ((a3) - (a1)) 65535 4 ((a4)) ((a3) - (a1) - 4) ((a2) - (a1)) ((yc41_4_7)) ((a2) - (yc41_4_6))) := jc41_1
      refine Ew_of (pcₚ := 43) (fun _ => x_iload rfl lc41_4) ?_
      refine Ew_of (pcₚ := 44) (fun _ => x_iconst rfl) ?_
      refine w_icmpne (t := 56) rfl rfl (show inr (a4) from h3) (show inr (3) from q_246) (fun b25 => ?_) (fun b25 => ?_)
      · have : IMP ((a4) < 2) (MTL (shf ((w14)) ((a1))) ((a3) - (a1)) 65535 4 ((a4)) ((a3) - (a1) - 4) ((a2) - (a1)) ((yc41_4_7)) ((a2) - (yc41_4_6))) := by exact k41
        have : IMP ((a4) = 3) (∃ d1, LGQ (shf ((w14)) ((a1))) ((a3) - (a1)) 65535 4 ((a2) - (a1) + 1) ((yc41_4_7)) d1) := by exact fun z => absurd z (by omega)
        exact hc56  _ σ _ _  (lc41_0) (lc41_1) (lc41_2) (lc41_3) (lc41_4) H (SF_refl) (SA_refl) (yc41_4_6) ((eyc41_4_6)) (yc41_4_7) ((eyc41_4_7))  (show 2 ≤ (a4) ∨ (yc41_4_7) = 0 ∨ (a1) ≤ (yc41_4_6) ∧ (yc41_4_6) < (a2) ∧ 4 ≤ (yc41_4_7) ∧ (yc41_4_7) ≤ (a3) - (a2) from jc41_0) (k41) (show IMP ((a4) = 3) (∃ d1, LGQ (shf ((w14)) ((a1))) ((a3) - (a1)) 65535 4 ((a2) - (a1) + 1) ((yc41_4_7)) d1) by assumption)
      · refine Ew_of (pcₚ := 48) (fun _ => x_aload_n rfl lc41_0) ?_
        refine Ew_of (pcₚ := 49) (fun _ => x_iload_n rfl lc41_1) ?_
        refine Ew_of (pcₚ := 50) (fun _ => x_iload_n rfl lc41_2) ?_
        refine Ew_of (pcₚ := 51) (fun _ => x_iconst rfl) ?_
        refine w_iadd rfl ?_
        refine Ew_of (pcₚ := 53) (fun _ => x_iload_n rfl lc41_3) ?_
        refine w_inv H (o := 4) rfl rfl rfl (H.perm 4 rfl) rfl rfl (by rfl) (M325 H (w14) ((funext (hA_c41 14 rfl)).trans ((funext (hA_c15 14 rfl)).trans (ew14))) (show inr (a1) from h0) (show inr ((a2 + 1)) from q_862 h4) (show inr (a3) from h2) (show 0 ≤ (a1) ∧ (a1) ≤ ((a2 + 1)) ∧ ((a2 + 1)) ≤ (a3) ∧ (a3) ≤ 16384 from q_861 h4) (fun σ F26 A27 H hS28 hA29 y31 ey32 y33 ey34 pz30_0 pz30_1 pz30_2 => ⟨rfl, ?_⟩))
        have r35 : (0 : Int) ≤ y31 ∧ y31 ≤ 65536 := rngE (show (0 : Int) ≤ F26 4 6 ∧ F26 4 6 ≤ 65536 from H.frng 4 6) (show F26 4 6 = y31 from (ey32))
        have r36 : (0 : Int) ≤ y33 ∧ y33 ≤ 65536 := rngE (show (0 : Int) ≤ F26 4 7 ∧ F26 4 7 ≤ 65536 from H.frng 4 7) (show F26 4 7 = y33 from (ey34))
        have : IMP ((a4) < 2) (MTL (shf ((w14)) ((a1))) ((a3) - (a1)) 65535 4 ((a4)) ((a3) - (a1) - 4) ((a2) - (a1)) ((y33)) ((a2) - (y31))) := by exact fun z => absurd z (by omega)
        have : IMP ((a4) = 3) (∃ d1, LGQ (shf ((w14)) ((a1))) ((a3) - (a1)) 65535 4 ((a2) - (a1) + 1) ((y33)) d1) := by (exact fun _ => ⟨_, by have h := pz30_1; rw [show (a2) + 1 - (a1) = (a2) - (a1) + 1 by omega] at h; exact h⟩)
        exact hc56  _ σ _ _  (lc41_0) (lc41_1) (lc41_2) (lc41_3) (lc41_4) H (SF_trans (SF_refl) hS28 (any_sub rfl)) (SA_trans (SA_refl) hA29 (any_subA rfl)) (y31) ((ey32)) (y33) ((ey34))  (show 2 ≤ (a4) ∨ (y33) = 0 ∨ (a1) ≤ (y31) ∧ (y31) < (a2) ∧ 4 ≤ (y33) ∧ (y33) ≤ (a3) - (a2) from q_863 b25) (show IMP ((a4) < 2) (MTL (shf ((w14)) ((a1))) ((a3) - (a1)) 65535 4 ((a4)) ((a3) - (a1) - 4) ((a2) - (a1)) ((y33)) ((a2) - (y31))) by assumption) (show IMP ((a4) = 3) (∃ d1, LGQ (shf ((w14)) ((a1))) ((a3) - (a1)) 65535 4 ((a2) - (a1) + 1) ((y33)) d1) by assumption)
    have k15 : IMP ((a4) = 1) (NRQ (shf ((w14)) ((a1))) ((a3) - (a1)) 65535 8 ((a2) - (a1)) ((yc15_4_7)) ((a2) - (yc15_4_6))) := jc15_1
    refine Ew_of (pcₚ := 17) (fun _ => x_iload rfl lc15_4) ?_
    refine w_ifeq (t := 33) rfl rfl (show inr (a4) from h3) (fun b37 => ?_) (fun b37 => ?_)
    · refine Ew_of (pcₚ := 34) (fun _ => x_aload_n rfl lc15_0) ?_
      refine Ew_of (pcₚ := 35) (fun _ => x_iload_n rfl lc15_1) ?_
      refine Ew_of (pcₚ := 36) (fun _ => x_iload_n rfl lc15_2) ?_
      refine Ew_of (pcₚ := 37) (fun _ => x_iload_n rfl lc15_3) ?_
      refine Ew_of (pcₚ := 38) (fun _ => x_iconst rfl) ?_
      refine w_inv H (o := 4) rfl rfl rfl (H.perm 4 rfl) rfl rfl (by rfl) (M324 H (w14) ((funext (hA_c15 14 rfl)).trans (ew14)) (show inr (a1) from h0) (show inr (a2) from h1) (show inr (a3) from h2) (show inr (4) from q_216) (show 0 ≤ (a1) ∧ (a1) ≤ (a2) ∧ (a2) ≤ (a3) ∧ (a3) ≤ 16384 from q_860 h4) (show 4 ≤ (4) ∧ (4) ≤ 8 from q_864) (fun σ F38 A39 H hS40 hA41 y43 ey44 y45 ey46 pz42_0 pz42_1 => ⟨rfl, ?_⟩))
      have r47 : (0 : Int) ≤ y43 ∧ y43 ≤ 65536 := rngE (show (0 : Int) ≤ F38 4 6 ∧ F38 4 6 ≤ 65536 from H.frng 4 6) (show F38 4 6 = y43 from (ey44))
      have r48 : (0 : Int) ≤ y45 ∧ y45 ≤ 65536 := rngE (show (0 : Int) ≤ F38 4 7 ∧ F38 4 7 ≤ 65536 from H.frng 4 7) (show F38 4 7 = y45 from (ey46))
      have : IMP ((a4) < 2) (MTL (shf ((w14)) ((a1))) ((a3) - (a1)) 65535 4 ((a4)) ((a3) - (a1) - 4) ((a2) - (a1)) ((y45)) ((a2) - (y43))) := by (intro z; rcases (show (a4) = 0 ∨ (a4) = 1 from q_750 b37) with y | y; (rw [y]; exact MTG_0 pz42_1); (rw [y]; exact MTG_1 (k15 y) (by omega) pz42_1))
      exact hc41  _ σ _ _  (lc15_0) (lc15_1) (lc15_2) (lc15_3) (lc15_4) H (SF_trans (SF_refl) hS40 (any_sub rfl)) (SA_trans (SA_refl) hA41 (any_subA rfl)) (y43) ((ey44)) (y45) ((ey46))  (show 2 ≤ (a4) ∨ (y45) = 0 ∨ (a1) ≤ (y43) ∧ (y43) < (a2) ∧ 4 ≤ (y45) ∧ (y45) ≤ (a3) - (a2) from q_865 pz42_0) (show IMP ((a4) < 2) (MTL (shf ((w14)) ((a1))) ((a3) - (a1)) 65535 4 ((a4)) ((a3) - (a1) - 4) ((a2) - (a1)) ((y45)) ((a2) - (y43))) by assumption)
    · refine Ew_of (pcₚ := 22) (fun _ => x_iload rfl lc15_4) ?_
      refine Ew_of (pcₚ := 23) (fun _ => x_iconst rfl) ?_
      refine w_icmpne (t := 41) rfl rfl (show inr (a4) from h3) (show inr (1) from q_135) (fun b49 => ?_) (fun b49 => ?_)
      · have : IMP ((a4) < 2) (MTL (shf ((w14)) ((a1))) ((a3) - (a1)) 65535 4 ((a4)) ((a3) - (a1) - 4) ((a2) - (a1)) ((yc15_4_7)) ((a2) - (yc15_4_6))) := by (intro z; rcases (show (a4) = 1 by omega) with y; rw [y]; exact MTG_8 (k15 y) (by omega))
        exact hc41  _ σ _ _  (lc15_0) (lc15_1) (lc15_2) (lc15_3) (lc15_4) H (SF_refl) (SA_refl) (yc15_4_6) ((eyc15_4_6)) (yc15_4_7) ((eyc15_4_7))  (show 2 ≤ (a4) ∨ (yc15_4_7) = 0 ∨ (a1) ≤ (yc15_4_6) ∧ (yc15_4_6) < (a2) ∧ 4 ≤ (yc15_4_7) ∧ (yc15_4_7) ≤ (a3) - (a2) by omega) (show IMP ((a4) < 2) (MTL (shf ((w14)) ((a1))) ((a3) - (a1)) 65535 4 ((a4)) ((a3) - (a1) - 4) ((a2) - (a1)) ((yc15_4_7)) ((a2) - (yc15_4_6))) by assumption)
      · refine Ew_of (pcₚ := 27) (fun _ => x_aload_n rfl lc15_0) ?_
        refine w_gI H (o := 4) (w := yc15_4_7) rfl (H.perm 4 rfl) rfl rfl rfl (fun _ => rfl) (eyc15_4_7) ?_
        refine w_ifne (t := 41) rfl rfl (show inr (yc15_4_7) from q_286 r4) (fun b50 => ?_) (fun b50 => ?_)
        · have : IMP ((a4) < 2) (MTL (shf ((w14)) ((a1))) ((a3) - (a1)) 65535 4 ((a4)) ((a3) - (a1) - 4) ((a2) - (a1)) ((yc15_4_7)) ((a2) - (yc15_4_6))) := by (intro z; rcases (show (a4) = 1 from b49) with y; rw [y]; exact MTG_8 (k15 y) (by omega))
          exact hc41  _ σ _ _  (lc15_0) (lc15_1) (lc15_2) (lc15_3) (lc15_4) H (SF_refl) (SA_refl) (yc15_4_6) ((eyc15_4_6)) (yc15_4_7) ((eyc15_4_7))  (show 2 ≤ (a4) ∨ (yc15_4_7) = 0 ∨ (a1) ≤ (yc15_4_6) ∧ (yc15_4_6) < (a2) ∧ 4 ≤ (yc15_4_7) ∧ (yc15_4_7) ≤ (a3) - (a2) by omega) (show IMP ((a4) < 2) (MTL (shf ((w14)) ((a1))) ((a3) - (a1)) 65535 4 ((a4)) ((a3) - (a1) - 4) ((a2) - (a1)) ((yc15_4_7)) ((a2) - (yc15_4_6))) by assumption)
        · refine Ew_of (pcₚ := 34) (fun _ => x_aload_n rfl lc15_0) ?_
          refine Ew_of (pcₚ := 35) (fun _ => x_iload_n rfl lc15_1) ?_
          refine Ew_of (pcₚ := 36) (fun _ => x_iload_n rfl lc15_2) ?_
          refine Ew_of (pcₚ := 37) (fun _ => x_iload_n rfl lc15_3) ?_
          refine Ew_of (pcₚ := 38) (fun _ => x_iconst rfl) ?_
          refine w_inv H (o := 4) rfl rfl rfl (H.perm 4 rfl) rfl rfl (by rfl) (M324 H (w14) ((funext (hA_c15 14 rfl)).trans (ew14)) (show inr (a1) from h0) (show inr (a2) from h1) (show inr (a3) from h2) (show inr (4) from q_216) (show 0 ≤ (a1) ∧ (a1) ≤ (a2) ∧ (a2) ≤ (a3) ∧ (a3) ≤ 16384 from q_860 h4) (show 4 ≤ (4) ∧ (4) ≤ 8 from q_864) (fun σ F51 A52 H hS53 hA54 y56 ey57 y58 ey59 pz55_0 pz55_1 => ⟨rfl, ?_⟩))
          have r60 : (0 : Int) ≤ y56 ∧ y56 ≤ 65536 := rngE (show (0 : Int) ≤ F51 4 6 ∧ F51 4 6 ≤ 65536 from H.frng 4 6) (show F51 4 6 = y56 from (ey57))
          have r61 : (0 : Int) ≤ y58 ∧ y58 ≤ 65536 := rngE (show (0 : Int) ≤ F51 4 7 ∧ F51 4 7 ≤ 65536 from H.frng 4 7) (show F51 4 7 = y58 from (ey59))
          have : IMP ((a4) < 2) (MTL (shf ((w14)) ((a1))) ((a3) - (a1)) 65535 4 ((a4)) ((a3) - (a1) - 4) ((a2) - (a1)) ((y58)) ((a2) - (y56))) := by (intro z; rcases (show (a4) = 0 ∨ (a4) = 1 from q_866 b49) with y | y; (rw [y]; exact MTG_0 pz55_1); (rw [y]; exact MTG_1 (k15 y) (by omega) pz55_1))
          exact hc41  _ σ _ _  (lc15_0) (lc15_1) (lc15_2) (lc15_3) (lc15_4) H (SF_trans (SF_refl) hS53 (any_sub rfl)) (SA_trans (SA_refl) hA54 (any_subA rfl)) (y56) ((ey57)) (y58) ((ey59))  (show 2 ≤ (a4) ∨ (y58) = 0 ∨ (a1) ≤ (y56) ∧ (y56) < (a2) ∧ 4 ≤ (y58) ∧ (y58) ≤ (a3) - (a2) from q_865 pz55_0) (show IMP ((a4) < 2) (MTL (shf ((w14)) ((a1))) ((a3) - (a1)) 65535 4 ((a4)) ((a3) - (a1) - 4) ((a2) - (a1)) ((y58)) ((a2) - (y56))) by assumption)
  refine Ew_of (pcₚ := 2) (fun _ => x_iload rfl rfl) ?_
  refine Ew_of (pcₚ := 3) (fun _ => x_iconst rfl) ?_
  refine w_icmpne (t := 15) rfl rfl (show inr (a4) from h3) (show inr (1) from q_135) (fun b62 => ?_) (fun b62 => ?_)
  · have : IMP ((a4) = 1) (NRQ (shf ((w14)) ((a1))) ((a3) - (a1)) 65535 8 ((a2) - (a1)) ((F 4 7)) ((a2) - (F 4 6))) := by exact fun z => absurd z (by omega)
    exact hc15  _ σ _ _  (rfl) (rfl) (rfl) (rfl) (rfl) H (SF_refl) (SA_refl) (F 4 6) (rfl) (F 4 7) (rfl)  (show (a4) ≠ 1 ∨ (F 4 7) = 0 ∨ (a1) ≤ (F 4 6) ∧ (F 4 6) < (a2) ∧ 8 ≤ (F 4 7) ∧ (F 4 7) ≤ (a3) - (a2) from q_867 b62) (show IMP ((a4) = 1) (NRQ (shf ((w14)) ((a1))) ((a3) - (a1)) 65535 8 ((a2) - (a1)) ((F 4 7)) ((a2) - (F 4 6))) by assumption)
  · refine Ew_of (pcₚ := 7) (fun _ => x_aload_n rfl rfl) ?_
    refine Ew_of (pcₚ := 8) (fun _ => x_iload_n rfl rfl) ?_
    refine Ew_of (pcₚ := 9) (fun _ => x_iload_n rfl rfl) ?_
    refine Ew_of (pcₚ := 10) (fun _ => x_iload_n rfl rfl) ?_
    refine Ew_of (pcₚ := 12) (fun _ => x_bipush (z := 8) rfl (by decide)) ?_
    refine w_inv H (o := 4) rfl rfl rfl (H.perm 4 rfl) rfl rfl (by rfl) (M324 H (w14) (ew14) (show inr (a1) from h0) (show inr (a2) from h1) (show inr (a3) from h2) (show inr (8) from q_141) (show 0 ≤ (a1) ∧ (a1) ≤ (a2) ∧ (a2) ≤ (a3) ∧ (a3) ≤ 16384 from q_860 h4) (show 4 ≤ (8) ∧ (8) ≤ 8 from q_868) (fun σ F63 A64 H hS65 hA66 y68 ey69 y70 ey71 pz67_0 pz67_1 => ⟨rfl, ?_⟩))
    have r72 : (0 : Int) ≤ y68 ∧ y68 ≤ 65536 := rngE (show (0 : Int) ≤ F63 4 6 ∧ F63 4 6 ≤ 65536 from H.frng 4 6) (show F63 4 6 = y68 from (ey69))
    have r73 : (0 : Int) ≤ y70 ∧ y70 ≤ 65536 := rngE (show (0 : Int) ≤ F63 4 7 ∧ F63 4 7 ≤ 65536 from H.frng 4 7) (show F63 4 7 = y70 from (ey71))
    have : IMP ((a4) = 1) (NRQ (shf ((w14)) ((a1))) ((a3) - (a1)) 65535 8 ((a2) - (a1)) ((y70)) ((a2) - (y68))) := by exact fun _ => pz67_1
    exact hc15  _ σ _ _  (rfl) (rfl) (rfl) (rfl) (rfl) H (SF_trans (SF_refl) hS65 (any_sub rfl)) (SA_trans (SA_refl) hA66 (any_subA rfl)) (y68) ((ey69)) (y70) ((ey71))  (show (a4) ≠ 1 ∨ (y70) = 0 ∨ (a1) ≤ (y68) ∧ (y68) < (a2) ∧ 8 ≤ (y70) ∧ (y70) ≤ (a3) - (a2) from q_869 pz67_0) (show IMP ((a4) = 1) (NRQ (shf ((w14)) ((a1))) ((a3) - (a1)) 65535 8 ((a2) - (a1)) ((y70)) ((a2) - (y68))) by assumption)

theorem M342 {σ0 σ : rS} {D N : Nat → Nat} {F : hF} {A : hA} {d c s : Nat} {Q : wQ} (H : HS σ0 σ D N F A)  (u1_1 : Int) (eu1_1 : F 1 1 = u1_1) (k : ∀ σ Fₚ Aₚ, HS σ0 σ D N Fₚ Aₚ → SF [(4, 2), (4, 8), (4, 9), (4, 10)] F Fₚ → SA [] A Aₚ → ∀ y4_2 : Int, Fₚ 4 2 = y4_2 → ∀ y4_8 : Int, Fₚ 4 8 = y4_8 → ∀ y4_9 : Int, Fₚ 4 9 = y4_9 → ∀ y4_10 : Int, Fₚ 4 10 = y4_10 → ((y4_8) = 0 ∧ (y4_9) = (u1_1) ∧ (y4_10) = 0 ∧ (y4_2) = 0) → Q none σ c s) : Ew 342 (d + 0) 0 (rargs 0 [.ref (D 4)]) [] σ c s Q := by
  have r1 : (0 : Int) ≤ u1_1 ∧ u1_1 ≤ 65536 := rngE (show (0 : Int) ≤ F 1 1 ∧ F 1 1 ≤ 65536 from H.frng 1 1) (show F 1 1 = u1_1 from (eu1_1))
  refine Ew_of (pcₚ := 1) (fun _ => x_aload_n rfl rfl) ?_
  refine Ew_of (pcₚ := 2) (fun _ => x_iconst rfl) ?_
  refine w_pI H (o := 4) rfl rfl (H.perm 4 rfl) rfl rfl rfl (fun _ => rfl) rfl (show (0 : Int) ≤ 0 ∧ 0 ≤ 65536 from q_300) (fun σ H => ?_)
  refine Ew_of (pcₚ := 6) (fun _ => x_aload_n rfl rfl) ?_
  refine Ew_of (pcₚ := 7) (fun _ => x_aload_n rfl rfl) ?_
  refine w_gT H (o := 4) (t := 1) rfl (H.perm 4 rfl) rfl rfl rfl rfl rfl rfl ?_
  refine w_gI H (o := 1) (w := u1_1) rfl (H.perm 1 rfl) rfl rfl rfl (fun _ => rfl) (eu1_1) ?_
  refine w_pI H (o := 4) rfl rfl (H.perm 4 rfl) rfl rfl rfl (fun _ => rfl) rfl (show (0 : Int) ≤ u1_1 ∧ u1_1 ≤ 65536 from r1) (fun σ H => ?_)
  refine Ew_of (pcₚ := 17) (fun _ => x_aload_n rfl rfl) ?_
  refine Ew_of (pcₚ := 18) (fun _ => x_iconst rfl) ?_
  refine w_pI H (o := 4) rfl rfl (H.perm 4 rfl) rfl rfl rfl (fun _ => rfl) rfl (show (-2147483648 : Int) ≤ 0 ∧ 0 ≤ 2147483647 from q_22) (fun σ H => ?_)
  refine Ew_of (pcₚ := 22) (fun _ => x_aload_n rfl rfl) ?_
  refine Ew_of (pcₚ := 23) (fun _ => x_iconst rfl) ?_
  refine w_pI H (o := 4) rfl rfl (H.perm 4 rfl) rfl rfl rfl (fun _ => rfl) rfl (show (-2147483648 : Int) ≤ 0 ∧ 0 ≤ 2147483647 from q_22) (fun σ H => ?_)
  exact w_ret rfl (k σ _ _ H (SF_upd (SF_upd (SF_upd (SF_upd (SF_refl) rfl) rfl) rfl) rfl) (SA_refl) (0) (rfl) (0) (rfl) (u1_1) (rfl) (0) (rfl) (show (0) = 0 ∧ (u1_1) = (u1_1) ∧ (0) = 0 ∧ (0) = 0 by first | exact q_870 | omega))

theorem M349 {σ0 σ : rS} {D N : Nat → Nat} {F : hF} {A : hA} {d c s : Nat} {Q : wQ} (H : HS σ0 σ D N F A) {a1 : Int} (w14 : Int → Int) (ew14 : A 14 = w14) (h0 : inr (a1)) (h1 : 0 ≤ (a1) ∧ (a1) < 65536) (k : ∀ (z : Int) σ Fₚ Aₚ, HS σ0 σ D N Fₚ Aₚ → SF [] F Fₚ → SA [] A Aₚ → (inr (z)) → (0 ≤ (z) ∧ (z) ≤ 255) → ((z) = ((w14)) ((a1))) → Q (some (I z)) σ c s) : Ew 349 (d + 0) 0 (rargs 0 [.ref (D 4), I a1]) [] σ c s Q := by
  refine Ew_of (pcₚ := 1) (fun _ => x_aload_n rfl rfl) ?_
  refine w_gT H (o := 4) (t := 1) rfl (H.perm 4 rfl) rfl rfl rfl rfl rfl rfl ?_
  refine w_gT H (o := 1) (t := 14) rfl (H.perm 1 rfl) rfl rfl rfl rfl rfl rfl ?_
  refine Ew_of (pcₚ := 8) (fun _ => x_iload_n rfl rfl) ?_
  refine w_lI H (o := 14) (n := 65536) rfl (H.perm 14 rfl) rfl rfl (H.fix 14 rfl rfl) (show 0 ≤ a1 ∧ a1 < ((65536 : Nat) : Int) from q_871 h1) (by decide) (fun v1 ev1 qv1 => ?_)
  have qv1 : (0 : Int) ≤ v1 ∧ v1 ≤ 255 := qv1
  have ev1 : (w14) (a1) = v1 := (congrFun (ew14) (a1)).symm.trans ev1
  have hv := ev1
  refine Ew_of (pcₚ := 12) (fun _ => x_sipush (z := 255) rfl (by decide)) ?_
  refine w_iandE rfl (show inr (v1) from q_299 qv1) (show inr (255) from q_297) (fun z2 gz2 gaz2 gbz2 gez2 => ?_)
  have hz := gez2
  have : (z2) = ((w14)) ((a1)) := by rw [hv, ← hz, andI_255, u8_id (by omega)]
  exact w_ireturn rfl (k (z2) σ _ _ H (SF_refl) (SA_refl) (show inr (z2) from gz2) (show 0 ≤ (z2) ∧ (z2) ≤ 255 from q_872 gaz2 qv1) (show (z2) = ((w14)) (a1) by assumption))

theorem M345_23 {σ0 σ : rS} {D N : Nat → Nat} {F : hF} {A : hA} {d c s : Nat} {Q : wQ} (H : HS σ0 σ D N F A) {a2 a3 : Int} (w23 : Int → Int) (ew23 : A 23 = w23) (h0 : inr (a2)) (h1 : inr (a3)) (h2 : 0 ≤ (a2) ∧ (a2) ≤ (a3) ∧ (a3) ≤ 70000) (k : ∀ (z : Int) σ Fₚ Aₚ, HS σ0 σ D N Fₚ Aₚ → SF [] F Fₚ → SA [] A Aₚ → (inr (z)) → ((z) = adI (rtI (POL ((w23)) ((a2)) ((a3) - (a2))) 17) (-1568478504)) → Q (some (I z)) σ c s) : Ew 345 (d + 0) 0 (rargs 0 [.ref (D 23), I a2, I a3]) [] σ c s Q := by
  refine Ew_of (pcₚ := 1) (fun _ => x_iconst rfl) ?_
  refine Ew_of (pcₚ := 2) (fun _ => x_istore_n rfl) ?_
  refine Ew_of (pcₚ := 3) (fun _ => x_iload_n rfl (rk_o (rfl) rfl rfl)) ?_
  refine Ew_of (pcₚ := 5) (fun _ => x_istore rfl) ?_
  have : PRI ((w23)) ((a2)) ((a3)) ((a2)) (-1) := PRI_0
  suffices hl5 : ∀ (m : Nat), ∀ (ls : rO) (σ : rS) (F_5 : hF) (A_5 : hA) (x5_3 : Int) (x5_4 : Int), rlook ls 0 = some (.ref (D 23)) → rlook ls 2 = some (I (a3)) → rlook ls 3 = some (I (x5_3)) → rlook ls 4 = some (I (x5_4)) → HS σ0 σ D N F_5 A_5 → SF [] F F_5 → SA [] A A_5 → (inr (x5_3)) → (inr (x5_4)) → ((a2) ≤ (x5_4)) → ((x5_4) ≤ (a2) ∨ (x5_4) ≤ ((a3))) → (PRI ((w23)) ((a2)) ((a3)) ((x5_4)) ((x5_3))) → (((a3)) - (x5_4)).toNat = m → Ew 345 (d + 0) 5 ls [] σ c s Q from
    hl5 _ _ σ _ _ ((-1)) (a2) (rk_o (rk_o (rfl) rfl rfl) rfl rfl) (rk_o (rk_o (rfl) rfl rfl) rfl rfl) (rk_o (rk_s) rfl rfl) (rk_s) H (SF_refl) (SA_refl)   (show inr ((-1)) from q_63) (show inr (a2) from h0) (show (a2) ≤ (a2) from q_43) (show (a2) ≤ (a2) ∨ (a2) ≤ ((a3)) from q_156) (show PRI ((w23)) ((a2)) ((a3)) ((a2)) (((-1))) by assumption) rfl
  as_aux_lemma =>
  intro m
  induction m using Nat.strongRecOn with
  | _ m ih5 =>
    intro ls σ F_5 A_5 x5_3 x5_4 l5_0 l5_2 l5_3 l5_4 H hS_5 hA_5   j5_0 j5_1 j5_2 j5_3 j5_4 hm5
    have j5_q : PRI ((w23)) ((a2)) ((a3)) ((x5_4)) ((x5_3)) := j5_4
    refine Ew_of (pcₚ := 7) (fun _ => x_iload rfl l5_4) ?_
    refine Ew_of (pcₚ := 8) (fun _ => x_iload_n rfl l5_2) ?_
    refine w_icmpge (t := 68) rfl rfl (show inr (x5_4) from j5_1) (show inr (a3) from h1) (fun b1 => ?_) (fun b1 => ?_)
    · refine Ew_of (pcₚ := 69) (fun _ => x_iload_n rfl l5_3) ?_
      refine Ew_of (pcₚ := 70) (fun _ => x_iconst rfl) ?_
      refine w_ixorE rfl ?_
      have g2 : inr (xoI (x5_3) ((-1))) := toI_inr _
      have hpl : ((xoI (x5_3) ((-1)))) = POL ((w23)) ((a2)) ((a3) - (a2)) := PRI_e j5_q (by omega)
      refine Ew_of (pcₚ := 72) (fun _ => x_istore_n rfl) ?_
      refine Ew_of (pcₚ := 73) (fun _ => x_iload_n rfl rk_s) ?_
      refine Ew_of (pcₚ := 75) (fun _ => x_bipush (z := 17) rfl (by decide)) ?_
      refine w_ishlE rfl ?_
      have g3 : inr (slI ((xoI (x5_3) ((-1)))) (17)) := toI_inr _
      refine Ew_of (pcₚ := 77) (fun _ => x_iload_n rfl rk_s) ?_
      refine Ew_of (pcₚ := 79) (fun _ => x_bipush (z := 15) rfl (by decide)) ?_
      refine w_iushrE rfl ?_
      have g4 : inr (usI ((xoI (x5_3) ((-1)))) (15)) := toI_inr _
      refine w_iorE rfl ?_
      have g5 : inr (orI ((slI ((xoI (x5_3) ((-1)))) (17))) ((usI ((xoI (x5_3) ((-1)))) (15)))) := toI_inr _
      refine Ew_of (pcₚ := 83) (fun _ => x_ldc (z := -1568478504) rfl (by decide)) ?_
      refine w_iaddE rfl ?_
      have g6 : inr (adI ((orI ((slI ((xoI (x5_3) ((-1)))) (17))) ((usI ((xoI (x5_3) ((-1)))) (15))))) ((-1568478504))) := toI_inr _
      have : ((adI ((orI ((slI ((xoI (x5_3) ((-1)))) (17))) ((usI ((xoI (x5_3) ((-1)))) (15))))) ((-1568478504)))) = adI (rtI (POL ((w23)) ((a2)) ((a3) - (a2))) 17) (-1568478504) := by rw [← hpl]; rfl
      exact w_ireturn rfl (k ((adI ((orI ((slI ((xoI (x5_3) ((-1)))) (17))) ((usI ((xoI (x5_3) ((-1)))) (15))))) ((-1568478504)))) σ _ _ H (SF_trans (SF_refl) hS_5 (any_sub rfl)) (SA_trans (SA_refl) hA_5 (any_subA rfl)) (show inr ((adI ((orI ((slI ((xoI (x5_3) ((-1)))) (17))) ((usI ((xoI (x5_3) ((-1)))) (15))))) ((-1568478504)))) from g6) (show ((adI ((orI ((slI ((xoI (x5_3) ((-1)))) (17))) ((usI ((xoI (x5_3) ((-1)))) (15))))) ((-1568478504)))) = adI (rtI (POL ((w23)) (a2) (a3 - a2)) 17) (-1568478504) by assumption))
    · refine Ew_of (pcₚ := 12) (fun _ => x_iconst rfl) ?_
      refine Ew_of (pcₚ := 14) (fun _ => x_istore rfl) ?_
      have : PXI ((w23)) ((a2)) ((a3)) ((x5_4)) (0) ((x5_3)) := PXI_0 j5_q
      suffices hl14 : ∀ (m : Nat), ∀ (ls : rO) (σ : rS) (F_14 : hF) (A_14 : hA) (x14_3 : Int) (x14_5 : Int), rlook ls 0 = some (.ref (D 23)) → rlook ls 2 = some (I (a3)) → rlook ls 3 = some (I (x14_3)) → rlook ls 4 = some (I (x5_4)) → rlook ls 5 = some (I (x14_5)) → HS σ0 σ D N F_14 A_14 → SF [] F_5 F_14 → SA [] A_5 A_14 → (inr (x14_3)) → (inr (x14_5)) → ((0) ≤ (x14_5)) → ((x14_5) ≤ (0) ∨ (x14_5) ≤ ((8))) → (PXI ((w23)) ((a2)) ((a3)) ((x5_4)) ((x14_5)) ((x14_3))) → (((8)) - (x14_5)).toNat = m → Ew 345 (d + 0) 14 ls [] σ c s Q from
        hl14 _ _ σ _ _ (x5_3) (0) (rk_o (l5_0) rfl rfl) (rk_o (l5_2) rfl rfl) (rk_o (l5_3) rfl rfl) (rk_o (l5_4) rfl rfl) (rk_s) H (SF_refl) (SA_refl)   (show inr (x5_3) from j5_0) (show inr (0) from q_2) (show (0) ≤ (0) from q_1) (show (0) ≤ (0) ∨ (0) ≤ ((8)) from q_355) (show PXI ((w23)) ((a2)) ((a3)) ((x5_4)) ((0)) ((x5_3)) by assumption) rfl
      as_aux_lemma =>
      intro m
      induction m using Nat.strongRecOn with
      | _ m ih14 =>
        intro ls σ F_14 A_14 x14_3 x14_5 l14_0 l14_2 l14_3 l14_4 l14_5 H hS_14 hA_14   j14_0 j14_1 j14_2 j14_3 j14_4 hm14
        have j14_q : PXI ((w23)) ((a2)) ((a3)) ((x5_4)) ((x14_5)) ((x14_3)) := j14_4
        refine Ew_of (pcₚ := 16) (fun _ => x_iload rfl l14_5) ?_
        refine Ew_of (pcₚ := 18) (fun _ => x_bipush (z := 8) rfl (by decide)) ?_
        refine w_icmpge (t := 62) rfl rfl (show inr (x14_5) from j14_1) (show inr (8) from q_141) (fun b7 => ?_) (fun b7 => ?_)
        · refine Ew_of (pcₚ := 65) (fun _ => x_iinc (len := 3) rfl (l14_4)) ?_
          refine Ew_of (pcₚ := 5) (fun _ => x_goto rfl rfl) ?_
          have hrg5 : ∀ i, (0 : Int) ≤ (w23) i ∧ (w23) i ≤ 255 := fun i => by have h1 : (0 : Int) ≤ A_14 23 i ∧ A_14 23 i ≤ 255 := H.arng 23 i; rw [show A_14 23 = w23 from (funext (hA_14 23 rfl)).trans ((funext (hA_5 23 rfl)).trans (ew23))] at h1; exact h1
          have : PRI ((w23)) ((a2)) ((a3)) (((x5_4 + 1))) ((x14_3)) := PXI_e j14_q (by omega) (by omega) (hrg5 _) (by omega) (by omega)
          exact ih5 _ (msE hm5 q_16 (q_17 b1)) _ σ _ _ (x14_3) ((x5_4 + 1)) (rk_o (l14_0) rfl rfl) (rk_o (l14_2) rfl rfl) (rk_o (l14_3) rfl rfl) (rk_s) H (SF_trans (hS_5) hS_14 (any_sub rfl)) (SA_trans (hA_5) hA_14 (any_subA rfl))   (show inr (x14_3) from j14_0) (show inr ((x5_4 + 1)) from q_579 b1 h2 j5_1) (show (a2) ≤ ((x5_4 + 1)) from q_161 j5_2) (show ((x5_4 + 1)) ≤ (a2) ∨ ((x5_4 + 1)) ≤ ((a3)) from q_160 b1) (show PRI ((w23)) ((a2)) ((a3)) (((x5_4 + 1))) ((x14_3)) by assumption) rfl
        · have hc40 : ∀ (tc40_0 : Int), ∀ (ls : rO) (σ : rS) (F_c40 : hF) (A_c40 : hA) , rlook ls 0 = some (.ref (D 23)) → rlook ls 2 = some (I (a3)) → rlook ls 3 = some (I (x14_3)) → rlook ls 4 = some (I (x5_4)) → rlook ls 5 = some (I (x14_5)) → HS σ0 σ D N F_c40 A_c40 → SF [] F_14 F_c40 → SA [] A_14 A_c40 → (inr (tc40_0)) → ((tc40_0) = andI (xoI ((x14_3)) (srI (((w23)) ((x5_4))) ((x14_5)))) 1) → Ew 345 (d + 0) 40 ls [I (tc40_0)] σ c s Q := by
           as_aux_lemma =>
            intro tc40_0 ls σ F_c40 A_c40  lc40_0 lc40_2 lc40_3 lc40_4 lc40_5 H hS_c40 hA_c40   jc40_0 jc40_1
            have hs40 : (tc40_0) = andI (xoI ((x14_3)) (srI (((w23)) ((x5_4))) ((x14_5)))) 1 := jc40_1
            have hrg : ∀ i, (0 : Int) ≤ (w23) i ∧ (w23) i ≤ 255 := fun i => by have h1 : (0 : Int) ≤ A_c40 23 i ∧ A_c40 23 i ≤ 255 := H.arng 23 i; rw [show A_c40 23 = w23 from (funext (hA_c40 23 rfl)).trans ((funext (hA_14 23 rfl)).trans ((funext (hA_5 23 rfl)).trans (ew23)))] at h1; exact h1
            have hvr := hrg ((x5_4))
            refine Ew_of (pcₚ := 42) (fun _ => x_istore rfl) ?_
            refine Ew_of (pcₚ := 43) (fun _ => x_iload_n rfl (rk_o (lc40_3) rfl rfl)) ?_
            refine Ew_of (pcₚ := 44) (fun _ => x_iconst rfl) ?_
            refine w_iushrE rfl ?_
            have g8 : inr (usI (x14_3) (1)) := toI_inr _
            refine Ew_of (pcₚ := 46) (fun _ => x_istore_n rfl) ?_
            refine Ew_of (pcₚ := 48) (fun _ => x_iload rfl (rk_o (rk_s) rfl rfl)) ?_
            refine w_ifeq (t := 56) rfl rfl (show inr (tc40_0) from jc40_0) (fun b9 => ?_) (fun b9 => ?_)
            · refine Ew_of (pcₚ := 59) (fun _ => x_iinc (len := 3) rfl (rk_o (rk_o (lc40_5) rfl rfl) rfl rfl)) ?_
              refine Ew_of (pcₚ := 14) (fun _ => x_goto rfl rfl) ?_
              have : PXI ((w23)) ((a2)) ((a3)) ((x5_4)) (((x14_5 + 1))) (((usI (x14_3) (1)))) := by exact PXI_t0 j14_q (by omega) hvr hs40 (by omega) (by omega)
              exact ih14 _ (msE hm14 q_358 (q_359 b7)) _ σ _ _ ((usI (x14_3) (1))) ((x14_5 + 1)) (rk_o (rk_o (rk_o (lc40_0) rfl rfl) rfl rfl) rfl rfl) (rk_o (rk_o (rk_o (lc40_2) rfl rfl) rfl rfl) rfl rfl) (rk_o (rk_s) rfl rfl) (rk_o (rk_o (rk_o (lc40_4) rfl rfl) rfl rfl) rfl rfl) (rk_s) H (SF_trans (hS_14) hS_c40 (any_sub rfl)) (SA_trans (hA_14) hA_c40 (any_subA rfl))   (show inr ((usI (x14_3) (1))) from g8) (show inr ((x14_5 + 1)) from q_357 b7 j14_2) (show (0) ≤ ((x14_5 + 1)) from q_14 j14_2) (show ((x14_5 + 1)) ≤ (0) ∨ ((x14_5 + 1)) ≤ ((8)) from q_356 b7) (show PXI ((w23)) ((a2)) ((a3)) ((x5_4)) (((x14_5 + 1))) (((usI (x14_3) (1)))) by assumption) rfl
            · refine Ew_of (pcₚ := 52) (fun _ => x_iload_n rfl rk_s) ?_
              refine Ew_of (pcₚ := 54) (fun _ => x_ldc (z := -2097792136) rfl (by decide)) ?_
              refine w_ixorE rfl ?_
              have g10 : inr (xoI ((usI (x14_3) (1))) ((-2097792136))) := toI_inr _
              refine Ew_of (pcₚ := 56) (fun _ => x_istore_n rfl) ?_
              refine Ew_of (pcₚ := 59) (fun _ => x_iinc (len := 3) rfl (rk_o (rk_o (rk_o (lc40_5) rfl rfl) rfl rfl) rfl rfl)) ?_
              refine Ew_of (pcₚ := 14) (fun _ => x_goto rfl rfl) ?_
              have : PXI ((w23)) ((a2)) ((a3)) ((x5_4)) (((x14_5 + 1))) (((xoI ((usI (x14_3) (1))) ((-2097792136))))) := by exact PXI_t1 j14_q (by omega) hvr hs40 (by omega) (by omega)
              exact ih14 _ (msE hm14 q_358 (q_359 b7)) _ σ _ _ ((xoI ((usI (x14_3) (1))) ((-2097792136)))) ((x14_5 + 1)) (rk_o (rk_o (rk_o (rk_o (lc40_0) rfl rfl) rfl rfl) rfl rfl) rfl rfl) (rk_o (rk_o (rk_o (rk_o (lc40_2) rfl rfl) rfl rfl) rfl rfl) rfl rfl) (rk_o (rk_s) rfl rfl) (rk_o (rk_o (rk_o (rk_o (lc40_4) rfl rfl) rfl rfl) rfl rfl) rfl rfl) (rk_s) H (SF_trans (hS_14) hS_c40 (any_sub rfl)) (SA_trans (hA_14) hA_c40 (any_subA rfl))   (show inr ((xoI ((usI (x14_3) (1))) ((-2097792136)))) from g10) (show inr ((x14_5 + 1)) from q_357 b7 j14_2) (show (0) ≤ ((x14_5 + 1)) from q_14 j14_2) (show ((x14_5 + 1)) ≤ (0) ∨ ((x14_5 + 1)) ≤ ((8)) from q_356 b7) (show PXI ((w23)) ((a2)) ((a3)) ((x5_4)) (((x14_5 + 1))) (((xoI ((usI (x14_3) (1))) ((-2097792136))))) by assumption) rfl
          refine Ew_of (pcₚ := 22) (fun _ => x_iload_n rfl l14_3) ?_
          refine Ew_of (pcₚ := 23) (fun _ => x_aload_n rfl l14_0) ?_
          refine Ew_of (pcₚ := 25) (fun _ => x_iload rfl l14_4) ?_
          refine w_lI H (o := 23) (n := 70000) rfl (H.perm 23 rfl) rfl rfl (H.fix 23 rfl rfl) (show 0 ≤ x5_4 ∧ x5_4 < ((70000 : Nat) : Int) from q_873 b1 h2 j5_2) (by decide) (fun v11 ev11 qv11 => ?_)
          have qv11 : (0 : Int) ≤ v11 ∧ v11 ≤ 255 := qv11
          have ev11 : (w23) (x5_4) = v11 := (congrFun ((funext (hA_14 23 rfl)).trans ((funext (hA_5 23 rfl)).trans (ew23))) (x5_4)).symm.trans ev11
          have hvb := ev11
          refine Ew_of (pcₚ := 28) (fun _ => x_iload rfl l14_5) ?_
          refine w_ishrG rfl ?_
          have g12 : inr (srI (v11) (x14_5)) := toI_inr _
          refine w_ixorE rfl ?_
          have g13 : inr (xoI (x14_3) ((srI (v11) (x14_5)))) := toI_inr _
          refine Ew_of (pcₚ := 31) (fun _ => x_iconst rfl) ?_
          have hx1 := and1r (((xoI (x14_3) ((srI (v11) (x14_5))))))
          refine w_iandG rfl ?_
          have g14 : inr (andI ((xoI (x14_3) ((srI (v11) (x14_5))))) (1)) := toI_inr _
          refine w_ifeq (t := 39) rfl rfl (show inr ((andI ((xoI (x14_3) ((srI (v11) (x14_5))))) (1))) from g14) (fun b15 => ?_) (fun b15 => ?_)
          · refine Ew_of (pcₚ := 40) (fun _ => x_iconst rfl) ?_
            have : (0) = andI (xoI ((x14_3)) (srI (((w23)) ((x5_4))) ((x14_5)))) 1 := by rw [hvb]; omega
            exact hc40 (0) _ σ _ _  (l14_0) (l14_2) (l14_3) (l14_4) (l14_5) H (SF_refl) (SA_refl)   (show inr (0) from q_2) (show (0) = andI (xoI ((x14_3)) (srI (((w23)) ((x5_4))) ((x14_5)))) 1 by assumption)
          · refine Ew_of (pcₚ := 36) (fun _ => x_iconst rfl) ?_
            refine Ew_of (pcₚ := 40) (fun _ => x_goto rfl rfl) ?_
            have : (1) = andI (xoI ((x14_3)) (srI (((w23)) ((x5_4))) ((x14_5)))) 1 := by rw [hvb]; omega
            exact hc40 (1) _ σ _ _  (l14_0) (l14_2) (l14_3) (l14_4) (l14_5) H (SF_refl) (SA_refl)   (show inr (1) from q_135) (show (1) = andI (xoI ((x14_3)) (srI (((w23)) ((x5_4))) ((x14_5)))) 1 by assumption)

theorem M345_14 {σ0 σ : rS} {D N : Nat → Nat} {F : hF} {A : hA} {d c s : Nat} {Q : wQ} (H : HS σ0 σ D N F A) {a2 a3 : Int} (w14 : Int → Int) (ew14 : A 14 = w14) (h0 : inr (a2)) (h1 : inr (a3)) (h2 : 0 ≤ (a2) ∧ (a2) ≤ (a3) ∧ (a3) ≤ 65536) (k : ∀ (z : Int) σ Fₚ Aₚ, HS σ0 σ D N Fₚ Aₚ → SF [] F Fₚ → SA [] A Aₚ → (inr (z)) → ((z) = adI (rtI (POL ((w14)) ((a2)) ((a3) - (a2))) 17) (-1568478504)) → Q (some (I z)) σ c s) : Ew 345 (d + 0) 0 (rargs 0 [.ref (D 14), I a2, I a3]) [] σ c s Q := by
  refine Ew_of (pcₚ := 1) (fun _ => x_iconst rfl) ?_
  refine Ew_of (pcₚ := 2) (fun _ => x_istore_n rfl) ?_
  refine Ew_of (pcₚ := 3) (fun _ => x_iload_n rfl (rk_o (rfl) rfl rfl)) ?_
  refine Ew_of (pcₚ := 5) (fun _ => x_istore rfl) ?_
  have : PRI ((w14)) ((a2)) ((a3)) ((a2)) (-1) := PRI_0
  suffices hl5 : ∀ (m : Nat), ∀ (ls : rO) (σ : rS) (F_5 : hF) (A_5 : hA) (x5_3 : Int) (x5_4 : Int), rlook ls 0 = some (.ref (D 14)) → rlook ls 2 = some (I (a3)) → rlook ls 3 = some (I (x5_3)) → rlook ls 4 = some (I (x5_4)) → HS σ0 σ D N F_5 A_5 → SF [] F F_5 → SA [] A A_5 → (inr (x5_3)) → (inr (x5_4)) → ((a2) ≤ (x5_4)) → ((x5_4) ≤ (a2) ∨ (x5_4) ≤ ((a3))) → (PRI ((w14)) ((a2)) ((a3)) ((x5_4)) ((x5_3))) → (((a3)) - (x5_4)).toNat = m → Ew 345 (d + 0) 5 ls [] σ c s Q from
    hl5 _ _ σ _ _ ((-1)) (a2) (rk_o (rk_o (rfl) rfl rfl) rfl rfl) (rk_o (rk_o (rfl) rfl rfl) rfl rfl) (rk_o (rk_s) rfl rfl) (rk_s) H (SF_refl) (SA_refl)   (show inr ((-1)) from q_63) (show inr (a2) from h0) (show (a2) ≤ (a2) from q_43) (show (a2) ≤ (a2) ∨ (a2) ≤ ((a3)) from q_156) (show PRI ((w14)) ((a2)) ((a3)) ((a2)) (((-1))) by assumption) rfl
  as_aux_lemma =>
  intro m
  induction m using Nat.strongRecOn with
  | _ m ih5 =>
    intro ls σ F_5 A_5 x5_3 x5_4 l5_0 l5_2 l5_3 l5_4 H hS_5 hA_5   j5_0 j5_1 j5_2 j5_3 j5_4 hm5
    have j5_q : PRI ((w14)) ((a2)) ((a3)) ((x5_4)) ((x5_3)) := j5_4
    refine Ew_of (pcₚ := 7) (fun _ => x_iload rfl l5_4) ?_
    refine Ew_of (pcₚ := 8) (fun _ => x_iload_n rfl l5_2) ?_
    refine w_icmpge (t := 68) rfl rfl (show inr (x5_4) from j5_1) (show inr (a3) from h1) (fun b1 => ?_) (fun b1 => ?_)
    · refine Ew_of (pcₚ := 69) (fun _ => x_iload_n rfl l5_3) ?_
      refine Ew_of (pcₚ := 70) (fun _ => x_iconst rfl) ?_
      refine w_ixorE rfl ?_
      have g2 : inr (xoI (x5_3) ((-1))) := toI_inr _
      have hpl : ((xoI (x5_3) ((-1)))) = POL ((w14)) ((a2)) ((a3) - (a2)) := PRI_e j5_q (by omega)
      refine Ew_of (pcₚ := 72) (fun _ => x_istore_n rfl) ?_
      refine Ew_of (pcₚ := 73) (fun _ => x_iload_n rfl rk_s) ?_
      refine Ew_of (pcₚ := 75) (fun _ => x_bipush (z := 17) rfl (by decide)) ?_
      refine w_ishlE rfl ?_
      have g3 : inr (slI ((xoI (x5_3) ((-1)))) (17)) := toI_inr _
      refine Ew_of (pcₚ := 77) (fun _ => x_iload_n rfl rk_s) ?_
      refine Ew_of (pcₚ := 79) (fun _ => x_bipush (z := 15) rfl (by decide)) ?_
      refine w_iushrE rfl ?_
      have g4 : inr (usI ((xoI (x5_3) ((-1)))) (15)) := toI_inr _
      refine w_iorE rfl ?_
      have g5 : inr (orI ((slI ((xoI (x5_3) ((-1)))) (17))) ((usI ((xoI (x5_3) ((-1)))) (15)))) := toI_inr _
      refine Ew_of (pcₚ := 83) (fun _ => x_ldc (z := -1568478504) rfl (by decide)) ?_
      refine w_iaddE rfl ?_
      have g6 : inr (adI ((orI ((slI ((xoI (x5_3) ((-1)))) (17))) ((usI ((xoI (x5_3) ((-1)))) (15))))) ((-1568478504))) := toI_inr _
      have : ((adI ((orI ((slI ((xoI (x5_3) ((-1)))) (17))) ((usI ((xoI (x5_3) ((-1)))) (15))))) ((-1568478504)))) = adI (rtI (POL ((w14)) ((a2)) ((a3) - (a2))) 17) (-1568478504) := by rw [← hpl]; rfl
      exact w_ireturn rfl (k ((adI ((orI ((slI ((xoI (x5_3) ((-1)))) (17))) ((usI ((xoI (x5_3) ((-1)))) (15))))) ((-1568478504)))) σ _ _ H (SF_trans (SF_refl) hS_5 (any_sub rfl)) (SA_trans (SA_refl) hA_5 (any_subA rfl)) (show inr ((adI ((orI ((slI ((xoI (x5_3) ((-1)))) (17))) ((usI ((xoI (x5_3) ((-1)))) (15))))) ((-1568478504)))) from g6) (show ((adI ((orI ((slI ((xoI (x5_3) ((-1)))) (17))) ((usI ((xoI (x5_3) ((-1)))) (15))))) ((-1568478504)))) = adI (rtI (POL ((w14)) (a2) (a3 - a2)) 17) (-1568478504) by assumption))
    · refine Ew_of (pcₚ := 12) (fun _ => x_iconst rfl) ?_
      refine Ew_of (pcₚ := 14) (fun _ => x_istore rfl) ?_
      have : PXI ((w14)) ((a2)) ((a3)) ((x5_4)) (0) ((x5_3)) := PXI_0 j5_q
      suffices hl14 : ∀ (m : Nat), ∀ (ls : rO) (σ : rS) (F_14 : hF) (A_14 : hA) (x14_3 : Int) (x14_5 : Int), rlook ls 0 = some (.ref (D 14)) → rlook ls 2 = some (I (a3)) → rlook ls 3 = some (I (x14_3)) → rlook ls 4 = some (I (x5_4)) → rlook ls 5 = some (I (x14_5)) → HS σ0 σ D N F_14 A_14 → SF [] F_5 F_14 → SA [] A_5 A_14 → (inr (x14_3)) → (inr (x14_5)) → ((0) ≤ (x14_5)) → ((x14_5) ≤ (0) ∨ (x14_5) ≤ ((8))) → (PXI ((w14)) ((a2)) ((a3)) ((x5_4)) ((x14_5)) ((x14_3))) → (((8)) - (x14_5)).toNat = m → Ew 345 (d + 0) 14 ls [] σ c s Q from
        hl14 _ _ σ _ _ (x5_3) (0) (rk_o (l5_0) rfl rfl) (rk_o (l5_2) rfl rfl) (rk_o (l5_3) rfl rfl) (rk_o (l5_4) rfl rfl) (rk_s) H (SF_refl) (SA_refl)   (show inr (x5_3) from j5_0) (show inr (0) from q_2) (show (0) ≤ (0) from q_1) (show (0) ≤ (0) ∨ (0) ≤ ((8)) from q_355) (show PXI ((w14)) ((a2)) ((a3)) ((x5_4)) ((0)) ((x5_3)) by assumption) rfl
      as_aux_lemma =>
      intro m
      induction m using Nat.strongRecOn with
      | _ m ih14 =>
        intro ls σ F_14 A_14 x14_3 x14_5 l14_0 l14_2 l14_3 l14_4 l14_5 H hS_14 hA_14   j14_0 j14_1 j14_2 j14_3 j14_4 hm14
        have j14_q : PXI ((w14)) ((a2)) ((a3)) ((x5_4)) ((x14_5)) ((x14_3)) := j14_4
        refine Ew_of (pcₚ := 16) (fun _ => x_iload rfl l14_5) ?_
        refine Ew_of (pcₚ := 18) (fun _ => x_bipush (z := 8) rfl (by decide)) ?_
        refine w_icmpge (t := 62) rfl rfl (show inr (x14_5) from j14_1) (show inr (8) from q_141) (fun b7 => ?_) (fun b7 => ?_)
        · refine Ew_of (pcₚ := 65) (fun _ => x_iinc (len := 3) rfl (l14_4)) ?_
          refine Ew_of (pcₚ := 5) (fun _ => x_goto rfl rfl) ?_
          have hrg5 : ∀ i, (0 : Int) ≤ (w14) i ∧ (w14) i ≤ 255 := fun i => by have h1 : (0 : Int) ≤ A_14 14 i ∧ A_14 14 i ≤ 255 := H.arng 14 i; rw [show A_14 14 = w14 from (funext (hA_14 14 rfl)).trans ((funext (hA_5 14 rfl)).trans (ew14))] at h1; exact h1
          have : PRI ((w14)) ((a2)) ((a3)) (((x5_4 + 1))) ((x14_3)) := PXI_e j14_q (by omega) (by omega) (hrg5 _) (by omega) (by omega)
          exact ih5 _ (msE hm5 q_16 (q_17 b1)) _ σ _ _ (x14_3) ((x5_4 + 1)) (rk_o (l14_0) rfl rfl) (rk_o (l14_2) rfl rfl) (rk_o (l14_3) rfl rfl) (rk_s) H (SF_trans (hS_5) hS_14 (any_sub rfl)) (SA_trans (hA_5) hA_14 (any_subA rfl))   (show inr (x14_3) from j14_0) (show inr ((x5_4 + 1)) from q_361 b1 h2 j5_1) (show (a2) ≤ ((x5_4 + 1)) from q_161 j5_2) (show ((x5_4 + 1)) ≤ (a2) ∨ ((x5_4 + 1)) ≤ ((a3)) from q_160 b1) (show PRI ((w14)) ((a2)) ((a3)) (((x5_4 + 1))) ((x14_3)) by assumption) rfl
        · have hc40 : ∀ (tc40_0 : Int), ∀ (ls : rO) (σ : rS) (F_c40 : hF) (A_c40 : hA) , rlook ls 0 = some (.ref (D 14)) → rlook ls 2 = some (I (a3)) → rlook ls 3 = some (I (x14_3)) → rlook ls 4 = some (I (x5_4)) → rlook ls 5 = some (I (x14_5)) → HS σ0 σ D N F_c40 A_c40 → SF [] F_14 F_c40 → SA [] A_14 A_c40 → (inr (tc40_0)) → ((tc40_0) = andI (xoI ((x14_3)) (srI (((w14)) ((x5_4))) ((x14_5)))) 1) → Ew 345 (d + 0) 40 ls [I (tc40_0)] σ c s Q := by
           as_aux_lemma =>
            intro tc40_0 ls σ F_c40 A_c40  lc40_0 lc40_2 lc40_3 lc40_4 lc40_5 H hS_c40 hA_c40   jc40_0 jc40_1
            have hs40 : (tc40_0) = andI (xoI ((x14_3)) (srI (((w14)) ((x5_4))) ((x14_5)))) 1 := jc40_1
            have hrg : ∀ i, (0 : Int) ≤ (w14) i ∧ (w14) i ≤ 255 := fun i => by have h1 : (0 : Int) ≤ A_c40 14 i ∧ A_c40 14 i ≤ 255 := H.arng 14 i; rw [show A_c40 14 = w14 from (funext (hA_c40 14 rfl)).trans ((funext (hA_14 14 rfl)).trans ((funext (hA_5 14 rfl)).trans (ew14)))] at h1; exact h1
            have hvr := hrg ((x5_4))
            refine Ew_of (pcₚ := 42) (fun _ => x_istore rfl) ?_
            refine Ew_of (pcₚ := 43) (fun _ => x_iload_n rfl (rk_o (lc40_3) rfl rfl)) ?_
            refine Ew_of (pcₚ := 44) (fun _ => x_iconst rfl) ?_
            refine w_iushrE rfl ?_
            have g8 : inr (usI (x14_3) (1)) := toI_inr _
            refine Ew_of (pcₚ := 46) (fun _ => x_istore_n rfl) ?_
            refine Ew_of (pcₚ := 48) (fun _ => x_iload rfl (rk_o (rk_s) rfl rfl)) ?_
            refine w_ifeq (t := 56) rfl rfl (show inr (tc40_0) from jc40_0) (fun b9 => ?_) (fun b9 => ?_)
            · refine Ew_of (pcₚ := 59) (fun _ => x_iinc (len := 3) rfl (rk_o (rk_o (lc40_5) rfl rfl) rfl rfl)) ?_
              refine Ew_of (pcₚ := 14) (fun _ => x_goto rfl rfl) ?_
              have : PXI ((w14)) ((a2)) ((a3)) ((x5_4)) (((x14_5 + 1))) (((usI (x14_3) (1)))) := by exact PXI_t0 j14_q (by omega) hvr hs40 (by omega) (by omega)
              exact ih14 _ (msE hm14 q_358 (q_359 b7)) _ σ _ _ ((usI (x14_3) (1))) ((x14_5 + 1)) (rk_o (rk_o (rk_o (lc40_0) rfl rfl) rfl rfl) rfl rfl) (rk_o (rk_o (rk_o (lc40_2) rfl rfl) rfl rfl) rfl rfl) (rk_o (rk_s) rfl rfl) (rk_o (rk_o (rk_o (lc40_4) rfl rfl) rfl rfl) rfl rfl) (rk_s) H (SF_trans (hS_14) hS_c40 (any_sub rfl)) (SA_trans (hA_14) hA_c40 (any_subA rfl))   (show inr ((usI (x14_3) (1))) from g8) (show inr ((x14_5 + 1)) from q_357 b7 j14_2) (show (0) ≤ ((x14_5 + 1)) from q_14 j14_2) (show ((x14_5 + 1)) ≤ (0) ∨ ((x14_5 + 1)) ≤ ((8)) from q_356 b7) (show PXI ((w14)) ((a2)) ((a3)) ((x5_4)) (((x14_5 + 1))) (((usI (x14_3) (1)))) by assumption) rfl
            · refine Ew_of (pcₚ := 52) (fun _ => x_iload_n rfl rk_s) ?_
              refine Ew_of (pcₚ := 54) (fun _ => x_ldc (z := -2097792136) rfl (by decide)) ?_
              refine w_ixorE rfl ?_
              have g10 : inr (xoI ((usI (x14_3) (1))) ((-2097792136))) := toI_inr _
              refine Ew_of (pcₚ := 56) (fun _ => x_istore_n rfl) ?_
              refine Ew_of (pcₚ := 59) (fun _ => x_iinc (len := 3) rfl (rk_o (rk_o (rk_o (lc40_5) rfl rfl) rfl rfl) rfl rfl)) ?_
              refine Ew_of (pcₚ := 14) (fun _ => x_goto rfl rfl) ?_
              have : PXI ((w14)) ((a2)) ((a3)) ((x5_4)) (((x14_5 + 1))) (((xoI ((usI (x14_3) (1))) ((-2097792136))))) := by exact PXI_t1 j14_q (by omega) hvr hs40 (by omega) (by omega)
              exact ih14 _ (msE hm14 q_358 (q_359 b7)) _ σ _ _ ((xoI ((usI (x14_3) (1))) ((-2097792136)))) ((x14_5 + 1)) (rk_o (rk_o (rk_o (rk_o (lc40_0) rfl rfl) rfl rfl) rfl rfl) rfl rfl) (rk_o (rk_o (rk_o (rk_o (lc40_2) rfl rfl) rfl rfl) rfl rfl) rfl rfl) (rk_o (rk_s) rfl rfl) (rk_o (rk_o (rk_o (rk_o (lc40_4) rfl rfl) rfl rfl) rfl rfl) rfl rfl) (rk_s) H (SF_trans (hS_14) hS_c40 (any_sub rfl)) (SA_trans (hA_14) hA_c40 (any_subA rfl))   (show inr ((xoI ((usI (x14_3) (1))) ((-2097792136)))) from g10) (show inr ((x14_5 + 1)) from q_357 b7 j14_2) (show (0) ≤ ((x14_5 + 1)) from q_14 j14_2) (show ((x14_5 + 1)) ≤ (0) ∨ ((x14_5 + 1)) ≤ ((8)) from q_356 b7) (show PXI ((w14)) ((a2)) ((a3)) ((x5_4)) (((x14_5 + 1))) (((xoI ((usI (x14_3) (1))) ((-2097792136))))) by assumption) rfl
          refine Ew_of (pcₚ := 22) (fun _ => x_iload_n rfl l14_3) ?_
          refine Ew_of (pcₚ := 23) (fun _ => x_aload_n rfl l14_0) ?_
          refine Ew_of (pcₚ := 25) (fun _ => x_iload rfl l14_4) ?_
          refine w_lI H (o := 14) (n := 65536) rfl (H.perm 14 rfl) rfl rfl (H.fix 14 rfl rfl) (show 0 ≤ x5_4 ∧ x5_4 < ((65536 : Nat) : Int) from q_874 b1 h2 j5_2) (by decide) (fun v11 ev11 qv11 => ?_)
          have qv11 : (0 : Int) ≤ v11 ∧ v11 ≤ 255 := qv11
          have ev11 : (w14) (x5_4) = v11 := (congrFun ((funext (hA_14 14 rfl)).trans ((funext (hA_5 14 rfl)).trans (ew14))) (x5_4)).symm.trans ev11
          have hvb := ev11
          refine Ew_of (pcₚ := 28) (fun _ => x_iload rfl l14_5) ?_
          refine w_ishrG rfl ?_
          have g12 : inr (srI (v11) (x14_5)) := toI_inr _
          refine w_ixorE rfl ?_
          have g13 : inr (xoI (x14_3) ((srI (v11) (x14_5)))) := toI_inr _
          refine Ew_of (pcₚ := 31) (fun _ => x_iconst rfl) ?_
          have hx1 := and1r (((xoI (x14_3) ((srI (v11) (x14_5))))))
          refine w_iandG rfl ?_
          have g14 : inr (andI ((xoI (x14_3) ((srI (v11) (x14_5))))) (1)) := toI_inr _
          refine w_ifeq (t := 39) rfl rfl (show inr ((andI ((xoI (x14_3) ((srI (v11) (x14_5))))) (1))) from g14) (fun b15 => ?_) (fun b15 => ?_)
          · refine Ew_of (pcₚ := 40) (fun _ => x_iconst rfl) ?_
            have : (0) = andI (xoI ((x14_3)) (srI (((w14)) ((x5_4))) ((x14_5)))) 1 := by rw [hvb]; omega
            exact hc40 (0) _ σ _ _  (l14_0) (l14_2) (l14_3) (l14_4) (l14_5) H (SF_refl) (SA_refl)   (show inr (0) from q_2) (show (0) = andI (xoI ((x14_3)) (srI (((w14)) ((x5_4))) ((x14_5)))) 1 by assumption)
          · refine Ew_of (pcₚ := 36) (fun _ => x_iconst rfl) ?_
            refine Ew_of (pcₚ := 40) (fun _ => x_goto rfl rfl) ?_
            have : (1) = andI (xoI ((x14_3)) (srI (((w14)) ((x5_4))) ((x14_5)))) 1 := by rw [hvb]; omega
            exact hc40 (1) _ σ _ _  (l14_0) (l14_2) (l14_3) (l14_4) (l14_5) H (SF_refl) (SA_refl)   (show inr (1) from q_135) (show (1) = andI (xoI ((x14_3)) (srI (((w14)) ((x5_4))) ((x14_5)))) 1 by assumption)

