theorem M368 {σ0 σ : rS} {D N : Nat → Nat} {F : hF} {A : hA} {d c s : Nat} {Q : wQ} (H : HS σ0 σ D N F A) {a1 a2 : Int} (u3_5 : Int) (eu3_5 : F 3 5 = u3_5) (w14 : Int → Int) (ew14 : A 14 = w14) (w18 : Int → Int) (ew18 : A 18 = w18) (h0 : inr (a1)) (h1 : inr (a2)) (h2 : 0 ≤ (u3_5) ∧ (u3_5) ≤ 16384) (h3 : 0 ≤ (a1) ∧ (a1) ≤ (a2) ∧ (a2) ≤ 65536 ∧ (u3_5) + ((a2) - (a1)) ≤ 16384) (k : ∀ σ Fₚ Aₚ, HS σ0 σ D N Fₚ Aₚ → SF [(3, 5)] F Fₚ → SA [18] A Aₚ → ∀ y3_5 : Int, Fₚ 3 5 = y3_5 → ∀ v18 : Int → Int, Aₚ 18 = v18 → ((y3_5) = (u3_5) + ((a2) - (a1))) → (CPY ((w14)) ((v18)) ((a1)) ((u3_5)) ((a2) - (a1))) → (CPY ((w18)) ((v18)) (0) (0) ((u3_5))) → Q none σ c s) : Ew 368 (d + 0) 0 (rargs 0 [.ref (D 3), I a1, I a2]) [] σ c s Q := by
  have r1 : (-2147483648 : Int) ≤ u3_5 ∧ u3_5 ≤ 2147483647 := rngE (show (-2147483648 : Int) ≤ F 3 5 ∧ F 3 5 ≤ 2147483647 from H.frng 3 5) (show F 3 5 = u3_5 from (eu3_5))
  refine Ew_of (pcₚ := 1) (fun _ => x_iload_n rfl rfl) ?_
  refine Ew_of (pcₚ := 2) (fun _ => x_istore_n rfl) ?_
  have : CPY ((w14)) ((w18)) ((a1)) ((u3_5)) ((a1) - (a1)) := by rw [show (a1) - (a1) = 0 by omega]; exact CPY_0
  have : CPY ((w18)) ((w18)) (0) (0) ((u3_5)) := CPY_rf
  suffices hl2 : ∀ (m : Nat), ∀ (ls : rO) (σ : rS) (F_2 : hF) (A_2 : hA) (x2_3 : Int), rlook ls 0 = some (.ref (D 3)) → rlook ls 2 = some (I (a2)) → rlook ls 3 = some (I (x2_3)) → HS σ0 σ D N F_2 A_2 → SF [(3, 5)] F F_2 → SA [18] A A_2 → ∀ y2_3_5 : Int, F_2 3 5 = y2_3_5 → ∀ w2_18 : Int → Int, A_2 18 = w2_18 → (inr (x2_3)) → ((a1) ≤ (x2_3)) → ((x2_3) ≤ (a1) ∨ (x2_3) ≤ ((a2))) → ((y2_3_5) = (u3_5) + ((x2_3) - (a1))) → (CPY ((w14)) ((w2_18)) ((a1)) ((u3_5)) ((x2_3) - (a1))) → (CPY ((w18)) ((w2_18)) (0) (0) ((u3_5))) → (((a2)) - (x2_3)).toNat = m → Ew 368 (d + 0) 2 ls [] σ c s Q from
    hl2 _ _ σ _ _ (a1) (rk_o (rfl) rfl rfl) (rk_o (rfl) rfl rfl) (rk_s) H (SF_refl) (SA_refl) (u3_5) ((eu3_5)) (w18) (ew18) (show inr (a1) from h0) (show (a1) ≤ (a1) from q_43) (show (a1) ≤ (a1) ∨ (a1) ≤ ((a2)) from q_156) (show (u3_5) = (u3_5) + ((a1) - (a1)) from q_446) (show CPY ((w14)) ((w18)) ((a1)) ((u3_5)) ((a1) - (a1)) by assumption) (show CPY ((w18)) ((w18)) (0) (0) ((u3_5)) by assumption) rfl
  as_aux_lemma =>
  intro m
  induction m using Nat.strongRecOn with
  | _ m ih2 =>
    intro ls σ F_2 A_2 x2_3 l2_0 l2_2 l2_3 H hS_2 hA_2 y2_3_5 ey2_3_5 w2_18 ew2_18 j2_0 j2_1 j2_2 j2_3 j2_4 j2_5 hm2
    have r2 : (-2147483648 : Int) ≤ y2_3_5 ∧ y2_3_5 ≤ 2147483647 := rngE (show (-2147483648 : Int) ≤ F_2 3 5 ∧ F_2 3 5 ≤ 2147483647 from H.frng 3 5) (show F_2 3 5 = y2_3_5 from (ey2_3_5))
    have j2_c : CPY ((w14)) ((w2_18)) ((a1)) ((u3_5)) ((x2_3) - (a1)) := j2_4
    have j2_d : CPY ((w18)) ((w2_18)) (0) (0) ((u3_5)) := j2_5
    refine Ew_of (pcₚ := 3) (fun _ => x_iload_n rfl l2_3) ?_
    refine Ew_of (pcₚ := 4) (fun _ => x_iload_n rfl l2_2) ?_
    refine w_icmpge (t := 41) rfl rfl (show inr (x2_3) from j2_0) (show inr (a2) from h1) (fun b3 => ?_) (fun b3 => ?_)
    · have : CPY ((w14)) ((w2_18)) ((a1)) ((u3_5)) ((a2) - (a1)) := by rw [show (a2) - (a1) = (x2_3) - (a1) by omega]; exact j2_c
      exact w_ret rfl (k σ _ _ H (SF_trans (SF_refl) hS_2 (any_sub rfl)) (SA_trans (SA_refl) hA_2 (any_subA rfl)) (y2_3_5) ((ey2_3_5)) (w2_18) (ew2_18) (show (y2_3_5) = (u3_5) + (a2 - a1) from q_447 b3 h3 j2_2 j2_3) (show CPY ((w14)) ((w2_18)) (a1) ((u3_5)) (a2 - a1) by assumption) (j2_d))
    · refine Ew_of (pcₚ := 8) (fun _ => x_aload_n rfl l2_0) ?_
      refine w_gT H (o := 3) (t := 18) rfl (H.perm 3 rfl) rfl rfl rfl rfl rfl rfl ?_
      refine Ew_of (pcₚ := 12) (fun _ => x_aload_n rfl l2_0) ?_
      refine w_gI H (o := 3) (w := y2_3_5) rfl (H.perm 3 rfl) rfl rfl rfl (fun _ => rfl) (ey2_3_5) ?_
      refine Ew_of (pcₚ := 16) (fun _ => x_aload_n rfl l2_0) ?_
      refine w_gT H (o := 3) (t := 1) rfl (H.perm 3 rfl) rfl rfl rfl rfl rfl rfl ?_
      refine w_gT H (o := 1) (t := 14) rfl (H.perm 1 rfl) rfl rfl rfl rfl rfl rfl ?_
      refine Ew_of (pcₚ := 23) (fun _ => x_iload_n rfl l2_3) ?_
      refine w_lI H (o := 14) (n := 65536) rfl (H.perm 14 rfl) rfl rfl (H.fix 14 rfl rfl) (show 0 ≤ x2_3 ∧ x2_3 < ((65536 : Nat) : Int) from q_448 b3 h3 j2_1) (by decide) (fun v4 ev4 qv4 => ?_)
      have qv4 : (0 : Int) ≤ v4 ∧ v4 ≤ 255 := qv4
      have ev4 : (w14) (x2_3) = v4 := (congrFun ((funext (hA_2 14 rfl)).trans (ew14)) (x2_3)).symm.trans ev4
      have hv := ev4
      refine w_sI H (o := 18) (n := 16384) rfl (H.perm 18 rfl) rfl rfl (H.fix 18 rfl rfl) (show 0 ≤ y2_3_5 ∧ y2_3_5 < ((16384 : Nat) : Int) from q_449 b3 h2 h3 j2_1 j2_3) (by decide) (show (0 : Int) ≤ v4 ∧ v4 ≤ 255 from qv4) (fun σ H => ?_)
      refine Ew_of (pcₚ := 26) (fun _ => x_aload_n rfl l2_0) ?_
      refine Ew_of (pcₚ := 27) (fun _ => x_dup rfl rfl) ?_
      refine w_gI H (o := 3) (w := y2_3_5) rfl (H.perm 3 rfl) rfl rfl rfl (fun _ => rfl) (ey2_3_5) ?_
      refine Ew_of (pcₚ := 31) (fun _ => x_iconst rfl) ?_
      refine w_iadd rfl ?_
      refine w_pI H (o := 3) rfl rfl (H.perm 3 rfl) rfl rfl rfl (fun _ => rfl) rfl (show (-2147483648 : Int) ≤ (y2_3_5 + 1) ∧ (y2_3_5 + 1) ≤ 2147483647 from q_450 b3 h3 j2_3 r2) (fun σ H => ?_)
      refine Ew_of (pcₚ := 38) (fun _ => x_iinc (len := 3) rfl (l2_3)) ?_
      refine Ew_of (pcₚ := 2) (fun _ => x_goto rfl rfl) ?_
      have : CPY ((w14)) ((upd1 (w2_18) (y2_3_5) (v4))) ((a1)) ((u3_5)) (((x2_3 + 1)) - (a1)) := CPY_s j2_c hv (by omega) (by omega) (by omega)
      have : CPY ((w18)) ((upd1 (w2_18) (y2_3_5) (v4))) (0) (0) ((u3_5)) := CPY_o j2_d (by omega)
      exact ih2 _ (msE hm2 q_16 (q_17 b3)) _ σ _ _ ((x2_3 + 1)) (rk_o (l2_0) rfl rfl) (rk_o (l2_2) rfl rfl) (rk_s) H (SF_upd (hS_2) rfl) (SA_upd (hA_2) rfl) ((y2_3_5 + 1)) (rfl) (upd1 (w2_18) (y2_3_5) (v4)) (congrArg (fun q => upd1 q (y2_3_5) (v4)) (ew2_18)) (show inr ((x2_3 + 1)) from q_452 b3 h3 j2_0) (show (a1) ≤ ((x2_3 + 1)) from q_161 j2_1) (show ((x2_3 + 1)) ≤ (a1) ∨ ((x2_3 + 1)) ≤ ((a2)) from q_160 b3) (show ((y2_3_5 + 1)) = (u3_5) + (((x2_3 + 1)) - (a1)) from q_451 j2_3) (show CPY ((w14)) ((upd1 (w2_18) (y2_3_5) (v4))) ((a1)) ((u3_5)) (((x2_3 + 1)) - (a1)) by assumption) (show CPY ((w18)) ((upd1 (w2_18) (y2_3_5) (v4))) (0) (0) ((u3_5)) by assumption) rfl

theorem M365 {σ0 σ : rS} {D N : Nat → Nat} {F : hF} {A : hA} {d c s : Nat} {Q : wQ} (H : HS σ0 σ D N F A) {a1 a2 a3 a4 : Int} (u3_10 : Int) (eu3_10 : F 3 10 = u3_10) (w18 : Int → Int) (ew18 : A 18 = w18) (w20 : Int → Int) (ew20 : A 20 = w20) (h0 : inr (a1)) (h1 : inr (a2)) (h2 : inr (a3)) (h3 : inr (a4)) (h4 : 0 ≤ (a1) ∧ (a1) ≤ (a2) ∧ (a2) ≤ 16384) (h5 : (a3) = 0 ∨ 4 ≤ (a3)) (h6 : (a3) ≤ 16384 ∧ 0 ≤ (a4) ∧ (a4) ≤ 16384) (h7 : 0 ≤ (u3_10) ∧ (u3_10) ≤ 5000000) (k : ∀ σ Fₚ Aₚ, HS σ0 σ D N Fₚ Aₚ → SF [(3, 10)] F Fₚ → SA [20] A Aₚ → ∀ y3_10 : Int, Fₚ 3 10 = y3_10 → ∀ v20 : Int → Int, Aₚ 20 = v20 → ((u3_10) ≤ (y3_10) ∧ (y3_10) ≤ (u3_10) + ((a2) - (a1)) + 140) → (QAP 70000 ((w20)) ((u3_10)) ((v20)) ((y3_10)) (tks (sc ((w18)) ((a1)) ((a2))) ((a3)) ((a4)))) → Q none σ c s) : Ew 365 (d + 2) 0 (rargs 0 [.ref (D 3), I a1, I a2, I a3, I a4]) [] σ c s Q := by
  have r1 : (-2147483648 : Int) ≤ u3_10 ∧ u3_10 ≤ 2147483647 := rngE (show (-2147483648 : Int) ≤ F 3 10 ∧ F 3 10 ≤ 2147483647 from H.frng 3 10) (show F 3 10 = u3_10 from (eu3_10))
  have hln : ((sc ((w18)) ((a1)) ((a2))).length : Int) = (a2) - (a1) := sc_lenI (by omega)
  refine Ew_of (pcₚ := 1) (fun _ => x_iload_n rfl rfl) ?_
  refine Ew_of (pcₚ := 2) (fun _ => x_iload_n rfl rfl) ?_
  refine w_isub rfl ?_
  refine Ew_of (pcₚ := 5) (fun _ => x_istore rfl) ?_
  refine Ew_of (pcₚ := 6) (fun _ => x_iload_n rfl (rk_o (rfl) rfl rfl)) ?_
  refine Ew_of (pcₚ := 7) (fun _ => x_iconst rfl) ?_
  refine w_isub rfl ?_
  refine Ew_of (pcₚ := 10) (fun _ => x_istore rfl) ?_
  refine Ew_of (pcₚ := 11) (fun _ => x_aload_n rfl (rk_o (rk_o (rfl) rfl rfl) rfl rfl)) ?_
  refine Ew_of (pcₚ := 13) (fun _ => x_iload rfl (rk_o (rk_s) rfl rfl)) ?_
  refine Ew_of (pcₚ := 15) (fun _ => x_bipush (z := 15) rfl (by decide)) ?_
  have hc25 : ∀ (tc25_0 : Int), ∀ (ls : rO) (σ : rS) (F_c25 : hF) (A_c25 : hA) , rlook ls 0 = some (.ref (D 3)) → rlook ls 1 = some (I (a1)) → rlook ls 2 = some (I (a2)) → rlook ls 3 = some (I (a3)) → rlook ls 4 = some (I (a4)) → rlook ls 5 = some (I ((a2 - a1))) → rlook ls 6 = some (I ((a3 - 4))) → HS σ0 σ D N F_c25 A_c25 → SF [] F F_c25 → SA [] A A_c25 → (inr (tc25_0)) → ((((a2 - a1)) ≤ (15) ∧ (tc25_0) = ((a2 - a1))) ∨ (((a2 - a1)) > (15) ∧ (tc25_0) = (15))) → Ew 365 (d + 2) 25 ls [I (tc25_0), .ref (D 3)] σ c s Q := by
   as_aux_lemma =>
    intro tc25_0 ls σ F_c25 A_c25  lc25_0 lc25_1 lc25_2 lc25_3 lc25_4 lc25_5 lc25_6 H hS_c25 hA_c25   jc25_0 jc25_1
    refine Ew_of (pcₚ := 27) (fun _ => x_bipush (z := 16) rfl (by decide)) ?_
    refine w_imul rfl ?_
    refine Ew_of (pcₚ := 29) (fun _ => x_iload_n rfl lc25_3) ?_
    have hc50 : ∀ (tc50_0 : Int), ∀ (ls : rO) (σ : rS) (F_c50 : hF) (A_c50 : hA) , rlook ls 0 = some (.ref (D 3)) → rlook ls 1 = some (I (a1)) → rlook ls 2 = some (I (a2)) → rlook ls 3 = some (I (a3)) → rlook ls 4 = some (I (a4)) → rlook ls 5 = some (I ((a2 - a1))) → rlook ls 6 = some (I ((a3 - 4))) → HS σ0 σ D N F_c50 A_c50 → SF [] F_c25 F_c50 → SA [] A_c25 A_c50 → (inr (tc50_0)) → (((a3) ≠ (0) ∧ ((a3 - 4)) ≤ (15) ∧ (tc50_0) = ((a3 - 4))) ∨ ((a3) ≠ (0) ∧ ((a3 - 4)) > (15) ∧ (tc50_0) = (15)) ∨ ((a3) = (0) ∧ (tc50_0) = (0))) → Ew 365 (d + 2) 50 ls [I (tc50_0), I ((tc25_0 * 16)), .ref (D 3)] σ c s Q := by
     as_aux_lemma =>
      intro tc50_0 ls σ F_c50 A_c50  lc50_0 lc50_1 lc50_2 lc50_3 lc50_4 lc50_5 lc50_6 H hS_c50 hA_c50   jc50_0 jc50_1
      refine w_iadd rfl ?_
      have hx0 : (((tc25_0 * 16) + tc50_0)) = cap15 ((a2) - (a1)) * 16 + (if (a3) = 0 then 0 else cap15 ((a3) - 4)) := by unfold cap15; split <;> split <;> (try split) <;> omega
      refine w_inv H (o := 3) rfl rfl rfl (H.perm 3 rfl) rfl rfl (by rfl) (M363 H (u3_10) ((((hS_c50 3 10 rfl).trans (hS_c25 3 10 rfl)).trans (eu3_10))) (w20) ((funext (hA_c50 20 rfl)).trans ((funext (hA_c25 20 rfl)).trans (ew20))) (show inr (((tc25_0 * 16) + tc50_0)) by omega) (show 0 ≤ (((tc25_0 * 16) + tc50_0)) ∧ (((tc25_0 * 16) + tc50_0)) ≤ 255 by omega) (show 0 ≤ (u3_10) ∧ (u3_10) ≤ 100000000 from q_453 h7 r1) (fun σ F2 A3 H hS4 hA5 y7 ey8 wv9 ewv10 pz6_0 pz6_1 => ⟨rfl, ?_⟩))
      have r11 : (-2147483648 : Int) ≤ y7 ∧ y7 ≤ 2147483647 := rngE (show (-2147483648 : Int) ≤ F2 3 10 ∧ F2 3 10 ≤ 2147483647 from H.frng 3 10) (show F2 3 10 = y7 from (ey8))
      have hsy := pz6_1
      rw [hx0] at hsy
      refine Ew_of (pcₚ := 55) (fun _ => x_aload_n rfl lc50_0) ?_
      refine Ew_of (pcₚ := 57) (fun _ => x_iload rfl lc50_5) ?_
      refine w_inv H (o := 3) rfl rfl rfl (H.perm 3 rfl) rfl rfl (by rfl) (M364 H (y7) ((ey8)) (wv9) (ewv10) (show inr ((a2 - a1)) from q_456 h4) (show -10 ≤ ((a2 - a1)) ∧ ((a2 - a1)) ≤ 100000 from q_455 h4) (show 0 ≤ (y7) ∧ (y7) ≤ 10000000 from q_454 h7 pz6_0 r11) (fun σ F12 A13 H hS14 hA15 y17 ey18 wv19 ewv20 pz16_0 pz16_1 => ⟨rfl, ?_⟩))
      have r21 : (-2147483648 : Int) ≤ y17 ∧ y17 ≤ 2147483647 := rngE (show (-2147483648 : Int) ≤ F12 3 10 ∧ F12 3 10 ≤ 2147483647 from H.frng 3 10) (show F12 3 10 = y17 from (ey18))
      have hsa := pz16_1
      refine Ew_of (pcₚ := 61) (fun _ => x_iload_n rfl lc50_1) ?_
      refine Ew_of (pcₚ := 63) (fun _ => x_istore rfl) ?_
      have hq0 : QTO 70000 ((w20)) ((u3_10)) ((wv19)) ((y17)) (tks (sc ((w18)) ((a1)) ((a2))) ((a3)) ((a4))) (sc ((w18)) ((a1)) ((a2)) ++ tkt ((a3)) ((a4))) := QTO_s (QTO_s QTO_0 (by unfold tks; rw [hln]) hsy) rfl hsa
      suffices hl63 : ∀ (m : Nat), ∀ (ls : rO) (σ : rS) (F_63 : hF) (A_63 : hA) (x63_7 : Int), rlook ls 0 = some (.ref (D 3)) → rlook ls 2 = some (I (a2)) → rlook ls 3 = some (I (a3)) → rlook ls 4 = some (I (a4)) → rlook ls 6 = some (I ((a3 - 4))) → rlook ls 7 = some (I (x63_7)) → HS σ0 σ D N F_63 A_63 → SF [(3, 10)] F12 F_63 → SA [20] A13 A_63 → ∀ y63_3_10 : Int, F_63 3 10 = y63_3_10 → ∀ w63_20 : Int → Int, A_63 20 = w63_20 → (inr (x63_7)) → ((a1) ≤ (x63_7)) → ((x63_7) ≤ (a1) ∨ (x63_7) ≤ ((a2))) → ((y63_3_10) = (y17) + ((x63_7) - (a1))) → (QTO 70000 ((w20)) ((u3_10)) ((w63_20)) ((y63_3_10)) (tks (sc ((w18)) ((a1)) ((a2))) ((a3)) ((a4))) (sc ((w18)) ((x63_7)) ((a2)) ++ tkt ((a3)) ((a4)))) → (((a2)) - (x63_7)).toNat = m → Ew 365 (d + 2) 63 ls [] σ c s Q from
        hl63 _ _ σ _ _ (a1) (rk_o (lc50_0) rfl rfl) (rk_o (lc50_2) rfl rfl) (rk_o (lc50_3) rfl rfl) (rk_o (lc50_4) rfl rfl) (rk_o (lc50_6) rfl rfl) (rk_s) H (SF_refl) (SA_refl) (y17) ((ey18)) (wv19) (ewv20) (show inr (a1) from h0) (show (a1) ≤ (a1) from q_43) (show (a1) ≤ (a1) ∨ (a1) ≤ ((a2)) from q_156) (show (y17) = (y17) + ((a1) - (a1)) from q_446) (hq0) rfl
      as_aux_lemma =>
      intro m
      induction m using Nat.strongRecOn with
      | _ m ih63 =>
        intro ls σ F_63 A_63 x63_7 l63_0 l63_2 l63_3 l63_4 l63_6 l63_7 H hS_63 hA_63 y63_3_10 ey63_3_10 w63_20 ew63_20 j63_0 j63_1 j63_2 j63_3 j63_4 hm63
        have r22 : (-2147483648 : Int) ≤ y63_3_10 ∧ y63_3_10 ≤ 2147483647 := rngE (show (-2147483648 : Int) ≤ F_63 3 10 ∧ F_63 3 10 ≤ 2147483647 from H.frng 3 10) (show F_63 3 10 = y63_3_10 from (ey63_3_10))
        have j63_q : QTO 70000 ((w20)) ((u3_10)) ((w63_20)) ((y63_3_10)) (tks (sc ((w18)) ((a1)) ((a2))) ((a3)) ((a4))) (sc ((w18)) ((x63_7)) ((a2)) ++ tkt ((a3)) ((a4))) := by assumption
        refine Ew_of (pcₚ := 65) (fun _ => x_iload rfl l63_7) ?_
        refine Ew_of (pcₚ := 66) (fun _ => x_iload_n rfl l63_2) ?_
        refine w_icmpge (t := 86) rfl rfl (show inr (x63_7) from j63_0) (show inr (a2) from h1) (fun b23 => ?_) (fun b23 => ?_)
        · refine Ew_of (pcₚ := 87) (fun _ => x_iload_n rfl l63_3) ?_
          refine w_ifne (t := 91) rfl rfl (show inr (a3) from h2) (fun b24 => ?_) (fun b24 => ?_)
          · refine Ew_of (pcₚ := 92) (fun _ => x_aload_n rfl l63_0) ?_
            refine Ew_of (pcₚ := 94) (fun _ => x_iload rfl l63_4) ?_
            refine Ew_of (pcₚ := 97) (fun _ => x_sipush (z := 256) rfl (by decide)) ?_
            refine w_irem rfl (show inr (a4) ∧ 0 ≤ a4 from q_458 h3 h6) (show inr (256) ∧ 0 < 256 from q_457) ?_
            have hx1 : ((a4 % 256)) = (a4) % 256 := q_459
            refine w_inv H (o := 3) rfl rfl rfl (H.perm 3 rfl) rfl rfl (by rfl) (M363 H (y63_3_10) ((ey63_3_10)) (w63_20) (ew63_20) (show inr ((a4 % 256)) from q_461) (show 0 ≤ ((a4 % 256)) ∧ ((a4 % 256)) ≤ 255 from q_460) (show 0 ≤ (y63_3_10) ∧ (y63_3_10) ≤ 100000000 by omega) (fun σ F25 A26 H hS27 hA28 y30 ey31 wv32 ewv33 pz29_0 pz29_1 => ⟨rfl, ?_⟩))
            have r34 : (-2147483648 : Int) ≤ y30 ∧ y30 ≤ 2147483647 := rngE (show (-2147483648 : Int) ≤ F25 3 10 ∧ F25 3 10 ≤ 2147483647 from H.frng 3 10) (show F25 3 10 = y30 from (ey31))
            have hsc := pz29_1
            rw [hx1] at hsc
            refine Ew_of (pcₚ := 102) (fun _ => x_aload_n rfl l63_0) ?_
            refine Ew_of (pcₚ := 104) (fun _ => x_iload rfl l63_4) ?_
            refine Ew_of (pcₚ := 107) (fun _ => x_sipush (z := 256) rfl (by decide)) ?_
            refine w_idiv rfl (show inr (a4) ∧ 0 ≤ a4 from q_458 h3 h6) (show inr (256) ∧ 0 < 256 from q_457) ?_
            have hx2 : ((a4 / 256)) = (a4) / 256 := q_462
            refine w_inv H (o := 3) rfl rfl rfl (H.perm 3 rfl) rfl rfl (by rfl) (M363 H (y30) ((ey31)) (wv32) (ewv33) (show inr ((a4 / 256)) from q_464 h6) (show 0 ≤ ((a4 / 256)) ∧ ((a4 / 256)) ≤ 255 from q_463 h6) (show 0 ≤ (y30) ∧ (y30) ≤ 100000000 by omega) (fun σ F35 A36 H hS37 hA38 y40 ey41 wv42 ewv43 pz39_0 pz39_1 => ⟨rfl, ?_⟩))
            have r44 : (-2147483648 : Int) ≤ y40 ∧ y40 ≤ 2147483647 := rngE (show (-2147483648 : Int) ≤ F35 3 10 ∧ F35 3 10 ≤ 2147483647 from H.frng 3 10) (show F35 3 10 = y40 from (ey41))
            have hsd := pz39_1
            rw [hx2] at hsd
            refine Ew_of (pcₚ := 112) (fun _ => x_aload_n rfl l63_0) ?_
            refine Ew_of (pcₚ := 114) (fun _ => x_iload rfl l63_6) ?_
            refine w_inv H (o := 3) rfl rfl rfl (H.perm 3 rfl) rfl rfl (by rfl) (M364 H (y40) ((ey41)) (wv42) (ewv43) (show inr ((a3 - 4)) from q_466 h5 h6 jc50_1) (show -10 ≤ ((a3 - 4)) ∧ ((a3 - 4)) ≤ 100000 from q_465 h5 h6 jc50_1) (show 0 ≤ (y40) ∧ (y40) ≤ 10000000 by omega) (fun σ F45 A46 H hS47 hA48 y50 ey51 wv52 ewv53 pz49_0 pz49_1 => ⟨rfl, ?_⟩))
            have r54 : (-2147483648 : Int) ≤ y50 ∧ y50 ≤ 2147483647 := rngE (show (-2147483648 : Int) ≤ F45 3 10 ∧ F45 3 10 ≤ 2147483647 from H.frng 3 10) (show F45 3 10 = y50 from (ey51))
            have : QAP 70000 ((w20)) ((u3_10)) ((wv52)) ((y50)) (tks (sc ((w18)) ((a1)) ((a2))) ((a3)) ((a4))) := QTO_e (QTO_s (QTO_s j63_q (by rw [sc_nil (a := (x63_7)) (b := (a2)) (by omega)]; show tkt _ _ = _; unfold tkt; rw [if_neg (by omega)]) hsc) rfl hsd) pz49_1
            exact w_ret rfl (k σ _ _ H (SF_trans (SF_trans (SF_trans (SF_trans (SF_trans (SF_trans (SF_trans (SF_trans (SF_refl) hS_c25 (any_sub rfl)) hS_c50 (any_sub rfl)) hS4 (any_sub rfl)) hS14 (any_sub rfl)) hS_63 (any_sub rfl)) hS27 (any_sub rfl)) hS37 (any_sub rfl)) hS47 (any_sub rfl)) (SA_trans (SA_trans (SA_trans (SA_trans (SA_trans (SA_trans (SA_trans (SA_trans (SA_refl) hA_c25 (any_subA rfl)) hA_c50 (any_subA rfl)) hA5 (any_subA rfl)) hA15 (any_subA rfl)) hA_63 (any_subA rfl)) hA28 (any_subA rfl)) hA38 (any_subA rfl)) hA48 (any_subA rfl)) (y50) ((ey51)) (wv52) (ewv53) (show (u3_10) ≤ (y50) ∧ (y50) ≤ (u3_10) + (a2 - a1) + 140 by omega) (show QAP 70000 ((w20)) ((u3_10)) ((wv52)) ((y50)) (tks (sc ((w18)) (a1) (a2)) (a3) (a4)) by assumption))
          · have : QAP 70000 ((w20)) ((u3_10)) ((w63_20)) ((y63_3_10)) (tks (sc ((w18)) ((a1)) ((a2))) ((a3)) ((a4))) := QTO_z (by have h := j63_q; rw [sc_nil (a := (x63_7)) (b := (a2)) (by omega), show tkt ((a3)) ((a4)) = [] from if_pos (by omega)] at h; exact h)
            exact w_ret rfl (k σ _ _ H (SF_trans (SF_trans (SF_trans (SF_trans (SF_trans (SF_refl) hS_c25 (any_sub rfl)) hS_c50 (any_sub rfl)) hS4 (any_sub rfl)) hS14 (any_sub rfl)) hS_63 (any_sub rfl)) (SA_trans (SA_trans (SA_trans (SA_trans (SA_trans (SA_refl) hA_c25 (any_subA rfl)) hA_c50 (any_subA rfl)) hA5 (any_subA rfl)) hA15 (any_subA rfl)) hA_63 (any_subA rfl)) (y63_3_10) ((ey63_3_10)) (w63_20) (ew63_20) (show (u3_10) ≤ (y63_3_10) ∧ (y63_3_10) ≤ (u3_10) + (a2 - a1) + 140 from q_467 h4 j63_1 j63_2 j63_3 pz16_0 pz6_0) (show QAP 70000 ((w20)) ((u3_10)) ((w63_20)) ((y63_3_10)) (tks (sc ((w18)) (a1) (a2)) (a3) (a4)) by assumption))
        · refine Ew_of (pcₚ := 70) (fun _ => x_aload_n rfl l63_0) ?_
          refine Ew_of (pcₚ := 71) (fun _ => x_aload_n rfl l63_0) ?_
          refine w_gT H (o := 3) (t := 18) rfl (H.perm 3 rfl) rfl rfl rfl rfl rfl rfl ?_
          refine Ew_of (pcₚ := 76) (fun _ => x_iload rfl l63_7) ?_
          refine w_lI H (o := 18) (n := 16384) rfl (H.perm 18 rfl) rfl rfl (H.fix 18 rfl rfl) (show 0 ≤ x63_7 ∧ x63_7 < ((16384 : Nat) : Int) from q_468 b23 h4 j63_1) (by decide) (fun v55 ev55 qv55 => ?_)
          have qv55 : (0 : Int) ≤ v55 ∧ v55 ≤ 255 := qv55
          have ev55 : (w18) (x63_7) = v55 := (congrFun ((funext (hA_63 18 rfl)).trans ((funext (hA15 18 rfl)).trans ((funext (hA5 18 rfl)).trans ((funext (hA_c50 18 rfl)).trans ((funext (hA_c25 18 rfl)).trans (ew18)))))) (x63_7)).symm.trans ev55
          have hv := ev55
          refine w_inv H (o := 3) rfl rfl rfl (H.perm 3 rfl) rfl rfl (by rfl) (M363 H (y63_3_10) ((ey63_3_10)) (w63_20) (ew63_20) (show inr (v55) from q_299 qv55) (show 0 ≤ (v55) ∧ (v55) ≤ 255 from qv55) (show 0 ≤ (y63_3_10) ∧ (y63_3_10) ≤ 100000000 by omega) (fun σ F56 A57 H hS58 hA59 y61 ey62 wv63 ewv64 pz60_0 pz60_1 => ⟨rfl, ?_⟩))
          have r65 : (-2147483648 : Int) ≤ y61 ∧ y61 ≤ 2147483647 := rngE (show (-2147483648 : Int) ≤ F56 3 10 ∧ F56 3 10 ≤ 2147483647 from H.frng 3 10) (show F56 3 10 = y61 from (ey62))
          have hsb := pz60_1
          refine Ew_of (pcₚ := 83) (fun _ => x_iinc (len := 3) rfl (l63_7)) ?_
          refine Ew_of (pcₚ := 63) (fun _ => x_goto rfl rfl) ?_
          have : QTO 70000 ((w20)) ((u3_10)) ((wv63)) ((y61)) (tks (sc ((w18)) ((a1)) ((a2))) ((a3)) ((a4))) (sc ((w18)) (((x63_7 + 1))) ((a2)) ++ tkt ((a3)) ((a4))) := QTO_s j63_q (by rw [sc_cons (by omega), hv, u8_id (by omega)]; rfl) hsb
          exact ih63 _ (msE hm63 q_16 (q_17 b23)) _ σ _ _ ((x63_7 + 1)) (rk_o (l63_0) rfl rfl) (rk_o (l63_2) rfl rfl) (rk_o (l63_3) rfl rfl) (rk_o (l63_4) rfl rfl) (rk_o (l63_6) rfl rfl) (rk_s) H (SF_trans (hS_63) hS58 (any_sub rfl)) (SA_trans (hA_63) hA59 (any_subA rfl)) (y61) ((ey62)) (wv63) (ewv64) (show inr ((x63_7 + 1)) from q_470 b23 h4 j63_0) (show (a1) ≤ ((x63_7 + 1)) from q_161 j63_1) (show ((x63_7 + 1)) ≤ (a1) ∨ ((x63_7 + 1)) ≤ ((a2)) from q_160 b23) (show (y61) = (y17) + (((x63_7 + 1)) - (a1)) from q_469 j63_3 pz60_0) (show QTO 70000 ((w20)) ((u3_10)) ((wv63)) ((y61)) (tks (sc ((w18)) ((a1)) ((a2))) ((a3)) ((a4))) (sc ((w18)) (((x63_7 + 1))) ((a2)) ++ tkt ((a3)) ((a4))) by assumption) rfl
    refine w_ifne (t := 36) rfl rfl (show inr (a3) from h2) (fun b66 => ?_) (fun b66 => ?_)
    · refine Ew_of (pcₚ := 38) (fun _ => x_iload rfl lc25_6) ?_
      refine Ew_of (pcₚ := 40) (fun _ => x_bipush (z := 15) rfl (by decide)) ?_
      refine w_icmple (t := 48) rfl rfl (show inr ((a3 - 4)) from q_471 h5 h6) (show inr (15) from q_399) (fun b67 => ?_) (fun b67 => ?_)
      · refine Ew_of (pcₚ := 50) (fun _ => x_iload rfl lc25_6) ?_
        exact hc50 ((a3 - 4)) _ σ _ _  (lc25_0) (lc25_1) (lc25_2) (lc25_3) (lc25_4) (lc25_5) (lc25_6) H (SF_refl) (SA_refl)   (show inr ((a3 - 4)) from q_473 b67 h5) (show ((a3) ≠ (0) ∧ ((a3 - 4)) ≤ (15) ∧ ((a3 - 4)) = ((a3 - 4))) ∨ ((a3) ≠ (0) ∧ ((a3 - 4)) > (15) ∧ ((a3 - 4)) = (15)) ∨ ((a3) = (0) ∧ ((a3 - 4)) = (0)) from q_472 b66 b67)
      · refine Ew_of (pcₚ := 45) (fun _ => x_bipush (z := 15) rfl (by decide)) ?_
        refine Ew_of (pcₚ := 50) (fun _ => x_goto rfl rfl) ?_
        exact hc50 (15) _ σ _ _  (lc25_0) (lc25_1) (lc25_2) (lc25_3) (lc25_4) (lc25_5) (lc25_6) H (SF_refl) (SA_refl)   (show inr (15) from q_399) (show ((a3) ≠ (0) ∧ ((a3 - 4)) ≤ (15) ∧ (15) = ((a3 - 4))) ∨ ((a3) ≠ (0) ∧ ((a3 - 4)) > (15) ∧ (15) = (15)) ∨ ((a3) = (0) ∧ (15) = (0)) from q_474 b66 b67)
    · refine Ew_of (pcₚ := 33) (fun _ => x_iconst rfl) ?_
      refine Ew_of (pcₚ := 50) (fun _ => x_goto rfl rfl) ?_
      exact hc50 (0) _ σ _ _  (lc25_0) (lc25_1) (lc25_2) (lc25_3) (lc25_4) (lc25_5) (lc25_6) H (SF_refl) (SA_refl)   (show inr (0) from q_2) (show ((a3) ≠ (0) ∧ ((a3 - 4)) ≤ (15) ∧ (0) = ((a3 - 4))) ∨ ((a3) ≠ (0) ∧ ((a3 - 4)) > (15) ∧ (0) = (15)) ∨ ((a3) = (0) ∧ (0) = (0)) from q_475 b66)
  refine w_icmple (t := 23) rfl rfl (show inr ((a2 - a1)) from q_456 h4) (show inr (15) from q_399) (fun b68 => ?_) (fun b68 => ?_)
  · refine Ew_of (pcₚ := 25) (fun _ => x_iload rfl (rk_o (rk_s) rfl rfl)) ?_
    exact hc25 ((a2 - a1)) _ σ _ _  (rk_o (rk_o (rfl) rfl rfl) rfl rfl) (rk_o (rk_o (rfl) rfl rfl) rfl rfl) (rk_o (rk_o (rfl) rfl rfl) rfl rfl) (rk_o (rk_o (rfl) rfl rfl) rfl rfl) (rk_o (rk_o (rfl) rfl rfl) rfl rfl) (rk_o (rk_s) rfl rfl) (rk_s) H (SF_refl) (SA_refl)   (show inr ((a2 - a1)) from q_477 b68 h4) (show (((a2 - a1)) ≤ (15) ∧ ((a2 - a1)) = ((a2 - a1))) ∨ (((a2 - a1)) > (15) ∧ ((a2 - a1)) = (15)) from q_476 b68)
  · refine Ew_of (pcₚ := 20) (fun _ => x_bipush (z := 15) rfl (by decide)) ?_
    refine Ew_of (pcₚ := 25) (fun _ => x_goto rfl rfl) ?_
    exact hc25 (15) _ σ _ _  (rk_o (rk_o (rfl) rfl rfl) rfl rfl) (rk_o (rk_o (rfl) rfl rfl) rfl rfl) (rk_o (rk_o (rfl) rfl rfl) rfl rfl) (rk_o (rk_o (rfl) rfl rfl) rfl rfl) (rk_o (rk_o (rfl) rfl rfl) rfl rfl) (rk_o (rk_s) rfl rfl) (rk_s) H (SF_refl) (SA_refl)   (show inr (15) from q_399) (show (((a2 - a1)) ≤ (15) ∧ (15) = ((a2 - a1))) ∨ (((a2 - a1)) > (15) ∧ (15) = (15)) from q_478 b68)

theorem M366 {σ0 σ : rS} {D N : Nat → Nat} {F : hF} {A : hA} {d c s : Nat} {Q : wQ} (H : HS σ0 σ D N F A) {a1 a2 : Int} (u3_5 : Int) (eu3_5 : F 3 5 = u3_5) (w18 : Int → Int) (ew18 : A 18 = w18) (h0 : inr (a1)) (h1 : inr (a2)) (h2 : 0 ≤ (u3_5) ∧ (u3_5) ≤ 16384) (h3 : 0 ≤ (a1) ∧ (a1) ≤ (u3_5)) (h4 : 0 ≤ (a2) ∧ (a2) ≤ 3) (k : ∀ σ Fₚ Aₚ, HS σ0 σ D N Fₚ Aₚ → SF [(3, 6), (3, 10)] F Fₚ → SA [20] A Aₚ → ∀ y3_10 : Int, Fₚ 3 10 = y3_10 → ∀ v20 : Int → Int, Aₚ 20 = v20 → (0 ≤ (y3_10) ∧ (y3_10) ≤ 3000000) → (TWB 70000 (MTL ((w18)) ((u3_5) - 5) 65535 4 ((a2)) ((u3_5) - 12)) ((w18)) ((u3_5)) ((a1)) ((v20)) ((y3_10))) → Q none σ c s) : Ew 366 (d + 3) 0 (rargs 0 [.ref (D 3), I a1, I a2]) [] σ c s Q := by
  have r1 : (-2147483648 : Int) ≤ u3_5 ∧ u3_5 ≤ 2147483647 := rngE (show (-2147483648 : Int) ≤ F 3 5 ∧ F 3 5 ≤ 2147483647 from H.frng 3 5) (show F 3 5 = u3_5 from (eu3_5))
  refine Ew_of (pcₚ := 1) (fun _ => x_aload_n rfl rfl) ?_
  refine Ew_of (pcₚ := 2) (fun _ => x_iconst rfl) ?_
  refine w_pI H (o := 3) rfl rfl (H.perm 3 rfl) rfl rfl rfl (fun _ => rfl) rfl (show (-2147483648 : Int) ≤ 0 ∧ 0 ≤ 2147483647 from q_22) (fun σ H => ?_)
  refine Ew_of (pcₚ := 6) (fun _ => x_iload_n rfl rfl) ?_
  refine Ew_of (pcₚ := 7) (fun _ => x_istore_n rfl) ?_
  refine Ew_of (pcₚ := 8) (fun _ => x_iload_n rfl (rk_o (rfl) rfl rfl)) ?_
  refine Ew_of (pcₚ := 10) (fun _ => x_istore rfl) ?_
  have : TKI 70000 (MTL ((w18)) ((u3_5) - 5) 65535 4 ((a2)) ((u3_5) - 12)) ((w18)) ((u3_5)) ((a1)) ((a1)) ((a1)) ((A 20)) ((A 20)) (0) := TKI_0
  suffices hl10 : ∀ (m : Nat), ∀ (ls : rO) (σ : rS) (F_10 : hF) (A_10 : hA) (x10_3 : Int) (x10_4 : Int), rlook ls 0 = some (.ref (D 3)) → rlook ls 2 = some (I (a2)) → rlook ls 3 = some (I (x10_3)) → rlook ls 4 = some (I (x10_4)) → HS σ0 σ D N F_10 A_10 → SF [(3, 6), (3, 10)] (updF F 3 10 (0)) F_10 → SA [20] A A_10 → ∀ y10_3_10 : Int, F_10 3 10 = y10_3_10 → ∀ w10_20 : Int → Int, A_10 20 = w10_20 → (inr (x10_3)) → (inr (x10_4)) → ((a1) ≤ (x10_3) ∧ (x10_3) ≤ (x10_4) ∧ (x10_4) ≤ (u3_5)) → (0 ≤ (y10_3_10) ∧ (y10_3_10) ≤ 141 * ((x10_3) - (a1))) → (TKI 70000 (MTL ((w18)) ((u3_5) - 5) 65535 4 ((a2)) ((u3_5) - 12)) ((w18)) ((u3_5)) ((a1)) ((x10_4)) ((x10_3)) ((A 20)) ((w10_20)) ((y10_3_10))) → ((u3_5) - (x10_4)).toNat = m → Ew 366 (d + 3) 10 ls [] σ c s Q from
    hl10 _ _ σ _ _ (a1) (a1) (rk_o (rk_o (rfl) rfl rfl) rfl rfl) (rk_o (rk_o (rfl) rfl rfl) rfl rfl) (rk_o (rk_s) rfl rfl) (rk_s) H (SF_refl) (SA_refl) (0) (rfl) (A 20) (rfl) (show inr (a1) from h0) (show inr (a1) from h0) (show (a1) ≤ (a1) ∧ (a1) ≤ (a1) ∧ (a1) ≤ (u3_5) from q_480 h3) (show 0 ≤ (0) ∧ (0) ≤ 141 * ((a1) - (a1)) from q_479) (show TKI 70000 (MTL ((w18)) ((u3_5) - 5) 65535 4 ((a2)) ((u3_5) - 12)) ((w18)) ((u3_5)) ((a1)) ((a1)) ((a1)) ((A 20)) ((A 20)) ((0)) by assumption) rfl
  as_aux_lemma =>
  intro m
  induction m using Nat.strongRecOn with
  | _ m ih10 =>
    intro ls σ F_10 A_10 x10_3 x10_4 l10_0 l10_2 l10_3 l10_4 H hS_10 hA_10 y10_3_10 ey10_3_10 w10_20 ew10_20 j10_0 j10_1 j10_2 j10_3 j10_4 hm10
    have r2 : (-2147483648 : Int) ≤ y10_3_10 ∧ y10_3_10 ≤ 2147483647 := rngE (show (-2147483648 : Int) ≤ F_10 3 10 ∧ F_10 3 10 ≤ 2147483647 from H.frng 3 10) (show F_10 3 10 = y10_3_10 from (ey10_3_10))
    have j10_t : TKI 70000 (MTL ((w18)) ((u3_5) - 5) 65535 4 ((a2)) ((u3_5) - 12)) ((w18)) ((u3_5)) ((a1)) ((x10_4)) ((x10_3)) ((A 20)) ((w10_20)) ((y10_3_10)) := j10_4
    refine Ew_of (pcₚ := 12) (fun _ => x_iload rfl l10_4) ?_
    refine Ew_of (pcₚ := 13) (fun _ => x_aload_n rfl l10_0) ?_
    refine w_gI H (o := 3) (w := u3_5) rfl (H.perm 3 rfl) rfl rfl rfl (fun _ => rfl) ((hS_10 3 5 rfl).trans (eu3_5)) ?_
    refine w_icmpge (t := 68) rfl rfl (show inr (x10_4) from j10_1) (show inr (u3_5) from q_481 h2) (fun b3 => ?_) (fun b3 => ?_)
    · refine Ew_of (pcₚ := 69) (fun _ => x_aload_n rfl l10_0) ?_
      refine Ew_of (pcₚ := 70) (fun _ => x_iload_n rfl l10_3) ?_
      refine Ew_of (pcₚ := 71) (fun _ => x_aload_n rfl l10_0) ?_
      refine w_gI H (o := 3) (w := u3_5) rfl (H.perm 3 rfl) rfl rfl rfl (fun _ => rfl) ((hS_10 3 5 rfl).trans (eu3_5)) ?_
      refine Ew_of (pcₚ := 75) (fun _ => x_iconst rfl) ?_
      refine Ew_of (pcₚ := 76) (fun _ => x_iconst rfl) ?_
      refine w_inv H (o := 3) rfl rfl rfl (H.perm 3 rfl) rfl rfl (by rfl) (M365 H (y10_3_10) ((ey10_3_10)) (w18) ((funext (hA_10 18 rfl)).trans (ew18)) (w10_20) (ew10_20) (show inr (x10_3) from j10_0) (show inr (u3_5) from q_481 h2) (show inr (0) from q_2) (show inr (0) from q_2) (show 0 ≤ (x10_3) ∧ (x10_3) ≤ (u3_5) ∧ (u3_5) ≤ 16384 from q_484 h2 h3 j10_2 j10_3) (show (0) = 0 ∨ 4 ≤ (0) from q_483) (show (0) ≤ 16384 ∧ 0 ≤ (0) ∧ (0) ≤ 16384 from q_482) (show 0 ≤ (y10_3_10) ∧ (y10_3_10) ≤ 5000000 by omega) (fun σ F4 A5 H hS6 hA7 y9 ey10 wv11 ewv12 pz8_0 pz8_1 => ⟨rfl, ?_⟩))
      have r13 : (-2147483648 : Int) ≤ y9 ∧ y9 ≤ 2147483647 := rngE (show (-2147483648 : Int) ≤ F4 3 10 ∧ F4 3 10 ≤ 2147483647 from H.frng 3 10) (show F4 3 10 = y9 from (ey10))
      have : TWB 70000 (MTL ((w18)) ((u3_5) - 5) 65535 4 ((a2)) ((u3_5) - 12)) ((w18)) ((u3_5)) ((a1)) ((wv11)) ((y9)) := TWB_of j10_t (by omega) pz8_1
      exact w_ret rfl (k σ _ _ H (SF_trans (SF_trans (SF_upd (SF_refl) rfl) hS_10 (any_sub rfl)) hS6 (any_sub rfl)) (SA_trans (SA_trans (SA_refl) hA_10 (any_subA rfl)) hA7 (any_subA rfl)) (y9) ((ey10)) (wv11) (ewv12) (show 0 ≤ (y9) ∧ (y9) ≤ 3000000 by omega) (show TWB 70000 (MTL ((w18)) ((u3_5) - 5) 65535 4 (a2) ((u3_5) - 12)) ((w18)) ((u3_5)) (a1) ((wv11)) ((y9)) by assumption))
    · refine Ew_of (pcₚ := 20) (fun _ => x_aload_n rfl l10_0) ?_
      refine Ew_of (pcₚ := 22) (fun _ => x_iload rfl l10_4) ?_
      refine Ew_of (pcₚ := 23) (fun _ => x_iload_n rfl l10_2) ?_
      refine w_inv H (o := 3) rfl rfl rfl (H.perm 3 rfl) rfl rfl (by rfl) (M362 H (u3_5) (((hS_10 3 5 rfl).trans (eu3_5))) (w18) ((funext (hA_10 18 rfl)).trans (ew18)) (show inr (x10_4) from j10_1) (show inr (a2) from h1) (show 0 ≤ (u3_5) ∧ (u3_5) ≤ 16384 from h2) (show 0 ≤ (x10_4) ∧ (x10_4) < 16384 from q_485 b3 h2 h3 j10_2 j10_3) (show 0 ≤ (a2) ∧ (a2) ≤ 3 from h4) (fun z18 σ F14 A15 H hS16 hA17 y19 ey20 pz18_0 pz18_1 pz18_2 pz18_3 pz18_4 => ⟨rfl, ?_⟩))
      have r21 : (0 : Int) ≤ y19 ∧ y19 ≤ 16384 := rngE (show (0 : Int) ≤ F14 3 6 ∧ F14 3 6 ≤ 16384 from H.frng 3 6) (show F14 3 6 = y19 from (ey20))
      have htk : ∀ r, (z18) = r → MTL ((w18)) ((u3_5) - 5) 65535 4 ((a2)) ((u3_5) - 12) ((x10_4)) (r) ((x10_4) - (y19)) := fun r e => e ▸ pz18_4
      refine Ew_of (pcₚ := 28) (fun _ => x_istore rfl) ?_
      refine Ew_of (pcₚ := 30) (fun _ => x_iload rfl rk_s) ?_
      refine w_ifne (t := 39) rfl rfl (show inr (z18) from pz18_0) (fun b22 => ?_) (fun b22 => ?_)
      · refine Ew_of (pcₚ := 40) (fun _ => x_aload_n rfl (rk_o (l10_0) rfl rfl)) ?_
        refine Ew_of (pcₚ := 41) (fun _ => x_iload_n rfl (rk_o (l10_3) rfl rfl)) ?_
        refine Ew_of (pcₚ := 43) (fun _ => x_iload rfl (rk_o (l10_4) rfl rfl)) ?_
        refine Ew_of (pcₚ := 45) (fun _ => x_iload rfl rk_s) ?_
        refine Ew_of (pcₚ := 47) (fun _ => x_iload rfl (rk_o (l10_4) rfl rfl)) ?_
        refine Ew_of (pcₚ := 48) (fun _ => x_aload_n rfl (rk_o (l10_0) rfl rfl)) ?_
        refine w_gI H (o := 3) (w := y19) rfl (H.perm 3 rfl) rfl rfl rfl (fun _ => rfl) (ey20) ?_
        refine w_isub rfl ?_
        refine w_inv H (o := 3) rfl rfl rfl (H.perm 3 rfl) rfl rfl (by rfl) (M365 H (y10_3_10) (((hS16 3 10 rfl).trans (ey10_3_10))) (w18) ((funext (hA17 18 rfl)).trans ((funext (hA_10 18 rfl)).trans (ew18))) (w10_20) ((funext (hA17 20 rfl)).trans (ew10_20)) (show inr (x10_3) from j10_0) (show inr (x10_4) from j10_1) (show inr (z18) from pz18_0) (show inr ((x10_4 - y19)) from q_487 h3 j10_1 j10_2 j10_3 r21) (show 0 ≤ (x10_3) ∧ (x10_3) ≤ (x10_4) ∧ (x10_4) ≤ 16384 from q_486 b3 h2 h3 j10_2 j10_3) (show (z18) = 0 ∨ 4 ≤ (z18) by omega) (show (z18) ≤ 16384 ∧ 0 ≤ ((x10_4 - y19)) ∧ ((x10_4 - y19)) ≤ 16384 by omega) (show 0 ≤ (y10_3_10) ∧ (y10_3_10) ≤ 5000000 by omega) (fun σ F23 A24 H hS25 hA26 y28 ey29 wv30 ewv31 pz27_0 pz27_1 => ⟨rfl, ?_⟩))
        have r32 : (-2147483648 : Int) ≤ y28 ∧ y28 ≤ 2147483647 := rngE (show (-2147483648 : Int) ≤ F23 3 10 ∧ F23 3 10 ≤ 2147483647 from H.frng 3 10) (show F23 3 10 = y28 from (ey29))
        have hsq := pz27_1
        refine Ew_of (pcₚ := 57) (fun _ => x_iload rfl (rk_o (l10_4) rfl rfl)) ?_
        refine Ew_of (pcₚ := 59) (fun _ => x_iload rfl rk_s) ?_
        refine w_iadd rfl ?_
        refine Ew_of (pcₚ := 62) (fun _ => x_istore rfl) ?_
        refine Ew_of (pcₚ := 64) (fun _ => x_iload rfl rk_s) ?_
        refine Ew_of (pcₚ := 65) (fun _ => x_istore_n rfl) ?_
        refine Ew_of (pcₚ := 10) (fun _ => x_goto rfl rfl) ?_
        have : TKI 70000 (MTL ((w18)) ((u3_5) - 5) 65535 4 ((a2)) ((u3_5) - 12)) ((w18)) ((u3_5)) ((a1)) (((x10_4 + z18))) (((x10_4 + z18))) ((A 20)) ((wv30)) ((y28)) := by first | exact TKI_skip j10_t (by omega) (htk 0 (by omega)) rfl | exact TKI_take j10_t (by omega) (by omega) (by omega) (htk _ rfl) rfl hsq
        exact ih10 _ (by omega) _ σ _ _ ((x10_4 + z18)) ((x10_4 + z18)) (rk_o (rk_o (rk_o (l10_0) rfl rfl) rfl rfl) rfl rfl) (rk_o (rk_o (rk_o (l10_2) rfl rfl) rfl rfl) rfl rfl) (rk_s) (rk_o (rk_s) rfl rfl) H (SF_trans (SF_trans (hS_10) hS16 (any_sub rfl)) hS25 (any_sub rfl)) (SA_trans (SA_trans (hA_10) hA17 (any_subA rfl)) hA26 (any_subA rfl)) (y28) ((ey29)) (wv30) (ewv31) (show inr ((x10_4 + z18)) from q_489 h2 j10_1 pz18_1 pz18_2 pz18_3) (show inr ((x10_4 + z18)) from q_489 h2 j10_1 pz18_1 pz18_2 pz18_3) (show (a1) ≤ ((x10_4 + z18)) ∧ ((x10_4 + z18)) ≤ ((x10_4 + z18)) ∧ ((x10_4 + z18)) ≤ (u3_5) from q_488 b3 j10_2 j10_3 pz18_1 pz18_2 pz18_3) (show 0 ≤ (y28) ∧ (y28) ≤ 141 * (((x10_4 + z18)) - (a1)) by omega) (show TKI 70000 (MTL ((w18)) ((u3_5) - 5) 65535 4 ((a2)) ((u3_5) - 12)) ((w18)) ((u3_5)) ((a1)) (((x10_4 + z18))) (((x10_4 + z18))) ((A 20)) ((wv30)) ((y28)) by assumption) rfl
      · refine Ew_of (pcₚ := 36) (fun _ => x_iinc (len := 3) rfl (rk_o (l10_4) rfl rfl)) ?_
        refine Ew_of (pcₚ := 10) (fun _ => x_goto rfl rfl) ?_
        have : TKI 70000 (MTL ((w18)) ((u3_5) - 5) 65535 4 ((a2)) ((u3_5) - 12)) ((w18)) ((u3_5)) ((a1)) (((x10_4 + 1))) ((x10_3)) ((A 20)) ((w10_20)) ((y10_3_10)) := by first | exact TKI_skip j10_t (by omega) (htk 0 (by omega)) rfl | exact TKI_take j10_t (by omega) (by omega) (by omega) (htk _ rfl) rfl hsq
        exact ih10 _ (msE hm10 q_16 (q_17 b3)) _ σ _ _ (x10_3) ((x10_4 + 1)) (rk_o (rk_o (l10_0) rfl rfl) rfl rfl) (rk_o (rk_o (l10_2) rfl rfl) rfl rfl) (rk_o (rk_o (l10_3) rfl rfl) rfl rfl) (rk_s) H (SF_trans (hS_10) hS16 (any_sub rfl)) (SA_trans (hA_10) hA17 (any_subA rfl)) (y10_3_10) (((hS16 3 10 rfl).trans (ey10_3_10))) (w10_20) ((funext (hA17 20 rfl)).trans (ew10_20)) (show inr (x10_3) from j10_0) (show inr ((x10_4 + 1)) from q_491 b3 h2 j10_1) (show (a1) ≤ (x10_3) ∧ (x10_3) ≤ ((x10_4 + 1)) ∧ ((x10_4 + 1)) ≤ (u3_5) from q_490 b3 j10_2) (show 0 ≤ (y10_3_10) ∧ (y10_3_10) ≤ 141 * ((x10_3) - (a1)) from j10_3) (show TKI 70000 (MTL ((w18)) ((u3_5) - 5) 65535 4 ((a2)) ((u3_5) - 12)) ((w18)) ((u3_5)) ((a1)) (((x10_4 + 1))) ((x10_3)) ((A 20)) ((w10_20)) ((y10_3_10)) by assumption) rfl

theorem M369_19 {σ0 σ : rS} {D N : Nat → Nat} {F : hF} {A : hA} {d c s : Nat} {Q : wQ} (H : HS σ0 σ D N F A) {a2 : Int} (w19 : Int → Int) (ew19 : A 19 = w19) (h0 : inr (a2)) (h1 : 0 ≤ (a2) ∧ (a2) ≤ 100000000) (k : ∀ (z : Int) σ Fₚ Aₚ, HS σ0 σ D N Fₚ Aₚ → SF [(1, 3)] F Fₚ → SA [15] A Aₚ → ∀ y1_3 : Int, Fₚ 1 3 = y1_3 → ∀ v15 : Int → Int, Aₚ 15 = v15 → (inr (z)) → ((z) = -1 ∧ 65536 < (a2) ∨ (z) = (a2) ∧ (a2) ≤ 65536 ∧ (y1_3) = (a2)) → (IMP ((0 : Int) ≤ (z)) (CPY ((w19)) ((v15)) (0) (0) ((a2)))) → Q (some (I z)) σ c s) : Ew 369 (d + 0) 0 (rargs 0 [.ref (D 3), .ref (D 19), I a2]) [] σ c s Q := by
  refine Ew_of (pcₚ := 1) (fun _ => x_iload_n rfl rfl) ?_
  refine Ew_of (pcₚ := 3) (fun _ => x_ldc (z := 65536) rfl (by decide)) ?_
  refine w_icmple (t := 8) rfl rfl (show inr (a2) from h0) (show inr (65536) from q_52) (fun b1 => ?_) (fun b1 => ?_)
  · refine Ew_of (pcₚ := 9) (fun _ => x_iconst rfl) ?_
    refine Ew_of (pcₚ := 10) (fun _ => x_istore_n rfl) ?_
    have : CPY ((w19)) ((A 15)) (0) (0) (0) := CPY_0
    suffices hl10 : ∀ (m : Nat), ∀ (ls : rO) (σ : rS) (F_10 : hF) (A_10 : hA) (x10_3 : Int), rlook ls 0 = some (.ref (D 3)) → rlook ls 1 = some (.ref (D 19)) → rlook ls 2 = some (I (a2)) → rlook ls 3 = some (I (x10_3)) → HS σ0 σ D N F_10 A_10 → SF [] F F_10 → SA [15] A A_10 → ∀ w10_15 : Int → Int, A_10 15 = w10_15 → (inr (x10_3)) → ((0) ≤ (x10_3)) → ((x10_3) ≤ (0) ∨ (x10_3) ≤ ((a2))) → (CPY ((w19)) ((w10_15)) (0) (0) ((x10_3))) → (((a2)) - (x10_3)).toNat = m → Ew 369 (d + 0) 10 ls [] σ c s Q from
      hl10 _ _ σ _ _ (0) (rk_o (rfl) rfl rfl) (rk_o (rfl) rfl rfl) (rk_o (rfl) rfl rfl) (rk_s) H (SF_refl) (SA_refl)  (A 15) (rfl) (show inr (0) from q_2) (show (0) ≤ (0) from q_1) (show (0) ≤ (0) ∨ (0) ≤ ((a2)) from q_5) (show CPY ((w19)) ((A 15)) (0) (0) ((0)) by assumption) rfl
    as_aux_lemma =>
    intro m
    induction m using Nat.strongRecOn with
    | _ m ih10 =>
      intro ls σ F_10 A_10 x10_3 l10_0 l10_1 l10_2 l10_3 H hS_10 hA_10  w10_15 ew10_15 j10_0 j10_1 j10_2 j10_3 hm10
      have j10_c : CPY ((w19)) ((w10_15)) (0) (0) ((x10_3)) := j10_3
      refine Ew_of (pcₚ := 11) (fun _ => x_iload_n rfl l10_3) ?_
      refine Ew_of (pcₚ := 12) (fun _ => x_iload_n rfl l10_2) ?_
      refine w_icmpge (t := 33) rfl rfl (show inr (x10_3) from j10_0) (show inr (a2) from h0) (fun b2 => ?_) (fun b2 => ?_)
      · refine Ew_of (pcₚ := 34) (fun _ => x_aload_n rfl l10_0) ?_
        refine w_gT H (o := 3) (t := 1) rfl (H.perm 3 rfl) rfl rfl rfl rfl rfl rfl ?_
        refine Ew_of (pcₚ := 38) (fun _ => x_iload_n rfl l10_2) ?_
        refine w_pI H (o := 1) rfl rfl (H.perm 1 rfl) rfl rfl rfl (fun _ => rfl) rfl (show (0 : Int) ≤ a2 ∧ a2 ≤ 65536 from q_492 b1 h1) (fun σ H => ?_)
        refine Ew_of (pcₚ := 42) (fun _ => x_iload_n rfl l10_2) ?_
        have : IMP ((0 : Int) ≤ (a2)) (CPY ((w19)) ((w10_15)) (0) (0) ((a2))) := fun _ => by rw [show (a2) = (x10_3) by omega]; exact j10_c
        exact w_ireturn rfl (k (a2) σ _ _ H (SF_upd (SF_trans (SF_refl) hS_10 (any_sub rfl)) rfl) (SA_trans (SA_refl) hA_10 (any_subA rfl)) (a2) (rfl) (w10_15) (ew10_15) (show inr (a2) from h0) (show (a2) = -1 ∧ 65536 < a2 ∨ (a2) = a2 ∧ a2 ≤ 65536 ∧ (a2) = a2 from q_493 b1) (show IMP ((0 : Int) ≤ (a2)) (CPY ((w19)) ((w10_15)) (0) (0) (a2)) by assumption))
      · refine Ew_of (pcₚ := 16) (fun _ => x_aload_n rfl l10_0) ?_
        refine w_gT H (o := 3) (t := 1) rfl (H.perm 3 rfl) rfl rfl rfl rfl rfl rfl ?_
        refine w_gT H (o := 1) (t := 15) rfl (H.perm 1 rfl) rfl rfl rfl rfl rfl rfl ?_
        refine Ew_of (pcₚ := 23) (fun _ => x_iload_n rfl l10_3) ?_
        refine Ew_of (pcₚ := 24) (fun _ => x_aload_n rfl l10_1) ?_
        refine Ew_of (pcₚ := 25) (fun _ => x_iload_n rfl l10_3) ?_
        refine w_lI H (o := 19) (n := 70000) rfl (H.perm 19 rfl) rfl rfl (H.fix 19 rfl rfl) (show 0 ≤ x10_3 ∧ x10_3 < ((70000 : Nat) : Int) from q_494 b1 b2 j10_1) (by decide) (fun v3 ev3 qv3 => ?_)
        have qv3 : (0 : Int) ≤ v3 ∧ v3 ≤ 255 := qv3
        have ev3 : (w19) (x10_3) = v3 := (congrFun ((funext (hA_10 19 rfl)).trans (ew19)) (x10_3)).symm.trans ev3
        have hv := ev3
        refine w_sI H (o := 15) (n := 65536) rfl (H.perm 15 rfl) rfl rfl (H.fix 15 rfl rfl) (show 0 ≤ x10_3 ∧ x10_3 < ((65536 : Nat) : Int) from q_495 b1 b2 j10_1) (by decide) (show (0 : Int) ≤ v3 ∧ v3 ≤ 255 from qv3) (fun σ H => ?_)
        refine Ew_of (pcₚ := 30) (fun _ => x_iinc (len := 3) rfl (l10_3)) ?_
        refine Ew_of (pcₚ := 10) (fun _ => x_goto rfl rfl) ?_
        have : CPY ((w19)) ((upd1 (w10_15) (x10_3) (v3))) (0) (0) (((x10_3 + 1))) := CPY_s j10_c hv (by omega) (by omega) rfl
        exact ih10 _ (msE hm10 q_16 (q_17 b2)) _ σ _ _ ((x10_3 + 1)) (rk_o (l10_0) rfl rfl) (rk_o (l10_1) rfl rfl) (rk_o (l10_2) rfl rfl) (rk_s) H (hS_10) (SA_upd (hA_10) rfl)  (upd1 (w10_15) (x10_3) (v3)) (congrArg (fun q => upd1 q (x10_3) (v3)) (ew10_15)) (show inr ((x10_3 + 1)) from q_496 b1 b2 j10_1) (show (0) ≤ ((x10_3 + 1)) from q_14 j10_1) (show ((x10_3 + 1)) ≤ (0) ∨ ((x10_3 + 1)) ≤ ((a2)) from q_13 b2) (show CPY ((w19)) ((upd1 (w10_15) (x10_3) (v3))) (0) (0) (((x10_3 + 1))) by assumption) rfl
  · refine Ew_of (pcₚ := 7) (fun _ => x_iconst rfl) ?_
    have : IMP ((0 : Int) ≤ -1) (CPY ((w19)) ((A 15)) (0) (0) ((a2))) := fun z => absurd z (by omega)
    have r4 : (0 : Int) ≤ F 1 3 ∧ F 1 3 ≤ 65536 := H.frng 1 3
    exact w_ireturn rfl (k ((-1)) σ _ _ H (SF_refl) (SA_refl) (F 1 3) (rfl) (A 15) (rfl) (show inr ((-1)) from q_63) (show ((-1)) = -1 ∧ 65536 < a2 ∨ ((-1)) = a2 ∧ a2 ≤ 65536 ∧ (F 1 3) = a2 by first | exact q_497 b1 | omega) (show IMP ((0 : Int) ≤ ((-1))) (CPY ((w19)) ((A 15)) (0) (0) (a2)) by assumption))

theorem M369_20 {σ0 σ : rS} {D N : Nat → Nat} {F : hF} {A : hA} {d c s : Nat} {Q : wQ} (H : HS σ0 σ D N F A) {a2 : Int} (w20 : Int → Int) (ew20 : A 20 = w20) (h0 : inr (a2)) (h1 : 0 ≤ (a2) ∧ (a2) ≤ 100000000) (k : ∀ (z : Int) σ Fₚ Aₚ, HS σ0 σ D N Fₚ Aₚ → SF [(1, 3)] F Fₚ → SA [15] A Aₚ → ∀ y1_3 : Int, Fₚ 1 3 = y1_3 → ∀ v15 : Int → Int, Aₚ 15 = v15 → (inr (z)) → ((z) = -1 ∧ 65536 < (a2) ∨ (z) = (a2) ∧ (a2) ≤ 65536 ∧ (y1_3) = (a2)) → (IMP ((0 : Int) ≤ (z)) (CPY ((w20)) ((v15)) (0) (0) ((a2)))) → Q (some (I z)) σ c s) : Ew 369 (d + 0) 0 (rargs 0 [.ref (D 3), .ref (D 20), I a2]) [] σ c s Q := by
  refine Ew_of (pcₚ := 1) (fun _ => x_iload_n rfl rfl) ?_
  refine Ew_of (pcₚ := 3) (fun _ => x_ldc (z := 65536) rfl (by decide)) ?_
  refine w_icmple (t := 8) rfl rfl (show inr (a2) from h0) (show inr (65536) from q_52) (fun b1 => ?_) (fun b1 => ?_)
  · refine Ew_of (pcₚ := 9) (fun _ => x_iconst rfl) ?_
    refine Ew_of (pcₚ := 10) (fun _ => x_istore_n rfl) ?_
    have : CPY ((w20)) ((A 15)) (0) (0) (0) := CPY_0
    suffices hl10 : ∀ (m : Nat), ∀ (ls : rO) (σ : rS) (F_10 : hF) (A_10 : hA) (x10_3 : Int), rlook ls 0 = some (.ref (D 3)) → rlook ls 1 = some (.ref (D 20)) → rlook ls 2 = some (I (a2)) → rlook ls 3 = some (I (x10_3)) → HS σ0 σ D N F_10 A_10 → SF [] F F_10 → SA [15] A A_10 → ∀ w10_15 : Int → Int, A_10 15 = w10_15 → (inr (x10_3)) → ((0) ≤ (x10_3)) → ((x10_3) ≤ (0) ∨ (x10_3) ≤ ((a2))) → (CPY ((w20)) ((w10_15)) (0) (0) ((x10_3))) → (((a2)) - (x10_3)).toNat = m → Ew 369 (d + 0) 10 ls [] σ c s Q from
      hl10 _ _ σ _ _ (0) (rk_o (rfl) rfl rfl) (rk_o (rfl) rfl rfl) (rk_o (rfl) rfl rfl) (rk_s) H (SF_refl) (SA_refl)  (A 15) (rfl) (show inr (0) from q_2) (show (0) ≤ (0) from q_1) (show (0) ≤ (0) ∨ (0) ≤ ((a2)) from q_5) (show CPY ((w20)) ((A 15)) (0) (0) ((0)) by assumption) rfl
    as_aux_lemma =>
    intro m
    induction m using Nat.strongRecOn with
    | _ m ih10 =>
      intro ls σ F_10 A_10 x10_3 l10_0 l10_1 l10_2 l10_3 H hS_10 hA_10  w10_15 ew10_15 j10_0 j10_1 j10_2 j10_3 hm10
      have j10_c : CPY ((w20)) ((w10_15)) (0) (0) ((x10_3)) := j10_3
      refine Ew_of (pcₚ := 11) (fun _ => x_iload_n rfl l10_3) ?_
      refine Ew_of (pcₚ := 12) (fun _ => x_iload_n rfl l10_2) ?_
      refine w_icmpge (t := 33) rfl rfl (show inr (x10_3) from j10_0) (show inr (a2) from h0) (fun b2 => ?_) (fun b2 => ?_)
      · refine Ew_of (pcₚ := 34) (fun _ => x_aload_n rfl l10_0) ?_
        refine w_gT H (o := 3) (t := 1) rfl (H.perm 3 rfl) rfl rfl rfl rfl rfl rfl ?_
        refine Ew_of (pcₚ := 38) (fun _ => x_iload_n rfl l10_2) ?_
        refine w_pI H (o := 1) rfl rfl (H.perm 1 rfl) rfl rfl rfl (fun _ => rfl) rfl (show (0 : Int) ≤ a2 ∧ a2 ≤ 65536 from q_492 b1 h1) (fun σ H => ?_)
        refine Ew_of (pcₚ := 42) (fun _ => x_iload_n rfl l10_2) ?_
        have : IMP ((0 : Int) ≤ (a2)) (CPY ((w20)) ((w10_15)) (0) (0) ((a2))) := fun _ => by rw [show (a2) = (x10_3) by omega]; exact j10_c
        exact w_ireturn rfl (k (a2) σ _ _ H (SF_upd (SF_trans (SF_refl) hS_10 (any_sub rfl)) rfl) (SA_trans (SA_refl) hA_10 (any_subA rfl)) (a2) (rfl) (w10_15) (ew10_15) (show inr (a2) from h0) (show (a2) = -1 ∧ 65536 < a2 ∨ (a2) = a2 ∧ a2 ≤ 65536 ∧ (a2) = a2 from q_493 b1) (show IMP ((0 : Int) ≤ (a2)) (CPY ((w20)) ((w10_15)) (0) (0) (a2)) by assumption))
      · refine Ew_of (pcₚ := 16) (fun _ => x_aload_n rfl l10_0) ?_
        refine w_gT H (o := 3) (t := 1) rfl (H.perm 3 rfl) rfl rfl rfl rfl rfl rfl ?_
        refine w_gT H (o := 1) (t := 15) rfl (H.perm 1 rfl) rfl rfl rfl rfl rfl rfl ?_
        refine Ew_of (pcₚ := 23) (fun _ => x_iload_n rfl l10_3) ?_
        refine Ew_of (pcₚ := 24) (fun _ => x_aload_n rfl l10_1) ?_
        refine Ew_of (pcₚ := 25) (fun _ => x_iload_n rfl l10_3) ?_
        refine w_lI H (o := 20) (n := 70000) rfl (H.perm 20 rfl) rfl rfl (H.fix 20 rfl rfl) (show 0 ≤ x10_3 ∧ x10_3 < ((70000 : Nat) : Int) from q_494 b1 b2 j10_1) (by decide) (fun v3 ev3 qv3 => ?_)
        have qv3 : (0 : Int) ≤ v3 ∧ v3 ≤ 255 := qv3
        have ev3 : (w20) (x10_3) = v3 := (congrFun ((funext (hA_10 20 rfl)).trans (ew20)) (x10_3)).symm.trans ev3
        have hv := ev3
        refine w_sI H (o := 15) (n := 65536) rfl (H.perm 15 rfl) rfl rfl (H.fix 15 rfl rfl) (show 0 ≤ x10_3 ∧ x10_3 < ((65536 : Nat) : Int) from q_495 b1 b2 j10_1) (by decide) (show (0 : Int) ≤ v3 ∧ v3 ≤ 255 from qv3) (fun σ H => ?_)
        refine Ew_of (pcₚ := 30) (fun _ => x_iinc (len := 3) rfl (l10_3)) ?_
        refine Ew_of (pcₚ := 10) (fun _ => x_goto rfl rfl) ?_
        have : CPY ((w20)) ((upd1 (w10_15) (x10_3) (v3))) (0) (0) (((x10_3 + 1))) := CPY_s j10_c hv (by omega) (by omega) rfl
        exact ih10 _ (msE hm10 q_16 (q_17 b2)) _ σ _ _ ((x10_3 + 1)) (rk_o (l10_0) rfl rfl) (rk_o (l10_1) rfl rfl) (rk_o (l10_2) rfl rfl) (rk_s) H (hS_10) (SA_upd (hA_10) rfl)  (upd1 (w10_15) (x10_3) (v3)) (congrArg (fun q => upd1 q (x10_3) (v3)) (ew10_15)) (show inr ((x10_3 + 1)) from q_496 b1 b2 j10_1) (show (0) ≤ ((x10_3 + 1)) from q_14 j10_1) (show ((x10_3 + 1)) ≤ (0) ∨ ((x10_3 + 1)) ≤ ((a2)) from q_13 b2) (show CPY ((w20)) ((upd1 (w10_15) (x10_3) (v3))) (0) (0) (((x10_3 + 1))) by assumption) rfl
  · refine Ew_of (pcₚ := 7) (fun _ => x_iconst rfl) ?_
    have : IMP ((0 : Int) ≤ -1) (CPY ((w20)) ((A 15)) (0) (0) ((a2))) := fun z => absurd z (by omega)
    have r4 : (0 : Int) ≤ F 1 3 ∧ F 1 3 ≤ 65536 := H.frng 1 3
    exact w_ireturn rfl (k ((-1)) σ _ _ H (SF_refl) (SA_refl) (F 1 3) (rfl) (A 15) (rfl) (show inr ((-1)) from q_63) (show ((-1)) = -1 ∧ 65536 < a2 ∨ ((-1)) = a2 ∧ a2 ≤ 65536 ∧ (F 1 3) = a2 by first | exact q_497 b1 | omega) (show IMP ((0 : Int) ≤ ((-1))) (CPY ((w20)) ((A 15)) (0) (0) (a2)) by assumption))

theorem M369_22 {σ0 σ : rS} {D N : Nat → Nat} {F : hF} {A : hA} {d c s : Nat} {Q : wQ} (H : HS σ0 σ D N F A) {a2 : Int} (w22 : Int → Int) (ew22 : A 22 = w22) (h0 : inr (a2)) (h1 : 0 ≤ (a2) ∧ (a2) ≤ 100000000) (k : ∀ (z : Int) σ Fₚ Aₚ, HS σ0 σ D N Fₚ Aₚ → SF [(1, 3)] F Fₚ → SA [15] A Aₚ → ∀ y1_3 : Int, Fₚ 1 3 = y1_3 → ∀ v15 : Int → Int, Aₚ 15 = v15 → (inr (z)) → ((z) = -1 ∧ 65536 < (a2) ∨ (z) = (a2) ∧ (a2) ≤ 65536 ∧ (y1_3) = (a2)) → (IMP ((0 : Int) ≤ (z)) (CPY ((w22)) ((v15)) (0) (0) ((a2)))) → Q (some (I z)) σ c s) : Ew 369 (d + 0) 0 (rargs 0 [.ref (D 3), .ref (D 22), I a2]) [] σ c s Q := by
  refine Ew_of (pcₚ := 1) (fun _ => x_iload_n rfl rfl) ?_
  refine Ew_of (pcₚ := 3) (fun _ => x_ldc (z := 65536) rfl (by decide)) ?_
  refine w_icmple (t := 8) rfl rfl (show inr (a2) from h0) (show inr (65536) from q_52) (fun b1 => ?_) (fun b1 => ?_)
  · refine Ew_of (pcₚ := 9) (fun _ => x_iconst rfl) ?_
    refine Ew_of (pcₚ := 10) (fun _ => x_istore_n rfl) ?_
    have : CPY ((w22)) ((A 15)) (0) (0) (0) := CPY_0
    suffices hl10 : ∀ (m : Nat), ∀ (ls : rO) (σ : rS) (F_10 : hF) (A_10 : hA) (x10_3 : Int), rlook ls 0 = some (.ref (D 3)) → rlook ls 1 = some (.ref (D 22)) → rlook ls 2 = some (I (a2)) → rlook ls 3 = some (I (x10_3)) → HS σ0 σ D N F_10 A_10 → SF [] F F_10 → SA [15] A A_10 → ∀ w10_15 : Int → Int, A_10 15 = w10_15 → (inr (x10_3)) → ((0) ≤ (x10_3)) → ((x10_3) ≤ (0) ∨ (x10_3) ≤ ((a2))) → (CPY ((w22)) ((w10_15)) (0) (0) ((x10_3))) → (((a2)) - (x10_3)).toNat = m → Ew 369 (d + 0) 10 ls [] σ c s Q from
      hl10 _ _ σ _ _ (0) (rk_o (rfl) rfl rfl) (rk_o (rfl) rfl rfl) (rk_o (rfl) rfl rfl) (rk_s) H (SF_refl) (SA_refl)  (A 15) (rfl) (show inr (0) from q_2) (show (0) ≤ (0) from q_1) (show (0) ≤ (0) ∨ (0) ≤ ((a2)) from q_5) (show CPY ((w22)) ((A 15)) (0) (0) ((0)) by assumption) rfl
    as_aux_lemma =>
    intro m
    induction m using Nat.strongRecOn with
    | _ m ih10 =>
      intro ls σ F_10 A_10 x10_3 l10_0 l10_1 l10_2 l10_3 H hS_10 hA_10  w10_15 ew10_15 j10_0 j10_1 j10_2 j10_3 hm10
      have j10_c : CPY ((w22)) ((w10_15)) (0) (0) ((x10_3)) := j10_3
      refine Ew_of (pcₚ := 11) (fun _ => x_iload_n rfl l10_3) ?_
      refine Ew_of (pcₚ := 12) (fun _ => x_iload_n rfl l10_2) ?_
      refine w_icmpge (t := 33) rfl rfl (show inr (x10_3) from j10_0) (show inr (a2) from h0) (fun b2 => ?_) (fun b2 => ?_)
      · refine Ew_of (pcₚ := 34) (fun _ => x_aload_n rfl l10_0) ?_
        refine w_gT H (o := 3) (t := 1) rfl (H.perm 3 rfl) rfl rfl rfl rfl rfl rfl ?_
        refine Ew_of (pcₚ := 38) (fun _ => x_iload_n rfl l10_2) ?_
        refine w_pI H (o := 1) rfl rfl (H.perm 1 rfl) rfl rfl rfl (fun _ => rfl) rfl (show (0 : Int) ≤ a2 ∧ a2 ≤ 65536 from q_492 b1 h1) (fun σ H => ?_)
        refine Ew_of (pcₚ := 42) (fun _ => x_iload_n rfl l10_2) ?_
        have : IMP ((0 : Int) ≤ (a2)) (CPY ((w22)) ((w10_15)) (0) (0) ((a2))) := fun _ => by rw [show (a2) = (x10_3) by omega]; exact j10_c
        exact w_ireturn rfl (k (a2) σ _ _ H (SF_upd (SF_trans (SF_refl) hS_10 (any_sub rfl)) rfl) (SA_trans (SA_refl) hA_10 (any_subA rfl)) (a2) (rfl) (w10_15) (ew10_15) (show inr (a2) from h0) (show (a2) = -1 ∧ 65536 < a2 ∨ (a2) = a2 ∧ a2 ≤ 65536 ∧ (a2) = a2 from q_493 b1) (show IMP ((0 : Int) ≤ (a2)) (CPY ((w22)) ((w10_15)) (0) (0) (a2)) by assumption))
      · refine Ew_of (pcₚ := 16) (fun _ => x_aload_n rfl l10_0) ?_
        refine w_gT H (o := 3) (t := 1) rfl (H.perm 3 rfl) rfl rfl rfl rfl rfl rfl ?_
        refine w_gT H (o := 1) (t := 15) rfl (H.perm 1 rfl) rfl rfl rfl rfl rfl rfl ?_
        refine Ew_of (pcₚ := 23) (fun _ => x_iload_n rfl l10_3) ?_
        refine Ew_of (pcₚ := 24) (fun _ => x_aload_n rfl l10_1) ?_
        refine Ew_of (pcₚ := 25) (fun _ => x_iload_n rfl l10_3) ?_
        refine w_lI H (o := 22) (n := 65536) rfl (H.perm 22 rfl) rfl rfl (H.fix 22 rfl rfl) (show 0 ≤ x10_3 ∧ x10_3 < ((65536 : Nat) : Int) from q_495 b1 b2 j10_1) (by decide) (fun v3 ev3 qv3 => ?_)
        have qv3 : (0 : Int) ≤ v3 ∧ v3 ≤ 255 := qv3
        have ev3 : (w22) (x10_3) = v3 := (congrFun ((funext (hA_10 22 rfl)).trans (ew22)) (x10_3)).symm.trans ev3
        have hv := ev3
        refine w_sI H (o := 15) (n := 65536) rfl (H.perm 15 rfl) rfl rfl (H.fix 15 rfl rfl) (show 0 ≤ x10_3 ∧ x10_3 < ((65536 : Nat) : Int) from q_495 b1 b2 j10_1) (by decide) (show (0 : Int) ≤ v3 ∧ v3 ≤ 255 from qv3) (fun σ H => ?_)
        refine Ew_of (pcₚ := 30) (fun _ => x_iinc (len := 3) rfl (l10_3)) ?_
        refine Ew_of (pcₚ := 10) (fun _ => x_goto rfl rfl) ?_
        have : CPY ((w22)) ((upd1 (w10_15) (x10_3) (v3))) (0) (0) (((x10_3 + 1))) := CPY_s j10_c hv (by omega) (by omega) rfl
        exact ih10 _ (msE hm10 q_16 (q_17 b2)) _ σ _ _ ((x10_3 + 1)) (rk_o (l10_0) rfl rfl) (rk_o (l10_1) rfl rfl) (rk_o (l10_2) rfl rfl) (rk_s) H (hS_10) (SA_upd (hA_10) rfl)  (upd1 (w10_15) (x10_3) (v3)) (congrArg (fun q => upd1 q (x10_3) (v3)) (ew10_15)) (show inr ((x10_3 + 1)) from q_496 b1 b2 j10_1) (show (0) ≤ ((x10_3 + 1)) from q_14 j10_1) (show ((x10_3 + 1)) ≤ (0) ∨ ((x10_3 + 1)) ≤ ((a2)) from q_13 b2) (show CPY ((w22)) ((upd1 (w10_15) (x10_3) (v3))) (0) (0) (((x10_3 + 1))) by assumption) rfl
  · refine Ew_of (pcₚ := 7) (fun _ => x_iconst rfl) ?_
    have : IMP ((0 : Int) ≤ -1) (CPY ((w22)) ((A 15)) (0) (0) ((a2))) := fun z => absurd z (by omega)
    have r4 : (0 : Int) ≤ F 1 3 ∧ F 1 3 ≤ 65536 := H.frng 1 3
    exact w_ireturn rfl (k ((-1)) σ _ _ H (SF_refl) (SA_refl) (F 1 3) (rfl) (A 15) (rfl) (show inr ((-1)) from q_63) (show ((-1)) = -1 ∧ 65536 < a2 ∨ ((-1)) = a2 ∧ a2 ≤ 65536 ∧ (F 1 3) = a2 by first | exact q_497 b1 | omega) (show IMP ((0 : Int) ≤ ((-1))) (CPY ((w22)) ((A 15)) (0) (0) (a2)) by assumption))

theorem M370 {σ0 σ : rS} {D N : Nat → Nat} {F : hF} {A : hA} {d c s : Nat} {Q : wQ} (H : HS σ0 σ D N F A) {a1 : Int} (u1_1 : Int) (eu1_1 : F 1 1 = u1_1) (u3_2 : Int) (eu3_2 : F 3 2 = u3_2) (w14 : Int → Int) (ew14 : A 14 = w14) (w16 : Int → Int) (ew16 : A 16 = w16) (h0 : inr (a1)) (h1 : (u3_2) + (u1_1) ≤ 16384) (h2 : 0 ≤ (a1) ∧ (a1) ≤ 3) (k : ∀ (z : Int) σ Fₚ Aₚ, HS σ0 σ D N Fₚ Aₚ → SF [(1, 3), (3, 5), (3, 6), (3, 10)] F Fₚ → SA [15, 18, 20] A Aₚ → ∀ y1_3 : Int, Fₚ 1 3 = y1_3 → ∀ v15 : Int → Int, Aₚ 15 = v15 → (inr (z)) → (WRT (TOB ((a1)) ((u3_2)) (sc ((w16)) 0 ((u3_2)) ++ sc ((w14)) 0 ((u1_1)))) ((z)) ((y1_3)) ((v15))) → Q (some (I z)) σ c s) : Ew 370 (d + 4) 0 (rargs 0 [.ref (D 3), I a1]) [] σ c s Q := by
  have r1 : (0 : Int) ≤ u1_1 ∧ u1_1 ≤ 65536 := rngE (show (0 : Int) ≤ F 1 1 ∧ F 1 1 ≤ 65536 from H.frng 1 1) (show F 1 1 = u1_1 from (eu1_1))
  have r2 : (0 : Int) ≤ u3_2 ∧ u3_2 ≤ 65536 := rngE (show (0 : Int) ≤ F 3 2 ∧ F 3 2 ≤ 65536 from H.frng 3 2) (show F 3 2 = u3_2 from (eu3_2))
  refine Ew_of (pcₚ := 1) (fun _ => x_iload_n rfl rfl) ?_
  refine w_iflt (t := 9) rfl rfl (show inr (a1) from h0) (fun b3 => ?_) (fun b3 => ?_)
  · exfalso
    omega
  · refine Ew_of (pcₚ := 5) (fun _ => x_iload_n rfl rfl) ?_
    refine Ew_of (pcₚ := 6) (fun _ => x_iconst rfl) ?_
    refine w_icmple (t := 11) rfl rfl (show inr (a1) from h0) (show inr (3) from q_246) (fun b4 => ?_) (fun b4 => ?_)
    · refine Ew_of (pcₚ := 12) (fun _ => x_aload_n rfl rfl) ?_
      refine w_inv H (o := 3) rfl rfl rfl (H.perm 3 rfl) rfl rfl (by rfl) (M367 H (u3_2) ((eu3_2)) (w16) (ew16) (show (u3_2) ≤ 16384 from q_498 h1 r1) (fun σ F5 A6 H hS7 hA8 y10 ey11 wv12 ewv13 pz9_0 pz9_1 => ⟨rfl, ?_⟩))
      have r14 : (-2147483648 : Int) ≤ y10 ∧ y10 ≤ 2147483647 := rngE (show (-2147483648 : Int) ≤ F5 3 5 ∧ F5 3 5 ≤ 2147483647 from H.frng 3 5) (show F5 3 5 = y10 from (ey11))
      have hb := pz9_1
      refine Ew_of (pcₚ := 16) (fun _ => x_aload_n rfl rfl) ?_
      refine Ew_of (pcₚ := 17) (fun _ => x_iconst rfl) ?_
      refine Ew_of (pcₚ := 18) (fun _ => x_aload_n rfl rfl) ?_
      refine w_gT H (o := 3) (t := 1) rfl (H.perm 3 rfl) rfl rfl rfl rfl rfl rfl ?_
      refine w_gI H (o := 1) (w := u1_1) rfl (H.perm 1 rfl) rfl rfl rfl (fun _ => rfl) ((hS7 1 1 rfl).trans (eu1_1)) ?_
      refine w_inv H (o := 3) rfl rfl rfl (H.perm 3 rfl) rfl rfl (by rfl) (M368 H (y10) ((ey11)) (w14) ((funext (hA8 14 rfl)).trans (ew14)) (wv12) (ewv13) (show inr (0) from q_2) (show inr (u1_1) from q_286 r1) (show 0 ≤ (y10) ∧ (y10) ≤ 16384 from q_500 h1 pz9_0 r1 r2) (show 0 ≤ (0) ∧ (0) ≤ (u1_1) ∧ (u1_1) ≤ 65536 ∧ (y10) + ((u1_1) - (0)) ≤ 16384 from q_499 h1 pz9_0 r1) (fun σ F15 A16 H hS17 hA18 y20 ey21 wv22 ewv23 pz19_0 pz19_1 pz19_2 => ⟨rfl, ?_⟩))
      have r24 : (-2147483648 : Int) ≤ y20 ∧ y20 ≤ 2147483647 := rngE (show (-2147483648 : Int) ≤ F15 3 5 ∧ F15 3 5 ≤ 2147483647 from H.frng 3 5) (show F15 3 5 = y20 from (ey21))
      have ha1 := pz19_1
      rw [pz9_0] at ha1
      have ha2 := pz19_2
      have hsd : sc ((wv22)) 0 ((y20)) = sc ((w16)) 0 ((u3_2)) ++ sc ((w14)) 0 ((u1_1)) := by rw [sc_cat (b := (u3_2)) (by omega) (by omega), CPY_sc (c := (u3_2)) (d := (u3_2)) ha2 (by omega) (by omega), CPY_sc (c := (u3_2)) (d := (u3_2)) hb (by omega) (by omega), CPY_sc (c := (u1_1)) (d := (y20)) ha1 (by omega) (by omega)]
      have hBd : ∀ i, (0 : Int) ≤ (wv22) i ∧ (wv22) i ≤ 255 := fun i => by have h1 : (0 : Int) ≤ A16 18 i ∧ A16 18 i ≤ 255 := H.arng 18 i; rw [show A16 18 = wv22 from ewv23] at h1; exact h1
      refine Ew_of (pcₚ := 28) (fun _ => x_aload_n rfl rfl) ?_
      refine Ew_of (pcₚ := 29) (fun _ => x_aload_n rfl rfl) ?_
      refine w_gI H (o := 3) (w := u3_2) rfl (H.perm 3 rfl) rfl rfl rfl (fun _ => rfl) (((hS17 3 2 rfl).trans (hS7 3 2 rfl)).trans (eu3_2)) ?_
      refine Ew_of (pcₚ := 33) (fun _ => x_iload_n rfl rfl) ?_
      refine w_inv H (o := 3) rfl rfl rfl (H.perm 3 rfl) rfl rfl (by rfl) (M366 H (y20) ((ey21)) (wv22) (ewv23) (show inr (u3_2) from q_286 r2) (show inr (a1) from h0) (show 0 ≤ (y20) ∧ (y20) ≤ 16384 from q_502 h1 pz19_0 pz9_0 r1 r2) (show 0 ≤ (u3_2) ∧ (u3_2) ≤ (y20) from q_501 pz19_0 pz9_0 r1 r2) (show 0 ≤ (a1) ∧ (a1) ≤ 3 from h2) (fun σ F25 A26 H hS27 hA28 y30 ey31 wv32 ewv33 pz29_0 pz29_1 => ⟨rfl, ?_⟩))
      have r34 : (-2147483648 : Int) ≤ y30 ∧ y30 ≤ 2147483647 := rngE (show (-2147483648 : Int) ≤ F25 3 10 ∧ F25 3 10 ≤ 2147483647 from H.frng 3 10) (show F25 3 10 = y30 from (ey31))
      have hw := pz29_1
      refine Ew_of (pcₚ := 37) (fun _ => x_aload_n rfl rfl) ?_
      refine Ew_of (pcₚ := 38) (fun _ => x_aload_n rfl rfl) ?_
      refine w_gT H (o := 3) (t := 20) rfl (H.perm 3 rfl) rfl rfl rfl rfl rfl rfl ?_
      refine Ew_of (pcₚ := 42) (fun _ => x_aload_n rfl rfl) ?_
      refine w_gI H (o := 3) (w := y30) rfl (H.perm 3 rfl) rfl rfl rfl (fun _ => rfl) (ey31) ?_
      refine w_inv H (o := 3) rfl rfl rfl (H.perm 3 rfl) rfl rfl (by rfl) (M369_20 H (wv32) (ewv33) (show inr (y30) from q_504 pz29_0 r34) (show 0 ≤ (y30) ∧ (y30) ≤ 100000000 from q_503 pz29_0 r34) (fun z39 σ F35 A36 H hS37 hA38 y40 ey41 wv42 ewv43 pz39_0 pz39_1 pz39_2 => ⟨rfl, ?_⟩))
      have r44 : (0 : Int) ≤ y40 ∧ y40 ≤ 65536 := rngE (show (0 : Int) ≤ F35 1 3 ∧ F35 1 3 ≤ 65536 from H.frng 1 3) (show F35 1 3 = y40 from (ey41))
      have : WRT (TOB ((a1)) ((u3_2)) (sc ((w16)) 0 ((u3_2)) ++ sc ((w14)) 0 ((u1_1)))) ((z39)) ((y40)) ((wv42)) := by obtain ⟨S, t, x, y⟩ := hw; have hT := TOB_of (BYI_u hBd) (by omega) (by omega) x; rw [hsd] at hT; rcases pz39_1 with ⟨p, q⟩ | ⟨p, q, r⟩ <;> first | exact WRT_n hT y (by omega) (by omega) | exact WRT_y hT y (by omega) (by omega) (by omega) (by omega) (pz39_2 (by omega)) (by omega)
      exact w_ireturn rfl (k (z39) σ _ _ H (SF_trans (SF_trans (SF_trans (SF_trans (SF_refl) hS7 (any_sub rfl)) hS17 (any_sub rfl)) hS27 (any_sub rfl)) hS37 (any_sub rfl)) (SA_trans (SA_trans (SA_trans (SA_trans (SA_refl) hA8 (any_subA rfl)) hA18 (any_subA rfl)) hA28 (any_subA rfl)) hA38 (any_subA rfl)) (y40) ((ey41)) (wv42) (ewv43) (show inr (z39) from pz39_0) (show WRT (TOB (a1) ((u3_2)) (sc ((w16)) 0 ((u3_2)) ++ sc ((w14)) 0 ((u1_1)))) ((z39)) ((y40)) ((wv42)) by assumption))
    · exfalso
      omega

theorem M377 {σ0 σ : rS} {D N : Nat → Nat} {F : hF} {A : hA} {d c s : Nat} {Q : wQ} (H : HS σ0 σ D N F A) {a1 a2 : Int} (u3_8 : Int) (eu3_8 : F 3 8 = u3_8) (w19 : Int → Int) (ew19 : A 19 = w19) (h0 : inrJ (a1)) (h1 : inr (a2)) (h2 : 0 ≤ (a2) ∧ (a2) ≤ 8) (h3 : 0 ≤ (u3_8) ∧ (u3_8) ≤ 10000000) (k : ∀ σ Fₚ Aₚ, HS σ0 σ D N Fₚ Aₚ → SF [(3, 8)] F Fₚ → SA [19] A Aₚ → ∀ y3_8 : Int, Fₚ 3 8 = y3_8 → ∀ v19 : Int → Int, Aₚ 19 = v19 → ((y3_8) = (u3_8) + (a2)) → (QAP 70000 ((w19)) ((u3_8)) ((v19)) ((y3_8)) (nb ((a1)) ((a2)))) → Q none σ c s) : Ew 377 (d + 1) 0 (rargs 0 [.ref (D 3), J a1, I a2]) [] σ c s Q := by
  have r1 : (-2147483648 : Int) ≤ u3_8 ∧ u3_8 ≤ 2147483647 := rngE (show (-2147483648 : Int) ≤ F 3 8 ∧ F 3 8 ≤ 2147483647 from H.frng 3 8) (show F 3 8 = u3_8 from (eu3_8))
  refine Ew_of (pcₚ := 1) (fun _ => x_iconst rfl) ?_
  refine Ew_of (pcₚ := 3) (fun _ => x_istore rfl) ?_
  have : QAP 70000 ((w19)) ((u3_8)) ((w19)) ((u3_8)) (nb ((a1)) 0) := QAP_refl
  suffices hl3 : ∀ (m : Nat), ∀ (ls : rO) (σ : rS) (F_3 : hF) (A_3 : hA) (x3_4 : Int), rlook ls 0 = some (.ref (D 3)) → rlook ls 1 = some (J (a1)) → rlook ls 3 = some (I (a2)) → rlook ls 4 = some (I (x3_4)) → HS σ0 σ D N F_3 A_3 → SF [(3, 8)] F F_3 → SA [19] A A_3 → ∀ y3_3_8 : Int, F_3 3 8 = y3_3_8 → ∀ w3_19 : Int → Int, A_3 19 = w3_19 → (inr (x3_4)) → ((0) ≤ (x3_4)) → ((x3_4) ≤ (0) ∨ (x3_4) ≤ ((a2))) → ((y3_3_8) = (u3_8) + (x3_4)) → (QAP 70000 ((w19)) ((u3_8)) ((w3_19)) ((y3_3_8)) (nb ((a1)) ((x3_4)))) → (((a2)) - (x3_4)).toNat = m → Ew 377 (d + 1) 3 ls [] σ c s Q from
    hl3 _ _ σ _ _ (0) (rk_o (rfl) rfl rfl) (rk_o (rfl) rfl rfl) (rk_o (rfl) rfl rfl) (rk_s) H (SF_refl) (SA_refl) (u3_8) ((eu3_8)) (w19) (ew19) (show inr (0) from q_2) (show (0) ≤ (0) from q_1) (show (0) ≤ (0) ∨ (0) ≤ ((a2)) from q_5) (show (u3_8) = (u3_8) + (0) from q_365) (show QAP 70000 ((w19)) ((u3_8)) ((w19)) ((u3_8)) (nb ((a1)) ((0))) by assumption) rfl
  as_aux_lemma =>
  intro m
  induction m using Nat.strongRecOn with
  | _ m ih3 =>
    intro ls σ F_3 A_3 x3_4 l3_0 l3_1 l3_3 l3_4 H hS_3 hA_3 y3_3_8 ey3_3_8 w3_19 ew3_19 j3_0 j3_1 j3_2 j3_3 j3_4 hm3
    have r2 : (-2147483648 : Int) ≤ y3_3_8 ∧ y3_3_8 ≤ 2147483647 := rngE (show (-2147483648 : Int) ≤ F_3 3 8 ∧ F_3 3 8 ≤ 2147483647 from H.frng 3 8) (show F_3 3 8 = y3_3_8 from (ey3_3_8))
    have j3_q : QAP 70000 ((w19)) ((u3_8)) ((w3_19)) ((y3_3_8)) (nb ((a1)) ((x3_4))) := j3_4
    refine Ew_of (pcₚ := 5) (fun _ => x_iload rfl l3_4) ?_
    refine Ew_of (pcₚ := 6) (fun _ => x_iload_n rfl l3_3) ?_
    refine w_icmpge (t := 31) rfl rfl (show inr (x3_4) from j3_0) (show inr (a2) from h1) (fun b3 => ?_) (fun b3 => ?_)
    · have : QAP 70000 ((w19)) ((u3_8)) ((w3_19)) ((y3_3_8)) (nb ((a1)) ((a2))) := by rw [show (a2) = (x3_4) by omega]; exact j3_q
      exact w_ret rfl (k σ _ _ H (SF_trans (SF_refl) hS_3 (any_sub rfl)) (SA_trans (SA_refl) hA_3 (any_subA rfl)) (y3_3_8) ((ey3_3_8)) (w3_19) (ew3_19) (show (y3_3_8) = (u3_8) + a2 from q_505 b3 h2 j3_2 j3_3) (show QAP 70000 ((w19)) ((u3_8)) ((w3_19)) ((y3_3_8)) (nb (a1) (a2)) by assumption))
    · refine Ew_of (pcₚ := 10) (fun _ => x_aload_n rfl l3_0) ?_
      refine Ew_of (pcₚ := 11) (fun _ => x_lload_n rfl l3_1) ?_
      refine Ew_of (pcₚ := 13) (fun _ => x_bipush (z := 8) rfl (by decide)) ?_
      refine Ew_of (pcₚ := 15) (fun _ => x_iload rfl l3_4) ?_
      refine w_imul rfl ?_
      refine w_lshrE rfl ?_
      have g4 : inrJ (srJ (a1) ((8 * x3_4))) := toJ_inr _
      refine Ew_of (pcₚ := 20) (fun _ => x_ldc2 (z := 255) rfl (by decide)) ?_
      refine w_landE rfl ?_
      have g5 : inrJ (anJ ((srJ (a1) ((8 * x3_4)))) (255)) := toJ_inr _
      refine w_l2i rfl ?_
      have hby : ((anJ ((srJ (a1) ((8 * x3_4)))) (255))) = u8 ((a1) / p2 (8 * (x3_4))) := an_sr (by omega) (by omega)
      have hbr := u8_rng ((a1) / p2 (8 * (x3_4)))
      rw [← hby] at hbr
      refine w_inv H (o := 3) rfl rfl rfl (H.perm 3 rfl) rfl rfl (by rfl) (M376 H (y3_3_8) ((ey3_3_8)) (w3_19) (ew3_19) (show inr ((anJ ((srJ (a1) ((8 * x3_4)))) (255))) by omega) (show 0 ≤ ((anJ ((srJ (a1) ((8 * x3_4)))) (255))) ∧ ((anJ ((srJ (a1) ((8 * x3_4)))) (255))) ≤ 255 by omega) (show 0 ≤ (y3_3_8) ∧ (y3_3_8) ≤ 100000000 from q_506 b3 h2 h3 j3_1 j3_3 r2) (fun σ F6 A7 H hS8 hA9 y11 ey12 wv13 ewv14 pz10_0 pz10_1 => ⟨rfl, ?_⟩))
      have r15 : (-2147483648 : Int) ≤ y11 ∧ y11 ≤ 2147483647 := rngE (show (-2147483648 : Int) ≤ F6 3 8 ∧ F6 3 8 ≤ 2147483647 from H.frng 3 8) (show F6 3 8 = y11 from (ey12))
      have hmk := pz10_1
      rw [hby] at hmk
      refine Ew_of (pcₚ := 28) (fun _ => x_iinc (len := 3) rfl (l3_4)) ?_
      refine Ew_of (pcₚ := 3) (fun _ => x_goto rfl rfl) ?_
      have : QAP 70000 ((w19)) ((u3_8)) ((wv13)) ((y11)) (nb ((a1)) (((x3_4 + 1)))) := by rw [nb_s (by omega) rfl]; exact QAP_trans j3_q hmk
      exact ih3 _ (msE hm3 q_16 (q_17 b3)) _ σ _ _ ((x3_4 + 1)) (rk_o (l3_0) rfl rfl) (rk_o (l3_1) rfl rfl) (rk_o (l3_3) rfl rfl) (rk_s) H (SF_trans (hS_3) hS8 (any_sub rfl)) (SA_trans (hA_3) hA9 (any_subA rfl)) (y11) ((ey12)) (wv13) (ewv14) (show inr ((x3_4 + 1)) from q_507 b3 h2 j3_1) (show (0) ≤ ((x3_4 + 1)) from q_14 j3_1) (show ((x3_4 + 1)) ≤ (0) ∨ ((x3_4 + 1)) ≤ ((a2)) from q_13 b3) (show (y11) = (u3_8) + ((x3_4 + 1)) from q_368 j3_3 pz10_0) (show QAP 70000 ((w19)) ((u3_8)) ((wv13)) ((y11)) (nb ((a1)) (((x3_4 + 1)))) by assumption) rfl

