theorem M378 {σ0 σ : rS} {D N : Nat → Nat} {F : hF} {A : hA} {d c s : Nat} {Q : wQ} (H : HS σ0 σ D N F A) {a1 a2 a3 a4 a5 : Int} (u1_1 : Int) (eu1_1 : F 1 1 = u1_1) (u3_2 : Int) (eu3_2 : F 3 2 = u3_2) (w14 : Int → Int) (ew14 : A 14 = w14) (w16 : Int → Int) (ew16 : A 16 = w16) (h0 : inr (a1)) (h1 : inr (a2)) (h2 : inr (a3)) (h3 : inr (a4)) (h4 : inr (a5)) (h5 : (u3_2) + (u1_1) ≤ 16384) (h6 : 64 ≤ (a1) ∧ (a1) < 128) (h7 : andI ((a1)) 2 = 0) (h8 : 4 ≤ (a2) ∧ (a2) ≤ 7) (h9 : 1 ≤ (a4) ∧ (a4) ≤ 65536) (h10 : 0 ≤ (a5) ∧ (a5) ≤ 3) (k : ∀ (z : Int) σ Fₚ Aₚ, HS σ0 σ D N Fₚ Aₚ → SF [(1, 3), (3, 5), (3, 6), (3, 8), (3, 10)] F Fₚ → SA [15, 17, 18, 19, 20] A Aₚ → ∀ y1_3 : Int, Fₚ 1 3 = y1_3 → ∀ v15 : Int → Int, Aₚ 15 = v15 → (inr (z)) → (WRT (TFR ((a5)) ((a1)) ((a2)) ((a3)) ((a4)) (sc ((w16)) 0 ((u3_2))) (sc ((w14)) 0 ((u1_1)))) ((z)) ((y1_3)) ((v15))) → Q (some (I z)) σ c s) : Ew 378 (d + 4) 0 (rargs 0 [.ref (D 3), I a1, I a2, I a3, I a4, I a5]) [] σ c s Q := by
  have r1 : (0 : Int) ≤ u1_1 ∧ u1_1 ≤ 65536 := rngE (show (0 : Int) ≤ F 1 1 ∧ F 1 1 ≤ 65536 from H.frng 1 1) (show F 1 1 = u1_1 from (eu1_1))
  have r2 : (0 : Int) ≤ u3_2 ∧ u3_2 ≤ 65536 := rngE (show (0 : Int) ≤ F 3 2 ∧ F 3 2 ≤ 65536 from H.frng 3 2) (show F 3 2 = u3_2 from (eu3_2))
  refine Ew_of (pcₚ := 1) (fun _ => x_iload_n rfl rfl) ?_
  refine w_stat24 rfl rfl (by rfl) (M375 H (show inr (a1) from h0) (fun z7 σ F3 A4 H hS5 hA6 pz7_0 pz7_1 pz7_2 => ⟨rretB rfl pz7_0, ?_⟩))
  refine w_ifeq (t := 42) rfl rfl (show inr (z7) from q_138 pz7_0) (fun b8 => ?_) (fun b8 => ?_)
  · exfalso
    omega
  · refine Ew_of (pcₚ := 8) (fun _ => x_iload_n rfl rfl) ?_
    refine Ew_of (pcₚ := 9) (fun _ => x_iconst rfl) ?_
    refine w_icmplt (t := 42) rfl rfl (show inr (a2) from h1) (show inr (4) from q_216) (fun b9 => ?_) (fun b9 => ?_)
    · exfalso
      omega
    · refine Ew_of (pcₚ := 13) (fun _ => x_iload_n rfl rfl) ?_
      refine Ew_of (pcₚ := 15) (fun _ => x_bipush (z := 7) rfl (by decide)) ?_
      refine w_icmpgt (t := 42) rfl rfl (show inr (a2) from h1) (show inr (7) from q_597) (fun b10 => ?_) (fun b10 => ?_)
      · exfalso
        omega
      · refine Ew_of (pcₚ := 20) (fun _ => x_iload rfl rfl) ?_
        refine Ew_of (pcₚ := 21) (fun _ => x_iconst rfl) ?_
        refine w_icmplt (t := 42) rfl rfl (show inr (a4) from h3) (show inr (1) from q_135) (fun b11 => ?_) (fun b11 => ?_)
        · exfalso
          omega
        · refine Ew_of (pcₚ := 26) (fun _ => x_iload rfl rfl) ?_
          refine Ew_of (pcₚ := 28) (fun _ => x_ldc (z := 65536) rfl (by decide)) ?_
          refine w_icmpgt (t := 42) rfl rfl (show inr (a4) from h3) (show inr (65536) from q_52) (fun b12 => ?_) (fun b12 => ?_)
          · exfalso
            omega
          · refine Ew_of (pcₚ := 33) (fun _ => x_iload rfl rfl) ?_
            refine w_iflt (t := 42) rfl rfl (show inr (a5) from h4) (fun b13 => ?_) (fun b13 => ?_)
            · exfalso
              omega
            · refine Ew_of (pcₚ := 38) (fun _ => x_iload rfl rfl) ?_
              refine Ew_of (pcₚ := 39) (fun _ => x_iconst rfl) ?_
              refine w_icmple (t := 44) rfl rfl (show inr (a5) from h4) (show inr (3) from q_246) (fun b14 => ?_) (fun b14 => ?_)
              · refine Ew_of (pcₚ := 45) (fun _ => x_aload_n rfl rfl) ?_
                refine Ew_of (pcₚ := 46) (fun _ => x_iconst rfl) ?_
                refine w_pI H (o := 3) rfl rfl (H.perm 3 rfl) rfl rfl rfl (fun _ => rfl) rfl (show (-2147483648 : Int) ≤ 0 ∧ 0 ≤ 2147483647 from q_22) (fun σ H => ?_)
                refine Ew_of (pcₚ := 50) (fun _ => x_aload_n rfl rfl) ?_
                refine Ew_of (pcₚ := 53) (fun _ => x_ldc2 (z := 407708164) rfl (by decide)) ?_
                refine Ew_of (pcₚ := 54) (fun _ => x_iconst rfl) ?_
                refine w_inv H (o := 3) rfl rfl rfl (H.perm 3 rfl) rfl rfl (by rfl) (M377 H (0) (rfl) (A 19) (funext (hA6 19 rfl)) (show inrJ (407708164) from q_624) (show inr (4) from q_216) (show 0 ≤ (4) ∧ (4) ≤ 8 from q_623) (show 0 ≤ (0) ∧ (0) ≤ 10000000 from q_622) (fun σ F15 A16 H hS17 hA18 y20 ey21 wv22 ewv23 pz19_0 pz19_1 => ⟨rfl, ?_⟩))
                have r24 : (-2147483648 : Int) ≤ y20 ∧ y20 ≤ 2147483647 := rngE (show (-2147483648 : Int) ≤ F15 3 8 ∧ F15 3 8 ≤ 2147483647 from H.frng 3 8) (show F15 3 8 = y20 from (ey21))
                have hm0 := RQ_q (RQ_0 (cap := 70000)) pz19_1
                refine Ew_of (pcₚ := 58) (fun _ => x_aload_n rfl rfl) ?_
                refine Ew_of (pcₚ := 59) (fun _ => x_iload_n rfl rfl) ?_
                refine w_inv H (o := 3) rfl rfl rfl (H.perm 3 rfl) rfl rfl (by rfl) (M376 H (y20) ((ey21)) (wv22) (ewv23) (show inr (a1) from h0) (show 0 ≤ (a1) ∧ (a1) ≤ 255 from q_626 h6) (show 0 ≤ (y20) ∧ (y20) ≤ 100000000 from q_625 pz19_0) (fun σ F25 A26 H hS27 hA28 y30 ey31 wv32 ewv33 pz29_0 pz29_1 => ⟨rfl, ?_⟩))
                have r34 : (-2147483648 : Int) ≤ y30 ∧ y30 ≤ 2147483647 := rngE (show (-2147483648 : Int) ≤ F25 3 8 ∧ F25 3 8 ≤ 2147483647 from H.frng 3 8) (show F25 3 8 = y30 from (ey31))
                have hm1 := RQ_q hm0 pz29_1
                refine Ew_of (pcₚ := 63) (fun _ => x_aload_n rfl rfl) ?_
                refine Ew_of (pcₚ := 65) (fun _ => x_bipush (z := 16) rfl (by decide)) ?_
                refine Ew_of (pcₚ := 66) (fun _ => x_iload_n rfl rfl) ?_
                refine w_imul rfl ?_
                refine w_inv H (o := 3) rfl rfl rfl (H.perm 3 rfl) rfl rfl (by rfl) (M376 H (y30) ((ey31)) (wv32) (ewv33) (show inr ((16 * a2)) from q_629 b10 b9) (show 0 ≤ ((16 * a2)) ∧ ((16 * a2)) ≤ 255 from q_628 b10 b9) (show 0 ≤ (y30) ∧ (y30) ≤ 100000000 from q_627 pz19_0 pz29_0) (fun σ F35 A36 H hS37 hA38 y40 ey41 wv42 ewv43 pz39_0 pz39_1 => ⟨rfl, ?_⟩))
                have r44 : (-2147483648 : Int) ≤ y40 ∧ y40 ≤ 2147483647 := rngE (show (-2147483648 : Int) ≤ F35 3 8 ∧ F35 3 8 ≤ 2147483647 from H.frng 3 8) (show F35 3 8 = y40 from (ey41))
                have hc91 : ∀ (ls : rO) (σ : rS) (F_c91 : hF) (A_c91 : hA) , rlook ls 0 = some (.ref (D 3)) → rlook ls 1 = some (I (a1)) → rlook ls 3 = some (I (a3)) → rlook ls 4 = some (I (a4)) → rlook ls 5 = some (I (a5)) → HS σ0 σ D N F_c91 A_c91 → SF [(3, 8)] F35 F_c91 → SA [19] A36 A_c91 → ∀ yc91_3_8 : Int, F_c91 3 8 = yc91_3_8 → ∀ wc91_19 : Int → Int, A_c91 19 = wc91_19 → (6 ≤ (yc91_3_8) ∧ (yc91_3_8) ≤ 14) → (RQ 70000 ((wc91_19)) ((yc91_3_8)) (((nb 407708164 4 ++ [u8 ((a1))]) ++ [u8 (16 * (a2))]) ++ opt (andI ((a1)) 8) (nb ((u1_1)) 8))) → Ew 378 (d + 4) 91 ls [] σ c s Q := by
                 as_aux_lemma =>
                  intro  ls σ F_c91 A_c91  lc91_0 lc91_1 lc91_3 lc91_4 lc91_5 H hS_c91 hA_c91 yc91_3_8 eyc91_3_8 wc91_19 ewc91_19 jc91_0 jc91_1
                  have r45 : (-2147483648 : Int) ≤ yc91_3_8 ∧ yc91_3_8 ≤ 2147483647 := rngE (show (-2147483648 : Int) ≤ F_c91 3 8 ∧ F_c91 3 8 ≤ 2147483647 from H.frng 3 8) (show F_c91 3 8 = yc91_3_8 from (eyc91_3_8))
                  have hc108 : ∀ (ls : rO) (σ : rS) (F_c108 : hF) (A_c108 : hA) , rlook ls 0 = some (.ref (D 3)) → rlook ls 1 = some (I (a1)) → rlook ls 4 = some (I (a4)) → rlook ls 5 = some (I (a5)) → HS σ0 σ D N F_c108 A_c108 → SF [(3, 8)] F_c91 F_c108 → SA [19] A_c91 A_c108 → ∀ yc108_3_8 : Int, F_c108 3 8 = yc108_3_8 → ∀ wc108_19 : Int → Int, A_c108 19 = wc108_19 → (6 ≤ (yc108_3_8) ∧ (yc108_3_8) ≤ 18) → (RQ 70000 ((wc108_19)) ((yc108_3_8)) ((((nb 407708164 4 ++ [u8 ((a1))]) ++ [u8 (16 * (a2))]) ++ opt (andI ((a1)) 8) (nb ((u1_1)) 8)) ++ opt (andI ((a1)) 1) (nb ((a3)) 4))) → Ew 378 (d + 4) 108 ls [] σ c s Q := by
                   as_aux_lemma =>
                    intro  ls σ F_c108 A_c108  lc108_0 lc108_1 lc108_4 lc108_5 H hS_c108 hA_c108 yc108_3_8 eyc108_3_8 wc108_19 ewc108_19 jc108_0 jc108_1
                    have r46 : (-2147483648 : Int) ≤ yc108_3_8 ∧ yc108_3_8 ≤ 2147483647 := rngE (show (-2147483648 : Int) ≤ F_c108 3 8 ∧ F_c108 3 8 ≤ 2147483647 from H.frng 3 8) (show F_c108 3 8 = yc108_3_8 from (eyc108_3_8))
                    have hm4 : RQ 70000 ((wc108_19)) ((yc108_3_8)) ((((nb 407708164 4 ++ [u8 ((a1))]) ++ [u8 (16 * (a2))]) ++ opt (andI ((a1)) 8) (nb ((u1_1)) 8)) ++ opt (andI ((a1)) 1) (nb ((a3)) 4)) := by assumption
                    refine Ew_of (pcₚ := 109) (fun _ => x_aload_n rfl lc108_0) ?_
                    refine Ew_of (pcₚ := 110) (fun _ => x_aload_n rfl lc108_0) ?_
                    refine Ew_of (pcₚ := 111) (fun _ => x_aload_n rfl lc108_0) ?_
                    refine w_gT H (o := 3) (t := 19) rfl (H.perm 3 rfl) rfl rfl rfl rfl rfl rfl ?_
                    refine Ew_of (pcₚ := 115) (fun _ => x_iconst rfl) ?_
                    refine Ew_of (pcₚ := 116) (fun _ => x_aload_n rfl lc108_0) ?_
                    refine w_gI H (o := 3) (w := yc108_3_8) rfl (H.perm 3 rfl) rfl rfl rfl (fun _ => rfl) (eyc108_3_8) ?_
                    refine w_inv H (o := 3) rfl rfl rfl (H.perm 3 rfl) rfl rfl (by rfl) (M359_19 H (wc108_19) (ewc108_19) (show inr (4) from q_216) (show inr (yc108_3_8) from q_631 jc108_0) (show 0 ≤ (4) ∧ (4) ≤ (yc108_3_8) ∧ (yc108_3_8) ≤ 70000 from q_630 jc108_0) (fun z51 σ F47 A48 H hS49 hA50 pz51_0 pz51_1 pz51_2 => ⟨rfl, ?_⟩))
                    refine Ew_of (pcₚ := 124) (fun _ => x_bipush (z := 8) rfl (by decide)) ?_
                    refine w_lshrE rfl ?_
                    have g52 : inrJ (srJ (z51) (8)) := toJ_inr _
                    refine Ew_of (pcₚ := 128) (fun _ => x_ldc2 (z := 255) rfl (by decide)) ?_
                    refine w_landE rfl ?_
                    have g53 : inrJ (anJ ((srJ (z51) (8))) (255)) := toJ_inr _
                    refine w_l2i rfl ?_
                    obtain ⟨qn, hqn⟩ : ∃ q : Int, IMP True (q = u8 (NSL (TFh ((a1)) ((a2)) ((a3)) ((u1_1))) 0 % 4294967296 / 256)) := ⟨_, fun _ => rfl⟩
                    have hsb : ((anJ ((srJ (z51) (8))) (255))) = qn := by rw [hqn trivial, an_sr (by omega) (by omega), pz51_2, show p2 8 = 256 by decide, NSM_L (b := (yc108_3_8)) (by omega) (by omega), sc_drop (X := nb 407708164 4) (Y := TFh ((a1)) ((a2)) ((a3)) ((u1_1))) (by have h := RQ_v hm4 (by omega); rw [h]; unfold TFh; simp only [List.append_assoc]) (by rw [nb_len]; rfl) (by omega)]
                    have hsr : 0 ≤ qn ∧ qn ≤ 255 := by rw [hqn trivial]; exact u8_rng _
                    obtain ⟨qz, hqz⟩ : ∃ q : Int, q = ((anJ ((srJ (z51) (8))) (255))) := ⟨_, rfl⟩
                    rw [← hqz]
                    have gqz : inr qz := by rw [hqz]; omega
                    rw [← hqz] at hsb
                    refine w_inv H (o := 3) rfl rfl rfl (H.perm 3 rfl) rfl rfl (by rfl) (M376 H (yc108_3_8) (((hS49 3 8 rfl).trans (eyc108_3_8))) (wc108_19) ((funext (hA50 19 rfl)).trans (ewc108_19)) (show inr (qz) from gqz) (show 0 ≤ (qz) ∧ (qz) ≤ 255 by omega) (show 0 ≤ (yc108_3_8) ∧ (yc108_3_8) ≤ 100000000 from q_632 jc108_0) (fun σ F54 A55 H hS56 hA57 y59 ey60 wv61 ewv62 pz58_0 pz58_1 => ⟨rfl, ?_⟩))
                    have r63 : (-2147483648 : Int) ≤ y59 ∧ y59 ≤ 2147483647 := rngE (show (-2147483648 : Int) ≤ F54 3 8 ∧ F54 3 8 ≤ 2147483647 from H.frng 3 8) (show F54 3 8 = y59 from (ey60))
                    have hHD : RQ 70000 ((wv61)) ((y59)) (TFH ((a1)) ((a2)) ((a3)) ((u1_1))) := RQ_c (RQ_q hm4 pz58_1) (by rw [hsb, hqn trivial]; unfold TFH TFh; simp only [List.append_assoc])
                    refine Ew_of (pcₚ := 134) (fun _ => x_iconst rfl) ?_
                    refine Ew_of (pcₚ := 136) (fun _ => x_istore rfl) ?_
                    have : ∃ M, ITP (TFs ((a5)) ((a1)) ((a4)) (sc ((w16)) 0 ((u3_2))) (sc ((w14)) 0 ((u1_1)))) (0, []) (0, M) ∧ RQ 70000 ((wv61)) ((y59)) (TFH ((a1)) ((a2)) ((a3)) ((u1_1)) ++ M) := ⟨[], ITP_0, by rw [List.append_nil]; exact hHD⟩
                    suffices hl136 : ∀ (m : Nat), ∀ (ls : rO) (σ : rS) (F_136 : hF) (A_136 : hA) (x136_6 : Int), rlook ls 0 = some (.ref (D 3)) → rlook ls 1 = some (I (a1)) → rlook ls 4 = some (I (a4)) → rlook ls 5 = some (I (a5)) → rlook ls 6 = some (I (x136_6)) → HS σ0 σ D N F_136 A_136 → SF [(3, 5), (3, 6), (3, 8), (3, 10)] F54 F_136 → SA [17, 18, 19, 20] A55 A_136 → ∀ y136_3_8 : Int, F_136 3 8 = y136_3_8 → ∀ w136_19 : Int → Int, A_136 19 = w136_19 → (inr (x136_6)) → (0 ≤ (x136_6)) → (0 ≤ (y136_3_8)) → ((y136_3_8) ≤ 30 + 9 * (x136_6) ∧ (x136_6) ≤ (u1_1) ∨ (y136_3_8) ≤ 30 + 9 * (u1_1) ∧ (u1_1) ≤ (x136_6)) → (∃ M, ITP (TFs ((a5)) ((a1)) ((a4)) (sc ((w16)) 0 ((u3_2))) (sc ((w14)) 0 ((u1_1)))) (0, []) ((x136_6), M) ∧ RQ 70000 ((w136_19)) ((y136_3_8)) (TFH ((a1)) ((a2)) ((a3)) ((u1_1)) ++ M)) → ((u1_1) - (x136_6)).toNat = m → Ew 378 (d + 4) 136 ls [] σ c s Q from
                      hl136 _ _ σ _ _ (0) (rk_o (lc108_0) rfl rfl) (rk_o (lc108_1) rfl rfl) (rk_o (lc108_4) rfl rfl) (rk_o (lc108_5) rfl rfl) (rk_s) H (SF_refl) (SA_refl) (y59) ((ey60)) (wv61) (ewv62) (show inr (0) from q_2) (show 0 ≤ (0) from q_1) (show 0 ≤ (y59) from q_634 jc108_0 pz58_0) (show (y59) ≤ 30 + 9 * (0) ∧ (0) ≤ (u1_1) ∨ (y59) ≤ 30 + 9 * (u1_1) ∧ (u1_1) ≤ (0) from q_633 jc108_0 pz58_0 r1) (show ∃ M, ITP (TFs ((a5)) ((a1)) ((a4)) (sc ((w16)) 0 ((u3_2))) (sc ((w14)) 0 ((u1_1)))) (0, []) ((0), M) ∧ RQ 70000 ((wv61)) ((y59)) (TFH ((a1)) ((a2)) ((a3)) ((u1_1)) ++ M) by assumption) rfl
                    as_aux_lemma =>
                    intro m
                    induction m using Nat.strongRecOn with
                    | _ m ih136 =>
                      intro ls σ F_136 A_136 x136_6 l136_0 l136_1 l136_4 l136_5 l136_6 H hS_136 hA_136 y136_3_8 ey136_3_8 w136_19 ew136_19 j136_0 j136_1 j136_2 j136_3 j136_4 hm136
                      have r64 : (-2147483648 : Int) ≤ y136_3_8 ∧ y136_3_8 ≤ 2147483647 := rngE (show (-2147483648 : Int) ≤ F_136 3 8 ∧ F_136 3 8 ≤ 2147483647 from H.frng 3 8) (show F_136 3 8 = y136_3_8 from (ey136_3_8))
                      have j136_q : ∃ M, ITP (TFs ((a5)) ((a1)) ((a4)) (sc ((w16)) 0 ((u3_2))) (sc ((w14)) 0 ((u1_1)))) (0, []) ((x136_6), M) ∧ RQ 70000 ((w136_19)) ((y136_3_8)) (TFH ((a1)) ((a2)) ((a3)) ((u1_1)) ++ M) := by assumption
                      obtain ⟨Mx, hIT, hRQ⟩ := j136_q
                      refine Ew_of (pcₚ := 138) (fun _ => x_iload rfl l136_6) ?_
                      refine Ew_of (pcₚ := 139) (fun _ => x_aload_n rfl l136_0) ?_
                      refine w_gT H (o := 3) (t := 1) rfl (H.perm 3 rfl) rfl rfl rfl rfl rfl rfl ?_
                      refine w_gI H (o := 1) (w := u1_1) rfl (H.perm 1 rfl) rfl rfl rfl (fun _ => rfl) ((((((((((hS_136 1 1 rfl).trans (hS56 1 1 rfl)).trans (hS49 1 1 rfl)).trans (hS_c108 1 1 rfl)).trans (hS_c91 1 1 rfl)).trans (hS37 1 1 rfl)).trans (hS27 1 1 rfl)).trans (hS17 1 1 rfl)).trans (hS5 1 1 rfl)).trans (eu1_1)) ?_
                      refine w_icmpge (t := 366) rfl rfl (show inr (x136_6) from j136_0) (show inr (u1_1) from q_286 r1) (fun b65 => ?_) (fun b65 => ?_)
                      · refine Ew_of (pcₚ := 367) (fun _ => x_aload_n rfl l136_0) ?_
                        refine Ew_of (pcₚ := 368) (fun _ => x_lconst (z := 0) rfl (by decide)) ?_
                        refine Ew_of (pcₚ := 369) (fun _ => x_iconst rfl) ?_
                        refine w_inv H (o := 3) rfl rfl rfl (H.perm 3 rfl) rfl rfl (by rfl) (M377 H (y136_3_8) ((ey136_3_8)) (w136_19) (ew136_19) (show inrJ (0) from q_340) (show inr (4) from q_216) (show 0 ≤ (4) ∧ (4) ≤ 8 from q_623) (show 0 ≤ (y136_3_8) ∧ (y136_3_8) ≤ 10000000 from q_635 j136_2 j136_3 r1) (fun σ F66 A67 H hS68 hA69 y71 ey72 wv73 ewv74 pz70_0 pz70_1 => ⟨rfl, ?_⟩))
                        have r75 : (-2147483648 : Int) ≤ y71 ∧ y71 ≤ 2147483647 := rngE (show (-2147483648 : Int) ≤ F66 3 8 ∧ F66 3 8 ≤ 2147483647 from H.frng 3 8) (show F66 3 8 = y71 from (ey72))
                        have hq372 := RQ_q hRQ pz70_1
                        refine Ew_of (pcₚ := 373) (fun _ => x_iload_n rfl l136_1) ?_
                        refine Ew_of (pcₚ := 374) (fun _ => x_iconst rfl) ?_
                        refine w_iandE rfl (show inr (a1) from h0) (show inr (4) from q_216) (fun z76 gz76 gaz76 gbz76 gez76 => ?_)
                        refine w_ifeq (t := 402) rfl rfl (show inr (z76) from gz76) (fun b77 => ?_) (fun b77 => ?_)
                        · have hq402 : RQ 70000 ((wv73)) ((y71)) ((TFH ((a1)) ((a2)) ((a3)) ((u1_1)) ++ Mx) ++ TFt ((a1)) (sc ((w14)) 0 ((u1_1)))) := by first | exact RQ_c (RQ_o0 (c := andI ((a1)) 4) (L := nb (NSL (sc ((w14)) 0 ((u1_1))) 0) 4) hq372 (by omega)) (by unfold TFt; simp only [List.append_assoc]) | exact RQ_c (RQ_o1 (c := andI ((a1)) 4) (L := nb (NSL (sc ((w14)) 0 ((u1_1))) 0) 4) hq372 (by have h := pzMISS_1; rw [hso2] at h; rw [← nb_sum (f := (w14)) (a := 0) (n := (u1_1) - 0) (b := (u1_1)) (by omega) (by omega) rfl]; exact h) (by omega)) (by unfold TFt; simp only [List.append_assoc])
                          refine Ew_of (pcₚ := 403) (fun _ => x_aload_n rfl l136_0) ?_
                          refine Ew_of (pcₚ := 404) (fun _ => x_aload_n rfl l136_0) ?_
                          refine w_gT H (o := 3) (t := 19) rfl (H.perm 3 rfl) rfl rfl rfl rfl rfl rfl ?_
                          refine Ew_of (pcₚ := 408) (fun _ => x_aload_n rfl l136_0) ?_
                          refine w_gI H (o := 3) (w := y71) rfl (H.perm 3 rfl) rfl rfl rfl (fun _ => rfl) (ey72) ?_
                          refine w_inv H (o := 3) rfl rfl rfl (H.perm 3 rfl) rfl rfl (by rfl) (M369_19 H (wv73) (ewv74) (show inr (y71) from q_18 r75) (show 0 ≤ (y71) ∧ (y71) ≤ 100000000 by omega) (fun z82 σ F78 A79 H hS80 hA81 y83 ey84 wv85 ewv86 pz82_0 pz82_1 pz82_2 => ⟨rfl, ?_⟩))
                          have r87 : (0 : Int) ≤ y83 ∧ y83 ≤ 65536 := rngE (show (0 : Int) ≤ F78 1 3 ∧ F78 1 3 ≤ 65536 from H.frng 1 3) (show F78 1 3 = y83 from (ey84))
                          have hln : ((sc ((w14)) 0 ((u1_1))).length : Int) = (u1_1) := by rw [sc_lenI (by omega)]; omega
                          have hTR := TFR_of (k := (a2)) (key := (a3)) hIT (by omega)
                          rw [hln] at hTR
                          have : WRT (TFR ((a5)) ((a1)) ((a2)) ((a3)) ((a4)) (sc ((w16)) 0 ((u3_2))) (sc ((w14)) 0 ((u1_1)))) ((z82)) ((y83)) ((wv85)) := by rcases pz82_1 with ⟨p, q⟩ | ⟨p, q, r⟩ <;> first | exact WRT_n hTR hq402 (by omega) (by omega) | exact WRT_y hTR hq402 (by omega) (by omega) (by omega) (by omega) (pz82_2 (by omega)) (by omega)
                          exact w_ireturn rfl (k (z82) σ _ _ H (SF_trans (SF_trans (SF_trans (SF_trans (SF_trans (SF_trans (SF_trans (SF_trans (SF_trans (SF_trans (SF_upd (SF_trans (SF_refl) hS5 (any_sub rfl)) rfl) hS17 (any_sub rfl)) hS27 (any_sub rfl)) hS37 (any_sub rfl)) hS_c91 (any_sub rfl)) hS_c108 (any_sub rfl)) hS49 (any_sub rfl)) hS56 (any_sub rfl)) hS_136 (any_sub rfl)) hS68 (any_sub rfl)) hS80 (any_sub rfl)) (SA_trans (SA_trans (SA_trans (SA_trans (SA_trans (SA_trans (SA_trans (SA_trans (SA_trans (SA_trans (SA_trans (SA_refl) hA6 (any_subA rfl)) hA18 (any_subA rfl)) hA28 (any_subA rfl)) hA38 (any_subA rfl)) hA_c91 (any_subA rfl)) hA_c108 (any_subA rfl)) hA50 (any_subA rfl)) hA57 (any_subA rfl)) hA_136 (any_subA rfl)) hA69 (any_subA rfl)) hA81 (any_subA rfl)) (y83) ((ey84)) (wv85) (ewv86) (show inr (z82) from pz82_0) (show WRT (TFR (a5) (a1) (a2) (a3) (a4) (sc ((w16)) 0 ((u3_2))) (sc ((w14)) 0 ((u1_1)))) ((z82)) ((y83)) ((wv85)) by assumption))
                        · refine Ew_of (pcₚ := 379) (fun _ => x_aload_n rfl l136_0) ?_
                          refine Ew_of (pcₚ := 380) (fun _ => x_aload_n rfl l136_0) ?_
                          refine Ew_of (pcₚ := 381) (fun _ => x_aload_n rfl l136_0) ?_
                          refine w_gT H (o := 3) (t := 1) rfl (H.perm 3 rfl) rfl rfl rfl rfl rfl rfl ?_
                          refine w_gT H (o := 1) (t := 14) rfl (H.perm 1 rfl) rfl rfl rfl rfl rfl rfl ?_
                          refine Ew_of (pcₚ := 388) (fun _ => x_iconst rfl) ?_
                          refine Ew_of (pcₚ := 389) (fun _ => x_aload_n rfl l136_0) ?_
                          refine w_gT H (o := 3) (t := 1) rfl (H.perm 3 rfl) rfl rfl rfl rfl rfl rfl ?_
                          refine w_gI H (o := 1) (w := u1_1) rfl (H.perm 1 rfl) rfl rfl rfl (fun _ => rfl) (((((((((((hS68 1 1 rfl).trans (hS_136 1 1 rfl)).trans (hS56 1 1 rfl)).trans (hS49 1 1 rfl)).trans (hS_c108 1 1 rfl)).trans (hS_c91 1 1 rfl)).trans (hS37 1 1 rfl)).trans (hS27 1 1 rfl)).trans (hS17 1 1 rfl)).trans (hS5 1 1 rfl)).trans (eu1_1)) ?_
                          refine w_inv H (o := 3) rfl rfl rfl (H.perm 3 rfl) rfl rfl (by rfl) (M359_14 H (w14) ((funext (hA69 14 rfl)).trans ((funext (hA_136 14 rfl)).trans ((funext (hA57 14 rfl)).trans ((funext (hA50 14 rfl)).trans ((funext (hA_c108 14 rfl)).trans ((funext (hA_c91 14 rfl)).trans ((funext (hA38 14 rfl)).trans ((funext (hA28 14 rfl)).trans ((funext (hA18 14 rfl)).trans ((funext (hA6 14 rfl)).trans (ew14))))))))))) (show inr (0) from q_2) (show inr (u1_1) from q_286 r1) (show 0 ≤ (0) ∧ (0) ≤ (u1_1) ∧ (u1_1) ≤ 65536 from q_636 r1) (fun z92 σ F88 A89 H hS90 hA91 pz92_0 pz92_1 pz92_2 => ⟨rfl, ?_⟩))
                          have hso2 := pz92_2
                          refine Ew_of (pcₚ := 399) (fun _ => x_iconst rfl) ?_
                          refine w_inv H (o := 3) rfl rfl rfl (H.perm 3 rfl) rfl rfl (by rfl) (M377 H (y71) (((hS90 3 8 rfl).trans (ey72))) (wv73) ((funext (hA91 19 rfl)).trans (ewv74)) (show inrJ (z92) from pz92_0) (show inr (4) from q_216) (show 0 ≤ (4) ∧ (4) ≤ 8 from q_623) (show 0 ≤ (y71) ∧ (y71) ≤ 10000000 by omega) (fun σ F93 A94 H hS95 hA96 y98 ey99 wv100 ewv101 pz97_0 pz97_1 => ⟨rfl, ?_⟩))
                          have r102 : (-2147483648 : Int) ≤ y98 ∧ y98 ≤ 2147483647 := rngE (show (-2147483648 : Int) ≤ F93 3 8 ∧ F93 3 8 ≤ 2147483647 from H.frng 3 8) (show F93 3 8 = y98 from (ey99))
                          have hq402 : RQ 70000 ((wv100)) ((y98)) ((TFH ((a1)) ((a2)) ((a3)) ((u1_1)) ++ Mx) ++ TFt ((a1)) (sc ((w14)) 0 ((u1_1)))) := by first | exact RQ_c (RQ_o0 (c := andI ((a1)) 4) (L := nb (NSL (sc ((w14)) 0 ((u1_1))) 0) 4) hq372 (by omega)) (by unfold TFt; simp only [List.append_assoc]) | exact RQ_c (RQ_o1 (c := andI ((a1)) 4) (L := nb (NSL (sc ((w14)) 0 ((u1_1))) 0) 4) hq372 (by have h := pz97_1; rw [hso2] at h; rw [← nb_sum (f := (w14)) (a := 0) (n := (u1_1) - 0) (b := (u1_1)) (by omega) (by omega) rfl]; exact h) (by omega)) (by unfold TFt; simp only [List.append_assoc])
                          refine Ew_of (pcₚ := 403) (fun _ => x_aload_n rfl l136_0) ?_
                          refine Ew_of (pcₚ := 404) (fun _ => x_aload_n rfl l136_0) ?_
                          refine w_gT H (o := 3) (t := 19) rfl (H.perm 3 rfl) rfl rfl rfl rfl rfl rfl ?_
                          refine Ew_of (pcₚ := 408) (fun _ => x_aload_n rfl l136_0) ?_
                          refine w_gI H (o := 3) (w := y98) rfl (H.perm 3 rfl) rfl rfl rfl (fun _ => rfl) (ey99) ?_
                          refine w_inv H (o := 3) rfl rfl rfl (H.perm 3 rfl) rfl rfl (by rfl) (M369_19 H (wv100) (ewv101) (show inr (y98) from q_18 r102) (show 0 ≤ (y98) ∧ (y98) ≤ 100000000 by omega) (fun z107 σ F103 A104 H hS105 hA106 y108 ey109 wv110 ewv111 pz107_0 pz107_1 pz107_2 => ⟨rfl, ?_⟩))
                          have r112 : (0 : Int) ≤ y108 ∧ y108 ≤ 65536 := rngE (show (0 : Int) ≤ F103 1 3 ∧ F103 1 3 ≤ 65536 from H.frng 1 3) (show F103 1 3 = y108 from (ey109))
                          have hln : ((sc ((w14)) 0 ((u1_1))).length : Int) = (u1_1) := by rw [sc_lenI (by omega)]; omega
                          have hTR := TFR_of (k := (a2)) (key := (a3)) hIT (by omega)
                          rw [hln] at hTR
                          have : WRT (TFR ((a5)) ((a1)) ((a2)) ((a3)) ((a4)) (sc ((w16)) 0 ((u3_2))) (sc ((w14)) 0 ((u1_1)))) ((z107)) ((y108)) ((wv110)) := by rcases pz107_1 with ⟨p, q⟩ | ⟨p, q, r⟩ <;> first | exact WRT_n hTR hq402 (by omega) (by omega) | exact WRT_y hTR hq402 (by omega) (by omega) (by omega) (by omega) (pz107_2 (by omega)) (by omega)
                          exact w_ireturn rfl (k (z107) σ _ _ H (SF_trans (SF_trans (SF_trans (SF_trans (SF_trans (SF_trans (SF_trans (SF_trans (SF_trans (SF_trans (SF_trans (SF_trans (SF_upd (SF_trans (SF_refl) hS5 (any_sub rfl)) rfl) hS17 (any_sub rfl)) hS27 (any_sub rfl)) hS37 (any_sub rfl)) hS_c91 (any_sub rfl)) hS_c108 (any_sub rfl)) hS49 (any_sub rfl)) hS56 (any_sub rfl)) hS_136 (any_sub rfl)) hS68 (any_sub rfl)) hS90 (any_sub rfl)) hS95 (any_sub rfl)) hS105 (any_sub rfl)) (SA_trans (SA_trans (SA_trans (SA_trans (SA_trans (SA_trans (SA_trans (SA_trans (SA_trans (SA_trans (SA_trans (SA_trans (SA_trans (SA_refl) hA6 (any_subA rfl)) hA18 (any_subA rfl)) hA28 (any_subA rfl)) hA38 (any_subA rfl)) hA_c91 (any_subA rfl)) hA_c108 (any_subA rfl)) hA50 (any_subA rfl)) hA57 (any_subA rfl)) hA_136 (any_subA rfl)) hA69 (any_subA rfl)) hA91 (any_subA rfl)) hA96 (any_subA rfl)) hA106 (any_subA rfl)) (y108) ((ey109)) (wv110) (ewv111) (show inr (z107) from pz107_0) (show WRT (TFR (a5) (a1) (a2) (a3) (a4) (sc ((w16)) 0 ((u3_2))) (sc ((w14)) 0 ((u1_1)))) ((z107)) ((y108)) ((wv110)) by assumption))
                      · have hc180 : ∀ (ls : rO) (σ : rS) (F_c180 : hF) (A_c180 : hA) (xc180_7 : Int), rlook ls 0 = some (.ref (D 3)) → rlook ls 1 = some (I (a1)) → rlook ls 4 = some (I (a4)) → rlook ls 5 = some (I (a5)) → rlook ls 6 = some (I (x136_6)) → rlook ls 7 = some (I (xc180_7)) → HS σ0 σ D N F_c180 A_c180 → SF [] F_136 F_c180 → SA [] A_136 A_c180 → (inr (xc180_7)) → ((x136_6) ≤ (xc180_7) ∧ (xc180_7) ≤ (u1_1)) → ((xc180_7) = (x136_6) + (a4) ∨ (xc180_7) = (u1_1) ∧ (xc180_7) < (x136_6) + (a4)) → ((xc180_7) ≤ (x136_6) + (a4)) → Ew 378 (d + 4) 180 ls [] σ c s Q := by
                         as_aux_lemma =>
                          intro  ls σ F_c180 A_c180 xc180_7 lc180_0 lc180_1 lc180_4 lc180_5 lc180_6 lc180_7 H hS_c180 hA_c180   jc180_0 jc180_1 jc180_2 jc180_3
                          refine Ew_of (pcₚ := 181) (fun _ => x_aload_n rfl lc180_0) ?_
                          refine w_inv H (o := 3) rfl rfl rfl (H.perm 3 rfl) rfl rfl (by rfl) (M367 H (u3_2) ((((((((((((hS_c180 3 2 rfl).trans (hS_136 3 2 rfl)).trans (hS56 3 2 rfl)).trans (hS49 3 2 rfl)).trans (hS_c108 3 2 rfl)).trans (hS_c91 3 2 rfl)).trans (hS37 3 2 rfl)).trans (hS27 3 2 rfl)).trans (hS17 3 2 rfl)).trans (hS5 3 2 rfl)).trans (eu3_2))) (w16) ((funext (hA_c180 16 rfl)).trans ((funext (hA_136 16 rfl)).trans ((funext (hA57 16 rfl)).trans ((funext (hA50 16 rfl)).trans ((funext (hA_c108 16 rfl)).trans ((funext (hA_c91 16 rfl)).trans ((funext (hA38 16 rfl)).trans ((funext (hA28 16 rfl)).trans ((funext (hA18 16 rfl)).trans ((funext (hA6 16 rfl)).trans (ew16))))))))))) (show (u3_2) ≤ 16384 from q_498 h5 r1) (fun σ F113 A114 H hS115 hA116 y118 ey119 wv120 ewv121 pz117_0 pz117_1 => ⟨rfl, ?_⟩))
                          have r122 : (-2147483648 : Int) ≤ y118 ∧ y118 ≤ 2147483647 := rngE (show (-2147483648 : Int) ≤ F113 3 5 ∧ F113 3 5 ≤ 2147483647 from H.frng 3 5) (show F113 3 5 = y118 from (ey119))
                          have hc198 : ∀ (ls : rO) (σ : rS) (F_c198 : hF) (A_c198 : hA) , rlook ls 0 = some (.ref (D 3)) → rlook ls 1 = some (I (a1)) → rlook ls 4 = some (I (a4)) → rlook ls 5 = some (I (a5)) → rlook ls 6 = some (I (x136_6)) → rlook ls 7 = some (I (xc180_7)) → HS σ0 σ D N F_c198 A_c198 → SF [(3, 5)] F113 F_c198 → SA [18] A114 A_c198 → ∀ yc198_3_5 : Int, F_c198 3 5 = yc198_3_5 → ∀ wc198_18 : Int → Int, A_c198 18 = wc198_18 → ((u3_2) ≤ (yc198_3_5) ∧ (yc198_3_5) ≤ (u3_2) + (x136_6)) → (sc ((wc198_18)) 0 ((yc198_3_5)) = TFx ((a1)) (sc ((w16)) 0 ((u3_2))) (sc ((w14)) 0 ((u1_1))) ((x136_6))) → Ew 378 (d + 4) 198 ls [] σ c s Q := by
                           as_aux_lemma =>
                            intro  ls σ F_c198 A_c198  lc198_0 lc198_1 lc198_4 lc198_5 lc198_6 lc198_7 H hS_c198 hA_c198 yc198_3_5 eyc198_3_5 wc198_18 ewc198_18 jc198_0 jc198_1
                            have r123 : (-2147483648 : Int) ≤ yc198_3_5 ∧ yc198_3_5 ≤ 2147483647 := rngE (show (-2147483648 : Int) ≤ F_c198 3 5 ∧ F_c198 3 5 ≤ 2147483647 from H.frng 3 5) (show F_c198 3 5 = yc198_3_5 from (eyc198_3_5))
                            have hdx : sc ((wc198_18)) 0 ((yc198_3_5)) = TFx ((a1)) (sc ((w16)) 0 ((u3_2))) (sc ((w14)) 0 ((u1_1))) ((x136_6)) := jc198_1
                            refine Ew_of (pcₚ := 199) (fun _ => x_aload_n rfl lc198_0) ?_
                            refine w_gI H (o := 3) (w := yc198_3_5) rfl (H.perm 3 rfl) rfl rfl rfl (fun _ => rfl) (eyc198_3_5) ?_
                            refine Ew_of (pcₚ := 204) (fun _ => x_istore rfl) ?_
                            refine Ew_of (pcₚ := 205) (fun _ => x_aload_n rfl (rk_o (lc198_0) rfl rfl)) ?_
                            refine Ew_of (pcₚ := 207) (fun _ => x_iload rfl (rk_o (lc198_6) rfl rfl)) ?_
                            refine Ew_of (pcₚ := 209) (fun _ => x_iload rfl (rk_o (lc198_7) rfl rfl)) ?_
                            refine w_inv H (o := 3) rfl rfl rfl (H.perm 3 rfl) rfl rfl (by rfl) (M368 H (yc198_3_5) ((eyc198_3_5)) (w14) ((funext (hA_c198 14 rfl)).trans ((funext (hA116 14 rfl)).trans ((funext (hA_c180 14 rfl)).trans ((funext (hA_136 14 rfl)).trans ((funext (hA57 14 rfl)).trans ((funext (hA50 14 rfl)).trans ((funext (hA_c108 14 rfl)).trans ((funext (hA_c91 14 rfl)).trans ((funext (hA38 14 rfl)).trans ((funext (hA28 14 rfl)).trans ((funext (hA18 14 rfl)).trans ((funext (hA6 14 rfl)).trans (ew14))))))))))))) (wc198_18) (ewc198_18) (show inr (x136_6) from j136_0) (show inr (xc180_7) from jc180_0) (show 0 ≤ (yc198_3_5) ∧ (yc198_3_5) ≤ 16384 from q_638 b65 h5 jc198_0 r2) (show 0 ≤ (x136_6) ∧ (x136_6) ≤ (xc180_7) ∧ (xc180_7) ≤ 65536 ∧ (yc198_3_5) + ((xc180_7) - (x136_6)) ≤ 16384 from q_637 h5 j136_1 jc180_1 jc198_0 r1) (fun σ F124 A125 H hS126 hA127 y129 ey130 wv131 ewv132 pz128_0 pz128_1 pz128_2 => ⟨rfl, ?_⟩))
                            have r133 : (-2147483648 : Int) ≤ y129 ∧ y129 ≤ 2147483647 := rngE (show (-2147483648 : Int) ≤ F124 3 5 ∧ F124 3 5 ≤ 2147483647 from H.frng 3 5) (show F124 3 5 = y129 from (ey130))
                            obtain ⟨q7, hq7⟩ : ∃ q : Int, q = (xc180_7) := ⟨_, rfl⟩
                            have ha1 := pz128_1
                            have ha2 := pz128_2
                            have hsd : sc ((wv131)) 0 ((y129)) = TFx ((a1)) (sc ((w16)) 0 ((u3_2))) (sc ((w14)) 0 ((u1_1))) ((x136_6)) ++ sl (sc ((w14)) 0 ((u1_1))) ((x136_6)) (q7) := by rw [sl_sc (by omega) (by omega) (by omega), sc_cat (b := (yc198_3_5)) (by omega) (by omega), CPY_sc (c := (yc198_3_5)) (d := (yc198_3_5)) ha2 (by omega) (by omega), hdx, CPY_sc (c := q7) (d := (y129)) ha1 (by omega) (by omega)]
                            have hBd : ∀ i, (0 : Int) ≤ (wv131) i ∧ (wv131) i ≤ 255 := fun i => by have h1 : (0 : Int) ≤ A125 18 i ∧ A125 18 i ≤ 255 := H.arng 18 i; rw [show A125 18 = wv131 from ewv132] at h1; exact h1
                            have hxl : ((TFx ((a1)) (sc ((w16)) 0 ((u3_2))) (sc ((w14)) 0 ((u1_1))) ((x136_6))).length : Int) = (yc198_3_5) := by rw [← hdx, sc_lenI (by omega)]; omega
                            refine Ew_of (pcₚ := 213) (fun _ => x_aload_n rfl (rk_o (lc198_0) rfl rfl)) ?_
                            refine Ew_of (pcₚ := 215) (fun _ => x_iload rfl rk_s) ?_
                            refine Ew_of (pcₚ := 217) (fun _ => x_iload rfl (rk_o (lc198_5) rfl rfl)) ?_
                            refine w_inv H (o := 3) rfl rfl rfl (H.perm 3 rfl) rfl rfl (by rfl) (M366 H (y129) ((ey130)) (wv131) (ewv132) (show inr (yc198_3_5) from q_18 r123) (show inr (a5) from h4) (show 0 ≤ (y129) ∧ (y129) ≤ 16384 from q_640 h5 jc180_1 jc198_0 pz128_0 r2) (show 0 ≤ (yc198_3_5) ∧ (yc198_3_5) ≤ (y129) from q_639 jc180_1 jc198_0 pz128_0 r2) (show 0 ≤ (a5) ∧ (a5) ≤ 3 from h10) (fun σ F134 A135 H hS136 hA137 y139 ey140 wv141 ewv142 pz138_0 pz138_1 => ⟨rfl, ?_⟩))
                            have r143 : (-2147483648 : Int) ≤ y139 ∧ y139 ≤ 2147483647 := rngE (show (-2147483648 : Int) ≤ F134 3 10 ∧ F134 3 10 ≤ 2147483647 from H.frng 3 10) (show F134 3 10 = y139 from (ey140))
                            obtain ⟨Bk, hBk, hRk⟩ := TWB_B pz138_1 (BYI_u hBd) (by omega) (by omega)
                            have hBl := hRk.1
                            rw [hsd] at hBk
                            refine Ew_of (pcₚ := 221) (fun _ => x_aload_n rfl (rk_o (lc198_0) rfl rfl)) ?_
                            have hc239 : ∀ (ls : rO) (σ : rS) (F_c239 : hF) (A_c239 : hA) (xc239_9 : Int), rlook ls 0 = some (.ref (D 3)) → rlook ls 1 = some (I (a1)) → rlook ls 4 = some (I (a4)) → rlook ls 5 = some (I (a5)) → rlook ls 6 = some (I (x136_6)) → rlook ls 7 = some (I (xc180_7)) → rlook ls 9 = some (I (xc239_9)) → HS σ0 σ D N F_c239 A_c239 → SF [] F134 F_c239 → SA [] A135 A_c239 → (inr (xc239_9)) → ((xc239_9) = 1 ∧ (xc180_7) - (x136_6) ≤ (y139) ∨ (xc239_9) = 0 ∧ (y139) < (xc180_7) - (x136_6)) → Ew 378 (d + 4) 239 ls [] σ c s Q := by
                             as_aux_lemma =>
                              intro  ls σ F_c239 A_c239 xc239_9 lc239_0 lc239_1 lc239_4 lc239_5 lc239_6 lc239_7 lc239_9 H hS_c239 hA_c239   jc239_0 jc239_1
                              have hc258 : ∀ (ls : rO) (σ : rS) (F_c258 : hF) (A_c258 : hA) (xc258_10 : Int), rlook ls 0 = some (.ref (D 3)) → rlook ls 1 = some (I (a1)) → rlook ls 4 = some (I (a4)) → rlook ls 5 = some (I (a5)) → rlook ls 6 = some (I (x136_6)) → rlook ls 9 = some (I (xc239_9)) → rlook ls 10 = some (I (xc258_10)) → HS σ0 σ D N F_c258 A_c258 → SF [] F_c239 F_c258 → SA [] A_c239 A_c258 → (inr (xc258_10)) → ((xc239_9) = 1 ∧ (xc258_10) = q7 - (x136_6) ∨ (xc239_9) = 0 ∧ (xc258_10) = (y139)) → (0 ≤ (xc258_10) ∧ (xc258_10) ≤ q7 - (x136_6)) → Ew 378 (d + 4) 258 ls [] σ c s Q := by
                               as_aux_lemma =>
                                intro  ls σ F_c258 A_c258 xc258_10 lc258_0 lc258_1 lc258_4 lc258_5 lc258_6 lc258_9 lc258_10 H hS_c258 hA_c258   jc258_0 jc258_1 jc258_2
                                have hc281 : ∀ (ls : rO) (σ : rS) (F_c281 : hF) (A_c281 : hA) , rlook ls 0 = some (.ref (D 3)) → rlook ls 1 = some (I (a1)) → rlook ls 4 = some (I (a4)) → rlook ls 5 = some (I (a5)) → rlook ls 6 = some (I (x136_6)) → rlook ls 9 = some (I (xc239_9)) → rlook ls 10 = some (I (xc258_10)) → HS σ0 σ D N F_c281 A_c281 → SF [(3, 8)] F_c258 F_c281 → SA [19] A_c258 A_c281 → ∀ yc281_3_8 : Int, F_c281 3 8 = yc281_3_8 → ∀ wc281_19 : Int → Int, A_c281 19 = wc281_19 → ((yc281_3_8) = (y136_3_8) + 4) → (RQ 70000 ((wc281_19)) ((yc281_3_8)) ((TFH ((a1)) ((a2)) ((a3)) ((u1_1)) ++ Mx) ++ nb (if (xc239_9) = 0 then (xc258_10) else 2147483648 + (xc258_10)) 4)) → Ew 378 (d + 4) 281 ls [] σ c s Q := by
                                 as_aux_lemma =>
                                  intro  ls σ F_c281 A_c281  lc281_0 lc281_1 lc281_4 lc281_5 lc281_6 lc281_9 lc281_10 H hS_c281 hA_c281 yc281_3_8 eyc281_3_8 wc281_19 ewc281_19 jc281_0 jc281_1
                                  have r144 : (-2147483648 : Int) ≤ yc281_3_8 ∧ yc281_3_8 ≤ 2147483647 := rngE (show (-2147483648 : Int) ≤ F_c281 3 8 ∧ F_c281 3 8 ≤ 2147483647 from H.frng 3 8) (show F_c281 3 8 = yc281_3_8 from (eyc281_3_8))
                                  have hq281 : RQ 70000 ((wc281_19)) ((yc281_3_8)) ((TFH ((a1)) ((a2)) ((a3)) ((u1_1)) ++ Mx) ++ nb (if (xc239_9) = 0 then (xc258_10) else 2147483648 + (xc258_10)) 4) := by assumption
                                  refine Ew_of (pcₚ := 282) (fun _ => x_iconst rfl) ?_
                                  refine Ew_of (pcₚ := 284) (fun _ => x_istore rfl) ?_
                                  obtain ⟨pp, hpp⟩ : ∃ pp, pp = (wv141) := ⟨_, rfl⟩
                                  have : RQ 70000 ((wc281_19)) ((yc281_3_8)) (((TFH ((a1)) ((a2)) ((a3)) ((u1_1)) ++ Mx) ++ nb (if (xc239_9) = 0 then (xc258_10) else 2147483648 + (xc258_10)) 4) ++ sc ((wv141)) 0 0) := by rw [sc_nil (Int.le_refl 0), List.append_nil]; assumption
                                  have : IMP ((xc239_9) = 1) (CPY ((w14)) ((wv141)) ((x136_6)) 0 0) := fun _ => CPY_0
                                  have : IMP ((xc239_9) = 0) (pp = (wv141)) := fun _ => hpp
                                  suffices hl284 : ∀ (m : Nat), ∀ (ls : rO) (σ : rS) (F_284 : hF) (A_284 : hA) (x284_11 : Int), rlook ls 0 = some (.ref (D 3)) → rlook ls 1 = some (I (a1)) → rlook ls 4 = some (I (a4)) → rlook ls 5 = some (I (a5)) → rlook ls 6 = some (I (x136_6)) → rlook ls 9 = some (I (xc239_9)) → rlook ls 10 = some (I (xc258_10)) → rlook ls 11 = some (I (x284_11)) → HS σ0 σ D N F_284 A_284 → SF [(3, 8)] F_c281 F_284 → SA [19, 20] A_c281 A_284 → ∀ y284_3_8 : Int, F_284 3 8 = y284_3_8 → ∀ w284_19 : Int → Int, A_284 19 = w284_19 → ∀ w284_20 : Int → Int, A_284 20 = w284_20 → (inr (x284_11)) → ((0) ≤ (x284_11)) → ((x284_11) ≤ (0) ∨ (x284_11) ≤ ((xc258_10))) → ((y284_3_8) = (yc281_3_8) + (x284_11)) → (RQ 70000 ((w284_19)) ((y284_3_8)) (((TFH ((a1)) ((a2)) ((a3)) ((u1_1)) ++ Mx) ++ nb (if (xc239_9) = 0 then (xc258_10) else 2147483648 + (xc258_10)) 4) ++ sc ((w284_20)) 0 ((x284_11)))) → (IMP ((xc239_9) = 1) (CPY ((w14)) ((w284_20)) ((x136_6)) 0 ((x284_11)))) → (IMP ((xc239_9) = 0) (pp = (w284_20))) → (((xc258_10)) - (x284_11)).toNat = m → Ew 378 (d + 4) 284 ls [] σ c s Q from
                                    hl284 _ _ σ _ _ (0) (rk_o (lc281_0) rfl rfl) (rk_o (lc281_1) rfl rfl) (rk_o (lc281_4) rfl rfl) (rk_o (lc281_5) rfl rfl) (rk_o (lc281_6) rfl rfl) (rk_o (lc281_9) rfl rfl) (rk_o (lc281_10) rfl rfl) (rk_s) H (SF_refl) (SA_refl) (yc281_3_8) ((eyc281_3_8)) (wc281_19) (ewc281_19) (wv141) ((funext (hA_c281 20 rfl)).trans ((funext (hA_c258 20 rfl)).trans ((funext (hA_c239 20 rfl)).trans (ewv142)))) (show inr (0) from q_2) (show (0) ≤ (0) from q_1) (show (0) ≤ (0) ∨ (0) ≤ ((xc258_10)) from q_5) (show (yc281_3_8) = (yc281_3_8) + (0) from q_365) (show RQ 70000 ((wc281_19)) ((yc281_3_8)) (((TFH ((a1)) ((a2)) ((a3)) ((u1_1)) ++ Mx) ++ nb (if (xc239_9) = 0 then (xc258_10) else 2147483648 + (xc258_10)) 4) ++ sc ((wv141)) 0 ((0))) by assumption) (show IMP ((xc239_9) = 1) (CPY ((w14)) ((wv141)) ((x136_6)) 0 ((0))) by assumption) (show IMP ((xc239_9) = 0) (pp = (wv141)) by assumption) rfl
                                  as_aux_lemma =>
                                  intro m
                                  induction m using Nat.strongRecOn with
                                  | _ m ih284 =>
                                    intro ls σ F_284 A_284 x284_11 l284_0 l284_1 l284_4 l284_5 l284_6 l284_9 l284_10 l284_11 H hS_284 hA_284 y284_3_8 ey284_3_8 w284_19 ew284_19 w284_20 ew284_20 j284_0 j284_1 j284_2 j284_3 j284_4 j284_5 j284_6 hm284
                                    have r145 : (-2147483648 : Int) ≤ y284_3_8 ∧ y284_3_8 ≤ 2147483647 := rngE (show (-2147483648 : Int) ≤ F_284 3 8 ∧ F_284 3 8 ≤ 2147483647 from H.frng 3 8) (show F_284 3 8 = y284_3_8 from (ey284_3_8))
                                    have j284_r : RQ 70000 ((w284_19)) ((y284_3_8)) (((TFH ((a1)) ((a2)) ((a3)) ((u1_1)) ++ Mx) ++ nb (if (xc239_9) = 0 then (xc258_10) else 2147483648 + (xc258_10)) 4) ++ sc ((w284_20)) 0 ((x284_11))) := by assumption
                                    have j284_c : IMP ((xc239_9) = 1) (CPY ((w14)) ((w284_20)) ((x136_6)) 0 ((x284_11))) := j284_5
                                    have j284_p : IMP ((xc239_9) = 0) (pp = (w284_20)) := j284_6
                                    refine Ew_of (pcₚ := 286) (fun _ => x_iload rfl l284_11) ?_
                                    refine Ew_of (pcₚ := 288) (fun _ => x_iload rfl l284_10) ?_
                                    refine w_icmpge (t := 333) rfl rfl (show inr (x284_11) from j284_0) (show inr (xc258_10) from jc258_0) (fun b146 => ?_) (fun b146 => ?_)
                                    · have hBB : ((xc239_9) = 1 ∧ sc ((w284_20)) 0 ((xc258_10)) = sl (sc ((w14)) 0 ((u1_1))) ((x136_6)) (q7)) ∨ ((xc239_9) = 0 ∧ sc ((w284_20)) 0 ((xc258_10)) = Bk) := by rcases (show (xc239_9) = 1 ∧ (xc258_10) = q7 - (x136_6) ∨ (xc239_9) = 0 ∧ (xc258_10) = (y139) from jc258_1) with ⟨x, y⟩ | ⟨x, y⟩; (exact .inl ⟨x, by rw [sl_sc (by omega) (by omega) (by omega)]; exact CPY_sc (j284_c x) (by omega) (by omega)⟩); (exact .inr ⟨x, by rw [← j284_p x, hpp, y]; exact RQ_v hRk (by omega)⟩)
                                      have hq333 : RQ 70000 ((w284_19)) ((y284_3_8)) (((TFH ((a1)) ((a2)) ((a3)) ((u1_1)) ++ Mx) ++ nb (if (xc239_9) = 0 then (xc258_10) else 2147483648 + (xc258_10)) 4) ++ sc ((w284_20)) 0 ((xc258_10))) := RQ_c j284_r (by rw [show (x284_11) = (xc258_10) by omega])
                                      refine Ew_of (pcₚ := 334) (fun _ => x_iload_n rfl l284_1) ?_
                                      refine Ew_of (pcₚ := 336) (fun _ => x_bipush (z := 16) rfl (by decide)) ?_
                                      refine w_iandE rfl (show inr (a1) from h0) (show inr (16) from q_345) (fun z147 gz147 gaz147 gbz147 gez147 => ?_)
                                      refine w_ifeq (t := 356) rfl rfl (show inr (z147) from gz147) (fun b148 => ?_) (fun b148 => ?_)
                                      · have hq356 : RQ 70000 ((w284_19)) ((y284_3_8)) ((((TFH ((a1)) ((a2)) ((a3)) ((u1_1)) ++ Mx) ++ nb (if (xc239_9) = 0 then (xc258_10) else 2147483648 + (xc258_10)) 4) ++ sc ((w284_20)) 0 ((xc258_10))) ++ opt (andI ((a1)) 16) (nb (NSL (sc ((w284_20)) 0 ((xc258_10))) 0) 4)) := by first | exact RQ_o0 hq333 (by omega) | exact RQ_o1 hq333 (by have h := pzMISS_1; rw [hso] at h; rw [← nb_sum (f := (w284_20)) (a := 0) (n := (xc258_10) - 0) (b := (xc258_10)) (by omega) (by omega) rfl]; exact h) (by omega)
                                        refine Ew_of (pcₚ := 358) (fun _ => x_iload rfl l284_6) ?_
                                        refine Ew_of (pcₚ := 360) (fun _ => x_iload rfl l284_4) ?_
                                        refine w_iadd rfl ?_
                                        refine Ew_of (pcₚ := 363) (fun _ => x_istore rfl) ?_
                                        refine Ew_of (pcₚ := 136) (fun _ => x_goto rfl rfl) ?_
                                        have : ∃ M, ITP (TFs ((a5)) ((a1)) ((a4)) (sc ((w16)) 0 ((u3_2))) (sc ((w14)) 0 ((u1_1)))) (0, []) (((x136_6 + a4)), M) ∧ RQ 70000 ((w284_19)) ((y284_3_8)) (TFH ((a1)) ((a2)) ((a3)) ((u1_1)) ++ M) := ⟨Mx ++ (nb (if (xc239_9) = 0 then (xc258_10) else 2147483648 + (xc258_10)) 4 ++ (sc ((w284_20)) 0 ((xc258_10)) ++ opt (andI ((a1)) 16) (nb (NSL (sc ((w284_20)) 0 ((xc258_10))) 0) 4))), TFs_i (e := q7) (B := Bk) (by rw [sc_lenI (by omega)]; omega) (by rw [sc_lenI (by omega)]; omega) rfl hxl hBk (by rw [sl_sc (by omega) (by omega) (by omega)] at hBB ⊢; rw [sc_lenI (by omega)]; have hll := sc_lenI (f := (w284_20)) (show (0 : Int) ≤ (xc258_10) from q_641 jc258_2); rcases hBB with ⟨x, y⟩ | ⟨x, y⟩; (exact .inl ⟨by omega, by unfold TFB; rw [if_neg (by omega), if_neg (by omega), ← y, hll, show (xc258_10) - 0 = (xc258_10) by omega]⟩); (exact .inr ⟨by omega, by unfold TFB; rw [if_pos (by omega), if_pos (by omega), ← y, hll, show (xc258_10) - 0 = (xc258_10) by omega]⟩)) rfl rfl hIT, RQ_c hq356 (by simp only [List.append_assoc])⟩
                                        exact ih136 _ (msE hm136 (q_645 b11) (q_17 b65)) _ σ _ _ ((x136_6 + a4)) (rk_o (l284_0) rfl rfl) (rk_o (l284_1) rfl rfl) (rk_o (l284_4) rfl rfl) (rk_o (l284_5) rfl rfl) (rk_s) H (SF_trans (SF_trans (SF_trans (SF_trans (SF_trans (SF_trans (SF_trans (SF_trans (SF_trans (hS_136) hS_c180 (any_sub rfl)) hS115 (any_sub rfl)) hS_c198 (any_sub rfl)) hS126 (any_sub rfl)) hS136 (any_sub rfl)) hS_c239 (any_sub rfl)) hS_c258 (any_sub rfl)) hS_c281 (any_sub rfl)) hS_284 (any_sub rfl)) (SA_trans (SA_trans (SA_trans (SA_trans (SA_trans (SA_trans (SA_trans (SA_trans (SA_trans (hA_136) hA_c180 (any_subA rfl)) hA116 (any_subA rfl)) hA_c198 (any_subA rfl)) hA127 (any_subA rfl)) hA137 (any_subA rfl)) hA_c239 (any_subA rfl)) hA_c258 (any_subA rfl)) hA_c281 (any_subA rfl)) hA_284 (any_subA rfl)) (y284_3_8) ((ey284_3_8)) (w284_19) (ew284_19) (show inr ((x136_6 + a4)) from q_644 b11 b12 b65 j136_1 r1) (show 0 ≤ ((x136_6 + a4)) from q_643 b11 j136_1) (show 0 ≤ (y284_3_8) from q_642 j136_2 j284_1 j284_3 jc281_0) (show (y284_3_8) ≤ 30 + 9 * ((x136_6 + a4)) ∧ ((x136_6 + a4)) ≤ (u1_1) ∨ (y284_3_8) ≤ 30 + 9 * (u1_1) ∧ (u1_1) ≤ ((x136_6 + a4)) by omega) (show ∃ M, ITP (TFs ((a5)) ((a1)) ((a4)) (sc ((w16)) 0 ((u3_2))) (sc ((w14)) 0 ((u1_1)))) (0, []) (((x136_6 + a4)), M) ∧ RQ 70000 ((w284_19)) ((y284_3_8)) (TFH ((a1)) ((a2)) ((a3)) ((u1_1)) ++ M) by assumption) rfl
                                      · refine Ew_of (pcₚ := 341) (fun _ => x_aload_n rfl l284_0) ?_
                                        refine Ew_of (pcₚ := 342) (fun _ => x_aload_n rfl l284_0) ?_
                                        refine Ew_of (pcₚ := 343) (fun _ => x_aload_n rfl l284_0) ?_
                                        refine w_gT H (o := 3) (t := 20) rfl (H.perm 3 rfl) rfl rfl rfl rfl rfl rfl ?_
                                        refine Ew_of (pcₚ := 347) (fun _ => x_iconst rfl) ?_
                                        refine Ew_of (pcₚ := 349) (fun _ => x_iload rfl l284_10) ?_
                                        refine w_inv H (o := 3) rfl rfl rfl (H.perm 3 rfl) rfl rfl (by rfl) (M359_20 H (w284_20) (ew284_20) (show inr (0) from q_2) (show inr (xc258_10) from jc258_0) (show 0 ≤ (0) ∧ (0) ≤ (xc258_10) ∧ (xc258_10) ≤ 70000 by omega) (fun z153 σ F149 A150 H hS151 hA152 pz153_0 pz153_1 pz153_2 => ⟨rfl, ?_⟩))
                                        have hso := pz153_2
                                        refine Ew_of (pcₚ := 353) (fun _ => x_iconst rfl) ?_
                                        refine w_inv H (o := 3) rfl rfl rfl (H.perm 3 rfl) rfl rfl (by rfl) (M377 H (y284_3_8) (((hS151 3 8 rfl).trans (ey284_3_8))) (w284_19) ((funext (hA152 19 rfl)).trans (ew284_19)) (show inrJ (z153) from pz153_0) (show inr (4) from q_216) (show 0 ≤ (4) ∧ (4) ≤ 8 from q_623) (show 0 ≤ (y284_3_8) ∧ (y284_3_8) ≤ 10000000 by omega) (fun σ F154 A155 H hS156 hA157 y159 ey160 wv161 ewv162 pz158_0 pz158_1 => ⟨rfl, ?_⟩))
                                        have r163 : (-2147483648 : Int) ≤ y159 ∧ y159 ≤ 2147483647 := rngE (show (-2147483648 : Int) ≤ F154 3 8 ∧ F154 3 8 ≤ 2147483647 from H.frng 3 8) (show F154 3 8 = y159 from (ey160))
                                        have hq356 : RQ 70000 ((wv161)) ((y159)) ((((TFH ((a1)) ((a2)) ((a3)) ((u1_1)) ++ Mx) ++ nb (if (xc239_9) = 0 then (xc258_10) else 2147483648 + (xc258_10)) 4) ++ sc ((w284_20)) 0 ((xc258_10))) ++ opt (andI ((a1)) 16) (nb (NSL (sc ((w284_20)) 0 ((xc258_10))) 0) 4)) := by first | exact RQ_o0 hq333 (by omega) | exact RQ_o1 hq333 (by have h := pz158_1; rw [hso] at h; rw [← nb_sum (f := (w284_20)) (a := 0) (n := (xc258_10) - 0) (b := (xc258_10)) (by omega) (by omega) rfl]; exact h) (by omega)
                                        refine Ew_of (pcₚ := 358) (fun _ => x_iload rfl l284_6) ?_
                                        refine Ew_of (pcₚ := 360) (fun _ => x_iload rfl l284_4) ?_
                                        refine w_iadd rfl ?_
                                        refine Ew_of (pcₚ := 363) (fun _ => x_istore rfl) ?_
                                        refine Ew_of (pcₚ := 136) (fun _ => x_goto rfl rfl) ?_
                                        have : ∃ M, ITP (TFs ((a5)) ((a1)) ((a4)) (sc ((w16)) 0 ((u3_2))) (sc ((w14)) 0 ((u1_1)))) (0, []) (((x136_6 + a4)), M) ∧ RQ 70000 ((wv161)) ((y159)) (TFH ((a1)) ((a2)) ((a3)) ((u1_1)) ++ M) := ⟨Mx ++ (nb (if (xc239_9) = 0 then (xc258_10) else 2147483648 + (xc258_10)) 4 ++ (sc ((w284_20)) 0 ((xc258_10)) ++ opt (andI ((a1)) 16) (nb (NSL (sc ((w284_20)) 0 ((xc258_10))) 0) 4))), TFs_i (e := q7) (B := Bk) (by rw [sc_lenI (by omega)]; omega) (by rw [sc_lenI (by omega)]; omega) rfl hxl hBk (by rw [sl_sc (by omega) (by omega) (by omega)] at hBB ⊢; rw [sc_lenI (by omega)]; have hll := sc_lenI (f := (w284_20)) (show (0 : Int) ≤ (xc258_10) from q_641 jc258_2); rcases hBB with ⟨x, y⟩ | ⟨x, y⟩; (exact .inl ⟨by omega, by unfold TFB; rw [if_neg (by omega), if_neg (by omega), ← y, hll, show (xc258_10) - 0 = (xc258_10) by omega]⟩); (exact .inr ⟨by omega, by unfold TFB; rw [if_pos (by omega), if_pos (by omega), ← y, hll, show (xc258_10) - 0 = (xc258_10) by omega]⟩)) rfl rfl hIT, RQ_c hq356 (by simp only [List.append_assoc])⟩
                                        exact ih136 _ (msE hm136 (q_645 b11) (q_17 b65)) _ σ _ _ ((x136_6 + a4)) (rk_o (l284_0) rfl rfl) (rk_o (l284_1) rfl rfl) (rk_o (l284_4) rfl rfl) (rk_o (l284_5) rfl rfl) (rk_s) H (SF_trans (SF_trans (SF_trans (SF_trans (SF_trans (SF_trans (SF_trans (SF_trans (SF_trans (SF_trans (SF_trans (hS_136) hS_c180 (any_sub rfl)) hS115 (any_sub rfl)) hS_c198 (any_sub rfl)) hS126 (any_sub rfl)) hS136 (any_sub rfl)) hS_c239 (any_sub rfl)) hS_c258 (any_sub rfl)) hS_c281 (any_sub rfl)) hS_284 (any_sub rfl)) hS151 (any_sub rfl)) hS156 (any_sub rfl)) (SA_trans (SA_trans (SA_trans (SA_trans (SA_trans (SA_trans (SA_trans (SA_trans (SA_trans (SA_trans (SA_trans (hA_136) hA_c180 (any_subA rfl)) hA116 (any_subA rfl)) hA_c198 (any_subA rfl)) hA127 (any_subA rfl)) hA137 (any_subA rfl)) hA_c239 (any_subA rfl)) hA_c258 (any_subA rfl)) hA_c281 (any_subA rfl)) hA_284 (any_subA rfl)) hA152 (any_subA rfl)) hA157 (any_subA rfl)) (y159) ((ey160)) (wv161) (ewv162) (show inr ((x136_6 + a4)) from q_644 b11 b12 b65 j136_1 r1) (show 0 ≤ ((x136_6 + a4)) from q_643 b11 j136_1) (show 0 ≤ (y159) from q_646 j136_2 j284_1 j284_3 jc281_0 pz158_0) (show (y159) ≤ 30 + 9 * ((x136_6 + a4)) ∧ ((x136_6 + a4)) ≤ (u1_1) ∨ (y159) ≤ 30 + 9 * (u1_1) ∧ (u1_1) ≤ ((x136_6 + a4)) by omega) (show ∃ M, ITP (TFs ((a5)) ((a1)) ((a4)) (sc ((w16)) 0 ((u3_2))) (sc ((w14)) 0 ((u1_1)))) (0, []) (((x136_6 + a4)), M) ∧ RQ 70000 ((wv161)) ((y159)) (TFH ((a1)) ((a2)) ((a3)) ((u1_1)) ++ M) by assumption) rfl
                                    · have hc316 : ∀ (ls : rO) (σ : rS) (F_c316 : hF) (A_c316 : hA) , rlook ls 0 = some (.ref (D 3)) → rlook ls 1 = some (I (a1)) → rlook ls 4 = some (I (a4)) → rlook ls 5 = some (I (a5)) → rlook ls 6 = some (I (x136_6)) → rlook ls 9 = some (I (xc239_9)) → rlook ls 10 = some (I (xc258_10)) → rlook ls 11 = some (I (x284_11)) → HS σ0 σ D N F_c316 A_c316 → SF [] F_284 F_c316 → SA [20] A_284 A_c316 → ∀ wc316_20 : Int → Int, A_c316 20 = wc316_20 → (RQ 70000 ((w284_19)) ((y284_3_8)) (((TFH ((a1)) ((a2)) ((a3)) ((u1_1)) ++ Mx) ++ nb (if (xc239_9) = 0 then (xc258_10) else 2147483648 + (xc258_10)) 4) ++ sc ((wc316_20)) 0 ((x284_11)))) → (IMP ((xc239_9) = 1) (CPY ((w14)) ((wc316_20)) ((x136_6)) 0 ((x284_11) + 1))) → (IMP ((xc239_9) = 0) (pp = (wc316_20))) → Ew 378 (d + 4) 316 ls [] σ c s Q := by
                                       as_aux_lemma =>
                                        intro  ls σ F_c316 A_c316  lc316_0 lc316_1 lc316_4 lc316_5 lc316_6 lc316_9 lc316_10 lc316_11 H hS_c316 hA_c316  wc316_20 ewc316_20 jc316_0 jc316_1 jc316_2
                                        have k316_r : RQ 70000 ((w284_19)) ((y284_3_8)) (((TFH ((a1)) ((a2)) ((a3)) ((u1_1)) ++ Mx) ++ nb (if (xc239_9) = 0 then (xc258_10) else 2147483648 + (xc258_10)) 4) ++ sc ((wc316_20)) 0 ((x284_11))) := by assumption
                                        have k316_c : IMP ((xc239_9) = 1) (CPY ((w14)) ((wc316_20)) ((x136_6)) 0 ((x284_11) + 1)) := jc316_1
                                        have k316_p : IMP ((xc239_9) = 0) (pp = (wc316_20)) := jc316_2
                                        refine Ew_of (pcₚ := 317) (fun _ => x_aload_n rfl lc316_0) ?_
                                        refine Ew_of (pcₚ := 318) (fun _ => x_aload_n rfl lc316_0) ?_
                                        refine w_gT H (o := 3) (t := 20) rfl (H.perm 3 rfl) rfl rfl rfl rfl rfl rfl ?_
                                        refine Ew_of (pcₚ := 323) (fun _ => x_iload rfl lc316_11) ?_
                                        refine w_lI H (o := 20) (n := 70000) rfl (H.perm 20 rfl) rfl rfl (H.fix 20 rfl rfl) (show 0 ≤ x284_11 ∧ x284_11 < ((70000 : Nat) : Int) by omega) (by decide) (fun v164 ev164 qv164 => ?_)
                                        have qv164 : (0 : Int) ≤ v164 ∧ v164 ≤ 255 := qv164
                                        have ev164 : (wc316_20) (x284_11) = v164 := (congrFun (ewc316_20) (x284_11)).symm.trans ev164
                                        have hvp := ev164
                                        refine w_inv H (o := 3) rfl rfl rfl (H.perm 3 rfl) rfl rfl (by rfl) (M376 H (y284_3_8) (((hS_c316 3 8 rfl).trans (ey284_3_8))) (w284_19) ((funext (hA_c316 19 rfl)).trans (ew284_19)) (show inr (v164) from q_299 qv164) (show 0 ≤ (v164) ∧ (v164) ≤ 255 from qv164) (show 0 ≤ (y284_3_8) ∧ (y284_3_8) ≤ 100000000 by omega) (fun σ F165 A166 H hS167 hA168 y170 ey171 wv172 ewv173 pz169_0 pz169_1 => ⟨rfl, ?_⟩))
                                        have r174 : (-2147483648 : Int) ≤ y170 ∧ y170 ≤ 2147483647 := rngE (show (-2147483648 : Int) ≤ F165 3 8 ∧ F165 3 8 ≤ 2147483647 from H.frng 3 8) (show F165 3 8 = y170 from (ey171))
                                        have hmk := pz169_1
                                        have hq327 : RQ 70000 ((wv172)) ((y170)) (((TFH ((a1)) ((a2)) ((a3)) ((u1_1)) ++ Mx) ++ nb (if (xc239_9) = 0 then (xc258_10) else 2147483648 + (xc258_10)) 4) ++ sc ((wc316_20)) 0 ((x284_11) + 1)) := RQ_c (RQ_q k316_r hmk) (by rw [List.append_assoc, sc_snoc (b := (x284_11)) (by omega) rfl, hvp, u8_id (by omega)])
                                        refine Ew_of (pcₚ := 330) (fun _ => x_iinc (len := 3) rfl (lc316_11)) ?_
                                        refine Ew_of (pcₚ := 284) (fun _ => x_goto rfl rfl) ?_
                                        exact ih284 _ (msE hm284 q_16 (q_17 b146)) _ σ _ _ ((x284_11 + 1)) (rk_o (lc316_0) rfl rfl) (rk_o (lc316_1) rfl rfl) (rk_o (lc316_4) rfl rfl) (rk_o (lc316_5) rfl rfl) (rk_o (lc316_6) rfl rfl) (rk_o (lc316_9) rfl rfl) (rk_o (lc316_10) rfl rfl) (rk_s) H (SF_trans (SF_trans (hS_284) hS_c316 (any_sub rfl)) hS167 (any_sub rfl)) (SA_trans (SA_trans (hA_284) hA_c316 (any_subA rfl)) hA168 (any_subA rfl)) (y170) ((ey171)) (wv172) (ewv173) (wc316_20) ((funext (hA168 20 rfl)).trans (ewc316_20)) (show inr ((x284_11 + 1)) from q_647 b146 j284_1 j284_2 jc258_0) (show (0) ≤ ((x284_11 + 1)) from q_14 j284_1) (show ((x284_11 + 1)) ≤ (0) ∨ ((x284_11 + 1)) ≤ ((xc258_10)) from q_13 b146) (show (y170) = (yc281_3_8) + ((x284_11 + 1)) from q_368 j284_3 pz169_0) (hq327) (k316_c) (k316_p) rfl
                                      refine Ew_of (pcₚ := 293) (fun _ => x_iload rfl l284_9) ?_
                                      refine w_ifeq (t := 316) rfl rfl (show inr (xc239_9) from jc239_0) (fun b175 => ?_) (fun b175 => ?_)
                                      · have : RQ 70000 ((w284_19)) ((y284_3_8)) (((TFH ((a1)) ((a2)) ((a3)) ((u1_1)) ++ Mx) ++ nb (if (xc239_9) = 0 then (xc258_10) else 2147483648 + (xc258_10)) 4) ++ sc ((w284_20)) 0 ((x284_11))) := by first | assumption | exact RQ_c j284_r (by rw [sc_same (f := (w284_20)) (g := _) (fun i x y => upd1_o (by omega))])
                                        have : IMP ((xc239_9) = 1) (CPY ((w14)) ((w284_20)) ((x136_6)) 0 ((x284_11) + 1)) := by first | exact fun z => CPY_s (j284_c z) hvi (by omega) (by omega) rfl | exact fun z => absurd z (by omega)
                                        have : IMP ((xc239_9) = 0) (pp = (w284_20)) := by first | assumption | exact fun z => absurd z (by omega)
                                        exact hc316  _ σ _ _  (l284_0) (l284_1) (l284_4) (l284_5) (l284_6) (l284_9) (l284_10) (l284_11) H (SF_refl) (SA_refl)  (w284_20) (ew284_20) (j284_r) (show IMP ((xc239_9) = 1) (CPY ((w14)) ((w284_20)) ((x136_6)) 0 ((x284_11) + 1)) by assumption) (j284_p)
                                      · refine Ew_of (pcₚ := 297) (fun _ => x_aload_n rfl l284_0) ?_
                                        refine w_gT H (o := 3) (t := 20) rfl (H.perm 3 rfl) rfl rfl rfl rfl rfl rfl ?_
                                        refine Ew_of (pcₚ := 302) (fun _ => x_iload rfl l284_11) ?_
                                        refine Ew_of (pcₚ := 303) (fun _ => x_aload_n rfl l284_0) ?_
                                        refine w_gT H (o := 3) (t := 1) rfl (H.perm 3 rfl) rfl rfl rfl rfl rfl rfl ?_
                                        refine w_gT H (o := 1) (t := 14) rfl (H.perm 1 rfl) rfl rfl rfl rfl rfl rfl ?_
                                        refine Ew_of (pcₚ := 311) (fun _ => x_iload rfl l284_6) ?_
                                        refine Ew_of (pcₚ := 313) (fun _ => x_iload rfl l284_11) ?_
                                        refine w_iadd rfl ?_
                                        refine w_lI H (o := 14) (n := 65536) rfl (H.perm 14 rfl) rfl rfl (H.fix 14 rfl rfl) (show 0 ≤ (x136_6 + x284_11) ∧ (x136_6 + x284_11) < ((65536 : Nat) : Int) by omega) (by decide) (fun v176 ev176 qv176 => ?_)
                                        have qv176 : (0 : Int) ≤ v176 ∧ v176 ≤ 255 := qv176
                                        have ev176 : (w14) ((x136_6 + x284_11)) = v176 := (congrFun ((funext (hA_284 14 rfl)).trans ((funext (hA_c281 14 rfl)).trans ((funext (hA_c258 14 rfl)).trans ((funext (hA_c239 14 rfl)).trans ((funext (hA137 14 rfl)).trans ((funext (hA127 14 rfl)).trans ((funext (hA_c198 14 rfl)).trans ((funext (hA116 14 rfl)).trans ((funext (hA_c180 14 rfl)).trans ((funext (hA_136 14 rfl)).trans ((funext (hA57 14 rfl)).trans ((funext (hA50 14 rfl)).trans ((funext (hA_c108 14 rfl)).trans ((funext (hA_c91 14 rfl)).trans ((funext (hA38 14 rfl)).trans ((funext (hA28 14 rfl)).trans ((funext (hA18 14 rfl)).trans ((funext (hA6 14 rfl)).trans (ew14))))))))))))))))))) ((x136_6 + x284_11))).symm.trans ev176
                                        have hvi := ev176
                                        refine w_sI H (o := 20) (n := 70000) rfl (H.perm 20 rfl) rfl rfl (H.fix 20 rfl rfl) (show 0 ≤ x284_11 ∧ x284_11 < ((70000 : Nat) : Int) by omega) (by decide) (show (0 : Int) ≤ v176 ∧ v176 ≤ 255 from qv176) (fun σ H => ?_)
                                        have : RQ 70000 ((w284_19)) ((y284_3_8)) (((TFH ((a1)) ((a2)) ((a3)) ((u1_1)) ++ Mx) ++ nb (if (xc239_9) = 0 then (xc258_10) else 2147483648 + (xc258_10)) 4) ++ sc ((upd1 (w284_20) (x284_11) (v176))) 0 ((x284_11))) := by first | assumption | exact RQ_c j284_r (by rw [sc_same (f := (upd1 (w284_20) (x284_11) (v176))) (g := _) (fun i x y => upd1_o (by omega))])
                                        have : IMP ((xc239_9) = 1) (CPY ((w14)) ((upd1 (w284_20) (x284_11) (v176))) ((x136_6)) 0 ((x284_11) + 1)) := by first | exact fun z => CPY_s (j284_c z) hvi (by omega) (by omega) rfl | exact fun z => absurd z (by omega)
                                        have : IMP ((xc239_9) = 0) (pp = (upd1 (w284_20) (x284_11) (v176))) := by first | assumption | exact fun z => absurd z (by omega)
                                        exact hc316  _ σ _ _  (l284_0) (l284_1) (l284_4) (l284_5) (l284_6) (l284_9) (l284_10) (l284_11) H (SF_refl) (SA_upd (SA_refl) rfl)  (upd1 (w284_20) (x284_11) (v176)) (congrArg (fun q => upd1 q (x284_11) (v176)) (ew284_20)) (show RQ 70000 ((w284_19)) ((y284_3_8)) (((TFH ((a1)) ((a2)) ((a3)) ((u1_1)) ++ Mx) ++ nb (if (xc239_9) = 0 then (xc258_10) else 2147483648 + (xc258_10)) 4) ++ sc ((upd1 (w284_20) (x284_11) (v176))) 0 ((x284_11))) by assumption) (show IMP ((xc239_9) = 1) (CPY ((w14)) ((upd1 (w284_20) (x284_11) (v176))) ((x136_6)) 0 ((x284_11) + 1)) by assumption) (show IMP ((xc239_9) = 0) (pp = (upd1 (w284_20) (x284_11) (v176))) by assumption)
                                refine Ew_of (pcₚ := 259) (fun _ => x_aload_n rfl lc258_0) ?_
                                refine Ew_of (pcₚ := 261) (fun _ => x_iload rfl lc258_9) ?_
                                refine w_ifeq (t := 274) rfl rfl (show inr (xc239_9) from jc239_0) (fun b177 => ?_) (fun b177 => ?_)
                                · refine Ew_of (pcₚ := 276) (fun _ => x_iload rfl lc258_10) ?_
                                  refine w_i2l rfl (show inr (xc258_10) from jc258_0) ?_
                                  refine Ew_of (pcₚ := 278) (fun _ => x_iconst rfl) ?_
                                  refine w_inv H (o := 3) rfl rfl rfl (H.perm 3 rfl) rfl rfl (by rfl) (M377 H (y136_3_8) (((((((((hS_c258 3 8 rfl).trans (hS_c239 3 8 rfl)).trans (hS136 3 8 rfl)).trans (hS126 3 8 rfl)).trans (hS_c198 3 8 rfl)).trans (hS115 3 8 rfl)).trans (hS_c180 3 8 rfl)).trans (ey136_3_8))) (w136_19) ((funext (hA_c258 19 rfl)).trans ((funext (hA_c239 19 rfl)).trans ((funext (hA137 19 rfl)).trans ((funext (hA127 19 rfl)).trans ((funext (hA_c198 19 rfl)).trans ((funext (hA116 19 rfl)).trans ((funext (hA_c180 19 rfl)).trans (ew136_19)))))))) (show inrJ (xc258_10) from q_649 jc258_0 jc258_2) (show inr (4) from q_216) (show 0 ≤ (4) ∧ (4) ≤ 8 from q_623) (show 0 ≤ (y136_3_8) ∧ (y136_3_8) ≤ 10000000 from q_648 b65 j136_2 j136_3 r1) (fun σ F178 A179 H hS180 hA181 y183 ey184 wv185 ewv186 pz182_0 pz182_1 => ⟨rfl, ?_⟩))
                                  have r187 : (-2147483648 : Int) ≤ y183 ∧ y183 ≤ 2147483647 := rngE (show (-2147483648 : Int) ≤ F178 3 8 ∧ F178 3 8 ≤ 2147483647 from H.frng 3 8) (show F178 3 8 = y183 from (ey184))
                                  have : RQ 70000 ((wv185)) ((y183)) ((TFH ((a1)) ((a2)) ((a3)) ((u1_1)) ++ Mx) ++ nb (if (xc239_9) = 0 then (xc258_10) else 2147483648 + (xc258_10)) 4) := by first | (rw [if_neg (by omega)]; exact RQ_q hRQ pz182_1) | (rw [if_pos (by omega)]; exact RQ_q hRQ pz182_1)
                                  exact hc281  _ σ _ _  (lc258_0) (lc258_1) (lc258_4) (lc258_5) (lc258_6) (lc258_9) (lc258_10) H (SF_trans (SF_refl) hS180 (any_sub rfl)) (SA_trans (SA_refl) hA181 (any_subA rfl)) (y183) ((ey184)) (wv185) (ewv186) (show (y183) = (y136_3_8) + 4 from pz182_0) (show RQ 70000 ((wv185)) ((y183)) ((TFH ((a1)) ((a2)) ((a3)) ((u1_1)) ++ Mx) ++ nb (if (xc239_9) = 0 then (xc258_10) else 2147483648 + (xc258_10)) 4) by assumption)
                                · refine Ew_of (pcₚ := 267) (fun _ => x_ldc2 (z := 2147483648) rfl (by decide)) ?_
                                  refine Ew_of (pcₚ := 269) (fun _ => x_iload rfl lc258_10) ?_
                                  refine w_i2l rfl (show inr (xc258_10) from jc258_0) ?_
                                  refine w_ladd rfl ?_
                                  refine Ew_of (pcₚ := 277) (fun _ => x_goto rfl rfl) ?_
                                  refine Ew_of (pcₚ := 278) (fun _ => x_iconst rfl) ?_
                                  refine w_inv H (o := 3) rfl rfl rfl (H.perm 3 rfl) rfl rfl (by rfl) (M377 H (y136_3_8) (((((((((hS_c258 3 8 rfl).trans (hS_c239 3 8 rfl)).trans (hS136 3 8 rfl)).trans (hS126 3 8 rfl)).trans (hS_c198 3 8 rfl)).trans (hS115 3 8 rfl)).trans (hS_c180 3 8 rfl)).trans (ey136_3_8))) (w136_19) ((funext (hA_c258 19 rfl)).trans ((funext (hA_c239 19 rfl)).trans ((funext (hA137 19 rfl)).trans ((funext (hA127 19 rfl)).trans ((funext (hA_c198 19 rfl)).trans ((funext (hA116 19 rfl)).trans ((funext (hA_c180 19 rfl)).trans (ew136_19)))))))) (show inrJ ((2147483648 + xc258_10)) from q_650 jc258_0 jc258_2) (show inr (4) from q_216) (show 0 ≤ (4) ∧ (4) ≤ 8 from q_623) (show 0 ≤ (y136_3_8) ∧ (y136_3_8) ≤ 10000000 from q_648 b65 j136_2 j136_3 r1) (fun σ F188 A189 H hS190 hA191 y193 ey194 wv195 ewv196 pz192_0 pz192_1 => ⟨rfl, ?_⟩))
                                  have r197 : (-2147483648 : Int) ≤ y193 ∧ y193 ≤ 2147483647 := rngE (show (-2147483648 : Int) ≤ F188 3 8 ∧ F188 3 8 ≤ 2147483647 from H.frng 3 8) (show F188 3 8 = y193 from (ey194))
                                  have : RQ 70000 ((wv195)) ((y193)) ((TFH ((a1)) ((a2)) ((a3)) ((u1_1)) ++ Mx) ++ nb (if (xc239_9) = 0 then (xc258_10) else 2147483648 + (xc258_10)) 4) := by first | (rw [if_neg (by omega)]; exact RQ_q hRQ pz192_1) | (rw [if_pos (by omega)]; exact RQ_q hRQ pz192_1)
                                  exact hc281  _ σ _ _  (lc258_0) (lc258_1) (lc258_4) (lc258_5) (lc258_6) (lc258_9) (lc258_10) H (SF_trans (SF_refl) hS190 (any_sub rfl)) (SA_trans (SA_refl) hA191 (any_subA rfl)) (y193) ((ey194)) (wv195) (ewv196) (show (y193) = (y136_3_8) + 4 from pz192_0) (show RQ 70000 ((wv195)) ((y193)) ((TFH ((a1)) ((a2)) ((a3)) ((u1_1)) ++ Mx) ++ nb (if (xc239_9) = 0 then (xc258_10) else 2147483648 + (xc258_10)) 4) by assumption)
                              refine Ew_of (pcₚ := 241) (fun _ => x_iload rfl lc239_9) ?_
                              refine w_ifeq (t := 252) rfl rfl (show inr (xc239_9) from jc239_0) (fun b198 => ?_) (fun b198 => ?_)
                              · refine Ew_of (pcₚ := 253) (fun _ => x_aload_n rfl lc239_0) ?_
                                refine w_gI H (o := 3) (w := y139) rfl (H.perm 3 rfl) rfl rfl rfl (fun _ => rfl) ((hS_c239 3 10 rfl).trans (ey140)) ?_
                                refine Ew_of (pcₚ := 258) (fun _ => x_istore rfl) ?_
                                exact hc258  _ σ _ _ (y139) (rk_o (lc239_0) rfl rfl) (rk_o (lc239_1) rfl rfl) (rk_o (lc239_4) rfl rfl) (rk_o (lc239_5) rfl rfl) (rk_o (lc239_6) rfl rfl) (rk_o (lc239_9) rfl rfl) (rk_s) H (SF_refl) (SA_refl)   (show inr (y139) from q_504 pz138_0 r143) (show (xc239_9) = 1 ∧ (y139) = q7 - (x136_6) ∨ (xc239_9) = 0 ∧ (y139) = (y139) from q_651 b198) (show 0 ≤ (y139) ∧ (y139) ≤ q7 - (x136_6) by omega)
                              · refine Ew_of (pcₚ := 246) (fun _ => x_iload rfl lc239_7) ?_
                                refine Ew_of (pcₚ := 248) (fun _ => x_iload rfl lc239_6) ?_
                                refine w_isub rfl ?_
                                refine Ew_of (pcₚ := 256) (fun _ => x_goto rfl rfl) ?_
                                refine Ew_of (pcₚ := 258) (fun _ => x_istore rfl) ?_
                                exact hc258  _ σ _ _ ((xc180_7 - x136_6)) (rk_o (lc239_0) rfl rfl) (rk_o (lc239_1) rfl rfl) (rk_o (lc239_4) rfl rfl) (rk_o (lc239_5) rfl rfl) (rk_o (lc239_6) rfl rfl) (rk_o (lc239_9) rfl rfl) (rk_s) H (SF_refl) (SA_refl)   (show inr ((xc180_7 - x136_6)) from q_652 j136_1 jc180_0 jc180_1) (show (xc239_9) = 1 ∧ ((xc180_7 - x136_6)) = q7 - (x136_6) ∨ (xc239_9) = 0 ∧ ((xc180_7 - x136_6)) = (y139) by omega) (show 0 ≤ ((xc180_7 - x136_6)) ∧ ((xc180_7 - x136_6)) ≤ q7 - (x136_6) by omega)
                            refine w_gI H (o := 3) (w := y139) rfl (H.perm 3 rfl) rfl rfl rfl (fun _ => rfl) (ey140) ?_
                            refine Ew_of (pcₚ := 226) (fun _ => x_iload rfl (rk_o (lc198_7) rfl rfl)) ?_
                            refine Ew_of (pcₚ := 228) (fun _ => x_iload rfl (rk_o (lc198_6) rfl rfl)) ?_
                            refine w_isub rfl ?_
                            refine w_icmplt (t := 236) rfl rfl (show inr (y139) from q_504 pz138_0 r143) (show inr ((xc180_7 - x136_6)) from q_652 j136_1 jc180_0 jc180_1) (fun b199 => ?_) (fun b199 => ?_)
                            · refine Ew_of (pcₚ := 237) (fun _ => x_iconst rfl) ?_
                              refine Ew_of (pcₚ := 239) (fun _ => x_istore rfl) ?_
                              exact hc239  _ σ _ _ (0) (rk_o (rk_o (lc198_0) rfl rfl) rfl rfl) (rk_o (rk_o (lc198_1) rfl rfl) rfl rfl) (rk_o (rk_o (lc198_4) rfl rfl) rfl rfl) (rk_o (rk_o (lc198_5) rfl rfl) rfl rfl) (rk_o (rk_o (lc198_6) rfl rfl) rfl rfl) (rk_o (rk_o (lc198_7) rfl rfl) rfl rfl) (rk_s) H (SF_refl) (SA_refl)   (show inr (0) from q_2) (show (0) = 1 ∧ (xc180_7) - (x136_6) ≤ (y139) ∨ (0) = 0 ∧ (y139) < (xc180_7) - (x136_6) from q_653 b199)
                            · refine Ew_of (pcₚ := 233) (fun _ => x_iconst rfl) ?_
                              refine Ew_of (pcₚ := 237) (fun _ => x_goto rfl rfl) ?_
                              refine Ew_of (pcₚ := 239) (fun _ => x_istore rfl) ?_
                              exact hc239  _ σ _ _ (1) (rk_o (rk_o (lc198_0) rfl rfl) rfl rfl) (rk_o (rk_o (lc198_1) rfl rfl) rfl rfl) (rk_o (rk_o (lc198_4) rfl rfl) rfl rfl) (rk_o (rk_o (lc198_5) rfl rfl) rfl rfl) (rk_o (rk_o (lc198_6) rfl rfl) rfl rfl) (rk_o (rk_o (lc198_7) rfl rfl) rfl rfl) (rk_s) H (SF_refl) (SA_refl)   (show inr (1) from q_135) (show (1) = 1 ∧ (xc180_7) - (x136_6) ≤ (y139) ∨ (1) = 0 ∧ (y139) < (xc180_7) - (x136_6) from q_654 b199)
                          have hbg := pz117_1
                          refine Ew_of (pcₚ := 185) (fun _ => x_iload_n rfl lc180_1) ?_
                          refine Ew_of (pcₚ := 187) (fun _ => x_bipush (z := 32) rfl (by decide)) ?_
                          refine w_iandE rfl (show inr (a1) from h0) (show inr (32) from q_655) (fun z200 gz200 gaz200 gbz200 gez200 => ?_)
                          refine w_ifne (t := 198) rfl rfl (show inr (z200) from gz200) (fun b201 => ?_) (fun b201 => ?_)
                          · have : sc ((wv120)) 0 ((y118)) = TFx ((a1)) (sc ((w16)) 0 ((u3_2))) (sc ((w14)) 0 ((u1_1))) ((x136_6)) := by first | (rw [TFx_0 (by omega), sl_sc (by omega) (by omega) (by omega), sc_cat (b := (u3_2)) (by omega) (by omega), CPY_sc (c := (u3_2)) (d := (u3_2)) pzMISS_2 (by omega) (by omega), CPY_sc (c := (u3_2)) (d := (u3_2)) hbg (by omega) (by omega), CPY_sc (c := (x136_6)) (d := (y118)) (by have h := pzMISS_1; rw [pz117_0] at h; exact h) (by omega) (by omega)]) | (rw [TFx_1 (by omega)]; exact CPY_sc hbg (by omega) (by omega))
                            exact hc198  _ σ _ _  (lc180_0) (lc180_1) (lc180_4) (lc180_5) (lc180_6) (lc180_7) H (SF_refl) (SA_refl) (y118) ((ey119)) (wv120) (ewv121) (show (u3_2) ≤ (y118) ∧ (y118) ≤ (u3_2) + (x136_6) from q_656 j136_1 pz117_0) (show sc ((wv120)) 0 ((y118)) = TFx ((a1)) (sc ((w16)) 0 ((u3_2))) (sc ((w14)) 0 ((u1_1))) ((x136_6)) by assumption)
                          · refine Ew_of (pcₚ := 192) (fun _ => x_aload_n rfl lc180_0) ?_
                            refine Ew_of (pcₚ := 193) (fun _ => x_iconst rfl) ?_
                            refine Ew_of (pcₚ := 195) (fun _ => x_iload rfl lc180_6) ?_
                            refine w_inv H (o := 3) rfl rfl rfl (H.perm 3 rfl) rfl rfl (by rfl) (M368 H (y118) ((ey119)) (w14) ((funext (hA116 14 rfl)).trans ((funext (hA_c180 14 rfl)).trans ((funext (hA_136 14 rfl)).trans ((funext (hA57 14 rfl)).trans ((funext (hA50 14 rfl)).trans ((funext (hA_c108 14 rfl)).trans ((funext (hA_c91 14 rfl)).trans ((funext (hA38 14 rfl)).trans ((funext (hA28 14 rfl)).trans ((funext (hA18 14 rfl)).trans ((funext (hA6 14 rfl)).trans (ew14)))))))))))) (wv120) (ewv121) (show inr (0) from q_2) (show inr (x136_6) from j136_0) (show 0 ≤ (y118) ∧ (y118) ≤ 16384 from q_500 h5 pz117_0 r1 r2) (show 0 ≤ (0) ∧ (0) ≤ (x136_6) ∧ (x136_6) ≤ 65536 ∧ (y118) + ((x136_6) - (0)) ≤ 16384 from q_657 b65 h5 j136_1 pz117_0 r1) (fun σ F202 A203 H hS204 hA205 y207 ey208 wv209 ewv210 pz206_0 pz206_1 pz206_2 => ⟨rfl, ?_⟩))
                            have r211 : (-2147483648 : Int) ≤ y207 ∧ y207 ≤ 2147483647 := rngE (show (-2147483648 : Int) ≤ F202 3 5 ∧ F202 3 5 ≤ 2147483647 from H.frng 3 5) (show F202 3 5 = y207 from (ey208))
                            have : sc ((wv209)) 0 ((y207)) = TFx ((a1)) (sc ((w16)) 0 ((u3_2))) (sc ((w14)) 0 ((u1_1))) ((x136_6)) := by first | (rw [TFx_0 (by omega), sl_sc (by omega) (by omega) (by omega), sc_cat (b := (u3_2)) (by omega) (by omega), CPY_sc (c := (u3_2)) (d := (u3_2)) pz206_2 (by omega) (by omega), CPY_sc (c := (u3_2)) (d := (u3_2)) hbg (by omega) (by omega), CPY_sc (c := (x136_6)) (d := (y207)) (by have h := pz206_1; rw [pz117_0] at h; exact h) (by omega) (by omega)]) | (rw [TFx_1 (by omega)]; exact CPY_sc hbg (by omega) (by omega))
                            exact hc198  _ σ _ _  (lc180_0) (lc180_1) (lc180_4) (lc180_5) (lc180_6) (lc180_7) H (SF_trans (SF_refl) hS204 (any_sub rfl)) (SA_trans (SA_refl) hA205 (any_subA rfl)) (y207) ((ey208)) (wv209) (ewv210) (show (u3_2) ≤ (y207) ∧ (y207) ≤ (u3_2) + (x136_6) from q_658 j136_1 pz117_0 pz206_0) (show sc ((wv209)) 0 ((y207)) = TFx ((a1)) (sc ((w16)) 0 ((u3_2))) (sc ((w14)) 0 ((u1_1))) ((x136_6)) by assumption)
                        refine Ew_of (pcₚ := 150) (fun _ => x_iload rfl l136_6) ?_
                        refine Ew_of (pcₚ := 152) (fun _ => x_iload rfl l136_4) ?_
                        refine w_iadd rfl ?_
                        refine Ew_of (pcₚ := 154) (fun _ => x_aload_n rfl l136_0) ?_
                        refine w_gT H (o := 3) (t := 1) rfl (H.perm 3 rfl) rfl rfl rfl rfl rfl rfl ?_
                        refine w_gI H (o := 1) (w := u1_1) rfl (H.perm 1 rfl) rfl rfl rfl (fun _ => rfl) ((((((((((hS_136 1 1 rfl).trans (hS56 1 1 rfl)).trans (hS49 1 1 rfl)).trans (hS_c108 1 1 rfl)).trans (hS_c91 1 1 rfl)).trans (hS37 1 1 rfl)).trans (hS27 1 1 rfl)).trans (hS17 1 1 rfl)).trans (hS5 1 1 rfl)).trans (eu1_1)) ?_
                        refine w_icmpge (t := 171) rfl rfl (show inr ((x136_6 + a4)) from q_644 b11 b12 b65 j136_1 r1) (show inr (u1_1) from q_286 r1) (fun b212 => ?_) (fun b212 => ?_)
                        · refine Ew_of (pcₚ := 172) (fun _ => x_aload_n rfl l136_0) ?_
                          refine w_gT H (o := 3) (t := 1) rfl (H.perm 3 rfl) rfl rfl rfl rfl rfl rfl ?_
                          refine w_gI H (o := 1) (w := u1_1) rfl (H.perm 1 rfl) rfl rfl rfl (fun _ => rfl) ((((((((((hS_136 1 1 rfl).trans (hS56 1 1 rfl)).trans (hS49 1 1 rfl)).trans (hS_c108 1 1 rfl)).trans (hS_c91 1 1 rfl)).trans (hS37 1 1 rfl)).trans (hS27 1 1 rfl)).trans (hS17 1 1 rfl)).trans (hS5 1 1 rfl)).trans (eu1_1)) ?_
                          refine Ew_of (pcₚ := 180) (fun _ => x_istore rfl) ?_
                          exact hc180  _ σ _ _ (u1_1) (rk_o (l136_0) rfl rfl) (rk_o (l136_1) rfl rfl) (rk_o (l136_4) rfl rfl) (rk_o (l136_5) rfl rfl) (rk_o (l136_6) rfl rfl) (rk_s) H (SF_refl) (SA_refl)   (show inr (u1_1) from q_286 r1) (show (x136_6) ≤ (u1_1) ∧ (u1_1) ≤ (u1_1) from q_659 b65) (show (u1_1) = (x136_6) + (a4) ∨ (u1_1) = (u1_1) ∧ (u1_1) < (x136_6) + (a4) by omega) (show (u1_1) ≤ (x136_6) + (a4) from b212)
                        · refine Ew_of (pcₚ := 165) (fun _ => x_iload rfl l136_6) ?_
                          refine Ew_of (pcₚ := 167) (fun _ => x_iload rfl l136_4) ?_
                          refine w_iadd rfl ?_
                          refine Ew_of (pcₚ := 178) (fun _ => x_goto rfl rfl) ?_
                          refine Ew_of (pcₚ := 180) (fun _ => x_istore rfl) ?_
                          exact hc180  _ σ _ _ ((x136_6 + a4)) (rk_o (l136_0) rfl rfl) (rk_o (l136_1) rfl rfl) (rk_o (l136_4) rfl rfl) (rk_o (l136_5) rfl rfl) (rk_o (l136_6) rfl rfl) (rk_s) H (SF_refl) (SA_refl)   (show inr ((x136_6 + a4)) from q_663 b11 b212 j136_1 r1) (show (x136_6) ≤ ((x136_6 + a4)) ∧ ((x136_6 + a4)) ≤ (u1_1) from q_662 b11 b212) (show ((x136_6 + a4)) = (x136_6) + (a4) ∨ ((x136_6 + a4)) = (u1_1) ∧ ((x136_6 + a4)) < (x136_6) + (a4) from q_661) (show ((x136_6 + a4)) ≤ (x136_6) + (a4) from q_660)
                  have hm3 : RQ 70000 ((wc91_19)) ((yc91_3_8)) (((nb 407708164 4 ++ [u8 ((a1))]) ++ [u8 (16 * (a2))]) ++ opt (andI ((a1)) 8) (nb ((u1_1)) 8)) := by assumption
                  refine Ew_of (pcₚ := 92) (fun _ => x_iload_n rfl lc91_1) ?_
                  refine Ew_of (pcₚ := 93) (fun _ => x_iconst rfl) ?_
                  refine w_iandE rfl (show inr (a1) from h0) (show inr (1) from q_135) (fun z213 gz213 gaz213 gbz213 gez213 => ?_)
                  refine w_ifeq (t := 108) rfl rfl (show inr (z213) from gz213) (fun b214 => ?_) (fun b214 => ?_)
                  · have : RQ 70000 ((wc91_19)) ((yc91_3_8)) ((((nb 407708164 4 ++ [u8 ((a1))]) ++ [u8 (16 * (a2))]) ++ opt (andI ((a1)) 8) (nb ((u1_1)) 8)) ++ opt (andI ((a1)) 1) (nb ((a3)) 4)) := by first | exact RQ_o0 hm3 (by omega) | exact RQ_o1 hm3 (by have h := pzMISS_1; rw [hky, nb4_m (v := (a3) % 4294967296) (w := (a3)) (by omega)] at h; exact h) (by omega)
                    exact hc108  _ σ _ _  (lc91_0) (lc91_1) (lc91_4) (lc91_5) H (SF_refl) (SA_refl) (yc91_3_8) ((eyc91_3_8)) (wc91_19) (ewc91_19) (show 6 ≤ (yc91_3_8) ∧ (yc91_3_8) ≤ 18 from q_664 jc91_0) (show RQ 70000 ((wc91_19)) ((yc91_3_8)) ((((nb 407708164 4 ++ [u8 ((a1))]) ++ [u8 (16 * (a2))]) ++ opt (andI ((a1)) 8) (nb ((u1_1)) 8)) ++ opt (andI ((a1)) 1) (nb ((a3)) 4)) by assumption)
                  · refine Ew_of (pcₚ := 98) (fun _ => x_aload_n rfl lc91_0) ?_
                    refine Ew_of (pcₚ := 99) (fun _ => x_iload_n rfl lc91_3) ?_
                    refine w_i2l rfl (show inr (a3) from h2) ?_
                    refine Ew_of (pcₚ := 103) (fun _ => x_ldc2 (z := 4294967295) rfl (by decide)) ?_
                    refine w_landE rfl ?_
                    have g215 : inrJ (anJ (a3) (4294967295)) := toJ_inr _
                    refine Ew_of (pcₚ := 105) (fun _ => x_iconst rfl) ?_
                    have hky : ((anJ (a3) (4294967295))) = (a3) % 4294967296 := anM _
                    refine w_inv H (o := 3) rfl rfl rfl (H.perm 3 rfl) rfl rfl (by rfl) (M377 H (yc91_3_8) ((eyc91_3_8)) (wc91_19) (ewc91_19) (show inrJ ((anJ (a3) (4294967295))) from g215) (show inr (4) from q_216) (show 0 ≤ (4) ∧ (4) ≤ 8 from q_623) (show 0 ≤ (yc91_3_8) ∧ (yc91_3_8) ≤ 10000000 from q_665 jc91_0) (fun σ F216 A217 H hS218 hA219 y221 ey222 wv223 ewv224 pz220_0 pz220_1 => ⟨rfl, ?_⟩))
                    have r225 : (-2147483648 : Int) ≤ y221 ∧ y221 ≤ 2147483647 := rngE (show (-2147483648 : Int) ≤ F216 3 8 ∧ F216 3 8 ≤ 2147483647 from H.frng 3 8) (show F216 3 8 = y221 from (ey222))
                    have : RQ 70000 ((wv223)) ((y221)) ((((nb 407708164 4 ++ [u8 ((a1))]) ++ [u8 (16 * (a2))]) ++ opt (andI ((a1)) 8) (nb ((u1_1)) 8)) ++ opt (andI ((a1)) 1) (nb ((a3)) 4)) := by first | exact RQ_o0 hm3 (by omega) | exact RQ_o1 hm3 (by have h := pz220_1; rw [hky, nb4_m (v := (a3) % 4294967296) (w := (a3)) (by omega)] at h; exact h) (by omega)
                    exact hc108  _ σ _ _  (lc91_0) (lc91_1) (lc91_4) (lc91_5) H (SF_trans (SF_refl) hS218 (any_sub rfl)) (SA_trans (SA_refl) hA219 (any_subA rfl)) (y221) ((ey222)) (wv223) (ewv224) (show 6 ≤ (y221) ∧ (y221) ≤ 18 from q_666 jc91_0 pz220_0) (show RQ 70000 ((wv223)) ((y221)) ((((nb 407708164 4 ++ [u8 ((a1))]) ++ [u8 (16 * (a2))]) ++ opt (andI ((a1)) 8) (nb ((u1_1)) 8)) ++ opt (andI ((a1)) 1) (nb ((a3)) 4)) by assumption)
                have hm2 : RQ 70000 ((wv42)) ((y40)) ((nb 407708164 4 ++ [u8 ((a1))]) ++ [u8 (16 * (a2))]) := by have h := RQ_q hm1 pz39_1; rw [List.nil_append, show ([(a1)] : List Int) = [u8 ((a1))] by rw [u8_id (by omega)], show ([16 * (a2)] : List Int) = [u8 (16 * (a2))] by rw [u8_id (by omega)]] at h; exact h
                refine Ew_of (pcₚ := 71) (fun _ => x_iload_n rfl rfl) ?_
                refine Ew_of (pcₚ := 73) (fun _ => x_bipush (z := 8) rfl (by decide)) ?_
                refine w_iandE rfl (show inr (a1) from h0) (show inr (8) from q_141) (fun z226 gz226 gaz226 gbz226 gez226 => ?_)
                refine w_ifeq (t := 91) rfl rfl (show inr (z226) from gz226) (fun b227 => ?_) (fun b227 => ?_)
                · have : RQ 70000 ((wv42)) ((y40)) (((nb 407708164 4 ++ [u8 ((a1))]) ++ [u8 (16 * (a2))]) ++ opt (andI ((a1)) 8) (nb ((u1_1)) 8)) := by first | exact RQ_o0 hm2 (by omega) | exact RQ_o1 hm2 pzMISS_1 (by omega)
                  exact hc91  _ σ _ _  (rfl) (rfl) (rfl) (rfl) (rfl) H (SF_refl) (SA_refl) (y40) ((ey41)) (wv42) (ewv43) (show 6 ≤ (y40) ∧ (y40) ≤ 14 from q_667 pz19_0 pz29_0 pz39_0) (show RQ 70000 ((wv42)) ((y40)) (((nb 407708164 4 ++ [u8 ((a1))]) ++ [u8 (16 * (a2))]) ++ opt (andI ((a1)) 8) (nb ((u1_1)) 8)) by assumption)
                · refine Ew_of (pcₚ := 78) (fun _ => x_aload_n rfl rfl) ?_
                  refine Ew_of (pcₚ := 79) (fun _ => x_aload_n rfl rfl) ?_
                  refine w_gT H (o := 3) (t := 1) rfl (H.perm 3 rfl) rfl rfl rfl rfl rfl rfl ?_
                  refine w_gI H (o := 1) (w := u1_1) rfl (H.perm 1 rfl) rfl rfl rfl (fun _ => rfl) (((((hS37 1 1 rfl).trans (hS27 1 1 rfl)).trans (hS17 1 1 rfl)).trans (hS5 1 1 rfl)).trans (eu1_1)) ?_
                  refine w_i2l rfl (show inr (u1_1) from q_286 r1) ?_
                  refine Ew_of (pcₚ := 88) (fun _ => x_bipush (z := 8) rfl (by decide)) ?_
                  refine w_inv H (o := 3) rfl rfl rfl (H.perm 3 rfl) rfl rfl (by rfl) (M377 H (y40) ((ey41)) (wv42) (ewv43) (show inrJ (u1_1) from q_670 r1) (show inr (8) from q_141) (show 0 ≤ (8) ∧ (8) ≤ 8 from q_669) (show 0 ≤ (y40) ∧ (y40) ≤ 10000000 from q_668 pz19_0 pz29_0 pz39_0) (fun σ F228 A229 H hS230 hA231 y233 ey234 wv235 ewv236 pz232_0 pz232_1 => ⟨rfl, ?_⟩))
                  have r237 : (-2147483648 : Int) ≤ y233 ∧ y233 ≤ 2147483647 := rngE (show (-2147483648 : Int) ≤ F228 3 8 ∧ F228 3 8 ≤ 2147483647 from H.frng 3 8) (show F228 3 8 = y233 from (ey234))
                  have : RQ 70000 ((wv235)) ((y233)) (((nb 407708164 4 ++ [u8 ((a1))]) ++ [u8 (16 * (a2))]) ++ opt (andI ((a1)) 8) (nb ((u1_1)) 8)) := by first | exact RQ_o0 hm2 (by omega) | exact RQ_o1 hm2 pz232_1 (by omega)
                  exact hc91  _ σ _ _  (rfl) (rfl) (rfl) (rfl) (rfl) H (SF_trans (SF_refl) hS230 (any_sub rfl)) (SA_trans (SA_refl) hA231 (any_subA rfl)) (y233) ((ey234)) (wv235) (ewv236) (show 6 ≤ (y233) ∧ (y233) ≤ 14 from q_671 pz19_0 pz232_0 pz29_0 pz39_0) (show RQ 70000 ((wv235)) ((y233)) (((nb 407708164 4 ++ [u8 ((a1))]) ++ [u8 (16 * (a2))]) ++ opt (andI ((a1)) 8) (nb ((u1_1)) 8)) by assumption)
              · exfalso
                omega

