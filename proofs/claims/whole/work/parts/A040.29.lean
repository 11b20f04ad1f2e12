theorem M332 {σ0 σ : rS} {D N : Nat → Nat} {F : hF} {A : hA} {d c s : Nat} {Q : wQ} (H : HS σ0 σ D N F A) {a1 a2 : Int} (u4_2 : Int) (eu4_2 : F 4 2 = u4_2) (w14 : Int → Int) (ew14 : A 14 = w14) (w23 : Int → Int) (ew23 : A 23 = w23) (h0 : inr (a1)) (h1 : inr (a2)) (h2 : 0 ≤ (a1) ∧ (a1) ≤ (a2) ∧ (a2) ≤ 65536) (h3 : 0 ≤ (u4_2) ∧ (u4_2) ≤ 9000000) (k : ∀ σ Fₚ Aₚ, HS σ0 σ D N Fₚ Aₚ → SF [(4, 2)] F Fₚ → SA [23] A Aₚ → ∀ y4_2 : Int, Fₚ 4 2 = y4_2 → ∀ v23 : Int → Int, Aₚ 23 = v23 → ((u4_2) ≤ (y4_2) ∧ (y4_2) ≤ (u4_2) + ((a2) - (a1)) + 4) → (QAP 70000 ((w23)) ((u4_2)) ((v23)) ((y4_2)) (tgl (sc ((w14)) ((a1)) ((a2))))) → Q none σ c s) : Ew 332 (d + 2) 0 (rargs 0 [.ref (D 4), I a1, I a2]) [] σ c s Q := by
  have r1 : (-2147483648 : Int) ≤ u4_2 ∧ u4_2 ≤ 2147483647 := rngE (show (-2147483648 : Int) ≤ F 4 2 ∧ F 4 2 ≤ 2147483647 from H.frng 4 2) (show F 4 2 = u4_2 from (eu4_2))
  refine Ew_of (pcₚ := 1) (fun _ => x_iload_n rfl rfl) ?_
  refine Ew_of (pcₚ := 2) (fun _ => x_iload_n rfl rfl) ?_
  refine w_isub rfl ?_
  refine Ew_of (pcₚ := 4) (fun _ => x_istore_n rfl) ?_
  refine Ew_of (pcₚ := 5) (fun _ => x_iload_n rfl rk_s) ?_
  refine w_ifne (t := 9) rfl rfl (show inr ((a2 - a1)) from q_614 h2) (fun b2 => ?_) (fun b2 => ?_)
  · have hc41 : ∀ (tc41_0 : Int), ∀ (ls : rO) (σ : rS) (F_c41 : hF) (A_c41 : hA) , rlook ls 0 = some (.ref (D 4)) → rlook ls 1 = some (I (a1)) → rlook ls 2 = some (I (a2)) → rlook ls 3 = some (I ((a2 - a1))) → HS σ0 σ D N F_c41 A_c41 → SF [] F F_c41 → SA [] A A_c41 → (inr (tc41_0)) → ((tc41_0) = 0 ∧ ((a2 - a1)) ≤ 60 ∨ (tc41_0) = 1 ∧ 60 < ((a2 - a1)) ∧ ((a2 - a1)) ≤ 256 ∨ (tc41_0) = 2 ∧ 256 < ((a2 - a1))) → Ew 332 (d + 2) 41 ls [I (tc41_0)] σ c s Q := by
     as_aux_lemma =>
      intro tc41_0 ls σ F_c41 A_c41  lc41_0 lc41_1 lc41_2 lc41_3 H hS_c41 hA_c41   jc41_0 jc41_1
      refine Ew_of (pcₚ := 43) (fun _ => x_istore rfl) ?_
      have hk4 : (tc41_0) = 0 ∧ ((a2 - a1)) ≤ 60 ∨ (tc41_0) = 1 ∧ 60 < ((a2 - a1)) ∧ ((a2 - a1)) ≤ 256 ∨ (tc41_0) = 2 ∧ 256 < ((a2 - a1)) := jc41_1
      refine Ew_of (pcₚ := 44) (fun _ => x_aload_n rfl (rk_o (lc41_0) rfl rfl)) ?_
      have hc64 : ∀ (tc64_0 : Int), ∀ (ls : rO) (σ : rS) (F_c64 : hF) (A_c64 : hA) , rlook ls 0 = some (.ref (D 4)) → rlook ls 1 = some (I (a1)) → rlook ls 2 = some (I (a2)) → rlook ls 3 = some (I ((a2 - a1))) → rlook ls 4 = some (I (tc41_0)) → HS σ0 σ D N F_c64 A_c64 → SF [] F_c41 F_c64 → SA [] A_c41 A_c64 → (inr (tc64_0)) → ((tc41_0) = 0 ∧ (tc64_0) = 4 * (((a2 - a1)) - 1) ∨ 1 ≤ (tc41_0) ∧ (tc64_0) = 4 * (59 + (tc41_0))) → (0 ≤ (tc64_0) ∧ (tc64_0) ≤ 1000) → Ew 332 (d + 2) 64 ls [I (tc64_0), .ref (D 4)] σ c s Q := by
       as_aux_lemma =>
        intro tc64_0 ls σ F_c64 A_c64  lc64_0 lc64_1 lc64_2 lc64_3 lc64_4 H hS_c64 hA_c64   jc64_0 jc64_1 jc64_2
        refine w_inv H (o := 4) rfl rfl rfl (H.perm 4 rfl) rfl rfl (by rfl) (M320 H (u4_2) ((((hS_c64 4 2 rfl).trans (hS_c41 4 2 rfl)).trans (eu4_2))) (w23) ((funext (hA_c64 23 rfl)).trans ((funext (hA_c41 23 rfl)).trans (ew23))) (show inr (tc64_0) from jc64_0) (show 0 ≤ (u4_2) ∧ (u4_2) ≤ 100000000 from q_929 h3 r1) (fun σ F3 A4 H hS5 hA6 y8 ey9 wv10 ewv11 pz7_0 pz7_1 pz7_2 => ⟨rfl, ?_⟩))
        have r12 : (-2147483648 : Int) ≤ y8 ∧ y8 ≤ 2147483647 := rngE (show (-2147483648 : Int) ≤ F3 4 2 ∧ F3 4 2 ≤ 2147483647 from H.frng 4 2) (show F3 4 2 = y8 from (ey9))
        have hp1 := pz7_1
        refine Ew_of (pcₚ := 68) (fun _ => x_aload_n rfl lc64_0) ?_
        refine Ew_of (pcₚ := 69) (fun _ => x_iload_n rfl lc64_3) ?_
        refine Ew_of (pcₚ := 70) (fun _ => x_iconst rfl) ?_
        refine w_isub rfl ?_
        refine Ew_of (pcₚ := 73) (fun _ => x_iload rfl lc64_4) ?_
        refine w_inv H (o := 4) rfl rfl rfl (H.perm 4 rfl) rfl rfl (by rfl) (M321 H (y8) ((ey9)) (wv10) (ewv11) (show inr (((a2 - a1) - 1)) from q_932 h2) (show inr (tc41_0) from jc41_0) (show 0 ≤ (tc41_0) ∧ (tc41_0) ≤ 4 from q_931 hk4 jc64_1 jc64_2) (show 0 ≤ (y8) ∧ (y8) ≤ 10000000 from q_930 h3 pz7_0 r12) (fun σ F13 A14 H hS15 hA16 y18 ey19 wv20 ewv21 pz17_0 pz17_1 pz17_2 => ⟨rfl, ?_⟩))
        have r22 : (-2147483648 : Int) ≤ y18 ∧ y18 ≤ 2147483647 := rngE (show (-2147483648 : Int) ≤ F13 4 2 ∧ F13 4 2 ≤ 2147483647 from H.frng 4 2) (show F13 4 2 = y18 from (ey19))
        have hp2 := pz17_1
        refine Ew_of (pcₚ := 77) (fun _ => x_iload_n rfl lc64_1) ?_
        refine Ew_of (pcₚ := 79) (fun _ => x_istore rfl) ?_
        have hq79 : QTO 70000 ((w23)) ((u4_2)) ((wv20)) ((y18)) (tgl (sc ((w14)) ((a1)) ((a2)))) (sc ((w14)) ((a1)) ((a2))) := QTO_s QTO_0 (tgl_s (by omega) (show ((a2 - a1)) = _ from rfl)) (by have h := QAP_trans hp1 hp2; rw [tgh_of (by omega) hk4 (by omega)] at h; exact h)
        suffices hl79 : ∀ (m : Nat), ∀ (ls : rO) (σ : rS) (F_79 : hF) (A_79 : hA) (x79_5 : Int), rlook ls 0 = some (.ref (D 4)) → rlook ls 2 = some (I (a2)) → rlook ls 5 = some (I (x79_5)) → HS σ0 σ D N F_79 A_79 → SF [(4, 2)] F13 F_79 → SA [23] A14 A_79 → ∀ y79_4_2 : Int, F_79 4 2 = y79_4_2 → ∀ w79_23 : Int → Int, A_79 23 = w79_23 → (inr (x79_5)) → ((a1) ≤ (x79_5)) → ((x79_5) ≤ (a1) ∨ (x79_5) ≤ ((a2))) → ((y79_4_2) = (y18) + ((x79_5) - (a1))) → (QTO 70000 ((w23)) ((u4_2)) ((w79_23)) ((y79_4_2)) (tgl (sc ((w14)) ((a1)) ((a2)))) (sc ((w14)) ((x79_5)) ((a2)))) → (((a2)) - (x79_5)).toNat = m → Ew 332 (d + 2) 79 ls [] σ c s Q from
          hl79 _ _ σ _ _ (a1) (rk_o (lc64_0) rfl rfl) (rk_o (lc64_2) rfl rfl) (rk_s) H (SF_refl) (SA_refl) (y18) ((ey19)) (wv20) (ewv21) (show inr (a1) from h0) (show (a1) ≤ (a1) from q_43) (show (a1) ≤ (a1) ∨ (a1) ≤ ((a2)) from q_156) (show (y18) = (y18) + ((a1) - (a1)) from q_446) (hq79) rfl
        as_aux_lemma =>
        intro m
        induction m using Nat.strongRecOn with
        | _ m ih79 =>
          intro ls σ F_79 A_79 x79_5 l79_0 l79_2 l79_5 H hS_79 hA_79 y79_4_2 ey79_4_2 w79_23 ew79_23 j79_0 j79_1 j79_2 j79_3 j79_4 hm79
          have r23 : (-2147483648 : Int) ≤ y79_4_2 ∧ y79_4_2 ≤ 2147483647 := rngE (show (-2147483648 : Int) ≤ F_79 4 2 ∧ F_79 4 2 ≤ 2147483647 from H.frng 4 2) (show F_79 4 2 = y79_4_2 from (ey79_4_2))
          have j79_q : QTO 70000 ((w23)) ((u4_2)) ((w79_23)) ((y79_4_2)) (tgl (sc ((w14)) ((a1)) ((a2)))) (sc ((w14)) ((x79_5)) ((a2))) := j79_4
          refine Ew_of (pcₚ := 81) (fun _ => x_iload rfl l79_5) ?_
          refine Ew_of (pcₚ := 82) (fun _ => x_iload_n rfl l79_2) ?_
          refine w_icmpge (t := 105) rfl rfl (show inr (x79_5) from j79_0) (show inr (a2) from h1) (fun b24 => ?_) (fun b24 => ?_)
          · have : QAP 70000 ((w23)) ((u4_2)) ((w79_23)) ((y79_4_2)) (tgl (sc ((w14)) ((a1)) ((a2)))) := QTO_z (by have h := j79_q; rw [sc_nil (a := (x79_5)) (by omega)] at h; exact h)
            exact w_ret rfl (k σ _ _ H (SF_trans (SF_trans (SF_trans (SF_trans (SF_trans (SF_refl) hS_c41 (any_sub rfl)) hS_c64 (any_sub rfl)) hS5 (any_sub rfl)) hS15 (any_sub rfl)) hS_79 (any_sub rfl)) (SA_trans (SA_trans (SA_trans (SA_trans (SA_trans (SA_refl) hA_c41 (any_subA rfl)) hA_c64 (any_subA rfl)) hA6 (any_subA rfl)) hA16 (any_subA rfl)) hA_79 (any_subA rfl)) (y79_4_2) ((ey79_4_2)) (w79_23) (ew79_23) (show (u4_2) ≤ (y79_4_2) ∧ (y79_4_2) ≤ (u4_2) + (a2 - a1) + 4 by omega) (show QAP 70000 ((w23)) ((u4_2)) ((w79_23)) ((y79_4_2)) (tgl (sc ((w14)) (a1) (a2))) by assumption))
          · refine Ew_of (pcₚ := 86) (fun _ => x_aload_n rfl l79_0) ?_
            refine Ew_of (pcₚ := 87) (fun _ => x_aload_n rfl l79_0) ?_
            refine w_gT H (o := 4) (t := 1) rfl (H.perm 4 rfl) rfl rfl rfl rfl rfl rfl ?_
            refine w_gT H (o := 1) (t := 14) rfl (H.perm 1 rfl) rfl rfl rfl rfl rfl rfl ?_
            refine Ew_of (pcₚ := 95) (fun _ => x_iload rfl l79_5) ?_
            refine w_lI H (o := 14) (n := 65536) rfl (H.perm 14 rfl) rfl rfl (H.fix 14 rfl rfl) (show 0 ≤ x79_5 ∧ x79_5 < ((65536 : Nat) : Int) from q_874 b24 h2 j79_1) (by decide) (fun v25 ev25 qv25 => ?_)
            have qv25 : (0 : Int) ≤ v25 ∧ v25 ≤ 255 := qv25
            have ev25 : (w14) (x79_5) = v25 := (congrFun ((funext (hA_79 14 rfl)).trans ((funext (hA16 14 rfl)).trans ((funext (hA6 14 rfl)).trans ((funext (hA_c64 14 rfl)).trans ((funext (hA_c41 14 rfl)).trans (ew14)))))) (x79_5)).symm.trans ev25
            have hv := ev25
            refine w_inv H (o := 4) rfl rfl rfl (H.perm 4 rfl) rfl rfl (by rfl) (M320 H (y79_4_2) ((ey79_4_2)) (w79_23) (ew79_23) (show inr (v25) from q_299 qv25) (show 0 ≤ (y79_4_2) ∧ (y79_4_2) ≤ 100000000 by omega) (fun σ F26 A27 H hS28 hA29 y31 ey32 wv33 ewv34 pz30_0 pz30_1 pz30_2 => ⟨rfl, ?_⟩))
            have r35 : (-2147483648 : Int) ≤ y31 ∧ y31 ≤ 2147483647 := rngE (show (-2147483648 : Int) ≤ F26 4 2 ∧ F26 4 2 ≤ 2147483647 from H.frng 4 2) (show F26 4 2 = y31 from (ey32))
            have hp3 := pz30_1
            refine Ew_of (pcₚ := 102) (fun _ => x_iinc (len := 3) rfl (l79_5)) ?_
            refine Ew_of (pcₚ := 79) (fun _ => x_goto rfl rfl) ?_
            have : QTO 70000 ((w23)) ((u4_2)) ((wv33)) ((y31)) (tgl (sc ((w14)) ((a1)) ((a2)))) (sc ((w14)) (((x79_5 + 1))) ((a2))) := QTO_s j79_q (by rw [sc_cons (by omega), hv]; rfl) hp3
            exact ih79 _ (msE hm79 q_16 (q_17 b24)) _ σ _ _ ((x79_5 + 1)) (rk_o (l79_0) rfl rfl) (rk_o (l79_2) rfl rfl) (rk_s) H (SF_trans (hS_79) hS28 (any_sub rfl)) (SA_trans (hA_79) hA29 (any_subA rfl)) (y31) ((ey32)) (wv33) (ewv34) (show inr ((x79_5 + 1)) from q_361 b24 h2 j79_0) (show (a1) ≤ ((x79_5 + 1)) from q_161 j79_1) (show ((x79_5 + 1)) ≤ (a1) ∨ ((x79_5 + 1)) ≤ ((a2)) from q_160 b24) (show (y31) = (y18) + (((x79_5 + 1)) - (a1)) from q_469 j79_3 pz30_0) (show QTO 70000 ((w23)) ((u4_2)) ((wv33)) ((y31)) (tgl (sc ((w14)) ((a1)) ((a2)))) (sc ((w14)) (((x79_5 + 1))) ((a2))) by assumption) rfl
      refine Ew_of (pcₚ := 46) (fun _ => x_iload rfl rk_s) ?_
      refine w_ifne (t := 57) rfl rfl (show inr (tc41_0) from jc41_0) (fun b36 => ?_) (fun b36 => ?_)
      · refine Ew_of (pcₚ := 58) (fun _ => x_iconst rfl) ?_
        refine Ew_of (pcₚ := 60) (fun _ => x_bipush (z := 59) rfl (by decide)) ?_
        refine Ew_of (pcₚ := 62) (fun _ => x_iload rfl rk_s) ?_
        refine w_iadd rfl ?_
        refine w_imul rfl ?_
        exact hc64 ((4 * (59 + tc41_0))) _ σ _ _  (rk_o (lc41_0) rfl rfl) (rk_o (lc41_1) rfl rfl) (rk_o (lc41_2) rfl rfl) (rk_o (lc41_3) rfl rfl) (rk_s) H (SF_refl) (SA_refl)   (show inr ((4 * (59 + tc41_0))) from q_934 hk4) (show (tc41_0) = 0 ∧ ((4 * (59 + tc41_0))) = 4 * (((a2 - a1)) - 1) ∨ 1 ≤ (tc41_0) ∧ ((4 * (59 + tc41_0))) = 4 * (59 + (tc41_0)) by omega) (show 0 ≤ ((4 * (59 + tc41_0))) ∧ ((4 * (59 + tc41_0))) ≤ 1000 from q_933 hk4)
      · refine Ew_of (pcₚ := 50) (fun _ => x_iconst rfl) ?_
        refine Ew_of (pcₚ := 51) (fun _ => x_iload_n rfl (rk_o (lc41_3) rfl rfl)) ?_
        refine Ew_of (pcₚ := 52) (fun _ => x_iconst rfl) ?_
        refine w_isub rfl ?_
        refine w_imul rfl ?_
        refine Ew_of (pcₚ := 64) (fun _ => x_goto rfl rfl) ?_
        exact hc64 ((4 * ((a2 - a1) - 1))) _ σ _ _  (rk_o (lc41_0) rfl rfl) (rk_o (lc41_1) rfl rfl) (rk_o (lc41_2) rfl rfl) (rk_o (lc41_3) rfl rfl) (rk_s) H (SF_refl) (SA_refl)   (show inr ((4 * ((a2 - a1) - 1))) from q_936 h2) (show (tc41_0) = 0 ∧ ((4 * ((a2 - a1) - 1))) = 4 * (((a2 - a1)) - 1) ∨ 1 ≤ (tc41_0) ∧ ((4 * ((a2 - a1) - 1))) = 4 * (59 + (tc41_0)) from q_935 b36) (show 0 ≤ ((4 * ((a2 - a1) - 1))) ∧ ((4 * ((a2 - a1) - 1))) ≤ 1000 by omega)
    refine Ew_of (pcₚ := 10) (fun _ => x_iload_n rfl rk_s) ?_
    refine Ew_of (pcₚ := 12) (fun _ => x_bipush (z := 60) rfl (by decide)) ?_
    refine w_icmpgt (t := 19) rfl rfl (show inr ((a2 - a1)) from q_614 h2) (show inr (60) from q_937) (fun b37 => ?_) (fun b37 => ?_)
    · refine Ew_of (pcₚ := 20) (fun _ => x_iload_n rfl rk_s) ?_
      refine Ew_of (pcₚ := 23) (fun _ => x_sipush (z := 256) rfl (by decide)) ?_
      refine w_icmpgt (t := 30) rfl rfl (show inr ((a2 - a1)) from q_938 b37 h2) (show inr (256) from q_3) (fun b38 => ?_) (fun b38 => ?_)
      · refine Ew_of (pcₚ := 31) (fun _ => x_iload_n rfl rk_s) ?_
        refine Ew_of (pcₚ := 33) (fun _ => x_ldc (z := 65536) rfl (by decide)) ?_
        refine w_icmpgt (t := 40) rfl rfl (show inr ((a2 - a1)) from q_939 b38 h2) (show inr (65536) from q_52) (fun b39 => ?_) (fun b39 => ?_)
        · refine Ew_of (pcₚ := 41) (fun _ => x_iconst rfl) ?_
          exact hc41 (3) _ σ _ _  (rk_o (rfl) rfl rfl) (rk_o (rfl) rfl rfl) (rk_o (rfl) rfl rfl) (rk_s) H (SF_refl) (SA_refl)   (show inr (3) from q_246) (show (3) = 0 ∧ ((a2 - a1)) ≤ 60 ∨ (3) = 1 ∧ 60 < ((a2 - a1)) ∧ ((a2 - a1)) ≤ 256 ∨ (3) = 2 ∧ 256 < ((a2 - a1)) by omega)
        · refine Ew_of (pcₚ := 37) (fun _ => x_iconst rfl) ?_
          refine Ew_of (pcₚ := 41) (fun _ => x_goto rfl rfl) ?_
          exact hc41 (2) _ σ _ _  (rk_o (rfl) rfl rfl) (rk_o (rfl) rfl rfl) (rk_o (rfl) rfl rfl) (rk_s) H (SF_refl) (SA_refl)   (show inr (2) from q_122) (show (2) = 0 ∧ ((a2 - a1)) ≤ 60 ∨ (2) = 1 ∧ 60 < ((a2 - a1)) ∧ ((a2 - a1)) ≤ 256 ∨ (2) = 2 ∧ 256 < ((a2 - a1)) from q_940 b38)
      · refine Ew_of (pcₚ := 27) (fun _ => x_iconst rfl) ?_
        refine Ew_of (pcₚ := 41) (fun _ => x_goto rfl rfl) ?_
        exact hc41 (1) _ σ _ _  (rk_o (rfl) rfl rfl) (rk_o (rfl) rfl rfl) (rk_o (rfl) rfl rfl) (rk_s) H (SF_refl) (SA_refl)   (show inr (1) from q_135) (show (1) = 0 ∧ ((a2 - a1)) ≤ 60 ∨ (1) = 1 ∧ 60 < ((a2 - a1)) ∧ ((a2 - a1)) ≤ 256 ∨ (1) = 2 ∧ 256 < ((a2 - a1)) from q_941 b37 b38)
    · refine Ew_of (pcₚ := 16) (fun _ => x_iconst rfl) ?_
      refine Ew_of (pcₚ := 41) (fun _ => x_goto rfl rfl) ?_
      exact hc41 (0) _ σ _ _  (rk_o (rfl) rfl rfl) (rk_o (rfl) rfl rfl) (rk_o (rfl) rfl rfl) (rk_s) H (SF_refl) (SA_refl)   (show inr (0) from q_2) (show (0) = 0 ∧ ((a2 - a1)) ≤ 60 ∨ (0) = 1 ∧ 60 < ((a2 - a1)) ∧ ((a2 - a1)) ≤ 256 ∨ (0) = 2 ∧ 256 < ((a2 - a1)) from q_942 b37)
  · have : QAP 70000 ((w23)) ((u4_2)) ((w23)) ((u4_2)) (tgl (sc ((w14)) ((a1)) ((a2)))) := by rw [sc_nil (b := (a2)) (by omega), tgl_0]; exact QAP_refl
    exact w_ret rfl (k σ _ _ H (SF_refl) (SA_refl) (u4_2) ((eu4_2)) (w23) (ew23) (show (u4_2) ≤ (u4_2) ∧ (u4_2) ≤ (u4_2) + (a2 - a1) + 4 from q_943 b2) (show QAP 70000 ((w23)) ((u4_2)) ((w23)) ((u4_2)) (tgl (sc ((w14)) (a1) (a2))) by assumption))

theorem M333 {σ0 σ : rS} {D N : Nat → Nat} {F : hF} {A : hA} {d c s : Nat} {Q : wQ} (H : HS σ0 σ D N F A) {a1 a2 a3 : Int} (u4_2 : Int) (eu4_2 : F 4 2 = u4_2) (u4_5 : Int) (eu4_5 : F 4 5 = u4_5) (w14 : Int → Int) (ew14 : A 14 = w14) (w23 : Int → Int) (ew23 : A 23 = w23) (w24 : Int → Int) (ew24 : A 24 = w24) (w25 : Int → Int) (ew25 : A 25 = w25) (h0 : inr (a1)) (h1 : inr (a2)) (h2 : inr (a3)) (h3 : 0 ≤ (a1) ∧ (a1) ≤ (a2) ∧ (a2) ≤ 16384) (h4 : 0 ≤ (a3) ∧ (a3) ≤ 3) (h5 : 0 ≤ (u4_2) ∧ (u4_2) ≤ 8000000) (h6 : KQ bN ((w24)) ((u4_5))) (h7 : KQ bF ((w25)) ((u4_5))) (k : ∀ σ Fₚ Aₚ, HS σ0 σ D N Fₚ Aₚ → SF [(4, 2), (4, 5), (4, 6), (4, 7)] F Fₚ → SA [23, 24, 25] A Aₚ → ∀ y4_2 : Int, Fₚ 4 2 = y4_2 → ∀ y4_5 : Int, Fₚ 4 5 = y4_5 → ∀ v23 : Int → Int, Aₚ 23 = v23 → ∀ v24 : Int → Int, Aₚ 24 = v24 → ∀ v25 : Int → Int, Aₚ 25 = v25 → (KQ bN ((v24)) ((y4_5))) → (KQ bF ((v25)) ((y4_5))) → ((u4_2) ≤ (y4_2) ∧ (y4_2) ≤ (u4_2) + 10 * ((a2) - (a1)) + 20) → (TGW 70000 (MTL (shf ((w14)) ((a1))) ((a2) - (a1)) 65535 4 ((a3)) ((a2) - (a1) - 4)) (shf ((w14)) ((a1))) ((a2) - (a1)) ((w23)) ((u4_2)) ((v23)) ((y4_2))) → Q none σ c s) : Ew 333 (d + 4) 0 (rargs 0 [.ref (D 4), I a1, I a2, I a3]) [] σ c s Q := by
  have r1 : (-2147483648 : Int) ≤ u4_2 ∧ u4_2 ≤ 2147483647 := rngE (show (-2147483648 : Int) ≤ F 4 2 ∧ F 4 2 ≤ 2147483647 from H.frng 4 2) (show F 4 2 = u4_2 from (eu4_2))
  have r2 : (0 : Int) ≤ u4_5 ∧ u4_5 ≤ 16384 := rngE (show (0 : Int) ≤ F 4 5 ∧ F 4 5 ≤ 16384 from H.frng 4 5) (show F 4 5 = u4_5 from (eu4_5))
  refine Ew_of (pcₚ := 1) (fun _ => x_iload_n rfl rfl) ?_
  refine Ew_of (pcₚ := 2) (fun _ => x_iload_n rfl rfl) ?_
  refine w_isub rfl ?_
  refine Ew_of (pcₚ := 5) (fun _ => x_istore rfl) ?_
  have : QTO 70000 ((w23)) ((u4_2)) ((w23)) ((u4_2)) (vlr ((a2) - (a1))) (vlr ((a2) - (a1))) := QTO_0
  suffices hl5 : ∀ (m : Nat), ∀ (ls : rO) (σ : rS) (F_5 : hF) (A_5 : hA) (x5_4 : Int), rlook ls 0 = some (.ref (D 4)) → rlook ls 1 = some (I (a1)) → rlook ls 2 = some (I (a2)) → rlook ls 3 = some (I (a3)) → rlook ls 4 = some (I (x5_4)) → HS σ0 σ D N F_5 A_5 → SF [(4, 2)] F F_5 → SA [23] A A_5 → ∀ y5_4_2 : Int, F_5 4 2 = y5_4_2 → ∀ w5_23 : Int → Int, A_5 23 = w5_23 → (inr (x5_4)) → (0 ≤ (x5_4) ∧ (x5_4) ≤ (a2) - (a1)) → ((u4_2) ≤ (y5_4_2)) → ((x5_4) ≤ 16384 ∧ (y5_4_2) = (u4_2) ∨ (x5_4) ≤ 128 ∧ (y5_4_2) ≤ (u4_2) + 1 ∨ (x5_4) ≤ 1 ∧ (y5_4_2) ≤ (u4_2) + 2) → (QTO 70000 ((w23)) ((u4_2)) ((w5_23)) ((y5_4_2)) (vlr ((a2) - (a1))) (vlr ((x5_4)))) → ((x5_4)).toNat = m → Ew 333 (d + 4) 5 ls [] σ c s Q from
    hl5 _ _ σ _ _ ((a2 - a1)) (rk_o (rfl) rfl rfl) (rk_o (rfl) rfl rfl) (rk_o (rfl) rfl rfl) (rk_o (rfl) rfl rfl) (rk_s) H (SF_refl) (SA_refl) (u4_2) ((eu4_2)) (w23) (ew23) (show inr ((a2 - a1)) from q_456 h3) (show 0 ≤ ((a2 - a1)) ∧ ((a2 - a1)) ≤ (a2) - (a1) from q_945 h3) (show (u4_2) ≤ (u4_2) from q_43) (show ((a2 - a1)) ≤ 16384 ∧ (u4_2) = (u4_2) ∨ ((a2 - a1)) ≤ 128 ∧ (u4_2) ≤ (u4_2) + 1 ∨ ((a2 - a1)) ≤ 1 ∧ (u4_2) ≤ (u4_2) + 2 from q_944 h3) (show QTO 70000 ((w23)) ((u4_2)) ((w23)) ((u4_2)) (vlr ((a2) - (a1))) (vlr (((a2 - a1)))) by assumption) rfl
  as_aux_lemma =>
  intro m
  induction m using Nat.strongRecOn with
  | _ m ih5 =>
    intro ls σ F_5 A_5 x5_4 l5_0 l5_1 l5_2 l5_3 l5_4 H hS_5 hA_5 y5_4_2 ey5_4_2 w5_23 ew5_23 j5_0 j5_1 j5_2 j5_3 j5_4 hm5
    have r3 : (-2147483648 : Int) ≤ y5_4_2 ∧ y5_4_2 ≤ 2147483647 := rngE (show (-2147483648 : Int) ≤ F_5 4 2 ∧ F_5 4 2 ≤ 2147483647 from H.frng 4 2) (show F_5 4 2 = y5_4_2 from (ey5_4_2))
    have j5_q : QTO 70000 ((w23)) ((u4_2)) ((w5_23)) ((y5_4_2)) (vlr ((a2) - (a1))) (vlr ((x5_4))) := j5_4
    refine Ew_of (pcₚ := 7) (fun _ => x_iload rfl l5_4) ?_
    refine Ew_of (pcₚ := 10) (fun _ => x_sipush (z := 128) rfl (by decide)) ?_
    refine w_icmplt (t := 38) rfl rfl (show inr (x5_4) from j5_0) (show inr (128) from q_313) (fun b4 => ?_) (fun b4 => ?_)
    · refine Ew_of (pcₚ := 39) (fun _ => x_aload_n rfl l5_0) ?_
      refine Ew_of (pcₚ := 41) (fun _ => x_iload rfl l5_4) ?_
      refine w_inv H (o := 4) rfl rfl rfl (H.perm 4 rfl) rfl rfl (by rfl) (M320 H (y5_4_2) ((ey5_4_2)) (w5_23) (ew5_23) (show inr (x5_4) from j5_0) (show 0 ≤ (y5_4_2) ∧ (y5_4_2) ≤ 100000000 from q_946 h5 j5_2 j5_3 r3) (fun σ F5 A6 H hS7 hA8 y10 ey11 wv12 ewv13 pz9_0 pz9_1 pz9_2 => ⟨rfl, ?_⟩))
      have r14 : (-2147483648 : Int) ≤ y10 ∧ y10 ≤ 2147483647 := rngE (show (-2147483648 : Int) ≤ F5 4 2 ∧ F5 4 2 ≤ 2147483647 from H.frng 4 2) (show F5 4 2 = y10 from (ey11))
      refine Ew_of (pcₚ := 45) (fun _ => x_iload_n rfl l5_1) ?_
      refine Ew_of (pcₚ := 47) (fun _ => x_istore rfl) ?_
      refine Ew_of (pcₚ := 48) (fun _ => x_iload_n rfl (rk_o (l5_1) rfl rfl)) ?_
      refine Ew_of (pcₚ := 50) (fun _ => x_istore rfl) ?_
      have : TGI 70000 (MTL (shf ((w14)) ((a1))) ((a2) - (a1)) 65535 4 ((a3)) ((a2) - (a1) - 4)) (shf ((w14)) ((a1))) ((a2) - (a1)) ((a1) - (a1)) ((a1) - (a1)) ((w23)) ((u4_2)) ((wv12)) ((y10)) := TGI_0 (QTO_e j5_q (by rw [vlr_0 (n := (x5_4)) (by omega)]; have h := pz9_1; rw [u8_id (by omega)] at h; exact h)) (by omega) (by omega)
      suffices hl50 : ∀ (m : Nat), ∀ (ls : rO) (σ : rS) (F_50 : hF) (A_50 : hA) (x50_5 : Int) (x50_6 : Int), rlook ls 0 = some (.ref (D 4)) → rlook ls 1 = some (I (a1)) → rlook ls 2 = some (I (a2)) → rlook ls 3 = some (I (a3)) → rlook ls 5 = some (I (x50_5)) → rlook ls 6 = some (I (x50_6)) → HS σ0 σ D N F_50 A_50 → SF [(4, 2), (4, 5), (4, 6), (4, 7)] F5 F_50 → SA [23, 24, 25] A6 A_50 → ∀ y50_4_2 : Int, F_50 4 2 = y50_4_2 → ∀ y50_4_5 : Int, F_50 4 5 = y50_4_5 → ∀ w50_23 : Int → Int, A_50 23 = w50_23 → ∀ w50_24 : Int → Int, A_50 24 = w50_24 → ∀ w50_25 : Int → Int, A_50 25 = w50_25 → (inr (x50_5)) → (inr (x50_6)) → ((a1) ≤ (x50_5) ∧ (x50_5) ≤ (x50_6) ∧ (x50_6) ≤ (a2)) → ((u4_2) ≤ (y50_4_2) ∧ (y50_4_2) ≤ (u4_2) + 10 * ((x50_5) - (a1)) + 5) → (TGI 70000 (MTL (shf ((w14)) ((a1))) ((a2) - (a1)) 65535 4 ((a3)) ((a2) - (a1) - 4)) (shf ((w14)) ((a1))) ((a2) - (a1)) ((x50_6) - (a1)) ((x50_5) - (a1)) ((w23)) ((u4_2)) ((w50_23)) ((y50_4_2))) → (KQ bN ((w50_24)) ((y50_4_5))) → (KQ bF ((w50_25)) ((y50_4_5))) → ((a2) - (x50_6)).toNat = m → Ew 333 (d + 4) 50 ls [] σ c s Q from
        hl50 _ _ σ _ _ (a1) (a1) (rk_o (rk_o (l5_0) rfl rfl) rfl rfl) (rk_o (rk_o (l5_1) rfl rfl) rfl rfl) (rk_o (rk_o (l5_2) rfl rfl) rfl rfl) (rk_o (rk_o (l5_3) rfl rfl) rfl rfl) (rk_o (rk_s) rfl rfl) (rk_s) H (SF_refl) (SA_refl) (y10) ((ey11)) (u4_5) ((((hS7 4 5 rfl).trans (hS_5 4 5 rfl)).trans (eu4_5))) (wv12) (ewv13) (w24) ((funext (hA8 24 rfl)).trans ((funext (hA_5 24 rfl)).trans (ew24))) (w25) ((funext (hA8 25 rfl)).trans ((funext (hA_5 25 rfl)).trans (ew25))) (show inr (a1) from h0) (show inr (a1) from h0) (show (a1) ≤ (a1) ∧ (a1) ≤ (a1) ∧ (a1) ≤ (a2) from q_948 h3) (show (u4_2) ≤ (y10) ∧ (y10) ≤ (u4_2) + 10 * ((a1) - (a1)) + 5 from q_947 j5_2 j5_3 pz9_0) (show TGI 70000 (MTL (shf ((w14)) ((a1))) ((a2) - (a1)) 65535 4 ((a3)) ((a2) - (a1) - 4)) (shf ((w14)) ((a1))) ((a2) - (a1)) ((a1) - (a1)) ((a1) - (a1)) ((w23)) ((u4_2)) ((wv12)) ((y10)) by assumption) (h6) (show KQ bF ((w25)) ((u4_5)) by assumption) rfl
      as_aux_lemma =>
      intro m
      induction m using Nat.strongRecOn with
      | _ m ih50 =>
        intro ls σ F_50 A_50 x50_5 x50_6 l50_0 l50_1 l50_2 l50_3 l50_5 l50_6 H hS_50 hA_50 y50_4_2 ey50_4_2 y50_4_5 ey50_4_5 w50_23 ew50_23 w50_24 ew50_24 w50_25 ew50_25 j50_0 j50_1 j50_2 j50_3 j50_4 j50_5 j50_6 hm50
        have r15 : (-2147483648 : Int) ≤ y50_4_2 ∧ y50_4_2 ≤ 2147483647 := rngE (show (-2147483648 : Int) ≤ F_50 4 2 ∧ F_50 4 2 ≤ 2147483647 from H.frng 4 2) (show F_50 4 2 = y50_4_2 from (ey50_4_2))
        have r16 : (0 : Int) ≤ y50_4_5 ∧ y50_4_5 ≤ 16384 := rngE (show (0 : Int) ≤ F_50 4 5 ∧ F_50 4 5 ≤ 16384 from H.frng 4 5) (show F_50 4 5 = y50_4_5 from (ey50_4_5))
        have j50_q : TGI 70000 (MTL (shf ((w14)) ((a1))) ((a2) - (a1)) 65535 4 ((a3)) ((a2) - (a1) - 4)) (shf ((w14)) ((a1))) ((a2) - (a1)) ((x50_6) - (a1)) ((x50_5) - (a1)) ((w23)) ((u4_2)) ((w50_23)) ((y50_4_2)) := j50_4
        refine Ew_of (pcₚ := 52) (fun _ => x_iload rfl l50_6) ?_
        refine Ew_of (pcₚ := 53) (fun _ => x_iload_n rfl l50_2) ?_
        refine w_icmpge (t := 119) rfl rfl (show inr (x50_6) from j50_1) (show inr (a2) from h1) (fun b17 => ?_) (fun b17 => ?_)
        · refine Ew_of (pcₚ := 120) (fun _ => x_aload_n rfl l50_0) ?_
          refine Ew_of (pcₚ := 122) (fun _ => x_iload rfl l50_5) ?_
          refine Ew_of (pcₚ := 123) (fun _ => x_iload_n rfl l50_2) ?_
          refine w_inv H (o := 4) rfl rfl rfl (H.perm 4 rfl) rfl rfl (by rfl) (M332 H (y50_4_2) ((ey50_4_2)) (w14) ((funext (hA_50 14 rfl)).trans ((funext (hA8 14 rfl)).trans ((funext (hA_5 14 rfl)).trans (ew14)))) (w50_23) (ew50_23) (show inr (x50_5) from j50_0) (show inr (a2) from h1) (show 0 ≤ (x50_5) ∧ (x50_5) ≤ (a2) ∧ (a2) ≤ 65536 from q_949 h3 j50_2) (show 0 ≤ (y50_4_2) ∧ (y50_4_2) ≤ 9000000 by omega) (fun σ F18 A19 H hS20 hA21 y23 ey24 wv25 ewv26 pz22_0 pz22_1 => ⟨rfl, ?_⟩))
          have r27 : (-2147483648 : Int) ≤ y23 ∧ y23 ≤ 2147483647 := rngE (show (-2147483648 : Int) ≤ F18 4 2 ∧ F18 4 2 ≤ 2147483647 from H.frng 4 2) (show F18 4 2 = y23 from (ey24))
          have : TGW 70000 (MTL (shf ((w14)) ((a1))) ((a2) - (a1)) 65535 4 ((a3)) ((a2) - (a1) - 4)) (shf ((w14)) ((a1))) ((a2) - (a1)) ((w23)) ((u4_2)) ((wv25)) ((y23)) := TGI_end j50_q (by omega) (by rw [sc_shf, show (a1) + ((x50_5) - (a1)) = (x50_5) by omega, show (a1) + ((a2) - (a1)) = (a2) by omega]) pz22_1
          exact w_ret rfl (k σ _ _ H (SF_trans (SF_trans (SF_trans (SF_trans (SF_refl) hS_5 (any_sub rfl)) hS7 (any_sub rfl)) hS_50 (any_sub rfl)) hS20 (any_sub rfl)) (SA_trans (SA_trans (SA_trans (SA_trans (SA_refl) hA_5 (any_subA rfl)) hA8 (any_subA rfl)) hA_50 (any_subA rfl)) hA21 (any_subA rfl)) (y23) ((ey24)) (y50_4_5) (((hS20 4 5 rfl).trans (ey50_4_5))) (wv25) (ewv26) (w50_24) ((funext (hA21 24 rfl)).trans (ew50_24)) (w50_25) ((funext (hA21 25 rfl)).trans (ew50_25)) (j50_5) (j50_6) (show (u4_2) ≤ (y23) ∧ (y23) ≤ (u4_2) + 10 * (a2 - a1) + 20 from q_950 j50_2 j50_3 pz22_0) (show TGW 70000 (MTL (shf ((w14)) (a1)) (a2 - a1) 65535 4 (a3) (a2 - a1 - 4)) (shf ((w14)) (a1)) (a2 - a1) ((w23)) ((u4_2)) ((wv25)) ((y23)) by assumption))
        · refine Ew_of (pcₚ := 57) (fun _ => x_aload_n rfl l50_0) ?_
          refine Ew_of (pcₚ := 58) (fun _ => x_iload_n rfl l50_1) ?_
          refine Ew_of (pcₚ := 60) (fun _ => x_iload rfl l50_6) ?_
          refine Ew_of (pcₚ := 61) (fun _ => x_iload_n rfl l50_2) ?_
          refine Ew_of (pcₚ := 62) (fun _ => x_iload_n rfl l50_3) ?_
          refine w_inv H (o := 4) rfl rfl rfl (H.perm 4 rfl) rfl rfl (by rfl) (M326 H (w14) ((funext (hA_50 14 rfl)).trans ((funext (hA8 14 rfl)).trans ((funext (hA_5 14 rfl)).trans (ew14)))) (show inr (a1) from h0) (show inr (x50_6) from j50_1) (show inr (a2) from h1) (show inr (a3) from h2) (show 0 ≤ (a1) ∧ (a1) ≤ (x50_6) ∧ (x50_6) < (a2) ∧ (a2) ≤ 16384 from q_951 b17 h3 j50_2) (show 0 ≤ (a3) ∧ (a3) ≤ 3 from h4) (fun σ F28 A29 H hS30 hA31 y33 ey34 y35 ey36 pz32_0 pz32_1 => ⟨rfl, ?_⟩))
          have r37 : (0 : Int) ≤ y33 ∧ y33 ≤ 65536 := rngE (show (0 : Int) ≤ F28 4 6 ∧ F28 4 6 ≤ 65536 from H.frng 4 6) (show F28 4 6 = y33 from (ey34))
          have r38 : (0 : Int) ≤ y35 ∧ y35 ≤ 65536 := rngE (show (0 : Int) ≤ F28 4 7 ∧ F28 4 7 ≤ 65536 from H.frng 4 7) (show F28 4 7 = y35 from (ey36))
          have hmt := pz32_1
          refine Ew_of (pcₚ := 66) (fun _ => x_aload_n rfl l50_0) ?_
          refine w_gI H (o := 4) (w := y35) rfl (H.perm 4 rfl) rfl rfl rfl (fun _ => rfl) (ey36) ?_
          refine w_ifne (t := 78) rfl rfl (show inr (y35) from q_286 r38) (fun b39 => ?_) (fun b39 => ?_)
          · refine Ew_of (pcₚ := 79) (fun _ => x_aload_n rfl l50_0) ?_
            refine Ew_of (pcₚ := 81) (fun _ => x_iload rfl l50_5) ?_
            refine Ew_of (pcₚ := 83) (fun _ => x_iload rfl l50_6) ?_
            refine w_inv H (o := 4) rfl rfl rfl (H.perm 4 rfl) rfl rfl (by rfl) (M332 H (y50_4_2) (((hS30 4 2 rfl).trans (ey50_4_2))) (w14) ((funext (hA31 14 rfl)).trans ((funext (hA_50 14 rfl)).trans ((funext (hA8 14 rfl)).trans ((funext (hA_5 14 rfl)).trans (ew14))))) (w50_23) ((funext (hA31 23 rfl)).trans (ew50_23)) (show inr (x50_5) from j50_0) (show inr (x50_6) from j50_1) (show 0 ≤ (x50_5) ∧ (x50_5) ≤ (x50_6) ∧ (x50_6) ≤ 65536 from q_952 b17 h3 j50_2) (show 0 ≤ (y50_4_2) ∧ (y50_4_2) ≤ 9000000 by omega) (fun σ F40 A41 H hS42 hA43 y45 ey46 wv47 ewv48 pz44_0 pz44_1 => ⟨rfl, ?_⟩))
            have r49 : (-2147483648 : Int) ≤ y45 ∧ y45 ≤ 2147483647 := rngE (show (-2147483648 : Int) ≤ F40 4 2 ∧ F40 4 2 ≤ 2147483647 from H.frng 4 2) (show F40 4 2 = y45 from (ey46))
            have hl1 := pz44_1
            refine Ew_of (pcₚ := 87) (fun _ => x_aload_n rfl l50_0) ?_
            refine w_gI H (o := 4) (w := y35) rfl (H.perm 4 rfl) rfl rfl rfl (fun _ => rfl) ((hS42 4 7 rfl).trans (ey36)) ?_
            refine Ew_of (pcₚ := 92) (fun _ => x_istore rfl) ?_
            refine Ew_of (pcₚ := 93) (fun _ => x_aload_n rfl (rk_o (l50_0) rfl rfl)) ?_
            refine Ew_of (pcₚ := 95) (fun _ => x_iload rfl rk_s) ?_
            refine Ew_of (pcₚ := 97) (fun _ => x_iload rfl (rk_o (l50_6) rfl rfl)) ?_
            refine Ew_of (pcₚ := 98) (fun _ => x_aload_n rfl (rk_o (l50_0) rfl rfl)) ?_
            refine w_gI H (o := 4) (w := y33) rfl (H.perm 4 rfl) rfl rfl rfl (fun _ => rfl) ((hS42 4 6 rfl).trans (ey34)) ?_
            refine w_isub rfl ?_
            refine w_inv H (o := 4) rfl rfl rfl (H.perm 4 rfl) rfl rfl (by rfl) (M331 H (y45) ((ey46)) (y50_4_5) ((((hS42 4 5 rfl).trans (hS30 4 5 rfl)).trans (ey50_4_5))) (wv47) (ewv48) (w50_24) ((funext (hA43 24 rfl)).trans ((funext (hA31 24 rfl)).trans (ew50_24))) (w50_25) ((funext (hA43 25 rfl)).trans ((funext (hA31 25 rfl)).trans (ew50_25))) (show inr (y35) from q_286 r38) (show inr ((x50_6 - y33)) from q_953 h3 j50_1 j50_2 j50_3 r37) (show 1 ≤ (y35) ∧ (y35) ≤ 16384 by omega) (show 0 ≤ ((x50_6 - y33)) ∧ ((x50_6 - y33)) ≤ 65536 by omega) (show 0 ≤ (y45) ∧ (y45) ≤ 9000000 by omega) (j50_5) (j50_6) (fun σ F50 A51 H hS52 hA53 y55 ey56 y57 ey58 wv59 ewv60 wv61 ewv62 wv63 ewv64 pz54_0 pz54_1 pz54_2 pz54_3 => ⟨rfl, ?_⟩))
            have r65 : (-2147483648 : Int) ≤ y55 ∧ y55 ≤ 2147483647 := rngE (show (-2147483648 : Int) ≤ F50 4 2 ∧ F50 4 2 ≤ 2147483647 from H.frng 4 2) (show F50 4 2 = y55 from (ey56))
            have r66 : (0 : Int) ≤ y57 ∧ y57 ≤ 16384 := rngE (show (0 : Int) ≤ F50 4 5 ∧ F50 4 5 ≤ 16384 from H.frng 4 5) (show F50 4 5 = y57 from (ey58))
            have hl2 := pz54_3
            refine Ew_of (pcₚ := 107) (fun _ => x_iload rfl (rk_o (l50_6) rfl rfl)) ?_
            refine Ew_of (pcₚ := 109) (fun _ => x_iload rfl rk_s) ?_
            refine w_iadd rfl ?_
            refine Ew_of (pcₚ := 112) (fun _ => x_istore rfl) ?_
            refine Ew_of (pcₚ := 114) (fun _ => x_iload rfl rk_s) ?_
            refine Ew_of (pcₚ := 116) (fun _ => x_istore rfl) ?_
            refine Ew_of (pcₚ := 50) (fun _ => x_goto rfl rfl) ?_
            have : TGI 70000 (MTL (shf ((w14)) ((a1))) ((a2) - (a1)) 65535 4 ((a3)) ((a2) - (a1) - 4)) (shf ((w14)) ((a1))) ((a2) - (a1)) (((x50_6 + y35)) - (a1)) (((x50_6 + y35)) - (a1)) ((w23)) ((u4_2)) ((wv59)) ((y55)) := by first | exact TGI_skip j50_q (by omega) (by have h := hmt; rw [show (y35) = 0 by omega] at h; exact h) (by omega) | exact TGI_take j50_q (by omega) (by omega) (by omega) hmt (by omega) (by rw [sc_shf]; congr 1 <;> omega) hl1 hl2
            exact ih50 _ (by omega) _ σ _ _ ((x50_6 + y35)) ((x50_6 + y35)) (rk_o (rk_o (rk_o (l50_0) rfl rfl) rfl rfl) rfl rfl) (rk_o (rk_o (rk_o (l50_1) rfl rfl) rfl rfl) rfl rfl) (rk_o (rk_o (rk_o (l50_2) rfl rfl) rfl rfl) rfl rfl) (rk_o (rk_o (rk_o (l50_3) rfl rfl) rfl rfl) rfl rfl) (rk_s) (rk_o (rk_s) rfl rfl) H (SF_trans (SF_trans (SF_trans (hS_50) hS30 (any_sub rfl)) hS42 (any_sub rfl)) hS52 (any_sub rfl)) (SA_trans (SA_trans (SA_trans (hA_50) hA31 (any_subA rfl)) hA43 (any_subA rfl)) hA53 (any_subA rfl)) (y55) ((ey56)) (y57) ((ey58)) (wv59) (ewv60) (wv61) (ewv62) (wv63) (ewv64) (show inr ((x50_6 + y35)) from q_955 b17 h3 j50_1 pz54_2 r38) (show inr ((x50_6 + y35)) from q_955 b17 h3 j50_1 pz54_2 r38) (show (a1) ≤ ((x50_6 + y35)) ∧ ((x50_6 + y35)) ≤ ((x50_6 + y35)) ∧ ((x50_6 + y35)) ≤ (a2) from q_954 b17 j50_2 pz32_0 pz54_2 r38) (show (u4_2) ≤ (y55) ∧ (y55) ≤ (u4_2) + 10 * (((x50_6 + y35)) - (a1)) + 5 by omega) (show TGI 70000 (MTL (shf ((w14)) ((a1))) ((a2) - (a1)) 65535 4 ((a3)) ((a2) - (a1) - 4)) (shf ((w14)) ((a1))) ((a2) - (a1)) (((x50_6 + y35)) - (a1)) (((x50_6 + y35)) - (a1)) ((w23)) ((u4_2)) ((wv59)) ((y55)) by assumption) (pz54_0) (pz54_1) rfl
          · refine Ew_of (pcₚ := 75) (fun _ => x_iinc (len := 3) rfl (l50_6)) ?_
            refine Ew_of (pcₚ := 50) (fun _ => x_goto rfl rfl) ?_
            have : TGI 70000 (MTL (shf ((w14)) ((a1))) ((a2) - (a1)) 65535 4 ((a3)) ((a2) - (a1) - 4)) (shf ((w14)) ((a1))) ((a2) - (a1)) (((x50_6 + 1)) - (a1)) ((x50_5) - (a1)) ((w23)) ((u4_2)) ((w50_23)) ((y50_4_2)) := by first | exact TGI_skip j50_q (by omega) (by have h := hmt; rw [show (y35) = 0 by omega] at h; exact h) (by omega) | exact TGI_take j50_q (by omega) (by omega) (by omega) hmt (by omega) (by rw [sc_shf]; congr 1 <;> omega) hl1 hl2
            exact ih50 _ (msE hm50 q_16 (q_17 b17)) _ σ _ _ (x50_5) ((x50_6 + 1)) (rk_o (l50_0) rfl rfl) (rk_o (l50_1) rfl rfl) (rk_o (l50_2) rfl rfl) (rk_o (l50_3) rfl rfl) (rk_o (l50_5) rfl rfl) (rk_s) H (SF_trans (hS_50) hS30 (any_sub rfl)) (SA_trans (hA_50) hA31 (any_subA rfl)) (y50_4_2) (((hS30 4 2 rfl).trans (ey50_4_2))) (y50_4_5) (((hS30 4 5 rfl).trans (ey50_4_5))) (w50_23) ((funext (hA31 23 rfl)).trans (ew50_23)) (w50_24) ((funext (hA31 24 rfl)).trans (ew50_24)) (w50_25) ((funext (hA31 25 rfl)).trans (ew50_25)) (show inr (x50_5) from j50_0) (show inr ((x50_6 + 1)) from q_470 b17 h3 j50_1) (show (a1) ≤ (x50_5) ∧ (x50_5) ≤ ((x50_6 + 1)) ∧ ((x50_6 + 1)) ≤ (a2) from q_490 b17 j50_2) (show (u4_2) ≤ (y50_4_2) ∧ (y50_4_2) ≤ (u4_2) + 10 * ((x50_5) - (a1)) + 5 from j50_3) (show TGI 70000 (MTL (shf ((w14)) ((a1))) ((a2) - (a1)) 65535 4 ((a3)) ((a2) - (a1) - 4)) (shf ((w14)) ((a1))) ((a2) - (a1)) (((x50_6 + 1)) - (a1)) ((x50_5) - (a1)) ((w23)) ((u4_2)) ((w50_23)) ((y50_4_2)) by assumption) (j50_5) (j50_6) rfl
    · refine Ew_of (pcₚ := 14) (fun _ => x_aload_n rfl l5_0) ?_
      refine Ew_of (pcₚ := 16) (fun _ => x_iload rfl l5_4) ?_
      refine Ew_of (pcₚ := 19) (fun _ => x_sipush (z := 128) rfl (by decide)) ?_
      refine w_irem rfl (show inr (x5_4) ∧ 0 ≤ x5_4 from q_957 j5_0 j5_1) (show inr (128) ∧ 0 < 128 from q_956) ?_
      refine Ew_of (pcₚ := 23) (fun _ => x_sipush (z := 128) rfl (by decide)) ?_
      refine w_iadd rfl ?_
      refine w_inv H (o := 4) rfl rfl rfl (H.perm 4 rfl) rfl rfl (by rfl) (M320 H (y5_4_2) ((ey5_4_2)) (w5_23) (ew5_23) (show inr (((x5_4 % 128) + 128)) from q_958) (show 0 ≤ (y5_4_2) ∧ (y5_4_2) ≤ 100000000 from q_946 h5 j5_2 j5_3 r3) (fun σ F67 A68 H hS69 hA70 y72 ey73 wv74 ewv75 pz71_0 pz71_1 pz71_2 => ⟨rfl, ?_⟩))
      have r76 : (-2147483648 : Int) ≤ y72 ∧ y72 ≤ 2147483647 := rngE (show (-2147483648 : Int) ≤ F67 4 2 ∧ F67 4 2 ≤ 2147483647 from H.frng 4 2) (show F67 4 2 = y72 from (ey73))
      have hp0 := pz71_1
      rw [u8_id (z := (x5_4) % 128 + 128) (by omega)] at hp0
      have hv5 : QTO 70000 ((w23)) ((u4_2)) ((wv74)) ((y72)) (vlr ((a2) - (a1))) (vlr ((x5_4) / 128)) := QTO_s j5_q (vlr_s (by omega) rfl) hp0
      refine Ew_of (pcₚ := 29) (fun _ => x_iload rfl l5_4) ?_
      refine Ew_of (pcₚ := 32) (fun _ => x_sipush (z := 128) rfl (by decide)) ?_
      refine w_idiv rfl (show inr (x5_4) ∧ 0 ≤ x5_4 from q_957 j5_0 j5_1) (show inr (128) ∧ 0 < 128 from q_956) ?_
      refine Ew_of (pcₚ := 35) (fun _ => x_istore rfl) ?_
      refine Ew_of (pcₚ := 5) (fun _ => x_goto rfl rfl) ?_
      exact ih5 _ (msE hm5 (q_962 b4) (q_963 b4)) _ σ _ _ ((x5_4 / 128)) (rk_o (l5_0) rfl rfl) (rk_o (l5_1) rfl rfl) (rk_o (l5_2) rfl rfl) (rk_o (l5_3) rfl rfl) (rk_s) H (SF_trans (hS_5) hS69 (any_sub rfl)) (SA_trans (hA_5) hA70 (any_subA rfl)) (y72) ((ey73)) (wv74) (ewv75) (show inr ((x5_4 / 128)) from q_961 b4 j5_0) (show 0 ≤ ((x5_4 / 128)) ∧ ((x5_4 / 128)) ≤ (a2) - (a1) from q_960 b4 h3 j5_1) (show (u4_2) ≤ (y72) from q_959 j5_2 pz71_0) (show ((x5_4 / 128)) ≤ 16384 ∧ (y72) = (u4_2) ∨ ((x5_4 / 128)) ≤ 128 ∧ (y72) ≤ (u4_2) + 1 ∨ ((x5_4 / 128)) ≤ 1 ∧ (y72) ≤ (u4_2) + 2 by omega) (hv5) rfl

theorem M334 {σ0 σ : rS} {D N : Nat → Nat} {F : hF} {A : hA} {d c s : Nat} {Q : wQ} (H : HS σ0 σ D N F A) {a1 : Int} (u1_1 : Int) (eu1_1 : F 1 1 = u1_1) (u4_5 : Int) (eu4_5 : F 4 5 = u4_5) (w14 : Int → Int) (ew14 : A 14 = w14) (w24 : Int → Int) (ew24 : A 24 = w24) (w25 : Int → Int) (ew25 : A 25 = w25) (h0 : inr (a1)) (h1 : 0 ≤ (a1) ∧ (a1) ≤ 3) (h2 : (u1_1) ≤ 16384) (h3 : KQ bN ((w24)) ((u4_5))) (h4 : KQ bF ((w25)) ((u4_5))) (k : ∀ (z : Int) σ Fₚ Aₚ, HS σ0 σ D N Fₚ Aₚ → SF [(1, 3), (4, 2), (4, 5), (4, 6), (4, 7)] F Fₚ → SA [15, 23, 24, 25] A Aₚ → ∀ y1_3 : Int, Fₚ 1 3 = y1_3 → ∀ y4_5 : Int, Fₚ 4 5 = y4_5 → ∀ v15 : Int → Int, Aₚ 15 = v15 → ∀ v24 : Int → Int, Aₚ 24 = v24 → ∀ v25 : Int → Int, Aₚ 25 = v25 → (inr (z)) → (KQ bN ((v24)) ((y4_5))) → (KQ bF ((v25)) ((y4_5))) → (WRT (TGB ((a1)) (sc ((w14)) 0 ((u1_1)))) ((z)) ((y1_3)) ((v15))) → Q (some (I z)) σ c s) : Ew 334 (d + 5) 0 (rargs 0 [.ref (D 4), I a1]) [] σ c s Q := by
  have r1 : (0 : Int) ≤ u1_1 ∧ u1_1 ≤ 65536 := rngE (show (0 : Int) ≤ F 1 1 ∧ F 1 1 ≤ 65536 from H.frng 1 1) (show F 1 1 = u1_1 from (eu1_1))
  have r2 : (0 : Int) ≤ u4_5 ∧ u4_5 ≤ 16384 := rngE (show (0 : Int) ≤ F 4 5 ∧ F 4 5 ≤ 16384 from H.frng 4 5) (show F 4 5 = u4_5 from (eu4_5))
  refine Ew_of (pcₚ := 1) (fun _ => x_aload_n rfl rfl) ?_
  refine Ew_of (pcₚ := 2) (fun _ => x_iconst rfl) ?_
  refine w_pI H (o := 4) rfl rfl (H.perm 4 rfl) rfl rfl rfl (fun _ => rfl) rfl (show (-2147483648 : Int) ≤ 0 ∧ 0 ≤ 2147483647 from q_22) (fun σ H => ?_)
  refine Ew_of (pcₚ := 6) (fun _ => x_aload_n rfl rfl) ?_
  refine Ew_of (pcₚ := 7) (fun _ => x_iconst rfl) ?_
  refine Ew_of (pcₚ := 8) (fun _ => x_aload_n rfl rfl) ?_
  refine w_gT H (o := 4) (t := 1) rfl (H.perm 4 rfl) rfl rfl rfl rfl rfl rfl ?_
  refine w_gI H (o := 1) (w := u1_1) rfl (H.perm 1 rfl) rfl rfl rfl (fun _ => rfl) (eu1_1) ?_
  refine Ew_of (pcₚ := 15) (fun _ => x_iload_n rfl rfl) ?_
  refine w_inv H (o := 4) rfl rfl rfl (H.perm 4 rfl) rfl rfl (by rfl) (M333 H (0) (rfl) (u4_5) ((eu4_5)) (w14) (ew14) (A 23) (rfl) (w24) (ew24) (w25) (ew25) (show inr (0) from q_2) (show inr (u1_1) from q_286 r1) (show inr (a1) from h0) (show 0 ≤ (0) ∧ (0) ≤ (u1_1) ∧ (u1_1) ≤ 16384 from q_965 h2 r1) (show 0 ≤ (a1) ∧ (a1) ≤ 3 from h1) (show 0 ≤ (0) ∧ (0) ≤ 8000000 from q_964) (h3) (show KQ bF ((w25)) ((u4_5)) by assumption) (fun σ F3 A4 H hS5 hA6 y8 ey9 y10 ey11 wv12 ewv13 wv14 ewv15 wv16 ewv17 pz7_0 pz7_1 pz7_2 pz7_3 => ⟨rfl, ?_⟩))
  have r18 : (-2147483648 : Int) ≤ y8 ∧ y8 ≤ 2147483647 := rngE (show (-2147483648 : Int) ≤ F3 4 2 ∧ F3 4 2 ≤ 2147483647 from H.frng 4 2) (show F3 4 2 = y8 from (ey9))
  have r19 : (0 : Int) ≤ y10 ∧ y10 ≤ 16384 := rngE (show (0 : Int) ≤ F3 4 5 ∧ F3 4 5 ≤ 16384 from H.frng 4 5) (show F3 4 5 = y10 from (ey11))
  have hBd : ∀ i, (0 : Int) ≤ (w14) i ∧ (w14) i ≤ 255 := fun i => by have h1 : (0 : Int) ≤ A4 14 i ∧ A4 14 i ≤ 255 := H.arng 14 i; rw [show A4 14 = w14 from (funext (hA6 14 rfl)).trans (ew14)] at h1; exact h1
  have hw := pz7_3
  rw [show (u1_1) - 0 = (u1_1) by omega] at hw
  obtain ⟨Bk, hBk, hQk⟩ := TGW_B hw (BYI_shf (BYI_u hBd)) (by omega)
  rw [sc_shf, show (0 : Int) + 0 = 0 from rfl, Int.zero_add] at hBk
  have hRk : RQ 70000 ((wv12)) ((y8)) Bk := by have h := hQk [] RQ_0; rw [List.nil_append] at h; exact h
  refine Ew_of (pcₚ := 19) (fun _ => x_aload_n rfl rfl) ?_
  refine w_gI H (o := 4) (w := y8) rfl (H.perm 4 rfl) rfl rfl rfl (fun _ => rfl) (ey9) ?_
  refine Ew_of (pcₚ := 24) (fun _ => x_ldc (z := 65536) rfl (by decide)) ?_
  refine w_icmple (t := 31) rfl rfl (show inr (y8) from q_966 pz7_2 r18) (show inr (65536) from q_52) (fun b20 => ?_) (fun b20 => ?_)
  · refine Ew_of (pcₚ := 32) (fun _ => x_aload_n rfl rfl) ?_
    refine w_inv H (o := 4) rfl rfl rfl (H.perm 4 rfl) rfl rfl (by rfl) (M322 H (y8) ((ey9)) (wv12) (ewv13) (show 0 ≤ (y8) ∧ (y8) ≤ 65536 from q_967 b20 pz7_2) (fun z25 σ F21 A22 H hS23 hA24 y26 ey27 wv28 ewv29 pz25_0 pz25_1 pz25_2 => ⟨rfl, ?_⟩))
    have r30 : (0 : Int) ≤ y26 ∧ y26 ≤ 65536 := rngE (show (0 : Int) ≤ F21 1 3 ∧ F21 1 3 ≤ 65536 from H.frng 1 3) (show F21 1 3 = y26 from (ey27))
    have : WRT (TGB ((a1)) (sc ((w14)) 0 ((u1_1)))) ((z25)) ((y26)) ((wv28)) := by first | exact WRT_n hBk hRk (by omega) rfl | exact WRT_y hBk hRk (by omega) (by omega) (by omega) (by omega) pz25_2 (by omega)
    exact w_ireturn rfl (k (z25) σ _ _ H (SF_trans (SF_trans (SF_upd (SF_refl) rfl) hS5 (any_sub rfl)) hS23 (any_sub rfl)) (SA_trans (SA_trans (SA_refl) hA6 (any_subA rfl)) hA24 (any_subA rfl)) (y26) ((ey27)) (y10) (((hS23 4 5 rfl).trans (ey11))) (wv28) (ewv29) (wv14) ((funext (hA24 24 rfl)).trans (ewv15)) (wv16) ((funext (hA24 25 rfl)).trans (ewv17)) (show inr (z25) from pz25_0) (pz7_0) (pz7_1) (show WRT (TGB (a1) (sc ((w14)) 0 ((u1_1)))) ((z25)) ((y26)) ((wv28)) by assumption))
  · refine Ew_of (pcₚ := 28) (fun _ => x_iconst rfl) ?_
    refine Ew_of (pcₚ := 35) (fun _ => x_goto rfl rfl) ?_
    have r31 : (0 : Int) ≤ F 1 3 ∧ F 1 3 ≤ 65536 := rngE (show (0 : Int) ≤ F3 1 3 ∧ F3 1 3 ≤ 65536 from H.frng 1 3) (show F3 1 3 = F 1 3 from (hS5 1 3 rfl))
    have : WRT (TGB ((a1)) (sc ((w14)) 0 ((u1_1)))) (((-1))) ((F 1 3)) ((A 15)) := by first | exact WRT_n hBk hRk (by omega) rfl | exact WRT_y hBk hRk (by omega) (by omega) (by omega) (by omega) pz25_2 (by omega)
    exact w_ireturn rfl (k ((-1)) σ _ _ H (SF_trans (SF_upd (SF_refl) rfl) hS5 (any_sub rfl)) (SA_trans (SA_refl) hA6 (any_subA rfl)) (F 1 3) ((hS5 1 3 rfl)) (y10) ((ey11)) (A 15) (funext (hA6 15 rfl)) (wv14) (ewv15) (wv16) (ewv17) (show inr ((-1)) from q_63) (pz7_0) (pz7_1) (show WRT (TGB (a1) (sc ((w14)) 0 ((u1_1)))) (((-1))) ((F 1 3)) ((A 15)) by assumption))

theorem M336 {σ0 σ : rS} {D N : Nat → Nat} {F : hF} {A : hA} {d c s : Nat} {Q : wQ} (H : HS σ0 σ D N F A) {a1 : Int} (u4_8 : Int) (eu4_8 : F 4 8 = u4_8) (u4_9 : Int) (eu4_9 : F 4 9 = u4_9) (u4_10 : Int) (eu4_10 : F 4 10 = u4_10) (u4_11 : Int) (eu4_11 : F 4 11 = u4_11) (w14 : Int → Int) (ew14 : A 14 = w14) (h0 : inr (a1)) (h1 : 0 ≤ (a1) ∧ (a1) ≤ 4) (h2 : 0 ≤ (u4_8) ∧ (u4_8) ≤ (u4_9)) (k : ∀ (z : Int) σ Fₚ Aₚ, HS σ0 σ D N Fₚ Aₚ → SF [(4, 8), (4, 10), (4, 11)] F Fₚ → SA [] A Aₚ → ∀ y4_8 : Int, Fₚ 4 8 = y4_8 → ∀ y4_10 : Int, Fₚ 4 10 = y4_10 → ∀ y4_11 : Int, Fₚ 4 11 = y4_11 → (inrJ (z)) → ((u4_8) ≤ (y4_8) ∧ (y4_8) ≤ (u4_9)) → ((z) = -1 ∧ (y4_10) ≠ 0 ∨ 0 ≤ (z) ∧ (y4_10) = 0 ∧ (y4_8) = (u4_8) + (a1)) → ((u4_10) ≠ 0 ∨ (u4_8) + (a1) > (u4_9) ∨ 0 ≤ (z)) → ((u4_10) = 0 ∨ (y4_10) = (u4_10)) → ((z) ≤ 4294967295) → ((a1) = 1 → (z) ≤ 255) → ((a1) = 2 → (z) ≤ 65535) → ((a1) = 3 → (z) ≤ 16777215) → (IMP ((0 : Int) ≤ (z)) ((z) = nvl ((w14)) ((u4_8)) ((a1) : Int).toNat)) → ((u4_10) ≠ 0 ∨ 0 ≤ (z) ∨ (y4_10) = 1 ∧ (y4_11) = (u4_9)) → ((u4_10) = 0 ∨ (y4_11) = (u4_11)) → ((z) = -1 → (u4_10) ≠ 0 ∨ (u4_8) + (a1) > (u4_9)) → Q (some (J z)) σ c s) : Ew 336 (d + 1) 0 (rargs 0 [.ref (D 4), I a1]) [] σ c s Q := by
  have r1 : (0 : Int) ≤ u4_8 ∧ u4_8 ≤ 65536 := rngE (show (0 : Int) ≤ F 4 8 ∧ F 4 8 ≤ 65536 from H.frng 4 8) (show F 4 8 = u4_8 from (eu4_8))
  have r2 : (0 : Int) ≤ u4_9 ∧ u4_9 ≤ 65536 := rngE (show (0 : Int) ≤ F 4 9 ∧ F 4 9 ≤ 65536 from H.frng 4 9) (show F 4 9 = u4_9 from (eu4_9))
  have r3 : (-2147483648 : Int) ≤ u4_10 ∧ u4_10 ≤ 2147483647 := rngE (show (-2147483648 : Int) ≤ F 4 10 ∧ F 4 10 ≤ 2147483647 from H.frng 4 10) (show F 4 10 = u4_10 from (eu4_10))
  have r4 : (-2147483648 : Int) ≤ u4_11 ∧ u4_11 ≤ 2147483647 := rngE (show (-2147483648 : Int) ≤ F 4 11 ∧ F 4 11 ≤ 2147483647 from H.frng 4 11) (show F 4 11 = u4_11 from (eu4_11))
  refine Ew_of (pcₚ := 1) (fun _ => x_aload_n rfl rfl) ?_
  refine w_gI H (o := 4) (w := u4_10) rfl (H.perm 4 rfl) rfl rfl rfl (fun _ => rfl) (eu4_10) ?_
  refine w_ifeq (t := 11) rfl rfl (show inr (u4_10) from q_18 r3) (fun b5 => ?_) (fun b5 => ?_)
  · refine Ew_of (pcₚ := 12) (fun _ => x_lconst (z := 0) rfl (by decide)) ?_
    refine Ew_of (pcₚ := 13) (fun _ => x_lstore_n rfl) ?_
    refine Ew_of (pcₚ := 14) (fun _ => x_iconst rfl) ?_
    refine Ew_of (pcₚ := 16) (fun _ => x_istore rfl) ?_
    have : NVQ ((w14)) ((u4_8)) (0) (0) := NVQ_0
    suffices hl16 : ∀ (m : Nat), ∀ (ls : rO) (σ : rS) (F_16 : hF) (A_16 : hA) (x16_2 : Int) (x16_4 : Int), rlook ls 0 = some (.ref (D 4)) → rlook ls 1 = some (I (a1)) → rlook ls 2 = some (J (x16_2)) → rlook ls 4 = some (I (x16_4)) → HS σ0 σ D N F_16 A_16 → SF [(4, 8)] F F_16 → SA [] A A_16 → ∀ y16_4_8 : Int, F_16 4 8 = y16_4_8 → (inrJ (x16_2)) → (inr (x16_4)) → ((0) ≤ (x16_4)) → ((x16_4) ≤ (0) ∨ (x16_4) ≤ ((a1))) → ((y16_4_8) = (u4_8) + (x16_4) ∧ (y16_4_8) ≤ (u4_9)) → ((u4_10) = 0) → (NVQ ((w14)) ((u4_8)) ((x16_4)) ((x16_2))) → (((a1)) - (x16_4)).toNat = m → Ew 336 (d + 1) 16 ls [] σ c s Q from
      hl16 _ _ σ _ _ (0) (0) (rk_o (rk2_o (rfl) rfl rfl) rfl rfl) (rk_o (rk2_o (rfl) rfl rfl) rfl rfl) (rk_o (rk2_s) rfl rfl) (rk_s) H (SF_refl) (SA_refl) (u4_8) ((eu4_8))  (show inrJ (0) from q_340) (show inr (0) from q_2) (show (0) ≤ (0) from q_1) (show (0) ≤ (0) ∨ (0) ≤ ((a1)) from q_5) (show (u4_8) = (u4_8) + (0) ∧ (u4_8) ≤ (u4_9) from q_968 h2) (show (u4_10) = 0 from b5) (show NVQ ((w14)) ((u4_8)) ((0)) ((0)) by assumption) rfl
    as_aux_lemma =>
    intro m
    induction m using Nat.strongRecOn with
    | _ m ih16 =>
      intro ls σ F_16 A_16 x16_2 x16_4 l16_0 l16_1 l16_2 l16_4 H hS_16 hA_16 y16_4_8 ey16_4_8  j16_0 j16_1 j16_2 j16_3 j16_4 j16_5 j16_6 hm16
      have r6 : (0 : Int) ≤ y16_4_8 ∧ y16_4_8 ≤ 65536 := rngE (show (0 : Int) ≤ F_16 4 8 ∧ F_16 4 8 ≤ 65536 from H.frng 4 8) (show F_16 4 8 = y16_4_8 from (ey16_4_8))
      have j16_q : NVQ ((w14)) ((u4_8)) ((x16_4)) ((x16_2)) := j16_6
      refine Ew_of (pcₚ := 18) (fun _ => x_iload rfl l16_4) ?_
      refine Ew_of (pcₚ := 19) (fun _ => x_iload_n rfl l16_1) ?_
      refine w_icmpge (t := 89) rfl rfl (show inr (x16_4) from j16_1) (show inr (a1) from h0) (fun b7 => ?_) (fun b7 => ?_)
      · have hn := NVQ_nn j16_q (by omega) (by omega)
        have hr := nvl_rng (f := (w14)) (n := ((x16_4) : Int).toNat) (a := (u4_8))
        rw [← hn, show 8 * ((((x16_4) : Int).toNat : Nat) : Int) = 8 * (x16_4) by omega] at hr
        have := p2_8 (k := (x16_4))
        have : (x16_4) = 0 → p2 (8 * (x16_4)) = 1 := fun h => by rw [h]; decide
        have : IMP ((0 : Int) ≤ (x16_2)) ((x16_2) = nvl ((w14)) ((u4_8)) ((a1) : Int).toNat) := fun _ => by rw [show (a1) = (x16_4) by omega]; exact hn
        refine Ew_of (pcₚ := 90) (fun _ => x_lload_n rfl l16_2) ?_
        exact w_lreturn rfl (k (x16_2) σ _ _ H (SF_trans (SF_refl) hS_16 (any_sub rfl)) (SA_trans (SA_refl) hA_16 (any_subA rfl)) (y16_4_8) ((ey16_4_8)) (u4_10) (((hS_16 4 10 rfl).trans (eu4_10))) (u4_11) (((hS_16 4 11 rfl).trans (eu4_11))) (show inrJ (x16_2) from j16_0) (show (u4_8) ≤ (y16_4_8) ∧ (y16_4_8) ≤ (u4_9) from q_971 j16_2 j16_4) (show (x16_2) = -1 ∧ (u4_10) ≠ 0 ∨ 0 ≤ (x16_2) ∧ (u4_10) = 0 ∧ (y16_4_8) = (u4_8) + a1 by omega) (show (u4_10) ≠ 0 ∨ (u4_8) + a1 > (u4_9) ∨ 0 ≤ (x16_2) by omega) (show (u4_10) = 0 ∨ (u4_10) = (u4_10) from q_970 j16_5) (show (x16_2) ≤ 4294967295 by omega) (show a1 = 1 → (x16_2) ≤ 255 by omega) (show a1 = 2 → (x16_2) ≤ 65535 by omega) (show a1 = 3 → (x16_2) ≤ 16777215 by omega) (show IMP ((0 : Int) ≤ (x16_2)) ((x16_2) = nvl ((w14)) ((u4_8)) (a1 : Int).toNat) by first | assumption | exact fun h => absurd rfl h | exact fun h => absurd h (by decide) | omega) (show (u4_10) ≠ 0 ∨ 0 ≤ (x16_2) ∨ (u4_10) = 1 ∧ (u4_11) = (u4_9) by omega) (show (u4_10) = 0 ∨ (u4_11) = (u4_11) from q_969 j16_5) (show (x16_2) = -1 → (u4_10) ≠ 0 ∨ (u4_8) + a1 > (u4_9) by omega))
      · refine Ew_of (pcₚ := 23) (fun _ => x_aload_n rfl l16_0) ?_
        refine w_gI H (o := 4) (w := y16_4_8) rfl (H.perm 4 rfl) rfl rfl rfl (fun _ => rfl) (ey16_4_8) ?_
        refine Ew_of (pcₚ := 27) (fun _ => x_aload_n rfl l16_0) ?_
        refine w_gI H (o := 4) (w := u4_9) rfl (H.perm 4 rfl) rfl rfl rfl (fun _ => rfl) ((hS_16 4 9 rfl).trans (eu4_9)) ?_
        refine w_icmpne (t := 47) rfl rfl (show inr (y16_4_8) from q_286 r6) (show inr (u4_9) from q_286 r2) (fun b8 => ?_) (fun b8 => ?_)
        · refine Ew_of (pcₚ := 48) (fun _ => x_lload_n rfl l16_2) ?_
          refine Ew_of (pcₚ := 49) (fun _ => x_aload_n rfl l16_0) ?_
          refine w_gT H (o := 4) (t := 1) rfl (H.perm 4 rfl) rfl rfl rfl rfl rfl rfl ?_
          refine w_gT H (o := 1) (t := 14) rfl (H.perm 1 rfl) rfl rfl rfl rfl rfl rfl ?_
          refine Ew_of (pcₚ := 56) (fun _ => x_aload_n rfl l16_0) ?_
          refine w_gI H (o := 4) (w := y16_4_8) rfl (H.perm 4 rfl) rfl rfl rfl (fun _ => rfl) (ey16_4_8) ?_
          refine w_lI H (o := 14) (n := 65536) rfl (H.perm 14 rfl) rfl rfl (H.fix 14 rfl rfl) (show 0 ≤ y16_4_8 ∧ y16_4_8 < ((65536 : Nat) : Int) by omega) (by decide) (fun v9 ev9 qv9 => ?_)
          have qv9 : (0 : Int) ≤ v9 ∧ v9 ≤ 255 := qv9
          have ev9 : (w14) (y16_4_8) = v9 := (congrFun ((funext (hA_16 14 rfl)).trans (ew14)) (y16_4_8)).symm.trans ev9
          have hv := ev9
          refine w_i2l rfl (show inr (v9) from q_299 qv9) ?_
          refine Ew_of (pcₚ := 64) (fun _ => x_ldc2 (z := 255) rfl (by decide)) ?_
          refine w_landE rfl ?_
          have g10 : inrJ (anJ (v9) (255)) := toJ_inr _
          have hb : ((anJ (v9) (255))) = ((w14)) ((u4_8) + (x16_4)) := by rw [anJ_255, show (u4_8) + (x16_4) = (y16_4_8) by omega, hv]; omega
          have hbr : 0 ≤ ((anJ (v9) (255))) ∧ ((anJ (v9) (255))) ≤ 255 := by rw [anJ_255]; omega
          obtain ⟨qb, hqb⟩ : ∃ q : Int, q = ((anJ (v9) (255))) := ⟨_, rfl⟩
          rw [← hqb]
          have gqb : inrJ qb := by rw [hqb]; first | assumption | omega
          replace hqb : IMP True (qb = ((anJ (v9) (255)))) := fun _ => hqb
          try clear g10
          have hb2 := (hqb trivial).trans hb
          have hbr2 : 0 ≤ qb ∧ qb ≤ 255 := by rw [hqb trivial]; exact hbr
          (try clear hb); (try clear hbr)
          refine Ew_of (pcₚ := 67) (fun _ => x_bipush (z := 8) rfl (by decide)) ?_
          refine Ew_of (pcₚ := 69) (fun _ => x_iload rfl l16_4) ?_
          refine w_imul rfl ?_
          refine w_lshlE rfl ?_
          have g11 : inrJ (shlJ (qb) ((8 * x16_4))) := toJ_inr _
          refine w_lorE rfl ?_
          have g12 : inrJ (orJ (x16_2) ((shlJ (qb) ((8 * x16_4))))) := toJ_inr _
          obtain ⟨q72, hq72⟩ : ∃ q : Int, q = ((orJ (x16_2) ((shlJ (qb) ((8 * x16_4)))))) := ⟨_, rfl⟩
          rw [← hq72]
          have gq72 : inrJ q72 := by rw [hq72]; first | assumption | omega
          replace hq72 : IMP True (q72 = ((orJ (x16_2) ((shlJ (qb) ((8 * x16_4))))))) := fun _ => hq72
          try clear g12
          try clear g11
          refine Ew_of (pcₚ := 73) (fun _ => x_lstore_n rfl) ?_
          refine Ew_of (pcₚ := 74) (fun _ => x_aload_n rfl (rk2_o (l16_0) rfl rfl)) ?_
          refine Ew_of (pcₚ := 75) (fun _ => x_dup rfl rfl) ?_
          refine w_gI H (o := 4) (w := y16_4_8) rfl (H.perm 4 rfl) rfl rfl rfl (fun _ => rfl) (ey16_4_8) ?_
          refine Ew_of (pcₚ := 79) (fun _ => x_iconst rfl) ?_
          refine w_iadd rfl ?_
          refine w_pI H (o := 4) rfl rfl (H.perm 4 rfl) rfl rfl rfl (fun _ => rfl) rfl (show (0 : Int) ≤ (y16_4_8 + 1) ∧ (y16_4_8 + 1) ≤ 65536 by omega) (fun σ H => ?_)
          refine Ew_of (pcₚ := 86) (fun _ => x_iinc (len := 3) rfl (rk2_o (l16_4) rfl rfl)) ?_
          refine Ew_of (pcₚ := 16) (fun _ => x_goto rfl rfl) ?_
          have : NVQ ((w14)) ((u4_8)) (((x16_4 + 1))) ((q72)) := NVQ_s j16_q (by omega) hb2 hbr2 (by omega) (hq72 trivial)
          exact ih16 _ (msE hm16 q_16 (q_17 b7)) _ σ _ _ (q72) ((x16_4 + 1)) (rk_o (rk2_o (l16_0) rfl rfl) rfl rfl) (rk_o (rk2_o (l16_1) rfl rfl) rfl rfl) (rk_o (rk2_s) rfl rfl) (rk_s) H (SF_upd (hS_16) rfl) (hA_16) ((y16_4_8 + 1)) (rfl)  (show inrJ (q72) from gq72) (show inr ((x16_4 + 1)) from q_369 b7 h1 j16_2) (show (0) ≤ ((x16_4 + 1)) from q_14 j16_2) (show ((x16_4 + 1)) ≤ (0) ∨ ((x16_4 + 1)) ≤ ((a1)) from q_13 b7) (show ((y16_4_8 + 1)) = (u4_8) + ((x16_4 + 1)) ∧ ((y16_4_8 + 1)) ≤ (u4_9) by omega) (show (u4_10) = 0 from j16_5) (show NVQ ((w14)) ((u4_8)) (((x16_4 + 1))) ((q72)) by assumption) rfl
        · refine Ew_of (pcₚ := 34) (fun _ => x_aload_n rfl l16_0) ?_
          refine Ew_of (pcₚ := 35) (fun _ => x_iconst rfl) ?_
          refine Ew_of (pcₚ := 36) (fun _ => x_aload_n rfl l16_0) ?_
          refine w_gI H (o := 4) (w := u4_9) rfl (H.perm 4 rfl) rfl rfl rfl (fun _ => rfl) ((hS_16 4 9 rfl).trans (eu4_9)) ?_
          refine w_inv H (o := 4) rfl rfl rfl (H.perm 4 rfl) rfl rfl (by rfl) (M335 H (u4_10) (((hS_16 4 10 rfl).trans (eu4_10))) (u4_11) (((hS_16 4 11 rfl).trans (eu4_11))) (show inr (1) from q_135) (show inr (u4_9) from q_286 r2) (fun z17 σ F13 A14 H hS15 hA16 y18 ey19 y20 ey21 pz17_0 pz17_1 pz17_2 => ⟨rretB rfl pz17_0, ?_⟩))
          have r22 : (-2147483648 : Int) ≤ y18 ∧ y18 ≤ 2147483647 := rngE (show (-2147483648 : Int) ≤ F13 4 10 ∧ F13 4 10 ≤ 2147483647 from H.frng 4 10) (show F13 4 10 = y18 from (ey19))
          have r23 : (-2147483648 : Int) ≤ y20 ∧ y20 ≤ 2147483647 := rngE (show (-2147483648 : Int) ≤ F13 4 11 ∧ F13 4 11 ≤ 2147483647 from H.frng 4 11) (show F13 4 11 = y20 from (ey21))
          refine Ew_of (pcₚ := 43) (fun _ => x_pop rfl rfl) ?_
          refine Ew_of (pcₚ := 46) (fun _ => x_ldc2 (z := -1) rfl (by decide)) ?_
          exact w_lreturn rfl (k ((-1)) σ _ _ H (SF_trans (SF_trans (SF_refl) hS_16 (any_sub rfl)) hS15 (any_sub rfl)) (SA_trans (SA_trans (SA_refl) hA_16 (any_subA rfl)) hA16 (any_subA rfl)) (y16_4_8) (((hS15 4 8 rfl).trans (ey16_4_8))) (y18) ((ey19)) (y20) ((ey21)) (show inrJ ((-1)) from q_981) (show (u4_8) ≤ (y16_4_8) ∧ (y16_4_8) ≤ (u4_9) from q_980 b8 h2 j16_4) (show ((-1)) = -1 ∧ (y18) ≠ 0 ∨ 0 ≤ ((-1)) ∧ (y18) = 0 ∧ (y16_4_8) = (u4_8) + a1 by omega) (show (u4_10) ≠ 0 ∨ (u4_8) + a1 > (u4_9) ∨ 0 ≤ ((-1)) by first | exact q_979 b7 b8 j16_4 | omega) (show (u4_10) = 0 ∨ (y18) = (u4_10) from q_978 j16_5) (show ((-1)) ≤ 4294967295 by first | exact q_977 | omega) (show a1 = 1 → ((-1)) ≤ 255 by first | exact q_976 | omega) (show a1 = 2 → ((-1)) ≤ 65535 by first | exact q_975 | omega) (show a1 = 3 → ((-1)) ≤ 16777215 by first | exact q_974 | omega) (show IMP ((0 : Int) ≤ ((-1))) (((-1)) = nvl ((w14)) ((u4_8)) (a1 : Int).toNat) by first | assumption | exact fun h => absurd rfl h | exact fun h => absurd h (by decide) | omega) (show (u4_10) ≠ 0 ∨ 0 ≤ ((-1)) ∨ (y18) = 1 ∧ (y20) = (u4_9) by omega) (show (u4_10) = 0 ∨ (y20) = (u4_11) from q_973 j16_5) (show ((-1)) = -1 → (u4_10) ≠ 0 ∨ (u4_8) + a1 > (u4_9) by first | exact q_972 b7 b8 j16_4 | omega))
  · refine Ew_of (pcₚ := 10) (fun _ => x_ldc2 (z := -1) rfl (by decide)) ?_
    exact w_lreturn rfl (k ((-1)) σ _ _ H (SF_refl) (SA_refl) (u4_8) ((eu4_8)) (u4_10) ((eu4_10)) (u4_11) ((eu4_11)) (show inrJ ((-1)) from q_981) (show (u4_8) ≤ (u4_8) ∧ (u4_8) ≤ (u4_9) from q_988 h2) (show ((-1)) = -1 ∧ (u4_10) ≠ 0 ∨ 0 ≤ ((-1)) ∧ (u4_10) = 0 ∧ (u4_8) = (u4_8) + a1 by first | exact q_987 b5 | omega) (show (u4_10) ≠ 0 ∨ (u4_8) + a1 > (u4_9) ∨ 0 ≤ ((-1)) by first | exact q_986 b5 | omega) (show (u4_10) = 0 ∨ (u4_10) = (u4_10) from q_985) (show ((-1)) ≤ 4294967295 by first | exact q_977 | omega) (show a1 = 1 → ((-1)) ≤ 255 by first | exact q_976 | omega) (show a1 = 2 → ((-1)) ≤ 65535 by first | exact q_975 | omega) (show a1 = 3 → ((-1)) ≤ 16777215 by first | exact q_974 | omega) (show IMP ((0 : Int) ≤ ((-1))) (((-1)) = nvl ((w14)) ((u4_8)) (a1 : Int).toNat) by first | assumption | exact fun h => absurd rfl h | exact fun h => absurd h (by decide) | omega) (show (u4_10) ≠ 0 ∨ 0 ≤ ((-1)) ∨ (u4_10) = 1 ∧ (u4_11) = (u4_9) by first | exact q_984 b5 | omega) (show (u4_10) = 0 ∨ (u4_11) = (u4_11) from q_983) (show ((-1)) = -1 → (u4_10) ≠ 0 ∨ (u4_8) + a1 > (u4_9) by first | exact q_982 b5 | omega))

theorem M337 {σ0 σ : rS} {D N : Nat → Nat} {F : hF} {A : hA} {d c s : Nat} {Q : wQ} (H : HS σ0 σ D N F A) {a1 : Int} (u4_8 : Int) (eu4_8 : F 4 8 = u4_8) (u4_9 : Int) (eu4_9 : F 4 9 = u4_9) (u4_10 : Int) (eu4_10 : F 4 10 = u4_10) (w14 : Int → Int) (ew14 : A 14 = w14) (h0 : inr (a1)) (h1 : 0 ≤ (a1) ∧ (a1) ≤ 65536) (h2 : 0 ≤ (u4_8) ∧ (u4_8) ≤ (u4_9)) (h3 : (u4_10) = 0) (k : ∀ (z : Int) σ Fₚ Aₚ, HS σ0 σ D N Fₚ Aₚ → SF [(4, 8), (4, 10), (4, 11)] F Fₚ → SA [] A Aₚ → ∀ y4_8 : Int, Fₚ 4 8 = y4_8 → ∀ y4_10 : Int, Fₚ 4 10 = y4_10 → ∀ y4_11 : Int, Fₚ 4 11 = y4_11 → (inrJ (z)) → ((u4_8) ≤ (y4_8) ∧ (y4_8) ≤ (u4_9)) → (-1 ≤ (z) ∧ (z) ≤ (a1)) → ((z) = -1 ∧ (y4_10) ≠ 0 ∨ 0 ≤ (z) ∧ (y4_10) = 0) → (0 ≤ (y4_10) ∧ (y4_10) ≤ 20) → (IMP ((y4_10) ≠ 0) (TLQ ((w14)) ((u4_9)) ((u4_8)) ((a1)) ((y4_10), (y4_11), 0, 0))) → (IMP ((y4_10) = 0) (TLQ ((w14)) ((u4_9)) ((u4_8)) ((a1)) (0, 0, (z), (y4_8)))) → Q (some (J z)) σ c s) : Ew 337 (d + 2) 0 (rargs 0 [.ref (D 4), I a1]) [] σ c s Q := by
  have r1 : (0 : Int) ≤ u4_8 ∧ u4_8 ≤ 65536 := rngE (show (0 : Int) ≤ F 4 8 ∧ F 4 8 ≤ 65536 from H.frng 4 8) (show F 4 8 = u4_8 from (eu4_8))
  have r2 : (0 : Int) ≤ u4_9 ∧ u4_9 ≤ 65536 := rngE (show (0 : Int) ≤ F 4 9 ∧ F 4 9 ≤ 65536 from H.frng 4 9) (show F 4 9 = u4_9 from (eu4_9))
  have r3 : (-2147483648 : Int) ≤ u4_10 ∧ u4_10 ≤ 2147483647 := rngE (show (-2147483648 : Int) ≤ F 4 10 ∧ F 4 10 ≤ 2147483647 from H.frng 4 10) (show F 4 10 = u4_10 from (eu4_10))
  refine Ew_of (pcₚ := 1) (fun _ => x_aload_n rfl rfl) ?_
  refine w_gI H (o := 4) (w := u4_8) rfl (H.perm 4 rfl) rfl rfl rfl (fun _ => rfl) (eu4_8) ?_
  refine Ew_of (pcₚ := 5) (fun _ => x_istore_n rfl) ?_
  refine Ew_of (pcₚ := 6) (fun _ => x_lconst (z := 0) rfl (by decide)) ?_
  refine Ew_of (pcₚ := 7) (fun _ => x_lstore_n rfl) ?_
  refine Ew_of (pcₚ := 8) (fun _ => x_iconst rfl) ?_
  refine Ew_of (pcₚ := 10) (fun _ => x_istore rfl) ?_
  have : IMP True ((0 : Int) < p2 (7 * 0)) := fun _ => by decide
  have : TLO ((w14)) ((u4_9)) ((u4_8)) ((a1)) (0) (0) := TLO_0
  suffices hl10 : ∀ (m : Nat), ∀ (ls : rO) (σ : rS) (F_10 : hF) (A_10 : hA) (x10_3 : Int) (x10_5 : Int), rlook ls 0 = some (.ref (D 4)) → rlook ls 1 = some (I (a1)) → rlook ls 2 = some (I (u4_8)) → rlook ls 3 = some (J (x10_3)) → rlook ls 5 = some (I (x10_5)) → HS σ0 σ D N F_10 A_10 → SF [(4, 8), (4, 10), (4, 11)] F F_10 → SA [] A A_10 → ∀ y10_4_8 : Int, F_10 4 8 = y10_4_8 → ∀ y10_4_10 : Int, F_10 4 10 = y10_4_10 → (inrJ (x10_3)) → (inr (x10_5)) → (0 ≤ (x10_5) ∧ (x10_5) ≤ 4) → (0 ≤ (x10_3) ∧ (x10_3) ≤ 34359738367) → (IMP True ((x10_3) < p2 (7 * (x10_5)))) → ((y10_4_10) = 0) → ((y10_4_8) = (u4_8) + (x10_5) ∧ (y10_4_8) ≤ (u4_9)) → (TLO ((w14)) ((u4_9)) ((u4_8)) ((a1)) ((x10_5)) ((x10_3))) → (5 - (x10_5)).toNat = m → Ew 337 (d + 2) 10 ls [] σ c s Q from
    hl10 _ _ σ _ _ (0) (0) (rk_o (rk2_o (rk_o (rfl) rfl rfl) rfl rfl) rfl rfl) (rk_o (rk2_o (rk_o (rfl) rfl rfl) rfl rfl) rfl rfl) (rk_o (rk2_o (rk_s) rfl rfl) rfl rfl) (rk_o (rk2_s) rfl rfl) (rk_s) H (SF_refl) (SA_refl) (u4_8) ((eu4_8)) (u4_10) ((eu4_10))  (show inrJ (0) from q_340) (show inr (0) from q_2) (show 0 ≤ (0) ∧ (0) ≤ 4 from q_990) (show 0 ≤ (0) ∧ (0) ≤ 34359738367 from q_989) (show IMP True ((0) < p2 (7 * (0))) by assumption) (show (u4_10) = 0 from h3) (show (u4_8) = (u4_8) + (0) ∧ (u4_8) ≤ (u4_9) from q_968 h2) (show TLO ((w14)) ((u4_9)) ((u4_8)) ((a1)) ((0)) ((0)) by assumption) rfl
  as_aux_lemma =>
  intro m
  induction m using Nat.strongRecOn with
  | _ m ih10 =>
    intro ls σ F_10 A_10 x10_3 x10_5 l10_0 l10_1 l10_2 l10_3 l10_5 H hS_10 hA_10 y10_4_8 ey10_4_8 y10_4_10 ey10_4_10  j10_0 j10_1 j10_2 j10_3 j10_4 j10_5 j10_6 j10_7 hm10
    have r4 : (0 : Int) ≤ y10_4_8 ∧ y10_4_8 ≤ 65536 := rngE (show (0 : Int) ≤ F_10 4 8 ∧ F_10 4 8 ≤ 65536 from H.frng 4 8) (show F_10 4 8 = y10_4_8 from (ey10_4_8))
    have r5 : (-2147483648 : Int) ≤ y10_4_10 ∧ y10_4_10 ≤ 2147483647 := rngE (show (-2147483648 : Int) ≤ F_10 4 10 ∧ F_10 4 10 ≤ 2147483647 from H.frng 4 10) (show F_10 4 10 = y10_4_10 from (ey10_4_10))
    have j10_q : TLO ((w14)) ((u4_9)) ((u4_8)) ((a1)) ((x10_5)) ((x10_3)) := j10_7
    have j10_p : IMP True ((x10_3) < p2 (7 * (x10_5))) := j10_4
    have hBd : ∀ i, (0 : Int) ≤ (w14) i ∧ (w14) i ≤ 255 := fun i => by have h1 : (0 : Int) ≤ A_10 14 i ∧ A_10 14 i ≤ 255 := H.arng 14 i; rw [show A_10 14 = w14 from (funext (hA_10 14 rfl)).trans (ew14)] at h1; exact h1
    obtain ⟨qa, hqa⟩ : ∃ q : Int, q = (y10_4_8) := ⟨_, rfl⟩
    refine Ew_of (pcₚ := 12) (fun _ => x_iload rfl l10_5) ?_
    refine Ew_of (pcₚ := 13) (fun _ => x_iconst rfl) ?_
    refine w_icmpge (t := 93) rfl rfl (show inr (x10_5) from j10_1) (show inr (5) from q_727) (fun b6 => ?_) (fun b6 => ?_)
    · exact absurd b6 (by omega)
    · refine Ew_of (pcₚ := 17) (fun _ => x_aload_n rfl l10_0) ?_
      refine Ew_of (pcₚ := 18) (fun _ => x_iconst rfl) ?_
      have r7 : (-2147483648 : Int) ≤ F_10 4 11 ∧ F_10 4 11 ≤ 2147483647 := H.frng 4 11
      refine w_inv H (o := 4) rfl rfl rfl (H.perm 4 rfl) rfl rfl (by rfl) (M336 H (y10_4_8) ((ey10_4_8)) (u4_9) (((hS_10 4 9 rfl).trans (eu4_9))) (y10_4_10) ((ey10_4_10)) (F_10 4 11) (rfl) (w14) ((funext (hA_10 14 rfl)).trans (ew14)) (show inr (1) from q_135) (show 0 ≤ (1) ∧ (1) ≤ 4 from q_992) (show 0 ≤ (y10_4_8) ∧ (y10_4_8) ≤ (u4_9) from q_991 j10_6 r4) (fun z12 σ F8 A9 H hS10 hA11 y13 ey14 y15 ey16 y17 ey18 pz12_0 pz12_1 pz12_2 pz12_3 pz12_4 pz12_5 pz12_6 pz12_7 pz12_8 pz12_9 pz12_10 pz12_11 pz12_12 => ⟨rfl, ?_⟩))
      have r19 : (0 : Int) ≤ y13 ∧ y13 ≤ 65536 := rngE (show (0 : Int) ≤ F8 4 8 ∧ F8 4 8 ≤ 65536 from H.frng 4 8) (show F8 4 8 = y13 from (ey14))
      have r20 : (-2147483648 : Int) ≤ y15 ∧ y15 ≤ 2147483647 := rngE (show (-2147483648 : Int) ≤ F8 4 10 ∧ F8 4 10 ≤ 2147483647 from H.frng 4 10) (show F8 4 10 = y15 from (ey16))
      have r21 : (-2147483648 : Int) ≤ y17 ∧ y17 ≤ 2147483647 := rngE (show (-2147483648 : Int) ≤ F8 4 11 ∧ F8 4 11 ≤ 2147483647 from H.frng 4 11) (show F8 4 11 = y17 from (ey18))
      have hb0 := pz12_9
      have hsum : 0 ≤ (z12) ∧ (z12) ≤ 255 ∧ (y15) = 0 ∧ (y13) = qa + 1 ∨ (z12) = -1 ∧ (y15) = 1 ∧ (y17) = (u4_9) ∧ (u4_9) < qa + 1 := by omega
      (try clear pz12_2)
      (try clear pz12_3)
      (try clear pz12_4)
      (try clear pz12_6)
      (try clear pz12_7)
      (try clear pz12_8)
      (try clear pz12_10)
      (try clear pz12_11)
      (try clear pz12_12)
      refine Ew_of (pcₚ := 23) (fun _ => x_lstore rfl) ?_
      refine Ew_of (pcₚ := 25) (fun _ => x_lload rfl rk2_s) ?_
      refine Ew_of (pcₚ := 26) (fun _ => x_lconst (z := 0) rfl (by decide)) ?_
      refine w_lcmp rfl (show inrJ (z12) from pz12_0) (show inrJ (0) from q_340) (fun z22 gz22 gaz22 gbz22 => ?_)
      refine w_ifge (t := 34) rfl rfl (show inr (z22) from gz22) (fun b23 => ?_) (fun b23 => ?_)
      · have hb1 : ((w14)) (qa) = (z12) := nvl_b hBd (hb0 (by omega)) (by omega)
        refine Ew_of (pcₚ := 36) (fun _ => x_iload rfl (rk2_o (l10_5) rfl rfl)) ?_
        refine Ew_of (pcₚ := 37) (fun _ => x_iconst rfl) ?_
        refine w_icmpne (t := 60) rfl rfl (show inr (x10_5) from j10_1) (show inr (4) from q_216) (fun b24 => ?_) (fun b24 => ?_)
        · refine Ew_of (pcₚ := 61) (fun _ => x_lload_n rfl (rk2_o (l10_3) rfl rfl)) ?_
          refine Ew_of (pcₚ := 63) (fun _ => x_lload rfl rk2_s) ?_
          refine Ew_of (pcₚ := 66) (fun _ => x_ldc2 (z := 127) rfl (by decide)) ?_
          refine w_landE rfl ?_
          have g25 : inrJ (anJ (z12) (127)) := toJ_inr _
          obtain ⟨q66, hq66⟩ : ∃ q : Int, q = ((anJ (z12) (127))) := ⟨_, rfl⟩
          rw [← hq66]
          have gq66 : inrJ q66 := by rw [hq66]; first | assumption | omega
          replace hq66 : IMP True (q66 = ((anJ (z12) (127)))) := fun _ => hq66
          try clear g25
          have hq66e : q66 = (z12) % 128 := (hq66 trivial).trans (anJ_127 _)
          (try clear hq66)
          refine Ew_of (pcₚ := 69) (fun _ => x_bipush (z := 7) rfl (by decide)) ?_
          refine Ew_of (pcₚ := 71) (fun _ => x_iload rfl (rk2_o (l10_5) rfl rfl)) ?_
          refine w_imul rfl ?_
          refine w_lshlE rfl ?_
          have g26 : inrJ (shlJ (q66) ((7 * x10_5))) := toJ_inr _
          refine w_lorE rfl ?_
          have g27 : inrJ (orJ (x10_3) ((shlJ (q66) ((7 * x10_5))))) := toJ_inr _
          obtain ⟨q74, hq74⟩ : ∃ q : Int, q = ((orJ (x10_3) ((shlJ (q66) ((7 * x10_5)))))) := ⟨_, rfl⟩
          rw [← hq74]
          have gq74 : inrJ q74 := by rw [hq74]; first | assumption | omega
          replace hq74 : IMP True (q74 = ((orJ (x10_3) ((shlJ (q66) ((7 * x10_5))))))) := fun _ => hq74
          try clear g27
          try clear g26
          have hpk : q74 = (x10_3) + q66 * p2 (7 * (x10_5)) ∧ q74 < p2 (7 * ((x10_5) + 1)) ∧ 0 ≤ q74 ∧ q74 ≤ 34359738367 := TL_s (j10_p trivial) (hq74 trivial) (by omega) (by omega) (by omega)
          obtain ⟨hb2q, hp74, hq74a, hq74b⟩ := id hpk
          replace hp74 : IMP True (q74 < p2 (7 * ((x10_5) + 1))) := fun _ => hp74
          (try clear hq74)
          have hb2 : IMP True (q74 = (x10_3) + (z12) % 128 * p2 (7 * (x10_5))) := fun _ => by rw [← hq66e]; exact hb2q
          (try clear hb2q)
          refine Ew_of (pcₚ := 75) (fun _ => x_lstore_n rfl) ?_
          refine Ew_of (pcₚ := 77) (fun _ => x_lload rfl (rk2_o (rk2_s) rfl rfl)) ?_
          refine Ew_of (pcₚ := 80) (fun _ => x_ldc2 (z := 128) rfl (by decide)) ?_
          refine w_lcmp rfl (show inrJ (z12) from pz12_0) (show inrJ (128) from q_993) (fun z28 gz28 gaz28 gbz28 => ?_)
          refine w_ifge (t := 87) rfl rfl (show inr (z28) from gz28) (fun b29 => ?_) (fun b29 => ?_)
          · have : TLO ((w14)) ((u4_9)) ((u4_8)) ((a1)) ((x10_5) + 1) ((q74)) := TLO_s (q := qa) j10_q (by omega) (by omega) (by omega) hb1 (by omega) rfl (hb2 trivial)
            have : IMP True ((q74) < p2 (7 * ((x10_5) + 1))) := hp74
            refine Ew_of (pcₚ := 90) (fun _ => x_iinc (len := 3) rfl (rk2_o (rk2_o (l10_5) rfl rfl) rfl rfl)) ?_
            refine Ew_of (pcₚ := 10) (fun _ => x_goto rfl rfl) ?_
            exact ih10 _ (msE hm10 q_996 (q_997 b6)) _ σ _ _ (q74) ((x10_5 + 1)) (rk_o (rk2_o (rk2_o (l10_0) rfl rfl) rfl rfl) rfl rfl) (rk_o (rk2_o (rk2_o (l10_1) rfl rfl) rfl rfl) rfl rfl) (rk_o (rk2_o (rk2_o (l10_2) rfl rfl) rfl rfl) rfl rfl) (rk_o (rk2_s) rfl rfl) (rk_s) H (SF_trans (hS_10) hS10 (any_sub rfl)) (SA_trans (hA_10) hA11 (any_subA rfl)) (y13) ((ey14)) (y15) ((ey16))  (show inrJ (q74) from gq74) (show inr ((x10_5 + 1)) from q_995 b6 j10_2) (show 0 ≤ ((x10_5 + 1)) ∧ ((x10_5 + 1)) ≤ 4 by omega) (show 0 ≤ (q74) ∧ (q74) ≤ 34359738367 from q_994 hpk) (show IMP True ((q74) < p2 (7 * ((x10_5 + 1)))) by assumption) (show (y15) = 0 by omega) (show (y13) = (u4_8) + ((x10_5 + 1)) ∧ (y13) ≤ (u4_9) by omega) (show TLO ((w14)) ((u4_9)) ((u4_8)) ((a1)) (((x10_5 + 1))) ((q74)) by assumption) rfl
          · have : TLz ((w14)) ((u4_9)) ((u4_8)) ((a1)) ((q74)) ((y13)) := TLO_z (q := qa) j10_q (by omega) (by omega) (by omega) hb1 (by omega) (hb2 trivial) (by omega)
            refine Ew_of (pcₚ := 93) (fun _ => x_goto rfl rfl) ?_
            have hc107 : ∀ (ls : rO) (σ : rS) (F_c107 : hF) (A_c107 : hA) , rlook ls 0 = some (.ref (D 4)) → rlook ls 3 = some (J (q74)) → HS σ0 σ D N F_c107 A_c107 → SF [(4, 10), (4, 11)] F8 F_c107 → SA [] A9 A_c107 → ∀ yc107_4_10 : Int, F_c107 4 10 = yc107_4_10 → ∀ yc107_4_11 : Int, F_c107 4 11 = yc107_4_11 → ((yc107_4_10) = 0 ∧ (q74) ≤ (a1) ∨ (yc107_4_10) = 3 ∧ (yc107_4_11) = (u4_8) ∧ (a1) < (q74)) → (TLz ((w14)) ((u4_9)) ((u4_8)) ((a1)) ((q74)) ((y13))) → Ew 337 (d + 2) 107 ls [] σ c s Q := by
             as_aux_lemma =>
              intro  ls σ F_c107 A_c107  lc107_0 lc107_3 H hS_c107 hA_c107 yc107_4_10 eyc107_4_10 yc107_4_11 eyc107_4_11  jc107_0 jc107_1
              have r30 : (-2147483648 : Int) ≤ yc107_4_10 ∧ yc107_4_10 ≤ 2147483647 := rngE (show (-2147483648 : Int) ≤ F_c107 4 10 ∧ F_c107 4 10 ≤ 2147483647 from H.frng 4 10) (show F_c107 4 10 = yc107_4_10 from (eyc107_4_10))
              have r31 : (-2147483648 : Int) ≤ yc107_4_11 ∧ yc107_4_11 ≤ 2147483647 := rngE (show (-2147483648 : Int) ≤ F_c107 4 11 ∧ F_c107 4 11 ≤ 2147483647 from H.frng 4 11) (show F_c107 4 11 = yc107_4_11 from (eyc107_4_11))
              have k107 : TLz ((w14)) ((u4_9)) ((u4_8)) ((a1)) ((q74)) ((y13)) := jc107_1
              refine Ew_of (pcₚ := 108) (fun _ => x_aload_n rfl lc107_0) ?_
              refine w_gI H (o := 4) (w := yc107_4_10) rfl (H.perm 4 rfl) rfl rfl rfl (fun _ => rfl) (eyc107_4_10) ?_
              refine w_ifne (t := 118) rfl rfl (show inr (yc107_4_10) from q_18 r30) (fun b32 => ?_) (fun b32 => ?_)
              · refine Ew_of (pcₚ := 121) (fun _ => x_ldc2 (z := -1) rfl (by decide)) ?_
                have : IMP ((yc107_4_10) ≠ 0) (TLQ ((w14)) ((u4_9)) ((u4_8)) ((a1)) ((yc107_4_10), (yc107_4_11), 0, 0)) := by first | exact fun z => absurd z (by omega) | (intro _; have h := k107.1 (by omega); rw [show (yc107_4_10) = 3 by omega, show (yc107_4_11) = (u4_8) by omega]; exact h)
                have : IMP ((yc107_4_10) = 0) (TLQ ((w14)) ((u4_9)) ((u4_8)) ((a1)) (0, 0, ((-1)), (y13))) := by first | exact fun _ => k107.2 (by omega) | exact fun z => absurd z (by omega)
                exact w_lreturn rfl (k ((-1)) σ _ _ H (SF_trans (SF_trans (SF_trans (SF_refl) hS_10 (any_sub rfl)) hS10 (any_sub rfl)) hS_c107 (any_sub rfl)) (SA_trans (SA_trans (SA_trans (SA_refl) hA_10 (any_subA rfl)) hA11 (any_subA rfl)) hA_c107 (any_subA rfl)) (y13) (((hS_c107 4 8 rfl).trans (ey14))) (yc107_4_10) ((eyc107_4_10)) (yc107_4_11) ((eyc107_4_11)) (show inrJ ((-1)) from q_981) (show (u4_8) ≤ (y13) ∧ (y13) ≤ (u4_9) from q_1001 j10_2 j10_6 pz12_1) (show -1 ≤ ((-1)) ∧ ((-1)) ≤ a1 by first | exact q_1000 h1 | omega) (show ((-1)) = -1 ∧ (yc107_4_10) ≠ 0 ∨ 0 ≤ ((-1)) ∧ (yc107_4_10) = 0 by first | exact q_999 b32 | omega) (show 0 ≤ (yc107_4_10) ∧ (yc107_4_10) ≤ 20 from q_998 jc107_0) (show IMP ((yc107_4_10) ≠ 0) (TLQ ((w14)) ((u4_9)) ((u4_8)) (a1) ((yc107_4_10), (yc107_4_11), 0, 0)) by assumption) (show IMP ((yc107_4_10) = 0) (TLQ ((w14)) ((u4_9)) ((u4_8)) (a1) (0, 0, ((-1)), (y13))) by assumption))
              · refine Ew_of (pcₚ := 115) (fun _ => x_lload_n rfl lc107_3) ?_
                refine Ew_of (pcₚ := 121) (fun _ => x_goto rfl rfl) ?_
                have : IMP ((yc107_4_10) ≠ 0) (TLQ ((w14)) ((u4_9)) ((u4_8)) ((a1)) ((yc107_4_10), (yc107_4_11), 0, 0)) := by first | exact fun z => absurd z (by omega) | (intro _; have h := k107.1 (by omega); rw [show (yc107_4_10) = 3 by omega, show (yc107_4_11) = (u4_8) by omega]; exact h)
                have : IMP ((yc107_4_10) = 0) (TLQ ((w14)) ((u4_9)) ((u4_8)) ((a1)) (0, 0, (q74), (y13))) := by first | exact fun _ => k107.2 (by omega) | exact fun z => absurd z (by omega)
                exact w_lreturn rfl (k (q74) σ _ _ H (SF_trans (SF_trans (SF_trans (SF_refl) hS_10 (any_sub rfl)) hS10 (any_sub rfl)) hS_c107 (any_sub rfl)) (SA_trans (SA_trans (SA_trans (SA_refl) hA_10 (any_subA rfl)) hA11 (any_subA rfl)) hA_c107 (any_subA rfl)) (y13) (((hS_c107 4 8 rfl).trans (ey14))) (yc107_4_10) ((eyc107_4_10)) (yc107_4_11) ((eyc107_4_11)) (show inrJ (q74) from gq74) (show (u4_8) ≤ (y13) ∧ (y13) ≤ (u4_9) from q_1001 j10_2 j10_6 pz12_1) (show -1 ≤ (q74) ∧ (q74) ≤ a1 from q_1004 b32 h1 hpk jc107_0) (show (q74) = -1 ∧ (yc107_4_10) ≠ 0 ∨ 0 ≤ (q74) ∧ (yc107_4_10) = 0 from q_1003 b32 hpk) (show 0 ≤ (yc107_4_10) ∧ (yc107_4_10) ≤ 20 from q_1002 b32) (show IMP ((yc107_4_10) ≠ 0) (TLQ ((w14)) ((u4_9)) ((u4_8)) (a1) ((yc107_4_10), (yc107_4_11), 0, 0)) by assumption) (show IMP ((yc107_4_10) = 0) (TLQ ((w14)) ((u4_9)) ((u4_8)) (a1) (0, 0, (q74), (y13))) by assumption))
            refine Ew_of (pcₚ := 94) (fun _ => x_lload_n rfl rk2_s) ?_
            refine Ew_of (pcₚ := 95) (fun _ => x_iload_n rfl (rk2_o (rk2_o (l10_1) rfl rfl) rfl rfl)) ?_
            refine w_i2l rfl (show inr (a1) from h0) ?_
            refine w_lcmp rfl (show inrJ (q74) from gq74) (show inrJ (a1) from q_670 h1) (fun z33 gz33 gaz33 gbz33 => ?_)
            refine w_ifle (t := 107) rfl rfl (show inr (z33) from gz33) (fun b34 => ?_) (fun b34 => ?_)
            · exact hc107  _ σ _ _  (rk2_o (rk2_o (l10_0) rfl rfl) rfl rfl) (rk2_s) H (SF_refl) (SA_refl) (y15) ((ey16)) (y17) ((ey18))  (show (y15) = 0 ∧ (q74) ≤ (a1) ∨ (y15) = 3 ∧ (y17) = (u4_8) ∧ (a1) < (q74) by omega) (show TLz ((w14)) ((u4_9)) ((u4_8)) ((a1)) ((q74)) ((y13)) by assumption)
            · refine Ew_of (pcₚ := 101) (fun _ => x_aload_n rfl (rk2_o (rk2_o (l10_0) rfl rfl) rfl rfl)) ?_
              refine Ew_of (pcₚ := 102) (fun _ => x_iconst rfl) ?_
              refine Ew_of (pcₚ := 103) (fun _ => x_iload_n rfl (rk2_o (rk2_o (l10_2) rfl rfl) rfl rfl)) ?_
              refine w_inv H (o := 4) rfl rfl rfl (H.perm 4 rfl) rfl rfl (by rfl) (M335 H (y15) ((ey16)) (y17) ((ey18)) (show inr (3) from q_246) (show inr (u4_8) from q_286 r1) (fun z39 σ F35 A36 H hS37 hA38 y40 ey41 y42 ey43 pz39_0 pz39_1 pz39_2 => ⟨rretB rfl pz39_0, ?_⟩))
              have r44 : (-2147483648 : Int) ≤ y40 ∧ y40 ≤ 2147483647 := rngE (show (-2147483648 : Int) ≤ F35 4 10 ∧ F35 4 10 ≤ 2147483647 from H.frng 4 10) (show F35 4 10 = y40 from (ey41))
              have r45 : (-2147483648 : Int) ≤ y42 ∧ y42 ≤ 2147483647 := rngE (show (-2147483648 : Int) ≤ F35 4 11 ∧ F35 4 11 ≤ 2147483647 from H.frng 4 11) (show F35 4 11 = y42 from (ey43))
              refine Ew_of (pcₚ := 107) (fun _ => x_pop rfl rfl) ?_
              exact hc107  _ σ _ _  (rk2_o (rk2_o (l10_0) rfl rfl) rfl rfl) (rk2_s) H (SF_trans (SF_refl) hS37 (any_sub rfl)) (SA_trans (SA_refl) hA38 (any_subA rfl)) (y40) ((ey41)) (y42) ((ey43))  (show (y40) = 0 ∧ (q74) ≤ (a1) ∨ (y40) = 3 ∧ (y42) = (u4_8) ∧ (a1) < (q74) by omega) (show TLz ((w14)) ((u4_9)) ((u4_8)) ((a1)) ((q74)) ((y13)) by assumption)
        · refine Ew_of (pcₚ := 42) (fun _ => x_lload rfl rk2_s) ?_
          refine Ew_of (pcₚ := 45) (fun _ => x_ldc2 (z := 15) rfl (by decide)) ?_
          refine w_lcmp rfl (show inrJ (z12) from pz12_0) (show inrJ (15) from q_1005) (fun z46 gz46 gaz46 gbz46 => ?_)
          refine w_ifle (t := 60) rfl rfl (show inr (z46) from gz46) (fun b47 => ?_) (fun b47 => ?_)
          · refine Ew_of (pcₚ := 61) (fun _ => x_lload_n rfl (rk2_o (l10_3) rfl rfl)) ?_
            refine Ew_of (pcₚ := 63) (fun _ => x_lload rfl rk2_s) ?_
            refine Ew_of (pcₚ := 66) (fun _ => x_ldc2 (z := 127) rfl (by decide)) ?_
            refine w_landE rfl ?_
            have g48 : inrJ (anJ (z12) (127)) := toJ_inr _
            obtain ⟨q66, hq66⟩ : ∃ q : Int, q = ((anJ (z12) (127))) := ⟨_, rfl⟩
            rw [← hq66]
            have gq66 : inrJ q66 := by rw [hq66]; first | assumption | omega
            replace hq66 : IMP True (q66 = ((anJ (z12) (127)))) := fun _ => hq66
            try clear g48
            have hq66e : q66 = (z12) % 128 := (hq66 trivial).trans (anJ_127 _)
            (try clear hq66)
            refine Ew_of (pcₚ := 69) (fun _ => x_bipush (z := 7) rfl (by decide)) ?_
            refine Ew_of (pcₚ := 71) (fun _ => x_iload rfl (rk2_o (l10_5) rfl rfl)) ?_
            refine w_imul rfl ?_
            refine w_lshlE rfl ?_
            have g49 : inrJ (shlJ (q66) ((7 * x10_5))) := toJ_inr _
            refine w_lorE rfl ?_
            have g50 : inrJ (orJ (x10_3) ((shlJ (q66) ((7 * x10_5))))) := toJ_inr _
            obtain ⟨q74, hq74⟩ : ∃ q : Int, q = ((orJ (x10_3) ((shlJ (q66) ((7 * x10_5)))))) := ⟨_, rfl⟩
            rw [← hq74]
            have gq74 : inrJ q74 := by rw [hq74]; first | assumption | omega
            replace hq74 : IMP True (q74 = ((orJ (x10_3) ((shlJ (q66) ((7 * x10_5))))))) := fun _ => hq74
            try clear g50
            try clear g49
            have hpk : q74 = (x10_3) + q66 * p2 (7 * (x10_5)) ∧ q74 < p2 (7 * ((x10_5) + 1)) ∧ 0 ≤ q74 ∧ q74 ≤ 34359738367 := TL_s (j10_p trivial) (hq74 trivial) (by omega) (by omega) (by omega)
            obtain ⟨hb2q, hp74, hq74a, hq74b⟩ := id hpk
            replace hp74 : IMP True (q74 < p2 (7 * ((x10_5) + 1))) := fun _ => hp74
            (try clear hq74)
            have hb2 : IMP True (q74 = (x10_3) + (z12) % 128 * p2 (7 * (x10_5))) := fun _ => by rw [← hq66e]; exact hb2q
            (try clear hb2q)
            refine Ew_of (pcₚ := 75) (fun _ => x_lstore_n rfl) ?_
            refine Ew_of (pcₚ := 77) (fun _ => x_lload rfl (rk2_o (rk2_s) rfl rfl)) ?_
            refine Ew_of (pcₚ := 80) (fun _ => x_ldc2 (z := 128) rfl (by decide)) ?_
            refine w_lcmp rfl (show inrJ (z12) from pz12_0) (show inrJ (128) from q_993) (fun z51 gz51 gaz51 gbz51 => ?_)
            refine w_ifge (t := 87) rfl rfl (show inr (z51) from gz51) (fun b52 => ?_) (fun b52 => ?_)
            · have : TLO ((w14)) ((u4_9)) ((u4_8)) ((a1)) ((x10_5) + 1) ((q74)) := TLO_s (q := qa) j10_q (by omega) (by omega) (by omega) hb1 (by omega) rfl (hb2 trivial)
              have : IMP True ((q74) < p2 (7 * ((x10_5) + 1))) := hp74
              refine Ew_of (pcₚ := 90) (fun _ => x_iinc (len := 3) rfl (rk2_o (rk2_o (l10_5) rfl rfl) rfl rfl)) ?_
              refine Ew_of (pcₚ := 10) (fun _ => x_goto rfl rfl) ?_
              exact ih10 _ (msE hm10 q_996 (q_1007 b24)) _ σ _ _ (q74) ((x10_5 + 1)) (rk_o (rk2_o (rk2_o (l10_0) rfl rfl) rfl rfl) rfl rfl) (rk_o (rk2_o (rk2_o (l10_1) rfl rfl) rfl rfl) rfl rfl) (rk_o (rk2_o (rk2_o (l10_2) rfl rfl) rfl rfl) rfl rfl) (rk_o (rk2_s) rfl rfl) (rk_s) H (SF_trans (hS_10) hS10 (any_sub rfl)) (SA_trans (hA_10) hA11 (any_subA rfl)) (y13) ((ey14)) (y15) ((ey16))  (show inrJ (q74) from gq74) (show inr ((x10_5 + 1)) from q_1006 b24) (show 0 ≤ ((x10_5 + 1)) ∧ ((x10_5 + 1)) ≤ 4 by omega) (show 0 ≤ (q74) ∧ (q74) ≤ 34359738367 from q_994 hpk) (show IMP True ((q74) < p2 (7 * ((x10_5 + 1)))) by assumption) (show (y15) = 0 by omega) (show (y13) = (u4_8) + ((x10_5 + 1)) ∧ (y13) ≤ (u4_9) by omega) (show TLO ((w14)) ((u4_9)) ((u4_8)) ((a1)) (((x10_5 + 1))) ((q74)) by assumption) rfl
            · have : TLz ((w14)) ((u4_9)) ((u4_8)) ((a1)) ((q74)) ((y13)) := TLO_z (q := qa) j10_q (by omega) (by omega) (by omega) hb1 (by omega) (hb2 trivial) (by omega)
              refine Ew_of (pcₚ := 93) (fun _ => x_goto rfl rfl) ?_
              have hc107 : ∀ (ls : rO) (σ : rS) (F_c107 : hF) (A_c107 : hA) , rlook ls 0 = some (.ref (D 4)) → rlook ls 3 = some (J (q74)) → HS σ0 σ D N F_c107 A_c107 → SF [(4, 10), (4, 11)] F8 F_c107 → SA [] A9 A_c107 → ∀ yc107_4_10 : Int, F_c107 4 10 = yc107_4_10 → ∀ yc107_4_11 : Int, F_c107 4 11 = yc107_4_11 → ((yc107_4_10) = 0 ∧ (q74) ≤ (a1) ∨ (yc107_4_10) = 3 ∧ (yc107_4_11) = (u4_8) ∧ (a1) < (q74)) → (TLz ((w14)) ((u4_9)) ((u4_8)) ((a1)) ((q74)) ((y13))) → Ew 337 (d + 2) 107 ls [] σ c s Q := by
               as_aux_lemma =>
                intro  ls σ F_c107 A_c107  lc107_0 lc107_3 H hS_c107 hA_c107 yc107_4_10 eyc107_4_10 yc107_4_11 eyc107_4_11  jc107_0 jc107_1
                have r53 : (-2147483648 : Int) ≤ yc107_4_10 ∧ yc107_4_10 ≤ 2147483647 := rngE (show (-2147483648 : Int) ≤ F_c107 4 10 ∧ F_c107 4 10 ≤ 2147483647 from H.frng 4 10) (show F_c107 4 10 = yc107_4_10 from (eyc107_4_10))
                have r54 : (-2147483648 : Int) ≤ yc107_4_11 ∧ yc107_4_11 ≤ 2147483647 := rngE (show (-2147483648 : Int) ≤ F_c107 4 11 ∧ F_c107 4 11 ≤ 2147483647 from H.frng 4 11) (show F_c107 4 11 = yc107_4_11 from (eyc107_4_11))
                have k107 : TLz ((w14)) ((u4_9)) ((u4_8)) ((a1)) ((q74)) ((y13)) := jc107_1
                refine Ew_of (pcₚ := 108) (fun _ => x_aload_n rfl lc107_0) ?_
                refine w_gI H (o := 4) (w := yc107_4_10) rfl (H.perm 4 rfl) rfl rfl rfl (fun _ => rfl) (eyc107_4_10) ?_
                refine w_ifne (t := 118) rfl rfl (show inr (yc107_4_10) from q_18 r53) (fun b55 => ?_) (fun b55 => ?_)
                · refine Ew_of (pcₚ := 121) (fun _ => x_ldc2 (z := -1) rfl (by decide)) ?_
                  have : IMP ((yc107_4_10) ≠ 0) (TLQ ((w14)) ((u4_9)) ((u4_8)) ((a1)) ((yc107_4_10), (yc107_4_11), 0, 0)) := by first | exact fun z => absurd z (by omega) | (intro _; have h := k107.1 (by omega); rw [show (yc107_4_10) = 3 by omega, show (yc107_4_11) = (u4_8) by omega]; exact h)
                  have : IMP ((yc107_4_10) = 0) (TLQ ((w14)) ((u4_9)) ((u4_8)) ((a1)) (0, 0, ((-1)), (y13))) := by first | exact fun _ => k107.2 (by omega) | exact fun z => absurd z (by omega)
                  exact w_lreturn rfl (k ((-1)) σ _ _ H (SF_trans (SF_trans (SF_trans (SF_refl) hS_10 (any_sub rfl)) hS10 (any_sub rfl)) hS_c107 (any_sub rfl)) (SA_trans (SA_trans (SA_trans (SA_refl) hA_10 (any_subA rfl)) hA11 (any_subA rfl)) hA_c107 (any_subA rfl)) (y13) (((hS_c107 4 8 rfl).trans (ey14))) (yc107_4_10) ((eyc107_4_10)) (yc107_4_11) ((eyc107_4_11)) (show inrJ ((-1)) from q_981) (show (u4_8) ≤ (y13) ∧ (y13) ≤ (u4_9) from q_1008 b24 j10_6 pz12_1 r1 r19) (show -1 ≤ ((-1)) ∧ ((-1)) ≤ a1 by first | exact q_1000 h1 | omega) (show ((-1)) = -1 ∧ (yc107_4_10) ≠ 0 ∨ 0 ≤ ((-1)) ∧ (yc107_4_10) = 0 by first | exact q_999 b55 | omega) (show 0 ≤ (yc107_4_10) ∧ (yc107_4_10) ≤ 20 from q_998 jc107_0) (show IMP ((yc107_4_10) ≠ 0) (TLQ ((w14)) ((u4_9)) ((u4_8)) (a1) ((yc107_4_10), (yc107_4_11), 0, 0)) by assumption) (show IMP ((yc107_4_10) = 0) (TLQ ((w14)) ((u4_9)) ((u4_8)) (a1) (0, 0, ((-1)), (y13))) by assumption))
                · refine Ew_of (pcₚ := 115) (fun _ => x_lload_n rfl lc107_3) ?_
                  refine Ew_of (pcₚ := 121) (fun _ => x_goto rfl rfl) ?_
                  have : IMP ((yc107_4_10) ≠ 0) (TLQ ((w14)) ((u4_9)) ((u4_8)) ((a1)) ((yc107_4_10), (yc107_4_11), 0, 0)) := by first | exact fun z => absurd z (by omega) | (intro _; have h := k107.1 (by omega); rw [show (yc107_4_10) = 3 by omega, show (yc107_4_11) = (u4_8) by omega]; exact h)
                  have : IMP ((yc107_4_10) = 0) (TLQ ((w14)) ((u4_9)) ((u4_8)) ((a1)) (0, 0, (q74), (y13))) := by first | exact fun _ => k107.2 (by omega) | exact fun z => absurd z (by omega)
                  exact w_lreturn rfl (k (q74) σ _ _ H (SF_trans (SF_trans (SF_trans (SF_refl) hS_10 (any_sub rfl)) hS10 (any_sub rfl)) hS_c107 (any_sub rfl)) (SA_trans (SA_trans (SA_trans (SA_refl) hA_10 (any_subA rfl)) hA11 (any_subA rfl)) hA_c107 (any_subA rfl)) (y13) (((hS_c107 4 8 rfl).trans (ey14))) (yc107_4_10) ((eyc107_4_10)) (yc107_4_11) ((eyc107_4_11)) (show inrJ (q74) from gq74) (show (u4_8) ≤ (y13) ∧ (y13) ≤ (u4_9) from q_1008 b24 j10_6 pz12_1 r1 r19) (show -1 ≤ (q74) ∧ (q74) ≤ a1 from q_1004 b55 h1 hpk jc107_0) (show (q74) = -1 ∧ (yc107_4_10) ≠ 0 ∨ 0 ≤ (q74) ∧ (yc107_4_10) = 0 from q_1003 b55 hpk) (show 0 ≤ (yc107_4_10) ∧ (yc107_4_10) ≤ 20 from q_1002 b55) (show IMP ((yc107_4_10) ≠ 0) (TLQ ((w14)) ((u4_9)) ((u4_8)) (a1) ((yc107_4_10), (yc107_4_11), 0, 0)) by assumption) (show IMP ((yc107_4_10) = 0) (TLQ ((w14)) ((u4_9)) ((u4_8)) (a1) (0, 0, (q74), (y13))) by assumption))
              refine Ew_of (pcₚ := 94) (fun _ => x_lload_n rfl rk2_s) ?_
              refine Ew_of (pcₚ := 95) (fun _ => x_iload_n rfl (rk2_o (rk2_o (l10_1) rfl rfl) rfl rfl)) ?_
              refine w_i2l rfl (show inr (a1) from h0) ?_
              refine w_lcmp rfl (show inrJ (q74) from gq74) (show inrJ (a1) from q_670 h1) (fun z56 gz56 gaz56 gbz56 => ?_)
              refine w_ifle (t := 107) rfl rfl (show inr (z56) from gz56) (fun b57 => ?_) (fun b57 => ?_)
              · exact hc107  _ σ _ _  (rk2_o (rk2_o (l10_0) rfl rfl) rfl rfl) (rk2_s) H (SF_refl) (SA_refl) (y15) ((ey16)) (y17) ((ey18))  (show (y15) = 0 ∧ (q74) ≤ (a1) ∨ (y15) = 3 ∧ (y17) = (u4_8) ∧ (a1) < (q74) by omega) (show TLz ((w14)) ((u4_9)) ((u4_8)) ((a1)) ((q74)) ((y13)) by assumption)
              · refine Ew_of (pcₚ := 101) (fun _ => x_aload_n rfl (rk2_o (rk2_o (l10_0) rfl rfl) rfl rfl)) ?_
                refine Ew_of (pcₚ := 102) (fun _ => x_iconst rfl) ?_
                refine Ew_of (pcₚ := 103) (fun _ => x_iload_n rfl (rk2_o (rk2_o (l10_2) rfl rfl) rfl rfl)) ?_
                refine w_inv H (o := 4) rfl rfl rfl (H.perm 4 rfl) rfl rfl (by rfl) (M335 H (y15) ((ey16)) (y17) ((ey18)) (show inr (3) from q_246) (show inr (u4_8) from q_286 r1) (fun z62 σ F58 A59 H hS60 hA61 y63 ey64 y65 ey66 pz62_0 pz62_1 pz62_2 => ⟨rretB rfl pz62_0, ?_⟩))
                have r67 : (-2147483648 : Int) ≤ y63 ∧ y63 ≤ 2147483647 := rngE (show (-2147483648 : Int) ≤ F58 4 10 ∧ F58 4 10 ≤ 2147483647 from H.frng 4 10) (show F58 4 10 = y63 from (ey64))
                have r68 : (-2147483648 : Int) ≤ y65 ∧ y65 ≤ 2147483647 := rngE (show (-2147483648 : Int) ≤ F58 4 11 ∧ F58 4 11 ≤ 2147483647 from H.frng 4 11) (show F58 4 11 = y65 from (ey66))
                refine Ew_of (pcₚ := 107) (fun _ => x_pop rfl rfl) ?_
                exact hc107  _ σ _ _  (rk2_o (rk2_o (l10_0) rfl rfl) rfl rfl) (rk2_s) H (SF_trans (SF_refl) hS60 (any_sub rfl)) (SA_trans (SA_refl) hA61 (any_subA rfl)) (y63) ((ey64)) (y65) ((ey66))  (show (y63) = 0 ∧ (q74) ≤ (a1) ∨ (y63) = 3 ∧ (y65) = (u4_8) ∧ (a1) < (q74) by omega) (show TLz ((w14)) ((u4_9)) ((u4_8)) ((a1)) ((q74)) ((y13)) by assumption)
          · refine Ew_of (pcₚ := 50) (fun _ => x_aload_n rfl (rk2_o (l10_0) rfl rfl)) ?_
            refine Ew_of (pcₚ := 51) (fun _ => x_iconst rfl) ?_
            refine Ew_of (pcₚ := 52) (fun _ => x_iload_n rfl (rk2_o (l10_2) rfl rfl)) ?_
            refine w_inv H (o := 4) rfl rfl rfl (H.perm 4 rfl) rfl rfl (by rfl) (M335 H (y15) ((ey16)) (y17) ((ey18)) (show inr (2) from q_122) (show inr (u4_8) from q_286 r1) (fun z73 σ F69 A70 H hS71 hA72 y74 ey75 y76 ey77 pz73_0 pz73_1 pz73_2 => ⟨rretB rfl pz73_0, ?_⟩))
            have r78 : (-2147483648 : Int) ≤ y74 ∧ y74 ≤ 2147483647 := rngE (show (-2147483648 : Int) ≤ F69 4 10 ∧ F69 4 10 ≤ 2147483647 from H.frng 4 10) (show F69 4 10 = y74 from (ey75))
            have r79 : (-2147483648 : Int) ≤ y76 ∧ y76 ≤ 2147483647 := rngE (show (-2147483648 : Int) ≤ F69 4 11 ∧ F69 4 11 ≤ 2147483647 from H.frng 4 11) (show F69 4 11 = y76 from (ey77))
            refine Ew_of (pcₚ := 56) (fun _ => x_pop rfl rfl) ?_
            refine Ew_of (pcₚ := 59) (fun _ => x_ldc2 (z := -1) rfl (by decide)) ?_
            have : IMP ((y74) ≠ 0) (TLQ ((w14)) ((u4_9)) ((u4_8)) ((a1)) ((y74), (y76), 0, 0)) := fun _ => TLO_2 (q := qa) j10_q (by omega) (by omega) (by omega) hb1 (by omega) (by omega) (by omega)
            have : IMP ((y74) = 0) (TLQ ((w14)) ((u4_9)) ((u4_8)) ((a1)) (0, 0, (-1), (y13))) := fun z => absurd z (by omega)
            exact w_lreturn rfl (k ((-1)) σ _ _ H (SF_trans (SF_trans (SF_trans (SF_refl) hS_10 (any_sub rfl)) hS10 (any_sub rfl)) hS71 (any_sub rfl)) (SA_trans (SA_trans (SA_trans (SA_refl) hA_10 (any_subA rfl)) hA11 (any_subA rfl)) hA72 (any_subA rfl)) (y13) (((hS71 4 8 rfl).trans (ey14))) (y74) ((ey75)) (y76) ((ey77)) (show inrJ ((-1)) from q_981) (show (u4_8) ≤ (y13) ∧ (y13) ≤ (u4_9) from q_1008 b24 j10_6 pz12_1 r1 r19) (show -1 ≤ ((-1)) ∧ ((-1)) ≤ a1 by first | exact q_1000 h1 | omega) (show ((-1)) = -1 ∧ (y74) ≠ 0 ∨ 0 ≤ ((-1)) ∧ (y74) = 0 by omega) (show 0 ≤ (y74) ∧ (y74) ≤ 20 from q_1009 hsum pz73_2) (show IMP ((y74) ≠ 0) (TLQ ((w14)) ((u4_9)) ((u4_8)) (a1) ((y74), (y76), 0, 0)) by assumption) (show IMP ((y74) = 0) (TLQ ((w14)) ((u4_9)) ((u4_8)) (a1) (0, 0, ((-1)), (y13))) by assumption))
      · refine Ew_of (pcₚ := 33) (fun _ => x_ldc2 (z := -1) rfl (by decide)) ?_
        have : IMP ((y15) ≠ 0) (TLQ ((w14)) ((u4_9)) ((u4_8)) ((a1)) ((y15), (y17), 0, 0)) := fun _ => TLO_1 (q := qa) j10_q (by omega) (by omega) (by omega) (by omega)
        have : IMP ((y15) = 0) (TLQ ((w14)) ((u4_9)) ((u4_8)) ((a1)) (0, 0, (-1), (y13))) := fun z => absurd z (by omega)
        exact w_lreturn rfl (k ((-1)) σ _ _ H (SF_trans (SF_trans (SF_refl) hS_10 (any_sub rfl)) hS10 (any_sub rfl)) (SA_trans (SA_trans (SA_refl) hA_10 (any_subA rfl)) hA11 (any_subA rfl)) (y13) ((ey14)) (y15) ((ey16)) (y17) ((ey18)) (show inrJ ((-1)) from q_981) (show (u4_8) ≤ (y13) ∧ (y13) ≤ (u4_9) from q_1001 j10_2 j10_6 pz12_1) (show -1 ≤ ((-1)) ∧ ((-1)) ≤ a1 by first | exact q_1000 h1 | omega) (show ((-1)) = -1 ∧ (y15) ≠ 0 ∨ 0 ≤ ((-1)) ∧ (y15) = 0 by omega) (show 0 ≤ (y15) ∧ (y15) ≤ 20 from q_1010 hsum) (show IMP ((y15) ≠ 0) (TLQ ((w14)) ((u4_9)) ((u4_8)) (a1) ((y15), (y17), 0, 0)) by assumption) (show IMP ((y15) = 0) (TLQ ((w14)) ((u4_9)) ((u4_8)) (a1) (0, 0, ((-1)), (y13))) by assumption))

theorem M338 {σ0 σ : rS} {D N : Nat → Nat} {F : hF} {A : hA} {d c s : Nat} {Q : wQ} (H : HS σ0 σ D N F A) {a1 a2 a3 a4 a5 : Int} (u4_2 : Int) (eu4_2 : F 4 2 = u4_2) (u4_10 : Int) (eu4_10 : F 4 10 = u4_10) (u4_11 : Int) (eu4_11 : F 4 11 = u4_11) (h0 : inr (a1)) (h1 : inr (a2)) (h2 : inrJ (a3)) (h3 : inrJ (a4)) (h4 : inrJ (a5)) (h5 : 0 ≤ (a2) ∧ (a2) ≤ (u4_2) ∧ (u4_2) ≤ 70000) (h6 : -1000 ≤ (a3) ∧ (a3) ≤ 10000000000) (h7 : 0 ≤ (a3) ∨ (u4_10) ≠ 0) (h8 : 0 ≤ (a4) ∧ (a4) ≤ 100) (h9 : -1 ≤ (a5) ∧ (a5) ≤ 65536) (k : ∀ (z : Int) σ Fₚ Aₚ, HS σ0 σ D N Fₚ Aₚ → SF [(4, 10), (4, 11)] F Fₚ → SA [] A Aₚ → ∀ y4_10 : Int, Fₚ 4 10 = y4_10 → ∀ y4_11 : Int, Fₚ 4 11 = y4_11 → ((z) = 0 ∨ (z) = 1) → ((z) = 1 → (u4_10) = 0 ∧ (y4_10) = 0 ∧ 1 ≤ (a3) ∧ (a3) ≤ (u4_2) - (a2) ∧ (u4_2) - (a2) + (a4) ≤ (a5)) → ((u4_10) = 0 ∨ (y4_10) = (u4_10) ∧ (y4_11) = (u4_11)) → ((u4_10) ≠ 0 ∨ (z) = 1 ∨ (y4_11) = (a1) ∧ ((y4_10) = 4 ∧ ((a3) = 0 ∨ (u4_2) - (a2) < (a3)) ∨ (y4_10) = 5 ∧ 1 ≤ (a3) ∧ (a3) ≤ (u4_2) - (a2) ∧ (a5) < (u4_2) - (a2) + (a4))) → Q (some (I z)) σ c s) : Ew 338 (d + 1) 0 (rargs 0 [.ref (D 4), I a1, I a2, J a3, J a4, J a5]) [] σ c s Q := by
  have r1 : (-2147483648 : Int) ≤ u4_2 ∧ u4_2 ≤ 2147483647 := rngE (show (-2147483648 : Int) ≤ F 4 2 ∧ F 4 2 ≤ 2147483647 from H.frng 4 2) (show F 4 2 = u4_2 from (eu4_2))
  have r2 : (-2147483648 : Int) ≤ u4_10 ∧ u4_10 ≤ 2147483647 := rngE (show (-2147483648 : Int) ≤ F 4 10 ∧ F 4 10 ≤ 2147483647 from H.frng 4 10) (show F 4 10 = u4_10 from (eu4_10))
  have r3 : (-2147483648 : Int) ≤ u4_11 ∧ u4_11 ≤ 2147483647 := rngE (show (-2147483648 : Int) ≤ F 4 11 ∧ F 4 11 ≤ 2147483647 from H.frng 4 11) (show F 4 11 = u4_11 from (eu4_11))
  refine Ew_of (pcₚ := 1) (fun _ => x_aload_n rfl rfl) ?_
  refine w_gI H (o := 4) (w := u4_10) rfl (H.perm 4 rfl) rfl rfl rfl (fun _ => rfl) (eu4_10) ?_
  refine w_ifeq (t := 9) rfl rfl (show inr (u4_10) from q_18 r2) (fun b4 => ?_) (fun b4 => ?_)
  · refine Ew_of (pcₚ := 10) (fun _ => x_aload_n rfl rfl) ?_
    refine w_gI H (o := 4) (w := u4_2) rfl (H.perm 4 rfl) rfl rfl rfl (fun _ => rfl) (eu4_2) ?_
    refine Ew_of (pcₚ := 14) (fun _ => x_iload_n rfl rfl) ?_
    refine w_isub rfl ?_
    refine Ew_of (pcₚ := 17) (fun _ => x_istore rfl) ?_
    refine Ew_of (pcₚ := 18) (fun _ => x_lload_n rfl (rk_o (rfl) rfl rfl)) ?_
    refine Ew_of (pcₚ := 19) (fun _ => x_lconst (z := 0) rfl (by decide)) ?_
    refine w_lcmp rfl (show inrJ (a3) from h2) (show inrJ (0) from q_340) (fun z5 gz5 gaz5 gbz5 => ?_)
    refine w_ifeq (t := 31) rfl rfl (show inr (z5) from gz5) (fun b6 => ?_) (fun b6 => ?_)
    · refine Ew_of (pcₚ := 32) (fun _ => x_aload_n rfl (rk_o (rfl) rfl rfl)) ?_
      refine Ew_of (pcₚ := 33) (fun _ => x_iconst rfl) ?_
      refine Ew_of (pcₚ := 34) (fun _ => x_iload_n rfl (rk_o (rfl) rfl rfl)) ?_
      refine w_inv H (o := 4) rfl rfl rfl (H.perm 4 rfl) rfl rfl (by rfl) (M335 H (u4_10) ((eu4_10)) (u4_11) ((eu4_11)) (show inr (4) from q_216) (show inr (a1) from h0) (fun z11 σ F7 A8 H hS9 hA10 y12 ey13 y14 ey15 pz11_0 pz11_1 pz11_2 => ⟨rretB rfl pz11_0, ?_⟩))
      have r16 : (-2147483648 : Int) ≤ y12 ∧ y12 ≤ 2147483647 := rngE (show (-2147483648 : Int) ≤ F7 4 10 ∧ F7 4 10 ≤ 2147483647 from H.frng 4 10) (show F7 4 10 = y12 from (ey13))
      have r17 : (-2147483648 : Int) ≤ y14 ∧ y14 ≤ 2147483647 := rngE (show (-2147483648 : Int) ≤ F7 4 11 ∧ F7 4 11 ≤ 2147483647 from H.frng 4 11) (show F7 4 11 = y14 from (ey15))
      exact w_ireturn rfl (k (z11) σ _ _ H (SF_trans (SF_refl) hS9 (any_sub rfl)) (SA_trans (SA_refl) hA10 (any_subA rfl)) (y12) ((ey13)) (y14) ((ey15)) (show (z11) = 0 ∨ (z11) = 1 from pz11_0) (show (z11) = 1 → (u4_10) = 0 ∧ (y12) = 0 ∧ 1 ≤ a3 ∧ a3 ≤ (u4_2) - a2 ∧ (u4_2) - a2 + a4 ≤ a5 from q_1012 b4 h5 h6 h8 h9 pz11_1 r16) (show (u4_10) = 0 ∨ (y12) = (u4_10) ∧ (y14) = (u4_11) from q_1011 b4) (show (u4_10) ≠ 0 ∨ (z11) = 1 ∨ (y14) = a1 ∧ ((y12) = 4 ∧ (a3 = 0 ∨ (u4_2) - a2 < a3) ∨ (y12) = 5 ∧ 1 ≤ a3 ∧ a3 ≤ (u4_2) - a2 ∧ a5 < (u4_2) - a2 + a4) by omega))
    · refine Ew_of (pcₚ := 24) (fun _ => x_lload_n rfl (rk_o (rfl) rfl rfl)) ?_
      refine Ew_of (pcₚ := 26) (fun _ => x_iload rfl rk_s) ?_
      refine w_i2l rfl (show inr ((u4_2 - a2)) from q_570 h5) ?_
      refine w_lcmp rfl (show inrJ (a3) from h2) (show inrJ ((u4_2 - a2)) from q_1013 h5) (fun z18 gz18 gaz18 gbz18 => ?_)
      refine w_ifle (t := 38) rfl rfl (show inr (z18) from gz18) (fun b19 => ?_) (fun b19 => ?_)
      · refine Ew_of (pcₚ := 40) (fun _ => x_iload rfl rk_s) ?_
        refine w_i2l rfl (show inr ((u4_2 - a2)) from q_570 h5) ?_
        refine Ew_of (pcₚ := 43) (fun _ => x_lload rfl (rk_o (rfl) rfl rfl)) ?_
        refine w_ladd rfl ?_
        refine Ew_of (pcₚ := 46) (fun _ => x_lload rfl (rk_o (rfl) rfl rfl)) ?_
        refine w_lcmp rfl (show inrJ (((u4_2 - a2) + a4)) by omega) (show inrJ (a5) from h4) (fun z20 gz20 gaz20 gbz20 => ?_)
        refine w_ifle (t := 59) rfl rfl (show inr (z20) from gz20) (fun b21 => ?_) (fun b21 => ?_)
        · refine Ew_of (pcₚ := 60) (fun _ => x_iconst rfl) ?_
          refine Ew_of (pcₚ := 64) (fun _ => x_goto rfl rfl) ?_
          exact w_ireturn rfl (k (1) σ _ _ H (SF_refl) (SA_refl) (u4_10) ((eu4_10)) (u4_11) ((eu4_11)) (show (1) = 0 ∨ (1) = 1 by first | exact q_49 | omega) (show (1) = 1 → (u4_10) = 0 ∧ (u4_10) = 0 ∧ 1 ≤ a3 ∧ a3 ≤ (u4_2) - a2 ∧ (u4_2) - a2 + a4 ≤ a5 by omega) (show (u4_10) = 0 ∨ (u4_10) = (u4_10) ∧ (u4_11) = (u4_11) from q_1015 b4) (show (u4_10) ≠ 0 ∨ (1) = 1 ∨ (u4_11) = a1 ∧ ((u4_10) = 4 ∧ (a3 = 0 ∨ (u4_2) - a2 < a3) ∨ (u4_10) = 5 ∧ 1 ≤ a3 ∧ a3 ≤ (u4_2) - a2 ∧ a5 < (u4_2) - a2 + a4) by first | exact q_1014 | omega))
        · refine Ew_of (pcₚ := 51) (fun _ => x_aload_n rfl (rk_o (rfl) rfl rfl)) ?_
          refine Ew_of (pcₚ := 52) (fun _ => x_iconst rfl) ?_
          refine Ew_of (pcₚ := 53) (fun _ => x_iload_n rfl (rk_o (rfl) rfl rfl)) ?_
          refine w_inv H (o := 4) rfl rfl rfl (H.perm 4 rfl) rfl rfl (by rfl) (M335 H (u4_10) ((eu4_10)) (u4_11) ((eu4_11)) (show inr (5) from q_727) (show inr (a1) from h0) (fun z26 σ F22 A23 H hS24 hA25 y27 ey28 y29 ey30 pz26_0 pz26_1 pz26_2 => ⟨rretB rfl pz26_0, ?_⟩))
          have r31 : (-2147483648 : Int) ≤ y27 ∧ y27 ≤ 2147483647 := rngE (show (-2147483648 : Int) ≤ F22 4 10 ∧ F22 4 10 ≤ 2147483647 from H.frng 4 10) (show F22 4 10 = y27 from (ey28))
          have r32 : (-2147483648 : Int) ≤ y29 ∧ y29 ≤ 2147483647 := rngE (show (-2147483648 : Int) ≤ F22 4 11 ∧ F22 4 11 ≤ 2147483647 from H.frng 4 11) (show F22 4 11 = y29 from (ey30))
          refine w_ifeq (t := 63) rfl rfl (show inr (z26) from q_123 pz26_1) (fun b33 => ?_) (fun b33 => ?_)
          · refine Ew_of (pcₚ := 64) (fun _ => x_iconst rfl) ?_
            exact w_ireturn rfl (k (0) σ _ _ H (SF_trans (SF_refl) hS24 (any_sub rfl)) (SA_trans (SA_refl) hA25 (any_subA rfl)) (y27) ((ey28)) (y29) ((ey30)) (show (0) = 0 ∨ (0) = 1 by first | exact q_45 | omega) (show (0) = 1 → (u4_10) = 0 ∧ (y27) = 0 ∧ 1 ≤ a3 ∧ a3 ≤ (u4_2) - a2 ∧ (u4_2) - a2 + a4 ≤ a5 by first | exact q_1016 b4 h5 h6 h8 h9 r31 | omega) (show (u4_10) = 0 ∨ (y27) = (u4_10) ∧ (y29) = (u4_11) from q_1011 b4) (show (u4_10) ≠ 0 ∨ (0) = 1 ∨ (y29) = a1 ∧ ((y27) = 4 ∧ (a3 = 0 ∨ (u4_2) - a2 < a3) ∨ (y27) = 5 ∧ 1 ≤ a3 ∧ a3 ≤ (u4_2) - a2 ∧ a5 < (u4_2) - a2 + a4) by omega))
          · refine Ew_of (pcₚ := 60) (fun _ => x_iconst rfl) ?_
            refine Ew_of (pcₚ := 64) (fun _ => x_goto rfl rfl) ?_
            exact w_ireturn rfl (k (1) σ _ _ H (SF_trans (SF_refl) hS24 (any_sub rfl)) (SA_trans (SA_refl) hA25 (any_subA rfl)) (y27) ((ey28)) (y29) ((ey30)) (show (1) = 0 ∨ (1) = 1 by first | exact q_49 | omega) (show (1) = 1 → (u4_10) = 0 ∧ (y27) = 0 ∧ 1 ≤ a3 ∧ a3 ≤ (u4_2) - a2 ∧ (u4_2) - a2 + a4 ≤ a5 by omega) (show (u4_10) = 0 ∨ (y27) = (u4_10) ∧ (y29) = (u4_11) from q_1011 b4) (show (u4_10) ≠ 0 ∨ (1) = 1 ∨ (y29) = a1 ∧ ((y27) = 4 ∧ (a3 = 0 ∨ (u4_2) - a2 < a3) ∨ (y27) = 5 ∧ 1 ≤ a3 ∧ a3 ≤ (u4_2) - a2 ∧ a5 < (u4_2) - a2 + a4) by first | exact q_1017 | omega))
      · refine Ew_of (pcₚ := 32) (fun _ => x_aload_n rfl (rk_o (rfl) rfl rfl)) ?_
        refine Ew_of (pcₚ := 33) (fun _ => x_iconst rfl) ?_
        refine Ew_of (pcₚ := 34) (fun _ => x_iload_n rfl (rk_o (rfl) rfl rfl)) ?_
        refine w_inv H (o := 4) rfl rfl rfl (H.perm 4 rfl) rfl rfl (by rfl) (M335 H (u4_10) ((eu4_10)) (u4_11) ((eu4_11)) (show inr (4) from q_216) (show inr (a1) from h0) (fun z38 σ F34 A35 H hS36 hA37 y39 ey40 y41 ey42 pz38_0 pz38_1 pz38_2 => ⟨rretB rfl pz38_0, ?_⟩))
        have r43 : (-2147483648 : Int) ≤ y39 ∧ y39 ≤ 2147483647 := rngE (show (-2147483648 : Int) ≤ F34 4 10 ∧ F34 4 10 ≤ 2147483647 from H.frng 4 10) (show F34 4 10 = y39 from (ey40))
        have r44 : (-2147483648 : Int) ≤ y41 ∧ y41 ≤ 2147483647 := rngE (show (-2147483648 : Int) ≤ F34 4 11 ∧ F34 4 11 ≤ 2147483647 from H.frng 4 11) (show F34 4 11 = y41 from (ey42))
        exact w_ireturn rfl (k (z38) σ _ _ H (SF_trans (SF_refl) hS36 (any_sub rfl)) (SA_trans (SA_refl) hA37 (any_subA rfl)) (y39) ((ey40)) (y41) ((ey42)) (show (z38) = 0 ∨ (z38) = 1 from pz38_0) (show (z38) = 1 → (u4_10) = 0 ∧ (y39) = 0 ∧ 1 ≤ a3 ∧ a3 ≤ (u4_2) - a2 ∧ (u4_2) - a2 + a4 ≤ a5 from q_1012 b4 h5 h6 h8 h9 pz38_1 r43) (show (u4_10) = 0 ∨ (y39) = (u4_10) ∧ (y41) = (u4_11) from q_1011 b4) (show (u4_10) ≠ 0 ∨ (z38) = 1 ∨ (y41) = a1 ∧ ((y39) = 4 ∧ (a3 = 0 ∨ (u4_2) - a2 < a3) ∨ (y39) = 5 ∧ 1 ≤ a3 ∧ a3 ≤ (u4_2) - a2 ∧ a5 < (u4_2) - a2 + a4) by omega))
  · refine Ew_of (pcₚ := 8) (fun _ => x_iconst rfl) ?_
    exact w_ireturn rfl (k (0) σ _ _ H (SF_refl) (SA_refl) (u4_10) ((eu4_10)) (u4_11) ((eu4_11)) (show (0) = 0 ∨ (0) = 1 by first | exact q_45 | omega) (show (0) = 1 → (u4_10) = 0 ∧ (u4_10) = 0 ∧ 1 ≤ a3 ∧ a3 ≤ (u4_2) - a2 ∧ (u4_2) - a2 + a4 ≤ a5 by first | exact q_1020 h5 h6 h8 h9 r2 | omega) (show (u4_10) = 0 ∨ (u4_10) = (u4_10) ∧ (u4_11) = (u4_11) from q_1019) (show (u4_10) ≠ 0 ∨ (0) = 1 ∨ (u4_11) = a1 ∧ ((u4_10) = 4 ∧ (a3 = 0 ∨ (u4_2) - a2 < a3) ∨ (u4_10) = 5 ∧ 1 ≤ a3 ∧ a3 ≤ (u4_2) - a2 ∧ a5 < (u4_2) - a2 + a4) by first | exact q_1018 b4 | omega))
set_option maxHeartbeats 16000000 in
theorem M339 {σ0 σ : rS} {D N : Nat → Nat} {F : hF} {A : hA} {d c s : Nat} {Q : wQ} (H : HS σ0 σ D N F A) {a1 a2 a3 a4 : Int} (u4_2 : Int) (eu4_2 : F 4 2 = u4_2) (u4_8 : Int) (eu4_8 : F 4 8 = u4_8) (u4_9 : Int) (eu4_9 : F 4 9 = u4_9) (u4_10 : Int) (eu4_10 : F 4 10 = u4_10) (w14 : Int → Int) (ew14 : A 14 = w14) (w23 : Int → Int) (ew23 : A 23 = w23) (h0 : inr (a1)) (h1 : inr (a2)) (h2 : inr (a3)) (h3 : inrJ (a4)) (h4 : 0 ≤ (u4_8) ∧ (u4_8) ≤ (u4_9)) (h5 : 0 ≤ (a2) ∧ (a2) ≤ (u4_2) ∧ (u4_2) ≤ (a2) + (a4) ∧ (a2) + (a4) ≤ 65536) (h6 : 0 ≤ (a3) ∧ (a3) ≤ 63) (h7 : (u4_10) = 0) (h8 : (u4_8) = (a1) + 1 ∧ (a1) < (u4_9) ∧ 0 ≤ (a1)) (h9 : ((w14)) ((a1)) = 4 * (a3)) (k : ∀ σ Fₚ Aₚ, HS σ0 σ D N Fₚ Aₚ → SF [(4, 2), (4, 8), (4, 10), (4, 11)] F Fₚ → SA [23] A Aₚ → ∀ y4_2 : Int, Fₚ 4 2 = y4_2 → ∀ y4_8 : Int, Fₚ 4 8 = y4_8 → ∀ y4_10 : Int, Fₚ 4 10 = y4_10 → ∀ y4_11 : Int, Fₚ 4 11 = y4_11 → ∀ v23 : Int → Int, Aₚ 23 = v23 → ((u4_8) ≤ (y4_8) ∧ (y4_8) ≤ (u4_9)) → ((u4_2) ≤ (y4_2) ∧ (y4_2) ≤ (a2) + (a4)) → (0 ≤ (y4_10) ∧ (y4_10) ≤ 20) → (IMP ((y4_10) ≠ 0) (TYe ((w14)) ((u4_9)) ((a4)) ((a1), sc ((w23)) ((a2)) ((u4_2))) ((y4_10), (y4_11), []))) → (IMP ((y4_10) = 0) (TYs ((w14)) ((u4_9)) ((a4)) ((a1), sc ((w23)) ((a2)) ((u4_2))) ((y4_8), sc ((v23)) ((a2)) ((y4_2))))) → (KLO ((w23)) ((v23)) ((u4_2))) → Q none σ c s) : Ew 339 (d + 2) 0 (rargs 0 [.ref (D 4), I a1, I a2, I a3, J a4]) [] σ c s Q := by
  have r1 : (-2147483648 : Int) ≤ u4_2 ∧ u4_2 ≤ 2147483647 := rngE (show (-2147483648 : Int) ≤ F 4 2 ∧ F 4 2 ≤ 2147483647 from H.frng 4 2) (show F 4 2 = u4_2 from (eu4_2))
  have r2 : (0 : Int) ≤ u4_8 ∧ u4_8 ≤ 65536 := rngE (show (0 : Int) ≤ F 4 8 ∧ F 4 8 ≤ 65536 from H.frng 4 8) (show F 4 8 = u4_8 from (eu4_8))
  have r3 : (0 : Int) ≤ u4_9 ∧ u4_9 ≤ 65536 := rngE (show (0 : Int) ≤ F 4 9 ∧ F 4 9 ≤ 65536 from H.frng 4 9) (show F 4 9 = u4_9 from (eu4_9))
  have r4 : (-2147483648 : Int) ≤ u4_10 ∧ u4_10 ≤ 2147483647 := rngE (show (-2147483648 : Int) ≤ F 4 10 ∧ F 4 10 ≤ 2147483647 from H.frng 4 10) (show F 4 10 = u4_10 from (eu4_10))
  have hBd : ∀ i, (0 : Int) ≤ (w14) i ∧ (w14) i ≤ 255 := fun i => by have h1 : (0 : Int) ≤ A 14 i ∧ A 14 i ≤ 255 := H.arng 14 i; rw [show A 14 = w14 from ew14] at h1; exact h1
  have hte : (a3) < 60 ∧ TEb (4 * (a3)) = 0 ∨ 60 ≤ (a3) ∧ TEb (4 * (a3)) = (a3) - 59 := by have w := TEb_eq (4 * (a3)) (by omega); omega
  have hI0 : ((w14)) ((a1)) = 4 * (a3) := h9
  refine Ew_of (pcₚ := 1) (fun _ => x_iload_n rfl rfl) ?_
  have r5 : (-2147483648 : Int) ≤ F 4 11 ∧ F 4 11 ≤ 2147483647 := H.frng 4 11
  have hc23 : ∀ (tc23_0 : Int), ∀ (ls : rO) (σ : rS) (F_c23 : hF) (A_c23 : hA) , rlook ls 0 = some (.ref (D 4)) → rlook ls 1 = some (I (a1)) → rlook ls 2 = some (I (a2)) → rlook ls 4 = some (J (a4)) → HS σ0 σ D N F_c23 A_c23 → SF [(4, 8), (4, 10), (4, 11)] F F_c23 → SA [] A A_c23 → ∀ yc23_4_8 : Int, F_c23 4 8 = yc23_4_8 → ∀ yc23_4_10 : Int, F_c23 4 10 = yc23_4_10 → ∀ yc23_4_11 : Int, F_c23 4 11 = yc23_4_11 → (inrJ (tc23_0)) → (1 ≤ (tc23_0) ∧ (tc23_0) ≤ 4294967296 ∨ (yc23_4_10) ≠ 0) → (0 ≤ (tc23_0) ∧ (tc23_0) ≤ 4294967296) → ((u4_8) ≤ (yc23_4_8) ∧ (yc23_4_8) ≤ (u4_9)) → ((yc23_4_10) = 0 ∧ (yc23_4_8) = (a1) + 1 + TEb (4 * (a3)) ∨ (yc23_4_10) = 1 ∧ (yc23_4_11) = (u4_9) ∧ (u4_9) < (a1) + 1 + TEb (4 * (a3))) → (IMP ((yc23_4_10) = 0) (∃ x, TYt ((w14)) ((a1)) (4 * (a3)) (TEb (4 * (a3))) x ((tc23_0)) x)) → Ew 339 (d + 2) 23 ls [J (tc23_0)] σ c s Q := by
   as_aux_lemma =>
    intro tc23_0 ls σ F_c23 A_c23  lc23_0 lc23_1 lc23_2 lc23_4 H hS_c23 hA_c23 yc23_4_8 eyc23_4_8 yc23_4_10 eyc23_4_10 yc23_4_11 eyc23_4_11  jc23_0 jc23_1 jc23_2 jc23_3 jc23_4 jc23_5
    have r6 : (0 : Int) ≤ yc23_4_8 ∧ yc23_4_8 ≤ 65536 := rngE (show (0 : Int) ≤ F_c23 4 8 ∧ F_c23 4 8 ≤ 65536 from H.frng 4 8) (show F_c23 4 8 = yc23_4_8 from (eyc23_4_8))
    have r7 : (-2147483648 : Int) ≤ yc23_4_10 ∧ yc23_4_10 ≤ 2147483647 := rngE (show (-2147483648 : Int) ≤ F_c23 4 10 ∧ F_c23 4 10 ≤ 2147483647 from H.frng 4 10) (show F_c23 4 10 = yc23_4_10 from (eyc23_4_10))
    have r8 : (-2147483648 : Int) ≤ yc23_4_11 ∧ yc23_4_11 ≤ 2147483647 := rngE (show (-2147483648 : Int) ≤ F_c23 4 11 ∧ F_c23 4 11 ≤ 2147483647 from H.frng 4 11) (show F_c23 4 11 = yc23_4_11 from (eyc23_4_11))
    have k23 : IMP ((yc23_4_10) = 0) (∃ x, TYt ((w14)) ((a1)) (4 * (a3)) (TEb (4 * (a3))) x ((tc23_0)) x) := by assumption
    have hte2 : 0 ≤ TEb (4 * (a3)) ∧ TEb (4 * (a3)) ≤ 4 := q_1021 h6 h8 hte jc23_3 jc23_4
    (try clear hte)
    refine Ew_of (pcₚ := 25) (fun _ => x_lstore rfl) ?_
    refine Ew_of (pcₚ := 26) (fun _ => x_aload_n rfl (rk2_o (lc23_0) rfl rfl)) ?_
    refine w_gI H (o := 4) (w := yc23_4_10) rfl (H.perm 4 rfl) rfl rfl rfl (fun _ => rfl) (eyc23_4_10) ?_
    refine w_ifeq (t := 33) rfl rfl (show inr (yc23_4_10) from q_18 r7) (fun b9 => ?_) (fun b9 => ?_)
    · refine Ew_of (pcₚ := 34) (fun _ => x_aload_n rfl (rk2_o (lc23_0) rfl rfl)) ?_
      refine w_gI H (o := 4) (w := u4_2) rfl (H.perm 4 rfl) rfl rfl rfl (fun _ => rfl) ((hS_c23 4 2 rfl).trans (eu4_2)) ?_
      refine Ew_of (pcₚ := 38) (fun _ => x_iload_n rfl (rk2_o (lc23_2) rfl rfl)) ?_
      refine w_isub rfl ?_
      refine w_i2l rfl (show inr ((u4_2 - a2)) from q_1022 h5) ?_
      refine Ew_of (pcₚ := 42) (fun _ => x_lload rfl rk2_s) ?_
      refine w_ladd rfl ?_
      refine Ew_of (pcₚ := 45) (fun _ => x_lload rfl (rk2_o (lc23_4) rfl rfl)) ?_
      refine w_lcmp rfl (show inrJ (((u4_2 - a2) + tc23_0)) by omega) (show inrJ (a4) from h3) (fun z10 gz10 gaz10 gbz10 => ?_)
      refine w_ifle (t := 57) rfl rfl (show inr (z10) from gz10) (fun b11 => ?_) (fun b11 => ?_)
      · obtain ⟨xx, hTY⟩ := k23 (by omega)
        obtain ⟨q0, hq0⟩ : ∃ q : Int, q = (yc23_4_8) := ⟨_, rfl⟩
        have hCl : ((sc ((w23)) ((a2)) ((u4_2))).length : Int) = (u4_2) - (a2) := sc_lenI (by omega)
        refine Ew_of (pcₚ := 58) (fun _ => x_lconst (z := 0) rfl (by decide)) ?_
        refine Ew_of (pcₚ := 60) (fun _ => x_lstore rfl) ?_
        have : IMP ((yc23_4_10) = 0) (sc ((w23)) ((a2)) ((u4_2)) = sc ((w23)) ((a2)) ((u4_2)) ++ sc ((w14)) (q0) ((yc23_4_8))) := fun _ => by rw [hq0, sc_nil (a := (yc23_4_8)) (Int.le_refl _), List.append_nil]
        have : KLO ((w23)) ((w23)) ((u4_2)) := KLO_0
        suffices hl60 : ∀ (m : Nat), ∀ (ls : rO) (σ : rS) (F_60 : hF) (A_60 : hA) (x60_8 : Int), rlook ls 0 = some (.ref (D 4)) → rlook ls 6 = some (J (tc23_0)) → rlook ls 8 = some (J (x60_8)) → HS σ0 σ D N F_60 A_60 → SF [(4, 2), (4, 8), (4, 10), (4, 11)] F_c23 F_60 → SA [23] A_c23 A_60 → ∀ y60_4_2 : Int, F_60 4 2 = y60_4_2 → ∀ y60_4_8 : Int, F_60 4 8 = y60_4_8 → ∀ y60_4_10 : Int, F_60 4 10 = y60_4_10 → ∀ y60_4_11 : Int, F_60 4 11 = y60_4_11 → ∀ w60_23 : Int → Int, A_60 23 = w60_23 → (inrJ (x60_8)) → (0 ≤ (x60_8) ∧ (x60_8) ≤ (tc23_0)) → ((yc23_4_8) ≤ (y60_4_8) ∧ (y60_4_8) ≤ (u4_9)) → ((u4_2) ≤ (y60_4_2) ∧ (y60_4_2) ≤ (u4_2) + (x60_8)) → ((y60_4_10) = 0 ∧ (y60_4_8) = q0 + (x60_8) ∧ (y60_4_2) = (u4_2) + (x60_8) ∨ (y60_4_10) = 1 ∧ (y60_4_11) = (u4_9) ∧ (u4_9) < q0 + (tc23_0)) → (IMP ((y60_4_10) = 0) (sc ((w60_23)) ((a2)) ((y60_4_2)) = sc ((w23)) ((a2)) ((u4_2)) ++ sc ((w14)) (q0) ((y60_4_8)))) → (KLO ((w23)) ((w60_23)) ((u4_2))) → ((tc23_0) - (x60_8)).toNat = m → Ew 339 (d + 2) 60 ls [] σ c s Q from
          hl60 _ _ σ _ _ (0) (rk2_o (rk2_o (lc23_0) rfl rfl) rfl rfl) (rk2_o (rk2_s) rfl rfl) (rk2_s) H (SF_refl) (SA_refl) (u4_2) (((hS_c23 4 2 rfl).trans (eu4_2))) (yc23_4_8) ((eyc23_4_8)) (yc23_4_10) ((eyc23_4_10)) (yc23_4_11) ((eyc23_4_11)) (w23) ((funext (hA_c23 23 rfl)).trans (ew23)) (show inrJ (0) from q_340) (show 0 ≤ (0) ∧ (0) ≤ (tc23_0) from q_1025 jc23_2) (show (yc23_4_8) ≤ (yc23_4_8) ∧ (yc23_4_8) ≤ (u4_9) from q_1024 jc23_3) (show (u4_2) ≤ (u4_2) ∧ (u4_2) ≤ (u4_2) + (0) from q_1023) (show (yc23_4_10) = 0 ∧ (yc23_4_8) = q0 + (0) ∧ (u4_2) = (u4_2) + (0) ∨ (yc23_4_10) = 1 ∧ (yc23_4_11) = (u4_9) ∧ (u4_9) < q0 + (tc23_0) by omega) (show IMP ((yc23_4_10) = 0) (sc ((w23)) ((a2)) ((u4_2)) = sc ((w23)) ((a2)) ((u4_2)) ++ sc ((w14)) (q0) ((yc23_4_8))) by assumption) (show KLO ((w23)) ((w23)) ((u4_2)) by assumption) rfl
        as_aux_lemma =>
        intro m
        induction m using Nat.strongRecOn with
        | _ m ih60 =>
          intro ls σ F_60 A_60 x60_8 l60_0 l60_6 l60_8 H hS_60 hA_60 y60_4_2 ey60_4_2 y60_4_8 ey60_4_8 y60_4_10 ey60_4_10 y60_4_11 ey60_4_11 w60_23 ew60_23 j60_0 j60_1 j60_2 j60_3 j60_4 j60_5 j60_6 hm60
          have r12 : (-2147483648 : Int) ≤ y60_4_2 ∧ y60_4_2 ≤ 2147483647 := rngE (show (-2147483648 : Int) ≤ F_60 4 2 ∧ F_60 4 2 ≤ 2147483647 from H.frng 4 2) (show F_60 4 2 = y60_4_2 from (ey60_4_2))
          have r13 : (0 : Int) ≤ y60_4_8 ∧ y60_4_8 ≤ 65536 := rngE (show (0 : Int) ≤ F_60 4 8 ∧ F_60 4 8 ≤ 65536 from H.frng 4 8) (show F_60 4 8 = y60_4_8 from (ey60_4_8))
          have r14 : (-2147483648 : Int) ≤ y60_4_10 ∧ y60_4_10 ≤ 2147483647 := rngE (show (-2147483648 : Int) ≤ F_60 4 10 ∧ F_60 4 10 ≤ 2147483647 from H.frng 4 10) (show F_60 4 10 = y60_4_10 from (ey60_4_10))
          have r15 : (-2147483648 : Int) ≤ y60_4_11 ∧ y60_4_11 ≤ 2147483647 := rngE (show (-2147483648 : Int) ≤ F_60 4 11 ∧ F_60 4 11 ≤ 2147483647 from H.frng 4 11) (show F_60 4 11 = y60_4_11 from (ey60_4_11))
          have j60_q : IMP ((y60_4_10) = 0) (sc ((w60_23)) ((a2)) ((y60_4_2)) = sc ((w23)) ((a2)) ((u4_2)) ++ sc ((w14)) (q0) ((y60_4_8))) := by assumption
          have j60_k : KLO ((w23)) ((w60_23)) ((u4_2)) := j60_6
          obtain ⟨qa, hqa⟩ : ∃ q : Int, q = (y60_4_8) := ⟨_, rfl⟩
          obtain ⟨qf, hqf⟩ : ∃ q : Int, q = (y60_4_10) := ⟨_, rfl⟩
          refine Ew_of (pcₚ := 62) (fun _ => x_lload rfl l60_8) ?_
          refine Ew_of (pcₚ := 64) (fun _ => x_lload rfl l60_6) ?_
          refine w_lcmp rfl (show inrJ (x60_8) from j60_0) (show inrJ (tc23_0) from jc23_0) (fun z16 gz16 gaz16 gbz16 => ?_)
          refine w_ifge (t := 105) rfl rfl (show inr (z16) from gz16) (fun b17 => ?_) (fun b17 => ?_)
          · have : IMP ((y60_4_10) ≠ 0) (TYe ((w14)) ((u4_9)) ((a4)) ((a1), sc ((w23)) ((a2)) ((u4_2))) ((y60_4_10), (y60_4_11), [])) := by first | exact fun z => absurd z (by omega) | exact fun _ => TYt_l hTY (by omega) (by omega) (by omega) (by omega) (by omega) (by omega) (by omega)
            have : IMP ((y60_4_10) = 0) (TYs ((w14)) ((u4_9)) ((a4)) ((a1), sc ((w23)) ((a2)) ((u4_2))) ((y60_4_8), sc ((w60_23)) ((a2)) ((y60_4_2)))) := by first | exact fun z => absurd z (by omega) | exact fun z => TYs_l hTY (by omega) (by omega) (by omega) (by omega) (by omega) (q0 := q0) (by omega) (by omega) (j60_q z)
            exact w_ret rfl (k σ _ _ H (SF_trans (SF_trans (SF_refl) hS_c23 (any_sub rfl)) hS_60 (any_sub rfl)) (SA_trans (SA_trans (SA_refl) hA_c23 (any_subA rfl)) hA_60 (any_subA rfl)) (y60_4_2) ((ey60_4_2)) (y60_4_8) ((ey60_4_8)) (y60_4_10) ((ey60_4_10)) (y60_4_11) ((ey60_4_11)) (w60_23) (ew60_23) (show (u4_8) ≤ (y60_4_8) ∧ (y60_4_8) ≤ (u4_9) from q_1027 j60_2 jc23_3) (show (u4_2) ≤ (y60_4_2) ∧ (y60_4_2) ≤ a2 + a4 by omega) (show 0 ≤ (y60_4_10) ∧ (y60_4_10) ≤ 20 from q_1026 j60_4) (show IMP ((y60_4_10) ≠ 0) (TYe ((w14)) ((u4_9)) (a4) (a1, sc ((w23)) (a2) ((u4_2))) ((y60_4_10), (y60_4_11), [])) by assumption) (show IMP ((y60_4_10) = 0) (TYs ((w14)) ((u4_9)) (a4) (a1, sc ((w23)) (a2) ((u4_2))) ((y60_4_8), sc ((w60_23)) (a2) ((y60_4_2)))) by assumption) (j60_k))
          · refine Ew_of (pcₚ := 69) (fun _ => x_aload_n rfl l60_0) ?_
            refine w_gI H (o := 4) (w := y60_4_10) rfl (H.perm 4 rfl) rfl rfl rfl (fun _ => rfl) (ey60_4_10) ?_
            refine w_ifne (t := 105) rfl rfl (show inr (y60_4_10) from q_18 r14) (fun b18 => ?_) (fun b18 => ?_)
            · have : IMP ((y60_4_10) ≠ 0) (TYe ((w14)) ((u4_9)) ((a4)) ((a1), sc ((w23)) ((a2)) ((u4_2))) ((y60_4_10), (y60_4_11), [])) := by first | exact fun z => absurd z (by omega) | exact fun _ => TYt_l hTY (by omega) (by omega) (by omega) (by omega) (by omega) (by omega) (by omega)
              have : IMP ((y60_4_10) = 0) (TYs ((w14)) ((u4_9)) ((a4)) ((a1), sc ((w23)) ((a2)) ((u4_2))) ((y60_4_8), sc ((w60_23)) ((a2)) ((y60_4_2)))) := by first | exact fun z => absurd z (by omega) | exact fun z => TYs_l hTY (by omega) (by omega) (by omega) (by omega) (by omega) (q0 := q0) (by omega) (by omega) (j60_q z)
              exact w_ret rfl (k σ _ _ H (SF_trans (SF_trans (SF_refl) hS_c23 (any_sub rfl)) hS_60 (any_sub rfl)) (SA_trans (SA_trans (SA_refl) hA_c23 (any_subA rfl)) hA_60 (any_subA rfl)) (y60_4_2) ((ey60_4_2)) (y60_4_8) ((ey60_4_8)) (y60_4_10) ((ey60_4_10)) (y60_4_11) ((ey60_4_11)) (w60_23) (ew60_23) (show (u4_8) ≤ (y60_4_8) ∧ (y60_4_8) ≤ (u4_9) from q_1027 j60_2 jc23_3) (show (u4_2) ≤ (y60_4_2) ∧ (y60_4_2) ≤ a2 + a4 by omega) (show 0 ≤ (y60_4_10) ∧ (y60_4_10) ≤ 20 from q_1026 j60_4) (show IMP ((y60_4_10) ≠ 0) (TYe ((w14)) ((u4_9)) (a4) (a1, sc ((w23)) (a2) ((u4_2))) ((y60_4_10), (y60_4_11), [])) by assumption) (show IMP ((y60_4_10) = 0) (TYs ((w14)) ((u4_9)) (a4) (a1, sc ((w23)) (a2) ((u4_2))) ((y60_4_8), sc ((w60_23)) (a2) ((y60_4_2)))) by assumption) (j60_k))
            · refine Ew_of (pcₚ := 76) (fun _ => x_aload_n rfl l60_0) ?_
              refine Ew_of (pcₚ := 77) (fun _ => x_iconst rfl) ?_
              refine w_inv H (o := 4) rfl rfl rfl (H.perm 4 rfl) rfl rfl (by rfl) (M336 H (y60_4_8) ((ey60_4_8)) (u4_9) ((((hS_60 4 9 rfl).trans (hS_c23 4 9 rfl)).trans (eu4_9))) (y60_4_10) ((ey60_4_10)) (y60_4_11) ((ey60_4_11)) (w14) ((funext (hA_60 14 rfl)).trans ((funext (hA_c23 14 rfl)).trans (ew14))) (show inr (1) from q_135) (show 0 ≤ (1) ∧ (1) ≤ 4 from q_992) (show 0 ≤ (y60_4_8) ∧ (y60_4_8) ≤ (u4_9) from q_1028 j60_2 r13) (fun z23 σ F19 A20 H hS21 hA22 y24 ey25 y26 ey27 y28 ey29 pz23_0 pz23_1 pz23_2 pz23_3 pz23_4 pz23_5 pz23_6 pz23_7 pz23_8 pz23_9 pz23_10 pz23_11 pz23_12 => ⟨rfl, ?_⟩))
              have r30 : (0 : Int) ≤ y24 ∧ y24 ≤ 65536 := rngE (show (0 : Int) ≤ F19 4 8 ∧ F19 4 8 ≤ 65536 from H.frng 4 8) (show F19 4 8 = y24 from (ey25))
              have r31 : (-2147483648 : Int) ≤ y26 ∧ y26 ≤ 2147483647 := rngE (show (-2147483648 : Int) ≤ F19 4 10 ∧ F19 4 10 ≤ 2147483647 from H.frng 4 10) (show F19 4 10 = y26 from (ey27))
              have r32 : (-2147483648 : Int) ≤ y28 ∧ y28 ≤ 2147483647 := rngE (show (-2147483648 : Int) ≤ F19 4 11 ∧ F19 4 11 ≤ 2147483647 from H.frng 4 11) (show F19 4 11 = y28 from (ey29))
              have hb0 := pz23_9
              have hsum : 0 ≤ (z23) ∧ (z23) ≤ 255 ∧ (y26) = 0 ∧ (y24) = qa + 1 ∨ (z23) = -1 ∧ (y26) = 1 ∧ (y28) = (u4_9) ∧ (u4_9) < qa + 1 := by omega
              (try clear pz23_2)
              (try clear pz23_3)
              (try clear pz23_4)
              (try clear pz23_6)
              (try clear pz23_7)
              (try clear pz23_8)
              (try clear pz23_10)
              (try clear pz23_11)
              (try clear pz23_12)
              refine Ew_of (pcₚ := 82) (fun _ => x_lstore rfl) ?_
              refine Ew_of (pcₚ := 84) (fun _ => x_lload rfl rk2_s) ?_
              refine Ew_of (pcₚ := 85) (fun _ => x_lconst (z := 0) rfl (by decide)) ?_
              refine w_lcmp rfl (show inrJ (z23) from pz23_0) (show inrJ (0) from q_340) (fun z33 gz33 gaz33 gbz33 => ?_)
              refine w_iflt (t := 96) rfl rfl (show inr (z33) from gz33) (fun b34 => ?_) (fun b34 => ?_)
              · obtain ⟨q10, hq10⟩ : ∃ q : Int, q = (z23) := ⟨_, rfl⟩
                refine Ew_of (pcₚ := 98) (fun _ => x_lload rfl (rk2_o (l60_8) rfl rfl)) ?_
                refine Ew_of (pcₚ := 99) (fun _ => x_lconst (z := 1) rfl (by decide)) ?_
                refine w_ladd rfl ?_
                refine Ew_of (pcₚ := 102) (fun _ => x_lstore rfl) ?_
                refine Ew_of (pcₚ := 60) (fun _ => x_goto rfl rfl) ?_
                have : KLO ((w23)) ((w60_23)) ((u4_2)) := by first | exact KLO_t j60_k (KLO_p pzMISS_2) (by omega) | exact j60_k
                have : IMP ((y26) = 0) (sc ((w60_23)) ((a2)) ((y60_4_2)) = sc ((w23)) ((a2)) ((u4_2)) ++ sc ((w14)) (q0) ((y24))) := by first | exact fun z => absurd z (by omega) | exact fun z => PTQ (j60_q (by omega)) (by omega) (by omega) (nvl_b hBd (hb0 (by omega)) (by omega)) pzMISS_1 (by omega) (by omega)
                exact ih60 _ (by omega) _ σ _ _ ((x60_8 + 1)) (rk2_o (rk2_o (l60_0) rfl rfl) rfl rfl) (rk2_o (rk2_o (l60_6) rfl rfl) rfl rfl) (rk2_s) H (SF_trans (hS_60) hS21 (any_sub rfl)) (SA_trans (hA_60) hA22 (any_subA rfl)) (y60_4_2) (((hS21 4 2 rfl).trans (ey60_4_2))) (y24) ((ey25)) (y26) ((ey27)) (y28) ((ey29)) (w60_23) ((funext (hA22 23 rfl)).trans (ew60_23)) (show inrJ ((x60_8 + 1)) by omega) (show 0 ≤ ((x60_8 + 1)) ∧ ((x60_8 + 1)) ≤ (tc23_0) by omega) (show (yc23_4_8) ≤ (y24) ∧ (y24) ≤ (u4_9) from q_754 j60_2 pz23_1) (show (u4_2) ≤ (y60_4_2) ∧ (y60_4_2) ≤ (u4_2) + ((x60_8 + 1)) from q_1029 j60_3) (show (y26) = 0 ∧ (y24) = q0 + ((x60_8 + 1)) ∧ (y60_4_2) = (u4_2) + ((x60_8 + 1)) ∨ (y26) = 1 ∧ (y28) = (u4_9) ∧ (u4_9) < q0 + (tc23_0) by omega) (show IMP ((y26) = 0) (sc ((w60_23)) ((a2)) ((y60_4_2)) = sc ((w23)) ((a2)) ((u4_2)) ++ sc ((w14)) (q0) ((y24))) by assumption) (j60_k) rfl
              · refine Ew_of (pcₚ := 90) (fun _ => x_aload_n rfl (rk2_o (l60_0) rfl rfl)) ?_
                refine Ew_of (pcₚ := 92) (fun _ => x_lload rfl rk2_s) ?_
                refine w_l2i rfl ?_
                refine w_inv H (o := 4) rfl rfl rfl (H.perm 4 rfl) rfl rfl (by rfl) (M320 H (y60_4_2) (((hS21 4 2 rfl).trans (ey60_4_2))) (w60_23) ((funext (hA22 23 rfl)).trans (ew60_23)) (show inr (z23) from q_1030 hsum) (show 0 ≤ (y60_4_2) ∧ (y60_4_2) ≤ 100000000 by omega) (fun σ F35 A36 H hS37 hA38 y40 ey41 wv42 ewv43 pz39_0 pz39_1 pz39_2 => ⟨rfl, ?_⟩))
                have r44 : (-2147483648 : Int) ≤ y40 ∧ y40 ≤ 2147483647 := rngE (show (-2147483648 : Int) ≤ F35 4 2 ∧ F35 4 2 ≤ 2147483647 from H.frng 4 2) (show F35 4 2 = y40 from (ey41))
                obtain ⟨q10, hq10⟩ : ∃ q : Int, q = (z23) := ⟨_, rfl⟩
                refine Ew_of (pcₚ := 98) (fun _ => x_lload rfl (rk2_o (l60_8) rfl rfl)) ?_
                refine Ew_of (pcₚ := 99) (fun _ => x_lconst (z := 1) rfl (by decide)) ?_
                refine w_ladd rfl ?_
                refine Ew_of (pcₚ := 102) (fun _ => x_lstore rfl) ?_
                refine Ew_of (pcₚ := 60) (fun _ => x_goto rfl rfl) ?_
                have : KLO ((w23)) ((wv42)) ((u4_2)) := by first | exact KLO_t j60_k (KLO_p pz39_2) (by omega) | exact j60_k
                have : IMP ((y26) = 0) (sc ((wv42)) ((a2)) ((y40)) = sc ((w23)) ((a2)) ((u4_2)) ++ sc ((w14)) (q0) ((y24))) := by first | exact fun z => absurd z (by omega) | exact fun z => PTQ (j60_q (by omega)) (by omega) (by omega) (nvl_b hBd (hb0 (by omega)) (by omega)) pz39_1 (by omega) (by omega)
                exact ih60 _ (by omega) _ σ _ _ ((x60_8 + 1)) (rk2_o (rk2_o (l60_0) rfl rfl) rfl rfl) (rk2_o (rk2_o (l60_6) rfl rfl) rfl rfl) (rk2_s) H (SF_trans (SF_trans (hS_60) hS21 (any_sub rfl)) hS37 (any_sub rfl)) (SA_trans (SA_trans (hA_60) hA22 (any_subA rfl)) hA38 (any_subA rfl)) (y40) ((ey41)) (y24) (((hS37 4 8 rfl).trans (ey25))) (y26) (((hS37 4 10 rfl).trans (ey27))) (y28) (((hS37 4 11 rfl).trans (ey29))) (wv42) (ewv43) (show inrJ ((x60_8 + 1)) by omega) (show 0 ≤ ((x60_8 + 1)) ∧ ((x60_8 + 1)) ≤ (tc23_0) by omega) (show (yc23_4_8) ≤ (y24) ∧ (y24) ≤ (u4_9) from q_754 j60_2 pz23_1) (show (u4_2) ≤ (y40) ∧ (y40) ≤ (u4_2) + ((x60_8 + 1)) from q_1031 j60_3 pz39_0) (show (y26) = 0 ∧ (y24) = q0 + ((x60_8 + 1)) ∧ (y40) = (u4_2) + ((x60_8 + 1)) ∨ (y26) = 1 ∧ (y28) = (u4_9) ∧ (u4_9) < q0 + (tc23_0) by omega) (show IMP ((y26) = 0) (sc ((wv42)) ((a2)) ((y40)) = sc ((w23)) ((a2)) ((u4_2)) ++ sc ((w14)) (q0) ((y24))) by assumption) (show KLO ((w23)) ((wv42)) ((u4_2)) by assumption) rfl
      · obtain ⟨xx, hTY⟩ := k23 (by omega)
        refine Ew_of (pcₚ := 50) (fun _ => x_aload_n rfl (rk2_o (lc23_0) rfl rfl)) ?_
        refine Ew_of (pcₚ := 51) (fun _ => x_iconst rfl) ?_
        refine Ew_of (pcₚ := 52) (fun _ => x_iload_n rfl (rk2_o (lc23_1) rfl rfl)) ?_
        refine w_inv H (o := 4) rfl rfl rfl (H.perm 4 rfl) rfl rfl (by rfl) (M335 H (yc23_4_10) ((eyc23_4_10)) (yc23_4_11) ((eyc23_4_11)) (show inr (5) from q_727) (show inr (a1) from h0) (fun z49 σ F45 A46 H hS47 hA48 y50 ey51 y52 ey53 pz49_0 pz49_1 pz49_2 => ⟨rretB rfl pz49_0, ?_⟩))
        have r54 : (-2147483648 : Int) ≤ y50 ∧ y50 ≤ 2147483647 := rngE (show (-2147483648 : Int) ≤ F45 4 10 ∧ F45 4 10 ≤ 2147483647 from H.frng 4 10) (show F45 4 10 = y50 from (ey51))
        have r55 : (-2147483648 : Int) ≤ y52 ∧ y52 ≤ 2147483647 := rngE (show (-2147483648 : Int) ≤ F45 4 11 ∧ F45 4 11 ≤ 2147483647 from H.frng 4 11) (show F45 4 11 = y52 from (ey53))
        refine Ew_of (pcₚ := 56) (fun _ => x_pop rfl rfl) ?_
        have : IMP ((y50) ≠ 0) (TYe ((w14)) ((u4_9)) ((a4)) ((a1), sc ((w23)) ((a2)) ((u4_2))) ((y50), (y52), [])) := fun _ => TYt_5 hTY (by omega) (by omega) (.inl (by omega)) (by rw [sc_lenI (by omega)]; omega) (by omega) (by omega)
        have : IMP ((y50) = 0) (TYs ((w14)) ((u4_9)) ((a4)) ((a1), sc ((w23)) ((a2)) ((u4_2))) ((yc23_4_8), sc ((w23)) ((a2)) ((u4_2)))) := fun z => absurd z (by omega)
        have : KLO ((w23)) ((w23)) ((u4_2)) := KLO_0
        exact w_ret rfl (k σ _ _ H (SF_trans (SF_trans (SF_refl) hS_c23 (any_sub rfl)) hS47 (any_sub rfl)) (SA_trans (SA_trans (SA_refl) hA_c23 (any_subA rfl)) hA48 (any_subA rfl)) (u4_2) ((((hS47 4 2 rfl).trans (hS_c23 4 2 rfl)).trans (eu4_2))) (yc23_4_8) (((hS47 4 8 rfl).trans (eyc23_4_8))) (y50) ((ey51)) (y52) ((ey53)) (w23) ((funext (hA48 23 rfl)).trans ((funext (hA_c23 23 rfl)).trans (ew23))) (show (u4_8) ≤ (yc23_4_8) ∧ (yc23_4_8) ≤ (u4_9) from jc23_3) (show (u4_2) ≤ (u4_2) ∧ (u4_2) ≤ a2 + a4 from q_1033 h5) (show 0 ≤ (y50) ∧ (y50) ≤ 20 from q_1032 b9 pz49_2) (show IMP ((y50) ≠ 0) (TYe ((w14)) ((u4_9)) (a4) (a1, sc ((w23)) (a2) ((u4_2))) ((y50), (y52), [])) by assumption) (show IMP ((y50) = 0) (TYs ((w14)) ((u4_9)) (a4) (a1, sc ((w23)) (a2) ((u4_2))) ((yc23_4_8), sc ((w23)) (a2) ((u4_2)))) by assumption) (show KLO ((w23)) ((w23)) ((u4_2)) by assumption))
    · have : IMP ((yc23_4_10) ≠ 0) (TYe ((w14)) ((u4_9)) ((a4)) ((a1), sc ((w23)) ((a2)) ((u4_2))) ((yc23_4_10), (yc23_4_11), [])) := fun _ => TYt_1 (t := 4 * (a3)) (b := TEb (4 * (a3))) hI0 rfl (by omega) (by omega) (by omega) (by omega)
      have : IMP ((yc23_4_10) = 0) (TYs ((w14)) ((u4_9)) ((a4)) ((a1), sc ((w23)) ((a2)) ((u4_2))) ((yc23_4_8), sc ((w23)) ((a2)) ((u4_2)))) := fun z => absurd z (by omega)
      have : KLO ((w23)) ((w23)) ((u4_2)) := KLO_0
      exact w_ret rfl (k σ _ _ H (SF_trans (SF_refl) hS_c23 (any_sub rfl)) (SA_trans (SA_refl) hA_c23 (any_subA rfl)) (u4_2) (((hS_c23 4 2 rfl).trans (eu4_2))) (yc23_4_8) ((eyc23_4_8)) (yc23_4_10) ((eyc23_4_10)) (yc23_4_11) ((eyc23_4_11)) (w23) ((funext (hA_c23 23 rfl)).trans (ew23)) (show (u4_8) ≤ (yc23_4_8) ∧ (yc23_4_8) ≤ (u4_9) from jc23_3) (show (u4_2) ≤ (u4_2) ∧ (u4_2) ≤ a2 + a4 from q_1033 h5) (show 0 ≤ (yc23_4_10) ∧ (yc23_4_10) ≤ 20 from q_1034 jc23_4) (show IMP ((yc23_4_10) ≠ 0) (TYe ((w14)) ((u4_9)) (a4) (a1, sc ((w23)) (a2) ((u4_2))) ((yc23_4_10), (yc23_4_11), [])) by assumption) (show IMP ((yc23_4_10) = 0) (TYs ((w14)) ((u4_9)) (a4) (a1, sc ((w23)) (a2) ((u4_2))) ((yc23_4_8), sc ((w23)) (a2) ((u4_2)))) by assumption) (show KLO ((w23)) ((w23)) ((u4_2)) by assumption))
  refine Ew_of (pcₚ := 3) (fun _ => x_bipush (z := 60) rfl (by decide)) ?_
  refine w_icmpge (t := 13) rfl rfl (show inr (a3) from h2) (show inr (60) from q_937) (fun b56 => ?_) (fun b56 => ?_)
  · refine Ew_of (pcₚ := 14) (fun _ => x_aload_n rfl rfl) ?_
    refine Ew_of (pcₚ := 15) (fun _ => x_iload_n rfl rfl) ?_
    refine Ew_of (pcₚ := 17) (fun _ => x_bipush (z := 59) rfl (by decide)) ?_
    refine w_isub rfl ?_
    refine w_inv H (o := 4) rfl rfl rfl (H.perm 4 rfl) rfl rfl (by rfl) (M336 H (u4_8) ((eu4_8)) (u4_9) ((eu4_9)) (u4_10) ((eu4_10)) (F 4 11) (rfl) (w14) (ew14) (show inr ((a3 - 59)) from q_1036 b56 h6) (show 0 ≤ ((a3 - 59)) ∧ ((a3 - 59)) ≤ 4 from q_1035 b56 h6) (show 0 ≤ (u4_8) ∧ (u4_8) ≤ (u4_9) from h4) (fun z61 σ F57 A58 H hS59 hA60 y62 ey63 y64 ey65 y66 ey67 pz61_0 pz61_1 pz61_2 pz61_3 pz61_4 pz61_5 pz61_6 pz61_7 pz61_8 pz61_9 pz61_10 pz61_11 pz61_12 => ⟨rfl, ?_⟩))
    have r68 : (0 : Int) ≤ y62 ∧ y62 ≤ 65536 := rngE (show (0 : Int) ≤ F57 4 8 ∧ F57 4 8 ≤ 65536 from H.frng 4 8) (show F57 4 8 = y62 from (ey63))
    have r69 : (-2147483648 : Int) ≤ y64 ∧ y64 ≤ 2147483647 := rngE (show (-2147483648 : Int) ≤ F57 4 10 ∧ F57 4 10 ≤ 2147483647 from H.frng 4 10) (show F57 4 10 = y64 from (ey65))
    have r70 : (-2147483648 : Int) ≤ y66 ∧ y66 ≤ 2147483647 := rngE (show (-2147483648 : Int) ≤ F57 4 11 ∧ F57 4 11 ≤ 2147483647 from H.frng 4 11) (show F57 4 11 = y66 from (ey67))
    have htk := pz61_9
    have hsum : (y64) = 0 ∧ 0 ≤ (z61) ∧ (z61) ≤ 4294967295 ∧ (y62) = (a1) + 1 + TEb (4 * (a3)) ∨ (z61) = -1 ∧ (y64) = 1 ∧ (y66) = (u4_9) ∧ (u4_9) < (a1) + 1 + TEb (4 * (a3)) := by rcases pz61_2 with ⟨x, y⟩ | ⟨x, y, w⟩; (exact .inr ⟨x, (Or.resolve_left (Or.resolve_left pz61_10 (by omega)) (by omega)).1, (Or.resolve_left (Or.resolve_left pz61_10 (by omega)) (by omega)).2, by have h := Or.resolve_left (pz61_12 x) (by omega); omega⟩); (exact .inl ⟨y, x, pz61_5, by omega⟩)
    (try clear pz61_2)
    (try clear pz61_3)
    (try clear pz61_4)
    (try clear pz61_6)
    (try clear pz61_7)
    (try clear pz61_8)
    (try clear pz61_10)
    (try clear pz61_11)
    (try clear pz61_12)
    refine Ew_of (pcₚ := 22) (fun _ => x_lconst (z := 1) rfl (by decide)) ?_
    refine w_ladd rfl ?_
    have : IMP ((y64) = 0) (∃ x, TYt ((w14)) ((a1)) (4 * (a3)) (TEb (4 * (a3))) x (((z61 + 1))) x) := by first | exact fun _ => TYt_m0 hI0 (by omega) (by omega) | exact fun z => TYt_m1 hI0 (by omega) (htk (by omega)) (by omega) (by omega) (by omega)
    exact hc23 ((z61 + 1)) _ σ _ _  (rfl) (rfl) (rfl) (rfl) H (SF_trans (SF_refl) hS59 (any_sub rfl)) (SA_trans (SA_refl) hA60 (any_subA rfl)) (y62) ((ey63)) (y64) ((ey65)) (y66) ((ey67))  (show inrJ ((z61 + 1)) by omega) (show 1 ≤ ((z61 + 1)) ∧ ((z61 + 1)) ≤ 4294967296 ∨ (y64) ≠ 0 by omega) (show 0 ≤ ((z61 + 1)) ∧ ((z61 + 1)) ≤ 4294967296 from q_1037 hsum pz61_5) (show (u4_8) ≤ (y62) ∧ (y62) ≤ (u4_9) from pz61_1) (show (y64) = 0 ∧ (y62) = (a1) + 1 + TEb (4 * (a3)) ∨ (y64) = 1 ∧ (y66) = (u4_9) ∧ (u4_9) < (a1) + 1 + TEb (4 * (a3)) by omega) (show IMP ((y64) = 0) (∃ x, TYt ((w14)) ((a1)) (4 * (a3)) (TEb (4 * (a3))) x (((z61 + 1))) x) by assumption)
  · refine Ew_of (pcₚ := 7) (fun _ => x_iload_n rfl rfl) ?_
    refine w_i2l rfl (show inr (a3) from h2) ?_
    refine Ew_of (pcₚ := 9) (fun _ => x_lconst (z := 1) rfl (by decide)) ?_
    refine w_ladd rfl ?_
    refine Ew_of (pcₚ := 23) (fun _ => x_goto rfl rfl) ?_
    have : IMP ((u4_10) = 0) (∃ x, TYt ((w14)) ((a1)) (4 * (a3)) (TEb (4 * (a3))) x (((a3 + 1))) x) := by first | exact fun _ => TYt_m0 hI0 (by omega) (by omega) | exact fun z => TYt_m1 hI0 (by omega) (htk (by omega)) (by omega) (by omega) (by omega)
    exact hc23 ((a3 + 1)) _ σ _ _  (rfl) (rfl) (rfl) (rfl) H (SF_refl) (SA_refl) (u4_8) ((eu4_8)) (u4_10) ((eu4_10)) (F 4 11) (rfl)  (show inrJ ((a3 + 1)) from q_1040 b56 h6) (show 1 ≤ ((a3 + 1)) ∧ ((a3 + 1)) ≤ 4294967296 ∨ (u4_10) ≠ 0 from q_1039 b56 h6) (show 0 ≤ ((a3 + 1)) ∧ ((a3 + 1)) ≤ 4294967296 from q_1038 b56 h6) (show (u4_8) ≤ (u4_8) ∧ (u4_8) ≤ (u4_9) from q_988 h4) (show (u4_10) = 0 ∧ (u4_8) = (a1) + 1 + TEb (4 * (a3)) ∨ (u4_10) = 1 ∧ (F 4 11) = (u4_9) ∧ (u4_9) < (a1) + 1 + TEb (4 * (a3)) by omega) (show IMP ((u4_10) = 0) (∃ x, TYt ((w14)) ((a1)) (4 * (a3)) (TEb (4 * (a3))) x (((a3 + 1))) x) by assumption)

theorem M340 {σ0 σ : rS} {D N : Nat → Nat} {F : hF} {A : hA} {d c s : Nat} {Q : wQ} (H : HS σ0 σ D N F A) {a1 a2 a3 a4 a5 : Int} (u4_2 : Int) (eu4_2 : F 4 2 = u4_2) (u4_8 : Int) (eu4_8 : F 4 8 = u4_8) (u4_9 : Int) (eu4_9 : F 4 9 = u4_9) (u4_10 : Int) (eu4_10 : F 4 10 = u4_10) (w14 : Int → Int) (ew14 : A 14 = w14) (w23 : Int → Int) (ew23 : A 23 = w23) (h0 : inr (a1)) (h1 : inr (a2)) (h2 : inr (a3)) (h3 : inr (a4)) (h4 : inrJ (a5)) (h5 : 0 ≤ (u4_8) ∧ (u4_8) ≤ (u4_9)) (h6 : 0 ≤ (a2) ∧ (a2) ≤ (u4_2) ∧ (u4_2) ≤ (a2) + (a5) ∧ (a2) + (a5) ≤ 65536) (h7 : 1 ≤ (a3) ∧ (a3) ≤ 3 ∧ 0 ≤ (a4) ∧ (a4) ≤ 63) (h8 : (u4_10) = 0) (h9 : (u4_8) = (a1) + 1 ∧ (a1) < (u4_9) ∧ 0 ≤ (a1)) (h10 : ((w14)) ((a1)) = 4 * (a4) + (a3)) (k : ∀ σ Fₚ Aₚ, HS σ0 σ D N Fₚ Aₚ → SF [(4, 2), (4, 8), (4, 10), (4, 11)] F Fₚ → SA [23] A Aₚ → ∀ y4_2 : Int, Fₚ 4 2 = y4_2 → ∀ y4_8 : Int, Fₚ 4 8 = y4_8 → ∀ y4_10 : Int, Fₚ 4 10 = y4_10 → ∀ y4_11 : Int, Fₚ 4 11 = y4_11 → ∀ v23 : Int → Int, Aₚ 23 = v23 → ((u4_8) ≤ (y4_8) ∧ (y4_8) ≤ (u4_9)) → ((u4_2) ≤ (y4_2) ∧ (y4_2) ≤ (a2) + (a5)) → (0 ≤ (y4_10) ∧ (y4_10) ≤ 20) → (IMP ((y4_10) ≠ 0) (TYe ((w14)) ((u4_9)) ((a5)) ((a1), sc ((w23)) ((a2)) ((u4_2))) ((y4_10), (y4_11), []))) → (IMP ((y4_10) = 0) (TYs ((w14)) ((u4_9)) ((a5)) ((a1), sc ((w23)) ((a2)) ((u4_2))) ((y4_8), sc ((v23)) ((a2)) ((y4_2))))) → (KLO ((w23)) ((v23)) ((u4_2))) → Q none σ c s) : Ew 340 (d + 2) 0 (rargs 0 [.ref (D 4), I a1, I a2, I a3, I a4, J a5]) [] σ c s Q := by
  have r1 : (-2147483648 : Int) ≤ u4_2 ∧ u4_2 ≤ 2147483647 := rngE (show (-2147483648 : Int) ≤ F 4 2 ∧ F 4 2 ≤ 2147483647 from H.frng 4 2) (show F 4 2 = u4_2 from (eu4_2))
  have r2 : (0 : Int) ≤ u4_8 ∧ u4_8 ≤ 65536 := rngE (show (0 : Int) ≤ F 4 8 ∧ F 4 8 ≤ 65536 from H.frng 4 8) (show F 4 8 = u4_8 from (eu4_8))
  have r3 : (0 : Int) ≤ u4_9 ∧ u4_9 ≤ 65536 := rngE (show (0 : Int) ≤ F 4 9 ∧ F 4 9 ≤ 65536 from H.frng 4 9) (show F 4 9 = u4_9 from (eu4_9))
  have r4 : (-2147483648 : Int) ≤ u4_10 ∧ u4_10 ≤ 2147483647 := rngE (show (-2147483648 : Int) ≤ F 4 10 ∧ F 4 10 ≤ 2147483647 from H.frng 4 10) (show F 4 10 = u4_10 from (eu4_10))
  have hBd : ∀ i, (0 : Int) ≤ (w14) i ∧ (w14) i ≤ 255 := fun i => by have h1 : (0 : Int) ≤ A 14 i ∧ A 14 i ≤ 255 := H.arng 14 i; rw [show A 14 = w14 from ew14] at h1; exact h1
  have hI0 : ((w14)) ((a1)) = 4 * (a4) + (a3) := h10
  refine Ew_of (pcₚ := 1) (fun _ => x_iload_n rfl rfl) ?_
  refine Ew_of (pcₚ := 2) (fun _ => x_iconst rfl) ?_
  have hc21 : ∀ (tc21_0 : Int), ∀ (ls : rO) (σ : rS) (F_c21 : hF) (A_c21 : hA) , rlook ls 0 = some (.ref (D 4)) → rlook ls 1 = some (I (a1)) → rlook ls 2 = some (I (a2)) → rlook ls 3 = some (I (a3)) → rlook ls 4 = some (I (a4)) → rlook ls 5 = some (J (a5)) → HS σ0 σ D N F_c21 A_c21 → SF [] F F_c21 → SA [] A A_c21 → (inrJ (tc21_0)) → (((a3) ≠ (1) ∧ (tc21_0) = ((a4 + 1))) ∨ ((a3) = (1) ∧ (tc21_0) = (((a4 % 8) + 4)))) → Ew 340 (d + 2) 21 ls [J (tc21_0)] σ c s Q := by
   as_aux_lemma =>
    intro tc21_0 ls σ F_c21 A_c21  lc21_0 lc21_1 lc21_2 lc21_3 lc21_4 lc21_5 H hS_c21 hA_c21   jc21_0 jc21_1
    refine Ew_of (pcₚ := 23) (fun _ => x_lstore rfl) ?_
    refine Ew_of (pcₚ := 24) (fun _ => x_aload_n rfl (rk2_o (lc21_0) rfl rfl)) ?_
    refine Ew_of (pcₚ := 25) (fun _ => x_iload_n rfl (rk2_o (lc21_3) rfl rfl)) ?_
    refine Ew_of (pcₚ := 26) (fun _ => x_iconst rfl) ?_
    have hc34 : ∀ (tc34_0 : Int), ∀ (ls : rO) (σ : rS) (F_c34 : hF) (A_c34 : hA) , rlook ls 0 = some (.ref (D 4)) → rlook ls 1 = some (I (a1)) → rlook ls 2 = some (I (a2)) → rlook ls 3 = some (I (a3)) → rlook ls 4 = some (I (a4)) → rlook ls 5 = some (J (a5)) → rlook ls 7 = some (J (tc21_0)) → HS σ0 σ D N F_c34 A_c34 → SF [] F_c21 F_c34 → SA [] A_c21 A_c34 → (inr (tc34_0)) → (((a3) ≠ (3) ∧ (tc34_0) = (a3)) ∨ ((a3) = (3) ∧ (tc34_0) = (4))) → Ew 340 (d + 2) 34 ls [I (tc34_0), .ref (D 4)] σ c s Q := by
     as_aux_lemma =>
      intro tc34_0 ls σ F_c34 A_c34  lc34_0 lc34_1 lc34_2 lc34_3 lc34_4 lc34_5 lc34_7 H hS_c34 hA_c34   jc34_0 jc34_1
      obtain ⟨qb, hqb⟩ : ∃ q : Int, q = (tc34_0) := ⟨_, rfl⟩
      have hbb : (a3) = 3 ∧ qb = 4 ∨ (a3) ≠ 3 ∧ qb = (a3) := by omega
      have hTb := TEb_c (t := 4 * (a4) + (a3)) rfl (by omega) (by omega) hbb
      have r5 : (-2147483648 : Int) ≤ F 4 11 ∧ F 4 11 ≤ 2147483647 := rngE (show (-2147483648 : Int) ≤ F_c34 4 11 ∧ F_c34 4 11 ≤ 2147483647 from H.frng 4 11) (show F_c34 4 11 = F 4 11 from ((hS_c34 4 11 rfl).trans (hS_c21 4 11 rfl)))
      refine w_inv H (o := 4) rfl rfl rfl (H.perm 4 rfl) rfl rfl (by rfl) (M336 H (u4_8) ((((hS_c34 4 8 rfl).trans (hS_c21 4 8 rfl)).trans (eu4_8))) (u4_9) ((((hS_c34 4 9 rfl).trans (hS_c21 4 9 rfl)).trans (eu4_9))) (u4_10) ((((hS_c34 4 10 rfl).trans (hS_c21 4 10 rfl)).trans (eu4_10))) (F 4 11) (((hS_c34 4 11 rfl).trans (hS_c21 4 11 rfl))) (w14) ((funext (hA_c34 14 rfl)).trans ((funext (hA_c21 14 rfl)).trans (ew14))) (show inr (tc34_0) from jc34_0) (show 0 ≤ (tc34_0) ∧ (tc34_0) ≤ 4 from q_1041 h7 jc34_1) (show 0 ≤ (u4_8) ∧ (u4_8) ≤ (u4_9) from h5) (fun z10 σ F6 A7 H hS8 hA9 y11 ey12 y13 ey14 y15 ey16 pz10_0 pz10_1 pz10_2 pz10_3 pz10_4 pz10_5 pz10_6 pz10_7 pz10_8 pz10_9 pz10_10 pz10_11 pz10_12 => ⟨rfl, ?_⟩))
      have r17 : (0 : Int) ≤ y11 ∧ y11 ≤ 65536 := rngE (show (0 : Int) ≤ F6 4 8 ∧ F6 4 8 ≤ 65536 from H.frng 4 8) (show F6 4 8 = y11 from (ey12))
      have r18 : (-2147483648 : Int) ≤ y13 ∧ y13 ≤ 2147483647 := rngE (show (-2147483648 : Int) ≤ F6 4 10 ∧ F6 4 10 ≤ 2147483647 from H.frng 4 10) (show F6 4 10 = y13 from (ey14))
      have r19 : (-2147483648 : Int) ≤ y15 ∧ y15 ≤ 2147483647 := rngE (show (-2147483648 : Int) ≤ F6 4 11 ∧ F6 4 11 ≤ 2147483647 from H.frng 4 11) (show F6 4 11 = y15 from (ey16))
      have htk := pz10_9
      have hsum : (y13) = 0 ∧ 0 ≤ (z10) ∧ (z10) ≤ 4294967295 ∧ (y11) = (a1) + 1 + qb ∨ (z10) = -1 ∧ (y13) = 1 ∧ (y15) = (u4_9) ∧ (u4_9) < (a1) + 1 + qb := by rcases pz10_2 with ⟨x, y⟩ | ⟨x, y, w⟩; (exact .inr ⟨x, (Or.resolve_left (Or.resolve_left pz10_10 (by omega)) (by omega)).1, (Or.resolve_left (Or.resolve_left pz10_10 (by omega)) (by omega)).2, by have h := Or.resolve_left (pz10_12 x) (by omega); omega⟩); (exact .inl ⟨y, x, pz10_5, by omega⟩)
      (try clear pz10_2)
      (try clear pz10_3)
      (try clear pz10_4)
      (try clear pz10_6)
      (try clear pz10_7)
      (try clear pz10_8)
      (try clear pz10_10)
      (try clear pz10_11)
      (try clear pz10_12)
      obtain ⟨qr, hqr⟩ : ∃ q : Int, q = (z10) := ⟨_, rfl⟩
      rw [← hqb, ← hqr] at htk
      refine Ew_of (pcₚ := 39) (fun _ => x_lstore rfl) ?_
      refine Ew_of (pcₚ := 40) (fun _ => x_iload_n rfl (rk2_o (lc34_3) rfl rfl)) ?_
      refine Ew_of (pcₚ := 41) (fun _ => x_iconst rfl) ?_
      have hc59 : ∀ (ls : rO) (σ : rS) (F_c59 : hF) (A_c59 : hA) (xc59_9 : Int), rlook ls 0 = some (.ref (D 4)) → rlook ls 1 = some (I (a1)) → rlook ls 2 = some (I (a2)) → rlook ls 5 = some (J (a5)) → rlook ls 7 = some (J (tc21_0)) → rlook ls 9 = some (J (xc59_9)) → HS σ0 σ D N F_c59 A_c59 → SF [] F6 F_c59 → SA [] A7 A_c59 → (inrJ (xc59_9)) → (((a3) ≠ (1) ∧ (xc59_9) = (z10)) ∨ ((a3) = (1) ∧ (xc59_9) = ((z10 + (256 * (a4 / 8)))))) → Ew 340 (d + 2) 59 ls [] σ c s Q := by
       as_aux_lemma =>
        intro  ls σ F_c59 A_c59 xc59_9 lc59_0 lc59_1 lc59_2 lc59_5 lc59_7 lc59_9 H hS_c59 hA_c59   jc59_0 jc59_1
        refine Ew_of (pcₚ := 60) (fun _ => x_aload_n rfl lc59_0) ?_
        refine Ew_of (pcₚ := 61) (fun _ => x_iload_n rfl lc59_1) ?_
        refine Ew_of (pcₚ := 62) (fun _ => x_iload_n rfl lc59_2) ?_
        have hTYc : 0 ≤ qr → TYt ((w14)) ((a1)) (4 * (a4) + (a3)) (qb) (qr) ((tc21_0)) ((xc59_9)) := fun z => TYt_c hI0 rfl (by omega) (by omega) hbb (htk z) (by omega) (by omega) (by omega)
        have hCl : ((sc ((w23)) ((a2)) ((u4_2))).length : Int) = (u4_2) - (a2) := sc_lenI (by omega)
        refine Ew_of (pcₚ := 64) (fun _ => x_lload rfl lc59_9) ?_
        refine Ew_of (pcₚ := 66) (fun _ => x_lload rfl lc59_7) ?_
        refine Ew_of (pcₚ := 68) (fun _ => x_lload rfl lc59_5) ?_
        refine w_inv H (o := 4) rfl rfl rfl (H.perm 4 rfl) rfl rfl (by rfl) (M338 H (u4_2) ((((((hS_c59 4 2 rfl).trans (hS8 4 2 rfl)).trans (hS_c34 4 2 rfl)).trans (hS_c21 4 2 rfl)).trans (eu4_2))) (y13) (((hS_c59 4 10 rfl).trans (ey14))) (y15) (((hS_c59 4 11 rfl).trans (ey16))) (show inr (a1) from h0) (show inr (a2) from h1) (show inrJ (xc59_9) from jc59_0) (show inrJ (tc21_0) from jc21_0) (show inrJ (a5) from h4) (show 0 ≤ (a2) ∧ (a2) ≤ (u4_2) ∧ (u4_2) ≤ 70000 from q_1045 h6) (show -1000 ≤ (xc59_9) ∧ (xc59_9) ≤ 10000000000 from q_1044 h7 hsum jc59_1 pz10_5) (show 0 ≤ (xc59_9) ∨ (y13) ≠ 0 by omega) (show 0 ≤ (tc21_0) ∧ (tc21_0) ≤ 100 from q_1043 h7 jc21_1) (show -1 ≤ (a5) ∧ (a5) ≤ 65536 from q_1042 h6) (fun z24 σ F20 A21 H hS22 hA23 y25 ey26 y27 ey28 pz24_0 pz24_1 pz24_2 pz24_3 => ⟨rretB rfl pz24_0, ?_⟩))
        have r29 : (-2147483648 : Int) ≤ y25 ∧ y25 ≤ 2147483647 := rngE (show (-2147483648 : Int) ≤ F20 4 10 ∧ F20 4 10 ≤ 2147483647 from H.frng 4 10) (show F20 4 10 = y25 from (ey26))
        have r30 : (-2147483648 : Int) ≤ y27 ∧ y27 ≤ 2147483647 := rngE (show (-2147483648 : Int) ≤ F20 4 11 ∧ F20 4 11 ≤ 2147483647 from H.frng 4 11) (show F20 4 11 = y27 from (ey28))
        refine w_ifne (t := 75) rfl rfl (show inr (z24) from q_138 pz24_0) (fun b31 => ?_) (fun b31 => ?_)
        · refine Ew_of (pcₚ := 76) (fun _ => x_iconst rfl) ?_
          refine Ew_of (pcₚ := 78) (fun _ => x_istore rfl) ?_
          have : sc ((w23)) ((a2)) ((u4_2)) = cpb (sc ((w23)) ((a2)) ((u4_2))) ((xc59_9)) (0 : Int).toNat := rfl
          have : KLO ((w23)) ((w23)) ((u4_2)) := KLO_0
          suffices hl78 : ∀ (m : Nat), ∀ (ls : rO) (σ : rS) (F_78 : hF) (A_78 : hA) (x78_11 : Int), rlook ls 0 = some (.ref (D 4)) → rlook ls 7 = some (J (tc21_0)) → rlook ls 9 = some (J (xc59_9)) → rlook ls 11 = some (I (x78_11)) → HS σ0 σ D N F_78 A_78 → SF [(4, 2)] F20 F_78 → SA [23] A21 A_78 → ∀ y78_4_2 : Int, F_78 4 2 = y78_4_2 → ∀ w78_23 : Int → Int, A_78 23 = w78_23 → (inr (x78_11)) → (0 ≤ (x78_11) ∧ (x78_11) ≤ (tc21_0)) → ((y78_4_2) = (u4_2) + (x78_11)) → (sc ((w78_23)) ((a2)) ((y78_4_2)) = cpb (sc ((w23)) ((a2)) ((u4_2))) ((xc59_9)) ((x78_11) : Int).toNat) → (KLO ((w23)) ((w78_23)) ((u4_2))) → ((tc21_0) - (x78_11)).toNat = m → Ew 340 (d + 2) 78 ls [] σ c s Q from
            hl78 _ _ σ _ _ (0) (rk_o (lc59_0) rfl rfl) (rk_o (lc59_7) rfl rfl) (rk_o (lc59_9) rfl rfl) (rk_s) H (SF_refl) (SA_refl) (u4_2) (((((((hS22 4 2 rfl).trans (hS_c59 4 2 rfl)).trans (hS8 4 2 rfl)).trans (hS_c34 4 2 rfl)).trans (hS_c21 4 2 rfl)).trans (eu4_2))) (w23) ((funext (hA23 23 rfl)).trans ((funext (hA_c59 23 rfl)).trans ((funext (hA9 23 rfl)).trans ((funext (hA_c34 23 rfl)).trans ((funext (hA_c21 23 rfl)).trans (ew23)))))) (show inr (0) from q_2) (show 0 ≤ (0) ∧ (0) ≤ (tc21_0) from q_1046 h7 jc21_1 pz24_3) (show (u4_2) = (u4_2) + (0) from q_365) (show sc ((w23)) ((a2)) ((u4_2)) = cpb (sc ((w23)) ((a2)) ((u4_2))) ((xc59_9)) ((0) : Int).toNat by assumption) (show KLO ((w23)) ((w23)) ((u4_2)) by assumption) rfl
          as_aux_lemma =>
          intro m
          induction m using Nat.strongRecOn with
          | _ m ih78 =>
            intro ls σ F_78 A_78 x78_11 l78_0 l78_7 l78_9 l78_11 H hS_78 hA_78 y78_4_2 ey78_4_2 w78_23 ew78_23 j78_0 j78_1 j78_2 j78_3 j78_4 hm78
            have r32 : (-2147483648 : Int) ≤ y78_4_2 ∧ y78_4_2 ≤ 2147483647 := rngE (show (-2147483648 : Int) ≤ F_78 4 2 ∧ F_78 4 2 ≤ 2147483647 from H.frng 4 2) (show F_78 4 2 = y78_4_2 from (ey78_4_2))
            have j78_q : sc ((w78_23)) ((a2)) ((y78_4_2)) = cpb (sc ((w23)) ((a2)) ((u4_2))) ((xc59_9)) ((x78_11) : Int).toNat := by assumption
            have j78_k : KLO ((w23)) ((w78_23)) ((u4_2)) := j78_4
            refine Ew_of (pcₚ := 80) (fun _ => x_iload rfl l78_11) ?_
            refine w_i2l rfl (show inr (x78_11) from j78_0) ?_
            refine Ew_of (pcₚ := 83) (fun _ => x_lload rfl l78_7) ?_
            refine w_lcmp rfl (show inrJ (x78_11) from q_1047 j78_0 j78_1) (show inrJ (tc21_0) from jc21_0) (fun z33 gz33 gaz33 gbz33 => ?_)
            refine w_ifge (t := 110) rfl rfl (show inr (z33) from gz33) (fun b34 => ?_) (fun b34 => ?_)
            · have : IMP ((y25) ≠ 0) (TYe ((w14)) ((u4_9)) ((a5)) ((a1), sc ((w23)) ((a2)) ((u4_2))) ((y25), (y27), [])) := fun z => absurd z (by omega)
              have : IMP ((y25) = 0) (TYs ((w14)) ((u4_9)) ((a5)) ((a1), sc ((w23)) ((a2)) ((u4_2))) ((y11), sc ((w78_23)) ((a2)) ((y78_4_2)))) := fun _ => TYs_c (hTYc (by omega)) (by omega) (by omega) (by omega) (by omega) (by omega) (by omega) (by rw [j78_q, show (tc21_0) = (x78_11) by omega])
              exact w_ret rfl (k σ _ _ H (SF_trans (SF_trans (SF_trans (SF_trans (SF_trans (SF_trans (SF_refl) hS_c21 (any_sub rfl)) hS_c34 (any_sub rfl)) hS8 (any_sub rfl)) hS_c59 (any_sub rfl)) hS22 (any_sub rfl)) hS_78 (any_sub rfl)) (SA_trans (SA_trans (SA_trans (SA_trans (SA_trans (SA_trans (SA_refl) hA_c21 (any_subA rfl)) hA_c34 (any_subA rfl)) hA9 (any_subA rfl)) hA_c59 (any_subA rfl)) hA23 (any_subA rfl)) hA_78 (any_subA rfl)) (y78_4_2) ((ey78_4_2)) (y11) (((((hS_78 4 8 rfl).trans (hS22 4 8 rfl)).trans (hS_c59 4 8 rfl)).trans (ey12))) (y25) (((hS_78 4 10 rfl).trans (ey26))) (y27) (((hS_78 4 11 rfl).trans (ey28))) (w78_23) (ew78_23) (show (u4_8) ≤ (y11) ∧ (y11) ≤ (u4_9) from pz10_1) (show (u4_2) ≤ (y78_4_2) ∧ (y78_4_2) ≤ a2 + a5 from q_1049 b31 j78_1 j78_2 pz24_0 pz24_1) (show 0 ≤ (y25) ∧ (y25) ≤ 20 from q_1048 b31 pz24_0 pz24_1) (show IMP ((y25) ≠ 0) (TYe ((w14)) ((u4_9)) (a5) (a1, sc ((w23)) (a2) ((u4_2))) ((y25), (y27), [])) by assumption) (show IMP ((y25) = 0) (TYs ((w14)) ((u4_9)) (a5) (a1, sc ((w23)) (a2) ((u4_2))) ((y11), sc ((w78_23)) (a2) ((y78_4_2)))) by assumption) (j78_k))
            · refine Ew_of (pcₚ := 88) (fun _ => x_aload_n rfl l78_0) ?_
              refine Ew_of (pcₚ := 89) (fun _ => x_aload_n rfl l78_0) ?_
              refine w_gT H (o := 4) (t := 23) rfl (H.perm 4 rfl) rfl rfl rfl rfl rfl rfl ?_
              refine Ew_of (pcₚ := 93) (fun _ => x_aload_n rfl l78_0) ?_
              refine w_gI H (o := 4) (w := y78_4_2) rfl (H.perm 4 rfl) rfl rfl rfl (fun _ => rfl) (ey78_4_2) ?_
              refine Ew_of (pcₚ := 98) (fun _ => x_lload rfl l78_9) ?_
              refine w_l2i rfl ?_
              refine w_isub rfl ?_
              refine w_lI H (o := 23) (n := 70000) rfl (H.perm 23 rfl) rfl rfl (H.fix 23 rfl rfl) (show 0 ≤ (y78_4_2 - xc59_9) ∧ (y78_4_2 - xc59_9) < ((70000 : Nat) : Int) from q_1050 b31 h6 j78_1 j78_2 pz24_0 pz24_1) (by decide) (fun v35 ev35 qv35 => ?_)
              have qv35 : (0 : Int) ≤ v35 ∧ v35 ≤ 255 := qv35
              have ev35 : (w78_23) ((y78_4_2 - xc59_9)) = v35 := (congrFun (ew78_23) ((y78_4_2 - xc59_9))).symm.trans ev35
              have hv := ev35
              refine w_inv H (o := 4) rfl rfl rfl (H.perm 4 rfl) rfl rfl (by rfl) (M320 H (y78_4_2) ((ey78_4_2)) (w78_23) (ew78_23) (show inr (v35) from q_299 qv35) (show 0 ≤ (y78_4_2) ∧ (y78_4_2) ≤ 100000000 from q_1051 b31 h6 j78_1 j78_2 pz24_0 pz24_1) (fun σ F36 A37 H hS38 hA39 y41 ey42 wv43 ewv44 pz40_0 pz40_1 pz40_2 => ⟨rfl, ?_⟩))
              have r45 : (-2147483648 : Int) ≤ y41 ∧ y41 ≤ 2147483647 := rngE (show (-2147483648 : Int) ≤ F36 4 2 ∧ F36 4 2 ≤ 2147483647 from H.frng 4 2) (show F36 4 2 = y41 from (ey42))
              have hpt := pz40_1
              have hpk := pz40_2
              refine Ew_of (pcₚ := 107) (fun _ => x_iinc (len := 3) rfl (l78_11)) ?_
              refine Ew_of (pcₚ := 78) (fun _ => x_goto rfl rfl) ?_
              have : sc ((wv43)) ((a2)) ((y41)) = cpb (sc ((w23)) ((a2)) ((u4_2))) ((xc59_9)) (((x78_11 + 1)) : Int).toNat := CPQ j78_q (by omega) (by omega) (by omega) hv (by omega) hpt (by omega) rfl
              have : KLO ((w23)) ((wv43)) ((u4_2)) := KLO_t j78_k (KLO_p hpk) (by omega)
              exact ih78 _ (by omega) _ σ _ _ ((x78_11 + 1)) (rk_o (l78_0) rfl rfl) (rk_o (l78_7) rfl rfl) (rk_o (l78_9) rfl rfl) (rk_s) H (SF_trans (hS_78) hS38 (any_sub rfl)) (SA_trans (hA_78) hA39 (any_subA rfl)) (y41) ((ey42)) (wv43) (ewv44) (show inr ((x78_11 + 1)) from q_1052 b31 h6 j78_1 pz24_0 pz24_1) (show 0 ≤ ((x78_11 + 1)) ∧ ((x78_11 + 1)) ≤ (tc21_0) by omega) (show (y41) = (u4_2) + ((x78_11 + 1)) from q_368 j78_2 pz40_0) (show sc ((wv43)) ((a2)) ((y41)) = cpb (sc ((w23)) ((a2)) ((u4_2))) ((xc59_9)) (((x78_11 + 1)) : Int).toNat by assumption) (show KLO ((w23)) ((wv43)) ((u4_2)) by assumption) rfl
        · have : IMP ((y25) ≠ 0) (TYe ((w14)) ((u4_9)) ((a5)) ((a1), sc ((w23)) ((a2)) ((u4_2))) ((y25), (y27), [])) := fun _ => by rcases (show (y25) = 1 ∨ (y25) = 4 ∨ (y25) = 5 by omega) with z | z | z; (exact TYt_1 hI0 hTb (by omega) (by omega) (by omega) (by omega)); (exact TYt_4 (hTYc (by omega)) (by omega) (by omega) (by omega) (by omega) (by omega) (by omega)); (exact TYt_5 (hTYc (by omega)) (by omega) (by omega) (.inr (by omega)) (by omega) (by omega) (by omega))
          have : IMP ((y25) = 0) (TYs ((w14)) ((u4_9)) ((a5)) ((a1), sc ((w23)) ((a2)) ((u4_2))) ((y11), sc ((w23)) ((a2)) ((u4_2)))) := fun z => absurd z (by omega)
          have : KLO ((w23)) ((w23)) ((u4_2)) := KLO_0
          exact w_ret rfl (k σ _ _ H (SF_trans (SF_trans (SF_trans (SF_trans (SF_trans (SF_refl) hS_c21 (any_sub rfl)) hS_c34 (any_sub rfl)) hS8 (any_sub rfl)) hS_c59 (any_sub rfl)) hS22 (any_sub rfl)) (SA_trans (SA_trans (SA_trans (SA_trans (SA_trans (SA_refl) hA_c21 (any_subA rfl)) hA_c34 (any_subA rfl)) hA9 (any_subA rfl)) hA_c59 (any_subA rfl)) hA23 (any_subA rfl)) (u4_2) (((((((hS22 4 2 rfl).trans (hS_c59 4 2 rfl)).trans (hS8 4 2 rfl)).trans (hS_c34 4 2 rfl)).trans (hS_c21 4 2 rfl)).trans (eu4_2))) (y11) ((((hS22 4 8 rfl).trans (hS_c59 4 8 rfl)).trans (ey12))) (y25) ((ey26)) (y27) ((ey28)) (w23) ((funext (hA23 23 rfl)).trans ((funext (hA_c59 23 rfl)).trans ((funext (hA9 23 rfl)).trans ((funext (hA_c34 23 rfl)).trans ((funext (hA_c21 23 rfl)).trans (ew23)))))) (show (u4_8) ≤ (y11) ∧ (y11) ≤ (u4_9) from pz10_1) (show (u4_2) ≤ (u4_2) ∧ (u4_2) ≤ a2 + a5 from q_1033 h6) (show 0 ≤ (y25) ∧ (y25) ≤ 20 by omega) (show IMP ((y25) ≠ 0) (TYe ((w14)) ((u4_9)) (a5) (a1, sc ((w23)) (a2) ((u4_2))) ((y25), (y27), [])) by assumption) (show IMP ((y25) = 0) (TYs ((w14)) ((u4_9)) (a5) (a1, sc ((w23)) (a2) ((u4_2))) ((y11), sc ((w23)) (a2) ((u4_2)))) by assumption) (show KLO ((w23)) ((w23)) ((u4_2)) by assumption))
      refine w_icmpne (t := 59) rfl rfl (show inr (a3) from h2) (show inr (1) from q_135) (fun b46 => ?_) (fun b46 => ?_)
      · exact hc59  _ σ _ _ (z10) (rk2_o (lc34_0) rfl rfl) (rk2_o (lc34_1) rfl rfl) (rk2_o (lc34_2) rfl rfl) (rk2_o (lc34_5) rfl rfl) (rk2_o (lc34_7) rfl rfl) (rk2_s) H (SF_refl) (SA_refl)   (show inrJ (z10) from pz10_0) (show ((a3) ≠ (1) ∧ (z10) = (z10)) ∨ ((a3) = (1) ∧ (z10) = ((z10 + (256 * (a4 / 8))))) from q_1053 b46)
      · refine Ew_of (pcₚ := 46) (fun _ => x_lload rfl rk2_s) ?_
        refine Ew_of (pcₚ := 49) (fun _ => x_ldc2 (z := 256) rfl (by decide)) ?_
        refine Ew_of (pcₚ := 51) (fun _ => x_iload rfl (rk2_o (lc34_4) rfl rfl)) ?_
        refine Ew_of (pcₚ := 53) (fun _ => x_bipush (z := 8) rfl (by decide)) ?_
        refine w_idiv rfl (show inr (a4) ∧ 0 ≤ a4 from q_1055 h3 h7) (show inr (8) ∧ 0 < 8 from q_1054) ?_
        refine w_i2l rfl (show inr ((a4 / 8)) from q_1056 h7) ?_
        refine w_lmul rfl ?_
        refine w_ladd rfl ?_
        refine Ew_of (pcₚ := 59) (fun _ => x_lstore rfl) ?_
        exact hc59  _ σ _ _ ((z10 + (256 * (a4 / 8)))) (rk2_o (rk2_o (lc34_0) rfl rfl) rfl rfl) (rk2_o (rk2_o (lc34_1) rfl rfl) rfl rfl) (rk2_o (rk2_o (lc34_2) rfl rfl) rfl rfl) (rk2_o (rk2_o (lc34_5) rfl rfl) rfl rfl) (rk2_o (rk2_o (lc34_7) rfl rfl) rfl rfl) (rk2_s) H (SF_refl) (SA_refl)   (show inrJ ((z10 + (256 * (a4 / 8)))) by omega) (show ((a3) ≠ (1) ∧ ((z10 + (256 * (a4 / 8)))) = (z10)) ∨ ((a3) = (1) ∧ ((z10 + (256 * (a4 / 8)))) = ((z10 + (256 * (a4 / 8))))) from q_1057 b46)
    refine w_icmpne (t := 33) rfl rfl (show inr (a3) from h2) (show inr (3) from q_246) (fun b47 => ?_) (fun b47 => ?_)
    · refine Ew_of (pcₚ := 34) (fun _ => x_iload_n rfl (rk2_o (lc21_3) rfl rfl)) ?_
      exact hc34 (a3) _ σ _ _  (rk2_o (lc21_0) rfl rfl) (rk2_o (lc21_1) rfl rfl) (rk2_o (lc21_2) rfl rfl) (rk2_o (lc21_3) rfl rfl) (rk2_o (lc21_4) rfl rfl) (rk2_o (lc21_5) rfl rfl) (rk2_s) H (SF_refl) (SA_refl)   (show inr (a3) from h2) (show ((a3) ≠ (3) ∧ (a3) = (a3)) ∨ ((a3) = (3) ∧ (a3) = (4)) from q_1058 b47)
    · refine Ew_of (pcₚ := 30) (fun _ => x_iconst rfl) ?_
      refine Ew_of (pcₚ := 34) (fun _ => x_goto rfl rfl) ?_
      exact hc34 (4) _ σ _ _  (rk2_o (lc21_0) rfl rfl) (rk2_o (lc21_1) rfl rfl) (rk2_o (lc21_2) rfl rfl) (rk2_o (lc21_3) rfl rfl) (rk2_o (lc21_4) rfl rfl) (rk2_o (lc21_5) rfl rfl) (rk2_s) H (SF_refl) (SA_refl)   (show inr (4) from q_216) (show ((a3) ≠ (3) ∧ (4) = (a3)) ∨ ((a3) = (3) ∧ (4) = (4)) from q_1059 b47)
  refine w_icmpne (t := 16) rfl rfl (show inr (a3) from h2) (show inr (1) from q_135) (fun b48 => ?_) (fun b48 => ?_)
  · refine Ew_of (pcₚ := 18) (fun _ => x_iload rfl rfl) ?_
    refine Ew_of (pcₚ := 19) (fun _ => x_iconst rfl) ?_
    refine w_iadd rfl ?_
    refine w_i2l rfl (show inr ((a4 + 1)) from q_1060 h7) ?_
    exact hc21 ((a4 + 1)) _ σ _ _  (rfl) (rfl) (rfl) (rfl) (rfl) (rfl) H (SF_refl) (SA_refl)   (show inrJ ((a4 + 1)) from q_1062 h7) (show ((a3) ≠ (1) ∧ ((a4 + 1)) = ((a4 + 1))) ∨ ((a3) = (1) ∧ ((a4 + 1)) = (((a4 % 8) + 4))) from q_1061 b48)
  · refine Ew_of (pcₚ := 7) (fun _ => x_iload rfl rfl) ?_
    refine Ew_of (pcₚ := 9) (fun _ => x_bipush (z := 8) rfl (by decide)) ?_
    refine w_irem rfl (show inr (a4) ∧ 0 ≤ a4 from q_1055 h3 h7) (show inr (8) ∧ 0 < 8 from q_1054) ?_
    refine Ew_of (pcₚ := 11) (fun _ => x_iconst rfl) ?_
    refine w_iadd rfl ?_
    refine w_i2l rfl (show inr (((a4 % 8) + 4)) from q_1063) ?_
    refine Ew_of (pcₚ := 21) (fun _ => x_goto rfl rfl) ?_
    exact hc21 (((a4 % 8) + 4)) _ σ _ _  (rfl) (rfl) (rfl) (rfl) (rfl) (rfl) H (SF_refl) (SA_refl)   (show inrJ (((a4 % 8) + 4)) from q_1065) (show ((a3) ≠ (1) ∧ (((a4 % 8) + 4)) = ((a4 + 1))) ∨ ((a3) = (1) ∧ (((a4 % 8) + 4)) = (((a4 % 8) + 4))) from q_1064 b48)

theorem M341 {σ0 σ : rS} {D N : Nat → Nat} {F : hF} {A : hA} {d c s : Nat} {Q : wQ} (H : HS σ0 σ D N F A) {a1 : Int} (u4_2 : Int) (eu4_2 : F 4 2 = u4_2) (u4_8 : Int) (eu4_8 : F 4 8 = u4_8) (u4_9 : Int) (eu4_9 : F 4 9 = u4_9) (u4_10 : Int) (eu4_10 : F 4 10 = u4_10) (w14 : Int → Int) (ew14 : A 14 = w14) (w23 : Int → Int) (ew23 : A 23 = w23) (h0 : inr (a1)) (h1 : 0 ≤ (a1) ∧ 0 ≤ (u4_2) ∧ (u4_2) + (a1) ≤ 65536) (h2 : 0 ≤ (u4_8) ∧ (u4_8) ≤ (u4_9)) (h3 : (u4_10) = 0) (k : ∀ σ Fₚ Aₚ, HS σ0 σ D N Fₚ Aₚ → SF [(4, 2), (4, 8), (4, 10), (4, 11)] F Fₚ → SA [23] A Aₚ → ∀ y4_2 : Int, Fₚ 4 2 = y4_2 → ∀ y4_8 : Int, Fₚ 4 8 = y4_8 → ∀ y4_10 : Int, Fₚ 4 10 = y4_10 → ∀ y4_11 : Int, Fₚ 4 11 = y4_11 → ∀ v23 : Int → Int, Aₚ 23 = v23 → ((u4_8) ≤ (y4_8) ∧ (y4_8) ≤ (u4_9)) → ((u4_2) ≤ (y4_2) ∧ (y4_2) ≤ (u4_2) + (a1)) → (0 ≤ (y4_10) ∧ (y4_10) ≤ 20) → (IMP ((y4_10) ≠ 0) (TYB ((w14)) ((u4_9)) ((u4_8)) ((a1)) ((y4_10), (y4_11), []))) → (IMP ((y4_10) = 0) (TYB ((w14)) ((u4_9)) ((u4_8)) ((a1)) (0, (u4_9), sc ((v23)) ((u4_2)) ((y4_2))))) → (KLO ((w23)) ((v23)) ((u4_2))) → Q none σ c s) : Ew 341 (d + 3) 0 (rargs 0 [.ref (D 4), I a1]) [] σ c s Q := by
  have r1 : (-2147483648 : Int) ≤ u4_2 ∧ u4_2 ≤ 2147483647 := rngE (show (-2147483648 : Int) ≤ F 4 2 ∧ F 4 2 ≤ 2147483647 from H.frng 4 2) (show F 4 2 = u4_2 from (eu4_2))
  have r2 : (0 : Int) ≤ u4_8 ∧ u4_8 ≤ 65536 := rngE (show (0 : Int) ≤ F 4 8 ∧ F 4 8 ≤ 65536 from H.frng 4 8) (show F 4 8 = u4_8 from (eu4_8))
  have r3 : (0 : Int) ≤ u4_9 ∧ u4_9 ≤ 65536 := rngE (show (0 : Int) ≤ F 4 9 ∧ F 4 9 ≤ 65536 from H.frng 4 9) (show F 4 9 = u4_9 from (eu4_9))
  have r4 : (-2147483648 : Int) ≤ u4_10 ∧ u4_10 ≤ 2147483647 := rngE (show (-2147483648 : Int) ≤ F 4 10 ∧ F 4 10 ≤ 2147483647 from H.frng 4 10) (show F 4 10 = u4_10 from (eu4_10))
  refine Ew_of (pcₚ := 1) (fun _ => x_aload_n rfl rfl) ?_
  refine w_gI H (o := 4) (w := u4_2) rfl (H.perm 4 rfl) rfl rfl rfl (fun _ => rfl) (eu4_2) ?_
  refine Ew_of (pcₚ := 5) (fun _ => x_istore_n rfl) ?_
  refine Ew_of (pcₚ := 6) (fun _ => x_aload_n rfl (rk_o (rfl) rfl rfl)) ?_
  refine Ew_of (pcₚ := 7) (fun _ => x_iload_n rfl (rk_o (rfl) rfl rfl)) ?_
  refine w_inv H (o := 4) rfl rfl rfl (H.perm 4 rfl) rfl rfl (by rfl) (M337 H (u4_8) ((eu4_8)) (u4_9) ((eu4_9)) (u4_10) ((eu4_10)) (w14) (ew14) (show inr (a1) from h0) (show 0 ≤ (a1) ∧ (a1) ≤ 65536 from q_1066 h1) (show 0 ≤ (u4_8) ∧ (u4_8) ≤ (u4_9) from h2) (show (u4_10) = 0 from h3) (fun z9 σ F5 A6 H hS7 hA8 y10 ey11 y12 ey13 y14 ey15 pz9_0 pz9_1 pz9_2 pz9_3 pz9_4 pz9_5 pz9_6 => ⟨rfl, ?_⟩))
  have r16 : (0 : Int) ≤ y10 ∧ y10 ≤ 65536 := rngE (show (0 : Int) ≤ F5 4 8 ∧ F5 4 8 ≤ 65536 from H.frng 4 8) (show F5 4 8 = y10 from (ey11))
  have r17 : (-2147483648 : Int) ≤ y12 ∧ y12 ≤ 2147483647 := rngE (show (-2147483648 : Int) ≤ F5 4 10 ∧ F5 4 10 ≤ 2147483647 from H.frng 4 10) (show F5 4 10 = y12 from (ey13))
  have r18 : (-2147483648 : Int) ≤ y14 ∧ y14 ≤ 2147483647 := rngE (show (-2147483648 : Int) ≤ F5 4 11 ∧ F5 4 11 ≤ 2147483647 from H.frng 4 11) (show F5 4 11 = y14 from (ey15))
  obtain ⟨q1, hq1⟩ : ∃ q : Int, q = (y10) := ⟨_, rfl⟩
  have hTLf := pz9_5
  have hTLy := pz9_6
  have hBd : ∀ i, (0 : Int) ≤ (w14) i ∧ (w14) i ≤ 255 := fun i => by have h1 : (0 : Int) ≤ A6 14 i ∧ A6 14 i ≤ 255 := H.arng 14 i; rw [show A6 14 = w14 from (funext (hA8 14 rfl)).trans (ew14)] at h1; exact h1
  refine Ew_of (pcₚ := 11) (fun _ => x_lstore_n rfl) ?_
  have : IMP ((y12) = 0) (ITO (TYs ((w14)) ((u4_9)) ((z9))) (TYe ((w14)) ((u4_9)) ((z9))) (q1, []) ((y10), sc ((w23)) ((u4_2)) ((u4_2)))) := fun _ => by rw [hq1, sc_nil (Int.le_refl _)]; exact ITO_0
  have : IMP ((y12) ≠ 0) (TYB ((w14)) ((u4_9)) ((u4_8)) ((a1)) ((y12), (y14), [])) := fun z => TYB_f (q := 0) (len := 0) (hTLf z) z
  have : KLO ((w23)) ((w23)) ((u4_2)) := KLO_0
  have : IMP ((y12) = 0) (TLQ ((w14)) ((u4_9)) ((u4_8)) ((a1)) (0, 0, (z9), q1)) := fun z => by rw [hq1]; exact hTLy z
  suffices hl11 : ∀ (m : Nat), ∀ (ls : rO) (σ : rS) (F_11 : hF) (A_11 : hA) , rlook ls 0 = some (.ref (D 4)) → rlook ls 2 = some (I (u4_2)) → rlook ls 3 = some (J (z9)) → HS σ0 σ D N F_11 A_11 → SF [(4, 2), (4, 8), (4, 10), (4, 11)] F5 F_11 → SA [23] A6 A_11 → ∀ y11_4_2 : Int, F_11 4 2 = y11_4_2 → ∀ y11_4_8 : Int, F_11 4 8 = y11_4_8 → ∀ y11_4_10 : Int, F_11 4 10 = y11_4_10 → ∀ y11_4_11 : Int, F_11 4 11 = y11_4_11 → ∀ w11_23 : Int → Int, A_11 23 = w11_23 → ((y10) ≤ (y11_4_8) ∧ (y11_4_8) ≤ (u4_9)) → ((u4_2) ≤ (y11_4_2) ∧ (y11_4_2) ≤ (u4_2) + (a1)) → ((y11_4_10) ≠ 0 ∨ (y11_4_2) ≤ (u4_2) + (z9)) → (0 ≤ (y11_4_10) ∧ (y11_4_10) ≤ 20) → (IMP ((y11_4_10) = 0) (ITO (TYs ((w14)) ((u4_9)) ((z9))) (TYe ((w14)) ((u4_9)) ((z9))) (q1, []) ((y11_4_8), sc ((w11_23)) ((u4_2)) ((y11_4_2))))) → (IMP ((y11_4_10) ≠ 0) (TYB ((w14)) ((u4_9)) ((u4_8)) ((a1)) ((y11_4_10), (y11_4_11), []))) → (KLO ((w23)) ((w11_23)) ((u4_2))) → (IMP ((y11_4_10) = 0) (TLQ ((w14)) ((u4_9)) ((u4_8)) ((a1)) (0, 0, (z9), q1))) → ((u4_9) - (y11_4_8)).toNat = m → Ew 341 (d + 3) 11 ls [] σ c s Q from
    hl11 _ _ σ _ _  (rk2_o (rk_o (rfl) rfl rfl) rfl rfl) (rk2_o (rk_s) rfl rfl) (rk2_s) H (SF_refl) (SA_refl) (u4_2) (((hS7 4 2 rfl).trans (eu4_2))) (y10) ((ey11)) (y12) ((ey13)) (y14) ((ey15)) (w23) ((funext (hA8 23 rfl)).trans (ew23)) (show (y10) ≤ (y10) ∧ (y10) ≤ (u4_9) from q_1024 pz9_1) (show (u4_2) ≤ (u4_2) ∧ (u4_2) ≤ (u4_2) + (a1) from q_1067 h1) (show (y12) ≠ 0 ∨ (u4_2) ≤ (u4_2) + (z9) by omega) (show 0 ≤ (y12) ∧ (y12) ≤ 20 from pz9_4) (show IMP ((y12) = 0) (ITO (TYs ((w14)) ((u4_9)) ((z9))) (TYe ((w14)) ((u4_9)) ((z9))) (q1, []) ((y10), sc ((w23)) ((u4_2)) ((u4_2)))) by assumption) (show IMP ((y12) ≠ 0) (TYB ((w14)) ((u4_9)) ((u4_8)) ((a1)) ((y12), (y14), [])) by assumption) (show KLO ((w23)) ((w23)) ((u4_2)) by assumption) (show IMP ((y12) = 0) (TLQ ((w14)) ((u4_9)) ((u4_8)) ((a1)) (0, 0, (z9), q1)) by assumption) rfl
  as_aux_lemma =>
  intro m
  induction m using Nat.strongRecOn with
  | _ m ih11 =>
    intro ls σ F_11 A_11  l11_0 l11_2 l11_3 H hS_11 hA_11 y11_4_2 ey11_4_2 y11_4_8 ey11_4_8 y11_4_10 ey11_4_10 y11_4_11 ey11_4_11 w11_23 ew11_23 j11_0 j11_1 j11_2 j11_3 j11_4 j11_5 j11_6 j11_7 hm11
    have r19 : (-2147483648 : Int) ≤ y11_4_2 ∧ y11_4_2 ≤ 2147483647 := rngE (show (-2147483648 : Int) ≤ F_11 4 2 ∧ F_11 4 2 ≤ 2147483647 from H.frng 4 2) (show F_11 4 2 = y11_4_2 from (ey11_4_2))
    have r20 : (0 : Int) ≤ y11_4_8 ∧ y11_4_8 ≤ 65536 := rngE (show (0 : Int) ≤ F_11 4 8 ∧ F_11 4 8 ≤ 65536 from H.frng 4 8) (show F_11 4 8 = y11_4_8 from (ey11_4_8))
    have r21 : (-2147483648 : Int) ≤ y11_4_10 ∧ y11_4_10 ≤ 2147483647 := rngE (show (-2147483648 : Int) ≤ F_11 4 10 ∧ F_11 4 10 ≤ 2147483647 from H.frng 4 10) (show F_11 4 10 = y11_4_10 from (ey11_4_10))
    have r22 : (-2147483648 : Int) ≤ y11_4_11 ∧ y11_4_11 ≤ 2147483647 := rngE (show (-2147483648 : Int) ≤ F_11 4 11 ∧ F_11 4 11 ≤ 2147483647 from H.frng 4 11) (show F_11 4 11 = y11_4_11 from (ey11_4_11))
    have j11_i : IMP ((y11_4_10) = 0) (ITO (TYs ((w14)) ((u4_9)) ((z9))) (TYe ((w14)) ((u4_9)) ((z9))) (q1, []) ((y11_4_8), sc ((w11_23)) ((u4_2)) ((y11_4_2)))) := by assumption
    have j11_f : IMP ((y11_4_10) ≠ 0) (TYB ((w14)) ((u4_9)) ((u4_8)) ((a1)) ((y11_4_10), (y11_4_11), [])) := by assumption
    have j11_k : KLO ((w23)) ((w11_23)) ((u4_2)) := j11_6
    have j11_l : IMP ((y11_4_10) = 0) (TLQ ((w14)) ((u4_9)) ((u4_8)) ((a1)) (0, 0, (z9), q1)) := by assumption
    refine Ew_of (pcₚ := 12) (fun _ => x_aload_n rfl l11_0) ?_
    refine w_gI H (o := 4) (w := y11_4_10) rfl (H.perm 4 rfl) rfl rfl rfl (fun _ => rfl) (ey11_4_10) ?_
    have hc84 : ∀ (ls : rO) (σ : rS) (F_c84 : hF) (A_c84 : hA) , rlook ls 0 = some (.ref (D 4)) → rlook ls 2 = some (I (u4_2)) → rlook ls 3 = some (J (z9)) → HS σ0 σ D N F_c84 A_c84 → SF [] F_11 F_c84 → SA [] A_11 A_c84 → (((y11_4_10) ≠ (0)) ∨ ((y11_4_10) = (0) ∧ (y11_4_8) ≥ (u4_9))) → Ew 341 (d + 3) 84 ls [] σ c s Q := by
     as_aux_lemma =>
      intro  ls σ F_c84 A_c84  lc84_0 lc84_2 lc84_3 H hS_c84 hA_c84   jc84_0
      refine Ew_of (pcₚ := 85) (fun _ => x_aload_n rfl lc84_0) ?_
      refine w_gI H (o := 4) (w := y11_4_10) rfl (H.perm 4 rfl) rfl rfl rfl (fun _ => rfl) ((hS_c84 4 10 rfl).trans (ey11_4_10)) ?_
      refine w_ifne (t := 114) rfl rfl (show inr (y11_4_10) from q_1068 j11_3) (fun b23 => ?_) (fun b23 => ?_)
      · have : IMP ((y11_4_10) ≠ 0) (TYB ((w14)) ((u4_9)) ((u4_8)) ((a1)) ((y11_4_10), (y11_4_11), [])) := by first | exact j11_f | (intro _; exact TYB_i (j11_l (by omega)) (ITO_e (j11_i (by omega)) (TYe_6 (by omega) (by rw [sc_lenI (by omega)]; omega) (by omega) (by omega)))) | exact fun z => absurd z (by omega)
        have : IMP ((y11_4_10) = 0) (TYB ((w14)) ((u4_9)) ((u4_8)) ((a1)) (0, (u4_9), sc ((w11_23)) ((u4_2)) ((y11_4_2)))) := by first | exact fun z => absurd z (by omega) | exact fun _ => TYB_i (j11_l (by omega)) (ITO_e (j11_i (by omega)) (TYe_0 (by omega) (by rw [sc_lenI (by omega)]; omega) rfl rfl))
        exact w_ret rfl (k σ _ _ H (SF_trans (SF_trans (SF_trans (SF_refl) hS7 (any_sub rfl)) hS_11 (any_sub rfl)) hS_c84 (any_sub rfl)) (SA_trans (SA_trans (SA_trans (SA_refl) hA8 (any_subA rfl)) hA_11 (any_subA rfl)) hA_c84 (any_subA rfl)) (y11_4_2) (((hS_c84 4 2 rfl).trans (ey11_4_2))) (y11_4_8) (((hS_c84 4 8 rfl).trans (ey11_4_8))) (y11_4_10) (((hS_c84 4 10 rfl).trans (ey11_4_10))) (y11_4_11) (((hS_c84 4 11 rfl).trans (ey11_4_11))) (w11_23) ((funext (hA_c84 23 rfl)).trans (ew11_23)) (show (u4_8) ≤ (y11_4_8) ∧ (y11_4_8) ≤ (u4_9) from q_1027 j11_0 pz9_1) (show (u4_2) ≤ (y11_4_2) ∧ (y11_4_2) ≤ (u4_2) + a1 from j11_1) (show 0 ≤ (y11_4_10) ∧ (y11_4_10) ≤ 20 from j11_3) (j11_f) (show IMP ((y11_4_10) = 0) (TYB ((w14)) ((u4_9)) ((u4_8)) (a1) (0, (u4_9), sc ((w11_23)) ((u4_2)) ((y11_4_2)))) by assumption) (j11_k))
      · refine Ew_of (pcₚ := 92) (fun _ => x_aload_n rfl lc84_0) ?_
        refine w_gI H (o := 4) (w := y11_4_2) rfl (H.perm 4 rfl) rfl rfl rfl (fun _ => rfl) ((hS_c84 4 2 rfl).trans (ey11_4_2)) ?_
        refine Ew_of (pcₚ := 96) (fun _ => x_iload_n rfl lc84_2) ?_
        refine w_isub rfl ?_
        refine w_i2l rfl (show inr ((y11_4_2 - u4_2)) from q_1069 h1 j11_1) ?_
        refine Ew_of (pcₚ := 99) (fun _ => x_lload_n rfl lc84_3) ?_
        refine w_lcmp rfl (show inrJ ((y11_4_2 - u4_2)) from q_1070 h1 j11_1) (show inrJ (z9) from pz9_0) (fun z24 gz24 gaz24 gbz24 => ?_)
        refine w_ifge (t := 114) rfl rfl (show inr (z24) from gz24) (fun b25 => ?_) (fun b25 => ?_)
        · have : IMP ((y11_4_10) ≠ 0) (TYB ((w14)) ((u4_9)) ((u4_8)) ((a1)) ((y11_4_10), (y11_4_11), [])) := by first | exact j11_f | (intro _; exact TYB_i (j11_l (by omega)) (ITO_e (j11_i (by omega)) (TYe_6 (by omega) (by rw [sc_lenI (by omega)]; omega) (by omega) (by omega)))) | exact fun z => absurd z (by omega)
          have : IMP ((y11_4_10) = 0) (TYB ((w14)) ((u4_9)) ((u4_8)) ((a1)) (0, (u4_9), sc ((w11_23)) ((u4_2)) ((y11_4_2)))) := by first | exact fun z => absurd z (by omega) | exact fun _ => TYB_i (j11_l (by omega)) (ITO_e (j11_i (by omega)) (TYe_0 (by omega) (by rw [sc_lenI (by omega)]; omega) rfl rfl))
          exact w_ret rfl (k σ _ _ H (SF_trans (SF_trans (SF_trans (SF_refl) hS7 (any_sub rfl)) hS_11 (any_sub rfl)) hS_c84 (any_sub rfl)) (SA_trans (SA_trans (SA_trans (SA_refl) hA8 (any_subA rfl)) hA_11 (any_subA rfl)) hA_c84 (any_subA rfl)) (y11_4_2) (((hS_c84 4 2 rfl).trans (ey11_4_2))) (y11_4_8) (((hS_c84 4 8 rfl).trans (ey11_4_8))) (y11_4_10) (((hS_c84 4 10 rfl).trans (ey11_4_10))) (y11_4_11) (((hS_c84 4 11 rfl).trans (ey11_4_11))) (w11_23) ((funext (hA_c84 23 rfl)).trans (ew11_23)) (show (u4_8) ≤ (y11_4_8) ∧ (y11_4_8) ≤ (u4_9) from q_1027 j11_0 pz9_1) (show (u4_2) ≤ (y11_4_2) ∧ (y11_4_2) ≤ (u4_2) + a1 from j11_1) (show 0 ≤ (y11_4_10) ∧ (y11_4_10) ≤ 20 from j11_3) (j11_f) (show IMP ((y11_4_10) = 0) (TYB ((w14)) ((u4_9)) ((u4_8)) (a1) (0, (u4_9), sc ((w11_23)) ((u4_2)) ((y11_4_2)))) by assumption) (j11_k))
        · refine Ew_of (pcₚ := 104) (fun _ => x_aload_n rfl lc84_0) ?_
          refine Ew_of (pcₚ := 106) (fun _ => x_bipush (z := 6) rfl (by decide)) ?_
          refine Ew_of (pcₚ := 107) (fun _ => x_aload_n rfl lc84_0) ?_
          refine w_gI H (o := 4) (w := u4_9) rfl (H.perm 4 rfl) rfl rfl rfl (fun _ => rfl) ((((hS_c84 4 9 rfl).trans (hS_11 4 9 rfl)).trans (hS7 4 9 rfl)).trans (eu4_9)) ?_
          refine w_inv H (o := 4) rfl rfl rfl (H.perm 4 rfl) rfl rfl (by rfl) (M335 H (y11_4_10) (((hS_c84 4 10 rfl).trans (ey11_4_10))) (y11_4_11) (((hS_c84 4 11 rfl).trans (ey11_4_11))) (show inr (6) from q_756) (show inr (u4_9) from q_286 r3) (fun z30 σ F26 A27 H hS28 hA29 y31 ey32 y33 ey34 pz30_0 pz30_1 pz30_2 => ⟨rretB rfl pz30_0, ?_⟩))
          have r35 : (-2147483648 : Int) ≤ y31 ∧ y31 ≤ 2147483647 := rngE (show (-2147483648 : Int) ≤ F26 4 10 ∧ F26 4 10 ≤ 2147483647 from H.frng 4 10) (show F26 4 10 = y31 from (ey32))
          have r36 : (-2147483648 : Int) ≤ y33 ∧ y33 ≤ 2147483647 := rngE (show (-2147483648 : Int) ≤ F26 4 11 ∧ F26 4 11 ≤ 2147483647 from H.frng 4 11) (show F26 4 11 = y33 from (ey34))
          refine Ew_of (pcₚ := 114) (fun _ => x_pop rfl rfl) ?_
          have : IMP ((y31) ≠ 0) (TYB ((w14)) ((u4_9)) ((u4_8)) ((a1)) ((y31), (y33), [])) := by first | exact j11_f | (intro _; exact TYB_i (j11_l (by omega)) (ITO_e (j11_i (by omega)) (TYe_6 (by omega) (by rw [sc_lenI (by omega)]; omega) (by omega) (by omega)))) | exact fun z => absurd z (by omega)
          have : IMP ((y31) = 0) (TYB ((w14)) ((u4_9)) ((u4_8)) ((a1)) (0, (u4_9), sc ((w11_23)) ((u4_2)) ((y11_4_2)))) := by first | exact fun z => absurd z (by omega) | exact fun _ => TYB_i (j11_l (by omega)) (ITO_e (j11_i (by omega)) (TYe_0 (by omega) (by rw [sc_lenI (by omega)]; omega) rfl rfl))
          exact w_ret rfl (k σ _ _ H (SF_trans (SF_trans (SF_trans (SF_trans (SF_refl) hS7 (any_sub rfl)) hS_11 (any_sub rfl)) hS_c84 (any_sub rfl)) hS28 (any_sub rfl)) (SA_trans (SA_trans (SA_trans (SA_trans (SA_refl) hA8 (any_subA rfl)) hA_11 (any_subA rfl)) hA_c84 (any_subA rfl)) hA29 (any_subA rfl)) (y11_4_2) ((((hS28 4 2 rfl).trans (hS_c84 4 2 rfl)).trans (ey11_4_2))) (y11_4_8) ((((hS28 4 8 rfl).trans (hS_c84 4 8 rfl)).trans (ey11_4_8))) (y31) ((ey32)) (y33) ((ey34)) (w11_23) ((funext (hA29 23 rfl)).trans ((funext (hA_c84 23 rfl)).trans (ew11_23))) (show (u4_8) ≤ (y11_4_8) ∧ (y11_4_8) ≤ (u4_9) from q_1027 j11_0 pz9_1) (show (u4_2) ≤ (y11_4_2) ∧ (y11_4_2) ≤ (u4_2) + a1 from j11_1) (show 0 ≤ (y31) ∧ (y31) ≤ 20 from q_1071 b23 pz30_2) (show IMP ((y31) ≠ 0) (TYB ((w14)) ((u4_9)) ((u4_8)) (a1) ((y31), (y33), [])) by assumption) (show IMP ((y31) = 0) (TYB ((w14)) ((u4_9)) ((u4_8)) (a1) (0, (u4_9), sc ((w11_23)) ((u4_2)) ((y11_4_2)))) by assumption) (j11_k))
    refine w_ifne (t := 84) rfl rfl (show inr (y11_4_10) from q_1068 j11_3) (fun b37 => ?_) (fun b37 => ?_)
    · exact hc84  _ σ _ _  (l11_0) (l11_2) (l11_3) H (SF_refl) (SA_refl)   (show ((y11_4_10) ≠ (0)) ∨ ((y11_4_10) = (0) ∧ (y11_4_8) ≥ (u4_9)) from q_1072 b37)
    · refine Ew_of (pcₚ := 19) (fun _ => x_aload_n rfl l11_0) ?_
      refine w_gI H (o := 4) (w := y11_4_8) rfl (H.perm 4 rfl) rfl rfl rfl (fun _ => rfl) (ey11_4_8) ?_
      refine Ew_of (pcₚ := 23) (fun _ => x_aload_n rfl l11_0) ?_
      refine w_gI H (o := 4) (w := u4_9) rfl (H.perm 4 rfl) rfl rfl rfl (fun _ => rfl) (((hS_11 4 9 rfl).trans (hS7 4 9 rfl)).trans (eu4_9)) ?_
      refine w_icmpge (t := 84) rfl rfl (show inr (y11_4_8) from q_286 r20) (show inr (u4_9) from q_286 r3) (fun b38 => ?_) (fun b38 => ?_)
      · exact hc84  _ σ _ _  (l11_0) (l11_2) (l11_3) H (SF_refl) (SA_refl)   (show ((y11_4_10) ≠ (0)) ∨ ((y11_4_10) = (0) ∧ (y11_4_8) ≥ (u4_9)) from q_1073 b37 b38)
      · have hito := j11_i (by omega)
        have hTL := j11_l (by omega)
        refine Ew_of (pcₚ := 30) (fun _ => x_aload_n rfl l11_0) ?_
        refine w_gI H (o := 4) (w := y11_4_8) rfl (H.perm 4 rfl) rfl rfl rfl (fun _ => rfl) (ey11_4_8) ?_
        refine Ew_of (pcₚ := 35) (fun _ => x_istore rfl) ?_
        refine Ew_of (pcₚ := 36) (fun _ => x_aload_n rfl (rk_o (l11_0) rfl rfl)) ?_
        refine Ew_of (pcₚ := 37) (fun _ => x_iconst rfl) ?_
        refine w_inv H (o := 4) rfl rfl rfl (H.perm 4 rfl) rfl rfl (by rfl) (M336 H (y11_4_8) ((ey11_4_8)) (u4_9) ((((hS_11 4 9 rfl).trans (hS7 4 9 rfl)).trans (eu4_9))) (y11_4_10) ((ey11_4_10)) (y11_4_11) ((ey11_4_11)) (w14) ((funext (hA_11 14 rfl)).trans ((funext (hA8 14 rfl)).trans (ew14))) (show inr (1) from q_135) (show 0 ≤ (1) ∧ (1) ≤ 4 from q_992) (show 0 ≤ (y11_4_8) ∧ (y11_4_8) ≤ (u4_9) from q_1028 j11_0 r20) (fun z43 σ F39 A40 H hS41 hA42 y44 ey45 y46 ey47 y48 ey49 pz43_0 pz43_1 pz43_2 pz43_3 pz43_4 pz43_5 pz43_6 pz43_7 pz43_8 pz43_9 pz43_10 pz43_11 pz43_12 => ⟨rfl, ?_⟩))
        have r50 : (0 : Int) ≤ y44 ∧ y44 ≤ 65536 := rngE (show (0 : Int) ≤ F39 4 8 ∧ F39 4 8 ≤ 65536 from H.frng 4 8) (show F39 4 8 = y44 from (ey45))
        have r51 : (-2147483648 : Int) ≤ y46 ∧ y46 ≤ 2147483647 := rngE (show (-2147483648 : Int) ≤ F39 4 10 ∧ F39 4 10 ≤ 2147483647 from H.frng 4 10) (show F39 4 10 = y46 from (ey47))
        have r52 : (-2147483648 : Int) ≤ y48 ∧ y48 ≤ 2147483647 := rngE (show (-2147483648 : Int) ≤ F39 4 11 ∧ F39 4 11 ≤ 2147483647 from H.frng 4 11) (show F39 4 11 = y48 from (ey49))
        have hI5 : ((w14)) ((y11_4_8)) = (z43) := nvl_b hBd (pz43_9 (by omega)) (by omega)
        refine w_l2i rfl ?_
        refine Ew_of (pcₚ := 43) (fun _ => x_istore rfl) ?_
        refine Ew_of (pcₚ := 45) (fun _ => x_iload rfl rk_s) ?_
        refine Ew_of (pcₚ := 46) (fun _ => x_iconst rfl) ?_
        refine w_irem rfl (show inr (z43) ∧ 0 ≤ z43 by omega) (show inr (4) ∧ 0 < 4 from q_1074) ?_
        refine w_ifne (t := 65) rfl rfl (show inr ((z43 % 4)) from q_1075) (fun b53 => ?_) (fun b53 => ?_)
        · have : ((w14)) ((y11_4_8)) = 4 * ((z43) / 4) + (z43) % 4 := by rw [hI5]; omega
          refine Ew_of (pcₚ := 66) (fun _ => x_aload_n rfl (rk_o (rk_o (l11_0) rfl rfl) rfl rfl)) ?_
          refine Ew_of (pcₚ := 68) (fun _ => x_iload rfl (rk_o (rk_s) rfl rfl)) ?_
          refine Ew_of (pcₚ := 69) (fun _ => x_iload_n rfl (rk_o (rk_o (l11_2) rfl rfl) rfl rfl)) ?_
          refine Ew_of (pcₚ := 71) (fun _ => x_iload rfl rk_s) ?_
          refine Ew_of (pcₚ := 72) (fun _ => x_iconst rfl) ?_
          refine w_irem rfl (show inr (z43) ∧ 0 ≤ z43 by omega) (show inr (4) ∧ 0 < 4 from q_1074) ?_
          refine Ew_of (pcₚ := 75) (fun _ => x_iload rfl rk_s) ?_
          refine Ew_of (pcₚ := 76) (fun _ => x_iconst rfl) ?_
          refine w_idiv rfl (show inr (z43) ∧ 0 ≤ z43 by omega) (show inr (4) ∧ 0 < 4 from q_1074) ?_
          refine Ew_of (pcₚ := 78) (fun _ => x_lload_n rfl (rk_o (rk_o (l11_3) rfl rfl) rfl rfl)) ?_
          refine w_inv H (o := 4) rfl rfl rfl (H.perm 4 rfl) rfl rfl (by rfl) (M340 H (y11_4_2) (((hS41 4 2 rfl).trans (ey11_4_2))) (y44) ((ey45)) (u4_9) (((((hS41 4 9 rfl).trans (hS_11 4 9 rfl)).trans (hS7 4 9 rfl)).trans (eu4_9))) (y46) ((ey47)) (w14) ((funext (hA42 14 rfl)).trans ((funext (hA_11 14 rfl)).trans ((funext (hA8 14 rfl)).trans (ew14)))) (w11_23) ((funext (hA42 23 rfl)).trans (ew11_23)) (show inr (y11_4_8) from q_286 r20) (show inr (u4_2) from q_1077 h1) (show inr ((z43 % 4)) from q_1075) (show inr ((z43 / 4)) from q_1076 pz43_10 pz43_2 pz43_5) (show inrJ (z9) from pz9_0) (show 0 ≤ (y44) ∧ (y44) ≤ (u4_9) from q_1028 pz43_1 r50) (show 0 ≤ (u4_2) ∧ (u4_2) ≤ (y11_4_2) ∧ (y11_4_2) ≤ (u4_2) + (z9) ∧ (u4_2) + (z9) ≤ 65536 by omega) (show 1 ≤ ((z43 % 4)) ∧ ((z43 % 4)) ≤ 3 ∧ 0 ≤ ((z43 / 4)) ∧ ((z43 / 4)) ≤ 63 by omega) (show (y46) = 0 by omega) (show (y44) = (y11_4_8) + 1 ∧ (y11_4_8) < (u4_9) ∧ 0 ≤ (y11_4_8) by omega) (show ((w14)) ((y11_4_8)) = 4 * ((z43 / 4)) + ((z43 % 4)) by assumption) (fun σ F54 A55 H hS56 hA57 y59 ey60 y61 ey62 y63 ey64 y65 ey66 wv67 ewv68 pz58_0 pz58_1 pz58_2 pz58_3 pz58_4 pz58_5 => ⟨rfl, ?_⟩))
          have r69 : (-2147483648 : Int) ≤ y59 ∧ y59 ≤ 2147483647 := rngE (show (-2147483648 : Int) ≤ F54 4 2 ∧ F54 4 2 ≤ 2147483647 from H.frng 4 2) (show F54 4 2 = y59 from (ey60))
          have r70 : (0 : Int) ≤ y61 ∧ y61 ≤ 65536 := rngE (show (0 : Int) ≤ F54 4 8 ∧ F54 4 8 ≤ 65536 from H.frng 4 8) (show F54 4 8 = y61 from (ey62))
          have r71 : (-2147483648 : Int) ≤ y63 ∧ y63 ≤ 2147483647 := rngE (show (-2147483648 : Int) ≤ F54 4 10 ∧ F54 4 10 ≤ 2147483647 from H.frng 4 10) (show F54 4 10 = y63 from (ey64))
          have r72 : (-2147483648 : Int) ≤ y65 ∧ y65 ≤ 2147483647 := rngE (show (-2147483648 : Int) ≤ F54 4 11 ∧ F54 4 11 ≤ 2147483647 from H.frng 4 11) (show F54 4 11 = y65 from (ey66))
          refine Ew_of (pcₚ := 11) (fun _ => x_goto rfl rfl) ?_
          have : IMP ((y63) = 0) (ITO (TYs ((w14)) ((u4_9)) ((z9))) (TYe ((w14)) ((u4_9)) ((z9))) (q1, []) ((y61), sc ((wv67)) ((u4_2)) ((y59)))) := by first | exact fun z => ITO_s hito (h2_ z) | exact fun z => ITO_s hito (pz58_4 z)
          have : IMP ((y63) ≠ 0) (TYB ((w14)) ((u4_9)) ((u4_8)) ((a1)) ((y63), (y65), [])) := by first | exact fun z => TYB_i hTL (ITO_e hito (h1_ z)) | exact fun z => TYB_i hTL (ITO_e hito (pz58_3 z))
          have : KLO ((w23)) ((wv67)) ((u4_2)) := by first | exact KLO_t j11_k h3_ (by omega) | exact KLO_t j11_k pz58_5 (by omega)
          have : IMP ((y63) = 0) (TLQ ((w14)) ((u4_9)) ((u4_8)) ((a1)) (0, 0, (z9), q1)) := fun _ => hTL
          exact ih11 _ (by omega) _ σ _ _  (rk_o (rk_o (l11_0) rfl rfl) rfl rfl) (rk_o (rk_o (l11_2) rfl rfl) rfl rfl) (rk_o (rk_o (l11_3) rfl rfl) rfl rfl) H (SF_trans (SF_trans (hS_11) hS41 (any_sub rfl)) hS56 (any_sub rfl)) (SA_trans (SA_trans (hA_11) hA42 (any_subA rfl)) hA57 (any_subA rfl)) (y59) ((ey60)) (y61) ((ey62)) (y63) ((ey64)) (y65) ((ey66)) (wv67) (ewv68) (show (y10) ≤ (y61) ∧ (y61) ≤ (u4_9) from q_1080 j11_0 pz43_1 pz58_0) (show (u4_2) ≤ (y59) ∧ (y59) ≤ (u4_2) + (a1) from q_1079 j11_1 pz58_1 pz9_2) (show (y63) ≠ 0 ∨ (y59) ≤ (u4_2) + (z9) from q_1078 pz58_1) (show 0 ≤ (y63) ∧ (y63) ≤ 20 from pz58_2) (show IMP ((y63) = 0) (ITO (TYs ((w14)) ((u4_9)) ((z9))) (TYe ((w14)) ((u4_9)) ((z9))) (q1, []) ((y61), sc ((wv67)) ((u4_2)) ((y59)))) by assumption) (show IMP ((y63) ≠ 0) (TYB ((w14)) ((u4_9)) ((u4_8)) ((a1)) ((y63), (y65), [])) by assumption) (show KLO ((w23)) ((wv67)) ((u4_2)) by assumption) (show IMP ((y63) = 0) (TLQ ((w14)) ((u4_9)) ((u4_8)) ((a1)) (0, 0, (z9), q1)) by assumption) rfl
        · have : ((w14)) ((y11_4_8)) = 4 * ((z43) / 4) := by rw [hI5]; omega
          refine Ew_of (pcₚ := 51) (fun _ => x_aload_n rfl (rk_o (rk_o (l11_0) rfl rfl) rfl rfl)) ?_
          refine Ew_of (pcₚ := 53) (fun _ => x_iload rfl (rk_o (rk_s) rfl rfl)) ?_
          refine Ew_of (pcₚ := 54) (fun _ => x_iload_n rfl (rk_o (rk_o (l11_2) rfl rfl) rfl rfl)) ?_
          refine Ew_of (pcₚ := 56) (fun _ => x_iload rfl rk_s) ?_
          refine Ew_of (pcₚ := 57) (fun _ => x_iconst rfl) ?_
          refine w_idiv rfl (show inr (z43) ∧ 0 ≤ z43 by omega) (show inr (4) ∧ 0 < 4 from q_1074) ?_
          refine Ew_of (pcₚ := 59) (fun _ => x_lload_n rfl (rk_o (rk_o (l11_3) rfl rfl) rfl rfl)) ?_
          refine w_inv H (o := 4) rfl rfl rfl (H.perm 4 rfl) rfl rfl (by rfl) (M339 H (y11_4_2) (((hS41 4 2 rfl).trans (ey11_4_2))) (y44) ((ey45)) (u4_9) (((((hS41 4 9 rfl).trans (hS_11 4 9 rfl)).trans (hS7 4 9 rfl)).trans (eu4_9))) (y46) ((ey47)) (w14) ((funext (hA42 14 rfl)).trans ((funext (hA_11 14 rfl)).trans ((funext (hA8 14 rfl)).trans (ew14)))) (w11_23) ((funext (hA42 23 rfl)).trans (ew11_23)) (show inr (y11_4_8) from q_286 r20) (show inr (u4_2) from q_1077 h1) (show inr ((z43 / 4)) from q_1081 b53 pz43_10 pz43_2 pz43_5) (show inrJ (z9) from pz9_0) (show 0 ≤ (y44) ∧ (y44) ≤ (u4_9) from q_1028 pz43_1 r50) (show 0 ≤ (u4_2) ∧ (u4_2) ≤ (y11_4_2) ∧ (y11_4_2) ≤ (u4_2) + (z9) ∧ (u4_2) + (z9) ≤ 65536 by omega) (show 0 ≤ ((z43 / 4)) ∧ ((z43 / 4)) ≤ 63 by omega) (show (y46) = 0 by omega) (show (y44) = (y11_4_8) + 1 ∧ (y11_4_8) < (u4_9) ∧ 0 ≤ (y11_4_8) by omega) (show ((w14)) ((y11_4_8)) = 4 * ((z43 / 4)) by assumption) (fun σ F73 A74 H hS75 hA76 y78 ey79 y80 ey81 y82 ey83 y84 ey85 wv86 ewv87 pz77_0 pz77_1 pz77_2 pz77_3 pz77_4 pz77_5 => ⟨rfl, ?_⟩))
          have r88 : (-2147483648 : Int) ≤ y78 ∧ y78 ≤ 2147483647 := rngE (show (-2147483648 : Int) ≤ F73 4 2 ∧ F73 4 2 ≤ 2147483647 from H.frng 4 2) (show F73 4 2 = y78 from (ey79))
          have r89 : (0 : Int) ≤ y80 ∧ y80 ≤ 65536 := rngE (show (0 : Int) ≤ F73 4 8 ∧ F73 4 8 ≤ 65536 from H.frng 4 8) (show F73 4 8 = y80 from (ey81))
          have r90 : (-2147483648 : Int) ≤ y82 ∧ y82 ≤ 2147483647 := rngE (show (-2147483648 : Int) ≤ F73 4 10 ∧ F73 4 10 ≤ 2147483647 from H.frng 4 10) (show F73 4 10 = y82 from (ey83))
          have r91 : (-2147483648 : Int) ≤ y84 ∧ y84 ≤ 2147483647 := rngE (show (-2147483648 : Int) ≤ F73 4 11 ∧ F73 4 11 ≤ 2147483647 from H.frng 4 11) (show F73 4 11 = y84 from (ey85))
          have h1_ := pz77_3
          have h2_ := pz77_4
          have h3_ := pz77_5
          refine Ew_of (pcₚ := 81) (fun _ => x_goto rfl rfl) ?_
          refine Ew_of (pcₚ := 11) (fun _ => x_goto rfl rfl) ?_
          have : IMP ((y82) = 0) (ITO (TYs ((w14)) ((u4_9)) ((z9))) (TYe ((w14)) ((u4_9)) ((z9))) (q1, []) ((y80), sc ((wv86)) ((u4_2)) ((y78)))) := by first | exact fun z => ITO_s hito (h2_ z) | exact fun z => ITO_s hito (pz58_4 z)
          have : IMP ((y82) ≠ 0) (TYB ((w14)) ((u4_9)) ((u4_8)) ((a1)) ((y82), (y84), [])) := by first | exact fun z => TYB_i hTL (ITO_e hito (h1_ z)) | exact fun z => TYB_i hTL (ITO_e hito (pz58_3 z))
          have : KLO ((w23)) ((wv86)) ((u4_2)) := by first | exact KLO_t j11_k h3_ (by omega) | exact KLO_t j11_k pz58_5 (by omega)
          have : IMP ((y82) = 0) (TLQ ((w14)) ((u4_9)) ((u4_8)) ((a1)) (0, 0, (z9), q1)) := fun _ => hTL
          exact ih11 _ (by omega) _ σ _ _  (rk_o (rk_o (l11_0) rfl rfl) rfl rfl) (rk_o (rk_o (l11_2) rfl rfl) rfl rfl) (rk_o (rk_o (l11_3) rfl rfl) rfl rfl) H (SF_trans (SF_trans (hS_11) hS41 (any_sub rfl)) hS75 (any_sub rfl)) (SA_trans (SA_trans (hA_11) hA42 (any_subA rfl)) hA76 (any_subA rfl)) (y78) ((ey79)) (y80) ((ey81)) (y82) ((ey83)) (y84) ((ey85)) (wv86) (ewv87) (show (y10) ≤ (y80) ∧ (y80) ≤ (u4_9) from q_1080 j11_0 pz43_1 pz77_0) (show (u4_2) ≤ (y78) ∧ (y78) ≤ (u4_2) + (a1) from q_1079 j11_1 pz77_1 pz9_2) (show (y82) ≠ 0 ∨ (y78) ≤ (u4_2) + (z9) from q_1078 pz77_1) (show 0 ≤ (y82) ∧ (y82) ≤ 20 from pz77_2) (show IMP ((y82) = 0) (ITO (TYs ((w14)) ((u4_9)) ((z9))) (TYe ((w14)) ((u4_9)) ((z9))) (q1, []) ((y80), sc ((wv86)) ((u4_2)) ((y78)))) by assumption) (show IMP ((y82) ≠ 0) (TYB ((w14)) ((u4_9)) ((u4_8)) ((a1)) ((y82), (y84), [])) by assumption) (show KLO ((w23)) ((wv86)) ((u4_2)) by assumption) (show IMP ((y82) = 0) (TLQ ((w14)) ((u4_9)) ((u4_8)) ((a1)) (0, 0, (z9), q1)) by assumption) rfl

