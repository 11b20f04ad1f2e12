theorem M367 {σ0 σ : rS} {D N : Nat → Nat} {F : hF} {A : hA} {d c s : Nat} {Q : wQ} (H : HS σ0 σ D N F A)  (u3_2 : Int) (eu3_2 : F 3 2 = u3_2) (w16 : Int → Int) (ew16 : A 16 = w16) (h0 : (u3_2) ≤ 16384) (k : ∀ σ Fₚ Aₚ, HS σ0 σ D N Fₚ Aₚ → SF [(3, 5)] F Fₚ → SA [18] A Aₚ → ∀ y3_5 : Int, Fₚ 3 5 = y3_5 → ∀ v18 : Int → Int, Aₚ 18 = v18 → ((y3_5) = (u3_2)) → (CPY ((w16)) ((v18)) (0) (0) ((u3_2))) → Q none σ c s) : Ew 367 (d + 0) 0 (rargs 0 [.ref (D 3)]) [] σ c s Q := by
  have r1 : (0 : Int) ≤ u3_2 ∧ u3_2 ≤ 65536 := rngE (show (0 : Int) ≤ F 3 2 ∧ F 3 2 ≤ 65536 from H.frng 3 2) (show F 3 2 = u3_2 from (eu3_2))
  refine Ew_of (pcₚ := 1) (fun _ => x_iconst rfl) ?_
  refine Ew_of (pcₚ := 2) (fun _ => x_istore_n rfl) ?_
  have : CPY ((w16)) ((A 18)) (0) (0) (0) := CPY_0
  suffices hl2 : ∀ (m : Nat), ∀ (ls : rO) (σ : rS) (F_2 : hF) (A_2 : hA) (x2_1 : Int), rlook ls 0 = some (.ref (D 3)) → rlook ls 1 = some (I (x2_1)) → HS σ0 σ D N F_2 A_2 → SF [] F F_2 → SA [18] A A_2 → ∀ w2_18 : Int → Int, A_2 18 = w2_18 → (inr (x2_1)) → ((0) ≤ (x2_1)) → ((x2_1) ≤ (0) ∨ (x2_1) ≤ ((u3_2))) → (CPY ((w16)) ((w2_18)) (0) (0) ((x2_1))) → (((u3_2)) - (x2_1)).toNat = m → Ew 367 (d + 0) 2 ls [] σ c s Q from
    hl2 _ _ σ _ _ (0) (rk_o (rfl) rfl rfl) (rk_s) H (SF_refl) (SA_refl)  (A 18) (rfl) (show inr (0) from q_2) (show (0) ≤ (0) from q_1) (show (0) ≤ (0) ∨ (0) ≤ ((u3_2)) from q_5) (show CPY ((w16)) ((A 18)) (0) (0) ((0)) by assumption) rfl
  as_aux_lemma =>
  intro m
  induction m using Nat.strongRecOn with
  | _ m ih2 =>
    intro ls σ F_2 A_2 x2_1 l2_0 l2_1 H hS_2 hA_2  w2_18 ew2_18 j2_0 j2_1 j2_2 j2_3 hm2
    have j2_c : CPY ((w16)) ((w2_18)) (0) (0) ((x2_1)) := j2_3
    refine Ew_of (pcₚ := 3) (fun _ => x_iload_n rfl l2_1) ?_
    refine Ew_of (pcₚ := 4) (fun _ => x_aload_n rfl l2_0) ?_
    refine w_gI H (o := 3) (w := u3_2) rfl (H.perm 3 rfl) rfl rfl rfl (fun _ => rfl) ((hS_2 3 2 rfl).trans (eu3_2)) ?_
    refine w_icmpge (t := 28) rfl rfl (show inr (x2_1) from j2_0) (show inr (u3_2) from q_286 r1) (fun b2 => ?_) (fun b2 => ?_)
    · have : CPY ((w16)) ((w2_18)) (0) (0) ((u3_2)) := by rw [show (u3_2) = (x2_1) by omega]; exact j2_c
      refine Ew_of (pcₚ := 29) (fun _ => x_aload_n rfl l2_0) ?_
      refine Ew_of (pcₚ := 30) (fun _ => x_aload_n rfl l2_0) ?_
      refine w_gI H (o := 3) (w := u3_2) rfl (H.perm 3 rfl) rfl rfl rfl (fun _ => rfl) ((hS_2 3 2 rfl).trans (eu3_2)) ?_
      refine w_pI H (o := 3) rfl rfl (H.perm 3 rfl) rfl rfl rfl (fun _ => rfl) rfl (show (-2147483648 : Int) ≤ u3_2 ∧ u3_2 ≤ 2147483647 from q_302 r1) (fun σ H => ?_)
      exact w_ret rfl (k σ _ _ H (SF_upd (SF_trans (SF_refl) hS_2 (any_sub rfl)) rfl) (SA_trans (SA_refl) hA_2 (any_subA rfl)) (u3_2) (rfl) (w2_18) (ew2_18) (show (u3_2) = (u3_2) from q_303) (show CPY ((w16)) ((w2_18)) (0) (0) ((u3_2)) by assumption))
    · refine Ew_of (pcₚ := 11) (fun _ => x_aload_n rfl l2_0) ?_
      refine w_gT H (o := 3) (t := 18) rfl (H.perm 3 rfl) rfl rfl rfl rfl rfl rfl ?_
      refine Ew_of (pcₚ := 15) (fun _ => x_iload_n rfl l2_1) ?_
      refine Ew_of (pcₚ := 16) (fun _ => x_aload_n rfl l2_0) ?_
      refine w_gT H (o := 3) (t := 16) rfl (H.perm 3 rfl) rfl rfl rfl rfl rfl rfl ?_
      refine Ew_of (pcₚ := 20) (fun _ => x_iload_n rfl l2_1) ?_
      refine w_lI H (o := 16) (n := 65536) rfl (H.perm 16 rfl) rfl rfl (H.fix 16 rfl rfl) (show 0 ≤ x2_1 ∧ x2_1 < ((65536 : Nat) : Int) from q_294 b2 j2_1 r1) (by decide) (fun v3 ev3 qv3 => ?_)
      have qv3 : (0 : Int) ≤ v3 ∧ v3 ≤ 255 := qv3
      have ev3 : (w16) (x2_1) = v3 := (congrFun ((funext (hA_2 16 rfl)).trans (ew16)) (x2_1)).symm.trans ev3
      have hv := ev3
      refine w_sI H (o := 18) (n := 16384) rfl (H.perm 18 rfl) rfl rfl (H.fix 18 rfl rfl) (show 0 ≤ x2_1 ∧ x2_1 < ((16384 : Nat) : Int) from q_304 b2 h0 j2_1) (by decide) (show (0 : Int) ≤ v3 ∧ v3 ≤ 255 from qv3) (fun σ H => ?_)
      refine Ew_of (pcₚ := 25) (fun _ => x_iinc (len := 3) rfl (l2_1)) ?_
      refine Ew_of (pcₚ := 2) (fun _ => x_goto rfl rfl) ?_
      have : CPY ((w16)) ((upd1 (w2_18) (x2_1) (v3))) (0) (0) (((x2_1 + 1))) := CPY_s j2_c hv (by omega) (by omega) rfl
      exact ih2 _ (msE hm2 q_16 (q_17 b2)) _ σ _ _ ((x2_1 + 1)) (rk_o (l2_0) rfl rfl) (rk_s) H (hS_2) (SA_upd (hA_2) rfl)  (upd1 (w2_18) (x2_1) (v3)) (congrArg (fun q => upd1 q (x2_1) (v3)) (ew2_18)) (show inr ((x2_1 + 1)) from q_296 b2 j2_1 r1) (show (0) ≤ ((x2_1 + 1)) from q_14 j2_1) (show ((x2_1 + 1)) ≤ (0) ∨ ((x2_1 + 1)) ≤ ((u3_2)) from q_13 b2) (show CPY ((w16)) ((upd1 (w2_18) (x2_1) (v3))) (0) (0) (((x2_1 + 1))) by assumption) rfl

theorem M373 {σ0 σ : rS} {D N : Nat → Nat} {F : hF} {A : hA} {d c s : Nat} {Q : wQ} (H : HS σ0 σ D N F A)  (u3_2 : Int) (eu3_2 : F 3 2 = u3_2) (w16 : Int → Int) (ew16 : A 16 = w16) (k : ∀ σ Fₚ Aₚ, HS σ0 σ D N Fₚ Aₚ → SF [(3, 12)] F Fₚ → SA [21] A Aₚ → ∀ y3_12 : Int, Fₚ 3 12 = y3_12 → ∀ v21 : Int → Int, Aₚ 21 = v21 → ((y3_12) = (u3_2)) → (CPY ((w16)) ((v21)) (0) (0) ((u3_2))) → Q none σ c s) : Ew 373 (d + 0) 0 (rargs 0 [.ref (D 3)]) [] σ c s Q := by
  have r1 : (0 : Int) ≤ u3_2 ∧ u3_2 ≤ 65536 := rngE (show (0 : Int) ≤ F 3 2 ∧ F 3 2 ≤ 65536 from H.frng 3 2) (show F 3 2 = u3_2 from (eu3_2))
  refine Ew_of (pcₚ := 1) (fun _ => x_iconst rfl) ?_
  refine Ew_of (pcₚ := 2) (fun _ => x_istore_n rfl) ?_
  have : CPY ((w16)) ((A 21)) (0) (0) (0) := CPY_0
  suffices hl2 : ∀ (m : Nat), ∀ (ls : rO) (σ : rS) (F_2 : hF) (A_2 : hA) (x2_1 : Int), rlook ls 0 = some (.ref (D 3)) → rlook ls 1 = some (I (x2_1)) → HS σ0 σ D N F_2 A_2 → SF [] F F_2 → SA [21] A A_2 → ∀ w2_21 : Int → Int, A_2 21 = w2_21 → (inr (x2_1)) → ((0) ≤ (x2_1)) → ((x2_1) ≤ (0) ∨ (x2_1) ≤ ((u3_2))) → (CPY ((w16)) ((w2_21)) (0) (0) ((x2_1))) → (((u3_2)) - (x2_1)).toNat = m → Ew 373 (d + 0) 2 ls [] σ c s Q from
    hl2 _ _ σ _ _ (0) (rk_o (rfl) rfl rfl) (rk_s) H (SF_refl) (SA_refl)  (A 21) (rfl) (show inr (0) from q_2) (show (0) ≤ (0) from q_1) (show (0) ≤ (0) ∨ (0) ≤ ((u3_2)) from q_5) (show CPY ((w16)) ((A 21)) (0) (0) ((0)) by assumption) rfl
  as_aux_lemma =>
  intro m
  induction m using Nat.strongRecOn with
  | _ m ih2 =>
    intro ls σ F_2 A_2 x2_1 l2_0 l2_1 H hS_2 hA_2  w2_21 ew2_21 j2_0 j2_1 j2_2 j2_3 hm2
    have j2_c : CPY ((w16)) ((w2_21)) (0) (0) ((x2_1)) := j2_3
    refine Ew_of (pcₚ := 3) (fun _ => x_iload_n rfl l2_1) ?_
    refine Ew_of (pcₚ := 4) (fun _ => x_aload_n rfl l2_0) ?_
    refine w_gI H (o := 3) (w := u3_2) rfl (H.perm 3 rfl) rfl rfl rfl (fun _ => rfl) ((hS_2 3 2 rfl).trans (eu3_2)) ?_
    refine w_icmpge (t := 28) rfl rfl (show inr (x2_1) from j2_0) (show inr (u3_2) from q_286 r1) (fun b2 => ?_) (fun b2 => ?_)
    · have : CPY ((w16)) ((w2_21)) (0) (0) ((u3_2)) := by rw [show (u3_2) = (x2_1) by omega]; exact j2_c
      refine Ew_of (pcₚ := 29) (fun _ => x_aload_n rfl l2_0) ?_
      refine Ew_of (pcₚ := 30) (fun _ => x_aload_n rfl l2_0) ?_
      refine w_gI H (o := 3) (w := u3_2) rfl (H.perm 3 rfl) rfl rfl rfl (fun _ => rfl) ((hS_2 3 2 rfl).trans (eu3_2)) ?_
      refine w_pI H (o := 3) rfl rfl (H.perm 3 rfl) rfl rfl rfl (fun _ => rfl) rfl (show (-2147483648 : Int) ≤ u3_2 ∧ u3_2 ≤ 2147483647 from q_302 r1) (fun σ H => ?_)
      exact w_ret rfl (k σ _ _ H (SF_upd (SF_trans (SF_refl) hS_2 (any_sub rfl)) rfl) (SA_trans (SA_refl) hA_2 (any_subA rfl)) (u3_2) (rfl) (w2_21) (ew2_21) (show (u3_2) = (u3_2) from q_303) (show CPY ((w16)) ((w2_21)) (0) (0) ((u3_2)) by assumption))
    · refine Ew_of (pcₚ := 11) (fun _ => x_aload_n rfl l2_0) ?_
      refine w_gT H (o := 3) (t := 21) rfl (H.perm 3 rfl) rfl rfl rfl rfl rfl rfl ?_
      refine Ew_of (pcₚ := 15) (fun _ => x_iload_n rfl l2_1) ?_
      refine Ew_of (pcₚ := 16) (fun _ => x_aload_n rfl l2_0) ?_
      refine w_gT H (o := 3) (t := 16) rfl (H.perm 3 rfl) rfl rfl rfl rfl rfl rfl ?_
      refine Ew_of (pcₚ := 20) (fun _ => x_iload_n rfl l2_1) ?_
      refine w_lI H (o := 16) (n := 65536) rfl (H.perm 16 rfl) rfl rfl (H.fix 16 rfl rfl) (show 0 ≤ x2_1 ∧ x2_1 < ((65536 : Nat) : Int) from q_294 b2 j2_1 r1) (by decide) (fun v3 ev3 qv3 => ?_)
      have qv3 : (0 : Int) ≤ v3 ∧ v3 ≤ 255 := qv3
      have ev3 : (w16) (x2_1) = v3 := (congrFun ((funext (hA_2 16 rfl)).trans (ew16)) (x2_1)).symm.trans ev3
      have hv := ev3
      refine w_sI H (o := 21) (n := 131072) rfl (H.perm 21 rfl) rfl rfl (H.fix 21 rfl rfl) (show 0 ≤ x2_1 ∧ x2_1 < ((131072 : Nat) : Int) from q_305 b2 j2_1 r1) (by decide) (show (0 : Int) ≤ v3 ∧ v3 ≤ 255 from qv3) (fun σ H => ?_)
      refine Ew_of (pcₚ := 25) (fun _ => x_iinc (len := 3) rfl (l2_1)) ?_
      refine Ew_of (pcₚ := 2) (fun _ => x_goto rfl rfl) ?_
      have : CPY ((w16)) ((upd1 (w2_21) (x2_1) (v3))) (0) (0) (((x2_1 + 1))) := CPY_s j2_c hv (by omega) (by omega) rfl
      exact ih2 _ (msE hm2 q_16 (q_17 b2)) _ σ _ _ ((x2_1 + 1)) (rk_o (l2_0) rfl rfl) (rk_s) H (hS_2) (SA_upd (hA_2) rfl)  (upd1 (w2_21) (x2_1) (v3)) (congrArg (fun q => upd1 q (x2_1) (v3)) (ew2_21)) (show inr ((x2_1 + 1)) from q_296 b2 j2_1 r1) (show (0) ≤ ((x2_1 + 1)) from q_14 j2_1) (show ((x2_1 + 1)) ≤ (0) ∨ ((x2_1 + 1)) ≤ ((u3_2)) from q_13 b2) (show CPY ((w16)) ((upd1 (w2_21) (x2_1) (v3))) (0) (0) (((x2_1 + 1))) by assumption) rfl

theorem M363 {σ0 σ : rS} {D N : Nat → Nat} {F : hF} {A : hA} {d c s : Nat} {Q : wQ} (H : HS σ0 σ D N F A) {a1 : Int} (u3_10 : Int) (eu3_10 : F 3 10 = u3_10) (w20 : Int → Int) (ew20 : A 20 = w20) (h0 : inr (a1)) (h1 : 0 ≤ (a1) ∧ (a1) ≤ 255) (h2 : 0 ≤ (u3_10) ∧ (u3_10) ≤ 100000000) (k : ∀ σ Fₚ Aₚ, HS σ0 σ D N Fₚ Aₚ → SF [(3, 10)] F Fₚ → SA [20] A Aₚ → ∀ y3_10 : Int, Fₚ 3 10 = y3_10 → ∀ v20 : Int → Int, Aₚ 20 = v20 → ((y3_10) = (u3_10) + 1) → (QAP 70000 ((w20)) ((u3_10)) ((v20)) ((y3_10)) ([(a1)])) → Q none σ c s) : Ew 363 (d + 0) 0 (rargs 0 [.ref (D 3), I a1]) [] σ c s Q := by
  have r1 : (-2147483648 : Int) ≤ u3_10 ∧ u3_10 ≤ 2147483647 := rngE (show (-2147483648 : Int) ≤ F 3 10 ∧ F 3 10 ≤ 2147483647 from H.frng 3 10) (show F 3 10 = u3_10 from (eu3_10))
  refine Ew_of (pcₚ := 1) (fun _ => x_aload_n rfl rfl) ?_
  refine w_gI H (o := 3) (w := u3_10) rfl (H.perm 3 rfl) rfl rfl rfl (fun _ => rfl) (eu3_10) ?_
  refine Ew_of (pcₚ := 6) (fun _ => x_ldc (z := 70000) rfl (by decide)) ?_
  refine w_icmpge (t := 19) rfl rfl (show inr (u3_10) from q_307 h2 r1) (show inr (70000) from q_306) (fun b2 => ?_) (fun b2 => ?_)
  · refine Ew_of (pcₚ := 20) (fun _ => x_aload_n rfl rfl) ?_
    refine Ew_of (pcₚ := 21) (fun _ => x_dup rfl rfl) ?_
    refine w_gI H (o := 3) (w := u3_10) rfl (H.perm 3 rfl) rfl rfl rfl (fun _ => rfl) (eu3_10) ?_
    refine Ew_of (pcₚ := 25) (fun _ => x_iconst rfl) ?_
    refine w_iadd rfl ?_
    refine w_pI H (o := 3) rfl rfl (H.perm 3 rfl) rfl rfl rfl (fun _ => rfl) rfl (show (-2147483648 : Int) ≤ (u3_10 + 1) ∧ (u3_10 + 1) ≤ 2147483647 by omega) (fun σ H => ?_)
    have : QAP 70000 ((w20)) ((u3_10)) ((w20)) (((u3_10 + 1))) ([(a1)]) := by first | exact QAP_in (by omega) (by omega) rfl | exact QAP_out (by omega) rfl
    exact w_ret rfl (k σ _ _ H (SF_upd (SF_refl) rfl) (SA_refl) ((u3_10 + 1)) (rfl) (w20) (ew20) (show ((u3_10 + 1)) = (u3_10) + 1 from q_308) (show QAP 70000 ((w20)) ((u3_10)) ((w20)) (((u3_10 + 1))) ([a1]) by assumption))
  · refine Ew_of (pcₚ := 10) (fun _ => x_aload_n rfl rfl) ?_
    refine w_gT H (o := 3) (t := 20) rfl (H.perm 3 rfl) rfl rfl rfl rfl rfl rfl ?_
    refine Ew_of (pcₚ := 14) (fun _ => x_aload_n rfl rfl) ?_
    refine w_gI H (o := 3) (w := u3_10) rfl (H.perm 3 rfl) rfl rfl rfl (fun _ => rfl) (eu3_10) ?_
    refine Ew_of (pcₚ := 18) (fun _ => x_iload_n rfl rfl) ?_
    refine w_sI H (o := 20) (n := 70000) rfl (H.perm 20 rfl) rfl rfl (H.fix 20 rfl rfl) (show 0 ≤ u3_10 ∧ u3_10 < ((70000 : Nat) : Int) from q_309 b2 h2) (by decide) (show (0 : Int) ≤ a1 ∧ a1 ≤ 255 from h1) (fun σ H => ?_)
    refine Ew_of (pcₚ := 20) (fun _ => x_aload_n rfl rfl) ?_
    refine Ew_of (pcₚ := 21) (fun _ => x_dup rfl rfl) ?_
    refine w_gI H (o := 3) (w := u3_10) rfl (H.perm 3 rfl) rfl rfl rfl (fun _ => rfl) (eu3_10) ?_
    refine Ew_of (pcₚ := 25) (fun _ => x_iconst rfl) ?_
    refine w_iadd rfl ?_
    refine w_pI H (o := 3) rfl rfl (H.perm 3 rfl) rfl rfl rfl (fun _ => rfl) rfl (show (-2147483648 : Int) ≤ (u3_10 + 1) ∧ (u3_10 + 1) ≤ 2147483647 from q_310 b2 h2) (fun σ H => ?_)
    have : QAP 70000 ((w20)) ((u3_10)) ((upd1 (w20) (u3_10) (a1))) (((u3_10 + 1))) ([(a1)]) := by first | exact QAP_in (by omega) (by omega) rfl | exact QAP_out (by omega) rfl
    exact w_ret rfl (k σ _ _ H (SF_upd (SF_refl) rfl) (SA_upd (SA_refl) rfl) ((u3_10 + 1)) (rfl) (upd1 (w20) (u3_10) (a1)) (congrArg (fun q => upd1 q (u3_10) (a1)) (ew20)) (show ((u3_10 + 1)) = (u3_10) + 1 from q_308) (show QAP 70000 ((w20)) ((u3_10)) ((upd1 (w20) (u3_10) (a1))) (((u3_10 + 1))) ([a1]) by assumption))

theorem M356 {σ0 σ : rS} {D N : Nat → Nat} {F : hF} {A : hA} {d c s : Nat} {Q : wQ} (H : HS σ0 σ D N F A) {a1 a2 : Int} (h0 : inrJ (a1)) (h1 : inr (a2)) (h2 : 1 ≤ (a2) ∧ (a2) ≤ 31) (k : ∀ (z : Int) σ Fₚ Aₚ, HS σ0 σ D N Fₚ Aₚ → SF [] F Fₚ → SA [] A Aₚ → (inrJ (z)) → (0 ≤ (z) ∧ (z) < 4294967296) → (∀ x : Int, (a1) = x % 4294967296 → (z) = rtI x ((a2)) % 4294967296) → Q (some (J z)) σ c s) : Ew 356 (d + 0) 0 (rargs 0 [J a1, I a2]) [] σ c s Q := by
  refine Ew_of (pcₚ := 1) (fun _ => x_lload_n rfl rfl) ?_
  refine Ew_of (pcₚ := 2) (fun _ => x_iload_n rfl rfl) ?_
  refine w_lshlE rfl ?_
  have g1 : inrJ (shlJ (a1) (a2)) := toJ_inr _
  refine Ew_of (pcₚ := 4) (fun _ => x_lload_n rfl rfl) ?_
  refine Ew_of (pcₚ := 6) (fun _ => x_bipush (z := 32) rfl (by decide)) ?_
  refine Ew_of (pcₚ := 7) (fun _ => x_iload_n rfl rfl) ?_
  refine w_isub rfl ?_
  refine w_lshrE rfl ?_
  have g2 : inrJ (srJ (a1) ((32 - a2))) := toJ_inr _
  refine w_lorE rfl ?_
  have g3 : inrJ (orJ ((shlJ (a1) (a2))) ((srJ (a1) ((32 - a2))))) := toJ_inr _
  refine Ew_of (pcₚ := 13) (fun _ => x_ldc2 (z := 4294967295) rfl (by decide)) ?_
  refine w_landE rfl ?_
  have g4 : inrJ (anJ ((orJ ((shlJ (a1) (a2))) ((srJ (a1) ((32 - a2)))))) (4294967295)) := toJ_inr _
  have : 0 ≤ ((anJ ((orJ ((shlJ (a1) (a2))) ((srJ (a1) ((32 - a2)))))) (4294967295))) ∧ ((anJ ((orJ ((shlJ (a1) (a2))) ((srJ (a1) ((32 - a2)))))) (4294967295))) < 4294967296 := by rw [anM]; omega
  have : ∀ x : Int, (a1) = x % 4294967296 → ((anJ ((orJ ((shlJ (a1) (a2))) ((srJ (a1) ((32 - a2)))))) (4294967295))) = rtI x ((a2)) % 4294967296 := fun x hx => by rw [anM]; exact tur_i hx (by omega)
  exact w_lreturn rfl (k ((anJ ((orJ ((shlJ (a1) (a2))) ((srJ (a1) ((32 - a2)))))) (4294967295))) σ _ _ H (SF_refl) (SA_refl) (show inrJ ((anJ ((orJ ((shlJ (a1) (a2))) ((srJ (a1) ((32 - a2)))))) (4294967295))) from g4) (show 0 ≤ ((anJ ((orJ ((shlJ (a1) (a2))) ((srJ (a1) ((32 - a2)))))) (4294967295))) ∧ ((anJ ((orJ ((shlJ (a1) (a2))) ((srJ (a1) ((32 - a2)))))) (4294967295))) < 4294967296 by omega) (show ∀ x : Int, a1 = x % 4294967296 → ((anJ ((orJ ((shlJ (a1) (a2))) ((srJ (a1) ((32 - a2)))))) (4294967295))) = rtI x (a2) % 4294967296 by assumption))

theorem M357 {σ0 σ : rS} {D N : Nat → Nat} {F : hF} {A : hA} {d c s : Nat} {Q : wQ} (H : HS σ0 σ D N F A) {a1 a2 : Int} (h0 : inrJ (a1)) (h1 : inrJ (a2)) (k : ∀ (z : Int) σ Fₚ Aₚ, HS σ0 σ D N Fₚ Aₚ → SF [] F Fₚ → SA [] A Aₚ → (inrJ (z)) → (0 ≤ (z) ∧ (z) < 4294967296) → (∀ x y : Int, (a1) = x % 4294967296 → (a2) = y % 4294967296 → (z) = muI x y % 4294967296) → Q (some (J z)) σ c s) : Ew 357 (d + 0) 0 (rargs 0 [J a1, J a2]) [] σ c s Q := by
  refine Ew_of (pcₚ := 1) (fun _ => x_lload_n rfl rfl) ?_
  refine Ew_of (pcₚ := 2) (fun _ => x_lload_n rfl rfl) ?_
  refine w_lmulE rfl ?_
  have g1 : inrJ (muJ (a1) (a2)) := toJ_inr _
  refine Ew_of (pcₚ := 6) (fun _ => x_ldc2 (z := 4294967295) rfl (by decide)) ?_
  refine w_landE rfl ?_
  have g2 : inrJ (anJ ((muJ (a1) (a2))) (4294967295)) := toJ_inr _
  have : 0 ≤ ((anJ ((muJ (a1) (a2))) (4294967295))) ∧ ((anJ ((muJ (a1) (a2))) (4294967295))) < 4294967296 := by rw [anM]; omega
  have : ∀ x y : Int, (a1) = x % 4294967296 → (a2) = y % 4294967296 → ((anJ ((muJ (a1) (a2))) (4294967295))) = muI x y % 4294967296 := fun x y hx hy => by rw [anM]; exact tim_i hx hy
  exact w_lreturn rfl (k ((anJ ((muJ (a1) (a2))) (4294967295))) σ _ _ H (SF_refl) (SA_refl) (show inrJ ((anJ ((muJ (a1) (a2))) (4294967295))) from g2) (show 0 ≤ ((anJ ((muJ (a1) (a2))) (4294967295))) ∧ ((anJ ((muJ (a1) (a2))) (4294967295))) < 4294967296 by omega) (show ∀ x y : Int, a1 = x % 4294967296 → a2 = y % 4294967296 → ((anJ ((muJ (a1) (a2))) (4294967295))) = muI x y % 4294967296 by assumption))

theorem M375 {σ0 σ : rS} {D N : Nat → Nat} {F : hF} {A : hA} {d c s : Nat} {Q : wQ} (H : HS σ0 σ D N F A) {a1 : Int} (h0 : inr (a1)) (k : ∀ (z : Int) σ Fₚ Aₚ, HS σ0 σ D N Fₚ Aₚ → SF [] F Fₚ → SA [] A Aₚ → ((z) = 0 ∨ (z) = 1) → ((z) = 1 → 64 ≤ (a1) ∧ (a1) < 128) → ((z) = 1 ∧ (64 ≤ (a1) ∧ (a1) < 128) ∧ andI ((a1)) 2 = 0 ∨ (z) = 0 ∧ ((a1) < 64 ∨ 128 ≤ (a1) ∨ andI ((a1)) 2 ≠ 0)) → Q (some (I z)) σ c s) : Ew 375 (d + 0) 0 (rargs 0 [I a1]) [] σ c s Q := by
  refine Ew_of (pcₚ := 1) (fun _ => x_iload_n rfl rfl) ?_
  refine Ew_of (pcₚ := 3) (fun _ => x_bipush (z := 64) rfl (by decide)) ?_
  refine w_icmplt (t := 23) rfl rfl (show inr (a1) from h0) (show inr (64) from q_151) (fun b1 => ?_) (fun b1 => ?_)
  · refine Ew_of (pcₚ := 24) (fun _ => x_iconst rfl) ?_
    exact w_ireturn rfl (k (0) σ _ _ H (SF_refl) (SA_refl) (show (0) = 0 ∨ (0) = 1 by first | exact q_45 | omega) (show (0) = 1 → 64 ≤ a1 ∧ a1 < 128 by first | exact q_312 b1 h0 | omega) (show (0) = 1 ∧ (64 ≤ a1 ∧ a1 < 128) ∧ andI (a1) 2 = 0 ∨ (0) = 0 ∧ (a1 < 64 ∨ 128 ≤ a1 ∨ andI (a1) 2 ≠ 0) by first | exact q_311 b1 | omega))
  · refine Ew_of (pcₚ := 7) (fun _ => x_iload_n rfl rfl) ?_
    refine Ew_of (pcₚ := 10) (fun _ => x_sipush (z := 128) rfl (by decide)) ?_
    refine w_icmpge (t := 23) rfl rfl (show inr (a1) from h0) (show inr (128) from q_313) (fun b2 => ?_) (fun b2 => ?_)
    · refine Ew_of (pcₚ := 24) (fun _ => x_iconst rfl) ?_
      exact w_ireturn rfl (k (0) σ _ _ H (SF_refl) (SA_refl) (show (0) = 0 ∨ (0) = 1 by first | exact q_45 | omega) (show (0) = 1 → 64 ≤ a1 ∧ a1 < 128 by first | exact q_315 b1 h0 | omega) (show (0) = 1 ∧ (64 ≤ a1 ∧ a1 < 128) ∧ andI (a1) 2 = 0 ∨ (0) = 0 ∧ (a1 < 64 ∨ 128 ≤ a1 ∨ andI (a1) 2 ≠ 0) by first | exact q_314 b2 | omega))
    · refine Ew_of (pcₚ := 14) (fun _ => x_iload_n rfl rfl) ?_
      refine Ew_of (pcₚ := 15) (fun _ => x_iconst rfl) ?_
      refine w_iandE rfl (show inr (a1) from h0) (show inr (2) from q_122) (fun z3 gz3 gaz3 gbz3 gez3 => ?_)
      refine w_ifne (t := 23) rfl rfl (show inr (z3) from gz3) (fun b4 => ?_) (fun b4 => ?_)
      · refine Ew_of (pcₚ := 24) (fun _ => x_iconst rfl) ?_
        exact w_ireturn rfl (k (0) σ _ _ H (SF_refl) (SA_refl) (show (0) = 0 ∨ (0) = 1 by first | exact q_45 | omega) (show (0) = 1 → 64 ≤ a1 ∧ a1 < 128 by first | exact q_316 b1 b2 | omega) (show (0) = 1 ∧ (64 ≤ a1 ∧ a1 < 128) ∧ andI (a1) 2 = 0 ∨ (0) = 0 ∧ (a1 < 64 ∨ 128 ≤ a1 ∨ andI (a1) 2 ≠ 0) by omega))
      · refine Ew_of (pcₚ := 20) (fun _ => x_iconst rfl) ?_
        refine Ew_of (pcₚ := 24) (fun _ => x_goto rfl rfl) ?_
        exact w_ireturn rfl (k (1) σ _ _ H (SF_refl) (SA_refl) (show (1) = 0 ∨ (1) = 1 by first | exact q_49 | omega) (show (1) = 1 → 64 ≤ a1 ∧ a1 < 128 by first | exact q_318 b1 b2 | omega) (show (1) = 1 ∧ (64 ≤ a1 ∧ a1 < 128) ∧ andI (a1) 2 = 0 ∨ (1) = 0 ∧ (a1 < 64 ∨ 128 ≤ a1 ∨ andI (a1) 2 ≠ 0) by first | exact q_317 b1 b2 b4 gez3 | omega))

theorem M379 {σ0 σ : rS} {D N : Nat → Nat} {F : hF} {A : hA} {d c s : Nat} {Q : wQ} (H : HS σ0 σ D N F A) {a1 : Int} (u1_1 : Int) (eu1_1 : F 1 1 = u1_1) (u3_15 : Int) (eu3_15 : F 3 15 = u3_15) (h0 : inr (a1)) (h1 : 0 ≤ (a1) ∧ (a1) ≤ 65536) (h2 : 0 ≤ (u3_15) ∧ (u3_15) ≤ 70000) (k : ∀ (z : Int) σ Fₚ Aₚ, HS σ0 σ D N Fₚ Aₚ → SF [] F Fₚ → SA [] A Aₚ → ((z) = 0 ∨ (z) = 1) → ((z) = 1 ∧ (u3_15) + (a1) ≤ (u1_1) ∨ (z) = 0 ∧ (u1_1) < (u3_15) + (a1)) → Q (some (I z)) σ c s) : Ew 379 (d + 0) 0 (rargs 0 [.ref (D 3), I a1]) [] σ c s Q := by
  have r1 : (0 : Int) ≤ u1_1 ∧ u1_1 ≤ 65536 := rngE (show (0 : Int) ≤ F 1 1 ∧ F 1 1 ≤ 65536 from H.frng 1 1) (show F 1 1 = u1_1 from (eu1_1))
  have r2 : (-2147483648 : Int) ≤ u3_15 ∧ u3_15 ≤ 2147483647 := rngE (show (-2147483648 : Int) ≤ F 3 15 ∧ F 3 15 ≤ 2147483647 from H.frng 3 15) (show F 3 15 = u3_15 from (eu3_15))
  refine Ew_of (pcₚ := 1) (fun _ => x_aload_n rfl rfl) ?_
  refine w_gI H (o := 3) (w := u3_15) rfl (H.perm 3 rfl) rfl rfl rfl (fun _ => rfl) (eu3_15) ?_
  refine Ew_of (pcₚ := 5) (fun _ => x_iload_n rfl rfl) ?_
  refine w_iadd rfl ?_
  refine Ew_of (pcₚ := 7) (fun _ => x_aload_n rfl rfl) ?_
  refine w_gT H (o := 3) (t := 1) rfl (H.perm 3 rfl) rfl rfl rfl rfl rfl rfl ?_
  refine w_gI H (o := 1) (w := u1_1) rfl (H.perm 1 rfl) rfl rfl rfl (fun _ => rfl) (eu1_1) ?_
  refine w_icmpgt (t := 20) rfl rfl (show inr ((u3_15 + a1)) from q_319 h1 h2) (show inr (u1_1) from q_286 r1) (fun b3 => ?_) (fun b3 => ?_)
  · refine Ew_of (pcₚ := 21) (fun _ => x_iconst rfl) ?_
    exact w_ireturn rfl (k (0) σ _ _ H (SF_refl) (SA_refl) (show (0) = 0 ∨ (0) = 1 by first | exact q_45 | omega) (show (0) = 1 ∧ (u3_15) + a1 ≤ (u1_1) ∨ (0) = 0 ∧ (u1_1) < (u3_15) + a1 by first | exact q_320 b3 | omega))
  · refine Ew_of (pcₚ := 17) (fun _ => x_iconst rfl) ?_
    refine Ew_of (pcₚ := 21) (fun _ => x_goto rfl rfl) ?_
    exact w_ireturn rfl (k (1) σ _ _ H (SF_refl) (SA_refl) (show (1) = 0 ∨ (1) = 1 by first | exact q_49 | omega) (show (1) = 1 ∧ (u3_15) + a1 ≤ (u1_1) ∨ (1) = 0 ∧ (u1_1) < (u3_15) + a1 by first | exact q_321 b3 | omega))

theorem M381 {σ0 σ : rS} {D N : Nat → Nat} {F : hF} {A : hA} {d c s : Nat} {Q : wQ} (H : HS σ0 σ D N F A) {a1 a2 : Int} (h0 : inr (a1)) (h1 : inr (a2)) (k : ∀ (z : Int) σ Fₚ Aₚ, HS σ0 σ D N Fₚ Aₚ → SF [(1, 4)] F Fₚ → SA [] A Aₚ → ∀ y1_4 : Int, Fₚ 1 4 = y1_4 → (inr (z)) → ((z) = (a1)) → ((y1_4) = (a2)) → Q (some (I z)) σ c s) : Ew 381 (d + 0) 0 (rargs 0 [.ref (D 3), I a1, I a2]) [] σ c s Q := by
  refine Ew_of (pcₚ := 1) (fun _ => x_aload_n rfl rfl) ?_
  refine w_gT H (o := 3) (t := 1) rfl (H.perm 3 rfl) rfl rfl rfl rfl rfl rfl ?_
  refine Ew_of (pcₚ := 5) (fun _ => x_iload_n rfl rfl) ?_
  refine w_pI H (o := 1) rfl rfl (H.perm 1 rfl) rfl rfl rfl (fun _ => rfl) rfl (show (-2147483648 : Int) ≤ a2 ∧ a2 ≤ 2147483647 from q_31 h1) (fun σ H => ?_)
  refine Ew_of (pcₚ := 9) (fun _ => x_iload_n rfl rfl) ?_
  exact w_ireturn rfl (k (a1) σ _ _ H (SF_upd (SF_refl) rfl) (SA_refl) (a2) (rfl) (show inr (a1) from h0) (show (a1) = a1 from q_303) (show (a2) = a2 from q_303))

theorem M307 {σ0 σ : rS} {D N : Nat → Nat} {F : hF} {A : hA} {d c s : Nat} {Q : wQ} (H : HS σ0 σ D N F A) {a1 a2 : Int} (h0 : inr (a1)) (h1 : inr (a2)) (h2 : 0 ≤ (a2) ∧ (a2) ≤ 32) (k : ∀ (z : Int) σ Fₚ Aₚ, HS σ0 σ D N Fₚ Aₚ → SF [] F Fₚ → SA [] A Aₚ → (inr (z)) → ((z) = rtI ((a1)) ((a2))) → Q (some (I z)) σ c s) : Ew 307 (d + 0) 0 (rargs 0 [I a1, I a2]) [] σ c s Q := by
  refine Ew_of (pcₚ := 1) (fun _ => x_iload_n rfl rfl) ?_
  refine Ew_of (pcₚ := 2) (fun _ => x_iload_n rfl rfl) ?_
  refine w_ishlE rfl ?_
  have g1 : inr (slI (a1) (a2)) := toI_inr _
  refine Ew_of (pcₚ := 4) (fun _ => x_iload_n rfl rfl) ?_
  refine Ew_of (pcₚ := 6) (fun _ => x_bipush (z := 32) rfl (by decide)) ?_
  refine Ew_of (pcₚ := 7) (fun _ => x_iload_n rfl rfl) ?_
  refine w_isub rfl ?_
  refine w_iushrE rfl ?_
  have g2 : inr (usI (a1) ((32 - a2))) := toI_inr _
  refine w_iorE rfl ?_
  have g3 : inr (orI ((slI (a1) (a2))) ((usI (a1) ((32 - a2))))) := toI_inr _
  have : ((orI ((slI (a1) (a2))) ((usI (a1) ((32 - a2)))))) = rtI ((a1)) ((a2)) := rfl
  exact w_ireturn rfl (k ((orI ((slI (a1) (a2))) ((usI (a1) ((32 - a2)))))) σ _ _ H (SF_refl) (SA_refl) (show inr ((orI ((slI (a1) (a2))) ((usI (a1) ((32 - a2)))))) from g3) (show ((orI ((slI (a1) (a2))) ((usI (a1) ((32 - a2)))))) = rtI (a1) (a2) by assumption))

theorem M310 {σ0 σ : rS} {D N : Nat → Nat} {F : hF} {A : hA} {d c s : Nat} {Q : wQ} (H : HS σ0 σ D N F A) {a1 a2 : Int} (h0 : inrJ (a1)) (h1 : inr (a2)) (h2 : 0 ≤ (a2) ∧ (a2) ≤ 64) (k : ∀ (z : Int) σ Fₚ Aₚ, HS σ0 σ D N Fₚ Aₚ → SF [] F Fₚ → SA [] A Aₚ → (inrJ (z)) → ((z) = rtJ ((a1)) ((a2))) → Q (some (J z)) σ c s) : Ew 310 (d + 0) 0 (rargs 0 [J a1, I a2]) [] σ c s Q := by
  refine Ew_of (pcₚ := 1) (fun _ => x_lload_n rfl rfl) ?_
  refine Ew_of (pcₚ := 2) (fun _ => x_iload_n rfl rfl) ?_
  refine w_lshlE rfl ?_
  have g1 : inrJ (shlJ (a1) (a2)) := toJ_inr _
  refine Ew_of (pcₚ := 4) (fun _ => x_lload_n rfl rfl) ?_
  refine Ew_of (pcₚ := 6) (fun _ => x_bipush (z := 64) rfl (by decide)) ?_
  refine Ew_of (pcₚ := 7) (fun _ => x_iload_n rfl rfl) ?_
  refine w_isub rfl ?_
  refine w_lushrE rfl ?_
  have g2 : inrJ (usJ (a1) ((64 - a2))) := toJ_inr _
  refine w_lorE rfl ?_
  have g3 : inrJ (orJ ((shlJ (a1) (a2))) ((usJ (a1) ((64 - a2))))) := toJ_inr _
  have : ((orJ ((shlJ (a1) (a2))) ((usJ (a1) ((64 - a2)))))) = rtJ ((a1)) ((a2)) := rfl
  exact w_lreturn rfl (k ((orJ ((shlJ (a1) (a2))) ((usJ (a1) ((64 - a2)))))) σ _ _ H (SF_refl) (SA_refl) (show inrJ ((orJ ((shlJ (a1) (a2))) ((usJ (a1) ((64 - a2)))))) from g3) (show ((orJ ((shlJ (a1) (a2))) ((usJ (a1) ((64 - a2)))))) = rtJ (a1) (a2) by assumption))

theorem M312 {σ0 σ : rS} {D N : Nat → Nat} {F : hF} {A : hA} {d c s : Nat} {Q : wQ} (H : HS σ0 σ D N F A) {a1 a2 : Int} (h0 : inrJ (a1)) (h1 : inrJ (a2)) (k : ∀ (z : Int) σ Fₚ Aₚ, HS σ0 σ D N Fₚ Aₚ → SF [] F Fₚ → SA [] A Aₚ → (inrJ (z)) → ((z) = wj ((a1)) ((a2))) → Q (some (J z)) σ c s) : Ew 312 (d + 1) 0 (rargs 0 [J a1, J a2]) [] σ c s Q := by
  refine Ew_of (pcₚ := 1) (fun _ => x_lload_n rfl rfl) ?_
  refine Ew_of (pcₚ := 2) (fun _ => x_lload_n rfl rfl) ?_
  refine Ew_of (pcₚ := 5) (fun _ => x_ldc2 (z := -4417276706812531889) rfl (by decide)) ?_
  refine w_lmulE rfl ?_
  have g1 : inrJ (muJ (a2) ((-4417276706812531889))) := toJ_inr _
  refine Ew_of (pcₚ := 8) (fun _ => x_bipush (z := 31) rfl (by decide)) ?_
  refine w_stat24 rfl rfl (by rfl) (M310 H (show inrJ ((muJ (a2) ((-4417276706812531889)))) from g1) (show inr (31) from q_323) (show 0 ≤ (31) ∧ (31) ≤ 64 from q_322) (fun z6 σ F2 A3 H hS4 hA5 pz6_0 pz6_1 => ⟨rfl, ?_⟩))
  have hrt := pz6_1
  refine Ew_of (pcₚ := 14) (fun _ => x_ldc2 (z := -7046029288634856825) rfl (by decide)) ?_
  refine w_lmulE rfl ?_
  have g7 : inrJ (muJ (z6) ((-7046029288634856825))) := toJ_inr _
  refine w_lxorE rfl ?_
  have g8 : inrJ (xoJ (a1) ((muJ (z6) ((-7046029288634856825))))) := toJ_inr _
  refine Ew_of (pcₚ := 19) (fun _ => x_ldc2 (z := -7046029288634856825) rfl (by decide)) ?_
  refine w_lmulE rfl ?_
  have g9 : inrJ (muJ ((xoJ (a1) ((muJ (z6) ((-7046029288634856825)))))) ((-7046029288634856825))) := toJ_inr _
  refine Ew_of (pcₚ := 23) (fun _ => x_ldc2 (z := -8796714831421723037) rfl (by decide)) ?_
  refine w_laddE rfl ?_
  have g10 : inrJ (adJ ((muJ ((xoJ (a1) ((muJ (z6) ((-7046029288634856825)))))) ((-7046029288634856825)))) ((-8796714831421723037))) := toJ_inr _
  have : ((adJ ((muJ ((xoJ (a1) ((muJ (z6) ((-7046029288634856825)))))) ((-7046029288634856825)))) ((-8796714831421723037)))) = wj ((a1)) ((a2)) := wj_r hrt
  exact w_lreturn rfl (k ((adJ ((muJ ((xoJ (a1) ((muJ (z6) ((-7046029288634856825)))))) ((-7046029288634856825)))) ((-8796714831421723037)))) σ _ _ H (SF_trans (SF_refl) hS4 (any_sub rfl)) (SA_trans (SA_refl) hA5 (any_subA rfl)) (show inrJ ((adJ ((muJ ((xoJ (a1) ((muJ (z6) ((-7046029288634856825)))))) ((-7046029288634856825)))) ((-8796714831421723037)))) from g10) (show ((adJ ((muJ ((xoJ (a1) ((muJ (z6) ((-7046029288634856825)))))) ((-7046029288634856825)))) ((-8796714831421723037)))) = wj (a1) (a2) by assumption))

theorem M315 {σ0 σ : rS} {D N : Nat → Nat} {F : hF} {A : hA} {d c s : Nat} {Q : wQ} (H : HS σ0 σ D N F A) {a1 : Int} (h0 : inr (a1)) (k : ∀ (z : Int) σ Fₚ Aₚ, HS σ0 σ D N Fₚ Aₚ → SF [] F Fₚ → SA [] A Aₚ → (inr (z)) → ((z) = s1I ((a1))) → Q (some (I z)) σ c s) : Ew 315 (d + 0) 0 (rargs 0 [I a1]) [] σ c s Q := by
  refine Ew_of (pcₚ := 1) (fun _ => x_iload_n rfl rfl) ?_
  refine Ew_of (pcₚ := 2) (fun _ => x_iconst rfl) ?_
  refine w_iandG rfl ?_
  have g1 : inr (andI (a1) (1)) := toI_inr _
  refine w_ifne (t := 12) rfl rfl (show inr ((andI (a1) (1))) from g1) (fun b2 => ?_) (fun b2 => ?_)
  · refine Ew_of (pcₚ := 13) (fun _ => x_iload_n rfl rfl) ?_
    refine Ew_of (pcₚ := 14) (fun _ => x_iconst rfl) ?_
    refine w_iushrE rfl ?_
    have g3 : inr (usI (a1) (1)) := toI_inr _
    refine Ew_of (pcₚ := 17) (fun _ => x_ldc (z := -2097792136) rfl (by decide)) ?_
    refine w_ixorE rfl ?_
    have g4 : inr (xoI ((usI (a1) (1))) ((-2097792136))) := toI_inr _
    have : ((xoI ((usI (a1) (1))) ((-2097792136)))) = s1I ((a1)) := by first | exact s1I_0 (by omega) | exact s1I_1 (by omega)
    exact w_ireturn rfl (k ((xoI ((usI (a1) (1))) ((-2097792136)))) σ _ _ H (SF_refl) (SA_refl) (show inr ((xoI ((usI (a1) (1))) ((-2097792136)))) from g4) (show ((xoI ((usI (a1) (1))) ((-2097792136)))) = s1I (a1) by assumption))
  · refine Ew_of (pcₚ := 7) (fun _ => x_iload_n rfl rfl) ?_
    refine Ew_of (pcₚ := 8) (fun _ => x_iconst rfl) ?_
    refine w_iushrE rfl ?_
    have g5 : inr (usI (a1) (1)) := toI_inr _
    refine Ew_of (pcₚ := 18) (fun _ => x_goto rfl rfl) ?_
    have : ((usI (a1) (1))) = s1I ((a1)) := by first | exact s1I_0 (by omega) | exact s1I_1 (by omega)
    exact w_ireturn rfl (k ((usI (a1) (1))) σ _ _ H (SF_refl) (SA_refl) (show inr ((usI (a1) (1))) from g5) (show ((usI (a1) (1))) = s1I (a1) by assumption))

theorem M320 {σ0 σ : rS} {D N : Nat → Nat} {F : hF} {A : hA} {d c s : Nat} {Q : wQ} (H : HS σ0 σ D N F A) {a1 : Int} (u4_2 : Int) (eu4_2 : F 4 2 = u4_2) (w23 : Int → Int) (ew23 : A 23 = w23) (h0 : inr (a1)) (h1 : 0 ≤ (u4_2) ∧ (u4_2) ≤ 100000000) (k : ∀ σ Fₚ Aₚ, HS σ0 σ D N Fₚ Aₚ → SF [(4, 2)] F Fₚ → SA [23] A Aₚ → ∀ y4_2 : Int, Fₚ 4 2 = y4_2 → ∀ v23 : Int → Int, Aₚ 23 = v23 → ((y4_2) = (u4_2) + 1) → (QAP 70000 ((w23)) ((u4_2)) ((v23)) ((y4_2)) ([u8 ((a1))])) → (∀ i, i < (u4_2) ∨ (u4_2) + 1 ≤ i → ((v23)) i = ((w23)) i) → Q none σ c s) : Ew 320 (d + 0) 0 (rargs 0 [.ref (D 4), I a1]) [] σ c s Q := by
  have r1 : (-2147483648 : Int) ≤ u4_2 ∧ u4_2 ≤ 2147483647 := rngE (show (-2147483648 : Int) ≤ F 4 2 ∧ F 4 2 ≤ 2147483647 from H.frng 4 2) (show F 4 2 = u4_2 from (eu4_2))
  refine Ew_of (pcₚ := 1) (fun _ => x_aload_n rfl rfl) ?_
  refine w_gI H (o := 4) (w := u4_2) rfl (H.perm 4 rfl) rfl rfl rfl (fun _ => rfl) (eu4_2) ?_
  refine Ew_of (pcₚ := 6) (fun _ => x_ldc (z := 70000) rfl (by decide)) ?_
  refine w_icmpge (t := 23) rfl rfl (show inr (u4_2) from q_307 h1 r1) (show inr (70000) from q_306) (fun b2 => ?_) (fun b2 => ?_)
  · refine Ew_of (pcₚ := 24) (fun _ => x_aload_n rfl rfl) ?_
    refine Ew_of (pcₚ := 25) (fun _ => x_dup rfl rfl) ?_
    refine w_gI H (o := 4) (w := u4_2) rfl (H.perm 4 rfl) rfl rfl rfl (fun _ => rfl) (eu4_2) ?_
    refine Ew_of (pcₚ := 29) (fun _ => x_iconst rfl) ?_
    refine w_iadd rfl ?_
    refine w_pI H (o := 4) rfl rfl (H.perm 4 rfl) rfl rfl rfl (fun _ => rfl) rfl (show (-2147483648 : Int) ≤ (u4_2 + 1) ∧ (u4_2 + 1) ≤ 2147483647 by omega) (fun σ H => ?_)
    have : QAP 70000 ((w23)) ((u4_2)) ((w23)) (((u4_2 + 1))) ([u8 ((a1))]) := by first | exact QAP_out (by omega) rfl | (rw [← hz2]; exact QAP_in (by omega) (by omega) rfl)
    have : ∀ i, i < (u4_2) ∨ (u4_2) + 1 ≤ i → ((w23)) i = ((w23)) i := by first | exact fun i x => rfl | exact fun i x => upd1_o (by omega)
    exact w_ret rfl (k σ _ _ H (SF_upd (SF_refl) rfl) (SA_refl) ((u4_2 + 1)) (rfl) (w23) (ew23) (show ((u4_2 + 1)) = (u4_2) + 1 from q_308) (show QAP 70000 ((w23)) ((u4_2)) ((w23)) (((u4_2 + 1))) ([u8 (a1)]) by assumption) (show ∀ i, i < (u4_2) ∨ (u4_2) + 1 ≤ i → ((w23)) i = ((w23)) i by assumption))
  · refine Ew_of (pcₚ := 10) (fun _ => x_aload_n rfl rfl) ?_
    refine w_gT H (o := 4) (t := 23) rfl (H.perm 4 rfl) rfl rfl rfl rfl rfl rfl ?_
    refine Ew_of (pcₚ := 14) (fun _ => x_aload_n rfl rfl) ?_
    refine w_gI H (o := 4) (w := u4_2) rfl (H.perm 4 rfl) rfl rfl rfl (fun _ => rfl) (eu4_2) ?_
    refine Ew_of (pcₚ := 18) (fun _ => x_iload_n rfl rfl) ?_
    refine Ew_of (pcₚ := 21) (fun _ => x_sipush (z := 255) rfl (by decide)) ?_
    refine w_iandE rfl (show inr (a1) from h0) (show inr (255) from q_297) (fun z3 gz3 gaz3 gbz3 gez3 => ?_)
    have hz := gez3
    have hz2 : (z3) = u8 ((a1)) := by rw [← hz]; exact andI_255 ((a1))
    have hzr := u8_rng ((a1))
    refine w_sI H (o := 23) (n := 70000) rfl (H.perm 23 rfl) rfl rfl (H.fix 23 rfl rfl) (show 0 ≤ u4_2 ∧ u4_2 < ((70000 : Nat) : Int) from q_309 b2 h1) (by decide) (show (0 : Int) ≤ z3 ∧ z3 ≤ 255 by omega) (fun σ H => ?_)
    refine Ew_of (pcₚ := 24) (fun _ => x_aload_n rfl rfl) ?_
    refine Ew_of (pcₚ := 25) (fun _ => x_dup rfl rfl) ?_
    refine w_gI H (o := 4) (w := u4_2) rfl (H.perm 4 rfl) rfl rfl rfl (fun _ => rfl) (eu4_2) ?_
    refine Ew_of (pcₚ := 29) (fun _ => x_iconst rfl) ?_
    refine w_iadd rfl ?_
    refine w_pI H (o := 4) rfl rfl (H.perm 4 rfl) rfl rfl rfl (fun _ => rfl) rfl (show (-2147483648 : Int) ≤ (u4_2 + 1) ∧ (u4_2 + 1) ≤ 2147483647 from q_310 b2 h1) (fun σ H => ?_)
    have : QAP 70000 ((w23)) ((u4_2)) ((upd1 (w23) (u4_2) (z3))) (((u4_2 + 1))) ([u8 ((a1))]) := by first | exact QAP_out (by omega) rfl | (rw [← hz2]; exact QAP_in (by omega) (by omega) rfl)
    have : ∀ i, i < (u4_2) ∨ (u4_2) + 1 ≤ i → ((upd1 (w23) (u4_2) (z3))) i = ((w23)) i := by first | exact fun i x => rfl | exact fun i x => upd1_o (by omega)
    exact w_ret rfl (k σ _ _ H (SF_upd (SF_refl) rfl) (SA_upd (SA_refl) rfl) ((u4_2 + 1)) (rfl) (upd1 (w23) (u4_2) (z3)) (congrArg (fun q => upd1 q (u4_2) (z3)) (ew23)) (show ((u4_2 + 1)) = (u4_2) + 1 from q_308) (show QAP 70000 ((w23)) ((u4_2)) ((upd1 (w23) (u4_2) (z3))) (((u4_2 + 1))) ([u8 (a1)]) by assumption) (show ∀ i, i < (u4_2) ∨ (u4_2) + 1 ≤ i → ((upd1 (w23) (u4_2) (z3))) i = ((w23)) i by assumption))

theorem M335 {σ0 σ : rS} {D N : Nat → Nat} {F : hF} {A : hA} {d c s : Nat} {Q : wQ} (H : HS σ0 σ D N F A) {a1 a2 : Int} (u4_10 : Int) (eu4_10 : F 4 10 = u4_10) (u4_11 : Int) (eu4_11 : F 4 11 = u4_11) (h0 : inr (a1)) (h1 : inr (a2)) (k : ∀ (z : Int) σ Fₚ Aₚ, HS σ0 σ D N Fₚ Aₚ → SF [(4, 10), (4, 11)] F Fₚ → SA [] A Aₚ → ∀ y4_10 : Int, Fₚ 4 10 = y4_10 → ∀ y4_11 : Int, Fₚ 4 11 = y4_11 → ((z) = 0 ∨ (z) = 1) → ((z) = 0) → ((u4_10) = 0 ∧ (y4_10) = (a1) ∧ (y4_11) = (a2) ∨ (u4_10) ≠ 0 ∧ (y4_10) = (u4_10) ∧ (y4_11) = (u4_11)) → Q (some (I z)) σ c s) : Ew 335 (d + 0) 0 (rargs 0 [.ref (D 4), I a1, I a2]) [] σ c s Q := by
  have r1 : (-2147483648 : Int) ≤ u4_10 ∧ u4_10 ≤ 2147483647 := rngE (show (-2147483648 : Int) ≤ F 4 10 ∧ F 4 10 ≤ 2147483647 from H.frng 4 10) (show F 4 10 = u4_10 from (eu4_10))
  have r2 : (-2147483648 : Int) ≤ u4_11 ∧ u4_11 ≤ 2147483647 := rngE (show (-2147483648 : Int) ≤ F 4 11 ∧ F 4 11 ≤ 2147483647 from H.frng 4 11) (show F 4 11 = u4_11 from (eu4_11))
  refine Ew_of (pcₚ := 1) (fun _ => x_aload_n rfl rfl) ?_
  refine w_gI H (o := 4) (w := u4_10) rfl (H.perm 4 rfl) rfl rfl rfl (fun _ => rfl) (eu4_10) ?_
  refine w_ifne (t := 17) rfl rfl (show inr (u4_10) from q_18 r1) (fun b3 => ?_) (fun b3 => ?_)
  · refine Ew_of (pcₚ := 18) (fun _ => x_iconst rfl) ?_
    exact w_ireturn rfl (k (0) σ _ _ H (SF_refl) (SA_refl) (u4_10) ((eu4_10)) (u4_11) ((eu4_11)) (show (0) = 0 ∨ (0) = 1 by first | exact q_45 | omega) (show (0) = 0 by first | exact q_34 | omega) (show (u4_10) = 0 ∧ (u4_10) = a1 ∧ (u4_11) = a2 ∨ (u4_10) ≠ 0 ∧ (u4_10) = (u4_10) ∧ (u4_11) = (u4_11) from q_324 b3))
  · refine Ew_of (pcₚ := 8) (fun _ => x_aload_n rfl rfl) ?_
    refine Ew_of (pcₚ := 9) (fun _ => x_iload_n rfl rfl) ?_
    refine w_pI H (o := 4) rfl rfl (H.perm 4 rfl) rfl rfl rfl (fun _ => rfl) rfl (show (-2147483648 : Int) ≤ a1 ∧ a1 ≤ 2147483647 from q_31 h0) (fun σ H => ?_)
    refine Ew_of (pcₚ := 13) (fun _ => x_aload_n rfl rfl) ?_
    refine Ew_of (pcₚ := 14) (fun _ => x_iload_n rfl rfl) ?_
    refine w_pI H (o := 4) rfl rfl (H.perm 4 rfl) rfl rfl rfl (fun _ => rfl) rfl (show (-2147483648 : Int) ≤ a2 ∧ a2 ≤ 2147483647 from q_31 h1) (fun σ H => ?_)
    refine Ew_of (pcₚ := 18) (fun _ => x_iconst rfl) ?_
    exact w_ireturn rfl (k (0) σ _ _ H (SF_upd (SF_upd (SF_refl) rfl) rfl) (SA_refl) (a1) (rfl) (a2) (rfl) (show (0) = 0 ∨ (0) = 1 by first | exact q_45 | omega) (show (0) = 0 by first | exact q_34 | omega) (show (u4_10) = 0 ∧ (a1) = a1 ∧ (a2) = a2 ∨ (u4_10) ≠ 0 ∧ (a1) = (u4_10) ∧ (a2) = (u4_11) from q_325 b3))

theorem M327 {σ0 σ : rS} {D N : Nat → Nat} {F : hF} {A : hA} {d c s : Nat} {Q : wQ} (H : HS σ0 σ D N F A) {a1 a2 : Int} (h0 : inr (a1)) (h1 : inr (a2)) (h2 : (a2) = 0 ∨ (a2) = 1) (k : ∀ (z : Int) σ Fₚ Aₚ, HS σ0 σ D N Fₚ Aₚ → SF [] F Fₚ → SA [] A Aₚ → (inr (z)) → ((a2) = 1 ∧ 4 ≤ (a1) ∧ (a1) ≤ 11 ∧ (z) = 2 ∨ ¬((a2) = 1 ∧ 4 ≤ (a1) ∧ (a1) ≤ 11) ∧ (z) = 3) → Q (some (I z)) σ c s) : Ew 327 (d + 0) 0 (rargs 0 [I a1, I a2]) [] σ c s Q := by
  refine Ew_of (pcₚ := 1) (fun _ => x_iload_n rfl rfl) ?_
  refine w_ifeq (t := 19) rfl rfl (show inr (a2) from h1) (fun b1 => ?_) (fun b1 => ?_)
  · refine Ew_of (pcₚ := 20) (fun _ => x_iconst rfl) ?_
    exact w_ireturn rfl (k (3) σ _ _ H (SF_refl) (SA_refl) (show inr (3) from q_246) (show a2 = 1 ∧ 4 ≤ a1 ∧ a1 ≤ 11 ∧ (3) = 2 ∨ ¬(a2 = 1 ∧ 4 ≤ a1 ∧ a1 ≤ 11) ∧ (3) = 3 by omega))
  · refine Ew_of (pcₚ := 5) (fun _ => x_iload_n rfl rfl) ?_
    refine Ew_of (pcₚ := 6) (fun _ => x_iconst rfl) ?_
    refine w_icmplt (t := 19) rfl rfl (show inr (a1) from h0) (show inr (4) from q_216) (fun b2 => ?_) (fun b2 => ?_)
    · refine Ew_of (pcₚ := 20) (fun _ => x_iconst rfl) ?_
      exact w_ireturn rfl (k (3) σ _ _ H (SF_refl) (SA_refl) (show inr (3) from q_246) (show a2 = 1 ∧ 4 ≤ a1 ∧ a1 ≤ 11 ∧ (3) = 2 ∨ ¬(a2 = 1 ∧ 4 ≤ a1 ∧ a1 ≤ 11) ∧ (3) = 3 by omega))
    · refine Ew_of (pcₚ := 10) (fun _ => x_iload_n rfl rfl) ?_
      refine Ew_of (pcₚ := 12) (fun _ => x_bipush (z := 11) rfl (by decide)) ?_
      refine w_icmpgt (t := 19) rfl rfl (show inr (a1) from h0) (show inr (11) from q_326) (fun b3 => ?_) (fun b3 => ?_)
      · refine Ew_of (pcₚ := 20) (fun _ => x_iconst rfl) ?_
        exact w_ireturn rfl (k (3) σ _ _ H (SF_refl) (SA_refl) (show inr (3) from q_246) (show a2 = 1 ∧ 4 ≤ a1 ∧ a1 ≤ 11 ∧ (3) = 2 ∨ ¬(a2 = 1 ∧ 4 ≤ a1 ∧ a1 ≤ 11) ∧ (3) = 3 by omega))
      · refine Ew_of (pcₚ := 16) (fun _ => x_iconst rfl) ?_
        refine Ew_of (pcₚ := 20) (fun _ => x_goto rfl rfl) ?_
        exact w_ireturn rfl (k (2) σ _ _ H (SF_refl) (SA_refl) (show inr (2) from q_122) (show a2 = 1 ∧ 4 ≤ a1 ∧ a1 ≤ 11 ∧ (2) = 2 ∨ ¬(a2 = 1 ∧ 4 ≤ a1 ∧ a1 ≤ 11) ∧ (2) = 3 by omega))

theorem M346 {σ0 σ : rS} {D N : Nat → Nat} {F : hF} {A : hA} {d c s : Nat} {Q : wQ} (H : HS σ0 σ D N F A) {a1 : Int} (h0 : inr (a1)) (k : ∀ (z : Int) σ Fₚ Aₚ, HS σ0 σ D N Fₚ Aₚ → SF [] F Fₚ → SA [] A Aₚ → (inr (z)) → (0 ≤ (z) ∧ (z) ≤ 255) → (IMP ((0 : Int) ≤ (a1) ∧ (a1) ≤ 5) ((z) = TGm.getD (4 + (a1) : Int).toNat 0)) → Q (some (I z)) σ c s) : Ew 346 (d + 0) 0 (rargs 0 [I a1]) [] σ c s Q := by
  refine Ew_of (pcₚ := 1) (fun _ => x_iload_n rfl rfl) ?_
  refine w_ifne (t := 9) rfl rfl (show inr (a1) from h0) (fun b1 => ?_) (fun b1 => ?_)
  · refine Ew_of (pcₚ := 10) (fun _ => x_iload_n rfl rfl) ?_
    refine Ew_of (pcₚ := 11) (fun _ => x_iconst rfl) ?_
    refine w_icmpne (t := 19) rfl rfl (show inr (a1) from h0) (show inr (1) from q_135) (fun b2 => ?_) (fun b2 => ?_)
    · refine Ew_of (pcₚ := 20) (fun _ => x_iload_n rfl rfl) ?_
      refine Ew_of (pcₚ := 21) (fun _ => x_iconst rfl) ?_
      refine w_icmpne (t := 29) rfl rfl (show inr (a1) from h0) (show inr (2) from q_122) (fun b3 => ?_) (fun b3 => ?_)
      · refine Ew_of (pcₚ := 30) (fun _ => x_iload_n rfl rfl) ?_
        refine Ew_of (pcₚ := 31) (fun _ => x_iconst rfl) ?_
        refine w_icmpne (t := 39) rfl rfl (show inr (a1) from h0) (show inr (3) from q_246) (fun b4 => ?_) (fun b4 => ?_)
        · refine Ew_of (pcₚ := 40) (fun _ => x_iload_n rfl rfl) ?_
          refine Ew_of (pcₚ := 41) (fun _ => x_iconst rfl) ?_
          refine w_icmpne (t := 49) rfl rfl (show inr (a1) from h0) (show inr (4) from q_216) (fun b5 => ?_) (fun b5 => ?_)
          · refine Ew_of (pcₚ := 51) (fun _ => x_bipush (z := 89) rfl (by decide)) ?_
            have : IMP ((0 : Int) ≤ (a1) ∧ (a1) ≤ 5) ((89) = TGm.getD (4 + (a1) : Int).toNat 0) := fun z => by first | (rw [show (a1) = 0 by omega]; rfl) | (rw [show (a1) = 1 by omega]; rfl) | (rw [show (a1) = 2 by omega]; rfl) | (rw [show (a1) = 3 by omega]; rfl) | (rw [show (a1) = 4 by omega]; rfl) | (rw [show (a1) = 5 by omega]; rfl)
            exact w_ireturn rfl (k (89) σ _ _ H (SF_refl) (SA_refl) (show inr (89) from q_328) (show 0 ≤ (89) ∧ (89) ≤ 255 by first | exact q_327 | omega) (show IMP ((0 : Int) ≤ a1 ∧ a1 ≤ 5) ((89) = TGm.getD (4 + a1 : Int).toNat 0) by assumption))
          · refine Ew_of (pcₚ := 46) (fun _ => x_bipush (z := 112) rfl (by decide)) ?_
            refine Ew_of (pcₚ := 51) (fun _ => x_goto rfl rfl) ?_
            have : IMP ((0 : Int) ≤ (a1) ∧ (a1) ≤ 5) ((112) = TGm.getD (4 + (a1) : Int).toNat 0) := fun z => by first | (rw [show (a1) = 0 by omega]; rfl) | (rw [show (a1) = 1 by omega]; rfl) | (rw [show (a1) = 2 by omega]; rfl) | (rw [show (a1) = 3 by omega]; rfl) | (rw [show (a1) = 4 by omega]; rfl) | (rw [show (a1) = 5 by omega]; rfl)
            exact w_ireturn rfl (k (112) σ _ _ H (SF_refl) (SA_refl) (show inr (112) from q_330) (show 0 ≤ (112) ∧ (112) ≤ 255 by first | exact q_329 | omega) (show IMP ((0 : Int) ≤ a1 ∧ a1 ≤ 5) ((112) = TGm.getD (4 + a1 : Int).toNat 0) by assumption))
        · refine Ew_of (pcₚ := 36) (fun _ => x_bipush (z := 80) rfl (by decide)) ?_
          refine Ew_of (pcₚ := 51) (fun _ => x_goto rfl rfl) ?_
          have : IMP ((0 : Int) ≤ (a1) ∧ (a1) ≤ 5) ((80) = TGm.getD (4 + (a1) : Int).toNat 0) := fun z => by first | (rw [show (a1) = 0 by omega]; rfl) | (rw [show (a1) = 1 by omega]; rfl) | (rw [show (a1) = 2 by omega]; rfl) | (rw [show (a1) = 3 by omega]; rfl) | (rw [show (a1) = 4 by omega]; rfl) | (rw [show (a1) = 5 by omega]; rfl)
          exact w_ireturn rfl (k (80) σ _ _ H (SF_refl) (SA_refl) (show inr (80) from q_332) (show 0 ≤ (80) ∧ (80) ≤ 255 by first | exact q_331 | omega) (show IMP ((0 : Int) ≤ a1 ∧ a1 ≤ 5) ((80) = TGm.getD (4 + a1 : Int).toNat 0) by assumption))
      · refine Ew_of (pcₚ := 26) (fun _ => x_bipush (z := 97) rfl (by decide)) ?_
        refine Ew_of (pcₚ := 51) (fun _ => x_goto rfl rfl) ?_
        have : IMP ((0 : Int) ≤ (a1) ∧ (a1) ≤ 5) ((97) = TGm.getD (4 + (a1) : Int).toNat 0) := fun z => by first | (rw [show (a1) = 0 by omega]; rfl) | (rw [show (a1) = 1 by omega]; rfl) | (rw [show (a1) = 2 by omega]; rfl) | (rw [show (a1) = 3 by omega]; rfl) | (rw [show (a1) = 4 by omega]; rfl) | (rw [show (a1) = 5 by omega]; rfl)
        exact w_ireturn rfl (k (97) σ _ _ H (SF_refl) (SA_refl) (show inr (97) from q_334) (show 0 ≤ (97) ∧ (97) ≤ 255 by first | exact q_333 | omega) (show IMP ((0 : Int) ≤ a1 ∧ a1 ≤ 5) ((97) = TGm.getD (4 + a1 : Int).toNat 0) by assumption))
    · refine Ew_of (pcₚ := 16) (fun _ => x_bipush (z := 78) rfl (by decide)) ?_
      refine Ew_of (pcₚ := 51) (fun _ => x_goto rfl rfl) ?_
      have : IMP ((0 : Int) ≤ (a1) ∧ (a1) ≤ 5) ((78) = TGm.getD (4 + (a1) : Int).toNat 0) := fun z => by first | (rw [show (a1) = 0 by omega]; rfl) | (rw [show (a1) = 1 by omega]; rfl) | (rw [show (a1) = 2 by omega]; rfl) | (rw [show (a1) = 3 by omega]; rfl) | (rw [show (a1) = 4 by omega]; rfl) | (rw [show (a1) = 5 by omega]; rfl)
      exact w_ireturn rfl (k (78) σ _ _ H (SF_refl) (SA_refl) (show inr (78) from q_336) (show 0 ≤ (78) ∧ (78) ≤ 255 by first | exact q_335 | omega) (show IMP ((0 : Int) ≤ a1 ∧ a1 ≤ 5) ((78) = TGm.getD (4 + a1 : Int).toNat 0) by assumption))
  · refine Ew_of (pcₚ := 6) (fun _ => x_bipush (z := 115) rfl (by decide)) ?_
    refine Ew_of (pcₚ := 51) (fun _ => x_goto rfl rfl) ?_
    have : IMP ((0 : Int) ≤ (a1) ∧ (a1) ≤ 5) ((115) = TGm.getD (4 + (a1) : Int).toNat 0) := fun z => by first | (rw [show (a1) = 0 by omega]; rfl) | (rw [show (a1) = 1 by omega]; rfl) | (rw [show (a1) = 2 by omega]; rfl) | (rw [show (a1) = 3 by omega]; rfl) | (rw [show (a1) = 4 by omega]; rfl) | (rw [show (a1) = 5 by omega]; rfl)
    exact w_ireturn rfl (k (115) σ _ _ H (SF_refl) (SA_refl) (show inr (115) from q_338) (show 0 ≤ (115) ∧ (115) ≤ 255 by first | exact q_337 | omega) (show IMP ((0 : Int) ≤ a1 ∧ a1 ≤ 5) ((115) = TGm.getD (4 + a1 : Int).toNat 0) by assumption))

theorem M305 {σ0 σ : rS} {D N : Nat → Nat} {F : hF} {A : hA} {d c s : Nat} {Q : wQ} (H : HS σ0 σ D N F A) {a1 : Int} (u2_1 : Int) (eu2_1 : F 2 1 = u2_1) (w10 : Int → Int) (ew10 : A 10 = w10) (h0 : inr (a1)) (h1 : 0 ≤ (u2_1) + (a1) ∧ (u2_1) + (a1) < 262144 ∧ 0 ≤ (u2_1) ∧ (u2_1) ≤ 262144) (k : ∀ (z : Int) σ Fₚ Aₚ, HS σ0 σ D N Fₚ Aₚ → SF [] F Fₚ → SA [] A Aₚ → (inr (z)) → (0 ≤ (z) ∧ (z) ≤ 255) → ((z) = ((w10)) ((u2_1) + (a1))) → Q (some (I z)) σ c s) : Ew 305 (d + 0) 0 (rargs 0 [.ref (D 2), I a1]) [] σ c s Q := by
  have r1 : (-2147483648 : Int) ≤ u2_1 ∧ u2_1 ≤ 2147483647 := rngE (show (-2147483648 : Int) ≤ F 2 1 ∧ F 2 1 ≤ 2147483647 from H.frng 2 1) (show F 2 1 = u2_1 from (eu2_1))
  refine Ew_of (pcₚ := 1) (fun _ => x_aload_n rfl rfl) ?_
  refine w_gT H (o := 2) (t := 10) rfl (H.perm 2 rfl) rfl rfl rfl rfl rfl rfl ?_
  refine Ew_of (pcₚ := 5) (fun _ => x_aload_n rfl rfl) ?_
  refine w_gI H (o := 2) (w := u2_1) rfl (H.perm 2 rfl) rfl rfl rfl (fun _ => rfl) (eu2_1) ?_
  refine Ew_of (pcₚ := 9) (fun _ => x_iload_n rfl rfl) ?_
  refine w_iadd rfl ?_
  refine w_lI H (o := 10) (n := 262144) rfl (H.perm 10 rfl) rfl rfl (H.fix 10 rfl rfl) (show 0 ≤ (u2_1 + a1) ∧ (u2_1 + a1) < ((262144 : Nat) : Int) from q_339 h1) (by decide) (fun v2 ev2 qv2 => ?_)
  have qv2 : (0 : Int) ≤ v2 ∧ v2 ≤ 255 := qv2
  have ev2 : (w10) ((u2_1 + a1)) = v2 := (congrFun (ew10) ((u2_1 + a1))).symm.trans ev2
  have : (v2) = ((w10)) ((u2_1) + (a1)) := ev2.symm
  exact w_ireturn rfl (k (v2) σ _ _ H (SF_refl) (SA_refl) (show inr (v2) from q_299 qv2) (show 0 ≤ (v2) ∧ (v2) ≤ 255 from qv2) (show (v2) = ((w10)) ((u2_1) + a1) by assumption))

theorem M306 {σ0 σ : rS} {D N : Nat → Nat} {F : hF} {A : hA} {d c s : Nat} {Q : wQ} (H : HS σ0 σ D N F A) {a1 a2 : Int} (u2_1 : Int) (eu2_1 : F 2 1 = u2_1) (w10 : Int → Int) (ew10 : A 10 = w10) (h0 : inr (a1)) (h1 : inr (a2)) (h2 : 0 ≤ (u2_1) ∧ (u2_1) ≤ 196608) (h3 : 0 ≤ (a1) ∧ 0 ≤ (a2) ∧ (a2) ≤ 8 ∧ (a1) + (a2) ≤ 65536) (k : ∀ (z : Int) σ Fₚ Aₚ, HS σ0 σ D N Fₚ Aₚ → SF [] F Fₚ → SA [] A Aₚ → (inrJ (z)) → (NVQ (shf ((w10)) ((u2_1))) ((a1)) ((a2)) ((z))) → Q (some (J z)) σ c s) : Ew 306 (d + 1) 0 (rargs 0 [.ref (D 2), I a1, I a2]) [] σ c s Q := by
  have r1 : (-2147483648 : Int) ≤ u2_1 ∧ u2_1 ≤ 2147483647 := rngE (show (-2147483648 : Int) ≤ F 2 1 ∧ F 2 1 ≤ 2147483647 from H.frng 2 1) (show F 2 1 = u2_1 from (eu2_1))
  refine Ew_of (pcₚ := 1) (fun _ => x_lconst (z := 0) rfl (by decide)) ?_
  refine Ew_of (pcₚ := 2) (fun _ => x_lstore_n rfl) ?_
  refine Ew_of (pcₚ := 3) (fun _ => x_iconst rfl) ?_
  refine Ew_of (pcₚ := 5) (fun _ => x_istore rfl) ?_
  have : NVQ (shf ((w10)) ((u2_1))) ((a1)) (0) (0) := NVQ_0
  suffices hl5 : ∀ (m : Nat), ∀ (ls : rO) (σ : rS) (F_5 : hF) (A_5 : hA) (x5_3 : Int) (x5_5 : Int), rlook ls 0 = some (.ref (D 2)) → rlook ls 1 = some (I (a1)) → rlook ls 2 = some (I (a2)) → rlook ls 3 = some (J (x5_3)) → rlook ls 5 = some (I (x5_5)) → HS σ0 σ D N F_5 A_5 → SF [] F F_5 → SA [] A A_5 → (inrJ (x5_3)) → (inr (x5_5)) → ((0) ≤ (x5_5)) → ((x5_5) ≤ (0) ∨ (x5_5) ≤ ((a2))) → (NVQ (shf ((w10)) ((u2_1))) ((a1)) ((x5_5)) ((x5_3))) → (((a2)) - (x5_5)).toNat = m → Ew 306 (d + 1) 5 ls [] σ c s Q from
    hl5 _ _ σ _ _ (0) (0) (rk_o (rk2_o (rfl) rfl rfl) rfl rfl) (rk_o (rk2_o (rfl) rfl rfl) rfl rfl) (rk_o (rk2_o (rfl) rfl rfl) rfl rfl) (rk_o (rk2_s) rfl rfl) (rk_s) H (SF_refl) (SA_refl)   (show inrJ (0) from q_340) (show inr (0) from q_2) (show (0) ≤ (0) from q_1) (show (0) ≤ (0) ∨ (0) ≤ ((a2)) from q_5) (show NVQ (shf ((w10)) ((u2_1))) ((a1)) ((0)) ((0)) by assumption) rfl
  as_aux_lemma =>
  intro m
  induction m using Nat.strongRecOn with
  | _ m ih5 =>
    intro ls σ F_5 A_5 x5_3 x5_5 l5_0 l5_1 l5_2 l5_3 l5_5 H hS_5 hA_5   j5_0 j5_1 j5_2 j5_3 j5_4 hm5
    have j5_q : NVQ (shf ((w10)) ((u2_1))) ((a1)) ((x5_5)) ((x5_3)) := j5_4
    refine Ew_of (pcₚ := 7) (fun _ => x_iload rfl l5_5) ?_
    refine Ew_of (pcₚ := 8) (fun _ => x_iload_n rfl l5_2) ?_
    refine w_icmpge (t := 35) rfl rfl (show inr (x5_5) from j5_1) (show inr (a2) from h1) (fun b2 => ?_) (fun b2 => ?_)
    · have : NVQ (shf ((w10)) ((u2_1))) ((a1)) ((a2)) ((x5_3)) := by rw [show (a2) = (x5_5) by omega]; exact j5_q
      refine Ew_of (pcₚ := 36) (fun _ => x_lload_n rfl l5_3) ?_
      exact w_lreturn rfl (k (x5_3) σ _ _ H (SF_trans (SF_refl) hS_5 (any_sub rfl)) (SA_trans (SA_refl) hA_5 (any_subA rfl)) (show inrJ (x5_3) from j5_0) (show NVQ (shf ((w10)) ((u2_1))) (a1) (a2) ((x5_3)) by assumption))
    · refine Ew_of (pcₚ := 12) (fun _ => x_lload_n rfl l5_3) ?_
      refine Ew_of (pcₚ := 13) (fun _ => x_aload_n rfl l5_0) ?_
      refine Ew_of (pcₚ := 14) (fun _ => x_iload_n rfl l5_1) ?_
      refine Ew_of (pcₚ := 16) (fun _ => x_iload rfl l5_5) ?_
      refine w_iadd rfl ?_
      refine w_inv H (o := 2) rfl rfl rfl (H.perm 2 rfl) rfl rfl (by rfl) (M305 H (u2_1) (((hS_5 2 1 rfl).trans (eu2_1))) (w10) ((funext (hA_5 10 rfl)).trans (ew10)) (show inr ((a1 + x5_5)) from q_342 b2 h3 j5_2) (show 0 ≤ (u2_1) + ((a1 + x5_5)) ∧ (u2_1) + ((a1 + x5_5)) < 262144 ∧ 0 ≤ (u2_1) ∧ (u2_1) ≤ 262144 from q_341 b2 h2 h3 j5_2) (fun z7 σ F3 A4 H hS5 hA6 pz7_0 pz7_1 pz7_2 => ⟨rfl, ?_⟩))
      have hat := pz7_2
      have har := pz7_1
      refine w_i2l rfl (show inr (z7) from pz7_0) ?_
      refine Ew_of (pcₚ := 23) (fun _ => x_bipush (z := 8) rfl (by decide)) ?_
      refine Ew_of (pcₚ := 25) (fun _ => x_iload rfl l5_5) ?_
      refine w_imul rfl ?_
      refine w_lshlE rfl ?_
      have g8 : inrJ (shlJ (z7) ((8 * x5_5))) := toJ_inr _
      refine w_lorE rfl ?_
      have g9 : inrJ (orJ (x5_3) ((shlJ (z7) ((8 * x5_5))))) := toJ_inr _
      refine Ew_of (pcₚ := 29) (fun _ => x_lstore_n rfl) ?_
      refine Ew_of (pcₚ := 32) (fun _ => x_iinc (len := 3) rfl (rk2_o (l5_5) rfl rfl)) ?_
      refine Ew_of (pcₚ := 5) (fun _ => x_goto rfl rfl) ?_
      have : NVQ (shf ((w10)) ((u2_1))) ((a1)) (((x5_5 + 1))) (((orJ (x5_3) ((shlJ (z7) ((8 * x5_5))))))) := NVQ_s j5_q (by omega) hat har (by omega) rfl
      exact ih5 _ (msE hm5 q_16 (q_17 b2)) _ σ _ _ ((orJ (x5_3) ((shlJ (z7) ((8 * x5_5)))))) ((x5_5 + 1)) (rk_o (rk2_o (l5_0) rfl rfl) rfl rfl) (rk_o (rk2_o (l5_1) rfl rfl) rfl rfl) (rk_o (rk2_o (l5_2) rfl rfl) rfl rfl) (rk_o (rk2_s) rfl rfl) (rk_s) H (SF_trans (hS_5) hS5 (any_sub rfl)) (SA_trans (hA_5) hA6 (any_subA rfl))   (show inrJ ((orJ (x5_3) ((shlJ (z7) ((8 * x5_5)))))) from g9) (show inr ((x5_5 + 1)) from q_343 b2 h3 j5_2) (show (0) ≤ ((x5_5 + 1)) from q_14 j5_2) (show ((x5_5 + 1)) ≤ (0) ∨ ((x5_5 + 1)) ≤ ((a2)) from q_13 b2) (show NVQ (shf ((w10)) ((u2_1))) ((a1)) (((x5_5 + 1))) (((orJ (x5_3) ((shlJ (z7) ((8 * x5_5))))))) by assumption) rfl

theorem M308 {σ0 σ : rS} {D N : Nat → Nat} {F : hF} {A : hA} {d c s : Nat} {Q : wQ} (H : HS σ0 σ D N F A) {a1 a2 a3 a4 : Int} (u2_1 : Int) (eu2_1 : F 2 1 = u2_1) (w10 : Int → Int) (ew10 : A 10 = w10) (h0 : inr (a1)) (h1 : inr (a2)) (h2 : inr (a3)) (h3 : inr (a4)) (h4 : 0 ≤ (u2_1) ∧ (u2_1) ≤ 196608) (h5 : 0 ≤ (a2) ∧ (a2) ≤ (a3) ∧ (a3) ≤ 65536 ∧ 0 ≤ (a4) ∧ (a4) ≤ 3) (k : ∀ (z : Int) σ Fₚ Aₚ, HS σ0 σ D N Fₚ Aₚ → SF [] F Fₚ → SA [] A Aₚ → (inr (z)) → ((z) = nLn (shf ((w10)) ((u2_1))) ((a2) + 4 * (a4)) (((a3) - (a2)) / 16).toNat ((a1))) → Q (some (I z)) σ c s) : Ew 308 (d + 2) 0 (rargs 0 [.ref (D 2), I a1, I a2, I a3, I a4]) [] σ c s Q := by
  have r1 : (-2147483648 : Int) ≤ u2_1 ∧ u2_1 ≤ 2147483647 := rngE (show (-2147483648 : Int) ≤ F 2 1 ∧ F 2 1 ≤ 2147483647 from H.frng 2 1) (show F 2 1 = u2_1 from (eu2_1))
  refine Ew_of (pcₚ := 1) (fun _ => x_iload_n rfl rfl) ?_
  refine Ew_of (pcₚ := 3) (fun _ => x_istore rfl) ?_
  refine Ew_of (pcₚ := 4) (fun _ => x_iload_n rfl (rk_o (rfl) rfl rfl)) ?_
  refine Ew_of (pcₚ := 6) (fun _ => x_istore rfl) ?_
  have : nLn (shf ((w10)) ((u2_1))) ((a2) + 4 * (a4)) (((a3) - (a2)) / 16).toNat ((a1)) = nLn (shf ((w10)) ((u2_1))) ((a2) + 4 * (a4)) (((a3) - (a2)) / 16).toNat ((a1)) := rfl
  suffices hl6 : ∀ (m : Nat), ∀ (ls : rO) (σ : rS) (F_6 : hF) (A_6 : hA) (x6_5 : Int) (x6_6 : Int), rlook ls 0 = some (.ref (D 2)) → rlook ls 3 = some (I (a3)) → rlook ls 4 = some (I (a4)) → rlook ls 5 = some (I (x6_5)) → rlook ls 6 = some (I (x6_6)) → HS σ0 σ D N F_6 A_6 → SF [] F F_6 → SA [] A A_6 → (inr (x6_5)) → (inr (x6_6)) → ((a2) ≤ (x6_6) ∧ (x6_6) ≤ (a3)) → (nLn (shf ((w10)) ((u2_1))) ((a2) + 4 * (a4)) (((a3) - (a2)) / 16).toNat ((a1)) = nLn (shf ((w10)) ((u2_1))) ((x6_6) + 4 * (a4)) (((a3) - (x6_6)) / 16).toNat ((x6_5))) → ((a3) - (x6_6)).toNat = m → Ew 308 (d + 2) 6 ls [] σ c s Q from
    hl6 _ _ σ _ _ (a1) (a2) (rk_o (rk_o (rfl) rfl rfl) rfl rfl) (rk_o (rk_o (rfl) rfl rfl) rfl rfl) (rk_o (rk_o (rfl) rfl rfl) rfl rfl) (rk_o (rk_s) rfl rfl) (rk_s) H (SF_refl) (SA_refl)   (show inr (a1) from h0) (show inr (a2) from h1) (show (a2) ≤ (a2) ∧ (a2) ≤ (a3) from q_344 h5) (show nLn (shf ((w10)) ((u2_1))) ((a2) + 4 * (a4)) (((a3) - (a2)) / 16).toNat ((a1)) = nLn (shf ((w10)) ((u2_1))) ((a2) + 4 * (a4)) (((a3) - (a2)) / 16).toNat ((a1)) by assumption) rfl
  as_aux_lemma =>
  intro m
  induction m using Nat.strongRecOn with
  | _ m ih6 =>
    intro ls σ F_6 A_6 x6_5 x6_6 l6_0 l6_3 l6_4 l6_5 l6_6 H hS_6 hA_6   j6_0 j6_1 j6_2 j6_3 hm6
    have j6_q : nLn (shf ((w10)) ((u2_1))) ((a2) + 4 * (a4)) (((a3) - (a2)) / 16).toNat ((a1)) = nLn (shf ((w10)) ((u2_1))) ((x6_6) + 4 * (a4)) (((a3) - (x6_6)) / 16).toNat ((x6_5)) := by assumption
    refine Ew_of (pcₚ := 7) (fun _ => x_iload_n rfl l6_3) ?_
    refine Ew_of (pcₚ := 9) (fun _ => x_iload rfl l6_6) ?_
    refine w_isub rfl ?_
    refine Ew_of (pcₚ := 12) (fun _ => x_bipush (z := 16) rfl (by decide)) ?_
    refine w_icmplt (t := 50) rfl rfl (show inr ((a3 - x6_6)) from q_346 h5 j6_2) (show inr (16) from q_345) (fun b2 => ?_) (fun b2 => ?_)
    · refine Ew_of (pcₚ := 52) (fun _ => x_iload rfl l6_5) ?_
      have : (x6_5) = nLn (shf ((w10)) ((u2_1))) ((a2) + 4 * (a4)) (((a3) - (a2)) / 16).toNat ((a1)) := (j6_q.trans (nLn_0 (by omega))).symm
      exact w_ireturn rfl (k (x6_5) σ _ _ H (SF_trans (SF_refl) hS_6 (any_sub rfl)) (SA_trans (SA_refl) hA_6 (any_subA rfl)) (show inr (x6_5) from j6_0) (show (x6_5) = nLn (shf ((w10)) ((u2_1))) (a2 + 4 * a4) ((a3 - a2) / 16).toNat (a1) by assumption))
    · refine Ew_of (pcₚ := 17) (fun _ => x_iload rfl l6_5) ?_
      refine Ew_of (pcₚ := 18) (fun _ => x_aload_n rfl l6_0) ?_
      refine Ew_of (pcₚ := 20) (fun _ => x_iload rfl l6_6) ?_
      refine Ew_of (pcₚ := 21) (fun _ => x_iconst rfl) ?_
      refine Ew_of (pcₚ := 23) (fun _ => x_iload rfl l6_4) ?_
      refine w_imul rfl ?_
      refine w_iadd rfl ?_
      refine Ew_of (pcₚ := 26) (fun _ => x_iconst rfl) ?_
      refine w_inv H (o := 2) rfl rfl rfl (H.perm 2 rfl) rfl rfl (by rfl) (M306 H (u2_1) (((hS_6 2 1 rfl).trans (eu2_1))) (w10) ((funext (hA_6 10 rfl)).trans (ew10)) (show inr ((x6_6 + (4 * a4))) from q_348 b2 h5 j6_2) (show inr (4) from q_216) (show 0 ≤ (u2_1) ∧ (u2_1) ≤ 196608 from h4) (show 0 ≤ ((x6_6 + (4 * a4))) ∧ 0 ≤ (4) ∧ (4) ≤ 8 ∧ ((x6_6 + (4 * a4))) + (4) ≤ 65536 from q_347 b2 h5 j6_2) (fun z7 σ F3 A4 H hS5 hA6 pz7_0 pz7_1 => ⟨rfl, ?_⟩))
      have hnv := pz7_1
      refine w_l2i rfl ?_
      refine Ew_of (pcₚ := 32) (fun _ => x_ldc (z := -2048144777) rfl (by decide)) ?_
      refine w_imulE rfl ?_
      have g8 : inr (muI (z7) ((-2048144777))) := toI_inr _
      refine w_iaddE rfl ?_
      have g9 : inr (adI (x6_5) ((muI (z7) ((-2048144777))))) := toI_inr _
      refine Ew_of (pcₚ := 36) (fun _ => x_bipush (z := 13) rfl (by decide)) ?_
      refine w_stat24 rfl rfl (by rfl) (M307 H (show inr ((adI (x6_5) ((muI (z7) ((-2048144777)))))) from g9) (show inr (13) from q_350) (show 0 ≤ (13) ∧ (13) ≤ 32 from q_349) (fun z14 σ F10 A11 H hS12 hA13 pz14_0 pz14_1 => ⟨rfl, ?_⟩))
      have hrt := pz14_1
      refine Ew_of (pcₚ := 41) (fun _ => x_ldc (z := -1640531535) rfl (by decide)) ?_
      refine w_imulE rfl ?_
      have g15 : inr (muI (z14) ((-1640531535))) := toI_inr _
      refine Ew_of (pcₚ := 44) (fun _ => x_istore rfl) ?_
      refine Ew_of (pcₚ := 47) (fun _ => x_iinc (len := 3) rfl (rk_o (l6_6) rfl rfl)) ?_
      refine Ew_of (pcₚ := 6) (fun _ => x_goto rfl rfl) ?_
      have : nLn (shf ((w10)) ((u2_1))) ((a2) + 4 * (a4)) (((a3) - (a2)) / 16).toNat ((a1)) = nLn (shf ((w10)) ((u2_1))) (((x6_6 + 16)) + 4 * (a4)) (((a3) - ((x6_6 + 16))) / 16).toNat (((muI (z14) ((-1640531535))))) := j6_q.trans (nLn_s (by omega) (nlI_l hnv hrt rfl) (by omega))
      exact ih6 _ (msE hm6 q_353 (q_354 b2)) _ σ _ _ ((muI (z14) ((-1640531535)))) ((x6_6 + 16)) (rk_o (rk_o (l6_0) rfl rfl) rfl rfl) (rk_o (rk_o (l6_3) rfl rfl) rfl rfl) (rk_o (rk_o (l6_4) rfl rfl) rfl rfl) (rk_o (rk_s) rfl rfl) (rk_s) H (SF_trans (SF_trans (hS_6) hS5 (any_sub rfl)) hS12 (any_sub rfl)) (SA_trans (SA_trans (hA_6) hA6 (any_subA rfl)) hA13 (any_subA rfl))   (show inr ((muI (z14) ((-1640531535)))) from g15) (show inr ((x6_6 + 16)) from q_352 b2 h5 j6_1) (show (a2) ≤ ((x6_6 + 16)) ∧ ((x6_6 + 16)) ≤ (a3) from q_351 b2 j6_2) (show nLn (shf ((w10)) ((u2_1))) ((a2) + 4 * (a4)) (((a3) - (a2)) / 16).toNat ((a1)) = nLn (shf ((w10)) ((u2_1))) (((x6_6 + 16)) + 4 * (a4)) (((a3) - ((x6_6 + 16))) / 16).toNat (((muI (z14) ((-1640531535))))) by assumption) rfl

theorem M316 {σ0 σ : rS} {D N : Nat → Nat} {F : hF} {A : hA} {d c s : Nat} {Q : wQ} (H : HS σ0 σ D N F A) {a1 a2 : Int} (h0 : inr (a1)) (h1 : inr (a2)) (h2 : 0 ≤ (a2) ∧ (a2) ≤ 255) (k : ∀ (z : Int) σ Fₚ Aₚ, HS σ0 σ D N Fₚ Aₚ → SF [] F Fₚ → SA [] A Aₚ → (inr (z)) → ((z) = pst ((a1)) ((a2))) → Q (some (I z)) σ c s) : Ew 316 (d + 1) 0 (rargs 0 [I a1, I a2]) [] σ c s Q := by
  refine Ew_of (pcₚ := 1) (fun _ => x_iload_n rfl rfl) ?_
  refine Ew_of (pcₚ := 2) (fun _ => x_istore_n rfl) ?_
  refine Ew_of (pcₚ := 3) (fun _ => x_iconst rfl) ?_
  refine Ew_of (pcₚ := 4) (fun _ => x_istore_n rfl) ?_
  have : PBI ((a1)) ((a2)) (0) ((a1)) := PBI_0
  suffices hl4 : ∀ (m : Nat), ∀ (ls : rO) (σ : rS) (F_4 : hF) (A_4 : hA) (x4_2 : Int) (x4_3 : Int), rlook ls 1 = some (I (a2)) → rlook ls 2 = some (I (x4_2)) → rlook ls 3 = some (I (x4_3)) → HS σ0 σ D N F_4 A_4 → SF [] F F_4 → SA [] A A_4 → (inr (x4_2)) → (inr (x4_3)) → ((0) ≤ (x4_3)) → ((x4_3) ≤ (0) ∨ (x4_3) ≤ ((8))) → (PBI ((a1)) ((a2)) ((x4_3)) ((x4_2))) → (((8)) - (x4_3)).toNat = m → Ew 316 (d + 1) 4 ls [] σ c s Q from
    hl4 _ _ σ _ _ (a1) (0) (rk_o (rk_o (rfl) rfl rfl) rfl rfl) (rk_o (rk_s) rfl rfl) (rk_s) H (SF_refl) (SA_refl)   (show inr (a1) from h0) (show inr (0) from q_2) (show (0) ≤ (0) from q_1) (show (0) ≤ (0) ∨ (0) ≤ ((8)) from q_355) (show PBI ((a1)) ((a2)) ((0)) ((a1)) by assumption) rfl
  as_aux_lemma =>
  intro m
  induction m using Nat.strongRecOn with
  | _ m ih4 =>
    intro ls σ F_4 A_4 x4_2 x4_3 l4_1 l4_2 l4_3 H hS_4 hA_4   j4_0 j4_1 j4_2 j4_3 j4_4 hm4
    have j4_q : PBI ((a1)) ((a2)) ((x4_3)) ((x4_2)) := j4_4
    refine Ew_of (pcₚ := 5) (fun _ => x_iload_n rfl l4_3) ?_
    refine Ew_of (pcₚ := 7) (fun _ => x_bipush (z := 8) rfl (by decide)) ?_
    refine w_icmpge (t := 27) rfl rfl (show inr (x4_3) from j4_1) (show inr (8) from q_141) (fun b1 => ?_) (fun b1 => ?_)
    · refine Ew_of (pcₚ := 28) (fun _ => x_iload_n rfl l4_2) ?_
      have : (x4_2) = pst ((a1)) ((a2)) := PBI_e j4_q (by omega) (by omega) (by omega)
      exact w_ireturn rfl (k (x4_2) σ _ _ H (SF_trans (SF_refl) hS_4 (any_sub rfl)) (SA_trans (SA_refl) hA_4 (any_subA rfl)) (show inr (x4_2) from j4_0) (show (x4_2) = pst (a1) (a2) by assumption))
    · refine Ew_of (pcₚ := 11) (fun _ => x_iload_n rfl l4_2) ?_
      refine Ew_of (pcₚ := 12) (fun _ => x_iload_n rfl l4_1) ?_
      refine Ew_of (pcₚ := 13) (fun _ => x_iload_n rfl l4_3) ?_
      refine w_ishrG rfl ?_
      have g2 : inr (srI (a2) (x4_3)) := toI_inr _
      refine Ew_of (pcₚ := 15) (fun _ => x_iconst rfl) ?_
      refine w_iandG rfl ?_
      have g3 : inr (andI ((srI (a2) (x4_3))) (1)) := toI_inr _
      refine w_ixorE rfl ?_
      have g4 : inr (xoI (x4_2) ((andI ((srI (a2) (x4_3))) (1)))) := toI_inr _
      refine w_stat24 rfl rfl (by rfl) (M315 H (show inr ((xoI (x4_2) ((andI ((srI (a2) (x4_3))) (1))))) from g4) (fun z9 σ F5 A6 H hS7 hA8 pz9_0 pz9_1 => ⟨rfl, ?_⟩))
      have hrt := pz9_1
      refine Ew_of (pcₚ := 21) (fun _ => x_istore_n rfl) ?_
      refine Ew_of (pcₚ := 24) (fun _ => x_iinc (len := 3) rfl (rk_o (l4_3) rfl rfl)) ?_
      refine Ew_of (pcₚ := 4) (fun _ => x_goto rfl rfl) ?_
      have : PBI ((a1)) ((a2)) (((x4_3 + 1))) ((z9)) := PBI_s j4_q (by omega) (by omega) (by omega) hrt
      exact ih4 _ (msE hm4 q_358 (q_359 b1)) _ σ _ _ (z9) ((x4_3 + 1)) (rk_o (rk_o (l4_1) rfl rfl) rfl rfl) (rk_o (rk_s) rfl rfl) (rk_s) H (SF_trans (hS_4) hS7 (any_sub rfl)) (SA_trans (hA_4) hA8 (any_subA rfl))   (show inr (z9) from pz9_0) (show inr ((x4_3 + 1)) from q_357 b1 j4_2) (show (0) ≤ ((x4_3 + 1)) from q_14 j4_2) (show ((x4_3 + 1)) ≤ (0) ∨ ((x4_3 + 1)) ≤ ((8)) from q_356 b1) (show PBI ((a1)) ((a2)) (((x4_3 + 1))) ((z9)) by assumption) rfl

theorem M317 {σ0 σ : rS} {D N : Nat → Nat} {F : hF} {A : hA} {d c s : Nat} {Q : wQ} (H : HS σ0 σ D N F A) {a1 a2 : Int} (u2_1 : Int) (eu2_1 : F 2 1 = u2_1) (w10 : Int → Int) (ew10 : A 10 = w10) (h0 : inr (a1)) (h1 : inr (a2)) (h2 : 0 ≤ (u2_1) ∧ (u2_1) ≤ 196608) (h3 : 0 ≤ (a1) ∧ (a1) ≤ (a2) ∧ (a2) ≤ 65536) (k : ∀ (z : Int) σ Fₚ Aₚ, HS σ0 σ D N Fₚ Aₚ → SF [] F Fₚ → SA [] A Aₚ → (inr (z)) → (xoI ((z)) (-1) = POL (shf ((w10)) ((u2_1))) ((a1)) ((a2) - (a1))) → Q (some (I z)) σ c s) : Ew 317 (d + 2) 0 (rargs 0 [.ref (D 2), I a1, I a2]) [] σ c s Q := by
  have r1 : (-2147483648 : Int) ≤ u2_1 ∧ u2_1 ≤ 2147483647 := rngE (show (-2147483648 : Int) ≤ F 2 1 ∧ F 2 1 ≤ 2147483647 from H.frng 2 1) (show F 2 1 = u2_1 from (eu2_1))
  refine Ew_of (pcₚ := 1) (fun _ => x_iconst rfl) ?_
  refine Ew_of (pcₚ := 2) (fun _ => x_istore_n rfl) ?_
  refine Ew_of (pcₚ := 3) (fun _ => x_iload_n rfl (rk_o (rfl) rfl rfl)) ?_
  refine Ew_of (pcₚ := 5) (fun _ => x_istore rfl) ?_
  have : PRI (shf ((w10)) ((u2_1))) ((a1)) ((a2)) ((a1)) (-1) := PRI_0
  suffices hl5 : ∀ (m : Nat), ∀ (ls : rO) (σ : rS) (F_5 : hF) (A_5 : hA) (x5_3 : Int) (x5_4 : Int), rlook ls 0 = some (.ref (D 2)) → rlook ls 2 = some (I (a2)) → rlook ls 3 = some (I (x5_3)) → rlook ls 4 = some (I (x5_4)) → HS σ0 σ D N F_5 A_5 → SF [] F F_5 → SA [] A A_5 → (inr (x5_3)) → (inr (x5_4)) → ((a1) ≤ (x5_4)) → ((x5_4) ≤ (a1) ∨ (x5_4) ≤ ((a2))) → (PRI (shf ((w10)) ((u2_1))) ((a1)) ((a2)) ((x5_4)) ((x5_3))) → (((a2)) - (x5_4)).toNat = m → Ew 317 (d + 2) 5 ls [] σ c s Q from
    hl5 _ _ σ _ _ ((-1)) (a1) (rk_o (rk_o (rfl) rfl rfl) rfl rfl) (rk_o (rk_o (rfl) rfl rfl) rfl rfl) (rk_o (rk_s) rfl rfl) (rk_s) H (SF_refl) (SA_refl)   (show inr ((-1)) from q_63) (show inr (a1) from h0) (show (a1) ≤ (a1) from q_43) (show (a1) ≤ (a1) ∨ (a1) ≤ ((a2)) from q_156) (show PRI (shf ((w10)) ((u2_1))) ((a1)) ((a2)) ((a1)) (((-1))) by assumption) rfl
  as_aux_lemma =>
  intro m
  induction m using Nat.strongRecOn with
  | _ m ih5 =>
    intro ls σ F_5 A_5 x5_3 x5_4 l5_0 l5_2 l5_3 l5_4 H hS_5 hA_5   j5_0 j5_1 j5_2 j5_3 j5_4 hm5
    have j5_q : PRI (shf ((w10)) ((u2_1))) ((a1)) ((a2)) ((x5_4)) ((x5_3)) := j5_4
    refine Ew_of (pcₚ := 7) (fun _ => x_iload rfl l5_4) ?_
    refine Ew_of (pcₚ := 8) (fun _ => x_iload_n rfl l5_2) ?_
    refine w_icmpge (t := 28) rfl rfl (show inr (x5_4) from j5_1) (show inr (a2) from h1) (fun b2 => ?_) (fun b2 => ?_)
    · refine Ew_of (pcₚ := 29) (fun _ => x_iload_n rfl l5_3) ?_
      have : xoI ((x5_3)) (-1) = POL (shf ((w10)) ((u2_1))) ((a1)) ((a2) - (a1)) := PRI_e j5_q (by omega)
      exact w_ireturn rfl (k (x5_3) σ _ _ H (SF_trans (SF_refl) hS_5 (any_sub rfl)) (SA_trans (SA_refl) hA_5 (any_subA rfl)) (show inr (x5_3) from j5_0) (show xoI ((x5_3)) (-1) = POL (shf ((w10)) ((u2_1))) (a1) (a2 - a1) by assumption))
    · refine Ew_of (pcₚ := 12) (fun _ => x_iload_n rfl l5_3) ?_
      refine Ew_of (pcₚ := 13) (fun _ => x_aload_n rfl l5_0) ?_
      refine Ew_of (pcₚ := 15) (fun _ => x_iload rfl l5_4) ?_
      refine w_inv H (o := 2) rfl rfl rfl (H.perm 2 rfl) rfl rfl (by rfl) (M305 H (u2_1) (((hS_5 2 1 rfl).trans (eu2_1))) (w10) ((funext (hA_5 10 rfl)).trans (ew10)) (show inr (x5_4) from j5_1) (show 0 ≤ (u2_1) + (x5_4) ∧ (u2_1) + (x5_4) < 262144 ∧ 0 ≤ (u2_1) ∧ (u2_1) ≤ 262144 from q_360 b2 h2 h3 j5_2) (fun z7 σ F3 A4 H hS5 hA6 pz7_0 pz7_1 pz7_2 => ⟨rfl, ?_⟩))
      have hat := pz7_2
      have har := pz7_1
      refine w_stat24 rfl rfl (by rfl) (M316 H (show inr (x5_3) from j5_0) (show inr (z7) from pz7_0) (show 0 ≤ (z7) ∧ (z7) ≤ 255 from pz7_1) (fun z12 σ F8 A9 H hS10 hA11 pz12_0 pz12_1 => ⟨rfl, ?_⟩))
      have hwb := pz12_1
      refine Ew_of (pcₚ := 22) (fun _ => x_istore_n rfl) ?_
      refine Ew_of (pcₚ := 25) (fun _ => x_iinc (len := 3) rfl (rk_o (l5_4) rfl rfl)) ?_
      refine Ew_of (pcₚ := 5) (fun _ => x_goto rfl rfl) ?_
      have : PRI (shf ((w10)) ((u2_1))) ((a1)) ((a2)) (((x5_4 + 1))) ((z12)) := PRI_s j5_q (by omega) (by rw [show shf _ _ _ = _ from hat.symm, u8_id har]; exact hwb) (by omega)
      exact ih5 _ (msE hm5 q_16 (q_17 b2)) _ σ _ _ (z12) ((x5_4 + 1)) (rk_o (rk_o (l5_0) rfl rfl) rfl rfl) (rk_o (rk_o (l5_2) rfl rfl) rfl rfl) (rk_o (rk_s) rfl rfl) (rk_s) H (SF_trans (SF_trans (hS_5) hS5 (any_sub rfl)) hS10 (any_sub rfl)) (SA_trans (SA_trans (hA_5) hA6 (any_subA rfl)) hA11 (any_subA rfl))   (show inr (z12) from pz12_0) (show inr ((x5_4 + 1)) from q_361 b2 h3 j5_1) (show (a1) ≤ ((x5_4 + 1)) from q_161 j5_2) (show ((x5_4 + 1)) ≤ (a1) ∨ ((x5_4 + 1)) ≤ ((a2)) from q_160 b2) (show PRI (shf ((w10)) ((u2_1))) ((a1)) ((a2)) (((x5_4 + 1))) ((z12)) by assumption) rfl

theorem M318 {σ0 σ : rS} {D N : Nat → Nat} {F : hF} {A : hA} {d c s : Nat} {Q : wQ} (H : HS σ0 σ D N F A) {a1 a2 : Int} (u2_1 : Int) (eu2_1 : F 2 1 = u2_1) (w10 : Int → Int) (ew10 : A 10 = w10) (h0 : inr (a1)) (h1 : inr (a2)) (h2 : 0 ≤ (u2_1) ∧ (u2_1) ≤ 196608) (h3 : 0 ≤ (a1) ∧ (a1) ≤ (a2) ∧ (a2) ≤ 65536) (k : ∀ (z : Int) σ Fₚ Aₚ, HS σ0 σ D N Fₚ Aₚ → SF [] F Fₚ → SA [] A Aₚ → (inr (z)) → ((z) = POL (shf ((w10)) ((u2_1))) ((a1)) ((a2) - (a1))) → Q (some (I z)) σ c s) : Ew 318 (d + 3) 0 (rargs 0 [.ref (D 2), I a1, I a2]) [] σ c s Q := by
  have r1 : (-2147483648 : Int) ≤ u2_1 ∧ u2_1 ≤ 2147483647 := rngE (show (-2147483648 : Int) ≤ F 2 1 ∧ F 2 1 ≤ 2147483647 from H.frng 2 1) (show F 2 1 = u2_1 from (eu2_1))
  refine Ew_of (pcₚ := 1) (fun _ => x_aload_n rfl rfl) ?_
  refine Ew_of (pcₚ := 2) (fun _ => x_iload_n rfl rfl) ?_
  refine Ew_of (pcₚ := 3) (fun _ => x_iload_n rfl rfl) ?_
  refine w_inv H (o := 2) rfl rfl rfl (H.perm 2 rfl) rfl rfl (by rfl) (M317 H (u2_1) ((eu2_1)) (w10) (ew10) (show inr (a1) from h0) (show inr (a2) from h1) (show 0 ≤ (u2_1) ∧ (u2_1) ≤ 196608 from h2) (show 0 ≤ (a1) ∧ (a1) ≤ (a2) ∧ (a2) ≤ 65536 from h3) (fun z6 σ F2 A3 H hS4 hA5 pz6_0 pz6_1 => ⟨rfl, ?_⟩))
  refine Ew_of (pcₚ := 7) (fun _ => x_iconst rfl) ?_
  refine w_ixorE rfl ?_
  have g7 : inr (xoI (z6) ((-1))) := toI_inr _
  have : ((xoI (z6) ((-1)))) = POL (shf ((w10)) ((u2_1))) ((a1)) ((a2) - (a1)) := pz6_1
  exact w_ireturn rfl (k ((xoI (z6) ((-1)))) σ _ _ H (SF_trans (SF_refl) hS4 (any_sub rfl)) (SA_trans (SA_refl) hA5 (any_subA rfl)) (show inr ((xoI (z6) ((-1)))) from g7) (pz6_1))

theorem M321 {σ0 σ : rS} {D N : Nat → Nat} {F : hF} {A : hA} {d c s : Nat} {Q : wQ} (H : HS σ0 σ D N F A) {a1 a2 : Int} (u4_2 : Int) (eu4_2 : F 4 2 = u4_2) (w23 : Int → Int) (ew23 : A 23 = w23) (h0 : inr (a1)) (h1 : inr (a2)) (h2 : 0 ≤ (a2) ∧ (a2) ≤ 4) (h3 : 0 ≤ (u4_2) ∧ (u4_2) ≤ 10000000) (k : ∀ σ Fₚ Aₚ, HS σ0 σ D N Fₚ Aₚ → SF [(4, 2)] F Fₚ → SA [23] A Aₚ → ∀ y4_2 : Int, Fₚ 4 2 = y4_2 → ∀ v23 : Int → Int, Aₚ 23 = v23 → ((y4_2) = (u4_2) + (a2)) → (QAP 70000 ((w23)) ((u4_2)) ((v23)) ((y4_2)) (nb ((a1)) ((a2)))) → (∀ i, i < (u4_2) ∨ (u4_2) + (a2) ≤ i → ((v23)) i = ((w23)) i) → Q none σ c s) : Ew 321 (d + 1) 0 (rargs 0 [.ref (D 4), I a1, I a2]) [] σ c s Q := by
  have r1 : (-2147483648 : Int) ≤ u4_2 ∧ u4_2 ≤ 2147483647 := rngE (show (-2147483648 : Int) ≤ F 4 2 ∧ F 4 2 ≤ 2147483647 from H.frng 4 2) (show F 4 2 = u4_2 from (eu4_2))
  refine Ew_of (pcₚ := 1) (fun _ => x_iconst rfl) ?_
  refine Ew_of (pcₚ := 2) (fun _ => x_istore_n rfl) ?_
  have : QAP 70000 ((w23)) ((u4_2)) ((w23)) ((u4_2)) (nb ((a1)) 0) := QAP_refl
  have : ∀ i, i < (u4_2) ∨ (u4_2) + (a2) ≤ i → ((w23)) i = ((w23)) i := fun i x => rfl
  suffices hl2 : ∀ (m : Nat), ∀ (ls : rO) (σ : rS) (F_2 : hF) (A_2 : hA) (x2_3 : Int), rlook ls 0 = some (.ref (D 4)) → rlook ls 1 = some (I (a1)) → rlook ls 2 = some (I (a2)) → rlook ls 3 = some (I (x2_3)) → HS σ0 σ D N F_2 A_2 → SF [(4, 2)] F F_2 → SA [23] A A_2 → ∀ y2_4_2 : Int, F_2 4 2 = y2_4_2 → ∀ w2_23 : Int → Int, A_2 23 = w2_23 → (inr (x2_3)) → ((0) ≤ (x2_3)) → ((x2_3) ≤ (0) ∨ (x2_3) ≤ ((a2))) → ((y2_4_2) = (u4_2) + (x2_3)) → (QAP 70000 ((w23)) ((u4_2)) ((w2_23)) ((y2_4_2)) (nb ((a1)) ((x2_3)))) → (∀ i, i < (u4_2) ∨ (u4_2) + (a2) ≤ i → ((w2_23)) i = ((w23)) i) → (((a2)) - (x2_3)).toNat = m → Ew 321 (d + 1) 2 ls [] σ c s Q from
    hl2 _ _ σ _ _ (0) (rk_o (rfl) rfl rfl) (rk_o (rfl) rfl rfl) (rk_o (rfl) rfl rfl) (rk_s) H (SF_refl) (SA_refl) (u4_2) ((eu4_2)) (w23) (ew23) (show inr (0) from q_2) (show (0) ≤ (0) from q_1) (show (0) ≤ (0) ∨ (0) ≤ ((a2)) from q_5) (show (u4_2) = (u4_2) + (0) from q_365) (show QAP 70000 ((w23)) ((u4_2)) ((w23)) ((u4_2)) (nb ((a1)) ((0))) by assumption) (show ∀ i, i < (u4_2) ∨ (u4_2) + (a2) ≤ i → ((w23)) i = ((w23)) i by assumption) rfl
  as_aux_lemma =>
  intro m
  induction m using Nat.strongRecOn with
  | _ m ih2 =>
    intro ls σ F_2 A_2 x2_3 l2_0 l2_1 l2_2 l2_3 H hS_2 hA_2 y2_4_2 ey2_4_2 w2_23 ew2_23 j2_0 j2_1 j2_2 j2_3 j2_4 j2_5 hm2
    have r2 : (-2147483648 : Int) ≤ y2_4_2 ∧ y2_4_2 ≤ 2147483647 := rngE (show (-2147483648 : Int) ≤ F_2 4 2 ∧ F_2 4 2 ≤ 2147483647 from H.frng 4 2) (show F_2 4 2 = y2_4_2 from (ey2_4_2))
    have j2_q : QAP 70000 ((w23)) ((u4_2)) ((w2_23)) ((y2_4_2)) (nb ((a1)) ((x2_3))) := j2_4
    have j2_o : ∀ i, i < (u4_2) ∨ (u4_2) + (a2) ≤ i → ((w2_23)) i = ((w23)) i := by assumption
    refine Ew_of (pcₚ := 3) (fun _ => x_iload_n rfl l2_3) ?_
    refine Ew_of (pcₚ := 4) (fun _ => x_iload_n rfl l2_2) ?_
    refine w_icmpge (t := 23) rfl rfl (show inr (x2_3) from j2_0) (show inr (a2) from h1) (fun b3 => ?_) (fun b3 => ?_)
    · have : QAP 70000 ((w23)) ((u4_2)) ((w2_23)) ((y2_4_2)) (nb ((a1)) ((a2))) := by rw [show (a2) = (x2_3) by omega]; exact j2_q
      exact w_ret rfl (k σ _ _ H (SF_trans (SF_refl) hS_2 (any_sub rfl)) (SA_trans (SA_refl) hA_2 (any_subA rfl)) (y2_4_2) ((ey2_4_2)) (w2_23) (ew2_23) (show (y2_4_2) = (u4_2) + a2 from q_366 b3 h2 j2_2 j2_3) (show QAP 70000 ((w23)) ((u4_2)) ((w2_23)) ((y2_4_2)) (nb (a1) (a2)) by assumption) (j2_o))
    · refine Ew_of (pcₚ := 8) (fun _ => x_aload_n rfl l2_0) ?_
      refine Ew_of (pcₚ := 9) (fun _ => x_iload_n rfl l2_1) ?_
      refine Ew_of (pcₚ := 11) (fun _ => x_bipush (z := 8) rfl (by decide)) ?_
      refine Ew_of (pcₚ := 12) (fun _ => x_iload_n rfl l2_3) ?_
      refine w_imul rfl ?_
      refine w_iushrE rfl ?_
      have g4 : inr (usI (a1) ((8 * x2_3))) := toI_inr _
      refine w_inv H (o := 4) rfl rfl rfl (H.perm 4 rfl) rfl rfl (by rfl) (M320 H (y2_4_2) ((ey2_4_2)) (w2_23) (ew2_23) (show inr ((usI (a1) ((8 * x2_3)))) from g4) (show 0 ≤ (y2_4_2) ∧ (y2_4_2) ≤ 100000000 from q_367 b3 h2 h3 j2_1 j2_3 r2) (fun σ F5 A6 H hS7 hA8 y10 ey11 wv12 ewv13 pz9_0 pz9_1 pz9_2 => ⟨rfl, ?_⟩))
      have r14 : (-2147483648 : Int) ≤ y10 ∧ y10 ≤ 2147483647 := rngE (show (-2147483648 : Int) ≤ F5 4 2 ∧ F5 4 2 ≤ 2147483647 from H.frng 4 2) (show F5 4 2 = y10 from (ey11))
      have : ∀ i, i < (u4_2) ∨ (u4_2) + (a2) ≤ i → ((wv12)) i = ((w23)) i := fun i x => (pz9_2 i (by omega)).trans (j2_o i x)
      have hmk := pz9_1
      rw [u8_usi (by omega)] at hmk
      have : QAP 70000 ((w23)) ((u4_2)) ((wv12)) ((y10)) (nb ((a1)) ((x2_3) + 1)) := by rw [nb_s (n := (x2_3)) (by omega) rfl]; exact QAP_trans j2_q hmk
      refine Ew_of (pcₚ := 20) (fun _ => x_iinc (len := 3) rfl (l2_3)) ?_
      refine Ew_of (pcₚ := 2) (fun _ => x_goto rfl rfl) ?_
      exact ih2 _ (msE hm2 q_16 (q_17 b3)) _ σ _ _ ((x2_3 + 1)) (rk_o (l2_0) rfl rfl) (rk_o (l2_1) rfl rfl) (rk_o (l2_2) rfl rfl) (rk_s) H (SF_trans (hS_2) hS7 (any_sub rfl)) (SA_trans (hA_2) hA8 (any_subA rfl)) (y10) ((ey11)) (wv12) (ewv13) (show inr ((x2_3 + 1)) from q_369 b3 h2 j2_1) (show (0) ≤ ((x2_3 + 1)) from q_14 j2_1) (show ((x2_3 + 1)) ≤ (0) ∨ ((x2_3 + 1)) ≤ ((a2)) from q_13 b3) (show (y10) = (u4_2) + ((x2_3 + 1)) from q_368 j2_3 pz9_0) (show QAP 70000 ((w23)) ((u4_2)) ((wv12)) ((y10)) (nb ((a1)) (((x2_3 + 1)))) by assumption) (show ∀ i, i < (u4_2) ∨ (u4_2) + (a2) ≤ i → ((wv12)) i = ((w23)) i by assumption) rfl

theorem M322 {σ0 σ : rS} {D N : Nat → Nat} {F : hF} {A : hA} {d c s : Nat} {Q : wQ} (H : HS σ0 σ D N F A)  (u4_2 : Int) (eu4_2 : F 4 2 = u4_2) (w23 : Int → Int) (ew23 : A 23 = w23) (h0 : 0 ≤ (u4_2) ∧ (u4_2) ≤ 65536) (k : ∀ (z : Int) σ Fₚ Aₚ, HS σ0 σ D N Fₚ Aₚ → SF [(1, 3)] F Fₚ → SA [15] A Aₚ → ∀ y1_3 : Int, Fₚ 1 3 = y1_3 → ∀ v15 : Int → Int, Aₚ 15 = v15 → (inr (z)) → ((z) = (u4_2) ∧ (y1_3) = (u4_2)) → (CPY ((w23)) ((v15)) (0) (0) ((u4_2))) → Q (some (I z)) σ c s) : Ew 322 (d + 0) 0 (rargs 0 [.ref (D 4)]) [] σ c s Q := by
  have r1 : (-2147483648 : Int) ≤ u4_2 ∧ u4_2 ≤ 2147483647 := rngE (show (-2147483648 : Int) ≤ F 4 2 ∧ F 4 2 ≤ 2147483647 from H.frng 4 2) (show F 4 2 = u4_2 from (eu4_2))
  refine Ew_of (pcₚ := 1) (fun _ => x_iconst rfl) ?_
  refine Ew_of (pcₚ := 2) (fun _ => x_istore_n rfl) ?_
  have : CPY ((w23)) ((A 15)) (0) (0) (0) := CPY_0
  suffices hl2 : ∀ (m : Nat), ∀ (ls : rO) (σ : rS) (F_2 : hF) (A_2 : hA) (x2_1 : Int), rlook ls 0 = some (.ref (D 4)) → rlook ls 1 = some (I (x2_1)) → HS σ0 σ D N F_2 A_2 → SF [] F F_2 → SA [15] A A_2 → ∀ w2_15 : Int → Int, A_2 15 = w2_15 → (inr (x2_1)) → ((0) ≤ (x2_1)) → ((x2_1) ≤ (0) ∨ (x2_1) ≤ ((u4_2))) → (CPY ((w23)) ((w2_15)) (0) (0) ((x2_1))) → (((u4_2)) - (x2_1)).toNat = m → Ew 322 (d + 0) 2 ls [] σ c s Q from
    hl2 _ _ σ _ _ (0) (rk_o (rfl) rfl rfl) (rk_s) H (SF_refl) (SA_refl)  (A 15) (rfl) (show inr (0) from q_2) (show (0) ≤ (0) from q_1) (show (0) ≤ (0) ∨ (0) ≤ ((u4_2)) from q_5) (show CPY ((w23)) ((A 15)) (0) (0) ((0)) by assumption) rfl
  as_aux_lemma =>
  intro m
  induction m using Nat.strongRecOn with
  | _ m ih2 =>
    intro ls σ F_2 A_2 x2_1 l2_0 l2_1 H hS_2 hA_2  w2_15 ew2_15 j2_0 j2_1 j2_2 j2_3 hm2
    have j2_c : CPY ((w23)) ((w2_15)) (0) (0) ((x2_1)) := j2_3
    refine Ew_of (pcₚ := 3) (fun _ => x_iload_n rfl l2_1) ?_
    refine Ew_of (pcₚ := 4) (fun _ => x_aload_n rfl l2_0) ?_
    refine w_gI H (o := 4) (w := u4_2) rfl (H.perm 4 rfl) rfl rfl rfl (fun _ => rfl) ((hS_2 4 2 rfl).trans (eu4_2)) ?_
    refine w_icmpge (t := 31) rfl rfl (show inr (x2_1) from j2_0) (show inr (u4_2) from q_286 h0) (fun b2 => ?_) (fun b2 => ?_)
    · refine Ew_of (pcₚ := 32) (fun _ => x_aload_n rfl l2_0) ?_
      refine w_gT H (o := 4) (t := 1) rfl (H.perm 4 rfl) rfl rfl rfl rfl rfl rfl ?_
      refine Ew_of (pcₚ := 36) (fun _ => x_aload_n rfl l2_0) ?_
      refine w_gI H (o := 4) (w := u4_2) rfl (H.perm 4 rfl) rfl rfl rfl (fun _ => rfl) ((hS_2 4 2 rfl).trans (eu4_2)) ?_
      refine w_pI H (o := 1) rfl rfl (H.perm 1 rfl) rfl rfl rfl (fun _ => rfl) rfl (show (0 : Int) ≤ u4_2 ∧ u4_2 ≤ 65536 from h0) (fun σ H => ?_)
      refine Ew_of (pcₚ := 43) (fun _ => x_aload_n rfl l2_0) ?_
      refine w_gT H (o := 4) (t := 1) rfl (H.perm 4 rfl) rfl rfl rfl rfl rfl rfl ?_
      refine w_gI H (o := 1) (w := u4_2) rfl (H.perm 1 rfl) rfl rfl rfl (fun _ => rfl) rfl ?_
      have : CPY ((w23)) ((w2_15)) (0) (0) ((u4_2)) := by rw [show (u4_2) = (x2_1) by omega]; exact j2_c
      exact w_ireturn rfl (k (u4_2) σ _ _ H (SF_upd (SF_trans (SF_refl) hS_2 (any_sub rfl)) rfl) (SA_trans (SA_refl) hA_2 (any_subA rfl)) (u4_2) (rfl) (w2_15) (ew2_15) (show inr (u4_2) from q_286 h0) (show (u4_2) = (u4_2) ∧ (u4_2) = (u4_2) from q_370) (show CPY ((w23)) ((w2_15)) (0) (0) ((u4_2)) by assumption))
    · refine Ew_of (pcₚ := 11) (fun _ => x_aload_n rfl l2_0) ?_
      refine w_gT H (o := 4) (t := 1) rfl (H.perm 4 rfl) rfl rfl rfl rfl rfl rfl ?_
      refine w_gT H (o := 1) (t := 15) rfl (H.perm 1 rfl) rfl rfl rfl rfl rfl rfl ?_
      refine Ew_of (pcₚ := 18) (fun _ => x_iload_n rfl l2_1) ?_
      refine Ew_of (pcₚ := 19) (fun _ => x_aload_n rfl l2_0) ?_
      refine w_gT H (o := 4) (t := 23) rfl (H.perm 4 rfl) rfl rfl rfl rfl rfl rfl ?_
      refine Ew_of (pcₚ := 23) (fun _ => x_iload_n rfl l2_1) ?_
      refine w_lI H (o := 23) (n := 70000) rfl (H.perm 23 rfl) rfl rfl (H.fix 23 rfl rfl) (show 0 ≤ x2_1 ∧ x2_1 < ((70000 : Nat) : Int) from q_371 b2 h0 j2_1) (by decide) (fun v3 ev3 qv3 => ?_)
      have qv3 : (0 : Int) ≤ v3 ∧ v3 ≤ 255 := qv3
      have ev3 : (w23) (x2_1) = v3 := (congrFun ((funext (hA_2 23 rfl)).trans (ew23)) (x2_1)).symm.trans ev3
      have hv := ev3
      refine w_sI H (o := 15) (n := 65536) rfl (H.perm 15 rfl) rfl rfl (H.fix 15 rfl rfl) (show 0 ≤ x2_1 ∧ x2_1 < ((65536 : Nat) : Int) from q_372 b2 h0 j2_1) (by decide) (show (0 : Int) ≤ v3 ∧ v3 ≤ 255 from qv3) (fun σ H => ?_)
      refine Ew_of (pcₚ := 28) (fun _ => x_iinc (len := 3) rfl (l2_1)) ?_
      refine Ew_of (pcₚ := 2) (fun _ => x_goto rfl rfl) ?_
      have : CPY ((w23)) ((upd1 (w2_15) (x2_1) (v3))) (0) (0) (((x2_1 + 1))) := CPY_s j2_c hv (by omega) (by omega) rfl
      exact ih2 _ (msE hm2 q_16 (q_17 b2)) _ σ _ _ ((x2_1 + 1)) (rk_o (l2_0) rfl rfl) (rk_s) H (hS_2) (SA_upd (hA_2) rfl)  (upd1 (w2_15) (x2_1) (v3)) (congrArg (fun q => upd1 q (x2_1) (v3)) (ew2_15)) (show inr ((x2_1 + 1)) from q_373 b2 h0 j2_1) (show (0) ≤ ((x2_1 + 1)) from q_14 j2_1) (show ((x2_1 + 1)) ≤ (0) ∨ ((x2_1 + 1)) ≤ ((u4_2)) from q_13 b2) (show CPY ((w23)) ((upd1 (w2_15) (x2_1) (v3))) (0) (0) (((x2_1 + 1))) by assumption) rfl

theorem M358_19 {σ0 σ : rS} {D N : Nat → Nat} {F : hF} {A : hA} {d c s : Nat} {Q : wQ} (H : HS σ0 σ D N F A) {a2 : Int} (w19 : Int → Int) (ew19 : A 19 = w19) (h0 : inr (a2)) (h1 : 0 ≤ (a2) ∧ (a2) + 3 < 70000) (k : ∀ (z : Int) σ Fₚ Aₚ, HS σ0 σ D N Fₚ Aₚ → SF [] F Fₚ → SA [] A Aₚ → (inrJ (z)) → ((z) = nvl ((w19)) ((a2)) 4) → Q (some (J z)) σ c s) : Ew 358 (d + 0) 0 (rargs 0 [.ref (D 19), I a2]) [] σ c s Q := by
  refine Ew_of (pcₚ := 1) (fun _ => x_aload_n rfl rfl) ?_
  refine Ew_of (pcₚ := 2) (fun _ => x_iload_n rfl rfl) ?_
  refine w_lI H (o := 19) (n := 70000) rfl (H.perm 19 rfl) rfl rfl (H.fix 19 rfl rfl) (show 0 ≤ a2 ∧ a2 < ((70000 : Nat) : Int) from q_374 h1) (by decide) (fun v1 ev1 qv1 => ?_)
  have qv1 : (0 : Int) ≤ v1 ∧ v1 ≤ 255 := qv1
  have ev1 : (w19) (a2) = v1 := (congrFun (ew19) (a2)).symm.trans ev1
  have hv0 := ev1
  refine w_i2l rfl (show inr (v1) from q_299 qv1) ?_
  refine Ew_of (pcₚ := 5) (fun _ => x_aload_n rfl rfl) ?_
  refine Ew_of (pcₚ := 6) (fun _ => x_iload_n rfl rfl) ?_
  refine Ew_of (pcₚ := 7) (fun _ => x_iconst rfl) ?_
  refine w_iadd rfl ?_
  refine w_lI H (o := 19) (n := 70000) rfl (H.perm 19 rfl) rfl rfl (H.fix 19 rfl rfl) (show 0 ≤ (a2 + 1) ∧ (a2 + 1) < ((70000 : Nat) : Int) from q_375 h1) (by decide) (fun v2 ev2 qv2 => ?_)
  have qv2 : (0 : Int) ≤ v2 ∧ v2 ≤ 255 := qv2
  have ev2 : (w19) ((a2 + 1)) = v2 := (congrFun (ew19) ((a2 + 1))).symm.trans ev2
  have hv1 := ev2
  refine w_i2l rfl (show inr (v2) from q_299 qv2) ?_
  refine Ew_of (pcₚ := 12) (fun _ => x_bipush (z := 8) rfl (by decide)) ?_
  refine w_lshlE rfl ?_
  have g3 : inrJ (shlJ (v2) (8)) := toJ_inr _
  refine w_lorE rfl ?_
  have g4 : inrJ (orJ (v1) ((shlJ (v2) (8)))) := toJ_inr _
  refine Ew_of (pcₚ := 15) (fun _ => x_aload_n rfl rfl) ?_
  refine Ew_of (pcₚ := 16) (fun _ => x_iload_n rfl rfl) ?_
  refine Ew_of (pcₚ := 17) (fun _ => x_iconst rfl) ?_
  refine w_iadd rfl ?_
  refine w_lI H (o := 19) (n := 70000) rfl (H.perm 19 rfl) rfl rfl (H.fix 19 rfl rfl) (show 0 ≤ (a2 + 2) ∧ (a2 + 2) < ((70000 : Nat) : Int) from q_376 h1) (by decide) (fun v5 ev5 qv5 => ?_)
  have qv5 : (0 : Int) ≤ v5 ∧ v5 ≤ 255 := qv5
  have ev5 : (w19) ((a2 + 2)) = v5 := (congrFun (ew19) ((a2 + 2))).symm.trans ev5
  have hv2 := ev5
  refine w_i2l rfl (show inr (v5) from q_299 qv5) ?_
  refine Ew_of (pcₚ := 22) (fun _ => x_bipush (z := 16) rfl (by decide)) ?_
  refine w_lshlE rfl ?_
  have g6 : inrJ (shlJ (v5) (16)) := toJ_inr _
  refine w_lorE rfl ?_
  have g7 : inrJ (orJ ((orJ (v1) ((shlJ (v2) (8))))) ((shlJ (v5) (16)))) := toJ_inr _
  refine Ew_of (pcₚ := 25) (fun _ => x_aload_n rfl rfl) ?_
  refine Ew_of (pcₚ := 26) (fun _ => x_iload_n rfl rfl) ?_
  refine Ew_of (pcₚ := 27) (fun _ => x_iconst rfl) ?_
  refine w_iadd rfl ?_
  refine w_lI H (o := 19) (n := 70000) rfl (H.perm 19 rfl) rfl rfl (H.fix 19 rfl rfl) (show 0 ≤ (a2 + 3) ∧ (a2 + 3) < ((70000 : Nat) : Int) from q_377 h1) (by decide) (fun v8 ev8 qv8 => ?_)
  have qv8 : (0 : Int) ≤ v8 ∧ v8 ≤ 255 := qv8
  have ev8 : (w19) ((a2 + 3)) = v8 := (congrFun (ew19) ((a2 + 3))).symm.trans ev8
  have hv3 := ev8
  refine w_i2l rfl (show inr (v8) from q_299 qv8) ?_
  refine Ew_of (pcₚ := 32) (fun _ => x_bipush (z := 24) rfl (by decide)) ?_
  refine w_lshlE rfl ?_
  have g9 : inrJ (shlJ (v8) (24)) := toJ_inr _
  refine w_lorE rfl ?_
  have g10 : inrJ (orJ ((orJ ((orJ (v1) ((shlJ (v2) (8))))) ((shlJ (v5) (16))))) ((shlJ (v8) (24)))) := toJ_inr _
  have : ((orJ ((orJ ((orJ (v1) ((shlJ (v2) (8))))) ((shlJ (v5) (16))))) ((shlJ (v8) (24))))) = nvl ((w19)) ((a2)) 4 := wd_l hv0 hv1 hv2 hv3 (by omega) (by omega) (by omega) (by omega)
  exact w_lreturn rfl (k ((orJ ((orJ ((orJ (v1) ((shlJ (v2) (8))))) ((shlJ (v5) (16))))) ((shlJ (v8) (24))))) σ _ _ H (SF_refl) (SA_refl) (show inrJ ((orJ ((orJ ((orJ (v1) ((shlJ (v2) (8))))) ((shlJ (v5) (16))))) ((shlJ (v8) (24))))) from g10) (show ((orJ ((orJ ((orJ (v1) ((shlJ (v2) (8))))) ((shlJ (v5) (16))))) ((shlJ (v8) (24))))) = nvl ((w19)) (a2) 4 by assumption))

theorem M358_20 {σ0 σ : rS} {D N : Nat → Nat} {F : hF} {A : hA} {d c s : Nat} {Q : wQ} (H : HS σ0 σ D N F A) {a2 : Int} (w20 : Int → Int) (ew20 : A 20 = w20) (h0 : inr (a2)) (h1 : 0 ≤ (a2) ∧ (a2) + 3 < 70000) (k : ∀ (z : Int) σ Fₚ Aₚ, HS σ0 σ D N Fₚ Aₚ → SF [] F Fₚ → SA [] A Aₚ → (inrJ (z)) → ((z) = nvl ((w20)) ((a2)) 4) → Q (some (J z)) σ c s) : Ew 358 (d + 0) 0 (rargs 0 [.ref (D 20), I a2]) [] σ c s Q := by
  refine Ew_of (pcₚ := 1) (fun _ => x_aload_n rfl rfl) ?_
  refine Ew_of (pcₚ := 2) (fun _ => x_iload_n rfl rfl) ?_
  refine w_lI H (o := 20) (n := 70000) rfl (H.perm 20 rfl) rfl rfl (H.fix 20 rfl rfl) (show 0 ≤ a2 ∧ a2 < ((70000 : Nat) : Int) from q_374 h1) (by decide) (fun v1 ev1 qv1 => ?_)
  have qv1 : (0 : Int) ≤ v1 ∧ v1 ≤ 255 := qv1
  have ev1 : (w20) (a2) = v1 := (congrFun (ew20) (a2)).symm.trans ev1
  have hv0 := ev1
  refine w_i2l rfl (show inr (v1) from q_299 qv1) ?_
  refine Ew_of (pcₚ := 5) (fun _ => x_aload_n rfl rfl) ?_
  refine Ew_of (pcₚ := 6) (fun _ => x_iload_n rfl rfl) ?_
  refine Ew_of (pcₚ := 7) (fun _ => x_iconst rfl) ?_
  refine w_iadd rfl ?_
  refine w_lI H (o := 20) (n := 70000) rfl (H.perm 20 rfl) rfl rfl (H.fix 20 rfl rfl) (show 0 ≤ (a2 + 1) ∧ (a2 + 1) < ((70000 : Nat) : Int) from q_375 h1) (by decide) (fun v2 ev2 qv2 => ?_)
  have qv2 : (0 : Int) ≤ v2 ∧ v2 ≤ 255 := qv2
  have ev2 : (w20) ((a2 + 1)) = v2 := (congrFun (ew20) ((a2 + 1))).symm.trans ev2
  have hv1 := ev2
  refine w_i2l rfl (show inr (v2) from q_299 qv2) ?_
  refine Ew_of (pcₚ := 12) (fun _ => x_bipush (z := 8) rfl (by decide)) ?_
  refine w_lshlE rfl ?_
  have g3 : inrJ (shlJ (v2) (8)) := toJ_inr _
  refine w_lorE rfl ?_
  have g4 : inrJ (orJ (v1) ((shlJ (v2) (8)))) := toJ_inr _
  refine Ew_of (pcₚ := 15) (fun _ => x_aload_n rfl rfl) ?_
  refine Ew_of (pcₚ := 16) (fun _ => x_iload_n rfl rfl) ?_
  refine Ew_of (pcₚ := 17) (fun _ => x_iconst rfl) ?_
  refine w_iadd rfl ?_
  refine w_lI H (o := 20) (n := 70000) rfl (H.perm 20 rfl) rfl rfl (H.fix 20 rfl rfl) (show 0 ≤ (a2 + 2) ∧ (a2 + 2) < ((70000 : Nat) : Int) from q_376 h1) (by decide) (fun v5 ev5 qv5 => ?_)
  have qv5 : (0 : Int) ≤ v5 ∧ v5 ≤ 255 := qv5
  have ev5 : (w20) ((a2 + 2)) = v5 := (congrFun (ew20) ((a2 + 2))).symm.trans ev5
  have hv2 := ev5
  refine w_i2l rfl (show inr (v5) from q_299 qv5) ?_
  refine Ew_of (pcₚ := 22) (fun _ => x_bipush (z := 16) rfl (by decide)) ?_
  refine w_lshlE rfl ?_
  have g6 : inrJ (shlJ (v5) (16)) := toJ_inr _
  refine w_lorE rfl ?_
  have g7 : inrJ (orJ ((orJ (v1) ((shlJ (v2) (8))))) ((shlJ (v5) (16)))) := toJ_inr _
  refine Ew_of (pcₚ := 25) (fun _ => x_aload_n rfl rfl) ?_
  refine Ew_of (pcₚ := 26) (fun _ => x_iload_n rfl rfl) ?_
  refine Ew_of (pcₚ := 27) (fun _ => x_iconst rfl) ?_
  refine w_iadd rfl ?_
  refine w_lI H (o := 20) (n := 70000) rfl (H.perm 20 rfl) rfl rfl (H.fix 20 rfl rfl) (show 0 ≤ (a2 + 3) ∧ (a2 + 3) < ((70000 : Nat) : Int) from q_377 h1) (by decide) (fun v8 ev8 qv8 => ?_)
  have qv8 : (0 : Int) ≤ v8 ∧ v8 ≤ 255 := qv8
  have ev8 : (w20) ((a2 + 3)) = v8 := (congrFun (ew20) ((a2 + 3))).symm.trans ev8
  have hv3 := ev8
  refine w_i2l rfl (show inr (v8) from q_299 qv8) ?_
  refine Ew_of (pcₚ := 32) (fun _ => x_bipush (z := 24) rfl (by decide)) ?_
  refine w_lshlE rfl ?_
  have g9 : inrJ (shlJ (v8) (24)) := toJ_inr _
  refine w_lorE rfl ?_
  have g10 : inrJ (orJ ((orJ ((orJ (v1) ((shlJ (v2) (8))))) ((shlJ (v5) (16))))) ((shlJ (v8) (24)))) := toJ_inr _
  have : ((orJ ((orJ ((orJ (v1) ((shlJ (v2) (8))))) ((shlJ (v5) (16))))) ((shlJ (v8) (24))))) = nvl ((w20)) ((a2)) 4 := wd_l hv0 hv1 hv2 hv3 (by omega) (by omega) (by omega) (by omega)
  exact w_lreturn rfl (k ((orJ ((orJ ((orJ (v1) ((shlJ (v2) (8))))) ((shlJ (v5) (16))))) ((shlJ (v8) (24))))) σ _ _ H (SF_refl) (SA_refl) (show inrJ ((orJ ((orJ ((orJ (v1) ((shlJ (v2) (8))))) ((shlJ (v5) (16))))) ((shlJ (v8) (24))))) from g10) (show ((orJ ((orJ ((orJ (v1) ((shlJ (v2) (8))))) ((shlJ (v5) (16))))) ((shlJ (v8) (24))))) = nvl ((w20)) (a2) 4 by assumption))

theorem M358_14 {σ0 σ : rS} {D N : Nat → Nat} {F : hF} {A : hA} {d c s : Nat} {Q : wQ} (H : HS σ0 σ D N F A) {a2 : Int} (w14 : Int → Int) (ew14 : A 14 = w14) (h0 : inr (a2)) (h1 : 0 ≤ (a2) ∧ (a2) + 3 < 65536) (k : ∀ (z : Int) σ Fₚ Aₚ, HS σ0 σ D N Fₚ Aₚ → SF [] F Fₚ → SA [] A Aₚ → (inrJ (z)) → ((z) = nvl ((w14)) ((a2)) 4) → Q (some (J z)) σ c s) : Ew 358 (d + 0) 0 (rargs 0 [.ref (D 14), I a2]) [] σ c s Q := by
  refine Ew_of (pcₚ := 1) (fun _ => x_aload_n rfl rfl) ?_
  refine Ew_of (pcₚ := 2) (fun _ => x_iload_n rfl rfl) ?_
  refine w_lI H (o := 14) (n := 65536) rfl (H.perm 14 rfl) rfl rfl (H.fix 14 rfl rfl) (show 0 ≤ a2 ∧ a2 < ((65536 : Nat) : Int) from q_378 h1) (by decide) (fun v1 ev1 qv1 => ?_)
  have qv1 : (0 : Int) ≤ v1 ∧ v1 ≤ 255 := qv1
  have ev1 : (w14) (a2) = v1 := (congrFun (ew14) (a2)).symm.trans ev1
  have hv0 := ev1
  refine w_i2l rfl (show inr (v1) from q_299 qv1) ?_
  refine Ew_of (pcₚ := 5) (fun _ => x_aload_n rfl rfl) ?_
  refine Ew_of (pcₚ := 6) (fun _ => x_iload_n rfl rfl) ?_
  refine Ew_of (pcₚ := 7) (fun _ => x_iconst rfl) ?_
  refine w_iadd rfl ?_
  refine w_lI H (o := 14) (n := 65536) rfl (H.perm 14 rfl) rfl rfl (H.fix 14 rfl rfl) (show 0 ≤ (a2 + 1) ∧ (a2 + 1) < ((65536 : Nat) : Int) from q_379 h1) (by decide) (fun v2 ev2 qv2 => ?_)
  have qv2 : (0 : Int) ≤ v2 ∧ v2 ≤ 255 := qv2
  have ev2 : (w14) ((a2 + 1)) = v2 := (congrFun (ew14) ((a2 + 1))).symm.trans ev2
  have hv1 := ev2
  refine w_i2l rfl (show inr (v2) from q_299 qv2) ?_
  refine Ew_of (pcₚ := 12) (fun _ => x_bipush (z := 8) rfl (by decide)) ?_
  refine w_lshlE rfl ?_
  have g3 : inrJ (shlJ (v2) (8)) := toJ_inr _
  refine w_lorE rfl ?_
  have g4 : inrJ (orJ (v1) ((shlJ (v2) (8)))) := toJ_inr _
  refine Ew_of (pcₚ := 15) (fun _ => x_aload_n rfl rfl) ?_
  refine Ew_of (pcₚ := 16) (fun _ => x_iload_n rfl rfl) ?_
  refine Ew_of (pcₚ := 17) (fun _ => x_iconst rfl) ?_
  refine w_iadd rfl ?_
  refine w_lI H (o := 14) (n := 65536) rfl (H.perm 14 rfl) rfl rfl (H.fix 14 rfl rfl) (show 0 ≤ (a2 + 2) ∧ (a2 + 2) < ((65536 : Nat) : Int) from q_380 h1) (by decide) (fun v5 ev5 qv5 => ?_)
  have qv5 : (0 : Int) ≤ v5 ∧ v5 ≤ 255 := qv5
  have ev5 : (w14) ((a2 + 2)) = v5 := (congrFun (ew14) ((a2 + 2))).symm.trans ev5
  have hv2 := ev5
  refine w_i2l rfl (show inr (v5) from q_299 qv5) ?_
  refine Ew_of (pcₚ := 22) (fun _ => x_bipush (z := 16) rfl (by decide)) ?_
  refine w_lshlE rfl ?_
  have g6 : inrJ (shlJ (v5) (16)) := toJ_inr _
  refine w_lorE rfl ?_
  have g7 : inrJ (orJ ((orJ (v1) ((shlJ (v2) (8))))) ((shlJ (v5) (16)))) := toJ_inr _
  refine Ew_of (pcₚ := 25) (fun _ => x_aload_n rfl rfl) ?_
  refine Ew_of (pcₚ := 26) (fun _ => x_iload_n rfl rfl) ?_
  refine Ew_of (pcₚ := 27) (fun _ => x_iconst rfl) ?_
  refine w_iadd rfl ?_
  refine w_lI H (o := 14) (n := 65536) rfl (H.perm 14 rfl) rfl rfl (H.fix 14 rfl rfl) (show 0 ≤ (a2 + 3) ∧ (a2 + 3) < ((65536 : Nat) : Int) from q_381 h1) (by decide) (fun v8 ev8 qv8 => ?_)
  have qv8 : (0 : Int) ≤ v8 ∧ v8 ≤ 255 := qv8
  have ev8 : (w14) ((a2 + 3)) = v8 := (congrFun (ew14) ((a2 + 3))).symm.trans ev8
  have hv3 := ev8
  refine w_i2l rfl (show inr (v8) from q_299 qv8) ?_
  refine Ew_of (pcₚ := 32) (fun _ => x_bipush (z := 24) rfl (by decide)) ?_
  refine w_lshlE rfl ?_
  have g9 : inrJ (shlJ (v8) (24)) := toJ_inr _
  refine w_lorE rfl ?_
  have g10 : inrJ (orJ ((orJ ((orJ (v1) ((shlJ (v2) (8))))) ((shlJ (v5) (16))))) ((shlJ (v8) (24)))) := toJ_inr _
  have : ((orJ ((orJ ((orJ (v1) ((shlJ (v2) (8))))) ((shlJ (v5) (16))))) ((shlJ (v8) (24))))) = nvl ((w14)) ((a2)) 4 := wd_l hv0 hv1 hv2 hv3 (by omega) (by omega) (by omega) (by omega)
  exact w_lreturn rfl (k ((orJ ((orJ ((orJ (v1) ((shlJ (v2) (8))))) ((shlJ (v5) (16))))) ((shlJ (v8) (24))))) σ _ _ H (SF_refl) (SA_refl) (show inrJ ((orJ ((orJ ((orJ (v1) ((shlJ (v2) (8))))) ((shlJ (v5) (16))))) ((shlJ (v8) (24))))) from g10) (show ((orJ ((orJ ((orJ (v1) ((shlJ (v2) (8))))) ((shlJ (v5) (16))))) ((shlJ (v8) (24))))) = nvl ((w14)) (a2) 4 by assumption))

theorem M358_22 {σ0 σ : rS} {D N : Nat → Nat} {F : hF} {A : hA} {d c s : Nat} {Q : wQ} (H : HS σ0 σ D N F A) {a2 : Int} (w22 : Int → Int) (ew22 : A 22 = w22) (h0 : inr (a2)) (h1 : 0 ≤ (a2) ∧ (a2) + 3 < 65536) (k : ∀ (z : Int) σ Fₚ Aₚ, HS σ0 σ D N Fₚ Aₚ → SF [] F Fₚ → SA [] A Aₚ → (inrJ (z)) → ((z) = nvl ((w22)) ((a2)) 4) → Q (some (J z)) σ c s) : Ew 358 (d + 0) 0 (rargs 0 [.ref (D 22), I a2]) [] σ c s Q := by
  refine Ew_of (pcₚ := 1) (fun _ => x_aload_n rfl rfl) ?_
  refine Ew_of (pcₚ := 2) (fun _ => x_iload_n rfl rfl) ?_
  refine w_lI H (o := 22) (n := 65536) rfl (H.perm 22 rfl) rfl rfl (H.fix 22 rfl rfl) (show 0 ≤ a2 ∧ a2 < ((65536 : Nat) : Int) from q_378 h1) (by decide) (fun v1 ev1 qv1 => ?_)
  have qv1 : (0 : Int) ≤ v1 ∧ v1 ≤ 255 := qv1
  have ev1 : (w22) (a2) = v1 := (congrFun (ew22) (a2)).symm.trans ev1
  have hv0 := ev1
  refine w_i2l rfl (show inr (v1) from q_299 qv1) ?_
  refine Ew_of (pcₚ := 5) (fun _ => x_aload_n rfl rfl) ?_
  refine Ew_of (pcₚ := 6) (fun _ => x_iload_n rfl rfl) ?_
  refine Ew_of (pcₚ := 7) (fun _ => x_iconst rfl) ?_
  refine w_iadd rfl ?_
  refine w_lI H (o := 22) (n := 65536) rfl (H.perm 22 rfl) rfl rfl (H.fix 22 rfl rfl) (show 0 ≤ (a2 + 1) ∧ (a2 + 1) < ((65536 : Nat) : Int) from q_379 h1) (by decide) (fun v2 ev2 qv2 => ?_)
  have qv2 : (0 : Int) ≤ v2 ∧ v2 ≤ 255 := qv2
  have ev2 : (w22) ((a2 + 1)) = v2 := (congrFun (ew22) ((a2 + 1))).symm.trans ev2
  have hv1 := ev2
  refine w_i2l rfl (show inr (v2) from q_299 qv2) ?_
  refine Ew_of (pcₚ := 12) (fun _ => x_bipush (z := 8) rfl (by decide)) ?_
  refine w_lshlE rfl ?_
  have g3 : inrJ (shlJ (v2) (8)) := toJ_inr _
  refine w_lorE rfl ?_
  have g4 : inrJ (orJ (v1) ((shlJ (v2) (8)))) := toJ_inr _
  refine Ew_of (pcₚ := 15) (fun _ => x_aload_n rfl rfl) ?_
  refine Ew_of (pcₚ := 16) (fun _ => x_iload_n rfl rfl) ?_
  refine Ew_of (pcₚ := 17) (fun _ => x_iconst rfl) ?_
  refine w_iadd rfl ?_
  refine w_lI H (o := 22) (n := 65536) rfl (H.perm 22 rfl) rfl rfl (H.fix 22 rfl rfl) (show 0 ≤ (a2 + 2) ∧ (a2 + 2) < ((65536 : Nat) : Int) from q_380 h1) (by decide) (fun v5 ev5 qv5 => ?_)
  have qv5 : (0 : Int) ≤ v5 ∧ v5 ≤ 255 := qv5
  have ev5 : (w22) ((a2 + 2)) = v5 := (congrFun (ew22) ((a2 + 2))).symm.trans ev5
  have hv2 := ev5
  refine w_i2l rfl (show inr (v5) from q_299 qv5) ?_
  refine Ew_of (pcₚ := 22) (fun _ => x_bipush (z := 16) rfl (by decide)) ?_
  refine w_lshlE rfl ?_
  have g6 : inrJ (shlJ (v5) (16)) := toJ_inr _
  refine w_lorE rfl ?_
  have g7 : inrJ (orJ ((orJ (v1) ((shlJ (v2) (8))))) ((shlJ (v5) (16)))) := toJ_inr _
  refine Ew_of (pcₚ := 25) (fun _ => x_aload_n rfl rfl) ?_
  refine Ew_of (pcₚ := 26) (fun _ => x_iload_n rfl rfl) ?_
  refine Ew_of (pcₚ := 27) (fun _ => x_iconst rfl) ?_
  refine w_iadd rfl ?_
  refine w_lI H (o := 22) (n := 65536) rfl (H.perm 22 rfl) rfl rfl (H.fix 22 rfl rfl) (show 0 ≤ (a2 + 3) ∧ (a2 + 3) < ((65536 : Nat) : Int) from q_381 h1) (by decide) (fun v8 ev8 qv8 => ?_)
  have qv8 : (0 : Int) ≤ v8 ∧ v8 ≤ 255 := qv8
  have ev8 : (w22) ((a2 + 3)) = v8 := (congrFun (ew22) ((a2 + 3))).symm.trans ev8
  have hv3 := ev8
  refine w_i2l rfl (show inr (v8) from q_299 qv8) ?_
  refine Ew_of (pcₚ := 32) (fun _ => x_bipush (z := 24) rfl (by decide)) ?_
  refine w_lshlE rfl ?_
  have g9 : inrJ (shlJ (v8) (24)) := toJ_inr _
  refine w_lorE rfl ?_
  have g10 : inrJ (orJ ((orJ ((orJ (v1) ((shlJ (v2) (8))))) ((shlJ (v5) (16))))) ((shlJ (v8) (24)))) := toJ_inr _
  have : ((orJ ((orJ ((orJ (v1) ((shlJ (v2) (8))))) ((shlJ (v5) (16))))) ((shlJ (v8) (24))))) = nvl ((w22)) ((a2)) 4 := wd_l hv0 hv1 hv2 hv3 (by omega) (by omega) (by omega) (by omega)
  exact w_lreturn rfl (k ((orJ ((orJ ((orJ (v1) ((shlJ (v2) (8))))) ((shlJ (v5) (16))))) ((shlJ (v8) (24))))) σ _ _ H (SF_refl) (SA_refl) (show inrJ ((orJ ((orJ ((orJ (v1) ((shlJ (v2) (8))))) ((shlJ (v5) (16))))) ((shlJ (v8) (24))))) from g10) (show ((orJ ((orJ ((orJ (v1) ((shlJ (v2) (8))))) ((shlJ (v5) (16))))) ((shlJ (v8) (24))))) = nvl ((w22)) (a2) 4 by assumption))

theorem M364 {σ0 σ : rS} {D N : Nat → Nat} {F : hF} {A : hA} {d c s : Nat} {Q : wQ} (H : HS σ0 σ D N F A) {a1 : Int} (u3_10 : Int) (eu3_10 : F 3 10 = u3_10) (w20 : Int → Int) (ew20 : A 20 = w20) (h0 : inr (a1)) (h1 : -10 ≤ (a1) ∧ (a1) ≤ 100000) (h2 : 0 ≤ (u3_10) ∧ (u3_10) ≤ 10000000) (k : ∀ σ Fₚ Aₚ, HS σ0 σ D N Fₚ Aₚ → SF [(3, 10)] F Fₚ → SA [20] A Aₚ → ∀ y3_10 : Int, Fₚ 3 10 = y3_10 → ∀ v20 : Int → Int, Aₚ 20 = v20 → ((y3_10) * 255 ≤ (u3_10) * 255 + 255 + (a1) + 10 ∧ (u3_10) ≤ (y3_10)) → (QAP 70000 ((w20)) ((u3_10)) ((v20)) ((y3_10)) (exr ((a1) - 15))) → Q none σ c s) : Ew 364 (d + 1) 0 (rargs 0 [.ref (D 3), I a1]) [] σ c s Q := by
  have r1 : (-2147483648 : Int) ≤ u3_10 ∧ u3_10 ≤ 2147483647 := rngE (show (-2147483648 : Int) ≤ F 3 10 ∧ F 3 10 ≤ 2147483647 from H.frng 3 10) (show F 3 10 = u3_10 from (eu3_10))
  refine Ew_of (pcₚ := 1) (fun _ => x_iload_n rfl rfl) ?_
  refine Ew_of (pcₚ := 3) (fun _ => x_bipush (z := 15) rfl (by decide)) ?_
  refine w_isub rfl ?_
  refine Ew_of (pcₚ := 5) (fun _ => x_istore_n rfl) ?_
  have : QTO 70000 ((w20)) ((u3_10)) ((w20)) ((u3_10)) (exr ((a1) - 15)) (exr ((a1) - 15)) := QTO_0
  suffices hl5 : ∀ (m : Nat), ∀ (ls : rO) (σ : rS) (F_5 : hF) (A_5 : hA) (x5_2 : Int), rlook ls 0 = some (.ref (D 3)) → rlook ls 2 = some (I (x5_2)) → HS σ0 σ D N F_5 A_5 → SF [(3, 10)] F F_5 → SA [20] A A_5 → ∀ y5_3_10 : Int, F_5 3 10 = y5_3_10 → ∀ w5_20 : Int → Int, A_5 20 = w5_20 → (inr (x5_2)) → ((x5_2) ≤ (a1) - 15) → ((y5_3_10) * 255 = (u3_10) * 255 + ((a1) - 15 - (x5_2))) → ((x5_2) ≥ 0 ∨ (y5_3_10) = (u3_10)) → ((x5_2) ≥ -25) → (QTO 70000 ((w20)) ((u3_10)) ((w5_20)) ((y5_3_10)) (exr ((a1) - 15)) (exr ((x5_2)))) → ((x5_2) + 1000).toNat = m → Ew 364 (d + 1) 5 ls [] σ c s Q from
    hl5 _ _ σ _ _ ((a1 - 15)) (rk_o (rfl) rfl rfl) (rk_s) H (SF_refl) (SA_refl) (u3_10) ((eu3_10)) (w20) (ew20) (show inr ((a1 - 15)) from q_386 h1) (show ((a1 - 15)) ≤ (a1) - 15 from q_385) (show (u3_10) * 255 = (u3_10) * 255 + ((a1) - 15 - ((a1 - 15))) from q_384) (show ((a1 - 15)) ≥ 0 ∨ (u3_10) = (u3_10) from q_383) (show ((a1 - 15)) ≥ -25 from q_382 h1) (show QTO 70000 ((w20)) ((u3_10)) ((w20)) ((u3_10)) (exr ((a1) - 15)) (exr (((a1 - 15)))) by assumption) rfl
  as_aux_lemma =>
  intro m
  induction m using Nat.strongRecOn with
  | _ m ih5 =>
    intro ls σ F_5 A_5 x5_2 l5_0 l5_2 H hS_5 hA_5 y5_3_10 ey5_3_10 w5_20 ew5_20 j5_0 j5_1 j5_2 j5_3 j5_4 j5_5 hm5
    have r2 : (-2147483648 : Int) ≤ y5_3_10 ∧ y5_3_10 ≤ 2147483647 := rngE (show (-2147483648 : Int) ≤ F_5 3 10 ∧ F_5 3 10 ≤ 2147483647 from H.frng 3 10) (show F_5 3 10 = y5_3_10 from (ey5_3_10))
    have j5_q : QTO 70000 ((w20)) ((u3_10)) ((w5_20)) ((y5_3_10)) (exr ((a1) - 15)) (exr ((x5_2))) := j5_5
    refine Ew_of (pcₚ := 6) (fun _ => x_iload_n rfl l5_2) ?_
    refine Ew_of (pcₚ := 9) (fun _ => x_sipush (z := 255) rfl (by decide)) ?_
    refine w_icmplt (t := 28) rfl rfl (show inr (x5_2) from j5_0) (show inr (255) from q_297) (fun b3 => ?_) (fun b3 => ?_)
    · refine Ew_of (pcₚ := 29) (fun _ => x_iload_n rfl l5_2) ?_
      refine w_iflt (t := 37) rfl rfl (show inr (x5_2) from j5_0) (fun b4 => ?_) (fun b4 => ?_)
      · have : QAP 70000 ((w20)) ((u3_10)) ((w5_20)) ((y5_3_10)) (exr ((a1) - 15)) := by first | exact QTO_e j5_q (by rw [exr_l (by omega) (by omega)]; exact pzMISS_1) | (rw [exr_n (r := (x5_2)) (by omega)] at j5_q; exact QTO_z j5_q)
        exact w_ret rfl (k σ _ _ H (SF_trans (SF_refl) hS_5 (any_sub rfl)) (SA_trans (SA_refl) hA_5 (any_subA rfl)) (y5_3_10) ((ey5_3_10)) (w5_20) (ew5_20) (show (y5_3_10) * 255 ≤ (u3_10) * 255 + 255 + a1 + 10 ∧ (u3_10) ≤ (y5_3_10) from q_387 j5_1 j5_2 j5_4) (show QAP 70000 ((w20)) ((u3_10)) ((w5_20)) ((y5_3_10)) (exr (a1 - 15)) by assumption))
      · refine Ew_of (pcₚ := 33) (fun _ => x_aload_n rfl l5_0) ?_
        refine Ew_of (pcₚ := 34) (fun _ => x_iload_n rfl l5_2) ?_
        refine w_inv H (o := 3) rfl rfl rfl (H.perm 3 rfl) rfl rfl (by rfl) (M363 H (y5_3_10) ((ey5_3_10)) (w5_20) (ew5_20) (show inr (x5_2) from j5_0) (show 0 ≤ (x5_2) ∧ (x5_2) ≤ 255 from q_388 b3 b4) (show 0 ≤ (y5_3_10) ∧ (y5_3_10) ≤ 100000000 by omega) (fun σ F5 A6 H hS7 hA8 y10 ey11 wv12 ewv13 pz9_0 pz9_1 => ⟨rfl, ?_⟩))
        have r14 : (-2147483648 : Int) ≤ y10 ∧ y10 ≤ 2147483647 := rngE (show (-2147483648 : Int) ≤ F5 3 10 ∧ F5 3 10 ≤ 2147483647 from H.frng 3 10) (show F5 3 10 = y10 from (ey11))
        have : QAP 70000 ((w20)) ((u3_10)) ((wv12)) ((y10)) (exr ((a1) - 15)) := by first | exact QTO_e j5_q (by rw [exr_l (by omega) (by omega)]; exact pz9_1) | (rw [exr_n (r := (x5_2)) (by omega)] at j5_q; exact QTO_z j5_q)
        exact w_ret rfl (k σ _ _ H (SF_trans (SF_trans (SF_refl) hS_5 (any_sub rfl)) hS7 (any_sub rfl)) (SA_trans (SA_trans (SA_refl) hA_5 (any_subA rfl)) hA8 (any_subA rfl)) (y10) ((ey11)) (wv12) (ewv13) (show (y10) * 255 ≤ (u3_10) * 255 + 255 + a1 + 10 ∧ (u3_10) ≤ (y10) from q_389 b4 j5_1 j5_2 pz9_0) (show QAP 70000 ((w20)) ((u3_10)) ((wv12)) ((y10)) (exr (a1 - 15)) by assumption))
    · refine Ew_of (pcₚ := 13) (fun _ => x_aload_n rfl l5_0) ?_
      refine Ew_of (pcₚ := 16) (fun _ => x_sipush (z := 255) rfl (by decide)) ?_
      refine w_inv H (o := 3) rfl rfl rfl (H.perm 3 rfl) rfl rfl (by rfl) (M363 H (y5_3_10) ((ey5_3_10)) (w5_20) (ew5_20) (show inr (255) from q_297) (show 0 ≤ (255) ∧ (255) ≤ 255 from q_390) (show 0 ≤ (y5_3_10) ∧ (y5_3_10) ≤ 100000000 by omega) (fun σ F15 A16 H hS17 hA18 y20 ey21 wv22 ewv23 pz19_0 pz19_1 => ⟨rfl, ?_⟩))
      have r24 : (-2147483648 : Int) ≤ y20 ∧ y20 ≤ 2147483647 := rngE (show (-2147483648 : Int) ≤ F15 3 10 ∧ F15 3 10 ≤ 2147483647 from H.frng 3 10) (show F15 3 10 = y20 from (ey21))
      have hs := pz19_1
      refine Ew_of (pcₚ := 25) (fun _ => x_iinc (len := 6) rfl (l5_2)) ?_
      refine Ew_of (pcₚ := 5) (fun _ => x_goto rfl rfl) ?_
      have : QTO 70000 ((w20)) ((u3_10)) ((wv22)) ((y20)) (exr ((a1) - 15)) (exr (((x5_2 + (-255))))) := QTO_s j5_q (exr_s (by omega) (by omega)) hs
      exact ih5 _ (msE hm5 q_396 (q_397 b3)) _ σ _ _ ((x5_2 + (-255))) (rk_o (l5_0) rfl rfl) (rk_s) H (SF_trans (hS_5) hS17 (any_sub rfl)) (SA_trans (hA_5) hA18 (any_subA rfl)) (y20) ((ey21)) (wv22) (ewv23) (show inr ((x5_2 + (-255))) from q_395 b3 j5_0) (show ((x5_2 + (-255))) ≤ (a1) - 15 from q_394 j5_1) (show (y20) * 255 = (u3_10) * 255 + ((a1) - 15 - ((x5_2 + (-255)))) from q_393 j5_2 pz19_0) (show ((x5_2 + (-255))) ≥ 0 ∨ (y20) = (u3_10) from q_392 b3) (show ((x5_2 + (-255))) ≥ -25 from q_391 b3) (show QTO 70000 ((w20)) ((u3_10)) ((wv22)) ((y20)) (exr ((a1) - 15)) (exr (((x5_2 + (-255))))) by assumption) rfl

theorem M371 {σ0 σ : rS} {D N : Nat → Nat} {F : hF} {A : hA} {d c s : Nat} {Q : wQ} (H : HS σ0 σ D N F A) {a1 a2 : Int} (u3_15 : Int) (eu3_15 : F 3 15 = u3_15) (w14 : Int → Int) (ew14 : A 14 = w14) (h0 : inr (a1)) (h1 : inr (a2)) (h2 : 0 ≤ (a1) ∧ (a1) ≤ 15) (h3 : 0 ≤ (u3_15) ∧ (u3_15) ≤ (a2) ∧ (a2) ≤ 65536) (k : ∀ (z : Int) σ Fₚ Aₚ, HS σ0 σ D N Fₚ Aₚ → SF [(3, 15), (3, 16)] F Fₚ → SA [] A Aₚ → ∀ y3_15 : Int, Fₚ 3 15 = y3_15 → ∀ y3_16 : Int, Fₚ 3 16 = y3_16 → ((z) = 0 ∨ (z) = 1) → ((u3_15) ≤ (y3_15) ∧ (y3_15) ≤ (a2)) → (0 ≤ (y3_16) ∧ (y3_16) ≤ 16711695) → (IMP ((z) = 1) (ADS ((w14)) ((a2)) ((a1)) ((u3_15)) ((y3_16)) ((y3_15)))) → (IMP ((z) = 0) (ADN ((w14)) ((a2)) ((a1)) ((u3_15)))) → Q (some (I z)) σ c s) : Ew 371 (d + 0) 0 (rargs 0 [.ref (D 3), I a1, I a2]) [] σ c s Q := by
  have r1 : (-2147483648 : Int) ≤ u3_15 ∧ u3_15 ≤ 2147483647 := rngE (show (-2147483648 : Int) ≤ F 3 15 ∧ F 3 15 ≤ 2147483647 from H.frng 3 15) (show F 3 15 = u3_15 from (eu3_15))
  refine Ew_of (pcₚ := 1) (fun _ => x_aload_n rfl rfl) ?_
  refine Ew_of (pcₚ := 2) (fun _ => x_iload_n rfl rfl) ?_
  refine w_pI H (o := 3) rfl rfl (H.perm 3 rfl) rfl rfl rfl (fun _ => rfl) rfl (show (-2147483648 : Int) ≤ a1 ∧ a1 ≤ 2147483647 from q_398 h2) (fun σ H => ?_)
  refine Ew_of (pcₚ := 6) (fun _ => x_iload_n rfl rfl) ?_
  refine Ew_of (pcₚ := 8) (fun _ => x_bipush (z := 15) rfl (by decide)) ?_
  refine w_icmpne (t := 15) rfl rfl (show inr (a1) from h0) (show inr (15) from q_399) (fun b2 => ?_) (fun b2 => ?_)
  · refine Ew_of (pcₚ := 16) (fun _ => x_iconst rfl) ?_
    refine Ew_of (pcₚ := 17) (fun _ => x_istore_n rfl) ?_
    have : ADI ((w14)) ((a1)) ((u3_15)) ((u3_15)) ((0)) ((a1)) := ADI_0 (by omega)
    suffices hl17 : ∀ (m : Nat), ∀ (ls : rO) (σ : rS) (F_17 : hF) (A_17 : hA) (x17_3 : Int), rlook ls 0 = some (.ref (D 3)) → rlook ls 2 = some (I (a2)) → rlook ls 3 = some (I (x17_3)) → HS σ0 σ D N F_17 A_17 → SF [(3, 15), (3, 16)] (updF F 3 16 (a1)) F_17 → SA [] A A_17 → ∀ y17_3_15 : Int, F_17 3 15 = y17_3_15 → ∀ y17_3_16 : Int, F_17 3 16 = y17_3_16 → (inr (x17_3)) → (0 ≤ (y17_3_15) ∧ (u3_15) ≤ (y17_3_15) ∧ (y17_3_15) ≤ (a2)) → (0 ≤ (y17_3_16) ∧ (y17_3_16) ≤ 15 + 255 * ((y17_3_15) - (u3_15))) → ((x17_3) = 0 ∨ (x17_3) = 1) → (ADI ((w14)) ((a1)) ((u3_15)) ((y17_3_15)) ((x17_3)) ((y17_3_16))) → ((a2) - (y17_3_15)).toNat = m → Ew 371 (d + 0) 17 ls [] σ c s Q from
      hl17 _ _ σ _ _ (0) (rk_o (rfl) rfl rfl) (rk_o (rfl) rfl rfl) (rk_s) H (SF_refl) (SA_refl) (u3_15) ((eu3_15)) (a1) (rfl)  (show inr (0) from q_2) (show 0 ≤ (u3_15) ∧ (u3_15) ≤ (u3_15) ∧ (u3_15) ≤ (a2) from q_401 h3) (show 0 ≤ (a1) ∧ (a1) ≤ 15 + 255 * ((u3_15) - (u3_15)) from q_400 h2) (show (0) = 0 ∨ (0) = 1 from q_45) (show ADI ((w14)) ((a1)) ((u3_15)) ((u3_15)) ((0)) ((a1)) by assumption) rfl
    as_aux_lemma =>
    intro m
    induction m using Nat.strongRecOn with
    | _ m ih17 =>
      intro ls σ F_17 A_17 x17_3 l17_0 l17_2 l17_3 H hS_17 hA_17 y17_3_15 ey17_3_15 y17_3_16 ey17_3_16  j17_0 j17_1 j17_2 j17_3 j17_4 hm17
      have r3 : (-2147483648 : Int) ≤ y17_3_15 ∧ y17_3_15 ≤ 2147483647 := rngE (show (-2147483648 : Int) ≤ F_17 3 15 ∧ F_17 3 15 ≤ 2147483647 from H.frng 3 15) (show F_17 3 15 = y17_3_15 from (ey17_3_15))
      have r4 : (-2147483648 : Int) ≤ y17_3_16 ∧ y17_3_16 ≤ 2147483647 := rngE (show (-2147483648 : Int) ≤ F_17 3 16 ∧ F_17 3 16 ≤ 2147483647 from H.frng 3 16) (show F_17 3 16 = y17_3_16 from (ey17_3_16))
      have j17_a : ADI ((w14)) ((a1)) ((u3_15)) ((y17_3_15)) ((x17_3)) ((y17_3_16)) := j17_4
      refine Ew_of (pcₚ := 18) (fun _ => x_iload_n rfl l17_3) ?_
      refine w_ifeq (t := 89) rfl rfl (show inr (x17_3) from j17_0) (fun b5 => ?_) (fun b5 => ?_)
      · refine Ew_of (pcₚ := 90) (fun _ => x_iconst rfl) ?_
        have : IMP ((1 : Int) = 1) (ADS ((w14)) ((a2)) ((a1)) ((u3_15)) ((y17_3_16)) ((y17_3_15))) := fun _ => ADI_end j17_a (by omega) (by omega)
        have : IMP ((1 : Int) = 0) (ADN ((w14)) ((a2)) ((a1)) ((u3_15))) := fun z => absurd z (by omega)
        exact w_ireturn rfl (k (1) σ _ _ H (SF_trans (SF_upd (SF_refl) rfl) hS_17 (any_sub rfl)) (SA_trans (SA_refl) hA_17 (any_subA rfl)) (y17_3_15) ((ey17_3_15)) (y17_3_16) ((ey17_3_16)) (show (1) = 0 ∨ (1) = 1 by first | exact q_49 | omega) (show (u3_15) ≤ (y17_3_15) ∧ (y17_3_15) ≤ a2 from q_403 j17_1) (show 0 ≤ (y17_3_16) ∧ (y17_3_16) ≤ 16711695 from q_402 h3 j17_1 j17_2) (show IMP ((1) = 1) (ADS ((w14)) (a2) (a1) ((u3_15)) ((y17_3_16)) ((y17_3_15))) by assumption) (show IMP ((1) = 0) (ADN ((w14)) (a2) (a1) ((u3_15))) by assumption))
      · refine Ew_of (pcₚ := 22) (fun _ => x_aload_n rfl l17_0) ?_
        refine w_gI H (o := 3) (w := y17_3_15) rfl (H.perm 3 rfl) rfl rfl rfl (fun _ => rfl) (ey17_3_15) ?_
        refine Ew_of (pcₚ := 26) (fun _ => x_iload_n rfl l17_2) ?_
        refine w_icmpne (t := 31) rfl rfl (show inr (y17_3_15) from q_404 j17_1 r3) (show inr (a2) from h1) (fun b6 => ?_) (fun b6 => ?_)
        · refine Ew_of (pcₚ := 32) (fun _ => x_aload_n rfl l17_0) ?_
          refine Ew_of (pcₚ := 33) (fun _ => x_dup rfl rfl) ?_
          refine w_gI H (o := 3) (w := y17_3_16) rfl (H.perm 3 rfl) rfl rfl rfl (fun _ => rfl) (ey17_3_16) ?_
          refine Ew_of (pcₚ := 37) (fun _ => x_aload_n rfl l17_0) ?_
          refine w_gT H (o := 3) (t := 1) rfl (H.perm 3 rfl) rfl rfl rfl rfl rfl rfl ?_
          refine w_gT H (o := 1) (t := 14) rfl (H.perm 1 rfl) rfl rfl rfl rfl rfl rfl ?_
          refine Ew_of (pcₚ := 44) (fun _ => x_aload_n rfl l17_0) ?_
          refine w_gI H (o := 3) (w := y17_3_15) rfl (H.perm 3 rfl) rfl rfl rfl (fun _ => rfl) (ey17_3_15) ?_
          refine w_lI H (o := 14) (n := 65536) rfl (H.perm 14 rfl) rfl rfl (H.fix 14 rfl rfl) (show 0 ≤ y17_3_15 ∧ y17_3_15 < ((65536 : Nat) : Int) by omega) (by decide) (fun v7 ev7 qv7 => ?_)
          have qv7 : (0 : Int) ≤ v7 ∧ v7 ≤ 255 := qv7
          have ev7 : (w14) (y17_3_15) = v7 := (congrFun ((funext (hA_17 14 rfl)).trans (ew14)) (y17_3_15)).symm.trans ev7
          have hv1 := ev7
          refine w_iadd rfl ?_
          refine w_pI H (o := 3) rfl rfl (H.perm 3 rfl) rfl rfl rfl (fun _ => rfl) rfl (show (-2147483648 : Int) ≤ (y17_3_16 + v7) ∧ (y17_3_16 + v7) ≤ 2147483647 by omega) (fun σ H => ?_)
          refine Ew_of (pcₚ := 53) (fun _ => x_aload_n rfl l17_0) ?_
          refine w_gT H (o := 3) (t := 1) rfl (H.perm 3 rfl) rfl rfl rfl rfl rfl rfl ?_
          refine w_gT H (o := 1) (t := 14) rfl (H.perm 1 rfl) rfl rfl rfl rfl rfl rfl ?_
          refine Ew_of (pcₚ := 60) (fun _ => x_aload_n rfl l17_0) ?_
          refine w_gI H (o := 3) (w := y17_3_15) rfl (H.perm 3 rfl) rfl rfl rfl (fun _ => rfl) (ey17_3_15) ?_
          refine w_lI H (o := 14) (n := 65536) rfl (H.perm 14 rfl) rfl rfl (H.fix 14 rfl rfl) (show 0 ≤ y17_3_15 ∧ y17_3_15 < ((65536 : Nat) : Int) by omega) (by decide) (fun v8 ev8 qv8 => ?_)
          have qv8 : (0 : Int) ≤ v8 ∧ v8 ≤ 255 := qv8
          have ev8 : (w14) (y17_3_15) = v8 := (congrFun ((funext (hA_17 14 rfl)).trans (ew14)) (y17_3_15)).symm.trans ev8
          have hv2 := ev8
          refine Ew_of (pcₚ := 67) (fun _ => x_sipush (z := 255) rfl (by decide)) ?_
          refine w_icmpne (t := 74) rfl rfl (show inr (v8) from q_299 qv8) (show inr (255) from q_297) (fun b9 => ?_) (fun b9 => ?_)
          · refine Ew_of (pcₚ := 75) (fun _ => x_iconst rfl) ?_
            refine Ew_of (pcₚ := 76) (fun _ => x_istore_n rfl) ?_
            refine Ew_of (pcₚ := 77) (fun _ => x_aload_n rfl (rk_o (l17_0) rfl rfl)) ?_
            refine Ew_of (pcₚ := 78) (fun _ => x_dup rfl rfl) ?_
            refine w_gI H (o := 3) (w := y17_3_15) rfl (H.perm 3 rfl) rfl rfl rfl (fun _ => rfl) (ey17_3_15) ?_
            refine Ew_of (pcₚ := 82) (fun _ => x_iconst rfl) ?_
            refine w_iadd rfl ?_
            refine w_pI H (o := 3) rfl rfl (H.perm 3 rfl) rfl rfl rfl (fun _ => rfl) rfl (show (-2147483648 : Int) ≤ (y17_3_15 + 1) ∧ (y17_3_15 + 1) ≤ 2147483647 from q_405 h3 j17_1) (fun σ H => ?_)
            refine Ew_of (pcₚ := 17) (fun _ => x_goto rfl rfl) ?_
            have : ADI ((w14)) ((a1)) ((u3_15)) (((y17_3_15 + 1))) ((0)) (((y17_3_16 + v7))) := ADI_s j17_a (by omega) hv1 (by omega) (by omega) (by omega) (by omega)
            exact ih17 _ (by omega) _ σ _ _ (0) (rk_o (l17_0) rfl rfl) (rk_o (l17_2) rfl rfl) (rk_s) H (SF_upd (SF_upd (hS_17) rfl) rfl) (hA_17) ((y17_3_15 + 1)) (rfl) ((y17_3_16 + v7)) (rfl)  (show inr (0) from q_2) (show 0 ≤ ((y17_3_15 + 1)) ∧ (u3_15) ≤ ((y17_3_15 + 1)) ∧ ((y17_3_15 + 1)) ≤ (a2) by omega) (show 0 ≤ ((y17_3_16 + v7)) ∧ ((y17_3_16 + v7)) ≤ 15 + 255 * (((y17_3_15 + 1)) - (u3_15)) from q_406 j17_2 qv7) (show (0) = 0 ∨ (0) = 1 from q_45) (show ADI ((w14)) ((a1)) ((u3_15)) (((y17_3_15 + 1))) ((0)) (((y17_3_16 + v7))) by assumption) rfl
          · refine Ew_of (pcₚ := 71) (fun _ => x_iconst rfl) ?_
            refine Ew_of (pcₚ := 75) (fun _ => x_goto rfl rfl) ?_
            refine Ew_of (pcₚ := 76) (fun _ => x_istore_n rfl) ?_
            refine Ew_of (pcₚ := 77) (fun _ => x_aload_n rfl (rk_o (l17_0) rfl rfl)) ?_
            refine Ew_of (pcₚ := 78) (fun _ => x_dup rfl rfl) ?_
            refine w_gI H (o := 3) (w := y17_3_15) rfl (H.perm 3 rfl) rfl rfl rfl (fun _ => rfl) (ey17_3_15) ?_
            refine Ew_of (pcₚ := 82) (fun _ => x_iconst rfl) ?_
            refine w_iadd rfl ?_
            refine w_pI H (o := 3) rfl rfl (H.perm 3 rfl) rfl rfl rfl (fun _ => rfl) rfl (show (-2147483648 : Int) ≤ (y17_3_15 + 1) ∧ (y17_3_15 + 1) ≤ 2147483647 from q_405 h3 j17_1) (fun σ H => ?_)
            refine Ew_of (pcₚ := 17) (fun _ => x_goto rfl rfl) ?_
            have : ADI ((w14)) ((a1)) ((u3_15)) (((y17_3_15 + 1))) ((1)) (((y17_3_16 + v7))) := ADI_s j17_a (by omega) hv1 (by omega) (by omega) (by omega) (by omega)
            exact ih17 _ (by omega) _ σ _ _ (1) (rk_o (l17_0) rfl rfl) (rk_o (l17_2) rfl rfl) (rk_s) H (SF_upd (SF_upd (hS_17) rfl) rfl) (hA_17) ((y17_3_15 + 1)) (rfl) ((y17_3_16 + v7)) (rfl)  (show inr (1) from q_135) (show 0 ≤ ((y17_3_15 + 1)) ∧ (u3_15) ≤ ((y17_3_15 + 1)) ∧ ((y17_3_15 + 1)) ≤ (a2) by omega) (show 0 ≤ ((y17_3_16 + v7)) ∧ ((y17_3_16 + v7)) ≤ 15 + 255 * (((y17_3_15 + 1)) - (u3_15)) from q_406 j17_2 qv7) (show (1) = 0 ∨ (1) = 1 from q_49) (show ADI ((w14)) ((a1)) ((u3_15)) (((y17_3_15 + 1))) ((1)) (((y17_3_16 + v7))) by assumption) rfl
        · refine Ew_of (pcₚ := 30) (fun _ => x_iconst rfl) ?_
          have : IMP ((0 : Int) = 1) (ADS ((w14)) ((a2)) ((a1)) ((u3_15)) ((y17_3_16)) ((y17_3_15))) := fun z => absurd z (by omega)
          have : IMP ((0 : Int) = 0) (ADN ((w14)) ((a2)) ((a1)) ((u3_15))) := fun _ => ADI_non j17_a (by omega) (by omega)
          exact w_ireturn rfl (k (0) σ _ _ H (SF_trans (SF_upd (SF_refl) rfl) hS_17 (any_sub rfl)) (SA_trans (SA_refl) hA_17 (any_subA rfl)) (y17_3_15) ((ey17_3_15)) (y17_3_16) ((ey17_3_16)) (show (0) = 0 ∨ (0) = 1 by first | exact q_45 | omega) (show (u3_15) ≤ (y17_3_15) ∧ (y17_3_15) ≤ a2 from q_403 j17_1) (show 0 ≤ (y17_3_16) ∧ (y17_3_16) ≤ 16711695 from q_407 b6 h3 j17_2) (show IMP ((0) = 1) (ADS ((w14)) (a2) (a1) ((u3_15)) ((y17_3_16)) ((y17_3_15))) by assumption) (show IMP ((0) = 0) (ADN ((w14)) (a2) (a1) ((u3_15))) by assumption))
  · refine Ew_of (pcₚ := 12) (fun _ => x_iconst rfl) ?_
    refine Ew_of (pcₚ := 16) (fun _ => x_goto rfl rfl) ?_
    refine Ew_of (pcₚ := 17) (fun _ => x_istore_n rfl) ?_
    have : ADI ((w14)) ((a1)) ((u3_15)) ((u3_15)) ((1)) ((a1)) := ADI_0 (by omega)
    suffices hl17 : ∀ (m : Nat), ∀ (ls : rO) (σ : rS) (F_17 : hF) (A_17 : hA) (x17_3 : Int), rlook ls 0 = some (.ref (D 3)) → rlook ls 2 = some (I (a2)) → rlook ls 3 = some (I (x17_3)) → HS σ0 σ D N F_17 A_17 → SF [(3, 15), (3, 16)] (updF F 3 16 (a1)) F_17 → SA [] A A_17 → ∀ y17_3_15 : Int, F_17 3 15 = y17_3_15 → ∀ y17_3_16 : Int, F_17 3 16 = y17_3_16 → (inr (x17_3)) → (0 ≤ (y17_3_15) ∧ (u3_15) ≤ (y17_3_15) ∧ (y17_3_15) ≤ (a2)) → (0 ≤ (y17_3_16) ∧ (y17_3_16) ≤ 15 + 255 * ((y17_3_15) - (u3_15))) → ((x17_3) = 0 ∨ (x17_3) = 1) → (ADI ((w14)) ((a1)) ((u3_15)) ((y17_3_15)) ((x17_3)) ((y17_3_16))) → ((a2) - (y17_3_15)).toNat = m → Ew 371 (d + 0) 17 ls [] σ c s Q from
      hl17 _ _ σ _ _ (1) (rk_o (rfl) rfl rfl) (rk_o (rfl) rfl rfl) (rk_s) H (SF_refl) (SA_refl) (u3_15) ((eu3_15)) (a1) (rfl)  (show inr (1) from q_135) (show 0 ≤ (u3_15) ∧ (u3_15) ≤ (u3_15) ∧ (u3_15) ≤ (a2) from q_401 h3) (show 0 ≤ (a1) ∧ (a1) ≤ 15 + 255 * ((u3_15) - (u3_15)) from q_408 b2 h2) (show (1) = 0 ∨ (1) = 1 from q_49) (show ADI ((w14)) ((a1)) ((u3_15)) ((u3_15)) ((1)) ((a1)) by assumption) rfl
    as_aux_lemma =>
    intro m
    induction m using Nat.strongRecOn with
    | _ m ih17 =>
      intro ls σ F_17 A_17 x17_3 l17_0 l17_2 l17_3 H hS_17 hA_17 y17_3_15 ey17_3_15 y17_3_16 ey17_3_16  j17_0 j17_1 j17_2 j17_3 j17_4 hm17
      have r10 : (-2147483648 : Int) ≤ y17_3_15 ∧ y17_3_15 ≤ 2147483647 := rngE (show (-2147483648 : Int) ≤ F_17 3 15 ∧ F_17 3 15 ≤ 2147483647 from H.frng 3 15) (show F_17 3 15 = y17_3_15 from (ey17_3_15))
      have r11 : (-2147483648 : Int) ≤ y17_3_16 ∧ y17_3_16 ≤ 2147483647 := rngE (show (-2147483648 : Int) ≤ F_17 3 16 ∧ F_17 3 16 ≤ 2147483647 from H.frng 3 16) (show F_17 3 16 = y17_3_16 from (ey17_3_16))
      have j17_a : ADI ((w14)) ((a1)) ((u3_15)) ((y17_3_15)) ((x17_3)) ((y17_3_16)) := j17_4
      refine Ew_of (pcₚ := 18) (fun _ => x_iload_n rfl l17_3) ?_
      refine w_ifeq (t := 89) rfl rfl (show inr (x17_3) from j17_0) (fun b12 => ?_) (fun b12 => ?_)
      · refine Ew_of (pcₚ := 90) (fun _ => x_iconst rfl) ?_
        have : IMP ((1 : Int) = 1) (ADS ((w14)) ((a2)) ((a1)) ((u3_15)) ((y17_3_16)) ((y17_3_15))) := fun _ => ADI_end j17_a (by omega) (by omega)
        have : IMP ((1 : Int) = 0) (ADN ((w14)) ((a2)) ((a1)) ((u3_15))) := fun z => absurd z (by omega)
        exact w_ireturn rfl (k (1) σ _ _ H (SF_trans (SF_upd (SF_refl) rfl) hS_17 (any_sub rfl)) (SA_trans (SA_refl) hA_17 (any_subA rfl)) (y17_3_15) ((ey17_3_15)) (y17_3_16) ((ey17_3_16)) (show (1) = 0 ∨ (1) = 1 by first | exact q_49 | omega) (show (u3_15) ≤ (y17_3_15) ∧ (y17_3_15) ≤ a2 from q_403 j17_1) (show 0 ≤ (y17_3_16) ∧ (y17_3_16) ≤ 16711695 from q_402 h3 j17_1 j17_2) (show IMP ((1) = 1) (ADS ((w14)) (a2) (a1) ((u3_15)) ((y17_3_16)) ((y17_3_15))) by assumption) (show IMP ((1) = 0) (ADN ((w14)) (a2) (a1) ((u3_15))) by assumption))
      · refine Ew_of (pcₚ := 22) (fun _ => x_aload_n rfl l17_0) ?_
        refine w_gI H (o := 3) (w := y17_3_15) rfl (H.perm 3 rfl) rfl rfl rfl (fun _ => rfl) (ey17_3_15) ?_
        refine Ew_of (pcₚ := 26) (fun _ => x_iload_n rfl l17_2) ?_
        refine w_icmpne (t := 31) rfl rfl (show inr (y17_3_15) from q_404 j17_1 r10) (show inr (a2) from h1) (fun b13 => ?_) (fun b13 => ?_)
        · refine Ew_of (pcₚ := 32) (fun _ => x_aload_n rfl l17_0) ?_
          refine Ew_of (pcₚ := 33) (fun _ => x_dup rfl rfl) ?_
          refine w_gI H (o := 3) (w := y17_3_16) rfl (H.perm 3 rfl) rfl rfl rfl (fun _ => rfl) (ey17_3_16) ?_
          refine Ew_of (pcₚ := 37) (fun _ => x_aload_n rfl l17_0) ?_
          refine w_gT H (o := 3) (t := 1) rfl (H.perm 3 rfl) rfl rfl rfl rfl rfl rfl ?_
          refine w_gT H (o := 1) (t := 14) rfl (H.perm 1 rfl) rfl rfl rfl rfl rfl rfl ?_
          refine Ew_of (pcₚ := 44) (fun _ => x_aload_n rfl l17_0) ?_
          refine w_gI H (o := 3) (w := y17_3_15) rfl (H.perm 3 rfl) rfl rfl rfl (fun _ => rfl) (ey17_3_15) ?_
          refine w_lI H (o := 14) (n := 65536) rfl (H.perm 14 rfl) rfl rfl (H.fix 14 rfl rfl) (show 0 ≤ y17_3_15 ∧ y17_3_15 < ((65536 : Nat) : Int) by omega) (by decide) (fun v14 ev14 qv14 => ?_)
          have qv14 : (0 : Int) ≤ v14 ∧ v14 ≤ 255 := qv14
          have ev14 : (w14) (y17_3_15) = v14 := (congrFun ((funext (hA_17 14 rfl)).trans (ew14)) (y17_3_15)).symm.trans ev14
          have hv1 := ev14
          refine w_iadd rfl ?_
          refine w_pI H (o := 3) rfl rfl (H.perm 3 rfl) rfl rfl rfl (fun _ => rfl) rfl (show (-2147483648 : Int) ≤ (y17_3_16 + v14) ∧ (y17_3_16 + v14) ≤ 2147483647 by omega) (fun σ H => ?_)
          refine Ew_of (pcₚ := 53) (fun _ => x_aload_n rfl l17_0) ?_
          refine w_gT H (o := 3) (t := 1) rfl (H.perm 3 rfl) rfl rfl rfl rfl rfl rfl ?_
          refine w_gT H (o := 1) (t := 14) rfl (H.perm 1 rfl) rfl rfl rfl rfl rfl rfl ?_
          refine Ew_of (pcₚ := 60) (fun _ => x_aload_n rfl l17_0) ?_
          refine w_gI H (o := 3) (w := y17_3_15) rfl (H.perm 3 rfl) rfl rfl rfl (fun _ => rfl) (ey17_3_15) ?_
          refine w_lI H (o := 14) (n := 65536) rfl (H.perm 14 rfl) rfl rfl (H.fix 14 rfl rfl) (show 0 ≤ y17_3_15 ∧ y17_3_15 < ((65536 : Nat) : Int) by omega) (by decide) (fun v15 ev15 qv15 => ?_)
          have qv15 : (0 : Int) ≤ v15 ∧ v15 ≤ 255 := qv15
          have ev15 : (w14) (y17_3_15) = v15 := (congrFun ((funext (hA_17 14 rfl)).trans (ew14)) (y17_3_15)).symm.trans ev15
          have hv2 := ev15
          refine Ew_of (pcₚ := 67) (fun _ => x_sipush (z := 255) rfl (by decide)) ?_
          refine w_icmpne (t := 74) rfl rfl (show inr (v15) from q_299 qv15) (show inr (255) from q_297) (fun b16 => ?_) (fun b16 => ?_)
          · refine Ew_of (pcₚ := 75) (fun _ => x_iconst rfl) ?_
            refine Ew_of (pcₚ := 76) (fun _ => x_istore_n rfl) ?_
            refine Ew_of (pcₚ := 77) (fun _ => x_aload_n rfl (rk_o (l17_0) rfl rfl)) ?_
            refine Ew_of (pcₚ := 78) (fun _ => x_dup rfl rfl) ?_
            refine w_gI H (o := 3) (w := y17_3_15) rfl (H.perm 3 rfl) rfl rfl rfl (fun _ => rfl) (ey17_3_15) ?_
            refine Ew_of (pcₚ := 82) (fun _ => x_iconst rfl) ?_
            refine w_iadd rfl ?_
            refine w_pI H (o := 3) rfl rfl (H.perm 3 rfl) rfl rfl rfl (fun _ => rfl) rfl (show (-2147483648 : Int) ≤ (y17_3_15 + 1) ∧ (y17_3_15 + 1) ≤ 2147483647 from q_405 h3 j17_1) (fun σ H => ?_)
            refine Ew_of (pcₚ := 17) (fun _ => x_goto rfl rfl) ?_
            have : ADI ((w14)) ((a1)) ((u3_15)) (((y17_3_15 + 1))) ((0)) (((y17_3_16 + v14))) := ADI_s j17_a (by omega) hv1 (by omega) (by omega) (by omega) (by omega)
            exact ih17 _ (by omega) _ σ _ _ (0) (rk_o (l17_0) rfl rfl) (rk_o (l17_2) rfl rfl) (rk_s) H (SF_upd (SF_upd (hS_17) rfl) rfl) (hA_17) ((y17_3_15 + 1)) (rfl) ((y17_3_16 + v14)) (rfl)  (show inr (0) from q_2) (show 0 ≤ ((y17_3_15 + 1)) ∧ (u3_15) ≤ ((y17_3_15 + 1)) ∧ ((y17_3_15 + 1)) ≤ (a2) by omega) (show 0 ≤ ((y17_3_16 + v14)) ∧ ((y17_3_16 + v14)) ≤ 15 + 255 * (((y17_3_15 + 1)) - (u3_15)) from q_406 j17_2 qv14) (show (0) = 0 ∨ (0) = 1 from q_45) (show ADI ((w14)) ((a1)) ((u3_15)) (((y17_3_15 + 1))) ((0)) (((y17_3_16 + v14))) by assumption) rfl
          · refine Ew_of (pcₚ := 71) (fun _ => x_iconst rfl) ?_
            refine Ew_of (pcₚ := 75) (fun _ => x_goto rfl rfl) ?_
            refine Ew_of (pcₚ := 76) (fun _ => x_istore_n rfl) ?_
            refine Ew_of (pcₚ := 77) (fun _ => x_aload_n rfl (rk_o (l17_0) rfl rfl)) ?_
            refine Ew_of (pcₚ := 78) (fun _ => x_dup rfl rfl) ?_
            refine w_gI H (o := 3) (w := y17_3_15) rfl (H.perm 3 rfl) rfl rfl rfl (fun _ => rfl) (ey17_3_15) ?_
            refine Ew_of (pcₚ := 82) (fun _ => x_iconst rfl) ?_
            refine w_iadd rfl ?_
            refine w_pI H (o := 3) rfl rfl (H.perm 3 rfl) rfl rfl rfl (fun _ => rfl) rfl (show (-2147483648 : Int) ≤ (y17_3_15 + 1) ∧ (y17_3_15 + 1) ≤ 2147483647 from q_405 h3 j17_1) (fun σ H => ?_)
            refine Ew_of (pcₚ := 17) (fun _ => x_goto rfl rfl) ?_
            have : ADI ((w14)) ((a1)) ((u3_15)) (((y17_3_15 + 1))) ((1)) (((y17_3_16 + v14))) := ADI_s j17_a (by omega) hv1 (by omega) (by omega) (by omega) (by omega)
            exact ih17 _ (by omega) _ σ _ _ (1) (rk_o (l17_0) rfl rfl) (rk_o (l17_2) rfl rfl) (rk_s) H (SF_upd (SF_upd (hS_17) rfl) rfl) (hA_17) ((y17_3_15 + 1)) (rfl) ((y17_3_16 + v14)) (rfl)  (show inr (1) from q_135) (show 0 ≤ ((y17_3_15 + 1)) ∧ (u3_15) ≤ ((y17_3_15 + 1)) ∧ ((y17_3_15 + 1)) ≤ (a2) by omega) (show 0 ≤ ((y17_3_16 + v14)) ∧ ((y17_3_16 + v14)) ≤ 15 + 255 * (((y17_3_15 + 1)) - (u3_15)) from q_406 j17_2 qv14) (show (1) = 0 ∨ (1) = 1 from q_49) (show ADI ((w14)) ((a1)) ((u3_15)) (((y17_3_15 + 1))) ((1)) (((y17_3_16 + v14))) by assumption) rfl
        · refine Ew_of (pcₚ := 30) (fun _ => x_iconst rfl) ?_
          have : IMP ((0 : Int) = 1) (ADS ((w14)) ((a2)) ((a1)) ((u3_15)) ((y17_3_16)) ((y17_3_15))) := fun z => absurd z (by omega)
          have : IMP ((0 : Int) = 0) (ADN ((w14)) ((a2)) ((a1)) ((u3_15))) := fun _ => ADI_non j17_a (by omega) (by omega)
          exact w_ireturn rfl (k (0) σ _ _ H (SF_trans (SF_upd (SF_refl) rfl) hS_17 (any_sub rfl)) (SA_trans (SA_refl) hA_17 (any_subA rfl)) (y17_3_15) ((ey17_3_15)) (y17_3_16) ((ey17_3_16)) (show (0) = 0 ∨ (0) = 1 by first | exact q_45 | omega) (show (u3_15) ≤ (y17_3_15) ∧ (y17_3_15) ≤ a2 from q_403 j17_1) (show 0 ≤ (y17_3_16) ∧ (y17_3_16) ≤ 16711695 from q_407 b13 h3 j17_2) (show IMP ((0) = 1) (ADS ((w14)) (a2) (a1) ((u3_15)) ((y17_3_16)) ((y17_3_15))) by assumption) (show IMP ((0) = 0) (ADN ((w14)) (a2) (a1) ((u3_15))) by assumption))

theorem M360 {σ0 σ : rS} {D N : Nat → Nat} {F : hF} {A : hA} {d c s : Nat} {Q : wQ} (H : HS σ0 σ D N F A) {a1 a2 a3 : Int} (u3_5 : Int) (eu3_5 : F 3 5 = u3_5) (w18 : Int → Int) (ew18 : A 18 = w18) (h0 : inr (a1)) (h1 : inr (a2)) (h2 : inr (a3)) (h3 : 0 ≤ (u3_5) ∧ (u3_5) ≤ 16384) (h4 : 0 ≤ (a1) ∧ (a1) < (a2) ∧ (a3) + (a2) ≤ 16384 ∧ 0 ≤ (a3)) (k : ∀ (z : Int) σ Fₚ Aₚ, HS σ0 σ D N Fₚ Aₚ → SF [] F Fₚ → SA [] A Aₚ → (inr (z)) → (0 ≤ (z) ∧ (z) ≤ (a3)) → ((z) = cpl ((w18)) ((a1)) ((a2)) ((a2) + (a3))) → Q (some (I z)) σ c s) : Ew 360 (d + 0) 0 (rargs 0 [.ref (D 3), I a1, I a2, I a3]) [] σ c s Q := by
  have r1 : (-2147483648 : Int) ≤ u3_5 ∧ u3_5 ≤ 2147483647 := rngE (show (-2147483648 : Int) ≤ F 3 5 ∧ F 3 5 ≤ 2147483647 from H.frng 3 5) (show F 3 5 = u3_5 from (eu3_5))
  refine Ew_of (pcₚ := 1) (fun _ => x_iconst rfl) ?_
  refine Ew_of (pcₚ := 3) (fun _ => x_istore rfl) ?_
  have : EQB ((w18)) ((a1)) ((a2)) (0) := EQB_0
  suffices hl3 : ∀ (m : Nat), ∀ (ls : rO) (σ : rS) (F_3 : hF) (A_3 : hA) (x3_4 : Int), rlook ls 0 = some (.ref (D 3)) → rlook ls 1 = some (I (a1)) → rlook ls 2 = some (I (a2)) → rlook ls 3 = some (I (a3)) → rlook ls 4 = some (I (x3_4)) → HS σ0 σ D N F_3 A_3 → SF [] F F_3 → SA [] A A_3 → (inr (x3_4)) → ((0) ≤ (x3_4)) → ((x3_4) ≤ (0) ∨ (x3_4) ≤ ((a3))) → (EQB ((w18)) ((a1)) ((a2)) ((x3_4))) → (((a3)) - (x3_4)).toNat = m → Ew 360 (d + 0) 3 ls [] σ c s Q from
    hl3 _ _ σ _ _ (0) (rk_o (rfl) rfl rfl) (rk_o (rfl) rfl rfl) (rk_o (rfl) rfl rfl) (rk_o (rfl) rfl rfl) (rk_s) H (SF_refl) (SA_refl)   (show inr (0) from q_2) (show (0) ≤ (0) from q_1) (show (0) ≤ (0) ∨ (0) ≤ ((a3)) from q_5) (show EQB ((w18)) ((a1)) ((a2)) ((0)) by assumption) rfl
  as_aux_lemma =>
  intro m
  induction m using Nat.strongRecOn with
  | _ m ih3 =>
    intro ls σ F_3 A_3 x3_4 l3_0 l3_1 l3_2 l3_3 l3_4 H hS_3 hA_3   j3_0 j3_1 j3_2 j3_3 hm3
    have j3_q : EQB ((w18)) ((a1)) ((a2)) ((x3_4)) := j3_3
    refine Ew_of (pcₚ := 5) (fun _ => x_iload rfl l3_4) ?_
    refine Ew_of (pcₚ := 6) (fun _ => x_iload_n rfl l3_3) ?_
    refine w_icmpge (t := 36) rfl rfl (show inr (x3_4) from j3_0) (show inr (a3) from h2) (fun b2 => ?_) (fun b2 => ?_)
    · have : (x3_4) = cpl ((w18)) ((a1)) ((a2)) ((a2) + (a3)) := (cpl_is (by omega) (by omega) j3_q (by first | exact .inl (by omega) | exact .inr (by rw [hb1, hb2]; omega))).symm
      refine Ew_of (pcₚ := 38) (fun _ => x_iload rfl l3_4) ?_
      exact w_ireturn rfl (k (x3_4) σ _ _ H (SF_trans (SF_refl) hS_3 (any_sub rfl)) (SA_trans (SA_refl) hA_3 (any_subA rfl)) (show inr (x3_4) from j3_0) (show 0 ≤ (x3_4) ∧ (x3_4) ≤ a3 from q_409 h4 j3_1 j3_2) (show (x3_4) = cpl ((w18)) (a1) (a2) (a2 + a3) by assumption))
    · refine Ew_of (pcₚ := 10) (fun _ => x_aload_n rfl l3_0) ?_
      refine w_gT H (o := 3) (t := 18) rfl (H.perm 3 rfl) rfl rfl rfl rfl rfl rfl ?_
      refine Ew_of (pcₚ := 14) (fun _ => x_iload_n rfl l3_1) ?_
      refine Ew_of (pcₚ := 16) (fun _ => x_iload rfl l3_4) ?_
      refine w_iadd rfl ?_
      refine w_lI H (o := 18) (n := 16384) rfl (H.perm 18 rfl) rfl rfl (H.fix 18 rfl rfl) (show 0 ≤ (a1 + x3_4) ∧ (a1 + x3_4) < ((16384 : Nat) : Int) from q_410 b2 h4 j3_1) (by decide) (fun v3 ev3 qv3 => ?_)
      have qv3 : (0 : Int) ≤ v3 ∧ v3 ≤ 255 := qv3
      have ev3 : (w18) ((a1 + x3_4)) = v3 := (congrFun ((funext (hA_3 18 rfl)).trans (ew18)) ((a1 + x3_4))).symm.trans ev3
      refine Ew_of (pcₚ := 19) (fun _ => x_aload_n rfl l3_0) ?_
      refine w_gT H (o := 3) (t := 18) rfl (H.perm 3 rfl) rfl rfl rfl rfl rfl rfl ?_
      refine Ew_of (pcₚ := 23) (fun _ => x_iload_n rfl l3_2) ?_
      refine Ew_of (pcₚ := 25) (fun _ => x_iload rfl l3_4) ?_
      refine w_iadd rfl ?_
      refine w_lI H (o := 18) (n := 16384) rfl (H.perm 18 rfl) rfl rfl (H.fix 18 rfl rfl) (show 0 ≤ (a2 + x3_4) ∧ (a2 + x3_4) < ((16384 : Nat) : Int) from q_411 b2 h4 j3_1) (by decide) (fun v4 ev4 qv4 => ?_)
      have qv4 : (0 : Int) ≤ v4 ∧ v4 ≤ 255 := qv4
      have ev4 : (w18) ((a2 + x3_4)) = v4 := (congrFun ((funext (hA_3 18 rfl)).trans (ew18)) ((a2 + x3_4))).symm.trans ev4
      have hb1 := ev3
      have hb2 := ev4
      refine w_icmpne (t := 36) rfl rfl (show inr (v3) from q_299 qv3) (show inr (v4) from q_299 qv4) (fun b5 => ?_) (fun b5 => ?_)
      · have : (x3_4) = cpl ((w18)) ((a1)) ((a2)) ((a2) + (a3)) := (cpl_is (by omega) (by omega) j3_q (by first | exact .inl (by omega) | exact .inr (by rw [hb1, hb2]; omega))).symm
        refine Ew_of (pcₚ := 38) (fun _ => x_iload rfl l3_4) ?_
        exact w_ireturn rfl (k (x3_4) σ _ _ H (SF_trans (SF_refl) hS_3 (any_sub rfl)) (SA_trans (SA_refl) hA_3 (any_subA rfl)) (show inr (x3_4) from j3_0) (show 0 ≤ (x3_4) ∧ (x3_4) ≤ a3 from q_412 b2 j3_1) (show (x3_4) = cpl ((w18)) (a1) (a2) (a2 + a3) by assumption))
      · have : EQB ((w18)) ((a1)) ((a2)) ((x3_4) + 1) := EQB_s j3_q (by rw [hb1, hb2]; omega) rfl
        refine Ew_of (pcₚ := 33) (fun _ => x_iinc (len := 3) rfl (l3_4)) ?_
        refine Ew_of (pcₚ := 3) (fun _ => x_goto rfl rfl) ?_
        exact ih3 _ (msE hm3 q_16 (q_17 b2)) _ σ _ _ ((x3_4 + 1)) (rk_o (l3_0) rfl rfl) (rk_o (l3_1) rfl rfl) (rk_o (l3_2) rfl rfl) (rk_o (l3_3) rfl rfl) (rk_s) H (hS_3) (hA_3)   (show inr ((x3_4 + 1)) from q_413 b2 h4 j3_1) (show (0) ≤ ((x3_4 + 1)) from q_14 j3_1) (show ((x3_4 + 1)) ≤ (0) ∨ ((x3_4 + 1)) ≤ ((a3)) from q_13 b2) (show EQB ((w18)) ((a1)) ((a2)) (((x3_4 + 1))) by assumption) rfl

theorem M361 {σ0 σ : rS} {D N : Nat → Nat} {F : hF} {A : hA} {d c s : Nat} {Q : wQ} (H : HS σ0 σ D N F A) {a1 a2 : Int} (u3_5 : Int) (eu3_5 : F 3 5 = u3_5) (w18 : Int → Int) (ew18 : A 18 = w18) (h0 : inr (a1)) (h1 : inr (a2)) (h2 : 0 ≤ (u3_5) ∧ (u3_5) ≤ 16384) (h3 : 0 ≤ (a1) ∧ (a1) ≤ 16384) (h4 : 0 ≤ (a2) ∧ (a2) ≤ 2) (k : ∀ (z : Int) σ Fₚ Aₚ, HS σ0 σ D N Fₚ Aₚ → SF [(3, 6)] F Fₚ → SA [] A Aₚ → ∀ y3_6 : Int, Fₚ 3 6 = y3_6 → (inr (z)) → (0 ≤ (z)) → ((z) = 0 ∨ 4 ≤ (z) ∧ (z) ≤ (u3_5) - 5 - (a1)) → ((z) = 0 ∨ (y3_6) < (a1)) → (MTL ((w18)) ((u3_5) - 5) 65535 4 ((a2)) ((u3_5) - 12) ((a1)) ((z)) ((a1) - (y3_6))) → Q (some (I z)) σ c s) : Ew 361 (d + 1) 0 (rargs 0 [.ref (D 3), I a1, I a2]) [] σ c s Q := by
  have r1 : (-2147483648 : Int) ≤ u3_5 ∧ u3_5 ≤ 2147483647 := rngE (show (-2147483648 : Int) ≤ F 3 5 ∧ F 3 5 ≤ 2147483647 from H.frng 3 5) (show F 3 5 = u3_5 from (eu3_5))
  refine Ew_of (pcₚ := 1) (fun _ => x_aload_n rfl rfl) ?_
  refine w_gI H (o := 3) (w := u3_5) rfl (H.perm 3 rfl) rfl rfl rfl (fun _ => rfl) (eu3_5) ?_
  refine Ew_of (pcₚ := 5) (fun _ => x_iconst rfl) ?_
  refine w_isub rfl ?_
  refine Ew_of (pcₚ := 7) (fun _ => x_iload_n rfl rfl) ?_
  refine w_isub rfl ?_
  refine Ew_of (pcₚ := 9) (fun _ => x_istore_n rfl) ?_
  refine Ew_of (pcₚ := 10) (fun _ => x_iload_n rfl (rk_o (rfl) rfl rfl)) ?_
  refine w_iflt (t := 29) rfl rfl (show inr (a1) from h0) (fun b2 => ?_) (fun b2 => ?_)
  · refine Ew_of (pcₚ := 30) (fun _ => x_iconst rfl) ?_
    have r3 : (0 : Int) ≤ F 3 6 ∧ F 3 6 ≤ 16384 := H.frng 3 6
    have : MTL ((w18)) ((u3_5) - 5) 65535 4 ((a2)) ((u3_5) - 12) ((a1)) (0) ((a1) - (F 3 6)) := .inr ⟨by omega, rfl⟩
    exact w_ireturn rfl (k (0) σ _ _ H (SF_refl) (SA_refl) (F 3 6) (rfl) (show inr (0) from q_2) (show 0 ≤ (0) by first | exact q_1 | omega) (show (0) = 0 ∨ 4 ≤ (0) ∧ (0) ≤ (u3_5) - 5 - a1 by first | exact q_415 | omega) (show (0) = 0 ∨ (F 3 6) < a1 by first | exact q_414 | omega) (show MTL ((w18)) ((u3_5) - 5) 65535 4 (a2) ((u3_5) - 12) (a1) ((0)) (a1 - (F 3 6)) by assumption))
  · refine Ew_of (pcₚ := 14) (fun _ => x_iload_n rfl (rk_o (rfl) rfl rfl)) ?_
    refine Ew_of (pcₚ := 15) (fun _ => x_aload_n rfl (rk_o (rfl) rfl rfl)) ?_
    refine w_gI H (o := 3) (w := u3_5) rfl (H.perm 3 rfl) rfl rfl rfl (fun _ => rfl) (eu3_5) ?_
    refine Ew_of (pcₚ := 20) (fun _ => x_bipush (z := 12) rfl (by decide)) ?_
    refine w_isub rfl ?_
    refine w_icmpgt (t := 29) rfl rfl (show inr (a1) from h0) (show inr ((u3_5 - 12)) from q_416 h2) (fun b4 => ?_) (fun b4 => ?_)
    · refine Ew_of (pcₚ := 30) (fun _ => x_iconst rfl) ?_
      have r5 : (0 : Int) ≤ F 3 6 ∧ F 3 6 ≤ 16384 := H.frng 3 6
      have : MTL ((w18)) ((u3_5) - 5) 65535 4 ((a2)) ((u3_5) - 12) ((a1)) (0) ((a1) - (F 3 6)) := .inr ⟨by omega, rfl⟩
      exact w_ireturn rfl (k (0) σ _ _ H (SF_refl) (SA_refl) (F 3 6) (rfl) (show inr (0) from q_2) (show 0 ≤ (0) by first | exact q_1 | omega) (show (0) = 0 ∨ 4 ≤ (0) ∧ (0) ≤ (u3_5) - 5 - a1 by first | exact q_415 | omega) (show (0) = 0 ∨ (F 3 6) < a1 by first | exact q_414 | omega) (show MTL ((w18)) ((u3_5) - 5) 65535 4 (a2) ((u3_5) - 12) (a1) ((0)) (a1 - (F 3 6)) by assumption))
    · refine Ew_of (pcₚ := 25) (fun _ => x_iload_n rfl rk_s) ?_
      refine Ew_of (pcₚ := 26) (fun _ => x_iconst rfl) ?_
      refine w_icmpge (t := 31) rfl rfl (show inr (((u3_5 - 5) - a1)) from q_417 b2 b4 h2) (show inr (4) from q_216) (fun b6 => ?_) (fun b6 => ?_)
      · refine Ew_of (pcₚ := 32) (fun _ => x_iconst rfl) ?_
        refine Ew_of (pcₚ := 34) (fun _ => x_istore rfl) ?_
        refine Ew_of (pcₚ := 35) (fun _ => x_iload_n rfl (rk_o (rk_o (rfl) rfl rfl) rfl rfl)) ?_
        refine Ew_of (pcₚ := 36) (fun _ => x_iconst rfl) ?_
        refine w_isub rfl ?_
        refine Ew_of (pcₚ := 39) (fun _ => x_istore rfl) ?_
        have r7 : (0 : Int) ≤ F 3 6 ∧ F 3 6 ≤ 16384 := H.frng 3 6
        have : SCI ((w18)) ((u3_5) - 5) 65535 4 ((a2)) ((a1)) ((a1) - 1) 0 ((a1) - (F 3 6)) := SCI_0 (by omega) (by omega)
        suffices hl39 : ∀ (m : Nat), ∀ (ls : rO) (σ : rS) (F_39 : hF) (A_39 : hA) (x39_4 : Int) (x39_5 : Int), rlook ls 0 = some (.ref (D 3)) → rlook ls 1 = some (I (a1)) → rlook ls 2 = some (I (a2)) → rlook ls 3 = some (I (((u3_5 - 5) - a1))) → rlook ls 4 = some (I (x39_4)) → rlook ls 5 = some (I (x39_5)) → HS σ0 σ D N F_39 A_39 → SF [(3, 6)] F F_39 → SA [] A A_39 → ∀ y39_3_6 : Int, F_39 3 6 = y39_3_6 → (inr (x39_4)) → (inr (x39_5)) → ((x39_5) ≤ ((a1 - 1))) → (((a1 - 1)) ≤ (x39_5) ∨ ((-1)) ≤ (x39_5)) → ((x39_4) = 0 ∨ 4 ≤ (x39_4) ∧ (x39_4) ≤ (((u3_5 - 5) - a1))) → ((x39_4) = 0 ∨ (y39_3_6) < (a1)) → (SCI ((w18)) ((u3_5) - 5) 65535 4 ((a2)) ((a1)) ((x39_5)) ((x39_4)) ((a1) - (y39_3_6))) → ((x39_5) - ((-1))).toNat = m → Ew 361 (d + 1) 39 ls [] σ c s Q from
          hl39 _ _ σ _ _ (0) ((a1 - 1)) (rk_o (rk_o (rk_o (rfl) rfl rfl) rfl rfl) rfl rfl) (rk_o (rk_o (rk_o (rfl) rfl rfl) rfl rfl) rfl rfl) (rk_o (rk_o (rk_o (rfl) rfl rfl) rfl rfl) rfl rfl) (rk_o (rk_o (rk_s) rfl rfl) rfl rfl) (rk_o (rk_s) rfl rfl) (rk_s) H (SF_refl) (SA_refl) (F 3 6) (rfl)  (show inr (0) from q_2) (show inr ((a1 - 1)) from q_420 b2 h3) (show ((a1 - 1)) ≤ ((a1 - 1)) from q_419) (show ((a1 - 1)) ≤ ((a1 - 1)) ∨ ((-1)) ≤ ((a1 - 1)) from q_418) (show (0) = 0 ∨ 4 ≤ (0) ∧ (0) ≤ (((u3_5 - 5) - a1)) from q_415) (show (0) = 0 ∨ (F 3 6) < (a1) from q_414) (show SCI ((w18)) ((u3_5) - 5) 65535 4 ((a2)) ((a1)) (((a1 - 1))) ((0)) ((a1) - (F 3 6)) by assumption) rfl
        as_aux_lemma =>
        intro m
        induction m using Nat.strongRecOn with
        | _ m ih39 =>
          intro ls σ F_39 A_39 x39_4 x39_5 l39_0 l39_1 l39_2 l39_3 l39_4 l39_5 H hS_39 hA_39 y39_3_6 ey39_3_6  j39_0 j39_1 j39_2 j39_3 j39_4 j39_5 j39_6 hm39
          have r8 : (0 : Int) ≤ y39_3_6 ∧ y39_3_6 ≤ 16384 := rngE (show (0 : Int) ≤ F_39 3 6 ∧ F_39 3 6 ≤ 16384 from H.frng 3 6) (show F_39 3 6 = y39_3_6 from (ey39_3_6))
          have j39_s : SCI ((w18)) ((u3_5) - 5) 65535 4 ((a2)) ((a1)) ((x39_5)) ((x39_4)) ((a1) - (y39_3_6)) := j39_6
          refine Ew_of (pcₚ := 41) (fun _ => x_iload rfl l39_5) ?_
          refine w_iflt (t := 173) rfl rfl (show inr (x39_5) from j39_1) (fun b9 => ?_) (fun b9 => ?_)
          · have : MTL ((w18)) ((u3_5) - 5) 65535 4 ((a2)) ((u3_5) - 12) ((a1)) ((x39_4)) ((a1) - (y39_3_6)) := .inl ⟨by omega, SCI_end j39_s (by omega) (by omega)⟩
            refine Ew_of (pcₚ := 175) (fun _ => x_iload rfl l39_4) ?_
            exact w_ireturn rfl (k (x39_4) σ _ _ H (SF_trans (SF_refl) hS_39 (any_sub rfl)) (SA_trans (SA_refl) hA_39 (any_subA rfl)) (y39_3_6) ((ey39_3_6)) (show inr (x39_4) from j39_0) (show 0 ≤ (x39_4) from q_421 j39_4 j39_5) (show (x39_4) = 0 ∨ 4 ≤ (x39_4) ∧ (x39_4) ≤ (u3_5) - 5 - a1 from j39_4) (show (x39_4) = 0 ∨ (y39_3_6) < a1 from j39_5) (show MTL ((w18)) ((u3_5) - 5) 65535 4 (a2) ((u3_5) - 12) (a1) ((x39_4)) (a1 - (y39_3_6)) by assumption))
          · refine Ew_of (pcₚ := 45) (fun _ => x_iload_n rfl l39_1) ?_
            refine Ew_of (pcₚ := 47) (fun _ => x_iload rfl l39_5) ?_
            refine w_isub rfl ?_
            refine Ew_of (pcₚ := 50) (fun _ => x_ldc (z := 65535) rfl (by decide)) ?_
            refine w_icmpgt (t := 173) rfl rfl (show inr ((a1 - x39_5)) from q_423 b9 h3 j39_2) (show inr (65535) from q_422) (fun b10 => ?_) (fun b10 => ?_)
            · have : MTL ((w18)) ((u3_5) - 5) 65535 4 ((a2)) ((u3_5) - 12) ((a1)) ((x39_4)) ((a1) - (y39_3_6)) := .inl ⟨by omega, SCI_end j39_s (by omega) (by omega)⟩
              refine Ew_of (pcₚ := 175) (fun _ => x_iload rfl l39_4) ?_
              exact w_ireturn rfl (k (x39_4) σ _ _ H (SF_trans (SF_refl) hS_39 (any_sub rfl)) (SA_trans (SA_refl) hA_39 (any_subA rfl)) (y39_3_6) ((ey39_3_6)) (show inr (x39_4) from j39_0) (show 0 ≤ (x39_4) from q_424 b10 b9 h3 j39_0 j39_5) (show (x39_4) = 0 ∨ 4 ≤ (x39_4) ∧ (x39_4) ≤ (u3_5) - 5 - a1 from j39_4) (show (x39_4) = 0 ∨ (y39_3_6) < a1 from j39_5) (show MTL ((w18)) ((u3_5) - 5) 65535 4 (a2) ((u3_5) - 12) (a1) ((x39_4)) (a1 - (y39_3_6)) by assumption))
            · refine Ew_of (pcₚ := 54) (fun _ => x_aload_n rfl l39_0) ?_
              refine Ew_of (pcₚ := 56) (fun _ => x_iload rfl l39_5) ?_
              refine Ew_of (pcₚ := 57) (fun _ => x_iload_n rfl l39_1) ?_
              refine Ew_of (pcₚ := 58) (fun _ => x_iload_n rfl l39_3) ?_
              refine w_inv H (o := 3) rfl rfl rfl (H.perm 3 rfl) rfl rfl (by rfl) (M360 H (u3_5) (((hS_39 3 5 rfl).trans (eu3_5))) (w18) ((funext (hA_39 18 rfl)).trans (ew18)) (show inr (x39_5) from j39_1) (show inr (a1) from h0) (show inr (((u3_5 - 5) - a1)) from q_426 b2 b6 h2) (show 0 ≤ (u3_5) ∧ (u3_5) ≤ 16384 from h2) (show 0 ≤ (x39_5) ∧ (x39_5) < (a1) ∧ (((u3_5 - 5) - a1)) + (a1) ≤ 16384 ∧ 0 ≤ (((u3_5 - 5) - a1)) from q_425 b6 b9 h2 j39_2) (fun z15 σ F11 A12 H hS13 hA14 pz15_0 pz15_1 pz15_2 => ⟨rfl, ?_⟩))
              have hcp : cpl ((w18)) ((x39_5)) ((a1)) ((u3_5) - 5) = (z15) := by have h := pz15_2; rw [show (a1) + (((u3_5 - 5) - a1)) = (u3_5) - 5 by omega] at h; exact h.symm
              refine Ew_of (pcₚ := 63) (fun _ => x_istore rfl) ?_
              refine Ew_of (pcₚ := 64) (fun _ => x_iload_n rfl (rk_o (l39_2) rfl rfl)) ?_
              refine w_ifne (t := 86) rfl rfl (show inr (a2) from h1) (fun b16 => ?_) (fun b16 => ?_)
              · refine Ew_of (pcₚ := 87) (fun _ => x_iload_n rfl (rk_o (l39_2) rfl rfl)) ?_
                refine Ew_of (pcₚ := 88) (fun _ => x_iconst rfl) ?_
                refine w_icmpne (t := 129) rfl rfl (show inr (a2) from h1) (show inr (1) from q_135) (fun b17 => ?_) (fun b17 => ?_)
                · refine Ew_of (pcₚ := 131) (fun _ => x_iload rfl rk_s) ?_
                  refine Ew_of (pcₚ := 132) (fun _ => x_iconst rfl) ?_
                  refine w_icmplt (t := 146) rfl rfl (show inr (z15) from pz15_0) (show inr (4) from q_216) (fun b18 => ?_) (fun b18 => ?_)
                  · refine Ew_of (pcₚ := 147) (fun _ => x_iconst rfl) ?_
                    refine Ew_of (pcₚ := 149) (fun _ => x_istore rfl) ?_
                    refine Ew_of (pcₚ := 151) (fun _ => x_iload rfl rk_s) ?_
                    refine w_ifne (t := 157) rfl rfl (show inr (0) from q_2) (fun b19 => ?_) (fun b19 => ?_)
                    · refine Ew_of (pcₚ := 159) (fun _ => x_iload rfl (rk_o (rk_s) rfl rfl)) ?_
                      refine Ew_of (pcₚ := 161) (fun _ => x_istore rfl) ?_
                      refine Ew_of (pcₚ := 162) (fun _ => x_aload_n rfl (rk_o (rk_o (rk_o (l39_0) rfl rfl) rfl rfl) rfl rfl)) ?_
                      refine Ew_of (pcₚ := 164) (fun _ => x_iload rfl (rk_o (rk_o (rk_o (l39_5) rfl rfl) rfl rfl) rfl rfl)) ?_
                      refine w_pI H (o := 3) rfl rfl (H.perm 3 rfl) rfl rfl rfl (fun _ => rfl) rfl (show (0 : Int) ≤ x39_5 ∧ x39_5 ≤ 16384 from q_427 b9 h3 j39_2) (fun σ H => ?_)
                      refine Ew_of (pcₚ := 170) (fun _ => x_iinc (len := 3) rfl (rk_o (rk_o (rk_o (l39_5) rfl rfl) rfl rfl) rfl rfl)) ?_
                      refine Ew_of (pcₚ := 39) (fun _ => x_goto rfl rfl) ?_
                      have : SCI ((w18)) ((u3_5) - 5) 65535 4 ((a2)) ((a1)) (((x39_5 + (-1)))) ((z15)) ((a1) - (x39_5)) := by first | exact SCI_y j39_s rfl (by omega) (by omega) (by omega) hcp (by unfold BET; omega) (by omega) | exact SCI_n j39_s rfl hcp (by unfold BET; omega) (by omega)
                      exact ih39 _ (msE hm39 q_432 (q_433 b9)) _ σ _ _ (z15) ((x39_5 + (-1))) (rk_o (rk_o (rk_o (rk_o (l39_0) rfl rfl) rfl rfl) rfl rfl) rfl rfl) (rk_o (rk_o (rk_o (rk_o (l39_1) rfl rfl) rfl rfl) rfl rfl) rfl rfl) (rk_o (rk_o (rk_o (rk_o (l39_2) rfl rfl) rfl rfl) rfl rfl) rfl rfl) (rk_o (rk_o (rk_o (rk_o (l39_3) rfl rfl) rfl rfl) rfl rfl) rfl rfl) (rk_o (rk_s) rfl rfl) (rk_s) H (SF_upd (SF_trans (hS_39) hS13 (any_sub rfl)) rfl) (SA_trans (hA_39) hA14 (any_subA rfl)) (x39_5) (rfl)  (show inr (z15) from pz15_0) (show inr ((x39_5 + (-1))) from q_431 b9 j39_1) (show ((x39_5 + (-1))) ≤ ((a1 - 1)) from q_430 j39_2) (show ((a1 - 1)) ≤ ((x39_5 + (-1))) ∨ ((-1)) ≤ ((x39_5 + (-1))) from q_429 b9) (show (z15) = 0 ∨ 4 ≤ (z15) ∧ (z15) ≤ (((u3_5 - 5) - a1)) by omega) (show (z15) = 0 ∨ (x39_5) < (a1) from q_428 j39_2) (show SCI ((w18)) ((u3_5) - 5) 65535 4 ((a2)) ((a1)) (((x39_5 + (-1)))) ((z15)) ((a1) - (x39_5)) by assumption) rfl
                    · refine Ew_of (pcₚ := 167) (fun _ => x_goto rfl rfl) ?_
                      refine Ew_of (pcₚ := 170) (fun _ => x_iinc (len := 3) rfl (rk_o (rk_o (l39_5) rfl rfl) rfl rfl)) ?_
                      refine Ew_of (pcₚ := 39) (fun _ => x_goto rfl rfl) ?_
                      have : SCI ((w18)) ((u3_5) - 5) 65535 4 ((a2)) ((a1)) (((x39_5 + (-1)))) ((x39_4)) ((a1) - (y39_3_6)) := by first | exact SCI_y j39_s rfl (by omega) (by omega) (by omega) hcp (by unfold BET; omega) (by omega) | exact SCI_n j39_s rfl hcp (by unfold BET; omega) (by omega)
                      exact ih39 _ (msE hm39 q_432 (q_433 b9)) _ σ _ _ (x39_4) ((x39_5 + (-1))) (rk_o (rk_o (rk_o (l39_0) rfl rfl) rfl rfl) rfl rfl) (rk_o (rk_o (rk_o (l39_1) rfl rfl) rfl rfl) rfl rfl) (rk_o (rk_o (rk_o (l39_2) rfl rfl) rfl rfl) rfl rfl) (rk_o (rk_o (rk_o (l39_3) rfl rfl) rfl rfl) rfl rfl) (rk_o (rk_o (rk_o (l39_4) rfl rfl) rfl rfl) rfl rfl) (rk_s) H (SF_trans (hS_39) hS13 (any_sub rfl)) (SA_trans (hA_39) hA14 (any_subA rfl)) (y39_3_6) (((hS13 3 6 rfl).trans (ey39_3_6)))  (show inr (x39_4) from j39_0) (show inr ((x39_5 + (-1))) from q_431 b9 j39_1) (show ((x39_5 + (-1))) ≤ ((a1 - 1)) from q_430 j39_2) (show ((a1 - 1)) ≤ ((x39_5 + (-1))) ∨ ((-1)) ≤ ((x39_5 + (-1))) from q_429 b9) (show (x39_4) = 0 ∨ 4 ≤ (x39_4) ∧ (x39_4) ≤ (((u3_5 - 5) - a1)) from j39_4) (show (x39_4) = 0 ∨ (y39_3_6) < (a1) from j39_5) (show SCI ((w18)) ((u3_5) - 5) 65535 4 ((a2)) ((a1)) (((x39_5 + (-1)))) ((x39_4)) ((a1) - (y39_3_6)) by assumption) rfl
                  · refine Ew_of (pcₚ := 137) (fun _ => x_iload rfl rk_s) ?_
                    refine Ew_of (pcₚ := 139) (fun _ => x_iload rfl (rk_o (l39_4) rfl rfl)) ?_
                    refine w_icmple (t := 146) rfl rfl (show inr (z15) from pz15_0) (show inr (x39_4) from j39_0) (fun b20 => ?_) (fun b20 => ?_)
                    · refine Ew_of (pcₚ := 147) (fun _ => x_iconst rfl) ?_
                      refine Ew_of (pcₚ := 149) (fun _ => x_istore rfl) ?_
                      refine Ew_of (pcₚ := 151) (fun _ => x_iload rfl rk_s) ?_
                      refine w_ifne (t := 157) rfl rfl (show inr (0) from q_2) (fun b21 => ?_) (fun b21 => ?_)
                      · refine Ew_of (pcₚ := 159) (fun _ => x_iload rfl (rk_o (rk_s) rfl rfl)) ?_
                        refine Ew_of (pcₚ := 161) (fun _ => x_istore rfl) ?_
                        refine Ew_of (pcₚ := 162) (fun _ => x_aload_n rfl (rk_o (rk_o (rk_o (l39_0) rfl rfl) rfl rfl) rfl rfl)) ?_
                        refine Ew_of (pcₚ := 164) (fun _ => x_iload rfl (rk_o (rk_o (rk_o (l39_5) rfl rfl) rfl rfl) rfl rfl)) ?_
                        refine w_pI H (o := 3) rfl rfl (H.perm 3 rfl) rfl rfl rfl (fun _ => rfl) rfl (show (0 : Int) ≤ x39_5 ∧ x39_5 ≤ 16384 from q_427 b9 h3 j39_2) (fun σ H => ?_)
                        refine Ew_of (pcₚ := 170) (fun _ => x_iinc (len := 3) rfl (rk_o (rk_o (rk_o (l39_5) rfl rfl) rfl rfl) rfl rfl)) ?_
                        refine Ew_of (pcₚ := 39) (fun _ => x_goto rfl rfl) ?_
                        have : SCI ((w18)) ((u3_5) - 5) 65535 4 ((a2)) ((a1)) (((x39_5 + (-1)))) ((z15)) ((a1) - (x39_5)) := by first | exact SCI_y j39_s rfl (by omega) (by omega) (by omega) hcp (by unfold BET; omega) (by omega) | exact SCI_n j39_s rfl hcp (by unfold BET; omega) (by omega)
                        exact ih39 _ (msE hm39 q_432 (q_433 b9)) _ σ _ _ (z15) ((x39_5 + (-1))) (rk_o (rk_o (rk_o (rk_o (l39_0) rfl rfl) rfl rfl) rfl rfl) rfl rfl) (rk_o (rk_o (rk_o (rk_o (l39_1) rfl rfl) rfl rfl) rfl rfl) rfl rfl) (rk_o (rk_o (rk_o (rk_o (l39_2) rfl rfl) rfl rfl) rfl rfl) rfl rfl) (rk_o (rk_o (rk_o (rk_o (l39_3) rfl rfl) rfl rfl) rfl rfl) rfl rfl) (rk_o (rk_s) rfl rfl) (rk_s) H (SF_upd (SF_trans (hS_39) hS13 (any_sub rfl)) rfl) (SA_trans (hA_39) hA14 (any_subA rfl)) (x39_5) (rfl)  (show inr (z15) from pz15_0) (show inr ((x39_5 + (-1))) from q_431 b9 j39_1) (show ((x39_5 + (-1))) ≤ ((a1 - 1)) from q_430 j39_2) (show ((a1 - 1)) ≤ ((x39_5 + (-1))) ∨ ((-1)) ≤ ((x39_5 + (-1))) from q_429 b9) (show (z15) = 0 ∨ 4 ≤ (z15) ∧ (z15) ≤ (((u3_5 - 5) - a1)) from q_434 b18 pz15_1) (show (z15) = 0 ∨ (x39_5) < (a1) from q_428 j39_2) (show SCI ((w18)) ((u3_5) - 5) 65535 4 ((a2)) ((a1)) (((x39_5 + (-1)))) ((z15)) ((a1) - (x39_5)) by assumption) rfl
                      · refine Ew_of (pcₚ := 167) (fun _ => x_goto rfl rfl) ?_
                        refine Ew_of (pcₚ := 170) (fun _ => x_iinc (len := 3) rfl (rk_o (rk_o (l39_5) rfl rfl) rfl rfl)) ?_
                        refine Ew_of (pcₚ := 39) (fun _ => x_goto rfl rfl) ?_
                        have : SCI ((w18)) ((u3_5) - 5) 65535 4 ((a2)) ((a1)) (((x39_5 + (-1)))) ((x39_4)) ((a1) - (y39_3_6)) := by first | exact SCI_y j39_s rfl (by omega) (by omega) (by omega) hcp (by unfold BET; omega) (by omega) | exact SCI_n j39_s rfl hcp (by unfold BET; omega) (by omega)
                        exact ih39 _ (msE hm39 q_432 (q_433 b9)) _ σ _ _ (x39_4) ((x39_5 + (-1))) (rk_o (rk_o (rk_o (l39_0) rfl rfl) rfl rfl) rfl rfl) (rk_o (rk_o (rk_o (l39_1) rfl rfl) rfl rfl) rfl rfl) (rk_o (rk_o (rk_o (l39_2) rfl rfl) rfl rfl) rfl rfl) (rk_o (rk_o (rk_o (l39_3) rfl rfl) rfl rfl) rfl rfl) (rk_o (rk_o (rk_o (l39_4) rfl rfl) rfl rfl) rfl rfl) (rk_s) H (SF_trans (hS_39) hS13 (any_sub rfl)) (SA_trans (hA_39) hA14 (any_subA rfl)) (y39_3_6) (((hS13 3 6 rfl).trans (ey39_3_6)))  (show inr (x39_4) from j39_0) (show inr ((x39_5 + (-1))) from q_431 b9 j39_1) (show ((x39_5 + (-1))) ≤ ((a1 - 1)) from q_430 j39_2) (show ((a1 - 1)) ≤ ((x39_5 + (-1))) ∨ ((-1)) ≤ ((x39_5 + (-1))) from q_429 b9) (show (x39_4) = 0 ∨ 4 ≤ (x39_4) ∧ (x39_4) ≤ (((u3_5 - 5) - a1)) from j39_4) (show (x39_4) = 0 ∨ (y39_3_6) < (a1) from j39_5) (show SCI ((w18)) ((u3_5) - 5) 65535 4 ((a2)) ((a1)) (((x39_5 + (-1)))) ((x39_4)) ((a1) - (y39_3_6)) by assumption) rfl
                    · refine Ew_of (pcₚ := 143) (fun _ => x_iconst rfl) ?_
                      refine Ew_of (pcₚ := 147) (fun _ => x_goto rfl rfl) ?_
                      refine Ew_of (pcₚ := 149) (fun _ => x_istore rfl) ?_
                      refine Ew_of (pcₚ := 151) (fun _ => x_iload rfl rk_s) ?_
                      refine w_ifne (t := 157) rfl rfl (show inr (1) from q_135) (fun b22 => ?_) (fun b22 => ?_)
                      · refine Ew_of (pcₚ := 159) (fun _ => x_iload rfl (rk_o (rk_s) rfl rfl)) ?_
                        refine Ew_of (pcₚ := 161) (fun _ => x_istore rfl) ?_
                        refine Ew_of (pcₚ := 162) (fun _ => x_aload_n rfl (rk_o (rk_o (rk_o (l39_0) rfl rfl) rfl rfl) rfl rfl)) ?_
                        refine Ew_of (pcₚ := 164) (fun _ => x_iload rfl (rk_o (rk_o (rk_o (l39_5) rfl rfl) rfl rfl) rfl rfl)) ?_
                        refine w_pI H (o := 3) rfl rfl (H.perm 3 rfl) rfl rfl rfl (fun _ => rfl) rfl (show (0 : Int) ≤ x39_5 ∧ x39_5 ≤ 16384 from q_427 b9 h3 j39_2) (fun σ H => ?_)
                        refine Ew_of (pcₚ := 170) (fun _ => x_iinc (len := 3) rfl (rk_o (rk_o (rk_o (l39_5) rfl rfl) rfl rfl) rfl rfl)) ?_
                        refine Ew_of (pcₚ := 39) (fun _ => x_goto rfl rfl) ?_
                        have : SCI ((w18)) ((u3_5) - 5) 65535 4 ((a2)) ((a1)) (((x39_5 + (-1)))) ((z15)) ((a1) - (x39_5)) := by first | exact SCI_y j39_s rfl (by omega) (by omega) (by omega) hcp (by unfold BET; omega) (by omega) | exact SCI_n j39_s rfl hcp (by unfold BET; omega) (by omega)
                        exact ih39 _ (msE hm39 q_432 (q_433 b9)) _ σ _ _ (z15) ((x39_5 + (-1))) (rk_o (rk_o (rk_o (rk_o (l39_0) rfl rfl) rfl rfl) rfl rfl) rfl rfl) (rk_o (rk_o (rk_o (rk_o (l39_1) rfl rfl) rfl rfl) rfl rfl) rfl rfl) (rk_o (rk_o (rk_o (rk_o (l39_2) rfl rfl) rfl rfl) rfl rfl) rfl rfl) (rk_o (rk_o (rk_o (rk_o (l39_3) rfl rfl) rfl rfl) rfl rfl) rfl rfl) (rk_o (rk_s) rfl rfl) (rk_s) H (SF_upd (SF_trans (hS_39) hS13 (any_sub rfl)) rfl) (SA_trans (hA_39) hA14 (any_subA rfl)) (x39_5) (rfl)  (show inr (z15) from pz15_0) (show inr ((x39_5 + (-1))) from q_431 b9 j39_1) (show ((x39_5 + (-1))) ≤ ((a1 - 1)) from q_430 j39_2) (show ((a1 - 1)) ≤ ((x39_5 + (-1))) ∨ ((-1)) ≤ ((x39_5 + (-1))) from q_429 b9) (show (z15) = 0 ∨ 4 ≤ (z15) ∧ (z15) ≤ (((u3_5 - 5) - a1)) from q_434 b18 pz15_1) (show (z15) = 0 ∨ (x39_5) < (a1) from q_428 j39_2) (show SCI ((w18)) ((u3_5) - 5) 65535 4 ((a2)) ((a1)) (((x39_5 + (-1)))) ((z15)) ((a1) - (x39_5)) by assumption) rfl
                      · refine Ew_of (pcₚ := 167) (fun _ => x_goto rfl rfl) ?_
                        refine Ew_of (pcₚ := 170) (fun _ => x_iinc (len := 3) rfl (rk_o (rk_o (l39_5) rfl rfl) rfl rfl)) ?_
                        refine Ew_of (pcₚ := 39) (fun _ => x_goto rfl rfl) ?_
                        have : SCI ((w18)) ((u3_5) - 5) 65535 4 ((a2)) ((a1)) (((x39_5 + (-1)))) ((x39_4)) ((a1) - (y39_3_6)) := by first | exact SCI_y j39_s rfl (by omega) (by omega) (by omega) hcp (by unfold BET; omega) (by omega) | exact SCI_n j39_s rfl hcp (by unfold BET; omega) (by omega)
                        exact ih39 _ (msE hm39 q_432 (q_433 b9)) _ σ _ _ (x39_4) ((x39_5 + (-1))) (rk_o (rk_o (rk_o (l39_0) rfl rfl) rfl rfl) rfl rfl) (rk_o (rk_o (rk_o (l39_1) rfl rfl) rfl rfl) rfl rfl) (rk_o (rk_o (rk_o (l39_2) rfl rfl) rfl rfl) rfl rfl) (rk_o (rk_o (rk_o (l39_3) rfl rfl) rfl rfl) rfl rfl) (rk_o (rk_o (rk_o (l39_4) rfl rfl) rfl rfl) rfl rfl) (rk_s) H (SF_trans (hS_39) hS13 (any_sub rfl)) (SA_trans (hA_39) hA14 (any_subA rfl)) (y39_3_6) (((hS13 3 6 rfl).trans (ey39_3_6)))  (show inr (x39_4) from j39_0) (show inr ((x39_5 + (-1))) from q_431 b9 j39_1) (show ((x39_5 + (-1))) ≤ ((a1 - 1)) from q_430 j39_2) (show ((a1 - 1)) ≤ ((x39_5 + (-1))) ∨ ((-1)) ≤ ((x39_5 + (-1))) from q_429 b9) (show (x39_4) = 0 ∨ 4 ≤ (x39_4) ∧ (x39_4) ≤ (((u3_5 - 5) - a1)) from j39_4) (show (x39_4) = 0 ∨ (y39_3_6) < (a1) from j39_5) (show SCI ((w18)) ((u3_5) - 5) 65535 4 ((a2)) ((a1)) (((x39_5 + (-1)))) ((x39_4)) ((a1) - (y39_3_6)) by assumption) rfl
                · refine Ew_of (pcₚ := 93) (fun _ => x_iload rfl (rk_o (l39_4) rfl rfl)) ?_
                  refine w_ifne (t := 102) rfl rfl (show inr (x39_4) from j39_0) (fun b23 => ?_) (fun b23 => ?_)
                  · refine Ew_of (pcₚ := 104) (fun _ => x_iload rfl (rk_o (l39_4) rfl rfl)) ?_
                    refine w_ifle (t := 125) rfl rfl (show inr (x39_4) from j39_0) (fun b24 => ?_) (fun b24 => ?_)
                    · refine Ew_of (pcₚ := 126) (fun _ => x_iconst rfl) ?_
                      refine Ew_of (pcₚ := 147) (fun _ => x_goto rfl rfl) ?_
                      refine Ew_of (pcₚ := 149) (fun _ => x_istore rfl) ?_
                      refine Ew_of (pcₚ := 151) (fun _ => x_iload rfl rk_s) ?_
                      refine w_ifne (t := 157) rfl rfl (show inr (0) from q_2) (fun b25 => ?_) (fun b25 => ?_)
                      · refine Ew_of (pcₚ := 159) (fun _ => x_iload rfl (rk_o (rk_s) rfl rfl)) ?_
                        refine Ew_of (pcₚ := 161) (fun _ => x_istore rfl) ?_
                        refine Ew_of (pcₚ := 162) (fun _ => x_aload_n rfl (rk_o (rk_o (rk_o (l39_0) rfl rfl) rfl rfl) rfl rfl)) ?_
                        refine Ew_of (pcₚ := 164) (fun _ => x_iload rfl (rk_o (rk_o (rk_o (l39_5) rfl rfl) rfl rfl) rfl rfl)) ?_
                        refine w_pI H (o := 3) rfl rfl (H.perm 3 rfl) rfl rfl rfl (fun _ => rfl) rfl (show (0 : Int) ≤ x39_5 ∧ x39_5 ≤ 16384 from q_427 b9 h3 j39_2) (fun σ H => ?_)
                        refine Ew_of (pcₚ := 170) (fun _ => x_iinc (len := 3) rfl (rk_o (rk_o (rk_o (l39_5) rfl rfl) rfl rfl) rfl rfl)) ?_
                        refine Ew_of (pcₚ := 39) (fun _ => x_goto rfl rfl) ?_
                        have : SCI ((w18)) ((u3_5) - 5) 65535 4 ((a2)) ((a1)) (((x39_5 + (-1)))) ((z15)) ((a1) - (x39_5)) := by first | exact SCI_y j39_s rfl (by omega) (by omega) (by omega) hcp (by unfold BET; omega) (by omega) | exact SCI_n j39_s rfl hcp (by unfold BET; omega) (by omega)
                        exact ih39 _ (msE hm39 q_432 (q_433 b9)) _ σ _ _ (z15) ((x39_5 + (-1))) (rk_o (rk_o (rk_o (rk_o (l39_0) rfl rfl) rfl rfl) rfl rfl) rfl rfl) (rk_o (rk_o (rk_o (rk_o (l39_1) rfl rfl) rfl rfl) rfl rfl) rfl rfl) (rk_o (rk_o (rk_o (rk_o (l39_2) rfl rfl) rfl rfl) rfl rfl) rfl rfl) (rk_o (rk_o (rk_o (rk_o (l39_3) rfl rfl) rfl rfl) rfl rfl) rfl rfl) (rk_o (rk_s) rfl rfl) (rk_s) H (SF_upd (SF_trans (hS_39) hS13 (any_sub rfl)) rfl) (SA_trans (hA_39) hA14 (any_subA rfl)) (x39_5) (rfl)  (show inr (z15) from pz15_0) (show inr ((x39_5 + (-1))) from q_431 b9 j39_1) (show ((x39_5 + (-1))) ≤ ((a1 - 1)) from q_430 j39_2) (show ((a1 - 1)) ≤ ((x39_5 + (-1))) ∨ ((-1)) ≤ ((x39_5 + (-1))) from q_429 b9) (show (z15) = 0 ∨ 4 ≤ (z15) ∧ (z15) ≤ (((u3_5 - 5) - a1)) by omega) (show (z15) = 0 ∨ (x39_5) < (a1) from q_428 j39_2) (show SCI ((w18)) ((u3_5) - 5) 65535 4 ((a2)) ((a1)) (((x39_5 + (-1)))) ((z15)) ((a1) - (x39_5)) by assumption) rfl
                      · refine Ew_of (pcₚ := 167) (fun _ => x_goto rfl rfl) ?_
                        refine Ew_of (pcₚ := 170) (fun _ => x_iinc (len := 3) rfl (rk_o (rk_o (l39_5) rfl rfl) rfl rfl)) ?_
                        refine Ew_of (pcₚ := 39) (fun _ => x_goto rfl rfl) ?_
                        have : SCI ((w18)) ((u3_5) - 5) 65535 4 ((a2)) ((a1)) (((x39_5 + (-1)))) ((x39_4)) ((a1) - (y39_3_6)) := by first | exact SCI_y j39_s rfl (by omega) (by omega) (by omega) hcp (by unfold BET; omega) (by omega) | exact SCI_n j39_s rfl hcp (by unfold BET; omega) (by omega)
                        exact ih39 _ (msE hm39 q_432 (q_433 b9)) _ σ _ _ (x39_4) ((x39_5 + (-1))) (rk_o (rk_o (rk_o (l39_0) rfl rfl) rfl rfl) rfl rfl) (rk_o (rk_o (rk_o (l39_1) rfl rfl) rfl rfl) rfl rfl) (rk_o (rk_o (rk_o (l39_2) rfl rfl) rfl rfl) rfl rfl) (rk_o (rk_o (rk_o (l39_3) rfl rfl) rfl rfl) rfl rfl) (rk_o (rk_o (rk_o (l39_4) rfl rfl) rfl rfl) rfl rfl) (rk_s) H (SF_trans (hS_39) hS13 (any_sub rfl)) (SA_trans (hA_39) hA14 (any_subA rfl)) (y39_3_6) (((hS13 3 6 rfl).trans (ey39_3_6)))  (show inr (x39_4) from j39_0) (show inr ((x39_5 + (-1))) from q_431 b9 j39_1) (show ((x39_5 + (-1))) ≤ ((a1 - 1)) from q_430 j39_2) (show ((a1 - 1)) ≤ ((x39_5 + (-1))) ∨ ((-1)) ≤ ((x39_5 + (-1))) from q_429 b9) (show (x39_4) = 0 ∨ 4 ≤ (x39_4) ∧ (x39_4) ≤ (((u3_5 - 5) - a1)) from j39_4) (show (x39_4) = 0 ∨ (y39_3_6) < (a1) from j39_5) (show SCI ((w18)) ((u3_5) - 5) 65535 4 ((a2)) ((a1)) (((x39_5 + (-1)))) ((x39_4)) ((a1) - (y39_3_6)) by assumption) rfl
                    · refine Ew_of (pcₚ := 109) (fun _ => x_iload rfl (rk_o (l39_4) rfl rfl)) ?_
                      refine Ew_of (pcₚ := 111) (fun _ => x_bipush (z := 8) rfl (by decide)) ?_
                      refine w_icmpge (t := 125) rfl rfl (show inr (x39_4) from j39_0) (show inr (8) from q_141) (fun b26 => ?_) (fun b26 => ?_)
                      · refine Ew_of (pcₚ := 126) (fun _ => x_iconst rfl) ?_
                        refine Ew_of (pcₚ := 147) (fun _ => x_goto rfl rfl) ?_
                        refine Ew_of (pcₚ := 149) (fun _ => x_istore rfl) ?_
                        refine Ew_of (pcₚ := 151) (fun _ => x_iload rfl rk_s) ?_
                        refine w_ifne (t := 157) rfl rfl (show inr (0) from q_2) (fun b27 => ?_) (fun b27 => ?_)
                        · refine Ew_of (pcₚ := 159) (fun _ => x_iload rfl (rk_o (rk_s) rfl rfl)) ?_
                          refine Ew_of (pcₚ := 161) (fun _ => x_istore rfl) ?_
                          refine Ew_of (pcₚ := 162) (fun _ => x_aload_n rfl (rk_o (rk_o (rk_o (l39_0) rfl rfl) rfl rfl) rfl rfl)) ?_
                          refine Ew_of (pcₚ := 164) (fun _ => x_iload rfl (rk_o (rk_o (rk_o (l39_5) rfl rfl) rfl rfl) rfl rfl)) ?_
                          refine w_pI H (o := 3) rfl rfl (H.perm 3 rfl) rfl rfl rfl (fun _ => rfl) rfl (show (0 : Int) ≤ x39_5 ∧ x39_5 ≤ 16384 from q_427 b9 h3 j39_2) (fun σ H => ?_)
                          refine Ew_of (pcₚ := 170) (fun _ => x_iinc (len := 3) rfl (rk_o (rk_o (rk_o (l39_5) rfl rfl) rfl rfl) rfl rfl)) ?_
                          refine Ew_of (pcₚ := 39) (fun _ => x_goto rfl rfl) ?_
                          have : SCI ((w18)) ((u3_5) - 5) 65535 4 ((a2)) ((a1)) (((x39_5 + (-1)))) ((z15)) ((a1) - (x39_5)) := by first | exact SCI_y j39_s rfl (by omega) (by omega) (by omega) hcp (by unfold BET; omega) (by omega) | exact SCI_n j39_s rfl hcp (by unfold BET; omega) (by omega)
                          exact ih39 _ (msE hm39 q_432 (q_433 b9)) _ σ _ _ (z15) ((x39_5 + (-1))) (rk_o (rk_o (rk_o (rk_o (l39_0) rfl rfl) rfl rfl) rfl rfl) rfl rfl) (rk_o (rk_o (rk_o (rk_o (l39_1) rfl rfl) rfl rfl) rfl rfl) rfl rfl) (rk_o (rk_o (rk_o (rk_o (l39_2) rfl rfl) rfl rfl) rfl rfl) rfl rfl) (rk_o (rk_o (rk_o (rk_o (l39_3) rfl rfl) rfl rfl) rfl rfl) rfl rfl) (rk_o (rk_s) rfl rfl) (rk_s) H (SF_upd (SF_trans (hS_39) hS13 (any_sub rfl)) rfl) (SA_trans (hA_39) hA14 (any_subA rfl)) (x39_5) (rfl)  (show inr (z15) from pz15_0) (show inr ((x39_5 + (-1))) from q_431 b9 j39_1) (show ((x39_5 + (-1))) ≤ ((a1 - 1)) from q_430 j39_2) (show ((a1 - 1)) ≤ ((x39_5 + (-1))) ∨ ((-1)) ≤ ((x39_5 + (-1))) from q_429 b9) (show (z15) = 0 ∨ 4 ≤ (z15) ∧ (z15) ≤ (((u3_5 - 5) - a1)) by omega) (show (z15) = 0 ∨ (x39_5) < (a1) from q_428 j39_2) (show SCI ((w18)) ((u3_5) - 5) 65535 4 ((a2)) ((a1)) (((x39_5 + (-1)))) ((z15)) ((a1) - (x39_5)) by assumption) rfl
                        · refine Ew_of (pcₚ := 167) (fun _ => x_goto rfl rfl) ?_
                          refine Ew_of (pcₚ := 170) (fun _ => x_iinc (len := 3) rfl (rk_o (rk_o (l39_5) rfl rfl) rfl rfl)) ?_
                          refine Ew_of (pcₚ := 39) (fun _ => x_goto rfl rfl) ?_
                          have : SCI ((w18)) ((u3_5) - 5) 65535 4 ((a2)) ((a1)) (((x39_5 + (-1)))) ((x39_4)) ((a1) - (y39_3_6)) := by first | exact SCI_y j39_s rfl (by omega) (by omega) (by omega) hcp (by unfold BET; omega) (by omega) | exact SCI_n j39_s rfl hcp (by unfold BET; omega) (by omega)
                          exact ih39 _ (msE hm39 q_432 (q_433 b9)) _ σ _ _ (x39_4) ((x39_5 + (-1))) (rk_o (rk_o (rk_o (l39_0) rfl rfl) rfl rfl) rfl rfl) (rk_o (rk_o (rk_o (l39_1) rfl rfl) rfl rfl) rfl rfl) (rk_o (rk_o (rk_o (l39_2) rfl rfl) rfl rfl) rfl rfl) (rk_o (rk_o (rk_o (l39_3) rfl rfl) rfl rfl) rfl rfl) (rk_o (rk_o (rk_o (l39_4) rfl rfl) rfl rfl) rfl rfl) (rk_s) H (SF_trans (hS_39) hS13 (any_sub rfl)) (SA_trans (hA_39) hA14 (any_subA rfl)) (y39_3_6) (((hS13 3 6 rfl).trans (ey39_3_6)))  (show inr (x39_4) from j39_0) (show inr ((x39_5 + (-1))) from q_431 b9 j39_1) (show ((x39_5 + (-1))) ≤ ((a1 - 1)) from q_430 j39_2) (show ((a1 - 1)) ≤ ((x39_5 + (-1))) ∨ ((-1)) ≤ ((x39_5 + (-1))) from q_429 b9) (show (x39_4) = 0 ∨ 4 ≤ (x39_4) ∧ (x39_4) ≤ (((u3_5 - 5) - a1)) from j39_4) (show (x39_4) = 0 ∨ (y39_3_6) < (a1) from j39_5) (show SCI ((w18)) ((u3_5) - 5) 65535 4 ((a2)) ((a1)) (((x39_5 + (-1)))) ((x39_4)) ((a1) - (y39_3_6)) by assumption) rfl
                      · refine Ew_of (pcₚ := 116) (fun _ => x_iload rfl rk_s) ?_
                        refine Ew_of (pcₚ := 118) (fun _ => x_bipush (z := 8) rfl (by decide)) ?_
                        refine w_icmplt (t := 125) rfl rfl (show inr (z15) from pz15_0) (show inr (8) from q_141) (fun b28 => ?_) (fun b28 => ?_)
                        · refine Ew_of (pcₚ := 126) (fun _ => x_iconst rfl) ?_
                          refine Ew_of (pcₚ := 147) (fun _ => x_goto rfl rfl) ?_
                          refine Ew_of (pcₚ := 149) (fun _ => x_istore rfl) ?_
                          refine Ew_of (pcₚ := 151) (fun _ => x_iload rfl rk_s) ?_
                          refine w_ifne (t := 157) rfl rfl (show inr (0) from q_2) (fun b29 => ?_) (fun b29 => ?_)
                          · refine Ew_of (pcₚ := 159) (fun _ => x_iload rfl (rk_o (rk_s) rfl rfl)) ?_
                            refine Ew_of (pcₚ := 161) (fun _ => x_istore rfl) ?_
                            refine Ew_of (pcₚ := 162) (fun _ => x_aload_n rfl (rk_o (rk_o (rk_o (l39_0) rfl rfl) rfl rfl) rfl rfl)) ?_
                            refine Ew_of (pcₚ := 164) (fun _ => x_iload rfl (rk_o (rk_o (rk_o (l39_5) rfl rfl) rfl rfl) rfl rfl)) ?_
                            refine w_pI H (o := 3) rfl rfl (H.perm 3 rfl) rfl rfl rfl (fun _ => rfl) rfl (show (0 : Int) ≤ x39_5 ∧ x39_5 ≤ 16384 from q_427 b9 h3 j39_2) (fun σ H => ?_)
                            refine Ew_of (pcₚ := 170) (fun _ => x_iinc (len := 3) rfl (rk_o (rk_o (rk_o (l39_5) rfl rfl) rfl rfl) rfl rfl)) ?_
                            refine Ew_of (pcₚ := 39) (fun _ => x_goto rfl rfl) ?_
                            have : SCI ((w18)) ((u3_5) - 5) 65535 4 ((a2)) ((a1)) (((x39_5 + (-1)))) ((z15)) ((a1) - (x39_5)) := by first | exact SCI_y j39_s rfl (by omega) (by omega) (by omega) hcp (by unfold BET; omega) (by omega) | exact SCI_n j39_s rfl hcp (by unfold BET; omega) (by omega)
                            exact ih39 _ (msE hm39 q_432 (q_433 b9)) _ σ _ _ (z15) ((x39_5 + (-1))) (rk_o (rk_o (rk_o (rk_o (l39_0) rfl rfl) rfl rfl) rfl rfl) rfl rfl) (rk_o (rk_o (rk_o (rk_o (l39_1) rfl rfl) rfl rfl) rfl rfl) rfl rfl) (rk_o (rk_o (rk_o (rk_o (l39_2) rfl rfl) rfl rfl) rfl rfl) rfl rfl) (rk_o (rk_o (rk_o (rk_o (l39_3) rfl rfl) rfl rfl) rfl rfl) rfl rfl) (rk_o (rk_s) rfl rfl) (rk_s) H (SF_upd (SF_trans (hS_39) hS13 (any_sub rfl)) rfl) (SA_trans (hA_39) hA14 (any_subA rfl)) (x39_5) (rfl)  (show inr (z15) from pz15_0) (show inr ((x39_5 + (-1))) from q_431 b9 j39_1) (show ((x39_5 + (-1))) ≤ ((a1 - 1)) from q_430 j39_2) (show ((a1 - 1)) ≤ ((x39_5 + (-1))) ∨ ((-1)) ≤ ((x39_5 + (-1))) from q_429 b9) (show (z15) = 0 ∨ 4 ≤ (z15) ∧ (z15) ≤ (((u3_5 - 5) - a1)) by omega) (show (z15) = 0 ∨ (x39_5) < (a1) from q_428 j39_2) (show SCI ((w18)) ((u3_5) - 5) 65535 4 ((a2)) ((a1)) (((x39_5 + (-1)))) ((z15)) ((a1) - (x39_5)) by assumption) rfl
                          · refine Ew_of (pcₚ := 167) (fun _ => x_goto rfl rfl) ?_
                            refine Ew_of (pcₚ := 170) (fun _ => x_iinc (len := 3) rfl (rk_o (rk_o (l39_5) rfl rfl) rfl rfl)) ?_
                            refine Ew_of (pcₚ := 39) (fun _ => x_goto rfl rfl) ?_
                            have : SCI ((w18)) ((u3_5) - 5) 65535 4 ((a2)) ((a1)) (((x39_5 + (-1)))) ((x39_4)) ((a1) - (y39_3_6)) := by first | exact SCI_y j39_s rfl (by omega) (by omega) (by omega) hcp (by unfold BET; omega) (by omega) | exact SCI_n j39_s rfl hcp (by unfold BET; omega) (by omega)
                            exact ih39 _ (msE hm39 q_432 (q_433 b9)) _ σ _ _ (x39_4) ((x39_5 + (-1))) (rk_o (rk_o (rk_o (l39_0) rfl rfl) rfl rfl) rfl rfl) (rk_o (rk_o (rk_o (l39_1) rfl rfl) rfl rfl) rfl rfl) (rk_o (rk_o (rk_o (l39_2) rfl rfl) rfl rfl) rfl rfl) (rk_o (rk_o (rk_o (l39_3) rfl rfl) rfl rfl) rfl rfl) (rk_o (rk_o (rk_o (l39_4) rfl rfl) rfl rfl) rfl rfl) (rk_s) H (SF_trans (hS_39) hS13 (any_sub rfl)) (SA_trans (hA_39) hA14 (any_subA rfl)) (y39_3_6) (((hS13 3 6 rfl).trans (ey39_3_6)))  (show inr (x39_4) from j39_0) (show inr ((x39_5 + (-1))) from q_431 b9 j39_1) (show ((x39_5 + (-1))) ≤ ((a1 - 1)) from q_430 j39_2) (show ((a1 - 1)) ≤ ((x39_5 + (-1))) ∨ ((-1)) ≤ ((x39_5 + (-1))) from q_429 b9) (show (x39_4) = 0 ∨ 4 ≤ (x39_4) ∧ (x39_4) ≤ (((u3_5 - 5) - a1)) from j39_4) (show (x39_4) = 0 ∨ (y39_3_6) < (a1) from j39_5) (show SCI ((w18)) ((u3_5) - 5) 65535 4 ((a2)) ((a1)) (((x39_5 + (-1)))) ((x39_4)) ((a1) - (y39_3_6)) by assumption) rfl
                        · refine Ew_of (pcₚ := 122) (fun _ => x_iconst rfl) ?_
                          refine Ew_of (pcₚ := 147) (fun _ => x_goto rfl rfl) ?_
                          refine Ew_of (pcₚ := 149) (fun _ => x_istore rfl) ?_
                          refine Ew_of (pcₚ := 151) (fun _ => x_iload rfl rk_s) ?_
                          refine w_ifne (t := 157) rfl rfl (show inr (1) from q_135) (fun b30 => ?_) (fun b30 => ?_)
                          · refine Ew_of (pcₚ := 159) (fun _ => x_iload rfl (rk_o (rk_s) rfl rfl)) ?_
                            refine Ew_of (pcₚ := 161) (fun _ => x_istore rfl) ?_
                            refine Ew_of (pcₚ := 162) (fun _ => x_aload_n rfl (rk_o (rk_o (rk_o (l39_0) rfl rfl) rfl rfl) rfl rfl)) ?_
                            refine Ew_of (pcₚ := 164) (fun _ => x_iload rfl (rk_o (rk_o (rk_o (l39_5) rfl rfl) rfl rfl) rfl rfl)) ?_
                            refine w_pI H (o := 3) rfl rfl (H.perm 3 rfl) rfl rfl rfl (fun _ => rfl) rfl (show (0 : Int) ≤ x39_5 ∧ x39_5 ≤ 16384 from q_427 b9 h3 j39_2) (fun σ H => ?_)
                            refine Ew_of (pcₚ := 170) (fun _ => x_iinc (len := 3) rfl (rk_o (rk_o (rk_o (l39_5) rfl rfl) rfl rfl) rfl rfl)) ?_
                            refine Ew_of (pcₚ := 39) (fun _ => x_goto rfl rfl) ?_
                            have : SCI ((w18)) ((u3_5) - 5) 65535 4 ((a2)) ((a1)) (((x39_5 + (-1)))) ((z15)) ((a1) - (x39_5)) := by first | exact SCI_y j39_s rfl (by omega) (by omega) (by omega) hcp (by unfold BET; omega) (by omega) | exact SCI_n j39_s rfl hcp (by unfold BET; omega) (by omega)
                            exact ih39 _ (msE hm39 q_432 (q_433 b9)) _ σ _ _ (z15) ((x39_5 + (-1))) (rk_o (rk_o (rk_o (rk_o (l39_0) rfl rfl) rfl rfl) rfl rfl) rfl rfl) (rk_o (rk_o (rk_o (rk_o (l39_1) rfl rfl) rfl rfl) rfl rfl) rfl rfl) (rk_o (rk_o (rk_o (rk_o (l39_2) rfl rfl) rfl rfl) rfl rfl) rfl rfl) (rk_o (rk_o (rk_o (rk_o (l39_3) rfl rfl) rfl rfl) rfl rfl) rfl rfl) (rk_o (rk_s) rfl rfl) (rk_s) H (SF_upd (SF_trans (hS_39) hS13 (any_sub rfl)) rfl) (SA_trans (hA_39) hA14 (any_subA rfl)) (x39_5) (rfl)  (show inr (z15) from pz15_0) (show inr ((x39_5 + (-1))) from q_431 b9 j39_1) (show ((x39_5 + (-1))) ≤ ((a1 - 1)) from q_430 j39_2) (show ((a1 - 1)) ≤ ((x39_5 + (-1))) ∨ ((-1)) ≤ ((x39_5 + (-1))) from q_429 b9) (show (z15) = 0 ∨ 4 ≤ (z15) ∧ (z15) ≤ (((u3_5 - 5) - a1)) from q_435 b28 pz15_1) (show (z15) = 0 ∨ (x39_5) < (a1) from q_428 j39_2) (show SCI ((w18)) ((u3_5) - 5) 65535 4 ((a2)) ((a1)) (((x39_5 + (-1)))) ((z15)) ((a1) - (x39_5)) by assumption) rfl
                          · refine Ew_of (pcₚ := 167) (fun _ => x_goto rfl rfl) ?_
                            refine Ew_of (pcₚ := 170) (fun _ => x_iinc (len := 3) rfl (rk_o (rk_o (l39_5) rfl rfl) rfl rfl)) ?_
                            refine Ew_of (pcₚ := 39) (fun _ => x_goto rfl rfl) ?_
                            have : SCI ((w18)) ((u3_5) - 5) 65535 4 ((a2)) ((a1)) (((x39_5 + (-1)))) ((x39_4)) ((a1) - (y39_3_6)) := by first | exact SCI_y j39_s rfl (by omega) (by omega) (by omega) hcp (by unfold BET; omega) (by omega) | exact SCI_n j39_s rfl hcp (by unfold BET; omega) (by omega)
                            exact ih39 _ (msE hm39 q_432 (q_433 b9)) _ σ _ _ (x39_4) ((x39_5 + (-1))) (rk_o (rk_o (rk_o (l39_0) rfl rfl) rfl rfl) rfl rfl) (rk_o (rk_o (rk_o (l39_1) rfl rfl) rfl rfl) rfl rfl) (rk_o (rk_o (rk_o (l39_2) rfl rfl) rfl rfl) rfl rfl) (rk_o (rk_o (rk_o (l39_3) rfl rfl) rfl rfl) rfl rfl) (rk_o (rk_o (rk_o (l39_4) rfl rfl) rfl rfl) rfl rfl) (rk_s) H (SF_trans (hS_39) hS13 (any_sub rfl)) (SA_trans (hA_39) hA14 (any_subA rfl)) (y39_3_6) (((hS13 3 6 rfl).trans (ey39_3_6)))  (show inr (x39_4) from j39_0) (show inr ((x39_5 + (-1))) from q_431 b9 j39_1) (show ((x39_5 + (-1))) ≤ ((a1 - 1)) from q_430 j39_2) (show ((a1 - 1)) ≤ ((x39_5 + (-1))) ∨ ((-1)) ≤ ((x39_5 + (-1))) from q_429 b9) (show (x39_4) = 0 ∨ 4 ≤ (x39_4) ∧ (x39_4) ≤ (((u3_5 - 5) - a1)) from j39_4) (show (x39_4) = 0 ∨ (y39_3_6) < (a1) from j39_5) (show SCI ((w18)) ((u3_5) - 5) 65535 4 ((a2)) ((a1)) (((x39_5 + (-1)))) ((x39_4)) ((a1) - (y39_3_6)) by assumption) rfl
                  · refine Ew_of (pcₚ := 98) (fun _ => x_iload rfl rk_s) ?_
                    refine Ew_of (pcₚ := 99) (fun _ => x_iconst rfl) ?_
                    refine w_icmpge (t := 121) rfl rfl (show inr (z15) from pz15_0) (show inr (4) from q_216) (fun b31 => ?_) (fun b31 => ?_)
                    · refine Ew_of (pcₚ := 122) (fun _ => x_iconst rfl) ?_
                      refine Ew_of (pcₚ := 147) (fun _ => x_goto rfl rfl) ?_
                      refine Ew_of (pcₚ := 149) (fun _ => x_istore rfl) ?_
                      refine Ew_of (pcₚ := 151) (fun _ => x_iload rfl rk_s) ?_
                      refine w_ifne (t := 157) rfl rfl (show inr (1) from q_135) (fun b32 => ?_) (fun b32 => ?_)
                      · refine Ew_of (pcₚ := 159) (fun _ => x_iload rfl (rk_o (rk_s) rfl rfl)) ?_
                        refine Ew_of (pcₚ := 161) (fun _ => x_istore rfl) ?_
                        refine Ew_of (pcₚ := 162) (fun _ => x_aload_n rfl (rk_o (rk_o (rk_o (l39_0) rfl rfl) rfl rfl) rfl rfl)) ?_
                        refine Ew_of (pcₚ := 164) (fun _ => x_iload rfl (rk_o (rk_o (rk_o (l39_5) rfl rfl) rfl rfl) rfl rfl)) ?_
                        refine w_pI H (o := 3) rfl rfl (H.perm 3 rfl) rfl rfl rfl (fun _ => rfl) rfl (show (0 : Int) ≤ x39_5 ∧ x39_5 ≤ 16384 from q_427 b9 h3 j39_2) (fun σ H => ?_)
                        refine Ew_of (pcₚ := 170) (fun _ => x_iinc (len := 3) rfl (rk_o (rk_o (rk_o (l39_5) rfl rfl) rfl rfl) rfl rfl)) ?_
                        refine Ew_of (pcₚ := 39) (fun _ => x_goto rfl rfl) ?_
                        have : SCI ((w18)) ((u3_5) - 5) 65535 4 ((a2)) ((a1)) (((x39_5 + (-1)))) ((z15)) ((a1) - (x39_5)) := by first | exact SCI_y j39_s rfl (by omega) (by omega) (by omega) hcp (by unfold BET; omega) (by omega) | exact SCI_n j39_s rfl hcp (by unfold BET; omega) (by omega)
                        exact ih39 _ (msE hm39 q_432 (q_433 b9)) _ σ _ _ (z15) ((x39_5 + (-1))) (rk_o (rk_o (rk_o (rk_o (l39_0) rfl rfl) rfl rfl) rfl rfl) rfl rfl) (rk_o (rk_o (rk_o (rk_o (l39_1) rfl rfl) rfl rfl) rfl rfl) rfl rfl) (rk_o (rk_o (rk_o (rk_o (l39_2) rfl rfl) rfl rfl) rfl rfl) rfl rfl) (rk_o (rk_o (rk_o (rk_o (l39_3) rfl rfl) rfl rfl) rfl rfl) rfl rfl) (rk_o (rk_s) rfl rfl) (rk_s) H (SF_upd (SF_trans (hS_39) hS13 (any_sub rfl)) rfl) (SA_trans (hA_39) hA14 (any_subA rfl)) (x39_5) (rfl)  (show inr (z15) from pz15_0) (show inr ((x39_5 + (-1))) from q_431 b9 j39_1) (show ((x39_5 + (-1))) ≤ ((a1 - 1)) from q_430 j39_2) (show ((a1 - 1)) ≤ ((x39_5 + (-1))) ∨ ((-1)) ≤ ((x39_5 + (-1))) from q_429 b9) (show (z15) = 0 ∨ 4 ≤ (z15) ∧ (z15) ≤ (((u3_5 - 5) - a1)) from q_434 b31 pz15_1) (show (z15) = 0 ∨ (x39_5) < (a1) from q_428 j39_2) (show SCI ((w18)) ((u3_5) - 5) 65535 4 ((a2)) ((a1)) (((x39_5 + (-1)))) ((z15)) ((a1) - (x39_5)) by assumption) rfl
                      · refine Ew_of (pcₚ := 167) (fun _ => x_goto rfl rfl) ?_
                        refine Ew_of (pcₚ := 170) (fun _ => x_iinc (len := 3) rfl (rk_o (rk_o (l39_5) rfl rfl) rfl rfl)) ?_
                        refine Ew_of (pcₚ := 39) (fun _ => x_goto rfl rfl) ?_
                        have : SCI ((w18)) ((u3_5) - 5) 65535 4 ((a2)) ((a1)) (((x39_5 + (-1)))) ((x39_4)) ((a1) - (y39_3_6)) := by first | exact SCI_y j39_s rfl (by omega) (by omega) (by omega) hcp (by unfold BET; omega) (by omega) | exact SCI_n j39_s rfl hcp (by unfold BET; omega) (by omega)
                        exact ih39 _ (msE hm39 q_432 (q_433 b9)) _ σ _ _ (x39_4) ((x39_5 + (-1))) (rk_o (rk_o (rk_o (l39_0) rfl rfl) rfl rfl) rfl rfl) (rk_o (rk_o (rk_o (l39_1) rfl rfl) rfl rfl) rfl rfl) (rk_o (rk_o (rk_o (l39_2) rfl rfl) rfl rfl) rfl rfl) (rk_o (rk_o (rk_o (l39_3) rfl rfl) rfl rfl) rfl rfl) (rk_o (rk_o (rk_o (l39_4) rfl rfl) rfl rfl) rfl rfl) (rk_s) H (SF_trans (hS_39) hS13 (any_sub rfl)) (SA_trans (hA_39) hA14 (any_subA rfl)) (y39_3_6) (((hS13 3 6 rfl).trans (ey39_3_6)))  (show inr (x39_4) from j39_0) (show inr ((x39_5 + (-1))) from q_431 b9 j39_1) (show ((x39_5 + (-1))) ≤ ((a1 - 1)) from q_430 j39_2) (show ((a1 - 1)) ≤ ((x39_5 + (-1))) ∨ ((-1)) ≤ ((x39_5 + (-1))) from q_429 b9) (show (x39_4) = 0 ∨ 4 ≤ (x39_4) ∧ (x39_4) ≤ (((u3_5 - 5) - a1)) from j39_4) (show (x39_4) = 0 ∨ (y39_3_6) < (a1) from j39_5) (show SCI ((w18)) ((u3_5) - 5) 65535 4 ((a2)) ((a1)) (((x39_5 + (-1)))) ((x39_4)) ((a1) - (y39_3_6)) by assumption) rfl
                    · refine Ew_of (pcₚ := 104) (fun _ => x_iload rfl (rk_o (l39_4) rfl rfl)) ?_
                      refine w_ifle (t := 125) rfl rfl (show inr (x39_4) from j39_0) (fun b33 => ?_) (fun b33 => ?_)
                      · refine Ew_of (pcₚ := 126) (fun _ => x_iconst rfl) ?_
                        refine Ew_of (pcₚ := 147) (fun _ => x_goto rfl rfl) ?_
                        refine Ew_of (pcₚ := 149) (fun _ => x_istore rfl) ?_
                        refine Ew_of (pcₚ := 151) (fun _ => x_iload rfl rk_s) ?_
                        refine w_ifne (t := 157) rfl rfl (show inr (0) from q_2) (fun b34 => ?_) (fun b34 => ?_)
                        · refine Ew_of (pcₚ := 159) (fun _ => x_iload rfl (rk_o (rk_s) rfl rfl)) ?_
                          refine Ew_of (pcₚ := 161) (fun _ => x_istore rfl) ?_
                          refine Ew_of (pcₚ := 162) (fun _ => x_aload_n rfl (rk_o (rk_o (rk_o (l39_0) rfl rfl) rfl rfl) rfl rfl)) ?_
                          refine Ew_of (pcₚ := 164) (fun _ => x_iload rfl (rk_o (rk_o (rk_o (l39_5) rfl rfl) rfl rfl) rfl rfl)) ?_
                          refine w_pI H (o := 3) rfl rfl (H.perm 3 rfl) rfl rfl rfl (fun _ => rfl) rfl (show (0 : Int) ≤ x39_5 ∧ x39_5 ≤ 16384 from q_427 b9 h3 j39_2) (fun σ H => ?_)
                          refine Ew_of (pcₚ := 170) (fun _ => x_iinc (len := 3) rfl (rk_o (rk_o (rk_o (l39_5) rfl rfl) rfl rfl) rfl rfl)) ?_
                          refine Ew_of (pcₚ := 39) (fun _ => x_goto rfl rfl) ?_
                          have : SCI ((w18)) ((u3_5) - 5) 65535 4 ((a2)) ((a1)) (((x39_5 + (-1)))) ((z15)) ((a1) - (x39_5)) := by first | exact SCI_y j39_s rfl (by omega) (by omega) (by omega) hcp (by unfold BET; omega) (by omega) | exact SCI_n j39_s rfl hcp (by unfold BET; omega) (by omega)
                          exact ih39 _ (msE hm39 q_432 (q_433 b9)) _ σ _ _ (z15) ((x39_5 + (-1))) (rk_o (rk_o (rk_o (rk_o (l39_0) rfl rfl) rfl rfl) rfl rfl) rfl rfl) (rk_o (rk_o (rk_o (rk_o (l39_1) rfl rfl) rfl rfl) rfl rfl) rfl rfl) (rk_o (rk_o (rk_o (rk_o (l39_2) rfl rfl) rfl rfl) rfl rfl) rfl rfl) (rk_o (rk_o (rk_o (rk_o (l39_3) rfl rfl) rfl rfl) rfl rfl) rfl rfl) (rk_o (rk_s) rfl rfl) (rk_s) H (SF_upd (SF_trans (hS_39) hS13 (any_sub rfl)) rfl) (SA_trans (hA_39) hA14 (any_subA rfl)) (x39_5) (rfl)  (show inr (z15) from pz15_0) (show inr ((x39_5 + (-1))) from q_431 b9 j39_1) (show ((x39_5 + (-1))) ≤ ((a1 - 1)) from q_430 j39_2) (show ((a1 - 1)) ≤ ((x39_5 + (-1))) ∨ ((-1)) ≤ ((x39_5 + (-1))) from q_429 b9) (show (z15) = 0 ∨ 4 ≤ (z15) ∧ (z15) ≤ (((u3_5 - 5) - a1)) by omega) (show (z15) = 0 ∨ (x39_5) < (a1) from q_428 j39_2) (show SCI ((w18)) ((u3_5) - 5) 65535 4 ((a2)) ((a1)) (((x39_5 + (-1)))) ((z15)) ((a1) - (x39_5)) by assumption) rfl
                        · refine Ew_of (pcₚ := 167) (fun _ => x_goto rfl rfl) ?_
                          refine Ew_of (pcₚ := 170) (fun _ => x_iinc (len := 3) rfl (rk_o (rk_o (l39_5) rfl rfl) rfl rfl)) ?_
                          refine Ew_of (pcₚ := 39) (fun _ => x_goto rfl rfl) ?_
                          have : SCI ((w18)) ((u3_5) - 5) 65535 4 ((a2)) ((a1)) (((x39_5 + (-1)))) ((x39_4)) ((a1) - (y39_3_6)) := by first | exact SCI_y j39_s rfl (by omega) (by omega) (by omega) hcp (by unfold BET; omega) (by omega) | exact SCI_n j39_s rfl hcp (by unfold BET; omega) (by omega)
                          exact ih39 _ (msE hm39 q_432 (q_433 b9)) _ σ _ _ (x39_4) ((x39_5 + (-1))) (rk_o (rk_o (rk_o (l39_0) rfl rfl) rfl rfl) rfl rfl) (rk_o (rk_o (rk_o (l39_1) rfl rfl) rfl rfl) rfl rfl) (rk_o (rk_o (rk_o (l39_2) rfl rfl) rfl rfl) rfl rfl) (rk_o (rk_o (rk_o (l39_3) rfl rfl) rfl rfl) rfl rfl) (rk_o (rk_o (rk_o (l39_4) rfl rfl) rfl rfl) rfl rfl) (rk_s) H (SF_trans (hS_39) hS13 (any_sub rfl)) (SA_trans (hA_39) hA14 (any_subA rfl)) (y39_3_6) (((hS13 3 6 rfl).trans (ey39_3_6)))  (show inr (x39_4) from j39_0) (show inr ((x39_5 + (-1))) from q_431 b9 j39_1) (show ((x39_5 + (-1))) ≤ ((a1 - 1)) from q_430 j39_2) (show ((a1 - 1)) ≤ ((x39_5 + (-1))) ∨ ((-1)) ≤ ((x39_5 + (-1))) from q_429 b9) (show (x39_4) = 0 ∨ 4 ≤ (x39_4) ∧ (x39_4) ≤ (((u3_5 - 5) - a1)) from j39_4) (show (x39_4) = 0 ∨ (y39_3_6) < (a1) from j39_5) (show SCI ((w18)) ((u3_5) - 5) 65535 4 ((a2)) ((a1)) (((x39_5 + (-1)))) ((x39_4)) ((a1) - (y39_3_6)) by assumption) rfl
                      · refine Ew_of (pcₚ := 109) (fun _ => x_iload rfl (rk_o (l39_4) rfl rfl)) ?_
                        refine Ew_of (pcₚ := 111) (fun _ => x_bipush (z := 8) rfl (by decide)) ?_
                        refine w_icmpge (t := 125) rfl rfl (show inr (x39_4) from j39_0) (show inr (8) from q_141) (fun b35 => ?_) (fun b35 => ?_)
                        · refine Ew_of (pcₚ := 126) (fun _ => x_iconst rfl) ?_
                          refine Ew_of (pcₚ := 147) (fun _ => x_goto rfl rfl) ?_
                          refine Ew_of (pcₚ := 149) (fun _ => x_istore rfl) ?_
                          refine Ew_of (pcₚ := 151) (fun _ => x_iload rfl rk_s) ?_
                          refine w_ifne (t := 157) rfl rfl (show inr (0) from q_2) (fun b36 => ?_) (fun b36 => ?_)
                          · refine Ew_of (pcₚ := 159) (fun _ => x_iload rfl (rk_o (rk_s) rfl rfl)) ?_
                            refine Ew_of (pcₚ := 161) (fun _ => x_istore rfl) ?_
                            refine Ew_of (pcₚ := 162) (fun _ => x_aload_n rfl (rk_o (rk_o (rk_o (l39_0) rfl rfl) rfl rfl) rfl rfl)) ?_
                            refine Ew_of (pcₚ := 164) (fun _ => x_iload rfl (rk_o (rk_o (rk_o (l39_5) rfl rfl) rfl rfl) rfl rfl)) ?_
                            refine w_pI H (o := 3) rfl rfl (H.perm 3 rfl) rfl rfl rfl (fun _ => rfl) rfl (show (0 : Int) ≤ x39_5 ∧ x39_5 ≤ 16384 from q_427 b9 h3 j39_2) (fun σ H => ?_)
                            refine Ew_of (pcₚ := 170) (fun _ => x_iinc (len := 3) rfl (rk_o (rk_o (rk_o (l39_5) rfl rfl) rfl rfl) rfl rfl)) ?_
                            refine Ew_of (pcₚ := 39) (fun _ => x_goto rfl rfl) ?_
                            have : SCI ((w18)) ((u3_5) - 5) 65535 4 ((a2)) ((a1)) (((x39_5 + (-1)))) ((z15)) ((a1) - (x39_5)) := by first | exact SCI_y j39_s rfl (by omega) (by omega) (by omega) hcp (by unfold BET; omega) (by omega) | exact SCI_n j39_s rfl hcp (by unfold BET; omega) (by omega)
                            exact ih39 _ (msE hm39 q_432 (q_433 b9)) _ σ _ _ (z15) ((x39_5 + (-1))) (rk_o (rk_o (rk_o (rk_o (l39_0) rfl rfl) rfl rfl) rfl rfl) rfl rfl) (rk_o (rk_o (rk_o (rk_o (l39_1) rfl rfl) rfl rfl) rfl rfl) rfl rfl) (rk_o (rk_o (rk_o (rk_o (l39_2) rfl rfl) rfl rfl) rfl rfl) rfl rfl) (rk_o (rk_o (rk_o (rk_o (l39_3) rfl rfl) rfl rfl) rfl rfl) rfl rfl) (rk_o (rk_s) rfl rfl) (rk_s) H (SF_upd (SF_trans (hS_39) hS13 (any_sub rfl)) rfl) (SA_trans (hA_39) hA14 (any_subA rfl)) (x39_5) (rfl)  (show inr (z15) from pz15_0) (show inr ((x39_5 + (-1))) from q_431 b9 j39_1) (show ((x39_5 + (-1))) ≤ ((a1 - 1)) from q_430 j39_2) (show ((a1 - 1)) ≤ ((x39_5 + (-1))) ∨ ((-1)) ≤ ((x39_5 + (-1))) from q_429 b9) (show (z15) = 0 ∨ 4 ≤ (z15) ∧ (z15) ≤ (((u3_5 - 5) - a1)) by omega) (show (z15) = 0 ∨ (x39_5) < (a1) from q_428 j39_2) (show SCI ((w18)) ((u3_5) - 5) 65535 4 ((a2)) ((a1)) (((x39_5 + (-1)))) ((z15)) ((a1) - (x39_5)) by assumption) rfl
                          · refine Ew_of (pcₚ := 167) (fun _ => x_goto rfl rfl) ?_
                            refine Ew_of (pcₚ := 170) (fun _ => x_iinc (len := 3) rfl (rk_o (rk_o (l39_5) rfl rfl) rfl rfl)) ?_
                            refine Ew_of (pcₚ := 39) (fun _ => x_goto rfl rfl) ?_
                            have : SCI ((w18)) ((u3_5) - 5) 65535 4 ((a2)) ((a1)) (((x39_5 + (-1)))) ((x39_4)) ((a1) - (y39_3_6)) := by first | exact SCI_y j39_s rfl (by omega) (by omega) (by omega) hcp (by unfold BET; omega) (by omega) | exact SCI_n j39_s rfl hcp (by unfold BET; omega) (by omega)
                            exact ih39 _ (msE hm39 q_432 (q_433 b9)) _ σ _ _ (x39_4) ((x39_5 + (-1))) (rk_o (rk_o (rk_o (l39_0) rfl rfl) rfl rfl) rfl rfl) (rk_o (rk_o (rk_o (l39_1) rfl rfl) rfl rfl) rfl rfl) (rk_o (rk_o (rk_o (l39_2) rfl rfl) rfl rfl) rfl rfl) (rk_o (rk_o (rk_o (l39_3) rfl rfl) rfl rfl) rfl rfl) (rk_o (rk_o (rk_o (l39_4) rfl rfl) rfl rfl) rfl rfl) (rk_s) H (SF_trans (hS_39) hS13 (any_sub rfl)) (SA_trans (hA_39) hA14 (any_subA rfl)) (y39_3_6) (((hS13 3 6 rfl).trans (ey39_3_6)))  (show inr (x39_4) from j39_0) (show inr ((x39_5 + (-1))) from q_431 b9 j39_1) (show ((x39_5 + (-1))) ≤ ((a1 - 1)) from q_430 j39_2) (show ((a1 - 1)) ≤ ((x39_5 + (-1))) ∨ ((-1)) ≤ ((x39_5 + (-1))) from q_429 b9) (show (x39_4) = 0 ∨ 4 ≤ (x39_4) ∧ (x39_4) ≤ (((u3_5 - 5) - a1)) from j39_4) (show (x39_4) = 0 ∨ (y39_3_6) < (a1) from j39_5) (show SCI ((w18)) ((u3_5) - 5) 65535 4 ((a2)) ((a1)) (((x39_5 + (-1)))) ((x39_4)) ((a1) - (y39_3_6)) by assumption) rfl
                        · refine Ew_of (pcₚ := 116) (fun _ => x_iload rfl rk_s) ?_
                          refine Ew_of (pcₚ := 118) (fun _ => x_bipush (z := 8) rfl (by decide)) ?_
                          refine w_icmplt (t := 125) rfl rfl (show inr (z15) from pz15_0) (show inr (8) from q_141) (fun b37 => ?_) (fun b37 => ?_)
                          · refine Ew_of (pcₚ := 126) (fun _ => x_iconst rfl) ?_
                            refine Ew_of (pcₚ := 147) (fun _ => x_goto rfl rfl) ?_
                            refine Ew_of (pcₚ := 149) (fun _ => x_istore rfl) ?_
                            refine Ew_of (pcₚ := 151) (fun _ => x_iload rfl rk_s) ?_
                            refine w_ifne (t := 157) rfl rfl (show inr (0) from q_2) (fun b38 => ?_) (fun b38 => ?_)
                            · refine Ew_of (pcₚ := 159) (fun _ => x_iload rfl (rk_o (rk_s) rfl rfl)) ?_
                              refine Ew_of (pcₚ := 161) (fun _ => x_istore rfl) ?_
                              refine Ew_of (pcₚ := 162) (fun _ => x_aload_n rfl (rk_o (rk_o (rk_o (l39_0) rfl rfl) rfl rfl) rfl rfl)) ?_
                              refine Ew_of (pcₚ := 164) (fun _ => x_iload rfl (rk_o (rk_o (rk_o (l39_5) rfl rfl) rfl rfl) rfl rfl)) ?_
                              refine w_pI H (o := 3) rfl rfl (H.perm 3 rfl) rfl rfl rfl (fun _ => rfl) rfl (show (0 : Int) ≤ x39_5 ∧ x39_5 ≤ 16384 from q_427 b9 h3 j39_2) (fun σ H => ?_)
                              refine Ew_of (pcₚ := 170) (fun _ => x_iinc (len := 3) rfl (rk_o (rk_o (rk_o (l39_5) rfl rfl) rfl rfl) rfl rfl)) ?_
                              refine Ew_of (pcₚ := 39) (fun _ => x_goto rfl rfl) ?_
                              have : SCI ((w18)) ((u3_5) - 5) 65535 4 ((a2)) ((a1)) (((x39_5 + (-1)))) ((z15)) ((a1) - (x39_5)) := by first | exact SCI_y j39_s rfl (by omega) (by omega) (by omega) hcp (by unfold BET; omega) (by omega) | exact SCI_n j39_s rfl hcp (by unfold BET; omega) (by omega)
                              exact ih39 _ (msE hm39 q_432 (q_433 b9)) _ σ _ _ (z15) ((x39_5 + (-1))) (rk_o (rk_o (rk_o (rk_o (l39_0) rfl rfl) rfl rfl) rfl rfl) rfl rfl) (rk_o (rk_o (rk_o (rk_o (l39_1) rfl rfl) rfl rfl) rfl rfl) rfl rfl) (rk_o (rk_o (rk_o (rk_o (l39_2) rfl rfl) rfl rfl) rfl rfl) rfl rfl) (rk_o (rk_o (rk_o (rk_o (l39_3) rfl rfl) rfl rfl) rfl rfl) rfl rfl) (rk_o (rk_s) rfl rfl) (rk_s) H (SF_upd (SF_trans (hS_39) hS13 (any_sub rfl)) rfl) (SA_trans (hA_39) hA14 (any_subA rfl)) (x39_5) (rfl)  (show inr (z15) from pz15_0) (show inr ((x39_5 + (-1))) from q_431 b9 j39_1) (show ((x39_5 + (-1))) ≤ ((a1 - 1)) from q_430 j39_2) (show ((a1 - 1)) ≤ ((x39_5 + (-1))) ∨ ((-1)) ≤ ((x39_5 + (-1))) from q_429 b9) (show (z15) = 0 ∨ 4 ≤ (z15) ∧ (z15) ≤ (((u3_5 - 5) - a1)) by omega) (show (z15) = 0 ∨ (x39_5) < (a1) from q_428 j39_2) (show SCI ((w18)) ((u3_5) - 5) 65535 4 ((a2)) ((a1)) (((x39_5 + (-1)))) ((z15)) ((a1) - (x39_5)) by assumption) rfl
                            · refine Ew_of (pcₚ := 167) (fun _ => x_goto rfl rfl) ?_
                              refine Ew_of (pcₚ := 170) (fun _ => x_iinc (len := 3) rfl (rk_o (rk_o (l39_5) rfl rfl) rfl rfl)) ?_
                              refine Ew_of (pcₚ := 39) (fun _ => x_goto rfl rfl) ?_
                              have : SCI ((w18)) ((u3_5) - 5) 65535 4 ((a2)) ((a1)) (((x39_5 + (-1)))) ((x39_4)) ((a1) - (y39_3_6)) := by first | exact SCI_y j39_s rfl (by omega) (by omega) (by omega) hcp (by unfold BET; omega) (by omega) | exact SCI_n j39_s rfl hcp (by unfold BET; omega) (by omega)
                              exact ih39 _ (msE hm39 q_432 (q_433 b9)) _ σ _ _ (x39_4) ((x39_5 + (-1))) (rk_o (rk_o (rk_o (l39_0) rfl rfl) rfl rfl) rfl rfl) (rk_o (rk_o (rk_o (l39_1) rfl rfl) rfl rfl) rfl rfl) (rk_o (rk_o (rk_o (l39_2) rfl rfl) rfl rfl) rfl rfl) (rk_o (rk_o (rk_o (l39_3) rfl rfl) rfl rfl) rfl rfl) (rk_o (rk_o (rk_o (l39_4) rfl rfl) rfl rfl) rfl rfl) (rk_s) H (SF_trans (hS_39) hS13 (any_sub rfl)) (SA_trans (hA_39) hA14 (any_subA rfl)) (y39_3_6) (((hS13 3 6 rfl).trans (ey39_3_6)))  (show inr (x39_4) from j39_0) (show inr ((x39_5 + (-1))) from q_431 b9 j39_1) (show ((x39_5 + (-1))) ≤ ((a1 - 1)) from q_430 j39_2) (show ((a1 - 1)) ≤ ((x39_5 + (-1))) ∨ ((-1)) ≤ ((x39_5 + (-1))) from q_429 b9) (show (x39_4) = 0 ∨ 4 ≤ (x39_4) ∧ (x39_4) ≤ (((u3_5 - 5) - a1)) from j39_4) (show (x39_4) = 0 ∨ (y39_3_6) < (a1) from j39_5) (show SCI ((w18)) ((u3_5) - 5) 65535 4 ((a2)) ((a1)) (((x39_5 + (-1)))) ((x39_4)) ((a1) - (y39_3_6)) by assumption) rfl
                          · refine Ew_of (pcₚ := 122) (fun _ => x_iconst rfl) ?_
                            refine Ew_of (pcₚ := 147) (fun _ => x_goto rfl rfl) ?_
                            refine Ew_of (pcₚ := 149) (fun _ => x_istore rfl) ?_
                            refine Ew_of (pcₚ := 151) (fun _ => x_iload rfl rk_s) ?_
                            refine w_ifne (t := 157) rfl rfl (show inr (1) from q_135) (fun b39 => ?_) (fun b39 => ?_)
                            · refine Ew_of (pcₚ := 159) (fun _ => x_iload rfl (rk_o (rk_s) rfl rfl)) ?_
                              refine Ew_of (pcₚ := 161) (fun _ => x_istore rfl) ?_
                              refine Ew_of (pcₚ := 162) (fun _ => x_aload_n rfl (rk_o (rk_o (rk_o (l39_0) rfl rfl) rfl rfl) rfl rfl)) ?_
                              refine Ew_of (pcₚ := 164) (fun _ => x_iload rfl (rk_o (rk_o (rk_o (l39_5) rfl rfl) rfl rfl) rfl rfl)) ?_
                              refine w_pI H (o := 3) rfl rfl (H.perm 3 rfl) rfl rfl rfl (fun _ => rfl) rfl (show (0 : Int) ≤ x39_5 ∧ x39_5 ≤ 16384 from q_427 b9 h3 j39_2) (fun σ H => ?_)
                              refine Ew_of (pcₚ := 170) (fun _ => x_iinc (len := 3) rfl (rk_o (rk_o (rk_o (l39_5) rfl rfl) rfl rfl) rfl rfl)) ?_
                              refine Ew_of (pcₚ := 39) (fun _ => x_goto rfl rfl) ?_
                              have : SCI ((w18)) ((u3_5) - 5) 65535 4 ((a2)) ((a1)) (((x39_5 + (-1)))) ((z15)) ((a1) - (x39_5)) := by first | exact SCI_y j39_s rfl (by omega) (by omega) (by omega) hcp (by unfold BET; omega) (by omega) | exact SCI_n j39_s rfl hcp (by unfold BET; omega) (by omega)
                              exact ih39 _ (msE hm39 q_432 (q_433 b9)) _ σ _ _ (z15) ((x39_5 + (-1))) (rk_o (rk_o (rk_o (rk_o (l39_0) rfl rfl) rfl rfl) rfl rfl) rfl rfl) (rk_o (rk_o (rk_o (rk_o (l39_1) rfl rfl) rfl rfl) rfl rfl) rfl rfl) (rk_o (rk_o (rk_o (rk_o (l39_2) rfl rfl) rfl rfl) rfl rfl) rfl rfl) (rk_o (rk_o (rk_o (rk_o (l39_3) rfl rfl) rfl rfl) rfl rfl) rfl rfl) (rk_o (rk_s) rfl rfl) (rk_s) H (SF_upd (SF_trans (hS_39) hS13 (any_sub rfl)) rfl) (SA_trans (hA_39) hA14 (any_subA rfl)) (x39_5) (rfl)  (show inr (z15) from pz15_0) (show inr ((x39_5 + (-1))) from q_431 b9 j39_1) (show ((x39_5 + (-1))) ≤ ((a1 - 1)) from q_430 j39_2) (show ((a1 - 1)) ≤ ((x39_5 + (-1))) ∨ ((-1)) ≤ ((x39_5 + (-1))) from q_438 b31 b37 b4 b9 h2) (show (z15) = 0 ∨ 4 ≤ (z15) ∧ (z15) ≤ (((u3_5 - 5) - a1)) from q_437 b31 b37) (show (z15) = 0 ∨ (x39_5) < (a1) from q_436 b31 b37) (show SCI ((w18)) ((u3_5) - 5) 65535 4 ((a2)) ((a1)) (((x39_5 + (-1)))) ((z15)) ((a1) - (x39_5)) by assumption) rfl
                            · refine Ew_of (pcₚ := 167) (fun _ => x_goto rfl rfl) ?_
                              refine Ew_of (pcₚ := 170) (fun _ => x_iinc (len := 3) rfl (rk_o (rk_o (l39_5) rfl rfl) rfl rfl)) ?_
                              refine Ew_of (pcₚ := 39) (fun _ => x_goto rfl rfl) ?_
                              have : SCI ((w18)) ((u3_5) - 5) 65535 4 ((a2)) ((a1)) (((x39_5 + (-1)))) ((x39_4)) ((a1) - (y39_3_6)) := by first | exact SCI_y j39_s rfl (by omega) (by omega) (by omega) hcp (by unfold BET; omega) (by omega) | exact SCI_n j39_s rfl hcp (by unfold BET; omega) (by omega)
                              exact ih39 _ (msE hm39 q_432 (q_433 b9)) _ σ _ _ (x39_4) ((x39_5 + (-1))) (rk_o (rk_o (rk_o (l39_0) rfl rfl) rfl rfl) rfl rfl) (rk_o (rk_o (rk_o (l39_1) rfl rfl) rfl rfl) rfl rfl) (rk_o (rk_o (rk_o (l39_2) rfl rfl) rfl rfl) rfl rfl) (rk_o (rk_o (rk_o (l39_3) rfl rfl) rfl rfl) rfl rfl) (rk_o (rk_o (rk_o (l39_4) rfl rfl) rfl rfl) rfl rfl) (rk_s) H (SF_trans (hS_39) hS13 (any_sub rfl)) (SA_trans (hA_39) hA14 (any_subA rfl)) (y39_3_6) (((hS13 3 6 rfl).trans (ey39_3_6)))  (show inr (x39_4) from j39_0) (show inr ((x39_5 + (-1))) from q_431 b9 j39_1) (show ((x39_5 + (-1))) ≤ ((a1 - 1)) from q_430 j39_2) (show ((a1 - 1)) ≤ ((x39_5 + (-1))) ∨ ((-1)) ≤ ((x39_5 + (-1))) from q_438 b31 b37 b4 b9 h2) (show (x39_4) = 0 ∨ 4 ≤ (x39_4) ∧ (x39_4) ≤ (((u3_5 - 5) - a1)) from j39_4) (show (x39_4) = 0 ∨ (y39_3_6) < (a1) from j39_5) (show SCI ((w18)) ((u3_5) - 5) 65535 4 ((a2)) ((a1)) (((x39_5 + (-1)))) ((x39_4)) ((a1) - (y39_3_6)) by assumption) rfl
              · refine Ew_of (pcₚ := 69) (fun _ => x_iload rfl (rk_o (l39_4) rfl rfl)) ?_
                refine w_ifne (t := 82) rfl rfl (show inr (x39_4) from j39_0) (fun b40 => ?_) (fun b40 => ?_)
                · refine Ew_of (pcₚ := 83) (fun _ => x_iconst rfl) ?_
                  refine Ew_of (pcₚ := 147) (fun _ => x_goto rfl rfl) ?_
                  refine Ew_of (pcₚ := 149) (fun _ => x_istore rfl) ?_
                  refine Ew_of (pcₚ := 151) (fun _ => x_iload rfl rk_s) ?_
                  refine w_ifne (t := 157) rfl rfl (show inr (0) from q_2) (fun b41 => ?_) (fun b41 => ?_)
                  · refine Ew_of (pcₚ := 159) (fun _ => x_iload rfl (rk_o (rk_s) rfl rfl)) ?_
                    refine Ew_of (pcₚ := 161) (fun _ => x_istore rfl) ?_
                    refine Ew_of (pcₚ := 162) (fun _ => x_aload_n rfl (rk_o (rk_o (rk_o (l39_0) rfl rfl) rfl rfl) rfl rfl)) ?_
                    refine Ew_of (pcₚ := 164) (fun _ => x_iload rfl (rk_o (rk_o (rk_o (l39_5) rfl rfl) rfl rfl) rfl rfl)) ?_
                    refine w_pI H (o := 3) rfl rfl (H.perm 3 rfl) rfl rfl rfl (fun _ => rfl) rfl (show (0 : Int) ≤ x39_5 ∧ x39_5 ≤ 16384 from q_427 b9 h3 j39_2) (fun σ H => ?_)
                    refine Ew_of (pcₚ := 170) (fun _ => x_iinc (len := 3) rfl (rk_o (rk_o (rk_o (l39_5) rfl rfl) rfl rfl) rfl rfl)) ?_
                    refine Ew_of (pcₚ := 39) (fun _ => x_goto rfl rfl) ?_
                    have : SCI ((w18)) ((u3_5) - 5) 65535 4 ((a2)) ((a1)) (((x39_5 + (-1)))) ((z15)) ((a1) - (x39_5)) := by first | exact SCI_y j39_s rfl (by omega) (by omega) (by omega) hcp (by unfold BET; omega) (by omega) | exact SCI_n j39_s rfl hcp (by unfold BET; omega) (by omega)
                    exact ih39 _ (msE hm39 q_432 (q_433 b9)) _ σ _ _ (z15) ((x39_5 + (-1))) (rk_o (rk_o (rk_o (rk_o (l39_0) rfl rfl) rfl rfl) rfl rfl) rfl rfl) (rk_o (rk_o (rk_o (rk_o (l39_1) rfl rfl) rfl rfl) rfl rfl) rfl rfl) (rk_o (rk_o (rk_o (rk_o (l39_2) rfl rfl) rfl rfl) rfl rfl) rfl rfl) (rk_o (rk_o (rk_o (rk_o (l39_3) rfl rfl) rfl rfl) rfl rfl) rfl rfl) (rk_o (rk_s) rfl rfl) (rk_s) H (SF_upd (SF_trans (hS_39) hS13 (any_sub rfl)) rfl) (SA_trans (hA_39) hA14 (any_subA rfl)) (x39_5) (rfl)  (show inr (z15) from pz15_0) (show inr ((x39_5 + (-1))) from q_431 b9 j39_1) (show ((x39_5 + (-1))) ≤ ((a1 - 1)) from q_430 j39_2) (show ((a1 - 1)) ≤ ((x39_5 + (-1))) ∨ ((-1)) ≤ ((x39_5 + (-1))) from q_429 b9) (show (z15) = 0 ∨ 4 ≤ (z15) ∧ (z15) ≤ (((u3_5 - 5) - a1)) by omega) (show (z15) = 0 ∨ (x39_5) < (a1) from q_428 j39_2) (show SCI ((w18)) ((u3_5) - 5) 65535 4 ((a2)) ((a1)) (((x39_5 + (-1)))) ((z15)) ((a1) - (x39_5)) by assumption) rfl
                  · refine Ew_of (pcₚ := 167) (fun _ => x_goto rfl rfl) ?_
                    refine Ew_of (pcₚ := 170) (fun _ => x_iinc (len := 3) rfl (rk_o (rk_o (l39_5) rfl rfl) rfl rfl)) ?_
                    refine Ew_of (pcₚ := 39) (fun _ => x_goto rfl rfl) ?_
                    have : SCI ((w18)) ((u3_5) - 5) 65535 4 ((a2)) ((a1)) (((x39_5 + (-1)))) ((x39_4)) ((a1) - (y39_3_6)) := by first | exact SCI_y j39_s rfl (by omega) (by omega) (by omega) hcp (by unfold BET; omega) (by omega) | exact SCI_n j39_s rfl hcp (by unfold BET; omega) (by omega)
                    exact ih39 _ (msE hm39 q_432 (q_433 b9)) _ σ _ _ (x39_4) ((x39_5 + (-1))) (rk_o (rk_o (rk_o (l39_0) rfl rfl) rfl rfl) rfl rfl) (rk_o (rk_o (rk_o (l39_1) rfl rfl) rfl rfl) rfl rfl) (rk_o (rk_o (rk_o (l39_2) rfl rfl) rfl rfl) rfl rfl) (rk_o (rk_o (rk_o (l39_3) rfl rfl) rfl rfl) rfl rfl) (rk_o (rk_o (rk_o (l39_4) rfl rfl) rfl rfl) rfl rfl) (rk_s) H (SF_trans (hS_39) hS13 (any_sub rfl)) (SA_trans (hA_39) hA14 (any_subA rfl)) (y39_3_6) (((hS13 3 6 rfl).trans (ey39_3_6)))  (show inr (x39_4) from j39_0) (show inr ((x39_5 + (-1))) from q_431 b9 j39_1) (show ((x39_5 + (-1))) ≤ ((a1 - 1)) from q_430 j39_2) (show ((a1 - 1)) ≤ ((x39_5 + (-1))) ∨ ((-1)) ≤ ((x39_5 + (-1))) from q_429 b9) (show (x39_4) = 0 ∨ 4 ≤ (x39_4) ∧ (x39_4) ≤ (((u3_5 - 5) - a1)) from j39_4) (show (x39_4) = 0 ∨ (y39_3_6) < (a1) from j39_5) (show SCI ((w18)) ((u3_5) - 5) 65535 4 ((a2)) ((a1)) (((x39_5 + (-1)))) ((x39_4)) ((a1) - (y39_3_6)) by assumption) rfl
                · refine Ew_of (pcₚ := 74) (fun _ => x_iload rfl rk_s) ?_
                  refine Ew_of (pcₚ := 75) (fun _ => x_iconst rfl) ?_
                  refine w_icmplt (t := 82) rfl rfl (show inr (z15) from pz15_0) (show inr (4) from q_216) (fun b42 => ?_) (fun b42 => ?_)
                  · refine Ew_of (pcₚ := 83) (fun _ => x_iconst rfl) ?_
                    refine Ew_of (pcₚ := 147) (fun _ => x_goto rfl rfl) ?_
                    refine Ew_of (pcₚ := 149) (fun _ => x_istore rfl) ?_
                    refine Ew_of (pcₚ := 151) (fun _ => x_iload rfl rk_s) ?_
                    refine w_ifne (t := 157) rfl rfl (show inr (0) from q_2) (fun b43 => ?_) (fun b43 => ?_)
                    · refine Ew_of (pcₚ := 159) (fun _ => x_iload rfl (rk_o (rk_s) rfl rfl)) ?_
                      refine Ew_of (pcₚ := 161) (fun _ => x_istore rfl) ?_
                      refine Ew_of (pcₚ := 162) (fun _ => x_aload_n rfl (rk_o (rk_o (rk_o (l39_0) rfl rfl) rfl rfl) rfl rfl)) ?_
                      refine Ew_of (pcₚ := 164) (fun _ => x_iload rfl (rk_o (rk_o (rk_o (l39_5) rfl rfl) rfl rfl) rfl rfl)) ?_
                      refine w_pI H (o := 3) rfl rfl (H.perm 3 rfl) rfl rfl rfl (fun _ => rfl) rfl (show (0 : Int) ≤ x39_5 ∧ x39_5 ≤ 16384 from q_427 b9 h3 j39_2) (fun σ H => ?_)
                      refine Ew_of (pcₚ := 170) (fun _ => x_iinc (len := 3) rfl (rk_o (rk_o (rk_o (l39_5) rfl rfl) rfl rfl) rfl rfl)) ?_
                      refine Ew_of (pcₚ := 39) (fun _ => x_goto rfl rfl) ?_
                      have : SCI ((w18)) ((u3_5) - 5) 65535 4 ((a2)) ((a1)) (((x39_5 + (-1)))) ((z15)) ((a1) - (x39_5)) := by first | exact SCI_y j39_s rfl (by omega) (by omega) (by omega) hcp (by unfold BET; omega) (by omega) | exact SCI_n j39_s rfl hcp (by unfold BET; omega) (by omega)
                      exact ih39 _ (msE hm39 q_432 (q_433 b9)) _ σ _ _ (z15) ((x39_5 + (-1))) (rk_o (rk_o (rk_o (rk_o (l39_0) rfl rfl) rfl rfl) rfl rfl) rfl rfl) (rk_o (rk_o (rk_o (rk_o (l39_1) rfl rfl) rfl rfl) rfl rfl) rfl rfl) (rk_o (rk_o (rk_o (rk_o (l39_2) rfl rfl) rfl rfl) rfl rfl) rfl rfl) (rk_o (rk_o (rk_o (rk_o (l39_3) rfl rfl) rfl rfl) rfl rfl) rfl rfl) (rk_o (rk_s) rfl rfl) (rk_s) H (SF_upd (SF_trans (hS_39) hS13 (any_sub rfl)) rfl) (SA_trans (hA_39) hA14 (any_subA rfl)) (x39_5) (rfl)  (show inr (z15) from pz15_0) (show inr ((x39_5 + (-1))) from q_431 b9 j39_1) (show ((x39_5 + (-1))) ≤ ((a1 - 1)) from q_430 j39_2) (show ((a1 - 1)) ≤ ((x39_5 + (-1))) ∨ ((-1)) ≤ ((x39_5 + (-1))) from q_429 b9) (show (z15) = 0 ∨ 4 ≤ (z15) ∧ (z15) ≤ (((u3_5 - 5) - a1)) by omega) (show (z15) = 0 ∨ (x39_5) < (a1) from q_428 j39_2) (show SCI ((w18)) ((u3_5) - 5) 65535 4 ((a2)) ((a1)) (((x39_5 + (-1)))) ((z15)) ((a1) - (x39_5)) by assumption) rfl
                    · refine Ew_of (pcₚ := 167) (fun _ => x_goto rfl rfl) ?_
                      refine Ew_of (pcₚ := 170) (fun _ => x_iinc (len := 3) rfl (rk_o (rk_o (l39_5) rfl rfl) rfl rfl)) ?_
                      refine Ew_of (pcₚ := 39) (fun _ => x_goto rfl rfl) ?_
                      have : SCI ((w18)) ((u3_5) - 5) 65535 4 ((a2)) ((a1)) (((x39_5 + (-1)))) ((x39_4)) ((a1) - (y39_3_6)) := by first | exact SCI_y j39_s rfl (by omega) (by omega) (by omega) hcp (by unfold BET; omega) (by omega) | exact SCI_n j39_s rfl hcp (by unfold BET; omega) (by omega)
                      exact ih39 _ (msE hm39 q_432 (q_433 b9)) _ σ _ _ (x39_4) ((x39_5 + (-1))) (rk_o (rk_o (rk_o (l39_0) rfl rfl) rfl rfl) rfl rfl) (rk_o (rk_o (rk_o (l39_1) rfl rfl) rfl rfl) rfl rfl) (rk_o (rk_o (rk_o (l39_2) rfl rfl) rfl rfl) rfl rfl) (rk_o (rk_o (rk_o (l39_3) rfl rfl) rfl rfl) rfl rfl) (rk_o (rk_o (rk_o (l39_4) rfl rfl) rfl rfl) rfl rfl) (rk_s) H (SF_trans (hS_39) hS13 (any_sub rfl)) (SA_trans (hA_39) hA14 (any_subA rfl)) (y39_3_6) (((hS13 3 6 rfl).trans (ey39_3_6)))  (show inr (x39_4) from j39_0) (show inr ((x39_5 + (-1))) from q_431 b9 j39_1) (show ((x39_5 + (-1))) ≤ ((a1 - 1)) from q_430 j39_2) (show ((a1 - 1)) ≤ ((x39_5 + (-1))) ∨ ((-1)) ≤ ((x39_5 + (-1))) from q_429 b9) (show (x39_4) = 0 ∨ 4 ≤ (x39_4) ∧ (x39_4) ≤ (((u3_5 - 5) - a1)) from j39_4) (show (x39_4) = 0 ∨ (y39_3_6) < (a1) from j39_5) (show SCI ((w18)) ((u3_5) - 5) 65535 4 ((a2)) ((a1)) (((x39_5 + (-1)))) ((x39_4)) ((a1) - (y39_3_6)) by assumption) rfl
                  · refine Ew_of (pcₚ := 79) (fun _ => x_iconst rfl) ?_
                    refine Ew_of (pcₚ := 147) (fun _ => x_goto rfl rfl) ?_
                    refine Ew_of (pcₚ := 149) (fun _ => x_istore rfl) ?_
                    refine Ew_of (pcₚ := 151) (fun _ => x_iload rfl rk_s) ?_
                    refine w_ifne (t := 157) rfl rfl (show inr (1) from q_135) (fun b44 => ?_) (fun b44 => ?_)
                    · refine Ew_of (pcₚ := 159) (fun _ => x_iload rfl (rk_o (rk_s) rfl rfl)) ?_
                      refine Ew_of (pcₚ := 161) (fun _ => x_istore rfl) ?_
                      refine Ew_of (pcₚ := 162) (fun _ => x_aload_n rfl (rk_o (rk_o (rk_o (l39_0) rfl rfl) rfl rfl) rfl rfl)) ?_
                      refine Ew_of (pcₚ := 164) (fun _ => x_iload rfl (rk_o (rk_o (rk_o (l39_5) rfl rfl) rfl rfl) rfl rfl)) ?_
                      refine w_pI H (o := 3) rfl rfl (H.perm 3 rfl) rfl rfl rfl (fun _ => rfl) rfl (show (0 : Int) ≤ x39_5 ∧ x39_5 ≤ 16384 from q_427 b9 h3 j39_2) (fun σ H => ?_)
                      refine Ew_of (pcₚ := 170) (fun _ => x_iinc (len := 3) rfl (rk_o (rk_o (rk_o (l39_5) rfl rfl) rfl rfl) rfl rfl)) ?_
                      refine Ew_of (pcₚ := 39) (fun _ => x_goto rfl rfl) ?_
                      have : SCI ((w18)) ((u3_5) - 5) 65535 4 ((a2)) ((a1)) (((x39_5 + (-1)))) ((z15)) ((a1) - (x39_5)) := by first | exact SCI_y j39_s rfl (by omega) (by omega) (by omega) hcp (by unfold BET; omega) (by omega) | exact SCI_n j39_s rfl hcp (by unfold BET; omega) (by omega)
                      exact ih39 _ (msE hm39 q_432 (q_433 b9)) _ σ _ _ (z15) ((x39_5 + (-1))) (rk_o (rk_o (rk_o (rk_o (l39_0) rfl rfl) rfl rfl) rfl rfl) rfl rfl) (rk_o (rk_o (rk_o (rk_o (l39_1) rfl rfl) rfl rfl) rfl rfl) rfl rfl) (rk_o (rk_o (rk_o (rk_o (l39_2) rfl rfl) rfl rfl) rfl rfl) rfl rfl) (rk_o (rk_o (rk_o (rk_o (l39_3) rfl rfl) rfl rfl) rfl rfl) rfl rfl) (rk_o (rk_s) rfl rfl) (rk_s) H (SF_upd (SF_trans (hS_39) hS13 (any_sub rfl)) rfl) (SA_trans (hA_39) hA14 (any_subA rfl)) (x39_5) (rfl)  (show inr (z15) from pz15_0) (show inr ((x39_5 + (-1))) from q_431 b9 j39_1) (show ((x39_5 + (-1))) ≤ ((a1 - 1)) from q_430 j39_2) (show ((a1 - 1)) ≤ ((x39_5 + (-1))) ∨ ((-1)) ≤ ((x39_5 + (-1))) from q_429 b9) (show (z15) = 0 ∨ 4 ≤ (z15) ∧ (z15) ≤ (((u3_5 - 5) - a1)) from q_434 b42 pz15_1) (show (z15) = 0 ∨ (x39_5) < (a1) from q_428 j39_2) (show SCI ((w18)) ((u3_5) - 5) 65535 4 ((a2)) ((a1)) (((x39_5 + (-1)))) ((z15)) ((a1) - (x39_5)) by assumption) rfl
                    · refine Ew_of (pcₚ := 167) (fun _ => x_goto rfl rfl) ?_
                      refine Ew_of (pcₚ := 170) (fun _ => x_iinc (len := 3) rfl (rk_o (rk_o (l39_5) rfl rfl) rfl rfl)) ?_
                      refine Ew_of (pcₚ := 39) (fun _ => x_goto rfl rfl) ?_
                      have : SCI ((w18)) ((u3_5) - 5) 65535 4 ((a2)) ((a1)) (((x39_5 + (-1)))) ((x39_4)) ((a1) - (y39_3_6)) := by first | exact SCI_y j39_s rfl (by omega) (by omega) (by omega) hcp (by unfold BET; omega) (by omega) | exact SCI_n j39_s rfl hcp (by unfold BET; omega) (by omega)
                      exact ih39 _ (msE hm39 q_432 (q_433 b9)) _ σ _ _ (x39_4) ((x39_5 + (-1))) (rk_o (rk_o (rk_o (l39_0) rfl rfl) rfl rfl) rfl rfl) (rk_o (rk_o (rk_o (l39_1) rfl rfl) rfl rfl) rfl rfl) (rk_o (rk_o (rk_o (l39_2) rfl rfl) rfl rfl) rfl rfl) (rk_o (rk_o (rk_o (l39_3) rfl rfl) rfl rfl) rfl rfl) (rk_o (rk_o (rk_o (l39_4) rfl rfl) rfl rfl) rfl rfl) (rk_s) H (SF_trans (hS_39) hS13 (any_sub rfl)) (SA_trans (hA_39) hA14 (any_subA rfl)) (y39_3_6) (((hS13 3 6 rfl).trans (ey39_3_6)))  (show inr (x39_4) from j39_0) (show inr ((x39_5 + (-1))) from q_431 b9 j39_1) (show ((x39_5 + (-1))) ≤ ((a1 - 1)) from q_430 j39_2) (show ((a1 - 1)) ≤ ((x39_5 + (-1))) ∨ ((-1)) ≤ ((x39_5 + (-1))) from q_429 b9) (show (x39_4) = 0 ∨ 4 ≤ (x39_4) ∧ (x39_4) ≤ (((u3_5 - 5) - a1)) from j39_4) (show (x39_4) = 0 ∨ (y39_3_6) < (a1) from j39_5) (show SCI ((w18)) ((u3_5) - 5) 65535 4 ((a2)) ((a1)) (((x39_5 + (-1)))) ((x39_4)) ((a1) - (y39_3_6)) by assumption) rfl
      · refine Ew_of (pcₚ := 30) (fun _ => x_iconst rfl) ?_
        have r45 : (0 : Int) ≤ F 3 6 ∧ F 3 6 ≤ 16384 := H.frng 3 6
        have : MTL ((w18)) ((u3_5) - 5) 65535 4 ((a2)) ((u3_5) - 12) ((a1)) (0) ((a1) - (F 3 6)) := .inr ⟨by omega, rfl⟩
        exact w_ireturn rfl (k (0) σ _ _ H (SF_refl) (SA_refl) (F 3 6) (rfl) (show inr (0) from q_2) (show 0 ≤ (0) by first | exact q_1 | omega) (show (0) = 0 ∨ 4 ≤ (0) ∧ (0) ≤ (u3_5) - 5 - a1 by first | exact q_415 | omega) (show (0) = 0 ∨ (F 3 6) < a1 by first | exact q_414 | omega) (show MTL ((w18)) ((u3_5) - 5) 65535 4 (a2) ((u3_5) - 12) (a1) ((0)) (a1 - (F 3 6)) by assumption))

theorem M362 {σ0 σ : rS} {D N : Nat → Nat} {F : hF} {A : hA} {d c s : Nat} {Q : wQ} (H : HS σ0 σ D N F A) {a1 a2 : Int} (u3_5 : Int) (eu3_5 : F 3 5 = u3_5) (w18 : Int → Int) (ew18 : A 18 = w18) (h0 : inr (a1)) (h1 : inr (a2)) (h2 : 0 ≤ (u3_5) ∧ (u3_5) ≤ 16384) (h3 : 0 ≤ (a1) ∧ (a1) < 16384) (h4 : 0 ≤ (a2) ∧ (a2) ≤ 3) (k : ∀ (z : Int) σ Fₚ Aₚ, HS σ0 σ D N Fₚ Aₚ → SF [(3, 6)] F Fₚ → SA [] A Aₚ → ∀ y3_6 : Int, Fₚ 3 6 = y3_6 → (inr (z)) → (0 ≤ (z)) → ((z) = 0 ∨ 4 ≤ (z) ∧ (z) ≤ (u3_5) - 5 - (a1)) → ((z) = 0 ∨ (y3_6) < (a1)) → (MTL ((w18)) ((u3_5) - 5) 65535 4 ((a2)) ((u3_5) - 12) ((a1)) ((z)) ((a1) - (y3_6))) → Q (some (I z)) σ c s) : Ew 362 (d + 2) 0 (rargs 0 [.ref (D 3), I a1, I a2]) [] σ c s Q := by
  have r1 : (-2147483648 : Int) ≤ u3_5 ∧ u3_5 ≤ 2147483647 := rngE (show (-2147483648 : Int) ≤ F 3 5 ∧ F 3 5 ≤ 2147483647 from H.frng 3 5) (show F 3 5 = u3_5 from (eu3_5))
  refine Ew_of (pcₚ := 1) (fun _ => x_iload_n rfl rfl) ?_
  refine Ew_of (pcₚ := 2) (fun _ => x_iconst rfl) ?_
  refine w_icmpge (t := 12) rfl rfl (show inr (a2) from h1) (show inr (3) from q_246) (fun b2 => ?_) (fun b2 => ?_)
  · refine Ew_of (pcₚ := 13) (fun _ => x_iload_n rfl rfl) ?_
    refine Ew_of (pcₚ := 14) (fun _ => x_iconst rfl) ?_
    refine w_iadd rfl ?_
    refine Ew_of (pcₚ := 16) (fun _ => x_aload_n rfl rfl) ?_
    refine w_gI H (o := 3) (w := u3_5) rfl (H.perm 3 rfl) rfl rfl rfl (fun _ => rfl) (eu3_5) ?_
    refine Ew_of (pcₚ := 21) (fun _ => x_bipush (z := 12) rfl (by decide)) ?_
    refine w_isub rfl ?_
    refine w_icmpgt (t := 36) rfl rfl (show inr ((a1 + 1)) from q_439 h3) (show inr ((u3_5 - 12)) from q_416 h2) (fun b3 => ?_) (fun b3 => ?_)
    · refine Ew_of (pcₚ := 37) (fun _ => x_iconst rfl) ?_
      refine Ew_of (pcₚ := 38) (fun _ => x_istore_n rfl) ?_
      refine Ew_of (pcₚ := 39) (fun _ => x_aload_n rfl (rk_o (rfl) rfl rfl)) ?_
      refine Ew_of (pcₚ := 40) (fun _ => x_iload_n rfl (rk_o (rfl) rfl rfl)) ?_
      refine Ew_of (pcₚ := 41) (fun _ => x_iconst rfl) ?_
      refine w_inv H (o := 3) rfl rfl rfl (H.perm 3 rfl) rfl rfl (by rfl) (M361 H (u3_5) ((eu3_5)) (w18) (ew18) (show inr (a1) from h0) (show inr (2) from q_122) (show 0 ≤ (u3_5) ∧ (u3_5) ≤ 16384 from h2) (show 0 ≤ (a1) ∧ (a1) ≤ 16384 from q_441 h3) (show 0 ≤ (2) ∧ (2) ≤ 2 from q_440) (fun z8 σ F4 A5 H hS6 hA7 y9 ey10 pz8_0 pz8_1 pz8_2 pz8_3 pz8_4 => ⟨rfl, ?_⟩))
      have r11 : (0 : Int) ≤ y9 ∧ y9 ≤ 16384 := rngE (show (0 : Int) ≤ F4 3 6 ∧ F4 3 6 ≤ 16384 from H.frng 3 6) (show F4 3 6 = y9 from (ey10))
      have hn0 := pz8_4
      refine Ew_of (pcₚ := 46) (fun _ => x_istore rfl) ?_
      refine Ew_of (pcₚ := 47) (fun _ => x_iload_n rfl (rk_o (rk_s) rfl rfl)) ?_
      refine Ew_of (pcₚ := 49) (fun _ => x_iload rfl rk_s) ?_
      refine w_icmple (t := 56) rfl rfl (show inr (0) from q_2) (show inr (z8) from pz8_0) (fun b12 => ?_) (fun b12 => ?_)
      · refine Ew_of (pcₚ := 58) (fun _ => x_iload rfl rk_s) ?_
        have : MTL ((w18)) ((u3_5) - 5) 65535 4 ((a2)) ((u3_5) - 12) ((a1)) ((z8)) ((a1) - (y9)) := by rw [show (a2) = 3 by omega]; first | exact MTL_3 (n1 := (0)) (.inl ⟨by omega, hn1⟩) hn0 (by omega) (by omega) | exact MTL_3 (n1 := (0)) (d1 := 0) (.inr ⟨by omega, by omega⟩) hn0 (by omega) (by omega)
        exact w_ireturn rfl (k (z8) σ _ _ H (SF_trans (SF_refl) hS6 (any_sub rfl)) (SA_trans (SA_refl) hA7 (any_subA rfl)) (y9) ((ey10)) (show inr (z8) from pz8_0) (show 0 ≤ (z8) from b12) (show (z8) = 0 ∨ 4 ≤ (z8) ∧ (z8) ≤ (u3_5) - 5 - a1 from pz8_2) (show (z8) = 0 ∨ (y9) < a1 from pz8_3) (show MTL ((w18)) ((u3_5) - 5) 65535 4 (a2) ((u3_5) - 12) (a1) ((z8)) (a1 - (y9)) by assumption))
      · refine Ew_of (pcₚ := 53) (fun _ => x_iconst rfl) ?_
        refine Ew_of (pcₚ := 58) (fun _ => x_goto rfl rfl) ?_
        have : MTL ((w18)) ((u3_5) - 5) 65535 4 ((a2)) ((u3_5) - 12) ((a1)) ((0)) ((a1) - (y9)) := by rw [show (a2) = 3 by omega]; first | exact MTL_3 (n1 := (0)) (.inl ⟨by omega, hn1⟩) hn0 (by omega) (by omega) | exact MTL_3 (n1 := (0)) (d1 := 0) (.inr ⟨by omega, by omega⟩) hn0 (by omega) (by omega)
        exact w_ireturn rfl (k (0) σ _ _ H (SF_trans (SF_refl) hS6 (any_sub rfl)) (SA_trans (SA_refl) hA7 (any_subA rfl)) (y9) ((ey10)) (show inr (0) from q_2) (show 0 ≤ (0) by first | exact q_1 | omega) (show (0) = 0 ∨ 4 ≤ (0) ∧ (0) ≤ (u3_5) - 5 - a1 by first | exact q_415 | omega) (show (0) = 0 ∨ (y9) < a1 by first | exact q_414 | omega) (show MTL ((w18)) ((u3_5) - 5) 65535 4 (a2) ((u3_5) - 12) (a1) ((0)) (a1 - (y9)) by assumption))
    · refine Ew_of (pcₚ := 26) (fun _ => x_aload_n rfl rfl) ?_
      refine Ew_of (pcₚ := 27) (fun _ => x_iload_n rfl rfl) ?_
      refine Ew_of (pcₚ := 28) (fun _ => x_iconst rfl) ?_
      refine w_iadd rfl ?_
      refine Ew_of (pcₚ := 30) (fun _ => x_iconst rfl) ?_
      refine w_inv H (o := 3) rfl rfl rfl (H.perm 3 rfl) rfl rfl (by rfl) (M361 H (u3_5) ((eu3_5)) (w18) (ew18) (show inr ((a1 + 1)) from q_439 h3) (show inr (2) from q_122) (show 0 ≤ (u3_5) ∧ (u3_5) ≤ 16384 from h2) (show 0 ≤ ((a1 + 1)) ∧ ((a1 + 1)) ≤ 16384 from q_442 h3) (show 0 ≤ (2) ∧ (2) ≤ 2 from q_440) (fun z17 σ F13 A14 H hS15 hA16 y18 ey19 pz17_0 pz17_1 pz17_2 pz17_3 pz17_4 => ⟨rfl, ?_⟩))
      have r20 : (0 : Int) ≤ y18 ∧ y18 ≤ 16384 := rngE (show (0 : Int) ≤ F13 3 6 ∧ F13 3 6 ≤ 16384 from H.frng 3 6) (show F13 3 6 = y18 from (ey19))
      have hn1 := pz17_4
      refine Ew_of (pcₚ := 37) (fun _ => x_goto rfl rfl) ?_
      refine Ew_of (pcₚ := 38) (fun _ => x_istore_n rfl) ?_
      refine Ew_of (pcₚ := 39) (fun _ => x_aload_n rfl (rk_o (rfl) rfl rfl)) ?_
      refine Ew_of (pcₚ := 40) (fun _ => x_iload_n rfl (rk_o (rfl) rfl rfl)) ?_
      refine Ew_of (pcₚ := 41) (fun _ => x_iconst rfl) ?_
      refine w_inv H (o := 3) rfl rfl rfl (H.perm 3 rfl) rfl rfl (by rfl) (M361 H (u3_5) (((hS15 3 5 rfl).trans (eu3_5))) (w18) ((funext (hA16 18 rfl)).trans (ew18)) (show inr (a1) from h0) (show inr (2) from q_122) (show 0 ≤ (u3_5) ∧ (u3_5) ≤ 16384 from h2) (show 0 ≤ (a1) ∧ (a1) ≤ 16384 from q_441 h3) (show 0 ≤ (2) ∧ (2) ≤ 2 from q_440) (fun z25 σ F21 A22 H hS23 hA24 y26 ey27 pz25_0 pz25_1 pz25_2 pz25_3 pz25_4 => ⟨rfl, ?_⟩))
      have r28 : (0 : Int) ≤ y26 ∧ y26 ≤ 16384 := rngE (show (0 : Int) ≤ F21 3 6 ∧ F21 3 6 ≤ 16384 from H.frng 3 6) (show F21 3 6 = y26 from (ey27))
      have hn0 := pz25_4
      refine Ew_of (pcₚ := 46) (fun _ => x_istore rfl) ?_
      refine Ew_of (pcₚ := 47) (fun _ => x_iload_n rfl (rk_o (rk_s) rfl rfl)) ?_
      refine Ew_of (pcₚ := 49) (fun _ => x_iload rfl rk_s) ?_
      refine w_icmple (t := 56) rfl rfl (show inr (z17) from pz17_0) (show inr (z25) from pz25_0) (fun b29 => ?_) (fun b29 => ?_)
      · refine Ew_of (pcₚ := 58) (fun _ => x_iload rfl rk_s) ?_
        have : MTL ((w18)) ((u3_5) - 5) 65535 4 ((a2)) ((u3_5) - 12) ((a1)) ((z25)) ((a1) - (y26)) := by rw [show (a2) = 3 by omega]; first | exact MTL_3 (n1 := (z17)) (.inl ⟨by omega, hn1⟩) hn0 (by omega) (by omega) | exact MTL_3 (n1 := (z17)) (d1 := 0) (.inr ⟨by omega, by omega⟩) hn0 (by omega) (by omega)
        exact w_ireturn rfl (k (z25) σ _ _ H (SF_trans (SF_trans (SF_refl) hS15 (any_sub rfl)) hS23 (any_sub rfl)) (SA_trans (SA_trans (SA_refl) hA16 (any_subA rfl)) hA24 (any_subA rfl)) (y26) ((ey27)) (show inr (z25) from pz25_0) (show 0 ≤ (z25) from pz25_1) (show (z25) = 0 ∨ 4 ≤ (z25) ∧ (z25) ≤ (u3_5) - 5 - a1 from pz25_2) (show (z25) = 0 ∨ (y26) < a1 from pz25_3) (show MTL ((w18)) ((u3_5) - 5) 65535 4 (a2) ((u3_5) - 12) (a1) ((z25)) (a1 - (y26)) by assumption))
      · refine Ew_of (pcₚ := 53) (fun _ => x_iconst rfl) ?_
        refine Ew_of (pcₚ := 58) (fun _ => x_goto rfl rfl) ?_
        have : MTL ((w18)) ((u3_5) - 5) 65535 4 ((a2)) ((u3_5) - 12) ((a1)) ((0)) ((a1) - (y26)) := by rw [show (a2) = 3 by omega]; first | exact MTL_3 (n1 := (z17)) (.inl ⟨by omega, hn1⟩) hn0 (by omega) (by omega) | exact MTL_3 (n1 := (z17)) (d1 := 0) (.inr ⟨by omega, by omega⟩) hn0 (by omega) (by omega)
        exact w_ireturn rfl (k (0) σ _ _ H (SF_trans (SF_trans (SF_refl) hS15 (any_sub rfl)) hS23 (any_sub rfl)) (SA_trans (SA_trans (SA_refl) hA16 (any_subA rfl)) hA24 (any_subA rfl)) (y26) ((ey27)) (show inr (0) from q_2) (show 0 ≤ (0) by first | exact q_1 | omega) (show (0) = 0 ∨ 4 ≤ (0) ∧ (0) ≤ (u3_5) - 5 - a1 by first | exact q_415 | omega) (show (0) = 0 ∨ (y26) < a1 by first | exact q_414 | omega) (show MTL ((w18)) ((u3_5) - 5) 65535 4 (a2) ((u3_5) - 12) (a1) ((0)) (a1 - (y26)) by assumption))
  · refine Ew_of (pcₚ := 6) (fun _ => x_aload_n rfl rfl) ?_
    refine Ew_of (pcₚ := 7) (fun _ => x_iload_n rfl rfl) ?_
    refine Ew_of (pcₚ := 8) (fun _ => x_iload_n rfl rfl) ?_
    refine w_inv H (o := 3) rfl rfl rfl (H.perm 3 rfl) rfl rfl (by rfl) (M361 H (u3_5) ((eu3_5)) (w18) (ew18) (show inr (a1) from h0) (show inr (a2) from h1) (show 0 ≤ (u3_5) ∧ (u3_5) ≤ 16384 from h2) (show 0 ≤ (a1) ∧ (a1) ≤ 16384 from q_441 h3) (show 0 ≤ (a2) ∧ (a2) ≤ 2 from q_443 b2 h4) (fun z34 σ F30 A31 H hS32 hA33 y35 ey36 pz34_0 pz34_1 pz34_2 pz34_3 pz34_4 => ⟨rfl, ?_⟩))
    have r37 : (0 : Int) ≤ y35 ∧ y35 ≤ 16384 := rngE (show (0 : Int) ≤ F30 3 6 ∧ F30 3 6 ≤ 16384 from H.frng 3 6) (show F30 3 6 = y35 from (ey36))
    have : MTL ((w18)) ((u3_5) - 5) 65535 4 ((a2)) ((u3_5) - 12) ((a1)) ((z34)) ((a1) - (y35)) := pz34_4
    exact w_ireturn rfl (k (z34) σ _ _ H (SF_trans (SF_refl) hS32 (any_sub rfl)) (SA_trans (SA_refl) hA33 (any_subA rfl)) (y35) ((ey36)) (show inr (z34) from pz34_0) (show 0 ≤ (z34) from pz34_1) (show (z34) = 0 ∨ 4 ≤ (z34) ∧ (z34) ≤ (u3_5) - 5 - a1 from pz34_2) (show (z34) = 0 ∨ (y35) < a1 from pz34_3) (pz34_4))

theorem M376 {σ0 σ : rS} {D N : Nat → Nat} {F : hF} {A : hA} {d c s : Nat} {Q : wQ} (H : HS σ0 σ D N F A) {a1 : Int} (u3_8 : Int) (eu3_8 : F 3 8 = u3_8) (w19 : Int → Int) (ew19 : A 19 = w19) (h0 : inr (a1)) (h1 : 0 ≤ (a1) ∧ (a1) ≤ 255) (h2 : 0 ≤ (u3_8) ∧ (u3_8) ≤ 100000000) (k : ∀ σ Fₚ Aₚ, HS σ0 σ D N Fₚ Aₚ → SF [(3, 8)] F Fₚ → SA [19] A Aₚ → ∀ y3_8 : Int, Fₚ 3 8 = y3_8 → ∀ v19 : Int → Int, Aₚ 19 = v19 → ((y3_8) = (u3_8) + 1) → (QAP 70000 ((w19)) ((u3_8)) ((v19)) ((y3_8)) ([(a1)])) → Q none σ c s) : Ew 376 (d + 0) 0 (rargs 0 [.ref (D 3), I a1]) [] σ c s Q := by
  have r1 : (-2147483648 : Int) ≤ u3_8 ∧ u3_8 ≤ 2147483647 := rngE (show (-2147483648 : Int) ≤ F 3 8 ∧ F 3 8 ≤ 2147483647 from H.frng 3 8) (show F 3 8 = u3_8 from (eu3_8))
  refine Ew_of (pcₚ := 1) (fun _ => x_aload_n rfl rfl) ?_
  refine w_gI H (o := 3) (w := u3_8) rfl (H.perm 3 rfl) rfl rfl rfl (fun _ => rfl) (eu3_8) ?_
  refine Ew_of (pcₚ := 6) (fun _ => x_ldc (z := 70000) rfl (by decide)) ?_
  refine w_icmpge (t := 19) rfl rfl (show inr (u3_8) from q_307 h2 r1) (show inr (70000) from q_306) (fun b2 => ?_) (fun b2 => ?_)
  · refine Ew_of (pcₚ := 20) (fun _ => x_aload_n rfl rfl) ?_
    refine Ew_of (pcₚ := 21) (fun _ => x_dup rfl rfl) ?_
    refine w_gI H (o := 3) (w := u3_8) rfl (H.perm 3 rfl) rfl rfl rfl (fun _ => rfl) (eu3_8) ?_
    refine Ew_of (pcₚ := 25) (fun _ => x_iconst rfl) ?_
    refine w_iadd rfl ?_
    refine w_pI H (o := 3) rfl rfl (H.perm 3 rfl) rfl rfl rfl (fun _ => rfl) rfl (show (-2147483648 : Int) ≤ (u3_8 + 1) ∧ (u3_8 + 1) ≤ 2147483647 by omega) (fun σ H => ?_)
    have : QAP 70000 ((w19)) ((u3_8)) ((w19)) (((u3_8 + 1))) ([(a1)]) := by first | exact QAP_in (by omega) (by omega) rfl | exact QAP_out (by omega) rfl
    exact w_ret rfl (k σ _ _ H (SF_upd (SF_refl) rfl) (SA_refl) ((u3_8 + 1)) (rfl) (w19) (ew19) (show ((u3_8 + 1)) = (u3_8) + 1 from q_308) (show QAP 70000 ((w19)) ((u3_8)) ((w19)) (((u3_8 + 1))) ([a1]) by assumption))
  · refine Ew_of (pcₚ := 10) (fun _ => x_aload_n rfl rfl) ?_
    refine w_gT H (o := 3) (t := 19) rfl (H.perm 3 rfl) rfl rfl rfl rfl rfl rfl ?_
    refine Ew_of (pcₚ := 14) (fun _ => x_aload_n rfl rfl) ?_
    refine w_gI H (o := 3) (w := u3_8) rfl (H.perm 3 rfl) rfl rfl rfl (fun _ => rfl) (eu3_8) ?_
    refine Ew_of (pcₚ := 18) (fun _ => x_iload_n rfl rfl) ?_
    refine w_sI H (o := 19) (n := 70000) rfl (H.perm 19 rfl) rfl rfl (H.fix 19 rfl rfl) (show 0 ≤ u3_8 ∧ u3_8 < ((70000 : Nat) : Int) from q_309 b2 h2) (by decide) (show (0 : Int) ≤ a1 ∧ a1 ≤ 255 from h1) (fun σ H => ?_)
    refine Ew_of (pcₚ := 20) (fun _ => x_aload_n rfl rfl) ?_
    refine Ew_of (pcₚ := 21) (fun _ => x_dup rfl rfl) ?_
    refine w_gI H (o := 3) (w := u3_8) rfl (H.perm 3 rfl) rfl rfl rfl (fun _ => rfl) (eu3_8) ?_
    refine Ew_of (pcₚ := 25) (fun _ => x_iconst rfl) ?_
    refine w_iadd rfl ?_
    refine w_pI H (o := 3) rfl rfl (H.perm 3 rfl) rfl rfl rfl (fun _ => rfl) rfl (show (-2147483648 : Int) ≤ (u3_8 + 1) ∧ (u3_8 + 1) ≤ 2147483647 from q_310 b2 h2) (fun σ H => ?_)
    have : QAP 70000 ((w19)) ((u3_8)) ((upd1 (w19) (u3_8) (a1))) (((u3_8 + 1))) ([(a1)]) := by first | exact QAP_in (by omega) (by omega) rfl | exact QAP_out (by omega) rfl
    exact w_ret rfl (k σ _ _ H (SF_upd (SF_refl) rfl) (SA_upd (SA_refl) rfl) ((u3_8 + 1)) (rfl) (upd1 (w19) (u3_8) (a1)) (congrArg (fun q => upd1 q (u3_8) (a1)) (ew19)) (show ((u3_8 + 1)) = (u3_8) + 1 from q_308) (show QAP 70000 ((w19)) ((u3_8)) ((upd1 (w19) (u3_8) (a1))) (((u3_8 + 1))) ([a1]) by assumption))

theorem M380 {σ0 σ : rS} {D N : Nat → Nat} {F : hF} {A : hA} {d c s : Nat} {Q : wQ} (H : HS σ0 σ D N F A) {a1 a2 : Int} (w14 : Int → Int) (ew14 : A 14 = w14) (h0 : inr (a1)) (h1 : inr (a2)) (h2 : 0 ≤ (a1) ∧ 0 ≤ (a2) ∧ (a2) ≤ 8 ∧ (a1) + (a2) ≤ 65536) (k : ∀ (z : Int) σ Fₚ Aₚ, HS σ0 σ D N Fₚ Aₚ → SF [] F Fₚ → SA [] A Aₚ → (inrJ (z)) → ((z) = nmb ((w14)) ((a1)) ((a2)) ((a2) : Int).toNat) → (¬((a2) = 4) ∨ 0 ≤ (z) ∧ (z) ≤ 4294967295) → Q (some (J z)) σ c s) : Ew 380 (d + 0) 0 (rargs 0 [.ref (D 3), I a1, I a2]) [] σ c s Q := by
  refine Ew_of (pcₚ := 1) (fun _ => x_lconst (z := 0) rfl (by decide)) ?_
  refine Ew_of (pcₚ := 2) (fun _ => x_lstore_n rfl) ?_
  refine Ew_of (pcₚ := 3) (fun _ => x_iload_n rfl (rk2_o (rfl) rfl rfl)) ?_
  refine Ew_of (pcₚ := 4) (fun _ => x_iconst rfl) ?_
  refine w_isub rfl ?_
  refine Ew_of (pcₚ := 7) (fun _ => x_istore rfl) ?_
  have : (0 : Int) = nmb ((w14)) ((a1)) ((a2)) ((a2) - 1 - ((a2) - 1) : Int).toNat := by rw [show ((a2) - 1 - ((a2) - 1) : Int).toNat = 0 by omega]; rfl
  suffices hl7 : ∀ (m : Nat), ∀ (ls : rO) (σ : rS) (F_7 : hF) (A_7 : hA) (x7_3 : Int) (x7_5 : Int), rlook ls 0 = some (.ref (D 3)) → rlook ls 1 = some (I (a1)) → rlook ls 3 = some (J (x7_3)) → rlook ls 5 = some (I (x7_5)) → HS σ0 σ D N F_7 A_7 → SF [] F F_7 → SA [] A A_7 → (inrJ (x7_3)) → (inr (x7_5)) → ((x7_5) ≤ ((a2 - 1))) → (((a2 - 1)) ≤ (x7_5) ∨ ((-1)) ≤ (x7_5)) → ((x7_3) = nmb ((w14)) ((a1)) ((a2)) ((a2) - 1 - (x7_5) : Int).toNat) → ((x7_5) - ((-1))).toNat = m → Ew 380 (d + 0) 7 ls [] σ c s Q from
    hl7 _ _ σ _ _ (0) ((a2 - 1)) (rk_o (rk2_o (rfl) rfl rfl) rfl rfl) (rk_o (rk2_o (rfl) rfl rfl) rfl rfl) (rk_o (rk2_s) rfl rfl) (rk_s) H (SF_refl) (SA_refl)   (show inrJ (0) from q_340) (show inr ((a2 - 1)) from q_444 h2) (show ((a2 - 1)) ≤ ((a2 - 1)) from q_419) (show ((a2 - 1)) ≤ ((a2 - 1)) ∨ ((-1)) ≤ ((a2 - 1)) from q_418) (show (0) = nmb ((w14)) ((a1)) ((a2)) ((a2) - 1 - ((a2 - 1)) : Int).toNat by assumption) rfl
  as_aux_lemma =>
  intro m
  induction m using Nat.strongRecOn with
  | _ m ih7 =>
    intro ls σ F_7 A_7 x7_3 x7_5 l7_0 l7_1 l7_3 l7_5 H hS_7 hA_7   j7_0 j7_1 j7_2 j7_3 j7_4 hm7
    have j7_q : (x7_3) = nmb ((w14)) ((a1)) ((a2)) ((a2) - 1 - (x7_5) : Int).toNat := by assumption
    refine Ew_of (pcₚ := 9) (fun _ => x_iload rfl l7_5) ?_
    refine w_iflt (t := 37) rfl rfl (show inr (x7_5) from j7_1) (fun b1 => ?_) (fun b1 => ?_)
    · refine Ew_of (pcₚ := 38) (fun _ => x_lload_n rfl l7_3) ?_
      have hfi : (x7_3) = nmb ((w14)) ((a1)) ((a2)) ((a2) : Int).toNat := by have h := j7_q; rw [show (a2) - 1 - (x7_5) = (a2) by omega] at h; exact h
      have : ¬((a2) = 4) ∨ 0 ≤ (x7_3) ∧ (x7_3) ≤ 4294967295 := by by_cases z : (a2) = 4; (exact .inr (nmb_4b hfi z (by omega))); (exact .inl z)
      exact w_lreturn rfl (k (x7_3) σ _ _ H (SF_trans (SF_refl) hS_7 (any_sub rfl)) (SA_trans (SA_refl) hA_7 (any_subA rfl)) (show inrJ (x7_3) from j7_0) (hfi) (show ¬(a2 = 4) ∨ 0 ≤ (x7_3) ∧ (x7_3) ≤ 4294967295 by first | assumption | exact fun h => absurd rfl h | exact fun h => absurd h (by decide) | omega))
    · refine Ew_of (pcₚ := 13) (fun _ => x_lload_n rfl l7_3) ?_
      refine Ew_of (pcₚ := 15) (fun _ => x_bipush (z := 8) rfl (by decide)) ?_
      refine w_lshlE rfl ?_
      have g2 : inrJ (shlJ (x7_3) (8)) := toJ_inr _
      refine Ew_of (pcₚ := 17) (fun _ => x_aload_n rfl l7_0) ?_
      refine w_gT H (o := 3) (t := 1) rfl (H.perm 3 rfl) rfl rfl rfl rfl rfl rfl ?_
      refine w_gT H (o := 1) (t := 14) rfl (H.perm 1 rfl) rfl rfl rfl rfl rfl rfl ?_
      refine Ew_of (pcₚ := 24) (fun _ => x_iload_n rfl l7_1) ?_
      refine Ew_of (pcₚ := 26) (fun _ => x_iload rfl l7_5) ?_
      refine w_iadd rfl ?_
      refine w_lI H (o := 14) (n := 65536) rfl (H.perm 14 rfl) rfl rfl (H.fix 14 rfl rfl) (show 0 ≤ (a1 + x7_5) ∧ (a1 + x7_5) < ((65536 : Nat) : Int) from q_445 b1 h2 j7_2) (by decide) (fun v3 ev3 qv3 => ?_)
      have qv3 : (0 : Int) ≤ v3 ∧ v3 ≤ 255 := qv3
      have ev3 : (w14) ((a1 + x7_5)) = v3 := (congrFun ((funext (hA_7 14 rfl)).trans (ew14)) ((a1 + x7_5))).symm.trans ev3
      have hby := ev3
      refine w_i2l rfl (show inr (v3) from q_299 qv3) ?_
      refine w_lorE rfl ?_
      have g4 : inrJ (orJ ((shlJ (x7_3) (8))) (v3)) := toJ_inr _
      have hnf : (((orJ ((shlJ (x7_3) (8))) (v3))) : Int) = nmb ((w14)) ((a1)) ((a2)) ((a2) - 1 - ((x7_5) + (-1)) : Int).toNat := nmb_s (i := (x7_5)) (by omega) (by omega) (by omega) j7_q rfl (by rw [hby]; omega) rfl
      refine Ew_of (pcₚ := 31) (fun _ => x_lstore_n rfl) ?_
      refine Ew_of (pcₚ := 34) (fun _ => x_iinc (len := 3) rfl (rk2_o (l7_5) rfl rfl)) ?_
      refine Ew_of (pcₚ := 7) (fun _ => x_goto rfl rfl) ?_
      exact ih7 _ (msE hm7 q_432 (q_433 b1)) _ σ _ _ ((orJ ((shlJ (x7_3) (8))) (v3))) ((x7_5 + (-1))) (rk_o (rk2_o (l7_0) rfl rfl) rfl rfl) (rk_o (rk2_o (l7_1) rfl rfl) rfl rfl) (rk_o (rk2_s) rfl rfl) (rk_s) H (hS_7) (hA_7)   (show inrJ ((orJ ((shlJ (x7_3) (8))) (v3))) from g4) (show inr ((x7_5 + (-1))) from q_431 b1 j7_1) (show ((x7_5 + (-1))) ≤ ((a2 - 1)) from q_430 j7_2) (show ((a2 - 1)) ≤ ((x7_5 + (-1))) ∨ ((-1)) ≤ ((x7_5 + (-1))) from q_429 b1) (show ((orJ ((shlJ (x7_3) (8))) (v3))) = nmb ((w14)) ((a1)) ((a2)) ((a2) - 1 - ((x7_5 + (-1))) : Int).toNat by assumption) rfl

