/-- Writer.say -/
theorem M392g {σ0 σ : rS} {D N : Nat → Nat} {F : hF} {A : hA} {d c s : Nat} {Q : wQ} (H : HS σ0 σ D N F A) {a1 : Int} (u6_37 : Int) (eu6_37 : F 6 37 = u6_37) (w70 : Int → Int) (ew70 : A 70 = w70) (h0 : inr (a1)) (h1 : 0 ≤ (u6_37) ∧ (u6_37) ≤ 99999999) (k : ∀ σ F' A', HS σ0 σ D N F' A' → SF [(6, 37)] F F' → SA [70] A A' → ∀ y6_37 : Int, F' 6 37 = y6_37 → ∀ v70 : Int → Int, A' 70 = v70 → ((y6_37) = (u6_37) + 1) → (QAP 65536 ((w70)) ((u6_37)) ((v70)) ((y6_37)) ([u8 ((a1))])) → (FRM ((w70)) ((v70)) ((u6_37)) ((u6_37) + 1)) → Q none σ c s) : Ew 392 (d + 0) 0 (rargs 0 [.ref (D 6), I a1]) [] σ c s Q := by
  have r1 : (0 : Int) ≤ u6_37 ∧ u6_37 ≤ 100000000 := by have h1 : (0 : Int) ≤ F 6 37 ∧ F 6 37 ≤ 100000000 := H.frng 6 37; rw [show F 6 37 = u6_37 from (eu6_37)] at h1; exact h1
  refine Ew_of (pc' := 1) (fun _ => x_aload_n rfl rfl) ?_
  refine w_gI H (o := 6) (w := u6_37) rfl (H.perm 6 rfl) rfl rfl rfl (fun _ => rfl) (eu6_37) ?_
  refine Ew_of (pc' := 6) (fun _ => x_ldc (z := 65536) rfl (by decide)) ?_
  refine w_icmpge (t := 23) rfl rfl (show inr (u6_37) by omega) (show inr (65536) by omega) (fun b2 => ?_) (fun b2 => ?_)
  · refine Ew_of (pc' := 24) (fun _ => x_aload_n rfl rfl) ?_
    refine Ew_of (pc' := 25) (fun _ => x_dup rfl rfl) ?_
    refine w_gI H (o := 6) (w := u6_37) rfl (H.perm 6 rfl) rfl rfl rfl (fun _ => rfl) (eu6_37) ?_
    refine Ew_of (pc' := 29) (fun _ => x_iconst rfl) ?_
    refine w_iadd rfl ?_
    refine w_pI H (o := 6) rfl rfl (H.perm 6 rfl) rfl rfl rfl (fun _ => rfl) rfl (show (0 : Int) ≤ (u6_37 + 1) ∧ (u6_37 + 1) ≤ 100000000 by omega) (fun σ H => ?_)
    have : QAP 65536 ((w70)) ((u6_37)) ((w70)) (((u6_37 + 1))) ([u8 ((a1))]) := by first | exact QAP_iu (by omega) (hqa2 trivial) rfl | exact QAP_out (by omega) rfl
    have : FRM ((w70)) ((w70)) ((u6_37)) ((u6_37) + 1) := by first | exact fun k h => upd1_o (by omega) | exact fun _ _ => rfl
    exact w_ret rfl (k σ _ _ H (SF_upd (SF_refl) rfl) (SA_refl) ((u6_37 + 1)) (rfl) (w70) (ew70) (show ((u6_37 + 1)) = (u6_37) + 1 by omega) (show QAP 65536 ((w70)) ((u6_37)) ((w70)) (((u6_37 + 1))) ([u8 (a1)]) by assumption) (show FRM ((w70)) ((w70)) ((u6_37)) ((u6_37) + 1) by assumption))
  · refine Ew_of (pc' := 10) (fun _ => x_aload_n rfl rfl) ?_
    refine w_gT H (o := 6) (t := 70) rfl (H.perm 6 rfl) rfl rfl rfl rfl rfl rfl ?_
    refine Ew_of (pc' := 14) (fun _ => x_aload_n rfl rfl) ?_
    refine w_gI H (o := 6) (w := u6_37) rfl (H.perm 6 rfl) rfl rfl rfl (fun _ => rfl) (eu6_37) ?_
    refine Ew_of (pc' := 18) (fun _ => x_iload_n rfl rfl) ?_
    refine Ew_of (pc' := 21) (fun _ => x_sipush (z := 255) rfl (by decide)) ?_
    refine w_iandG rfl ?_
    have g3 : inr (andI (a1) (255)) := toI_inr _
    obtain ⟨qa, hqa⟩ : ∃ q : Int, q = ((andI (a1) (255))) := ⟨_, rfl⟩
    rw [← hqa]
    have gqa : inr qa := by rw [hqa]; first | assumption | omega
    replace hqa : IMP True (qa = ((andI (a1) (255)))) := fun _ => hqa
    try clear g3
    have hqa2 : qa = u8 ((a1)) := (hqa trivial).trans (andI_255 ((a1)))
    have hqr := u8_rng ((a1))
    rw [← hqa2] at hqr
    replace hqa2 : IMP True (qa = u8 ((a1))) := fun _ => hqa2
    refine w_sI H (o := 70) (n := 65536) rfl (H.perm 70 rfl) rfl rfl (H.fix 70 rfl rfl) (show 0 ≤ u6_37 ∧ u6_37 < ((65536 : Nat) : Int) by omega) (by decide) (show (0 : Int) ≤ qa ∧ qa ≤ 255 by omega) (fun σ H => ?_)
    refine Ew_of (pc' := 24) (fun _ => x_aload_n rfl rfl) ?_
    refine Ew_of (pc' := 25) (fun _ => x_dup rfl rfl) ?_
    refine w_gI H (o := 6) (w := u6_37) rfl (H.perm 6 rfl) rfl rfl rfl (fun _ => rfl) (eu6_37) ?_
    refine Ew_of (pc' := 29) (fun _ => x_iconst rfl) ?_
    refine w_iadd rfl ?_
    refine w_pI H (o := 6) rfl rfl (H.perm 6 rfl) rfl rfl rfl (fun _ => rfl) rfl (show (0 : Int) ≤ (u6_37 + 1) ∧ (u6_37 + 1) ≤ 100000000 by omega) (fun σ H => ?_)
    have : QAP 65536 ((w70)) ((u6_37)) ((upd1 (w70) (u6_37) (qa))) (((u6_37 + 1))) ([u8 ((a1))]) := by first | exact QAP_iu (by omega) (hqa2 trivial) rfl | exact QAP_out (by omega) rfl
    have : FRM ((w70)) ((upd1 (w70) (u6_37) (qa))) ((u6_37)) ((u6_37) + 1) := by first | exact fun k h => upd1_o (by omega) | exact fun _ _ => rfl
    exact w_ret rfl (k σ _ _ H (SF_upd (SF_refl) rfl) (SA_upd (SA_refl) rfl) ((u6_37 + 1)) (rfl) (upd1 (w70) (u6_37) (qa)) (congrArg (fun q => upd1 q (u6_37) (qa)) (ew70)) (show ((u6_37 + 1)) = (u6_37) + 1 by omega) (show QAP 65536 ((w70)) ((u6_37)) ((upd1 (w70) (u6_37) (qa))) (((u6_37 + 1))) ([u8 (a1)]) by assumption) (show FRM ((w70)) ((upd1 (w70) (u6_37) (qa))) ((u6_37)) ((u6_37) + 1) by assumption))
/-- Writer.sayNumber -/
theorem M393g {σ0 σ : rS} {D N : Nat → Nat} {F : hF} {A : hA} {d c s : Nat} {Q : wQ} (H : HS σ0 σ D N F A) {a1 a2 : Int} (u6_37 : Int) (eu6_37 : F 6 37 = u6_37) (w70 : Int → Int) (ew70 : A 70 = w70) (h0 : inrJ (a1)) (h1 : inr (a2)) (h2 : 0 ≤ (a2) ∧ (a2) ≤ 8) (h3 : 0 ≤ (u6_37) ∧ (u6_37) ≤ 90000000) (k : ∀ σ F' A', HS σ0 σ D N F' A' → SF [(6, 37)] F F' → SA [70] A A' → ∀ y6_37 : Int, F' 6 37 = y6_37 → ∀ v70 : Int → Int, A' 70 = v70 → ((y6_37) = (u6_37) + (a2)) → (QAP 65536 ((w70)) ((u6_37)) ((v70)) ((y6_37)) (nb ((a1)) ((a2)))) → (FRM ((w70)) ((v70)) ((u6_37)) ((u6_37) + (a2))) → Q none σ c s) : Ew 393 (d + 1) 0 (rargs 0 [.ref (D 6), J a1, I a2]) [] σ c s Q := by
  have r1 : (0 : Int) ≤ u6_37 ∧ u6_37 ≤ 100000000 := by have h1 : (0 : Int) ≤ F 6 37 ∧ F 6 37 ≤ 100000000 := H.frng 6 37; rw [show F 6 37 = u6_37 from (eu6_37)] at h1; exact h1
  refine Ew_of (pc' := 1) (fun _ => x_iconst rfl) ?_
  refine Ew_of (pc' := 3) (fun _ => x_istore rfl) ?_
  have : QAP 65536 ((w70)) ((u6_37)) ((w70)) ((u6_37)) (nb ((a1)) 0) := QAP_refl
  have : FRM ((w70)) ((w70)) ((u6_37)) ((u6_37) + 0) := fun _ _ => rfl
  suffices hl3 : ∀ (m : Nat), ∀ (ls : rO) (σ : rS) (F_3 : hF) (A_3 : hA) (x3_4 : Int), rlook ls 0 = some (.ref (D 6)) → rlook ls 1 = some (J (a1)) → rlook ls 3 = some (I (a2)) → rlook ls 4 = some (I (x3_4)) → HS σ0 σ D N F_3 A_3 → SF [(6, 37)] F F_3 → SA [70] A A_3 → ∀ y3_6_37 : Int, F_3 6 37 = y3_6_37 → ∀ w3_70 : Int → Int, A_3 70 = w3_70 → (inr (x3_4)) → ((0) ≤ (x3_4)) → ((x3_4) ≤ (0) ∨ (x3_4) ≤ ((a2))) → ((y3_6_37) = (u6_37) + (x3_4)) → (QAP 65536 ((w70)) ((u6_37)) ((w3_70)) ((y3_6_37)) (nb ((a1)) ((x3_4)))) → (FRM ((w70)) ((w3_70)) ((u6_37)) ((u6_37) + (x3_4))) → (((a2)) - (x3_4)).toNat = m → Ew 393 (d + 1) 3 ls [] σ c s Q from
    hl3 _ _ σ _ _ (0) (rk_o (rfl) rfl rfl) (rk_o (rfl) rfl rfl) (rk_o (rfl) rfl rfl) (rk_s) H (SF_refl) (SA_refl) (u6_37) ((eu6_37)) (w70) (ew70) (show inr (0) by omega) (show (0) ≤ (0) by omega) (show (0) ≤ (0) ∨ (0) ≤ ((a2)) by omega) (show (u6_37) = (u6_37) + (0) by omega) (show QAP 65536 ((w70)) ((u6_37)) ((w70)) ((u6_37)) (nb ((a1)) ((0))) by assumption) (show FRM ((w70)) ((w70)) ((u6_37)) ((u6_37) + (0)) by assumption) rfl
  as_aux_lemma =>
  intro m
  induction m using Nat.strongRecOn with
  | _ m ih3 =>
    intro ls σ F_3 A_3 x3_4 l3_0 l3_1 l3_3 l3_4 H hS_3 hA_3 y3_6_37 ey3_6_37 w3_70 ew3_70 j3_0 j3_1 j3_2 j3_3 j3_4 j3_5 hm3
    have r2 : (0 : Int) ≤ y3_6_37 ∧ y3_6_37 ≤ 100000000 := by have h1 : (0 : Int) ≤ F_3 6 37 ∧ F_3 6 37 ≤ 100000000 := H.frng 6 37; rw [show F_3 6 37 = y3_6_37 from (ey3_6_37)] at h1; exact h1
    have j3_q : QAP 65536 ((w70)) ((u6_37)) ((w3_70)) ((y3_6_37)) (nb ((a1)) ((x3_4))) := by assumption
    have j3_f : FRM ((w70)) ((w3_70)) ((u6_37)) ((u6_37) + (x3_4)) := by assumption
    obtain ⟨ql4, hql4⟩ : ∃ q : Int, q = (x3_4) := ⟨_, rfl⟩
    refine Ew_of (pc' := 5) (fun _ => x_iload rfl l3_4) ?_
    refine Ew_of (pc' := 6) (fun _ => x_iload_n rfl l3_3) ?_
    refine w_icmpge (t := 31) rfl rfl (show inr (x3_4) by omega) (show inr (a2) by omega) (fun b3 => ?_) (fun b3 => ?_)
    · have : QAP 65536 ((w70)) ((u6_37)) ((w3_70)) ((y3_6_37)) (nb ((a1)) ((a2))) := by rw [show (a2) = (x3_4) by omega]; exact j3_q
      have : FRM ((w70)) ((w3_70)) ((u6_37)) ((u6_37) + (a2)) := fun k h => j3_f k (by omega)
      exact w_ret rfl (k σ _ _ H (SF_trans (SF_refl) hS_3 (any_sub rfl)) (SA_trans (SA_refl) hA_3 (any_subA rfl)) (y3_6_37) ((ey3_6_37)) (w3_70) (ew3_70) (show (y3_6_37) = (u6_37) + a2 by omega) (show QAP 65536 ((w70)) ((u6_37)) ((w3_70)) ((y3_6_37)) (nb (a1) (a2)) by assumption) (show FRM ((w70)) ((w3_70)) ((u6_37)) ((u6_37) + a2) by assumption))
    · refine Ew_of (pc' := 10) (fun _ => x_aload_n rfl l3_0) ?_
      refine Ew_of (pc' := 11) (fun _ => x_lload_n rfl l3_1) ?_
      refine Ew_of (pc' := 13) (fun _ => x_bipush (z := 8) rfl (by decide)) ?_
      refine Ew_of (pc' := 15) (fun _ => x_iload rfl l3_4) ?_
      refine w_imul rfl ?_
      refine w_lshrE rfl ?_
      have g4 : inrJ (srJ (a1) ((8 * x3_4))) := toJ_inr _
      refine Ew_of (pc' := 20) (fun _ => x_ldc2 (z := 255) rfl (by decide)) ?_
      refine w_landE rfl ?_
      have g5 : inrJ (anJ ((srJ (a1) ((8 * x3_4)))) (255)) := toJ_inr _
      refine w_l2i rfl ?_
      have hby : ((anJ ((srJ (a1) ((8 * x3_4)))) (255))) = u8 ((a1) / p2 (8 * (x3_4))) := an_sr (by omega) (by omega)
      have hbr := u8_rng ((a1) / p2 (8 * (x3_4)))
      rw [← hby] at hbr
      refine w_inv H (o := 6) rfl rfl rfl (H.perm 6 rfl) rfl rfl (by rfl) (M392g H (y3_6_37) ((ey3_6_37)) (w3_70) (ew3_70) (show inr ((anJ ((srJ (a1) ((8 * x3_4)))) (255))) by omega) (show 0 ≤ (y3_6_37) ∧ (y3_6_37) ≤ 99999999 by omega) (fun σ F6 A7 H hS8 hA9 y11 ey12 wq13 ewq14 pz10_0 pz10_1 pz10_2 => ⟨rfl, ?_⟩))
      have r15 : (0 : Int) ≤ y11 ∧ y11 ≤ 100000000 := by have h1 : (0 : Int) ≤ F6 6 37 ∧ F6 6 37 ≤ 100000000 := H.frng 6 37; rw [show F6 6 37 = y11 from (ey12)] at h1; exact h1
      have hmk := pz10_1
      rw [u8_id hbr, hby] at hmk
      have hf25 := pz10_2
      refine Ew_of (pc' := 28) (fun _ => x_iinc (len := 3) rfl (l3_4)) ?_
      refine Ew_of (pc' := 3) (fun _ => x_goto rfl rfl) ?_
      have : QAP 65536 ((w70)) ((u6_37)) ((wq13)) ((y11)) (nb ((a1)) (((x3_4 + 1)))) := by rw [nb_s (by omega) rfl]; exact QAP_trans j3_q hmk
      have : FRM ((w70)) ((wq13)) ((u6_37)) ((u6_37) + ((x3_4 + 1))) := fun k h => (hf25 k (by omega)).trans (j3_f k (by omega))
      exact ih3 _ (by omega) _ σ _ _ ((x3_4 + 1)) (rk_o (l3_0) rfl rfl) (rk_o (l3_1) rfl rfl) (rk_o (l3_3) rfl rfl) (rk_s) H (SF_trans (hS_3) hS8 (any_sub rfl)) (SA_trans (hA_3) hA9 (any_subA rfl)) (y11) ((ey12)) (wq13) (ewq14) (show inr ((x3_4 + 1)) by omega) (show (0) ≤ ((x3_4 + 1)) by omega) (show ((x3_4 + 1)) ≤ (0) ∨ ((x3_4 + 1)) ≤ ((a2)) by omega) (show (y11) = (u6_37) + ((x3_4 + 1)) by omega) (show QAP 65536 ((w70)) ((u6_37)) ((wq13)) ((y11)) (nb ((a1)) (((x3_4 + 1)))) by assumption) (show FRM ((w70)) ((wq13)) ((u6_37)) ((u6_37) + ((x3_4 + 1))) by assumption) rfl
/-- Writer.keep -/
theorem M445f {σ0 σ : rS} {D N : Nat → Nat} {F : hF} {A : hA} {d c s : Nat} {Q : wQ} (H : HS σ0 σ D N F A)  (u6_12 : Int) (eu6_12 : F 6 12 = u6_12) (w53 : Int → Int) (ew53 : A 53 = w53) (w54 : Int → Int) (ew54 : A 54 = w54) (w55 : Int → Int) (ew55 : A 55 = w55) (w56 : Int → Int) (ew56 : A 56 = w56) (h0 : WC ((u6_12)) ((w53))) (h1 : WO ((w54)) ((w55))) (k : ∀ σ F' A', HS σ0 σ D N F' A' → SF [(6, 17)] F F' → SA [57, 58, 59, 60] A A' → ∀ y6_17 : Int, F' 6 17 = y6_17 → ∀ v57 : Int → Int, A' 57 = v57 → ∀ v58 : Int → Int, A' 58 = v58 → ∀ v59 : Int → Int, A' 59 = v59 → ∀ v60 : Int → Int, A' 60 = v60 → (WC ((y6_17)) ((v57))) → (WO ((v58)) ((v59))) → (∀ i, 0 ≤ i → i < 256 → ((v57)) i = ((w53)) i) → (∀ i, 0 ≤ i → i < 192 → ((v58)) i = ((w54)) i) → (∀ i, 0 ≤ i → i < 3 → ((v59)) i = ((w55)) i) → (∀ i, 0 ≤ i → i < 3 → ((v60)) i = ((w56)) i) → ((y6_17) = (u6_12)) → Q none σ c s) : Ew 445 (d + 0) 0 (rargs 0 [.ref (D 6)]) [] σ c s Q := by
  have r1 : (0 : Int) ≤ u6_12 ∧ u6_12 ≤ 11 := by have h1 : (0 : Int) ≤ F 6 12 ∧ F 6 12 ≤ 11 := H.frng 6 12; rw [show F 6 12 = u6_12 from (eu6_12)] at h1; exact h1
  refine Ew_of (pc' := 1) (fun _ => x_iconst rfl) ?_
  refine Ew_of (pc' := 2) (fun _ => x_istore_n rfl) ?_
  have : ∀ i, (0 : Int) ≤ i → i < 0 → ((A 57)) i = ((w53)) i := fun i a b => absurd b (by omega)
  suffices hl2 : ∀ (m : Nat), ∀ (ls : rO) (σ : rS) (F_2 : hF) (A_2 : hA) (x2_1 : Int), rlook ls 0 = some (.ref (D 6)) → rlook ls 1 = some (I (x2_1)) → HS σ0 σ D N F_2 A_2 → SF [] F F_2 → SA [57] A A_2 → ∀ w2_57 : Int → Int, A_2 57 = w2_57 → (inr (x2_1)) → ((0) ≤ (x2_1)) → ((x2_1) ≤ (0) ∨ (x2_1) ≤ ((256))) → (∀ i, 0 ≤ i → i < (x2_1) → ((w2_57)) i = ((w53)) i) → (((256)) - (x2_1)).toNat = m → Ew 445 (d + 0) 2 ls [] σ c s Q from
    hl2 _ _ σ _ _ (0) (rk_o (rfl) rfl rfl) (rk_s) H (SF_refl) (SA_refl)  (A 57) (rfl) (show inr (0) by omega) (show (0) ≤ (0) by omega) (show (0) ≤ (0) ∨ (0) ≤ ((256)) by omega) (show ∀ i, 0 ≤ i → i < (0) → ((A 57)) i = ((w53)) i by assumption) rfl
  as_aux_lemma =>
  intro m
  induction m using Nat.strongRecOn with
  | _ m ih2 =>
    intro ls σ F_2 A_2 x2_1 l2_0 l2_1 H hS_2 hA_2  w2_57 ew2_57 j2_0 j2_1 j2_2 j2_3 hm2
    refine Ew_of (pc' := 3) (fun _ => x_iload_n rfl l2_1) ?_
    refine Ew_of (pc' := 6) (fun _ => x_sipush (z := 256) rfl (by decide)) ?_
    refine w_icmpge (t := 27) rfl rfl (show inr (x2_1) by omega) (show inr (256) by omega) (fun b2 => ?_) (fun b2 => ?_)
    · refine Ew_of (pc' := 28) (fun _ => x_aload_n rfl l2_0) ?_
      refine Ew_of (pc' := 29) (fun _ => x_aload_n rfl l2_0) ?_
      refine w_gI H (o := 6) (w := u6_12) rfl (H.perm 6 rfl) rfl rfl rfl (fun _ => rfl) ((hS_2 6 12 rfl).trans (eu6_12)) ?_
      refine w_pI H (o := 6) rfl rfl (H.perm 6 rfl) rfl rfl rfl (fun _ => rfl) rfl (show (0 : Int) ≤ u6_12 ∧ u6_12 ≤ 11 by omega) (fun σ H => ?_)
      refine Ew_of (pc' := 36) (fun _ => x_iconst rfl) ?_
      refine Ew_of (pc' := 37) (fun _ => x_istore_n rfl) ?_
      have : ∀ i, (0 : Int) ≤ i → i < 0 → ((A 58)) i = ((w54)) i := fun i a b => absurd b (by omega)
      suffices hl37 : ∀ (m : Nat), ∀ (ls : rO) (σ : rS) (F_37 : hF) (A_37 : hA) (x37_1 : Int), rlook ls 0 = some (.ref (D 6)) → rlook ls 1 = some (I (x37_1)) → HS σ0 σ D N F_37 A_37 → SF [] (updF F_2 6 17 (u6_12)) F_37 → SA [58] A_2 A_37 → ∀ w37_58 : Int → Int, A_37 58 = w37_58 → (inr (x37_1)) → ((0) ≤ (x37_1)) → ((x37_1) ≤ (0) ∨ (x37_1) ≤ ((192))) → (∀ i, 0 ≤ i → i < (x37_1) → ((w37_58)) i = ((w54)) i) → (((192)) - (x37_1)).toNat = m → Ew 445 (d + 0) 37 ls [] σ c s Q from
        hl37 _ _ σ _ _ (0) (rk_o (l2_0) rfl rfl) (rk_s) H (SF_refl) (SA_refl)  (A 58) (funext (hA_2 58 rfl)) (show inr (0) by omega) (show (0) ≤ (0) by omega) (show (0) ≤ (0) ∨ (0) ≤ ((192)) by omega) (show ∀ i, 0 ≤ i → i < (0) → ((A 58)) i = ((w54)) i by assumption) rfl
      as_aux_lemma =>
      intro m
      induction m using Nat.strongRecOn with
      | _ m ih37 =>
        intro ls σ F_37 A_37 x37_1 l37_0 l37_1 H hS_37 hA_37  w37_58 ew37_58 j37_0 j37_1 j37_2 j37_3 hm37
        refine Ew_of (pc' := 38) (fun _ => x_iload_n rfl l37_1) ?_
        refine Ew_of (pc' := 41) (fun _ => x_sipush (z := 192) rfl (by decide)) ?_
        refine w_icmpge (t := 62) rfl rfl (show inr (x37_1) by omega) (show inr (192) by omega) (fun b3 => ?_) (fun b3 => ?_)
        · refine Ew_of (pc' := 63) (fun _ => x_iconst rfl) ?_
          refine Ew_of (pc' := 64) (fun _ => x_istore_n rfl) ?_
          have : ∀ i, (0 : Int) ≤ i → i < 0 → ((A 59)) i = ((w55)) i := fun i a b => absurd b (by omega)
          have : ∀ i, (0 : Int) ≤ i → i < 0 → ((A 60)) i = ((w56)) i := fun i a b => absurd b (by omega)
          suffices hl64 : ∀ (m : Nat), ∀ (ls : rO) (σ : rS) (F_64 : hF) (A_64 : hA) (x64_1 : Int), rlook ls 0 = some (.ref (D 6)) → rlook ls 1 = some (I (x64_1)) → HS σ0 σ D N F_64 A_64 → SF [] F_37 F_64 → SA [59, 60] A_37 A_64 → ∀ w64_59 : Int → Int, A_64 59 = w64_59 → ∀ w64_60 : Int → Int, A_64 60 = w64_60 → (inr (x64_1)) → ((0) ≤ (x64_1)) → ((x64_1) ≤ (0) ∨ (x64_1) ≤ (3)) → (∀ i, 0 ≤ i → i < (x64_1) → ((w64_59)) i = ((w55)) i) → (∀ i, 0 ≤ i → i < (x64_1) → ((w64_60)) i = ((w56)) i) → ((3) - (x64_1)).toNat = m → Ew 445 (d + 0) 64 ls [] σ c s Q from
            hl64 _ _ σ _ _ (0) (rk_o (l37_0) rfl rfl) (rk_s) H (SF_refl) (SA_refl)  (A 59) ((funext (hA_37 59 rfl)).trans (funext (hA_2 59 rfl))) (A 60) ((funext (hA_37 60 rfl)).trans (funext (hA_2 60 rfl))) (show inr (0) by omega) (show (0) ≤ (0) by omega) (show (0) ≤ (0) ∨ (0) ≤ (3) by omega) (show ∀ i, 0 ≤ i → i < (0) → ((A 59)) i = ((w55)) i by assumption) (show ∀ i, 0 ≤ i → i < (0) → ((A 60)) i = ((w56)) i by assumption) rfl
          as_aux_lemma =>
          intro m
          induction m using Nat.strongRecOn with
          | _ m ih64 =>
            intro ls σ F_64 A_64 x64_1 l64_0 l64_1 H hS_64 hA_64  w64_59 ew64_59 w64_60 ew64_60 j64_0 j64_1 j64_2 j64_3 j64_4 hm64
            refine Ew_of (pc' := 65) (fun _ => x_iload_n rfl l64_1) ?_
            refine Ew_of (pc' := 66) (fun _ => x_iconst rfl) ?_
            refine w_icmpge (t := 99) rfl rfl (show inr (x64_1) by omega) (show inr (3) by omega) (fun b4 => ?_) (fun b4 => ?_)
            · have : WC ((u6_12)) ((w2_57)) := WC_congr (show WC ((u6_12)) ((w53)) from by assumption) (by omega) (fun i a b => j2_3 i a (by omega))
              have : WO ((w37_58)) ((w64_59)) := WO_congr (show WO ((w54)) ((w55)) from by assumption) (fun i a b => j37_3 i a (by omega)) (fun i a b => j64_3 i a (by omega))
              have : ∀ i, 0 ≤ i → i < 256 → ((w2_57)) i = ((w53)) i := fun i a b => j2_3 i a (by omega)
              have : ∀ i, 0 ≤ i → i < 192 → ((w37_58)) i = ((w54)) i := fun i a b => j37_3 i a (by omega)
              have : ∀ i, 0 ≤ i → i < 3 → ((w64_59)) i = ((w55)) i := fun i a b => j64_3 i a (by omega)
              have : ∀ i, 0 ≤ i → i < 3 → ((w64_60)) i = ((w56)) i := fun i a b => j64_4 i a (by omega)
              exact w_ret rfl (k σ _ _ H (SF_trans (SF_trans (SF_upd (SF_trans (SF_refl) hS_2 (any_sub rfl)) rfl) hS_37 (any_sub rfl)) hS_64 (any_sub rfl)) (SA_trans (SA_trans (SA_trans (SA_refl) hA_2 (any_subA rfl)) hA_37 (any_subA rfl)) hA_64 (any_subA rfl)) (u6_12) (((hS_64 6 17 rfl).trans (hS_37 6 17 rfl))) (w2_57) ((funext (hA_64 57 rfl)).trans ((funext (hA_37 57 rfl)).trans (ew2_57))) (w37_58) ((funext (hA_64 58 rfl)).trans (ew37_58)) (w64_59) (ew64_59) (w64_60) (ew64_60) (show WC ((u6_12)) ((w2_57)) by assumption) (show WO ((w37_58)) ((w64_59)) by assumption) (show ∀ i, 0 ≤ i → i < 256 → ((w2_57)) i = ((w53)) i by assumption) (show ∀ i, 0 ≤ i → i < 192 → ((w37_58)) i = ((w54)) i by assumption) (show ∀ i, 0 ≤ i → i < 3 → ((w64_59)) i = ((w55)) i by assumption) (show ∀ i, 0 ≤ i → i < 3 → ((w64_60)) i = ((w56)) i by assumption) (show (u6_12) = (u6_12) by omega))
            · refine Ew_of (pc' := 70) (fun _ => x_aload_n rfl l64_0) ?_
              refine w_gT H (o := 6) (t := 59) rfl (H.perm 6 rfl) rfl rfl rfl rfl rfl rfl ?_
              refine Ew_of (pc' := 74) (fun _ => x_iload_n rfl l64_1) ?_
              refine Ew_of (pc' := 75) (fun _ => x_aload_n rfl l64_0) ?_
              refine w_gT H (o := 6) (t := 55) rfl (H.perm 6 rfl) rfl rfl rfl rfl rfl rfl ?_
              refine Ew_of (pc' := 79) (fun _ => x_iload_n rfl l64_1) ?_
              refine w_lI H (o := 55) (n := 3) rfl (H.perm 55 rfl) rfl rfl (H.fix 55 rfl rfl) (show 0 ≤ x64_1 ∧ x64_1 < ((3 : Nat) : Int) by omega) (by decide) (fun v5 ev5 qv5 => ?_)
              have qv5 : (-1 : Int) ≤ v5 ∧ v5 ≤ 9 := qv5
              have ev5 : (w55) (x64_1) = v5 := (congrFun ((funext (hA_64 55 rfl)).trans ((funext (hA_37 55 rfl)).trans ((funext (hA_2 55 rfl)).trans (ew55)))) (x64_1)).symm.trans ev5
              refine w_sI H (o := 59) (n := 3) rfl (H.perm 59 rfl) rfl rfl (H.fix 59 rfl rfl) (show 0 ≤ x64_1 ∧ x64_1 < ((3 : Nat) : Int) by omega) (by decide) (show (-1 : Int) ≤ v5 ∧ v5 ≤ 9 by omega) (fun σ H => ?_)
              refine Ew_of (pc' := 82) (fun _ => x_aload_n rfl l64_0) ?_
              refine w_gT H (o := 6) (t := 60) rfl (H.perm 6 rfl) rfl rfl rfl rfl rfl rfl ?_
              refine Ew_of (pc' := 86) (fun _ => x_iload_n rfl l64_1) ?_
              refine Ew_of (pc' := 87) (fun _ => x_aload_n rfl l64_0) ?_
              refine w_gT H (o := 6) (t := 56) rfl (H.perm 6 rfl) rfl rfl rfl rfl rfl rfl ?_
              refine Ew_of (pc' := 91) (fun _ => x_iload_n rfl l64_1) ?_
              refine w_lI H (o := 56) (n := 3) rfl (H.perm 56 rfl) rfl rfl (H.fix 56 rfl rfl) (show 0 ≤ x64_1 ∧ x64_1 < ((3 : Nat) : Int) by omega) (by decide) (fun v6 ev6 qv6 => ?_)
              have qv6 : (-2147483648 : Int) ≤ v6 ∧ v6 ≤ 2147483647 := qv6
              have ev6 : (w56) (x64_1) = v6 := (congrFun ((funext (hA_64 56 rfl)).trans ((funext (hA_37 56 rfl)).trans ((funext (hA_2 56 rfl)).trans (ew56)))) (x64_1)).symm.trans ev6
              refine w_sI H (o := 60) (n := 3) rfl (H.perm 60 rfl) rfl rfl (H.fix 60 rfl rfl) (show 0 ≤ x64_1 ∧ x64_1 < ((3 : Nat) : Int) by omega) (by decide) (show (-2147483648 : Int) ≤ v6 ∧ v6 ≤ 2147483647 by omega) (fun σ H => ?_)
              refine Ew_of (pc' := 96) (fun _ => x_iinc (len := 3) rfl (l64_1)) ?_
              refine Ew_of (pc' := 64) (fun _ => x_goto rfl rfl) ?_
              have : ∀ i, (0 : Int) ≤ i → i < ((x64_1 + 1)) → ((upd1 (w64_59) (x64_1) (v5))) i = ((w55)) i := pt_copy j64_3 (by omega)
              have : ∀ i, (0 : Int) ≤ i → i < ((x64_1 + 1)) → ((upd1 (w64_60) (x64_1) (v6))) i = ((w56)) i := pt_copy j64_4 (by omega)
              exact ih64 _ (by omega) _ σ _ _ ((x64_1 + 1)) (rk_o (l64_0) rfl rfl) (rk_s) H (hS_64) (SA_upd (SA_upd (hA_64) rfl) rfl)  (upd1 (w64_59) (x64_1) (v5)) (congrArg (fun q => upd1 q (x64_1) (v5)) (ew64_59)) (upd1 (w64_60) (x64_1) (v6)) (congrArg (fun q => upd1 q (x64_1) (v6)) (ew64_60)) (show inr ((x64_1 + 1)) by omega) (show (0) ≤ ((x64_1 + 1)) by omega) (show ((x64_1 + 1)) ≤ (0) ∨ ((x64_1 + 1)) ≤ (3) by omega) (show ∀ i, 0 ≤ i → i < ((x64_1 + 1)) → ((upd1 (w64_59) (x64_1) (v5))) i = ((w55)) i by assumption) (show ∀ i, 0 ≤ i → i < ((x64_1 + 1)) → ((upd1 (w64_60) (x64_1) (v6))) i = ((w56)) i by assumption) rfl
        · refine Ew_of (pc' := 45) (fun _ => x_aload_n rfl l37_0) ?_
          refine w_gT H (o := 6) (t := 58) rfl (H.perm 6 rfl) rfl rfl rfl rfl rfl rfl ?_
          refine Ew_of (pc' := 49) (fun _ => x_iload_n rfl l37_1) ?_
          refine Ew_of (pc' := 50) (fun _ => x_aload_n rfl l37_0) ?_
          refine w_gT H (o := 6) (t := 54) rfl (H.perm 6 rfl) rfl rfl rfl rfl rfl rfl ?_
          refine Ew_of (pc' := 54) (fun _ => x_iload_n rfl l37_1) ?_
          refine w_lI H (o := 54) (n := 192) rfl (H.perm 54 rfl) rfl rfl (H.fix 54 rfl rfl) (show 0 ≤ x37_1 ∧ x37_1 < ((192 : Nat) : Int) by omega) (by decide) (fun v7 ev7 qv7 => ?_)
          have qv7 : (-1 : Int) ≤ v7 ∧ v7 ≤ 512 := qv7
          have ev7 : (w54) (x37_1) = v7 := (congrFun ((funext (hA_37 54 rfl)).trans ((funext (hA_2 54 rfl)).trans (ew54))) (x37_1)).symm.trans ev7
          refine w_sI H (o := 58) (n := 192) rfl (H.perm 58 rfl) rfl rfl (H.fix 58 rfl rfl) (show 0 ≤ x37_1 ∧ x37_1 < ((192 : Nat) : Int) by omega) (by decide) (show (-1 : Int) ≤ v7 ∧ v7 ≤ 512 by omega) (fun σ H => ?_)
          refine Ew_of (pc' := 59) (fun _ => x_iinc (len := 3) rfl (l37_1)) ?_
          refine Ew_of (pc' := 37) (fun _ => x_goto rfl rfl) ?_
          have : ∀ i, (0 : Int) ≤ i → i < ((x37_1 + 1)) → ((upd1 (w37_58) (x37_1) (v7))) i = ((w54)) i := pt_copy j37_3 (by omega)
          exact ih37 _ (by omega) _ σ _ _ ((x37_1 + 1)) (rk_o (l37_0) rfl rfl) (rk_s) H (hS_37) (SA_upd (hA_37) rfl)  (upd1 (w37_58) (x37_1) (v7)) (congrArg (fun q => upd1 q (x37_1) (v7)) (ew37_58)) (show inr ((x37_1 + 1)) by omega) (show (0) ≤ ((x37_1 + 1)) by omega) (show ((x37_1 + 1)) ≤ (0) ∨ ((x37_1 + 1)) ≤ ((192)) by omega) (show ∀ i, 0 ≤ i → i < ((x37_1 + 1)) → ((upd1 (w37_58) (x37_1) (v7))) i = ((w54)) i by assumption) rfl
    · refine Ew_of (pc' := 10) (fun _ => x_aload_n rfl l2_0) ?_
      refine w_gT H (o := 6) (t := 57) rfl (H.perm 6 rfl) rfl rfl rfl rfl rfl rfl ?_
      refine Ew_of (pc' := 14) (fun _ => x_iload_n rfl l2_1) ?_
      refine Ew_of (pc' := 15) (fun _ => x_aload_n rfl l2_0) ?_
      refine w_gT H (o := 6) (t := 53) rfl (H.perm 6 rfl) rfl rfl rfl rfl rfl rfl ?_
      refine Ew_of (pc' := 19) (fun _ => x_iload_n rfl l2_1) ?_
      refine w_lI H (o := 53) (n := 256) rfl (H.perm 53 rfl) rfl rfl (H.fix 53 rfl rfl) (show 0 ≤ x2_1 ∧ x2_1 < ((256 : Nat) : Int) by omega) (by decide) (fun v8 ev8 qv8 => ?_)
      have qv8 : (0 : Int) ≤ v8 ∧ v8 ≤ 11 := qv8
      have ev8 : (w53) (x2_1) = v8 := (congrFun ((funext (hA_2 53 rfl)).trans (ew53)) (x2_1)).symm.trans ev8
      refine w_sI H (o := 57) (n := 256) rfl (H.perm 57 rfl) rfl rfl (H.fix 57 rfl rfl) (show 0 ≤ x2_1 ∧ x2_1 < ((256 : Nat) : Int) by omega) (by decide) (show (0 : Int) ≤ v8 ∧ v8 ≤ 11 by omega) (fun σ H => ?_)
      refine Ew_of (pc' := 24) (fun _ => x_iinc (len := 3) rfl (l2_1)) ?_
      refine Ew_of (pc' := 2) (fun _ => x_goto rfl rfl) ?_
      have : ∀ i, (0 : Int) ≤ i → i < ((x2_1 + 1)) → ((upd1 (w2_57) (x2_1) (v8))) i = ((w53)) i := pt_copy j2_3 (by omega)
      exact ih2 _ (by omega) _ σ _ _ ((x2_1 + 1)) (rk_o (l2_0) rfl rfl) (rk_s) H (hS_2) (SA_upd (hA_2) rfl)  (upd1 (w2_57) (x2_1) (v8)) (congrArg (fun q => upd1 q (x2_1) (v8)) (ew2_57)) (show inr ((x2_1 + 1)) by omega) (show (0) ≤ ((x2_1 + 1)) by omega) (show ((x2_1 + 1)) ≤ (0) ∨ ((x2_1 + 1)) ≤ ((256)) by omega) (show ∀ i, 0 ≤ i → i < ((x2_1 + 1)) → ((upd1 (w2_57) (x2_1) (v8))) i = ((w53)) i by assumption) rfl
/-- Writer.restore -/
theorem M446f {σ0 σ : rS} {D N : Nat → Nat} {F : hF} {A : hA} {d c s : Nat} {Q : wQ} (H : HS σ0 σ D N F A)  (u6_17 : Int) (eu6_17 : F 6 17 = u6_17) (w57 : Int → Int) (ew57 : A 57 = w57) (w58 : Int → Int) (ew58 : A 58 = w58) (w59 : Int → Int) (ew59 : A 59 = w59) (w60 : Int → Int) (ew60 : A 60 = w60) (h0 : WC ((u6_17)) ((w57))) (h1 : WO ((w58)) ((w59))) (k : ∀ σ F' A', HS σ0 σ D N F' A' → SF [(6, 12)] F F' → SA [53, 54, 55, 56] A A' → ∀ y6_12 : Int, F' 6 12 = y6_12 → ∀ v53 : Int → Int, A' 53 = v53 → ∀ v54 : Int → Int, A' 54 = v54 → ∀ v55 : Int → Int, A' 55 = v55 → ∀ v56 : Int → Int, A' 56 = v56 → (WC ((y6_12)) ((v53))) → (WO ((v54)) ((v55))) → (∀ i, 0 ≤ i → i < 256 → ((v53)) i = ((w57)) i) → (∀ i, 0 ≤ i → i < 192 → ((v54)) i = ((w58)) i) → (∀ i, 0 ≤ i → i < 3 → ((v55)) i = ((w59)) i) → (∀ i, 0 ≤ i → i < 3 → ((v56)) i = ((w60)) i) → ((y6_12) = (u6_17)) → Q none σ c s) : Ew 446 (d + 0) 0 (rargs 0 [.ref (D 6)]) [] σ c s Q := by
  have r1 : (0 : Int) ≤ u6_17 ∧ u6_17 ≤ 11 := by have h1 : (0 : Int) ≤ F 6 17 ∧ F 6 17 ≤ 11 := H.frng 6 17; rw [show F 6 17 = u6_17 from (eu6_17)] at h1; exact h1
  refine Ew_of (pc' := 1) (fun _ => x_iconst rfl) ?_
  refine Ew_of (pc' := 2) (fun _ => x_istore_n rfl) ?_
  have : ∀ i, (0 : Int) ≤ i → i < 0 → ((A 53)) i = ((w57)) i := fun i a b => absurd b (by omega)
  suffices hl2 : ∀ (m : Nat), ∀ (ls : rO) (σ : rS) (F_2 : hF) (A_2 : hA) (x2_1 : Int), rlook ls 0 = some (.ref (D 6)) → rlook ls 1 = some (I (x2_1)) → HS σ0 σ D N F_2 A_2 → SF [] F F_2 → SA [53] A A_2 → ∀ w2_53 : Int → Int, A_2 53 = w2_53 → (inr (x2_1)) → ((0) ≤ (x2_1)) → ((x2_1) ≤ (0) ∨ (x2_1) ≤ ((256))) → (∀ i, 0 ≤ i → i < (x2_1) → ((w2_53)) i = ((w57)) i) → (((256)) - (x2_1)).toNat = m → Ew 446 (d + 0) 2 ls [] σ c s Q from
    hl2 _ _ σ _ _ (0) (rk_o (rfl) rfl rfl) (rk_s) H (SF_refl) (SA_refl)  (A 53) (rfl) (show inr (0) by omega) (show (0) ≤ (0) by omega) (show (0) ≤ (0) ∨ (0) ≤ ((256)) by omega) (show ∀ i, 0 ≤ i → i < (0) → ((A 53)) i = ((w57)) i by assumption) rfl
  as_aux_lemma =>
  intro m
  induction m using Nat.strongRecOn with
  | _ m ih2 =>
    intro ls σ F_2 A_2 x2_1 l2_0 l2_1 H hS_2 hA_2  w2_53 ew2_53 j2_0 j2_1 j2_2 j2_3 hm2
    refine Ew_of (pc' := 3) (fun _ => x_iload_n rfl l2_1) ?_
    refine Ew_of (pc' := 6) (fun _ => x_sipush (z := 256) rfl (by decide)) ?_
    refine w_icmpge (t := 27) rfl rfl (show inr (x2_1) by omega) (show inr (256) by omega) (fun b2 => ?_) (fun b2 => ?_)
    · refine Ew_of (pc' := 28) (fun _ => x_aload_n rfl l2_0) ?_
      refine Ew_of (pc' := 29) (fun _ => x_aload_n rfl l2_0) ?_
      refine w_gI H (o := 6) (w := u6_17) rfl (H.perm 6 rfl) rfl rfl rfl (fun _ => rfl) ((hS_2 6 17 rfl).trans (eu6_17)) ?_
      refine w_pI H (o := 6) rfl rfl (H.perm 6 rfl) rfl rfl rfl (fun _ => rfl) rfl (show (0 : Int) ≤ u6_17 ∧ u6_17 ≤ 11 by omega) (fun σ H => ?_)
      refine Ew_of (pc' := 36) (fun _ => x_iconst rfl) ?_
      refine Ew_of (pc' := 37) (fun _ => x_istore_n rfl) ?_
      have : ∀ i, (0 : Int) ≤ i → i < 0 → ((A 54)) i = ((w58)) i := fun i a b => absurd b (by omega)
      suffices hl37 : ∀ (m : Nat), ∀ (ls : rO) (σ : rS) (F_37 : hF) (A_37 : hA) (x37_1 : Int), rlook ls 0 = some (.ref (D 6)) → rlook ls 1 = some (I (x37_1)) → HS σ0 σ D N F_37 A_37 → SF [] (updF F_2 6 12 (u6_17)) F_37 → SA [54] A_2 A_37 → ∀ w37_54 : Int → Int, A_37 54 = w37_54 → (inr (x37_1)) → ((0) ≤ (x37_1)) → ((x37_1) ≤ (0) ∨ (x37_1) ≤ ((192))) → (∀ i, 0 ≤ i → i < (x37_1) → ((w37_54)) i = ((w58)) i) → (((192)) - (x37_1)).toNat = m → Ew 446 (d + 0) 37 ls [] σ c s Q from
        hl37 _ _ σ _ _ (0) (rk_o (l2_0) rfl rfl) (rk_s) H (SF_refl) (SA_refl)  (A 54) (funext (hA_2 54 rfl)) (show inr (0) by omega) (show (0) ≤ (0) by omega) (show (0) ≤ (0) ∨ (0) ≤ ((192)) by omega) (show ∀ i, 0 ≤ i → i < (0) → ((A 54)) i = ((w58)) i by assumption) rfl
      as_aux_lemma =>
      intro m
      induction m using Nat.strongRecOn with
      | _ m ih37 =>
        intro ls σ F_37 A_37 x37_1 l37_0 l37_1 H hS_37 hA_37  w37_54 ew37_54 j37_0 j37_1 j37_2 j37_3 hm37
        refine Ew_of (pc' := 38) (fun _ => x_iload_n rfl l37_1) ?_
        refine Ew_of (pc' := 41) (fun _ => x_sipush (z := 192) rfl (by decide)) ?_
        refine w_icmpge (t := 62) rfl rfl (show inr (x37_1) by omega) (show inr (192) by omega) (fun b3 => ?_) (fun b3 => ?_)
        · refine Ew_of (pc' := 63) (fun _ => x_iconst rfl) ?_
          refine Ew_of (pc' := 64) (fun _ => x_istore_n rfl) ?_
          have : ∀ i, (0 : Int) ≤ i → i < 0 → ((A 55)) i = ((w59)) i := fun i a b => absurd b (by omega)
          have : ∀ i, (0 : Int) ≤ i → i < 0 → ((A 56)) i = ((w60)) i := fun i a b => absurd b (by omega)
          suffices hl64 : ∀ (m : Nat), ∀ (ls : rO) (σ : rS) (F_64 : hF) (A_64 : hA) (x64_1 : Int), rlook ls 0 = some (.ref (D 6)) → rlook ls 1 = some (I (x64_1)) → HS σ0 σ D N F_64 A_64 → SF [] F_37 F_64 → SA [55, 56] A_37 A_64 → ∀ w64_55 : Int → Int, A_64 55 = w64_55 → ∀ w64_56 : Int → Int, A_64 56 = w64_56 → (inr (x64_1)) → ((0) ≤ (x64_1)) → ((x64_1) ≤ (0) ∨ (x64_1) ≤ (3)) → (∀ i, 0 ≤ i → i < (x64_1) → ((w64_55)) i = ((w59)) i) → (∀ i, 0 ≤ i → i < (x64_1) → ((w64_56)) i = ((w60)) i) → ((3) - (x64_1)).toNat = m → Ew 446 (d + 0) 64 ls [] σ c s Q from
            hl64 _ _ σ _ _ (0) (rk_o (l37_0) rfl rfl) (rk_s) H (SF_refl) (SA_refl)  (A 55) ((funext (hA_37 55 rfl)).trans (funext (hA_2 55 rfl))) (A 56) ((funext (hA_37 56 rfl)).trans (funext (hA_2 56 rfl))) (show inr (0) by omega) (show (0) ≤ (0) by omega) (show (0) ≤ (0) ∨ (0) ≤ (3) by omega) (show ∀ i, 0 ≤ i → i < (0) → ((A 55)) i = ((w59)) i by assumption) (show ∀ i, 0 ≤ i → i < (0) → ((A 56)) i = ((w60)) i by assumption) rfl
          as_aux_lemma =>
          intro m
          induction m using Nat.strongRecOn with
          | _ m ih64 =>
            intro ls σ F_64 A_64 x64_1 l64_0 l64_1 H hS_64 hA_64  w64_55 ew64_55 w64_56 ew64_56 j64_0 j64_1 j64_2 j64_3 j64_4 hm64
            refine Ew_of (pc' := 65) (fun _ => x_iload_n rfl l64_1) ?_
            refine Ew_of (pc' := 66) (fun _ => x_iconst rfl) ?_
            refine w_icmpge (t := 99) rfl rfl (show inr (x64_1) by omega) (show inr (3) by omega) (fun b4 => ?_) (fun b4 => ?_)
            · have : WC ((u6_17)) ((w2_53)) := WC_congr (show WC ((u6_17)) ((w57)) from by assumption) (by omega) (fun i a b => j2_3 i a (by omega))
              have : WO ((w37_54)) ((w64_55)) := WO_congr (show WO ((w58)) ((w59)) from by assumption) (fun i a b => j37_3 i a (by omega)) (fun i a b => j64_3 i a (by omega))
              have : ∀ i, 0 ≤ i → i < 256 → ((w2_53)) i = ((w57)) i := fun i a b => j2_3 i a (by omega)
              have : ∀ i, 0 ≤ i → i < 192 → ((w37_54)) i = ((w58)) i := fun i a b => j37_3 i a (by omega)
              have : ∀ i, 0 ≤ i → i < 3 → ((w64_55)) i = ((w59)) i := fun i a b => j64_3 i a (by omega)
              have : ∀ i, 0 ≤ i → i < 3 → ((w64_56)) i = ((w60)) i := fun i a b => j64_4 i a (by omega)
              exact w_ret rfl (k σ _ _ H (SF_trans (SF_trans (SF_upd (SF_trans (SF_refl) hS_2 (any_sub rfl)) rfl) hS_37 (any_sub rfl)) hS_64 (any_sub rfl)) (SA_trans (SA_trans (SA_trans (SA_refl) hA_2 (any_subA rfl)) hA_37 (any_subA rfl)) hA_64 (any_subA rfl)) (u6_17) (((hS_64 6 12 rfl).trans (hS_37 6 12 rfl))) (w2_53) ((funext (hA_64 53 rfl)).trans ((funext (hA_37 53 rfl)).trans (ew2_53))) (w37_54) ((funext (hA_64 54 rfl)).trans (ew37_54)) (w64_55) (ew64_55) (w64_56) (ew64_56) (show WC ((u6_17)) ((w2_53)) by assumption) (show WO ((w37_54)) ((w64_55)) by assumption) (show ∀ i, 0 ≤ i → i < 256 → ((w2_53)) i = ((w57)) i by assumption) (show ∀ i, 0 ≤ i → i < 192 → ((w37_54)) i = ((w58)) i by assumption) (show ∀ i, 0 ≤ i → i < 3 → ((w64_55)) i = ((w59)) i by assumption) (show ∀ i, 0 ≤ i → i < 3 → ((w64_56)) i = ((w60)) i by assumption) (show (u6_17) = (u6_17) by omega))
            · refine Ew_of (pc' := 70) (fun _ => x_aload_n rfl l64_0) ?_
              refine w_gT H (o := 6) (t := 55) rfl (H.perm 6 rfl) rfl rfl rfl rfl rfl rfl ?_
              refine Ew_of (pc' := 74) (fun _ => x_iload_n rfl l64_1) ?_
              refine Ew_of (pc' := 75) (fun _ => x_aload_n rfl l64_0) ?_
              refine w_gT H (o := 6) (t := 59) rfl (H.perm 6 rfl) rfl rfl rfl rfl rfl rfl ?_
              refine Ew_of (pc' := 79) (fun _ => x_iload_n rfl l64_1) ?_
              refine w_lI H (o := 59) (n := 3) rfl (H.perm 59 rfl) rfl rfl (H.fix 59 rfl rfl) (show 0 ≤ x64_1 ∧ x64_1 < ((3 : Nat) : Int) by omega) (by decide) (fun v5 ev5 qv5 => ?_)
              have qv5 : (-1 : Int) ≤ v5 ∧ v5 ≤ 9 := qv5
              have ev5 : (w59) (x64_1) = v5 := (congrFun ((funext (hA_64 59 rfl)).trans ((funext (hA_37 59 rfl)).trans ((funext (hA_2 59 rfl)).trans (ew59)))) (x64_1)).symm.trans ev5
              refine w_sI H (o := 55) (n := 3) rfl (H.perm 55 rfl) rfl rfl (H.fix 55 rfl rfl) (show 0 ≤ x64_1 ∧ x64_1 < ((3 : Nat) : Int) by omega) (by decide) (show (-1 : Int) ≤ v5 ∧ v5 ≤ 9 by omega) (fun σ H => ?_)
              refine Ew_of (pc' := 82) (fun _ => x_aload_n rfl l64_0) ?_
              refine w_gT H (o := 6) (t := 56) rfl (H.perm 6 rfl) rfl rfl rfl rfl rfl rfl ?_
              refine Ew_of (pc' := 86) (fun _ => x_iload_n rfl l64_1) ?_
              refine Ew_of (pc' := 87) (fun _ => x_aload_n rfl l64_0) ?_
              refine w_gT H (o := 6) (t := 60) rfl (H.perm 6 rfl) rfl rfl rfl rfl rfl rfl ?_
              refine Ew_of (pc' := 91) (fun _ => x_iload_n rfl l64_1) ?_
              refine w_lI H (o := 60) (n := 3) rfl (H.perm 60 rfl) rfl rfl (H.fix 60 rfl rfl) (show 0 ≤ x64_1 ∧ x64_1 < ((3 : Nat) : Int) by omega) (by decide) (fun v6 ev6 qv6 => ?_)
              have qv6 : (-2147483648 : Int) ≤ v6 ∧ v6 ≤ 2147483647 := qv6
              have ev6 : (w60) (x64_1) = v6 := (congrFun ((funext (hA_64 60 rfl)).trans ((funext (hA_37 60 rfl)).trans ((funext (hA_2 60 rfl)).trans (ew60)))) (x64_1)).symm.trans ev6
              refine w_sI H (o := 56) (n := 3) rfl (H.perm 56 rfl) rfl rfl (H.fix 56 rfl rfl) (show 0 ≤ x64_1 ∧ x64_1 < ((3 : Nat) : Int) by omega) (by decide) (show (-2147483648 : Int) ≤ v6 ∧ v6 ≤ 2147483647 by omega) (fun σ H => ?_)
              refine Ew_of (pc' := 96) (fun _ => x_iinc (len := 3) rfl (l64_1)) ?_
              refine Ew_of (pc' := 64) (fun _ => x_goto rfl rfl) ?_
              have : ∀ i, (0 : Int) ≤ i → i < ((x64_1 + 1)) → ((upd1 (w64_55) (x64_1) (v5))) i = ((w59)) i := pt_copy j64_3 (by omega)
              have : ∀ i, (0 : Int) ≤ i → i < ((x64_1 + 1)) → ((upd1 (w64_56) (x64_1) (v6))) i = ((w60)) i := pt_copy j64_4 (by omega)
              exact ih64 _ (by omega) _ σ _ _ ((x64_1 + 1)) (rk_o (l64_0) rfl rfl) (rk_s) H (hS_64) (SA_upd (SA_upd (hA_64) rfl) rfl)  (upd1 (w64_55) (x64_1) (v5)) (congrArg (fun q => upd1 q (x64_1) (v5)) (ew64_55)) (upd1 (w64_56) (x64_1) (v6)) (congrArg (fun q => upd1 q (x64_1) (v6)) (ew64_56)) (show inr ((x64_1 + 1)) by omega) (show (0) ≤ ((x64_1 + 1)) by omega) (show ((x64_1 + 1)) ≤ (0) ∨ ((x64_1 + 1)) ≤ (3) by omega) (show ∀ i, 0 ≤ i → i < ((x64_1 + 1)) → ((upd1 (w64_55) (x64_1) (v5))) i = ((w59)) i by assumption) (show ∀ i, 0 ≤ i → i < ((x64_1 + 1)) → ((upd1 (w64_56) (x64_1) (v6))) i = ((w60)) i by assumption) rfl
        · refine Ew_of (pc' := 45) (fun _ => x_aload_n rfl l37_0) ?_
          refine w_gT H (o := 6) (t := 54) rfl (H.perm 6 rfl) rfl rfl rfl rfl rfl rfl ?_
          refine Ew_of (pc' := 49) (fun _ => x_iload_n rfl l37_1) ?_
          refine Ew_of (pc' := 50) (fun _ => x_aload_n rfl l37_0) ?_
          refine w_gT H (o := 6) (t := 58) rfl (H.perm 6 rfl) rfl rfl rfl rfl rfl rfl ?_
          refine Ew_of (pc' := 54) (fun _ => x_iload_n rfl l37_1) ?_
          refine w_lI H (o := 58) (n := 192) rfl (H.perm 58 rfl) rfl rfl (H.fix 58 rfl rfl) (show 0 ≤ x37_1 ∧ x37_1 < ((192 : Nat) : Int) by omega) (by decide) (fun v7 ev7 qv7 => ?_)
          have qv7 : (-1 : Int) ≤ v7 ∧ v7 ≤ 512 := qv7
          have ev7 : (w58) (x37_1) = v7 := (congrFun ((funext (hA_37 58 rfl)).trans ((funext (hA_2 58 rfl)).trans (ew58))) (x37_1)).symm.trans ev7
          refine w_sI H (o := 54) (n := 192) rfl (H.perm 54 rfl) rfl rfl (H.fix 54 rfl rfl) (show 0 ≤ x37_1 ∧ x37_1 < ((192 : Nat) : Int) by omega) (by decide) (show (-1 : Int) ≤ v7 ∧ v7 ≤ 512 by omega) (fun σ H => ?_)
          refine Ew_of (pc' := 59) (fun _ => x_iinc (len := 3) rfl (l37_1)) ?_
          refine Ew_of (pc' := 37) (fun _ => x_goto rfl rfl) ?_
          have : ∀ i, (0 : Int) ≤ i → i < ((x37_1 + 1)) → ((upd1 (w37_54) (x37_1) (v7))) i = ((w58)) i := pt_copy j37_3 (by omega)
          exact ih37 _ (by omega) _ σ _ _ ((x37_1 + 1)) (rk_o (l37_0) rfl rfl) (rk_s) H (hS_37) (SA_upd (hA_37) rfl)  (upd1 (w37_54) (x37_1) (v7)) (congrArg (fun q => upd1 q (x37_1) (v7)) (ew37_54)) (show inr ((x37_1 + 1)) by omega) (show (0) ≤ ((x37_1 + 1)) by omega) (show ((x37_1 + 1)) ≤ (0) ∨ ((x37_1 + 1)) ≤ ((192)) by omega) (show ∀ i, 0 ≤ i → i < ((x37_1 + 1)) → ((upd1 (w37_54) (x37_1) (v7))) i = ((w58)) i by assumption) rfl
    · refine Ew_of (pc' := 10) (fun _ => x_aload_n rfl l2_0) ?_
      refine w_gT H (o := 6) (t := 53) rfl (H.perm 6 rfl) rfl rfl rfl rfl rfl rfl ?_
      refine Ew_of (pc' := 14) (fun _ => x_iload_n rfl l2_1) ?_
      refine Ew_of (pc' := 15) (fun _ => x_aload_n rfl l2_0) ?_
      refine w_gT H (o := 6) (t := 57) rfl (H.perm 6 rfl) rfl rfl rfl rfl rfl rfl ?_
      refine Ew_of (pc' := 19) (fun _ => x_iload_n rfl l2_1) ?_
      refine w_lI H (o := 57) (n := 256) rfl (H.perm 57 rfl) rfl rfl (H.fix 57 rfl rfl) (show 0 ≤ x2_1 ∧ x2_1 < ((256 : Nat) : Int) by omega) (by decide) (fun v8 ev8 qv8 => ?_)
      have qv8 : (0 : Int) ≤ v8 ∧ v8 ≤ 11 := qv8
      have ev8 : (w57) (x2_1) = v8 := (congrFun ((funext (hA_2 57 rfl)).trans (ew57)) (x2_1)).symm.trans ev8
      refine w_sI H (o := 53) (n := 256) rfl (H.perm 53 rfl) rfl rfl (H.fix 53 rfl rfl) (show 0 ≤ x2_1 ∧ x2_1 < ((256 : Nat) : Int) by omega) (by decide) (show (0 : Int) ≤ v8 ∧ v8 ≤ 11 by omega) (fun σ H => ?_)
      refine Ew_of (pc' := 24) (fun _ => x_iinc (len := 3) rfl (l2_1)) ?_
      refine Ew_of (pc' := 2) (fun _ => x_goto rfl rfl) ?_
      have : ∀ i, (0 : Int) ≤ i → i < ((x2_1 + 1)) → ((upd1 (w2_53) (x2_1) (v8))) i = ((w57)) i := pt_copy j2_3 (by omega)
      exact ih2 _ (by omega) _ σ _ _ ((x2_1 + 1)) (rk_o (l2_0) rfl rfl) (rk_s) H (hS_2) (SA_upd (hA_2) rfl)  (upd1 (w2_53) (x2_1) (v8)) (congrArg (fun q => upd1 q (x2_1) (v8)) (ew2_53)) (show inr ((x2_1 + 1)) by omega) (show (0) ≤ ((x2_1 + 1)) by omega) (show ((x2_1 + 1)) ≤ (0) ∨ ((x2_1 + 1)) ≤ ((256)) by omega) (show ∀ i, 0 ≤ i → i < ((x2_1 + 1)) → ((upd1 (w2_53) (x2_1) (v8))) i = ((w57)) i by assumption) rfl
/-- Writer.sayBlockHead -/
theorem M448f {σ0 σ : rS} {D N : Nat → Nat} {F : hF} {A : hA} {d c s : Nat} {Q : wQ} (H : HS σ0 σ D N F A) {a1 a2 a3 a4 : Int} (u6_37 : Int) (eu6_37 : F 6 37 = u6_37) (w70 : Int → Int) (ew70 : A 70 = w70) (h0 : inr (a1)) (h1 : inr (a2)) (h2 : inr (a3)) (h3 : inr (a4)) (h4 : (a4) = 0 ∨ (a4) = 1) (h5 : 0 ≤ (a1) ∧ (a1) ≤ 80000000) (h6 : 0 ≤ (a2) ∧ (a2) ≤ 20000000 ∧ 0 ≤ (a3) ∧ (a3) ≤ 3) (h7 : 0 ≤ (a4) ∧ (a4) ≤ 1) (k : ∀ σ F' A', HS σ0 σ D N F' A' → SF [(6, 37)] F F' → SA [70] A A' → ∀ y6_37 : Int, F' 6 37 = y6_37 → ∀ v70 : Int → Int, A' 70 = v70 → ((u6_37) ≤ (y6_37) ∧ (a1) + 3 ≤ (y6_37) ∧ ((y6_37) = (u6_37) ∨ (y6_37) = (a1) + 3)) → (QAP 65536 ((w70)) ((a1)) ((v70)) ((a1) + 3) (nb (8 * (a2) + 2 * (a3) + (a4)) 3)) → (FRM ((w70)) ((v70)) ((a1)) ((a1) + 3)) → ((u6_37) ≤ (a1) + 3 ∧ (y6_37) = (a1) + 3 ∨ (a1) + 3 ≤ (u6_37) ∧ (y6_37) = (u6_37)) → Q none σ c s) : Ew 448 (d + 2) 0 (rargs 0 [.ref (D 6), I a1, I a2, I a3, I a4]) [] σ c s Q := by
  have r1 : (0 : Int) ≤ u6_37 ∧ u6_37 ≤ 100000000 := by have h1 : (0 : Int) ≤ F 6 37 ∧ F 6 37 ≤ 100000000 := H.frng 6 37; rw [show F 6 37 = u6_37 from (eu6_37)] at h1; exact h1
  refine Ew_of (pc' := 1) (fun _ => x_aload_n rfl rfl) ?_
  refine w_gI H (o := 6) (w := u6_37) rfl (H.perm 6 rfl) rfl rfl rfl (fun _ => rfl) (eu6_37) ?_
  refine Ew_of (pc' := 6) (fun _ => x_istore rfl) ?_
  refine Ew_of (pc' := 7) (fun _ => x_aload_n rfl (rk_o (rfl) rfl rfl)) ?_
  refine Ew_of (pc' := 8) (fun _ => x_iload_n rfl (rk_o (rfl) rfl rfl)) ?_
  refine w_pI H (o := 6) rfl rfl (H.perm 6 rfl) rfl rfl rfl (fun _ => rfl) rfl (show (0 : Int) ≤ a1 ∧ a1 ≤ 100000000 by omega) (fun σ H => ?_)
  refine Ew_of (pc' := 12) (fun _ => x_aload_n rfl (rk_o (rfl) rfl rfl)) ?_
  refine Ew_of (pc' := 14) (fun _ => x_bipush (z := 8) rfl (by decide)) ?_
  refine Ew_of (pc' := 15) (fun _ => x_iload_n rfl (rk_o (rfl) rfl rfl)) ?_
  refine w_imul rfl ?_
  refine Ew_of (pc' := 17) (fun _ => x_iconst rfl) ?_
  refine Ew_of (pc' := 18) (fun _ => x_iload_n rfl (rk_o (rfl) rfl rfl)) ?_
  refine w_imul rfl ?_
  refine w_iadd rfl ?_
  refine Ew_of (pc' := 22) (fun _ => x_iload rfl (rk_o (rfl) rfl rfl)) ?_
  refine w_ifeq (t := 29) rfl rfl (show inr (a4) by omega) (fun b2 => ?_) (fun b2 => ?_)
  · refine Ew_of (pc' := 30) (fun _ => x_iconst rfl) ?_
    refine w_iadd rfl ?_
    refine w_i2l rfl (show inr ((((8 * a2) + (2 * a3)) + 0)) by omega) ?_
    refine Ew_of (pc' := 33) (fun _ => x_iconst rfl) ?_
    refine w_inv H (o := 6) rfl rfl rfl (H.perm 6 rfl) rfl rfl (by rfl) (M393g H (a1) (rfl) (w70) (ew70) (show inrJ ((((8 * a2) + (2 * a3)) + 0)) by omega) (show inr (3) by omega) (show 0 ≤ (3) ∧ (3) ≤ 8 by omega) (show 0 ≤ (a1) ∧ (a1) ≤ 90000000 by omega) (fun σ F3 A4 H hS5 hA6 y8 ey9 wq10 ewq11 pz7_0 pz7_1 pz7_2 => ⟨rfl, ?_⟩))
    have r12 : (0 : Int) ≤ y8 ∧ y8 ≤ 100000000 := by have h1 : (0 : Int) ≤ F3 6 37 ∧ F3 6 37 ≤ 100000000 := H.frng 6 37; rw [show F3 6 37 = y8 from (ey9)] at h1; exact h1
    have h33 := pz7_1
    rw [show (y8) = (a1) + 3 by omega] at h33
    have : QAP 65536 ((w70)) ((a1)) ((wq10)) ((a1) + 3) (nb (8 * (a2) + 2 * (a3) + (a4)) 3) := QAP_c h33 (by first | rfl | (congr 1; omega))
    have : FRM ((w70)) ((wq10)) ((a1)) ((a1) + 3) := pz7_2
    refine Ew_of (pc' := 37) (fun _ => x_aload_n rfl (rk_o (rfl) rfl rfl)) ?_
    refine Ew_of (pc' := 39) (fun _ => x_iload rfl rk_s) ?_
    refine Ew_of (pc' := 40) (fun _ => x_aload_n rfl (rk_o (rfl) rfl rfl)) ?_
    refine w_gI H (o := 6) (w := y8) rfl (H.perm 6 rfl) rfl rfl rfl (fun _ => rfl) (ey9) ?_
    refine w_icmple (t := 51) rfl rfl (show inr (u6_37) by omega) (show inr (y8) by omega) (fun b13 => ?_) (fun b13 => ?_)
    · refine Ew_of (pc' := 52) (fun _ => x_aload_n rfl (rk_o (rfl) rfl rfl)) ?_
      refine w_gI H (o := 6) (w := y8) rfl (H.perm 6 rfl) rfl rfl rfl (fun _ => rfl) (ey9) ?_
      refine w_pI H (o := 6) rfl rfl (H.perm 6 rfl) rfl rfl rfl (fun _ => rfl) rfl (show (0 : Int) ≤ y8 ∧ y8 ≤ 100000000 by omega) (fun σ H => ?_)
      exact w_ret rfl (k σ _ _ H (SF_upd (SF_trans (SF_upd (SF_refl) rfl) hS5 (any_sub rfl)) rfl) (SA_trans (SA_refl) hA6 (any_subA rfl)) (y8) (rfl) (wq10) (ewq11) (show (u6_37) ≤ (y8) ∧ a1 + 3 ≤ (y8) ∧ ((y8) = (u6_37) ∨ (y8) = a1 + 3) by omega) (show QAP 65536 ((w70)) (a1) ((wq10)) (a1 + 3) (nb (8 * a2 + 2 * a3 + a4) 3) by assumption) (show FRM ((w70)) ((wq10)) (a1) (a1 + 3) by assumption) (show (u6_37) ≤ a1 + 3 ∧ (y8) = a1 + 3 ∨ a1 + 3 ≤ (u6_37) ∧ (y8) = (u6_37) by omega))
    · refine Ew_of (pc' := 48) (fun _ => x_iload rfl rk_s) ?_
      refine Ew_of (pc' := 55) (fun _ => x_goto rfl rfl) ?_
      refine w_pI H (o := 6) rfl rfl (H.perm 6 rfl) rfl rfl rfl (fun _ => rfl) rfl (show (0 : Int) ≤ u6_37 ∧ u6_37 ≤ 100000000 by omega) (fun σ H => ?_)
      exact w_ret rfl (k σ _ _ H (SF_upd (SF_trans (SF_upd (SF_refl) rfl) hS5 (any_sub rfl)) rfl) (SA_trans (SA_refl) hA6 (any_subA rfl)) (u6_37) (rfl) (wq10) (ewq11) (show (u6_37) ≤ (u6_37) ∧ a1 + 3 ≤ (u6_37) ∧ ((u6_37) = (u6_37) ∨ (u6_37) = a1 + 3) by omega) (show QAP 65536 ((w70)) (a1) ((wq10)) (a1 + 3) (nb (8 * a2 + 2 * a3 + a4) 3) by assumption) (show FRM ((w70)) ((wq10)) (a1) (a1 + 3) by assumption) (show (u6_37) ≤ a1 + 3 ∧ (u6_37) = a1 + 3 ∨ a1 + 3 ≤ (u6_37) ∧ (u6_37) = (u6_37) by omega))
  · refine Ew_of (pc' := 26) (fun _ => x_iconst rfl) ?_
    refine Ew_of (pc' := 30) (fun _ => x_goto rfl rfl) ?_
    refine w_iadd rfl ?_
    refine w_i2l rfl (show inr ((((8 * a2) + (2 * a3)) + 1)) by omega) ?_
    refine Ew_of (pc' := 33) (fun _ => x_iconst rfl) ?_
    refine w_inv H (o := 6) rfl rfl rfl (H.perm 6 rfl) rfl rfl (by rfl) (M393g H (a1) (rfl) (w70) (ew70) (show inrJ ((((8 * a2) + (2 * a3)) + 1)) by omega) (show inr (3) by omega) (show 0 ≤ (3) ∧ (3) ≤ 8 by omega) (show 0 ≤ (a1) ∧ (a1) ≤ 90000000 by omega) (fun σ F14 A15 H hS16 hA17 y19 ey20 wq21 ewq22 pz18_0 pz18_1 pz18_2 => ⟨rfl, ?_⟩))
    have r23 : (0 : Int) ≤ y19 ∧ y19 ≤ 100000000 := by have h1 : (0 : Int) ≤ F14 6 37 ∧ F14 6 37 ≤ 100000000 := H.frng 6 37; rw [show F14 6 37 = y19 from (ey20)] at h1; exact h1
    have h33 := pz18_1
    rw [show (y19) = (a1) + 3 by omega] at h33
    have : QAP 65536 ((w70)) ((a1)) ((wq21)) ((a1) + 3) (nb (8 * (a2) + 2 * (a3) + (a4)) 3) := QAP_c h33 (by first | rfl | (congr 1; omega))
    have : FRM ((w70)) ((wq21)) ((a1)) ((a1) + 3) := pz18_2
    refine Ew_of (pc' := 37) (fun _ => x_aload_n rfl (rk_o (rfl) rfl rfl)) ?_
    refine Ew_of (pc' := 39) (fun _ => x_iload rfl rk_s) ?_
    refine Ew_of (pc' := 40) (fun _ => x_aload_n rfl (rk_o (rfl) rfl rfl)) ?_
    refine w_gI H (o := 6) (w := y19) rfl (H.perm 6 rfl) rfl rfl rfl (fun _ => rfl) (ey20) ?_
    refine w_icmple (t := 51) rfl rfl (show inr (u6_37) by omega) (show inr (y19) by omega) (fun b24 => ?_) (fun b24 => ?_)
    · refine Ew_of (pc' := 52) (fun _ => x_aload_n rfl (rk_o (rfl) rfl rfl)) ?_
      refine w_gI H (o := 6) (w := y19) rfl (H.perm 6 rfl) rfl rfl rfl (fun _ => rfl) (ey20) ?_
      refine w_pI H (o := 6) rfl rfl (H.perm 6 rfl) rfl rfl rfl (fun _ => rfl) rfl (show (0 : Int) ≤ y19 ∧ y19 ≤ 100000000 by omega) (fun σ H => ?_)
      exact w_ret rfl (k σ _ _ H (SF_upd (SF_trans (SF_upd (SF_refl) rfl) hS16 (any_sub rfl)) rfl) (SA_trans (SA_refl) hA17 (any_subA rfl)) (y19) (rfl) (wq21) (ewq22) (show (u6_37) ≤ (y19) ∧ a1 + 3 ≤ (y19) ∧ ((y19) = (u6_37) ∨ (y19) = a1 + 3) by omega) (show QAP 65536 ((w70)) (a1) ((wq21)) (a1 + 3) (nb (8 * a2 + 2 * a3 + a4) 3) by assumption) (show FRM ((w70)) ((wq21)) (a1) (a1 + 3) by assumption) (show (u6_37) ≤ a1 + 3 ∧ (y19) = a1 + 3 ∨ a1 + 3 ≤ (u6_37) ∧ (y19) = (u6_37) by omega))
    · refine Ew_of (pc' := 48) (fun _ => x_iload rfl rk_s) ?_
      refine Ew_of (pc' := 55) (fun _ => x_goto rfl rfl) ?_
      refine w_pI H (o := 6) rfl rfl (H.perm 6 rfl) rfl rfl rfl (fun _ => rfl) rfl (show (0 : Int) ≤ u6_37 ∧ u6_37 ≤ 100000000 by omega) (fun σ H => ?_)
      exact w_ret rfl (k σ _ _ H (SF_upd (SF_trans (SF_upd (SF_refl) rfl) hS16 (any_sub rfl)) rfl) (SA_trans (SA_refl) hA17 (any_subA rfl)) (u6_37) (rfl) (wq21) (ewq22) (show (u6_37) ≤ (u6_37) ∧ a1 + 3 ≤ (u6_37) ∧ ((u6_37) = (u6_37) ∨ (u6_37) = a1 + 3) by omega) (show QAP 65536 ((w70)) (a1) ((wq21)) (a1 + 3) (nb (8 * a2 + 2 * a3 + a4) 3) by assumption) (show FRM ((w70)) ((wq21)) (a1) (a1 + 3) by assumption) (show (u6_37) ≤ a1 + 3 ∧ (u6_37) = a1 + 3 ∨ a1 + 3 ≤ (u6_37) ∧ (u6_37) = (u6_37) by omega))
