/-- Writer.keep -/
theorem M445 {σ0 σ : rS} {D N : Nat → Nat} {F : hF} {A : hA} {d c s : Nat} {Q : wQ} (H : HS σ0 σ D N F A)  (u6_12 : Int) (eu6_12 : F 6 12 = u6_12) (w53 : Int → Int) (ew53 : A 53 = w53) (w54 : Int → Int) (ew54 : A 54 = w54) (w55 : Int → Int) (ew55 : A 55 = w55) (h0 : WC ((u6_12)) ((w53))) (h1 : WO ((w54)) ((w55))) (k : ∀ σ F' A', HS σ0 σ D N F' A' → SF [(6, 17)] F F' → SA [57, 58, 59, 60] A A' → ∀ y6_17 : Int, F' 6 17 = y6_17 → ∀ v57 : Int → Int, A' 57 = v57 → ∀ v58 : Int → Int, A' 58 = v58 → ∀ v59 : Int → Int, A' 59 = v59 → (WC ((y6_17)) ((v57))) → (WO ((v58)) ((v59))) → Q none σ c s) : Ew 445 (d + 0) 0 (rargs 0 [.ref (D 6)]) [] σ c s Q := by
  have r1 : (0 : Int) ≤ u6_12 ∧ u6_12 ≤ 11 := by have h1 : (0 : Int) ≤ F 6 12 ∧ F 6 12 ≤ 11 := H.frng 6 12; rw [show F 6 12 = u6_12 from (eu6_12)] at h1; exact h1
  refine Ew_of (pc' := 1) (fun _ => x_iconst rfl) ?_
  refine Ew_of (pc' := 2) (fun _ => x_istore_n rfl) ?_
  have : ∀ i, (0 : Int) ≤ i → i < 0 → ((A 57)) i = ((w53)) i := fun i a b => absurd b (by omega)
  suffices hl2 : ∀ (m : Nat), ∀ (ls : rO) (σ : rS) (F_2 : hF) (A_2 : hA) (x2_1 : Int), rlook ls 0 = some (.ref (D 6)) → rlook ls 1 = some (I (x2_1)) → HS σ0 σ D N F_2 A_2 → SF [] F F_2 → SA [57] A A_2 → ∀ w2_57 : Int → Int, A_2 57 = w2_57 → (inr (x2_1)) → ((0) ≤ (x2_1)) → ((x2_1) ≤ (0) ∨ (x2_1) ≤ ((256))) → (∀ i, 0 ≤ i → i < (x2_1) → ((w2_57)) i = ((w53)) i) → (((256)) - (x2_1)).toNat = m → Ew 445 (d + 0) 2 ls [] σ c s Q from
    hl2 _ _ σ _ _ (0) (rk_o (rfl) rfl rfl) (rk_s) H (SF_refl) (SA_refl)  (A 57) (rfl) (show inr (0) by omega) (show (0) ≤ (0) by omega) (show (0) ≤ (0) ∨ (0) ≤ ((256)) by omega) (show ∀ i, 0 ≤ i → i < (0) → ((A 57)) i = ((w53)) i by assumption) rfl
  as_aux_lemma =>
  intro m
  induction m using Nat.strongRecOn with
  | _ m ih2 =>
    intro ls σ F_2 A_2 x2_1 l2_0 l2_1 H hS_2 hA_2  w2_57 ew2_57 j2_0 j2_1 j2_2 j2_3 hm2
    refine Ew_of (pc' := 3) (fun _ => x_iload_n rfl l2_1) ?_
    refine Ew_of (pc' := 6) (fun _ => x_sipush (z := 256) rfl (by decide)) ?_
    refine w_icmpge (t := 27) rfl rfl (show inr (x2_1) by omega) (show inr (256) by omega) (fun b2 => ?_) (fun b2 => ?_)
    · refine Ew_of (pc' := 28) (fun _ => x_aload_n rfl l2_0) ?_
      refine Ew_of (pc' := 29) (fun _ => x_aload_n rfl l2_0) ?_
      refine w_gI H (o := 6) (w := u6_12) rfl (H.perm 6 rfl) rfl rfl rfl (fun _ => rfl) ((hS_2 6 12 rfl).trans (eu6_12)) ?_
      refine w_pI H (o := 6) rfl rfl (H.perm 6 rfl) rfl rfl rfl (fun _ => rfl) rfl (show (0 : Int) ≤ u6_12 ∧ u6_12 ≤ 11 by omega) (fun σ H => ?_)
      refine Ew_of (pc' := 36) (fun _ => x_iconst rfl) ?_
      refine Ew_of (pc' := 37) (fun _ => x_istore_n rfl) ?_
      have : ∀ i, (0 : Int) ≤ i → i < 0 → ((A 58)) i = ((w54)) i := fun i a b => absurd b (by omega)
      suffices hl37 : ∀ (m : Nat), ∀ (ls : rO) (σ : rS) (F_37 : hF) (A_37 : hA) (x37_1 : Int), rlook ls 0 = some (.ref (D 6)) → rlook ls 1 = some (I (x37_1)) → HS σ0 σ D N F_37 A_37 → SF [] (updF F_2 6 17 (u6_12)) F_37 → SA [58] A_2 A_37 → ∀ w37_58 : Int → Int, A_37 58 = w37_58 → (inr (x37_1)) → ((0) ≤ (x37_1)) → ((x37_1) ≤ (0) ∨ (x37_1) ≤ ((192))) → (∀ i, 0 ≤ i → i < (x37_1) → ((w37_58)) i = ((w54)) i) → (((192)) - (x37_1)).toNat = m → Ew 445 (d + 0) 37 ls [] σ c s Q from
        hl37 _ _ σ _ _ (0) (rk_o (l2_0) rfl rfl) (rk_s) H (SF_refl) (SA_refl)  (A 58) (funext (hA_2 58 rfl)) (show inr (0) by omega) (show (0) ≤ (0) by omega) (show (0) ≤ (0) ∨ (0) ≤ ((192)) by omega) (show ∀ i, 0 ≤ i → i < (0) → ((A 58)) i = ((w54)) i by assumption) rfl
      as_aux_lemma =>
      intro m
      induction m using Nat.strongRecOn with
      | _ m ih37 =>
        intro ls σ F_37 A_37 x37_1 l37_0 l37_1 H hS_37 hA_37  w37_58 ew37_58 j37_0 j37_1 j37_2 j37_3 hm37
        refine Ew_of (pc' := 38) (fun _ => x_iload_n rfl l37_1) ?_
        refine Ew_of (pc' := 41) (fun _ => x_sipush (z := 192) rfl (by decide)) ?_
        refine w_icmpge (t := 62) rfl rfl (show inr (x37_1) by omega) (show inr (192) by omega) (fun b3 => ?_) (fun b3 => ?_)
        · refine Ew_of (pc' := 63) (fun _ => x_iconst rfl) ?_
          refine Ew_of (pc' := 64) (fun _ => x_istore_n rfl) ?_
          have : ∀ i, (0 : Int) ≤ i → i < 0 → ((A 59)) i = ((w55)) i := fun i a b => absurd b (by omega)
          suffices hl64 : ∀ (m : Nat), ∀ (ls : rO) (σ : rS) (F_64 : hF) (A_64 : hA) (x64_1 : Int), rlook ls 0 = some (.ref (D 6)) → rlook ls 1 = some (I (x64_1)) → HS σ0 σ D N F_64 A_64 → SF [] F_37 F_64 → SA [59, 60] A_37 A_64 → ∀ w64_59 : Int → Int, A_64 59 = w64_59 → (inr (x64_1)) → ((0) ≤ (x64_1)) → ((x64_1) ≤ (0) ∨ (x64_1) ≤ (3)) → (∀ i, 0 ≤ i → i < (x64_1) → ((w64_59)) i = ((w55)) i) → ((3) - (x64_1)).toNat = m → Ew 445 (d + 0) 64 ls [] σ c s Q from
            hl64 _ _ σ _ _ (0) (rk_o (l37_0) rfl rfl) (rk_s) H (SF_refl) (SA_refl)  (A 59) ((funext (hA_37 59 rfl)).trans (funext (hA_2 59 rfl))) (show inr (0) by omega) (show (0) ≤ (0) by omega) (show (0) ≤ (0) ∨ (0) ≤ (3) by omega) (show ∀ i, 0 ≤ i → i < (0) → ((A 59)) i = ((w55)) i by assumption) rfl
          as_aux_lemma =>
          intro m
          induction m using Nat.strongRecOn with
          | _ m ih64 =>
            intro ls σ F_64 A_64 x64_1 l64_0 l64_1 H hS_64 hA_64  w64_59 ew64_59 j64_0 j64_1 j64_2 j64_3 hm64
            refine Ew_of (pc' := 65) (fun _ => x_iload_n rfl l64_1) ?_
            refine Ew_of (pc' := 66) (fun _ => x_iconst rfl) ?_
            refine w_icmpge (t := 99) rfl rfl (show inr (x64_1) by omega) (show inr (3) by omega) (fun b4 => ?_) (fun b4 => ?_)
            · have : WC ((u6_12)) ((w2_57)) := WC_congr (show WC ((u6_12)) ((w53)) from by assumption) (by omega) (fun i a b => j2_3 i a (by omega))
              have : WO ((w37_58)) ((w64_59)) := WO_congr (show WO ((w54)) ((w55)) from by assumption) (fun i a b => j37_3 i a (by omega)) (fun i a b => j64_3 i a (by omega))
              exact w_ret rfl (k σ _ _ H (SF_trans (SF_trans (SF_upd (SF_trans (SF_refl) hS_2 (any_sub rfl)) rfl) hS_37 (any_sub rfl)) hS_64 (any_sub rfl)) (SA_trans (SA_trans (SA_trans (SA_refl) hA_2 (any_subA rfl)) hA_37 (any_subA rfl)) hA_64 (any_subA rfl)) (u6_12) (((hS_64 6 17 rfl).trans (hS_37 6 17 rfl))) (w2_57) ((funext (hA_64 57 rfl)).trans ((funext (hA_37 57 rfl)).trans (ew2_57))) (w37_58) ((funext (hA_64 58 rfl)).trans (ew37_58)) (w64_59) (ew64_59) (show WC ((u6_12)) ((w2_57)) by assumption) (show WO ((w37_58)) ((w64_59)) by assumption))
            · refine Ew_of (pc' := 70) (fun _ => x_aload_n rfl l64_0) ?_
              refine w_gT H (o := 6) (t := 59) rfl (H.perm 6 rfl) rfl rfl rfl rfl rfl rfl ?_
              refine Ew_of (pc' := 74) (fun _ => x_iload_n rfl l64_1) ?_
              refine Ew_of (pc' := 75) (fun _ => x_aload_n rfl l64_0) ?_
              refine w_gT H (o := 6) (t := 55) rfl (H.perm 6 rfl) rfl rfl rfl rfl rfl rfl ?_
              refine Ew_of (pc' := 79) (fun _ => x_iload_n rfl l64_1) ?_
              refine w_lI H (o := 55) (n := 3) rfl (H.perm 55 rfl) rfl rfl (H.fix 55 rfl rfl) (show 0 ≤ x64_1 ∧ x64_1 < ((3 : Nat) : Int) by omega) (by decide) (fun v5 ev5 qv5 => ?_)
              have qv5 : (-1 : Int) ≤ v5 ∧ v5 ≤ 9 := qv5
              have ev5 : (w55) (x64_1) = v5 := (congrFun ((funext (hA_64 55 rfl)).trans ((funext (hA_37 55 rfl)).trans ((funext (hA_2 55 rfl)).trans (ew55)))) (x64_1)).symm.trans ev5
              refine w_sI H (o := 59) (n := 3) rfl (H.perm 59 rfl) rfl rfl (H.fix 59 rfl rfl) (show 0 ≤ x64_1 ∧ x64_1 < ((3 : Nat) : Int) by omega) (by decide) (show (-1 : Int) ≤ v5 ∧ v5 ≤ 9 by omega) (fun σ H => ?_)
              refine Ew_of (pc' := 82) (fun _ => x_aload_n rfl l64_0) ?_
              refine w_gT H (o := 6) (t := 60) rfl (H.perm 6 rfl) rfl rfl rfl rfl rfl rfl ?_
              refine Ew_of (pc' := 86) (fun _ => x_iload_n rfl l64_1) ?_
              refine Ew_of (pc' := 87) (fun _ => x_aload_n rfl l64_0) ?_
              refine w_gT H (o := 6) (t := 56) rfl (H.perm 6 rfl) rfl rfl rfl rfl rfl rfl ?_
              refine Ew_of (pc' := 91) (fun _ => x_iload_n rfl l64_1) ?_
              refine w_lI H (o := 56) (n := 3) rfl (H.perm 56 rfl) rfl rfl (H.fix 56 rfl rfl) (show 0 ≤ x64_1 ∧ x64_1 < ((3 : Nat) : Int) by omega) (by decide) (fun v6 ev6 qv6 => ?_)
              have qv6 : (-2147483648 : Int) ≤ v6 ∧ v6 ≤ 2147483647 := qv6
              have ev6 : (A 56) (x64_1) = v6 := (congrFun ((funext (hA_64 56 rfl)).trans ((funext (hA_37 56 rfl)).trans (funext (hA_2 56 rfl)))) (x64_1)).symm.trans ev6
              refine w_sI H (o := 60) (n := 3) rfl (H.perm 60 rfl) rfl rfl (H.fix 60 rfl rfl) (show 0 ≤ x64_1 ∧ x64_1 < ((3 : Nat) : Int) by omega) (by decide) (show (-2147483648 : Int) ≤ v6 ∧ v6 ≤ 2147483647 by omega) (fun σ H => ?_)
              refine Ew_of (pc' := 96) (fun _ => x_iinc (len := 3) rfl (l64_1)) ?_
              refine Ew_of (pc' := 64) (fun _ => x_goto rfl rfl) ?_
              have : ∀ i, (0 : Int) ≤ i → i < ((x64_1 + 1)) → ((upd1 (w64_59) (x64_1) (v5))) i = ((w55)) i := pt_copy j64_3 (by omega)
              exact ih64 _ (by omega) _ σ _ _ ((x64_1 + 1)) (rk_o (l64_0) rfl rfl) (rk_s) H (hS_64) (SA_upd (SA_upd (hA_64) rfl) rfl)  (upd1 (w64_59) (x64_1) (v5)) (congrArg (fun q => upd1 q (x64_1) (v5)) (ew64_59)) (show inr ((x64_1 + 1)) by omega) (show (0) ≤ ((x64_1 + 1)) by omega) (show ((x64_1 + 1)) ≤ (0) ∨ ((x64_1 + 1)) ≤ (3) by omega) (show ∀ i, 0 ≤ i → i < ((x64_1 + 1)) → ((upd1 (w64_59) (x64_1) (v5))) i = ((w55)) i by assumption) rfl
        · refine Ew_of (pc' := 45) (fun _ => x_aload_n rfl l37_0) ?_
          refine w_gT H (o := 6) (t := 58) rfl (H.perm 6 rfl) rfl rfl rfl rfl rfl rfl ?_
          refine Ew_of (pc' := 49) (fun _ => x_iload_n rfl l37_1) ?_
          refine Ew_of (pc' := 50) (fun _ => x_aload_n rfl l37_0) ?_
          refine w_gT H (o := 6) (t := 54) rfl (H.perm 6 rfl) rfl rfl rfl rfl rfl rfl ?_
          refine Ew_of (pc' := 54) (fun _ => x_iload_n rfl l37_1) ?_
          refine w_lI H (o := 54) (n := 192) rfl (H.perm 54 rfl) rfl rfl (H.fix 54 rfl rfl) (show 0 ≤ x37_1 ∧ x37_1 < ((192 : Nat) : Int) by omega) (by decide) (fun v7 ev7 qv7 => ?_)
          have qv7 : (-1 : Int) ≤ v7 ∧ v7 ≤ 512 := qv7
          have ev7 : (w54) (x37_1) = v7 := (congrFun ((funext (hA_37 54 rfl)).trans ((funext (hA_2 54 rfl)).trans (ew54))) (x37_1)).symm.trans ev7
          refine w_sI H (o := 58) (n := 192) rfl (H.perm 58 rfl) rfl rfl (H.fix 58 rfl rfl) (show 0 ≤ x37_1 ∧ x37_1 < ((192 : Nat) : Int) by omega) (by decide) (show (-1 : Int) ≤ v7 ∧ v7 ≤ 512 by omega) (fun σ H => ?_)
          refine Ew_of (pc' := 59) (fun _ => x_iinc (len := 3) rfl (l37_1)) ?_
          refine Ew_of (pc' := 37) (fun _ => x_goto rfl rfl) ?_
          have : ∀ i, (0 : Int) ≤ i → i < ((x37_1 + 1)) → ((upd1 (w37_58) (x37_1) (v7))) i = ((w54)) i := pt_copy j37_3 (by omega)
          exact ih37 _ (by omega) _ σ _ _ ((x37_1 + 1)) (rk_o (l37_0) rfl rfl) (rk_s) H (hS_37) (SA_upd (hA_37) rfl)  (upd1 (w37_58) (x37_1) (v7)) (congrArg (fun q => upd1 q (x37_1) (v7)) (ew37_58)) (show inr ((x37_1 + 1)) by omega) (show (0) ≤ ((x37_1 + 1)) by omega) (show ((x37_1 + 1)) ≤ (0) ∨ ((x37_1 + 1)) ≤ ((192)) by omega) (show ∀ i, 0 ≤ i → i < ((x37_1 + 1)) → ((upd1 (w37_58) (x37_1) (v7))) i = ((w54)) i by assumption) rfl
    · refine Ew_of (pc' := 10) (fun _ => x_aload_n rfl l2_0) ?_
      refine w_gT H (o := 6) (t := 57) rfl (H.perm 6 rfl) rfl rfl rfl rfl rfl rfl ?_
      refine Ew_of (pc' := 14) (fun _ => x_iload_n rfl l2_1) ?_
      refine Ew_of (pc' := 15) (fun _ => x_aload_n rfl l2_0) ?_
      refine w_gT H (o := 6) (t := 53) rfl (H.perm 6 rfl) rfl rfl rfl rfl rfl rfl ?_
      refine Ew_of (pc' := 19) (fun _ => x_iload_n rfl l2_1) ?_
      refine w_lI H (o := 53) (n := 256) rfl (H.perm 53 rfl) rfl rfl (H.fix 53 rfl rfl) (show 0 ≤ x2_1 ∧ x2_1 < ((256 : Nat) : Int) by omega) (by decide) (fun v8 ev8 qv8 => ?_)
      have qv8 : (0 : Int) ≤ v8 ∧ v8 ≤ 11 := qv8
      have ev8 : (w53) (x2_1) = v8 := (congrFun ((funext (hA_2 53 rfl)).trans (ew53)) (x2_1)).symm.trans ev8
      refine w_sI H (o := 57) (n := 256) rfl (H.perm 57 rfl) rfl rfl (H.fix 57 rfl rfl) (show 0 ≤ x2_1 ∧ x2_1 < ((256 : Nat) : Int) by omega) (by decide) (show (0 : Int) ≤ v8 ∧ v8 ≤ 11 by omega) (fun σ H => ?_)
      refine Ew_of (pc' := 24) (fun _ => x_iinc (len := 3) rfl (l2_1)) ?_
      refine Ew_of (pc' := 2) (fun _ => x_goto rfl rfl) ?_
      have : ∀ i, (0 : Int) ≤ i → i < ((x2_1 + 1)) → ((upd1 (w2_57) (x2_1) (v8))) i = ((w53)) i := pt_copy j2_3 (by omega)
      exact ih2 _ (by omega) _ σ _ _ ((x2_1 + 1)) (rk_o (l2_0) rfl rfl) (rk_s) H (hS_2) (SA_upd (hA_2) rfl)  (upd1 (w2_57) (x2_1) (v8)) (congrArg (fun q => upd1 q (x2_1) (v8)) (ew2_57)) (show inr ((x2_1 + 1)) by omega) (show (0) ≤ ((x2_1 + 1)) by omega) (show ((x2_1 + 1)) ≤ (0) ∨ ((x2_1 + 1)) ≤ ((256)) by omega) (show ∀ i, 0 ≤ i → i < ((x2_1 + 1)) → ((upd1 (w2_57) (x2_1) (v8))) i = ((w53)) i by assumption) rfl
/-- Writer.restore -/
theorem M446 {σ0 σ : rS} {D N : Nat → Nat} {F : hF} {A : hA} {d c s : Nat} {Q : wQ} (H : HS σ0 σ D N F A)  (u6_17 : Int) (eu6_17 : F 6 17 = u6_17) (w57 : Int → Int) (ew57 : A 57 = w57) (w58 : Int → Int) (ew58 : A 58 = w58) (w59 : Int → Int) (ew59 : A 59 = w59) (h0 : WC ((u6_17)) ((w57))) (h1 : WO ((w58)) ((w59))) (k : ∀ σ F' A', HS σ0 σ D N F' A' → SF [(6, 12)] F F' → SA [53, 54, 55, 56] A A' → ∀ y6_12 : Int, F' 6 12 = y6_12 → ∀ v53 : Int → Int, A' 53 = v53 → ∀ v54 : Int → Int, A' 54 = v54 → ∀ v55 : Int → Int, A' 55 = v55 → (WC ((y6_12)) ((v53))) → (WO ((v54)) ((v55))) → Q none σ c s) : Ew 446 (d + 0) 0 (rargs 0 [.ref (D 6)]) [] σ c s Q := by
  have r1 : (0 : Int) ≤ u6_17 ∧ u6_17 ≤ 11 := by have h1 : (0 : Int) ≤ F 6 17 ∧ F 6 17 ≤ 11 := H.frng 6 17; rw [show F 6 17 = u6_17 from (eu6_17)] at h1; exact h1
  refine Ew_of (pc' := 1) (fun _ => x_iconst rfl) ?_
  refine Ew_of (pc' := 2) (fun _ => x_istore_n rfl) ?_
  have : ∀ i, (0 : Int) ≤ i → i < 0 → ((A 53)) i = ((w57)) i := fun i a b => absurd b (by omega)
  suffices hl2 : ∀ (m : Nat), ∀ (ls : rO) (σ : rS) (F_2 : hF) (A_2 : hA) (x2_1 : Int), rlook ls 0 = some (.ref (D 6)) → rlook ls 1 = some (I (x2_1)) → HS σ0 σ D N F_2 A_2 → SF [] F F_2 → SA [53] A A_2 → ∀ w2_53 : Int → Int, A_2 53 = w2_53 → (inr (x2_1)) → ((0) ≤ (x2_1)) → ((x2_1) ≤ (0) ∨ (x2_1) ≤ ((256))) → (∀ i, 0 ≤ i → i < (x2_1) → ((w2_53)) i = ((w57)) i) → (((256)) - (x2_1)).toNat = m → Ew 446 (d + 0) 2 ls [] σ c s Q from
    hl2 _ _ σ _ _ (0) (rk_o (rfl) rfl rfl) (rk_s) H (SF_refl) (SA_refl)  (A 53) (rfl) (show inr (0) by omega) (show (0) ≤ (0) by omega) (show (0) ≤ (0) ∨ (0) ≤ ((256)) by omega) (show ∀ i, 0 ≤ i → i < (0) → ((A 53)) i = ((w57)) i by assumption) rfl
  as_aux_lemma =>
  intro m
  induction m using Nat.strongRecOn with
  | _ m ih2 =>
    intro ls σ F_2 A_2 x2_1 l2_0 l2_1 H hS_2 hA_2  w2_53 ew2_53 j2_0 j2_1 j2_2 j2_3 hm2
    refine Ew_of (pc' := 3) (fun _ => x_iload_n rfl l2_1) ?_
    refine Ew_of (pc' := 6) (fun _ => x_sipush (z := 256) rfl (by decide)) ?_
    refine w_icmpge (t := 27) rfl rfl (show inr (x2_1) by omega) (show inr (256) by omega) (fun b2 => ?_) (fun b2 => ?_)
    · refine Ew_of (pc' := 28) (fun _ => x_aload_n rfl l2_0) ?_
      refine Ew_of (pc' := 29) (fun _ => x_aload_n rfl l2_0) ?_
      refine w_gI H (o := 6) (w := u6_17) rfl (H.perm 6 rfl) rfl rfl rfl (fun _ => rfl) ((hS_2 6 17 rfl).trans (eu6_17)) ?_
      refine w_pI H (o := 6) rfl rfl (H.perm 6 rfl) rfl rfl rfl (fun _ => rfl) rfl (show (0 : Int) ≤ u6_17 ∧ u6_17 ≤ 11 by omega) (fun σ H => ?_)
      refine Ew_of (pc' := 36) (fun _ => x_iconst rfl) ?_
      refine Ew_of (pc' := 37) (fun _ => x_istore_n rfl) ?_
      have : ∀ i, (0 : Int) ≤ i → i < 0 → ((A 54)) i = ((w58)) i := fun i a b => absurd b (by omega)
      suffices hl37 : ∀ (m : Nat), ∀ (ls : rO) (σ : rS) (F_37 : hF) (A_37 : hA) (x37_1 : Int), rlook ls 0 = some (.ref (D 6)) → rlook ls 1 = some (I (x37_1)) → HS σ0 σ D N F_37 A_37 → SF [] (updF F_2 6 12 (u6_17)) F_37 → SA [54] A_2 A_37 → ∀ w37_54 : Int → Int, A_37 54 = w37_54 → (inr (x37_1)) → ((0) ≤ (x37_1)) → ((x37_1) ≤ (0) ∨ (x37_1) ≤ ((192))) → (∀ i, 0 ≤ i → i < (x37_1) → ((w37_54)) i = ((w58)) i) → (((192)) - (x37_1)).toNat = m → Ew 446 (d + 0) 37 ls [] σ c s Q from
        hl37 _ _ σ _ _ (0) (rk_o (l2_0) rfl rfl) (rk_s) H (SF_refl) (SA_refl)  (A 54) (funext (hA_2 54 rfl)) (show inr (0) by omega) (show (0) ≤ (0) by omega) (show (0) ≤ (0) ∨ (0) ≤ ((192)) by omega) (show ∀ i, 0 ≤ i → i < (0) → ((A 54)) i = ((w58)) i by assumption) rfl
      as_aux_lemma =>
      intro m
      induction m using Nat.strongRecOn with
      | _ m ih37 =>
        intro ls σ F_37 A_37 x37_1 l37_0 l37_1 H hS_37 hA_37  w37_54 ew37_54 j37_0 j37_1 j37_2 j37_3 hm37
        refine Ew_of (pc' := 38) (fun _ => x_iload_n rfl l37_1) ?_
        refine Ew_of (pc' := 41) (fun _ => x_sipush (z := 192) rfl (by decide)) ?_
        refine w_icmpge (t := 62) rfl rfl (show inr (x37_1) by omega) (show inr (192) by omega) (fun b3 => ?_) (fun b3 => ?_)
        · refine Ew_of (pc' := 63) (fun _ => x_iconst rfl) ?_
          refine Ew_of (pc' := 64) (fun _ => x_istore_n rfl) ?_
          have : ∀ i, (0 : Int) ≤ i → i < 0 → ((A 55)) i = ((w59)) i := fun i a b => absurd b (by omega)
          suffices hl64 : ∀ (m : Nat), ∀ (ls : rO) (σ : rS) (F_64 : hF) (A_64 : hA) (x64_1 : Int), rlook ls 0 = some (.ref (D 6)) → rlook ls 1 = some (I (x64_1)) → HS σ0 σ D N F_64 A_64 → SF [] F_37 F_64 → SA [55, 56] A_37 A_64 → ∀ w64_55 : Int → Int, A_64 55 = w64_55 → (inr (x64_1)) → ((0) ≤ (x64_1)) → ((x64_1) ≤ (0) ∨ (x64_1) ≤ (3)) → (∀ i, 0 ≤ i → i < (x64_1) → ((w64_55)) i = ((w59)) i) → ((3) - (x64_1)).toNat = m → Ew 446 (d + 0) 64 ls [] σ c s Q from
            hl64 _ _ σ _ _ (0) (rk_o (l37_0) rfl rfl) (rk_s) H (SF_refl) (SA_refl)  (A 55) ((funext (hA_37 55 rfl)).trans (funext (hA_2 55 rfl))) (show inr (0) by omega) (show (0) ≤ (0) by omega) (show (0) ≤ (0) ∨ (0) ≤ (3) by omega) (show ∀ i, 0 ≤ i → i < (0) → ((A 55)) i = ((w59)) i by assumption) rfl
          as_aux_lemma =>
          intro m
          induction m using Nat.strongRecOn with
          | _ m ih64 =>
            intro ls σ F_64 A_64 x64_1 l64_0 l64_1 H hS_64 hA_64  w64_55 ew64_55 j64_0 j64_1 j64_2 j64_3 hm64
            refine Ew_of (pc' := 65) (fun _ => x_iload_n rfl l64_1) ?_
            refine Ew_of (pc' := 66) (fun _ => x_iconst rfl) ?_
            refine w_icmpge (t := 99) rfl rfl (show inr (x64_1) by omega) (show inr (3) by omega) (fun b4 => ?_) (fun b4 => ?_)
            · have : WC ((u6_17)) ((w2_53)) := WC_congr (show WC ((u6_17)) ((w57)) from by assumption) (by omega) (fun i a b => j2_3 i a (by omega))
              have : WO ((w37_54)) ((w64_55)) := WO_congr (show WO ((w58)) ((w59)) from by assumption) (fun i a b => j37_3 i a (by omega)) (fun i a b => j64_3 i a (by omega))
              exact w_ret rfl (k σ _ _ H (SF_trans (SF_trans (SF_upd (SF_trans (SF_refl) hS_2 (any_sub rfl)) rfl) hS_37 (any_sub rfl)) hS_64 (any_sub rfl)) (SA_trans (SA_trans (SA_trans (SA_refl) hA_2 (any_subA rfl)) hA_37 (any_subA rfl)) hA_64 (any_subA rfl)) (u6_17) (((hS_64 6 12 rfl).trans (hS_37 6 12 rfl))) (w2_53) ((funext (hA_64 53 rfl)).trans ((funext (hA_37 53 rfl)).trans (ew2_53))) (w37_54) ((funext (hA_64 54 rfl)).trans (ew37_54)) (w64_55) (ew64_55) (show WC ((u6_17)) ((w2_53)) by assumption) (show WO ((w37_54)) ((w64_55)) by assumption))
            · refine Ew_of (pc' := 70) (fun _ => x_aload_n rfl l64_0) ?_
              refine w_gT H (o := 6) (t := 55) rfl (H.perm 6 rfl) rfl rfl rfl rfl rfl rfl ?_
              refine Ew_of (pc' := 74) (fun _ => x_iload_n rfl l64_1) ?_
              refine Ew_of (pc' := 75) (fun _ => x_aload_n rfl l64_0) ?_
              refine w_gT H (o := 6) (t := 59) rfl (H.perm 6 rfl) rfl rfl rfl rfl rfl rfl ?_
              refine Ew_of (pc' := 79) (fun _ => x_iload_n rfl l64_1) ?_
              refine w_lI H (o := 59) (n := 3) rfl (H.perm 59 rfl) rfl rfl (H.fix 59 rfl rfl) (show 0 ≤ x64_1 ∧ x64_1 < ((3 : Nat) : Int) by omega) (by decide) (fun v5 ev5 qv5 => ?_)
              have qv5 : (-1 : Int) ≤ v5 ∧ v5 ≤ 9 := qv5
              have ev5 : (w59) (x64_1) = v5 := (congrFun ((funext (hA_64 59 rfl)).trans ((funext (hA_37 59 rfl)).trans ((funext (hA_2 59 rfl)).trans (ew59)))) (x64_1)).symm.trans ev5
              refine w_sI H (o := 55) (n := 3) rfl (H.perm 55 rfl) rfl rfl (H.fix 55 rfl rfl) (show 0 ≤ x64_1 ∧ x64_1 < ((3 : Nat) : Int) by omega) (by decide) (show (-1 : Int) ≤ v5 ∧ v5 ≤ 9 by omega) (fun σ H => ?_)
              refine Ew_of (pc' := 82) (fun _ => x_aload_n rfl l64_0) ?_
              refine w_gT H (o := 6) (t := 56) rfl (H.perm 6 rfl) rfl rfl rfl rfl rfl rfl ?_
              refine Ew_of (pc' := 86) (fun _ => x_iload_n rfl l64_1) ?_
              refine Ew_of (pc' := 87) (fun _ => x_aload_n rfl l64_0) ?_
              refine w_gT H (o := 6) (t := 60) rfl (H.perm 6 rfl) rfl rfl rfl rfl rfl rfl ?_
              refine Ew_of (pc' := 91) (fun _ => x_iload_n rfl l64_1) ?_
              refine w_lI H (o := 60) (n := 3) rfl (H.perm 60 rfl) rfl rfl (H.fix 60 rfl rfl) (show 0 ≤ x64_1 ∧ x64_1 < ((3 : Nat) : Int) by omega) (by decide) (fun v6 ev6 qv6 => ?_)
              have qv6 : (-2147483648 : Int) ≤ v6 ∧ v6 ≤ 2147483647 := qv6
              have ev6 : (A 60) (x64_1) = v6 := (congrFun ((funext (hA_64 60 rfl)).trans ((funext (hA_37 60 rfl)).trans (funext (hA_2 60 rfl)))) (x64_1)).symm.trans ev6
              refine w_sI H (o := 56) (n := 3) rfl (H.perm 56 rfl) rfl rfl (H.fix 56 rfl rfl) (show 0 ≤ x64_1 ∧ x64_1 < ((3 : Nat) : Int) by omega) (by decide) (show (-2147483648 : Int) ≤ v6 ∧ v6 ≤ 2147483647 by omega) (fun σ H => ?_)
              refine Ew_of (pc' := 96) (fun _ => x_iinc (len := 3) rfl (l64_1)) ?_
              refine Ew_of (pc' := 64) (fun _ => x_goto rfl rfl) ?_
              have : ∀ i, (0 : Int) ≤ i → i < ((x64_1 + 1)) → ((upd1 (w64_55) (x64_1) (v5))) i = ((w59)) i := pt_copy j64_3 (by omega)
              exact ih64 _ (by omega) _ σ _ _ ((x64_1 + 1)) (rk_o (l64_0) rfl rfl) (rk_s) H (hS_64) (SA_upd (SA_upd (hA_64) rfl) rfl)  (upd1 (w64_55) (x64_1) (v5)) (congrArg (fun q => upd1 q (x64_1) (v5)) (ew64_55)) (show inr ((x64_1 + 1)) by omega) (show (0) ≤ ((x64_1 + 1)) by omega) (show ((x64_1 + 1)) ≤ (0) ∨ ((x64_1 + 1)) ≤ (3) by omega) (show ∀ i, 0 ≤ i → i < ((x64_1 + 1)) → ((upd1 (w64_55) (x64_1) (v5))) i = ((w59)) i by assumption) rfl
        · refine Ew_of (pc' := 45) (fun _ => x_aload_n rfl l37_0) ?_
          refine w_gT H (o := 6) (t := 54) rfl (H.perm 6 rfl) rfl rfl rfl rfl rfl rfl ?_
          refine Ew_of (pc' := 49) (fun _ => x_iload_n rfl l37_1) ?_
          refine Ew_of (pc' := 50) (fun _ => x_aload_n rfl l37_0) ?_
          refine w_gT H (o := 6) (t := 58) rfl (H.perm 6 rfl) rfl rfl rfl rfl rfl rfl ?_
          refine Ew_of (pc' := 54) (fun _ => x_iload_n rfl l37_1) ?_
          refine w_lI H (o := 58) (n := 192) rfl (H.perm 58 rfl) rfl rfl (H.fix 58 rfl rfl) (show 0 ≤ x37_1 ∧ x37_1 < ((192 : Nat) : Int) by omega) (by decide) (fun v7 ev7 qv7 => ?_)
          have qv7 : (-1 : Int) ≤ v7 ∧ v7 ≤ 512 := qv7
          have ev7 : (w58) (x37_1) = v7 := (congrFun ((funext (hA_37 58 rfl)).trans ((funext (hA_2 58 rfl)).trans (ew58))) (x37_1)).symm.trans ev7
          refine w_sI H (o := 54) (n := 192) rfl (H.perm 54 rfl) rfl rfl (H.fix 54 rfl rfl) (show 0 ≤ x37_1 ∧ x37_1 < ((192 : Nat) : Int) by omega) (by decide) (show (-1 : Int) ≤ v7 ∧ v7 ≤ 512 by omega) (fun σ H => ?_)
          refine Ew_of (pc' := 59) (fun _ => x_iinc (len := 3) rfl (l37_1)) ?_
          refine Ew_of (pc' := 37) (fun _ => x_goto rfl rfl) ?_
          have : ∀ i, (0 : Int) ≤ i → i < ((x37_1 + 1)) → ((upd1 (w37_54) (x37_1) (v7))) i = ((w58)) i := pt_copy j37_3 (by omega)
          exact ih37 _ (by omega) _ σ _ _ ((x37_1 + 1)) (rk_o (l37_0) rfl rfl) (rk_s) H (hS_37) (SA_upd (hA_37) rfl)  (upd1 (w37_54) (x37_1) (v7)) (congrArg (fun q => upd1 q (x37_1) (v7)) (ew37_54)) (show inr ((x37_1 + 1)) by omega) (show (0) ≤ ((x37_1 + 1)) by omega) (show ((x37_1 + 1)) ≤ (0) ∨ ((x37_1 + 1)) ≤ ((192)) by omega) (show ∀ i, 0 ≤ i → i < ((x37_1 + 1)) → ((upd1 (w37_54) (x37_1) (v7))) i = ((w58)) i by assumption) rfl
    · refine Ew_of (pc' := 10) (fun _ => x_aload_n rfl l2_0) ?_
      refine w_gT H (o := 6) (t := 53) rfl (H.perm 6 rfl) rfl rfl rfl rfl rfl rfl ?_
      refine Ew_of (pc' := 14) (fun _ => x_iload_n rfl l2_1) ?_
      refine Ew_of (pc' := 15) (fun _ => x_aload_n rfl l2_0) ?_
      refine w_gT H (o := 6) (t := 57) rfl (H.perm 6 rfl) rfl rfl rfl rfl rfl rfl ?_
      refine Ew_of (pc' := 19) (fun _ => x_iload_n rfl l2_1) ?_
      refine w_lI H (o := 57) (n := 256) rfl (H.perm 57 rfl) rfl rfl (H.fix 57 rfl rfl) (show 0 ≤ x2_1 ∧ x2_1 < ((256 : Nat) : Int) by omega) (by decide) (fun v8 ev8 qv8 => ?_)
      have qv8 : (0 : Int) ≤ v8 ∧ v8 ≤ 11 := qv8
      have ev8 : (w57) (x2_1) = v8 := (congrFun ((funext (hA_2 57 rfl)).trans (ew57)) (x2_1)).symm.trans ev8
      refine w_sI H (o := 53) (n := 256) rfl (H.perm 53 rfl) rfl rfl (H.fix 53 rfl rfl) (show 0 ≤ x2_1 ∧ x2_1 < ((256 : Nat) : Int) by omega) (by decide) (show (0 : Int) ≤ v8 ∧ v8 ≤ 11 by omega) (fun σ H => ?_)
      refine Ew_of (pc' := 24) (fun _ => x_iinc (len := 3) rfl (l2_1)) ?_
      refine Ew_of (pc' := 2) (fun _ => x_goto rfl rfl) ?_
      have : ∀ i, (0 : Int) ≤ i → i < ((x2_1 + 1)) → ((upd1 (w2_53) (x2_1) (v8))) i = ((w57)) i := pt_copy j2_3 (by omega)
      exact ih2 _ (by omega) _ σ _ _ ((x2_1 + 1)) (rk_o (l2_0) rfl rfl) (rk_s) H (hS_2) (SA_upd (hA_2) rfl)  (upd1 (w2_53) (x2_1) (v8)) (congrArg (fun q => upd1 q (x2_1) (v8)) (ew2_53)) (show inr ((x2_1 + 1)) by omega) (show (0) ≤ ((x2_1 + 1)) by omega) (show ((x2_1 + 1)) ≤ (0) ∨ ((x2_1 + 1)) ≤ ((256)) by omega) (show ∀ i, 0 ≤ i → i < ((x2_1 + 1)) → ((upd1 (w2_53) (x2_1) (v8))) i = ((w57)) i by assumption) rfl
/-- Writer.sayBlockHead -/
theorem M448 {σ0 σ : rS} {D N : Nat → Nat} {F : hF} {A : hA} {d c s : Nat} {Q : wQ} (H : HS σ0 σ D N F A) {a1 a2 a3 a4 : Int} (u6_37 : Int) (eu6_37 : F 6 37 = u6_37) (h0 : inr (a1)) (h1 : inr (a2)) (h2 : inr (a3)) (h3 : inr (a4)) (h4 : (a4) = 0 ∨ (a4) = 1) (h5 : 0 ≤ (a1) ∧ (a1) ≤ 80000000) (h6 : 0 ≤ (a2) ∧ (a2) ≤ 20000000 ∧ 0 ≤ (a3) ∧ (a3) ≤ 3) (k : ∀ σ F' A', HS σ0 σ D N F' A' → SF [(6, 37)] F F' → SA [70] A A' → ∀ y6_37 : Int, F' 6 37 = y6_37 → ((u6_37) ≤ (y6_37) ∧ (a1) + 3 ≤ (y6_37) ∧ ((y6_37) = (u6_37) ∨ (y6_37) = (a1) + 3)) → Q none σ c s) : Ew 448 (d + 2) 0 (rargs 0 [.ref (D 6), I a1, I a2, I a3, I a4]) [] σ c s Q := by
  have r1 : (0 : Int) ≤ u6_37 ∧ u6_37 ≤ 100000000 := by have h1 : (0 : Int) ≤ F 6 37 ∧ F 6 37 ≤ 100000000 := H.frng 6 37; rw [show F 6 37 = u6_37 from (eu6_37)] at h1; exact h1
  refine Ew_of (pc' := 1) (fun _ => x_aload_n rfl rfl) ?_
  refine w_gI H (o := 6) (w := u6_37) rfl (H.perm 6 rfl) rfl rfl rfl (fun _ => rfl) (eu6_37) ?_
  refine Ew_of (pc' := 6) (fun _ => x_istore rfl) ?_
  refine Ew_of (pc' := 7) (fun _ => x_aload_n rfl (rk_o (rfl) rfl rfl)) ?_
  refine Ew_of (pc' := 8) (fun _ => x_iload_n rfl (rk_o (rfl) rfl rfl)) ?_
  refine w_pI H (o := 6) rfl rfl (H.perm 6 rfl) rfl rfl rfl (fun _ => rfl) rfl (show (0 : Int) ≤ a1 ∧ a1 ≤ 100000000 by omega) (fun σ H => ?_)
  refine Ew_of (pc' := 12) (fun _ => x_aload_n rfl (rk_o (rfl) rfl rfl)) ?_
  refine Ew_of (pc' := 14) (fun _ => x_bipush (z := 8) rfl (by decide)) ?_
  refine Ew_of (pc' := 15) (fun _ => x_iload_n rfl (rk_o (rfl) rfl rfl)) ?_
  refine w_imul rfl ?_
  refine Ew_of (pc' := 17) (fun _ => x_iconst rfl) ?_
  refine Ew_of (pc' := 18) (fun _ => x_iload_n rfl (rk_o (rfl) rfl rfl)) ?_
  refine w_imul rfl ?_
  refine w_iadd rfl ?_
  refine Ew_of (pc' := 22) (fun _ => x_iload rfl (rk_o (rfl) rfl rfl)) ?_
  have hc30 : ∀ (tc30_0 : Int), ∀ (ls : rO) (σ : rS) (F_c30 : hF) (A_c30 : hA) , rlook ls 0 = some (.ref (D 6)) → rlook ls 5 = some (I (u6_37)) → HS σ0 σ D N F_c30 A_c30 → SF [] (updF F 6 37 (a1)) F_c30 → SA [] A A_c30 → (inr (tc30_0)) → (((a4) = (0) ∧ (tc30_0) = (0)) ∨ ((a4) ≠ (0) ∧ (tc30_0) = (1))) → Ew 448 (d + 2) 30 ls [I (tc30_0), I (((8 * a2) + (2 * a3))), .ref (D 6)] σ c s Q := by
   as_aux_lemma =>
    intro tc30_0 ls σ F_c30 A_c30  lc30_0 lc30_5 H hS_c30 hA_c30   jc30_0 jc30_1
    refine w_iadd rfl ?_
    refine w_i2l rfl (show inr ((((8 * a2) + (2 * a3)) + tc30_0)) by omega) ?_
    refine Ew_of (pc' := 33) (fun _ => x_iconst rfl) ?_
    refine w_inv H (o := 6) rfl rfl rfl (H.perm 6 rfl) rfl rfl (by rfl) (M393 H (a1) ((hS_c30 6 37 rfl)) (A 70) (funext (hA_c30 70 rfl)) (show inrJ ((((8 * a2) + (2 * a3)) + tc30_0)) by omega) (show inr (3) by omega) (show 0 ≤ (3) ∧ (3) ≤ 8 by omega) (show 0 ≤ (a1) ∧ (a1) ≤ 90000000 by omega) (fun σ F2 A3 H hS4 hA5 y7 ey8 wq9 ewq10 pz6_0 pz6_1 => ⟨rfl, ?_⟩))
    have r11 : (0 : Int) ≤ y7 ∧ y7 ≤ 100000000 := by have h1 : (0 : Int) ≤ F2 6 37 ∧ F2 6 37 ≤ 100000000 := H.frng 6 37; rw [show F2 6 37 = y7 from (ey8)] at h1; exact h1
    refine Ew_of (pc' := 37) (fun _ => x_aload_n rfl lc30_0) ?_
    refine Ew_of (pc' := 39) (fun _ => x_iload rfl lc30_5) ?_
    refine Ew_of (pc' := 40) (fun _ => x_aload_n rfl lc30_0) ?_
    refine w_gI H (o := 6) (w := y7) rfl (H.perm 6 rfl) rfl rfl rfl (fun _ => rfl) (ey8) ?_
    refine w_icmple (t := 51) rfl rfl (show inr (u6_37) by omega) (show inr (y7) by omega) (fun b12 => ?_) (fun b12 => ?_)
    · refine Ew_of (pc' := 52) (fun _ => x_aload_n rfl lc30_0) ?_
      refine w_gI H (o := 6) (w := y7) rfl (H.perm 6 rfl) rfl rfl rfl (fun _ => rfl) (ey8) ?_
      refine w_pI H (o := 6) rfl rfl (H.perm 6 rfl) rfl rfl rfl (fun _ => rfl) rfl (show (0 : Int) ≤ y7 ∧ y7 ≤ 100000000 by omega) (fun σ H => ?_)
      exact w_ret rfl (k σ _ _ H (SF_upd (SF_trans (SF_trans (SF_upd (SF_refl) rfl) hS_c30 (any_sub rfl)) hS4 (any_sub rfl)) rfl) (SA_trans (SA_trans (SA_refl) hA_c30 (any_subA rfl)) hA5 (any_subA rfl)) (y7) (rfl) (show (u6_37) ≤ (y7) ∧ a1 + 3 ≤ (y7) ∧ ((y7) = (u6_37) ∨ (y7) = a1 + 3) by omega))
    · refine Ew_of (pc' := 48) (fun _ => x_iload rfl lc30_5) ?_
      refine Ew_of (pc' := 55) (fun _ => x_goto rfl rfl) ?_
      refine w_pI H (o := 6) rfl rfl (H.perm 6 rfl) rfl rfl rfl (fun _ => rfl) rfl (show (0 : Int) ≤ u6_37 ∧ u6_37 ≤ 100000000 by omega) (fun σ H => ?_)
      exact w_ret rfl (k σ _ _ H (SF_upd (SF_trans (SF_trans (SF_upd (SF_refl) rfl) hS_c30 (any_sub rfl)) hS4 (any_sub rfl)) rfl) (SA_trans (SA_trans (SA_refl) hA_c30 (any_subA rfl)) hA5 (any_subA rfl)) (u6_37) (rfl) (show (u6_37) ≤ (u6_37) ∧ a1 + 3 ≤ (u6_37) ∧ ((u6_37) = (u6_37) ∨ (u6_37) = a1 + 3) by omega))
  refine w_ifeq (t := 29) rfl rfl (show inr (a4) by omega) (fun b13 => ?_) (fun b13 => ?_)
  · refine Ew_of (pc' := 30) (fun _ => x_iconst rfl) ?_
    exact hc30 (0) _ σ _ _  (rk_o (rfl) rfl rfl) (rk_s) H (SF_refl) (SA_refl)   (show inr (0) by omega) (show ((a4) = (0) ∧ (0) = (0)) ∨ ((a4) ≠ (0) ∧ (0) = (1)) by omega)
  · refine Ew_of (pc' := 26) (fun _ => x_iconst rfl) ?_
    refine Ew_of (pc' := 30) (fun _ => x_goto rfl rfl) ?_
    exact hc30 (1) _ σ _ _  (rk_o (rfl) rfl rfl) (rk_s) H (SF_refl) (SA_refl)   (show inr (1) by omega) (show ((a4) = (0) ∧ (1) = (0)) ∨ ((a4) ≠ (0) ∧ (1) = (1)) by omega)
/-- Writer.rotated -/
theorem M451 {σ0 σ : rS} {D N : Nat → Nat} {F : hF} {A : hA} {d c s : Nat} {Q : wQ} (H : HS σ0 σ D N F A) {a1 a2 : Int} (h0 : inrJ (a1)) (h1 : inr (a2)) (h2 : 0 ≤ (a2) ∧ (a2) ≤ 64) (k : ∀ (z : Int) σ F' A', HS σ0 σ D N F' A' → SF [] F F' → SA [] A A' → (inrJ (z)) → ((z) = rtJ ((a1)) ((a2))) → Q (some (J z)) σ c s) : Ew 451 (d + 0) 0 (rargs 0 [J a1, I a2]) [] σ c s Q := by
  refine Ew_of (pc' := 1) (fun _ => x_lload_n rfl rfl) ?_
  refine Ew_of (pc' := 2) (fun _ => x_iload_n rfl rfl) ?_
  refine w_lshlE rfl ?_
  have g1 : inrJ (shlJ (a1) (a2)) := toJ_inr _
  refine Ew_of (pc' := 4) (fun _ => x_lload_n rfl rfl) ?_
  refine Ew_of (pc' := 6) (fun _ => x_bipush (z := 64) rfl (by decide)) ?_
  refine Ew_of (pc' := 7) (fun _ => x_iload_n rfl rfl) ?_
  refine w_isub rfl ?_
  refine w_lushrE rfl ?_
  have g2 : inrJ (usJ (a1) ((64 - a2))) := toJ_inr _
  refine w_lorE rfl ?_
  have g3 : inrJ (orJ ((shlJ (a1) (a2))) ((usJ (a1) ((64 - a2))))) := toJ_inr _
  have : ((orJ ((shlJ (a1) (a2))) ((usJ (a1) ((64 - a2)))))) = rtJ ((a1)) ((a2)) := rfl
  exact w_lreturn rfl (k ((orJ ((shlJ (a1) (a2))) ((usJ (a1) ((64 - a2)))))) σ _ _ H (SF_refl) (SA_refl) (show inrJ ((orJ ((shlJ (a1) (a2))) ((usJ (a1) ((64 - a2)))))) by omega) (show ((orJ ((shlJ (a1) (a2))) ((usJ (a1) ((64 - a2)))))) = rtJ (a1) (a2) by assumption))
/-- Writer.wordAt -/
theorem M452 {σ0 σ : rS} {D N : Nat → Nat} {F : hF} {A : hA} {d c s : Nat} {Q : wQ} (H : HS σ0 σ D N F A) {a1 a2 : Int} (w14 : Int → Int) (ew14 : A 14 = w14) (h0 : inr (a1)) (h1 : inr (a2)) (h2 : 0 ≤ (a1) ∧ 0 ≤ (a2) ∧ (a2) ≤ 8 ∧ (a1) + (a2) ≤ 65536) (k : ∀ (z : Int) σ F' A', HS σ0 σ D N F' A' → SF [] F F' → SA [] A A' → (inrJ (z)) → ((z) = nmb ((w14)) ((a1)) ((a2)) ((a2) : Int).toNat) → Q (some (J z)) σ c s) : Ew 452 (d + 0) 0 (rargs 0 [.ref (D 6), I a1, I a2]) [] σ c s Q := by
  refine Ew_of (pc' := 1) (fun _ => x_lconst (z := 0) rfl (by decide)) ?_
  refine Ew_of (pc' := 2) (fun _ => x_lstore_n rfl) ?_
  refine Ew_of (pc' := 3) (fun _ => x_iload_n rfl (rk2_o (rfl) rfl rfl)) ?_
  refine Ew_of (pc' := 4) (fun _ => x_iconst rfl) ?_
  refine w_isub rfl ?_
  refine Ew_of (pc' := 7) (fun _ => x_istore rfl) ?_
  have : (0 : Int) = nmb ((w14)) ((a1)) ((a2)) ((a2) - 1 - ((a2) - 1) : Int).toNat := by rw [show ((a2) - 1 - ((a2) - 1) : Int).toNat = 0 by omega]; rfl
  suffices hl7 : ∀ (m : Nat), ∀ (ls : rO) (σ : rS) (F_7 : hF) (A_7 : hA) (x7_3 : Int) (x7_5 : Int), rlook ls 0 = some (.ref (D 6)) → rlook ls 1 = some (I (a1)) → rlook ls 3 = some (J (x7_3)) → rlook ls 5 = some (I (x7_5)) → HS σ0 σ D N F_7 A_7 → SF [] F F_7 → SA [] A A_7 → (inrJ (x7_3)) → (inr (x7_5)) → ((x7_5) ≤ ((a2 - 1))) → (((a2 - 1)) ≤ (x7_5) ∨ ((-1)) ≤ (x7_5)) → ((x7_3) = nmb ((w14)) ((a1)) ((a2)) ((a2) - 1 - (x7_5) : Int).toNat) → ((x7_5) - ((-1))).toNat = m → Ew 452 (d + 0) 7 ls [] σ c s Q from
    hl7 _ _ σ _ _ (0) ((a2 - 1)) (rk_o (rk2_o (rfl) rfl rfl) rfl rfl) (rk_o (rk2_o (rfl) rfl rfl) rfl rfl) (rk_o (rk2_s) rfl rfl) (rk_s) H (SF_refl) (SA_refl)   (show inrJ (0) by omega) (show inr ((a2 - 1)) by omega) (show ((a2 - 1)) ≤ ((a2 - 1)) by omega) (show ((a2 - 1)) ≤ ((a2 - 1)) ∨ ((-1)) ≤ ((a2 - 1)) by omega) (show (0) = nmb ((w14)) ((a1)) ((a2)) ((a2) - 1 - ((a2 - 1)) : Int).toNat by assumption) rfl
  as_aux_lemma =>
  intro m
  induction m using Nat.strongRecOn with
  | _ m ih7 =>
    intro ls σ F_7 A_7 x7_3 x7_5 l7_0 l7_1 l7_3 l7_5 H hS_7 hA_7   j7_0 j7_1 j7_2 j7_3 j7_4 hm7
    have j7_q : (x7_3) = nmb ((w14)) ((a1)) ((a2)) ((a2) - 1 - (x7_5) : Int).toNat := by assumption
    refine Ew_of (pc' := 9) (fun _ => x_iload rfl l7_5) ?_
    refine w_iflt (t := 37) rfl rfl (show inr (x7_5) by omega) (fun b1 => ?_) (fun b1 => ?_)
    · refine Ew_of (pc' := 38) (fun _ => x_lload_n rfl l7_3) ?_
      have : (x7_3) = nmb ((w14)) ((a1)) ((a2)) ((a2) : Int).toNat := by have h := j7_q; rw [show (a2) - 1 - (x7_5) = (a2) by omega] at h; exact h
      exact w_lreturn rfl (k (x7_3) σ _ _ H (SF_trans (SF_refl) hS_7 (any_sub rfl)) (SA_trans (SA_refl) hA_7 (any_subA rfl)) (show inrJ (x7_3) by omega) (show (x7_3) = nmb ((w14)) (a1) (a2) (a2 : Int).toNat by assumption))
    · refine Ew_of (pc' := 13) (fun _ => x_lload_n rfl l7_3) ?_
      refine Ew_of (pc' := 15) (fun _ => x_bipush (z := 8) rfl (by decide)) ?_
      refine w_lshlE rfl ?_
      have g2 : inrJ (shlJ (x7_3) (8)) := toJ_inr _
      refine Ew_of (pc' := 17) (fun _ => x_aload_n rfl l7_0) ?_
      refine w_gT H (o := 6) (t := 1) rfl (H.perm 6 rfl) rfl rfl rfl rfl rfl rfl ?_
      refine w_gT H (o := 1) (t := 14) rfl (H.perm 1 rfl) rfl rfl rfl rfl rfl rfl ?_
      refine Ew_of (pc' := 24) (fun _ => x_iload_n rfl l7_1) ?_
      refine Ew_of (pc' := 26) (fun _ => x_iload rfl l7_5) ?_
      refine w_iadd rfl ?_
      refine w_lI H (o := 14) (n := 65536) rfl (H.perm 14 rfl) rfl rfl (H.fix 14 rfl rfl) (show 0 ≤ (a1 + x7_5) ∧ (a1 + x7_5) < ((65536 : Nat) : Int) by omega) (by decide) (fun v3 ev3 qv3 => ?_)
      have qv3 : (0 : Int) ≤ v3 ∧ v3 ≤ 255 := qv3
      have ev3 : (w14) ((a1 + x7_5)) = v3 := (congrFun ((funext (hA_7 14 rfl)).trans (ew14)) ((a1 + x7_5))).symm.trans ev3
      have hby := ev3
      refine w_i2l rfl (show inr (v3) by omega) ?_
      refine w_lorE rfl ?_
      have g4 : inrJ (orJ ((shlJ (x7_3) (8))) (v3)) := toJ_inr _
      have hnf : (((orJ ((shlJ (x7_3) (8))) (v3))) : Int) = nmb ((w14)) ((a1)) ((a2)) ((a2) - 1 - ((x7_5) + (-1)) : Int).toNat := nmb_s (i := (x7_5)) (by omega) (by omega) (by omega) j7_q rfl (by rw [hby]; omega) rfl
      refine Ew_of (pc' := 31) (fun _ => x_lstore_n rfl) ?_
      refine Ew_of (pc' := 34) (fun _ => x_iinc (len := 3) rfl (rk2_o (l7_5) rfl rfl)) ?_
      refine Ew_of (pc' := 7) (fun _ => x_goto rfl rfl) ?_
      exact ih7 _ (by omega) _ σ _ _ ((orJ ((shlJ (x7_3) (8))) (v3))) ((x7_5 + (-1))) (rk_o (rk2_o (l7_0) rfl rfl) rfl rfl) (rk_o (rk2_o (l7_1) rfl rfl) rfl rfl) (rk_o (rk2_s) rfl rfl) (rk_s) H (hS_7) (hA_7)   (show inrJ ((orJ ((shlJ (x7_3) (8))) (v3))) by omega) (show inr ((x7_5 + (-1))) by omega) (show ((x7_5 + (-1))) ≤ ((a2 - 1)) by omega) (show ((a2 - 1)) ≤ ((x7_5 + (-1))) ∨ ((-1)) ≤ ((x7_5 + (-1))) by omega) (show ((orJ ((shlJ (x7_3) (8))) (v3))) = nmb ((w14)) ((a1)) ((a2)) ((a2) - 1 - ((x7_5 + (-1))) : Int).toNat by assumption) rfl
/-- Writer.sum -/
theorem M453 {σ0 σ : rS} {D N : Nat → Nat} {F : hF} {A : hA} {d c s : Nat} {Q : wQ} (H : HS σ0 σ D N F A)  (u1_1 : Int) (eu1_1 : F 1 1 = u1_1) (w14 : Int → Int) (ew14 : A 14 = w14) (k : ∀ (z : Int) σ F' A', HS σ0 σ D N F' A' → SF [] F F' → SA [86] A A' → (inrJ (z)) → ((z) = WDS ((w14)) 0 ((u1_1)) 0) → Q (some (J z)) σ c s) : Ew 453 (d + 1) 0 (rargs 0 [.ref (D 6)]) [] σ c s Q := by
  have r1 : (0 : Int) ≤ u1_1 ∧ u1_1 ≤ 65536 := by have h1 : (0 : Int) ≤ F 1 1 ∧ F 1 1 ≤ 65536 := H.frng 1 1; rw [show F 1 1 = u1_1 from (eu1_1)] at h1; exact h1
  refine Ew_of (pc' := 3) (fun _ => x_ldc2 (z := -7046029288634856825) rfl (by decide)) ?_
  refine Ew_of (pc' := 4) (fun _ => x_lstore_n rfl) ?_
  refine Ew_of (pc' := 7) (fun _ => x_ldc2 (z := -4417276706812531889) rfl (by decide)) ?_
  refine Ew_of (pc' := 8) (fun _ => x_lstore_n rfl) ?_
  refine Ew_of (pc' := 11) (fun _ => x_ldc2 (z := 1609587929392839161) rfl (by decide)) ?_
  refine Ew_of (pc' := 13) (fun _ => x_lstore rfl) ?_
  refine Ew_of (pc' := 16) (fun _ => x_ldc2 (z := -8796714831421723037) rfl (by decide)) ?_
  refine Ew_of (pc' := 18) (fun _ => x_lstore rfl) ?_
  refine Ew_of (pc' := 21) (fun _ => x_ldc2 (z := 2870177450012600261) rfl (by decide)) ?_
  refine Ew_of (pc' := 23) (fun _ => x_lstore rfl) ?_
  refine Ew_of (pc' := 25) (fun _ => x_lload rfl rk2_s) ?_
  refine Ew_of (pc' := 27) (fun _ => x_lstore rfl) ?_
  refine Ew_of (pc' := 28) (fun _ => x_iconst rfl) ?_
  refine Ew_of (pc' := 30) (fun _ => x_istore rfl) ?_
  have hc231 : ∀ (ls : rO) (σ : rS) (F_c231 : hF) (A_c231 : hA) (xc231_11 : Int) (xc231_13 : Int), rlook ls 0 = some (.ref (D 6)) → rlook ls 1 = some (J ((-7046029288634856825))) → rlook ls 3 = some (J ((-4417276706812531889))) → rlook ls 5 = some (J (1609587929392839161)) → rlook ls 7 = some (J ((-8796714831421723037))) → rlook ls 9 = some (J (2870177450012600261)) → rlook ls 11 = some (J (xc231_11)) → rlook ls 13 = some (I (xc231_13)) → HS σ0 σ D N F_c231 A_c231 → SF [] F F_c231 → SA [86] A A_c231 → (inrJ (xc231_11)) → (inr (xc231_13)) → (0 ≤ (xc231_13) ∧ (xc231_13) ≤ (u1_1)) → (WS1 ((w14)) 0 ((u1_1)) 0 ((xc231_13)) ((xc231_11))) → Ew 453 (d + 1) 231 ls [] σ c s Q := by
   as_aux_lemma =>
    intro  ls σ F_c231 A_c231 xc231_11 xc231_13 lc231_0 lc231_1 lc231_3 lc231_5 lc231_7 lc231_9 lc231_11 lc231_13 H hS_c231 hA_c231   jc231_0 jc231_1 jc231_2 jc231_3
    have hc1 : WS1 ((w14)) 0 ((u1_1)) 0 ((xc231_13)) ((xc231_11)) := by assumption
    refine Ew_of (pc' := 233) (fun _ => x_lload rfl lc231_11) ?_
    refine Ew_of (pc' := 234) (fun _ => x_aload_n rfl lc231_0) ?_
    refine w_gT H (o := 6) (t := 1) rfl (H.perm 6 rfl) rfl rfl rfl rfl rfl rfl ?_
    refine w_gI H (o := 1) (w := u1_1) rfl (H.perm 1 rfl) rfl rfl rfl (fun _ => rfl) ((hS_c231 1 1 rfl).trans (eu1_1)) ?_
    refine w_i2l rfl (show inr (u1_1) by omega) ?_
    refine w_laddE rfl ?_
    have g2 : inrJ (adJ (xc231_11) (u1_1)) := toJ_inr _
    refine Ew_of (pc' := 244) (fun _ => x_lstore rfl) ?_
    have hc1p := hc1.1
    have : WRI8 ((w14)) ((u1_1) - (u1_1) % 32) ((u1_1)) (adJ (WTI ((w14)) 0 ((u1_1)) 0) ((u1_1))) ((xc231_13)) (((adJ (xc231_11) (u1_1)))) := WRI8_i (by omega) (by rw [hc1.2]) (by omega)
    suffices hl244 : ∀ (m : Nat), ∀ (ls : rO) (σ : rS) (F_244 : hF) (A_244 : hA) (x244_11 : Int) (x244_13 : Int), rlook ls 0 = some (.ref (D 6)) → rlook ls 1 = some (J ((-7046029288634856825))) → rlook ls 3 = some (J ((-4417276706812531889))) → rlook ls 5 = some (J (1609587929392839161)) → rlook ls 7 = some (J ((-8796714831421723037))) → rlook ls 9 = some (J (2870177450012600261)) → rlook ls 11 = some (J (x244_11)) → rlook ls 13 = some (I (x244_13)) → HS σ0 σ D N F_244 A_244 → SF [] F_c231 F_244 → SA [] A_c231 A_244 → (inrJ (x244_11)) → (inr (x244_13)) → (0 ≤ (x244_13) ∧ (x244_13) ≤ (u1_1)) → (WRI8 ((w14)) ((u1_1) - (u1_1) % 32) ((u1_1)) (adJ (WTI ((w14)) 0 ((u1_1)) 0) ((u1_1))) ((x244_13)) ((x244_11))) → ((u1_1) - (x244_13)).toNat = m → Ew 453 (d + 1) 244 ls [] σ c s Q from
      hl244 _ _ σ _ _ ((adJ (xc231_11) (u1_1))) (xc231_13) (rk2_o (lc231_0) rfl rfl) (rk2_o (lc231_1) rfl rfl) (rk2_o (lc231_3) rfl rfl) (rk2_o (lc231_5) rfl rfl) (rk2_o (lc231_7) rfl rfl) (rk2_o (lc231_9) rfl rfl) (rk2_s) (rk2_o (lc231_13) rfl rfl) H (SF_refl) (SA_refl)   (show inrJ ((adJ (xc231_11) (u1_1))) by omega) (show inr (xc231_13) by omega) (show 0 ≤ (xc231_13) ∧ (xc231_13) ≤ (u1_1) by omega) (show WRI8 ((w14)) ((u1_1) - (u1_1) % 32) ((u1_1)) (adJ (WTI ((w14)) 0 ((u1_1)) 0) ((u1_1))) ((xc231_13)) (((adJ (xc231_11) (u1_1)))) by assumption) rfl
    as_aux_lemma =>
    intro m
    induction m using Nat.strongRecOn with
    | _ m ih244 =>
      intro ls σ F_244 A_244 x244_11 x244_13 l244_0 l244_1 l244_3 l244_5 l244_7 l244_9 l244_11 l244_13 H hS_244 hA_244   j244_0 j244_1 j244_2 j244_3 hm244
      have j244_q : WRI8 ((w14)) ((u1_1) - (u1_1) % 32) ((u1_1)) (adJ (WTI ((w14)) 0 ((u1_1)) 0) ((u1_1))) ((x244_13)) ((x244_11)) := by assumption
      refine Ew_of (pc' := 245) (fun _ => x_aload_n rfl l244_0) ?_
      refine w_gT H (o := 6) (t := 1) rfl (H.perm 6 rfl) rfl rfl rfl rfl rfl rfl ?_
      refine w_gI H (o := 1) (w := u1_1) rfl (H.perm 1 rfl) rfl rfl rfl (fun _ => rfl) (((hS_244 1 1 rfl).trans (hS_c231 1 1 rfl)).trans (eu1_1)) ?_
      refine Ew_of (pc' := 253) (fun _ => x_iload rfl l244_13) ?_
      refine w_isub rfl ?_
      refine Ew_of (pc' := 256) (fun _ => x_bipush (z := 8) rfl (by decide)) ?_
      refine w_icmplt (t := 297) rfl rfl (show inr ((u1_1 - x244_13)) by omega) (show inr (8) by omega) (fun b3 => ?_) (fun b3 => ?_)
      · refine Ew_of (pc' := 298) (fun _ => x_aload_n rfl l244_0) ?_
        refine w_gT H (o := 6) (t := 1) rfl (H.perm 6 rfl) rfl rfl rfl rfl rfl rfl ?_
        refine w_gI H (o := 1) (w := u1_1) rfl (H.perm 1 rfl) rfl rfl rfl (fun _ => rfl) (((hS_244 1 1 rfl).trans (hS_c231 1 1 rfl)).trans (eu1_1)) ?_
        refine Ew_of (pc' := 306) (fun _ => x_iload rfl l244_13) ?_
        refine w_isub rfl ?_
        refine Ew_of (pc' := 308) (fun _ => x_iconst rfl) ?_
        refine w_icmplt (t := 338) rfl rfl (show inr ((u1_1 - x244_13)) by omega) (show inr (4) by omega) (fun b4 => ?_) (fun b4 => ?_)
        · have : WRI1 ((w14)) ((u1_1) - (u1_1) % 32) ((u1_1)) (adJ (WTI ((w14)) 0 ((u1_1)) 0) ((u1_1))) ((x244_13)) ((x244_11)) := by first | exact WRI1_n j244_q (by omega) | exact WRI1_y j244_q (by omega) (w4_c n4_ r4_) (by omega)
          suffices hl338 : ∀ (m : Nat), ∀ (ls : rO) (σ : rS) (F_338 : hF) (A_338 : hA) (x338_11 : Int) (x338_13 : Int), rlook ls 0 = some (.ref (D 6)) → rlook ls 1 = some (J ((-7046029288634856825))) → rlook ls 3 = some (J ((-4417276706812531889))) → rlook ls 5 = some (J (1609587929392839161)) → rlook ls 9 = some (J (2870177450012600261)) → rlook ls 11 = some (J (x338_11)) → rlook ls 13 = some (I (x338_13)) → HS σ0 σ D N F_338 A_338 → SF [] F_244 F_338 → SA [] A_244 A_338 → (inrJ (x338_11)) → (inr (x338_13)) → (0 ≤ (x338_13) ∧ (x338_13) ≤ (u1_1)) → (WRI1 ((w14)) ((u1_1) - (u1_1) % 32) ((u1_1)) (adJ (WTI ((w14)) 0 ((u1_1)) 0) ((u1_1))) ((x338_13)) ((x338_11))) → ((u1_1) - (x338_13)).toNat = m → Ew 453 (d + 1) 338 ls [] σ c s Q from
            hl338 _ _ σ _ _ (x244_11) (x244_13) (l244_0) (l244_1) (l244_3) (l244_5) (l244_9) (l244_11) (l244_13) H (SF_refl) (SA_refl)   (show inrJ (x244_11) by omega) (show inr (x244_13) by omega) (show 0 ≤ (x244_13) ∧ (x244_13) ≤ (u1_1) by omega) (show WRI1 ((w14)) ((u1_1) - (u1_1) % 32) ((u1_1)) (adJ (WTI ((w14)) 0 ((u1_1)) 0) ((u1_1))) ((x244_13)) ((x244_11)) by assumption) rfl
          as_aux_lemma =>
          intro m
          induction m using Nat.strongRecOn with
          | _ m ih338 =>
            intro ls σ F_338 A_338 x338_11 x338_13 l338_0 l338_1 l338_3 l338_5 l338_9 l338_11 l338_13 H hS_338 hA_338   j338_0 j338_1 j338_2 j338_3 hm338
            have j338_q : WRI1 ((w14)) ((u1_1) - (u1_1) % 32) ((u1_1)) (adJ (WTI ((w14)) 0 ((u1_1)) 0) ((u1_1))) ((x338_13)) ((x338_11)) := by assumption
            refine Ew_of (pc' := 340) (fun _ => x_iload rfl l338_13) ?_
            refine Ew_of (pc' := 341) (fun _ => x_aload_n rfl l338_0) ?_
            refine w_gT H (o := 6) (t := 1) rfl (H.perm 6 rfl) rfl rfl rfl rfl rfl rfl ?_
            refine w_gI H (o := 1) (w := u1_1) rfl (H.perm 1 rfl) rfl rfl rfl (fun _ => rfl) ((((hS_338 1 1 rfl).trans (hS_244 1 1 rfl)).trans (hS_c231 1 1 rfl)).trans (eu1_1)) ?_
            refine w_icmpge (t := 382) rfl rfl (show inr (x338_13) by omega) (show inr (u1_1) by omega) (fun b5 => ?_) (fun b5 => ?_)
            · refine Ew_of (pc' := 384) (fun _ => x_lload rfl l338_11) ?_
              refine Ew_of (pc' := 386) (fun _ => x_lload rfl l338_11) ?_
              refine Ew_of (pc' := 388) (fun _ => x_bipush (z := 33) rfl (by decide)) ?_
              refine w_lushrE rfl ?_
              have g6 : inrJ (usJ (x338_11) (33)) := toJ_inr _
              refine w_lxorE rfl ?_
              have g7 : inrJ (xoJ (x338_11) ((usJ (x338_11) (33)))) := toJ_inr _
              refine Ew_of (pc' := 391) (fun _ => x_lload_n rfl l338_3) ?_
              refine w_lmulE rfl ?_
              have g8 : inrJ (muJ ((xoJ (x338_11) ((usJ (x338_11) (33))))) ((-4417276706812531889))) := toJ_inr _
              refine Ew_of (pc' := 394) (fun _ => x_lstore rfl) ?_
              refine Ew_of (pc' := 396) (fun _ => x_lload rfl rk2_s) ?_
              refine Ew_of (pc' := 398) (fun _ => x_lload rfl rk2_s) ?_
              refine Ew_of (pc' := 400) (fun _ => x_bipush (z := 29) rfl (by decide)) ?_
              refine w_lushrE rfl ?_
              have g9 : inrJ (usJ ((muJ ((xoJ (x338_11) ((usJ (x338_11) (33))))) ((-4417276706812531889)))) (29)) := toJ_inr _
              refine w_lxorE rfl ?_
              have g10 : inrJ (xoJ ((muJ ((xoJ (x338_11) ((usJ (x338_11) (33))))) ((-4417276706812531889)))) ((usJ ((muJ ((xoJ (x338_11) ((usJ (x338_11) (33))))) ((-4417276706812531889)))) (29)))) := toJ_inr _
              refine Ew_of (pc' := 404) (fun _ => x_lload rfl (rk2_o (l338_5) rfl rfl)) ?_
              refine w_lmulE rfl ?_
              have g11 : inrJ (muJ ((xoJ ((muJ ((xoJ (x338_11) ((usJ (x338_11) (33))))) ((-4417276706812531889)))) ((usJ ((muJ ((xoJ (x338_11) ((usJ (x338_11) (33))))) ((-4417276706812531889)))) (29))))) (1609587929392839161)) := toJ_inr _
              refine Ew_of (pc' := 407) (fun _ => x_lstore rfl) ?_
              refine Ew_of (pc' := 409) (fun _ => x_lload rfl rk2_s) ?_
              refine Ew_of (pc' := 411) (fun _ => x_lload rfl rk2_s) ?_
              refine Ew_of (pc' := 413) (fun _ => x_bipush (z := 32) rfl (by decide)) ?_
              refine w_lushrE rfl ?_
              have g12 : inrJ (usJ ((muJ ((xoJ ((muJ ((xoJ (x338_11) ((usJ (x338_11) (33))))) ((-4417276706812531889)))) ((usJ ((muJ ((xoJ (x338_11) ((usJ (x338_11) (33))))) ((-4417276706812531889)))) (29))))) (1609587929392839161))) (32)) := toJ_inr _
              refine w_lxorE rfl ?_
              have g13 : inrJ (xoJ ((muJ ((xoJ ((muJ ((xoJ (x338_11) ((usJ (x338_11) (33))))) ((-4417276706812531889)))) ((usJ ((muJ ((xoJ (x338_11) ((usJ (x338_11) (33))))) ((-4417276706812531889)))) (29))))) (1609587929392839161))) ((usJ ((muJ ((xoJ ((muJ ((xoJ (x338_11) ((usJ (x338_11) (33))))) ((-4417276706812531889)))) ((usJ ((muJ ((xoJ (x338_11) ((usJ (x338_11) (33))))) ((-4417276706812531889)))) (29))))) (1609587929392839161))) (32)))) := toJ_inr _
              have : ((xoJ ((muJ ((xoJ ((muJ ((xoJ (x338_11) ((usJ (x338_11) (33))))) ((-4417276706812531889)))) ((usJ ((muJ ((xoJ (x338_11) ((usJ (x338_11) (33))))) ((-4417276706812531889)))) (29))))) (1609587929392839161))) ((usJ ((muJ ((xoJ ((muJ ((xoJ (x338_11) ((usJ (x338_11) (33))))) ((-4417276706812531889)))) ((usJ ((muJ ((xoJ (x338_11) ((usJ (x338_11) (33))))) ((-4417276706812531889)))) (29))))) (1609587929392839161))) (32))))) = WDS ((w14)) 0 ((u1_1)) 0 := WDS_w (WRI1_e j338_q (by omega)) (by omega) (by omega)
              exact w_lreturn rfl (k ((xoJ ((muJ ((xoJ ((muJ ((xoJ (x338_11) ((usJ (x338_11) (33))))) ((-4417276706812531889)))) ((usJ ((muJ ((xoJ (x338_11) ((usJ (x338_11) (33))))) ((-4417276706812531889)))) (29))))) (1609587929392839161))) ((usJ ((muJ ((xoJ ((muJ ((xoJ (x338_11) ((usJ (x338_11) (33))))) ((-4417276706812531889)))) ((usJ ((muJ ((xoJ (x338_11) ((usJ (x338_11) (33))))) ((-4417276706812531889)))) (29))))) (1609587929392839161))) (32))))) σ _ _ H (SF_trans (SF_trans (SF_trans (SF_refl) hS_c231 (any_sub rfl)) hS_244 (any_sub rfl)) hS_338 (any_sub rfl)) (SA_trans (SA_trans (SA_trans (SA_refl) hA_c231 (any_subA rfl)) hA_244 (any_subA rfl)) hA_338 (any_subA rfl)) (show inrJ ((xoJ ((muJ ((xoJ ((muJ ((xoJ (x338_11) ((usJ (x338_11) (33))))) ((-4417276706812531889)))) ((usJ ((muJ ((xoJ (x338_11) ((usJ (x338_11) (33))))) ((-4417276706812531889)))) (29))))) (1609587929392839161))) ((usJ ((muJ ((xoJ ((muJ ((xoJ (x338_11) ((usJ (x338_11) (33))))) ((-4417276706812531889)))) ((usJ ((muJ ((xoJ (x338_11) ((usJ (x338_11) (33))))) ((-4417276706812531889)))) (29))))) (1609587929392839161))) (32))))) by omega) (show ((xoJ ((muJ ((xoJ ((muJ ((xoJ (x338_11) ((usJ (x338_11) (33))))) ((-4417276706812531889)))) ((usJ ((muJ ((xoJ (x338_11) ((usJ (x338_11) (33))))) ((-4417276706812531889)))) (29))))) (1609587929392839161))) ((usJ ((muJ ((xoJ ((muJ ((xoJ (x338_11) ((usJ (x338_11) (33))))) ((-4417276706812531889)))) ((usJ ((muJ ((xoJ (x338_11) ((usJ (x338_11) (33))))) ((-4417276706812531889)))) (29))))) (1609587929392839161))) (32))))) = WDS ((w14)) 0 ((u1_1)) 0 by assumption))
            · refine Ew_of (pc' := 352) (fun _ => x_lload rfl l338_11) ?_
              refine Ew_of (pc' := 353) (fun _ => x_aload_n rfl l338_0) ?_
              refine w_gT H (o := 6) (t := 1) rfl (H.perm 6 rfl) rfl rfl rfl rfl rfl rfl ?_
              refine w_gT H (o := 1) (t := 14) rfl (H.perm 1 rfl) rfl rfl rfl rfl rfl rfl ?_
              refine Ew_of (pc' := 361) (fun _ => x_iload rfl l338_13) ?_
              refine w_lI H (o := 14) (n := 65536) rfl (H.perm 14 rfl) rfl rfl (H.fix 14 rfl rfl) (show 0 ≤ x338_13 ∧ x338_13 < ((65536 : Nat) : Int) by omega) (by decide) (fun v14 ev14 qv14 => ?_)
              have qv14 : (0 : Int) ≤ v14 ∧ v14 ≤ 255 := qv14
              have ev14 : (w14) (x338_13) = v14 := (congrFun ((funext (hA_338 14 rfl)).trans ((funext (hA_244 14 rfl)).trans ((funext (hA_c231 14 rfl)).trans (ew14)))) (x338_13)).symm.trans ev14
              have hby := ev14
              refine w_i2l rfl (show inr (v14) by omega) ?_
              refine Ew_of (pc' := 365) (fun _ => x_lload rfl l338_9) ?_
              refine w_lmulE rfl ?_
              have g15 : inrJ (muJ (v14) (2870177450012600261)) := toJ_inr _
              refine w_lxorE rfl ?_
              have g16 : inrJ (xoJ (x338_11) ((muJ (v14) (2870177450012600261)))) := toJ_inr _
              refine Ew_of (pc' := 369) (fun _ => x_bipush (z := 11) rfl (by decide)) ?_
              refine w_stat24 rfl rfl (by rfl) (M451 H (show inrJ ((xoJ (x338_11) ((muJ (v14) (2870177450012600261))))) by omega) (show inr (11) by omega) (show 0 ≤ (11) ∧ (11) ≤ 64 by omega) (fun z21 σ F17 A18 H hS19 hA20 pz21_0 pz21_1 => ⟨rfl, ?_⟩))
              have r1_ := pz21_1
              refine Ew_of (pc' := 373) (fun _ => x_lload_n rfl l338_1) ?_
              refine w_lmulE rfl ?_
              have g22 : inrJ (muJ (z21) ((-7046029288634856825))) := toJ_inr _
              refine Ew_of (pc' := 376) (fun _ => x_lstore rfl) ?_
              refine Ew_of (pc' := 379) (fun _ => x_iinc (len := 3) rfl (rk2_o (l338_13) rfl rfl)) ?_
              refine Ew_of (pc' := 338) (fun _ => x_goto rfl rfl) ?_
              have : WRI1 ((w14)) ((u1_1) - (u1_1) % 32) ((u1_1)) (adJ (WTI ((w14)) 0 ((u1_1)) 0) ((u1_1))) (((x338_13 + 1))) (((muJ (z21) ((-7046029288634856825))))) := WRI1_s j338_q (by omega) (w1_r hby (by omega) r1_) (by omega)
              exact ih338 _ (by omega) _ σ _ _ ((muJ (z21) ((-7046029288634856825)))) ((x338_13 + 1)) (rk_o (rk2_o (l338_0) rfl rfl) rfl rfl) (rk_o (rk2_o (l338_1) rfl rfl) rfl rfl) (rk_o (rk2_o (l338_3) rfl rfl) rfl rfl) (rk_o (rk2_o (l338_5) rfl rfl) rfl rfl) (rk_o (rk2_o (l338_9) rfl rfl) rfl rfl) (rk_o (rk2_s) rfl rfl) (rk_s) H (SF_trans (hS_338) hS19 (any_sub rfl)) (SA_trans (hA_338) hA20 (any_subA rfl))   (show inrJ ((muJ (z21) ((-7046029288634856825)))) by omega) (show inr ((x338_13 + 1)) by omega) (show 0 ≤ ((x338_13 + 1)) ∧ ((x338_13 + 1)) ≤ (u1_1) by omega) (show WRI1 ((w14)) ((u1_1) - (u1_1) % 32) ((u1_1)) (adJ (WTI ((w14)) 0 ((u1_1)) 0) ((u1_1))) (((x338_13 + 1))) (((muJ (z21) ((-7046029288634856825))))) by assumption) rfl
        · refine Ew_of (pc' := 313) (fun _ => x_lload rfl l244_11) ?_
          refine Ew_of (pc' := 314) (fun _ => x_aload_n rfl l244_0) ?_
          refine Ew_of (pc' := 316) (fun _ => x_iload rfl l244_13) ?_
          refine Ew_of (pc' := 317) (fun _ => x_iconst rfl) ?_
          refine w_inv H (o := 6) rfl rfl rfl (H.perm 6 rfl) rfl rfl (by rfl) (M452 H (w14) ((funext (hA_244 14 rfl)).trans ((funext (hA_c231 14 rfl)).trans (ew14))) (show inr (x244_13) by omega) (show inr (4) by omega) (show 0 ≤ (x244_13) ∧ 0 ≤ (4) ∧ (4) ≤ 8 ∧ (x244_13) + (4) ≤ 65536 by omega) (fun z27 σ F23 A24 H hS25 hA26 pz27_0 pz27_1 => ⟨rfl, ?_⟩))
          have n4_ := nmb_4 pz27_1 pz27_0
          refine Ew_of (pc' := 321) (fun _ => x_lload_n rfl l244_1) ?_
          refine w_lmulE rfl ?_
          have g28 : inrJ (muJ (z27) ((-7046029288634856825))) := toJ_inr _
          refine w_lxorE rfl ?_
          have g29 : inrJ (xoJ (x244_11) ((muJ (z27) ((-7046029288634856825))))) := toJ_inr _
          refine Ew_of (pc' := 325) (fun _ => x_bipush (z := 23) rfl (by decide)) ?_
          refine w_stat24 rfl rfl (by rfl) (M451 H (show inrJ ((xoJ (x244_11) ((muJ (z27) ((-7046029288634856825)))))) by omega) (show inr (23) by omega) (show 0 ≤ (23) ∧ (23) ≤ 64 by omega) (fun z34 σ F30 A31 H hS32 hA33 pz34_0 pz34_1 => ⟨rfl, ?_⟩))
          have r4_ := pz34_1
          refine Ew_of (pc' := 329) (fun _ => x_lload_n rfl l244_3) ?_
          refine w_lmulE rfl ?_
          have g35 : inrJ (muJ (z34) ((-4417276706812531889))) := toJ_inr _
          refine Ew_of (pc' := 332) (fun _ => x_lload rfl l244_5) ?_
          refine w_laddE rfl ?_
          have g36 : inrJ (adJ ((muJ (z34) ((-4417276706812531889)))) (1609587929392839161)) := toJ_inr _
          refine Ew_of (pc' := 335) (fun _ => x_lstore rfl) ?_
          refine Ew_of (pc' := 338) (fun _ => x_iinc (len := 3) rfl (rk2_o (l244_13) rfl rfl)) ?_
          have : WRI1 ((w14)) ((u1_1) - (u1_1) % 32) ((u1_1)) (adJ (WTI ((w14)) 0 ((u1_1)) 0) ((u1_1))) (((x244_13 + 4))) (((adJ ((muJ (z34) ((-4417276706812531889)))) (1609587929392839161)))) := by first | exact WRI1_n j244_q (by omega) | exact WRI1_y j244_q (by omega) (w4_c n4_ r4_) (by omega)
          suffices hl338 : ∀ (m : Nat), ∀ (ls : rO) (σ : rS) (F_338 : hF) (A_338 : hA) (x338_11 : Int) (x338_13 : Int), rlook ls 0 = some (.ref (D 6)) → rlook ls 1 = some (J ((-7046029288634856825))) → rlook ls 3 = some (J ((-4417276706812531889))) → rlook ls 5 = some (J (1609587929392839161)) → rlook ls 9 = some (J (2870177450012600261)) → rlook ls 11 = some (J (x338_11)) → rlook ls 13 = some (I (x338_13)) → HS σ0 σ D N F_338 A_338 → SF [] F30 F_338 → SA [] A31 A_338 → (inrJ (x338_11)) → (inr (x338_13)) → (0 ≤ (x338_13) ∧ (x338_13) ≤ (u1_1)) → (WRI1 ((w14)) ((u1_1) - (u1_1) % 32) ((u1_1)) (adJ (WTI ((w14)) 0 ((u1_1)) 0) ((u1_1))) ((x338_13)) ((x338_11))) → ((u1_1) - (x338_13)).toNat = m → Ew 453 (d + 1) 338 ls [] σ c s Q from
            hl338 _ _ σ _ _ ((adJ ((muJ (z34) ((-4417276706812531889)))) (1609587929392839161))) ((x244_13 + 4)) (rk_o (rk2_o (l244_0) rfl rfl) rfl rfl) (rk_o (rk2_o (l244_1) rfl rfl) rfl rfl) (rk_o (rk2_o (l244_3) rfl rfl) rfl rfl) (rk_o (rk2_o (l244_5) rfl rfl) rfl rfl) (rk_o (rk2_o (l244_9) rfl rfl) rfl rfl) (rk_o (rk2_s) rfl rfl) (rk_s) H (SF_refl) (SA_refl)   (show inrJ ((adJ ((muJ (z34) ((-4417276706812531889)))) (1609587929392839161))) by omega) (show inr ((x244_13 + 4)) by omega) (show 0 ≤ ((x244_13 + 4)) ∧ ((x244_13 + 4)) ≤ (u1_1) by omega) (show WRI1 ((w14)) ((u1_1) - (u1_1) % 32) ((u1_1)) (adJ (WTI ((w14)) 0 ((u1_1)) 0) ((u1_1))) (((x244_13 + 4))) (((adJ ((muJ (z34) ((-4417276706812531889)))) (1609587929392839161)))) by assumption) rfl
          as_aux_lemma =>
          intro m
          induction m using Nat.strongRecOn with
          | _ m ih338 =>
            intro ls σ F_338 A_338 x338_11 x338_13 l338_0 l338_1 l338_3 l338_5 l338_9 l338_11 l338_13 H hS_338 hA_338   j338_0 j338_1 j338_2 j338_3 hm338
            have j338_q : WRI1 ((w14)) ((u1_1) - (u1_1) % 32) ((u1_1)) (adJ (WTI ((w14)) 0 ((u1_1)) 0) ((u1_1))) ((x338_13)) ((x338_11)) := by assumption
            refine Ew_of (pc' := 340) (fun _ => x_iload rfl l338_13) ?_
            refine Ew_of (pc' := 341) (fun _ => x_aload_n rfl l338_0) ?_
            refine w_gT H (o := 6) (t := 1) rfl (H.perm 6 rfl) rfl rfl rfl rfl rfl rfl ?_
            refine w_gI H (o := 1) (w := u1_1) rfl (H.perm 1 rfl) rfl rfl rfl (fun _ => rfl) ((((((hS_338 1 1 rfl).trans (hS32 1 1 rfl)).trans (hS25 1 1 rfl)).trans (hS_244 1 1 rfl)).trans (hS_c231 1 1 rfl)).trans (eu1_1)) ?_
            refine w_icmpge (t := 382) rfl rfl (show inr (x338_13) by omega) (show inr (u1_1) by omega) (fun b37 => ?_) (fun b37 => ?_)
            · refine Ew_of (pc' := 384) (fun _ => x_lload rfl l338_11) ?_
              refine Ew_of (pc' := 386) (fun _ => x_lload rfl l338_11) ?_
              refine Ew_of (pc' := 388) (fun _ => x_bipush (z := 33) rfl (by decide)) ?_
              refine w_lushrE rfl ?_
              have g38 : inrJ (usJ (x338_11) (33)) := toJ_inr _
              refine w_lxorE rfl ?_
              have g39 : inrJ (xoJ (x338_11) ((usJ (x338_11) (33)))) := toJ_inr _
              refine Ew_of (pc' := 391) (fun _ => x_lload_n rfl l338_3) ?_
              refine w_lmulE rfl ?_
              have g40 : inrJ (muJ ((xoJ (x338_11) ((usJ (x338_11) (33))))) ((-4417276706812531889))) := toJ_inr _
              refine Ew_of (pc' := 394) (fun _ => x_lstore rfl) ?_
              refine Ew_of (pc' := 396) (fun _ => x_lload rfl rk2_s) ?_
              refine Ew_of (pc' := 398) (fun _ => x_lload rfl rk2_s) ?_
              refine Ew_of (pc' := 400) (fun _ => x_bipush (z := 29) rfl (by decide)) ?_
              refine w_lushrE rfl ?_
              have g41 : inrJ (usJ ((muJ ((xoJ (x338_11) ((usJ (x338_11) (33))))) ((-4417276706812531889)))) (29)) := toJ_inr _
              refine w_lxorE rfl ?_
              have g42 : inrJ (xoJ ((muJ ((xoJ (x338_11) ((usJ (x338_11) (33))))) ((-4417276706812531889)))) ((usJ ((muJ ((xoJ (x338_11) ((usJ (x338_11) (33))))) ((-4417276706812531889)))) (29)))) := toJ_inr _
              refine Ew_of (pc' := 404) (fun _ => x_lload rfl (rk2_o (l338_5) rfl rfl)) ?_
              refine w_lmulE rfl ?_
              have g43 : inrJ (muJ ((xoJ ((muJ ((xoJ (x338_11) ((usJ (x338_11) (33))))) ((-4417276706812531889)))) ((usJ ((muJ ((xoJ (x338_11) ((usJ (x338_11) (33))))) ((-4417276706812531889)))) (29))))) (1609587929392839161)) := toJ_inr _
              refine Ew_of (pc' := 407) (fun _ => x_lstore rfl) ?_
              refine Ew_of (pc' := 409) (fun _ => x_lload rfl rk2_s) ?_
              refine Ew_of (pc' := 411) (fun _ => x_lload rfl rk2_s) ?_
              refine Ew_of (pc' := 413) (fun _ => x_bipush (z := 32) rfl (by decide)) ?_
              refine w_lushrE rfl ?_
              have g44 : inrJ (usJ ((muJ ((xoJ ((muJ ((xoJ (x338_11) ((usJ (x338_11) (33))))) ((-4417276706812531889)))) ((usJ ((muJ ((xoJ (x338_11) ((usJ (x338_11) (33))))) ((-4417276706812531889)))) (29))))) (1609587929392839161))) (32)) := toJ_inr _
              refine w_lxorE rfl ?_
              have g45 : inrJ (xoJ ((muJ ((xoJ ((muJ ((xoJ (x338_11) ((usJ (x338_11) (33))))) ((-4417276706812531889)))) ((usJ ((muJ ((xoJ (x338_11) ((usJ (x338_11) (33))))) ((-4417276706812531889)))) (29))))) (1609587929392839161))) ((usJ ((muJ ((xoJ ((muJ ((xoJ (x338_11) ((usJ (x338_11) (33))))) ((-4417276706812531889)))) ((usJ ((muJ ((xoJ (x338_11) ((usJ (x338_11) (33))))) ((-4417276706812531889)))) (29))))) (1609587929392839161))) (32)))) := toJ_inr _
              have : ((xoJ ((muJ ((xoJ ((muJ ((xoJ (x338_11) ((usJ (x338_11) (33))))) ((-4417276706812531889)))) ((usJ ((muJ ((xoJ (x338_11) ((usJ (x338_11) (33))))) ((-4417276706812531889)))) (29))))) (1609587929392839161))) ((usJ ((muJ ((xoJ ((muJ ((xoJ (x338_11) ((usJ (x338_11) (33))))) ((-4417276706812531889)))) ((usJ ((muJ ((xoJ (x338_11) ((usJ (x338_11) (33))))) ((-4417276706812531889)))) (29))))) (1609587929392839161))) (32))))) = WDS ((w14)) 0 ((u1_1)) 0 := WDS_w (WRI1_e j338_q (by omega)) (by omega) (by omega)
              exact w_lreturn rfl (k ((xoJ ((muJ ((xoJ ((muJ ((xoJ (x338_11) ((usJ (x338_11) (33))))) ((-4417276706812531889)))) ((usJ ((muJ ((xoJ (x338_11) ((usJ (x338_11) (33))))) ((-4417276706812531889)))) (29))))) (1609587929392839161))) ((usJ ((muJ ((xoJ ((muJ ((xoJ (x338_11) ((usJ (x338_11) (33))))) ((-4417276706812531889)))) ((usJ ((muJ ((xoJ (x338_11) ((usJ (x338_11) (33))))) ((-4417276706812531889)))) (29))))) (1609587929392839161))) (32))))) σ _ _ H (SF_trans (SF_trans (SF_trans (SF_trans (SF_trans (SF_refl) hS_c231 (any_sub rfl)) hS_244 (any_sub rfl)) hS25 (any_sub rfl)) hS32 (any_sub rfl)) hS_338 (any_sub rfl)) (SA_trans (SA_trans (SA_trans (SA_trans (SA_trans (SA_refl) hA_c231 (any_subA rfl)) hA_244 (any_subA rfl)) hA26 (any_subA rfl)) hA33 (any_subA rfl)) hA_338 (any_subA rfl)) (show inrJ ((xoJ ((muJ ((xoJ ((muJ ((xoJ (x338_11) ((usJ (x338_11) (33))))) ((-4417276706812531889)))) ((usJ ((muJ ((xoJ (x338_11) ((usJ (x338_11) (33))))) ((-4417276706812531889)))) (29))))) (1609587929392839161))) ((usJ ((muJ ((xoJ ((muJ ((xoJ (x338_11) ((usJ (x338_11) (33))))) ((-4417276706812531889)))) ((usJ ((muJ ((xoJ (x338_11) ((usJ (x338_11) (33))))) ((-4417276706812531889)))) (29))))) (1609587929392839161))) (32))))) by omega) (show ((xoJ ((muJ ((xoJ ((muJ ((xoJ (x338_11) ((usJ (x338_11) (33))))) ((-4417276706812531889)))) ((usJ ((muJ ((xoJ (x338_11) ((usJ (x338_11) (33))))) ((-4417276706812531889)))) (29))))) (1609587929392839161))) ((usJ ((muJ ((xoJ ((muJ ((xoJ (x338_11) ((usJ (x338_11) (33))))) ((-4417276706812531889)))) ((usJ ((muJ ((xoJ (x338_11) ((usJ (x338_11) (33))))) ((-4417276706812531889)))) (29))))) (1609587929392839161))) (32))))) = WDS ((w14)) 0 ((u1_1)) 0 by assumption))
            · refine Ew_of (pc' := 352) (fun _ => x_lload rfl l338_11) ?_
              refine Ew_of (pc' := 353) (fun _ => x_aload_n rfl l338_0) ?_
              refine w_gT H (o := 6) (t := 1) rfl (H.perm 6 rfl) rfl rfl rfl rfl rfl rfl ?_
              refine w_gT H (o := 1) (t := 14) rfl (H.perm 1 rfl) rfl rfl rfl rfl rfl rfl ?_
              refine Ew_of (pc' := 361) (fun _ => x_iload rfl l338_13) ?_
              refine w_lI H (o := 14) (n := 65536) rfl (H.perm 14 rfl) rfl rfl (H.fix 14 rfl rfl) (show 0 ≤ x338_13 ∧ x338_13 < ((65536 : Nat) : Int) by omega) (by decide) (fun v46 ev46 qv46 => ?_)
              have qv46 : (0 : Int) ≤ v46 ∧ v46 ≤ 255 := qv46
              have ev46 : (w14) (x338_13) = v46 := (congrFun ((funext (hA_338 14 rfl)).trans ((funext (hA33 14 rfl)).trans ((funext (hA26 14 rfl)).trans ((funext (hA_244 14 rfl)).trans ((funext (hA_c231 14 rfl)).trans (ew14)))))) (x338_13)).symm.trans ev46
              have hby := ev46
              refine w_i2l rfl (show inr (v46) by omega) ?_
              refine Ew_of (pc' := 365) (fun _ => x_lload rfl l338_9) ?_
              refine w_lmulE rfl ?_
              have g47 : inrJ (muJ (v46) (2870177450012600261)) := toJ_inr _
              refine w_lxorE rfl ?_
              have g48 : inrJ (xoJ (x338_11) ((muJ (v46) (2870177450012600261)))) := toJ_inr _
              refine Ew_of (pc' := 369) (fun _ => x_bipush (z := 11) rfl (by decide)) ?_
              refine w_stat24 rfl rfl (by rfl) (M451 H (show inrJ ((xoJ (x338_11) ((muJ (v46) (2870177450012600261))))) by omega) (show inr (11) by omega) (show 0 ≤ (11) ∧ (11) ≤ 64 by omega) (fun z53 σ F49 A50 H hS51 hA52 pz53_0 pz53_1 => ⟨rfl, ?_⟩))
              have r1_ := pz53_1
              refine Ew_of (pc' := 373) (fun _ => x_lload_n rfl l338_1) ?_
              refine w_lmulE rfl ?_
              have g54 : inrJ (muJ (z53) ((-7046029288634856825))) := toJ_inr _
              refine Ew_of (pc' := 376) (fun _ => x_lstore rfl) ?_
              refine Ew_of (pc' := 379) (fun _ => x_iinc (len := 3) rfl (rk2_o (l338_13) rfl rfl)) ?_
              refine Ew_of (pc' := 338) (fun _ => x_goto rfl rfl) ?_
              have : WRI1 ((w14)) ((u1_1) - (u1_1) % 32) ((u1_1)) (adJ (WTI ((w14)) 0 ((u1_1)) 0) ((u1_1))) (((x338_13 + 1))) (((muJ (z53) ((-7046029288634856825))))) := WRI1_s j338_q (by omega) (w1_r hby (by omega) r1_) (by omega)
              exact ih338 _ (by omega) _ σ _ _ ((muJ (z53) ((-7046029288634856825)))) ((x338_13 + 1)) (rk_o (rk2_o (l338_0) rfl rfl) rfl rfl) (rk_o (rk2_o (l338_1) rfl rfl) rfl rfl) (rk_o (rk2_o (l338_3) rfl rfl) rfl rfl) (rk_o (rk2_o (l338_5) rfl rfl) rfl rfl) (rk_o (rk2_o (l338_9) rfl rfl) rfl rfl) (rk_o (rk2_s) rfl rfl) (rk_s) H (SF_trans (hS_338) hS51 (any_sub rfl)) (SA_trans (hA_338) hA52 (any_subA rfl))   (show inrJ ((muJ (z53) ((-7046029288634856825)))) by omega) (show inr ((x338_13 + 1)) by omega) (show 0 ≤ ((x338_13 + 1)) ∧ ((x338_13 + 1)) ≤ (u1_1) by omega) (show WRI1 ((w14)) ((u1_1) - (u1_1) % 32) ((u1_1)) (adJ (WTI ((w14)) 0 ((u1_1)) 0) ((u1_1))) (((x338_13 + 1))) (((muJ (z53) ((-7046029288634856825))))) by assumption) rfl
      · refine Ew_of (pc' := 261) (fun _ => x_lload rfl l244_11) ?_
        refine Ew_of (pc' := 262) (fun _ => x_aload_n rfl l244_0) ?_
        refine Ew_of (pc' := 264) (fun _ => x_iload rfl l244_13) ?_
        refine Ew_of (pc' := 266) (fun _ => x_bipush (z := 8) rfl (by decide)) ?_
        refine w_inv H (o := 6) rfl rfl rfl (H.perm 6 rfl) rfl rfl (by rfl) (M452 H (w14) ((funext (hA_244 14 rfl)).trans ((funext (hA_c231 14 rfl)).trans (ew14))) (show inr (x244_13) by omega) (show inr (8) by omega) (show 0 ≤ (x244_13) ∧ 0 ≤ (8) ∧ (8) ≤ 8 ∧ (x244_13) + (8) ≤ 65536 by omega) (fun z59 σ F55 A56 H hS57 hA58 pz59_0 pz59_1 => ⟨rfl, ?_⟩))
        have m8_ := nmb_8 pz59_1 pz59_0
        refine Ew_of (pc' := 270) (fun _ => x_lload_n rfl l244_3) ?_
        refine w_lmulE rfl ?_
        have g60 : inrJ (muJ (z59) ((-4417276706812531889))) := toJ_inr _
        refine Ew_of (pc' := 273) (fun _ => x_bipush (z := 31) rfl (by decide)) ?_
        refine w_stat24 rfl rfl (by rfl) (M451 H (show inrJ ((muJ (z59) ((-4417276706812531889)))) by omega) (show inr (31) by omega) (show 0 ≤ (31) ∧ (31) ≤ 64 by omega) (fun z65 σ F61 A62 H hS63 hA64 pz65_0 pz65_1 => ⟨rfl, ?_⟩))
        have ra_ := pz65_1
        refine Ew_of (pc' := 277) (fun _ => x_lload_n rfl l244_1) ?_
        refine w_lmulE rfl ?_
        have g66 : inrJ (muJ (z65) ((-7046029288634856825))) := toJ_inr _
        refine w_lxorE rfl ?_
        have g67 : inrJ (xoJ (x244_11) ((muJ (z65) ((-7046029288634856825))))) := toJ_inr _
        refine Ew_of (pc' := 281) (fun _ => x_bipush (z := 27) rfl (by decide)) ?_
        refine w_stat24 rfl rfl (by rfl) (M451 H (show inrJ ((xoJ (x244_11) ((muJ (z65) ((-7046029288634856825)))))) by omega) (show inr (27) by omega) (show 0 ≤ (27) ∧ (27) ≤ 64 by omega) (fun z72 σ F68 A69 H hS70 hA71 pz72_0 pz72_1 => ⟨rfl, ?_⟩))
        have rb_ := pz72_1
        refine Ew_of (pc' := 285) (fun _ => x_lload_n rfl l244_1) ?_
        refine w_lmulE rfl ?_
        have g73 : inrJ (muJ (z72) ((-7046029288634856825))) := toJ_inr _
        refine Ew_of (pc' := 288) (fun _ => x_lload rfl l244_7) ?_
        refine w_laddE rfl ?_
        have g74 : inrJ (adJ ((muJ (z72) ((-7046029288634856825)))) ((-8796714831421723037))) := toJ_inr _
        refine Ew_of (pc' := 291) (fun _ => x_lstore rfl) ?_
        refine Ew_of (pc' := 294) (fun _ => x_iinc (len := 3) rfl (rk2_o (l244_13) rfl rfl)) ?_
        refine Ew_of (pc' := 244) (fun _ => x_goto rfl rfl) ?_
        have : WRI8 ((w14)) ((u1_1) - (u1_1) % 32) ((u1_1)) (adJ (WTI ((w14)) 0 ((u1_1)) 0) ((u1_1))) (((x244_13 + 8))) (((adJ ((muJ (z72) ((-7046029288634856825)))) ((-8796714831421723037))))) := WRI8_s j244_q (by omega) (w8_r m8_ ra_ rb_) (by omega)
        exact ih244 _ (by omega) _ σ _ _ ((adJ ((muJ (z72) ((-7046029288634856825)))) ((-8796714831421723037)))) ((x244_13 + 8)) (rk_o (rk2_o (l244_0) rfl rfl) rfl rfl) (rk_o (rk2_o (l244_1) rfl rfl) rfl rfl) (rk_o (rk2_o (l244_3) rfl rfl) rfl rfl) (rk_o (rk2_o (l244_5) rfl rfl) rfl rfl) (rk_o (rk2_o (l244_7) rfl rfl) rfl rfl) (rk_o (rk2_o (l244_9) rfl rfl) rfl rfl) (rk_o (rk2_s) rfl rfl) (rk_s) H (SF_trans (SF_trans (SF_trans (hS_244) hS57 (any_sub rfl)) hS63 (any_sub rfl)) hS70 (any_sub rfl)) (SA_trans (SA_trans (SA_trans (hA_244) hA58 (any_subA rfl)) hA64 (any_subA rfl)) hA71 (any_subA rfl))   (show inrJ ((adJ ((muJ (z72) ((-7046029288634856825)))) ((-8796714831421723037)))) by omega) (show inr ((x244_13 + 8)) by omega) (show 0 ≤ ((x244_13 + 8)) ∧ ((x244_13 + 8)) ≤ (u1_1) by omega) (show WRI8 ((w14)) ((u1_1) - (u1_1) % 32) ((u1_1)) (adJ (WTI ((w14)) 0 ((u1_1)) 0) ((u1_1))) (((x244_13 + 8))) (((adJ ((muJ (z72) ((-7046029288634856825)))) ((-8796714831421723037))))) by assumption) rfl
  refine Ew_of (pc' := 31) (fun _ => x_aload_n rfl (rk_o (rk2_o (rk2_o (rk2_o (rk2_o (rk2_o (rk2_o (rfl) rfl rfl) rfl rfl) rfl rfl) rfl rfl) rfl rfl) rfl rfl) rfl rfl)) ?_
  refine w_gT H (o := 6) (t := 1) rfl (H.perm 6 rfl) rfl rfl rfl rfl rfl rfl ?_
  refine w_gI H (o := 1) (w := u1_1) rfl (H.perm 1 rfl) rfl rfl rfl (fun _ => rfl) (eu1_1) ?_
  refine Ew_of (pc' := 39) (fun _ => x_bipush (z := 32) rfl (by decide)) ?_
  refine w_icmplt (t := 231) rfl rfl (show inr (u1_1) by omega) (show inr (32) by omega) (fun b75 => ?_) (fun b75 => ?_)
  · have : WS1 ((w14)) 0 ((u1_1)) 0 ((0)) ((2870177450012600261)) := by first | exact WS1_n (by omega) (by omega) (by omega) (by decide +kernel) | (obtain ⟨v0, v1, v2, v3, x0, x1, x2, x3, q0, q1, q2, q3, q4, q5, q6, q7, q8, q9⟩ := j193_q; exact WS1_a (by omega) (by omega) q0 q1 q2 q3 q4 q5 q6 q7 q8 (q9.trans (itl_0 (by omega))))
    exact hc231  _ σ _ _ (2870177450012600261) (0) (rk_o (rk2_o (rk2_o (rk2_o (rk2_o (rk2_o (rk2_o (rfl) rfl rfl) rfl rfl) rfl rfl) rfl rfl) rfl rfl) rfl rfl) rfl rfl) (rk_o (rk2_o (rk2_o (rk2_o (rk2_o (rk2_o (rk2_s) rfl rfl) rfl rfl) rfl rfl) rfl rfl) rfl rfl) rfl rfl) (rk_o (rk2_o (rk2_o (rk2_o (rk2_o (rk2_s) rfl rfl) rfl rfl) rfl rfl) rfl rfl) rfl rfl) (rk_o (rk2_o (rk2_o (rk2_o (rk2_s) rfl rfl) rfl rfl) rfl rfl) rfl rfl) (rk_o (rk2_o (rk2_o (rk2_s) rfl rfl) rfl rfl) rfl rfl) (rk_o (rk2_o (rk2_s) rfl rfl) rfl rfl) (rk_o (rk2_s) rfl rfl) (rk_s) H (SF_refl) (SA_refl)   (show inrJ (2870177450012600261) by omega) (show inr (0) by omega) (show 0 ≤ (0) ∧ (0) ≤ (u1_1) by omega) (show WS1 ((w14)) 0 ((u1_1)) 0 ((0)) ((2870177450012600261)) by assumption)
  · refine Ew_of (pc' := 43) (fun _ => x_aload_n rfl (rk_o (rk2_o (rk2_o (rk2_o (rk2_o (rk2_o (rk2_o (rfl) rfl rfl) rfl rfl) rfl rfl) rfl rfl) rfl rfl) rfl rfl) rfl rfl)) ?_
    refine w_gT H (o := 6) (t := 86) rfl (H.perm 6 rfl) rfl rfl rfl rfl rfl rfl ?_
    refine Ew_of (pc' := 47) (fun _ => x_iconst rfl) ?_
    refine Ew_of (pc' := 48) (fun _ => x_lload_n rfl (rk_o (rk2_o (rk2_o (rk2_o (rk2_o (rk2_o (rk2_s) rfl rfl) rfl rfl) rfl rfl) rfl rfl) rfl rfl) rfl rfl)) ?_
    refine Ew_of (pc' := 49) (fun _ => x_lload_n rfl (rk_o (rk2_o (rk2_o (rk2_o (rk2_o (rk2_s) rfl rfl) rfl rfl) rfl rfl) rfl rfl) rfl rfl)) ?_
    refine w_laddE rfl ?_
    have g76 : inrJ (adJ ((-7046029288634856825)) ((-4417276706812531889))) := toJ_inr _
    refine w_sJ H (o := 86) (n := 4) rfl (H.perm 86 rfl) rfl rfl (H.fix 86 rfl rfl) (show 0 ≤ 0 ∧ 0 < ((4 : Nat) : Int) by omega) (by decide) (show (-9223372036854775808 : Int) ≤ (adJ ((-7046029288634856825)) ((-4417276706812531889))) ∧ (adJ ((-7046029288634856825)) ((-4417276706812531889))) ≤ 9223372036854775807 by omega) (fun σ H => ?_)
    refine Ew_of (pc' := 52) (fun _ => x_aload_n rfl (rk_o (rk2_o (rk2_o (rk2_o (rk2_o (rk2_o (rk2_o (rfl) rfl rfl) rfl rfl) rfl rfl) rfl rfl) rfl rfl) rfl rfl) rfl rfl)) ?_
    refine w_gT H (o := 6) (t := 86) rfl (H.perm 6 rfl) rfl rfl rfl rfl rfl rfl ?_
    refine Ew_of (pc' := 56) (fun _ => x_iconst rfl) ?_
    refine Ew_of (pc' := 57) (fun _ => x_lload_n rfl (rk_o (rk2_o (rk2_o (rk2_o (rk2_o (rk2_s) rfl rfl) rfl rfl) rfl rfl) rfl rfl) rfl rfl)) ?_
    refine w_sJ H (o := 86) (n := 4) rfl (H.perm 86 rfl) rfl rfl (H.fix 86 rfl rfl) (show 0 ≤ 1 ∧ 1 < ((4 : Nat) : Int) by omega) (by decide) (show (-9223372036854775808 : Int) ≤ (-4417276706812531889) ∧ (-4417276706812531889) ≤ 9223372036854775807 by omega) (fun σ H => ?_)
    refine Ew_of (pc' := 59) (fun _ => x_aload_n rfl (rk_o (rk2_o (rk2_o (rk2_o (rk2_o (rk2_o (rk2_o (rfl) rfl rfl) rfl rfl) rfl rfl) rfl rfl) rfl rfl) rfl rfl) rfl rfl)) ?_
    refine w_gT H (o := 6) (t := 86) rfl (H.perm 6 rfl) rfl rfl rfl rfl rfl rfl ?_
    refine Ew_of (pc' := 63) (fun _ => x_iconst rfl) ?_
    refine Ew_of (pc' := 64) (fun _ => x_lconst (z := 0) rfl (by decide)) ?_
    refine w_sJ H (o := 86) (n := 4) rfl (H.perm 86 rfl) rfl rfl (H.fix 86 rfl rfl) (show 0 ≤ 2 ∧ 2 < ((4 : Nat) : Int) by omega) (by decide) (show (-9223372036854775808 : Int) ≤ 0 ∧ 0 ≤ 9223372036854775807 by omega) (fun σ H => ?_)
    refine Ew_of (pc' := 66) (fun _ => x_aload_n rfl (rk_o (rk2_o (rk2_o (rk2_o (rk2_o (rk2_o (rk2_o (rfl) rfl rfl) rfl rfl) rfl rfl) rfl rfl) rfl rfl) rfl rfl) rfl rfl)) ?_
    refine w_gT H (o := 6) (t := 86) rfl (H.perm 6 rfl) rfl rfl rfl rfl rfl rfl ?_
    refine Ew_of (pc' := 70) (fun _ => x_iconst rfl) ?_
    refine Ew_of (pc' := 71) (fun _ => x_lconst (z := 0) rfl (by decide)) ?_
    refine Ew_of (pc' := 72) (fun _ => x_lload_n rfl (rk_o (rk2_o (rk2_o (rk2_o (rk2_o (rk2_o (rk2_s) rfl rfl) rfl rfl) rfl rfl) rfl rfl) rfl rfl) rfl rfl)) ?_
    refine w_lsubE rfl ?_
    have g77 : inrJ (sbJ (0) ((-7046029288634856825))) := toJ_inr _
    refine w_sJ H (o := 86) (n := 4) rfl (H.perm 86 rfl) rfl rfl (H.fix 86 rfl rfl) (show 0 ≤ 3 ∧ 3 < ((4 : Nat) : Int) by omega) (by decide) (show (-9223372036854775808 : Int) ≤ (sbJ (0) ((-7046029288634856825))) ∧ (sbJ (0) ((-7046029288634856825))) ≤ 9223372036854775807 by omega) (fun σ H => ?_)
    have : LWA ((w14)) 0 ((u1_1)) (0) (0) ((upd1 (upd1 (upd1 (upd1 (A 86) (0) ((adJ ((-7046029288634856825)) ((-4417276706812531889))))) (1) ((-4417276706812531889))) (2) (0)) (3) ((sbJ (0) ((-7046029288634856825)))))) := LWA_i rfl (by decide +kernel) (by decide +kernel) (by decide +kernel) (by decide +kernel)
    suffices hl74 : ∀ (m : Nat), ∀ (ls : rO) (σ : rS) (F_74 : hF) (A_74 : hA) (x74_13 : Int), rlook ls 0 = some (.ref (D 6)) → rlook ls 1 = some (J ((-7046029288634856825))) → rlook ls 3 = some (J ((-4417276706812531889))) → rlook ls 5 = some (J (1609587929392839161)) → rlook ls 7 = some (J ((-8796714831421723037))) → rlook ls 9 = some (J (2870177450012600261)) → rlook ls 13 = some (I (x74_13)) → HS σ0 σ D N F_74 A_74 → SF [] F F_74 → SA [86] (updA (updA (updA (updA A 86 (0) ((adJ ((-7046029288634856825)) ((-4417276706812531889))))) 86 (1) ((-4417276706812531889))) 86 (2) (0)) 86 (3) ((sbJ (0) ((-7046029288634856825))))) A_74 → ∀ w74_86 : Int → Int, A_74 86 = w74_86 → (inr (x74_13)) → (0 ≤ (x74_13) ∧ (x74_13) ≤ (u1_1)) → ((x74_13) % 32 = 0) → (LWA ((w14)) 0 ((u1_1)) ((x74_13)) (0) ((w74_86))) → ((u1_1) - (x74_13)).toNat = m → Ew 453 (d + 1) 74 ls [] σ c s Q from
      hl74 _ _ σ _ _ (0) (rk_o (rk2_o (rk2_o (rk2_o (rk2_o (rk2_o (rk2_o (rfl) rfl rfl) rfl rfl) rfl rfl) rfl rfl) rfl rfl) rfl rfl) rfl rfl) (rk_o (rk2_o (rk2_o (rk2_o (rk2_o (rk2_o (rk2_s) rfl rfl) rfl rfl) rfl rfl) rfl rfl) rfl rfl) rfl rfl) (rk_o (rk2_o (rk2_o (rk2_o (rk2_o (rk2_s) rfl rfl) rfl rfl) rfl rfl) rfl rfl) rfl rfl) (rk_o (rk2_o (rk2_o (rk2_o (rk2_s) rfl rfl) rfl rfl) rfl rfl) rfl rfl) (rk_o (rk2_o (rk2_o (rk2_s) rfl rfl) rfl rfl) rfl rfl) (rk_o (rk2_o (rk2_s) rfl rfl) rfl rfl) (rk_s) H (SF_refl) (SA_refl)  (upd1 (upd1 (upd1 (upd1 (A 86) (0) ((adJ ((-7046029288634856825)) ((-4417276706812531889))))) (1) ((-4417276706812531889))) (2) (0)) (3) ((sbJ (0) ((-7046029288634856825))))) (rfl) (show inr (0) by omega) (show 0 ≤ (0) ∧ (0) ≤ (u1_1) by omega) (show (0) % 32 = 0 by omega) (show LWA ((w14)) 0 ((u1_1)) ((0)) (0) ((upd1 (upd1 (upd1 (upd1 (A 86) (0) ((adJ ((-7046029288634856825)) ((-4417276706812531889))))) (1) ((-4417276706812531889))) (2) (0)) (3) ((sbJ (0) ((-7046029288634856825)))))) by assumption) rfl
    as_aux_lemma =>
    intro m
    induction m using Nat.strongRecOn with
    | _ m ih74 =>
      intro ls σ F_74 A_74 x74_13 l74_0 l74_1 l74_3 l74_5 l74_7 l74_9 l74_13 H hS_74 hA_74  w74_86 ew74_86 j74_0 j74_1 j74_2 j74_3 hm74
      have j74_q : LWA ((w14)) 0 ((u1_1)) ((x74_13)) (0) ((w74_86)) := by assumption
      refine Ew_of (pc' := 75) (fun _ => x_aload_n rfl l74_0) ?_
      refine w_gT H (o := 6) (t := 1) rfl (H.perm 6 rfl) rfl rfl rfl rfl rfl rfl ?_
      refine w_gI H (o := 1) (w := u1_1) rfl (H.perm 1 rfl) rfl rfl rfl (fun _ => rfl) ((hS_74 1 1 rfl).trans (eu1_1)) ?_
      refine Ew_of (pc' := 83) (fun _ => x_iload rfl l74_13) ?_
      refine w_isub rfl ?_
      refine Ew_of (pc' := 86) (fun _ => x_bipush (z := 32) rfl (by decide)) ?_
      refine w_icmplt (t := 142) rfl rfl (show inr ((u1_1 - x74_13)) by omega) (show inr (32) by omega) (fun b78 => ?_) (fun b78 => ?_)
      · refine Ew_of (pc' := 143) (fun _ => x_aload_n rfl l74_0) ?_
        refine w_gT H (o := 6) (t := 86) rfl (H.perm 6 rfl) rfl rfl rfl rfl rfl rfl ?_
        refine Ew_of (pc' := 147) (fun _ => x_iconst rfl) ?_
        refine w_lJ H (o := 86) (n := 4) rfl (H.perm 86 rfl) rfl rfl (H.fix 86 rfl rfl) (show 0 ≤ 0 ∧ 0 < ((4 : Nat) : Int) by omega) (by decide) (fun v79 ev79 qv79 => ?_)
        have qv79 : (-9223372036854775808 : Int) ≤ v79 ∧ v79 ≤ 9223372036854775807 := qv79
        have ev79 : (w74_86) (0) = v79 := (congrFun (ew74_86) (0)).symm.trans ev79
        have a0_ := ev79
        refine Ew_of (pc' := 149) (fun _ => x_iconst rfl) ?_
        refine w_stat24 rfl rfl (by rfl) (M451 H (show inrJ (v79) by omega) (show inr (1) by omega) (show 0 ≤ (1) ∧ (1) ≤ 64 by omega) (fun z84 σ F80 A81 H hS82 hA83 pz84_0 pz84_1 => ⟨rfl, ?_⟩))
        have b0_ := pz84_1
        refine Ew_of (pc' := 153) (fun _ => x_aload_n rfl l74_0) ?_
        refine w_gT H (o := 6) (t := 86) rfl (H.perm 6 rfl) rfl rfl rfl rfl rfl rfl ?_
        refine Ew_of (pc' := 157) (fun _ => x_iconst rfl) ?_
        refine w_lJ H (o := 86) (n := 4) rfl (H.perm 86 rfl) rfl rfl (H.fix 86 rfl rfl) (show 0 ≤ 1 ∧ 1 < ((4 : Nat) : Int) by omega) (by decide) (fun v85 ev85 qv85 => ?_)
        have qv85 : (-9223372036854775808 : Int) ≤ v85 ∧ v85 ≤ 9223372036854775807 := qv85
        have ev85 : (w74_86) (1) = v85 := (congrFun ((funext (hA83 86 rfl)).trans (ew74_86)) (1)).symm.trans ev85
        have a1_ := ev85
        refine Ew_of (pc' := 160) (fun _ => x_bipush (z := 7) rfl (by decide)) ?_
        refine w_stat24 rfl rfl (by rfl) (M451 H (show inrJ (v85) by omega) (show inr (7) by omega) (show 0 ≤ (7) ∧ (7) ≤ 64 by omega) (fun z90 σ F86 A87 H hS88 hA89 pz90_0 pz90_1 => ⟨rfl, ?_⟩))
        have b1_ := pz90_1
        refine w_laddE rfl ?_
        have g91 : inrJ (adJ (z84) (z90)) := toJ_inr _
        refine Ew_of (pc' := 165) (fun _ => x_aload_n rfl l74_0) ?_
        refine w_gT H (o := 6) (t := 86) rfl (H.perm 6 rfl) rfl rfl rfl rfl rfl rfl ?_
        refine Ew_of (pc' := 169) (fun _ => x_iconst rfl) ?_
        refine w_lJ H (o := 86) (n := 4) rfl (H.perm 86 rfl) rfl rfl (H.fix 86 rfl rfl) (show 0 ≤ 2 ∧ 2 < ((4 : Nat) : Int) by omega) (by decide) (fun v92 ev92 qv92 => ?_)
        have qv92 : (-9223372036854775808 : Int) ≤ v92 ∧ v92 ≤ 9223372036854775807 := qv92
        have ev92 : (w74_86) (2) = v92 := (congrFun ((funext (hA89 86 rfl)).trans ((funext (hA83 86 rfl)).trans (ew74_86))) (2)).symm.trans ev92
        have a2_ := ev92
        refine Ew_of (pc' := 172) (fun _ => x_bipush (z := 12) rfl (by decide)) ?_
        refine w_stat24 rfl rfl (by rfl) (M451 H (show inrJ (v92) by omega) (show inr (12) by omega) (show 0 ≤ (12) ∧ (12) ≤ 64 by omega) (fun z97 σ F93 A94 H hS95 hA96 pz97_0 pz97_1 => ⟨rfl, ?_⟩))
        have b2_ := pz97_1
        refine w_laddE rfl ?_
        have g98 : inrJ (adJ ((adJ (z84) (z90))) (z97)) := toJ_inr _
        refine Ew_of (pc' := 177) (fun _ => x_aload_n rfl l74_0) ?_
        refine w_gT H (o := 6) (t := 86) rfl (H.perm 6 rfl) rfl rfl rfl rfl rfl rfl ?_
        refine Ew_of (pc' := 181) (fun _ => x_iconst rfl) ?_
        refine w_lJ H (o := 86) (n := 4) rfl (H.perm 86 rfl) rfl rfl (H.fix 86 rfl rfl) (show 0 ≤ 3 ∧ 3 < ((4 : Nat) : Int) by omega) (by decide) (fun v99 ev99 qv99 => ?_)
        have qv99 : (-9223372036854775808 : Int) ≤ v99 ∧ v99 ≤ 9223372036854775807 := qv99
        have ev99 : (w74_86) (3) = v99 := (congrFun ((funext (hA96 86 rfl)).trans ((funext (hA89 86 rfl)).trans ((funext (hA83 86 rfl)).trans (ew74_86)))) (3)).symm.trans ev99
        have a3_ := ev99
        refine Ew_of (pc' := 184) (fun _ => x_bipush (z := 18) rfl (by decide)) ?_
        refine w_stat24 rfl rfl (by rfl) (M451 H (show inrJ (v99) by omega) (show inr (18) by omega) (show 0 ≤ (18) ∧ (18) ≤ 64 by omega) (fun z104 σ F100 A101 H hS102 hA103 pz104_0 pz104_1 => ⟨rfl, ?_⟩))
        have b3_ := pz104_1
        refine w_laddE rfl ?_
        have g105 : inrJ (adJ ((adJ ((adJ (z84) (z90))) (z97))) (z104)) := toJ_inr _
        refine Ew_of (pc' := 190) (fun _ => x_lstore rfl) ?_
        refine Ew_of (pc' := 191) (fun _ => x_iconst rfl) ?_
        refine Ew_of (pc' := 193) (fun _ => x_istore rfl) ?_
        have : ∃ v0 v1 v2 v3 xr0 xr1 xr2 xr3, LWA ((w14)) 0 ((u1_1)) ((x74_13)) 0 ((w74_86)) ∧ ((w74_86)) 0 = v0 ∧ ((w74_86)) 1 = v1 ∧ ((w74_86)) 2 = v2 ∧ ((w74_86)) 3 = v3 ∧ xr0 = rtJ v0 1 ∧ xr1 = rtJ v1 7 ∧ xr2 = rtJ v2 12 ∧ xr3 = rtJ v3 18 ∧ itl (fun l p => wj l (((w74_86)) p)) 1 0 4 (adJ (adJ (adJ xr0 xr1) xr2) xr3) = itl (fun l p => wj l (((w74_86)) p)) 1 (0) (4 - 0 : Int).toNat (((adJ ((adJ ((adJ (z84) (z90))) (z97))) (z104)))) := ⟨_, _, _, _, _, _, _, _, j74_q, a0_, a1_, a2_, a3_, b0_, b1_, b2_, b3_, by rw [show ((4 : Int) - 0).toNat = 4 from rfl]⟩
        suffices hl193 : ∀ (m : Nat), ∀ (ls : rO) (σ : rS) (F_193 : hF) (A_193 : hA) (x193_11 : Int) (x193_14 : Int), rlook ls 0 = some (.ref (D 6)) → rlook ls 1 = some (J ((-7046029288634856825))) → rlook ls 3 = some (J ((-4417276706812531889))) → rlook ls 5 = some (J (1609587929392839161)) → rlook ls 7 = some (J ((-8796714831421723037))) → rlook ls 9 = some (J (2870177450012600261)) → rlook ls 11 = some (J (x193_11)) → rlook ls 13 = some (I (x74_13)) → rlook ls 14 = some (I (x193_14)) → HS σ0 σ D N F_193 A_193 → SF [] F100 F_193 → SA [] A101 A_193 → (inrJ (x193_11)) → (inr (x193_14)) → ((0) ≤ (x193_14)) → ((x193_14) ≤ (0) ∨ (x193_14) ≤ (4)) → (∃ v0 v1 v2 v3 xr0 xr1 xr2 xr3, LWA ((w14)) 0 ((u1_1)) ((x74_13)) 0 ((w74_86)) ∧ ((w74_86)) 0 = v0 ∧ ((w74_86)) 1 = v1 ∧ ((w74_86)) 2 = v2 ∧ ((w74_86)) 3 = v3 ∧ xr0 = rtJ v0 1 ∧ xr1 = rtJ v1 7 ∧ xr2 = rtJ v2 12 ∧ xr3 = rtJ v3 18 ∧ itl (fun l p => wj l (((w74_86)) p)) 1 0 4 (adJ (adJ (adJ xr0 xr1) xr2) xr3) = itl (fun l p => wj l (((w74_86)) p)) 1 ((x193_14)) (4 - (x193_14) : Int).toNat ((x193_11))) → ((4) - (x193_14)).toNat = m → Ew 453 (d + 1) 193 ls [] σ c s Q from
          hl193 _ _ σ _ _ ((adJ ((adJ ((adJ (z84) (z90))) (z97))) (z104))) (0) (rk_o (rk2_o (l74_0) rfl rfl) rfl rfl) (rk_o (rk2_o (l74_1) rfl rfl) rfl rfl) (rk_o (rk2_o (l74_3) rfl rfl) rfl rfl) (rk_o (rk2_o (l74_5) rfl rfl) rfl rfl) (rk_o (rk2_o (l74_7) rfl rfl) rfl rfl) (rk_o (rk2_o (l74_9) rfl rfl) rfl rfl) (rk_o (rk2_s) rfl rfl) (rk_o (rk2_o (l74_13) rfl rfl) rfl rfl) (rk_s) H (SF_refl) (SA_refl)   (show inrJ ((adJ ((adJ ((adJ (z84) (z90))) (z97))) (z104))) by omega) (show inr (0) by omega) (show (0) ≤ (0) by omega) (show (0) ≤ (0) ∨ (0) ≤ (4) by omega) (show ∃ v0 v1 v2 v3 xr0 xr1 xr2 xr3, LWA ((w14)) 0 ((u1_1)) ((x74_13)) 0 ((w74_86)) ∧ ((w74_86)) 0 = v0 ∧ ((w74_86)) 1 = v1 ∧ ((w74_86)) 2 = v2 ∧ ((w74_86)) 3 = v3 ∧ xr0 = rtJ v0 1 ∧ xr1 = rtJ v1 7 ∧ xr2 = rtJ v2 12 ∧ xr3 = rtJ v3 18 ∧ itl (fun l p => wj l (((w74_86)) p)) 1 0 4 (adJ (adJ (adJ xr0 xr1) xr2) xr3) = itl (fun l p => wj l (((w74_86)) p)) 1 ((0)) (4 - (0) : Int).toNat (((adJ ((adJ ((adJ (z84) (z90))) (z97))) (z104)))) by assumption) rfl
        as_aux_lemma =>
        intro m
        induction m using Nat.strongRecOn with
        | _ m ih193 =>
          intro ls σ F_193 A_193 x193_11 x193_14 l193_0 l193_1 l193_3 l193_5 l193_7 l193_9 l193_11 l193_13 l193_14 H hS_193 hA_193   j193_0 j193_1 j193_2 j193_3 j193_4 hm193
          have j193_q : ∃ v0 v1 v2 v3 xr0 xr1 xr2 xr3, LWA ((w14)) 0 ((u1_1)) ((x74_13)) 0 ((w74_86)) ∧ ((w74_86)) 0 = v0 ∧ ((w74_86)) 1 = v1 ∧ ((w74_86)) 2 = v2 ∧ ((w74_86)) 3 = v3 ∧ xr0 = rtJ v0 1 ∧ xr1 = rtJ v1 7 ∧ xr2 = rtJ v2 12 ∧ xr3 = rtJ v3 18 ∧ itl (fun l p => wj l (((w74_86)) p)) 1 0 4 (adJ (adJ (adJ xr0 xr1) xr2) xr3) = itl (fun l p => wj l (((w74_86)) p)) 1 ((x193_14)) (4 - (x193_14) : Int).toNat ((x193_11)) := by assumption
          refine Ew_of (pc' := 195) (fun _ => x_iload rfl l193_14) ?_
          refine Ew_of (pc' := 196) (fun _ => x_iconst rfl) ?_
          refine w_icmpge (t := 231) rfl rfl (show inr (x193_14) by omega) (show inr (4) by omega) (fun b106 => ?_) (fun b106 => ?_)
          · have : WS1 ((w14)) 0 ((u1_1)) 0 ((x74_13)) ((x193_11)) := by first | exact WS1_n (by omega) (by omega) (by omega) (by decide +kernel) | (obtain ⟨v0, v1, v2, v3, x0, x1, x2, x3, q0, q1, q2, q3, q4, q5, q6, q7, q8, q9⟩ := j193_q; exact WS1_a (by omega) (by omega) q0 q1 q2 q3 q4 q5 q6 q7 q8 (q9.trans (itl_0 (by omega))))
            exact hc231  _ σ _ _ (x193_11) (x74_13) (l193_0) (l193_1) (l193_3) (l193_5) (l193_7) (l193_9) (l193_11) (l193_13) H (SF_trans (SF_trans (SF_trans (SF_trans (SF_trans (SF_trans (SF_refl) hS_74 (any_sub rfl)) hS82 (any_sub rfl)) hS88 (any_sub rfl)) hS95 (any_sub rfl)) hS102 (any_sub rfl)) hS_193 (any_sub rfl)) (SA_trans (SA_trans (SA_trans (SA_trans (SA_trans (SA_trans (SA_upd (SA_upd (SA_upd (SA_upd (SA_refl) rfl) rfl) rfl) rfl) hA_74 (any_subA rfl)) hA83 (any_subA rfl)) hA89 (any_subA rfl)) hA96 (any_subA rfl)) hA103 (any_subA rfl)) hA_193 (any_subA rfl))   (show inrJ (x193_11) by omega) (show inr (x74_13) by omega) (show 0 ≤ (x74_13) ∧ (x74_13) ≤ (u1_1) by omega) (show WS1 ((w14)) 0 ((u1_1)) 0 ((x74_13)) ((x193_11)) by assumption)
          · refine Ew_of (pc' := 201) (fun _ => x_lload rfl l193_11) ?_
            refine Ew_of (pc' := 202) (fun _ => x_aload_n rfl l193_0) ?_
            refine w_gT H (o := 6) (t := 86) rfl (H.perm 6 rfl) rfl rfl rfl rfl rfl rfl ?_
            refine Ew_of (pc' := 207) (fun _ => x_iload rfl l193_14) ?_
            refine w_lJ H (o := 86) (n := 4) rfl (H.perm 86 rfl) rfl rfl (H.fix 86 rfl rfl) (show 0 ≤ x193_14 ∧ x193_14 < ((4 : Nat) : Int) by omega) (by decide) (fun v107 ev107 qv107 => ?_)
            have qv107 : (-9223372036854775808 : Int) ≤ v107 ∧ v107 ≤ 9223372036854775807 := qv107
            have ev107 : (w74_86) (x193_14) = v107 := (congrFun ((funext (hA_193 86 rfl)).trans ((funext (hA103 86 rfl)).trans ((funext (hA96 86 rfl)).trans ((funext (hA89 86 rfl)).trans ((funext (hA83 86 rfl)).trans (ew74_86)))))) (x193_14)).symm.trans ev107
            have hlw := ev107
            refine Ew_of (pc' := 209) (fun _ => x_lload_n rfl l193_3) ?_
            refine w_lmulE rfl ?_
            have g108 : inrJ (muJ (v107) ((-4417276706812531889))) := toJ_inr _
            refine Ew_of (pc' := 212) (fun _ => x_bipush (z := 31) rfl (by decide)) ?_
            refine w_stat24 rfl rfl (by rfl) (M451 H (show inrJ ((muJ (v107) ((-4417276706812531889)))) by omega) (show inr (31) by omega) (show 0 ≤ (31) ∧ (31) ≤ 64 by omega) (fun z113 σ F109 A110 H hS111 hA112 pz113_0 pz113_1 => ⟨rfl, ?_⟩))
            have rj_ := pz113_1
            refine Ew_of (pc' := 216) (fun _ => x_lload_n rfl l193_1) ?_
            refine w_lmulE rfl ?_
            have g114 : inrJ (muJ (z113) ((-7046029288634856825))) := toJ_inr _
            refine w_lxorE rfl ?_
            have g115 : inrJ (xoJ (x193_11) ((muJ (z113) ((-7046029288634856825))))) := toJ_inr _
            refine Ew_of (pc' := 219) (fun _ => x_lload_n rfl l193_1) ?_
            refine w_lmulE rfl ?_
            have g116 : inrJ (muJ ((xoJ (x193_11) ((muJ (z113) ((-7046029288634856825)))))) ((-7046029288634856825))) := toJ_inr _
            refine Ew_of (pc' := 222) (fun _ => x_lload rfl l193_7) ?_
            refine w_laddE rfl ?_
            have g117 : inrJ (adJ ((muJ ((xoJ (x193_11) ((muJ (z113) ((-7046029288634856825)))))) ((-7046029288634856825)))) ((-8796714831421723037))) := toJ_inr _
            refine Ew_of (pc' := 225) (fun _ => x_lstore rfl) ?_
            refine Ew_of (pc' := 228) (fun _ => x_iinc (len := 3) rfl (rk2_o (l193_14) rfl rfl)) ?_
            refine Ew_of (pc' := 193) (fun _ => x_goto rfl rfl) ?_
            have : ∃ v0 v1 v2 v3 xr0 xr1 xr2 xr3, LWA ((w14)) 0 ((u1_1)) ((x74_13)) 0 ((w74_86)) ∧ ((w74_86)) 0 = v0 ∧ ((w74_86)) 1 = v1 ∧ ((w74_86)) 2 = v2 ∧ ((w74_86)) 3 = v3 ∧ xr0 = rtJ v0 1 ∧ xr1 = rtJ v1 7 ∧ xr2 = rtJ v2 12 ∧ xr3 = rtJ v3 18 ∧ itl (fun l p => wj l (((w74_86)) p)) 1 0 4 (adJ (adJ (adJ xr0 xr1) xr2) xr3) = itl (fun l p => wj l (((w74_86)) p)) 1 (((x193_14 + 1))) (4 - ((x193_14 + 1)) : Int).toNat (((adJ ((muJ ((xoJ (x193_11) ((muJ (z113) ((-7046029288634856825)))))) ((-7046029288634856825)))) ((-8796714831421723037))))) := by obtain ⟨v0, v1, v2, v3, x0, x1, x2, x3, q0, q1, q2, q3, q4, q5, q6, q7, q8, q9⟩ := j193_q; exact ⟨v0, v1, v2, v3, x0, x1, x2, x3, q0, q1, q2, q3, q4, q5, q6, q7, q8, q9.trans (itl_s (by omega) (by rw [wj_r rj_, hlw]) (by omega))⟩
            exact ih193 _ (by omega) _ σ _ _ ((adJ ((muJ ((xoJ (x193_11) ((muJ (z113) ((-7046029288634856825)))))) ((-7046029288634856825)))) ((-8796714831421723037)))) ((x193_14 + 1)) (rk_o (rk2_o (l193_0) rfl rfl) rfl rfl) (rk_o (rk2_o (l193_1) rfl rfl) rfl rfl) (rk_o (rk2_o (l193_3) rfl rfl) rfl rfl) (rk_o (rk2_o (l193_5) rfl rfl) rfl rfl) (rk_o (rk2_o (l193_7) rfl rfl) rfl rfl) (rk_o (rk2_o (l193_9) rfl rfl) rfl rfl) (rk_o (rk2_s) rfl rfl) (rk_o (rk2_o (l193_13) rfl rfl) rfl rfl) (rk_s) H (SF_trans (hS_193) hS111 (any_sub rfl)) (SA_trans (hA_193) hA112 (any_subA rfl))   (show inrJ ((adJ ((muJ ((xoJ (x193_11) ((muJ (z113) ((-7046029288634856825)))))) ((-7046029288634856825)))) ((-8796714831421723037)))) by omega) (show inr ((x193_14 + 1)) by omega) (show (0) ≤ ((x193_14 + 1)) by omega) (show ((x193_14 + 1)) ≤ (0) ∨ ((x193_14 + 1)) ≤ (4) by omega) (show ∃ v0 v1 v2 v3 xr0 xr1 xr2 xr3, LWA ((w14)) 0 ((u1_1)) ((x74_13)) 0 ((w74_86)) ∧ ((w74_86)) 0 = v0 ∧ ((w74_86)) 1 = v1 ∧ ((w74_86)) 2 = v2 ∧ ((w74_86)) 3 = v3 ∧ xr0 = rtJ v0 1 ∧ xr1 = rtJ v1 7 ∧ xr2 = rtJ v2 12 ∧ xr3 = rtJ v3 18 ∧ itl (fun l p => wj l (((w74_86)) p)) 1 0 4 (adJ (adJ (adJ xr0 xr1) xr2) xr3) = itl (fun l p => wj l (((w74_86)) p)) 1 (((x193_14 + 1))) (4 - ((x193_14 + 1)) : Int).toNat (((adJ ((muJ ((xoJ (x193_11) ((muJ (z113) ((-7046029288634856825)))))) ((-7046029288634856825)))) ((-8796714831421723037))))) by assumption) rfl
      · refine Ew_of (pc' := 90) (fun _ => x_iconst rfl) ?_
        refine Ew_of (pc' := 92) (fun _ => x_istore rfl) ?_
        have : LWA ((w14)) 0 ((u1_1)) ((x74_13) - 8 * 0) (0) ((w74_86)) := by rw [show (x74_13) - 8 * 0 = (x74_13) by omega]; exact j74_q
        suffices hl92 : ∀ (m : Nat), ∀ (ls : rO) (σ : rS) (F_92 : hF) (A_92 : hA) (x92_13 : Int) (x92_14 : Int), rlook ls 0 = some (.ref (D 6)) → rlook ls 1 = some (J ((-7046029288634856825))) → rlook ls 3 = some (J ((-4417276706812531889))) → rlook ls 5 = some (J (1609587929392839161)) → rlook ls 7 = some (J ((-8796714831421723037))) → rlook ls 9 = some (J (2870177450012600261)) → rlook ls 13 = some (I (x92_13)) → rlook ls 14 = some (I (x92_14)) → HS σ0 σ D N F_92 A_92 → SF [] F_74 F_92 → SA [86] A_74 A_92 → ∀ w92_86 : Int → Int, A_92 86 = w92_86 → (inr (x92_13)) → (inr (x92_14)) → ((0) ≤ (x92_14)) → ((x92_14) ≤ (0) ∨ (x92_14) ≤ (4)) → ((x92_13) = (x74_13) + 8 * (x92_14)) → (LWA ((w14)) 0 ((u1_1)) ((x92_13) - 8 * (x92_14)) ((x92_14)) ((w92_86))) → ((4) - (x92_14)).toNat = m → Ew 453 (d + 1) 92 ls [] σ c s Q from
          hl92 _ _ σ _ _ (x74_13) (0) (rk_o (l74_0) rfl rfl) (rk_o (l74_1) rfl rfl) (rk_o (l74_3) rfl rfl) (rk_o (l74_5) rfl rfl) (rk_o (l74_7) rfl rfl) (rk_o (l74_9) rfl rfl) (rk_o (l74_13) rfl rfl) (rk_s) H (SF_refl) (SA_refl)  (w74_86) (ew74_86) (show inr (x74_13) by omega) (show inr (0) by omega) (show (0) ≤ (0) by omega) (show (0) ≤ (0) ∨ (0) ≤ (4) by omega) (show (x74_13) = (x74_13) + 8 * (0) by omega) (show LWA ((w14)) 0 ((u1_1)) ((x74_13) - 8 * (0)) ((0)) ((w74_86)) by assumption) rfl
        as_aux_lemma =>
        intro m
        induction m using Nat.strongRecOn with
        | _ m ih92 =>
          intro ls σ F_92 A_92 x92_13 x92_14 l92_0 l92_1 l92_3 l92_5 l92_7 l92_9 l92_13 l92_14 H hS_92 hA_92  w92_86 ew92_86 j92_0 j92_1 j92_2 j92_3 j92_4 j92_5 hm92
          have j92_q : LWA ((w14)) 0 ((u1_1)) ((x92_13) - 8 * (x92_14)) ((x92_14)) ((w92_86)) := by assumption
          refine Ew_of (pc' := 94) (fun _ => x_iload rfl l92_14) ?_
          refine Ew_of (pc' := 95) (fun _ => x_iconst rfl) ?_
          refine w_icmpge (t := 139) rfl rfl (show inr (x92_14) by omega) (show inr (4) by omega) (fun b118 => ?_) (fun b118 => ?_)
          · refine Ew_of (pc' := 74) (fun _ => x_goto rfl rfl) ?_
            have : LWA ((w14)) 0 ((u1_1)) ((x92_13)) (0) ((w92_86)) := LWA_e j92_q (by omega) (by omega)
            exact ih74 _ (by omega) _ σ _ _ (x92_13) (l92_0) (l92_1) (l92_3) (l92_5) (l92_7) (l92_9) (l92_13) H (SF_trans (hS_74) hS_92 (any_sub rfl)) (SA_trans (hA_74) hA_92 (any_subA rfl))  (w92_86) (ew92_86) (show inr (x92_13) by omega) (show 0 ≤ (x92_13) ∧ (x92_13) ≤ (u1_1) by omega) (show (x92_13) % 32 = 0 by omega) (show LWA ((w14)) 0 ((u1_1)) ((x92_13)) (0) ((w92_86)) by assumption) rfl
          · refine Ew_of (pc' := 99) (fun _ => x_aload_n rfl l92_0) ?_
            refine w_gT H (o := 6) (t := 86) rfl (H.perm 6 rfl) rfl rfl rfl rfl rfl rfl ?_
            refine Ew_of (pc' := 104) (fun _ => x_iload rfl l92_14) ?_
            refine Ew_of (pc' := 105) (fun _ => x_aload_n rfl l92_0) ?_
            refine w_gT H (o := 6) (t := 86) rfl (H.perm 6 rfl) rfl rfl rfl rfl rfl rfl ?_
            refine Ew_of (pc' := 110) (fun _ => x_iload rfl l92_14) ?_
            refine w_lJ H (o := 86) (n := 4) rfl (H.perm 86 rfl) rfl rfl (H.fix 86 rfl rfl) (show 0 ≤ x92_14 ∧ x92_14 < ((4 : Nat) : Int) by omega) (by decide) (fun v119 ev119 qv119 => ?_)
            have qv119 : (-9223372036854775808 : Int) ≤ v119 ∧ v119 ≤ 9223372036854775807 := qv119
            have ev119 : (w92_86) (x92_14) = v119 := (congrFun (ew92_86) (x92_14)).symm.trans ev119
            have hlv := ev119
            refine Ew_of (pc' := 112) (fun _ => x_aload_n rfl l92_0) ?_
            refine Ew_of (pc' := 114) (fun _ => x_iload rfl l92_13) ?_
            refine Ew_of (pc' := 116) (fun _ => x_bipush (z := 8) rfl (by decide)) ?_
            refine w_inv H (o := 6) rfl rfl rfl (H.perm 6 rfl) rfl rfl (by rfl) (M452 H (w14) ((funext (hA_92 14 rfl)).trans ((funext (hA_74 14 rfl)).trans (ew14))) (show inr (x92_13) by omega) (show inr (8) by omega) (show 0 ≤ (x92_13) ∧ 0 ≤ (8) ∧ (8) ≤ 8 ∧ (x92_13) + (8) ≤ 65536 by omega) (fun z124 σ F120 A121 H hS122 hA123 pz124_0 pz124_1 => ⟨rfl, ?_⟩))
            have n8_ := nmb_8 pz124_1 pz124_0
            refine Ew_of (pc' := 120) (fun _ => x_lload_n rfl l92_3) ?_
            refine w_lmulE rfl ?_
            have g125 : inrJ (muJ (z124) ((-4417276706812531889))) := toJ_inr _
            refine w_laddE rfl ?_
            have g126 : inrJ (adJ (v119) ((muJ (z124) ((-4417276706812531889))))) := toJ_inr _
            refine Ew_of (pc' := 124) (fun _ => x_bipush (z := 31) rfl (by decide)) ?_
            refine w_stat24 rfl rfl (by rfl) (M451 H (show inrJ ((adJ (v119) ((muJ (z124) ((-4417276706812531889)))))) by omega) (show inr (31) by omega) (show 0 ≤ (31) ∧ (31) ≤ 64 by omega) (fun z131 σ F127 A128 H hS129 hA130 pz131_0 pz131_1 => ⟨rfl, ?_⟩))
            have r8_ := pz131_1
            refine Ew_of (pc' := 128) (fun _ => x_lload_n rfl l92_1) ?_
            refine w_lmulE rfl ?_
            have g132 : inrJ (muJ (z131) ((-7046029288634856825))) := toJ_inr _
            have hwl := (wl_c n8_ r8_).trans (congrArg (fun q => wl q _) hlv.symm)
            refine w_sJ H (o := 86) (n := 4) rfl (H.perm 86 rfl) rfl rfl (H.fix 86 rfl rfl) (show 0 ≤ x92_14 ∧ x92_14 < ((4 : Nat) : Int) by omega) (by decide) (show (-9223372036854775808 : Int) ≤ (muJ (z131) ((-7046029288634856825))) ∧ (muJ (z131) ((-7046029288634856825))) ≤ 9223372036854775807 by omega) (fun σ H => ?_)
            refine Ew_of (pc' := 133) (fun _ => x_iinc (len := 3) rfl (l92_13)) ?_
            refine Ew_of (pc' := 136) (fun _ => x_iinc (len := 3) rfl (rk_o (l92_14) rfl rfl)) ?_
            refine Ew_of (pc' := 92) (fun _ => x_goto rfl rfl) ?_
            have : LWA ((w14)) 0 ((u1_1)) (((x92_13 + 8)) - 8 * ((x92_14 + 1))) (((x92_14 + 1))) ((upd1 (w92_86) (x92_14) ((muJ (z131) ((-7046029288634856825)))))) := LWA_m (LWA_s j92_q (k2 := ((x92_14 + 1))) (by omega) (by omega) (by omega) (by omega) hwl) (by omega)
            exact ih92 _ (by omega) _ σ _ _ ((x92_13 + 8)) ((x92_14 + 1)) (rk_o (rk_o (l92_0) rfl rfl) rfl rfl) (rk_o (rk_o (l92_1) rfl rfl) rfl rfl) (rk_o (rk_o (l92_3) rfl rfl) rfl rfl) (rk_o (rk_o (l92_5) rfl rfl) rfl rfl) (rk_o (rk_o (l92_7) rfl rfl) rfl rfl) (rk_o (rk_o (l92_9) rfl rfl) rfl rfl) (rk_o (rk_s) rfl rfl) (rk_s) H (SF_trans (SF_trans (hS_92) hS122 (any_sub rfl)) hS129 (any_sub rfl)) (SA_upd (SA_trans (SA_trans (hA_92) hA123 (any_subA rfl)) hA130 (any_subA rfl)) rfl)  (upd1 (w92_86) (x92_14) ((muJ (z131) ((-7046029288634856825))))) (congrArg (fun q => upd1 q (x92_14) ((muJ (z131) ((-7046029288634856825))))) ((funext (hA130 86 rfl)).trans ((funext (hA123 86 rfl)).trans (ew92_86)))) (show inr ((x92_13 + 8)) by omega) (show inr ((x92_14 + 1)) by omega) (show (0) ≤ ((x92_14 + 1)) by omega) (show ((x92_14 + 1)) ≤ (0) ∨ ((x92_14 + 1)) ≤ (4) by omega) (show ((x92_13 + 8)) = (x74_13) + 8 * ((x92_14 + 1)) by omega) (show LWA ((w14)) 0 ((u1_1)) (((x92_13 + 8)) - 8 * ((x92_14 + 1))) (((x92_14 + 1))) ((upd1 (w92_86) (x92_14) ((muJ (z131) ((-7046029288634856825)))))) by assumption) rfl
/-- Writer.countSymbols -/
theorem M414 {σ0 σ : rS} {D N : Nat → Nat} {F : hF} {A : hA} {d c s : Nat} {Q : wQ} (H : HS σ0 σ D N F A) {a1 : Int} (u6_28 : Int) (eu6_28 : F 6 28 = u6_28) (w66 : Int → Int) (ew66 : A 66 = w66) (h0 : inr (a1)) (h1 : 0 ≤ (a1) ∧ (a1) ≤ 2) (k : ∀ (z : Int) σ F' A', HS σ0 σ D N F' A' → SF [] F F' → SA [78] A A' → ∀ v78 : Int → Int, A' 78 = v78 → (inr (z)) → (su (fun i => ((v78)) i) 64 = (u6_28)) → ((z) = su (fun i => pos1 (((v78)) i)) 64) → (∀ i, (0 : Int) ≤ i → i < 64 → 0 ≤ ((v78)) i) → (∀ j, 0 ≤ j → j < (u6_28) → 1 ≤ ((v78)) (((w66)) (8001 * (a1) + j))) → (0 ≤ (z) ∧ (z) ≤ (u6_28)) → Q (some (I z)) σ c s) : Ew 414 (d + 0) 0 (rargs 0 [.ref (D 6), I a1]) [] σ c s Q := by
  have r1 : (0 : Int) ≤ u6_28 ∧ u6_28 ≤ 8001 := by have h1 : (0 : Int) ≤ F 6 28 ∧ F 6 28 ≤ 8001 := H.frng 6 28; rw [show F 6 28 = u6_28 from (eu6_28)] at h1; exact h1
  refine Ew_of (pc' := 1) (fun _ => x_iconst rfl) ?_
  refine Ew_of (pc' := 2) (fun _ => x_istore_n rfl) ?_
  have : ∀ i, (0 : Int) ≤ i → i < 0 → ((A 78)) (0 + i) = 0 := fun i a b => absurd b (by omega)
  suffices hl2 : ∀ (m : Nat), ∀ (ls : rO) (σ : rS) (F_2 : hF) (A_2 : hA) (x2_2 : Int), rlook ls 0 = some (.ref (D 6)) → rlook ls 1 = some (I (a1)) → rlook ls 2 = some (I (x2_2)) → HS σ0 σ D N F_2 A_2 → SF [] F F_2 → SA [78] A A_2 → ∀ w2_78 : Int → Int, A_2 78 = w2_78 → (inr (x2_2)) → ((0) ≤ (x2_2)) → ((x2_2) ≤ (0) ∨ (x2_2) ≤ ((256))) → (∀ i, 0 ≤ i → i < (x2_2) → ((w2_78)) (0 + i) = 0) → (((256)) - (x2_2)).toNat = m → Ew 414 (d + 0) 2 ls [] σ c s Q from
    hl2 _ _ σ _ _ (0) (rk_o (rfl) rfl rfl) (rk_o (rfl) rfl rfl) (rk_s) H (SF_refl) (SA_refl)  (A 78) (rfl) (show inr (0) by omega) (show (0) ≤ (0) by omega) (show (0) ≤ (0) ∨ (0) ≤ ((256)) by omega) (show ∀ i, 0 ≤ i → i < (0) → ((A 78)) (0 + i) = 0 by assumption) rfl
  as_aux_lemma =>
  intro m
  induction m using Nat.strongRecOn with
  | _ m ih2 =>
    intro ls σ F_2 A_2 x2_2 l2_0 l2_1 l2_2 H hS_2 hA_2  w2_78 ew2_78 j2_0 j2_1 j2_2 j2_3 hm2
    refine Ew_of (pc' := 3) (fun _ => x_iload_n rfl l2_2) ?_
    refine Ew_of (pc' := 6) (fun _ => x_sipush (z := 256) rfl (by decide)) ?_
    refine w_icmpge (t := 22) rfl rfl (show inr (x2_2) by omega) (show inr (256) by omega) (fun b2 => ?_) (fun b2 => ?_)
    · refine Ew_of (pc' := 23) (fun _ => x_iconst rfl) ?_
      refine Ew_of (pc' := 24) (fun _ => x_istore_n rfl) ?_
      refine Ew_of (pc' := 25) (fun _ => x_iconst rfl) ?_
      refine Ew_of (pc' := 26) (fun _ => x_istore_n rfl) ?_
      have hz : ∀ i, (0 : Int) ≤ i → i < 64 → ((w2_78)) i = 0 := fun i a b => by have := j2_3 i a (by omega); rw [Int.zero_add] at this; exact this
      have : su (fun i => ((w2_78)) i) 64 = 0 := su_z (g := (w2_78)) (fun x => x) rfl (fun i a b => hz i a (by omega))
      have : su (fun i => pos1 (((w2_78)) i)) 64 = 0 := su_z (g := (w2_78)) pos1 rfl (fun i a b => hz i a (by omega))
      have : ∀ i, (0 : Int) ≤ i → i < 64 → 0 ≤ ((w2_78)) i := fun i a b => by rw [hz i a b]; decide
      have : ∀ i, (0 : Int) ≤ i → i < 64 → ((w2_78)) i ≤ 0 := fun i a b => by rw [hz i a b]; decide
      have : ∀ j, (0 : Int) ≤ j → j < 0 → 1 ≤ ((w2_78)) (((w66)) (8001 * (a1) + j)) := fun j a b => absurd b (by omega)
      suffices hl26 : ∀ (m : Nat), ∀ (ls : rO) (σ : rS) (F_26 : hF) (A_26 : hA) (x26_2 : Int) (x26_3 : Int), rlook ls 0 = some (.ref (D 6)) → rlook ls 1 = some (I (a1)) → rlook ls 2 = some (I (x26_2)) → rlook ls 3 = some (I (x26_3)) → HS σ0 σ D N F_26 A_26 → SF [] F_2 F_26 → SA [78] A_2 A_26 → ∀ w26_78 : Int → Int, A_26 78 = w26_78 → (inr (x26_2)) → (inr (x26_3)) → ((0) ≤ (x26_3)) → ((x26_3) ≤ (0) ∨ (x26_3) ≤ ((u6_28))) → (su (fun i => ((w26_78)) i) 64 = (x26_3)) → (su (fun i => pos1 (((w26_78)) i)) 64 = (x26_2)) → (∀ i, (0 : Int) ≤ i → i < 64 → 0 ≤ ((w26_78)) i) → (∀ j, 0 ≤ j → j < (x26_3) → 1 ≤ ((w26_78)) (((w66)) (8001 * (a1) + j))) → (0 ≤ (x26_2) ∧ (x26_2) ≤ (x26_3)) → (∀ i, (0 : Int) ≤ i → i < 64 → ((w26_78)) i ≤ (x26_3)) → (((u6_28)) - (x26_3)).toNat = m → Ew 414 (d + 0) 26 ls [] σ c s Q from
        hl26 _ _ σ _ _ (0) (0) (rk_o (rk_o (l2_0) rfl rfl) rfl rfl) (rk_o (rk_o (l2_1) rfl rfl) rfl rfl) (rk_o (rk_s) rfl rfl) (rk_s) H (SF_refl) (SA_refl)  (w2_78) (ew2_78) (show inr (0) by omega) (show inr (0) by omega) (show (0) ≤ (0) by omega) (show (0) ≤ (0) ∨ (0) ≤ ((u6_28)) by omega) (show su (fun i => ((w2_78)) i) 64 = (0) by omega) (show su (fun i => pos1 (((w2_78)) i)) 64 = (0) by omega) (show ∀ i, (0 : Int) ≤ i → i < 64 → 0 ≤ ((w2_78)) i by assumption) (show ∀ j, 0 ≤ j → j < (0) → 1 ≤ ((w2_78)) (((w66)) (8001 * (a1) + j)) by assumption) (show 0 ≤ (0) ∧ (0) ≤ (0) by omega) (show ∀ i, (0 : Int) ≤ i → i < 64 → ((w2_78)) i ≤ (0) by assumption) rfl
      as_aux_lemma =>
      intro m
      induction m using Nat.strongRecOn with
      | _ m ih26 =>
        intro ls σ F_26 A_26 x26_2 x26_3 l26_0 l26_1 l26_2 l26_3 H hS_26 hA_26  w26_78 ew26_78 j26_0 j26_1 j26_2 j26_3 j26_4 j26_5 j26_6 j26_7 j26_8 j26_9 hm26
        refine Ew_of (pc' := 27) (fun _ => x_iload_n rfl l26_3) ?_
        refine Ew_of (pc' := 28) (fun _ => x_aload_n rfl l26_0) ?_
        refine w_gI H (o := 6) (w := u6_28) rfl (H.perm 6 rfl) rfl rfl rfl (fun _ => rfl) (((hS_26 6 28 rfl).trans (hS_2 6 28 rfl)).trans (eu6_28)) ?_
        refine w_icmpge (t := 83) rfl rfl (show inr (x26_3) by omega) (show inr (u6_28) by omega) (fun b3 => ?_) (fun b3 => ?_)
        · have : ∀ j, 0 ≤ j → j < (u6_28) → 1 ≤ ((w26_78)) (((w66)) (8001 * (a1) + j)) := fun j a b => (show ∀ j, 0 ≤ j → j < (x26_3) → 1 ≤ ((w26_78)) (((w66)) (8001 * (a1) + j)) from by assumption) j a (by omega)
          refine Ew_of (pc' := 84) (fun _ => x_iload_n rfl l26_2) ?_
          exact w_ireturn rfl (k (x26_2) σ _ _ H (SF_trans (SF_trans (SF_refl) hS_2 (any_sub rfl)) hS_26 (any_sub rfl)) (SA_trans (SA_trans (SA_refl) hA_2 (any_subA rfl)) hA_26 (any_subA rfl)) (w26_78) (ew26_78) (show inr (x26_2) by omega) (show su (fun i => ((w26_78)) i) 64 = (u6_28) by omega) (show (x26_2) = su (fun i => pos1 (((w26_78)) i)) 64 by omega) (show ∀ i, (0 : Int) ≤ i → i < 64 → 0 ≤ ((w26_78)) i by assumption) (show ∀ j, 0 ≤ j → j < (u6_28) → 1 ≤ ((w26_78)) (((w66)) (8001 * a1 + j)) by assumption) (show 0 ≤ (x26_2) ∧ (x26_2) ≤ (u6_28) by omega))
        · refine Ew_of (pc' := 35) (fun _ => x_aload_n rfl l26_0) ?_
          refine w_gT H (o := 6) (t := 66) rfl (H.perm 6 rfl) rfl rfl rfl rfl rfl rfl ?_
          refine Ew_of (pc' := 41) (fun _ => x_sipush (z := 8001) rfl (by decide)) ?_
          refine Ew_of (pc' := 42) (fun _ => x_iload_n rfl l26_1) ?_
          refine w_imul rfl ?_
          refine Ew_of (pc' := 44) (fun _ => x_iload_n rfl l26_3) ?_
          refine w_iadd rfl ?_
          refine w_lI H (o := 66) (n := 24003) rfl (H.perm 66 rfl) rfl rfl (H.fix 66 rfl rfl) (show 0 ≤ ((8001 * a1) + x26_3) ∧ ((8001 * a1) + x26_3) < ((24003 : Nat) : Int) by omega) (by decide) (fun v4 ev4 qv4 => ?_)
          have qv4 : (0 : Int) ≤ v4 ∧ v4 ≤ 63 := qv4
          have ev4 : (w66) (((8001 * a1) + x26_3)) = v4 := (congrFun ((funext (hA_26 66 rfl)).trans ((funext (hA_2 66 rfl)).trans (ew66))) (((8001 * a1) + x26_3))).symm.trans ev4
          refine Ew_of (pc' := 48) (fun _ => x_istore rfl) ?_
          have hsy := ev4
          have hnn := (show ∀ i, (0 : Int) ≤ i → i < 64 → 0 ≤ ((w26_78)) i from by assumption) ((v4)) (by omega) (by omega)
          have hup := (show ∀ i, (0 : Int) ≤ i → i < 64 → ((w26_78)) i ≤ (x26_3) from by assumption) ((v4)) (by omega) (by omega)
          have hs1 := su_upd1 (g := (w26_78)) (fun x => x) (j := (v4)) (v := ((w26_78)) ((v4)) + 1) (n := 64) (by omega) (by omega)
          have hs2 := su_upd1 (g := (w26_78)) pos1 (j := (v4)) (v := ((w26_78)) ((v4)) + 1) (n := 64) (by omega) (by omega)
          have hp1 := pos1_eq (((w26_78)) ((v4)))
          have hp2 := pos1_eq (((w26_78)) ((v4)) + 1)
          refine Ew_of (pc' := 49) (fun _ => x_aload_n rfl (rk_o (l26_0) rfl rfl)) ?_
          refine w_gT H (o := 6) (t := 78) rfl (H.perm 6 rfl) rfl rfl rfl rfl rfl rfl ?_
          refine Ew_of (pc' := 54) (fun _ => x_iload rfl rk_s) ?_
          refine w_lI H (o := 78) (n := 256) rfl (H.perm 78 rfl) rfl rfl (H.fix 78 rfl rfl) (show 0 ≤ v4 ∧ v4 < ((256 : Nat) : Int) by omega) (by decide) (fun v5 ev5 qv5 => ?_)
          have qv5 : (-2147483648 : Int) ≤ v5 ∧ v5 ≤ 2147483647 := qv5
          have ev5 : (w26_78) (v4) = v5 := (congrFun (ew26_78) (v4)).symm.trans ev5
          have hc65 : ∀ (tc65_0 : Int), ∀ (ls : rO) (σ : rS) (F_c65 : hF) (A_c65 : hA) , rlook ls 0 = some (.ref (D 6)) → rlook ls 1 = some (I (a1)) → rlook ls 3 = some (I (x26_3)) → rlook ls 4 = some (I (v4)) → HS σ0 σ D N F_c65 A_c65 → SF [] F_26 F_c65 → SA [] A_26 A_c65 → (inr (tc65_0)) → (((v5) ≠ (0) ∧ (tc65_0) = (x26_2)) ∨ ((v5) = (0) ∧ (tc65_0) = ((x26_2 + 1)))) → Ew 414 (d + 0) 65 ls [I (tc65_0)] σ c s Q := by
           as_aux_lemma =>
            intro tc65_0 ls σ F_c65 A_c65  lc65_0 lc65_1 lc65_3 lc65_4 H hS_c65 hA_c65   jc65_0 jc65_1
            refine Ew_of (pc' := 66) (fun _ => x_istore_n rfl) ?_
            refine Ew_of (pc' := 67) (fun _ => x_aload_n rfl (rk_o (lc65_0) rfl rfl)) ?_
            refine w_gT H (o := 6) (t := 78) rfl (H.perm 6 rfl) rfl rfl rfl rfl rfl rfl ?_
            refine Ew_of (pc' := 72) (fun _ => x_iload rfl (rk_o (lc65_4) rfl rfl)) ?_
            refine Ew_of (pc' := 73) (fun _ => x_dup2 rfl rfl rfl) ?_
            refine w_lI H (o := 78) (n := 256) rfl (H.perm 78 rfl) rfl rfl (H.fix 78 rfl rfl) (show 0 ≤ v4 ∧ v4 < ((256 : Nat) : Int) by omega) (by decide) (fun v6 ev6 qv6 => ?_)
            have qv6 : (-2147483648 : Int) ≤ v6 ∧ v6 ≤ 2147483647 := qv6
            have ev6 : (w26_78) (v4) = v6 := (congrFun ((funext (hA_c65 78 rfl)).trans (ew26_78)) (v4)).symm.trans ev6
            refine Ew_of (pc' := 75) (fun _ => x_iconst rfl) ?_
            refine w_iadd rfl ?_
            have hxx : ((v6 + 1)) = ((w26_78)) ((v4)) + 1 := by omega
            rw [← hxx] at hs1 hs2 hp2
            have : ∀ i, (0 : Int) ≤ i → i < 64 → 0 ≤ (upd1 ((w26_78)) ((v4)) (((v6 + 1)))) i := fun i a b => by by_cases e : i = (v4); rw [e, upd1_s]; omega; rw [upd1_o e]; exact (show ∀ i, (0 : Int) ≤ i → i < 64 → 0 ≤ ((w26_78)) i from by assumption) i a b
            have : ∀ i, (0 : Int) ≤ i → i < 64 → (upd1 ((w26_78)) ((v4)) (((v6 + 1)))) i ≤ (x26_3) + 1 := fun i a b => by by_cases e : i = (v4); rw [e, upd1_s]; omega; rw [upd1_o e]; have := (show ∀ i, (0 : Int) ≤ i → i < 64 → ((w26_78)) i ≤ (x26_3) from by assumption) i a b; omega
            have : ∀ j, 0 ≤ j → j < (x26_3) + 1 → 1 ≤ (upd1 ((w26_78)) ((v4)) (((v6 + 1)))) (((w66)) (8001 * (a1) + j)) := fun j a b => by by_cases e : ((w66)) (8001 * (a1) + j) = (v4); rw [e, upd1_s]; omega; rw [upd1_o e]; refine (show ∀ j, 0 ≤ j → j < (x26_3) → 1 ≤ ((w26_78)) (((w66)) (8001 * (a1) + j)) from by assumption) j a ?_; by_cases e2 : j = (x26_3); rw [e2] at e; exact absurd hsy e; omega
            refine w_sI H (o := 78) (n := 256) rfl (H.perm 78 rfl) rfl rfl (H.fix 78 rfl rfl) (show 0 ≤ v4 ∧ v4 < ((256 : Nat) : Int) by omega) (by decide) (show (-2147483648 : Int) ≤ (v6 + 1) ∧ (v6 + 1) ≤ 2147483647 by omega) (fun σ H => ?_)
            refine Ew_of (pc' := 80) (fun _ => x_iinc (len := 3) rfl (rk_o (lc65_3) rfl rfl)) ?_
            refine Ew_of (pc' := 26) (fun _ => x_goto rfl rfl) ?_
            exact ih26 _ (by omega) _ σ _ _ (tc65_0) ((x26_3 + 1)) (rk_o (rk_o (lc65_0) rfl rfl) rfl rfl) (rk_o (rk_o (lc65_1) rfl rfl) rfl rfl) (rk_o (rk_s) rfl rfl) (rk_s) H (SF_trans (hS_26) hS_c65 (any_sub rfl)) (SA_upd (SA_trans (hA_26) hA_c65 (any_subA rfl)) rfl)  (upd1 (w26_78) (v4) ((v6 + 1))) (congrArg (fun q => upd1 q (v4) ((v6 + 1))) ((funext (hA_c65 78 rfl)).trans (ew26_78))) (show inr (tc65_0) by omega) (show inr ((x26_3 + 1)) by omega) (show (0) ≤ ((x26_3 + 1)) by omega) (show ((x26_3 + 1)) ≤ (0) ∨ ((x26_3 + 1)) ≤ ((u6_28)) by omega) (show su (fun i => ((upd1 (w26_78) (v4) ((v6 + 1)))) i) 64 = ((x26_3 + 1)) by omega) (show su (fun i => pos1 (((upd1 (w26_78) (v4) ((v6 + 1)))) i)) 64 = (tc65_0) by omega) (show ∀ i, (0 : Int) ≤ i → i < 64 → 0 ≤ ((upd1 (w26_78) (v4) ((v6 + 1)))) i by assumption) (show ∀ j, 0 ≤ j → j < ((x26_3 + 1)) → 1 ≤ ((upd1 (w26_78) (v4) ((v6 + 1)))) (((w66)) (8001 * (a1) + j)) by assumption) (show 0 ≤ (tc65_0) ∧ (tc65_0) ≤ ((x26_3 + 1)) by omega) (show ∀ i, (0 : Int) ≤ i → i < 64 → ((upd1 (w26_78) (v4) ((v6 + 1)))) i ≤ ((x26_3 + 1)) by assumption) rfl
          refine w_ifne (t := 64) rfl rfl (show inr (v5) by omega) (fun b7 => ?_) (fun b7 => ?_)
          · refine Ew_of (pc' := 65) (fun _ => x_iload_n rfl (rk_o (l26_2) rfl rfl)) ?_
            exact hc65 (x26_2) _ σ _ _  (rk_o (l26_0) rfl rfl) (rk_o (l26_1) rfl rfl) (rk_o (l26_3) rfl rfl) (rk_s) H (SF_refl) (SA_refl)   (show inr (x26_2) by omega) (show ((v5) ≠ (0) ∧ (x26_2) = (x26_2)) ∨ ((v5) = (0) ∧ (x26_2) = ((x26_2 + 1))) by omega)
          · refine Ew_of (pc' := 59) (fun _ => x_iload_n rfl (rk_o (l26_2) rfl rfl)) ?_
            refine Ew_of (pc' := 60) (fun _ => x_iconst rfl) ?_
            refine w_iadd rfl ?_
            refine Ew_of (pc' := 65) (fun _ => x_goto rfl rfl) ?_
            exact hc65 ((x26_2 + 1)) _ σ _ _  (rk_o (l26_0) rfl rfl) (rk_o (l26_1) rfl rfl) (rk_o (l26_3) rfl rfl) (rk_s) H (SF_refl) (SA_refl)   (show inr ((x26_2 + 1)) by omega) (show ((v5) ≠ (0) ∧ ((x26_2 + 1)) = (x26_2)) ∨ ((v5) = (0) ∧ ((x26_2 + 1)) = ((x26_2 + 1))) by omega)
    · refine Ew_of (pc' := 10) (fun _ => x_aload_n rfl l2_0) ?_
      refine w_gT H (o := 6) (t := 78) rfl (H.perm 6 rfl) rfl rfl rfl rfl rfl rfl ?_
      refine Ew_of (pc' := 14) (fun _ => x_iload_n rfl l2_2) ?_
      refine Ew_of (pc' := 15) (fun _ => x_iconst rfl) ?_
      refine w_sI H (o := 78) (n := 256) rfl (H.perm 78 rfl) rfl rfl (H.fix 78 rfl rfl) (show 0 ≤ x2_2 ∧ x2_2 < ((256 : Nat) : Int) by omega) (by decide) (show (-2147483648 : Int) ≤ 0 ∧ 0 ≤ 2147483647 by omega) (fun σ H => ?_)
      refine Ew_of (pc' := 19) (fun _ => x_iinc (len := 3) rfl (l2_2)) ?_
      refine Ew_of (pc' := 2) (fun _ => x_goto rfl rfl) ?_
      have : ∀ i, (0 : Int) ≤ i → i < ((x2_2 + 1)) → ((upd1 (w2_78) (x2_2) (0))) (0 + i) = 0 := share_z j2_3
      exact ih2 _ (by omega) _ σ _ _ ((x2_2 + 1)) (rk_o (l2_0) rfl rfl) (rk_o (l2_1) rfl rfl) (rk_s) H (hS_2) (SA_upd (hA_2) rfl)  (upd1 (w2_78) (x2_2) (0)) (congrArg (fun q => upd1 q (x2_2) (0)) (ew2_78)) (show inr ((x2_2 + 1)) by omega) (show (0) ≤ ((x2_2 + 1)) by omega) (show ((x2_2 + 1)) ≤ (0) ∨ ((x2_2 + 1)) ≤ ((256)) by omega) (show ∀ i, 0 ≤ i → i < ((x2_2 + 1)) → ((upd1 (w2_78) (x2_2) (0))) (0 + i) = 0 by assumption) rfl
