/-- Writer.keep -/
theorem M445 {σ0 σ : rS} {D N : Nat → Nat} {F : hF} {A : hA} {d c s : Nat} {Q : wQ} (H : HS σ0 σ D N F A)  (u6_12 : Int) (eu6_12 : F 6 12 = u6_12) (w53 : Int → Int) (ew53 : A 53 = w53) (w54 : Int → Int) (ew54 : A 54 = w54) (w55 : Int → Int) (ew55 : A 55 = w55) (h0 : WC ((u6_12)) ((w53))) (h1 : WO ((w54)) ((w55))) (k : ∀ σ Fₚ Aₚ, HS σ0 σ D N Fₚ Aₚ → SF [(6, 17)] F Fₚ → SA [57, 58, 59, 60] A Aₚ → ∀ y6_17 : Int, Fₚ 6 17 = y6_17 → ∀ v57 : Int → Int, Aₚ 57 = v57 → ∀ v58 : Int → Int, Aₚ 58 = v58 → ∀ v59 : Int → Int, Aₚ 59 = v59 → (WC ((y6_17)) ((v57))) → (WO ((v58)) ((v59))) → Q none σ c s) : Ew 445 (d + 0) 0 (rargs 0 [.ref (D 6)]) [] σ c s Q := by
  have r1 : (0 : Int) ≤ u6_12 ∧ u6_12 ≤ 11 := rngE (show (0 : Int) ≤ F 6 12 ∧ F 6 12 ≤ 11 from H.frng 6 12) (show F 6 12 = u6_12 from (eu6_12))
  refine Ew_of (pcₚ := 1) (fun _ => x_iconst rfl) ?_
  refine Ew_of (pcₚ := 2) (fun _ => x_istore_n rfl) ?_
  have : ∀ i, (0 : Int) ≤ i → i < 0 → ((A 57)) i = ((w53)) i := fun i a b => absurd b (by omega)
  suffices hl2 : ∀ (m : Nat), ∀ (ls : rO) (σ : rS) (F_2 : hF) (A_2 : hA) (x2_1 : Int), rlook ls 0 = some (.ref (D 6)) → rlook ls 1 = some (I (x2_1)) → HS σ0 σ D N F_2 A_2 → SF [] F F_2 → SA [57] A A_2 → ∀ w2_57 : Int → Int, A_2 57 = w2_57 → (inr (x2_1)) → ((0) ≤ (x2_1)) → ((x2_1) ≤ (0) ∨ (x2_1) ≤ ((256))) → (∀ i, 0 ≤ i → i < (x2_1) → ((w2_57)) i = ((w53)) i) → (((256)) - (x2_1)).toNat = m → Ew 445 (d + 0) 2 ls [] σ c s Q from
    hl2 _ _ σ _ _ (0) (rk_o (rfl) rfl rfl) (rk_s) H (SF_refl) (SA_refl)  (A 57) (rfl) (show inr (0) from q_20) (show (0) ≤ (0) from q_25) (show (0) ≤ (0) ∨ (0) ≤ ((256)) from q_976) (show ∀ i, 0 ≤ i → i < (0) → ((A 57)) i = ((w53)) i by assumption) rfl
  as_aux_lemma =>
  intro m
  induction m using Nat.strongRecOn with
  | _ m ih2 =>
    intro ls σ F_2 A_2 x2_1 l2_0 l2_1 H hS_2 hA_2  w2_57 ew2_57 j2_0 j2_1 j2_2 j2_3 hm2
    refine Ew_of (pcₚ := 3) (fun _ => x_iload_n rfl l2_1) ?_
    refine Ew_of (pcₚ := 6) (fun _ => x_sipush (z := 256) rfl (by decide)) ?_
    refine w_icmpge (t := 27) rfl rfl (show inr (x2_1) from j2_0) (show inr (256) from q_716) (fun b2 => ?_) (fun b2 => ?_)
    · refine Ew_of (pcₚ := 28) (fun _ => x_aload_n rfl l2_0) ?_
      refine Ew_of (pcₚ := 29) (fun _ => x_aload_n rfl l2_0) ?_
      refine w_gI H (o := 6) (w := u6_12) rfl (H.perm 6 rfl) rfl rfl rfl (fun _ => rfl) ((hS_2 6 12 rfl).trans (eu6_12)) ?_
      refine w_pI H (o := 6) rfl rfl (H.perm 6 rfl) rfl rfl rfl (fun _ => rfl) rfl (show (0 : Int) ≤ u6_12 ∧ u6_12 ≤ 11 from r1) (fun σ H => ?_)
      refine Ew_of (pcₚ := 36) (fun _ => x_iconst rfl) ?_
      refine Ew_of (pcₚ := 37) (fun _ => x_istore_n rfl) ?_
      have : ∀ i, (0 : Int) ≤ i → i < 0 → ((A 58)) i = ((w54)) i := fun i a b => absurd b (by omega)
      suffices hl37 : ∀ (m : Nat), ∀ (ls : rO) (σ : rS) (F_37 : hF) (A_37 : hA) (x37_1 : Int), rlook ls 0 = some (.ref (D 6)) → rlook ls 1 = some (I (x37_1)) → HS σ0 σ D N F_37 A_37 → SF [] (updF F_2 6 17 (u6_12)) F_37 → SA [58] A_2 A_37 → ∀ w37_58 : Int → Int, A_37 58 = w37_58 → (inr (x37_1)) → ((0) ≤ (x37_1)) → ((x37_1) ≤ (0) ∨ (x37_1) ≤ ((192))) → (∀ i, 0 ≤ i → i < (x37_1) → ((w37_58)) i = ((w54)) i) → (((192)) - (x37_1)).toNat = m → Ew 445 (d + 0) 37 ls [] σ c s Q from
        hl37 _ _ σ _ _ (0) (rk_o (l2_0) rfl rfl) (rk_s) H (SF_refl) (SA_refl)  (A 58) (funext (hA_2 58 rfl)) (show inr (0) from q_20) (show (0) ≤ (0) from q_25) (show (0) ≤ (0) ∨ (0) ≤ ((192)) from q_1536) (show ∀ i, 0 ≤ i → i < (0) → ((A 58)) i = ((w54)) i by assumption) rfl
      as_aux_lemma =>
      intro m
      induction m using Nat.strongRecOn with
      | _ m ih37 =>
        intro ls σ F_37 A_37 x37_1 l37_0 l37_1 H hS_37 hA_37  w37_58 ew37_58 j37_0 j37_1 j37_2 j37_3 hm37
        refine Ew_of (pcₚ := 38) (fun _ => x_iload_n rfl l37_1) ?_
        refine Ew_of (pcₚ := 41) (fun _ => x_sipush (z := 192) rfl (by decide)) ?_
        refine w_icmpge (t := 62) rfl rfl (show inr (x37_1) from j37_0) (show inr (192) from q_1537) (fun b3 => ?_) (fun b3 => ?_)
        · refine Ew_of (pcₚ := 63) (fun _ => x_iconst rfl) ?_
          refine Ew_of (pcₚ := 64) (fun _ => x_istore_n rfl) ?_
          have : ∀ i, (0 : Int) ≤ i → i < 0 → ((A 59)) i = ((w55)) i := fun i a b => absurd b (by omega)
          suffices hl64 : ∀ (m : Nat), ∀ (ls : rO) (σ : rS) (F_64 : hF) (A_64 : hA) (x64_1 : Int), rlook ls 0 = some (.ref (D 6)) → rlook ls 1 = some (I (x64_1)) → HS σ0 σ D N F_64 A_64 → SF [] F_37 F_64 → SA [59, 60] A_37 A_64 → ∀ w64_59 : Int → Int, A_64 59 = w64_59 → (inr (x64_1)) → ((0) ≤ (x64_1)) → ((x64_1) ≤ (0) ∨ (x64_1) ≤ (3)) → (∀ i, 0 ≤ i → i < (x64_1) → ((w64_59)) i = ((w55)) i) → ((3) - (x64_1)).toNat = m → Ew 445 (d + 0) 64 ls [] σ c s Q from
            hl64 _ _ σ _ _ (0) (rk_o (l37_0) rfl rfl) (rk_s) H (SF_refl) (SA_refl)  (A 59) ((funext (hA_37 59 rfl)).trans (funext (hA_2 59 rfl))) (show inr (0) from q_20) (show (0) ≤ (0) from q_25) (show (0) ≤ (0) ∨ (0) ≤ (3) from q_1534) (show ∀ i, 0 ≤ i → i < (0) → ((A 59)) i = ((w55)) i by assumption) rfl
          as_aux_lemma =>
          intro m
          induction m using Nat.strongRecOn with
          | _ m ih64 =>
            intro ls σ F_64 A_64 x64_1 l64_0 l64_1 H hS_64 hA_64  w64_59 ew64_59 j64_0 j64_1 j64_2 j64_3 hm64
            refine Ew_of (pcₚ := 65) (fun _ => x_iload_n rfl l64_1) ?_
            refine Ew_of (pcₚ := 66) (fun _ => x_iconst rfl) ?_
            refine w_icmpge (t := 99) rfl rfl (show inr (x64_1) from j64_0) (show inr (3) from q_66) (fun b4 => ?_) (fun b4 => ?_)
            · have : WC ((u6_12)) ((w2_57)) := WC_congr (show WC ((u6_12)) ((w53)) from h0) (by omega) (fun i a b => j2_3 i a (by omega))
              have : WO ((w37_58)) ((w64_59)) := WO_congr (show WO ((w54)) ((w55)) from h1) (fun i a b => j37_3 i a (by omega)) (fun i a b => j64_3 i a (by omega))
              exact w_ret rfl (k σ _ _ H (SF_trans (SF_trans (SF_upd (SF_trans (SF_refl) hS_2 (any_sub rfl)) rfl) hS_37 (any_sub rfl)) hS_64 (any_sub rfl)) (SA_trans (SA_trans (SA_trans (SA_refl) hA_2 (any_subA rfl)) hA_37 (any_subA rfl)) hA_64 (any_subA rfl)) (u6_12) (((hS_64 6 17 rfl).trans (hS_37 6 17 rfl))) (w2_57) ((funext (hA_64 57 rfl)).trans ((funext (hA_37 57 rfl)).trans (ew2_57))) (w37_58) ((funext (hA_64 58 rfl)).trans (ew37_58)) (w64_59) (ew64_59) (show WC ((u6_12)) ((w2_57)) by assumption) (show WO ((w37_58)) ((w64_59)) by assumption))
            · refine Ew_of (pcₚ := 70) (fun _ => x_aload_n rfl l64_0) ?_
              refine w_gT H (o := 6) (t := 59) rfl (H.perm 6 rfl) rfl rfl rfl rfl rfl rfl ?_
              refine Ew_of (pcₚ := 74) (fun _ => x_iload_n rfl l64_1) ?_
              refine Ew_of (pcₚ := 75) (fun _ => x_aload_n rfl l64_0) ?_
              refine w_gT H (o := 6) (t := 55) rfl (H.perm 6 rfl) rfl rfl rfl rfl rfl rfl ?_
              refine Ew_of (pcₚ := 79) (fun _ => x_iload_n rfl l64_1) ?_
              refine w_lI H (o := 55) (n := 3) rfl (H.perm 55 rfl) rfl rfl (H.fix 55 rfl rfl) (show 0 ≤ x64_1 ∧ x64_1 < ((3 : Nat) : Int) from q_1539 b4 j64_1) (by decide) (fun v5 ev5 qv5 => ?_)
              have qv5 : (-1 : Int) ≤ v5 ∧ v5 ≤ 9 := qv5
              have ev5 : (w55) (x64_1) = v5 := (congrFun ((funext (hA_64 55 rfl)).trans ((funext (hA_37 55 rfl)).trans ((funext (hA_2 55 rfl)).trans (ew55)))) (x64_1)).symm.trans ev5
              refine w_sI H (o := 59) (n := 3) rfl (H.perm 59 rfl) rfl rfl (H.fix 59 rfl rfl) (show 0 ≤ x64_1 ∧ x64_1 < ((3 : Nat) : Int) from q_1539 b4 j64_1) (by decide) (show (-1 : Int) ≤ v5 ∧ v5 ≤ 9 from qv5) (fun σ H => ?_)
              refine Ew_of (pcₚ := 82) (fun _ => x_aload_n rfl l64_0) ?_
              refine w_gT H (o := 6) (t := 60) rfl (H.perm 6 rfl) rfl rfl rfl rfl rfl rfl ?_
              refine Ew_of (pcₚ := 86) (fun _ => x_iload_n rfl l64_1) ?_
              refine Ew_of (pcₚ := 87) (fun _ => x_aload_n rfl l64_0) ?_
              refine w_gT H (o := 6) (t := 56) rfl (H.perm 6 rfl) rfl rfl rfl rfl rfl rfl ?_
              refine Ew_of (pcₚ := 91) (fun _ => x_iload_n rfl l64_1) ?_
              refine w_lI H (o := 56) (n := 3) rfl (H.perm 56 rfl) rfl rfl (H.fix 56 rfl rfl) (show 0 ≤ x64_1 ∧ x64_1 < ((3 : Nat) : Int) from q_1539 b4 j64_1) (by decide) (fun v6 ev6 qv6 => ?_)
              have qv6 : (-2147483648 : Int) ≤ v6 ∧ v6 ≤ 2147483647 := qv6
              have ev6 : (A 56) (x64_1) = v6 := (congrFun ((funext (hA_64 56 rfl)).trans ((funext (hA_37 56 rfl)).trans (funext (hA_2 56 rfl)))) (x64_1)).symm.trans ev6
              refine w_sI H (o := 60) (n := 3) rfl (H.perm 60 rfl) rfl rfl (H.fix 60 rfl rfl) (show 0 ≤ x64_1 ∧ x64_1 < ((3 : Nat) : Int) from q_1539 b4 j64_1) (by decide) (show (-2147483648 : Int) ≤ v6 ∧ v6 ≤ 2147483647 from qv6) (fun σ H => ?_)
              refine Ew_of (pcₚ := 96) (fun _ => x_iinc (len := 3) rfl (l64_1)) ?_
              refine Ew_of (pcₚ := 64) (fun _ => x_goto rfl rfl) ?_
              have : ∀ i, (0 : Int) ≤ i → i < ((x64_1 + 1)) → ((upd1 (w64_59) (x64_1) (v5))) i = ((w55)) i := pt_copy j64_3 (by omega)
              exact ih64 _ (msE hm64 q_595 (q_596 b4)) _ σ _ _ ((x64_1 + 1)) (rk_o (l64_0) rfl rfl) (rk_s) H (hS_64) (SA_upd (SA_upd (hA_64) rfl) rfl)  (upd1 (w64_59) (x64_1) (v5)) (congrArg (fun q => upd1 q (x64_1) (v5)) (ew64_59)) (show inr ((x64_1 + 1)) from q_1542 b4 j64_1) (show (0) ≤ ((x64_1 + 1)) from q_29 j64_1) (show ((x64_1 + 1)) ≤ (0) ∨ ((x64_1 + 1)) ≤ (3) from q_1541 b4) (show ∀ i, 0 ≤ i → i < ((x64_1 + 1)) → ((upd1 (w64_59) (x64_1) (v5))) i = ((w55)) i by assumption) rfl
        · refine Ew_of (pcₚ := 45) (fun _ => x_aload_n rfl l37_0) ?_
          refine w_gT H (o := 6) (t := 58) rfl (H.perm 6 rfl) rfl rfl rfl rfl rfl rfl ?_
          refine Ew_of (pcₚ := 49) (fun _ => x_iload_n rfl l37_1) ?_
          refine Ew_of (pcₚ := 50) (fun _ => x_aload_n rfl l37_0) ?_
          refine w_gT H (o := 6) (t := 54) rfl (H.perm 6 rfl) rfl rfl rfl rfl rfl rfl ?_
          refine Ew_of (pcₚ := 54) (fun _ => x_iload_n rfl l37_1) ?_
          refine w_lI H (o := 54) (n := 192) rfl (H.perm 54 rfl) rfl rfl (H.fix 54 rfl rfl) (show 0 ≤ x37_1 ∧ x37_1 < ((192 : Nat) : Int) from q_1543 b3 j37_1) (by decide) (fun v7 ev7 qv7 => ?_)
          have qv7 : (-1 : Int) ≤ v7 ∧ v7 ≤ 512 := qv7
          have ev7 : (w54) (x37_1) = v7 := (congrFun ((funext (hA_37 54 rfl)).trans ((funext (hA_2 54 rfl)).trans (ew54))) (x37_1)).symm.trans ev7
          refine w_sI H (o := 58) (n := 192) rfl (H.perm 58 rfl) rfl rfl (H.fix 58 rfl rfl) (show 0 ≤ x37_1 ∧ x37_1 < ((192 : Nat) : Int) from q_1543 b3 j37_1) (by decide) (show (-1 : Int) ≤ v7 ∧ v7 ≤ 512 from qv7) (fun σ H => ?_)
          refine Ew_of (pcₚ := 59) (fun _ => x_iinc (len := 3) rfl (l37_1)) ?_
          refine Ew_of (pcₚ := 37) (fun _ => x_goto rfl rfl) ?_
          have : ∀ i, (0 : Int) ≤ i → i < ((x37_1 + 1)) → ((upd1 (w37_58) (x37_1) (v7))) i = ((w54)) i := pt_copy j37_3 (by omega)
          exact ih37 _ (msE hm37 q_1546 (q_1547 b3)) _ σ _ _ ((x37_1 + 1)) (rk_o (l37_0) rfl rfl) (rk_s) H (hS_37) (SA_upd (hA_37) rfl)  (upd1 (w37_58) (x37_1) (v7)) (congrArg (fun q => upd1 q (x37_1) (v7)) (ew37_58)) (show inr ((x37_1 + 1)) from q_1545 b3 j37_1) (show (0) ≤ ((x37_1 + 1)) from q_29 j37_1) (show ((x37_1 + 1)) ≤ (0) ∨ ((x37_1 + 1)) ≤ ((192)) from q_1544 b3) (show ∀ i, 0 ≤ i → i < ((x37_1 + 1)) → ((upd1 (w37_58) (x37_1) (v7))) i = ((w54)) i by assumption) rfl
    · refine Ew_of (pcₚ := 10) (fun _ => x_aload_n rfl l2_0) ?_
      refine w_gT H (o := 6) (t := 57) rfl (H.perm 6 rfl) rfl rfl rfl rfl rfl rfl ?_
      refine Ew_of (pcₚ := 14) (fun _ => x_iload_n rfl l2_1) ?_
      refine Ew_of (pcₚ := 15) (fun _ => x_aload_n rfl l2_0) ?_
      refine w_gT H (o := 6) (t := 53) rfl (H.perm 6 rfl) rfl rfl rfl rfl rfl rfl ?_
      refine Ew_of (pcₚ := 19) (fun _ => x_iload_n rfl l2_1) ?_
      refine w_lI H (o := 53) (n := 256) rfl (H.perm 53 rfl) rfl rfl (H.fix 53 rfl rfl) (show 0 ≤ x2_1 ∧ x2_1 < ((256 : Nat) : Int) from q_1030 b2 j2_1) (by decide) (fun v8 ev8 qv8 => ?_)
      have qv8 : (0 : Int) ≤ v8 ∧ v8 ≤ 11 := qv8
      have ev8 : (w53) (x2_1) = v8 := (congrFun ((funext (hA_2 53 rfl)).trans (ew53)) (x2_1)).symm.trans ev8
      refine w_sI H (o := 57) (n := 256) rfl (H.perm 57 rfl) rfl rfl (H.fix 57 rfl rfl) (show 0 ≤ x2_1 ∧ x2_1 < ((256 : Nat) : Int) from q_1030 b2 j2_1) (by decide) (show (0 : Int) ≤ v8 ∧ v8 ≤ 11 from qv8) (fun σ H => ?_)
      refine Ew_of (pcₚ := 24) (fun _ => x_iinc (len := 3) rfl (l2_1)) ?_
      refine Ew_of (pcₚ := 2) (fun _ => x_goto rfl rfl) ?_
      have : ∀ i, (0 : Int) ≤ i → i < ((x2_1 + 1)) → ((upd1 (w2_57) (x2_1) (v8))) i = ((w53)) i := pt_copy j2_3 (by omega)
      exact ih2 _ (msE hm2 q_1033 (q_1034 b2)) _ σ _ _ ((x2_1 + 1)) (rk_o (l2_0) rfl rfl) (rk_s) H (hS_2) (SA_upd (hA_2) rfl)  (upd1 (w2_57) (x2_1) (v8)) (congrArg (fun q => upd1 q (x2_1) (v8)) (ew2_57)) (show inr ((x2_1 + 1)) from q_1032 b2 j2_1) (show (0) ≤ ((x2_1 + 1)) from q_29 j2_1) (show ((x2_1 + 1)) ≤ (0) ∨ ((x2_1 + 1)) ≤ ((256)) from q_1031 b2) (show ∀ i, 0 ≤ i → i < ((x2_1 + 1)) → ((upd1 (w2_57) (x2_1) (v8))) i = ((w53)) i by assumption) rfl
/-- Writer.restore -/
theorem M446 {σ0 σ : rS} {D N : Nat → Nat} {F : hF} {A : hA} {d c s : Nat} {Q : wQ} (H : HS σ0 σ D N F A)  (u6_17 : Int) (eu6_17 : F 6 17 = u6_17) (w57 : Int → Int) (ew57 : A 57 = w57) (w58 : Int → Int) (ew58 : A 58 = w58) (w59 : Int → Int) (ew59 : A 59 = w59) (h0 : WC ((u6_17)) ((w57))) (h1 : WO ((w58)) ((w59))) (k : ∀ σ Fₚ Aₚ, HS σ0 σ D N Fₚ Aₚ → SF [(6, 12)] F Fₚ → SA [53, 54, 55, 56] A Aₚ → ∀ y6_12 : Int, Fₚ 6 12 = y6_12 → ∀ v53 : Int → Int, Aₚ 53 = v53 → ∀ v54 : Int → Int, Aₚ 54 = v54 → ∀ v55 : Int → Int, Aₚ 55 = v55 → (WC ((y6_12)) ((v53))) → (WO ((v54)) ((v55))) → Q none σ c s) : Ew 446 (d + 0) 0 (rargs 0 [.ref (D 6)]) [] σ c s Q := by
  have r1 : (0 : Int) ≤ u6_17 ∧ u6_17 ≤ 11 := rngE (show (0 : Int) ≤ F 6 17 ∧ F 6 17 ≤ 11 from H.frng 6 17) (show F 6 17 = u6_17 from (eu6_17))
  refine Ew_of (pcₚ := 1) (fun _ => x_iconst rfl) ?_
  refine Ew_of (pcₚ := 2) (fun _ => x_istore_n rfl) ?_
  have : ∀ i, (0 : Int) ≤ i → i < 0 → ((A 53)) i = ((w57)) i := fun i a b => absurd b (by omega)
  suffices hl2 : ∀ (m : Nat), ∀ (ls : rO) (σ : rS) (F_2 : hF) (A_2 : hA) (x2_1 : Int), rlook ls 0 = some (.ref (D 6)) → rlook ls 1 = some (I (x2_1)) → HS σ0 σ D N F_2 A_2 → SF [] F F_2 → SA [53] A A_2 → ∀ w2_53 : Int → Int, A_2 53 = w2_53 → (inr (x2_1)) → ((0) ≤ (x2_1)) → ((x2_1) ≤ (0) ∨ (x2_1) ≤ ((256))) → (∀ i, 0 ≤ i → i < (x2_1) → ((w2_53)) i = ((w57)) i) → (((256)) - (x2_1)).toNat = m → Ew 446 (d + 0) 2 ls [] σ c s Q from
    hl2 _ _ σ _ _ (0) (rk_o (rfl) rfl rfl) (rk_s) H (SF_refl) (SA_refl)  (A 53) (rfl) (show inr (0) from q_20) (show (0) ≤ (0) from q_25) (show (0) ≤ (0) ∨ (0) ≤ ((256)) from q_976) (show ∀ i, 0 ≤ i → i < (0) → ((A 53)) i = ((w57)) i by assumption) rfl
  as_aux_lemma =>
  intro m
  induction m using Nat.strongRecOn with
  | _ m ih2 =>
    intro ls σ F_2 A_2 x2_1 l2_0 l2_1 H hS_2 hA_2  w2_53 ew2_53 j2_0 j2_1 j2_2 j2_3 hm2
    refine Ew_of (pcₚ := 3) (fun _ => x_iload_n rfl l2_1) ?_
    refine Ew_of (pcₚ := 6) (fun _ => x_sipush (z := 256) rfl (by decide)) ?_
    refine w_icmpge (t := 27) rfl rfl (show inr (x2_1) from j2_0) (show inr (256) from q_716) (fun b2 => ?_) (fun b2 => ?_)
    · refine Ew_of (pcₚ := 28) (fun _ => x_aload_n rfl l2_0) ?_
      refine Ew_of (pcₚ := 29) (fun _ => x_aload_n rfl l2_0) ?_
      refine w_gI H (o := 6) (w := u6_17) rfl (H.perm 6 rfl) rfl rfl rfl (fun _ => rfl) ((hS_2 6 17 rfl).trans (eu6_17)) ?_
      refine w_pI H (o := 6) rfl rfl (H.perm 6 rfl) rfl rfl rfl (fun _ => rfl) rfl (show (0 : Int) ≤ u6_17 ∧ u6_17 ≤ 11 from r1) (fun σ H => ?_)
      refine Ew_of (pcₚ := 36) (fun _ => x_iconst rfl) ?_
      refine Ew_of (pcₚ := 37) (fun _ => x_istore_n rfl) ?_
      have : ∀ i, (0 : Int) ≤ i → i < 0 → ((A 54)) i = ((w58)) i := fun i a b => absurd b (by omega)
      suffices hl37 : ∀ (m : Nat), ∀ (ls : rO) (σ : rS) (F_37 : hF) (A_37 : hA) (x37_1 : Int), rlook ls 0 = some (.ref (D 6)) → rlook ls 1 = some (I (x37_1)) → HS σ0 σ D N F_37 A_37 → SF [] (updF F_2 6 12 (u6_17)) F_37 → SA [54] A_2 A_37 → ∀ w37_54 : Int → Int, A_37 54 = w37_54 → (inr (x37_1)) → ((0) ≤ (x37_1)) → ((x37_1) ≤ (0) ∨ (x37_1) ≤ ((192))) → (∀ i, 0 ≤ i → i < (x37_1) → ((w37_54)) i = ((w58)) i) → (((192)) - (x37_1)).toNat = m → Ew 446 (d + 0) 37 ls [] σ c s Q from
        hl37 _ _ σ _ _ (0) (rk_o (l2_0) rfl rfl) (rk_s) H (SF_refl) (SA_refl)  (A 54) (funext (hA_2 54 rfl)) (show inr (0) from q_20) (show (0) ≤ (0) from q_25) (show (0) ≤ (0) ∨ (0) ≤ ((192)) from q_1536) (show ∀ i, 0 ≤ i → i < (0) → ((A 54)) i = ((w58)) i by assumption) rfl
      as_aux_lemma =>
      intro m
      induction m using Nat.strongRecOn with
      | _ m ih37 =>
        intro ls σ F_37 A_37 x37_1 l37_0 l37_1 H hS_37 hA_37  w37_54 ew37_54 j37_0 j37_1 j37_2 j37_3 hm37
        refine Ew_of (pcₚ := 38) (fun _ => x_iload_n rfl l37_1) ?_
        refine Ew_of (pcₚ := 41) (fun _ => x_sipush (z := 192) rfl (by decide)) ?_
        refine w_icmpge (t := 62) rfl rfl (show inr (x37_1) from j37_0) (show inr (192) from q_1537) (fun b3 => ?_) (fun b3 => ?_)
        · refine Ew_of (pcₚ := 63) (fun _ => x_iconst rfl) ?_
          refine Ew_of (pcₚ := 64) (fun _ => x_istore_n rfl) ?_
          have : ∀ i, (0 : Int) ≤ i → i < 0 → ((A 55)) i = ((w59)) i := fun i a b => absurd b (by omega)
          suffices hl64 : ∀ (m : Nat), ∀ (ls : rO) (σ : rS) (F_64 : hF) (A_64 : hA) (x64_1 : Int), rlook ls 0 = some (.ref (D 6)) → rlook ls 1 = some (I (x64_1)) → HS σ0 σ D N F_64 A_64 → SF [] F_37 F_64 → SA [55, 56] A_37 A_64 → ∀ w64_55 : Int → Int, A_64 55 = w64_55 → (inr (x64_1)) → ((0) ≤ (x64_1)) → ((x64_1) ≤ (0) ∨ (x64_1) ≤ (3)) → (∀ i, 0 ≤ i → i < (x64_1) → ((w64_55)) i = ((w59)) i) → ((3) - (x64_1)).toNat = m → Ew 446 (d + 0) 64 ls [] σ c s Q from
            hl64 _ _ σ _ _ (0) (rk_o (l37_0) rfl rfl) (rk_s) H (SF_refl) (SA_refl)  (A 55) ((funext (hA_37 55 rfl)).trans (funext (hA_2 55 rfl))) (show inr (0) from q_20) (show (0) ≤ (0) from q_25) (show (0) ≤ (0) ∨ (0) ≤ (3) from q_1534) (show ∀ i, 0 ≤ i → i < (0) → ((A 55)) i = ((w59)) i by assumption) rfl
          as_aux_lemma =>
          intro m
          induction m using Nat.strongRecOn with
          | _ m ih64 =>
            intro ls σ F_64 A_64 x64_1 l64_0 l64_1 H hS_64 hA_64  w64_55 ew64_55 j64_0 j64_1 j64_2 j64_3 hm64
            refine Ew_of (pcₚ := 65) (fun _ => x_iload_n rfl l64_1) ?_
            refine Ew_of (pcₚ := 66) (fun _ => x_iconst rfl) ?_
            refine w_icmpge (t := 99) rfl rfl (show inr (x64_1) from j64_0) (show inr (3) from q_66) (fun b4 => ?_) (fun b4 => ?_)
            · have : WC ((u6_17)) ((w2_53)) := WC_congr (show WC ((u6_17)) ((w57)) from h0) (by omega) (fun i a b => j2_3 i a (by omega))
              have : WO ((w37_54)) ((w64_55)) := WO_congr (show WO ((w58)) ((w59)) from h1) (fun i a b => j37_3 i a (by omega)) (fun i a b => j64_3 i a (by omega))
              exact w_ret rfl (k σ _ _ H (SF_trans (SF_trans (SF_upd (SF_trans (SF_refl) hS_2 (any_sub rfl)) rfl) hS_37 (any_sub rfl)) hS_64 (any_sub rfl)) (SA_trans (SA_trans (SA_trans (SA_refl) hA_2 (any_subA rfl)) hA_37 (any_subA rfl)) hA_64 (any_subA rfl)) (u6_17) (((hS_64 6 12 rfl).trans (hS_37 6 12 rfl))) (w2_53) ((funext (hA_64 53 rfl)).trans ((funext (hA_37 53 rfl)).trans (ew2_53))) (w37_54) ((funext (hA_64 54 rfl)).trans (ew37_54)) (w64_55) (ew64_55) (show WC ((u6_17)) ((w2_53)) by assumption) (show WO ((w37_54)) ((w64_55)) by assumption))
            · refine Ew_of (pcₚ := 70) (fun _ => x_aload_n rfl l64_0) ?_
              refine w_gT H (o := 6) (t := 55) rfl (H.perm 6 rfl) rfl rfl rfl rfl rfl rfl ?_
              refine Ew_of (pcₚ := 74) (fun _ => x_iload_n rfl l64_1) ?_
              refine Ew_of (pcₚ := 75) (fun _ => x_aload_n rfl l64_0) ?_
              refine w_gT H (o := 6) (t := 59) rfl (H.perm 6 rfl) rfl rfl rfl rfl rfl rfl ?_
              refine Ew_of (pcₚ := 79) (fun _ => x_iload_n rfl l64_1) ?_
              refine w_lI H (o := 59) (n := 3) rfl (H.perm 59 rfl) rfl rfl (H.fix 59 rfl rfl) (show 0 ≤ x64_1 ∧ x64_1 < ((3 : Nat) : Int) from q_1539 b4 j64_1) (by decide) (fun v5 ev5 qv5 => ?_)
              have qv5 : (-1 : Int) ≤ v5 ∧ v5 ≤ 9 := qv5
              have ev5 : (w59) (x64_1) = v5 := (congrFun ((funext (hA_64 59 rfl)).trans ((funext (hA_37 59 rfl)).trans ((funext (hA_2 59 rfl)).trans (ew59)))) (x64_1)).symm.trans ev5
              refine w_sI H (o := 55) (n := 3) rfl (H.perm 55 rfl) rfl rfl (H.fix 55 rfl rfl) (show 0 ≤ x64_1 ∧ x64_1 < ((3 : Nat) : Int) from q_1539 b4 j64_1) (by decide) (show (-1 : Int) ≤ v5 ∧ v5 ≤ 9 from qv5) (fun σ H => ?_)
              refine Ew_of (pcₚ := 82) (fun _ => x_aload_n rfl l64_0) ?_
              refine w_gT H (o := 6) (t := 56) rfl (H.perm 6 rfl) rfl rfl rfl rfl rfl rfl ?_
              refine Ew_of (pcₚ := 86) (fun _ => x_iload_n rfl l64_1) ?_
              refine Ew_of (pcₚ := 87) (fun _ => x_aload_n rfl l64_0) ?_
              refine w_gT H (o := 6) (t := 60) rfl (H.perm 6 rfl) rfl rfl rfl rfl rfl rfl ?_
              refine Ew_of (pcₚ := 91) (fun _ => x_iload_n rfl l64_1) ?_
              refine w_lI H (o := 60) (n := 3) rfl (H.perm 60 rfl) rfl rfl (H.fix 60 rfl rfl) (show 0 ≤ x64_1 ∧ x64_1 < ((3 : Nat) : Int) from q_1539 b4 j64_1) (by decide) (fun v6 ev6 qv6 => ?_)
              have qv6 : (-2147483648 : Int) ≤ v6 ∧ v6 ≤ 2147483647 := qv6
              have ev6 : (A 60) (x64_1) = v6 := (congrFun ((funext (hA_64 60 rfl)).trans ((funext (hA_37 60 rfl)).trans (funext (hA_2 60 rfl)))) (x64_1)).symm.trans ev6
              refine w_sI H (o := 56) (n := 3) rfl (H.perm 56 rfl) rfl rfl (H.fix 56 rfl rfl) (show 0 ≤ x64_1 ∧ x64_1 < ((3 : Nat) : Int) from q_1539 b4 j64_1) (by decide) (show (-2147483648 : Int) ≤ v6 ∧ v6 ≤ 2147483647 from qv6) (fun σ H => ?_)
              refine Ew_of (pcₚ := 96) (fun _ => x_iinc (len := 3) rfl (l64_1)) ?_
              refine Ew_of (pcₚ := 64) (fun _ => x_goto rfl rfl) ?_
              have : ∀ i, (0 : Int) ≤ i → i < ((x64_1 + 1)) → ((upd1 (w64_55) (x64_1) (v5))) i = ((w59)) i := pt_copy j64_3 (by omega)
              exact ih64 _ (msE hm64 q_595 (q_596 b4)) _ σ _ _ ((x64_1 + 1)) (rk_o (l64_0) rfl rfl) (rk_s) H (hS_64) (SA_upd (SA_upd (hA_64) rfl) rfl)  (upd1 (w64_55) (x64_1) (v5)) (congrArg (fun q => upd1 q (x64_1) (v5)) (ew64_55)) (show inr ((x64_1 + 1)) from q_1542 b4 j64_1) (show (0) ≤ ((x64_1 + 1)) from q_29 j64_1) (show ((x64_1 + 1)) ≤ (0) ∨ ((x64_1 + 1)) ≤ (3) from q_1541 b4) (show ∀ i, 0 ≤ i → i < ((x64_1 + 1)) → ((upd1 (w64_55) (x64_1) (v5))) i = ((w59)) i by assumption) rfl
        · refine Ew_of (pcₚ := 45) (fun _ => x_aload_n rfl l37_0) ?_
          refine w_gT H (o := 6) (t := 54) rfl (H.perm 6 rfl) rfl rfl rfl rfl rfl rfl ?_
          refine Ew_of (pcₚ := 49) (fun _ => x_iload_n rfl l37_1) ?_
          refine Ew_of (pcₚ := 50) (fun _ => x_aload_n rfl l37_0) ?_
          refine w_gT H (o := 6) (t := 58) rfl (H.perm 6 rfl) rfl rfl rfl rfl rfl rfl ?_
          refine Ew_of (pcₚ := 54) (fun _ => x_iload_n rfl l37_1) ?_
          refine w_lI H (o := 58) (n := 192) rfl (H.perm 58 rfl) rfl rfl (H.fix 58 rfl rfl) (show 0 ≤ x37_1 ∧ x37_1 < ((192 : Nat) : Int) from q_1543 b3 j37_1) (by decide) (fun v7 ev7 qv7 => ?_)
          have qv7 : (-1 : Int) ≤ v7 ∧ v7 ≤ 512 := qv7
          have ev7 : (w58) (x37_1) = v7 := (congrFun ((funext (hA_37 58 rfl)).trans ((funext (hA_2 58 rfl)).trans (ew58))) (x37_1)).symm.trans ev7
          refine w_sI H (o := 54) (n := 192) rfl (H.perm 54 rfl) rfl rfl (H.fix 54 rfl rfl) (show 0 ≤ x37_1 ∧ x37_1 < ((192 : Nat) : Int) from q_1543 b3 j37_1) (by decide) (show (-1 : Int) ≤ v7 ∧ v7 ≤ 512 from qv7) (fun σ H => ?_)
          refine Ew_of (pcₚ := 59) (fun _ => x_iinc (len := 3) rfl (l37_1)) ?_
          refine Ew_of (pcₚ := 37) (fun _ => x_goto rfl rfl) ?_
          have : ∀ i, (0 : Int) ≤ i → i < ((x37_1 + 1)) → ((upd1 (w37_54) (x37_1) (v7))) i = ((w58)) i := pt_copy j37_3 (by omega)
          exact ih37 _ (msE hm37 q_1546 (q_1547 b3)) _ σ _ _ ((x37_1 + 1)) (rk_o (l37_0) rfl rfl) (rk_s) H (hS_37) (SA_upd (hA_37) rfl)  (upd1 (w37_54) (x37_1) (v7)) (congrArg (fun q => upd1 q (x37_1) (v7)) (ew37_54)) (show inr ((x37_1 + 1)) from q_1545 b3 j37_1) (show (0) ≤ ((x37_1 + 1)) from q_29 j37_1) (show ((x37_1 + 1)) ≤ (0) ∨ ((x37_1 + 1)) ≤ ((192)) from q_1544 b3) (show ∀ i, 0 ≤ i → i < ((x37_1 + 1)) → ((upd1 (w37_54) (x37_1) (v7))) i = ((w58)) i by assumption) rfl
    · refine Ew_of (pcₚ := 10) (fun _ => x_aload_n rfl l2_0) ?_
      refine w_gT H (o := 6) (t := 53) rfl (H.perm 6 rfl) rfl rfl rfl rfl rfl rfl ?_
      refine Ew_of (pcₚ := 14) (fun _ => x_iload_n rfl l2_1) ?_
      refine Ew_of (pcₚ := 15) (fun _ => x_aload_n rfl l2_0) ?_
      refine w_gT H (o := 6) (t := 57) rfl (H.perm 6 rfl) rfl rfl rfl rfl rfl rfl ?_
      refine Ew_of (pcₚ := 19) (fun _ => x_iload_n rfl l2_1) ?_
      refine w_lI H (o := 57) (n := 256) rfl (H.perm 57 rfl) rfl rfl (H.fix 57 rfl rfl) (show 0 ≤ x2_1 ∧ x2_1 < ((256 : Nat) : Int) from q_1030 b2 j2_1) (by decide) (fun v8 ev8 qv8 => ?_)
      have qv8 : (0 : Int) ≤ v8 ∧ v8 ≤ 11 := qv8
      have ev8 : (w57) (x2_1) = v8 := (congrFun ((funext (hA_2 57 rfl)).trans (ew57)) (x2_1)).symm.trans ev8
      refine w_sI H (o := 53) (n := 256) rfl (H.perm 53 rfl) rfl rfl (H.fix 53 rfl rfl) (show 0 ≤ x2_1 ∧ x2_1 < ((256 : Nat) : Int) from q_1030 b2 j2_1) (by decide) (show (0 : Int) ≤ v8 ∧ v8 ≤ 11 from qv8) (fun σ H => ?_)
      refine Ew_of (pcₚ := 24) (fun _ => x_iinc (len := 3) rfl (l2_1)) ?_
      refine Ew_of (pcₚ := 2) (fun _ => x_goto rfl rfl) ?_
      have : ∀ i, (0 : Int) ≤ i → i < ((x2_1 + 1)) → ((upd1 (w2_53) (x2_1) (v8))) i = ((w57)) i := pt_copy j2_3 (by omega)
      exact ih2 _ (msE hm2 q_1033 (q_1034 b2)) _ σ _ _ ((x2_1 + 1)) (rk_o (l2_0) rfl rfl) (rk_s) H (hS_2) (SA_upd (hA_2) rfl)  (upd1 (w2_53) (x2_1) (v8)) (congrArg (fun q => upd1 q (x2_1) (v8)) (ew2_53)) (show inr ((x2_1 + 1)) from q_1032 b2 j2_1) (show (0) ≤ ((x2_1 + 1)) from q_29 j2_1) (show ((x2_1 + 1)) ≤ (0) ∨ ((x2_1 + 1)) ≤ ((256)) from q_1031 b2) (show ∀ i, 0 ≤ i → i < ((x2_1 + 1)) → ((upd1 (w2_53) (x2_1) (v8))) i = ((w57)) i by assumption) rfl
/-- Writer.sayBlockHead -/
theorem M448 {σ0 σ : rS} {D N : Nat → Nat} {F : hF} {A : hA} {d c s : Nat} {Q : wQ} (H : HS σ0 σ D N F A) {a1 a2 a3 a4 : Int} (u6_37 : Int) (eu6_37 : F 6 37 = u6_37) (h0 : inr (a1)) (h1 : inr (a2)) (h2 : inr (a3)) (h3 : inr (a4)) (h4 : (a4) = 0 ∨ (a4) = 1) (h5 : 0 ≤ (a1) ∧ (a1) ≤ 80000000) (h6 : 0 ≤ (a2) ∧ (a2) ≤ 20000000 ∧ 0 ≤ (a3) ∧ (a3) ≤ 3) (k : ∀ σ Fₚ Aₚ, HS σ0 σ D N Fₚ Aₚ → SF [(6, 37)] F Fₚ → SA [70] A Aₚ → ∀ y6_37 : Int, Fₚ 6 37 = y6_37 → ((u6_37) ≤ (y6_37) ∧ (a1) + 3 ≤ (y6_37) ∧ ((y6_37) = (u6_37) ∨ (y6_37) = (a1) + 3)) → Q none σ c s) : Ew 448 (d + 2) 0 (rargs 0 [.ref (D 6), I a1, I a2, I a3, I a4]) [] σ c s Q := by
  have r1 : (0 : Int) ≤ u6_37 ∧ u6_37 ≤ 100000000 := rngE (show (0 : Int) ≤ F 6 37 ∧ F 6 37 ≤ 100000000 from H.frng 6 37) (show F 6 37 = u6_37 from (eu6_37))
  refine Ew_of (pcₚ := 1) (fun _ => x_aload_n rfl rfl) ?_
  refine w_gI H (o := 6) (w := u6_37) rfl (H.perm 6 rfl) rfl rfl rfl (fun _ => rfl) (eu6_37) ?_
  refine Ew_of (pcₚ := 6) (fun _ => x_istore rfl) ?_
  refine Ew_of (pcₚ := 7) (fun _ => x_aload_n rfl (rk_o (rfl) rfl rfl)) ?_
  refine Ew_of (pcₚ := 8) (fun _ => x_iload_n rfl (rk_o (rfl) rfl rfl)) ?_
  refine w_pI H (o := 6) rfl rfl (H.perm 6 rfl) rfl rfl rfl (fun _ => rfl) rfl (show (0 : Int) ≤ a1 ∧ a1 ≤ 100000000 from q_1877 h5) (fun σ H => ?_)
  refine Ew_of (pcₚ := 12) (fun _ => x_aload_n rfl (rk_o (rfl) rfl rfl)) ?_
  refine Ew_of (pcₚ := 14) (fun _ => x_bipush (z := 8) rfl (by decide)) ?_
  refine Ew_of (pcₚ := 15) (fun _ => x_iload_n rfl (rk_o (rfl) rfl rfl)) ?_
  refine w_imul rfl ?_
  refine Ew_of (pcₚ := 17) (fun _ => x_iconst rfl) ?_
  refine Ew_of (pcₚ := 18) (fun _ => x_iload_n rfl (rk_o (rfl) rfl rfl)) ?_
  refine w_imul rfl ?_
  refine w_iadd rfl ?_
  refine Ew_of (pcₚ := 22) (fun _ => x_iload rfl (rk_o (rfl) rfl rfl)) ?_
  have hc30 : ∀ (tc30_0 : Int), ∀ (ls : rO) (σ : rS) (F_c30 : hF) (A_c30 : hA) , rlook ls 0 = some (.ref (D 6)) → rlook ls 5 = some (I (u6_37)) → HS σ0 σ D N F_c30 A_c30 → SF [] (updF F 6 37 (a1)) F_c30 → SA [] A A_c30 → (inr (tc30_0)) → (((a4) = (0) ∧ (tc30_0) = (0)) ∨ ((a4) ≠ (0) ∧ (tc30_0) = (1))) → Ew 448 (d + 2) 30 ls [I (tc30_0), I (((8 * a2) + (2 * a3))), .ref (D 6)] σ c s Q := by
   as_aux_lemma =>
    intro tc30_0 ls σ F_c30 A_c30  lc30_0 lc30_5 H hS_c30 hA_c30   jc30_0 jc30_1
    refine w_iadd rfl ?_
    refine w_i2l rfl (show inr ((((8 * a2) + (2 * a3)) + tc30_0)) from q_1878 h6 jc30_0 jc30_1) ?_
    refine Ew_of (pcₚ := 33) (fun _ => x_iconst rfl) ?_
    refine w_inv H (o := 6) rfl rfl rfl (H.perm 6 rfl) rfl rfl (by rfl) (M393 H (a1) ((hS_c30 6 37 rfl)) (show inrJ ((((8 * a2) + (2 * a3)) + tc30_0)) from q_1881 h6 jc30_0) (show inr (3) from q_66) (show 0 ≤ (3) ∧ (3) ≤ 8 from q_1880) (show 0 ≤ (a1) ∧ (a1) ≤ 90000000 from q_1879 h5) (fun σ F2 A3 H hS4 hA5 y7 ey8 pz6_0 => ⟨rfl, ?_⟩))
    have r9 : (0 : Int) ≤ y7 ∧ y7 ≤ 100000000 := rngE (show (0 : Int) ≤ F2 6 37 ∧ F2 6 37 ≤ 100000000 from H.frng 6 37) (show F2 6 37 = y7 from (ey8))
    refine Ew_of (pcₚ := 37) (fun _ => x_aload_n rfl lc30_0) ?_
    refine Ew_of (pcₚ := 39) (fun _ => x_iload rfl lc30_5) ?_
    refine Ew_of (pcₚ := 40) (fun _ => x_aload_n rfl lc30_0) ?_
    refine w_gI H (o := 6) (w := y7) rfl (H.perm 6 rfl) rfl rfl rfl (fun _ => rfl) (ey8) ?_
    refine w_icmple (t := 51) rfl rfl (show inr (u6_37) from q_1689 r1) (show inr (y7) from q_1689 r9) (fun b10 => ?_) (fun b10 => ?_)
    · refine Ew_of (pcₚ := 52) (fun _ => x_aload_n rfl lc30_0) ?_
      refine w_gI H (o := 6) (w := y7) rfl (H.perm 6 rfl) rfl rfl rfl (fun _ => rfl) (ey8) ?_
      refine w_pI H (o := 6) rfl rfl (H.perm 6 rfl) rfl rfl rfl (fun _ => rfl) rfl (show (0 : Int) ≤ y7 ∧ y7 ≤ 100000000 from r9) (fun σ H => ?_)
      exact w_ret rfl (k σ _ _ H (SF_upd (SF_trans (SF_trans (SF_upd (SF_refl) rfl) hS_c30 (any_sub rfl)) hS4 (any_sub rfl)) rfl) (SA_trans (SA_trans (SA_refl) hA_c30 (any_subA rfl)) hA5 (any_subA rfl)) (y7) (rfl) (show (u6_37) ≤ (y7) ∧ a1 + 3 ≤ (y7) ∧ ((y7) = (u6_37) ∨ (y7) = a1 + 3) from q_1882 b10 pz6_0))
    · refine Ew_of (pcₚ := 48) (fun _ => x_iload rfl lc30_5) ?_
      refine Ew_of (pcₚ := 55) (fun _ => x_goto rfl rfl) ?_
      refine w_pI H (o := 6) rfl rfl (H.perm 6 rfl) rfl rfl rfl (fun _ => rfl) rfl (show (0 : Int) ≤ u6_37 ∧ u6_37 ≤ 100000000 from r1) (fun σ H => ?_)
      exact w_ret rfl (k σ _ _ H (SF_upd (SF_trans (SF_trans (SF_upd (SF_refl) rfl) hS_c30 (any_sub rfl)) hS4 (any_sub rfl)) rfl) (SA_trans (SA_trans (SA_refl) hA_c30 (any_subA rfl)) hA5 (any_subA rfl)) (u6_37) (rfl) (show (u6_37) ≤ (u6_37) ∧ a1 + 3 ≤ (u6_37) ∧ ((u6_37) = (u6_37) ∨ (u6_37) = a1 + 3) from q_1883 b10 pz6_0))
  refine w_ifeq (t := 29) rfl rfl (show inr (a4) from h3) (fun b11 => ?_) (fun b11 => ?_)
  · refine Ew_of (pcₚ := 30) (fun _ => x_iconst rfl) ?_
    exact hc30 (0) _ σ _ _  (rk_o (rfl) rfl rfl) (rk_s) H (SF_refl) (SA_refl)   (show inr (0) from q_20) (show ((a4) = (0) ∧ (0) = (0)) ∨ ((a4) ≠ (0) ∧ (0) = (1)) from q_654 b11)
  · refine Ew_of (pcₚ := 26) (fun _ => x_iconst rfl) ?_
    refine Ew_of (pcₚ := 30) (fun _ => x_goto rfl rfl) ?_
    exact hc30 (1) _ σ _ _  (rk_o (rfl) rfl rfl) (rk_s) H (SF_refl) (SA_refl)   (show inr (1) from q_23) (show ((a4) = (0) ∧ (1) = (0)) ∨ ((a4) ≠ (0) ∧ (1) = (1)) from q_655 b11)
/-- Writer.rotated -/
theorem M451 {σ0 σ : rS} {D N : Nat → Nat} {F : hF} {A : hA} {d c s : Nat} {Q : wQ} (H : HS σ0 σ D N F A) {a1 a2 : Int} (h0 : inrJ (a1)) (h1 : inr (a2)) (k : ∀ (z : Int) σ Fₚ Aₚ, HS σ0 σ D N Fₚ Aₚ → SF [] F Fₚ → SA [] A Aₚ → (inrJ (z)) → Q (some (J z)) σ c s) : Ew 451 (d + 0) 0 (rargs 0 [J a1, I a2]) [] σ c s Q := by
  refine Ew_of (pcₚ := 1) (fun _ => x_lload_n rfl rfl) ?_
  refine Ew_of (pcₚ := 2) (fun _ => x_iload_n rfl rfl) ?_
  refine w_lshlA rfl (fun z1 gz1 => ?_)
  refine Ew_of (pcₚ := 4) (fun _ => x_lload_n rfl rfl) ?_
  refine Ew_of (pcₚ := 6) (fun _ => x_bipush (z := 64) rfl (by decide)) ?_
  refine Ew_of (pcₚ := 7) (fun _ => x_iload_n rfl rfl) ?_
  refine w_isubA rfl (fun z2 gz2 => ?_)
  refine w_lushrA rfl (fun z3 gz3 => ?_)
  refine w_lorA rfl (fun z4 gz4 => ?_)
  exact w_lreturn rfl (k (z4) σ _ _ H (SF_refl) (SA_refl) (show inrJ (z4) from gz4))
/-- Writer.wordAt -/
theorem M452 {σ0 σ : rS} {D N : Nat → Nat} {F : hF} {A : hA} {d c s : Nat} {Q : wQ} (H : HS σ0 σ D N F A) {a1 a2 : Int} (h0 : inr (a1)) (h1 : inr (a2)) (h2 : 0 ≤ (a1) ∧ 0 ≤ (a2) ∧ (a2) ≤ 8 ∧ (a1) + (a2) ≤ 65536) (k : ∀ (z : Int) σ Fₚ Aₚ, HS σ0 σ D N Fₚ Aₚ → SF [] F Fₚ → SA [] A Aₚ → (inrJ (z)) → Q (some (J z)) σ c s) : Ew 452 (d + 0) 0 (rargs 0 [.ref (D 6), I a1, I a2]) [] σ c s Q := by
  refine Ew_of (pcₚ := 1) (fun _ => x_lconst (z := 0) rfl (by decide)) ?_
  refine Ew_of (pcₚ := 2) (fun _ => x_lstore_n rfl) ?_
  refine Ew_of (pcₚ := 3) (fun _ => x_iload_n rfl (rk2_o (rfl) rfl rfl)) ?_
  refine Ew_of (pcₚ := 4) (fun _ => x_iconst rfl) ?_
  refine w_isub rfl ?_
  refine Ew_of (pcₚ := 7) (fun _ => x_istore rfl) ?_
  suffices hl7 : ∀ (m : Nat), ∀ (ls : rO) (σ : rS) (F_7 : hF) (A_7 : hA) (x7_3 : Int) (x7_5 : Int), rlook ls 0 = some (.ref (D 6)) → rlook ls 1 = some (I (a1)) → rlook ls 3 = some (J (x7_3)) → rlook ls 5 = some (I (x7_5)) → HS σ0 σ D N F_7 A_7 → SF [] F F_7 → SA [] A A_7 → (inrJ (x7_3)) → (inr (x7_5)) → ((x7_5) ≤ ((a2 - 1))) → (((a2 - 1)) ≤ (x7_5) ∨ ((-1)) ≤ (x7_5)) → ((x7_5) - ((-1))).toNat = m → Ew 452 (d + 0) 7 ls [] σ c s Q from
    hl7 _ _ σ _ _ (0) ((a2 - 1)) (rk_o (rk2_o (rfl) rfl rfl) rfl rfl) (rk_o (rk2_o (rfl) rfl rfl) rfl rfl) (rk_o (rk2_s) rfl rfl) (rk_s) H (SF_refl) (SA_refl)   (show inrJ (0) from q_81) (show inr ((a2 - 1)) from q_192 h2) (show ((a2 - 1)) ≤ ((a2 - 1)) from q_163) (show ((a2 - 1)) ≤ ((a2 - 1)) ∨ ((-1)) ≤ ((a2 - 1)) from q_162) rfl
  as_aux_lemma =>
  intro m
  induction m using Nat.strongRecOn with
  | _ m ih7 =>
    intro ls σ F_7 A_7 x7_3 x7_5 l7_0 l7_1 l7_3 l7_5 H hS_7 hA_7   j7_0 j7_1 j7_2 j7_3 hm7
    refine Ew_of (pcₚ := 9) (fun _ => x_iload rfl l7_5) ?_
    refine w_iflt (t := 37) rfl rfl (show inr (x7_5) from j7_1) (fun b1 => ?_) (fun b1 => ?_)
    · refine Ew_of (pcₚ := 38) (fun _ => x_lload_n rfl l7_3) ?_
      exact w_lreturn rfl (k (x7_3) σ _ _ H (SF_trans (SF_refl) hS_7 (any_sub rfl)) (SA_trans (SA_refl) hA_7 (any_subA rfl)) (show inrJ (x7_3) from j7_0))
    · refine Ew_of (pcₚ := 13) (fun _ => x_lload_n rfl l7_3) ?_
      refine Ew_of (pcₚ := 15) (fun _ => x_bipush (z := 8) rfl (by decide)) ?_
      refine w_lshlA rfl (fun z2 gz2 => ?_)
      refine Ew_of (pcₚ := 17) (fun _ => x_aload_n rfl l7_0) ?_
      refine w_gT H (o := 6) (t := 1) rfl (H.perm 6 rfl) rfl rfl rfl rfl rfl rfl ?_
      refine w_gT H (o := 1) (t := 14) rfl (H.perm 1 rfl) rfl rfl rfl rfl rfl rfl ?_
      refine Ew_of (pcₚ := 24) (fun _ => x_iload_n rfl l7_1) ?_
      refine Ew_of (pcₚ := 26) (fun _ => x_iload rfl l7_5) ?_
      refine w_iadd rfl ?_
      refine w_lI H (o := 14) (n := 65536) rfl (H.perm 14 rfl) rfl rfl (H.fix 14 rfl rfl) (show 0 ≤ (a1 + x7_5) ∧ (a1 + x7_5) < ((65536 : Nat) : Int) from q_193 b1 h2 j7_2) (by decide) (fun v3 ev3 qv3 => ?_)
      have qv3 : (0 : Int) ≤ v3 ∧ v3 ≤ 255 := qv3
      have ev3 : (A 14) ((a1 + x7_5)) = v3 := (congrFun (funext (hA_7 14 rfl)) ((a1 + x7_5))).symm.trans ev3
      refine w_i2l rfl (show inr (v3) from q_38 qv3) ?_
      refine w_lorA rfl (fun z4 gz4 => ?_)
      refine Ew_of (pcₚ := 31) (fun _ => x_lstore_n rfl) ?_
      refine Ew_of (pcₚ := 34) (fun _ => x_iinc (len := 3) rfl (rk2_o (l7_5) rfl rfl)) ?_
      refine Ew_of (pcₚ := 7) (fun _ => x_goto rfl rfl) ?_
      exact ih7 _ (msE hm7 q_176 (q_177 b1)) _ σ _ _ (z4) ((x7_5 + (-1))) (rk_o (rk2_o (l7_0) rfl rfl) rfl rfl) (rk_o (rk2_o (l7_1) rfl rfl) rfl rfl) (rk_o (rk2_s) rfl rfl) (rk_s) H (hS_7) (hA_7)   (show inrJ (z4) from gz4) (show inr ((x7_5 + (-1))) from q_175 b1 j7_1) (show ((x7_5 + (-1))) ≤ ((a2 - 1)) from q_174 j7_2) (show ((a2 - 1)) ≤ ((x7_5 + (-1))) ∨ ((-1)) ≤ ((x7_5 + (-1))) from q_173 b1) rfl
/-- Writer.sum -/
theorem M453 {σ0 σ : rS} {D N : Nat → Nat} {F : hF} {A : hA} {d c s : Nat} {Q : wQ} (H : HS σ0 σ D N F A)  (k : ∀ (z : Int) σ Fₚ Aₚ, HS σ0 σ D N Fₚ Aₚ → SF [] F Fₚ → SA [86] A Aₚ → (inrJ (z)) → Q (some (J z)) σ c s) : Ew 453 (d + 1) 0 (rargs 0 [.ref (D 6)]) [] σ c s Q := by
  refine Ew_of (pcₚ := 3) (fun _ => x_ldc2 (z := -7046029288634856825) rfl (by decide)) ?_
  refine Ew_of (pcₚ := 4) (fun _ => x_lstore_n rfl) ?_
  refine Ew_of (pcₚ := 7) (fun _ => x_ldc2 (z := -4417276706812531889) rfl (by decide)) ?_
  refine Ew_of (pcₚ := 8) (fun _ => x_lstore_n rfl) ?_
  refine Ew_of (pcₚ := 11) (fun _ => x_ldc2 (z := 1609587929392839161) rfl (by decide)) ?_
  refine Ew_of (pcₚ := 13) (fun _ => x_lstore rfl) ?_
  refine Ew_of (pcₚ := 16) (fun _ => x_ldc2 (z := -8796714831421723037) rfl (by decide)) ?_
  refine Ew_of (pcₚ := 18) (fun _ => x_lstore rfl) ?_
  refine Ew_of (pcₚ := 21) (fun _ => x_ldc2 (z := 2870177450012600261) rfl (by decide)) ?_
  refine Ew_of (pcₚ := 23) (fun _ => x_lstore rfl) ?_
  refine Ew_of (pcₚ := 25) (fun _ => x_lload rfl rk2_s) ?_
  refine Ew_of (pcₚ := 27) (fun _ => x_lstore rfl) ?_
  refine Ew_of (pcₚ := 28) (fun _ => x_iconst rfl) ?_
  refine Ew_of (pcₚ := 30) (fun _ => x_istore rfl) ?_
  have r1 : (0 : Int) ≤ F 1 1 ∧ F 1 1 ≤ 65536 := H.frng 1 1
  have hc231 : ∀ (ls : rO) (σ : rS) (F_c231 : hF) (A_c231 : hA) (xc231_11 : Int) (xc231_13 : Int), rlook ls 0 = some (.ref (D 6)) → rlook ls 1 = some (J ((-7046029288634856825))) → rlook ls 3 = some (J ((-4417276706812531889))) → rlook ls 5 = some (J (1609587929392839161)) → rlook ls 7 = some (J ((-8796714831421723037))) → rlook ls 9 = some (J (2870177450012600261)) → rlook ls 11 = some (J (xc231_11)) → rlook ls 13 = some (I (xc231_13)) → HS σ0 σ D N F_c231 A_c231 → SF [] F F_c231 → SA [86] A A_c231 → (inrJ (xc231_11)) → (inr (xc231_13)) → (0 ≤ (xc231_13) ∧ (xc231_13) ≤ (F 1 1)) → Ew 453 (d + 1) 231 ls [] σ c s Q := by
   as_aux_lemma =>
    intro  ls σ F_c231 A_c231 xc231_11 xc231_13 lc231_0 lc231_1 lc231_3 lc231_5 lc231_7 lc231_9 lc231_11 lc231_13 H hS_c231 hA_c231   jc231_0 jc231_1 jc231_2
    refine Ew_of (pcₚ := 233) (fun _ => x_lload rfl lc231_11) ?_
    refine Ew_of (pcₚ := 234) (fun _ => x_aload_n rfl lc231_0) ?_
    refine w_gT H (o := 6) (t := 1) rfl (H.perm 6 rfl) rfl rfl rfl rfl rfl rfl ?_
    refine w_gI H (o := 1) (w := F 1 1) rfl (H.perm 1 rfl) rfl rfl rfl (fun _ => rfl) (hS_c231 1 1 rfl) ?_
    refine w_i2l rfl (show inr (F 1 1) from q_12 r1) ?_
    refine w_laddA rfl (fun z2 gz2 => ?_)
    refine Ew_of (pcₚ := 244) (fun _ => x_lstore rfl) ?_
    suffices hl244 : ∀ (m : Nat), ∀ (ls : rO) (σ : rS) (F_244 : hF) (A_244 : hA) (x244_11 : Int) (x244_13 : Int), rlook ls 0 = some (.ref (D 6)) → rlook ls 1 = some (J ((-7046029288634856825))) → rlook ls 3 = some (J ((-4417276706812531889))) → rlook ls 5 = some (J (1609587929392839161)) → rlook ls 7 = some (J ((-8796714831421723037))) → rlook ls 9 = some (J (2870177450012600261)) → rlook ls 11 = some (J (x244_11)) → rlook ls 13 = some (I (x244_13)) → HS σ0 σ D N F_244 A_244 → SF [] F_c231 F_244 → SA [] A_c231 A_244 → (inrJ (x244_11)) → (inr (x244_13)) → (0 ≤ (x244_13) ∧ (x244_13) ≤ (F 1 1)) → ((F 1 1) - (x244_13)).toNat = m → Ew 453 (d + 1) 244 ls [] σ c s Q from
      hl244 _ _ σ _ _ (z2) (xc231_13) (rk2_o (lc231_0) rfl rfl) (rk2_o (lc231_1) rfl rfl) (rk2_o (lc231_3) rfl rfl) (rk2_o (lc231_5) rfl rfl) (rk2_o (lc231_7) rfl rfl) (rk2_o (lc231_9) rfl rfl) (rk2_s) (rk2_o (lc231_13) rfl rfl) H (SF_refl) (SA_refl)   (show inrJ (z2) from gz2) (show inr (xc231_13) from jc231_1) (show 0 ≤ (xc231_13) ∧ (xc231_13) ≤ (F 1 1) from jc231_2) rfl
    as_aux_lemma =>
    intro m
    induction m using Nat.strongRecOn with
    | _ m ih244 =>
      intro ls σ F_244 A_244 x244_11 x244_13 l244_0 l244_1 l244_3 l244_5 l244_7 l244_9 l244_11 l244_13 H hS_244 hA_244   j244_0 j244_1 j244_2 hm244
      refine Ew_of (pcₚ := 245) (fun _ => x_aload_n rfl l244_0) ?_
      refine w_gT H (o := 6) (t := 1) rfl (H.perm 6 rfl) rfl rfl rfl rfl rfl rfl ?_
      refine w_gI H (o := 1) (w := F 1 1) rfl (H.perm 1 rfl) rfl rfl rfl (fun _ => rfl) ((hS_244 1 1 rfl).trans (hS_c231 1 1 rfl)) ?_
      refine Ew_of (pcₚ := 253) (fun _ => x_iload rfl l244_13) ?_
      refine w_isub rfl ?_
      refine Ew_of (pcₚ := 256) (fun _ => x_bipush (z := 8) rfl (by decide)) ?_
      refine w_icmplt (t := 297) rfl rfl (show inr ((F 1 1 - x244_13)) from q_1884 j244_2 r1) (show inr (8) from q_96) (fun b3 => ?_) (fun b3 => ?_)
      · refine Ew_of (pcₚ := 298) (fun _ => x_aload_n rfl l244_0) ?_
        refine w_gT H (o := 6) (t := 1) rfl (H.perm 6 rfl) rfl rfl rfl rfl rfl rfl ?_
        refine w_gI H (o := 1) (w := F 1 1) rfl (H.perm 1 rfl) rfl rfl rfl (fun _ => rfl) ((hS_244 1 1 rfl).trans (hS_c231 1 1 rfl)) ?_
        refine Ew_of (pcₚ := 306) (fun _ => x_iload rfl l244_13) ?_
        refine w_isub rfl ?_
        refine Ew_of (pcₚ := 308) (fun _ => x_iconst rfl) ?_
        refine w_icmplt (t := 338) rfl rfl (show inr ((F 1 1 - x244_13)) from q_1885 b3 j244_2) (show inr (4) from q_2) (fun b4 => ?_) (fun b4 => ?_)
        · suffices hl338 : ∀ (m : Nat), ∀ (ls : rO) (σ : rS) (F_338 : hF) (A_338 : hA) (x338_11 : Int) (x338_13 : Int), rlook ls 0 = some (.ref (D 6)) → rlook ls 1 = some (J ((-7046029288634856825))) → rlook ls 3 = some (J ((-4417276706812531889))) → rlook ls 5 = some (J (1609587929392839161)) → rlook ls 9 = some (J (2870177450012600261)) → rlook ls 11 = some (J (x338_11)) → rlook ls 13 = some (I (x338_13)) → HS σ0 σ D N F_338 A_338 → SF [] F_244 F_338 → SA [] A_244 A_338 → (inrJ (x338_11)) → (inr (x338_13)) → (0 ≤ (x338_13) ∧ (x338_13) ≤ (F 1 1)) → ((F 1 1) - (x338_13)).toNat = m → Ew 453 (d + 1) 338 ls [] σ c s Q from
            hl338 _ _ σ _ _ (x244_11) (x244_13) (l244_0) (l244_1) (l244_3) (l244_5) (l244_9) (l244_11) (l244_13) H (SF_refl) (SA_refl)   (show inrJ (x244_11) from j244_0) (show inr (x244_13) from j244_1) (show 0 ≤ (x244_13) ∧ (x244_13) ≤ (F 1 1) from j244_2) rfl
          as_aux_lemma =>
          intro m
          induction m using Nat.strongRecOn with
          | _ m ih338 =>
            intro ls σ F_338 A_338 x338_11 x338_13 l338_0 l338_1 l338_3 l338_5 l338_9 l338_11 l338_13 H hS_338 hA_338   j338_0 j338_1 j338_2 hm338
            refine Ew_of (pcₚ := 340) (fun _ => x_iload rfl l338_13) ?_
            refine Ew_of (pcₚ := 341) (fun _ => x_aload_n rfl l338_0) ?_
            refine w_gT H (o := 6) (t := 1) rfl (H.perm 6 rfl) rfl rfl rfl rfl rfl rfl ?_
            refine w_gI H (o := 1) (w := F 1 1) rfl (H.perm 1 rfl) rfl rfl rfl (fun _ => rfl) (((hS_338 1 1 rfl).trans (hS_244 1 1 rfl)).trans (hS_c231 1 1 rfl)) ?_
            refine w_icmpge (t := 382) rfl rfl (show inr (x338_13) from j338_1) (show inr (F 1 1) from q_12 r1) (fun b5 => ?_) (fun b5 => ?_)
            · refine Ew_of (pcₚ := 384) (fun _ => x_lload rfl l338_11) ?_
              refine Ew_of (pcₚ := 386) (fun _ => x_lload rfl l338_11) ?_
              refine Ew_of (pcₚ := 388) (fun _ => x_bipush (z := 33) rfl (by decide)) ?_
              refine w_lushrA rfl (fun z6 gz6 => ?_)
              refine w_lxorA rfl (fun z7 gz7 => ?_)
              refine Ew_of (pcₚ := 391) (fun _ => x_lload_n rfl l338_3) ?_
              refine w_lmulA rfl (fun z8 gz8 => ?_)
              refine Ew_of (pcₚ := 394) (fun _ => x_lstore rfl) ?_
              refine Ew_of (pcₚ := 396) (fun _ => x_lload rfl rk2_s) ?_
              refine Ew_of (pcₚ := 398) (fun _ => x_lload rfl rk2_s) ?_
              refine Ew_of (pcₚ := 400) (fun _ => x_bipush (z := 29) rfl (by decide)) ?_
              refine w_lushrA rfl (fun z9 gz9 => ?_)
              refine w_lxorA rfl (fun z10 gz10 => ?_)
              refine Ew_of (pcₚ := 404) (fun _ => x_lload rfl (rk2_o (l338_5) rfl rfl)) ?_
              refine w_lmulA rfl (fun z11 gz11 => ?_)
              refine Ew_of (pcₚ := 407) (fun _ => x_lstore rfl) ?_
              refine Ew_of (pcₚ := 409) (fun _ => x_lload rfl rk2_s) ?_
              refine Ew_of (pcₚ := 411) (fun _ => x_lload rfl rk2_s) ?_
              refine Ew_of (pcₚ := 413) (fun _ => x_bipush (z := 32) rfl (by decide)) ?_
              refine w_lushrA rfl (fun z12 gz12 => ?_)
              refine w_lxorA rfl (fun z13 gz13 => ?_)
              exact w_lreturn rfl (k (z13) σ _ _ H (SF_trans (SF_trans (SF_trans (SF_refl) hS_c231 (any_sub rfl)) hS_244 (any_sub rfl)) hS_338 (any_sub rfl)) (SA_trans (SA_trans (SA_trans (SA_refl) hA_c231 (any_subA rfl)) hA_244 (any_subA rfl)) hA_338 (any_subA rfl)) (show inrJ (z13) from gz13))
            · refine Ew_of (pcₚ := 352) (fun _ => x_lload rfl l338_11) ?_
              refine Ew_of (pcₚ := 353) (fun _ => x_aload_n rfl l338_0) ?_
              refine w_gT H (o := 6) (t := 1) rfl (H.perm 6 rfl) rfl rfl rfl rfl rfl rfl ?_
              refine w_gT H (o := 1) (t := 14) rfl (H.perm 1 rfl) rfl rfl rfl rfl rfl rfl ?_
              refine Ew_of (pcₚ := 361) (fun _ => x_iload rfl l338_13) ?_
              refine w_lI H (o := 14) (n := 65536) rfl (H.perm 14 rfl) rfl rfl (H.fix 14 rfl rfl) (show 0 ≤ x338_13 ∧ x338_13 < ((65536 : Nat) : Int) from q_1886 b5 j338_2 r1) (by decide) (fun v14 ev14 qv14 => ?_)
              have qv14 : (0 : Int) ≤ v14 ∧ v14 ≤ 255 := qv14
              have ev14 : (A 14) (x338_13) = v14 := (congrFun ((funext (hA_338 14 rfl)).trans ((funext (hA_244 14 rfl)).trans (funext (hA_c231 14 rfl)))) (x338_13)).symm.trans ev14
              refine w_i2l rfl (show inr (v14) from q_38 qv14) ?_
              refine Ew_of (pcₚ := 365) (fun _ => x_lload rfl l338_9) ?_
              refine w_lmulA rfl (fun z15 gz15 => ?_)
              refine w_lxorA rfl (fun z16 gz16 => ?_)
              refine Ew_of (pcₚ := 369) (fun _ => x_bipush (z := 11) rfl (by decide)) ?_
              refine w_stat24 rfl rfl (by rfl) (M451 H (show inrJ (z16) from gz16) (show inr (11) from q_67) (fun z21 σ F17 A18 H hS19 hA20 pz21_0 => ⟨rfl, ?_⟩))
              refine Ew_of (pcₚ := 373) (fun _ => x_lload_n rfl l338_1) ?_
              refine w_lmulA rfl (fun z22 gz22 => ?_)
              refine Ew_of (pcₚ := 376) (fun _ => x_lstore rfl) ?_
              refine Ew_of (pcₚ := 379) (fun _ => x_iinc (len := 3) rfl (rk2_o (l338_13) rfl rfl)) ?_
              refine Ew_of (pcₚ := 338) (fun _ => x_goto rfl rfl) ?_
              exact ih338 _ (msE hm338 q_31 (q_34 b5)) _ σ _ _ (z22) ((x338_13 + 1)) (rk_o (rk2_o (l338_0) rfl rfl) rfl rfl) (rk_o (rk2_o (l338_1) rfl rfl) rfl rfl) (rk_o (rk2_o (l338_3) rfl rfl) rfl rfl) (rk_o (rk2_o (l338_5) rfl rfl) rfl rfl) (rk_o (rk2_o (l338_9) rfl rfl) rfl rfl) (rk_o (rk2_s) rfl rfl) (rk_s) H (SF_trans (hS_338) hS19 (any_sub rfl)) (SA_trans (hA_338) hA20 (any_subA rfl))   (show inrJ (z22) from gz22) (show inr ((x338_13 + 1)) from q_1887 b5 j338_2 r1) (show 0 ≤ ((x338_13 + 1)) ∧ ((x338_13 + 1)) ≤ (F 1 1) from q_1144 b5 j338_2) rfl
        · refine Ew_of (pcₚ := 313) (fun _ => x_lload rfl l244_11) ?_
          refine Ew_of (pcₚ := 314) (fun _ => x_aload_n rfl l244_0) ?_
          refine Ew_of (pcₚ := 316) (fun _ => x_iload rfl l244_13) ?_
          refine Ew_of (pcₚ := 317) (fun _ => x_iconst rfl) ?_
          refine w_inv H (o := 6) rfl rfl rfl (H.perm 6 rfl) rfl rfl (by rfl) (M452 H (show inr (x244_13) from j244_1) (show inr (4) from q_2) (show 0 ≤ (x244_13) ∧ 0 ≤ (4) ∧ (4) ≤ 8 ∧ (x244_13) + (4) ≤ 65536 from q_1888 b4 j244_2 r1) (fun z27 σ F23 A24 H hS25 hA26 pz27_0 => ⟨rfl, ?_⟩))
          refine Ew_of (pcₚ := 321) (fun _ => x_lload_n rfl l244_1) ?_
          refine w_lmulA rfl (fun z28 gz28 => ?_)
          refine w_lxorA rfl (fun z29 gz29 => ?_)
          refine Ew_of (pcₚ := 325) (fun _ => x_bipush (z := 23) rfl (by decide)) ?_
          refine w_stat24 rfl rfl (by rfl) (M451 H (show inrJ (z29) from gz29) (show inr (23) from q_604) (fun z34 σ F30 A31 H hS32 hA33 pz34_0 => ⟨rfl, ?_⟩))
          refine Ew_of (pcₚ := 329) (fun _ => x_lload_n rfl l244_3) ?_
          refine w_lmulA rfl (fun z35 gz35 => ?_)
          refine Ew_of (pcₚ := 332) (fun _ => x_lload rfl l244_5) ?_
          refine w_laddA rfl (fun z36 gz36 => ?_)
          refine Ew_of (pcₚ := 335) (fun _ => x_lstore rfl) ?_
          refine Ew_of (pcₚ := 338) (fun _ => x_iinc (len := 3) rfl (rk2_o (l244_13) rfl rfl)) ?_
          suffices hl338 : ∀ (m : Nat), ∀ (ls : rO) (σ : rS) (F_338 : hF) (A_338 : hA) (x338_11 : Int) (x338_13 : Int), rlook ls 0 = some (.ref (D 6)) → rlook ls 1 = some (J ((-7046029288634856825))) → rlook ls 3 = some (J ((-4417276706812531889))) → rlook ls 5 = some (J (1609587929392839161)) → rlook ls 9 = some (J (2870177450012600261)) → rlook ls 11 = some (J (x338_11)) → rlook ls 13 = some (I (x338_13)) → HS σ0 σ D N F_338 A_338 → SF [] F30 F_338 → SA [] A31 A_338 → (inrJ (x338_11)) → (inr (x338_13)) → (0 ≤ (x338_13) ∧ (x338_13) ≤ (F 1 1)) → ((F 1 1) - (x338_13)).toNat = m → Ew 453 (d + 1) 338 ls [] σ c s Q from
            hl338 _ _ σ _ _ (z36) ((x244_13 + 4)) (rk_o (rk2_o (l244_0) rfl rfl) rfl rfl) (rk_o (rk2_o (l244_1) rfl rfl) rfl rfl) (rk_o (rk2_o (l244_3) rfl rfl) rfl rfl) (rk_o (rk2_o (l244_5) rfl rfl) rfl rfl) (rk_o (rk2_o (l244_9) rfl rfl) rfl rfl) (rk_o (rk2_s) rfl rfl) (rk_s) H (SF_refl) (SA_refl)   (show inrJ (z36) from gz36) (show inr ((x244_13 + 4)) from q_1890 b4 j244_2 r1) (show 0 ≤ ((x244_13 + 4)) ∧ ((x244_13 + 4)) ≤ (F 1 1) from q_1889 b4 j244_2) rfl
          as_aux_lemma =>
          intro m
          induction m using Nat.strongRecOn with
          | _ m ih338 =>
            intro ls σ F_338 A_338 x338_11 x338_13 l338_0 l338_1 l338_3 l338_5 l338_9 l338_11 l338_13 H hS_338 hA_338   j338_0 j338_1 j338_2 hm338
            refine Ew_of (pcₚ := 340) (fun _ => x_iload rfl l338_13) ?_
            refine Ew_of (pcₚ := 341) (fun _ => x_aload_n rfl l338_0) ?_
            refine w_gT H (o := 6) (t := 1) rfl (H.perm 6 rfl) rfl rfl rfl rfl rfl rfl ?_
            refine w_gI H (o := 1) (w := F 1 1) rfl (H.perm 1 rfl) rfl rfl rfl (fun _ => rfl) (((((hS_338 1 1 rfl).trans (hS32 1 1 rfl)).trans (hS25 1 1 rfl)).trans (hS_244 1 1 rfl)).trans (hS_c231 1 1 rfl)) ?_
            refine w_icmpge (t := 382) rfl rfl (show inr (x338_13) from j338_1) (show inr (F 1 1) from q_12 r1) (fun b37 => ?_) (fun b37 => ?_)
            · refine Ew_of (pcₚ := 384) (fun _ => x_lload rfl l338_11) ?_
              refine Ew_of (pcₚ := 386) (fun _ => x_lload rfl l338_11) ?_
              refine Ew_of (pcₚ := 388) (fun _ => x_bipush (z := 33) rfl (by decide)) ?_
              refine w_lushrA rfl (fun z38 gz38 => ?_)
              refine w_lxorA rfl (fun z39 gz39 => ?_)
              refine Ew_of (pcₚ := 391) (fun _ => x_lload_n rfl l338_3) ?_
              refine w_lmulA rfl (fun z40 gz40 => ?_)
              refine Ew_of (pcₚ := 394) (fun _ => x_lstore rfl) ?_
              refine Ew_of (pcₚ := 396) (fun _ => x_lload rfl rk2_s) ?_
              refine Ew_of (pcₚ := 398) (fun _ => x_lload rfl rk2_s) ?_
              refine Ew_of (pcₚ := 400) (fun _ => x_bipush (z := 29) rfl (by decide)) ?_
              refine w_lushrA rfl (fun z41 gz41 => ?_)
              refine w_lxorA rfl (fun z42 gz42 => ?_)
              refine Ew_of (pcₚ := 404) (fun _ => x_lload rfl (rk2_o (l338_5) rfl rfl)) ?_
              refine w_lmulA rfl (fun z43 gz43 => ?_)
              refine Ew_of (pcₚ := 407) (fun _ => x_lstore rfl) ?_
              refine Ew_of (pcₚ := 409) (fun _ => x_lload rfl rk2_s) ?_
              refine Ew_of (pcₚ := 411) (fun _ => x_lload rfl rk2_s) ?_
              refine Ew_of (pcₚ := 413) (fun _ => x_bipush (z := 32) rfl (by decide)) ?_
              refine w_lushrA rfl (fun z44 gz44 => ?_)
              refine w_lxorA rfl (fun z45 gz45 => ?_)
              exact w_lreturn rfl (k (z45) σ _ _ H (SF_trans (SF_trans (SF_trans (SF_trans (SF_trans (SF_refl) hS_c231 (any_sub rfl)) hS_244 (any_sub rfl)) hS25 (any_sub rfl)) hS32 (any_sub rfl)) hS_338 (any_sub rfl)) (SA_trans (SA_trans (SA_trans (SA_trans (SA_trans (SA_refl) hA_c231 (any_subA rfl)) hA_244 (any_subA rfl)) hA26 (any_subA rfl)) hA33 (any_subA rfl)) hA_338 (any_subA rfl)) (show inrJ (z45) from gz45))
            · refine Ew_of (pcₚ := 352) (fun _ => x_lload rfl l338_11) ?_
              refine Ew_of (pcₚ := 353) (fun _ => x_aload_n rfl l338_0) ?_
              refine w_gT H (o := 6) (t := 1) rfl (H.perm 6 rfl) rfl rfl rfl rfl rfl rfl ?_
              refine w_gT H (o := 1) (t := 14) rfl (H.perm 1 rfl) rfl rfl rfl rfl rfl rfl ?_
              refine Ew_of (pcₚ := 361) (fun _ => x_iload rfl l338_13) ?_
              refine w_lI H (o := 14) (n := 65536) rfl (H.perm 14 rfl) rfl rfl (H.fix 14 rfl rfl) (show 0 ≤ x338_13 ∧ x338_13 < ((65536 : Nat) : Int) from q_1886 b37 j338_2 r1) (by decide) (fun v46 ev46 qv46 => ?_)
              have qv46 : (0 : Int) ≤ v46 ∧ v46 ≤ 255 := qv46
              have ev46 : (A 14) (x338_13) = v46 := (congrFun ((funext (hA_338 14 rfl)).trans ((funext (hA33 14 rfl)).trans ((funext (hA26 14 rfl)).trans ((funext (hA_244 14 rfl)).trans (funext (hA_c231 14 rfl)))))) (x338_13)).symm.trans ev46
              refine w_i2l rfl (show inr (v46) from q_38 qv46) ?_
              refine Ew_of (pcₚ := 365) (fun _ => x_lload rfl l338_9) ?_
              refine w_lmulA rfl (fun z47 gz47 => ?_)
              refine w_lxorA rfl (fun z48 gz48 => ?_)
              refine Ew_of (pcₚ := 369) (fun _ => x_bipush (z := 11) rfl (by decide)) ?_
              refine w_stat24 rfl rfl (by rfl) (M451 H (show inrJ (z48) from gz48) (show inr (11) from q_67) (fun z53 σ F49 A50 H hS51 hA52 pz53_0 => ⟨rfl, ?_⟩))
              refine Ew_of (pcₚ := 373) (fun _ => x_lload_n rfl l338_1) ?_
              refine w_lmulA rfl (fun z54 gz54 => ?_)
              refine Ew_of (pcₚ := 376) (fun _ => x_lstore rfl) ?_
              refine Ew_of (pcₚ := 379) (fun _ => x_iinc (len := 3) rfl (rk2_o (l338_13) rfl rfl)) ?_
              refine Ew_of (pcₚ := 338) (fun _ => x_goto rfl rfl) ?_
              exact ih338 _ (msE hm338 q_31 (q_34 b37)) _ σ _ _ (z54) ((x338_13 + 1)) (rk_o (rk2_o (l338_0) rfl rfl) rfl rfl) (rk_o (rk2_o (l338_1) rfl rfl) rfl rfl) (rk_o (rk2_o (l338_3) rfl rfl) rfl rfl) (rk_o (rk2_o (l338_5) rfl rfl) rfl rfl) (rk_o (rk2_o (l338_9) rfl rfl) rfl rfl) (rk_o (rk2_s) rfl rfl) (rk_s) H (SF_trans (hS_338) hS51 (any_sub rfl)) (SA_trans (hA_338) hA52 (any_subA rfl))   (show inrJ (z54) from gz54) (show inr ((x338_13 + 1)) from q_1887 b37 j338_2 r1) (show 0 ≤ ((x338_13 + 1)) ∧ ((x338_13 + 1)) ≤ (F 1 1) from q_1144 b37 j338_2) rfl
      · refine Ew_of (pcₚ := 261) (fun _ => x_lload rfl l244_11) ?_
        refine Ew_of (pcₚ := 262) (fun _ => x_aload_n rfl l244_0) ?_
        refine Ew_of (pcₚ := 264) (fun _ => x_iload rfl l244_13) ?_
        refine Ew_of (pcₚ := 266) (fun _ => x_bipush (z := 8) rfl (by decide)) ?_
        refine w_inv H (o := 6) rfl rfl rfl (H.perm 6 rfl) rfl rfl (by rfl) (M452 H (show inr (x244_13) from j244_1) (show inr (8) from q_96) (show 0 ≤ (x244_13) ∧ 0 ≤ (8) ∧ (8) ≤ 8 ∧ (x244_13) + (8) ≤ 65536 from q_1891 b3 j244_2 r1) (fun z59 σ F55 A56 H hS57 hA58 pz59_0 => ⟨rfl, ?_⟩))
        refine Ew_of (pcₚ := 270) (fun _ => x_lload_n rfl l244_3) ?_
        refine w_lmulA rfl (fun z60 gz60 => ?_)
        refine Ew_of (pcₚ := 273) (fun _ => x_bipush (z := 31) rfl (by decide)) ?_
        refine w_stat24 rfl rfl (by rfl) (M451 H (show inrJ (z60) from gz60) (show inr (31) from q_62) (fun z65 σ F61 A62 H hS63 hA64 pz65_0 => ⟨rfl, ?_⟩))
        refine Ew_of (pcₚ := 277) (fun _ => x_lload_n rfl l244_1) ?_
        refine w_lmulA rfl (fun z66 gz66 => ?_)
        refine w_lxorA rfl (fun z67 gz67 => ?_)
        refine Ew_of (pcₚ := 281) (fun _ => x_bipush (z := 27) rfl (by decide)) ?_
        refine w_stat24 rfl rfl (by rfl) (M451 H (show inrJ (z67) from gz67) (show inr (27) from q_608) (fun z72 σ F68 A69 H hS70 hA71 pz72_0 => ⟨rfl, ?_⟩))
        refine Ew_of (pcₚ := 285) (fun _ => x_lload_n rfl l244_1) ?_
        refine w_lmulA rfl (fun z73 gz73 => ?_)
        refine Ew_of (pcₚ := 288) (fun _ => x_lload rfl l244_7) ?_
        refine w_laddA rfl (fun z74 gz74 => ?_)
        refine Ew_of (pcₚ := 291) (fun _ => x_lstore rfl) ?_
        refine Ew_of (pcₚ := 294) (fun _ => x_iinc (len := 3) rfl (rk2_o (l244_13) rfl rfl)) ?_
        refine Ew_of (pcₚ := 244) (fun _ => x_goto rfl rfl) ?_
        exact ih244 _ (msE hm244 q_1252 (q_1253 b3)) _ σ _ _ (z74) ((x244_13 + 8)) (rk_o (rk2_o (l244_0) rfl rfl) rfl rfl) (rk_o (rk2_o (l244_1) rfl rfl) rfl rfl) (rk_o (rk2_o (l244_3) rfl rfl) rfl rfl) (rk_o (rk2_o (l244_5) rfl rfl) rfl rfl) (rk_o (rk2_o (l244_7) rfl rfl) rfl rfl) (rk_o (rk2_o (l244_9) rfl rfl) rfl rfl) (rk_o (rk2_s) rfl rfl) (rk_s) H (SF_trans (SF_trans (SF_trans (hS_244) hS57 (any_sub rfl)) hS63 (any_sub rfl)) hS70 (any_sub rfl)) (SA_trans (SA_trans (SA_trans (hA_244) hA58 (any_subA rfl)) hA64 (any_subA rfl)) hA71 (any_subA rfl))   (show inrJ (z74) from gz74) (show inr ((x244_13 + 8)) from q_1893 b3 j244_2 r1) (show 0 ≤ ((x244_13 + 8)) ∧ ((x244_13 + 8)) ≤ (F 1 1) from q_1892 b3 j244_2) rfl
  refine Ew_of (pcₚ := 31) (fun _ => x_aload_n rfl (rk_o (rk2_o (rk2_o (rk2_o (rk2_o (rk2_o (rk2_o (rfl) rfl rfl) rfl rfl) rfl rfl) rfl rfl) rfl rfl) rfl rfl) rfl rfl)) ?_
  refine w_gT H (o := 6) (t := 1) rfl (H.perm 6 rfl) rfl rfl rfl rfl rfl rfl ?_
  refine w_gI H (o := 1) (w := F 1 1) rfl (H.perm 1 rfl) rfl rfl rfl (fun _ => rfl) rfl ?_
  refine Ew_of (pcₚ := 39) (fun _ => x_bipush (z := 32) rfl (by decide)) ?_
  refine w_icmplt (t := 231) rfl rfl (show inr (F 1 1) from q_12 r1) (show inr (32) from q_417) (fun b75 => ?_) (fun b75 => ?_)
  · exact hc231  _ σ _ _ (2870177450012600261) (0) (rk_o (rk2_o (rk2_o (rk2_o (rk2_o (rk2_o (rk2_o (rfl) rfl rfl) rfl rfl) rfl rfl) rfl rfl) rfl rfl) rfl rfl) rfl rfl) (rk_o (rk2_o (rk2_o (rk2_o (rk2_o (rk2_o (rk2_s) rfl rfl) rfl rfl) rfl rfl) rfl rfl) rfl rfl) rfl rfl) (rk_o (rk2_o (rk2_o (rk2_o (rk2_o (rk2_s) rfl rfl) rfl rfl) rfl rfl) rfl rfl) rfl rfl) (rk_o (rk2_o (rk2_o (rk2_o (rk2_s) rfl rfl) rfl rfl) rfl rfl) rfl rfl) (rk_o (rk2_o (rk2_o (rk2_s) rfl rfl) rfl rfl) rfl rfl) (rk_o (rk2_o (rk2_s) rfl rfl) rfl rfl) (rk_o (rk2_s) rfl rfl) (rk_s) H (SF_refl) (SA_refl)   (show inrJ (2870177450012600261) from q_1254) (show inr (0) from q_20) (show 0 ≤ (0) ∧ (0) ≤ (F 1 1) from q_912 r1)
  · refine Ew_of (pcₚ := 43) (fun _ => x_aload_n rfl (rk_o (rk2_o (rk2_o (rk2_o (rk2_o (rk2_o (rk2_o (rfl) rfl rfl) rfl rfl) rfl rfl) rfl rfl) rfl rfl) rfl rfl) rfl rfl)) ?_
    refine w_gT H (o := 6) (t := 86) rfl (H.perm 6 rfl) rfl rfl rfl rfl rfl rfl ?_
    refine Ew_of (pcₚ := 47) (fun _ => x_iconst rfl) ?_
    refine Ew_of (pcₚ := 48) (fun _ => x_lload_n rfl (rk_o (rk2_o (rk2_o (rk2_o (rk2_o (rk2_o (rk2_s) rfl rfl) rfl rfl) rfl rfl) rfl rfl) rfl rfl) rfl rfl)) ?_
    refine Ew_of (pcₚ := 49) (fun _ => x_lload_n rfl (rk_o (rk2_o (rk2_o (rk2_o (rk2_o (rk2_s) rfl rfl) rfl rfl) rfl rfl) rfl rfl) rfl rfl)) ?_
    refine w_laddA rfl (fun z76 gz76 => ?_)
    refine w_sJ H (o := 86) (n := 4) rfl (H.perm 86 rfl) rfl rfl (H.fix 86 rfl rfl) (show 0 ≤ 0 ∧ 0 < ((4 : Nat) : Int) from q_348) (by decide) (show (-9223372036854775808 : Int) ≤ z76 ∧ z76 ≤ 9223372036854775807 by omega) (fun σ H => ?_)
    refine Ew_of (pcₚ := 52) (fun _ => x_aload_n rfl (rk_o (rk2_o (rk2_o (rk2_o (rk2_o (rk2_o (rk2_o (rfl) rfl rfl) rfl rfl) rfl rfl) rfl rfl) rfl rfl) rfl rfl) rfl rfl)) ?_
    refine w_gT H (o := 6) (t := 86) rfl (H.perm 6 rfl) rfl rfl rfl rfl rfl rfl ?_
    refine Ew_of (pcₚ := 56) (fun _ => x_iconst rfl) ?_
    refine Ew_of (pcₚ := 57) (fun _ => x_lload_n rfl (rk_o (rk2_o (rk2_o (rk2_o (rk2_o (rk2_s) rfl rfl) rfl rfl) rfl rfl) rfl rfl) rfl rfl)) ?_
    refine w_sJ H (o := 86) (n := 4) rfl (H.perm 86 rfl) rfl rfl (H.fix 86 rfl rfl) (show 0 ≤ 1 ∧ 1 < ((4 : Nat) : Int) from q_350) (by decide) (show (-9223372036854775808 : Int) ≤ (-4417276706812531889) ∧ (-4417276706812531889) ≤ 9223372036854775807 from q_1255) (fun σ H => ?_)
    refine Ew_of (pcₚ := 59) (fun _ => x_aload_n rfl (rk_o (rk2_o (rk2_o (rk2_o (rk2_o (rk2_o (rk2_o (rfl) rfl rfl) rfl rfl) rfl rfl) rfl rfl) rfl rfl) rfl rfl) rfl rfl)) ?_
    refine w_gT H (o := 6) (t := 86) rfl (H.perm 6 rfl) rfl rfl rfl rfl rfl rfl ?_
    refine Ew_of (pcₚ := 63) (fun _ => x_iconst rfl) ?_
    refine Ew_of (pcₚ := 64) (fun _ => x_lconst (z := 0) rfl (by decide)) ?_
    refine w_sJ H (o := 86) (n := 4) rfl (H.perm 86 rfl) rfl rfl (H.fix 86 rfl rfl) (show 0 ≤ 2 ∧ 2 < ((4 : Nat) : Int) from q_352) (by decide) (show (-9223372036854775808 : Int) ≤ 0 ∧ 0 ≤ 9223372036854775807 from q_351) (fun σ H => ?_)
    refine Ew_of (pcₚ := 66) (fun _ => x_aload_n rfl (rk_o (rk2_o (rk2_o (rk2_o (rk2_o (rk2_o (rk2_o (rfl) rfl rfl) rfl rfl) rfl rfl) rfl rfl) rfl rfl) rfl rfl) rfl rfl)) ?_
    refine w_gT H (o := 6) (t := 86) rfl (H.perm 6 rfl) rfl rfl rfl rfl rfl rfl ?_
    refine Ew_of (pcₚ := 70) (fun _ => x_iconst rfl) ?_
    refine Ew_of (pcₚ := 71) (fun _ => x_lconst (z := 0) rfl (by decide)) ?_
    refine Ew_of (pcₚ := 72) (fun _ => x_lload_n rfl (rk_o (rk2_o (rk2_o (rk2_o (rk2_o (rk2_o (rk2_s) rfl rfl) rfl rfl) rfl rfl) rfl rfl) rfl rfl) rfl rfl)) ?_
    refine w_lsubA rfl (fun z77 gz77 => ?_)
    refine w_sJ H (o := 86) (n := 4) rfl (H.perm 86 rfl) rfl rfl (H.fix 86 rfl rfl) (show 0 ≤ 3 ∧ 3 < ((4 : Nat) : Int) from q_353) (by decide) (show (-9223372036854775808 : Int) ≤ z77 ∧ z77 ≤ 9223372036854775807 by omega) (fun σ H => ?_)
    suffices hl74 : ∀ (m : Nat), ∀ (ls : rO) (σ : rS) (F_74 : hF) (A_74 : hA) (x74_13 : Int), rlook ls 0 = some (.ref (D 6)) → rlook ls 1 = some (J ((-7046029288634856825))) → rlook ls 3 = some (J ((-4417276706812531889))) → rlook ls 5 = some (J (1609587929392839161)) → rlook ls 7 = some (J ((-8796714831421723037))) → rlook ls 9 = some (J (2870177450012600261)) → rlook ls 13 = some (I (x74_13)) → HS σ0 σ D N F_74 A_74 → SF [] F F_74 → SA [86] (updA (updA (updA (updA A 86 (0) (z76)) 86 (1) ((-4417276706812531889))) 86 (2) (0)) 86 (3) (z77)) A_74 → (inr (x74_13)) → (0 ≤ (x74_13) ∧ (x74_13) ≤ (F 1 1)) → ((F 1 1) - (x74_13)).toNat = m → Ew 453 (d + 1) 74 ls [] σ c s Q from
      hl74 _ _ σ _ _ (0) (rk_o (rk2_o (rk2_o (rk2_o (rk2_o (rk2_o (rk2_o (rfl) rfl rfl) rfl rfl) rfl rfl) rfl rfl) rfl rfl) rfl rfl) rfl rfl) (rk_o (rk2_o (rk2_o (rk2_o (rk2_o (rk2_o (rk2_s) rfl rfl) rfl rfl) rfl rfl) rfl rfl) rfl rfl) rfl rfl) (rk_o (rk2_o (rk2_o (rk2_o (rk2_o (rk2_s) rfl rfl) rfl rfl) rfl rfl) rfl rfl) rfl rfl) (rk_o (rk2_o (rk2_o (rk2_o (rk2_s) rfl rfl) rfl rfl) rfl rfl) rfl rfl) (rk_o (rk2_o (rk2_o (rk2_s) rfl rfl) rfl rfl) rfl rfl) (rk_o (rk2_o (rk2_s) rfl rfl) rfl rfl) (rk_s) H (SF_refl) (SA_refl)   (show inr (0) from q_20) (show 0 ≤ (0) ∧ (0) ≤ (F 1 1) from q_912 r1) rfl
    as_aux_lemma =>
    intro m
    induction m using Nat.strongRecOn with
    | _ m ih74 =>
      intro ls σ F_74 A_74 x74_13 l74_0 l74_1 l74_3 l74_5 l74_7 l74_9 l74_13 H hS_74 hA_74   j74_0 j74_1 hm74
      refine Ew_of (pcₚ := 75) (fun _ => x_aload_n rfl l74_0) ?_
      refine w_gT H (o := 6) (t := 1) rfl (H.perm 6 rfl) rfl rfl rfl rfl rfl rfl ?_
      refine w_gI H (o := 1) (w := F 1 1) rfl (H.perm 1 rfl) rfl rfl rfl (fun _ => rfl) (hS_74 1 1 rfl) ?_
      refine Ew_of (pcₚ := 83) (fun _ => x_iload rfl l74_13) ?_
      refine w_isub rfl ?_
      refine Ew_of (pcₚ := 86) (fun _ => x_bipush (z := 32) rfl (by decide)) ?_
      refine w_icmplt (t := 142) rfl rfl (show inr ((F 1 1 - x74_13)) from q_1884 j74_1 r1) (show inr (32) from q_417) (fun b78 => ?_) (fun b78 => ?_)
      · refine Ew_of (pcₚ := 143) (fun _ => x_aload_n rfl l74_0) ?_
        refine w_gT H (o := 6) (t := 86) rfl (H.perm 6 rfl) rfl rfl rfl rfl rfl rfl ?_
        refine Ew_of (pcₚ := 147) (fun _ => x_iconst rfl) ?_
        refine w_lJ H (o := 86) (n := 4) rfl (H.perm 86 rfl) rfl rfl (H.fix 86 rfl rfl) (show 0 ≤ 0 ∧ 0 < ((4 : Nat) : Int) from q_348) (by decide) (fun v79 ev79 qv79 => ?_)
        have qv79 : (-9223372036854775808 : Int) ≤ v79 ∧ v79 ≤ 9223372036854775807 := qv79
        have ev79 : (A_74 86) (0) = v79 := (congrFun (rfl : A_74 86 = A_74 86) (0)).symm.trans ev79
        refine Ew_of (pcₚ := 149) (fun _ => x_iconst rfl) ?_
        refine w_stat24 rfl rfl (by rfl) (M451 H (show inrJ (v79) by omega) (show inr (1) from q_23) (fun z84 σ F80 A81 H hS82 hA83 pz84_0 => ⟨rfl, ?_⟩))
        refine Ew_of (pcₚ := 153) (fun _ => x_aload_n rfl l74_0) ?_
        refine w_gT H (o := 6) (t := 86) rfl (H.perm 6 rfl) rfl rfl rfl rfl rfl rfl ?_
        refine Ew_of (pcₚ := 157) (fun _ => x_iconst rfl) ?_
        refine w_lJ H (o := 86) (n := 4) rfl (H.perm 86 rfl) rfl rfl (H.fix 86 rfl rfl) (show 0 ≤ 1 ∧ 1 < ((4 : Nat) : Int) from q_350) (by decide) (fun v85 ev85 qv85 => ?_)
        have qv85 : (-9223372036854775808 : Int) ≤ v85 ∧ v85 ≤ 9223372036854775807 := qv85
        have ev85 : (A_74 86) (1) = v85 := (congrFun (funext (hA83 86 rfl)) (1)).symm.trans ev85
        refine Ew_of (pcₚ := 160) (fun _ => x_bipush (z := 7) rfl (by decide)) ?_
        refine w_stat24 rfl rfl (by rfl) (M451 H (show inrJ (v85) by omega) (show inr (7) from q_355) (fun z90 σ F86 A87 H hS88 hA89 pz90_0 => ⟨rfl, ?_⟩))
        refine w_laddA rfl (fun z91 gz91 => ?_)
        refine Ew_of (pcₚ := 165) (fun _ => x_aload_n rfl l74_0) ?_
        refine w_gT H (o := 6) (t := 86) rfl (H.perm 6 rfl) rfl rfl rfl rfl rfl rfl ?_
        refine Ew_of (pcₚ := 169) (fun _ => x_iconst rfl) ?_
        refine w_lJ H (o := 86) (n := 4) rfl (H.perm 86 rfl) rfl rfl (H.fix 86 rfl rfl) (show 0 ≤ 2 ∧ 2 < ((4 : Nat) : Int) from q_352) (by decide) (fun v92 ev92 qv92 => ?_)
        have qv92 : (-9223372036854775808 : Int) ≤ v92 ∧ v92 ≤ 9223372036854775807 := qv92
        have ev92 : (A_74 86) (2) = v92 := (congrFun ((funext (hA89 86 rfl)).trans (funext (hA83 86 rfl))) (2)).symm.trans ev92
        refine Ew_of (pcₚ := 172) (fun _ => x_bipush (z := 12) rfl (by decide)) ?_
        refine w_stat24 rfl rfl (by rfl) (M451 H (show inrJ (v92) by omega) (show inr (12) from q_356) (fun z97 σ F93 A94 H hS95 hA96 pz97_0 => ⟨rfl, ?_⟩))
        refine w_laddA rfl (fun z98 gz98 => ?_)
        refine Ew_of (pcₚ := 177) (fun _ => x_aload_n rfl l74_0) ?_
        refine w_gT H (o := 6) (t := 86) rfl (H.perm 6 rfl) rfl rfl rfl rfl rfl rfl ?_
        refine Ew_of (pcₚ := 181) (fun _ => x_iconst rfl) ?_
        refine w_lJ H (o := 86) (n := 4) rfl (H.perm 86 rfl) rfl rfl (H.fix 86 rfl rfl) (show 0 ≤ 3 ∧ 3 < ((4 : Nat) : Int) from q_353) (by decide) (fun v99 ev99 qv99 => ?_)
        have qv99 : (-9223372036854775808 : Int) ≤ v99 ∧ v99 ≤ 9223372036854775807 := qv99
        have ev99 : (A_74 86) (3) = v99 := (congrFun ((funext (hA96 86 rfl)).trans ((funext (hA89 86 rfl)).trans (funext (hA83 86 rfl)))) (3)).symm.trans ev99
        refine Ew_of (pcₚ := 184) (fun _ => x_bipush (z := 18) rfl (by decide)) ?_
        refine w_stat24 rfl rfl (by rfl) (M451 H (show inrJ (v99) by omega) (show inr (18) from q_357) (fun z104 σ F100 A101 H hS102 hA103 pz104_0 => ⟨rfl, ?_⟩))
        refine w_laddA rfl (fun z105 gz105 => ?_)
        refine Ew_of (pcₚ := 190) (fun _ => x_lstore rfl) ?_
        refine Ew_of (pcₚ := 191) (fun _ => x_iconst rfl) ?_
        refine Ew_of (pcₚ := 193) (fun _ => x_istore rfl) ?_
        suffices hl193 : ∀ (m : Nat), ∀ (ls : rO) (σ : rS) (F_193 : hF) (A_193 : hA) (x193_11 : Int) (x193_14 : Int), rlook ls 0 = some (.ref (D 6)) → rlook ls 1 = some (J ((-7046029288634856825))) → rlook ls 3 = some (J ((-4417276706812531889))) → rlook ls 5 = some (J (1609587929392839161)) → rlook ls 7 = some (J ((-8796714831421723037))) → rlook ls 9 = some (J (2870177450012600261)) → rlook ls 11 = some (J (x193_11)) → rlook ls 13 = some (I (x74_13)) → rlook ls 14 = some (I (x193_14)) → HS σ0 σ D N F_193 A_193 → SF [] F100 F_193 → SA [] A101 A_193 → (inrJ (x193_11)) → (inr (x193_14)) → ((0) ≤ (x193_14)) → ((x193_14) ≤ (0) ∨ (x193_14) ≤ (4)) → ((4) - (x193_14)).toNat = m → Ew 453 (d + 1) 193 ls [] σ c s Q from
          hl193 _ _ σ _ _ (z105) (0) (rk_o (rk2_o (l74_0) rfl rfl) rfl rfl) (rk_o (rk2_o (l74_1) rfl rfl) rfl rfl) (rk_o (rk2_o (l74_3) rfl rfl) rfl rfl) (rk_o (rk2_o (l74_5) rfl rfl) rfl rfl) (rk_o (rk2_o (l74_7) rfl rfl) rfl rfl) (rk_o (rk2_o (l74_9) rfl rfl) rfl rfl) (rk_o (rk2_s) rfl rfl) (rk_o (rk2_o (l74_13) rfl rfl) rfl rfl) (rk_s) H (SF_refl) (SA_refl)   (show inrJ (z105) from gz105) (show inr (0) from q_20) (show (0) ≤ (0) from q_25) (show (0) ≤ (0) ∨ (0) ≤ (4) from q_360) rfl
        as_aux_lemma =>
        intro m
        induction m using Nat.strongRecOn with
        | _ m ih193 =>
          intro ls σ F_193 A_193 x193_11 x193_14 l193_0 l193_1 l193_3 l193_5 l193_7 l193_9 l193_11 l193_13 l193_14 H hS_193 hA_193   j193_0 j193_1 j193_2 j193_3 hm193
          refine Ew_of (pcₚ := 195) (fun _ => x_iload rfl l193_14) ?_
          refine Ew_of (pcₚ := 196) (fun _ => x_iconst rfl) ?_
          refine w_icmpge (t := 231) rfl rfl (show inr (x193_14) from j193_1) (show inr (4) from q_2) (fun b106 => ?_) (fun b106 => ?_)
          · exact hc231  _ σ _ _ (x193_11) (x74_13) (l193_0) (l193_1) (l193_3) (l193_5) (l193_7) (l193_9) (l193_11) (l193_13) H (SF_trans (SF_trans (SF_trans (SF_trans (SF_trans (SF_trans (SF_refl) hS_74 (any_sub rfl)) hS82 (any_sub rfl)) hS88 (any_sub rfl)) hS95 (any_sub rfl)) hS102 (any_sub rfl)) hS_193 (any_sub rfl)) (SA_trans (SA_trans (SA_trans (SA_trans (SA_trans (SA_trans (SA_upd (SA_upd (SA_upd (SA_upd (SA_refl) rfl) rfl) rfl) rfl) hA_74 (any_subA rfl)) hA83 (any_subA rfl)) hA89 (any_subA rfl)) hA96 (any_subA rfl)) hA103 (any_subA rfl)) hA_193 (any_subA rfl))   (show inrJ (x193_11) from j193_0) (show inr (x74_13) from j74_0) (show 0 ≤ (x74_13) ∧ (x74_13) ≤ (F 1 1) from j74_1)
          · refine Ew_of (pcₚ := 201) (fun _ => x_lload rfl l193_11) ?_
            refine Ew_of (pcₚ := 202) (fun _ => x_aload_n rfl l193_0) ?_
            refine w_gT H (o := 6) (t := 86) rfl (H.perm 6 rfl) rfl rfl rfl rfl rfl rfl ?_
            refine Ew_of (pcₚ := 207) (fun _ => x_iload rfl l193_14) ?_
            refine w_lJ H (o := 86) (n := 4) rfl (H.perm 86 rfl) rfl rfl (H.fix 86 rfl rfl) (show 0 ≤ x193_14 ∧ x193_14 < ((4 : Nat) : Int) from q_362 b106 j193_2) (by decide) (fun v107 ev107 qv107 => ?_)
            have qv107 : (-9223372036854775808 : Int) ≤ v107 ∧ v107 ≤ 9223372036854775807 := qv107
            have ev107 : (A_74 86) (x193_14) = v107 := (congrFun ((funext (hA_193 86 rfl)).trans ((funext (hA103 86 rfl)).trans ((funext (hA96 86 rfl)).trans ((funext (hA89 86 rfl)).trans (funext (hA83 86 rfl)))))) (x193_14)).symm.trans ev107
            refine Ew_of (pcₚ := 209) (fun _ => x_lload_n rfl l193_3) ?_
            refine w_lmulA rfl (fun z108 gz108 => ?_)
            refine Ew_of (pcₚ := 212) (fun _ => x_bipush (z := 31) rfl (by decide)) ?_
            refine w_stat24 rfl rfl (by rfl) (M451 H (show inrJ (z108) from gz108) (show inr (31) from q_62) (fun z113 σ F109 A110 H hS111 hA112 pz113_0 => ⟨rfl, ?_⟩))
            refine Ew_of (pcₚ := 216) (fun _ => x_lload_n rfl l193_1) ?_
            refine w_lmulA rfl (fun z114 gz114 => ?_)
            refine w_lxorA rfl (fun z115 gz115 => ?_)
            refine Ew_of (pcₚ := 219) (fun _ => x_lload_n rfl l193_1) ?_
            refine w_lmulA rfl (fun z116 gz116 => ?_)
            refine Ew_of (pcₚ := 222) (fun _ => x_lload rfl l193_7) ?_
            refine w_laddA rfl (fun z117 gz117 => ?_)
            refine Ew_of (pcₚ := 225) (fun _ => x_lstore rfl) ?_
            refine Ew_of (pcₚ := 228) (fun _ => x_iinc (len := 3) rfl (rk2_o (l193_14) rfl rfl)) ?_
            refine Ew_of (pcₚ := 193) (fun _ => x_goto rfl rfl) ?_
            exact ih193 _ (msE hm193 q_368 (q_369 b106)) _ σ _ _ (z117) ((x193_14 + 1)) (rk_o (rk2_o (l193_0) rfl rfl) rfl rfl) (rk_o (rk2_o (l193_1) rfl rfl) rfl rfl) (rk_o (rk2_o (l193_3) rfl rfl) rfl rfl) (rk_o (rk2_o (l193_5) rfl rfl) rfl rfl) (rk_o (rk2_o (l193_7) rfl rfl) rfl rfl) (rk_o (rk2_o (l193_9) rfl rfl) rfl rfl) (rk_o (rk2_s) rfl rfl) (rk_o (rk2_o (l193_13) rfl rfl) rfl rfl) (rk_s) H (SF_trans (hS_193) hS111 (any_sub rfl)) (SA_trans (hA_193) hA112 (any_subA rfl))   (show inrJ (z117) from gz117) (show inr ((x193_14 + 1)) from q_366 b106 j193_2) (show (0) ≤ ((x193_14 + 1)) from q_29 j193_2) (show ((x193_14 + 1)) ≤ (0) ∨ ((x193_14 + 1)) ≤ (4) from q_365 b106) rfl
      · refine Ew_of (pcₚ := 90) (fun _ => x_iconst rfl) ?_
        refine Ew_of (pcₚ := 92) (fun _ => x_istore rfl) ?_
        suffices hl92 : ∀ (m : Nat), ∀ (ls : rO) (σ : rS) (F_92 : hF) (A_92 : hA) (x92_13 : Int) (x92_14 : Int), rlook ls 0 = some (.ref (D 6)) → rlook ls 1 = some (J ((-7046029288634856825))) → rlook ls 3 = some (J ((-4417276706812531889))) → rlook ls 5 = some (J (1609587929392839161)) → rlook ls 7 = some (J ((-8796714831421723037))) → rlook ls 9 = some (J (2870177450012600261)) → rlook ls 13 = some (I (x92_13)) → rlook ls 14 = some (I (x92_14)) → HS σ0 σ D N F_92 A_92 → SF [] F_74 F_92 → SA [86] A_74 A_92 → (inr (x92_13)) → (inr (x92_14)) → ((0) ≤ (x92_14)) → ((x92_14) ≤ (0) ∨ (x92_14) ≤ (4)) → ((x92_13) = (x74_13) + 8 * (x92_14)) → ((4) - (x92_14)).toNat = m → Ew 453 (d + 1) 92 ls [] σ c s Q from
          hl92 _ _ σ _ _ (x74_13) (0) (rk_o (l74_0) rfl rfl) (rk_o (l74_1) rfl rfl) (rk_o (l74_3) rfl rfl) (rk_o (l74_5) rfl rfl) (rk_o (l74_7) rfl rfl) (rk_o (l74_9) rfl rfl) (rk_o (l74_13) rfl rfl) (rk_s) H (SF_refl) (SA_refl)   (show inr (x74_13) from j74_0) (show inr (0) from q_20) (show (0) ≤ (0) from q_25) (show (0) ≤ (0) ∨ (0) ≤ (4) from q_360) (show (x74_13) = (x74_13) + 8 * (0) from q_1894) rfl
        as_aux_lemma =>
        intro m
        induction m using Nat.strongRecOn with
        | _ m ih92 =>
          intro ls σ F_92 A_92 x92_13 x92_14 l92_0 l92_1 l92_3 l92_5 l92_7 l92_9 l92_13 l92_14 H hS_92 hA_92   j92_0 j92_1 j92_2 j92_3 j92_4 hm92
          refine Ew_of (pcₚ := 94) (fun _ => x_iload rfl l92_14) ?_
          refine Ew_of (pcₚ := 95) (fun _ => x_iconst rfl) ?_
          refine w_icmpge (t := 139) rfl rfl (show inr (x92_14) from j92_1) (show inr (4) from q_2) (fun b118 => ?_) (fun b118 => ?_)
          · refine Ew_of (pcₚ := 74) (fun _ => x_goto rfl rfl) ?_
            exact ih74 _ (msE hm74 (q_1895 b118 j92_4) (q_584 b78)) _ σ _ _ (x92_13) (l92_0) (l92_1) (l92_3) (l92_5) (l92_7) (l92_9) (l92_13) H (SF_trans (hS_74) hS_92 (any_sub rfl)) (SA_trans (hA_74) hA_92 (any_subA rfl))   (show inr (x92_13) from j92_0) (show 0 ≤ (x92_13) ∧ (x92_13) ≤ (F 1 1) by omega) rfl
          · refine Ew_of (pcₚ := 99) (fun _ => x_aload_n rfl l92_0) ?_
            refine w_gT H (o := 6) (t := 86) rfl (H.perm 6 rfl) rfl rfl rfl rfl rfl rfl ?_
            refine Ew_of (pcₚ := 104) (fun _ => x_iload rfl l92_14) ?_
            refine Ew_of (pcₚ := 105) (fun _ => x_aload_n rfl l92_0) ?_
            refine w_gT H (o := 6) (t := 86) rfl (H.perm 6 rfl) rfl rfl rfl rfl rfl rfl ?_
            refine Ew_of (pcₚ := 110) (fun _ => x_iload rfl l92_14) ?_
            refine w_lJ H (o := 86) (n := 4) rfl (H.perm 86 rfl) rfl rfl (H.fix 86 rfl rfl) (show 0 ≤ x92_14 ∧ x92_14 < ((4 : Nat) : Int) from q_362 b118 j92_2) (by decide) (fun v119 ev119 qv119 => ?_)
            have qv119 : (-9223372036854775808 : Int) ≤ v119 ∧ v119 ≤ 9223372036854775807 := qv119
            have ev119 : (A_92 86) (x92_14) = v119 := (congrFun (rfl : A_92 86 = A_92 86) (x92_14)).symm.trans ev119
            refine Ew_of (pcₚ := 112) (fun _ => x_aload_n rfl l92_0) ?_
            refine Ew_of (pcₚ := 114) (fun _ => x_iload rfl l92_13) ?_
            refine Ew_of (pcₚ := 116) (fun _ => x_bipush (z := 8) rfl (by decide)) ?_
            refine w_inv H (o := 6) rfl rfl rfl (H.perm 6 rfl) rfl rfl (by rfl) (M452 H (show inr (x92_13) from j92_0) (show inr (8) from q_96) (show 0 ≤ (x92_13) ∧ 0 ≤ (8) ∧ (8) ≤ 8 ∧ (x92_13) + (8) ≤ 65536 from q_1896 b118 b78 j74_1 j92_2 j92_4 r1) (fun z124 σ F120 A121 H hS122 hA123 pz124_0 => ⟨rfl, ?_⟩))
            refine Ew_of (pcₚ := 120) (fun _ => x_lload_n rfl l92_3) ?_
            refine w_lmulA rfl (fun z125 gz125 => ?_)
            refine w_laddA rfl (fun z126 gz126 => ?_)
            refine Ew_of (pcₚ := 124) (fun _ => x_bipush (z := 31) rfl (by decide)) ?_
            refine w_stat24 rfl rfl (by rfl) (M451 H (show inrJ (z126) from gz126) (show inr (31) from q_62) (fun z131 σ F127 A128 H hS129 hA130 pz131_0 => ⟨rfl, ?_⟩))
            refine Ew_of (pcₚ := 128) (fun _ => x_lload_n rfl l92_1) ?_
            refine w_lmulA rfl (fun z132 gz132 => ?_)
            refine w_sJ H (o := 86) (n := 4) rfl (H.perm 86 rfl) rfl rfl (H.fix 86 rfl rfl) (show 0 ≤ x92_14 ∧ x92_14 < ((4 : Nat) : Int) from q_362 b118 j92_2) (by decide) (show (-9223372036854775808 : Int) ≤ z132 ∧ z132 ≤ 9223372036854775807 by omega) (fun σ H => ?_)
            refine Ew_of (pcₚ := 133) (fun _ => x_iinc (len := 3) rfl (l92_13)) ?_
            refine Ew_of (pcₚ := 136) (fun _ => x_iinc (len := 3) rfl (rk_o (l92_14) rfl rfl)) ?_
            refine Ew_of (pcₚ := 92) (fun _ => x_goto rfl rfl) ?_
            exact ih92 _ (msE hm92 q_368 (q_369 b118)) _ σ _ _ ((x92_13 + 8)) ((x92_14 + 1)) (rk_o (rk_o (l92_0) rfl rfl) rfl rfl) (rk_o (rk_o (l92_1) rfl rfl) rfl rfl) (rk_o (rk_o (l92_3) rfl rfl) rfl rfl) (rk_o (rk_o (l92_5) rfl rfl) rfl rfl) (rk_o (rk_o (l92_7) rfl rfl) rfl rfl) (rk_o (rk_o (l92_9) rfl rfl) rfl rfl) (rk_o (rk_s) rfl rfl) (rk_s) H (SF_trans (SF_trans (hS_92) hS122 (any_sub rfl)) hS129 (any_sub rfl)) (SA_upd (SA_trans (SA_trans (hA_92) hA123 (any_subA rfl)) hA130 (any_subA rfl)) rfl)   (show inr ((x92_13 + 8)) from q_1898 b118 b78 j92_0 j92_4 r1) (show inr ((x92_14 + 1)) from q_366 b118 j92_2) (show (0) ≤ ((x92_14 + 1)) from q_29 j92_2) (show ((x92_14 + 1)) ≤ (0) ∨ ((x92_14 + 1)) ≤ (4) from q_365 b118) (show ((x92_13 + 8)) = (x74_13) + 8 * ((x92_14 + 1)) from q_1897 j92_4) rfl
/-- Writer.countSymbols -/
theorem M414 {σ0 σ : rS} {D N : Nat → Nat} {F : hF} {A : hA} {d c s : Nat} {Q : wQ} (H : HS σ0 σ D N F A) {a1 : Int} (u6_28 : Int) (eu6_28 : F 6 28 = u6_28) (w66 : Int → Int) (ew66 : A 66 = w66) (h0 : inr (a1)) (h1 : 0 ≤ (a1) ∧ (a1) ≤ 2) (k : ∀ (z : Int) σ Fₚ Aₚ, HS σ0 σ D N Fₚ Aₚ → SF [] F Fₚ → SA [78] A Aₚ → ∀ v78 : Int → Int, Aₚ 78 = v78 → (inr (z)) → (su (fun i => ((v78)) i) 64 = (u6_28)) → ((z) = su (fun i => pos1 (((v78)) i)) 64) → (∀ i, (0 : Int) ≤ i → i < 64 → 0 ≤ ((v78)) i) → (∀ j, 0 ≤ j → j < (u6_28) → 1 ≤ ((v78)) (((w66)) (8001 * (a1) + j))) → (0 ≤ (z) ∧ (z) ≤ (u6_28)) → Q (some (I z)) σ c s) : Ew 414 (d + 0) 0 (rargs 0 [.ref (D 6), I a1]) [] σ c s Q := by
  have r1 : (0 : Int) ≤ u6_28 ∧ u6_28 ≤ 8001 := rngE (show (0 : Int) ≤ F 6 28 ∧ F 6 28 ≤ 8001 from H.frng 6 28) (show F 6 28 = u6_28 from (eu6_28))
  refine Ew_of (pcₚ := 1) (fun _ => x_iconst rfl) ?_
  refine Ew_of (pcₚ := 2) (fun _ => x_istore_n rfl) ?_
  have : ∀ i, (0 : Int) ≤ i → i < 0 → ((A 78)) (0 + i) = 0 := fun i a b => absurd b (by omega)
  suffices hl2 : ∀ (m : Nat), ∀ (ls : rO) (σ : rS) (F_2 : hF) (A_2 : hA) (x2_2 : Int), rlook ls 0 = some (.ref (D 6)) → rlook ls 1 = some (I (a1)) → rlook ls 2 = some (I (x2_2)) → HS σ0 σ D N F_2 A_2 → SF [] F F_2 → SA [78] A A_2 → ∀ w2_78 : Int → Int, A_2 78 = w2_78 → (inr (x2_2)) → ((0) ≤ (x2_2)) → ((x2_2) ≤ (0) ∨ (x2_2) ≤ ((256))) → (∀ i, 0 ≤ i → i < (x2_2) → ((w2_78)) (0 + i) = 0) → (((256)) - (x2_2)).toNat = m → Ew 414 (d + 0) 2 ls [] σ c s Q from
    hl2 _ _ σ _ _ (0) (rk_o (rfl) rfl rfl) (rk_o (rfl) rfl rfl) (rk_s) H (SF_refl) (SA_refl)  (A 78) (rfl) (show inr (0) from q_20) (show (0) ≤ (0) from q_25) (show (0) ≤ (0) ∨ (0) ≤ ((256)) from q_976) (show ∀ i, 0 ≤ i → i < (0) → ((A 78)) (0 + i) = 0 by assumption) rfl
  as_aux_lemma =>
  intro m
  induction m using Nat.strongRecOn with
  | _ m ih2 =>
    intro ls σ F_2 A_2 x2_2 l2_0 l2_1 l2_2 H hS_2 hA_2  w2_78 ew2_78 j2_0 j2_1 j2_2 j2_3 hm2
    refine Ew_of (pcₚ := 3) (fun _ => x_iload_n rfl l2_2) ?_
    refine Ew_of (pcₚ := 6) (fun _ => x_sipush (z := 256) rfl (by decide)) ?_
    refine w_icmpge (t := 22) rfl rfl (show inr (x2_2) from j2_0) (show inr (256) from q_716) (fun b2 => ?_) (fun b2 => ?_)
    · refine Ew_of (pcₚ := 23) (fun _ => x_iconst rfl) ?_
      refine Ew_of (pcₚ := 24) (fun _ => x_istore_n rfl) ?_
      refine Ew_of (pcₚ := 25) (fun _ => x_iconst rfl) ?_
      refine Ew_of (pcₚ := 26) (fun _ => x_istore_n rfl) ?_
      have hz : ∀ i, (0 : Int) ≤ i → i < 64 → ((w2_78)) i = 0 := fun i a b => by have := j2_3 i a (by omega); rw [Int.zero_add] at this; exact this
      have : su (fun i => ((w2_78)) i) 64 = 0 := su_z (g := (w2_78)) (fun x => x) rfl (fun i a b => hz i a (by omega))
      have : su (fun i => pos1 (((w2_78)) i)) 64 = 0 := su_z (g := (w2_78)) pos1 rfl (fun i a b => hz i a (by omega))
      have : ∀ i, (0 : Int) ≤ i → i < 64 → 0 ≤ ((w2_78)) i := fun i a b => by rw [hz i a b]; decide
      have : ∀ i, (0 : Int) ≤ i → i < 64 → ((w2_78)) i ≤ 0 := fun i a b => by rw [hz i a b]; decide
      have : ∀ j, (0 : Int) ≤ j → j < 0 → 1 ≤ ((w2_78)) (((w66)) (8001 * (a1) + j)) := fun j a b => absurd b (by omega)
      suffices hl26 : ∀ (m : Nat), ∀ (ls : rO) (σ : rS) (F_26 : hF) (A_26 : hA) (x26_2 : Int) (x26_3 : Int), rlook ls 0 = some (.ref (D 6)) → rlook ls 1 = some (I (a1)) → rlook ls 2 = some (I (x26_2)) → rlook ls 3 = some (I (x26_3)) → HS σ0 σ D N F_26 A_26 → SF [] F_2 F_26 → SA [78] A_2 A_26 → ∀ w26_78 : Int → Int, A_26 78 = w26_78 → (inr (x26_2)) → (inr (x26_3)) → ((0) ≤ (x26_3)) → ((x26_3) ≤ (0) ∨ (x26_3) ≤ ((u6_28))) → (su (fun i => ((w26_78)) i) 64 = (x26_3)) → (su (fun i => pos1 (((w26_78)) i)) 64 = (x26_2)) → (∀ i, (0 : Int) ≤ i → i < 64 → 0 ≤ ((w26_78)) i) → (∀ j, 0 ≤ j → j < (x26_3) → 1 ≤ ((w26_78)) (((w66)) (8001 * (a1) + j))) → (0 ≤ (x26_2) ∧ (x26_2) ≤ (x26_3)) → (∀ i, (0 : Int) ≤ i → i < 64 → ((w26_78)) i ≤ (x26_3)) → (((u6_28)) - (x26_3)).toNat = m → Ew 414 (d + 0) 26 ls [] σ c s Q from
        hl26 _ _ σ _ _ (0) (0) (rk_o (rk_o (l2_0) rfl rfl) rfl rfl) (rk_o (rk_o (l2_1) rfl rfl) rfl rfl) (rk_o (rk_s) rfl rfl) (rk_s) H (SF_refl) (SA_refl)  (w2_78) (ew2_78) (show inr (0) from q_20) (show inr (0) from q_20) (show (0) ≤ (0) from q_25) (show (0) ≤ (0) ∨ (0) ≤ ((u6_28)) from q_24) (show su (fun i => ((w2_78)) i) 64 = (0) by omega) (show su (fun i => pos1 (((w2_78)) i)) 64 = (0) by omega) (show ∀ i, (0 : Int) ≤ i → i < 64 → 0 ≤ ((w2_78)) i by assumption) (show ∀ j, 0 ≤ j → j < (0) → 1 ≤ ((w2_78)) (((w66)) (8001 * (a1) + j)) by assumption) (show 0 ≤ (0) ∧ (0) ≤ (0) from q_1200) (show ∀ i, (0 : Int) ≤ i → i < 64 → ((w2_78)) i ≤ (0) by assumption) rfl
      as_aux_lemma =>
      intro m
      induction m using Nat.strongRecOn with
      | _ m ih26 =>
        intro ls σ F_26 A_26 x26_2 x26_3 l26_0 l26_1 l26_2 l26_3 H hS_26 hA_26  w26_78 ew26_78 j26_0 j26_1 j26_2 j26_3 j26_4 j26_5 j26_6 j26_7 j26_8 j26_9 hm26
        refine Ew_of (pcₚ := 27) (fun _ => x_iload_n rfl l26_3) ?_
        refine Ew_of (pcₚ := 28) (fun _ => x_aload_n rfl l26_0) ?_
        refine w_gI H (o := 6) (w := u6_28) rfl (H.perm 6 rfl) rfl rfl rfl (fun _ => rfl) (((hS_26 6 28 rfl).trans (hS_2 6 28 rfl)).trans (eu6_28)) ?_
        refine w_icmpge (t := 83) rfl rfl (show inr (x26_3) from j26_1) (show inr (u6_28) from q_1788 r1) (fun b3 => ?_) (fun b3 => ?_)
        · have : ∀ j, 0 ≤ j → j < (u6_28) → 1 ≤ ((w26_78)) (((w66)) (8001 * (a1) + j)) := fun j a b => (show ∀ j, 0 ≤ j → j < (x26_3) → 1 ≤ ((w26_78)) (((w66)) (8001 * (a1) + j)) from by assumption) j a (by omega)
          refine Ew_of (pcₚ := 84) (fun _ => x_iload_n rfl l26_2) ?_
          exact w_ireturn rfl (k (x26_2) σ _ _ H (SF_trans (SF_trans (SF_refl) hS_2 (any_sub rfl)) hS_26 (any_sub rfl)) (SA_trans (SA_trans (SA_refl) hA_2 (any_subA rfl)) hA_26 (any_subA rfl)) (w26_78) (ew26_78) (show inr (x26_2) from j26_0) (show su (fun i => ((w26_78)) i) 64 = (u6_28) by omega) (show (x26_2) = su (fun i => pos1 (((w26_78)) i)) 64 by omega) (show ∀ i, (0 : Int) ≤ i → i < 64 → 0 ≤ ((w26_78)) i by assumption) (show ∀ j, 0 ≤ j → j < (u6_28) → 1 ≤ ((w26_78)) (((w66)) (8001 * a1 + j)) by assumption) (show 0 ≤ (x26_2) ∧ (x26_2) ≤ (u6_28) from q_1899 j26_3 j26_8 r1))
        · refine Ew_of (pcₚ := 35) (fun _ => x_aload_n rfl l26_0) ?_
          refine w_gT H (o := 6) (t := 66) rfl (H.perm 6 rfl) rfl rfl rfl rfl rfl rfl ?_
          refine Ew_of (pcₚ := 41) (fun _ => x_sipush (z := 8001) rfl (by decide)) ?_
          refine Ew_of (pcₚ := 42) (fun _ => x_iload_n rfl l26_1) ?_
          refine w_imul rfl ?_
          refine Ew_of (pcₚ := 44) (fun _ => x_iload_n rfl l26_3) ?_
          refine w_iadd rfl ?_
          refine w_lI H (o := 66) (n := 24003) rfl (H.perm 66 rfl) rfl rfl (H.fix 66 rfl rfl) (show 0 ≤ ((8001 * a1) + x26_3) ∧ ((8001 * a1) + x26_3) < ((24003 : Nat) : Int) from q_1900 b3 h1 j26_2 r1) (by decide) (fun v4 ev4 qv4 => ?_)
          have qv4 : (0 : Int) ≤ v4 ∧ v4 ≤ 63 := qv4
          have ev4 : (w66) (((8001 * a1) + x26_3)) = v4 := (congrFun ((funext (hA_26 66 rfl)).trans ((funext (hA_2 66 rfl)).trans (ew66))) (((8001 * a1) + x26_3))).symm.trans ev4
          refine Ew_of (pcₚ := 48) (fun _ => x_istore rfl) ?_
          have hsy := ev4
          have hnn := (show ∀ i, (0 : Int) ≤ i → i < 64 → 0 ≤ ((w26_78)) i from by assumption) ((v4)) (by omega) (by omega)
          have hup := (show ∀ i, (0 : Int) ≤ i → i < 64 → ((w26_78)) i ≤ (x26_3) from by assumption) ((v4)) (by omega) (by omega)
          have hs1 := su_upd1 (g := (w26_78)) (fun x => x) (j := (v4)) (v := ((w26_78)) ((v4)) + 1) (n := 64) (by omega) (by omega)
          have hs2 := su_upd1 (g := (w26_78)) pos1 (j := (v4)) (v := ((w26_78)) ((v4)) + 1) (n := 64) (by omega) (by omega)
          have hp1 := pos1_eq (((w26_78)) ((v4)))
          have hp2 := pos1_eq (((w26_78)) ((v4)) + 1)
          refine Ew_of (pcₚ := 49) (fun _ => x_aload_n rfl (rk_o (l26_0) rfl rfl)) ?_
          refine w_gT H (o := 6) (t := 78) rfl (H.perm 6 rfl) rfl rfl rfl rfl rfl rfl ?_
          refine Ew_of (pcₚ := 54) (fun _ => x_iload rfl rk_s) ?_
          refine w_lI H (o := 78) (n := 256) rfl (H.perm 78 rfl) rfl rfl (H.fix 78 rfl rfl) (show 0 ≤ v4 ∧ v4 < ((256 : Nat) : Int) from q_1901 qv4) (by decide) (fun v5 ev5 qv5 => ?_)
          have qv5 : (-2147483648 : Int) ≤ v5 ∧ v5 ≤ 2147483647 := qv5
          have ev5 : (w26_78) (v4) = v5 := (congrFun (ew26_78) (v4)).symm.trans ev5
          have hc65 : ∀ (tc65_0 : Int), ∀ (ls : rO) (σ : rS) (F_c65 : hF) (A_c65 : hA) , rlook ls 0 = some (.ref (D 6)) → rlook ls 1 = some (I (a1)) → rlook ls 3 = some (I (x26_3)) → rlook ls 4 = some (I (v4)) → HS σ0 σ D N F_c65 A_c65 → SF [] F_26 F_c65 → SA [] A_26 A_c65 → (inr (tc65_0)) → (((v5) ≠ (0) ∧ (tc65_0) = (x26_2)) ∨ ((v5) = (0) ∧ (tc65_0) = ((x26_2 + 1)))) → Ew 414 (d + 0) 65 ls [I (tc65_0)] σ c s Q := by
           as_aux_lemma =>
            intro tc65_0 ls σ F_c65 A_c65  lc65_0 lc65_1 lc65_3 lc65_4 H hS_c65 hA_c65   jc65_0 jc65_1
            refine Ew_of (pcₚ := 66) (fun _ => x_istore_n rfl) ?_
            refine Ew_of (pcₚ := 67) (fun _ => x_aload_n rfl (rk_o (lc65_0) rfl rfl)) ?_
            refine w_gT H (o := 6) (t := 78) rfl (H.perm 6 rfl) rfl rfl rfl rfl rfl rfl ?_
            refine Ew_of (pcₚ := 72) (fun _ => x_iload rfl (rk_o (lc65_4) rfl rfl)) ?_
            refine Ew_of (pcₚ := 73) (fun _ => x_dup2 rfl rfl rfl) ?_
            refine w_lI H (o := 78) (n := 256) rfl (H.perm 78 rfl) rfl rfl (H.fix 78 rfl rfl) (show 0 ≤ v4 ∧ v4 < ((256 : Nat) : Int) from q_1901 qv4) (by decide) (fun v6 ev6 qv6 => ?_)
            have qv6 : (-2147483648 : Int) ≤ v6 ∧ v6 ≤ 2147483647 := qv6
            have ev6 : (w26_78) (v4) = v6 := (congrFun ((funext (hA_c65 78 rfl)).trans (ew26_78)) (v4)).symm.trans ev6
            refine Ew_of (pcₚ := 75) (fun _ => x_iconst rfl) ?_
            refine w_iadd rfl ?_
            have hxx : ((v6 + 1)) = ((w26_78)) ((v4)) + 1 := q_1902 ev6
            rw [← hxx] at hs1 hs2 hp2
            have : ∀ i, (0 : Int) ≤ i → i < 64 → 0 ≤ (upd1 ((w26_78)) ((v4)) (((v6 + 1)))) i := fun i a b => by by_cases e : i = (v4); rw [e, upd1_s]; omega; rw [upd1_o e]; exact (show ∀ i, (0 : Int) ≤ i → i < 64 → 0 ≤ ((w26_78)) i from by assumption) i a b
            have : ∀ i, (0 : Int) ≤ i → i < 64 → (upd1 ((w26_78)) ((v4)) (((v6 + 1)))) i ≤ (x26_3) + 1 := fun i a b => by by_cases e : i = (v4); rw [e, upd1_s]; omega; rw [upd1_o e]; have := (show ∀ i, (0 : Int) ≤ i → i < 64 → ((w26_78)) i ≤ (x26_3) from by assumption) i a b; omega
            have : ∀ j, 0 ≤ j → j < (x26_3) + 1 → 1 ≤ (upd1 ((w26_78)) ((v4)) (((v6 + 1)))) (((w66)) (8001 * (a1) + j)) := fun j a b => by by_cases e : ((w66)) (8001 * (a1) + j) = (v4); rw [e, upd1_s]; omega; rw [upd1_o e]; refine (show ∀ j, 0 ≤ j → j < (x26_3) → 1 ≤ ((w26_78)) (((w66)) (8001 * (a1) + j)) from by assumption) j a ?_; by_cases e2 : j = (x26_3); rw [e2] at e; exact absurd hsy e; omega
            refine w_sI H (o := 78) (n := 256) rfl (H.perm 78 rfl) rfl rfl (H.fix 78 rfl rfl) (show 0 ≤ v4 ∧ v4 < ((256 : Nat) : Int) from q_1901 qv4) (by decide) (show (-2147483648 : Int) ≤ (v6 + 1) ∧ (v6 + 1) ≤ 2147483647 by omega) (fun σ H => ?_)
            refine Ew_of (pcₚ := 80) (fun _ => x_iinc (len := 3) rfl (rk_o (lc65_3) rfl rfl)) ?_
            refine Ew_of (pcₚ := 26) (fun _ => x_goto rfl rfl) ?_
            exact ih26 _ (msE hm26 q_31 (q_34 b3)) _ σ _ _ (tc65_0) ((x26_3 + 1)) (rk_o (rk_o (lc65_0) rfl rfl) rfl rfl) (rk_o (rk_o (lc65_1) rfl rfl) rfl rfl) (rk_o (rk_s) rfl rfl) (rk_s) H (SF_trans (hS_26) hS_c65 (any_sub rfl)) (SA_upd (SA_trans (hA_26) hA_c65 (any_subA rfl)) rfl)  (upd1 (w26_78) (v4) ((v6 + 1))) (congrArg (fun q => upd1 q (v4) ((v6 + 1))) ((funext (hA_c65 78 rfl)).trans (ew26_78))) (show inr (tc65_0) from jc65_0) (show inr ((x26_3 + 1)) from q_1807 b3 j26_2 r1) (show (0) ≤ ((x26_3 + 1)) from q_29 j26_2) (show ((x26_3 + 1)) ≤ (0) ∨ ((x26_3 + 1)) ≤ ((u6_28)) from q_33 b3) (show su (fun i => ((upd1 (w26_78) (v4) ((v6 + 1)))) i) 64 = ((x26_3 + 1)) by omega) (show su (fun i => pos1 (((upd1 (w26_78) (v4) ((v6 + 1)))) i)) 64 = (tc65_0) by omega) (show ∀ i, (0 : Int) ≤ i → i < 64 → 0 ≤ ((upd1 (w26_78) (v4) ((v6 + 1)))) i by assumption) (show ∀ j, 0 ≤ j → j < ((x26_3 + 1)) → 1 ≤ ((upd1 (w26_78) (v4) ((v6 + 1)))) (((w66)) (8001 * (a1) + j)) by assumption) (show 0 ≤ (tc65_0) ∧ (tc65_0) ≤ ((x26_3 + 1)) from q_1903 j26_8 jc65_1) (show ∀ i, (0 : Int) ≤ i → i < 64 → ((upd1 (w26_78) (v4) ((v6 + 1)))) i ≤ ((x26_3 + 1)) by assumption) rfl
          refine w_ifne (t := 64) rfl rfl (show inr (v5) from q_22 qv5) (fun b7 => ?_) (fun b7 => ?_)
          · refine Ew_of (pcₚ := 65) (fun _ => x_iload_n rfl (rk_o (l26_2) rfl rfl)) ?_
            exact hc65 (x26_2) _ σ _ _  (rk_o (l26_0) rfl rfl) (rk_o (l26_1) rfl rfl) (rk_o (l26_3) rfl rfl) (rk_s) H (SF_refl) (SA_refl)   (show inr (x26_2) from j26_0) (show ((v5) ≠ (0) ∧ (x26_2) = (x26_2)) ∨ ((v5) = (0) ∧ (x26_2) = ((x26_2 + 1))) from q_1341 b7)
          · refine Ew_of (pcₚ := 59) (fun _ => x_iload_n rfl (rk_o (l26_2) rfl rfl)) ?_
            refine Ew_of (pcₚ := 60) (fun _ => x_iconst rfl) ?_
            refine w_iadd rfl ?_
            refine Ew_of (pcₚ := 65) (fun _ => x_goto rfl rfl) ?_
            exact hc65 ((x26_2 + 1)) _ σ _ _  (rk_o (l26_0) rfl rfl) (rk_o (l26_1) rfl rfl) (rk_o (l26_3) rfl rfl) (rk_s) H (SF_refl) (SA_refl)   (show inr ((x26_2 + 1)) from q_1904 b3 j26_8 r1) (show ((v5) ≠ (0) ∧ ((x26_2 + 1)) = (x26_2)) ∨ ((v5) = (0) ∧ ((x26_2 + 1)) = ((x26_2 + 1))) from q_1342 b7)
    · refine Ew_of (pcₚ := 10) (fun _ => x_aload_n rfl l2_0) ?_
      refine w_gT H (o := 6) (t := 78) rfl (H.perm 6 rfl) rfl rfl rfl rfl rfl rfl ?_
      refine Ew_of (pcₚ := 14) (fun _ => x_iload_n rfl l2_2) ?_
      refine Ew_of (pcₚ := 15) (fun _ => x_iconst rfl) ?_
      refine w_sI H (o := 78) (n := 256) rfl (H.perm 78 rfl) rfl rfl (H.fix 78 rfl rfl) (show 0 ≤ x2_2 ∧ x2_2 < ((256 : Nat) : Int) from q_1030 b2 j2_1) (by decide) (show (-2147483648 : Int) ≤ 0 ∧ 0 ≤ 2147483647 from q_240) (fun σ H => ?_)
      refine Ew_of (pcₚ := 19) (fun _ => x_iinc (len := 3) rfl (l2_2)) ?_
      refine Ew_of (pcₚ := 2) (fun _ => x_goto rfl rfl) ?_
      have : ∀ i, (0 : Int) ≤ i → i < ((x2_2 + 1)) → ((upd1 (w2_78) (x2_2) (0))) (0 + i) = 0 := share_z j2_3
      exact ih2 _ (msE hm2 q_1033 (q_1034 b2)) _ σ _ _ ((x2_2 + 1)) (rk_o (l2_0) rfl rfl) (rk_o (l2_1) rfl rfl) (rk_s) H (hS_2) (SA_upd (hA_2) rfl)  (upd1 (w2_78) (x2_2) (0)) (congrArg (fun q => upd1 q (x2_2) (0)) (ew2_78)) (show inr ((x2_2 + 1)) from q_1032 b2 j2_1) (show (0) ≤ ((x2_2 + 1)) from q_29 j2_1) (show ((x2_2 + 1)) ≤ (0) ∨ ((x2_2 + 1)) ≤ ((256)) from q_1031 b2) (show ∀ i, 0 ≤ i → i < ((x2_2 + 1)) → ((upd1 (w2_78) (x2_2) (0))) (0 + i) = 0 by assumption) rfl
