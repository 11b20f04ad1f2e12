/-- Writer.leastKnot -/
theorem M418 {σ0 σ : rS} {D N : Nat → Nat} {F : hF} {A : hA} {d c s : Nat} {Q : wQ} (H : HS σ0 σ D N F A) {a1 : Int} (u6_49 : Int) (eu6_49 : F 6 49 = u6_49) (w80 : Int → Int) (ew80 : A 80 = w80) (w81 : Int → Int) (ew81 : A 81 = w81) (h0 : inr (a1)) (h1 : -1 ≤ (a1)) (k : ∀ (z : Int) σ F' A', HS σ0 σ D N F' A' → SF [] F F' → SA [] A A' → (inr (z)) → ((z) = -1 ∨ 0 ≤ (z) ∧ (z) < (u6_49) ∧ (z) ≠ (a1) ∧ 0 < ((w80)) ((z)) ∧ ((w81)) ((z)) < 0) → (LM ((w80)) ((w81)) ((u6_49)) ((a1)) ((z))) → ((z) = lkF ((w80)) ((w81)) ((a1)) ((u6_49) : Int).toNat) → Q (some (I z)) σ c s) : Ew 418 (d + 0) 0 (rargs 0 [.ref (D 6), I a1]) [] σ c s Q := by
  have r1 : (0 : Int) ≤ u6_49 ∧ u6_49 ≤ 512 := by have h1 : (0 : Int) ≤ F 6 49 ∧ F 6 49 ≤ 512 := H.frng 6 49; rw [show F 6 49 = u6_49 from (eu6_49)] at h1; exact h1
  refine Ew_of (pc' := 1) (fun _ => x_iconst rfl) ?_
  refine Ew_of (pc' := 2) (fun _ => x_istore_n rfl) ?_
  refine Ew_of (pc' := 3) (fun _ => x_iconst rfl) ?_
  refine Ew_of (pc' := 4) (fun _ => x_istore_n rfl) ?_
  have : (-1) = lkF ((w80)) ((w81)) ((a1)) (0 : Int).toNat := rfl
  have : LM ((w80)) ((w81)) 0 ((a1)) (-1) := fun k a b => absurd b (by omega)
  suffices hl4 : ∀ (m : Nat), ∀ (ls : rO) (σ : rS) (F_4 : hF) (A_4 : hA) (x4_2 : Int) (x4_3 : Int), rlook ls 0 = some (.ref (D 6)) → rlook ls 1 = some (I (a1)) → rlook ls 2 = some (I (x4_2)) → rlook ls 3 = some (I (x4_3)) → HS σ0 σ D N F_4 A_4 → SF [] F F_4 → SA [] A A_4 → (inr (x4_2)) → (inr (x4_3)) → ((0) ≤ (x4_3)) → ((x4_3) ≤ (0) ∨ (x4_3) ≤ ((u6_49))) → ((x4_2) = -1 ∨ 0 ≤ (x4_2) ∧ (x4_2) < (x4_3) ∧ (x4_2) ≠ (a1) ∧ 0 < ((w80)) ((x4_2)) ∧ ((w81)) ((x4_2)) < 0) → (LM ((w80)) ((w81)) ((x4_3)) ((a1)) ((x4_2))) → ((x4_2) = lkF ((w80)) ((w81)) ((a1)) ((x4_3) : Int).toNat) → (((u6_49)) - (x4_3)).toNat = m → Ew 418 (d + 0) 4 ls [] σ c s Q from
    hl4 _ _ σ _ _ ((-1)) (0) (rk_o (rk_o (rfl) rfl rfl) rfl rfl) (rk_o (rk_o (rfl) rfl rfl) rfl rfl) (rk_o (rk_s) rfl rfl) (rk_s) H (SF_refl) (SA_refl)   (show inr ((-1)) by omega) (show inr (0) by omega) (show (0) ≤ (0) by omega) (show (0) ≤ (0) ∨ (0) ≤ ((u6_49)) by omega) (show ((-1)) = -1 ∨ 0 ≤ ((-1)) ∧ ((-1)) < (0) ∧ ((-1)) ≠ (a1) ∧ 0 < ((w80)) (((-1))) ∧ ((w81)) (((-1))) < 0 by omega) (show LM ((w80)) ((w81)) ((0)) ((a1)) (((-1))) by assumption) (show ((-1)) = lkF ((w80)) ((w81)) ((a1)) ((0) : Int).toNat by assumption) rfl
  as_aux_lemma =>
  intro m
  induction m using Nat.strongRecOn with
  | _ m ih4 =>
    intro ls σ F_4 A_4 x4_2 x4_3 l4_0 l4_1 l4_2 l4_3 H hS_4 hA_4   j4_0 j4_1 j4_2 j4_3 j4_4 j4_5 j4_6 hm4
    have j4_k : (x4_2) = lkF ((w80)) ((w81)) ((a1)) ((x4_3) : Int).toNat := by assumption
    refine Ew_of (pc' := 5) (fun _ => x_iload_n rfl l4_3) ?_
    refine Ew_of (pc' := 6) (fun _ => x_aload_n rfl l4_0) ?_
    refine w_gI H (o := 6) (w := u6_49) rfl (H.perm 6 rfl) rfl rfl rfl (fun _ => rfl) ((hS_4 6 49 rfl).trans (eu6_49)) ?_
    refine w_icmpge (t := 62) rfl rfl (show inr (x4_3) by omega) (show inr (u6_49) by omega) (fun b2 => ?_) (fun b2 => ?_)
    · have : (x4_2) = lkF ((w80)) ((w81)) ((a1)) ((u6_49) : Int).toNat := by rw [show (u6_49) = (x4_3) by omega]; exact j4_k
      have : LM ((w80)) ((w81)) ((u6_49)) ((a1)) ((x4_2)) := by rw [show (u6_49) = (x4_3) by omega]; assumption
      refine Ew_of (pc' := 63) (fun _ => x_iload_n rfl l4_2) ?_
      exact w_ireturn rfl (k (x4_2) σ _ _ H (SF_trans (SF_refl) hS_4 (any_sub rfl)) (SA_trans (SA_refl) hA_4 (any_subA rfl)) (show inr (x4_2) by omega) (show (x4_2) = -1 ∨ 0 ≤ (x4_2) ∧ (x4_2) < (u6_49) ∧ (x4_2) ≠ a1 ∧ 0 < ((w80)) ((x4_2)) ∧ ((w81)) ((x4_2)) < 0 by omega) (show LM ((w80)) ((w81)) ((u6_49)) (a1) ((x4_2)) by assumption) (show (x4_2) = lkF ((w80)) ((w81)) (a1) ((u6_49) : Int).toNat by assumption))
    · have hlk := lkF_s (kn := (w80)) (is_ := (w81)) (but := (a1)) (i := (x4_3)) (by omega) j4_k.symm
      refine Ew_of (pc' := 13) (fun _ => x_iload_n rfl l4_3) ?_
      refine Ew_of (pc' := 14) (fun _ => x_iload_n rfl l4_1) ?_
      refine w_icmpeq (t := 56) rfl rfl (show inr (x4_3) by omega) (show inr (a1) by omega) (fun b3 => ?_) (fun b3 => ?_)
      · refine Ew_of (pc' := 59) (fun _ => x_iinc (len := 3) rfl (l4_3)) ?_
        refine Ew_of (pc' := 4) (fun _ => x_goto rfl rfl) ?_
        have : (x4_2) = lkF ((w80)) ((w81)) ((a1)) (((x4_3 + 1)) : Int).toNat := by omega
        have : LM ((w80)) ((w81)) (((x4_3 + 1))) ((a1)) ((x4_2)) := LM_next j4_5 rfl (fun a b c => by omega) (fun a => by omega)
        exact ih4 _ (by omega) _ σ _ _ (x4_2) ((x4_3 + 1)) (rk_o (l4_0) rfl rfl) (rk_o (l4_1) rfl rfl) (rk_o (l4_2) rfl rfl) (rk_s) H (hS_4) (hA_4)   (show inr (x4_2) by omega) (show inr ((x4_3 + 1)) by omega) (show (0) ≤ ((x4_3 + 1)) by omega) (show ((x4_3 + 1)) ≤ (0) ∨ ((x4_3 + 1)) ≤ ((u6_49)) by omega) (show (x4_2) = -1 ∨ 0 ≤ (x4_2) ∧ (x4_2) < ((x4_3 + 1)) ∧ (x4_2) ≠ (a1) ∧ 0 < ((w80)) ((x4_2)) ∧ ((w81)) ((x4_2)) < 0 by omega) (show LM ((w80)) ((w81)) (((x4_3 + 1))) ((a1)) ((x4_2)) by assumption) (show (x4_2) = lkF ((w80)) ((w81)) ((a1)) (((x4_3 + 1)) : Int).toNat by assumption) rfl
      · refine Ew_of (pc' := 18) (fun _ => x_aload_n rfl l4_0) ?_
        refine w_gT H (o := 6) (t := 80) rfl (H.perm 6 rfl) rfl rfl rfl rfl rfl rfl ?_
        refine Ew_of (pc' := 22) (fun _ => x_iload_n rfl l4_3) ?_
        refine w_lI H (o := 80) (n := 512) rfl (H.perm 80 rfl) rfl rfl (H.fix 80 rfl rfl) (show 0 ≤ x4_3 ∧ x4_3 < ((512 : Nat) : Int) by omega) (by decide) (fun v4 ev4 qv4 => ?_)
        have qv4 : (-2147483648 : Int) ≤ v4 ∧ v4 ≤ 2147483647 := qv4
        have ev4 : (w80) (x4_3) = v4 := (congrFun ((funext (hA_4 80 rfl)).trans (ew80)) (x4_3)).symm.trans ev4
        refine w_ifle (t := 56) rfl rfl (show inr (v4) by omega) (fun b5 => ?_) (fun b5 => ?_)
        · refine Ew_of (pc' := 59) (fun _ => x_iinc (len := 3) rfl (l4_3)) ?_
          refine Ew_of (pc' := 4) (fun _ => x_goto rfl rfl) ?_
          have : (x4_2) = lkF ((w80)) ((w81)) ((a1)) (((x4_3 + 1)) : Int).toNat := by omega
          have : LM ((w80)) ((w81)) (((x4_3 + 1))) ((a1)) ((x4_2)) := LM_next j4_5 rfl (fun a b c => by omega) (fun a => by omega)
          exact ih4 _ (by omega) _ σ _ _ (x4_2) ((x4_3 + 1)) (rk_o (l4_0) rfl rfl) (rk_o (l4_1) rfl rfl) (rk_o (l4_2) rfl rfl) (rk_s) H (hS_4) (hA_4)   (show inr (x4_2) by omega) (show inr ((x4_3 + 1)) by omega) (show (0) ≤ ((x4_3 + 1)) by omega) (show ((x4_3 + 1)) ≤ (0) ∨ ((x4_3 + 1)) ≤ ((u6_49)) by omega) (show (x4_2) = -1 ∨ 0 ≤ (x4_2) ∧ (x4_2) < ((x4_3 + 1)) ∧ (x4_2) ≠ (a1) ∧ 0 < ((w80)) ((x4_2)) ∧ ((w81)) ((x4_2)) < 0 by omega) (show LM ((w80)) ((w81)) (((x4_3 + 1))) ((a1)) ((x4_2)) by assumption) (show (x4_2) = lkF ((w80)) ((w81)) ((a1)) (((x4_3 + 1)) : Int).toNat by assumption) rfl
        · refine Ew_of (pc' := 27) (fun _ => x_aload_n rfl l4_0) ?_
          refine w_gT H (o := 6) (t := 81) rfl (H.perm 6 rfl) rfl rfl rfl rfl rfl rfl ?_
          refine Ew_of (pc' := 31) (fun _ => x_iload_n rfl l4_3) ?_
          refine w_lI H (o := 81) (n := 512) rfl (H.perm 81 rfl) rfl rfl (H.fix 81 rfl rfl) (show 0 ≤ x4_3 ∧ x4_3 < ((512 : Nat) : Int) by omega) (by decide) (fun v6 ev6 qv6 => ?_)
          have qv6 : (-2147483648 : Int) ≤ v6 ∧ v6 ≤ 2147483647 := qv6
          have ev6 : (w81) (x4_3) = v6 := (congrFun ((funext (hA_4 81 rfl)).trans (ew81)) (x4_3)).symm.trans ev6
          refine w_ifge (t := 56) rfl rfl (show inr (v6) by omega) (fun b7 => ?_) (fun b7 => ?_)
          · refine Ew_of (pc' := 59) (fun _ => x_iinc (len := 3) rfl (l4_3)) ?_
            refine Ew_of (pc' := 4) (fun _ => x_goto rfl rfl) ?_
            have : (x4_2) = lkF ((w80)) ((w81)) ((a1)) (((x4_3 + 1)) : Int).toNat := by omega
            have : LM ((w80)) ((w81)) (((x4_3 + 1))) ((a1)) ((x4_2)) := LM_next j4_5 rfl (fun a b c => by omega) (fun a => by omega)
            exact ih4 _ (by omega) _ σ _ _ (x4_2) ((x4_3 + 1)) (rk_o (l4_0) rfl rfl) (rk_o (l4_1) rfl rfl) (rk_o (l4_2) rfl rfl) (rk_s) H (hS_4) (hA_4)   (show inr (x4_2) by omega) (show inr ((x4_3 + 1)) by omega) (show (0) ≤ ((x4_3 + 1)) by omega) (show ((x4_3 + 1)) ≤ (0) ∨ ((x4_3 + 1)) ≤ ((u6_49)) by omega) (show (x4_2) = -1 ∨ 0 ≤ (x4_2) ∧ (x4_2) < ((x4_3 + 1)) ∧ (x4_2) ≠ (a1) ∧ 0 < ((w80)) ((x4_2)) ∧ ((w81)) ((x4_2)) < 0 by omega) (show LM ((w80)) ((w81)) (((x4_3 + 1))) ((a1)) ((x4_2)) by assumption) (show (x4_2) = lkF ((w80)) ((w81)) ((a1)) (((x4_3 + 1)) : Int).toNat by assumption) rfl
          · refine Ew_of (pc' := 36) (fun _ => x_iload_n rfl l4_2) ?_
            refine w_iflt (t := 54) rfl rfl (show inr (x4_2) by omega) (fun b8 => ?_) (fun b8 => ?_)
            · refine Ew_of (pc' := 55) (fun _ => x_iload_n rfl l4_3) ?_
              refine Ew_of (pc' := 56) (fun _ => x_istore_n rfl) ?_
              refine Ew_of (pc' := 59) (fun _ => x_iinc (len := 3) rfl (rk_o (l4_3) rfl rfl)) ?_
              refine Ew_of (pc' := 4) (fun _ => x_goto rfl rfl) ?_
              have : (x4_3) = lkF ((w80)) ((w81)) ((a1)) (((x4_3 + 1)) : Int).toNat := by omega
              have : LM ((w80)) ((w81)) (((x4_3 + 1))) ((a1)) ((x4_3)) := LM_next j4_5 rfl (fun a b c => by omega) (fun a => by omega)
              exact ih4 _ (by omega) _ σ _ _ (x4_3) ((x4_3 + 1)) (rk_o (rk_o (l4_0) rfl rfl) rfl rfl) (rk_o (rk_o (l4_1) rfl rfl) rfl rfl) (rk_o (rk_s) rfl rfl) (rk_s) H (hS_4) (hA_4)   (show inr (x4_3) by omega) (show inr ((x4_3 + 1)) by omega) (show (0) ≤ ((x4_3 + 1)) by omega) (show ((x4_3 + 1)) ≤ (0) ∨ ((x4_3 + 1)) ≤ ((u6_49)) by omega) (show (x4_3) = -1 ∨ 0 ≤ (x4_3) ∧ (x4_3) < ((x4_3 + 1)) ∧ (x4_3) ≠ (a1) ∧ 0 < ((w80)) ((x4_3)) ∧ ((w81)) ((x4_3)) < 0 by omega) (show LM ((w80)) ((w81)) (((x4_3 + 1))) ((a1)) ((x4_3)) by assumption) (show (x4_3) = lkF ((w80)) ((w81)) ((a1)) (((x4_3 + 1)) : Int).toNat by assumption) rfl
            · refine Ew_of (pc' := 40) (fun _ => x_aload_n rfl l4_0) ?_
              refine w_gT H (o := 6) (t := 80) rfl (H.perm 6 rfl) rfl rfl rfl rfl rfl rfl ?_
              refine Ew_of (pc' := 44) (fun _ => x_iload_n rfl l4_3) ?_
              refine w_lI H (o := 80) (n := 512) rfl (H.perm 80 rfl) rfl rfl (H.fix 80 rfl rfl) (show 0 ≤ x4_3 ∧ x4_3 < ((512 : Nat) : Int) by omega) (by decide) (fun v9 ev9 qv9 => ?_)
              have qv9 : (-2147483648 : Int) ≤ v9 ∧ v9 ≤ 2147483647 := qv9
              have ev9 : (w80) (x4_3) = v9 := (congrFun ((funext (hA_4 80 rfl)).trans (ew80)) (x4_3)).symm.trans ev9
              refine Ew_of (pc' := 46) (fun _ => x_aload_n rfl l4_0) ?_
              refine w_gT H (o := 6) (t := 80) rfl (H.perm 6 rfl) rfl rfl rfl rfl rfl rfl ?_
              refine Ew_of (pc' := 50) (fun _ => x_iload_n rfl l4_2) ?_
              refine w_lI H (o := 80) (n := 512) rfl (H.perm 80 rfl) rfl rfl (H.fix 80 rfl rfl) (show 0 ≤ x4_2 ∧ x4_2 < ((512 : Nat) : Int) by omega) (by decide) (fun v10 ev10 qv10 => ?_)
              have qv10 : (-2147483648 : Int) ≤ v10 ∧ v10 ≤ 2147483647 := qv10
              have ev10 : (w80) (x4_2) = v10 := (congrFun ((funext (hA_4 80 rfl)).trans (ew80)) (x4_2)).symm.trans ev10
              refine w_icmpge (t := 56) rfl rfl (show inr (v9) by omega) (show inr (v10) by omega) (fun b11 => ?_) (fun b11 => ?_)
              · refine Ew_of (pc' := 59) (fun _ => x_iinc (len := 3) rfl (l4_3)) ?_
                refine Ew_of (pc' := 4) (fun _ => x_goto rfl rfl) ?_
                have : (x4_2) = lkF ((w80)) ((w81)) ((a1)) (((x4_3 + 1)) : Int).toNat := by omega
                have : LM ((w80)) ((w81)) (((x4_3 + 1))) ((a1)) ((x4_2)) := LM_next j4_5 rfl (fun a b c => by omega) (fun a => by omega)
                exact ih4 _ (by omega) _ σ _ _ (x4_2) ((x4_3 + 1)) (rk_o (l4_0) rfl rfl) (rk_o (l4_1) rfl rfl) (rk_o (l4_2) rfl rfl) (rk_s) H (hS_4) (hA_4)   (show inr (x4_2) by omega) (show inr ((x4_3 + 1)) by omega) (show (0) ≤ ((x4_3 + 1)) by omega) (show ((x4_3 + 1)) ≤ (0) ∨ ((x4_3 + 1)) ≤ ((u6_49)) by omega) (show (x4_2) = -1 ∨ 0 ≤ (x4_2) ∧ (x4_2) < ((x4_3 + 1)) ∧ (x4_2) ≠ (a1) ∧ 0 < ((w80)) ((x4_2)) ∧ ((w81)) ((x4_2)) < 0 by omega) (show LM ((w80)) ((w81)) (((x4_3 + 1))) ((a1)) ((x4_2)) by assumption) (show (x4_2) = lkF ((w80)) ((w81)) ((a1)) (((x4_3 + 1)) : Int).toNat by assumption) rfl
              · refine Ew_of (pc' := 55) (fun _ => x_iload_n rfl l4_3) ?_
                refine Ew_of (pc' := 56) (fun _ => x_istore_n rfl) ?_
                refine Ew_of (pc' := 59) (fun _ => x_iinc (len := 3) rfl (rk_o (l4_3) rfl rfl)) ?_
                refine Ew_of (pc' := 4) (fun _ => x_goto rfl rfl) ?_
                have : (x4_3) = lkF ((w80)) ((w81)) ((a1)) (((x4_3 + 1)) : Int).toNat := by omega
                have : LM ((w80)) ((w81)) (((x4_3 + 1))) ((a1)) ((x4_3)) := LM_next j4_5 rfl (fun a b c => by omega) (fun a => by omega)
                exact ih4 _ (by omega) _ σ _ _ (x4_3) ((x4_3 + 1)) (rk_o (rk_o (l4_0) rfl rfl) rfl rfl) (rk_o (rk_o (l4_1) rfl rfl) rfl rfl) (rk_o (rk_s) rfl rfl) (rk_s) H (hS_4) (hA_4)   (show inr (x4_3) by omega) (show inr ((x4_3 + 1)) by omega) (show (0) ≤ ((x4_3 + 1)) by omega) (show ((x4_3 + 1)) ≤ (0) ∨ ((x4_3 + 1)) ≤ ((u6_49)) by omega) (show (x4_3) = -1 ∨ 0 ≤ (x4_3) ∧ (x4_3) < ((x4_3 + 1)) ∧ (x4_3) ≠ (a1) ∧ 0 < ((w80)) ((x4_3)) ∧ ((w81)) ((x4_3)) < 0 by omega) (show LM ((w80)) ((w81)) (((x4_3 + 1))) ((a1)) ((x4_3)) by assumption) (show (x4_3) = lkF ((w80)) ((w81)) ((a1)) (((x4_3 + 1)) : Int).toNat by assumption) rfl
/-- Writer.tree -/
theorem M419 {σ0 σ : rS} {D N : Nat → Nat} {F : hF} {A : hA} {d c s : Nat} {Q : wQ} (H : HS σ0 σ D N F A)  (w79 : Int → Int) (ew79 : A 79 = w79) (h0 : ∀ i, (0 : Int) ≤ i → i < 256 → 0 ≤ ((w79)) i) (h1 : su (fun i => ((w79)) i) 256 ≤ 16385) (h2 : TWO ((w79))) (k : ∀ (z : Int) σ F' A', HS σ0 σ D N F' A' → SF [(6, 49)] F F' → SA [80, 81, 82] A A' → ∀ v82 : Int → Int, A' 82 = v82 → (inr (z)) → (0 ≤ (z) ∧ (z) ≤ 600) → ((z) = 0 ∨ GF ((z) : Int).toNat ≤ su (fun i => ((w79)) i) 256) → ((z) ≤ 11 → CI ((v82)) ((z))) → ((z) ≤ 11 → ∀ k, (0 : Int) ≤ k → k < 256 → 0 < ((w79)) k → 1 ≤ ((v82)) k) → (∀ i, (0 : Int) ≤ i → i < 256 → ((v82)) i = dpH ((w79)) i) → ((z) = mxF ((w79))) → Q (some (I z)) σ c s) : Ew 419 (d + 1) 0 (rargs 0 [.ref (D 6)]) [] σ c s Q := by
  refine Ew_of (pc' := 1) (fun _ => x_aload_n rfl rfl) ?_
  refine Ew_of (pc' := 4) (fun _ => x_sipush (z := 256) rfl (by decide)) ?_
  refine w_pI H (o := 6) rfl rfl (H.perm 6 rfl) rfl rfl rfl (fun _ => rfl) rfl (show (0 : Int) ≤ 256 ∧ 256 ≤ 512 by omega) (fun σ H => ?_)
  refine Ew_of (pc' := 8) (fun _ => x_iconst rfl) ?_
  refine Ew_of (pc' := 9) (fun _ => x_istore_n rfl) ?_
  have : ∀ i, (0 : Int) ≤ i → i < 0 → ((A 80)) i = ((w79)) i := fun i a b => absurd b (by omega)
  have : ∀ i, (0 : Int) ≤ i → i < 0 → ((A 81)) (0 + i) = -1 := fun i a b => absurd b (by omega)
  suffices hl9 : ∀ (m : Nat), ∀ (ls : rO) (σ : rS) (F_9 : hF) (A_9 : hA) (x9_1 : Int), rlook ls 0 = some (.ref (D 6)) → rlook ls 1 = some (I (x9_1)) → HS σ0 σ D N F_9 A_9 → SF [] (updF F 6 49 (256)) F_9 → SA [80, 81] A A_9 → ∀ w9_80 : Int → Int, A_9 80 = w9_80 → ∀ w9_81 : Int → Int, A_9 81 = w9_81 → (inr (x9_1)) → ((0) ≤ (x9_1)) → ((x9_1) ≤ (0) ∨ (x9_1) ≤ ((256))) → (∀ i, 0 ≤ i → i < (x9_1) → ((w9_80)) i = ((w79)) i) → (∀ i, 0 ≤ i → i < (x9_1) → ((w9_81)) (0 + i) = -1) → (((256)) - (x9_1)).toNat = m → Ew 419 (d + 1) 9 ls [] σ c s Q from
    hl9 _ _ σ _ _ (0) (rk_o (rfl) rfl rfl) (rk_s) H (SF_refl) (SA_refl)  (A 80) (rfl) (A 81) (rfl) (show inr (0) by omega) (show (0) ≤ (0) by omega) (show (0) ≤ (0) ∨ (0) ≤ ((256)) by omega) (show ∀ i, 0 ≤ i → i < (0) → ((A 80)) i = ((w79)) i by assumption) (show ∀ i, 0 ≤ i → i < (0) → ((A 81)) (0 + i) = -1 by assumption) rfl
  as_aux_lemma =>
  intro m
  induction m using Nat.strongRecOn with
  | _ m ih9 =>
    intro ls σ F_9 A_9 x9_1 l9_0 l9_1 H hS_9 hA_9  w9_80 ew9_80 w9_81 ew9_81 j9_0 j9_1 j9_2 j9_3 j9_4 hm9
    refine Ew_of (pc' := 10) (fun _ => x_iload_n rfl l9_1) ?_
    refine Ew_of (pc' := 13) (fun _ => x_sipush (z := 256) rfl (by decide)) ?_
    refine w_icmpge (t := 41) rfl rfl (show inr (x9_1) by omega) (show inr (256) by omega) (fun b1 => ?_) (fun b1 => ?_)
    · have hkh : ∀ i, (0 : Int) ≤ i → i < 256 → ((w9_80)) i = ((w79)) i := fun i a b => j9_3 i a (by omega)
      have hih : ∀ i, (0 : Int) ≤ i → i < 256 → ((w9_81)) i = -1 := fun i a b => by have := j9_4 i a (by omega); rw [Int.zero_add] at this; exact this
      have htr0 := TR_0 (kn := (w9_80)) (is_ := (w9_81)) (fun k a b => by rw [hkh k a b]; exact (show ∀ i, (0 : Int) ≤ i → i < 256 → 0 ≤ ((w79)) i from by assumption) k a b) hih
      have htr1 : TR ((w9_80)) ((w9_81)) 256 (su (fun i => ((w79)) i) 256) := by have e : su ((w9_80)) 256 = su (fun i => ((w79)) i) 256 := su_congr (fun i a b => hkh i a (by omega)); rw [e] at htr0; exact htr0
      refine Ew_of (pc' := 42) (fun _ => x_aload_n rfl l9_0) ?_
      refine Ew_of (pc' := 43) (fun _ => x_iconst rfl) ?_
      refine w_inv H (o := 6) rfl rfl rfl (H.perm 6 rfl) rfl rfl (by rfl) (M418 H (256) ((hS_9 6 49 rfl)) (w9_80) (ew9_80) (w9_81) (ew9_81) (show inr ((-1)) by omega) (show -1 ≤ ((-1)) by omega) (fun z6 σ F2 A3 H hS4 hA5 pz6_0 pz6_1 pz6_2 pz6_3 => ⟨rfl, ?_⟩))
      refine Ew_of (pc' := 47) (fun _ => x_istore_n rfl) ?_
      refine Ew_of (pc' := 48) (fun _ => x_aload_n rfl (rk_o (l9_0) rfl rfl)) ?_
      refine Ew_of (pc' := 49) (fun _ => x_iload_n rfl rk_s) ?_
      refine w_inv H (o := 6) rfl rfl rfl (H.perm 6 rfl) rfl rfl (by rfl) (M418 H (256) (((hS4 6 49 rfl).trans (hS_9 6 49 rfl))) (w9_80) ((funext (hA5 80 rfl)).trans (ew9_80)) (w9_81) ((funext (hA5 81 rfl)).trans (ew9_81)) (show inr (z6) by omega) (show -1 ≤ (z6) by omega) (fun z11 σ F7 A8 H hS9 hA10 pz11_0 pz11_1 pz11_2 pz11_3 => ⟨rfl, ?_⟩))
      refine Ew_of (pc' := 53) (fun _ => x_istore_n rfl) ?_
      have hht0 : HTA ((w79)) ((w9_80)) ((w9_81)) 256 := HTA_0 hkh hih
      have hlk1 := pz6_3
      have hlk2 := pz11_3
      have hlm1 : LM ((w9_80)) ((w9_81)) ((256)) (-1) ((z6)) := by assumption
      have hlm2 : LM ((w9_80)) ((w9_81)) ((256)) ((z6)) ((z11)) := by assumption
      have htw : TWO ((w79)) := by assumption
      have h20 : 0 ≤ (z11) := by obtain ⟨x, y, x0, x1, y0, y1, xy, hx, hy⟩ := htw; by_cases e : x = (z6); exact (hlm2 y y0 (by omega) (fun q => xy (by omega)) (by rw [j9_3 y y0 (by omega)]; exact hy) (by have := j9_4 y y0 (by omega); rw [Int.zero_add] at this; omega)).1; exact (hlm2 x x0 (by omega) e (by rw [j9_3 x x0 (by omega)]; exact hx) (by have := j9_4 x x0 (by omega); rw [Int.zero_add] at this; omega)).1
      have h10 : 0 ≤ (z6) := by obtain ⟨x, y, x0, x1, y0, y1, xy, hx, hy⟩ := htw; exact (hlm1 x x0 (by omega) (by omega) (by rw [j9_3 x x0 (by omega)]; exact hx) (by have := j9_4 x x0 (by omega); rw [Int.zero_add] at this; omega)).1
      suffices hl53 : ∀ (m : Nat), ∀ (ls : rO) (σ : rS) (F_53 : hF) (A_53 : hA) (x53_1 : Int) (x53_2 : Int), rlook ls 0 = some (.ref (D 6)) → rlook ls 1 = some (I (x53_1)) → rlook ls 2 = some (I (x53_2)) → HS σ0 σ D N F_53 A_53 → SF [(6, 49)] F7 F_53 → SA [80, 81] A8 A_53 → ∀ y53_6_49 : Int, F_53 6 49 = y53_6_49 → ∀ w53_80 : Int → Int, A_53 80 = w53_80 → ∀ w53_81 : Int → Int, A_53 81 = w53_81 → (inr (x53_1)) → (inr (x53_2)) → (HTA ((w79)) ((w53_80)) ((w53_81)) ((y53_6_49))) → ((x53_1) = lkF ((w53_80)) ((w53_81)) (-1) ((y53_6_49) : Int).toNat) → ((x53_2) = lkF ((w53_80)) ((w53_81)) ((x53_1)) ((y53_6_49) : Int).toNat) → (-1 ≤ (x53_1) ∧ -1 ≤ (x53_2)) → ((x53_2) < 0 ∨ 0 ≤ (x53_1) ∧ (x53_1) < (y53_6_49) ∧ 0 < ((w53_80)) ((x53_1)) ∧ ((w53_81)) ((x53_1)) < 0 ∧ 0 ≤ (x53_2) ∧ (x53_2) < (y53_6_49) ∧ (x53_2) ≠ (x53_1) ∧ 0 < ((w53_80)) ((x53_2)) ∧ ((w53_81)) ((x53_2)) < 0) → (TR ((w53_80)) ((w53_81)) ((y53_6_49)) (su (fun i => ((w79)) i) 256)) → (LM ((w53_80)) ((w53_81)) ((y53_6_49)) (-1) ((x53_1))) → (LM ((w53_80)) ((w53_81)) ((y53_6_49)) ((x53_1)) ((x53_2))) → (0 ≤ (x53_2) ∨ 257 ≤ (y53_6_49)) → (∀ i, (0 : Int) ≤ i → i < 256 → ((w53_80)) i = ((w79)) i) → (256 ≤ (y53_6_49)) → ((x53_1) = -1 ∨ 0 ≤ (x53_1) ∧ (x53_1) < (y53_6_49) ∧ 0 < ((w53_80)) ((x53_1)) ∧ ((w53_81)) ((x53_1)) < 0) → (512 - (y53_6_49)).toNat = m → Ew 419 (d + 1) 53 ls [] σ c s Q from
        hl53 _ _ σ _ _ (z6) (z11) (rk_o (rk_o (l9_0) rfl rfl) rfl rfl) (rk_o (rk_s) rfl rfl) (rk_s) H (SF_refl) (SA_refl) (256) ((((hS9 6 49 rfl).trans (hS4 6 49 rfl)).trans (hS_9 6 49 rfl))) (w9_80) ((funext (hA10 80 rfl)).trans ((funext (hA5 80 rfl)).trans (ew9_80))) (w9_81) ((funext (hA10 81 rfl)).trans ((funext (hA5 81 rfl)).trans (ew9_81))) (show inr (z6) by omega) (show inr (z11) by omega) (show HTA ((w79)) ((w9_80)) ((w9_81)) ((256)) by assumption) (show (z6) = lkF ((w9_80)) ((w9_81)) (-1) ((256) : Int).toNat by assumption) (show (z11) = lkF ((w9_80)) ((w9_81)) ((z6)) ((256) : Int).toNat by assumption) (show -1 ≤ (z6) ∧ -1 ≤ (z11) by omega) (show (z11) < 0 ∨ 0 ≤ (z6) ∧ (z6) < (256) ∧ 0 < ((w9_80)) ((z6)) ∧ ((w9_81)) ((z6)) < 0 ∧ 0 ≤ (z11) ∧ (z11) < (256) ∧ (z11) ≠ (z6) ∧ 0 < ((w9_80)) ((z11)) ∧ ((w9_81)) ((z11)) < 0 by omega) (show TR ((w9_80)) ((w9_81)) ((256)) (su (fun i => ((w79)) i) 256) by assumption) (show LM ((w9_80)) ((w9_81)) ((256)) (-1) ((z6)) by assumption) (show LM ((w9_80)) ((w9_81)) ((256)) ((z6)) ((z11)) by assumption) (show 0 ≤ (z11) ∨ 257 ≤ (256) by omega) (show ∀ i, (0 : Int) ≤ i → i < 256 → ((w9_80)) i = ((w79)) i by assumption) (show 256 ≤ (256) by omega) (show (z6) = -1 ∨ 0 ≤ (z6) ∧ (z6) < (256) ∧ 0 < ((w9_80)) ((z6)) ∧ ((w9_81)) ((z6)) < 0 by omega) rfl
      as_aux_lemma =>
      intro m
      induction m using Nat.strongRecOn with
      | _ m ih53 =>
        intro ls σ F_53 A_53 x53_1 x53_2 l53_0 l53_1 l53_2 H hS_53 hA_53 y53_6_49 ey53_6_49 w53_80 ew53_80 w53_81 ew53_81 j53_0 j53_1 j53_2 j53_3 j53_4 j53_5 j53_6 j53_7 j53_8 j53_9 j53_10 j53_11 j53_12 j53_13 hm53
        have r12 : (0 : Int) ≤ y53_6_49 ∧ y53_6_49 ≤ 512 := by have h1 : (0 : Int) ≤ F_53 6 49 ∧ F_53 6 49 ≤ 512 := H.frng 6 49; rw [show F_53 6 49 = y53_6_49 from (ey53_6_49)] at h1; exact h1
        have j53_h : HTA ((w79)) ((w53_80)) ((w53_81)) ((y53_6_49)) := by assumption
        have j53_1 : (x53_1) = lkF ((w53_80)) ((w53_81)) (-1) ((y53_6_49) : Int).toNat := by assumption
        have j53_2 : (x53_2) = lkF ((w53_80)) ((w53_81)) ((x53_1)) ((y53_6_49) : Int).toNat := by assumption
        refine Ew_of (pc' := 54) (fun _ => x_iload_n rfl l53_2) ?_
        refine w_iflt (t := 134) rfl rfl (show inr (x53_2) by omega) (fun b13 => ?_) (fun b13 => ?_)
        · obtain ⟨kc_, ic_, hHT, hag_⟩ := HTA_e j53_h (by omega) j53_1 j53_2 (by omega)
          have hroot := TR_unique (show TR ((w53_80)) ((w53_81)) ((y53_6_49)) (su (fun i => ((w79)) i) 256) from by assumption) (by omega) (show LM ((w53_80)) ((w53_81)) ((y53_6_49)) ((x53_1)) ((x53_2)) from by assumption) (by omega)
          refine Ew_of (pc' := 135) (fun _ => x_iconst rfl) ?_
          refine Ew_of (pc' := 136) (fun _ => x_istore_n rfl) ?_
          refine Ew_of (pc' := 137) (fun _ => x_iconst rfl) ?_
          refine Ew_of (pc' := 139) (fun _ => x_istore rfl) ?_
          have htr : TR ((w53_80)) ((w53_81)) ((y53_6_49)) (su (fun i => ((w79)) i) 256) := by assumption
          have htb := TR_B htr
          have : ∀ i, (0 : Int) ≤ i → i < 0 → ((A 82)) i = dp ((w53_81)) i := fun i a b => absurd b (by omega)
          have : ∀ i, (0 : Int) ≤ i → i < 0 → ((A 82)) i ≤ 0 := fun i a b => absurd b (by omega)
          have : (0 : Int) = 0 ∨ EXD ((A 82)) 0 0 := .inl rfl
          suffices hl139 : ∀ (m : Nat), ∀ (ls : rO) (σ : rS) (F_139 : hF) (A_139 : hA) (x139_3 : Int) (x139_4 : Int), rlook ls 0 = some (.ref (D 6)) → rlook ls 3 = some (I (x139_3)) → rlook ls 4 = some (I (x139_4)) → HS σ0 σ D N F_139 A_139 → SF [] F_53 F_139 → SA [82] A_53 A_139 → ∀ w139_82 : Int → Int, A_139 82 = w139_82 → (inr (x139_3)) → (inr (x139_4)) → ((0) ≤ (x139_4)) → ((x139_4) ≤ (0) ∨ (x139_4) ≤ ((256))) → (∀ i, 0 ≤ i → i < (x139_4) → ((w139_82)) i = dp ((w53_81)) i) → (0 ≤ (x139_3) ∧ (x139_3) ≤ 600) → (∀ i, 0 ≤ i → i < (x139_4) → ((w139_82)) i ≤ (x139_3)) → ((x139_3) = 0 ∨ EXD ((w139_82)) ((x139_4)) ((x139_3))) → (((256)) - (x139_4)).toNat = m → Ew 419 (d + 1) 139 ls [] σ c s Q from
            hl139 _ _ σ _ _ (0) (0) (rk_o (rk_o (l53_0) rfl rfl) rfl rfl) (rk_o (rk_s) rfl rfl) (rk_s) H (SF_refl) (SA_refl)  (A 82) ((funext (hA_53 82 rfl)).trans ((funext (hA10 82 rfl)).trans ((funext (hA5 82 rfl)).trans (funext (hA_9 82 rfl))))) (show inr (0) by omega) (show inr (0) by omega) (show (0) ≤ (0) by omega) (show (0) ≤ (0) ∨ (0) ≤ ((256)) by omega) (show ∀ i, 0 ≤ i → i < (0) → ((A 82)) i = dp ((w53_81)) i by assumption) (show 0 ≤ (0) ∧ (0) ≤ 600 by omega) (show ∀ i, 0 ≤ i → i < (0) → ((A 82)) i ≤ (0) by assumption) (show (0) = 0 ∨ EXD ((A 82)) ((0)) ((0)) by assumption) rfl
          as_aux_lemma =>
          intro m
          induction m using Nat.strongRecOn with
          | _ m ih139 =>
            intro ls σ F_139 A_139 x139_3 x139_4 l139_0 l139_3 l139_4 H hS_139 hA_139  w139_82 ew139_82 j139_0 j139_1 j139_2 j139_3 j139_4 j139_5 j139_6 j139_7 hm139
            have j139_dp : ∀ i, 0 ≤ i → i < (x139_4) → ((w139_82)) i = dp ((w53_81)) i := by assumption
            have j139_le : ∀ i, 0 ≤ i → i < (x139_4) → ((w139_82)) i ≤ (x139_3) := by assumption
            have j139_ex : (x139_3) = 0 ∨ EXD ((w139_82)) ((x139_4)) ((x139_3)) := by assumption
            refine Ew_of (pc' := 141) (fun _ => x_iload rfl l139_4) ?_
            refine Ew_of (pc' := 144) (fun _ => x_sipush (z := 256) rfl (by decide)) ?_
            refine w_icmpge (t := 221) rfl rfl (show inr (x139_4) by omega) (show inr (256) by omega) (fun b14 => ?_) (fun b14 => ?_)
            · have hdr_ : ∀ i, (0 : Int) ≤ i → i < 256 → ((w139_82)) i = dpH ((w79)) i := fun i a b => by unfold dpH; rw [hHT, j139_dp i a (by omega)]; exact (dp_cg hag_ (fun k x y u => (htb.2.2.1 k x y u).2) a (by omega)).symm
              have hmx_ : (x139_3) = mxF ((w79)) := by unfold mxF; rw [← mxN_cg (n := 256) (d := (w139_82)) (fun i a b => hdr_ i a (by omega))]; exact mxN_is (n := 256) (by omega) (fun i a b => j139_le i a (by omega)) (by rcases j139_ex with e | ⟨i, a, b, c⟩; (exact .inl e); (exact .inr ⟨i, a, by omega, c⟩))
              have hhk := (show ∀ i, (0 : Int) ≤ i → i < 256 → ((w53_80)) i = ((w79)) i from by assumption)
              have hci : (x139_3) ≤ 11 → CI ((w139_82)) ((x139_3)) ∧ ∀ k, (0 : Int) ≤ k → k < 256 → 0 < ((w53_80)) k → 1 ≤ ((w139_82)) k := fun q => TR_CI htr (by omega) hroot (fun k a b => j139_dp k a (by omega)) (fun k a b => j139_le k a (by omega)) (by rcases j139_ex with e | ⟨i, a, b, c⟩; exact ⟨0, by omega, by omega, by have q1 := j139_le 0 (by omega) (by omega); have q2 := j139_dp 0 (by omega) (by omega); have q3 := dp_nn (is_ := (w53_81)) 0; omega⟩; exact ⟨i, a, by omega, c⟩) q
              have : (x139_3) ≤ 11 → CI ((w139_82)) ((x139_3)) := fun q => (hci q).1
              have : (x139_3) ≤ 11 → ∀ k, (0 : Int) ≤ k → k < 256 → 0 < ((w79)) k → 1 ≤ ((w139_82)) k := fun q k a b c => (hci q).2 k a b (by rw [hhk k a b]; exact c)
              have : (x139_3) = 0 ∨ GF ((x139_3) : Int).toNat ≤ su (fun i => ((w79)) i) 256 := by rcases j139_ex with e | ⟨i, a, b, c⟩; exact .inl e; by_cases q : 0 < ((w53_80)) i; exact .inr (by rw [← c, j139_dp i a (by omega)]; exact TR_dep htr a (by omega) q); exact .inl (by rw [← c, j139_dp i a (by omega)]; rcases dp_s htb.2.1 htb.2.2.1 (k := i) a (by omega) with w | w; exact w.2; have := htb.2.2.2 i a (by omega) w.1; omega)
              refine Ew_of (pc' := 222) (fun _ => x_iload_n rfl l139_3) ?_
              exact w_ireturn rfl (k (x139_3) σ _ _ H (SF_trans (SF_trans (SF_trans (SF_trans (SF_trans (SF_upd (SF_refl) rfl) hS_9 (any_sub rfl)) hS4 (any_sub rfl)) hS9 (any_sub rfl)) hS_53 (any_sub rfl)) hS_139 (any_sub rfl)) (SA_trans (SA_trans (SA_trans (SA_trans (SA_trans (SA_refl) hA_9 (any_subA rfl)) hA5 (any_subA rfl)) hA10 (any_subA rfl)) hA_53 (any_subA rfl)) hA_139 (any_subA rfl)) (w139_82) (ew139_82) (show inr (x139_3) by omega) (show 0 ≤ (x139_3) ∧ (x139_3) ≤ 600 by omega) (show (x139_3) = 0 ∨ GF ((x139_3) : Int).toNat ≤ su (fun i => ((w79)) i) 256 by assumption) (show (x139_3) ≤ 11 → CI ((w139_82)) ((x139_3)) by first | assumption | exact fun h => absurd rfl h | exact fun h => absurd h (by decide) | omega) (show (x139_3) ≤ 11 → ∀ k, (0 : Int) ≤ k → k < 256 → 0 < ((w79)) k → 1 ≤ ((w139_82)) k by first | assumption | exact fun h => absurd rfl h | exact fun h => absurd h (by decide) | omega) (show ∀ i, (0 : Int) ≤ i → i < 256 → ((w139_82)) i = dpH ((w79)) i by assumption) (show (x139_3) = mxF ((w79)) by assumption))
            · refine Ew_of (pc' := 148) (fun _ => x_aload_n rfl l139_0) ?_
              refine w_gT H (o := 6) (t := 82) rfl (H.perm 6 rfl) rfl rfl rfl rfl rfl rfl ?_
              refine Ew_of (pc' := 153) (fun _ => x_iload rfl l139_4) ?_
              refine Ew_of (pc' := 154) (fun _ => x_iconst rfl) ?_
              refine w_sI H (o := 82) (n := 256) rfl (H.perm 82 rfl) rfl rfl (H.fix 82 rfl rfl) (show 0 ≤ x139_4 ∧ x139_4 < ((256 : Nat) : Int) by omega) (by decide) (show (-2147483648 : Int) ≤ 0 ∧ 0 ≤ 2147483647 by omega) (fun σ H => ?_)
              refine Ew_of (pc' := 156) (fun _ => x_aload_n rfl l139_0) ?_
              refine w_gT H (o := 6) (t := 81) rfl (H.perm 6 rfl) rfl rfl rfl rfl rfl rfl ?_
              refine Ew_of (pc' := 161) (fun _ => x_iload rfl l139_4) ?_
              refine w_lI H (o := 81) (n := 512) rfl (H.perm 81 rfl) rfl rfl (H.fix 81 rfl rfl) (show 0 ≤ x139_4 ∧ x139_4 < ((512 : Nat) : Int) by omega) (by decide) (fun v15 ev15 qv15 => ?_)
              have qv15 : (-2147483648 : Int) ≤ v15 ∧ v15 ≤ 2147483647 := qv15
              have ev15 : (w53_81) (x139_4) = v15 := (congrFun ((funext (hA_139 81 rfl)).trans (ew53_81)) (x139_4)).symm.trans ev15
              refine Ew_of (pc' := 164) (fun _ => x_istore rfl) ?_
              have hd0 : ((upd1 (w139_82) (x139_4) (0))) ((x139_4)) = 0 := upd1_s
              have hdp := dp_s htb.2.1 htb.2.2.1 (k := (x139_4)) (by omega) (by omega)
              rw [ev15] at hdp
              have hbl := fun q => htb.2.2.1 ((x139_4)) (by omega) (by omega) q
              rw [ev15] at hbl
              have : ∀ i, 0 ≤ i → i < (x139_4) → ((upd1 (w139_82) (x139_4) (0))) i = dp ((w53_81)) i := fun i a b => by rw [upd1_o (by omega)]; exact j139_dp i a b
              have : ∀ i, 0 ≤ i → i < (x139_4) → ((upd1 (w139_82) (x139_4) (0))) i ≤ (x139_3) := fun i a b => by rw [upd1_o (by omega)]; exact j139_le i a b
              have : (x139_3) = 0 ∨ EXD ((upd1 (w139_82) (x139_4) (0))) ((x139_4)) ((x139_3)) := by rcases j139_ex with q | ⟨i, a, b, c⟩; exact .inl q; exact .inr ⟨i, a, b, by rw [upd1_o (by omega)]; exact c⟩
              suffices hl164 : ∀ (m : Nat), ∀ (ls : rO) (σ : rS) (F_164 : hF) (A_164 : hA) (x164_5 : Int), rlook ls 0 = some (.ref (D 6)) → rlook ls 3 = some (I (x139_3)) → rlook ls 4 = some (I (x139_4)) → rlook ls 5 = some (I (x164_5)) → HS σ0 σ D N F_164 A_164 → SF [] F_139 F_164 → SA [82] (updA A_139 82 (x139_4) (0)) A_164 → ∀ w164_82 : Int → Int, A_164 82 = w164_82 → (inr (x164_5)) → (-1 ≤ (x164_5) ∨ (x164_5) < 0) → ((x164_5) < (y53_6_49)) → (∀ i, 0 ≤ i → i < (x139_4) → ((w164_82)) i = dp ((w53_81)) i) → ((x164_5) < 0 ∧ ((w164_82)) ((x139_4)) = dp ((w53_81)) ((x139_4)) ∨ 0 ≤ (x164_5) ∧ ((w164_82)) ((x139_4)) + dp ((w53_81)) ((x164_5)) + 1 = dp ((w53_81)) ((x139_4))) → (0 ≤ ((w164_82)) ((x139_4))) → (∀ i, 0 ≤ i → i < (x139_4) → ((w164_82)) i ≤ (x139_3)) → ((x139_3) = 0 ∨ EXD ((w164_82)) ((x139_4)) ((x139_3))) → (if (x164_5) < 0 then 0 else (y53_6_49) - (x164_5)).toNat = m → Ew 419 (d + 1) 164 ls [] σ c s Q from
                hl164 _ _ σ _ _ (v15) (rk_o (l139_0) rfl rfl) (rk_o (l139_3) rfl rfl) (rk_o (l139_4) rfl rfl) (rk_s) H (SF_refl) (SA_refl)  (upd1 (w139_82) (x139_4) (0)) (congrArg (fun q => upd1 q (x139_4) (0)) (ew139_82)) (show inr (v15) by omega) (show -1 ≤ (v15) ∨ (v15) < 0 by omega) (show (v15) < (y53_6_49) by omega) (show ∀ i, 0 ≤ i → i < (x139_4) → ((upd1 (w139_82) (x139_4) (0))) i = dp ((w53_81)) i by assumption) (show (v15) < 0 ∧ ((upd1 (w139_82) (x139_4) (0))) ((x139_4)) = dp ((w53_81)) ((x139_4)) ∨ 0 ≤ (v15) ∧ ((upd1 (w139_82) (x139_4) (0))) ((x139_4)) + dp ((w53_81)) ((v15)) + 1 = dp ((w53_81)) ((x139_4)) by omega) (show 0 ≤ ((upd1 (w139_82) (x139_4) (0))) ((x139_4)) by omega) (show ∀ i, 0 ≤ i → i < (x139_4) → ((upd1 (w139_82) (x139_4) (0))) i ≤ (x139_3) by assumption) (show (x139_3) = 0 ∨ EXD ((upd1 (w139_82) (x139_4) (0))) ((x139_4)) ((x139_3)) by assumption) rfl
              as_aux_lemma =>
              intro m
              induction m using Nat.strongRecOn with
              | _ m ih164 =>
                intro ls σ F_164 A_164 x164_5 l164_0 l164_3 l164_4 l164_5 H hS_164 hA_164  w164_82 ew164_82 j164_0 j164_1 j164_2 j164_3 j164_4 j164_5 j164_6 j164_7 hm164
                have j164_dp : ∀ i, 0 ≤ i → i < (x139_4) → ((w164_82)) i = dp ((w53_81)) i := by assumption
                have j164_le : ∀ i, 0 ≤ i → i < (x139_4) → ((w164_82)) i ≤ (x139_3) := by assumption
                have j164_ex : (x139_3) = 0 ∨ EXD ((w164_82)) ((x139_4)) ((x139_3)) := by assumption
                have hdn := dp_nn (is_ := (w53_81)) ((x139_4))
                have hdn2 := dp_nn (is_ := (w53_81)) ((x164_5))
                refine Ew_of (pc' := 166) (fun _ => x_iload rfl l164_5) ?_
                refine w_iflt (t := 192) rfl rfl (show inr (x164_5) by omega) (fun b16 => ?_) (fun b16 => ?_)
                · refine Ew_of (pc' := 193) (fun _ => x_aload_n rfl l164_0) ?_
                  refine w_gT H (o := 6) (t := 82) rfl (H.perm 6 rfl) rfl rfl rfl rfl rfl rfl ?_
                  refine Ew_of (pc' := 198) (fun _ => x_iload rfl l164_4) ?_
                  refine w_lI H (o := 82) (n := 256) rfl (H.perm 82 rfl) rfl rfl (H.fix 82 rfl rfl) (show 0 ≤ x139_4 ∧ x139_4 < ((256 : Nat) : Int) by omega) (by decide) (fun v17 ev17 qv17 => ?_)
                  have qv17 : (-2147483648 : Int) ≤ v17 ∧ v17 ≤ 2147483647 := qv17
                  have ev17 : (w164_82) (x139_4) = v17 := (congrFun (ew164_82) (x139_4)).symm.trans ev17
                  refine Ew_of (pc' := 200) (fun _ => x_iload_n rfl l164_3) ?_
                  refine w_icmple (t := 213) rfl rfl (show inr (v17) by omega) (show inr (x139_3) by omega) (fun b18 => ?_) (fun b18 => ?_)
                  · refine Ew_of (pc' := 214) (fun _ => x_iload_n rfl l164_3) ?_
                    refine Ew_of (pc' := 215) (fun _ => x_istore_n rfl) ?_
                    refine Ew_of (pc' := 218) (fun _ => x_iinc (len := 3) rfl (rk_o (l164_4) rfl rfl)) ?_
                    refine Ew_of (pc' := 139) (fun _ => x_goto rfl rfl) ?_
                    have hdd : ((w164_82)) (((x139_4 + 1)) - 1) = dp ((w53_81)) (((x139_4 + 1)) - 1) := by rw [show ((x139_4 + 1)) - 1 = x139_4 by omega]; omega
                    have : ∀ i, 0 ≤ i → i < ((x139_4 + 1)) → ((w164_82)) i = dp ((w53_81)) i := fun i a b => by by_cases e : i = ((x139_4 + 1)) - 1; rw [e]; exact hdd; exact j164_dp i a (by omega)
                    have : ∀ i, 0 ≤ i → i < ((x139_4 + 1)) → ((w164_82)) i ≤ (x139_3) := fun i a b => by by_cases e : i = x139_4; rw [e]; omega; have := j164_le i a (by omega); omega
                    have : (x139_3) = 0 ∨ EXD ((w164_82)) (((x139_4 + 1))) ((x139_3)) := by first | exact .inr ⟨x139_4, by omega, by omega, by omega⟩ | (rcases j164_ex with q | ⟨i, a, b, c⟩; exact .inl q; exact .inr ⟨i, a, by omega, c⟩)
                    exact ih139 _ (by omega) _ σ _ _ (x139_3) ((x139_4 + 1)) (rk_o (rk_o (l164_0) rfl rfl) rfl rfl) (rk_o (rk_s) rfl rfl) (rk_s) H (SF_trans (hS_139) hS_164 (any_sub rfl)) (SA_trans (SA_upd (hA_139) rfl) hA_164 (any_subA rfl))  (w164_82) (ew164_82) (show inr (x139_3) by omega) (show inr ((x139_4 + 1)) by omega) (show (0) ≤ ((x139_4 + 1)) by omega) (show ((x139_4 + 1)) ≤ (0) ∨ ((x139_4 + 1)) ≤ ((256)) by omega) (show ∀ i, 0 ≤ i → i < ((x139_4 + 1)) → ((w164_82)) i = dp ((w53_81)) i by assumption) (show 0 ≤ (x139_3) ∧ (x139_3) ≤ 600 by omega) (show ∀ i, 0 ≤ i → i < ((x139_4 + 1)) → ((w164_82)) i ≤ (x139_3) by assumption) (show (x139_3) = 0 ∨ EXD ((w164_82)) (((x139_4 + 1))) ((x139_3)) by assumption) rfl
                  · refine Ew_of (pc' := 204) (fun _ => x_aload_n rfl l164_0) ?_
                    refine w_gT H (o := 6) (t := 82) rfl (H.perm 6 rfl) rfl rfl rfl rfl rfl rfl ?_
                    refine Ew_of (pc' := 209) (fun _ => x_iload rfl l164_4) ?_
                    refine w_lI H (o := 82) (n := 256) rfl (H.perm 82 rfl) rfl rfl (H.fix 82 rfl rfl) (show 0 ≤ x139_4 ∧ x139_4 < ((256 : Nat) : Int) by omega) (by decide) (fun v19 ev19 qv19 => ?_)
                    have qv19 : (-2147483648 : Int) ≤ v19 ∧ v19 ≤ 2147483647 := qv19
                    have ev19 : (w164_82) (x139_4) = v19 := (congrFun (ew164_82) (x139_4)).symm.trans ev19
                    refine Ew_of (pc' := 214) (fun _ => x_goto rfl rfl) ?_
                    refine Ew_of (pc' := 215) (fun _ => x_istore_n rfl) ?_
                    refine Ew_of (pc' := 218) (fun _ => x_iinc (len := 3) rfl (rk_o (l164_4) rfl rfl)) ?_
                    refine Ew_of (pc' := 139) (fun _ => x_goto rfl rfl) ?_
                    have hdd : ((w164_82)) (((x139_4 + 1)) - 1) = dp ((w53_81)) (((x139_4 + 1)) - 1) := by rw [show ((x139_4 + 1)) - 1 = x139_4 by omega]; omega
                    have : ∀ i, 0 ≤ i → i < ((x139_4 + 1)) → ((w164_82)) i = dp ((w53_81)) i := fun i a b => by by_cases e : i = ((x139_4 + 1)) - 1; rw [e]; exact hdd; exact j164_dp i a (by omega)
                    have : ∀ i, 0 ≤ i → i < ((x139_4 + 1)) → ((w164_82)) i ≤ (v19) := fun i a b => by by_cases e : i = x139_4; rw [e]; omega; have := j164_le i a (by omega); omega
                    have : (v19) = 0 ∨ EXD ((w164_82)) (((x139_4 + 1))) ((v19)) := by first | exact .inr ⟨x139_4, by omega, by omega, by omega⟩ | (rcases j164_ex with q | ⟨i, a, b, c⟩; exact .inl q; exact .inr ⟨i, a, by omega, c⟩)
                    exact ih139 _ (by omega) _ σ _ _ (v19) ((x139_4 + 1)) (rk_o (rk_o (l164_0) rfl rfl) rfl rfl) (rk_o (rk_s) rfl rfl) (rk_s) H (SF_trans (hS_139) hS_164 (any_sub rfl)) (SA_trans (SA_upd (hA_139) rfl) hA_164 (any_subA rfl))  (w164_82) (ew164_82) (show inr (v19) by omega) (show inr ((x139_4 + 1)) by omega) (show (0) ≤ ((x139_4 + 1)) by omega) (show ((x139_4 + 1)) ≤ (0) ∨ ((x139_4 + 1)) ≤ ((256)) by omega) (show ∀ i, 0 ≤ i → i < ((x139_4 + 1)) → ((w164_82)) i = dp ((w53_81)) i by assumption) (show 0 ≤ (v19) ∧ (v19) ≤ 600 by omega) (show ∀ i, 0 ≤ i → i < ((x139_4 + 1)) → ((w164_82)) i ≤ (v19) by assumption) (show (v19) = 0 ∨ EXD ((w164_82)) (((x139_4 + 1))) ((v19)) by assumption) rfl
                · have hdl := dp_s htb.2.1 htb.2.2.1 (k := (x164_5)) (by omega) (by omega)
                  have hbl := fun q => htb.2.2.1 ((x164_5)) (by omega) (by omega) q
                  refine Ew_of (pc' := 170) (fun _ => x_aload_n rfl l164_0) ?_
                  refine w_gT H (o := 6) (t := 82) rfl (H.perm 6 rfl) rfl rfl rfl rfl rfl rfl ?_
                  refine Ew_of (pc' := 175) (fun _ => x_iload rfl l164_4) ?_
                  refine Ew_of (pc' := 176) (fun _ => x_dup2 rfl rfl rfl) ?_
                  refine w_lI H (o := 82) (n := 256) rfl (H.perm 82 rfl) rfl rfl (H.fix 82 rfl rfl) (show 0 ≤ x139_4 ∧ x139_4 < ((256 : Nat) : Int) by omega) (by decide) (fun v20 ev20 qv20 => ?_)
                  have qv20 : (-2147483648 : Int) ≤ v20 ∧ v20 ≤ 2147483647 := qv20
                  have ev20 : (w164_82) (x139_4) = v20 := (congrFun (ew164_82) (x139_4)).symm.trans ev20
                  refine Ew_of (pc' := 178) (fun _ => x_iconst rfl) ?_
                  refine w_iadd rfl ?_
                  have hx0 : ((v20 + 1)) = ((w164_82)) ((x139_4)) + 1 := by omega
                  have : ∀ i, 0 ≤ i → i < (x139_4) → (upd1 ((w164_82)) ((x139_4)) (((v20 + 1)))) i = dp ((w53_81)) i := fun i a b => by rw [upd1_o (by omega)]; exact j164_dp i a b
                  have : ∀ i, 0 ≤ i → i < (x139_4) → (upd1 ((w164_82)) ((x139_4)) (((v20 + 1)))) i ≤ (x139_3) := fun i a b => by rw [upd1_o (by omega)]; exact j164_le i a b
                  have : (x139_3) = 0 ∨ EXD (upd1 ((w164_82)) ((x139_4)) (((v20 + 1)))) ((x139_4)) ((x139_3)) := by rcases j164_ex with q | ⟨i, a, b, c⟩; exact .inl q; exact .inr ⟨i, a, b, by rw [upd1_o (by omega)]; exact c⟩
                  have hx1 : (upd1 ((w164_82)) ((x139_4)) (((v20 + 1)))) ((x139_4)) = ((v20 + 1)) := upd1_s
                  refine w_sI H (o := 82) (n := 256) rfl (H.perm 82 rfl) rfl rfl (H.fix 82 rfl rfl) (show 0 ≤ x139_4 ∧ x139_4 < ((256 : Nat) : Int) by omega) (by decide) (show (-2147483648 : Int) ≤ (v20 + 1) ∧ (v20 + 1) ≤ 2147483647 by omega) (fun σ H => ?_)
                  refine Ew_of (pc' := 181) (fun _ => x_aload_n rfl l164_0) ?_
                  refine w_gT H (o := 6) (t := 81) rfl (H.perm 6 rfl) rfl rfl rfl rfl rfl rfl ?_
                  refine Ew_of (pc' := 186) (fun _ => x_iload rfl l164_5) ?_
                  refine w_lI H (o := 81) (n := 512) rfl (H.perm 81 rfl) rfl rfl (H.fix 81 rfl rfl) (show 0 ≤ x164_5 ∧ x164_5 < ((512 : Nat) : Int) by omega) (by decide) (fun v21 ev21 qv21 => ?_)
                  have qv21 : (-2147483648 : Int) ≤ v21 ∧ v21 ≤ 2147483647 := qv21
                  have ev21 : (w53_81) (x164_5) = v21 := (congrFun ((funext (hA_164 81 rfl)).trans ((funext (hA_139 81 rfl)).trans (ew53_81))) (x164_5)).symm.trans ev21
                  have hq5 := ev21
                  rw [hq5] at hdl hbl
                  refine Ew_of (pc' := 189) (fun _ => x_istore rfl) ?_
                  refine Ew_of (pc' := 164) (fun _ => x_goto rfl rfl) ?_
                  exact ih164 _ (by omega) _ σ _ _ (v21) (rk_o (l164_0) rfl rfl) (rk_o (l164_3) rfl rfl) (rk_o (l164_4) rfl rfl) (rk_s) H (hS_164) (SA_upd (hA_164) rfl)  (upd1 (w164_82) (x139_4) ((v20 + 1))) (congrArg (fun q => upd1 q (x139_4) ((v20 + 1))) (ew164_82)) (show inr (v21) by omega) (show -1 ≤ (v21) ∨ (v21) < 0 by omega) (show (v21) < (y53_6_49) by omega) (show ∀ i, 0 ≤ i → i < (x139_4) → ((upd1 (w164_82) (x139_4) ((v20 + 1)))) i = dp ((w53_81)) i by assumption) (show (v21) < 0 ∧ ((upd1 (w164_82) (x139_4) ((v20 + 1)))) ((x139_4)) = dp ((w53_81)) ((x139_4)) ∨ 0 ≤ (v21) ∧ ((upd1 (w164_82) (x139_4) ((v20 + 1)))) ((x139_4)) + dp ((w53_81)) ((v21)) + 1 = dp ((w53_81)) ((x139_4)) by omega) (show 0 ≤ ((upd1 (w164_82) (x139_4) ((v20 + 1)))) ((x139_4)) by omega) (show ∀ i, 0 ≤ i → i < (x139_4) → ((upd1 (w164_82) (x139_4) ((v20 + 1)))) i ≤ (x139_3) by assumption) (show (x139_3) = 0 ∨ EXD ((upd1 (w164_82) (x139_4) ((v20 + 1)))) ((x139_4)) ((x139_3)) by assumption) rfl
        · have hts := TR_step (show TR ((w53_80)) ((w53_81)) ((y53_6_49)) (su (fun i => ((w79)) i) 256) from by assumption) (o := (x53_1)) (t := (x53_2)) (by omega) (by omega) (by omega) (by omega) (by omega) (by omega) (by omega) (by omega) (by omega) (fun k a b c d => ((show LM ((w53_80)) ((w53_81)) ((y53_6_49)) (-1) ((x53_1)) from by assumption) k a b (by omega) c d).2) (fun k a b c d e => ((show LM ((w53_80)) ((w53_81)) ((y53_6_49)) ((x53_1)) ((x53_2)) from by assumption) k a b c d e).2)
          have hkh : ∀ i, (0 : Int) ≤ i → i < 256 → (upd1 ((w53_80)) ((y53_6_49)) (((w53_80)) ((x53_1)) + ((w53_80)) ((x53_2)))) i = ((w79)) i := fun i a b => by rw [upd1_o (by omega)]; exact (show ∀ i, (0 : Int) ≤ i → i < 256 → ((w53_80)) i = ((w79)) i from by assumption) i a b
          have hts1 := hts.1
          have hts2 := hts.2.1
          have hts3 := hts.2.2
          clear hts
          refine Ew_of (pc' := 58) (fun _ => x_aload_n rfl l53_0) ?_
          refine w_gT H (o := 6) (t := 80) rfl (H.perm 6 rfl) rfl rfl rfl rfl rfl rfl ?_
          refine Ew_of (pc' := 62) (fun _ => x_aload_n rfl l53_0) ?_
          refine w_gI H (o := 6) (w := y53_6_49) rfl (H.perm 6 rfl) rfl rfl rfl (fun _ => rfl) (ey53_6_49) ?_
          refine Ew_of (pc' := 66) (fun _ => x_aload_n rfl l53_0) ?_
          refine w_gT H (o := 6) (t := 80) rfl (H.perm 6 rfl) rfl rfl rfl rfl rfl rfl ?_
          refine Ew_of (pc' := 70) (fun _ => x_iload_n rfl l53_1) ?_
          refine w_lI H (o := 80) (n := 512) rfl (H.perm 80 rfl) rfl rfl (H.fix 80 rfl rfl) (show 0 ≤ x53_1 ∧ x53_1 < ((512 : Nat) : Int) by omega) (by decide) (fun v22 ev22 qv22 => ?_)
          have qv22 : (-2147483648 : Int) ≤ v22 ∧ v22 ≤ 2147483647 := qv22
          have ev22 : (w53_80) (x53_1) = v22 := (congrFun (ew53_80) (x53_1)).symm.trans ev22
          refine Ew_of (pc' := 72) (fun _ => x_aload_n rfl l53_0) ?_
          refine w_gT H (o := 6) (t := 80) rfl (H.perm 6 rfl) rfl rfl rfl rfl rfl rfl ?_
          refine Ew_of (pc' := 76) (fun _ => x_iload_n rfl l53_2) ?_
          refine w_lI H (o := 80) (n := 512) rfl (H.perm 80 rfl) rfl rfl (H.fix 80 rfl rfl) (show 0 ≤ x53_2 ∧ x53_2 < ((512 : Nat) : Int) by omega) (by decide) (fun v23 ev23 qv23 => ?_)
          have qv23 : (-2147483648 : Int) ≤ v23 ∧ v23 ≤ 2147483647 := qv23
          have ev23 : (w53_80) (x53_2) = v23 := (congrFun (ew53_80) (x53_2)).symm.trans ev23
          have hkv1 := ev22
          have hkv2 := ev23
          rw [ev22, ev23] at hts3 hkh
          refine w_iadd rfl ?_
          refine w_sI H (o := 80) (n := 512) rfl (H.perm 80 rfl) rfl rfl (H.fix 80 rfl rfl) (show 0 ≤ y53_6_49 ∧ y53_6_49 < ((512 : Nat) : Int) by omega) (by decide) (show (-2147483648 : Int) ≤ (v22 + v23) ∧ (v22 + v23) ≤ 2147483647 by omega) (fun σ H => ?_)
          refine Ew_of (pc' := 80) (fun _ => x_aload_n rfl l53_0) ?_
          refine w_gT H (o := 6) (t := 81) rfl (H.perm 6 rfl) rfl rfl rfl rfl rfl rfl ?_
          refine Ew_of (pc' := 84) (fun _ => x_aload_n rfl l53_0) ?_
          refine w_gI H (o := 6) (w := y53_6_49) rfl (H.perm 6 rfl) rfl rfl rfl (fun _ => rfl) (ey53_6_49) ?_
          refine Ew_of (pc' := 88) (fun _ => x_iconst rfl) ?_
          refine w_sI H (o := 81) (n := 512) rfl (H.perm 81 rfl) rfl rfl (H.fix 81 rfl rfl) (show 0 ≤ y53_6_49 ∧ y53_6_49 < ((512 : Nat) : Int) by omega) (by decide) (show (-2147483648 : Int) ≤ (-1) ∧ (-1) ≤ 2147483647 by omega) (fun σ H => ?_)
          refine Ew_of (pc' := 90) (fun _ => x_aload_n rfl l53_0) ?_
          refine w_gT H (o := 6) (t := 81) rfl (H.perm 6 rfl) rfl rfl rfl rfl rfl rfl ?_
          refine Ew_of (pc' := 94) (fun _ => x_iload_n rfl l53_1) ?_
          refine Ew_of (pc' := 95) (fun _ => x_aload_n rfl l53_0) ?_
          refine w_gI H (o := 6) (w := y53_6_49) rfl (H.perm 6 rfl) rfl rfl rfl (fun _ => rfl) (ey53_6_49) ?_
          refine w_sI H (o := 81) (n := 512) rfl (H.perm 81 rfl) rfl rfl (H.fix 81 rfl rfl) (show 0 ≤ x53_1 ∧ x53_1 < ((512 : Nat) : Int) by omega) (by decide) (show (-2147483648 : Int) ≤ y53_6_49 ∧ y53_6_49 ≤ 2147483647 by omega) (fun σ H => ?_)
          refine Ew_of (pc' := 100) (fun _ => x_aload_n rfl l53_0) ?_
          refine w_gT H (o := 6) (t := 81) rfl (H.perm 6 rfl) rfl rfl rfl rfl rfl rfl ?_
          refine Ew_of (pc' := 104) (fun _ => x_iload_n rfl l53_2) ?_
          refine Ew_of (pc' := 105) (fun _ => x_aload_n rfl l53_0) ?_
          refine w_gI H (o := 6) (w := y53_6_49) rfl (H.perm 6 rfl) rfl rfl rfl (fun _ => rfl) (ey53_6_49) ?_
          refine w_sI H (o := 81) (n := 512) rfl (H.perm 81 rfl) rfl rfl (H.fix 81 rfl rfl) (show 0 ≤ x53_2 ∧ x53_2 < ((512 : Nat) : Int) by omega) (by decide) (show (-2147483648 : Int) ≤ y53_6_49 ∧ y53_6_49 ≤ 2147483647 by omega) (fun σ H => ?_)
          refine Ew_of (pc' := 110) (fun _ => x_aload_n rfl l53_0) ?_
          refine Ew_of (pc' := 111) (fun _ => x_dup rfl rfl) ?_
          refine w_gI H (o := 6) (w := y53_6_49) rfl (H.perm 6 rfl) rfl rfl rfl (fun _ => rfl) (ey53_6_49) ?_
          refine Ew_of (pc' := 115) (fun _ => x_iconst rfl) ?_
          refine w_iadd rfl ?_
          refine w_pI H (o := 6) rfl rfl (H.perm 6 rfl) rfl rfl rfl (fun _ => rfl) rfl (show (0 : Int) ≤ (y53_6_49 + 1) ∧ (y53_6_49 + 1) ≤ 512 by omega) (fun σ H => ?_)
          refine Ew_of (pc' := 120) (fun _ => x_aload_n rfl l53_0) ?_
          refine Ew_of (pc' := 121) (fun _ => x_iconst rfl) ?_
          refine w_inv H (o := 6) rfl rfl rfl (H.perm 6 rfl) rfl rfl (by rfl) (M418 H ((y53_6_49 + 1)) (rfl) (upd1 (w53_80) (y53_6_49) ((v22 + v23))) (congrArg (fun q => upd1 q (y53_6_49) ((v22 + v23))) (ew53_80)) (upd1 (upd1 (upd1 (w53_81) (y53_6_49) ((-1))) (x53_1) (y53_6_49)) (x53_2) (y53_6_49)) (congrArg (fun q => upd1 q (x53_2) (y53_6_49)) (congrArg (fun q => upd1 q (x53_1) (y53_6_49)) (congrArg (fun q => upd1 q (y53_6_49) ((-1))) (ew53_81)))) (show inr ((-1)) by omega) (show -1 ≤ ((-1)) by omega) (fun z28 σ F24 A25 H hS26 hA27 pz28_0 pz28_1 pz28_2 pz28_3 => ⟨rfl, ?_⟩))
          refine Ew_of (pc' := 125) (fun _ => x_istore_n rfl) ?_
          refine Ew_of (pc' := 126) (fun _ => x_aload_n rfl (rk_o (l53_0) rfl rfl)) ?_
          refine Ew_of (pc' := 127) (fun _ => x_iload_n rfl rk_s) ?_
          refine w_inv H (o := 6) rfl rfl rfl (H.perm 6 rfl) rfl rfl (by rfl) (M418 H ((y53_6_49 + 1)) ((hS26 6 49 rfl)) (upd1 (w53_80) (y53_6_49) ((v22 + v23))) ((funext (hA27 80 rfl)).trans (congrArg (fun q => upd1 q (y53_6_49) ((v22 + v23))) (ew53_80))) (upd1 (upd1 (upd1 (w53_81) (y53_6_49) ((-1))) (x53_1) (y53_6_49)) (x53_2) (y53_6_49)) ((funext (hA27 81 rfl)).trans (congrArg (fun q => upd1 q (x53_2) (y53_6_49)) (congrArg (fun q => upd1 q (x53_1) (y53_6_49)) (congrArg (fun q => upd1 q (y53_6_49) ((-1))) (ew53_81))))) (show inr (z28) by omega) (show -1 ≤ (z28) by omega) (fun z33 σ F29 A30 H hS31 hA32 pz33_0 pz33_1 pz33_2 pz33_3 => ⟨rfl, ?_⟩))
          refine Ew_of (pc' := 131) (fun _ => x_istore_n rfl) ?_
          refine Ew_of (pc' := 53) (fun _ => x_goto rfl rfl) ?_
          have hht1 : HTA ((w79)) ((upd1 (w53_80) (y53_6_49) ((v22 + v23)))) ((upd1 (upd1 (upd1 (w53_81) (y53_6_49) ((-1))) (x53_1) (y53_6_49)) (x53_2) (y53_6_49))) (((y53_6_49 + 1))) := HTA_s j53_h (by omega) j53_1 j53_2 (by omega) rfl (by rw [hkv1, hkv2])
          have hlk1 : (z28) = lkF ((upd1 (w53_80) (y53_6_49) ((v22 + v23)))) ((upd1 (upd1 (upd1 (w53_81) (y53_6_49) ((-1))) (x53_1) (y53_6_49)) (x53_2) (y53_6_49))) (-1) (((y53_6_49 + 1)) : Int).toNat := pz28_3
          have hlk2 : (z33) = lkF ((upd1 (w53_80) (y53_6_49) ((v22 + v23)))) ((upd1 (upd1 (upd1 (w53_81) (y53_6_49) ((-1))) (x53_1) (y53_6_49)) (x53_2) (y53_6_49))) ((z28)) (((y53_6_49 + 1)) : Int).toNat := pz33_3
          have h10 : 0 ≤ (z33) → 0 ≤ (z28) := fun q => ((show LM ((upd1 (w53_80) (y53_6_49) ((v22 + v23)))) ((upd1 (upd1 (upd1 (w53_81) (y53_6_49) ((-1))) (x53_1) (y53_6_49)) (x53_2) (y53_6_49))) (((y53_6_49 + 1))) (-1) ((z28)) from by assumption) ((z33)) (by omega) (by omega) (by omega) (by omega) (by omega)).1
          exact ih53 _ (by omega) _ σ _ _ (z28) (z33) (rk_o (rk_o (l53_0) rfl rfl) rfl rfl) (rk_o (rk_s) rfl rfl) (rk_s) H (SF_trans (SF_trans (SF_upd (hS_53) rfl) hS26 (any_sub rfl)) hS31 (any_sub rfl)) (SA_trans (SA_trans (SA_upd (SA_upd (SA_upd (SA_upd (hA_53) rfl) rfl) rfl) rfl) hA27 (any_subA rfl)) hA32 (any_subA rfl)) ((y53_6_49 + 1)) (((hS31 6 49 rfl).trans (hS26 6 49 rfl))) (upd1 (w53_80) (y53_6_49) ((v22 + v23))) ((funext (hA32 80 rfl)).trans ((funext (hA27 80 rfl)).trans (congrArg (fun q => upd1 q (y53_6_49) ((v22 + v23))) (ew53_80)))) (upd1 (upd1 (upd1 (w53_81) (y53_6_49) ((-1))) (x53_1) (y53_6_49)) (x53_2) (y53_6_49)) ((funext (hA32 81 rfl)).trans ((funext (hA27 81 rfl)).trans (congrArg (fun q => upd1 q (x53_2) (y53_6_49)) (congrArg (fun q => upd1 q (x53_1) (y53_6_49)) (congrArg (fun q => upd1 q (y53_6_49) ((-1))) (ew53_81)))))) (show inr (z28) by omega) (show inr (z33) by omega) (show HTA ((w79)) ((upd1 (w53_80) (y53_6_49) ((v22 + v23)))) ((upd1 (upd1 (upd1 (w53_81) (y53_6_49) ((-1))) (x53_1) (y53_6_49)) (x53_2) (y53_6_49))) (((y53_6_49 + 1))) by assumption) (show (z28) = lkF ((upd1 (w53_80) (y53_6_49) ((v22 + v23)))) ((upd1 (upd1 (upd1 (w53_81) (y53_6_49) ((-1))) (x53_1) (y53_6_49)) (x53_2) (y53_6_49))) (-1) (((y53_6_49 + 1)) : Int).toNat by assumption) (show (z33) = lkF ((upd1 (w53_80) (y53_6_49) ((v22 + v23)))) ((upd1 (upd1 (upd1 (w53_81) (y53_6_49) ((-1))) (x53_1) (y53_6_49)) (x53_2) (y53_6_49))) ((z28)) (((y53_6_49 + 1)) : Int).toNat by assumption) (show -1 ≤ (z28) ∧ -1 ≤ (z33) by omega) (show (z33) < 0 ∨ 0 ≤ (z28) ∧ (z28) < ((y53_6_49 + 1)) ∧ 0 < ((upd1 (w53_80) (y53_6_49) ((v22 + v23)))) ((z28)) ∧ ((upd1 (upd1 (upd1 (w53_81) (y53_6_49) ((-1))) (x53_1) (y53_6_49)) (x53_2) (y53_6_49))) ((z28)) < 0 ∧ 0 ≤ (z33) ∧ (z33) < ((y53_6_49 + 1)) ∧ (z33) ≠ (z28) ∧ 0 < ((upd1 (w53_80) (y53_6_49) ((v22 + v23)))) ((z33)) ∧ ((upd1 (upd1 (upd1 (w53_81) (y53_6_49) ((-1))) (x53_1) (y53_6_49)) (x53_2) (y53_6_49))) ((z33)) < 0 by omega) (show TR ((upd1 (w53_80) (y53_6_49) ((v22 + v23)))) ((upd1 (upd1 (upd1 (w53_81) (y53_6_49) ((-1))) (x53_1) (y53_6_49)) (x53_2) (y53_6_49))) (((y53_6_49 + 1))) (su (fun i => ((w79)) i) 256) by assumption) (show LM ((upd1 (w53_80) (y53_6_49) ((v22 + v23)))) ((upd1 (upd1 (upd1 (w53_81) (y53_6_49) ((-1))) (x53_1) (y53_6_49)) (x53_2) (y53_6_49))) (((y53_6_49 + 1))) (-1) ((z28)) by assumption) (show LM ((upd1 (w53_80) (y53_6_49) ((v22 + v23)))) ((upd1 (upd1 (upd1 (w53_81) (y53_6_49) ((-1))) (x53_1) (y53_6_49)) (x53_2) (y53_6_49))) (((y53_6_49 + 1))) ((z28)) ((z33)) by assumption) (show 0 ≤ (z33) ∨ 257 ≤ ((y53_6_49 + 1)) by omega) (show ∀ i, (0 : Int) ≤ i → i < 256 → ((upd1 (w53_80) (y53_6_49) ((v22 + v23)))) i = ((w79)) i by assumption) (show 256 ≤ ((y53_6_49 + 1)) by omega) (show (z28) = -1 ∨ 0 ≤ (z28) ∧ (z28) < ((y53_6_49 + 1)) ∧ 0 < ((upd1 (w53_80) (y53_6_49) ((v22 + v23)))) ((z28)) ∧ ((upd1 (upd1 (upd1 (w53_81) (y53_6_49) ((-1))) (x53_1) (y53_6_49)) (x53_2) (y53_6_49))) ((z28)) < 0 by omega) rfl
    · refine Ew_of (pc' := 17) (fun _ => x_aload_n rfl l9_0) ?_
      refine w_gT H (o := 6) (t := 80) rfl (H.perm 6 rfl) rfl rfl rfl rfl rfl rfl ?_
      refine Ew_of (pc' := 21) (fun _ => x_iload_n rfl l9_1) ?_
      refine Ew_of (pc' := 22) (fun _ => x_aload_n rfl l9_0) ?_
      refine w_gT H (o := 6) (t := 79) rfl (H.perm 6 rfl) rfl rfl rfl rfl rfl rfl ?_
      refine Ew_of (pc' := 26) (fun _ => x_iload_n rfl l9_1) ?_
      refine w_lI H (o := 79) (n := 256) rfl (H.perm 79 rfl) rfl rfl (H.fix 79 rfl rfl) (show 0 ≤ x9_1 ∧ x9_1 < ((256 : Nat) : Int) by omega) (by decide) (fun v34 ev34 qv34 => ?_)
      have qv34 : (-2147483648 : Int) ≤ v34 ∧ v34 ≤ 2147483647 := qv34
      have ev34 : (w79) (x9_1) = v34 := (congrFun ((funext (hA_9 79 rfl)).trans (ew79)) (x9_1)).symm.trans ev34
      refine w_sI H (o := 80) (n := 512) rfl (H.perm 80 rfl) rfl rfl (H.fix 80 rfl rfl) (show 0 ≤ x9_1 ∧ x9_1 < ((512 : Nat) : Int) by omega) (by decide) (show (-2147483648 : Int) ≤ v34 ∧ v34 ≤ 2147483647 by omega) (fun σ H => ?_)
      refine Ew_of (pc' := 29) (fun _ => x_aload_n rfl l9_0) ?_
      refine w_gT H (o := 6) (t := 81) rfl (H.perm 6 rfl) rfl rfl rfl rfl rfl rfl ?_
      refine Ew_of (pc' := 33) (fun _ => x_iload_n rfl l9_1) ?_
      refine Ew_of (pc' := 34) (fun _ => x_iconst rfl) ?_
      refine w_sI H (o := 81) (n := 512) rfl (H.perm 81 rfl) rfl rfl (H.fix 81 rfl rfl) (show 0 ≤ x9_1 ∧ x9_1 < ((512 : Nat) : Int) by omega) (by decide) (show (-2147483648 : Int) ≤ (-1) ∧ (-1) ≤ 2147483647 by omega) (fun σ H => ?_)
      refine Ew_of (pc' := 38) (fun _ => x_iinc (len := 3) rfl (l9_1)) ?_
      refine Ew_of (pc' := 9) (fun _ => x_goto rfl rfl) ?_
      have : ∀ i, (0 : Int) ≤ i → i < ((x9_1 + 1)) → ((upd1 (w9_80) (x9_1) (v34))) i = ((w79)) i := pt_copy j9_3 (by omega)
      have : ∀ i, (0 : Int) ≤ i → i < ((x9_1 + 1)) → ((upd1 (w9_81) (x9_1) ((-1)))) (0 + i) = -1 := share_m j9_4
      exact ih9 _ (by omega) _ σ _ _ ((x9_1 + 1)) (rk_o (l9_0) rfl rfl) (rk_s) H (hS_9) (SA_upd (SA_upd (hA_9) rfl) rfl)  (upd1 (w9_80) (x9_1) (v34)) (congrArg (fun q => upd1 q (x9_1) (v34)) (ew9_80)) (upd1 (w9_81) (x9_1) ((-1))) (congrArg (fun q => upd1 q (x9_1) ((-1))) (ew9_81)) (show inr ((x9_1 + 1)) by omega) (show (0) ≤ ((x9_1 + 1)) by omega) (show ((x9_1 + 1)) ≤ (0) ∨ ((x9_1 + 1)) ≤ ((256)) by omega) (show ∀ i, 0 ≤ i → i < ((x9_1 + 1)) → ((upd1 (w9_80) (x9_1) (v34))) i = ((w79)) i by assumption) (show ∀ i, 0 ≤ i → i < ((x9_1 + 1)) → ((upd1 (w9_81) (x9_1) ((-1)))) (0 + i) = -1 by assumption) rfl
