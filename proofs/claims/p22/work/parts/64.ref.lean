/-- Writer.leading -/
theorem M409 {σ0 σ : rS} {D N : Nat → Nat} {F : hF} {A : hA} {d c s : Nat} {Q : wQ} (H : HS σ0 σ D N F A) {a1 a2 a3 a4 : Int} (w71 : Int → Int) (ew71 : A 71 = w71) (w72 : Int → Int) (ew72 : A 72 = w72) (w73 : Int → Int) (ew73 : A 73 = w73) (PP_ : Int → Int) (h0 : inr (a1)) (h1 : inr (a2)) (h2 : inr (a3)) (h3 : inr (a4)) (h4 : LD PP_ 64 ((a2)) (sh ((w71)) ((a1))) (sh ((w72)) ((a1))) (sh ((w73)) ((a1)))) (h5 : 5 ≤ (a2) ∧ (a2) ≤ 9) (h6 : 0 ≤ (a1) ∧ (a1) + p2 ((a2)) ≤ 2048) (h7 : 0 ≤ (a3) ∧ (a3) < 64) (h8 : 1 ≤ mass (PP_ (a3)) ∧ mass (PP_ (a3)) ≤ p2 ((a2))) (h9 : 0 ≤ (a4) ∧ (a4) < p2 ((a2))) (k : ∀ (z : Int) σ Fₚ Aₚ, HS σ0 σ D N Fₚ Aₚ → SF [] F Fₚ → SA [] A Aₚ → (inr (z)) → (0 ≤ (z) ∧ (z) < p2 ((a2))) → (LEAD (sh ((w71)) ((a1))) (sh ((w72)) ((a1))) (sh ((w73)) ((a1))) ((a2)) ((a3)) ((a4)) ((z))) → Q (some (I z)) σ c s) : Ew 409 (d + 0) 0 (rargs 0 [.ref (D 6), I a1, I a2, I a3, I a4]) [] σ c s Q := by
  refine Ew_of (pcₚ := 1) (fun _ => x_iconst rfl) ?_
  refine Ew_of (pcₚ := 3) (fun _ => x_istore rfl) ?_
  have hp5 := p2_5 (o := (a2)) (by omega)
  have : ∀ k, (0 : Int) ≤ k → k < 0 → ¬ LQ (sh ((w71)) ((a1))) (sh ((w72)) ((a1))) (sh ((w73)) ((a1))) ((a3)) ((a4)) (k) := fun k a b => absurd b (by omega)
  suffices hl3 : ∀ (m : Nat), ∀ (ls : rO) (σ : rS) (F_3 : hF) (A_3 : hA) (x3_5 : Int), rlook ls 0 = some (.ref (D 6)) → rlook ls 1 = some (I (a1)) → rlook ls 2 = some (I (a2)) → rlook ls 3 = some (I (a3)) → rlook ls 4 = some (I (a4)) → rlook ls 5 = some (I (x3_5)) → HS σ0 σ D N F_3 A_3 → SF [] F F_3 → SA [] A A_3 → (inr (x3_5)) → (0 ≤ (x3_5) ∧ (x3_5) ≤ p2 ((a2))) → (∀ k, 0 ≤ k → k < (x3_5) → ¬ LQ (sh ((w71)) ((a1))) (sh ((w72)) ((a1))) (sh ((w73)) ((a1))) ((a3)) ((a4)) (k)) → (p2 ((a2)) - (x3_5)).toNat = m → Ew 409 (d + 0) 3 ls [] σ c s Q from
    hl3 _ _ σ _ _ (0) (rk_o (rfl) rfl rfl) (rk_o (rfl) rfl rfl) (rk_o (rfl) rfl rfl) (rk_o (rfl) rfl rfl) (rk_o (rfl) rfl rfl) (rk_s) H (SF_refl) (SA_refl)   (show inr (0) from q_20) (show 0 ≤ (0) ∧ (0) ≤ p2 ((a2)) from q_2109 h9) (show ∀ k, 0 ≤ k → k < (0) → ¬ LQ (sh ((w71)) ((a1))) (sh ((w72)) ((a1))) (sh ((w73)) ((a1))) ((a3)) ((a4)) (k) by assumption) rfl
  as_aux_lemma =>
  intro m
  induction m using Nat.strongRecOn with
  | _ m ih3 =>
    intro ls σ F_3 A_3 x3_5 l3_0 l3_1 l3_2 l3_3 l3_4 l3_5 H hS_3 hA_3   j3_0 j3_1 j3_2 hm3
    refine Ew_of (pcₚ := 5) (fun _ => x_iload rfl l3_5) ?_
    refine Ew_of (pcₚ := 6) (fun _ => x_iconst rfl) ?_
    refine Ew_of (pcₚ := 7) (fun _ => x_iload_n rfl l3_2) ?_
    refine w_ishl1 rfl (show 0 ≤ a2 ∧ a2 ≤ 31 from q_1046 h5) ?_
    refine w_icmpge (t := 70) rfl rfl (show inr (x3_5) from j3_0) (show inr (p2 (a2)) from q_2095 h6 j3_1) (fun b2 => ?_) (fun b2 => ?_)
    · exfalso
      obtain ⟨k, k0, k1, k2, k3, k4⟩ := lead_ex (s := (a3)) (state := (a4)) (show LD PP_ 64 ((a2)) (sh ((w71)) ((a1))) (sh ((w72)) ((a1))) (sh ((w73)) ((a1))) from h4) (by omega) (by omega) (by omega) (by omega) (by omega) (by omega) (by omega)
      exact j3_2 k k0 (by omega) ⟨k2, k3, k4⟩
    · have e1 : (sh ((w71)) ((a1))) ((x3_5)) = ((w71)) ((a1) + (x3_5)) := rfl
      have e2 : (sh ((w72)) ((a1))) ((x3_5)) = ((w72)) ((a1) + (x3_5)) := rfl
      have e3 : (sh ((w73)) ((a1))) ((x3_5)) = ((w73)) ((a1) + (x3_5)) := rfl
      refine Ew_of (pcₚ := 12) (fun _ => x_aload_n rfl l3_0) ?_
      refine w_gT H (o := 6) (t := 73) rfl (H.perm 6 rfl) rfl rfl rfl rfl rfl rfl ?_
      refine Ew_of (pcₚ := 16) (fun _ => x_iload_n rfl l3_1) ?_
      refine Ew_of (pcₚ := 18) (fun _ => x_iload rfl l3_5) ?_
      refine w_iadd rfl ?_
      refine w_lI H (o := 73) (n := 2048) rfl (H.perm 73 rfl) rfl rfl (H.fix 73 rfl rfl) (show 0 ≤ (a1 + x3_5) ∧ (a1 + x3_5) < ((2048 : Nat) : Int) from q_2110 b2 h6 j3_1) (by decide) (fun v3 ev3 qv3 => ?_)
      have qv3 : (0 : Int) ≤ v3 ∧ v3 ≤ 511 := qv3
      have ev3 : (w73) ((a1 + x3_5)) = v3 := (congrFun ((funext (hA_3 73 rfl)).trans (ew73)) ((a1 + x3_5))).symm.trans ev3
      refine Ew_of (pcₚ := 22) (fun _ => x_istore rfl) ?_
      refine Ew_of (pcₚ := 23) (fun _ => x_aload_n rfl (rk_o (l3_0) rfl rfl)) ?_
      refine w_gT H (o := 6) (t := 71) rfl (H.perm 6 rfl) rfl rfl rfl rfl rfl rfl ?_
      refine Ew_of (pcₚ := 27) (fun _ => x_iload_n rfl (rk_o (l3_1) rfl rfl)) ?_
      refine Ew_of (pcₚ := 29) (fun _ => x_iload rfl (rk_o (l3_5) rfl rfl)) ?_
      refine w_iadd rfl ?_
      refine w_lI H (o := 71) (n := 2048) rfl (H.perm 71 rfl) rfl rfl (H.fix 71 rfl rfl) (show 0 ≤ (a1 + x3_5) ∧ (a1 + x3_5) < ((2048 : Nat) : Int) from q_2110 b2 h6 j3_1) (by decide) (fun v4 ev4 qv4 => ?_)
      have qv4 : (-1 : Int) ≤ v4 ∧ v4 ≤ 63 := qv4
      have ev4 : (w71) ((a1 + x3_5)) = v4 := (congrFun ((funext (hA_3 71 rfl)).trans (ew71)) ((a1 + x3_5))).symm.trans ev4
      refine Ew_of (pcₚ := 32) (fun _ => x_iload_n rfl (rk_o (l3_3) rfl rfl)) ?_
      refine w_icmpne (t := 64) rfl rfl (show inr (v4) from q_1060 qv4) (show inr (a3) from h2) (fun b5 => ?_) (fun b5 => ?_)
      · refine Ew_of (pcₚ := 67) (fun _ => x_iinc (len := 3) rfl (rk_o (l3_5) rfl rfl)) ?_
        refine Ew_of (pcₚ := 3) (fun _ => x_goto rfl rfl) ?_
        have hnq : ¬ LQ (sh ((w71)) ((a1))) (sh ((w72)) ((a1))) (sh ((w73)) ((a1))) ((a3)) ((a4)) (x3_5) := fun q => by unfold LQ at q; omega
        have : ∀ k, (0 : Int) ≤ k → k < ((x3_5 + 1)) → ¬ LQ (sh ((w71)) ((a1))) (sh ((w72)) ((a1))) (sh ((w73)) ((a1))) ((a3)) ((a4)) (k) := fun k a b => by by_cases e : k = x3_5; rw [e]; exact hnq; exact j3_2 k a (by omega)
        exact ih3 _ (msE hm3 q_31 (q_34 b2)) _ σ _ _ ((x3_5 + 1)) (rk_o (rk_o (l3_0) rfl rfl) rfl rfl) (rk_o (rk_o (l3_1) rfl rfl) rfl rfl) (rk_o (rk_o (l3_2) rfl rfl) rfl rfl) (rk_o (rk_o (l3_3) rfl rfl) rfl rfl) (rk_o (rk_o (l3_4) rfl rfl) rfl rfl) (rk_s) H (hS_3) (hA_3)   (show inr ((x3_5 + 1)) from q_2111 b2 h6 j3_1) (show 0 ≤ ((x3_5 + 1)) ∧ ((x3_5 + 1)) ≤ p2 ((a2)) from q_1144 b2 j3_1) (show ∀ k, 0 ≤ k → k < ((x3_5 + 1)) → ¬ LQ (sh ((w71)) ((a1))) (sh ((w72)) ((a1))) (sh ((w73)) ((a1))) ((a3)) ((a4)) (k) by assumption) rfl
      · refine Ew_of (pcₚ := 37) (fun _ => x_iload rfl (rk_o (l3_4) rfl rfl)) ?_
        refine Ew_of (pcₚ := 39) (fun _ => x_iload rfl rk_s) ?_
        refine w_icmplt (t := 64) rfl rfl (show inr (a4) from h3) (show inr (v3) from q_2112 qv3) (fun b6 => ?_) (fun b6 => ?_)
        · refine Ew_of (pcₚ := 67) (fun _ => x_iinc (len := 3) rfl (rk_o (l3_5) rfl rfl)) ?_
          refine Ew_of (pcₚ := 3) (fun _ => x_goto rfl rfl) ?_
          have hnq : ¬ LQ (sh ((w71)) ((a1))) (sh ((w72)) ((a1))) (sh ((w73)) ((a1))) ((a3)) ((a4)) (x3_5) := fun q => by unfold LQ at q; omega
          have : ∀ k, (0 : Int) ≤ k → k < ((x3_5 + 1)) → ¬ LQ (sh ((w71)) ((a1))) (sh ((w72)) ((a1))) (sh ((w73)) ((a1))) ((a3)) ((a4)) (k) := fun k a b => by by_cases e : k = x3_5; rw [e]; exact hnq; exact j3_2 k a (by omega)
          exact ih3 _ (msE hm3 q_31 (q_34 b2)) _ σ _ _ ((x3_5 + 1)) (rk_o (rk_o (l3_0) rfl rfl) rfl rfl) (rk_o (rk_o (l3_1) rfl rfl) rfl rfl) (rk_o (rk_o (l3_2) rfl rfl) rfl rfl) (rk_o (rk_o (l3_3) rfl rfl) rfl rfl) (rk_o (rk_o (l3_4) rfl rfl) rfl rfl) (rk_s) H (hS_3) (hA_3)   (show inr ((x3_5 + 1)) from q_2111 b2 h6 j3_1) (show 0 ≤ ((x3_5 + 1)) ∧ ((x3_5 + 1)) ≤ p2 ((a2)) from q_1144 b2 j3_1) (show ∀ k, 0 ≤ k → k < ((x3_5 + 1)) → ¬ LQ (sh ((w71)) ((a1))) (sh ((w72)) ((a1))) (sh ((w73)) ((a1))) ((a3)) ((a4)) (k) by assumption) rfl
        · refine Ew_of (pcₚ := 44) (fun _ => x_iload rfl (rk_o (l3_4) rfl rfl)) ?_
          refine Ew_of (pcₚ := 46) (fun _ => x_iload rfl rk_s) ?_
          refine Ew_of (pcₚ := 47) (fun _ => x_iconst rfl) ?_
          refine Ew_of (pcₚ := 48) (fun _ => x_aload_n rfl (rk_o (l3_0) rfl rfl)) ?_
          refine w_gT H (o := 6) (t := 72) rfl (H.perm 6 rfl) rfl rfl rfl rfl rfl rfl ?_
          refine Ew_of (pcₚ := 52) (fun _ => x_iload_n rfl (rk_o (l3_1) rfl rfl)) ?_
          refine Ew_of (pcₚ := 54) (fun _ => x_iload rfl (rk_o (l3_5) rfl rfl)) ?_
          refine w_iadd rfl ?_
          refine w_lI H (o := 72) (n := 2048) rfl (H.perm 72 rfl) rfl rfl (H.fix 72 rfl rfl) (show 0 ≤ (a1 + x3_5) ∧ (a1 + x3_5) < ((2048 : Nat) : Int) from q_2110 b2 h6 j3_1) (by decide) (fun v7 ev7 qv7 => ?_)
          have qv7 : (0 : Int) ≤ v7 ∧ v7 ≤ 9 := qv7
          have ev7 : (w72) ((a1 + x3_5)) = v7 := (congrFun ((funext (hA_3 72 rfl)).trans (ew72)) ((a1 + x3_5))).symm.trans ev7
          have : p2 ((v7)) ≤ p2 9 := p2_mono (by omega)
          have : p2 9 = 512 := by decide
          have := p2_pos ((v7))
          have e4 : p2 ((sh ((w72)) ((a1))) ((x3_5))) = p2 ((v7)) := by rw [e2, ev7]
          refine w_ishl1 rfl (show 0 ≤ v7 ∧ v7 ≤ 31 from q_1478 qv7) ?_
          refine w_iadd rfl ?_
          refine w_icmpge (t := 64) rfl rfl (show inr (a4) from h3) (show inr ((v3 + p2 (v7))) by omega) (fun b9 => ?_) (fun b9 => ?_)
          · refine Ew_of (pcₚ := 67) (fun _ => x_iinc (len := 3) rfl (rk_o (l3_5) rfl rfl)) ?_
            refine Ew_of (pcₚ := 3) (fun _ => x_goto rfl rfl) ?_
            have hnq : ¬ LQ (sh ((w71)) ((a1))) (sh ((w72)) ((a1))) (sh ((w73)) ((a1))) ((a3)) ((a4)) (x3_5) := fun q => by unfold LQ at q; omega
            have : ∀ k, (0 : Int) ≤ k → k < ((x3_5 + 1)) → ¬ LQ (sh ((w71)) ((a1))) (sh ((w72)) ((a1))) (sh ((w73)) ((a1))) ((a3)) ((a4)) (k) := fun k a b => by by_cases e : k = x3_5; rw [e]; exact hnq; exact j3_2 k a (by omega)
            exact ih3 _ (msE hm3 q_31 (q_34 b2)) _ σ _ _ ((x3_5 + 1)) (rk_o (rk_o (l3_0) rfl rfl) rfl rfl) (rk_o (rk_o (l3_1) rfl rfl) rfl rfl) (rk_o (rk_o (l3_2) rfl rfl) rfl rfl) (rk_o (rk_o (l3_3) rfl rfl) rfl rfl) (rk_o (rk_o (l3_4) rfl rfl) rfl rfl) (rk_s) H (hS_3) (hA_3)   (show inr ((x3_5 + 1)) from q_2111 b2 h6 j3_1) (show 0 ≤ ((x3_5 + 1)) ∧ ((x3_5 + 1)) ≤ p2 ((a2)) from q_1144 b2 j3_1) (show ∀ k, 0 ≤ k → k < ((x3_5 + 1)) → ¬ LQ (sh ((w71)) ((a1))) (sh ((w72)) ((a1))) (sh ((w73)) ((a1))) ((a3)) ((a4)) (k) by assumption) rfl
          · have : LEAD (sh ((w71)) ((a1))) (sh ((w72)) ((a1))) (sh ((w73)) ((a1))) ((a2)) ((a3)) ((a4)) ((x3_5)) := ⟨by omega, by omega, ⟨by omega, by omega, by omega⟩, j3_2⟩
            refine Ew_of (pcₚ := 63) (fun _ => x_iload rfl (rk_o (l3_5) rfl rfl)) ?_
            exact w_ireturn rfl (k (x3_5) σ _ _ H (SF_trans (SF_refl) hS_3 (any_sub rfl)) (SA_trans (SA_refl) hA_3 (any_subA rfl)) (show inr (x3_5) from j3_0) (show 0 ≤ (x3_5) ∧ (x3_5) < p2 (a2) from q_2113 b2 j3_1) (show LEAD (sh ((w71)) (a1)) (sh ((w72)) (a1)) (sh ((w73)) (a1)) (a2) (a3) (a4) ((x3_5)) by assumption))
/-- Writer.lowest -/
theorem M408 {σ0 σ : rS} {D N : Nat → Nat} {F : hF} {A : hA} {d c s : Nat} {Q : wQ} (H : HS σ0 σ D N F A) {a1 a2 a3 a4 : Int} (w71 : Int → Int) (ew71 : A 71 = w71) (w72 : Int → Int) (ew72 : A 72 = w72) (w73 : Int → Int) (ew73 : A 73 = w73) (PP_ : Int → Int) (h0 : inr (a1)) (h1 : inr (a2)) (h2 : inr (a3)) (h3 : inr (a4)) (h4 : (a4) = 0 ∨ (a4) = 1) (h5 : LD PP_ 64 ((a2)) (sh ((w71)) ((a1))) (sh ((w72)) ((a1))) (sh ((w73)) ((a1)))) (h6 : 5 ≤ (a2) ∧ (a2) ≤ 9) (h7 : 0 ≤ (a1) ∧ (a1) + p2 ((a2)) ≤ 2048) (h8 : 0 ≤ (a3) ∧ (a3) < 64) (h9 : 1 ≤ mass (PP_ (a3))) (h10 : (a4) = 1 → mass (PP_ (a3)) < p2 ((a2))) (k : ∀ (z : Int) σ Fₚ Aₚ, HS σ0 σ D N Fₚ Aₚ → SF [] F Fₚ → SA [] A Aₚ → (inr (z)) → (0 ≤ (z) ∧ (z) < p2 ((a2))) → (LOW (sh ((w71)) ((a1))) (sh ((w72)) ((a1))) ((a2)) ((a3)) ((a4)) ((z))) → Q (some (I z)) σ c s) : Ew 408 (d + 0) 0 (rargs 0 [.ref (D 6), I a1, I a2, I a3, I a4]) [] σ c s Q := by
  refine Ew_of (pcₚ := 1) (fun _ => x_iconst rfl) ?_
  refine Ew_of (pcₚ := 3) (fun _ => x_istore rfl) ?_
  have hp5 := p2_5 (o := (a2)) (by omega)
  have : ∀ k, (0 : Int) ≤ k → k < 0 → ¬ WQ (sh ((w71)) ((a1))) (sh ((w72)) ((a1))) ((a3)) ((a4)) (k) := fun k a b => absurd b (by omega)
  obtain ⟨m0, hm0⟩ := FP_ex (low_ex (s := (a3)) (must := (a4)) (show LD PP_ 64 ((a2)) (sh ((w71)) ((a1))) (sh ((w72)) ((a1))) (sh ((w73)) ((a1))) from h5) (by omega) (by omega) (by omega) (by omega) (by assumption))
  suffices hl3 : ∀ (m : Nat), ∀ (ls : rO) (σ : rS) (F_3 : hF) (A_3 : hA) (x3_5 : Int), rlook ls 0 = some (.ref (D 6)) → rlook ls 1 = some (I (a1)) → rlook ls 3 = some (I (a3)) → rlook ls 4 = some (I (a4)) → rlook ls 5 = some (I (x3_5)) → HS σ0 σ D N F_3 A_3 → SF [] F F_3 → SA [] A A_3 → (inr (x3_5)) → (0 ≤ (x3_5)) → (∀ k, 0 ≤ k → k < (x3_5) → ¬ WQ (sh ((w71)) ((a1))) (sh ((w72)) ((a1))) ((a3)) ((a4)) (k)) → (FP (fun k => WQ (sh ((w71)) ((a1))) (sh ((w72)) ((a1))) ((a3)) ((a4)) (k)) (p2 ((a2))) ((x3_5)) m) → Ew 408 (d + 0) 3 ls [] σ c s Q from
    hl3 (m0) _ σ _ _ (0) (rk_o (rfl) rfl rfl) (rk_o (rfl) rfl rfl) (rk_o (rfl) rfl rfl) (rk_o (rfl) rfl rfl) (rk_s) H (SF_refl) (SA_refl)   (show inr (0) from q_20) (show 0 ≤ (0) from q_25) (show ∀ k, 0 ≤ k → k < (0) → ¬ WQ (sh ((w71)) ((a1))) (sh ((w72)) ((a1))) ((a3)) ((a4)) (k) by assumption) (by assumption)
  as_aux_lemma =>
  intro m
  induction m using Nat.strongRecOn with
  | _ m ih3 =>
    intro ls σ F_3 A_3 x3_5 l3_0 l3_1 l3_3 l3_4 l3_5 H hS_3 hA_3   j3_0 j3_1 j3_2 hm3
    have hfl := FP_lt hm3
    have e1 : (sh ((w71)) ((a1))) ((x3_5)) = ((w71)) ((a1) + (x3_5)) := rfl
    have e2 : (sh ((w72)) ((a1))) ((x3_5)) = ((w72)) ((a1) + (x3_5)) := rfl
    refine Ew_of (pcₚ := 4) (fun _ => x_aload_n rfl l3_0) ?_
    refine w_gT H (o := 6) (t := 71) rfl (H.perm 6 rfl) rfl rfl rfl rfl rfl rfl ?_
    refine Ew_of (pcₚ := 8) (fun _ => x_iload_n rfl l3_1) ?_
    refine Ew_of (pcₚ := 10) (fun _ => x_iload rfl l3_5) ?_
    refine w_iadd rfl ?_
    refine w_lI H (o := 71) (n := 2048) rfl (H.perm 71 rfl) rfl rfl (H.fix 71 rfl rfl) (show 0 ≤ (a1 + x3_5) ∧ (a1 + x3_5) < ((2048 : Nat) : Int) by omega) (by decide) (fun v1 ev1 qv1 => ?_)
    have qv1 : (-1 : Int) ≤ v1 ∧ v1 ≤ 63 := qv1
    have ev1 : (w71) ((a1 + x3_5)) = v1 := (congrFun ((funext (hA_3 71 rfl)).trans (ew71)) ((a1 + x3_5))).symm.trans ev1
    refine Ew_of (pcₚ := 13) (fun _ => x_iload_n rfl l3_3) ?_
    refine w_icmpne (t := 33) rfl rfl (show inr (v1) from q_1060 qv1) (show inr (a3) from h2) (fun b2 => ?_) (fun b2 => ?_)
    · refine Ew_of (pcₚ := 36) (fun _ => x_iinc (len := 3) rfl (l3_5)) ?_
      refine Ew_of (pcₚ := 3) (fun _ => x_goto rfl rfl) ?_
      have hnq : ¬ WQ (sh ((w71)) ((a1))) (sh ((w72)) ((a1))) ((a3)) ((a4)) (x3_5) := fun q => by unfold WQ at q; omega
      have : ∀ k, (0 : Int) ≤ k → k < ((x3_5 + 1)) → ¬ WQ (sh ((w71)) ((a1))) (sh ((w72)) ((a1))) ((a3)) ((a4)) (k) := fun k a b => by by_cases e : k = x3_5; rw [e]; exact hnq; exact j3_2 k a (by omega)
      have hfn := FP_next hm3 hnq (show ((x3_5 + 1)) = x3_5 + 1 from rfl)
      have := hfn.1
      have := hfn.2
      exact ih3 (m - 1) (by omega) _ σ _ _ ((x3_5 + 1)) (rk_o (l3_0) rfl rfl) (rk_o (l3_1) rfl rfl) (rk_o (l3_3) rfl rfl) (rk_o (l3_4) rfl rfl) (rk_s) H (hS_3) (hA_3)   (show inr ((x3_5 + 1)) by omega) (show 0 ≤ ((x3_5 + 1)) from q_29 j3_1) (show ∀ k, 0 ≤ k → k < ((x3_5 + 1)) → ¬ WQ (sh ((w71)) ((a1))) (sh ((w72)) ((a1))) ((a3)) ((a4)) (k) by assumption) (by assumption)
    · refine Ew_of (pcₚ := 18) (fun _ => x_iload rfl l3_4) ?_
      refine w_ifeq (t := 39) rfl rfl (show inr (a4) from h3) (fun b3 => ?_) (fun b3 => ?_)
      · have : LOW (sh ((w71)) ((a1))) (sh ((w72)) ((a1))) ((a2)) ((a3)) ((a4)) ((x3_5)) := ⟨by omega, by omega, ⟨by omega, by omega⟩, j3_2⟩
        refine Ew_of (pcₚ := 41) (fun _ => x_iload rfl l3_5) ?_
        exact w_ireturn rfl (k (x3_5) σ _ _ H (SF_trans (SF_refl) hS_3 (any_sub rfl)) (SA_trans (SA_refl) hA_3 (any_subA rfl)) (show inr (x3_5) from j3_0) (show 0 ≤ (x3_5) ∧ (x3_5) < p2 (a2) by omega) (show LOW (sh ((w71)) (a1)) (sh ((w72)) (a1)) (a2) (a3) (a4) ((x3_5)) by assumption))
      · refine Ew_of (pcₚ := 22) (fun _ => x_aload_n rfl l3_0) ?_
        refine w_gT H (o := 6) (t := 72) rfl (H.perm 6 rfl) rfl rfl rfl rfl rfl rfl ?_
        refine Ew_of (pcₚ := 26) (fun _ => x_iload_n rfl l3_1) ?_
        refine Ew_of (pcₚ := 28) (fun _ => x_iload rfl l3_5) ?_
        refine w_iadd rfl ?_
        refine w_lI H (o := 72) (n := 2048) rfl (H.perm 72 rfl) rfl rfl (H.fix 72 rfl rfl) (show 0 ≤ (a1 + x3_5) ∧ (a1 + x3_5) < ((2048 : Nat) : Int) by omega) (by decide) (fun v4 ev4 qv4 => ?_)
        have qv4 : (0 : Int) ≤ v4 ∧ v4 ≤ 9 := qv4
        have ev4 : (w72) ((a1 + x3_5)) = v4 := (congrFun ((funext (hA_3 72 rfl)).trans (ew72)) ((a1 + x3_5))).symm.trans ev4
        refine w_ifne (t := 39) rfl rfl (show inr (v4) from q_1479 qv4) (fun b5 => ?_) (fun b5 => ?_)
        · have : LOW (sh ((w71)) ((a1))) (sh ((w72)) ((a1))) ((a2)) ((a3)) ((a4)) ((x3_5)) := ⟨by omega, by omega, ⟨by omega, by omega⟩, j3_2⟩
          refine Ew_of (pcₚ := 41) (fun _ => x_iload rfl l3_5) ?_
          exact w_ireturn rfl (k (x3_5) σ _ _ H (SF_trans (SF_refl) hS_3 (any_sub rfl)) (SA_trans (SA_refl) hA_3 (any_subA rfl)) (show inr (x3_5) from j3_0) (show 0 ≤ (x3_5) ∧ (x3_5) < p2 (a2) by omega) (show LOW (sh ((w71)) (a1)) (sh ((w72)) (a1)) (a2) (a3) (a4) ((x3_5)) by assumption))
        · refine Ew_of (pcₚ := 36) (fun _ => x_iinc (len := 3) rfl (l3_5)) ?_
          refine Ew_of (pcₚ := 3) (fun _ => x_goto rfl rfl) ?_
          have hnq : ¬ WQ (sh ((w71)) ((a1))) (sh ((w72)) ((a1))) ((a3)) ((a4)) (x3_5) := fun q => by unfold WQ at q; omega
          have : ∀ k, (0 : Int) ≤ k → k < ((x3_5 + 1)) → ¬ WQ (sh ((w71)) ((a1))) (sh ((w72)) ((a1))) ((a3)) ((a4)) (k) := fun k a b => by by_cases e : k = x3_5; rw [e]; exact hnq; exact j3_2 k a (by omega)
          have hfn := FP_next hm3 hnq (show ((x3_5 + 1)) = x3_5 + 1 from rfl)
          have := hfn.1
          have := hfn.2
          exact ih3 (m - 1) (by omega) _ σ _ _ ((x3_5 + 1)) (rk_o (l3_0) rfl rfl) (rk_o (l3_1) rfl rfl) (rk_o (l3_3) rfl rfl) (rk_o (l3_4) rfl rfl) (rk_s) H (hS_3) (hA_3)   (show inr ((x3_5 + 1)) by omega) (show 0 ≤ ((x3_5 + 1)) from q_29 j3_1) (show ∀ k, 0 ≤ k → k < ((x3_5 + 1)) → ¬ WQ (sh ((w71)) ((a1))) (sh ((w72)) ((a1))) ((a3)) ((a4)) (k) by assumption) (by assumption)
