/-- Writer.countSymbols -/
theorem M414b {σ0 σ : rS} {D N : Nat → Nat} {F : hF} {A : hA} {d c s : Nat} {Q : wQ} (H : HS σ0 σ D N F A) {a1 : Int} (u6_28 : Int) (eu6_28 : F 6 28 = u6_28) (w66 : Int → Int) (ew66 : A 66 = w66) (h0 : inr (a1)) (h1 : 0 ≤ (a1) ∧ (a1) ≤ 2) (k : ∀ (z : Int) σ Fₚ Aₚ, HS σ0 σ D N Fₚ Aₚ → SF [] F Fₚ → SA [78] A Aₚ → ∀ v78 : Int → Int, Aₚ 78 = v78 → (inr (z)) → (su (fun i => ((v78)) i) 64 = (u6_28)) → ((z) = su (fun i => pos1 (((v78)) i)) 64) → (∀ i, (0 : Int) ≤ i → i < 64 → 0 ≤ ((v78)) i) → (∀ j, 0 ≤ j → j < (u6_28) → 1 ≤ ((v78)) (((w66)) (8001 * (a1) + j))) → (0 ≤ (z) ∧ (z) ≤ (u6_28)) → (∀ i, (0 : Int) ≤ i → i < 64 → ((v78)) i = su (eqs (sh ((w66)) (8001 * (a1))) i) ((u6_28) : Int).toNat) → Q (some (I z)) σ c s) : Ew 414 (d + 0) 0 (rargs 0 [.ref (D 6), I a1]) [] σ c s Q := by
  have r1 : (0 : Int) ≤ u6_28 ∧ u6_28 ≤ 8001 := rngE (show (0 : Int) ≤ F 6 28 ∧ F 6 28 ≤ 8001 from H.frng 6 28) (show F 6 28 = u6_28 from (eu6_28))
  refine Ew_of (pcₚ := 1) (fun _ => x_iconst rfl) ?_
  refine Ew_of (pcₚ := 2) (fun _ => x_istore_n rfl) ?_
  have : ∀ i, (0 : Int) ≤ i → i < 0 → ((A 78)) (0 + i) = 0 := fun i a b => absurd b (by omega)
  suffices hl2 : ∀ (m : Nat), ∀ (ls : rO) (σ : rS) (F_2 : hF) (A_2 : hA) (x2_2 : Int), rlook ls 0 = some (.ref (D 6)) → rlook ls 1 = some (I (a1)) → rlook ls 2 = some (I (x2_2)) → HS σ0 σ D N F_2 A_2 → SF [] F F_2 → SA [78] A A_2 → ∀ w2_78 : Int → Int, A_2 78 = w2_78 → (inr (x2_2)) → ((0) ≤ (x2_2)) → ((x2_2) ≤ (0) ∨ (x2_2) ≤ ((256))) → (∀ i, 0 ≤ i → i < (x2_2) → ((w2_78)) (0 + i) = 0) → (((256)) - (x2_2)).toNat = m → Ew 414 (d + 0) 2 ls [] σ c s Q from
    hl2 _ _ σ _ _ (0) (rk_o (rfl) rfl rfl) (rk_o (rfl) rfl rfl) (rk_s) H (SF_refl) (SA_refl)  (A 78) (rfl) (show inr (0) from q_20) (show (0) ≤ (0) from q_25) (show (0) ≤ (0) ∨ (0) ≤ ((256)) from q_976) (show ∀ i, 0 ≤ i → i < (0) → ((A 78)) (0 + i) = 0 by assumption) rfl
  as_aux_lemma =>
  intro m
  induction m using Nat.strongRecOn with
  | _ m ih2 =>
    intro ls σ F_2 A_2 x2_2 l2_0 l2_1 l2_2 H hS_2 hA_2  w2_78 ew2_78 j2_0 j2_1 j2_2 j2_3 hm2
    refine Ew_of (pcₚ := 3) (fun _ => x_iload_n rfl l2_2) ?_
    refine Ew_of (pcₚ := 6) (fun _ => x_sipush (z := 256) rfl (by decide)) ?_
    refine w_icmpge (t := 22) rfl rfl (show inr (x2_2) from j2_0) (show inr (256) from q_716) (fun b2 => ?_) (fun b2 => ?_)
    · refine Ew_of (pcₚ := 23) (fun _ => x_iconst rfl) ?_
      refine Ew_of (pcₚ := 24) (fun _ => x_istore_n rfl) ?_
      refine Ew_of (pcₚ := 25) (fun _ => x_iconst rfl) ?_
      refine Ew_of (pcₚ := 26) (fun _ => x_istore_n rfl) ?_
      have hz : ∀ i, (0 : Int) ≤ i → i < 64 → ((w2_78)) i = 0 := fun i a b => by have := j2_3 i a (by omega); rw [Int.zero_add] at this; exact this
      have : su (fun i => ((w2_78)) i) 64 = 0 := su_z (g := (w2_78)) (fun x => x) rfl (fun i a b => hz i a (by omega))
      have : su (fun i => pos1 (((w2_78)) i)) 64 = 0 := su_z (g := (w2_78)) pos1 rfl (fun i a b => hz i a (by omega))
      have : ∀ i, (0 : Int) ≤ i → i < 64 → 0 ≤ ((w2_78)) i := fun i a b => by rw [hz i a b]; decide
      have : ∀ i, (0 : Int) ≤ i → i < 64 → ((w2_78)) i ≤ 0 := fun i a b => by rw [hz i a b]; decide
      have : ∀ j, (0 : Int) ≤ j → j < 0 → 1 ≤ ((w2_78)) (((w66)) (8001 * (a1) + j)) := fun j a b => absurd b (by omega)
      have : ∀ i, (0 : Int) ≤ i → i < 64 → ((w2_78)) i = su (eqs (sh ((w66)) (8001 * (a1))) i) ((0 : Int) : Int).toNat := fun i a b => by rw [hz i a b]; rfl
      suffices hl26 : ∀ (m : Nat), ∀ (ls : rO) (σ : rS) (F_26 : hF) (A_26 : hA) (x26_2 : Int) (x26_3 : Int), rlook ls 0 = some (.ref (D 6)) → rlook ls 1 = some (I (a1)) → rlook ls 2 = some (I (x26_2)) → rlook ls 3 = some (I (x26_3)) → HS σ0 σ D N F_26 A_26 → SF [] F_2 F_26 → SA [78] A_2 A_26 → ∀ w26_78 : Int → Int, A_26 78 = w26_78 → (inr (x26_2)) → (inr (x26_3)) → ((0) ≤ (x26_3)) → ((x26_3) ≤ (0) ∨ (x26_3) ≤ ((u6_28))) → (su (fun i => ((w26_78)) i) 64 = (x26_3)) → (su (fun i => pos1 (((w26_78)) i)) 64 = (x26_2)) → (∀ i, (0 : Int) ≤ i → i < 64 → 0 ≤ ((w26_78)) i) → (∀ j, 0 ≤ j → j < (x26_3) → 1 ≤ ((w26_78)) (((w66)) (8001 * (a1) + j))) → (0 ≤ (x26_2) ∧ (x26_2) ≤ (x26_3)) → (∀ i, (0 : Int) ≤ i → i < 64 → ((w26_78)) i ≤ (x26_3)) → (∀ i, (0 : Int) ≤ i → i < 64 → ((w26_78)) i = su (eqs (sh ((w66)) (8001 * (a1))) i) ((x26_3) : Int).toNat) → (((u6_28)) - (x26_3)).toNat = m → Ew 414 (d + 0) 26 ls [] σ c s Q from
        hl26 _ _ σ _ _ (0) (0) (rk_o (rk_o (l2_0) rfl rfl) rfl rfl) (rk_o (rk_o (l2_1) rfl rfl) rfl rfl) (rk_o (rk_s) rfl rfl) (rk_s) H (SF_refl) (SA_refl)  (w2_78) (ew2_78) (show inr (0) from q_20) (show inr (0) from q_20) (show (0) ≤ (0) from q_25) (show (0) ≤ (0) ∨ (0) ≤ ((u6_28)) from q_24) (show su (fun i => ((w2_78)) i) 64 = (0) by omega) (show su (fun i => pos1 (((w2_78)) i)) 64 = (0) by omega) (show ∀ i, (0 : Int) ≤ i → i < 64 → 0 ≤ ((w2_78)) i by assumption) (show ∀ j, 0 ≤ j → j < (0) → 1 ≤ ((w2_78)) (((w66)) (8001 * (a1) + j)) by assumption) (show 0 ≤ (0) ∧ (0) ≤ (0) from q_1200) (show ∀ i, (0 : Int) ≤ i → i < 64 → ((w2_78)) i ≤ (0) by assumption) (show ∀ i, (0 : Int) ≤ i → i < 64 → ((w2_78)) i = su (eqs (sh ((w66)) (8001 * (a1))) i) ((0) : Int).toNat by assumption) rfl
      as_aux_lemma =>
      intro m
      induction m using Nat.strongRecOn with
      | _ m ih26 =>
        intro ls σ F_26 A_26 x26_2 x26_3 l26_0 l26_1 l26_2 l26_3 H hS_26 hA_26  w26_78 ew26_78 j26_0 j26_1 j26_2 j26_3 j26_4 j26_5 j26_6 j26_7 j26_8 j26_9 j26_10 hm26
        refine Ew_of (pcₚ := 27) (fun _ => x_iload_n rfl l26_3) ?_
        refine Ew_of (pcₚ := 28) (fun _ => x_aload_n rfl l26_0) ?_
        refine w_gI H (o := 6) (w := u6_28) rfl (H.perm 6 rfl) rfl rfl rfl (fun _ => rfl) (((hS_26 6 28 rfl).trans (hS_2 6 28 rfl)).trans (eu6_28)) ?_
        refine w_icmpge (t := 83) rfl rfl (show inr (x26_3) from j26_1) (show inr (u6_28) from q_1788 r1) (fun b3 => ?_) (fun b3 => ?_)
        · have : ∀ j, 0 ≤ j → j < (u6_28) → 1 ≤ ((w26_78)) (((w66)) (8001 * (a1) + j)) := fun j a b => (show ∀ j, 0 ≤ j → j < (x26_3) → 1 ≤ ((w26_78)) (((w66)) (8001 * (a1) + j)) from by assumption) j a (by omega)
          have he3 : (x26_3) = (u6_28) := q_2317 b3 j26_3 r1
          have : ∀ i, (0 : Int) ≤ i → i < 64 → ((w26_78)) i = su (eqs (sh ((w66)) (8001 * (a1))) i) ((u6_28) : Int).toNat := by rw [← he3]; assumption
          refine Ew_of (pcₚ := 84) (fun _ => x_iload_n rfl l26_2) ?_
          exact w_ireturn rfl (k (x26_2) σ _ _ H (SF_trans (SF_trans (SF_refl) hS_2 (any_sub rfl)) hS_26 (any_sub rfl)) (SA_trans (SA_trans (SA_refl) hA_2 (any_subA rfl)) hA_26 (any_subA rfl)) (w26_78) (ew26_78) (show inr (x26_2) from j26_0) (show su (fun i => ((w26_78)) i) 64 = (u6_28) by omega) (show (x26_2) = su (fun i => pos1 (((w26_78)) i)) 64 by omega) (show ∀ i, (0 : Int) ≤ i → i < 64 → 0 ≤ ((w26_78)) i by assumption) (show ∀ j, 0 ≤ j → j < (u6_28) → 1 ≤ ((w26_78)) (((w66)) (8001 * a1 + j)) by assumption) (show 0 ≤ (x26_2) ∧ (x26_2) ≤ (u6_28) from q_2318 he3 j26_8) (show ∀ i, (0 : Int) ≤ i → i < 64 → ((w26_78)) i = su (eqs (sh ((w66)) (8001 * a1)) i) ((u6_28) : Int).toNat by assumption))
        · refine Ew_of (pcₚ := 35) (fun _ => x_aload_n rfl l26_0) ?_
          refine w_gT H (o := 6) (t := 66) rfl (H.perm 6 rfl) rfl rfl rfl rfl rfl rfl ?_
          refine Ew_of (pcₚ := 41) (fun _ => x_sipush (z := 8001) rfl (by decide)) ?_
          refine Ew_of (pcₚ := 42) (fun _ => x_iload_n rfl l26_1) ?_
          refine w_imul rfl ?_
          refine Ew_of (pcₚ := 44) (fun _ => x_iload_n rfl l26_3) ?_
          refine w_iadd rfl ?_
          refine w_lI H (o := 66) (n := 24003) rfl (H.perm 66 rfl) rfl rfl (H.fix 66 rfl rfl) (show 0 ≤ ((8001 * a1) + x26_3) ∧ ((8001 * a1) + x26_3) < ((24003 : Nat) : Int) from q_1900 b3 h1 j26_2 r1) (by decide) (fun v4 ev4 qv4 => ?_)
          have qv4 : (0 : Int) ≤ v4 ∧ v4 ≤ 63 := qv4
          have ev4 : (w66) (((8001 * a1) + x26_3)) = v4 := (congrFun ((funext (hA_26 66 rfl)).trans ((funext (hA_2 66 rfl)).trans (ew66))) (((8001 * a1) + x26_3))).symm.trans ev4
          refine Ew_of (pcₚ := 48) (fun _ => x_istore rfl) ?_
          have hsy := ev4
          have hnn := (show ∀ i, (0 : Int) ≤ i → i < 64 → 0 ≤ ((w26_78)) i from by assumption) ((v4)) (by omega) (by omega)
          have hup := (show ∀ i, (0 : Int) ≤ i → i < 64 → ((w26_78)) i ≤ (x26_3) from by assumption) ((v4)) (by omega) (by omega)
          have hs1 := su_upd1 (g := (w26_78)) (fun x => x) (j := (v4)) (v := ((w26_78)) ((v4)) + 1) (n := 64) (by omega) (by omega)
          have hs2 := su_upd1 (g := (w26_78)) pos1 (j := (v4)) (v := ((w26_78)) ((v4)) + 1) (n := 64) (by omega) (by omega)
          have hp1 := pos1_eq (((w26_78)) ((v4)))
          have hp2 := pos1_eq (((w26_78)) ((v4)) + 1)
          refine Ew_of (pcₚ := 49) (fun _ => x_aload_n rfl (rk_o (l26_0) rfl rfl)) ?_
          refine w_gT H (o := 6) (t := 78) rfl (H.perm 6 rfl) rfl rfl rfl rfl rfl rfl ?_
          refine Ew_of (pcₚ := 54) (fun _ => x_iload rfl rk_s) ?_
          refine w_lI H (o := 78) (n := 256) rfl (H.perm 78 rfl) rfl rfl (H.fix 78 rfl rfl) (show 0 ≤ v4 ∧ v4 < ((256 : Nat) : Int) from q_1901 qv4) (by decide) (fun v5 ev5 qv5 => ?_)
          have qv5 : (-2147483648 : Int) ≤ v5 ∧ v5 ≤ 2147483647 := qv5
          have ev5 : (w26_78) (v4) = v5 := (congrFun (ew26_78) (v4)).symm.trans ev5
          have hc65 : ∀ (tc65_0 : Int), ∀ (ls : rO) (σ : rS) (F_c65 : hF) (A_c65 : hA) , rlook ls 0 = some (.ref (D 6)) → rlook ls 1 = some (I (a1)) → rlook ls 3 = some (I (x26_3)) → rlook ls 4 = some (I (v4)) → HS σ0 σ D N F_c65 A_c65 → SF [] F_26 F_c65 → SA [] A_26 A_c65 → (inr (tc65_0)) → (((v5) ≠ (0) ∧ (tc65_0) = (x26_2)) ∨ ((v5) = (0) ∧ (tc65_0) = ((x26_2 + 1)))) → Ew 414 (d + 0) 65 ls [I (tc65_0)] σ c s Q := by
           as_aux_lemma =>
            intro tc65_0 ls σ F_c65 A_c65  lc65_0 lc65_1 lc65_3 lc65_4 H hS_c65 hA_c65   jc65_0 jc65_1
            refine Ew_of (pcₚ := 66) (fun _ => x_istore_n rfl) ?_
            refine Ew_of (pcₚ := 67) (fun _ => x_aload_n rfl (rk_o (lc65_0) rfl rfl)) ?_
            refine w_gT H (o := 6) (t := 78) rfl (H.perm 6 rfl) rfl rfl rfl rfl rfl rfl ?_
            refine Ew_of (pcₚ := 72) (fun _ => x_iload rfl (rk_o (lc65_4) rfl rfl)) ?_
            refine Ew_of (pcₚ := 73) (fun _ => x_dup2 rfl rfl rfl) ?_
            refine w_lI H (o := 78) (n := 256) rfl (H.perm 78 rfl) rfl rfl (H.fix 78 rfl rfl) (show 0 ≤ v4 ∧ v4 < ((256 : Nat) : Int) from q_1901 qv4) (by decide) (fun v6 ev6 qv6 => ?_)
            have qv6 : (-2147483648 : Int) ≤ v6 ∧ v6 ≤ 2147483647 := qv6
            have ev6 : (w26_78) (v4) = v6 := (congrFun ((funext (hA_c65 78 rfl)).trans (ew26_78)) (v4)).symm.trans ev6
            refine Ew_of (pcₚ := 75) (fun _ => x_iconst rfl) ?_
            refine w_iadd rfl ?_
            have hxx : ((v6 + 1)) = ((w26_78)) ((v4)) + 1 := q_1902 ev6
            rw [← hxx] at hs1 hs2 hp2
            have : ∀ i, (0 : Int) ≤ i → i < 64 → 0 ≤ (upd1 ((w26_78)) ((v4)) (((v6 + 1)))) i := fun i a b => by by_cases e : i = (v4); rw [e, upd1_s]; omega; rw [upd1_o e]; exact (show ∀ i, (0 : Int) ≤ i → i < 64 → 0 ≤ ((w26_78)) i from by assumption) i a b
            have : ∀ i, (0 : Int) ≤ i → i < 64 → (upd1 ((w26_78)) ((v4)) (((v6 + 1)))) i ≤ (x26_3) + 1 := fun i a b => by by_cases e : i = (v4); rw [e, upd1_s]; omega; rw [upd1_o e]; have := (show ∀ i, (0 : Int) ≤ i → i < 64 → ((w26_78)) i ≤ (x26_3) from by assumption) i a b; omega
            have : ∀ j, 0 ≤ j → j < (x26_3) + 1 → 1 ≤ (upd1 ((w26_78)) ((v4)) (((v6 + 1)))) (((w66)) (8001 * (a1) + j)) := fun j a b => by by_cases e : ((w66)) (8001 * (a1) + j) = (v4); rw [e, upd1_s]; omega; rw [upd1_o e]; refine (show ∀ j, 0 ≤ j → j < (x26_3) → 1 ≤ ((w26_78)) (((w66)) (8001 * (a1) + j)) from by assumption) j a ?_; by_cases e2 : j = (x26_3); rw [e2] at e; exact absurd hsy e; omega
            have : ∀ i, (0 : Int) ≤ i → i < 64 → (upd1 ((w26_78)) ((v4)) (((v6 + 1)))) i = su (eqs (sh ((w66)) (8001 * (a1))) i) ((x26_3) + 1 : Int).toNat := fun i a b => by have h1 := (show ∀ i, (0 : Int) ≤ i → i < 64 → ((w26_78)) i = su (eqs (sh ((w66)) (8001 * (a1))) i) ((x26_3) : Int).toNat from by assumption) i a b; have h2 := eqs_eq (sh ((w66)) (8001 * (a1))) i ((x26_3)); have h3 : (sh ((w66)) (8001 * (a1))) ((x26_3)) = (v4) := hsy; rw [su_s (by omega)]; by_cases e : i = (v4); (rw [e, upd1_s]; rw [e] at h1 h2; omega); (rw [upd1_o e]; omega)
            refine w_sI H (o := 78) (n := 256) rfl (H.perm 78 rfl) rfl rfl (H.fix 78 rfl rfl) (show 0 ≤ v4 ∧ v4 < ((256 : Nat) : Int) from q_1901 qv4) (by decide) (show (-2147483648 : Int) ≤ (v6 + 1) ∧ (v6 + 1) ≤ 2147483647 by omega) (fun σ H => ?_)
            refine Ew_of (pcₚ := 80) (fun _ => x_iinc (len := 3) rfl (rk_o (lc65_3) rfl rfl)) ?_
            refine Ew_of (pcₚ := 26) (fun _ => x_goto rfl rfl) ?_
            exact ih26 _ (msE hm26 q_31 (q_34 b3)) _ σ _ _ (tc65_0) ((x26_3 + 1)) (rk_o (rk_o (lc65_0) rfl rfl) rfl rfl) (rk_o (rk_o (lc65_1) rfl rfl) rfl rfl) (rk_o (rk_s) rfl rfl) (rk_s) H (SF_trans (hS_26) hS_c65 (any_sub rfl)) (SA_upd (SA_trans (hA_26) hA_c65 (any_subA rfl)) rfl)  (upd1 (w26_78) (v4) ((v6 + 1))) (congrArg (fun q => upd1 q (v4) ((v6 + 1))) ((funext (hA_c65 78 rfl)).trans (ew26_78))) (show inr (tc65_0) from jc65_0) (show inr ((x26_3 + 1)) from q_1807 b3 j26_2 r1) (show (0) ≤ ((x26_3 + 1)) from q_29 j26_2) (show ((x26_3 + 1)) ≤ (0) ∨ ((x26_3 + 1)) ≤ ((u6_28)) from q_33 b3) (show su (fun i => ((upd1 (w26_78) (v4) ((v6 + 1)))) i) 64 = ((x26_3 + 1)) by omega) (show su (fun i => pos1 (((upd1 (w26_78) (v4) ((v6 + 1)))) i)) 64 = (tc65_0) by omega) (show ∀ i, (0 : Int) ≤ i → i < 64 → 0 ≤ ((upd1 (w26_78) (v4) ((v6 + 1)))) i by assumption) (show ∀ j, 0 ≤ j → j < ((x26_3 + 1)) → 1 ≤ ((upd1 (w26_78) (v4) ((v6 + 1)))) (((w66)) (8001 * (a1) + j)) by assumption) (show 0 ≤ (tc65_0) ∧ (tc65_0) ≤ ((x26_3 + 1)) from q_1903 j26_8 jc65_1) (show ∀ i, (0 : Int) ≤ i → i < 64 → ((upd1 (w26_78) (v4) ((v6 + 1)))) i ≤ ((x26_3 + 1)) by assumption) (show ∀ i, (0 : Int) ≤ i → i < 64 → ((upd1 (w26_78) (v4) ((v6 + 1)))) i = su (eqs (sh ((w66)) (8001 * (a1))) i) (((x26_3 + 1)) : Int).toNat by assumption) rfl
          refine w_ifne (t := 64) rfl rfl (show inr (v5) from q_22 qv5) (fun b7 => ?_) (fun b7 => ?_)
          · refine Ew_of (pcₚ := 65) (fun _ => x_iload_n rfl (rk_o (l26_2) rfl rfl)) ?_
            exact hc65 (x26_2) _ σ _ _  (rk_o (l26_0) rfl rfl) (rk_o (l26_1) rfl rfl) (rk_o (l26_3) rfl rfl) (rk_s) H (SF_refl) (SA_refl)   (show inr (x26_2) from j26_0) (show ((v5) ≠ (0) ∧ (x26_2) = (x26_2)) ∨ ((v5) = (0) ∧ (x26_2) = ((x26_2 + 1))) from q_1341 b7)
          · refine Ew_of (pcₚ := 59) (fun _ => x_iload_n rfl (rk_o (l26_2) rfl rfl)) ?_
            refine Ew_of (pcₚ := 60) (fun _ => x_iconst rfl) ?_
            refine w_iadd rfl ?_
            refine Ew_of (pcₚ := 65) (fun _ => x_goto rfl rfl) ?_
            exact hc65 ((x26_2 + 1)) _ σ _ _  (rk_o (l26_0) rfl rfl) (rk_o (l26_1) rfl rfl) (rk_o (l26_3) rfl rfl) (rk_s) H (SF_refl) (SA_refl)   (show inr ((x26_2 + 1)) from q_1904 b3 j26_8 r1) (show ((v5) ≠ (0) ∧ ((x26_2 + 1)) = (x26_2)) ∨ ((v5) = (0) ∧ ((x26_2 + 1)) = ((x26_2 + 1))) from q_1342 b7)
    · refine Ew_of (pcₚ := 10) (fun _ => x_aload_n rfl l2_0) ?_
      refine w_gT H (o := 6) (t := 78) rfl (H.perm 6 rfl) rfl rfl rfl rfl rfl rfl ?_
      refine Ew_of (pcₚ := 14) (fun _ => x_iload_n rfl l2_2) ?_
      refine Ew_of (pcₚ := 15) (fun _ => x_iconst rfl) ?_
      refine w_sI H (o := 78) (n := 256) rfl (H.perm 78 rfl) rfl rfl (H.fix 78 rfl rfl) (show 0 ≤ x2_2 ∧ x2_2 < ((256 : Nat) : Int) from q_1030 b2 j2_1) (by decide) (show (-2147483648 : Int) ≤ 0 ∧ 0 ≤ 2147483647 from q_240) (fun σ H => ?_)
      refine Ew_of (pcₚ := 19) (fun _ => x_iinc (len := 3) rfl (l2_2)) ?_
      refine Ew_of (pcₚ := 2) (fun _ => x_goto rfl rfl) ?_
      have : ∀ i, (0 : Int) ≤ i → i < ((x2_2 + 1)) → ((upd1 (w2_78) (x2_2) (0))) (0 + i) = 0 := share_z j2_3
      exact ih2 _ (msE hm2 q_1033 (q_1034 b2)) _ σ _ _ ((x2_2 + 1)) (rk_o (l2_0) rfl rfl) (rk_o (l2_1) rfl rfl) (rk_s) H (hS_2) (SA_upd (hA_2) rfl)  (upd1 (w2_78) (x2_2) (0)) (congrArg (fun q => upd1 q (x2_2) (0)) (ew2_78)) (show inr ((x2_2 + 1)) from q_1032 b2 j2_1) (show (0) ≤ ((x2_2 + 1)) from q_29 j2_1) (show ((x2_2 + 1)) ≤ (0) ∨ ((x2_2 + 1)) ≤ ((256)) from q_1031 b2) (show ∀ i, 0 ≤ i → i < ((x2_2 + 1)) → ((upd1 (w2_78) (x2_2) (0))) (0 + i) = 0 by assumption) rfl
