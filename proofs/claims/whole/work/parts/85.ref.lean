/-- Writer.divide -/
theorem M411b {σ0 σ : rS} {D N : Nat → Nat} {F : hF} {A : hA} {d c s : Nat} {Q : wQ} (H : HS σ0 σ D N F A) {a1 a2 : Int} (w78 : Int → Int) (ew78 : A 78 = w78) (h0 : inr (a1)) (h1 : inr (a2)) (h2 : 1 ≤ (a1) ∧ (a1) ≤ 8001) (h3 : 5 ≤ (a2) ∧ (a2) ≤ 9) (h4 : ∀ i, (0 : Int) ≤ i → i < 64 → 0 ≤ ((w78)) i) (h5 : su (fun i => ((w78)) i) 64 = (a1)) (h6 : su (fun i => pos1 (((w78)) i)) 64 ≤ p2 ((a2))) (k : ∀ σ F' A', HS σ0 σ D N F' A' → SF [] F F' → SA [75, 76, 77] A A' → ∀ v75 : Int → Int, A' 75 = v75 → (DVI ((w78)) ((v75)) 64) → (su (fun i => mass (((v75)) i)) 64 = p2 ((a2))) → (DVF ((w78)) ((a1)) (p2 ((a2))) ((v75))) → Q none σ c s) : Ew 411 (d + 1) 0 (rargs 0 [.ref (D 6), I a1, I a2]) [] σ c s Q := by
  refine Ew_of (pc' := 1) (fun _ => x_iconst rfl) ?_
  refine Ew_of (pc' := 2) (fun _ => x_iload_n rfl rfl) ?_
  refine w_ishl1 rfl (show 0 ≤ a2 ∧ a2 ≤ 31 by omega) ?_
  refine Ew_of (pc' := 4) (fun _ => x_istore_n rfl) ?_
  refine Ew_of (pc' := 5) (fun _ => x_iconst rfl) ?_
  refine Ew_of (pc' := 7) (fun _ => x_istore rfl) ?_
  have hp5 := p2_5 (o := (a2)) (by omega)
  have : su (fun i => mass (((A 75)) i)) (0 : Int).toNat = 0 := rfl
  have : DVI ((w78)) ((A 75)) 0 := fun s a b => absurd b (by omega)
  have : DVJ ((w78)) ((A 75)) 0 ((a1)) (p2 ((a2))) := fun s a b => absurd b (by omega)
  have : DVA ((w78)) ((A 75)) ((a1)) (p2 ((a2))) (0) := fun s a b => absurd b (by omega)
  have : DVC ((w78)) ((A 76)) ((a1)) (p2 ((a2))) (0) := fun s a b => absurd b (by omega)
  have : DVH ((A 77)) (0) := fun s a b => absurd b (by omega)
  suffices hl7 : ∀ (m : Nat), ∀ (ls : rO) (σ : rS) (F_7 : hF) (A_7 : hA) (x7_3 : Int) (x7_4 : Int), rlook ls 0 = some (.ref (D 6)) → rlook ls 1 = some (I (a1)) → rlook ls 2 = some (I (a2)) → rlook ls 3 = some (I (x7_3)) → rlook ls 4 = some (I (x7_4)) → HS σ0 σ D N F_7 A_7 → SF [] F F_7 → SA [75, 76, 77] A A_7 → ∀ w7_75 : Int → Int, A_7 75 = w7_75 → ∀ w7_76 : Int → Int, A_7 76 = w7_76 → ∀ w7_77 : Int → Int, A_7 77 = w7_77 → (inr (x7_3)) → (inr (x7_4)) → ((0) ≤ (x7_4)) → ((x7_4) ≤ (0) ∨ (x7_4) ≤ ((64))) → ((x7_3) = p2 ((a2)) - su (fun i => mass (((w7_75)) i)) ((x7_4) : Int).toNat) → (-(512 * (x7_4)) ≤ (x7_3) ∧ (x7_3) ≤ 512) → (DVI ((w78)) ((w7_75)) ((x7_4))) → (DVJ ((w78)) ((w7_75)) ((x7_4)) ((a1)) (p2 ((a2)))) → (DVA ((w78)) ((w7_75)) ((a1)) (p2 ((a2))) ((x7_4))) → (DVC ((w78)) ((w7_76)) ((a1)) (p2 ((a2))) ((x7_4))) → (DVH ((w7_77)) ((x7_4))) → (((64)) - (x7_4)).toNat = m → Ew 411 (d + 1) 7 ls [] σ c s Q from
    hl7 _ _ σ _ _ (p2 (a2)) (0) (rk_o (rk_o (rfl) rfl rfl) rfl rfl) (rk_o (rk_o (rfl) rfl rfl) rfl rfl) (rk_o (rk_o (rfl) rfl rfl) rfl rfl) (rk_o (rk_s) rfl rfl) (rk_s) H (SF_refl) (SA_refl)  (A 75) (rfl) (A 76) (rfl) (A 77) (rfl) (show inr (p2 (a2)) by omega) (show inr (0) by omega) (show (0) ≤ (0) by omega) (show (0) ≤ (0) ∨ (0) ≤ ((64)) by omega) (show (p2 (a2)) = p2 ((a2)) - su (fun i => mass (((A 75)) i)) ((0) : Int).toNat by omega) (show -(512 * (0)) ≤ (p2 (a2)) ∧ (p2 (a2)) ≤ 512 by omega) (show DVI ((w78)) ((A 75)) ((0)) by assumption) (show DVJ ((w78)) ((A 75)) ((0)) ((a1)) (p2 ((a2))) by assumption) (show DVA ((w78)) ((A 75)) ((a1)) (p2 ((a2))) ((0)) by assumption) (show DVC ((w78)) ((A 76)) ((a1)) (p2 ((a2))) ((0)) by assumption) (show DVH ((A 77)) ((0)) by assumption) rfl
  as_aux_lemma =>
  intro m
  induction m using Nat.strongRecOn with
  | _ m ih7 =>
    intro ls σ F_7 A_7 x7_3 x7_4 l7_0 l7_1 l7_2 l7_3 l7_4 H hS_7 hA_7  w7_75 ew7_75 w7_76 ew7_76 w7_77 ew7_77 j7_0 j7_1 j7_2 j7_3 j7_4 j7_5 j7_6 j7_7 j7_8 j7_9 j7_10 hm7
    have j7_dvi : DVI ((w78)) ((w7_75)) ((x7_4)) := by assumption
    have j7_dvj : DVJ ((w78)) ((w7_75)) ((x7_4)) ((a1)) (p2 ((a2))) := by assumption
    have j7_a : DVA ((w78)) ((w7_75)) ((a1)) (p2 ((a2))) ((x7_4)) := by assumption
    have j7_c : DVC ((w78)) ((w7_76)) ((a1)) (p2 ((a2))) ((x7_4)) := by assumption
    have j7_h : DVH ((w7_77)) ((x7_4)) := by assumption
    refine Ew_of (pc' := 9) (fun _ => x_iload rfl l7_4) ?_
    refine Ew_of (pc' := 11) (fun _ => x_bipush (z := 64) rfl (by decide)) ?_
    refine w_icmpge (t := 93) rfl rfl (show inr (x7_4) by omega) (show inr (64) by omega) (fun b2 => ?_) (fun b2 => ?_)
    · have : TRU ((w7_77)) := trivial
      have h64 : (x7_4) = 64 := by omega
      have hdvi : DVI ((w78)) ((w7_75)) 64 := by rw [← h64]; assumption
      have hdvj : DVJ ((w78)) ((w7_75)) 64 ((a1)) (p2 ((a2))) := by rw [← h64]; assumption
      have hms64 : su (fun i => mass (((w7_75)) i)) ((x7_4) : Int).toNat = su (fun i => mass (((w7_75)) i)) 64 := by rw [h64]; rfl
      have hexp : EXP ((w7_75)) := EXP_of hdvj (by assumption) (by assumption) (by omega) (by omega)
      have : 2 * (x7_3) + 1 ≤ ((2 * (x7_3) + 1 : Int).toNat : Int) ∨ (2 * (x7_3) ≤ ((2 * (x7_3) + 1 : Int).toNat : Int) ∧ FREE ((w7_75)) ((w7_77)) 64) := .inl (by omega)
      have hdvc : DVC ((w78)) ((w7_76)) ((a1)) (p2 ((a2))) (64) := by rw [← h64]; exact j7_c
      have hdva : DVA ((w78)) ((w7_75)) ((a1)) (p2 ((a2))) (64) := by rw [← h64]; exact j7_a
      have hdvh : DVH ((w7_77)) (64) := by rw [← h64]; exact j7_h
      have : DV1R ((w78)) ((a1)) (p2 ((a2))) ((w7_75)) ((w7_77)) ((x7_3)) := DV1R_0 hdva hdvh (by omega)
      suffices hl93 : ∀ (mx : Nat), ∀ (ls : rO) (σ : rS) (F_93 : hF) (A_93 : hA) (x93_3 : Int), rlook ls 0 = some (.ref (D 6)) → rlook ls 3 = some (I (x93_3)) → HS σ0 σ D N F_93 A_93 → SF [] F_7 F_93 → SA [75, 77] A_7 A_93 → ∀ w93_75 : Int → Int, A_93 75 = w93_75 → ∀ w93_77 : Int → Int, A_93 77 = w93_77 → (inr (x93_3)) → ((x93_3) = p2 ((a2)) - su (fun i => mass (((w93_75)) i)) 64) → (-32768 ≤ (x93_3) ∧ (x93_3) ≤ 512) → (DVI ((w78)) ((w93_75)) 64) → (EXP ((w93_75))) → (TRU ((w93_77))) → (DV1R ((w78)) ((a1)) (p2 ((a2))) ((w93_75)) ((w93_77)) ((x93_3))) → (2 * (x93_3) + 1 ≤ mx ∨ (2 * (x93_3) ≤ mx ∧ FREE ((w93_75)) ((w93_77)) 64)) → Ew 411 (d + 1) 93 ls [] σ c s Q from
        hl93 ((2 * (x7_3) + 1 : Int).toNat) _ σ _ _ (x7_3) (l7_0) (l7_3) H (SF_refl) (SA_refl)  (w7_75) (ew7_75) (w7_77) (ew7_77) (show inr (x7_3) by omega) (show (x7_3) = p2 ((a2)) - su (fun i => mass (((w7_75)) i)) 64 by omega) (show -32768 ≤ (x7_3) ∧ (x7_3) ≤ 512 by omega) (show DVI ((w78)) ((w7_75)) 64 by assumption) (show EXP ((w7_75)) by assumption) (show TRU ((w7_77)) by assumption) (show DV1R ((w78)) ((a1)) (p2 ((a2))) ((w7_75)) ((w7_77)) ((x7_3)) by assumption) (by assumption)
      as_aux_lemma =>
      intro mx
      induction mx using Nat.strongRecOn with
      | _ mx ih93 =>
        intro ls σ F_93 A_93 x93_3 l93_0 l93_3 H hS_93 hA_93  w93_75 ew93_75 w93_77 ew93_77 j93_0 j93_1 j93_2 j93_3 j93_4 j93_5 j93_6 hm93
        have j93_e : EXP ((w93_75)) := by assumption
        have j93_d : DVI ((w78)) ((w93_75)) 64 := by assumption
        have j93_r : DV1R ((w78)) ((a1)) (p2 ((a2))) ((w93_75)) ((w93_77)) ((x93_3)) := by assumption
        refine Ew_of (pc' := 94) (fun _ => x_iload_n rfl l93_3) ?_
        refine w_ifle (t := 219) rfl rfl (show inr (x93_3) by omega) (fun b3 => ?_) (fun b3 => ?_)
        · have : DV2R ((w78)) ((a1)) (p2 ((a2))) ((w93_75)) ((x93_3)) := DV2R_0 j93_r (by omega)
          suffices hl219 : ∀ (m : Nat), ∀ (ls : rO) (σ : rS) (F_219 : hF) (A_219 : hA) (x219_3 : Int), rlook ls 0 = some (.ref (D 6)) → rlook ls 3 = some (I (x219_3)) → HS σ0 σ D N F_219 A_219 → SF [] F_93 F_219 → SA [75] A_93 A_219 → ∀ w219_75 : Int → Int, A_219 75 = w219_75 → (inr (x219_3)) → ((x219_3) = p2 ((a2)) - su (fun i => mass (((w219_75)) i)) 64) → (-32768 ≤ (x219_3) ∧ (x219_3) ≤ 0) → (DVI ((w78)) ((w219_75)) 64) → (DV2R ((w78)) ((a1)) (p2 ((a2))) ((w219_75)) ((x219_3))) → (0 - (x219_3)).toNat = m → Ew 411 (d + 1) 219 ls [] σ c s Q from
            hl219 _ _ σ _ _ (x93_3) (l93_0) (l93_3) H (SF_refl) (SA_refl)  (w93_75) (ew93_75) (show inr (x93_3) by omega) (show (x93_3) = p2 ((a2)) - su (fun i => mass (((w93_75)) i)) 64 by omega) (show -32768 ≤ (x93_3) ∧ (x93_3) ≤ 0 by omega) (show DVI ((w78)) ((w93_75)) 64 by assumption) (show DV2R ((w78)) ((a1)) (p2 ((a2))) ((w93_75)) ((x93_3)) by assumption) rfl
          as_aux_lemma =>
          intro m
          induction m using Nat.strongRecOn with
          | _ m ih219 =>
            intro ls σ F_219 A_219 x219_3 l219_0 l219_3 H hS_219 hA_219  w219_75 ew219_75 j219_0 j219_1 j219_2 j219_3 j219_4 hm219
            have j219_r : DV2R ((w78)) ((a1)) (p2 ((a2))) ((w219_75)) ((x219_3)) := by assumption
            refine Ew_of (pc' := 220) (fun _ => x_iload_n rfl l219_3) ?_
            refine w_ifge (t := 285) rfl rfl (show inr (x219_3) by omega) (fun b4 => ?_) (fun b4 => ?_)
            · have : DVF ((w78)) ((a1)) (p2 ((a2))) ((w219_75)) := ⟨(x219_3), by omega, j219_r⟩
              exact w_ret rfl (k σ _ _ H (SF_trans (SF_trans (SF_trans (SF_refl) hS_7 (any_sub rfl)) hS_93 (any_sub rfl)) hS_219 (any_sub rfl)) (SA_trans (SA_trans (SA_trans (SA_refl) hA_7 (any_subA rfl)) hA_93 (any_subA rfl)) hA_219 (any_subA rfl)) (w219_75) (ew219_75) (show DVI ((w78)) ((w219_75)) 64 by assumption) (show su (fun i => mass (((w219_75)) i)) 64 = p2 (a2) by omega) (show DVF ((w78)) (a1) (p2 (a2)) ((w219_75)) by assumption))
            · have htwo := two_ex (show DVI ((w78)) ((w219_75)) 64 from by assumption) (by assumption) (show p2 ((a2)) < su (fun i => mass (((w219_75)) i)) 64 by omega)
              refine Ew_of (pc' := 224) (fun _ => x_iconst rfl) ?_
              refine Ew_of (pc' := 226) (fun _ => x_istore rfl) ?_
              refine Ew_of (pc' := 227) (fun _ => x_iconst rfl) ?_
              refine Ew_of (pc' := 229) (fun _ => x_istore rfl) ?_
              have : ∀ k, (0 : Int) ≤ k → k < 1 → ((w219_75)) k ≤ ((w219_75)) 0 := fun k a b => by rw [show k = 0 by omega]; omega
              have : mst ((w219_75)) (1 : Int).toNat = 0 := mst_1
              suffices hl229 : ∀ (m : Nat), ∀ (ls : rO) (σ : rS) (F_229 : hF) (A_229 : hA) (x229_4 : Int) (x229_5 : Int), rlook ls 0 = some (.ref (D 6)) → rlook ls 3 = some (I (x219_3)) → rlook ls 4 = some (I (x229_4)) → rlook ls 5 = some (I (x229_5)) → HS σ0 σ D N F_229 A_229 → SF [] F_219 F_229 → SA [] A_219 A_229 → (inr (x229_4)) → (inr (x229_5)) → ((1) ≤ (x229_5)) → ((x229_5) ≤ (1) ∨ (x229_5) ≤ ((64))) → (0 ≤ (x229_4) ∧ (x229_4) < 64) → (∀ k, 0 ≤ k → k < (x229_5) → ((w219_75)) k ≤ ((w219_75)) ((x229_4))) → (mst ((w219_75)) ((x229_5) : Int).toNat = (x229_4)) → (((64)) - (x229_5)).toNat = m → Ew 411 (d + 1) 229 ls [] σ c s Q from
                hl229 _ _ σ _ _ (0) (1) (rk_o (rk_o (l219_0) rfl rfl) rfl rfl) (rk_o (rk_o (l219_3) rfl rfl) rfl rfl) (rk_o (rk_s) rfl rfl) (rk_s) H (SF_refl) (SA_refl)   (show inr (0) by omega) (show inr (1) by omega) (show (1) ≤ (1) by omega) (show (1) ≤ (1) ∨ (1) ≤ ((64)) by omega) (show 0 ≤ (0) ∧ (0) < 64 by omega) (show ∀ k, 0 ≤ k → k < (1) → ((w219_75)) k ≤ ((w219_75)) ((0)) by assumption) (show mst ((w219_75)) ((1) : Int).toNat = (0) by assumption) rfl
              as_aux_lemma =>
              intro m
              induction m using Nat.strongRecOn with
              | _ m ih229 =>
                intro ls σ F_229 A_229 x229_4 x229_5 l229_0 l229_3 l229_4 l229_5 H hS_229 hA_229   j229_0 j229_1 j229_2 j229_3 j229_4 j229_5 j229_6 hm229
                have j229_m : mst ((w219_75)) ((x229_5) : Int).toNat = (x229_4) := by assumption
                refine Ew_of (pc' := 231) (fun _ => x_iload rfl l229_5) ?_
                refine Ew_of (pc' := 233) (fun _ => x_bipush (z := 64) rfl (by decide)) ?_
                refine w_icmpge (t := 268) rfl rfl (show inr (x229_5) by omega) (show inr (64) by omega) (fun b5 => ?_) (fun b5 => ?_)
                · have ht2 : 2 ≤ ((w219_75)) ((x229_4)) := by obtain ⟨s, a, b, c⟩ := htwo; have := (show ∀ k, 0 ≤ k → k < (x229_5) → ((w219_75)) k ≤ ((w219_75)) ((x229_4)) from by assumption) s a (by omega); omega
                  have hmst : mst ((w219_75)) 64 = (x229_4) := by have e5 : (x229_5) = 64 := (by omega); rw [e5] at j229_m; exact j229_m
                  refine Ew_of (pc' := 269) (fun _ => x_aload_n rfl l229_0) ?_
                  refine w_gT H (o := 6) (t := 75) rfl (H.perm 6 rfl) rfl rfl rfl rfl rfl rfl ?_
                  refine Ew_of (pc' := 274) (fun _ => x_iload rfl l229_4) ?_
                  refine Ew_of (pc' := 275) (fun _ => x_dup2 rfl rfl rfl) ?_
                  refine w_lI H (o := 75) (n := 64) rfl (H.perm 75 rfl) rfl rfl (H.fix 75 rfl rfl) (show 0 ≤ x229_4 ∧ x229_4 < ((64 : Nat) : Int) by omega) (by decide) (fun v6 ev6 qv6 => ?_)
                  have qv6 : (-2147483648 : Int) ≤ v6 ∧ v6 ≤ 2147483647 := qv6
                  have ev6 : (w219_75) (x229_4) = v6 := (congrFun ((funext (hA_229 75 rfl)).trans (ew219_75)) (x229_4)).symm.trans ev6
                  refine Ew_of (pc' := 277) (fun _ => x_iconst rfl) ?_
                  refine w_isub rfl ?_
                  have hb1 := mass_upd (g := (w219_75)) (j := (x229_4)) (v := ((v6 - 1))) (n := 64) (by omega) (by omega)
                  have hb2 := mass_eq (((v6 - 1)))
                  have hb3 := mass_eq (((w219_75)) ((x229_4)))
                  have hb4 : DVI ((w78)) (upd1 ((w219_75)) ((x229_4)) (((v6 - 1)))) 64 := DVI_dec (by assumption) (by omega) (by omega)
                  have : DV2R ((w78)) ((a1)) (p2 ((a2))) (upd1 ((w219_75)) ((x229_4)) (((v6 - 1)))) ((x219_3) + 1) := DV2R_s j219_r (by omega) hmst (by omega) rfl
                  refine w_sI H (o := 75) (n := 64) rfl (H.perm 75 rfl) rfl rfl (H.fix 75 rfl rfl) (show 0 ≤ x229_4 ∧ x229_4 < ((64 : Nat) : Int) by omega) (by decide) (show (-2147483648 : Int) ≤ (v6 - 1) ∧ (v6 - 1) ≤ 2147483647 by omega) (fun σ H => ?_)
                  refine Ew_of (pc' := 282) (fun _ => x_iinc (len := 3) rfl (l229_3)) ?_
                  refine Ew_of (pc' := 219) (fun _ => x_goto rfl rfl) ?_
                  exact ih219 _ (by omega) _ σ _ _ ((x219_3 + 1)) (rk_o (l229_0) rfl rfl) (rk_s) H (SF_trans (hS_219) hS_229 (any_sub rfl)) (SA_upd (SA_trans (hA_219) hA_229 (any_subA rfl)) rfl)  (upd1 (w219_75) (x229_4) ((v6 - 1))) (congrArg (fun q => upd1 q (x229_4) ((v6 - 1))) ((funext (hA_229 75 rfl)).trans (ew219_75))) (show inr ((x219_3 + 1)) by omega) (show ((x219_3 + 1)) = p2 ((a2)) - su (fun i => mass (((upd1 (w219_75) (x229_4) ((v6 - 1)))) i)) 64 by omega) (show -32768 ≤ ((x219_3 + 1)) ∧ ((x219_3 + 1)) ≤ 0 by omega) (show DVI ((w78)) ((upd1 (w219_75) (x229_4) ((v6 - 1)))) 64 by assumption) (show DV2R ((w78)) ((a1)) (p2 ((a2))) ((upd1 (w219_75) (x229_4) ((v6 - 1)))) (((x219_3 + 1))) by assumption) rfl
                · refine Ew_of (pc' := 237) (fun _ => x_aload_n rfl l229_0) ?_
                  refine w_gT H (o := 6) (t := 75) rfl (H.perm 6 rfl) rfl rfl rfl rfl rfl rfl ?_
                  refine Ew_of (pc' := 242) (fun _ => x_iload rfl l229_5) ?_
                  refine w_lI H (o := 75) (n := 64) rfl (H.perm 75 rfl) rfl rfl (H.fix 75 rfl rfl) (show 0 ≤ x229_5 ∧ x229_5 < ((64 : Nat) : Int) by omega) (by decide) (fun v7 ev7 qv7 => ?_)
                  have qv7 : (-2147483648 : Int) ≤ v7 ∧ v7 ≤ 2147483647 := qv7
                  have ev7 : (w219_75) (x229_5) = v7 := (congrFun ((funext (hA_229 75 rfl)).trans (ew219_75)) (x229_5)).symm.trans ev7
                  refine Ew_of (pc' := 244) (fun _ => x_aload_n rfl l229_0) ?_
                  refine w_gT H (o := 6) (t := 75) rfl (H.perm 6 rfl) rfl rfl rfl rfl rfl rfl ?_
                  refine Ew_of (pc' := 249) (fun _ => x_iload rfl l229_4) ?_
                  refine w_lI H (o := 75) (n := 64) rfl (H.perm 75 rfl) rfl rfl (H.fix 75 rfl rfl) (show 0 ≤ x229_4 ∧ x229_4 < ((64 : Nat) : Int) by omega) (by decide) (fun v8 ev8 qv8 => ?_)
                  have qv8 : (-2147483648 : Int) ≤ v8 ∧ v8 ≤ 2147483647 := qv8
                  have ev8 : (w219_75) (x229_4) = v8 := (congrFun ((funext (hA_229 75 rfl)).trans (ew219_75)) (x229_4)).symm.trans ev8
                  refine w_icmple (t := 258) rfl rfl (show inr (v7) by omega) (show inr (v8) by omega) (fun b9 => ?_) (fun b9 => ?_)
                  · refine Ew_of (pc' := 260) (fun _ => x_iload rfl l229_4) ?_
                    refine Ew_of (pc' := 262) (fun _ => x_istore rfl) ?_
                    refine Ew_of (pc' := 265) (fun _ => x_iinc (len := 3) rfl (rk_o (l229_5) rfl rfl)) ?_
                    refine Ew_of (pc' := 229) (fun _ => x_goto rfl rfl) ?_
                    have : ∀ k, (0 : Int) ≤ k → k < ((x229_5 + 1)) → ((w219_75)) k ≤ ((w219_75)) ((x229_4)) := fun k a b => by by_cases e : k = x229_5; (rw [e]; omega); (have := (show ∀ k, 0 ≤ k → k < x229_5 → ((w219_75)) k ≤ ((w219_75)) (x229_4) from by assumption) k a (by omega); omega)
                    have : mst ((w219_75)) (((x229_5 + 1)) : Int).toNat = (x229_4) := by have q := mst_s (tr := (w219_75)) (i := x229_5) (by omega) j229_m; omega
                    exact ih229 _ (by omega) _ σ _ _ (x229_4) ((x229_5 + 1)) (rk_o (rk_o (l229_0) rfl rfl) rfl rfl) (rk_o (rk_o (l229_3) rfl rfl) rfl rfl) (rk_o (rk_s) rfl rfl) (rk_s) H (hS_229) (hA_229)   (show inr (x229_4) by omega) (show inr ((x229_5 + 1)) by omega) (show (1) ≤ ((x229_5 + 1)) by omega) (show ((x229_5 + 1)) ≤ (1) ∨ ((x229_5 + 1)) ≤ ((64)) by omega) (show 0 ≤ (x229_4) ∧ (x229_4) < 64 by omega) (show ∀ k, 0 ≤ k → k < ((x229_5 + 1)) → ((w219_75)) k ≤ ((w219_75)) ((x229_4)) by assumption) (show mst ((w219_75)) (((x229_5 + 1)) : Int).toNat = (x229_4) by assumption) rfl
                  · refine Ew_of (pc' := 255) (fun _ => x_iload rfl l229_5) ?_
                    refine Ew_of (pc' := 260) (fun _ => x_goto rfl rfl) ?_
                    refine Ew_of (pc' := 262) (fun _ => x_istore rfl) ?_
                    refine Ew_of (pc' := 265) (fun _ => x_iinc (len := 3) rfl (rk_o (l229_5) rfl rfl)) ?_
                    refine Ew_of (pc' := 229) (fun _ => x_goto rfl rfl) ?_
                    have : ∀ k, (0 : Int) ≤ k → k < ((x229_5 + 1)) → ((w219_75)) k ≤ ((w219_75)) ((x229_5)) := fun k a b => by by_cases e : k = x229_5; (rw [e]; omega); (have := (show ∀ k, 0 ≤ k → k < x229_5 → ((w219_75)) k ≤ ((w219_75)) (x229_4) from by assumption) k a (by omega); omega)
                    have : mst ((w219_75)) (((x229_5 + 1)) : Int).toNat = (x229_5) := by have q := mst_s (tr := (w219_75)) (i := x229_5) (by omega) j229_m; omega
                    exact ih229 _ (by omega) _ σ _ _ (x229_5) ((x229_5 + 1)) (rk_o (rk_o (l229_0) rfl rfl) rfl rfl) (rk_o (rk_o (l229_3) rfl rfl) rfl rfl) (rk_o (rk_s) rfl rfl) (rk_s) H (hS_229) (hA_229)   (show inr (x229_5) by omega) (show inr ((x229_5 + 1)) by omega) (show (1) ≤ ((x229_5 + 1)) by omega) (show ((x229_5 + 1)) ≤ (1) ∨ ((x229_5 + 1)) ≤ ((64)) by omega) (show 0 ≤ (x229_5) ∧ (x229_5) < 64 by omega) (show ∀ k, 0 ≤ k → k < ((x229_5 + 1)) → ((w219_75)) k ≤ ((w219_75)) ((x229_5)) by assumption) (show mst ((w219_75)) (((x229_5 + 1)) : Int).toNat = (x229_5) by assumption) rfl
        · refine Ew_of (pc' := 98) (fun _ => x_iconst rfl) ?_
          refine Ew_of (pc' := 100) (fun _ => x_istore rfl) ?_
          refine Ew_of (pc' := 101) (fun _ => x_iconst rfl) ?_
          refine Ew_of (pc' := 103) (fun _ => x_istore rfl) ?_
          have : (-1 : Int) = -1 → ∀ k, 0 ≤ k → k < (0 : Int) → ¬ (0 < ((w93_75)) k ∧ ((w93_77)) k = 0) := fun _ k a b => absurd b (by omega)
          have : bst ((w93_75)) ((w93_77)) ((w7_76)) (0 : Int).toNat = -1 := rfl
          suffices hl103 : ∀ (m : Nat), ∀ (ls : rO) (σ : rS) (F_103 : hF) (A_103 : hA) (x103_4 : Int) (x103_5 : Int), rlook ls 0 = some (.ref (D 6)) → rlook ls 3 = some (I (x93_3)) → rlook ls 4 = some (I (x103_4)) → rlook ls 5 = some (I (x103_5)) → HS σ0 σ D N F_103 A_103 → SF [] F_93 F_103 → SA [] A_93 A_103 → (inr (x103_4)) → (inr (x103_5)) → ((0) ≤ (x103_5)) → ((x103_5) ≤ (0) ∨ (x103_5) ≤ ((64))) → ((x103_4) = -1 ∨ 0 ≤ (x103_4) ∧ (x103_4) < (x103_5) ∧ 0 < ((w93_75)) ((x103_4)) ∧ ((w93_77)) ((x103_4)) = 0) → ((x103_4) = -1 → ∀ k, 0 ≤ k → k < (x103_5) → ¬ (0 < ((w93_75)) k ∧ ((w93_77)) k = 0)) → (bst ((w93_75)) ((w93_77)) ((w7_76)) ((x103_5) : Int).toNat = (x103_4)) → (((64)) - (x103_5)).toNat = m → Ew 411 (d + 1) 103 ls [] σ c s Q from
            hl103 _ _ σ _ _ ((-1)) (0) (rk_o (rk_o (l93_0) rfl rfl) rfl rfl) (rk_o (rk_o (l93_3) rfl rfl) rfl rfl) (rk_o (rk_s) rfl rfl) (rk_s) H (SF_refl) (SA_refl)   (show inr ((-1)) by omega) (show inr (0) by omega) (show (0) ≤ (0) by omega) (show (0) ≤ (0) ∨ (0) ≤ ((64)) by omega) (show ((-1)) = -1 ∨ 0 ≤ ((-1)) ∧ ((-1)) < (0) ∧ 0 < ((w93_75)) (((-1))) ∧ ((w93_77)) (((-1))) = 0 by omega) (show ((-1)) = -1 → ∀ k, 0 ≤ k → k < (0) → ¬ (0 < ((w93_75)) k ∧ ((w93_77)) k = 0) by assumption) (show bst ((w93_75)) ((w93_77)) ((w7_76)) ((0) : Int).toNat = ((-1)) by assumption) rfl
          as_aux_lemma =>
          intro m
          induction m using Nat.strongRecOn with
          | _ m ih103 =>
            intro ls σ F_103 A_103 x103_4 x103_5 l103_0 l103_3 l103_4 l103_5 H hS_103 hA_103   j103_0 j103_1 j103_2 j103_3 j103_4 j103_5 j103_6 hm103
            have j103_n : (x103_4) = -1 → ∀ k, 0 ≤ k → k < (x103_5) → ¬ (0 < ((w93_75)) k ∧ ((w93_77)) k = 0) := by assumption
            have j103_b : bst ((w93_75)) ((w93_77)) ((w7_76)) ((x103_5) : Int).toNat = (x103_4) := by assumption
            refine Ew_of (pc' := 105) (fun _ => x_iload rfl l103_5) ?_
            refine Ew_of (pc' := 107) (fun _ => x_bipush (z := 64) rfl (by decide)) ?_
            refine w_icmpge (t := 162) rfl rfl (show inr (x103_5) by omega) (show inr (64) by omega) (fun b10 => ?_) (fun b10 => ?_)
            · have hbst : bst ((w93_75)) ((w93_77)) ((w7_76)) 64 = (x103_4) := by have e5 : (x103_5) = 64 := (by omega); rw [e5] at j103_b; exact j103_b
              refine Ew_of (pc' := 164) (fun _ => x_iload rfl l103_4) ?_
              refine w_ifge (t := 194) rfl rfl (show inr (x103_4) by omega) (fun b11 => ?_) (fun b11 => ?_)
              · have hb3 := mass_eq (((w93_75)) ((x103_4)))
                have hbnd := su_one (f := fun i => mass (((w93_75)) i)) (i := (x103_4)) (n := 64) (fun i => by have := mass_eq (((w93_75)) i); omega) (by omega) (by omega)
                refine Ew_of (pc' := 195) (fun _ => x_aload_n rfl l103_0) ?_
                refine w_gT H (o := 6) (t := 75) rfl (H.perm 6 rfl) rfl rfl rfl rfl rfl rfl ?_
                refine Ew_of (pc' := 200) (fun _ => x_iload rfl l103_4) ?_
                refine Ew_of (pc' := 201) (fun _ => x_dup2 rfl rfl rfl) ?_
                refine w_lI H (o := 75) (n := 64) rfl (H.perm 75 rfl) rfl rfl (H.fix 75 rfl rfl) (show 0 ≤ x103_4 ∧ x103_4 < ((64 : Nat) : Int) by omega) (by decide) (fun v12 ev12 qv12 => ?_)
                have qv12 : (-2147483648 : Int) ≤ v12 ∧ v12 ≤ 2147483647 := qv12
                have ev12 : (w93_75) (x103_4) = v12 := (congrFun ((funext (hA_103 75 rfl)).trans (ew93_75)) (x103_4)).symm.trans ev12
                refine Ew_of (pc' := 203) (fun _ => x_iconst rfl) ?_
                refine w_iadd rfl ?_
                have hb1 := mass_upd (g := (w93_75)) (j := (x103_4)) (v := ((v12 + 1))) (n := 64) (by omega) (by omega)
                have hb2 := mass_eq (((v12 + 1)))
                have hb3 := mass_eq (((w93_75)) ((x103_4)))
                have hb4 : DVI ((w78)) (upd1 ((w93_75)) ((x103_4)) (((v12 + 1)))) 64 := DVI_inc j93_d (by omega) (by omega)
                have hb5 : EXP (upd1 ((w93_75)) ((x103_4)) (((v12 + 1)))) := EXP_inc j93_e (by omega) (by omega)
                have hv2 : ((v12 + 1)) = ((w93_75)) ((x103_4)) + 1 := by omega
                refine w_sI H (o := 75) (n := 64) rfl (H.perm 75 rfl) rfl rfl (H.fix 75 rfl rfl) (show 0 ≤ x103_4 ∧ x103_4 < ((64 : Nat) : Int) by omega) (by decide) (show (-2147483648 : Int) ≤ (v12 + 1) ∧ (v12 + 1) ≤ 2147483647 by omega) (fun σ H => ?_)
                refine Ew_of (pc' := 206) (fun _ => x_aload_n rfl l103_0) ?_
                refine w_gT H (o := 6) (t := 77) rfl (H.perm 6 rfl) rfl rfl rfl rfl rfl rfl ?_
                refine Ew_of (pc' := 211) (fun _ => x_iload rfl l103_4) ?_
                refine Ew_of (pc' := 212) (fun _ => x_iconst rfl) ?_
                have hm2 : 2 * (x93_3) ≤ mx := by rcases hm93 with q | q; omega; exact q.1
                have : 2 * ((x93_3) + (-1)) + 1 ≤ ((mx - 1 : Nat) : Int) ∨ (2 * ((x93_3) + (-1)) ≤ ((mx - 1 : Nat) : Int) ∧ FREE ((upd1 (w93_75) (x103_4) ((v12 + 1)))) (upd1 ((w93_77)) ((x103_4)) 1) 64) := .inl (by omega)
                have : DV1R ((w78)) ((a1)) (p2 ((a2))) ((upd1 (w93_75) (x103_4) ((v12 + 1)))) (upd1 ((w93_77)) ((x103_4)) 1) ((x93_3) + (-1)) := DV1R_put j93_r (by omega) hdvc hbst (by omega) hv2 (by omega)
                refine w_sZ H (o := 77) (n := 64) rfl (H.perm 77 rfl) rfl rfl (H.fix 77 rfl rfl) (show 0 ≤ x103_4 ∧ x103_4 < ((64 : Nat) : Int) by omega) (by decide) ⟨rfl, rfl⟩ (show (0 : Int) ≤ 1 ∧ 1 ≤ 1 by omega) (fun σ H => ?_)
                refine Ew_of (pc' := 216) (fun _ => x_iinc (len := 3) rfl (l103_3)) ?_
                refine Ew_of (pc' := 93) (fun _ => x_goto rfl rfl) ?_
                have : TRU ((upd1 (w93_77) (x103_4) (1))) := trivial
                exact ih93 (mx - 1) (by omega) _ σ _ _ ((x93_3 + (-1))) (rk_o (l103_0) rfl rfl) (rk_s) H (SF_trans (hS_93) hS_103 (any_sub rfl)) (SA_upd (SA_upd (SA_trans (hA_93) hA_103 (any_subA rfl)) rfl) rfl)  (upd1 (w93_75) (x103_4) ((v12 + 1))) (congrArg (fun q => upd1 q (x103_4) ((v12 + 1))) ((funext (hA_103 75 rfl)).trans (ew93_75))) (upd1 (w93_77) (x103_4) (1)) (congrArg (fun q => upd1 q (x103_4) (1)) ((funext (hA_103 77 rfl)).trans (ew93_77))) (show inr ((x93_3 + (-1))) by omega) (show ((x93_3 + (-1))) = p2 ((a2)) - su (fun i => mass (((upd1 (w93_75) (x103_4) ((v12 + 1)))) i)) 64 by omega) (show -32768 ≤ ((x93_3 + (-1))) ∧ ((x93_3 + (-1))) ≤ 512 by omega) (show DVI ((w78)) ((upd1 (w93_75) (x103_4) ((v12 + 1)))) 64 by assumption) (show EXP ((upd1 (w93_75) (x103_4) ((v12 + 1)))) by assumption) (show TRU ((upd1 (w93_77) (x103_4) (1))) by assumption) (show DV1R ((w78)) ((a1)) (p2 ((a2))) ((upd1 (w93_75) (x103_4) ((v12 + 1)))) ((upd1 (w93_77) (x103_4) (1))) (((x93_3 + (-1)))) by assumption) (by assumption)
              · have hnf : ¬ FREE ((w93_75)) ((w93_77)) 64 := fun ⟨s, a, b, c, d⟩ => j103_n (by omega) s a (by omega) ⟨c, d⟩
                have hm2 : 2 * (x93_3) + 1 ≤ mx := by rcases hm93 with q | q; exact q; exact absurd q.2 hnf
                refine Ew_of (pc' := 168) (fun _ => x_iconst rfl) ?_
                refine Ew_of (pc' := 170) (fun _ => x_istore rfl) ?_
                have : ∀ k, (0 : Int) ≤ k → k < 0 → ((w93_77)) (0 + k) = 0 := fun k a b => absurd b (by omega)
                suffices hl170 : ∀ (m : Nat), ∀ (ls : rO) (σ : rS) (F_170 : hF) (A_170 : hA) (x170_5 : Int), rlook ls 0 = some (.ref (D 6)) → rlook ls 3 = some (I (x93_3)) → rlook ls 5 = some (I (x170_5)) → HS σ0 σ D N F_170 A_170 → SF [] F_103 F_170 → SA [77] A_103 A_170 → ∀ w170_77 : Int → Int, A_170 77 = w170_77 → (inr (x170_5)) → ((0) ≤ (x170_5)) → ((x170_5) ≤ (0) ∨ (x170_5) ≤ ((64))) → (∀ k, 0 ≤ k → k < (x170_5) → ((w170_77)) (0 + k) = 0) → (((64)) - (x170_5)).toNat = m → Ew 411 (d + 1) 170 ls [] σ c s Q from
                  hl170 _ _ σ _ _ (0) (rk_o (l103_0) rfl rfl) (rk_o (l103_3) rfl rfl) (rk_s) H (SF_refl) (SA_refl)  (w93_77) ((funext (hA_103 77 rfl)).trans (ew93_77)) (show inr (0) by omega) (show (0) ≤ (0) by omega) (show (0) ≤ (0) ∨ (0) ≤ ((64)) by omega) (show ∀ k, 0 ≤ k → k < (0) → ((w93_77)) (0 + k) = 0 by assumption) rfl
                as_aux_lemma =>
                intro m
                induction m using Nat.strongRecOn with
                | _ m ih170 =>
                  intro ls σ F_170 A_170 x170_5 l170_0 l170_3 l170_5 H hS_170 hA_170  w170_77 ew170_77 j170_0 j170_1 j170_2 j170_3 hm170
                  refine Ew_of (pc' := 172) (fun _ => x_iload rfl l170_5) ?_
                  refine Ew_of (pc' := 174) (fun _ => x_bipush (z := 64) rfl (by decide)) ?_
                  refine w_icmpge (t := 191) rfl rfl (show inr (x170_5) by omega) (show inr (64) by omega) (fun b13 => ?_) (fun b13 => ?_)
                  · have hfr : FREE ((w93_75)) ((w170_77)) 64 := by obtain ⟨s, a, b, c⟩ := j93_e; exact ⟨s, a, b, c, by have := j170_3 s a (by omega); rw [Int.zero_add] at this; exact this⟩
                    have : 2 * (x93_3) + 1 ≤ ((mx - 1 : Nat) : Int) ∨ (2 * (x93_3) ≤ ((mx - 1 : Nat) : Int) ∧ FREE ((w93_75)) ((w170_77)) 64) := .inr ⟨by omega, hfr⟩
                    have : DV1R ((w78)) ((a1)) (p2 ((a2))) ((w93_75)) ((w170_77)) ((x93_3)) := DV1R_clear j93_r (by omega) hdvc (by rw [hbst]; omega) (fun s a b => by have := j170_3 s a (by omega); rw [Int.zero_add] at this; exact this)
                    refine Ew_of (pc' := 93) (fun _ => x_goto rfl rfl) ?_
                    have : TRU ((w170_77)) := trivial
                    exact ih93 (mx - 1) (by omega) _ σ _ _ (x93_3) (l170_0) (l170_3) H (SF_trans (SF_trans (hS_93) hS_103 (any_sub rfl)) hS_170 (any_sub rfl)) (SA_trans (SA_trans (hA_93) hA_103 (any_subA rfl)) hA_170 (any_subA rfl))  (w93_75) ((funext (hA_170 75 rfl)).trans ((funext (hA_103 75 rfl)).trans (ew93_75))) (w170_77) (ew170_77) (show inr (x93_3) by omega) (show (x93_3) = p2 ((a2)) - su (fun i => mass (((w93_75)) i)) 64 by omega) (show -32768 ≤ (x93_3) ∧ (x93_3) ≤ 512 by omega) (show DVI ((w78)) ((w93_75)) 64 by assumption) (show EXP ((w93_75)) by assumption) (show TRU ((w170_77)) by assumption) (show DV1R ((w78)) ((a1)) (p2 ((a2))) ((w93_75)) ((w170_77)) ((x93_3)) by assumption) (by assumption)
                  · refine Ew_of (pc' := 178) (fun _ => x_aload_n rfl l170_0) ?_
                    refine w_gT H (o := 6) (t := 77) rfl (H.perm 6 rfl) rfl rfl rfl rfl rfl rfl ?_
                    refine Ew_of (pc' := 183) (fun _ => x_iload rfl l170_5) ?_
                    refine Ew_of (pc' := 184) (fun _ => x_iconst rfl) ?_
                    refine w_sZ H (o := 77) (n := 64) rfl (H.perm 77 rfl) rfl rfl (H.fix 77 rfl rfl) (show 0 ≤ x170_5 ∧ x170_5 < ((64 : Nat) : Int) by omega) (by decide) ⟨rfl, rfl⟩ (show (0 : Int) ≤ 0 ∧ 0 ≤ 1 by omega) (fun σ H => ?_)
                    refine Ew_of (pc' := 188) (fun _ => x_iinc (len := 3) rfl (l170_5)) ?_
                    refine Ew_of (pc' := 170) (fun _ => x_goto rfl rfl) ?_
                    have : ∀ k, (0 : Int) ≤ k → k < ((x170_5 + 1)) → ((upd1 (w170_77) (x170_5) (0))) (0 + k) = 0 := share_z j170_3
                    exact ih170 _ (by omega) _ σ _ _ ((x170_5 + 1)) (rk_o (l170_0) rfl rfl) (rk_o (l170_3) rfl rfl) (rk_s) H (hS_170) (SA_upd (hA_170) rfl)  (upd1 (w170_77) (x170_5) (0)) (congrArg (fun q => upd1 q (x170_5) (0)) (ew170_77)) (show inr ((x170_5 + 1)) by omega) (show (0) ≤ ((x170_5 + 1)) by omega) (show ((x170_5 + 1)) ≤ (0) ∨ ((x170_5 + 1)) ≤ ((64)) by omega) (show ∀ k, 0 ≤ k → k < ((x170_5 + 1)) → ((upd1 (w170_77) (x170_5) (0))) (0 + k) = 0 by assumption) rfl
            · refine Ew_of (pc' := 111) (fun _ => x_aload_n rfl l103_0) ?_
              refine w_gT H (o := 6) (t := 75) rfl (H.perm 6 rfl) rfl rfl rfl rfl rfl rfl ?_
              refine Ew_of (pc' := 116) (fun _ => x_iload rfl l103_5) ?_
              refine w_lI H (o := 75) (n := 64) rfl (H.perm 75 rfl) rfl rfl (H.fix 75 rfl rfl) (show 0 ≤ x103_5 ∧ x103_5 < ((64 : Nat) : Int) by omega) (by decide) (fun v14 ev14 qv14 => ?_)
              have qv14 : (-2147483648 : Int) ≤ v14 ∧ v14 ≤ 2147483647 := qv14
              have ev14 : (w93_75) (x103_5) = v14 := (congrFun ((funext (hA_103 75 rfl)).trans (ew93_75)) (x103_5)).symm.trans ev14
              refine w_ifle (t := 156) rfl rfl (show inr (v14) by omega) (fun b15 => ?_) (fun b15 => ?_)
              · refine Ew_of (pc' := 159) (fun _ => x_iinc (len := 3) rfl (l103_5)) ?_
                refine Ew_of (pc' := 103) (fun _ => x_goto rfl rfl) ?_
                have : (x103_4) = -1 → ∀ k, 0 ≤ k → k < ((x103_5 + 1)) → ¬ (0 < ((w93_75)) k ∧ ((w93_77)) k = 0) := fun q k a b => by by_cases e : k = x103_5; (rw [e]; omega); exact j103_n (by omega) k a (by omega)
                have : bst ((w93_75)) ((w93_77)) ((w7_76)) (((x103_5 + 1)) : Int).toNat = (x103_4) := by have q := bst_s (tr := (w93_75)) (hd := (w93_77)) (cu := (w7_76)) (i := x103_5) (by omega) j103_b; omega
                exact ih103 _ (by omega) _ σ _ _ (x103_4) ((x103_5 + 1)) (rk_o (l103_0) rfl rfl) (rk_o (l103_3) rfl rfl) (rk_o (l103_4) rfl rfl) (rk_s) H (hS_103) (hA_103)   (show inr (x103_4) by omega) (show inr ((x103_5 + 1)) by omega) (show (0) ≤ ((x103_5 + 1)) by omega) (show ((x103_5 + 1)) ≤ (0) ∨ ((x103_5 + 1)) ≤ ((64)) by omega) (show (x103_4) = -1 ∨ 0 ≤ (x103_4) ∧ (x103_4) < ((x103_5 + 1)) ∧ 0 < ((w93_75)) ((x103_4)) ∧ ((w93_77)) ((x103_4)) = 0 by omega) (show (x103_4) = -1 → ∀ k, 0 ≤ k → k < ((x103_5 + 1)) → ¬ (0 < ((w93_75)) k ∧ ((w93_77)) k = 0) by assumption) (show bst ((w93_75)) ((w93_77)) ((w7_76)) (((x103_5 + 1)) : Int).toNat = (x103_4) by assumption) rfl
              · refine Ew_of (pc' := 121) (fun _ => x_aload_n rfl l103_0) ?_
                refine w_gT H (o := 6) (t := 77) rfl (H.perm 6 rfl) rfl rfl rfl rfl rfl rfl ?_
                refine Ew_of (pc' := 126) (fun _ => x_iload rfl l103_5) ?_
                refine w_lZ H (o := 77) (n := 64) rfl (H.perm 77 rfl) rfl rfl (H.fix 77 rfl rfl) (show 0 ≤ x103_5 ∧ x103_5 < ((64 : Nat) : Int) by omega) (by decide) ⟨rfl, rfl⟩ (fun v16 ev16 qv16 => ?_)
                have qv16 : (0 : Int) ≤ v16 ∧ v16 ≤ 1 := qv16
                have ev16 : (w93_77) (x103_5) = v16 := (congrFun ((funext (hA_103 77 rfl)).trans (ew93_77)) (x103_5)).symm.trans ev16
                refine w_ifne (t := 156) rfl rfl (show inr (v16) by omega) (fun b17 => ?_) (fun b17 => ?_)
                · refine Ew_of (pc' := 159) (fun _ => x_iinc (len := 3) rfl (l103_5)) ?_
                  refine Ew_of (pc' := 103) (fun _ => x_goto rfl rfl) ?_
                  have : (x103_4) = -1 → ∀ k, 0 ≤ k → k < ((x103_5 + 1)) → ¬ (0 < ((w93_75)) k ∧ ((w93_77)) k = 0) := fun q k a b => by by_cases e : k = x103_5; (rw [e]; omega); exact j103_n (by omega) k a (by omega)
                  have : bst ((w93_75)) ((w93_77)) ((w7_76)) (((x103_5 + 1)) : Int).toNat = (x103_4) := by have q := bst_s (tr := (w93_75)) (hd := (w93_77)) (cu := (w7_76)) (i := x103_5) (by omega) j103_b; omega
                  exact ih103 _ (by omega) _ σ _ _ (x103_4) ((x103_5 + 1)) (rk_o (l103_0) rfl rfl) (rk_o (l103_3) rfl rfl) (rk_o (l103_4) rfl rfl) (rk_s) H (hS_103) (hA_103)   (show inr (x103_4) by omega) (show inr ((x103_5 + 1)) by omega) (show (0) ≤ ((x103_5 + 1)) by omega) (show ((x103_5 + 1)) ≤ (0) ∨ ((x103_5 + 1)) ≤ ((64)) by omega) (show (x103_4) = -1 ∨ 0 ≤ (x103_4) ∧ (x103_4) < ((x103_5 + 1)) ∧ 0 < ((w93_75)) ((x103_4)) ∧ ((w93_77)) ((x103_4)) = 0 by omega) (show (x103_4) = -1 → ∀ k, 0 ≤ k → k < ((x103_5 + 1)) → ¬ (0 < ((w93_75)) k ∧ ((w93_77)) k = 0) by assumption) (show bst ((w93_75)) ((w93_77)) ((w7_76)) (((x103_5 + 1)) : Int).toNat = (x103_4) by assumption) rfl
                · refine Ew_of (pc' := 132) (fun _ => x_iload rfl l103_4) ?_
                  refine w_iflt (t := 152) rfl rfl (show inr (x103_4) by omega) (fun b18 => ?_) (fun b18 => ?_)
                  · refine Ew_of (pc' := 154) (fun _ => x_iload rfl l103_5) ?_
                    refine Ew_of (pc' := 156) (fun _ => x_istore rfl) ?_
                    refine Ew_of (pc' := 159) (fun _ => x_iinc (len := 3) rfl (rk_o (l103_5) rfl rfl)) ?_
                    refine Ew_of (pc' := 103) (fun _ => x_goto rfl rfl) ?_
                    have : (x103_5) = -1 → ∀ k, 0 ≤ k → k < ((x103_5 + 1)) → ¬ (0 < ((w93_75)) k ∧ ((w93_77)) k = 0) := fun q k a b => by by_cases e : k = x103_5; (rw [e]; omega); exact j103_n (by omega) k a (by omega)
                    have : bst ((w93_75)) ((w93_77)) ((w7_76)) (((x103_5 + 1)) : Int).toNat = (x103_5) := by have q := bst_s (tr := (w93_75)) (hd := (w93_77)) (cu := (w7_76)) (i := x103_5) (by omega) j103_b; omega
                    exact ih103 _ (by omega) _ σ _ _ (x103_5) ((x103_5 + 1)) (rk_o (rk_o (l103_0) rfl rfl) rfl rfl) (rk_o (rk_o (l103_3) rfl rfl) rfl rfl) (rk_o (rk_s) rfl rfl) (rk_s) H (hS_103) (hA_103)   (show inr (x103_5) by omega) (show inr ((x103_5 + 1)) by omega) (show (0) ≤ ((x103_5 + 1)) by omega) (show ((x103_5 + 1)) ≤ (0) ∨ ((x103_5 + 1)) ≤ ((64)) by omega) (show (x103_5) = -1 ∨ 0 ≤ (x103_5) ∧ (x103_5) < ((x103_5 + 1)) ∧ 0 < ((w93_75)) ((x103_5)) ∧ ((w93_77)) ((x103_5)) = 0 by omega) (show (x103_5) = -1 → ∀ k, 0 ≤ k → k < ((x103_5 + 1)) → ¬ (0 < ((w93_75)) k ∧ ((w93_77)) k = 0) by assumption) (show bst ((w93_75)) ((w93_77)) ((w7_76)) (((x103_5 + 1)) : Int).toNat = (x103_5) by assumption) rfl
                  · refine Ew_of (pc' := 136) (fun _ => x_aload_n rfl l103_0) ?_
                    refine w_gT H (o := 6) (t := 76) rfl (H.perm 6 rfl) rfl rfl rfl rfl rfl rfl ?_
                    refine Ew_of (pc' := 141) (fun _ => x_iload rfl l103_5) ?_
                    refine w_lI H (o := 76) (n := 64) rfl (H.perm 76 rfl) rfl rfl (H.fix 76 rfl rfl) (show 0 ≤ x103_5 ∧ x103_5 < ((64 : Nat) : Int) by omega) (by decide) (fun v19 ev19 qv19 => ?_)
                    have qv19 : (-2147483648 : Int) ≤ v19 ∧ v19 ≤ 2147483647 := qv19
                    have ev19 : (w7_76) (x103_5) = v19 := (congrFun ((funext (hA_103 76 rfl)).trans ((funext (hA_93 76 rfl)).trans (ew7_76))) (x103_5)).symm.trans ev19
                    refine Ew_of (pc' := 143) (fun _ => x_aload_n rfl l103_0) ?_
                    refine w_gT H (o := 6) (t := 76) rfl (H.perm 6 rfl) rfl rfl rfl rfl rfl rfl ?_
                    refine Ew_of (pc' := 148) (fun _ => x_iload rfl l103_4) ?_
                    refine w_lI H (o := 76) (n := 64) rfl (H.perm 76 rfl) rfl rfl (H.fix 76 rfl rfl) (show 0 ≤ x103_4 ∧ x103_4 < ((64 : Nat) : Int) by omega) (by decide) (fun v20 ev20 qv20 => ?_)
                    have qv20 : (-2147483648 : Int) ≤ v20 ∧ v20 ≤ 2147483647 := qv20
                    have ev20 : (w7_76) (x103_4) = v20 := (congrFun ((funext (hA_103 76 rfl)).trans ((funext (hA_93 76 rfl)).trans (ew7_76))) (x103_4)).symm.trans ev20
                    refine w_icmple (t := 156) rfl rfl (show inr (v19) by omega) (show inr (v20) by omega) (fun b21 => ?_) (fun b21 => ?_)
                    · refine Ew_of (pc' := 159) (fun _ => x_iinc (len := 3) rfl (l103_5)) ?_
                      refine Ew_of (pc' := 103) (fun _ => x_goto rfl rfl) ?_
                      have : (x103_4) = -1 → ∀ k, 0 ≤ k → k < ((x103_5 + 1)) → ¬ (0 < ((w93_75)) k ∧ ((w93_77)) k = 0) := fun q k a b => by by_cases e : k = x103_5; (rw [e]; omega); exact j103_n (by omega) k a (by omega)
                      have : bst ((w93_75)) ((w93_77)) ((w7_76)) (((x103_5 + 1)) : Int).toNat = (x103_4) := by have q := bst_s (tr := (w93_75)) (hd := (w93_77)) (cu := (w7_76)) (i := x103_5) (by omega) j103_b; omega
                      exact ih103 _ (by omega) _ σ _ _ (x103_4) ((x103_5 + 1)) (rk_o (l103_0) rfl rfl) (rk_o (l103_3) rfl rfl) (rk_o (l103_4) rfl rfl) (rk_s) H (hS_103) (hA_103)   (show inr (x103_4) by omega) (show inr ((x103_5 + 1)) by omega) (show (0) ≤ ((x103_5 + 1)) by omega) (show ((x103_5 + 1)) ≤ (0) ∨ ((x103_5 + 1)) ≤ ((64)) by omega) (show (x103_4) = -1 ∨ 0 ≤ (x103_4) ∧ (x103_4) < ((x103_5 + 1)) ∧ 0 < ((w93_75)) ((x103_4)) ∧ ((w93_77)) ((x103_4)) = 0 by omega) (show (x103_4) = -1 → ∀ k, 0 ≤ k → k < ((x103_5 + 1)) → ¬ (0 < ((w93_75)) k ∧ ((w93_77)) k = 0) by assumption) (show bst ((w93_75)) ((w93_77)) ((w7_76)) (((x103_5 + 1)) : Int).toNat = (x103_4) by assumption) rfl
                    · refine Ew_of (pc' := 154) (fun _ => x_iload rfl l103_5) ?_
                      refine Ew_of (pc' := 156) (fun _ => x_istore rfl) ?_
                      refine Ew_of (pc' := 159) (fun _ => x_iinc (len := 3) rfl (rk_o (l103_5) rfl rfl)) ?_
                      refine Ew_of (pc' := 103) (fun _ => x_goto rfl rfl) ?_
                      have : (x103_5) = -1 → ∀ k, 0 ≤ k → k < ((x103_5 + 1)) → ¬ (0 < ((w93_75)) k ∧ ((w93_77)) k = 0) := fun q k a b => by by_cases e : k = x103_5; (rw [e]; omega); exact j103_n (by omega) k a (by omega)
                      have : bst ((w93_75)) ((w93_77)) ((w7_76)) (((x103_5 + 1)) : Int).toNat = (x103_5) := by have q := bst_s (tr := (w93_75)) (hd := (w93_77)) (cu := (w7_76)) (i := x103_5) (by omega) j103_b; omega
                      exact ih103 _ (by omega) _ σ _ _ (x103_5) ((x103_5 + 1)) (rk_o (rk_o (l103_0) rfl rfl) rfl rfl) (rk_o (rk_o (l103_3) rfl rfl) rfl rfl) (rk_o (rk_s) rfl rfl) (rk_s) H (hS_103) (hA_103)   (show inr (x103_5) by omega) (show inr ((x103_5 + 1)) by omega) (show (0) ≤ ((x103_5 + 1)) by omega) (show ((x103_5 + 1)) ≤ (0) ∨ ((x103_5 + 1)) ≤ ((64)) by omega) (show (x103_5) = -1 ∨ 0 ≤ (x103_5) ∧ (x103_5) < ((x103_5 + 1)) ∧ 0 < ((w93_75)) ((x103_5)) ∧ ((w93_77)) ((x103_5)) = 0 by omega) (show (x103_5) = -1 → ∀ k, 0 ≤ k → k < ((x103_5 + 1)) → ¬ (0 < ((w93_75)) k ∧ ((w93_77)) k = 0) by assumption) (show bst ((w93_75)) ((w93_77)) ((w7_76)) (((x103_5 + 1)) : Int).toNat = (x103_5) by assumption) rfl
    · have hnn := (show ∀ i, (0 : Int) ≤ i → i < 64 → 0 ≤ ((w78)) i from by assumption) ((x7_4)) (by omega) (by omega)
      have hle := su_oneR (f := fun i => ((w78)) i) (i := (x7_4)) (n := 64) (fun i a b => (show ∀ i, (0 : Int) ≤ i → i < 64 → 0 ≤ ((w78)) i from by assumption) i a (by omega)) (by omega) (by omega)
      have hdv := DV1 (v := ((w78)) ((x7_4))) (n := (a1)) (p := p2 ((a2))) (by omega) (by omega) (by omega) (by omega)
      have hsz := su_s (f := fun i => mass (((w7_75)) i)) (i := (x7_4)) (by omega)
      have hap : (a1) * p2 ((a2)) ≤ 8001 * 512 := Int.mul_le_mul (by omega) (by omega) (by omega) (by omega)
      refine Ew_of (pc' := 15) (fun _ => x_aload_n rfl l7_0) ?_
      refine w_gT H (o := 6) (t := 78) rfl (H.perm 6 rfl) rfl rfl rfl rfl rfl rfl ?_
      refine Ew_of (pc' := 20) (fun _ => x_iload rfl l7_4) ?_
      refine w_lI H (o := 78) (n := 256) rfl (H.perm 78 rfl) rfl rfl (H.fix 78 rfl rfl) (show 0 ≤ x7_4 ∧ x7_4 < ((256 : Nat) : Int) by omega) (by decide) (fun v22 ev22 qv22 => ?_)
      have qv22 : (-2147483648 : Int) ≤ v22 ∧ v22 ≤ 2147483647 := qv22
      have ev22 : (w78) (x7_4) = v22 := (congrFun ((funext (hA_7 78 rfl)).trans (ew78)) (x7_4)).symm.trans ev22
      refine Ew_of (pc' := 22) (fun _ => x_iload_n rfl l7_2) ?_
      have hcv := ev22
      rw [hcv] at hdv
      refine w_ishlT rfl (show 0 ≤ a2 ∧ a2 ≤ 31 by omega) ?_
      refine Ew_of (pc' := 25) (fun _ => x_istore rfl) ?_
      have hrm : 0 ≤ ((v22 * p2 (a2))) % (a1) ∧ ((v22 * p2 (a2))) % (a1) < (a1) := ⟨Int.emod_nonneg _ (by omega), Int.emod_lt_of_pos _ (by omega)⟩
      refine Ew_of (pc' := 26) (fun _ => x_aload_n rfl (rk_o (l7_0) rfl rfl)) ?_
      refine w_gT H (o := 6) (t := 75) rfl (H.perm 6 rfl) rfl rfl rfl rfl rfl rfl ?_
      refine Ew_of (pc' := 31) (fun _ => x_iload rfl (rk_o (l7_4) rfl rfl)) ?_
      refine Ew_of (pc' := 33) (fun _ => x_iload rfl rk_s) ?_
      have hc54 : ∀ (tc54_0 : Int), ∀ (ls : rO) (σ : rS) (F_c54 : hF) (A_c54 : hA) , rlook ls 0 = some (.ref (D 6)) → rlook ls 1 = some (I (a1)) → rlook ls 2 = some (I (a2)) → rlook ls 3 = some (I (x7_3)) → rlook ls 4 = some (I (x7_4)) → rlook ls 5 = some (I ((v22 * p2 (a2)))) → HS σ0 σ D N F_c54 A_c54 → SF [] F_7 F_c54 → SA [] A_7 A_c54 → (inr (tc54_0)) → ((((v22 * p2 (a2))) ≠ (0) ∧ ((v22 * p2 (a2))) ≥ (a1) ∧ (tc54_0) = (((v22 * p2 (a2)) / a1))) ∨ (((v22 * p2 (a2))) ≠ (0) ∧ ((v22 * p2 (a2))) < (a1) ∧ (tc54_0) = ((-1))) ∨ (((v22 * p2 (a2))) = (0) ∧ (tc54_0) = (0))) → Ew 411 (d + 1) 54 ls [I (tc54_0), I (x7_4), .ref (D 75)] σ c s Q := by
       as_aux_lemma =>
        intro tc54_0 ls σ F_c54 A_c54  lc54_0 lc54_1 lc54_2 lc54_3 lc54_4 lc54_5 H hS_c54 hA_c54   jc54_0 jc54_1
        have htv : DVI ((w78)) (upd1 ((w7_75)) ((x7_4)) ((tc54_0))) ((x7_4) + 1) := fun s a b => by by_cases e : s = (x7_4); (rw [e, upd1_s]; omega); (rw [upd1_o e]; exact j7_dvi s a (by omega))
        have hp1 := pos1_eq (((w78)) ((x7_4)))
        rw [hcv] at hp1
        have htj : DVJ ((w78)) (upd1 ((w7_75)) ((x7_4)) ((tc54_0))) ((x7_4) + 1) ((a1)) (p2 ((a2))) := fun s a b => by by_cases e : s = (x7_4); (rw [e, upd1_s, hcv]; intro q; rcases hp1 with ⟨w1, w2⟩ | ⟨w1, w2⟩; (rw [w2]; omega); (rw [w2, Int.mul_one]; omega)); (rw [upd1_o e]; exact j7_dvj s a (by omega))
        have hmu := su_congr (f := fun i => mass ((upd1 ((w7_75)) ((x7_4)) ((tc54_0))) i)) (h := fun i => mass (((w7_75)) i)) (n := ((x7_4) : Int).toNat) (fun i a b => by rw [upd1_o (by omega)])
        have hsu := su_s (f := fun i => mass ((upd1 ((w7_75)) ((x7_4)) ((tc54_0))) i)) (i := (x7_4)) (by omega)
        have hsv : mass ((upd1 ((w7_75)) ((x7_4)) ((tc54_0))) ((x7_4))) = mass ((tc54_0)) := by rw [upd1_s]
        have hmq := mass_eq ((tc54_0))
        have hd0 := dv0_eq ((w78)) ((a1)) (p2 ((a2))) ((x7_4)) (((v22 * p2 (a2)))) (by rw [hcv])
        have : DVA ((w78)) (upd1 ((w7_75)) ((x7_4)) ((tc54_0))) ((a1)) (p2 ((a2))) ((x7_4) + 1) := DVA_next j7_a (by omega) rfl
        refine w_sI H (o := 75) (n := 64) rfl (H.perm 75 rfl) rfl rfl (H.fix 75 rfl rfl) (show 0 ≤ x7_4 ∧ x7_4 < ((64 : Nat) : Int) by omega) (by decide) (show (-2147483648 : Int) ≤ tc54_0 ∧ tc54_0 ≤ 2147483647 by omega) (fun σ H => ?_)
        refine Ew_of (pc' := 56) (fun _ => x_aload_n rfl lc54_0) ?_
        refine w_gT H (o := 6) (t := 76) rfl (H.perm 6 rfl) rfl rfl rfl rfl rfl rfl ?_
        refine Ew_of (pc' := 61) (fun _ => x_iload rfl lc54_4) ?_
        refine Ew_of (pc' := 63) (fun _ => x_iload rfl lc54_5) ?_
        refine Ew_of (pc' := 64) (fun _ => x_iload_n rfl lc54_1) ?_
        refine w_irem rfl (show inr ((v22 * p2 (a2))) ∧ 0 ≤ (v22 * p2 (a2)) by omega) (show inr (a1) ∧ 0 < a1 by omega) ?_
        have : DVC ((w78)) (upd1 ((w7_76)) ((x7_4)) ((((v22 * p2 (a2)) % a1)))) ((a1)) (p2 ((a2))) ((x7_4) + 1) := DVC_next j7_c (by unfold cu0; rw [hcv]) rfl
        refine w_sI H (o := 76) (n := 64) rfl (H.perm 76 rfl) rfl rfl (H.fix 76 rfl rfl) (show 0 ≤ x7_4 ∧ x7_4 < ((64 : Nat) : Int) by omega) (by decide) (show (-2147483648 : Int) ≤ ((v22 * p2 (a2)) % a1) ∧ ((v22 * p2 (a2)) % a1) ≤ 2147483647 by omega) (fun σ H => ?_)
        refine Ew_of (pc' := 67) (fun _ => x_aload_n rfl lc54_0) ?_
        refine w_gT H (o := 6) (t := 77) rfl (H.perm 6 rfl) rfl rfl rfl rfl rfl rfl ?_
        refine Ew_of (pc' := 72) (fun _ => x_iload rfl lc54_4) ?_
        refine Ew_of (pc' := 73) (fun _ => x_iconst rfl) ?_
        have : DVH (upd1 ((w7_77)) ((x7_4)) 0) ((x7_4) + 1) := DVH_next j7_h rfl rfl
        refine w_sZ H (o := 77) (n := 64) rfl (H.perm 77 rfl) rfl rfl (H.fix 77 rfl rfl) (show 0 ≤ x7_4 ∧ x7_4 < ((64 : Nat) : Int) by omega) (by decide) ⟨rfl, rfl⟩ (show (0 : Int) ≤ 0 ∧ 0 ≤ 1 by omega) (fun σ H => ?_)
        refine Ew_of (pc' := 75) (fun _ => x_iload_n rfl lc54_3) ?_
        refine Ew_of (pc' := 76) (fun _ => x_aload_n rfl lc54_0) ?_
        refine w_gT H (o := 6) (t := 75) rfl (H.perm 6 rfl) rfl rfl rfl rfl rfl rfl ?_
        refine Ew_of (pc' := 81) (fun _ => x_iload rfl lc54_4) ?_
        refine w_lI H (o := 75) (n := 64) rfl (H.perm 75 rfl) rfl rfl (H.fix 75 rfl rfl) (show 0 ≤ x7_4 ∧ x7_4 < ((64 : Nat) : Int) by omega) (by decide) (fun v24 ev24 qv24 => ?_)
        have qv24 : (-2147483648 : Int) ≤ v24 ∧ v24 ≤ 2147483647 := qv24
        have ev24 : (upd1 (w7_75) (x7_4) (tc54_0)) (x7_4) = v24 := (congrFun (congrArg (fun q => upd1 q (x7_4) (tc54_0)) ((funext (hA_c54 75 rfl)).trans (ew7_75))) (x7_4)).symm.trans ev24
        have hq82 := ev24
        rw [upd1_s] at hq82
        refine w_stat24 rfl rfl (by rfl) (M406 H (show inr (v24) by omega) (show -1 ≤ (v24) by omega) (fun z29 σ F25 A26 H hS27 hA28 pz29_0 pz29_1 => ⟨rfl, ?_⟩))
        rw [← hq82] at pz29_1
        refine w_isub rfl ?_
        refine Ew_of (pc' := 87) (fun _ => x_istore_n rfl) ?_
        refine Ew_of (pc' := 90) (fun _ => x_iinc (len := 3) rfl (rk_o (lc54_4) rfl rfl)) ?_
        refine Ew_of (pc' := 7) (fun _ => x_goto rfl rfl) ?_
        exact ih7 _ (by omega) _ σ _ _ ((x7_3 - z29)) ((x7_4 + 1)) (rk_o (rk_o (lc54_0) rfl rfl) rfl rfl) (rk_o (rk_o (lc54_1) rfl rfl) rfl rfl) (rk_o (rk_o (lc54_2) rfl rfl) rfl rfl) (rk_o (rk_s) rfl rfl) (rk_s) H (SF_trans (SF_trans (hS_7) hS_c54 (any_sub rfl)) hS27 (any_sub rfl)) (SA_trans (SA_upd (SA_upd (SA_upd (SA_trans (hA_7) hA_c54 (any_subA rfl)) rfl) rfl) rfl) hA28 (any_subA rfl))  (upd1 (w7_75) (x7_4) (tc54_0)) ((funext (hA28 75 rfl)).trans (congrArg (fun q => upd1 q (x7_4) (tc54_0)) ((funext (hA_c54 75 rfl)).trans (ew7_75)))) (upd1 (w7_76) (x7_4) (((v22 * p2 (a2)) % a1))) ((funext (hA28 76 rfl)).trans (congrArg (fun q => upd1 q (x7_4) (((v22 * p2 (a2)) % a1))) ((funext (hA_c54 76 rfl)).trans (ew7_76)))) (upd1 (w7_77) (x7_4) (0)) ((funext (hA28 77 rfl)).trans (congrArg (fun q => upd1 q (x7_4) (0)) ((funext (hA_c54 77 rfl)).trans (ew7_77)))) (show inr ((x7_3 - z29)) by omega) (show inr ((x7_4 + 1)) by omega) (show (0) ≤ ((x7_4 + 1)) by omega) (show ((x7_4 + 1)) ≤ (0) ∨ ((x7_4 + 1)) ≤ ((64)) by omega) (show ((x7_3 - z29)) = p2 ((a2)) - su (fun i => mass (((upd1 (w7_75) (x7_4) (tc54_0))) i)) (((x7_4 + 1)) : Int).toNat by omega) (show -(512 * ((x7_4 + 1))) ≤ ((x7_3 - z29)) ∧ ((x7_3 - z29)) ≤ 512 by omega) (show DVI ((w78)) ((upd1 (w7_75) (x7_4) (tc54_0))) (((x7_4 + 1))) by assumption) (show DVJ ((w78)) ((upd1 (w7_75) (x7_4) (tc54_0))) (((x7_4 + 1))) ((a1)) (p2 ((a2))) by assumption) (show DVA ((w78)) ((upd1 (w7_75) (x7_4) (tc54_0))) ((a1)) (p2 ((a2))) (((x7_4 + 1))) by assumption) (show DVC ((w78)) ((upd1 (w7_76) (x7_4) (((v22 * p2 (a2)) % a1)))) ((a1)) (p2 ((a2))) (((x7_4 + 1))) by assumption) (show DVH ((upd1 (w7_77) (x7_4) (0))) (((x7_4 + 1))) by assumption) rfl
      refine w_ifne (t := 40) rfl rfl (show inr ((v22 * p2 (a2))) by omega) (fun b30 => ?_) (fun b30 => ?_)
      · refine Ew_of (pc' := 42) (fun _ => x_iload rfl rk_s) ?_
        refine Ew_of (pc' := 43) (fun _ => x_iload_n rfl (rk_o (l7_1) rfl rfl)) ?_
        refine w_icmpge (t := 50) rfl rfl (show inr ((v22 * p2 (a2))) by omega) (show inr (a1) by omega) (fun b31 => ?_) (fun b31 => ?_)
        · refine Ew_of (pc' := 52) (fun _ => x_iload rfl rk_s) ?_
          refine Ew_of (pc' := 53) (fun _ => x_iload_n rfl (rk_o (l7_1) rfl rfl)) ?_
          refine w_idiv rfl (show inr ((v22 * p2 (a2))) ∧ 0 ≤ (v22 * p2 (a2)) by omega) (show inr (a1) ∧ 0 < a1 by omega) ?_
          exact hc54 (((v22 * p2 (a2)) / a1)) _ σ _ _  (rk_o (l7_0) rfl rfl) (rk_o (l7_1) rfl rfl) (rk_o (l7_2) rfl rfl) (rk_o (l7_3) rfl rfl) (rk_o (l7_4) rfl rfl) (rk_s) H (SF_refl) (SA_refl)   (show inr (((v22 * p2 (a2)) / a1)) by omega) (show (((v22 * p2 (a2))) ≠ (0) ∧ ((v22 * p2 (a2))) ≥ (a1) ∧ (((v22 * p2 (a2)) / a1)) = (((v22 * p2 (a2)) / a1))) ∨ (((v22 * p2 (a2))) ≠ (0) ∧ ((v22 * p2 (a2))) < (a1) ∧ (((v22 * p2 (a2)) / a1)) = ((-1))) ∨ (((v22 * p2 (a2))) = (0) ∧ (((v22 * p2 (a2)) / a1)) = (0)) by omega)
        · refine Ew_of (pc' := 47) (fun _ => x_iconst rfl) ?_
          refine Ew_of (pc' := 54) (fun _ => x_goto rfl rfl) ?_
          exact hc54 ((-1)) _ σ _ _  (rk_o (l7_0) rfl rfl) (rk_o (l7_1) rfl rfl) (rk_o (l7_2) rfl rfl) (rk_o (l7_3) rfl rfl) (rk_o (l7_4) rfl rfl) (rk_s) H (SF_refl) (SA_refl)   (show inr ((-1)) by omega) (show (((v22 * p2 (a2))) ≠ (0) ∧ ((v22 * p2 (a2))) ≥ (a1) ∧ ((-1)) = (((v22 * p2 (a2)) / a1))) ∨ (((v22 * p2 (a2))) ≠ (0) ∧ ((v22 * p2 (a2))) < (a1) ∧ ((-1)) = ((-1))) ∨ (((v22 * p2 (a2))) = (0) ∧ ((-1)) = (0)) by omega)
      · refine Ew_of (pc' := 37) (fun _ => x_iconst rfl) ?_
        refine Ew_of (pc' := 54) (fun _ => x_goto rfl rfl) ?_
        exact hc54 (0) _ σ _ _  (rk_o (l7_0) rfl rfl) (rk_o (l7_1) rfl rfl) (rk_o (l7_2) rfl rfl) (rk_o (l7_3) rfl rfl) (rk_o (l7_4) rfl rfl) (rk_s) H (SF_refl) (SA_refl)   (show inr (0) by omega) (show (((v22 * p2 (a2))) ≠ (0) ∧ ((v22 * p2 (a2))) ≥ (a1) ∧ (0) = (((v22 * p2 (a2)) / a1))) ∨ (((v22 * p2 (a2))) ≠ (0) ∧ ((v22 * p2 (a2))) < (a1) ∧ (0) = ((-1))) ∨ (((v22 * p2 (a2))) = (0) ∧ (0) = (0)) by omega)
/-- Writer.shareCost -/
theorem M415b {σ0 σ : rS} {D N : Nat → Nat} {F : hF} {A : hA} {d c s : Nat} {Q : wQ} (H : HS σ0 σ D N F A) {a1 a2 : Int} (u6_28 : Int) (eu6_28 : F 6 28 = u6_28) (w66 : Int → Int) (ew66 : A 66 = w66) (w78 : Int → Int) (ew78 : A 78 = w78) (lst : Int) (h0 : inr (a1)) (h1 : inr (a2)) (h2 : 0 ≤ (a1) ∧ (a1) ≤ 2) (h3 : 5 ≤ (a2) ∧ (a2) ≤ 9) (h4 : 1 ≤ (u6_28)) (h5 : ∀ i, (0 : Int) ≤ i → i < 64 → 0 ≤ ((w78)) i) (h6 : su (fun i => ((w78)) i) 64 = (u6_28)) (h7 : su (fun i => pos1 (((w78)) i)) 64 ≤ p2 ((a2))) (h8 : ∀ j, 0 ≤ j → j < (u6_28) → 1 ≤ ((w78)) (((w66)) (8001 * (a1) + j))) (h9 : ∀ i, lst < i → i < 64 → 0 ≤ i → ((w78)) i = 0) (h10 : 0 ≤ lst ∧ lst ≤ 63) (k : ∀ (z : Int) σ F' A', HS σ0 σ D N F' A' → SF [(6, 35)] F F' → SA [69, 71, 72, 73, 74, 75, 76, 77] A A' → ∀ y6_35 : Int, F' 6 35 = y6_35 → ∀ v75 : Int → Int, A' 75 = v75 → (inr (z)) → (0 ≤ (z) ∧ (z) ≤ 80000) → (DVI ((w78)) ((v75)) 64) → (su (fun i => mass (((v75)) i)) 64 = p2 ((a2))) → (0 ≤ (y6_35) ∧ (y6_35) ≤ 11 + 12 * (lst + 1)) → (COST (sh ((v75)) 0) ((a2)) (sh ((w66)) (8001 * (a1))) ((u6_28)) ((z) - (y6_35))) → (DVF ((w78)) ((u6_28)) (p2 ((a2))) ((v75))) → Q (some (I z)) σ c s) : Ew 415 (d + 3) 0 (rargs 0 [.ref (D 6), I a1, I a2]) [] σ c s Q := by
  have r1 : (0 : Int) ≤ u6_28 ∧ u6_28 ≤ 8001 := by have h1 : (0 : Int) ≤ F 6 28 ∧ F 6 28 ≤ 8001 := H.frng 6 28; rw [show F 6 28 = u6_28 from (eu6_28)] at h1; exact h1
  have hcm : ∀ j, 0 ≤ j → j < (u6_28) → 1 ≤ ((w78)) (((w66)) (8001 * (a1) + j)) := by assumption
  have hlz : ∀ i, lst < i → i < 64 → 0 ≤ i → ((w78)) i = 0 := by assumption
  refine Ew_of (pc' := 1) (fun _ => x_aload_n rfl rfl) ?_
  refine Ew_of (pc' := 2) (fun _ => x_aload_n rfl rfl) ?_
  refine w_gI H (o := 6) (w := u6_28) rfl (H.perm 6 rfl) rfl rfl rfl (fun _ => rfl) (eu6_28) ?_
  refine Ew_of (pc' := 6) (fun _ => x_iload_n rfl rfl) ?_
  refine w_inv H (o := 6) rfl rfl rfl (H.perm 6 rfl) rfl rfl (by rfl) (M411b H (w78) (ew78) (show inr (u6_28) by omega) (show inr (a2) by omega) (show 1 ≤ (u6_28) ∧ (u6_28) ≤ 8001 by omega) (show 5 ≤ (a2) ∧ (a2) ≤ 9 by omega) (show ∀ i, (0 : Int) ≤ i → i < 64 → 0 ≤ ((w78)) i by assumption) (show su (fun i => ((w78)) i) 64 = (u6_28) by omega) (show su (fun i => pos1 (((w78)) i)) 64 ≤ p2 ((a2)) by omega) (fun σ F2 A3 H hS4 hA5 wq7 ewq8 pz6_0 pz6_1 pz6_2 => ⟨rfl, ?_⟩))
  have hdv : DVI ((w78)) ((wq7)) 64 := by assumption
  have hsm : su (fun i => mass (((wq7)) i)) 64 = p2 ((a2)) := by assumption
  have hsh : SH ((wq7)) 0 64 ((a2)) lst := SH_div (by omega) hdv hsm hlz
  refine Ew_of (pc' := 10) (fun _ => x_aload_n rfl rfl) ?_
  have r9 : (0 : Int) ≤ F 6 35 ∧ F 6 35 ≤ 100000000 := by have h1 : (0 : Int) ≤ F2 6 35 ∧ F2 6 35 ≤ 100000000 := H.frng 6 35; rw [show F2 6 35 = F 6 35 from (hS4 6 35 rfl)] at h1; exact h1
  refine w_inv H (o := 6) rfl rfl rfl (H.perm 6 rfl) rfl rfl (by rfl) (M391 H (F 6 35) ((hS4 6 35 rfl)) (A 69) (funext (hA5 69 rfl))  (fun σ F10 A11 H hS12 hA13 y15 ey16 wq17 ewq18 pz14_0 pz14_1 => ⟨rfl, ?_⟩))
  have r19 : (0 : Int) ≤ y15 ∧ y15 ≤ 100000000 := by have h1 : (0 : Int) ≤ F10 6 35 ∧ F10 6 35 ≤ 100000000 := H.frng 6 35; rw [show F10 6 35 = y15 from (ey16)] at h1; exact h1
  refine Ew_of (pc' := 14) (fun _ => x_aload_n rfl rfl) ?_
  refine Ew_of (pc' := 15) (fun _ => x_aload_n rfl rfl) ?_
  refine w_gT H (o := 6) (t := 75) rfl (H.perm 6 rfl) rfl rfl rfl rfl rfl rfl ?_
  refine Ew_of (pc' := 19) (fun _ => x_iconst rfl) ?_
  refine Ew_of (pc' := 20) (fun _ => x_iload_n rfl rfl) ?_
  refine w_inv H (o := 6) rfl rfl rfl (H.perm 6 rfl) rfl rfl (by rfl) (M412_75 H (y15) ((ey16)) (wq17) (ewq18) (wq7) ((funext (hA13 75 rfl)).trans (ewq8)) (lst) (show inr (0) by omega) (show inr (a2) by omega) (show SH ((wq7)) (0) 64 (a2) (lst) by assumption) (show 0 ≤ (0) ∧ (0) + 64 ≤ 64 by omega) (show 0 ≤ (y15) ∧ (y15) ≤ 1000000 by omega) (show 0 ≤ (lst) by omega) (fun σ F20 A21 H hS22 hA23 y25 ey26 wq27 ewq28 pz24_0 pz24_1 pz24_2 => ⟨rfl, ?_⟩))
  have r29 : (0 : Int) ≤ y25 ∧ y25 ≤ 100000000 := by have h1 : (0 : Int) ≤ F20 6 35 ∧ F20 6 35 ≤ 100000000 := H.frng 6 35; rw [show F20 6 35 = y25 from (ey26)] at h1; exact h1
  refine Ew_of (pc' := 24) (fun _ => x_aload_n rfl rfl) ?_
  refine w_gI H (o := 6) (w := y25) rfl (H.perm 6 rfl) rfl rfl rfl (fun _ => rfl) (ey26) ?_
  refine Ew_of (pc' := 28) (fun _ => x_aload_n rfl rfl) ?_
  refine Ew_of (pc' := 29) (fun _ => x_iload_n rfl rfl) ?_
  refine Ew_of (pc' := 30) (fun _ => x_aload_n rfl rfl) ?_
  refine w_gT H (o := 6) (t := 75) rfl (H.perm 6 rfl) rfl rfl rfl rfl rfl rfl ?_
  refine Ew_of (pc' := 34) (fun _ => x_iconst rfl) ?_
  refine Ew_of (pc' := 35) (fun _ => x_iload_n rfl rfl) ?_
  have hBs : ∀ i, (0 : Int) ≤ (w66) i ∧ (w66) i ≤ 63 := fun i => by have h1 : (0 : Int) ≤ A21 66 i ∧ A21 66 i ≤ 63 := H.arng 66 i; rw [show A21 66 = w66 from (funext (hA23 66 rfl)).trans ((funext (hA13 66 rfl)).trans ((funext (hA5 66 rfl)).trans (ew66)))] at h1; exact h1
  have hnz : ∀ j, (0 : Int) ≤ j → j < (u6_28) → (sh ((wq7)) 0) ((sh ((w66)) (8001 * (a1))) j) ≠ 0 := fun j a b => by have h1 := hcm j a b; have h2 := hBs (8001 * (a1) + j); have h3 := hdv _ h2.1 (by omega); show ((wq7)) (0 + ((w66)) (8001 * (a1) + j)) ≠ 0; rw [Int.zero_add]; omega
  refine w_inv H (o := 6) rfl rfl rfl (H.perm 6 rfl) rfl rfl (by rfl) (M410_75 H (u6_28) (((((hS22 6 28 rfl).trans (hS12 6 28 rfl)).trans (hS4 6 28 rfl)).trans (eu6_28))) (w66) ((funext (hA23 66 rfl)).trans ((funext (hA13 66 rfl)).trans ((funext (hA5 66 rfl)).trans (ew66)))) (wq7) ((funext (hA23 75 rfl)).trans ((funext (hA13 75 rfl)).trans (ewq8))) (lst) (show inr (a1) by omega) (show inr (0) by omega) (show inr (a2) by omega) (show 0 ≤ (a1) ∧ (a1) ≤ 2 by omega) (show SH ((wq7)) (0) 64 (a2) (lst) by assumption) (show 0 ≤ (0) ∧ (0) + 64 ≤ 64 by omega) (show 1 ≤ (u6_28) by omega) (fun z34 σ F30 A31 H hS32 hA33 pz34_0 pz34_1 pz34_2 pz34_3 => ⟨rfl, ?_⟩))
  have hr := pz34_3 hnz
  have hco := pz34_2 hr
  have hmx : (a2) * (u6_28) ≤ 9 * 8001 := Int.mul_le_mul (by omega) (by omega) (by omega) (by omega)
  refine w_iadd rfl ?_
  have : COST (sh ((wq7)) 0) ((a2)) (sh ((w66)) (8001 * (a1))) ((u6_28)) (((y25 + z34)) - (y25)) := by rw [(show ∀ a b : Int, a + b - a = b from fun a b => by omega)]; exact hco
  exact w_ireturn rfl (k ((y25 + z34)) σ _ _ H (SF_trans (SF_trans (SF_trans (SF_trans (SF_refl) hS4 (any_sub rfl)) hS12 (any_sub rfl)) hS22 (any_sub rfl)) hS32 (any_sub rfl)) (SA_trans (SA_trans (SA_trans (SA_trans (SA_refl) hA5 (any_subA rfl)) hA13 (any_subA rfl)) hA23 (any_subA rfl)) hA33 (any_subA rfl)) (y25) (((hS32 6 35 rfl).trans (ey26))) (wq7) ((funext (hA33 75 rfl)).trans ((funext (hA23 75 rfl)).trans ((funext (hA13 75 rfl)).trans (ewq8)))) (show inr ((y25 + z34)) by omega) (show 0 ≤ ((y25 + z34)) ∧ ((y25 + z34)) ≤ 80000 by omega) (show DVI ((w78)) ((wq7)) 64 by assumption) (show su (fun i => mass (((wq7)) i)) 64 = p2 (a2) by omega) (show 0 ≤ (y25) ∧ (y25) ≤ 11 + 12 * (lst + 1) by omega) (show COST (sh ((wq7)) 0) (a2) (sh ((w66)) (8001 * a1)) ((u6_28)) (((y25 + z34)) - (y25)) by assumption) (show DVF ((w78)) ((u6_28)) (p2 (a2)) ((wq7)) by assumption))
