section
/-! 62.ref -/
theorem M407_75 {σ0 σ : rS} {D N : Nat → Nat} {F : hF} {A : hA} {d c s : Nat} {Q : wQ} (H : HS σ0 σ D N F A) {a2 a3 a4 a5 : Int} (w71 : Int → Int) (ew71 : A 71 = w71) (w72 : Int → Int) (ew72 : A 72 = w72) (w73 : Int → Int) (ew73 : A 73 = w73) (w75 : Int → Int) (ew75 : A 75 = w75) (lst : Int) (h0 : inr (a2)) (h1 : inr (a3)) (h2 : inr (a4)) (h3 : inr (a5)) (h4 : SH ((w75)) (a2) (a3) (a4) lst) (h5 : 0 ≤ (a2) ∧ 1 ≤ (a3) ∧ (a3) ≤ 64 ∧ (a2) + (a3) ≤ 64) (h6 : 0 ≤ (a5) ∧ (a5) + p2 ((a4)) ≤ 2048) (k : ∀ σ Fₚ Aₚ, HS σ0 σ D N Fₚ Aₚ → SF [] F Fₚ → SA [71, 72, 73, 74] A Aₚ → ∀ v71 : Int → Int, Aₚ 71 = v71 → ∀ v72 : Int → Int, Aₚ 72 = v72 → ∀ v73 : Int → Int, Aₚ 73 = v73 → (LD (sh ((w75)) ((a2))) (a3) (a4) (sh ((v71)) ((a5))) (sh ((v72)) ((a5))) (sh ((v73)) ((a5)))) → (TI ((v71)) ((v72)) ((v73)) (a5) (a4) lst) → (FRM ((w71)) ((v71)) (a5) ((a5) + p2 ((a4)))) → (FRM ((w72)) ((v72)) (a5) ((a5) + p2 ((a4)))) → (FRM ((w73)) ((v73)) (a5) ((a5) + p2 ((a4)))) → Q none σ c s) : Ew 407 (d + 1) 0 (rargs 0 [.ref (D 6), .ref (D 75), I a2, I a3, I a4, I a5]) [] σ c s Q := by
  have hsh : SH ((w75)) (a2) (a3) (a4) lst := h4
  have h59 : 5 ≤ (a4) ∧ (a4) ≤ 9 := ⟨hsh.1, hsh.2.1⟩
  have hp5 := p2_5 h59
  have hng := ngs_mono (P := sh ((w75)) ((a2))) (s := 0) (t := (a3)) (by omega) (by omega)
  have hn0 : ngs (sh ((w75)) ((a2))) 0 = 0 := rfl
  have hc0 : cum (sh ((w75)) ((a2))) 0 = 0 := rfl
  have hsp : ngs (sh ((w75)) ((a2))) ((a3)) + cum (sh ((w75)) ((a2))) ((a3)) = p2 ((a4)) := SH_parts hsh
  have hcm := cum_mono (P := sh ((w75)) ((a2))) (s := 0) (t := (a3)) (by omega) (by omega)
  refine Ew_of (pcₚ := 1) (fun _ => x_iconst rfl) ?_
  refine Ew_of (pcₚ := 3) (fun _ => x_iload rfl rfl) ?_
  refine w_ishl1 rfl (show 0 ≤ a4 ∧ a4 ≤ 31 from q_1303 h59) ?_
  refine Ew_of (pcₚ := 6) (fun _ => x_istore rfl) ?_
  refine Ew_of (pcₚ := 7) (fun _ => x_iconst rfl) ?_
  refine Ew_of (pcₚ := 9) (fun _ => x_istore rfl) ?_
  have : FRM ((w71)) ((w71)) (a5) ((a5) + p2 ((a4))) := FRM_refl
  have : ∀ k, (0 : Int) ≤ k → k < 0 → ((w71)) ((a5) + k) = -1 := fun k a b => absurd b (by omega)
  suffices hl9 : ∀ (m : Nat), ∀ (ls : rO) (σ : rS) (F_9 : hF) (A_9 : hA) (x9_7 : Int), rlook ls 0 = some (.ref (D 6)) → rlook ls 1 = some (.ref (D 75)) → rlook ls 2 = some (I (a2)) → rlook ls 3 = some (I (a3)) → rlook ls 4 = some (I (a4)) → rlook ls 5 = some (I (a5)) → rlook ls 6 = some (I (p2 (a4))) → rlook ls 7 = some (I (x9_7)) → HS σ0 σ D N F_9 A_9 → SF [] F F_9 → SA [71] A A_9 → ∀ w9_71 : Int → Int, A_9 71 = w9_71 → (inr (x9_7)) → ((0) ≤ (x9_7)) → ((x9_7) ≤ (0) ∨ (x9_7) ≤ ((p2 (a4)))) → (∀ k, 0 ≤ k → k < (x9_7) → ((w9_71)) ((a5) + k) = -1) → (FRM ((w71)) ((w9_71)) (a5) ((a5) + p2 ((a4)))) → (((p2 (a4))) - (x9_7)).toNat = m → Ew 407 (d + 1) 9 ls [] σ c s Q from
    hl9 _ _ σ _ _ (0) (rk_o (rk_o (rfl) rfl rfl) rfl rfl) (rk_o (rk_o (rfl) rfl rfl) rfl rfl) (rk_o (rk_o (rfl) rfl rfl) rfl rfl) (rk_o (rk_o (rfl) rfl rfl) rfl rfl) (rk_o (rk_o (rfl) rfl rfl) rfl rfl) (rk_o (rk_o (rfl) rfl rfl) rfl rfl) (rk_o (rk_s) rfl rfl) (rk_s) H (SF_refl) (SA_refl)  (w71) (ew71) (show inr (0) from q_2) (show (0) ≤ (0) from q_1) (show (0) ≤ (0) ∨ (0) ≤ ((p2 (a4))) from q_5) (show ∀ k, 0 ≤ k → k < (0) → ((w71)) ((a5) + k) = -1 by assumption) (show FRM ((w71)) ((w71)) (a5) ((a5) + p2 ((a4))) by assumption) rfl
  as_aux_lemma =>
  intro m
  induction m using Nat.strongRecOn with
  | _ m ih9 =>
    intro ls σ F_9 A_9 x9_7 l9_0 l9_1 l9_2 l9_3 l9_4 l9_5 l9_6 l9_7 H hS_9 hA_9  w9_71 ew9_71 j9_0 j9_1 j9_2 j9_3 j9_4 hm9
    refine Ew_of (pcₚ := 11) (fun _ => x_iload rfl l9_7) ?_
    refine Ew_of (pcₚ := 13) (fun _ => x_iload rfl l9_6) ?_
    refine w_icmpge (t := 33) rfl rfl (show inr (x9_7) from j9_0) (show inr (p2 (a4)) by omega) (fun b2 => ?_) (fun b2 => ?_)
    · have hm1 : ∀ k, 0 ≤ k → k < p2 ((a4)) → (sh ((w9_71)) ((a5))) k = -1 := fun k a b => j9_3 k a (by omega)
      have hcA : CA (sh ((w75)) ((a2))) (a3) (a4) (sh ((w9_71)) ((a5))) 0 := CA_0 hm1
      have hnf : ∀ s, 0 ≤ s → s < 0 → (sh ((w75)) ((a2))) s < 0 → (sh ((w9_71)) ((a5))) (p2 ((a4)) - 1 - ngs (sh ((w75)) ((a2))) s) = s := fun s a b => absurd b (by omega)
      refine Ew_of (pcₚ := 35) (fun _ => x_iload rfl l9_6) ?_
      refine Ew_of (pcₚ := 37) (fun _ => x_istore rfl) ?_
      refine Ew_of (pcₚ := 38) (fun _ => x_iconst rfl) ?_
      refine Ew_of (pcₚ := 40) (fun _ => x_istore rfl) ?_
      suffices hl40 : ∀ (m : Nat), ∀ (ls : rO) (σ : rS) (F_40 : hF) (A_40 : hA) (x40_7 : Int) (x40_8 : Int), rlook ls 0 = some (.ref (D 6)) → rlook ls 1 = some (.ref (D 75)) → rlook ls 2 = some (I (a2)) → rlook ls 3 = some (I (a3)) → rlook ls 4 = some (I (a4)) → rlook ls 5 = some (I (a5)) → rlook ls 6 = some (I (p2 (a4))) → rlook ls 7 = some (I (x40_7)) → rlook ls 8 = some (I (x40_8)) → HS σ0 σ D N F_40 A_40 → SF [] F_9 F_40 → SA [71] A_9 A_40 → ∀ w40_71 : Int → Int, A_40 71 = w40_71 → (inr (x40_7)) → (inr (x40_8)) → ((0) ≤ (x40_8)) → ((x40_8) ≤ (0) ∨ (x40_8) ≤ ((a3))) → ((x40_7) = p2 ((a4)) - ngs (sh ((w75)) ((a2))) ((x40_8))) → (0 ≤ (x40_7) ∧ (x40_7) ≤ p2 ((a4))) → (∀ s, 0 ≤ s → s < (x40_8) → (sh ((w75)) ((a2))) s < 0 → (sh ((w40_71)) ((a5))) (p2 ((a4)) - 1 - ngs (sh ((w75)) ((a2))) s) = s) → (∀ k, 0 ≤ k → k < (x40_7) → (sh ((w40_71)) ((a5))) k = -1) → (CA (sh ((w75)) ((a2))) (a3) (a4) (sh ((w40_71)) ((a5))) ((x40_8))) → (FRM ((w71)) ((w40_71)) (a5) ((a5) + p2 ((a4)))) → (((a3)) - (x40_8)).toNat = m → Ew 407 (d + 1) 40 ls [] σ c s Q from
        hl40 _ _ σ _ _ (p2 (a4)) (0) (rk_o (rk_o (l9_0) rfl rfl) rfl rfl) (rk_o (rk_o (l9_1) rfl rfl) rfl rfl) (rk_o (rk_o (l9_2) rfl rfl) rfl rfl) (rk_o (rk_o (l9_3) rfl rfl) rfl rfl) (rk_o (rk_o (l9_4) rfl rfl) rfl rfl) (rk_o (rk_o (l9_5) rfl rfl) rfl rfl) (rk_o (rk_o (l9_6) rfl rfl) rfl rfl) (rk_o (rk_s) rfl rfl) (rk_s) H (SF_refl) (SA_refl)  (w9_71) (ew9_71) (show inr (p2 (a4)) by omega) (show inr (0) from q_2) (show (0) ≤ (0) from q_1) (show (0) ≤ (0) ∨ (0) ≤ ((a3)) from q_5) (show (p2 (a4)) = p2 ((a4)) - ngs (sh ((w75)) ((a2))) ((0)) from q_1304 hn0) (show 0 ≤ (p2 (a4)) ∧ (p2 (a4)) ≤ p2 ((a4)) by omega) (hnf) (hm1) (hcA) (j9_4) rfl
      as_aux_lemma =>
      intro m
      induction m using Nat.strongRecOn with
      | _ m ih40 =>
        intro ls σ F_40 A_40 x40_7 x40_8 l40_0 l40_1 l40_2 l40_3 l40_4 l40_5 l40_6 l40_7 l40_8 H hS_40 hA_40  w40_71 ew40_71 j40_0 j40_1 j40_2 j40_3 j40_4 j40_5 j40_6 j40_7 j40_8 j40_9 hm40
        refine Ew_of (pcₚ := 42) (fun _ => x_iload rfl l40_8) ?_
        refine Ew_of (pcₚ := 43) (fun _ => x_iload_n rfl l40_3) ?_
        refine w_icmpge (t := 77) rfl rfl (show inr (x40_8) from j40_1) (show inr (a3) from h1) (fun b3 => ?_) (fun b3 => ?_)
        · have hne3 : ngs (sh ((w75)) ((a2))) ((x40_8)) = ngs (sh ((w75)) ((a2))) ((a3)) := by rw [show (x40_8) = (a3) by omega]
          have hPT : PT (sh ((w75)) ((a2))) (a3) (a4) (sh ((w40_71)) ((a5))) 0 (cum (sh ((w75)) ((a2))) 0) := by rw [hc0]; exact PT_start (by omega) (fun s a b c => (j40_6) s a (by omega) c) (fun k a b => (j40_7) k a (by omega))
          have hCB : CB (sh ((w75)) ((a2))) (a3) (a4) (sh ((w40_71)) ((a5))) 0 0 := CB_0 (j40_8) (by omega)
          have : ∀ i, (0 : Int) ≤ i → i < 0 → ((A 74)) i = mass ((sh ((w75)) ((a2))) i) := fun i a b => absurd b (by omega)
          refine Ew_of (pcₚ := 78) (fun _ => x_iconst rfl) ?_
          refine Ew_of (pcₚ := 80) (fun _ => x_istore rfl) ?_
          refine Ew_of (pcₚ := 81) (fun _ => x_iconst rfl) ?_
          refine Ew_of (pcₚ := 83) (fun _ => x_istore rfl) ?_
          suffices hl83 : ∀ (m : Nat), ∀ (ls : rO) (σ : rS) (F_83 : hF) (A_83 : hA) (x83_8 : Int) (x83_9 : Int), rlook ls 0 = some (.ref (D 6)) → rlook ls 1 = some (.ref (D 75)) → rlook ls 2 = some (I (a2)) → rlook ls 3 = some (I (a3)) → rlook ls 4 = some (I (a4)) → rlook ls 5 = some (I (a5)) → rlook ls 6 = some (I (p2 (a4))) → rlook ls 8 = some (I (x83_8)) → rlook ls 9 = some (I (x83_9)) → HS σ0 σ D N F_83 A_83 → SF [] F_40 F_83 → SA [71, 74] A_40 A_83 → ∀ w83_71 : Int → Int, A_83 71 = w83_71 → ∀ w83_74 : Int → Int, A_83 74 = w83_74 → (inr (x83_8)) → (inr (x83_9)) → ((0) ≤ (x83_9)) → ((x83_9) ≤ (0) ∨ (x83_9) ≤ ((a3))) → (PT (sh ((w75)) ((a2))) (a3) (a4) (sh ((w83_71)) ((a5))) ((x83_8)) (cum (sh ((w75)) ((a2))) ((x83_9)))) → (CB (sh ((w75)) ((a2))) (a3) (a4) (sh ((w83_71)) ((a5))) ((x83_9)) 0) → (FRM ((w71)) ((w83_71)) (a5) ((a5) + p2 ((a4)))) → (∀ i, 0 ≤ i → i < (x83_9) → ((w83_74)) i = mass ((sh ((w75)) ((a2))) i)) → (((a3)) - (x83_9)).toNat = m → Ew 407 (d + 1) 83 ls [] σ c s Q from
            hl83 _ _ σ _ _ (0) (0) (rk_o (rk_o (l40_0) rfl rfl) rfl rfl) (rk_o (rk_o (l40_1) rfl rfl) rfl rfl) (rk_o (rk_o (l40_2) rfl rfl) rfl rfl) (rk_o (rk_o (l40_3) rfl rfl) rfl rfl) (rk_o (rk_o (l40_4) rfl rfl) rfl rfl) (rk_o (rk_o (l40_5) rfl rfl) rfl rfl) (rk_o (rk_o (l40_6) rfl rfl) rfl rfl) (rk_o (rk_s) rfl rfl) (rk_s) H (SF_refl) (SA_refl)  (w40_71) (ew40_71) (A 74) ((funext (hA_40 74 rfl)).trans (funext (hA_9 74 rfl))) (show inr (0) from q_2) (show inr (0) from q_2) (show (0) ≤ (0) from q_1) (show (0) ≤ (0) ∨ (0) ≤ ((a3)) from q_5) (hPT) (hCB) (j40_9) (show ∀ i, 0 ≤ i → i < (0) → ((A 74)) i = mass ((sh ((w75)) ((a2))) i) by assumption) rfl
          as_aux_lemma =>
          intro m
          induction m using Nat.strongRecOn with
          | _ m ih83 =>
            intro ls σ F_83 A_83 x83_8 x83_9 l83_0 l83_1 l83_2 l83_3 l83_4 l83_5 l83_6 l83_8 l83_9 H hS_83 hA_83  w83_71 ew83_71 w83_74 ew83_74 j83_0 j83_1 j83_2 j83_3 j83_4 j83_5 j83_6 j83_7 hm83
            refine Ew_of (pcₚ := 85) (fun _ => x_iload rfl l83_9) ?_
            refine Ew_of (pcₚ := 86) (fun _ => x_iload_n rfl l83_3) ?_
            refine w_icmpge (t := 179) rfl rfl (show inr (x83_9) from j83_1) (show inr (a3) from h1) (fun b4 => ?_) (fun b4 => ?_)
            · have hlaid : LAID (sh ((w75)) ((a2))) (a3) (a4) (sh ((w83_71)) ((a5))) := PT_end h59 (by omega) (by rw [show p2 ((a4)) - ngs (sh ((w75)) ((a2))) ((a3)) = cum (sh ((w75)) ((a2))) ((x83_9)) by rw [show (x83_9) = (a3) by omega]; omega]; assumption)
              have hcnt := CB_end (j83_5) (by omega)
              have : NB (sh ((w75)) ((a2))) (a3) (sh ((w83_71)) ((a5))) ((w83_74)) 0 := NB_0 (fun s a b => (j83_7) s a (by omega))
              have : NUM (sh ((w75)) ((a2))) (a4) (sh ((w83_71)) ((a5))) (sh ((w72)) ((a5))) (sh ((w73)) ((a5))) 0 := fun k a b => absurd b (by omega)
              have : TJ ((w83_71)) ((w72)) ((w73)) (a5) (a4) lst 0 := fun k a b => absurd b (by omega)
              have : FRM ((w72)) ((w72)) (a5) ((a5) + p2 ((a4))) := FRM_refl
              have : FRM ((w73)) ((w73)) (a5) ((a5) + p2 ((a4))) := FRM_refl
              refine Ew_of (pcₚ := 180) (fun _ => x_iconst rfl) ?_
              refine Ew_of (pcₚ := 182) (fun _ => x_istore rfl) ?_
              suffices hl182 : ∀ (m : Nat), ∀ (ls : rO) (σ : rS) (F_182 : hF) (A_182 : hA) (x182_9 : Int), rlook ls 0 = some (.ref (D 6)) → rlook ls 4 = some (I (a4)) → rlook ls 5 = some (I (a5)) → rlook ls 6 = some (I (p2 (a4))) → rlook ls 9 = some (I (x182_9)) → HS σ0 σ D N F_182 A_182 → SF [] F_83 F_182 → SA [72, 73, 74] A_83 A_182 → ∀ w182_72 : Int → Int, A_182 72 = w182_72 → ∀ w182_73 : Int → Int, A_182 73 = w182_73 → ∀ w182_74 : Int → Int, A_182 74 = w182_74 → (inr (x182_9)) → ((0) ≤ (x182_9)) → ((x182_9) ≤ (0) ∨ (x182_9) ≤ ((p2 (a4)))) → (NB (sh ((w75)) ((a2))) (a3) (sh ((w83_71)) ((a5))) ((w182_74)) ((x182_9))) → (NUM (sh ((w75)) ((a2))) (a4) (sh ((w83_71)) ((a5))) (sh ((w182_72)) ((a5))) (sh ((w182_73)) ((a5))) ((x182_9))) → (TJ ((w83_71)) ((w182_72)) ((w182_73)) (a5) (a4) lst ((x182_9))) → (FRM ((w72)) ((w182_72)) (a5) ((a5) + p2 ((a4)))) → (FRM ((w73)) ((w182_73)) (a5) ((a5) + p2 ((a4)))) → (((p2 (a4))) - (x182_9)).toNat = m → Ew 407 (d + 1) 182 ls [] σ c s Q from
                hl182 _ _ σ _ _ (0) (rk_o (l83_0) rfl rfl) (rk_o (l83_4) rfl rfl) (rk_o (l83_5) rfl rfl) (rk_o (l83_6) rfl rfl) (rk_s) H (SF_refl) (SA_refl)  (w72) ((funext (hA_83 72 rfl)).trans ((funext (hA_40 72 rfl)).trans ((funext (hA_9 72 rfl)).trans (ew72)))) (w73) ((funext (hA_83 73 rfl)).trans ((funext (hA_40 73 rfl)).trans ((funext (hA_9 73 rfl)).trans (ew73)))) (w83_74) (ew83_74) (show inr (0) from q_2) (show (0) ≤ (0) from q_1) (show (0) ≤ (0) ∨ (0) ≤ ((p2 (a4))) from q_5) (show NB (sh ((w75)) ((a2))) (a3) (sh ((w83_71)) ((a5))) ((w83_74)) ((0)) by assumption) (show NUM (sh ((w75)) ((a2))) (a4) (sh ((w83_71)) ((a5))) (sh ((w72)) ((a5))) (sh ((w73)) ((a5))) ((0)) by assumption) (show TJ ((w83_71)) ((w72)) ((w73)) (a5) (a4) lst ((0)) by assumption) (show FRM ((w72)) ((w72)) (a5) ((a5) + p2 ((a4))) by assumption) (show FRM ((w73)) ((w73)) (a5) ((a5) + p2 ((a4))) by assumption) rfl
              as_aux_lemma =>
              intro m
              induction m using Nat.strongRecOn with
              | _ m ih182 =>
                intro ls σ F_182 A_182 x182_9 l182_0 l182_4 l182_5 l182_6 l182_9 H hS_182 hA_182  w182_72 ew182_72 w182_73 ew182_73 w182_74 ew182_74 j182_0 j182_1 j182_2 j182_3 j182_4 j182_5 j182_6 j182_7 hm182
                have j182_num : NUM (sh ((w75)) ((a2))) (a4) (sh ((w83_71)) ((a5))) (sh ((w182_72)) ((a5))) (sh ((w182_73)) ((a5))) ((x182_9)) := j182_4
                have j182_tj : TJ ((w83_71)) ((w182_72)) ((w182_73)) (a5) (a4) lst ((x182_9)) := j182_5
                refine Ew_of (pcₚ := 184) (fun _ => x_iload rfl l182_9) ?_
                refine Ew_of (pcₚ := 186) (fun _ => x_iload rfl l182_6) ?_
                refine w_icmpge (t := 273) rfl rfl (show inr (x182_9) from j182_0) (show inr (p2 (a4)) from q_2388 h6 j40_5) (fun b5 => ?_) (fun b5 => ?_)
                · have : LD (sh ((w75)) ((a2))) (a3) (a4) (sh ((w83_71)) ((a5))) (sh ((w182_72)) ((a5))) (sh ((w182_73)) ((a5))) := ⟨hlaid, hcnt, fun k a b => (j182_num) k a (by omega)⟩
                  have : TI ((w83_71)) ((w182_72)) ((w182_73)) (a5) (a4) lst := fun k a b => (j182_tj) k a (by omega)
                  exact w_ret rfl (k σ _ _ H (SF_trans (SF_trans (SF_trans (SF_trans (SF_refl) hS_9 (any_sub rfl)) hS_40 (any_sub rfl)) hS_83 (any_sub rfl)) hS_182 (any_sub rfl)) (SA_trans (SA_trans (SA_trans (SA_trans (SA_refl) hA_9 (any_subA rfl)) hA_40 (any_subA rfl)) hA_83 (any_subA rfl)) hA_182 (any_subA rfl)) (w83_71) ((funext (hA_182 71 rfl)).trans (ew83_71)) (w182_72) (ew182_72) (w182_73) (ew182_73) (show LD (sh ((w75)) (a2)) a3 a4 (sh ((w83_71)) (a5)) (sh ((w182_72)) (a5)) (sh ((w182_73)) (a5)) by assumption) (show TI ((w83_71)) ((w182_72)) ((w182_73)) a5 a4 lst by assumption) (j83_6) (j182_6) (j182_7))
                · have hlr := LAID_rng h59 (by omega) hlaid (k := (x182_9)) (by omega) (by omega)
                  have hse : (sh ((w83_71)) ((a5))) ((x182_9)) = ((w83_71)) ((a5) + (x182_9)) := rfl
                  have hnb : NB (sh ((w75)) ((a2))) (a3) (sh ((w83_71)) ((a5))) ((w182_74)) ((x182_9)) := j182_3
                  have hnx := NB_x hnb hcnt (by omega) (by omega) hlr.1 hlr.2.1
                  have hle := SH_le ((sh ((w83_71)) ((a5))) ((x182_9))) hsh hlr.1 hlr.2.1
                  have hpe : (sh ((w75)) ((a2))) ((sh ((w83_71)) ((a5))) ((x182_9))) = ((w75)) ((a2) + (sh ((w83_71)) ((a5))) ((x182_9))) := rfl
                  have hme := mass_eq ((sh ((w75)) ((a2))) ((sh ((w83_71)) ((a5))) ((x182_9))))
                  have hls := hle.2.2.2 (by rw [← hpe]; exact hlr.2.2)
                  have hmb : mass ((sh ((w75)) ((a2))) ((sh ((w83_71)) ((a5))) ((x182_9)))) ≤ p2 ((a4)) := hle.2.2.1
                  have hm1_ : 1 ≤ mass ((sh ((w75)) ((a2))) ((sh ((w83_71)) ((a5))) ((x182_9)))) := by have := hlr.2.2; omega
                  refine Ew_of (pcₚ := 190) (fun _ => x_aload_n rfl l182_0) ?_
                  refine w_gT H (o := 6) (t := 74) rfl (H.perm 6 rfl) rfl rfl rfl rfl rfl rfl ?_
                  refine Ew_of (pcₚ := 194) (fun _ => x_aload_n rfl l182_0) ?_
                  refine w_gT H (o := 6) (t := 71) rfl (H.perm 6 rfl) rfl rfl rfl rfl rfl rfl ?_
                  refine Ew_of (pcₚ := 199) (fun _ => x_iload rfl l182_5) ?_
                  refine Ew_of (pcₚ := 201) (fun _ => x_iload rfl l182_9) ?_
                  refine w_iadd rfl ?_
                  refine w_lI H (o := 71) (n := 2048) rfl (H.perm 71 rfl) rfl rfl (H.fix 71 rfl rfl) (show 0 ≤ (a5 + x182_9) ∧ (a5 + x182_9) < ((2048 : Nat) : Int) from q_2389 b5 h6 j182_1) (by decide) (fun v6 ev6 qv6 => ?_)
                  have qv6 : (-1 : Int) ≤ v6 ∧ v6 ≤ 63 := qv6
                  have ev6 : (w83_71) ((a5 + x182_9)) = v6 := (congrFun ((funext (hA_182 71 rfl)).trans (ew83_71)) ((a5 + x182_9))).symm.trans ev6
                  have hsv := ev6
                  rw [hse, hsv] at hnx hmb hm1_
                  refine w_lI H (o := 74) (n := 64) rfl (H.perm 74 rfl) rfl rfl (H.fix 74 rfl rfl) (show 0 ≤ v6 ∧ v6 < ((64 : Nat) : Int) by omega) (by decide) (fun v7 ev7 qv7 => ?_)
                  have qv7 : (-2147483648 : Int) ≤ v7 ∧ v7 ≤ 2147483647 := qv7
                  have ev7 : (w182_74) (v6) = v7 := (congrFun (ew182_74) (v6)).symm.trans ev7
                  refine Ew_of (pcₚ := 206) (fun _ => x_istore rfl) ?_
                  have hxv := ev7
                  rw [hxv] at hnx
                  refine Ew_of (pcₚ := 207) (fun _ => x_aload_n rfl (rk_o (l182_0) rfl rfl)) ?_
                  refine w_gT H (o := 6) (t := 74) rfl (H.perm 6 rfl) rfl rfl rfl rfl rfl rfl ?_
                  refine Ew_of (pcₚ := 211) (fun _ => x_aload_n rfl (rk_o (l182_0) rfl rfl)) ?_
                  refine w_gT H (o := 6) (t := 71) rfl (H.perm 6 rfl) rfl rfl rfl rfl rfl rfl ?_
                  refine Ew_of (pcₚ := 216) (fun _ => x_iload rfl (rk_o (l182_5) rfl rfl)) ?_
                  refine Ew_of (pcₚ := 218) (fun _ => x_iload rfl (rk_o (l182_9) rfl rfl)) ?_
                  refine w_iadd rfl ?_
                  refine w_lI H (o := 71) (n := 2048) rfl (H.perm 71 rfl) rfl rfl (H.fix 71 rfl rfl) (show 0 ≤ (a5 + x182_9) ∧ (a5 + x182_9) < ((2048 : Nat) : Int) from q_2389 b5 h6 j182_1) (by decide) (fun v8 ev8 qv8 => ?_)
                  have qv8 : (-1 : Int) ≤ v8 ∧ v8 ≤ 63 := qv8
                  have ev8 : (w83_71) ((a5 + x182_9)) = v8 := (congrFun ((funext (hA_182 71 rfl)).trans (ew83_71)) ((a5 + x182_9))).symm.trans ev8
                  refine Ew_of (pcₚ := 222) (fun _ => x_iload rfl rk_s) ?_
                  refine Ew_of (pcₚ := 223) (fun _ => x_iconst rfl) ?_
                  refine w_iadd rfl ?_
                  have hsv2 := ev8
                  have hnb2 : NB (sh ((w75)) ((a2))) (a3) (sh ((w83_71)) ((a5))) (upd1 ((w182_74)) ((v8)) (((v7 + 1)))) ((x182_9) + 1) := by have h := NB_next hnb (x := ((v7 + 1))) (k2 := (x182_9) + 1) (by omega) rfl hlr.1 hlr.2.1 (by rw [hse, hsv]; omega); rw [hse, hsv2] at h; exact h
                  refine w_sI H (o := 74) (n := 64) rfl (H.perm 74 rfl) rfl rfl (H.fix 74 rfl rfl) (show 0 ≤ v8 ∧ v8 < ((64 : Nat) : Int) by omega) (by decide) (show (-2147483648 : Int) ≤ (v7 + 1) ∧ (v7 + 1) ≤ 2147483647 by omega) (fun σ H => ?_)
                  refine Ew_of (pcₚ := 226) (fun _ => x_aload_n rfl (rk_o (l182_0) rfl rfl)) ?_
                  refine w_gT H (o := 6) (t := 72) rfl (H.perm 6 rfl) rfl rfl rfl rfl rfl rfl ?_
                  refine Ew_of (pcₚ := 231) (fun _ => x_iload rfl (rk_o (l182_5) rfl rfl)) ?_
                  refine Ew_of (pcₚ := 233) (fun _ => x_iload rfl (rk_o (l182_9) rfl rfl)) ?_
                  refine w_iadd rfl ?_
                  refine Ew_of (pcₚ := 236) (fun _ => x_iload rfl (rk_o (l182_4) rfl rfl)) ?_
                  refine Ew_of (pcₚ := 238) (fun _ => x_iload rfl rk_s) ?_
                  refine w_stat24 rfl rfl (by rfl) (M400 H (show inr (v7) from q_18 qv7) (show 1 ≤ (v7) by omega) (fun z13 σ F9 A10 H hS11 hA12 pz13_0 pz13_1 pz13_2 => ⟨rfl, ?_⟩))
                  have hib := hi_base (x := (v7)) (r := (z13)) (o := (a4)) (by omega) (by omega) (by omega) (by omega) (by omega)
                  have hpp := p2_pos ((a4) - (z13))
                  refine w_isub rfl ?_
                  have : FRM ((w72)) (upd1 ((w182_72)) ((a5) + (x182_9)) (((a4 - z13)))) (a5) ((a5) + p2 ((a4))) := FRM_upd (by assumption) (by omega) (by omega)
                  refine w_sI H (o := 72) (n := 2048) rfl (H.perm 72 rfl) rfl rfl (H.fix 72 rfl rfl) (show 0 ≤ (a5 + x182_9) ∧ (a5 + x182_9) < ((2048 : Nat) : Int) from q_2389 b5 h6 j182_1) (by decide) (show (0 : Int) ≤ (a4 - z13) ∧ (a4 - z13) ≤ 9 by omega) (fun σ H => ?_)
                  refine Ew_of (pcₚ := 244) (fun _ => x_aload_n rfl (rk_o (l182_0) rfl rfl)) ?_
                  refine w_gT H (o := 6) (t := 73) rfl (H.perm 6 rfl) rfl rfl rfl rfl rfl rfl ?_
                  refine Ew_of (pcₚ := 249) (fun _ => x_iload rfl (rk_o (l182_5) rfl rfl)) ?_
                  refine Ew_of (pcₚ := 251) (fun _ => x_iload rfl (rk_o (l182_9) rfl rfl)) ?_
                  refine w_iadd rfl ?_
                  refine Ew_of (pcₚ := 254) (fun _ => x_iload rfl rk_s) ?_
                  refine Ew_of (pcₚ := 256) (fun _ => x_iload rfl (rk_o (l182_4) rfl rfl)) ?_
                  refine Ew_of (pcₚ := 258) (fun _ => x_iload rfl rk_s) ?_
                  refine w_stat24 rfl rfl (by rfl) (M400 H (show inr (v7) from q_2391 pz13_2 qv7) (show 1 ≤ (v7) from q_2390 pz13_2) (fun z18 σ F14 A15 H hS16 hA17 pz18_0 pz18_1 pz18_2 => ⟨rfl, ?_⟩))
                  refine w_isub rfl ?_
                  have hrr := p2_same (r := z13) (t := z18) (x := (v7)) (by omega) (by omega) (by omega) (by omega) (by omega) (by omega)
                  have hpq : p2 ((a4) - z13) = p2 ((a4) - z18) := by rw [hrr]
                  rw [hrr] at hib hpp
                  have hnum : NUM (sh ((w75)) ((a2))) (a4) (sh ((w83_71)) ((a5))) (sh ((upd1 (w182_72) ((a5 + x182_9)) ((a4 - z13)))) ((a5))) (sh (upd1 ((w182_73)) ((a5) + (x182_9)) ((v7) * p2 ((a4) - z18) - p2 ((a4)))) ((a5))) ((x182_9) + 1) := by rw [sh_upd, sh_upd]; exact NUM_next (r := z18) j182_num rfl (by omega) (by omega) (by omega) (by omega) (by omega) (by rw [← hnx.1])
                  have htj : TJ ((w83_71)) ((upd1 (w182_72) ((a5 + x182_9)) ((a4 - z13)))) (upd1 ((w182_73)) ((a5) + (x182_9)) ((v7) * p2 ((a4) - z18) - p2 ((a4)))) (a5) (a4) lst ((x182_9) + 1) := TJ_next j182_tj (by omega) (by omega) (by omega)
                  have : FRM ((w73)) (upd1 ((w182_73)) ((a5) + (x182_9)) ((v7) * p2 ((a4) - z18) - p2 ((a4)))) (a5) ((a5) + p2 ((a4))) := FRM_upd (by assumption) (by omega) (by omega)
                  refine w_ishlT rfl (show 0 ≤ (a4 - z18) ∧ (a4 - z18) ≤ 31 by omega) ?_
                  refine Ew_of (pcₚ := 265) (fun _ => x_iload rfl (rk_o (l182_6) rfl rfl)) ?_
                  refine w_isub rfl ?_
                  refine w_sI H (o := 73) (n := 2048) rfl (H.perm 73 rfl) rfl rfl (H.fix 73 rfl rfl) (show 0 ≤ (a5 + x182_9) ∧ (a5 + x182_9) < ((2048 : Nat) : Int) from q_2389 b5 h6 j182_1) (by decide) (show (0 : Int) ≤ ((v7 * p2 ((a4 - z18))) - p2 (a4)) ∧ ((v7 * p2 ((a4 - z18))) - p2 (a4)) ≤ 511 by omega) (fun σ H => ?_)
                  refine Ew_of (pcₚ := 270) (fun _ => x_iinc (len := 3) rfl (rk_o (l182_9) rfl rfl)) ?_
                  refine Ew_of (pcₚ := 182) (fun _ => x_goto rfl rfl) ?_
                  exact ih182 _ (msE hm182 q_16 (q_17 b5)) _ σ _ _ ((x182_9 + 1)) (rk_o (rk_o (l182_0) rfl rfl) rfl rfl) (rk_o (rk_o (l182_4) rfl rfl) rfl rfl) (rk_o (rk_o (l182_5) rfl rfl) rfl rfl) (rk_o (rk_o (l182_6) rfl rfl) rfl rfl) (rk_s) H (SF_trans (SF_trans (hS_182) hS11 (any_sub rfl)) hS16 (any_sub rfl)) (SA_upd (SA_trans (SA_upd (SA_trans (SA_upd (hA_182) rfl) hA12 (any_subA rfl)) rfl) hA17 (any_subA rfl)) rfl)  (upd1 (w182_72) ((a5 + x182_9)) ((a4 - z13))) ((funext (hA17 72 rfl)).trans (congrArg (fun q => upd1 q ((a5 + x182_9)) ((a4 - z13))) ((funext (hA12 72 rfl)).trans (ew182_72)))) (upd1 (w182_73) ((a5 + x182_9)) (((v7 * p2 ((a4 - z18))) - p2 (a4)))) (congrArg (fun q => upd1 q ((a5 + x182_9)) (((v7 * p2 ((a4 - z18))) - p2 (a4)))) ((funext (hA17 73 rfl)).trans ((funext (hA12 73 rfl)).trans (ew182_73)))) (upd1 (w182_74) (v8) ((v7 + 1))) ((funext (hA17 74 rfl)).trans ((funext (hA12 74 rfl)).trans (congrArg (fun q => upd1 q (v8) ((v7 + 1))) (ew182_74)))) (show inr ((x182_9 + 1)) from q_2392 b5 h6 j182_1) (show (0) ≤ ((x182_9 + 1)) from q_14 j182_1) (show ((x182_9 + 1)) ≤ (0) ∨ ((x182_9 + 1)) ≤ ((p2 (a4))) from q_13 b5) (hnb2) (hnum) (htj) (show FRM ((w72)) ((upd1 (w182_72) ((a5 + x182_9)) ((a4 - z13)))) (a5) ((a5) + p2 ((a4))) by assumption) (show FRM ((w73)) ((upd1 (w182_73) ((a5 + x182_9)) (((v7 * p2 ((a4 - z18))) - p2 (a4))))) (a5) ((a5) + p2 ((a4))) by assumption) rfl
            · have hpo := posi_eq ((sh ((w75)) ((a2))) ((x83_9)))
              have hcs := cum_s (P := sh ((w75)) ((a2))) (s := (x83_9)) (by omega)
              have hcm2 := cum_mono (P := sh ((w75)) ((a2))) (s := (x83_9) + 1) (t := (a3)) (by omega) (by omega)
              have hpe : (sh ((w75)) ((a2))) ((x83_9)) = ((w75)) ((a2) + (x83_9)) := rfl
              have hle := SH_le ((x83_9)) hsh (by omega) (by omega)
              have hPT0 : PT (sh ((w75)) ((a2))) (a3) (a4) (sh ((w83_71)) ((a5))) ((x83_8)) (cum (sh ((w75)) ((a2))) ((x83_9)) + 0) := by rw [Int.add_zero]; assumption
              refine Ew_of (pcₚ := 90) (fun _ => x_iconst rfl) ?_
              refine Ew_of (pcₚ := 92) (fun _ => x_istore rfl) ?_
              suffices hl92 : ∀ (m : Nat), ∀ (ls : rO) (σ : rS) (F_92 : hF) (A_92 : hA) (x92_8 : Int) (x92_10 : Int), rlook ls 0 = some (.ref (D 6)) → rlook ls 1 = some (.ref (D 75)) → rlook ls 2 = some (I (a2)) → rlook ls 3 = some (I (a3)) → rlook ls 4 = some (I (a4)) → rlook ls 5 = some (I (a5)) → rlook ls 6 = some (I (p2 (a4))) → rlook ls 8 = some (I (x92_8)) → rlook ls 9 = some (I (x83_9)) → rlook ls 10 = some (I (x92_10)) → HS σ0 σ D N F_92 A_92 → SF [] F_83 F_92 → SA [71] A_83 A_92 → ∀ w92_71 : Int → Int, A_92 71 = w92_71 → (inr (x92_8)) → (inr (x92_10)) → (0 ≤ (x92_10) ∧ (x92_10) ≤ posi ((sh ((w75)) ((a2))) ((x83_9)))) → (PT (sh ((w75)) ((a2))) (a3) (a4) (sh ((w92_71)) ((a5))) ((x92_8)) (cum (sh ((w75)) ((a2))) ((x83_9)) + (x92_10))) → (CB (sh ((w75)) ((a2))) (a3) (a4) (sh ((w92_71)) ((a5))) ((x83_9)) ((x92_10))) → (FRM ((w71)) ((w92_71)) (a5) ((a5) + p2 ((a4)))) → (((w75)) ((a2) + (x83_9)) - (x92_10)).toNat = m → Ew 407 (d + 1) 92 ls [] σ c s Q from
                hl92 _ _ σ _ _ (x83_8) (0) (rk_o (l83_0) rfl rfl) (rk_o (l83_1) rfl rfl) (rk_o (l83_2) rfl rfl) (rk_o (l83_3) rfl rfl) (rk_o (l83_4) rfl rfl) (rk_o (l83_5) rfl rfl) (rk_o (l83_6) rfl rfl) (rk_o (l83_8) rfl rfl) (rk_o (l83_9) rfl rfl) (rk_s) H (SF_refl) (SA_refl)  (w83_71) (ew83_71) (show inr (x83_8) from j83_0) (show inr (0) from q_2) (show 0 ≤ (0) ∧ (0) ≤ posi ((sh ((w75)) ((a2))) ((x83_9))) by omega) (hPT0) (j83_5) (j83_6) rfl
              as_aux_lemma =>
              intro m
              induction m using Nat.strongRecOn with
              | _ m ih92 =>
                intro ls σ F_92 A_92 x92_8 x92_10 l92_0 l92_1 l92_2 l92_3 l92_4 l92_5 l92_6 l92_8 l92_9 l92_10 H hS_92 hA_92  w92_71 ew92_71 j92_0 j92_1 j92_2 j92_3 j92_4 j92_5 hm92
                refine Ew_of (pcₚ := 94) (fun _ => x_iload rfl l92_10) ?_
                refine Ew_of (pcₚ := 95) (fun _ => x_aload_n rfl l92_1) ?_
                refine Ew_of (pcₚ := 96) (fun _ => x_iload_n rfl l92_2) ?_
                refine Ew_of (pcₚ := 98) (fun _ => x_iload rfl l92_9) ?_
                refine w_iadd rfl ?_
                refine w_lI H (o := 75) (n := 64) rfl (H.perm 75 rfl) rfl rfl (H.fix 75 rfl rfl) (show 0 ≤ (a2 + x83_9) ∧ (a2 + x83_9) < ((64 : Nat) : Int) from q_2393 b4 h5 j83_2) (by decide) (fun v20 ev20 qv20 => ?_)
                have qv20 : (-2147483648 : Int) ≤ v20 ∧ v20 ≤ 2147483647 := qv20
                have ev20 : (w75) ((a2 + x83_9)) = v20 := (congrFun ((funext (hA_92 75 rfl)).trans ((funext (hA_83 75 rfl)).trans ((funext (hA_40 75 rfl)).trans ((funext (hA_9 75 rfl)).trans (ew75))))) ((a2 + x83_9))).symm.trans ev20
                refine w_icmpge (t := 157) rfl rfl (show inr (x92_10) from j92_1) (show inr (v20) from q_18 qv20) (fun b21 => ?_) (fun b21 => ?_)
                · have hk0 : (x92_10) = posi ((sh ((w75)) ((a2))) ((x83_9))) := by omega
                  have hptn : PT (sh ((w75)) ((a2))) (a3) (a4) (sh ((w92_71)) ((a5))) ((x92_8)) (cum (sh ((w75)) ((a2))) ((x83_9) + 1)) := by rw [hcs, ← hk0]; assumption
                  have hcbn : CB (sh ((w75)) ((a2))) (a3) (a4) (sh ((w92_71)) ((a5))) ((x83_9) + 1) 0 := CB_next (by assumption) rfl hk0
                  refine Ew_of (pcₚ := 158) (fun _ => x_aload_n rfl l92_0) ?_
                  refine w_gT H (o := 6) (t := 74) rfl (H.perm 6 rfl) rfl rfl rfl rfl rfl rfl ?_
                  refine Ew_of (pcₚ := 163) (fun _ => x_iload rfl l92_9) ?_
                  refine Ew_of (pcₚ := 164) (fun _ => x_aload_n rfl l92_1) ?_
                  refine Ew_of (pcₚ := 165) (fun _ => x_iload_n rfl l92_2) ?_
                  refine Ew_of (pcₚ := 167) (fun _ => x_iload rfl l92_9) ?_
                  refine w_iadd rfl ?_
                  refine w_lI H (o := 75) (n := 64) rfl (H.perm 75 rfl) rfl rfl (H.fix 75 rfl rfl) (show 0 ≤ (a2 + x83_9) ∧ (a2 + x83_9) < ((64 : Nat) : Int) from q_2393 b4 h5 j83_2) (by decide) (fun v22 ev22 qv22 => ?_)
                  have qv22 : (-2147483648 : Int) ≤ v22 ∧ v22 ≤ 2147483647 := qv22
                  have ev22 : (w75) ((a2 + x83_9)) = v22 := (congrFun ((funext (hA_92 75 rfl)).trans ((funext (hA_83 75 rfl)).trans ((funext (hA_40 75 rfl)).trans ((funext (hA_9 75 rfl)).trans (ew75))))) ((a2 + x83_9))).symm.trans ev22
                  refine w_stat24 rfl rfl (by rfl) (M406 H (show inr (v22) from q_18 qv22) (show -1 ≤ (v22) by omega) (fun z27 σ F23 A24 H hS25 hA26 pz27_0 pz27_1 => ⟨rfl, ?_⟩))
                  have : ∀ i, 0 ≤ i → i < (x83_9) + 1 → (upd1 ((w83_74)) ((x83_9)) ((z27))) i = mass ((sh ((w75)) ((a2))) i) := pt_upd (by assumption) (by rw [pz27_1]; congr 1; omega)
                  refine w_sI H (o := 74) (n := 64) rfl (H.perm 74 rfl) rfl rfl (H.fix 74 rfl rfl) (show 0 ≤ x83_9 ∧ x83_9 < ((64 : Nat) : Int) from q_2394 b4 h5 j83_2) (by decide) (show (-2147483648 : Int) ≤ z27 ∧ z27 ≤ 2147483647 from q_31 pz27_0) (fun σ H => ?_)
                  refine Ew_of (pcₚ := 176) (fun _ => x_iinc (len := 3) rfl (l92_9)) ?_
                  refine Ew_of (pcₚ := 83) (fun _ => x_goto rfl rfl) ?_
                  exact ih83 _ (msE hm83 q_16 (q_17 b4)) _ σ _ _ (x92_8) ((x83_9 + 1)) (rk_o (l92_0) rfl rfl) (rk_o (l92_1) rfl rfl) (rk_o (l92_2) rfl rfl) (rk_o (l92_3) rfl rfl) (rk_o (l92_4) rfl rfl) (rk_o (l92_5) rfl rfl) (rk_o (l92_6) rfl rfl) (rk_o (l92_8) rfl rfl) (rk_s) H (SF_trans (SF_trans (hS_83) hS_92 (any_sub rfl)) hS25 (any_sub rfl)) (SA_upd (SA_trans (SA_trans (hA_83) hA_92 (any_subA rfl)) hA26 (any_subA rfl)) rfl)  (w92_71) ((funext (hA26 71 rfl)).trans (ew92_71)) (upd1 (w83_74) (x83_9) (z27)) (congrArg (fun q => upd1 q (x83_9) (z27)) ((funext (hA26 74 rfl)).trans ((funext (hA_92 74 rfl)).trans (ew83_74)))) (show inr (x92_8) from j92_0) (show inr ((x83_9 + 1)) from q_2395 b4 h5 j83_2) (show (0) ≤ ((x83_9 + 1)) from q_14 j83_2) (show ((x83_9 + 1)) ≤ (0) ∨ ((x83_9 + 1)) ≤ ((a3)) from q_13 b4) (hptn) (hcbn) (j92_5) (show ∀ i, 0 ≤ i → i < ((x83_9 + 1)) → ((upd1 (w83_74) (x83_9) (z27))) i = mass ((sh ((w75)) ((a2))) i) by assumption) rfl
                · obtain ⟨m0, hm0⟩ := PTI_of (j92_3)
                  suffices hl103 : ∀ (m : Nat), ∀ (ls : rO) (σ : rS) (F_103 : hF) (A_103 : hA) (x103_8 : Int), rlook ls 0 = some (.ref (D 6)) → rlook ls 1 = some (.ref (D 75)) → rlook ls 2 = some (I (a2)) → rlook ls 3 = some (I (a3)) → rlook ls 4 = some (I (a4)) → rlook ls 5 = some (I (a5)) → rlook ls 6 = some (I (p2 (a4))) → rlook ls 8 = some (I (x103_8)) → rlook ls 9 = some (I (x83_9)) → rlook ls 10 = some (I (x92_10)) → HS σ0 σ D N F_103 A_103 → SF [] F_92 F_103 → SA [] A_92 A_103 → (inr (x103_8)) → (PTI (sh ((w75)) ((a2))) (a3) (a4) (sh ((w92_71)) ((a5))) ((x103_8)) (cum (sh ((w75)) ((a2))) ((x83_9)) + (x92_10)) (p2 ((a4)) - m)) → Ew 407 (d + 1) 103 ls [] σ c s Q from
                    hl103 (m0) _ σ _ _ (x92_8) (l92_0) (l92_1) (l92_2) (l92_3) (l92_4) (l92_5) (l92_6) (l92_8) (l92_9) (l92_10) H (SF_refl) (SA_refl)   (show inr (x92_8) from j92_0) (by assumption)
                  as_aux_lemma =>
                  intro m
                  induction m using Nat.strongRecOn with
                  | _ m ih103 =>
                    intro ls σ F_103 A_103 x103_8 l103_0 l103_1 l103_2 l103_3 l103_4 l103_5 l103_6 l103_8 l103_9 l103_10 H hS_103 hA_103   j103_0 hm103
                    have hrg := PTI_rng (hm103)
                    have hse : (sh ((w92_71)) ((a5))) ((x103_8)) = ((w92_71)) ((a5) + (x103_8)) := rfl
                    refine Ew_of (pcₚ := 104) (fun _ => x_aload_n rfl l103_0) ?_
                    refine w_gT H (o := 6) (t := 71) rfl (H.perm 6 rfl) rfl rfl rfl rfl rfl rfl ?_
                    refine Ew_of (pcₚ := 109) (fun _ => x_iload rfl l103_5) ?_
                    refine Ew_of (pcₚ := 111) (fun _ => x_iload rfl l103_8) ?_
                    refine w_iadd rfl ?_
                    refine w_lI H (o := 71) (n := 2048) rfl (H.perm 71 rfl) rfl rfl (H.fix 71 rfl rfl) (show 0 ≤ (a5 + x103_8) ∧ (a5 + x103_8) < ((2048 : Nat) : Int) by omega) (by decide) (fun v28 ev28 qv28 => ?_)
                    have qv28 : (-1 : Int) ≤ v28 ∧ v28 ≤ 63 := qv28
                    have ev28 : (w92_71) ((a5 + x103_8)) = v28 := (congrFun ((funext (hA_103 71 rfl)).trans (ew92_71)) ((a5 + x103_8))).symm.trans ev28
                    refine w_iflt (t := 139) rfl rfl (show inr (v28) from q_1316 qv28) (fun b29 => ?_) (fun b29 => ?_)
                    · have : FRM ((w71)) (upd1 ((w92_71)) ((a5) + (x103_8)) ((x83_9))) (a5) ((a5) + p2 ((a4))) := FRM_upd (by assumption) (by omega) (by omega)
                      have hpt := PTI_PT (hm103)
                      have hfr := PT_free h59 hpt (by omega)
                      have hpt2 : PT (sh ((w75)) ((a2))) (a3) (a4) (sh (upd1 ((w92_71)) ((a5) + (x103_8)) ((x83_9))) ((a5))) ((x103_8)) (cum (sh ((w75)) ((a2))) ((x83_9)) + ((x92_10) + 1)) := by rw [sh_upd, ← Int.add_assoc]; exact PT_put h59 hpt (by omega) (by omega) (by omega) (by omega) (by omega)
                      have hcb2 : CB (sh ((w75)) ((a2))) (a3) (a4) (sh (upd1 ((w92_71)) ((a5) + (x103_8)) ((x83_9))) ((a5))) ((x83_9)) ((x92_10) + 1) := by rw [sh_upd]; exact CB_put (by assumption) rfl (by omega) (by omega) (by omega) hfr
                      refine Ew_of (pcₚ := 140) (fun _ => x_aload_n rfl l103_0) ?_
                      refine w_gT H (o := 6) (t := 71) rfl (H.perm 6 rfl) rfl rfl rfl rfl rfl rfl ?_
                      refine Ew_of (pcₚ := 145) (fun _ => x_iload rfl l103_5) ?_
                      refine Ew_of (pcₚ := 147) (fun _ => x_iload rfl l103_8) ?_
                      refine w_iadd rfl ?_
                      refine Ew_of (pcₚ := 150) (fun _ => x_iload rfl l103_9) ?_
                      refine w_sI H (o := 71) (n := 2048) rfl (H.perm 71 rfl) rfl rfl (H.fix 71 rfl rfl) (show 0 ≤ (a5 + x103_8) ∧ (a5 + x103_8) < ((2048 : Nat) : Int) by omega) (by decide) (show (-1 : Int) ≤ x83_9 ∧ x83_9 ≤ 63 from q_2396 b4 h5 j83_2) (fun σ H => ?_)
                      refine Ew_of (pcₚ := 154) (fun _ => x_iinc (len := 3) rfl (l103_10)) ?_
                      refine Ew_of (pcₚ := 92) (fun _ => x_goto rfl rfl) ?_
                      exact ih92 _ (msE hm92 q_16 (q_194 b21 ev20)) _ σ _ _ (x103_8) ((x92_10 + 1)) (rk_o (l103_0) rfl rfl) (rk_o (l103_1) rfl rfl) (rk_o (l103_2) rfl rfl) (rk_o (l103_3) rfl rfl) (rk_o (l103_4) rfl rfl) (rk_o (l103_5) rfl rfl) (rk_o (l103_6) rfl rfl) (rk_o (l103_8) rfl rfl) (rk_o (l103_9) rfl rfl) (rk_s) H (SF_trans (hS_92) hS_103 (any_sub rfl)) (SA_upd (SA_trans (hA_92) hA_103 (any_subA rfl)) rfl)  (upd1 (w92_71) ((a5 + x103_8)) (x83_9)) (congrArg (fun q => upd1 q ((a5 + x103_8)) (x83_9)) ((funext (hA_103 71 rfl)).trans (ew92_71))) (show inr (x103_8) from j103_0) (show inr ((x92_10 + 1)) by omega) (show 0 ≤ ((x92_10 + 1)) ∧ ((x92_10 + 1)) ≤ posi ((sh ((w75)) ((a2))) ((x83_9))) by omega) (hpt2) (hcb2) (show FRM ((w71)) ((upd1 (w92_71) ((a5 + x103_8)) (x83_9))) (a5) ((a5) + p2 ((a4))) by assumption) rfl
                    · refine Ew_of (pcₚ := 118) (fun _ => x_iload rfl l103_8) ?_
                      refine Ew_of (pcₚ := 120) (fun _ => x_iload rfl l103_6) ?_
                      refine Ew_of (pcₚ := 121) (fun _ => x_iconst rfl) ?_
                      refine w_idiv rfl (show inr (p2 (a4)) ∧ 0 ≤ p2 (a4) from q_2397 h6 j40_5) (show inr (2) ∧ 0 < 2 from q_1234) ?_
                      refine w_iadd rfl ?_
                      refine Ew_of (pcₚ := 125) (fun _ => x_iload rfl l103_6) ?_
                      refine Ew_of (pcₚ := 127) (fun _ => x_bipush (z := 8) rfl (by decide)) ?_
                      refine w_idiv rfl (show inr (p2 (a4)) ∧ 0 ≤ p2 (a4) from q_2397 h6 j40_5) (show inr (8) ∧ 0 < 8 from q_1054) ?_
                      refine w_iadd rfl ?_
                      refine Ew_of (pcₚ := 130) (fun _ => x_iconst rfl) ?_
                      refine w_iadd rfl ?_
                      refine Ew_of (pcₚ := 133) (fun _ => x_iload rfl l103_6) ?_
                      refine w_irem rfl (show inr ((((x103_8 + (p2 (a4) / 2)) + (p2 (a4) / 8)) + 3)) ∧ 0 ≤ (((x103_8 + (p2 (a4) / 2)) + (p2 (a4) / 8)) + 3) by omega) (show inr (p2 (a4)) ∧ 0 < p2 (a4) by omega) ?_
                      refine Ew_of (pcₚ := 136) (fun _ => x_istore rfl) ?_
                      refine Ew_of (pcₚ := 103) (fun _ => x_goto rfl rfl) ?_
                      have hfm := PTI_next (pₚ := (((((x103_8 + (p2 (a4) / 2)) + (p2 (a4) / 8)) + 3) % p2 (a4)))) h59 (by omega) (show PTI (sh ((w75)) ((a2))) (a3) (a4) (sh ((w92_71)) ((a5))) _ (cum (sh ((w75)) ((a2))) ((x83_9)) + (x92_10)) (p2 ((a4)) - m) from by assumption) (by omega) (by omega) (by congr 1; omega)
                      have := hfm.1
                      have := hfm.2
                      have hrg2 := PTI_rng hfm.2
                      exact ih103 (m - 1) (by omega) _ σ _ _ (((((x103_8 + (p2 (a4) / 2)) + (p2 (a4) / 8)) + 3) % p2 (a4))) (rk_o (l103_0) rfl rfl) (rk_o (l103_1) rfl rfl) (rk_o (l103_2) rfl rfl) (rk_o (l103_3) rfl rfl) (rk_o (l103_4) rfl rfl) (rk_o (l103_5) rfl rfl) (rk_o (l103_6) rfl rfl) (rk_s) (rk_o (l103_9) rfl rfl) (rk_o (l103_10) rfl rfl) H (hS_103) (hA_103)   (show inr (((((x103_8 + (p2 (a4) / 2)) + (p2 (a4) / 8)) + 3) % p2 (a4))) by omega) (by assumption)
        · have hle := SH_le ((x40_8)) hsh (by omega) (by omega)
          have hns := ngs_s (P := sh ((w75)) ((a2))) (s := (x40_8)) (by omega)
          have hne := neg1_eq ((sh ((w75)) ((a2))) ((x40_8)))
          have hpe : (sh ((w75)) ((a2))) ((x40_8)) = ((w75)) ((a2) + (x40_8)) := rfl
          have hnm := ngs_mono (P := sh ((w75)) ((a2))) (s := (x40_8) + 1) (t := (a3)) (by omega) (by omega)
          have j40_n : ∀ s, 0 ≤ s → s < (x40_8) → (sh ((w75)) ((a2))) s < 0 → (sh ((w40_71)) ((a5))) (p2 ((a4)) - 1 - ngs (sh ((w75)) ((a2))) s) = s := by assumption
          have j40_m : ∀ k, 0 ≤ k → k < (x40_7) → (sh ((w40_71)) ((a5))) k = -1 := by assumption
          have j40_c : CA (sh ((w75)) ((a2))) (a3) (a4) (sh ((w40_71)) ((a5))) ((x40_8)) := j40_8
          refine Ew_of (pcₚ := 47) (fun _ => x_aload_n rfl l40_1) ?_
          refine Ew_of (pcₚ := 48) (fun _ => x_iload_n rfl l40_2) ?_
          refine Ew_of (pcₚ := 50) (fun _ => x_iload rfl l40_8) ?_
          refine w_iadd rfl ?_
          refine w_lI H (o := 75) (n := 64) rfl (H.perm 75 rfl) rfl rfl (H.fix 75 rfl rfl) (show 0 ≤ (a2 + x40_8) ∧ (a2 + x40_8) < ((64 : Nat) : Int) from q_2393 b3 h5 j40_2) (by decide) (fun v30 ev30 qv30 => ?_)
          have qv30 : (-2147483648 : Int) ≤ v30 ∧ v30 ≤ 2147483647 := qv30
          have ev30 : (w75) ((a2 + x40_8)) = v30 := (congrFun ((funext (hA_40 75 rfl)).trans ((funext (hA_9 75 rfl)).trans (ew75))) ((a2 + x40_8))).symm.trans ev30
          refine Ew_of (pcₚ := 53) (fun _ => x_iconst rfl) ?_
          refine w_icmpne (t := 71) rfl rfl (show inr (v30) from q_18 qv30) (show inr ((-1)) from q_63) (fun b31 => ?_) (fun b31 => ?_)
          · refine Ew_of (pcₚ := 74) (fun _ => x_iinc (len := 3) rfl (l40_8)) ?_
            refine Ew_of (pcₚ := 40) (fun _ => x_goto rfl rfl) ?_
            have : CA (sh ((w75)) ((a2))) (a3) (a4) (sh ((w40_71)) ((a5))) (((x40_8 + 1))) := by first | assumption | exact CA_skip j40_c rfl (by omega)
            have : ∀ s, 0 ≤ s → s < ((x40_8 + 1)) → (sh ((w75)) ((a2))) s < 0 → (sh ((w40_71)) ((a5))) (p2 ((a4)) - 1 - ngs (sh ((w75)) ((a2))) s) = s := by first | assumption | exact (fun s a b c => by by_cases e : s = ((x40_8 + 1)) - 1; (rw [e] at c; rw [show ((x40_8 + 1)) - 1 = x40_8 by omega] at c; omega); exact j40_n s a (by omega) c)
            have : ∀ k, 0 ≤ k → k < (x40_7) → (sh ((w40_71)) ((a5))) k = -1 := by assumption
            exact ih40 _ (msE hm40 q_16 (q_17 b3)) _ σ _ _ (x40_7) ((x40_8 + 1)) (rk_o (l40_0) rfl rfl) (rk_o (l40_1) rfl rfl) (rk_o (l40_2) rfl rfl) (rk_o (l40_3) rfl rfl) (rk_o (l40_4) rfl rfl) (rk_o (l40_5) rfl rfl) (rk_o (l40_6) rfl rfl) (rk_o (l40_7) rfl rfl) (rk_s) H (hS_40) (hA_40)  (w40_71) (ew40_71) (show inr (x40_7) from j40_0) (show inr ((x40_8 + 1)) from q_2395 b3 h5 j40_2) (show (0) ≤ ((x40_8 + 1)) from q_14 j40_2) (show ((x40_8 + 1)) ≤ (0) ∨ ((x40_8 + 1)) ≤ ((a3)) from q_13 b3) (show (x40_7) = p2 ((a4)) - ngs (sh ((w75)) ((a2))) (((x40_8 + 1))) by omega) (show 0 ≤ (x40_7) ∧ (x40_7) ≤ p2 ((a4)) from j40_5) (show ∀ s, 0 ≤ s → s < ((x40_8 + 1)) → (sh ((w75)) ((a2))) s < 0 → (sh ((w40_71)) ((a5))) (p2 ((a4)) - 1 - ngs (sh ((w75)) ((a2))) s) = s by assumption) (j40_m) (show CA (sh ((w75)) ((a2))) (a3) (a4) (sh ((w40_71)) ((a5))) (((x40_8 + 1))) by assumption) (j40_9) rfl
          · refine Ew_of (pcₚ := 59) (fun _ => x_iinc (len := 3) rfl (l40_7)) ?_
            refine Ew_of (pcₚ := 60) (fun _ => x_aload_n rfl (rk_o (l40_0) rfl rfl)) ?_
            have : FRM ((w71)) (upd1 ((w40_71)) ((a5) + ((x40_7 + (-1)))) ((x40_8))) (a5) ((a5) + p2 ((a4))) := FRM_upd (by assumption) (by omega) (by omega)
            have hpp : (sh ((w40_71)) ((a5))) (((x40_7 + (-1)))) = -1 := j40_m (((x40_7 + (-1)))) (by omega) (by omega)
            have hlt : (sh ((w75)) ((a2))) ((x40_8)) < 0 := q_1319 b31 ev30 hpe
            have hc2 : CA (sh ((w75)) ((a2))) (a3) (a4) (sh (upd1 ((w40_71)) ((a5) + ((x40_7 + (-1)))) ((x40_8))) ((a5))) ((x40_8) + 1) := by rw [sh_upd]; exact CA_neg j40_c rfl hlt (by omega) (by omega) hpp
            have hn2 : ∀ s, 0 ≤ s → s < (x40_8) + 1 → (sh ((w75)) ((a2))) s < 0 → (sh (upd1 ((w40_71)) ((a5) + ((x40_7 + (-1)))) ((x40_8))) ((a5))) (p2 ((a4)) - 1 - ngs (sh ((w75)) ((a2))) s) = s := fun s a b c => by rw [sh_upd]; by_cases e : s = (x40_8); (rw [e, show p2 ((a4)) - 1 - ngs (sh ((w75)) ((a2))) ((x40_8)) = ((x40_7 + (-1))) by omega, upd1_s]); (have hm := ngs_mono (P := sh ((w75)) ((a2))) (s := s + 1) (t := (x40_8)) (by omega) (by omega); have hs := ngs_s (P := sh ((w75)) ((a2))) (s := s) (by omega); have hq := neg1_eq ((sh ((w75)) ((a2))) s); rw [upd1_o (by omega)]; exact j40_n s a (by omega) c)
            have hm2 : ∀ k, 0 ≤ k → k < ((x40_7 + (-1))) → (sh (upd1 ((w40_71)) ((a5) + ((x40_7 + (-1)))) ((x40_8))) ((a5))) k = -1 := fun k a b => by rw [sh_upd, upd1_o (by omega)]; exact j40_m k a (by omega)
            refine w_gT H (o := 6) (t := 71) rfl (H.perm 6 rfl) rfl rfl rfl rfl rfl rfl ?_
            refine Ew_of (pcₚ := 65) (fun _ => x_iload rfl (rk_o (l40_5) rfl rfl)) ?_
            refine Ew_of (pcₚ := 67) (fun _ => x_iload rfl rk_s) ?_
            refine w_iadd rfl ?_
            refine Ew_of (pcₚ := 70) (fun _ => x_iload rfl (rk_o (l40_8) rfl rfl)) ?_
            refine w_sI H (o := 71) (n := 2048) rfl (H.perm 71 rfl) rfl rfl (H.fix 71 rfl rfl) (show 0 ≤ (a5 + (x40_7 + (-1))) ∧ (a5 + (x40_7 + (-1))) < ((2048 : Nat) : Int) by omega) (by decide) (show (-1 : Int) ≤ x40_8 ∧ x40_8 ≤ 63 from q_2396 b3 h5 j40_2) (fun σ H => ?_)
            refine Ew_of (pcₚ := 74) (fun _ => x_iinc (len := 3) rfl (rk_o (l40_8) rfl rfl)) ?_
            refine Ew_of (pcₚ := 40) (fun _ => x_goto rfl rfl) ?_
            have : CA (sh ((w75)) ((a2))) (a3) (a4) (sh ((upd1 (w40_71) ((a5 + (x40_7 + (-1)))) (x40_8))) ((a5))) (((x40_8 + 1))) := by first | assumption | exact CA_skip j40_c rfl (by omega)
            have : ∀ s, 0 ≤ s → s < ((x40_8 + 1)) → (sh ((w75)) ((a2))) s < 0 → (sh ((upd1 (w40_71) ((a5 + (x40_7 + (-1)))) (x40_8))) ((a5))) (p2 ((a4)) - 1 - ngs (sh ((w75)) ((a2))) s) = s := by first | assumption | exact (fun s a b c => by by_cases e : s = ((x40_8 + 1)) - 1; (rw [e] at c; rw [show ((x40_8 + 1)) - 1 = x40_8 by omega] at c; omega); exact j40_n s a (by omega) c)
            have : ∀ k, 0 ≤ k → k < ((x40_7 + (-1))) → (sh ((upd1 (w40_71) ((a5 + (x40_7 + (-1)))) (x40_8))) ((a5))) k = -1 := by assumption
            exact ih40 _ (msE hm40 q_16 (q_17 b3)) _ σ _ _ ((x40_7 + (-1))) ((x40_8 + 1)) (rk_o (rk_o (l40_0) rfl rfl) rfl rfl) (rk_o (rk_o (l40_1) rfl rfl) rfl rfl) (rk_o (rk_o (l40_2) rfl rfl) rfl rfl) (rk_o (rk_o (l40_3) rfl rfl) rfl rfl) (rk_o (rk_o (l40_4) rfl rfl) rfl rfl) (rk_o (rk_o (l40_5) rfl rfl) rfl rfl) (rk_o (rk_o (l40_6) rfl rfl) rfl rfl) (rk_o (rk_s) rfl rfl) (rk_s) H (hS_40) (SA_upd (hA_40) rfl)  (upd1 (w40_71) ((a5 + (x40_7 + (-1)))) (x40_8)) (congrArg (fun q => upd1 q ((a5 + (x40_7 + (-1)))) (x40_8)) (ew40_71)) (show inr ((x40_7 + (-1))) from q_1320 j40_0 j40_5) (show inr ((x40_8 + 1)) from q_2395 b3 h5 j40_2) (show (0) ≤ ((x40_8 + 1)) from q_14 j40_2) (show ((x40_8 + 1)) ≤ (0) ∨ ((x40_8 + 1)) ≤ ((a3)) from q_13 b3) (show ((x40_7 + (-1))) = p2 ((a4)) - ngs (sh ((w75)) ((a2))) (((x40_8 + 1))) by omega) (show 0 ≤ ((x40_7 + (-1))) ∧ ((x40_7 + (-1))) ≤ p2 ((a4)) by omega) (hn2) (hm2) (hc2) (show FRM ((w71)) ((upd1 (w40_71) ((a5 + (x40_7 + (-1)))) (x40_8))) (a5) ((a5) + p2 ((a4))) by assumption) rfl
    · have : FRM ((w71)) (upd1 ((w9_71)) ((a5) + (x9_7)) (-1)) (a5) ((a5) + p2 ((a4))) := FRM_upd (by assumption) (by omega) (by omega)
      refine Ew_of (pcₚ := 17) (fun _ => x_aload_n rfl l9_0) ?_
      refine w_gT H (o := 6) (t := 71) rfl (H.perm 6 rfl) rfl rfl rfl rfl rfl rfl ?_
      refine Ew_of (pcₚ := 22) (fun _ => x_iload rfl l9_5) ?_
      refine Ew_of (pcₚ := 24) (fun _ => x_iload rfl l9_7) ?_
      refine w_iadd rfl ?_
      refine Ew_of (pcₚ := 26) (fun _ => x_iconst rfl) ?_
      refine w_sI H (o := 71) (n := 2048) rfl (H.perm 71 rfl) rfl rfl (H.fix 71 rfl rfl) (show 0 ≤ (a5 + x9_7) ∧ (a5 + x9_7) < ((2048 : Nat) : Int) from q_2389 b2 h6 j9_1) (by decide) (show (-1 : Int) ≤ (-1) ∧ (-1) ≤ 63 from q_1321) (fun σ H => ?_)
      refine Ew_of (pcₚ := 30) (fun _ => x_iinc (len := 3) rfl (l9_7)) ?_
      refine Ew_of (pcₚ := 9) (fun _ => x_goto rfl rfl) ?_
      have : ∀ k, (0 : Int) ≤ k → k < ((x9_7 + 1)) → ((upd1 (w9_71) ((a5 + x9_7)) ((-1)))) ((a5) + k) = -1 := fill_upd j9_3
      exact ih9 _ (msE hm9 q_16 (q_17 b2)) _ σ _ _ ((x9_7 + 1)) (rk_o (l9_0) rfl rfl) (rk_o (l9_1) rfl rfl) (rk_o (l9_2) rfl rfl) (rk_o (l9_3) rfl rfl) (rk_o (l9_4) rfl rfl) (rk_o (l9_5) rfl rfl) (rk_o (l9_6) rfl rfl) (rk_s) H (hS_9) (SA_upd (hA_9) rfl)  (upd1 (w9_71) ((a5 + x9_7)) ((-1))) (congrArg (fun q => upd1 q ((a5 + x9_7)) ((-1))) (ew9_71)) (show inr ((x9_7 + 1)) from q_2392 b2 h6 j9_1) (show (0) ≤ ((x9_7 + 1)) from q_14 j9_1) (show ((x9_7 + 1)) ≤ (0) ∨ ((x9_7 + 1)) ≤ ((p2 (a4))) from q_13 b2) (show ∀ k, 0 ≤ k → k < ((x9_7 + 1)) → ((upd1 (w9_71) ((a5 + x9_7)) ((-1)))) ((a5) + k) = -1 by assumption) (show FRM ((w71)) ((upd1 (w9_71) ((a5 + x9_7)) ((-1)))) (a5) ((a5) + p2 ((a4))) by assumption) rfl

theorem M407_54 {σ0 σ : rS} {D N : Nat → Nat} {F : hF} {A : hA} {d c s : Nat} {Q : wQ} (H : HS σ0 σ D N F A) {a2 a3 a4 a5 : Int} (w54 : Int → Int) (ew54 : A 54 = w54) (w71 : Int → Int) (ew71 : A 71 = w71) (w72 : Int → Int) (ew72 : A 72 = w72) (w73 : Int → Int) (ew73 : A 73 = w73) (lst : Int) (h0 : inr (a2)) (h1 : inr (a3)) (h2 : inr (a4)) (h3 : inr (a5)) (h4 : SH ((w54)) (a2) (a3) (a4) lst) (h5 : 0 ≤ (a2) ∧ 1 ≤ (a3) ∧ (a3) ≤ 64 ∧ (a2) + (a3) ≤ 192) (h6 : 0 ≤ (a5) ∧ (a5) + p2 ((a4)) ≤ 2048) (k : ∀ σ Fₚ Aₚ, HS σ0 σ D N Fₚ Aₚ → SF [] F Fₚ → SA [71, 72, 73, 74] A Aₚ → ∀ v71 : Int → Int, Aₚ 71 = v71 → ∀ v72 : Int → Int, Aₚ 72 = v72 → ∀ v73 : Int → Int, Aₚ 73 = v73 → (LD (sh ((w54)) ((a2))) (a3) (a4) (sh ((v71)) ((a5))) (sh ((v72)) ((a5))) (sh ((v73)) ((a5)))) → (TI ((v71)) ((v72)) ((v73)) (a5) (a4) lst) → (FRM ((w71)) ((v71)) (a5) ((a5) + p2 ((a4)))) → (FRM ((w72)) ((v72)) (a5) ((a5) + p2 ((a4)))) → (FRM ((w73)) ((v73)) (a5) ((a5) + p2 ((a4)))) → Q none σ c s) : Ew 407 (d + 1) 0 (rargs 0 [.ref (D 6), .ref (D 54), I a2, I a3, I a4, I a5]) [] σ c s Q := by
  have hsh : SH ((w54)) (a2) (a3) (a4) lst := h4
  have h59 : 5 ≤ (a4) ∧ (a4) ≤ 9 := ⟨hsh.1, hsh.2.1⟩
  have hp5 := p2_5 h59
  have hng := ngs_mono (P := sh ((w54)) ((a2))) (s := 0) (t := (a3)) (by omega) (by omega)
  have hn0 : ngs (sh ((w54)) ((a2))) 0 = 0 := rfl
  have hc0 : cum (sh ((w54)) ((a2))) 0 = 0 := rfl
  have hsp : ngs (sh ((w54)) ((a2))) ((a3)) + cum (sh ((w54)) ((a2))) ((a3)) = p2 ((a4)) := SH_parts hsh
  have hcm := cum_mono (P := sh ((w54)) ((a2))) (s := 0) (t := (a3)) (by omega) (by omega)
  refine Ew_of (pcₚ := 1) (fun _ => x_iconst rfl) ?_
  refine Ew_of (pcₚ := 3) (fun _ => x_iload rfl rfl) ?_
  refine w_ishl1 rfl (show 0 ≤ a4 ∧ a4 ≤ 31 from q_1303 h59) ?_
  refine Ew_of (pcₚ := 6) (fun _ => x_istore rfl) ?_
  refine Ew_of (pcₚ := 7) (fun _ => x_iconst rfl) ?_
  refine Ew_of (pcₚ := 9) (fun _ => x_istore rfl) ?_
  have : FRM ((w71)) ((w71)) (a5) ((a5) + p2 ((a4))) := FRM_refl
  have : ∀ k, (0 : Int) ≤ k → k < 0 → ((w71)) ((a5) + k) = -1 := fun k a b => absurd b (by omega)
  suffices hl9 : ∀ (m : Nat), ∀ (ls : rO) (σ : rS) (F_9 : hF) (A_9 : hA) (x9_7 : Int), rlook ls 0 = some (.ref (D 6)) → rlook ls 1 = some (.ref (D 54)) → rlook ls 2 = some (I (a2)) → rlook ls 3 = some (I (a3)) → rlook ls 4 = some (I (a4)) → rlook ls 5 = some (I (a5)) → rlook ls 6 = some (I (p2 (a4))) → rlook ls 7 = some (I (x9_7)) → HS σ0 σ D N F_9 A_9 → SF [] F F_9 → SA [71] A A_9 → ∀ w9_71 : Int → Int, A_9 71 = w9_71 → (inr (x9_7)) → ((0) ≤ (x9_7)) → ((x9_7) ≤ (0) ∨ (x9_7) ≤ ((p2 (a4)))) → (∀ k, 0 ≤ k → k < (x9_7) → ((w9_71)) ((a5) + k) = -1) → (FRM ((w71)) ((w9_71)) (a5) ((a5) + p2 ((a4)))) → (((p2 (a4))) - (x9_7)).toNat = m → Ew 407 (d + 1) 9 ls [] σ c s Q from
    hl9 _ _ σ _ _ (0) (rk_o (rk_o (rfl) rfl rfl) rfl rfl) (rk_o (rk_o (rfl) rfl rfl) rfl rfl) (rk_o (rk_o (rfl) rfl rfl) rfl rfl) (rk_o (rk_o (rfl) rfl rfl) rfl rfl) (rk_o (rk_o (rfl) rfl rfl) rfl rfl) (rk_o (rk_o (rfl) rfl rfl) rfl rfl) (rk_o (rk_s) rfl rfl) (rk_s) H (SF_refl) (SA_refl)  (w71) (ew71) (show inr (0) from q_2) (show (0) ≤ (0) from q_1) (show (0) ≤ (0) ∨ (0) ≤ ((p2 (a4))) from q_5) (show ∀ k, 0 ≤ k → k < (0) → ((w71)) ((a5) + k) = -1 by assumption) (show FRM ((w71)) ((w71)) (a5) ((a5) + p2 ((a4))) by assumption) rfl
  as_aux_lemma =>
  intro m
  induction m using Nat.strongRecOn with
  | _ m ih9 =>
    intro ls σ F_9 A_9 x9_7 l9_0 l9_1 l9_2 l9_3 l9_4 l9_5 l9_6 l9_7 H hS_9 hA_9  w9_71 ew9_71 j9_0 j9_1 j9_2 j9_3 j9_4 hm9
    refine Ew_of (pcₚ := 11) (fun _ => x_iload rfl l9_7) ?_
    refine Ew_of (pcₚ := 13) (fun _ => x_iload rfl l9_6) ?_
    refine w_icmpge (t := 33) rfl rfl (show inr (x9_7) from j9_0) (show inr (p2 (a4)) by omega) (fun b2 => ?_) (fun b2 => ?_)
    · have hm1 : ∀ k, 0 ≤ k → k < p2 ((a4)) → (sh ((w9_71)) ((a5))) k = -1 := fun k a b => j9_3 k a (by omega)
      have hcA : CA (sh ((w54)) ((a2))) (a3) (a4) (sh ((w9_71)) ((a5))) 0 := CA_0 hm1
      have hnf : ∀ s, 0 ≤ s → s < 0 → (sh ((w54)) ((a2))) s < 0 → (sh ((w9_71)) ((a5))) (p2 ((a4)) - 1 - ngs (sh ((w54)) ((a2))) s) = s := fun s a b => absurd b (by omega)
      refine Ew_of (pcₚ := 35) (fun _ => x_iload rfl l9_6) ?_
      refine Ew_of (pcₚ := 37) (fun _ => x_istore rfl) ?_
      refine Ew_of (pcₚ := 38) (fun _ => x_iconst rfl) ?_
      refine Ew_of (pcₚ := 40) (fun _ => x_istore rfl) ?_
      suffices hl40 : ∀ (m : Nat), ∀ (ls : rO) (σ : rS) (F_40 : hF) (A_40 : hA) (x40_7 : Int) (x40_8 : Int), rlook ls 0 = some (.ref (D 6)) → rlook ls 1 = some (.ref (D 54)) → rlook ls 2 = some (I (a2)) → rlook ls 3 = some (I (a3)) → rlook ls 4 = some (I (a4)) → rlook ls 5 = some (I (a5)) → rlook ls 6 = some (I (p2 (a4))) → rlook ls 7 = some (I (x40_7)) → rlook ls 8 = some (I (x40_8)) → HS σ0 σ D N F_40 A_40 → SF [] F_9 F_40 → SA [71] A_9 A_40 → ∀ w40_71 : Int → Int, A_40 71 = w40_71 → (inr (x40_7)) → (inr (x40_8)) → ((0) ≤ (x40_8)) → ((x40_8) ≤ (0) ∨ (x40_8) ≤ ((a3))) → ((x40_7) = p2 ((a4)) - ngs (sh ((w54)) ((a2))) ((x40_8))) → (0 ≤ (x40_7) ∧ (x40_7) ≤ p2 ((a4))) → (∀ s, 0 ≤ s → s < (x40_8) → (sh ((w54)) ((a2))) s < 0 → (sh ((w40_71)) ((a5))) (p2 ((a4)) - 1 - ngs (sh ((w54)) ((a2))) s) = s) → (∀ k, 0 ≤ k → k < (x40_7) → (sh ((w40_71)) ((a5))) k = -1) → (CA (sh ((w54)) ((a2))) (a3) (a4) (sh ((w40_71)) ((a5))) ((x40_8))) → (FRM ((w71)) ((w40_71)) (a5) ((a5) + p2 ((a4)))) → (((a3)) - (x40_8)).toNat = m → Ew 407 (d + 1) 40 ls [] σ c s Q from
        hl40 _ _ σ _ _ (p2 (a4)) (0) (rk_o (rk_o (l9_0) rfl rfl) rfl rfl) (rk_o (rk_o (l9_1) rfl rfl) rfl rfl) (rk_o (rk_o (l9_2) rfl rfl) rfl rfl) (rk_o (rk_o (l9_3) rfl rfl) rfl rfl) (rk_o (rk_o (l9_4) rfl rfl) rfl rfl) (rk_o (rk_o (l9_5) rfl rfl) rfl rfl) (rk_o (rk_o (l9_6) rfl rfl) rfl rfl) (rk_o (rk_s) rfl rfl) (rk_s) H (SF_refl) (SA_refl)  (w9_71) (ew9_71) (show inr (p2 (a4)) by omega) (show inr (0) from q_2) (show (0) ≤ (0) from q_1) (show (0) ≤ (0) ∨ (0) ≤ ((a3)) from q_5) (show (p2 (a4)) = p2 ((a4)) - ngs (sh ((w54)) ((a2))) ((0)) from q_1304 hn0) (show 0 ≤ (p2 (a4)) ∧ (p2 (a4)) ≤ p2 ((a4)) by omega) (hnf) (hm1) (hcA) (j9_4) rfl
      as_aux_lemma =>
      intro m
      induction m using Nat.strongRecOn with
      | _ m ih40 =>
        intro ls σ F_40 A_40 x40_7 x40_8 l40_0 l40_1 l40_2 l40_3 l40_4 l40_5 l40_6 l40_7 l40_8 H hS_40 hA_40  w40_71 ew40_71 j40_0 j40_1 j40_2 j40_3 j40_4 j40_5 j40_6 j40_7 j40_8 j40_9 hm40
        refine Ew_of (pcₚ := 42) (fun _ => x_iload rfl l40_8) ?_
        refine Ew_of (pcₚ := 43) (fun _ => x_iload_n rfl l40_3) ?_
        refine w_icmpge (t := 77) rfl rfl (show inr (x40_8) from j40_1) (show inr (a3) from h1) (fun b3 => ?_) (fun b3 => ?_)
        · have hne3 : ngs (sh ((w54)) ((a2))) ((x40_8)) = ngs (sh ((w54)) ((a2))) ((a3)) := by rw [show (x40_8) = (a3) by omega]
          have hPT : PT (sh ((w54)) ((a2))) (a3) (a4) (sh ((w40_71)) ((a5))) 0 (cum (sh ((w54)) ((a2))) 0) := by rw [hc0]; exact PT_start (by omega) (fun s a b c => (j40_6) s a (by omega) c) (fun k a b => (j40_7) k a (by omega))
          have hCB : CB (sh ((w54)) ((a2))) (a3) (a4) (sh ((w40_71)) ((a5))) 0 0 := CB_0 (j40_8) (by omega)
          have : ∀ i, (0 : Int) ≤ i → i < 0 → ((A 74)) i = mass ((sh ((w54)) ((a2))) i) := fun i a b => absurd b (by omega)
          refine Ew_of (pcₚ := 78) (fun _ => x_iconst rfl) ?_
          refine Ew_of (pcₚ := 80) (fun _ => x_istore rfl) ?_
          refine Ew_of (pcₚ := 81) (fun _ => x_iconst rfl) ?_
          refine Ew_of (pcₚ := 83) (fun _ => x_istore rfl) ?_
          suffices hl83 : ∀ (m : Nat), ∀ (ls : rO) (σ : rS) (F_83 : hF) (A_83 : hA) (x83_8 : Int) (x83_9 : Int), rlook ls 0 = some (.ref (D 6)) → rlook ls 1 = some (.ref (D 54)) → rlook ls 2 = some (I (a2)) → rlook ls 3 = some (I (a3)) → rlook ls 4 = some (I (a4)) → rlook ls 5 = some (I (a5)) → rlook ls 6 = some (I (p2 (a4))) → rlook ls 8 = some (I (x83_8)) → rlook ls 9 = some (I (x83_9)) → HS σ0 σ D N F_83 A_83 → SF [] F_40 F_83 → SA [71, 74] A_40 A_83 → ∀ w83_71 : Int → Int, A_83 71 = w83_71 → ∀ w83_74 : Int → Int, A_83 74 = w83_74 → (inr (x83_8)) → (inr (x83_9)) → ((0) ≤ (x83_9)) → ((x83_9) ≤ (0) ∨ (x83_9) ≤ ((a3))) → (PT (sh ((w54)) ((a2))) (a3) (a4) (sh ((w83_71)) ((a5))) ((x83_8)) (cum (sh ((w54)) ((a2))) ((x83_9)))) → (CB (sh ((w54)) ((a2))) (a3) (a4) (sh ((w83_71)) ((a5))) ((x83_9)) 0) → (FRM ((w71)) ((w83_71)) (a5) ((a5) + p2 ((a4)))) → (∀ i, 0 ≤ i → i < (x83_9) → ((w83_74)) i = mass ((sh ((w54)) ((a2))) i)) → (((a3)) - (x83_9)).toNat = m → Ew 407 (d + 1) 83 ls [] σ c s Q from
            hl83 _ _ σ _ _ (0) (0) (rk_o (rk_o (l40_0) rfl rfl) rfl rfl) (rk_o (rk_o (l40_1) rfl rfl) rfl rfl) (rk_o (rk_o (l40_2) rfl rfl) rfl rfl) (rk_o (rk_o (l40_3) rfl rfl) rfl rfl) (rk_o (rk_o (l40_4) rfl rfl) rfl rfl) (rk_o (rk_o (l40_5) rfl rfl) rfl rfl) (rk_o (rk_o (l40_6) rfl rfl) rfl rfl) (rk_o (rk_s) rfl rfl) (rk_s) H (SF_refl) (SA_refl)  (w40_71) (ew40_71) (A 74) ((funext (hA_40 74 rfl)).trans (funext (hA_9 74 rfl))) (show inr (0) from q_2) (show inr (0) from q_2) (show (0) ≤ (0) from q_1) (show (0) ≤ (0) ∨ (0) ≤ ((a3)) from q_5) (hPT) (hCB) (j40_9) (show ∀ i, 0 ≤ i → i < (0) → ((A 74)) i = mass ((sh ((w54)) ((a2))) i) by assumption) rfl
          as_aux_lemma =>
          intro m
          induction m using Nat.strongRecOn with
          | _ m ih83 =>
            intro ls σ F_83 A_83 x83_8 x83_9 l83_0 l83_1 l83_2 l83_3 l83_4 l83_5 l83_6 l83_8 l83_9 H hS_83 hA_83  w83_71 ew83_71 w83_74 ew83_74 j83_0 j83_1 j83_2 j83_3 j83_4 j83_5 j83_6 j83_7 hm83
            refine Ew_of (pcₚ := 85) (fun _ => x_iload rfl l83_9) ?_
            refine Ew_of (pcₚ := 86) (fun _ => x_iload_n rfl l83_3) ?_
            refine w_icmpge (t := 179) rfl rfl (show inr (x83_9) from j83_1) (show inr (a3) from h1) (fun b4 => ?_) (fun b4 => ?_)
            · have hlaid : LAID (sh ((w54)) ((a2))) (a3) (a4) (sh ((w83_71)) ((a5))) := PT_end h59 (by omega) (by rw [show p2 ((a4)) - ngs (sh ((w54)) ((a2))) ((a3)) = cum (sh ((w54)) ((a2))) ((x83_9)) by rw [show (x83_9) = (a3) by omega]; omega]; assumption)
              have hcnt := CB_end (j83_5) (by omega)
              have : NB (sh ((w54)) ((a2))) (a3) (sh ((w83_71)) ((a5))) ((w83_74)) 0 := NB_0 (fun s a b => (j83_7) s a (by omega))
              have : NUM (sh ((w54)) ((a2))) (a4) (sh ((w83_71)) ((a5))) (sh ((w72)) ((a5))) (sh ((w73)) ((a5))) 0 := fun k a b => absurd b (by omega)
              have : TJ ((w83_71)) ((w72)) ((w73)) (a5) (a4) lst 0 := fun k a b => absurd b (by omega)
              have : FRM ((w72)) ((w72)) (a5) ((a5) + p2 ((a4))) := FRM_refl
              have : FRM ((w73)) ((w73)) (a5) ((a5) + p2 ((a4))) := FRM_refl
              refine Ew_of (pcₚ := 180) (fun _ => x_iconst rfl) ?_
              refine Ew_of (pcₚ := 182) (fun _ => x_istore rfl) ?_
              suffices hl182 : ∀ (m : Nat), ∀ (ls : rO) (σ : rS) (F_182 : hF) (A_182 : hA) (x182_9 : Int), rlook ls 0 = some (.ref (D 6)) → rlook ls 4 = some (I (a4)) → rlook ls 5 = some (I (a5)) → rlook ls 6 = some (I (p2 (a4))) → rlook ls 9 = some (I (x182_9)) → HS σ0 σ D N F_182 A_182 → SF [] F_83 F_182 → SA [72, 73, 74] A_83 A_182 → ∀ w182_72 : Int → Int, A_182 72 = w182_72 → ∀ w182_73 : Int → Int, A_182 73 = w182_73 → ∀ w182_74 : Int → Int, A_182 74 = w182_74 → (inr (x182_9)) → ((0) ≤ (x182_9)) → ((x182_9) ≤ (0) ∨ (x182_9) ≤ ((p2 (a4)))) → (NB (sh ((w54)) ((a2))) (a3) (sh ((w83_71)) ((a5))) ((w182_74)) ((x182_9))) → (NUM (sh ((w54)) ((a2))) (a4) (sh ((w83_71)) ((a5))) (sh ((w182_72)) ((a5))) (sh ((w182_73)) ((a5))) ((x182_9))) → (TJ ((w83_71)) ((w182_72)) ((w182_73)) (a5) (a4) lst ((x182_9))) → (FRM ((w72)) ((w182_72)) (a5) ((a5) + p2 ((a4)))) → (FRM ((w73)) ((w182_73)) (a5) ((a5) + p2 ((a4)))) → (((p2 (a4))) - (x182_9)).toNat = m → Ew 407 (d + 1) 182 ls [] σ c s Q from
                hl182 _ _ σ _ _ (0) (rk_o (l83_0) rfl rfl) (rk_o (l83_4) rfl rfl) (rk_o (l83_5) rfl rfl) (rk_o (l83_6) rfl rfl) (rk_s) H (SF_refl) (SA_refl)  (w72) ((funext (hA_83 72 rfl)).trans ((funext (hA_40 72 rfl)).trans ((funext (hA_9 72 rfl)).trans (ew72)))) (w73) ((funext (hA_83 73 rfl)).trans ((funext (hA_40 73 rfl)).trans ((funext (hA_9 73 rfl)).trans (ew73)))) (w83_74) (ew83_74) (show inr (0) from q_2) (show (0) ≤ (0) from q_1) (show (0) ≤ (0) ∨ (0) ≤ ((p2 (a4))) from q_5) (show NB (sh ((w54)) ((a2))) (a3) (sh ((w83_71)) ((a5))) ((w83_74)) ((0)) by assumption) (show NUM (sh ((w54)) ((a2))) (a4) (sh ((w83_71)) ((a5))) (sh ((w72)) ((a5))) (sh ((w73)) ((a5))) ((0)) by assumption) (show TJ ((w83_71)) ((w72)) ((w73)) (a5) (a4) lst ((0)) by assumption) (show FRM ((w72)) ((w72)) (a5) ((a5) + p2 ((a4))) by assumption) (show FRM ((w73)) ((w73)) (a5) ((a5) + p2 ((a4))) by assumption) rfl
              as_aux_lemma =>
              intro m
              induction m using Nat.strongRecOn with
              | _ m ih182 =>
                intro ls σ F_182 A_182 x182_9 l182_0 l182_4 l182_5 l182_6 l182_9 H hS_182 hA_182  w182_72 ew182_72 w182_73 ew182_73 w182_74 ew182_74 j182_0 j182_1 j182_2 j182_3 j182_4 j182_5 j182_6 j182_7 hm182
                have j182_num : NUM (sh ((w54)) ((a2))) (a4) (sh ((w83_71)) ((a5))) (sh ((w182_72)) ((a5))) (sh ((w182_73)) ((a5))) ((x182_9)) := j182_4
                have j182_tj : TJ ((w83_71)) ((w182_72)) ((w182_73)) (a5) (a4) lst ((x182_9)) := j182_5
                refine Ew_of (pcₚ := 184) (fun _ => x_iload rfl l182_9) ?_
                refine Ew_of (pcₚ := 186) (fun _ => x_iload rfl l182_6) ?_
                refine w_icmpge (t := 273) rfl rfl (show inr (x182_9) from j182_0) (show inr (p2 (a4)) from q_2388 h6 j40_5) (fun b5 => ?_) (fun b5 => ?_)
                · have : LD (sh ((w54)) ((a2))) (a3) (a4) (sh ((w83_71)) ((a5))) (sh ((w182_72)) ((a5))) (sh ((w182_73)) ((a5))) := ⟨hlaid, hcnt, fun k a b => (j182_num) k a (by omega)⟩
                  have : TI ((w83_71)) ((w182_72)) ((w182_73)) (a5) (a4) lst := fun k a b => (j182_tj) k a (by omega)
                  exact w_ret rfl (k σ _ _ H (SF_trans (SF_trans (SF_trans (SF_trans (SF_refl) hS_9 (any_sub rfl)) hS_40 (any_sub rfl)) hS_83 (any_sub rfl)) hS_182 (any_sub rfl)) (SA_trans (SA_trans (SA_trans (SA_trans (SA_refl) hA_9 (any_subA rfl)) hA_40 (any_subA rfl)) hA_83 (any_subA rfl)) hA_182 (any_subA rfl)) (w83_71) ((funext (hA_182 71 rfl)).trans (ew83_71)) (w182_72) (ew182_72) (w182_73) (ew182_73) (show LD (sh ((w54)) (a2)) a3 a4 (sh ((w83_71)) (a5)) (sh ((w182_72)) (a5)) (sh ((w182_73)) (a5)) by assumption) (show TI ((w83_71)) ((w182_72)) ((w182_73)) a5 a4 lst by assumption) (j83_6) (j182_6) (j182_7))
                · have hlr := LAID_rng h59 (by omega) hlaid (k := (x182_9)) (by omega) (by omega)
                  have hse : (sh ((w83_71)) ((a5))) ((x182_9)) = ((w83_71)) ((a5) + (x182_9)) := rfl
                  have hnb : NB (sh ((w54)) ((a2))) (a3) (sh ((w83_71)) ((a5))) ((w182_74)) ((x182_9)) := j182_3
                  have hnx := NB_x hnb hcnt (by omega) (by omega) hlr.1 hlr.2.1
                  have hle := SH_le ((sh ((w83_71)) ((a5))) ((x182_9))) hsh hlr.1 hlr.2.1
                  have hpe : (sh ((w54)) ((a2))) ((sh ((w83_71)) ((a5))) ((x182_9))) = ((w54)) ((a2) + (sh ((w83_71)) ((a5))) ((x182_9))) := rfl
                  have hme := mass_eq ((sh ((w54)) ((a2))) ((sh ((w83_71)) ((a5))) ((x182_9))))
                  have hls := hle.2.2.2 (by rw [← hpe]; exact hlr.2.2)
                  have hmb : mass ((sh ((w54)) ((a2))) ((sh ((w83_71)) ((a5))) ((x182_9)))) ≤ p2 ((a4)) := hle.2.2.1
                  have hm1_ : 1 ≤ mass ((sh ((w54)) ((a2))) ((sh ((w83_71)) ((a5))) ((x182_9)))) := by have := hlr.2.2; omega
                  refine Ew_of (pcₚ := 190) (fun _ => x_aload_n rfl l182_0) ?_
                  refine w_gT H (o := 6) (t := 74) rfl (H.perm 6 rfl) rfl rfl rfl rfl rfl rfl ?_
                  refine Ew_of (pcₚ := 194) (fun _ => x_aload_n rfl l182_0) ?_
                  refine w_gT H (o := 6) (t := 71) rfl (H.perm 6 rfl) rfl rfl rfl rfl rfl rfl ?_
                  refine Ew_of (pcₚ := 199) (fun _ => x_iload rfl l182_5) ?_
                  refine Ew_of (pcₚ := 201) (fun _ => x_iload rfl l182_9) ?_
                  refine w_iadd rfl ?_
                  refine w_lI H (o := 71) (n := 2048) rfl (H.perm 71 rfl) rfl rfl (H.fix 71 rfl rfl) (show 0 ≤ (a5 + x182_9) ∧ (a5 + x182_9) < ((2048 : Nat) : Int) from q_2389 b5 h6 j182_1) (by decide) (fun v6 ev6 qv6 => ?_)
                  have qv6 : (-1 : Int) ≤ v6 ∧ v6 ≤ 63 := qv6
                  have ev6 : (w83_71) ((a5 + x182_9)) = v6 := (congrFun ((funext (hA_182 71 rfl)).trans (ew83_71)) ((a5 + x182_9))).symm.trans ev6
                  have hsv := ev6
                  rw [hse, hsv] at hnx hmb hm1_
                  refine w_lI H (o := 74) (n := 64) rfl (H.perm 74 rfl) rfl rfl (H.fix 74 rfl rfl) (show 0 ≤ v6 ∧ v6 < ((64 : Nat) : Int) by omega) (by decide) (fun v7 ev7 qv7 => ?_)
                  have qv7 : (-2147483648 : Int) ≤ v7 ∧ v7 ≤ 2147483647 := qv7
                  have ev7 : (w182_74) (v6) = v7 := (congrFun (ew182_74) (v6)).symm.trans ev7
                  refine Ew_of (pcₚ := 206) (fun _ => x_istore rfl) ?_
                  have hxv := ev7
                  rw [hxv] at hnx
                  refine Ew_of (pcₚ := 207) (fun _ => x_aload_n rfl (rk_o (l182_0) rfl rfl)) ?_
                  refine w_gT H (o := 6) (t := 74) rfl (H.perm 6 rfl) rfl rfl rfl rfl rfl rfl ?_
                  refine Ew_of (pcₚ := 211) (fun _ => x_aload_n rfl (rk_o (l182_0) rfl rfl)) ?_
                  refine w_gT H (o := 6) (t := 71) rfl (H.perm 6 rfl) rfl rfl rfl rfl rfl rfl ?_
                  refine Ew_of (pcₚ := 216) (fun _ => x_iload rfl (rk_o (l182_5) rfl rfl)) ?_
                  refine Ew_of (pcₚ := 218) (fun _ => x_iload rfl (rk_o (l182_9) rfl rfl)) ?_
                  refine w_iadd rfl ?_
                  refine w_lI H (o := 71) (n := 2048) rfl (H.perm 71 rfl) rfl rfl (H.fix 71 rfl rfl) (show 0 ≤ (a5 + x182_9) ∧ (a5 + x182_9) < ((2048 : Nat) : Int) from q_2389 b5 h6 j182_1) (by decide) (fun v8 ev8 qv8 => ?_)
                  have qv8 : (-1 : Int) ≤ v8 ∧ v8 ≤ 63 := qv8
                  have ev8 : (w83_71) ((a5 + x182_9)) = v8 := (congrFun ((funext (hA_182 71 rfl)).trans (ew83_71)) ((a5 + x182_9))).symm.trans ev8
                  refine Ew_of (pcₚ := 222) (fun _ => x_iload rfl rk_s) ?_
                  refine Ew_of (pcₚ := 223) (fun _ => x_iconst rfl) ?_
                  refine w_iadd rfl ?_
                  have hsv2 := ev8
                  have hnb2 : NB (sh ((w54)) ((a2))) (a3) (sh ((w83_71)) ((a5))) (upd1 ((w182_74)) ((v8)) (((v7 + 1)))) ((x182_9) + 1) := by have h := NB_next hnb (x := ((v7 + 1))) (k2 := (x182_9) + 1) (by omega) rfl hlr.1 hlr.2.1 (by rw [hse, hsv]; omega); rw [hse, hsv2] at h; exact h
                  refine w_sI H (o := 74) (n := 64) rfl (H.perm 74 rfl) rfl rfl (H.fix 74 rfl rfl) (show 0 ≤ v8 ∧ v8 < ((64 : Nat) : Int) by omega) (by decide) (show (-2147483648 : Int) ≤ (v7 + 1) ∧ (v7 + 1) ≤ 2147483647 by omega) (fun σ H => ?_)
                  refine Ew_of (pcₚ := 226) (fun _ => x_aload_n rfl (rk_o (l182_0) rfl rfl)) ?_
                  refine w_gT H (o := 6) (t := 72) rfl (H.perm 6 rfl) rfl rfl rfl rfl rfl rfl ?_
                  refine Ew_of (pcₚ := 231) (fun _ => x_iload rfl (rk_o (l182_5) rfl rfl)) ?_
                  refine Ew_of (pcₚ := 233) (fun _ => x_iload rfl (rk_o (l182_9) rfl rfl)) ?_
                  refine w_iadd rfl ?_
                  refine Ew_of (pcₚ := 236) (fun _ => x_iload rfl (rk_o (l182_4) rfl rfl)) ?_
                  refine Ew_of (pcₚ := 238) (fun _ => x_iload rfl rk_s) ?_
                  refine w_stat24 rfl rfl (by rfl) (M400 H (show inr (v7) from q_18 qv7) (show 1 ≤ (v7) by omega) (fun z13 σ F9 A10 H hS11 hA12 pz13_0 pz13_1 pz13_2 => ⟨rfl, ?_⟩))
                  have hib := hi_base (x := (v7)) (r := (z13)) (o := (a4)) (by omega) (by omega) (by omega) (by omega) (by omega)
                  have hpp := p2_pos ((a4) - (z13))
                  refine w_isub rfl ?_
                  have : FRM ((w72)) (upd1 ((w182_72)) ((a5) + (x182_9)) (((a4 - z13)))) (a5) ((a5) + p2 ((a4))) := FRM_upd (by assumption) (by omega) (by omega)
                  refine w_sI H (o := 72) (n := 2048) rfl (H.perm 72 rfl) rfl rfl (H.fix 72 rfl rfl) (show 0 ≤ (a5 + x182_9) ∧ (a5 + x182_9) < ((2048 : Nat) : Int) from q_2389 b5 h6 j182_1) (by decide) (show (0 : Int) ≤ (a4 - z13) ∧ (a4 - z13) ≤ 9 by omega) (fun σ H => ?_)
                  refine Ew_of (pcₚ := 244) (fun _ => x_aload_n rfl (rk_o (l182_0) rfl rfl)) ?_
                  refine w_gT H (o := 6) (t := 73) rfl (H.perm 6 rfl) rfl rfl rfl rfl rfl rfl ?_
                  refine Ew_of (pcₚ := 249) (fun _ => x_iload rfl (rk_o (l182_5) rfl rfl)) ?_
                  refine Ew_of (pcₚ := 251) (fun _ => x_iload rfl (rk_o (l182_9) rfl rfl)) ?_
                  refine w_iadd rfl ?_
                  refine Ew_of (pcₚ := 254) (fun _ => x_iload rfl rk_s) ?_
                  refine Ew_of (pcₚ := 256) (fun _ => x_iload rfl (rk_o (l182_4) rfl rfl)) ?_
                  refine Ew_of (pcₚ := 258) (fun _ => x_iload rfl rk_s) ?_
                  refine w_stat24 rfl rfl (by rfl) (M400 H (show inr (v7) from q_2391 pz13_2 qv7) (show 1 ≤ (v7) from q_2390 pz13_2) (fun z18 σ F14 A15 H hS16 hA17 pz18_0 pz18_1 pz18_2 => ⟨rfl, ?_⟩))
                  refine w_isub rfl ?_
                  have hrr := p2_same (r := z13) (t := z18) (x := (v7)) (by omega) (by omega) (by omega) (by omega) (by omega) (by omega)
                  have hpq : p2 ((a4) - z13) = p2 ((a4) - z18) := by rw [hrr]
                  rw [hrr] at hib hpp
                  have hnum : NUM (sh ((w54)) ((a2))) (a4) (sh ((w83_71)) ((a5))) (sh ((upd1 (w182_72) ((a5 + x182_9)) ((a4 - z13)))) ((a5))) (sh (upd1 ((w182_73)) ((a5) + (x182_9)) ((v7) * p2 ((a4) - z18) - p2 ((a4)))) ((a5))) ((x182_9) + 1) := by rw [sh_upd, sh_upd]; exact NUM_next (r := z18) j182_num rfl (by omega) (by omega) (by omega) (by omega) (by omega) (by rw [← hnx.1])
                  have htj : TJ ((w83_71)) ((upd1 (w182_72) ((a5 + x182_9)) ((a4 - z13)))) (upd1 ((w182_73)) ((a5) + (x182_9)) ((v7) * p2 ((a4) - z18) - p2 ((a4)))) (a5) (a4) lst ((x182_9) + 1) := TJ_next j182_tj (by omega) (by omega) (by omega)
                  have : FRM ((w73)) (upd1 ((w182_73)) ((a5) + (x182_9)) ((v7) * p2 ((a4) - z18) - p2 ((a4)))) (a5) ((a5) + p2 ((a4))) := FRM_upd (by assumption) (by omega) (by omega)
                  refine w_ishlT rfl (show 0 ≤ (a4 - z18) ∧ (a4 - z18) ≤ 31 by omega) ?_
                  refine Ew_of (pcₚ := 265) (fun _ => x_iload rfl (rk_o (l182_6) rfl rfl)) ?_
                  refine w_isub rfl ?_
                  refine w_sI H (o := 73) (n := 2048) rfl (H.perm 73 rfl) rfl rfl (H.fix 73 rfl rfl) (show 0 ≤ (a5 + x182_9) ∧ (a5 + x182_9) < ((2048 : Nat) : Int) from q_2389 b5 h6 j182_1) (by decide) (show (0 : Int) ≤ ((v7 * p2 ((a4 - z18))) - p2 (a4)) ∧ ((v7 * p2 ((a4 - z18))) - p2 (a4)) ≤ 511 by omega) (fun σ H => ?_)
                  refine Ew_of (pcₚ := 270) (fun _ => x_iinc (len := 3) rfl (rk_o (l182_9) rfl rfl)) ?_
                  refine Ew_of (pcₚ := 182) (fun _ => x_goto rfl rfl) ?_
                  exact ih182 _ (msE hm182 q_16 (q_17 b5)) _ σ _ _ ((x182_9 + 1)) (rk_o (rk_o (l182_0) rfl rfl) rfl rfl) (rk_o (rk_o (l182_4) rfl rfl) rfl rfl) (rk_o (rk_o (l182_5) rfl rfl) rfl rfl) (rk_o (rk_o (l182_6) rfl rfl) rfl rfl) (rk_s) H (SF_trans (SF_trans (hS_182) hS11 (any_sub rfl)) hS16 (any_sub rfl)) (SA_upd (SA_trans (SA_upd (SA_trans (SA_upd (hA_182) rfl) hA12 (any_subA rfl)) rfl) hA17 (any_subA rfl)) rfl)  (upd1 (w182_72) ((a5 + x182_9)) ((a4 - z13))) ((funext (hA17 72 rfl)).trans (congrArg (fun q => upd1 q ((a5 + x182_9)) ((a4 - z13))) ((funext (hA12 72 rfl)).trans (ew182_72)))) (upd1 (w182_73) ((a5 + x182_9)) (((v7 * p2 ((a4 - z18))) - p2 (a4)))) (congrArg (fun q => upd1 q ((a5 + x182_9)) (((v7 * p2 ((a4 - z18))) - p2 (a4)))) ((funext (hA17 73 rfl)).trans ((funext (hA12 73 rfl)).trans (ew182_73)))) (upd1 (w182_74) (v8) ((v7 + 1))) ((funext (hA17 74 rfl)).trans ((funext (hA12 74 rfl)).trans (congrArg (fun q => upd1 q (v8) ((v7 + 1))) (ew182_74)))) (show inr ((x182_9 + 1)) from q_2392 b5 h6 j182_1) (show (0) ≤ ((x182_9 + 1)) from q_14 j182_1) (show ((x182_9 + 1)) ≤ (0) ∨ ((x182_9 + 1)) ≤ ((p2 (a4))) from q_13 b5) (hnb2) (hnum) (htj) (show FRM ((w72)) ((upd1 (w182_72) ((a5 + x182_9)) ((a4 - z13)))) (a5) ((a5) + p2 ((a4))) by assumption) (show FRM ((w73)) ((upd1 (w182_73) ((a5 + x182_9)) (((v7 * p2 ((a4 - z18))) - p2 (a4))))) (a5) ((a5) + p2 ((a4))) by assumption) rfl
            · have hpo := posi_eq ((sh ((w54)) ((a2))) ((x83_9)))
              have hcs := cum_s (P := sh ((w54)) ((a2))) (s := (x83_9)) (by omega)
              have hcm2 := cum_mono (P := sh ((w54)) ((a2))) (s := (x83_9) + 1) (t := (a3)) (by omega) (by omega)
              have hpe : (sh ((w54)) ((a2))) ((x83_9)) = ((w54)) ((a2) + (x83_9)) := rfl
              have hle := SH_le ((x83_9)) hsh (by omega) (by omega)
              have hPT0 : PT (sh ((w54)) ((a2))) (a3) (a4) (sh ((w83_71)) ((a5))) ((x83_8)) (cum (sh ((w54)) ((a2))) ((x83_9)) + 0) := by rw [Int.add_zero]; assumption
              refine Ew_of (pcₚ := 90) (fun _ => x_iconst rfl) ?_
              refine Ew_of (pcₚ := 92) (fun _ => x_istore rfl) ?_
              suffices hl92 : ∀ (m : Nat), ∀ (ls : rO) (σ : rS) (F_92 : hF) (A_92 : hA) (x92_8 : Int) (x92_10 : Int), rlook ls 0 = some (.ref (D 6)) → rlook ls 1 = some (.ref (D 54)) → rlook ls 2 = some (I (a2)) → rlook ls 3 = some (I (a3)) → rlook ls 4 = some (I (a4)) → rlook ls 5 = some (I (a5)) → rlook ls 6 = some (I (p2 (a4))) → rlook ls 8 = some (I (x92_8)) → rlook ls 9 = some (I (x83_9)) → rlook ls 10 = some (I (x92_10)) → HS σ0 σ D N F_92 A_92 → SF [] F_83 F_92 → SA [71] A_83 A_92 → ∀ w92_71 : Int → Int, A_92 71 = w92_71 → (inr (x92_8)) → (inr (x92_10)) → (0 ≤ (x92_10) ∧ (x92_10) ≤ posi ((sh ((w54)) ((a2))) ((x83_9)))) → (PT (sh ((w54)) ((a2))) (a3) (a4) (sh ((w92_71)) ((a5))) ((x92_8)) (cum (sh ((w54)) ((a2))) ((x83_9)) + (x92_10))) → (CB (sh ((w54)) ((a2))) (a3) (a4) (sh ((w92_71)) ((a5))) ((x83_9)) ((x92_10))) → (FRM ((w71)) ((w92_71)) (a5) ((a5) + p2 ((a4)))) → (((w54)) ((a2) + (x83_9)) - (x92_10)).toNat = m → Ew 407 (d + 1) 92 ls [] σ c s Q from
                hl92 _ _ σ _ _ (x83_8) (0) (rk_o (l83_0) rfl rfl) (rk_o (l83_1) rfl rfl) (rk_o (l83_2) rfl rfl) (rk_o (l83_3) rfl rfl) (rk_o (l83_4) rfl rfl) (rk_o (l83_5) rfl rfl) (rk_o (l83_6) rfl rfl) (rk_o (l83_8) rfl rfl) (rk_o (l83_9) rfl rfl) (rk_s) H (SF_refl) (SA_refl)  (w83_71) (ew83_71) (show inr (x83_8) from j83_0) (show inr (0) from q_2) (show 0 ≤ (0) ∧ (0) ≤ posi ((sh ((w54)) ((a2))) ((x83_9))) by omega) (hPT0) (j83_5) (j83_6) rfl
              as_aux_lemma =>
              intro m
              induction m using Nat.strongRecOn with
              | _ m ih92 =>
                intro ls σ F_92 A_92 x92_8 x92_10 l92_0 l92_1 l92_2 l92_3 l92_4 l92_5 l92_6 l92_8 l92_9 l92_10 H hS_92 hA_92  w92_71 ew92_71 j92_0 j92_1 j92_2 j92_3 j92_4 j92_5 hm92
                refine Ew_of (pcₚ := 94) (fun _ => x_iload rfl l92_10) ?_
                refine Ew_of (pcₚ := 95) (fun _ => x_aload_n rfl l92_1) ?_
                refine Ew_of (pcₚ := 96) (fun _ => x_iload_n rfl l92_2) ?_
                refine Ew_of (pcₚ := 98) (fun _ => x_iload rfl l92_9) ?_
                refine w_iadd rfl ?_
                refine w_lI H (o := 54) (n := 192) rfl (H.perm 54 rfl) rfl rfl (H.fix 54 rfl rfl) (show 0 ≤ (a2 + x83_9) ∧ (a2 + x83_9) < ((192 : Nat) : Int) from q_1311 b4 h5 j83_2) (by decide) (fun v20 ev20 qv20 => ?_)
                have qv20 : (-1 : Int) ≤ v20 ∧ v20 ≤ 512 := qv20
                have ev20 : (w54) ((a2 + x83_9)) = v20 := (congrFun ((funext (hA_92 54 rfl)).trans ((funext (hA_83 54 rfl)).trans ((funext (hA_40 54 rfl)).trans ((funext (hA_9 54 rfl)).trans (ew54))))) ((a2 + x83_9))).symm.trans ev20
                refine w_icmpge (t := 157) rfl rfl (show inr (x92_10) from j92_1) (show inr (v20) from q_1312 qv20) (fun b21 => ?_) (fun b21 => ?_)
                · have hk0 : (x92_10) = posi ((sh ((w54)) ((a2))) ((x83_9))) := by omega
                  have hptn : PT (sh ((w54)) ((a2))) (a3) (a4) (sh ((w92_71)) ((a5))) ((x92_8)) (cum (sh ((w54)) ((a2))) ((x83_9) + 1)) := by rw [hcs, ← hk0]; assumption
                  have hcbn : CB (sh ((w54)) ((a2))) (a3) (a4) (sh ((w92_71)) ((a5))) ((x83_9) + 1) 0 := CB_next (by assumption) rfl hk0
                  refine Ew_of (pcₚ := 158) (fun _ => x_aload_n rfl l92_0) ?_
                  refine w_gT H (o := 6) (t := 74) rfl (H.perm 6 rfl) rfl rfl rfl rfl rfl rfl ?_
                  refine Ew_of (pcₚ := 163) (fun _ => x_iload rfl l92_9) ?_
                  refine Ew_of (pcₚ := 164) (fun _ => x_aload_n rfl l92_1) ?_
                  refine Ew_of (pcₚ := 165) (fun _ => x_iload_n rfl l92_2) ?_
                  refine Ew_of (pcₚ := 167) (fun _ => x_iload rfl l92_9) ?_
                  refine w_iadd rfl ?_
                  refine w_lI H (o := 54) (n := 192) rfl (H.perm 54 rfl) rfl rfl (H.fix 54 rfl rfl) (show 0 ≤ (a2 + x83_9) ∧ (a2 + x83_9) < ((192 : Nat) : Int) from q_1311 b4 h5 j83_2) (by decide) (fun v22 ev22 qv22 => ?_)
                  have qv22 : (-1 : Int) ≤ v22 ∧ v22 ≤ 512 := qv22
                  have ev22 : (w54) ((a2 + x83_9)) = v22 := (congrFun ((funext (hA_92 54 rfl)).trans ((funext (hA_83 54 rfl)).trans ((funext (hA_40 54 rfl)).trans ((funext (hA_9 54 rfl)).trans (ew54))))) ((a2 + x83_9))).symm.trans ev22
                  refine w_stat24 rfl rfl (by rfl) (M406 H (show inr (v22) from q_1312 qv22) (show -1 ≤ (v22) from q_2398 qv22) (fun z27 σ F23 A24 H hS25 hA26 pz27_0 pz27_1 => ⟨rfl, ?_⟩))
                  have : ∀ i, 0 ≤ i → i < (x83_9) + 1 → (upd1 ((w83_74)) ((x83_9)) ((z27))) i = mass ((sh ((w54)) ((a2))) i) := pt_upd (by assumption) (by rw [pz27_1]; congr 1; omega)
                  refine w_sI H (o := 74) (n := 64) rfl (H.perm 74 rfl) rfl rfl (H.fix 74 rfl rfl) (show 0 ≤ x83_9 ∧ x83_9 < ((64 : Nat) : Int) from q_2399 b4 h5 j83_2) (by decide) (show (-2147483648 : Int) ≤ z27 ∧ z27 ≤ 2147483647 from q_31 pz27_0) (fun σ H => ?_)
                  refine Ew_of (pcₚ := 176) (fun _ => x_iinc (len := 3) rfl (l92_9)) ?_
                  refine Ew_of (pcₚ := 83) (fun _ => x_goto rfl rfl) ?_
                  exact ih83 _ (msE hm83 q_16 (q_17 b4)) _ σ _ _ (x92_8) ((x83_9 + 1)) (rk_o (l92_0) rfl rfl) (rk_o (l92_1) rfl rfl) (rk_o (l92_2) rfl rfl) (rk_o (l92_3) rfl rfl) (rk_o (l92_4) rfl rfl) (rk_o (l92_5) rfl rfl) (rk_o (l92_6) rfl rfl) (rk_o (l92_8) rfl rfl) (rk_s) H (SF_trans (SF_trans (hS_83) hS_92 (any_sub rfl)) hS25 (any_sub rfl)) (SA_upd (SA_trans (SA_trans (hA_83) hA_92 (any_subA rfl)) hA26 (any_subA rfl)) rfl)  (w92_71) ((funext (hA26 71 rfl)).trans (ew92_71)) (upd1 (w83_74) (x83_9) (z27)) (congrArg (fun q => upd1 q (x83_9) (z27)) ((funext (hA26 74 rfl)).trans ((funext (hA_92 74 rfl)).trans (ew83_74)))) (show inr (x92_8) from j92_0) (show inr ((x83_9 + 1)) from q_2400 b4 h5 j83_2) (show (0) ≤ ((x83_9 + 1)) from q_14 j83_2) (show ((x83_9 + 1)) ≤ (0) ∨ ((x83_9 + 1)) ≤ ((a3)) from q_13 b4) (hptn) (hcbn) (j92_5) (show ∀ i, 0 ≤ i → i < ((x83_9 + 1)) → ((upd1 (w83_74) (x83_9) (z27))) i = mass ((sh ((w54)) ((a2))) i) by assumption) rfl
                · obtain ⟨m0, hm0⟩ := PTI_of (j92_3)
                  suffices hl103 : ∀ (m : Nat), ∀ (ls : rO) (σ : rS) (F_103 : hF) (A_103 : hA) (x103_8 : Int), rlook ls 0 = some (.ref (D 6)) → rlook ls 1 = some (.ref (D 54)) → rlook ls 2 = some (I (a2)) → rlook ls 3 = some (I (a3)) → rlook ls 4 = some (I (a4)) → rlook ls 5 = some (I (a5)) → rlook ls 6 = some (I (p2 (a4))) → rlook ls 8 = some (I (x103_8)) → rlook ls 9 = some (I (x83_9)) → rlook ls 10 = some (I (x92_10)) → HS σ0 σ D N F_103 A_103 → SF [] F_92 F_103 → SA [] A_92 A_103 → (inr (x103_8)) → (PTI (sh ((w54)) ((a2))) (a3) (a4) (sh ((w92_71)) ((a5))) ((x103_8)) (cum (sh ((w54)) ((a2))) ((x83_9)) + (x92_10)) (p2 ((a4)) - m)) → Ew 407 (d + 1) 103 ls [] σ c s Q from
                    hl103 (m0) _ σ _ _ (x92_8) (l92_0) (l92_1) (l92_2) (l92_3) (l92_4) (l92_5) (l92_6) (l92_8) (l92_9) (l92_10) H (SF_refl) (SA_refl)   (show inr (x92_8) from j92_0) (by assumption)
                  as_aux_lemma =>
                  intro m
                  induction m using Nat.strongRecOn with
                  | _ m ih103 =>
                    intro ls σ F_103 A_103 x103_8 l103_0 l103_1 l103_2 l103_3 l103_4 l103_5 l103_6 l103_8 l103_9 l103_10 H hS_103 hA_103   j103_0 hm103
                    have hrg := PTI_rng (hm103)
                    have hse : (sh ((w92_71)) ((a5))) ((x103_8)) = ((w92_71)) ((a5) + (x103_8)) := rfl
                    refine Ew_of (pcₚ := 104) (fun _ => x_aload_n rfl l103_0) ?_
                    refine w_gT H (o := 6) (t := 71) rfl (H.perm 6 rfl) rfl rfl rfl rfl rfl rfl ?_
                    refine Ew_of (pcₚ := 109) (fun _ => x_iload rfl l103_5) ?_
                    refine Ew_of (pcₚ := 111) (fun _ => x_iload rfl l103_8) ?_
                    refine w_iadd rfl ?_
                    refine w_lI H (o := 71) (n := 2048) rfl (H.perm 71 rfl) rfl rfl (H.fix 71 rfl rfl) (show 0 ≤ (a5 + x103_8) ∧ (a5 + x103_8) < ((2048 : Nat) : Int) by omega) (by decide) (fun v28 ev28 qv28 => ?_)
                    have qv28 : (-1 : Int) ≤ v28 ∧ v28 ≤ 63 := qv28
                    have ev28 : (w92_71) ((a5 + x103_8)) = v28 := (congrFun ((funext (hA_103 71 rfl)).trans (ew92_71)) ((a5 + x103_8))).symm.trans ev28
                    refine w_iflt (t := 139) rfl rfl (show inr (v28) from q_1316 qv28) (fun b29 => ?_) (fun b29 => ?_)
                    · have : FRM ((w71)) (upd1 ((w92_71)) ((a5) + (x103_8)) ((x83_9))) (a5) ((a5) + p2 ((a4))) := FRM_upd (by assumption) (by omega) (by omega)
                      have hpt := PTI_PT (hm103)
                      have hfr := PT_free h59 hpt (by omega)
                      have hpt2 : PT (sh ((w54)) ((a2))) (a3) (a4) (sh (upd1 ((w92_71)) ((a5) + (x103_8)) ((x83_9))) ((a5))) ((x103_8)) (cum (sh ((w54)) ((a2))) ((x83_9)) + ((x92_10) + 1)) := by rw [sh_upd, ← Int.add_assoc]; exact PT_put h59 hpt (by omega) (by omega) (by omega) (by omega) (by omega)
                      have hcb2 : CB (sh ((w54)) ((a2))) (a3) (a4) (sh (upd1 ((w92_71)) ((a5) + (x103_8)) ((x83_9))) ((a5))) ((x83_9)) ((x92_10) + 1) := by rw [sh_upd]; exact CB_put (by assumption) rfl (by omega) (by omega) (by omega) hfr
                      refine Ew_of (pcₚ := 140) (fun _ => x_aload_n rfl l103_0) ?_
                      refine w_gT H (o := 6) (t := 71) rfl (H.perm 6 rfl) rfl rfl rfl rfl rfl rfl ?_
                      refine Ew_of (pcₚ := 145) (fun _ => x_iload rfl l103_5) ?_
                      refine Ew_of (pcₚ := 147) (fun _ => x_iload rfl l103_8) ?_
                      refine w_iadd rfl ?_
                      refine Ew_of (pcₚ := 150) (fun _ => x_iload rfl l103_9) ?_
                      refine w_sI H (o := 71) (n := 2048) rfl (H.perm 71 rfl) rfl rfl (H.fix 71 rfl rfl) (show 0 ≤ (a5 + x103_8) ∧ (a5 + x103_8) < ((2048 : Nat) : Int) by omega) (by decide) (show (-1 : Int) ≤ x83_9 ∧ x83_9 ≤ 63 from q_1317 b4 h5 j83_2) (fun σ H => ?_)
                      refine Ew_of (pcₚ := 154) (fun _ => x_iinc (len := 3) rfl (l103_10)) ?_
                      refine Ew_of (pcₚ := 92) (fun _ => x_goto rfl rfl) ?_
                      exact ih92 _ (msE hm92 q_16 (q_194 b21 ev20)) _ σ _ _ (x103_8) ((x92_10 + 1)) (rk_o (l103_0) rfl rfl) (rk_o (l103_1) rfl rfl) (rk_o (l103_2) rfl rfl) (rk_o (l103_3) rfl rfl) (rk_o (l103_4) rfl rfl) (rk_o (l103_5) rfl rfl) (rk_o (l103_6) rfl rfl) (rk_o (l103_8) rfl rfl) (rk_o (l103_9) rfl rfl) (rk_s) H (SF_trans (hS_92) hS_103 (any_sub rfl)) (SA_upd (SA_trans (hA_92) hA_103 (any_subA rfl)) rfl)  (upd1 (w92_71) ((a5 + x103_8)) (x83_9)) (congrArg (fun q => upd1 q ((a5 + x103_8)) (x83_9)) ((funext (hA_103 71 rfl)).trans (ew92_71))) (show inr (x103_8) from j103_0) (show inr ((x92_10 + 1)) from q_1318 b21 j92_2 qv20) (show 0 ≤ ((x92_10 + 1)) ∧ ((x92_10 + 1)) ≤ posi ((sh ((w54)) ((a2))) ((x83_9))) by omega) (hpt2) (hcb2) (show FRM ((w71)) ((upd1 (w92_71) ((a5 + x103_8)) (x83_9))) (a5) ((a5) + p2 ((a4))) by assumption) rfl
                    · refine Ew_of (pcₚ := 118) (fun _ => x_iload rfl l103_8) ?_
                      refine Ew_of (pcₚ := 120) (fun _ => x_iload rfl l103_6) ?_
                      refine Ew_of (pcₚ := 121) (fun _ => x_iconst rfl) ?_
                      refine w_idiv rfl (show inr (p2 (a4)) ∧ 0 ≤ p2 (a4) from q_2397 h6 j40_5) (show inr (2) ∧ 0 < 2 from q_1234) ?_
                      refine w_iadd rfl ?_
                      refine Ew_of (pcₚ := 125) (fun _ => x_iload rfl l103_6) ?_
                      refine Ew_of (pcₚ := 127) (fun _ => x_bipush (z := 8) rfl (by decide)) ?_
                      refine w_idiv rfl (show inr (p2 (a4)) ∧ 0 ≤ p2 (a4) from q_2397 h6 j40_5) (show inr (8) ∧ 0 < 8 from q_1054) ?_
                      refine w_iadd rfl ?_
                      refine Ew_of (pcₚ := 130) (fun _ => x_iconst rfl) ?_
                      refine w_iadd rfl ?_
                      refine Ew_of (pcₚ := 133) (fun _ => x_iload rfl l103_6) ?_
                      refine w_irem rfl (show inr ((((x103_8 + (p2 (a4) / 2)) + (p2 (a4) / 8)) + 3)) ∧ 0 ≤ (((x103_8 + (p2 (a4) / 2)) + (p2 (a4) / 8)) + 3) by omega) (show inr (p2 (a4)) ∧ 0 < p2 (a4) by omega) ?_
                      refine Ew_of (pcₚ := 136) (fun _ => x_istore rfl) ?_
                      refine Ew_of (pcₚ := 103) (fun _ => x_goto rfl rfl) ?_
                      have hfm := PTI_next (pₚ := (((((x103_8 + (p2 (a4) / 2)) + (p2 (a4) / 8)) + 3) % p2 (a4)))) h59 (by omega) (show PTI (sh ((w54)) ((a2))) (a3) (a4) (sh ((w92_71)) ((a5))) _ (cum (sh ((w54)) ((a2))) ((x83_9)) + (x92_10)) (p2 ((a4)) - m) from by assumption) (by omega) (by omega) (by congr 1; omega)
                      have := hfm.1
                      have := hfm.2
                      have hrg2 := PTI_rng hfm.2
                      exact ih103 (m - 1) (by omega) _ σ _ _ (((((x103_8 + (p2 (a4) / 2)) + (p2 (a4) / 8)) + 3) % p2 (a4))) (rk_o (l103_0) rfl rfl) (rk_o (l103_1) rfl rfl) (rk_o (l103_2) rfl rfl) (rk_o (l103_3) rfl rfl) (rk_o (l103_4) rfl rfl) (rk_o (l103_5) rfl rfl) (rk_o (l103_6) rfl rfl) (rk_s) (rk_o (l103_9) rfl rfl) (rk_o (l103_10) rfl rfl) H (hS_103) (hA_103)   (show inr (((((x103_8 + (p2 (a4) / 2)) + (p2 (a4) / 8)) + 3) % p2 (a4))) by omega) (by assumption)
        · have hle := SH_le ((x40_8)) hsh (by omega) (by omega)
          have hns := ngs_s (P := sh ((w54)) ((a2))) (s := (x40_8)) (by omega)
          have hne := neg1_eq ((sh ((w54)) ((a2))) ((x40_8)))
          have hpe : (sh ((w54)) ((a2))) ((x40_8)) = ((w54)) ((a2) + (x40_8)) := rfl
          have hnm := ngs_mono (P := sh ((w54)) ((a2))) (s := (x40_8) + 1) (t := (a3)) (by omega) (by omega)
          have j40_n : ∀ s, 0 ≤ s → s < (x40_8) → (sh ((w54)) ((a2))) s < 0 → (sh ((w40_71)) ((a5))) (p2 ((a4)) - 1 - ngs (sh ((w54)) ((a2))) s) = s := by assumption
          have j40_m : ∀ k, 0 ≤ k → k < (x40_7) → (sh ((w40_71)) ((a5))) k = -1 := by assumption
          have j40_c : CA (sh ((w54)) ((a2))) (a3) (a4) (sh ((w40_71)) ((a5))) ((x40_8)) := j40_8
          refine Ew_of (pcₚ := 47) (fun _ => x_aload_n rfl l40_1) ?_
          refine Ew_of (pcₚ := 48) (fun _ => x_iload_n rfl l40_2) ?_
          refine Ew_of (pcₚ := 50) (fun _ => x_iload rfl l40_8) ?_
          refine w_iadd rfl ?_
          refine w_lI H (o := 54) (n := 192) rfl (H.perm 54 rfl) rfl rfl (H.fix 54 rfl rfl) (show 0 ≤ (a2 + x40_8) ∧ (a2 + x40_8) < ((192 : Nat) : Int) from q_1311 b3 h5 j40_2) (by decide) (fun v30 ev30 qv30 => ?_)
          have qv30 : (-1 : Int) ≤ v30 ∧ v30 ≤ 512 := qv30
          have ev30 : (w54) ((a2 + x40_8)) = v30 := (congrFun ((funext (hA_40 54 rfl)).trans ((funext (hA_9 54 rfl)).trans (ew54))) ((a2 + x40_8))).symm.trans ev30
          refine Ew_of (pcₚ := 53) (fun _ => x_iconst rfl) ?_
          refine w_icmpne (t := 71) rfl rfl (show inr (v30) from q_1312 qv30) (show inr ((-1)) from q_63) (fun b31 => ?_) (fun b31 => ?_)
          · refine Ew_of (pcₚ := 74) (fun _ => x_iinc (len := 3) rfl (l40_8)) ?_
            refine Ew_of (pcₚ := 40) (fun _ => x_goto rfl rfl) ?_
            have : CA (sh ((w54)) ((a2))) (a3) (a4) (sh ((w40_71)) ((a5))) (((x40_8 + 1))) := by first | assumption | exact CA_skip j40_c rfl (by omega)
            have : ∀ s, 0 ≤ s → s < ((x40_8 + 1)) → (sh ((w54)) ((a2))) s < 0 → (sh ((w40_71)) ((a5))) (p2 ((a4)) - 1 - ngs (sh ((w54)) ((a2))) s) = s := by first | assumption | exact (fun s a b c => by by_cases e : s = ((x40_8 + 1)) - 1; (rw [e] at c; rw [show ((x40_8 + 1)) - 1 = x40_8 by omega] at c; omega); exact j40_n s a (by omega) c)
            have : ∀ k, 0 ≤ k → k < (x40_7) → (sh ((w40_71)) ((a5))) k = -1 := by assumption
            exact ih40 _ (msE hm40 q_16 (q_17 b3)) _ σ _ _ (x40_7) ((x40_8 + 1)) (rk_o (l40_0) rfl rfl) (rk_o (l40_1) rfl rfl) (rk_o (l40_2) rfl rfl) (rk_o (l40_3) rfl rfl) (rk_o (l40_4) rfl rfl) (rk_o (l40_5) rfl rfl) (rk_o (l40_6) rfl rfl) (rk_o (l40_7) rfl rfl) (rk_s) H (hS_40) (hA_40)  (w40_71) (ew40_71) (show inr (x40_7) from j40_0) (show inr ((x40_8 + 1)) from q_2400 b3 h5 j40_2) (show (0) ≤ ((x40_8 + 1)) from q_14 j40_2) (show ((x40_8 + 1)) ≤ (0) ∨ ((x40_8 + 1)) ≤ ((a3)) from q_13 b3) (show (x40_7) = p2 ((a4)) - ngs (sh ((w54)) ((a2))) (((x40_8 + 1))) by omega) (show 0 ≤ (x40_7) ∧ (x40_7) ≤ p2 ((a4)) from j40_5) (show ∀ s, 0 ≤ s → s < ((x40_8 + 1)) → (sh ((w54)) ((a2))) s < 0 → (sh ((w40_71)) ((a5))) (p2 ((a4)) - 1 - ngs (sh ((w54)) ((a2))) s) = s by assumption) (j40_m) (show CA (sh ((w54)) ((a2))) (a3) (a4) (sh ((w40_71)) ((a5))) (((x40_8 + 1))) by assumption) (j40_9) rfl
          · refine Ew_of (pcₚ := 59) (fun _ => x_iinc (len := 3) rfl (l40_7)) ?_
            refine Ew_of (pcₚ := 60) (fun _ => x_aload_n rfl (rk_o (l40_0) rfl rfl)) ?_
            have : FRM ((w71)) (upd1 ((w40_71)) ((a5) + ((x40_7 + (-1)))) ((x40_8))) (a5) ((a5) + p2 ((a4))) := FRM_upd (by assumption) (by omega) (by omega)
            have hpp : (sh ((w40_71)) ((a5))) (((x40_7 + (-1)))) = -1 := j40_m (((x40_7 + (-1)))) (by omega) (by omega)
            have hlt : (sh ((w54)) ((a2))) ((x40_8)) < 0 := q_1319 b31 ev30 hpe
            have hc2 : CA (sh ((w54)) ((a2))) (a3) (a4) (sh (upd1 ((w40_71)) ((a5) + ((x40_7 + (-1)))) ((x40_8))) ((a5))) ((x40_8) + 1) := by rw [sh_upd]; exact CA_neg j40_c rfl hlt (by omega) (by omega) hpp
            have hn2 : ∀ s, 0 ≤ s → s < (x40_8) + 1 → (sh ((w54)) ((a2))) s < 0 → (sh (upd1 ((w40_71)) ((a5) + ((x40_7 + (-1)))) ((x40_8))) ((a5))) (p2 ((a4)) - 1 - ngs (sh ((w54)) ((a2))) s) = s := fun s a b c => by rw [sh_upd]; by_cases e : s = (x40_8); (rw [e, show p2 ((a4)) - 1 - ngs (sh ((w54)) ((a2))) ((x40_8)) = ((x40_7 + (-1))) by omega, upd1_s]); (have hm := ngs_mono (P := sh ((w54)) ((a2))) (s := s + 1) (t := (x40_8)) (by omega) (by omega); have hs := ngs_s (P := sh ((w54)) ((a2))) (s := s) (by omega); have hq := neg1_eq ((sh ((w54)) ((a2))) s); rw [upd1_o (by omega)]; exact j40_n s a (by omega) c)
            have hm2 : ∀ k, 0 ≤ k → k < ((x40_7 + (-1))) → (sh (upd1 ((w40_71)) ((a5) + ((x40_7 + (-1)))) ((x40_8))) ((a5))) k = -1 := fun k a b => by rw [sh_upd, upd1_o (by omega)]; exact j40_m k a (by omega)
            refine w_gT H (o := 6) (t := 71) rfl (H.perm 6 rfl) rfl rfl rfl rfl rfl rfl ?_
            refine Ew_of (pcₚ := 65) (fun _ => x_iload rfl (rk_o (l40_5) rfl rfl)) ?_
            refine Ew_of (pcₚ := 67) (fun _ => x_iload rfl rk_s) ?_
            refine w_iadd rfl ?_
            refine Ew_of (pcₚ := 70) (fun _ => x_iload rfl (rk_o (l40_8) rfl rfl)) ?_
            refine w_sI H (o := 71) (n := 2048) rfl (H.perm 71 rfl) rfl rfl (H.fix 71 rfl rfl) (show 0 ≤ (a5 + (x40_7 + (-1))) ∧ (a5 + (x40_7 + (-1))) < ((2048 : Nat) : Int) by omega) (by decide) (show (-1 : Int) ≤ x40_8 ∧ x40_8 ≤ 63 from q_1317 b3 h5 j40_2) (fun σ H => ?_)
            refine Ew_of (pcₚ := 74) (fun _ => x_iinc (len := 3) rfl (rk_o (l40_8) rfl rfl)) ?_
            refine Ew_of (pcₚ := 40) (fun _ => x_goto rfl rfl) ?_
            have : CA (sh ((w54)) ((a2))) (a3) (a4) (sh ((upd1 (w40_71) ((a5 + (x40_7 + (-1)))) (x40_8))) ((a5))) (((x40_8 + 1))) := by first | assumption | exact CA_skip j40_c rfl (by omega)
            have : ∀ s, 0 ≤ s → s < ((x40_8 + 1)) → (sh ((w54)) ((a2))) s < 0 → (sh ((upd1 (w40_71) ((a5 + (x40_7 + (-1)))) (x40_8))) ((a5))) (p2 ((a4)) - 1 - ngs (sh ((w54)) ((a2))) s) = s := by first | assumption | exact (fun s a b c => by by_cases e : s = ((x40_8 + 1)) - 1; (rw [e] at c; rw [show ((x40_8 + 1)) - 1 = x40_8 by omega] at c; omega); exact j40_n s a (by omega) c)
            have : ∀ k, 0 ≤ k → k < ((x40_7 + (-1))) → (sh ((upd1 (w40_71) ((a5 + (x40_7 + (-1)))) (x40_8))) ((a5))) k = -1 := by assumption
            exact ih40 _ (msE hm40 q_16 (q_17 b3)) _ σ _ _ ((x40_7 + (-1))) ((x40_8 + 1)) (rk_o (rk_o (l40_0) rfl rfl) rfl rfl) (rk_o (rk_o (l40_1) rfl rfl) rfl rfl) (rk_o (rk_o (l40_2) rfl rfl) rfl rfl) (rk_o (rk_o (l40_3) rfl rfl) rfl rfl) (rk_o (rk_o (l40_4) rfl rfl) rfl rfl) (rk_o (rk_o (l40_5) rfl rfl) rfl rfl) (rk_o (rk_o (l40_6) rfl rfl) rfl rfl) (rk_o (rk_s) rfl rfl) (rk_s) H (hS_40) (SA_upd (hA_40) rfl)  (upd1 (w40_71) ((a5 + (x40_7 + (-1)))) (x40_8)) (congrArg (fun q => upd1 q ((a5 + (x40_7 + (-1)))) (x40_8)) (ew40_71)) (show inr ((x40_7 + (-1))) from q_1320 j40_0 j40_5) (show inr ((x40_8 + 1)) from q_2400 b3 h5 j40_2) (show (0) ≤ ((x40_8 + 1)) from q_14 j40_2) (show ((x40_8 + 1)) ≤ (0) ∨ ((x40_8 + 1)) ≤ ((a3)) from q_13 b3) (show ((x40_7 + (-1))) = p2 ((a4)) - ngs (sh ((w54)) ((a2))) (((x40_8 + 1))) by omega) (show 0 ≤ ((x40_7 + (-1))) ∧ ((x40_7 + (-1))) ≤ p2 ((a4)) by omega) (hn2) (hm2) (hc2) (show FRM ((w71)) ((upd1 (w40_71) ((a5 + (x40_7 + (-1)))) (x40_8))) (a5) ((a5) + p2 ((a4))) by assumption) rfl
    · have : FRM ((w71)) (upd1 ((w9_71)) ((a5) + (x9_7)) (-1)) (a5) ((a5) + p2 ((a4))) := FRM_upd (by assumption) (by omega) (by omega)
      refine Ew_of (pcₚ := 17) (fun _ => x_aload_n rfl l9_0) ?_
      refine w_gT H (o := 6) (t := 71) rfl (H.perm 6 rfl) rfl rfl rfl rfl rfl rfl ?_
      refine Ew_of (pcₚ := 22) (fun _ => x_iload rfl l9_5) ?_
      refine Ew_of (pcₚ := 24) (fun _ => x_iload rfl l9_7) ?_
      refine w_iadd rfl ?_
      refine Ew_of (pcₚ := 26) (fun _ => x_iconst rfl) ?_
      refine w_sI H (o := 71) (n := 2048) rfl (H.perm 71 rfl) rfl rfl (H.fix 71 rfl rfl) (show 0 ≤ (a5 + x9_7) ∧ (a5 + x9_7) < ((2048 : Nat) : Int) from q_2389 b2 h6 j9_1) (by decide) (show (-1 : Int) ≤ (-1) ∧ (-1) ≤ 63 from q_1321) (fun σ H => ?_)
      refine Ew_of (pcₚ := 30) (fun _ => x_iinc (len := 3) rfl (l9_7)) ?_
      refine Ew_of (pcₚ := 9) (fun _ => x_goto rfl rfl) ?_
      have : ∀ k, (0 : Int) ≤ k → k < ((x9_7 + 1)) → ((upd1 (w9_71) ((a5 + x9_7)) ((-1)))) ((a5) + k) = -1 := fill_upd j9_3
      exact ih9 _ (msE hm9 q_16 (q_17 b2)) _ σ _ _ ((x9_7 + 1)) (rk_o (l9_0) rfl rfl) (rk_o (l9_1) rfl rfl) (rk_o (l9_2) rfl rfl) (rk_o (l9_3) rfl rfl) (rk_o (l9_4) rfl rfl) (rk_o (l9_5) rfl rfl) (rk_o (l9_6) rfl rfl) (rk_s) H (hS_9) (SA_upd (hA_9) rfl)  (upd1 (w9_71) ((a5 + x9_7)) ((-1))) (congrArg (fun q => upd1 q ((a5 + x9_7)) ((-1))) (ew9_71)) (show inr ((x9_7 + 1)) from q_2392 b2 h6 j9_1) (show (0) ≤ ((x9_7 + 1)) from q_14 j9_1) (show ((x9_7 + 1)) ≤ (0) ∨ ((x9_7 + 1)) ≤ ((p2 (a4))) from q_13 b2) (show ∀ k, 0 ≤ k → k < ((x9_7 + 1)) → ((upd1 (w9_71) ((a5 + x9_7)) ((-1)))) ((a5) + k) = -1 by assumption) (show FRM ((w71)) ((upd1 (w9_71) ((a5 + x9_7)) ((-1)))) (a5) ((a5) + p2 ((a4))) by assumption) rfl


end
section
/-! 64.ref -/
theorem M409 {σ0 σ : rS} {D N : Nat → Nat} {F : hF} {A : hA} {d c s : Nat} {Q : wQ} (H : HS σ0 σ D N F A) {a1 a2 a3 a4 : Int} (w71 : Int → Int) (ew71 : A 71 = w71) (w72 : Int → Int) (ew72 : A 72 = w72) (w73 : Int → Int) (ew73 : A 73 = w73) (PP_ : Int → Int) (h0 : inr (a1)) (h1 : inr (a2)) (h2 : inr (a3)) (h3 : inr (a4)) (h4 : LD PP_ 64 ((a2)) (sh ((w71)) ((a1))) (sh ((w72)) ((a1))) (sh ((w73)) ((a1)))) (h5 : 5 ≤ (a2) ∧ (a2) ≤ 9) (h6 : 0 ≤ (a1) ∧ (a1) + p2 ((a2)) ≤ 2048) (h7 : 0 ≤ (a3) ∧ (a3) < 64) (h8 : 1 ≤ mass (PP_ (a3)) ∧ mass (PP_ (a3)) ≤ p2 ((a2))) (h9 : 0 ≤ (a4) ∧ (a4) < p2 ((a2))) (k : ∀ (z : Int) σ Fₚ Aₚ, HS σ0 σ D N Fₚ Aₚ → SF [] F Fₚ → SA [] A Aₚ → (inr (z)) → (0 ≤ (z) ∧ (z) < p2 ((a2))) → (LEAD (sh ((w71)) ((a1))) (sh ((w72)) ((a1))) (sh ((w73)) ((a1))) ((a2)) ((a3)) ((a4)) ((z))) → Q (some (I z)) σ c s) : Ew 409 (d + 0) 0 (rargs 0 [.ref (D 6), I a1, I a2, I a3, I a4]) [] σ c s Q := by
  refine Ew_of (pcₚ := 1) (fun _ => x_iconst rfl) ?_
  refine Ew_of (pcₚ := 3) (fun _ => x_istore rfl) ?_
  have hp5 := p2_5 (o := (a2)) (by omega)
  have : ∀ k, (0 : Int) ≤ k → k < 0 → ¬ LQ (sh ((w71)) ((a1))) (sh ((w72)) ((a1))) (sh ((w73)) ((a1))) ((a3)) ((a4)) (k) := fun k a b => absurd b (by omega)
  suffices hl3 : ∀ (m : Nat), ∀ (ls : rO) (σ : rS) (F_3 : hF) (A_3 : hA) (x3_5 : Int), rlook ls 0 = some (.ref (D 6)) → rlook ls 1 = some (I (a1)) → rlook ls 2 = some (I (a2)) → rlook ls 3 = some (I (a3)) → rlook ls 4 = some (I (a4)) → rlook ls 5 = some (I (x3_5)) → HS σ0 σ D N F_3 A_3 → SF [] F F_3 → SA [] A A_3 → (inr (x3_5)) → (0 ≤ (x3_5) ∧ (x3_5) ≤ p2 ((a2))) → (∀ k, 0 ≤ k → k < (x3_5) → ¬ LQ (sh ((w71)) ((a1))) (sh ((w72)) ((a1))) (sh ((w73)) ((a1))) ((a3)) ((a4)) (k)) → (p2 ((a2)) - (x3_5)).toNat = m → Ew 409 (d + 0) 3 ls [] σ c s Q from
    hl3 _ _ σ _ _ (0) (rk_o (rfl) rfl rfl) (rk_o (rfl) rfl rfl) (rk_o (rfl) rfl rfl) (rk_o (rfl) rfl rfl) (rk_o (rfl) rfl rfl) (rk_s) H (SF_refl) (SA_refl)   (show inr (0) from q_2) (show 0 ≤ (0) ∧ (0) ≤ p2 ((a2)) from q_2401 h9) (show ∀ k, 0 ≤ k → k < (0) → ¬ LQ (sh ((w71)) ((a1))) (sh ((w72)) ((a1))) (sh ((w73)) ((a1))) ((a3)) ((a4)) (k) by assumption) rfl
  as_aux_lemma =>
  intro m
  induction m using Nat.strongRecOn with
  | _ m ih3 =>
    intro ls σ F_3 A_3 x3_5 l3_0 l3_1 l3_2 l3_3 l3_4 l3_5 H hS_3 hA_3   j3_0 j3_1 j3_2 hm3
    refine Ew_of (pcₚ := 5) (fun _ => x_iload rfl l3_5) ?_
    refine Ew_of (pcₚ := 6) (fun _ => x_iconst rfl) ?_
    refine Ew_of (pcₚ := 7) (fun _ => x_iload_n rfl l3_2) ?_
    refine w_ishl1 rfl (show 0 ≤ a2 ∧ a2 ≤ 31 from q_1303 h5) ?_
    refine w_icmpge (t := 70) rfl rfl (show inr (x3_5) from j3_0) (show inr (p2 (a2)) from q_2388 h6 j3_1) (fun b2 => ?_) (fun b2 => ?_)
    · exfalso
      obtain ⟨k, k0, k1, k2, k3, k4⟩ := lead_ex (s := (a3)) (state := (a4)) (h4) (by omega) (by omega) (by omega) (by omega) (by omega) (by omega) (by omega)
      exact j3_2 k k0 (by omega) ⟨k2, k3, k4⟩
    · have e1 : (sh ((w71)) ((a1))) ((x3_5)) = ((w71)) ((a1) + (x3_5)) := rfl
      have e2 : (sh ((w72)) ((a1))) ((x3_5)) = ((w72)) ((a1) + (x3_5)) := rfl
      have e3 : (sh ((w73)) ((a1))) ((x3_5)) = ((w73)) ((a1) + (x3_5)) := rfl
      refine Ew_of (pcₚ := 12) (fun _ => x_aload_n rfl l3_0) ?_
      refine w_gT H (o := 6) (t := 73) rfl (H.perm 6 rfl) rfl rfl rfl rfl rfl rfl ?_
      refine Ew_of (pcₚ := 16) (fun _ => x_iload_n rfl l3_1) ?_
      refine Ew_of (pcₚ := 18) (fun _ => x_iload rfl l3_5) ?_
      refine w_iadd rfl ?_
      refine w_lI H (o := 73) (n := 2048) rfl (H.perm 73 rfl) rfl rfl (H.fix 73 rfl rfl) (show 0 ≤ (a1 + x3_5) ∧ (a1 + x3_5) < ((2048 : Nat) : Int) from q_2402 b2 h6 j3_1) (by decide) (fun v3 ev3 qv3 => ?_)
      have qv3 : (0 : Int) ≤ v3 ∧ v3 ≤ 511 := qv3
      have ev3 : (w73) ((a1 + x3_5)) = v3 := (congrFun ((funext (hA_3 73 rfl)).trans (ew73)) ((a1 + x3_5))).symm.trans ev3
      refine Ew_of (pcₚ := 22) (fun _ => x_istore rfl) ?_
      refine Ew_of (pcₚ := 23) (fun _ => x_aload_n rfl (rk_o (l3_0) rfl rfl)) ?_
      refine w_gT H (o := 6) (t := 71) rfl (H.perm 6 rfl) rfl rfl rfl rfl rfl rfl ?_
      refine Ew_of (pcₚ := 27) (fun _ => x_iload_n rfl (rk_o (l3_1) rfl rfl)) ?_
      refine Ew_of (pcₚ := 29) (fun _ => x_iload rfl (rk_o (l3_5) rfl rfl)) ?_
      refine w_iadd rfl ?_
      refine w_lI H (o := 71) (n := 2048) rfl (H.perm 71 rfl) rfl rfl (H.fix 71 rfl rfl) (show 0 ≤ (a1 + x3_5) ∧ (a1 + x3_5) < ((2048 : Nat) : Int) from q_2402 b2 h6 j3_1) (by decide) (fun v4 ev4 qv4 => ?_)
      have qv4 : (-1 : Int) ≤ v4 ∧ v4 ≤ 63 := qv4
      have ev4 : (w71) ((a1 + x3_5)) = v4 := (congrFun ((funext (hA_3 71 rfl)).trans (ew71)) ((a1 + x3_5))).symm.trans ev4
      refine Ew_of (pcₚ := 32) (fun _ => x_iload_n rfl (rk_o (l3_3) rfl rfl)) ?_
      refine w_icmpne (t := 64) rfl rfl (show inr (v4) from q_1316 qv4) (show inr (a3) from h2) (fun b5 => ?_) (fun b5 => ?_)
      · refine Ew_of (pcₚ := 67) (fun _ => x_iinc (len := 3) rfl (rk_o (l3_5) rfl rfl)) ?_
        refine Ew_of (pcₚ := 3) (fun _ => x_goto rfl rfl) ?_
        have hnq : ¬ LQ (sh ((w71)) ((a1))) (sh ((w72)) ((a1))) (sh ((w73)) ((a1))) ((a3)) ((a4)) (x3_5) := fun q => by unfold LQ at q; omega
        have : ∀ k, (0 : Int) ≤ k → k < ((x3_5 + 1)) → ¬ LQ (sh ((w71)) ((a1))) (sh ((w72)) ((a1))) (sh ((w73)) ((a1))) ((a3)) ((a4)) (k) := fun k a b => by by_cases e : k = x3_5; rw [e]; exact hnq; exact j3_2 k a (by omega)
        exact ih3 _ (msE hm3 q_16 (q_17 b2)) _ σ _ _ ((x3_5 + 1)) (rk_o (rk_o (l3_0) rfl rfl) rfl rfl) (rk_o (rk_o (l3_1) rfl rfl) rfl rfl) (rk_o (rk_o (l3_2) rfl rfl) rfl rfl) (rk_o (rk_o (l3_3) rfl rfl) rfl rfl) (rk_o (rk_o (l3_4) rfl rfl) rfl rfl) (rk_s) H (hS_3) (hA_3)   (show inr ((x3_5 + 1)) from q_2403 b2 h6 j3_1) (show 0 ≤ ((x3_5 + 1)) ∧ ((x3_5 + 1)) ≤ p2 ((a2)) from q_1395 b2 j3_1) (show ∀ k, 0 ≤ k → k < ((x3_5 + 1)) → ¬ LQ (sh ((w71)) ((a1))) (sh ((w72)) ((a1))) (sh ((w73)) ((a1))) ((a3)) ((a4)) (k) by assumption) rfl
      · refine Ew_of (pcₚ := 37) (fun _ => x_iload rfl (rk_o (l3_4) rfl rfl)) ?_
        refine Ew_of (pcₚ := 39) (fun _ => x_iload rfl rk_s) ?_
        refine w_icmplt (t := 64) rfl rfl (show inr (a4) from h3) (show inr (v3) from q_2404 qv3) (fun b6 => ?_) (fun b6 => ?_)
        · refine Ew_of (pcₚ := 67) (fun _ => x_iinc (len := 3) rfl (rk_o (l3_5) rfl rfl)) ?_
          refine Ew_of (pcₚ := 3) (fun _ => x_goto rfl rfl) ?_
          have hnq : ¬ LQ (sh ((w71)) ((a1))) (sh ((w72)) ((a1))) (sh ((w73)) ((a1))) ((a3)) ((a4)) (x3_5) := fun q => by unfold LQ at q; omega
          have : ∀ k, (0 : Int) ≤ k → k < ((x3_5 + 1)) → ¬ LQ (sh ((w71)) ((a1))) (sh ((w72)) ((a1))) (sh ((w73)) ((a1))) ((a3)) ((a4)) (k) := fun k a b => by by_cases e : k = x3_5; rw [e]; exact hnq; exact j3_2 k a (by omega)
          exact ih3 _ (msE hm3 q_16 (q_17 b2)) _ σ _ _ ((x3_5 + 1)) (rk_o (rk_o (l3_0) rfl rfl) rfl rfl) (rk_o (rk_o (l3_1) rfl rfl) rfl rfl) (rk_o (rk_o (l3_2) rfl rfl) rfl rfl) (rk_o (rk_o (l3_3) rfl rfl) rfl rfl) (rk_o (rk_o (l3_4) rfl rfl) rfl rfl) (rk_s) H (hS_3) (hA_3)   (show inr ((x3_5 + 1)) from q_2403 b2 h6 j3_1) (show 0 ≤ ((x3_5 + 1)) ∧ ((x3_5 + 1)) ≤ p2 ((a2)) from q_1395 b2 j3_1) (show ∀ k, 0 ≤ k → k < ((x3_5 + 1)) → ¬ LQ (sh ((w71)) ((a1))) (sh ((w72)) ((a1))) (sh ((w73)) ((a1))) ((a3)) ((a4)) (k) by assumption) rfl
        · refine Ew_of (pcₚ := 44) (fun _ => x_iload rfl (rk_o (l3_4) rfl rfl)) ?_
          refine Ew_of (pcₚ := 46) (fun _ => x_iload rfl rk_s) ?_
          refine Ew_of (pcₚ := 47) (fun _ => x_iconst rfl) ?_
          refine Ew_of (pcₚ := 48) (fun _ => x_aload_n rfl (rk_o (l3_0) rfl rfl)) ?_
          refine w_gT H (o := 6) (t := 72) rfl (H.perm 6 rfl) rfl rfl rfl rfl rfl rfl ?_
          refine Ew_of (pcₚ := 52) (fun _ => x_iload_n rfl (rk_o (l3_1) rfl rfl)) ?_
          refine Ew_of (pcₚ := 54) (fun _ => x_iload rfl (rk_o (l3_5) rfl rfl)) ?_
          refine w_iadd rfl ?_
          refine w_lI H (o := 72) (n := 2048) rfl (H.perm 72 rfl) rfl rfl (H.fix 72 rfl rfl) (show 0 ≤ (a1 + x3_5) ∧ (a1 + x3_5) < ((2048 : Nat) : Int) from q_2402 b2 h6 j3_1) (by decide) (fun v7 ev7 qv7 => ?_)
          have qv7 : (0 : Int) ≤ v7 ∧ v7 ≤ 9 := qv7
          have ev7 : (w72) ((a1 + x3_5)) = v7 := (congrFun ((funext (hA_3 72 rfl)).trans (ew72)) ((a1 + x3_5))).symm.trans ev7
          have : p2 ((v7)) ≤ p2 9 := p2_mono (by omega)
          have : p2 9 = 512 := by decide
          have := p2_pos ((v7))
          have e4 : p2 ((sh ((w72)) ((a1))) ((x3_5))) = p2 ((v7)) := by rw [e2, ev7]
          refine w_ishl1 rfl (show 0 ≤ v7 ∧ v7 ≤ 31 from q_1731 qv7) ?_
          refine w_iadd rfl ?_
          refine w_icmpge (t := 64) rfl rfl (show inr (a4) from h3) (show inr ((v3 + p2 (v7))) by omega) (fun b9 => ?_) (fun b9 => ?_)
          · refine Ew_of (pcₚ := 67) (fun _ => x_iinc (len := 3) rfl (rk_o (l3_5) rfl rfl)) ?_
            refine Ew_of (pcₚ := 3) (fun _ => x_goto rfl rfl) ?_
            have hnq : ¬ LQ (sh ((w71)) ((a1))) (sh ((w72)) ((a1))) (sh ((w73)) ((a1))) ((a3)) ((a4)) (x3_5) := fun q => by unfold LQ at q; omega
            have : ∀ k, (0 : Int) ≤ k → k < ((x3_5 + 1)) → ¬ LQ (sh ((w71)) ((a1))) (sh ((w72)) ((a1))) (sh ((w73)) ((a1))) ((a3)) ((a4)) (k) := fun k a b => by by_cases e : k = x3_5; rw [e]; exact hnq; exact j3_2 k a (by omega)
            exact ih3 _ (msE hm3 q_16 (q_17 b2)) _ σ _ _ ((x3_5 + 1)) (rk_o (rk_o (l3_0) rfl rfl) rfl rfl) (rk_o (rk_o (l3_1) rfl rfl) rfl rfl) (rk_o (rk_o (l3_2) rfl rfl) rfl rfl) (rk_o (rk_o (l3_3) rfl rfl) rfl rfl) (rk_o (rk_o (l3_4) rfl rfl) rfl rfl) (rk_s) H (hS_3) (hA_3)   (show inr ((x3_5 + 1)) from q_2403 b2 h6 j3_1) (show 0 ≤ ((x3_5 + 1)) ∧ ((x3_5 + 1)) ≤ p2 ((a2)) from q_1395 b2 j3_1) (show ∀ k, 0 ≤ k → k < ((x3_5 + 1)) → ¬ LQ (sh ((w71)) ((a1))) (sh ((w72)) ((a1))) (sh ((w73)) ((a1))) ((a3)) ((a4)) (k) by assumption) rfl
          · have : LEAD (sh ((w71)) ((a1))) (sh ((w72)) ((a1))) (sh ((w73)) ((a1))) ((a2)) ((a3)) ((a4)) ((x3_5)) := ⟨by omega, by omega, ⟨by omega, by omega, by omega⟩, j3_2⟩
            refine Ew_of (pcₚ := 63) (fun _ => x_iload rfl (rk_o (l3_5) rfl rfl)) ?_
            exact w_ireturn rfl (k (x3_5) σ _ _ H (SF_trans (SF_refl) hS_3 (any_sub rfl)) (SA_trans (SA_refl) hA_3 (any_subA rfl)) (show inr (x3_5) from j3_0) (show 0 ≤ (x3_5) ∧ (x3_5) < p2 (a2) from q_2405 b2 j3_1) (show LEAD (sh ((w71)) (a1)) (sh ((w72)) (a1)) (sh ((w73)) (a1)) (a2) (a3) (a4) ((x3_5)) by assumption))

theorem M408 {σ0 σ : rS} {D N : Nat → Nat} {F : hF} {A : hA} {d c s : Nat} {Q : wQ} (H : HS σ0 σ D N F A) {a1 a2 a3 a4 : Int} (w71 : Int → Int) (ew71 : A 71 = w71) (w72 : Int → Int) (ew72 : A 72 = w72) (w73 : Int → Int) (ew73 : A 73 = w73) (PP_ : Int → Int) (h0 : inr (a1)) (h1 : inr (a2)) (h2 : inr (a3)) (h3 : inr (a4)) (h4 : (a4) = 0 ∨ (a4) = 1) (h5 : LD PP_ 64 ((a2)) (sh ((w71)) ((a1))) (sh ((w72)) ((a1))) (sh ((w73)) ((a1)))) (h6 : 5 ≤ (a2) ∧ (a2) ≤ 9) (h7 : 0 ≤ (a1) ∧ (a1) + p2 ((a2)) ≤ 2048) (h8 : 0 ≤ (a3) ∧ (a3) < 64) (h9 : 1 ≤ mass (PP_ (a3))) (h10 : (a4) = 1 → mass (PP_ (a3)) < p2 ((a2))) (k : ∀ (z : Int) σ Fₚ Aₚ, HS σ0 σ D N Fₚ Aₚ → SF [] F Fₚ → SA [] A Aₚ → (inr (z)) → (0 ≤ (z) ∧ (z) < p2 ((a2))) → (LOW (sh ((w71)) ((a1))) (sh ((w72)) ((a1))) ((a2)) ((a3)) ((a4)) ((z))) → Q (some (I z)) σ c s) : Ew 408 (d + 0) 0 (rargs 0 [.ref (D 6), I a1, I a2, I a3, I a4]) [] σ c s Q := by
  refine Ew_of (pcₚ := 1) (fun _ => x_iconst rfl) ?_
  refine Ew_of (pcₚ := 3) (fun _ => x_istore rfl) ?_
  have hp5 := p2_5 (o := (a2)) (by omega)
  have : ∀ k, (0 : Int) ≤ k → k < 0 → ¬ WQ (sh ((w71)) ((a1))) (sh ((w72)) ((a1))) ((a3)) ((a4)) (k) := fun k a b => absurd b (by omega)
  obtain ⟨m0, hm0⟩ := FP_ex (low_ex (s := (a3)) (must := (a4)) (h5) (by omega) (by omega) (by omega) (by omega) (by assumption))
  suffices hl3 : ∀ (m : Nat), ∀ (ls : rO) (σ : rS) (F_3 : hF) (A_3 : hA) (x3_5 : Int), rlook ls 0 = some (.ref (D 6)) → rlook ls 1 = some (I (a1)) → rlook ls 3 = some (I (a3)) → rlook ls 4 = some (I (a4)) → rlook ls 5 = some (I (x3_5)) → HS σ0 σ D N F_3 A_3 → SF [] F F_3 → SA [] A A_3 → (inr (x3_5)) → (0 ≤ (x3_5)) → (∀ k, 0 ≤ k → k < (x3_5) → ¬ WQ (sh ((w71)) ((a1))) (sh ((w72)) ((a1))) ((a3)) ((a4)) (k)) → (FP (fun k => WQ (sh ((w71)) ((a1))) (sh ((w72)) ((a1))) ((a3)) ((a4)) (k)) (p2 ((a2))) ((x3_5)) m) → Ew 408 (d + 0) 3 ls [] σ c s Q from
    hl3 (m0) _ σ _ _ (0) (rk_o (rfl) rfl rfl) (rk_o (rfl) rfl rfl) (rk_o (rfl) rfl rfl) (rk_o (rfl) rfl rfl) (rk_s) H (SF_refl) (SA_refl)   (show inr (0) from q_2) (show 0 ≤ (0) from q_1) (show ∀ k, 0 ≤ k → k < (0) → ¬ WQ (sh ((w71)) ((a1))) (sh ((w72)) ((a1))) ((a3)) ((a4)) (k) by assumption) (by assumption)
  as_aux_lemma =>
  intro m
  induction m using Nat.strongRecOn with
  | _ m ih3 =>
    intro ls σ F_3 A_3 x3_5 l3_0 l3_1 l3_3 l3_4 l3_5 H hS_3 hA_3   j3_0 j3_1 j3_2 hm3
    have hfl := FP_lt hm3
    have e1 : (sh ((w71)) ((a1))) ((x3_5)) = ((w71)) ((a1) + (x3_5)) := rfl
    have e2 : (sh ((w72)) ((a1))) ((x3_5)) = ((w72)) ((a1) + (x3_5)) := rfl
    refine Ew_of (pcₚ := 4) (fun _ => x_aload_n rfl l3_0) ?_
    refine w_gT H (o := 6) (t := 71) rfl (H.perm 6 rfl) rfl rfl rfl rfl rfl rfl ?_
    refine Ew_of (pcₚ := 8) (fun _ => x_iload_n rfl l3_1) ?_
    refine Ew_of (pcₚ := 10) (fun _ => x_iload rfl l3_5) ?_
    refine w_iadd rfl ?_
    refine w_lI H (o := 71) (n := 2048) rfl (H.perm 71 rfl) rfl rfl (H.fix 71 rfl rfl) (show 0 ≤ (a1 + x3_5) ∧ (a1 + x3_5) < ((2048 : Nat) : Int) by omega) (by decide) (fun v1 ev1 qv1 => ?_)
    have qv1 : (-1 : Int) ≤ v1 ∧ v1 ≤ 63 := qv1
    have ev1 : (w71) ((a1 + x3_5)) = v1 := (congrFun ((funext (hA_3 71 rfl)).trans (ew71)) ((a1 + x3_5))).symm.trans ev1
    refine Ew_of (pcₚ := 13) (fun _ => x_iload_n rfl l3_3) ?_
    refine w_icmpne (t := 33) rfl rfl (show inr (v1) from q_1316 qv1) (show inr (a3) from h2) (fun b2 => ?_) (fun b2 => ?_)
    · refine Ew_of (pcₚ := 36) (fun _ => x_iinc (len := 3) rfl (l3_5)) ?_
      refine Ew_of (pcₚ := 3) (fun _ => x_goto rfl rfl) ?_
      have hnq : ¬ WQ (sh ((w71)) ((a1))) (sh ((w72)) ((a1))) ((a3)) ((a4)) (x3_5) := fun q => by unfold WQ at q; omega
      have : ∀ k, (0 : Int) ≤ k → k < ((x3_5 + 1)) → ¬ WQ (sh ((w71)) ((a1))) (sh ((w72)) ((a1))) ((a3)) ((a4)) (k) := fun k a b => by by_cases e : k = x3_5; rw [e]; exact hnq; exact j3_2 k a (by omega)
      have hfn := FP_next hm3 hnq (show ((x3_5 + 1)) = x3_5 + 1 from rfl)
      have := hfn.1
      have := hfn.2
      exact ih3 (m - 1) (by omega) _ σ _ _ ((x3_5 + 1)) (rk_o (l3_0) rfl rfl) (rk_o (l3_1) rfl rfl) (rk_o (l3_3) rfl rfl) (rk_o (l3_4) rfl rfl) (rk_s) H (hS_3) (hA_3)   (show inr ((x3_5 + 1)) by omega) (show 0 ≤ ((x3_5 + 1)) from q_14 j3_1) (show ∀ k, 0 ≤ k → k < ((x3_5 + 1)) → ¬ WQ (sh ((w71)) ((a1))) (sh ((w72)) ((a1))) ((a3)) ((a4)) (k) by assumption) (by assumption)
    · refine Ew_of (pcₚ := 18) (fun _ => x_iload rfl l3_4) ?_
      refine w_ifeq (t := 39) rfl rfl (show inr (a4) from h3) (fun b3 => ?_) (fun b3 => ?_)
      · have : LOW (sh ((w71)) ((a1))) (sh ((w72)) ((a1))) ((a2)) ((a3)) ((a4)) ((x3_5)) := ⟨by omega, by omega, ⟨by omega, by omega⟩, j3_2⟩
        refine Ew_of (pcₚ := 41) (fun _ => x_iload rfl l3_5) ?_
        exact w_ireturn rfl (k (x3_5) σ _ _ H (SF_trans (SF_refl) hS_3 (any_sub rfl)) (SA_trans (SA_refl) hA_3 (any_subA rfl)) (show inr (x3_5) from j3_0) (show 0 ≤ (x3_5) ∧ (x3_5) < p2 (a2) by omega) (show LOW (sh ((w71)) (a1)) (sh ((w72)) (a1)) (a2) (a3) (a4) ((x3_5)) by assumption))
      · refine Ew_of (pcₚ := 22) (fun _ => x_aload_n rfl l3_0) ?_
        refine w_gT H (o := 6) (t := 72) rfl (H.perm 6 rfl) rfl rfl rfl rfl rfl rfl ?_
        refine Ew_of (pcₚ := 26) (fun _ => x_iload_n rfl l3_1) ?_
        refine Ew_of (pcₚ := 28) (fun _ => x_iload rfl l3_5) ?_
        refine w_iadd rfl ?_
        refine w_lI H (o := 72) (n := 2048) rfl (H.perm 72 rfl) rfl rfl (H.fix 72 rfl rfl) (show 0 ≤ (a1 + x3_5) ∧ (a1 + x3_5) < ((2048 : Nat) : Int) by omega) (by decide) (fun v4 ev4 qv4 => ?_)
        have qv4 : (0 : Int) ≤ v4 ∧ v4 ≤ 9 := qv4
        have ev4 : (w72) ((a1 + x3_5)) = v4 := (congrFun ((funext (hA_3 72 rfl)).trans (ew72)) ((a1 + x3_5))).symm.trans ev4
        refine w_ifne (t := 39) rfl rfl (show inr (v4) from q_1732 qv4) (fun b5 => ?_) (fun b5 => ?_)
        · have : LOW (sh ((w71)) ((a1))) (sh ((w72)) ((a1))) ((a2)) ((a3)) ((a4)) ((x3_5)) := ⟨by omega, by omega, ⟨by omega, by omega⟩, j3_2⟩
          refine Ew_of (pcₚ := 41) (fun _ => x_iload rfl l3_5) ?_
          exact w_ireturn rfl (k (x3_5) σ _ _ H (SF_trans (SF_refl) hS_3 (any_sub rfl)) (SA_trans (SA_refl) hA_3 (any_subA rfl)) (show inr (x3_5) from j3_0) (show 0 ≤ (x3_5) ∧ (x3_5) < p2 (a2) by omega) (show LOW (sh ((w71)) (a1)) (sh ((w72)) (a1)) (a2) (a3) (a4) ((x3_5)) by assumption))
        · refine Ew_of (pcₚ := 36) (fun _ => x_iinc (len := 3) rfl (l3_5)) ?_
          refine Ew_of (pcₚ := 3) (fun _ => x_goto rfl rfl) ?_
          have hnq : ¬ WQ (sh ((w71)) ((a1))) (sh ((w72)) ((a1))) ((a3)) ((a4)) (x3_5) := fun q => by unfold WQ at q; omega
          have : ∀ k, (0 : Int) ≤ k → k < ((x3_5 + 1)) → ¬ WQ (sh ((w71)) ((a1))) (sh ((w72)) ((a1))) ((a3)) ((a4)) (k) := fun k a b => by by_cases e : k = x3_5; rw [e]; exact hnq; exact j3_2 k a (by omega)
          have hfn := FP_next hm3 hnq (show ((x3_5 + 1)) = x3_5 + 1 from rfl)
          have := hfn.1
          have := hfn.2
          exact ih3 (m - 1) (by omega) _ σ _ _ ((x3_5 + 1)) (rk_o (l3_0) rfl rfl) (rk_o (l3_1) rfl rfl) (rk_o (l3_3) rfl rfl) (rk_o (l3_4) rfl rfl) (rk_s) H (hS_3) (hA_3)   (show inr ((x3_5 + 1)) by omega) (show 0 ≤ ((x3_5 + 1)) from q_14 j3_1) (show ∀ k, 0 ≤ k → k < ((x3_5 + 1)) → ¬ WQ (sh ((w71)) ((a1))) (sh ((w72)) ((a1))) ((a3)) ((a4)) (k) by assumption) (by assumption)


end
section
/-! 65.ref -/
theorem M410_75 {σ0 σ : rS} {D N : Nat → Nat} {F : hF} {A : hA} {d c s : Nat} {Q : wQ} (H : HS σ0 σ D N F A) {a1 a3 a4 : Int} (u6_28 : Int) (eu6_28 : F 6 28 = u6_28) (w66 : Int → Int) (ew66 : A 66 = w66) (w75 : Int → Int) (ew75 : A 75 = w75) (lst : Int) (h0 : inr (a1)) (h1 : inr (a3)) (h2 : inr (a4)) (h3 : 0 ≤ (a1) ∧ (a1) ≤ 2) (h4 : SH ((w75)) (a3) 64 (a4) lst) (h5 : 0 ≤ (a3) ∧ (a3) + 64 ≤ 64) (h6 : 1 ≤ (u6_28)) (k : ∀ (z : Int) σ Fₚ Aₚ, HS σ0 σ D N Fₚ Aₚ → SF [] F Fₚ → SA [71, 72, 73, 74] A Aₚ → (inr (z)) → ((z) = -1 ∨ (a4) ≤ (z) ∧ (z) ≤ (a4) * (u6_28)) → ((z) ≠ -1 → COST (sh ((w75)) ((a3))) ((a4)) (sh ((w66)) (8001 * (a1))) ((u6_28)) ((z))) → ((∀ j, 0 ≤ j → j < (u6_28) → (sh ((w75)) ((a3))) ((sh ((w66)) (8001 * (a1))) j) ≠ 0) → (z) ≠ -1) → Q (some (I z)) σ c s) : Ew 410 (d + 2) 0 (rargs 0 [.ref (D 6), I a1, .ref (D 75), I a3, I a4]) [] σ c s Q := by
  have r1 : (0 : Int) ≤ u6_28 ∧ u6_28 ≤ 8001 := rngE (show (0 : Int) ≤ F 6 28 ∧ F 6 28 ≤ 8001 from H.frng 6 28) (show F 6 28 = u6_28 from (eu6_28))
  have hsh : SH ((w75)) (a3) 64 (a4) lst := h4
  have h59 : 5 ≤ (a4) ∧ (a4) ≤ 9 := ⟨hsh.1, hsh.2.1⟩
  have hp5 := p2_5 h59
  refine Ew_of (pcₚ := 1) (fun _ => x_iconst rfl) ?_
  refine Ew_of (pcₚ := 3) (fun _ => x_istore rfl) ?_
  have : ∀ j, 0 ≤ j → j < (0 : Int) → (sh ((w75)) ((a3))) ((sh ((w66)) (8001 * (a1))) j) ≠ 0 := fun j a b => absurd b (by omega)
  suffices hl3 : ∀ (m : Nat), ∀ (ls : rO) (σ : rS) (F_3 : hF) (A_3 : hA) (x3_5 : Int), rlook ls 0 = some (.ref (D 6)) → rlook ls 1 = some (I (a1)) → rlook ls 2 = some (.ref (D 75)) → rlook ls 3 = some (I (a3)) → rlook ls 4 = some (I (a4)) → rlook ls 5 = some (I (x3_5)) → HS σ0 σ D N F_3 A_3 → SF [] F F_3 → SA [] A A_3 → (inr (x3_5)) → ((0) ≤ (x3_5)) → ((x3_5) ≤ (0) ∨ (x3_5) ≤ ((u6_28))) → (∀ j, 0 ≤ j → j < (x3_5) → (sh ((w75)) ((a3))) ((sh ((w66)) (8001 * (a1))) j) ≠ 0) → (((u6_28)) - (x3_5)).toNat = m → Ew 410 (d + 2) 3 ls [] σ c s Q from
    hl3 _ _ σ _ _ (0) (rk_o (rfl) rfl rfl) (rk_o (rfl) rfl rfl) (rk_o (rfl) rfl rfl) (rk_o (rfl) rfl rfl) (rk_o (rfl) rfl rfl) (rk_s) H (SF_refl) (SA_refl)   (show inr (0) from q_2) (show (0) ≤ (0) from q_1) (show (0) ≤ (0) ∨ (0) ≤ ((u6_28)) from q_5) (show ∀ j, 0 ≤ j → j < (0) → (sh ((w75)) ((a3))) ((sh ((w66)) (8001 * (a1))) j) ≠ 0 by assumption) rfl
  as_aux_lemma =>
  intro m
  induction m using Nat.strongRecOn with
  | _ m ih3 =>
    intro ls σ F_3 A_3 x3_5 l3_0 l3_1 l3_2 l3_3 l3_4 l3_5 H hS_3 hA_3   j3_0 j3_1 j3_2 j3_3 hm3
    refine Ew_of (pcₚ := 5) (fun _ => x_iload rfl l3_5) ?_
    refine Ew_of (pcₚ := 6) (fun _ => x_aload_n rfl l3_0) ?_
    refine w_gI H (o := 6) (w := u6_28) rfl (H.perm 6 rfl) rfl rfl rfl (fun _ => rfl) ((hS_3 6 28 rfl).trans (eu6_28)) ?_
    refine w_icmpge (t := 40) rfl rfl (show inr (x3_5) from j3_0) (show inr (u6_28) from q_6 r1) (fun b2 => ?_) (fun b2 => ?_)
    · have hnz : ∀ j, 0 ≤ j → j < (u6_28) → (sh ((w75)) ((a3))) ((sh ((w66)) (8001 * (a1))) j) ≠ 0 := fun j a b => j3_3 j a (by omega)
      have hms : ∀ x, 0 ≤ x → x < 64 → (sh ((w75)) ((a3))) x ≠ 0 → 1 ≤ mass ((sh ((w75)) ((a3))) x) ∧ mass ((sh ((w75)) ((a3))) x) ≤ p2 ((a4)) := fun x a b c => by have h1 := SH_le x hsh a b; have h2 := mass_eq ((sh ((w75)) ((a3))) x); have h3 : (sh ((w75)) ((a3))) x = ((w75)) ((a3) + x) := rfl; have h4 : mass ((sh ((w75)) ((a3))) x) ≤ p2 ((a4)) := h1.2.2.1; omega
      refine Ew_of (pcₚ := 41) (fun _ => x_aload_n rfl l3_0) ?_
      refine Ew_of (pcₚ := 42) (fun _ => x_aload_n rfl l3_2) ?_
      refine Ew_of (pcₚ := 43) (fun _ => x_iload_n rfl l3_3) ?_
      refine Ew_of (pcₚ := 45) (fun _ => x_bipush (z := 64) rfl (by decide)) ?_
      refine Ew_of (pcₚ := 47) (fun _ => x_iload rfl l3_4) ?_
      refine Ew_of (pcₚ := 50) (fun _ => x_sipush (z := 512) rfl (by decide)) ?_
      refine Ew_of (pcₚ := 51) (fun _ => x_iload_n rfl l3_1) ?_
      refine w_imul rfl ?_
      refine w_inv H (o := 6) rfl rfl rfl (H.perm 6 rfl) rfl rfl (by rfl) (M407_75 H (A 71) (funext (hA_3 71 rfl)) (A 72) (funext (hA_3 72 rfl)) (A 73) (funext (hA_3 73 rfl)) (w75) ((funext (hA_3 75 rfl)).trans (ew75)) (lst) (show inr (a3) from h1) (show inr (64) from q_151) (show inr (a4) from h2) (show inr ((512 * a1)) from q_1336 h3) (hsh) (show 0 ≤ (a3) ∧ 1 ≤ (64) ∧ (64) ≤ 64 ∧ (a3) + (64) ≤ 64 from q_2406 h5) (show 0 ≤ ((512 * a1)) ∧ ((512 * a1)) + p2 ((a4)) ≤ 2048 by omega) (fun σ F3 A4 H hS5 hA6 wq8 ewq9 wq10 ewq11 wq12 ewq13 pz7_0 pz7_1 pz7_2 pz7_3 pz7_4 => ⟨rfl, ?_⟩))
      refine Ew_of (pcₚ := 56) (fun _ => x_aload_n rfl l3_0) ?_
      refine Ew_of (pcₚ := 59) (fun _ => x_sipush (z := 512) rfl (by decide)) ?_
      refine Ew_of (pcₚ := 60) (fun _ => x_iload_n rfl l3_1) ?_
      refine w_imul rfl ?_
      refine Ew_of (pcₚ := 63) (fun _ => x_iload rfl l3_4) ?_
      refine Ew_of (pcₚ := 64) (fun _ => x_aload_n rfl l3_0) ?_
      refine w_gT H (o := 6) (t := 66) rfl (H.perm 6 rfl) rfl rfl rfl rfl rfl rfl ?_
      refine Ew_of (pcₚ := 70) (fun _ => x_sipush (z := 8001) rfl (by decide)) ?_
      refine Ew_of (pcₚ := 71) (fun _ => x_iload_n rfl l3_1) ?_
      refine w_imul rfl ?_
      refine Ew_of (pcₚ := 73) (fun _ => x_aload_n rfl l3_0) ?_
      refine w_gI H (o := 6) (w := u6_28) rfl (H.perm 6 rfl) rfl rfl rfl (fun _ => rfl) (((hS5 6 28 rfl).trans (hS_3 6 28 rfl)).trans (eu6_28)) ?_
      refine w_iadd rfl ?_
      refine Ew_of (pcₚ := 78) (fun _ => x_iconst rfl) ?_
      refine w_isub rfl ?_
      refine w_lI H (o := 66) (n := 24003) rfl (H.perm 66 rfl) rfl rfl (H.fix 66 rfl rfl) (show 0 ≤ (((8001 * a1) + u6_28) - 1) ∧ (((8001 * a1) + u6_28) - 1) < ((24003 : Nat) : Int) from q_2407 h3 h6 r1) (by decide) (fun v14 ev14 qv14 => ?_)
      have qv14 : (0 : Int) ≤ v14 ∧ v14 ≤ 63 := qv14
      have ev14 : (w66) ((((8001 * a1) + u6_28) - 1)) = v14 := (congrFun ((funext (hA6 66 rfl)).trans ((funext (hA_3 66 rfl)).trans (ew66))) ((((8001 * a1) + u6_28) - 1))).symm.trans ev14
      have hlast : (sh ((w66)) (8001 * (a1))) ((u6_28) - 1) = (v14) := by show ((w66)) (8001 * (a1) + ((u6_28) - 1)) = (v14); rw [show 8001 * (a1) + ((u6_28) - 1) = 8001 * (a1) + (u6_28) - 1 by omega]; exact ev14
      have hnl := hnz ((u6_28) - 1) (by omega) (by omega)
      rw [hlast] at hnl
      have hml := hms ((v14)) (by omega) (by omega) hnl
      have : 1 ≤ mass ((sh ((w75)) ((a3))) ((v14))) := hml.1
      have : (0 : Int) = 1 → mass ((sh ((w75)) ((a3))) ((v14))) < p2 ((a4)) := fun q => absurd q (by decide)
      refine Ew_of (pcₚ := 81) (fun _ => x_iconst rfl) ?_
      refine w_inv H (o := 6) rfl rfl rfl (H.perm 6 rfl) rfl rfl (by rfl) (M408 H (wq8) (ewq9) (wq10) (ewq11) (wq12) (ewq13) (sh ((w75)) ((a3))) (show inr ((512 * a1)) from q_1336 h3) (show inr (a4) from h2) (show inr (v14) from q_2409 qv14) (show inr (0) from q_2) (show (0) = 0 ∨ (0) = 1 from q_45) (pz7_0) (show 5 ≤ (a4) ∧ (a4) ≤ 9 from h59) (show 0 ≤ ((512 * a1)) ∧ ((512 * a1)) + p2 ((a4)) ≤ 2048 by omega) (show 0 ≤ (v14) ∧ (v14) < 64 from q_2408 qv14) (show 1 ≤ mass ((sh ((w75)) ((a3))) (v14)) by assumption) (show (0) = 1 → mass ((sh ((w75)) ((a3))) (v14)) < p2 ((a4)) by assumption) (fun z19 σ F15 A16 H hS17 hA18 pz19_0 pz19_1 pz19_2 => ⟨rfl, ?_⟩))
      refine Ew_of (pcₚ := 86) (fun _ => x_istore rfl) ?_
      refine Ew_of (pcₚ := 88) (fun _ => x_iload rfl (rk_o (l3_4) rfl rfl)) ?_
      refine Ew_of (pcₚ := 90) (fun _ => x_istore rfl) ?_
      refine Ew_of (pcₚ := 91) (fun _ => x_aload_n rfl (rk_o (rk_o (l3_0) rfl rfl) rfl rfl)) ?_
      refine w_gI H (o := 6) (w := u6_28) rfl (H.perm 6 rfl) rfl rfl rfl (fun _ => rfl) ((((hS17 6 28 rfl).trans (hS5 6 28 rfl)).trans (hS_3 6 28 rfl)).trans (eu6_28)) ?_
      refine Ew_of (pcₚ := 95) (fun _ => x_iconst rfl) ?_
      refine w_isub rfl ?_
      refine Ew_of (pcₚ := 98) (fun _ => x_istore rfl) ?_
      have hlow := pz19_2
      have : CHN (sh ((wq8)) (512 * (a1))) (sh ((wq10)) (512 * (a1))) (sh ((wq12)) (512 * (a1))) ((a4)) (sh ((w66)) (8001 * (a1))) ((u6_28)) ((u6_28) - 2 - ((u6_28) - 2) : Int).toNat ((z19)) ((a4)) := by rw [show (u6_28) - 2 - ((u6_28) - 2) = 0 by omega]; exact ⟨by rw [hlast]; exact hlow, rfl⟩
      have hmu : (a4) * ((u6_28) - 1 - ((u6_28) - 2)) = (a4) := by rw [show (u6_28) - 1 - ((u6_28) - 2) = 1 by omega]; omega
      suffices hl98 : ∀ (m : Nat), ∀ (ls : rO) (σ : rS) (F_98 : hF) (A_98 : hA) (x98_5 : Int) (x98_6 : Int) (x98_7 : Int), rlook ls 0 = some (.ref (D 6)) → rlook ls 1 = some (I (a1)) → rlook ls 4 = some (I (a4)) → rlook ls 5 = some (I (x98_5)) → rlook ls 6 = some (I (x98_6)) → rlook ls 7 = some (I (x98_7)) → HS σ0 σ D N F_98 A_98 → SF [] F15 F_98 → SA [] A16 A_98 → (inr (x98_5)) → (inr (x98_6)) → (inr (x98_7)) → (-1 ≤ (x98_7) ∧ (x98_7) ≤ (u6_28) - 2) → (0 ≤ (x98_5) ∧ (x98_5) < p2 ((a4))) → (CHN (sh ((wq8)) (512 * (a1))) (sh ((wq10)) (512 * (a1))) (sh ((wq12)) (512 * (a1))) ((a4)) (sh ((w66)) (8001 * (a1))) ((u6_28)) ((u6_28) - 2 - (x98_7) : Int).toNat ((x98_5)) ((x98_6))) → ((a4) ≤ (x98_6) ∧ (x98_6) ≤ (a4) * ((u6_28) - 1 - (x98_7))) → ((x98_7) + 1).toNat = m → Ew 410 (d + 2) 98 ls [] σ c s Q from
        hl98 _ _ σ _ _ (z19) (a4) ((u6_28 - 2)) (rk_o (rk_o (rk_o (l3_0) rfl rfl) rfl rfl) rfl rfl) (rk_o (rk_o (rk_o (l3_1) rfl rfl) rfl rfl) rfl rfl) (rk_o (rk_o (rk_o (l3_4) rfl rfl) rfl rfl) rfl rfl) (rk_o (rk_o (rk_s) rfl rfl) rfl rfl) (rk_o (rk_s) rfl rfl) (rk_s) H (SF_refl) (SA_refl)   (show inr (z19) from pz19_0) (show inr (a4) from h2) (show inr ((u6_28 - 2)) from q_2412 r1) (show -1 ≤ ((u6_28 - 2)) ∧ ((u6_28 - 2)) ≤ (u6_28) - 2 from q_2411 h6) (show 0 ≤ (z19) ∧ (z19) < p2 ((a4)) from pz19_1) (show CHN (sh ((wq8)) (512 * (a1))) (sh ((wq10)) (512 * (a1))) (sh ((wq12)) (512 * (a1))) ((a4)) (sh ((w66)) (8001 * (a1))) ((u6_28)) ((u6_28) - 2 - ((u6_28 - 2)) : Int).toNat ((z19)) ((a4)) by assumption) (show (a4) ≤ (a4) ∧ (a4) ≤ (a4) * ((u6_28) - 1 - ((u6_28 - 2))) from q_2410) rfl
      as_aux_lemma =>
      intro m
      induction m using Nat.strongRecOn with
      | _ m ih98 =>
        intro ls σ F_98 A_98 x98_5 x98_6 x98_7 l98_0 l98_1 l98_4 l98_5 l98_6 l98_7 H hS_98 hA_98   j98_0 j98_1 j98_2 j98_3 j98_4 j98_5 j98_6 hm98
        refine Ew_of (pcₚ := 100) (fun _ => x_iload rfl l98_7) ?_
        refine w_iflt (t := 155) rfl rfl (show inr (x98_7) from j98_2) (fun b20 => ?_) (fun b20 => ?_)
        · have hfin : (u6_28) - 2 - (x98_7) = (u6_28) - 1 := q_2413 b20 j98_3
          have hcost : (x98_6) ≠ -1 → COST (sh ((w75)) ((a3))) ((a4)) (sh ((w66)) (8001 * (a1))) ((u6_28)) ((x98_6)) := fun _ => ⟨_, _, _, (x98_5), (pz7_0), by rw [← hfin]; assumption⟩
          have : (∀ j, 0 ≤ j → j < (u6_28) → (sh ((w75)) ((a3))) ((sh ((w66)) (8001 * (a1))) j) ≠ 0) → (x98_6) ≠ -1 := fun _ => by omega
          have hmz : (a4) * ((u6_28) - 1 - (x98_7)) = (a4) * (u6_28) := by rw [show (u6_28) - 1 - (x98_7) = (u6_28) by omega]
          refine Ew_of (pcₚ := 157) (fun _ => x_iload rfl l98_6) ?_
          exact w_ireturn rfl (k (x98_6) σ _ _ H (SF_trans (SF_trans (SF_trans (SF_trans (SF_refl) hS_3 (any_sub rfl)) hS5 (any_sub rfl)) hS17 (any_sub rfl)) hS_98 (any_sub rfl)) (SA_trans (SA_trans (SA_trans (SA_trans (SA_refl) hA_3 (any_subA rfl)) hA6 (any_subA rfl)) hA18 (any_subA rfl)) hA_98 (any_subA rfl)) (show inr (x98_6) from j98_1) (show (x98_6) = -1 ∨ a4 ≤ (x98_6) ∧ (x98_6) ≤ a4 * (u6_28) from q_2414 hmz j98_6) (show (x98_6) ≠ -1 → COST (sh ((w75)) (a3)) (a4) (sh ((w66)) (8001 * a1)) ((u6_28)) ((x98_6)) by first | assumption | exact fun h => absurd rfl h | exact fun h => absurd h (by decide) | omega) (show (∀ j, 0 ≤ j → j < (u6_28) → (sh ((w75)) (a3)) ((sh ((w66)) (8001 * a1)) j) ≠ 0) → (x98_6) ≠ -1 by assumption))
        · refine Ew_of (pcₚ := 104) (fun _ => x_aload_n rfl l98_0) ?_
          refine Ew_of (pcₚ := 107) (fun _ => x_sipush (z := 512) rfl (by decide)) ?_
          refine Ew_of (pcₚ := 108) (fun _ => x_iload_n rfl l98_1) ?_
          refine w_imul rfl ?_
          refine Ew_of (pcₚ := 111) (fun _ => x_iload rfl l98_4) ?_
          refine Ew_of (pcₚ := 112) (fun _ => x_aload_n rfl l98_0) ?_
          refine w_gT H (o := 6) (t := 66) rfl (H.perm 6 rfl) rfl rfl rfl rfl rfl rfl ?_
          refine Ew_of (pcₚ := 118) (fun _ => x_sipush (z := 8001) rfl (by decide)) ?_
          refine Ew_of (pcₚ := 119) (fun _ => x_iload_n rfl l98_1) ?_
          refine w_imul rfl ?_
          refine Ew_of (pcₚ := 122) (fun _ => x_iload rfl l98_7) ?_
          refine w_iadd rfl ?_
          refine w_lI H (o := 66) (n := 24003) rfl (H.perm 66 rfl) rfl rfl (H.fix 66 rfl rfl) (show 0 ≤ ((8001 * a1) + x98_7) ∧ ((8001 * a1) + x98_7) < ((24003 : Nat) : Int) from q_2415 b20 h3 j98_3 r1) (by decide) (fun v21 ev21 qv21 => ?_)
          have qv21 : (0 : Int) ≤ v21 ∧ v21 ≤ 63 := qv21
          have ev21 : (w66) (((8001 * a1) + x98_7)) = v21 := (congrFun ((funext (hA_98 66 rfl)).trans ((funext (hA18 66 rfl)).trans ((funext (hA6 66 rfl)).trans ((funext (hA_3 66 rfl)).trans (ew66))))) (((8001 * a1) + x98_7))).symm.trans ev21
          have hcur : (sh ((w66)) (8001 * (a1))) ((x98_7)) = (v21) := ev21
          have hnc := hnz ((x98_7)) (by omega) (by omega)
          rw [hcur] at hnc
          have hmc : 1 ≤ mass ((sh ((w75)) ((a3))) ((v21))) ∧ mass ((sh ((w75)) ((a3))) ((v21))) ≤ p2 ((a4)) := hms ((v21)) (by omega) (by omega) hnc
          refine Ew_of (pcₚ := 126) (fun _ => x_iload rfl l98_5) ?_
          refine w_inv H (o := 6) rfl rfl rfl (H.perm 6 rfl) rfl rfl (by rfl) (M409 H (wq8) ((funext (hA_98 71 rfl)).trans ((funext (hA18 71 rfl)).trans (ewq9))) (wq10) ((funext (hA_98 72 rfl)).trans ((funext (hA18 72 rfl)).trans (ewq11))) (wq12) ((funext (hA_98 73 rfl)).trans ((funext (hA18 73 rfl)).trans (ewq13))) (sh ((w75)) ((a3))) (show inr ((512 * a1)) from q_1336 h3) (show inr (a4) from h2) (show inr (v21) from q_2409 qv21) (show inr (x98_5) from j98_0) (pz7_0) (show 5 ≤ (a4) ∧ (a4) ≤ 9 from h59) (show 0 ≤ ((512 * a1)) ∧ ((512 * a1)) + p2 ((a4)) ≤ 2048 by omega) (show 0 ≤ (v21) ∧ (v21) < 64 from q_2408 qv21) (hmc) (show 0 ≤ (x98_5) ∧ (x98_5) < p2 ((a4)) from j98_4) (fun z26 σ F22 A23 H hS24 hA25 pz26_0 pz26_1 pz26_2 => ⟨rfl, ?_⟩))
          refine Ew_of (pcₚ := 131) (fun _ => x_istore rfl) ?_
          have hld := pz26_2
          have hme : (a4) * ((u6_28) - 1 - ((x98_7) + (-1))) = (a4) * ((u6_28) - 1 - (x98_7)) + (a4) := by rw [show (u6_28) - 1 - ((x98_7) + (-1)) = (u6_28) - 1 - (x98_7) + 1 by omega, Int.mul_add]; omega
          have hti := (pz7_1) ((z26)) (by omega) (by omega)
          have hmx : (a4) * ((u6_28) - 1 - (x98_7)) ≤ 9 * 8001 := Int.mul_le_mul (by omega) (by omega) (by omega) (by omega)
          refine Ew_of (pcₚ := 133) (fun _ => x_iload rfl (rk_o (l98_6) rfl rfl)) ?_
          refine Ew_of (pcₚ := 134) (fun _ => x_aload_n rfl (rk_o (l98_0) rfl rfl)) ?_
          refine w_gT H (o := 6) (t := 72) rfl (H.perm 6 rfl) rfl rfl rfl rfl rfl rfl ?_
          refine Ew_of (pcₚ := 140) (fun _ => x_sipush (z := 512) rfl (by decide)) ?_
          refine Ew_of (pcₚ := 141) (fun _ => x_iload_n rfl (rk_o (l98_1) rfl rfl)) ?_
          refine w_imul rfl ?_
          refine Ew_of (pcₚ := 144) (fun _ => x_iload rfl rk_s) ?_
          refine w_iadd rfl ?_
          refine w_lI H (o := 72) (n := 2048) rfl (H.perm 72 rfl) rfl rfl (H.fix 72 rfl rfl) (show 0 ≤ ((512 * a1) + z26) ∧ ((512 * a1) + z26) < ((2048 : Nat) : Int) by omega) (by decide) (fun v27 ev27 qv27 => ?_)
          have qv27 : (0 : Int) ≤ v27 ∧ v27 ≤ 9 := qv27
          have ev27 : (wq10) (((512 * a1) + z26)) = v27 := (congrFun ((funext (hA25 72 rfl)).trans ((funext (hA_98 72 rfl)).trans ((funext (hA18 72 rfl)).trans (ewq11)))) (((512 * a1) + z26))).symm.trans ev27
          have hch : CHN (sh ((wq8)) (512 * (a1))) (sh ((wq10)) (512 * (a1))) (sh ((wq12)) (512 * (a1))) ((a4)) (sh ((w66)) (8001 * (a1))) ((u6_28)) ((u6_28) - 2 - ((x98_7) + (-1)) : Int).toNat ((z26)) ((x98_6) + (v27)) := CHN_s (i := (x98_7)) (by assumption) (by omega) (by omega) (by omega) (by rw [hcur]; exact hld) (by show _ = _ + ((wq10)) (512 * (a1) + (z26)); rw [ev27])
          refine w_iadd rfl ?_
          refine Ew_of (pcₚ := 149) (fun _ => x_istore rfl) ?_
          refine Ew_of (pcₚ := 152) (fun _ => x_iinc (len := 3) rfl (rk_o (rk_o (l98_7) rfl rfl) rfl rfl)) ?_
          refine Ew_of (pcₚ := 98) (fun _ => x_goto rfl rfl) ?_
          exact ih98 _ (msE hm98 q_2020 (q_2021 b20)) _ σ _ _ (z26) ((x98_6 + v27)) ((x98_7 + (-1))) (rk_o (rk_o (rk_o (l98_0) rfl rfl) rfl rfl) rfl rfl) (rk_o (rk_o (rk_o (l98_1) rfl rfl) rfl rfl) rfl rfl) (rk_o (rk_o (rk_o (l98_4) rfl rfl) rfl rfl) rfl rfl) (rk_o (rk_o (rk_s) rfl rfl) rfl rfl) (rk_o (rk_s) rfl rfl) (rk_s) H (SF_trans (hS_98) hS24 (any_sub rfl)) (SA_trans (hA_98) hA25 (any_subA rfl))   (show inr (z26) from pz26_0) (show inr ((x98_6 + v27)) from q_2417 hmx j98_1 j98_6 qv27) (show inr ((x98_7 + (-1))) from q_431 b20 j98_2) (show -1 ≤ ((x98_7 + (-1))) ∧ ((x98_7 + (-1))) ≤ (u6_28) - 2 from q_2416 b20 j98_3) (show 0 ≤ (z26) ∧ (z26) < p2 ((a4)) from pz26_1) (hch) (show (a4) ≤ ((x98_6 + v27)) ∧ ((x98_6 + v27)) ≤ (a4) * ((u6_28) - 1 - ((x98_7 + (-1)))) by omega) rfl
    · refine Ew_of (pcₚ := 13) (fun _ => x_aload_n rfl l3_2) ?_
      refine Ew_of (pcₚ := 14) (fun _ => x_iload_n rfl l3_3) ?_
      refine Ew_of (pcₚ := 15) (fun _ => x_aload_n rfl l3_0) ?_
      refine w_gT H (o := 6) (t := 66) rfl (H.perm 6 rfl) rfl rfl rfl rfl rfl rfl ?_
      refine Ew_of (pcₚ := 21) (fun _ => x_sipush (z := 8001) rfl (by decide)) ?_
      refine Ew_of (pcₚ := 22) (fun _ => x_iload_n rfl l3_1) ?_
      refine w_imul rfl ?_
      refine Ew_of (pcₚ := 25) (fun _ => x_iload rfl l3_5) ?_
      refine w_iadd rfl ?_
      refine w_lI H (o := 66) (n := 24003) rfl (H.perm 66 rfl) rfl rfl (H.fix 66 rfl rfl) (show 0 ≤ ((8001 * a1) + x3_5) ∧ ((8001 * a1) + x3_5) < ((24003 : Nat) : Int) from q_9 b2 h3 j3_1 r1) (by decide) (fun v28 ev28 qv28 => ?_)
      have qv28 : (0 : Int) ≤ v28 ∧ v28 ≤ 63 := qv28
      have ev28 : (w66) (((8001 * a1) + x3_5)) = v28 := (congrFun ((funext (hA_3 66 rfl)).trans (ew66)) (((8001 * a1) + x3_5))).symm.trans ev28
      have hsy := ev28
      refine w_iadd rfl ?_
      refine w_lI H (o := 75) (n := 64) rfl (H.perm 75 rfl) rfl rfl (H.fix 75 rfl rfl) (show 0 ≤ (a3 + v28) ∧ (a3 + v28) < ((64 : Nat) : Int) from q_2418 h5 qv28) (by decide) (fun v29 ev29 qv29 => ?_)
      have qv29 : (-2147483648 : Int) ≤ v29 ∧ v29 ≤ 2147483647 := qv29
      have ev29 : (w75) ((a3 + v28)) = v29 := (congrFun ((funext (hA_3 75 rfl)).trans (ew75)) ((a3 + v28))).symm.trans ev29
      have hpv := ev29
      refine w_ifne (t := 34) rfl rfl (show inr (v29) from q_18 qv29) (fun b30 => ?_) (fun b30 => ?_)
      · have : ∀ j, 0 ≤ j → j < (x3_5) + 1 → (sh ((w75)) ((a3))) ((sh ((w66)) (8001 * (a1))) j) ≠ 0 := fun j a b => by by_cases e : j = (x3_5); (rw [e]; show ((w75)) ((a3) + ((w66)) (8001 * (a1) + (x3_5))) ≠ 0; rw [hsy, hpv]; omega); exact j3_3 j a (by omega)
        refine Ew_of (pcₚ := 37) (fun _ => x_iinc (len := 3) rfl (l3_5)) ?_
        refine Ew_of (pcₚ := 3) (fun _ => x_goto rfl rfl) ?_
        exact ih3 _ (msE hm3 q_16 (q_17 b2)) _ σ _ _ ((x3_5 + 1)) (rk_o (l3_0) rfl rfl) (rk_o (l3_1) rfl rfl) (rk_o (l3_2) rfl rfl) (rk_o (l3_3) rfl rfl) (rk_o (l3_4) rfl rfl) (rk_s) H (hS_3) (hA_3)   (show inr ((x3_5 + 1)) from q_15 b2 j3_1 r1) (show (0) ≤ ((x3_5 + 1)) from q_14 j3_1) (show ((x3_5 + 1)) ≤ (0) ∨ ((x3_5 + 1)) ≤ ((u6_28)) from q_13 b2) (show ∀ j, 0 ≤ j → j < ((x3_5 + 1)) → (sh ((w75)) ((a3))) ((sh ((w66)) (8001 * (a1))) j) ≠ 0 by assumption) rfl
      · have : (∀ j, 0 ≤ j → j < (u6_28) → (sh ((w75)) ((a3))) ((sh ((w66)) (8001 * (a1))) j) ≠ 0) → (-1 : Int) ≠ -1 := fun q => absurd (q ((x3_5)) (by omega) (by omega)) (by show ¬ (((w75)) ((a3) + ((w66)) (8001 * (a1) + (x3_5))) ≠ 0); rw [hsy, hpv]; omega)
        refine Ew_of (pcₚ := 33) (fun _ => x_iconst rfl) ?_
        exact w_ireturn rfl (k ((-1)) σ _ _ H (SF_trans (SF_refl) hS_3 (any_sub rfl)) (SA_trans (SA_refl) hA_3 (any_subA rfl)) (show inr ((-1)) from q_63) (show ((-1)) = -1 ∨ a4 ≤ ((-1)) ∧ ((-1)) ≤ a4 * (u6_28) by first | exact q_2419 | omega) (show ((-1)) ≠ -1 → COST (sh ((w75)) (a3)) (a4) (sh ((w66)) (8001 * a1)) ((u6_28)) (((-1))) by first | assumption | exact fun h => absurd rfl h | exact fun h => absurd h (by decide) | omega) (show (∀ j, 0 ≤ j → j < (u6_28) → (sh ((w75)) (a3)) ((sh ((w66)) (8001 * a1)) j) ≠ 0) → ((-1)) ≠ -1 by assumption))

theorem M410_54 {σ0 σ : rS} {D N : Nat → Nat} {F : hF} {A : hA} {d c s : Nat} {Q : wQ} (H : HS σ0 σ D N F A) {a1 a3 a4 : Int} (u6_28 : Int) (eu6_28 : F 6 28 = u6_28) (w54 : Int → Int) (ew54 : A 54 = w54) (w66 : Int → Int) (ew66 : A 66 = w66) (lst : Int) (h0 : inr (a1)) (h1 : inr (a3)) (h2 : inr (a4)) (h3 : 0 ≤ (a1) ∧ (a1) ≤ 2) (h4 : SH ((w54)) (a3) 64 (a4) lst) (h5 : 0 ≤ (a3) ∧ (a3) + 64 ≤ 192) (h6 : 1 ≤ (u6_28)) (k : ∀ (z : Int) σ Fₚ Aₚ, HS σ0 σ D N Fₚ Aₚ → SF [] F Fₚ → SA [71, 72, 73, 74] A Aₚ → (inr (z)) → ((z) = -1 ∨ (a4) ≤ (z) ∧ (z) ≤ (a4) * (u6_28)) → ((z) ≠ -1 → COST (sh ((w54)) ((a3))) ((a4)) (sh ((w66)) (8001 * (a1))) ((u6_28)) ((z))) → ((∀ j, 0 ≤ j → j < (u6_28) → (sh ((w54)) ((a3))) ((sh ((w66)) (8001 * (a1))) j) ≠ 0) → (z) ≠ -1) → Q (some (I z)) σ c s) : Ew 410 (d + 2) 0 (rargs 0 [.ref (D 6), I a1, .ref (D 54), I a3, I a4]) [] σ c s Q := by
  have r1 : (0 : Int) ≤ u6_28 ∧ u6_28 ≤ 8001 := rngE (show (0 : Int) ≤ F 6 28 ∧ F 6 28 ≤ 8001 from H.frng 6 28) (show F 6 28 = u6_28 from (eu6_28))
  have hsh : SH ((w54)) (a3) 64 (a4) lst := h4
  have h59 : 5 ≤ (a4) ∧ (a4) ≤ 9 := ⟨hsh.1, hsh.2.1⟩
  have hp5 := p2_5 h59
  refine Ew_of (pcₚ := 1) (fun _ => x_iconst rfl) ?_
  refine Ew_of (pcₚ := 3) (fun _ => x_istore rfl) ?_
  have : ∀ j, 0 ≤ j → j < (0 : Int) → (sh ((w54)) ((a3))) ((sh ((w66)) (8001 * (a1))) j) ≠ 0 := fun j a b => absurd b (by omega)
  suffices hl3 : ∀ (m : Nat), ∀ (ls : rO) (σ : rS) (F_3 : hF) (A_3 : hA) (x3_5 : Int), rlook ls 0 = some (.ref (D 6)) → rlook ls 1 = some (I (a1)) → rlook ls 2 = some (.ref (D 54)) → rlook ls 3 = some (I (a3)) → rlook ls 4 = some (I (a4)) → rlook ls 5 = some (I (x3_5)) → HS σ0 σ D N F_3 A_3 → SF [] F F_3 → SA [] A A_3 → (inr (x3_5)) → ((0) ≤ (x3_5)) → ((x3_5) ≤ (0) ∨ (x3_5) ≤ ((u6_28))) → (∀ j, 0 ≤ j → j < (x3_5) → (sh ((w54)) ((a3))) ((sh ((w66)) (8001 * (a1))) j) ≠ 0) → (((u6_28)) - (x3_5)).toNat = m → Ew 410 (d + 2) 3 ls [] σ c s Q from
    hl3 _ _ σ _ _ (0) (rk_o (rfl) rfl rfl) (rk_o (rfl) rfl rfl) (rk_o (rfl) rfl rfl) (rk_o (rfl) rfl rfl) (rk_o (rfl) rfl rfl) (rk_s) H (SF_refl) (SA_refl)   (show inr (0) from q_2) (show (0) ≤ (0) from q_1) (show (0) ≤ (0) ∨ (0) ≤ ((u6_28)) from q_5) (show ∀ j, 0 ≤ j → j < (0) → (sh ((w54)) ((a3))) ((sh ((w66)) (8001 * (a1))) j) ≠ 0 by assumption) rfl
  as_aux_lemma =>
  intro m
  induction m using Nat.strongRecOn with
  | _ m ih3 =>
    intro ls σ F_3 A_3 x3_5 l3_0 l3_1 l3_2 l3_3 l3_4 l3_5 H hS_3 hA_3   j3_0 j3_1 j3_2 j3_3 hm3
    refine Ew_of (pcₚ := 5) (fun _ => x_iload rfl l3_5) ?_
    refine Ew_of (pcₚ := 6) (fun _ => x_aload_n rfl l3_0) ?_
    refine w_gI H (o := 6) (w := u6_28) rfl (H.perm 6 rfl) rfl rfl rfl (fun _ => rfl) ((hS_3 6 28 rfl).trans (eu6_28)) ?_
    refine w_icmpge (t := 40) rfl rfl (show inr (x3_5) from j3_0) (show inr (u6_28) from q_6 r1) (fun b2 => ?_) (fun b2 => ?_)
    · have hnz : ∀ j, 0 ≤ j → j < (u6_28) → (sh ((w54)) ((a3))) ((sh ((w66)) (8001 * (a1))) j) ≠ 0 := fun j a b => j3_3 j a (by omega)
      have hms : ∀ x, 0 ≤ x → x < 64 → (sh ((w54)) ((a3))) x ≠ 0 → 1 ≤ mass ((sh ((w54)) ((a3))) x) ∧ mass ((sh ((w54)) ((a3))) x) ≤ p2 ((a4)) := fun x a b c => by have h1 := SH_le x hsh a b; have h2 := mass_eq ((sh ((w54)) ((a3))) x); have h3 : (sh ((w54)) ((a3))) x = ((w54)) ((a3) + x) := rfl; have h4 : mass ((sh ((w54)) ((a3))) x) ≤ p2 ((a4)) := h1.2.2.1; omega
      refine Ew_of (pcₚ := 41) (fun _ => x_aload_n rfl l3_0) ?_
      refine Ew_of (pcₚ := 42) (fun _ => x_aload_n rfl l3_2) ?_
      refine Ew_of (pcₚ := 43) (fun _ => x_iload_n rfl l3_3) ?_
      refine Ew_of (pcₚ := 45) (fun _ => x_bipush (z := 64) rfl (by decide)) ?_
      refine Ew_of (pcₚ := 47) (fun _ => x_iload rfl l3_4) ?_
      refine Ew_of (pcₚ := 50) (fun _ => x_sipush (z := 512) rfl (by decide)) ?_
      refine Ew_of (pcₚ := 51) (fun _ => x_iload_n rfl l3_1) ?_
      refine w_imul rfl ?_
      refine w_inv H (o := 6) rfl rfl rfl (H.perm 6 rfl) rfl rfl (by rfl) (M407_54 H (w54) ((funext (hA_3 54 rfl)).trans (ew54)) (A 71) (funext (hA_3 71 rfl)) (A 72) (funext (hA_3 72 rfl)) (A 73) (funext (hA_3 73 rfl)) (lst) (show inr (a3) from h1) (show inr (64) from q_151) (show inr (a4) from h2) (show inr ((512 * a1)) from q_1336 h3) (hsh) (show 0 ≤ (a3) ∧ 1 ≤ (64) ∧ (64) ≤ 64 ∧ (a3) + (64) ≤ 192 from q_2420 h5) (show 0 ≤ ((512 * a1)) ∧ ((512 * a1)) + p2 ((a4)) ≤ 2048 by omega) (fun σ F3 A4 H hS5 hA6 wq8 ewq9 wq10 ewq11 wq12 ewq13 pz7_0 pz7_1 pz7_2 pz7_3 pz7_4 => ⟨rfl, ?_⟩))
      refine Ew_of (pcₚ := 56) (fun _ => x_aload_n rfl l3_0) ?_
      refine Ew_of (pcₚ := 59) (fun _ => x_sipush (z := 512) rfl (by decide)) ?_
      refine Ew_of (pcₚ := 60) (fun _ => x_iload_n rfl l3_1) ?_
      refine w_imul rfl ?_
      refine Ew_of (pcₚ := 63) (fun _ => x_iload rfl l3_4) ?_
      refine Ew_of (pcₚ := 64) (fun _ => x_aload_n rfl l3_0) ?_
      refine w_gT H (o := 6) (t := 66) rfl (H.perm 6 rfl) rfl rfl rfl rfl rfl rfl ?_
      refine Ew_of (pcₚ := 70) (fun _ => x_sipush (z := 8001) rfl (by decide)) ?_
      refine Ew_of (pcₚ := 71) (fun _ => x_iload_n rfl l3_1) ?_
      refine w_imul rfl ?_
      refine Ew_of (pcₚ := 73) (fun _ => x_aload_n rfl l3_0) ?_
      refine w_gI H (o := 6) (w := u6_28) rfl (H.perm 6 rfl) rfl rfl rfl (fun _ => rfl) (((hS5 6 28 rfl).trans (hS_3 6 28 rfl)).trans (eu6_28)) ?_
      refine w_iadd rfl ?_
      refine Ew_of (pcₚ := 78) (fun _ => x_iconst rfl) ?_
      refine w_isub rfl ?_
      refine w_lI H (o := 66) (n := 24003) rfl (H.perm 66 rfl) rfl rfl (H.fix 66 rfl rfl) (show 0 ≤ (((8001 * a1) + u6_28) - 1) ∧ (((8001 * a1) + u6_28) - 1) < ((24003 : Nat) : Int) from q_2407 h3 h6 r1) (by decide) (fun v14 ev14 qv14 => ?_)
      have qv14 : (0 : Int) ≤ v14 ∧ v14 ≤ 63 := qv14
      have ev14 : (w66) ((((8001 * a1) + u6_28) - 1)) = v14 := (congrFun ((funext (hA6 66 rfl)).trans ((funext (hA_3 66 rfl)).trans (ew66))) ((((8001 * a1) + u6_28) - 1))).symm.trans ev14
      have hlast : (sh ((w66)) (8001 * (a1))) ((u6_28) - 1) = (v14) := by show ((w66)) (8001 * (a1) + ((u6_28) - 1)) = (v14); rw [show 8001 * (a1) + ((u6_28) - 1) = 8001 * (a1) + (u6_28) - 1 by omega]; exact ev14
      have hnl := hnz ((u6_28) - 1) (by omega) (by omega)
      rw [hlast] at hnl
      have hml := hms ((v14)) (by omega) (by omega) hnl
      have : 1 ≤ mass ((sh ((w54)) ((a3))) ((v14))) := hml.1
      have : (0 : Int) = 1 → mass ((sh ((w54)) ((a3))) ((v14))) < p2 ((a4)) := fun q => absurd q (by decide)
      refine Ew_of (pcₚ := 81) (fun _ => x_iconst rfl) ?_
      refine w_inv H (o := 6) rfl rfl rfl (H.perm 6 rfl) rfl rfl (by rfl) (M408 H (wq8) (ewq9) (wq10) (ewq11) (wq12) (ewq13) (sh ((w54)) ((a3))) (show inr ((512 * a1)) from q_1336 h3) (show inr (a4) from h2) (show inr (v14) from q_2409 qv14) (show inr (0) from q_2) (show (0) = 0 ∨ (0) = 1 from q_45) (pz7_0) (show 5 ≤ (a4) ∧ (a4) ≤ 9 from h59) (show 0 ≤ ((512 * a1)) ∧ ((512 * a1)) + p2 ((a4)) ≤ 2048 by omega) (show 0 ≤ (v14) ∧ (v14) < 64 from q_2408 qv14) (show 1 ≤ mass ((sh ((w54)) ((a3))) (v14)) by assumption) (show (0) = 1 → mass ((sh ((w54)) ((a3))) (v14)) < p2 ((a4)) by assumption) (fun z19 σ F15 A16 H hS17 hA18 pz19_0 pz19_1 pz19_2 => ⟨rfl, ?_⟩))
      refine Ew_of (pcₚ := 86) (fun _ => x_istore rfl) ?_
      refine Ew_of (pcₚ := 88) (fun _ => x_iload rfl (rk_o (l3_4) rfl rfl)) ?_
      refine Ew_of (pcₚ := 90) (fun _ => x_istore rfl) ?_
      refine Ew_of (pcₚ := 91) (fun _ => x_aload_n rfl (rk_o (rk_o (l3_0) rfl rfl) rfl rfl)) ?_
      refine w_gI H (o := 6) (w := u6_28) rfl (H.perm 6 rfl) rfl rfl rfl (fun _ => rfl) ((((hS17 6 28 rfl).trans (hS5 6 28 rfl)).trans (hS_3 6 28 rfl)).trans (eu6_28)) ?_
      refine Ew_of (pcₚ := 95) (fun _ => x_iconst rfl) ?_
      refine w_isub rfl ?_
      refine Ew_of (pcₚ := 98) (fun _ => x_istore rfl) ?_
      have hlow := pz19_2
      have : CHN (sh ((wq8)) (512 * (a1))) (sh ((wq10)) (512 * (a1))) (sh ((wq12)) (512 * (a1))) ((a4)) (sh ((w66)) (8001 * (a1))) ((u6_28)) ((u6_28) - 2 - ((u6_28) - 2) : Int).toNat ((z19)) ((a4)) := by rw [show (u6_28) - 2 - ((u6_28) - 2) = 0 by omega]; exact ⟨by rw [hlast]; exact hlow, rfl⟩
      have hmu : (a4) * ((u6_28) - 1 - ((u6_28) - 2)) = (a4) := by rw [show (u6_28) - 1 - ((u6_28) - 2) = 1 by omega]; omega
      suffices hl98 : ∀ (m : Nat), ∀ (ls : rO) (σ : rS) (F_98 : hF) (A_98 : hA) (x98_5 : Int) (x98_6 : Int) (x98_7 : Int), rlook ls 0 = some (.ref (D 6)) → rlook ls 1 = some (I (a1)) → rlook ls 4 = some (I (a4)) → rlook ls 5 = some (I (x98_5)) → rlook ls 6 = some (I (x98_6)) → rlook ls 7 = some (I (x98_7)) → HS σ0 σ D N F_98 A_98 → SF [] F15 F_98 → SA [] A16 A_98 → (inr (x98_5)) → (inr (x98_6)) → (inr (x98_7)) → (-1 ≤ (x98_7) ∧ (x98_7) ≤ (u6_28) - 2) → (0 ≤ (x98_5) ∧ (x98_5) < p2 ((a4))) → (CHN (sh ((wq8)) (512 * (a1))) (sh ((wq10)) (512 * (a1))) (sh ((wq12)) (512 * (a1))) ((a4)) (sh ((w66)) (8001 * (a1))) ((u6_28)) ((u6_28) - 2 - (x98_7) : Int).toNat ((x98_5)) ((x98_6))) → ((a4) ≤ (x98_6) ∧ (x98_6) ≤ (a4) * ((u6_28) - 1 - (x98_7))) → ((x98_7) + 1).toNat = m → Ew 410 (d + 2) 98 ls [] σ c s Q from
        hl98 _ _ σ _ _ (z19) (a4) ((u6_28 - 2)) (rk_o (rk_o (rk_o (l3_0) rfl rfl) rfl rfl) rfl rfl) (rk_o (rk_o (rk_o (l3_1) rfl rfl) rfl rfl) rfl rfl) (rk_o (rk_o (rk_o (l3_4) rfl rfl) rfl rfl) rfl rfl) (rk_o (rk_o (rk_s) rfl rfl) rfl rfl) (rk_o (rk_s) rfl rfl) (rk_s) H (SF_refl) (SA_refl)   (show inr (z19) from pz19_0) (show inr (a4) from h2) (show inr ((u6_28 - 2)) from q_2412 r1) (show -1 ≤ ((u6_28 - 2)) ∧ ((u6_28 - 2)) ≤ (u6_28) - 2 from q_2411 h6) (show 0 ≤ (z19) ∧ (z19) < p2 ((a4)) from pz19_1) (show CHN (sh ((wq8)) (512 * (a1))) (sh ((wq10)) (512 * (a1))) (sh ((wq12)) (512 * (a1))) ((a4)) (sh ((w66)) (8001 * (a1))) ((u6_28)) ((u6_28) - 2 - ((u6_28 - 2)) : Int).toNat ((z19)) ((a4)) by assumption) (show (a4) ≤ (a4) ∧ (a4) ≤ (a4) * ((u6_28) - 1 - ((u6_28 - 2))) from q_2410) rfl
      as_aux_lemma =>
      intro m
      induction m using Nat.strongRecOn with
      | _ m ih98 =>
        intro ls σ F_98 A_98 x98_5 x98_6 x98_7 l98_0 l98_1 l98_4 l98_5 l98_6 l98_7 H hS_98 hA_98   j98_0 j98_1 j98_2 j98_3 j98_4 j98_5 j98_6 hm98
        refine Ew_of (pcₚ := 100) (fun _ => x_iload rfl l98_7) ?_
        refine w_iflt (t := 155) rfl rfl (show inr (x98_7) from j98_2) (fun b20 => ?_) (fun b20 => ?_)
        · have hfin : (u6_28) - 2 - (x98_7) = (u6_28) - 1 := q_2413 b20 j98_3
          have hcost : (x98_6) ≠ -1 → COST (sh ((w54)) ((a3))) ((a4)) (sh ((w66)) (8001 * (a1))) ((u6_28)) ((x98_6)) := fun _ => ⟨_, _, _, (x98_5), (pz7_0), by rw [← hfin]; assumption⟩
          have : (∀ j, 0 ≤ j → j < (u6_28) → (sh ((w54)) ((a3))) ((sh ((w66)) (8001 * (a1))) j) ≠ 0) → (x98_6) ≠ -1 := fun _ => by omega
          have hmz : (a4) * ((u6_28) - 1 - (x98_7)) = (a4) * (u6_28) := by rw [show (u6_28) - 1 - (x98_7) = (u6_28) by omega]
          refine Ew_of (pcₚ := 157) (fun _ => x_iload rfl l98_6) ?_
          exact w_ireturn rfl (k (x98_6) σ _ _ H (SF_trans (SF_trans (SF_trans (SF_trans (SF_refl) hS_3 (any_sub rfl)) hS5 (any_sub rfl)) hS17 (any_sub rfl)) hS_98 (any_sub rfl)) (SA_trans (SA_trans (SA_trans (SA_trans (SA_refl) hA_3 (any_subA rfl)) hA6 (any_subA rfl)) hA18 (any_subA rfl)) hA_98 (any_subA rfl)) (show inr (x98_6) from j98_1) (show (x98_6) = -1 ∨ a4 ≤ (x98_6) ∧ (x98_6) ≤ a4 * (u6_28) from q_2414 hmz j98_6) (show (x98_6) ≠ -1 → COST (sh ((w54)) (a3)) (a4) (sh ((w66)) (8001 * a1)) ((u6_28)) ((x98_6)) by first | assumption | exact fun h => absurd rfl h | exact fun h => absurd h (by decide) | omega) (show (∀ j, 0 ≤ j → j < (u6_28) → (sh ((w54)) (a3)) ((sh ((w66)) (8001 * a1)) j) ≠ 0) → (x98_6) ≠ -1 by assumption))
        · refine Ew_of (pcₚ := 104) (fun _ => x_aload_n rfl l98_0) ?_
          refine Ew_of (pcₚ := 107) (fun _ => x_sipush (z := 512) rfl (by decide)) ?_
          refine Ew_of (pcₚ := 108) (fun _ => x_iload_n rfl l98_1) ?_
          refine w_imul rfl ?_
          refine Ew_of (pcₚ := 111) (fun _ => x_iload rfl l98_4) ?_
          refine Ew_of (pcₚ := 112) (fun _ => x_aload_n rfl l98_0) ?_
          refine w_gT H (o := 6) (t := 66) rfl (H.perm 6 rfl) rfl rfl rfl rfl rfl rfl ?_
          refine Ew_of (pcₚ := 118) (fun _ => x_sipush (z := 8001) rfl (by decide)) ?_
          refine Ew_of (pcₚ := 119) (fun _ => x_iload_n rfl l98_1) ?_
          refine w_imul rfl ?_
          refine Ew_of (pcₚ := 122) (fun _ => x_iload rfl l98_7) ?_
          refine w_iadd rfl ?_
          refine w_lI H (o := 66) (n := 24003) rfl (H.perm 66 rfl) rfl rfl (H.fix 66 rfl rfl) (show 0 ≤ ((8001 * a1) + x98_7) ∧ ((8001 * a1) + x98_7) < ((24003 : Nat) : Int) from q_2415 b20 h3 j98_3 r1) (by decide) (fun v21 ev21 qv21 => ?_)
          have qv21 : (0 : Int) ≤ v21 ∧ v21 ≤ 63 := qv21
          have ev21 : (w66) (((8001 * a1) + x98_7)) = v21 := (congrFun ((funext (hA_98 66 rfl)).trans ((funext (hA18 66 rfl)).trans ((funext (hA6 66 rfl)).trans ((funext (hA_3 66 rfl)).trans (ew66))))) (((8001 * a1) + x98_7))).symm.trans ev21
          have hcur : (sh ((w66)) (8001 * (a1))) ((x98_7)) = (v21) := ev21
          have hnc := hnz ((x98_7)) (by omega) (by omega)
          rw [hcur] at hnc
          have hmc : 1 ≤ mass ((sh ((w54)) ((a3))) ((v21))) ∧ mass ((sh ((w54)) ((a3))) ((v21))) ≤ p2 ((a4)) := hms ((v21)) (by omega) (by omega) hnc
          refine Ew_of (pcₚ := 126) (fun _ => x_iload rfl l98_5) ?_
          refine w_inv H (o := 6) rfl rfl rfl (H.perm 6 rfl) rfl rfl (by rfl) (M409 H (wq8) ((funext (hA_98 71 rfl)).trans ((funext (hA18 71 rfl)).trans (ewq9))) (wq10) ((funext (hA_98 72 rfl)).trans ((funext (hA18 72 rfl)).trans (ewq11))) (wq12) ((funext (hA_98 73 rfl)).trans ((funext (hA18 73 rfl)).trans (ewq13))) (sh ((w54)) ((a3))) (show inr ((512 * a1)) from q_1336 h3) (show inr (a4) from h2) (show inr (v21) from q_2409 qv21) (show inr (x98_5) from j98_0) (pz7_0) (show 5 ≤ (a4) ∧ (a4) ≤ 9 from h59) (show 0 ≤ ((512 * a1)) ∧ ((512 * a1)) + p2 ((a4)) ≤ 2048 by omega) (show 0 ≤ (v21) ∧ (v21) < 64 from q_2408 qv21) (hmc) (show 0 ≤ (x98_5) ∧ (x98_5) < p2 ((a4)) from j98_4) (fun z26 σ F22 A23 H hS24 hA25 pz26_0 pz26_1 pz26_2 => ⟨rfl, ?_⟩))
          refine Ew_of (pcₚ := 131) (fun _ => x_istore rfl) ?_
          have hld := pz26_2
          have hme : (a4) * ((u6_28) - 1 - ((x98_7) + (-1))) = (a4) * ((u6_28) - 1 - (x98_7)) + (a4) := by rw [show (u6_28) - 1 - ((x98_7) + (-1)) = (u6_28) - 1 - (x98_7) + 1 by omega, Int.mul_add]; omega
          have hti := (pz7_1) ((z26)) (by omega) (by omega)
          have hmx : (a4) * ((u6_28) - 1 - (x98_7)) ≤ 9 * 8001 := Int.mul_le_mul (by omega) (by omega) (by omega) (by omega)
          refine Ew_of (pcₚ := 133) (fun _ => x_iload rfl (rk_o (l98_6) rfl rfl)) ?_
          refine Ew_of (pcₚ := 134) (fun _ => x_aload_n rfl (rk_o (l98_0) rfl rfl)) ?_
          refine w_gT H (o := 6) (t := 72) rfl (H.perm 6 rfl) rfl rfl rfl rfl rfl rfl ?_
          refine Ew_of (pcₚ := 140) (fun _ => x_sipush (z := 512) rfl (by decide)) ?_
          refine Ew_of (pcₚ := 141) (fun _ => x_iload_n rfl (rk_o (l98_1) rfl rfl)) ?_
          refine w_imul rfl ?_
          refine Ew_of (pcₚ := 144) (fun _ => x_iload rfl rk_s) ?_
          refine w_iadd rfl ?_
          refine w_lI H (o := 72) (n := 2048) rfl (H.perm 72 rfl) rfl rfl (H.fix 72 rfl rfl) (show 0 ≤ ((512 * a1) + z26) ∧ ((512 * a1) + z26) < ((2048 : Nat) : Int) by omega) (by decide) (fun v27 ev27 qv27 => ?_)
          have qv27 : (0 : Int) ≤ v27 ∧ v27 ≤ 9 := qv27
          have ev27 : (wq10) (((512 * a1) + z26)) = v27 := (congrFun ((funext (hA25 72 rfl)).trans ((funext (hA_98 72 rfl)).trans ((funext (hA18 72 rfl)).trans (ewq11)))) (((512 * a1) + z26))).symm.trans ev27
          have hch : CHN (sh ((wq8)) (512 * (a1))) (sh ((wq10)) (512 * (a1))) (sh ((wq12)) (512 * (a1))) ((a4)) (sh ((w66)) (8001 * (a1))) ((u6_28)) ((u6_28) - 2 - ((x98_7) + (-1)) : Int).toNat ((z26)) ((x98_6) + (v27)) := CHN_s (i := (x98_7)) (by assumption) (by omega) (by omega) (by omega) (by rw [hcur]; exact hld) (by show _ = _ + ((wq10)) (512 * (a1) + (z26)); rw [ev27])
          refine w_iadd rfl ?_
          refine Ew_of (pcₚ := 149) (fun _ => x_istore rfl) ?_
          refine Ew_of (pcₚ := 152) (fun _ => x_iinc (len := 3) rfl (rk_o (rk_o (l98_7) rfl rfl) rfl rfl)) ?_
          refine Ew_of (pcₚ := 98) (fun _ => x_goto rfl rfl) ?_
          exact ih98 _ (msE hm98 q_2020 (q_2021 b20)) _ σ _ _ (z26) ((x98_6 + v27)) ((x98_7 + (-1))) (rk_o (rk_o (rk_o (l98_0) rfl rfl) rfl rfl) rfl rfl) (rk_o (rk_o (rk_o (l98_1) rfl rfl) rfl rfl) rfl rfl) (rk_o (rk_o (rk_o (l98_4) rfl rfl) rfl rfl) rfl rfl) (rk_o (rk_o (rk_s) rfl rfl) rfl rfl) (rk_o (rk_s) rfl rfl) (rk_s) H (SF_trans (hS_98) hS24 (any_sub rfl)) (SA_trans (hA_98) hA25 (any_subA rfl))   (show inr (z26) from pz26_0) (show inr ((x98_6 + v27)) from q_2417 hmx j98_1 j98_6 qv27) (show inr ((x98_7 + (-1))) from q_431 b20 j98_2) (show -1 ≤ ((x98_7 + (-1))) ∧ ((x98_7 + (-1))) ≤ (u6_28) - 2 from q_2416 b20 j98_3) (show 0 ≤ (z26) ∧ (z26) < p2 ((a4)) from pz26_1) (hch) (show (a4) ≤ ((x98_6 + v27)) ∧ ((x98_6 + v27)) ≤ (a4) * ((u6_28) - 1 - ((x98_7 + (-1)))) by omega) rfl
    · refine Ew_of (pcₚ := 13) (fun _ => x_aload_n rfl l3_2) ?_
      refine Ew_of (pcₚ := 14) (fun _ => x_iload_n rfl l3_3) ?_
      refine Ew_of (pcₚ := 15) (fun _ => x_aload_n rfl l3_0) ?_
      refine w_gT H (o := 6) (t := 66) rfl (H.perm 6 rfl) rfl rfl rfl rfl rfl rfl ?_
      refine Ew_of (pcₚ := 21) (fun _ => x_sipush (z := 8001) rfl (by decide)) ?_
      refine Ew_of (pcₚ := 22) (fun _ => x_iload_n rfl l3_1) ?_
      refine w_imul rfl ?_
      refine Ew_of (pcₚ := 25) (fun _ => x_iload rfl l3_5) ?_
      refine w_iadd rfl ?_
      refine w_lI H (o := 66) (n := 24003) rfl (H.perm 66 rfl) rfl rfl (H.fix 66 rfl rfl) (show 0 ≤ ((8001 * a1) + x3_5) ∧ ((8001 * a1) + x3_5) < ((24003 : Nat) : Int) from q_9 b2 h3 j3_1 r1) (by decide) (fun v28 ev28 qv28 => ?_)
      have qv28 : (0 : Int) ≤ v28 ∧ v28 ≤ 63 := qv28
      have ev28 : (w66) (((8001 * a1) + x3_5)) = v28 := (congrFun ((funext (hA_3 66 rfl)).trans (ew66)) (((8001 * a1) + x3_5))).symm.trans ev28
      have hsy := ev28
      refine w_iadd rfl ?_
      refine w_lI H (o := 54) (n := 192) rfl (H.perm 54 rfl) rfl rfl (H.fix 54 rfl rfl) (show 0 ≤ (a3 + v28) ∧ (a3 + v28) < ((192 : Nat) : Int) from q_2421 h5 qv28) (by decide) (fun v29 ev29 qv29 => ?_)
      have qv29 : (-1 : Int) ≤ v29 ∧ v29 ≤ 512 := qv29
      have ev29 : (w54) ((a3 + v28)) = v29 := (congrFun ((funext (hA_3 54 rfl)).trans (ew54)) ((a3 + v28))).symm.trans ev29
      have hpv := ev29
      refine w_ifne (t := 34) rfl rfl (show inr (v29) from q_1312 qv29) (fun b30 => ?_) (fun b30 => ?_)
      · have : ∀ j, 0 ≤ j → j < (x3_5) + 1 → (sh ((w54)) ((a3))) ((sh ((w66)) (8001 * (a1))) j) ≠ 0 := fun j a b => by by_cases e : j = (x3_5); (rw [e]; show ((w54)) ((a3) + ((w66)) (8001 * (a1) + (x3_5))) ≠ 0; rw [hsy, hpv]; omega); exact j3_3 j a (by omega)
        refine Ew_of (pcₚ := 37) (fun _ => x_iinc (len := 3) rfl (l3_5)) ?_
        refine Ew_of (pcₚ := 3) (fun _ => x_goto rfl rfl) ?_
        exact ih3 _ (msE hm3 q_16 (q_17 b2)) _ σ _ _ ((x3_5 + 1)) (rk_o (l3_0) rfl rfl) (rk_o (l3_1) rfl rfl) (rk_o (l3_2) rfl rfl) (rk_o (l3_3) rfl rfl) (rk_o (l3_4) rfl rfl) (rk_s) H (hS_3) (hA_3)   (show inr ((x3_5 + 1)) from q_15 b2 j3_1 r1) (show (0) ≤ ((x3_5 + 1)) from q_14 j3_1) (show ((x3_5 + 1)) ≤ (0) ∨ ((x3_5 + 1)) ≤ ((u6_28)) from q_13 b2) (show ∀ j, 0 ≤ j → j < ((x3_5 + 1)) → (sh ((w54)) ((a3))) ((sh ((w66)) (8001 * (a1))) j) ≠ 0 by assumption) rfl
      · have : (∀ j, 0 ≤ j → j < (u6_28) → (sh ((w54)) ((a3))) ((sh ((w66)) (8001 * (a1))) j) ≠ 0) → (-1 : Int) ≠ -1 := fun q => absurd (q ((x3_5)) (by omega) (by omega)) (by show ¬ (((w54)) ((a3) + ((w66)) (8001 * (a1) + (x3_5))) ≠ 0); rw [hsy, hpv]; omega)
        refine Ew_of (pcₚ := 33) (fun _ => x_iconst rfl) ?_
        exact w_ireturn rfl (k ((-1)) σ _ _ H (SF_trans (SF_refl) hS_3 (any_sub rfl)) (SA_trans (SA_refl) hA_3 (any_subA rfl)) (show inr ((-1)) from q_63) (show ((-1)) = -1 ∨ a4 ≤ ((-1)) ∧ ((-1)) ≤ a4 * (u6_28) by first | exact q_2419 | omega) (show ((-1)) ≠ -1 → COST (sh ((w54)) (a3)) (a4) (sh ((w66)) (8001 * a1)) ((u6_28)) (((-1))) by first | assumption | exact fun h => absurd rfl h | exact fun h => absurd h (by decide) | omega) (show (∀ j, 0 ≤ j → j < (u6_28) → (sh ((w54)) (a3)) ((sh ((w66)) (8001 * a1)) j) ≠ 0) → ((-1)) ≠ -1 by assumption))


end
