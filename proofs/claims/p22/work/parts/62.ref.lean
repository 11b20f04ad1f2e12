/-- Writer.lay -/
theorem M407_75 {σ0 σ : rS} {D N : Nat → Nat} {F : hF} {A : hA} {d c s : Nat} {Q : wQ} (H : HS σ0 σ D N F A) {a2 a3 a4 a5 : Int} (w71 : Int → Int) (ew71 : A 71 = w71) (w72 : Int → Int) (ew72 : A 72 = w72) (w73 : Int → Int) (ew73 : A 73 = w73) (w75 : Int → Int) (ew75 : A 75 = w75) (lst : Int) (h0 : inr (a2)) (h1 : inr (a3)) (h2 : inr (a4)) (h3 : inr (a5)) (h4 : SH ((w75)) (a2) (a3) (a4) lst) (h5 : 0 ≤ (a2) ∧ 1 ≤ (a3) ∧ (a3) ≤ 64 ∧ (a2) + (a3) ≤ 64) (h6 : 0 ≤ (a5) ∧ (a5) + p2 ((a4)) ≤ 2048) (k : ∀ σ Fₚ Aₚ, HS σ0 σ D N Fₚ Aₚ → SF [] F Fₚ → SA [71, 72, 73, 74] A Aₚ → ∀ v71 : Int → Int, Aₚ 71 = v71 → ∀ v72 : Int → Int, Aₚ 72 = v72 → ∀ v73 : Int → Int, Aₚ 73 = v73 → (LD (sh ((w75)) ((a2))) (a3) (a4) (sh ((v71)) ((a5))) (sh ((v72)) ((a5))) (sh ((v73)) ((a5)))) → (TI ((v71)) ((v72)) ((v73)) (a5) (a4) lst) → (FRM ((w71)) ((v71)) (a5) ((a5) + p2 ((a4)))) → (FRM ((w72)) ((v72)) (a5) ((a5) + p2 ((a4)))) → (FRM ((w73)) ((v73)) (a5) ((a5) + p2 ((a4)))) → Q none σ c s) : Ew 407 (d + 1) 0 (rargs 0 [.ref (D 6), .ref (D 75), I a2, I a3, I a4, I a5]) [] σ c s Q := by
  have hsh : SH ((w75)) (a2) (a3) (a4) lst := h4
  have h59 : 5 ≤ (a4) ∧ (a4) ≤ 9 := ⟨hsh.1, hsh.2.1⟩
  have hp5 := p2_5 h59
  have hng := ngs_mono (P := sh ((w75)) ((a2))) (s := 0) (t := (a3)) (by omega) (by omega)
  have hn0 : ngs (sh ((w75)) ((a2))) 0 = 0 := rfl
  have hc0 : cum (sh ((w75)) ((a2))) 0 = 0 := rfl
  have hsp : ngs (sh ((w75)) ((a2))) ((a3)) + cum (sh ((w75)) ((a2))) ((a3)) = p2 ((a4)) := SH_parts hsh
  have hcm := cum_mono (P := sh ((w75)) ((a2))) (s := 0) (t := (a3)) (by omega) (by omega)
  refine Ew_of (pcₚ := 1) (fun _ => x_iconst rfl) ?_
  refine Ew_of (pcₚ := 3) (fun _ => x_iload rfl rfl) ?_
  refine w_ishl1 rfl (show 0 ≤ a4 ∧ a4 ≤ 31 from q_1046 h59) ?_
  refine Ew_of (pcₚ := 6) (fun _ => x_istore rfl) ?_
  refine Ew_of (pcₚ := 7) (fun _ => x_iconst rfl) ?_
  refine Ew_of (pcₚ := 9) (fun _ => x_istore rfl) ?_
  have : FRM ((w71)) ((w71)) (a5) ((a5) + p2 ((a4))) := FRM_refl
  have : ∀ k, (0 : Int) ≤ k → k < 0 → ((w71)) ((a5) + k) = -1 := fun k a b => absurd b (by omega)
  suffices hl9 : ∀ (m : Nat), ∀ (ls : rO) (σ : rS) (F_9 : hF) (A_9 : hA) (x9_7 : Int), rlook ls 0 = some (.ref (D 6)) → rlook ls 1 = some (.ref (D 75)) → rlook ls 2 = some (I (a2)) → rlook ls 3 = some (I (a3)) → rlook ls 4 = some (I (a4)) → rlook ls 5 = some (I (a5)) → rlook ls 6 = some (I (p2 (a4))) → rlook ls 7 = some (I (x9_7)) → HS σ0 σ D N F_9 A_9 → SF [] F F_9 → SA [71] A A_9 → ∀ w9_71 : Int → Int, A_9 71 = w9_71 → (inr (x9_7)) → ((0) ≤ (x9_7)) → ((x9_7) ≤ (0) ∨ (x9_7) ≤ ((p2 (a4)))) → (∀ k, 0 ≤ k → k < (x9_7) → ((w9_71)) ((a5) + k) = -1) → (FRM ((w71)) ((w9_71)) (a5) ((a5) + p2 ((a4)))) → (((p2 (a4))) - (x9_7)).toNat = m → Ew 407 (d + 1) 9 ls [] σ c s Q from
    hl9 _ _ σ _ _ (0) (rk_o (rk_o (rfl) rfl rfl) rfl rfl) (rk_o (rk_o (rfl) rfl rfl) rfl rfl) (rk_o (rk_o (rfl) rfl rfl) rfl rfl) (rk_o (rk_o (rfl) rfl rfl) rfl rfl) (rk_o (rk_o (rfl) rfl rfl) rfl rfl) (rk_o (rk_o (rfl) rfl rfl) rfl rfl) (rk_o (rk_s) rfl rfl) (rk_s) H (SF_refl) (SA_refl)  (w71) (ew71) (show inr (0) from q_20) (show (0) ≤ (0) from q_25) (show (0) ≤ (0) ∨ (0) ≤ ((p2 (a4))) from q_24) (show ∀ k, 0 ≤ k → k < (0) → ((w71)) ((a5) + k) = -1 by assumption) (show FRM ((w71)) ((w71)) (a5) ((a5) + p2 ((a4))) by assumption) rfl
  as_aux_lemma =>
  intro m
  induction m using Nat.strongRecOn with
  | _ m ih9 =>
    intro ls σ F_9 A_9 x9_7 l9_0 l9_1 l9_2 l9_3 l9_4 l9_5 l9_6 l9_7 H hS_9 hA_9  w9_71 ew9_71 j9_0 j9_1 j9_2 j9_3 j9_4 hm9
    refine Ew_of (pcₚ := 11) (fun _ => x_iload rfl l9_7) ?_
    refine Ew_of (pcₚ := 13) (fun _ => x_iload rfl l9_6) ?_
    refine w_icmpge (t := 33) rfl rfl (show inr (x9_7) from j9_0) (show inr (p2 (a4)) by omega) (fun b2 => ?_) (fun b2 => ?_)
    · have hm1 : ∀ k, 0 ≤ k → k < p2 ((a4)) → (sh ((w9_71)) ((a5))) k = -1 := fun k a b => j9_3 k a (by omega)
      have hcA : CA (sh ((w75)) ((a2))) (a3) (a4) (sh ((w9_71)) ((a5))) 0 := CA_0 hm1
      have hnf : ∀ s, 0 ≤ s → s < 0 → (sh ((w75)) ((a2))) s < 0 → (sh ((w9_71)) ((a5))) (p2 ((a4)) - 1 - ngs (sh ((w75)) ((a2))) s) = s := fun s a b => absurd b (by omega)
      refine Ew_of (pcₚ := 35) (fun _ => x_iload rfl l9_6) ?_
      refine Ew_of (pcₚ := 37) (fun _ => x_istore rfl) ?_
      refine Ew_of (pcₚ := 38) (fun _ => x_iconst rfl) ?_
      refine Ew_of (pcₚ := 40) (fun _ => x_istore rfl) ?_
      suffices hl40 : ∀ (m : Nat), ∀ (ls : rO) (σ : rS) (F_40 : hF) (A_40 : hA) (x40_7 : Int) (x40_8 : Int), rlook ls 0 = some (.ref (D 6)) → rlook ls 1 = some (.ref (D 75)) → rlook ls 2 = some (I (a2)) → rlook ls 3 = some (I (a3)) → rlook ls 4 = some (I (a4)) → rlook ls 5 = some (I (a5)) → rlook ls 6 = some (I (p2 (a4))) → rlook ls 7 = some (I (x40_7)) → rlook ls 8 = some (I (x40_8)) → HS σ0 σ D N F_40 A_40 → SF [] F_9 F_40 → SA [71] A_9 A_40 → ∀ w40_71 : Int → Int, A_40 71 = w40_71 → (inr (x40_7)) → (inr (x40_8)) → ((0) ≤ (x40_8)) → ((x40_8) ≤ (0) ∨ (x40_8) ≤ ((a3))) → ((x40_7) = p2 ((a4)) - ngs (sh ((w75)) ((a2))) ((x40_8))) → (0 ≤ (x40_7) ∧ (x40_7) ≤ p2 ((a4))) → (∀ s, 0 ≤ s → s < (x40_8) → (sh ((w75)) ((a2))) s < 0 → (sh ((w40_71)) ((a5))) (p2 ((a4)) - 1 - ngs (sh ((w75)) ((a2))) s) = s) → (∀ k, 0 ≤ k → k < (x40_7) → (sh ((w40_71)) ((a5))) k = -1) → (CA (sh ((w75)) ((a2))) (a3) (a4) (sh ((w40_71)) ((a5))) ((x40_8))) → (FRM ((w71)) ((w40_71)) (a5) ((a5) + p2 ((a4)))) → (((a3)) - (x40_8)).toNat = m → Ew 407 (d + 1) 40 ls [] σ c s Q from
        hl40 _ _ σ _ _ (p2 (a4)) (0) (rk_o (rk_o (l9_0) rfl rfl) rfl rfl) (rk_o (rk_o (l9_1) rfl rfl) rfl rfl) (rk_o (rk_o (l9_2) rfl rfl) rfl rfl) (rk_o (rk_o (l9_3) rfl rfl) rfl rfl) (rk_o (rk_o (l9_4) rfl rfl) rfl rfl) (rk_o (rk_o (l9_5) rfl rfl) rfl rfl) (rk_o (rk_o (l9_6) rfl rfl) rfl rfl) (rk_o (rk_s) rfl rfl) (rk_s) H (SF_refl) (SA_refl)  (w9_71) (ew9_71) (show inr (p2 (a4)) by omega) (show inr (0) from q_20) (show (0) ≤ (0) from q_25) (show (0) ≤ (0) ∨ (0) ≤ ((a3)) from q_24) (show (p2 (a4)) = p2 ((a4)) - ngs (sh ((w75)) ((a2))) ((0)) from q_2094 hn0) (show 0 ≤ (p2 (a4)) ∧ (p2 (a4)) ≤ p2 ((a4)) by omega) (show ∀ s, 0 ≤ s → s < (0) → (sh ((w75)) ((a2))) s < 0 → (sh ((w9_71)) ((a5))) (p2 ((a4)) - 1 - ngs (sh ((w75)) ((a2))) s) = s by assumption) (show ∀ k, 0 ≤ k → k < (p2 (a4)) → (sh ((w9_71)) ((a5))) k = -1 by assumption) (show CA (sh ((w75)) ((a2))) (a3) (a4) (sh ((w9_71)) ((a5))) ((0)) from hcA) (show FRM ((w71)) ((w9_71)) (a5) ((a5) + p2 ((a4))) from j9_4) rfl
      as_aux_lemma =>
      intro m
      induction m using Nat.strongRecOn with
      | _ m ih40 =>
        intro ls σ F_40 A_40 x40_7 x40_8 l40_0 l40_1 l40_2 l40_3 l40_4 l40_5 l40_6 l40_7 l40_8 H hS_40 hA_40  w40_71 ew40_71 j40_0 j40_1 j40_2 j40_3 j40_4 j40_5 j40_6 j40_7 j40_8 j40_9 hm40
        refine Ew_of (pcₚ := 42) (fun _ => x_iload rfl l40_8) ?_
        refine Ew_of (pcₚ := 43) (fun _ => x_iload_n rfl l40_3) ?_
        refine w_icmpge (t := 77) rfl rfl (show inr (x40_8) from j40_1) (show inr (a3) from h1) (fun b3 => ?_) (fun b3 => ?_)
        · have hne3 : ngs (sh ((w75)) ((a2))) ((x40_8)) = ngs (sh ((w75)) ((a2))) ((a3)) := by rw [show (x40_8) = (a3) by omega]
          have hPT : PT (sh ((w75)) ((a2))) (a3) (a4) (sh ((w40_71)) ((a5))) 0 (cum (sh ((w75)) ((a2))) 0) := by rw [hc0]; exact PT_start (by omega) (fun s a b c => (show ∀ s, 0 ≤ s → s < (x40_8) → (sh ((w75)) ((a2))) s < 0 → (sh ((w40_71)) ((a5))) (p2 ((a4)) - 1 - ngs (sh ((w75)) ((a2))) s) = s from by assumption) s a (by omega) c) (fun k a b => (show ∀ k, 0 ≤ k → k < (x40_7) → (sh ((w40_71)) ((a5))) k = -1 from by assumption) k a (by omega))
          have hCB : CB (sh ((w75)) ((a2))) (a3) (a4) (sh ((w40_71)) ((a5))) 0 0 := CB_0 (show CA (sh ((w75)) ((a2))) (a3) (a4) (sh ((w40_71)) ((a5))) ((x40_8)) from j40_8) (by omega)
          have : ∀ i, (0 : Int) ≤ i → i < 0 → ((A 74)) i = mass ((sh ((w75)) ((a2))) i) := fun i a b => absurd b (by omega)
          refine Ew_of (pcₚ := 78) (fun _ => x_iconst rfl) ?_
          refine Ew_of (pcₚ := 80) (fun _ => x_istore rfl) ?_
          refine Ew_of (pcₚ := 81) (fun _ => x_iconst rfl) ?_
          refine Ew_of (pcₚ := 83) (fun _ => x_istore rfl) ?_
          suffices hl83 : ∀ (m : Nat), ∀ (ls : rO) (σ : rS) (F_83 : hF) (A_83 : hA) (x83_8 : Int) (x83_9 : Int), rlook ls 0 = some (.ref (D 6)) → rlook ls 1 = some (.ref (D 75)) → rlook ls 2 = some (I (a2)) → rlook ls 3 = some (I (a3)) → rlook ls 4 = some (I (a4)) → rlook ls 5 = some (I (a5)) → rlook ls 6 = some (I (p2 (a4))) → rlook ls 8 = some (I (x83_8)) → rlook ls 9 = some (I (x83_9)) → HS σ0 σ D N F_83 A_83 → SF [] F_40 F_83 → SA [71, 74] A_40 A_83 → ∀ w83_71 : Int → Int, A_83 71 = w83_71 → ∀ w83_74 : Int → Int, A_83 74 = w83_74 → (inr (x83_8)) → (inr (x83_9)) → ((0) ≤ (x83_9)) → ((x83_9) ≤ (0) ∨ (x83_9) ≤ ((a3))) → (PT (sh ((w75)) ((a2))) (a3) (a4) (sh ((w83_71)) ((a5))) ((x83_8)) (cum (sh ((w75)) ((a2))) ((x83_9)))) → (CB (sh ((w75)) ((a2))) (a3) (a4) (sh ((w83_71)) ((a5))) ((x83_9)) 0) → (FRM ((w71)) ((w83_71)) (a5) ((a5) + p2 ((a4)))) → (∀ i, 0 ≤ i → i < (x83_9) → ((w83_74)) i = mass ((sh ((w75)) ((a2))) i)) → (((a3)) - (x83_9)).toNat = m → Ew 407 (d + 1) 83 ls [] σ c s Q from
            hl83 _ _ σ _ _ (0) (0) (rk_o (rk_o (l40_0) rfl rfl) rfl rfl) (rk_o (rk_o (l40_1) rfl rfl) rfl rfl) (rk_o (rk_o (l40_2) rfl rfl) rfl rfl) (rk_o (rk_o (l40_3) rfl rfl) rfl rfl) (rk_o (rk_o (l40_4) rfl rfl) rfl rfl) (rk_o (rk_o (l40_5) rfl rfl) rfl rfl) (rk_o (rk_o (l40_6) rfl rfl) rfl rfl) (rk_o (rk_s) rfl rfl) (rk_s) H (SF_refl) (SA_refl)  (w40_71) (ew40_71) (A 74) ((funext (hA_40 74 rfl)).trans (funext (hA_9 74 rfl))) (show inr (0) from q_20) (show inr (0) from q_20) (show (0) ≤ (0) from q_25) (show (0) ≤ (0) ∨ (0) ≤ ((a3)) from q_24) (show PT (sh ((w75)) ((a2))) (a3) (a4) (sh ((w40_71)) ((a5))) ((0)) (cum (sh ((w75)) ((a2))) ((0))) from hPT) (show CB (sh ((w75)) ((a2))) (a3) (a4) (sh ((w40_71)) ((a5))) ((0)) 0 from hCB) (show FRM ((w71)) ((w40_71)) (a5) ((a5) + p2 ((a4))) from j40_9) (show ∀ i, 0 ≤ i → i < (0) → ((A 74)) i = mass ((sh ((w75)) ((a2))) i) by assumption) rfl
          as_aux_lemma =>
          intro m
          induction m using Nat.strongRecOn with
          | _ m ih83 =>
            intro ls σ F_83 A_83 x83_8 x83_9 l83_0 l83_1 l83_2 l83_3 l83_4 l83_5 l83_6 l83_8 l83_9 H hS_83 hA_83  w83_71 ew83_71 w83_74 ew83_74 j83_0 j83_1 j83_2 j83_3 j83_4 j83_5 j83_6 j83_7 hm83
            refine Ew_of (pcₚ := 85) (fun _ => x_iload rfl l83_9) ?_
            refine Ew_of (pcₚ := 86) (fun _ => x_iload_n rfl l83_3) ?_
            refine w_icmpge (t := 179) rfl rfl (show inr (x83_9) from j83_1) (show inr (a3) from h1) (fun b4 => ?_) (fun b4 => ?_)
            · have hlaid : LAID (sh ((w75)) ((a2))) (a3) (a4) (sh ((w83_71)) ((a5))) := PT_end h59 (by omega) (by rw [show p2 ((a4)) - ngs (sh ((w75)) ((a2))) ((a3)) = cum (sh ((w75)) ((a2))) ((x83_9)) by rw [show (x83_9) = (a3) by omega]; omega]; assumption)
              have hcnt := CB_end (show CB (sh ((w75)) ((a2))) (a3) (a4) (sh ((w83_71)) ((a5))) ((x83_9)) 0 from j83_5) (by omega)
              have : NB (sh ((w75)) ((a2))) (a3) (sh ((w83_71)) ((a5))) ((w83_74)) 0 := NB_0 (fun s a b => (show ∀ i, 0 ≤ i → i < (x83_9) → ((w83_74)) i = mass ((sh ((w75)) ((a2))) i) from by assumption) s a (by omega))
              have : NUM (sh ((w75)) ((a2))) (a4) (sh ((w83_71)) ((a5))) (sh ((w72)) ((a5))) (sh ((w73)) ((a5))) 0 := fun k a b => absurd b (by omega)
              have : TJ ((w83_71)) ((w72)) ((w73)) (a5) (a4) lst 0 := fun k a b => absurd b (by omega)
              have : FRM ((w72)) ((w72)) (a5) ((a5) + p2 ((a4))) := FRM_refl
              have : FRM ((w73)) ((w73)) (a5) ((a5) + p2 ((a4))) := FRM_refl
              refine Ew_of (pcₚ := 180) (fun _ => x_iconst rfl) ?_
              refine Ew_of (pcₚ := 182) (fun _ => x_istore rfl) ?_
              suffices hl182 : ∀ (m : Nat), ∀ (ls : rO) (σ : rS) (F_182 : hF) (A_182 : hA) (x182_9 : Int), rlook ls 0 = some (.ref (D 6)) → rlook ls 4 = some (I (a4)) → rlook ls 5 = some (I (a5)) → rlook ls 6 = some (I (p2 (a4))) → rlook ls 9 = some (I (x182_9)) → HS σ0 σ D N F_182 A_182 → SF [] F_83 F_182 → SA [72, 73, 74] A_83 A_182 → ∀ w182_72 : Int → Int, A_182 72 = w182_72 → ∀ w182_73 : Int → Int, A_182 73 = w182_73 → ∀ w182_74 : Int → Int, A_182 74 = w182_74 → (inr (x182_9)) → ((0) ≤ (x182_9)) → ((x182_9) ≤ (0) ∨ (x182_9) ≤ ((p2 (a4)))) → (NB (sh ((w75)) ((a2))) (a3) (sh ((w83_71)) ((a5))) ((w182_74)) ((x182_9))) → (NUM (sh ((w75)) ((a2))) (a4) (sh ((w83_71)) ((a5))) (sh ((w182_72)) ((a5))) (sh ((w182_73)) ((a5))) ((x182_9))) → (TJ ((w83_71)) ((w182_72)) ((w182_73)) (a5) (a4) lst ((x182_9))) → (FRM ((w72)) ((w182_72)) (a5) ((a5) + p2 ((a4)))) → (FRM ((w73)) ((w182_73)) (a5) ((a5) + p2 ((a4)))) → (((p2 (a4))) - (x182_9)).toNat = m → Ew 407 (d + 1) 182 ls [] σ c s Q from
                hl182 _ _ σ _ _ (0) (rk_o (l83_0) rfl rfl) (rk_o (l83_4) rfl rfl) (rk_o (l83_5) rfl rfl) (rk_o (l83_6) rfl rfl) (rk_s) H (SF_refl) (SA_refl)  (w72) ((funext (hA_83 72 rfl)).trans ((funext (hA_40 72 rfl)).trans ((funext (hA_9 72 rfl)).trans (ew72)))) (w73) ((funext (hA_83 73 rfl)).trans ((funext (hA_40 73 rfl)).trans ((funext (hA_9 73 rfl)).trans (ew73)))) (w83_74) (ew83_74) (show inr (0) from q_20) (show (0) ≤ (0) from q_25) (show (0) ≤ (0) ∨ (0) ≤ ((p2 (a4))) from q_24) (show NB (sh ((w75)) ((a2))) (a3) (sh ((w83_71)) ((a5))) ((w83_74)) ((0)) by assumption) (show NUM (sh ((w75)) ((a2))) (a4) (sh ((w83_71)) ((a5))) (sh ((w72)) ((a5))) (sh ((w73)) ((a5))) ((0)) by assumption) (show TJ ((w83_71)) ((w72)) ((w73)) (a5) (a4) lst ((0)) by assumption) (show FRM ((w72)) ((w72)) (a5) ((a5) + p2 ((a4))) by assumption) (show FRM ((w73)) ((w73)) (a5) ((a5) + p2 ((a4))) by assumption) rfl
              as_aux_lemma =>
              intro m
              induction m using Nat.strongRecOn with
              | _ m ih182 =>
                intro ls σ F_182 A_182 x182_9 l182_0 l182_4 l182_5 l182_6 l182_9 H hS_182 hA_182  w182_72 ew182_72 w182_73 ew182_73 w182_74 ew182_74 j182_0 j182_1 j182_2 j182_3 j182_4 j182_5 j182_6 j182_7 hm182
                have j182_num : NUM (sh ((w75)) ((a2))) (a4) (sh ((w83_71)) ((a5))) (sh ((w182_72)) ((a5))) (sh ((w182_73)) ((a5))) ((x182_9)) := j182_4
                have j182_tj : TJ ((w83_71)) ((w182_72)) ((w182_73)) (a5) (a4) lst ((x182_9)) := j182_5
                refine Ew_of (pcₚ := 184) (fun _ => x_iload rfl l182_9) ?_
                refine Ew_of (pcₚ := 186) (fun _ => x_iload rfl l182_6) ?_
                refine w_icmpge (t := 273) rfl rfl (show inr (x182_9) from j182_0) (show inr (p2 (a4)) from q_2095 h6 j40_5) (fun b5 => ?_) (fun b5 => ?_)
                · have : LD (sh ((w75)) ((a2))) (a3) (a4) (sh ((w83_71)) ((a5))) (sh ((w182_72)) ((a5))) (sh ((w182_73)) ((a5))) := ⟨hlaid, hcnt, fun k a b => (show NUM (sh ((w75)) ((a2))) (a4) (sh ((w83_71)) ((a5))) (sh ((w182_72)) ((a5))) (sh ((w182_73)) ((a5))) ((x182_9)) from j182_num) k a (by omega)⟩
                  have : TI ((w83_71)) ((w182_72)) ((w182_73)) (a5) (a4) lst := fun k a b => (show TJ ((w83_71)) ((w182_72)) ((w182_73)) (a5) (a4) lst ((x182_9)) from j182_tj) k a (by omega)
                  exact w_ret rfl (k σ _ _ H (SF_trans (SF_trans (SF_trans (SF_trans (SF_refl) hS_9 (any_sub rfl)) hS_40 (any_sub rfl)) hS_83 (any_sub rfl)) hS_182 (any_sub rfl)) (SA_trans (SA_trans (SA_trans (SA_trans (SA_refl) hA_9 (any_subA rfl)) hA_40 (any_subA rfl)) hA_83 (any_subA rfl)) hA_182 (any_subA rfl)) (w83_71) ((funext (hA_182 71 rfl)).trans (ew83_71)) (w182_72) (ew182_72) (w182_73) (ew182_73) (show LD (sh ((w75)) (a2)) a3 a4 (sh ((w83_71)) (a5)) (sh ((w182_72)) (a5)) (sh ((w182_73)) (a5)) by assumption) (show TI ((w83_71)) ((w182_72)) ((w182_73)) a5 a4 lst by assumption) (show FRM ((w71)) ((w83_71)) a5 (a5 + p2 (a4)) from j83_6) (show FRM ((w72)) ((w182_72)) a5 (a5 + p2 (a4)) from j182_6) (show FRM ((w73)) ((w182_73)) a5 (a5 + p2 (a4)) from j182_7))
                · have hlr := LAID_rng h59 (by omega) hlaid (k := (x182_9)) (by omega) (by omega)
                  have hse : (sh ((w83_71)) ((a5))) ((x182_9)) = ((w83_71)) ((a5) + (x182_9)) := rfl
                  have hnb : NB (sh ((w75)) ((a2))) (a3) (sh ((w83_71)) ((a5))) ((w182_74)) ((x182_9)) := j182_3
                  have hnx := NB_x hnb hcnt (by omega) (by omega) hlr.1 hlr.2.1
                  have hle := SH_le ((sh ((w83_71)) ((a5))) ((x182_9))) hsh hlr.1 hlr.2.1
                  have hpe : (sh ((w75)) ((a2))) ((sh ((w83_71)) ((a5))) ((x182_9))) = ((w75)) ((a2) + (sh ((w83_71)) ((a5))) ((x182_9))) := rfl
                  have hme := mass_eq ((sh ((w75)) ((a2))) ((sh ((w83_71)) ((a5))) ((x182_9))))
                  have hls := hle.2.2.2 (by rw [← hpe]; exact hlr.2.2)
                  have hmb : mass ((sh ((w75)) ((a2))) ((sh ((w83_71)) ((a5))) ((x182_9)))) ≤ p2 ((a4)) := hle.2.2.1
                  have hm1_ : 1 ≤ mass ((sh ((w75)) ((a2))) ((sh ((w83_71)) ((a5))) ((x182_9)))) := by have := hlr.2.2; omega
                  refine Ew_of (pcₚ := 190) (fun _ => x_aload_n rfl l182_0) ?_
                  refine w_gT H (o := 6) (t := 74) rfl (H.perm 6 rfl) rfl rfl rfl rfl rfl rfl ?_
                  refine Ew_of (pcₚ := 194) (fun _ => x_aload_n rfl l182_0) ?_
                  refine w_gT H (o := 6) (t := 71) rfl (H.perm 6 rfl) rfl rfl rfl rfl rfl rfl ?_
                  refine Ew_of (pcₚ := 199) (fun _ => x_iload rfl l182_5) ?_
                  refine Ew_of (pcₚ := 201) (fun _ => x_iload rfl l182_9) ?_
                  refine w_iadd rfl ?_
                  refine w_lI H (o := 71) (n := 2048) rfl (H.perm 71 rfl) rfl rfl (H.fix 71 rfl rfl) (show 0 ≤ (a5 + x182_9) ∧ (a5 + x182_9) < ((2048 : Nat) : Int) from q_2096 b5 h6 j182_1) (by decide) (fun v6 ev6 qv6 => ?_)
                  have qv6 : (-1 : Int) ≤ v6 ∧ v6 ≤ 63 := qv6
                  have ev6 : (w83_71) ((a5 + x182_9)) = v6 := (congrFun ((funext (hA_182 71 rfl)).trans (ew83_71)) ((a5 + x182_9))).symm.trans ev6
                  have hsv := ev6
                  rw [hse, hsv] at hnx hmb hm1_
                  refine w_lI H (o := 74) (n := 64) rfl (H.perm 74 rfl) rfl rfl (H.fix 74 rfl rfl) (show 0 ≤ v6 ∧ v6 < ((64 : Nat) : Int) by omega) (by decide) (fun v7 ev7 qv7 => ?_)
                  have qv7 : (-2147483648 : Int) ≤ v7 ∧ v7 ≤ 2147483647 := qv7
                  have ev7 : (w182_74) (v6) = v7 := (congrFun (ew182_74) (v6)).symm.trans ev7
                  refine Ew_of (pcₚ := 206) (fun _ => x_istore rfl) ?_
                  have hxv := ev7
                  rw [hxv] at hnx
                  refine Ew_of (pcₚ := 207) (fun _ => x_aload_n rfl (rk_o (l182_0) rfl rfl)) ?_
                  refine w_gT H (o := 6) (t := 74) rfl (H.perm 6 rfl) rfl rfl rfl rfl rfl rfl ?_
                  refine Ew_of (pcₚ := 211) (fun _ => x_aload_n rfl (rk_o (l182_0) rfl rfl)) ?_
                  refine w_gT H (o := 6) (t := 71) rfl (H.perm 6 rfl) rfl rfl rfl rfl rfl rfl ?_
                  refine Ew_of (pcₚ := 216) (fun _ => x_iload rfl (rk_o (l182_5) rfl rfl)) ?_
                  refine Ew_of (pcₚ := 218) (fun _ => x_iload rfl (rk_o (l182_9) rfl rfl)) ?_
                  refine w_iadd rfl ?_
                  refine w_lI H (o := 71) (n := 2048) rfl (H.perm 71 rfl) rfl rfl (H.fix 71 rfl rfl) (show 0 ≤ (a5 + x182_9) ∧ (a5 + x182_9) < ((2048 : Nat) : Int) from q_2096 b5 h6 j182_1) (by decide) (fun v8 ev8 qv8 => ?_)
                  have qv8 : (-1 : Int) ≤ v8 ∧ v8 ≤ 63 := qv8
                  have ev8 : (w83_71) ((a5 + x182_9)) = v8 := (congrFun ((funext (hA_182 71 rfl)).trans (ew83_71)) ((a5 + x182_9))).symm.trans ev8
                  refine Ew_of (pcₚ := 222) (fun _ => x_iload rfl rk_s) ?_
                  refine Ew_of (pcₚ := 223) (fun _ => x_iconst rfl) ?_
                  refine w_iadd rfl ?_
                  have hsv2 := ev8
                  have hnb2 : NB (sh ((w75)) ((a2))) (a3) (sh ((w83_71)) ((a5))) (upd1 ((w182_74)) ((v8)) (((v7 + 1)))) ((x182_9) + 1) := by have h := NB_next hnb (x := ((v7 + 1))) (k2 := (x182_9) + 1) (by omega) rfl hlr.1 hlr.2.1 (by rw [hse, hsv]; omega); rw [hse, hsv2] at h; exact h
                  refine w_sI H (o := 74) (n := 64) rfl (H.perm 74 rfl) rfl rfl (H.fix 74 rfl rfl) (show 0 ≤ v8 ∧ v8 < ((64 : Nat) : Int) by omega) (by decide) (show (-2147483648 : Int) ≤ (v7 + 1) ∧ (v7 + 1) ≤ 2147483647 by omega) (fun σ H => ?_)
                  refine Ew_of (pcₚ := 226) (fun _ => x_aload_n rfl (rk_o (l182_0) rfl rfl)) ?_
                  refine w_gT H (o := 6) (t := 72) rfl (H.perm 6 rfl) rfl rfl rfl rfl rfl rfl ?_
                  refine Ew_of (pcₚ := 231) (fun _ => x_iload rfl (rk_o (l182_5) rfl rfl)) ?_
                  refine Ew_of (pcₚ := 233) (fun _ => x_iload rfl (rk_o (l182_9) rfl rfl)) ?_
                  refine w_iadd rfl ?_
                  refine Ew_of (pcₚ := 236) (fun _ => x_iload rfl (rk_o (l182_4) rfl rfl)) ?_
                  refine Ew_of (pcₚ := 238) (fun _ => x_iload rfl rk_s) ?_
                  refine w_stat24 rfl rfl (by rfl) (M400 H (show inr (v7) from q_22 qv7) (show 1 ≤ (v7) by omega) (fun z13 σ F9 A10 H hS11 hA12 pz13_0 pz13_1 pz13_2 => ⟨rfl, ?_⟩))
                  have hib := hi_base (x := (v7)) (r := (z13)) (o := (a4)) (by omega) (by omega) (by omega) (by omega) (by omega)
                  have hpp := p2_pos ((a4) - (z13))
                  refine w_isub rfl ?_
                  have : FRM ((w72)) (upd1 ((w182_72)) ((a5) + (x182_9)) (((a4 - z13)))) (a5) ((a5) + p2 ((a4))) := FRM_upd (by assumption) (by omega) (by omega)
                  refine w_sI H (o := 72) (n := 2048) rfl (H.perm 72 rfl) rfl rfl (H.fix 72 rfl rfl) (show 0 ≤ (a5 + x182_9) ∧ (a5 + x182_9) < ((2048 : Nat) : Int) from q_2096 b5 h6 j182_1) (by decide) (show (0 : Int) ≤ (a4 - z13) ∧ (a4 - z13) ≤ 9 by omega) (fun σ H => ?_)
                  refine Ew_of (pcₚ := 244) (fun _ => x_aload_n rfl (rk_o (l182_0) rfl rfl)) ?_
                  refine w_gT H (o := 6) (t := 73) rfl (H.perm 6 rfl) rfl rfl rfl rfl rfl rfl ?_
                  refine Ew_of (pcₚ := 249) (fun _ => x_iload rfl (rk_o (l182_5) rfl rfl)) ?_
                  refine Ew_of (pcₚ := 251) (fun _ => x_iload rfl (rk_o (l182_9) rfl rfl)) ?_
                  refine w_iadd rfl ?_
                  refine Ew_of (pcₚ := 254) (fun _ => x_iload rfl rk_s) ?_
                  refine Ew_of (pcₚ := 256) (fun _ => x_iload rfl (rk_o (l182_4) rfl rfl)) ?_
                  refine Ew_of (pcₚ := 258) (fun _ => x_iload rfl rk_s) ?_
                  refine w_stat24 rfl rfl (by rfl) (M400 H (show inr (v7) from q_2098 pz13_2 qv7) (show 1 ≤ (v7) from q_2097 pz13_2) (fun z18 σ F14 A15 H hS16 hA17 pz18_0 pz18_1 pz18_2 => ⟨rfl, ?_⟩))
                  refine w_isub rfl ?_
                  have hrr := p2_same (r := z13) (t := z18) (x := (v7)) (by omega) (by omega) (by omega) (by omega) (by omega) (by omega)
                  have hpq : p2 ((a4) - z13) = p2 ((a4) - z18) := by rw [hrr]
                  rw [hrr] at hib hpp
                  have hnum : NUM (sh ((w75)) ((a2))) (a4) (sh ((w83_71)) ((a5))) (sh ((upd1 (w182_72) ((a5 + x182_9)) ((a4 - z13)))) ((a5))) (sh (upd1 ((w182_73)) ((a5) + (x182_9)) ((v7) * p2 ((a4) - z18) - p2 ((a4)))) ((a5))) ((x182_9) + 1) := by rw [sh_upd, sh_upd]; exact NUM_next (r := z18) j182_num rfl (by omega) (by omega) (by omega) (by omega) (by omega) (by rw [← hnx.1])
                  have htj : TJ ((w83_71)) ((upd1 (w182_72) ((a5 + x182_9)) ((a4 - z13)))) (upd1 ((w182_73)) ((a5) + (x182_9)) ((v7) * p2 ((a4) - z18) - p2 ((a4)))) (a5) (a4) lst ((x182_9) + 1) := TJ_next j182_tj (by omega) (by omega) (by omega)
                  have : FRM ((w73)) (upd1 ((w182_73)) ((a5) + (x182_9)) ((v7) * p2 ((a4) - z18) - p2 ((a4)))) (a5) ((a5) + p2 ((a4))) := FRM_upd (by assumption) (by omega) (by omega)
                  refine w_ishlT rfl (show 0 ≤ (a4 - z18) ∧ (a4 - z18) ≤ 31 by omega) ?_
                  refine Ew_of (pcₚ := 265) (fun _ => x_iload rfl (rk_o (l182_6) rfl rfl)) ?_
                  refine w_isub rfl ?_
                  refine w_sI H (o := 73) (n := 2048) rfl (H.perm 73 rfl) rfl rfl (H.fix 73 rfl rfl) (show 0 ≤ (a5 + x182_9) ∧ (a5 + x182_9) < ((2048 : Nat) : Int) from q_2096 b5 h6 j182_1) (by decide) (show (0 : Int) ≤ ((v7 * p2 ((a4 - z18))) - p2 (a4)) ∧ ((v7 * p2 ((a4 - z18))) - p2 (a4)) ≤ 511 by omega) (fun σ H => ?_)
                  refine Ew_of (pcₚ := 270) (fun _ => x_iinc (len := 3) rfl (rk_o (l182_9) rfl rfl)) ?_
                  refine Ew_of (pcₚ := 182) (fun _ => x_goto rfl rfl) ?_
                  exact ih182 _ (msE hm182 q_31 (q_34 b5)) _ σ _ _ ((x182_9 + 1)) (rk_o (rk_o (l182_0) rfl rfl) rfl rfl) (rk_o (rk_o (l182_4) rfl rfl) rfl rfl) (rk_o (rk_o (l182_5) rfl rfl) rfl rfl) (rk_o (rk_o (l182_6) rfl rfl) rfl rfl) (rk_s) H (SF_trans (SF_trans (hS_182) hS11 (any_sub rfl)) hS16 (any_sub rfl)) (SA_upd (SA_trans (SA_upd (SA_trans (SA_upd (hA_182) rfl) hA12 (any_subA rfl)) rfl) hA17 (any_subA rfl)) rfl)  (upd1 (w182_72) ((a5 + x182_9)) ((a4 - z13))) ((funext (hA17 72 rfl)).trans (congrArg (fun q => upd1 q ((a5 + x182_9)) ((a4 - z13))) ((funext (hA12 72 rfl)).trans (ew182_72)))) (upd1 (w182_73) ((a5 + x182_9)) (((v7 * p2 ((a4 - z18))) - p2 (a4)))) (congrArg (fun q => upd1 q ((a5 + x182_9)) (((v7 * p2 ((a4 - z18))) - p2 (a4)))) ((funext (hA17 73 rfl)).trans ((funext (hA12 73 rfl)).trans (ew182_73)))) (upd1 (w182_74) (v8) ((v7 + 1))) ((funext (hA17 74 rfl)).trans ((funext (hA12 74 rfl)).trans (congrArg (fun q => upd1 q (v8) ((v7 + 1))) (ew182_74)))) (show inr ((x182_9 + 1)) from q_2099 b5 h6 j182_1) (show (0) ≤ ((x182_9 + 1)) from q_29 j182_1) (show ((x182_9 + 1)) ≤ (0) ∨ ((x182_9 + 1)) ≤ ((p2 (a4))) from q_33 b5) (show NB (sh ((w75)) ((a2))) (a3) (sh ((w83_71)) ((a5))) ((upd1 (w182_74) (v8) ((v7 + 1)))) (((x182_9 + 1))) from hnb2) (show NUM (sh ((w75)) ((a2))) (a4) (sh ((w83_71)) ((a5))) (sh ((upd1 (w182_72) ((a5 + x182_9)) ((a4 - z13)))) ((a5))) (sh ((upd1 (w182_73) ((a5 + x182_9)) (((v7 * p2 ((a4 - z18))) - p2 (a4))))) ((a5))) (((x182_9 + 1))) from hnum) (show TJ ((w83_71)) ((upd1 (w182_72) ((a5 + x182_9)) ((a4 - z13)))) ((upd1 (w182_73) ((a5 + x182_9)) (((v7 * p2 ((a4 - z18))) - p2 (a4))))) (a5) (a4) lst (((x182_9 + 1))) from htj) (show FRM ((w72)) ((upd1 (w182_72) ((a5 + x182_9)) ((a4 - z13)))) (a5) ((a5) + p2 ((a4))) by assumption) (show FRM ((w73)) ((upd1 (w182_73) ((a5 + x182_9)) (((v7 * p2 ((a4 - z18))) - p2 (a4))))) (a5) ((a5) + p2 ((a4))) by assumption) rfl
            · have hpo := posi_eq ((sh ((w75)) ((a2))) ((x83_9)))
              have hcs := cum_s (P := sh ((w75)) ((a2))) (s := (x83_9)) (by omega)
              have hcm2 := cum_mono (P := sh ((w75)) ((a2))) (s := (x83_9) + 1) (t := (a3)) (by omega) (by omega)
              have hpe : (sh ((w75)) ((a2))) ((x83_9)) = ((w75)) ((a2) + (x83_9)) := rfl
              have hle := SH_le ((x83_9)) hsh (by omega) (by omega)
              have hPT0 : PT (sh ((w75)) ((a2))) (a3) (a4) (sh ((w83_71)) ((a5))) ((x83_8)) (cum (sh ((w75)) ((a2))) ((x83_9)) + 0) := by rw [Int.add_zero]; assumption
              refine Ew_of (pcₚ := 90) (fun _ => x_iconst rfl) ?_
              refine Ew_of (pcₚ := 92) (fun _ => x_istore rfl) ?_
              suffices hl92 : ∀ (m : Nat), ∀ (ls : rO) (σ : rS) (F_92 : hF) (A_92 : hA) (x92_8 : Int) (x92_10 : Int), rlook ls 0 = some (.ref (D 6)) → rlook ls 1 = some (.ref (D 75)) → rlook ls 2 = some (I (a2)) → rlook ls 3 = some (I (a3)) → rlook ls 4 = some (I (a4)) → rlook ls 5 = some (I (a5)) → rlook ls 6 = some (I (p2 (a4))) → rlook ls 8 = some (I (x92_8)) → rlook ls 9 = some (I (x83_9)) → rlook ls 10 = some (I (x92_10)) → HS σ0 σ D N F_92 A_92 → SF [] F_83 F_92 → SA [71] A_83 A_92 → ∀ w92_71 : Int → Int, A_92 71 = w92_71 → (inr (x92_8)) → (inr (x92_10)) → (0 ≤ (x92_10) ∧ (x92_10) ≤ posi ((sh ((w75)) ((a2))) ((x83_9)))) → (PT (sh ((w75)) ((a2))) (a3) (a4) (sh ((w92_71)) ((a5))) ((x92_8)) (cum (sh ((w75)) ((a2))) ((x83_9)) + (x92_10))) → (CB (sh ((w75)) ((a2))) (a3) (a4) (sh ((w92_71)) ((a5))) ((x83_9)) ((x92_10))) → (FRM ((w71)) ((w92_71)) (a5) ((a5) + p2 ((a4)))) → (((w75)) ((a2) + (x83_9)) - (x92_10)).toNat = m → Ew 407 (d + 1) 92 ls [] σ c s Q from
                hl92 _ _ σ _ _ (x83_8) (0) (rk_o (l83_0) rfl rfl) (rk_o (l83_1) rfl rfl) (rk_o (l83_2) rfl rfl) (rk_o (l83_3) rfl rfl) (rk_o (l83_4) rfl rfl) (rk_o (l83_5) rfl rfl) (rk_o (l83_6) rfl rfl) (rk_o (l83_8) rfl rfl) (rk_o (l83_9) rfl rfl) (rk_s) H (SF_refl) (SA_refl)  (w83_71) (ew83_71) (show inr (x83_8) from j83_0) (show inr (0) from q_20) (show 0 ≤ (0) ∧ (0) ≤ posi ((sh ((w75)) ((a2))) ((x83_9))) by omega) (show PT (sh ((w75)) ((a2))) (a3) (a4) (sh ((w83_71)) ((a5))) ((x83_8)) (cum (sh ((w75)) ((a2))) ((x83_9)) + (0)) from hPT0) (show CB (sh ((w75)) ((a2))) (a3) (a4) (sh ((w83_71)) ((a5))) ((x83_9)) ((0)) from j83_5) (show FRM ((w71)) ((w83_71)) (a5) ((a5) + p2 ((a4))) from j83_6) rfl
              as_aux_lemma =>
              intro m
              induction m using Nat.strongRecOn with
              | _ m ih92 =>
                intro ls σ F_92 A_92 x92_8 x92_10 l92_0 l92_1 l92_2 l92_3 l92_4 l92_5 l92_6 l92_8 l92_9 l92_10 H hS_92 hA_92  w92_71 ew92_71 j92_0 j92_1 j92_2 j92_3 j92_4 j92_5 hm92
                refine Ew_of (pcₚ := 94) (fun _ => x_iload rfl l92_10) ?_
                refine Ew_of (pcₚ := 95) (fun _ => x_aload_n rfl l92_1) ?_
                refine Ew_of (pcₚ := 96) (fun _ => x_iload_n rfl l92_2) ?_
                refine Ew_of (pcₚ := 98) (fun _ => x_iload rfl l92_9) ?_
                refine w_iadd rfl ?_
                refine w_lI H (o := 75) (n := 64) rfl (H.perm 75 rfl) rfl rfl (H.fix 75 rfl rfl) (show 0 ≤ (a2 + x83_9) ∧ (a2 + x83_9) < ((64 : Nat) : Int) from q_2100 b4 h5 j83_2) (by decide) (fun v20 ev20 qv20 => ?_)
                have qv20 : (-2147483648 : Int) ≤ v20 ∧ v20 ≤ 2147483647 := qv20
                have ev20 : (w75) ((a2 + x83_9)) = v20 := (congrFun ((funext (hA_92 75 rfl)).trans ((funext (hA_83 75 rfl)).trans ((funext (hA_40 75 rfl)).trans ((funext (hA_9 75 rfl)).trans (ew75))))) ((a2 + x83_9))).symm.trans ev20
                refine w_icmpge (t := 157) rfl rfl (show inr (x92_10) from j92_1) (show inr (v20) from q_22 qv20) (fun b21 => ?_) (fun b21 => ?_)
                · have hk0 : (x92_10) = posi ((sh ((w75)) ((a2))) ((x83_9))) := by omega
                  have hptn : PT (sh ((w75)) ((a2))) (a3) (a4) (sh ((w92_71)) ((a5))) ((x92_8)) (cum (sh ((w75)) ((a2))) ((x83_9) + 1)) := by rw [hcs, ← hk0]; assumption
                  have hcbn : CB (sh ((w75)) ((a2))) (a3) (a4) (sh ((w92_71)) ((a5))) ((x83_9) + 1) 0 := CB_next (by assumption) rfl hk0
                  refine Ew_of (pcₚ := 158) (fun _ => x_aload_n rfl l92_0) ?_
                  refine w_gT H (o := 6) (t := 74) rfl (H.perm 6 rfl) rfl rfl rfl rfl rfl rfl ?_
                  refine Ew_of (pcₚ := 163) (fun _ => x_iload rfl l92_9) ?_
                  refine Ew_of (pcₚ := 164) (fun _ => x_aload_n rfl l92_1) ?_
                  refine Ew_of (pcₚ := 165) (fun _ => x_iload_n rfl l92_2) ?_
                  refine Ew_of (pcₚ := 167) (fun _ => x_iload rfl l92_9) ?_
                  refine w_iadd rfl ?_
                  refine w_lI H (o := 75) (n := 64) rfl (H.perm 75 rfl) rfl rfl (H.fix 75 rfl rfl) (show 0 ≤ (a2 + x83_9) ∧ (a2 + x83_9) < ((64 : Nat) : Int) from q_2100 b4 h5 j83_2) (by decide) (fun v22 ev22 qv22 => ?_)
                  have qv22 : (-2147483648 : Int) ≤ v22 ∧ v22 ≤ 2147483647 := qv22
                  have ev22 : (w75) ((a2 + x83_9)) = v22 := (congrFun ((funext (hA_92 75 rfl)).trans ((funext (hA_83 75 rfl)).trans ((funext (hA_40 75 rfl)).trans ((funext (hA_9 75 rfl)).trans (ew75))))) ((a2 + x83_9))).symm.trans ev22
                  refine w_stat24 rfl rfl (by rfl) (M406 H (show inr (v22) from q_22 qv22) (show -1 ≤ (v22) by omega) (fun z27 σ F23 A24 H hS25 hA26 pz27_0 pz27_1 => ⟨rfl, ?_⟩))
                  have : ∀ i, 0 ≤ i → i < (x83_9) + 1 → (upd1 ((w83_74)) ((x83_9)) ((z27))) i = mass ((sh ((w75)) ((a2))) i) := pt_upd (by assumption) (by rw [pz27_1]; congr 1; omega)
                  refine w_sI H (o := 74) (n := 64) rfl (H.perm 74 rfl) rfl rfl (H.fix 74 rfl rfl) (show 0 ≤ x83_9 ∧ x83_9 < ((64 : Nat) : Int) from q_2101 b4 h5 j83_2) (by decide) (show (-2147483648 : Int) ≤ z27 ∧ z27 ≤ 2147483647 from q_61 pz27_0) (fun σ H => ?_)
                  refine Ew_of (pcₚ := 176) (fun _ => x_iinc (len := 3) rfl (l92_9)) ?_
                  refine Ew_of (pcₚ := 83) (fun _ => x_goto rfl rfl) ?_
                  exact ih83 _ (msE hm83 q_31 (q_34 b4)) _ σ _ _ (x92_8) ((x83_9 + 1)) (rk_o (l92_0) rfl rfl) (rk_o (l92_1) rfl rfl) (rk_o (l92_2) rfl rfl) (rk_o (l92_3) rfl rfl) (rk_o (l92_4) rfl rfl) (rk_o (l92_5) rfl rfl) (rk_o (l92_6) rfl rfl) (rk_o (l92_8) rfl rfl) (rk_s) H (SF_trans (SF_trans (hS_83) hS_92 (any_sub rfl)) hS25 (any_sub rfl)) (SA_upd (SA_trans (SA_trans (hA_83) hA_92 (any_subA rfl)) hA26 (any_subA rfl)) rfl)  (w92_71) ((funext (hA26 71 rfl)).trans (ew92_71)) (upd1 (w83_74) (x83_9) (z27)) (congrArg (fun q => upd1 q (x83_9) (z27)) ((funext (hA26 74 rfl)).trans ((funext (hA_92 74 rfl)).trans (ew83_74)))) (show inr (x92_8) from j92_0) (show inr ((x83_9 + 1)) from q_2102 b4 h5 j83_2) (show (0) ≤ ((x83_9 + 1)) from q_29 j83_2) (show ((x83_9 + 1)) ≤ (0) ∨ ((x83_9 + 1)) ≤ ((a3)) from q_33 b4) (show PT (sh ((w75)) ((a2))) (a3) (a4) (sh ((w92_71)) ((a5))) ((x92_8)) (cum (sh ((w75)) ((a2))) (((x83_9 + 1)))) from hptn) (show CB (sh ((w75)) ((a2))) (a3) (a4) (sh ((w92_71)) ((a5))) (((x83_9 + 1))) 0 from hcbn) (show FRM ((w71)) ((w92_71)) (a5) ((a5) + p2 ((a4))) from j92_5) (show ∀ i, 0 ≤ i → i < ((x83_9 + 1)) → ((upd1 (w83_74) (x83_9) (z27))) i = mass ((sh ((w75)) ((a2))) i) by assumption) rfl
                · obtain ⟨m0, hm0⟩ := PTI_of (show PT (sh ((w75)) ((a2))) (a3) (a4) (sh ((w92_71)) ((a5))) ((x92_8)) (cum (sh ((w75)) ((a2))) ((x83_9)) + (x92_10)) from j92_3)
                  suffices hl103 : ∀ (m : Nat), ∀ (ls : rO) (σ : rS) (F_103 : hF) (A_103 : hA) (x103_8 : Int), rlook ls 0 = some (.ref (D 6)) → rlook ls 1 = some (.ref (D 75)) → rlook ls 2 = some (I (a2)) → rlook ls 3 = some (I (a3)) → rlook ls 4 = some (I (a4)) → rlook ls 5 = some (I (a5)) → rlook ls 6 = some (I (p2 (a4))) → rlook ls 8 = some (I (x103_8)) → rlook ls 9 = some (I (x83_9)) → rlook ls 10 = some (I (x92_10)) → HS σ0 σ D N F_103 A_103 → SF [] F_92 F_103 → SA [] A_92 A_103 → (inr (x103_8)) → (PTI (sh ((w75)) ((a2))) (a3) (a4) (sh ((w92_71)) ((a5))) ((x103_8)) (cum (sh ((w75)) ((a2))) ((x83_9)) + (x92_10)) (p2 ((a4)) - m)) → Ew 407 (d + 1) 103 ls [] σ c s Q from
                    hl103 (m0) _ σ _ _ (x92_8) (l92_0) (l92_1) (l92_2) (l92_3) (l92_4) (l92_5) (l92_6) (l92_8) (l92_9) (l92_10) H (SF_refl) (SA_refl)   (show inr (x92_8) from j92_0) (by assumption)
                  as_aux_lemma =>
                  intro m
                  induction m using Nat.strongRecOn with
                  | _ m ih103 =>
                    intro ls σ F_103 A_103 x103_8 l103_0 l103_1 l103_2 l103_3 l103_4 l103_5 l103_6 l103_8 l103_9 l103_10 H hS_103 hA_103   j103_0 hm103
                    have hrg := PTI_rng (show PTI (sh ((w75)) ((a2))) (a3) (a4) (sh ((w92_71)) ((a5))) ((x103_8)) (cum (sh ((w75)) ((a2))) ((x83_9)) + (x92_10)) (p2 ((a4)) - m) from hm103)
                    have hse : (sh ((w92_71)) ((a5))) ((x103_8)) = ((w92_71)) ((a5) + (x103_8)) := rfl
                    refine Ew_of (pcₚ := 104) (fun _ => x_aload_n rfl l103_0) ?_
                    refine w_gT H (o := 6) (t := 71) rfl (H.perm 6 rfl) rfl rfl rfl rfl rfl rfl ?_
                    refine Ew_of (pcₚ := 109) (fun _ => x_iload rfl l103_5) ?_
                    refine Ew_of (pcₚ := 111) (fun _ => x_iload rfl l103_8) ?_
                    refine w_iadd rfl ?_
                    refine w_lI H (o := 71) (n := 2048) rfl (H.perm 71 rfl) rfl rfl (H.fix 71 rfl rfl) (show 0 ≤ (a5 + x103_8) ∧ (a5 + x103_8) < ((2048 : Nat) : Int) by omega) (by decide) (fun v28 ev28 qv28 => ?_)
                    have qv28 : (-1 : Int) ≤ v28 ∧ v28 ≤ 63 := qv28
                    have ev28 : (w92_71) ((a5 + x103_8)) = v28 := (congrFun ((funext (hA_103 71 rfl)).trans (ew92_71)) ((a5 + x103_8))).symm.trans ev28
                    refine w_iflt (t := 139) rfl rfl (show inr (v28) from q_1060 qv28) (fun b29 => ?_) (fun b29 => ?_)
                    · have : FRM ((w71)) (upd1 ((w92_71)) ((a5) + (x103_8)) ((x83_9))) (a5) ((a5) + p2 ((a4))) := FRM_upd (by assumption) (by omega) (by omega)
                      have hpt := PTI_PT (show PTI (sh ((w75)) ((a2))) (a3) (a4) (sh ((w92_71)) ((a5))) ((x103_8)) (cum (sh ((w75)) ((a2))) ((x83_9)) + (x92_10)) (p2 ((a4)) - m) from hm103)
                      have hfr := PT_free h59 hpt (by omega)
                      have hpt2 : PT (sh ((w75)) ((a2))) (a3) (a4) (sh (upd1 ((w92_71)) ((a5) + (x103_8)) ((x83_9))) ((a5))) ((x103_8)) (cum (sh ((w75)) ((a2))) ((x83_9)) + ((x92_10) + 1)) := by rw [sh_upd, ← Int.add_assoc]; exact PT_put h59 hpt (by omega) (by omega) (by omega) (by omega) (by omega)
                      have hcb2 : CB (sh ((w75)) ((a2))) (a3) (a4) (sh (upd1 ((w92_71)) ((a5) + (x103_8)) ((x83_9))) ((a5))) ((x83_9)) ((x92_10) + 1) := by rw [sh_upd]; exact CB_put (by assumption) rfl (by omega) (by omega) (by omega) hfr
                      refine Ew_of (pcₚ := 140) (fun _ => x_aload_n rfl l103_0) ?_
                      refine w_gT H (o := 6) (t := 71) rfl (H.perm 6 rfl) rfl rfl rfl rfl rfl rfl ?_
                      refine Ew_of (pcₚ := 145) (fun _ => x_iload rfl l103_5) ?_
                      refine Ew_of (pcₚ := 147) (fun _ => x_iload rfl l103_8) ?_
                      refine w_iadd rfl ?_
                      refine Ew_of (pcₚ := 150) (fun _ => x_iload rfl l103_9) ?_
                      refine w_sI H (o := 71) (n := 2048) rfl (H.perm 71 rfl) rfl rfl (H.fix 71 rfl rfl) (show 0 ≤ (a5 + x103_8) ∧ (a5 + x103_8) < ((2048 : Nat) : Int) by omega) (by decide) (show (-1 : Int) ≤ x83_9 ∧ x83_9 ≤ 63 from q_2103 b4 h5 j83_2) (fun σ H => ?_)
                      refine Ew_of (pcₚ := 154) (fun _ => x_iinc (len := 3) rfl (l103_10)) ?_
                      refine Ew_of (pcₚ := 92) (fun _ => x_goto rfl rfl) ?_
                      exact ih92 _ (msE hm92 q_31 (q_32 b21 ev20)) _ σ _ _ (x103_8) ((x92_10 + 1)) (rk_o (l103_0) rfl rfl) (rk_o (l103_1) rfl rfl) (rk_o (l103_2) rfl rfl) (rk_o (l103_3) rfl rfl) (rk_o (l103_4) rfl rfl) (rk_o (l103_5) rfl rfl) (rk_o (l103_6) rfl rfl) (rk_o (l103_8) rfl rfl) (rk_o (l103_9) rfl rfl) (rk_s) H (SF_trans (hS_92) hS_103 (any_sub rfl)) (SA_upd (SA_trans (hA_92) hA_103 (any_subA rfl)) rfl)  (upd1 (w92_71) ((a5 + x103_8)) (x83_9)) (congrArg (fun q => upd1 q ((a5 + x103_8)) (x83_9)) ((funext (hA_103 71 rfl)).trans (ew92_71))) (show inr (x103_8) from j103_0) (show inr ((x92_10 + 1)) by omega) (show 0 ≤ ((x92_10 + 1)) ∧ ((x92_10 + 1)) ≤ posi ((sh ((w75)) ((a2))) ((x83_9))) by omega) (show PT (sh ((w75)) ((a2))) (a3) (a4) (sh ((upd1 (w92_71) ((a5 + x103_8)) (x83_9))) ((a5))) ((x103_8)) (cum (sh ((w75)) ((a2))) ((x83_9)) + ((x92_10 + 1))) from hpt2) (show CB (sh ((w75)) ((a2))) (a3) (a4) (sh ((upd1 (w92_71) ((a5 + x103_8)) (x83_9))) ((a5))) ((x83_9)) (((x92_10 + 1))) from hcb2) (show FRM ((w71)) ((upd1 (w92_71) ((a5 + x103_8)) (x83_9))) (a5) ((a5) + p2 ((a4))) by assumption) rfl
                    · refine Ew_of (pcₚ := 118) (fun _ => x_iload rfl l103_8) ?_
                      refine Ew_of (pcₚ := 120) (fun _ => x_iload rfl l103_6) ?_
                      refine Ew_of (pcₚ := 121) (fun _ => x_iconst rfl) ?_
                      refine w_idiv rfl (show inr (p2 (a4)) ∧ 0 ≤ p2 (a4) from q_2104 h6 j40_5) (show inr (2) ∧ 0 < 2 from q_967) ?_
                      refine w_iadd rfl ?_
                      refine Ew_of (pcₚ := 125) (fun _ => x_iload rfl l103_6) ?_
                      refine Ew_of (pcₚ := 127) (fun _ => x_bipush (z := 8) rfl (by decide)) ?_
                      refine w_idiv rfl (show inr (p2 (a4)) ∧ 0 ≤ p2 (a4) from q_2104 h6 j40_5) (show inr (8) ∧ 0 < 8 from q_810) ?_
                      refine w_iadd rfl ?_
                      refine Ew_of (pcₚ := 130) (fun _ => x_iconst rfl) ?_
                      refine w_iadd rfl ?_
                      refine Ew_of (pcₚ := 133) (fun _ => x_iload rfl l103_6) ?_
                      refine w_irem rfl (show inr ((((x103_8 + (p2 (a4) / 2)) + (p2 (a4) / 8)) + 3)) ∧ 0 ≤ (((x103_8 + (p2 (a4) / 2)) + (p2 (a4) / 8)) + 3) by omega) (show inr (p2 (a4)) ∧ 0 < p2 (a4) by omega) ?_
                      refine Ew_of (pcₚ := 136) (fun _ => x_istore rfl) ?_
                      refine Ew_of (pcₚ := 103) (fun _ => x_goto rfl rfl) ?_
                      have hfm := PTI_next (pₚ := (((((x103_8 + (p2 (a4) / 2)) + (p2 (a4) / 8)) + 3) % p2 (a4)))) h59 (by omega) (show PTI (sh ((w75)) ((a2))) (a3) (a4) (sh ((w92_71)) ((a5))) _ (cum (sh ((w75)) ((a2))) ((x83_9)) + (x92_10)) (p2 ((a4)) - m) from by assumption) (by omega) (by omega) (by congr 1; omega)
                      have := hfm.1
                      have := hfm.2
                      have hrg2 := PTI_rng hfm.2
                      exact ih103 (m - 1) (by omega) _ σ _ _ (((((x103_8 + (p2 (a4) / 2)) + (p2 (a4) / 8)) + 3) % p2 (a4))) (rk_o (l103_0) rfl rfl) (rk_o (l103_1) rfl rfl) (rk_o (l103_2) rfl rfl) (rk_o (l103_3) rfl rfl) (rk_o (l103_4) rfl rfl) (rk_o (l103_5) rfl rfl) (rk_o (l103_6) rfl rfl) (rk_s) (rk_o (l103_9) rfl rfl) (rk_o (l103_10) rfl rfl) H (hS_103) (hA_103)   (show inr (((((x103_8 + (p2 (a4) / 2)) + (p2 (a4) / 8)) + 3) % p2 (a4))) by omega) (by assumption)
        · have hle := SH_le ((x40_8)) hsh (by omega) (by omega)
          have hns := ngs_s (P := sh ((w75)) ((a2))) (s := (x40_8)) (by omega)
          have hne := neg1_eq ((sh ((w75)) ((a2))) ((x40_8)))
          have hpe : (sh ((w75)) ((a2))) ((x40_8)) = ((w75)) ((a2) + (x40_8)) := rfl
          have hnm := ngs_mono (P := sh ((w75)) ((a2))) (s := (x40_8) + 1) (t := (a3)) (by omega) (by omega)
          have j40_n : ∀ s, 0 ≤ s → s < (x40_8) → (sh ((w75)) ((a2))) s < 0 → (sh ((w40_71)) ((a5))) (p2 ((a4)) - 1 - ngs (sh ((w75)) ((a2))) s) = s := by assumption
          have j40_m : ∀ k, 0 ≤ k → k < (x40_7) → (sh ((w40_71)) ((a5))) k = -1 := by assumption
          have j40_c : CA (sh ((w75)) ((a2))) (a3) (a4) (sh ((w40_71)) ((a5))) ((x40_8)) := j40_8
          refine Ew_of (pcₚ := 47) (fun _ => x_aload_n rfl l40_1) ?_
          refine Ew_of (pcₚ := 48) (fun _ => x_iload_n rfl l40_2) ?_
          refine Ew_of (pcₚ := 50) (fun _ => x_iload rfl l40_8) ?_
          refine w_iadd rfl ?_
          refine w_lI H (o := 75) (n := 64) rfl (H.perm 75 rfl) rfl rfl (H.fix 75 rfl rfl) (show 0 ≤ (a2 + x40_8) ∧ (a2 + x40_8) < ((64 : Nat) : Int) from q_2100 b3 h5 j40_2) (by decide) (fun v30 ev30 qv30 => ?_)
          have qv30 : (-2147483648 : Int) ≤ v30 ∧ v30 ≤ 2147483647 := qv30
          have ev30 : (w75) ((a2 + x40_8)) = v30 := (congrFun ((funext (hA_40 75 rfl)).trans ((funext (hA_9 75 rfl)).trans (ew75))) ((a2 + x40_8))).symm.trans ev30
          refine Ew_of (pcₚ := 53) (fun _ => x_iconst rfl) ?_
          refine w_icmpne (t := 71) rfl rfl (show inr (v30) from q_22 qv30) (show inr ((-1)) from q_16) (fun b31 => ?_) (fun b31 => ?_)
          · refine Ew_of (pcₚ := 74) (fun _ => x_iinc (len := 3) rfl (l40_8)) ?_
            refine Ew_of (pcₚ := 40) (fun _ => x_goto rfl rfl) ?_
            have : CA (sh ((w75)) ((a2))) (a3) (a4) (sh ((w40_71)) ((a5))) (((x40_8 + 1))) := by first | assumption | exact CA_skip j40_c rfl (by omega)
            have : ∀ s, 0 ≤ s → s < ((x40_8 + 1)) → (sh ((w75)) ((a2))) s < 0 → (sh ((w40_71)) ((a5))) (p2 ((a4)) - 1 - ngs (sh ((w75)) ((a2))) s) = s := by first | assumption | exact (fun s a b c => by by_cases e : s = ((x40_8 + 1)) - 1; (rw [e] at c; rw [show ((x40_8 + 1)) - 1 = x40_8 by omega] at c; omega); exact j40_n s a (by omega) c)
            have : ∀ k, 0 ≤ k → k < (x40_7) → (sh ((w40_71)) ((a5))) k = -1 := by assumption
            exact ih40 _ (msE hm40 q_31 (q_34 b3)) _ σ _ _ (x40_7) ((x40_8 + 1)) (rk_o (l40_0) rfl rfl) (rk_o (l40_1) rfl rfl) (rk_o (l40_2) rfl rfl) (rk_o (l40_3) rfl rfl) (rk_o (l40_4) rfl rfl) (rk_o (l40_5) rfl rfl) (rk_o (l40_6) rfl rfl) (rk_o (l40_7) rfl rfl) (rk_s) H (hS_40) (hA_40)  (w40_71) (ew40_71) (show inr (x40_7) from j40_0) (show inr ((x40_8 + 1)) from q_2102 b3 h5 j40_2) (show (0) ≤ ((x40_8 + 1)) from q_29 j40_2) (show ((x40_8 + 1)) ≤ (0) ∨ ((x40_8 + 1)) ≤ ((a3)) from q_33 b3) (show (x40_7) = p2 ((a4)) - ngs (sh ((w75)) ((a2))) (((x40_8 + 1))) by omega) (show 0 ≤ (x40_7) ∧ (x40_7) ≤ p2 ((a4)) from j40_5) (show ∀ s, 0 ≤ s → s < ((x40_8 + 1)) → (sh ((w75)) ((a2))) s < 0 → (sh ((w40_71)) ((a5))) (p2 ((a4)) - 1 - ngs (sh ((w75)) ((a2))) s) = s by assumption) (show ∀ k, 0 ≤ k → k < (x40_7) → (sh ((w40_71)) ((a5))) k = -1 from j40_m) (show CA (sh ((w75)) ((a2))) (a3) (a4) (sh ((w40_71)) ((a5))) (((x40_8 + 1))) by assumption) (show FRM ((w71)) ((w40_71)) (a5) ((a5) + p2 ((a4))) from j40_9) rfl
          · refine Ew_of (pcₚ := 59) (fun _ => x_iinc (len := 3) rfl (l40_7)) ?_
            refine Ew_of (pcₚ := 60) (fun _ => x_aload_n rfl (rk_o (l40_0) rfl rfl)) ?_
            have : FRM ((w71)) (upd1 ((w40_71)) ((a5) + ((x40_7 + (-1)))) ((x40_8))) (a5) ((a5) + p2 ((a4))) := FRM_upd (by assumption) (by omega) (by omega)
            have hpp : (sh ((w40_71)) ((a5))) (((x40_7 + (-1)))) = -1 := j40_m (((x40_7 + (-1)))) (by omega) (by omega)
            have hlt : (sh ((w75)) ((a2))) ((x40_8)) < 0 := q_2105 b31 ev30 hpe
            have hc2 : CA (sh ((w75)) ((a2))) (a3) (a4) (sh (upd1 ((w40_71)) ((a5) + ((x40_7 + (-1)))) ((x40_8))) ((a5))) ((x40_8) + 1) := by rw [sh_upd]; exact CA_neg j40_c rfl hlt (by omega) (by omega) hpp
            have hn2 : ∀ s, 0 ≤ s → s < (x40_8) + 1 → (sh ((w75)) ((a2))) s < 0 → (sh (upd1 ((w40_71)) ((a5) + ((x40_7 + (-1)))) ((x40_8))) ((a5))) (p2 ((a4)) - 1 - ngs (sh ((w75)) ((a2))) s) = s := fun s a b c => by rw [sh_upd]; by_cases e : s = (x40_8); (rw [e, show p2 ((a4)) - 1 - ngs (sh ((w75)) ((a2))) ((x40_8)) = ((x40_7 + (-1))) by omega, upd1_s]); (have hm := ngs_mono (P := sh ((w75)) ((a2))) (s := s + 1) (t := (x40_8)) (by omega) (by omega); have hs := ngs_s (P := sh ((w75)) ((a2))) (s := s) (by omega); have hq := neg1_eq ((sh ((w75)) ((a2))) s); rw [upd1_o (by omega)]; exact j40_n s a (by omega) c)
            have hm2 : ∀ k, 0 ≤ k → k < ((x40_7 + (-1))) → (sh (upd1 ((w40_71)) ((a5) + ((x40_7 + (-1)))) ((x40_8))) ((a5))) k = -1 := fun k a b => by rw [sh_upd, upd1_o (by omega)]; exact j40_m k a (by omega)
            refine w_gT H (o := 6) (t := 71) rfl (H.perm 6 rfl) rfl rfl rfl rfl rfl rfl ?_
            refine Ew_of (pcₚ := 65) (fun _ => x_iload rfl (rk_o (l40_5) rfl rfl)) ?_
            refine Ew_of (pcₚ := 67) (fun _ => x_iload rfl rk_s) ?_
            refine w_iadd rfl ?_
            refine Ew_of (pcₚ := 70) (fun _ => x_iload rfl (rk_o (l40_8) rfl rfl)) ?_
            refine w_sI H (o := 71) (n := 2048) rfl (H.perm 71 rfl) rfl rfl (H.fix 71 rfl rfl) (show 0 ≤ (a5 + (x40_7 + (-1))) ∧ (a5 + (x40_7 + (-1))) < ((2048 : Nat) : Int) by omega) (by decide) (show (-1 : Int) ≤ x40_8 ∧ x40_8 ≤ 63 from q_2103 b3 h5 j40_2) (fun σ H => ?_)
            refine Ew_of (pcₚ := 74) (fun _ => x_iinc (len := 3) rfl (rk_o (l40_8) rfl rfl)) ?_
            refine Ew_of (pcₚ := 40) (fun _ => x_goto rfl rfl) ?_
            have : CA (sh ((w75)) ((a2))) (a3) (a4) (sh ((upd1 (w40_71) ((a5 + (x40_7 + (-1)))) (x40_8))) ((a5))) (((x40_8 + 1))) := by first | assumption | exact CA_skip j40_c rfl (by omega)
            have : ∀ s, 0 ≤ s → s < ((x40_8 + 1)) → (sh ((w75)) ((a2))) s < 0 → (sh ((upd1 (w40_71) ((a5 + (x40_7 + (-1)))) (x40_8))) ((a5))) (p2 ((a4)) - 1 - ngs (sh ((w75)) ((a2))) s) = s := by first | assumption | exact (fun s a b c => by by_cases e : s = ((x40_8 + 1)) - 1; (rw [e] at c; rw [show ((x40_8 + 1)) - 1 = x40_8 by omega] at c; omega); exact j40_n s a (by omega) c)
            have : ∀ k, 0 ≤ k → k < ((x40_7 + (-1))) → (sh ((upd1 (w40_71) ((a5 + (x40_7 + (-1)))) (x40_8))) ((a5))) k = -1 := by assumption
            exact ih40 _ (msE hm40 q_31 (q_34 b3)) _ σ _ _ ((x40_7 + (-1))) ((x40_8 + 1)) (rk_o (rk_o (l40_0) rfl rfl) rfl rfl) (rk_o (rk_o (l40_1) rfl rfl) rfl rfl) (rk_o (rk_o (l40_2) rfl rfl) rfl rfl) (rk_o (rk_o (l40_3) rfl rfl) rfl rfl) (rk_o (rk_o (l40_4) rfl rfl) rfl rfl) (rk_o (rk_o (l40_5) rfl rfl) rfl rfl) (rk_o (rk_o (l40_6) rfl rfl) rfl rfl) (rk_o (rk_s) rfl rfl) (rk_s) H (hS_40) (SA_upd (hA_40) rfl)  (upd1 (w40_71) ((a5 + (x40_7 + (-1)))) (x40_8)) (congrArg (fun q => upd1 q ((a5 + (x40_7 + (-1)))) (x40_8)) (ew40_71)) (show inr ((x40_7 + (-1))) from q_1065 j40_0 j40_5) (show inr ((x40_8 + 1)) from q_2102 b3 h5 j40_2) (show (0) ≤ ((x40_8 + 1)) from q_29 j40_2) (show ((x40_8 + 1)) ≤ (0) ∨ ((x40_8 + 1)) ≤ ((a3)) from q_33 b3) (show ((x40_7 + (-1))) = p2 ((a4)) - ngs (sh ((w75)) ((a2))) (((x40_8 + 1))) by omega) (show 0 ≤ ((x40_7 + (-1))) ∧ ((x40_7 + (-1))) ≤ p2 ((a4)) by omega) (show ∀ s, 0 ≤ s → s < ((x40_8 + 1)) → (sh ((w75)) ((a2))) s < 0 → (sh ((upd1 (w40_71) ((a5 + (x40_7 + (-1)))) (x40_8))) ((a5))) (p2 ((a4)) - 1 - ngs (sh ((w75)) ((a2))) s) = s by assumption) (show ∀ k, 0 ≤ k → k < ((x40_7 + (-1))) → (sh ((upd1 (w40_71) ((a5 + (x40_7 + (-1)))) (x40_8))) ((a5))) k = -1 by assumption) (show CA (sh ((w75)) ((a2))) (a3) (a4) (sh ((upd1 (w40_71) ((a5 + (x40_7 + (-1)))) (x40_8))) ((a5))) (((x40_8 + 1))) from hc2) (show FRM ((w71)) ((upd1 (w40_71) ((a5 + (x40_7 + (-1)))) (x40_8))) (a5) ((a5) + p2 ((a4))) by assumption) rfl
    · have : FRM ((w71)) (upd1 ((w9_71)) ((a5) + (x9_7)) (-1)) (a5) ((a5) + p2 ((a4))) := FRM_upd (by assumption) (by omega) (by omega)
      refine Ew_of (pcₚ := 17) (fun _ => x_aload_n rfl l9_0) ?_
      refine w_gT H (o := 6) (t := 71) rfl (H.perm 6 rfl) rfl rfl rfl rfl rfl rfl ?_
      refine Ew_of (pcₚ := 22) (fun _ => x_iload rfl l9_5) ?_
      refine Ew_of (pcₚ := 24) (fun _ => x_iload rfl l9_7) ?_
      refine w_iadd rfl ?_
      refine Ew_of (pcₚ := 26) (fun _ => x_iconst rfl) ?_
      refine w_sI H (o := 71) (n := 2048) rfl (H.perm 71 rfl) rfl rfl (H.fix 71 rfl rfl) (show 0 ≤ (a5 + x9_7) ∧ (a5 + x9_7) < ((2048 : Nat) : Int) from q_2096 b2 h6 j9_1) (by decide) (show (-1 : Int) ≤ (-1) ∧ (-1) ≤ 63 from q_1066) (fun σ H => ?_)
      refine Ew_of (pcₚ := 30) (fun _ => x_iinc (len := 3) rfl (l9_7)) ?_
      refine Ew_of (pcₚ := 9) (fun _ => x_goto rfl rfl) ?_
      have : ∀ k, (0 : Int) ≤ k → k < ((x9_7 + 1)) → ((upd1 (w9_71) ((a5 + x9_7)) ((-1)))) ((a5) + k) = -1 := fill_upd j9_3
      exact ih9 _ (msE hm9 q_31 (q_34 b2)) _ σ _ _ ((x9_7 + 1)) (rk_o (l9_0) rfl rfl) (rk_o (l9_1) rfl rfl) (rk_o (l9_2) rfl rfl) (rk_o (l9_3) rfl rfl) (rk_o (l9_4) rfl rfl) (rk_o (l9_5) rfl rfl) (rk_o (l9_6) rfl rfl) (rk_s) H (hS_9) (SA_upd (hA_9) rfl)  (upd1 (w9_71) ((a5 + x9_7)) ((-1))) (congrArg (fun q => upd1 q ((a5 + x9_7)) ((-1))) (ew9_71)) (show inr ((x9_7 + 1)) from q_2099 b2 h6 j9_1) (show (0) ≤ ((x9_7 + 1)) from q_29 j9_1) (show ((x9_7 + 1)) ≤ (0) ∨ ((x9_7 + 1)) ≤ ((p2 (a4))) from q_33 b2) (show ∀ k, 0 ≤ k → k < ((x9_7 + 1)) → ((upd1 (w9_71) ((a5 + x9_7)) ((-1)))) ((a5) + k) = -1 by assumption) (show FRM ((w71)) ((upd1 (w9_71) ((a5 + x9_7)) ((-1)))) (a5) ((a5) + p2 ((a4))) by assumption) rfl
/-- Writer.lay -/
theorem M407_54 {σ0 σ : rS} {D N : Nat → Nat} {F : hF} {A : hA} {d c s : Nat} {Q : wQ} (H : HS σ0 σ D N F A) {a2 a3 a4 a5 : Int} (w54 : Int → Int) (ew54 : A 54 = w54) (w71 : Int → Int) (ew71 : A 71 = w71) (w72 : Int → Int) (ew72 : A 72 = w72) (w73 : Int → Int) (ew73 : A 73 = w73) (lst : Int) (h0 : inr (a2)) (h1 : inr (a3)) (h2 : inr (a4)) (h3 : inr (a5)) (h4 : SH ((w54)) (a2) (a3) (a4) lst) (h5 : 0 ≤ (a2) ∧ 1 ≤ (a3) ∧ (a3) ≤ 64 ∧ (a2) + (a3) ≤ 192) (h6 : 0 ≤ (a5) ∧ (a5) + p2 ((a4)) ≤ 2048) (k : ∀ σ Fₚ Aₚ, HS σ0 σ D N Fₚ Aₚ → SF [] F Fₚ → SA [71, 72, 73, 74] A Aₚ → ∀ v71 : Int → Int, Aₚ 71 = v71 → ∀ v72 : Int → Int, Aₚ 72 = v72 → ∀ v73 : Int → Int, Aₚ 73 = v73 → (LD (sh ((w54)) ((a2))) (a3) (a4) (sh ((v71)) ((a5))) (sh ((v72)) ((a5))) (sh ((v73)) ((a5)))) → (TI ((v71)) ((v72)) ((v73)) (a5) (a4) lst) → (FRM ((w71)) ((v71)) (a5) ((a5) + p2 ((a4)))) → (FRM ((w72)) ((v72)) (a5) ((a5) + p2 ((a4)))) → (FRM ((w73)) ((v73)) (a5) ((a5) + p2 ((a4)))) → Q none σ c s) : Ew 407 (d + 1) 0 (rargs 0 [.ref (D 6), .ref (D 54), I a2, I a3, I a4, I a5]) [] σ c s Q := by
  have hsh : SH ((w54)) (a2) (a3) (a4) lst := h4
  have h59 : 5 ≤ (a4) ∧ (a4) ≤ 9 := ⟨hsh.1, hsh.2.1⟩
  have hp5 := p2_5 h59
  have hng := ngs_mono (P := sh ((w54)) ((a2))) (s := 0) (t := (a3)) (by omega) (by omega)
  have hn0 : ngs (sh ((w54)) ((a2))) 0 = 0 := rfl
  have hc0 : cum (sh ((w54)) ((a2))) 0 = 0 := rfl
  have hsp : ngs (sh ((w54)) ((a2))) ((a3)) + cum (sh ((w54)) ((a2))) ((a3)) = p2 ((a4)) := SH_parts hsh
  have hcm := cum_mono (P := sh ((w54)) ((a2))) (s := 0) (t := (a3)) (by omega) (by omega)
  refine Ew_of (pcₚ := 1) (fun _ => x_iconst rfl) ?_
  refine Ew_of (pcₚ := 3) (fun _ => x_iload rfl rfl) ?_
  refine w_ishl1 rfl (show 0 ≤ a4 ∧ a4 ≤ 31 from q_1046 h59) ?_
  refine Ew_of (pcₚ := 6) (fun _ => x_istore rfl) ?_
  refine Ew_of (pcₚ := 7) (fun _ => x_iconst rfl) ?_
  refine Ew_of (pcₚ := 9) (fun _ => x_istore rfl) ?_
  have : FRM ((w71)) ((w71)) (a5) ((a5) + p2 ((a4))) := FRM_refl
  have : ∀ k, (0 : Int) ≤ k → k < 0 → ((w71)) ((a5) + k) = -1 := fun k a b => absurd b (by omega)
  suffices hl9 : ∀ (m : Nat), ∀ (ls : rO) (σ : rS) (F_9 : hF) (A_9 : hA) (x9_7 : Int), rlook ls 0 = some (.ref (D 6)) → rlook ls 1 = some (.ref (D 54)) → rlook ls 2 = some (I (a2)) → rlook ls 3 = some (I (a3)) → rlook ls 4 = some (I (a4)) → rlook ls 5 = some (I (a5)) → rlook ls 6 = some (I (p2 (a4))) → rlook ls 7 = some (I (x9_7)) → HS σ0 σ D N F_9 A_9 → SF [] F F_9 → SA [71] A A_9 → ∀ w9_71 : Int → Int, A_9 71 = w9_71 → (inr (x9_7)) → ((0) ≤ (x9_7)) → ((x9_7) ≤ (0) ∨ (x9_7) ≤ ((p2 (a4)))) → (∀ k, 0 ≤ k → k < (x9_7) → ((w9_71)) ((a5) + k) = -1) → (FRM ((w71)) ((w9_71)) (a5) ((a5) + p2 ((a4)))) → (((p2 (a4))) - (x9_7)).toNat = m → Ew 407 (d + 1) 9 ls [] σ c s Q from
    hl9 _ _ σ _ _ (0) (rk_o (rk_o (rfl) rfl rfl) rfl rfl) (rk_o (rk_o (rfl) rfl rfl) rfl rfl) (rk_o (rk_o (rfl) rfl rfl) rfl rfl) (rk_o (rk_o (rfl) rfl rfl) rfl rfl) (rk_o (rk_o (rfl) rfl rfl) rfl rfl) (rk_o (rk_o (rfl) rfl rfl) rfl rfl) (rk_o (rk_s) rfl rfl) (rk_s) H (SF_refl) (SA_refl)  (w71) (ew71) (show inr (0) from q_20) (show (0) ≤ (0) from q_25) (show (0) ≤ (0) ∨ (0) ≤ ((p2 (a4))) from q_24) (show ∀ k, 0 ≤ k → k < (0) → ((w71)) ((a5) + k) = -1 by assumption) (show FRM ((w71)) ((w71)) (a5) ((a5) + p2 ((a4))) by assumption) rfl
  as_aux_lemma =>
  intro m
  induction m using Nat.strongRecOn with
  | _ m ih9 =>
    intro ls σ F_9 A_9 x9_7 l9_0 l9_1 l9_2 l9_3 l9_4 l9_5 l9_6 l9_7 H hS_9 hA_9  w9_71 ew9_71 j9_0 j9_1 j9_2 j9_3 j9_4 hm9
    refine Ew_of (pcₚ := 11) (fun _ => x_iload rfl l9_7) ?_
    refine Ew_of (pcₚ := 13) (fun _ => x_iload rfl l9_6) ?_
    refine w_icmpge (t := 33) rfl rfl (show inr (x9_7) from j9_0) (show inr (p2 (a4)) by omega) (fun b2 => ?_) (fun b2 => ?_)
    · have hm1 : ∀ k, 0 ≤ k → k < p2 ((a4)) → (sh ((w9_71)) ((a5))) k = -1 := fun k a b => j9_3 k a (by omega)
      have hcA : CA (sh ((w54)) ((a2))) (a3) (a4) (sh ((w9_71)) ((a5))) 0 := CA_0 hm1
      have hnf : ∀ s, 0 ≤ s → s < 0 → (sh ((w54)) ((a2))) s < 0 → (sh ((w9_71)) ((a5))) (p2 ((a4)) - 1 - ngs (sh ((w54)) ((a2))) s) = s := fun s a b => absurd b (by omega)
      refine Ew_of (pcₚ := 35) (fun _ => x_iload rfl l9_6) ?_
      refine Ew_of (pcₚ := 37) (fun _ => x_istore rfl) ?_
      refine Ew_of (pcₚ := 38) (fun _ => x_iconst rfl) ?_
      refine Ew_of (pcₚ := 40) (fun _ => x_istore rfl) ?_
      suffices hl40 : ∀ (m : Nat), ∀ (ls : rO) (σ : rS) (F_40 : hF) (A_40 : hA) (x40_7 : Int) (x40_8 : Int), rlook ls 0 = some (.ref (D 6)) → rlook ls 1 = some (.ref (D 54)) → rlook ls 2 = some (I (a2)) → rlook ls 3 = some (I (a3)) → rlook ls 4 = some (I (a4)) → rlook ls 5 = some (I (a5)) → rlook ls 6 = some (I (p2 (a4))) → rlook ls 7 = some (I (x40_7)) → rlook ls 8 = some (I (x40_8)) → HS σ0 σ D N F_40 A_40 → SF [] F_9 F_40 → SA [71] A_9 A_40 → ∀ w40_71 : Int → Int, A_40 71 = w40_71 → (inr (x40_7)) → (inr (x40_8)) → ((0) ≤ (x40_8)) → ((x40_8) ≤ (0) ∨ (x40_8) ≤ ((a3))) → ((x40_7) = p2 ((a4)) - ngs (sh ((w54)) ((a2))) ((x40_8))) → (0 ≤ (x40_7) ∧ (x40_7) ≤ p2 ((a4))) → (∀ s, 0 ≤ s → s < (x40_8) → (sh ((w54)) ((a2))) s < 0 → (sh ((w40_71)) ((a5))) (p2 ((a4)) - 1 - ngs (sh ((w54)) ((a2))) s) = s) → (∀ k, 0 ≤ k → k < (x40_7) → (sh ((w40_71)) ((a5))) k = -1) → (CA (sh ((w54)) ((a2))) (a3) (a4) (sh ((w40_71)) ((a5))) ((x40_8))) → (FRM ((w71)) ((w40_71)) (a5) ((a5) + p2 ((a4)))) → (((a3)) - (x40_8)).toNat = m → Ew 407 (d + 1) 40 ls [] σ c s Q from
        hl40 _ _ σ _ _ (p2 (a4)) (0) (rk_o (rk_o (l9_0) rfl rfl) rfl rfl) (rk_o (rk_o (l9_1) rfl rfl) rfl rfl) (rk_o (rk_o (l9_2) rfl rfl) rfl rfl) (rk_o (rk_o (l9_3) rfl rfl) rfl rfl) (rk_o (rk_o (l9_4) rfl rfl) rfl rfl) (rk_o (rk_o (l9_5) rfl rfl) rfl rfl) (rk_o (rk_o (l9_6) rfl rfl) rfl rfl) (rk_o (rk_s) rfl rfl) (rk_s) H (SF_refl) (SA_refl)  (w9_71) (ew9_71) (show inr (p2 (a4)) by omega) (show inr (0) from q_20) (show (0) ≤ (0) from q_25) (show (0) ≤ (0) ∨ (0) ≤ ((a3)) from q_24) (show (p2 (a4)) = p2 ((a4)) - ngs (sh ((w54)) ((a2))) ((0)) from q_2094 hn0) (show 0 ≤ (p2 (a4)) ∧ (p2 (a4)) ≤ p2 ((a4)) by omega) (show ∀ s, 0 ≤ s → s < (0) → (sh ((w54)) ((a2))) s < 0 → (sh ((w9_71)) ((a5))) (p2 ((a4)) - 1 - ngs (sh ((w54)) ((a2))) s) = s by assumption) (show ∀ k, 0 ≤ k → k < (p2 (a4)) → (sh ((w9_71)) ((a5))) k = -1 by assumption) (show CA (sh ((w54)) ((a2))) (a3) (a4) (sh ((w9_71)) ((a5))) ((0)) from hcA) (show FRM ((w71)) ((w9_71)) (a5) ((a5) + p2 ((a4))) from j9_4) rfl
      as_aux_lemma =>
      intro m
      induction m using Nat.strongRecOn with
      | _ m ih40 =>
        intro ls σ F_40 A_40 x40_7 x40_8 l40_0 l40_1 l40_2 l40_3 l40_4 l40_5 l40_6 l40_7 l40_8 H hS_40 hA_40  w40_71 ew40_71 j40_0 j40_1 j40_2 j40_3 j40_4 j40_5 j40_6 j40_7 j40_8 j40_9 hm40
        refine Ew_of (pcₚ := 42) (fun _ => x_iload rfl l40_8) ?_
        refine Ew_of (pcₚ := 43) (fun _ => x_iload_n rfl l40_3) ?_
        refine w_icmpge (t := 77) rfl rfl (show inr (x40_8) from j40_1) (show inr (a3) from h1) (fun b3 => ?_) (fun b3 => ?_)
        · have hne3 : ngs (sh ((w54)) ((a2))) ((x40_8)) = ngs (sh ((w54)) ((a2))) ((a3)) := by rw [show (x40_8) = (a3) by omega]
          have hPT : PT (sh ((w54)) ((a2))) (a3) (a4) (sh ((w40_71)) ((a5))) 0 (cum (sh ((w54)) ((a2))) 0) := by rw [hc0]; exact PT_start (by omega) (fun s a b c => (show ∀ s, 0 ≤ s → s < (x40_8) → (sh ((w54)) ((a2))) s < 0 → (sh ((w40_71)) ((a5))) (p2 ((a4)) - 1 - ngs (sh ((w54)) ((a2))) s) = s from by assumption) s a (by omega) c) (fun k a b => (show ∀ k, 0 ≤ k → k < (x40_7) → (sh ((w40_71)) ((a5))) k = -1 from by assumption) k a (by omega))
          have hCB : CB (sh ((w54)) ((a2))) (a3) (a4) (sh ((w40_71)) ((a5))) 0 0 := CB_0 (show CA (sh ((w54)) ((a2))) (a3) (a4) (sh ((w40_71)) ((a5))) ((x40_8)) from j40_8) (by omega)
          have : ∀ i, (0 : Int) ≤ i → i < 0 → ((A 74)) i = mass ((sh ((w54)) ((a2))) i) := fun i a b => absurd b (by omega)
          refine Ew_of (pcₚ := 78) (fun _ => x_iconst rfl) ?_
          refine Ew_of (pcₚ := 80) (fun _ => x_istore rfl) ?_
          refine Ew_of (pcₚ := 81) (fun _ => x_iconst rfl) ?_
          refine Ew_of (pcₚ := 83) (fun _ => x_istore rfl) ?_
          suffices hl83 : ∀ (m : Nat), ∀ (ls : rO) (σ : rS) (F_83 : hF) (A_83 : hA) (x83_8 : Int) (x83_9 : Int), rlook ls 0 = some (.ref (D 6)) → rlook ls 1 = some (.ref (D 54)) → rlook ls 2 = some (I (a2)) → rlook ls 3 = some (I (a3)) → rlook ls 4 = some (I (a4)) → rlook ls 5 = some (I (a5)) → rlook ls 6 = some (I (p2 (a4))) → rlook ls 8 = some (I (x83_8)) → rlook ls 9 = some (I (x83_9)) → HS σ0 σ D N F_83 A_83 → SF [] F_40 F_83 → SA [71, 74] A_40 A_83 → ∀ w83_71 : Int → Int, A_83 71 = w83_71 → ∀ w83_74 : Int → Int, A_83 74 = w83_74 → (inr (x83_8)) → (inr (x83_9)) → ((0) ≤ (x83_9)) → ((x83_9) ≤ (0) ∨ (x83_9) ≤ ((a3))) → (PT (sh ((w54)) ((a2))) (a3) (a4) (sh ((w83_71)) ((a5))) ((x83_8)) (cum (sh ((w54)) ((a2))) ((x83_9)))) → (CB (sh ((w54)) ((a2))) (a3) (a4) (sh ((w83_71)) ((a5))) ((x83_9)) 0) → (FRM ((w71)) ((w83_71)) (a5) ((a5) + p2 ((a4)))) → (∀ i, 0 ≤ i → i < (x83_9) → ((w83_74)) i = mass ((sh ((w54)) ((a2))) i)) → (((a3)) - (x83_9)).toNat = m → Ew 407 (d + 1) 83 ls [] σ c s Q from
            hl83 _ _ σ _ _ (0) (0) (rk_o (rk_o (l40_0) rfl rfl) rfl rfl) (rk_o (rk_o (l40_1) rfl rfl) rfl rfl) (rk_o (rk_o (l40_2) rfl rfl) rfl rfl) (rk_o (rk_o (l40_3) rfl rfl) rfl rfl) (rk_o (rk_o (l40_4) rfl rfl) rfl rfl) (rk_o (rk_o (l40_5) rfl rfl) rfl rfl) (rk_o (rk_o (l40_6) rfl rfl) rfl rfl) (rk_o (rk_s) rfl rfl) (rk_s) H (SF_refl) (SA_refl)  (w40_71) (ew40_71) (A 74) ((funext (hA_40 74 rfl)).trans (funext (hA_9 74 rfl))) (show inr (0) from q_20) (show inr (0) from q_20) (show (0) ≤ (0) from q_25) (show (0) ≤ (0) ∨ (0) ≤ ((a3)) from q_24) (show PT (sh ((w54)) ((a2))) (a3) (a4) (sh ((w40_71)) ((a5))) ((0)) (cum (sh ((w54)) ((a2))) ((0))) from hPT) (show CB (sh ((w54)) ((a2))) (a3) (a4) (sh ((w40_71)) ((a5))) ((0)) 0 from hCB) (show FRM ((w71)) ((w40_71)) (a5) ((a5) + p2 ((a4))) from j40_9) (show ∀ i, 0 ≤ i → i < (0) → ((A 74)) i = mass ((sh ((w54)) ((a2))) i) by assumption) rfl
          as_aux_lemma =>
          intro m
          induction m using Nat.strongRecOn with
          | _ m ih83 =>
            intro ls σ F_83 A_83 x83_8 x83_9 l83_0 l83_1 l83_2 l83_3 l83_4 l83_5 l83_6 l83_8 l83_9 H hS_83 hA_83  w83_71 ew83_71 w83_74 ew83_74 j83_0 j83_1 j83_2 j83_3 j83_4 j83_5 j83_6 j83_7 hm83
            refine Ew_of (pcₚ := 85) (fun _ => x_iload rfl l83_9) ?_
            refine Ew_of (pcₚ := 86) (fun _ => x_iload_n rfl l83_3) ?_
            refine w_icmpge (t := 179) rfl rfl (show inr (x83_9) from j83_1) (show inr (a3) from h1) (fun b4 => ?_) (fun b4 => ?_)
            · have hlaid : LAID (sh ((w54)) ((a2))) (a3) (a4) (sh ((w83_71)) ((a5))) := PT_end h59 (by omega) (by rw [show p2 ((a4)) - ngs (sh ((w54)) ((a2))) ((a3)) = cum (sh ((w54)) ((a2))) ((x83_9)) by rw [show (x83_9) = (a3) by omega]; omega]; assumption)
              have hcnt := CB_end (show CB (sh ((w54)) ((a2))) (a3) (a4) (sh ((w83_71)) ((a5))) ((x83_9)) 0 from j83_5) (by omega)
              have : NB (sh ((w54)) ((a2))) (a3) (sh ((w83_71)) ((a5))) ((w83_74)) 0 := NB_0 (fun s a b => (show ∀ i, 0 ≤ i → i < (x83_9) → ((w83_74)) i = mass ((sh ((w54)) ((a2))) i) from by assumption) s a (by omega))
              have : NUM (sh ((w54)) ((a2))) (a4) (sh ((w83_71)) ((a5))) (sh ((w72)) ((a5))) (sh ((w73)) ((a5))) 0 := fun k a b => absurd b (by omega)
              have : TJ ((w83_71)) ((w72)) ((w73)) (a5) (a4) lst 0 := fun k a b => absurd b (by omega)
              have : FRM ((w72)) ((w72)) (a5) ((a5) + p2 ((a4))) := FRM_refl
              have : FRM ((w73)) ((w73)) (a5) ((a5) + p2 ((a4))) := FRM_refl
              refine Ew_of (pcₚ := 180) (fun _ => x_iconst rfl) ?_
              refine Ew_of (pcₚ := 182) (fun _ => x_istore rfl) ?_
              suffices hl182 : ∀ (m : Nat), ∀ (ls : rO) (σ : rS) (F_182 : hF) (A_182 : hA) (x182_9 : Int), rlook ls 0 = some (.ref (D 6)) → rlook ls 4 = some (I (a4)) → rlook ls 5 = some (I (a5)) → rlook ls 6 = some (I (p2 (a4))) → rlook ls 9 = some (I (x182_9)) → HS σ0 σ D N F_182 A_182 → SF [] F_83 F_182 → SA [72, 73, 74] A_83 A_182 → ∀ w182_72 : Int → Int, A_182 72 = w182_72 → ∀ w182_73 : Int → Int, A_182 73 = w182_73 → ∀ w182_74 : Int → Int, A_182 74 = w182_74 → (inr (x182_9)) → ((0) ≤ (x182_9)) → ((x182_9) ≤ (0) ∨ (x182_9) ≤ ((p2 (a4)))) → (NB (sh ((w54)) ((a2))) (a3) (sh ((w83_71)) ((a5))) ((w182_74)) ((x182_9))) → (NUM (sh ((w54)) ((a2))) (a4) (sh ((w83_71)) ((a5))) (sh ((w182_72)) ((a5))) (sh ((w182_73)) ((a5))) ((x182_9))) → (TJ ((w83_71)) ((w182_72)) ((w182_73)) (a5) (a4) lst ((x182_9))) → (FRM ((w72)) ((w182_72)) (a5) ((a5) + p2 ((a4)))) → (FRM ((w73)) ((w182_73)) (a5) ((a5) + p2 ((a4)))) → (((p2 (a4))) - (x182_9)).toNat = m → Ew 407 (d + 1) 182 ls [] σ c s Q from
                hl182 _ _ σ _ _ (0) (rk_o (l83_0) rfl rfl) (rk_o (l83_4) rfl rfl) (rk_o (l83_5) rfl rfl) (rk_o (l83_6) rfl rfl) (rk_s) H (SF_refl) (SA_refl)  (w72) ((funext (hA_83 72 rfl)).trans ((funext (hA_40 72 rfl)).trans ((funext (hA_9 72 rfl)).trans (ew72)))) (w73) ((funext (hA_83 73 rfl)).trans ((funext (hA_40 73 rfl)).trans ((funext (hA_9 73 rfl)).trans (ew73)))) (w83_74) (ew83_74) (show inr (0) from q_20) (show (0) ≤ (0) from q_25) (show (0) ≤ (0) ∨ (0) ≤ ((p2 (a4))) from q_24) (show NB (sh ((w54)) ((a2))) (a3) (sh ((w83_71)) ((a5))) ((w83_74)) ((0)) by assumption) (show NUM (sh ((w54)) ((a2))) (a4) (sh ((w83_71)) ((a5))) (sh ((w72)) ((a5))) (sh ((w73)) ((a5))) ((0)) by assumption) (show TJ ((w83_71)) ((w72)) ((w73)) (a5) (a4) lst ((0)) by assumption) (show FRM ((w72)) ((w72)) (a5) ((a5) + p2 ((a4))) by assumption) (show FRM ((w73)) ((w73)) (a5) ((a5) + p2 ((a4))) by assumption) rfl
              as_aux_lemma =>
              intro m
              induction m using Nat.strongRecOn with
              | _ m ih182 =>
                intro ls σ F_182 A_182 x182_9 l182_0 l182_4 l182_5 l182_6 l182_9 H hS_182 hA_182  w182_72 ew182_72 w182_73 ew182_73 w182_74 ew182_74 j182_0 j182_1 j182_2 j182_3 j182_4 j182_5 j182_6 j182_7 hm182
                have j182_num : NUM (sh ((w54)) ((a2))) (a4) (sh ((w83_71)) ((a5))) (sh ((w182_72)) ((a5))) (sh ((w182_73)) ((a5))) ((x182_9)) := j182_4
                have j182_tj : TJ ((w83_71)) ((w182_72)) ((w182_73)) (a5) (a4) lst ((x182_9)) := j182_5
                refine Ew_of (pcₚ := 184) (fun _ => x_iload rfl l182_9) ?_
                refine Ew_of (pcₚ := 186) (fun _ => x_iload rfl l182_6) ?_
                refine w_icmpge (t := 273) rfl rfl (show inr (x182_9) from j182_0) (show inr (p2 (a4)) from q_2095 h6 j40_5) (fun b5 => ?_) (fun b5 => ?_)
                · have : LD (sh ((w54)) ((a2))) (a3) (a4) (sh ((w83_71)) ((a5))) (sh ((w182_72)) ((a5))) (sh ((w182_73)) ((a5))) := ⟨hlaid, hcnt, fun k a b => (show NUM (sh ((w54)) ((a2))) (a4) (sh ((w83_71)) ((a5))) (sh ((w182_72)) ((a5))) (sh ((w182_73)) ((a5))) ((x182_9)) from j182_num) k a (by omega)⟩
                  have : TI ((w83_71)) ((w182_72)) ((w182_73)) (a5) (a4) lst := fun k a b => (show TJ ((w83_71)) ((w182_72)) ((w182_73)) (a5) (a4) lst ((x182_9)) from j182_tj) k a (by omega)
                  exact w_ret rfl (k σ _ _ H (SF_trans (SF_trans (SF_trans (SF_trans (SF_refl) hS_9 (any_sub rfl)) hS_40 (any_sub rfl)) hS_83 (any_sub rfl)) hS_182 (any_sub rfl)) (SA_trans (SA_trans (SA_trans (SA_trans (SA_refl) hA_9 (any_subA rfl)) hA_40 (any_subA rfl)) hA_83 (any_subA rfl)) hA_182 (any_subA rfl)) (w83_71) ((funext (hA_182 71 rfl)).trans (ew83_71)) (w182_72) (ew182_72) (w182_73) (ew182_73) (show LD (sh ((w54)) (a2)) a3 a4 (sh ((w83_71)) (a5)) (sh ((w182_72)) (a5)) (sh ((w182_73)) (a5)) by assumption) (show TI ((w83_71)) ((w182_72)) ((w182_73)) a5 a4 lst by assumption) (show FRM ((w71)) ((w83_71)) a5 (a5 + p2 (a4)) from j83_6) (show FRM ((w72)) ((w182_72)) a5 (a5 + p2 (a4)) from j182_6) (show FRM ((w73)) ((w182_73)) a5 (a5 + p2 (a4)) from j182_7))
                · have hlr := LAID_rng h59 (by omega) hlaid (k := (x182_9)) (by omega) (by omega)
                  have hse : (sh ((w83_71)) ((a5))) ((x182_9)) = ((w83_71)) ((a5) + (x182_9)) := rfl
                  have hnb : NB (sh ((w54)) ((a2))) (a3) (sh ((w83_71)) ((a5))) ((w182_74)) ((x182_9)) := j182_3
                  have hnx := NB_x hnb hcnt (by omega) (by omega) hlr.1 hlr.2.1
                  have hle := SH_le ((sh ((w83_71)) ((a5))) ((x182_9))) hsh hlr.1 hlr.2.1
                  have hpe : (sh ((w54)) ((a2))) ((sh ((w83_71)) ((a5))) ((x182_9))) = ((w54)) ((a2) + (sh ((w83_71)) ((a5))) ((x182_9))) := rfl
                  have hme := mass_eq ((sh ((w54)) ((a2))) ((sh ((w83_71)) ((a5))) ((x182_9))))
                  have hls := hle.2.2.2 (by rw [← hpe]; exact hlr.2.2)
                  have hmb : mass ((sh ((w54)) ((a2))) ((sh ((w83_71)) ((a5))) ((x182_9)))) ≤ p2 ((a4)) := hle.2.2.1
                  have hm1_ : 1 ≤ mass ((sh ((w54)) ((a2))) ((sh ((w83_71)) ((a5))) ((x182_9)))) := by have := hlr.2.2; omega
                  refine Ew_of (pcₚ := 190) (fun _ => x_aload_n rfl l182_0) ?_
                  refine w_gT H (o := 6) (t := 74) rfl (H.perm 6 rfl) rfl rfl rfl rfl rfl rfl ?_
                  refine Ew_of (pcₚ := 194) (fun _ => x_aload_n rfl l182_0) ?_
                  refine w_gT H (o := 6) (t := 71) rfl (H.perm 6 rfl) rfl rfl rfl rfl rfl rfl ?_
                  refine Ew_of (pcₚ := 199) (fun _ => x_iload rfl l182_5) ?_
                  refine Ew_of (pcₚ := 201) (fun _ => x_iload rfl l182_9) ?_
                  refine w_iadd rfl ?_
                  refine w_lI H (o := 71) (n := 2048) rfl (H.perm 71 rfl) rfl rfl (H.fix 71 rfl rfl) (show 0 ≤ (a5 + x182_9) ∧ (a5 + x182_9) < ((2048 : Nat) : Int) from q_2096 b5 h6 j182_1) (by decide) (fun v6 ev6 qv6 => ?_)
                  have qv6 : (-1 : Int) ≤ v6 ∧ v6 ≤ 63 := qv6
                  have ev6 : (w83_71) ((a5 + x182_9)) = v6 := (congrFun ((funext (hA_182 71 rfl)).trans (ew83_71)) ((a5 + x182_9))).symm.trans ev6
                  have hsv := ev6
                  rw [hse, hsv] at hnx hmb hm1_
                  refine w_lI H (o := 74) (n := 64) rfl (H.perm 74 rfl) rfl rfl (H.fix 74 rfl rfl) (show 0 ≤ v6 ∧ v6 < ((64 : Nat) : Int) by omega) (by decide) (fun v7 ev7 qv7 => ?_)
                  have qv7 : (-2147483648 : Int) ≤ v7 ∧ v7 ≤ 2147483647 := qv7
                  have ev7 : (w182_74) (v6) = v7 := (congrFun (ew182_74) (v6)).symm.trans ev7
                  refine Ew_of (pcₚ := 206) (fun _ => x_istore rfl) ?_
                  have hxv := ev7
                  rw [hxv] at hnx
                  refine Ew_of (pcₚ := 207) (fun _ => x_aload_n rfl (rk_o (l182_0) rfl rfl)) ?_
                  refine w_gT H (o := 6) (t := 74) rfl (H.perm 6 rfl) rfl rfl rfl rfl rfl rfl ?_
                  refine Ew_of (pcₚ := 211) (fun _ => x_aload_n rfl (rk_o (l182_0) rfl rfl)) ?_
                  refine w_gT H (o := 6) (t := 71) rfl (H.perm 6 rfl) rfl rfl rfl rfl rfl rfl ?_
                  refine Ew_of (pcₚ := 216) (fun _ => x_iload rfl (rk_o (l182_5) rfl rfl)) ?_
                  refine Ew_of (pcₚ := 218) (fun _ => x_iload rfl (rk_o (l182_9) rfl rfl)) ?_
                  refine w_iadd rfl ?_
                  refine w_lI H (o := 71) (n := 2048) rfl (H.perm 71 rfl) rfl rfl (H.fix 71 rfl rfl) (show 0 ≤ (a5 + x182_9) ∧ (a5 + x182_9) < ((2048 : Nat) : Int) from q_2096 b5 h6 j182_1) (by decide) (fun v8 ev8 qv8 => ?_)
                  have qv8 : (-1 : Int) ≤ v8 ∧ v8 ≤ 63 := qv8
                  have ev8 : (w83_71) ((a5 + x182_9)) = v8 := (congrFun ((funext (hA_182 71 rfl)).trans (ew83_71)) ((a5 + x182_9))).symm.trans ev8
                  refine Ew_of (pcₚ := 222) (fun _ => x_iload rfl rk_s) ?_
                  refine Ew_of (pcₚ := 223) (fun _ => x_iconst rfl) ?_
                  refine w_iadd rfl ?_
                  have hsv2 := ev8
                  have hnb2 : NB (sh ((w54)) ((a2))) (a3) (sh ((w83_71)) ((a5))) (upd1 ((w182_74)) ((v8)) (((v7 + 1)))) ((x182_9) + 1) := by have h := NB_next hnb (x := ((v7 + 1))) (k2 := (x182_9) + 1) (by omega) rfl hlr.1 hlr.2.1 (by rw [hse, hsv]; omega); rw [hse, hsv2] at h; exact h
                  refine w_sI H (o := 74) (n := 64) rfl (H.perm 74 rfl) rfl rfl (H.fix 74 rfl rfl) (show 0 ≤ v8 ∧ v8 < ((64 : Nat) : Int) by omega) (by decide) (show (-2147483648 : Int) ≤ (v7 + 1) ∧ (v7 + 1) ≤ 2147483647 by omega) (fun σ H => ?_)
                  refine Ew_of (pcₚ := 226) (fun _ => x_aload_n rfl (rk_o (l182_0) rfl rfl)) ?_
                  refine w_gT H (o := 6) (t := 72) rfl (H.perm 6 rfl) rfl rfl rfl rfl rfl rfl ?_
                  refine Ew_of (pcₚ := 231) (fun _ => x_iload rfl (rk_o (l182_5) rfl rfl)) ?_
                  refine Ew_of (pcₚ := 233) (fun _ => x_iload rfl (rk_o (l182_9) rfl rfl)) ?_
                  refine w_iadd rfl ?_
                  refine Ew_of (pcₚ := 236) (fun _ => x_iload rfl (rk_o (l182_4) rfl rfl)) ?_
                  refine Ew_of (pcₚ := 238) (fun _ => x_iload rfl rk_s) ?_
                  refine w_stat24 rfl rfl (by rfl) (M400 H (show inr (v7) from q_22 qv7) (show 1 ≤ (v7) by omega) (fun z13 σ F9 A10 H hS11 hA12 pz13_0 pz13_1 pz13_2 => ⟨rfl, ?_⟩))
                  have hib := hi_base (x := (v7)) (r := (z13)) (o := (a4)) (by omega) (by omega) (by omega) (by omega) (by omega)
                  have hpp := p2_pos ((a4) - (z13))
                  refine w_isub rfl ?_
                  have : FRM ((w72)) (upd1 ((w182_72)) ((a5) + (x182_9)) (((a4 - z13)))) (a5) ((a5) + p2 ((a4))) := FRM_upd (by assumption) (by omega) (by omega)
                  refine w_sI H (o := 72) (n := 2048) rfl (H.perm 72 rfl) rfl rfl (H.fix 72 rfl rfl) (show 0 ≤ (a5 + x182_9) ∧ (a5 + x182_9) < ((2048 : Nat) : Int) from q_2096 b5 h6 j182_1) (by decide) (show (0 : Int) ≤ (a4 - z13) ∧ (a4 - z13) ≤ 9 by omega) (fun σ H => ?_)
                  refine Ew_of (pcₚ := 244) (fun _ => x_aload_n rfl (rk_o (l182_0) rfl rfl)) ?_
                  refine w_gT H (o := 6) (t := 73) rfl (H.perm 6 rfl) rfl rfl rfl rfl rfl rfl ?_
                  refine Ew_of (pcₚ := 249) (fun _ => x_iload rfl (rk_o (l182_5) rfl rfl)) ?_
                  refine Ew_of (pcₚ := 251) (fun _ => x_iload rfl (rk_o (l182_9) rfl rfl)) ?_
                  refine w_iadd rfl ?_
                  refine Ew_of (pcₚ := 254) (fun _ => x_iload rfl rk_s) ?_
                  refine Ew_of (pcₚ := 256) (fun _ => x_iload rfl (rk_o (l182_4) rfl rfl)) ?_
                  refine Ew_of (pcₚ := 258) (fun _ => x_iload rfl rk_s) ?_
                  refine w_stat24 rfl rfl (by rfl) (M400 H (show inr (v7) from q_2098 pz13_2 qv7) (show 1 ≤ (v7) from q_2097 pz13_2) (fun z18 σ F14 A15 H hS16 hA17 pz18_0 pz18_1 pz18_2 => ⟨rfl, ?_⟩))
                  refine w_isub rfl ?_
                  have hrr := p2_same (r := z13) (t := z18) (x := (v7)) (by omega) (by omega) (by omega) (by omega) (by omega) (by omega)
                  have hpq : p2 ((a4) - z13) = p2 ((a4) - z18) := by rw [hrr]
                  rw [hrr] at hib hpp
                  have hnum : NUM (sh ((w54)) ((a2))) (a4) (sh ((w83_71)) ((a5))) (sh ((upd1 (w182_72) ((a5 + x182_9)) ((a4 - z13)))) ((a5))) (sh (upd1 ((w182_73)) ((a5) + (x182_9)) ((v7) * p2 ((a4) - z18) - p2 ((a4)))) ((a5))) ((x182_9) + 1) := by rw [sh_upd, sh_upd]; exact NUM_next (r := z18) j182_num rfl (by omega) (by omega) (by omega) (by omega) (by omega) (by rw [← hnx.1])
                  have htj : TJ ((w83_71)) ((upd1 (w182_72) ((a5 + x182_9)) ((a4 - z13)))) (upd1 ((w182_73)) ((a5) + (x182_9)) ((v7) * p2 ((a4) - z18) - p2 ((a4)))) (a5) (a4) lst ((x182_9) + 1) := TJ_next j182_tj (by omega) (by omega) (by omega)
                  have : FRM ((w73)) (upd1 ((w182_73)) ((a5) + (x182_9)) ((v7) * p2 ((a4) - z18) - p2 ((a4)))) (a5) ((a5) + p2 ((a4))) := FRM_upd (by assumption) (by omega) (by omega)
                  refine w_ishlT rfl (show 0 ≤ (a4 - z18) ∧ (a4 - z18) ≤ 31 by omega) ?_
                  refine Ew_of (pcₚ := 265) (fun _ => x_iload rfl (rk_o (l182_6) rfl rfl)) ?_
                  refine w_isub rfl ?_
                  refine w_sI H (o := 73) (n := 2048) rfl (H.perm 73 rfl) rfl rfl (H.fix 73 rfl rfl) (show 0 ≤ (a5 + x182_9) ∧ (a5 + x182_9) < ((2048 : Nat) : Int) from q_2096 b5 h6 j182_1) (by decide) (show (0 : Int) ≤ ((v7 * p2 ((a4 - z18))) - p2 (a4)) ∧ ((v7 * p2 ((a4 - z18))) - p2 (a4)) ≤ 511 by omega) (fun σ H => ?_)
                  refine Ew_of (pcₚ := 270) (fun _ => x_iinc (len := 3) rfl (rk_o (l182_9) rfl rfl)) ?_
                  refine Ew_of (pcₚ := 182) (fun _ => x_goto rfl rfl) ?_
                  exact ih182 _ (msE hm182 q_31 (q_34 b5)) _ σ _ _ ((x182_9 + 1)) (rk_o (rk_o (l182_0) rfl rfl) rfl rfl) (rk_o (rk_o (l182_4) rfl rfl) rfl rfl) (rk_o (rk_o (l182_5) rfl rfl) rfl rfl) (rk_o (rk_o (l182_6) rfl rfl) rfl rfl) (rk_s) H (SF_trans (SF_trans (hS_182) hS11 (any_sub rfl)) hS16 (any_sub rfl)) (SA_upd (SA_trans (SA_upd (SA_trans (SA_upd (hA_182) rfl) hA12 (any_subA rfl)) rfl) hA17 (any_subA rfl)) rfl)  (upd1 (w182_72) ((a5 + x182_9)) ((a4 - z13))) ((funext (hA17 72 rfl)).trans (congrArg (fun q => upd1 q ((a5 + x182_9)) ((a4 - z13))) ((funext (hA12 72 rfl)).trans (ew182_72)))) (upd1 (w182_73) ((a5 + x182_9)) (((v7 * p2 ((a4 - z18))) - p2 (a4)))) (congrArg (fun q => upd1 q ((a5 + x182_9)) (((v7 * p2 ((a4 - z18))) - p2 (a4)))) ((funext (hA17 73 rfl)).trans ((funext (hA12 73 rfl)).trans (ew182_73)))) (upd1 (w182_74) (v8) ((v7 + 1))) ((funext (hA17 74 rfl)).trans ((funext (hA12 74 rfl)).trans (congrArg (fun q => upd1 q (v8) ((v7 + 1))) (ew182_74)))) (show inr ((x182_9 + 1)) from q_2099 b5 h6 j182_1) (show (0) ≤ ((x182_9 + 1)) from q_29 j182_1) (show ((x182_9 + 1)) ≤ (0) ∨ ((x182_9 + 1)) ≤ ((p2 (a4))) from q_33 b5) (show NB (sh ((w54)) ((a2))) (a3) (sh ((w83_71)) ((a5))) ((upd1 (w182_74) (v8) ((v7 + 1)))) (((x182_9 + 1))) from hnb2) (show NUM (sh ((w54)) ((a2))) (a4) (sh ((w83_71)) ((a5))) (sh ((upd1 (w182_72) ((a5 + x182_9)) ((a4 - z13)))) ((a5))) (sh ((upd1 (w182_73) ((a5 + x182_9)) (((v7 * p2 ((a4 - z18))) - p2 (a4))))) ((a5))) (((x182_9 + 1))) from hnum) (show TJ ((w83_71)) ((upd1 (w182_72) ((a5 + x182_9)) ((a4 - z13)))) ((upd1 (w182_73) ((a5 + x182_9)) (((v7 * p2 ((a4 - z18))) - p2 (a4))))) (a5) (a4) lst (((x182_9 + 1))) from htj) (show FRM ((w72)) ((upd1 (w182_72) ((a5 + x182_9)) ((a4 - z13)))) (a5) ((a5) + p2 ((a4))) by assumption) (show FRM ((w73)) ((upd1 (w182_73) ((a5 + x182_9)) (((v7 * p2 ((a4 - z18))) - p2 (a4))))) (a5) ((a5) + p2 ((a4))) by assumption) rfl
            · have hpo := posi_eq ((sh ((w54)) ((a2))) ((x83_9)))
              have hcs := cum_s (P := sh ((w54)) ((a2))) (s := (x83_9)) (by omega)
              have hcm2 := cum_mono (P := sh ((w54)) ((a2))) (s := (x83_9) + 1) (t := (a3)) (by omega) (by omega)
              have hpe : (sh ((w54)) ((a2))) ((x83_9)) = ((w54)) ((a2) + (x83_9)) := rfl
              have hle := SH_le ((x83_9)) hsh (by omega) (by omega)
              have hPT0 : PT (sh ((w54)) ((a2))) (a3) (a4) (sh ((w83_71)) ((a5))) ((x83_8)) (cum (sh ((w54)) ((a2))) ((x83_9)) + 0) := by rw [Int.add_zero]; assumption
              refine Ew_of (pcₚ := 90) (fun _ => x_iconst rfl) ?_
              refine Ew_of (pcₚ := 92) (fun _ => x_istore rfl) ?_
              suffices hl92 : ∀ (m : Nat), ∀ (ls : rO) (σ : rS) (F_92 : hF) (A_92 : hA) (x92_8 : Int) (x92_10 : Int), rlook ls 0 = some (.ref (D 6)) → rlook ls 1 = some (.ref (D 54)) → rlook ls 2 = some (I (a2)) → rlook ls 3 = some (I (a3)) → rlook ls 4 = some (I (a4)) → rlook ls 5 = some (I (a5)) → rlook ls 6 = some (I (p2 (a4))) → rlook ls 8 = some (I (x92_8)) → rlook ls 9 = some (I (x83_9)) → rlook ls 10 = some (I (x92_10)) → HS σ0 σ D N F_92 A_92 → SF [] F_83 F_92 → SA [71] A_83 A_92 → ∀ w92_71 : Int → Int, A_92 71 = w92_71 → (inr (x92_8)) → (inr (x92_10)) → (0 ≤ (x92_10) ∧ (x92_10) ≤ posi ((sh ((w54)) ((a2))) ((x83_9)))) → (PT (sh ((w54)) ((a2))) (a3) (a4) (sh ((w92_71)) ((a5))) ((x92_8)) (cum (sh ((w54)) ((a2))) ((x83_9)) + (x92_10))) → (CB (sh ((w54)) ((a2))) (a3) (a4) (sh ((w92_71)) ((a5))) ((x83_9)) ((x92_10))) → (FRM ((w71)) ((w92_71)) (a5) ((a5) + p2 ((a4)))) → (((w54)) ((a2) + (x83_9)) - (x92_10)).toNat = m → Ew 407 (d + 1) 92 ls [] σ c s Q from
                hl92 _ _ σ _ _ (x83_8) (0) (rk_o (l83_0) rfl rfl) (rk_o (l83_1) rfl rfl) (rk_o (l83_2) rfl rfl) (rk_o (l83_3) rfl rfl) (rk_o (l83_4) rfl rfl) (rk_o (l83_5) rfl rfl) (rk_o (l83_6) rfl rfl) (rk_o (l83_8) rfl rfl) (rk_o (l83_9) rfl rfl) (rk_s) H (SF_refl) (SA_refl)  (w83_71) (ew83_71) (show inr (x83_8) from j83_0) (show inr (0) from q_20) (show 0 ≤ (0) ∧ (0) ≤ posi ((sh ((w54)) ((a2))) ((x83_9))) by omega) (show PT (sh ((w54)) ((a2))) (a3) (a4) (sh ((w83_71)) ((a5))) ((x83_8)) (cum (sh ((w54)) ((a2))) ((x83_9)) + (0)) from hPT0) (show CB (sh ((w54)) ((a2))) (a3) (a4) (sh ((w83_71)) ((a5))) ((x83_9)) ((0)) from j83_5) (show FRM ((w71)) ((w83_71)) (a5) ((a5) + p2 ((a4))) from j83_6) rfl
              as_aux_lemma =>
              intro m
              induction m using Nat.strongRecOn with
              | _ m ih92 =>
                intro ls σ F_92 A_92 x92_8 x92_10 l92_0 l92_1 l92_2 l92_3 l92_4 l92_5 l92_6 l92_8 l92_9 l92_10 H hS_92 hA_92  w92_71 ew92_71 j92_0 j92_1 j92_2 j92_3 j92_4 j92_5 hm92
                refine Ew_of (pcₚ := 94) (fun _ => x_iload rfl l92_10) ?_
                refine Ew_of (pcₚ := 95) (fun _ => x_aload_n rfl l92_1) ?_
                refine Ew_of (pcₚ := 96) (fun _ => x_iload_n rfl l92_2) ?_
                refine Ew_of (pcₚ := 98) (fun _ => x_iload rfl l92_9) ?_
                refine w_iadd rfl ?_
                refine w_lI H (o := 54) (n := 192) rfl (H.perm 54 rfl) rfl rfl (H.fix 54 rfl rfl) (show 0 ≤ (a2 + x83_9) ∧ (a2 + x83_9) < ((192 : Nat) : Int) from q_1054 b4 h5 j83_2) (by decide) (fun v20 ev20 qv20 => ?_)
                have qv20 : (-1 : Int) ≤ v20 ∧ v20 ≤ 512 := qv20
                have ev20 : (w54) ((a2 + x83_9)) = v20 := (congrFun ((funext (hA_92 54 rfl)).trans ((funext (hA_83 54 rfl)).trans ((funext (hA_40 54 rfl)).trans ((funext (hA_9 54 rfl)).trans (ew54))))) ((a2 + x83_9))).symm.trans ev20
                refine w_icmpge (t := 157) rfl rfl (show inr (x92_10) from j92_1) (show inr (v20) from q_1055 qv20) (fun b21 => ?_) (fun b21 => ?_)
                · have hk0 : (x92_10) = posi ((sh ((w54)) ((a2))) ((x83_9))) := by omega
                  have hptn : PT (sh ((w54)) ((a2))) (a3) (a4) (sh ((w92_71)) ((a5))) ((x92_8)) (cum (sh ((w54)) ((a2))) ((x83_9) + 1)) := by rw [hcs, ← hk0]; assumption
                  have hcbn : CB (sh ((w54)) ((a2))) (a3) (a4) (sh ((w92_71)) ((a5))) ((x83_9) + 1) 0 := CB_next (by assumption) rfl hk0
                  refine Ew_of (pcₚ := 158) (fun _ => x_aload_n rfl l92_0) ?_
                  refine w_gT H (o := 6) (t := 74) rfl (H.perm 6 rfl) rfl rfl rfl rfl rfl rfl ?_
                  refine Ew_of (pcₚ := 163) (fun _ => x_iload rfl l92_9) ?_
                  refine Ew_of (pcₚ := 164) (fun _ => x_aload_n rfl l92_1) ?_
                  refine Ew_of (pcₚ := 165) (fun _ => x_iload_n rfl l92_2) ?_
                  refine Ew_of (pcₚ := 167) (fun _ => x_iload rfl l92_9) ?_
                  refine w_iadd rfl ?_
                  refine w_lI H (o := 54) (n := 192) rfl (H.perm 54 rfl) rfl rfl (H.fix 54 rfl rfl) (show 0 ≤ (a2 + x83_9) ∧ (a2 + x83_9) < ((192 : Nat) : Int) from q_1054 b4 h5 j83_2) (by decide) (fun v22 ev22 qv22 => ?_)
                  have qv22 : (-1 : Int) ≤ v22 ∧ v22 ≤ 512 := qv22
                  have ev22 : (w54) ((a2 + x83_9)) = v22 := (congrFun ((funext (hA_92 54 rfl)).trans ((funext (hA_83 54 rfl)).trans ((funext (hA_40 54 rfl)).trans ((funext (hA_9 54 rfl)).trans (ew54))))) ((a2 + x83_9))).symm.trans ev22
                  refine w_stat24 rfl rfl (by rfl) (M406 H (show inr (v22) from q_1055 qv22) (show -1 ≤ (v22) from q_2106 qv22) (fun z27 σ F23 A24 H hS25 hA26 pz27_0 pz27_1 => ⟨rfl, ?_⟩))
                  have : ∀ i, 0 ≤ i → i < (x83_9) + 1 → (upd1 ((w83_74)) ((x83_9)) ((z27))) i = mass ((sh ((w54)) ((a2))) i) := pt_upd (by assumption) (by rw [pz27_1]; congr 1; omega)
                  refine w_sI H (o := 74) (n := 64) rfl (H.perm 74 rfl) rfl rfl (H.fix 74 rfl rfl) (show 0 ≤ x83_9 ∧ x83_9 < ((64 : Nat) : Int) from q_2107 b4 h5 j83_2) (by decide) (show (-2147483648 : Int) ≤ z27 ∧ z27 ≤ 2147483647 from q_61 pz27_0) (fun σ H => ?_)
                  refine Ew_of (pcₚ := 176) (fun _ => x_iinc (len := 3) rfl (l92_9)) ?_
                  refine Ew_of (pcₚ := 83) (fun _ => x_goto rfl rfl) ?_
                  exact ih83 _ (msE hm83 q_31 (q_34 b4)) _ σ _ _ (x92_8) ((x83_9 + 1)) (rk_o (l92_0) rfl rfl) (rk_o (l92_1) rfl rfl) (rk_o (l92_2) rfl rfl) (rk_o (l92_3) rfl rfl) (rk_o (l92_4) rfl rfl) (rk_o (l92_5) rfl rfl) (rk_o (l92_6) rfl rfl) (rk_o (l92_8) rfl rfl) (rk_s) H (SF_trans (SF_trans (hS_83) hS_92 (any_sub rfl)) hS25 (any_sub rfl)) (SA_upd (SA_trans (SA_trans (hA_83) hA_92 (any_subA rfl)) hA26 (any_subA rfl)) rfl)  (w92_71) ((funext (hA26 71 rfl)).trans (ew92_71)) (upd1 (w83_74) (x83_9) (z27)) (congrArg (fun q => upd1 q (x83_9) (z27)) ((funext (hA26 74 rfl)).trans ((funext (hA_92 74 rfl)).trans (ew83_74)))) (show inr (x92_8) from j92_0) (show inr ((x83_9 + 1)) from q_2108 b4 h5 j83_2) (show (0) ≤ ((x83_9 + 1)) from q_29 j83_2) (show ((x83_9 + 1)) ≤ (0) ∨ ((x83_9 + 1)) ≤ ((a3)) from q_33 b4) (show PT (sh ((w54)) ((a2))) (a3) (a4) (sh ((w92_71)) ((a5))) ((x92_8)) (cum (sh ((w54)) ((a2))) (((x83_9 + 1)))) from hptn) (show CB (sh ((w54)) ((a2))) (a3) (a4) (sh ((w92_71)) ((a5))) (((x83_9 + 1))) 0 from hcbn) (show FRM ((w71)) ((w92_71)) (a5) ((a5) + p2 ((a4))) from j92_5) (show ∀ i, 0 ≤ i → i < ((x83_9 + 1)) → ((upd1 (w83_74) (x83_9) (z27))) i = mass ((sh ((w54)) ((a2))) i) by assumption) rfl
                · obtain ⟨m0, hm0⟩ := PTI_of (show PT (sh ((w54)) ((a2))) (a3) (a4) (sh ((w92_71)) ((a5))) ((x92_8)) (cum (sh ((w54)) ((a2))) ((x83_9)) + (x92_10)) from j92_3)
                  suffices hl103 : ∀ (m : Nat), ∀ (ls : rO) (σ : rS) (F_103 : hF) (A_103 : hA) (x103_8 : Int), rlook ls 0 = some (.ref (D 6)) → rlook ls 1 = some (.ref (D 54)) → rlook ls 2 = some (I (a2)) → rlook ls 3 = some (I (a3)) → rlook ls 4 = some (I (a4)) → rlook ls 5 = some (I (a5)) → rlook ls 6 = some (I (p2 (a4))) → rlook ls 8 = some (I (x103_8)) → rlook ls 9 = some (I (x83_9)) → rlook ls 10 = some (I (x92_10)) → HS σ0 σ D N F_103 A_103 → SF [] F_92 F_103 → SA [] A_92 A_103 → (inr (x103_8)) → (PTI (sh ((w54)) ((a2))) (a3) (a4) (sh ((w92_71)) ((a5))) ((x103_8)) (cum (sh ((w54)) ((a2))) ((x83_9)) + (x92_10)) (p2 ((a4)) - m)) → Ew 407 (d + 1) 103 ls [] σ c s Q from
                    hl103 (m0) _ σ _ _ (x92_8) (l92_0) (l92_1) (l92_2) (l92_3) (l92_4) (l92_5) (l92_6) (l92_8) (l92_9) (l92_10) H (SF_refl) (SA_refl)   (show inr (x92_8) from j92_0) (by assumption)
                  as_aux_lemma =>
                  intro m
                  induction m using Nat.strongRecOn with
                  | _ m ih103 =>
                    intro ls σ F_103 A_103 x103_8 l103_0 l103_1 l103_2 l103_3 l103_4 l103_5 l103_6 l103_8 l103_9 l103_10 H hS_103 hA_103   j103_0 hm103
                    have hrg := PTI_rng (show PTI (sh ((w54)) ((a2))) (a3) (a4) (sh ((w92_71)) ((a5))) ((x103_8)) (cum (sh ((w54)) ((a2))) ((x83_9)) + (x92_10)) (p2 ((a4)) - m) from hm103)
                    have hse : (sh ((w92_71)) ((a5))) ((x103_8)) = ((w92_71)) ((a5) + (x103_8)) := rfl
                    refine Ew_of (pcₚ := 104) (fun _ => x_aload_n rfl l103_0) ?_
                    refine w_gT H (o := 6) (t := 71) rfl (H.perm 6 rfl) rfl rfl rfl rfl rfl rfl ?_
                    refine Ew_of (pcₚ := 109) (fun _ => x_iload rfl l103_5) ?_
                    refine Ew_of (pcₚ := 111) (fun _ => x_iload rfl l103_8) ?_
                    refine w_iadd rfl ?_
                    refine w_lI H (o := 71) (n := 2048) rfl (H.perm 71 rfl) rfl rfl (H.fix 71 rfl rfl) (show 0 ≤ (a5 + x103_8) ∧ (a5 + x103_8) < ((2048 : Nat) : Int) by omega) (by decide) (fun v28 ev28 qv28 => ?_)
                    have qv28 : (-1 : Int) ≤ v28 ∧ v28 ≤ 63 := qv28
                    have ev28 : (w92_71) ((a5 + x103_8)) = v28 := (congrFun ((funext (hA_103 71 rfl)).trans (ew92_71)) ((a5 + x103_8))).symm.trans ev28
                    refine w_iflt (t := 139) rfl rfl (show inr (v28) from q_1060 qv28) (fun b29 => ?_) (fun b29 => ?_)
                    · have : FRM ((w71)) (upd1 ((w92_71)) ((a5) + (x103_8)) ((x83_9))) (a5) ((a5) + p2 ((a4))) := FRM_upd (by assumption) (by omega) (by omega)
                      have hpt := PTI_PT (show PTI (sh ((w54)) ((a2))) (a3) (a4) (sh ((w92_71)) ((a5))) ((x103_8)) (cum (sh ((w54)) ((a2))) ((x83_9)) + (x92_10)) (p2 ((a4)) - m) from hm103)
                      have hfr := PT_free h59 hpt (by omega)
                      have hpt2 : PT (sh ((w54)) ((a2))) (a3) (a4) (sh (upd1 ((w92_71)) ((a5) + (x103_8)) ((x83_9))) ((a5))) ((x103_8)) (cum (sh ((w54)) ((a2))) ((x83_9)) + ((x92_10) + 1)) := by rw [sh_upd, ← Int.add_assoc]; exact PT_put h59 hpt (by omega) (by omega) (by omega) (by omega) (by omega)
                      have hcb2 : CB (sh ((w54)) ((a2))) (a3) (a4) (sh (upd1 ((w92_71)) ((a5) + (x103_8)) ((x83_9))) ((a5))) ((x83_9)) ((x92_10) + 1) := by rw [sh_upd]; exact CB_put (by assumption) rfl (by omega) (by omega) (by omega) hfr
                      refine Ew_of (pcₚ := 140) (fun _ => x_aload_n rfl l103_0) ?_
                      refine w_gT H (o := 6) (t := 71) rfl (H.perm 6 rfl) rfl rfl rfl rfl rfl rfl ?_
                      refine Ew_of (pcₚ := 145) (fun _ => x_iload rfl l103_5) ?_
                      refine Ew_of (pcₚ := 147) (fun _ => x_iload rfl l103_8) ?_
                      refine w_iadd rfl ?_
                      refine Ew_of (pcₚ := 150) (fun _ => x_iload rfl l103_9) ?_
                      refine w_sI H (o := 71) (n := 2048) rfl (H.perm 71 rfl) rfl rfl (H.fix 71 rfl rfl) (show 0 ≤ (a5 + x103_8) ∧ (a5 + x103_8) < ((2048 : Nat) : Int) by omega) (by decide) (show (-1 : Int) ≤ x83_9 ∧ x83_9 ≤ 63 from q_1061 b4 h5 j83_2) (fun σ H => ?_)
                      refine Ew_of (pcₚ := 154) (fun _ => x_iinc (len := 3) rfl (l103_10)) ?_
                      refine Ew_of (pcₚ := 92) (fun _ => x_goto rfl rfl) ?_
                      exact ih92 _ (msE hm92 q_31 (q_32 b21 ev20)) _ σ _ _ (x103_8) ((x92_10 + 1)) (rk_o (l103_0) rfl rfl) (rk_o (l103_1) rfl rfl) (rk_o (l103_2) rfl rfl) (rk_o (l103_3) rfl rfl) (rk_o (l103_4) rfl rfl) (rk_o (l103_5) rfl rfl) (rk_o (l103_6) rfl rfl) (rk_o (l103_8) rfl rfl) (rk_o (l103_9) rfl rfl) (rk_s) H (SF_trans (hS_92) hS_103 (any_sub rfl)) (SA_upd (SA_trans (hA_92) hA_103 (any_subA rfl)) rfl)  (upd1 (w92_71) ((a5 + x103_8)) (x83_9)) (congrArg (fun q => upd1 q ((a5 + x103_8)) (x83_9)) ((funext (hA_103 71 rfl)).trans (ew92_71))) (show inr (x103_8) from j103_0) (show inr ((x92_10 + 1)) from q_1062 b21 j92_2 qv20) (show 0 ≤ ((x92_10 + 1)) ∧ ((x92_10 + 1)) ≤ posi ((sh ((w54)) ((a2))) ((x83_9))) by omega) (show PT (sh ((w54)) ((a2))) (a3) (a4) (sh ((upd1 (w92_71) ((a5 + x103_8)) (x83_9))) ((a5))) ((x103_8)) (cum (sh ((w54)) ((a2))) ((x83_9)) + ((x92_10 + 1))) from hpt2) (show CB (sh ((w54)) ((a2))) (a3) (a4) (sh ((upd1 (w92_71) ((a5 + x103_8)) (x83_9))) ((a5))) ((x83_9)) (((x92_10 + 1))) from hcb2) (show FRM ((w71)) ((upd1 (w92_71) ((a5 + x103_8)) (x83_9))) (a5) ((a5) + p2 ((a4))) by assumption) rfl
                    · refine Ew_of (pcₚ := 118) (fun _ => x_iload rfl l103_8) ?_
                      refine Ew_of (pcₚ := 120) (fun _ => x_iload rfl l103_6) ?_
                      refine Ew_of (pcₚ := 121) (fun _ => x_iconst rfl) ?_
                      refine w_idiv rfl (show inr (p2 (a4)) ∧ 0 ≤ p2 (a4) from q_2104 h6 j40_5) (show inr (2) ∧ 0 < 2 from q_967) ?_
                      refine w_iadd rfl ?_
                      refine Ew_of (pcₚ := 125) (fun _ => x_iload rfl l103_6) ?_
                      refine Ew_of (pcₚ := 127) (fun _ => x_bipush (z := 8) rfl (by decide)) ?_
                      refine w_idiv rfl (show inr (p2 (a4)) ∧ 0 ≤ p2 (a4) from q_2104 h6 j40_5) (show inr (8) ∧ 0 < 8 from q_810) ?_
                      refine w_iadd rfl ?_
                      refine Ew_of (pcₚ := 130) (fun _ => x_iconst rfl) ?_
                      refine w_iadd rfl ?_
                      refine Ew_of (pcₚ := 133) (fun _ => x_iload rfl l103_6) ?_
                      refine w_irem rfl (show inr ((((x103_8 + (p2 (a4) / 2)) + (p2 (a4) / 8)) + 3)) ∧ 0 ≤ (((x103_8 + (p2 (a4) / 2)) + (p2 (a4) / 8)) + 3) by omega) (show inr (p2 (a4)) ∧ 0 < p2 (a4) by omega) ?_
                      refine Ew_of (pcₚ := 136) (fun _ => x_istore rfl) ?_
                      refine Ew_of (pcₚ := 103) (fun _ => x_goto rfl rfl) ?_
                      have hfm := PTI_next (pₚ := (((((x103_8 + (p2 (a4) / 2)) + (p2 (a4) / 8)) + 3) % p2 (a4)))) h59 (by omega) (show PTI (sh ((w54)) ((a2))) (a3) (a4) (sh ((w92_71)) ((a5))) _ (cum (sh ((w54)) ((a2))) ((x83_9)) + (x92_10)) (p2 ((a4)) - m) from by assumption) (by omega) (by omega) (by congr 1; omega)
                      have := hfm.1
                      have := hfm.2
                      have hrg2 := PTI_rng hfm.2
                      exact ih103 (m - 1) (by omega) _ σ _ _ (((((x103_8 + (p2 (a4) / 2)) + (p2 (a4) / 8)) + 3) % p2 (a4))) (rk_o (l103_0) rfl rfl) (rk_o (l103_1) rfl rfl) (rk_o (l103_2) rfl rfl) (rk_o (l103_3) rfl rfl) (rk_o (l103_4) rfl rfl) (rk_o (l103_5) rfl rfl) (rk_o (l103_6) rfl rfl) (rk_s) (rk_o (l103_9) rfl rfl) (rk_o (l103_10) rfl rfl) H (hS_103) (hA_103)   (show inr (((((x103_8 + (p2 (a4) / 2)) + (p2 (a4) / 8)) + 3) % p2 (a4))) by omega) (by assumption)
        · have hle := SH_le ((x40_8)) hsh (by omega) (by omega)
          have hns := ngs_s (P := sh ((w54)) ((a2))) (s := (x40_8)) (by omega)
          have hne := neg1_eq ((sh ((w54)) ((a2))) ((x40_8)))
          have hpe : (sh ((w54)) ((a2))) ((x40_8)) = ((w54)) ((a2) + (x40_8)) := rfl
          have hnm := ngs_mono (P := sh ((w54)) ((a2))) (s := (x40_8) + 1) (t := (a3)) (by omega) (by omega)
          have j40_n : ∀ s, 0 ≤ s → s < (x40_8) → (sh ((w54)) ((a2))) s < 0 → (sh ((w40_71)) ((a5))) (p2 ((a4)) - 1 - ngs (sh ((w54)) ((a2))) s) = s := by assumption
          have j40_m : ∀ k, 0 ≤ k → k < (x40_7) → (sh ((w40_71)) ((a5))) k = -1 := by assumption
          have j40_c : CA (sh ((w54)) ((a2))) (a3) (a4) (sh ((w40_71)) ((a5))) ((x40_8)) := j40_8
          refine Ew_of (pcₚ := 47) (fun _ => x_aload_n rfl l40_1) ?_
          refine Ew_of (pcₚ := 48) (fun _ => x_iload_n rfl l40_2) ?_
          refine Ew_of (pcₚ := 50) (fun _ => x_iload rfl l40_8) ?_
          refine w_iadd rfl ?_
          refine w_lI H (o := 54) (n := 192) rfl (H.perm 54 rfl) rfl rfl (H.fix 54 rfl rfl) (show 0 ≤ (a2 + x40_8) ∧ (a2 + x40_8) < ((192 : Nat) : Int) from q_1054 b3 h5 j40_2) (by decide) (fun v30 ev30 qv30 => ?_)
          have qv30 : (-1 : Int) ≤ v30 ∧ v30 ≤ 512 := qv30
          have ev30 : (w54) ((a2 + x40_8)) = v30 := (congrFun ((funext (hA_40 54 rfl)).trans ((funext (hA_9 54 rfl)).trans (ew54))) ((a2 + x40_8))).symm.trans ev30
          refine Ew_of (pcₚ := 53) (fun _ => x_iconst rfl) ?_
          refine w_icmpne (t := 71) rfl rfl (show inr (v30) from q_1055 qv30) (show inr ((-1)) from q_16) (fun b31 => ?_) (fun b31 => ?_)
          · refine Ew_of (pcₚ := 74) (fun _ => x_iinc (len := 3) rfl (l40_8)) ?_
            refine Ew_of (pcₚ := 40) (fun _ => x_goto rfl rfl) ?_
            have : CA (sh ((w54)) ((a2))) (a3) (a4) (sh ((w40_71)) ((a5))) (((x40_8 + 1))) := by first | assumption | exact CA_skip j40_c rfl (by omega)
            have : ∀ s, 0 ≤ s → s < ((x40_8 + 1)) → (sh ((w54)) ((a2))) s < 0 → (sh ((w40_71)) ((a5))) (p2 ((a4)) - 1 - ngs (sh ((w54)) ((a2))) s) = s := by first | assumption | exact (fun s a b c => by by_cases e : s = ((x40_8 + 1)) - 1; (rw [e] at c; rw [show ((x40_8 + 1)) - 1 = x40_8 by omega] at c; omega); exact j40_n s a (by omega) c)
            have : ∀ k, 0 ≤ k → k < (x40_7) → (sh ((w40_71)) ((a5))) k = -1 := by assumption
            exact ih40 _ (msE hm40 q_31 (q_34 b3)) _ σ _ _ (x40_7) ((x40_8 + 1)) (rk_o (l40_0) rfl rfl) (rk_o (l40_1) rfl rfl) (rk_o (l40_2) rfl rfl) (rk_o (l40_3) rfl rfl) (rk_o (l40_4) rfl rfl) (rk_o (l40_5) rfl rfl) (rk_o (l40_6) rfl rfl) (rk_o (l40_7) rfl rfl) (rk_s) H (hS_40) (hA_40)  (w40_71) (ew40_71) (show inr (x40_7) from j40_0) (show inr ((x40_8 + 1)) from q_2108 b3 h5 j40_2) (show (0) ≤ ((x40_8 + 1)) from q_29 j40_2) (show ((x40_8 + 1)) ≤ (0) ∨ ((x40_8 + 1)) ≤ ((a3)) from q_33 b3) (show (x40_7) = p2 ((a4)) - ngs (sh ((w54)) ((a2))) (((x40_8 + 1))) by omega) (show 0 ≤ (x40_7) ∧ (x40_7) ≤ p2 ((a4)) from j40_5) (show ∀ s, 0 ≤ s → s < ((x40_8 + 1)) → (sh ((w54)) ((a2))) s < 0 → (sh ((w40_71)) ((a5))) (p2 ((a4)) - 1 - ngs (sh ((w54)) ((a2))) s) = s by assumption) (show ∀ k, 0 ≤ k → k < (x40_7) → (sh ((w40_71)) ((a5))) k = -1 from j40_m) (show CA (sh ((w54)) ((a2))) (a3) (a4) (sh ((w40_71)) ((a5))) (((x40_8 + 1))) by assumption) (show FRM ((w71)) ((w40_71)) (a5) ((a5) + p2 ((a4))) from j40_9) rfl
          · refine Ew_of (pcₚ := 59) (fun _ => x_iinc (len := 3) rfl (l40_7)) ?_
            refine Ew_of (pcₚ := 60) (fun _ => x_aload_n rfl (rk_o (l40_0) rfl rfl)) ?_
            have : FRM ((w71)) (upd1 ((w40_71)) ((a5) + ((x40_7 + (-1)))) ((x40_8))) (a5) ((a5) + p2 ((a4))) := FRM_upd (by assumption) (by omega) (by omega)
            have hpp : (sh ((w40_71)) ((a5))) (((x40_7 + (-1)))) = -1 := j40_m (((x40_7 + (-1)))) (by omega) (by omega)
            have hlt : (sh ((w54)) ((a2))) ((x40_8)) < 0 := q_2105 b31 ev30 hpe
            have hc2 : CA (sh ((w54)) ((a2))) (a3) (a4) (sh (upd1 ((w40_71)) ((a5) + ((x40_7 + (-1)))) ((x40_8))) ((a5))) ((x40_8) + 1) := by rw [sh_upd]; exact CA_neg j40_c rfl hlt (by omega) (by omega) hpp
            have hn2 : ∀ s, 0 ≤ s → s < (x40_8) + 1 → (sh ((w54)) ((a2))) s < 0 → (sh (upd1 ((w40_71)) ((a5) + ((x40_7 + (-1)))) ((x40_8))) ((a5))) (p2 ((a4)) - 1 - ngs (sh ((w54)) ((a2))) s) = s := fun s a b c => by rw [sh_upd]; by_cases e : s = (x40_8); (rw [e, show p2 ((a4)) - 1 - ngs (sh ((w54)) ((a2))) ((x40_8)) = ((x40_7 + (-1))) by omega, upd1_s]); (have hm := ngs_mono (P := sh ((w54)) ((a2))) (s := s + 1) (t := (x40_8)) (by omega) (by omega); have hs := ngs_s (P := sh ((w54)) ((a2))) (s := s) (by omega); have hq := neg1_eq ((sh ((w54)) ((a2))) s); rw [upd1_o (by omega)]; exact j40_n s a (by omega) c)
            have hm2 : ∀ k, 0 ≤ k → k < ((x40_7 + (-1))) → (sh (upd1 ((w40_71)) ((a5) + ((x40_7 + (-1)))) ((x40_8))) ((a5))) k = -1 := fun k a b => by rw [sh_upd, upd1_o (by omega)]; exact j40_m k a (by omega)
            refine w_gT H (o := 6) (t := 71) rfl (H.perm 6 rfl) rfl rfl rfl rfl rfl rfl ?_
            refine Ew_of (pcₚ := 65) (fun _ => x_iload rfl (rk_o (l40_5) rfl rfl)) ?_
            refine Ew_of (pcₚ := 67) (fun _ => x_iload rfl rk_s) ?_
            refine w_iadd rfl ?_
            refine Ew_of (pcₚ := 70) (fun _ => x_iload rfl (rk_o (l40_8) rfl rfl)) ?_
            refine w_sI H (o := 71) (n := 2048) rfl (H.perm 71 rfl) rfl rfl (H.fix 71 rfl rfl) (show 0 ≤ (a5 + (x40_7 + (-1))) ∧ (a5 + (x40_7 + (-1))) < ((2048 : Nat) : Int) by omega) (by decide) (show (-1 : Int) ≤ x40_8 ∧ x40_8 ≤ 63 from q_1061 b3 h5 j40_2) (fun σ H => ?_)
            refine Ew_of (pcₚ := 74) (fun _ => x_iinc (len := 3) rfl (rk_o (l40_8) rfl rfl)) ?_
            refine Ew_of (pcₚ := 40) (fun _ => x_goto rfl rfl) ?_
            have : CA (sh ((w54)) ((a2))) (a3) (a4) (sh ((upd1 (w40_71) ((a5 + (x40_7 + (-1)))) (x40_8))) ((a5))) (((x40_8 + 1))) := by first | assumption | exact CA_skip j40_c rfl (by omega)
            have : ∀ s, 0 ≤ s → s < ((x40_8 + 1)) → (sh ((w54)) ((a2))) s < 0 → (sh ((upd1 (w40_71) ((a5 + (x40_7 + (-1)))) (x40_8))) ((a5))) (p2 ((a4)) - 1 - ngs (sh ((w54)) ((a2))) s) = s := by first | assumption | exact (fun s a b c => by by_cases e : s = ((x40_8 + 1)) - 1; (rw [e] at c; rw [show ((x40_8 + 1)) - 1 = x40_8 by omega] at c; omega); exact j40_n s a (by omega) c)
            have : ∀ k, 0 ≤ k → k < ((x40_7 + (-1))) → (sh ((upd1 (w40_71) ((a5 + (x40_7 + (-1)))) (x40_8))) ((a5))) k = -1 := by assumption
            exact ih40 _ (msE hm40 q_31 (q_34 b3)) _ σ _ _ ((x40_7 + (-1))) ((x40_8 + 1)) (rk_o (rk_o (l40_0) rfl rfl) rfl rfl) (rk_o (rk_o (l40_1) rfl rfl) rfl rfl) (rk_o (rk_o (l40_2) rfl rfl) rfl rfl) (rk_o (rk_o (l40_3) rfl rfl) rfl rfl) (rk_o (rk_o (l40_4) rfl rfl) rfl rfl) (rk_o (rk_o (l40_5) rfl rfl) rfl rfl) (rk_o (rk_o (l40_6) rfl rfl) rfl rfl) (rk_o (rk_s) rfl rfl) (rk_s) H (hS_40) (SA_upd (hA_40) rfl)  (upd1 (w40_71) ((a5 + (x40_7 + (-1)))) (x40_8)) (congrArg (fun q => upd1 q ((a5 + (x40_7 + (-1)))) (x40_8)) (ew40_71)) (show inr ((x40_7 + (-1))) from q_1065 j40_0 j40_5) (show inr ((x40_8 + 1)) from q_2108 b3 h5 j40_2) (show (0) ≤ ((x40_8 + 1)) from q_29 j40_2) (show ((x40_8 + 1)) ≤ (0) ∨ ((x40_8 + 1)) ≤ ((a3)) from q_33 b3) (show ((x40_7 + (-1))) = p2 ((a4)) - ngs (sh ((w54)) ((a2))) (((x40_8 + 1))) by omega) (show 0 ≤ ((x40_7 + (-1))) ∧ ((x40_7 + (-1))) ≤ p2 ((a4)) by omega) (show ∀ s, 0 ≤ s → s < ((x40_8 + 1)) → (sh ((w54)) ((a2))) s < 0 → (sh ((upd1 (w40_71) ((a5 + (x40_7 + (-1)))) (x40_8))) ((a5))) (p2 ((a4)) - 1 - ngs (sh ((w54)) ((a2))) s) = s by assumption) (show ∀ k, 0 ≤ k → k < ((x40_7 + (-1))) → (sh ((upd1 (w40_71) ((a5 + (x40_7 + (-1)))) (x40_8))) ((a5))) k = -1 by assumption) (show CA (sh ((w54)) ((a2))) (a3) (a4) (sh ((upd1 (w40_71) ((a5 + (x40_7 + (-1)))) (x40_8))) ((a5))) (((x40_8 + 1))) from hc2) (show FRM ((w71)) ((upd1 (w40_71) ((a5 + (x40_7 + (-1)))) (x40_8))) (a5) ((a5) + p2 ((a4))) by assumption) rfl
    · have : FRM ((w71)) (upd1 ((w9_71)) ((a5) + (x9_7)) (-1)) (a5) ((a5) + p2 ((a4))) := FRM_upd (by assumption) (by omega) (by omega)
      refine Ew_of (pcₚ := 17) (fun _ => x_aload_n rfl l9_0) ?_
      refine w_gT H (o := 6) (t := 71) rfl (H.perm 6 rfl) rfl rfl rfl rfl rfl rfl ?_
      refine Ew_of (pcₚ := 22) (fun _ => x_iload rfl l9_5) ?_
      refine Ew_of (pcₚ := 24) (fun _ => x_iload rfl l9_7) ?_
      refine w_iadd rfl ?_
      refine Ew_of (pcₚ := 26) (fun _ => x_iconst rfl) ?_
      refine w_sI H (o := 71) (n := 2048) rfl (H.perm 71 rfl) rfl rfl (H.fix 71 rfl rfl) (show 0 ≤ (a5 + x9_7) ∧ (a5 + x9_7) < ((2048 : Nat) : Int) from q_2096 b2 h6 j9_1) (by decide) (show (-1 : Int) ≤ (-1) ∧ (-1) ≤ 63 from q_1066) (fun σ H => ?_)
      refine Ew_of (pcₚ := 30) (fun _ => x_iinc (len := 3) rfl (l9_7)) ?_
      refine Ew_of (pcₚ := 9) (fun _ => x_goto rfl rfl) ?_
      have : ∀ k, (0 : Int) ≤ k → k < ((x9_7 + 1)) → ((upd1 (w9_71) ((a5 + x9_7)) ((-1)))) ((a5) + k) = -1 := fill_upd j9_3
      exact ih9 _ (msE hm9 q_31 (q_34 b2)) _ σ _ _ ((x9_7 + 1)) (rk_o (l9_0) rfl rfl) (rk_o (l9_1) rfl rfl) (rk_o (l9_2) rfl rfl) (rk_o (l9_3) rfl rfl) (rk_o (l9_4) rfl rfl) (rk_o (l9_5) rfl rfl) (rk_o (l9_6) rfl rfl) (rk_s) H (hS_9) (SA_upd (hA_9) rfl)  (upd1 (w9_71) ((a5 + x9_7)) ((-1))) (congrArg (fun q => upd1 q ((a5 + x9_7)) ((-1))) (ew9_71)) (show inr ((x9_7 + 1)) from q_2099 b2 h6 j9_1) (show (0) ≤ ((x9_7 + 1)) from q_29 j9_1) (show ((x9_7 + 1)) ≤ (0) ∨ ((x9_7 + 1)) ≤ ((p2 (a4))) from q_33 b2) (show ∀ k, 0 ≤ k → k < ((x9_7 + 1)) → ((upd1 (w9_71) ((a5 + x9_7)) ((-1)))) ((a5) + k) = -1 by assumption) (show FRM ((w71)) ((upd1 (w9_71) ((a5 + x9_7)) ((-1)))) (a5) ((a5) + p2 ((a4))) by assumption) rfl
