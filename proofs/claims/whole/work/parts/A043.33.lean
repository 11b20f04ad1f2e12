theorem M262_33_35_36_37 {σ0 σ : rS} {D N : Nat → Nat} {F : hF} {A : hA} {d c s : Nat} {Q : wQ} (H : HS σ0 σ D N F A) {a2 a3 a4 a8 : Int} (w33 : Int → Int) (ew33 : A 33 = w33) (w35 : Int → Int) (ew35 : A 35 = w35) (w36 : Int → Int) (ew36 : A 36 = w36) (w37 : Int → Int) (ew37 : A 37 = w37) (lst : Int) (h0 : inr (a2)) (h1 : inr (a3)) (h2 : inr (a4)) (h3 : inr (a8)) (h4 : SH ((w33)) (a2) (a3) (a4) lst) (h5 : 0 ≤ (a2) ∧ 1 ≤ (a3) ∧ (a3) ≤ 64 ∧ (a2) + (a3) ≤ 192) (h6 : 0 ≤ (a8) ∧ (a8) + p2 ((a4)) ≤ 1536) (h7 : (a3) * 5 ≤ 1536) (k : ∀ σ Fₚ Aₚ, HS σ0 σ D N Fₚ Aₚ → SF [] F Fₚ → SA [35, 36, 37, 41] A Aₚ → ∀ v35 : Int → Int, Aₚ 35 = v35 → ∀ v36 : Int → Int, Aₚ 36 = v36 → ∀ v37 : Int → Int, Aₚ 37 = v37 → (TI ((v35)) ((v36)) ((v37)) (a8) (a4) lst) → (FRM ((w35)) ((v35)) (a8) ((a8) + p2 ((a4)))) → (FRM ((w36)) ((v36)) (a8) ((a8) + p2 ((a4)))) → (FRM ((w37)) ((v37)) (a8) ((a8) + p2 ((a4)))) → (LD (sh ((w33)) ((a2))) (a3) (a4) (sh ((v35)) ((a8))) (sh ((v36)) ((a8))) (sh ((v37)) ((a8)))) → Q none σ c s) : Ew 262 (d + 1) 0 (rargs 0 [.ref (D 5), .ref (D 33), I a2, I a3, I a4, .ref (D 35), .ref (D 36), .ref (D 37), I a8]) [] σ c s Q := by
  have hsh : SH ((w33)) (a2) (a3) (a4) lst := h4
  have h59 : 5 ≤ (a4) ∧ (a4) ≤ 9 := ⟨hsh.1, hsh.2.1⟩
  have hp5 := p2_5 h59
  have hng := ngs_mono (P := sh ((w33)) ((a2))) (s := 0) (t := (a3)) (by omega) (by omega)
  have hn0 : ngs (sh ((w33)) ((a2))) 0 = 0 := rfl
  have hc0 : cum (sh ((w33)) ((a2))) 0 = 0 := rfl
  have hsp : ngs (sh ((w33)) ((a2))) ((a3)) + cum (sh ((w33)) ((a2))) ((a3)) = p2 ((a4)) := SH_parts hsh
  have hcm := cum_mono (P := sh ((w33)) ((a2))) (s := 0) (t := (a3)) (by omega) (by omega)
  refine Ew_of (pcₚ := 1) (fun _ => x_iconst rfl) ?_
  refine Ew_of (pcₚ := 3) (fun _ => x_iload rfl rfl) ?_
  refine w_ishl1 rfl (show 0 ≤ a4 ∧ a4 ≤ 31 from q_1303 h59) ?_
  refine Ew_of (pcₚ := 6) (fun _ => x_istore rfl) ?_
  refine Ew_of (pcₚ := 7) (fun _ => x_iconst rfl) ?_
  refine Ew_of (pcₚ := 9) (fun _ => x_istore rfl) ?_
  have : FRM ((w35)) ((w35)) (a8) ((a8) + p2 ((a4))) := FRM_refl
  have : ∀ k, (0 : Int) ≤ k → k < 0 → ((w35)) ((a8) + k) = -1 := fun k a b => absurd b (by omega)
  suffices hl9 : ∀ (m : Nat), ∀ (ls : rO) (σ : rS) (F_9 : hF) (A_9 : hA) (x9_10 : Int), rlook ls 0 = some (.ref (D 5)) → rlook ls 1 = some (.ref (D 33)) → rlook ls 2 = some (I (a2)) → rlook ls 3 = some (I (a3)) → rlook ls 4 = some (I (a4)) → rlook ls 5 = some (.ref (D 35)) → rlook ls 6 = some (.ref (D 36)) → rlook ls 7 = some (.ref (D 37)) → rlook ls 8 = some (I (a8)) → rlook ls 9 = some (I (p2 (a4))) → rlook ls 10 = some (I (x9_10)) → HS σ0 σ D N F_9 A_9 → SF [] F F_9 → SA [35] A A_9 → ∀ w9_35 : Int → Int, A_9 35 = w9_35 → (inr (x9_10)) → ((0) ≤ (x9_10)) → ((x9_10) ≤ (0) ∨ (x9_10) ≤ ((p2 (a4)))) → (∀ k, 0 ≤ k → k < (x9_10) → ((w9_35)) ((a8) + k) = -1) → (FRM ((w35)) ((w9_35)) (a8) ((a8) + p2 ((a4)))) → (((p2 (a4))) - (x9_10)).toNat = m → Ew 262 (d + 1) 9 ls [] σ c s Q from
    hl9 _ _ σ _ _ (0) (rk_o (rk_o (rfl) rfl rfl) rfl rfl) (rk_o (rk_o (rfl) rfl rfl) rfl rfl) (rk_o (rk_o (rfl) rfl rfl) rfl rfl) (rk_o (rk_o (rfl) rfl rfl) rfl rfl) (rk_o (rk_o (rfl) rfl rfl) rfl rfl) (rk_o (rk_o (rfl) rfl rfl) rfl rfl) (rk_o (rk_o (rfl) rfl rfl) rfl rfl) (rk_o (rk_o (rfl) rfl rfl) rfl rfl) (rk_o (rk_o (rfl) rfl rfl) rfl rfl) (rk_o (rk_s) rfl rfl) (rk_s) H (SF_refl) (SA_refl)  (w35) (ew35) (show inr (0) from q_2) (show (0) ≤ (0) from q_1) (show (0) ≤ (0) ∨ (0) ≤ ((p2 (a4))) from q_5) (show ∀ k, 0 ≤ k → k < (0) → ((w35)) ((a8) + k) = -1 by assumption) (show FRM ((w35)) ((w35)) (a8) ((a8) + p2 ((a4))) by assumption) rfl
  as_aux_lemma =>
  intro m
  induction m using Nat.strongRecOn with
  | _ m ih9 =>
    intro ls σ F_9 A_9 x9_10 l9_0 l9_1 l9_2 l9_3 l9_4 l9_5 l9_6 l9_7 l9_8 l9_9 l9_10 H hS_9 hA_9  w9_35 ew9_35 j9_0 j9_1 j9_2 j9_3 j9_4 hm9
    refine Ew_of (pcₚ := 11) (fun _ => x_iload rfl l9_10) ?_
    refine Ew_of (pcₚ := 13) (fun _ => x_iload rfl l9_9) ?_
    refine w_icmpge (t := 31) rfl rfl (show inr (x9_10) from j9_0) (show inr (p2 (a4)) by omega) (fun b2 => ?_) (fun b2 => ?_)
    · have hm1 : ∀ k, 0 ≤ k → k < p2 ((a4)) → (sh ((w9_35)) ((a8))) k = -1 := fun k a b => j9_3 k a (by omega)
      have hcA : CA (sh ((w33)) ((a2))) (a3) (a4) (sh ((w9_35)) ((a8))) 0 := CA_0 hm1
      have hnf : ∀ s, 0 ≤ s → s < 0 → (sh ((w33)) ((a2))) s < 0 → (sh ((w9_35)) ((a8))) (p2 ((a4)) - 1 - ngs (sh ((w33)) ((a2))) s) = s := fun s a b => absurd b (by omega)
      refine Ew_of (pcₚ := 33) (fun _ => x_iload rfl l9_9) ?_
      refine Ew_of (pcₚ := 35) (fun _ => x_istore rfl) ?_
      refine Ew_of (pcₚ := 36) (fun _ => x_iconst rfl) ?_
      refine Ew_of (pcₚ := 38) (fun _ => x_istore rfl) ?_
      suffices hl38 : ∀ (m : Nat), ∀ (ls : rO) (σ : rS) (F_38 : hF) (A_38 : hA) (x38_10 : Int) (x38_11 : Int), rlook ls 0 = some (.ref (D 5)) → rlook ls 1 = some (.ref (D 33)) → rlook ls 2 = some (I (a2)) → rlook ls 3 = some (I (a3)) → rlook ls 4 = some (I (a4)) → rlook ls 5 = some (.ref (D 35)) → rlook ls 6 = some (.ref (D 36)) → rlook ls 7 = some (.ref (D 37)) → rlook ls 8 = some (I (a8)) → rlook ls 9 = some (I (p2 (a4))) → rlook ls 10 = some (I (x38_10)) → rlook ls 11 = some (I (x38_11)) → HS σ0 σ D N F_38 A_38 → SF [] F_9 F_38 → SA [35] A_9 A_38 → ∀ w38_35 : Int → Int, A_38 35 = w38_35 → (inr (x38_10)) → (inr (x38_11)) → ((0) ≤ (x38_11)) → ((x38_11) ≤ (0) ∨ (x38_11) ≤ ((a3))) → ((x38_10) = p2 ((a4)) - ngs (sh ((w33)) ((a2))) ((x38_11))) → (0 ≤ (x38_10) ∧ (x38_10) ≤ p2 ((a4))) → (∀ s, 0 ≤ s → s < (x38_11) → (sh ((w33)) ((a2))) s < 0 → (sh ((w38_35)) ((a8))) (p2 ((a4)) - 1 - ngs (sh ((w33)) ((a2))) s) = s) → (∀ k, 0 ≤ k → k < (x38_10) → (sh ((w38_35)) ((a8))) k = -1) → (CA (sh ((w33)) ((a2))) (a3) (a4) (sh ((w38_35)) ((a8))) ((x38_11))) → (FRM ((w35)) ((w38_35)) (a8) ((a8) + p2 ((a4)))) → (((a3)) - (x38_11)).toNat = m → Ew 262 (d + 1) 38 ls [] σ c s Q from
        hl38 _ _ σ _ _ (p2 (a4)) (0) (rk_o (rk_o (l9_0) rfl rfl) rfl rfl) (rk_o (rk_o (l9_1) rfl rfl) rfl rfl) (rk_o (rk_o (l9_2) rfl rfl) rfl rfl) (rk_o (rk_o (l9_3) rfl rfl) rfl rfl) (rk_o (rk_o (l9_4) rfl rfl) rfl rfl) (rk_o (rk_o (l9_5) rfl rfl) rfl rfl) (rk_o (rk_o (l9_6) rfl rfl) rfl rfl) (rk_o (rk_o (l9_7) rfl rfl) rfl rfl) (rk_o (rk_o (l9_8) rfl rfl) rfl rfl) (rk_o (rk_o (l9_9) rfl rfl) rfl rfl) (rk_o (rk_s) rfl rfl) (rk_s) H (SF_refl) (SA_refl)  (w9_35) (ew9_35) (show inr (p2 (a4)) by omega) (show inr (0) from q_2) (show (0) ≤ (0) from q_1) (show (0) ≤ (0) ∨ (0) ≤ ((a3)) from q_5) (show (p2 (a4)) = p2 ((a4)) - ngs (sh ((w33)) ((a2))) ((0)) from q_1304 hn0) (show 0 ≤ (p2 (a4)) ∧ (p2 (a4)) ≤ p2 ((a4)) by omega) (hnf) (hm1) (hcA) (j9_4) rfl
      as_aux_lemma =>
      intro m
      induction m using Nat.strongRecOn with
      | _ m ih38 =>
        intro ls σ F_38 A_38 x38_10 x38_11 l38_0 l38_1 l38_2 l38_3 l38_4 l38_5 l38_6 l38_7 l38_8 l38_9 l38_10 l38_11 H hS_38 hA_38  w38_35 ew38_35 j38_0 j38_1 j38_2 j38_3 j38_4 j38_5 j38_6 j38_7 j38_8 j38_9 hm38
        refine Ew_of (pcₚ := 40) (fun _ => x_iload rfl l38_11) ?_
        refine Ew_of (pcₚ := 41) (fun _ => x_iload_n rfl l38_3) ?_
        refine w_icmpge (t := 76) rfl rfl (show inr (x38_11) from j38_1) (show inr (a3) from h1) (fun b3 => ?_) (fun b3 => ?_)
        · have hne3 : ngs (sh ((w33)) ((a2))) ((x38_11)) = ngs (sh ((w33)) ((a2))) ((a3)) := by rw [show (x38_11) = (a3) by omega]
          have hPT : PT (sh ((w33)) ((a2))) (a3) (a4) (sh ((w38_35)) ((a8))) 0 (cum (sh ((w33)) ((a2))) 0) := by rw [hc0]; exact PT_start (by omega) (fun s a b c => (j38_6) s a (by omega) c) (fun k a b => (j38_7) k a (by omega))
          have hCB : CB (sh ((w33)) ((a2))) (a3) (a4) (sh ((w38_35)) ((a8))) 0 0 := CB_0 (j38_8) (by omega)
          refine Ew_of (pcₚ := 78) (fun _ => x_iload rfl l38_9) ?_
          refine Ew_of (pcₚ := 79) (fun _ => x_iconst rfl) ?_
          refine w_idiv rfl (show inr (p2 (a4)) ∧ 0 ≤ p2 (a4) from q_1305 h6 j38_5) (show inr (2) ∧ 0 < 2 from q_1234) ?_
          refine Ew_of (pcₚ := 82) (fun _ => x_iload rfl l38_9) ?_
          refine Ew_of (pcₚ := 84) (fun _ => x_bipush (z := 8) rfl (by decide)) ?_
          refine w_idiv rfl (show inr (p2 (a4)) ∧ 0 ≤ p2 (a4) from q_1305 h6 j38_5) (show inr (8) ∧ 0 < 8 from q_1054) ?_
          refine w_iadd rfl ?_
          refine Ew_of (pcₚ := 87) (fun _ => x_iconst rfl) ?_
          refine w_iadd rfl ?_
          refine Ew_of (pcₚ := 90) (fun _ => x_istore rfl) ?_
          refine Ew_of (pcₚ := 91) (fun _ => x_iconst rfl) ?_
          refine Ew_of (pcₚ := 93) (fun _ => x_istore rfl) ?_
          refine Ew_of (pcₚ := 94) (fun _ => x_iconst rfl) ?_
          refine Ew_of (pcₚ := 96) (fun _ => x_istore rfl) ?_
          suffices hl96 : ∀ (m : Nat), ∀ (ls : rO) (σ : rS) (F_96 : hF) (A_96 : hA) (x96_12 : Int) (x96_13 : Int), rlook ls 0 = some (.ref (D 5)) → rlook ls 1 = some (.ref (D 33)) → rlook ls 2 = some (I (a2)) → rlook ls 3 = some (I (a3)) → rlook ls 4 = some (I (a4)) → rlook ls 5 = some (.ref (D 35)) → rlook ls 6 = some (.ref (D 36)) → rlook ls 7 = some (.ref (D 37)) → rlook ls 8 = some (I (a8)) → rlook ls 9 = some (I (p2 (a4))) → rlook ls 11 = some (I ((((p2 (a4) / 2) + (p2 (a4) / 8)) + 3))) → rlook ls 12 = some (I (x96_12)) → rlook ls 13 = some (I (x96_13)) → HS σ0 σ D N F_96 A_96 → SF [] F_38 F_96 → SA [35] A_38 A_96 → ∀ w96_35 : Int → Int, A_96 35 = w96_35 → (inr (x96_12)) → (inr (x96_13)) → ((0) ≤ (x96_13)) → ((x96_13) ≤ (0) ∨ (x96_13) ≤ ((a3))) → (PT (sh ((w33)) ((a2))) (a3) (a4) (sh ((w96_35)) ((a8))) ((x96_12)) (cum (sh ((w33)) ((a2))) ((x96_13)))) → (CB (sh ((w33)) ((a2))) (a3) (a4) (sh ((w96_35)) ((a8))) ((x96_13)) 0) → (FRM ((w35)) ((w96_35)) (a8) ((a8) + p2 ((a4)))) → (((a3)) - (x96_13)).toNat = m → Ew 262 (d + 1) 96 ls [] σ c s Q from
            hl96 _ _ σ _ _ (0) (0) (rk_o (rk_o (rk_o (l38_0) rfl rfl) rfl rfl) rfl rfl) (rk_o (rk_o (rk_o (l38_1) rfl rfl) rfl rfl) rfl rfl) (rk_o (rk_o (rk_o (l38_2) rfl rfl) rfl rfl) rfl rfl) (rk_o (rk_o (rk_o (l38_3) rfl rfl) rfl rfl) rfl rfl) (rk_o (rk_o (rk_o (l38_4) rfl rfl) rfl rfl) rfl rfl) (rk_o (rk_o (rk_o (l38_5) rfl rfl) rfl rfl) rfl rfl) (rk_o (rk_o (rk_o (l38_6) rfl rfl) rfl rfl) rfl rfl) (rk_o (rk_o (rk_o (l38_7) rfl rfl) rfl rfl) rfl rfl) (rk_o (rk_o (rk_o (l38_8) rfl rfl) rfl rfl) rfl rfl) (rk_o (rk_o (rk_o (l38_9) rfl rfl) rfl rfl) rfl rfl) (rk_o (rk_o (rk_s) rfl rfl) rfl rfl) (rk_o (rk_s) rfl rfl) (rk_s) H (SF_refl) (SA_refl)  (w38_35) (ew38_35) (show inr (0) from q_2) (show inr (0) from q_2) (show (0) ≤ (0) from q_1) (show (0) ≤ (0) ∨ (0) ≤ ((a3)) from q_5) (hPT) (hCB) (j38_9) rfl
          as_aux_lemma =>
          intro m
          induction m using Nat.strongRecOn with
          | _ m ih96 =>
            intro ls σ F_96 A_96 x96_12 x96_13 l96_0 l96_1 l96_2 l96_3 l96_4 l96_5 l96_6 l96_7 l96_8 l96_9 l96_11 l96_12 l96_13 H hS_96 hA_96  w96_35 ew96_35 j96_0 j96_1 j96_2 j96_3 j96_4 j96_5 j96_6 hm96
            refine Ew_of (pcₚ := 98) (fun _ => x_iload rfl l96_13) ?_
            refine Ew_of (pcₚ := 99) (fun _ => x_iload_n rfl l96_3) ?_
            refine w_icmpge (t := 162) rfl rfl (show inr (x96_13) from j96_1) (show inr (a3) from h1) (fun b4 => ?_) (fun b4 => ?_)
            · have hlaid : LAID (sh ((w33)) ((a2))) (a3) (a4) (sh ((w96_35)) ((a8))) := PT_end h59 (by omega) (by rw [show p2 ((a4)) - ngs (sh ((w33)) ((a2))) ((a3)) = cum (sh ((w33)) ((a2))) ((x96_13)) by rw [show (x96_13) = (a3) by omega]; omega]; assumption)
              have hcnt := CB_end (j96_5) (by omega)
              have : ∀ i, 0 ≤ i → i < 0 → ((A 41)) i = mass ((sh ((w33)) ((a2))) i) := fun i a b => absurd b (by omega)
              refine Ew_of (pcₚ := 163) (fun _ => x_iconst rfl) ?_
              refine Ew_of (pcₚ := 165) (fun _ => x_istore rfl) ?_
              suffices hl165 : ∀ (m : Nat), ∀ (ls : rO) (σ : rS) (F_165 : hF) (A_165 : hA) (x165_13 : Int), rlook ls 0 = some (.ref (D 5)) → rlook ls 1 = some (.ref (D 33)) → rlook ls 2 = some (I (a2)) → rlook ls 3 = some (I (a3)) → rlook ls 4 = some (I (a4)) → rlook ls 5 = some (.ref (D 35)) → rlook ls 6 = some (.ref (D 36)) → rlook ls 7 = some (.ref (D 37)) → rlook ls 8 = some (I (a8)) → rlook ls 9 = some (I (p2 (a4))) → rlook ls 13 = some (I (x165_13)) → HS σ0 σ D N F_165 A_165 → SF [] F_96 F_165 → SA [41] A_96 A_165 → ∀ w165_41 : Int → Int, A_165 41 = w165_41 → (inr (x165_13)) → ((0) ≤ (x165_13)) → ((x165_13) ≤ (0) ∨ (x165_13) ≤ ((a3))) → (∀ i, 0 ≤ i → i < (x165_13) → ((w165_41)) i = mass ((sh ((w33)) ((a2))) i)) → (((a3)) - (x165_13)).toNat = m → Ew 262 (d + 1) 165 ls [] σ c s Q from
                hl165 _ _ σ _ _ (0) (rk_o (l96_0) rfl rfl) (rk_o (l96_1) rfl rfl) (rk_o (l96_2) rfl rfl) (rk_o (l96_3) rfl rfl) (rk_o (l96_4) rfl rfl) (rk_o (l96_5) rfl rfl) (rk_o (l96_6) rfl rfl) (rk_o (l96_7) rfl rfl) (rk_o (l96_8) rfl rfl) (rk_o (l96_9) rfl rfl) (rk_s) H (SF_refl) (SA_refl)  (A 41) ((funext (hA_96 41 rfl)).trans ((funext (hA_38 41 rfl)).trans (funext (hA_9 41 rfl)))) (show inr (0) from q_2) (show (0) ≤ (0) from q_1) (show (0) ≤ (0) ∨ (0) ≤ ((a3)) from q_5) (show ∀ i, 0 ≤ i → i < (0) → ((A 41)) i = mass ((sh ((w33)) ((a2))) i) by assumption) rfl
              as_aux_lemma =>
              intro m
              induction m using Nat.strongRecOn with
              | _ m ih165 =>
                intro ls σ F_165 A_165 x165_13 l165_0 l165_1 l165_2 l165_3 l165_4 l165_5 l165_6 l165_7 l165_8 l165_9 l165_13 H hS_165 hA_165  w165_41 ew165_41 j165_0 j165_1 j165_2 j165_3 hm165
                refine Ew_of (pcₚ := 167) (fun _ => x_iload rfl l165_13) ?_
                refine Ew_of (pcₚ := 168) (fun _ => x_iload_n rfl l165_3) ?_
                refine w_icmpge (t := 204) rfl rfl (show inr (x165_13) from j165_0) (show inr (a3) from h1) (fun b5 => ?_) (fun b5 => ?_)
                · have : FRM ((w36)) ((w36)) (a8) ((a8) + p2 ((a4))) := FRM_refl
                  have : FRM ((w37)) ((w37)) (a8) ((a8) + p2 ((a4))) := FRM_refl
                  have : NB (sh ((w33)) ((a2))) (a3) (sh ((w96_35)) ((a8))) ((w165_41)) 0 := NB_0 (fun s a b => (j165_3) s a (by omega))
                  have : NUM (sh ((w33)) ((a2))) (a4) (sh ((w96_35)) ((a8))) (sh ((w36)) ((a8))) (sh ((w37)) ((a8))) 0 := fun k a b => absurd b (by omega)
                  have : TJ ((w96_35)) ((w36)) ((w37)) (a8) (a4) lst 0 := fun k a b => absurd b (by omega)
                  refine Ew_of (pcₚ := 205) (fun _ => x_iconst rfl) ?_
                  refine Ew_of (pcₚ := 207) (fun _ => x_istore rfl) ?_
                  suffices hl207 : ∀ (m : Nat), ∀ (ls : rO) (σ : rS) (F_207 : hF) (A_207 : hA) (x207_13 : Int), rlook ls 0 = some (.ref (D 5)) → rlook ls 4 = some (I (a4)) → rlook ls 5 = some (.ref (D 35)) → rlook ls 6 = some (.ref (D 36)) → rlook ls 7 = some (.ref (D 37)) → rlook ls 8 = some (I (a8)) → rlook ls 9 = some (I (p2 (a4))) → rlook ls 13 = some (I (x207_13)) → HS σ0 σ D N F_207 A_207 → SF [] F_165 F_207 → SA [36, 37, 41] A_165 A_207 → ∀ w207_36 : Int → Int, A_207 36 = w207_36 → ∀ w207_37 : Int → Int, A_207 37 = w207_37 → ∀ w207_41 : Int → Int, A_207 41 = w207_41 → (inr (x207_13)) → ((0) ≤ (x207_13)) → ((x207_13) ≤ (0) ∨ (x207_13) ≤ ((p2 (a4)))) → (NB (sh ((w33)) ((a2))) (a3) (sh ((w96_35)) ((a8))) ((w207_41)) ((x207_13))) → (NUM (sh ((w33)) ((a2))) (a4) (sh ((w96_35)) ((a8))) (sh ((w207_36)) ((a8))) (sh ((w207_37)) ((a8))) ((x207_13))) → (TJ ((w96_35)) ((w207_36)) ((w207_37)) (a8) (a4) lst ((x207_13))) → (FRM ((w36)) ((w207_36)) (a8) ((a8) + p2 ((a4)))) → (FRM ((w37)) ((w207_37)) (a8) ((a8) + p2 ((a4)))) → (((p2 (a4))) - (x207_13)).toNat = m → Ew 262 (d + 1) 207 ls [] σ c s Q from
                    hl207 _ _ σ _ _ (0) (rk_o (l165_0) rfl rfl) (rk_o (l165_4) rfl rfl) (rk_o (l165_5) rfl rfl) (rk_o (l165_6) rfl rfl) (rk_o (l165_7) rfl rfl) (rk_o (l165_8) rfl rfl) (rk_o (l165_9) rfl rfl) (rk_s) H (SF_refl) (SA_refl)  (w36) ((funext (hA_165 36 rfl)).trans ((funext (hA_96 36 rfl)).trans ((funext (hA_38 36 rfl)).trans ((funext (hA_9 36 rfl)).trans (ew36))))) (w37) ((funext (hA_165 37 rfl)).trans ((funext (hA_96 37 rfl)).trans ((funext (hA_38 37 rfl)).trans ((funext (hA_9 37 rfl)).trans (ew37))))) (w165_41) (ew165_41) (show inr (0) from q_2) (show (0) ≤ (0) from q_1) (show (0) ≤ (0) ∨ (0) ≤ ((p2 (a4))) from q_5) (show NB (sh ((w33)) ((a2))) (a3) (sh ((w96_35)) ((a8))) ((w165_41)) ((0)) by assumption) (show NUM (sh ((w33)) ((a2))) (a4) (sh ((w96_35)) ((a8))) (sh ((w36)) ((a8))) (sh ((w37)) ((a8))) ((0)) by assumption) (show TJ ((w96_35)) ((w36)) ((w37)) (a8) (a4) lst ((0)) by assumption) (show FRM ((w36)) ((w36)) (a8) ((a8) + p2 ((a4))) by assumption) (show FRM ((w37)) ((w37)) (a8) ((a8) + p2 ((a4))) by assumption) rfl
                  as_aux_lemma =>
                  intro m
                  induction m using Nat.strongRecOn with
                  | _ m ih207 =>
                    intro ls σ F_207 A_207 x207_13 l207_0 l207_4 l207_5 l207_6 l207_7 l207_8 l207_9 l207_13 H hS_207 hA_207  w207_36 ew207_36 w207_37 ew207_37 w207_41 ew207_41 j207_0 j207_1 j207_2 j207_3 j207_4 j207_5 j207_6 j207_7 hm207
                    have j207_num : NUM (sh ((w33)) ((a2))) (a4) (sh ((w96_35)) ((a8))) (sh ((w207_36)) ((a8))) (sh ((w207_37)) ((a8))) ((x207_13)) := j207_4
                    have j207_tj : TJ ((w96_35)) ((w207_36)) ((w207_37)) (a8) (a4) lst ((x207_13)) := j207_5
                    refine Ew_of (pcₚ := 209) (fun _ => x_iload rfl l207_13) ?_
                    refine Ew_of (pcₚ := 211) (fun _ => x_iload rfl l207_9) ?_
                    refine w_icmpge (t := 286) rfl rfl (show inr (x207_13) from j207_0) (show inr (p2 (a4)) from q_1306 h6 j38_5) (fun b6 => ?_) (fun b6 => ?_)
                    · have : TI ((w96_35)) ((w207_36)) ((w207_37)) (a8) (a4) lst := fun k a b => (j207_tj) k a (by omega)
                      have : LD (sh ((w33)) ((a2))) (a3) (a4) (sh ((w96_35)) ((a8))) (sh ((w207_36)) ((a8))) (sh ((w207_37)) ((a8))) := ⟨hlaid, hcnt, fun k a b => (j207_num) k a (by omega)⟩
                      exact w_ret rfl (k σ _ _ H (SF_trans (SF_trans (SF_trans (SF_trans (SF_trans (SF_refl) hS_9 (any_sub rfl)) hS_38 (any_sub rfl)) hS_96 (any_sub rfl)) hS_165 (any_sub rfl)) hS_207 (any_sub rfl)) (SA_trans (SA_trans (SA_trans (SA_trans (SA_trans (SA_refl) hA_9 (any_subA rfl)) hA_38 (any_subA rfl)) hA_96 (any_subA rfl)) hA_165 (any_subA rfl)) hA_207 (any_subA rfl)) (w96_35) ((funext (hA_207 35 rfl)).trans ((funext (hA_165 35 rfl)).trans (ew96_35))) (w207_36) (ew207_36) (w207_37) (ew207_37) (show TI ((w96_35)) ((w207_36)) ((w207_37)) a8 a4 lst by assumption) (j96_6) (j207_6) (j207_7) (show LD (sh ((w33)) (a2)) a3 a4 (sh ((w96_35)) (a8)) (sh ((w207_36)) (a8)) (sh ((w207_37)) (a8)) by assumption))
                    · have hlr := LAID_rng h59 (by omega) hlaid (k := (x207_13)) (by omega) (by omega)
                      have hse : (sh ((w96_35)) ((a8))) ((x207_13)) = ((w96_35)) ((a8) + (x207_13)) := rfl
                      have hnb : NB (sh ((w33)) ((a2))) (a3) (sh ((w96_35)) ((a8))) ((w207_41)) ((x207_13)) := j207_3
                      have hnx := NB_x hnb hcnt (by omega) (by omega) hlr.1 hlr.2.1
                      have hle := SH_le ((sh ((w96_35)) ((a8))) ((x207_13))) hsh hlr.1 hlr.2.1
                      have hpe : (sh ((w33)) ((a2))) ((sh ((w96_35)) ((a8))) ((x207_13))) = ((w33)) ((a2) + (sh ((w96_35)) ((a8))) ((x207_13))) := rfl
                      have hme := mass_eq ((sh ((w33)) ((a2))) ((sh ((w96_35)) ((a8))) ((x207_13))))
                      have hls := hle.2.2.2 (by rw [← hpe]; exact hlr.2.2)
                      have hmb : mass ((sh ((w33)) ((a2))) ((sh ((w96_35)) ((a8))) ((x207_13)))) ≤ p2 ((a4)) := hle.2.2.1
                      have hm1_ : 1 ≤ mass ((sh ((w33)) ((a2))) ((sh ((w96_35)) ((a8))) ((x207_13)))) := by have := hlr.2.2; omega
                      refine Ew_of (pcₚ := 216) (fun _ => x_aload rfl l207_5) ?_
                      refine Ew_of (pcₚ := 218) (fun _ => x_iload rfl l207_8) ?_
                      refine Ew_of (pcₚ := 220) (fun _ => x_iload rfl l207_13) ?_
                      refine w_iadd rfl ?_
                      refine w_lI H (o := 35) (n := 1536) rfl (H.perm 35 rfl) rfl rfl (H.fix 35 rfl rfl) (show 0 ≤ (a8 + x207_13) ∧ (a8 + x207_13) < ((1536 : Nat) : Int) from q_1307 b6 h6 j207_1) (by decide) (fun v7 ev7 qv7 => ?_)
                      have qv7 : (-1 : Int) ≤ v7 ∧ v7 ≤ 63 := qv7
                      have ev7 : (w96_35) ((a8 + x207_13)) = v7 := (congrFun ((funext (hA_207 35 rfl)).trans ((funext (hA_165 35 rfl)).trans (ew96_35))) ((a8 + x207_13))).symm.trans ev7
                      have hsv := ev7
                      rw [hse, hsv] at hnx hmb hm1_
                      refine Ew_of (pcₚ := 224) (fun _ => x_istore rfl) ?_
                      refine Ew_of (pcₚ := 225) (fun _ => x_aload_n rfl (rk_o (l207_0) rfl rfl)) ?_
                      refine w_gT H (o := 5) (t := 41) rfl (H.perm 5 rfl) rfl rfl rfl rfl rfl rfl ?_
                      refine Ew_of (pcₚ := 230) (fun _ => x_iload rfl rk_s) ?_
                      refine w_lI H (o := 41) (n := 256) rfl (H.perm 41 rfl) rfl rfl (H.fix 41 rfl rfl) (show 0 ≤ v7 ∧ v7 < ((256 : Nat) : Int) by omega) (by decide) (fun v8 ev8 qv8 => ?_)
                      have qv8 : (0 : Int) ≤ v8 ∧ v8 ≤ 4096 := qv8
                      have ev8 : (w207_41) (v7) = v8 := (congrFun (ew207_41) (v7)).symm.trans ev8
                      have hxv := ev8
                      rw [hxv] at hnx
                      refine Ew_of (pcₚ := 233) (fun _ => x_istore rfl) ?_
                      refine Ew_of (pcₚ := 234) (fun _ => x_aload_n rfl (rk_o (rk_o (l207_0) rfl rfl) rfl rfl)) ?_
                      refine w_gT H (o := 5) (t := 41) rfl (H.perm 5 rfl) rfl rfl rfl rfl rfl rfl ?_
                      refine Ew_of (pcₚ := 239) (fun _ => x_iload rfl (rk_o (rk_s) rfl rfl)) ?_
                      refine Ew_of (pcₚ := 240) (fun _ => x_dup2 rfl rfl rfl) ?_
                      refine w_lI H (o := 41) (n := 256) rfl (H.perm 41 rfl) rfl rfl (H.fix 41 rfl rfl) (show 0 ≤ v7 ∧ v7 < ((256 : Nat) : Int) by omega) (by decide) (fun v9 ev9 qv9 => ?_)
                      have qv9 : (0 : Int) ≤ v9 ∧ v9 ≤ 4096 := qv9
                      have ev9 : (w207_41) (v7) = v9 := (congrFun (ew207_41) (v7)).symm.trans ev9
                      have hv2 := ev9
                      have hv2x : (v9) = (v8) := hv2.symm.trans hxv
                      refine Ew_of (pcₚ := 242) (fun _ => x_iconst rfl) ?_
                      refine w_iadd rfl ?_
                      have hnb2 : NB (sh ((w33)) ((a2))) (a3) (sh ((w96_35)) ((a8))) (upd1 ((w207_41)) ((v7)) (((v9 + 1)))) ((x207_13) + 1) := by have h := NB_next hnb (x := ((v9 + 1))) (k2 := (x207_13) + 1) (by omega) rfl hlr.1 hlr.2.1 (by rw [hse, hsv]; omega); rw [hse, hsv] at h; exact h
                      refine w_sI H (o := 41) (n := 256) rfl (H.perm 41 rfl) rfl rfl (H.fix 41 rfl rfl) (show 0 ≤ v7 ∧ v7 < ((256 : Nat) : Int) by omega) (by decide) (show (0 : Int) ≤ (v9 + 1) ∧ (v9 + 1) ≤ 4096 by omega) (fun σ H => ?_)
                      refine Ew_of (pcₚ := 246) (fun _ => x_iload rfl (rk_o (rk_o (l207_4) rfl rfl) rfl rfl)) ?_
                      refine Ew_of (pcₚ := 248) (fun _ => x_iload rfl rk_s) ?_
                      refine w_stat24 rfl rfl (by rfl) (M260 H (show inr (v8) from q_1309 qv8) (show 0 ≤ (v8) from q_1308 qv8) (fun z14 σ F10 A11 H hS12 hA13 pz14_0 pz14_1 pz14_2 => ⟨rfl, ?_⟩))
                      have hib := hi_base (x := (v8)) (r := (z14)) (o := (a4)) (by omega) (by omega) (by omega) (by omega) (by omega)
                      have hpp := p2_pos ((a4) - (z14))
                      refine w_isub rfl ?_
                      refine Ew_of (pcₚ := 254) (fun _ => x_istore rfl) ?_
                      have : FRM ((w36)) (upd1 ((w207_36)) ((a8) + (x207_13)) (((a4 - z14)))) (a8) ((a8) + p2 ((a4))) := FRM_upd (by assumption) (by omega) (by omega)
                      have : FRM ((w37)) (upd1 ((w207_37)) ((a8) + (x207_13)) ((v8) * p2 (((a4 - z14))) - p2 ((a4)))) (a8) ((a8) + p2 ((a4))) := FRM_upd (by assumption) (by omega) (by omega)
                      have htj : TJ ((w96_35)) (upd1 ((w207_36)) ((a8) + (x207_13)) ((a4 - z14))) (upd1 ((w207_37)) ((a8) + (x207_13)) ((v8) * p2 (((a4 - z14))) - p2 ((a4)))) (a8) (a4) lst ((x207_13) + 1) := TJ_next j207_tj (by omega) (by omega) (by omega)
                      have hnum : NUM (sh ((w33)) ((a2))) (a4) (sh ((w96_35)) ((a8))) (sh (upd1 ((w207_36)) ((a8) + (x207_13)) ((a4 - z14))) ((a8))) (sh (upd1 ((w207_37)) ((a8) + (x207_13)) ((v8) * p2 (((a4 - z14))) - p2 ((a4)))) ((a8))) ((x207_13) + 1) := by rw [sh_upd, sh_upd]; exact NUM_next (r := z14) j207_num rfl (by omega) (by omega) (by omega) (by omega) (by omega) (by rw [← hnx.1])
                      refine Ew_of (pcₚ := 256) (fun _ => x_aload rfl (rk_o (rk_o (rk_o (l207_6) rfl rfl) rfl rfl) rfl rfl)) ?_
                      refine Ew_of (pcₚ := 258) (fun _ => x_iload rfl (rk_o (rk_o (rk_o (l207_8) rfl rfl) rfl rfl) rfl rfl)) ?_
                      refine Ew_of (pcₚ := 260) (fun _ => x_iload rfl (rk_o (rk_o (rk_o (l207_13) rfl rfl) rfl rfl) rfl rfl)) ?_
                      refine w_iadd rfl ?_
                      refine Ew_of (pcₚ := 263) (fun _ => x_iload rfl rk_s) ?_
                      refine w_sI H (o := 36) (n := 1536) rfl (H.perm 36 rfl) rfl rfl (H.fix 36 rfl rfl) (show 0 ≤ (a8 + x207_13) ∧ (a8 + x207_13) < ((1536 : Nat) : Int) from q_1307 b6 h6 j207_1) (by decide) (show (0 : Int) ≤ (a4 - z14) ∧ (a4 - z14) ≤ 9 by omega) (fun σ H => ?_)
                      refine Ew_of (pcₚ := 266) (fun _ => x_aload rfl (rk_o (rk_o (rk_o (l207_7) rfl rfl) rfl rfl) rfl rfl)) ?_
                      refine Ew_of (pcₚ := 268) (fun _ => x_iload rfl (rk_o (rk_o (rk_o (l207_8) rfl rfl) rfl rfl) rfl rfl)) ?_
                      refine Ew_of (pcₚ := 270) (fun _ => x_iload rfl (rk_o (rk_o (rk_o (l207_13) rfl rfl) rfl rfl) rfl rfl)) ?_
                      refine w_iadd rfl ?_
                      refine Ew_of (pcₚ := 273) (fun _ => x_iload rfl (rk_o (rk_s) rfl rfl)) ?_
                      refine Ew_of (pcₚ := 275) (fun _ => x_iload rfl rk_s) ?_
                      refine w_ishlT rfl (show 0 ≤ (a4 - z14) ∧ (a4 - z14) ≤ 31 by omega) ?_
                      refine Ew_of (pcₚ := 278) (fun _ => x_iload rfl (rk_o (rk_o (rk_o (l207_9) rfl rfl) rfl rfl) rfl rfl)) ?_
                      refine w_isub rfl ?_
                      refine w_sI H (o := 37) (n := 1536) rfl (H.perm 37 rfl) rfl rfl (H.fix 37 rfl rfl) (show 0 ≤ (a8 + x207_13) ∧ (a8 + x207_13) < ((1536 : Nat) : Int) from q_1307 b6 h6 j207_1) (by decide) (show (0 : Int) ≤ ((v8 * p2 ((a4 - z14))) - p2 (a4)) ∧ ((v8 * p2 ((a4 - z14))) - p2 (a4)) ≤ 511 by omega) (fun σ H => ?_)
                      refine Ew_of (pcₚ := 283) (fun _ => x_iinc (len := 3) rfl (rk_o (rk_o (rk_o (l207_13) rfl rfl) rfl rfl) rfl rfl)) ?_
                      refine Ew_of (pcₚ := 207) (fun _ => x_goto rfl rfl) ?_
                      exact ih207 _ (msE hm207 q_16 (q_17 b6)) _ σ _ _ ((x207_13 + 1)) (rk_o (rk_o (rk_o (rk_o (l207_0) rfl rfl) rfl rfl) rfl rfl) rfl rfl) (rk_o (rk_o (rk_o (rk_o (l207_4) rfl rfl) rfl rfl) rfl rfl) rfl rfl) (rk_o (rk_o (rk_o (rk_o (l207_5) rfl rfl) rfl rfl) rfl rfl) rfl rfl) (rk_o (rk_o (rk_o (rk_o (l207_6) rfl rfl) rfl rfl) rfl rfl) rfl rfl) (rk_o (rk_o (rk_o (rk_o (l207_7) rfl rfl) rfl rfl) rfl rfl) rfl rfl) (rk_o (rk_o (rk_o (rk_o (l207_8) rfl rfl) rfl rfl) rfl rfl) rfl rfl) (rk_o (rk_o (rk_o (rk_o (l207_9) rfl rfl) rfl rfl) rfl rfl) rfl rfl) (rk_s) H (SF_trans (hS_207) hS12 (any_sub rfl)) (SA_upd (SA_upd (SA_trans (SA_upd (hA_207) rfl) hA13 (any_subA rfl)) rfl) rfl)  (upd1 (w207_36) ((a8 + x207_13)) ((a4 - z14))) (congrArg (fun q => upd1 q ((a8 + x207_13)) ((a4 - z14))) ((funext (hA13 36 rfl)).trans (ew207_36))) (upd1 (w207_37) ((a8 + x207_13)) (((v8 * p2 ((a4 - z14))) - p2 (a4)))) (congrArg (fun q => upd1 q ((a8 + x207_13)) (((v8 * p2 ((a4 - z14))) - p2 (a4)))) ((funext (hA13 37 rfl)).trans (ew207_37))) (upd1 (w207_41) (v7) ((v9 + 1))) ((funext (hA13 41 rfl)).trans (congrArg (fun q => upd1 q (v7) ((v9 + 1))) (ew207_41))) (show inr ((x207_13 + 1)) from q_1310 b6 h6 j207_1) (show (0) ≤ ((x207_13 + 1)) from q_14 j207_1) (show ((x207_13 + 1)) ≤ (0) ∨ ((x207_13 + 1)) ≤ ((p2 (a4))) from q_13 b6) (hnb2) (hnum) (htj) (show FRM ((w36)) ((upd1 (w207_36) ((a8 + x207_13)) ((a4 - z14)))) (a8) ((a8) + p2 ((a4))) by assumption) (show FRM ((w37)) ((upd1 (w207_37) ((a8 + x207_13)) (((v8 * p2 ((a4 - z14))) - p2 (a4))))) (a8) ((a8) + p2 ((a4))) by assumption) rfl
                · have hma := mass_eq ((w33) ((a2) + (x165_13)))
                  have hle := SH_le (x165_13) hsh (by omega) (by omega)
                  refine Ew_of (pcₚ := 172) (fun _ => x_aload_n rfl l165_0) ?_
                  refine w_gT H (o := 5) (t := 41) rfl (H.perm 5 rfl) rfl rfl rfl rfl rfl rfl ?_
                  refine Ew_of (pcₚ := 177) (fun _ => x_iload rfl l165_13) ?_
                  refine Ew_of (pcₚ := 178) (fun _ => x_aload_n rfl l165_1) ?_
                  refine Ew_of (pcₚ := 179) (fun _ => x_iload_n rfl l165_2) ?_
                  refine Ew_of (pcₚ := 181) (fun _ => x_iload rfl l165_13) ?_
                  refine w_iadd rfl ?_
                  refine w_lI H (o := 33) (n := 192) rfl (H.perm 33 rfl) rfl rfl (H.fix 33 rfl rfl) (show 0 ≤ (a2 + x165_13) ∧ (a2 + x165_13) < ((192 : Nat) : Int) from q_1311 b5 h5 j165_1) (by decide) (fun v16 ev16 qv16 => ?_)
                  have qv16 : (-1 : Int) ≤ v16 ∧ v16 ≤ 512 := qv16
                  have ev16 : (w33) ((a2 + x165_13)) = v16 := (congrFun ((funext (hA_165 33 rfl)).trans ((funext (hA_96 33 rfl)).trans ((funext (hA_38 33 rfl)).trans ((funext (hA_9 33 rfl)).trans (ew33))))) ((a2 + x165_13))).symm.trans ev16
                  refine Ew_of (pcₚ := 184) (fun _ => x_iconst rfl) ?_
                  refine w_icmpne (t := 191) rfl rfl (show inr (v16) from q_1312 qv16) (show inr ((-1)) from q_63) (fun b17 => ?_) (fun b17 => ?_)
                  · refine Ew_of (pcₚ := 192) (fun _ => x_aload_n rfl l165_1) ?_
                    refine Ew_of (pcₚ := 193) (fun _ => x_iload_n rfl l165_2) ?_
                    refine Ew_of (pcₚ := 195) (fun _ => x_iload rfl l165_13) ?_
                    refine w_iadd rfl ?_
                    refine w_lI H (o := 33) (n := 192) rfl (H.perm 33 rfl) rfl rfl (H.fix 33 rfl rfl) (show 0 ≤ (a2 + x165_13) ∧ (a2 + x165_13) < ((192 : Nat) : Int) from q_1311 b5 h5 j165_1) (by decide) (fun v18 ev18 qv18 => ?_)
                    have qv18 : (-1 : Int) ≤ v18 ∧ v18 ≤ 512 := qv18
                    have ev18 : (w33) ((a2 + x165_13)) = v18 := (congrFun ((funext (hA_165 33 rfl)).trans ((funext (hA_96 33 rfl)).trans ((funext (hA_38 33 rfl)).trans ((funext (hA_9 33 rfl)).trans (ew33))))) ((a2 + x165_13))).symm.trans ev18
                    refine w_sI H (o := 41) (n := 256) rfl (H.perm 41 rfl) rfl rfl (H.fix 41 rfl rfl) (show 0 ≤ x165_13 ∧ x165_13 < ((256 : Nat) : Int) from q_1313 b5 h5 h7 j165_1) (by decide) (show (0 : Int) ≤ v18 ∧ v18 ≤ 4096 by omega) (fun σ H => ?_)
                    refine Ew_of (pcₚ := 201) (fun _ => x_iinc (len := 3) rfl (l165_13)) ?_
                    refine Ew_of (pcₚ := 165) (fun _ => x_goto rfl rfl) ?_
                    have : ∀ i, 0 ≤ i → i < ((x165_13 + 1)) → ((upd1 (w165_41) (x165_13) (v18))) i = mass ((sh ((w33)) ((a2))) i) := pt_upd j165_3 (by have h := hma; first | omega | (show _ = mass ((w33) _); omega))
                    exact ih165 _ (msE hm165 q_16 (q_17 b5)) _ σ _ _ ((x165_13 + 1)) (rk_o (l165_0) rfl rfl) (rk_o (l165_1) rfl rfl) (rk_o (l165_2) rfl rfl) (rk_o (l165_3) rfl rfl) (rk_o (l165_4) rfl rfl) (rk_o (l165_5) rfl rfl) (rk_o (l165_6) rfl rfl) (rk_o (l165_7) rfl rfl) (rk_o (l165_8) rfl rfl) (rk_o (l165_9) rfl rfl) (rk_s) H (hS_165) (SA_upd (hA_165) rfl)  (upd1 (w165_41) (x165_13) (v18)) (congrArg (fun q => upd1 q (x165_13) (v18)) (ew165_41)) (show inr ((x165_13 + 1)) from q_1314 b5 h7 j165_1) (show (0) ≤ ((x165_13 + 1)) from q_14 j165_1) (show ((x165_13 + 1)) ≤ (0) ∨ ((x165_13 + 1)) ≤ ((a3)) from q_13 b5) (show ∀ i, 0 ≤ i → i < ((x165_13 + 1)) → ((upd1 (w165_41) (x165_13) (v18))) i = mass ((sh ((w33)) ((a2))) i) by assumption) rfl
                  · refine Ew_of (pcₚ := 188) (fun _ => x_iconst rfl) ?_
                    refine Ew_of (pcₚ := 197) (fun _ => x_goto rfl rfl) ?_
                    refine w_sI H (o := 41) (n := 256) rfl (H.perm 41 rfl) rfl rfl (H.fix 41 rfl rfl) (show 0 ≤ x165_13 ∧ x165_13 < ((256 : Nat) : Int) from q_1313 b5 h5 h7 j165_1) (by decide) (show (0 : Int) ≤ 1 ∧ 1 ≤ 4096 from q_1315) (fun σ H => ?_)
                    refine Ew_of (pcₚ := 201) (fun _ => x_iinc (len := 3) rfl (l165_13)) ?_
                    refine Ew_of (pcₚ := 165) (fun _ => x_goto rfl rfl) ?_
                    have : ∀ i, 0 ≤ i → i < ((x165_13 + 1)) → ((upd1 (w165_41) (x165_13) (1))) i = mass ((sh ((w33)) ((a2))) i) := pt_upd j165_3 (by have h := hma; first | omega | (show _ = mass ((w33) _); omega))
                    exact ih165 _ (msE hm165 q_16 (q_17 b5)) _ σ _ _ ((x165_13 + 1)) (rk_o (l165_0) rfl rfl) (rk_o (l165_1) rfl rfl) (rk_o (l165_2) rfl rfl) (rk_o (l165_3) rfl rfl) (rk_o (l165_4) rfl rfl) (rk_o (l165_5) rfl rfl) (rk_o (l165_6) rfl rfl) (rk_o (l165_7) rfl rfl) (rk_o (l165_8) rfl rfl) (rk_o (l165_9) rfl rfl) (rk_s) H (hS_165) (SA_upd (hA_165) rfl)  (upd1 (w165_41) (x165_13) (1)) (congrArg (fun q => upd1 q (x165_13) (1)) (ew165_41)) (show inr ((x165_13 + 1)) from q_1314 b5 h7 j165_1) (show (0) ≤ ((x165_13 + 1)) from q_14 j165_1) (show ((x165_13 + 1)) ≤ (0) ∨ ((x165_13 + 1)) ≤ ((a3)) from q_13 b5) (show ∀ i, 0 ≤ i → i < ((x165_13 + 1)) → ((upd1 (w165_41) (x165_13) (1))) i = mass ((sh ((w33)) ((a2))) i) by assumption) rfl
            · have hpo := posi_eq ((sh ((w33)) ((a2))) ((x96_13)))
              have hcs := cum_s (P := sh ((w33)) ((a2))) (s := (x96_13)) (by omega)
              have hcm2 := cum_mono (P := sh ((w33)) ((a2))) (s := (x96_13) + 1) (t := (a3)) (by omega) (by omega)
              have hpe : (sh ((w33)) ((a2))) ((x96_13)) = ((w33)) ((a2) + (x96_13)) := rfl
              have hle := SH_le ((x96_13)) hsh (by omega) (by omega)
              have hPT0 : PT (sh ((w33)) ((a2))) (a3) (a4) (sh ((w96_35)) ((a8))) ((x96_12)) (cum (sh ((w33)) ((a2))) ((x96_13)) + 0) := by rw [Int.add_zero]; assumption
              refine Ew_of (pcₚ := 103) (fun _ => x_iconst rfl) ?_
              refine Ew_of (pcₚ := 105) (fun _ => x_istore rfl) ?_
              suffices hl105 : ∀ (m : Nat), ∀ (ls : rO) (σ : rS) (F_105 : hF) (A_105 : hA) (x105_12 : Int) (x105_14 : Int), rlook ls 0 = some (.ref (D 5)) → rlook ls 1 = some (.ref (D 33)) → rlook ls 2 = some (I (a2)) → rlook ls 3 = some (I (a3)) → rlook ls 4 = some (I (a4)) → rlook ls 5 = some (.ref (D 35)) → rlook ls 6 = some (.ref (D 36)) → rlook ls 7 = some (.ref (D 37)) → rlook ls 8 = some (I (a8)) → rlook ls 9 = some (I (p2 (a4))) → rlook ls 11 = some (I ((((p2 (a4) / 2) + (p2 (a4) / 8)) + 3))) → rlook ls 12 = some (I (x105_12)) → rlook ls 13 = some (I (x96_13)) → rlook ls 14 = some (I (x105_14)) → HS σ0 σ D N F_105 A_105 → SF [] F_96 F_105 → SA [35] A_96 A_105 → ∀ w105_35 : Int → Int, A_105 35 = w105_35 → (inr (x105_12)) → (inr (x105_14)) → (0 ≤ (x105_14) ∧ (x105_14) ≤ posi ((sh ((w33)) ((a2))) ((x96_13)))) → (PT (sh ((w33)) ((a2))) (a3) (a4) (sh ((w105_35)) ((a8))) ((x105_12)) (cum (sh ((w33)) ((a2))) ((x96_13)) + (x105_14))) → (CB (sh ((w33)) ((a2))) (a3) (a4) (sh ((w105_35)) ((a8))) ((x96_13)) ((x105_14))) → (FRM ((w35)) ((w105_35)) (a8) ((a8) + p2 ((a4)))) → (((w33)) ((a2) + (x96_13)) - (x105_14)).toNat = m → Ew 262 (d + 1) 105 ls [] σ c s Q from
                hl105 _ _ σ _ _ (x96_12) (0) (rk_o (l96_0) rfl rfl) (rk_o (l96_1) rfl rfl) (rk_o (l96_2) rfl rfl) (rk_o (l96_3) rfl rfl) (rk_o (l96_4) rfl rfl) (rk_o (l96_5) rfl rfl) (rk_o (l96_6) rfl rfl) (rk_o (l96_7) rfl rfl) (rk_o (l96_8) rfl rfl) (rk_o (l96_9) rfl rfl) (rk_o (l96_11) rfl rfl) (rk_o (l96_12) rfl rfl) (rk_o (l96_13) rfl rfl) (rk_s) H (SF_refl) (SA_refl)  (w96_35) (ew96_35) (show inr (x96_12) from j96_0) (show inr (0) from q_2) (show 0 ≤ (0) ∧ (0) ≤ posi ((sh ((w33)) ((a2))) ((x96_13))) by omega) (hPT0) (j96_5) (j96_6) rfl
              as_aux_lemma =>
              intro m
              induction m using Nat.strongRecOn with
              | _ m ih105 =>
                intro ls σ F_105 A_105 x105_12 x105_14 l105_0 l105_1 l105_2 l105_3 l105_4 l105_5 l105_6 l105_7 l105_8 l105_9 l105_11 l105_12 l105_13 l105_14 H hS_105 hA_105  w105_35 ew105_35 j105_0 j105_1 j105_2 j105_3 j105_4 j105_5 hm105
                refine Ew_of (pcₚ := 107) (fun _ => x_iload rfl l105_14) ?_
                refine Ew_of (pcₚ := 108) (fun _ => x_aload_n rfl l105_1) ?_
                refine Ew_of (pcₚ := 109) (fun _ => x_iload_n rfl l105_2) ?_
                refine Ew_of (pcₚ := 111) (fun _ => x_iload rfl l105_13) ?_
                refine w_iadd rfl ?_
                refine w_lI H (o := 33) (n := 192) rfl (H.perm 33 rfl) rfl rfl (H.fix 33 rfl rfl) (show 0 ≤ (a2 + x96_13) ∧ (a2 + x96_13) < ((192 : Nat) : Int) from q_1311 b4 h5 j96_2) (by decide) (fun v19 ev19 qv19 => ?_)
                have qv19 : (-1 : Int) ≤ v19 ∧ v19 ≤ 512 := qv19
                have ev19 : (w33) ((a2 + x96_13)) = v19 := (congrFun ((funext (hA_105 33 rfl)).trans ((funext (hA_96 33 rfl)).trans ((funext (hA_38 33 rfl)).trans ((funext (hA_9 33 rfl)).trans (ew33))))) ((a2 + x96_13))).symm.trans ev19
                refine w_icmpge (t := 156) rfl rfl (show inr (x105_14) from j105_1) (show inr (v19) from q_1312 qv19) (fun b20 => ?_) (fun b20 => ?_)
                · have hk0 : (x105_14) = posi ((sh ((w33)) ((a2))) ((x96_13))) := by omega
                  have hptn : PT (sh ((w33)) ((a2))) (a3) (a4) (sh ((w105_35)) ((a8))) ((x105_12)) (cum (sh ((w33)) ((a2))) ((x96_13) + 1)) := by rw [hcs, ← hk0]; assumption
                  have hcbn : CB (sh ((w33)) ((a2))) (a3) (a4) (sh ((w105_35)) ((a8))) ((x96_13) + 1) 0 := CB_next (by assumption) rfl hk0
                  refine Ew_of (pcₚ := 159) (fun _ => x_iinc (len := 3) rfl (l105_13)) ?_
                  refine Ew_of (pcₚ := 96) (fun _ => x_goto rfl rfl) ?_
                  exact ih96 _ (msE hm96 q_16 (q_17 b4)) _ σ _ _ (x105_12) ((x96_13 + 1)) (rk_o (l105_0) rfl rfl) (rk_o (l105_1) rfl rfl) (rk_o (l105_2) rfl rfl) (rk_o (l105_3) rfl rfl) (rk_o (l105_4) rfl rfl) (rk_o (l105_5) rfl rfl) (rk_o (l105_6) rfl rfl) (rk_o (l105_7) rfl rfl) (rk_o (l105_8) rfl rfl) (rk_o (l105_9) rfl rfl) (rk_o (l105_11) rfl rfl) (rk_o (l105_12) rfl rfl) (rk_s) H (SF_trans (hS_96) hS_105 (any_sub rfl)) (SA_trans (hA_96) hA_105 (any_subA rfl))  (w105_35) (ew105_35) (show inr (x105_12) from j105_0) (show inr ((x96_13 + 1)) from q_1314 b4 h7 j96_2) (show (0) ≤ ((x96_13 + 1)) from q_14 j96_2) (show ((x96_13 + 1)) ≤ (0) ∨ ((x96_13 + 1)) ≤ ((a3)) from q_13 b4) (hptn) (hcbn) (j105_5) rfl
                · obtain ⟨m0, hm0⟩ := PTI_of (j105_3)
                  suffices hl116 : ∀ (m : Nat), ∀ (ls : rO) (σ : rS) (F_116 : hF) (A_116 : hA) (x116_12 : Int), rlook ls 0 = some (.ref (D 5)) → rlook ls 1 = some (.ref (D 33)) → rlook ls 2 = some (I (a2)) → rlook ls 3 = some (I (a3)) → rlook ls 4 = some (I (a4)) → rlook ls 5 = some (.ref (D 35)) → rlook ls 6 = some (.ref (D 36)) → rlook ls 7 = some (.ref (D 37)) → rlook ls 8 = some (I (a8)) → rlook ls 9 = some (I (p2 (a4))) → rlook ls 11 = some (I ((((p2 (a4) / 2) + (p2 (a4) / 8)) + 3))) → rlook ls 12 = some (I (x116_12)) → rlook ls 13 = some (I (x96_13)) → rlook ls 14 = some (I (x105_14)) → HS σ0 σ D N F_116 A_116 → SF [] F_105 F_116 → SA [] A_105 A_116 → (inr (x116_12)) → (PTI (sh ((w33)) ((a2))) (a3) (a4) (sh ((w105_35)) ((a8))) ((x116_12)) (cum (sh ((w33)) ((a2))) ((x96_13)) + (x105_14)) (p2 ((a4)) - m)) → Ew 262 (d + 1) 116 ls [] σ c s Q from
                    hl116 (m0) _ σ _ _ (x105_12) (l105_0) (l105_1) (l105_2) (l105_3) (l105_4) (l105_5) (l105_6) (l105_7) (l105_8) (l105_9) (l105_11) (l105_12) (l105_13) (l105_14) H (SF_refl) (SA_refl)   (show inr (x105_12) from j105_0) (by assumption)
                  as_aux_lemma =>
                  intro m
                  induction m using Nat.strongRecOn with
                  | _ m ih116 =>
                    intro ls σ F_116 A_116 x116_12 l116_0 l116_1 l116_2 l116_3 l116_4 l116_5 l116_6 l116_7 l116_8 l116_9 l116_11 l116_12 l116_13 l116_14 H hS_116 hA_116   j116_0 hm116
                    have hrg := PTI_rng (hm116)
                    have hse : (sh ((w105_35)) ((a8))) ((x116_12)) = ((w105_35)) ((a8) + (x116_12)) := rfl
                    refine Ew_of (pcₚ := 118) (fun _ => x_aload rfl l116_5) ?_
                    refine Ew_of (pcₚ := 120) (fun _ => x_iload rfl l116_8) ?_
                    refine Ew_of (pcₚ := 122) (fun _ => x_iload rfl l116_12) ?_
                    refine w_iadd rfl ?_
                    refine w_lI H (o := 35) (n := 1536) rfl (H.perm 35 rfl) rfl rfl (H.fix 35 rfl rfl) (show 0 ≤ (a8 + x116_12) ∧ (a8 + x116_12) < ((1536 : Nat) : Int) by omega) (by decide) (fun v21 ev21 qv21 => ?_)
                    have qv21 : (-1 : Int) ≤ v21 ∧ v21 ≤ 63 := qv21
                    have ev21 : (w105_35) ((a8 + x116_12)) = v21 := (congrFun ((funext (hA_116 35 rfl)).trans (ew105_35)) ((a8 + x116_12))).symm.trans ev21
                    refine w_iflt (t := 140) rfl rfl (show inr (v21) from q_1316 qv21) (fun b22 => ?_) (fun b22 => ?_)
                    · have : FRM ((w35)) (upd1 ((w105_35)) ((a8) + (x116_12)) ((x96_13))) (a8) ((a8) + p2 ((a4))) := FRM_upd (by assumption) (by omega) (by omega)
                      have hpt := PTI_PT (hm116)
                      have hfr := PT_free h59 hpt (by omega)
                      have hpt2 : PT (sh ((w33)) ((a2))) (a3) (a4) (sh (upd1 ((w105_35)) ((a8) + (x116_12)) ((x96_13))) ((a8))) ((x116_12)) (cum (sh ((w33)) ((a2))) ((x96_13)) + ((x105_14) + 1)) := by rw [sh_upd, ← Int.add_assoc]; exact PT_put h59 hpt (by omega) (by omega) (by omega) (by omega) (by omega)
                      have hcb2 : CB (sh ((w33)) ((a2))) (a3) (a4) (sh (upd1 ((w105_35)) ((a8) + (x116_12)) ((x96_13))) ((a8))) ((x96_13)) ((x105_14) + 1) := by rw [sh_upd]; exact CB_put (by assumption) rfl (by omega) (by omega) (by omega) hfr
                      refine Ew_of (pcₚ := 142) (fun _ => x_aload rfl l116_5) ?_
                      refine Ew_of (pcₚ := 144) (fun _ => x_iload rfl l116_8) ?_
                      refine Ew_of (pcₚ := 146) (fun _ => x_iload rfl l116_12) ?_
                      refine w_iadd rfl ?_
                      refine Ew_of (pcₚ := 149) (fun _ => x_iload rfl l116_13) ?_
                      refine w_sI H (o := 35) (n := 1536) rfl (H.perm 35 rfl) rfl rfl (H.fix 35 rfl rfl) (show 0 ≤ (a8 + x116_12) ∧ (a8 + x116_12) < ((1536 : Nat) : Int) by omega) (by decide) (show (-1 : Int) ≤ x96_13 ∧ x96_13 ≤ 63 from q_1317 b4 h5 j96_2) (fun σ H => ?_)
                      refine Ew_of (pcₚ := 153) (fun _ => x_iinc (len := 3) rfl (l116_14)) ?_
                      refine Ew_of (pcₚ := 105) (fun _ => x_goto rfl rfl) ?_
                      exact ih105 _ (msE hm105 q_16 (q_194 b20 ev19)) _ σ _ _ (x116_12) ((x105_14 + 1)) (rk_o (l116_0) rfl rfl) (rk_o (l116_1) rfl rfl) (rk_o (l116_2) rfl rfl) (rk_o (l116_3) rfl rfl) (rk_o (l116_4) rfl rfl) (rk_o (l116_5) rfl rfl) (rk_o (l116_6) rfl rfl) (rk_o (l116_7) rfl rfl) (rk_o (l116_8) rfl rfl) (rk_o (l116_9) rfl rfl) (rk_o (l116_11) rfl rfl) (rk_o (l116_12) rfl rfl) (rk_o (l116_13) rfl rfl) (rk_s) H (SF_trans (hS_105) hS_116 (any_sub rfl)) (SA_upd (SA_trans (hA_105) hA_116 (any_subA rfl)) rfl)  (upd1 (w105_35) ((a8 + x116_12)) (x96_13)) (congrArg (fun q => upd1 q ((a8 + x116_12)) (x96_13)) ((funext (hA_116 35 rfl)).trans (ew105_35))) (show inr (x116_12) from j116_0) (show inr ((x105_14 + 1)) from q_1318 b20 j105_2 qv19) (show 0 ≤ ((x105_14 + 1)) ∧ ((x105_14 + 1)) ≤ posi ((sh ((w33)) ((a2))) ((x96_13))) by omega) (hpt2) (hcb2) (show FRM ((w35)) ((upd1 (w105_35) ((a8 + x116_12)) (x96_13))) (a8) ((a8) + p2 ((a4))) by assumption) rfl
                    · refine Ew_of (pcₚ := 129) (fun _ => x_iload rfl l116_12) ?_
                      refine Ew_of (pcₚ := 131) (fun _ => x_iload rfl l116_11) ?_
                      refine w_iadd rfl ?_
                      refine Ew_of (pcₚ := 134) (fun _ => x_iload rfl l116_9) ?_
                      refine w_irem rfl (show inr ((x116_12 + (((p2 (a4) / 2) + (p2 (a4) / 8)) + 3))) ∧ 0 ≤ (x116_12 + (((p2 (a4) / 2) + (p2 (a4) / 8)) + 3)) by omega) (show inr (p2 (a4)) ∧ 0 < p2 (a4) by omega) ?_
                      refine Ew_of (pcₚ := 137) (fun _ => x_istore rfl) ?_
                      refine Ew_of (pcₚ := 116) (fun _ => x_goto rfl rfl) ?_
                      have hfm := PTI_next (pₚ := (((x116_12 + (((p2 (a4) / 2) + (p2 (a4) / 8)) + 3)) % p2 (a4)))) h59 (by omega) (show PTI (sh ((w33)) ((a2))) (a3) (a4) (sh ((w105_35)) ((a8))) _ (cum (sh ((w33)) ((a2))) ((x96_13)) + (x105_14)) (p2 ((a4)) - m) from by assumption) (by omega) (by omega) (by first | rfl | (congr 1; omega))
                      have := hfm.1
                      have := hfm.2
                      have hrg2 := PTI_rng hfm.2
                      exact ih116 (m - 1) (by omega) _ σ _ _ (((x116_12 + (((p2 (a4) / 2) + (p2 (a4) / 8)) + 3)) % p2 (a4))) (rk_o (l116_0) rfl rfl) (rk_o (l116_1) rfl rfl) (rk_o (l116_2) rfl rfl) (rk_o (l116_3) rfl rfl) (rk_o (l116_4) rfl rfl) (rk_o (l116_5) rfl rfl) (rk_o (l116_6) rfl rfl) (rk_o (l116_7) rfl rfl) (rk_o (l116_8) rfl rfl) (rk_o (l116_9) rfl rfl) (rk_o (l116_11) rfl rfl) (rk_s) (rk_o (l116_13) rfl rfl) (rk_o (l116_14) rfl rfl) H (hS_116) (hA_116)   (show inr (((x116_12 + (((p2 (a4) / 2) + (p2 (a4) / 8)) + 3)) % p2 (a4))) by omega) (by assumption)
        · have hle := SH_le ((x38_11)) hsh (by omega) (by omega)
          have hns := ngs_s (P := sh ((w33)) ((a2))) (s := (x38_11)) (by omega)
          have hne := neg1_eq ((sh ((w33)) ((a2))) ((x38_11)))
          have hpe : (sh ((w33)) ((a2))) ((x38_11)) = ((w33)) ((a2) + (x38_11)) := rfl
          have hnm := ngs_mono (P := sh ((w33)) ((a2))) (s := (x38_11) + 1) (t := (a3)) (by omega) (by omega)
          have j38_n : ∀ s, 0 ≤ s → s < (x38_11) → (sh ((w33)) ((a2))) s < 0 → (sh ((w38_35)) ((a8))) (p2 ((a4)) - 1 - ngs (sh ((w33)) ((a2))) s) = s := by assumption
          have j38_m : ∀ k, 0 ≤ k → k < (x38_10) → (sh ((w38_35)) ((a8))) k = -1 := by assumption
          have j38_c : CA (sh ((w33)) ((a2))) (a3) (a4) (sh ((w38_35)) ((a8))) ((x38_11)) := j38_8
          refine Ew_of (pcₚ := 45) (fun _ => x_aload_n rfl l38_1) ?_
          refine Ew_of (pcₚ := 46) (fun _ => x_iload_n rfl l38_2) ?_
          refine Ew_of (pcₚ := 48) (fun _ => x_iload rfl l38_11) ?_
          refine w_iadd rfl ?_
          refine w_lI H (o := 33) (n := 192) rfl (H.perm 33 rfl) rfl rfl (H.fix 33 rfl rfl) (show 0 ≤ (a2 + x38_11) ∧ (a2 + x38_11) < ((192 : Nat) : Int) from q_1311 b3 h5 j38_2) (by decide) (fun v23 ev23 qv23 => ?_)
          have qv23 : (-1 : Int) ≤ v23 ∧ v23 ≤ 512 := qv23
          have ev23 : (w33) ((a2 + x38_11)) = v23 := (congrFun ((funext (hA_38 33 rfl)).trans ((funext (hA_9 33 rfl)).trans (ew33))) ((a2 + x38_11))).symm.trans ev23
          refine Ew_of (pcₚ := 51) (fun _ => x_iconst rfl) ?_
          refine w_icmpeq (t := 57) rfl rfl (show inr (v23) from q_1312 qv23) (show inr ((-1)) from q_63) (fun b24 => ?_) (fun b24 => ?_)
          · refine Ew_of (pcₚ := 60) (fun _ => x_iinc (len := 3) rfl (l38_10)) ?_
            have : FRM ((w35)) (upd1 ((w38_35)) ((a8) + ((x38_10 + (-1)))) ((x38_11))) (a8) ((a8) + p2 ((a4))) := FRM_upd (by assumption) (by omega) (by omega)
            have hpp : (sh ((w38_35)) ((a8))) (((x38_10 + (-1)))) = -1 := j38_m (((x38_10 + (-1)))) (by omega) (by omega)
            have hlt : (sh ((w33)) ((a2))) ((x38_11)) < 0 := q_1319 b24 ev23 hpe
            have hc2 : CA (sh ((w33)) ((a2))) (a3) (a4) (sh (upd1 ((w38_35)) ((a8) + ((x38_10 + (-1)))) ((x38_11))) ((a8))) ((x38_11) + 1) := by rw [sh_upd]; exact CA_neg j38_c rfl hlt (by omega) (by omega) hpp
            have hn2 : ∀ s, 0 ≤ s → s < (x38_11) + 1 → (sh ((w33)) ((a2))) s < 0 → (sh (upd1 ((w38_35)) ((a8) + ((x38_10 + (-1)))) ((x38_11))) ((a8))) (p2 ((a4)) - 1 - ngs (sh ((w33)) ((a2))) s) = s := fun s a b c => by rw [sh_upd]; by_cases e : s = (x38_11); (rw [e, show p2 ((a4)) - 1 - ngs (sh ((w33)) ((a2))) ((x38_11)) = ((x38_10 + (-1))) by omega, upd1_s]); (have hm := ngs_mono (P := sh ((w33)) ((a2))) (s := s + 1) (t := (x38_11)) (by omega) (by omega); have hs := ngs_s (P := sh ((w33)) ((a2))) (s := s) (by omega); have hq := neg1_eq ((sh ((w33)) ((a2))) s); rw [upd1_o (by omega)]; exact j38_n s a (by omega) c)
            have hm2 : ∀ k, 0 ≤ k → k < ((x38_10 + (-1))) → (sh (upd1 ((w38_35)) ((a8) + ((x38_10 + (-1)))) ((x38_11))) ((a8))) k = -1 := fun k a b => by rw [sh_upd, upd1_o (by omega)]; exact j38_m k a (by omega)
            refine Ew_of (pcₚ := 62) (fun _ => x_aload rfl (rk_o (l38_5) rfl rfl)) ?_
            refine Ew_of (pcₚ := 64) (fun _ => x_iload rfl (rk_o (l38_8) rfl rfl)) ?_
            refine Ew_of (pcₚ := 66) (fun _ => x_iload rfl rk_s) ?_
            refine w_iadd rfl ?_
            refine Ew_of (pcₚ := 69) (fun _ => x_iload rfl (rk_o (l38_11) rfl rfl)) ?_
            refine w_sI H (o := 35) (n := 1536) rfl (H.perm 35 rfl) rfl rfl (H.fix 35 rfl rfl) (show 0 ≤ (a8 + (x38_10 + (-1))) ∧ (a8 + (x38_10 + (-1))) < ((1536 : Nat) : Int) by omega) (by decide) (show (-1 : Int) ≤ x38_11 ∧ x38_11 ≤ 63 from q_1317 b3 h5 j38_2) (fun σ H => ?_)
            refine Ew_of (pcₚ := 73) (fun _ => x_iinc (len := 3) rfl (rk_o (l38_11) rfl rfl)) ?_
            refine Ew_of (pcₚ := 38) (fun _ => x_goto rfl rfl) ?_
            have : CA (sh ((w33)) ((a2))) (a3) (a4) (sh ((upd1 (w38_35) ((a8 + (x38_10 + (-1)))) (x38_11))) ((a8))) (((x38_11 + 1))) := by first | assumption | exact CA_skip j38_c rfl (by omega)
            have : ∀ s, 0 ≤ s → s < ((x38_11 + 1)) → (sh ((w33)) ((a2))) s < 0 → (sh ((upd1 (w38_35) ((a8 + (x38_10 + (-1)))) (x38_11))) ((a8))) (p2 ((a4)) - 1 - ngs (sh ((w33)) ((a2))) s) = s := by first | assumption | exact (fun s a b c => by by_cases e : s = ((x38_11 + 1)) - 1; (rw [e] at c; rw [show ((x38_11 + 1)) - 1 = x38_11 by omega] at c; omega); exact j38_n s a (by omega) c)
            have : ∀ k, 0 ≤ k → k < ((x38_10 + (-1))) → (sh ((upd1 (w38_35) ((a8 + (x38_10 + (-1)))) (x38_11))) ((a8))) k = -1 := by assumption
            exact ih38 _ (msE hm38 q_16 (q_17 b3)) _ σ _ _ ((x38_10 + (-1))) ((x38_11 + 1)) (rk_o (rk_o (l38_0) rfl rfl) rfl rfl) (rk_o (rk_o (l38_1) rfl rfl) rfl rfl) (rk_o (rk_o (l38_2) rfl rfl) rfl rfl) (rk_o (rk_o (l38_3) rfl rfl) rfl rfl) (rk_o (rk_o (l38_4) rfl rfl) rfl rfl) (rk_o (rk_o (l38_5) rfl rfl) rfl rfl) (rk_o (rk_o (l38_6) rfl rfl) rfl rfl) (rk_o (rk_o (l38_7) rfl rfl) rfl rfl) (rk_o (rk_o (l38_8) rfl rfl) rfl rfl) (rk_o (rk_o (l38_9) rfl rfl) rfl rfl) (rk_o (rk_s) rfl rfl) (rk_s) H (hS_38) (SA_upd (hA_38) rfl)  (upd1 (w38_35) ((a8 + (x38_10 + (-1)))) (x38_11)) (congrArg (fun q => upd1 q ((a8 + (x38_10 + (-1)))) (x38_11)) (ew38_35)) (show inr ((x38_10 + (-1))) from q_1320 j38_0 j38_5) (show inr ((x38_11 + 1)) from q_1314 b3 h7 j38_2) (show (0) ≤ ((x38_11 + 1)) from q_14 j38_2) (show ((x38_11 + 1)) ≤ (0) ∨ ((x38_11 + 1)) ≤ ((a3)) from q_13 b3) (show ((x38_10 + (-1))) = p2 ((a4)) - ngs (sh ((w33)) ((a2))) (((x38_11 + 1))) by omega) (show 0 ≤ ((x38_10 + (-1))) ∧ ((x38_10 + (-1))) ≤ p2 ((a4)) by omega) (hn2) (hm2) (hc2) (show FRM ((w35)) ((upd1 (w38_35) ((a8 + (x38_10 + (-1)))) (x38_11))) (a8) ((a8) + p2 ((a4))) by assumption) rfl
          · refine Ew_of (pcₚ := 70) (fun _ => x_goto rfl rfl) ?_
            refine Ew_of (pcₚ := 73) (fun _ => x_iinc (len := 3) rfl (l38_11)) ?_
            refine Ew_of (pcₚ := 38) (fun _ => x_goto rfl rfl) ?_
            have : CA (sh ((w33)) ((a2))) (a3) (a4) (sh ((w38_35)) ((a8))) (((x38_11 + 1))) := by first | assumption | exact CA_skip j38_c rfl (by omega)
            have : ∀ s, 0 ≤ s → s < ((x38_11 + 1)) → (sh ((w33)) ((a2))) s < 0 → (sh ((w38_35)) ((a8))) (p2 ((a4)) - 1 - ngs (sh ((w33)) ((a2))) s) = s := by first | assumption | exact (fun s a b c => by by_cases e : s = ((x38_11 + 1)) - 1; (rw [e] at c; rw [show ((x38_11 + 1)) - 1 = x38_11 by omega] at c; omega); exact j38_n s a (by omega) c)
            have : ∀ k, 0 ≤ k → k < (x38_10) → (sh ((w38_35)) ((a8))) k = -1 := by assumption
            exact ih38 _ (msE hm38 q_16 (q_17 b3)) _ σ _ _ (x38_10) ((x38_11 + 1)) (rk_o (l38_0) rfl rfl) (rk_o (l38_1) rfl rfl) (rk_o (l38_2) rfl rfl) (rk_o (l38_3) rfl rfl) (rk_o (l38_4) rfl rfl) (rk_o (l38_5) rfl rfl) (rk_o (l38_6) rfl rfl) (rk_o (l38_7) rfl rfl) (rk_o (l38_8) rfl rfl) (rk_o (l38_9) rfl rfl) (rk_o (l38_10) rfl rfl) (rk_s) H (hS_38) (hA_38)  (w38_35) (ew38_35) (show inr (x38_10) from j38_0) (show inr ((x38_11 + 1)) from q_1314 b3 h7 j38_2) (show (0) ≤ ((x38_11 + 1)) from q_14 j38_2) (show ((x38_11 + 1)) ≤ (0) ∨ ((x38_11 + 1)) ≤ ((a3)) from q_13 b3) (show (x38_10) = p2 ((a4)) - ngs (sh ((w33)) ((a2))) (((x38_11 + 1))) by omega) (show 0 ≤ (x38_10) ∧ (x38_10) ≤ p2 ((a4)) from j38_5) (show ∀ s, 0 ≤ s → s < ((x38_11 + 1)) → (sh ((w33)) ((a2))) s < 0 → (sh ((w38_35)) ((a8))) (p2 ((a4)) - 1 - ngs (sh ((w33)) ((a2))) s) = s by assumption) (j38_m) (show CA (sh ((w33)) ((a2))) (a3) (a4) (sh ((w38_35)) ((a8))) (((x38_11 + 1))) by assumption) (j38_9) rfl
    · have : FRM ((w35)) (upd1 ((w9_35)) ((a8) + (x9_10)) (-1)) (a8) ((a8) + p2 ((a4))) := FRM_upd (by assumption) (by omega) (by omega)
      refine Ew_of (pcₚ := 18) (fun _ => x_aload rfl l9_5) ?_
      refine Ew_of (pcₚ := 20) (fun _ => x_iload rfl l9_8) ?_
      refine Ew_of (pcₚ := 22) (fun _ => x_iload rfl l9_10) ?_
      refine w_iadd rfl ?_
      refine Ew_of (pcₚ := 24) (fun _ => x_iconst rfl) ?_
      refine w_sI H (o := 35) (n := 1536) rfl (H.perm 35 rfl) rfl rfl (H.fix 35 rfl rfl) (show 0 ≤ (a8 + x9_10) ∧ (a8 + x9_10) < ((1536 : Nat) : Int) from q_1307 b2 h6 j9_1) (by decide) (show (-1 : Int) ≤ (-1) ∧ (-1) ≤ 63 from q_1321) (fun σ H => ?_)
      refine Ew_of (pcₚ := 28) (fun _ => x_iinc (len := 3) rfl (l9_10)) ?_
      refine Ew_of (pcₚ := 9) (fun _ => x_goto rfl rfl) ?_
      have : ∀ k, 0 ≤ k → k < ((x9_10 + 1)) → ((upd1 (w9_35) ((a8 + x9_10)) ((-1)))) ((a8) + k) = -1 := fill_upd j9_3
      exact ih9 _ (msE hm9 q_16 (q_17 b2)) _ σ _ _ ((x9_10 + 1)) (rk_o (l9_0) rfl rfl) (rk_o (l9_1) rfl rfl) (rk_o (l9_2) rfl rfl) (rk_o (l9_3) rfl rfl) (rk_o (l9_4) rfl rfl) (rk_o (l9_5) rfl rfl) (rk_o (l9_6) rfl rfl) (rk_o (l9_7) rfl rfl) (rk_o (l9_8) rfl rfl) (rk_o (l9_9) rfl rfl) (rk_s) H (hS_9) (SA_upd (hA_9) rfl)  (upd1 (w9_35) ((a8 + x9_10)) ((-1))) (congrArg (fun q => upd1 q ((a8 + x9_10)) ((-1))) (ew9_35)) (show inr ((x9_10 + 1)) from q_1310 b2 h6 j9_1) (show (0) ≤ ((x9_10 + 1)) from q_14 j9_1) (show ((x9_10 + 1)) ≤ (0) ∨ ((x9_10 + 1)) ≤ ((p2 (a4))) from q_13 b2) (show ∀ k, 0 ≤ k → k < ((x9_10 + 1)) → ((upd1 (w9_35) ((a8 + x9_10)) ((-1)))) ((a8) + k) = -1 by assumption) (show FRM ((w35)) ((upd1 (w9_35) ((a8 + x9_10)) ((-1)))) (a8) ((a8) + p2 ((a4))) by assumption) rfl

theorem M262_39_42_43_44 {σ0 σ : rS} {D N : Nat → Nat} {F : hF} {A : hA} {d c s : Nat} {Q : wQ} (H : HS σ0 σ D N F A) {a2 a3 a4 a8 : Int} (w39 : Int → Int) (ew39 : A 39 = w39) (w42 : Int → Int) (ew42 : A 42 = w42) (w43 : Int → Int) (ew43 : A 43 = w43) (w44 : Int → Int) (ew44 : A 44 = w44) (lst : Int) (h0 : inr (a2)) (h1 : inr (a3)) (h2 : inr (a4)) (h3 : inr (a8)) (h4 : SH ((w39)) (a2) (a3) (a4) lst) (h5 : 0 ≤ (a2) ∧ 1 ≤ (a3) ∧ (a3) ≤ 64 ∧ (a2) + (a3) ≤ 256) (h6 : 0 ≤ (a8) ∧ (a8) + p2 ((a4)) ≤ 64) (h7 : (a3) * 5 ≤ 64) (k : ∀ σ Fₚ Aₚ, HS σ0 σ D N Fₚ Aₚ → SF [] F Fₚ → SA [41, 42, 43, 44] A Aₚ → ∀ v42 : Int → Int, Aₚ 42 = v42 → ∀ v43 : Int → Int, Aₚ 43 = v43 → ∀ v44 : Int → Int, Aₚ 44 = v44 → (TI ((v42)) ((v43)) ((v44)) (a8) (a4) lst) → (FRM ((w42)) ((v42)) (a8) ((a8) + p2 ((a4)))) → (FRM ((w43)) ((v43)) (a8) ((a8) + p2 ((a4)))) → (FRM ((w44)) ((v44)) (a8) ((a8) + p2 ((a4)))) → (LD (sh ((w39)) ((a2))) (a3) (a4) (sh ((v42)) ((a8))) (sh ((v43)) ((a8))) (sh ((v44)) ((a8)))) → Q none σ c s) : Ew 262 (d + 1) 0 (rargs 0 [.ref (D 5), .ref (D 39), I a2, I a3, I a4, .ref (D 42), .ref (D 43), .ref (D 44), I a8]) [] σ c s Q := by
  have hsh : SH ((w39)) (a2) (a3) (a4) lst := h4
  have h59 : 5 ≤ (a4) ∧ (a4) ≤ 9 := ⟨hsh.1, hsh.2.1⟩
  have hp5 := p2_5 h59
  have hng := ngs_mono (P := sh ((w39)) ((a2))) (s := 0) (t := (a3)) (by omega) (by omega)
  have hn0 : ngs (sh ((w39)) ((a2))) 0 = 0 := rfl
  have hc0 : cum (sh ((w39)) ((a2))) 0 = 0 := rfl
  have hsp : ngs (sh ((w39)) ((a2))) ((a3)) + cum (sh ((w39)) ((a2))) ((a3)) = p2 ((a4)) := SH_parts hsh
  have hcm := cum_mono (P := sh ((w39)) ((a2))) (s := 0) (t := (a3)) (by omega) (by omega)
  refine Ew_of (pcₚ := 1) (fun _ => x_iconst rfl) ?_
  refine Ew_of (pcₚ := 3) (fun _ => x_iload rfl rfl) ?_
  refine w_ishl1 rfl (show 0 ≤ a4 ∧ a4 ≤ 31 from q_1303 h59) ?_
  refine Ew_of (pcₚ := 6) (fun _ => x_istore rfl) ?_
  refine Ew_of (pcₚ := 7) (fun _ => x_iconst rfl) ?_
  refine Ew_of (pcₚ := 9) (fun _ => x_istore rfl) ?_
  have : FRM ((w42)) ((w42)) (a8) ((a8) + p2 ((a4))) := FRM_refl
  have : ∀ k, (0 : Int) ≤ k → k < 0 → ((w42)) ((a8) + k) = -1 := fun k a b => absurd b (by omega)
  suffices hl9 : ∀ (m : Nat), ∀ (ls : rO) (σ : rS) (F_9 : hF) (A_9 : hA) (x9_10 : Int), rlook ls 0 = some (.ref (D 5)) → rlook ls 1 = some (.ref (D 39)) → rlook ls 2 = some (I (a2)) → rlook ls 3 = some (I (a3)) → rlook ls 4 = some (I (a4)) → rlook ls 5 = some (.ref (D 42)) → rlook ls 6 = some (.ref (D 43)) → rlook ls 7 = some (.ref (D 44)) → rlook ls 8 = some (I (a8)) → rlook ls 9 = some (I (p2 (a4))) → rlook ls 10 = some (I (x9_10)) → HS σ0 σ D N F_9 A_9 → SF [] F F_9 → SA [42] A A_9 → ∀ w9_42 : Int → Int, A_9 42 = w9_42 → (inr (x9_10)) → ((0) ≤ (x9_10)) → ((x9_10) ≤ (0) ∨ (x9_10) ≤ ((p2 (a4)))) → (∀ k, 0 ≤ k → k < (x9_10) → ((w9_42)) ((a8) + k) = -1) → (FRM ((w42)) ((w9_42)) (a8) ((a8) + p2 ((a4)))) → (((p2 (a4))) - (x9_10)).toNat = m → Ew 262 (d + 1) 9 ls [] σ c s Q from
    hl9 _ _ σ _ _ (0) (rk_o (rk_o (rfl) rfl rfl) rfl rfl) (rk_o (rk_o (rfl) rfl rfl) rfl rfl) (rk_o (rk_o (rfl) rfl rfl) rfl rfl) (rk_o (rk_o (rfl) rfl rfl) rfl rfl) (rk_o (rk_o (rfl) rfl rfl) rfl rfl) (rk_o (rk_o (rfl) rfl rfl) rfl rfl) (rk_o (rk_o (rfl) rfl rfl) rfl rfl) (rk_o (rk_o (rfl) rfl rfl) rfl rfl) (rk_o (rk_o (rfl) rfl rfl) rfl rfl) (rk_o (rk_s) rfl rfl) (rk_s) H (SF_refl) (SA_refl)  (w42) (ew42) (show inr (0) from q_2) (show (0) ≤ (0) from q_1) (show (0) ≤ (0) ∨ (0) ≤ ((p2 (a4))) from q_5) (show ∀ k, 0 ≤ k → k < (0) → ((w42)) ((a8) + k) = -1 by assumption) (show FRM ((w42)) ((w42)) (a8) ((a8) + p2 ((a4))) by assumption) rfl
  as_aux_lemma =>
  intro m
  induction m using Nat.strongRecOn with
  | _ m ih9 =>
    intro ls σ F_9 A_9 x9_10 l9_0 l9_1 l9_2 l9_3 l9_4 l9_5 l9_6 l9_7 l9_8 l9_9 l9_10 H hS_9 hA_9  w9_42 ew9_42 j9_0 j9_1 j9_2 j9_3 j9_4 hm9
    refine Ew_of (pcₚ := 11) (fun _ => x_iload rfl l9_10) ?_
    refine Ew_of (pcₚ := 13) (fun _ => x_iload rfl l9_9) ?_
    refine w_icmpge (t := 31) rfl rfl (show inr (x9_10) from j9_0) (show inr (p2 (a4)) by omega) (fun b2 => ?_) (fun b2 => ?_)
    · have hm1 : ∀ k, 0 ≤ k → k < p2 ((a4)) → (sh ((w9_42)) ((a8))) k = -1 := fun k a b => j9_3 k a (by omega)
      have hcA : CA (sh ((w39)) ((a2))) (a3) (a4) (sh ((w9_42)) ((a8))) 0 := CA_0 hm1
      have hnf : ∀ s, 0 ≤ s → s < 0 → (sh ((w39)) ((a2))) s < 0 → (sh ((w9_42)) ((a8))) (p2 ((a4)) - 1 - ngs (sh ((w39)) ((a2))) s) = s := fun s a b => absurd b (by omega)
      refine Ew_of (pcₚ := 33) (fun _ => x_iload rfl l9_9) ?_
      refine Ew_of (pcₚ := 35) (fun _ => x_istore rfl) ?_
      refine Ew_of (pcₚ := 36) (fun _ => x_iconst rfl) ?_
      refine Ew_of (pcₚ := 38) (fun _ => x_istore rfl) ?_
      suffices hl38 : ∀ (m : Nat), ∀ (ls : rO) (σ : rS) (F_38 : hF) (A_38 : hA) (x38_10 : Int) (x38_11 : Int), rlook ls 0 = some (.ref (D 5)) → rlook ls 1 = some (.ref (D 39)) → rlook ls 2 = some (I (a2)) → rlook ls 3 = some (I (a3)) → rlook ls 4 = some (I (a4)) → rlook ls 5 = some (.ref (D 42)) → rlook ls 6 = some (.ref (D 43)) → rlook ls 7 = some (.ref (D 44)) → rlook ls 8 = some (I (a8)) → rlook ls 9 = some (I (p2 (a4))) → rlook ls 10 = some (I (x38_10)) → rlook ls 11 = some (I (x38_11)) → HS σ0 σ D N F_38 A_38 → SF [] F_9 F_38 → SA [42] A_9 A_38 → ∀ w38_42 : Int → Int, A_38 42 = w38_42 → (inr (x38_10)) → (inr (x38_11)) → ((0) ≤ (x38_11)) → ((x38_11) ≤ (0) ∨ (x38_11) ≤ ((a3))) → ((x38_10) = p2 ((a4)) - ngs (sh ((w39)) ((a2))) ((x38_11))) → (0 ≤ (x38_10) ∧ (x38_10) ≤ p2 ((a4))) → (∀ s, 0 ≤ s → s < (x38_11) → (sh ((w39)) ((a2))) s < 0 → (sh ((w38_42)) ((a8))) (p2 ((a4)) - 1 - ngs (sh ((w39)) ((a2))) s) = s) → (∀ k, 0 ≤ k → k < (x38_10) → (sh ((w38_42)) ((a8))) k = -1) → (CA (sh ((w39)) ((a2))) (a3) (a4) (sh ((w38_42)) ((a8))) ((x38_11))) → (FRM ((w42)) ((w38_42)) (a8) ((a8) + p2 ((a4)))) → (((a3)) - (x38_11)).toNat = m → Ew 262 (d + 1) 38 ls [] σ c s Q from
        hl38 _ _ σ _ _ (p2 (a4)) (0) (rk_o (rk_o (l9_0) rfl rfl) rfl rfl) (rk_o (rk_o (l9_1) rfl rfl) rfl rfl) (rk_o (rk_o (l9_2) rfl rfl) rfl rfl) (rk_o (rk_o (l9_3) rfl rfl) rfl rfl) (rk_o (rk_o (l9_4) rfl rfl) rfl rfl) (rk_o (rk_o (l9_5) rfl rfl) rfl rfl) (rk_o (rk_o (l9_6) rfl rfl) rfl rfl) (rk_o (rk_o (l9_7) rfl rfl) rfl rfl) (rk_o (rk_o (l9_8) rfl rfl) rfl rfl) (rk_o (rk_o (l9_9) rfl rfl) rfl rfl) (rk_o (rk_s) rfl rfl) (rk_s) H (SF_refl) (SA_refl)  (w9_42) (ew9_42) (show inr (p2 (a4)) by omega) (show inr (0) from q_2) (show (0) ≤ (0) from q_1) (show (0) ≤ (0) ∨ (0) ≤ ((a3)) from q_5) (show (p2 (a4)) = p2 ((a4)) - ngs (sh ((w39)) ((a2))) ((0)) from q_1304 hn0) (show 0 ≤ (p2 (a4)) ∧ (p2 (a4)) ≤ p2 ((a4)) by omega) (hnf) (hm1) (hcA) (j9_4) rfl
      as_aux_lemma =>
      intro m
      induction m using Nat.strongRecOn with
      | _ m ih38 =>
        intro ls σ F_38 A_38 x38_10 x38_11 l38_0 l38_1 l38_2 l38_3 l38_4 l38_5 l38_6 l38_7 l38_8 l38_9 l38_10 l38_11 H hS_38 hA_38  w38_42 ew38_42 j38_0 j38_1 j38_2 j38_3 j38_4 j38_5 j38_6 j38_7 j38_8 j38_9 hm38
        refine Ew_of (pcₚ := 40) (fun _ => x_iload rfl l38_11) ?_
        refine Ew_of (pcₚ := 41) (fun _ => x_iload_n rfl l38_3) ?_
        refine w_icmpge (t := 76) rfl rfl (show inr (x38_11) from j38_1) (show inr (a3) from h1) (fun b3 => ?_) (fun b3 => ?_)
        · have hne3 : ngs (sh ((w39)) ((a2))) ((x38_11)) = ngs (sh ((w39)) ((a2))) ((a3)) := by rw [show (x38_11) = (a3) by omega]
          have hPT : PT (sh ((w39)) ((a2))) (a3) (a4) (sh ((w38_42)) ((a8))) 0 (cum (sh ((w39)) ((a2))) 0) := by rw [hc0]; exact PT_start (by omega) (fun s a b c => (j38_6) s a (by omega) c) (fun k a b => (j38_7) k a (by omega))
          have hCB : CB (sh ((w39)) ((a2))) (a3) (a4) (sh ((w38_42)) ((a8))) 0 0 := CB_0 (j38_8) (by omega)
          refine Ew_of (pcₚ := 78) (fun _ => x_iload rfl l38_9) ?_
          refine Ew_of (pcₚ := 79) (fun _ => x_iconst rfl) ?_
          refine w_idiv rfl (show inr (p2 (a4)) ∧ 0 ≤ p2 (a4) from q_1322 h6 j38_5) (show inr (2) ∧ 0 < 2 from q_1234) ?_
          refine Ew_of (pcₚ := 82) (fun _ => x_iload rfl l38_9) ?_
          refine Ew_of (pcₚ := 84) (fun _ => x_bipush (z := 8) rfl (by decide)) ?_
          refine w_idiv rfl (show inr (p2 (a4)) ∧ 0 ≤ p2 (a4) from q_1322 h6 j38_5) (show inr (8) ∧ 0 < 8 from q_1054) ?_
          refine w_iadd rfl ?_
          refine Ew_of (pcₚ := 87) (fun _ => x_iconst rfl) ?_
          refine w_iadd rfl ?_
          refine Ew_of (pcₚ := 90) (fun _ => x_istore rfl) ?_
          refine Ew_of (pcₚ := 91) (fun _ => x_iconst rfl) ?_
          refine Ew_of (pcₚ := 93) (fun _ => x_istore rfl) ?_
          refine Ew_of (pcₚ := 94) (fun _ => x_iconst rfl) ?_
          refine Ew_of (pcₚ := 96) (fun _ => x_istore rfl) ?_
          suffices hl96 : ∀ (m : Nat), ∀ (ls : rO) (σ : rS) (F_96 : hF) (A_96 : hA) (x96_12 : Int) (x96_13 : Int), rlook ls 0 = some (.ref (D 5)) → rlook ls 1 = some (.ref (D 39)) → rlook ls 2 = some (I (a2)) → rlook ls 3 = some (I (a3)) → rlook ls 4 = some (I (a4)) → rlook ls 5 = some (.ref (D 42)) → rlook ls 6 = some (.ref (D 43)) → rlook ls 7 = some (.ref (D 44)) → rlook ls 8 = some (I (a8)) → rlook ls 9 = some (I (p2 (a4))) → rlook ls 11 = some (I ((((p2 (a4) / 2) + (p2 (a4) / 8)) + 3))) → rlook ls 12 = some (I (x96_12)) → rlook ls 13 = some (I (x96_13)) → HS σ0 σ D N F_96 A_96 → SF [] F_38 F_96 → SA [42] A_38 A_96 → ∀ w96_42 : Int → Int, A_96 42 = w96_42 → (inr (x96_12)) → (inr (x96_13)) → ((0) ≤ (x96_13)) → ((x96_13) ≤ (0) ∨ (x96_13) ≤ ((a3))) → (PT (sh ((w39)) ((a2))) (a3) (a4) (sh ((w96_42)) ((a8))) ((x96_12)) (cum (sh ((w39)) ((a2))) ((x96_13)))) → (CB (sh ((w39)) ((a2))) (a3) (a4) (sh ((w96_42)) ((a8))) ((x96_13)) 0) → (FRM ((w42)) ((w96_42)) (a8) ((a8) + p2 ((a4)))) → (((a3)) - (x96_13)).toNat = m → Ew 262 (d + 1) 96 ls [] σ c s Q from
            hl96 _ _ σ _ _ (0) (0) (rk_o (rk_o (rk_o (l38_0) rfl rfl) rfl rfl) rfl rfl) (rk_o (rk_o (rk_o (l38_1) rfl rfl) rfl rfl) rfl rfl) (rk_o (rk_o (rk_o (l38_2) rfl rfl) rfl rfl) rfl rfl) (rk_o (rk_o (rk_o (l38_3) rfl rfl) rfl rfl) rfl rfl) (rk_o (rk_o (rk_o (l38_4) rfl rfl) rfl rfl) rfl rfl) (rk_o (rk_o (rk_o (l38_5) rfl rfl) rfl rfl) rfl rfl) (rk_o (rk_o (rk_o (l38_6) rfl rfl) rfl rfl) rfl rfl) (rk_o (rk_o (rk_o (l38_7) rfl rfl) rfl rfl) rfl rfl) (rk_o (rk_o (rk_o (l38_8) rfl rfl) rfl rfl) rfl rfl) (rk_o (rk_o (rk_o (l38_9) rfl rfl) rfl rfl) rfl rfl) (rk_o (rk_o (rk_s) rfl rfl) rfl rfl) (rk_o (rk_s) rfl rfl) (rk_s) H (SF_refl) (SA_refl)  (w38_42) (ew38_42) (show inr (0) from q_2) (show inr (0) from q_2) (show (0) ≤ (0) from q_1) (show (0) ≤ (0) ∨ (0) ≤ ((a3)) from q_5) (hPT) (hCB) (j38_9) rfl
          as_aux_lemma =>
          intro m
          induction m using Nat.strongRecOn with
          | _ m ih96 =>
            intro ls σ F_96 A_96 x96_12 x96_13 l96_0 l96_1 l96_2 l96_3 l96_4 l96_5 l96_6 l96_7 l96_8 l96_9 l96_11 l96_12 l96_13 H hS_96 hA_96  w96_42 ew96_42 j96_0 j96_1 j96_2 j96_3 j96_4 j96_5 j96_6 hm96
            refine Ew_of (pcₚ := 98) (fun _ => x_iload rfl l96_13) ?_
            refine Ew_of (pcₚ := 99) (fun _ => x_iload_n rfl l96_3) ?_
            refine w_icmpge (t := 162) rfl rfl (show inr (x96_13) from j96_1) (show inr (a3) from h1) (fun b4 => ?_) (fun b4 => ?_)
            · have hlaid : LAID (sh ((w39)) ((a2))) (a3) (a4) (sh ((w96_42)) ((a8))) := PT_end h59 (by omega) (by rw [show p2 ((a4)) - ngs (sh ((w39)) ((a2))) ((a3)) = cum (sh ((w39)) ((a2))) ((x96_13)) by rw [show (x96_13) = (a3) by omega]; omega]; assumption)
              have hcnt := CB_end (j96_5) (by omega)
              have : ∀ i, 0 ≤ i → i < 0 → ((A 41)) i = mass ((sh ((w39)) ((a2))) i) := fun i a b => absurd b (by omega)
              refine Ew_of (pcₚ := 163) (fun _ => x_iconst rfl) ?_
              refine Ew_of (pcₚ := 165) (fun _ => x_istore rfl) ?_
              suffices hl165 : ∀ (m : Nat), ∀ (ls : rO) (σ : rS) (F_165 : hF) (A_165 : hA) (x165_13 : Int), rlook ls 0 = some (.ref (D 5)) → rlook ls 1 = some (.ref (D 39)) → rlook ls 2 = some (I (a2)) → rlook ls 3 = some (I (a3)) → rlook ls 4 = some (I (a4)) → rlook ls 5 = some (.ref (D 42)) → rlook ls 6 = some (.ref (D 43)) → rlook ls 7 = some (.ref (D 44)) → rlook ls 8 = some (I (a8)) → rlook ls 9 = some (I (p2 (a4))) → rlook ls 13 = some (I (x165_13)) → HS σ0 σ D N F_165 A_165 → SF [] F_96 F_165 → SA [41] A_96 A_165 → ∀ w165_41 : Int → Int, A_165 41 = w165_41 → (inr (x165_13)) → ((0) ≤ (x165_13)) → ((x165_13) ≤ (0) ∨ (x165_13) ≤ ((a3))) → (∀ i, 0 ≤ i → i < (x165_13) → ((w165_41)) i = mass ((sh ((w39)) ((a2))) i)) → (((a3)) - (x165_13)).toNat = m → Ew 262 (d + 1) 165 ls [] σ c s Q from
                hl165 _ _ σ _ _ (0) (rk_o (l96_0) rfl rfl) (rk_o (l96_1) rfl rfl) (rk_o (l96_2) rfl rfl) (rk_o (l96_3) rfl rfl) (rk_o (l96_4) rfl rfl) (rk_o (l96_5) rfl rfl) (rk_o (l96_6) rfl rfl) (rk_o (l96_7) rfl rfl) (rk_o (l96_8) rfl rfl) (rk_o (l96_9) rfl rfl) (rk_s) H (SF_refl) (SA_refl)  (A 41) ((funext (hA_96 41 rfl)).trans ((funext (hA_38 41 rfl)).trans (funext (hA_9 41 rfl)))) (show inr (0) from q_2) (show (0) ≤ (0) from q_1) (show (0) ≤ (0) ∨ (0) ≤ ((a3)) from q_5) (show ∀ i, 0 ≤ i → i < (0) → ((A 41)) i = mass ((sh ((w39)) ((a2))) i) by assumption) rfl
              as_aux_lemma =>
              intro m
              induction m using Nat.strongRecOn with
              | _ m ih165 =>
                intro ls σ F_165 A_165 x165_13 l165_0 l165_1 l165_2 l165_3 l165_4 l165_5 l165_6 l165_7 l165_8 l165_9 l165_13 H hS_165 hA_165  w165_41 ew165_41 j165_0 j165_1 j165_2 j165_3 hm165
                refine Ew_of (pcₚ := 167) (fun _ => x_iload rfl l165_13) ?_
                refine Ew_of (pcₚ := 168) (fun _ => x_iload_n rfl l165_3) ?_
                refine w_icmpge (t := 204) rfl rfl (show inr (x165_13) from j165_0) (show inr (a3) from h1) (fun b5 => ?_) (fun b5 => ?_)
                · have : FRM ((w43)) ((w43)) (a8) ((a8) + p2 ((a4))) := FRM_refl
                  have : FRM ((w44)) ((w44)) (a8) ((a8) + p2 ((a4))) := FRM_refl
                  have : NB (sh ((w39)) ((a2))) (a3) (sh ((w96_42)) ((a8))) ((w165_41)) 0 := NB_0 (fun s a b => (j165_3) s a (by omega))
                  have : NUM (sh ((w39)) ((a2))) (a4) (sh ((w96_42)) ((a8))) (sh ((w43)) ((a8))) (sh ((w44)) ((a8))) 0 := fun k a b => absurd b (by omega)
                  have : TJ ((w96_42)) ((w43)) ((w44)) (a8) (a4) lst 0 := fun k a b => absurd b (by omega)
                  refine Ew_of (pcₚ := 205) (fun _ => x_iconst rfl) ?_
                  refine Ew_of (pcₚ := 207) (fun _ => x_istore rfl) ?_
                  suffices hl207 : ∀ (m : Nat), ∀ (ls : rO) (σ : rS) (F_207 : hF) (A_207 : hA) (x207_13 : Int), rlook ls 0 = some (.ref (D 5)) → rlook ls 4 = some (I (a4)) → rlook ls 5 = some (.ref (D 42)) → rlook ls 6 = some (.ref (D 43)) → rlook ls 7 = some (.ref (D 44)) → rlook ls 8 = some (I (a8)) → rlook ls 9 = some (I (p2 (a4))) → rlook ls 13 = some (I (x207_13)) → HS σ0 σ D N F_207 A_207 → SF [] F_165 F_207 → SA [41, 43, 44] A_165 A_207 → ∀ w207_41 : Int → Int, A_207 41 = w207_41 → ∀ w207_43 : Int → Int, A_207 43 = w207_43 → ∀ w207_44 : Int → Int, A_207 44 = w207_44 → (inr (x207_13)) → ((0) ≤ (x207_13)) → ((x207_13) ≤ (0) ∨ (x207_13) ≤ ((p2 (a4)))) → (NB (sh ((w39)) ((a2))) (a3) (sh ((w96_42)) ((a8))) ((w207_41)) ((x207_13))) → (NUM (sh ((w39)) ((a2))) (a4) (sh ((w96_42)) ((a8))) (sh ((w207_43)) ((a8))) (sh ((w207_44)) ((a8))) ((x207_13))) → (TJ ((w96_42)) ((w207_43)) ((w207_44)) (a8) (a4) lst ((x207_13))) → (FRM ((w43)) ((w207_43)) (a8) ((a8) + p2 ((a4)))) → (FRM ((w44)) ((w207_44)) (a8) ((a8) + p2 ((a4)))) → (((p2 (a4))) - (x207_13)).toNat = m → Ew 262 (d + 1) 207 ls [] σ c s Q from
                    hl207 _ _ σ _ _ (0) (rk_o (l165_0) rfl rfl) (rk_o (l165_4) rfl rfl) (rk_o (l165_5) rfl rfl) (rk_o (l165_6) rfl rfl) (rk_o (l165_7) rfl rfl) (rk_o (l165_8) rfl rfl) (rk_o (l165_9) rfl rfl) (rk_s) H (SF_refl) (SA_refl)  (w165_41) (ew165_41) (w43) ((funext (hA_165 43 rfl)).trans ((funext (hA_96 43 rfl)).trans ((funext (hA_38 43 rfl)).trans ((funext (hA_9 43 rfl)).trans (ew43))))) (w44) ((funext (hA_165 44 rfl)).trans ((funext (hA_96 44 rfl)).trans ((funext (hA_38 44 rfl)).trans ((funext (hA_9 44 rfl)).trans (ew44))))) (show inr (0) from q_2) (show (0) ≤ (0) from q_1) (show (0) ≤ (0) ∨ (0) ≤ ((p2 (a4))) from q_5) (show NB (sh ((w39)) ((a2))) (a3) (sh ((w96_42)) ((a8))) ((w165_41)) ((0)) by assumption) (show NUM (sh ((w39)) ((a2))) (a4) (sh ((w96_42)) ((a8))) (sh ((w43)) ((a8))) (sh ((w44)) ((a8))) ((0)) by assumption) (show TJ ((w96_42)) ((w43)) ((w44)) (a8) (a4) lst ((0)) by assumption) (show FRM ((w43)) ((w43)) (a8) ((a8) + p2 ((a4))) by assumption) (show FRM ((w44)) ((w44)) (a8) ((a8) + p2 ((a4))) by assumption) rfl
                  as_aux_lemma =>
                  intro m
                  induction m using Nat.strongRecOn with
                  | _ m ih207 =>
                    intro ls σ F_207 A_207 x207_13 l207_0 l207_4 l207_5 l207_6 l207_7 l207_8 l207_9 l207_13 H hS_207 hA_207  w207_41 ew207_41 w207_43 ew207_43 w207_44 ew207_44 j207_0 j207_1 j207_2 j207_3 j207_4 j207_5 j207_6 j207_7 hm207
                    have j207_num : NUM (sh ((w39)) ((a2))) (a4) (sh ((w96_42)) ((a8))) (sh ((w207_43)) ((a8))) (sh ((w207_44)) ((a8))) ((x207_13)) := j207_4
                    have j207_tj : TJ ((w96_42)) ((w207_43)) ((w207_44)) (a8) (a4) lst ((x207_13)) := j207_5
                    refine Ew_of (pcₚ := 209) (fun _ => x_iload rfl l207_13) ?_
                    refine Ew_of (pcₚ := 211) (fun _ => x_iload rfl l207_9) ?_
                    refine w_icmpge (t := 286) rfl rfl (show inr (x207_13) from j207_0) (show inr (p2 (a4)) from q_1323 h6 j38_5) (fun b6 => ?_) (fun b6 => ?_)
                    · have : TI ((w96_42)) ((w207_43)) ((w207_44)) (a8) (a4) lst := fun k a b => (j207_tj) k a (by omega)
                      have : LD (sh ((w39)) ((a2))) (a3) (a4) (sh ((w96_42)) ((a8))) (sh ((w207_43)) ((a8))) (sh ((w207_44)) ((a8))) := ⟨hlaid, hcnt, fun k a b => (j207_num) k a (by omega)⟩
                      exact w_ret rfl (k σ _ _ H (SF_trans (SF_trans (SF_trans (SF_trans (SF_trans (SF_refl) hS_9 (any_sub rfl)) hS_38 (any_sub rfl)) hS_96 (any_sub rfl)) hS_165 (any_sub rfl)) hS_207 (any_sub rfl)) (SA_trans (SA_trans (SA_trans (SA_trans (SA_trans (SA_refl) hA_9 (any_subA rfl)) hA_38 (any_subA rfl)) hA_96 (any_subA rfl)) hA_165 (any_subA rfl)) hA_207 (any_subA rfl)) (w96_42) ((funext (hA_207 42 rfl)).trans ((funext (hA_165 42 rfl)).trans (ew96_42))) (w207_43) (ew207_43) (w207_44) (ew207_44) (show TI ((w96_42)) ((w207_43)) ((w207_44)) a8 a4 lst by assumption) (j96_6) (j207_6) (j207_7) (show LD (sh ((w39)) (a2)) a3 a4 (sh ((w96_42)) (a8)) (sh ((w207_43)) (a8)) (sh ((w207_44)) (a8)) by assumption))
                    · have hlr := LAID_rng h59 (by omega) hlaid (k := (x207_13)) (by omega) (by omega)
                      have hse : (sh ((w96_42)) ((a8))) ((x207_13)) = ((w96_42)) ((a8) + (x207_13)) := rfl
                      have hnb : NB (sh ((w39)) ((a2))) (a3) (sh ((w96_42)) ((a8))) ((w207_41)) ((x207_13)) := j207_3
                      have hnx := NB_x hnb hcnt (by omega) (by omega) hlr.1 hlr.2.1
                      have hle := SH_le ((sh ((w96_42)) ((a8))) ((x207_13))) hsh hlr.1 hlr.2.1
                      have hpe : (sh ((w39)) ((a2))) ((sh ((w96_42)) ((a8))) ((x207_13))) = ((w39)) ((a2) + (sh ((w96_42)) ((a8))) ((x207_13))) := rfl
                      have hme := mass_eq ((sh ((w39)) ((a2))) ((sh ((w96_42)) ((a8))) ((x207_13))))
                      have hls := hle.2.2.2 (by rw [← hpe]; exact hlr.2.2)
                      have hmb : mass ((sh ((w39)) ((a2))) ((sh ((w96_42)) ((a8))) ((x207_13)))) ≤ p2 ((a4)) := hle.2.2.1
                      have hm1_ : 1 ≤ mass ((sh ((w39)) ((a2))) ((sh ((w96_42)) ((a8))) ((x207_13)))) := by have := hlr.2.2; omega
                      refine Ew_of (pcₚ := 216) (fun _ => x_aload rfl l207_5) ?_
                      refine Ew_of (pcₚ := 218) (fun _ => x_iload rfl l207_8) ?_
                      refine Ew_of (pcₚ := 220) (fun _ => x_iload rfl l207_13) ?_
                      refine w_iadd rfl ?_
                      refine w_lI H (o := 42) (n := 64) rfl (H.perm 42 rfl) rfl rfl (H.fix 42 rfl rfl) (show 0 ≤ (a8 + x207_13) ∧ (a8 + x207_13) < ((64 : Nat) : Int) from q_1324 b6 h6 j207_1) (by decide) (fun v7 ev7 qv7 => ?_)
                      have qv7 : (-1 : Int) ≤ v7 ∧ v7 ≤ 11 := qv7
                      have ev7 : (w96_42) ((a8 + x207_13)) = v7 := (congrFun ((funext (hA_207 42 rfl)).trans ((funext (hA_165 42 rfl)).trans (ew96_42))) ((a8 + x207_13))).symm.trans ev7
                      have hsv := ev7
                      rw [hse, hsv] at hnx hmb hm1_
                      refine Ew_of (pcₚ := 224) (fun _ => x_istore rfl) ?_
                      refine Ew_of (pcₚ := 225) (fun _ => x_aload_n rfl (rk_o (l207_0) rfl rfl)) ?_
                      refine w_gT H (o := 5) (t := 41) rfl (H.perm 5 rfl) rfl rfl rfl rfl rfl rfl ?_
                      refine Ew_of (pcₚ := 230) (fun _ => x_iload rfl rk_s) ?_
                      refine w_lI H (o := 41) (n := 256) rfl (H.perm 41 rfl) rfl rfl (H.fix 41 rfl rfl) (show 0 ≤ v7 ∧ v7 < ((256 : Nat) : Int) by omega) (by decide) (fun v8 ev8 qv8 => ?_)
                      have qv8 : (0 : Int) ≤ v8 ∧ v8 ≤ 4096 := qv8
                      have ev8 : (w207_41) (v7) = v8 := (congrFun (ew207_41) (v7)).symm.trans ev8
                      have hxv := ev8
                      rw [hxv] at hnx
                      refine Ew_of (pcₚ := 233) (fun _ => x_istore rfl) ?_
                      refine Ew_of (pcₚ := 234) (fun _ => x_aload_n rfl (rk_o (rk_o (l207_0) rfl rfl) rfl rfl)) ?_
                      refine w_gT H (o := 5) (t := 41) rfl (H.perm 5 rfl) rfl rfl rfl rfl rfl rfl ?_
                      refine Ew_of (pcₚ := 239) (fun _ => x_iload rfl (rk_o (rk_s) rfl rfl)) ?_
                      refine Ew_of (pcₚ := 240) (fun _ => x_dup2 rfl rfl rfl) ?_
                      refine w_lI H (o := 41) (n := 256) rfl (H.perm 41 rfl) rfl rfl (H.fix 41 rfl rfl) (show 0 ≤ v7 ∧ v7 < ((256 : Nat) : Int) by omega) (by decide) (fun v9 ev9 qv9 => ?_)
                      have qv9 : (0 : Int) ≤ v9 ∧ v9 ≤ 4096 := qv9
                      have ev9 : (w207_41) (v7) = v9 := (congrFun (ew207_41) (v7)).symm.trans ev9
                      have hv2 := ev9
                      have hv2x : (v9) = (v8) := hv2.symm.trans hxv
                      refine Ew_of (pcₚ := 242) (fun _ => x_iconst rfl) ?_
                      refine w_iadd rfl ?_
                      have hnb2 : NB (sh ((w39)) ((a2))) (a3) (sh ((w96_42)) ((a8))) (upd1 ((w207_41)) ((v7)) (((v9 + 1)))) ((x207_13) + 1) := by have h := NB_next hnb (x := ((v9 + 1))) (k2 := (x207_13) + 1) (by omega) rfl hlr.1 hlr.2.1 (by rw [hse, hsv]; omega); rw [hse, hsv] at h; exact h
                      refine w_sI H (o := 41) (n := 256) rfl (H.perm 41 rfl) rfl rfl (H.fix 41 rfl rfl) (show 0 ≤ v7 ∧ v7 < ((256 : Nat) : Int) by omega) (by decide) (show (0 : Int) ≤ (v9 + 1) ∧ (v9 + 1) ≤ 4096 by omega) (fun σ H => ?_)
                      refine Ew_of (pcₚ := 246) (fun _ => x_iload rfl (rk_o (rk_o (l207_4) rfl rfl) rfl rfl)) ?_
                      refine Ew_of (pcₚ := 248) (fun _ => x_iload rfl rk_s) ?_
                      refine w_stat24 rfl rfl (by rfl) (M260 H (show inr (v8) from q_1309 qv8) (show 0 ≤ (v8) from q_1308 qv8) (fun z14 σ F10 A11 H hS12 hA13 pz14_0 pz14_1 pz14_2 => ⟨rfl, ?_⟩))
                      have hib := hi_base (x := (v8)) (r := (z14)) (o := (a4)) (by omega) (by omega) (by omega) (by omega) (by omega)
                      have hpp := p2_pos ((a4) - (z14))
                      refine w_isub rfl ?_
                      refine Ew_of (pcₚ := 254) (fun _ => x_istore rfl) ?_
                      have : FRM ((w43)) (upd1 ((w207_43)) ((a8) + (x207_13)) (((a4 - z14)))) (a8) ((a8) + p2 ((a4))) := FRM_upd (by assumption) (by omega) (by omega)
                      have : FRM ((w44)) (upd1 ((w207_44)) ((a8) + (x207_13)) ((v8) * p2 (((a4 - z14))) - p2 ((a4)))) (a8) ((a8) + p2 ((a4))) := FRM_upd (by assumption) (by omega) (by omega)
                      have htj : TJ ((w96_42)) (upd1 ((w207_43)) ((a8) + (x207_13)) ((a4 - z14))) (upd1 ((w207_44)) ((a8) + (x207_13)) ((v8) * p2 (((a4 - z14))) - p2 ((a4)))) (a8) (a4) lst ((x207_13) + 1) := TJ_next j207_tj (by omega) (by omega) (by omega)
                      have hnum : NUM (sh ((w39)) ((a2))) (a4) (sh ((w96_42)) ((a8))) (sh (upd1 ((w207_43)) ((a8) + (x207_13)) ((a4 - z14))) ((a8))) (sh (upd1 ((w207_44)) ((a8) + (x207_13)) ((v8) * p2 (((a4 - z14))) - p2 ((a4)))) ((a8))) ((x207_13) + 1) := by rw [sh_upd, sh_upd]; exact NUM_next (r := z14) j207_num rfl (by omega) (by omega) (by omega) (by omega) (by omega) (by rw [← hnx.1])
                      refine Ew_of (pcₚ := 256) (fun _ => x_aload rfl (rk_o (rk_o (rk_o (l207_6) rfl rfl) rfl rfl) rfl rfl)) ?_
                      refine Ew_of (pcₚ := 258) (fun _ => x_iload rfl (rk_o (rk_o (rk_o (l207_8) rfl rfl) rfl rfl) rfl rfl)) ?_
                      refine Ew_of (pcₚ := 260) (fun _ => x_iload rfl (rk_o (rk_o (rk_o (l207_13) rfl rfl) rfl rfl) rfl rfl)) ?_
                      refine w_iadd rfl ?_
                      refine Ew_of (pcₚ := 263) (fun _ => x_iload rfl rk_s) ?_
                      refine w_sI H (o := 43) (n := 64) rfl (H.perm 43 rfl) rfl rfl (H.fix 43 rfl rfl) (show 0 ≤ (a8 + x207_13) ∧ (a8 + x207_13) < ((64 : Nat) : Int) from q_1324 b6 h6 j207_1) (by decide) (show (0 : Int) ≤ (a4 - z14) ∧ (a4 - z14) ≤ 6 by omega) (fun σ H => ?_)
                      refine Ew_of (pcₚ := 266) (fun _ => x_aload rfl (rk_o (rk_o (rk_o (l207_7) rfl rfl) rfl rfl) rfl rfl)) ?_
                      refine Ew_of (pcₚ := 268) (fun _ => x_iload rfl (rk_o (rk_o (rk_o (l207_8) rfl rfl) rfl rfl) rfl rfl)) ?_
                      refine Ew_of (pcₚ := 270) (fun _ => x_iload rfl (rk_o (rk_o (rk_o (l207_13) rfl rfl) rfl rfl) rfl rfl)) ?_
                      refine w_iadd rfl ?_
                      refine Ew_of (pcₚ := 273) (fun _ => x_iload rfl (rk_o (rk_s) rfl rfl)) ?_
                      refine Ew_of (pcₚ := 275) (fun _ => x_iload rfl rk_s) ?_
                      refine w_ishlT rfl (show 0 ≤ (a4 - z14) ∧ (a4 - z14) ≤ 31 by omega) ?_
                      refine Ew_of (pcₚ := 278) (fun _ => x_iload rfl (rk_o (rk_o (rk_o (l207_9) rfl rfl) rfl rfl) rfl rfl)) ?_
                      refine w_isub rfl ?_
                      refine w_sI H (o := 44) (n := 64) rfl (H.perm 44 rfl) rfl rfl (H.fix 44 rfl rfl) (show 0 ≤ (a8 + x207_13) ∧ (a8 + x207_13) < ((64 : Nat) : Int) from q_1324 b6 h6 j207_1) (by decide) (show (0 : Int) ≤ ((v8 * p2 ((a4 - z14))) - p2 (a4)) ∧ ((v8 * p2 ((a4 - z14))) - p2 (a4)) ≤ 63 by omega) (fun σ H => ?_)
                      refine Ew_of (pcₚ := 283) (fun _ => x_iinc (len := 3) rfl (rk_o (rk_o (rk_o (l207_13) rfl rfl) rfl rfl) rfl rfl)) ?_
                      refine Ew_of (pcₚ := 207) (fun _ => x_goto rfl rfl) ?_
                      exact ih207 _ (msE hm207 q_16 (q_17 b6)) _ σ _ _ ((x207_13 + 1)) (rk_o (rk_o (rk_o (rk_o (l207_0) rfl rfl) rfl rfl) rfl rfl) rfl rfl) (rk_o (rk_o (rk_o (rk_o (l207_4) rfl rfl) rfl rfl) rfl rfl) rfl rfl) (rk_o (rk_o (rk_o (rk_o (l207_5) rfl rfl) rfl rfl) rfl rfl) rfl rfl) (rk_o (rk_o (rk_o (rk_o (l207_6) rfl rfl) rfl rfl) rfl rfl) rfl rfl) (rk_o (rk_o (rk_o (rk_o (l207_7) rfl rfl) rfl rfl) rfl rfl) rfl rfl) (rk_o (rk_o (rk_o (rk_o (l207_8) rfl rfl) rfl rfl) rfl rfl) rfl rfl) (rk_o (rk_o (rk_o (rk_o (l207_9) rfl rfl) rfl rfl) rfl rfl) rfl rfl) (rk_s) H (SF_trans (hS_207) hS12 (any_sub rfl)) (SA_upd (SA_upd (SA_trans (SA_upd (hA_207) rfl) hA13 (any_subA rfl)) rfl) rfl)  (upd1 (w207_41) (v7) ((v9 + 1))) ((funext (hA13 41 rfl)).trans (congrArg (fun q => upd1 q (v7) ((v9 + 1))) (ew207_41))) (upd1 (w207_43) ((a8 + x207_13)) ((a4 - z14))) (congrArg (fun q => upd1 q ((a8 + x207_13)) ((a4 - z14))) ((funext (hA13 43 rfl)).trans (ew207_43))) (upd1 (w207_44) ((a8 + x207_13)) (((v8 * p2 ((a4 - z14))) - p2 (a4)))) (congrArg (fun q => upd1 q ((a8 + x207_13)) (((v8 * p2 ((a4 - z14))) - p2 (a4)))) ((funext (hA13 44 rfl)).trans (ew207_44))) (show inr ((x207_13 + 1)) from q_1325 b6 h6 j207_1) (show (0) ≤ ((x207_13 + 1)) from q_14 j207_1) (show ((x207_13 + 1)) ≤ (0) ∨ ((x207_13 + 1)) ≤ ((p2 (a4))) from q_13 b6) (hnb2) (hnum) (htj) (show FRM ((w43)) ((upd1 (w207_43) ((a8 + x207_13)) ((a4 - z14)))) (a8) ((a8) + p2 ((a4))) by assumption) (show FRM ((w44)) ((upd1 (w207_44) ((a8 + x207_13)) (((v8 * p2 ((a4 - z14))) - p2 (a4))))) (a8) ((a8) + p2 ((a4))) by assumption) rfl
                · have hma := mass_eq ((w39) ((a2) + (x165_13)))
                  have hle := SH_le (x165_13) hsh (by omega) (by omega)
                  refine Ew_of (pcₚ := 172) (fun _ => x_aload_n rfl l165_0) ?_
                  refine w_gT H (o := 5) (t := 41) rfl (H.perm 5 rfl) rfl rfl rfl rfl rfl rfl ?_
                  refine Ew_of (pcₚ := 177) (fun _ => x_iload rfl l165_13) ?_
                  refine Ew_of (pcₚ := 178) (fun _ => x_aload_n rfl l165_1) ?_
                  refine Ew_of (pcₚ := 179) (fun _ => x_iload_n rfl l165_2) ?_
                  refine Ew_of (pcₚ := 181) (fun _ => x_iload rfl l165_13) ?_
                  refine w_iadd rfl ?_
                  refine w_lI H (o := 39) (n := 256) rfl (H.perm 39 rfl) rfl rfl (H.fix 39 rfl rfl) (show 0 ≤ (a2 + x165_13) ∧ (a2 + x165_13) < ((256 : Nat) : Int) from q_1326 b5 h5 j165_1) (by decide) (fun v16 ev16 qv16 => ?_)
                  have qv16 : (-1 : Int) ≤ v16 ∧ v16 ≤ 1048576 := qv16
                  have ev16 : (w39) ((a2 + x165_13)) = v16 := (congrFun ((funext (hA_165 39 rfl)).trans ((funext (hA_96 39 rfl)).trans ((funext (hA_38 39 rfl)).trans ((funext (hA_9 39 rfl)).trans (ew39))))) ((a2 + x165_13))).symm.trans ev16
                  refine Ew_of (pcₚ := 184) (fun _ => x_iconst rfl) ?_
                  refine w_icmpne (t := 191) rfl rfl (show inr (v16) from q_1327 qv16) (show inr ((-1)) from q_63) (fun b17 => ?_) (fun b17 => ?_)
                  · refine Ew_of (pcₚ := 192) (fun _ => x_aload_n rfl l165_1) ?_
                    refine Ew_of (pcₚ := 193) (fun _ => x_iload_n rfl l165_2) ?_
                    refine Ew_of (pcₚ := 195) (fun _ => x_iload rfl l165_13) ?_
                    refine w_iadd rfl ?_
                    refine w_lI H (o := 39) (n := 256) rfl (H.perm 39 rfl) rfl rfl (H.fix 39 rfl rfl) (show 0 ≤ (a2 + x165_13) ∧ (a2 + x165_13) < ((256 : Nat) : Int) from q_1326 b5 h5 j165_1) (by decide) (fun v18 ev18 qv18 => ?_)
                    have qv18 : (-1 : Int) ≤ v18 ∧ v18 ≤ 1048576 := qv18
                    have ev18 : (w39) ((a2 + x165_13)) = v18 := (congrFun ((funext (hA_165 39 rfl)).trans ((funext (hA_96 39 rfl)).trans ((funext (hA_38 39 rfl)).trans ((funext (hA_9 39 rfl)).trans (ew39))))) ((a2 + x165_13))).symm.trans ev18
                    refine w_sI H (o := 41) (n := 256) rfl (H.perm 41 rfl) rfl rfl (H.fix 41 rfl rfl) (show 0 ≤ x165_13 ∧ x165_13 < ((256 : Nat) : Int) from q_1328 b5 h7 j165_1) (by decide) (show (0 : Int) ≤ v18 ∧ v18 ≤ 4096 by omega) (fun σ H => ?_)
                    refine Ew_of (pcₚ := 201) (fun _ => x_iinc (len := 3) rfl (l165_13)) ?_
                    refine Ew_of (pcₚ := 165) (fun _ => x_goto rfl rfl) ?_
                    have : ∀ i, 0 ≤ i → i < ((x165_13 + 1)) → ((upd1 (w165_41) (x165_13) (v18))) i = mass ((sh ((w39)) ((a2))) i) := pt_upd j165_3 (by have h := hma; first | omega | (show _ = mass ((w39) _); omega))
                    exact ih165 _ (msE hm165 q_16 (q_17 b5)) _ σ _ _ ((x165_13 + 1)) (rk_o (l165_0) rfl rfl) (rk_o (l165_1) rfl rfl) (rk_o (l165_2) rfl rfl) (rk_o (l165_3) rfl rfl) (rk_o (l165_4) rfl rfl) (rk_o (l165_5) rfl rfl) (rk_o (l165_6) rfl rfl) (rk_o (l165_7) rfl rfl) (rk_o (l165_8) rfl rfl) (rk_o (l165_9) rfl rfl) (rk_s) H (hS_165) (SA_upd (hA_165) rfl)  (upd1 (w165_41) (x165_13) (v18)) (congrArg (fun q => upd1 q (x165_13) (v18)) (ew165_41)) (show inr ((x165_13 + 1)) from q_1329 b5 h7 j165_1) (show (0) ≤ ((x165_13 + 1)) from q_14 j165_1) (show ((x165_13 + 1)) ≤ (0) ∨ ((x165_13 + 1)) ≤ ((a3)) from q_13 b5) (show ∀ i, 0 ≤ i → i < ((x165_13 + 1)) → ((upd1 (w165_41) (x165_13) (v18))) i = mass ((sh ((w39)) ((a2))) i) by assumption) rfl
                  · refine Ew_of (pcₚ := 188) (fun _ => x_iconst rfl) ?_
                    refine Ew_of (pcₚ := 197) (fun _ => x_goto rfl rfl) ?_
                    refine w_sI H (o := 41) (n := 256) rfl (H.perm 41 rfl) rfl rfl (H.fix 41 rfl rfl) (show 0 ≤ x165_13 ∧ x165_13 < ((256 : Nat) : Int) from q_1328 b5 h7 j165_1) (by decide) (show (0 : Int) ≤ 1 ∧ 1 ≤ 4096 from q_1315) (fun σ H => ?_)
                    refine Ew_of (pcₚ := 201) (fun _ => x_iinc (len := 3) rfl (l165_13)) ?_
                    refine Ew_of (pcₚ := 165) (fun _ => x_goto rfl rfl) ?_
                    have : ∀ i, 0 ≤ i → i < ((x165_13 + 1)) → ((upd1 (w165_41) (x165_13) (1))) i = mass ((sh ((w39)) ((a2))) i) := pt_upd j165_3 (by have h := hma; first | omega | (show _ = mass ((w39) _); omega))
                    exact ih165 _ (msE hm165 q_16 (q_17 b5)) _ σ _ _ ((x165_13 + 1)) (rk_o (l165_0) rfl rfl) (rk_o (l165_1) rfl rfl) (rk_o (l165_2) rfl rfl) (rk_o (l165_3) rfl rfl) (rk_o (l165_4) rfl rfl) (rk_o (l165_5) rfl rfl) (rk_o (l165_6) rfl rfl) (rk_o (l165_7) rfl rfl) (rk_o (l165_8) rfl rfl) (rk_o (l165_9) rfl rfl) (rk_s) H (hS_165) (SA_upd (hA_165) rfl)  (upd1 (w165_41) (x165_13) (1)) (congrArg (fun q => upd1 q (x165_13) (1)) (ew165_41)) (show inr ((x165_13 + 1)) from q_1329 b5 h7 j165_1) (show (0) ≤ ((x165_13 + 1)) from q_14 j165_1) (show ((x165_13 + 1)) ≤ (0) ∨ ((x165_13 + 1)) ≤ ((a3)) from q_13 b5) (show ∀ i, 0 ≤ i → i < ((x165_13 + 1)) → ((upd1 (w165_41) (x165_13) (1))) i = mass ((sh ((w39)) ((a2))) i) by assumption) rfl
            · have hpo := posi_eq ((sh ((w39)) ((a2))) ((x96_13)))
              have hcs := cum_s (P := sh ((w39)) ((a2))) (s := (x96_13)) (by omega)
              have hcm2 := cum_mono (P := sh ((w39)) ((a2))) (s := (x96_13) + 1) (t := (a3)) (by omega) (by omega)
              have hpe : (sh ((w39)) ((a2))) ((x96_13)) = ((w39)) ((a2) + (x96_13)) := rfl
              have hle := SH_le ((x96_13)) hsh (by omega) (by omega)
              have hPT0 : PT (sh ((w39)) ((a2))) (a3) (a4) (sh ((w96_42)) ((a8))) ((x96_12)) (cum (sh ((w39)) ((a2))) ((x96_13)) + 0) := by rw [Int.add_zero]; assumption
              refine Ew_of (pcₚ := 103) (fun _ => x_iconst rfl) ?_
              refine Ew_of (pcₚ := 105) (fun _ => x_istore rfl) ?_
              suffices hl105 : ∀ (m : Nat), ∀ (ls : rO) (σ : rS) (F_105 : hF) (A_105 : hA) (x105_12 : Int) (x105_14 : Int), rlook ls 0 = some (.ref (D 5)) → rlook ls 1 = some (.ref (D 39)) → rlook ls 2 = some (I (a2)) → rlook ls 3 = some (I (a3)) → rlook ls 4 = some (I (a4)) → rlook ls 5 = some (.ref (D 42)) → rlook ls 6 = some (.ref (D 43)) → rlook ls 7 = some (.ref (D 44)) → rlook ls 8 = some (I (a8)) → rlook ls 9 = some (I (p2 (a4))) → rlook ls 11 = some (I ((((p2 (a4) / 2) + (p2 (a4) / 8)) + 3))) → rlook ls 12 = some (I (x105_12)) → rlook ls 13 = some (I (x96_13)) → rlook ls 14 = some (I (x105_14)) → HS σ0 σ D N F_105 A_105 → SF [] F_96 F_105 → SA [42] A_96 A_105 → ∀ w105_42 : Int → Int, A_105 42 = w105_42 → (inr (x105_12)) → (inr (x105_14)) → (0 ≤ (x105_14) ∧ (x105_14) ≤ posi ((sh ((w39)) ((a2))) ((x96_13)))) → (PT (sh ((w39)) ((a2))) (a3) (a4) (sh ((w105_42)) ((a8))) ((x105_12)) (cum (sh ((w39)) ((a2))) ((x96_13)) + (x105_14))) → (CB (sh ((w39)) ((a2))) (a3) (a4) (sh ((w105_42)) ((a8))) ((x96_13)) ((x105_14))) → (FRM ((w42)) ((w105_42)) (a8) ((a8) + p2 ((a4)))) → (((w39)) ((a2) + (x96_13)) - (x105_14)).toNat = m → Ew 262 (d + 1) 105 ls [] σ c s Q from
                hl105 _ _ σ _ _ (x96_12) (0) (rk_o (l96_0) rfl rfl) (rk_o (l96_1) rfl rfl) (rk_o (l96_2) rfl rfl) (rk_o (l96_3) rfl rfl) (rk_o (l96_4) rfl rfl) (rk_o (l96_5) rfl rfl) (rk_o (l96_6) rfl rfl) (rk_o (l96_7) rfl rfl) (rk_o (l96_8) rfl rfl) (rk_o (l96_9) rfl rfl) (rk_o (l96_11) rfl rfl) (rk_o (l96_12) rfl rfl) (rk_o (l96_13) rfl rfl) (rk_s) H (SF_refl) (SA_refl)  (w96_42) (ew96_42) (show inr (x96_12) from j96_0) (show inr (0) from q_2) (show 0 ≤ (0) ∧ (0) ≤ posi ((sh ((w39)) ((a2))) ((x96_13))) by omega) (hPT0) (j96_5) (j96_6) rfl
              as_aux_lemma =>
              intro m
              induction m using Nat.strongRecOn with
              | _ m ih105 =>
                intro ls σ F_105 A_105 x105_12 x105_14 l105_0 l105_1 l105_2 l105_3 l105_4 l105_5 l105_6 l105_7 l105_8 l105_9 l105_11 l105_12 l105_13 l105_14 H hS_105 hA_105  w105_42 ew105_42 j105_0 j105_1 j105_2 j105_3 j105_4 j105_5 hm105
                refine Ew_of (pcₚ := 107) (fun _ => x_iload rfl l105_14) ?_
                refine Ew_of (pcₚ := 108) (fun _ => x_aload_n rfl l105_1) ?_
                refine Ew_of (pcₚ := 109) (fun _ => x_iload_n rfl l105_2) ?_
                refine Ew_of (pcₚ := 111) (fun _ => x_iload rfl l105_13) ?_
                refine w_iadd rfl ?_
                refine w_lI H (o := 39) (n := 256) rfl (H.perm 39 rfl) rfl rfl (H.fix 39 rfl rfl) (show 0 ≤ (a2 + x96_13) ∧ (a2 + x96_13) < ((256 : Nat) : Int) from q_1326 b4 h5 j96_2) (by decide) (fun v19 ev19 qv19 => ?_)
                have qv19 : (-1 : Int) ≤ v19 ∧ v19 ≤ 1048576 := qv19
                have ev19 : (w39) ((a2 + x96_13)) = v19 := (congrFun ((funext (hA_105 39 rfl)).trans ((funext (hA_96 39 rfl)).trans ((funext (hA_38 39 rfl)).trans ((funext (hA_9 39 rfl)).trans (ew39))))) ((a2 + x96_13))).symm.trans ev19
                refine w_icmpge (t := 156) rfl rfl (show inr (x105_14) from j105_1) (show inr (v19) from q_1327 qv19) (fun b20 => ?_) (fun b20 => ?_)
                · have hk0 : (x105_14) = posi ((sh ((w39)) ((a2))) ((x96_13))) := by omega
                  have hptn : PT (sh ((w39)) ((a2))) (a3) (a4) (sh ((w105_42)) ((a8))) ((x105_12)) (cum (sh ((w39)) ((a2))) ((x96_13) + 1)) := by rw [hcs, ← hk0]; assumption
                  have hcbn : CB (sh ((w39)) ((a2))) (a3) (a4) (sh ((w105_42)) ((a8))) ((x96_13) + 1) 0 := CB_next (by assumption) rfl hk0
                  refine Ew_of (pcₚ := 159) (fun _ => x_iinc (len := 3) rfl (l105_13)) ?_
                  refine Ew_of (pcₚ := 96) (fun _ => x_goto rfl rfl) ?_
                  exact ih96 _ (msE hm96 q_16 (q_17 b4)) _ σ _ _ (x105_12) ((x96_13 + 1)) (rk_o (l105_0) rfl rfl) (rk_o (l105_1) rfl rfl) (rk_o (l105_2) rfl rfl) (rk_o (l105_3) rfl rfl) (rk_o (l105_4) rfl rfl) (rk_o (l105_5) rfl rfl) (rk_o (l105_6) rfl rfl) (rk_o (l105_7) rfl rfl) (rk_o (l105_8) rfl rfl) (rk_o (l105_9) rfl rfl) (rk_o (l105_11) rfl rfl) (rk_o (l105_12) rfl rfl) (rk_s) H (SF_trans (hS_96) hS_105 (any_sub rfl)) (SA_trans (hA_96) hA_105 (any_subA rfl))  (w105_42) (ew105_42) (show inr (x105_12) from j105_0) (show inr ((x96_13 + 1)) from q_1329 b4 h7 j96_2) (show (0) ≤ ((x96_13 + 1)) from q_14 j96_2) (show ((x96_13 + 1)) ≤ (0) ∨ ((x96_13 + 1)) ≤ ((a3)) from q_13 b4) (hptn) (hcbn) (j105_5) rfl
                · obtain ⟨m0, hm0⟩ := PTI_of (j105_3)
                  suffices hl116 : ∀ (m : Nat), ∀ (ls : rO) (σ : rS) (F_116 : hF) (A_116 : hA) (x116_12 : Int), rlook ls 0 = some (.ref (D 5)) → rlook ls 1 = some (.ref (D 39)) → rlook ls 2 = some (I (a2)) → rlook ls 3 = some (I (a3)) → rlook ls 4 = some (I (a4)) → rlook ls 5 = some (.ref (D 42)) → rlook ls 6 = some (.ref (D 43)) → rlook ls 7 = some (.ref (D 44)) → rlook ls 8 = some (I (a8)) → rlook ls 9 = some (I (p2 (a4))) → rlook ls 11 = some (I ((((p2 (a4) / 2) + (p2 (a4) / 8)) + 3))) → rlook ls 12 = some (I (x116_12)) → rlook ls 13 = some (I (x96_13)) → rlook ls 14 = some (I (x105_14)) → HS σ0 σ D N F_116 A_116 → SF [] F_105 F_116 → SA [] A_105 A_116 → (inr (x116_12)) → (PTI (sh ((w39)) ((a2))) (a3) (a4) (sh ((w105_42)) ((a8))) ((x116_12)) (cum (sh ((w39)) ((a2))) ((x96_13)) + (x105_14)) (p2 ((a4)) - m)) → Ew 262 (d + 1) 116 ls [] σ c s Q from
                    hl116 (m0) _ σ _ _ (x105_12) (l105_0) (l105_1) (l105_2) (l105_3) (l105_4) (l105_5) (l105_6) (l105_7) (l105_8) (l105_9) (l105_11) (l105_12) (l105_13) (l105_14) H (SF_refl) (SA_refl)   (show inr (x105_12) from j105_0) (by assumption)
                  as_aux_lemma =>
                  intro m
                  induction m using Nat.strongRecOn with
                  | _ m ih116 =>
                    intro ls σ F_116 A_116 x116_12 l116_0 l116_1 l116_2 l116_3 l116_4 l116_5 l116_6 l116_7 l116_8 l116_9 l116_11 l116_12 l116_13 l116_14 H hS_116 hA_116   j116_0 hm116
                    have hrg := PTI_rng (hm116)
                    have hse : (sh ((w105_42)) ((a8))) ((x116_12)) = ((w105_42)) ((a8) + (x116_12)) := rfl
                    refine Ew_of (pcₚ := 118) (fun _ => x_aload rfl l116_5) ?_
                    refine Ew_of (pcₚ := 120) (fun _ => x_iload rfl l116_8) ?_
                    refine Ew_of (pcₚ := 122) (fun _ => x_iload rfl l116_12) ?_
                    refine w_iadd rfl ?_
                    refine w_lI H (o := 42) (n := 64) rfl (H.perm 42 rfl) rfl rfl (H.fix 42 rfl rfl) (show 0 ≤ (a8 + x116_12) ∧ (a8 + x116_12) < ((64 : Nat) : Int) by omega) (by decide) (fun v21 ev21 qv21 => ?_)
                    have qv21 : (-1 : Int) ≤ v21 ∧ v21 ≤ 11 := qv21
                    have ev21 : (w105_42) ((a8 + x116_12)) = v21 := (congrFun ((funext (hA_116 42 rfl)).trans (ew105_42)) ((a8 + x116_12))).symm.trans ev21
                    refine w_iflt (t := 140) rfl rfl (show inr (v21) from q_1330 qv21) (fun b22 => ?_) (fun b22 => ?_)
                    · have : FRM ((w42)) (upd1 ((w105_42)) ((a8) + (x116_12)) ((x96_13))) (a8) ((a8) + p2 ((a4))) := FRM_upd (by assumption) (by omega) (by omega)
                      have hpt := PTI_PT (hm116)
                      have hfr := PT_free h59 hpt (by omega)
                      have hpt2 : PT (sh ((w39)) ((a2))) (a3) (a4) (sh (upd1 ((w105_42)) ((a8) + (x116_12)) ((x96_13))) ((a8))) ((x116_12)) (cum (sh ((w39)) ((a2))) ((x96_13)) + ((x105_14) + 1)) := by rw [sh_upd, ← Int.add_assoc]; exact PT_put h59 hpt (by omega) (by omega) (by omega) (by omega) (by omega)
                      have hcb2 : CB (sh ((w39)) ((a2))) (a3) (a4) (sh (upd1 ((w105_42)) ((a8) + (x116_12)) ((x96_13))) ((a8))) ((x96_13)) ((x105_14) + 1) := by rw [sh_upd]; exact CB_put (by assumption) rfl (by omega) (by omega) (by omega) hfr
                      refine Ew_of (pcₚ := 142) (fun _ => x_aload rfl l116_5) ?_
                      refine Ew_of (pcₚ := 144) (fun _ => x_iload rfl l116_8) ?_
                      refine Ew_of (pcₚ := 146) (fun _ => x_iload rfl l116_12) ?_
                      refine w_iadd rfl ?_
                      refine Ew_of (pcₚ := 149) (fun _ => x_iload rfl l116_13) ?_
                      refine w_sI H (o := 42) (n := 64) rfl (H.perm 42 rfl) rfl rfl (H.fix 42 rfl rfl) (show 0 ≤ (a8 + x116_12) ∧ (a8 + x116_12) < ((64 : Nat) : Int) by omega) (by decide) (show (-1 : Int) ≤ x96_13 ∧ x96_13 ≤ 11 from q_1331 b4 h7 j96_2) (fun σ H => ?_)
                      refine Ew_of (pcₚ := 153) (fun _ => x_iinc (len := 3) rfl (l116_14)) ?_
                      refine Ew_of (pcₚ := 105) (fun _ => x_goto rfl rfl) ?_
                      exact ih105 _ (msE hm105 q_16 (q_194 b20 ev19)) _ σ _ _ (x116_12) ((x105_14 + 1)) (rk_o (l116_0) rfl rfl) (rk_o (l116_1) rfl rfl) (rk_o (l116_2) rfl rfl) (rk_o (l116_3) rfl rfl) (rk_o (l116_4) rfl rfl) (rk_o (l116_5) rfl rfl) (rk_o (l116_6) rfl rfl) (rk_o (l116_7) rfl rfl) (rk_o (l116_8) rfl rfl) (rk_o (l116_9) rfl rfl) (rk_o (l116_11) rfl rfl) (rk_o (l116_12) rfl rfl) (rk_o (l116_13) rfl rfl) (rk_s) H (SF_trans (hS_105) hS_116 (any_sub rfl)) (SA_upd (SA_trans (hA_105) hA_116 (any_subA rfl)) rfl)  (upd1 (w105_42) ((a8 + x116_12)) (x96_13)) (congrArg (fun q => upd1 q ((a8 + x116_12)) (x96_13)) ((funext (hA_116 42 rfl)).trans (ew105_42))) (show inr (x116_12) from j116_0) (show inr ((x105_14 + 1)) by omega) (show 0 ≤ ((x105_14 + 1)) ∧ ((x105_14 + 1)) ≤ posi ((sh ((w39)) ((a2))) ((x96_13))) by omega) (hpt2) (hcb2) (show FRM ((w42)) ((upd1 (w105_42) ((a8 + x116_12)) (x96_13))) (a8) ((a8) + p2 ((a4))) by assumption) rfl
                    · refine Ew_of (pcₚ := 129) (fun _ => x_iload rfl l116_12) ?_
                      refine Ew_of (pcₚ := 131) (fun _ => x_iload rfl l116_11) ?_
                      refine w_iadd rfl ?_
                      refine Ew_of (pcₚ := 134) (fun _ => x_iload rfl l116_9) ?_
                      refine w_irem rfl (show inr ((x116_12 + (((p2 (a4) / 2) + (p2 (a4) / 8)) + 3))) ∧ 0 ≤ (x116_12 + (((p2 (a4) / 2) + (p2 (a4) / 8)) + 3)) by omega) (show inr (p2 (a4)) ∧ 0 < p2 (a4) by omega) ?_
                      refine Ew_of (pcₚ := 137) (fun _ => x_istore rfl) ?_
                      refine Ew_of (pcₚ := 116) (fun _ => x_goto rfl rfl) ?_
                      have hfm := PTI_next (pₚ := (((x116_12 + (((p2 (a4) / 2) + (p2 (a4) / 8)) + 3)) % p2 (a4)))) h59 (by omega) (show PTI (sh ((w39)) ((a2))) (a3) (a4) (sh ((w105_42)) ((a8))) _ (cum (sh ((w39)) ((a2))) ((x96_13)) + (x105_14)) (p2 ((a4)) - m) from by assumption) (by omega) (by omega) (by first | rfl | (congr 1; omega))
                      have := hfm.1
                      have := hfm.2
                      have hrg2 := PTI_rng hfm.2
                      exact ih116 (m - 1) (by omega) _ σ _ _ (((x116_12 + (((p2 (a4) / 2) + (p2 (a4) / 8)) + 3)) % p2 (a4))) (rk_o (l116_0) rfl rfl) (rk_o (l116_1) rfl rfl) (rk_o (l116_2) rfl rfl) (rk_o (l116_3) rfl rfl) (rk_o (l116_4) rfl rfl) (rk_o (l116_5) rfl rfl) (rk_o (l116_6) rfl rfl) (rk_o (l116_7) rfl rfl) (rk_o (l116_8) rfl rfl) (rk_o (l116_9) rfl rfl) (rk_o (l116_11) rfl rfl) (rk_s) (rk_o (l116_13) rfl rfl) (rk_o (l116_14) rfl rfl) H (hS_116) (hA_116)   (show inr (((x116_12 + (((p2 (a4) / 2) + (p2 (a4) / 8)) + 3)) % p2 (a4))) by omega) (by assumption)
        · have hle := SH_le ((x38_11)) hsh (by omega) (by omega)
          have hns := ngs_s (P := sh ((w39)) ((a2))) (s := (x38_11)) (by omega)
          have hne := neg1_eq ((sh ((w39)) ((a2))) ((x38_11)))
          have hpe : (sh ((w39)) ((a2))) ((x38_11)) = ((w39)) ((a2) + (x38_11)) := rfl
          have hnm := ngs_mono (P := sh ((w39)) ((a2))) (s := (x38_11) + 1) (t := (a3)) (by omega) (by omega)
          have j38_n : ∀ s, 0 ≤ s → s < (x38_11) → (sh ((w39)) ((a2))) s < 0 → (sh ((w38_42)) ((a8))) (p2 ((a4)) - 1 - ngs (sh ((w39)) ((a2))) s) = s := by assumption
          have j38_m : ∀ k, 0 ≤ k → k < (x38_10) → (sh ((w38_42)) ((a8))) k = -1 := by assumption
          have j38_c : CA (sh ((w39)) ((a2))) (a3) (a4) (sh ((w38_42)) ((a8))) ((x38_11)) := j38_8
          refine Ew_of (pcₚ := 45) (fun _ => x_aload_n rfl l38_1) ?_
          refine Ew_of (pcₚ := 46) (fun _ => x_iload_n rfl l38_2) ?_
          refine Ew_of (pcₚ := 48) (fun _ => x_iload rfl l38_11) ?_
          refine w_iadd rfl ?_
          refine w_lI H (o := 39) (n := 256) rfl (H.perm 39 rfl) rfl rfl (H.fix 39 rfl rfl) (show 0 ≤ (a2 + x38_11) ∧ (a2 + x38_11) < ((256 : Nat) : Int) from q_1326 b3 h5 j38_2) (by decide) (fun v23 ev23 qv23 => ?_)
          have qv23 : (-1 : Int) ≤ v23 ∧ v23 ≤ 1048576 := qv23
          have ev23 : (w39) ((a2 + x38_11)) = v23 := (congrFun ((funext (hA_38 39 rfl)).trans ((funext (hA_9 39 rfl)).trans (ew39))) ((a2 + x38_11))).symm.trans ev23
          refine Ew_of (pcₚ := 51) (fun _ => x_iconst rfl) ?_
          refine w_icmpeq (t := 57) rfl rfl (show inr (v23) from q_1327 qv23) (show inr ((-1)) from q_63) (fun b24 => ?_) (fun b24 => ?_)
          · refine Ew_of (pcₚ := 60) (fun _ => x_iinc (len := 3) rfl (l38_10)) ?_
            have : FRM ((w42)) (upd1 ((w38_42)) ((a8) + ((x38_10 + (-1)))) ((x38_11))) (a8) ((a8) + p2 ((a4))) := FRM_upd (by assumption) (by omega) (by omega)
            have hpp : (sh ((w38_42)) ((a8))) (((x38_10 + (-1)))) = -1 := j38_m (((x38_10 + (-1)))) (by omega) (by omega)
            have hlt : (sh ((w39)) ((a2))) ((x38_11)) < 0 := q_1319 b24 ev23 hpe
            have hc2 : CA (sh ((w39)) ((a2))) (a3) (a4) (sh (upd1 ((w38_42)) ((a8) + ((x38_10 + (-1)))) ((x38_11))) ((a8))) ((x38_11) + 1) := by rw [sh_upd]; exact CA_neg j38_c rfl hlt (by omega) (by omega) hpp
            have hn2 : ∀ s, 0 ≤ s → s < (x38_11) + 1 → (sh ((w39)) ((a2))) s < 0 → (sh (upd1 ((w38_42)) ((a8) + ((x38_10 + (-1)))) ((x38_11))) ((a8))) (p2 ((a4)) - 1 - ngs (sh ((w39)) ((a2))) s) = s := fun s a b c => by rw [sh_upd]; by_cases e : s = (x38_11); (rw [e, show p2 ((a4)) - 1 - ngs (sh ((w39)) ((a2))) ((x38_11)) = ((x38_10 + (-1))) by omega, upd1_s]); (have hm := ngs_mono (P := sh ((w39)) ((a2))) (s := s + 1) (t := (x38_11)) (by omega) (by omega); have hs := ngs_s (P := sh ((w39)) ((a2))) (s := s) (by omega); have hq := neg1_eq ((sh ((w39)) ((a2))) s); rw [upd1_o (by omega)]; exact j38_n s a (by omega) c)
            have hm2 : ∀ k, 0 ≤ k → k < ((x38_10 + (-1))) → (sh (upd1 ((w38_42)) ((a8) + ((x38_10 + (-1)))) ((x38_11))) ((a8))) k = -1 := fun k a b => by rw [sh_upd, upd1_o (by omega)]; exact j38_m k a (by omega)
            refine Ew_of (pcₚ := 62) (fun _ => x_aload rfl (rk_o (l38_5) rfl rfl)) ?_
            refine Ew_of (pcₚ := 64) (fun _ => x_iload rfl (rk_o (l38_8) rfl rfl)) ?_
            refine Ew_of (pcₚ := 66) (fun _ => x_iload rfl rk_s) ?_
            refine w_iadd rfl ?_
            refine Ew_of (pcₚ := 69) (fun _ => x_iload rfl (rk_o (l38_11) rfl rfl)) ?_
            refine w_sI H (o := 42) (n := 64) rfl (H.perm 42 rfl) rfl rfl (H.fix 42 rfl rfl) (show 0 ≤ (a8 + (x38_10 + (-1))) ∧ (a8 + (x38_10 + (-1))) < ((64 : Nat) : Int) by omega) (by decide) (show (-1 : Int) ≤ x38_11 ∧ x38_11 ≤ 11 from q_1331 b3 h7 j38_2) (fun σ H => ?_)
            refine Ew_of (pcₚ := 73) (fun _ => x_iinc (len := 3) rfl (rk_o (l38_11) rfl rfl)) ?_
            refine Ew_of (pcₚ := 38) (fun _ => x_goto rfl rfl) ?_
            have : CA (sh ((w39)) ((a2))) (a3) (a4) (sh ((upd1 (w38_42) ((a8 + (x38_10 + (-1)))) (x38_11))) ((a8))) (((x38_11 + 1))) := by first | assumption | exact CA_skip j38_c rfl (by omega)
            have : ∀ s, 0 ≤ s → s < ((x38_11 + 1)) → (sh ((w39)) ((a2))) s < 0 → (sh ((upd1 (w38_42) ((a8 + (x38_10 + (-1)))) (x38_11))) ((a8))) (p2 ((a4)) - 1 - ngs (sh ((w39)) ((a2))) s) = s := by first | assumption | exact (fun s a b c => by by_cases e : s = ((x38_11 + 1)) - 1; (rw [e] at c; rw [show ((x38_11 + 1)) - 1 = x38_11 by omega] at c; omega); exact j38_n s a (by omega) c)
            have : ∀ k, 0 ≤ k → k < ((x38_10 + (-1))) → (sh ((upd1 (w38_42) ((a8 + (x38_10 + (-1)))) (x38_11))) ((a8))) k = -1 := by assumption
            exact ih38 _ (msE hm38 q_16 (q_17 b3)) _ σ _ _ ((x38_10 + (-1))) ((x38_11 + 1)) (rk_o (rk_o (l38_0) rfl rfl) rfl rfl) (rk_o (rk_o (l38_1) rfl rfl) rfl rfl) (rk_o (rk_o (l38_2) rfl rfl) rfl rfl) (rk_o (rk_o (l38_3) rfl rfl) rfl rfl) (rk_o (rk_o (l38_4) rfl rfl) rfl rfl) (rk_o (rk_o (l38_5) rfl rfl) rfl rfl) (rk_o (rk_o (l38_6) rfl rfl) rfl rfl) (rk_o (rk_o (l38_7) rfl rfl) rfl rfl) (rk_o (rk_o (l38_8) rfl rfl) rfl rfl) (rk_o (rk_o (l38_9) rfl rfl) rfl rfl) (rk_o (rk_s) rfl rfl) (rk_s) H (hS_38) (SA_upd (hA_38) rfl)  (upd1 (w38_42) ((a8 + (x38_10 + (-1)))) (x38_11)) (congrArg (fun q => upd1 q ((a8 + (x38_10 + (-1)))) (x38_11)) (ew38_42)) (show inr ((x38_10 + (-1))) from q_1320 j38_0 j38_5) (show inr ((x38_11 + 1)) from q_1329 b3 h7 j38_2) (show (0) ≤ ((x38_11 + 1)) from q_14 j38_2) (show ((x38_11 + 1)) ≤ (0) ∨ ((x38_11 + 1)) ≤ ((a3)) from q_13 b3) (show ((x38_10 + (-1))) = p2 ((a4)) - ngs (sh ((w39)) ((a2))) (((x38_11 + 1))) by omega) (show 0 ≤ ((x38_10 + (-1))) ∧ ((x38_10 + (-1))) ≤ p2 ((a4)) by omega) (hn2) (hm2) (hc2) (show FRM ((w42)) ((upd1 (w38_42) ((a8 + (x38_10 + (-1)))) (x38_11))) (a8) ((a8) + p2 ((a4))) by assumption) rfl
          · refine Ew_of (pcₚ := 70) (fun _ => x_goto rfl rfl) ?_
            refine Ew_of (pcₚ := 73) (fun _ => x_iinc (len := 3) rfl (l38_11)) ?_
            refine Ew_of (pcₚ := 38) (fun _ => x_goto rfl rfl) ?_
            have : CA (sh ((w39)) ((a2))) (a3) (a4) (sh ((w38_42)) ((a8))) (((x38_11 + 1))) := by first | assumption | exact CA_skip j38_c rfl (by omega)
            have : ∀ s, 0 ≤ s → s < ((x38_11 + 1)) → (sh ((w39)) ((a2))) s < 0 → (sh ((w38_42)) ((a8))) (p2 ((a4)) - 1 - ngs (sh ((w39)) ((a2))) s) = s := by first | assumption | exact (fun s a b c => by by_cases e : s = ((x38_11 + 1)) - 1; (rw [e] at c; rw [show ((x38_11 + 1)) - 1 = x38_11 by omega] at c; omega); exact j38_n s a (by omega) c)
            have : ∀ k, 0 ≤ k → k < (x38_10) → (sh ((w38_42)) ((a8))) k = -1 := by assumption
            exact ih38 _ (msE hm38 q_16 (q_17 b3)) _ σ _ _ (x38_10) ((x38_11 + 1)) (rk_o (l38_0) rfl rfl) (rk_o (l38_1) rfl rfl) (rk_o (l38_2) rfl rfl) (rk_o (l38_3) rfl rfl) (rk_o (l38_4) rfl rfl) (rk_o (l38_5) rfl rfl) (rk_o (l38_6) rfl rfl) (rk_o (l38_7) rfl rfl) (rk_o (l38_8) rfl rfl) (rk_o (l38_9) rfl rfl) (rk_o (l38_10) rfl rfl) (rk_s) H (hS_38) (hA_38)  (w38_42) (ew38_42) (show inr (x38_10) from j38_0) (show inr ((x38_11 + 1)) from q_1329 b3 h7 j38_2) (show (0) ≤ ((x38_11 + 1)) from q_14 j38_2) (show ((x38_11 + 1)) ≤ (0) ∨ ((x38_11 + 1)) ≤ ((a3)) from q_13 b3) (show (x38_10) = p2 ((a4)) - ngs (sh ((w39)) ((a2))) (((x38_11 + 1))) by omega) (show 0 ≤ (x38_10) ∧ (x38_10) ≤ p2 ((a4)) from j38_5) (show ∀ s, 0 ≤ s → s < ((x38_11 + 1)) → (sh ((w39)) ((a2))) s < 0 → (sh ((w38_42)) ((a8))) (p2 ((a4)) - 1 - ngs (sh ((w39)) ((a2))) s) = s by assumption) (j38_m) (show CA (sh ((w39)) ((a2))) (a3) (a4) (sh ((w38_42)) ((a8))) (((x38_11 + 1))) by assumption) (j38_9) rfl
    · have : FRM ((w42)) (upd1 ((w9_42)) ((a8) + (x9_10)) (-1)) (a8) ((a8) + p2 ((a4))) := FRM_upd (by assumption) (by omega) (by omega)
      refine Ew_of (pcₚ := 18) (fun _ => x_aload rfl l9_5) ?_
      refine Ew_of (pcₚ := 20) (fun _ => x_iload rfl l9_8) ?_
      refine Ew_of (pcₚ := 22) (fun _ => x_iload rfl l9_10) ?_
      refine w_iadd rfl ?_
      refine Ew_of (pcₚ := 24) (fun _ => x_iconst rfl) ?_
      refine w_sI H (o := 42) (n := 64) rfl (H.perm 42 rfl) rfl rfl (H.fix 42 rfl rfl) (show 0 ≤ (a8 + x9_10) ∧ (a8 + x9_10) < ((64 : Nat) : Int) from q_1324 b2 h6 j9_1) (by decide) (show (-1 : Int) ≤ (-1) ∧ (-1) ≤ 11 from q_1332) (fun σ H => ?_)
      refine Ew_of (pcₚ := 28) (fun _ => x_iinc (len := 3) rfl (l9_10)) ?_
      refine Ew_of (pcₚ := 9) (fun _ => x_goto rfl rfl) ?_
      have : ∀ k, 0 ≤ k → k < ((x9_10 + 1)) → ((upd1 (w9_42) ((a8 + x9_10)) ((-1)))) ((a8) + k) = -1 := fill_upd j9_3
      exact ih9 _ (msE hm9 q_16 (q_17 b2)) _ σ _ _ ((x9_10 + 1)) (rk_o (l9_0) rfl rfl) (rk_o (l9_1) rfl rfl) (rk_o (l9_2) rfl rfl) (rk_o (l9_3) rfl rfl) (rk_o (l9_4) rfl rfl) (rk_o (l9_5) rfl rfl) (rk_o (l9_6) rfl rfl) (rk_o (l9_7) rfl rfl) (rk_o (l9_8) rfl rfl) (rk_o (l9_9) rfl rfl) (rk_s) H (hS_9) (SA_upd (hA_9) rfl)  (upd1 (w9_42) ((a8 + x9_10)) ((-1))) (congrArg (fun q => upd1 q ((a8 + x9_10)) ((-1))) (ew9_42)) (show inr ((x9_10 + 1)) from q_1325 b2 h6 j9_1) (show (0) ≤ ((x9_10 + 1)) from q_14 j9_1) (show ((x9_10 + 1)) ≤ (0) ∨ ((x9_10 + 1)) ≤ ((p2 (a4))) from q_13 b2) (show ∀ k, 0 ≤ k → k < ((x9_10 + 1)) → ((upd1 (w9_42) ((a8 + x9_10)) ((-1)))) ((a8) + k) = -1 by assumption) (show FRM ((w42)) ((upd1 (w9_42) ((a8 + x9_10)) ((-1)))) (a8) ((a8) + p2 ((a4))) by assumption) rfl

