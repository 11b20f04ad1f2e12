abbrev V198 : vV := []
/-- Tags.isShort:  -/
theorem C198 {σE : rS} {D N : Nat → Nat} {F : hF} {A : hA} {d c s : Nat} {Q : wQ} (H : HW V198 σE D N F A) {a1 a2 : Int} (h0 : inr (a1)) (h1 : inr (a2)) (h2 : (a2) = 0 ∨ (a2) = 1) (k : ∀ (z : Int) (σ : rS) (F' : hF) (A' : hA), HW V198 σ D N F' A' → OUT (V198).length D N σE c s D N σ c s → SF [] F F' → SA [] A A' → ((z) = 0 ∨ (z) = 1) → ((z) = 1 ∧ ((a2) = 1 ∧ 4 ≤ (a1) ∧ (a1) ≤ 11) ∨ (z) = 0 ∧ ¬((a2) = 1 ∧ 4 ≤ (a1) ∧ (a1) ≤ 11)) → Q (some (I z)) σ c s) : Ew 198 (d + 0) 0 (rargs 0 [I a1, I a2]) [] σE c s Q := by
  have O := OUT_refl (n := (V198).length) (D := D) (N := N) (σ := σE) (c := c) (s := s)
  have HE := H
  refine Ew_of (pc' := 1) (fun _ => x_iload_n rfl rfl) ?_
  refine w_ifeq (t := 19) rfl rfl (show inr (a2) by omega) (fun b1 => ?_) (fun b1 => ?_)
  · refine Ew_of (pc' := 20) (fun _ => x_iconst rfl) ?_
    exact w_ireturn rfl (k (0) _ _ _ H O (SF_refl) (SA_refl) (show (0) = 0 ∨ (0) = 1 by omega) (show (0) = 1 ∧ (a2 = 1 ∧ 4 ≤ a1 ∧ a1 ≤ 11) ∨ (0) = 0 ∧ ¬(a2 = 1 ∧ 4 ≤ a1 ∧ a1 ≤ 11) by omega))
  · refine Ew_of (pc' := 5) (fun _ => x_iload_n rfl rfl) ?_
    refine Ew_of (pc' := 6) (fun _ => x_iconst rfl) ?_
    refine w_icmplt (t := 19) rfl rfl (show inr (a1) by omega) (show inr (4) by omega) (fun b2 => ?_) (fun b2 => ?_)
    · refine Ew_of (pc' := 20) (fun _ => x_iconst rfl) ?_
      exact w_ireturn rfl (k (0) _ _ _ H O (SF_refl) (SA_refl) (show (0) = 0 ∨ (0) = 1 by omega) (show (0) = 1 ∧ (a2 = 1 ∧ 4 ≤ a1 ∧ a1 ≤ 11) ∨ (0) = 0 ∧ ¬(a2 = 1 ∧ 4 ≤ a1 ∧ a1 ≤ 11) by omega))
    · refine Ew_of (pc' := 10) (fun _ => x_iload_n rfl rfl) ?_
      refine Ew_of (pc' := 12) (fun _ => x_bipush (z := 11) rfl (by decide)) ?_
      refine w_icmpgt (t := 19) rfl rfl (show inr (a1) by omega) (show inr (11) by omega) (fun b3 => ?_) (fun b3 => ?_)
      · refine Ew_of (pc' := 20) (fun _ => x_iconst rfl) ?_
        exact w_ireturn rfl (k (0) _ _ _ H O (SF_refl) (SA_refl) (show (0) = 0 ∨ (0) = 1 by omega) (show (0) = 1 ∧ (a2 = 1 ∧ 4 ≤ a1 ∧ a1 ≤ 11) ∨ (0) = 0 ∧ ¬(a2 = 1 ∧ 4 ≤ a1 ∧ a1 ≤ 11) by omega))
      · refine Ew_of (pc' := 16) (fun _ => x_iconst rfl) ?_
        refine Ew_of (pc' := 20) (fun _ => x_goto rfl rfl) ?_
        exact w_ireturn rfl (k (1) _ _ _ H O (SF_refl) (SA_refl) (show (1) = 0 ∨ (1) = 1 by omega) (show (1) = 1 ∧ (a2 = 1 ∧ 4 ≤ a1 ∧ a1 ≤ 11) ∨ (1) = 0 ∧ ¬(a2 = 1 ∧ 4 ≤ a1 ∧ a1 ≤ 11) by omega))
abbrev V200 : vV := []
/-- Tags.fewest:  -/
theorem C200 {σE : rS} {D N : Nat → Nat} {F : hF} {A : hA} {d c s : Nat} {Q : wQ} (H : HW V200 σE D N F A) {a1 a2 : Int} (h0 : inr (a1)) (h1 : inr (a2)) (h2 : (a2) = 0 ∨ (a2) = 1) (h3 : 0 ≤ (a1) ∧ (a1) ≤ 65536) (k : ∀ (z : Int) (σ : rS) (F' : hF) (A' : hA), HW V200 σ D N F' A' → OUT (V200).length D N σE c s D N σ c s → SF [] F F' → SA [] A A' → (inr (z)) → (0 ≤ (z) ∧ (z) ≤ 4000) → ((z) = cfw ((a2)) ((a1))) → Q (some (I z)) σ c s) : Ew 200 (d + 0) 0 (rargs 0 [I a1, I a2]) [] σE c s Q := by
  have O := OUT_refl (n := (V200).length) (D := D) (N := N) (σ := σE) (c := c) (s := s)
  have HE := H
  refine Ew_of (pc' := 1) (fun _ => x_iconst rfl) ?_
  refine Ew_of (pc' := 2) (fun _ => x_iload_n rfl rfl) ?_
  refine Ew_of (pc' := 4) (fun _ => x_bipush (z := 63) rfl (by decide)) ?_
  refine w_iadd rfl ?_
  refine Ew_of (pc' := 7) (fun _ => x_bipush (z := 64) rfl (by decide)) ?_
  refine w_idiv rfl (show inr ((a1 + 63)) ∧ 0 ≤ (a1 + 63) by omega) (show inr (64) ∧ 0 < 64 by omega) ?_
  refine w_imul rfl ?_
  refine Ew_of (pc' := 10) (fun _ => x_istore_n rfl) ?_
  refine Ew_of (pc' := 11) (fun _ => x_iload_n rfl (rk_o (rfl) rfl rfl)) ?_
  refine w_ifeq (t := 19) rfl rfl (show inr (a2) by omega) (fun b1 => ?_) (fun b1 => ?_)
  · refine Ew_of (pc' := 20) (fun _ => x_iload_n rfl rk_s) ?_
    have : ((3 * ((a1 + 63) / 64))) = cfw ((a2)) ((a1)) := by rcases cfw_eq ((a2)) ((a1)) with ⟨x1, x2⟩ | ⟨x1, x, x2, x3⟩ <;> omega
    exact w_ireturn rfl (k ((3 * ((a1 + 63) / 64))) _ _ _ H O (SF_refl) (SA_refl) (show inr ((3 * ((a1 + 63) / 64))) by omega) (show 0 ≤ ((3 * ((a1 + 63) / 64))) ∧ ((3 * ((a1 + 63) / 64))) ≤ 4000 by omega) (show ((3 * ((a1 + 63) / 64))) = cfw (a2) (a1) by assumption))
  · refine Ew_of (pc' := 15) (fun _ => x_iload_n rfl (rk_o (rfl) rfl rfl)) ?_
    refine Ew_of (pc' := 16) (fun _ => x_iconst rfl) ?_
    refine w_icmpge (t := 21) rfl rfl (show inr (a1) by omega) (show inr (4) by omega) (fun b2 => ?_) (fun b2 => ?_)
    · refine Ew_of (pc' := 22) (fun _ => x_iload_n rfl rk_s) ?_
      refine Ew_of (pc' := 23) (fun _ => x_iconst rfl) ?_
      refine Ew_of (pc' := 24) (fun _ => x_iconst rfl) ?_
      refine Ew_of (pc' := 25) (fun _ => x_iconst rfl) ?_
      refine Ew_of (pc' := 26) (fun _ => x_iload_n rfl (rk_o (rfl) rfl rfl)) ?_
      refine Ew_of (pc' := 28) (fun _ => x_bipush (z := 11) rfl (by decide)) ?_
      refine w_isub rfl ?_
      refine v_max rfl rfl (show inr (0) by omega) (show inr ((a1 - 11)) by omega) (fun z3 gz3 => ?_)
      refine Ew_of (pc' := 34) (fun _ => x_bipush (z := 63) rfl (by decide)) ?_
      refine w_iadd rfl ?_
      refine Ew_of (pc' := 37) (fun _ => x_bipush (z := 64) rfl (by decide)) ?_
      refine w_idiv rfl (show inr ((z3 + 63)) ∧ 0 ≤ (z3 + 63) by omega) (show inr (64) ∧ 0 < 64 by omega) ?_
      refine w_imul rfl ?_
      refine w_iadd rfl ?_
      refine v_min rfl rfl (show inr ((3 * ((a1 + 63) / 64))) by omega) (show inr ((2 + (3 * ((z3 + 63) / 64)))) by omega) (fun z4 gz4 => ?_)
      have : (z4) = cfw ((a2)) ((a1)) := by rcases cfw_eq ((a2)) ((a1)) with ⟨x1, x2⟩ | ⟨x1, x, x2, x3⟩ <;> omega
      exact w_ireturn rfl (k (z4) _ _ _ H O (SF_refl) (SA_refl) (show inr (z4) by omega) (show 0 ≤ (z4) ∧ (z4) ≤ 4000 by omega) (show (z4) = cfw (a2) (a1) by assumption))
    · refine Ew_of (pc' := 20) (fun _ => x_iload_n rfl rk_s) ?_
      have : ((3 * ((a1 + 63) / 64))) = cfw ((a2)) ((a1)) := by rcases cfw_eq ((a2)) ((a1)) with ⟨x1, x2⟩ | ⟨x1, x, x2, x3⟩ <;> omega
      exact w_ireturn rfl (k ((3 * ((a1 + 63) / 64))) _ _ _ H O (SF_refl) (SA_refl) (show inr ((3 * ((a1 + 63) / 64))) by omega) (show 0 ≤ ((3 * ((a1 + 63) / 64))) ∧ ((3 * ((a1 + 63) / 64))) ≤ 4000 by omega) (show ((3 * ((a1 + 63) / 64))) = cfw (a2) (a1) by assumption))
abbrev V199 : vV := []
/-- Tags.firstCopy:  -/
theorem C199 {σE : rS} {D N : Nat → Nat} {F : hF} {A : hA} {d c s : Nat} {Q : wQ} (H : HW V199 σE D N F A) {a1 a2 : Int} (h0 : inr (a1)) (h1 : inr (a2)) (h2 : (a2) = 0 ∨ (a2) = 1) (h3 : 1 ≤ (a1) ∧ (a1) ≤ 65536) (k : ∀ (z : Int) (σ : rS) (F' : hF) (A' : hA), HW V199 σ D N F' A' → OUT (V199).length D N σE c s D N σ c s → SF [] F F' → SA [] A A' → (inr (z)) → (1 ≤ (z) ∧ (z) ≤ (a1)) → ((z) = fcl ((a2)) ((a1))) → Q (some (I z)) σ c s) : Ew 199 (d + 1) 0 (rargs 0 [I a1, I a2]) [] σE c s Q := by
  have O := OUT_refl (n := (V199).length) (D := D) (N := N) (σ := σE) (c := c) (s := s)
  have HE := H
  refine Ew_of (pc' := 1) (fun _ => x_iload_n rfl rfl) ?_
  refine Ew_of (pc' := 2) (fun _ => x_iload_n rfl rfl) ?_
  refine w_stat24 rfl rfl (by rfl) (C200 (D := pul [] D) (N := pul [] N) (HW_sub H (VS_of (show vsub V199 V200 [] = true by decide +kernel))) (show inr (a1) by omega) (show inr (a2) by omega) (show (a2) = 0 ∨ (a2) = 1 by omega) (show 0 ≤ (a1) ∧ (a1) ≤ 65536 by omega) (fun z1 σ1 F1' A1' H' O' hS1 hA1 pz1_0 pz1_1 pz1_2 => ⟨rfl, ?_⟩))
  refine v_back (c := c) (s := s) H (show vsub V199 V200 [] = true by decide +kernel) H' O' (fun F1 A1 H O' eF1 eA1 => ?_)
  have O := OUT_trans O O'
  -- Tags.fewest
  have hl2 := pz1_2
  refine Ew_of (pc' := 6) (fun _ => x_istore_n rfl) ?_
  refine Ew_of (pc' := 8) (fun _ => x_bipush (z := 64) rfl (by decide)) ?_
  refine Ew_of (pc' := 9) (fun _ => x_iload_n rfl (rk_o (rfl) rfl rfl)) ?_
  refine v_min rfl rfl (show inr (64) by omega) (show inr (a1) by omega) (fun z2 gz2 => ?_)
  refine Ew_of (pc' := 13) (fun _ => x_istore_n rfl) ?_
  have : fcl ((a2)) ((a1)) = fcn ((a2)) ((a1)) ((z2) : Int).toNat := by unfold fcl m64; by_cases z : (a1) < 64; (rw [if_pos z, show (z2) = (a1) by omega]); (rw [if_neg z, show (z2) = 64 by omega])
  suffices hl13 : ∀ (m : Nat), ∀ (ls : rO) (σ : rS) (F_13 : hF) (A_13 : hA) (x13_3 : Int), rlook ls 0 = some (I (a1)) → rlook ls 1 = some (I (a2)) → rlook ls 2 = some (I (z1)) → rlook ls 3 = some (I (x13_3)) → HW V199 σ D N F_13 A_13 → OUT (V199).length D N σE c s D N σ c s → SF [] F1 F_13 → SA [] A1 A_13 → (inr (x13_3)) → ((x13_3) ≤ (z2)) → ((z2) ≤ (x13_3) ∨ (1) ≤ (x13_3)) → (fcl ((a2)) ((a1)) = fcn ((a2)) ((a1)) ((x13_3) : Int).toNat) → ((x13_3) - (1)).toNat = m → Ew 199 (d + 1) 13 ls [] σ c s Q from
    hl13 _ _ _ _ _ (z2) (rk_o (rk_o (rfl) rfl rfl) rfl rfl) (rk_o (rk_o (rfl) rfl rfl) rfl rfl) (rk_o (rk_s) rfl rfl) (rk_s) H O (SF_refl) (SA_refl)     (show inr (z2) by omega) (show (z2) ≤ (z2) by omega) (show (z2) ≤ (z2) ∨ (1) ≤ (z2) by omega) (show fcl ((a2)) ((a1)) = fcn ((a2)) ((a1)) ((z2) : Int).toNat by assumption) rfl
  as_aux_lemma =>
  intro m
  induction m using Nat.strongRecOn with
  | _ m ih13 =>
    intro ls σ F_13 A_13 x13_3 l13_0 l13_1 l13_2 l13_3 H O hS_13 hA_13     j13_0 j13_1 j13_2 j13_3 hm13
    have j13_q : fcl ((a2)) ((a1)) = fcn ((a2)) ((a1)) ((x13_3) : Int).toNat := by assumption
    refine Ew_of (pc' := 14) (fun _ => x_iload_n rfl l13_3) ?_
    refine Ew_of (pc' := 15) (fun _ => x_iconst rfl) ?_
    refine w_icmple (t := 51) rfl rfl (show inr (x13_3) by omega) (show inr (1) by omega) (fun b3 => ?_) (fun b3 => ?_)
    · refine Ew_of (pc' := 52) (fun _ => x_iconst rfl) ?_
      have : (1 : Int) = fcl ((a2)) ((a1)) := by rw [j13_q, show (x13_3) = 1 by omega]; exact fcn_1.symm
      exact w_ireturn rfl (k (1) _ _ _ H O (SF_trans (SF_trans (SF_refl) (SF_glu (ι := []) hS1 eF1 (by decide +kernel)) (any_sub (l' := []) rfl)) hS_13 (any_sub rfl)) (SA_trans (SA_trans (SA_refl) (SA_glu (ι := []) hA1 eA1 (by decide +kernel)) (any_subA (l' := []) rfl)) hA_13 (any_subA rfl)) (show inr (1) by omega) (show 1 ≤ (1) ∧ (1) ≤ a1 by omega) (show (1) = fcl (a2) (a1) by assumption))
    · have hc31 : ∀ (tc31_0 : Int), ∀ (ls : rO) (σ : rS) (F_c31 : hF) (A_c31 : hA) , rlook ls 0 = some (I (a1)) → rlook ls 1 = some (I (a2)) → rlook ls 2 = some (I (z1)) → rlook ls 3 = some (I (x13_3)) → HW V199 σ D N F_c31 A_c31 → OUT (V199).length D N σE c s D N σ c s → SF [] F_13 F_c31 → SA [] A_13 A_c31 → (inr (tc31_0)) → ((tc31_0) = bC ((a2)) ((x13_3))) → ((tc31_0) = 2 ∨ (tc31_0) = 3) → Ew 199 (d + 1) 31 ls [I (tc31_0)] σ c s Q := by
       as_aux_lemma =>
        intro tc31_0 ls σ F_c31 A_c31  lc31_0 lc31_1 lc31_2 lc31_3 H O hS_c31 hA_c31     jc31_0 jc31_1 jc31_2
        refine Ew_of (pc' := 32) (fun _ => x_iload_n rfl lc31_0) ?_
        refine Ew_of (pc' := 33) (fun _ => x_iload_n rfl lc31_3) ?_
        refine w_isub rfl ?_
        refine Ew_of (pc' := 35) (fun _ => x_iload_n rfl lc31_1) ?_
        refine w_stat24 rfl rfl (by rfl) (C200 (D := pul [] D) (N := pul [] N) (HW_sub H (VS_of (show vsub V199 V200 [] = true by decide +kernel))) (show inr ((a1 - x13_3)) by omega) (show inr (a2) by omega) (show (a2) = 0 ∨ (a2) = 1 by omega) (show 0 ≤ ((a1 - x13_3)) ∧ ((a1 - x13_3)) ≤ 65536 by omega) (fun z4 σ4 F4' A4' H' O' hS4 hA4 pz4_0 pz4_1 pz4_2 => ⟨rfl, ?_⟩))
        refine v_back (c := c) (s := s) H (show vsub V199 V200 [] = true by decide +kernel) H' O' (fun F4 A4 H O' eF4 eA4 => ?_)
        have O := OUT_trans O O'
        -- Tags.fewest
        have hl3 := pz4_2
        refine w_iadd rfl ?_
        refine Ew_of (pc' := 40) (fun _ => x_iload_n rfl lc31_2) ?_
        refine w_icmpne (t := 45) rfl rfl (show inr ((tc31_0 + z4)) by omega) (show inr (z1) by omega) (fun b5 => ?_) (fun b5 => ?_)
        · have : fcl ((a2)) ((a1)) = fcn ((a2)) ((a1)) ((x13_3) + (-1) : Int).toNat := j13_q.trans (fcn_n (by omega) (by omega) (by omega))
          refine Ew_of (pc' := 48) (fun _ => x_iinc (len := 3) rfl (lc31_3)) ?_
          refine Ew_of (pc' := 13) (fun _ => x_goto rfl rfl) ?_
          exact ih13 _ (by omega) _ _ _ _ ((x13_3 + (-1))) (rk_o (lc31_0) rfl rfl) (rk_o (lc31_1) rfl rfl) (rk_o (lc31_2) rfl rfl) (rk_s) H O (SF_trans (SF_trans (hS_13) hS_c31 (any_sub rfl)) (SF_glu (ι := []) hS4 eF4 (by decide +kernel)) (any_sub (l' := []) rfl)) (SA_trans (SA_trans (hA_13) hA_c31 (any_subA rfl)) (SA_glu (ι := []) hA4 eA4 (by decide +kernel)) (any_subA (l' := []) rfl))     (show inr ((x13_3 + (-1))) by omega) (show ((x13_3 + (-1))) ≤ (z2) by omega) (show (z2) ≤ ((x13_3 + (-1))) ∨ (1) ≤ ((x13_3 + (-1))) by omega) (show fcl ((a2)) ((a1)) = fcn ((a2)) ((a1)) (((x13_3 + (-1))) : Int).toNat by assumption) rfl
        · refine Ew_of (pc' := 44) (fun _ => x_iload_n rfl lc31_3) ?_
          have : (x13_3) = fcl ((a2)) ((a1)) := by rw [j13_q]; exact (fcn_y (by omega) (by omega)).symm
          exact w_ireturn rfl (k (x13_3) _ _ _ H O (SF_trans (SF_trans (SF_trans (SF_trans (SF_refl) (SF_glu (ι := []) hS1 eF1 (by decide +kernel)) (any_sub (l' := []) rfl)) hS_13 (any_sub rfl)) hS_c31 (any_sub rfl)) (SF_glu (ι := []) hS4 eF4 (by decide +kernel)) (any_sub (l' := []) rfl)) (SA_trans (SA_trans (SA_trans (SA_trans (SA_refl) (SA_glu (ι := []) hA1 eA1 (by decide +kernel)) (any_subA (l' := []) rfl)) hA_13 (any_subA rfl)) hA_c31 (any_subA rfl)) (SA_glu (ι := []) hA4 eA4 (by decide +kernel)) (any_subA (l' := []) rfl)) (show inr (x13_3) by omega) (show 1 ≤ (x13_3) ∧ (x13_3) ≤ a1 by omega) (show (x13_3) = fcl (a2) (a1) by assumption))
      refine Ew_of (pc' := 19) (fun _ => x_iload_n rfl l13_3) ?_
      refine Ew_of (pc' := 20) (fun _ => x_iload_n rfl l13_1) ?_
      refine w_stat24 rfl rfl (by rfl) (C198 (D := pul [] D) (N := pul [] N) (HW_sub H (VS_of (show vsub V199 V198 [] = true by decide +kernel))) (show inr (x13_3) by omega) (show inr (a2) by omega) (show (a2) = 0 ∨ (a2) = 1 by omega) (fun z6 σ6 F6' A6' H' O' hS6 hA6 pz6_0 pz6_1 => ⟨rretB rfl pz6_0, ?_⟩))
      refine v_back (c := c) (s := s) H (show vsub V199 V198 [] = true by decide +kernel) H' O' (fun F6 A6 H O' eF6 eA6 => ?_)
      have O := OUT_trans O O'
      -- Tags.isShort
      refine w_ifeq (t := 30) rfl rfl (show inr (z6) by omega) (fun b7 => ?_) (fun b7 => ?_)
      · refine Ew_of (pc' := 31) (fun _ => x_iconst rfl) ?_
        have hbc := bC_eq ((a2)) ((x13_3))
        exact hc31 (3) _ _ _ _  (l13_0) (l13_1) (l13_2) (l13_3) H O (SF_trans (SF_refl) (SF_glu (ι := []) hS6 eF6 (by decide +kernel)) (any_sub (l' := []) rfl)) (SA_trans (SA_refl) (SA_glu (ι := []) hA6 eA6 (by decide +kernel)) (any_subA (l' := []) rfl))     (show inr (3) by omega) (show (3) = bC ((a2)) ((x13_3)) by omega) (show (3) = 2 ∨ (3) = 3 by omega)
      · refine Ew_of (pc' := 27) (fun _ => x_iconst rfl) ?_
        refine Ew_of (pc' := 31) (fun _ => x_goto rfl rfl) ?_
        have hbc := bC_eq ((a2)) ((x13_3))
        exact hc31 (2) _ _ _ _  (l13_0) (l13_1) (l13_2) (l13_3) H O (SF_trans (SF_refl) (SF_glu (ι := []) hS6 eF6 (by decide +kernel)) (any_sub (l' := []) rfl)) (SA_trans (SA_refl) (SA_glu (ι := []) hA6 eA6 (by decide +kernel)) (any_subA (l' := []) rfl))     (show inr (2) by omega) (show (2) = bC ((a2)) ((x13_3)) by omega) (show (2) = 2 ∨ (2) = 3 by omega)
abbrev V195_Row : vV := [(0, 7, [(4, 0), (0, 0), (1, 0), (0, 0), (0, 0)]), (1, 0, [])]
/-- Tags.packLength: #1, #1.bytes -/
theorem C195_Row {σE : rS} {D N : Nat → Nat} {F : hF} {A : hA} {d c s : Nat} {Q : wQ} (H : HW V195_Row σE D N F A) {a2 : Int} (pf1 : F 0 0 = (D 1 : Int)) (n1 : Int) (en1 : (N 1 : Int) = n1) (u0_1 : Int) (eu0_1 : F 0 1 = u0_1) (u0_2 : Int) (eu0_2 : F 0 2 = u0_2) (w1 : Int → Int) (ew1 : A 1 = w1) (h0 : inr (a2)) (h1 : 0 ≤ (u0_1) ∧ (u0_1) ≤ (n1) ∧ (n1) ≤ 65536) (h2 : 0 ≤ (a2) ∧ (a2) ≤ 65536) (k : ∀ (σ : rS) (D' N' : Nat → Nat) (F' : hF) (A' : hA) (c' s' : Nat), HW V195_Row σ D' N' F' A' → OUT (V195_Row).length D N σE c s D' N' σ c' s' → SD [1] D D' → SD [1] N N' → SF [(0, 0), (0, 1), (0, 2)] F F' → SA [1] A A' → F' 0 0 = (D' 1 : Int) → ∀ m1 : Int, (N' 1 : Int) = m1 → ∀ y0_1 : Int, F' 0 1 = y0_1 → ∀ y0_2 : Int, F' 0 2 = y0_2 → ∀ v1 : Int → Int, A' 1 = v1 → (0 ≤ (y0_1) ∧ (y0_1) ≤ (m1) ∧ (m1) ≤ 65536) → (RAP ((u0_2)) ((w1)) ((u0_1)) ((y0_2)) ((v1)) ((y0_1)) (vlr ((a2)))) → Q none σ c' s') : Ew 195 (d + 3) 0 (rargs 0 [.ref (D 0), I a2]) [] σE c s Q := by
  have O := OUT_refl (n := (V195_Row).length) (D := D) (N := N) (σ := σE) (c := c) (s := s)
  have HE := H
  have r1 : (-2147483648 : Int) ≤ u0_1 ∧ u0_1 ≤ 2147483647 := by have h1 : (-2147483648 : Int) ≤ F 0 1 ∧ F 0 1 ≤ 2147483647 := H.krg 0 1 (by decide); rw [show F 0 1 = u0_1 from (eu0_1)] at h1; exact h1
  have r2 : (0 : Int) ≤ u0_2 ∧ u0_2 ≤ 1 := by have h1 : (0 : Int) ≤ F 0 2 ∧ F 0 2 ≤ 1 := H.krg 0 2 (by decide); rw [show F 0 2 = u0_2 from (eu0_2)] at h1; exact h1
  have r3 : (0 : Int) ≤ n1 ∧ n1 ≤ 1000000 := by have h1 := H.nle 1 (by decide); have h2 : (N 1 : Int) = n1 := en1; omega
  refine Ew_of (pc' := 1) (fun _ => x_iload_n rfl rfl) ?_
  refine Ew_of (pc' := 2) (fun _ => x_istore_n rfl) ?_
  refine Ew_of (pc' := 3) (fun _ => x_iconst rfl) ?_
  refine Ew_of (pc' := 4) (fun _ => x_istore_n rfl) ?_
  have : RTO ((u0_2)) ((w1)) ((u0_1)) ((u0_2)) ((w1)) ((u0_1)) (vlr ((a2))) (vlr ((a2))) := RTO_0
  suffices hl4 : ∀ (m : Nat), ∀ (ls : rO) (σ : rS) (D_4 N_4 : Nat → Nat) (c_4 s_4 : Nat) (F_4 : hF) (A_4 : hA) (x4_2 : Int) (x4_3 : Int), rlook ls 0 = some (.ref (D_4 0)) → rlook ls 2 = some (I (x4_2)) → rlook ls 3 = some (I (x4_3)) → HW V195_Row σ D_4 N_4 F_4 A_4 → OUT (V195_Row).length D N σE c s D_4 N_4 σ c_4 s_4 → SD [1] D D_4 → SD [1] N N_4 → SF [(0, 0), (0, 1), (0, 2)] F F_4 → SA [1] A A_4 → F_4 0 0 = (D_4 1 : Int) → ∀ m4_1 : Int, (N_4 1 : Int) = m4_1 → ∀ y4_0_1 : Int, F_4 0 1 = y4_0_1 → ∀ y4_0_2 : Int, F_4 0 2 = y4_0_2 → ∀ w4_1 : Int → Int, A_4 1 = w4_1 → (inr (x4_2)) → (inr (x4_3)) → ((0) ≤ (x4_3)) → ((x4_3) ≤ (0) ∨ (x4_3) ≤ (4)) → (0 ≤ (y4_0_1) ∧ (y4_0_1) ≤ (m4_1) ∧ (m4_1) ≤ 65536) → ((x4_3) = 0 ∧ (x4_2) ≤ 65536 ∨ (x4_3) = 1 ∧ (x4_2) ≤ 512 ∨ 2 ≤ (x4_3) ∧ (x4_2) ≤ 4) → (0 ≤ (x4_2)) → (RTO ((u0_2)) ((w1)) ((u0_1)) ((y4_0_2)) ((w4_1)) ((y4_0_1)) (vlr ((a2))) (vlr ((x4_2)))) → ((4) - (x4_3)).toNat = m → Ew 195 (d + 3) 4 ls [] σ c_4 s_4 Q from
    hl4 _ _ _ _ _ _ _ _ _ (a2) (0) (rk_o (rk_o (rfl) rfl rfl) rfl rfl) (rk_o (rk_s) rfl rfl) (rk_s) H O (SD_refl) (SD_refl) (SF_refl) (SA_refl) (pf1) (n1) (en1) (u0_1) ((eu0_1)) (u0_2) ((eu0_2)) (w1) (ew1) (show inr (a2) by omega) (show inr (0) by omega) (show (0) ≤ (0) by omega) (show (0) ≤ (0) ∨ (0) ≤ (4) by omega) (show 0 ≤ (u0_1) ∧ (u0_1) ≤ (n1) ∧ (n1) ≤ 65536 by omega) (show (0) = 0 ∧ (a2) ≤ 65536 ∨ (0) = 1 ∧ (a2) ≤ 512 ∨ 2 ≤ (0) ∧ (a2) ≤ 4 by omega) (show 0 ≤ (a2) by omega) (show RTO ((u0_2)) ((w1)) ((u0_1)) ((u0_2)) ((w1)) ((u0_1)) (vlr ((a2))) (vlr ((a2))) by assumption) rfl
  as_aux_lemma =>
  intro m
  induction m using Nat.strongRecOn with
  | _ m ih4 =>
    intro ls σ D_4 N_4 c_4 s_4 F_4 A_4 x4_2 x4_3 l4_0 l4_2 l4_3 H O hD_4 hN_4 hS_4 hA_4 pm4_1 m4_1 em4_1 y4_0_1 ey4_0_1 y4_0_2 ey4_0_2 w4_1 ew4_1 j4_0 j4_1 j4_2 j4_3 j4_4 j4_5 j4_6 j4_7 hm4
    have r4 : (0 : Int) ≤ m4_1 ∧ m4_1 ≤ 1000000 := by have h1 := H.nle 1 (by decide); have h2 : (N_4 1 : Int) = m4_1 := em4_1; omega
    have r5 : (-2147483648 : Int) ≤ y4_0_1 ∧ y4_0_1 ≤ 2147483647 := by have h1 : (-2147483648 : Int) ≤ F_4 0 1 ∧ F_4 0 1 ≤ 2147483647 := H.krg 0 1 (by decide); rw [show F_4 0 1 = y4_0_1 from (ey4_0_1)] at h1; exact h1
    have r6 : (0 : Int) ≤ y4_0_2 ∧ y4_0_2 ≤ 1 := by have h1 : (0 : Int) ≤ F_4 0 2 ∧ F_4 0 2 ≤ 1 := H.krg 0 2 (by decide); rw [show F_4 0 2 = y4_0_2 from (ey4_0_2)] at h1; exact h1
    have j4_q : RTO ((u0_2)) ((w1)) ((u0_1)) ((y4_0_2)) ((w4_1)) ((y4_0_1)) (vlr ((a2))) (vlr ((x4_2))) := by assumption
    refine Ew_of (pc' := 5) (fun _ => x_iload_n rfl l4_3) ?_
    refine Ew_of (pc' := 6) (fun _ => x_iconst rfl) ?_
    refine w_icmpge (t := 39) rfl rfl (show inr (x4_3) by omega) (show inr (4) by omega) (fun b7 => ?_) (fun b7 => ?_)
    · refine Ew_of (pc' := 40) (fun _ => x_aload_n rfl l4_0) ?_
      refine Ew_of (pc' := 41) (fun _ => x_iload_n rfl l4_2) ?_
      refine v_inv H (o := 0) rfl rfl rfl rfl rfl rfl (by rfl) (C159 (D := pul [0, 1] D_4) (N := pul [0, 1] N_4) (HW_sub H (VS_of (show vsub V195_Row V159 [0, 1] = true by decide +kernel))) (pm4_1) (m4_1) (em4_1) (y4_0_1) ((ey4_0_1)) (y4_0_2) ((ey4_0_2)) (w4_1) (ew4_1) (show inr (x4_2) by omega) (show 0 ≤ (y4_0_1) ∧ (y4_0_1) ≤ (m4_1) ∧ (m4_1) ≤ 65536 by omega) (fun σ8 D8' N8' F8' A8' c8 s8 H' O' hD8 hN8 hS8 hA8 pm8_1 m8_1 em8_1 y8_0_1 ey8_0_1 y8_0_2 ey8_0_2 w8_1 ew8_1 pz8_0 pz8_1 pz8_2 pz8_3 => ⟨rfl, ?_⟩))
      refine v_backM (c := c_4) (s := s_4) H (show vsub V195_Row V159 [0, 1] = true by decide +kernel) H' O' hD8 (show vmov V195_Row [0, 1] [1] = true by decide +kernel) (fun D8 N8 F8 A8 H O' eD8 eN8 eF8 eA8 => ?_)
      have O := OUT_trans O O'
      -- Row.add
      have pf8_0_0 : F8 0 0 = (D8 1 : Int) := (eF8 0 0).trans (pm8_1.trans (congrArg (fun q : Nat => (q : Int)) (eD8 1).symm))
      have r9 : (0 : Int) ≤ m8_1 ∧ m8_1 ≤ 1000000 := by have h1 := H.nle 1 (by decide); have h2 : (N8 1 : Int) = m8_1 := (congrArg (fun q : Nat => (q : Int)) (eN8 1)).trans em8_1; omega
      have r10 : (-2147483648 : Int) ≤ y8_0_1 ∧ y8_0_1 ≤ 2147483647 := by have h1 : (-2147483648 : Int) ≤ F8 0 1 ∧ F8 0 1 ≤ 2147483647 := H.krg 0 1 (by decide); rw [show F8 0 1 = y8_0_1 from ((eF8 0 1).trans ey8_0_1)] at h1; exact h1
      have r11 : (0 : Int) ≤ y8_0_2 ∧ y8_0_2 ≤ 1 := by have h1 : (0 : Int) ≤ F8 0 2 ∧ F8 0 2 ≤ 1 := H.krg 0 2 (by decide); rw [show F8 0 2 = y8_0_2 from ((eF8 0 2).trans ey8_0_2)] at h1; exact h1
      have : RAP ((u0_2)) ((w1)) ((u0_1)) ((y8_0_2)) ((w8_1)) ((y8_0_1)) (vlr ((a2))) := RTO_e j4_q (by rw [vlr_0 (by omega)]; have h := pz8_3; rw [u8_id (by omega)] at h; exact h)
      exact w_ret rfl (k _ _ _ _ _ _ _ H O (SD_trans (SD_trans (SD_refl) hD_4 (any_subA rfl)) (SD_glu (ι := [0, 1]) hD8 eD8 (by decide +kernel)) (any_subA (l' := [1]) rfl)) (SD_trans (SD_trans (SD_refl) hN_4 (any_subA rfl)) (SD_glu (ι := [0, 1]) hN8 eN8 (by decide +kernel)) (any_subA (l' := [1]) rfl)) (SF_trans (SF_trans (SF_refl) hS_4 (any_sub rfl)) (SF_glu (ι := [0, 1]) hS8 eF8 (by decide +kernel)) (any_sub (l' := [(0, 0), (0, 1), (0, 2)]) rfl)) (SA_trans (SA_trans (SA_refl) hA_4 (any_subA rfl)) (SA_glu (ι := [0, 1]) hA8 eA8 (by decide +kernel)) (any_subA (l' := [1]) rfl)) (pf8_0_0) (m8_1) ((congrArg (fun q : Nat => (q : Int)) (eN8 1)).trans em8_1) (y8_0_1) (((eF8 0 1).trans ey8_0_1)) (y8_0_2) (((eF8 0 2).trans ey8_0_2)) (w8_1) ((eA8 1).trans ew8_1) (show 0 ≤ (y8_0_1) ∧ (y8_0_1) ≤ (m8_1) ∧ (m8_1) ≤ 65536 by omega) (show RAP ((u0_2)) ((w1)) ((u0_1)) ((y8_0_2)) ((w8_1)) ((y8_0_1)) (vlr (a2)) by assumption))
    · refine Ew_of (pc' := 10) (fun _ => x_iload_n rfl l4_2) ?_
      refine Ew_of (pc' := 13) (fun _ => x_sipush (z := 128) rfl (by decide)) ?_
      refine w_icmplt (t := 39) rfl rfl (show inr (x4_2) by omega) (show inr (128) by omega) (fun b12 => ?_) (fun b12 => ?_)
      · refine Ew_of (pc' := 40) (fun _ => x_aload_n rfl l4_0) ?_
        refine Ew_of (pc' := 41) (fun _ => x_iload_n rfl l4_2) ?_
        refine v_inv H (o := 0) rfl rfl rfl rfl rfl rfl (by rfl) (C159 (D := pul [0, 1] D_4) (N := pul [0, 1] N_4) (HW_sub H (VS_of (show vsub V195_Row V159 [0, 1] = true by decide +kernel))) (pm4_1) (m4_1) (em4_1) (y4_0_1) ((ey4_0_1)) (y4_0_2) ((ey4_0_2)) (w4_1) (ew4_1) (show inr (x4_2) by omega) (show 0 ≤ (y4_0_1) ∧ (y4_0_1) ≤ (m4_1) ∧ (m4_1) ≤ 65536 by omega) (fun σ13 D13' N13' F13' A13' c13 s13 H' O' hD13 hN13 hS13 hA13 pm13_1 m13_1 em13_1 y13_0_1 ey13_0_1 y13_0_2 ey13_0_2 w13_1 ew13_1 pz13_0 pz13_1 pz13_2 pz13_3 => ⟨rfl, ?_⟩))
        refine v_backM (c := c_4) (s := s_4) H (show vsub V195_Row V159 [0, 1] = true by decide +kernel) H' O' hD13 (show vmov V195_Row [0, 1] [1] = true by decide +kernel) (fun D13 N13 F13 A13 H O' eD13 eN13 eF13 eA13 => ?_)
        have O := OUT_trans O O'
        -- Row.add
        have pf13_0_0 : F13 0 0 = (D13 1 : Int) := (eF13 0 0).trans (pm13_1.trans (congrArg (fun q : Nat => (q : Int)) (eD13 1).symm))
        have r14 : (0 : Int) ≤ m13_1 ∧ m13_1 ≤ 1000000 := by have h1 := H.nle 1 (by decide); have h2 : (N13 1 : Int) = m13_1 := (congrArg (fun q : Nat => (q : Int)) (eN13 1)).trans em13_1; omega
        have r15 : (-2147483648 : Int) ≤ y13_0_1 ∧ y13_0_1 ≤ 2147483647 := by have h1 : (-2147483648 : Int) ≤ F13 0 1 ∧ F13 0 1 ≤ 2147483647 := H.krg 0 1 (by decide); rw [show F13 0 1 = y13_0_1 from ((eF13 0 1).trans ey13_0_1)] at h1; exact h1
        have r16 : (0 : Int) ≤ y13_0_2 ∧ y13_0_2 ≤ 1 := by have h1 : (0 : Int) ≤ F13 0 2 ∧ F13 0 2 ≤ 1 := H.krg 0 2 (by decide); rw [show F13 0 2 = y13_0_2 from ((eF13 0 2).trans ey13_0_2)] at h1; exact h1
        have : RAP ((u0_2)) ((w1)) ((u0_1)) ((y13_0_2)) ((w13_1)) ((y13_0_1)) (vlr ((a2))) := RTO_e j4_q (by rw [vlr_0 (by omega)]; have h := pz13_3; rw [u8_id (by omega)] at h; exact h)
        exact w_ret rfl (k _ _ _ _ _ _ _ H O (SD_trans (SD_trans (SD_refl) hD_4 (any_subA rfl)) (SD_glu (ι := [0, 1]) hD13 eD13 (by decide +kernel)) (any_subA (l' := [1]) rfl)) (SD_trans (SD_trans (SD_refl) hN_4 (any_subA rfl)) (SD_glu (ι := [0, 1]) hN13 eN13 (by decide +kernel)) (any_subA (l' := [1]) rfl)) (SF_trans (SF_trans (SF_refl) hS_4 (any_sub rfl)) (SF_glu (ι := [0, 1]) hS13 eF13 (by decide +kernel)) (any_sub (l' := [(0, 0), (0, 1), (0, 2)]) rfl)) (SA_trans (SA_trans (SA_refl) hA_4 (any_subA rfl)) (SA_glu (ι := [0, 1]) hA13 eA13 (by decide +kernel)) (any_subA (l' := [1]) rfl)) (pf13_0_0) (m13_1) ((congrArg (fun q : Nat => (q : Int)) (eN13 1)).trans em13_1) (y13_0_1) (((eF13 0 1).trans ey13_0_1)) (y13_0_2) (((eF13 0 2).trans ey13_0_2)) (w13_1) ((eA13 1).trans ew13_1) (show 0 ≤ (y13_0_1) ∧ (y13_0_1) ≤ (m13_1) ∧ (m13_1) ≤ 65536 by omega) (show RAP ((u0_2)) ((w1)) ((u0_1)) ((y13_0_2)) ((w13_1)) ((y13_0_1)) (vlr (a2)) by assumption))
      · refine Ew_of (pc' := 17) (fun _ => x_aload_n rfl l4_0) ?_
        refine Ew_of (pc' := 18) (fun _ => x_iload_n rfl l4_2) ?_
        refine Ew_of (pc' := 20) (fun _ => x_bipush (z := 127) rfl (by decide)) ?_
        refine w_iandE rfl (show inr (x4_2) by omega) (show inr (127) by omega) (fun z17 gz17 gaz17 gbz17 gez17 => ?_)
        have hg127 := gez17
        refine Ew_of (pc' := 24) (fun _ => x_sipush (z := 128) rfl (by decide)) ?_
        refine w_iorE rfl ?_
        have g18 : inr (orI (z17) (128)) := toI_inr _
        refine v_inv H (o := 0) rfl rfl rfl rfl rfl rfl (by rfl) (C159 (D := pul [0, 1] D_4) (N := pul [0, 1] N_4) (HW_sub H (VS_of (show vsub V195_Row V159 [0, 1] = true by decide +kernel))) (pm4_1) (m4_1) (em4_1) (y4_0_1) ((ey4_0_1)) (y4_0_2) ((ey4_0_2)) (w4_1) (ew4_1) (show inr ((orI (z17) (128))) by omega) (show 0 ≤ (y4_0_1) ∧ (y4_0_1) ≤ (m4_1) ∧ (m4_1) ≤ 65536 by omega) (fun σ19 D19' N19' F19' A19' c19 s19 H' O' hD19 hN19 hS19 hA19 pm19_1 m19_1 em19_1 y19_0_1 ey19_0_1 y19_0_2 ey19_0_2 w19_1 ew19_1 pz19_0 pz19_1 pz19_2 pz19_3 => ⟨rfl, ?_⟩))
        refine v_backM (c := c_4) (s := s_4) H (show vsub V195_Row V159 [0, 1] = true by decide +kernel) H' O' hD19 (show vmov V195_Row [0, 1] [1] = true by decide +kernel) (fun D19 N19 F19 A19 H O' eD19 eN19 eF19 eA19 => ?_)
        have O := OUT_trans O O'
        -- Row.add
        have pf19_0_0 : F19 0 0 = (D19 1 : Int) := (eF19 0 0).trans (pm19_1.trans (congrArg (fun q : Nat => (q : Int)) (eD19 1).symm))
        have r20 : (0 : Int) ≤ m19_1 ∧ m19_1 ≤ 1000000 := by have h1 := H.nle 1 (by decide); have h2 : (N19 1 : Int) = m19_1 := (congrArg (fun q : Nat => (q : Int)) (eN19 1)).trans em19_1; omega
        have r21 : (-2147483648 : Int) ≤ y19_0_1 ∧ y19_0_1 ≤ 2147483647 := by have h1 : (-2147483648 : Int) ≤ F19 0 1 ∧ F19 0 1 ≤ 2147483647 := H.krg 0 1 (by decide); rw [show F19 0 1 = y19_0_1 from ((eF19 0 1).trans ey19_0_1)] at h1; exact h1
        have r22 : (0 : Int) ≤ y19_0_2 ∧ y19_0_2 ≤ 1 := by have h1 : (0 : Int) ≤ F19 0 2 ∧ F19 0 2 ≤ 1 := H.krg 0 2 (by decide); rw [show F19 0 2 = y19_0_2 from ((eF19 0 2).trans ey19_0_2)] at h1; exact h1
        have hp0 := pz19_3
        rw [← hg127, or128] at hp0
        refine Ew_of (pc' := 29) (fun _ => x_iload_n rfl l4_2) ?_
        refine Ew_of (pc' := 31) (fun _ => x_bipush (z := 7) rfl (by decide)) ?_
        refine w_iushrE rfl ?_
        have g23 : inr (usI (x4_2) (7)) := toI_inr _
        have hus : ((usI (x4_2) (7))) = (x4_2) / 128 := us7 (by omega)
        have : RTO ((u0_2)) ((w1)) ((u0_1)) ((y19_0_2)) ((w19_1)) ((y19_0_1)) (vlr ((a2))) (vlr (((usI (x4_2) (7))))) := by rw [hus]; exact RTO_s j4_q (vlr_s (by omega) rfl) hp0
        refine Ew_of (pc' := 33) (fun _ => x_istore_n rfl) ?_
        refine Ew_of (pc' := 36) (fun _ => x_iinc (len := 3) rfl (rk_o (l4_3) rfl rfl)) ?_
        refine Ew_of (pc' := 4) (fun _ => x_goto rfl rfl) ?_
        exact ih4 _ (by omega) _ _ _ _ _ _ _ _ ((usI (x4_2) (7))) ((x4_3 + 1)) ((rk_o (rk_o (l4_0) rfl rfl) rfl rfl).trans (congrArg (fun q : Nat => some (Value.ref q)) (((show D19 0 = D_4 0 from (eD19 0).trans (hD19 0 rfl)))).symm)) (rk_o (rk_s) rfl rfl) (rk_s) H O (SD_trans (hD_4) (SD_glu (ι := [0, 1]) hD19 eD19 (by decide +kernel)) (any_subA (l' := [1]) rfl)) (SD_trans (hN_4) (SD_glu (ι := [0, 1]) hN19 eN19 (by decide +kernel)) (any_subA (l' := [1]) rfl)) (SF_trans (hS_4) (SF_glu (ι := [0, 1]) hS19 eF19 (by decide +kernel)) (any_sub (l' := [(0, 0), (0, 1), (0, 2)]) rfl)) (SA_trans (hA_4) (SA_glu (ι := [0, 1]) hA19 eA19 (by decide +kernel)) (any_subA (l' := [1]) rfl)) (pf19_0_0) (m19_1) ((congrArg (fun q : Nat => (q : Int)) (eN19 1)).trans em19_1) (y19_0_1) (((eF19 0 1).trans ey19_0_1)) (y19_0_2) (((eF19 0 2).trans ey19_0_2)) (w19_1) ((eA19 1).trans ew19_1) (show inr ((usI (x4_2) (7))) by omega) (show inr ((x4_3 + 1)) by omega) (show (0) ≤ ((x4_3 + 1)) by omega) (show ((x4_3 + 1)) ≤ (0) ∨ ((x4_3 + 1)) ≤ (4) by omega) (show 0 ≤ (y19_0_1) ∧ (y19_0_1) ≤ (m19_1) ∧ (m19_1) ≤ 65536 by omega) (show ((x4_3 + 1)) = 0 ∧ ((usI (x4_2) (7))) ≤ 65536 ∨ ((x4_3 + 1)) = 1 ∧ ((usI (x4_2) (7))) ≤ 512 ∨ 2 ≤ ((x4_3 + 1)) ∧ ((usI (x4_2) (7))) ≤ 4 by omega) (show 0 ≤ ((usI (x4_2) (7))) by omega) (show RTO ((u0_2)) ((w1)) ((u0_1)) ((y19_0_2)) ((w19_1)) ((y19_0_1)) (vlr ((a2))) (vlr (((usI (x4_2) (7))))) by assumption) rfl
abbrev V196_Row : vV := [(0, 10, [(4, 0), (4, 0), (4, 0), (4, 0), (0, 0), (4, 0), (0, 0), (2, 0), (0, 0)]), (0, 7, [(4, 0), (0, 0), (1, 0), (0, 0), (0, 0)]), (1, 0, []), (0, 5, [(4, 0), (4, 0), (4, 0), (4, 0), (0, 0), (0, 0), (0, 0), (4, 0), (4, 0), (0, 0), (0, 0), (0, 0), (0, 0), (0, 0), (0, 0), (0, 0), (0, 0), (0, 0), (0, 0)]), (0, 7, [(4, 0), (0, 0), (1, 0), (0, 0), (0, 0)]), (1, 0, [])]
/-- Tags.packLiterals: this, #1, #1.bytes, this.finder, this.finder.data, this.finder.data.bytes -/
theorem C196_Row {σE : rS} {D N : Nat → Nat} {F : hF} {A : hA} {d c s : Nat} {Q : wQ} (H : HW V196_Row σE D N F A) {a2 a3 : Int} (pf2 : F 1 0 = (D 2 : Int)) (pf3 : F 0 1 = (D 3 : Int)) (pf4 : F 3 0 = (D 4 : Int)) (pf5 : F 4 0 = (D 5 : Int)) (n2 : Int) (en2 : (N 2 : Int) = n2) (n5 : Int) (en5 : (N 5 : Int) = n5) (u1_1 : Int) (eu1_1 : F 1 1 = u1_1) (u1_2 : Int) (eu1_2 : F 1 2 = u1_2) (u4_1 : Int) (eu4_1 : F 4 1 = u4_1) (w2 : Int → Int) (ew2 : A 2 = w2) (w5 : Int → Int) (ew5 : A 5 = w5) (h0 : inr (a2)) (h1 : inr (a3)) (h2 : 0 ≤ (u1_1) ∧ (u1_1) ≤ (n2) ∧ (n2) ≤ 65536) (h3 : 0 ≤ (u4_1) ∧ (u4_1) ≤ (n5) ∧ (n5) ≤ 65536) (h4 : 0 ≤ (a2) ∧ 0 ≤ (a3) ∧ (a2) + (a3) ≤ (n5)) (k : ∀ (σ : rS) (D' N' : Nat → Nat) (F' : hF) (A' : hA) (c' s' : Nat), HW V196_Row σ D' N' F' A' → OUT (V196_Row).length D N σE c s D' N' σ c' s' → SD [2] D D' → SD [2] N N' → SF [(1, 0), (1, 1), (1, 2)] F F' → SA [2] A A' → F' 1 0 = (D' 2 : Int) → ∀ m2 : Int, (N' 2 : Int) = m2 → ∀ y1_1 : Int, F' 1 1 = y1_1 → ∀ y1_2 : Int, F' 1 2 = y1_2 → ∀ v2 : Int → Int, A' 2 = v2 → (0 ≤ (y1_1) ∧ (y1_1) ≤ (m2) ∧ (m2) ≤ 65536) → (RAP ((u1_2)) ((w2)) ((u1_1)) ((y1_2)) ((v2)) ((y1_1)) (tgl (sc ((w5)) ((a2)) ((a2) + (a3))))) → Q none σ c' s') : Ew 196 (d + 3) 0 (rargs 0 [.ref (D 0), .ref (D 1), I a2, I a3]) [] σE c s Q := by
  have O := OUT_refl (n := (V196_Row).length) (D := D) (N := N) (σ := σE) (c := c) (s := s)
  have HE := H
  have r1 : (-2147483648 : Int) ≤ u1_1 ∧ u1_1 ≤ 2147483647 := by have h1 : (-2147483648 : Int) ≤ F 1 1 ∧ F 1 1 ≤ 2147483647 := H.krg 1 1 (by decide); rw [show F 1 1 = u1_1 from (eu1_1)] at h1; exact h1
  have r2 : (0 : Int) ≤ u1_2 ∧ u1_2 ≤ 1 := by have h1 : (0 : Int) ≤ F 1 2 ∧ F 1 2 ≤ 1 := H.krg 1 2 (by decide); rw [show F 1 2 = u1_2 from (eu1_2)] at h1; exact h1
  have r3 : (-2147483648 : Int) ≤ u4_1 ∧ u4_1 ≤ 2147483647 := by have h1 : (-2147483648 : Int) ≤ F 4 1 ∧ F 4 1 ≤ 2147483647 := H.krg 4 1 (by decide); rw [show F 4 1 = u4_1 from (eu4_1)] at h1; exact h1
  have r4 : (0 : Int) ≤ n2 ∧ n2 ≤ 1000000 := by have h1 := H.nle 2 (by decide); have h2 : (N 2 : Int) = n2 := en2; omega
  have r5 : (0 : Int) ≤ n5 ∧ n5 ≤ 1000000 := by have h1 := H.nle 5 (by decide); have h2 : (N 5 : Int) = n5 := en5; omega
  refine Ew_of (pc' := 1) (fun _ => x_iload_n rfl rfl) ?_
  refine w_ifne (t := 5) rfl rfl (show inr (a3) by omega) (fun b6 => ?_) (fun b6 => ?_)
  · refine Ew_of (pc' := 6) (fun _ => x_iload_n rfl rfl) ?_
    refine Ew_of (pc' := 7) (fun _ => x_iconst rfl) ?_
    refine w_isub rfl ?_
    refine Ew_of (pc' := 10) (fun _ => x_istore rfl) ?_
    have hc63 : ∀ (ls : rO) (σ : rS) (D_c63 N_c63 : Nat → Nat) (c_c63 s_c63 : Nat) (F_c63 : hF) (A_c63 : hA) , rlook ls 0 = some (.ref (D_c63 0)) → rlook ls 1 = some (.ref (D_c63 1)) → rlook ls 2 = some (I (a2)) → rlook ls 3 = some (I (a3)) → HW V196_Row σ D_c63 N_c63 F_c63 A_c63 → OUT (V196_Row).length D N σE c s D_c63 N_c63 σ c_c63 s_c63 → SD [2] D D_c63 → SD [2] N N_c63 → SF [(1, 0), (1, 1), (1, 2)] F F_c63 → SA [2] A A_c63 → F_c63 1 0 = (D_c63 2 : Int) → ∀ mc63_2 : Int, (N_c63 2 : Int) = mc63_2 → ∀ yc63_1_1 : Int, F_c63 1 1 = yc63_1_1 → ∀ yc63_1_2 : Int, F_c63 1 2 = yc63_1_2 → ∀ wc63_2 : Int → Int, A_c63 2 = wc63_2 → (0 ≤ (yc63_1_1) ∧ (yc63_1_1) ≤ (mc63_2) ∧ (mc63_2) ≤ 65536) → (RAP ((u1_2)) ((w2)) ((u1_1)) ((yc63_1_2)) ((wc63_2)) ((yc63_1_1)) (tgh ((a3)))) → Ew 196 (d + 3) 63 ls [] σ c_c63 s_c63 Q := by
     as_aux_lemma =>
      intro  ls σ D_c63 N_c63 c_c63 s_c63 F_c63 A_c63  lc63_0 lc63_1 lc63_2 lc63_3 H O hD_c63 hN_c63 hS_c63 hA_c63 pmc63_2 mc63_2 emc63_2 yc63_1_1 eyc63_1_1 yc63_1_2 eyc63_1_2 wc63_2 ewc63_2 jc63_0 jc63_1
      have pf_c63_0_1 : F_c63 0 1 = (D_c63 3 : Int) := (hS_c63 0 1 rfl).trans ((pf3).trans (congrArg (fun q : Nat => (q : Int)) (hD_c63 3 rfl).symm))
      have pf_c63_3_0 : F_c63 3 0 = (D_c63 4 : Int) := (hS_c63 3 0 rfl).trans ((pf4).trans (congrArg (fun q : Nat => (q : Int)) (hD_c63 4 rfl).symm))
      have pf_c63_4_0 : F_c63 4 0 = (D_c63 5 : Int) := (hS_c63 4 0 rfl).trans ((pf5).trans (congrArg (fun q : Nat => (q : Int)) (hD_c63 5 rfl).symm))
      have r7 : (0 : Int) ≤ mc63_2 ∧ mc63_2 ≤ 1000000 := by have h1 := H.nle 2 (by decide); have h2 : (N_c63 2 : Int) = mc63_2 := emc63_2; omega
      have r8 : (-2147483648 : Int) ≤ yc63_1_1 ∧ yc63_1_1 ≤ 2147483647 := by have h1 : (-2147483648 : Int) ≤ F_c63 1 1 ∧ F_c63 1 1 ≤ 2147483647 := H.krg 1 1 (by decide); rw [show F_c63 1 1 = yc63_1_1 from (eyc63_1_1)] at h1; exact h1
      have r9 : (0 : Int) ≤ yc63_1_2 ∧ yc63_1_2 ≤ 1 := by have h1 : (0 : Int) ≤ F_c63 1 2 ∧ F_c63 1 2 ≤ 1 := H.krg 1 2 (by decide); rw [show F_c63 1 2 = yc63_1_2 from (eyc63_1_2)] at h1; exact h1
      have h63 : RAP ((u1_2)) ((w2)) ((u1_1)) ((yc63_1_2)) ((wc63_2)) ((yc63_1_1)) (tgh ((a3))) := by assumption
      refine Ew_of (pc' := 64) (fun _ => x_aload_n rfl lc63_1) ?_
      refine Ew_of (pc' := 65) (fun _ => x_aload_n rfl lc63_0) ?_
      refine v_g H (o := 0) (v := .ref (D_c63 3)) rfl rfl rfl rfl rfl (vrf (pf_c63_0_1)) ?_
      refine v_g H (o := 3) (v := .ref (D_c63 4)) rfl rfl rfl rfl rfl (vrf (pf_c63_3_0)) ?_
      refine v_g H (o := 4) (v := .ref (D_c63 5)) rfl rfl rfl rfl rfl (vrf (pf_c63_4_0)) ?_
      refine Ew_of (pc' := 75) (fun _ => x_iload_n rfl lc63_2) ?_
      refine Ew_of (pc' := 76) (fun _ => x_iload_n rfl lc63_3) ?_
      refine v_inv H (o := 1) rfl rfl rfl rfl rfl rfl (by rfl) (C161_Br (D := pul [1, 5, 2] D_c63) (N := pul [1, 5, 2] N_c63) (HW_sub H (VS_of (show vsub V196_Row V161_Br [1, 5, 2] = true by decide +kernel))) (pmc63_2) (n5) ((congrArg (fun q : Nat => (q : Int)) (hN_c63 5 rfl)).trans (en5)) (mc63_2) (emc63_2) (yc63_1_1) ((eyc63_1_1)) (yc63_1_2) ((eyc63_1_2)) (w5) ((funext (hA_c63 5 rfl)).trans (ew5)) (wc63_2) (ewc63_2) (show inr (a2) by omega) (show inr (a3) by omega) (show 0 ≤ (yc63_1_1) ∧ (yc63_1_1) ≤ (mc63_2) ∧ (mc63_2) ≤ 65536 by omega) (show (a3) < 0 ∨ 0 ≤ (a2) ∧ (a2) + (a3) ≤ (n5) by omega) (fun σ10 D10' N10' F10' A10' c10 s10 H' O' hD10 hN10 hS10 hA10 pm10_2 m10_2 em10_2 y10_0_1 ey10_0_1 y10_0_2 ey10_0_2 w10_2 ew10_2 pz10_0 pz10_1 pz10_2 pz10_3 => ⟨rfl, ?_⟩))
      refine v_backM (c := c_c63) (s := s_c63) H (show vsub V196_Row V161_Br [1, 5, 2] = true by decide +kernel) H' O' hD10 (show vmov V196_Row [1, 5, 2] [2] = true by decide +kernel) (fun D10 N10 F10 A10 H O' eD10 eN10 eF10 eA10 => ?_)
      have O := OUT_trans O O'
      -- Row.addPart
      have pf10_0_1 : F10 0 1 = (D10 3 : Int) := ((show F10 0 1 = F_c63 0 1 from (eF10 0 1))).trans ((pf_c63_0_1).trans (congrArg (fun q : Nat => (q : Int)) ((show D10 3 = D_c63 3 from (eD10 3))).symm))
      have pf10_1_0 : F10 1 0 = (D10 2 : Int) := (eF10 1 0).trans (pm10_2.trans (congrArg (fun q : Nat => (q : Int)) (eD10 2).symm))
      have pf10_3_0 : F10 3 0 = (D10 4 : Int) := ((show F10 3 0 = F_c63 3 0 from (eF10 3 0))).trans ((pf_c63_3_0).trans (congrArg (fun q : Nat => (q : Int)) ((show D10 4 = D_c63 4 from (eD10 4))).symm))
      have pf10_4_0 : F10 4 0 = (D10 5 : Int) := ((show F10 4 0 = F_c63 4 0 from (eF10 4 0))).trans ((pf_c63_4_0).trans (congrArg (fun q : Nat => (q : Int)) ((show D10 5 = D_c63 5 from (eD10 5).trans (hD10 1 rfl))).symm))
      have r11 : (0 : Int) ≤ m10_2 ∧ m10_2 ≤ 1000000 := by have h1 := H.nle 2 (by decide); have h2 : (N10 2 : Int) = m10_2 := (congrArg (fun q : Nat => (q : Int)) (eN10 2)).trans em10_2; omega
      have r12 : (-2147483648 : Int) ≤ y10_0_1 ∧ y10_0_1 ≤ 2147483647 := by have h1 : (-2147483648 : Int) ≤ F10 1 1 ∧ F10 1 1 ≤ 2147483647 := H.krg 1 1 (by decide); rw [show F10 1 1 = y10_0_1 from ((eF10 1 1).trans ey10_0_1)] at h1; exact h1
      have r13 : (0 : Int) ≤ y10_0_2 ∧ y10_0_2 ≤ 1 := by have h1 : (0 : Int) ≤ F10 1 2 ∧ F10 1 2 ≤ 1 := H.krg 1 2 (by decide); rw [show F10 1 2 = y10_0_2 from ((eF10 1 2).trans ey10_0_2)] at h1; exact h1
      have : RAP ((u1_2)) ((w2)) ((u1_1)) ((y10_0_2)) ((w10_2)) ((y10_0_1)) (tgl (sc ((w5)) ((a2)) ((a2) + (a3)))) := RAP_c (RAP_trans h63 (pz10_3 (by omega))) (tgl_s (by omega) (by omega)).symm
      exact w_ret rfl (k _ _ _ _ _ _ _ H O (SD_trans (SD_trans (SD_refl) hD_c63 (any_subA rfl)) (SD_glu (ι := [1, 5, 2]) hD10 eD10 (by decide +kernel)) (any_subA (l' := [2]) rfl)) (SD_trans (SD_trans (SD_refl) hN_c63 (any_subA rfl)) (SD_glu (ι := [1, 5, 2]) hN10 eN10 (by decide +kernel)) (any_subA (l' := [2]) rfl)) (SF_trans (SF_trans (SF_refl) hS_c63 (any_sub rfl)) (SF_glu (ι := [1, 5, 2]) hS10 eF10 (by decide +kernel)) (any_sub (l' := [(1, 0), (1, 1), (1, 2)]) rfl)) (SA_trans (SA_trans (SA_refl) hA_c63 (any_subA rfl)) (SA_glu (ι := [1, 5, 2]) hA10 eA10 (by decide +kernel)) (any_subA (l' := [2]) rfl)) (pf10_1_0) (m10_2) ((congrArg (fun q : Nat => (q : Int)) (eN10 2)).trans em10_2) (y10_0_1) (((eF10 1 1).trans ey10_0_1)) (y10_0_2) (((eF10 1 2).trans ey10_0_2)) (w10_2) ((eA10 2).trans ew10_2) (show 0 ≤ (y10_0_1) ∧ (y10_0_1) ≤ (m10_2) ∧ (m10_2) ≤ 65536 by omega) (show RAP ((u1_2)) ((w2)) ((u1_1)) ((y10_0_2)) ((w10_2)) ((y10_0_1)) (tgl (sc ((w5)) (a2) (a2 + a3))) by assumption))
    refine Ew_of (pc' := 12) (fun _ => x_iload rfl rk_s) ?_
    refine Ew_of (pc' := 14) (fun _ => x_bipush (z := 60) rfl (by decide)) ?_
    refine w_icmpge (t := 28) rfl rfl (show inr ((a3 - 1)) by omega) (show inr (60) by omega) (fun b14 => ?_) (fun b14 => ?_)
    · refine Ew_of (pc' := 30) (fun _ => x_iload rfl rk_s) ?_
      refine Ew_of (pc' := 33) (fun _ => x_sipush (z := 256) rfl (by decide)) ?_
      refine w_icmpge (t := 40) rfl rfl (show inr ((a3 - 1)) by omega) (show inr (256) by omega) (fun b15 => ?_) (fun b15 => ?_)
      · refine Ew_of (pc' := 41) (fun _ => x_iconst rfl) ?_
        refine Ew_of (pc' := 43) (fun _ => x_istore rfl) ?_
        refine Ew_of (pc' := 44) (fun _ => x_aload_n rfl (rk_o (rk_o (rfl) rfl rfl) rfl rfl)) ?_
        refine Ew_of (pc' := 46) (fun _ => x_bipush (z := 59) rfl (by decide)) ?_
        refine Ew_of (pc' := 48) (fun _ => x_iload rfl rk_s) ?_
        refine w_iadd rfl ?_
        refine Ew_of (pc' := 50) (fun _ => x_iconst rfl) ?_
        refine w_ishlE rfl ?_
        have g16 : inr (slI ((59 + 2)) (2)) := toI_inr _
        refine v_inv H (o := 1) rfl rfl rfl rfl rfl rfl (by rfl) (C159 (D := pul [1, 2] D) (N := pul [1, 2] N) (HW_sub H (VS_of (show vsub V196_Row V159 [1, 2] = true by decide +kernel))) (pf2) (n2) (en2) (u1_1) ((eu1_1)) (u1_2) ((eu1_2)) (w2) (ew2) (show inr ((slI ((59 + 2)) (2))) by omega) (show 0 ≤ (u1_1) ∧ (u1_1) ≤ (n2) ∧ (n2) ≤ 65536 by omega) (fun σ17 D17' N17' F17' A17' c17 s17 H' O' hD17 hN17 hS17 hA17 pm17_1 m17_1 em17_1 y17_0_1 ey17_0_1 y17_0_2 ey17_0_2 w17_1 ew17_1 pz17_0 pz17_1 pz17_2 pz17_3 => ⟨rfl, ?_⟩))
        refine v_backM (c := c) (s := s) H (show vsub V196_Row V159 [1, 2] = true by decide +kernel) H' O' hD17 (show vmov V196_Row [1, 2] [1] = true by decide +kernel) (fun D17 N17 F17 A17 H O' eD17 eN17 eF17 eA17 => ?_)
        have O := OUT_trans O O'
        -- Row.add
        have pf17_0_1 : F17 0 1 = (D17 3 : Int) := ((show F17 0 1 = F 0 1 from (eF17 0 1))).trans ((pf3).trans (congrArg (fun q : Nat => (q : Int)) ((show D17 3 = D 3 from (eD17 3))).symm))
        have pf17_1_0 : F17 1 0 = (D17 2 : Int) := (eF17 1 0).trans (pm17_1.trans (congrArg (fun q : Nat => (q : Int)) (eD17 2).symm))
        have pf17_3_0 : F17 3 0 = (D17 4 : Int) := ((show F17 3 0 = F 3 0 from (eF17 3 0))).trans ((pf4).trans (congrArg (fun q : Nat => (q : Int)) ((show D17 4 = D 4 from (eD17 4))).symm))
        have pf17_4_0 : F17 4 0 = (D17 5 : Int) := ((show F17 4 0 = F 4 0 from (eF17 4 0))).trans ((pf5).trans (congrArg (fun q : Nat => (q : Int)) ((show D17 5 = D 5 from (eD17 5))).symm))
        have r18 : (0 : Int) ≤ m17_1 ∧ m17_1 ≤ 1000000 := by have h1 := H.nle 2 (by decide); have h2 : (N17 2 : Int) = m17_1 := (congrArg (fun q : Nat => (q : Int)) (eN17 2)).trans em17_1; omega
        have r19 : (-2147483648 : Int) ≤ y17_0_1 ∧ y17_0_1 ≤ 2147483647 := by have h1 : (-2147483648 : Int) ≤ F17 1 1 ∧ F17 1 1 ≤ 2147483647 := H.krg 1 1 (by decide); rw [show F17 1 1 = y17_0_1 from ((eF17 1 1).trans ey17_0_1)] at h1; exact h1
        have r20 : (0 : Int) ≤ y17_0_2 ∧ y17_0_2 ≤ 1 := by have h1 : (0 : Int) ≤ F17 1 2 ∧ F17 1 2 ≤ 1 := H.krg 1 2 (by decide); rw [show F17 1 2 = y17_0_2 from ((eF17 1 2).trans ey17_0_2)] at h1; exact h1
        have h1_ := pz17_3
        rw [u8_sl2] at h1_
        refine Ew_of (pc' := 55) (fun _ => x_aload_n rfl (rk_o (rk_o (rfl) rfl rfl) rfl rfl)) ?_
        refine Ew_of (pc' := 57) (fun _ => x_iload rfl (rk_o (rk_s) rfl rfl)) ?_
        refine w_i2l rfl (show inr ((a3 - 1)) by omega) ?_
        refine Ew_of (pc' := 60) (fun _ => x_iload rfl rk_s) ?_
        refine Ew_stk (show ([I (2), J ((a3 - 1)), .ref (D 1)] : List Value) = [I (2), J ((a3 - 1)), .ref (D17 1)] by rw [show D17 1 = D 1 from ((show D17 1 = D 1 from (eD17 1).trans (hD17 0 rfl)))]) ?_
        refine v_inv H (o := 1) rfl rfl rfl rfl rfl rfl (by rfl) (C160 (D := pul [1, 2] D17) (N := pul [1, 2] N17) (HW_sub H (VS_of (show vsub V196_Row V160 [1, 2] = true by decide +kernel))) (pf17_1_0) (m17_1) ((congrArg (fun q : Nat => (q : Int)) (eN17 2)).trans em17_1) (y17_0_1) (((eF17 1 1).trans ey17_0_1)) (y17_0_2) (((eF17 1 2).trans ey17_0_2)) (w17_1) ((eA17 2).trans ew17_1) (show inrJ ((a3 - 1)) by omega) (show inr (2) by omega) (show 0 ≤ (y17_0_1) ∧ (y17_0_1) ≤ (m17_1) ∧ (m17_1) ≤ 65536 by omega) (show 0 ≤ (2) ∧ (2) ≤ 8 by omega) (fun σ21 D21' N21' F21' A21' c21 s21 H' O' hD21 hN21 hS21 hA21 pm21_1 m21_1 em21_1 y21_0_1 ey21_0_1 y21_0_2 ey21_0_2 w21_1 ew21_1 pz21_0 pz21_1 pz21_2 => ⟨rfl, ?_⟩))
        refine v_backM (c := (c + c17)) (s := (s + s17)) H (show vsub V196_Row V160 [1, 2] = true by decide +kernel) H' O' hD21 (show vmov V196_Row [1, 2] [1] = true by decide +kernel) (fun D21 N21 F21 A21 H O' eD21 eN21 eF21 eA21 => ?_)
        have O := OUT_trans O O'
        -- Row.addNumber
        have pf21_0_1 : F21 0 1 = (D21 3 : Int) := ((show F21 0 1 = F17 0 1 from (eF21 0 1))).trans ((pf17_0_1).trans (congrArg (fun q : Nat => (q : Int)) ((show D21 3 = D17 3 from (eD21 3))).symm))
        have pf21_1_0 : F21 1 0 = (D21 2 : Int) := (eF21 1 0).trans (pm21_1.trans (congrArg (fun q : Nat => (q : Int)) (eD21 2).symm))
        have pf21_3_0 : F21 3 0 = (D21 4 : Int) := ((show F21 3 0 = F17 3 0 from (eF21 3 0))).trans ((pf17_3_0).trans (congrArg (fun q : Nat => (q : Int)) ((show D21 4 = D17 4 from (eD21 4))).symm))
        have pf21_4_0 : F21 4 0 = (D21 5 : Int) := ((show F21 4 0 = F17 4 0 from (eF21 4 0))).trans ((pf17_4_0).trans (congrArg (fun q : Nat => (q : Int)) ((show D21 5 = D17 5 from (eD21 5))).symm))
        have r22 : (0 : Int) ≤ m21_1 ∧ m21_1 ≤ 1000000 := by have h1 := H.nle 2 (by decide); have h2 : (N21 2 : Int) = m21_1 := (congrArg (fun q : Nat => (q : Int)) (eN21 2)).trans em21_1; omega
        have r23 : (-2147483648 : Int) ≤ y21_0_1 ∧ y21_0_1 ≤ 2147483647 := by have h1 : (-2147483648 : Int) ≤ F21 1 1 ∧ F21 1 1 ≤ 2147483647 := H.krg 1 1 (by decide); rw [show F21 1 1 = y21_0_1 from ((eF21 1 1).trans ey21_0_1)] at h1; exact h1
        have r24 : (0 : Int) ≤ y21_0_2 ∧ y21_0_2 ≤ 1 := by have h1 : (0 : Int) ≤ F21 1 2 ∧ F21 1 2 ≤ 1 := H.krg 1 2 (by decide); rw [show F21 1 2 = y21_0_2 from ((eF21 1 2).trans ey21_0_2)] at h1; exact h1
        have : RAP ((u1_2)) ((w2)) ((u1_1)) ((y21_0_2)) ((w21_1)) ((y21_0_1)) (tgh ((a3))) := by first | exact RAP_c (RAP_trans h1_ pz21_2) (tgh_of (by omega) (by omega) (by omega)) | (have h := pNONE_3; rw [u8_sl2] at h; exact RAP_c h (by rw [← tgh_of (n := (a3)) (k := 0) (s := 4 * ((a3 - 1))) (by omega) (by omega) (by omega), nb_0, List.append_nil]))
        exact hc63  _ _ _ _ _ _ _ _  ((rk_o (rk_o (rfl) rfl rfl) rfl rfl).trans (congrArg (fun q : Nat => some (Value.ref q)) ((((show D21 0 = D17 0 from (eD21 0))).trans ((show D17 0 = D 0 from (eD17 0))))).symm)) ((rk_o (rk_o (rfl) rfl rfl) rfl rfl).trans (congrArg (fun q : Nat => some (Value.ref q)) ((((show D21 1 = D17 1 from (eD21 1).trans (hD21 0 rfl))).trans ((show D17 1 = D 1 from (eD17 1).trans (hD17 0 rfl))))).symm)) (rk_o (rk_o (rfl) rfl rfl) rfl rfl) (rk_o (rk_o (rfl) rfl rfl) rfl rfl) H O (SD_trans (SD_trans (SD_refl) (SD_glu (ι := [1, 2]) hD17 eD17 (by decide +kernel)) (any_subA (l' := [2]) rfl)) (SD_glu (ι := [1, 2]) hD21 eD21 (by decide +kernel)) (any_subA (l' := [2]) rfl)) (SD_trans (SD_trans (SD_refl) (SD_glu (ι := [1, 2]) hN17 eN17 (by decide +kernel)) (any_subA (l' := [2]) rfl)) (SD_glu (ι := [1, 2]) hN21 eN21 (by decide +kernel)) (any_subA (l' := [2]) rfl)) (SF_trans (SF_trans (SF_refl) (SF_glu (ι := [1, 2]) hS17 eF17 (by decide +kernel)) (any_sub (l' := [(1, 0), (1, 1), (1, 2)]) rfl)) (SF_glu (ι := [1, 2]) hS21 eF21 (by decide +kernel)) (any_sub (l' := [(1, 0), (1, 1), (1, 2)]) rfl)) (SA_trans (SA_trans (SA_refl) (SA_glu (ι := [1, 2]) hA17 eA17 (by decide +kernel)) (any_subA (l' := [2]) rfl)) (SA_glu (ι := [1, 2]) hA21 eA21 (by decide +kernel)) (any_subA (l' := [2]) rfl)) (pf21_1_0) (m21_1) ((congrArg (fun q : Nat => (q : Int)) (eN21 2)).trans em21_1) (y21_0_1) (((eF21 1 1).trans ey21_0_1)) (y21_0_2) (((eF21 1 2).trans ey21_0_2)) (w21_1) ((eA21 2).trans ew21_1) (show 0 ≤ (y21_0_1) ∧ (y21_0_1) ≤ (m21_1) ∧ (m21_1) ≤ 65536 by omega) (show RAP ((u1_2)) ((w2)) ((u1_1)) ((y21_0_2)) ((w21_1)) ((y21_0_1)) (tgh ((a3))) by assumption)
      · refine Ew_of (pc' := 37) (fun _ => x_iconst rfl) ?_
        refine Ew_of (pc' := 41) (fun _ => x_goto rfl rfl) ?_
        refine Ew_of (pc' := 43) (fun _ => x_istore rfl) ?_
        refine Ew_of (pc' := 44) (fun _ => x_aload_n rfl (rk_o (rk_o (rfl) rfl rfl) rfl rfl)) ?_
        refine Ew_of (pc' := 46) (fun _ => x_bipush (z := 59) rfl (by decide)) ?_
        refine Ew_of (pc' := 48) (fun _ => x_iload rfl rk_s) ?_
        refine w_iadd rfl ?_
        refine Ew_of (pc' := 50) (fun _ => x_iconst rfl) ?_
        refine w_ishlE rfl ?_
        have g25 : inr (slI ((59 + 1)) (2)) := toI_inr _
        refine v_inv H (o := 1) rfl rfl rfl rfl rfl rfl (by rfl) (C159 (D := pul [1, 2] D) (N := pul [1, 2] N) (HW_sub H (VS_of (show vsub V196_Row V159 [1, 2] = true by decide +kernel))) (pf2) (n2) (en2) (u1_1) ((eu1_1)) (u1_2) ((eu1_2)) (w2) (ew2) (show inr ((slI ((59 + 1)) (2))) by omega) (show 0 ≤ (u1_1) ∧ (u1_1) ≤ (n2) ∧ (n2) ≤ 65536 by omega) (fun σ26 D26' N26' F26' A26' c26 s26 H' O' hD26 hN26 hS26 hA26 pm26_1 m26_1 em26_1 y26_0_1 ey26_0_1 y26_0_2 ey26_0_2 w26_1 ew26_1 pz26_0 pz26_1 pz26_2 pz26_3 => ⟨rfl, ?_⟩))
        refine v_backM (c := c) (s := s) H (show vsub V196_Row V159 [1, 2] = true by decide +kernel) H' O' hD26 (show vmov V196_Row [1, 2] [1] = true by decide +kernel) (fun D26 N26 F26 A26 H O' eD26 eN26 eF26 eA26 => ?_)
        have O := OUT_trans O O'
        -- Row.add
        have pf26_0_1 : F26 0 1 = (D26 3 : Int) := ((show F26 0 1 = F 0 1 from (eF26 0 1))).trans ((pf3).trans (congrArg (fun q : Nat => (q : Int)) ((show D26 3 = D 3 from (eD26 3))).symm))
        have pf26_1_0 : F26 1 0 = (D26 2 : Int) := (eF26 1 0).trans (pm26_1.trans (congrArg (fun q : Nat => (q : Int)) (eD26 2).symm))
        have pf26_3_0 : F26 3 0 = (D26 4 : Int) := ((show F26 3 0 = F 3 0 from (eF26 3 0))).trans ((pf4).trans (congrArg (fun q : Nat => (q : Int)) ((show D26 4 = D 4 from (eD26 4))).symm))
        have pf26_4_0 : F26 4 0 = (D26 5 : Int) := ((show F26 4 0 = F 4 0 from (eF26 4 0))).trans ((pf5).trans (congrArg (fun q : Nat => (q : Int)) ((show D26 5 = D 5 from (eD26 5))).symm))
        have r27 : (0 : Int) ≤ m26_1 ∧ m26_1 ≤ 1000000 := by have h1 := H.nle 2 (by decide); have h2 : (N26 2 : Int) = m26_1 := (congrArg (fun q : Nat => (q : Int)) (eN26 2)).trans em26_1; omega
        have r28 : (-2147483648 : Int) ≤ y26_0_1 ∧ y26_0_1 ≤ 2147483647 := by have h1 : (-2147483648 : Int) ≤ F26 1 1 ∧ F26 1 1 ≤ 2147483647 := H.krg 1 1 (by decide); rw [show F26 1 1 = y26_0_1 from ((eF26 1 1).trans ey26_0_1)] at h1; exact h1
        have r29 : (0 : Int) ≤ y26_0_2 ∧ y26_0_2 ≤ 1 := by have h1 : (0 : Int) ≤ F26 1 2 ∧ F26 1 2 ≤ 1 := H.krg 1 2 (by decide); rw [show F26 1 2 = y26_0_2 from ((eF26 1 2).trans ey26_0_2)] at h1; exact h1
        have h1_ := pz26_3
        rw [u8_sl2] at h1_
        refine Ew_of (pc' := 55) (fun _ => x_aload_n rfl (rk_o (rk_o (rfl) rfl rfl) rfl rfl)) ?_
        refine Ew_of (pc' := 57) (fun _ => x_iload rfl (rk_o (rk_s) rfl rfl)) ?_
        refine w_i2l rfl (show inr ((a3 - 1)) by omega) ?_
        refine Ew_of (pc' := 60) (fun _ => x_iload rfl rk_s) ?_
        refine Ew_stk (show ([I (1), J ((a3 - 1)), .ref (D 1)] : List Value) = [I (1), J ((a3 - 1)), .ref (D26 1)] by rw [show D26 1 = D 1 from ((show D26 1 = D 1 from (eD26 1).trans (hD26 0 rfl)))]) ?_
        refine v_inv H (o := 1) rfl rfl rfl rfl rfl rfl (by rfl) (C160 (D := pul [1, 2] D26) (N := pul [1, 2] N26) (HW_sub H (VS_of (show vsub V196_Row V160 [1, 2] = true by decide +kernel))) (pf26_1_0) (m26_1) ((congrArg (fun q : Nat => (q : Int)) (eN26 2)).trans em26_1) (y26_0_1) (((eF26 1 1).trans ey26_0_1)) (y26_0_2) (((eF26 1 2).trans ey26_0_2)) (w26_1) ((eA26 2).trans ew26_1) (show inrJ ((a3 - 1)) by omega) (show inr (1) by omega) (show 0 ≤ (y26_0_1) ∧ (y26_0_1) ≤ (m26_1) ∧ (m26_1) ≤ 65536 by omega) (show 0 ≤ (1) ∧ (1) ≤ 8 by omega) (fun σ30 D30' N30' F30' A30' c30 s30 H' O' hD30 hN30 hS30 hA30 pm30_1 m30_1 em30_1 y30_0_1 ey30_0_1 y30_0_2 ey30_0_2 w30_1 ew30_1 pz30_0 pz30_1 pz30_2 => ⟨rfl, ?_⟩))
        refine v_backM (c := (c + c26)) (s := (s + s26)) H (show vsub V196_Row V160 [1, 2] = true by decide +kernel) H' O' hD30 (show vmov V196_Row [1, 2] [1] = true by decide +kernel) (fun D30 N30 F30 A30 H O' eD30 eN30 eF30 eA30 => ?_)
        have O := OUT_trans O O'
        -- Row.addNumber
        have pf30_0_1 : F30 0 1 = (D30 3 : Int) := ((show F30 0 1 = F26 0 1 from (eF30 0 1))).trans ((pf26_0_1).trans (congrArg (fun q : Nat => (q : Int)) ((show D30 3 = D26 3 from (eD30 3))).symm))
        have pf30_1_0 : F30 1 0 = (D30 2 : Int) := (eF30 1 0).trans (pm30_1.trans (congrArg (fun q : Nat => (q : Int)) (eD30 2).symm))
        have pf30_3_0 : F30 3 0 = (D30 4 : Int) := ((show F30 3 0 = F26 3 0 from (eF30 3 0))).trans ((pf26_3_0).trans (congrArg (fun q : Nat => (q : Int)) ((show D30 4 = D26 4 from (eD30 4))).symm))
        have pf30_4_0 : F30 4 0 = (D30 5 : Int) := ((show F30 4 0 = F26 4 0 from (eF30 4 0))).trans ((pf26_4_0).trans (congrArg (fun q : Nat => (q : Int)) ((show D30 5 = D26 5 from (eD30 5))).symm))
        have r31 : (0 : Int) ≤ m30_1 ∧ m30_1 ≤ 1000000 := by have h1 := H.nle 2 (by decide); have h2 : (N30 2 : Int) = m30_1 := (congrArg (fun q : Nat => (q : Int)) (eN30 2)).trans em30_1; omega
        have r32 : (-2147483648 : Int) ≤ y30_0_1 ∧ y30_0_1 ≤ 2147483647 := by have h1 : (-2147483648 : Int) ≤ F30 1 1 ∧ F30 1 1 ≤ 2147483647 := H.krg 1 1 (by decide); rw [show F30 1 1 = y30_0_1 from ((eF30 1 1).trans ey30_0_1)] at h1; exact h1
        have r33 : (0 : Int) ≤ y30_0_2 ∧ y30_0_2 ≤ 1 := by have h1 : (0 : Int) ≤ F30 1 2 ∧ F30 1 2 ≤ 1 := H.krg 1 2 (by decide); rw [show F30 1 2 = y30_0_2 from ((eF30 1 2).trans ey30_0_2)] at h1; exact h1
        have : RAP ((u1_2)) ((w2)) ((u1_1)) ((y30_0_2)) ((w30_1)) ((y30_0_1)) (tgh ((a3))) := by first | exact RAP_c (RAP_trans h1_ pz30_2) (tgh_of (by omega) (by omega) (by omega)) | (have h := pNONE_3; rw [u8_sl2] at h; exact RAP_c h (by rw [← tgh_of (n := (a3)) (k := 0) (s := 4 * ((a3 - 1))) (by omega) (by omega) (by omega), nb_0, List.append_nil]))
        exact hc63  _ _ _ _ _ _ _ _  ((rk_o (rk_o (rfl) rfl rfl) rfl rfl).trans (congrArg (fun q : Nat => some (Value.ref q)) ((((show D30 0 = D26 0 from (eD30 0))).trans ((show D26 0 = D 0 from (eD26 0))))).symm)) ((rk_o (rk_o (rfl) rfl rfl) rfl rfl).trans (congrArg (fun q : Nat => some (Value.ref q)) ((((show D30 1 = D26 1 from (eD30 1).trans (hD30 0 rfl))).trans ((show D26 1 = D 1 from (eD26 1).trans (hD26 0 rfl))))).symm)) (rk_o (rk_o (rfl) rfl rfl) rfl rfl) (rk_o (rk_o (rfl) rfl rfl) rfl rfl) H O (SD_trans (SD_trans (SD_refl) (SD_glu (ι := [1, 2]) hD26 eD26 (by decide +kernel)) (any_subA (l' := [2]) rfl)) (SD_glu (ι := [1, 2]) hD30 eD30 (by decide +kernel)) (any_subA (l' := [2]) rfl)) (SD_trans (SD_trans (SD_refl) (SD_glu (ι := [1, 2]) hN26 eN26 (by decide +kernel)) (any_subA (l' := [2]) rfl)) (SD_glu (ι := [1, 2]) hN30 eN30 (by decide +kernel)) (any_subA (l' := [2]) rfl)) (SF_trans (SF_trans (SF_refl) (SF_glu (ι := [1, 2]) hS26 eF26 (by decide +kernel)) (any_sub (l' := [(1, 0), (1, 1), (1, 2)]) rfl)) (SF_glu (ι := [1, 2]) hS30 eF30 (by decide +kernel)) (any_sub (l' := [(1, 0), (1, 1), (1, 2)]) rfl)) (SA_trans (SA_trans (SA_refl) (SA_glu (ι := [1, 2]) hA26 eA26 (by decide +kernel)) (any_subA (l' := [2]) rfl)) (SA_glu (ι := [1, 2]) hA30 eA30 (by decide +kernel)) (any_subA (l' := [2]) rfl)) (pf30_1_0) (m30_1) ((congrArg (fun q : Nat => (q : Int)) (eN30 2)).trans em30_1) (y30_0_1) (((eF30 1 1).trans ey30_0_1)) (y30_0_2) (((eF30 1 2).trans ey30_0_2)) (w30_1) ((eA30 2).trans ew30_1) (show 0 ≤ (y30_0_1) ∧ (y30_0_1) ≤ (m30_1) ∧ (m30_1) ≤ 65536 by omega) (show RAP ((u1_2)) ((w2)) ((u1_1)) ((y30_0_2)) ((w30_1)) ((y30_0_1)) (tgh ((a3))) by assumption)
    · refine Ew_of (pc' := 18) (fun _ => x_aload_n rfl (rk_o (rfl) rfl rfl)) ?_
      refine Ew_of (pc' := 20) (fun _ => x_iload rfl rk_s) ?_
      refine Ew_of (pc' := 21) (fun _ => x_iconst rfl) ?_
      refine w_ishlE rfl ?_
      have g34 : inr (slI ((a3 - 1)) (2)) := toI_inr _
      refine v_inv H (o := 1) rfl rfl rfl rfl rfl rfl (by rfl) (C159 (D := pul [1, 2] D) (N := pul [1, 2] N) (HW_sub H (VS_of (show vsub V196_Row V159 [1, 2] = true by decide +kernel))) (pf2) (n2) (en2) (u1_1) ((eu1_1)) (u1_2) ((eu1_2)) (w2) (ew2) (show inr ((slI ((a3 - 1)) (2))) by omega) (show 0 ≤ (u1_1) ∧ (u1_1) ≤ (n2) ∧ (n2) ≤ 65536 by omega) (fun σ35 D35' N35' F35' A35' c35 s35 H' O' hD35 hN35 hS35 hA35 pm35_1 m35_1 em35_1 y35_0_1 ey35_0_1 y35_0_2 ey35_0_2 w35_1 ew35_1 pz35_0 pz35_1 pz35_2 pz35_3 => ⟨rfl, ?_⟩))
      refine v_backM (c := c) (s := s) H (show vsub V196_Row V159 [1, 2] = true by decide +kernel) H' O' hD35 (show vmov V196_Row [1, 2] [1] = true by decide +kernel) (fun D35 N35 F35 A35 H O' eD35 eN35 eF35 eA35 => ?_)
      have O := OUT_trans O O'
      -- Row.add
      have pf35_0_1 : F35 0 1 = (D35 3 : Int) := ((show F35 0 1 = F 0 1 from (eF35 0 1))).trans ((pf3).trans (congrArg (fun q : Nat => (q : Int)) ((show D35 3 = D 3 from (eD35 3))).symm))
      have pf35_1_0 : F35 1 0 = (D35 2 : Int) := (eF35 1 0).trans (pm35_1.trans (congrArg (fun q : Nat => (q : Int)) (eD35 2).symm))
      have pf35_3_0 : F35 3 0 = (D35 4 : Int) := ((show F35 3 0 = F 3 0 from (eF35 3 0))).trans ((pf4).trans (congrArg (fun q : Nat => (q : Int)) ((show D35 4 = D 4 from (eD35 4))).symm))
      have pf35_4_0 : F35 4 0 = (D35 5 : Int) := ((show F35 4 0 = F 4 0 from (eF35 4 0))).trans ((pf5).trans (congrArg (fun q : Nat => (q : Int)) ((show D35 5 = D 5 from (eD35 5))).symm))
      have r36 : (0 : Int) ≤ m35_1 ∧ m35_1 ≤ 1000000 := by have h1 := H.nle 2 (by decide); have h2 : (N35 2 : Int) = m35_1 := (congrArg (fun q : Nat => (q : Int)) (eN35 2)).trans em35_1; omega
      have r37 : (-2147483648 : Int) ≤ y35_0_1 ∧ y35_0_1 ≤ 2147483647 := by have h1 : (-2147483648 : Int) ≤ F35 1 1 ∧ F35 1 1 ≤ 2147483647 := H.krg 1 1 (by decide); rw [show F35 1 1 = y35_0_1 from ((eF35 1 1).trans ey35_0_1)] at h1; exact h1
      have r38 : (0 : Int) ≤ y35_0_2 ∧ y35_0_2 ≤ 1 := by have h1 : (0 : Int) ≤ F35 1 2 ∧ F35 1 2 ≤ 1 := H.krg 1 2 (by decide); rw [show F35 1 2 = y35_0_2 from ((eF35 1 2).trans ey35_0_2)] at h1; exact h1
      refine Ew_of (pc' := 63) (fun _ => x_goto rfl rfl) ?_
      have : RAP ((u1_2)) ((w2)) ((u1_1)) ((y35_0_2)) ((w35_1)) ((y35_0_1)) (tgh ((a3))) := by first | exact RAP_c (RAP_trans h1_ pz30_2) (tgh_of (by omega) (by omega) (by omega)) | (have h := pz35_3; rw [u8_sl2] at h; exact RAP_c h (by rw [← tgh_of (n := (a3)) (k := 0) (s := 4 * ((a3 - 1))) (by omega) (by omega) (by omega), nb_0, List.append_nil]))
      exact hc63  _ _ _ _ _ _ _ _  ((rk_o (rfl) rfl rfl).trans (congrArg (fun q : Nat => some (Value.ref q)) (((show D35 0 = D 0 from (eD35 0)))).symm)) ((rk_o (rfl) rfl rfl).trans (congrArg (fun q : Nat => some (Value.ref q)) (((show D35 1 = D 1 from (eD35 1).trans (hD35 0 rfl)))).symm)) (rk_o (rfl) rfl rfl) (rk_o (rfl) rfl rfl) H O (SD_trans (SD_refl) (SD_glu (ι := [1, 2]) hD35 eD35 (by decide +kernel)) (any_subA (l' := [2]) rfl)) (SD_trans (SD_refl) (SD_glu (ι := [1, 2]) hN35 eN35 (by decide +kernel)) (any_subA (l' := [2]) rfl)) (SF_trans (SF_refl) (SF_glu (ι := [1, 2]) hS35 eF35 (by decide +kernel)) (any_sub (l' := [(1, 0), (1, 1), (1, 2)]) rfl)) (SA_trans (SA_refl) (SA_glu (ι := [1, 2]) hA35 eA35 (by decide +kernel)) (any_subA (l' := [2]) rfl)) (pf35_1_0) (m35_1) ((congrArg (fun q : Nat => (q : Int)) (eN35 2)).trans em35_1) (y35_0_1) (((eF35 1 1).trans ey35_0_1)) (y35_0_2) (((eF35 1 2).trans ey35_0_2)) (w35_1) ((eA35 2).trans ew35_1) (show 0 ≤ (y35_0_1) ∧ (y35_0_1) ≤ (m35_1) ∧ (m35_1) ≤ 65536 by omega) (show RAP ((u1_2)) ((w2)) ((u1_1)) ((y35_0_2)) ((w35_1)) ((y35_0_1)) (tgh ((a3))) by assumption)
  · have : RAP ((u1_2)) ((w2)) ((u1_1)) ((u1_2)) ((w2)) ((u1_1)) (tgl (sc ((w5)) ((a2)) ((a2) + (a3)))) := by rw [sc_nil (b := (a2) + (a3)) (by omega), tgl_0]; exact RAP_refl
    exact w_ret rfl (k _ _ _ _ _ _ _ H O (SD_refl) (SD_refl) (SF_refl) (SA_refl) (pf2) (n2) (en2) (u1_1) ((eu1_1)) (u1_2) ((eu1_2)) (w2) (ew2) (show 0 ≤ (u1_1) ∧ (u1_1) ≤ (n2) ∧ (n2) ≤ 65536 by omega) (show RAP ((u1_2)) ((w2)) ((u1_1)) ((u1_2)) ((w2)) ((u1_1)) (tgl (sc ((w5)) (a2) (a2 + a3))) by assumption))
abbrev V197_Row : vV := [(0, 7, [(4, 0), (0, 0), (1, 0), (0, 0), (0, 0)]), (1, 0, [])]
/-- Tags.packCopies: #1, #1.bytes -/
theorem C197_Row {σE : rS} {D N : Nat → Nat} {F : hF} {A : hA} {d c s : Nat} {Q : wQ} (H : HW V197_Row σE D N F A) {a2 a3 : Int} (pf1 : F 0 0 = (D 1 : Int)) (n1 : Int) (en1 : (N 1 : Int) = n1) (u0_1 : Int) (eu0_1 : F 0 1 = u0_1) (u0_2 : Int) (eu0_2 : F 0 2 = u0_2) (w1 : Int → Int) (ew1 : A 1 = w1) (h0 : inr (a2)) (h1 : inr (a3)) (h2 : 0 ≤ (u0_1) ∧ (u0_1) ≤ (n1) ∧ (n1) ≤ 65536) (h3 : 0 ≤ (a2) ∧ (a2) ≤ 65536) (h4 : 0 ≤ (a3) ∧ (a3) ≤ 65535) (k : ∀ (σ : rS) (D' N' : Nat → Nat) (F' : hF) (A' : hA) (c' s' : Nat), HW V197_Row σ D' N' F' A' → OUT (V197_Row).length D N σE c s D' N' σ c' s' → SD [1] D D' → SD [1] N N' → SF [(0, 0), (0, 1), (0, 2)] F F' → SA [1] A A' → F' 0 0 = (D' 1 : Int) → ∀ m1 : Int, (N' 1 : Int) = m1 → ∀ y0_1 : Int, F' 0 1 = y0_1 → ∀ y0_2 : Int, F' 0 2 = y0_2 → ∀ v1 : Int → Int, A' 1 = v1 → (0 ≤ (y0_1) ∧ (y0_1) ≤ (m1) ∧ (m1) ≤ 65536) → (RAP ((u0_2)) ((w1)) ((u0_1)) ((y0_2)) ((v1)) ((y0_1)) (tgc (ner ((a3))) ((a3)) ((a2)))) → Q none σ c' s') : Ew 197 (d + 3) 0 (rargs 0 [.ref (D 0), I a2, I a3]) [] σE c s Q := by
  have O := OUT_refl (n := (V197_Row).length) (D := D) (N := N) (σ := σE) (c := c) (s := s)
  have HE := H
  have r1 : (-2147483648 : Int) ≤ u0_1 ∧ u0_1 ≤ 2147483647 := by have h1 : (-2147483648 : Int) ≤ F 0 1 ∧ F 0 1 ≤ 2147483647 := H.krg 0 1 (by decide); rw [show F 0 1 = u0_1 from (eu0_1)] at h1; exact h1
  have r2 : (0 : Int) ≤ u0_2 ∧ u0_2 ≤ 1 := by have h1 : (0 : Int) ≤ F 0 2 ∧ F 0 2 ≤ 1 := H.krg 0 2 (by decide); rw [show F 0 2 = u0_2 from (eu0_2)] at h1; exact h1
  have r3 : (0 : Int) ≤ n1 ∧ n1 ≤ 1000000 := by have h1 := H.nle 1 (by decide); have h2 : (N 1 : Int) = n1 := en1; omega
  have hc12 : ∀ (tc12_0 : Int), ∀ (ls : rO) (σ : rS) (F_c12 : hF) (A_c12 : hA) , rlook ls 0 = some (.ref (D 0)) → rlook ls 1 = some (I (a2)) → rlook ls 2 = some (I (a3)) → HW V197_Row σ D N F_c12 A_c12 → OUT (V197_Row).length D N σE c s D N σ c s → SF [] F F_c12 → SA [] A A_c12 → (inr (tc12_0)) → ((tc12_0) = 1 ∧ (a3) < 2048 ∨ (tc12_0) = 0 ∧ 2048 ≤ (a3)) → Ew 197 (d + 3) 12 ls [I (tc12_0)] σ c s Q := by
   as_aux_lemma =>
    intro tc12_0 ls σ F_c12 A_c12  lc12_0 lc12_1 lc12_2 H O hS_c12 hA_c12     jc12_0 jc12_1
    refine Ew_of (pc' := 13) (fun _ => x_istore_n rfl) ?_
    have hn3 : (tc12_0) = 1 ∧ (a3) < 2048 ∨ (tc12_0) = 0 ∧ 2048 ≤ (a3) := by omega
    have hner2 := ner_eq ((a3))
    have hne : ner ((a3)) = (tc12_0) := by omega
    refine Ew_of (pc' := 14) (fun _ => x_iload_n rfl (rk_o (lc12_1) rfl rfl)) ?_
    refine Ew_of (pc' := 16) (fun _ => x_istore rfl) ?_
    refine Ew_of (pc' := 17) (fun _ => x_iconst rfl) ?_
    refine Ew_of (pc' := 19) (fun _ => x_istore rfl) ?_
    have : RTO ((u0_2)) ((w1)) ((u0_1)) ((u0_2)) ((w1)) ((u0_1)) (tgc (ner ((a3))) ((a3)) ((a2))) (tgc (ner ((a3))) ((a3)) ((a2))) := RTO_0
    suffices hl19 : ∀ (m : Nat), ∀ (ls : rO) (σ : rS) (D_19 N_19 : Nat → Nat) (c_19 s_19 : Nat) (F_19 : hF) (A_19 : hA) (x19_4 : Int) (x19_5 : Int), rlook ls 0 = some (.ref (D_19 0)) → rlook ls 1 = some (I (a2)) → rlook ls 2 = some (I (a3)) → rlook ls 3 = some (I (tc12_0)) → rlook ls 4 = some (I (x19_4)) → rlook ls 5 = some (I (x19_5)) → HW V197_Row σ D_19 N_19 F_19 A_19 → OUT (V197_Row).length D N σE c s D_19 N_19 σ c_19 s_19 → SD [1] D D_19 → SD [1] N N_19 → SF [(0, 0), (0, 1), (0, 2)] F_c12 F_19 → SA [1] A_c12 A_19 → F_19 0 0 = (D_19 1 : Int) → ∀ m19_1 : Int, (N_19 1 : Int) = m19_1 → ∀ y19_0_1 : Int, F_19 0 1 = y19_0_1 → ∀ y19_0_2 : Int, F_19 0 2 = y19_0_2 → ∀ w19_1 : Int → Int, A_19 1 = w19_1 → (inr (x19_4)) → (inr (x19_5)) → ((0) ≤ (x19_5)) → ((x19_5) ≤ (0) ∨ (x19_5) ≤ ((a2))) → (0 ≤ (y19_0_1) ∧ (y19_0_1) ≤ (m19_1) ∧ (m19_1) ≤ 65536) → ((x19_4) ≤ 65536) → ((x19_4) ≤ (a2) - (x19_5)) → (RTO ((u0_2)) ((w1)) ((u0_1)) ((y19_0_2)) ((w19_1)) ((y19_0_1)) (tgc (ner ((a3))) ((a3)) ((a2))) (tgc (ner ((a3))) ((a3)) ((x19_4)))) → (((a2)) - (x19_5)).toNat = m → Ew 197 (d + 3) 19 ls [] σ c_19 s_19 Q from
      hl19 _ _ _ _ _ _ _ _ _ (a2) (0) (rk_o (rk_o (rk_o (lc12_0) rfl rfl) rfl rfl) rfl rfl) (rk_o (rk_o (rk_o (lc12_1) rfl rfl) rfl rfl) rfl rfl) (rk_o (rk_o (rk_o (lc12_2) rfl rfl) rfl rfl) rfl rfl) (rk_o (rk_o (rk_s) rfl rfl) rfl rfl) (rk_o (rk_s) rfl rfl) (rk_s) H O (SD_refl) (SD_refl) (SF_refl) (SA_refl) (((hS_c12 0 0 rfl)).trans (pf1)) (n1) (en1) (u0_1) (((hS_c12 0 1 rfl).trans (eu0_1))) (u0_2) (((hS_c12 0 2 rfl).trans (eu0_2))) (w1) ((funext (hA_c12 1 rfl)).trans (ew1)) (show inr (a2) by omega) (show inr (0) by omega) (show (0) ≤ (0) by omega) (show (0) ≤ (0) ∨ (0) ≤ ((a2)) by omega) (show 0 ≤ (u0_1) ∧ (u0_1) ≤ (n1) ∧ (n1) ≤ 65536 by omega) (show (a2) ≤ 65536 by omega) (show (a2) ≤ (a2) - (0) by omega) (show RTO ((u0_2)) ((w1)) ((u0_1)) ((u0_2)) ((w1)) ((u0_1)) (tgc (ner ((a3))) ((a3)) ((a2))) (tgc (ner ((a3))) ((a3)) ((a2))) by assumption) rfl
    as_aux_lemma =>
    intro m
    induction m using Nat.strongRecOn with
    | _ m ih19 =>
      intro ls σ D_19 N_19 c_19 s_19 F_19 A_19 x19_4 x19_5 l19_0 l19_1 l19_2 l19_3 l19_4 l19_5 H O hD_19 hN_19 hS_19 hA_19 pm19_1 m19_1 em19_1 y19_0_1 ey19_0_1 y19_0_2 ey19_0_2 w19_1 ew19_1 j19_0 j19_1 j19_2 j19_3 j19_4 j19_5 j19_6 j19_7 hm19
      have r4 : (0 : Int) ≤ m19_1 ∧ m19_1 ≤ 1000000 := by have h1 := H.nle 1 (by decide); have h2 : (N_19 1 : Int) = m19_1 := em19_1; omega
      have r5 : (-2147483648 : Int) ≤ y19_0_1 ∧ y19_0_1 ≤ 2147483647 := by have h1 : (-2147483648 : Int) ≤ F_19 0 1 ∧ F_19 0 1 ≤ 2147483647 := H.krg 0 1 (by decide); rw [show F_19 0 1 = y19_0_1 from (ey19_0_1)] at h1; exact h1
      have r6 : (0 : Int) ≤ y19_0_2 ∧ y19_0_2 ≤ 1 := by have h1 : (0 : Int) ≤ F_19 0 2 ∧ F_19 0 2 ≤ 1 := H.krg 0 2 (by decide); rw [show F_19 0 2 = y19_0_2 from (ey19_0_2)] at h1; exact h1
      have j19_q : RTO ((u0_2)) ((w1)) ((u0_1)) ((y19_0_2)) ((w19_1)) ((y19_0_1)) (tgc (ner ((a3))) ((a3)) ((a2))) (tgc (ner ((a3))) ((a3)) ((x19_4))) := by assumption
      refine Ew_of (pc' := 21) (fun _ => x_iload rfl l19_5) ?_
      refine Ew_of (pc' := 22) (fun _ => x_iload_n rfl l19_1) ?_
      refine w_icmpge (t := 106) rfl rfl (show inr (x19_5) by omega) (show inr (a2) by omega) (fun b7 => ?_) (fun b7 => ?_)
      · have : RAP ((u0_2)) ((w1)) ((u0_1)) ((y19_0_2)) ((w19_1)) ((y19_0_1)) (tgc (ner ((a3))) ((a3)) ((a2))) := RTO_e j19_q (by rw [tgc_0 (l := (x19_4)) (by omega)]; exact RAP_refl)
        exact w_ret rfl (k _ _ _ _ _ _ _ H O (SD_trans (SD_refl) hD_19 (any_subA rfl)) (SD_trans (SD_refl) hN_19 (any_subA rfl)) (SF_trans (SF_trans (SF_refl) hS_c12 (any_sub rfl)) hS_19 (any_sub rfl)) (SA_trans (SA_trans (SA_refl) hA_c12 (any_subA rfl)) hA_19 (any_subA rfl)) (pm19_1) (m19_1) (em19_1) (y19_0_1) ((ey19_0_1)) (y19_0_2) ((ey19_0_2)) (w19_1) (ew19_1) (show 0 ≤ (y19_0_1) ∧ (y19_0_1) ≤ (m19_1) ∧ (m19_1) ≤ 65536 by omega) (show RAP ((u0_2)) ((w1)) ((u0_1)) ((y19_0_2)) ((w19_1)) ((y19_0_1)) (tgc (ner (a3)) (a3) (a2)) by assumption))
      · refine Ew_of (pc' := 27) (fun _ => x_iload rfl l19_4) ?_
        refine w_ifle (t := 106) rfl rfl (show inr (x19_4) by omega) (fun b8 => ?_) (fun b8 => ?_)
        · have : RAP ((u0_2)) ((w1)) ((u0_1)) ((y19_0_2)) ((w19_1)) ((y19_0_1)) (tgc (ner ((a3))) ((a3)) ((a2))) := RTO_e j19_q (by rw [tgc_0 (l := (x19_4)) (by omega)]; exact RAP_refl)
          exact w_ret rfl (k _ _ _ _ _ _ _ H O (SD_trans (SD_refl) hD_19 (any_subA rfl)) (SD_trans (SD_refl) hN_19 (any_subA rfl)) (SF_trans (SF_trans (SF_refl) hS_c12 (any_sub rfl)) hS_19 (any_sub rfl)) (SA_trans (SA_trans (SA_refl) hA_c12 (any_subA rfl)) hA_19 (any_subA rfl)) (pm19_1) (m19_1) (em19_1) (y19_0_1) ((ey19_0_1)) (y19_0_2) ((ey19_0_2)) (w19_1) (ew19_1) (show 0 ≤ (y19_0_1) ∧ (y19_0_1) ≤ (m19_1) ∧ (m19_1) ≤ 65536 by omega) (show RAP ((u0_2)) ((w1)) ((u0_1)) ((y19_0_2)) ((w19_1)) ((y19_0_1)) (tgc (ner (a3)) (a3) (a2)) by assumption))
        · refine Ew_of (pc' := 32) (fun _ => x_iload rfl l19_4) ?_
          refine Ew_of (pc' := 33) (fun _ => x_iload_n rfl l19_3) ?_
          refine w_stat24 rfl rfl (by rfl) (C199 (D := pul [] D_19) (N := pul [] N_19) (HW_sub H (VS_of (show vsub V197_Row V199 [] = true by decide +kernel))) (show inr (x19_4) by omega) (show inr (tc12_0) by omega) (show (tc12_0) = 0 ∨ (tc12_0) = 1 by omega) (show 1 ≤ (x19_4) ∧ (x19_4) ≤ 65536 by omega) (fun z9 σ9 F9' A9' H' O' hS9 hA9 pz9_0 pz9_1 pz9_2 => ⟨rfl, ?_⟩))
          refine v_back (c := c_19) (s := s_19) H (show vsub V197_Row V199 [] = true by decide +kernel) H' O' (fun F9 A9 H O' eF9 eA9 => ?_)
          have O := OUT_trans O O'
          -- Tags.firstCopy
          have hfc : (z9) = fcl (ner ((a3))) ((x19_4)) := by rw [hne]; exact pz9_2
          have hfr := fcl_r (nr := ner ((a3))) (l := (x19_4)) (by omega)
          rw [← hfc] at hfr
          refine Ew_of (pc' := 38) (fun _ => x_istore rfl) ?_
          have hc93 : ∀ (ls : rO) (σ : rS) (D_c93 N_c93 : Nat → Nat) (c_c93 s_c93 : Nat) (F_c93 : hF) (A_c93 : hA) , rlook ls 0 = some (.ref (D_c93 0)) → rlook ls 1 = some (I (a2)) → rlook ls 2 = some (I (a3)) → rlook ls 3 = some (I (tc12_0)) → rlook ls 4 = some (I (x19_4)) → rlook ls 5 = some (I (x19_5)) → rlook ls 6 = some (I (z9)) → HW V197_Row σ D_c93 N_c93 F_c93 A_c93 → OUT (V197_Row).length D N σE c s D_c93 N_c93 σ c_c93 s_c93 → SD [1] D_19 D_c93 → SD [1] N_19 N_c93 → SF [(0, 0), (0, 1), (0, 2)] F9 F_c93 → SA [1] A9 A_c93 → F_c93 0 0 = (D_c93 1 : Int) → ∀ mc93_1 : Int, (N_c93 1 : Int) = mc93_1 → ∀ yc93_0_1 : Int, F_c93 0 1 = yc93_0_1 → ∀ yc93_0_2 : Int, F_c93 0 2 = yc93_0_2 → ∀ wc93_1 : Int → Int, A_c93 1 = wc93_1 → (0 ≤ (yc93_0_1) ∧ (yc93_0_1) ≤ (mc93_1) ∧ (mc93_1) ≤ 65536) → (RTO ((u0_2)) ((w1)) ((u0_1)) ((yc93_0_2)) ((wc93_1)) ((yc93_0_1)) (tgc (ner ((a3))) ((a3)) ((a2))) (tgc (ner ((a3))) ((a3)) ((x19_4) - (z9)))) → Ew 197 (d + 3) 93 ls [] σ c_c93 s_c93 Q := by
           as_aux_lemma =>
            intro  ls σ D_c93 N_c93 c_c93 s_c93 F_c93 A_c93  lc93_0 lc93_1 lc93_2 lc93_3 lc93_4 lc93_5 lc93_6 H O hD_c93 hN_c93 hS_c93 hA_c93 pmc93_1 mc93_1 emc93_1 yc93_0_1 eyc93_0_1 yc93_0_2 eyc93_0_2 wc93_1 ewc93_1 jc93_0 jc93_1
            have r10 : (0 : Int) ≤ mc93_1 ∧ mc93_1 ≤ 1000000 := by have h1 := H.nle 1 (by decide); have h2 : (N_c93 1 : Int) = mc93_1 := emc93_1; omega
            have r11 : (-2147483648 : Int) ≤ yc93_0_1 ∧ yc93_0_1 ≤ 2147483647 := by have h1 : (-2147483648 : Int) ≤ F_c93 0 1 ∧ F_c93 0 1 ≤ 2147483647 := H.krg 0 1 (by decide); rw [show F_c93 0 1 = yc93_0_1 from (eyc93_0_1)] at h1; exact h1
            have r12 : (0 : Int) ≤ yc93_0_2 ∧ yc93_0_2 ≤ 1 := by have h1 : (0 : Int) ≤ F_c93 0 2 ∧ F_c93 0 2 ≤ 1 := H.krg 0 2 (by decide); rw [show F_c93 0 2 = yc93_0_2 from (eyc93_0_2)] at h1; exact h1
            have k93 : RTO ((u0_2)) ((w1)) ((u0_1)) ((yc93_0_2)) ((wc93_1)) ((yc93_0_1)) (tgc (ner ((a3))) ((a3)) ((a2))) (tgc (ner ((a3))) ((a3)) ((x19_4) - (z9))) := by assumption
            refine Ew_of (pc' := 95) (fun _ => x_iload rfl lc93_4) ?_
            refine Ew_of (pc' := 97) (fun _ => x_iload rfl lc93_6) ?_
            refine w_isub rfl ?_
            refine Ew_of (pc' := 100) (fun _ => x_istore rfl) ?_
            refine Ew_of (pc' := 103) (fun _ => x_iinc (len := 3) rfl (rk_o (lc93_5) rfl rfl)) ?_
            refine Ew_of (pc' := 19) (fun _ => x_goto rfl rfl) ?_
            exact ih19 _ (by omega) _ _ _ _ _ _ _ _ ((x19_4 - z9)) ((x19_5 + 1)) (rk_o (rk_o (lc93_0) rfl rfl) rfl rfl) (rk_o (rk_o (lc93_1) rfl rfl) rfl rfl) (rk_o (rk_o (lc93_2) rfl rfl) rfl rfl) (rk_o (rk_o (lc93_3) rfl rfl) rfl rfl) (rk_o (rk_s) rfl rfl) (rk_s) H O (SD_trans (hD_19) hD_c93 (any_subA rfl)) (SD_trans (hN_19) hN_c93 (any_subA rfl)) (SF_trans (SF_trans (hS_19) (SF_glu (ι := []) hS9 eF9 (by decide +kernel)) (any_sub (l' := []) rfl)) hS_c93 (any_sub rfl)) (SA_trans (SA_trans (hA_19) (SA_glu (ι := []) hA9 eA9 (by decide +kernel)) (any_subA (l' := []) rfl)) hA_c93 (any_subA rfl)) (pmc93_1) (mc93_1) (emc93_1) (yc93_0_1) ((eyc93_0_1)) (yc93_0_2) ((eyc93_0_2)) (wc93_1) (ewc93_1) (show inr ((x19_4 - z9)) by omega) (show inr ((x19_5 + 1)) by omega) (show (0) ≤ ((x19_5 + 1)) by omega) (show ((x19_5 + 1)) ≤ (0) ∨ ((x19_5 + 1)) ≤ ((a2)) by omega) (show 0 ≤ (yc93_0_1) ∧ (yc93_0_1) ≤ (mc93_1) ∧ (mc93_1) ≤ 65536 by omega) (show ((x19_4 - z9)) ≤ 65536 by omega) (show ((x19_4 - z9)) ≤ (a2) - ((x19_5 + 1)) by omega) (show RTO ((u0_2)) ((w1)) ((u0_1)) ((yc93_0_2)) ((wc93_1)) ((yc93_0_1)) (tgc (ner ((a3))) ((a3)) ((a2))) (tgc (ner ((a3))) ((a3)) (((x19_4 - z9)))) by assumption) rfl
          refine Ew_of (pc' := 40) (fun _ => x_iload rfl rk_s) ?_
          refine Ew_of (pc' := 41) (fun _ => x_iload_n rfl (rk_o (l19_3) rfl rfl)) ?_
          refine w_stat24 rfl rfl (by rfl) (C198 (D := pul [] D_19) (N := pul [] N_19) (HW_sub H (VS_of (show vsub V197_Row V198 [] = true by decide +kernel))) (show inr (z9) by omega) (show inr (tc12_0) by omega) (show (tc12_0) = 0 ∨ (tc12_0) = 1 by omega) (fun z13 σ13 F13' A13' H' O' hS13 hA13 pz13_0 pz13_1 => ⟨rretB rfl pz13_0, ?_⟩))
          refine v_back (c := c_19) (s := s_19) H (show vsub V197_Row V198 [] = true by decide +kernel) H' O' (fun F13 A13 H O' eF13 eA13 => ?_)
          have O := OUT_trans O O'
          -- Tags.isShort
          refine w_ifeq (t := 74) rfl rfl (show inr (z13) by omega) (fun b14 => ?_) (fun b14 => ?_)
          · refine Ew_of (pc' := 75) (fun _ => x_aload_n rfl (rk_o (l19_0) rfl rfl)) ?_
            refine Ew_of (pc' := 76) (fun _ => x_iconst rfl) ?_
            refine Ew_of (pc' := 78) (fun _ => x_iload rfl rk_s) ?_
            refine Ew_of (pc' := 79) (fun _ => x_iconst rfl) ?_
            refine w_isub rfl ?_
            refine Ew_of (pc' := 81) (fun _ => x_iconst rfl) ?_
            refine w_ishlE rfl ?_
            have g15 : inr (slI ((z9 - 1)) (2)) := toI_inr _
            refine w_iorE rfl ?_
            have g16 : inr (orI (2) ((slI ((z9 - 1)) (2)))) := toI_inr _
            refine v_inv H (o := 0) rfl rfl rfl rfl rfl rfl (by rfl) (C159 (D := pul [0, 1] D_19) (N := pul [0, 1] N_19) (HW_sub H (VS_of (show vsub V197_Row V159 [0, 1] = true by decide +kernel))) (((((show F13 0 0 = F9 0 0 from (eF13 0 0))).trans ((show F9 0 0 = F_19 0 0 from (eF9 0 0))))).trans (pm19_1)) (m19_1) (em19_1) (y19_0_1) (((((show F13 0 1 = F9 0 1 from (eF13 0 1))).trans ((show F9 0 1 = F_19 0 1 from (eF9 0 1)))).trans (ey19_0_1))) (y19_0_2) (((((show F13 0 2 = F9 0 2 from (eF13 0 2))).trans ((show F9 0 2 = F_19 0 2 from (eF9 0 2)))).trans (ey19_0_2))) (w19_1) (((show A13 1 = A9 1 from (eA13 1))).trans (((show A9 1 = A_19 1 from (eA9 1))).trans (ew19_1))) (show inr ((orI (2) ((slI ((z9 - 1)) (2))))) by omega) (show 0 ≤ (y19_0_1) ∧ (y19_0_1) ≤ (m19_1) ∧ (m19_1) ≤ 65536 by omega) (fun σ17 D17' N17' F17' A17' c17 s17 H' O' hD17 hN17 hS17 hA17 pm17_1 m17_1 em17_1 y17_0_1 ey17_0_1 y17_0_2 ey17_0_2 w17_1 ew17_1 pz17_0 pz17_1 pz17_2 pz17_3 => ⟨rfl, ?_⟩))
            refine v_backM (c := c_19) (s := s_19) H (show vsub V197_Row V159 [0, 1] = true by decide +kernel) H' O' hD17 (show vmov V197_Row [0, 1] [1] = true by decide +kernel) (fun D17 N17 F17 A17 H O' eD17 eN17 eF17 eA17 => ?_)
            have O := OUT_trans O O'
            -- Row.add
            have pf17_0_0 : F17 0 0 = (D17 1 : Int) := (eF17 0 0).trans (pm17_1.trans (congrArg (fun q : Nat => (q : Int)) (eD17 1).symm))
            have r18 : (0 : Int) ≤ m17_1 ∧ m17_1 ≤ 1000000 := by have h1 := H.nle 1 (by decide); have h2 : (N17 1 : Int) = m17_1 := (congrArg (fun q : Nat => (q : Int)) (eN17 1)).trans em17_1; omega
            have r19 : (-2147483648 : Int) ≤ y17_0_1 ∧ y17_0_1 ≤ 2147483647 := by have h1 : (-2147483648 : Int) ≤ F17 0 1 ∧ F17 0 1 ≤ 2147483647 := H.krg 0 1 (by decide); rw [show F17 0 1 = y17_0_1 from ((eF17 0 1).trans ey17_0_1)] at h1; exact h1
            have r20 : (0 : Int) ≤ y17_0_2 ∧ y17_0_2 ≤ 1 := by have h1 : (0 : Int) ≤ F17 0 2 ∧ F17 0 2 ≤ 1 := H.krg 0 2 (by decide); rw [show F17 0 2 = y17_0_2 from ((eF17 0 2).trans ey17_0_2)] at h1; exact h1
            have h2_ := pz17_3
            rw [cp_l (by omega)] at h2_
            refine Ew_of (pc' := 87) (fun _ => x_aload_n rfl (rk_o (l19_0) rfl rfl)) ?_
            refine Ew_of (pc' := 88) (fun _ => x_iload_n rfl (rk_o (l19_2) rfl rfl)) ?_
            refine w_i2l rfl (show inr (a3) by omega) ?_
            refine Ew_of (pc' := 90) (fun _ => x_iconst rfl) ?_
            refine Ew_stk (show ([I (2), J (a3), .ref (D_19 0)] : List Value) = [I (2), J (a3), .ref (D17 0)] by rw [show D17 0 = D_19 0 from ((show D17 0 = D_19 0 from (eD17 0).trans (hD17 0 rfl)))]) ?_
            refine v_inv H (o := 0) rfl rfl rfl rfl rfl rfl (by rfl) (C160 (D := pul [0, 1] D17) (N := pul [0, 1] N17) (HW_sub H (VS_of (show vsub V197_Row V160 [0, 1] = true by decide +kernel))) (pf17_0_0) (m17_1) ((congrArg (fun q : Nat => (q : Int)) (eN17 1)).trans em17_1) (y17_0_1) (((eF17 0 1).trans ey17_0_1)) (y17_0_2) (((eF17 0 2).trans ey17_0_2)) (w17_1) ((eA17 1).trans ew17_1) (show inrJ (a3) by omega) (show inr (2) by omega) (show 0 ≤ (y17_0_1) ∧ (y17_0_1) ≤ (m17_1) ∧ (m17_1) ≤ 65536 by omega) (show 0 ≤ (2) ∧ (2) ≤ 8 by omega) (fun σ21 D21' N21' F21' A21' c21 s21 H' O' hD21 hN21 hS21 hA21 pm21_1 m21_1 em21_1 y21_0_1 ey21_0_1 y21_0_2 ey21_0_2 w21_1 ew21_1 pz21_0 pz21_1 pz21_2 => ⟨rfl, ?_⟩))
            refine v_backM (c := (c_19 + c17)) (s := (s_19 + s17)) H (show vsub V197_Row V160 [0, 1] = true by decide +kernel) H' O' hD21 (show vmov V197_Row [0, 1] [1] = true by decide +kernel) (fun D21 N21 F21 A21 H O' eD21 eN21 eF21 eA21 => ?_)
            have O := OUT_trans O O'
            -- Row.addNumber
            have pf21_0_0 : F21 0 0 = (D21 1 : Int) := (eF21 0 0).trans (pm21_1.trans (congrArg (fun q : Nat => (q : Int)) (eD21 1).symm))
            have r22 : (0 : Int) ≤ m21_1 ∧ m21_1 ≤ 1000000 := by have h1 := H.nle 1 (by decide); have h2 : (N21 1 : Int) = m21_1 := (congrArg (fun q : Nat => (q : Int)) (eN21 1)).trans em21_1; omega
            have r23 : (-2147483648 : Int) ≤ y21_0_1 ∧ y21_0_1 ≤ 2147483647 := by have h1 : (-2147483648 : Int) ≤ F21 0 1 ∧ F21 0 1 ≤ 2147483647 := H.krg 0 1 (by decide); rw [show F21 0 1 = y21_0_1 from ((eF21 0 1).trans ey21_0_1)] at h1; exact h1
            have r24 : (0 : Int) ≤ y21_0_2 ∧ y21_0_2 ≤ 1 := by have h1 : (0 : Int) ≤ F21 0 2 ∧ F21 0 2 ≤ 1 := H.krg 0 2 (by decide); rw [show F21 0 2 = y21_0_2 from ((eF21 0 2).trans ey21_0_2)] at h1; exact h1
            have : RTO ((u0_2)) ((w1)) ((u0_1)) ((y21_0_2)) ((w21_1)) ((y21_0_1)) (tgc (ner ((a3))) ((a3)) ((a2))) (tgc (ner ((a3))) ((a3)) ((x19_4) - (z9))) := by first | exact RTO_s j19_q (tgc_s (by omega) hfc rfl) (by have h := RAP_trans h1_ pNONE_3; unfold tgp; rw [if_pos (by omega)]; exact h) | exact RTO_s j19_q (tgc_s (by omega) hfc rfl) (by have h := RAP_trans h2_ pz21_2; unfold tgp; rw [if_neg (by omega)]; exact h)
            exact hc93  _ _ _ _ _ _ _ _  ((rk_o (l19_0) rfl rfl).trans (congrArg (fun q : Nat => some (Value.ref q)) ((((show D21 0 = D17 0 from (eD21 0).trans (hD21 0 rfl))).trans ((show D17 0 = D_19 0 from (eD17 0).trans (hD17 0 rfl))))).symm)) (rk_o (l19_1) rfl rfl) (rk_o (l19_2) rfl rfl) (rk_o (l19_3) rfl rfl) (rk_o (l19_4) rfl rfl) (rk_o (l19_5) rfl rfl) (rk_s) H O (SD_trans (SD_trans (SD_refl) (SD_glu (ι := [0, 1]) hD17 eD17 (by decide +kernel)) (any_subA (l' := [1]) rfl)) (SD_glu (ι := [0, 1]) hD21 eD21 (by decide +kernel)) (any_subA (l' := [1]) rfl)) (SD_trans (SD_trans (SD_refl) (SD_glu (ι := [0, 1]) hN17 eN17 (by decide +kernel)) (any_subA (l' := [1]) rfl)) (SD_glu (ι := [0, 1]) hN21 eN21 (by decide +kernel)) (any_subA (l' := [1]) rfl)) (SF_trans (SF_trans (SF_trans (SF_refl) (SF_glu (ι := []) hS13 eF13 (by decide +kernel)) (any_sub (l' := []) rfl)) (SF_glu (ι := [0, 1]) hS17 eF17 (by decide +kernel)) (any_sub (l' := [(0, 0), (0, 1), (0, 2)]) rfl)) (SF_glu (ι := [0, 1]) hS21 eF21 (by decide +kernel)) (any_sub (l' := [(0, 0), (0, 1), (0, 2)]) rfl)) (SA_trans (SA_trans (SA_trans (SA_refl) (SA_glu (ι := []) hA13 eA13 (by decide +kernel)) (any_subA (l' := []) rfl)) (SA_glu (ι := [0, 1]) hA17 eA17 (by decide +kernel)) (any_subA (l' := [1]) rfl)) (SA_glu (ι := [0, 1]) hA21 eA21 (by decide +kernel)) (any_subA (l' := [1]) rfl)) (pf21_0_0) (m21_1) ((congrArg (fun q : Nat => (q : Int)) (eN21 1)).trans em21_1) (y21_0_1) (((eF21 0 1).trans ey21_0_1)) (y21_0_2) (((eF21 0 2).trans ey21_0_2)) (w21_1) ((eA21 1).trans ew21_1) (show 0 ≤ (y21_0_1) ∧ (y21_0_1) ≤ (m21_1) ∧ (m21_1) ≤ 65536 by omega) (show RTO ((u0_2)) ((w1)) ((u0_1)) ((y21_0_2)) ((w21_1)) ((y21_0_1)) (tgc (ner ((a3))) ((a3)) ((a2))) (tgc (ner ((a3))) ((a3)) ((x19_4) - (z9))) by assumption)
          · refine Ew_of (pc' := 48) (fun _ => x_aload_n rfl (rk_o (l19_0) rfl rfl)) ?_
            refine Ew_of (pc' := 49) (fun _ => x_iconst rfl) ?_
            refine Ew_of (pc' := 51) (fun _ => x_iload rfl rk_s) ?_
            refine Ew_of (pc' := 52) (fun _ => x_iconst rfl) ?_
            refine w_isub rfl ?_
            refine Ew_of (pc' := 54) (fun _ => x_iconst rfl) ?_
            refine w_ishlE rfl ?_
            have g25 : inr (slI ((z9 - 4)) (2)) := toI_inr _
            refine w_iorE rfl ?_
            have g26 : inr (orI (1) ((slI ((z9 - 4)) (2)))) := toI_inr _
            refine Ew_of (pc' := 57) (fun _ => x_iload_n rfl (rk_o (l19_2) rfl rfl)) ?_
            refine Ew_of (pc' := 59) (fun _ => x_bipush (z := 8) rfl (by decide)) ?_
            refine w_ishrG rfl ?_
            have g27 : inr (srI (a3) (8)) := toI_inr _
            refine Ew_of (pc' := 61) (fun _ => x_iconst rfl) ?_
            refine w_ishlE rfl ?_
            have g28 : inr (slI ((srI (a3) (8))) (5)) := toI_inr _
            refine w_iorE rfl ?_
            have g29 : inr (orI ((orI (1) ((slI ((z9 - 4)) (2))))) ((slI ((srI (a3) (8))) (5)))) := toI_inr _
            refine v_inv H (o := 0) rfl rfl rfl rfl rfl rfl (by rfl) (C159 (D := pul [0, 1] D_19) (N := pul [0, 1] N_19) (HW_sub H (VS_of (show vsub V197_Row V159 [0, 1] = true by decide +kernel))) (((((show F13 0 0 = F9 0 0 from (eF13 0 0))).trans ((show F9 0 0 = F_19 0 0 from (eF9 0 0))))).trans (pm19_1)) (m19_1) (em19_1) (y19_0_1) (((((show F13 0 1 = F9 0 1 from (eF13 0 1))).trans ((show F9 0 1 = F_19 0 1 from (eF9 0 1)))).trans (ey19_0_1))) (y19_0_2) (((((show F13 0 2 = F9 0 2 from (eF13 0 2))).trans ((show F9 0 2 = F_19 0 2 from (eF9 0 2)))).trans (ey19_0_2))) (w19_1) (((show A13 1 = A9 1 from (eA13 1))).trans (((show A9 1 = A_19 1 from (eA9 1))).trans (ew19_1))) (show inr ((orI ((orI (1) ((slI ((z9 - 4)) (2))))) ((slI ((srI (a3) (8))) (5))))) by omega) (show 0 ≤ (y19_0_1) ∧ (y19_0_1) ≤ (m19_1) ∧ (m19_1) ≤ 65536 by omega) (fun σ30 D30' N30' F30' A30' c30 s30 H' O' hD30 hN30 hS30 hA30 pm30_1 m30_1 em30_1 y30_0_1 ey30_0_1 y30_0_2 ey30_0_2 w30_1 ew30_1 pz30_0 pz30_1 pz30_2 pz30_3 => ⟨rfl, ?_⟩))
            refine v_backM (c := c_19) (s := s_19) H (show vsub V197_Row V159 [0, 1] = true by decide +kernel) H' O' hD30 (show vmov V197_Row [0, 1] [1] = true by decide +kernel) (fun D30 N30 F30 A30 H O' eD30 eN30 eF30 eA30 => ?_)
            have O := OUT_trans O O'
            -- Row.add
            have pf30_0_0 : F30 0 0 = (D30 1 : Int) := (eF30 0 0).trans (pm30_1.trans (congrArg (fun q : Nat => (q : Int)) (eD30 1).symm))
            have r31 : (0 : Int) ≤ m30_1 ∧ m30_1 ≤ 1000000 := by have h1 := H.nle 1 (by decide); have h2 : (N30 1 : Int) = m30_1 := (congrArg (fun q : Nat => (q : Int)) (eN30 1)).trans em30_1; omega
            have r32 : (-2147483648 : Int) ≤ y30_0_1 ∧ y30_0_1 ≤ 2147483647 := by have h1 : (-2147483648 : Int) ≤ F30 0 1 ∧ F30 0 1 ≤ 2147483647 := H.krg 0 1 (by decide); rw [show F30 0 1 = y30_0_1 from ((eF30 0 1).trans ey30_0_1)] at h1; exact h1
            have r33 : (0 : Int) ≤ y30_0_2 ∧ y30_0_2 ≤ 1 := by have h1 : (0 : Int) ≤ F30 0 2 ∧ F30 0 2 ≤ 1 := H.krg 0 2 (by decide); rw [show F30 0 2 = y30_0_2 from ((eF30 0 2).trans ey30_0_2)] at h1; exact h1
            have h1_ := pz30_3
            rw [cp_s (by omega) (by omega)] at h1_
            refine Ew_of (pc' := 67) (fun _ => x_aload_n rfl (rk_o (l19_0) rfl rfl)) ?_
            refine Ew_of (pc' := 68) (fun _ => x_iload_n rfl (rk_o (l19_2) rfl rfl)) ?_
            refine Ew_stk (show ([I (a3), .ref (D_19 0)] : List Value) = [I (a3), .ref (D30 0)] by rw [show D30 0 = D_19 0 from ((show D30 0 = D_19 0 from (eD30 0).trans (hD30 0 rfl)))]) ?_
            refine v_inv H (o := 0) rfl rfl rfl rfl rfl rfl (by rfl) (C159 (D := pul [0, 1] D30) (N := pul [0, 1] N30) (HW_sub H (VS_of (show vsub V197_Row V159 [0, 1] = true by decide +kernel))) (pf30_0_0) (m30_1) ((congrArg (fun q : Nat => (q : Int)) (eN30 1)).trans em30_1) (y30_0_1) (((eF30 0 1).trans ey30_0_1)) (y30_0_2) (((eF30 0 2).trans ey30_0_2)) (w30_1) ((eA30 1).trans ew30_1) (show inr (a3) by omega) (show 0 ≤ (y30_0_1) ∧ (y30_0_1) ≤ (m30_1) ∧ (m30_1) ≤ 65536 by omega) (fun σ34 D34' N34' F34' A34' c34 s34 H' O' hD34 hN34 hS34 hA34 pm34_1 m34_1 em34_1 y34_0_1 ey34_0_1 y34_0_2 ey34_0_2 w34_1 ew34_1 pz34_0 pz34_1 pz34_2 pz34_3 => ⟨rfl, ?_⟩))
            refine v_backM (c := (c_19 + c30)) (s := (s_19 + s30)) H (show vsub V197_Row V159 [0, 1] = true by decide +kernel) H' O' hD34 (show vmov V197_Row [0, 1] [1] = true by decide +kernel) (fun D34 N34 F34 A34 H O' eD34 eN34 eF34 eA34 => ?_)
            have O := OUT_trans O O'
            -- Row.add
            have pf34_0_0 : F34 0 0 = (D34 1 : Int) := (eF34 0 0).trans (pm34_1.trans (congrArg (fun q : Nat => (q : Int)) (eD34 1).symm))
            have r35 : (0 : Int) ≤ m34_1 ∧ m34_1 ≤ 1000000 := by have h1 := H.nle 1 (by decide); have h2 : (N34 1 : Int) = m34_1 := (congrArg (fun q : Nat => (q : Int)) (eN34 1)).trans em34_1; omega
            have r36 : (-2147483648 : Int) ≤ y34_0_1 ∧ y34_0_1 ≤ 2147483647 := by have h1 : (-2147483648 : Int) ≤ F34 0 1 ∧ F34 0 1 ≤ 2147483647 := H.krg 0 1 (by decide); rw [show F34 0 1 = y34_0_1 from ((eF34 0 1).trans ey34_0_1)] at h1; exact h1
            have r37 : (0 : Int) ≤ y34_0_2 ∧ y34_0_2 ≤ 1 := by have h1 : (0 : Int) ≤ F34 0 2 ∧ F34 0 2 ≤ 1 := H.krg 0 2 (by decide); rw [show F34 0 2 = y34_0_2 from ((eF34 0 2).trans ey34_0_2)] at h1; exact h1
            refine Ew_of (pc' := 93) (fun _ => x_goto rfl rfl) ?_
            have : RTO ((u0_2)) ((w1)) ((u0_1)) ((y34_0_2)) ((w34_1)) ((y34_0_1)) (tgc (ner ((a3))) ((a3)) ((a2))) (tgc (ner ((a3))) ((a3)) ((x19_4) - (z9))) := by first | exact RTO_s j19_q (tgc_s (by omega) hfc rfl) (by have h := RAP_trans h1_ pz34_3; unfold tgp; rw [if_pos (by omega)]; exact h) | exact RTO_s j19_q (tgc_s (by omega) hfc rfl) (by have h := RAP_trans h2_ pz21_2; unfold tgp; rw [if_neg (by omega)]; exact h)
            exact hc93  _ _ _ _ _ _ _ _  ((rk_o (l19_0) rfl rfl).trans (congrArg (fun q : Nat => some (Value.ref q)) ((((show D34 0 = D30 0 from (eD34 0).trans (hD34 0 rfl))).trans ((show D30 0 = D_19 0 from (eD30 0).trans (hD30 0 rfl))))).symm)) (rk_o (l19_1) rfl rfl) (rk_o (l19_2) rfl rfl) (rk_o (l19_3) rfl rfl) (rk_o (l19_4) rfl rfl) (rk_o (l19_5) rfl rfl) (rk_s) H O (SD_trans (SD_trans (SD_refl) (SD_glu (ι := [0, 1]) hD30 eD30 (by decide +kernel)) (any_subA (l' := [1]) rfl)) (SD_glu (ι := [0, 1]) hD34 eD34 (by decide +kernel)) (any_subA (l' := [1]) rfl)) (SD_trans (SD_trans (SD_refl) (SD_glu (ι := [0, 1]) hN30 eN30 (by decide +kernel)) (any_subA (l' := [1]) rfl)) (SD_glu (ι := [0, 1]) hN34 eN34 (by decide +kernel)) (any_subA (l' := [1]) rfl)) (SF_trans (SF_trans (SF_trans (SF_refl) (SF_glu (ι := []) hS13 eF13 (by decide +kernel)) (any_sub (l' := []) rfl)) (SF_glu (ι := [0, 1]) hS30 eF30 (by decide +kernel)) (any_sub (l' := [(0, 0), (0, 1), (0, 2)]) rfl)) (SF_glu (ι := [0, 1]) hS34 eF34 (by decide +kernel)) (any_sub (l' := [(0, 0), (0, 1), (0, 2)]) rfl)) (SA_trans (SA_trans (SA_trans (SA_refl) (SA_glu (ι := []) hA13 eA13 (by decide +kernel)) (any_subA (l' := []) rfl)) (SA_glu (ι := [0, 1]) hA30 eA30 (by decide +kernel)) (any_subA (l' := [1]) rfl)) (SA_glu (ι := [0, 1]) hA34 eA34 (by decide +kernel)) (any_subA (l' := [1]) rfl)) (pf34_0_0) (m34_1) ((congrArg (fun q : Nat => (q : Int)) (eN34 1)).trans em34_1) (y34_0_1) (((eF34 0 1).trans ey34_0_1)) (y34_0_2) (((eF34 0 2).trans ey34_0_2)) (w34_1) ((eA34 1).trans ew34_1) (show 0 ≤ (y34_0_1) ∧ (y34_0_1) ≤ (m34_1) ∧ (m34_1) ≤ 65536 by omega) (show RTO ((u0_2)) ((w1)) ((u0_1)) ((y34_0_2)) ((w34_1)) ((y34_0_1)) (tgc (ner ((a3))) ((a3)) ((a2))) (tgc (ner ((a3))) ((a3)) ((x19_4) - (z9))) by assumption)
  refine Ew_of (pc' := 1) (fun _ => x_iload_n rfl rfl) ?_
  refine Ew_of (pc' := 4) (fun _ => x_sipush (z := 2048) rfl (by decide)) ?_
  refine w_icmpge (t := 11) rfl rfl (show inr (a3) by omega) (show inr (2048) by omega) (fun b38 => ?_) (fun b38 => ?_)
  · refine Ew_of (pc' := 12) (fun _ => x_iconst rfl) ?_
    exact hc12 (0) _ _ _ _  (rfl) (rfl) (rfl) H O (SF_refl) (SA_refl)     (show inr (0) by omega) (show (0) = 1 ∧ (a3) < 2048 ∨ (0) = 0 ∧ 2048 ≤ (a3) by omega)
  · refine Ew_of (pc' := 8) (fun _ => x_iconst rfl) ?_
    refine Ew_of (pc' := 12) (fun _ => x_goto rfl rfl) ?_
    exact hc12 (1) _ _ _ _  (rfl) (rfl) (rfl) H O (SF_refl) (SA_refl)     (show inr (1) by omega) (show (1) = 1 ∧ (a3) < 2048 ∨ (1) = 0 ∧ 2048 ≤ (a3) by omega)
abbrev V194_Row : vV := [(0, 10, [(4, 0), (4, 0), (4, 0), (4, 0), (0, 0), (4, 0), (0, 0), (2, 0), (0, 0)]), (0, 7, [(4, 0), (0, 0), (1, 0), (0, 0), (0, 0)]), (1, 0, []), (0, 5, [(4, 0), (4, 0), (4, 0), (4, 0), (0, 0), (0, 0), (0, 0), (4, 0), (4, 0), (0, 0), (0, 0), (0, 0), (0, 0), (0, 0), (0, 0), (0, 0), (0, 0), (0, 0), (0, 0)]), (0, 7, [(4, 0), (0, 0), (1, 0), (0, 0), (0, 0)]), (1, 0, []), (1, 1, []), (1, 1, []), (1, 1, []), (1, 1, []), (1, 1, [])]
/-- Tags.packBlock: this, #1, #1.bytes, this.finder, this.finder.data, this.finder.data.bytes, this.finder.back, this.finder.heads, this.finder.literals, this.finder.lengths, this.finder.distances -/
theorem C194_Row {σE : rS} {D N : Nat → Nat} {F : hF} {A : hA} {d c s : Nat} {Q : wQ} (H : HW V194_Row σE D N F A)  (pf2 : F 1 0 = (D 2 : Int)) (pf3 : F 0 1 = (D 3 : Int)) (pf4 : F 3 0 = (D 4 : Int)) (pf5 : F 4 0 = (D 5 : Int)) (pf6 : F 3 8 = (D 6 : Int)) (pf7 : F 3 7 = (D 7 : Int)) (pf8 : F 3 1 = (D 8 : Int)) (pf9 : F 3 2 = (D 9 : Int)) (pf10 : F 3 3 = (D 10 : Int)) (n2 : Int) (en2 : (N 2 : Int) = n2) (n5 : Int) (en5 : (N 5 : Int) = n5) (n6 : Int) (en6 : (N 6 : Int) = n6) (n7 : Int) (en7 : (N 7 : Int) = n7) (n8 : Int) (en8 : (N 8 : Int) = n8) (n9 : Int) (en9 : (N 9 : Int) = n9) (n10 : Int) (en10 : (N 10 : Int) = n10) (u1_1 : Int) (eu1_1 : F 1 1 = u1_1) (u1_2 : Int) (eu1_2 : F 1 2 = u1_2) (u3_6 : Int) (eu3_6 : F 3 6 = u3_6) (u3_9 : Int) (eu3_9 : F 3 9 = u3_9) (u3_10 : Int) (eu3_10 : F 3 10 = u3_10) (u3_11 : Int) (eu3_11 : F 3 11 = u3_11) (u4_1 : Int) (eu4_1 : F 4 1 = u4_1) (w2 : Int → Int) (ew2 : A 2 = w2) (w5 : Int → Int) (ew5 : A 5 = w5) (w6 : Int → Int) (ew6 : A 6 = w6) (w7 : Int → Int) (ew7 : A 7 = w7) (h0 : 0 ≤ (u1_1) ∧ (u1_1) ≤ (n2) ∧ (n2) ≤ 65536) (h1 : 0 ≤ (u4_1) ∧ (u4_1) ≤ (n5) ∧ (n5) ≤ 65536 ∧ (u4_1) ≤ 16384) (h2 : (u3_10) = 4) (h3 : BKI ((w5)) ((w6)) ((u3_10)) ((u3_6))) (h4 : HDI ((w5)) ((w7)) ((u3_10)) ((u3_6))) (h5 : (n8) = (n9) ∧ (n10) = (n9) ∧ (n9) ≤ 65536 ∧ ((n9) = 0 ∨ 64 ≤ (n9)) ∧ lgq ((n9)) = 0) (h6 : (n7) = 2048) (h7 : 0 ≤ (u3_6) ∧ (u3_6) ≤ (n6) ∧ (n6) ≤ 16384) (h8 : (u3_11) = 65535) (k : ∀ (σ : rS) (D' N' : Nat → Nat) (F' : hF) (A' : hA) (c' s' : Nat), HW V194_Row σ D' N' F' A' → OUT (V194_Row).length D N σE c s D' N' σ c' s' → SD [2, 6, 8, 9, 10] D D' → SD [2, 6, 8, 9, 10] N N' → SF [(1, 0), (1, 1), (1, 2), (3, 1), (3, 2), (3, 3), (3, 4), (3, 5), (3, 6), (3, 8), (3, 12), (3, 13), (3, 14), (3, 15), (3, 16), (3, 17), (3, 18)] F F' → SA [2, 6, 7, 8, 9, 10] A A' → F' 1 0 = (D' 2 : Int) → F' 3 8 = (D' 6 : Int) → F' 3 1 = (D' 8 : Int) → F' 3 2 = (D' 9 : Int) → F' 3 3 = (D' 10 : Int) → ∀ m2 : Int, (N' 2 : Int) = m2 → ∀ m6 : Int, (N' 6 : Int) = m6 → ∀ m8 : Int, (N' 8 : Int) = m8 → ∀ m9 : Int, (N' 9 : Int) = m9 → ∀ m10 : Int, (N' 10 : Int) = m10 → ∀ y1_1 : Int, F' 1 1 = y1_1 → ∀ y1_2 : Int, F' 1 2 = y1_2 → ∀ y3_6 : Int, F' 3 6 = y3_6 → ∀ v2 : Int → Int, A' 2 = v2 → ∀ v6 : Int → Int, A' 6 = v6 → ∀ v7 : Int → Int, A' 7 = v7 → (0 ≤ (y1_1) ∧ (y1_1) ≤ (m2) ∧ (m2) ≤ 65536) → (0 ≤ (y3_6) ∧ (u3_6) ≤ (y3_6) ∧ (y3_6) ≤ (m6) ∧ (m6) ≤ 16384) → ((m8) = (m9) ∧ (m10) = (m9) ∧ (m9) ≤ 65536 ∧ ((m9) = 0 ∨ 64 ≤ (m9)) ∧ lgq ((m9)) = 0) → (BKI ((w5)) ((v6)) ((u3_10)) ((y3_6))) → (HDI ((w5)) ((v7)) ((u3_10)) ((y3_6))) → ((y3_6) = (u3_6) ∨ (y3_6) + 4 ≤ (u4_1) + 1) → (PKG ((u3_9)) (sc ((w5)) 0 ((u4_1))) ((u1_2)) ((w2)) ((u1_1)) ((y1_2)) ((v2)) ((y1_1))) → Q none σ c' s') : Ew 194 (d + 4) 0 (rargs 0 [.ref (D 0), .ref (D 1)]) [] σE c s Q := by
  have O := OUT_refl (n := (V194_Row).length) (D := D) (N := N) (σ := σE) (c := c) (s := s)
  have HE := H
  have r1 : (-2147483648 : Int) ≤ u1_1 ∧ u1_1 ≤ 2147483647 := by have h1 : (-2147483648 : Int) ≤ F 1 1 ∧ F 1 1 ≤ 2147483647 := H.krg 1 1 (by decide); rw [show F 1 1 = u1_1 from (eu1_1)] at h1; exact h1
  have r2 : (0 : Int) ≤ u1_2 ∧ u1_2 ≤ 1 := by have h1 : (0 : Int) ≤ F 1 2 ∧ F 1 2 ≤ 1 := H.krg 1 2 (by decide); rw [show F 1 2 = u1_2 from (eu1_2)] at h1; exact h1
  have r3 : (-2147483648 : Int) ≤ u3_6 ∧ u3_6 ≤ 2147483647 := by have h1 : (-2147483648 : Int) ≤ F 3 6 ∧ F 3 6 ≤ 2147483647 := H.krg 3 6 (by decide); rw [show F 3 6 = u3_6 from (eu3_6)] at h1; exact h1
  have r4 : (-2147483648 : Int) ≤ u3_9 ∧ u3_9 ≤ 2147483647 := by have h1 : (-2147483648 : Int) ≤ F 3 9 ∧ F 3 9 ≤ 2147483647 := H.krg 3 9 (by decide); rw [show F 3 9 = u3_9 from (eu3_9)] at h1; exact h1
  have r5 : (-2147483648 : Int) ≤ u3_10 ∧ u3_10 ≤ 2147483647 := by have h1 : (-2147483648 : Int) ≤ F 3 10 ∧ F 3 10 ≤ 2147483647 := H.krg 3 10 (by decide); rw [show F 3 10 = u3_10 from (eu3_10)] at h1; exact h1
  have r6 : (-2147483648 : Int) ≤ u3_11 ∧ u3_11 ≤ 2147483647 := by have h1 : (-2147483648 : Int) ≤ F 3 11 ∧ F 3 11 ≤ 2147483647 := H.krg 3 11 (by decide); rw [show F 3 11 = u3_11 from (eu3_11)] at h1; exact h1
  have r7 : (-2147483648 : Int) ≤ u4_1 ∧ u4_1 ≤ 2147483647 := by have h1 : (-2147483648 : Int) ≤ F 4 1 ∧ F 4 1 ≤ 2147483647 := H.krg 4 1 (by decide); rw [show F 4 1 = u4_1 from (eu4_1)] at h1; exact h1
  have r8 : (0 : Int) ≤ n2 ∧ n2 ≤ 1000000 := by have h1 := H.nle 2 (by decide); have h2 : (N 2 : Int) = n2 := en2; omega
  have r9 : (0 : Int) ≤ n5 ∧ n5 ≤ 1000000 := by have h1 := H.nle 5 (by decide); have h2 : (N 5 : Int) = n5 := en5; omega
  have r10 : (0 : Int) ≤ n6 ∧ n6 ≤ 1000000 := by have h1 := H.nle 6 (by decide); have h2 : (N 6 : Int) = n6 := en6; omega
  have r11 : (0 : Int) ≤ n7 ∧ n7 ≤ 1000000 := by have h1 := H.nle 7 (by decide); have h2 : (N 7 : Int) = n7 := en7; omega
  have r12 : (0 : Int) ≤ n8 ∧ n8 ≤ 1000000 := by have h1 := H.nle 8 (by decide); have h2 : (N 8 : Int) = n8 := en8; omega
  have r13 : (0 : Int) ≤ n9 ∧ n9 ≤ 1000000 := by have h1 := H.nle 9 (by decide); have h2 : (N 9 : Int) = n9 := en9; omega
  have r14 : (0 : Int) ≤ n10 ∧ n10 ≤ 1000000 := by have h1 := H.nle 10 (by decide); have h2 : (N 10 : Int) = n10 := en10; omega
  refine Ew_of (pc' := 1) (fun _ => x_aload_n rfl rfl) ?_
  refine v_g H (o := 0) (v := .ref (D 3)) rfl rfl rfl rfl rfl (vrf (pf3)) ?_
  refine v_g H (o := 3) (v := .ref (D 4)) rfl rfl rfl rfl rfl (vrf (pf4)) ?_
  refine v_g H (o := 4) (v := I (u4_1)) rfl rfl rfl rfl rfl (congrArg (fun z : Int => I z) ((eu4_1) : F 4 1 = u4_1)) ?_
  refine Ew_of (pc' := 11) (fun _ => x_istore_n rfl) ?_
  refine Ew_of (pc' := 12) (fun _ => x_aload_n rfl (rk_o (rfl) rfl rfl)) ?_
  refine Ew_of (pc' := 13) (fun _ => x_iload_n rfl rk_s) ?_
  refine w_stat24 rfl rfl (by rfl) (C195_Row (D := pul [1, 2] D) (N := pul [1, 2] N) (HW_sub H (VS_of (show vsub V194_Row V195_Row [1, 2] = true by decide +kernel))) (pf2) (n2) (en2) (u1_1) ((eu1_1)) (u1_2) ((eu1_2)) (w2) (ew2) (show inr (u4_1) by omega) (show 0 ≤ (u1_1) ∧ (u1_1) ≤ (n2) ∧ (n2) ≤ 65536 by omega) (show 0 ≤ (u4_1) ∧ (u4_1) ≤ 65536 by omega) (fun σ15 D15' N15' F15' A15' c15 s15 H' O' hD15 hN15 hS15 hA15 pm15_1 m15_1 em15_1 y15_0_1 ey15_0_1 y15_0_2 ey15_0_2 w15_1 ew15_1 pz15_0 pz15_1 => ⟨rfl, ?_⟩))
  refine v_backM (c := c) (s := s) H (show vsub V194_Row V195_Row [1, 2] = true by decide +kernel) H' O' hD15 (show vmov V194_Row [1, 2] [1] = true by decide +kernel) (fun D15 N15 F15 A15 H O' eD15 eN15 eF15 eA15 => ?_)
  have O := OUT_trans O O'
  -- Tags.packLength
  have pf15_0_1 : F15 0 1 = (D15 3 : Int) := ((show F15 0 1 = F 0 1 from (eF15 0 1))).trans ((pf3).trans (congrArg (fun q : Nat => (q : Int)) ((show D15 3 = D 3 from (eD15 3))).symm))
  have pf15_1_0 : F15 1 0 = (D15 2 : Int) := (eF15 1 0).trans (pm15_1.trans (congrArg (fun q : Nat => (q : Int)) (eD15 2).symm))
  have pf15_3_0 : F15 3 0 = (D15 4 : Int) := ((show F15 3 0 = F 3 0 from (eF15 3 0))).trans ((pf4).trans (congrArg (fun q : Nat => (q : Int)) ((show D15 4 = D 4 from (eD15 4))).symm))
  have pf15_3_1 : F15 3 1 = (D15 8 : Int) := ((show F15 3 1 = F 3 1 from (eF15 3 1))).trans ((pf8).trans (congrArg (fun q : Nat => (q : Int)) ((show D15 8 = D 8 from (eD15 8))).symm))
  have pf15_3_2 : F15 3 2 = (D15 9 : Int) := ((show F15 3 2 = F 3 2 from (eF15 3 2))).trans ((pf9).trans (congrArg (fun q : Nat => (q : Int)) ((show D15 9 = D 9 from (eD15 9))).symm))
  have pf15_3_3 : F15 3 3 = (D15 10 : Int) := ((show F15 3 3 = F 3 3 from (eF15 3 3))).trans ((pf10).trans (congrArg (fun q : Nat => (q : Int)) ((show D15 10 = D 10 from (eD15 10))).symm))
  have pf15_3_7 : F15 3 7 = (D15 7 : Int) := ((show F15 3 7 = F 3 7 from (eF15 3 7))).trans ((pf7).trans (congrArg (fun q : Nat => (q : Int)) ((show D15 7 = D 7 from (eD15 7))).symm))
  have pf15_3_8 : F15 3 8 = (D15 6 : Int) := ((show F15 3 8 = F 3 8 from (eF15 3 8))).trans ((pf6).trans (congrArg (fun q : Nat => (q : Int)) ((show D15 6 = D 6 from (eD15 6))).symm))
  have pf15_4_0 : F15 4 0 = (D15 5 : Int) := ((show F15 4 0 = F 4 0 from (eF15 4 0))).trans ((pf5).trans (congrArg (fun q : Nat => (q : Int)) ((show D15 5 = D 5 from (eD15 5))).symm))
  have r16 : (0 : Int) ≤ m15_1 ∧ m15_1 ≤ 1000000 := by have h1 := H.nle 2 (by decide); have h2 : (N15 2 : Int) = m15_1 := (congrArg (fun q : Nat => (q : Int)) (eN15 2)).trans em15_1; omega
  have r17 : (-2147483648 : Int) ≤ y15_0_1 ∧ y15_0_1 ≤ 2147483647 := by have h1 : (-2147483648 : Int) ≤ F15 1 1 ∧ F15 1 1 ≤ 2147483647 := H.krg 1 1 (by decide); rw [show F15 1 1 = y15_0_1 from ((eF15 1 1).trans ey15_0_1)] at h1; exact h1
  have r18 : (0 : Int) ≤ y15_0_2 ∧ y15_0_2 ≤ 1 := by have h1 : (0 : Int) ≤ F15 1 2 ∧ F15 1 2 ≤ 1 := H.krg 1 2 (by decide); rw [show F15 1 2 = y15_0_2 from ((eF15 1 2).trans ey15_0_2)] at h1; exact h1
  have hpl := pz15_1
  refine Ew_of (pc' := 17) (fun _ => x_aload_n rfl (rk_o (rfl) rfl rfl)) ?_
  refine Ew_stk (show ([.ref (D 0)] : List Value) = [.ref (D15 0)] by rw [show D15 0 = D 0 from ((show D15 0 = D 0 from (eD15 0)))]) ?_
  refine v_g H (o := 0) (v := .ref (D15 3)) rfl rfl rfl rfl rfl (vrf (pf15_0_1)) ?_
  refine Ew_of (pc' := 21) (fun _ => x_iload_n rfl rk_s) ?_
  refine v_inv H (o := 3) rfl rfl rfl rfl rfl rfl (by rfl) (C123 (D := pul [3, 4, 5, 6, 7] D15) (N := pul [3, 4, 5, 6, 7] N15) (HW_sub H (VS_of (show vsub V194_Row V123 [3, 4, 5, 6, 7] = true by decide +kernel))) (pf15_3_0) (pf15_4_0) (pf15_3_8) (pf15_3_7) (n5) ((congrArg (fun q : Nat => (q : Int)) (show N15 5 = N 5 from (eN15 5))).trans (en5)) (n6) ((congrArg (fun q : Nat => (q : Int)) (show N15 6 = N 6 from (eN15 6))).trans (en6)) (n7) ((congrArg (fun q : Nat => (q : Int)) (show N15 7 = N 7 from (eN15 7))).trans (en7)) (u3_6) ((((show F15 3 6 = F 3 6 from (eF15 3 6))).trans (eu3_6))) (u3_10) ((((show F15 3 10 = F 3 10 from (eF15 3 10))).trans (eu3_10))) (u4_1) ((((show F15 4 1 = F 4 1 from (eF15 4 1))).trans (eu4_1))) (w5) (((show A15 5 = A 5 from (eA15 5))).trans (ew5)) (w6) (((show A15 6 = A 6 from (eA15 6))).trans (ew6)) (w7) (((show A15 7 = A 7 from (eA15 7))).trans (ew7)) (show inr (u4_1) by omega) (show 0 ≤ (u4_1) ∧ (u4_1) ≤ (n5) ∧ (n5) ≤ 65536 ∧ (u4_1) ≤ 16384 by omega) (show 1 ≤ (u3_10) ∧ (u3_10) ≤ 8 by omega) (show 0 ≤ (u4_1) ∧ (u4_1) ≤ (u4_1) by omega) (show BKI ((w5)) ((w6)) ((u3_10)) ((u3_6)) by assumption) (show HDI ((w5)) ((w7)) ((u3_10)) ((u3_6)) by assumption) (show (n7) = 2048 by omega) (show 0 ≤ (u3_6) ∧ (u3_6) ≤ (n6) ∧ (n6) ≤ 16384 by omega) (fun σ19 D19' N19' F19' A19' c19 s19 H' O' hD19 hN19 hS19 hA19 pm19_3 m19_3 em19_3 y19_0_6 ey19_0_6 w19_3 ew19_3 w19_4 ew19_4 pz19_0 pz19_1 pz19_2 pz19_3 pz19_4 => ⟨rfl, ?_⟩))
  refine v_backM (c := (c + c15)) (s := (s + s15)) H (show vsub V194_Row V123 [3, 4, 5, 6, 7] = true by decide +kernel) H' O' hD19 (show vmov V194_Row [3, 4, 5, 6, 7] [3] = true by decide +kernel) (fun D19 N19 F19 A19 H O' eD19 eN19 eF19 eA19 => ?_)
  have O := OUT_trans O O'
  -- Finder.lay
  have pf19_0_1 : F19 0 1 = (D19 3 : Int) := ((show F19 0 1 = F15 0 1 from (eF19 0 1))).trans ((pf15_0_1).trans (congrArg (fun q : Nat => (q : Int)) ((show D19 3 = D15 3 from (eD19 3).trans (hD19 0 rfl))).symm))
  have pf19_1_0 : F19 1 0 = (D19 2 : Int) := ((show F19 1 0 = F15 1 0 from (eF19 1 0))).trans ((pf15_1_0).trans (congrArg (fun q : Nat => (q : Int)) ((show D19 2 = D15 2 from (eD19 2))).symm))
  have pf19_3_0 : F19 3 0 = (D19 4 : Int) := ((show F19 3 0 = F15 3 0 from (eF19 3 0).trans (hS19 0 0 rfl))).trans ((pf15_3_0).trans (congrArg (fun q : Nat => (q : Int)) ((show D19 4 = D15 4 from (eD19 4).trans (hD19 1 rfl))).symm))
  have pf19_3_1 : F19 3 1 = (D19 8 : Int) := ((show F19 3 1 = F15 3 1 from (eF19 3 1).trans (hS19 0 1 rfl))).trans ((pf15_3_1).trans (congrArg (fun q : Nat => (q : Int)) ((show D19 8 = D15 8 from (eD19 8))).symm))
  have pf19_3_2 : F19 3 2 = (D19 9 : Int) := ((show F19 3 2 = F15 3 2 from (eF19 3 2).trans (hS19 0 2 rfl))).trans ((pf15_3_2).trans (congrArg (fun q : Nat => (q : Int)) ((show D19 9 = D15 9 from (eD19 9))).symm))
  have pf19_3_3 : F19 3 3 = (D19 10 : Int) := ((show F19 3 3 = F15 3 3 from (eF19 3 3).trans (hS19 0 3 rfl))).trans ((pf15_3_3).trans (congrArg (fun q : Nat => (q : Int)) ((show D19 10 = D15 10 from (eD19 10))).symm))
  have pf19_3_7 : F19 3 7 = (D19 7 : Int) := ((show F19 3 7 = F15 3 7 from (eF19 3 7).trans (hS19 0 7 rfl))).trans ((pf15_3_7).trans (congrArg (fun q : Nat => (q : Int)) ((show D19 7 = D15 7 from (eD19 7).trans (hD19 4 rfl))).symm))
  have pf19_3_8 : F19 3 8 = (D19 6 : Int) := (eF19 3 8).trans (pm19_3.trans (congrArg (fun q : Nat => (q : Int)) (eD19 6).symm))
  have pf19_4_0 : F19 4 0 = (D19 5 : Int) := ((show F19 4 0 = F15 4 0 from (eF19 4 0).trans (hS19 1 0 rfl))).trans ((pf15_4_0).trans (congrArg (fun q : Nat => (q : Int)) ((show D19 5 = D15 5 from (eD19 5).trans (hD19 2 rfl))).symm))
  have r20 : (0 : Int) ≤ m19_3 ∧ m19_3 ≤ 1000000 := by have h1 := H.nle 6 (by decide); have h2 : (N19 6 : Int) = m19_3 := (congrArg (fun q : Nat => (q : Int)) (eN19 6)).trans em19_3; omega
  have r21 : (-2147483648 : Int) ≤ y19_0_6 ∧ y19_0_6 ≤ 2147483647 := by have h1 : (-2147483648 : Int) ≤ F19 3 6 ∧ F19 3 6 ≤ 2147483647 := H.krg 3 6 (by decide); rw [show F19 3 6 = y19_0_6 from ((eF19 3 6).trans ey19_0_6)] at h1; exact h1
  refine Ew_of (pc' := 25) (fun _ => x_aload_n rfl (rk_o (rfl) rfl rfl)) ?_
  refine Ew_stk (show ([.ref (D 0)] : List Value) = [.ref (D19 0)] by rw [show D19 0 = D 0 from (((show D19 0 = D15 0 from (eD19 0))).trans ((show D15 0 = D 0 from (eD15 0))))]) ?_
  refine v_g H (o := 0) (v := .ref (D19 3)) rfl rfl rfl rfl rfl (vrf (pf19_0_1)) ?_
  refine Ew_of (pc' := 29) (fun _ => x_iconst rfl) ?_
  refine Ew_of (pc' := 30) (fun _ => x_iload_n rfl rk_s) ?_
  refine Ew_of (pc' := 31) (fun _ => x_iload_n rfl rk_s) ?_
  refine Ew_of (pc' := 32) (fun _ => x_iload_n rfl rk_s) ?_
  refine Ew_of (pc' := 33) (fun _ => x_iconst rfl) ?_
  refine w_isub rfl ?_
  have r22 : (-2147483648 : Int) ≤ F 3 4 ∧ F 3 4 ≤ 2147483647 := by have h1 : (-2147483648 : Int) ≤ F19 3 4 ∧ F19 3 4 ≤ 2147483647 := H.krg 3 4 (by decide); rw [show F19 3 4 = F 3 4 from (((show F19 3 4 = F15 3 4 from (eF19 3 4).trans (hS19 0 4 rfl))).trans ((show F15 3 4 = F 3 4 from (eF15 3 4))))] at h1; exact h1
  have r23 : (-2147483648 : Int) ≤ F 3 5 ∧ F 3 5 ≤ 2147483647 := by have h1 : (-2147483648 : Int) ≤ F19 3 5 ∧ F19 3 5 ≤ 2147483647 := H.krg 3 5 (by decide); rw [show F19 3 5 = F 3 5 from (((show F19 3 5 = F15 3 5 from (eF19 3 5).trans (hS19 0 5 rfl))).trans ((show F15 3 5 = F 3 5 from (eF15 3 5))))] at h1; exact h1
  refine v_inv H (o := 3) rfl rfl rfl rfl rfl rfl (by rfl) (C125 (D := pul [3, 4, 5, 6, 8, 9, 10] D19) (N := pul [3, 4, 5, 6, 8, 9, 10] N19) (HW_sub H (VS_of (show vsub V194_Row V125 [3, 4, 5, 6, 8, 9, 10] = true by decide +kernel))) (pf19_3_0) (pf19_4_0) (pf19_3_8) (pf19_3_1) (pf19_3_2) (pf19_3_3) (n5) ((congrArg (fun q : Nat => (q : Int)) (show N19 5 = N15 5 from (eN19 5).trans (hN19 2 rfl))).trans ((congrArg (fun q : Nat => (q : Int)) (show N15 5 = N 5 from (eN15 5))).trans (en5))) (m19_3) ((congrArg (fun q : Nat => (q : Int)) (eN19 6)).trans em19_3) (n8) ((congrArg (fun q : Nat => (q : Int)) (show N19 8 = N15 8 from (eN19 8))).trans ((congrArg (fun q : Nat => (q : Int)) (show N15 8 = N 8 from (eN15 8))).trans (en8))) (n9) ((congrArg (fun q : Nat => (q : Int)) (show N19 9 = N15 9 from (eN19 9))).trans ((congrArg (fun q : Nat => (q : Int)) (show N15 9 = N 9 from (eN15 9))).trans (en9))) (n10) ((congrArg (fun q : Nat => (q : Int)) (show N19 10 = N15 10 from (eN19 10))).trans ((congrArg (fun q : Nat => (q : Int)) (show N15 10 = N 10 from (eN15 10))).trans (en10))) (F 3 4) ((((show F19 3 4 = F15 3 4 from (eF19 3 4).trans (hS19 0 4 rfl))).trans ((show F15 3 4 = F 3 4 from (eF15 3 4))))) (F 3 5) ((((show F19 3 5 = F15 3 5 from (eF19 3 5).trans (hS19 0 5 rfl))).trans ((show F15 3 5 = F 3 5 from (eF15 3 5))))) (y19_0_6) (((eF19 3 6).trans ey19_0_6)) (u3_9) (((((show F19 3 9 = F15 3 9 from (eF19 3 9).trans (hS19 0 9 rfl))).trans ((show F15 3 9 = F 3 9 from (eF15 3 9)))).trans (eu3_9))) (u3_10) (((((show F19 3 10 = F15 3 10 from (eF19 3 10).trans (hS19 0 10 rfl))).trans ((show F15 3 10 = F 3 10 from (eF15 3 10)))).trans (eu3_10))) (u3_11) (((((show F19 3 11 = F15 3 11 from (eF19 3 11).trans (hS19 0 11 rfl))).trans ((show F15 3 11 = F 3 11 from (eF15 3 11)))).trans (eu3_11))) (u4_1) (((((show F19 4 1 = F15 4 1 from (eF19 4 1).trans (hS19 1 1 rfl))).trans ((show F15 4 1 = F 4 1 from (eF15 4 1)))).trans (eu4_1))) (w5) (((show A19 5 = A15 5 from (eA19 5).trans (funext (hA19 2 rfl)))).trans (((show A15 5 = A 5 from (eA15 5))).trans (ew5))) (w19_3) ((eA19 6).trans ew19_3) (A 8) (((show A19 8 = A15 8 from (eA19 8))).trans ((show A15 8 = A 8 from (eA15 8)))) (A 9) (((show A19 9 = A15 9 from (eA19 9))).trans ((show A15 9 = A 9 from (eA15 9)))) (A 10) (((show A19 10 = A15 10 from (eA19 10))).trans ((show A15 10 = A 10 from (eA15 10)))) (show inr (0) by omega) (show inr (u4_1) by omega) (show inr (u4_1) by omega) (show inr ((u4_1 - 4)) by omega) (show 0 ≤ (u4_1) ∧ (u4_1) ≤ (n5) ∧ (n5) ≤ 65536 ∧ (u4_1) ≤ 16384 by omega) (show 1 ≤ (u3_10) ∧ (u3_10) ≤ 8 by omega) (show 0 ≤ (0) ∧ (0) ≤ (u4_1) ∧ (u4_1) ≤ (u4_1) by omega) (show (u4_1) ≤ (u4_1) ∧ ((u4_1 - 4)) < (u4_1) ∧ ((u4_1 - 4)) < (y19_0_6) by omega) (show 0 ≤ (y19_0_6) ∧ (y19_0_6) ≤ (m19_3) ∧ (m19_3) ≤ 16384 by omega) (show BKI ((w5)) ((w19_3)) ((u3_10)) ((y19_0_6)) by assumption) (show (n8) = (n9) ∧ (n10) = (n9) ∧ (n9) ≤ 65536 ∧ ((n9) = 0 ∨ 64 ≤ (n9)) ∧ lgq ((n9)) = 0 by omega) (fun σ24 D24' N24' F24' A24' c24 s24 H' O' hD24 hN24 hS24 hA24 pm24_4 pm24_5 pm24_6 m24_4 em24_4 m24_5 em24_5 m24_6 em24_6 y24_0_4 ey24_0_4 y24_0_5 ey24_0_5 w24_4 ew24_4 w24_5 ew24_5 w24_6 ew24_6 pz24_0 pz24_1 pz24_2 pz24_3 pz24_4 => ⟨rfl, ?_⟩))
  refine v_backM (c := ((c + c15) + c19)) (s := ((s + s15) + s19)) H (show vsub V194_Row V125 [3, 4, 5, 6, 8, 9, 10] = true by decide +kernel) H' O' hD24 (show vmov V194_Row [3, 4, 5, 6, 8, 9, 10] [4, 5, 6] = true by decide +kernel) (fun D24 N24 F24 A24 H O' eD24 eN24 eF24 eA24 => ?_)
  have O := OUT_trans O O'
  -- Finder.go
  have pf24_0_1 : F24 0 1 = (D24 3 : Int) := ((show F24 0 1 = F19 0 1 from (eF24 0 1))).trans ((pf19_0_1).trans (congrArg (fun q : Nat => (q : Int)) ((show D24 3 = D19 3 from (eD24 3).trans (hD24 0 rfl))).symm))
  have pf24_1_0 : F24 1 0 = (D24 2 : Int) := ((show F24 1 0 = F19 1 0 from (eF24 1 0))).trans ((pf19_1_0).trans (congrArg (fun q : Nat => (q : Int)) ((show D24 2 = D19 2 from (eD24 2))).symm))
  have pf24_3_0 : F24 3 0 = (D24 4 : Int) := ((show F24 3 0 = F19 3 0 from (eF24 3 0).trans (hS24 0 0 rfl))).trans ((pf19_3_0).trans (congrArg (fun q : Nat => (q : Int)) ((show D24 4 = D19 4 from (eD24 4).trans (hD24 1 rfl))).symm))
  have pf24_3_1 : F24 3 1 = (D24 8 : Int) := (eF24 3 1).trans (pm24_4.trans (congrArg (fun q : Nat => (q : Int)) (eD24 8).symm))
  have pf24_3_2 : F24 3 2 = (D24 9 : Int) := (eF24 3 2).trans (pm24_5.trans (congrArg (fun q : Nat => (q : Int)) (eD24 9).symm))
  have pf24_3_3 : F24 3 3 = (D24 10 : Int) := (eF24 3 3).trans (pm24_6.trans (congrArg (fun q : Nat => (q : Int)) (eD24 10).symm))
  have pf24_3_7 : F24 3 7 = (D24 7 : Int) := ((show F24 3 7 = F19 3 7 from (eF24 3 7).trans (hS24 0 7 rfl))).trans ((pf19_3_7).trans (congrArg (fun q : Nat => (q : Int)) ((show D24 7 = D19 7 from (eD24 7))).symm))
  have pf24_3_8 : F24 3 8 = (D24 6 : Int) := ((show F24 3 8 = F19 3 8 from (eF24 3 8).trans (hS24 0 8 rfl))).trans ((pf19_3_8).trans (congrArg (fun q : Nat => (q : Int)) ((show D24 6 = D19 6 from (eD24 6).trans (hD24 3 rfl))).symm))
  have pf24_4_0 : F24 4 0 = (D24 5 : Int) := ((show F24 4 0 = F19 4 0 from (eF24 4 0).trans (hS24 1 0 rfl))).trans ((pf19_4_0).trans (congrArg (fun q : Nat => (q : Int)) ((show D24 5 = D19 5 from (eD24 5).trans (hD24 2 rfl))).symm))
  have r25 : (0 : Int) ≤ m24_4 ∧ m24_4 ≤ 1000000 := by have h1 := H.nle 8 (by decide); have h2 : (N24 8 : Int) = m24_4 := (congrArg (fun q : Nat => (q : Int)) (eN24 8)).trans em24_4; omega
  have r26 : (0 : Int) ≤ m24_5 ∧ m24_5 ≤ 1000000 := by have h1 := H.nle 9 (by decide); have h2 : (N24 9 : Int) = m24_5 := (congrArg (fun q : Nat => (q : Int)) (eN24 9)).trans em24_5; omega
  have r27 : (0 : Int) ≤ m24_6 ∧ m24_6 ≤ 1000000 := by have h1 := H.nle 10 (by decide); have h2 : (N24 10 : Int) = m24_6 := (congrArg (fun q : Nat => (q : Int)) (eN24 10)).trans em24_6; omega
  have r28 : (-2147483648 : Int) ≤ y24_0_4 ∧ y24_0_4 ≤ 2147483647 := by have h1 : (-2147483648 : Int) ≤ F24 3 4 ∧ F24 3 4 ≤ 2147483647 := H.krg 3 4 (by decide); rw [show F24 3 4 = y24_0_4 from ((eF24 3 4).trans ey24_0_4)] at h1; exact h1
  have r29 : (-2147483648 : Int) ≤ y24_0_5 ∧ y24_0_5 ≤ 2147483647 := by have h1 : (-2147483648 : Int) ≤ F24 3 5 ∧ F24 3 5 ≤ 2147483647 := H.krg 3 5 (by decide); rw [show F24 3 5 = y24_0_5 from ((eF24 3 5).trans ey24_0_5)] at h1; exact h1
  refine Ew_of (pc' := 38) (fun _ => x_iconst rfl) ?_
  refine Ew_of (pc' := 39) (fun _ => x_istore_n rfl) ?_
  refine Ew_of (pc' := 40) (fun _ => x_iconst rfl) ?_
  refine Ew_of (pc' := 42) (fun _ => x_istore rfl) ?_
  have : su (fun j => ((w24_4)) j + ((w24_5)) j) (0 : Int).toNat = 0 := rfl
  have hfd : FDI ((w24_4)) ((w24_5)) ((w24_6)) ((y24_0_4)) ((u4_1) - 0 - (y24_0_5)) ((u3_10)) := pz24_3
  have hgo := pz24_4
  have : RTO ((u1_2)) ((w2)) ((u1_1)) ((y15_0_2)) ((w15_1)) ((y15_0_1)) (vlr ((u4_1)) ++ tgE ((w5)) 0 (sq ((w24_4)) ((w24_5)) ((w24_6)) ((y24_0_4))) ((y24_0_5))) (tgE ((w5)) (0) (sqd ((w24_4)) ((w24_5)) ((w24_6)) (0) ((y24_0_4))) ((y24_0_5))) := by rw [sqd_0]; exact RTO_s RTO_0 rfl hpl
  suffices hl42 : ∀ (m : Nat), ∀ (ls : rO) (σ : rS) (D_42 N_42 : Nat → Nat) (c_42 s_42 : Nat) (F_42 : hF) (A_42 : hA) (x42_3 : Int) (x42_4 : Int), rlook ls 0 = some (.ref (D_42 0)) → rlook ls 1 = some (.ref (D_42 1)) → rlook ls 3 = some (I (x42_3)) → rlook ls 4 = some (I (x42_4)) → HW V194_Row σ D_42 N_42 F_42 A_42 → OUT (V194_Row).length D N σE c s D_42 N_42 σ c_42 s_42 → SD [2] D24 D_42 → SD [2] N24 N_42 → SF [(1, 0), (1, 1), (1, 2)] F24 F_42 → SA [2] A24 A_42 → F_42 1 0 = (D_42 2 : Int) → ∀ m42_2 : Int, (N_42 2 : Int) = m42_2 → ∀ y42_1_1 : Int, F_42 1 1 = y42_1_1 → ∀ y42_1_2 : Int, F_42 1 2 = y42_1_2 → ∀ w42_2 : Int → Int, A_42 2 = w42_2 → (inr (x42_3)) → (inr (x42_4)) → ((0) ≤ (x42_4)) → ((x42_4) ≤ (0) ∨ (x42_4) ≤ ((y24_0_4))) → (0 ≤ (y42_1_1) ∧ (y42_1_1) ≤ (m42_2) ∧ (m42_2) ≤ 65536) → ((x42_3) = su (fun j => ((w24_4)) j + ((w24_5)) j) ((x42_4) : Int).toNat) → (RTO ((u1_2)) ((w2)) ((u1_1)) ((y42_1_2)) ((w42_2)) ((y42_1_1)) (vlr ((u4_1)) ++ tgE ((w5)) 0 (sq ((w24_4)) ((w24_5)) ((w24_6)) ((y24_0_4))) ((y24_0_5))) (tgE ((w5)) ((x42_3)) (sqd ((w24_4)) ((w24_5)) ((w24_6)) ((x42_4)) ((y24_0_4))) ((y24_0_5)))) → (((y24_0_4)) - (x42_4)).toNat = m → Ew 194 (d + 4) 42 ls [] σ c_42 s_42 Q from
    hl42 _ _ _ _ _ _ _ _ _ (0) (0) ((rk_o (rk_o (rk_o (rfl) rfl rfl) rfl rfl) rfl rfl).trans (congrArg (fun q : Nat => some (Value.ref q)) (((((show D24 0 = D19 0 from (eD24 0))).trans ((show D19 0 = D15 0 from (eD19 0)))).trans ((show D15 0 = D 0 from (eD15 0))))).symm)) ((rk_o (rk_o (rk_o (rfl) rfl rfl) rfl rfl) rfl rfl).trans (congrArg (fun q : Nat => some (Value.ref q)) (((((show D24 1 = D19 1 from (eD24 1))).trans ((show D19 1 = D15 1 from (eD19 1)))).trans ((show D15 1 = D 1 from (eD15 1).trans (hD15 0 rfl))))).symm)) (rk_o (rk_s) rfl rfl) (rk_s) H O (SD_refl) (SD_refl) (SF_refl) (SA_refl) (pf24_1_0) (m15_1) ((congrArg (fun q : Nat => (q : Int)) (show N24 2 = N19 2 from (eN24 2))).trans ((congrArg (fun q : Nat => (q : Int)) (show N19 2 = N15 2 from (eN19 2))).trans ((congrArg (fun q : Nat => (q : Int)) (eN15 2)).trans em15_1))) (y15_0_1) (((((show F24 1 1 = F19 1 1 from (eF24 1 1))).trans ((show F19 1 1 = F15 1 1 from (eF19 1 1)))).trans ((eF15 1 1).trans ey15_0_1))) (y15_0_2) (((((show F24 1 2 = F19 1 2 from (eF24 1 2))).trans ((show F19 1 2 = F15 1 2 from (eF19 1 2)))).trans ((eF15 1 2).trans ey15_0_2))) (w15_1) (((show A24 2 = A19 2 from (eA24 2))).trans (((show A19 2 = A15 2 from (eA19 2))).trans ((eA15 2).trans ew15_1))) (show inr (0) by omega) (show inr (0) by omega) (show (0) ≤ (0) by omega) (show (0) ≤ (0) ∨ (0) ≤ ((y24_0_4)) by omega) (show 0 ≤ (y15_0_1) ∧ (y15_0_1) ≤ (m15_1) ∧ (m15_1) ≤ 65536 by omega) (show (0) = su (fun j => ((w24_4)) j + ((w24_5)) j) ((0) : Int).toNat by omega) (show RTO ((u1_2)) ((w2)) ((u1_1)) ((y15_0_2)) ((w15_1)) ((y15_0_1)) (vlr ((u4_1)) ++ tgE ((w5)) 0 (sq ((w24_4)) ((w24_5)) ((w24_6)) ((y24_0_4))) ((y24_0_5))) (tgE ((w5)) ((0)) (sqd ((w24_4)) ((w24_5)) ((w24_6)) ((0)) ((y24_0_4))) ((y24_0_5))) by assumption) rfl
  as_aux_lemma =>
  intro m
  induction m using Nat.strongRecOn with
  | _ m ih42 =>
    intro ls σ D_42 N_42 c_42 s_42 F_42 A_42 x42_3 x42_4 l42_0 l42_1 l42_3 l42_4 H O hD_42 hN_42 hS_42 hA_42 pm42_2 m42_2 em42_2 y42_1_1 ey42_1_1 y42_1_2 ey42_1_2 w42_2 ew42_2 j42_0 j42_1 j42_2 j42_3 j42_4 j42_5 j42_6 hm42
    have pf_42_0_1 : F_42 0 1 = (D_42 3 : Int) := (hS_42 0 1 rfl).trans ((pf24_0_1).trans (congrArg (fun q : Nat => (q : Int)) (hD_42 3 rfl).symm))
    have pf_42_3_0 : F_42 3 0 = (D_42 4 : Int) := (hS_42 3 0 rfl).trans ((pf24_3_0).trans (congrArg (fun q : Nat => (q : Int)) (hD_42 4 rfl).symm))
    have pf_42_3_1 : F_42 3 1 = (D_42 8 : Int) := (hS_42 3 1 rfl).trans ((pf24_3_1).trans (congrArg (fun q : Nat => (q : Int)) (hD_42 8 rfl).symm))
    have pf_42_3_2 : F_42 3 2 = (D_42 9 : Int) := (hS_42 3 2 rfl).trans ((pf24_3_2).trans (congrArg (fun q : Nat => (q : Int)) (hD_42 9 rfl).symm))
    have pf_42_3_3 : F_42 3 3 = (D_42 10 : Int) := (hS_42 3 3 rfl).trans ((pf24_3_3).trans (congrArg (fun q : Nat => (q : Int)) (hD_42 10 rfl).symm))
    have pf_42_3_7 : F_42 3 7 = (D_42 7 : Int) := (hS_42 3 7 rfl).trans ((pf24_3_7).trans (congrArg (fun q : Nat => (q : Int)) (hD_42 7 rfl).symm))
    have pf_42_3_8 : F_42 3 8 = (D_42 6 : Int) := (hS_42 3 8 rfl).trans ((pf24_3_8).trans (congrArg (fun q : Nat => (q : Int)) (hD_42 6 rfl).symm))
    have pf_42_4_0 : F_42 4 0 = (D_42 5 : Int) := (hS_42 4 0 rfl).trans ((pf24_4_0).trans (congrArg (fun q : Nat => (q : Int)) (hD_42 5 rfl).symm))
    have r30 : (0 : Int) ≤ m42_2 ∧ m42_2 ≤ 1000000 := by have h1 := H.nle 2 (by decide); have h2 : (N_42 2 : Int) = m42_2 := em42_2; omega
    have r31 : (-2147483648 : Int) ≤ y42_1_1 ∧ y42_1_1 ≤ 2147483647 := by have h1 : (-2147483648 : Int) ≤ F_42 1 1 ∧ F_42 1 1 ≤ 2147483647 := H.krg 1 1 (by decide); rw [show F_42 1 1 = y42_1_1 from (ey42_1_1)] at h1; exact h1
    have r32 : (0 : Int) ≤ y42_1_2 ∧ y42_1_2 ≤ 1 := by have h1 : (0 : Int) ≤ F_42 1 2 ∧ F_42 1 2 ≤ 1 := H.krg 1 2 (by decide); rw [show F_42 1 2 = y42_1_2 from (ey42_1_2)] at h1; exact h1
    have j42_q : RTO ((u1_2)) ((w2)) ((u1_1)) ((y42_1_2)) ((w42_2)) ((y42_1_1)) (vlr ((u4_1)) ++ tgE ((w5)) 0 (sq ((w24_4)) ((w24_5)) ((w24_6)) ((y24_0_4))) ((y24_0_5))) (tgE ((w5)) ((x42_3)) (sqd ((w24_4)) ((w24_5)) ((w24_6)) ((x42_4)) ((y24_0_4))) ((y24_0_5))) := by assumption
    refine Ew_of (pc' := 44) (fun _ => x_iload rfl l42_4) ?_
    refine Ew_of (pc' := 45) (fun _ => x_aload_n rfl l42_0) ?_
    refine v_g H (o := 0) (v := .ref (D_42 3)) rfl rfl rfl rfl rfl (vrf (pf_42_0_1)) ?_
    refine v_g H (o := 3) (v := I (y24_0_4)) rfl rfl rfl rfl rfl (congrArg (fun z : Int => I z) (((hS_42 3 4 rfl).trans ((eF24 3 4).trans ey24_0_4)) : F_42 3 4 = y24_0_4)) ?_
    refine w_icmpge (t := 124) rfl rfl (show inr (x42_4) by omega) (show inr (y24_0_4) by omega) (fun b33 => ?_) (fun b33 => ?_)
    · have hlx : (x42_4) = (y24_0_4) := by omega
      have hst : su (fun j => ((w24_4)) j + ((w24_5)) j) ((x42_4) : Int).toNat = (u4_1) - 0 - (y24_0_5) := by rw [hlx]; exact hfd.2
      refine Ew_of (pc' := 125) (fun _ => x_aload_n rfl l42_0) ?_
      refine Ew_of (pc' := 126) (fun _ => x_aload_n rfl l42_1) ?_
      refine Ew_of (pc' := 127) (fun _ => x_iload_n rfl l42_3) ?_
      refine Ew_of (pc' := 128) (fun _ => x_aload_n rfl l42_0) ?_
      refine v_g H (o := 0) (v := .ref (D_42 3)) rfl rfl rfl rfl rfl (vrf (pf_42_0_1)) ?_
      refine v_g H (o := 3) (v := I (y24_0_5)) rfl rfl rfl rfl rfl (congrArg (fun z : Int => I z) (((hS_42 3 5 rfl).trans ((eF24 3 5).trans ey24_0_5)) : F_42 3 5 = y24_0_5)) ?_
      refine v_inv H (o := 0) rfl rfl rfl rfl rfl rfl (by rfl) (C196_Row (D := pul [0, 1, 2, 3, 4, 5] D_42) (N := pul [0, 1, 2, 3, 4, 5] N_42) (HW_sub H (VS_of (show vsub V194_Row V196_Row [0, 1, 2, 3, 4, 5] = true by decide +kernel))) (pm42_2) (pf_42_0_1) (pf_42_3_0) (pf_42_4_0) (m42_2) (em42_2) (n5) ((congrArg (fun q : Nat => (q : Int)) (hN_42 5 rfl)).trans ((congrArg (fun q : Nat => (q : Int)) (show N24 5 = N19 5 from (eN24 5).trans (hN24 2 rfl))).trans ((congrArg (fun q : Nat => (q : Int)) (show N19 5 = N15 5 from (eN19 5).trans (hN19 2 rfl))).trans ((congrArg (fun q : Nat => (q : Int)) (show N15 5 = N 5 from (eN15 5))).trans (en5))))) (y42_1_1) ((ey42_1_1)) (y42_1_2) ((ey42_1_2)) (u4_1) ((((((hS_42 4 1 rfl).trans ((show F24 4 1 = F19 4 1 from (eF24 4 1).trans (hS24 1 1 rfl)))).trans ((show F19 4 1 = F15 4 1 from (eF19 4 1).trans (hS19 1 1 rfl)))).trans ((show F15 4 1 = F 4 1 from (eF15 4 1)))).trans (eu4_1))) (w42_2) (ew42_2) (w5) ((funext (hA_42 5 rfl)).trans (((show A24 5 = A19 5 from (eA24 5).trans (funext (hA24 2 rfl)))).trans (((show A19 5 = A15 5 from (eA19 5).trans (funext (hA19 2 rfl)))).trans (((show A15 5 = A 5 from (eA15 5))).trans (ew5))))) (show inr (x42_3) by omega) (show inr (y24_0_5) by omega) (show 0 ≤ (y42_1_1) ∧ (y42_1_1) ≤ (m42_2) ∧ (m42_2) ≤ 65536 by omega) (show 0 ≤ (u4_1) ∧ (u4_1) ≤ (n5) ∧ (n5) ≤ 65536 by omega) (show 0 ≤ (x42_3) ∧ 0 ≤ (y24_0_5) ∧ (x42_3) + (y24_0_5) ≤ (n5) by omega) (fun σ34 D34' N34' F34' A34' c34 s34 H' O' hD34 hN34 hS34 hA34 pm34_2 m34_2 em34_2 y34_1_1 ey34_1_1 y34_1_2 ey34_1_2 w34_2 ew34_2 pz34_0 pz34_1 => ⟨rfl, ?_⟩))
      refine v_backM (c := c_42) (s := s_42) H (show vsub V194_Row V196_Row [0, 1, 2, 3, 4, 5] = true by decide +kernel) H' O' hD34 (show vmov V194_Row [0, 1, 2, 3, 4, 5] [2] = true by decide +kernel) (fun D34 N34 F34 A34 H O' eD34 eN34 eF34 eA34 => ?_)
      have O := OUT_trans O O'
      -- Tags.packLiterals
      have pf34_0_1 : F34 0 1 = (D34 3 : Int) := ((show F34 0 1 = F_42 0 1 from (eF34 0 1).trans (hS34 0 1 rfl))).trans ((pf_42_0_1).trans (congrArg (fun q : Nat => (q : Int)) ((show D34 3 = D_42 3 from (eD34 3).trans (hD34 3 rfl))).symm))
      have pf34_1_0 : F34 1 0 = (D34 2 : Int) := (eF34 1 0).trans (pm34_2.trans (congrArg (fun q : Nat => (q : Int)) (eD34 2).symm))
      have pf34_3_0 : F34 3 0 = (D34 4 : Int) := ((show F34 3 0 = F_42 3 0 from (eF34 3 0).trans (hS34 3 0 rfl))).trans ((pf_42_3_0).trans (congrArg (fun q : Nat => (q : Int)) ((show D34 4 = D_42 4 from (eD34 4).trans (hD34 4 rfl))).symm))
      have pf34_3_1 : F34 3 1 = (D34 8 : Int) := ((show F34 3 1 = F_42 3 1 from (eF34 3 1).trans (hS34 3 1 rfl))).trans ((pf_42_3_1).trans (congrArg (fun q : Nat => (q : Int)) ((show D34 8 = D_42 8 from (eD34 8))).symm))
      have pf34_3_2 : F34 3 2 = (D34 9 : Int) := ((show F34 3 2 = F_42 3 2 from (eF34 3 2).trans (hS34 3 2 rfl))).trans ((pf_42_3_2).trans (congrArg (fun q : Nat => (q : Int)) ((show D34 9 = D_42 9 from (eD34 9))).symm))
      have pf34_3_3 : F34 3 3 = (D34 10 : Int) := ((show F34 3 3 = F_42 3 3 from (eF34 3 3).trans (hS34 3 3 rfl))).trans ((pf_42_3_3).trans (congrArg (fun q : Nat => (q : Int)) ((show D34 10 = D_42 10 from (eD34 10))).symm))
      have pf34_3_7 : F34 3 7 = (D34 7 : Int) := ((show F34 3 7 = F_42 3 7 from (eF34 3 7).trans (hS34 3 7 rfl))).trans ((pf_42_3_7).trans (congrArg (fun q : Nat => (q : Int)) ((show D34 7 = D_42 7 from (eD34 7))).symm))
      have pf34_3_8 : F34 3 8 = (D34 6 : Int) := ((show F34 3 8 = F_42 3 8 from (eF34 3 8).trans (hS34 3 8 rfl))).trans ((pf_42_3_8).trans (congrArg (fun q : Nat => (q : Int)) ((show D34 6 = D_42 6 from (eD34 6))).symm))
      have pf34_4_0 : F34 4 0 = (D34 5 : Int) := ((show F34 4 0 = F_42 4 0 from (eF34 4 0).trans (hS34 4 0 rfl))).trans ((pf_42_4_0).trans (congrArg (fun q : Nat => (q : Int)) ((show D34 5 = D_42 5 from (eD34 5).trans (hD34 5 rfl))).symm))
      have r35 : (0 : Int) ≤ m34_2 ∧ m34_2 ≤ 1000000 := by have h1 := H.nle 2 (by decide); have h2 : (N34 2 : Int) = m34_2 := (congrArg (fun q : Nat => (q : Int)) (eN34 2)).trans em34_2; omega
      have r36 : (-2147483648 : Int) ≤ y34_1_1 ∧ y34_1_1 ≤ 2147483647 := by have h1 : (-2147483648 : Int) ≤ F34 1 1 ∧ F34 1 1 ≤ 2147483647 := H.krg 1 1 (by decide); rw [show F34 1 1 = y34_1_1 from ((eF34 1 1).trans ey34_1_1)] at h1; exact h1
      have r37 : (0 : Int) ≤ y34_1_2 ∧ y34_1_2 ≤ 1 := by have h1 : (0 : Int) ≤ F34 1 2 ∧ F34 1 2 ≤ 1 := H.krg 1 2 (by decide); rw [show F34 1 2 = y34_1_2 from ((eF34 1 2).trans ey34_1_2)] at h1; exact h1
      have hBd : ∀ i, (-128 : Int) ≤ (w5) i ∧ (w5) i ≤ 127 := fun i => by have h1 : (-128 : Int) ≤ A34 5 i ∧ A34 5 i ≤ 127 := H.arg 5 i (by decide) rfl; rw [show A34 5 = w5 from ((show A34 5 = A_42 5 from (eA34 5).trans (funext (hA34 5 rfl)))).trans ((funext (hA_42 5 rfl)).trans (((show A24 5 = A19 5 from (eA24 5).trans (funext (hA24 2 rfl)))).trans (((show A19 5 = A15 5 from (eA19 5).trans (funext (hA19 2 rfl)))).trans (((show A15 5 = A 5 from (eA15 5))).trans (ew5)))))] at h1; exact h1
      have : PKG ((u3_9)) (sc ((w5)) 0 ((u4_1))) ((u1_2)) ((w2)) ((u1_1)) ((y34_1_2)) ((w34_2)) ((y34_1_1)) := ⟨_, TGB_of (BYI_s hBd) (by omega) hgo (by omega) (by omega) (by omega) (by omega) (by omega), RTO_e j42_q (by rw [sqd_e (by omega)]; exact pz34_1)⟩
      exact w_ret rfl (k _ _ _ _ _ _ _ H O (SD_trans (SD_trans (SD_trans (SD_trans (SD_trans (SD_refl) (SD_glu (ι := [1, 2]) hD15 eD15 (by decide +kernel)) (any_subA (l' := [2]) rfl)) (SD_glu (ι := [3, 4, 5, 6, 7]) hD19 eD19 (by decide +kernel)) (any_subA (l' := [6]) rfl)) (SD_glu (ι := [3, 4, 5, 6, 8, 9, 10]) hD24 eD24 (by decide +kernel)) (any_subA (l' := [8, 9, 10]) rfl)) hD_42 (any_subA rfl)) (SD_glu (ι := [0, 1, 2, 3, 4, 5]) hD34 eD34 (by decide +kernel)) (any_subA (l' := [2]) rfl)) (SD_trans (SD_trans (SD_trans (SD_trans (SD_trans (SD_refl) (SD_glu (ι := [1, 2]) hN15 eN15 (by decide +kernel)) (any_subA (l' := [2]) rfl)) (SD_glu (ι := [3, 4, 5, 6, 7]) hN19 eN19 (by decide +kernel)) (any_subA (l' := [6]) rfl)) (SD_glu (ι := [3, 4, 5, 6, 8, 9, 10]) hN24 eN24 (by decide +kernel)) (any_subA (l' := [8, 9, 10]) rfl)) hN_42 (any_subA rfl)) (SD_glu (ι := [0, 1, 2, 3, 4, 5]) hN34 eN34 (by decide +kernel)) (any_subA (l' := [2]) rfl)) (SF_trans (SF_trans (SF_trans (SF_trans (SF_trans (SF_refl) (SF_glu (ι := [1, 2]) hS15 eF15 (by decide +kernel)) (any_sub (l' := [(1, 0), (1, 1), (1, 2)]) rfl)) (SF_glu (ι := [3, 4, 5, 6, 7]) hS19 eF19 (by decide +kernel)) (any_sub (l' := [(3, 6), (3, 8)]) rfl)) (SF_glu (ι := [3, 4, 5, 6, 8, 9, 10]) hS24 eF24 (by decide +kernel)) (any_sub (l' := [(3, 1), (3, 2), (3, 3), (3, 4), (3, 5), (3, 12), (3, 13), (3, 14), (3, 15), (3, 16), (3, 17), (3, 18)]) rfl)) hS_42 (any_sub rfl)) (SF_glu (ι := [0, 1, 2, 3, 4, 5]) hS34 eF34 (by decide +kernel)) (any_sub (l' := [(1, 0), (1, 1), (1, 2)]) rfl)) (SA_trans (SA_trans (SA_trans (SA_trans (SA_trans (SA_refl) (SA_glu (ι := [1, 2]) hA15 eA15 (by decide +kernel)) (any_subA (l' := [2]) rfl)) (SA_glu (ι := [3, 4, 5, 6, 7]) hA19 eA19 (by decide +kernel)) (any_subA (l' := [6, 7]) rfl)) (SA_glu (ι := [3, 4, 5, 6, 8, 9, 10]) hA24 eA24 (by decide +kernel)) (any_subA (l' := [8, 9, 10]) rfl)) hA_42 (any_subA rfl)) (SA_glu (ι := [0, 1, 2, 3, 4, 5]) hA34 eA34 (by decide +kernel)) (any_subA (l' := [2]) rfl)) (pf34_1_0) (pf34_3_8) (pf34_3_1) (pf34_3_2) (pf34_3_3) (m34_2) ((congrArg (fun q : Nat => (q : Int)) (eN34 2)).trans em34_2) (m19_3) ((congrArg (fun q : Nat => (q : Int)) (show N34 6 = N_42 6 from (eN34 6))).trans ((congrArg (fun q : Nat => (q : Int)) (hN_42 6 rfl)).trans ((congrArg (fun q : Nat => (q : Int)) (show N24 6 = N19 6 from (eN24 6).trans (hN24 3 rfl))).trans ((congrArg (fun q : Nat => (q : Int)) (eN19 6)).trans em19_3)))) (m24_4) ((congrArg (fun q : Nat => (q : Int)) (show N34 8 = N_42 8 from (eN34 8))).trans ((congrArg (fun q : Nat => (q : Int)) (hN_42 8 rfl)).trans ((congrArg (fun q : Nat => (q : Int)) (eN24 8)).trans em24_4))) (m24_5) ((congrArg (fun q : Nat => (q : Int)) (show N34 9 = N_42 9 from (eN34 9))).trans ((congrArg (fun q : Nat => (q : Int)) (hN_42 9 rfl)).trans ((congrArg (fun q : Nat => (q : Int)) (eN24 9)).trans em24_5))) (m24_6) ((congrArg (fun q : Nat => (q : Int)) (show N34 10 = N_42 10 from (eN34 10))).trans ((congrArg (fun q : Nat => (q : Int)) (hN_42 10 rfl)).trans ((congrArg (fun q : Nat => (q : Int)) (eN24 10)).trans em24_6))) (y34_1_1) (((eF34 1 1).trans ey34_1_1)) (y34_1_2) (((eF34 1 2).trans ey34_1_2)) (y19_0_6) ((((((show F34 3 6 = F_42 3 6 from (eF34 3 6).trans (hS34 3 6 rfl))).trans (hS_42 3 6 rfl)).trans ((show F24 3 6 = F19 3 6 from (eF24 3 6).trans (hS24 0 6 rfl)))).trans ((eF19 3 6).trans ey19_0_6))) (w34_2) ((eA34 2).trans ew34_2) (w19_3) (((show A34 6 = A_42 6 from (eA34 6))).trans ((funext (hA_42 6 rfl)).trans (((show A24 6 = A19 6 from (eA24 6).trans (funext (hA24 3 rfl)))).trans ((eA19 6).trans ew19_3)))) (w19_4) (((show A34 7 = A_42 7 from (eA34 7))).trans ((funext (hA_42 7 rfl)).trans (((show A24 7 = A19 7 from (eA24 7))).trans ((eA19 7).trans ew19_4)))) (show 0 ≤ (y34_1_1) ∧ (y34_1_1) ≤ (m34_2) ∧ (m34_2) ≤ 65536 by omega) (show 0 ≤ (y19_0_6) ∧ (u3_6) ≤ (y19_0_6) ∧ (y19_0_6) ≤ (m19_3) ∧ (m19_3) ≤ 16384 by omega) (show (m24_4) = (m24_5) ∧ (m24_6) = (m24_5) ∧ (m24_5) ≤ 65536 ∧ ((m24_5) = 0 ∨ 64 ≤ (m24_5)) ∧ lgq ((m24_5)) = 0 by omega) (show BKI ((w5)) ((w19_3)) ((u3_10)) ((y19_0_6)) by assumption) (show HDI ((w5)) ((w19_4)) ((u3_10)) ((y19_0_6)) by assumption) (show (y19_0_6) = (u3_6) ∨ (y19_0_6) + 4 ≤ (u4_1) + 1 by omega) (show PKG ((u3_9)) (sc ((w5)) 0 ((u4_1))) ((u1_2)) ((w2)) ((u1_1)) ((y34_1_2)) ((w34_2)) ((y34_1_1)) by assumption))
    · have hfp := FDI_part (i := (x42_4)) hfd (by omega) (by omega) (by omega)
      have hfj := hfd.1 ((x42_4)) (by omega) (by omega)
      refine Ew_of (pc' := 55) (fun _ => x_aload_n rfl l42_0) ?_
      refine Ew_of (pc' := 56) (fun _ => x_aload_n rfl l42_1) ?_
      refine Ew_of (pc' := 57) (fun _ => x_iload_n rfl l42_3) ?_
      refine Ew_of (pc' := 58) (fun _ => x_aload_n rfl l42_0) ?_
      refine v_g H (o := 0) (v := .ref (D_42 3)) rfl rfl rfl rfl rfl (vrf (pf_42_0_1)) ?_
      refine v_g H (o := 3) (v := .ref (D_42 8)) rfl rfl rfl rfl rfl (vrf (pf_42_3_1)) ?_
      refine Ew_of (pc' := 66) (fun _ => x_iload rfl l42_4) ?_
      refine v_lI H (o := 8) rfl rfl rfl rfl (n := m24_4) ((congrArg (fun q : Nat => (q : Int)) (hN_42 8 rfl)).trans ((congrArg (fun q : Nat => (q : Int)) (eN24 8)).trans em24_4)) (show 0 ≤ x42_4 ∧ x42_4 < m24_4 by omega) (fun v38 ev38 qv38 => ?_)
      have ev38 : (w24_4) (x42_4) = v38 := (congrFun ((funext (hA_42 8 rfl)).trans ((eA24 8).trans ew24_4)) (x42_4)).symm.trans ev38
      have hli := ev38
      refine v_inv H (o := 0) rfl rfl rfl rfl rfl rfl (by rfl) (C196_Row (D := pul [0, 1, 2, 3, 4, 5] D_42) (N := pul [0, 1, 2, 3, 4, 5] N_42) (HW_sub H (VS_of (show vsub V194_Row V196_Row [0, 1, 2, 3, 4, 5] = true by decide +kernel))) (pm42_2) (pf_42_0_1) (pf_42_3_0) (pf_42_4_0) (m42_2) (em42_2) (n5) ((congrArg (fun q : Nat => (q : Int)) (hN_42 5 rfl)).trans ((congrArg (fun q : Nat => (q : Int)) (show N24 5 = N19 5 from (eN24 5).trans (hN24 2 rfl))).trans ((congrArg (fun q : Nat => (q : Int)) (show N19 5 = N15 5 from (eN19 5).trans (hN19 2 rfl))).trans ((congrArg (fun q : Nat => (q : Int)) (show N15 5 = N 5 from (eN15 5))).trans (en5))))) (y42_1_1) ((ey42_1_1)) (y42_1_2) ((ey42_1_2)) (u4_1) ((((((hS_42 4 1 rfl).trans ((show F24 4 1 = F19 4 1 from (eF24 4 1).trans (hS24 1 1 rfl)))).trans ((show F19 4 1 = F15 4 1 from (eF19 4 1).trans (hS19 1 1 rfl)))).trans ((show F15 4 1 = F 4 1 from (eF15 4 1)))).trans (eu4_1))) (w42_2) (ew42_2) (w5) ((funext (hA_42 5 rfl)).trans (((show A24 5 = A19 5 from (eA24 5).trans (funext (hA24 2 rfl)))).trans (((show A19 5 = A15 5 from (eA19 5).trans (funext (hA19 2 rfl)))).trans (((show A15 5 = A 5 from (eA15 5))).trans (ew5))))) (show inr (x42_3) by omega) (show inr (v38) by omega) (show 0 ≤ (y42_1_1) ∧ (y42_1_1) ≤ (m42_2) ∧ (m42_2) ≤ 65536 by omega) (show 0 ≤ (u4_1) ∧ (u4_1) ≤ (n5) ∧ (n5) ≤ 65536 by omega) (show 0 ≤ (x42_3) ∧ 0 ≤ (v38) ∧ (x42_3) + (v38) ≤ (n5) by omega) (fun σ39 D39' N39' F39' A39' c39 s39 H' O' hD39 hN39 hS39 hA39 pm39_2 m39_2 em39_2 y39_1_1 ey39_1_1 y39_1_2 ey39_1_2 w39_2 ew39_2 pz39_0 pz39_1 => ⟨rfl, ?_⟩))
      refine v_backM (c := c_42) (s := s_42) H (show vsub V194_Row V196_Row [0, 1, 2, 3, 4, 5] = true by decide +kernel) H' O' hD39 (show vmov V194_Row [0, 1, 2, 3, 4, 5] [2] = true by decide +kernel) (fun D39 N39 F39 A39 H O' eD39 eN39 eF39 eA39 => ?_)
      have O := OUT_trans O O'
      -- Tags.packLiterals
      have pf39_0_1 : F39 0 1 = (D39 3 : Int) := ((show F39 0 1 = F_42 0 1 from (eF39 0 1).trans (hS39 0 1 rfl))).trans ((pf_42_0_1).trans (congrArg (fun q : Nat => (q : Int)) ((show D39 3 = D_42 3 from (eD39 3).trans (hD39 3 rfl))).symm))
      have pf39_1_0 : F39 1 0 = (D39 2 : Int) := (eF39 1 0).trans (pm39_2.trans (congrArg (fun q : Nat => (q : Int)) (eD39 2).symm))
      have pf39_3_0 : F39 3 0 = (D39 4 : Int) := ((show F39 3 0 = F_42 3 0 from (eF39 3 0).trans (hS39 3 0 rfl))).trans ((pf_42_3_0).trans (congrArg (fun q : Nat => (q : Int)) ((show D39 4 = D_42 4 from (eD39 4).trans (hD39 4 rfl))).symm))
      have pf39_3_1 : F39 3 1 = (D39 8 : Int) := ((show F39 3 1 = F_42 3 1 from (eF39 3 1).trans (hS39 3 1 rfl))).trans ((pf_42_3_1).trans (congrArg (fun q : Nat => (q : Int)) ((show D39 8 = D_42 8 from (eD39 8))).symm))
      have pf39_3_2 : F39 3 2 = (D39 9 : Int) := ((show F39 3 2 = F_42 3 2 from (eF39 3 2).trans (hS39 3 2 rfl))).trans ((pf_42_3_2).trans (congrArg (fun q : Nat => (q : Int)) ((show D39 9 = D_42 9 from (eD39 9))).symm))
      have pf39_3_3 : F39 3 3 = (D39 10 : Int) := ((show F39 3 3 = F_42 3 3 from (eF39 3 3).trans (hS39 3 3 rfl))).trans ((pf_42_3_3).trans (congrArg (fun q : Nat => (q : Int)) ((show D39 10 = D_42 10 from (eD39 10))).symm))
      have pf39_3_7 : F39 3 7 = (D39 7 : Int) := ((show F39 3 7 = F_42 3 7 from (eF39 3 7).trans (hS39 3 7 rfl))).trans ((pf_42_3_7).trans (congrArg (fun q : Nat => (q : Int)) ((show D39 7 = D_42 7 from (eD39 7))).symm))
      have pf39_3_8 : F39 3 8 = (D39 6 : Int) := ((show F39 3 8 = F_42 3 8 from (eF39 3 8).trans (hS39 3 8 rfl))).trans ((pf_42_3_8).trans (congrArg (fun q : Nat => (q : Int)) ((show D39 6 = D_42 6 from (eD39 6))).symm))
      have pf39_4_0 : F39 4 0 = (D39 5 : Int) := ((show F39 4 0 = F_42 4 0 from (eF39 4 0).trans (hS39 4 0 rfl))).trans ((pf_42_4_0).trans (congrArg (fun q : Nat => (q : Int)) ((show D39 5 = D_42 5 from (eD39 5).trans (hD39 5 rfl))).symm))
      have r40 : (0 : Int) ≤ m39_2 ∧ m39_2 ≤ 1000000 := by have h1 := H.nle 2 (by decide); have h2 : (N39 2 : Int) = m39_2 := (congrArg (fun q : Nat => (q : Int)) (eN39 2)).trans em39_2; omega
      have r41 : (-2147483648 : Int) ≤ y39_1_1 ∧ y39_1_1 ≤ 2147483647 := by have h1 : (-2147483648 : Int) ≤ F39 1 1 ∧ F39 1 1 ≤ 2147483647 := H.krg 1 1 (by decide); rw [show F39 1 1 = y39_1_1 from ((eF39 1 1).trans ey39_1_1)] at h1; exact h1
      have r42 : (0 : Int) ≤ y39_1_2 ∧ y39_1_2 ≤ 1 := by have h1 : (0 : Int) ≤ F39 1 2 ∧ F39 1 2 ≤ 1 := H.krg 1 2 (by decide); rw [show F39 1 2 = y39_1_2 from ((eF39 1 2).trans ey39_1_2)] at h1; exact h1
      have hp1 := pz39_1
      refine Ew_of (pc' := 71) (fun _ => x_aload_n rfl l42_1) ?_
      refine Ew_of (pc' := 72) (fun _ => x_aload_n rfl l42_0) ?_
      refine Ew_stk (show ([.ref (D_42 0), .ref (D_42 1)] : List Value) = [.ref (D39 0), .ref (D39 1)] by rw [show D39 0 = D_42 0 from ((show D39 0 = D_42 0 from (eD39 0).trans (hD39 0 rfl))), show D39 1 = D_42 1 from ((show D39 1 = D_42 1 from (eD39 1).trans (hD39 1 rfl)))]) ?_
      refine v_g H (o := 0) (v := .ref (D39 3)) rfl rfl rfl rfl rfl (vrf (pf39_0_1)) ?_
      refine v_g H (o := 3) (v := .ref (D39 9)) rfl rfl rfl rfl rfl (vrf (pf39_3_2)) ?_
      refine Ew_of (pc' := 80) (fun _ => x_iload rfl l42_4) ?_
      refine v_lI H (o := 9) rfl rfl rfl rfl (n := m24_5) ((congrArg (fun q : Nat => (q : Int)) (show N39 9 = N_42 9 from (eN39 9))).trans ((congrArg (fun q : Nat => (q : Int)) (hN_42 9 rfl)).trans ((congrArg (fun q : Nat => (q : Int)) (eN24 9)).trans em24_5))) (show 0 ≤ x42_4 ∧ x42_4 < m24_5 by omega) (fun v43 ev43 qv43 => ?_)
      have ev43 : (w24_5) (x42_4) = v43 := (congrFun (((show A39 9 = A_42 9 from (eA39 9))).trans ((funext (hA_42 9 rfl)).trans ((eA24 9).trans ew24_5))) (x42_4)).symm.trans ev43
      have hle := ev43
      refine Ew_of (pc' := 82) (fun _ => x_aload_n rfl l42_0) ?_
      refine Ew_stk (show ([.ref (D_42 0), I (v43), .ref (D39 1)] : List Value) = [.ref (D39 0), I (v43), .ref (D39 1)] by rw [show D39 0 = D_42 0 from ((show D39 0 = D_42 0 from (eD39 0).trans (hD39 0 rfl)))]) ?_
      refine v_g H (o := 0) (v := .ref (D39 3)) rfl rfl rfl rfl rfl (vrf (pf39_0_1)) ?_
      refine v_g H (o := 3) (v := .ref (D39 10)) rfl rfl rfl rfl rfl (vrf (pf39_3_3)) ?_
      refine Ew_of (pc' := 90) (fun _ => x_iload rfl l42_4) ?_
      refine v_lI H (o := 10) rfl rfl rfl rfl (n := m24_6) ((congrArg (fun q : Nat => (q : Int)) (show N39 10 = N_42 10 from (eN39 10))).trans ((congrArg (fun q : Nat => (q : Int)) (hN_42 10 rfl)).trans ((congrArg (fun q : Nat => (q : Int)) (eN24 10)).trans em24_6))) (show 0 ≤ x42_4 ∧ x42_4 < m24_6 by omega) (fun v44 ev44 qv44 => ?_)
      have ev44 : (w24_6) (x42_4) = v44 := (congrFun (((show A39 10 = A_42 10 from (eA39 10))).trans ((funext (hA_42 10 rfl)).trans ((eA24 10).trans ew24_6))) (x42_4)).symm.trans ev44
      have hdi := ev44
      refine w_stat24 rfl rfl (by rfl) (C197_Row (D := pul [1, 2] D39) (N := pul [1, 2] N39) (HW_sub H (VS_of (show vsub V194_Row V197_Row [1, 2] = true by decide +kernel))) (pf39_1_0) (m39_2) ((congrArg (fun q : Nat => (q : Int)) (eN39 2)).trans em39_2) (y39_1_1) (((eF39 1 1).trans ey39_1_1)) (y39_1_2) (((eF39 1 2).trans ey39_1_2)) (w39_2) ((eA39 2).trans ew39_2) (show inr (v43) by omega) (show inr (v44) by omega) (show 0 ≤ (y39_1_1) ∧ (y39_1_1) ≤ (m39_2) ∧ (m39_2) ≤ 65536 by omega) (show 0 ≤ (v43) ∧ (v43) ≤ 65536 by omega) (show 0 ≤ (v44) ∧ (v44) ≤ 65535 by omega) (fun σ45 D45' N45' F45' A45' c45 s45 H' O' hD45 hN45 hS45 hA45 pm45_1 m45_1 em45_1 y45_0_1 ey45_0_1 y45_0_2 ey45_0_2 w45_1 ew45_1 pz45_0 pz45_1 => ⟨rfl, ?_⟩))
      refine v_backM (c := (c_42 + c39)) (s := (s_42 + s39)) H (show vsub V194_Row V197_Row [1, 2] = true by decide +kernel) H' O' hD45 (show vmov V194_Row [1, 2] [1] = true by decide +kernel) (fun D45 N45 F45 A45 H O' eD45 eN45 eF45 eA45 => ?_)
      have O := OUT_trans O O'
      -- Tags.packCopies
      have pf45_0_1 : F45 0 1 = (D45 3 : Int) := ((show F45 0 1 = F39 0 1 from (eF45 0 1))).trans ((pf39_0_1).trans (congrArg (fun q : Nat => (q : Int)) ((show D45 3 = D39 3 from (eD45 3))).symm))
      have pf45_1_0 : F45 1 0 = (D45 2 : Int) := (eF45 1 0).trans (pm45_1.trans (congrArg (fun q : Nat => (q : Int)) (eD45 2).symm))
      have pf45_3_0 : F45 3 0 = (D45 4 : Int) := ((show F45 3 0 = F39 3 0 from (eF45 3 0))).trans ((pf39_3_0).trans (congrArg (fun q : Nat => (q : Int)) ((show D45 4 = D39 4 from (eD45 4))).symm))
      have pf45_3_1 : F45 3 1 = (D45 8 : Int) := ((show F45 3 1 = F39 3 1 from (eF45 3 1))).trans ((pf39_3_1).trans (congrArg (fun q : Nat => (q : Int)) ((show D45 8 = D39 8 from (eD45 8))).symm))
      have pf45_3_2 : F45 3 2 = (D45 9 : Int) := ((show F45 3 2 = F39 3 2 from (eF45 3 2))).trans ((pf39_3_2).trans (congrArg (fun q : Nat => (q : Int)) ((show D45 9 = D39 9 from (eD45 9))).symm))
      have pf45_3_3 : F45 3 3 = (D45 10 : Int) := ((show F45 3 3 = F39 3 3 from (eF45 3 3))).trans ((pf39_3_3).trans (congrArg (fun q : Nat => (q : Int)) ((show D45 10 = D39 10 from (eD45 10))).symm))
      have pf45_3_7 : F45 3 7 = (D45 7 : Int) := ((show F45 3 7 = F39 3 7 from (eF45 3 7))).trans ((pf39_3_7).trans (congrArg (fun q : Nat => (q : Int)) ((show D45 7 = D39 7 from (eD45 7))).symm))
      have pf45_3_8 : F45 3 8 = (D45 6 : Int) := ((show F45 3 8 = F39 3 8 from (eF45 3 8))).trans ((pf39_3_8).trans (congrArg (fun q : Nat => (q : Int)) ((show D45 6 = D39 6 from (eD45 6))).symm))
      have pf45_4_0 : F45 4 0 = (D45 5 : Int) := ((show F45 4 0 = F39 4 0 from (eF45 4 0))).trans ((pf39_4_0).trans (congrArg (fun q : Nat => (q : Int)) ((show D45 5 = D39 5 from (eD45 5))).symm))
      have r46 : (0 : Int) ≤ m45_1 ∧ m45_1 ≤ 1000000 := by have h1 := H.nle 2 (by decide); have h2 : (N45 2 : Int) = m45_1 := (congrArg (fun q : Nat => (q : Int)) (eN45 2)).trans em45_1; omega
      have r47 : (-2147483648 : Int) ≤ y45_0_1 ∧ y45_0_1 ≤ 2147483647 := by have h1 : (-2147483648 : Int) ≤ F45 1 1 ∧ F45 1 1 ≤ 2147483647 := H.krg 1 1 (by decide); rw [show F45 1 1 = y45_0_1 from ((eF45 1 1).trans ey45_0_1)] at h1; exact h1
      have r48 : (0 : Int) ≤ y45_0_2 ∧ y45_0_2 ≤ 1 := by have h1 : (0 : Int) ≤ F45 1 2 ∧ F45 1 2 ≤ 1 := H.krg 1 2 (by decide); rw [show F45 1 2 = y45_0_2 from ((eF45 1 2).trans ey45_0_2)] at h1; exact h1
      have hp2 := pz45_1
      refine Ew_of (pc' := 95) (fun _ => x_iload_n rfl l42_3) ?_
      refine Ew_of (pc' := 96) (fun _ => x_aload_n rfl l42_0) ?_
      refine Ew_stk (show ([.ref (D_42 0), I (x42_3)] : List Value) = [.ref (D45 0), I (x42_3)] by rw [show D45 0 = D_42 0 from (((show D45 0 = D39 0 from (eD45 0))).trans ((show D39 0 = D_42 0 from (eD39 0).trans (hD39 0 rfl))))]) ?_
      refine v_g H (o := 0) (v := .ref (D45 3)) rfl rfl rfl rfl rfl (vrf (pf45_0_1)) ?_
      refine v_g H (o := 3) (v := .ref (D45 8)) rfl rfl rfl rfl rfl (vrf (pf45_3_1)) ?_
      refine Ew_of (pc' := 104) (fun _ => x_iload rfl l42_4) ?_
      refine v_lI H (o := 8) rfl rfl rfl rfl (n := m24_4) ((congrArg (fun q : Nat => (q : Int)) (show N45 8 = N39 8 from (eN45 8))).trans ((congrArg (fun q : Nat => (q : Int)) (show N39 8 = N_42 8 from (eN39 8))).trans ((congrArg (fun q : Nat => (q : Int)) (hN_42 8 rfl)).trans ((congrArg (fun q : Nat => (q : Int)) (eN24 8)).trans em24_4)))) (show 0 ≤ x42_4 ∧ x42_4 < m24_4 by omega) (fun v49 ev49 qv49 => ?_)
      have ev49 : (w24_4) (x42_4) = v49 := (congrFun (((show A45 8 = A39 8 from (eA45 8))).trans (((show A39 8 = A_42 8 from (eA39 8))).trans ((funext (hA_42 8 rfl)).trans ((eA24 8).trans ew24_4)))) (x42_4)).symm.trans ev49
      refine Ew_of (pc' := 106) (fun _ => x_aload_n rfl l42_0) ?_
      refine Ew_stk (show ([.ref (D_42 0), I (v49), I (x42_3)] : List Value) = [.ref (D45 0), I (v49), I (x42_3)] by rw [show D45 0 = D_42 0 from (((show D45 0 = D39 0 from (eD45 0))).trans ((show D39 0 = D_42 0 from (eD39 0).trans (hD39 0 rfl))))]) ?_
      refine v_g H (o := 0) (v := .ref (D45 3)) rfl rfl rfl rfl rfl (vrf (pf45_0_1)) ?_
      refine v_g H (o := 3) (v := .ref (D45 9)) rfl rfl rfl rfl rfl (vrf (pf45_3_2)) ?_
      refine Ew_of (pc' := 114) (fun _ => x_iload rfl l42_4) ?_
      refine v_lI H (o := 9) rfl rfl rfl rfl (n := m24_5) ((congrArg (fun q : Nat => (q : Int)) (show N45 9 = N39 9 from (eN45 9))).trans ((congrArg (fun q : Nat => (q : Int)) (show N39 9 = N_42 9 from (eN39 9))).trans ((congrArg (fun q : Nat => (q : Int)) (hN_42 9 rfl)).trans ((congrArg (fun q : Nat => (q : Int)) (eN24 9)).trans em24_5)))) (show 0 ≤ x42_4 ∧ x42_4 < m24_5 by omega) (fun v50 ev50 qv50 => ?_)
      have ev50 : (w24_5) (x42_4) = v50 := (congrFun (((show A45 9 = A39 9 from (eA45 9))).trans (((show A39 9 = A_42 9 from (eA39 9))).trans ((funext (hA_42 9 rfl)).trans ((eA24 9).trans ew24_5)))) (x42_4)).symm.trans ev50
      refine w_iadd rfl ?_
      refine w_iadd rfl ?_
      refine Ew_of (pc' := 118) (fun _ => x_istore_n rfl) ?_
      refine Ew_of (pc' := 121) (fun _ => x_iinc (len := 3) rfl (rk_o (l42_4) rfl rfl)) ?_
      refine Ew_of (pc' := 42) (fun _ => x_goto rfl rfl) ?_
      have : RTO ((u1_2)) ((w2)) ((u1_1)) ((y45_0_2)) ((w45_1)) ((y45_0_1)) (vlr ((u4_1)) ++ tgE ((w5)) 0 (sq ((w24_4)) ((w24_5)) ((w24_6)) ((y24_0_4))) ((y24_0_5))) (tgE ((w5)) (((x42_3 + (v49 + v50)))) (sqd ((w24_4)) ((w24_5)) ((w24_6)) (((x42_4 + 1))) ((y24_0_4))) ((y24_0_5))) := RTO_s j42_q (tg_step (by omega) (by omega) hli hle hdi (by omega) (by omega)) (RAP_trans hp1 hp2)
      exact ih42 _ (by omega) _ _ _ _ _ _ _ _ ((x42_3 + (v49 + v50))) ((x42_4 + 1)) ((rk_o (rk_o (l42_0) rfl rfl) rfl rfl).trans (congrArg (fun q : Nat => some (Value.ref q)) ((((show D45 0 = D39 0 from (eD45 0))).trans ((show D39 0 = D_42 0 from (eD39 0).trans (hD39 0 rfl))))).symm)) ((rk_o (rk_o (l42_1) rfl rfl) rfl rfl).trans (congrArg (fun q : Nat => some (Value.ref q)) ((((show D45 1 = D39 1 from (eD45 1).trans (hD45 0 rfl))).trans ((show D39 1 = D_42 1 from (eD39 1).trans (hD39 1 rfl))))).symm)) (rk_o (rk_s) rfl rfl) (rk_s) H O (SD_trans (SD_trans (hD_42) (SD_glu (ι := [0, 1, 2, 3, 4, 5]) hD39 eD39 (by decide +kernel)) (any_subA (l' := [2]) rfl)) (SD_glu (ι := [1, 2]) hD45 eD45 (by decide +kernel)) (any_subA (l' := [2]) rfl)) (SD_trans (SD_trans (hN_42) (SD_glu (ι := [0, 1, 2, 3, 4, 5]) hN39 eN39 (by decide +kernel)) (any_subA (l' := [2]) rfl)) (SD_glu (ι := [1, 2]) hN45 eN45 (by decide +kernel)) (any_subA (l' := [2]) rfl)) (SF_trans (SF_trans (hS_42) (SF_glu (ι := [0, 1, 2, 3, 4, 5]) hS39 eF39 (by decide +kernel)) (any_sub (l' := [(1, 0), (1, 1), (1, 2)]) rfl)) (SF_glu (ι := [1, 2]) hS45 eF45 (by decide +kernel)) (any_sub (l' := [(1, 0), (1, 1), (1, 2)]) rfl)) (SA_trans (SA_trans (hA_42) (SA_glu (ι := [0, 1, 2, 3, 4, 5]) hA39 eA39 (by decide +kernel)) (any_subA (l' := [2]) rfl)) (SA_glu (ι := [1, 2]) hA45 eA45 (by decide +kernel)) (any_subA (l' := [2]) rfl)) (pf45_1_0) (m45_1) ((congrArg (fun q : Nat => (q : Int)) (eN45 2)).trans em45_1) (y45_0_1) (((eF45 1 1).trans ey45_0_1)) (y45_0_2) (((eF45 1 2).trans ey45_0_2)) (w45_1) ((eA45 2).trans ew45_1) (show inr ((x42_3 + (v49 + v50))) by omega) (show inr ((x42_4 + 1)) by omega) (show (0) ≤ ((x42_4 + 1)) by omega) (show ((x42_4 + 1)) ≤ (0) ∨ ((x42_4 + 1)) ≤ ((y24_0_4)) by omega) (show 0 ≤ (y45_0_1) ∧ (y45_0_1) ≤ (m45_1) ∧ (m45_1) ≤ 65536 by omega) (show ((x42_3 + (v49 + v50))) = su (fun j => ((w24_4)) j + ((w24_5)) j) (((x42_4 + 1)) : Int).toNat by omega) (show RTO ((u1_2)) ((w2)) ((u1_1)) ((y45_0_2)) ((w45_1)) ((y45_0_1)) (vlr ((u4_1)) ++ tgE ((w5)) 0 (sq ((w24_4)) ((w24_5)) ((w24_6)) ((y24_0_4))) ((y24_0_5))) (tgE ((w5)) (((x42_3 + (v49 + v50)))) (sqd ((w24_4)) ((w24_5)) ((w24_6)) (((x42_4 + 1))) ((y24_0_4))) ((y24_0_5))) by assumption) rfl
abbrev V193_Row_Row : vV := [(0, 10, [(4, 0), (4, 0), (4, 0), (4, 0), (0, 0), (4, 0), (0, 0), (2, 0), (0, 0)]), (0, 7, [(4, 0), (0, 0), (1, 0), (0, 0), (0, 0)]), (0, 7, [(4, 0), (0, 0), (1, 0), (0, 0), (0, 0)]), (1, 0, []), (1, 0, []), (0, 5, [(4, 0), (4, 0), (4, 0), (4, 0), (0, 0), (0, 0), (0, 0), (4, 0), (4, 0), (0, 0), (0, 0), (0, 0), (0, 0), (0, 0), (0, 0), (0, 0), (0, 0), (0, 0), (0, 0)]), (0, 7, [(4, 0), (0, 0), (1, 0), (0, 0), (0, 0)]), (1, 0, []), (1, 1, []), (1, 1, []), (1, 1, []), (1, 1, []), (1, 1, []), (1, 1, [])]
/-- Tags.packAlone: this, #1, #2, #1.bytes, #2.bytes, this.finder, this.finder.data, this.finder.data.bytes, this.settings, this.finder.heads, this.finder.back, this.finder.literals, this.finder.lengths, this.finder.distances -/
theorem C193_Row_Row {σE : rS} {D N : Nat → Nat} {F : hF} {A : hA} {d c s : Nat} {Q : wQ} (H : HW V193_Row_Row σE D N F A)  (pf3 : F 1 0 = (D 3 : Int)) (pf4 : F 2 0 = (D 4 : Int)) (pf5 : F 0 1 = (D 5 : Int)) (pf6 : F 5 0 = (D 6 : Int)) (pf7 : F 6 0 = (D 7 : Int)) (pf8 : F 0 0 = (D 8 : Int)) (pf9 : F 5 7 = (D 9 : Int)) (pf10 : F 5 8 = (D 10 : Int)) (pf11 : F 5 1 = (D 11 : Int)) (pf12 : F 5 2 = (D 12 : Int)) (pf13 : F 5 3 = (D 13 : Int)) (n3 : Int) (en3 : (N 3 : Int) = n3) (n4 : Int) (en4 : (N 4 : Int) = n4) (n7 : Int) (en7 : (N 7 : Int) = n7) (n8 : Int) (en8 : (N 8 : Int) = n8) (n9 : Int) (en9 : (N 9 : Int) = n9) (n10 : Int) (en10 : (N 10 : Int) = n10) (n11 : Int) (en11 : (N 11 : Int) = n11) (n12 : Int) (en12 : (N 12 : Int) = n12) (n13 : Int) (en13 : (N 13 : Int) = n13) (u1_1 : Int) (eu1_1 : F 1 1 = u1_1) (u1_2 : Int) (eu1_2 : F 1 2 = u1_2) (u2_1 : Int) (eu2_1 : F 2 1 = u2_1) (u6_1 : Int) (eu6_1 : F 6 1 = u6_1) (w3 : Int → Int) (ew3 : A 3 = w3) (w4 : Int → Int) (ew4 : A 4 = w4) (w8 : Int → Int) (ew8 : A 8 = w8) (h0 : 0 ≤ (u1_1) ∧ (u1_1) ≤ (n3) ∧ (n3) ≤ 65536) (h1 : 0 ≤ (u2_1) ∧ (u2_1) ≤ (n4) ∧ (n4) ≤ 65536) (h2 : 0 ≤ (u6_1) ∧ (u6_1) ≤ (n7) ∧ (n7) ≤ 65536) (h3 : (n8) = 10) (h4 : (u2_1) ≤ 16384) (h5 : (n9) = 0 ∨ (n9) = 2048) (h6 : (n10) ≤ 16384) (h7 : (n11) = (n12) ∧ (n13) = (n12) ∧ (n12) ≤ 65536 ∧ ((n12) = 0 ∨ 64 ≤ (n12)) ∧ lgq ((n12)) = 0) (k : ∀ (σ : rS) (D' N' : Nat → Nat) (F' : hF) (A' : hA) (c' s' : Nat), HW V193_Row_Row σ D' N' F' A' → OUT (V193_Row_Row).length D N σE c s D' N' σ c' s' → SD [3, 7, 9, 10, 11, 12, 13] D D' → SD [3, 7, 9, 10, 11, 12, 13] N N' → SF [(1, 0), (1, 1), (1, 2), (5, 1), (5, 2), (5, 3), (5, 4), (5, 5), (5, 6), (5, 7), (5, 8), (5, 9), (5, 10), (5, 11), (5, 12), (5, 13), (5, 14), (5, 15), (5, 16), (5, 17), (5, 18), (6, 0), (6, 1), (6, 2), (6, 3), (6, 4)] F F' → SA [3, 7, 9, 10, 11, 12, 13] A A' → F' 1 0 = (D' 3 : Int) → F' 6 0 = (D' 7 : Int) → F' 5 7 = (D' 9 : Int) → F' 5 8 = (D' 10 : Int) → F' 5 1 = (D' 11 : Int) → F' 5 2 = (D' 12 : Int) → F' 5 3 = (D' 13 : Int) → ∀ m3 : Int, (N' 3 : Int) = m3 → ∀ m7 : Int, (N' 7 : Int) = m7 → ∀ m9 : Int, (N' 9 : Int) = m9 → ∀ m10 : Int, (N' 10 : Int) = m10 → ∀ m11 : Int, (N' 11 : Int) = m11 → ∀ m12 : Int, (N' 12 : Int) = m12 → ∀ m13 : Int, (N' 13 : Int) = m13 → ∀ y1_1 : Int, F' 1 1 = y1_1 → ∀ y1_2 : Int, F' 1 2 = y1_2 → ∀ y6_1 : Int, F' 6 1 = y6_1 → ∀ v3 : Int → Int, A' 3 = v3 → (0 ≤ (y1_1) ∧ (y1_1) ≤ (m3) ∧ (m3) ≤ 65536) → (0 ≤ (y6_1) ∧ (y6_1) ≤ (m7) ∧ (m7) ≤ 65536) → ((m9) = 0 ∨ (m9) = 2048) → ((m10) ≤ 16384) → ((m11) = (m12) ∧ (m13) = (m12) ∧ (m12) ≤ 65536 ∧ ((m12) = 0 ∨ 64 ≤ (m12)) ∧ lgq ((m12)) = 0) → (PKG (((w8)) 0) (sc ((w4)) 0 ((u2_1))) ((u1_2)) ((w3)) ((u1_1)) ((y1_2)) ((v3)) ((y1_1))) → Q none σ c' s') : Ew 193 (d + 5) 0 (rargs 0 [.ref (D 0), .ref (D 1), .ref (D 2)]) [] σE c s Q := by
  have O := OUT_refl (n := (V193_Row_Row).length) (D := D) (N := N) (σ := σE) (c := c) (s := s)
  have HE := H
  have r1 : (-2147483648 : Int) ≤ u1_1 ∧ u1_1 ≤ 2147483647 := by have h1 : (-2147483648 : Int) ≤ F 1 1 ∧ F 1 1 ≤ 2147483647 := H.krg 1 1 (by decide); rw [show F 1 1 = u1_1 from (eu1_1)] at h1; exact h1
  have r2 : (0 : Int) ≤ u1_2 ∧ u1_2 ≤ 1 := by have h1 : (0 : Int) ≤ F 1 2 ∧ F 1 2 ≤ 1 := H.krg 1 2 (by decide); rw [show F 1 2 = u1_2 from (eu1_2)] at h1; exact h1
  have r3 : (-2147483648 : Int) ≤ u2_1 ∧ u2_1 ≤ 2147483647 := by have h1 : (-2147483648 : Int) ≤ F 2 1 ∧ F 2 1 ≤ 2147483647 := H.krg 2 1 (by decide); rw [show F 2 1 = u2_1 from (eu2_1)] at h1; exact h1
  have r4 : (-2147483648 : Int) ≤ u6_1 ∧ u6_1 ≤ 2147483647 := by have h1 : (-2147483648 : Int) ≤ F 6 1 ∧ F 6 1 ≤ 2147483647 := H.krg 6 1 (by decide); rw [show F 6 1 = u6_1 from (eu6_1)] at h1; exact h1
  have r5 : (0 : Int) ≤ n3 ∧ n3 ≤ 1000000 := by have h1 := H.nle 3 (by decide); have h2 : (N 3 : Int) = n3 := en3; omega
  have r6 : (0 : Int) ≤ n4 ∧ n4 ≤ 1000000 := by have h1 := H.nle 4 (by decide); have h2 : (N 4 : Int) = n4 := en4; omega
  have r7 : (0 : Int) ≤ n7 ∧ n7 ≤ 1000000 := by have h1 := H.nle 7 (by decide); have h2 : (N 7 : Int) = n7 := en7; omega
  have r8 : (0 : Int) ≤ n8 ∧ n8 ≤ 1000000 := by have h1 := H.nle 8 (by decide); have h2 : (N 8 : Int) = n8 := en8; omega
  have r9 : (0 : Int) ≤ n9 ∧ n9 ≤ 1000000 := by have h1 := H.nle 9 (by decide); have h2 : (N 9 : Int) = n9 := en9; omega
  have r10 : (0 : Int) ≤ n10 ∧ n10 ≤ 1000000 := by have h1 := H.nle 10 (by decide); have h2 : (N 10 : Int) = n10 := en10; omega
  have r11 : (0 : Int) ≤ n11 ∧ n11 ≤ 1000000 := by have h1 := H.nle 11 (by decide); have h2 : (N 11 : Int) = n11 := en11; omega
  have r12 : (0 : Int) ≤ n12 ∧ n12 ≤ 1000000 := by have h1 := H.nle 12 (by decide); have h2 : (N 12 : Int) = n12 := en12; omega
  have r13 : (0 : Int) ≤ n13 ∧ n13 ≤ 1000000 := by have h1 := H.nle 13 (by decide); have h2 : (N 13 : Int) = n13 := en13; omega
  refine Ew_of (pc' := 1) (fun _ => x_aload_n rfl rfl) ?_
  refine v_g H (o := 0) (v := .ref (D 5)) rfl rfl rfl rfl rfl (vrf (pf5)) ?_
  refine v_g H (o := 5) (v := .ref (D 6)) rfl rfl rfl rfl rfl (vrf (pf6)) ?_
  refine Ew_of (pc' := 8) (fun _ => x_aload_n rfl rfl) ?_
  have r14 : (0 : Int) ≤ F 6 2 ∧ F 6 2 ≤ 1 := by have h1 : (0 : Int) ≤ F 6 2 ∧ F 6 2 ≤ 1 := H.krg 6 2 (by decide); rw [show F 6 2 = F 6 2 from rfl] at h1; exact h1
  refine v_inv H (o := 6) rfl rfl rfl rfl rfl rfl (by rfl) (C158_Row (D := pul [6, 2, 7, 4] D) (N := pul [6, 2, 7, 4] N) (HW_sub H (VS_of (show vsub V193_Row_Row V158_Row [6, 2, 7, 4] = true by decide +kernel))) (pf7) (pf4) (n7) (en7) (n4) (en4) (u6_1) ((eu6_1)) (F 6 2) (rfl) (u2_1) ((eu2_1)) (A 7) (rfl) (w4) (ew4) (show 0 ≤ (u6_1) ∧ (u6_1) ≤ (n7) ∧ (n7) ≤ 65536 by omega) (show 0 ≤ (u2_1) ∧ (u2_1) ≤ (n4) ∧ (n4) ≤ 65536 by omega) (fun σ15 D15' N15' F15' A15' c15 s15 H' O' hD15 hN15 hS15 hA15 pm15_2 m15_2 em15_2 y15_0_1 ey15_0_1 y15_0_2 ey15_0_2 w15_2 ew15_2 pz15_0 pz15_1 pz15_2 pz15_3 => ⟨rfl, ?_⟩))
  refine v_backM (c := c) (s := s) H (show vsub V193_Row_Row V158_Row [6, 2, 7, 4] = true by decide +kernel) H' O' hD15 (show vmov V193_Row_Row [6, 2, 7, 4] [2] = true by decide +kernel) (fun D15 N15 F15 A15 H O' eD15 eN15 eF15 eA15 => ?_)
  have O := OUT_trans O O'
  -- Row.become
  have pf15_0_0 : F15 0 0 = (D15 8 : Int) := ((show F15 0 0 = F 0 0 from (eF15 0 0))).trans ((pf8).trans (congrArg (fun q : Nat => (q : Int)) ((show D15 8 = D 8 from (eD15 8))).symm))
  have pf15_0_1 : F15 0 1 = (D15 5 : Int) := ((show F15 0 1 = F 0 1 from (eF15 0 1))).trans ((pf5).trans (congrArg (fun q : Nat => (q : Int)) ((show D15 5 = D 5 from (eD15 5))).symm))
  have pf15_1_0 : F15 1 0 = (D15 3 : Int) := ((show F15 1 0 = F 1 0 from (eF15 1 0))).trans ((pf3).trans (congrArg (fun q : Nat => (q : Int)) ((show D15 3 = D 3 from (eD15 3))).symm))
  have pf15_2_0 : F15 2 0 = (D15 4 : Int) := ((show F15 2 0 = F 2 0 from (eF15 2 0).trans (hS15 1 0 rfl))).trans ((pf4).trans (congrArg (fun q : Nat => (q : Int)) ((show D15 4 = D 4 from (eD15 4).trans (hD15 3 rfl))).symm))
  have pf15_5_0 : F15 5 0 = (D15 6 : Int) := ((show F15 5 0 = F 5 0 from (eF15 5 0))).trans ((pf6).trans (congrArg (fun q : Nat => (q : Int)) ((show D15 6 = D 6 from (eD15 6).trans (hD15 0 rfl))).symm))
  have pf15_5_1 : F15 5 1 = (D15 11 : Int) := ((show F15 5 1 = F 5 1 from (eF15 5 1))).trans ((pf11).trans (congrArg (fun q : Nat => (q : Int)) ((show D15 11 = D 11 from (eD15 11))).symm))
  have pf15_5_2 : F15 5 2 = (D15 12 : Int) := ((show F15 5 2 = F 5 2 from (eF15 5 2))).trans ((pf12).trans (congrArg (fun q : Nat => (q : Int)) ((show D15 12 = D 12 from (eD15 12))).symm))
  have pf15_5_3 : F15 5 3 = (D15 13 : Int) := ((show F15 5 3 = F 5 3 from (eF15 5 3))).trans ((pf13).trans (congrArg (fun q : Nat => (q : Int)) ((show D15 13 = D 13 from (eD15 13))).symm))
  have pf15_5_7 : F15 5 7 = (D15 9 : Int) := ((show F15 5 7 = F 5 7 from (eF15 5 7))).trans ((pf9).trans (congrArg (fun q : Nat => (q : Int)) ((show D15 9 = D 9 from (eD15 9))).symm))
  have pf15_5_8 : F15 5 8 = (D15 10 : Int) := ((show F15 5 8 = F 5 8 from (eF15 5 8))).trans ((pf10).trans (congrArg (fun q : Nat => (q : Int)) ((show D15 10 = D 10 from (eD15 10))).symm))
  have pf15_6_0 : F15 6 0 = (D15 7 : Int) := (eF15 6 0).trans (pm15_2.trans (congrArg (fun q : Nat => (q : Int)) (eD15 7).symm))
  have r16 : (0 : Int) ≤ m15_2 ∧ m15_2 ≤ 1000000 := by have h1 := H.nle 7 (by decide); have h2 : (N15 7 : Int) = m15_2 := (congrArg (fun q : Nat => (q : Int)) (eN15 7)).trans em15_2; omega
  have r17 : (-2147483648 : Int) ≤ y15_0_1 ∧ y15_0_1 ≤ 2147483647 := by have h1 : (-2147483648 : Int) ≤ F15 6 1 ∧ F15 6 1 ≤ 2147483647 := H.krg 6 1 (by decide); rw [show F15 6 1 = y15_0_1 from ((eF15 6 1).trans ey15_0_1)] at h1; exact h1
  have r18 : (0 : Int) ≤ y15_0_2 ∧ y15_0_2 ≤ 1 := by have h1 : (0 : Int) ≤ F15 6 2 ∧ F15 6 2 ≤ 1 := H.krg 6 2 (by decide); rw [show F15 6 2 = y15_0_2 from ((eF15 6 2).trans ey15_0_2)] at h1; exact h1
  have hbe := pz15_3
  refine Ew_of (pc' := 12) (fun _ => x_aload_n rfl rfl) ?_
  refine Ew_stk (show ([.ref (D 0)] : List Value) = [.ref (D15 0)] by rw [show D15 0 = D 0 from ((show D15 0 = D 0 from (eD15 0)))]) ?_
  refine v_g H (o := 0) (v := .ref (D15 5)) rfl rfl rfl rfl rfl (vrf (pf15_0_1)) ?_
  refine Ew_of (pc' := 16) (fun _ => x_aload_n rfl rfl) ?_
  refine Ew_stk (show ([.ref (D 0), .ref (D15 5)] : List Value) = [.ref (D15 0), .ref (D15 5)] by rw [show D15 0 = D 0 from ((show D15 0 = D 0 from (eD15 0)))]) ?_
  refine v_g H (o := 0) (v := .ref (D15 8)) rfl rfl rfl rfl rfl (vrf (pf15_0_0)) ?_
  refine Ew_of (pc' := 20) (fun _ => x_iconst rfl) ?_
  refine v_lI H (o := 8) rfl rfl rfl rfl (n := n8) ((congrArg (fun q : Nat => (q : Int)) (show N15 8 = N 8 from (eN15 8))).trans (en8)) (show 0 ≤ 0 ∧ 0 < n8 by omega) (fun v19 ev19 qv19 => ?_)
  have ev19 : (w8) (0) = v19 := (congrFun (((show A15 8 = A 8 from (eA15 8))).trans (ew8)) (0)).symm.trans ev19
  have hway := ev19
  refine Ew_of (pc' := 22) (fun _ => x_iconst rfl) ?_
  refine Ew_of (pc' := 24) (fun _ => x_ldc (z := 65535) rfl (by decide)) ?_
  have r20 : (-2147483648 : Int) ≤ F 5 6 ∧ F 5 6 ≤ 2147483647 := by have h1 : (-2147483648 : Int) ≤ F15 5 6 ∧ F15 5 6 ≤ 2147483647 := H.krg 5 6 (by decide); rw [show F15 5 6 = F 5 6 from ((show F15 5 6 = F 5 6 from (eF15 5 6)))] at h1; exact h1
  have r21 : (-2147483648 : Int) ≤ F 5 9 ∧ F 5 9 ≤ 2147483647 := by have h1 : (-2147483648 : Int) ≤ F15 5 9 ∧ F15 5 9 ≤ 2147483647 := H.krg 5 9 (by decide); rw [show F15 5 9 = F 5 9 from ((show F15 5 9 = F 5 9 from (eF15 5 9)))] at h1; exact h1
  have r22 : (-2147483648 : Int) ≤ F 5 10 ∧ F 5 10 ≤ 2147483647 := by have h1 : (-2147483648 : Int) ≤ F15 5 10 ∧ F15 5 10 ≤ 2147483647 := H.krg 5 10 (by decide); rw [show F15 5 10 = F 5 10 from ((show F15 5 10 = F 5 10 from (eF15 5 10)))] at h1; exact h1
  have r23 : (-2147483648 : Int) ≤ F 5 11 ∧ F 5 11 ≤ 2147483647 := by have h1 : (-2147483648 : Int) ≤ F15 5 11 ∧ F15 5 11 ≤ 2147483647 := H.krg 5 11 (by decide); rw [show F15 5 11 = F 5 11 from ((show F15 5 11 = F 5 11 from (eF15 5 11)))] at h1; exact h1
  refine v_inv H (o := 5) rfl rfl rfl rfl rfl rfl (by rfl) (C121 (D := pul [5, 9] D15) (N := pul [5, 9] N15) (HW_sub H (VS_of (show vsub V193_Row_Row V121 [5, 9] = true by decide +kernel))) (pf15_5_7) (n9) ((congrArg (fun q : Nat => (q : Int)) (show N15 9 = N 9 from (eN15 9))).trans (en9)) (F 5 6) (((show F15 5 6 = F 5 6 from (eF15 5 6)))) (F 5 9) (((show F15 5 9 = F 5 9 from (eF15 5 9)))) (F 5 10) (((show F15 5 10 = F 5 10 from (eF15 5 10)))) (F 5 11) (((show F15 5 11 = F 5 11 from (eF15 5 11)))) (A 9) ((show A15 9 = A 9 from (eA15 9))) (show inr (v19) by omega) (show inr (4) by omega) (show inr (65535) by omega) (show (n9) = 0 ∨ (n9) = 2048 by omega) (fun σ24 D24' N24' F24' A24' c24 s24 H' O' hD24 hN24 hS24 hA24 pm24_1 m24_1 em24_1 y24_0_6 ey24_0_6 y24_0_9 ey24_0_9 y24_0_10 ey24_0_10 y24_0_11 ey24_0_11 w24_1 ew24_1 pz24_0 pz24_1 pz24_2 pz24_3 => ⟨rfl, ?_⟩))
  refine v_backM (c := (c + c15)) (s := (s + s15)) H (show vsub V193_Row_Row V121 [5, 9] = true by decide +kernel) H' O' hD24 (show vmov V193_Row_Row [5, 9] [1] = true by decide +kernel) (fun D24 N24 F24 A24 H O' eD24 eN24 eF24 eA24 => ?_)
  have O := OUT_trans O O'
  -- Finder.begin
  have pf24_0_0 : F24 0 0 = (D24 8 : Int) := ((show F24 0 0 = F15 0 0 from (eF24 0 0))).trans ((pf15_0_0).trans (congrArg (fun q : Nat => (q : Int)) ((show D24 8 = D15 8 from (eD24 8))).symm))
  have pf24_0_1 : F24 0 1 = (D24 5 : Int) := ((show F24 0 1 = F15 0 1 from (eF24 0 1))).trans ((pf15_0_1).trans (congrArg (fun q : Nat => (q : Int)) ((show D24 5 = D15 5 from (eD24 5).trans (hD24 0 rfl))).symm))
  have pf24_1_0 : F24 1 0 = (D24 3 : Int) := ((show F24 1 0 = F15 1 0 from (eF24 1 0))).trans ((pf15_1_0).trans (congrArg (fun q : Nat => (q : Int)) ((show D24 3 = D15 3 from (eD24 3))).symm))
  have pf24_2_0 : F24 2 0 = (D24 4 : Int) := ((show F24 2 0 = F15 2 0 from (eF24 2 0))).trans ((pf15_2_0).trans (congrArg (fun q : Nat => (q : Int)) ((show D24 4 = D15 4 from (eD24 4))).symm))
  have pf24_5_0 : F24 5 0 = (D24 6 : Int) := ((show F24 5 0 = F15 5 0 from (eF24 5 0).trans (hS24 0 0 rfl))).trans ((pf15_5_0).trans (congrArg (fun q : Nat => (q : Int)) ((show D24 6 = D15 6 from (eD24 6))).symm))
  have pf24_5_1 : F24 5 1 = (D24 11 : Int) := ((show F24 5 1 = F15 5 1 from (eF24 5 1).trans (hS24 0 1 rfl))).trans ((pf15_5_1).trans (congrArg (fun q : Nat => (q : Int)) ((show D24 11 = D15 11 from (eD24 11))).symm))
  have pf24_5_2 : F24 5 2 = (D24 12 : Int) := ((show F24 5 2 = F15 5 2 from (eF24 5 2).trans (hS24 0 2 rfl))).trans ((pf15_5_2).trans (congrArg (fun q : Nat => (q : Int)) ((show D24 12 = D15 12 from (eD24 12))).symm))
  have pf24_5_3 : F24 5 3 = (D24 13 : Int) := ((show F24 5 3 = F15 5 3 from (eF24 5 3).trans (hS24 0 3 rfl))).trans ((pf15_5_3).trans (congrArg (fun q : Nat => (q : Int)) ((show D24 13 = D15 13 from (eD24 13))).symm))
  have pf24_5_7 : F24 5 7 = (D24 9 : Int) := (eF24 5 7).trans (pm24_1.trans (congrArg (fun q : Nat => (q : Int)) (eD24 9).symm))
  have pf24_5_8 : F24 5 8 = (D24 10 : Int) := ((show F24 5 8 = F15 5 8 from (eF24 5 8).trans (hS24 0 8 rfl))).trans ((pf15_5_8).trans (congrArg (fun q : Nat => (q : Int)) ((show D24 10 = D15 10 from (eD24 10))).symm))
  have pf24_6_0 : F24 6 0 = (D24 7 : Int) := ((show F24 6 0 = F15 6 0 from (eF24 6 0))).trans ((pf15_6_0).trans (congrArg (fun q : Nat => (q : Int)) ((show D24 7 = D15 7 from (eD24 7))).symm))
  have r25 : (0 : Int) ≤ m24_1 ∧ m24_1 ≤ 1000000 := by have h1 := H.nle 9 (by decide); have h2 : (N24 9 : Int) = m24_1 := (congrArg (fun q : Nat => (q : Int)) (eN24 9)).trans em24_1; omega
  have r26 : (-2147483648 : Int) ≤ y24_0_6 ∧ y24_0_6 ≤ 2147483647 := by have h1 : (-2147483648 : Int) ≤ F24 5 6 ∧ F24 5 6 ≤ 2147483647 := H.krg 5 6 (by decide); rw [show F24 5 6 = y24_0_6 from ((eF24 5 6).trans ey24_0_6)] at h1; exact h1
  have r27 : (-2147483648 : Int) ≤ y24_0_9 ∧ y24_0_9 ≤ 2147483647 := by have h1 : (-2147483648 : Int) ≤ F24 5 9 ∧ F24 5 9 ≤ 2147483647 := H.krg 5 9 (by decide); rw [show F24 5 9 = y24_0_9 from ((eF24 5 9).trans ey24_0_9)] at h1; exact h1
  have r28 : (-2147483648 : Int) ≤ y24_0_10 ∧ y24_0_10 ≤ 2147483647 := by have h1 : (-2147483648 : Int) ≤ F24 5 10 ∧ F24 5 10 ≤ 2147483647 := H.krg 5 10 (by decide); rw [show F24 5 10 = y24_0_10 from ((eF24 5 10).trans ey24_0_10)] at h1; exact h1
  have r29 : (-2147483648 : Int) ≤ y24_0_11 ∧ y24_0_11 ≤ 2147483647 := by have h1 : (-2147483648 : Int) ≤ F24 5 11 ∧ F24 5 11 ≤ 2147483647 := H.krg 5 11 (by decide); rw [show F24 5 11 = y24_0_11 from ((eF24 5 11).trans ey24_0_11)] at h1; exact h1
  have hb0 : BKI ((w15_2)) ((A 10)) ((y24_0_10)) ((y24_0_6)) := by rw [pz24_1]; exact BKI_0
  have hh0 : HDI ((w15_2)) ((w24_1)) ((y24_0_10)) ((y24_0_6)) := by rw [pz24_1]; exact HDI_0 pz24_3
  refine Ew_of (pc' := 28) (fun _ => x_aload_n rfl rfl) ?_
  refine Ew_of (pc' := 29) (fun _ => x_aload_n rfl rfl) ?_
  refine Ew_stk (show ([.ref (D 1), .ref (D 0)] : List Value) = [.ref (D24 1), .ref (D24 0)] by rw [show D24 0 = D 0 from (((show D24 0 = D15 0 from (eD24 0))).trans ((show D15 0 = D 0 from (eD15 0)))), show D24 1 = D 1 from (((show D24 1 = D15 1 from (eD24 1))).trans ((show D15 1 = D 1 from (eD15 1))))]) ?_
  refine v_inv H (o := 0) rfl rfl rfl rfl rfl rfl (by rfl) (C194_Row (D := pul [0, 1, 3, 5, 6, 7, 10, 9, 11, 12, 13] D24) (N := pul [0, 1, 3, 5, 6, 7, 10, 9, 11, 12, 13] N24) (HW_sub H (VS_of (show vsub V193_Row_Row V194_Row [0, 1, 3, 5, 6, 7, 10, 9, 11, 12, 13] = true by decide +kernel))) (pf24_1_0) (pf24_0_1) (pf24_5_0) (pf24_6_0) (pf24_5_8) (pf24_5_7) (pf24_5_1) (pf24_5_2) (pf24_5_3) (n3) ((congrArg (fun q : Nat => (q : Int)) (show N24 3 = N15 3 from (eN24 3))).trans ((congrArg (fun q : Nat => (q : Int)) (show N15 3 = N 3 from (eN15 3))).trans (en3))) (m15_2) ((congrArg (fun q : Nat => (q : Int)) (show N24 7 = N15 7 from (eN24 7))).trans ((congrArg (fun q : Nat => (q : Int)) (eN15 7)).trans em15_2)) (n10) ((congrArg (fun q : Nat => (q : Int)) (show N24 10 = N15 10 from (eN24 10))).trans ((congrArg (fun q : Nat => (q : Int)) (show N15 10 = N 10 from (eN15 10))).trans (en10))) (m24_1) ((congrArg (fun q : Nat => (q : Int)) (eN24 9)).trans em24_1) (n11) ((congrArg (fun q : Nat => (q : Int)) (show N24 11 = N15 11 from (eN24 11))).trans ((congrArg (fun q : Nat => (q : Int)) (show N15 11 = N 11 from (eN15 11))).trans (en11))) (n12) ((congrArg (fun q : Nat => (q : Int)) (show N24 12 = N15 12 from (eN24 12))).trans ((congrArg (fun q : Nat => (q : Int)) (show N15 12 = N 12 from (eN15 12))).trans (en12))) (n13) ((congrArg (fun q : Nat => (q : Int)) (show N24 13 = N15 13 from (eN24 13))).trans ((congrArg (fun q : Nat => (q : Int)) (show N15 13 = N 13 from (eN15 13))).trans (en13))) (u1_1) (((((show F24 1 1 = F15 1 1 from (eF24 1 1))).trans ((show F15 1 1 = F 1 1 from (eF15 1 1)))).trans (eu1_1))) (u1_2) (((((show F24 1 2 = F15 1 2 from (eF24 1 2))).trans ((show F15 1 2 = F 1 2 from (eF15 1 2)))).trans (eu1_2))) (y24_0_6) (((eF24 5 6).trans ey24_0_6)) (y24_0_9) (((eF24 5 9).trans ey24_0_9)) (y24_0_10) (((eF24 5 10).trans ey24_0_10)) (y24_0_11) (((eF24 5 11).trans ey24_0_11)) (y15_0_1) ((((show F24 6 1 = F15 6 1 from (eF24 6 1))).trans ((eF15 6 1).trans ey15_0_1))) (w3) (((show A24 3 = A15 3 from (eA24 3))).trans (((show A15 3 = A 3 from (eA15 3))).trans (ew3))) (w15_2) (((show A24 7 = A15 7 from (eA24 7))).trans ((eA15 7).trans ew15_2)) (A 10) (((show A24 10 = A15 10 from (eA24 10))).trans ((show A15 10 = A 10 from (eA15 10)))) (w24_1) ((eA24 9).trans ew24_1) (show 0 ≤ (u1_1) ∧ (u1_1) ≤ (n3) ∧ (n3) ≤ 65536 by omega) (show 0 ≤ (y15_0_1) ∧ (y15_0_1) ≤ (m15_2) ∧ (m15_2) ≤ 65536 ∧ (y15_0_1) ≤ 16384 by omega) (show (y24_0_10) = 4 by omega) (show BKI ((w15_2)) ((A 10)) ((y24_0_10)) ((y24_0_6)) by assumption) (show HDI ((w15_2)) ((w24_1)) ((y24_0_10)) ((y24_0_6)) by assumption) (show (n11) = (n12) ∧ (n13) = (n12) ∧ (n12) ≤ 65536 ∧ ((n12) = 0 ∨ 64 ≤ (n12)) ∧ lgq ((n12)) = 0 by omega) (show (m24_1) = 2048 by omega) (show 0 ≤ (y24_0_6) ∧ (y24_0_6) ≤ (n10) ∧ (n10) ≤ 16384 by omega) (show (y24_0_11) = 65535 by omega) (fun σ30 D30' N30' F30' A30' c30 s30 H' O' hD30 hN30 hS30 hA30 pm30_2 pm30_6 pm30_8 pm30_9 pm30_10 m30_2 em30_2 m30_6 em30_6 m30_8 em30_8 m30_9 em30_9 m30_10 em30_10 y30_1_1 ey30_1_1 y30_1_2 ey30_1_2 y30_3_6 ey30_3_6 w30_2 ew30_2 w30_6 ew30_6 w30_7 ew30_7 pz30_0 pz30_1 pz30_2 pz30_3 pz30_4 pz30_5 pz30_6 => ⟨rfl, ?_⟩))
  refine v_backM (c := ((c + c15) + c24)) (s := ((s + s15) + s24)) H (show vsub V193_Row_Row V194_Row [0, 1, 3, 5, 6, 7, 10, 9, 11, 12, 13] = true by decide +kernel) H' O' hD30 (show vmov V193_Row_Row [0, 1, 3, 5, 6, 7, 10, 9, 11, 12, 13] [2, 6, 8, 9, 10] = true by decide +kernel) (fun D30 N30 F30 A30 H O' eD30 eN30 eF30 eA30 => ?_)
  have O := OUT_trans O O'
  -- Tags.packBlock
  have pf30_0_0 : F30 0 0 = (D30 8 : Int) := ((show F30 0 0 = F24 0 0 from (eF30 0 0).trans (hS30 0 0 rfl))).trans ((pf24_0_0).trans (congrArg (fun q : Nat => (q : Int)) ((show D30 8 = D24 8 from (eD30 8))).symm))
  have pf30_0_1 : F30 0 1 = (D30 5 : Int) := ((show F30 0 1 = F24 0 1 from (eF30 0 1).trans (hS30 0 1 rfl))).trans ((pf24_0_1).trans (congrArg (fun q : Nat => (q : Int)) ((show D30 5 = D24 5 from (eD30 5).trans (hD30 3 rfl))).symm))
  have pf30_1_0 : F30 1 0 = (D30 3 : Int) := (eF30 1 0).trans (pm30_2.trans (congrArg (fun q : Nat => (q : Int)) (eD30 3).symm))
  have pf30_2_0 : F30 2 0 = (D30 4 : Int) := ((show F30 2 0 = F24 2 0 from (eF30 2 0))).trans ((pf24_2_0).trans (congrArg (fun q : Nat => (q : Int)) ((show D30 4 = D24 4 from (eD30 4))).symm))
  have pf30_5_0 : F30 5 0 = (D30 6 : Int) := ((show F30 5 0 = F24 5 0 from (eF30 5 0).trans (hS30 3 0 rfl))).trans ((pf24_5_0).trans (congrArg (fun q : Nat => (q : Int)) ((show D30 6 = D24 6 from (eD30 6).trans (hD30 4 rfl))).symm))
  have pf30_5_1 : F30 5 1 = (D30 11 : Int) := (eF30 5 1).trans (pm30_8.trans (congrArg (fun q : Nat => (q : Int)) (eD30 11).symm))
  have pf30_5_2 : F30 5 2 = (D30 12 : Int) := (eF30 5 2).trans (pm30_9.trans (congrArg (fun q : Nat => (q : Int)) (eD30 12).symm))
  have pf30_5_3 : F30 5 3 = (D30 13 : Int) := (eF30 5 3).trans (pm30_10.trans (congrArg (fun q : Nat => (q : Int)) (eD30 13).symm))
  have pf30_5_7 : F30 5 7 = (D30 9 : Int) := ((show F30 5 7 = F24 5 7 from (eF30 5 7).trans (hS30 3 7 rfl))).trans ((pf24_5_7).trans (congrArg (fun q : Nat => (q : Int)) ((show D30 9 = D24 9 from (eD30 9).trans (hD30 7 rfl))).symm))
  have pf30_5_8 : F30 5 8 = (D30 10 : Int) := (eF30 5 8).trans (pm30_6.trans (congrArg (fun q : Nat => (q : Int)) (eD30 10).symm))
  have pf30_6_0 : F30 6 0 = (D30 7 : Int) := ((show F30 6 0 = F24 6 0 from (eF30 6 0).trans (hS30 4 0 rfl))).trans ((pf24_6_0).trans (congrArg (fun q : Nat => (q : Int)) ((show D30 7 = D24 7 from (eD30 7).trans (hD30 5 rfl))).symm))
  have r31 : (0 : Int) ≤ m30_2 ∧ m30_2 ≤ 1000000 := by have h1 := H.nle 3 (by decide); have h2 : (N30 3 : Int) = m30_2 := (congrArg (fun q : Nat => (q : Int)) (eN30 3)).trans em30_2; omega
  have r32 : (0 : Int) ≤ m30_6 ∧ m30_6 ≤ 1000000 := by have h1 := H.nle 10 (by decide); have h2 : (N30 10 : Int) = m30_6 := (congrArg (fun q : Nat => (q : Int)) (eN30 10)).trans em30_6; omega
  have r33 : (0 : Int) ≤ m30_8 ∧ m30_8 ≤ 1000000 := by have h1 := H.nle 11 (by decide); have h2 : (N30 11 : Int) = m30_8 := (congrArg (fun q : Nat => (q : Int)) (eN30 11)).trans em30_8; omega
  have r34 : (0 : Int) ≤ m30_9 ∧ m30_9 ≤ 1000000 := by have h1 := H.nle 12 (by decide); have h2 : (N30 12 : Int) = m30_9 := (congrArg (fun q : Nat => (q : Int)) (eN30 12)).trans em30_9; omega
  have r35 : (0 : Int) ≤ m30_10 ∧ m30_10 ≤ 1000000 := by have h1 := H.nle 13 (by decide); have h2 : (N30 13 : Int) = m30_10 := (congrArg (fun q : Nat => (q : Int)) (eN30 13)).trans em30_10; omega
  have r36 : (-2147483648 : Int) ≤ y30_1_1 ∧ y30_1_1 ≤ 2147483647 := by have h1 : (-2147483648 : Int) ≤ F30 1 1 ∧ F30 1 1 ≤ 2147483647 := H.krg 1 1 (by decide); rw [show F30 1 1 = y30_1_1 from ((eF30 1 1).trans ey30_1_1)] at h1; exact h1
  have r37 : (0 : Int) ≤ y30_1_2 ∧ y30_1_2 ≤ 1 := by have h1 : (0 : Int) ≤ F30 1 2 ∧ F30 1 2 ≤ 1 := H.krg 1 2 (by decide); rw [show F30 1 2 = y30_1_2 from ((eF30 1 2).trans ey30_1_2)] at h1; exact h1
  have r38 : (-2147483648 : Int) ≤ y30_3_6 ∧ y30_3_6 ≤ 2147483647 := by have h1 : (-2147483648 : Int) ≤ F30 5 6 ∧ F30 5 6 ≤ 2147483647 := H.krg 5 6 (by decide); rw [show F30 5 6 = y30_3_6 from ((eF30 5 6).trans ey30_3_6)] at h1; exact h1
  have : PKG (((w8)) 0) (sc ((w4)) 0 ((u2_1))) ((u1_2)) ((w3)) ((u1_1)) ((y30_1_2)) ((w30_2)) ((y30_1_1)) := by have h := pz30_6; rw [hbe] at h; rw [hway, ← pz24_2.1]; exact h
  exact w_ret rfl (k _ _ _ _ _ _ _ H O (SD_trans (SD_trans (SD_trans (SD_refl) (SD_glu (ι := [6, 2, 7, 4]) hD15 eD15 (by decide +kernel)) (any_subA (l' := [7]) rfl)) (SD_glu (ι := [5, 9]) hD24 eD24 (by decide +kernel)) (any_subA (l' := [9]) rfl)) (SD_glu (ι := [0, 1, 3, 5, 6, 7, 10, 9, 11, 12, 13]) hD30 eD30 (by decide +kernel)) (any_subA (l' := [3, 10, 11, 12, 13]) rfl)) (SD_trans (SD_trans (SD_trans (SD_refl) (SD_glu (ι := [6, 2, 7, 4]) hN15 eN15 (by decide +kernel)) (any_subA (l' := [7]) rfl)) (SD_glu (ι := [5, 9]) hN24 eN24 (by decide +kernel)) (any_subA (l' := [9]) rfl)) (SD_glu (ι := [0, 1, 3, 5, 6, 7, 10, 9, 11, 12, 13]) hN30 eN30 (by decide +kernel)) (any_subA (l' := [3, 10, 11, 12, 13]) rfl)) (SF_trans (SF_trans (SF_trans (SF_refl) (SF_glu (ι := [6, 2, 7, 4]) hS15 eF15 (by decide +kernel)) (any_sub (l' := [(6, 0), (6, 1), (6, 2), (6, 3), (6, 4)]) rfl)) (SF_glu (ι := [5, 9]) hS24 eF24 (by decide +kernel)) (any_sub (l' := [(5, 6), (5, 7), (5, 9), (5, 10), (5, 11)]) rfl)) (SF_glu (ι := [0, 1, 3, 5, 6, 7, 10, 9, 11, 12, 13]) hS30 eF30 (by decide +kernel)) (any_sub (l' := [(1, 0), (1, 1), (1, 2), (5, 1), (5, 2), (5, 3), (5, 4), (5, 5), (5, 6), (5, 8), (5, 12), (5, 13), (5, 14), (5, 15), (5, 16), (5, 17), (5, 18)]) rfl)) (SA_trans (SA_trans (SA_trans (SA_refl) (SA_glu (ι := [6, 2, 7, 4]) hA15 eA15 (by decide +kernel)) (any_subA (l' := [7]) rfl)) (SA_glu (ι := [5, 9]) hA24 eA24 (by decide +kernel)) (any_subA (l' := [9]) rfl)) (SA_glu (ι := [0, 1, 3, 5, 6, 7, 10, 9, 11, 12, 13]) hA30 eA30 (by decide +kernel)) (any_subA (l' := [3, 9, 10, 11, 12, 13]) rfl)) (pf30_1_0) (pf30_6_0) (pf30_5_7) (pf30_5_8) (pf30_5_1) (pf30_5_2) (pf30_5_3) (m30_2) ((congrArg (fun q : Nat => (q : Int)) (eN30 3)).trans em30_2) (m15_2) ((congrArg (fun q : Nat => (q : Int)) (show N30 7 = N24 7 from (eN30 7).trans (hN30 5 rfl))).trans ((congrArg (fun q : Nat => (q : Int)) (show N24 7 = N15 7 from (eN24 7))).trans ((congrArg (fun q : Nat => (q : Int)) (eN15 7)).trans em15_2))) (m24_1) ((congrArg (fun q : Nat => (q : Int)) (show N30 9 = N24 9 from (eN30 9).trans (hN30 7 rfl))).trans ((congrArg (fun q : Nat => (q : Int)) (eN24 9)).trans em24_1)) (m30_6) ((congrArg (fun q : Nat => (q : Int)) (eN30 10)).trans em30_6) (m30_8) ((congrArg (fun q : Nat => (q : Int)) (eN30 11)).trans em30_8) (m30_9) ((congrArg (fun q : Nat => (q : Int)) (eN30 12)).trans em30_9) (m30_10) ((congrArg (fun q : Nat => (q : Int)) (eN30 13)).trans em30_10) (y30_1_1) (((eF30 1 1).trans ey30_1_1)) (y30_1_2) (((eF30 1 2).trans ey30_1_2)) (y15_0_1) (((((show F30 6 1 = F24 6 1 from (eF30 6 1).trans (hS30 4 1 rfl))).trans ((show F24 6 1 = F15 6 1 from (eF24 6 1)))).trans ((eF15 6 1).trans ey15_0_1))) (w30_2) ((eA30 3).trans ew30_2) (show 0 ≤ (y30_1_1) ∧ (y30_1_1) ≤ (m30_2) ∧ (m30_2) ≤ 65536 by omega) (show 0 ≤ (y15_0_1) ∧ (y15_0_1) ≤ (m15_2) ∧ (m15_2) ≤ 65536 by omega) (show (m24_1) = 0 ∨ (m24_1) = 2048 by omega) (show (m30_6) ≤ 16384 by omega) (show (m30_8) = (m30_9) ∧ (m30_10) = (m30_9) ∧ (m30_9) ≤ 65536 ∧ ((m30_9) = 0 ∨ 64 ≤ (m30_9)) ∧ lgq ((m30_9)) = 0 by omega) (show PKG (((w8)) 0) (sc ((w4)) 0 ((u2_1))) ((u1_2)) ((w3)) ((u1_1)) ((y30_1_2)) ((w30_2)) ((y30_1_1)) by assumption))
abbrev V202_Row_Row : vV := [(0, 10, [(4, 0), (4, 0), (4, 0), (4, 0), (0, 0), (4, 0), (0, 0), (2, 0), (0, 0)]), (0, 7, [(4, 0), (0, 0), (1, 0), (0, 0), (0, 0)]), (0, 7, [(4, 0), (0, 0), (1, 0), (0, 0), (0, 0)]), (1, 0, []), (1, 0, []), (0, 5, [(4, 0), (4, 0), (4, 0), (4, 0), (0, 0), (0, 0), (0, 0), (4, 0), (4, 0), (0, 0), (0, 0), (0, 0), (0, 0), (0, 0), (0, 0), (0, 0), (0, 0), (0, 0), (0, 0)]), (0, 7, [(4, 0), (0, 0), (1, 0), (0, 0), (0, 0)]), (1, 0, [])]
/-- Tags.addChunk: this, #1, #2, #1.bytes, #2.bytes, this.finder, this.finder.data, this.finder.data.bytes -/
theorem C202_Row_Row {σE : rS} {D N : Nat → Nat} {F : hF} {A : hA} {d c s : Nat} {Q : wQ} (H : HW V202_Row_Row σE D N F A) (HT : STC σE) {a3 : Int} (pf3 : F 1 0 = (D 3 : Int)) (pf4 : F 2 0 = (D 4 : Int)) (pf5 : F 0 1 = (D 5 : Int)) (pf6 : F 5 0 = (D 6 : Int)) (pf7 : F 6 0 = (D 7 : Int)) (n3 : Int) (en3 : (N 3 : Int) = n3) (n4 : Int) (en4 : (N 4 : Int) = n4) (n7 : Int) (en7 : (N 7 : Int) = n7) (u1_1 : Int) (eu1_1 : F 1 1 = u1_1) (u1_2 : Int) (eu1_2 : F 1 2 = u1_2) (u2_1 : Int) (eu2_1 : F 2 1 = u2_1) (u6_1 : Int) (eu6_1 : F 6 1 = u6_1) (w3 : Int → Int) (ew3 : A 3 = w3) (w4 : Int → Int) (ew4 : A 4 = w4) (w7 : Int → Int) (ew7 : A 7 = w7) (h0 : inr (a3)) (h1 : 0 ≤ (u1_1) ∧ (u1_1) ≤ (n3) ∧ (n3) ≤ 65536) (h2 : 0 ≤ (u2_1) ∧ (u2_1) ≤ (n4) ∧ (n4) ≤ 65536) (h3 : 0 ≤ (u6_1) ∧ (u6_1) ≤ (n7) ∧ (n7) ≤ 65536) (h4 : 0 ≤ (a3) ∧ (a3) ≤ 1) (k : ∀ (σ : rS) (D' N' : Nat → Nat) (F' : hF) (A' : hA) (c' s' : Nat), HW V202_Row_Row σ D' N' F' A' → OUT (V202_Row_Row).length D N σE c s D' N' σ c' s' → SD [3] D D' → SD [3] N N' → SF [(1, 0), (1, 1), (1, 2)] F F' → SA [3] A A' → F' 1 0 = (D' 3 : Int) → ∀ m3 : Int, (N' 3 : Int) = m3 → ∀ y1_1 : Int, F' 1 1 = y1_1 → ∀ y1_2 : Int, F' 1 2 = y1_2 → ∀ v3 : Int → Int, A' 3 = v3 → (0 ≤ (y1_1) ∧ (y1_1) ≤ (m3) ∧ (m3) ≤ 65536) → (RAP ((u1_2)) ((w3)) ((u1_1)) ((y1_2)) ((v3)) ((y1_1)) (TGk ((a3)) (sc ((w4)) 0 ((u2_1))) (sc ((w7)) 0 ((u6_1))))) → Q none σ c' s') : Ew 202 (d + 3) 0 (rargs 0 [.ref (D 0), .ref (D 1), .ref (D 2), I a3]) [] σE c s Q := by
  have O := OUT_refl (n := (V202_Row_Row).length) (D := D) (N := N) (σ := σE) (c := c) (s := s)
  have HE := H
  have r1 : (-2147483648 : Int) ≤ u1_1 ∧ u1_1 ≤ 2147483647 := by have h1 : (-2147483648 : Int) ≤ F 1 1 ∧ F 1 1 ≤ 2147483647 := H.krg 1 1 (by decide); rw [show F 1 1 = u1_1 from (eu1_1)] at h1; exact h1
  have r2 : (0 : Int) ≤ u1_2 ∧ u1_2 ≤ 1 := by have h1 : (0 : Int) ≤ F 1 2 ∧ F 1 2 ≤ 1 := H.krg 1 2 (by decide); rw [show F 1 2 = u1_2 from (eu1_2)] at h1; exact h1
  have r3 : (-2147483648 : Int) ≤ u2_1 ∧ u2_1 ≤ 2147483647 := by have h1 : (-2147483648 : Int) ≤ F 2 1 ∧ F 2 1 ≤ 2147483647 := H.krg 2 1 (by decide); rw [show F 2 1 = u2_1 from (eu2_1)] at h1; exact h1
  have r4 : (-2147483648 : Int) ≤ u6_1 ∧ u6_1 ≤ 2147483647 := by have h1 : (-2147483648 : Int) ≤ F 6 1 ∧ F 6 1 ≤ 2147483647 := H.krg 6 1 (by decide); rw [show F 6 1 = u6_1 from (eu6_1)] at h1; exact h1
  have r5 : (0 : Int) ≤ n3 ∧ n3 ≤ 1000000 := by have h1 := H.nle 3 (by decide); have h2 : (N 3 : Int) = n3 := en3; omega
  have r6 : (0 : Int) ≤ n4 ∧ n4 ≤ 1000000 := by have h1 := H.nle 4 (by decide); have h2 : (N 4 : Int) = n4 := en4; omega
  have r7 : (0 : Int) ≤ n7 ∧ n7 ≤ 1000000 := by have h1 := H.nle 7 (by decide); have h2 : (N 7 : Int) = n7 := en7; omega
  refine Ew_of (pc' := 1) (fun _ => x_aload_n rfl rfl) ?_
  refine v_g H (o := 0) (v := .ref (D 5)) rfl rfl rfl rfl rfl (vrf (pf5)) ?_
  refine v_g H (o := 5) (v := .ref (D 6)) rfl rfl rfl rfl rfl (vrf (pf6)) ?_
  refine Ew_of (pc' := 9) (fun _ => x_astore rfl) ?_
  refine Ew_of (pc' := 10) (fun _ => x_aload_n rfl (rk_o (rfl) rfl rfl)) ?_
  refine Ew_of (pc' := 11) (fun _ => x_aload_n rfl (rk_o (rfl) rfl rfl)) ?_
  refine v_g H (o := 2) (v := I (u2_1)) rfl rfl rfl rfl rfl (congrArg (fun z : Int => I z) ((eu2_1) : F 2 1 = u2_1)) ?_
  refine Ew_of (pc' := 15) (fun _ => x_iconst rfl) ?_
  refine w_iadd rfl ?_
  refine Ew_of (pc' := 18) (fun _ => x_bipush (z := 8) rfl (by decide)) ?_
  refine w_ishlE rfl ?_
  have g8 : inr (slI ((u2_1 + 4)) (8)) := toI_inr _
  refine Ew_of (pc' := 20) (fun _ => x_iload_n rfl (rk_o (rfl) rfl rfl)) ?_
  refine w_iorE rfl ?_
  have g9 : inr (orI ((slI ((u2_1 + 4)) (8))) (a3)) := toI_inr _
  have hv : ((orI ((slI ((u2_1 + 4)) (8))) (a3))) = ((u2_1) + 4) * 256 + (a3) := or8 (by omega) (by omega)
  have hvr : inr (((orI ((slI ((u2_1 + 4)) (8))) (a3)))) := by omega
  refine w_i2l rfl (show inr ((orI ((slI ((u2_1 + 4)) (8))) (a3))) by omega) ?_
  refine Ew_of (pc' := 23) (fun _ => x_iconst rfl) ?_
  refine v_inv H (o := 1) rfl rfl rfl rfl rfl rfl (by rfl) (C160 (D := pul [1, 3] D) (N := pul [1, 3] N) (HW_sub H (VS_of (show vsub V202_Row_Row V160 [1, 3] = true by decide +kernel))) (pf3) (n3) (en3) (u1_1) ((eu1_1)) (u1_2) ((eu1_2)) (w3) (ew3) (show inrJ ((orI ((slI ((u2_1 + 4)) (8))) (a3))) by omega) (show inr (4) by omega) (show 0 ≤ (u1_1) ∧ (u1_1) ≤ (n3) ∧ (n3) ≤ 65536 by omega) (show 0 ≤ (4) ∧ (4) ≤ 8 by omega) (fun σ10 D10' N10' F10' A10' c10 s10 H' O' hD10 hN10 hS10 hA10 pm10_1 m10_1 em10_1 y10_0_1 ey10_0_1 y10_0_2 ey10_0_2 w10_1 ew10_1 pz10_0 pz10_1 pz10_2 => ⟨rfl, ?_⟩))
  refine v_backM (c := c) (s := s) H (show vsub V202_Row_Row V160 [1, 3] = true by decide +kernel) H' O' hD10 (show vmov V202_Row_Row [1, 3] [1] = true by decide +kernel) (fun D10 N10 F10 A10 H O' eD10 eN10 eF10 eA10 => ?_)
  have O := OUT_trans O O'
  -- Row.addNumber
  have pf10_0_1 : F10 0 1 = (D10 5 : Int) := ((show F10 0 1 = F 0 1 from (eF10 0 1))).trans ((pf5).trans (congrArg (fun q : Nat => (q : Int)) ((show D10 5 = D 5 from (eD10 5))).symm))
  have pf10_1_0 : F10 1 0 = (D10 3 : Int) := (eF10 1 0).trans (pm10_1.trans (congrArg (fun q : Nat => (q : Int)) (eD10 3).symm))
  have pf10_2_0 : F10 2 0 = (D10 4 : Int) := ((show F10 2 0 = F 2 0 from (eF10 2 0))).trans ((pf4).trans (congrArg (fun q : Nat => (q : Int)) ((show D10 4 = D 4 from (eD10 4))).symm))
  have pf10_5_0 : F10 5 0 = (D10 6 : Int) := ((show F10 5 0 = F 5 0 from (eF10 5 0))).trans ((pf6).trans (congrArg (fun q : Nat => (q : Int)) ((show D10 6 = D 6 from (eD10 6))).symm))
  have pf10_6_0 : F10 6 0 = (D10 7 : Int) := ((show F10 6 0 = F 6 0 from (eF10 6 0))).trans ((pf7).trans (congrArg (fun q : Nat => (q : Int)) ((show D10 7 = D 7 from (eD10 7))).symm))
  have r11 : (0 : Int) ≤ m10_1 ∧ m10_1 ≤ 1000000 := by have h1 := H.nle 3 (by decide); have h2 : (N10 3 : Int) = m10_1 := (congrArg (fun q : Nat => (q : Int)) (eN10 3)).trans em10_1; omega
  have r12 : (-2147483648 : Int) ≤ y10_0_1 ∧ y10_0_1 ≤ 2147483647 := by have h1 : (-2147483648 : Int) ≤ F10 1 1 ∧ F10 1 1 ≤ 2147483647 := H.krg 1 1 (by decide); rw [show F10 1 1 = y10_0_1 from ((eF10 1 1).trans ey10_0_1)] at h1; exact h1
  have r13 : (0 : Int) ≤ y10_0_2 ∧ y10_0_2 ≤ 1 := by have h1 : (0 : Int) ≤ F10 1 2 ∧ F10 1 2 ≤ 1 := H.krg 1 2 (by decide); rw [show F10 1 2 = y10_0_2 from ((eF10 1 2).trans ey10_0_2)] at h1; exact h1
  have h1_ := pz10_2
  rw [hv] at h1_
  refine Ew_of (pc' := 27) (fun _ => x_aload_n rfl (rk_o (rfl) rfl rfl)) ?_
  refine Ew_of (pc' := 29) (fun _ => x_aload rfl rk_s) ?_
  refine Ew_stk (show ([.ref (D 6), .ref (D 1)] : List Value) = [.ref (D10 6), .ref (D10 1)] by rw [show D10 1 = D 1 from ((show D10 1 = D 1 from (eD10 1).trans (hD10 0 rfl))), show D10 6 = D 6 from ((show D10 6 = D 6 from (eD10 6)))]) ?_
  refine v_g H (o := 6) (v := .ref (D10 7)) rfl rfl rfl rfl rfl (vrf (pf10_6_0)) ?_
  refine Ew_of (pc' := 33) (fun _ => x_iconst rfl) ?_
  refine Ew_of (pc' := 35) (fun _ => x_aload rfl rk_s) ?_
  refine Ew_stk (show ([.ref (D 6), I (0), .ref (D10 7), .ref (D10 1)] : List Value) = [.ref (D10 6), I (0), .ref (D10 7), .ref (D10 1)] by rw [show D10 6 = D 6 from ((show D10 6 = D 6 from (eD10 6)))]) ?_
  refine v_g H (o := 6) (v := I (u6_1)) rfl rfl rfl rfl rfl (congrArg (fun z : Int => I z) ((((show F10 6 1 = F 6 1 from (eF10 6 1))).trans (eu6_1)) : F10 6 1 = u6_1)) ?_
  refine w_stat25 rfl rfl (by rfl) (C53_Br (D := pul [7] D10) (N := pul [7] N10) (HW_sub H (VS_of (show vsub V202_Row_Row V53_Br [7] = true by decide +kernel))) (STC_out HT HE O) (n7) ((congrArg (fun q : Nat => (q : Int)) (show N10 7 = N 7 from (eN10 7))).trans (en7)) (w7) (((show A10 7 = A 7 from (eA10 7))).trans (ew7)) (show inr (0) by omega) (show inr (u6_1) by omega) (show 0 ≤ (0) ∧ (0) ≤ (u6_1) ∧ (u6_1) ≤ (n7) by omega) (fun z14 σ14 F14' A14' H' O' hS14 hA14 pz14_0 pz14_1 => ⟨rfl, ?_⟩))
  refine v_back (c := (c + c10)) (s := (s + s10)) H (show vsub V202_Row_Row V53_Br [7] = true by decide +kernel) H' O' (fun F14 A14 H O' eF14 eA14 => ?_)
  have O := OUT_trans O O'
  -- PackHouse.polynomialSum
  have hpo := pz14_1
  refine w_stat25 rfl rfl (by rfl) (C54 (D := pul [] D10) (N := pul [] N10) (HW_sub H (VS_of (show vsub V202_Row_Row V54 [] = true by decide +kernel))) (show inr (z14) by omega) (fun z15 σ15 F15' A15' H' O' hS15 hA15 pz15_0 pz15_1 => ⟨rfl, ?_⟩))
  refine v_back (c := (c + c10)) (s := (s + s10)) H (show vsub V202_Row_Row V54 [] = true by decide +kernel) H' O' (fun F15 A15 H O' eF15 eA15 => ?_)
  have O := OUT_trans O O'
  -- PackHouse.maskedSum
  have hma := pz15_1
  refine w_i2l rfl (show inr (z15) by omega) ?_
  refine Ew_of (pc' := 46) (fun _ => x_iconst rfl) ?_
  refine v_inv H (o := 1) rfl rfl rfl rfl rfl rfl (by rfl) (C160 (D := pul [1, 3] D10) (N := pul [1, 3] N10) (HW_sub H (VS_of (show vsub V202_Row_Row V160 [1, 3] = true by decide +kernel))) (((((show F15 1 0 = F14 1 0 from (eF15 1 0))).trans ((show F14 1 0 = F10 1 0 from (eF14 1 0))))).trans (pf10_1_0)) (m10_1) ((congrArg (fun q : Nat => (q : Int)) (eN10 3)).trans em10_1) (y10_0_1) (((((show F15 1 1 = F14 1 1 from (eF15 1 1))).trans ((show F14 1 1 = F10 1 1 from (eF14 1 1)))).trans ((eF10 1 1).trans ey10_0_1))) (y10_0_2) (((((show F15 1 2 = F14 1 2 from (eF15 1 2))).trans ((show F14 1 2 = F10 1 2 from (eF14 1 2)))).trans ((eF10 1 2).trans ey10_0_2))) (w10_1) (((show A15 3 = A14 3 from (eA15 3))).trans (((show A14 3 = A10 3 from (eA14 3))).trans ((eA10 3).trans ew10_1))) (show inrJ (z15) by omega) (show inr (4) by omega) (show 0 ≤ (y10_0_1) ∧ (y10_0_1) ≤ (m10_1) ∧ (m10_1) ≤ 65536 by omega) (show 0 ≤ (4) ∧ (4) ≤ 8 by omega) (fun σ16 D16' N16' F16' A16' c16 s16 H' O' hD16 hN16 hS16 hA16 pm16_1 m16_1 em16_1 y16_0_1 ey16_0_1 y16_0_2 ey16_0_2 w16_1 ew16_1 pz16_0 pz16_1 pz16_2 => ⟨rfl, ?_⟩))
  refine v_backM (c := (c + c10)) (s := (s + s10)) H (show vsub V202_Row_Row V160 [1, 3] = true by decide +kernel) H' O' hD16 (show vmov V202_Row_Row [1, 3] [1] = true by decide +kernel) (fun D16 N16 F16 A16 H O' eD16 eN16 eF16 eA16 => ?_)
  have O := OUT_trans O O'
  -- Row.addNumber
  have pf16_0_1 : F16 0 1 = (D16 5 : Int) := ((show F16 0 1 = F15 0 1 from (eF16 0 1))).trans ((((((show F15 0 1 = F14 0 1 from (eF15 0 1))).trans ((show F14 0 1 = F10 0 1 from (eF14 0 1))))).trans (pf10_0_1)).trans (congrArg (fun q : Nat => (q : Int)) ((show D16 5 = D10 5 from (eD16 5))).symm))
  have pf16_1_0 : F16 1 0 = (D16 3 : Int) := (eF16 1 0).trans (pm16_1.trans (congrArg (fun q : Nat => (q : Int)) (eD16 3).symm))
  have pf16_2_0 : F16 2 0 = (D16 4 : Int) := ((show F16 2 0 = F15 2 0 from (eF16 2 0))).trans ((((((show F15 2 0 = F14 2 0 from (eF15 2 0))).trans ((show F14 2 0 = F10 2 0 from (eF14 2 0))))).trans (pf10_2_0)).trans (congrArg (fun q : Nat => (q : Int)) ((show D16 4 = D10 4 from (eD16 4))).symm))
  have pf16_5_0 : F16 5 0 = (D16 6 : Int) := ((show F16 5 0 = F15 5 0 from (eF16 5 0))).trans ((((((show F15 5 0 = F14 5 0 from (eF15 5 0))).trans ((show F14 5 0 = F10 5 0 from (eF14 5 0))))).trans (pf10_5_0)).trans (congrArg (fun q : Nat => (q : Int)) ((show D16 6 = D10 6 from (eD16 6))).symm))
  have pf16_6_0 : F16 6 0 = (D16 7 : Int) := ((show F16 6 0 = F15 6 0 from (eF16 6 0))).trans ((((((show F15 6 0 = F14 6 0 from (eF15 6 0))).trans ((show F14 6 0 = F10 6 0 from (eF14 6 0))))).trans (pf10_6_0)).trans (congrArg (fun q : Nat => (q : Int)) ((show D16 7 = D10 7 from (eD16 7))).symm))
  have r17 : (0 : Int) ≤ m16_1 ∧ m16_1 ≤ 1000000 := by have h1 := H.nle 3 (by decide); have h2 : (N16 3 : Int) = m16_1 := (congrArg (fun q : Nat => (q : Int)) (eN16 3)).trans em16_1; omega
  have r18 : (-2147483648 : Int) ≤ y16_0_1 ∧ y16_0_1 ≤ 2147483647 := by have h1 : (-2147483648 : Int) ≤ F16 1 1 ∧ F16 1 1 ≤ 2147483647 := H.krg 1 1 (by decide); rw [show F16 1 1 = y16_0_1 from ((eF16 1 1).trans ey16_0_1)] at h1; exact h1
  have r19 : (0 : Int) ≤ y16_0_2 ∧ y16_0_2 ≤ 1 := by have h1 : (0 : Int) ≤ F16 1 2 ∧ F16 1 2 ≤ 1 := H.krg 1 2 (by decide); rw [show F16 1 2 = y16_0_2 from ((eF16 1 2).trans ey16_0_2)] at h1; exact h1
  have h2_ := pz16_2
  have hms : z15 = MSK (PLS (sc ((w7)) 0 ((u6_1)))) := by rw [hma, hpo, POL_L (b := (u6_1)) (by omega) (by omega)]; rw [MSK_e]; rfl
  rw [hms] at h2_
  refine Ew_of (pc' := 50) (fun _ => x_aload_n rfl (rk_o (rfl) rfl rfl)) ?_
  refine Ew_of (pc' := 51) (fun _ => x_aload_n rfl (rk_o (rfl) rfl rfl)) ?_
  refine Ew_stk (show ([.ref (D 2), .ref (D 1)] : List Value) = [.ref (D16 2), .ref (D16 1)] by rw [show D16 1 = D 1 from (((show D16 1 = D10 1 from (eD16 1).trans (hD16 0 rfl))).trans ((show D10 1 = D 1 from (eD10 1).trans (hD10 0 rfl)))), show D16 2 = D 2 from (((show D16 2 = D10 2 from (eD16 2))).trans ((show D10 2 = D 2 from (eD10 2))))]) ?_
  refine v_g H (o := 2) (v := .ref (D16 4)) rfl rfl rfl rfl rfl (vrf (pf16_2_0)) ?_
  refine Ew_of (pc' := 55) (fun _ => x_iconst rfl) ?_
  refine Ew_of (pc' := 56) (fun _ => x_aload_n rfl (rk_o (rfl) rfl rfl)) ?_
  refine Ew_stk (show ([.ref (D 2), I (0), .ref (D16 4), .ref (D16 1)] : List Value) = [.ref (D16 2), I (0), .ref (D16 4), .ref (D16 1)] by rw [show D16 2 = D 2 from (((show D16 2 = D10 2 from (eD16 2))).trans ((show D10 2 = D 2 from (eD10 2))))]) ?_
  refine v_g H (o := 2) (v := I (u2_1)) rfl rfl rfl rfl rfl (congrArg (fun z : Int => I z) (((((((show F16 2 1 = F15 2 1 from (eF16 2 1))).trans ((show F15 2 1 = F14 2 1 from (eF15 2 1)))).trans ((show F14 2 1 = F10 2 1 from (eF14 2 1)))).trans ((show F10 2 1 = F 2 1 from (eF10 2 1)))).trans (eu2_1)) : F16 2 1 = u2_1)) ?_
  refine v_inv H (o := 1) rfl rfl rfl rfl rfl rfl (by rfl) (C161_Br (D := pul [1, 4, 3] D16) (N := pul [1, 4, 3] N16) (HW_sub H (VS_of (show vsub V202_Row_Row V161_Br [1, 4, 3] = true by decide +kernel))) (pf16_1_0) (n4) ((congrArg (fun q : Nat => (q : Int)) (show N16 4 = N10 4 from (eN16 4))).trans ((congrArg (fun q : Nat => (q : Int)) (show N10 4 = N 4 from (eN10 4))).trans (en4))) (m16_1) ((congrArg (fun q : Nat => (q : Int)) (eN16 3)).trans em16_1) (y16_0_1) (((eF16 1 1).trans ey16_0_1)) (y16_0_2) (((eF16 1 2).trans ey16_0_2)) (w4) (((show A16 4 = A15 4 from (eA16 4))).trans (((show A15 4 = A14 4 from (eA15 4))).trans (((show A14 4 = A10 4 from (eA14 4))).trans (((show A10 4 = A 4 from (eA10 4))).trans (ew4))))) (w16_1) ((eA16 3).trans ew16_1) (show inr (0) by omega) (show inr (u2_1) by omega) (show 0 ≤ (y16_0_1) ∧ (y16_0_1) ≤ (m16_1) ∧ (m16_1) ≤ 65536 by omega) (show (u2_1) < 0 ∨ 0 ≤ (0) ∧ (0) + (u2_1) ≤ (n4) by omega) (fun σ20 D20' N20' F20' A20' c20 s20 H' O' hD20 hN20 hS20 hA20 pm20_2 m20_2 em20_2 y20_0_1 ey20_0_1 y20_0_2 ey20_0_2 w20_2 ew20_2 pz20_0 pz20_1 pz20_2 pz20_3 => ⟨rfl, ?_⟩))
  refine v_backM (c := ((c + c10) + c16)) (s := ((s + s10) + s16)) H (show vsub V202_Row_Row V161_Br [1, 4, 3] = true by decide +kernel) H' O' hD20 (show vmov V202_Row_Row [1, 4, 3] [2] = true by decide +kernel) (fun D20 N20 F20 A20 H O' eD20 eN20 eF20 eA20 => ?_)
  have O := OUT_trans O O'
  -- Row.addPart
  have pf20_0_1 : F20 0 1 = (D20 5 : Int) := ((show F20 0 1 = F16 0 1 from (eF20 0 1))).trans ((pf16_0_1).trans (congrArg (fun q : Nat => (q : Int)) ((show D20 5 = D16 5 from (eD20 5))).symm))
  have pf20_1_0 : F20 1 0 = (D20 3 : Int) := (eF20 1 0).trans (pm20_2.trans (congrArg (fun q : Nat => (q : Int)) (eD20 3).symm))
  have pf20_2_0 : F20 2 0 = (D20 4 : Int) := ((show F20 2 0 = F16 2 0 from (eF20 2 0))).trans ((pf16_2_0).trans (congrArg (fun q : Nat => (q : Int)) ((show D20 4 = D16 4 from (eD20 4).trans (hD20 1 rfl))).symm))
  have pf20_5_0 : F20 5 0 = (D20 6 : Int) := ((show F20 5 0 = F16 5 0 from (eF20 5 0))).trans ((pf16_5_0).trans (congrArg (fun q : Nat => (q : Int)) ((show D20 6 = D16 6 from (eD20 6))).symm))
  have pf20_6_0 : F20 6 0 = (D20 7 : Int) := ((show F20 6 0 = F16 6 0 from (eF20 6 0))).trans ((pf16_6_0).trans (congrArg (fun q : Nat => (q : Int)) ((show D20 7 = D16 7 from (eD20 7))).symm))
  have r21 : (0 : Int) ≤ m20_2 ∧ m20_2 ≤ 1000000 := by have h1 := H.nle 3 (by decide); have h2 : (N20 3 : Int) = m20_2 := (congrArg (fun q : Nat => (q : Int)) (eN20 3)).trans em20_2; omega
  have r22 : (-2147483648 : Int) ≤ y20_0_1 ∧ y20_0_1 ≤ 2147483647 := by have h1 : (-2147483648 : Int) ≤ F20 1 1 ∧ F20 1 1 ≤ 2147483647 := H.krg 1 1 (by decide); rw [show F20 1 1 = y20_0_1 from ((eF20 1 1).trans ey20_0_1)] at h1; exact h1
  have r23 : (0 : Int) ≤ y20_0_2 ∧ y20_0_2 ≤ 1 := by have h1 : (0 : Int) ≤ F20 1 2 ∧ F20 1 2 ≤ 1 := H.krg 1 2 (by decide); rw [show F20 1 2 = y20_0_2 from ((eF20 1 2).trans ey20_0_2)] at h1; exact h1
  have : RAP ((u1_2)) ((w3)) ((u1_1)) ((y20_0_2)) ((w20_2)) ((y20_0_1)) (TGk ((a3)) (sc ((w4)) 0 ((u2_1))) (sc ((w7)) 0 ((u6_1)))) := RAP_c (RAP_trans h1_ (RAP_trans h2_ (pz20_3 (by omega)))) (by unfold TGk; rw [sc_lenI (by omega), show (u2_1) - 0 = (u2_1) by omega, Int.zero_add])
  exact w_ret rfl (k _ _ _ _ _ _ _ H O (SD_trans (SD_trans (SD_trans (SD_refl) (SD_glu (ι := [1, 3]) hD10 eD10 (by decide +kernel)) (any_subA (l' := [3]) rfl)) (SD_glu (ι := [1, 3]) hD16 eD16 (by decide +kernel)) (any_subA (l' := [3]) rfl)) (SD_glu (ι := [1, 4, 3]) hD20 eD20 (by decide +kernel)) (any_subA (l' := [3]) rfl)) (SD_trans (SD_trans (SD_trans (SD_refl) (SD_glu (ι := [1, 3]) hN10 eN10 (by decide +kernel)) (any_subA (l' := [3]) rfl)) (SD_glu (ι := [1, 3]) hN16 eN16 (by decide +kernel)) (any_subA (l' := [3]) rfl)) (SD_glu (ι := [1, 4, 3]) hN20 eN20 (by decide +kernel)) (any_subA (l' := [3]) rfl)) (SF_trans (SF_trans (SF_trans (SF_trans (SF_trans (SF_refl) (SF_glu (ι := [1, 3]) hS10 eF10 (by decide +kernel)) (any_sub (l' := [(1, 0), (1, 1), (1, 2)]) rfl)) (SF_glu (ι := [7]) hS14 eF14 (by decide +kernel)) (any_sub (l' := []) rfl)) (SF_glu (ι := []) hS15 eF15 (by decide +kernel)) (any_sub (l' := []) rfl)) (SF_glu (ι := [1, 3]) hS16 eF16 (by decide +kernel)) (any_sub (l' := [(1, 0), (1, 1), (1, 2)]) rfl)) (SF_glu (ι := [1, 4, 3]) hS20 eF20 (by decide +kernel)) (any_sub (l' := [(1, 0), (1, 1), (1, 2)]) rfl)) (SA_trans (SA_trans (SA_trans (SA_trans (SA_trans (SA_refl) (SA_glu (ι := [1, 3]) hA10 eA10 (by decide +kernel)) (any_subA (l' := [3]) rfl)) (SA_glu (ι := [7]) hA14 eA14 (by decide +kernel)) (any_subA (l' := []) rfl)) (SA_glu (ι := []) hA15 eA15 (by decide +kernel)) (any_subA (l' := []) rfl)) (SA_glu (ι := [1, 3]) hA16 eA16 (by decide +kernel)) (any_subA (l' := [3]) rfl)) (SA_glu (ι := [1, 4, 3]) hA20 eA20 (by decide +kernel)) (any_subA (l' := [3]) rfl)) (pf20_1_0) (m20_2) ((congrArg (fun q : Nat => (q : Int)) (eN20 3)).trans em20_2) (y20_0_1) (((eF20 1 1).trans ey20_0_1)) (y20_0_2) (((eF20 1 2).trans ey20_0_2)) (w20_2) ((eA20 3).trans ew20_2) (show 0 ≤ (y20_0_1) ∧ (y20_0_1) ≤ (m20_2) ∧ (m20_2) ≤ 65536 by omega) (show RAP ((u1_2)) ((w3)) ((u1_1)) ((y20_0_2)) ((w20_2)) ((y20_0_1)) (TGk (a3) (sc ((w4)) 0 ((u2_1))) (sc ((w7)) 0 ((u6_1)))) by assumption))
abbrev V202_Row_thisfinderdataa : vV := [(0, 10, [(4, 0), (4, 0), (4, 0), (4, 0), (0, 0), (4, 0), (0, 0), (2, 0), (0, 0)]), (0, 7, [(4, 0), (0, 0), (1, 0), (0, 0), (0, 0)]), (1, 0, []), (0, 5, [(4, 0), (4, 0), (4, 0), (4, 0), (0, 0), (0, 0), (0, 0), (4, 0), (4, 0), (0, 0), (0, 0), (0, 0), (0, 0), (0, 0), (0, 0), (0, 0), (0, 0), (0, 0), (0, 0)]), (0, 7, [(4, 0), (0, 0), (1, 0), (0, 0), (0, 0)]), (1, 0, [])]
/-- Tags.addChunk: this, #1, #1.bytes, this.finder, this.finder.data, this.finder.data.bytes -/
theorem C202_Row_thisfinderdataa {σE : rS} {D N : Nat → Nat} {F : hF} {A : hA} {d c s : Nat} {Q : wQ} (H : HW V202_Row_thisfinderdataa σE D N F A) (HT : STC σE) {a3 : Int} (pf2 : F 1 0 = (D 2 : Int)) (pf3 : F 0 1 = (D 3 : Int)) (pf4 : F 3 0 = (D 4 : Int)) (pf5 : F 4 0 = (D 5 : Int)) (n2 : Int) (en2 : (N 2 : Int) = n2) (n5 : Int) (en5 : (N 5 : Int) = n5) (u1_1 : Int) (eu1_1 : F 1 1 = u1_1) (u1_2 : Int) (eu1_2 : F 1 2 = u1_2) (u4_1 : Int) (eu4_1 : F 4 1 = u4_1) (w2 : Int → Int) (ew2 : A 2 = w2) (w5 : Int → Int) (ew5 : A 5 = w5) (h0 : inr (a3)) (h1 : 0 ≤ (u1_1) ∧ (u1_1) ≤ (n2) ∧ (n2) ≤ 65536) (h2 : 0 ≤ (u4_1) ∧ (u4_1) ≤ (n5) ∧ (n5) ≤ 65536) (h3 : 0 ≤ (u4_1) ∧ (u4_1) ≤ (n5) ∧ (n5) ≤ 65536) (h4 : 0 ≤ (a3) ∧ (a3) ≤ 1) (k : ∀ (σ : rS) (D' N' : Nat → Nat) (F' : hF) (A' : hA) (c' s' : Nat), HW V202_Row_thisfinderdataa σ D' N' F' A' → OUT (V202_Row_thisfinderdataa).length D N σE c s D' N' σ c' s' → SD [2] D D' → SD [2] N N' → SF [(1, 0), (1, 1), (1, 2)] F F' → SA [2] A A' → F' 1 0 = (D' 2 : Int) → ∀ m2 : Int, (N' 2 : Int) = m2 → ∀ y1_1 : Int, F' 1 1 = y1_1 → ∀ y1_2 : Int, F' 1 2 = y1_2 → ∀ v2 : Int → Int, A' 2 = v2 → (0 ≤ (y1_1) ∧ (y1_1) ≤ (m2) ∧ (m2) ≤ 65536) → (RAP ((u1_2)) ((w2)) ((u1_1)) ((y1_2)) ((v2)) ((y1_1)) (TGk ((a3)) (sc ((w5)) 0 ((u4_1))) (sc ((w5)) 0 ((u4_1))))) → Q none σ c' s') : Ew 202 (d + 3) 0 (rargs 0 [.ref (D 0), .ref (D 1), .ref (D 4), I a3]) [] σE c s Q := by
  have O := OUT_refl (n := (V202_Row_thisfinderdataa).length) (D := D) (N := N) (σ := σE) (c := c) (s := s)
  have HE := H
  have r1 : (-2147483648 : Int) ≤ u1_1 ∧ u1_1 ≤ 2147483647 := by have h1 : (-2147483648 : Int) ≤ F 1 1 ∧ F 1 1 ≤ 2147483647 := H.krg 1 1 (by decide); rw [show F 1 1 = u1_1 from (eu1_1)] at h1; exact h1
  have r2 : (0 : Int) ≤ u1_2 ∧ u1_2 ≤ 1 := by have h1 : (0 : Int) ≤ F 1 2 ∧ F 1 2 ≤ 1 := H.krg 1 2 (by decide); rw [show F 1 2 = u1_2 from (eu1_2)] at h1; exact h1
  have r3 : (-2147483648 : Int) ≤ u4_1 ∧ u4_1 ≤ 2147483647 := by have h1 : (-2147483648 : Int) ≤ F 4 1 ∧ F 4 1 ≤ 2147483647 := H.krg 4 1 (by decide); rw [show F 4 1 = u4_1 from (eu4_1)] at h1; exact h1
  have r4 : (0 : Int) ≤ n2 ∧ n2 ≤ 1000000 := by have h1 := H.nle 2 (by decide); have h2 : (N 2 : Int) = n2 := en2; omega
  have r5 : (0 : Int) ≤ n5 ∧ n5 ≤ 1000000 := by have h1 := H.nle 5 (by decide); have h2 : (N 5 : Int) = n5 := en5; omega
  refine Ew_of (pc' := 1) (fun _ => x_aload_n rfl rfl) ?_
  refine v_g H (o := 0) (v := .ref (D 3)) rfl rfl rfl rfl rfl (vrf (pf3)) ?_
  refine v_g H (o := 3) (v := .ref (D 4)) rfl rfl rfl rfl rfl (vrf (pf4)) ?_
  refine Ew_of (pc' := 9) (fun _ => x_astore rfl) ?_
  refine Ew_of (pc' := 10) (fun _ => x_aload_n rfl (rk_o (rfl) rfl rfl)) ?_
  refine Ew_of (pc' := 11) (fun _ => x_aload_n rfl (rk_o (rfl) rfl rfl)) ?_
  refine v_g H (o := 4) (v := I (u4_1)) rfl rfl rfl rfl rfl (congrArg (fun z : Int => I z) ((eu4_1) : F 4 1 = u4_1)) ?_
  refine Ew_of (pc' := 15) (fun _ => x_iconst rfl) ?_
  refine w_iadd rfl ?_
  refine Ew_of (pc' := 18) (fun _ => x_bipush (z := 8) rfl (by decide)) ?_
  refine w_ishlE rfl ?_
  have g6 : inr (slI ((u4_1 + 4)) (8)) := toI_inr _
  refine Ew_of (pc' := 20) (fun _ => x_iload_n rfl (rk_o (rfl) rfl rfl)) ?_
  refine w_iorE rfl ?_
  have g7 : inr (orI ((slI ((u4_1 + 4)) (8))) (a3)) := toI_inr _
  have hv : ((orI ((slI ((u4_1 + 4)) (8))) (a3))) = ((u4_1) + 4) * 256 + (a3) := or8 (by omega) (by omega)
  have hvr : inr (((orI ((slI ((u4_1 + 4)) (8))) (a3)))) := by omega
  refine w_i2l rfl (show inr ((orI ((slI ((u4_1 + 4)) (8))) (a3))) by omega) ?_
  refine Ew_of (pc' := 23) (fun _ => x_iconst rfl) ?_
  refine v_inv H (o := 1) rfl rfl rfl rfl rfl rfl (by rfl) (C160 (D := pul [1, 2] D) (N := pul [1, 2] N) (HW_sub H (VS_of (show vsub V202_Row_thisfinderdataa V160 [1, 2] = true by decide +kernel))) (pf2) (n2) (en2) (u1_1) ((eu1_1)) (u1_2) ((eu1_2)) (w2) (ew2) (show inrJ ((orI ((slI ((u4_1 + 4)) (8))) (a3))) by omega) (show inr (4) by omega) (show 0 ≤ (u1_1) ∧ (u1_1) ≤ (n2) ∧ (n2) ≤ 65536 by omega) (show 0 ≤ (4) ∧ (4) ≤ 8 by omega) (fun σ8 D8' N8' F8' A8' c8 s8 H' O' hD8 hN8 hS8 hA8 pm8_1 m8_1 em8_1 y8_0_1 ey8_0_1 y8_0_2 ey8_0_2 w8_1 ew8_1 pz8_0 pz8_1 pz8_2 => ⟨rfl, ?_⟩))
  refine v_backM (c := c) (s := s) H (show vsub V202_Row_thisfinderdataa V160 [1, 2] = true by decide +kernel) H' O' hD8 (show vmov V202_Row_thisfinderdataa [1, 2] [1] = true by decide +kernel) (fun D8 N8 F8 A8 H O' eD8 eN8 eF8 eA8 => ?_)
  have O := OUT_trans O O'
  -- Row.addNumber
  have pf8_0_1 : F8 0 1 = (D8 3 : Int) := ((show F8 0 1 = F 0 1 from (eF8 0 1))).trans ((pf3).trans (congrArg (fun q : Nat => (q : Int)) ((show D8 3 = D 3 from (eD8 3))).symm))
  have pf8_1_0 : F8 1 0 = (D8 2 : Int) := (eF8 1 0).trans (pm8_1.trans (congrArg (fun q : Nat => (q : Int)) (eD8 2).symm))
  have pf8_3_0 : F8 3 0 = (D8 4 : Int) := ((show F8 3 0 = F 3 0 from (eF8 3 0))).trans ((pf4).trans (congrArg (fun q : Nat => (q : Int)) ((show D8 4 = D 4 from (eD8 4))).symm))
  have pf8_4_0 : F8 4 0 = (D8 5 : Int) := ((show F8 4 0 = F 4 0 from (eF8 4 0))).trans ((pf5).trans (congrArg (fun q : Nat => (q : Int)) ((show D8 5 = D 5 from (eD8 5))).symm))
  have r9 : (0 : Int) ≤ m8_1 ∧ m8_1 ≤ 1000000 := by have h1 := H.nle 2 (by decide); have h2 : (N8 2 : Int) = m8_1 := (congrArg (fun q : Nat => (q : Int)) (eN8 2)).trans em8_1; omega
  have r10 : (-2147483648 : Int) ≤ y8_0_1 ∧ y8_0_1 ≤ 2147483647 := by have h1 : (-2147483648 : Int) ≤ F8 1 1 ∧ F8 1 1 ≤ 2147483647 := H.krg 1 1 (by decide); rw [show F8 1 1 = y8_0_1 from ((eF8 1 1).trans ey8_0_1)] at h1; exact h1
  have r11 : (0 : Int) ≤ y8_0_2 ∧ y8_0_2 ≤ 1 := by have h1 : (0 : Int) ≤ F8 1 2 ∧ F8 1 2 ≤ 1 := H.krg 1 2 (by decide); rw [show F8 1 2 = y8_0_2 from ((eF8 1 2).trans ey8_0_2)] at h1; exact h1
  have h1_ := pz8_2
  rw [hv] at h1_
  refine Ew_of (pc' := 27) (fun _ => x_aload_n rfl (rk_o (rfl) rfl rfl)) ?_
  refine Ew_of (pc' := 29) (fun _ => x_aload rfl rk_s) ?_
  refine Ew_stk (show ([.ref (D 4), .ref (D 1)] : List Value) = [.ref (D8 4), .ref (D8 1)] by rw [show D8 1 = D 1 from ((show D8 1 = D 1 from (eD8 1).trans (hD8 0 rfl))), show D8 4 = D 4 from ((show D8 4 = D 4 from (eD8 4)))]) ?_
  refine v_g H (o := 4) (v := .ref (D8 5)) rfl rfl rfl rfl rfl (vrf (pf8_4_0)) ?_
  refine Ew_of (pc' := 33) (fun _ => x_iconst rfl) ?_
  refine Ew_of (pc' := 35) (fun _ => x_aload rfl rk_s) ?_
  refine Ew_stk (show ([.ref (D 4), I (0), .ref (D8 5), .ref (D8 1)] : List Value) = [.ref (D8 4), I (0), .ref (D8 5), .ref (D8 1)] by rw [show D8 4 = D 4 from ((show D8 4 = D 4 from (eD8 4)))]) ?_
  refine v_g H (o := 4) (v := I (u4_1)) rfl rfl rfl rfl rfl (congrArg (fun z : Int => I z) ((((show F8 4 1 = F 4 1 from (eF8 4 1))).trans (eu4_1)) : F8 4 1 = u4_1)) ?_
  refine w_stat25 rfl rfl (by rfl) (C53_Br (D := pul [5] D8) (N := pul [5] N8) (HW_sub H (VS_of (show vsub V202_Row_thisfinderdataa V53_Br [5] = true by decide +kernel))) (STC_out HT HE O) (n5) ((congrArg (fun q : Nat => (q : Int)) (show N8 5 = N 5 from (eN8 5))).trans (en5)) (w5) (((show A8 5 = A 5 from (eA8 5))).trans (ew5)) (show inr (0) by omega) (show inr (u4_1) by omega) (show 0 ≤ (0) ∧ (0) ≤ (u4_1) ∧ (u4_1) ≤ (n5) by omega) (fun z12 σ12 F12' A12' H' O' hS12 hA12 pz12_0 pz12_1 => ⟨rfl, ?_⟩))
  refine v_back (c := (c + c8)) (s := (s + s8)) H (show vsub V202_Row_thisfinderdataa V53_Br [5] = true by decide +kernel) H' O' (fun F12 A12 H O' eF12 eA12 => ?_)
  have O := OUT_trans O O'
  -- PackHouse.polynomialSum
  have hpo := pz12_1
  refine w_stat25 rfl rfl (by rfl) (C54 (D := pul [] D8) (N := pul [] N8) (HW_sub H (VS_of (show vsub V202_Row_thisfinderdataa V54 [] = true by decide +kernel))) (show inr (z12) by omega) (fun z13 σ13 F13' A13' H' O' hS13 hA13 pz13_0 pz13_1 => ⟨rfl, ?_⟩))
  refine v_back (c := (c + c8)) (s := (s + s8)) H (show vsub V202_Row_thisfinderdataa V54 [] = true by decide +kernel) H' O' (fun F13 A13 H O' eF13 eA13 => ?_)
  have O := OUT_trans O O'
  -- PackHouse.maskedSum
  have hma := pz13_1
  refine w_i2l rfl (show inr (z13) by omega) ?_
  refine Ew_of (pc' := 46) (fun _ => x_iconst rfl) ?_
  refine v_inv H (o := 1) rfl rfl rfl rfl rfl rfl (by rfl) (C160 (D := pul [1, 2] D8) (N := pul [1, 2] N8) (HW_sub H (VS_of (show vsub V202_Row_thisfinderdataa V160 [1, 2] = true by decide +kernel))) (((((show F13 1 0 = F12 1 0 from (eF13 1 0))).trans ((show F12 1 0 = F8 1 0 from (eF12 1 0))))).trans (pf8_1_0)) (m8_1) ((congrArg (fun q : Nat => (q : Int)) (eN8 2)).trans em8_1) (y8_0_1) (((((show F13 1 1 = F12 1 1 from (eF13 1 1))).trans ((show F12 1 1 = F8 1 1 from (eF12 1 1)))).trans ((eF8 1 1).trans ey8_0_1))) (y8_0_2) (((((show F13 1 2 = F12 1 2 from (eF13 1 2))).trans ((show F12 1 2 = F8 1 2 from (eF12 1 2)))).trans ((eF8 1 2).trans ey8_0_2))) (w8_1) (((show A13 2 = A12 2 from (eA13 2))).trans (((show A12 2 = A8 2 from (eA12 2))).trans ((eA8 2).trans ew8_1))) (show inrJ (z13) by omega) (show inr (4) by omega) (show 0 ≤ (y8_0_1) ∧ (y8_0_1) ≤ (m8_1) ∧ (m8_1) ≤ 65536 by omega) (show 0 ≤ (4) ∧ (4) ≤ 8 by omega) (fun σ14 D14' N14' F14' A14' c14 s14 H' O' hD14 hN14 hS14 hA14 pm14_1 m14_1 em14_1 y14_0_1 ey14_0_1 y14_0_2 ey14_0_2 w14_1 ew14_1 pz14_0 pz14_1 pz14_2 => ⟨rfl, ?_⟩))
  refine v_backM (c := (c + c8)) (s := (s + s8)) H (show vsub V202_Row_thisfinderdataa V160 [1, 2] = true by decide +kernel) H' O' hD14 (show vmov V202_Row_thisfinderdataa [1, 2] [1] = true by decide +kernel) (fun D14 N14 F14 A14 H O' eD14 eN14 eF14 eA14 => ?_)
  have O := OUT_trans O O'
  -- Row.addNumber
  have pf14_0_1 : F14 0 1 = (D14 3 : Int) := ((show F14 0 1 = F13 0 1 from (eF14 0 1))).trans ((((((show F13 0 1 = F12 0 1 from (eF13 0 1))).trans ((show F12 0 1 = F8 0 1 from (eF12 0 1))))).trans (pf8_0_1)).trans (congrArg (fun q : Nat => (q : Int)) ((show D14 3 = D8 3 from (eD14 3))).symm))
  have pf14_1_0 : F14 1 0 = (D14 2 : Int) := (eF14 1 0).trans (pm14_1.trans (congrArg (fun q : Nat => (q : Int)) (eD14 2).symm))
  have pf14_3_0 : F14 3 0 = (D14 4 : Int) := ((show F14 3 0 = F13 3 0 from (eF14 3 0))).trans ((((((show F13 3 0 = F12 3 0 from (eF13 3 0))).trans ((show F12 3 0 = F8 3 0 from (eF12 3 0))))).trans (pf8_3_0)).trans (congrArg (fun q : Nat => (q : Int)) ((show D14 4 = D8 4 from (eD14 4))).symm))
  have pf14_4_0 : F14 4 0 = (D14 5 : Int) := ((show F14 4 0 = F13 4 0 from (eF14 4 0))).trans ((((((show F13 4 0 = F12 4 0 from (eF13 4 0))).trans ((show F12 4 0 = F8 4 0 from (eF12 4 0))))).trans (pf8_4_0)).trans (congrArg (fun q : Nat => (q : Int)) ((show D14 5 = D8 5 from (eD14 5))).symm))
  have r15 : (0 : Int) ≤ m14_1 ∧ m14_1 ≤ 1000000 := by have h1 := H.nle 2 (by decide); have h2 : (N14 2 : Int) = m14_1 := (congrArg (fun q : Nat => (q : Int)) (eN14 2)).trans em14_1; omega
  have r16 : (-2147483648 : Int) ≤ y14_0_1 ∧ y14_0_1 ≤ 2147483647 := by have h1 : (-2147483648 : Int) ≤ F14 1 1 ∧ F14 1 1 ≤ 2147483647 := H.krg 1 1 (by decide); rw [show F14 1 1 = y14_0_1 from ((eF14 1 1).trans ey14_0_1)] at h1; exact h1
  have r17 : (0 : Int) ≤ y14_0_2 ∧ y14_0_2 ≤ 1 := by have h1 : (0 : Int) ≤ F14 1 2 ∧ F14 1 2 ≤ 1 := H.krg 1 2 (by decide); rw [show F14 1 2 = y14_0_2 from ((eF14 1 2).trans ey14_0_2)] at h1; exact h1
  have h2_ := pz14_2
  have hms : z13 = MSK (PLS (sc ((w5)) 0 ((u4_1)))) := by rw [hma, hpo, POL_L (b := (u4_1)) (by omega) (by omega)]; rw [MSK_e]; rfl
  rw [hms] at h2_
  refine Ew_of (pc' := 50) (fun _ => x_aload_n rfl (rk_o (rfl) rfl rfl)) ?_
  refine Ew_of (pc' := 51) (fun _ => x_aload_n rfl (rk_o (rfl) rfl rfl)) ?_
  refine Ew_stk (show ([.ref (D 4), .ref (D 1)] : List Value) = [.ref (D14 4), .ref (D14 1)] by rw [show D14 1 = D 1 from (((show D14 1 = D8 1 from (eD14 1).trans (hD14 0 rfl))).trans ((show D8 1 = D 1 from (eD8 1).trans (hD8 0 rfl)))), show D14 4 = D 4 from (((show D14 4 = D8 4 from (eD14 4))).trans ((show D8 4 = D 4 from (eD8 4))))]) ?_
  refine v_g H (o := 4) (v := .ref (D14 5)) rfl rfl rfl rfl rfl (vrf (pf14_4_0)) ?_
  refine Ew_of (pc' := 55) (fun _ => x_iconst rfl) ?_
  refine Ew_of (pc' := 56) (fun _ => x_aload_n rfl (rk_o (rfl) rfl rfl)) ?_
  refine Ew_stk (show ([.ref (D 4), I (0), .ref (D14 5), .ref (D14 1)] : List Value) = [.ref (D14 4), I (0), .ref (D14 5), .ref (D14 1)] by rw [show D14 4 = D 4 from (((show D14 4 = D8 4 from (eD14 4))).trans ((show D8 4 = D 4 from (eD8 4))))]) ?_
  refine v_g H (o := 4) (v := I (u4_1)) rfl rfl rfl rfl rfl (congrArg (fun z : Int => I z) (((((((show F14 4 1 = F13 4 1 from (eF14 4 1))).trans ((show F13 4 1 = F12 4 1 from (eF13 4 1)))).trans ((show F12 4 1 = F8 4 1 from (eF12 4 1)))).trans ((show F8 4 1 = F 4 1 from (eF8 4 1)))).trans (eu4_1)) : F14 4 1 = u4_1)) ?_
  refine v_inv H (o := 1) rfl rfl rfl rfl rfl rfl (by rfl) (C161_Br (D := pul [1, 5, 2] D14) (N := pul [1, 5, 2] N14) (HW_sub H (VS_of (show vsub V202_Row_thisfinderdataa V161_Br [1, 5, 2] = true by decide +kernel))) (pf14_1_0) (n5) ((congrArg (fun q : Nat => (q : Int)) (show N14 5 = N8 5 from (eN14 5))).trans ((congrArg (fun q : Nat => (q : Int)) (show N8 5 = N 5 from (eN8 5))).trans (en5))) (m14_1) ((congrArg (fun q : Nat => (q : Int)) (eN14 2)).trans em14_1) (y14_0_1) (((eF14 1 1).trans ey14_0_1)) (y14_0_2) (((eF14 1 2).trans ey14_0_2)) (w5) (((show A14 5 = A13 5 from (eA14 5))).trans (((show A13 5 = A12 5 from (eA13 5))).trans (((show A12 5 = A8 5 from (eA12 5).trans (funext (hA12 0 rfl)))).trans (((show A8 5 = A 5 from (eA8 5))).trans (ew5))))) (w14_1) ((eA14 2).trans ew14_1) (show inr (0) by omega) (show inr (u4_1) by omega) (show 0 ≤ (y14_0_1) ∧ (y14_0_1) ≤ (m14_1) ∧ (m14_1) ≤ 65536 by omega) (show (u4_1) < 0 ∨ 0 ≤ (0) ∧ (0) + (u4_1) ≤ (n5) by omega) (fun σ18 D18' N18' F18' A18' c18 s18 H' O' hD18 hN18 hS18 hA18 pm18_2 m18_2 em18_2 y18_0_1 ey18_0_1 y18_0_2 ey18_0_2 w18_2 ew18_2 pz18_0 pz18_1 pz18_2 pz18_3 => ⟨rfl, ?_⟩))
  refine v_backM (c := ((c + c8) + c14)) (s := ((s + s8) + s14)) H (show vsub V202_Row_thisfinderdataa V161_Br [1, 5, 2] = true by decide +kernel) H' O' hD18 (show vmov V202_Row_thisfinderdataa [1, 5, 2] [2] = true by decide +kernel) (fun D18 N18 F18 A18 H O' eD18 eN18 eF18 eA18 => ?_)
  have O := OUT_trans O O'
  -- Row.addPart
  have pf18_0_1 : F18 0 1 = (D18 3 : Int) := ((show F18 0 1 = F14 0 1 from (eF18 0 1))).trans ((pf14_0_1).trans (congrArg (fun q : Nat => (q : Int)) ((show D18 3 = D14 3 from (eD18 3))).symm))
  have pf18_1_0 : F18 1 0 = (D18 2 : Int) := (eF18 1 0).trans (pm18_2.trans (congrArg (fun q : Nat => (q : Int)) (eD18 2).symm))
  have pf18_3_0 : F18 3 0 = (D18 4 : Int) := ((show F18 3 0 = F14 3 0 from (eF18 3 0))).trans ((pf14_3_0).trans (congrArg (fun q : Nat => (q : Int)) ((show D18 4 = D14 4 from (eD18 4))).symm))
  have pf18_4_0 : F18 4 0 = (D18 5 : Int) := ((show F18 4 0 = F14 4 0 from (eF18 4 0))).trans ((pf14_4_0).trans (congrArg (fun q : Nat => (q : Int)) ((show D18 5 = D14 5 from (eD18 5).trans (hD18 1 rfl))).symm))
  have r19 : (0 : Int) ≤ m18_2 ∧ m18_2 ≤ 1000000 := by have h1 := H.nle 2 (by decide); have h2 : (N18 2 : Int) = m18_2 := (congrArg (fun q : Nat => (q : Int)) (eN18 2)).trans em18_2; omega
  have r20 : (-2147483648 : Int) ≤ y18_0_1 ∧ y18_0_1 ≤ 2147483647 := by have h1 : (-2147483648 : Int) ≤ F18 1 1 ∧ F18 1 1 ≤ 2147483647 := H.krg 1 1 (by decide); rw [show F18 1 1 = y18_0_1 from ((eF18 1 1).trans ey18_0_1)] at h1; exact h1
  have r21 : (0 : Int) ≤ y18_0_2 ∧ y18_0_2 ≤ 1 := by have h1 : (0 : Int) ≤ F18 1 2 ∧ F18 1 2 ≤ 1 := H.krg 1 2 (by decide); rw [show F18 1 2 = y18_0_2 from ((eF18 1 2).trans ey18_0_2)] at h1; exact h1
  have : RAP ((u1_2)) ((w2)) ((u1_1)) ((y18_0_2)) ((w18_2)) ((y18_0_1)) (TGk ((a3)) (sc ((w5)) 0 ((u4_1))) (sc ((w5)) 0 ((u4_1)))) := RAP_c (RAP_trans h1_ (RAP_trans h2_ (pz18_3 (by omega)))) (by unfold TGk; rw [sc_lenI (by omega), show (u4_1) - 0 = (u4_1) by omega, Int.zero_add])
  exact w_ret rfl (k _ _ _ _ _ _ _ H O (SD_trans (SD_trans (SD_trans (SD_refl) (SD_glu (ι := [1, 2]) hD8 eD8 (by decide +kernel)) (any_subA (l' := [2]) rfl)) (SD_glu (ι := [1, 2]) hD14 eD14 (by decide +kernel)) (any_subA (l' := [2]) rfl)) (SD_glu (ι := [1, 5, 2]) hD18 eD18 (by decide +kernel)) (any_subA (l' := [2]) rfl)) (SD_trans (SD_trans (SD_trans (SD_refl) (SD_glu (ι := [1, 2]) hN8 eN8 (by decide +kernel)) (any_subA (l' := [2]) rfl)) (SD_glu (ι := [1, 2]) hN14 eN14 (by decide +kernel)) (any_subA (l' := [2]) rfl)) (SD_glu (ι := [1, 5, 2]) hN18 eN18 (by decide +kernel)) (any_subA (l' := [2]) rfl)) (SF_trans (SF_trans (SF_trans (SF_trans (SF_trans (SF_refl) (SF_glu (ι := [1, 2]) hS8 eF8 (by decide +kernel)) (any_sub (l' := [(1, 0), (1, 1), (1, 2)]) rfl)) (SF_glu (ι := [5]) hS12 eF12 (by decide +kernel)) (any_sub (l' := []) rfl)) (SF_glu (ι := []) hS13 eF13 (by decide +kernel)) (any_sub (l' := []) rfl)) (SF_glu (ι := [1, 2]) hS14 eF14 (by decide +kernel)) (any_sub (l' := [(1, 0), (1, 1), (1, 2)]) rfl)) (SF_glu (ι := [1, 5, 2]) hS18 eF18 (by decide +kernel)) (any_sub (l' := [(1, 0), (1, 1), (1, 2)]) rfl)) (SA_trans (SA_trans (SA_trans (SA_trans (SA_trans (SA_refl) (SA_glu (ι := [1, 2]) hA8 eA8 (by decide +kernel)) (any_subA (l' := [2]) rfl)) (SA_glu (ι := [5]) hA12 eA12 (by decide +kernel)) (any_subA (l' := []) rfl)) (SA_glu (ι := []) hA13 eA13 (by decide +kernel)) (any_subA (l' := []) rfl)) (SA_glu (ι := [1, 2]) hA14 eA14 (by decide +kernel)) (any_subA (l' := [2]) rfl)) (SA_glu (ι := [1, 5, 2]) hA18 eA18 (by decide +kernel)) (any_subA (l' := [2]) rfl)) (pf18_1_0) (m18_2) ((congrArg (fun q : Nat => (q : Int)) (eN18 2)).trans em18_2) (y18_0_1) (((eF18 1 1).trans ey18_0_1)) (y18_0_2) (((eF18 1 2).trans ey18_0_2)) (w18_2) ((eA18 2).trans ew18_2) (show 0 ≤ (y18_0_1) ∧ (y18_0_1) ≤ (m18_2) ∧ (m18_2) ≤ 65536 by omega) (show RAP ((u1_2)) ((w2)) ((u1_1)) ((y18_0_2)) ((w18_2)) ((y18_0_1)) (TGk (a3) (sc ((w5)) 0 ((u4_1))) (sc ((w5)) 0 ((u4_1)))) by assumption))
