abbrev V198 : vV := []
/-- Tags.isShort:  -/
theorem C198 {σE : rS} {D N : Nat → Nat} {F : hF} {A : hA} {d c s : Nat} {Q : wQ} (H : HW V198 σE D N F A) {a1 a2 : Int} (h0 : inr (a1)) (h1 : inr (a2)) (h2 : (a2) = 0 ∨ (a2) = 1) (k : ∀ (z : Int) (σ : rS) (F' : hF) (A' : hA), HW V198 σ D N F' A' → OUT (V198).length D N σE c s D N σ c s → SF [] F F' → SA [] A A' → ((z) = 0 ∨ (z) = 1) → Q (some (I z)) σ c s) : Ew 198 (d + 0) 0 (rargs 0 [I a1, I a2]) [] σE c s Q := by
  have O := OUT_refl (n := (V198).length) (D := D) (N := N) (σ := σE) (c := c) (s := s)
  have HE := H
  refine Ew_of (pc' := 1) (fun _ => x_iload_n rfl rfl) ?_
  refine w_ifeq (t := 19) rfl rfl (show inr (a2) by omega) (fun b1 => ?_) (fun b1 => ?_)
  · refine Ew_of (pc' := 20) (fun _ => x_iconst rfl) ?_
    exact w_ireturn rfl (k (0) _ _ _ H O (SF_refl) (SA_refl) (show (0) = 0 ∨ (0) = 1 by omega))
  · refine Ew_of (pc' := 5) (fun _ => x_iload_n rfl rfl) ?_
    refine Ew_of (pc' := 6) (fun _ => x_iconst rfl) ?_
    refine w_icmplt (t := 19) rfl rfl (show inr (a1) by omega) (show inr (4) by omega) (fun b2 => ?_) (fun b2 => ?_)
    · refine Ew_of (pc' := 20) (fun _ => x_iconst rfl) ?_
      exact w_ireturn rfl (k (0) _ _ _ H O (SF_refl) (SA_refl) (show (0) = 0 ∨ (0) = 1 by omega))
    · refine Ew_of (pc' := 10) (fun _ => x_iload_n rfl rfl) ?_
      refine Ew_of (pc' := 12) (fun _ => x_bipush (z := 11) rfl (by decide)) ?_
      refine w_icmpgt (t := 19) rfl rfl (show inr (a1) by omega) (show inr (11) by omega) (fun b3 => ?_) (fun b3 => ?_)
      · refine Ew_of (pc' := 20) (fun _ => x_iconst rfl) ?_
        exact w_ireturn rfl (k (0) _ _ _ H O (SF_refl) (SA_refl) (show (0) = 0 ∨ (0) = 1 by omega))
      · refine Ew_of (pc' := 16) (fun _ => x_iconst rfl) ?_
        refine Ew_of (pc' := 20) (fun _ => x_goto rfl rfl) ?_
        exact w_ireturn rfl (k (1) _ _ _ H O (SF_refl) (SA_refl) (show (1) = 0 ∨ (1) = 1 by omega))
abbrev V200 : vV := []
/-- Tags.fewest:  -/
theorem C200 {σE : rS} {D N : Nat → Nat} {F : hF} {A : hA} {d c s : Nat} {Q : wQ} (H : HW V200 σE D N F A) {a1 a2 : Int} (h0 : inr (a1)) (h1 : inr (a2)) (h2 : (a2) = 0 ∨ (a2) = 1) (h3 : 0 ≤ (a1) ∧ (a1) ≤ 65536) (k : ∀ (z : Int) (σ : rS) (F' : hF) (A' : hA), HW V200 σ D N F' A' → OUT (V200).length D N σE c s D N σ c s → SF [] F F' → SA [] A A' → (inr (z)) → (0 ≤ (z) ∧ (z) ≤ 4000) → Q (some (I z)) σ c s) : Ew 200 (d + 0) 0 (rargs 0 [I a1, I a2]) [] σE c s Q := by
  have O := OUT_refl (n := (V200).length) (D := D) (N := N) (σ := σE) (c := c) (s := s)
  have HE := H
  refine Ew_of (pc' := 1) (fun _ => x_iconst rfl) ?_
  refine Ew_of (pc' := 2) (fun _ => x_iload_n rfl rfl) ?_
  refine Ew_of (pc' := 4) (fun _ => x_bipush (z := 63) rfl (by decide)) ?_
  refine w_iadd rfl ?_
  refine Ew_of (pc' := 7) (fun _ => x_bipush (z := 64) rfl (by decide)) ?_
  refine w_idiv rfl (show inr ((a1 + 63)) ∧ 0 ≤ (a1 + 63) by omega) (show inr (64) ∧ 0 < 64 by omega) ?_
  refine w_imul rfl ?_
  refine Ew_of (pc' := 10) (fun _ => x_istore_n rfl) ?_
  refine Ew_of (pc' := 11) (fun _ => x_iload_n rfl (rk_o (rfl) rfl rfl)) ?_
  refine w_ifeq (t := 19) rfl rfl (show inr (a2) by omega) (fun b1 => ?_) (fun b1 => ?_)
  · refine Ew_of (pc' := 20) (fun _ => x_iload_n rfl rk_s) ?_
    exact w_ireturn rfl (k ((3 * ((a1 + 63) / 64))) _ _ _ H O (SF_refl) (SA_refl) (show inr ((3 * ((a1 + 63) / 64))) by omega) (show 0 ≤ ((3 * ((a1 + 63) / 64))) ∧ ((3 * ((a1 + 63) / 64))) ≤ 4000 by omega))
  · refine Ew_of (pc' := 15) (fun _ => x_iload_n rfl (rk_o (rfl) rfl rfl)) ?_
    refine Ew_of (pc' := 16) (fun _ => x_iconst rfl) ?_
    refine w_icmpge (t := 21) rfl rfl (show inr (a1) by omega) (show inr (4) by omega) (fun b2 => ?_) (fun b2 => ?_)
    · refine Ew_of (pc' := 22) (fun _ => x_iload_n rfl rk_s) ?_
      refine Ew_of (pc' := 23) (fun _ => x_iconst rfl) ?_
      refine Ew_of (pc' := 24) (fun _ => x_iconst rfl) ?_
      refine Ew_of (pc' := 25) (fun _ => x_iconst rfl) ?_
      refine Ew_of (pc' := 26) (fun _ => x_iload_n rfl (rk_o (rfl) rfl rfl)) ?_
      refine Ew_of (pc' := 28) (fun _ => x_bipush (z := 11) rfl (by decide)) ?_
      refine w_isub rfl ?_
      refine v_max rfl rfl (show inr (0) by omega) (show inr ((a1 - 11)) by omega) (fun z3 gz3 => ?_)
      refine Ew_of (pc' := 34) (fun _ => x_bipush (z := 63) rfl (by decide)) ?_
      refine w_iadd rfl ?_
      refine Ew_of (pc' := 37) (fun _ => x_bipush (z := 64) rfl (by decide)) ?_
      refine w_idiv rfl (show inr ((z3 + 63)) ∧ 0 ≤ (z3 + 63) by omega) (show inr (64) ∧ 0 < 64 by omega) ?_
      refine w_imul rfl ?_
      refine w_iadd rfl ?_
      refine v_min rfl rfl (show inr ((3 * ((a1 + 63) / 64))) by omega) (show inr ((2 + (3 * ((z3 + 63) / 64)))) by omega) (fun z4 gz4 => ?_)
      exact w_ireturn rfl (k (z4) _ _ _ H O (SF_refl) (SA_refl) (show inr (z4) by omega) (show 0 ≤ (z4) ∧ (z4) ≤ 4000 by omega))
    · refine Ew_of (pc' := 20) (fun _ => x_iload_n rfl rk_s) ?_
      exact w_ireturn rfl (k ((3 * ((a1 + 63) / 64))) _ _ _ H O (SF_refl) (SA_refl) (show inr ((3 * ((a1 + 63) / 64))) by omega) (show 0 ≤ ((3 * ((a1 + 63) / 64))) ∧ ((3 * ((a1 + 63) / 64))) ≤ 4000 by omega))
abbrev V199 : vV := []
/-- Tags.firstCopy:  -/
theorem C199 {σE : rS} {D N : Nat → Nat} {F : hF} {A : hA} {d c s : Nat} {Q : wQ} (H : HW V199 σE D N F A) {a1 a2 : Int} (h0 : inr (a1)) (h1 : inr (a2)) (h2 : (a2) = 0 ∨ (a2) = 1) (h3 : 1 ≤ (a1) ∧ (a1) ≤ 65536) (k : ∀ (z : Int) (σ : rS) (F' : hF) (A' : hA), HW V199 σ D N F' A' → OUT (V199).length D N σE c s D N σ c s → SF [] F F' → SA [] A A' → (inr (z)) → (1 ≤ (z) ∧ (z) ≤ (a1)) → Q (some (I z)) σ c s) : Ew 199 (d + 1) 0 (rargs 0 [I a1, I a2]) [] σE c s Q := by
  have O := OUT_refl (n := (V199).length) (D := D) (N := N) (σ := σE) (c := c) (s := s)
  have HE := H
  refine Ew_of (pc' := 1) (fun _ => x_iload_n rfl rfl) ?_
  refine Ew_of (pc' := 2) (fun _ => x_iload_n rfl rfl) ?_
  refine w_stat24 rfl rfl (by rfl) (C200 (D := pul [] D) (N := pul [] N) (HW_sub H (VS_of (show vsub V199 V200 [] = true by decide +kernel))) (show inr (a1) by omega) (show inr (a2) by omega) (show (a2) = 0 ∨ (a2) = 1 by omega) (show 0 ≤ (a1) ∧ (a1) ≤ 65536 by omega) (fun z1 σ1 F1' A1' H' O' hS1 hA1 pz1_0 pz1_1 => ⟨rfl, ?_⟩))
  refine v_back (c := c) (s := s) H (show vsub V199 V200 [] = true by decide +kernel) H' O' (fun F1 A1 H O' eF1 eA1 => ?_)
  have O := OUT_trans O O'
  -- Tags.fewest
  refine Ew_of (pc' := 6) (fun _ => x_istore_n rfl) ?_
  refine Ew_of (pc' := 8) (fun _ => x_bipush (z := 64) rfl (by decide)) ?_
  refine Ew_of (pc' := 9) (fun _ => x_iload_n rfl (rk_o (rfl) rfl rfl)) ?_
  refine v_min rfl rfl (show inr (64) by omega) (show inr (a1) by omega) (fun z2 gz2 => ?_)
  refine Ew_of (pc' := 13) (fun _ => x_istore_n rfl) ?_
  suffices hl13 : ∀ (m : Nat), ∀ (ls : rO) (σ : rS) (F_13 : hF) (A_13 : hA) (x13_3 : Int), rlook ls 0 = some (I (a1)) → rlook ls 1 = some (I (a2)) → rlook ls 2 = some (I (z1)) → rlook ls 3 = some (I (x13_3)) → HW V199 σ D N F_13 A_13 → OUT (V199).length D N σE c s D N σ c s → SF [] F1 F_13 → SA [] A1 A_13 → (inr (x13_3)) → ((x13_3) ≤ (z2)) → ((z2) ≤ (x13_3) ∨ (1) ≤ (x13_3)) → ((x13_3) - (1)).toNat = m → Ew 199 (d + 1) 13 ls [] σ c s Q from
    hl13 _ _ _ _ _ (z2) (rk_o (rk_o (rfl) rfl rfl) rfl rfl) (rk_o (rk_o (rfl) rfl rfl) rfl rfl) (rk_o (rk_s) rfl rfl) (rk_s) H O (SF_refl) (SA_refl)     (show inr (z2) by omega) (show (z2) ≤ (z2) by omega) (show (z2) ≤ (z2) ∨ (1) ≤ (z2) by omega) rfl
  as_aux_lemma =>
  intro m
  induction m using Nat.strongRecOn with
  | _ m ih13 =>
    intro ls σ F_13 A_13 x13_3 l13_0 l13_1 l13_2 l13_3 H O hS_13 hA_13     j13_0 j13_1 j13_2 hm13
    refine Ew_of (pc' := 14) (fun _ => x_iload_n rfl l13_3) ?_
    refine Ew_of (pc' := 15) (fun _ => x_iconst rfl) ?_
    refine w_icmple (t := 51) rfl rfl (show inr (x13_3) by omega) (show inr (1) by omega) (fun b3 => ?_) (fun b3 => ?_)
    · refine Ew_of (pc' := 52) (fun _ => x_iconst rfl) ?_
      exact w_ireturn rfl (k (1) _ _ _ H O (SF_trans (SF_trans (SF_refl) (SF_glu (ι := []) hS1 eF1 (by decide +kernel)) (any_sub (l' := []) rfl)) hS_13 (any_sub rfl)) (SA_trans (SA_trans (SA_refl) (SA_glu (ι := []) hA1 eA1 (by decide +kernel)) (any_subA (l' := []) rfl)) hA_13 (any_subA rfl)) (show inr (1) by omega) (show 1 ≤ (1) ∧ (1) ≤ a1 by omega))
    · have hc31 : ∀ (tc31_0 : Int), ∀ (ls : rO) (σ : rS) (F_c31 : hF) (A_c31 : hA) , rlook ls 0 = some (I (a1)) → rlook ls 1 = some (I (a2)) → rlook ls 2 = some (I (z1)) → rlook ls 3 = some (I (x13_3)) → HW V199 σ D N F_c31 A_c31 → OUT (V199).length D N σE c s D N σ c s → SF [] F_13 F_c31 → SA [] A_13 A_c31 → (inr (tc31_0)) → ((tc31_0) = 2 ∨ (tc31_0) = 3) → Ew 199 (d + 1) 31 ls [I (tc31_0)] σ c s Q := by
       as_aux_lemma =>
        intro tc31_0 ls σ F_c31 A_c31  lc31_0 lc31_1 lc31_2 lc31_3 H O hS_c31 hA_c31     jc31_0 jc31_1
        refine Ew_of (pc' := 32) (fun _ => x_iload_n rfl lc31_0) ?_
        refine Ew_of (pc' := 33) (fun _ => x_iload_n rfl lc31_3) ?_
        refine w_isub rfl ?_
        refine Ew_of (pc' := 35) (fun _ => x_iload_n rfl lc31_1) ?_
        refine w_stat24 rfl rfl (by rfl) (C200 (D := pul [] D) (N := pul [] N) (HW_sub H (VS_of (show vsub V199 V200 [] = true by decide +kernel))) (show inr ((a1 - x13_3)) by omega) (show inr (a2) by omega) (show (a2) = 0 ∨ (a2) = 1 by omega) (show 0 ≤ ((a1 - x13_3)) ∧ ((a1 - x13_3)) ≤ 65536 by omega) (fun z4 σ4 F4' A4' H' O' hS4 hA4 pz4_0 pz4_1 => ⟨rfl, ?_⟩))
        refine v_back (c := c) (s := s) H (show vsub V199 V200 [] = true by decide +kernel) H' O' (fun F4 A4 H O' eF4 eA4 => ?_)
        have O := OUT_trans O O'
        -- Tags.fewest
        refine w_iadd rfl ?_
        refine Ew_of (pc' := 40) (fun _ => x_iload_n rfl lc31_2) ?_
        refine w_icmpne (t := 45) rfl rfl (show inr ((tc31_0 + z4)) by omega) (show inr (z1) by omega) (fun b5 => ?_) (fun b5 => ?_)
        · refine Ew_of (pc' := 48) (fun _ => x_iinc (len := 3) rfl (lc31_3)) ?_
          refine Ew_of (pc' := 13) (fun _ => x_goto rfl rfl) ?_
          exact ih13 _ (by omega) _ _ _ _ ((x13_3 + (-1))) (rk_o (lc31_0) rfl rfl) (rk_o (lc31_1) rfl rfl) (rk_o (lc31_2) rfl rfl) (rk_s) H O (SF_trans (SF_trans (hS_13) hS_c31 (any_sub rfl)) (SF_glu (ι := []) hS4 eF4 (by decide +kernel)) (any_sub (l' := []) rfl)) (SA_trans (SA_trans (hA_13) hA_c31 (any_subA rfl)) (SA_glu (ι := []) hA4 eA4 (by decide +kernel)) (any_subA (l' := []) rfl))     (show inr ((x13_3 + (-1))) by omega) (show ((x13_3 + (-1))) ≤ (z2) by omega) (show (z2) ≤ ((x13_3 + (-1))) ∨ (1) ≤ ((x13_3 + (-1))) by omega) rfl
        · refine Ew_of (pc' := 44) (fun _ => x_iload_n rfl lc31_3) ?_
          exact w_ireturn rfl (k (x13_3) _ _ _ H O (SF_trans (SF_trans (SF_trans (SF_trans (SF_refl) (SF_glu (ι := []) hS1 eF1 (by decide +kernel)) (any_sub (l' := []) rfl)) hS_13 (any_sub rfl)) hS_c31 (any_sub rfl)) (SF_glu (ι := []) hS4 eF4 (by decide +kernel)) (any_sub (l' := []) rfl)) (SA_trans (SA_trans (SA_trans (SA_trans (SA_refl) (SA_glu (ι := []) hA1 eA1 (by decide +kernel)) (any_subA (l' := []) rfl)) hA_13 (any_subA rfl)) hA_c31 (any_subA rfl)) (SA_glu (ι := []) hA4 eA4 (by decide +kernel)) (any_subA (l' := []) rfl)) (show inr (x13_3) by omega) (show 1 ≤ (x13_3) ∧ (x13_3) ≤ a1 by omega))
      refine Ew_of (pc' := 19) (fun _ => x_iload_n rfl l13_3) ?_
      refine Ew_of (pc' := 20) (fun _ => x_iload_n rfl l13_1) ?_
      refine w_stat24 rfl rfl (by rfl) (C198 (D := pul [] D) (N := pul [] N) (HW_sub H (VS_of (show vsub V199 V198 [] = true by decide +kernel))) (show inr (x13_3) by omega) (show inr (a2) by omega) (show (a2) = 0 ∨ (a2) = 1 by omega) (fun z6 σ6 F6' A6' H' O' hS6 hA6 pz6_0 => ⟨rretB rfl pz6_0, ?_⟩))
      refine v_back (c := c) (s := s) H (show vsub V199 V198 [] = true by decide +kernel) H' O' (fun F6 A6 H O' eF6 eA6 => ?_)
      have O := OUT_trans O O'
      -- Tags.isShort
      refine w_ifeq (t := 30) rfl rfl (show inr (z6) by omega) (fun b7 => ?_) (fun b7 => ?_)
      · refine Ew_of (pc' := 31) (fun _ => x_iconst rfl) ?_
        exact hc31 (3) _ _ _ _  (l13_0) (l13_1) (l13_2) (l13_3) H O (SF_trans (SF_refl) (SF_glu (ι := []) hS6 eF6 (by decide +kernel)) (any_sub (l' := []) rfl)) (SA_trans (SA_refl) (SA_glu (ι := []) hA6 eA6 (by decide +kernel)) (any_subA (l' := []) rfl))     (show inr (3) by omega) (show (3) = 2 ∨ (3) = 3 by omega)
      · refine Ew_of (pc' := 27) (fun _ => x_iconst rfl) ?_
        refine Ew_of (pc' := 31) (fun _ => x_goto rfl rfl) ?_
        exact hc31 (2) _ _ _ _  (l13_0) (l13_1) (l13_2) (l13_3) H O (SF_trans (SF_refl) (SF_glu (ι := []) hS6 eF6 (by decide +kernel)) (any_sub (l' := []) rfl)) (SA_trans (SA_refl) (SA_glu (ι := []) hA6 eA6 (by decide +kernel)) (any_subA (l' := []) rfl))     (show inr (2) by omega) (show (2) = 2 ∨ (2) = 3 by omega)
abbrev V195_Row : vV := [(0, 7, [(4, 0), (0, 0), (1, 0), (0, 0), (0, 0)]), (1, 0, [])]
/-- Tags.packLength: #1, #1.bytes -/
theorem C195_Row {σE : rS} {D N : Nat → Nat} {F : hF} {A : hA} {d c s : Nat} {Q : wQ} (H : HW V195_Row σE D N F A) {a2 : Int} (pf1 : F 0 0 = (D 1 : Int)) (n1 : Int) (en1 : (N 1 : Int) = n1) (u0_1 : Int) (eu0_1 : F 0 1 = u0_1) (h0 : inr (a2)) (h1 : 0 ≤ (u0_1) ∧ (u0_1) ≤ (n1) ∧ (n1) ≤ 65536) (k : ∀ (σ : rS) (D' N' : Nat → Nat) (F' : hF) (A' : hA) (c' s' : Nat), HW V195_Row σ D' N' F' A' → OUT (V195_Row).length D N σE c s D' N' σ c' s' → SD [1] D D' → SD [1] N N' → SF [(0, 0), (0, 1), (0, 2)] F F' → SA [1] A A' → F' 0 0 = (D' 1 : Int) → ∀ m1 : Int, (N' 1 : Int) = m1 → ∀ y0_1 : Int, F' 0 1 = y0_1 → (0 ≤ (y0_1) ∧ (y0_1) ≤ (m1) ∧ (m1) ≤ 65536) → Q none σ c' s') : Ew 195 (d + 3) 0 (rargs 0 [.ref (D 0), I a2]) [] σE c s Q := by
  have O := OUT_refl (n := (V195_Row).length) (D := D) (N := N) (σ := σE) (c := c) (s := s)
  have HE := H
  have r1 : (-2147483648 : Int) ≤ u0_1 ∧ u0_1 ≤ 2147483647 := by have h1 : (-2147483648 : Int) ≤ F 0 1 ∧ F 0 1 ≤ 2147483647 := H.krg 0 1 (by decide); rw [show F 0 1 = u0_1 from (eu0_1)] at h1; exact h1
  have r2 : (0 : Int) ≤ n1 ∧ n1 ≤ 1000000 := by have h1 := H.nle 1 (by decide); have h2 : (N 1 : Int) = n1 := en1; omega
  refine Ew_of (pc' := 1) (fun _ => x_iload_n rfl rfl) ?_
  refine Ew_of (pc' := 2) (fun _ => x_istore_n rfl) ?_
  refine Ew_of (pc' := 3) (fun _ => x_iconst rfl) ?_
  refine Ew_of (pc' := 4) (fun _ => x_istore_n rfl) ?_
  suffices hl4 : ∀ (m : Nat), ∀ (ls : rO) (σ : rS) (D_4 N_4 : Nat → Nat) (c_4 s_4 : Nat) (F_4 : hF) (A_4 : hA) (x4_2 : Int) (x4_3 : Int), rlook ls 0 = some (.ref (D_4 0)) → rlook ls 2 = some (I (x4_2)) → rlook ls 3 = some (I (x4_3)) → HW V195_Row σ D_4 N_4 F_4 A_4 → OUT (V195_Row).length D N σE c s D_4 N_4 σ c_4 s_4 → SD [1] D D_4 → SD [1] N N_4 → SF [(0, 0), (0, 1), (0, 2)] F F_4 → SA [1] A A_4 → F_4 0 0 = (D_4 1 : Int) → ∀ m4_1 : Int, (N_4 1 : Int) = m4_1 → ∀ y4_0_1 : Int, F_4 0 1 = y4_0_1 → (inr (x4_2)) → (inr (x4_3)) → ((0) ≤ (x4_3)) → ((x4_3) ≤ (0) ∨ (x4_3) ≤ (4)) → (0 ≤ (y4_0_1) ∧ (y4_0_1) ≤ (m4_1) ∧ (m4_1) ≤ 65536) → ((4) - (x4_3)).toNat = m → Ew 195 (d + 3) 4 ls [] σ c_4 s_4 Q from
    hl4 _ _ _ _ _ _ _ _ _ (a2) (0) (rk_o (rk_o (rfl) rfl rfl) rfl rfl) (rk_o (rk_s) rfl rfl) (rk_s) H O (SD_refl) (SD_refl) (SF_refl) (SA_refl) (pf1) (n1) (en1) (u0_1) ((eu0_1))  (show inr (a2) by omega) (show inr (0) by omega) (show (0) ≤ (0) by omega) (show (0) ≤ (0) ∨ (0) ≤ (4) by omega) (show 0 ≤ (u0_1) ∧ (u0_1) ≤ (n1) ∧ (n1) ≤ 65536 by omega) rfl
  as_aux_lemma =>
  intro m
  induction m using Nat.strongRecOn with
  | _ m ih4 =>
    intro ls σ D_4 N_4 c_4 s_4 F_4 A_4 x4_2 x4_3 l4_0 l4_2 l4_3 H O hD_4 hN_4 hS_4 hA_4 pm4_1 m4_1 em4_1 y4_0_1 ey4_0_1  j4_0 j4_1 j4_2 j4_3 j4_4 hm4
    have r3 : (0 : Int) ≤ m4_1 ∧ m4_1 ≤ 1000000 := by have h1 := H.nle 1 (by decide); have h2 : (N_4 1 : Int) = m4_1 := em4_1; omega
    have r4 : (-2147483648 : Int) ≤ y4_0_1 ∧ y4_0_1 ≤ 2147483647 := by have h1 : (-2147483648 : Int) ≤ F_4 0 1 ∧ F_4 0 1 ≤ 2147483647 := H.krg 0 1 (by decide); rw [show F_4 0 1 = y4_0_1 from (ey4_0_1)] at h1; exact h1
    refine Ew_of (pc' := 5) (fun _ => x_iload_n rfl l4_3) ?_
    refine Ew_of (pc' := 6) (fun _ => x_iconst rfl) ?_
    refine w_icmpge (t := 39) rfl rfl (show inr (x4_3) by omega) (show inr (4) by omega) (fun b5 => ?_) (fun b5 => ?_)
    · refine Ew_of (pc' := 40) (fun _ => x_aload_n rfl l4_0) ?_
      refine Ew_of (pc' := 41) (fun _ => x_iload_n rfl l4_2) ?_
      refine v_inv H (o := 0) rfl rfl rfl rfl rfl rfl (by rfl) (C159 (D := pul [0, 1] D_4) (N := pul [0, 1] N_4) (HW_sub H (VS_of (show vsub V195_Row V159 [0, 1] = true by decide +kernel))) (pm4_1) (m4_1) (em4_1) (y4_0_1) ((ey4_0_1)) (show inr (x4_2) by omega) (show 0 ≤ (y4_0_1) ∧ (y4_0_1) ≤ (m4_1) ∧ (m4_1) ≤ 65536 by omega) (fun σ6 D6' N6' F6' A6' c6 s6 H' O' hD6 hN6 hS6 hA6 pm6_1 m6_1 em6_1 y6_0_1 ey6_0_1 pz6_0 pz6_1 pz6_2 => ⟨rfl, ?_⟩))
      refine v_backM (c := c_4) (s := s_4) H (show vsub V195_Row V159 [0, 1] = true by decide +kernel) H' O' hD6 (show vmov V195_Row [0, 1] [1] = true by decide +kernel) (fun D6 N6 F6 A6 H O' eD6 eN6 eF6 eA6 => ?_)
      have O := OUT_trans O O'
      -- Row.add
      have pf6_0_0 : F6 0 0 = (D6 1 : Int) := (eF6 0 0).trans (pm6_1.trans (congrArg (fun q : Nat => (q : Int)) (eD6 1).symm))
      have r7 : (0 : Int) ≤ m6_1 ∧ m6_1 ≤ 1000000 := by have h1 := H.nle 1 (by decide); have h2 : (N6 1 : Int) = m6_1 := (congrArg (fun q : Nat => (q : Int)) (eN6 1)).trans em6_1; omega
      have r8 : (-2147483648 : Int) ≤ y6_0_1 ∧ y6_0_1 ≤ 2147483647 := by have h1 : (-2147483648 : Int) ≤ F6 0 1 ∧ F6 0 1 ≤ 2147483647 := H.krg 0 1 (by decide); rw [show F6 0 1 = y6_0_1 from ((eF6 0 1).trans ey6_0_1)] at h1; exact h1
      exact w_ret rfl (k _ _ _ _ _ _ _ H O (SD_trans (SD_trans (SD_refl) hD_4 (any_subA rfl)) (SD_glu (ι := [0, 1]) hD6 eD6 (by decide +kernel)) (any_subA (l' := [1]) rfl)) (SD_trans (SD_trans (SD_refl) hN_4 (any_subA rfl)) (SD_glu (ι := [0, 1]) hN6 eN6 (by decide +kernel)) (any_subA (l' := [1]) rfl)) (SF_trans (SF_trans (SF_refl) hS_4 (any_sub rfl)) (SF_glu (ι := [0, 1]) hS6 eF6 (by decide +kernel)) (any_sub (l' := [(0, 0), (0, 1), (0, 2)]) rfl)) (SA_trans (SA_trans (SA_refl) hA_4 (any_subA rfl)) (SA_glu (ι := [0, 1]) hA6 eA6 (by decide +kernel)) (any_subA (l' := [1]) rfl)) (pf6_0_0) (m6_1) ((congrArg (fun q : Nat => (q : Int)) (eN6 1)).trans em6_1) (y6_0_1) (((eF6 0 1).trans ey6_0_1)) (show 0 ≤ (y6_0_1) ∧ (y6_0_1) ≤ (m6_1) ∧ (m6_1) ≤ 65536 by omega))
    · refine Ew_of (pc' := 10) (fun _ => x_iload_n rfl l4_2) ?_
      refine Ew_of (pc' := 13) (fun _ => x_sipush (z := 128) rfl (by decide)) ?_
      refine w_icmplt (t := 39) rfl rfl (show inr (x4_2) by omega) (show inr (128) by omega) (fun b9 => ?_) (fun b9 => ?_)
      · refine Ew_of (pc' := 40) (fun _ => x_aload_n rfl l4_0) ?_
        refine Ew_of (pc' := 41) (fun _ => x_iload_n rfl l4_2) ?_
        refine v_inv H (o := 0) rfl rfl rfl rfl rfl rfl (by rfl) (C159 (D := pul [0, 1] D_4) (N := pul [0, 1] N_4) (HW_sub H (VS_of (show vsub V195_Row V159 [0, 1] = true by decide +kernel))) (pm4_1) (m4_1) (em4_1) (y4_0_1) ((ey4_0_1)) (show inr (x4_2) by omega) (show 0 ≤ (y4_0_1) ∧ (y4_0_1) ≤ (m4_1) ∧ (m4_1) ≤ 65536 by omega) (fun σ10 D10' N10' F10' A10' c10 s10 H' O' hD10 hN10 hS10 hA10 pm10_1 m10_1 em10_1 y10_0_1 ey10_0_1 pz10_0 pz10_1 pz10_2 => ⟨rfl, ?_⟩))
        refine v_backM (c := c_4) (s := s_4) H (show vsub V195_Row V159 [0, 1] = true by decide +kernel) H' O' hD10 (show vmov V195_Row [0, 1] [1] = true by decide +kernel) (fun D10 N10 F10 A10 H O' eD10 eN10 eF10 eA10 => ?_)
        have O := OUT_trans O O'
        -- Row.add
        have pf10_0_0 : F10 0 0 = (D10 1 : Int) := (eF10 0 0).trans (pm10_1.trans (congrArg (fun q : Nat => (q : Int)) (eD10 1).symm))
        have r11 : (0 : Int) ≤ m10_1 ∧ m10_1 ≤ 1000000 := by have h1 := H.nle 1 (by decide); have h2 : (N10 1 : Int) = m10_1 := (congrArg (fun q : Nat => (q : Int)) (eN10 1)).trans em10_1; omega
        have r12 : (-2147483648 : Int) ≤ y10_0_1 ∧ y10_0_1 ≤ 2147483647 := by have h1 : (-2147483648 : Int) ≤ F10 0 1 ∧ F10 0 1 ≤ 2147483647 := H.krg 0 1 (by decide); rw [show F10 0 1 = y10_0_1 from ((eF10 0 1).trans ey10_0_1)] at h1; exact h1
        exact w_ret rfl (k _ _ _ _ _ _ _ H O (SD_trans (SD_trans (SD_refl) hD_4 (any_subA rfl)) (SD_glu (ι := [0, 1]) hD10 eD10 (by decide +kernel)) (any_subA (l' := [1]) rfl)) (SD_trans (SD_trans (SD_refl) hN_4 (any_subA rfl)) (SD_glu (ι := [0, 1]) hN10 eN10 (by decide +kernel)) (any_subA (l' := [1]) rfl)) (SF_trans (SF_trans (SF_refl) hS_4 (any_sub rfl)) (SF_glu (ι := [0, 1]) hS10 eF10 (by decide +kernel)) (any_sub (l' := [(0, 0), (0, 1), (0, 2)]) rfl)) (SA_trans (SA_trans (SA_refl) hA_4 (any_subA rfl)) (SA_glu (ι := [0, 1]) hA10 eA10 (by decide +kernel)) (any_subA (l' := [1]) rfl)) (pf10_0_0) (m10_1) ((congrArg (fun q : Nat => (q : Int)) (eN10 1)).trans em10_1) (y10_0_1) (((eF10 0 1).trans ey10_0_1)) (show 0 ≤ (y10_0_1) ∧ (y10_0_1) ≤ (m10_1) ∧ (m10_1) ≤ 65536 by omega))
      · refine Ew_of (pc' := 17) (fun _ => x_aload_n rfl l4_0) ?_
        refine Ew_of (pc' := 18) (fun _ => x_iload_n rfl l4_2) ?_
        refine Ew_of (pc' := 20) (fun _ => x_bipush (z := 127) rfl (by decide)) ?_
        refine w_iand rfl (show inr (x4_2) by omega) (show inr (127) by omega) (fun z13 gz13 gaz13 gbz13 => ?_)
        refine Ew_of (pc' := 24) (fun _ => x_sipush (z := 128) rfl (by decide)) ?_
        refine w_ior rfl (fun z14 gz14 => ?_)
        refine v_inv H (o := 0) rfl rfl rfl rfl rfl rfl (by rfl) (C159 (D := pul [0, 1] D_4) (N := pul [0, 1] N_4) (HW_sub H (VS_of (show vsub V195_Row V159 [0, 1] = true by decide +kernel))) (pm4_1) (m4_1) (em4_1) (y4_0_1) ((ey4_0_1)) (show inr (z14) by omega) (show 0 ≤ (y4_0_1) ∧ (y4_0_1) ≤ (m4_1) ∧ (m4_1) ≤ 65536 by omega) (fun σ15 D15' N15' F15' A15' c15 s15 H' O' hD15 hN15 hS15 hA15 pm15_1 m15_1 em15_1 y15_0_1 ey15_0_1 pz15_0 pz15_1 pz15_2 => ⟨rfl, ?_⟩))
        refine v_backM (c := c_4) (s := s_4) H (show vsub V195_Row V159 [0, 1] = true by decide +kernel) H' O' hD15 (show vmov V195_Row [0, 1] [1] = true by decide +kernel) (fun D15 N15 F15 A15 H O' eD15 eN15 eF15 eA15 => ?_)
        have O := OUT_trans O O'
        -- Row.add
        have pf15_0_0 : F15 0 0 = (D15 1 : Int) := (eF15 0 0).trans (pm15_1.trans (congrArg (fun q : Nat => (q : Int)) (eD15 1).symm))
        have r16 : (0 : Int) ≤ m15_1 ∧ m15_1 ≤ 1000000 := by have h1 := H.nle 1 (by decide); have h2 : (N15 1 : Int) = m15_1 := (congrArg (fun q : Nat => (q : Int)) (eN15 1)).trans em15_1; omega
        have r17 : (-2147483648 : Int) ≤ y15_0_1 ∧ y15_0_1 ≤ 2147483647 := by have h1 : (-2147483648 : Int) ≤ F15 0 1 ∧ F15 0 1 ≤ 2147483647 := H.krg 0 1 (by decide); rw [show F15 0 1 = y15_0_1 from ((eF15 0 1).trans ey15_0_1)] at h1; exact h1
        refine Ew_of (pc' := 29) (fun _ => x_iload_n rfl l4_2) ?_
        refine Ew_of (pc' := 31) (fun _ => x_bipush (z := 7) rfl (by decide)) ?_
        refine w_iushrA rfl (fun z18 gz18 => ?_)
        refine Ew_of (pc' := 33) (fun _ => x_istore_n rfl) ?_
        refine Ew_of (pc' := 36) (fun _ => x_iinc (len := 3) rfl (rk_o (l4_3) rfl rfl)) ?_
        refine Ew_of (pc' := 4) (fun _ => x_goto rfl rfl) ?_
        exact ih4 _ (by omega) _ _ _ _ _ _ _ _ (z18) ((x4_3 + 1)) ((rk_o (rk_o (l4_0) rfl rfl) rfl rfl).trans (congrArg (fun q : Nat => some (Value.ref q)) (((show D15 0 = D_4 0 from (eD15 0).trans (hD15 0 rfl)))).symm)) (rk_o (rk_s) rfl rfl) (rk_s) H O (SD_trans (hD_4) (SD_glu (ι := [0, 1]) hD15 eD15 (by decide +kernel)) (any_subA (l' := [1]) rfl)) (SD_trans (hN_4) (SD_glu (ι := [0, 1]) hN15 eN15 (by decide +kernel)) (any_subA (l' := [1]) rfl)) (SF_trans (hS_4) (SF_glu (ι := [0, 1]) hS15 eF15 (by decide +kernel)) (any_sub (l' := [(0, 0), (0, 1), (0, 2)]) rfl)) (SA_trans (hA_4) (SA_glu (ι := [0, 1]) hA15 eA15 (by decide +kernel)) (any_subA (l' := [1]) rfl)) (pf15_0_0) (m15_1) ((congrArg (fun q : Nat => (q : Int)) (eN15 1)).trans em15_1) (y15_0_1) (((eF15 0 1).trans ey15_0_1))  (show inr (z18) by omega) (show inr ((x4_3 + 1)) by omega) (show (0) ≤ ((x4_3 + 1)) by omega) (show ((x4_3 + 1)) ≤ (0) ∨ ((x4_3 + 1)) ≤ (4) by omega) (show 0 ≤ (y15_0_1) ∧ (y15_0_1) ≤ (m15_1) ∧ (m15_1) ≤ 65536 by omega) rfl
abbrev V196_Row : vV := [(0, 10, [(4, 0), (4, 0), (4, 0), (4, 0), (0, 0), (4, 0), (0, 0), (2, 0), (0, 0)]), (0, 7, [(4, 0), (0, 0), (1, 0), (0, 0), (0, 0)]), (1, 0, []), (0, 5, [(4, 0), (4, 0), (4, 0), (4, 0), (0, 0), (0, 0), (0, 0), (4, 0), (4, 0), (0, 0), (0, 0), (0, 0), (0, 0), (0, 0), (0, 0), (0, 0), (0, 0), (0, 0), (0, 0)]), (0, 7, [(4, 0), (0, 0), (1, 0), (0, 0), (0, 0)]), (1, 0, [])]
/-- Tags.packLiterals: this, #1, #1.bytes, this.finder, this.finder.data, this.finder.data.bytes -/
theorem C196_Row {σE : rS} {D N : Nat → Nat} {F : hF} {A : hA} {d c s : Nat} {Q : wQ} (H : HW V196_Row σE D N F A) {a2 a3 : Int} (pf2 : F 1 0 = (D 2 : Int)) (pf3 : F 0 1 = (D 3 : Int)) (pf4 : F 3 0 = (D 4 : Int)) (pf5 : F 4 0 = (D 5 : Int)) (n2 : Int) (en2 : (N 2 : Int) = n2) (n5 : Int) (en5 : (N 5 : Int) = n5) (u1_1 : Int) (eu1_1 : F 1 1 = u1_1) (u4_1 : Int) (eu4_1 : F 4 1 = u4_1) (h0 : inr (a2)) (h1 : inr (a3)) (h2 : 0 ≤ (u1_1) ∧ (u1_1) ≤ (n2) ∧ (n2) ≤ 65536) (h3 : 0 ≤ (u4_1) ∧ (u4_1) ≤ (n5) ∧ (n5) ≤ 65536) (h4 : 0 ≤ (a2) ∧ 0 ≤ (a3) ∧ (a2) + (a3) ≤ (n5)) (k : ∀ (σ : rS) (D' N' : Nat → Nat) (F' : hF) (A' : hA) (c' s' : Nat), HW V196_Row σ D' N' F' A' → OUT (V196_Row).length D N σE c s D' N' σ c' s' → SD [2] D D' → SD [2] N N' → SF [(1, 0), (1, 1), (1, 2)] F F' → SA [2] A A' → F' 1 0 = (D' 2 : Int) → ∀ m2 : Int, (N' 2 : Int) = m2 → ∀ y1_1 : Int, F' 1 1 = y1_1 → (0 ≤ (y1_1) ∧ (y1_1) ≤ (m2) ∧ (m2) ≤ 65536) → Q none σ c' s') : Ew 196 (d + 3) 0 (rargs 0 [.ref (D 0), .ref (D 1), I a2, I a3]) [] σE c s Q := by
  have O := OUT_refl (n := (V196_Row).length) (D := D) (N := N) (σ := σE) (c := c) (s := s)
  have HE := H
  have r1 : (-2147483648 : Int) ≤ u1_1 ∧ u1_1 ≤ 2147483647 := by have h1 : (-2147483648 : Int) ≤ F 1 1 ∧ F 1 1 ≤ 2147483647 := H.krg 1 1 (by decide); rw [show F 1 1 = u1_1 from (eu1_1)] at h1; exact h1
  have r2 : (-2147483648 : Int) ≤ u4_1 ∧ u4_1 ≤ 2147483647 := by have h1 : (-2147483648 : Int) ≤ F 4 1 ∧ F 4 1 ≤ 2147483647 := H.krg 4 1 (by decide); rw [show F 4 1 = u4_1 from (eu4_1)] at h1; exact h1
  have r3 : (0 : Int) ≤ n2 ∧ n2 ≤ 1000000 := by have h1 := H.nle 2 (by decide); have h2 : (N 2 : Int) = n2 := en2; omega
  have r4 : (0 : Int) ≤ n5 ∧ n5 ≤ 1000000 := by have h1 := H.nle 5 (by decide); have h2 : (N 5 : Int) = n5 := en5; omega
  refine Ew_of (pc' := 1) (fun _ => x_iload_n rfl rfl) ?_
  refine w_ifne (t := 5) rfl rfl (show inr (a3) by omega) (fun b5 => ?_) (fun b5 => ?_)
  · refine Ew_of (pc' := 6) (fun _ => x_iload_n rfl rfl) ?_
    refine Ew_of (pc' := 7) (fun _ => x_iconst rfl) ?_
    refine w_isub rfl ?_
    refine Ew_of (pc' := 10) (fun _ => x_istore rfl) ?_
    have hc63 : ∀ (ls : rO) (σ : rS) (D_c63 N_c63 : Nat → Nat) (c_c63 s_c63 : Nat) (F_c63 : hF) (A_c63 : hA) , rlook ls 0 = some (.ref (D_c63 0)) → rlook ls 1 = some (.ref (D_c63 1)) → rlook ls 2 = some (I (a2)) → rlook ls 3 = some (I (a3)) → HW V196_Row σ D_c63 N_c63 F_c63 A_c63 → OUT (V196_Row).length D N σE c s D_c63 N_c63 σ c_c63 s_c63 → SD [2] D D_c63 → SD [2] N N_c63 → SF [(1, 0), (1, 1), (1, 2)] F F_c63 → SA [2] A A_c63 → F_c63 1 0 = (D_c63 2 : Int) → ∀ mc63_2 : Int, (N_c63 2 : Int) = mc63_2 → ∀ yc63_1_1 : Int, F_c63 1 1 = yc63_1_1 → (0 ≤ (yc63_1_1) ∧ (yc63_1_1) ≤ (mc63_2) ∧ (mc63_2) ≤ 65536) → Ew 196 (d + 3) 63 ls [] σ c_c63 s_c63 Q := by
     as_aux_lemma =>
      intro  ls σ D_c63 N_c63 c_c63 s_c63 F_c63 A_c63  lc63_0 lc63_1 lc63_2 lc63_3 H O hD_c63 hN_c63 hS_c63 hA_c63 pmc63_2 mc63_2 emc63_2 yc63_1_1 eyc63_1_1  jc63_0
      have pf_c63_0_1 : F_c63 0 1 = (D_c63 3 : Int) := (hS_c63 0 1 rfl).trans ((pf3).trans (congrArg (fun q : Nat => (q : Int)) (hD_c63 3 rfl).symm))
      have pf_c63_3_0 : F_c63 3 0 = (D_c63 4 : Int) := (hS_c63 3 0 rfl).trans ((pf4).trans (congrArg (fun q : Nat => (q : Int)) (hD_c63 4 rfl).symm))
      have pf_c63_4_0 : F_c63 4 0 = (D_c63 5 : Int) := (hS_c63 4 0 rfl).trans ((pf5).trans (congrArg (fun q : Nat => (q : Int)) (hD_c63 5 rfl).symm))
      have r6 : (0 : Int) ≤ mc63_2 ∧ mc63_2 ≤ 1000000 := by have h1 := H.nle 2 (by decide); have h2 : (N_c63 2 : Int) = mc63_2 := emc63_2; omega
      have r7 : (-2147483648 : Int) ≤ yc63_1_1 ∧ yc63_1_1 ≤ 2147483647 := by have h1 : (-2147483648 : Int) ≤ F_c63 1 1 ∧ F_c63 1 1 ≤ 2147483647 := H.krg 1 1 (by decide); rw [show F_c63 1 1 = yc63_1_1 from (eyc63_1_1)] at h1; exact h1
      refine Ew_of (pc' := 64) (fun _ => x_aload_n rfl lc63_1) ?_
      refine Ew_of (pc' := 65) (fun _ => x_aload_n rfl lc63_0) ?_
      refine v_g H (o := 0) (v := .ref (D_c63 3)) rfl rfl rfl rfl rfl (vrf (pf_c63_0_1)) ?_
      refine v_g H (o := 3) (v := .ref (D_c63 4)) rfl rfl rfl rfl rfl (vrf (pf_c63_3_0)) ?_
      refine v_g H (o := 4) (v := .ref (D_c63 5)) rfl rfl rfl rfl rfl (vrf (pf_c63_4_0)) ?_
      refine Ew_of (pc' := 75) (fun _ => x_iload_n rfl lc63_2) ?_
      refine Ew_of (pc' := 76) (fun _ => x_iload_n rfl lc63_3) ?_
      refine v_inv H (o := 1) rfl rfl rfl rfl rfl rfl (by rfl) (C161_Br (D := pul [1, 5, 2] D_c63) (N := pul [1, 5, 2] N_c63) (HW_sub H (VS_of (show vsub V196_Row V161_Br [1, 5, 2] = true by decide +kernel))) (pmc63_2) (n5) ((congrArg (fun q : Nat => (q : Int)) (hN_c63 5 rfl)).trans (en5)) (mc63_2) (emc63_2) (yc63_1_1) ((eyc63_1_1)) (A_c63 2) (rfl) (show inr (a2) by omega) (show inr (a3) by omega) (show 0 ≤ (yc63_1_1) ∧ (yc63_1_1) ≤ (mc63_2) ∧ (mc63_2) ≤ 65536 by omega) (show (a3) < 0 ∨ 0 ≤ (a2) ∧ (a2) + (a3) ≤ (n5) by omega) (fun σ8 D8' N8' F8' A8' c8 s8 H' O' hD8 hN8 hS8 hA8 pm8_2 m8_2 em8_2 y8_0_1 ey8_0_1 w8_2 ew8_2 pz8_0 pz8_1 pz8_2 => ⟨rfl, ?_⟩))
      refine v_backM (c := c_c63) (s := s_c63) H (show vsub V196_Row V161_Br [1, 5, 2] = true by decide +kernel) H' O' hD8 (show vmov V196_Row [1, 5, 2] [2] = true by decide +kernel) (fun D8 N8 F8 A8 H O' eD8 eN8 eF8 eA8 => ?_)
      have O := OUT_trans O O'
      -- Row.addPart
      have pf8_0_1 : F8 0 1 = (D8 3 : Int) := ((show F8 0 1 = F_c63 0 1 from (eF8 0 1))).trans ((pf_c63_0_1).trans (congrArg (fun q : Nat => (q : Int)) ((show D8 3 = D_c63 3 from (eD8 3))).symm))
      have pf8_1_0 : F8 1 0 = (D8 2 : Int) := (eF8 1 0).trans (pm8_2.trans (congrArg (fun q : Nat => (q : Int)) (eD8 2).symm))
      have pf8_3_0 : F8 3 0 = (D8 4 : Int) := ((show F8 3 0 = F_c63 3 0 from (eF8 3 0))).trans ((pf_c63_3_0).trans (congrArg (fun q : Nat => (q : Int)) ((show D8 4 = D_c63 4 from (eD8 4))).symm))
      have pf8_4_0 : F8 4 0 = (D8 5 : Int) := ((show F8 4 0 = F_c63 4 0 from (eF8 4 0))).trans ((pf_c63_4_0).trans (congrArg (fun q : Nat => (q : Int)) ((show D8 5 = D_c63 5 from (eD8 5).trans (hD8 1 rfl))).symm))
      have r9 : (0 : Int) ≤ m8_2 ∧ m8_2 ≤ 1000000 := by have h1 := H.nle 2 (by decide); have h2 : (N8 2 : Int) = m8_2 := (congrArg (fun q : Nat => (q : Int)) (eN8 2)).trans em8_2; omega
      have r10 : (-2147483648 : Int) ≤ y8_0_1 ∧ y8_0_1 ≤ 2147483647 := by have h1 : (-2147483648 : Int) ≤ F8 1 1 ∧ F8 1 1 ≤ 2147483647 := H.krg 1 1 (by decide); rw [show F8 1 1 = y8_0_1 from ((eF8 1 1).trans ey8_0_1)] at h1; exact h1
      exact w_ret rfl (k _ _ _ _ _ _ _ H O (SD_trans (SD_trans (SD_refl) hD_c63 (any_subA rfl)) (SD_glu (ι := [1, 5, 2]) hD8 eD8 (by decide +kernel)) (any_subA (l' := [2]) rfl)) (SD_trans (SD_trans (SD_refl) hN_c63 (any_subA rfl)) (SD_glu (ι := [1, 5, 2]) hN8 eN8 (by decide +kernel)) (any_subA (l' := [2]) rfl)) (SF_trans (SF_trans (SF_refl) hS_c63 (any_sub rfl)) (SF_glu (ι := [1, 5, 2]) hS8 eF8 (by decide +kernel)) (any_sub (l' := [(1, 0), (1, 1), (1, 2)]) rfl)) (SA_trans (SA_trans (SA_refl) hA_c63 (any_subA rfl)) (SA_glu (ι := [1, 5, 2]) hA8 eA8 (by decide +kernel)) (any_subA (l' := [2]) rfl)) (pf8_1_0) (m8_2) ((congrArg (fun q : Nat => (q : Int)) (eN8 2)).trans em8_2) (y8_0_1) (((eF8 1 1).trans ey8_0_1)) (show 0 ≤ (y8_0_1) ∧ (y8_0_1) ≤ (m8_2) ∧ (m8_2) ≤ 65536 by omega))
    refine Ew_of (pc' := 12) (fun _ => x_iload rfl rk_s) ?_
    refine Ew_of (pc' := 14) (fun _ => x_bipush (z := 60) rfl (by decide)) ?_
    refine w_icmpge (t := 28) rfl rfl (show inr ((a3 - 1)) by omega) (show inr (60) by omega) (fun b11 => ?_) (fun b11 => ?_)
    · refine Ew_of (pc' := 30) (fun _ => x_iload rfl rk_s) ?_
      refine Ew_of (pc' := 33) (fun _ => x_sipush (z := 256) rfl (by decide)) ?_
      have hc41 : ∀ (tc41_0 : Int), ∀ (ls : rO) (σ : rS) (F_c41 : hF) (A_c41 : hA) , rlook ls 0 = some (.ref (D 0)) → rlook ls 1 = some (.ref (D 1)) → rlook ls 2 = some (I (a2)) → rlook ls 3 = some (I (a3)) → rlook ls 4 = some (I ((a3 - 1))) → HW V196_Row σ D N F_c41 A_c41 → OUT (V196_Row).length D N σE c s D N σ c s → SF [] F F_c41 → SA [] A A_c41 → (inr (tc41_0)) → ((((a3 - 1)) ≥ (256) ∧ (tc41_0) = (2)) ∨ (((a3 - 1)) < (256) ∧ (tc41_0) = (1))) → Ew 196 (d + 3) 41 ls [I (tc41_0)] σ c s Q := by
       as_aux_lemma =>
        intro tc41_0 ls σ F_c41 A_c41  lc41_0 lc41_1 lc41_2 lc41_3 lc41_4 H O hS_c41 hA_c41     jc41_0 jc41_1
        refine Ew_of (pc' := 43) (fun _ => x_istore rfl) ?_
        refine Ew_of (pc' := 44) (fun _ => x_aload_n rfl (rk_o (lc41_1) rfl rfl)) ?_
        refine Ew_of (pc' := 46) (fun _ => x_bipush (z := 59) rfl (by decide)) ?_
        refine Ew_of (pc' := 48) (fun _ => x_iload rfl rk_s) ?_
        refine w_iadd rfl ?_
        refine Ew_of (pc' := 50) (fun _ => x_iconst rfl) ?_
        refine w_ishlA rfl (fun z12 gz12 => ?_)
        refine v_inv H (o := 1) rfl rfl rfl rfl rfl rfl (by rfl) (C159 (D := pul [1, 2] D) (N := pul [1, 2] N) (HW_sub H (VS_of (show vsub V196_Row V159 [1, 2] = true by decide +kernel))) (((hS_c41 1 0 rfl)).trans (pf2)) (n2) (en2) (u1_1) (((hS_c41 1 1 rfl).trans (eu1_1))) (show inr (z12) by omega) (show 0 ≤ (u1_1) ∧ (u1_1) ≤ (n2) ∧ (n2) ≤ 65536 by omega) (fun σ13 D13' N13' F13' A13' c13 s13 H' O' hD13 hN13 hS13 hA13 pm13_1 m13_1 em13_1 y13_0_1 ey13_0_1 pz13_0 pz13_1 pz13_2 => ⟨rfl, ?_⟩))
        refine v_backM (c := c) (s := s) H (show vsub V196_Row V159 [1, 2] = true by decide +kernel) H' O' hD13 (show vmov V196_Row [1, 2] [1] = true by decide +kernel) (fun D13 N13 F13 A13 H O' eD13 eN13 eF13 eA13 => ?_)
        have O := OUT_trans O O'
        -- Row.add
        have pf13_0_1 : F13 0 1 = (D13 3 : Int) := ((show F13 0 1 = F_c41 0 1 from (eF13 0 1))).trans ((((hS_c41 0 1 rfl)).trans (pf3)).trans (congrArg (fun q : Nat => (q : Int)) ((show D13 3 = D 3 from (eD13 3))).symm))
        have pf13_1_0 : F13 1 0 = (D13 2 : Int) := (eF13 1 0).trans (pm13_1.trans (congrArg (fun q : Nat => (q : Int)) (eD13 2).symm))
        have pf13_3_0 : F13 3 0 = (D13 4 : Int) := ((show F13 3 0 = F_c41 3 0 from (eF13 3 0))).trans ((((hS_c41 3 0 rfl)).trans (pf4)).trans (congrArg (fun q : Nat => (q : Int)) ((show D13 4 = D 4 from (eD13 4))).symm))
        have pf13_4_0 : F13 4 0 = (D13 5 : Int) := ((show F13 4 0 = F_c41 4 0 from (eF13 4 0))).trans ((((hS_c41 4 0 rfl)).trans (pf5)).trans (congrArg (fun q : Nat => (q : Int)) ((show D13 5 = D 5 from (eD13 5))).symm))
        have r14 : (0 : Int) ≤ m13_1 ∧ m13_1 ≤ 1000000 := by have h1 := H.nle 2 (by decide); have h2 : (N13 2 : Int) = m13_1 := (congrArg (fun q : Nat => (q : Int)) (eN13 2)).trans em13_1; omega
        have r15 : (-2147483648 : Int) ≤ y13_0_1 ∧ y13_0_1 ≤ 2147483647 := by have h1 : (-2147483648 : Int) ≤ F13 1 1 ∧ F13 1 1 ≤ 2147483647 := H.krg 1 1 (by decide); rw [show F13 1 1 = y13_0_1 from ((eF13 1 1).trans ey13_0_1)] at h1; exact h1
        refine Ew_of (pc' := 55) (fun _ => x_aload_n rfl (rk_o (lc41_1) rfl rfl)) ?_
        refine Ew_of (pc' := 57) (fun _ => x_iload rfl (rk_o (lc41_4) rfl rfl)) ?_
        refine w_i2l rfl (show inr ((a3 - 1)) by omega) ?_
        refine Ew_of (pc' := 60) (fun _ => x_iload rfl rk_s) ?_
        refine Ew_stk (show ([I (tc41_0), J ((a3 - 1)), .ref (D 1)] : List Value) = [I (tc41_0), J ((a3 - 1)), .ref (D13 1)] by rw [show D13 1 = D 1 from ((show D13 1 = D 1 from (eD13 1).trans (hD13 0 rfl)))]) ?_
        refine v_inv H (o := 1) rfl rfl rfl rfl rfl rfl (by rfl) (C160 (D := pul [1, 2] D13) (N := pul [1, 2] N13) (HW_sub H (VS_of (show vsub V196_Row V160 [1, 2] = true by decide +kernel))) (pf13_1_0) (m13_1) ((congrArg (fun q : Nat => (q : Int)) (eN13 2)).trans em13_1) (y13_0_1) (((eF13 1 1).trans ey13_0_1)) (show inrJ ((a3 - 1)) by omega) (show inr (tc41_0) by omega) (show 0 ≤ (y13_0_1) ∧ (y13_0_1) ≤ (m13_1) ∧ (m13_1) ≤ 65536 by omega) (fun σ16 D16' N16' F16' A16' c16 s16 H' O' hD16 hN16 hS16 hA16 pm16_1 m16_1 em16_1 y16_0_1 ey16_0_1 pz16_0 pz16_1 => ⟨rfl, ?_⟩))
        refine v_backM (c := (c + c13)) (s := (s + s13)) H (show vsub V196_Row V160 [1, 2] = true by decide +kernel) H' O' hD16 (show vmov V196_Row [1, 2] [1] = true by decide +kernel) (fun D16 N16 F16 A16 H O' eD16 eN16 eF16 eA16 => ?_)
        have O := OUT_trans O O'
        -- Row.addNumber
        have pf16_0_1 : F16 0 1 = (D16 3 : Int) := ((show F16 0 1 = F13 0 1 from (eF16 0 1))).trans ((pf13_0_1).trans (congrArg (fun q : Nat => (q : Int)) ((show D16 3 = D13 3 from (eD16 3))).symm))
        have pf16_1_0 : F16 1 0 = (D16 2 : Int) := (eF16 1 0).trans (pm16_1.trans (congrArg (fun q : Nat => (q : Int)) (eD16 2).symm))
        have pf16_3_0 : F16 3 0 = (D16 4 : Int) := ((show F16 3 0 = F13 3 0 from (eF16 3 0))).trans ((pf13_3_0).trans (congrArg (fun q : Nat => (q : Int)) ((show D16 4 = D13 4 from (eD16 4))).symm))
        have pf16_4_0 : F16 4 0 = (D16 5 : Int) := ((show F16 4 0 = F13 4 0 from (eF16 4 0))).trans ((pf13_4_0).trans (congrArg (fun q : Nat => (q : Int)) ((show D16 5 = D13 5 from (eD16 5))).symm))
        have r17 : (0 : Int) ≤ m16_1 ∧ m16_1 ≤ 1000000 := by have h1 := H.nle 2 (by decide); have h2 : (N16 2 : Int) = m16_1 := (congrArg (fun q : Nat => (q : Int)) (eN16 2)).trans em16_1; omega
        have r18 : (-2147483648 : Int) ≤ y16_0_1 ∧ y16_0_1 ≤ 2147483647 := by have h1 : (-2147483648 : Int) ≤ F16 1 1 ∧ F16 1 1 ≤ 2147483647 := H.krg 1 1 (by decide); rw [show F16 1 1 = y16_0_1 from ((eF16 1 1).trans ey16_0_1)] at h1; exact h1
        exact hc63  _ _ _ _ _ _ _ _  ((rk_o (lc41_0) rfl rfl).trans (congrArg (fun q : Nat => some (Value.ref q)) ((((show D16 0 = D13 0 from (eD16 0))).trans ((show D13 0 = D 0 from (eD13 0))))).symm)) ((rk_o (lc41_1) rfl rfl).trans (congrArg (fun q : Nat => some (Value.ref q)) ((((show D16 1 = D13 1 from (eD16 1).trans (hD16 0 rfl))).trans ((show D13 1 = D 1 from (eD13 1).trans (hD13 0 rfl))))).symm)) (rk_o (lc41_2) rfl rfl) (rk_o (lc41_3) rfl rfl) H O (SD_trans (SD_trans (SD_refl) (SD_glu (ι := [1, 2]) hD13 eD13 (by decide +kernel)) (any_subA (l' := [2]) rfl)) (SD_glu (ι := [1, 2]) hD16 eD16 (by decide +kernel)) (any_subA (l' := [2]) rfl)) (SD_trans (SD_trans (SD_refl) (SD_glu (ι := [1, 2]) hN13 eN13 (by decide +kernel)) (any_subA (l' := [2]) rfl)) (SD_glu (ι := [1, 2]) hN16 eN16 (by decide +kernel)) (any_subA (l' := [2]) rfl)) (SF_trans (SF_trans (SF_trans (SF_refl) hS_c41 (any_sub rfl)) (SF_glu (ι := [1, 2]) hS13 eF13 (by decide +kernel)) (any_sub (l' := [(1, 0), (1, 1), (1, 2)]) rfl)) (SF_glu (ι := [1, 2]) hS16 eF16 (by decide +kernel)) (any_sub (l' := [(1, 0), (1, 1), (1, 2)]) rfl)) (SA_trans (SA_trans (SA_trans (SA_refl) hA_c41 (any_subA rfl)) (SA_glu (ι := [1, 2]) hA13 eA13 (by decide +kernel)) (any_subA (l' := [2]) rfl)) (SA_glu (ι := [1, 2]) hA16 eA16 (by decide +kernel)) (any_subA (l' := [2]) rfl)) (pf16_1_0) (m16_1) ((congrArg (fun q : Nat => (q : Int)) (eN16 2)).trans em16_1) (y16_0_1) (((eF16 1 1).trans ey16_0_1))  (show 0 ≤ (y16_0_1) ∧ (y16_0_1) ≤ (m16_1) ∧ (m16_1) ≤ 65536 by omega)
      refine w_icmpge (t := 40) rfl rfl (show inr ((a3 - 1)) by omega) (show inr (256) by omega) (fun b19 => ?_) (fun b19 => ?_)
      · refine Ew_of (pc' := 41) (fun _ => x_iconst rfl) ?_
        exact hc41 (2) _ _ _ _  (rk_o (rfl) rfl rfl) (rk_o (rfl) rfl rfl) (rk_o (rfl) rfl rfl) (rk_o (rfl) rfl rfl) (rk_s) H O (SF_refl) (SA_refl)     (show inr (2) by omega) (show (((a3 - 1)) ≥ (256) ∧ (2) = (2)) ∨ (((a3 - 1)) < (256) ∧ (2) = (1)) by omega)
      · refine Ew_of (pc' := 37) (fun _ => x_iconst rfl) ?_
        refine Ew_of (pc' := 41) (fun _ => x_goto rfl rfl) ?_
        exact hc41 (1) _ _ _ _  (rk_o (rfl) rfl rfl) (rk_o (rfl) rfl rfl) (rk_o (rfl) rfl rfl) (rk_o (rfl) rfl rfl) (rk_s) H O (SF_refl) (SA_refl)     (show inr (1) by omega) (show (((a3 - 1)) ≥ (256) ∧ (1) = (2)) ∨ (((a3 - 1)) < (256) ∧ (1) = (1)) by omega)
    · refine Ew_of (pc' := 18) (fun _ => x_aload_n rfl (rk_o (rfl) rfl rfl)) ?_
      refine Ew_of (pc' := 20) (fun _ => x_iload rfl rk_s) ?_
      refine Ew_of (pc' := 21) (fun _ => x_iconst rfl) ?_
      refine w_ishlA rfl (fun z20 gz20 => ?_)
      refine v_inv H (o := 1) rfl rfl rfl rfl rfl rfl (by rfl) (C159 (D := pul [1, 2] D) (N := pul [1, 2] N) (HW_sub H (VS_of (show vsub V196_Row V159 [1, 2] = true by decide +kernel))) (pf2) (n2) (en2) (u1_1) ((eu1_1)) (show inr (z20) by omega) (show 0 ≤ (u1_1) ∧ (u1_1) ≤ (n2) ∧ (n2) ≤ 65536 by omega) (fun σ21 D21' N21' F21' A21' c21 s21 H' O' hD21 hN21 hS21 hA21 pm21_1 m21_1 em21_1 y21_0_1 ey21_0_1 pz21_0 pz21_1 pz21_2 => ⟨rfl, ?_⟩))
      refine v_backM (c := c) (s := s) H (show vsub V196_Row V159 [1, 2] = true by decide +kernel) H' O' hD21 (show vmov V196_Row [1, 2] [1] = true by decide +kernel) (fun D21 N21 F21 A21 H O' eD21 eN21 eF21 eA21 => ?_)
      have O := OUT_trans O O'
      -- Row.add
      have pf21_0_1 : F21 0 1 = (D21 3 : Int) := ((show F21 0 1 = F 0 1 from (eF21 0 1))).trans ((pf3).trans (congrArg (fun q : Nat => (q : Int)) ((show D21 3 = D 3 from (eD21 3))).symm))
      have pf21_1_0 : F21 1 0 = (D21 2 : Int) := (eF21 1 0).trans (pm21_1.trans (congrArg (fun q : Nat => (q : Int)) (eD21 2).symm))
      have pf21_3_0 : F21 3 0 = (D21 4 : Int) := ((show F21 3 0 = F 3 0 from (eF21 3 0))).trans ((pf4).trans (congrArg (fun q : Nat => (q : Int)) ((show D21 4 = D 4 from (eD21 4))).symm))
      have pf21_4_0 : F21 4 0 = (D21 5 : Int) := ((show F21 4 0 = F 4 0 from (eF21 4 0))).trans ((pf5).trans (congrArg (fun q : Nat => (q : Int)) ((show D21 5 = D 5 from (eD21 5))).symm))
      have r22 : (0 : Int) ≤ m21_1 ∧ m21_1 ≤ 1000000 := by have h1 := H.nle 2 (by decide); have h2 : (N21 2 : Int) = m21_1 := (congrArg (fun q : Nat => (q : Int)) (eN21 2)).trans em21_1; omega
      have r23 : (-2147483648 : Int) ≤ y21_0_1 ∧ y21_0_1 ≤ 2147483647 := by have h1 : (-2147483648 : Int) ≤ F21 1 1 ∧ F21 1 1 ≤ 2147483647 := H.krg 1 1 (by decide); rw [show F21 1 1 = y21_0_1 from ((eF21 1 1).trans ey21_0_1)] at h1; exact h1
      refine Ew_of (pc' := 63) (fun _ => x_goto rfl rfl) ?_
      exact hc63  _ _ _ _ _ _ _ _  ((rk_o (rfl) rfl rfl).trans (congrArg (fun q : Nat => some (Value.ref q)) (((show D21 0 = D 0 from (eD21 0)))).symm)) ((rk_o (rfl) rfl rfl).trans (congrArg (fun q : Nat => some (Value.ref q)) (((show D21 1 = D 1 from (eD21 1).trans (hD21 0 rfl)))).symm)) (rk_o (rfl) rfl rfl) (rk_o (rfl) rfl rfl) H O (SD_trans (SD_refl) (SD_glu (ι := [1, 2]) hD21 eD21 (by decide +kernel)) (any_subA (l' := [2]) rfl)) (SD_trans (SD_refl) (SD_glu (ι := [1, 2]) hN21 eN21 (by decide +kernel)) (any_subA (l' := [2]) rfl)) (SF_trans (SF_refl) (SF_glu (ι := [1, 2]) hS21 eF21 (by decide +kernel)) (any_sub (l' := [(1, 0), (1, 1), (1, 2)]) rfl)) (SA_trans (SA_refl) (SA_glu (ι := [1, 2]) hA21 eA21 (by decide +kernel)) (any_subA (l' := [2]) rfl)) (pf21_1_0) (m21_1) ((congrArg (fun q : Nat => (q : Int)) (eN21 2)).trans em21_1) (y21_0_1) (((eF21 1 1).trans ey21_0_1))  (show 0 ≤ (y21_0_1) ∧ (y21_0_1) ≤ (m21_1) ∧ (m21_1) ≤ 65536 by omega)
  · exact w_ret rfl (k _ _ _ _ _ _ _ H O (SD_refl) (SD_refl) (SF_refl) (SA_refl) (pf2) (n2) (en2) (u1_1) ((eu1_1)) (show 0 ≤ (u1_1) ∧ (u1_1) ≤ (n2) ∧ (n2) ≤ 65536 by omega))
abbrev V197_Row : vV := [(0, 7, [(4, 0), (0, 0), (1, 0), (0, 0), (0, 0)]), (1, 0, [])]
/-- Tags.packCopies: #1, #1.bytes -/
theorem C197_Row {σE : rS} {D N : Nat → Nat} {F : hF} {A : hA} {d c s : Nat} {Q : wQ} (H : HW V197_Row σE D N F A) {a2 a3 : Int} (pf1 : F 0 0 = (D 1 : Int)) (n1 : Int) (en1 : (N 1 : Int) = n1) (u0_1 : Int) (eu0_1 : F 0 1 = u0_1) (h0 : inr (a2)) (h1 : inr (a3)) (h2 : 0 ≤ (u0_1) ∧ (u0_1) ≤ (n1) ∧ (n1) ≤ 65536) (h3 : 0 ≤ (a2) ∧ (a2) ≤ 65536) (k : ∀ (σ : rS) (D' N' : Nat → Nat) (F' : hF) (A' : hA) (c' s' : Nat), HW V197_Row σ D' N' F' A' → OUT (V197_Row).length D N σE c s D' N' σ c' s' → SD [1] D D' → SD [1] N N' → SF [(0, 0), (0, 1), (0, 2)] F F' → SA [1] A A' → F' 0 0 = (D' 1 : Int) → ∀ m1 : Int, (N' 1 : Int) = m1 → ∀ y0_1 : Int, F' 0 1 = y0_1 → (0 ≤ (y0_1) ∧ (y0_1) ≤ (m1) ∧ (m1) ≤ 65536) → Q none σ c' s') : Ew 197 (d + 3) 0 (rargs 0 [.ref (D 0), I a2, I a3]) [] σE c s Q := by
  have O := OUT_refl (n := (V197_Row).length) (D := D) (N := N) (σ := σE) (c := c) (s := s)
  have HE := H
  have r1 : (-2147483648 : Int) ≤ u0_1 ∧ u0_1 ≤ 2147483647 := by have h1 : (-2147483648 : Int) ≤ F 0 1 ∧ F 0 1 ≤ 2147483647 := H.krg 0 1 (by decide); rw [show F 0 1 = u0_1 from (eu0_1)] at h1; exact h1
  have r2 : (0 : Int) ≤ n1 ∧ n1 ≤ 1000000 := by have h1 := H.nle 1 (by decide); have h2 : (N 1 : Int) = n1 := en1; omega
  refine Ew_of (pc' := 1) (fun _ => x_iload_n rfl rfl) ?_
  refine Ew_of (pc' := 4) (fun _ => x_sipush (z := 2048) rfl (by decide)) ?_
  have hc12 : ∀ (tc12_0 : Int), ∀ (ls : rO) (σ : rS) (F_c12 : hF) (A_c12 : hA) , rlook ls 0 = some (.ref (D 0)) → rlook ls 1 = some (I (a2)) → rlook ls 2 = some (I (a3)) → HW V197_Row σ D N F_c12 A_c12 → OUT (V197_Row).length D N σE c s D N σ c s → SF [] F F_c12 → SA [] A A_c12 → (inr (tc12_0)) → (((a3) ≥ (2048) ∧ (tc12_0) = (0)) ∨ ((a3) < (2048) ∧ (tc12_0) = (1))) → Ew 197 (d + 3) 12 ls [I (tc12_0)] σ c s Q := by
   as_aux_lemma =>
    intro tc12_0 ls σ F_c12 A_c12  lc12_0 lc12_1 lc12_2 H O hS_c12 hA_c12     jc12_0 jc12_1
    refine Ew_of (pc' := 13) (fun _ => x_istore_n rfl) ?_
    refine Ew_of (pc' := 14) (fun _ => x_iload_n rfl (rk_o (lc12_1) rfl rfl)) ?_
    refine Ew_of (pc' := 16) (fun _ => x_istore rfl) ?_
    refine Ew_of (pc' := 17) (fun _ => x_iconst rfl) ?_
    refine Ew_of (pc' := 19) (fun _ => x_istore rfl) ?_
    suffices hl19 : ∀ (m : Nat), ∀ (ls : rO) (σ : rS) (D_19 N_19 : Nat → Nat) (c_19 s_19 : Nat) (F_19 : hF) (A_19 : hA) (x19_4 : Int) (x19_5 : Int), rlook ls 0 = some (.ref (D_19 0)) → rlook ls 1 = some (I (a2)) → rlook ls 2 = some (I (a3)) → rlook ls 3 = some (I (tc12_0)) → rlook ls 4 = some (I (x19_4)) → rlook ls 5 = some (I (x19_5)) → HW V197_Row σ D_19 N_19 F_19 A_19 → OUT (V197_Row).length D N σE c s D_19 N_19 σ c_19 s_19 → SD [1] D D_19 → SD [1] N N_19 → SF [(0, 0), (0, 1), (0, 2)] F_c12 F_19 → SA [1] A_c12 A_19 → F_19 0 0 = (D_19 1 : Int) → ∀ m19_1 : Int, (N_19 1 : Int) = m19_1 → ∀ y19_0_1 : Int, F_19 0 1 = y19_0_1 → (inr (x19_4)) → (inr (x19_5)) → ((0) ≤ (x19_5)) → ((x19_5) ≤ (0) ∨ (x19_5) ≤ ((a2))) → (0 ≤ (y19_0_1) ∧ (y19_0_1) ≤ (m19_1) ∧ (m19_1) ≤ 65536) → ((x19_4) ≤ 65536) → (((a2)) - (x19_5)).toNat = m → Ew 197 (d + 3) 19 ls [] σ c_19 s_19 Q from
      hl19 _ _ _ _ _ _ _ _ _ (a2) (0) (rk_o (rk_o (rk_o (lc12_0) rfl rfl) rfl rfl) rfl rfl) (rk_o (rk_o (rk_o (lc12_1) rfl rfl) rfl rfl) rfl rfl) (rk_o (rk_o (rk_o (lc12_2) rfl rfl) rfl rfl) rfl rfl) (rk_o (rk_o (rk_s) rfl rfl) rfl rfl) (rk_o (rk_s) rfl rfl) (rk_s) H O (SD_refl) (SD_refl) (SF_refl) (SA_refl) (((hS_c12 0 0 rfl)).trans (pf1)) (n1) (en1) (u0_1) (((hS_c12 0 1 rfl).trans (eu0_1)))  (show inr (a2) by omega) (show inr (0) by omega) (show (0) ≤ (0) by omega) (show (0) ≤ (0) ∨ (0) ≤ ((a2)) by omega) (show 0 ≤ (u0_1) ∧ (u0_1) ≤ (n1) ∧ (n1) ≤ 65536 by omega) (show (a2) ≤ 65536 by omega) rfl
    as_aux_lemma =>
    intro m
    induction m using Nat.strongRecOn with
    | _ m ih19 =>
      intro ls σ D_19 N_19 c_19 s_19 F_19 A_19 x19_4 x19_5 l19_0 l19_1 l19_2 l19_3 l19_4 l19_5 H O hD_19 hN_19 hS_19 hA_19 pm19_1 m19_1 em19_1 y19_0_1 ey19_0_1  j19_0 j19_1 j19_2 j19_3 j19_4 j19_5 hm19
      have r3 : (0 : Int) ≤ m19_1 ∧ m19_1 ≤ 1000000 := by have h1 := H.nle 1 (by decide); have h2 : (N_19 1 : Int) = m19_1 := em19_1; omega
      have r4 : (-2147483648 : Int) ≤ y19_0_1 ∧ y19_0_1 ≤ 2147483647 := by have h1 : (-2147483648 : Int) ≤ F_19 0 1 ∧ F_19 0 1 ≤ 2147483647 := H.krg 0 1 (by decide); rw [show F_19 0 1 = y19_0_1 from (ey19_0_1)] at h1; exact h1
      refine Ew_of (pc' := 21) (fun _ => x_iload rfl l19_5) ?_
      refine Ew_of (pc' := 22) (fun _ => x_iload_n rfl l19_1) ?_
      refine w_icmpge (t := 106) rfl rfl (show inr (x19_5) by omega) (show inr (a2) by omega) (fun b5 => ?_) (fun b5 => ?_)
      · exact w_ret rfl (k _ _ _ _ _ _ _ H O (SD_trans (SD_refl) hD_19 (any_subA rfl)) (SD_trans (SD_refl) hN_19 (any_subA rfl)) (SF_trans (SF_trans (SF_refl) hS_c12 (any_sub rfl)) hS_19 (any_sub rfl)) (SA_trans (SA_trans (SA_refl) hA_c12 (any_subA rfl)) hA_19 (any_subA rfl)) (pm19_1) (m19_1) (em19_1) (y19_0_1) ((ey19_0_1)) (show 0 ≤ (y19_0_1) ∧ (y19_0_1) ≤ (m19_1) ∧ (m19_1) ≤ 65536 by omega))
      · refine Ew_of (pc' := 27) (fun _ => x_iload rfl l19_4) ?_
        refine w_ifle (t := 106) rfl rfl (show inr (x19_4) by omega) (fun b6 => ?_) (fun b6 => ?_)
        · exact w_ret rfl (k _ _ _ _ _ _ _ H O (SD_trans (SD_refl) hD_19 (any_subA rfl)) (SD_trans (SD_refl) hN_19 (any_subA rfl)) (SF_trans (SF_trans (SF_refl) hS_c12 (any_sub rfl)) hS_19 (any_sub rfl)) (SA_trans (SA_trans (SA_refl) hA_c12 (any_subA rfl)) hA_19 (any_subA rfl)) (pm19_1) (m19_1) (em19_1) (y19_0_1) ((ey19_0_1)) (show 0 ≤ (y19_0_1) ∧ (y19_0_1) ≤ (m19_1) ∧ (m19_1) ≤ 65536 by omega))
        · refine Ew_of (pc' := 32) (fun _ => x_iload rfl l19_4) ?_
          refine Ew_of (pc' := 33) (fun _ => x_iload_n rfl l19_3) ?_
          refine w_stat24 rfl rfl (by rfl) (C199 (D := pul [] D_19) (N := pul [] N_19) (HW_sub H (VS_of (show vsub V197_Row V199 [] = true by decide +kernel))) (show inr (x19_4) by omega) (show inr (tc12_0) by omega) (show (tc12_0) = 0 ∨ (tc12_0) = 1 by omega) (show 1 ≤ (x19_4) ∧ (x19_4) ≤ 65536 by omega) (fun z7 σ7 F7' A7' H' O' hS7 hA7 pz7_0 pz7_1 => ⟨rfl, ?_⟩))
          refine v_back (c := c_19) (s := s_19) H (show vsub V197_Row V199 [] = true by decide +kernel) H' O' (fun F7 A7 H O' eF7 eA7 => ?_)
          have O := OUT_trans O O'
          -- Tags.firstCopy
          refine Ew_of (pc' := 38) (fun _ => x_istore rfl) ?_
          have hc93 : ∀ (ls : rO) (σ : rS) (D_c93 N_c93 : Nat → Nat) (c_c93 s_c93 : Nat) (F_c93 : hF) (A_c93 : hA) , rlook ls 0 = some (.ref (D_c93 0)) → rlook ls 1 = some (I (a2)) → rlook ls 2 = some (I (a3)) → rlook ls 3 = some (I (tc12_0)) → rlook ls 4 = some (I (x19_4)) → rlook ls 5 = some (I (x19_5)) → rlook ls 6 = some (I (z7)) → HW V197_Row σ D_c93 N_c93 F_c93 A_c93 → OUT (V197_Row).length D N σE c s D_c93 N_c93 σ c_c93 s_c93 → SD [1] D_19 D_c93 → SD [1] N_19 N_c93 → SF [(0, 0), (0, 1), (0, 2)] F7 F_c93 → SA [1] A7 A_c93 → F_c93 0 0 = (D_c93 1 : Int) → ∀ mc93_1 : Int, (N_c93 1 : Int) = mc93_1 → ∀ yc93_0_1 : Int, F_c93 0 1 = yc93_0_1 → (0 ≤ (yc93_0_1) ∧ (yc93_0_1) ≤ (mc93_1) ∧ (mc93_1) ≤ 65536) → Ew 197 (d + 3) 93 ls [] σ c_c93 s_c93 Q := by
           as_aux_lemma =>
            intro  ls σ D_c93 N_c93 c_c93 s_c93 F_c93 A_c93  lc93_0 lc93_1 lc93_2 lc93_3 lc93_4 lc93_5 lc93_6 H O hD_c93 hN_c93 hS_c93 hA_c93 pmc93_1 mc93_1 emc93_1 yc93_0_1 eyc93_0_1  jc93_0
            have r8 : (0 : Int) ≤ mc93_1 ∧ mc93_1 ≤ 1000000 := by have h1 := H.nle 1 (by decide); have h2 : (N_c93 1 : Int) = mc93_1 := emc93_1; omega
            have r9 : (-2147483648 : Int) ≤ yc93_0_1 ∧ yc93_0_1 ≤ 2147483647 := by have h1 : (-2147483648 : Int) ≤ F_c93 0 1 ∧ F_c93 0 1 ≤ 2147483647 := H.krg 0 1 (by decide); rw [show F_c93 0 1 = yc93_0_1 from (eyc93_0_1)] at h1; exact h1
            refine Ew_of (pc' := 95) (fun _ => x_iload rfl lc93_4) ?_
            refine Ew_of (pc' := 97) (fun _ => x_iload rfl lc93_6) ?_
            refine w_isub rfl ?_
            refine Ew_of (pc' := 100) (fun _ => x_istore rfl) ?_
            refine Ew_of (pc' := 103) (fun _ => x_iinc (len := 3) rfl (rk_o (lc93_5) rfl rfl)) ?_
            refine Ew_of (pc' := 19) (fun _ => x_goto rfl rfl) ?_
            exact ih19 _ (by omega) _ _ _ _ _ _ _ _ ((x19_4 - z7)) ((x19_5 + 1)) (rk_o (rk_o (lc93_0) rfl rfl) rfl rfl) (rk_o (rk_o (lc93_1) rfl rfl) rfl rfl) (rk_o (rk_o (lc93_2) rfl rfl) rfl rfl) (rk_o (rk_o (lc93_3) rfl rfl) rfl rfl) (rk_o (rk_s) rfl rfl) (rk_s) H O (SD_trans (hD_19) hD_c93 (any_subA rfl)) (SD_trans (hN_19) hN_c93 (any_subA rfl)) (SF_trans (SF_trans (hS_19) (SF_glu (ι := []) hS7 eF7 (by decide +kernel)) (any_sub (l' := []) rfl)) hS_c93 (any_sub rfl)) (SA_trans (SA_trans (hA_19) (SA_glu (ι := []) hA7 eA7 (by decide +kernel)) (any_subA (l' := []) rfl)) hA_c93 (any_subA rfl)) (pmc93_1) (mc93_1) (emc93_1) (yc93_0_1) ((eyc93_0_1))  (show inr ((x19_4 - z7)) by omega) (show inr ((x19_5 + 1)) by omega) (show (0) ≤ ((x19_5 + 1)) by omega) (show ((x19_5 + 1)) ≤ (0) ∨ ((x19_5 + 1)) ≤ ((a2)) by omega) (show 0 ≤ (yc93_0_1) ∧ (yc93_0_1) ≤ (mc93_1) ∧ (mc93_1) ≤ 65536 by omega) (show ((x19_4 - z7)) ≤ 65536 by omega) rfl
          refine Ew_of (pc' := 40) (fun _ => x_iload rfl rk_s) ?_
          refine Ew_of (pc' := 41) (fun _ => x_iload_n rfl (rk_o (l19_3) rfl rfl)) ?_
          refine w_stat24 rfl rfl (by rfl) (C198 (D := pul [] D_19) (N := pul [] N_19) (HW_sub H (VS_of (show vsub V197_Row V198 [] = true by decide +kernel))) (show inr (z7) by omega) (show inr (tc12_0) by omega) (show (tc12_0) = 0 ∨ (tc12_0) = 1 by omega) (fun z10 σ10 F10' A10' H' O' hS10 hA10 pz10_0 => ⟨rretB rfl pz10_0, ?_⟩))
          refine v_back (c := c_19) (s := s_19) H (show vsub V197_Row V198 [] = true by decide +kernel) H' O' (fun F10 A10 H O' eF10 eA10 => ?_)
          have O := OUT_trans O O'
          -- Tags.isShort
          refine w_ifeq (t := 74) rfl rfl (show inr (z10) by omega) (fun b11 => ?_) (fun b11 => ?_)
          · refine Ew_of (pc' := 75) (fun _ => x_aload_n rfl (rk_o (l19_0) rfl rfl)) ?_
            refine Ew_of (pc' := 76) (fun _ => x_iconst rfl) ?_
            refine Ew_of (pc' := 78) (fun _ => x_iload rfl rk_s) ?_
            refine Ew_of (pc' := 79) (fun _ => x_iconst rfl) ?_
            refine w_isub rfl ?_
            refine Ew_of (pc' := 81) (fun _ => x_iconst rfl) ?_
            refine w_ishlA rfl (fun z12 gz12 => ?_)
            refine w_ior rfl (fun z13 gz13 => ?_)
            refine v_inv H (o := 0) rfl rfl rfl rfl rfl rfl (by rfl) (C159 (D := pul [0, 1] D_19) (N := pul [0, 1] N_19) (HW_sub H (VS_of (show vsub V197_Row V159 [0, 1] = true by decide +kernel))) (((((show F10 0 0 = F7 0 0 from (eF10 0 0))).trans ((show F7 0 0 = F_19 0 0 from (eF7 0 0))))).trans (pm19_1)) (m19_1) (em19_1) (y19_0_1) (((((show F10 0 1 = F7 0 1 from (eF10 0 1))).trans ((show F7 0 1 = F_19 0 1 from (eF7 0 1)))).trans (ey19_0_1))) (show inr (z13) by omega) (show 0 ≤ (y19_0_1) ∧ (y19_0_1) ≤ (m19_1) ∧ (m19_1) ≤ 65536 by omega) (fun σ14 D14' N14' F14' A14' c14 s14 H' O' hD14 hN14 hS14 hA14 pm14_1 m14_1 em14_1 y14_0_1 ey14_0_1 pz14_0 pz14_1 pz14_2 => ⟨rfl, ?_⟩))
            refine v_backM (c := c_19) (s := s_19) H (show vsub V197_Row V159 [0, 1] = true by decide +kernel) H' O' hD14 (show vmov V197_Row [0, 1] [1] = true by decide +kernel) (fun D14 N14 F14 A14 H O' eD14 eN14 eF14 eA14 => ?_)
            have O := OUT_trans O O'
            -- Row.add
            have pf14_0_0 : F14 0 0 = (D14 1 : Int) := (eF14 0 0).trans (pm14_1.trans (congrArg (fun q : Nat => (q : Int)) (eD14 1).symm))
            have r15 : (0 : Int) ≤ m14_1 ∧ m14_1 ≤ 1000000 := by have h1 := H.nle 1 (by decide); have h2 : (N14 1 : Int) = m14_1 := (congrArg (fun q : Nat => (q : Int)) (eN14 1)).trans em14_1; omega
            have r16 : (-2147483648 : Int) ≤ y14_0_1 ∧ y14_0_1 ≤ 2147483647 := by have h1 : (-2147483648 : Int) ≤ F14 0 1 ∧ F14 0 1 ≤ 2147483647 := H.krg 0 1 (by decide); rw [show F14 0 1 = y14_0_1 from ((eF14 0 1).trans ey14_0_1)] at h1; exact h1
            refine Ew_of (pc' := 87) (fun _ => x_aload_n rfl (rk_o (l19_0) rfl rfl)) ?_
            refine Ew_of (pc' := 88) (fun _ => x_iload_n rfl (rk_o (l19_2) rfl rfl)) ?_
            refine w_i2l rfl (show inr (a3) by omega) ?_
            refine Ew_of (pc' := 90) (fun _ => x_iconst rfl) ?_
            refine Ew_stk (show ([I (2), J (a3), .ref (D_19 0)] : List Value) = [I (2), J (a3), .ref (D14 0)] by rw [show D14 0 = D_19 0 from ((show D14 0 = D_19 0 from (eD14 0).trans (hD14 0 rfl)))]) ?_
            refine v_inv H (o := 0) rfl rfl rfl rfl rfl rfl (by rfl) (C160 (D := pul [0, 1] D14) (N := pul [0, 1] N14) (HW_sub H (VS_of (show vsub V197_Row V160 [0, 1] = true by decide +kernel))) (pf14_0_0) (m14_1) ((congrArg (fun q : Nat => (q : Int)) (eN14 1)).trans em14_1) (y14_0_1) (((eF14 0 1).trans ey14_0_1)) (show inrJ (a3) by omega) (show inr (2) by omega) (show 0 ≤ (y14_0_1) ∧ (y14_0_1) ≤ (m14_1) ∧ (m14_1) ≤ 65536 by omega) (fun σ17 D17' N17' F17' A17' c17 s17 H' O' hD17 hN17 hS17 hA17 pm17_1 m17_1 em17_1 y17_0_1 ey17_0_1 pz17_0 pz17_1 => ⟨rfl, ?_⟩))
            refine v_backM (c := (c_19 + c14)) (s := (s_19 + s14)) H (show vsub V197_Row V160 [0, 1] = true by decide +kernel) H' O' hD17 (show vmov V197_Row [0, 1] [1] = true by decide +kernel) (fun D17 N17 F17 A17 H O' eD17 eN17 eF17 eA17 => ?_)
            have O := OUT_trans O O'
            -- Row.addNumber
            have pf17_0_0 : F17 0 0 = (D17 1 : Int) := (eF17 0 0).trans (pm17_1.trans (congrArg (fun q : Nat => (q : Int)) (eD17 1).symm))
            have r18 : (0 : Int) ≤ m17_1 ∧ m17_1 ≤ 1000000 := by have h1 := H.nle 1 (by decide); have h2 : (N17 1 : Int) = m17_1 := (congrArg (fun q : Nat => (q : Int)) (eN17 1)).trans em17_1; omega
            have r19 : (-2147483648 : Int) ≤ y17_0_1 ∧ y17_0_1 ≤ 2147483647 := by have h1 : (-2147483648 : Int) ≤ F17 0 1 ∧ F17 0 1 ≤ 2147483647 := H.krg 0 1 (by decide); rw [show F17 0 1 = y17_0_1 from ((eF17 0 1).trans ey17_0_1)] at h1; exact h1
            exact hc93  _ _ _ _ _ _ _ _  ((rk_o (l19_0) rfl rfl).trans (congrArg (fun q : Nat => some (Value.ref q)) ((((show D17 0 = D14 0 from (eD17 0).trans (hD17 0 rfl))).trans ((show D14 0 = D_19 0 from (eD14 0).trans (hD14 0 rfl))))).symm)) (rk_o (l19_1) rfl rfl) (rk_o (l19_2) rfl rfl) (rk_o (l19_3) rfl rfl) (rk_o (l19_4) rfl rfl) (rk_o (l19_5) rfl rfl) (rk_s) H O (SD_trans (SD_trans (SD_refl) (SD_glu (ι := [0, 1]) hD14 eD14 (by decide +kernel)) (any_subA (l' := [1]) rfl)) (SD_glu (ι := [0, 1]) hD17 eD17 (by decide +kernel)) (any_subA (l' := [1]) rfl)) (SD_trans (SD_trans (SD_refl) (SD_glu (ι := [0, 1]) hN14 eN14 (by decide +kernel)) (any_subA (l' := [1]) rfl)) (SD_glu (ι := [0, 1]) hN17 eN17 (by decide +kernel)) (any_subA (l' := [1]) rfl)) (SF_trans (SF_trans (SF_trans (SF_refl) (SF_glu (ι := []) hS10 eF10 (by decide +kernel)) (any_sub (l' := []) rfl)) (SF_glu (ι := [0, 1]) hS14 eF14 (by decide +kernel)) (any_sub (l' := [(0, 0), (0, 1), (0, 2)]) rfl)) (SF_glu (ι := [0, 1]) hS17 eF17 (by decide +kernel)) (any_sub (l' := [(0, 0), (0, 1), (0, 2)]) rfl)) (SA_trans (SA_trans (SA_trans (SA_refl) (SA_glu (ι := []) hA10 eA10 (by decide +kernel)) (any_subA (l' := []) rfl)) (SA_glu (ι := [0, 1]) hA14 eA14 (by decide +kernel)) (any_subA (l' := [1]) rfl)) (SA_glu (ι := [0, 1]) hA17 eA17 (by decide +kernel)) (any_subA (l' := [1]) rfl)) (pf17_0_0) (m17_1) ((congrArg (fun q : Nat => (q : Int)) (eN17 1)).trans em17_1) (y17_0_1) (((eF17 0 1).trans ey17_0_1))  (show 0 ≤ (y17_0_1) ∧ (y17_0_1) ≤ (m17_1) ∧ (m17_1) ≤ 65536 by omega)
          · refine Ew_of (pc' := 48) (fun _ => x_aload_n rfl (rk_o (l19_0) rfl rfl)) ?_
            refine Ew_of (pc' := 49) (fun _ => x_iconst rfl) ?_
            refine Ew_of (pc' := 51) (fun _ => x_iload rfl rk_s) ?_
            refine Ew_of (pc' := 52) (fun _ => x_iconst rfl) ?_
            refine w_isub rfl ?_
            refine Ew_of (pc' := 54) (fun _ => x_iconst rfl) ?_
            refine w_ishlA rfl (fun z20 gz20 => ?_)
            refine w_ior rfl (fun z21 gz21 => ?_)
            refine Ew_of (pc' := 57) (fun _ => x_iload_n rfl (rk_o (l19_2) rfl rfl)) ?_
            refine Ew_of (pc' := 59) (fun _ => x_bipush (z := 8) rfl (by decide)) ?_
            refine w_ishrA rfl (fun z22 gz22 => ?_)
            refine Ew_of (pc' := 61) (fun _ => x_iconst rfl) ?_
            refine w_ishlA rfl (fun z23 gz23 => ?_)
            refine w_ior rfl (fun z24 gz24 => ?_)
            refine v_inv H (o := 0) rfl rfl rfl rfl rfl rfl (by rfl) (C159 (D := pul [0, 1] D_19) (N := pul [0, 1] N_19) (HW_sub H (VS_of (show vsub V197_Row V159 [0, 1] = true by decide +kernel))) (((((show F10 0 0 = F7 0 0 from (eF10 0 0))).trans ((show F7 0 0 = F_19 0 0 from (eF7 0 0))))).trans (pm19_1)) (m19_1) (em19_1) (y19_0_1) (((((show F10 0 1 = F7 0 1 from (eF10 0 1))).trans ((show F7 0 1 = F_19 0 1 from (eF7 0 1)))).trans (ey19_0_1))) (show inr (z24) by omega) (show 0 ≤ (y19_0_1) ∧ (y19_0_1) ≤ (m19_1) ∧ (m19_1) ≤ 65536 by omega) (fun σ25 D25' N25' F25' A25' c25 s25 H' O' hD25 hN25 hS25 hA25 pm25_1 m25_1 em25_1 y25_0_1 ey25_0_1 pz25_0 pz25_1 pz25_2 => ⟨rfl, ?_⟩))
            refine v_backM (c := c_19) (s := s_19) H (show vsub V197_Row V159 [0, 1] = true by decide +kernel) H' O' hD25 (show vmov V197_Row [0, 1] [1] = true by decide +kernel) (fun D25 N25 F25 A25 H O' eD25 eN25 eF25 eA25 => ?_)
            have O := OUT_trans O O'
            -- Row.add
            have pf25_0_0 : F25 0 0 = (D25 1 : Int) := (eF25 0 0).trans (pm25_1.trans (congrArg (fun q : Nat => (q : Int)) (eD25 1).symm))
            have r26 : (0 : Int) ≤ m25_1 ∧ m25_1 ≤ 1000000 := by have h1 := H.nle 1 (by decide); have h2 : (N25 1 : Int) = m25_1 := (congrArg (fun q : Nat => (q : Int)) (eN25 1)).trans em25_1; omega
            have r27 : (-2147483648 : Int) ≤ y25_0_1 ∧ y25_0_1 ≤ 2147483647 := by have h1 : (-2147483648 : Int) ≤ F25 0 1 ∧ F25 0 1 ≤ 2147483647 := H.krg 0 1 (by decide); rw [show F25 0 1 = y25_0_1 from ((eF25 0 1).trans ey25_0_1)] at h1; exact h1
            refine Ew_of (pc' := 67) (fun _ => x_aload_n rfl (rk_o (l19_0) rfl rfl)) ?_
            refine Ew_of (pc' := 68) (fun _ => x_iload_n rfl (rk_o (l19_2) rfl rfl)) ?_
            refine Ew_stk (show ([I (a3), .ref (D_19 0)] : List Value) = [I (a3), .ref (D25 0)] by rw [show D25 0 = D_19 0 from ((show D25 0 = D_19 0 from (eD25 0).trans (hD25 0 rfl)))]) ?_
            refine v_inv H (o := 0) rfl rfl rfl rfl rfl rfl (by rfl) (C159 (D := pul [0, 1] D25) (N := pul [0, 1] N25) (HW_sub H (VS_of (show vsub V197_Row V159 [0, 1] = true by decide +kernel))) (pf25_0_0) (m25_1) ((congrArg (fun q : Nat => (q : Int)) (eN25 1)).trans em25_1) (y25_0_1) (((eF25 0 1).trans ey25_0_1)) (show inr (a3) by omega) (show 0 ≤ (y25_0_1) ∧ (y25_0_1) ≤ (m25_1) ∧ (m25_1) ≤ 65536 by omega) (fun σ28 D28' N28' F28' A28' c28 s28 H' O' hD28 hN28 hS28 hA28 pm28_1 m28_1 em28_1 y28_0_1 ey28_0_1 pz28_0 pz28_1 pz28_2 => ⟨rfl, ?_⟩))
            refine v_backM (c := (c_19 + c25)) (s := (s_19 + s25)) H (show vsub V197_Row V159 [0, 1] = true by decide +kernel) H' O' hD28 (show vmov V197_Row [0, 1] [1] = true by decide +kernel) (fun D28 N28 F28 A28 H O' eD28 eN28 eF28 eA28 => ?_)
            have O := OUT_trans O O'
            -- Row.add
            have pf28_0_0 : F28 0 0 = (D28 1 : Int) := (eF28 0 0).trans (pm28_1.trans (congrArg (fun q : Nat => (q : Int)) (eD28 1).symm))
            have r29 : (0 : Int) ≤ m28_1 ∧ m28_1 ≤ 1000000 := by have h1 := H.nle 1 (by decide); have h2 : (N28 1 : Int) = m28_1 := (congrArg (fun q : Nat => (q : Int)) (eN28 1)).trans em28_1; omega
            have r30 : (-2147483648 : Int) ≤ y28_0_1 ∧ y28_0_1 ≤ 2147483647 := by have h1 : (-2147483648 : Int) ≤ F28 0 1 ∧ F28 0 1 ≤ 2147483647 := H.krg 0 1 (by decide); rw [show F28 0 1 = y28_0_1 from ((eF28 0 1).trans ey28_0_1)] at h1; exact h1
            refine Ew_of (pc' := 93) (fun _ => x_goto rfl rfl) ?_
            exact hc93  _ _ _ _ _ _ _ _  ((rk_o (l19_0) rfl rfl).trans (congrArg (fun q : Nat => some (Value.ref q)) ((((show D28 0 = D25 0 from (eD28 0).trans (hD28 0 rfl))).trans ((show D25 0 = D_19 0 from (eD25 0).trans (hD25 0 rfl))))).symm)) (rk_o (l19_1) rfl rfl) (rk_o (l19_2) rfl rfl) (rk_o (l19_3) rfl rfl) (rk_o (l19_4) rfl rfl) (rk_o (l19_5) rfl rfl) (rk_s) H O (SD_trans (SD_trans (SD_refl) (SD_glu (ι := [0, 1]) hD25 eD25 (by decide +kernel)) (any_subA (l' := [1]) rfl)) (SD_glu (ι := [0, 1]) hD28 eD28 (by decide +kernel)) (any_subA (l' := [1]) rfl)) (SD_trans (SD_trans (SD_refl) (SD_glu (ι := [0, 1]) hN25 eN25 (by decide +kernel)) (any_subA (l' := [1]) rfl)) (SD_glu (ι := [0, 1]) hN28 eN28 (by decide +kernel)) (any_subA (l' := [1]) rfl)) (SF_trans (SF_trans (SF_trans (SF_refl) (SF_glu (ι := []) hS10 eF10 (by decide +kernel)) (any_sub (l' := []) rfl)) (SF_glu (ι := [0, 1]) hS25 eF25 (by decide +kernel)) (any_sub (l' := [(0, 0), (0, 1), (0, 2)]) rfl)) (SF_glu (ι := [0, 1]) hS28 eF28 (by decide +kernel)) (any_sub (l' := [(0, 0), (0, 1), (0, 2)]) rfl)) (SA_trans (SA_trans (SA_trans (SA_refl) (SA_glu (ι := []) hA10 eA10 (by decide +kernel)) (any_subA (l' := []) rfl)) (SA_glu (ι := [0, 1]) hA25 eA25 (by decide +kernel)) (any_subA (l' := [1]) rfl)) (SA_glu (ι := [0, 1]) hA28 eA28 (by decide +kernel)) (any_subA (l' := [1]) rfl)) (pf28_0_0) (m28_1) ((congrArg (fun q : Nat => (q : Int)) (eN28 1)).trans em28_1) (y28_0_1) (((eF28 0 1).trans ey28_0_1))  (show 0 ≤ (y28_0_1) ∧ (y28_0_1) ≤ (m28_1) ∧ (m28_1) ≤ 65536 by omega)
  refine w_icmpge (t := 11) rfl rfl (show inr (a3) by omega) (show inr (2048) by omega) (fun b31 => ?_) (fun b31 => ?_)
  · refine Ew_of (pc' := 12) (fun _ => x_iconst rfl) ?_
    exact hc12 (0) _ _ _ _  (rfl) (rfl) (rfl) H O (SF_refl) (SA_refl)     (show inr (0) by omega) (show ((a3) ≥ (2048) ∧ (0) = (0)) ∨ ((a3) < (2048) ∧ (0) = (1)) by omega)
  · refine Ew_of (pc' := 8) (fun _ => x_iconst rfl) ?_
    refine Ew_of (pc' := 12) (fun _ => x_goto rfl rfl) ?_
    exact hc12 (1) _ _ _ _  (rfl) (rfl) (rfl) H O (SF_refl) (SA_refl)     (show inr (1) by omega) (show ((a3) ≥ (2048) ∧ (1) = (0)) ∨ ((a3) < (2048) ∧ (1) = (1)) by omega)
abbrev V194_Row : vV := [(0, 10, [(4, 0), (4, 0), (4, 0), (4, 0), (0, 0), (4, 0), (0, 0), (2, 0), (0, 0)]), (0, 7, [(4, 0), (0, 0), (1, 0), (0, 0), (0, 0)]), (1, 0, []), (0, 5, [(4, 0), (4, 0), (4, 0), (4, 0), (0, 0), (0, 0), (0, 0), (4, 0), (4, 0), (0, 0), (0, 0), (0, 0), (0, 0), (0, 0), (0, 0), (0, 0), (0, 0), (0, 0), (0, 0)]), (0, 7, [(4, 0), (0, 0), (1, 0), (0, 0), (0, 0)]), (1, 0, []), (1, 1, []), (1, 1, []), (1, 1, []), (1, 1, []), (1, 1, [])]
/-- Tags.packBlock: this, #1, #1.bytes, this.finder, this.finder.data, this.finder.data.bytes, this.finder.back, this.finder.heads, this.finder.literals, this.finder.lengths, this.finder.distances -/
theorem C194_Row {σE : rS} {D N : Nat → Nat} {F : hF} {A : hA} {d c s : Nat} {Q : wQ} (H : HW V194_Row σE D N F A)  (pf2 : F 1 0 = (D 2 : Int)) (pf3 : F 0 1 = (D 3 : Int)) (pf4 : F 3 0 = (D 4 : Int)) (pf5 : F 4 0 = (D 5 : Int)) (pf6 : F 3 8 = (D 6 : Int)) (pf7 : F 3 7 = (D 7 : Int)) (pf8 : F 3 1 = (D 8 : Int)) (pf9 : F 3 2 = (D 9 : Int)) (pf10 : F 3 3 = (D 10 : Int)) (n2 : Int) (en2 : (N 2 : Int) = n2) (n5 : Int) (en5 : (N 5 : Int) = n5) (n6 : Int) (en6 : (N 6 : Int) = n6) (n7 : Int) (en7 : (N 7 : Int) = n7) (n8 : Int) (en8 : (N 8 : Int) = n8) (n9 : Int) (en9 : (N 9 : Int) = n9) (n10 : Int) (en10 : (N 10 : Int) = n10) (u1_1 : Int) (eu1_1 : F 1 1 = u1_1) (u3_6 : Int) (eu3_6 : F 3 6 = u3_6) (u3_10 : Int) (eu3_10 : F 3 10 = u3_10) (u4_1 : Int) (eu4_1 : F 4 1 = u4_1) (w5 : Int → Int) (ew5 : A 5 = w5) (w6 : Int → Int) (ew6 : A 6 = w6) (w7 : Int → Int) (ew7 : A 7 = w7) (h0 : 0 ≤ (u1_1) ∧ (u1_1) ≤ (n2) ∧ (n2) ≤ 65536) (h1 : 0 ≤ (u4_1) ∧ (u4_1) ≤ (n5) ∧ (n5) ≤ 65536 ∧ (u4_1) ≤ 16384) (h2 : (u3_10) = 4) (h3 : BKI ((w5)) ((w6)) ((u3_10)) ((u3_6))) (h4 : HDI ((w5)) ((w7)) ((u3_10)) ((u3_6))) (h5 : (n8) = (n9) ∧ (n10) = (n9) ∧ (n9) ≤ 65536 ∧ ((n9) = 0 ∨ 64 ≤ (n9)) ∧ lgq ((n9)) = 0) (h6 : (n7) = 2048) (h7 : 0 ≤ (u3_6) ∧ (u3_6) ≤ (n6) ∧ (n6) ≤ 16384) (k : ∀ (σ : rS) (D' N' : Nat → Nat) (F' : hF) (A' : hA) (c' s' : Nat), HW V194_Row σ D' N' F' A' → OUT (V194_Row).length D N σE c s D' N' σ c' s' → SD [2, 6, 8, 9, 10] D D' → SD [2, 6, 8, 9, 10] N N' → SF [(1, 0), (1, 1), (1, 2), (3, 1), (3, 2), (3, 3), (3, 4), (3, 5), (3, 6), (3, 8), (3, 12), (3, 13), (3, 14), (3, 15), (3, 16), (3, 17), (3, 18)] F F' → SA [2, 6, 7, 8, 9, 10] A A' → F' 1 0 = (D' 2 : Int) → F' 3 8 = (D' 6 : Int) → F' 3 1 = (D' 8 : Int) → F' 3 2 = (D' 9 : Int) → F' 3 3 = (D' 10 : Int) → ∀ m2 : Int, (N' 2 : Int) = m2 → ∀ m6 : Int, (N' 6 : Int) = m6 → ∀ m8 : Int, (N' 8 : Int) = m8 → ∀ m9 : Int, (N' 9 : Int) = m9 → ∀ m10 : Int, (N' 10 : Int) = m10 → ∀ y1_1 : Int, F' 1 1 = y1_1 → ∀ y3_6 : Int, F' 3 6 = y3_6 → ∀ v6 : Int → Int, A' 6 = v6 → ∀ v7 : Int → Int, A' 7 = v7 → (0 ≤ (y1_1) ∧ (y1_1) ≤ (m2) ∧ (m2) ≤ 65536) → (0 ≤ (y3_6) ∧ (u3_6) ≤ (y3_6) ∧ (y3_6) ≤ (m6) ∧ (m6) ≤ 16384) → ((m8) = (m9) ∧ (m10) = (m9) ∧ (m9) ≤ 65536 ∧ ((m9) = 0 ∨ 64 ≤ (m9)) ∧ lgq ((m9)) = 0) → (BKI ((w5)) ((v6)) ((u3_10)) ((y3_6))) → (HDI ((w5)) ((v7)) ((u3_10)) ((y3_6))) → ((y3_6) = (u3_6) ∨ (y3_6) + 4 ≤ (u4_1) + 1) → Q none σ c' s') : Ew 194 (d + 4) 0 (rargs 0 [.ref (D 0), .ref (D 1)]) [] σE c s Q := by
  have O := OUT_refl (n := (V194_Row).length) (D := D) (N := N) (σ := σE) (c := c) (s := s)
  have HE := H
  have r1 : (-2147483648 : Int) ≤ u1_1 ∧ u1_1 ≤ 2147483647 := by have h1 : (-2147483648 : Int) ≤ F 1 1 ∧ F 1 1 ≤ 2147483647 := H.krg 1 1 (by decide); rw [show F 1 1 = u1_1 from (eu1_1)] at h1; exact h1
  have r2 : (-2147483648 : Int) ≤ u3_6 ∧ u3_6 ≤ 2147483647 := by have h1 : (-2147483648 : Int) ≤ F 3 6 ∧ F 3 6 ≤ 2147483647 := H.krg 3 6 (by decide); rw [show F 3 6 = u3_6 from (eu3_6)] at h1; exact h1
  have r3 : (-2147483648 : Int) ≤ u3_10 ∧ u3_10 ≤ 2147483647 := by have h1 : (-2147483648 : Int) ≤ F 3 10 ∧ F 3 10 ≤ 2147483647 := H.krg 3 10 (by decide); rw [show F 3 10 = u3_10 from (eu3_10)] at h1; exact h1
  have r4 : (-2147483648 : Int) ≤ u4_1 ∧ u4_1 ≤ 2147483647 := by have h1 : (-2147483648 : Int) ≤ F 4 1 ∧ F 4 1 ≤ 2147483647 := H.krg 4 1 (by decide); rw [show F 4 1 = u4_1 from (eu4_1)] at h1; exact h1
  have r5 : (0 : Int) ≤ n2 ∧ n2 ≤ 1000000 := by have h1 := H.nle 2 (by decide); have h2 : (N 2 : Int) = n2 := en2; omega
  have r6 : (0 : Int) ≤ n5 ∧ n5 ≤ 1000000 := by have h1 := H.nle 5 (by decide); have h2 : (N 5 : Int) = n5 := en5; omega
  have r7 : (0 : Int) ≤ n6 ∧ n6 ≤ 1000000 := by have h1 := H.nle 6 (by decide); have h2 : (N 6 : Int) = n6 := en6; omega
  have r8 : (0 : Int) ≤ n7 ∧ n7 ≤ 1000000 := by have h1 := H.nle 7 (by decide); have h2 : (N 7 : Int) = n7 := en7; omega
  have r9 : (0 : Int) ≤ n8 ∧ n8 ≤ 1000000 := by have h1 := H.nle 8 (by decide); have h2 : (N 8 : Int) = n8 := en8; omega
  have r10 : (0 : Int) ≤ n9 ∧ n9 ≤ 1000000 := by have h1 := H.nle 9 (by decide); have h2 : (N 9 : Int) = n9 := en9; omega
  have r11 : (0 : Int) ≤ n10 ∧ n10 ≤ 1000000 := by have h1 := H.nle 10 (by decide); have h2 : (N 10 : Int) = n10 := en10; omega
  refine Ew_of (pc' := 1) (fun _ => x_aload_n rfl rfl) ?_
  refine v_g H (o := 0) (v := .ref (D 3)) rfl rfl rfl rfl rfl (vrf (pf3)) ?_
  refine v_g H (o := 3) (v := .ref (D 4)) rfl rfl rfl rfl rfl (vrf (pf4)) ?_
  refine v_g H (o := 4) (v := I (u4_1)) rfl rfl rfl rfl rfl (congrArg (fun z : Int => I z) ((eu4_1) : F 4 1 = u4_1)) ?_
  refine Ew_of (pc' := 11) (fun _ => x_istore_n rfl) ?_
  refine Ew_of (pc' := 12) (fun _ => x_aload_n rfl (rk_o (rfl) rfl rfl)) ?_
  refine Ew_of (pc' := 13) (fun _ => x_iload_n rfl rk_s) ?_
  refine w_stat24 rfl rfl (by rfl) (C195_Row (D := pul [1, 2] D) (N := pul [1, 2] N) (HW_sub H (VS_of (show vsub V194_Row V195_Row [1, 2] = true by decide +kernel))) (pf2) (n2) (en2) (u1_1) ((eu1_1)) (show inr (u4_1) by omega) (show 0 ≤ (u1_1) ∧ (u1_1) ≤ (n2) ∧ (n2) ≤ 65536 by omega) (fun σ12 D12' N12' F12' A12' c12 s12 H' O' hD12 hN12 hS12 hA12 pm12_1 m12_1 em12_1 y12_0_1 ey12_0_1 pz12_0 => ⟨rfl, ?_⟩))
  refine v_backM (c := c) (s := s) H (show vsub V194_Row V195_Row [1, 2] = true by decide +kernel) H' O' hD12 (show vmov V194_Row [1, 2] [1] = true by decide +kernel) (fun D12 N12 F12 A12 H O' eD12 eN12 eF12 eA12 => ?_)
  have O := OUT_trans O O'
  -- Tags.packLength
  have pf12_0_1 : F12 0 1 = (D12 3 : Int) := ((show F12 0 1 = F 0 1 from (eF12 0 1))).trans ((pf3).trans (congrArg (fun q : Nat => (q : Int)) ((show D12 3 = D 3 from (eD12 3))).symm))
  have pf12_1_0 : F12 1 0 = (D12 2 : Int) := (eF12 1 0).trans (pm12_1.trans (congrArg (fun q : Nat => (q : Int)) (eD12 2).symm))
  have pf12_3_0 : F12 3 0 = (D12 4 : Int) := ((show F12 3 0 = F 3 0 from (eF12 3 0))).trans ((pf4).trans (congrArg (fun q : Nat => (q : Int)) ((show D12 4 = D 4 from (eD12 4))).symm))
  have pf12_3_1 : F12 3 1 = (D12 8 : Int) := ((show F12 3 1 = F 3 1 from (eF12 3 1))).trans ((pf8).trans (congrArg (fun q : Nat => (q : Int)) ((show D12 8 = D 8 from (eD12 8))).symm))
  have pf12_3_2 : F12 3 2 = (D12 9 : Int) := ((show F12 3 2 = F 3 2 from (eF12 3 2))).trans ((pf9).trans (congrArg (fun q : Nat => (q : Int)) ((show D12 9 = D 9 from (eD12 9))).symm))
  have pf12_3_3 : F12 3 3 = (D12 10 : Int) := ((show F12 3 3 = F 3 3 from (eF12 3 3))).trans ((pf10).trans (congrArg (fun q : Nat => (q : Int)) ((show D12 10 = D 10 from (eD12 10))).symm))
  have pf12_3_7 : F12 3 7 = (D12 7 : Int) := ((show F12 3 7 = F 3 7 from (eF12 3 7))).trans ((pf7).trans (congrArg (fun q : Nat => (q : Int)) ((show D12 7 = D 7 from (eD12 7))).symm))
  have pf12_3_8 : F12 3 8 = (D12 6 : Int) := ((show F12 3 8 = F 3 8 from (eF12 3 8))).trans ((pf6).trans (congrArg (fun q : Nat => (q : Int)) ((show D12 6 = D 6 from (eD12 6))).symm))
  have pf12_4_0 : F12 4 0 = (D12 5 : Int) := ((show F12 4 0 = F 4 0 from (eF12 4 0))).trans ((pf5).trans (congrArg (fun q : Nat => (q : Int)) ((show D12 5 = D 5 from (eD12 5))).symm))
  have r13 : (0 : Int) ≤ m12_1 ∧ m12_1 ≤ 1000000 := by have h1 := H.nle 2 (by decide); have h2 : (N12 2 : Int) = m12_1 := (congrArg (fun q : Nat => (q : Int)) (eN12 2)).trans em12_1; omega
  have r14 : (-2147483648 : Int) ≤ y12_0_1 ∧ y12_0_1 ≤ 2147483647 := by have h1 : (-2147483648 : Int) ≤ F12 1 1 ∧ F12 1 1 ≤ 2147483647 := H.krg 1 1 (by decide); rw [show F12 1 1 = y12_0_1 from ((eF12 1 1).trans ey12_0_1)] at h1; exact h1
  refine Ew_of (pc' := 17) (fun _ => x_aload_n rfl (rk_o (rfl) rfl rfl)) ?_
  refine Ew_stk (show ([.ref (D 0)] : List Value) = [.ref (D12 0)] by rw [show D12 0 = D 0 from ((show D12 0 = D 0 from (eD12 0)))]) ?_
  refine v_g H (o := 0) (v := .ref (D12 3)) rfl rfl rfl rfl rfl (vrf (pf12_0_1)) ?_
  refine Ew_of (pc' := 21) (fun _ => x_iload_n rfl rk_s) ?_
  refine v_inv H (o := 3) rfl rfl rfl rfl rfl rfl (by rfl) (C123 (D := pul [3, 4, 5, 6, 7] D12) (N := pul [3, 4, 5, 6, 7] N12) (HW_sub H (VS_of (show vsub V194_Row V123 [3, 4, 5, 6, 7] = true by decide +kernel))) (pf12_3_0) (pf12_4_0) (pf12_3_8) (pf12_3_7) (n5) ((congrArg (fun q : Nat => (q : Int)) (show N12 5 = N 5 from (eN12 5))).trans (en5)) (n6) ((congrArg (fun q : Nat => (q : Int)) (show N12 6 = N 6 from (eN12 6))).trans (en6)) (n7) ((congrArg (fun q : Nat => (q : Int)) (show N12 7 = N 7 from (eN12 7))).trans (en7)) (u3_6) ((((show F12 3 6 = F 3 6 from (eF12 3 6))).trans (eu3_6))) (u3_10) ((((show F12 3 10 = F 3 10 from (eF12 3 10))).trans (eu3_10))) (u4_1) ((((show F12 4 1 = F 4 1 from (eF12 4 1))).trans (eu4_1))) (w5) (((show A12 5 = A 5 from (eA12 5))).trans (ew5)) (w6) (((show A12 6 = A 6 from (eA12 6))).trans (ew6)) (w7) (((show A12 7 = A 7 from (eA12 7))).trans (ew7)) (show inr (u4_1) by omega) (show 0 ≤ (u4_1) ∧ (u4_1) ≤ (n5) ∧ (n5) ≤ 65536 ∧ (u4_1) ≤ 16384 by omega) (show 1 ≤ (u3_10) ∧ (u3_10) ≤ 8 by omega) (show 0 ≤ (u4_1) ∧ (u4_1) ≤ (u4_1) by omega) (show BKI ((w5)) ((w6)) ((u3_10)) ((u3_6)) by assumption) (show HDI ((w5)) ((w7)) ((u3_10)) ((u3_6)) by assumption) (show (n7) = 2048 by omega) (show 0 ≤ (u3_6) ∧ (u3_6) ≤ (n6) ∧ (n6) ≤ 16384 by omega) (fun σ15 D15' N15' F15' A15' c15 s15 H' O' hD15 hN15 hS15 hA15 pm15_3 m15_3 em15_3 y15_0_6 ey15_0_6 w15_3 ew15_3 w15_4 ew15_4 pz15_0 pz15_1 pz15_2 pz15_3 pz15_4 => ⟨rfl, ?_⟩))
  refine v_backM (c := (c + c12)) (s := (s + s12)) H (show vsub V194_Row V123 [3, 4, 5, 6, 7] = true by decide +kernel) H' O' hD15 (show vmov V194_Row [3, 4, 5, 6, 7] [3] = true by decide +kernel) (fun D15 N15 F15 A15 H O' eD15 eN15 eF15 eA15 => ?_)
  have O := OUT_trans O O'
  -- Finder.lay
  have pf15_0_1 : F15 0 1 = (D15 3 : Int) := ((show F15 0 1 = F12 0 1 from (eF15 0 1))).trans ((pf12_0_1).trans (congrArg (fun q : Nat => (q : Int)) ((show D15 3 = D12 3 from (eD15 3).trans (hD15 0 rfl))).symm))
  have pf15_1_0 : F15 1 0 = (D15 2 : Int) := ((show F15 1 0 = F12 1 0 from (eF15 1 0))).trans ((pf12_1_0).trans (congrArg (fun q : Nat => (q : Int)) ((show D15 2 = D12 2 from (eD15 2))).symm))
  have pf15_3_0 : F15 3 0 = (D15 4 : Int) := ((show F15 3 0 = F12 3 0 from (eF15 3 0).trans (hS15 0 0 rfl))).trans ((pf12_3_0).trans (congrArg (fun q : Nat => (q : Int)) ((show D15 4 = D12 4 from (eD15 4).trans (hD15 1 rfl))).symm))
  have pf15_3_1 : F15 3 1 = (D15 8 : Int) := ((show F15 3 1 = F12 3 1 from (eF15 3 1).trans (hS15 0 1 rfl))).trans ((pf12_3_1).trans (congrArg (fun q : Nat => (q : Int)) ((show D15 8 = D12 8 from (eD15 8))).symm))
  have pf15_3_2 : F15 3 2 = (D15 9 : Int) := ((show F15 3 2 = F12 3 2 from (eF15 3 2).trans (hS15 0 2 rfl))).trans ((pf12_3_2).trans (congrArg (fun q : Nat => (q : Int)) ((show D15 9 = D12 9 from (eD15 9))).symm))
  have pf15_3_3 : F15 3 3 = (D15 10 : Int) := ((show F15 3 3 = F12 3 3 from (eF15 3 3).trans (hS15 0 3 rfl))).trans ((pf12_3_3).trans (congrArg (fun q : Nat => (q : Int)) ((show D15 10 = D12 10 from (eD15 10))).symm))
  have pf15_3_7 : F15 3 7 = (D15 7 : Int) := ((show F15 3 7 = F12 3 7 from (eF15 3 7).trans (hS15 0 7 rfl))).trans ((pf12_3_7).trans (congrArg (fun q : Nat => (q : Int)) ((show D15 7 = D12 7 from (eD15 7).trans (hD15 4 rfl))).symm))
  have pf15_3_8 : F15 3 8 = (D15 6 : Int) := (eF15 3 8).trans (pm15_3.trans (congrArg (fun q : Nat => (q : Int)) (eD15 6).symm))
  have pf15_4_0 : F15 4 0 = (D15 5 : Int) := ((show F15 4 0 = F12 4 0 from (eF15 4 0).trans (hS15 1 0 rfl))).trans ((pf12_4_0).trans (congrArg (fun q : Nat => (q : Int)) ((show D15 5 = D12 5 from (eD15 5).trans (hD15 2 rfl))).symm))
  have r16 : (0 : Int) ≤ m15_3 ∧ m15_3 ≤ 1000000 := by have h1 := H.nle 6 (by decide); have h2 : (N15 6 : Int) = m15_3 := (congrArg (fun q : Nat => (q : Int)) (eN15 6)).trans em15_3; omega
  have r17 : (-2147483648 : Int) ≤ y15_0_6 ∧ y15_0_6 ≤ 2147483647 := by have h1 : (-2147483648 : Int) ≤ F15 3 6 ∧ F15 3 6 ≤ 2147483647 := H.krg 3 6 (by decide); rw [show F15 3 6 = y15_0_6 from ((eF15 3 6).trans ey15_0_6)] at h1; exact h1
  refine Ew_of (pc' := 25) (fun _ => x_aload_n rfl (rk_o (rfl) rfl rfl)) ?_
  refine Ew_stk (show ([.ref (D 0)] : List Value) = [.ref (D15 0)] by rw [show D15 0 = D 0 from (((show D15 0 = D12 0 from (eD15 0))).trans ((show D12 0 = D 0 from (eD12 0))))]) ?_
  refine v_g H (o := 0) (v := .ref (D15 3)) rfl rfl rfl rfl rfl (vrf (pf15_0_1)) ?_
  refine Ew_of (pc' := 29) (fun _ => x_iconst rfl) ?_
  refine Ew_of (pc' := 30) (fun _ => x_iload_n rfl rk_s) ?_
  refine Ew_of (pc' := 31) (fun _ => x_iload_n rfl rk_s) ?_
  refine Ew_of (pc' := 32) (fun _ => x_iload_n rfl rk_s) ?_
  refine Ew_of (pc' := 33) (fun _ => x_iconst rfl) ?_
  refine w_isub rfl ?_
  have r18 : (-2147483648 : Int) ≤ F 3 4 ∧ F 3 4 ≤ 2147483647 := by have h1 : (-2147483648 : Int) ≤ F15 3 4 ∧ F15 3 4 ≤ 2147483647 := H.krg 3 4 (by decide); rw [show F15 3 4 = F 3 4 from (((show F15 3 4 = F12 3 4 from (eF15 3 4).trans (hS15 0 4 rfl))).trans ((show F12 3 4 = F 3 4 from (eF12 3 4))))] at h1; exact h1
  have r19 : (-2147483648 : Int) ≤ F 3 5 ∧ F 3 5 ≤ 2147483647 := by have h1 : (-2147483648 : Int) ≤ F15 3 5 ∧ F15 3 5 ≤ 2147483647 := H.krg 3 5 (by decide); rw [show F15 3 5 = F 3 5 from (((show F15 3 5 = F12 3 5 from (eF15 3 5).trans (hS15 0 5 rfl))).trans ((show F12 3 5 = F 3 5 from (eF12 3 5))))] at h1; exact h1
  refine v_inv H (o := 3) rfl rfl rfl rfl rfl rfl (by rfl) (C125 (D := pul [3, 4, 5, 6, 8, 9, 10] D15) (N := pul [3, 4, 5, 6, 8, 9, 10] N15) (HW_sub H (VS_of (show vsub V194_Row V125 [3, 4, 5, 6, 8, 9, 10] = true by decide +kernel))) (pf15_3_0) (pf15_4_0) (pf15_3_8) (pf15_3_1) (pf15_3_2) (pf15_3_3) (n5) ((congrArg (fun q : Nat => (q : Int)) (show N15 5 = N12 5 from (eN15 5).trans (hN15 2 rfl))).trans ((congrArg (fun q : Nat => (q : Int)) (show N12 5 = N 5 from (eN12 5))).trans (en5))) (m15_3) ((congrArg (fun q : Nat => (q : Int)) (eN15 6)).trans em15_3) (n8) ((congrArg (fun q : Nat => (q : Int)) (show N15 8 = N12 8 from (eN15 8))).trans ((congrArg (fun q : Nat => (q : Int)) (show N12 8 = N 8 from (eN12 8))).trans (en8))) (n9) ((congrArg (fun q : Nat => (q : Int)) (show N15 9 = N12 9 from (eN15 9))).trans ((congrArg (fun q : Nat => (q : Int)) (show N12 9 = N 9 from (eN12 9))).trans (en9))) (n10) ((congrArg (fun q : Nat => (q : Int)) (show N15 10 = N12 10 from (eN15 10))).trans ((congrArg (fun q : Nat => (q : Int)) (show N12 10 = N 10 from (eN12 10))).trans (en10))) (F 3 4) ((((show F15 3 4 = F12 3 4 from (eF15 3 4).trans (hS15 0 4 rfl))).trans ((show F12 3 4 = F 3 4 from (eF12 3 4))))) (F 3 5) ((((show F15 3 5 = F12 3 5 from (eF15 3 5).trans (hS15 0 5 rfl))).trans ((show F12 3 5 = F 3 5 from (eF12 3 5))))) (y15_0_6) (((eF15 3 6).trans ey15_0_6)) (u3_10) (((((show F15 3 10 = F12 3 10 from (eF15 3 10).trans (hS15 0 10 rfl))).trans ((show F12 3 10 = F 3 10 from (eF12 3 10)))).trans (eu3_10))) (u4_1) (((((show F15 4 1 = F12 4 1 from (eF15 4 1).trans (hS15 1 1 rfl))).trans ((show F12 4 1 = F 4 1 from (eF12 4 1)))).trans (eu4_1))) (w5) (((show A15 5 = A12 5 from (eA15 5).trans (funext (hA15 2 rfl)))).trans (((show A12 5 = A 5 from (eA12 5))).trans (ew5))) (w15_3) ((eA15 6).trans ew15_3) (A 8) (((show A15 8 = A12 8 from (eA15 8))).trans ((show A12 8 = A 8 from (eA12 8)))) (A 9) (((show A15 9 = A12 9 from (eA15 9))).trans ((show A12 9 = A 9 from (eA12 9)))) (A 10) (((show A15 10 = A12 10 from (eA15 10))).trans ((show A12 10 = A 10 from (eA12 10)))) (show inr (0) by omega) (show inr (u4_1) by omega) (show inr (u4_1) by omega) (show inr ((u4_1 - 4)) by omega) (show 0 ≤ (u4_1) ∧ (u4_1) ≤ (n5) ∧ (n5) ≤ 65536 ∧ (u4_1) ≤ 16384 by omega) (show 1 ≤ (u3_10) ∧ (u3_10) ≤ 8 by omega) (show 0 ≤ (0) ∧ (0) ≤ (u4_1) ∧ (u4_1) ≤ (u4_1) by omega) (show (u4_1) ≤ (u4_1) ∧ ((u4_1 - 4)) < (u4_1) ∧ ((u4_1 - 4)) < (y15_0_6) by omega) (show 0 ≤ (y15_0_6) ∧ (y15_0_6) ≤ (m15_3) ∧ (m15_3) ≤ 16384 by omega) (show BKI ((w5)) ((w15_3)) ((u3_10)) ((y15_0_6)) by assumption) (show (n8) = (n9) ∧ (n10) = (n9) ∧ (n9) ≤ 65536 ∧ ((n9) = 0 ∨ 64 ≤ (n9)) ∧ lgq ((n9)) = 0 by omega) (fun σ20 D20' N20' F20' A20' c20 s20 H' O' hD20 hN20 hS20 hA20 pm20_4 pm20_5 pm20_6 m20_4 em20_4 m20_5 em20_5 m20_6 em20_6 y20_0_4 ey20_0_4 y20_0_5 ey20_0_5 w20_4 ew20_4 w20_5 ew20_5 w20_6 ew20_6 pz20_0 pz20_1 pz20_2 pz20_3 => ⟨rfl, ?_⟩))
  refine v_backM (c := ((c + c12) + c15)) (s := ((s + s12) + s15)) H (show vsub V194_Row V125 [3, 4, 5, 6, 8, 9, 10] = true by decide +kernel) H' O' hD20 (show vmov V194_Row [3, 4, 5, 6, 8, 9, 10] [4, 5, 6] = true by decide +kernel) (fun D20 N20 F20 A20 H O' eD20 eN20 eF20 eA20 => ?_)
  have O := OUT_trans O O'
  -- Finder.go
  have pf20_0_1 : F20 0 1 = (D20 3 : Int) := ((show F20 0 1 = F15 0 1 from (eF20 0 1))).trans ((pf15_0_1).trans (congrArg (fun q : Nat => (q : Int)) ((show D20 3 = D15 3 from (eD20 3).trans (hD20 0 rfl))).symm))
  have pf20_1_0 : F20 1 0 = (D20 2 : Int) := ((show F20 1 0 = F15 1 0 from (eF20 1 0))).trans ((pf15_1_0).trans (congrArg (fun q : Nat => (q : Int)) ((show D20 2 = D15 2 from (eD20 2))).symm))
  have pf20_3_0 : F20 3 0 = (D20 4 : Int) := ((show F20 3 0 = F15 3 0 from (eF20 3 0).trans (hS20 0 0 rfl))).trans ((pf15_3_0).trans (congrArg (fun q : Nat => (q : Int)) ((show D20 4 = D15 4 from (eD20 4).trans (hD20 1 rfl))).symm))
  have pf20_3_1 : F20 3 1 = (D20 8 : Int) := (eF20 3 1).trans (pm20_4.trans (congrArg (fun q : Nat => (q : Int)) (eD20 8).symm))
  have pf20_3_2 : F20 3 2 = (D20 9 : Int) := (eF20 3 2).trans (pm20_5.trans (congrArg (fun q : Nat => (q : Int)) (eD20 9).symm))
  have pf20_3_3 : F20 3 3 = (D20 10 : Int) := (eF20 3 3).trans (pm20_6.trans (congrArg (fun q : Nat => (q : Int)) (eD20 10).symm))
  have pf20_3_7 : F20 3 7 = (D20 7 : Int) := ((show F20 3 7 = F15 3 7 from (eF20 3 7).trans (hS20 0 7 rfl))).trans ((pf15_3_7).trans (congrArg (fun q : Nat => (q : Int)) ((show D20 7 = D15 7 from (eD20 7))).symm))
  have pf20_3_8 : F20 3 8 = (D20 6 : Int) := ((show F20 3 8 = F15 3 8 from (eF20 3 8).trans (hS20 0 8 rfl))).trans ((pf15_3_8).trans (congrArg (fun q : Nat => (q : Int)) ((show D20 6 = D15 6 from (eD20 6).trans (hD20 3 rfl))).symm))
  have pf20_4_0 : F20 4 0 = (D20 5 : Int) := ((show F20 4 0 = F15 4 0 from (eF20 4 0).trans (hS20 1 0 rfl))).trans ((pf15_4_0).trans (congrArg (fun q : Nat => (q : Int)) ((show D20 5 = D15 5 from (eD20 5).trans (hD20 2 rfl))).symm))
  have r21 : (0 : Int) ≤ m20_4 ∧ m20_4 ≤ 1000000 := by have h1 := H.nle 8 (by decide); have h2 : (N20 8 : Int) = m20_4 := (congrArg (fun q : Nat => (q : Int)) (eN20 8)).trans em20_4; omega
  have r22 : (0 : Int) ≤ m20_5 ∧ m20_5 ≤ 1000000 := by have h1 := H.nle 9 (by decide); have h2 : (N20 9 : Int) = m20_5 := (congrArg (fun q : Nat => (q : Int)) (eN20 9)).trans em20_5; omega
  have r23 : (0 : Int) ≤ m20_6 ∧ m20_6 ≤ 1000000 := by have h1 := H.nle 10 (by decide); have h2 : (N20 10 : Int) = m20_6 := (congrArg (fun q : Nat => (q : Int)) (eN20 10)).trans em20_6; omega
  have r24 : (-2147483648 : Int) ≤ y20_0_4 ∧ y20_0_4 ≤ 2147483647 := by have h1 : (-2147483648 : Int) ≤ F20 3 4 ∧ F20 3 4 ≤ 2147483647 := H.krg 3 4 (by decide); rw [show F20 3 4 = y20_0_4 from ((eF20 3 4).trans ey20_0_4)] at h1; exact h1
  have r25 : (-2147483648 : Int) ≤ y20_0_5 ∧ y20_0_5 ≤ 2147483647 := by have h1 : (-2147483648 : Int) ≤ F20 3 5 ∧ F20 3 5 ≤ 2147483647 := H.krg 3 5 (by decide); rw [show F20 3 5 = y20_0_5 from ((eF20 3 5).trans ey20_0_5)] at h1; exact h1
  refine Ew_of (pc' := 38) (fun _ => x_iconst rfl) ?_
  refine Ew_of (pc' := 39) (fun _ => x_istore_n rfl) ?_
  refine Ew_of (pc' := 40) (fun _ => x_iconst rfl) ?_
  refine Ew_of (pc' := 42) (fun _ => x_istore rfl) ?_
  have : su (fun j => ((w20_4)) j + ((w20_5)) j) (0 : Int).toNat = 0 := rfl
  have hfd : FDI ((w20_4)) ((w20_5)) ((w20_6)) ((y20_0_4)) ((u4_1) - 0 - (y20_0_5)) ((u3_10)) := pz20_3
  suffices hl42 : ∀ (m : Nat), ∀ (ls : rO) (σ : rS) (D_42 N_42 : Nat → Nat) (c_42 s_42 : Nat) (F_42 : hF) (A_42 : hA) (x42_3 : Int) (x42_4 : Int), rlook ls 0 = some (.ref (D_42 0)) → rlook ls 1 = some (.ref (D_42 1)) → rlook ls 3 = some (I (x42_3)) → rlook ls 4 = some (I (x42_4)) → HW V194_Row σ D_42 N_42 F_42 A_42 → OUT (V194_Row).length D N σE c s D_42 N_42 σ c_42 s_42 → SD [2] D20 D_42 → SD [2] N20 N_42 → SF [(1, 0), (1, 1), (1, 2)] F20 F_42 → SA [2] A20 A_42 → F_42 1 0 = (D_42 2 : Int) → ∀ m42_2 : Int, (N_42 2 : Int) = m42_2 → ∀ y42_1_1 : Int, F_42 1 1 = y42_1_1 → (inr (x42_3)) → (inr (x42_4)) → ((0) ≤ (x42_4)) → ((x42_4) ≤ (0) ∨ (x42_4) ≤ ((y20_0_4))) → (0 ≤ (y42_1_1) ∧ (y42_1_1) ≤ (m42_2) ∧ (m42_2) ≤ 65536) → ((x42_3) = su (fun j => ((w20_4)) j + ((w20_5)) j) ((x42_4) : Int).toNat) → (((y20_0_4)) - (x42_4)).toNat = m → Ew 194 (d + 4) 42 ls [] σ c_42 s_42 Q from
    hl42 _ _ _ _ _ _ _ _ _ (0) (0) ((rk_o (rk_o (rk_o (rfl) rfl rfl) rfl rfl) rfl rfl).trans (congrArg (fun q : Nat => some (Value.ref q)) (((((show D20 0 = D15 0 from (eD20 0))).trans ((show D15 0 = D12 0 from (eD15 0)))).trans ((show D12 0 = D 0 from (eD12 0))))).symm)) ((rk_o (rk_o (rk_o (rfl) rfl rfl) rfl rfl) rfl rfl).trans (congrArg (fun q : Nat => some (Value.ref q)) (((((show D20 1 = D15 1 from (eD20 1))).trans ((show D15 1 = D12 1 from (eD15 1)))).trans ((show D12 1 = D 1 from (eD12 1).trans (hD12 0 rfl))))).symm)) (rk_o (rk_s) rfl rfl) (rk_s) H O (SD_refl) (SD_refl) (SF_refl) (SA_refl) (pf20_1_0) (m12_1) ((congrArg (fun q : Nat => (q : Int)) (show N20 2 = N15 2 from (eN20 2))).trans ((congrArg (fun q : Nat => (q : Int)) (show N15 2 = N12 2 from (eN15 2))).trans ((congrArg (fun q : Nat => (q : Int)) (eN12 2)).trans em12_1))) (y12_0_1) (((((show F20 1 1 = F15 1 1 from (eF20 1 1))).trans ((show F15 1 1 = F12 1 1 from (eF15 1 1)))).trans ((eF12 1 1).trans ey12_0_1)))  (show inr (0) by omega) (show inr (0) by omega) (show (0) ≤ (0) by omega) (show (0) ≤ (0) ∨ (0) ≤ ((y20_0_4)) by omega) (show 0 ≤ (y12_0_1) ∧ (y12_0_1) ≤ (m12_1) ∧ (m12_1) ≤ 65536 by omega) (show (0) = su (fun j => ((w20_4)) j + ((w20_5)) j) ((0) : Int).toNat by omega) rfl
  as_aux_lemma =>
  intro m
  induction m using Nat.strongRecOn with
  | _ m ih42 =>
    intro ls σ D_42 N_42 c_42 s_42 F_42 A_42 x42_3 x42_4 l42_0 l42_1 l42_3 l42_4 H O hD_42 hN_42 hS_42 hA_42 pm42_2 m42_2 em42_2 y42_1_1 ey42_1_1  j42_0 j42_1 j42_2 j42_3 j42_4 j42_5 hm42
    have pf_42_0_1 : F_42 0 1 = (D_42 3 : Int) := (hS_42 0 1 rfl).trans ((pf20_0_1).trans (congrArg (fun q : Nat => (q : Int)) (hD_42 3 rfl).symm))
    have pf_42_3_0 : F_42 3 0 = (D_42 4 : Int) := (hS_42 3 0 rfl).trans ((pf20_3_0).trans (congrArg (fun q : Nat => (q : Int)) (hD_42 4 rfl).symm))
    have pf_42_3_1 : F_42 3 1 = (D_42 8 : Int) := (hS_42 3 1 rfl).trans ((pf20_3_1).trans (congrArg (fun q : Nat => (q : Int)) (hD_42 8 rfl).symm))
    have pf_42_3_2 : F_42 3 2 = (D_42 9 : Int) := (hS_42 3 2 rfl).trans ((pf20_3_2).trans (congrArg (fun q : Nat => (q : Int)) (hD_42 9 rfl).symm))
    have pf_42_3_3 : F_42 3 3 = (D_42 10 : Int) := (hS_42 3 3 rfl).trans ((pf20_3_3).trans (congrArg (fun q : Nat => (q : Int)) (hD_42 10 rfl).symm))
    have pf_42_3_7 : F_42 3 7 = (D_42 7 : Int) := (hS_42 3 7 rfl).trans ((pf20_3_7).trans (congrArg (fun q : Nat => (q : Int)) (hD_42 7 rfl).symm))
    have pf_42_3_8 : F_42 3 8 = (D_42 6 : Int) := (hS_42 3 8 rfl).trans ((pf20_3_8).trans (congrArg (fun q : Nat => (q : Int)) (hD_42 6 rfl).symm))
    have pf_42_4_0 : F_42 4 0 = (D_42 5 : Int) := (hS_42 4 0 rfl).trans ((pf20_4_0).trans (congrArg (fun q : Nat => (q : Int)) (hD_42 5 rfl).symm))
    have r26 : (0 : Int) ≤ m42_2 ∧ m42_2 ≤ 1000000 := by have h1 := H.nle 2 (by decide); have h2 : (N_42 2 : Int) = m42_2 := em42_2; omega
    have r27 : (-2147483648 : Int) ≤ y42_1_1 ∧ y42_1_1 ≤ 2147483647 := by have h1 : (-2147483648 : Int) ≤ F_42 1 1 ∧ F_42 1 1 ≤ 2147483647 := H.krg 1 1 (by decide); rw [show F_42 1 1 = y42_1_1 from (ey42_1_1)] at h1; exact h1
    refine Ew_of (pc' := 44) (fun _ => x_iload rfl l42_4) ?_
    refine Ew_of (pc' := 45) (fun _ => x_aload_n rfl l42_0) ?_
    refine v_g H (o := 0) (v := .ref (D_42 3)) rfl rfl rfl rfl rfl (vrf (pf_42_0_1)) ?_
    refine v_g H (o := 3) (v := I (y20_0_4)) rfl rfl rfl rfl rfl (congrArg (fun z : Int => I z) (((hS_42 3 4 rfl).trans ((eF20 3 4).trans ey20_0_4)) : F_42 3 4 = y20_0_4)) ?_
    refine w_icmpge (t := 124) rfl rfl (show inr (x42_4) by omega) (show inr (y20_0_4) by omega) (fun b28 => ?_) (fun b28 => ?_)
    · have hle : (x42_4) = (y20_0_4) := by omega
      have hst : su (fun j => ((w20_4)) j + ((w20_5)) j) ((x42_4) : Int).toNat = (u4_1) - 0 - (y20_0_5) := by rw [hle]; exact hfd.2
      refine Ew_of (pc' := 125) (fun _ => x_aload_n rfl l42_0) ?_
      refine Ew_of (pc' := 126) (fun _ => x_aload_n rfl l42_1) ?_
      refine Ew_of (pc' := 127) (fun _ => x_iload_n rfl l42_3) ?_
      refine Ew_of (pc' := 128) (fun _ => x_aload_n rfl l42_0) ?_
      refine v_g H (o := 0) (v := .ref (D_42 3)) rfl rfl rfl rfl rfl (vrf (pf_42_0_1)) ?_
      refine v_g H (o := 3) (v := I (y20_0_5)) rfl rfl rfl rfl rfl (congrArg (fun z : Int => I z) (((hS_42 3 5 rfl).trans ((eF20 3 5).trans ey20_0_5)) : F_42 3 5 = y20_0_5)) ?_
      refine v_inv H (o := 0) rfl rfl rfl rfl rfl rfl (by rfl) (C196_Row (D := pul [0, 1, 2, 3, 4, 5] D_42) (N := pul [0, 1, 2, 3, 4, 5] N_42) (HW_sub H (VS_of (show vsub V194_Row V196_Row [0, 1, 2, 3, 4, 5] = true by decide +kernel))) (pm42_2) (pf_42_0_1) (pf_42_3_0) (pf_42_4_0) (m42_2) (em42_2) (n5) ((congrArg (fun q : Nat => (q : Int)) (hN_42 5 rfl)).trans ((congrArg (fun q : Nat => (q : Int)) (show N20 5 = N15 5 from (eN20 5).trans (hN20 2 rfl))).trans ((congrArg (fun q : Nat => (q : Int)) (show N15 5 = N12 5 from (eN15 5).trans (hN15 2 rfl))).trans ((congrArg (fun q : Nat => (q : Int)) (show N12 5 = N 5 from (eN12 5))).trans (en5))))) (y42_1_1) ((ey42_1_1)) (u4_1) ((((((hS_42 4 1 rfl).trans ((show F20 4 1 = F15 4 1 from (eF20 4 1).trans (hS20 1 1 rfl)))).trans ((show F15 4 1 = F12 4 1 from (eF15 4 1).trans (hS15 1 1 rfl)))).trans ((show F12 4 1 = F 4 1 from (eF12 4 1)))).trans (eu4_1))) (show inr (x42_3) by omega) (show inr (y20_0_5) by omega) (show 0 ≤ (y42_1_1) ∧ (y42_1_1) ≤ (m42_2) ∧ (m42_2) ≤ 65536 by omega) (show 0 ≤ (u4_1) ∧ (u4_1) ≤ (n5) ∧ (n5) ≤ 65536 by omega) (show 0 ≤ (x42_3) ∧ 0 ≤ (y20_0_5) ∧ (x42_3) + (y20_0_5) ≤ (n5) by omega) (fun σ29 D29' N29' F29' A29' c29 s29 H' O' hD29 hN29 hS29 hA29 pm29_2 m29_2 em29_2 y29_1_1 ey29_1_1 pz29_0 => ⟨rfl, ?_⟩))
      refine v_backM (c := c_42) (s := s_42) H (show vsub V194_Row V196_Row [0, 1, 2, 3, 4, 5] = true by decide +kernel) H' O' hD29 (show vmov V194_Row [0, 1, 2, 3, 4, 5] [2] = true by decide +kernel) (fun D29 N29 F29 A29 H O' eD29 eN29 eF29 eA29 => ?_)
      have O := OUT_trans O O'
      -- Tags.packLiterals
      have pf29_0_1 : F29 0 1 = (D29 3 : Int) := ((show F29 0 1 = F_42 0 1 from (eF29 0 1).trans (hS29 0 1 rfl))).trans ((pf_42_0_1).trans (congrArg (fun q : Nat => (q : Int)) ((show D29 3 = D_42 3 from (eD29 3).trans (hD29 3 rfl))).symm))
      have pf29_1_0 : F29 1 0 = (D29 2 : Int) := (eF29 1 0).trans (pm29_2.trans (congrArg (fun q : Nat => (q : Int)) (eD29 2).symm))
      have pf29_3_0 : F29 3 0 = (D29 4 : Int) := ((show F29 3 0 = F_42 3 0 from (eF29 3 0).trans (hS29 3 0 rfl))).trans ((pf_42_3_0).trans (congrArg (fun q : Nat => (q : Int)) ((show D29 4 = D_42 4 from (eD29 4).trans (hD29 4 rfl))).symm))
      have pf29_3_1 : F29 3 1 = (D29 8 : Int) := ((show F29 3 1 = F_42 3 1 from (eF29 3 1).trans (hS29 3 1 rfl))).trans ((pf_42_3_1).trans (congrArg (fun q : Nat => (q : Int)) ((show D29 8 = D_42 8 from (eD29 8))).symm))
      have pf29_3_2 : F29 3 2 = (D29 9 : Int) := ((show F29 3 2 = F_42 3 2 from (eF29 3 2).trans (hS29 3 2 rfl))).trans ((pf_42_3_2).trans (congrArg (fun q : Nat => (q : Int)) ((show D29 9 = D_42 9 from (eD29 9))).symm))
      have pf29_3_3 : F29 3 3 = (D29 10 : Int) := ((show F29 3 3 = F_42 3 3 from (eF29 3 3).trans (hS29 3 3 rfl))).trans ((pf_42_3_3).trans (congrArg (fun q : Nat => (q : Int)) ((show D29 10 = D_42 10 from (eD29 10))).symm))
      have pf29_3_7 : F29 3 7 = (D29 7 : Int) := ((show F29 3 7 = F_42 3 7 from (eF29 3 7).trans (hS29 3 7 rfl))).trans ((pf_42_3_7).trans (congrArg (fun q : Nat => (q : Int)) ((show D29 7 = D_42 7 from (eD29 7))).symm))
      have pf29_3_8 : F29 3 8 = (D29 6 : Int) := ((show F29 3 8 = F_42 3 8 from (eF29 3 8).trans (hS29 3 8 rfl))).trans ((pf_42_3_8).trans (congrArg (fun q : Nat => (q : Int)) ((show D29 6 = D_42 6 from (eD29 6))).symm))
      have pf29_4_0 : F29 4 0 = (D29 5 : Int) := ((show F29 4 0 = F_42 4 0 from (eF29 4 0).trans (hS29 4 0 rfl))).trans ((pf_42_4_0).trans (congrArg (fun q : Nat => (q : Int)) ((show D29 5 = D_42 5 from (eD29 5).trans (hD29 5 rfl))).symm))
      have r30 : (0 : Int) ≤ m29_2 ∧ m29_2 ≤ 1000000 := by have h1 := H.nle 2 (by decide); have h2 : (N29 2 : Int) = m29_2 := (congrArg (fun q : Nat => (q : Int)) (eN29 2)).trans em29_2; omega
      have r31 : (-2147483648 : Int) ≤ y29_1_1 ∧ y29_1_1 ≤ 2147483647 := by have h1 : (-2147483648 : Int) ≤ F29 1 1 ∧ F29 1 1 ≤ 2147483647 := H.krg 1 1 (by decide); rw [show F29 1 1 = y29_1_1 from ((eF29 1 1).trans ey29_1_1)] at h1; exact h1
      exact w_ret rfl (k _ _ _ _ _ _ _ H O (SD_trans (SD_trans (SD_trans (SD_trans (SD_trans (SD_refl) (SD_glu (ι := [1, 2]) hD12 eD12 (by decide +kernel)) (any_subA (l' := [2]) rfl)) (SD_glu (ι := [3, 4, 5, 6, 7]) hD15 eD15 (by decide +kernel)) (any_subA (l' := [6]) rfl)) (SD_glu (ι := [3, 4, 5, 6, 8, 9, 10]) hD20 eD20 (by decide +kernel)) (any_subA (l' := [8, 9, 10]) rfl)) hD_42 (any_subA rfl)) (SD_glu (ι := [0, 1, 2, 3, 4, 5]) hD29 eD29 (by decide +kernel)) (any_subA (l' := [2]) rfl)) (SD_trans (SD_trans (SD_trans (SD_trans (SD_trans (SD_refl) (SD_glu (ι := [1, 2]) hN12 eN12 (by decide +kernel)) (any_subA (l' := [2]) rfl)) (SD_glu (ι := [3, 4, 5, 6, 7]) hN15 eN15 (by decide +kernel)) (any_subA (l' := [6]) rfl)) (SD_glu (ι := [3, 4, 5, 6, 8, 9, 10]) hN20 eN20 (by decide +kernel)) (any_subA (l' := [8, 9, 10]) rfl)) hN_42 (any_subA rfl)) (SD_glu (ι := [0, 1, 2, 3, 4, 5]) hN29 eN29 (by decide +kernel)) (any_subA (l' := [2]) rfl)) (SF_trans (SF_trans (SF_trans (SF_trans (SF_trans (SF_refl) (SF_glu (ι := [1, 2]) hS12 eF12 (by decide +kernel)) (any_sub (l' := [(1, 0), (1, 1), (1, 2)]) rfl)) (SF_glu (ι := [3, 4, 5, 6, 7]) hS15 eF15 (by decide +kernel)) (any_sub (l' := [(3, 6), (3, 8)]) rfl)) (SF_glu (ι := [3, 4, 5, 6, 8, 9, 10]) hS20 eF20 (by decide +kernel)) (any_sub (l' := [(3, 1), (3, 2), (3, 3), (3, 4), (3, 5), (3, 12), (3, 13), (3, 14), (3, 15), (3, 16), (3, 17), (3, 18)]) rfl)) hS_42 (any_sub rfl)) (SF_glu (ι := [0, 1, 2, 3, 4, 5]) hS29 eF29 (by decide +kernel)) (any_sub (l' := [(1, 0), (1, 1), (1, 2)]) rfl)) (SA_trans (SA_trans (SA_trans (SA_trans (SA_trans (SA_refl) (SA_glu (ι := [1, 2]) hA12 eA12 (by decide +kernel)) (any_subA (l' := [2]) rfl)) (SA_glu (ι := [3, 4, 5, 6, 7]) hA15 eA15 (by decide +kernel)) (any_subA (l' := [6, 7]) rfl)) (SA_glu (ι := [3, 4, 5, 6, 8, 9, 10]) hA20 eA20 (by decide +kernel)) (any_subA (l' := [8, 9, 10]) rfl)) hA_42 (any_subA rfl)) (SA_glu (ι := [0, 1, 2, 3, 4, 5]) hA29 eA29 (by decide +kernel)) (any_subA (l' := [2]) rfl)) (pf29_1_0) (pf29_3_8) (pf29_3_1) (pf29_3_2) (pf29_3_3) (m29_2) ((congrArg (fun q : Nat => (q : Int)) (eN29 2)).trans em29_2) (m15_3) ((congrArg (fun q : Nat => (q : Int)) (show N29 6 = N_42 6 from (eN29 6))).trans ((congrArg (fun q : Nat => (q : Int)) (hN_42 6 rfl)).trans ((congrArg (fun q : Nat => (q : Int)) (show N20 6 = N15 6 from (eN20 6).trans (hN20 3 rfl))).trans ((congrArg (fun q : Nat => (q : Int)) (eN15 6)).trans em15_3)))) (m20_4) ((congrArg (fun q : Nat => (q : Int)) (show N29 8 = N_42 8 from (eN29 8))).trans ((congrArg (fun q : Nat => (q : Int)) (hN_42 8 rfl)).trans ((congrArg (fun q : Nat => (q : Int)) (eN20 8)).trans em20_4))) (m20_5) ((congrArg (fun q : Nat => (q : Int)) (show N29 9 = N_42 9 from (eN29 9))).trans ((congrArg (fun q : Nat => (q : Int)) (hN_42 9 rfl)).trans ((congrArg (fun q : Nat => (q : Int)) (eN20 9)).trans em20_5))) (m20_6) ((congrArg (fun q : Nat => (q : Int)) (show N29 10 = N_42 10 from (eN29 10))).trans ((congrArg (fun q : Nat => (q : Int)) (hN_42 10 rfl)).trans ((congrArg (fun q : Nat => (q : Int)) (eN20 10)).trans em20_6))) (y29_1_1) (((eF29 1 1).trans ey29_1_1)) (y15_0_6) ((((((show F29 3 6 = F_42 3 6 from (eF29 3 6).trans (hS29 3 6 rfl))).trans (hS_42 3 6 rfl)).trans ((show F20 3 6 = F15 3 6 from (eF20 3 6).trans (hS20 0 6 rfl)))).trans ((eF15 3 6).trans ey15_0_6))) (w15_3) (((show A29 6 = A_42 6 from (eA29 6))).trans ((funext (hA_42 6 rfl)).trans (((show A20 6 = A15 6 from (eA20 6).trans (funext (hA20 3 rfl)))).trans ((eA15 6).trans ew15_3)))) (w15_4) (((show A29 7 = A_42 7 from (eA29 7))).trans ((funext (hA_42 7 rfl)).trans (((show A20 7 = A15 7 from (eA20 7))).trans ((eA15 7).trans ew15_4)))) (show 0 ≤ (y29_1_1) ∧ (y29_1_1) ≤ (m29_2) ∧ (m29_2) ≤ 65536 by omega) (show 0 ≤ (y15_0_6) ∧ (u3_6) ≤ (y15_0_6) ∧ (y15_0_6) ≤ (m15_3) ∧ (m15_3) ≤ 16384 by omega) (show (m20_4) = (m20_5) ∧ (m20_6) = (m20_5) ∧ (m20_5) ≤ 65536 ∧ ((m20_5) = 0 ∨ 64 ≤ (m20_5)) ∧ lgq ((m20_5)) = 0 by omega) (show BKI ((w5)) ((w15_3)) ((u3_10)) ((y15_0_6)) by assumption) (show HDI ((w5)) ((w15_4)) ((u3_10)) ((y15_0_6)) by assumption) (show (y15_0_6) = (u3_6) ∨ (y15_0_6) + 4 ≤ (u4_1) + 1 by omega))
    · have hfp := FDI_part (i := (x42_4)) hfd (by omega) (by omega) (by omega)
      have hfj := hfd.1 ((x42_4)) (by omega) (by omega)
      refine Ew_of (pc' := 55) (fun _ => x_aload_n rfl l42_0) ?_
      refine Ew_of (pc' := 56) (fun _ => x_aload_n rfl l42_1) ?_
      refine Ew_of (pc' := 57) (fun _ => x_iload_n rfl l42_3) ?_
      refine Ew_of (pc' := 58) (fun _ => x_aload_n rfl l42_0) ?_
      refine v_g H (o := 0) (v := .ref (D_42 3)) rfl rfl rfl rfl rfl (vrf (pf_42_0_1)) ?_
      refine v_g H (o := 3) (v := .ref (D_42 8)) rfl rfl rfl rfl rfl (vrf (pf_42_3_1)) ?_
      refine Ew_of (pc' := 66) (fun _ => x_iload rfl l42_4) ?_
      refine v_lI H (o := 8) rfl rfl rfl rfl (n := m20_4) ((congrArg (fun q : Nat => (q : Int)) (hN_42 8 rfl)).trans ((congrArg (fun q : Nat => (q : Int)) (eN20 8)).trans em20_4)) (show 0 ≤ x42_4 ∧ x42_4 < m20_4 by omega) (fun v32 ev32 qv32 => ?_)
      have ev32 : (w20_4) (x42_4) = v32 := (congrFun ((funext (hA_42 8 rfl)).trans ((eA20 8).trans ew20_4)) (x42_4)).symm.trans ev32
      refine v_inv H (o := 0) rfl rfl rfl rfl rfl rfl (by rfl) (C196_Row (D := pul [0, 1, 2, 3, 4, 5] D_42) (N := pul [0, 1, 2, 3, 4, 5] N_42) (HW_sub H (VS_of (show vsub V194_Row V196_Row [0, 1, 2, 3, 4, 5] = true by decide +kernel))) (pm42_2) (pf_42_0_1) (pf_42_3_0) (pf_42_4_0) (m42_2) (em42_2) (n5) ((congrArg (fun q : Nat => (q : Int)) (hN_42 5 rfl)).trans ((congrArg (fun q : Nat => (q : Int)) (show N20 5 = N15 5 from (eN20 5).trans (hN20 2 rfl))).trans ((congrArg (fun q : Nat => (q : Int)) (show N15 5 = N12 5 from (eN15 5).trans (hN15 2 rfl))).trans ((congrArg (fun q : Nat => (q : Int)) (show N12 5 = N 5 from (eN12 5))).trans (en5))))) (y42_1_1) ((ey42_1_1)) (u4_1) ((((((hS_42 4 1 rfl).trans ((show F20 4 1 = F15 4 1 from (eF20 4 1).trans (hS20 1 1 rfl)))).trans ((show F15 4 1 = F12 4 1 from (eF15 4 1).trans (hS15 1 1 rfl)))).trans ((show F12 4 1 = F 4 1 from (eF12 4 1)))).trans (eu4_1))) (show inr (x42_3) by omega) (show inr (v32) by omega) (show 0 ≤ (y42_1_1) ∧ (y42_1_1) ≤ (m42_2) ∧ (m42_2) ≤ 65536 by omega) (show 0 ≤ (u4_1) ∧ (u4_1) ≤ (n5) ∧ (n5) ≤ 65536 by omega) (show 0 ≤ (x42_3) ∧ 0 ≤ (v32) ∧ (x42_3) + (v32) ≤ (n5) by omega) (fun σ33 D33' N33' F33' A33' c33 s33 H' O' hD33 hN33 hS33 hA33 pm33_2 m33_2 em33_2 y33_1_1 ey33_1_1 pz33_0 => ⟨rfl, ?_⟩))
      refine v_backM (c := c_42) (s := s_42) H (show vsub V194_Row V196_Row [0, 1, 2, 3, 4, 5] = true by decide +kernel) H' O' hD33 (show vmov V194_Row [0, 1, 2, 3, 4, 5] [2] = true by decide +kernel) (fun D33 N33 F33 A33 H O' eD33 eN33 eF33 eA33 => ?_)
      have O := OUT_trans O O'
      -- Tags.packLiterals
      have pf33_0_1 : F33 0 1 = (D33 3 : Int) := ((show F33 0 1 = F_42 0 1 from (eF33 0 1).trans (hS33 0 1 rfl))).trans ((pf_42_0_1).trans (congrArg (fun q : Nat => (q : Int)) ((show D33 3 = D_42 3 from (eD33 3).trans (hD33 3 rfl))).symm))
      have pf33_1_0 : F33 1 0 = (D33 2 : Int) := (eF33 1 0).trans (pm33_2.trans (congrArg (fun q : Nat => (q : Int)) (eD33 2).symm))
      have pf33_3_0 : F33 3 0 = (D33 4 : Int) := ((show F33 3 0 = F_42 3 0 from (eF33 3 0).trans (hS33 3 0 rfl))).trans ((pf_42_3_0).trans (congrArg (fun q : Nat => (q : Int)) ((show D33 4 = D_42 4 from (eD33 4).trans (hD33 4 rfl))).symm))
      have pf33_3_1 : F33 3 1 = (D33 8 : Int) := ((show F33 3 1 = F_42 3 1 from (eF33 3 1).trans (hS33 3 1 rfl))).trans ((pf_42_3_1).trans (congrArg (fun q : Nat => (q : Int)) ((show D33 8 = D_42 8 from (eD33 8))).symm))
      have pf33_3_2 : F33 3 2 = (D33 9 : Int) := ((show F33 3 2 = F_42 3 2 from (eF33 3 2).trans (hS33 3 2 rfl))).trans ((pf_42_3_2).trans (congrArg (fun q : Nat => (q : Int)) ((show D33 9 = D_42 9 from (eD33 9))).symm))
      have pf33_3_3 : F33 3 3 = (D33 10 : Int) := ((show F33 3 3 = F_42 3 3 from (eF33 3 3).trans (hS33 3 3 rfl))).trans ((pf_42_3_3).trans (congrArg (fun q : Nat => (q : Int)) ((show D33 10 = D_42 10 from (eD33 10))).symm))
      have pf33_3_7 : F33 3 7 = (D33 7 : Int) := ((show F33 3 7 = F_42 3 7 from (eF33 3 7).trans (hS33 3 7 rfl))).trans ((pf_42_3_7).trans (congrArg (fun q : Nat => (q : Int)) ((show D33 7 = D_42 7 from (eD33 7))).symm))
      have pf33_3_8 : F33 3 8 = (D33 6 : Int) := ((show F33 3 8 = F_42 3 8 from (eF33 3 8).trans (hS33 3 8 rfl))).trans ((pf_42_3_8).trans (congrArg (fun q : Nat => (q : Int)) ((show D33 6 = D_42 6 from (eD33 6))).symm))
      have pf33_4_0 : F33 4 0 = (D33 5 : Int) := ((show F33 4 0 = F_42 4 0 from (eF33 4 0).trans (hS33 4 0 rfl))).trans ((pf_42_4_0).trans (congrArg (fun q : Nat => (q : Int)) ((show D33 5 = D_42 5 from (eD33 5).trans (hD33 5 rfl))).symm))
      have r34 : (0 : Int) ≤ m33_2 ∧ m33_2 ≤ 1000000 := by have h1 := H.nle 2 (by decide); have h2 : (N33 2 : Int) = m33_2 := (congrArg (fun q : Nat => (q : Int)) (eN33 2)).trans em33_2; omega
      have r35 : (-2147483648 : Int) ≤ y33_1_1 ∧ y33_1_1 ≤ 2147483647 := by have h1 : (-2147483648 : Int) ≤ F33 1 1 ∧ F33 1 1 ≤ 2147483647 := H.krg 1 1 (by decide); rw [show F33 1 1 = y33_1_1 from ((eF33 1 1).trans ey33_1_1)] at h1; exact h1
      refine Ew_of (pc' := 71) (fun _ => x_aload_n rfl l42_1) ?_
      refine Ew_of (pc' := 72) (fun _ => x_aload_n rfl l42_0) ?_
      refine Ew_stk (show ([.ref (D_42 0), .ref (D_42 1)] : List Value) = [.ref (D33 0), .ref (D33 1)] by rw [show D33 0 = D_42 0 from ((show D33 0 = D_42 0 from (eD33 0).trans (hD33 0 rfl))), show D33 1 = D_42 1 from ((show D33 1 = D_42 1 from (eD33 1).trans (hD33 1 rfl)))]) ?_
      refine v_g H (o := 0) (v := .ref (D33 3)) rfl rfl rfl rfl rfl (vrf (pf33_0_1)) ?_
      refine v_g H (o := 3) (v := .ref (D33 9)) rfl rfl rfl rfl rfl (vrf (pf33_3_2)) ?_
      refine Ew_of (pc' := 80) (fun _ => x_iload rfl l42_4) ?_
      refine v_lI H (o := 9) rfl rfl rfl rfl (n := m20_5) ((congrArg (fun q : Nat => (q : Int)) (show N33 9 = N_42 9 from (eN33 9))).trans ((congrArg (fun q : Nat => (q : Int)) (hN_42 9 rfl)).trans ((congrArg (fun q : Nat => (q : Int)) (eN20 9)).trans em20_5))) (show 0 ≤ x42_4 ∧ x42_4 < m20_5 by omega) (fun v36 ev36 qv36 => ?_)
      have ev36 : (w20_5) (x42_4) = v36 := (congrFun (((show A33 9 = A_42 9 from (eA33 9))).trans ((funext (hA_42 9 rfl)).trans ((eA20 9).trans ew20_5))) (x42_4)).symm.trans ev36
      refine Ew_of (pc' := 82) (fun _ => x_aload_n rfl l42_0) ?_
      refine Ew_stk (show ([.ref (D_42 0), I (v36), .ref (D33 1)] : List Value) = [.ref (D33 0), I (v36), .ref (D33 1)] by rw [show D33 0 = D_42 0 from ((show D33 0 = D_42 0 from (eD33 0).trans (hD33 0 rfl)))]) ?_
      refine v_g H (o := 0) (v := .ref (D33 3)) rfl rfl rfl rfl rfl (vrf (pf33_0_1)) ?_
      refine v_g H (o := 3) (v := .ref (D33 10)) rfl rfl rfl rfl rfl (vrf (pf33_3_3)) ?_
      refine Ew_of (pc' := 90) (fun _ => x_iload rfl l42_4) ?_
      refine v_lI H (o := 10) rfl rfl rfl rfl (n := m20_6) ((congrArg (fun q : Nat => (q : Int)) (show N33 10 = N_42 10 from (eN33 10))).trans ((congrArg (fun q : Nat => (q : Int)) (hN_42 10 rfl)).trans ((congrArg (fun q : Nat => (q : Int)) (eN20 10)).trans em20_6))) (show 0 ≤ x42_4 ∧ x42_4 < m20_6 by omega) (fun v37 ev37 qv37 => ?_)
      have ev37 : (w20_6) (x42_4) = v37 := (congrFun (((show A33 10 = A_42 10 from (eA33 10))).trans ((funext (hA_42 10 rfl)).trans ((eA20 10).trans ew20_6))) (x42_4)).symm.trans ev37
      refine w_stat24 rfl rfl (by rfl) (C197_Row (D := pul [1, 2] D33) (N := pul [1, 2] N33) (HW_sub H (VS_of (show vsub V194_Row V197_Row [1, 2] = true by decide +kernel))) (pf33_1_0) (m33_2) ((congrArg (fun q : Nat => (q : Int)) (eN33 2)).trans em33_2) (y33_1_1) (((eF33 1 1).trans ey33_1_1)) (show inr (v36) by omega) (show inr (v37) by omega) (show 0 ≤ (y33_1_1) ∧ (y33_1_1) ≤ (m33_2) ∧ (m33_2) ≤ 65536 by omega) (show 0 ≤ (v36) ∧ (v36) ≤ 65536 by omega) (fun σ38 D38' N38' F38' A38' c38 s38 H' O' hD38 hN38 hS38 hA38 pm38_1 m38_1 em38_1 y38_0_1 ey38_0_1 pz38_0 => ⟨rfl, ?_⟩))
      refine v_backM (c := (c_42 + c33)) (s := (s_42 + s33)) H (show vsub V194_Row V197_Row [1, 2] = true by decide +kernel) H' O' hD38 (show vmov V194_Row [1, 2] [1] = true by decide +kernel) (fun D38 N38 F38 A38 H O' eD38 eN38 eF38 eA38 => ?_)
      have O := OUT_trans O O'
      -- Tags.packCopies
      have pf38_0_1 : F38 0 1 = (D38 3 : Int) := ((show F38 0 1 = F33 0 1 from (eF38 0 1))).trans ((pf33_0_1).trans (congrArg (fun q : Nat => (q : Int)) ((show D38 3 = D33 3 from (eD38 3))).symm))
      have pf38_1_0 : F38 1 0 = (D38 2 : Int) := (eF38 1 0).trans (pm38_1.trans (congrArg (fun q : Nat => (q : Int)) (eD38 2).symm))
      have pf38_3_0 : F38 3 0 = (D38 4 : Int) := ((show F38 3 0 = F33 3 0 from (eF38 3 0))).trans ((pf33_3_0).trans (congrArg (fun q : Nat => (q : Int)) ((show D38 4 = D33 4 from (eD38 4))).symm))
      have pf38_3_1 : F38 3 1 = (D38 8 : Int) := ((show F38 3 1 = F33 3 1 from (eF38 3 1))).trans ((pf33_3_1).trans (congrArg (fun q : Nat => (q : Int)) ((show D38 8 = D33 8 from (eD38 8))).symm))
      have pf38_3_2 : F38 3 2 = (D38 9 : Int) := ((show F38 3 2 = F33 3 2 from (eF38 3 2))).trans ((pf33_3_2).trans (congrArg (fun q : Nat => (q : Int)) ((show D38 9 = D33 9 from (eD38 9))).symm))
      have pf38_3_3 : F38 3 3 = (D38 10 : Int) := ((show F38 3 3 = F33 3 3 from (eF38 3 3))).trans ((pf33_3_3).trans (congrArg (fun q : Nat => (q : Int)) ((show D38 10 = D33 10 from (eD38 10))).symm))
      have pf38_3_7 : F38 3 7 = (D38 7 : Int) := ((show F38 3 7 = F33 3 7 from (eF38 3 7))).trans ((pf33_3_7).trans (congrArg (fun q : Nat => (q : Int)) ((show D38 7 = D33 7 from (eD38 7))).symm))
      have pf38_3_8 : F38 3 8 = (D38 6 : Int) := ((show F38 3 8 = F33 3 8 from (eF38 3 8))).trans ((pf33_3_8).trans (congrArg (fun q : Nat => (q : Int)) ((show D38 6 = D33 6 from (eD38 6))).symm))
      have pf38_4_0 : F38 4 0 = (D38 5 : Int) := ((show F38 4 0 = F33 4 0 from (eF38 4 0))).trans ((pf33_4_0).trans (congrArg (fun q : Nat => (q : Int)) ((show D38 5 = D33 5 from (eD38 5))).symm))
      have r39 : (0 : Int) ≤ m38_1 ∧ m38_1 ≤ 1000000 := by have h1 := H.nle 2 (by decide); have h2 : (N38 2 : Int) = m38_1 := (congrArg (fun q : Nat => (q : Int)) (eN38 2)).trans em38_1; omega
      have r40 : (-2147483648 : Int) ≤ y38_0_1 ∧ y38_0_1 ≤ 2147483647 := by have h1 : (-2147483648 : Int) ≤ F38 1 1 ∧ F38 1 1 ≤ 2147483647 := H.krg 1 1 (by decide); rw [show F38 1 1 = y38_0_1 from ((eF38 1 1).trans ey38_0_1)] at h1; exact h1
      refine Ew_of (pc' := 95) (fun _ => x_iload_n rfl l42_3) ?_
      refine Ew_of (pc' := 96) (fun _ => x_aload_n rfl l42_0) ?_
      refine Ew_stk (show ([.ref (D_42 0), I (x42_3)] : List Value) = [.ref (D38 0), I (x42_3)] by rw [show D38 0 = D_42 0 from (((show D38 0 = D33 0 from (eD38 0))).trans ((show D33 0 = D_42 0 from (eD33 0).trans (hD33 0 rfl))))]) ?_
      refine v_g H (o := 0) (v := .ref (D38 3)) rfl rfl rfl rfl rfl (vrf (pf38_0_1)) ?_
      refine v_g H (o := 3) (v := .ref (D38 8)) rfl rfl rfl rfl rfl (vrf (pf38_3_1)) ?_
      refine Ew_of (pc' := 104) (fun _ => x_iload rfl l42_4) ?_
      refine v_lI H (o := 8) rfl rfl rfl rfl (n := m20_4) ((congrArg (fun q : Nat => (q : Int)) (show N38 8 = N33 8 from (eN38 8))).trans ((congrArg (fun q : Nat => (q : Int)) (show N33 8 = N_42 8 from (eN33 8))).trans ((congrArg (fun q : Nat => (q : Int)) (hN_42 8 rfl)).trans ((congrArg (fun q : Nat => (q : Int)) (eN20 8)).trans em20_4)))) (show 0 ≤ x42_4 ∧ x42_4 < m20_4 by omega) (fun v41 ev41 qv41 => ?_)
      have ev41 : (w20_4) (x42_4) = v41 := (congrFun (((show A38 8 = A33 8 from (eA38 8))).trans (((show A33 8 = A_42 8 from (eA33 8))).trans ((funext (hA_42 8 rfl)).trans ((eA20 8).trans ew20_4)))) (x42_4)).symm.trans ev41
      refine Ew_of (pc' := 106) (fun _ => x_aload_n rfl l42_0) ?_
      refine Ew_stk (show ([.ref (D_42 0), I (v41), I (x42_3)] : List Value) = [.ref (D38 0), I (v41), I (x42_3)] by rw [show D38 0 = D_42 0 from (((show D38 0 = D33 0 from (eD38 0))).trans ((show D33 0 = D_42 0 from (eD33 0).trans (hD33 0 rfl))))]) ?_
      refine v_g H (o := 0) (v := .ref (D38 3)) rfl rfl rfl rfl rfl (vrf (pf38_0_1)) ?_
      refine v_g H (o := 3) (v := .ref (D38 9)) rfl rfl rfl rfl rfl (vrf (pf38_3_2)) ?_
      refine Ew_of (pc' := 114) (fun _ => x_iload rfl l42_4) ?_
      refine v_lI H (o := 9) rfl rfl rfl rfl (n := m20_5) ((congrArg (fun q : Nat => (q : Int)) (show N38 9 = N33 9 from (eN38 9))).trans ((congrArg (fun q : Nat => (q : Int)) (show N33 9 = N_42 9 from (eN33 9))).trans ((congrArg (fun q : Nat => (q : Int)) (hN_42 9 rfl)).trans ((congrArg (fun q : Nat => (q : Int)) (eN20 9)).trans em20_5)))) (show 0 ≤ x42_4 ∧ x42_4 < m20_5 by omega) (fun v42 ev42 qv42 => ?_)
      have ev42 : (w20_5) (x42_4) = v42 := (congrFun (((show A38 9 = A33 9 from (eA38 9))).trans (((show A33 9 = A_42 9 from (eA33 9))).trans ((funext (hA_42 9 rfl)).trans ((eA20 9).trans ew20_5)))) (x42_4)).symm.trans ev42
      refine w_iadd rfl ?_
      refine w_iadd rfl ?_
      refine Ew_of (pc' := 118) (fun _ => x_istore_n rfl) ?_
      refine Ew_of (pc' := 121) (fun _ => x_iinc (len := 3) rfl (rk_o (l42_4) rfl rfl)) ?_
      refine Ew_of (pc' := 42) (fun _ => x_goto rfl rfl) ?_
      exact ih42 _ (by omega) _ _ _ _ _ _ _ _ ((x42_3 + (v41 + v42))) ((x42_4 + 1)) ((rk_o (rk_o (l42_0) rfl rfl) rfl rfl).trans (congrArg (fun q : Nat => some (Value.ref q)) ((((show D38 0 = D33 0 from (eD38 0))).trans ((show D33 0 = D_42 0 from (eD33 0).trans (hD33 0 rfl))))).symm)) ((rk_o (rk_o (l42_1) rfl rfl) rfl rfl).trans (congrArg (fun q : Nat => some (Value.ref q)) ((((show D38 1 = D33 1 from (eD38 1).trans (hD38 0 rfl))).trans ((show D33 1 = D_42 1 from (eD33 1).trans (hD33 1 rfl))))).symm)) (rk_o (rk_s) rfl rfl) (rk_s) H O (SD_trans (SD_trans (hD_42) (SD_glu (ι := [0, 1, 2, 3, 4, 5]) hD33 eD33 (by decide +kernel)) (any_subA (l' := [2]) rfl)) (SD_glu (ι := [1, 2]) hD38 eD38 (by decide +kernel)) (any_subA (l' := [2]) rfl)) (SD_trans (SD_trans (hN_42) (SD_glu (ι := [0, 1, 2, 3, 4, 5]) hN33 eN33 (by decide +kernel)) (any_subA (l' := [2]) rfl)) (SD_glu (ι := [1, 2]) hN38 eN38 (by decide +kernel)) (any_subA (l' := [2]) rfl)) (SF_trans (SF_trans (hS_42) (SF_glu (ι := [0, 1, 2, 3, 4, 5]) hS33 eF33 (by decide +kernel)) (any_sub (l' := [(1, 0), (1, 1), (1, 2)]) rfl)) (SF_glu (ι := [1, 2]) hS38 eF38 (by decide +kernel)) (any_sub (l' := [(1, 0), (1, 1), (1, 2)]) rfl)) (SA_trans (SA_trans (hA_42) (SA_glu (ι := [0, 1, 2, 3, 4, 5]) hA33 eA33 (by decide +kernel)) (any_subA (l' := [2]) rfl)) (SA_glu (ι := [1, 2]) hA38 eA38 (by decide +kernel)) (any_subA (l' := [2]) rfl)) (pf38_1_0) (m38_1) ((congrArg (fun q : Nat => (q : Int)) (eN38 2)).trans em38_1) (y38_0_1) (((eF38 1 1).trans ey38_0_1))  (show inr ((x42_3 + (v41 + v42))) by omega) (show inr ((x42_4 + 1)) by omega) (show (0) ≤ ((x42_4 + 1)) by omega) (show ((x42_4 + 1)) ≤ (0) ∨ ((x42_4 + 1)) ≤ ((y20_0_4)) by omega) (show 0 ≤ (y38_0_1) ∧ (y38_0_1) ≤ (m38_1) ∧ (m38_1) ≤ 65536 by omega) (show ((x42_3 + (v41 + v42))) = su (fun j => ((w20_4)) j + ((w20_5)) j) (((x42_4 + 1)) : Int).toNat by omega) rfl
abbrev V193_Row_Row : vV := [(0, 10, [(4, 0), (4, 0), (4, 0), (4, 0), (0, 0), (4, 0), (0, 0), (2, 0), (0, 0)]), (0, 7, [(4, 0), (0, 0), (1, 0), (0, 0), (0, 0)]), (0, 7, [(4, 0), (0, 0), (1, 0), (0, 0), (0, 0)]), (1, 0, []), (1, 0, []), (0, 5, [(4, 0), (4, 0), (4, 0), (4, 0), (0, 0), (0, 0), (0, 0), (4, 0), (4, 0), (0, 0), (0, 0), (0, 0), (0, 0), (0, 0), (0, 0), (0, 0), (0, 0), (0, 0), (0, 0)]), (0, 7, [(4, 0), (0, 0), (1, 0), (0, 0), (0, 0)]), (1, 0, []), (1, 1, []), (1, 1, []), (1, 1, []), (1, 1, []), (1, 1, []), (1, 1, [])]
/-- Tags.packAlone: this, #1, #2, #1.bytes, #2.bytes, this.finder, this.finder.data, this.finder.data.bytes, this.settings, this.finder.heads, this.finder.back, this.finder.literals, this.finder.lengths, this.finder.distances -/
theorem C193_Row_Row {σE : rS} {D N : Nat → Nat} {F : hF} {A : hA} {d c s : Nat} {Q : wQ} (H : HW V193_Row_Row σE D N F A)  (pf3 : F 1 0 = (D 3 : Int)) (pf4 : F 2 0 = (D 4 : Int)) (pf5 : F 0 1 = (D 5 : Int)) (pf6 : F 5 0 = (D 6 : Int)) (pf7 : F 6 0 = (D 7 : Int)) (pf8 : F 0 0 = (D 8 : Int)) (pf9 : F 5 7 = (D 9 : Int)) (pf10 : F 5 8 = (D 10 : Int)) (pf11 : F 5 1 = (D 11 : Int)) (pf12 : F 5 2 = (D 12 : Int)) (pf13 : F 5 3 = (D 13 : Int)) (n3 : Int) (en3 : (N 3 : Int) = n3) (n4 : Int) (en4 : (N 4 : Int) = n4) (n7 : Int) (en7 : (N 7 : Int) = n7) (n8 : Int) (en8 : (N 8 : Int) = n8) (n9 : Int) (en9 : (N 9 : Int) = n9) (n10 : Int) (en10 : (N 10 : Int) = n10) (n11 : Int) (en11 : (N 11 : Int) = n11) (n12 : Int) (en12 : (N 12 : Int) = n12) (n13 : Int) (en13 : (N 13 : Int) = n13) (u1_1 : Int) (eu1_1 : F 1 1 = u1_1) (u2_1 : Int) (eu2_1 : F 2 1 = u2_1) (u6_1 : Int) (eu6_1 : F 6 1 = u6_1) (h0 : 0 ≤ (u1_1) ∧ (u1_1) ≤ (n3) ∧ (n3) ≤ 65536) (h1 : 0 ≤ (u2_1) ∧ (u2_1) ≤ (n4) ∧ (n4) ≤ 65536) (h2 : 0 ≤ (u6_1) ∧ (u6_1) ≤ (n7) ∧ (n7) ≤ 65536) (h3 : (n8) = 10) (h4 : (u2_1) ≤ 16384) (h5 : (n9) = 0 ∨ (n9) = 2048) (h6 : (n10) ≤ 16384) (h7 : (n11) = (n12) ∧ (n13) = (n12) ∧ (n12) ≤ 65536 ∧ ((n12) = 0 ∨ 64 ≤ (n12)) ∧ lgq ((n12)) = 0) (k : ∀ (σ : rS) (D' N' : Nat → Nat) (F' : hF) (A' : hA) (c' s' : Nat), HW V193_Row_Row σ D' N' F' A' → OUT (V193_Row_Row).length D N σE c s D' N' σ c' s' → SD [3, 7, 9, 10, 11, 12, 13] D D' → SD [3, 7, 9, 10, 11, 12, 13] N N' → SF [(1, 0), (1, 1), (1, 2), (5, 1), (5, 2), (5, 3), (5, 4), (5, 5), (5, 6), (5, 7), (5, 8), (5, 9), (5, 10), (5, 11), (5, 12), (5, 13), (5, 14), (5, 15), (5, 16), (5, 17), (5, 18), (6, 0), (6, 1), (6, 2), (6, 3), (6, 4)] F F' → SA [3, 7, 9, 10, 11, 12, 13] A A' → F' 1 0 = (D' 3 : Int) → F' 6 0 = (D' 7 : Int) → F' 5 7 = (D' 9 : Int) → F' 5 8 = (D' 10 : Int) → F' 5 1 = (D' 11 : Int) → F' 5 2 = (D' 12 : Int) → F' 5 3 = (D' 13 : Int) → ∀ m3 : Int, (N' 3 : Int) = m3 → ∀ m7 : Int, (N' 7 : Int) = m7 → ∀ m9 : Int, (N' 9 : Int) = m9 → ∀ m10 : Int, (N' 10 : Int) = m10 → ∀ m11 : Int, (N' 11 : Int) = m11 → ∀ m12 : Int, (N' 12 : Int) = m12 → ∀ m13 : Int, (N' 13 : Int) = m13 → ∀ y1_1 : Int, F' 1 1 = y1_1 → ∀ y6_1 : Int, F' 6 1 = y6_1 → (0 ≤ (y1_1) ∧ (y1_1) ≤ (m3) ∧ (m3) ≤ 65536) → (0 ≤ (y6_1) ∧ (y6_1) ≤ (m7) ∧ (m7) ≤ 65536) → ((m9) = 0 ∨ (m9) = 2048) → ((m10) ≤ 16384) → ((m11) = (m12) ∧ (m13) = (m12) ∧ (m12) ≤ 65536 ∧ ((m12) = 0 ∨ 64 ≤ (m12)) ∧ lgq ((m12)) = 0) → Q none σ c' s') : Ew 193 (d + 5) 0 (rargs 0 [.ref (D 0), .ref (D 1), .ref (D 2)]) [] σE c s Q := by
  have O := OUT_refl (n := (V193_Row_Row).length) (D := D) (N := N) (σ := σE) (c := c) (s := s)
  have HE := H
  have r1 : (-2147483648 : Int) ≤ u1_1 ∧ u1_1 ≤ 2147483647 := by have h1 : (-2147483648 : Int) ≤ F 1 1 ∧ F 1 1 ≤ 2147483647 := H.krg 1 1 (by decide); rw [show F 1 1 = u1_1 from (eu1_1)] at h1; exact h1
  have r2 : (-2147483648 : Int) ≤ u2_1 ∧ u2_1 ≤ 2147483647 := by have h1 : (-2147483648 : Int) ≤ F 2 1 ∧ F 2 1 ≤ 2147483647 := H.krg 2 1 (by decide); rw [show F 2 1 = u2_1 from (eu2_1)] at h1; exact h1
  have r3 : (-2147483648 : Int) ≤ u6_1 ∧ u6_1 ≤ 2147483647 := by have h1 : (-2147483648 : Int) ≤ F 6 1 ∧ F 6 1 ≤ 2147483647 := H.krg 6 1 (by decide); rw [show F 6 1 = u6_1 from (eu6_1)] at h1; exact h1
  have r4 : (0 : Int) ≤ n3 ∧ n3 ≤ 1000000 := by have h1 := H.nle 3 (by decide); have h2 : (N 3 : Int) = n3 := en3; omega
  have r5 : (0 : Int) ≤ n4 ∧ n4 ≤ 1000000 := by have h1 := H.nle 4 (by decide); have h2 : (N 4 : Int) = n4 := en4; omega
  have r6 : (0 : Int) ≤ n7 ∧ n7 ≤ 1000000 := by have h1 := H.nle 7 (by decide); have h2 : (N 7 : Int) = n7 := en7; omega
  have r7 : (0 : Int) ≤ n8 ∧ n8 ≤ 1000000 := by have h1 := H.nle 8 (by decide); have h2 : (N 8 : Int) = n8 := en8; omega
  have r8 : (0 : Int) ≤ n9 ∧ n9 ≤ 1000000 := by have h1 := H.nle 9 (by decide); have h2 : (N 9 : Int) = n9 := en9; omega
  have r9 : (0 : Int) ≤ n10 ∧ n10 ≤ 1000000 := by have h1 := H.nle 10 (by decide); have h2 : (N 10 : Int) = n10 := en10; omega
  have r10 : (0 : Int) ≤ n11 ∧ n11 ≤ 1000000 := by have h1 := H.nle 11 (by decide); have h2 : (N 11 : Int) = n11 := en11; omega
  have r11 : (0 : Int) ≤ n12 ∧ n12 ≤ 1000000 := by have h1 := H.nle 12 (by decide); have h2 : (N 12 : Int) = n12 := en12; omega
  have r12 : (0 : Int) ≤ n13 ∧ n13 ≤ 1000000 := by have h1 := H.nle 13 (by decide); have h2 : (N 13 : Int) = n13 := en13; omega
  refine Ew_of (pc' := 1) (fun _ => x_aload_n rfl rfl) ?_
  refine v_g H (o := 0) (v := .ref (D 5)) rfl rfl rfl rfl rfl (vrf (pf5)) ?_
  refine v_g H (o := 5) (v := .ref (D 6)) rfl rfl rfl rfl rfl (vrf (pf6)) ?_
  refine Ew_of (pc' := 8) (fun _ => x_aload_n rfl rfl) ?_
  refine v_inv H (o := 6) rfl rfl rfl rfl rfl rfl (by rfl) (C158_Row (D := pul [6, 2, 7, 4] D) (N := pul [6, 2, 7, 4] N) (HW_sub H (VS_of (show vsub V193_Row_Row V158_Row [6, 2, 7, 4] = true by decide +kernel))) (pf7) (pf4) (n7) (en7) (n4) (en4) (u6_1) ((eu6_1)) (u2_1) ((eu2_1)) (show 0 ≤ (u6_1) ∧ (u6_1) ≤ (n7) ∧ (n7) ≤ 65536 by omega) (show 0 ≤ (u2_1) ∧ (u2_1) ≤ (n4) ∧ (n4) ≤ 65536 by omega) (fun σ13 D13' N13' F13' A13' c13 s13 H' O' hD13 hN13 hS13 hA13 pm13_2 m13_2 em13_2 y13_0_1 ey13_0_1 pz13_0 pz13_1 => ⟨rfl, ?_⟩))
  refine v_backM (c := c) (s := s) H (show vsub V193_Row_Row V158_Row [6, 2, 7, 4] = true by decide +kernel) H' O' hD13 (show vmov V193_Row_Row [6, 2, 7, 4] [2] = true by decide +kernel) (fun D13 N13 F13 A13 H O' eD13 eN13 eF13 eA13 => ?_)
  have O := OUT_trans O O'
  -- Row.become
  have pf13_0_0 : F13 0 0 = (D13 8 : Int) := ((show F13 0 0 = F 0 0 from (eF13 0 0))).trans ((pf8).trans (congrArg (fun q : Nat => (q : Int)) ((show D13 8 = D 8 from (eD13 8))).symm))
  have pf13_0_1 : F13 0 1 = (D13 5 : Int) := ((show F13 0 1 = F 0 1 from (eF13 0 1))).trans ((pf5).trans (congrArg (fun q : Nat => (q : Int)) ((show D13 5 = D 5 from (eD13 5))).symm))
  have pf13_1_0 : F13 1 0 = (D13 3 : Int) := ((show F13 1 0 = F 1 0 from (eF13 1 0))).trans ((pf3).trans (congrArg (fun q : Nat => (q : Int)) ((show D13 3 = D 3 from (eD13 3))).symm))
  have pf13_2_0 : F13 2 0 = (D13 4 : Int) := ((show F13 2 0 = F 2 0 from (eF13 2 0).trans (hS13 1 0 rfl))).trans ((pf4).trans (congrArg (fun q : Nat => (q : Int)) ((show D13 4 = D 4 from (eD13 4).trans (hD13 3 rfl))).symm))
  have pf13_5_0 : F13 5 0 = (D13 6 : Int) := ((show F13 5 0 = F 5 0 from (eF13 5 0))).trans ((pf6).trans (congrArg (fun q : Nat => (q : Int)) ((show D13 6 = D 6 from (eD13 6).trans (hD13 0 rfl))).symm))
  have pf13_5_1 : F13 5 1 = (D13 11 : Int) := ((show F13 5 1 = F 5 1 from (eF13 5 1))).trans ((pf11).trans (congrArg (fun q : Nat => (q : Int)) ((show D13 11 = D 11 from (eD13 11))).symm))
  have pf13_5_2 : F13 5 2 = (D13 12 : Int) := ((show F13 5 2 = F 5 2 from (eF13 5 2))).trans ((pf12).trans (congrArg (fun q : Nat => (q : Int)) ((show D13 12 = D 12 from (eD13 12))).symm))
  have pf13_5_3 : F13 5 3 = (D13 13 : Int) := ((show F13 5 3 = F 5 3 from (eF13 5 3))).trans ((pf13).trans (congrArg (fun q : Nat => (q : Int)) ((show D13 13 = D 13 from (eD13 13))).symm))
  have pf13_5_7 : F13 5 7 = (D13 9 : Int) := ((show F13 5 7 = F 5 7 from (eF13 5 7))).trans ((pf9).trans (congrArg (fun q : Nat => (q : Int)) ((show D13 9 = D 9 from (eD13 9))).symm))
  have pf13_5_8 : F13 5 8 = (D13 10 : Int) := ((show F13 5 8 = F 5 8 from (eF13 5 8))).trans ((pf10).trans (congrArg (fun q : Nat => (q : Int)) ((show D13 10 = D 10 from (eD13 10))).symm))
  have pf13_6_0 : F13 6 0 = (D13 7 : Int) := (eF13 6 0).trans (pm13_2.trans (congrArg (fun q : Nat => (q : Int)) (eD13 7).symm))
  have r14 : (0 : Int) ≤ m13_2 ∧ m13_2 ≤ 1000000 := by have h1 := H.nle 7 (by decide); have h2 : (N13 7 : Int) = m13_2 := (congrArg (fun q : Nat => (q : Int)) (eN13 7)).trans em13_2; omega
  have r15 : (-2147483648 : Int) ≤ y13_0_1 ∧ y13_0_1 ≤ 2147483647 := by have h1 : (-2147483648 : Int) ≤ F13 6 1 ∧ F13 6 1 ≤ 2147483647 := H.krg 6 1 (by decide); rw [show F13 6 1 = y13_0_1 from ((eF13 6 1).trans ey13_0_1)] at h1; exact h1
  refine Ew_of (pc' := 12) (fun _ => x_aload_n rfl rfl) ?_
  refine Ew_stk (show ([.ref (D 0)] : List Value) = [.ref (D13 0)] by rw [show D13 0 = D 0 from ((show D13 0 = D 0 from (eD13 0)))]) ?_
  refine v_g H (o := 0) (v := .ref (D13 5)) rfl rfl rfl rfl rfl (vrf (pf13_0_1)) ?_
  refine Ew_of (pc' := 16) (fun _ => x_aload_n rfl rfl) ?_
  refine Ew_stk (show ([.ref (D 0), .ref (D13 5)] : List Value) = [.ref (D13 0), .ref (D13 5)] by rw [show D13 0 = D 0 from ((show D13 0 = D 0 from (eD13 0)))]) ?_
  refine v_g H (o := 0) (v := .ref (D13 8)) rfl rfl rfl rfl rfl (vrf (pf13_0_0)) ?_
  refine Ew_of (pc' := 20) (fun _ => x_iconst rfl) ?_
  refine v_lI H (o := 8) rfl rfl rfl rfl (n := n8) ((congrArg (fun q : Nat => (q : Int)) (show N13 8 = N 8 from (eN13 8))).trans (en8)) (show 0 ≤ 0 ∧ 0 < n8 by omega) (fun v16 ev16 qv16 => ?_)
  have ev16 : (A 8) (0) = v16 := (congrFun ((show A13 8 = A 8 from (eA13 8))) (0)).symm.trans ev16
  refine Ew_of (pc' := 22) (fun _ => x_iconst rfl) ?_
  refine Ew_of (pc' := 24) (fun _ => x_ldc (z := 65535) rfl (by decide)) ?_
  have r17 : (-2147483648 : Int) ≤ F 5 6 ∧ F 5 6 ≤ 2147483647 := by have h1 : (-2147483648 : Int) ≤ F13 5 6 ∧ F13 5 6 ≤ 2147483647 := H.krg 5 6 (by decide); rw [show F13 5 6 = F 5 6 from ((show F13 5 6 = F 5 6 from (eF13 5 6)))] at h1; exact h1
  have r18 : (-2147483648 : Int) ≤ F 5 9 ∧ F 5 9 ≤ 2147483647 := by have h1 : (-2147483648 : Int) ≤ F13 5 9 ∧ F13 5 9 ≤ 2147483647 := H.krg 5 9 (by decide); rw [show F13 5 9 = F 5 9 from ((show F13 5 9 = F 5 9 from (eF13 5 9)))] at h1; exact h1
  have r19 : (-2147483648 : Int) ≤ F 5 10 ∧ F 5 10 ≤ 2147483647 := by have h1 : (-2147483648 : Int) ≤ F13 5 10 ∧ F13 5 10 ≤ 2147483647 := H.krg 5 10 (by decide); rw [show F13 5 10 = F 5 10 from ((show F13 5 10 = F 5 10 from (eF13 5 10)))] at h1; exact h1
  have r20 : (-2147483648 : Int) ≤ F 5 11 ∧ F 5 11 ≤ 2147483647 := by have h1 : (-2147483648 : Int) ≤ F13 5 11 ∧ F13 5 11 ≤ 2147483647 := H.krg 5 11 (by decide); rw [show F13 5 11 = F 5 11 from ((show F13 5 11 = F 5 11 from (eF13 5 11)))] at h1; exact h1
  refine v_inv H (o := 5) rfl rfl rfl rfl rfl rfl (by rfl) (C121 (D := pul [5, 9] D13) (N := pul [5, 9] N13) (HW_sub H (VS_of (show vsub V193_Row_Row V121 [5, 9] = true by decide +kernel))) (pf13_5_7) (n9) ((congrArg (fun q : Nat => (q : Int)) (show N13 9 = N 9 from (eN13 9))).trans (en9)) (F 5 6) (((show F13 5 6 = F 5 6 from (eF13 5 6)))) (F 5 9) (((show F13 5 9 = F 5 9 from (eF13 5 9)))) (F 5 10) (((show F13 5 10 = F 5 10 from (eF13 5 10)))) (F 5 11) (((show F13 5 11 = F 5 11 from (eF13 5 11)))) (A 9) ((show A13 9 = A 9 from (eA13 9))) (show inr (v16) by omega) (show inr (4) by omega) (show inr (65535) by omega) (show (n9) = 0 ∨ (n9) = 2048 by omega) (fun σ21 D21' N21' F21' A21' c21 s21 H' O' hD21 hN21 hS21 hA21 pm21_1 m21_1 em21_1 y21_0_6 ey21_0_6 y21_0_9 ey21_0_9 y21_0_10 ey21_0_10 y21_0_11 ey21_0_11 w21_1 ew21_1 pz21_0 pz21_1 pz21_2 pz21_3 => ⟨rfl, ?_⟩))
  refine v_backM (c := (c + c13)) (s := (s + s13)) H (show vsub V193_Row_Row V121 [5, 9] = true by decide +kernel) H' O' hD21 (show vmov V193_Row_Row [5, 9] [1] = true by decide +kernel) (fun D21 N21 F21 A21 H O' eD21 eN21 eF21 eA21 => ?_)
  have O := OUT_trans O O'
  -- Finder.begin
  have pf21_0_0 : F21 0 0 = (D21 8 : Int) := ((show F21 0 0 = F13 0 0 from (eF21 0 0))).trans ((pf13_0_0).trans (congrArg (fun q : Nat => (q : Int)) ((show D21 8 = D13 8 from (eD21 8))).symm))
  have pf21_0_1 : F21 0 1 = (D21 5 : Int) := ((show F21 0 1 = F13 0 1 from (eF21 0 1))).trans ((pf13_0_1).trans (congrArg (fun q : Nat => (q : Int)) ((show D21 5 = D13 5 from (eD21 5).trans (hD21 0 rfl))).symm))
  have pf21_1_0 : F21 1 0 = (D21 3 : Int) := ((show F21 1 0 = F13 1 0 from (eF21 1 0))).trans ((pf13_1_0).trans (congrArg (fun q : Nat => (q : Int)) ((show D21 3 = D13 3 from (eD21 3))).symm))
  have pf21_2_0 : F21 2 0 = (D21 4 : Int) := ((show F21 2 0 = F13 2 0 from (eF21 2 0))).trans ((pf13_2_0).trans (congrArg (fun q : Nat => (q : Int)) ((show D21 4 = D13 4 from (eD21 4))).symm))
  have pf21_5_0 : F21 5 0 = (D21 6 : Int) := ((show F21 5 0 = F13 5 0 from (eF21 5 0).trans (hS21 0 0 rfl))).trans ((pf13_5_0).trans (congrArg (fun q : Nat => (q : Int)) ((show D21 6 = D13 6 from (eD21 6))).symm))
  have pf21_5_1 : F21 5 1 = (D21 11 : Int) := ((show F21 5 1 = F13 5 1 from (eF21 5 1).trans (hS21 0 1 rfl))).trans ((pf13_5_1).trans (congrArg (fun q : Nat => (q : Int)) ((show D21 11 = D13 11 from (eD21 11))).symm))
  have pf21_5_2 : F21 5 2 = (D21 12 : Int) := ((show F21 5 2 = F13 5 2 from (eF21 5 2).trans (hS21 0 2 rfl))).trans ((pf13_5_2).trans (congrArg (fun q : Nat => (q : Int)) ((show D21 12 = D13 12 from (eD21 12))).symm))
  have pf21_5_3 : F21 5 3 = (D21 13 : Int) := ((show F21 5 3 = F13 5 3 from (eF21 5 3).trans (hS21 0 3 rfl))).trans ((pf13_5_3).trans (congrArg (fun q : Nat => (q : Int)) ((show D21 13 = D13 13 from (eD21 13))).symm))
  have pf21_5_7 : F21 5 7 = (D21 9 : Int) := (eF21 5 7).trans (pm21_1.trans (congrArg (fun q : Nat => (q : Int)) (eD21 9).symm))
  have pf21_5_8 : F21 5 8 = (D21 10 : Int) := ((show F21 5 8 = F13 5 8 from (eF21 5 8).trans (hS21 0 8 rfl))).trans ((pf13_5_8).trans (congrArg (fun q : Nat => (q : Int)) ((show D21 10 = D13 10 from (eD21 10))).symm))
  have pf21_6_0 : F21 6 0 = (D21 7 : Int) := ((show F21 6 0 = F13 6 0 from (eF21 6 0))).trans ((pf13_6_0).trans (congrArg (fun q : Nat => (q : Int)) ((show D21 7 = D13 7 from (eD21 7))).symm))
  have r22 : (0 : Int) ≤ m21_1 ∧ m21_1 ≤ 1000000 := by have h1 := H.nle 9 (by decide); have h2 : (N21 9 : Int) = m21_1 := (congrArg (fun q : Nat => (q : Int)) (eN21 9)).trans em21_1; omega
  have r23 : (-2147483648 : Int) ≤ y21_0_6 ∧ y21_0_6 ≤ 2147483647 := by have h1 : (-2147483648 : Int) ≤ F21 5 6 ∧ F21 5 6 ≤ 2147483647 := H.krg 5 6 (by decide); rw [show F21 5 6 = y21_0_6 from ((eF21 5 6).trans ey21_0_6)] at h1; exact h1
  have r24 : (-2147483648 : Int) ≤ y21_0_9 ∧ y21_0_9 ≤ 2147483647 := by have h1 : (-2147483648 : Int) ≤ F21 5 9 ∧ F21 5 9 ≤ 2147483647 := H.krg 5 9 (by decide); rw [show F21 5 9 = y21_0_9 from ((eF21 5 9).trans ey21_0_9)] at h1; exact h1
  have r25 : (-2147483648 : Int) ≤ y21_0_10 ∧ y21_0_10 ≤ 2147483647 := by have h1 : (-2147483648 : Int) ≤ F21 5 10 ∧ F21 5 10 ≤ 2147483647 := H.krg 5 10 (by decide); rw [show F21 5 10 = y21_0_10 from ((eF21 5 10).trans ey21_0_10)] at h1; exact h1
  have r26 : (-2147483648 : Int) ≤ y21_0_11 ∧ y21_0_11 ≤ 2147483647 := by have h1 : (-2147483648 : Int) ≤ F21 5 11 ∧ F21 5 11 ≤ 2147483647 := H.krg 5 11 (by decide); rw [show F21 5 11 = y21_0_11 from ((eF21 5 11).trans ey21_0_11)] at h1; exact h1
  have hb0 : BKI ((A13 7)) ((A 10)) ((y21_0_10)) ((y21_0_6)) := by rw [pz21_1]; exact BKI_0
  have hh0 : HDI ((A13 7)) ((w21_1)) ((y21_0_10)) ((y21_0_6)) := by rw [pz21_1]; exact HDI_0 pz21_3
  refine Ew_of (pc' := 28) (fun _ => x_aload_n rfl rfl) ?_
  refine Ew_of (pc' := 29) (fun _ => x_aload_n rfl rfl) ?_
  refine Ew_stk (show ([.ref (D 1), .ref (D 0)] : List Value) = [.ref (D21 1), .ref (D21 0)] by rw [show D21 0 = D 0 from (((show D21 0 = D13 0 from (eD21 0))).trans ((show D13 0 = D 0 from (eD13 0)))), show D21 1 = D 1 from (((show D21 1 = D13 1 from (eD21 1))).trans ((show D13 1 = D 1 from (eD13 1))))]) ?_
  refine v_inv H (o := 0) rfl rfl rfl rfl rfl rfl (by rfl) (C194_Row (D := pul [0, 1, 3, 5, 6, 7, 10, 9, 11, 12, 13] D21) (N := pul [0, 1, 3, 5, 6, 7, 10, 9, 11, 12, 13] N21) (HW_sub H (VS_of (show vsub V193_Row_Row V194_Row [0, 1, 3, 5, 6, 7, 10, 9, 11, 12, 13] = true by decide +kernel))) (pf21_1_0) (pf21_0_1) (pf21_5_0) (pf21_6_0) (pf21_5_8) (pf21_5_7) (pf21_5_1) (pf21_5_2) (pf21_5_3) (n3) ((congrArg (fun q : Nat => (q : Int)) (show N21 3 = N13 3 from (eN21 3))).trans ((congrArg (fun q : Nat => (q : Int)) (show N13 3 = N 3 from (eN13 3))).trans (en3))) (m13_2) ((congrArg (fun q : Nat => (q : Int)) (show N21 7 = N13 7 from (eN21 7))).trans ((congrArg (fun q : Nat => (q : Int)) (eN13 7)).trans em13_2)) (n10) ((congrArg (fun q : Nat => (q : Int)) (show N21 10 = N13 10 from (eN21 10))).trans ((congrArg (fun q : Nat => (q : Int)) (show N13 10 = N 10 from (eN13 10))).trans (en10))) (m21_1) ((congrArg (fun q : Nat => (q : Int)) (eN21 9)).trans em21_1) (n11) ((congrArg (fun q : Nat => (q : Int)) (show N21 11 = N13 11 from (eN21 11))).trans ((congrArg (fun q : Nat => (q : Int)) (show N13 11 = N 11 from (eN13 11))).trans (en11))) (n12) ((congrArg (fun q : Nat => (q : Int)) (show N21 12 = N13 12 from (eN21 12))).trans ((congrArg (fun q : Nat => (q : Int)) (show N13 12 = N 12 from (eN13 12))).trans (en12))) (n13) ((congrArg (fun q : Nat => (q : Int)) (show N21 13 = N13 13 from (eN21 13))).trans ((congrArg (fun q : Nat => (q : Int)) (show N13 13 = N 13 from (eN13 13))).trans (en13))) (u1_1) (((((show F21 1 1 = F13 1 1 from (eF21 1 1))).trans ((show F13 1 1 = F 1 1 from (eF13 1 1)))).trans (eu1_1))) (y21_0_6) (((eF21 5 6).trans ey21_0_6)) (y21_0_10) (((eF21 5 10).trans ey21_0_10)) (y13_0_1) ((((show F21 6 1 = F13 6 1 from (eF21 6 1))).trans ((eF13 6 1).trans ey13_0_1))) (A13 7) ((show A21 7 = A13 7 from (eA21 7))) (A 10) (((show A21 10 = A13 10 from (eA21 10))).trans ((show A13 10 = A 10 from (eA13 10)))) (w21_1) ((eA21 9).trans ew21_1) (show 0 ≤ (u1_1) ∧ (u1_1) ≤ (n3) ∧ (n3) ≤ 65536 by omega) (show 0 ≤ (y13_0_1) ∧ (y13_0_1) ≤ (m13_2) ∧ (m13_2) ≤ 65536 ∧ (y13_0_1) ≤ 16384 by omega) (show (y21_0_10) = 4 by omega) (show BKI ((A13 7)) ((A 10)) ((y21_0_10)) ((y21_0_6)) by assumption) (show HDI ((A13 7)) ((w21_1)) ((y21_0_10)) ((y21_0_6)) by assumption) (show (n11) = (n12) ∧ (n13) = (n12) ∧ (n12) ≤ 65536 ∧ ((n12) = 0 ∨ 64 ≤ (n12)) ∧ lgq ((n12)) = 0 by omega) (show (m21_1) = 2048 by omega) (show 0 ≤ (y21_0_6) ∧ (y21_0_6) ≤ (n10) ∧ (n10) ≤ 16384 by omega) (fun σ27 D27' N27' F27' A27' c27 s27 H' O' hD27 hN27 hS27 hA27 pm27_2 pm27_6 pm27_8 pm27_9 pm27_10 m27_2 em27_2 m27_6 em27_6 m27_8 em27_8 m27_9 em27_9 m27_10 em27_10 y27_1_1 ey27_1_1 y27_3_6 ey27_3_6 w27_6 ew27_6 w27_7 ew27_7 pz27_0 pz27_1 pz27_2 pz27_3 pz27_4 pz27_5 => ⟨rfl, ?_⟩))
  refine v_backM (c := ((c + c13) + c21)) (s := ((s + s13) + s21)) H (show vsub V193_Row_Row V194_Row [0, 1, 3, 5, 6, 7, 10, 9, 11, 12, 13] = true by decide +kernel) H' O' hD27 (show vmov V193_Row_Row [0, 1, 3, 5, 6, 7, 10, 9, 11, 12, 13] [2, 6, 8, 9, 10] = true by decide +kernel) (fun D27 N27 F27 A27 H O' eD27 eN27 eF27 eA27 => ?_)
  have O := OUT_trans O O'
  -- Tags.packBlock
  have pf27_0_0 : F27 0 0 = (D27 8 : Int) := ((show F27 0 0 = F21 0 0 from (eF27 0 0).trans (hS27 0 0 rfl))).trans ((pf21_0_0).trans (congrArg (fun q : Nat => (q : Int)) ((show D27 8 = D21 8 from (eD27 8))).symm))
  have pf27_0_1 : F27 0 1 = (D27 5 : Int) := ((show F27 0 1 = F21 0 1 from (eF27 0 1).trans (hS27 0 1 rfl))).trans ((pf21_0_1).trans (congrArg (fun q : Nat => (q : Int)) ((show D27 5 = D21 5 from (eD27 5).trans (hD27 3 rfl))).symm))
  have pf27_1_0 : F27 1 0 = (D27 3 : Int) := (eF27 1 0).trans (pm27_2.trans (congrArg (fun q : Nat => (q : Int)) (eD27 3).symm))
  have pf27_2_0 : F27 2 0 = (D27 4 : Int) := ((show F27 2 0 = F21 2 0 from (eF27 2 0))).trans ((pf21_2_0).trans (congrArg (fun q : Nat => (q : Int)) ((show D27 4 = D21 4 from (eD27 4))).symm))
  have pf27_5_0 : F27 5 0 = (D27 6 : Int) := ((show F27 5 0 = F21 5 0 from (eF27 5 0).trans (hS27 3 0 rfl))).trans ((pf21_5_0).trans (congrArg (fun q : Nat => (q : Int)) ((show D27 6 = D21 6 from (eD27 6).trans (hD27 4 rfl))).symm))
  have pf27_5_1 : F27 5 1 = (D27 11 : Int) := (eF27 5 1).trans (pm27_8.trans (congrArg (fun q : Nat => (q : Int)) (eD27 11).symm))
  have pf27_5_2 : F27 5 2 = (D27 12 : Int) := (eF27 5 2).trans (pm27_9.trans (congrArg (fun q : Nat => (q : Int)) (eD27 12).symm))
  have pf27_5_3 : F27 5 3 = (D27 13 : Int) := (eF27 5 3).trans (pm27_10.trans (congrArg (fun q : Nat => (q : Int)) (eD27 13).symm))
  have pf27_5_7 : F27 5 7 = (D27 9 : Int) := ((show F27 5 7 = F21 5 7 from (eF27 5 7).trans (hS27 3 7 rfl))).trans ((pf21_5_7).trans (congrArg (fun q : Nat => (q : Int)) ((show D27 9 = D21 9 from (eD27 9).trans (hD27 7 rfl))).symm))
  have pf27_5_8 : F27 5 8 = (D27 10 : Int) := (eF27 5 8).trans (pm27_6.trans (congrArg (fun q : Nat => (q : Int)) (eD27 10).symm))
  have pf27_6_0 : F27 6 0 = (D27 7 : Int) := ((show F27 6 0 = F21 6 0 from (eF27 6 0).trans (hS27 4 0 rfl))).trans ((pf21_6_0).trans (congrArg (fun q : Nat => (q : Int)) ((show D27 7 = D21 7 from (eD27 7).trans (hD27 5 rfl))).symm))
  have r28 : (0 : Int) ≤ m27_2 ∧ m27_2 ≤ 1000000 := by have h1 := H.nle 3 (by decide); have h2 : (N27 3 : Int) = m27_2 := (congrArg (fun q : Nat => (q : Int)) (eN27 3)).trans em27_2; omega
  have r29 : (0 : Int) ≤ m27_6 ∧ m27_6 ≤ 1000000 := by have h1 := H.nle 10 (by decide); have h2 : (N27 10 : Int) = m27_6 := (congrArg (fun q : Nat => (q : Int)) (eN27 10)).trans em27_6; omega
  have r30 : (0 : Int) ≤ m27_8 ∧ m27_8 ≤ 1000000 := by have h1 := H.nle 11 (by decide); have h2 : (N27 11 : Int) = m27_8 := (congrArg (fun q : Nat => (q : Int)) (eN27 11)).trans em27_8; omega
  have r31 : (0 : Int) ≤ m27_9 ∧ m27_9 ≤ 1000000 := by have h1 := H.nle 12 (by decide); have h2 : (N27 12 : Int) = m27_9 := (congrArg (fun q : Nat => (q : Int)) (eN27 12)).trans em27_9; omega
  have r32 : (0 : Int) ≤ m27_10 ∧ m27_10 ≤ 1000000 := by have h1 := H.nle 13 (by decide); have h2 : (N27 13 : Int) = m27_10 := (congrArg (fun q : Nat => (q : Int)) (eN27 13)).trans em27_10; omega
  have r33 : (-2147483648 : Int) ≤ y27_1_1 ∧ y27_1_1 ≤ 2147483647 := by have h1 : (-2147483648 : Int) ≤ F27 1 1 ∧ F27 1 1 ≤ 2147483647 := H.krg 1 1 (by decide); rw [show F27 1 1 = y27_1_1 from ((eF27 1 1).trans ey27_1_1)] at h1; exact h1
  have r34 : (-2147483648 : Int) ≤ y27_3_6 ∧ y27_3_6 ≤ 2147483647 := by have h1 : (-2147483648 : Int) ≤ F27 5 6 ∧ F27 5 6 ≤ 2147483647 := H.krg 5 6 (by decide); rw [show F27 5 6 = y27_3_6 from ((eF27 5 6).trans ey27_3_6)] at h1; exact h1
  exact w_ret rfl (k _ _ _ _ _ _ _ H O (SD_trans (SD_trans (SD_trans (SD_refl) (SD_glu (ι := [6, 2, 7, 4]) hD13 eD13 (by decide +kernel)) (any_subA (l' := [7]) rfl)) (SD_glu (ι := [5, 9]) hD21 eD21 (by decide +kernel)) (any_subA (l' := [9]) rfl)) (SD_glu (ι := [0, 1, 3, 5, 6, 7, 10, 9, 11, 12, 13]) hD27 eD27 (by decide +kernel)) (any_subA (l' := [3, 10, 11, 12, 13]) rfl)) (SD_trans (SD_trans (SD_trans (SD_refl) (SD_glu (ι := [6, 2, 7, 4]) hN13 eN13 (by decide +kernel)) (any_subA (l' := [7]) rfl)) (SD_glu (ι := [5, 9]) hN21 eN21 (by decide +kernel)) (any_subA (l' := [9]) rfl)) (SD_glu (ι := [0, 1, 3, 5, 6, 7, 10, 9, 11, 12, 13]) hN27 eN27 (by decide +kernel)) (any_subA (l' := [3, 10, 11, 12, 13]) rfl)) (SF_trans (SF_trans (SF_trans (SF_refl) (SF_glu (ι := [6, 2, 7, 4]) hS13 eF13 (by decide +kernel)) (any_sub (l' := [(6, 0), (6, 1), (6, 2), (6, 3), (6, 4)]) rfl)) (SF_glu (ι := [5, 9]) hS21 eF21 (by decide +kernel)) (any_sub (l' := [(5, 6), (5, 7), (5, 9), (5, 10), (5, 11)]) rfl)) (SF_glu (ι := [0, 1, 3, 5, 6, 7, 10, 9, 11, 12, 13]) hS27 eF27 (by decide +kernel)) (any_sub (l' := [(1, 0), (1, 1), (1, 2), (5, 1), (5, 2), (5, 3), (5, 4), (5, 5), (5, 6), (5, 8), (5, 12), (5, 13), (5, 14), (5, 15), (5, 16), (5, 17), (5, 18)]) rfl)) (SA_trans (SA_trans (SA_trans (SA_refl) (SA_glu (ι := [6, 2, 7, 4]) hA13 eA13 (by decide +kernel)) (any_subA (l' := [7]) rfl)) (SA_glu (ι := [5, 9]) hA21 eA21 (by decide +kernel)) (any_subA (l' := [9]) rfl)) (SA_glu (ι := [0, 1, 3, 5, 6, 7, 10, 9, 11, 12, 13]) hA27 eA27 (by decide +kernel)) (any_subA (l' := [3, 9, 10, 11, 12, 13]) rfl)) (pf27_1_0) (pf27_6_0) (pf27_5_7) (pf27_5_8) (pf27_5_1) (pf27_5_2) (pf27_5_3) (m27_2) ((congrArg (fun q : Nat => (q : Int)) (eN27 3)).trans em27_2) (m13_2) ((congrArg (fun q : Nat => (q : Int)) (show N27 7 = N21 7 from (eN27 7).trans (hN27 5 rfl))).trans ((congrArg (fun q : Nat => (q : Int)) (show N21 7 = N13 7 from (eN21 7))).trans ((congrArg (fun q : Nat => (q : Int)) (eN13 7)).trans em13_2))) (m21_1) ((congrArg (fun q : Nat => (q : Int)) (show N27 9 = N21 9 from (eN27 9).trans (hN27 7 rfl))).trans ((congrArg (fun q : Nat => (q : Int)) (eN21 9)).trans em21_1)) (m27_6) ((congrArg (fun q : Nat => (q : Int)) (eN27 10)).trans em27_6) (m27_8) ((congrArg (fun q : Nat => (q : Int)) (eN27 11)).trans em27_8) (m27_9) ((congrArg (fun q : Nat => (q : Int)) (eN27 12)).trans em27_9) (m27_10) ((congrArg (fun q : Nat => (q : Int)) (eN27 13)).trans em27_10) (y27_1_1) (((eF27 1 1).trans ey27_1_1)) (y13_0_1) (((((show F27 6 1 = F21 6 1 from (eF27 6 1).trans (hS27 4 1 rfl))).trans ((show F21 6 1 = F13 6 1 from (eF21 6 1)))).trans ((eF13 6 1).trans ey13_0_1))) (show 0 ≤ (y27_1_1) ∧ (y27_1_1) ≤ (m27_2) ∧ (m27_2) ≤ 65536 by omega) (show 0 ≤ (y13_0_1) ∧ (y13_0_1) ≤ (m13_2) ∧ (m13_2) ≤ 65536 by omega) (show (m21_1) = 0 ∨ (m21_1) = 2048 by omega) (show (m27_6) ≤ 16384 by omega) (show (m27_8) = (m27_9) ∧ (m27_10) = (m27_9) ∧ (m27_9) ≤ 65536 ∧ ((m27_9) = 0 ∨ 64 ≤ (m27_9)) ∧ lgq ((m27_9)) = 0 by omega))
abbrev V202_Row_Row : vV := [(0, 10, [(4, 0), (4, 0), (4, 0), (4, 0), (0, 0), (4, 0), (0, 0), (2, 0), (0, 0)]), (0, 7, [(4, 0), (0, 0), (1, 0), (0, 0), (0, 0)]), (0, 7, [(4, 0), (0, 0), (1, 0), (0, 0), (0, 0)]), (1, 0, []), (1, 0, []), (0, 5, [(4, 0), (4, 0), (4, 0), (4, 0), (0, 0), (0, 0), (0, 0), (4, 0), (4, 0), (0, 0), (0, 0), (0, 0), (0, 0), (0, 0), (0, 0), (0, 0), (0, 0), (0, 0), (0, 0)]), (0, 7, [(4, 0), (0, 0), (1, 0), (0, 0), (0, 0)]), (1, 0, [])]
/-- Tags.addChunk: this, #1, #2, #1.bytes, #2.bytes, this.finder, this.finder.data, this.finder.data.bytes -/
theorem C202_Row_Row {σE : rS} {D N : Nat → Nat} {F : hF} {A : hA} {d c s : Nat} {Q : wQ} (H : HW V202_Row_Row σE D N F A) (HT : STC σE) {a3 : Int} (pf3 : F 1 0 = (D 3 : Int)) (pf4 : F 2 0 = (D 4 : Int)) (pf5 : F 0 1 = (D 5 : Int)) (pf6 : F 5 0 = (D 6 : Int)) (pf7 : F 6 0 = (D 7 : Int)) (n3 : Int) (en3 : (N 3 : Int) = n3) (n4 : Int) (en4 : (N 4 : Int) = n4) (n7 : Int) (en7 : (N 7 : Int) = n7) (u1_1 : Int) (eu1_1 : F 1 1 = u1_1) (u2_1 : Int) (eu2_1 : F 2 1 = u2_1) (u6_1 : Int) (eu6_1 : F 6 1 = u6_1) (h0 : inr (a3)) (h1 : 0 ≤ (u1_1) ∧ (u1_1) ≤ (n3) ∧ (n3) ≤ 65536) (h2 : 0 ≤ (u2_1) ∧ (u2_1) ≤ (n4) ∧ (n4) ≤ 65536) (h3 : 0 ≤ (u6_1) ∧ (u6_1) ≤ (n7) ∧ (n7) ≤ 65536) (k : ∀ (σ : rS) (D' N' : Nat → Nat) (F' : hF) (A' : hA) (c' s' : Nat), HW V202_Row_Row σ D' N' F' A' → OUT (V202_Row_Row).length D N σE c s D' N' σ c' s' → SD [3] D D' → SD [3] N N' → SF [(1, 0), (1, 1), (1, 2)] F F' → SA [3] A A' → F' 1 0 = (D' 3 : Int) → ∀ m3 : Int, (N' 3 : Int) = m3 → ∀ y1_1 : Int, F' 1 1 = y1_1 → (0 ≤ (y1_1) ∧ (y1_1) ≤ (m3) ∧ (m3) ≤ 65536) → Q none σ c' s') : Ew 202 (d + 3) 0 (rargs 0 [.ref (D 0), .ref (D 1), .ref (D 2), I a3]) [] σE c s Q := by
  have O := OUT_refl (n := (V202_Row_Row).length) (D := D) (N := N) (σ := σE) (c := c) (s := s)
  have HE := H
  have r1 : (-2147483648 : Int) ≤ u1_1 ∧ u1_1 ≤ 2147483647 := by have h1 : (-2147483648 : Int) ≤ F 1 1 ∧ F 1 1 ≤ 2147483647 := H.krg 1 1 (by decide); rw [show F 1 1 = u1_1 from (eu1_1)] at h1; exact h1
  have r2 : (-2147483648 : Int) ≤ u2_1 ∧ u2_1 ≤ 2147483647 := by have h1 : (-2147483648 : Int) ≤ F 2 1 ∧ F 2 1 ≤ 2147483647 := H.krg 2 1 (by decide); rw [show F 2 1 = u2_1 from (eu2_1)] at h1; exact h1
  have r3 : (-2147483648 : Int) ≤ u6_1 ∧ u6_1 ≤ 2147483647 := by have h1 : (-2147483648 : Int) ≤ F 6 1 ∧ F 6 1 ≤ 2147483647 := H.krg 6 1 (by decide); rw [show F 6 1 = u6_1 from (eu6_1)] at h1; exact h1
  have r4 : (0 : Int) ≤ n3 ∧ n3 ≤ 1000000 := by have h1 := H.nle 3 (by decide); have h2 : (N 3 : Int) = n3 := en3; omega
  have r5 : (0 : Int) ≤ n4 ∧ n4 ≤ 1000000 := by have h1 := H.nle 4 (by decide); have h2 : (N 4 : Int) = n4 := en4; omega
  have r6 : (0 : Int) ≤ n7 ∧ n7 ≤ 1000000 := by have h1 := H.nle 7 (by decide); have h2 : (N 7 : Int) = n7 := en7; omega
  refine Ew_of (pc' := 1) (fun _ => x_aload_n rfl rfl) ?_
  refine v_g H (o := 0) (v := .ref (D 5)) rfl rfl rfl rfl rfl (vrf (pf5)) ?_
  refine v_g H (o := 5) (v := .ref (D 6)) rfl rfl rfl rfl rfl (vrf (pf6)) ?_
  refine Ew_of (pc' := 9) (fun _ => x_astore rfl) ?_
  refine Ew_of (pc' := 10) (fun _ => x_aload_n rfl (rk_o (rfl) rfl rfl)) ?_
  refine Ew_of (pc' := 11) (fun _ => x_aload_n rfl (rk_o (rfl) rfl rfl)) ?_
  refine v_g H (o := 2) (v := I (u2_1)) rfl rfl rfl rfl rfl (congrArg (fun z : Int => I z) ((eu2_1) : F 2 1 = u2_1)) ?_
  refine Ew_of (pc' := 15) (fun _ => x_iconst rfl) ?_
  refine w_iadd rfl ?_
  refine Ew_of (pc' := 18) (fun _ => x_bipush (z := 8) rfl (by decide)) ?_
  refine w_ishlA rfl (fun z7 gz7 => ?_)
  refine Ew_of (pc' := 20) (fun _ => x_iload_n rfl (rk_o (rfl) rfl rfl)) ?_
  refine w_ior rfl (fun z8 gz8 => ?_)
  refine w_i2l rfl (show inr (z8) by omega) ?_
  refine Ew_of (pc' := 23) (fun _ => x_iconst rfl) ?_
  refine v_inv H (o := 1) rfl rfl rfl rfl rfl rfl (by rfl) (C160 (D := pul [1, 3] D) (N := pul [1, 3] N) (HW_sub H (VS_of (show vsub V202_Row_Row V160 [1, 3] = true by decide +kernel))) (pf3) (n3) (en3) (u1_1) ((eu1_1)) (show inrJ (z8) by omega) (show inr (4) by omega) (show 0 ≤ (u1_1) ∧ (u1_1) ≤ (n3) ∧ (n3) ≤ 65536 by omega) (fun σ9 D9' N9' F9' A9' c9 s9 H' O' hD9 hN9 hS9 hA9 pm9_1 m9_1 em9_1 y9_0_1 ey9_0_1 pz9_0 pz9_1 => ⟨rfl, ?_⟩))
  refine v_backM (c := c) (s := s) H (show vsub V202_Row_Row V160 [1, 3] = true by decide +kernel) H' O' hD9 (show vmov V202_Row_Row [1, 3] [1] = true by decide +kernel) (fun D9 N9 F9 A9 H O' eD9 eN9 eF9 eA9 => ?_)
  have O := OUT_trans O O'
  -- Row.addNumber
  have pf9_0_1 : F9 0 1 = (D9 5 : Int) := ((show F9 0 1 = F 0 1 from (eF9 0 1))).trans ((pf5).trans (congrArg (fun q : Nat => (q : Int)) ((show D9 5 = D 5 from (eD9 5))).symm))
  have pf9_1_0 : F9 1 0 = (D9 3 : Int) := (eF9 1 0).trans (pm9_1.trans (congrArg (fun q : Nat => (q : Int)) (eD9 3).symm))
  have pf9_2_0 : F9 2 0 = (D9 4 : Int) := ((show F9 2 0 = F 2 0 from (eF9 2 0))).trans ((pf4).trans (congrArg (fun q : Nat => (q : Int)) ((show D9 4 = D 4 from (eD9 4))).symm))
  have pf9_5_0 : F9 5 0 = (D9 6 : Int) := ((show F9 5 0 = F 5 0 from (eF9 5 0))).trans ((pf6).trans (congrArg (fun q : Nat => (q : Int)) ((show D9 6 = D 6 from (eD9 6))).symm))
  have pf9_6_0 : F9 6 0 = (D9 7 : Int) := ((show F9 6 0 = F 6 0 from (eF9 6 0))).trans ((pf7).trans (congrArg (fun q : Nat => (q : Int)) ((show D9 7 = D 7 from (eD9 7))).symm))
  have r10 : (0 : Int) ≤ m9_1 ∧ m9_1 ≤ 1000000 := by have h1 := H.nle 3 (by decide); have h2 : (N9 3 : Int) = m9_1 := (congrArg (fun q : Nat => (q : Int)) (eN9 3)).trans em9_1; omega
  have r11 : (-2147483648 : Int) ≤ y9_0_1 ∧ y9_0_1 ≤ 2147483647 := by have h1 : (-2147483648 : Int) ≤ F9 1 1 ∧ F9 1 1 ≤ 2147483647 := H.krg 1 1 (by decide); rw [show F9 1 1 = y9_0_1 from ((eF9 1 1).trans ey9_0_1)] at h1; exact h1
  refine Ew_of (pc' := 27) (fun _ => x_aload_n rfl (rk_o (rfl) rfl rfl)) ?_
  refine Ew_of (pc' := 29) (fun _ => x_aload rfl rk_s) ?_
  refine Ew_stk (show ([.ref (D 6), .ref (D 1)] : List Value) = [.ref (D9 6), .ref (D9 1)] by rw [show D9 1 = D 1 from ((show D9 1 = D 1 from (eD9 1).trans (hD9 0 rfl))), show D9 6 = D 6 from ((show D9 6 = D 6 from (eD9 6)))]) ?_
  refine v_g H (o := 6) (v := .ref (D9 7)) rfl rfl rfl rfl rfl (vrf (pf9_6_0)) ?_
  refine Ew_of (pc' := 33) (fun _ => x_iconst rfl) ?_
  refine Ew_of (pc' := 35) (fun _ => x_aload rfl rk_s) ?_
  refine Ew_stk (show ([.ref (D 6), I (0), .ref (D9 7), .ref (D9 1)] : List Value) = [.ref (D9 6), I (0), .ref (D9 7), .ref (D9 1)] by rw [show D9 6 = D 6 from ((show D9 6 = D 6 from (eD9 6)))]) ?_
  refine v_g H (o := 6) (v := I (u6_1)) rfl rfl rfl rfl rfl (congrArg (fun z : Int => I z) ((((show F9 6 1 = F 6 1 from (eF9 6 1))).trans (eu6_1)) : F9 6 1 = u6_1)) ?_
  refine w_stat25 rfl rfl (by rfl) (C53_Br (D := pul [7] D9) (N := pul [7] N9) (HW_sub H (VS_of (show vsub V202_Row_Row V53_Br [7] = true by decide +kernel))) (STC_out HT HE O) (n7) ((congrArg (fun q : Nat => (q : Int)) (show N9 7 = N 7 from (eN9 7))).trans (en7)) (show inr (0) by omega) (show inr (u6_1) by omega) (show 0 ≤ (0) ∧ (0) ≤ (u6_1) ∧ (u6_1) ≤ (n7) by omega) (fun z12 σ12 F12' A12' H' O' hS12 hA12 pz12_0 => ⟨rfl, ?_⟩))
  refine v_back (c := (c + c9)) (s := (s + s9)) H (show vsub V202_Row_Row V53_Br [7] = true by decide +kernel) H' O' (fun F12 A12 H O' eF12 eA12 => ?_)
  have O := OUT_trans O O'
  -- PackHouse.polynomialSum
  refine w_stat25 rfl rfl (by rfl) (C54 (D := pul [] D9) (N := pul [] N9) (HW_sub H (VS_of (show vsub V202_Row_Row V54 [] = true by decide +kernel))) (show inr (z12) by omega) (fun z13 σ13 F13' A13' H' O' hS13 hA13 pz13_0 => ⟨rfl, ?_⟩))
  refine v_back (c := (c + c9)) (s := (s + s9)) H (show vsub V202_Row_Row V54 [] = true by decide +kernel) H' O' (fun F13 A13 H O' eF13 eA13 => ?_)
  have O := OUT_trans O O'
  -- PackHouse.maskedSum
  refine w_i2l rfl (show inr (z13) by omega) ?_
  refine Ew_of (pc' := 46) (fun _ => x_iconst rfl) ?_
  refine v_inv H (o := 1) rfl rfl rfl rfl rfl rfl (by rfl) (C160 (D := pul [1, 3] D9) (N := pul [1, 3] N9) (HW_sub H (VS_of (show vsub V202_Row_Row V160 [1, 3] = true by decide +kernel))) (((((show F13 1 0 = F12 1 0 from (eF13 1 0))).trans ((show F12 1 0 = F9 1 0 from (eF12 1 0))))).trans (pf9_1_0)) (m9_1) ((congrArg (fun q : Nat => (q : Int)) (eN9 3)).trans em9_1) (y9_0_1) (((((show F13 1 1 = F12 1 1 from (eF13 1 1))).trans ((show F12 1 1 = F9 1 1 from (eF12 1 1)))).trans ((eF9 1 1).trans ey9_0_1))) (show inrJ (z13) by omega) (show inr (4) by omega) (show 0 ≤ (y9_0_1) ∧ (y9_0_1) ≤ (m9_1) ∧ (m9_1) ≤ 65536 by omega) (fun σ14 D14' N14' F14' A14' c14 s14 H' O' hD14 hN14 hS14 hA14 pm14_1 m14_1 em14_1 y14_0_1 ey14_0_1 pz14_0 pz14_1 => ⟨rfl, ?_⟩))
  refine v_backM (c := (c + c9)) (s := (s + s9)) H (show vsub V202_Row_Row V160 [1, 3] = true by decide +kernel) H' O' hD14 (show vmov V202_Row_Row [1, 3] [1] = true by decide +kernel) (fun D14 N14 F14 A14 H O' eD14 eN14 eF14 eA14 => ?_)
  have O := OUT_trans O O'
  -- Row.addNumber
  have pf14_0_1 : F14 0 1 = (D14 5 : Int) := ((show F14 0 1 = F13 0 1 from (eF14 0 1))).trans ((((((show F13 0 1 = F12 0 1 from (eF13 0 1))).trans ((show F12 0 1 = F9 0 1 from (eF12 0 1))))).trans (pf9_0_1)).trans (congrArg (fun q : Nat => (q : Int)) ((show D14 5 = D9 5 from (eD14 5))).symm))
  have pf14_1_0 : F14 1 0 = (D14 3 : Int) := (eF14 1 0).trans (pm14_1.trans (congrArg (fun q : Nat => (q : Int)) (eD14 3).symm))
  have pf14_2_0 : F14 2 0 = (D14 4 : Int) := ((show F14 2 0 = F13 2 0 from (eF14 2 0))).trans ((((((show F13 2 0 = F12 2 0 from (eF13 2 0))).trans ((show F12 2 0 = F9 2 0 from (eF12 2 0))))).trans (pf9_2_0)).trans (congrArg (fun q : Nat => (q : Int)) ((show D14 4 = D9 4 from (eD14 4))).symm))
  have pf14_5_0 : F14 5 0 = (D14 6 : Int) := ((show F14 5 0 = F13 5 0 from (eF14 5 0))).trans ((((((show F13 5 0 = F12 5 0 from (eF13 5 0))).trans ((show F12 5 0 = F9 5 0 from (eF12 5 0))))).trans (pf9_5_0)).trans (congrArg (fun q : Nat => (q : Int)) ((show D14 6 = D9 6 from (eD14 6))).symm))
  have pf14_6_0 : F14 6 0 = (D14 7 : Int) := ((show F14 6 0 = F13 6 0 from (eF14 6 0))).trans ((((((show F13 6 0 = F12 6 0 from (eF13 6 0))).trans ((show F12 6 0 = F9 6 0 from (eF12 6 0))))).trans (pf9_6_0)).trans (congrArg (fun q : Nat => (q : Int)) ((show D14 7 = D9 7 from (eD14 7))).symm))
  have r15 : (0 : Int) ≤ m14_1 ∧ m14_1 ≤ 1000000 := by have h1 := H.nle 3 (by decide); have h2 : (N14 3 : Int) = m14_1 := (congrArg (fun q : Nat => (q : Int)) (eN14 3)).trans em14_1; omega
  have r16 : (-2147483648 : Int) ≤ y14_0_1 ∧ y14_0_1 ≤ 2147483647 := by have h1 : (-2147483648 : Int) ≤ F14 1 1 ∧ F14 1 1 ≤ 2147483647 := H.krg 1 1 (by decide); rw [show F14 1 1 = y14_0_1 from ((eF14 1 1).trans ey14_0_1)] at h1; exact h1
  refine Ew_of (pc' := 50) (fun _ => x_aload_n rfl (rk_o (rfl) rfl rfl)) ?_
  refine Ew_of (pc' := 51) (fun _ => x_aload_n rfl (rk_o (rfl) rfl rfl)) ?_
  refine Ew_stk (show ([.ref (D 2), .ref (D 1)] : List Value) = [.ref (D14 2), .ref (D14 1)] by rw [show D14 1 = D 1 from (((show D14 1 = D9 1 from (eD14 1).trans (hD14 0 rfl))).trans ((show D9 1 = D 1 from (eD9 1).trans (hD9 0 rfl)))), show D14 2 = D 2 from (((show D14 2 = D9 2 from (eD14 2))).trans ((show D9 2 = D 2 from (eD9 2))))]) ?_
  refine v_g H (o := 2) (v := .ref (D14 4)) rfl rfl rfl rfl rfl (vrf (pf14_2_0)) ?_
  refine Ew_of (pc' := 55) (fun _ => x_iconst rfl) ?_
  refine Ew_of (pc' := 56) (fun _ => x_aload_n rfl (rk_o (rfl) rfl rfl)) ?_
  refine Ew_stk (show ([.ref (D 2), I (0), .ref (D14 4), .ref (D14 1)] : List Value) = [.ref (D14 2), I (0), .ref (D14 4), .ref (D14 1)] by rw [show D14 2 = D 2 from (((show D14 2 = D9 2 from (eD14 2))).trans ((show D9 2 = D 2 from (eD9 2))))]) ?_
  refine v_g H (o := 2) (v := I (u2_1)) rfl rfl rfl rfl rfl (congrArg (fun z : Int => I z) (((((((show F14 2 1 = F13 2 1 from (eF14 2 1))).trans ((show F13 2 1 = F12 2 1 from (eF13 2 1)))).trans ((show F12 2 1 = F9 2 1 from (eF12 2 1)))).trans ((show F9 2 1 = F 2 1 from (eF9 2 1)))).trans (eu2_1)) : F14 2 1 = u2_1)) ?_
  refine v_inv H (o := 1) rfl rfl rfl rfl rfl rfl (by rfl) (C161_Br (D := pul [1, 4, 3] D14) (N := pul [1, 4, 3] N14) (HW_sub H (VS_of (show vsub V202_Row_Row V161_Br [1, 4, 3] = true by decide +kernel))) (pf14_1_0) (n4) ((congrArg (fun q : Nat => (q : Int)) (show N14 4 = N9 4 from (eN14 4))).trans ((congrArg (fun q : Nat => (q : Int)) (show N9 4 = N 4 from (eN9 4))).trans (en4))) (m14_1) ((congrArg (fun q : Nat => (q : Int)) (eN14 3)).trans em14_1) (y14_0_1) (((eF14 1 1).trans ey14_0_1)) (A14 3) (rfl) (show inr (0) by omega) (show inr (u2_1) by omega) (show 0 ≤ (y14_0_1) ∧ (y14_0_1) ≤ (m14_1) ∧ (m14_1) ≤ 65536 by omega) (show (u2_1) < 0 ∨ 0 ≤ (0) ∧ (0) + (u2_1) ≤ (n4) by omega) (fun σ17 D17' N17' F17' A17' c17 s17 H' O' hD17 hN17 hS17 hA17 pm17_2 m17_2 em17_2 y17_0_1 ey17_0_1 w17_2 ew17_2 pz17_0 pz17_1 pz17_2 => ⟨rfl, ?_⟩))
  refine v_backM (c := ((c + c9) + c14)) (s := ((s + s9) + s14)) H (show vsub V202_Row_Row V161_Br [1, 4, 3] = true by decide +kernel) H' O' hD17 (show vmov V202_Row_Row [1, 4, 3] [2] = true by decide +kernel) (fun D17 N17 F17 A17 H O' eD17 eN17 eF17 eA17 => ?_)
  have O := OUT_trans O O'
  -- Row.addPart
  have pf17_0_1 : F17 0 1 = (D17 5 : Int) := ((show F17 0 1 = F14 0 1 from (eF17 0 1))).trans ((pf14_0_1).trans (congrArg (fun q : Nat => (q : Int)) ((show D17 5 = D14 5 from (eD17 5))).symm))
  have pf17_1_0 : F17 1 0 = (D17 3 : Int) := (eF17 1 0).trans (pm17_2.trans (congrArg (fun q : Nat => (q : Int)) (eD17 3).symm))
  have pf17_2_0 : F17 2 0 = (D17 4 : Int) := ((show F17 2 0 = F14 2 0 from (eF17 2 0))).trans ((pf14_2_0).trans (congrArg (fun q : Nat => (q : Int)) ((show D17 4 = D14 4 from (eD17 4).trans (hD17 1 rfl))).symm))
  have pf17_5_0 : F17 5 0 = (D17 6 : Int) := ((show F17 5 0 = F14 5 0 from (eF17 5 0))).trans ((pf14_5_0).trans (congrArg (fun q : Nat => (q : Int)) ((show D17 6 = D14 6 from (eD17 6))).symm))
  have pf17_6_0 : F17 6 0 = (D17 7 : Int) := ((show F17 6 0 = F14 6 0 from (eF17 6 0))).trans ((pf14_6_0).trans (congrArg (fun q : Nat => (q : Int)) ((show D17 7 = D14 7 from (eD17 7))).symm))
  have r18 : (0 : Int) ≤ m17_2 ∧ m17_2 ≤ 1000000 := by have h1 := H.nle 3 (by decide); have h2 : (N17 3 : Int) = m17_2 := (congrArg (fun q : Nat => (q : Int)) (eN17 3)).trans em17_2; omega
  have r19 : (-2147483648 : Int) ≤ y17_0_1 ∧ y17_0_1 ≤ 2147483647 := by have h1 : (-2147483648 : Int) ≤ F17 1 1 ∧ F17 1 1 ≤ 2147483647 := H.krg 1 1 (by decide); rw [show F17 1 1 = y17_0_1 from ((eF17 1 1).trans ey17_0_1)] at h1; exact h1
  exact w_ret rfl (k _ _ _ _ _ _ _ H O (SD_trans (SD_trans (SD_trans (SD_refl) (SD_glu (ι := [1, 3]) hD9 eD9 (by decide +kernel)) (any_subA (l' := [3]) rfl)) (SD_glu (ι := [1, 3]) hD14 eD14 (by decide +kernel)) (any_subA (l' := [3]) rfl)) (SD_glu (ι := [1, 4, 3]) hD17 eD17 (by decide +kernel)) (any_subA (l' := [3]) rfl)) (SD_trans (SD_trans (SD_trans (SD_refl) (SD_glu (ι := [1, 3]) hN9 eN9 (by decide +kernel)) (any_subA (l' := [3]) rfl)) (SD_glu (ι := [1, 3]) hN14 eN14 (by decide +kernel)) (any_subA (l' := [3]) rfl)) (SD_glu (ι := [1, 4, 3]) hN17 eN17 (by decide +kernel)) (any_subA (l' := [3]) rfl)) (SF_trans (SF_trans (SF_trans (SF_trans (SF_trans (SF_refl) (SF_glu (ι := [1, 3]) hS9 eF9 (by decide +kernel)) (any_sub (l' := [(1, 0), (1, 1), (1, 2)]) rfl)) (SF_glu (ι := [7]) hS12 eF12 (by decide +kernel)) (any_sub (l' := []) rfl)) (SF_glu (ι := []) hS13 eF13 (by decide +kernel)) (any_sub (l' := []) rfl)) (SF_glu (ι := [1, 3]) hS14 eF14 (by decide +kernel)) (any_sub (l' := [(1, 0), (1, 1), (1, 2)]) rfl)) (SF_glu (ι := [1, 4, 3]) hS17 eF17 (by decide +kernel)) (any_sub (l' := [(1, 0), (1, 1), (1, 2)]) rfl)) (SA_trans (SA_trans (SA_trans (SA_trans (SA_trans (SA_refl) (SA_glu (ι := [1, 3]) hA9 eA9 (by decide +kernel)) (any_subA (l' := [3]) rfl)) (SA_glu (ι := [7]) hA12 eA12 (by decide +kernel)) (any_subA (l' := []) rfl)) (SA_glu (ι := []) hA13 eA13 (by decide +kernel)) (any_subA (l' := []) rfl)) (SA_glu (ι := [1, 3]) hA14 eA14 (by decide +kernel)) (any_subA (l' := [3]) rfl)) (SA_glu (ι := [1, 4, 3]) hA17 eA17 (by decide +kernel)) (any_subA (l' := [3]) rfl)) (pf17_1_0) (m17_2) ((congrArg (fun q : Nat => (q : Int)) (eN17 3)).trans em17_2) (y17_0_1) (((eF17 1 1).trans ey17_0_1)) (show 0 ≤ (y17_0_1) ∧ (y17_0_1) ≤ (m17_2) ∧ (m17_2) ≤ 65536 by omega))
abbrev V202_Row_thisfinderdataa : vV := [(0, 10, [(4, 0), (4, 0), (4, 0), (4, 0), (0, 0), (4, 0), (0, 0), (2, 0), (0, 0)]), (0, 7, [(4, 0), (0, 0), (1, 0), (0, 0), (0, 0)]), (1, 0, []), (0, 5, [(4, 0), (4, 0), (4, 0), (4, 0), (0, 0), (0, 0), (0, 0), (4, 0), (4, 0), (0, 0), (0, 0), (0, 0), (0, 0), (0, 0), (0, 0), (0, 0), (0, 0), (0, 0), (0, 0)]), (0, 7, [(4, 0), (0, 0), (1, 0), (0, 0), (0, 0)]), (1, 0, [])]
/-- Tags.addChunk: this, #1, #1.bytes, this.finder, this.finder.data, this.finder.data.bytes -/
theorem C202_Row_thisfinderdataa {σE : rS} {D N : Nat → Nat} {F : hF} {A : hA} {d c s : Nat} {Q : wQ} (H : HW V202_Row_thisfinderdataa σE D N F A) (HT : STC σE) {a3 : Int} (pf2 : F 1 0 = (D 2 : Int)) (pf3 : F 0 1 = (D 3 : Int)) (pf4 : F 3 0 = (D 4 : Int)) (pf5 : F 4 0 = (D 5 : Int)) (n2 : Int) (en2 : (N 2 : Int) = n2) (n5 : Int) (en5 : (N 5 : Int) = n5) (u1_1 : Int) (eu1_1 : F 1 1 = u1_1) (u4_1 : Int) (eu4_1 : F 4 1 = u4_1) (h0 : inr (a3)) (h1 : 0 ≤ (u1_1) ∧ (u1_1) ≤ (n2) ∧ (n2) ≤ 65536) (h2 : 0 ≤ (u4_1) ∧ (u4_1) ≤ (n5) ∧ (n5) ≤ 65536) (h3 : 0 ≤ (u4_1) ∧ (u4_1) ≤ (n5) ∧ (n5) ≤ 65536) (k : ∀ (σ : rS) (D' N' : Nat → Nat) (F' : hF) (A' : hA) (c' s' : Nat), HW V202_Row_thisfinderdataa σ D' N' F' A' → OUT (V202_Row_thisfinderdataa).length D N σE c s D' N' σ c' s' → SD [2] D D' → SD [2] N N' → SF [(1, 0), (1, 1), (1, 2)] F F' → SA [2] A A' → F' 1 0 = (D' 2 : Int) → ∀ m2 : Int, (N' 2 : Int) = m2 → ∀ y1_1 : Int, F' 1 1 = y1_1 → (0 ≤ (y1_1) ∧ (y1_1) ≤ (m2) ∧ (m2) ≤ 65536) → Q none σ c' s') : Ew 202 (d + 3) 0 (rargs 0 [.ref (D 0), .ref (D 1), .ref (D 4), I a3]) [] σE c s Q := by
  have O := OUT_refl (n := (V202_Row_thisfinderdataa).length) (D := D) (N := N) (σ := σE) (c := c) (s := s)
  have HE := H
  have r1 : (-2147483648 : Int) ≤ u1_1 ∧ u1_1 ≤ 2147483647 := by have h1 : (-2147483648 : Int) ≤ F 1 1 ∧ F 1 1 ≤ 2147483647 := H.krg 1 1 (by decide); rw [show F 1 1 = u1_1 from (eu1_1)] at h1; exact h1
  have r2 : (-2147483648 : Int) ≤ u4_1 ∧ u4_1 ≤ 2147483647 := by have h1 : (-2147483648 : Int) ≤ F 4 1 ∧ F 4 1 ≤ 2147483647 := H.krg 4 1 (by decide); rw [show F 4 1 = u4_1 from (eu4_1)] at h1; exact h1
  have r3 : (0 : Int) ≤ n2 ∧ n2 ≤ 1000000 := by have h1 := H.nle 2 (by decide); have h2 : (N 2 : Int) = n2 := en2; omega
  have r4 : (0 : Int) ≤ n5 ∧ n5 ≤ 1000000 := by have h1 := H.nle 5 (by decide); have h2 : (N 5 : Int) = n5 := en5; omega
  refine Ew_of (pc' := 1) (fun _ => x_aload_n rfl rfl) ?_
  refine v_g H (o := 0) (v := .ref (D 3)) rfl rfl rfl rfl rfl (vrf (pf3)) ?_
  refine v_g H (o := 3) (v := .ref (D 4)) rfl rfl rfl rfl rfl (vrf (pf4)) ?_
  refine Ew_of (pc' := 9) (fun _ => x_astore rfl) ?_
  refine Ew_of (pc' := 10) (fun _ => x_aload_n rfl (rk_o (rfl) rfl rfl)) ?_
  refine Ew_of (pc' := 11) (fun _ => x_aload_n rfl (rk_o (rfl) rfl rfl)) ?_
  refine v_g H (o := 4) (v := I (u4_1)) rfl rfl rfl rfl rfl (congrArg (fun z : Int => I z) ((eu4_1) : F 4 1 = u4_1)) ?_
  refine Ew_of (pc' := 15) (fun _ => x_iconst rfl) ?_
  refine w_iadd rfl ?_
  refine Ew_of (pc' := 18) (fun _ => x_bipush (z := 8) rfl (by decide)) ?_
  refine w_ishlA rfl (fun z5 gz5 => ?_)
  refine Ew_of (pc' := 20) (fun _ => x_iload_n rfl (rk_o (rfl) rfl rfl)) ?_
  refine w_ior rfl (fun z6 gz6 => ?_)
  refine w_i2l rfl (show inr (z6) by omega) ?_
  refine Ew_of (pc' := 23) (fun _ => x_iconst rfl) ?_
  refine v_inv H (o := 1) rfl rfl rfl rfl rfl rfl (by rfl) (C160 (D := pul [1, 2] D) (N := pul [1, 2] N) (HW_sub H (VS_of (show vsub V202_Row_thisfinderdataa V160 [1, 2] = true by decide +kernel))) (pf2) (n2) (en2) (u1_1) ((eu1_1)) (show inrJ (z6) by omega) (show inr (4) by omega) (show 0 ≤ (u1_1) ∧ (u1_1) ≤ (n2) ∧ (n2) ≤ 65536 by omega) (fun σ7 D7' N7' F7' A7' c7 s7 H' O' hD7 hN7 hS7 hA7 pm7_1 m7_1 em7_1 y7_0_1 ey7_0_1 pz7_0 pz7_1 => ⟨rfl, ?_⟩))
  refine v_backM (c := c) (s := s) H (show vsub V202_Row_thisfinderdataa V160 [1, 2] = true by decide +kernel) H' O' hD7 (show vmov V202_Row_thisfinderdataa [1, 2] [1] = true by decide +kernel) (fun D7 N7 F7 A7 H O' eD7 eN7 eF7 eA7 => ?_)
  have O := OUT_trans O O'
  -- Row.addNumber
  have pf7_0_1 : F7 0 1 = (D7 3 : Int) := ((show F7 0 1 = F 0 1 from (eF7 0 1))).trans ((pf3).trans (congrArg (fun q : Nat => (q : Int)) ((show D7 3 = D 3 from (eD7 3))).symm))
  have pf7_1_0 : F7 1 0 = (D7 2 : Int) := (eF7 1 0).trans (pm7_1.trans (congrArg (fun q : Nat => (q : Int)) (eD7 2).symm))
  have pf7_3_0 : F7 3 0 = (D7 4 : Int) := ((show F7 3 0 = F 3 0 from (eF7 3 0))).trans ((pf4).trans (congrArg (fun q : Nat => (q : Int)) ((show D7 4 = D 4 from (eD7 4))).symm))
  have pf7_4_0 : F7 4 0 = (D7 5 : Int) := ((show F7 4 0 = F 4 0 from (eF7 4 0))).trans ((pf5).trans (congrArg (fun q : Nat => (q : Int)) ((show D7 5 = D 5 from (eD7 5))).symm))
  have r8 : (0 : Int) ≤ m7_1 ∧ m7_1 ≤ 1000000 := by have h1 := H.nle 2 (by decide); have h2 : (N7 2 : Int) = m7_1 := (congrArg (fun q : Nat => (q : Int)) (eN7 2)).trans em7_1; omega
  have r9 : (-2147483648 : Int) ≤ y7_0_1 ∧ y7_0_1 ≤ 2147483647 := by have h1 : (-2147483648 : Int) ≤ F7 1 1 ∧ F7 1 1 ≤ 2147483647 := H.krg 1 1 (by decide); rw [show F7 1 1 = y7_0_1 from ((eF7 1 1).trans ey7_0_1)] at h1; exact h1
  refine Ew_of (pc' := 27) (fun _ => x_aload_n rfl (rk_o (rfl) rfl rfl)) ?_
  refine Ew_of (pc' := 29) (fun _ => x_aload rfl rk_s) ?_
  refine Ew_stk (show ([.ref (D 4), .ref (D 1)] : List Value) = [.ref (D7 4), .ref (D7 1)] by rw [show D7 1 = D 1 from ((show D7 1 = D 1 from (eD7 1).trans (hD7 0 rfl))), show D7 4 = D 4 from ((show D7 4 = D 4 from (eD7 4)))]) ?_
  refine v_g H (o := 4) (v := .ref (D7 5)) rfl rfl rfl rfl rfl (vrf (pf7_4_0)) ?_
  refine Ew_of (pc' := 33) (fun _ => x_iconst rfl) ?_
  refine Ew_of (pc' := 35) (fun _ => x_aload rfl rk_s) ?_
  refine Ew_stk (show ([.ref (D 4), I (0), .ref (D7 5), .ref (D7 1)] : List Value) = [.ref (D7 4), I (0), .ref (D7 5), .ref (D7 1)] by rw [show D7 4 = D 4 from ((show D7 4 = D 4 from (eD7 4)))]) ?_
  refine v_g H (o := 4) (v := I (u4_1)) rfl rfl rfl rfl rfl (congrArg (fun z : Int => I z) ((((show F7 4 1 = F 4 1 from (eF7 4 1))).trans (eu4_1)) : F7 4 1 = u4_1)) ?_
  refine w_stat25 rfl rfl (by rfl) (C53_Br (D := pul [5] D7) (N := pul [5] N7) (HW_sub H (VS_of (show vsub V202_Row_thisfinderdataa V53_Br [5] = true by decide +kernel))) (STC_out HT HE O) (n5) ((congrArg (fun q : Nat => (q : Int)) (show N7 5 = N 5 from (eN7 5))).trans (en5)) (show inr (0) by omega) (show inr (u4_1) by omega) (show 0 ≤ (0) ∧ (0) ≤ (u4_1) ∧ (u4_1) ≤ (n5) by omega) (fun z10 σ10 F10' A10' H' O' hS10 hA10 pz10_0 => ⟨rfl, ?_⟩))
  refine v_back (c := (c + c7)) (s := (s + s7)) H (show vsub V202_Row_thisfinderdataa V53_Br [5] = true by decide +kernel) H' O' (fun F10 A10 H O' eF10 eA10 => ?_)
  have O := OUT_trans O O'
  -- PackHouse.polynomialSum
  refine w_stat25 rfl rfl (by rfl) (C54 (D := pul [] D7) (N := pul [] N7) (HW_sub H (VS_of (show vsub V202_Row_thisfinderdataa V54 [] = true by decide +kernel))) (show inr (z10) by omega) (fun z11 σ11 F11' A11' H' O' hS11 hA11 pz11_0 => ⟨rfl, ?_⟩))
  refine v_back (c := (c + c7)) (s := (s + s7)) H (show vsub V202_Row_thisfinderdataa V54 [] = true by decide +kernel) H' O' (fun F11 A11 H O' eF11 eA11 => ?_)
  have O := OUT_trans O O'
  -- PackHouse.maskedSum
  refine w_i2l rfl (show inr (z11) by omega) ?_
  refine Ew_of (pc' := 46) (fun _ => x_iconst rfl) ?_
  refine v_inv H (o := 1) rfl rfl rfl rfl rfl rfl (by rfl) (C160 (D := pul [1, 2] D7) (N := pul [1, 2] N7) (HW_sub H (VS_of (show vsub V202_Row_thisfinderdataa V160 [1, 2] = true by decide +kernel))) (((((show F11 1 0 = F10 1 0 from (eF11 1 0))).trans ((show F10 1 0 = F7 1 0 from (eF10 1 0))))).trans (pf7_1_0)) (m7_1) ((congrArg (fun q : Nat => (q : Int)) (eN7 2)).trans em7_1) (y7_0_1) (((((show F11 1 1 = F10 1 1 from (eF11 1 1))).trans ((show F10 1 1 = F7 1 1 from (eF10 1 1)))).trans ((eF7 1 1).trans ey7_0_1))) (show inrJ (z11) by omega) (show inr (4) by omega) (show 0 ≤ (y7_0_1) ∧ (y7_0_1) ≤ (m7_1) ∧ (m7_1) ≤ 65536 by omega) (fun σ12 D12' N12' F12' A12' c12 s12 H' O' hD12 hN12 hS12 hA12 pm12_1 m12_1 em12_1 y12_0_1 ey12_0_1 pz12_0 pz12_1 => ⟨rfl, ?_⟩))
  refine v_backM (c := (c + c7)) (s := (s + s7)) H (show vsub V202_Row_thisfinderdataa V160 [1, 2] = true by decide +kernel) H' O' hD12 (show vmov V202_Row_thisfinderdataa [1, 2] [1] = true by decide +kernel) (fun D12 N12 F12 A12 H O' eD12 eN12 eF12 eA12 => ?_)
  have O := OUT_trans O O'
  -- Row.addNumber
  have pf12_0_1 : F12 0 1 = (D12 3 : Int) := ((show F12 0 1 = F11 0 1 from (eF12 0 1))).trans ((((((show F11 0 1 = F10 0 1 from (eF11 0 1))).trans ((show F10 0 1 = F7 0 1 from (eF10 0 1))))).trans (pf7_0_1)).trans (congrArg (fun q : Nat => (q : Int)) ((show D12 3 = D7 3 from (eD12 3))).symm))
  have pf12_1_0 : F12 1 0 = (D12 2 : Int) := (eF12 1 0).trans (pm12_1.trans (congrArg (fun q : Nat => (q : Int)) (eD12 2).symm))
  have pf12_3_0 : F12 3 0 = (D12 4 : Int) := ((show F12 3 0 = F11 3 0 from (eF12 3 0))).trans ((((((show F11 3 0 = F10 3 0 from (eF11 3 0))).trans ((show F10 3 0 = F7 3 0 from (eF10 3 0))))).trans (pf7_3_0)).trans (congrArg (fun q : Nat => (q : Int)) ((show D12 4 = D7 4 from (eD12 4))).symm))
  have pf12_4_0 : F12 4 0 = (D12 5 : Int) := ((show F12 4 0 = F11 4 0 from (eF12 4 0))).trans ((((((show F11 4 0 = F10 4 0 from (eF11 4 0))).trans ((show F10 4 0 = F7 4 0 from (eF10 4 0))))).trans (pf7_4_0)).trans (congrArg (fun q : Nat => (q : Int)) ((show D12 5 = D7 5 from (eD12 5))).symm))
  have r13 : (0 : Int) ≤ m12_1 ∧ m12_1 ≤ 1000000 := by have h1 := H.nle 2 (by decide); have h2 : (N12 2 : Int) = m12_1 := (congrArg (fun q : Nat => (q : Int)) (eN12 2)).trans em12_1; omega
  have r14 : (-2147483648 : Int) ≤ y12_0_1 ∧ y12_0_1 ≤ 2147483647 := by have h1 : (-2147483648 : Int) ≤ F12 1 1 ∧ F12 1 1 ≤ 2147483647 := H.krg 1 1 (by decide); rw [show F12 1 1 = y12_0_1 from ((eF12 1 1).trans ey12_0_1)] at h1; exact h1
  refine Ew_of (pc' := 50) (fun _ => x_aload_n rfl (rk_o (rfl) rfl rfl)) ?_
  refine Ew_of (pc' := 51) (fun _ => x_aload_n rfl (rk_o (rfl) rfl rfl)) ?_
  refine Ew_stk (show ([.ref (D 4), .ref (D 1)] : List Value) = [.ref (D12 4), .ref (D12 1)] by rw [show D12 1 = D 1 from (((show D12 1 = D7 1 from (eD12 1).trans (hD12 0 rfl))).trans ((show D7 1 = D 1 from (eD7 1).trans (hD7 0 rfl)))), show D12 4 = D 4 from (((show D12 4 = D7 4 from (eD12 4))).trans ((show D7 4 = D 4 from (eD7 4))))]) ?_
  refine v_g H (o := 4) (v := .ref (D12 5)) rfl rfl rfl rfl rfl (vrf (pf12_4_0)) ?_
  refine Ew_of (pc' := 55) (fun _ => x_iconst rfl) ?_
  refine Ew_of (pc' := 56) (fun _ => x_aload_n rfl (rk_o (rfl) rfl rfl)) ?_
  refine Ew_stk (show ([.ref (D 4), I (0), .ref (D12 5), .ref (D12 1)] : List Value) = [.ref (D12 4), I (0), .ref (D12 5), .ref (D12 1)] by rw [show D12 4 = D 4 from (((show D12 4 = D7 4 from (eD12 4))).trans ((show D7 4 = D 4 from (eD7 4))))]) ?_
  refine v_g H (o := 4) (v := I (u4_1)) rfl rfl rfl rfl rfl (congrArg (fun z : Int => I z) (((((((show F12 4 1 = F11 4 1 from (eF12 4 1))).trans ((show F11 4 1 = F10 4 1 from (eF11 4 1)))).trans ((show F10 4 1 = F7 4 1 from (eF10 4 1)))).trans ((show F7 4 1 = F 4 1 from (eF7 4 1)))).trans (eu4_1)) : F12 4 1 = u4_1)) ?_
  refine v_inv H (o := 1) rfl rfl rfl rfl rfl rfl (by rfl) (C161_Br (D := pul [1, 5, 2] D12) (N := pul [1, 5, 2] N12) (HW_sub H (VS_of (show vsub V202_Row_thisfinderdataa V161_Br [1, 5, 2] = true by decide +kernel))) (pf12_1_0) (n5) ((congrArg (fun q : Nat => (q : Int)) (show N12 5 = N7 5 from (eN12 5))).trans ((congrArg (fun q : Nat => (q : Int)) (show N7 5 = N 5 from (eN7 5))).trans (en5))) (m12_1) ((congrArg (fun q : Nat => (q : Int)) (eN12 2)).trans em12_1) (y12_0_1) (((eF12 1 1).trans ey12_0_1)) (A12 2) (rfl) (show inr (0) by omega) (show inr (u4_1) by omega) (show 0 ≤ (y12_0_1) ∧ (y12_0_1) ≤ (m12_1) ∧ (m12_1) ≤ 65536 by omega) (show (u4_1) < 0 ∨ 0 ≤ (0) ∧ (0) + (u4_1) ≤ (n5) by omega) (fun σ15 D15' N15' F15' A15' c15 s15 H' O' hD15 hN15 hS15 hA15 pm15_2 m15_2 em15_2 y15_0_1 ey15_0_1 w15_2 ew15_2 pz15_0 pz15_1 pz15_2 => ⟨rfl, ?_⟩))
  refine v_backM (c := ((c + c7) + c12)) (s := ((s + s7) + s12)) H (show vsub V202_Row_thisfinderdataa V161_Br [1, 5, 2] = true by decide +kernel) H' O' hD15 (show vmov V202_Row_thisfinderdataa [1, 5, 2] [2] = true by decide +kernel) (fun D15 N15 F15 A15 H O' eD15 eN15 eF15 eA15 => ?_)
  have O := OUT_trans O O'
  -- Row.addPart
  have pf15_0_1 : F15 0 1 = (D15 3 : Int) := ((show F15 0 1 = F12 0 1 from (eF15 0 1))).trans ((pf12_0_1).trans (congrArg (fun q : Nat => (q : Int)) ((show D15 3 = D12 3 from (eD15 3))).symm))
  have pf15_1_0 : F15 1 0 = (D15 2 : Int) := (eF15 1 0).trans (pm15_2.trans (congrArg (fun q : Nat => (q : Int)) (eD15 2).symm))
  have pf15_3_0 : F15 3 0 = (D15 4 : Int) := ((show F15 3 0 = F12 3 0 from (eF15 3 0))).trans ((pf12_3_0).trans (congrArg (fun q : Nat => (q : Int)) ((show D15 4 = D12 4 from (eD15 4))).symm))
  have pf15_4_0 : F15 4 0 = (D15 5 : Int) := ((show F15 4 0 = F12 4 0 from (eF15 4 0))).trans ((pf12_4_0).trans (congrArg (fun q : Nat => (q : Int)) ((show D15 5 = D12 5 from (eD15 5).trans (hD15 1 rfl))).symm))
  have r16 : (0 : Int) ≤ m15_2 ∧ m15_2 ≤ 1000000 := by have h1 := H.nle 2 (by decide); have h2 : (N15 2 : Int) = m15_2 := (congrArg (fun q : Nat => (q : Int)) (eN15 2)).trans em15_2; omega
  have r17 : (-2147483648 : Int) ≤ y15_0_1 ∧ y15_0_1 ≤ 2147483647 := by have h1 : (-2147483648 : Int) ≤ F15 1 1 ∧ F15 1 1 ≤ 2147483647 := H.krg 1 1 (by decide); rw [show F15 1 1 = y15_0_1 from ((eF15 1 1).trans ey15_0_1)] at h1; exact h1
  exact w_ret rfl (k _ _ _ _ _ _ _ H O (SD_trans (SD_trans (SD_trans (SD_refl) (SD_glu (ι := [1, 2]) hD7 eD7 (by decide +kernel)) (any_subA (l' := [2]) rfl)) (SD_glu (ι := [1, 2]) hD12 eD12 (by decide +kernel)) (any_subA (l' := [2]) rfl)) (SD_glu (ι := [1, 5, 2]) hD15 eD15 (by decide +kernel)) (any_subA (l' := [2]) rfl)) (SD_trans (SD_trans (SD_trans (SD_refl) (SD_glu (ι := [1, 2]) hN7 eN7 (by decide +kernel)) (any_subA (l' := [2]) rfl)) (SD_glu (ι := [1, 2]) hN12 eN12 (by decide +kernel)) (any_subA (l' := [2]) rfl)) (SD_glu (ι := [1, 5, 2]) hN15 eN15 (by decide +kernel)) (any_subA (l' := [2]) rfl)) (SF_trans (SF_trans (SF_trans (SF_trans (SF_trans (SF_refl) (SF_glu (ι := [1, 2]) hS7 eF7 (by decide +kernel)) (any_sub (l' := [(1, 0), (1, 1), (1, 2)]) rfl)) (SF_glu (ι := [5]) hS10 eF10 (by decide +kernel)) (any_sub (l' := []) rfl)) (SF_glu (ι := []) hS11 eF11 (by decide +kernel)) (any_sub (l' := []) rfl)) (SF_glu (ι := [1, 2]) hS12 eF12 (by decide +kernel)) (any_sub (l' := [(1, 0), (1, 1), (1, 2)]) rfl)) (SF_glu (ι := [1, 5, 2]) hS15 eF15 (by decide +kernel)) (any_sub (l' := [(1, 0), (1, 1), (1, 2)]) rfl)) (SA_trans (SA_trans (SA_trans (SA_trans (SA_trans (SA_refl) (SA_glu (ι := [1, 2]) hA7 eA7 (by decide +kernel)) (any_subA (l' := [2]) rfl)) (SA_glu (ι := [5]) hA10 eA10 (by decide +kernel)) (any_subA (l' := []) rfl)) (SA_glu (ι := []) hA11 eA11 (by decide +kernel)) (any_subA (l' := []) rfl)) (SA_glu (ι := [1, 2]) hA12 eA12 (by decide +kernel)) (any_subA (l' := [2]) rfl)) (SA_glu (ι := [1, 5, 2]) hA15 eA15 (by decide +kernel)) (any_subA (l' := [2]) rfl)) (pf15_1_0) (m15_2) ((congrArg (fun q : Nat => (q : Int)) (eN15 2)).trans em15_2) (y15_0_1) (((eF15 1 1).trans ey15_0_1)) (show 0 ≤ (y15_0_1) ∧ (y15_0_1) ≤ (m15_2) ∧ (m15_2) ≤ 65536 by omega))
