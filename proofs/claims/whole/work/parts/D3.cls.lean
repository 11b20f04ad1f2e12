abbrev V198 : vV := []
/-- Tags.isShort:  -/
theorem C198 {σE : rS} {D N : Nat → Nat} {F : hF} {A : hA} {d c s : Nat} {Q : wQ} (H : HW V198 σE D N F A) {a1 a2 : Int} (h0 : inr (a1)) (h1 : inr (a2)) (h2 : (a2) = 0 ∨ (a2) = 1) (k : ∀ (z : Int) (σ : rS) (F' : hF) (A' : hA), HW V198 σ D N F' A' → OUT (V198).length D N σE c s D N σ c s → SF [] F F' → SA [] A A' → ((z) = 0 ∨ (z) = 1) → Q (some (I z)) σ c s) : Ew 198 (d + 0) 0 (rargs 0 [I a1, I a2]) [] σE c s Q := by
  have O := OUT_refl (n := (V198).length) (D := D) (N := N) (σ := σE) (c := c) (s := s)
  have HE := H
  refine Ew_of (pc' := 1) (fun _ => x_iload_n rfl rfl) ?_
  refine w_ifeq (t := 19) rfl rfl (show inr (a2) by omega) (fun b1 => ?_) (fun b1 => ?_)
  · refine Ew_of (pc' := 20) (fun _ => x_iconst rfl) ?_
    exact w_ireturn rfl (k (0) _ _ _ H O (SF_refl) (SA_refl) (show (0) = 0 ∨ (0) = 1 by omega))
  · refine Ew_of (pc' := 5) (fun _ => x_iload_n rfl rfl) ?_
    refine Ew_of (pc' := 6) (fun _ => x_iconst rfl) ?_
    refine w_icmplt (t := 19) rfl rfl (show inr (a1) by omega) (show inr (4) by omega) (fun b2 => ?_) (fun b2 => ?_)
    · refine Ew_of (pc' := 20) (fun _ => x_iconst rfl) ?_
      exact w_ireturn rfl (k (0) _ _ _ H O (SF_refl) (SA_refl) (show (0) = 0 ∨ (0) = 1 by omega))
    · refine Ew_of (pc' := 10) (fun _ => x_iload_n rfl rfl) ?_
      refine Ew_of (pc' := 12) (fun _ => x_bipush (z := 11) rfl (by decide)) ?_
      refine w_icmpgt (t := 19) rfl rfl (show inr (a1) by omega) (show inr (11) by omega) (fun b3 => ?_) (fun b3 => ?_)
      · refine Ew_of (pc' := 20) (fun _ => x_iconst rfl) ?_
        exact w_ireturn rfl (k (0) _ _ _ H O (SF_refl) (SA_refl) (show (0) = 0 ∨ (0) = 1 by omega))
      · refine Ew_of (pc' := 16) (fun _ => x_iconst rfl) ?_
        refine Ew_of (pc' := 20) (fun _ => x_goto rfl rfl) ?_
        exact w_ireturn rfl (k (1) _ _ _ H O (SF_refl) (SA_refl) (show (1) = 0 ∨ (1) = 1 by omega))
abbrev V200 : vV := []
/-- Tags.fewest:  -/
theorem C200 {σE : rS} {D N : Nat → Nat} {F : hF} {A : hA} {d c s : Nat} {Q : wQ} (H : HW V200 σE D N F A) {a1 a2 : Int} (h0 : inr (a1)) (h1 : inr (a2)) (h2 : (a2) = 0 ∨ (a2) = 1) (h3 : 0 ≤ (a1) ∧ (a1) ≤ 65536) (k : ∀ (z : Int) (σ : rS) (F' : hF) (A' : hA), HW V200 σ D N F' A' → OUT (V200).length D N σE c s D N σ c s → SF [] F F' → SA [] A A' → (inr (z)) → (0 ≤ (z) ∧ (z) ≤ 4000) → Q (some (I z)) σ c s) : Ew 200 (d + 0) 0 (rargs 0 [I a1, I a2]) [] σE c s Q := by
  have O := OUT_refl (n := (V200).length) (D := D) (N := N) (σ := σE) (c := c) (s := s)
  have HE := H
  refine Ew_of (pc' := 1) (fun _ => x_iconst rfl) ?_
  refine Ew_of (pc' := 2) (fun _ => x_iload_n rfl rfl) ?_
  refine Ew_of (pc' := 4) (fun _ => x_bipush (z := 63) rfl (by decide)) ?_
  refine w_iadd rfl ?_
  refine Ew_of (pc' := 7) (fun _ => x_bipush (z := 64) rfl (by decide)) ?_
  refine w_idiv rfl (show inr ((a1 + 63)) ∧ 0 ≤ (a1 + 63) by omega) (show inr (64) ∧ 0 < 64 by omega) ?_
  refine w_imul rfl ?_
  refine Ew_of (pc' := 10) (fun _ => x_istore_n rfl) ?_
  refine Ew_of (pc' := 11) (fun _ => x_iload_n rfl (rk_o (rfl) rfl rfl)) ?_
  refine w_ifeq (t := 19) rfl rfl (show inr (a2) by omega) (fun b1 => ?_) (fun b1 => ?_)
  · refine Ew_of (pc' := 20) (fun _ => x_iload_n rfl rk_s) ?_
    exact w_ireturn rfl (k ((3 * ((a1 + 63) / 64))) _ _ _ H O (SF_refl) (SA_refl) (show inr ((3 * ((a1 + 63) / 64))) by omega) (show 0 ≤ ((3 * ((a1 + 63) / 64))) ∧ ((3 * ((a1 + 63) / 64))) ≤ 4000 by omega))
  · refine Ew_of (pc' := 15) (fun _ => x_iload_n rfl (rk_o (rfl) rfl rfl)) ?_
    refine Ew_of (pc' := 16) (fun _ => x_iconst rfl) ?_
    refine w_icmpge (t := 21) rfl rfl (show inr (a1) by omega) (show inr (4) by omega) (fun b2 => ?_) (fun b2 => ?_)
    · refine Ew_of (pc' := 22) (fun _ => x_iload_n rfl rk_s) ?_
      refine Ew_of (pc' := 23) (fun _ => x_iconst rfl) ?_
      refine Ew_of (pc' := 24) (fun _ => x_iconst rfl) ?_
      refine Ew_of (pc' := 25) (fun _ => x_iconst rfl) ?_
      refine Ew_of (pc' := 26) (fun _ => x_iload_n rfl (rk_o (rfl) rfl rfl)) ?_
      refine Ew_of (pc' := 28) (fun _ => x_bipush (z := 11) rfl (by decide)) ?_
      refine w_isub rfl ?_
      refine v_max rfl rfl (show inr (0) by omega) (show inr ((a1 - 11)) by omega) (fun z3 gz3 => ?_)
      refine Ew_of (pc' := 34) (fun _ => x_bipush (z := 63) rfl (by decide)) ?_
      refine w_iadd rfl ?_
      refine Ew_of (pc' := 37) (fun _ => x_bipush (z := 64) rfl (by decide)) ?_
      refine w_idiv rfl (show inr ((z3 + 63)) ∧ 0 ≤ (z3 + 63) by omega) (show inr (64) ∧ 0 < 64 by omega) ?_
      refine w_imul rfl ?_
      refine w_iadd rfl ?_
      refine v_min rfl rfl (show inr ((3 * ((a1 + 63) / 64))) by omega) (show inr ((2 + (3 * ((z3 + 63) / 64)))) by omega) (fun z4 gz4 => ?_)
      exact w_ireturn rfl (k (z4) _ _ _ H O (SF_refl) (SA_refl) (show inr (z4) by omega) (show 0 ≤ (z4) ∧ (z4) ≤ 4000 by omega))
    · refine Ew_of (pc' := 20) (fun _ => x_iload_n rfl rk_s) ?_
      exact w_ireturn rfl (k ((3 * ((a1 + 63) / 64))) _ _ _ H O (SF_refl) (SA_refl) (show inr ((3 * ((a1 + 63) / 64))) by omega) (show 0 ≤ ((3 * ((a1 + 63) / 64))) ∧ ((3 * ((a1 + 63) / 64))) ≤ 4000 by omega))
abbrev V199 : vV := []
/-- Tags.firstCopy:  -/
theorem C199 {σE : rS} {D N : Nat → Nat} {F : hF} {A : hA} {d c s : Nat} {Q : wQ} (H : HW V199 σE D N F A) {a1 a2 : Int} (h0 : inr (a1)) (h1 : inr (a2)) (h2 : (a2) = 0 ∨ (a2) = 1) (h3 : 1 ≤ (a1) ∧ (a1) ≤ 65536) (k : ∀ (z : Int) (σ : rS) (F' : hF) (A' : hA), HW V199 σ D N F' A' → OUT (V199).length D N σE c s D N σ c s → SF [] F F' → SA [] A A' → (inr (z)) → (1 ≤ (z) ∧ (z) ≤ (a1)) → Q (some (I z)) σ c s) : Ew 199 (d + 1) 0 (rargs 0 [I a1, I a2]) [] σE c s Q := by
  have O := OUT_refl (n := (V199).length) (D := D) (N := N) (σ := σE) (c := c) (s := s)
  have HE := H
  refine Ew_of (pc' := 1) (fun _ => x_iload_n rfl rfl) ?_
  refine Ew_of (pc' := 2) (fun _ => x_iload_n rfl rfl) ?_
  refine w_stat24 rfl rfl (by rfl) (C200 (D := pul [] D) (N := pul [] N) (HW_sub H (VS_of (show vsub V199 V200 [] = true by decide +kernel))) (show inr (a1) by omega) (show inr (a2) by omega) (show (a2) = 0 ∨ (a2) = 1 by omega) (show 0 ≤ (a1) ∧ (a1) ≤ 65536 by omega) (fun z1 σ1 F1' A1' H' O' hS1 hA1 pz1_0 pz1_1 => ⟨rfl, ?_⟩))
  refine v_back (c := c) (s := s) H (show vsub V199 V200 [] = true by decide +kernel) H' O' (fun F1 A1 H O' eF1 eA1 => ?_)
  have O := OUT_trans O O'
  -- Tags.fewest
  refine Ew_of (pc' := 6) (fun _ => x_istore_n rfl) ?_
  refine Ew_of (pc' := 8) (fun _ => x_bipush (z := 64) rfl (by decide)) ?_
  refine Ew_of (pc' := 9) (fun _ => x_iload_n rfl (rk_o (rfl) rfl rfl)) ?_
  refine v_min rfl rfl (show inr (64) by omega) (show inr (a1) by omega) (fun z2 gz2 => ?_)
  refine Ew_of (pc' := 13) (fun _ => x_istore_n rfl) ?_
  suffices hl13 : ∀ (m : Nat), ∀ (ls : rO) (σ : rS) (F_13 : hF) (A_13 : hA) (x13_3 : Int), rlook ls 0 = some (I (a1)) → rlook ls 1 = some (I (a2)) → rlook ls 2 = some (I (z1)) → rlook ls 3 = some (I (x13_3)) → HW V199 σ D N F_13 A_13 → OUT (V199).length D N σE c s D N σ c s → SF [] F1 F_13 → SA [] A1 A_13 → (inr (x13_3)) → ((x13_3) ≤ (z2)) → ((z2) ≤ (x13_3) ∨ (1) ≤ (x13_3)) → ((x13_3) - (1)).toNat = m → Ew 199 (d + 1) 13 ls [] σ c s Q from
    hl13 _ _ _ _ _ (z2) (rk_o (rk_o (rfl) rfl rfl) rfl rfl) (rk_o (rk_o (rfl) rfl rfl) rfl rfl) (rk_o (rk_s) rfl rfl) (rk_s) H O (SF_refl) (SA_refl)     (show inr (z2) by omega) (show (z2) ≤ (z2) by omega) (show (z2) ≤ (z2) ∨ (1) ≤ (z2) by omega) rfl
  as_aux_lemma =>
  intro m
  induction m using Nat.strongRecOn with
  | _ m ih13 =>
    intro ls σ F_13 A_13 x13_3 l13_0 l13_1 l13_2 l13_3 H O hS_13 hA_13     j13_0 j13_1 j13_2 hm13
    refine Ew_of (pc' := 14) (fun _ => x_iload_n rfl l13_3) ?_
    refine Ew_of (pc' := 15) (fun _ => x_iconst rfl) ?_
    refine w_icmple (t := 51) rfl rfl (show inr (x13_3) by omega) (show inr (1) by omega) (fun b3 => ?_) (fun b3 => ?_)
    · refine Ew_of (pc' := 52) (fun _ => x_iconst rfl) ?_
      exact w_ireturn rfl (k (1) _ _ _ H O (SF_trans (SF_trans (SF_refl) (SF_glu (ι := []) hS1 eF1 (by decide +kernel)) (any_sub (l' := []) rfl)) hS_13 (any_sub rfl)) (SA_trans (SA_trans (SA_refl) (SA_glu (ι := []) hA1 eA1 (by decide +kernel)) (any_subA (l' := []) rfl)) hA_13 (any_subA rfl)) (show inr (1) by omega) (show 1 ≤ (1) ∧ (1) ≤ a1 by omega))
    · have hc31 : ∀ (tc31_0 : Int), ∀ (ls : rO) (σ : rS) (F_c31 : hF) (A_c31 : hA) , rlook ls 0 = some (I (a1)) → rlook ls 1 = some (I (a2)) → rlook ls 2 = some (I (z1)) → rlook ls 3 = some (I (x13_3)) → HW V199 σ D N F_c31 A_c31 → OUT (V199).length D N σE c s D N σ c s → SF [] F_13 F_c31 → SA [] A_13 A_c31 → (inr (tc31_0)) → ((tc31_0) = 2 ∨ (tc31_0) = 3) → Ew 199 (d + 1) 31 ls [I (tc31_0)] σ c s Q := by
       as_aux_lemma =>
        intro tc31_0 ls σ F_c31 A_c31  lc31_0 lc31_1 lc31_2 lc31_3 H O hS_c31 hA_c31     jc31_0 jc31_1
        refine Ew_of (pc' := 32) (fun _ => x_iload_n rfl lc31_0) ?_
        refine Ew_of (pc' := 33) (fun _ => x_iload_n rfl lc31_3) ?_
        refine w_isub rfl ?_
        refine Ew_of (pc' := 35) (fun _ => x_iload_n rfl lc31_1) ?_
        refine w_stat24 rfl rfl (by rfl) (C200 (D := pul [] D) (N := pul [] N) (HW_sub H (VS_of (show vsub V199 V200 [] = true by decide +kernel))) (show inr ((a1 - x13_3)) by omega) (show inr (a2) by omega) (show (a2) = 0 ∨ (a2) = 1 by omega) (show 0 ≤ ((a1 - x13_3)) ∧ ((a1 - x13_3)) ≤ 65536 by omega) (fun z4 σ4 F4' A4' H' O' hS4 hA4 pz4_0 pz4_1 => ⟨rfl, ?_⟩))
        refine v_back (c := c) (s := s) H (show vsub V199 V200 [] = true by decide +kernel) H' O' (fun F4 A4 H O' eF4 eA4 => ?_)
        have O := OUT_trans O O'
        -- Tags.fewest
        refine w_iadd rfl ?_
        refine Ew_of (pc' := 40) (fun _ => x_iload_n rfl lc31_2) ?_
        refine w_icmpne (t := 45) rfl rfl (show inr ((tc31_0 + z4)) by omega) (show inr (z1) by omega) (fun b5 => ?_) (fun b5 => ?_)
        · refine Ew_of (pc' := 48) (fun _ => x_iinc (len := 3) rfl (lc31_3)) ?_
          refine Ew_of (pc' := 13) (fun _ => x_goto rfl rfl) ?_
          exact ih13 _ (by omega) _ _ _ _ ((x13_3 + (-1))) (rk_o (lc31_0) rfl rfl) (rk_o (lc31_1) rfl rfl) (rk_o (lc31_2) rfl rfl) (rk_s) H O (SF_trans (SF_trans (hS_13) hS_c31 (any_sub rfl)) (SF_glu (ι := []) hS4 eF4 (by decide +kernel)) (any_sub (l' := []) rfl)) (SA_trans (SA_trans (hA_13) hA_c31 (any_subA rfl)) (SA_glu (ι := []) hA4 eA4 (by decide +kernel)) (any_subA (l' := []) rfl))     (show inr ((x13_3 + (-1))) by omega) (show ((x13_3 + (-1))) ≤ (z2) by omega) (show (z2) ≤ ((x13_3 + (-1))) ∨ (1) ≤ ((x13_3 + (-1))) by omega) rfl
        · refine Ew_of (pc' := 44) (fun _ => x_iload_n rfl lc31_3) ?_
          exact w_ireturn rfl (k (x13_3) _ _ _ H O (SF_trans (SF_trans (SF_trans (SF_trans (SF_refl) (SF_glu (ι := []) hS1 eF1 (by decide +kernel)) (any_sub (l' := []) rfl)) hS_13 (any_sub rfl)) hS_c31 (any_sub rfl)) (SF_glu (ι := []) hS4 eF4 (by decide +kernel)) (any_sub (l' := []) rfl)) (SA_trans (SA_trans (SA_trans (SA_trans (SA_refl) (SA_glu (ι := []) hA1 eA1 (by decide +kernel)) (any_subA (l' := []) rfl)) hA_13 (any_subA rfl)) hA_c31 (any_subA rfl)) (SA_glu (ι := []) hA4 eA4 (by decide +kernel)) (any_subA (l' := []) rfl)) (show inr (x13_3) by omega) (show 1 ≤ (x13_3) ∧ (x13_3) ≤ a1 by omega))
      refine Ew_of (pc' := 19) (fun _ => x_iload_n rfl l13_3) ?_
      refine Ew_of (pc' := 20) (fun _ => x_iload_n rfl l13_1) ?_
      refine w_stat24 rfl rfl (by rfl) (C198 (D := pul [] D) (N := pul [] N) (HW_sub H (VS_of (show vsub V199 V198 [] = true by decide +kernel))) (show inr (x13_3) by omega) (show inr (a2) by omega) (show (a2) = 0 ∨ (a2) = 1 by omega) (fun z6 σ6 F6' A6' H' O' hS6 hA6 pz6_0 => ⟨rretB rfl pz6_0, ?_⟩))
      refine v_back (c := c) (s := s) H (show vsub V199 V198 [] = true by decide +kernel) H' O' (fun F6 A6 H O' eF6 eA6 => ?_)
      have O := OUT_trans O O'
      -- Tags.isShort
      refine w_ifeq (t := 30) rfl rfl (show inr (z6) by omega) (fun b7 => ?_) (fun b7 => ?_)
      · refine Ew_of (pc' := 31) (fun _ => x_iconst rfl) ?_
        exact hc31 (3) _ _ _ _  (l13_0) (l13_1) (l13_2) (l13_3) H O (SF_trans (SF_refl) (SF_glu (ι := []) hS6 eF6 (by decide +kernel)) (any_sub (l' := []) rfl)) (SA_trans (SA_refl) (SA_glu (ι := []) hA6 eA6 (by decide +kernel)) (any_subA (l' := []) rfl))     (show inr (3) by omega) (show (3) = 2 ∨ (3) = 3 by omega)
      · refine Ew_of (pc' := 27) (fun _ => x_iconst rfl) ?_
        refine Ew_of (pc' := 31) (fun _ => x_goto rfl rfl) ?_
        exact hc31 (2) _ _ _ _  (l13_0) (l13_1) (l13_2) (l13_3) H O (SF_trans (SF_refl) (SF_glu (ι := []) hS6 eF6 (by decide +kernel)) (any_sub (l' := []) rfl)) (SA_trans (SA_refl) (SA_glu (ι := []) hA6 eA6 (by decide +kernel)) (any_subA (l' := []) rfl))     (show inr (2) by omega) (show (2) = 2 ∨ (2) = 3 by omega)
abbrev V195_Row : vV := [(0, 7, [(4, 0), (0, 0), (1, 0), (0, 0), (0, 0)]), (1, 0, [])]
/-- Tags.packLength: #1, #1.bytes -/
theorem C195_Row {σE : rS} {D N : Nat → Nat} {F : hF} {A : hA} {d c s : Nat} {Q : wQ} (H : HW V195_Row σE D N F A) {a2 : Int} (pf1 : F 0 0 = (D 1 : Int)) (n1 : Int) (en1 : (N 1 : Int) = n1) (u0_1 : Int) (eu0_1 : F 0 1 = u0_1) (h0 : inr (a2)) (h1 : 0 ≤ (u0_1) ∧ (u0_1) ≤ (n1) ∧ (n1) ≤ 65536) (k : ∀ (σ : rS) (D' N' : Nat → Nat) (F' : hF) (A' : hA) (c' s' : Nat), HW V195_Row σ D' N' F' A' → OUT (V195_Row).length D N σE c s D' N' σ c' s' → SD [1] D D' → SD [1] N N' → SF [(0, 0), (0, 1), (0, 2)] F F' → SA [1] A A' → F' 0 0 = (D' 1 : Int) → ∀ m1 : Int, (N' 1 : Int) = m1 → ∀ y0_1 : Int, F' 0 1 = y0_1 → (0 ≤ (y0_1) ∧ (y0_1) ≤ (m1) ∧ (m1) ≤ 65536) → Q none σ c' s') : Ew 195 (d + 3) 0 (rargs 0 [.ref (D 0), I a2]) [] σE c s Q := by
  have O := OUT_refl (n := (V195_Row).length) (D := D) (N := N) (σ := σE) (c := c) (s := s)
  have HE := H
  have r1 : (-2147483648 : Int) ≤ u0_1 ∧ u0_1 ≤ 2147483647 := by have h1 : (-2147483648 : Int) ≤ F 0 1 ∧ F 0 1 ≤ 2147483647 := H.krg 0 1 (by decide); rw [show F 0 1 = u0_1 from (eu0_1)] at h1; exact h1
  have r2 : (0 : Int) ≤ n1 ∧ n1 ≤ 1000000 := by have h1 := H.nle 1 (by decide); have h2 : (N 1 : Int) = n1 := en1; omega
  refine Ew_of (pc' := 1) (fun _ => x_iload_n rfl rfl) ?_
  refine Ew_of (pc' := 2) (fun _ => x_istore_n rfl) ?_
  refine Ew_of (pc' := 3) (fun _ => x_iconst rfl) ?_
  refine Ew_of (pc' := 4) (fun _ => x_istore_n rfl) ?_
  suffices hl4 : ∀ (m : Nat), ∀ (ls : rO) (σ : rS) (D_4 N_4 : Nat → Nat) (c_4 s_4 : Nat) (F_4 : hF) (A_4 : hA) (x4_2 : Int) (x4_3 : Int), rlook ls 0 = some (.ref (D_4 0)) → rlook ls 2 = some (I (x4_2)) → rlook ls 3 = some (I (x4_3)) → HW V195_Row σ D_4 N_4 F_4 A_4 → OUT (V195_Row).length D N σE c s D_4 N_4 σ c_4 s_4 → SD [1] D D_4 → SD [1] N N_4 → SF [(0, 0), (0, 1), (0, 2)] F F_4 → SA [1] A A_4 → F_4 0 0 = (D_4 1 : Int) → ∀ m4_1 : Int, (N_4 1 : Int) = m4_1 → ∀ y4_0_1 : Int, F_4 0 1 = y4_0_1 → (inr (x4_2)) → (inr (x4_3)) → ((0) ≤ (x4_3)) → ((x4_3) ≤ (0) ∨ (x4_3) ≤ (4)) → (0 ≤ (y4_0_1) ∧ (y4_0_1) ≤ (m4_1) ∧ (m4_1) ≤ 65536) → ((4) - (x4_3)).toNat = m → Ew 195 (d + 3) 4 ls [] σ c_4 s_4 Q from
    hl4 _ _ _ _ _ _ _ _ _ (a2) (0) (rk_o (rk_o (rfl) rfl rfl) rfl rfl) (rk_o (rk_s) rfl rfl) (rk_s) H O (SD_refl) (SD_refl) (SF_refl) (SA_refl) (pf1) (n1) (en1) (u0_1) ((eu0_1))  (show inr (a2) by omega) (show inr (0) by omega) (show (0) ≤ (0) by omega) (show (0) ≤ (0) ∨ (0) ≤ (4) by omega) (show 0 ≤ (u0_1) ∧ (u0_1) ≤ (n1) ∧ (n1) ≤ 65536 by omega) rfl
  as_aux_lemma =>
  intro m
  induction m using Nat.strongRecOn with
  | _ m ih4 =>
    intro ls σ D_4 N_4 c_4 s_4 F_4 A_4 x4_2 x4_3 l4_0 l4_2 l4_3 H O hD_4 hN_4 hS_4 hA_4 pm4_1 m4_1 em4_1 y4_0_1 ey4_0_1  j4_0 j4_1 j4_2 j4_3 j4_4 hm4
    have r3 : (0 : Int) ≤ m4_1 ∧ m4_1 ≤ 1000000 := by have h1 := H.nle 1 (by decide); have h2 : (N_4 1 : Int) = m4_1 := em4_1; omega
    have r4 : (-2147483648 : Int) ≤ y4_0_1 ∧ y4_0_1 ≤ 2147483647 := by have h1 : (-2147483648 : Int) ≤ F_4 0 1 ∧ F_4 0 1 ≤ 2147483647 := H.krg 0 1 (by decide); rw [show F_4 0 1 = y4_0_1 from (ey4_0_1)] at h1; exact h1
    refine Ew_of (pc' := 5) (fun _ => x_iload_n rfl l4_3) ?_
    refine Ew_of (pc' := 6) (fun _ => x_iconst rfl) ?_
    refine w_icmpge (t := 39) rfl rfl (show inr (x4_3) by omega) (show inr (4) by omega) (fun b5 => ?_) (fun b5 => ?_)
    · refine Ew_of (pc' := 40) (fun _ => x_aload_n rfl l4_0) ?_
      refine Ew_of (pc' := 41) (fun _ => x_iload_n rfl l4_2) ?_
      have r6 : (0 : Int) ≤ F_4 0 2 ∧ F_4 0 2 ≤ 1 := by have h1 : (0 : Int) ≤ F_4 0 2 ∧ F_4 0 2 ≤ 1 := H.krg 0 2 (by decide); rw [show F_4 0 2 = F_4 0 2 from rfl] at h1; exact h1
      refine v_inv H (o := 0) rfl rfl rfl rfl rfl rfl (by rfl) (C159 (D := pul [0, 1] D_4) (N := pul [0, 1] N_4) (HW_sub H (VS_of (show vsub V195_Row V159 [0, 1] = true by decide +kernel))) (pm4_1) (m4_1) (em4_1) (y4_0_1) ((ey4_0_1)) (F_4 0 2) (rfl) (A_4 1) (rfl) (show inr (x4_2) by omega) (show 0 ≤ (y4_0_1) ∧ (y4_0_1) ≤ (m4_1) ∧ (m4_1) ≤ 65536 by omega) (fun σ7 D7' N7' F7' A7' c7 s7 H' O' hD7 hN7 hS7 hA7 pm7_1 m7_1 em7_1 y7_0_1 ey7_0_1 y7_0_2 ey7_0_2 w7_1 ew7_1 pz7_0 pz7_1 pz7_2 pz7_3 => ⟨rfl, ?_⟩))
      refine v_backM (c := c_4) (s := s_4) H (show vsub V195_Row V159 [0, 1] = true by decide +kernel) H' O' hD7 (show vmov V195_Row [0, 1] [1] = true by decide +kernel) (fun D7 N7 F7 A7 H O' eD7 eN7 eF7 eA7 => ?_)
      have O := OUT_trans O O'
      -- Row.add
      have pf7_0_0 : F7 0 0 = (D7 1 : Int) := (eF7 0 0).trans (pm7_1.trans (congrArg (fun q : Nat => (q : Int)) (eD7 1).symm))
      have r8 : (0 : Int) ≤ m7_1 ∧ m7_1 ≤ 1000000 := by have h1 := H.nle 1 (by decide); have h2 : (N7 1 : Int) = m7_1 := (congrArg (fun q : Nat => (q : Int)) (eN7 1)).trans em7_1; omega
      have r9 : (-2147483648 : Int) ≤ y7_0_1 ∧ y7_0_1 ≤ 2147483647 := by have h1 : (-2147483648 : Int) ≤ F7 0 1 ∧ F7 0 1 ≤ 2147483647 := H.krg 0 1 (by decide); rw [show F7 0 1 = y7_0_1 from ((eF7 0 1).trans ey7_0_1)] at h1; exact h1
      have r10 : (0 : Int) ≤ y7_0_2 ∧ y7_0_2 ≤ 1 := by have h1 : (0 : Int) ≤ F7 0 2 ∧ F7 0 2 ≤ 1 := H.krg 0 2 (by decide); rw [show F7 0 2 = y7_0_2 from ((eF7 0 2).trans ey7_0_2)] at h1; exact h1
      exact w_ret rfl (k _ _ _ _ _ _ _ H O (SD_trans (SD_trans (SD_refl) hD_4 (any_subA rfl)) (SD_glu (ι := [0, 1]) hD7 eD7 (by decide +kernel)) (any_subA (l' := [1]) rfl)) (SD_trans (SD_trans (SD_refl) hN_4 (any_subA rfl)) (SD_glu (ι := [0, 1]) hN7 eN7 (by decide +kernel)) (any_subA (l' := [1]) rfl)) (SF_trans (SF_trans (SF_refl) hS_4 (any_sub rfl)) (SF_glu (ι := [0, 1]) hS7 eF7 (by decide +kernel)) (any_sub (l' := [(0, 0), (0, 1), (0, 2)]) rfl)) (SA_trans (SA_trans (SA_refl) hA_4 (any_subA rfl)) (SA_glu (ι := [0, 1]) hA7 eA7 (by decide +kernel)) (any_subA (l' := [1]) rfl)) (pf7_0_0) (m7_1) ((congrArg (fun q : Nat => (q : Int)) (eN7 1)).trans em7_1) (y7_0_1) (((eF7 0 1).trans ey7_0_1)) (show 0 ≤ (y7_0_1) ∧ (y7_0_1) ≤ (m7_1) ∧ (m7_1) ≤ 65536 by omega))
    · refine Ew_of (pc' := 10) (fun _ => x_iload_n rfl l4_2) ?_
      refine Ew_of (pc' := 13) (fun _ => x_sipush (z := 128) rfl (by decide)) ?_
      refine w_icmplt (t := 39) rfl rfl (show inr (x4_2) by omega) (show inr (128) by omega) (fun b11 => ?_) (fun b11 => ?_)
      · refine Ew_of (pc' := 40) (fun _ => x_aload_n rfl l4_0) ?_
        refine Ew_of (pc' := 41) (fun _ => x_iload_n rfl l4_2) ?_
        have r12 : (0 : Int) ≤ F_4 0 2 ∧ F_4 0 2 ≤ 1 := by have h1 : (0 : Int) ≤ F_4 0 2 ∧ F_4 0 2 ≤ 1 := H.krg 0 2 (by decide); rw [show F_4 0 2 = F_4 0 2 from rfl] at h1; exact h1
        refine v_inv H (o := 0) rfl rfl rfl rfl rfl rfl (by rfl) (C159 (D := pul [0, 1] D_4) (N := pul [0, 1] N_4) (HW_sub H (VS_of (show vsub V195_Row V159 [0, 1] = true by decide +kernel))) (pm4_1) (m4_1) (em4_1) (y4_0_1) ((ey4_0_1)) (F_4 0 2) (rfl) (A_4 1) (rfl) (show inr (x4_2) by omega) (show 0 ≤ (y4_0_1) ∧ (y4_0_1) ≤ (m4_1) ∧ (m4_1) ≤ 65536 by omega) (fun σ13 D13' N13' F13' A13' c13 s13 H' O' hD13 hN13 hS13 hA13 pm13_1 m13_1 em13_1 y13_0_1 ey13_0_1 y13_0_2 ey13_0_2 w13_1 ew13_1 pz13_0 pz13_1 pz13_2 pz13_3 => ⟨rfl, ?_⟩))
        refine v_backM (c := c_4) (s := s_4) H (show vsub V195_Row V159 [0, 1] = true by decide +kernel) H' O' hD13 (show vmov V195_Row [0, 1] [1] = true by decide +kernel) (fun D13 N13 F13 A13 H O' eD13 eN13 eF13 eA13 => ?_)
        have O := OUT_trans O O'
        -- Row.add
        have pf13_0_0 : F13 0 0 = (D13 1 : Int) := (eF13 0 0).trans (pm13_1.trans (congrArg (fun q : Nat => (q : Int)) (eD13 1).symm))
        have r14 : (0 : Int) ≤ m13_1 ∧ m13_1 ≤ 1000000 := by have h1 := H.nle 1 (by decide); have h2 : (N13 1 : Int) = m13_1 := (congrArg (fun q : Nat => (q : Int)) (eN13 1)).trans em13_1; omega
        have r15 : (-2147483648 : Int) ≤ y13_0_1 ∧ y13_0_1 ≤ 2147483647 := by have h1 : (-2147483648 : Int) ≤ F13 0 1 ∧ F13 0 1 ≤ 2147483647 := H.krg 0 1 (by decide); rw [show F13 0 1 = y13_0_1 from ((eF13 0 1).trans ey13_0_1)] at h1; exact h1
        have r16 : (0 : Int) ≤ y13_0_2 ∧ y13_0_2 ≤ 1 := by have h1 : (0 : Int) ≤ F13 0 2 ∧ F13 0 2 ≤ 1 := H.krg 0 2 (by decide); rw [show F13 0 2 = y13_0_2 from ((eF13 0 2).trans ey13_0_2)] at h1; exact h1
        exact w_ret rfl (k _ _ _ _ _ _ _ H O (SD_trans (SD_trans (SD_refl) hD_4 (any_subA rfl)) (SD_glu (ι := [0, 1]) hD13 eD13 (by decide +kernel)) (any_subA (l' := [1]) rfl)) (SD_trans (SD_trans (SD_refl) hN_4 (any_subA rfl)) (SD_glu (ι := [0, 1]) hN13 eN13 (by decide +kernel)) (any_subA (l' := [1]) rfl)) (SF_trans (SF_trans (SF_refl) hS_4 (any_sub rfl)) (SF_glu (ι := [0, 1]) hS13 eF13 (by decide +kernel)) (any_sub (l' := [(0, 0), (0, 1), (0, 2)]) rfl)) (SA_trans (SA_trans (SA_refl) hA_4 (any_subA rfl)) (SA_glu (ι := [0, 1]) hA13 eA13 (by decide +kernel)) (any_subA (l' := [1]) rfl)) (pf13_0_0) (m13_1) ((congrArg (fun q : Nat => (q : Int)) (eN13 1)).trans em13_1) (y13_0_1) (((eF13 0 1).trans ey13_0_1)) (show 0 ≤ (y13_0_1) ∧ (y13_0_1) ≤ (m13_1) ∧ (m13_1) ≤ 65536 by omega))
      · refine Ew_of (pc' := 17) (fun _ => x_aload_n rfl l4_0) ?_
        refine Ew_of (pc' := 18) (fun _ => x_iload_n rfl l4_2) ?_
        refine Ew_of (pc' := 20) (fun _ => x_bipush (z := 127) rfl (by decide)) ?_
        refine w_iand rfl (show inr (x4_2) by omega) (show inr (127) by omega) (fun z17 gz17 gaz17 gbz17 => ?_)
        refine Ew_of (pc' := 24) (fun _ => x_sipush (z := 128) rfl (by decide)) ?_
        refine w_ior rfl (fun z18 gz18 => ?_)
        have r19 : (0 : Int) ≤ F_4 0 2 ∧ F_4 0 2 ≤ 1 := by have h1 : (0 : Int) ≤ F_4 0 2 ∧ F_4 0 2 ≤ 1 := H.krg 0 2 (by decide); rw [show F_4 0 2 = F_4 0 2 from rfl] at h1; exact h1
        refine v_inv H (o := 0) rfl rfl rfl rfl rfl rfl (by rfl) (C159 (D := pul [0, 1] D_4) (N := pul [0, 1] N_4) (HW_sub H (VS_of (show vsub V195_Row V159 [0, 1] = true by decide +kernel))) (pm4_1) (m4_1) (em4_1) (y4_0_1) ((ey4_0_1)) (F_4 0 2) (rfl) (A_4 1) (rfl) (show inr (z18) by omega) (show 0 ≤ (y4_0_1) ∧ (y4_0_1) ≤ (m4_1) ∧ (m4_1) ≤ 65536 by omega) (fun σ20 D20' N20' F20' A20' c20 s20 H' O' hD20 hN20 hS20 hA20 pm20_1 m20_1 em20_1 y20_0_1 ey20_0_1 y20_0_2 ey20_0_2 w20_1 ew20_1 pz20_0 pz20_1 pz20_2 pz20_3 => ⟨rfl, ?_⟩))
        refine v_backM (c := c_4) (s := s_4) H (show vsub V195_Row V159 [0, 1] = true by decide +kernel) H' O' hD20 (show vmov V195_Row [0, 1] [1] = true by decide +kernel) (fun D20 N20 F20 A20 H O' eD20 eN20 eF20 eA20 => ?_)
        have O := OUT_trans O O'
        -- Row.add
        have pf20_0_0 : F20 0 0 = (D20 1 : Int) := (eF20 0 0).trans (pm20_1.trans (congrArg (fun q : Nat => (q : Int)) (eD20 1).symm))
        have r21 : (0 : Int) ≤ m20_1 ∧ m20_1 ≤ 1000000 := by have h1 := H.nle 1 (by decide); have h2 : (N20 1 : Int) = m20_1 := (congrArg (fun q : Nat => (q : Int)) (eN20 1)).trans em20_1; omega
        have r22 : (-2147483648 : Int) ≤ y20_0_1 ∧ y20_0_1 ≤ 2147483647 := by have h1 : (-2147483648 : Int) ≤ F20 0 1 ∧ F20 0 1 ≤ 2147483647 := H.krg 0 1 (by decide); rw [show F20 0 1 = y20_0_1 from ((eF20 0 1).trans ey20_0_1)] at h1; exact h1
        have r23 : (0 : Int) ≤ y20_0_2 ∧ y20_0_2 ≤ 1 := by have h1 : (0 : Int) ≤ F20 0 2 ∧ F20 0 2 ≤ 1 := H.krg 0 2 (by decide); rw [show F20 0 2 = y20_0_2 from ((eF20 0 2).trans ey20_0_2)] at h1; exact h1
        refine Ew_of (pc' := 29) (fun _ => x_iload_n rfl l4_2) ?_
        refine Ew_of (pc' := 31) (fun _ => x_bipush (z := 7) rfl (by decide)) ?_
        refine w_iushrA rfl (fun z24 gz24 => ?_)
        refine Ew_of (pc' := 33) (fun _ => x_istore_n rfl) ?_
        refine Ew_of (pc' := 36) (fun _ => x_iinc (len := 3) rfl (rk_o (l4_3) rfl rfl)) ?_
        refine Ew_of (pc' := 4) (fun _ => x_goto rfl rfl) ?_
        exact ih4 _ (by omega) _ _ _ _ _ _ _ _ (z24) ((x4_3 + 1)) ((rk_o (rk_o (l4_0) rfl rfl) rfl rfl).trans (congrArg (fun q : Nat => some (Value.ref q)) (((show D20 0 = D_4 0 from (eD20 0).trans (hD20 0 rfl)))).symm)) (rk_o (rk_s) rfl rfl) (rk_s) H O (SD_trans (hD_4) (SD_glu (ι := [0, 1]) hD20 eD20 (by decide +kernel)) (any_subA (l' := [1]) rfl)) (SD_trans (hN_4) (SD_glu (ι := [0, 1]) hN20 eN20 (by decide +kernel)) (any_subA (l' := [1]) rfl)) (SF_trans (hS_4) (SF_glu (ι := [0, 1]) hS20 eF20 (by decide +kernel)) (any_sub (l' := [(0, 0), (0, 1), (0, 2)]) rfl)) (SA_trans (hA_4) (SA_glu (ι := [0, 1]) hA20 eA20 (by decide +kernel)) (any_subA (l' := [1]) rfl)) (pf20_0_0) (m20_1) ((congrArg (fun q : Nat => (q : Int)) (eN20 1)).trans em20_1) (y20_0_1) (((eF20 0 1).trans ey20_0_1))  (show inr (z24) by omega) (show inr ((x4_3 + 1)) by omega) (show (0) ≤ ((x4_3 + 1)) by omega) (show ((x4_3 + 1)) ≤ (0) ∨ ((x4_3 + 1)) ≤ (4) by omega) (show 0 ≤ (y20_0_1) ∧ (y20_0_1) ≤ (m20_1) ∧ (m20_1) ≤ 65536 by omega) rfl
abbrev V196_Row : vV := [(0, 10, [(4, 0), (4, 0), (4, 0), (4, 0), (0, 0), (4, 0), (0, 0), (2, 0), (0, 0)]), (0, 7, [(4, 0), (0, 0), (1, 0), (0, 0), (0, 0)]), (1, 0, []), (0, 5, [(4, 0), (4, 0), (4, 0), (4, 0), (0, 0), (0, 0), (0, 0), (4, 0), (4, 0), (0, 0), (0, 0), (0, 0), (0, 0), (0, 0), (0, 0), (0, 0), (0, 0), (0, 0), (0, 0)]), (0, 7, [(4, 0), (0, 0), (1, 0), (0, 0), (0, 0)]), (1, 0, [])]
/-- Tags.packLiterals: this, #1, #1.bytes, this.finder, this.finder.data, this.finder.data.bytes -/
theorem C196_Row {σE : rS} {D N : Nat → Nat} {F : hF} {A : hA} {d c s : Nat} {Q : wQ} (H : HW V196_Row σE D N F A) {a2 a3 : Int} (pf2 : F 1 0 = (D 2 : Int)) (pf3 : F 0 1 = (D 3 : Int)) (pf4 : F 3 0 = (D 4 : Int)) (pf5 : F 4 0 = (D 5 : Int)) (n2 : Int) (en2 : (N 2 : Int) = n2) (n5 : Int) (en5 : (N 5 : Int) = n5) (u1_1 : Int) (eu1_1 : F 1 1 = u1_1) (u4_1 : Int) (eu4_1 : F 4 1 = u4_1) (h0 : inr (a2)) (h1 : inr (a3)) (h2 : 0 ≤ (u1_1) ∧ (u1_1) ≤ (n2) ∧ (n2) ≤ 65536) (h3 : 0 ≤ (u4_1) ∧ (u4_1) ≤ (n5) ∧ (n5) ≤ 65536) (h4 : 0 ≤ (a2) ∧ 0 ≤ (a3) ∧ (a2) + (a3) ≤ (n5)) (k : ∀ (σ : rS) (D' N' : Nat → Nat) (F' : hF) (A' : hA) (c' s' : Nat), HW V196_Row σ D' N' F' A' → OUT (V196_Row).length D N σE c s D' N' σ c' s' → SD [2] D D' → SD [2] N N' → SF [(1, 0), (1, 1), (1, 2)] F F' → SA [2] A A' → F' 1 0 = (D' 2 : Int) → ∀ m2 : Int, (N' 2 : Int) = m2 → ∀ y1_1 : Int, F' 1 1 = y1_1 → (0 ≤ (y1_1) ∧ (y1_1) ≤ (m2) ∧ (m2) ≤ 65536) → Q none σ c' s') : Ew 196 (d + 3) 0 (rargs 0 [.ref (D 0), .ref (D 1), I a2, I a3]) [] σE c s Q := by
  have O := OUT_refl (n := (V196_Row).length) (D := D) (N := N) (σ := σE) (c := c) (s := s)
  have HE := H
  have r1 : (-2147483648 : Int) ≤ u1_1 ∧ u1_1 ≤ 2147483647 := by have h1 : (-2147483648 : Int) ≤ F 1 1 ∧ F 1 1 ≤ 2147483647 := H.krg 1 1 (by decide); rw [show F 1 1 = u1_1 from (eu1_1)] at h1; exact h1
  have r2 : (-2147483648 : Int) ≤ u4_1 ∧ u4_1 ≤ 2147483647 := by have h1 : (-2147483648 : Int) ≤ F 4 1 ∧ F 4 1 ≤ 2147483647 := H.krg 4 1 (by decide); rw [show F 4 1 = u4_1 from (eu4_1)] at h1; exact h1
  have r3 : (0 : Int) ≤ n2 ∧ n2 ≤ 1000000 := by have h1 := H.nle 2 (by decide); have h2 : (N 2 : Int) = n2 := en2; omega
  have r4 : (0 : Int) ≤ n5 ∧ n5 ≤ 1000000 := by have h1 := H.nle 5 (by decide); have h2 : (N 5 : Int) = n5 := en5; omega
  refine Ew_of (pc' := 1) (fun _ => x_iload_n rfl rfl) ?_
  refine w_ifne (t := 5) rfl rfl (show inr (a3) by omega) (fun b5 => ?_) (fun b5 => ?_)
  · refine Ew_of (pc' := 6) (fun _ => x_iload_n rfl rfl) ?_
    refine Ew_of (pc' := 7) (fun _ => x_iconst rfl) ?_
    refine w_isub rfl ?_
    refine Ew_of (pc' := 10) (fun _ => x_istore rfl) ?_
    have hc63 : ∀ (ls : rO) (σ : rS) (D_c63 N_c63 : Nat → Nat) (c_c63 s_c63 : Nat) (F_c63 : hF) (A_c63 : hA) , rlook ls 0 = some (.ref (D_c63 0)) → rlook ls 1 = some (.ref (D_c63 1)) → rlook ls 2 = some (I (a2)) → rlook ls 3 = some (I (a3)) → HW V196_Row σ D_c63 N_c63 F_c63 A_c63 → OUT (V196_Row).length D N σE c s D_c63 N_c63 σ c_c63 s_c63 → SD [2] D D_c63 → SD [2] N N_c63 → SF [(1, 0), (1, 1), (1, 2)] F F_c63 → SA [2] A A_c63 → F_c63 1 0 = (D_c63 2 : Int) → ∀ mc63_2 : Int, (N_c63 2 : Int) = mc63_2 → ∀ yc63_1_1 : Int, F_c63 1 1 = yc63_1_1 → (0 ≤ (yc63_1_1) ∧ (yc63_1_1) ≤ (mc63_2) ∧ (mc63_2) ≤ 65536) → Ew 196 (d + 3) 63 ls [] σ c_c63 s_c63 Q := by
     as_aux_lemma =>
      intro  ls σ D_c63 N_c63 c_c63 s_c63 F_c63 A_c63  lc63_0 lc63_1 lc63_2 lc63_3 H O hD_c63 hN_c63 hS_c63 hA_c63 pmc63_2 mc63_2 emc63_2 yc63_1_1 eyc63_1_1  jc63_0
      have pf_c63_0_1 : F_c63 0 1 = (D_c63 3 : Int) := (hS_c63 0 1 rfl).trans ((pf3).trans (congrArg (fun q : Nat => (q : Int)) (hD_c63 3 rfl).symm))
      have pf_c63_3_0 : F_c63 3 0 = (D_c63 4 : Int) := (hS_c63 3 0 rfl).trans ((pf4).trans (congrArg (fun q : Nat => (q : Int)) (hD_c63 4 rfl).symm))
      have pf_c63_4_0 : F_c63 4 0 = (D_c63 5 : Int) := (hS_c63 4 0 rfl).trans ((pf5).trans (congrArg (fun q : Nat => (q : Int)) (hD_c63 5 rfl).symm))
      have r6 : (0 : Int) ≤ mc63_2 ∧ mc63_2 ≤ 1000000 := by have h1 := H.nle 2 (by decide); have h2 : (N_c63 2 : Int) = mc63_2 := emc63_2; omega
      have r7 : (-2147483648 : Int) ≤ yc63_1_1 ∧ yc63_1_1 ≤ 2147483647 := by have h1 : (-2147483648 : Int) ≤ F_c63 1 1 ∧ F_c63 1 1 ≤ 2147483647 := H.krg 1 1 (by decide); rw [show F_c63 1 1 = yc63_1_1 from (eyc63_1_1)] at h1; exact h1
      refine Ew_of (pc' := 64) (fun _ => x_aload_n rfl lc63_1) ?_
      refine Ew_of (pc' := 65) (fun _ => x_aload_n rfl lc63_0) ?_
      refine v_g H (o := 0) (v := .ref (D_c63 3)) rfl rfl rfl rfl rfl (vrf (pf_c63_0_1)) ?_
      refine v_g H (o := 3) (v := .ref (D_c63 4)) rfl rfl rfl rfl rfl (vrf (pf_c63_3_0)) ?_
      refine v_g H (o := 4) (v := .ref (D_c63 5)) rfl rfl rfl rfl rfl (vrf (pf_c63_4_0)) ?_
      refine Ew_of (pc' := 75) (fun _ => x_iload_n rfl lc63_2) ?_
      refine Ew_of (pc' := 76) (fun _ => x_iload_n rfl lc63_3) ?_
      have r8 : (0 : Int) ≤ F_c63 1 2 ∧ F_c63 1 2 ≤ 1 := by have h1 : (0 : Int) ≤ F_c63 1 2 ∧ F_c63 1 2 ≤ 1 := H.krg 1 2 (by decide); rw [show F_c63 1 2 = F_c63 1 2 from rfl] at h1; exact h1
      refine v_inv H (o := 1) rfl rfl rfl rfl rfl rfl (by rfl) (C161_Br (D := pul [1, 5, 2] D_c63) (N := pul [1, 5, 2] N_c63) (HW_sub H (VS_of (show vsub V196_Row V161_Br [1, 5, 2] = true by decide +kernel))) (pmc63_2) (n5) ((congrArg (fun q : Nat => (q : Int)) (hN_c63 5 rfl)).trans (en5)) (mc63_2) (emc63_2) (yc63_1_1) ((eyc63_1_1)) (F_c63 1 2) (rfl) (A 5) (funext (hA_c63 5 rfl)) (A_c63 2) (rfl) (show inr (a2) by omega) (show inr (a3) by omega) (show 0 ≤ (yc63_1_1) ∧ (yc63_1_1) ≤ (mc63_2) ∧ (mc63_2) ≤ 65536 by omega) (show (a3) < 0 ∨ 0 ≤ (a2) ∧ (a2) + (a3) ≤ (n5) by omega) (fun σ9 D9' N9' F9' A9' c9 s9 H' O' hD9 hN9 hS9 hA9 pm9_2 m9_2 em9_2 y9_0_1 ey9_0_1 y9_0_2 ey9_0_2 w9_2 ew9_2 pz9_0 pz9_1 pz9_2 pz9_3 => ⟨rfl, ?_⟩))
      refine v_backM (c := c_c63) (s := s_c63) H (show vsub V196_Row V161_Br [1, 5, 2] = true by decide +kernel) H' O' hD9 (show vmov V196_Row [1, 5, 2] [2] = true by decide +kernel) (fun D9 N9 F9 A9 H O' eD9 eN9 eF9 eA9 => ?_)
      have O := OUT_trans O O'
      -- Row.addPart
      have pf9_0_1 : F9 0 1 = (D9 3 : Int) := ((show F9 0 1 = F_c63 0 1 from (eF9 0 1))).trans ((pf_c63_0_1).trans (congrArg (fun q : Nat => (q : Int)) ((show D9 3 = D_c63 3 from (eD9 3))).symm))
      have pf9_1_0 : F9 1 0 = (D9 2 : Int) := (eF9 1 0).trans (pm9_2.trans (congrArg (fun q : Nat => (q : Int)) (eD9 2).symm))
      have pf9_3_0 : F9 3 0 = (D9 4 : Int) := ((show F9 3 0 = F_c63 3 0 from (eF9 3 0))).trans ((pf_c63_3_0).trans (congrArg (fun q : Nat => (q : Int)) ((show D9 4 = D_c63 4 from (eD9 4))).symm))
      have pf9_4_0 : F9 4 0 = (D9 5 : Int) := ((show F9 4 0 = F_c63 4 0 from (eF9 4 0))).trans ((pf_c63_4_0).trans (congrArg (fun q : Nat => (q : Int)) ((show D9 5 = D_c63 5 from (eD9 5).trans (hD9 1 rfl))).symm))
      have r10 : (0 : Int) ≤ m9_2 ∧ m9_2 ≤ 1000000 := by have h1 := H.nle 2 (by decide); have h2 : (N9 2 : Int) = m9_2 := (congrArg (fun q : Nat => (q : Int)) (eN9 2)).trans em9_2; omega
      have r11 : (-2147483648 : Int) ≤ y9_0_1 ∧ y9_0_1 ≤ 2147483647 := by have h1 : (-2147483648 : Int) ≤ F9 1 1 ∧ F9 1 1 ≤ 2147483647 := H.krg 1 1 (by decide); rw [show F9 1 1 = y9_0_1 from ((eF9 1 1).trans ey9_0_1)] at h1; exact h1
      have r12 : (0 : Int) ≤ y9_0_2 ∧ y9_0_2 ≤ 1 := by have h1 : (0 : Int) ≤ F9 1 2 ∧ F9 1 2 ≤ 1 := H.krg 1 2 (by decide); rw [show F9 1 2 = y9_0_2 from ((eF9 1 2).trans ey9_0_2)] at h1; exact h1
      exact w_ret rfl (k _ _ _ _ _ _ _ H O (SD_trans (SD_trans (SD_refl) hD_c63 (any_subA rfl)) (SD_glu (ι := [1, 5, 2]) hD9 eD9 (by decide +kernel)) (any_subA (l' := [2]) rfl)) (SD_trans (SD_trans (SD_refl) hN_c63 (any_subA rfl)) (SD_glu (ι := [1, 5, 2]) hN9 eN9 (by decide +kernel)) (any_subA (l' := [2]) rfl)) (SF_trans (SF_trans (SF_refl) hS_c63 (any_sub rfl)) (SF_glu (ι := [1, 5, 2]) hS9 eF9 (by decide +kernel)) (any_sub (l' := [(1, 0), (1, 1), (1, 2)]) rfl)) (SA_trans (SA_trans (SA_refl) hA_c63 (any_subA rfl)) (SA_glu (ι := [1, 5, 2]) hA9 eA9 (by decide +kernel)) (any_subA (l' := [2]) rfl)) (pf9_1_0) (m9_2) ((congrArg (fun q : Nat => (q : Int)) (eN9 2)).trans em9_2) (y9_0_1) (((eF9 1 1).trans ey9_0_1)) (show 0 ≤ (y9_0_1) ∧ (y9_0_1) ≤ (m9_2) ∧ (m9_2) ≤ 65536 by omega))
    refine Ew_of (pc' := 12) (fun _ => x_iload rfl rk_s) ?_
    refine Ew_of (pc' := 14) (fun _ => x_bipush (z := 60) rfl (by decide)) ?_
    refine w_icmpge (t := 28) rfl rfl (show inr ((a3 - 1)) by omega) (show inr (60) by omega) (fun b13 => ?_) (fun b13 => ?_)
    · refine Ew_of (pc' := 30) (fun _ => x_iload rfl rk_s) ?_
      refine Ew_of (pc' := 33) (fun _ => x_sipush (z := 256) rfl (by decide)) ?_
      have hc41 : ∀ (tc41_0 : Int), ∀ (ls : rO) (σ : rS) (F_c41 : hF) (A_c41 : hA) , rlook ls 0 = some (.ref (D 0)) → rlook ls 1 = some (.ref (D 1)) → rlook ls 2 = some (I (a2)) → rlook ls 3 = some (I (a3)) → rlook ls 4 = some (I ((a3 - 1))) → HW V196_Row σ D N F_c41 A_c41 → OUT (V196_Row).length D N σE c s D N σ c s → SF [] F F_c41 → SA [] A A_c41 → (inr (tc41_0)) → ((((a3 - 1)) ≥ (256) ∧ (tc41_0) = (2)) ∨ (((a3 - 1)) < (256) ∧ (tc41_0) = (1))) → Ew 196 (d + 3) 41 ls [I (tc41_0)] σ c s Q := by
       as_aux_lemma =>
        intro tc41_0 ls σ F_c41 A_c41  lc41_0 lc41_1 lc41_2 lc41_3 lc41_4 H O hS_c41 hA_c41     jc41_0 jc41_1
        refine Ew_of (pc' := 43) (fun _ => x_istore rfl) ?_
        refine Ew_of (pc' := 44) (fun _ => x_aload_n rfl (rk_o (lc41_1) rfl rfl)) ?_
        refine Ew_of (pc' := 46) (fun _ => x_bipush (z := 59) rfl (by decide)) ?_
        refine Ew_of (pc' := 48) (fun _ => x_iload rfl rk_s) ?_
        refine w_iadd rfl ?_
        refine Ew_of (pc' := 50) (fun _ => x_iconst rfl) ?_
        refine w_ishlA rfl (fun z14 gz14 => ?_)
        have r15 : (0 : Int) ≤ F 1 2 ∧ F 1 2 ≤ 1 := by have h1 : (0 : Int) ≤ F_c41 1 2 ∧ F_c41 1 2 ≤ 1 := H.krg 1 2 (by decide); rw [show F_c41 1 2 = F 1 2 from (hS_c41 1 2 rfl)] at h1; exact h1
        refine v_inv H (o := 1) rfl rfl rfl rfl rfl rfl (by rfl) (C159 (D := pul [1, 2] D) (N := pul [1, 2] N) (HW_sub H (VS_of (show vsub V196_Row V159 [1, 2] = true by decide +kernel))) (((hS_c41 1 0 rfl)).trans (pf2)) (n2) (en2) (u1_1) (((hS_c41 1 1 rfl).trans (eu1_1))) (F 1 2) ((hS_c41 1 2 rfl)) (A 2) (funext (hA_c41 2 rfl)) (show inr (z14) by omega) (show 0 ≤ (u1_1) ∧ (u1_1) ≤ (n2) ∧ (n2) ≤ 65536 by omega) (fun σ16 D16' N16' F16' A16' c16 s16 H' O' hD16 hN16 hS16 hA16 pm16_1 m16_1 em16_1 y16_0_1 ey16_0_1 y16_0_2 ey16_0_2 w16_1 ew16_1 pz16_0 pz16_1 pz16_2 pz16_3 => ⟨rfl, ?_⟩))
        refine v_backM (c := c) (s := s) H (show vsub V196_Row V159 [1, 2] = true by decide +kernel) H' O' hD16 (show vmov V196_Row [1, 2] [1] = true by decide +kernel) (fun D16 N16 F16 A16 H O' eD16 eN16 eF16 eA16 => ?_)
        have O := OUT_trans O O'
        -- Row.add
        have pf16_0_1 : F16 0 1 = (D16 3 : Int) := ((show F16 0 1 = F_c41 0 1 from (eF16 0 1))).trans ((((hS_c41 0 1 rfl)).trans (pf3)).trans (congrArg (fun q : Nat => (q : Int)) ((show D16 3 = D 3 from (eD16 3))).symm))
        have pf16_1_0 : F16 1 0 = (D16 2 : Int) := (eF16 1 0).trans (pm16_1.trans (congrArg (fun q : Nat => (q : Int)) (eD16 2).symm))
        have pf16_3_0 : F16 3 0 = (D16 4 : Int) := ((show F16 3 0 = F_c41 3 0 from (eF16 3 0))).trans ((((hS_c41 3 0 rfl)).trans (pf4)).trans (congrArg (fun q : Nat => (q : Int)) ((show D16 4 = D 4 from (eD16 4))).symm))
        have pf16_4_0 : F16 4 0 = (D16 5 : Int) := ((show F16 4 0 = F_c41 4 0 from (eF16 4 0))).trans ((((hS_c41 4 0 rfl)).trans (pf5)).trans (congrArg (fun q : Nat => (q : Int)) ((show D16 5 = D 5 from (eD16 5))).symm))
        have r17 : (0 : Int) ≤ m16_1 ∧ m16_1 ≤ 1000000 := by have h1 := H.nle 2 (by decide); have h2 : (N16 2 : Int) = m16_1 := (congrArg (fun q : Nat => (q : Int)) (eN16 2)).trans em16_1; omega
        have r18 : (-2147483648 : Int) ≤ y16_0_1 ∧ y16_0_1 ≤ 2147483647 := by have h1 : (-2147483648 : Int) ≤ F16 1 1 ∧ F16 1 1 ≤ 2147483647 := H.krg 1 1 (by decide); rw [show F16 1 1 = y16_0_1 from ((eF16 1 1).trans ey16_0_1)] at h1; exact h1
        have r19 : (0 : Int) ≤ y16_0_2 ∧ y16_0_2 ≤ 1 := by have h1 : (0 : Int) ≤ F16 1 2 ∧ F16 1 2 ≤ 1 := H.krg 1 2 (by decide); rw [show F16 1 2 = y16_0_2 from ((eF16 1 2).trans ey16_0_2)] at h1; exact h1
        refine Ew_of (pc' := 55) (fun _ => x_aload_n rfl (rk_o (lc41_1) rfl rfl)) ?_
        refine Ew_of (pc' := 57) (fun _ => x_iload rfl (rk_o (lc41_4) rfl rfl)) ?_
        refine w_i2l rfl (show inr ((a3 - 1)) by omega) ?_
        refine Ew_of (pc' := 60) (fun _ => x_iload rfl rk_s) ?_
        refine Ew_stk (show ([I (tc41_0), J ((a3 - 1)), .ref (D 1)] : List Value) = [I (tc41_0), J ((a3 - 1)), .ref (D16 1)] by rw [show D16 1 = D 1 from ((show D16 1 = D 1 from (eD16 1).trans (hD16 0 rfl)))]) ?_
        refine v_inv H (o := 1) rfl rfl rfl rfl rfl rfl (by rfl) (C160 (D := pul [1, 2] D16) (N := pul [1, 2] N16) (HW_sub H (VS_of (show vsub V196_Row V160 [1, 2] = true by decide +kernel))) (pf16_1_0) (m16_1) ((congrArg (fun q : Nat => (q : Int)) (eN16 2)).trans em16_1) (y16_0_1) (((eF16 1 1).trans ey16_0_1)) (y16_0_2) (((eF16 1 2).trans ey16_0_2)) (w16_1) ((eA16 2).trans ew16_1) (show inrJ ((a3 - 1)) by omega) (show inr (tc41_0) by omega) (show 0 ≤ (y16_0_1) ∧ (y16_0_1) ≤ (m16_1) ∧ (m16_1) ≤ 65536 by omega) (show 0 ≤ (tc41_0) ∧ (tc41_0) ≤ 8 by omega) (fun σ20 D20' N20' F20' A20' c20 s20 H' O' hD20 hN20 hS20 hA20 pm20_1 m20_1 em20_1 y20_0_1 ey20_0_1 y20_0_2 ey20_0_2 w20_1 ew20_1 pz20_0 pz20_1 pz20_2 => ⟨rfl, ?_⟩))
        refine v_backM (c := (c + c16)) (s := (s + s16)) H (show vsub V196_Row V160 [1, 2] = true by decide +kernel) H' O' hD20 (show vmov V196_Row [1, 2] [1] = true by decide +kernel) (fun D20 N20 F20 A20 H O' eD20 eN20 eF20 eA20 => ?_)
        have O := OUT_trans O O'
        -- Row.addNumber
        have pf20_0_1 : F20 0 1 = (D20 3 : Int) := ((show F20 0 1 = F16 0 1 from (eF20 0 1))).trans ((pf16_0_1).trans (congrArg (fun q : Nat => (q : Int)) ((show D20 3 = D16 3 from (eD20 3))).symm))
        have pf20_1_0 : F20 1 0 = (D20 2 : Int) := (eF20 1 0).trans (pm20_1.trans (congrArg (fun q : Nat => (q : Int)) (eD20 2).symm))
        have pf20_3_0 : F20 3 0 = (D20 4 : Int) := ((show F20 3 0 = F16 3 0 from (eF20 3 0))).trans ((pf16_3_0).trans (congrArg (fun q : Nat => (q : Int)) ((show D20 4 = D16 4 from (eD20 4))).symm))
        have pf20_4_0 : F20 4 0 = (D20 5 : Int) := ((show F20 4 0 = F16 4 0 from (eF20 4 0))).trans ((pf16_4_0).trans (congrArg (fun q : Nat => (q : Int)) ((show D20 5 = D16 5 from (eD20 5))).symm))
        have r21 : (0 : Int) ≤ m20_1 ∧ m20_1 ≤ 1000000 := by have h1 := H.nle 2 (by decide); have h2 : (N20 2 : Int) = m20_1 := (congrArg (fun q : Nat => (q : Int)) (eN20 2)).trans em20_1; omega
        have r22 : (-2147483648 : Int) ≤ y20_0_1 ∧ y20_0_1 ≤ 2147483647 := by have h1 : (-2147483648 : Int) ≤ F20 1 1 ∧ F20 1 1 ≤ 2147483647 := H.krg 1 1 (by decide); rw [show F20 1 1 = y20_0_1 from ((eF20 1 1).trans ey20_0_1)] at h1; exact h1
        have r23 : (0 : Int) ≤ y20_0_2 ∧ y20_0_2 ≤ 1 := by have h1 : (0 : Int) ≤ F20 1 2 ∧ F20 1 2 ≤ 1 := H.krg 1 2 (by decide); rw [show F20 1 2 = y20_0_2 from ((eF20 1 2).trans ey20_0_2)] at h1; exact h1
        exact hc63  _ _ _ _ _ _ _ _  ((rk_o (lc41_0) rfl rfl).trans (congrArg (fun q : Nat => some (Value.ref q)) ((((show D20 0 = D16 0 from (eD20 0))).trans ((show D16 0 = D 0 from (eD16 0))))).symm)) ((rk_o (lc41_1) rfl rfl).trans (congrArg (fun q : Nat => some (Value.ref q)) ((((show D20 1 = D16 1 from (eD20 1).trans (hD20 0 rfl))).trans ((show D16 1 = D 1 from (eD16 1).trans (hD16 0 rfl))))).symm)) (rk_o (lc41_2) rfl rfl) (rk_o (lc41_3) rfl rfl) H O (SD_trans (SD_trans (SD_refl) (SD_glu (ι := [1, 2]) hD16 eD16 (by decide +kernel)) (any_subA (l' := [2]) rfl)) (SD_glu (ι := [1, 2]) hD20 eD20 (by decide +kernel)) (any_subA (l' := [2]) rfl)) (SD_trans (SD_trans (SD_refl) (SD_glu (ι := [1, 2]) hN16 eN16 (by decide +kernel)) (any_subA (l' := [2]) rfl)) (SD_glu (ι := [1, 2]) hN20 eN20 (by decide +kernel)) (any_subA (l' := [2]) rfl)) (SF_trans (SF_trans (SF_trans (SF_refl) hS_c41 (any_sub rfl)) (SF_glu (ι := [1, 2]) hS16 eF16 (by decide +kernel)) (any_sub (l' := [(1, 0), (1, 1), (1, 2)]) rfl)) (SF_glu (ι := [1, 2]) hS20 eF20 (by decide +kernel)) (any_sub (l' := [(1, 0), (1, 1), (1, 2)]) rfl)) (SA_trans (SA_trans (SA_trans (SA_refl) hA_c41 (any_subA rfl)) (SA_glu (ι := [1, 2]) hA16 eA16 (by decide +kernel)) (any_subA (l' := [2]) rfl)) (SA_glu (ι := [1, 2]) hA20 eA20 (by decide +kernel)) (any_subA (l' := [2]) rfl)) (pf20_1_0) (m20_1) ((congrArg (fun q : Nat => (q : Int)) (eN20 2)).trans em20_1) (y20_0_1) (((eF20 1 1).trans ey20_0_1))  (show 0 ≤ (y20_0_1) ∧ (y20_0_1) ≤ (m20_1) ∧ (m20_1) ≤ 65536 by omega)
      refine w_icmpge (t := 40) rfl rfl (show inr ((a3 - 1)) by omega) (show inr (256) by omega) (fun b24 => ?_) (fun b24 => ?_)
      · refine Ew_of (pc' := 41) (fun _ => x_iconst rfl) ?_
        exact hc41 (2) _ _ _ _  (rk_o (rfl) rfl rfl) (rk_o (rfl) rfl rfl) (rk_o (rfl) rfl rfl) (rk_o (rfl) rfl rfl) (rk_s) H O (SF_refl) (SA_refl)     (show inr (2) by omega) (show (((a3 - 1)) ≥ (256) ∧ (2) = (2)) ∨ (((a3 - 1)) < (256) ∧ (2) = (1)) by omega)
      · refine Ew_of (pc' := 37) (fun _ => x_iconst rfl) ?_
        refine Ew_of (pc' := 41) (fun _ => x_goto rfl rfl) ?_
        exact hc41 (1) _ _ _ _  (rk_o (rfl) rfl rfl) (rk_o (rfl) rfl rfl) (rk_o (rfl) rfl rfl) (rk_o (rfl) rfl rfl) (rk_s) H O (SF_refl) (SA_refl)     (show inr (1) by omega) (show (((a3 - 1)) ≥ (256) ∧ (1) = (2)) ∨ (((a3 - 1)) < (256) ∧ (1) = (1)) by omega)
    · refine Ew_of (pc' := 18) (fun _ => x_aload_n rfl (rk_o (rfl) rfl rfl)) ?_
      refine Ew_of (pc' := 20) (fun _ => x_iload rfl rk_s) ?_
      refine Ew_of (pc' := 21) (fun _ => x_iconst rfl) ?_
      refine w_ishlA rfl (fun z25 gz25 => ?_)
      have r26 : (0 : Int) ≤ F 1 2 ∧ F 1 2 ≤ 1 := by have h1 : (0 : Int) ≤ F 1 2 ∧ F 1 2 ≤ 1 := H.krg 1 2 (by decide); rw [show F 1 2 = F 1 2 from rfl] at h1; exact h1
      refine v_inv H (o := 1) rfl rfl rfl rfl rfl rfl (by rfl) (C159 (D := pul [1, 2] D) (N := pul [1, 2] N) (HW_sub H (VS_of (show vsub V196_Row V159 [1, 2] = true by decide +kernel))) (pf2) (n2) (en2) (u1_1) ((eu1_1)) (F 1 2) (rfl) (A 2) (rfl) (show inr (z25) by omega) (show 0 ≤ (u1_1) ∧ (u1_1) ≤ (n2) ∧ (n2) ≤ 65536 by omega) (fun σ27 D27' N27' F27' A27' c27 s27 H' O' hD27 hN27 hS27 hA27 pm27_1 m27_1 em27_1 y27_0_1 ey27_0_1 y27_0_2 ey27_0_2 w27_1 ew27_1 pz27_0 pz27_1 pz27_2 pz27_3 => ⟨rfl, ?_⟩))
      refine v_backM (c := c) (s := s) H (show vsub V196_Row V159 [1, 2] = true by decide +kernel) H' O' hD27 (show vmov V196_Row [1, 2] [1] = true by decide +kernel) (fun D27 N27 F27 A27 H O' eD27 eN27 eF27 eA27 => ?_)
      have O := OUT_trans O O'
      -- Row.add
      have pf27_0_1 : F27 0 1 = (D27 3 : Int) := ((show F27 0 1 = F 0 1 from (eF27 0 1))).trans ((pf3).trans (congrArg (fun q : Nat => (q : Int)) ((show D27 3 = D 3 from (eD27 3))).symm))
      have pf27_1_0 : F27 1 0 = (D27 2 : Int) := (eF27 1 0).trans (pm27_1.trans (congrArg (fun q : Nat => (q : Int)) (eD27 2).symm))
      have pf27_3_0 : F27 3 0 = (D27 4 : Int) := ((show F27 3 0 = F 3 0 from (eF27 3 0))).trans ((pf4).trans (congrArg (fun q : Nat => (q : Int)) ((show D27 4 = D 4 from (eD27 4))).symm))
      have pf27_4_0 : F27 4 0 = (D27 5 : Int) := ((show F27 4 0 = F 4 0 from (eF27 4 0))).trans ((pf5).trans (congrArg (fun q : Nat => (q : Int)) ((show D27 5 = D 5 from (eD27 5))).symm))
      have r28 : (0 : Int) ≤ m27_1 ∧ m27_1 ≤ 1000000 := by have h1 := H.nle 2 (by decide); have h2 : (N27 2 : Int) = m27_1 := (congrArg (fun q : Nat => (q : Int)) (eN27 2)).trans em27_1; omega
      have r29 : (-2147483648 : Int) ≤ y27_0_1 ∧ y27_0_1 ≤ 2147483647 := by have h1 : (-2147483648 : Int) ≤ F27 1 1 ∧ F27 1 1 ≤ 2147483647 := H.krg 1 1 (by decide); rw [show F27 1 1 = y27_0_1 from ((eF27 1 1).trans ey27_0_1)] at h1; exact h1
      have r30 : (0 : Int) ≤ y27_0_2 ∧ y27_0_2 ≤ 1 := by have h1 : (0 : Int) ≤ F27 1 2 ∧ F27 1 2 ≤ 1 := H.krg 1 2 (by decide); rw [show F27 1 2 = y27_0_2 from ((eF27 1 2).trans ey27_0_2)] at h1; exact h1
      refine Ew_of (pc' := 63) (fun _ => x_goto rfl rfl) ?_
      exact hc63  _ _ _ _ _ _ _ _  ((rk_o (rfl) rfl rfl).trans (congrArg (fun q : Nat => some (Value.ref q)) (((show D27 0 = D 0 from (eD27 0)))).symm)) ((rk_o (rfl) rfl rfl).trans (congrArg (fun q : Nat => some (Value.ref q)) (((show D27 1 = D 1 from (eD27 1).trans (hD27 0 rfl)))).symm)) (rk_o (rfl) rfl rfl) (rk_o (rfl) rfl rfl) H O (SD_trans (SD_refl) (SD_glu (ι := [1, 2]) hD27 eD27 (by decide +kernel)) (any_subA (l' := [2]) rfl)) (SD_trans (SD_refl) (SD_glu (ι := [1, 2]) hN27 eN27 (by decide +kernel)) (any_subA (l' := [2]) rfl)) (SF_trans (SF_refl) (SF_glu (ι := [1, 2]) hS27 eF27 (by decide +kernel)) (any_sub (l' := [(1, 0), (1, 1), (1, 2)]) rfl)) (SA_trans (SA_refl) (SA_glu (ι := [1, 2]) hA27 eA27 (by decide +kernel)) (any_subA (l' := [2]) rfl)) (pf27_1_0) (m27_1) ((congrArg (fun q : Nat => (q : Int)) (eN27 2)).trans em27_1) (y27_0_1) (((eF27 1 1).trans ey27_0_1))  (show 0 ≤ (y27_0_1) ∧ (y27_0_1) ≤ (m27_1) ∧ (m27_1) ≤ 65536 by omega)
  · exact w_ret rfl (k _ _ _ _ _ _ _ H O (SD_refl) (SD_refl) (SF_refl) (SA_refl) (pf2) (n2) (en2) (u1_1) ((eu1_1)) (show 0 ≤ (u1_1) ∧ (u1_1) ≤ (n2) ∧ (n2) ≤ 65536 by omega))
abbrev V197_Row : vV := [(0, 7, [(4, 0), (0, 0), (1, 0), (0, 0), (0, 0)]), (1, 0, [])]
/-- Tags.packCopies: #1, #1.bytes -/
theorem C197_Row {σE : rS} {D N : Nat → Nat} {F : hF} {A : hA} {d c s : Nat} {Q : wQ} (H : HW V197_Row σE D N F A) {a2 a3 : Int} (pf1 : F 0 0 = (D 1 : Int)) (n1 : Int) (en1 : (N 1 : Int) = n1) (u0_1 : Int) (eu0_1 : F 0 1 = u0_1) (h0 : inr (a2)) (h1 : inr (a3)) (h2 : 0 ≤ (u0_1) ∧ (u0_1) ≤ (n1) ∧ (n1) ≤ 65536) (h3 : 0 ≤ (a2) ∧ (a2) ≤ 65536) (k : ∀ (σ : rS) (D' N' : Nat → Nat) (F' : hF) (A' : hA) (c' s' : Nat), HW V197_Row σ D' N' F' A' → OUT (V197_Row).length D N σE c s D' N' σ c' s' → SD [1] D D' → SD [1] N N' → SF [(0, 0), (0, 1), (0, 2)] F F' → SA [1] A A' → F' 0 0 = (D' 1 : Int) → ∀ m1 : Int, (N' 1 : Int) = m1 → ∀ y0_1 : Int, F' 0 1 = y0_1 → (0 ≤ (y0_1) ∧ (y0_1) ≤ (m1) ∧ (m1) ≤ 65536) → Q none σ c' s') : Ew 197 (d + 3) 0 (rargs 0 [.ref (D 0), I a2, I a3]) [] σE c s Q := by
  have O := OUT_refl (n := (V197_Row).length) (D := D) (N := N) (σ := σE) (c := c) (s := s)
  have HE := H
  have r1 : (-2147483648 : Int) ≤ u0_1 ∧ u0_1 ≤ 2147483647 := by have h1 : (-2147483648 : Int) ≤ F 0 1 ∧ F 0 1 ≤ 2147483647 := H.krg 0 1 (by decide); rw [show F 0 1 = u0_1 from (eu0_1)] at h1; exact h1
  have r2 : (0 : Int) ≤ n1 ∧ n1 ≤ 1000000 := by have h1 := H.nle 1 (by decide); have h2 : (N 1 : Int) = n1 := en1; omega
  refine Ew_of (pc' := 1) (fun _ => x_iload_n rfl rfl) ?_
  refine Ew_of (pc' := 4) (fun _ => x_sipush (z := 2048) rfl (by decide)) ?_
  have hc12 : ∀ (tc12_0 : Int), ∀ (ls : rO) (σ : rS) (F_c12 : hF) (A_c12 : hA) , rlook ls 0 = some (.ref (D 0)) → rlook ls 1 = some (I (a2)) → rlook ls 2 = some (I (a3)) → HW V197_Row σ D N F_c12 A_c12 → OUT (V197_Row).length D N σE c s D N σ c s → SF [] F F_c12 → SA [] A A_c12 → (inr (tc12_0)) → (((a3) ≥ (2048) ∧ (tc12_0) = (0)) ∨ ((a3) < (2048) ∧ (tc12_0) = (1))) → Ew 197 (d + 3) 12 ls [I (tc12_0)] σ c s Q := by
   as_aux_lemma =>
    intro tc12_0 ls σ F_c12 A_c12  lc12_0 lc12_1 lc12_2 H O hS_c12 hA_c12     jc12_0 jc12_1
    refine Ew_of (pc' := 13) (fun _ => x_istore_n rfl) ?_
    refine Ew_of (pc' := 14) (fun _ => x_iload_n rfl (rk_o (lc12_1) rfl rfl)) ?_
    refine Ew_of (pc' := 16) (fun _ => x_istore rfl) ?_
    refine Ew_of (pc' := 17) (fun _ => x_iconst rfl) ?_
    refine Ew_of (pc' := 19) (fun _ => x_istore rfl) ?_
    suffices hl19 : ∀ (m : Nat), ∀ (ls : rO) (σ : rS) (D_19 N_19 : Nat → Nat) (c_19 s_19 : Nat) (F_19 : hF) (A_19 : hA) (x19_4 : Int) (x19_5 : Int), rlook ls 0 = some (.ref (D_19 0)) → rlook ls 1 = some (I (a2)) → rlook ls 2 = some (I (a3)) → rlook ls 3 = some (I (tc12_0)) → rlook ls 4 = some (I (x19_4)) → rlook ls 5 = some (I (x19_5)) → HW V197_Row σ D_19 N_19 F_19 A_19 → OUT (V197_Row).length D N σE c s D_19 N_19 σ c_19 s_19 → SD [1] D D_19 → SD [1] N N_19 → SF [(0, 0), (0, 1), (0, 2)] F_c12 F_19 → SA [1] A_c12 A_19 → F_19 0 0 = (D_19 1 : Int) → ∀ m19_1 : Int, (N_19 1 : Int) = m19_1 → ∀ y19_0_1 : Int, F_19 0 1 = y19_0_1 → (inr (x19_4)) → (inr (x19_5)) → ((0) ≤ (x19_5)) → ((x19_5) ≤ (0) ∨ (x19_5) ≤ ((a2))) → (0 ≤ (y19_0_1) ∧ (y19_0_1) ≤ (m19_1) ∧ (m19_1) ≤ 65536) → ((x19_4) ≤ 65536) → (((a2)) - (x19_5)).toNat = m → Ew 197 (d + 3) 19 ls [] σ c_19 s_19 Q from
      hl19 _ _ _ _ _ _ _ _ _ (a2) (0) (rk_o (rk_o (rk_o (lc12_0) rfl rfl) rfl rfl) rfl rfl) (rk_o (rk_o (rk_o (lc12_1) rfl rfl) rfl rfl) rfl rfl) (rk_o (rk_o (rk_o (lc12_2) rfl rfl) rfl rfl) rfl rfl) (rk_o (rk_o (rk_s) rfl rfl) rfl rfl) (rk_o (rk_s) rfl rfl) (rk_s) H O (SD_refl) (SD_refl) (SF_refl) (SA_refl) (((hS_c12 0 0 rfl)).trans (pf1)) (n1) (en1) (u0_1) (((hS_c12 0 1 rfl).trans (eu0_1)))  (show inr (a2) by omega) (show inr (0) by omega) (show (0) ≤ (0) by omega) (show (0) ≤ (0) ∨ (0) ≤ ((a2)) by omega) (show 0 ≤ (u0_1) ∧ (u0_1) ≤ (n1) ∧ (n1) ≤ 65536 by omega) (show (a2) ≤ 65536 by omega) rfl
    as_aux_lemma =>
    intro m
    induction m using Nat.strongRecOn with
    | _ m ih19 =>
      intro ls σ D_19 N_19 c_19 s_19 F_19 A_19 x19_4 x19_5 l19_0 l19_1 l19_2 l19_3 l19_4 l19_5 H O hD_19 hN_19 hS_19 hA_19 pm19_1 m19_1 em19_1 y19_0_1 ey19_0_1  j19_0 j19_1 j19_2 j19_3 j19_4 j19_5 hm19
      have r3 : (0 : Int) ≤ m19_1 ∧ m19_1 ≤ 1000000 := by have h1 := H.nle 1 (by decide); have h2 : (N_19 1 : Int) = m19_1 := em19_1; omega
      have r4 : (-2147483648 : Int) ≤ y19_0_1 ∧ y19_0_1 ≤ 2147483647 := by have h1 : (-2147483648 : Int) ≤ F_19 0 1 ∧ F_19 0 1 ≤ 2147483647 := H.krg 0 1 (by decide); rw [show F_19 0 1 = y19_0_1 from (ey19_0_1)] at h1; exact h1
      refine Ew_of (pc' := 21) (fun _ => x_iload rfl l19_5) ?_
      refine Ew_of (pc' := 22) (fun _ => x_iload_n rfl l19_1) ?_
      refine w_icmpge (t := 106) rfl rfl (show inr (x19_5) by omega) (show inr (a2) by omega) (fun b5 => ?_) (fun b5 => ?_)
      · exact w_ret rfl (k _ _ _ _ _ _ _ H O (SD_trans (SD_refl) hD_19 (any_subA rfl)) (SD_trans (SD_refl) hN_19 (any_subA rfl)) (SF_trans (SF_trans (SF_refl) hS_c12 (any_sub rfl)) hS_19 (any_sub rfl)) (SA_trans (SA_trans (SA_refl) hA_c12 (any_subA rfl)) hA_19 (any_subA rfl)) (pm19_1) (m19_1) (em19_1) (y19_0_1) ((ey19_0_1)) (show 0 ≤ (y19_0_1) ∧ (y19_0_1) ≤ (m19_1) ∧ (m19_1) ≤ 65536 by omega))
      · refine Ew_of (pc' := 27) (fun _ => x_iload rfl l19_4) ?_
        refine w_ifle (t := 106) rfl rfl (show inr (x19_4) by omega) (fun b6 => ?_) (fun b6 => ?_)
        · exact w_ret rfl (k _ _ _ _ _ _ _ H O (SD_trans (SD_refl) hD_19 (any_subA rfl)) (SD_trans (SD_refl) hN_19 (any_subA rfl)) (SF_trans (SF_trans (SF_refl) hS_c12 (any_sub rfl)) hS_19 (any_sub rfl)) (SA_trans (SA_trans (SA_refl) hA_c12 (any_subA rfl)) hA_19 (any_subA rfl)) (pm19_1) (m19_1) (em19_1) (y19_0_1) ((ey19_0_1)) (show 0 ≤ (y19_0_1) ∧ (y19_0_1) ≤ (m19_1) ∧ (m19_1) ≤ 65536 by omega))
        · refine Ew_of (pc' := 32) (fun _ => x_iload rfl l19_4) ?_
          refine Ew_of (pc' := 33) (fun _ => x_iload_n rfl l19_3) ?_
          refine w_stat24 rfl rfl (by rfl) (C199 (D := pul [] D_19) (N := pul [] N_19) (HW_sub H (VS_of (show vsub V197_Row V199 [] = true by decide +kernel))) (show inr (x19_4) by omega) (show inr (tc12_0) by omega) (show (tc12_0) = 0 ∨ (tc12_0) = 1 by omega) (show 1 ≤ (x19_4) ∧ (x19_4) ≤ 65536 by omega) (fun z7 σ7 F7' A7' H' O' hS7 hA7 pz7_0 pz7_1 => ⟨rfl, ?_⟩))
          refine v_back (c := c_19) (s := s_19) H (show vsub V197_Row V199 [] = true by decide +kernel) H' O' (fun F7 A7 H O' eF7 eA7 => ?_)
          have O := OUT_trans O O'
          -- Tags.firstCopy
          refine Ew_of (pc' := 38) (fun _ => x_istore rfl) ?_
          have hc93 : ∀ (ls : rO) (σ : rS) (D_c93 N_c93 : Nat → Nat) (c_c93 s_c93 : Nat) (F_c93 : hF) (A_c93 : hA) , rlook ls 0 = some (.ref (D_c93 0)) → rlook ls 1 = some (I (a2)) → rlook ls 2 = some (I (a3)) → rlook ls 3 = some (I (tc12_0)) → rlook ls 4 = some (I (x19_4)) → rlook ls 5 = some (I (x19_5)) → rlook ls 6 = some (I (z7)) → HW V197_Row σ D_c93 N_c93 F_c93 A_c93 → OUT (V197_Row).length D N σE c s D_c93 N_c93 σ c_c93 s_c93 → SD [1] D_19 D_c93 → SD [1] N_19 N_c93 → SF [(0, 0), (0, 1), (0, 2)] F7 F_c93 → SA [1] A7 A_c93 → F_c93 0 0 = (D_c93 1 : Int) → ∀ mc93_1 : Int, (N_c93 1 : Int) = mc93_1 → ∀ yc93_0_1 : Int, F_c93 0 1 = yc93_0_1 → (0 ≤ (yc93_0_1) ∧ (yc93_0_1) ≤ (mc93_1) ∧ (mc93_1) ≤ 65536) → Ew 197 (d + 3) 93 ls [] σ c_c93 s_c93 Q := by
           as_aux_lemma =>
            intro  ls σ D_c93 N_c93 c_c93 s_c93 F_c93 A_c93  lc93_0 lc93_1 lc93_2 lc93_3 lc93_4 lc93_5 lc93_6 H O hD_c93 hN_c93 hS_c93 hA_c93 pmc93_1 mc93_1 emc93_1 yc93_0_1 eyc93_0_1  jc93_0
            have r8 : (0 : Int) ≤ mc93_1 ∧ mc93_1 ≤ 1000000 := by have h1 := H.nle 1 (by decide); have h2 : (N_c93 1 : Int) = mc93_1 := emc93_1; omega
            have r9 : (-2147483648 : Int) ≤ yc93_0_1 ∧ yc93_0_1 ≤ 2147483647 := by have h1 : (-2147483648 : Int) ≤ F_c93 0 1 ∧ F_c93 0 1 ≤ 2147483647 := H.krg 0 1 (by decide); rw [show F_c93 0 1 = yc93_0_1 from (eyc93_0_1)] at h1; exact h1
            refine Ew_of (pc' := 95) (fun _ => x_iload rfl lc93_4) ?_
            refine Ew_of (pc' := 97) (fun _ => x_iload rfl lc93_6) ?_
            refine w_isub rfl ?_
            refine Ew_of (pc' := 100) (fun _ => x_istore rfl) ?_
            refine Ew_of (pc' := 103) (fun _ => x_iinc (len := 3) rfl (rk_o (lc93_5) rfl rfl)) ?_
            refine Ew_of (pc' := 19) (fun _ => x_goto rfl rfl) ?_
            exact ih19 _ (by omega) _ _ _ _ _ _ _ _ ((x19_4 - z7)) ((x19_5 + 1)) (rk_o (rk_o (lc93_0) rfl rfl) rfl rfl) (rk_o (rk_o (lc93_1) rfl rfl) rfl rfl) (rk_o (rk_o (lc93_2) rfl rfl) rfl rfl) (rk_o (rk_o (lc93_3) rfl rfl) rfl rfl) (rk_o (rk_s) rfl rfl) (rk_s) H O (SD_trans (hD_19) hD_c93 (any_subA rfl)) (SD_trans (hN_19) hN_c93 (any_subA rfl)) (SF_trans (SF_trans (hS_19) (SF_glu (ι := []) hS7 eF7 (by decide +kernel)) (any_sub (l' := []) rfl)) hS_c93 (any_sub rfl)) (SA_trans (SA_trans (hA_19) (SA_glu (ι := []) hA7 eA7 (by decide +kernel)) (any_subA (l' := []) rfl)) hA_c93 (any_subA rfl)) (pmc93_1) (mc93_1) (emc93_1) (yc93_0_1) ((eyc93_0_1))  (show inr ((x19_4 - z7)) by omega) (show inr ((x19_5 + 1)) by omega) (show (0) ≤ ((x19_5 + 1)) by omega) (show ((x19_5 + 1)) ≤ (0) ∨ ((x19_5 + 1)) ≤ ((a2)) by omega) (show 0 ≤ (yc93_0_1) ∧ (yc93_0_1) ≤ (mc93_1) ∧ (mc93_1) ≤ 65536 by omega) (show ((x19_4 - z7)) ≤ 65536 by omega) rfl
          refine Ew_of (pc' := 40) (fun _ => x_iload rfl rk_s) ?_
          refine Ew_of (pc' := 41) (fun _ => x_iload_n rfl (rk_o (l19_3) rfl rfl)) ?_
          refine w_stat24 rfl rfl (by rfl) (C198 (D := pul [] D_19) (N := pul [] N_19) (HW_sub H (VS_of (show vsub V197_Row V198 [] = true by decide +kernel))) (show inr (z7) by omega) (show inr (tc12_0) by omega) (show (tc12_0) = 0 ∨ (tc12_0) = 1 by omega) (fun z10 σ10 F10' A10' H' O' hS10 hA10 pz10_0 => ⟨rretB rfl pz10_0, ?_⟩))
          refine v_back (c := c_19) (s := s_19) H (show vsub V197_Row V198 [] = true by decide +kernel) H' O' (fun F10 A10 H O' eF10 eA10 => ?_)
          have O := OUT_trans O O'
          -- Tags.isShort
          refine w_ifeq (t := 74) rfl rfl (show inr (z10) by omega) (fun b11 => ?_) (fun b11 => ?_)
          · refine Ew_of (pc' := 75) (fun _ => x_aload_n rfl (rk_o (l19_0) rfl rfl)) ?_
            refine Ew_of (pc' := 76) (fun _ => x_iconst rfl) ?_
            refine Ew_of (pc' := 78) (fun _ => x_iload rfl rk_s) ?_
            refine Ew_of (pc' := 79) (fun _ => x_iconst rfl) ?_
            refine w_isub rfl ?_
            refine Ew_of (pc' := 81) (fun _ => x_iconst rfl) ?_
            refine w_ishlA rfl (fun z12 gz12 => ?_)
            refine w_ior rfl (fun z13 gz13 => ?_)
            have r14 : (0 : Int) ≤ F_19 0 2 ∧ F_19 0 2 ≤ 1 := by have h1 : (0 : Int) ≤ F10 0 2 ∧ F10 0 2 ≤ 1 := H.krg 0 2 (by decide); rw [show F10 0 2 = F_19 0 2 from (((show F10 0 2 = F7 0 2 from (eF10 0 2))).trans ((show F7 0 2 = F_19 0 2 from (eF7 0 2))))] at h1; exact h1
            refine v_inv H (o := 0) rfl rfl rfl rfl rfl rfl (by rfl) (C159 (D := pul [0, 1] D_19) (N := pul [0, 1] N_19) (HW_sub H (VS_of (show vsub V197_Row V159 [0, 1] = true by decide +kernel))) (((((show F10 0 0 = F7 0 0 from (eF10 0 0))).trans ((show F7 0 0 = F_19 0 0 from (eF7 0 0))))).trans (pm19_1)) (m19_1) (em19_1) (y19_0_1) (((((show F10 0 1 = F7 0 1 from (eF10 0 1))).trans ((show F7 0 1 = F_19 0 1 from (eF7 0 1)))).trans (ey19_0_1))) (F_19 0 2) ((((show F10 0 2 = F7 0 2 from (eF10 0 2))).trans ((show F7 0 2 = F_19 0 2 from (eF7 0 2))))) (A_19 1) (((show A10 1 = A7 1 from (eA10 1))).trans ((show A7 1 = A_19 1 from (eA7 1)))) (show inr (z13) by omega) (show 0 ≤ (y19_0_1) ∧ (y19_0_1) ≤ (m19_1) ∧ (m19_1) ≤ 65536 by omega) (fun σ15 D15' N15' F15' A15' c15 s15 H' O' hD15 hN15 hS15 hA15 pm15_1 m15_1 em15_1 y15_0_1 ey15_0_1 y15_0_2 ey15_0_2 w15_1 ew15_1 pz15_0 pz15_1 pz15_2 pz15_3 => ⟨rfl, ?_⟩))
            refine v_backM (c := c_19) (s := s_19) H (show vsub V197_Row V159 [0, 1] = true by decide +kernel) H' O' hD15 (show vmov V197_Row [0, 1] [1] = true by decide +kernel) (fun D15 N15 F15 A15 H O' eD15 eN15 eF15 eA15 => ?_)
            have O := OUT_trans O O'
            -- Row.add
            have pf15_0_0 : F15 0 0 = (D15 1 : Int) := (eF15 0 0).trans (pm15_1.trans (congrArg (fun q : Nat => (q : Int)) (eD15 1).symm))
            have r16 : (0 : Int) ≤ m15_1 ∧ m15_1 ≤ 1000000 := by have h1 := H.nle 1 (by decide); have h2 : (N15 1 : Int) = m15_1 := (congrArg (fun q : Nat => (q : Int)) (eN15 1)).trans em15_1; omega
            have r17 : (-2147483648 : Int) ≤ y15_0_1 ∧ y15_0_1 ≤ 2147483647 := by have h1 : (-2147483648 : Int) ≤ F15 0 1 ∧ F15 0 1 ≤ 2147483647 := H.krg 0 1 (by decide); rw [show F15 0 1 = y15_0_1 from ((eF15 0 1).trans ey15_0_1)] at h1; exact h1
            have r18 : (0 : Int) ≤ y15_0_2 ∧ y15_0_2 ≤ 1 := by have h1 : (0 : Int) ≤ F15 0 2 ∧ F15 0 2 ≤ 1 := H.krg 0 2 (by decide); rw [show F15 0 2 = y15_0_2 from ((eF15 0 2).trans ey15_0_2)] at h1; exact h1
            refine Ew_of (pc' := 87) (fun _ => x_aload_n rfl (rk_o (l19_0) rfl rfl)) ?_
            refine Ew_of (pc' := 88) (fun _ => x_iload_n rfl (rk_o (l19_2) rfl rfl)) ?_
            refine w_i2l rfl (show inr (a3) by omega) ?_
            refine Ew_of (pc' := 90) (fun _ => x_iconst rfl) ?_
            refine Ew_stk (show ([I (2), J (a3), .ref (D_19 0)] : List Value) = [I (2), J (a3), .ref (D15 0)] by rw [show D15 0 = D_19 0 from ((show D15 0 = D_19 0 from (eD15 0).trans (hD15 0 rfl)))]) ?_
            refine v_inv H (o := 0) rfl rfl rfl rfl rfl rfl (by rfl) (C160 (D := pul [0, 1] D15) (N := pul [0, 1] N15) (HW_sub H (VS_of (show vsub V197_Row V160 [0, 1] = true by decide +kernel))) (pf15_0_0) (m15_1) ((congrArg (fun q : Nat => (q : Int)) (eN15 1)).trans em15_1) (y15_0_1) (((eF15 0 1).trans ey15_0_1)) (y15_0_2) (((eF15 0 2).trans ey15_0_2)) (w15_1) ((eA15 1).trans ew15_1) (show inrJ (a3) by omega) (show inr (2) by omega) (show 0 ≤ (y15_0_1) ∧ (y15_0_1) ≤ (m15_1) ∧ (m15_1) ≤ 65536 by omega) (show 0 ≤ (2) ∧ (2) ≤ 8 by omega) (fun σ19 D19' N19' F19' A19' c19 s19 H' O' hD19 hN19 hS19 hA19 pm19_1 m19_1 em19_1 y19_0_1 ey19_0_1 y19_0_2 ey19_0_2 w19_1 ew19_1 pz19_0 pz19_1 pz19_2 => ⟨rfl, ?_⟩))
            refine v_backM (c := (c_19 + c15)) (s := (s_19 + s15)) H (show vsub V197_Row V160 [0, 1] = true by decide +kernel) H' O' hD19 (show vmov V197_Row [0, 1] [1] = true by decide +kernel) (fun D19 N19 F19 A19 H O' eD19 eN19 eF19 eA19 => ?_)
            have O := OUT_trans O O'
            -- Row.addNumber
            have pf19_0_0 : F19 0 0 = (D19 1 : Int) := (eF19 0 0).trans (pm19_1.trans (congrArg (fun q : Nat => (q : Int)) (eD19 1).symm))
            have r20 : (0 : Int) ≤ y19_0_2 ∧ y19_0_2 ≤ 1 := by have h1 : (0 : Int) ≤ F19 0 2 ∧ F19 0 2 ≤ 1 := H.krg 0 2 (by decide); rw [show F19 0 2 = y19_0_2 from ((eF19 0 2).trans ey19_0_2)] at h1; exact h1
            exact hc93  _ _ _ _ _ _ _ _  ((rk_o (l19_0) rfl rfl).trans (congrArg (fun q : Nat => some (Value.ref q)) ((((show D19 0 = D15 0 from (eD19 0).trans (hD19 0 rfl))).trans ((show D15 0 = D_19 0 from (eD15 0).trans (hD15 0 rfl))))).symm)) (rk_o (l19_1) rfl rfl) (rk_o (l19_2) rfl rfl) (rk_o (l19_3) rfl rfl) (rk_o (l19_4) rfl rfl) (rk_o (l19_5) rfl rfl) (rk_s) H O (SD_trans (SD_trans (SD_refl) (SD_glu (ι := [0, 1]) hD15 eD15 (by decide +kernel)) (any_subA (l' := [1]) rfl)) (SD_glu (ι := [0, 1]) hD19 eD19 (by decide +kernel)) (any_subA (l' := [1]) rfl)) (SD_trans (SD_trans (SD_refl) (SD_glu (ι := [0, 1]) hN15 eN15 (by decide +kernel)) (any_subA (l' := [1]) rfl)) (SD_glu (ι := [0, 1]) hN19 eN19 (by decide +kernel)) (any_subA (l' := [1]) rfl)) (SF_trans (SF_trans (SF_trans (SF_refl) (SF_glu (ι := []) hS10 eF10 (by decide +kernel)) (any_sub (l' := []) rfl)) (SF_glu (ι := [0, 1]) hS15 eF15 (by decide +kernel)) (any_sub (l' := [(0, 0), (0, 1), (0, 2)]) rfl)) (SF_glu (ι := [0, 1]) hS19 eF19 (by decide +kernel)) (any_sub (l' := [(0, 0), (0, 1), (0, 2)]) rfl)) (SA_trans (SA_trans (SA_trans (SA_refl) (SA_glu (ι := []) hA10 eA10 (by decide +kernel)) (any_subA (l' := []) rfl)) (SA_glu (ι := [0, 1]) hA15 eA15 (by decide +kernel)) (any_subA (l' := [1]) rfl)) (SA_glu (ι := [0, 1]) hA19 eA19 (by decide +kernel)) (any_subA (l' := [1]) rfl)) (pf19_0_0) (m19_1) ((congrArg (fun q : Nat => (q : Int)) (eN19 1)).trans em19_1) (y19_0_1) (((eF19 0 1).trans ey19_0_1))  (show 0 ≤ (y19_0_1) ∧ (y19_0_1) ≤ (m19_1) ∧ (m19_1) ≤ 65536 by omega)
          · refine Ew_of (pc' := 48) (fun _ => x_aload_n rfl (rk_o (l19_0) rfl rfl)) ?_
            refine Ew_of (pc' := 49) (fun _ => x_iconst rfl) ?_
            refine Ew_of (pc' := 51) (fun _ => x_iload rfl rk_s) ?_
            refine Ew_of (pc' := 52) (fun _ => x_iconst rfl) ?_
            refine w_isub rfl ?_
            refine Ew_of (pc' := 54) (fun _ => x_iconst rfl) ?_
            refine w_ishlA rfl (fun z21 gz21 => ?_)
            refine w_ior rfl (fun z22 gz22 => ?_)
            refine Ew_of (pc' := 57) (fun _ => x_iload_n rfl (rk_o (l19_2) rfl rfl)) ?_
            refine Ew_of (pc' := 59) (fun _ => x_bipush (z := 8) rfl (by decide)) ?_
            refine w_ishrA rfl (fun z23 gz23 => ?_)
            refine Ew_of (pc' := 61) (fun _ => x_iconst rfl) ?_
            refine w_ishlA rfl (fun z24 gz24 => ?_)
            refine w_ior rfl (fun z25 gz25 => ?_)
            have r26 : (0 : Int) ≤ F_19 0 2 ∧ F_19 0 2 ≤ 1 := by have h1 : (0 : Int) ≤ F10 0 2 ∧ F10 0 2 ≤ 1 := H.krg 0 2 (by decide); rw [show F10 0 2 = F_19 0 2 from (((show F10 0 2 = F7 0 2 from (eF10 0 2))).trans ((show F7 0 2 = F_19 0 2 from (eF7 0 2))))] at h1; exact h1
            refine v_inv H (o := 0) rfl rfl rfl rfl rfl rfl (by rfl) (C159 (D := pul [0, 1] D_19) (N := pul [0, 1] N_19) (HW_sub H (VS_of (show vsub V197_Row V159 [0, 1] = true by decide +kernel))) (((((show F10 0 0 = F7 0 0 from (eF10 0 0))).trans ((show F7 0 0 = F_19 0 0 from (eF7 0 0))))).trans (pm19_1)) (m19_1) (em19_1) (y19_0_1) (((((show F10 0 1 = F7 0 1 from (eF10 0 1))).trans ((show F7 0 1 = F_19 0 1 from (eF7 0 1)))).trans (ey19_0_1))) (F_19 0 2) ((((show F10 0 2 = F7 0 2 from (eF10 0 2))).trans ((show F7 0 2 = F_19 0 2 from (eF7 0 2))))) (A_19 1) (((show A10 1 = A7 1 from (eA10 1))).trans ((show A7 1 = A_19 1 from (eA7 1)))) (show inr (z25) by omega) (show 0 ≤ (y19_0_1) ∧ (y19_0_1) ≤ (m19_1) ∧ (m19_1) ≤ 65536 by omega) (fun σ27 D27' N27' F27' A27' c27 s27 H' O' hD27 hN27 hS27 hA27 pm27_1 m27_1 em27_1 y27_0_1 ey27_0_1 y27_0_2 ey27_0_2 w27_1 ew27_1 pz27_0 pz27_1 pz27_2 pz27_3 => ⟨rfl, ?_⟩))
            refine v_backM (c := c_19) (s := s_19) H (show vsub V197_Row V159 [0, 1] = true by decide +kernel) H' O' hD27 (show vmov V197_Row [0, 1] [1] = true by decide +kernel) (fun D27 N27 F27 A27 H O' eD27 eN27 eF27 eA27 => ?_)
            have O := OUT_trans O O'
            -- Row.add
            have pf27_0_0 : F27 0 0 = (D27 1 : Int) := (eF27 0 0).trans (pm27_1.trans (congrArg (fun q : Nat => (q : Int)) (eD27 1).symm))
            have r28 : (0 : Int) ≤ m27_1 ∧ m27_1 ≤ 1000000 := by have h1 := H.nle 1 (by decide); have h2 : (N27 1 : Int) = m27_1 := (congrArg (fun q : Nat => (q : Int)) (eN27 1)).trans em27_1; omega
            have r29 : (-2147483648 : Int) ≤ y27_0_1 ∧ y27_0_1 ≤ 2147483647 := by have h1 : (-2147483648 : Int) ≤ F27 0 1 ∧ F27 0 1 ≤ 2147483647 := H.krg 0 1 (by decide); rw [show F27 0 1 = y27_0_1 from ((eF27 0 1).trans ey27_0_1)] at h1; exact h1
            have r30 : (0 : Int) ≤ y27_0_2 ∧ y27_0_2 ≤ 1 := by have h1 : (0 : Int) ≤ F27 0 2 ∧ F27 0 2 ≤ 1 := H.krg 0 2 (by decide); rw [show F27 0 2 = y27_0_2 from ((eF27 0 2).trans ey27_0_2)] at h1; exact h1
            refine Ew_of (pc' := 67) (fun _ => x_aload_n rfl (rk_o (l19_0) rfl rfl)) ?_
            refine Ew_of (pc' := 68) (fun _ => x_iload_n rfl (rk_o (l19_2) rfl rfl)) ?_
            refine Ew_stk (show ([I (a3), .ref (D_19 0)] : List Value) = [I (a3), .ref (D27 0)] by rw [show D27 0 = D_19 0 from ((show D27 0 = D_19 0 from (eD27 0).trans (hD27 0 rfl)))]) ?_
            refine v_inv H (o := 0) rfl rfl rfl rfl rfl rfl (by rfl) (C159 (D := pul [0, 1] D27) (N := pul [0, 1] N27) (HW_sub H (VS_of (show vsub V197_Row V159 [0, 1] = true by decide +kernel))) (pf27_0_0) (m27_1) ((congrArg (fun q : Nat => (q : Int)) (eN27 1)).trans em27_1) (y27_0_1) (((eF27 0 1).trans ey27_0_1)) (y27_0_2) (((eF27 0 2).trans ey27_0_2)) (w27_1) ((eA27 1).trans ew27_1) (show inr (a3) by omega) (show 0 ≤ (y27_0_1) ∧ (y27_0_1) ≤ (m27_1) ∧ (m27_1) ≤ 65536 by omega) (fun σ31 D31' N31' F31' A31' c31 s31 H' O' hD31 hN31 hS31 hA31 pm31_1 m31_1 em31_1 y31_0_1 ey31_0_1 y31_0_2 ey31_0_2 w31_1 ew31_1 pz31_0 pz31_1 pz31_2 pz31_3 => ⟨rfl, ?_⟩))
            refine v_backM (c := (c_19 + c27)) (s := (s_19 + s27)) H (show vsub V197_Row V159 [0, 1] = true by decide +kernel) H' O' hD31 (show vmov V197_Row [0, 1] [1] = true by decide +kernel) (fun D31 N31 F31 A31 H O' eD31 eN31 eF31 eA31 => ?_)
            have O := OUT_trans O O'
            -- Row.add
            have pf31_0_0 : F31 0 0 = (D31 1 : Int) := (eF31 0 0).trans (pm31_1.trans (congrArg (fun q : Nat => (q : Int)) (eD31 1).symm))
            have r32 : (0 : Int) ≤ m31_1 ∧ m31_1 ≤ 1000000 := by have h1 := H.nle 1 (by decide); have h2 : (N31 1 : Int) = m31_1 := (congrArg (fun q : Nat => (q : Int)) (eN31 1)).trans em31_1; omega
            have r33 : (-2147483648 : Int) ≤ y31_0_1 ∧ y31_0_1 ≤ 2147483647 := by have h1 : (-2147483648 : Int) ≤ F31 0 1 ∧ F31 0 1 ≤ 2147483647 := H.krg 0 1 (by decide); rw [show F31 0 1 = y31_0_1 from ((eF31 0 1).trans ey31_0_1)] at h1; exact h1
            have r34 : (0 : Int) ≤ y31_0_2 ∧ y31_0_2 ≤ 1 := by have h1 : (0 : Int) ≤ F31 0 2 ∧ F31 0 2 ≤ 1 := H.krg 0 2 (by decide); rw [show F31 0 2 = y31_0_2 from ((eF31 0 2).trans ey31_0_2)] at h1; exact h1
            refine Ew_of (pc' := 93) (fun _ => x_goto rfl rfl) ?_
            exact hc93  _ _ _ _ _ _ _ _  ((rk_o (l19_0) rfl rfl).trans (congrArg (fun q : Nat => some (Value.ref q)) ((((show D31 0 = D27 0 from (eD31 0).trans (hD31 0 rfl))).trans ((show D27 0 = D_19 0 from (eD27 0).trans (hD27 0 rfl))))).symm)) (rk_o (l19_1) rfl rfl) (rk_o (l19_2) rfl rfl) (rk_o (l19_3) rfl rfl) (rk_o (l19_4) rfl rfl) (rk_o (l19_5) rfl rfl) (rk_s) H O (SD_trans (SD_trans (SD_refl) (SD_glu (ι := [0, 1]) hD27 eD27 (by decide +kernel)) (any_subA (l' := [1]) rfl)) (SD_glu (ι := [0, 1]) hD31 eD31 (by decide +kernel)) (any_subA (l' := [1]) rfl)) (SD_trans (SD_trans (SD_refl) (SD_glu (ι := [0, 1]) hN27 eN27 (by decide +kernel)) (any_subA (l' := [1]) rfl)) (SD_glu (ι := [0, 1]) hN31 eN31 (by decide +kernel)) (any_subA (l' := [1]) rfl)) (SF_trans (SF_trans (SF_trans (SF_refl) (SF_glu (ι := []) hS10 eF10 (by decide +kernel)) (any_sub (l' := []) rfl)) (SF_glu (ι := [0, 1]) hS27 eF27 (by decide +kernel)) (any_sub (l' := [(0, 0), (0, 1), (0, 2)]) rfl)) (SF_glu (ι := [0, 1]) hS31 eF31 (by decide +kernel)) (any_sub (l' := [(0, 0), (0, 1), (0, 2)]) rfl)) (SA_trans (SA_trans (SA_trans (SA_refl) (SA_glu (ι := []) hA10 eA10 (by decide +kernel)) (any_subA (l' := []) rfl)) (SA_glu (ι := [0, 1]) hA27 eA27 (by decide +kernel)) (any_subA (l' := [1]) rfl)) (SA_glu (ι := [0, 1]) hA31 eA31 (by decide +kernel)) (any_subA (l' := [1]) rfl)) (pf31_0_0) (m31_1) ((congrArg (fun q : Nat => (q : Int)) (eN31 1)).trans em31_1) (y31_0_1) (((eF31 0 1).trans ey31_0_1))  (show 0 ≤ (y31_0_1) ∧ (y31_0_1) ≤ (m31_1) ∧ (m31_1) ≤ 65536 by omega)
  refine w_icmpge (t := 11) rfl rfl (show inr (a3) by omega) (show inr (2048) by omega) (fun b35 => ?_) (fun b35 => ?_)
  · refine Ew_of (pc' := 12) (fun _ => x_iconst rfl) ?_
    exact hc12 (0) _ _ _ _  (rfl) (rfl) (rfl) H O (SF_refl) (SA_refl)     (show inr (0) by omega) (show ((a3) ≥ (2048) ∧ (0) = (0)) ∨ ((a3) < (2048) ∧ (0) = (1)) by omega)
  · refine Ew_of (pc' := 8) (fun _ => x_iconst rfl) ?_
    refine Ew_of (pc' := 12) (fun _ => x_goto rfl rfl) ?_
    exact hc12 (1) _ _ _ _  (rfl) (rfl) (rfl) H O (SF_refl) (SA_refl)     (show inr (1) by omega) (show ((a3) ≥ (2048) ∧ (1) = (0)) ∨ ((a3) < (2048) ∧ (1) = (1)) by omega)
abbrev V194_Row : vV := [(0, 10, [(4, 0), (4, 0), (4, 0), (4, 0), (0, 0), (4, 0), (0, 0), (2, 0), (0, 0)]), (0, 7, [(4, 0), (0, 0), (1, 0), (0, 0), (0, 0)]), (1, 0, []), (0, 5, [(4, 0), (4, 0), (4, 0), (4, 0), (0, 0), (0, 0), (0, 0), (4, 0), (4, 0), (0, 0), (0, 0), (0, 0), (0, 0), (0, 0), (0, 0), (0, 0), (0, 0), (0, 0), (0, 0)]), (0, 7, [(4, 0), (0, 0), (1, 0), (0, 0), (0, 0)]), (1, 0, []), (1, 1, []), (1, 1, []), (1, 1, []), (1, 1, []), (1, 1, [])]
/-- Tags.packBlock: this, #1, #1.bytes, this.finder, this.finder.data, this.finder.data.bytes, this.finder.back, this.finder.heads, this.finder.literals, this.finder.lengths, this.finder.distances -/
theorem C194_Row {σE : rS} {D N : Nat → Nat} {F : hF} {A : hA} {d c s : Nat} {Q : wQ} (H : HW V194_Row σE D N F A)  (pf2 : F 1 0 = (D 2 : Int)) (pf3 : F 0 1 = (D 3 : Int)) (pf4 : F 3 0 = (D 4 : Int)) (pf5 : F 4 0 = (D 5 : Int)) (pf6 : F 3 8 = (D 6 : Int)) (pf7 : F 3 7 = (D 7 : Int)) (pf8 : F 3 1 = (D 8 : Int)) (pf9 : F 3 2 = (D 9 : Int)) (pf10 : F 3 3 = (D 10 : Int)) (n2 : Int) (en2 : (N 2 : Int) = n2) (n5 : Int) (en5 : (N 5 : Int) = n5) (n6 : Int) (en6 : (N 6 : Int) = n6) (n7 : Int) (en7 : (N 7 : Int) = n7) (n8 : Int) (en8 : (N 8 : Int) = n8) (n9 : Int) (en9 : (N 9 : Int) = n9) (n10 : Int) (en10 : (N 10 : Int) = n10) (u1_1 : Int) (eu1_1 : F 1 1 = u1_1) (u1_2 : Int) (eu1_2 : F 1 2 = u1_2) (u3_6 : Int) (eu3_6 : F 3 6 = u3_6) (u3_9 : Int) (eu3_9 : F 3 9 = u3_9) (u3_10 : Int) (eu3_10 : F 3 10 = u3_10) (u3_11 : Int) (eu3_11 : F 3 11 = u3_11) (u4_1 : Int) (eu4_1 : F 4 1 = u4_1) (w2 : Int → Int) (ew2 : A 2 = w2) (w5 : Int → Int) (ew5 : A 5 = w5) (w6 : Int → Int) (ew6 : A 6 = w6) (w7 : Int → Int) (ew7 : A 7 = w7) (h0 : 0 ≤ (u1_1) ∧ (u1_1) ≤ (n2) ∧ (n2) ≤ 65536) (h1 : 0 ≤ (u4_1) ∧ (u4_1) ≤ (n5) ∧ (n5) ≤ 65536 ∧ (u4_1) ≤ 16384) (h2 : (u3_10) = 4) (h3 : BKI ((w5)) ((w6)) ((u3_10)) ((u3_6))) (h4 : HDI ((w5)) ((w7)) ((u3_10)) ((u3_6))) (h5 : (n8) = (n9) ∧ (n10) = (n9) ∧ (n9) ≤ 65536 ∧ ((n9) = 0 ∨ 64 ≤ (n9)) ∧ lgq ((n9)) = 0) (h6 : (n7) = 2048) (h7 : 0 ≤ (u3_6) ∧ (u3_6) ≤ (n6) ∧ (n6) ≤ 16384) (h8 : (u3_11) = 65535) (k : ∀ (σ : rS) (D' N' : Nat → Nat) (F' : hF) (A' : hA) (c' s' : Nat), HW V194_Row σ D' N' F' A' → OUT (V194_Row).length D N σE c s D' N' σ c' s' → SD [2, 6, 8, 9, 10] D D' → SD [2, 6, 8, 9, 10] N N' → SF [(1, 0), (1, 1), (1, 2), (3, 1), (3, 2), (3, 3), (3, 4), (3, 5), (3, 6), (3, 8), (3, 12), (3, 13), (3, 14), (3, 15), (3, 16), (3, 17), (3, 18)] F F' → SA [2, 6, 7, 8, 9, 10] A A' → F' 1 0 = (D' 2 : Int) → F' 3 8 = (D' 6 : Int) → F' 3 1 = (D' 8 : Int) → F' 3 2 = (D' 9 : Int) → F' 3 3 = (D' 10 : Int) → ∀ m2 : Int, (N' 2 : Int) = m2 → ∀ m6 : Int, (N' 6 : Int) = m6 → ∀ m8 : Int, (N' 8 : Int) = m8 → ∀ m9 : Int, (N' 9 : Int) = m9 → ∀ m10 : Int, (N' 10 : Int) = m10 → ∀ y1_1 : Int, F' 1 1 = y1_1 → ∀ y1_2 : Int, F' 1 2 = y1_2 → ∀ y3_6 : Int, F' 3 6 = y3_6 → ∀ v2 : Int → Int, A' 2 = v2 → ∀ v6 : Int → Int, A' 6 = v6 → ∀ v7 : Int → Int, A' 7 = v7 → (0 ≤ (y1_1) ∧ (y1_1) ≤ (m2) ∧ (m2) ≤ 65536) → (0 ≤ (y3_6) ∧ (u3_6) ≤ (y3_6) ∧ (y3_6) ≤ (m6) ∧ (m6) ≤ 16384) → ((m8) = (m9) ∧ (m10) = (m9) ∧ (m9) ≤ 65536 ∧ ((m9) = 0 ∨ 64 ≤ (m9)) ∧ lgq ((m9)) = 0) → (BKI ((w5)) ((v6)) ((u3_10)) ((y3_6))) → (HDI ((w5)) ((v7)) ((u3_10)) ((y3_6))) → ((y3_6) = (u3_6) ∨ (y3_6) + 4 ≤ (u4_1) + 1) → (PKB ((u3_9)) ((a2)) (sc ((w5)) 0 ((u4_1))) ((u1_2)) ((w2)) ((u1_1)) ((y1_2)) ((v2)) ((y1_1))) → Q none σ c' s') : Ew 194 (d + 4) 0 (rargs 0 [.ref (D 0), .ref (D 1)]) [] σE c s Q := by
  have O := OUT_refl (n := (V194_Row).length) (D := D) (N := N) (σ := σE) (c := c) (s := s)
  have HE := H
  have r1 : (-2147483648 : Int) ≤ u1_1 ∧ u1_1 ≤ 2147483647 := by have h1 : (-2147483648 : Int) ≤ F 1 1 ∧ F 1 1 ≤ 2147483647 := H.krg 1 1 (by decide); rw [show F 1 1 = u1_1 from (eu1_1)] at h1; exact h1
  have r2 : (0 : Int) ≤ u1_2 ∧ u1_2 ≤ 1 := by have h1 : (0 : Int) ≤ F 1 2 ∧ F 1 2 ≤ 1 := H.krg 1 2 (by decide); rw [show F 1 2 = u1_2 from (eu1_2)] at h1; exact h1
  have r3 : (-2147483648 : Int) ≤ u3_6 ∧ u3_6 ≤ 2147483647 := by have h1 : (-2147483648 : Int) ≤ F 3 6 ∧ F 3 6 ≤ 2147483647 := H.krg 3 6 (by decide); rw [show F 3 6 = u3_6 from (eu3_6)] at h1; exact h1
  have r4 : (-2147483648 : Int) ≤ u3_9 ∧ u3_9 ≤ 2147483647 := by have h1 : (-2147483648 : Int) ≤ F 3 9 ∧ F 3 9 ≤ 2147483647 := H.krg 3 9 (by decide); rw [show F 3 9 = u3_9 from (eu3_9)] at h1; exact h1
  have r5 : (-2147483648 : Int) ≤ u3_10 ∧ u3_10 ≤ 2147483647 := by have h1 : (-2147483648 : Int) ≤ F 3 10 ∧ F 3 10 ≤ 2147483647 := H.krg 3 10 (by decide); rw [show F 3 10 = u3_10 from (eu3_10)] at h1; exact h1
  have r6 : (-2147483648 : Int) ≤ u3_11 ∧ u3_11 ≤ 2147483647 := by have h1 : (-2147483648 : Int) ≤ F 3 11 ∧ F 3 11 ≤ 2147483647 := H.krg 3 11 (by decide); rw [show F 3 11 = u3_11 from (eu3_11)] at h1; exact h1
  have r7 : (-2147483648 : Int) ≤ u4_1 ∧ u4_1 ≤ 2147483647 := by have h1 : (-2147483648 : Int) ≤ F 4 1 ∧ F 4 1 ≤ 2147483647 := H.krg 4 1 (by decide); rw [show F 4 1 = u4_1 from (eu4_1)] at h1; exact h1
  have r8 : (0 : Int) ≤ n2 ∧ n2 ≤ 1000000 := by have h1 := H.nle 2 (by decide); have h2 : (N 2 : Int) = n2 := en2; omega
  have r9 : (0 : Int) ≤ n5 ∧ n5 ≤ 1000000 := by have h1 := H.nle 5 (by decide); have h2 : (N 5 : Int) = n5 := en5; omega
  have r10 : (0 : Int) ≤ n6 ∧ n6 ≤ 1000000 := by have h1 := H.nle 6 (by decide); have h2 : (N 6 : Int) = n6 := en6; omega
  have r11 : (0 : Int) ≤ n7 ∧ n7 ≤ 1000000 := by have h1 := H.nle 7 (by decide); have h2 : (N 7 : Int) = n7 := en7; omega
  have r12 : (0 : Int) ≤ n8 ∧ n8 ≤ 1000000 := by have h1 := H.nle 8 (by decide); have h2 : (N 8 : Int) = n8 := en8; omega
  have r13 : (0 : Int) ≤ n9 ∧ n9 ≤ 1000000 := by have h1 := H.nle 9 (by decide); have h2 : (N 9 : Int) = n9 := en9; omega
  have r14 : (0 : Int) ≤ n10 ∧ n10 ≤ 1000000 := by have h1 := H.nle 10 (by decide); have h2 : (N 10 : Int) = n10 := en10; omega
  refine Ew_of (pc' := 1) (fun _ => x_aload_n rfl rfl) ?_
  refine v_g H (o := 0) (v := .ref (D 3)) rfl rfl rfl rfl rfl (vrf (pf3)) ?_
  refine v_g H (o := 3) (v := .ref (D 4)) rfl rfl rfl rfl rfl (vrf (pf4)) ?_
  refine v_g H (o := 4) (v := I (u4_1)) rfl rfl rfl rfl rfl (congrArg (fun z : Int => I z) ((eu4_1) : F 4 1 = u4_1)) ?_
  refine Ew_of (pc' := 11) (fun _ => x_istore_n rfl) ?_
  refine Ew_of (pc' := 12) (fun _ => x_aload_n rfl (rk_o (rfl) rfl rfl)) ?_
  refine Ew_of (pc' := 13) (fun _ => x_iload_n rfl rk_s) ?_
  refine w_stat24 rfl rfl (by rfl) (C195_Row (D := pul [1, 2] D) (N := pul [1, 2] N) (HW_sub H (VS_of (show vsub V194_Row V195_Row [1, 2] = true by decide +kernel))) (pf2) (n2) (en2) (u1_1) ((eu1_1)) (show inr (u4_1) by omega) (show 0 ≤ (u1_1) ∧ (u1_1) ≤ (n2) ∧ (n2) ≤ 65536 by omega) (fun σ15 D15' N15' F15' A15' c15 s15 H' O' hD15 hN15 hS15 hA15 pm15_1 m15_1 em15_1 y15_0_1 ey15_0_1 pz15_0 => ⟨rfl, ?_⟩))
  refine v_backM (c := c) (s := s) H (show vsub V194_Row V195_Row [1, 2] = true by decide +kernel) H' O' hD15 (show vmov V194_Row [1, 2] [1] = true by decide +kernel) (fun D15 N15 F15 A15 H O' eD15 eN15 eF15 eA15 => ?_)
  have O := OUT_trans O O'
  -- Tags.packLength
  have pf15_0_1 : F15 0 1 = (D15 3 : Int) := ((show F15 0 1 = F 0 1 from (eF15 0 1))).trans ((pf3).trans (congrArg (fun q : Nat => (q : Int)) ((show D15 3 = D 3 from (eD15 3))).symm))
  have pf15_1_0 : F15 1 0 = (D15 2 : Int) := (eF15 1 0).trans (pm15_1.trans (congrArg (fun q : Nat => (q : Int)) (eD15 2).symm))
  have pf15_3_0 : F15 3 0 = (D15 4 : Int) := ((show F15 3 0 = F 3 0 from (eF15 3 0))).trans ((pf4).trans (congrArg (fun q : Nat => (q : Int)) ((show D15 4 = D 4 from (eD15 4))).symm))
  have pf15_3_1 : F15 3 1 = (D15 8 : Int) := ((show F15 3 1 = F 3 1 from (eF15 3 1))).trans ((pf8).trans (congrArg (fun q : Nat => (q : Int)) ((show D15 8 = D 8 from (eD15 8))).symm))
  have pf15_3_2 : F15 3 2 = (D15 9 : Int) := ((show F15 3 2 = F 3 2 from (eF15 3 2))).trans ((pf9).trans (congrArg (fun q : Nat => (q : Int)) ((show D15 9 = D 9 from (eD15 9))).symm))
  have pf15_3_3 : F15 3 3 = (D15 10 : Int) := ((show F15 3 3 = F 3 3 from (eF15 3 3))).trans ((pf10).trans (congrArg (fun q : Nat => (q : Int)) ((show D15 10 = D 10 from (eD15 10))).symm))
  have pf15_3_7 : F15 3 7 = (D15 7 : Int) := ((show F15 3 7 = F 3 7 from (eF15 3 7))).trans ((pf7).trans (congrArg (fun q : Nat => (q : Int)) ((show D15 7 = D 7 from (eD15 7))).symm))
  have pf15_3_8 : F15 3 8 = (D15 6 : Int) := ((show F15 3 8 = F 3 8 from (eF15 3 8))).trans ((pf6).trans (congrArg (fun q : Nat => (q : Int)) ((show D15 6 = D 6 from (eD15 6))).symm))
  have pf15_4_0 : F15 4 0 = (D15 5 : Int) := ((show F15 4 0 = F 4 0 from (eF15 4 0))).trans ((pf5).trans (congrArg (fun q : Nat => (q : Int)) ((show D15 5 = D 5 from (eD15 5))).symm))
  have r16 : (0 : Int) ≤ m15_1 ∧ m15_1 ≤ 1000000 := by have h1 := H.nle 2 (by decide); have h2 : (N15 2 : Int) = m15_1 := (congrArg (fun q : Nat => (q : Int)) (eN15 2)).trans em15_1; omega
  have r17 : (-2147483648 : Int) ≤ y15_0_1 ∧ y15_0_1 ≤ 2147483647 := by have h1 : (-2147483648 : Int) ≤ F15 1 1 ∧ F15 1 1 ≤ 2147483647 := H.krg 1 1 (by decide); rw [show F15 1 1 = y15_0_1 from ((eF15 1 1).trans ey15_0_1)] at h1; exact h1
  refine Ew_of (pc' := 17) (fun _ => x_aload_n rfl (rk_o (rfl) rfl rfl)) ?_
  refine Ew_stk (show ([.ref (D 0)] : List Value) = [.ref (D15 0)] by rw [show D15 0 = D 0 from ((show D15 0 = D 0 from (eD15 0)))]) ?_
  refine v_g H (o := 0) (v := .ref (D15 3)) rfl rfl rfl rfl rfl (vrf (pf15_0_1)) ?_
  refine Ew_of (pc' := 21) (fun _ => x_iload_n rfl rk_s) ?_
  refine v_inv H (o := 3) rfl rfl rfl rfl rfl rfl (by rfl) (C123 (D := pul [3, 4, 5, 6, 7] D15) (N := pul [3, 4, 5, 6, 7] N15) (HW_sub H (VS_of (show vsub V194_Row V123 [3, 4, 5, 6, 7] = true by decide +kernel))) (pf15_3_0) (pf15_4_0) (pf15_3_8) (pf15_3_7) (n5) ((congrArg (fun q : Nat => (q : Int)) (show N15 5 = N 5 from (eN15 5))).trans (en5)) (n6) ((congrArg (fun q : Nat => (q : Int)) (show N15 6 = N 6 from (eN15 6))).trans (en6)) (n7) ((congrArg (fun q : Nat => (q : Int)) (show N15 7 = N 7 from (eN15 7))).trans (en7)) (u3_6) ((((show F15 3 6 = F 3 6 from (eF15 3 6))).trans (eu3_6))) (u3_10) ((((show F15 3 10 = F 3 10 from (eF15 3 10))).trans (eu3_10))) (u4_1) ((((show F15 4 1 = F 4 1 from (eF15 4 1))).trans (eu4_1))) (w5) (((show A15 5 = A 5 from (eA15 5))).trans (ew5)) (w6) (((show A15 6 = A 6 from (eA15 6))).trans (ew6)) (w7) (((show A15 7 = A 7 from (eA15 7))).trans (ew7)) (show inr (u4_1) by omega) (show 0 ≤ (u4_1) ∧ (u4_1) ≤ (n5) ∧ (n5) ≤ 65536 ∧ (u4_1) ≤ 16384 by omega) (show 1 ≤ (u3_10) ∧ (u3_10) ≤ 8 by omega) (show 0 ≤ (u4_1) ∧ (u4_1) ≤ (u4_1) by omega) (show BKI ((w5)) ((w6)) ((u3_10)) ((u3_6)) by assumption) (show HDI ((w5)) ((w7)) ((u3_10)) ((u3_6)) by assumption) (show (n7) = 2048 by omega) (show 0 ≤ (u3_6) ∧ (u3_6) ≤ (n6) ∧ (n6) ≤ 16384 by omega) (fun σ18 D18' N18' F18' A18' c18 s18 H' O' hD18 hN18 hS18 hA18 pm18_3 m18_3 em18_3 y18_0_6 ey18_0_6 w18_3 ew18_3 w18_4 ew18_4 pz18_0 pz18_1 pz18_2 pz18_3 pz18_4 => ⟨rfl, ?_⟩))
  refine v_backM (c := (c + c15)) (s := (s + s15)) H (show vsub V194_Row V123 [3, 4, 5, 6, 7] = true by decide +kernel) H' O' hD18 (show vmov V194_Row [3, 4, 5, 6, 7] [3] = true by decide +kernel) (fun D18 N18 F18 A18 H O' eD18 eN18 eF18 eA18 => ?_)
  have O := OUT_trans O O'
  -- Finder.lay
  have pf18_0_1 : F18 0 1 = (D18 3 : Int) := ((show F18 0 1 = F15 0 1 from (eF18 0 1))).trans ((pf15_0_1).trans (congrArg (fun q : Nat => (q : Int)) ((show D18 3 = D15 3 from (eD18 3).trans (hD18 0 rfl))).symm))
  have pf18_1_0 : F18 1 0 = (D18 2 : Int) := ((show F18 1 0 = F15 1 0 from (eF18 1 0))).trans ((pf15_1_0).trans (congrArg (fun q : Nat => (q : Int)) ((show D18 2 = D15 2 from (eD18 2))).symm))
  have pf18_3_0 : F18 3 0 = (D18 4 : Int) := ((show F18 3 0 = F15 3 0 from (eF18 3 0).trans (hS18 0 0 rfl))).trans ((pf15_3_0).trans (congrArg (fun q : Nat => (q : Int)) ((show D18 4 = D15 4 from (eD18 4).trans (hD18 1 rfl))).symm))
  have pf18_3_1 : F18 3 1 = (D18 8 : Int) := ((show F18 3 1 = F15 3 1 from (eF18 3 1).trans (hS18 0 1 rfl))).trans ((pf15_3_1).trans (congrArg (fun q : Nat => (q : Int)) ((show D18 8 = D15 8 from (eD18 8))).symm))
  have pf18_3_2 : F18 3 2 = (D18 9 : Int) := ((show F18 3 2 = F15 3 2 from (eF18 3 2).trans (hS18 0 2 rfl))).trans ((pf15_3_2).trans (congrArg (fun q : Nat => (q : Int)) ((show D18 9 = D15 9 from (eD18 9))).symm))
  have pf18_3_3 : F18 3 3 = (D18 10 : Int) := ((show F18 3 3 = F15 3 3 from (eF18 3 3).trans (hS18 0 3 rfl))).trans ((pf15_3_3).trans (congrArg (fun q : Nat => (q : Int)) ((show D18 10 = D15 10 from (eD18 10))).symm))
  have pf18_3_7 : F18 3 7 = (D18 7 : Int) := ((show F18 3 7 = F15 3 7 from (eF18 3 7).trans (hS18 0 7 rfl))).trans ((pf15_3_7).trans (congrArg (fun q : Nat => (q : Int)) ((show D18 7 = D15 7 from (eD18 7).trans (hD18 4 rfl))).symm))
  have pf18_3_8 : F18 3 8 = (D18 6 : Int) := (eF18 3 8).trans (pm18_3.trans (congrArg (fun q : Nat => (q : Int)) (eD18 6).symm))
  have pf18_4_0 : F18 4 0 = (D18 5 : Int) := ((show F18 4 0 = F15 4 0 from (eF18 4 0).trans (hS18 1 0 rfl))).trans ((pf15_4_0).trans (congrArg (fun q : Nat => (q : Int)) ((show D18 5 = D15 5 from (eD18 5).trans (hD18 2 rfl))).symm))
  have r19 : (0 : Int) ≤ m18_3 ∧ m18_3 ≤ 1000000 := by have h1 := H.nle 6 (by decide); have h2 : (N18 6 : Int) = m18_3 := (congrArg (fun q : Nat => (q : Int)) (eN18 6)).trans em18_3; omega
  have r20 : (-2147483648 : Int) ≤ y18_0_6 ∧ y18_0_6 ≤ 2147483647 := by have h1 : (-2147483648 : Int) ≤ F18 3 6 ∧ F18 3 6 ≤ 2147483647 := H.krg 3 6 (by decide); rw [show F18 3 6 = y18_0_6 from ((eF18 3 6).trans ey18_0_6)] at h1; exact h1
  refine Ew_of (pc' := 25) (fun _ => x_aload_n rfl (rk_o (rfl) rfl rfl)) ?_
  refine Ew_stk (show ([.ref (D 0)] : List Value) = [.ref (D18 0)] by rw [show D18 0 = D 0 from (((show D18 0 = D15 0 from (eD18 0))).trans ((show D15 0 = D 0 from (eD15 0))))]) ?_
  refine v_g H (o := 0) (v := .ref (D18 3)) rfl rfl rfl rfl rfl (vrf (pf18_0_1)) ?_
  refine Ew_of (pc' := 29) (fun _ => x_iconst rfl) ?_
  refine Ew_of (pc' := 30) (fun _ => x_iload_n rfl rk_s) ?_
  refine Ew_of (pc' := 31) (fun _ => x_iload_n rfl rk_s) ?_
  refine Ew_of (pc' := 32) (fun _ => x_iload_n rfl rk_s) ?_
  refine Ew_of (pc' := 33) (fun _ => x_iconst rfl) ?_
  refine w_isub rfl ?_
  have r21 : (-2147483648 : Int) ≤ F 3 4 ∧ F 3 4 ≤ 2147483647 := by have h1 : (-2147483648 : Int) ≤ F18 3 4 ∧ F18 3 4 ≤ 2147483647 := H.krg 3 4 (by decide); rw [show F18 3 4 = F 3 4 from (((show F18 3 4 = F15 3 4 from (eF18 3 4).trans (hS18 0 4 rfl))).trans ((show F15 3 4 = F 3 4 from (eF15 3 4))))] at h1; exact h1
  have r22 : (-2147483648 : Int) ≤ F 3 5 ∧ F 3 5 ≤ 2147483647 := by have h1 : (-2147483648 : Int) ≤ F18 3 5 ∧ F18 3 5 ≤ 2147483647 := H.krg 3 5 (by decide); rw [show F18 3 5 = F 3 5 from (((show F18 3 5 = F15 3 5 from (eF18 3 5).trans (hS18 0 5 rfl))).trans ((show F15 3 5 = F 3 5 from (eF15 3 5))))] at h1; exact h1
  refine v_inv H (o := 3) rfl rfl rfl rfl rfl rfl (by rfl) (C125 (D := pul [3, 4, 5, 6, 8, 9, 10] D18) (N := pul [3, 4, 5, 6, 8, 9, 10] N18) (HW_sub H (VS_of (show vsub V194_Row V125 [3, 4, 5, 6, 8, 9, 10] = true by decide +kernel))) (pf18_3_0) (pf18_4_0) (pf18_3_8) (pf18_3_1) (pf18_3_2) (pf18_3_3) (n5) ((congrArg (fun q : Nat => (q : Int)) (show N18 5 = N15 5 from (eN18 5).trans (hN18 2 rfl))).trans ((congrArg (fun q : Nat => (q : Int)) (show N15 5 = N 5 from (eN15 5))).trans (en5))) (m18_3) ((congrArg (fun q : Nat => (q : Int)) (eN18 6)).trans em18_3) (n8) ((congrArg (fun q : Nat => (q : Int)) (show N18 8 = N15 8 from (eN18 8))).trans ((congrArg (fun q : Nat => (q : Int)) (show N15 8 = N 8 from (eN15 8))).trans (en8))) (n9) ((congrArg (fun q : Nat => (q : Int)) (show N18 9 = N15 9 from (eN18 9))).trans ((congrArg (fun q : Nat => (q : Int)) (show N15 9 = N 9 from (eN15 9))).trans (en9))) (n10) ((congrArg (fun q : Nat => (q : Int)) (show N18 10 = N15 10 from (eN18 10))).trans ((congrArg (fun q : Nat => (q : Int)) (show N15 10 = N 10 from (eN15 10))).trans (en10))) (F 3 4) ((((show F18 3 4 = F15 3 4 from (eF18 3 4).trans (hS18 0 4 rfl))).trans ((show F15 3 4 = F 3 4 from (eF15 3 4))))) (F 3 5) ((((show F18 3 5 = F15 3 5 from (eF18 3 5).trans (hS18 0 5 rfl))).trans ((show F15 3 5 = F 3 5 from (eF15 3 5))))) (y18_0_6) (((eF18 3 6).trans ey18_0_6)) (u3_9) (((((show F18 3 9 = F15 3 9 from (eF18 3 9).trans (hS18 0 9 rfl))).trans ((show F15 3 9 = F 3 9 from (eF15 3 9)))).trans (eu3_9))) (u3_10) (((((show F18 3 10 = F15 3 10 from (eF18 3 10).trans (hS18 0 10 rfl))).trans ((show F15 3 10 = F 3 10 from (eF15 3 10)))).trans (eu3_10))) (u3_11) (((((show F18 3 11 = F15 3 11 from (eF18 3 11).trans (hS18 0 11 rfl))).trans ((show F15 3 11 = F 3 11 from (eF15 3 11)))).trans (eu3_11))) (u4_1) (((((show F18 4 1 = F15 4 1 from (eF18 4 1).trans (hS18 1 1 rfl))).trans ((show F15 4 1 = F 4 1 from (eF15 4 1)))).trans (eu4_1))) (w5) (((show A18 5 = A15 5 from (eA18 5).trans (funext (hA18 2 rfl)))).trans (((show A15 5 = A 5 from (eA15 5))).trans (ew5))) (w18_3) ((eA18 6).trans ew18_3) (A 8) (((show A18 8 = A15 8 from (eA18 8))).trans ((show A15 8 = A 8 from (eA15 8)))) (A 9) (((show A18 9 = A15 9 from (eA18 9))).trans ((show A15 9 = A 9 from (eA15 9)))) (A 10) (((show A18 10 = A15 10 from (eA18 10))).trans ((show A15 10 = A 10 from (eA15 10)))) (show inr (0) by omega) (show inr (u4_1) by omega) (show inr (u4_1) by omega) (show inr ((u4_1 - 4)) by omega) (show 0 ≤ (u4_1) ∧ (u4_1) ≤ (n5) ∧ (n5) ≤ 65536 ∧ (u4_1) ≤ 16384 by omega) (show 1 ≤ (u3_10) ∧ (u3_10) ≤ 8 by omega) (show 0 ≤ (0) ∧ (0) ≤ (u4_1) ∧ (u4_1) ≤ (u4_1) by omega) (show (u4_1) ≤ (u4_1) ∧ ((u4_1 - 4)) < (u4_1) ∧ ((u4_1 - 4)) < (y18_0_6) by omega) (show 0 ≤ (y18_0_6) ∧ (y18_0_6) ≤ (m18_3) ∧ (m18_3) ≤ 16384 by omega) (show BKI ((w5)) ((w18_3)) ((u3_10)) ((y18_0_6)) by assumption) (show (n8) = (n9) ∧ (n10) = (n9) ∧ (n9) ≤ 65536 ∧ ((n9) = 0 ∨ 64 ≤ (n9)) ∧ lgq ((n9)) = 0 by omega) (fun σ23 D23' N23' F23' A23' c23 s23 H' O' hD23 hN23 hS23 hA23 pm23_4 pm23_5 pm23_6 m23_4 em23_4 m23_5 em23_5 m23_6 em23_6 y23_0_4 ey23_0_4 y23_0_5 ey23_0_5 w23_4 ew23_4 w23_5 ew23_5 w23_6 ew23_6 pz23_0 pz23_1 pz23_2 pz23_3 pz23_4 => ⟨rfl, ?_⟩))
  refine v_backM (c := ((c + c15) + c18)) (s := ((s + s15) + s18)) H (show vsub V194_Row V125 [3, 4, 5, 6, 8, 9, 10] = true by decide +kernel) H' O' hD23 (show vmov V194_Row [3, 4, 5, 6, 8, 9, 10] [4, 5, 6] = true by decide +kernel) (fun D23 N23 F23 A23 H O' eD23 eN23 eF23 eA23 => ?_)
  have O := OUT_trans O O'
  -- Finder.go
  have pf23_0_1 : F23 0 1 = (D23 3 : Int) := ((show F23 0 1 = F18 0 1 from (eF23 0 1))).trans ((pf18_0_1).trans (congrArg (fun q : Nat => (q : Int)) ((show D23 3 = D18 3 from (eD23 3).trans (hD23 0 rfl))).symm))
  have pf23_1_0 : F23 1 0 = (D23 2 : Int) := ((show F23 1 0 = F18 1 0 from (eF23 1 0))).trans ((pf18_1_0).trans (congrArg (fun q : Nat => (q : Int)) ((show D23 2 = D18 2 from (eD23 2))).symm))
  have pf23_3_0 : F23 3 0 = (D23 4 : Int) := ((show F23 3 0 = F18 3 0 from (eF23 3 0).trans (hS23 0 0 rfl))).trans ((pf18_3_0).trans (congrArg (fun q : Nat => (q : Int)) ((show D23 4 = D18 4 from (eD23 4).trans (hD23 1 rfl))).symm))
  have pf23_3_1 : F23 3 1 = (D23 8 : Int) := (eF23 3 1).trans (pm23_4.trans (congrArg (fun q : Nat => (q : Int)) (eD23 8).symm))
  have pf23_3_2 : F23 3 2 = (D23 9 : Int) := (eF23 3 2).trans (pm23_5.trans (congrArg (fun q : Nat => (q : Int)) (eD23 9).symm))
  have pf23_3_3 : F23 3 3 = (D23 10 : Int) := (eF23 3 3).trans (pm23_6.trans (congrArg (fun q : Nat => (q : Int)) (eD23 10).symm))
  have pf23_3_7 : F23 3 7 = (D23 7 : Int) := ((show F23 3 7 = F18 3 7 from (eF23 3 7).trans (hS23 0 7 rfl))).trans ((pf18_3_7).trans (congrArg (fun q : Nat => (q : Int)) ((show D23 7 = D18 7 from (eD23 7))).symm))
  have pf23_3_8 : F23 3 8 = (D23 6 : Int) := ((show F23 3 8 = F18 3 8 from (eF23 3 8).trans (hS23 0 8 rfl))).trans ((pf18_3_8).trans (congrArg (fun q : Nat => (q : Int)) ((show D23 6 = D18 6 from (eD23 6).trans (hD23 3 rfl))).symm))
  have pf23_4_0 : F23 4 0 = (D23 5 : Int) := ((show F23 4 0 = F18 4 0 from (eF23 4 0).trans (hS23 1 0 rfl))).trans ((pf18_4_0).trans (congrArg (fun q : Nat => (q : Int)) ((show D23 5 = D18 5 from (eD23 5).trans (hD23 2 rfl))).symm))
  have r24 : (0 : Int) ≤ m23_4 ∧ m23_4 ≤ 1000000 := by have h1 := H.nle 8 (by decide); have h2 : (N23 8 : Int) = m23_4 := (congrArg (fun q : Nat => (q : Int)) (eN23 8)).trans em23_4; omega
  have r25 : (0 : Int) ≤ m23_5 ∧ m23_5 ≤ 1000000 := by have h1 := H.nle 9 (by decide); have h2 : (N23 9 : Int) = m23_5 := (congrArg (fun q : Nat => (q : Int)) (eN23 9)).trans em23_5; omega
  have r26 : (0 : Int) ≤ m23_6 ∧ m23_6 ≤ 1000000 := by have h1 := H.nle 10 (by decide); have h2 : (N23 10 : Int) = m23_6 := (congrArg (fun q : Nat => (q : Int)) (eN23 10)).trans em23_6; omega
  have r27 : (-2147483648 : Int) ≤ y23_0_4 ∧ y23_0_4 ≤ 2147483647 := by have h1 : (-2147483648 : Int) ≤ F23 3 4 ∧ F23 3 4 ≤ 2147483647 := H.krg 3 4 (by decide); rw [show F23 3 4 = y23_0_4 from ((eF23 3 4).trans ey23_0_4)] at h1; exact h1
  have r28 : (-2147483648 : Int) ≤ y23_0_5 ∧ y23_0_5 ≤ 2147483647 := by have h1 : (-2147483648 : Int) ≤ F23 3 5 ∧ F23 3 5 ≤ 2147483647 := H.krg 3 5 (by decide); rw [show F23 3 5 = y23_0_5 from ((eF23 3 5).trans ey23_0_5)] at h1; exact h1
  refine Ew_of (pc' := 38) (fun _ => x_iconst rfl) ?_
  refine Ew_of (pc' := 39) (fun _ => x_istore_n rfl) ?_
  refine Ew_of (pc' := 40) (fun _ => x_iconst rfl) ?_
  refine Ew_of (pc' := 42) (fun _ => x_istore rfl) ?_
  have : su (fun j => ((w23_4)) j + ((w23_5)) j) (0 : Int).toNat = 0 := rfl
  have hfd : FDI ((w23_4)) ((w23_5)) ((w23_6)) ((y23_0_4)) ((u4_1) - 0 - (y23_0_5)) ((u3_10)) := pz23_3
  suffices hl42 : ∀ (m : Nat), ∀ (ls : rO) (σ : rS) (D_42 N_42 : Nat → Nat) (c_42 s_42 : Nat) (F_42 : hF) (A_42 : hA) (x42_3 : Int) (x42_4 : Int), rlook ls 0 = some (.ref (D_42 0)) → rlook ls 1 = some (.ref (D_42 1)) → rlook ls 3 = some (I (x42_3)) → rlook ls 4 = some (I (x42_4)) → HW V194_Row σ D_42 N_42 F_42 A_42 → OUT (V194_Row).length D N σE c s D_42 N_42 σ c_42 s_42 → SD [2] D23 D_42 → SD [2] N23 N_42 → SF [(1, 0), (1, 1), (1, 2)] F23 F_42 → SA [2] A23 A_42 → F_42 1 0 = (D_42 2 : Int) → ∀ m42_2 : Int, (N_42 2 : Int) = m42_2 → ∀ y42_1_1 : Int, F_42 1 1 = y42_1_1 → (inr (x42_3)) → (inr (x42_4)) → ((0) ≤ (x42_4)) → ((x42_4) ≤ (0) ∨ (x42_4) ≤ ((y23_0_4))) → (0 ≤ (y42_1_1) ∧ (y42_1_1) ≤ (m42_2) ∧ (m42_2) ≤ 65536) → ((x42_3) = su (fun j => ((w23_4)) j + ((w23_5)) j) ((x42_4) : Int).toNat) → (((y23_0_4)) - (x42_4)).toNat = m → Ew 194 (d + 4) 42 ls [] σ c_42 s_42 Q from
    hl42 _ _ _ _ _ _ _ _ _ (0) (0) ((rk_o (rk_o (rk_o (rfl) rfl rfl) rfl rfl) rfl rfl).trans (congrArg (fun q : Nat => some (Value.ref q)) (((((show D23 0 = D18 0 from (eD23 0))).trans ((show D18 0 = D15 0 from (eD18 0)))).trans ((show D15 0 = D 0 from (eD15 0))))).symm)) ((rk_o (rk_o (rk_o (rfl) rfl rfl) rfl rfl) rfl rfl).trans (congrArg (fun q : Nat => some (Value.ref q)) (((((show D23 1 = D18 1 from (eD23 1))).trans ((show D18 1 = D15 1 from (eD18 1)))).trans ((show D15 1 = D 1 from (eD15 1).trans (hD15 0 rfl))))).symm)) (rk_o (rk_s) rfl rfl) (rk_s) H O (SD_refl) (SD_refl) (SF_refl) (SA_refl) (pf23_1_0) (m15_1) ((congrArg (fun q : Nat => (q : Int)) (show N23 2 = N18 2 from (eN23 2))).trans ((congrArg (fun q : Nat => (q : Int)) (show N18 2 = N15 2 from (eN18 2))).trans ((congrArg (fun q : Nat => (q : Int)) (eN15 2)).trans em15_1))) (y15_0_1) (((((show F23 1 1 = F18 1 1 from (eF23 1 1))).trans ((show F18 1 1 = F15 1 1 from (eF18 1 1)))).trans ((eF15 1 1).trans ey15_0_1)))  (show inr (0) by omega) (show inr (0) by omega) (show (0) ≤ (0) by omega) (show (0) ≤ (0) ∨ (0) ≤ ((y23_0_4)) by omega) (show 0 ≤ (y15_0_1) ∧ (y15_0_1) ≤ (m15_1) ∧ (m15_1) ≤ 65536 by omega) (show (0) = su (fun j => ((w23_4)) j + ((w23_5)) j) ((0) : Int).toNat by omega) rfl
  as_aux_lemma =>
  intro m
  induction m using Nat.strongRecOn with
  | _ m ih42 =>
    intro ls σ D_42 N_42 c_42 s_42 F_42 A_42 x42_3 x42_4 l42_0 l42_1 l42_3 l42_4 H O hD_42 hN_42 hS_42 hA_42 pm42_2 m42_2 em42_2 y42_1_1 ey42_1_1  j42_0 j42_1 j42_2 j42_3 j42_4 j42_5 hm42
    have pf_42_0_1 : F_42 0 1 = (D_42 3 : Int) := (hS_42 0 1 rfl).trans ((pf23_0_1).trans (congrArg (fun q : Nat => (q : Int)) (hD_42 3 rfl).symm))
    have pf_42_3_0 : F_42 3 0 = (D_42 4 : Int) := (hS_42 3 0 rfl).trans ((pf23_3_0).trans (congrArg (fun q : Nat => (q : Int)) (hD_42 4 rfl).symm))
    have pf_42_3_1 : F_42 3 1 = (D_42 8 : Int) := (hS_42 3 1 rfl).trans ((pf23_3_1).trans (congrArg (fun q : Nat => (q : Int)) (hD_42 8 rfl).symm))
    have pf_42_3_2 : F_42 3 2 = (D_42 9 : Int) := (hS_42 3 2 rfl).trans ((pf23_3_2).trans (congrArg (fun q : Nat => (q : Int)) (hD_42 9 rfl).symm))
    have pf_42_3_3 : F_42 3 3 = (D_42 10 : Int) := (hS_42 3 3 rfl).trans ((pf23_3_3).trans (congrArg (fun q : Nat => (q : Int)) (hD_42 10 rfl).symm))
    have pf_42_3_7 : F_42 3 7 = (D_42 7 : Int) := (hS_42 3 7 rfl).trans ((pf23_3_7).trans (congrArg (fun q : Nat => (q : Int)) (hD_42 7 rfl).symm))
    have pf_42_3_8 : F_42 3 8 = (D_42 6 : Int) := (hS_42 3 8 rfl).trans ((pf23_3_8).trans (congrArg (fun q : Nat => (q : Int)) (hD_42 6 rfl).symm))
    have pf_42_4_0 : F_42 4 0 = (D_42 5 : Int) := (hS_42 4 0 rfl).trans ((pf23_4_0).trans (congrArg (fun q : Nat => (q : Int)) (hD_42 5 rfl).symm))
    have r29 : (0 : Int) ≤ m42_2 ∧ m42_2 ≤ 1000000 := by have h1 := H.nle 2 (by decide); have h2 : (N_42 2 : Int) = m42_2 := em42_2; omega
    have r30 : (-2147483648 : Int) ≤ y42_1_1 ∧ y42_1_1 ≤ 2147483647 := by have h1 : (-2147483648 : Int) ≤ F_42 1 1 ∧ F_42 1 1 ≤ 2147483647 := H.krg 1 1 (by decide); rw [show F_42 1 1 = y42_1_1 from (ey42_1_1)] at h1; exact h1
    refine Ew_of (pc' := 44) (fun _ => x_iload rfl l42_4) ?_
    refine Ew_of (pc' := 45) (fun _ => x_aload_n rfl l42_0) ?_
    refine v_g H (o := 0) (v := .ref (D_42 3)) rfl rfl rfl rfl rfl (vrf (pf_42_0_1)) ?_
    refine v_g H (o := 3) (v := I (y23_0_4)) rfl rfl rfl rfl rfl (congrArg (fun z : Int => I z) (((hS_42 3 4 rfl).trans ((eF23 3 4).trans ey23_0_4)) : F_42 3 4 = y23_0_4)) ?_
    refine w_icmpge (t := 124) rfl rfl (show inr (x42_4) by omega) (show inr (y23_0_4) by omega) (fun b31 => ?_) (fun b31 => ?_)
    · have hle : (x42_4) = (y23_0_4) := by omega
      have hst : su (fun j => ((w23_4)) j + ((w23_5)) j) ((x42_4) : Int).toNat = (u4_1) - 0 - (y23_0_5) := by rw [hle]; exact hfd.2
      refine Ew_of (pc' := 125) (fun _ => x_aload_n rfl l42_0) ?_
      refine Ew_of (pc' := 126) (fun _ => x_aload_n rfl l42_1) ?_
      refine Ew_of (pc' := 127) (fun _ => x_iload_n rfl l42_3) ?_
      refine Ew_of (pc' := 128) (fun _ => x_aload_n rfl l42_0) ?_
      refine v_g H (o := 0) (v := .ref (D_42 3)) rfl rfl rfl rfl rfl (vrf (pf_42_0_1)) ?_
      refine v_g H (o := 3) (v := I (y23_0_5)) rfl rfl rfl rfl rfl (congrArg (fun z : Int => I z) (((hS_42 3 5 rfl).trans ((eF23 3 5).trans ey23_0_5)) : F_42 3 5 = y23_0_5)) ?_
      refine v_inv H (o := 0) rfl rfl rfl rfl rfl rfl (by rfl) (C196_Row (D := pul [0, 1, 2, 3, 4, 5] D_42) (N := pul [0, 1, 2, 3, 4, 5] N_42) (HW_sub H (VS_of (show vsub V194_Row V196_Row [0, 1, 2, 3, 4, 5] = true by decide +kernel))) (pm42_2) (pf_42_0_1) (pf_42_3_0) (pf_42_4_0) (m42_2) (em42_2) (n5) ((congrArg (fun q : Nat => (q : Int)) (hN_42 5 rfl)).trans ((congrArg (fun q : Nat => (q : Int)) (show N23 5 = N18 5 from (eN23 5).trans (hN23 2 rfl))).trans ((congrArg (fun q : Nat => (q : Int)) (show N18 5 = N15 5 from (eN18 5).trans (hN18 2 rfl))).trans ((congrArg (fun q : Nat => (q : Int)) (show N15 5 = N 5 from (eN15 5))).trans (en5))))) (y42_1_1) ((ey42_1_1)) (u4_1) ((((((hS_42 4 1 rfl).trans ((show F23 4 1 = F18 4 1 from (eF23 4 1).trans (hS23 1 1 rfl)))).trans ((show F18 4 1 = F15 4 1 from (eF18 4 1).trans (hS18 1 1 rfl)))).trans ((show F15 4 1 = F 4 1 from (eF15 4 1)))).trans (eu4_1))) (show inr (x42_3) by omega) (show inr (y23_0_5) by omega) (show 0 ≤ (y42_1_1) ∧ (y42_1_1) ≤ (m42_2) ∧ (m42_2) ≤ 65536 by omega) (show 0 ≤ (u4_1) ∧ (u4_1) ≤ (n5) ∧ (n5) ≤ 65536 by omega) (show 0 ≤ (x42_3) ∧ 0 ≤ (y23_0_5) ∧ (x42_3) + (y23_0_5) ≤ (n5) by omega) (fun σ32 D32' N32' F32' A32' c32 s32 H' O' hD32 hN32 hS32 hA32 pm32_2 m32_2 em32_2 y32_1_1 ey32_1_1 pz32_0 => ⟨rfl, ?_⟩))
      refine v_backM (c := c_42) (s := s_42) H (show vsub V194_Row V196_Row [0, 1, 2, 3, 4, 5] = true by decide +kernel) H' O' hD32 (show vmov V194_Row [0, 1, 2, 3, 4, 5] [2] = true by decide +kernel) (fun D32 N32 F32 A32 H O' eD32 eN32 eF32 eA32 => ?_)
      have O := OUT_trans O O'
      -- Tags.packLiterals
      have pf32_0_1 : F32 0 1 = (D32 3 : Int) := ((show F32 0 1 = F_42 0 1 from (eF32 0 1).trans (hS32 0 1 rfl))).trans ((pf_42_0_1).trans (congrArg (fun q : Nat => (q : Int)) ((show D32 3 = D_42 3 from (eD32 3).trans (hD32 3 rfl))).symm))
      have pf32_1_0 : F32 1 0 = (D32 2 : Int) := (eF32 1 0).trans (pm32_2.trans (congrArg (fun q : Nat => (q : Int)) (eD32 2).symm))
      have pf32_3_0 : F32 3 0 = (D32 4 : Int) := ((show F32 3 0 = F_42 3 0 from (eF32 3 0).trans (hS32 3 0 rfl))).trans ((pf_42_3_0).trans (congrArg (fun q : Nat => (q : Int)) ((show D32 4 = D_42 4 from (eD32 4).trans (hD32 4 rfl))).symm))
      have pf32_3_1 : F32 3 1 = (D32 8 : Int) := ((show F32 3 1 = F_42 3 1 from (eF32 3 1).trans (hS32 3 1 rfl))).trans ((pf_42_3_1).trans (congrArg (fun q : Nat => (q : Int)) ((show D32 8 = D_42 8 from (eD32 8))).symm))
      have pf32_3_2 : F32 3 2 = (D32 9 : Int) := ((show F32 3 2 = F_42 3 2 from (eF32 3 2).trans (hS32 3 2 rfl))).trans ((pf_42_3_2).trans (congrArg (fun q : Nat => (q : Int)) ((show D32 9 = D_42 9 from (eD32 9))).symm))
      have pf32_3_3 : F32 3 3 = (D32 10 : Int) := ((show F32 3 3 = F_42 3 3 from (eF32 3 3).trans (hS32 3 3 rfl))).trans ((pf_42_3_3).trans (congrArg (fun q : Nat => (q : Int)) ((show D32 10 = D_42 10 from (eD32 10))).symm))
      have pf32_3_7 : F32 3 7 = (D32 7 : Int) := ((show F32 3 7 = F_42 3 7 from (eF32 3 7).trans (hS32 3 7 rfl))).trans ((pf_42_3_7).trans (congrArg (fun q : Nat => (q : Int)) ((show D32 7 = D_42 7 from (eD32 7))).symm))
      have pf32_3_8 : F32 3 8 = (D32 6 : Int) := ((show F32 3 8 = F_42 3 8 from (eF32 3 8).trans (hS32 3 8 rfl))).trans ((pf_42_3_8).trans (congrArg (fun q : Nat => (q : Int)) ((show D32 6 = D_42 6 from (eD32 6))).symm))
      have pf32_4_0 : F32 4 0 = (D32 5 : Int) := ((show F32 4 0 = F_42 4 0 from (eF32 4 0).trans (hS32 4 0 rfl))).trans ((pf_42_4_0).trans (congrArg (fun q : Nat => (q : Int)) ((show D32 5 = D_42 5 from (eD32 5).trans (hD32 5 rfl))).symm))
      have r33 : (0 : Int) ≤ m32_2 ∧ m32_2 ≤ 1000000 := by have h1 := H.nle 2 (by decide); have h2 : (N32 2 : Int) = m32_2 := (congrArg (fun q : Nat => (q : Int)) (eN32 2)).trans em32_2; omega
      have r34 : (-2147483648 : Int) ≤ y32_1_1 ∧ y32_1_1 ≤ 2147483647 := by have h1 : (-2147483648 : Int) ≤ F32 1 1 ∧ F32 1 1 ≤ 2147483647 := H.krg 1 1 (by decide); rw [show F32 1 1 = y32_1_1 from ((eF32 1 1).trans ey32_1_1)] at h1; exact h1
      have r35 : (0 : Int) ≤ F32 1 2 ∧ F32 1 2 ≤ 1 := by have h1 : (0 : Int) ≤ F32 1 2 ∧ F32 1 2 ≤ 1 := H.krg 1 2 (by decide); rw [show F32 1 2 = F32 1 2 from rfl] at h1; exact h1
      exact w_ret rfl (k _ _ _ _ _ _ _ H O (SD_trans (SD_trans (SD_trans (SD_trans (SD_trans (SD_refl) (SD_glu (ι := [1, 2]) hD15 eD15 (by decide +kernel)) (any_subA (l' := [2]) rfl)) (SD_glu (ι := [3, 4, 5, 6, 7]) hD18 eD18 (by decide +kernel)) (any_subA (l' := [6]) rfl)) (SD_glu (ι := [3, 4, 5, 6, 8, 9, 10]) hD23 eD23 (by decide +kernel)) (any_subA (l' := [8, 9, 10]) rfl)) hD_42 (any_subA rfl)) (SD_glu (ι := [0, 1, 2, 3, 4, 5]) hD32 eD32 (by decide +kernel)) (any_subA (l' := [2]) rfl)) (SD_trans (SD_trans (SD_trans (SD_trans (SD_trans (SD_refl) (SD_glu (ι := [1, 2]) hN15 eN15 (by decide +kernel)) (any_subA (l' := [2]) rfl)) (SD_glu (ι := [3, 4, 5, 6, 7]) hN18 eN18 (by decide +kernel)) (any_subA (l' := [6]) rfl)) (SD_glu (ι := [3, 4, 5, 6, 8, 9, 10]) hN23 eN23 (by decide +kernel)) (any_subA (l' := [8, 9, 10]) rfl)) hN_42 (any_subA rfl)) (SD_glu (ι := [0, 1, 2, 3, 4, 5]) hN32 eN32 (by decide +kernel)) (any_subA (l' := [2]) rfl)) (SF_trans (SF_trans (SF_trans (SF_trans (SF_trans (SF_refl) (SF_glu (ι := [1, 2]) hS15 eF15 (by decide +kernel)) (any_sub (l' := [(1, 0), (1, 1), (1, 2)]) rfl)) (SF_glu (ι := [3, 4, 5, 6, 7]) hS18 eF18 (by decide +kernel)) (any_sub (l' := [(3, 6), (3, 8)]) rfl)) (SF_glu (ι := [3, 4, 5, 6, 8, 9, 10]) hS23 eF23 (by decide +kernel)) (any_sub (l' := [(3, 1), (3, 2), (3, 3), (3, 4), (3, 5), (3, 12), (3, 13), (3, 14), (3, 15), (3, 16), (3, 17), (3, 18)]) rfl)) hS_42 (any_sub rfl)) (SF_glu (ι := [0, 1, 2, 3, 4, 5]) hS32 eF32 (by decide +kernel)) (any_sub (l' := [(1, 0), (1, 1), (1, 2)]) rfl)) (SA_trans (SA_trans (SA_trans (SA_trans (SA_trans (SA_refl) (SA_glu (ι := [1, 2]) hA15 eA15 (by decide +kernel)) (any_subA (l' := [2]) rfl)) (SA_glu (ι := [3, 4, 5, 6, 7]) hA18 eA18 (by decide +kernel)) (any_subA (l' := [6, 7]) rfl)) (SA_glu (ι := [3, 4, 5, 6, 8, 9, 10]) hA23 eA23 (by decide +kernel)) (any_subA (l' := [8, 9, 10]) rfl)) hA_42 (any_subA rfl)) (SA_glu (ι := [0, 1, 2, 3, 4, 5]) hA32 eA32 (by decide +kernel)) (any_subA (l' := [2]) rfl)) (pf32_1_0) (pf32_3_8) (pf32_3_1) (pf32_3_2) (pf32_3_3) (m32_2) ((congrArg (fun q : Nat => (q : Int)) (eN32 2)).trans em32_2) (m18_3) ((congrArg (fun q : Nat => (q : Int)) (show N32 6 = N_42 6 from (eN32 6))).trans ((congrArg (fun q : Nat => (q : Int)) (hN_42 6 rfl)).trans ((congrArg (fun q : Nat => (q : Int)) (show N23 6 = N18 6 from (eN23 6).trans (hN23 3 rfl))).trans ((congrArg (fun q : Nat => (q : Int)) (eN18 6)).trans em18_3)))) (m23_4) ((congrArg (fun q : Nat => (q : Int)) (show N32 8 = N_42 8 from (eN32 8))).trans ((congrArg (fun q : Nat => (q : Int)) (hN_42 8 rfl)).trans ((congrArg (fun q : Nat => (q : Int)) (eN23 8)).trans em23_4))) (m23_5) ((congrArg (fun q : Nat => (q : Int)) (show N32 9 = N_42 9 from (eN32 9))).trans ((congrArg (fun q : Nat => (q : Int)) (hN_42 9 rfl)).trans ((congrArg (fun q : Nat => (q : Int)) (eN23 9)).trans em23_5))) (m23_6) ((congrArg (fun q : Nat => (q : Int)) (show N32 10 = N_42 10 from (eN32 10))).trans ((congrArg (fun q : Nat => (q : Int)) (hN_42 10 rfl)).trans ((congrArg (fun q : Nat => (q : Int)) (eN23 10)).trans em23_6))) (y32_1_1) (((eF32 1 1).trans ey32_1_1)) (F32 1 2) (rfl) (y18_0_6) ((((((show F32 3 6 = F_42 3 6 from (eF32 3 6).trans (hS32 3 6 rfl))).trans (hS_42 3 6 rfl)).trans ((show F23 3 6 = F18 3 6 from (eF23 3 6).trans (hS23 0 6 rfl)))).trans ((eF18 3 6).trans ey18_0_6))) (A32 2) (rfl) (w18_3) (((show A32 6 = A_42 6 from (eA32 6))).trans ((funext (hA_42 6 rfl)).trans (((show A23 6 = A18 6 from (eA23 6).trans (funext (hA23 3 rfl)))).trans ((eA18 6).trans ew18_3)))) (w18_4) (((show A32 7 = A_42 7 from (eA32 7))).trans ((funext (hA_42 7 rfl)).trans (((show A23 7 = A18 7 from (eA23 7))).trans ((eA18 7).trans ew18_4)))) (show 0 ≤ (y32_1_1) ∧ (y32_1_1) ≤ (m32_2) ∧ (m32_2) ≤ 65536 by omega) (show 0 ≤ (y18_0_6) ∧ (u3_6) ≤ (y18_0_6) ∧ (y18_0_6) ≤ (m18_3) ∧ (m18_3) ≤ 16384 by omega) (show (m23_4) = (m23_5) ∧ (m23_6) = (m23_5) ∧ (m23_5) ≤ 65536 ∧ ((m23_5) = 0 ∨ 64 ≤ (m23_5)) ∧ lgq ((m23_5)) = 0 by omega) (show BKI ((w5)) ((w18_3)) ((u3_10)) ((y18_0_6)) by assumption) (show HDI ((w5)) ((w18_4)) ((u3_10)) ((y18_0_6)) by assumption) (show (y18_0_6) = (u3_6) ∨ (y18_0_6) + 4 ≤ (u4_1) + 1 by omega) (show PKB ((u3_9)) (a2) (sc ((w5)) 0 ((u4_1))) ((u1_2)) ((w2)) ((u1_1)) ((F32 1 2)) ((A32 2)) ((y32_1_1)) by assumption))
    · have hfp := FDI_part (i := (x42_4)) hfd (by omega) (by omega) (by omega)
      have hfj := hfd.1 ((x42_4)) (by omega) (by omega)
      refine Ew_of (pc' := 55) (fun _ => x_aload_n rfl l42_0) ?_
      refine Ew_of (pc' := 56) (fun _ => x_aload_n rfl l42_1) ?_
      refine Ew_of (pc' := 57) (fun _ => x_iload_n rfl l42_3) ?_
      refine Ew_of (pc' := 58) (fun _ => x_aload_n rfl l42_0) ?_
      refine v_g H (o := 0) (v := .ref (D_42 3)) rfl rfl rfl rfl rfl (vrf (pf_42_0_1)) ?_
      refine v_g H (o := 3) (v := .ref (D_42 8)) rfl rfl rfl rfl rfl (vrf (pf_42_3_1)) ?_
      refine Ew_of (pc' := 66) (fun _ => x_iload rfl l42_4) ?_
      refine v_lI H (o := 8) rfl rfl rfl rfl (n := m23_4) ((congrArg (fun q : Nat => (q : Int)) (hN_42 8 rfl)).trans ((congrArg (fun q : Nat => (q : Int)) (eN23 8)).trans em23_4)) (show 0 ≤ x42_4 ∧ x42_4 < m23_4 by omega) (fun v36 ev36 qv36 => ?_)
      have ev36 : (w23_4) (x42_4) = v36 := (congrFun ((funext (hA_42 8 rfl)).trans ((eA23 8).trans ew23_4)) (x42_4)).symm.trans ev36
      refine v_inv H (o := 0) rfl rfl rfl rfl rfl rfl (by rfl) (C196_Row (D := pul [0, 1, 2, 3, 4, 5] D_42) (N := pul [0, 1, 2, 3, 4, 5] N_42) (HW_sub H (VS_of (show vsub V194_Row V196_Row [0, 1, 2, 3, 4, 5] = true by decide +kernel))) (pm42_2) (pf_42_0_1) (pf_42_3_0) (pf_42_4_0) (m42_2) (em42_2) (n5) ((congrArg (fun q : Nat => (q : Int)) (hN_42 5 rfl)).trans ((congrArg (fun q : Nat => (q : Int)) (show N23 5 = N18 5 from (eN23 5).trans (hN23 2 rfl))).trans ((congrArg (fun q : Nat => (q : Int)) (show N18 5 = N15 5 from (eN18 5).trans (hN18 2 rfl))).trans ((congrArg (fun q : Nat => (q : Int)) (show N15 5 = N 5 from (eN15 5))).trans (en5))))) (y42_1_1) ((ey42_1_1)) (u4_1) ((((((hS_42 4 1 rfl).trans ((show F23 4 1 = F18 4 1 from (eF23 4 1).trans (hS23 1 1 rfl)))).trans ((show F18 4 1 = F15 4 1 from (eF18 4 1).trans (hS18 1 1 rfl)))).trans ((show F15 4 1 = F 4 1 from (eF15 4 1)))).trans (eu4_1))) (show inr (x42_3) by omega) (show inr (v36) by omega) (show 0 ≤ (y42_1_1) ∧ (y42_1_1) ≤ (m42_2) ∧ (m42_2) ≤ 65536 by omega) (show 0 ≤ (u4_1) ∧ (u4_1) ≤ (n5) ∧ (n5) ≤ 65536 by omega) (show 0 ≤ (x42_3) ∧ 0 ≤ (v36) ∧ (x42_3) + (v36) ≤ (n5) by omega) (fun σ37 D37' N37' F37' A37' c37 s37 H' O' hD37 hN37 hS37 hA37 pm37_2 m37_2 em37_2 y37_1_1 ey37_1_1 pz37_0 => ⟨rfl, ?_⟩))
      refine v_backM (c := c_42) (s := s_42) H (show vsub V194_Row V196_Row [0, 1, 2, 3, 4, 5] = true by decide +kernel) H' O' hD37 (show vmov V194_Row [0, 1, 2, 3, 4, 5] [2] = true by decide +kernel) (fun D37 N37 F37 A37 H O' eD37 eN37 eF37 eA37 => ?_)
      have O := OUT_trans O O'
      -- Tags.packLiterals
      have pf37_0_1 : F37 0 1 = (D37 3 : Int) := ((show F37 0 1 = F_42 0 1 from (eF37 0 1).trans (hS37 0 1 rfl))).trans ((pf_42_0_1).trans (congrArg (fun q : Nat => (q : Int)) ((show D37 3 = D_42 3 from (eD37 3).trans (hD37 3 rfl))).symm))
      have pf37_1_0 : F37 1 0 = (D37 2 : Int) := (eF37 1 0).trans (pm37_2.trans (congrArg (fun q : Nat => (q : Int)) (eD37 2).symm))
      have pf37_3_0 : F37 3 0 = (D37 4 : Int) := ((show F37 3 0 = F_42 3 0 from (eF37 3 0).trans (hS37 3 0 rfl))).trans ((pf_42_3_0).trans (congrArg (fun q : Nat => (q : Int)) ((show D37 4 = D_42 4 from (eD37 4).trans (hD37 4 rfl))).symm))
      have pf37_3_1 : F37 3 1 = (D37 8 : Int) := ((show F37 3 1 = F_42 3 1 from (eF37 3 1).trans (hS37 3 1 rfl))).trans ((pf_42_3_1).trans (congrArg (fun q : Nat => (q : Int)) ((show D37 8 = D_42 8 from (eD37 8))).symm))
      have pf37_3_2 : F37 3 2 = (D37 9 : Int) := ((show F37 3 2 = F_42 3 2 from (eF37 3 2).trans (hS37 3 2 rfl))).trans ((pf_42_3_2).trans (congrArg (fun q : Nat => (q : Int)) ((show D37 9 = D_42 9 from (eD37 9))).symm))
      have pf37_3_3 : F37 3 3 = (D37 10 : Int) := ((show F37 3 3 = F_42 3 3 from (eF37 3 3).trans (hS37 3 3 rfl))).trans ((pf_42_3_3).trans (congrArg (fun q : Nat => (q : Int)) ((show D37 10 = D_42 10 from (eD37 10))).symm))
      have pf37_3_7 : F37 3 7 = (D37 7 : Int) := ((show F37 3 7 = F_42 3 7 from (eF37 3 7).trans (hS37 3 7 rfl))).trans ((pf_42_3_7).trans (congrArg (fun q : Nat => (q : Int)) ((show D37 7 = D_42 7 from (eD37 7))).symm))
      have pf37_3_8 : F37 3 8 = (D37 6 : Int) := ((show F37 3 8 = F_42 3 8 from (eF37 3 8).trans (hS37 3 8 rfl))).trans ((pf_42_3_8).trans (congrArg (fun q : Nat => (q : Int)) ((show D37 6 = D_42 6 from (eD37 6))).symm))
      have pf37_4_0 : F37 4 0 = (D37 5 : Int) := ((show F37 4 0 = F_42 4 0 from (eF37 4 0).trans (hS37 4 0 rfl))).trans ((pf_42_4_0).trans (congrArg (fun q : Nat => (q : Int)) ((show D37 5 = D_42 5 from (eD37 5).trans (hD37 5 rfl))).symm))
      have r38 : (0 : Int) ≤ m37_2 ∧ m37_2 ≤ 1000000 := by have h1 := H.nle 2 (by decide); have h2 : (N37 2 : Int) = m37_2 := (congrArg (fun q : Nat => (q : Int)) (eN37 2)).trans em37_2; omega
      have r39 : (-2147483648 : Int) ≤ y37_1_1 ∧ y37_1_1 ≤ 2147483647 := by have h1 : (-2147483648 : Int) ≤ F37 1 1 ∧ F37 1 1 ≤ 2147483647 := H.krg 1 1 (by decide); rw [show F37 1 1 = y37_1_1 from ((eF37 1 1).trans ey37_1_1)] at h1; exact h1
      refine Ew_of (pc' := 71) (fun _ => x_aload_n rfl l42_1) ?_
      refine Ew_of (pc' := 72) (fun _ => x_aload_n rfl l42_0) ?_
      refine Ew_stk (show ([.ref (D_42 0), .ref (D_42 1)] : List Value) = [.ref (D37 0), .ref (D37 1)] by rw [show D37 0 = D_42 0 from ((show D37 0 = D_42 0 from (eD37 0).trans (hD37 0 rfl))), show D37 1 = D_42 1 from ((show D37 1 = D_42 1 from (eD37 1).trans (hD37 1 rfl)))]) ?_
      refine v_g H (o := 0) (v := .ref (D37 3)) rfl rfl rfl rfl rfl (vrf (pf37_0_1)) ?_
      refine v_g H (o := 3) (v := .ref (D37 9)) rfl rfl rfl rfl rfl (vrf (pf37_3_2)) ?_
      refine Ew_of (pc' := 80) (fun _ => x_iload rfl l42_4) ?_
      refine v_lI H (o := 9) rfl rfl rfl rfl (n := m23_5) ((congrArg (fun q : Nat => (q : Int)) (show N37 9 = N_42 9 from (eN37 9))).trans ((congrArg (fun q : Nat => (q : Int)) (hN_42 9 rfl)).trans ((congrArg (fun q : Nat => (q : Int)) (eN23 9)).trans em23_5))) (show 0 ≤ x42_4 ∧ x42_4 < m23_5 by omega) (fun v40 ev40 qv40 => ?_)
      have ev40 : (w23_5) (x42_4) = v40 := (congrFun (((show A37 9 = A_42 9 from (eA37 9))).trans ((funext (hA_42 9 rfl)).trans ((eA23 9).trans ew23_5))) (x42_4)).symm.trans ev40
      refine Ew_of (pc' := 82) (fun _ => x_aload_n rfl l42_0) ?_
      refine Ew_stk (show ([.ref (D_42 0), I (v40), .ref (D37 1)] : List Value) = [.ref (D37 0), I (v40), .ref (D37 1)] by rw [show D37 0 = D_42 0 from ((show D37 0 = D_42 0 from (eD37 0).trans (hD37 0 rfl)))]) ?_
      refine v_g H (o := 0) (v := .ref (D37 3)) rfl rfl rfl rfl rfl (vrf (pf37_0_1)) ?_
      refine v_g H (o := 3) (v := .ref (D37 10)) rfl rfl rfl rfl rfl (vrf (pf37_3_3)) ?_
      refine Ew_of (pc' := 90) (fun _ => x_iload rfl l42_4) ?_
      refine v_lI H (o := 10) rfl rfl rfl rfl (n := m23_6) ((congrArg (fun q : Nat => (q : Int)) (show N37 10 = N_42 10 from (eN37 10))).trans ((congrArg (fun q : Nat => (q : Int)) (hN_42 10 rfl)).trans ((congrArg (fun q : Nat => (q : Int)) (eN23 10)).trans em23_6))) (show 0 ≤ x42_4 ∧ x42_4 < m23_6 by omega) (fun v41 ev41 qv41 => ?_)
      have ev41 : (w23_6) (x42_4) = v41 := (congrFun (((show A37 10 = A_42 10 from (eA37 10))).trans ((funext (hA_42 10 rfl)).trans ((eA23 10).trans ew23_6))) (x42_4)).symm.trans ev41
      refine w_stat24 rfl rfl (by rfl) (C197_Row (D := pul [1, 2] D37) (N := pul [1, 2] N37) (HW_sub H (VS_of (show vsub V194_Row V197_Row [1, 2] = true by decide +kernel))) (pf37_1_0) (m37_2) ((congrArg (fun q : Nat => (q : Int)) (eN37 2)).trans em37_2) (y37_1_1) (((eF37 1 1).trans ey37_1_1)) (show inr (v40) by omega) (show inr (v41) by omega) (show 0 ≤ (y37_1_1) ∧ (y37_1_1) ≤ (m37_2) ∧ (m37_2) ≤ 65536 by omega) (show 0 ≤ (v40) ∧ (v40) ≤ 65536 by omega) (fun σ42 D42' N42' F42' A42' c42 s42 H' O' hD42 hN42 hS42 hA42 pm42_1 m42_1 em42_1 y42_0_1 ey42_0_1 pz42_0 => ⟨rfl, ?_⟩))
      refine v_backM (c := (c_42 + c37)) (s := (s_42 + s37)) H (show vsub V194_Row V197_Row [1, 2] = true by decide +kernel) H' O' hD42 (show vmov V194_Row [1, 2] [1] = true by decide +kernel) (fun D42 N42 F42 A42 H O' eD42 eN42 eF42 eA42 => ?_)
      have O := OUT_trans O O'
      -- Tags.packCopies
      have pf42_0_1 : F42 0 1 = (D42 3 : Int) := ((show F42 0 1 = F37 0 1 from (eF42 0 1))).trans ((pf37_0_1).trans (congrArg (fun q : Nat => (q : Int)) ((show D42 3 = D37 3 from (eD42 3))).symm))
      have pf42_1_0 : F42 1 0 = (D42 2 : Int) := (eF42 1 0).trans (pm42_1.trans (congrArg (fun q : Nat => (q : Int)) (eD42 2).symm))
      have pf42_3_0 : F42 3 0 = (D42 4 : Int) := ((show F42 3 0 = F37 3 0 from (eF42 3 0))).trans ((pf37_3_0).trans (congrArg (fun q : Nat => (q : Int)) ((show D42 4 = D37 4 from (eD42 4))).symm))
      have pf42_3_1 : F42 3 1 = (D42 8 : Int) := ((show F42 3 1 = F37 3 1 from (eF42 3 1))).trans ((pf37_3_1).trans (congrArg (fun q : Nat => (q : Int)) ((show D42 8 = D37 8 from (eD42 8))).symm))
      have pf42_3_2 : F42 3 2 = (D42 9 : Int) := ((show F42 3 2 = F37 3 2 from (eF42 3 2))).trans ((pf37_3_2).trans (congrArg (fun q : Nat => (q : Int)) ((show D42 9 = D37 9 from (eD42 9))).symm))
      have pf42_3_3 : F42 3 3 = (D42 10 : Int) := ((show F42 3 3 = F37 3 3 from (eF42 3 3))).trans ((pf37_3_3).trans (congrArg (fun q : Nat => (q : Int)) ((show D42 10 = D37 10 from (eD42 10))).symm))
      have pf42_3_7 : F42 3 7 = (D42 7 : Int) := ((show F42 3 7 = F37 3 7 from (eF42 3 7))).trans ((pf37_3_7).trans (congrArg (fun q : Nat => (q : Int)) ((show D42 7 = D37 7 from (eD42 7))).symm))
      have pf42_3_8 : F42 3 8 = (D42 6 : Int) := ((show F42 3 8 = F37 3 8 from (eF42 3 8))).trans ((pf37_3_8).trans (congrArg (fun q : Nat => (q : Int)) ((show D42 6 = D37 6 from (eD42 6))).symm))
      have pf42_4_0 : F42 4 0 = (D42 5 : Int) := ((show F42 4 0 = F37 4 0 from (eF42 4 0))).trans ((pf37_4_0).trans (congrArg (fun q : Nat => (q : Int)) ((show D42 5 = D37 5 from (eD42 5))).symm))
      have r43 : (0 : Int) ≤ m42_1 ∧ m42_1 ≤ 1000000 := by have h1 := H.nle 2 (by decide); have h2 : (N42 2 : Int) = m42_1 := (congrArg (fun q : Nat => (q : Int)) (eN42 2)).trans em42_1; omega
      have r44 : (-2147483648 : Int) ≤ y42_0_1 ∧ y42_0_1 ≤ 2147483647 := by have h1 : (-2147483648 : Int) ≤ F42 1 1 ∧ F42 1 1 ≤ 2147483647 := H.krg 1 1 (by decide); rw [show F42 1 1 = y42_0_1 from ((eF42 1 1).trans ey42_0_1)] at h1; exact h1
      refine Ew_of (pc' := 95) (fun _ => x_iload_n rfl l42_3) ?_
      refine Ew_of (pc' := 96) (fun _ => x_aload_n rfl l42_0) ?_
      refine Ew_stk (show ([.ref (D_42 0), I (x42_3)] : List Value) = [.ref (D42 0), I (x42_3)] by rw [show D42 0 = D_42 0 from (((show D42 0 = D37 0 from (eD42 0))).trans ((show D37 0 = D_42 0 from (eD37 0).trans (hD37 0 rfl))))]) ?_
      refine v_g H (o := 0) (v := .ref (D42 3)) rfl rfl rfl rfl rfl (vrf (pf42_0_1)) ?_
      refine v_g H (o := 3) (v := .ref (D42 8)) rfl rfl rfl rfl rfl (vrf (pf42_3_1)) ?_
      refine Ew_of (pc' := 104) (fun _ => x_iload rfl l42_4) ?_
      refine v_lI H (o := 8) rfl rfl rfl rfl (n := m23_4) ((congrArg (fun q : Nat => (q : Int)) (show N42 8 = N37 8 from (eN42 8))).trans ((congrArg (fun q : Nat => (q : Int)) (show N37 8 = N_42 8 from (eN37 8))).trans ((congrArg (fun q : Nat => (q : Int)) (hN_42 8 rfl)).trans ((congrArg (fun q : Nat => (q : Int)) (eN23 8)).trans em23_4)))) (show 0 ≤ x42_4 ∧ x42_4 < m23_4 by omega) (fun v45 ev45 qv45 => ?_)
      have ev45 : (w23_4) (x42_4) = v45 := (congrFun (((show A42 8 = A37 8 from (eA42 8))).trans (((show A37 8 = A_42 8 from (eA37 8))).trans ((funext (hA_42 8 rfl)).trans ((eA23 8).trans ew23_4)))) (x42_4)).symm.trans ev45
      refine Ew_of (pc' := 106) (fun _ => x_aload_n rfl l42_0) ?_
      refine Ew_stk (show ([.ref (D_42 0), I (v45), I (x42_3)] : List Value) = [.ref (D42 0), I (v45), I (x42_3)] by rw [show D42 0 = D_42 0 from (((show D42 0 = D37 0 from (eD42 0))).trans ((show D37 0 = D_42 0 from (eD37 0).trans (hD37 0 rfl))))]) ?_
      refine v_g H (o := 0) (v := .ref (D42 3)) rfl rfl rfl rfl rfl (vrf (pf42_0_1)) ?_
      refine v_g H (o := 3) (v := .ref (D42 9)) rfl rfl rfl rfl rfl (vrf (pf42_3_2)) ?_
      refine Ew_of (pc' := 114) (fun _ => x_iload rfl l42_4) ?_
      refine v_lI H (o := 9) rfl rfl rfl rfl (n := m23_5) ((congrArg (fun q : Nat => (q : Int)) (show N42 9 = N37 9 from (eN42 9))).trans ((congrArg (fun q : Nat => (q : Int)) (show N37 9 = N_42 9 from (eN37 9))).trans ((congrArg (fun q : Nat => (q : Int)) (hN_42 9 rfl)).trans ((congrArg (fun q : Nat => (q : Int)) (eN23 9)).trans em23_5)))) (show 0 ≤ x42_4 ∧ x42_4 < m23_5 by omega) (fun v46 ev46 qv46 => ?_)
      have ev46 : (w23_5) (x42_4) = v46 := (congrFun (((show A42 9 = A37 9 from (eA42 9))).trans (((show A37 9 = A_42 9 from (eA37 9))).trans ((funext (hA_42 9 rfl)).trans ((eA23 9).trans ew23_5)))) (x42_4)).symm.trans ev46
      refine w_iadd rfl ?_
      refine w_iadd rfl ?_
      refine Ew_of (pc' := 118) (fun _ => x_istore_n rfl) ?_
      refine Ew_of (pc' := 121) (fun _ => x_iinc (len := 3) rfl (rk_o (l42_4) rfl rfl)) ?_
      refine Ew_of (pc' := 42) (fun _ => x_goto rfl rfl) ?_
      exact ih42 _ (by omega) _ _ _ _ _ _ _ _ ((x42_3 + (v45 + v46))) ((x42_4 + 1)) ((rk_o (rk_o (l42_0) rfl rfl) rfl rfl).trans (congrArg (fun q : Nat => some (Value.ref q)) ((((show D42 0 = D37 0 from (eD42 0))).trans ((show D37 0 = D_42 0 from (eD37 0).trans (hD37 0 rfl))))).symm)) ((rk_o (rk_o (l42_1) rfl rfl) rfl rfl).trans (congrArg (fun q : Nat => some (Value.ref q)) ((((show D42 1 = D37 1 from (eD42 1).trans (hD42 0 rfl))).trans ((show D37 1 = D_42 1 from (eD37 1).trans (hD37 1 rfl))))).symm)) (rk_o (rk_s) rfl rfl) (rk_s) H O (SD_trans (SD_trans (hD_42) (SD_glu (ι := [0, 1, 2, 3, 4, 5]) hD37 eD37 (by decide +kernel)) (any_subA (l' := [2]) rfl)) (SD_glu (ι := [1, 2]) hD42 eD42 (by decide +kernel)) (any_subA (l' := [2]) rfl)) (SD_trans (SD_trans (hN_42) (SD_glu (ι := [0, 1, 2, 3, 4, 5]) hN37 eN37 (by decide +kernel)) (any_subA (l' := [2]) rfl)) (SD_glu (ι := [1, 2]) hN42 eN42 (by decide +kernel)) (any_subA (l' := [2]) rfl)) (SF_trans (SF_trans (hS_42) (SF_glu (ι := [0, 1, 2, 3, 4, 5]) hS37 eF37 (by decide +kernel)) (any_sub (l' := [(1, 0), (1, 1), (1, 2)]) rfl)) (SF_glu (ι := [1, 2]) hS42 eF42 (by decide +kernel)) (any_sub (l' := [(1, 0), (1, 1), (1, 2)]) rfl)) (SA_trans (SA_trans (hA_42) (SA_glu (ι := [0, 1, 2, 3, 4, 5]) hA37 eA37 (by decide +kernel)) (any_subA (l' := [2]) rfl)) (SA_glu (ι := [1, 2]) hA42 eA42 (by decide +kernel)) (any_subA (l' := [2]) rfl)) (pf42_1_0) (m42_1) ((congrArg (fun q : Nat => (q : Int)) (eN42 2)).trans em42_1) (y42_0_1) (((eF42 1 1).trans ey42_0_1))  (show inr ((x42_3 + (v45 + v46))) by omega) (show inr ((x42_4 + 1)) by omega) (show (0) ≤ ((x42_4 + 1)) by omega) (show ((x42_4 + 1)) ≤ (0) ∨ ((x42_4 + 1)) ≤ ((y23_0_4)) by omega) (show 0 ≤ (y42_0_1) ∧ (y42_0_1) ≤ (m42_1) ∧ (m42_1) ≤ 65536 by omega) (show ((x42_3 + (v45 + v46))) = su (fun j => ((w23_4)) j + ((w23_5)) j) (((x42_4 + 1)) : Int).toNat by omega) rfl
abbrev V193_Row_Row : vV := [(0, 10, [(4, 0), (4, 0), (4, 0), (4, 0), (0, 0), (4, 0), (0, 0), (2, 0), (0, 0)]), (0, 7, [(4, 0), (0, 0), (1, 0), (0, 0), (0, 0)]), (0, 7, [(4, 0), (0, 0), (1, 0), (0, 0), (0, 0)]), (1, 0, []), (1, 0, []), (0, 5, [(4, 0), (4, 0), (4, 0), (4, 0), (0, 0), (0, 0), (0, 0), (4, 0), (4, 0), (0, 0), (0, 0), (0, 0), (0, 0), (0, 0), (0, 0), (0, 0), (0, 0), (0, 0), (0, 0)]), (0, 7, [(4, 0), (0, 0), (1, 0), (0, 0), (0, 0)]), (1, 0, []), (1, 1, []), (1, 1, []), (1, 1, []), (1, 1, []), (1, 1, []), (1, 1, [])]
/-- Tags.packAlone: this, #1, #2, #1.bytes, #2.bytes, this.finder, this.finder.data, this.finder.data.bytes, this.settings, this.finder.heads, this.finder.back, this.finder.literals, this.finder.lengths, this.finder.distances -/
theorem C193_Row_Row {σE : rS} {D N : Nat → Nat} {F : hF} {A : hA} {d c s : Nat} {Q : wQ} (H : HW V193_Row_Row σE D N F A)  (pf3 : F 1 0 = (D 3 : Int)) (pf4 : F 2 0 = (D 4 : Int)) (pf5 : F 0 1 = (D 5 : Int)) (pf6 : F 5 0 = (D 6 : Int)) (pf7 : F 6 0 = (D 7 : Int)) (pf8 : F 0 0 = (D 8 : Int)) (pf9 : F 5 7 = (D 9 : Int)) (pf10 : F 5 8 = (D 10 : Int)) (pf11 : F 5 1 = (D 11 : Int)) (pf12 : F 5 2 = (D 12 : Int)) (pf13 : F 5 3 = (D 13 : Int)) (n3 : Int) (en3 : (N 3 : Int) = n3) (n4 : Int) (en4 : (N 4 : Int) = n4) (n7 : Int) (en7 : (N 7 : Int) = n7) (n8 : Int) (en8 : (N 8 : Int) = n8) (n9 : Int) (en9 : (N 9 : Int) = n9) (n10 : Int) (en10 : (N 10 : Int) = n10) (n11 : Int) (en11 : (N 11 : Int) = n11) (n12 : Int) (en12 : (N 12 : Int) = n12) (n13 : Int) (en13 : (N 13 : Int) = n13) (u1_1 : Int) (eu1_1 : F 1 1 = u1_1) (u2_1 : Int) (eu2_1 : F 2 1 = u2_1) (u6_1 : Int) (eu6_1 : F 6 1 = u6_1) (h0 : 0 ≤ (u1_1) ∧ (u1_1) ≤ (n3) ∧ (n3) ≤ 65536) (h1 : 0 ≤ (u2_1) ∧ (u2_1) ≤ (n4) ∧ (n4) ≤ 65536) (h2 : 0 ≤ (u6_1) ∧ (u6_1) ≤ (n7) ∧ (n7) ≤ 65536) (h3 : (n8) = 10) (h4 : (u2_1) ≤ 16384) (h5 : (n9) = 0 ∨ (n9) = 2048) (h6 : (n10) ≤ 16384) (h7 : (n11) = (n12) ∧ (n13) = (n12) ∧ (n12) ≤ 65536 ∧ ((n12) = 0 ∨ 64 ≤ (n12)) ∧ lgq ((n12)) = 0) (k : ∀ (σ : rS) (D' N' : Nat → Nat) (F' : hF) (A' : hA) (c' s' : Nat), HW V193_Row_Row σ D' N' F' A' → OUT (V193_Row_Row).length D N σE c s D' N' σ c' s' → SD [3, 7, 9, 10, 11, 12, 13] D D' → SD [3, 7, 9, 10, 11, 12, 13] N N' → SF [(1, 0), (1, 1), (1, 2), (5, 1), (5, 2), (5, 3), (5, 4), (5, 5), (5, 6), (5, 7), (5, 8), (5, 9), (5, 10), (5, 11), (5, 12), (5, 13), (5, 14), (5, 15), (5, 16), (5, 17), (5, 18), (6, 0), (6, 1), (6, 2), (6, 3), (6, 4)] F F' → SA [3, 7, 9, 10, 11, 12, 13] A A' → F' 1 0 = (D' 3 : Int) → F' 6 0 = (D' 7 : Int) → F' 5 7 = (D' 9 : Int) → F' 5 8 = (D' 10 : Int) → F' 5 1 = (D' 11 : Int) → F' 5 2 = (D' 12 : Int) → F' 5 3 = (D' 13 : Int) → ∀ m3 : Int, (N' 3 : Int) = m3 → ∀ m7 : Int, (N' 7 : Int) = m7 → ∀ m9 : Int, (N' 9 : Int) = m9 → ∀ m10 : Int, (N' 10 : Int) = m10 → ∀ m11 : Int, (N' 11 : Int) = m11 → ∀ m12 : Int, (N' 12 : Int) = m12 → ∀ m13 : Int, (N' 13 : Int) = m13 → ∀ y1_1 : Int, F' 1 1 = y1_1 → ∀ y6_1 : Int, F' 6 1 = y6_1 → (0 ≤ (y1_1) ∧ (y1_1) ≤ (m3) ∧ (m3) ≤ 65536) → (0 ≤ (y6_1) ∧ (y6_1) ≤ (m7) ∧ (m7) ≤ 65536) → ((m9) = 0 ∨ (m9) = 2048) → ((m10) ≤ 16384) → ((m11) = (m12) ∧ (m13) = (m12) ∧ (m12) ≤ 65536 ∧ ((m12) = 0 ∨ 64 ≤ (m12)) ∧ lgq ((m12)) = 0) → Q none σ c' s') : Ew 193 (d + 5) 0 (rargs 0 [.ref (D 0), .ref (D 1), .ref (D 2)]) [] σE c s Q := by
  have O := OUT_refl (n := (V193_Row_Row).length) (D := D) (N := N) (σ := σE) (c := c) (s := s)
  have HE := H
  have r1 : (-2147483648 : Int) ≤ u1_1 ∧ u1_1 ≤ 2147483647 := by have h1 : (-2147483648 : Int) ≤ F 1 1 ∧ F 1 1 ≤ 2147483647 := H.krg 1 1 (by decide); rw [show F 1 1 = u1_1 from (eu1_1)] at h1; exact h1
  have r2 : (-2147483648 : Int) ≤ u2_1 ∧ u2_1 ≤ 2147483647 := by have h1 : (-2147483648 : Int) ≤ F 2 1 ∧ F 2 1 ≤ 2147483647 := H.krg 2 1 (by decide); rw [show F 2 1 = u2_1 from (eu2_1)] at h1; exact h1
  have r3 : (-2147483648 : Int) ≤ u6_1 ∧ u6_1 ≤ 2147483647 := by have h1 : (-2147483648 : Int) ≤ F 6 1 ∧ F 6 1 ≤ 2147483647 := H.krg 6 1 (by decide); rw [show F 6 1 = u6_1 from (eu6_1)] at h1; exact h1
  have r4 : (0 : Int) ≤ n3 ∧ n3 ≤ 1000000 := by have h1 := H.nle 3 (by decide); have h2 : (N 3 : Int) = n3 := en3; omega
  have r5 : (0 : Int) ≤ n4 ∧ n4 ≤ 1000000 := by have h1 := H.nle 4 (by decide); have h2 : (N 4 : Int) = n4 := en4; omega
  have r6 : (0 : Int) ≤ n7 ∧ n7 ≤ 1000000 := by have h1 := H.nle 7 (by decide); have h2 : (N 7 : Int) = n7 := en7; omega
  have r7 : (0 : Int) ≤ n8 ∧ n8 ≤ 1000000 := by have h1 := H.nle 8 (by decide); have h2 : (N 8 : Int) = n8 := en8; omega
  have r8 : (0 : Int) ≤ n9 ∧ n9 ≤ 1000000 := by have h1 := H.nle 9 (by decide); have h2 : (N 9 : Int) = n9 := en9; omega
  have r9 : (0 : Int) ≤ n10 ∧ n10 ≤ 1000000 := by have h1 := H.nle 10 (by decide); have h2 : (N 10 : Int) = n10 := en10; omega
  have r10 : (0 : Int) ≤ n11 ∧ n11 ≤ 1000000 := by have h1 := H.nle 11 (by decide); have h2 : (N 11 : Int) = n11 := en11; omega
  have r11 : (0 : Int) ≤ n12 ∧ n12 ≤ 1000000 := by have h1 := H.nle 12 (by decide); have h2 : (N 12 : Int) = n12 := en12; omega
  have r12 : (0 : Int) ≤ n13 ∧ n13 ≤ 1000000 := by have h1 := H.nle 13 (by decide); have h2 : (N 13 : Int) = n13 := en13; omega
  refine Ew_of (pc' := 1) (fun _ => x_aload_n rfl rfl) ?_
  refine v_g H (o := 0) (v := .ref (D 5)) rfl rfl rfl rfl rfl (vrf (pf5)) ?_
  refine v_g H (o := 5) (v := .ref (D 6)) rfl rfl rfl rfl rfl (vrf (pf6)) ?_
  refine Ew_of (pc' := 8) (fun _ => x_aload_n rfl rfl) ?_
  have r13 : (0 : Int) ≤ F 6 2 ∧ F 6 2 ≤ 1 := by have h1 : (0 : Int) ≤ F 6 2 ∧ F 6 2 ≤ 1 := H.krg 6 2 (by decide); rw [show F 6 2 = F 6 2 from rfl] at h1; exact h1
  refine v_inv H (o := 6) rfl rfl rfl rfl rfl rfl (by rfl) (C158_Row (D := pul [6, 2, 7, 4] D) (N := pul [6, 2, 7, 4] N) (HW_sub H (VS_of (show vsub V193_Row_Row V158_Row [6, 2, 7, 4] = true by decide +kernel))) (pf7) (pf4) (n7) (en7) (n4) (en4) (u6_1) ((eu6_1)) (F 6 2) (rfl) (u2_1) ((eu2_1)) (A 7) (rfl) (A 4) (rfl) (show 0 ≤ (u6_1) ∧ (u6_1) ≤ (n7) ∧ (n7) ≤ 65536 by omega) (show 0 ≤ (u2_1) ∧ (u2_1) ≤ (n4) ∧ (n4) ≤ 65536 by omega) (fun σ14 D14' N14' F14' A14' c14 s14 H' O' hD14 hN14 hS14 hA14 pm14_2 m14_2 em14_2 y14_0_1 ey14_0_1 y14_0_2 ey14_0_2 w14_2 ew14_2 pz14_0 pz14_1 pz14_2 pz14_3 => ⟨rfl, ?_⟩))
  refine v_backM (c := c) (s := s) H (show vsub V193_Row_Row V158_Row [6, 2, 7, 4] = true by decide +kernel) H' O' hD14 (show vmov V193_Row_Row [6, 2, 7, 4] [2] = true by decide +kernel) (fun D14 N14 F14 A14 H O' eD14 eN14 eF14 eA14 => ?_)
  have O := OUT_trans O O'
  -- Row.become
  have pf14_0_0 : F14 0 0 = (D14 8 : Int) := ((show F14 0 0 = F 0 0 from (eF14 0 0))).trans ((pf8).trans (congrArg (fun q : Nat => (q : Int)) ((show D14 8 = D 8 from (eD14 8))).symm))
  have pf14_0_1 : F14 0 1 = (D14 5 : Int) := ((show F14 0 1 = F 0 1 from (eF14 0 1))).trans ((pf5).trans (congrArg (fun q : Nat => (q : Int)) ((show D14 5 = D 5 from (eD14 5))).symm))
  have pf14_1_0 : F14 1 0 = (D14 3 : Int) := ((show F14 1 0 = F 1 0 from (eF14 1 0))).trans ((pf3).trans (congrArg (fun q : Nat => (q : Int)) ((show D14 3 = D 3 from (eD14 3))).symm))
  have pf14_2_0 : F14 2 0 = (D14 4 : Int) := ((show F14 2 0 = F 2 0 from (eF14 2 0).trans (hS14 1 0 rfl))).trans ((pf4).trans (congrArg (fun q : Nat => (q : Int)) ((show D14 4 = D 4 from (eD14 4).trans (hD14 3 rfl))).symm))
  have pf14_5_0 : F14 5 0 = (D14 6 : Int) := ((show F14 5 0 = F 5 0 from (eF14 5 0))).trans ((pf6).trans (congrArg (fun q : Nat => (q : Int)) ((show D14 6 = D 6 from (eD14 6).trans (hD14 0 rfl))).symm))
  have pf14_5_1 : F14 5 1 = (D14 11 : Int) := ((show F14 5 1 = F 5 1 from (eF14 5 1))).trans ((pf11).trans (congrArg (fun q : Nat => (q : Int)) ((show D14 11 = D 11 from (eD14 11))).symm))
  have pf14_5_2 : F14 5 2 = (D14 12 : Int) := ((show F14 5 2 = F 5 2 from (eF14 5 2))).trans ((pf12).trans (congrArg (fun q : Nat => (q : Int)) ((show D14 12 = D 12 from (eD14 12))).symm))
  have pf14_5_3 : F14 5 3 = (D14 13 : Int) := ((show F14 5 3 = F 5 3 from (eF14 5 3))).trans ((pf13).trans (congrArg (fun q : Nat => (q : Int)) ((show D14 13 = D 13 from (eD14 13))).symm))
  have pf14_5_7 : F14 5 7 = (D14 9 : Int) := ((show F14 5 7 = F 5 7 from (eF14 5 7))).trans ((pf9).trans (congrArg (fun q : Nat => (q : Int)) ((show D14 9 = D 9 from (eD14 9))).symm))
  have pf14_5_8 : F14 5 8 = (D14 10 : Int) := ((show F14 5 8 = F 5 8 from (eF14 5 8))).trans ((pf10).trans (congrArg (fun q : Nat => (q : Int)) ((show D14 10 = D 10 from (eD14 10))).symm))
  have pf14_6_0 : F14 6 0 = (D14 7 : Int) := (eF14 6 0).trans (pm14_2.trans (congrArg (fun q : Nat => (q : Int)) (eD14 7).symm))
  have r15 : (0 : Int) ≤ m14_2 ∧ m14_2 ≤ 1000000 := by have h1 := H.nle 7 (by decide); have h2 : (N14 7 : Int) = m14_2 := (congrArg (fun q : Nat => (q : Int)) (eN14 7)).trans em14_2; omega
  have r16 : (-2147483648 : Int) ≤ y14_0_1 ∧ y14_0_1 ≤ 2147483647 := by have h1 : (-2147483648 : Int) ≤ F14 6 1 ∧ F14 6 1 ≤ 2147483647 := H.krg 6 1 (by decide); rw [show F14 6 1 = y14_0_1 from ((eF14 6 1).trans ey14_0_1)] at h1; exact h1
  have r17 : (0 : Int) ≤ y14_0_2 ∧ y14_0_2 ≤ 1 := by have h1 : (0 : Int) ≤ F14 6 2 ∧ F14 6 2 ≤ 1 := H.krg 6 2 (by decide); rw [show F14 6 2 = y14_0_2 from ((eF14 6 2).trans ey14_0_2)] at h1; exact h1
  refine Ew_of (pc' := 12) (fun _ => x_aload_n rfl rfl) ?_
  refine Ew_stk (show ([.ref (D 0)] : List Value) = [.ref (D14 0)] by rw [show D14 0 = D 0 from ((show D14 0 = D 0 from (eD14 0)))]) ?_
  refine v_g H (o := 0) (v := .ref (D14 5)) rfl rfl rfl rfl rfl (vrf (pf14_0_1)) ?_
  refine Ew_of (pc' := 16) (fun _ => x_aload_n rfl rfl) ?_
  refine Ew_stk (show ([.ref (D 0), .ref (D14 5)] : List Value) = [.ref (D14 0), .ref (D14 5)] by rw [show D14 0 = D 0 from ((show D14 0 = D 0 from (eD14 0)))]) ?_
  refine v_g H (o := 0) (v := .ref (D14 8)) rfl rfl rfl rfl rfl (vrf (pf14_0_0)) ?_
  refine Ew_of (pc' := 20) (fun _ => x_iconst rfl) ?_
  refine v_lI H (o := 8) rfl rfl rfl rfl (n := n8) ((congrArg (fun q : Nat => (q : Int)) (show N14 8 = N 8 from (eN14 8))).trans (en8)) (show 0 ≤ 0 ∧ 0 < n8 by omega) (fun v18 ev18 qv18 => ?_)
  have ev18 : (A 8) (0) = v18 := (congrFun ((show A14 8 = A 8 from (eA14 8))) (0)).symm.trans ev18
  refine Ew_of (pc' := 22) (fun _ => x_iconst rfl) ?_
  refine Ew_of (pc' := 24) (fun _ => x_ldc (z := 65535) rfl (by decide)) ?_
  have r19 : (-2147483648 : Int) ≤ F 5 6 ∧ F 5 6 ≤ 2147483647 := by have h1 : (-2147483648 : Int) ≤ F14 5 6 ∧ F14 5 6 ≤ 2147483647 := H.krg 5 6 (by decide); rw [show F14 5 6 = F 5 6 from ((show F14 5 6 = F 5 6 from (eF14 5 6)))] at h1; exact h1
  have r20 : (-2147483648 : Int) ≤ F 5 9 ∧ F 5 9 ≤ 2147483647 := by have h1 : (-2147483648 : Int) ≤ F14 5 9 ∧ F14 5 9 ≤ 2147483647 := H.krg 5 9 (by decide); rw [show F14 5 9 = F 5 9 from ((show F14 5 9 = F 5 9 from (eF14 5 9)))] at h1; exact h1
  have r21 : (-2147483648 : Int) ≤ F 5 10 ∧ F 5 10 ≤ 2147483647 := by have h1 : (-2147483648 : Int) ≤ F14 5 10 ∧ F14 5 10 ≤ 2147483647 := H.krg 5 10 (by decide); rw [show F14 5 10 = F 5 10 from ((show F14 5 10 = F 5 10 from (eF14 5 10)))] at h1; exact h1
  have r22 : (-2147483648 : Int) ≤ F 5 11 ∧ F 5 11 ≤ 2147483647 := by have h1 : (-2147483648 : Int) ≤ F14 5 11 ∧ F14 5 11 ≤ 2147483647 := H.krg 5 11 (by decide); rw [show F14 5 11 = F 5 11 from ((show F14 5 11 = F 5 11 from (eF14 5 11)))] at h1; exact h1
  refine v_inv H (o := 5) rfl rfl rfl rfl rfl rfl (by rfl) (C121 (D := pul [5, 9] D14) (N := pul [5, 9] N14) (HW_sub H (VS_of (show vsub V193_Row_Row V121 [5, 9] = true by decide +kernel))) (pf14_5_7) (n9) ((congrArg (fun q : Nat => (q : Int)) (show N14 9 = N 9 from (eN14 9))).trans (en9)) (F 5 6) (((show F14 5 6 = F 5 6 from (eF14 5 6)))) (F 5 9) (((show F14 5 9 = F 5 9 from (eF14 5 9)))) (F 5 10) (((show F14 5 10 = F 5 10 from (eF14 5 10)))) (F 5 11) (((show F14 5 11 = F 5 11 from (eF14 5 11)))) (A 9) ((show A14 9 = A 9 from (eA14 9))) (show inr (v18) by omega) (show inr (4) by omega) (show inr (65535) by omega) (show (n9) = 0 ∨ (n9) = 2048 by omega) (fun σ23 D23' N23' F23' A23' c23 s23 H' O' hD23 hN23 hS23 hA23 pm23_1 m23_1 em23_1 y23_0_6 ey23_0_6 y23_0_9 ey23_0_9 y23_0_10 ey23_0_10 y23_0_11 ey23_0_11 w23_1 ew23_1 pz23_0 pz23_1 pz23_2 pz23_3 => ⟨rfl, ?_⟩))
  refine v_backM (c := (c + c14)) (s := (s + s14)) H (show vsub V193_Row_Row V121 [5, 9] = true by decide +kernel) H' O' hD23 (show vmov V193_Row_Row [5, 9] [1] = true by decide +kernel) (fun D23 N23 F23 A23 H O' eD23 eN23 eF23 eA23 => ?_)
  have O := OUT_trans O O'
  -- Finder.begin
  have pf23_0_0 : F23 0 0 = (D23 8 : Int) := ((show F23 0 0 = F14 0 0 from (eF23 0 0))).trans ((pf14_0_0).trans (congrArg (fun q : Nat => (q : Int)) ((show D23 8 = D14 8 from (eD23 8))).symm))
  have pf23_0_1 : F23 0 1 = (D23 5 : Int) := ((show F23 0 1 = F14 0 1 from (eF23 0 1))).trans ((pf14_0_1).trans (congrArg (fun q : Nat => (q : Int)) ((show D23 5 = D14 5 from (eD23 5).trans (hD23 0 rfl))).symm))
  have pf23_1_0 : F23 1 0 = (D23 3 : Int) := ((show F23 1 0 = F14 1 0 from (eF23 1 0))).trans ((pf14_1_0).trans (congrArg (fun q : Nat => (q : Int)) ((show D23 3 = D14 3 from (eD23 3))).symm))
  have pf23_2_0 : F23 2 0 = (D23 4 : Int) := ((show F23 2 0 = F14 2 0 from (eF23 2 0))).trans ((pf14_2_0).trans (congrArg (fun q : Nat => (q : Int)) ((show D23 4 = D14 4 from (eD23 4))).symm))
  have pf23_5_0 : F23 5 0 = (D23 6 : Int) := ((show F23 5 0 = F14 5 0 from (eF23 5 0).trans (hS23 0 0 rfl))).trans ((pf14_5_0).trans (congrArg (fun q : Nat => (q : Int)) ((show D23 6 = D14 6 from (eD23 6))).symm))
  have pf23_5_1 : F23 5 1 = (D23 11 : Int) := ((show F23 5 1 = F14 5 1 from (eF23 5 1).trans (hS23 0 1 rfl))).trans ((pf14_5_1).trans (congrArg (fun q : Nat => (q : Int)) ((show D23 11 = D14 11 from (eD23 11))).symm))
  have pf23_5_2 : F23 5 2 = (D23 12 : Int) := ((show F23 5 2 = F14 5 2 from (eF23 5 2).trans (hS23 0 2 rfl))).trans ((pf14_5_2).trans (congrArg (fun q : Nat => (q : Int)) ((show D23 12 = D14 12 from (eD23 12))).symm))
  have pf23_5_3 : F23 5 3 = (D23 13 : Int) := ((show F23 5 3 = F14 5 3 from (eF23 5 3).trans (hS23 0 3 rfl))).trans ((pf14_5_3).trans (congrArg (fun q : Nat => (q : Int)) ((show D23 13 = D14 13 from (eD23 13))).symm))
  have pf23_5_7 : F23 5 7 = (D23 9 : Int) := (eF23 5 7).trans (pm23_1.trans (congrArg (fun q : Nat => (q : Int)) (eD23 9).symm))
  have pf23_5_8 : F23 5 8 = (D23 10 : Int) := ((show F23 5 8 = F14 5 8 from (eF23 5 8).trans (hS23 0 8 rfl))).trans ((pf14_5_8).trans (congrArg (fun q : Nat => (q : Int)) ((show D23 10 = D14 10 from (eD23 10))).symm))
  have pf23_6_0 : F23 6 0 = (D23 7 : Int) := ((show F23 6 0 = F14 6 0 from (eF23 6 0))).trans ((pf14_6_0).trans (congrArg (fun q : Nat => (q : Int)) ((show D23 7 = D14 7 from (eD23 7))).symm))
  have r24 : (0 : Int) ≤ m23_1 ∧ m23_1 ≤ 1000000 := by have h1 := H.nle 9 (by decide); have h2 : (N23 9 : Int) = m23_1 := (congrArg (fun q : Nat => (q : Int)) (eN23 9)).trans em23_1; omega
  have r25 : (-2147483648 : Int) ≤ y23_0_6 ∧ y23_0_6 ≤ 2147483647 := by have h1 : (-2147483648 : Int) ≤ F23 5 6 ∧ F23 5 6 ≤ 2147483647 := H.krg 5 6 (by decide); rw [show F23 5 6 = y23_0_6 from ((eF23 5 6).trans ey23_0_6)] at h1; exact h1
  have r26 : (-2147483648 : Int) ≤ y23_0_9 ∧ y23_0_9 ≤ 2147483647 := by have h1 : (-2147483648 : Int) ≤ F23 5 9 ∧ F23 5 9 ≤ 2147483647 := H.krg 5 9 (by decide); rw [show F23 5 9 = y23_0_9 from ((eF23 5 9).trans ey23_0_9)] at h1; exact h1
  have r27 : (-2147483648 : Int) ≤ y23_0_10 ∧ y23_0_10 ≤ 2147483647 := by have h1 : (-2147483648 : Int) ≤ F23 5 10 ∧ F23 5 10 ≤ 2147483647 := H.krg 5 10 (by decide); rw [show F23 5 10 = y23_0_10 from ((eF23 5 10).trans ey23_0_10)] at h1; exact h1
  have r28 : (-2147483648 : Int) ≤ y23_0_11 ∧ y23_0_11 ≤ 2147483647 := by have h1 : (-2147483648 : Int) ≤ F23 5 11 ∧ F23 5 11 ≤ 2147483647 := H.krg 5 11 (by decide); rw [show F23 5 11 = y23_0_11 from ((eF23 5 11).trans ey23_0_11)] at h1; exact h1
  have hb0 : BKI ((w14_2)) ((A 10)) ((y23_0_10)) ((y23_0_6)) := by rw [pz23_1]; exact BKI_0
  have hh0 : HDI ((w14_2)) ((w23_1)) ((y23_0_10)) ((y23_0_6)) := by rw [pz23_1]; exact HDI_0 pz23_3
  refine Ew_of (pc' := 28) (fun _ => x_aload_n rfl rfl) ?_
  refine Ew_of (pc' := 29) (fun _ => x_aload_n rfl rfl) ?_
  refine Ew_stk (show ([.ref (D 1), .ref (D 0)] : List Value) = [.ref (D23 1), .ref (D23 0)] by rw [show D23 0 = D 0 from (((show D23 0 = D14 0 from (eD23 0))).trans ((show D14 0 = D 0 from (eD14 0)))), show D23 1 = D 1 from (((show D23 1 = D14 1 from (eD23 1))).trans ((show D14 1 = D 1 from (eD14 1))))]) ?_
  have r29 : (0 : Int) ≤ F 1 2 ∧ F 1 2 ≤ 1 := by have h1 : (0 : Int) ≤ F23 1 2 ∧ F23 1 2 ≤ 1 := H.krg 1 2 (by decide); rw [show F23 1 2 = F 1 2 from (((show F23 1 2 = F14 1 2 from (eF23 1 2))).trans ((show F14 1 2 = F 1 2 from (eF14 1 2))))] at h1; exact h1
  refine v_inv H (o := 0) rfl rfl rfl rfl rfl rfl (by rfl) (C194_Row (D := pul [0, 1, 3, 5, 6, 7, 10, 9, 11, 12, 13] D23) (N := pul [0, 1, 3, 5, 6, 7, 10, 9, 11, 12, 13] N23) (HW_sub H (VS_of (show vsub V193_Row_Row V194_Row [0, 1, 3, 5, 6, 7, 10, 9, 11, 12, 13] = true by decide +kernel))) (pf23_1_0) (pf23_0_1) (pf23_5_0) (pf23_6_0) (pf23_5_8) (pf23_5_7) (pf23_5_1) (pf23_5_2) (pf23_5_3) (n3) ((congrArg (fun q : Nat => (q : Int)) (show N23 3 = N14 3 from (eN23 3))).trans ((congrArg (fun q : Nat => (q : Int)) (show N14 3 = N 3 from (eN14 3))).trans (en3))) (m14_2) ((congrArg (fun q : Nat => (q : Int)) (show N23 7 = N14 7 from (eN23 7))).trans ((congrArg (fun q : Nat => (q : Int)) (eN14 7)).trans em14_2)) (n10) ((congrArg (fun q : Nat => (q : Int)) (show N23 10 = N14 10 from (eN23 10))).trans ((congrArg (fun q : Nat => (q : Int)) (show N14 10 = N 10 from (eN14 10))).trans (en10))) (m23_1) ((congrArg (fun q : Nat => (q : Int)) (eN23 9)).trans em23_1) (n11) ((congrArg (fun q : Nat => (q : Int)) (show N23 11 = N14 11 from (eN23 11))).trans ((congrArg (fun q : Nat => (q : Int)) (show N14 11 = N 11 from (eN14 11))).trans (en11))) (n12) ((congrArg (fun q : Nat => (q : Int)) (show N23 12 = N14 12 from (eN23 12))).trans ((congrArg (fun q : Nat => (q : Int)) (show N14 12 = N 12 from (eN14 12))).trans (en12))) (n13) ((congrArg (fun q : Nat => (q : Int)) (show N23 13 = N14 13 from (eN23 13))).trans ((congrArg (fun q : Nat => (q : Int)) (show N14 13 = N 13 from (eN14 13))).trans (en13))) (u1_1) (((((show F23 1 1 = F14 1 1 from (eF23 1 1))).trans ((show F14 1 1 = F 1 1 from (eF14 1 1)))).trans (eu1_1))) (F 1 2) ((((show F23 1 2 = F14 1 2 from (eF23 1 2))).trans ((show F14 1 2 = F 1 2 from (eF14 1 2))))) (y23_0_6) (((eF23 5 6).trans ey23_0_6)) (y23_0_9) (((eF23 5 9).trans ey23_0_9)) (y23_0_10) (((eF23 5 10).trans ey23_0_10)) (y23_0_11) (((eF23 5 11).trans ey23_0_11)) (y14_0_1) ((((show F23 6 1 = F14 6 1 from (eF23 6 1))).trans ((eF14 6 1).trans ey14_0_1))) (A 3) (((show A23 3 = A14 3 from (eA23 3))).trans ((show A14 3 = A 3 from (eA14 3)))) (w14_2) (((show A23 7 = A14 7 from (eA23 7))).trans ((eA14 7).trans ew14_2)) (A 10) (((show A23 10 = A14 10 from (eA23 10))).trans ((show A14 10 = A 10 from (eA14 10)))) (w23_1) ((eA23 9).trans ew23_1) (show 0 ≤ (u1_1) ∧ (u1_1) ≤ (n3) ∧ (n3) ≤ 65536 by omega) (show 0 ≤ (y14_0_1) ∧ (y14_0_1) ≤ (m14_2) ∧ (m14_2) ≤ 65536 ∧ (y14_0_1) ≤ 16384 by omega) (show (y23_0_10) = 4 by omega) (show BKI ((w14_2)) ((A 10)) ((y23_0_10)) ((y23_0_6)) by assumption) (show HDI ((w14_2)) ((w23_1)) ((y23_0_10)) ((y23_0_6)) by assumption) (show (n11) = (n12) ∧ (n13) = (n12) ∧ (n12) ≤ 65536 ∧ ((n12) = 0 ∨ 64 ≤ (n12)) ∧ lgq ((n12)) = 0 by omega) (show (m23_1) = 2048 by omega) (show 0 ≤ (y23_0_6) ∧ (y23_0_6) ≤ (n10) ∧ (n10) ≤ 16384 by omega) (show (y23_0_11) = 65535 by omega) (fun σ30 D30' N30' F30' A30' c30 s30 H' O' hD30 hN30 hS30 hA30 pm30_2 pm30_6 pm30_8 pm30_9 pm30_10 m30_2 em30_2 m30_6 em30_6 m30_8 em30_8 m30_9 em30_9 m30_10 em30_10 y30_1_1 ey30_1_1 y30_1_2 ey30_1_2 y30_3_6 ey30_3_6 w30_2 ew30_2 w30_6 ew30_6 w30_7 ew30_7 pz30_0 pz30_1 pz30_2 pz30_3 pz30_4 pz30_5 pz30_6 => ⟨rfl, ?_⟩))
  refine v_backM (c := ((c + c14) + c23)) (s := ((s + s14) + s23)) H (show vsub V193_Row_Row V194_Row [0, 1, 3, 5, 6, 7, 10, 9, 11, 12, 13] = true by decide +kernel) H' O' hD30 (show vmov V193_Row_Row [0, 1, 3, 5, 6, 7, 10, 9, 11, 12, 13] [2, 6, 8, 9, 10] = true by decide +kernel) (fun D30 N30 F30 A30 H O' eD30 eN30 eF30 eA30 => ?_)
  have O := OUT_trans O O'
  -- Tags.packBlock
  have pf30_0_0 : F30 0 0 = (D30 8 : Int) := ((show F30 0 0 = F23 0 0 from (eF30 0 0).trans (hS30 0 0 rfl))).trans ((pf23_0_0).trans (congrArg (fun q : Nat => (q : Int)) ((show D30 8 = D23 8 from (eD30 8))).symm))
  have pf30_0_1 : F30 0 1 = (D30 5 : Int) := ((show F30 0 1 = F23 0 1 from (eF30 0 1).trans (hS30 0 1 rfl))).trans ((pf23_0_1).trans (congrArg (fun q : Nat => (q : Int)) ((show D30 5 = D23 5 from (eD30 5).trans (hD30 3 rfl))).symm))
  have pf30_1_0 : F30 1 0 = (D30 3 : Int) := (eF30 1 0).trans (pm30_2.trans (congrArg (fun q : Nat => (q : Int)) (eD30 3).symm))
  have pf30_2_0 : F30 2 0 = (D30 4 : Int) := ((show F30 2 0 = F23 2 0 from (eF30 2 0))).trans ((pf23_2_0).trans (congrArg (fun q : Nat => (q : Int)) ((show D30 4 = D23 4 from (eD30 4))).symm))
  have pf30_5_0 : F30 5 0 = (D30 6 : Int) := ((show F30 5 0 = F23 5 0 from (eF30 5 0).trans (hS30 3 0 rfl))).trans ((pf23_5_0).trans (congrArg (fun q : Nat => (q : Int)) ((show D30 6 = D23 6 from (eD30 6).trans (hD30 4 rfl))).symm))
  have pf30_5_1 : F30 5 1 = (D30 11 : Int) := (eF30 5 1).trans (pm30_8.trans (congrArg (fun q : Nat => (q : Int)) (eD30 11).symm))
  have pf30_5_2 : F30 5 2 = (D30 12 : Int) := (eF30 5 2).trans (pm30_9.trans (congrArg (fun q : Nat => (q : Int)) (eD30 12).symm))
  have pf30_5_3 : F30 5 3 = (D30 13 : Int) := (eF30 5 3).trans (pm30_10.trans (congrArg (fun q : Nat => (q : Int)) (eD30 13).symm))
  have pf30_5_7 : F30 5 7 = (D30 9 : Int) := ((show F30 5 7 = F23 5 7 from (eF30 5 7).trans (hS30 3 7 rfl))).trans ((pf23_5_7).trans (congrArg (fun q : Nat => (q : Int)) ((show D30 9 = D23 9 from (eD30 9).trans (hD30 7 rfl))).symm))
  have pf30_5_8 : F30 5 8 = (D30 10 : Int) := (eF30 5 8).trans (pm30_6.trans (congrArg (fun q : Nat => (q : Int)) (eD30 10).symm))
  have pf30_6_0 : F30 6 0 = (D30 7 : Int) := ((show F30 6 0 = F23 6 0 from (eF30 6 0).trans (hS30 4 0 rfl))).trans ((pf23_6_0).trans (congrArg (fun q : Nat => (q : Int)) ((show D30 7 = D23 7 from (eD30 7).trans (hD30 5 rfl))).symm))
  have r31 : (0 : Int) ≤ m30_2 ∧ m30_2 ≤ 1000000 := by have h1 := H.nle 3 (by decide); have h2 : (N30 3 : Int) = m30_2 := (congrArg (fun q : Nat => (q : Int)) (eN30 3)).trans em30_2; omega
  have r32 : (0 : Int) ≤ m30_6 ∧ m30_6 ≤ 1000000 := by have h1 := H.nle 10 (by decide); have h2 : (N30 10 : Int) = m30_6 := (congrArg (fun q : Nat => (q : Int)) (eN30 10)).trans em30_6; omega
  have r33 : (0 : Int) ≤ m30_8 ∧ m30_8 ≤ 1000000 := by have h1 := H.nle 11 (by decide); have h2 : (N30 11 : Int) = m30_8 := (congrArg (fun q : Nat => (q : Int)) (eN30 11)).trans em30_8; omega
  have r34 : (0 : Int) ≤ m30_9 ∧ m30_9 ≤ 1000000 := by have h1 := H.nle 12 (by decide); have h2 : (N30 12 : Int) = m30_9 := (congrArg (fun q : Nat => (q : Int)) (eN30 12)).trans em30_9; omega
  have r35 : (0 : Int) ≤ m30_10 ∧ m30_10 ≤ 1000000 := by have h1 := H.nle 13 (by decide); have h2 : (N30 13 : Int) = m30_10 := (congrArg (fun q : Nat => (q : Int)) (eN30 13)).trans em30_10; omega
  have r36 : (-2147483648 : Int) ≤ y30_1_1 ∧ y30_1_1 ≤ 2147483647 := by have h1 : (-2147483648 : Int) ≤ F30 1 1 ∧ F30 1 1 ≤ 2147483647 := H.krg 1 1 (by decide); rw [show F30 1 1 = y30_1_1 from ((eF30 1 1).trans ey30_1_1)] at h1; exact h1
  have r37 : (0 : Int) ≤ y30_1_2 ∧ y30_1_2 ≤ 1 := by have h1 : (0 : Int) ≤ F30 1 2 ∧ F30 1 2 ≤ 1 := H.krg 1 2 (by decide); rw [show F30 1 2 = y30_1_2 from ((eF30 1 2).trans ey30_1_2)] at h1; exact h1
  have r38 : (-2147483648 : Int) ≤ y30_3_6 ∧ y30_3_6 ≤ 2147483647 := by have h1 : (-2147483648 : Int) ≤ F30 5 6 ∧ F30 5 6 ≤ 2147483647 := H.krg 5 6 (by decide); rw [show F30 5 6 = y30_3_6 from ((eF30 5 6).trans ey30_3_6)] at h1; exact h1
  exact w_ret rfl (k _ _ _ _ _ _ _ H O (SD_trans (SD_trans (SD_trans (SD_refl) (SD_glu (ι := [6, 2, 7, 4]) hD14 eD14 (by decide +kernel)) (any_subA (l' := [7]) rfl)) (SD_glu (ι := [5, 9]) hD23 eD23 (by decide +kernel)) (any_subA (l' := [9]) rfl)) (SD_glu (ι := [0, 1, 3, 5, 6, 7, 10, 9, 11, 12, 13]) hD30 eD30 (by decide +kernel)) (any_subA (l' := [3, 10, 11, 12, 13]) rfl)) (SD_trans (SD_trans (SD_trans (SD_refl) (SD_glu (ι := [6, 2, 7, 4]) hN14 eN14 (by decide +kernel)) (any_subA (l' := [7]) rfl)) (SD_glu (ι := [5, 9]) hN23 eN23 (by decide +kernel)) (any_subA (l' := [9]) rfl)) (SD_glu (ι := [0, 1, 3, 5, 6, 7, 10, 9, 11, 12, 13]) hN30 eN30 (by decide +kernel)) (any_subA (l' := [3, 10, 11, 12, 13]) rfl)) (SF_trans (SF_trans (SF_trans (SF_refl) (SF_glu (ι := [6, 2, 7, 4]) hS14 eF14 (by decide +kernel)) (any_sub (l' := [(6, 0), (6, 1), (6, 2), (6, 3), (6, 4)]) rfl)) (SF_glu (ι := [5, 9]) hS23 eF23 (by decide +kernel)) (any_sub (l' := [(5, 6), (5, 7), (5, 9), (5, 10), (5, 11)]) rfl)) (SF_glu (ι := [0, 1, 3, 5, 6, 7, 10, 9, 11, 12, 13]) hS30 eF30 (by decide +kernel)) (any_sub (l' := [(1, 0), (1, 1), (1, 2), (5, 1), (5, 2), (5, 3), (5, 4), (5, 5), (5, 6), (5, 8), (5, 12), (5, 13), (5, 14), (5, 15), (5, 16), (5, 17), (5, 18)]) rfl)) (SA_trans (SA_trans (SA_trans (SA_refl) (SA_glu (ι := [6, 2, 7, 4]) hA14 eA14 (by decide +kernel)) (any_subA (l' := [7]) rfl)) (SA_glu (ι := [5, 9]) hA23 eA23 (by decide +kernel)) (any_subA (l' := [9]) rfl)) (SA_glu (ι := [0, 1, 3, 5, 6, 7, 10, 9, 11, 12, 13]) hA30 eA30 (by decide +kernel)) (any_subA (l' := [3, 9, 10, 11, 12, 13]) rfl)) (pf30_1_0) (pf30_6_0) (pf30_5_7) (pf30_5_8) (pf30_5_1) (pf30_5_2) (pf30_5_3) (m30_2) ((congrArg (fun q : Nat => (q : Int)) (eN30 3)).trans em30_2) (m14_2) ((congrArg (fun q : Nat => (q : Int)) (show N30 7 = N23 7 from (eN30 7).trans (hN30 5 rfl))).trans ((congrArg (fun q : Nat => (q : Int)) (show N23 7 = N14 7 from (eN23 7))).trans ((congrArg (fun q : Nat => (q : Int)) (eN14 7)).trans em14_2))) (m23_1) ((congrArg (fun q : Nat => (q : Int)) (show N30 9 = N23 9 from (eN30 9).trans (hN30 7 rfl))).trans ((congrArg (fun q : Nat => (q : Int)) (eN23 9)).trans em23_1)) (m30_6) ((congrArg (fun q : Nat => (q : Int)) (eN30 10)).trans em30_6) (m30_8) ((congrArg (fun q : Nat => (q : Int)) (eN30 11)).trans em30_8) (m30_9) ((congrArg (fun q : Nat => (q : Int)) (eN30 12)).trans em30_9) (m30_10) ((congrArg (fun q : Nat => (q : Int)) (eN30 13)).trans em30_10) (y30_1_1) (((eF30 1 1).trans ey30_1_1)) (y14_0_1) (((((show F30 6 1 = F23 6 1 from (eF30 6 1).trans (hS30 4 1 rfl))).trans ((show F23 6 1 = F14 6 1 from (eF23 6 1)))).trans ((eF14 6 1).trans ey14_0_1))) (show 0 ≤ (y30_1_1) ∧ (y30_1_1) ≤ (m30_2) ∧ (m30_2) ≤ 65536 by omega) (show 0 ≤ (y14_0_1) ∧ (y14_0_1) ≤ (m14_2) ∧ (m14_2) ≤ 65536 by omega) (show (m23_1) = 0 ∨ (m23_1) = 2048 by omega) (show (m30_6) ≤ 16384 by omega) (show (m30_8) = (m30_9) ∧ (m30_10) = (m30_9) ∧ (m30_9) ≤ 65536 ∧ ((m30_9) = 0 ∨ 64 ≤ (m30_9)) ∧ lgq ((m30_9)) = 0 by omega))
abbrev V202_Row_Row : vV := [(0, 10, [(4, 0), (4, 0), (4, 0), (4, 0), (0, 0), (4, 0), (0, 0), (2, 0), (0, 0)]), (0, 7, [(4, 0), (0, 0), (1, 0), (0, 0), (0, 0)]), (0, 7, [(4, 0), (0, 0), (1, 0), (0, 0), (0, 0)]), (1, 0, []), (1, 0, []), (0, 5, [(4, 0), (4, 0), (4, 0), (4, 0), (0, 0), (0, 0), (0, 0), (4, 0), (4, 0), (0, 0), (0, 0), (0, 0), (0, 0), (0, 0), (0, 0), (0, 0), (0, 0), (0, 0), (0, 0)]), (0, 7, [(4, 0), (0, 0), (1, 0), (0, 0), (0, 0)]), (1, 0, [])]
/-- Tags.addChunk: this, #1, #2, #1.bytes, #2.bytes, this.finder, this.finder.data, this.finder.data.bytes -/
theorem C202_Row_Row {σE : rS} {D N : Nat → Nat} {F : hF} {A : hA} {d c s : Nat} {Q : wQ} (H : HW V202_Row_Row σE D N F A) (HT : STC σE) {a3 : Int} (pf3 : F 1 0 = (D 3 : Int)) (pf4 : F 2 0 = (D 4 : Int)) (pf5 : F 0 1 = (D 5 : Int)) (pf6 : F 5 0 = (D 6 : Int)) (pf7 : F 6 0 = (D 7 : Int)) (n3 : Int) (en3 : (N 3 : Int) = n3) (n4 : Int) (en4 : (N 4 : Int) = n4) (n7 : Int) (en7 : (N 7 : Int) = n7) (u1_1 : Int) (eu1_1 : F 1 1 = u1_1) (u2_1 : Int) (eu2_1 : F 2 1 = u2_1) (u6_1 : Int) (eu6_1 : F 6 1 = u6_1) (h0 : inr (a3)) (h1 : 0 ≤ (u1_1) ∧ (u1_1) ≤ (n3) ∧ (n3) ≤ 65536) (h2 : 0 ≤ (u2_1) ∧ (u2_1) ≤ (n4) ∧ (n4) ≤ 65536) (h3 : 0 ≤ (u6_1) ∧ (u6_1) ≤ (n7) ∧ (n7) ≤ 65536) (k : ∀ (σ : rS) (D' N' : Nat → Nat) (F' : hF) (A' : hA) (c' s' : Nat), HW V202_Row_Row σ D' N' F' A' → OUT (V202_Row_Row).length D N σE c s D' N' σ c' s' → SD [3] D D' → SD [3] N N' → SF [(1, 0), (1, 1), (1, 2)] F F' → SA [3] A A' → F' 1 0 = (D' 3 : Int) → ∀ m3 : Int, (N' 3 : Int) = m3 → ∀ y1_1 : Int, F' 1 1 = y1_1 → (0 ≤ (y1_1) ∧ (y1_1) ≤ (m3) ∧ (m3) ≤ 65536) → Q none σ c' s') : Ew 202 (d + 3) 0 (rargs 0 [.ref (D 0), .ref (D 1), .ref (D 2), I a3]) [] σE c s Q := by
  have O := OUT_refl (n := (V202_Row_Row).length) (D := D) (N := N) (σ := σE) (c := c) (s := s)
  have HE := H
  have r1 : (-2147483648 : Int) ≤ u1_1 ∧ u1_1 ≤ 2147483647 := by have h1 : (-2147483648 : Int) ≤ F 1 1 ∧ F 1 1 ≤ 2147483647 := H.krg 1 1 (by decide); rw [show F 1 1 = u1_1 from (eu1_1)] at h1; exact h1
  have r2 : (-2147483648 : Int) ≤ u2_1 ∧ u2_1 ≤ 2147483647 := by have h1 : (-2147483648 : Int) ≤ F 2 1 ∧ F 2 1 ≤ 2147483647 := H.krg 2 1 (by decide); rw [show F 2 1 = u2_1 from (eu2_1)] at h1; exact h1
  have r3 : (-2147483648 : Int) ≤ u6_1 ∧ u6_1 ≤ 2147483647 := by have h1 : (-2147483648 : Int) ≤ F 6 1 ∧ F 6 1 ≤ 2147483647 := H.krg 6 1 (by decide); rw [show F 6 1 = u6_1 from (eu6_1)] at h1; exact h1
  have r4 : (0 : Int) ≤ n3 ∧ n3 ≤ 1000000 := by have h1 := H.nle 3 (by decide); have h2 : (N 3 : Int) = n3 := en3; omega
  have r5 : (0 : Int) ≤ n4 ∧ n4 ≤ 1000000 := by have h1 := H.nle 4 (by decide); have h2 : (N 4 : Int) = n4 := en4; omega
  have r6 : (0 : Int) ≤ n7 ∧ n7 ≤ 1000000 := by have h1 := H.nle 7 (by decide); have h2 : (N 7 : Int) = n7 := en7; omega
  refine Ew_of (pc' := 1) (fun _ => x_aload_n rfl rfl) ?_
  refine v_g H (o := 0) (v := .ref (D 5)) rfl rfl rfl rfl rfl (vrf (pf5)) ?_
  refine v_g H (o := 5) (v := .ref (D 6)) rfl rfl rfl rfl rfl (vrf (pf6)) ?_
  refine Ew_of (pc' := 9) (fun _ => x_astore rfl) ?_
  refine Ew_of (pc' := 10) (fun _ => x_aload_n rfl (rk_o (rfl) rfl rfl)) ?_
  refine Ew_of (pc' := 11) (fun _ => x_aload_n rfl (rk_o (rfl) rfl rfl)) ?_
  refine v_g H (o := 2) (v := I (u2_1)) rfl rfl rfl rfl rfl (congrArg (fun z : Int => I z) ((eu2_1) : F 2 1 = u2_1)) ?_
  refine Ew_of (pc' := 15) (fun _ => x_iconst rfl) ?_
  refine w_iadd rfl ?_
  refine Ew_of (pc' := 18) (fun _ => x_bipush (z := 8) rfl (by decide)) ?_
  refine w_ishlA rfl (fun z7 gz7 => ?_)
  refine Ew_of (pc' := 20) (fun _ => x_iload_n rfl (rk_o (rfl) rfl rfl)) ?_
  refine w_ior rfl (fun z8 gz8 => ?_)
  refine w_i2l rfl (show inr (z8) by omega) ?_
  refine Ew_of (pc' := 23) (fun _ => x_iconst rfl) ?_
  have r9 : (0 : Int) ≤ F 1 2 ∧ F 1 2 ≤ 1 := by have h1 : (0 : Int) ≤ F 1 2 ∧ F 1 2 ≤ 1 := H.krg 1 2 (by decide); rw [show F 1 2 = F 1 2 from rfl] at h1; exact h1
  refine v_inv H (o := 1) rfl rfl rfl rfl rfl rfl (by rfl) (C160 (D := pul [1, 3] D) (N := pul [1, 3] N) (HW_sub H (VS_of (show vsub V202_Row_Row V160 [1, 3] = true by decide +kernel))) (pf3) (n3) (en3) (u1_1) ((eu1_1)) (F 1 2) (rfl) (A 3) (rfl) (show inrJ (z8) by omega) (show inr (4) by omega) (show 0 ≤ (u1_1) ∧ (u1_1) ≤ (n3) ∧ (n3) ≤ 65536 by omega) (show 0 ≤ (4) ∧ (4) ≤ 8 by omega) (fun σ10 D10' N10' F10' A10' c10 s10 H' O' hD10 hN10 hS10 hA10 pm10_1 m10_1 em10_1 y10_0_1 ey10_0_1 y10_0_2 ey10_0_2 w10_1 ew10_1 pz10_0 pz10_1 pz10_2 => ⟨rfl, ?_⟩))
  refine v_backM (c := c) (s := s) H (show vsub V202_Row_Row V160 [1, 3] = true by decide +kernel) H' O' hD10 (show vmov V202_Row_Row [1, 3] [1] = true by decide +kernel) (fun D10 N10 F10 A10 H O' eD10 eN10 eF10 eA10 => ?_)
  have O := OUT_trans O O'
  -- Row.addNumber
  have pf10_0_1 : F10 0 1 = (D10 5 : Int) := ((show F10 0 1 = F 0 1 from (eF10 0 1))).trans ((pf5).trans (congrArg (fun q : Nat => (q : Int)) ((show D10 5 = D 5 from (eD10 5))).symm))
  have pf10_1_0 : F10 1 0 = (D10 3 : Int) := (eF10 1 0).trans (pm10_1.trans (congrArg (fun q : Nat => (q : Int)) (eD10 3).symm))
  have pf10_2_0 : F10 2 0 = (D10 4 : Int) := ((show F10 2 0 = F 2 0 from (eF10 2 0))).trans ((pf4).trans (congrArg (fun q : Nat => (q : Int)) ((show D10 4 = D 4 from (eD10 4))).symm))
  have pf10_5_0 : F10 5 0 = (D10 6 : Int) := ((show F10 5 0 = F 5 0 from (eF10 5 0))).trans ((pf6).trans (congrArg (fun q : Nat => (q : Int)) ((show D10 6 = D 6 from (eD10 6))).symm))
  have pf10_6_0 : F10 6 0 = (D10 7 : Int) := ((show F10 6 0 = F 6 0 from (eF10 6 0))).trans ((pf7).trans (congrArg (fun q : Nat => (q : Int)) ((show D10 7 = D 7 from (eD10 7))).symm))
  have r11 : (0 : Int) ≤ m10_1 ∧ m10_1 ≤ 1000000 := by have h1 := H.nle 3 (by decide); have h2 : (N10 3 : Int) = m10_1 := (congrArg (fun q : Nat => (q : Int)) (eN10 3)).trans em10_1; omega
  have r12 : (-2147483648 : Int) ≤ y10_0_1 ∧ y10_0_1 ≤ 2147483647 := by have h1 : (-2147483648 : Int) ≤ F10 1 1 ∧ F10 1 1 ≤ 2147483647 := H.krg 1 1 (by decide); rw [show F10 1 1 = y10_0_1 from ((eF10 1 1).trans ey10_0_1)] at h1; exact h1
  have r13 : (0 : Int) ≤ y10_0_2 ∧ y10_0_2 ≤ 1 := by have h1 : (0 : Int) ≤ F10 1 2 ∧ F10 1 2 ≤ 1 := H.krg 1 2 (by decide); rw [show F10 1 2 = y10_0_2 from ((eF10 1 2).trans ey10_0_2)] at h1; exact h1
  refine Ew_of (pc' := 27) (fun _ => x_aload_n rfl (rk_o (rfl) rfl rfl)) ?_
  refine Ew_of (pc' := 29) (fun _ => x_aload rfl rk_s) ?_
  refine Ew_stk (show ([.ref (D 6), .ref (D 1)] : List Value) = [.ref (D10 6), .ref (D10 1)] by rw [show D10 1 = D 1 from ((show D10 1 = D 1 from (eD10 1).trans (hD10 0 rfl))), show D10 6 = D 6 from ((show D10 6 = D 6 from (eD10 6)))]) ?_
  refine v_g H (o := 6) (v := .ref (D10 7)) rfl rfl rfl rfl rfl (vrf (pf10_6_0)) ?_
  refine Ew_of (pc' := 33) (fun _ => x_iconst rfl) ?_
  refine Ew_of (pc' := 35) (fun _ => x_aload rfl rk_s) ?_
  refine Ew_stk (show ([.ref (D 6), I (0), .ref (D10 7), .ref (D10 1)] : List Value) = [.ref (D10 6), I (0), .ref (D10 7), .ref (D10 1)] by rw [show D10 6 = D 6 from ((show D10 6 = D 6 from (eD10 6)))]) ?_
  refine v_g H (o := 6) (v := I (u6_1)) rfl rfl rfl rfl rfl (congrArg (fun z : Int => I z) ((((show F10 6 1 = F 6 1 from (eF10 6 1))).trans (eu6_1)) : F10 6 1 = u6_1)) ?_
  refine w_stat25 rfl rfl (by rfl) (C53_Br (D := pul [7] D10) (N := pul [7] N10) (HW_sub H (VS_of (show vsub V202_Row_Row V53_Br [7] = true by decide +kernel))) (STC_out HT HE O) (n7) ((congrArg (fun q : Nat => (q : Int)) (show N10 7 = N 7 from (eN10 7))).trans (en7)) (A 7) ((show A10 7 = A 7 from (eA10 7))) (show inr (0) by omega) (show inr (u6_1) by omega) (show 0 ≤ (0) ∧ (0) ≤ (u6_1) ∧ (u6_1) ≤ (n7) by omega) (fun z14 σ14 F14' A14' H' O' hS14 hA14 pz14_0 pz14_1 => ⟨rfl, ?_⟩))
  refine v_back (c := (c + c10)) (s := (s + s10)) H (show vsub V202_Row_Row V53_Br [7] = true by decide +kernel) H' O' (fun F14 A14 H O' eF14 eA14 => ?_)
  have O := OUT_trans O O'
  -- PackHouse.polynomialSum
  refine w_stat25 rfl rfl (by rfl) (C54 (D := pul [] D10) (N := pul [] N10) (HW_sub H (VS_of (show vsub V202_Row_Row V54 [] = true by decide +kernel))) (show inr (z14) by omega) (fun z15 σ15 F15' A15' H' O' hS15 hA15 pz15_0 pz15_1 => ⟨rfl, ?_⟩))
  refine v_back (c := (c + c10)) (s := (s + s10)) H (show vsub V202_Row_Row V54 [] = true by decide +kernel) H' O' (fun F15 A15 H O' eF15 eA15 => ?_)
  have O := OUT_trans O O'
  -- PackHouse.maskedSum
  refine w_i2l rfl (show inr (z15) by omega) ?_
  refine Ew_of (pc' := 46) (fun _ => x_iconst rfl) ?_
  refine v_inv H (o := 1) rfl rfl rfl rfl rfl rfl (by rfl) (C160 (D := pul [1, 3] D10) (N := pul [1, 3] N10) (HW_sub H (VS_of (show vsub V202_Row_Row V160 [1, 3] = true by decide +kernel))) (((((show F15 1 0 = F14 1 0 from (eF15 1 0))).trans ((show F14 1 0 = F10 1 0 from (eF14 1 0))))).trans (pf10_1_0)) (m10_1) ((congrArg (fun q : Nat => (q : Int)) (eN10 3)).trans em10_1) (y10_0_1) (((((show F15 1 1 = F14 1 1 from (eF15 1 1))).trans ((show F14 1 1 = F10 1 1 from (eF14 1 1)))).trans ((eF10 1 1).trans ey10_0_1))) (y10_0_2) (((((show F15 1 2 = F14 1 2 from (eF15 1 2))).trans ((show F14 1 2 = F10 1 2 from (eF14 1 2)))).trans ((eF10 1 2).trans ey10_0_2))) (w10_1) (((show A15 3 = A14 3 from (eA15 3))).trans (((show A14 3 = A10 3 from (eA14 3))).trans ((eA10 3).trans ew10_1))) (show inrJ (z15) by omega) (show inr (4) by omega) (show 0 ≤ (y10_0_1) ∧ (y10_0_1) ≤ (m10_1) ∧ (m10_1) ≤ 65536 by omega) (show 0 ≤ (4) ∧ (4) ≤ 8 by omega) (fun σ16 D16' N16' F16' A16' c16 s16 H' O' hD16 hN16 hS16 hA16 pm16_1 m16_1 em16_1 y16_0_1 ey16_0_1 y16_0_2 ey16_0_2 w16_1 ew16_1 pz16_0 pz16_1 pz16_2 => ⟨rfl, ?_⟩))
  refine v_backM (c := (c + c10)) (s := (s + s10)) H (show vsub V202_Row_Row V160 [1, 3] = true by decide +kernel) H' O' hD16 (show vmov V202_Row_Row [1, 3] [1] = true by decide +kernel) (fun D16 N16 F16 A16 H O' eD16 eN16 eF16 eA16 => ?_)
  have O := OUT_trans O O'
  -- Row.addNumber
  have pf16_0_1 : F16 0 1 = (D16 5 : Int) := ((show F16 0 1 = F15 0 1 from (eF16 0 1))).trans ((((((show F15 0 1 = F14 0 1 from (eF15 0 1))).trans ((show F14 0 1 = F10 0 1 from (eF14 0 1))))).trans (pf10_0_1)).trans (congrArg (fun q : Nat => (q : Int)) ((show D16 5 = D10 5 from (eD16 5))).symm))
  have pf16_1_0 : F16 1 0 = (D16 3 : Int) := (eF16 1 0).trans (pm16_1.trans (congrArg (fun q : Nat => (q : Int)) (eD16 3).symm))
  have pf16_2_0 : F16 2 0 = (D16 4 : Int) := ((show F16 2 0 = F15 2 0 from (eF16 2 0))).trans ((((((show F15 2 0 = F14 2 0 from (eF15 2 0))).trans ((show F14 2 0 = F10 2 0 from (eF14 2 0))))).trans (pf10_2_0)).trans (congrArg (fun q : Nat => (q : Int)) ((show D16 4 = D10 4 from (eD16 4))).symm))
  have pf16_5_0 : F16 5 0 = (D16 6 : Int) := ((show F16 5 0 = F15 5 0 from (eF16 5 0))).trans ((((((show F15 5 0 = F14 5 0 from (eF15 5 0))).trans ((show F14 5 0 = F10 5 0 from (eF14 5 0))))).trans (pf10_5_0)).trans (congrArg (fun q : Nat => (q : Int)) ((show D16 6 = D10 6 from (eD16 6))).symm))
  have pf16_6_0 : F16 6 0 = (D16 7 : Int) := ((show F16 6 0 = F15 6 0 from (eF16 6 0))).trans ((((((show F15 6 0 = F14 6 0 from (eF15 6 0))).trans ((show F14 6 0 = F10 6 0 from (eF14 6 0))))).trans (pf10_6_0)).trans (congrArg (fun q : Nat => (q : Int)) ((show D16 7 = D10 7 from (eD16 7))).symm))
  have r17 : (0 : Int) ≤ m16_1 ∧ m16_1 ≤ 1000000 := by have h1 := H.nle 3 (by decide); have h2 : (N16 3 : Int) = m16_1 := (congrArg (fun q : Nat => (q : Int)) (eN16 3)).trans em16_1; omega
  have r18 : (-2147483648 : Int) ≤ y16_0_1 ∧ y16_0_1 ≤ 2147483647 := by have h1 : (-2147483648 : Int) ≤ F16 1 1 ∧ F16 1 1 ≤ 2147483647 := H.krg 1 1 (by decide); rw [show F16 1 1 = y16_0_1 from ((eF16 1 1).trans ey16_0_1)] at h1; exact h1
  have r19 : (0 : Int) ≤ y16_0_2 ∧ y16_0_2 ≤ 1 := by have h1 : (0 : Int) ≤ F16 1 2 ∧ F16 1 2 ≤ 1 := H.krg 1 2 (by decide); rw [show F16 1 2 = y16_0_2 from ((eF16 1 2).trans ey16_0_2)] at h1; exact h1
  refine Ew_of (pc' := 50) (fun _ => x_aload_n rfl (rk_o (rfl) rfl rfl)) ?_
  refine Ew_of (pc' := 51) (fun _ => x_aload_n rfl (rk_o (rfl) rfl rfl)) ?_
  refine Ew_stk (show ([.ref (D 2), .ref (D 1)] : List Value) = [.ref (D16 2), .ref (D16 1)] by rw [show D16 1 = D 1 from (((show D16 1 = D10 1 from (eD16 1).trans (hD16 0 rfl))).trans ((show D10 1 = D 1 from (eD10 1).trans (hD10 0 rfl)))), show D16 2 = D 2 from (((show D16 2 = D10 2 from (eD16 2))).trans ((show D10 2 = D 2 from (eD10 2))))]) ?_
  refine v_g H (o := 2) (v := .ref (D16 4)) rfl rfl rfl rfl rfl (vrf (pf16_2_0)) ?_
  refine Ew_of (pc' := 55) (fun _ => x_iconst rfl) ?_
  refine Ew_of (pc' := 56) (fun _ => x_aload_n rfl (rk_o (rfl) rfl rfl)) ?_
  refine Ew_stk (show ([.ref (D 2), I (0), .ref (D16 4), .ref (D16 1)] : List Value) = [.ref (D16 2), I (0), .ref (D16 4), .ref (D16 1)] by rw [show D16 2 = D 2 from (((show D16 2 = D10 2 from (eD16 2))).trans ((show D10 2 = D 2 from (eD10 2))))]) ?_
  refine v_g H (o := 2) (v := I (u2_1)) rfl rfl rfl rfl rfl (congrArg (fun z : Int => I z) (((((((show F16 2 1 = F15 2 1 from (eF16 2 1))).trans ((show F15 2 1 = F14 2 1 from (eF15 2 1)))).trans ((show F14 2 1 = F10 2 1 from (eF14 2 1)))).trans ((show F10 2 1 = F 2 1 from (eF10 2 1)))).trans (eu2_1)) : F16 2 1 = u2_1)) ?_
  refine v_inv H (o := 1) rfl rfl rfl rfl rfl rfl (by rfl) (C161_Br (D := pul [1, 4, 3] D16) (N := pul [1, 4, 3] N16) (HW_sub H (VS_of (show vsub V202_Row_Row V161_Br [1, 4, 3] = true by decide +kernel))) (pf16_1_0) (n4) ((congrArg (fun q : Nat => (q : Int)) (show N16 4 = N10 4 from (eN16 4))).trans ((congrArg (fun q : Nat => (q : Int)) (show N10 4 = N 4 from (eN10 4))).trans (en4))) (m16_1) ((congrArg (fun q : Nat => (q : Int)) (eN16 3)).trans em16_1) (y16_0_1) (((eF16 1 1).trans ey16_0_1)) (y16_0_2) (((eF16 1 2).trans ey16_0_2)) (A 4) (((show A16 4 = A15 4 from (eA16 4))).trans (((show A15 4 = A14 4 from (eA15 4))).trans (((show A14 4 = A10 4 from (eA14 4))).trans ((show A10 4 = A 4 from (eA10 4)))))) (w16_1) ((eA16 3).trans ew16_1) (show inr (0) by omega) (show inr (u2_1) by omega) (show 0 ≤ (y16_0_1) ∧ (y16_0_1) ≤ (m16_1) ∧ (m16_1) ≤ 65536 by omega) (show (u2_1) < 0 ∨ 0 ≤ (0) ∧ (0) + (u2_1) ≤ (n4) by omega) (fun σ20 D20' N20' F20' A20' c20 s20 H' O' hD20 hN20 hS20 hA20 pm20_2 m20_2 em20_2 y20_0_1 ey20_0_1 y20_0_2 ey20_0_2 w20_2 ew20_2 pz20_0 pz20_1 pz20_2 pz20_3 => ⟨rfl, ?_⟩))
  refine v_backM (c := ((c + c10) + c16)) (s := ((s + s10) + s16)) H (show vsub V202_Row_Row V161_Br [1, 4, 3] = true by decide +kernel) H' O' hD20 (show vmov V202_Row_Row [1, 4, 3] [2] = true by decide +kernel) (fun D20 N20 F20 A20 H O' eD20 eN20 eF20 eA20 => ?_)
  have O := OUT_trans O O'
  -- Row.addPart
  have pf20_0_1 : F20 0 1 = (D20 5 : Int) := ((show F20 0 1 = F16 0 1 from (eF20 0 1))).trans ((pf16_0_1).trans (congrArg (fun q : Nat => (q : Int)) ((show D20 5 = D16 5 from (eD20 5))).symm))
  have pf20_1_0 : F20 1 0 = (D20 3 : Int) := (eF20 1 0).trans (pm20_2.trans (congrArg (fun q : Nat => (q : Int)) (eD20 3).symm))
  have pf20_2_0 : F20 2 0 = (D20 4 : Int) := ((show F20 2 0 = F16 2 0 from (eF20 2 0))).trans ((pf16_2_0).trans (congrArg (fun q : Nat => (q : Int)) ((show D20 4 = D16 4 from (eD20 4).trans (hD20 1 rfl))).symm))
  have pf20_5_0 : F20 5 0 = (D20 6 : Int) := ((show F20 5 0 = F16 5 0 from (eF20 5 0))).trans ((pf16_5_0).trans (congrArg (fun q : Nat => (q : Int)) ((show D20 6 = D16 6 from (eD20 6))).symm))
  have pf20_6_0 : F20 6 0 = (D20 7 : Int) := ((show F20 6 0 = F16 6 0 from (eF20 6 0))).trans ((pf16_6_0).trans (congrArg (fun q : Nat => (q : Int)) ((show D20 7 = D16 7 from (eD20 7))).symm))
  have r21 : (0 : Int) ≤ m20_2 ∧ m20_2 ≤ 1000000 := by have h1 := H.nle 3 (by decide); have h2 : (N20 3 : Int) = m20_2 := (congrArg (fun q : Nat => (q : Int)) (eN20 3)).trans em20_2; omega
  have r22 : (-2147483648 : Int) ≤ y20_0_1 ∧ y20_0_1 ≤ 2147483647 := by have h1 : (-2147483648 : Int) ≤ F20 1 1 ∧ F20 1 1 ≤ 2147483647 := H.krg 1 1 (by decide); rw [show F20 1 1 = y20_0_1 from ((eF20 1 1).trans ey20_0_1)] at h1; exact h1
  have r23 : (0 : Int) ≤ y20_0_2 ∧ y20_0_2 ≤ 1 := by have h1 : (0 : Int) ≤ F20 1 2 ∧ F20 1 2 ≤ 1 := H.krg 1 2 (by decide); rw [show F20 1 2 = y20_0_2 from ((eF20 1 2).trans ey20_0_2)] at h1; exact h1
  exact w_ret rfl (k _ _ _ _ _ _ _ H O (SD_trans (SD_trans (SD_trans (SD_refl) (SD_glu (ι := [1, 3]) hD10 eD10 (by decide +kernel)) (any_subA (l' := [3]) rfl)) (SD_glu (ι := [1, 3]) hD16 eD16 (by decide +kernel)) (any_subA (l' := [3]) rfl)) (SD_glu (ι := [1, 4, 3]) hD20 eD20 (by decide +kernel)) (any_subA (l' := [3]) rfl)) (SD_trans (SD_trans (SD_trans (SD_refl) (SD_glu (ι := [1, 3]) hN10 eN10 (by decide +kernel)) (any_subA (l' := [3]) rfl)) (SD_glu (ι := [1, 3]) hN16 eN16 (by decide +kernel)) (any_subA (l' := [3]) rfl)) (SD_glu (ι := [1, 4, 3]) hN20 eN20 (by decide +kernel)) (any_subA (l' := [3]) rfl)) (SF_trans (SF_trans (SF_trans (SF_trans (SF_trans (SF_refl) (SF_glu (ι := [1, 3]) hS10 eF10 (by decide +kernel)) (any_sub (l' := [(1, 0), (1, 1), (1, 2)]) rfl)) (SF_glu (ι := [7]) hS14 eF14 (by decide +kernel)) (any_sub (l' := []) rfl)) (SF_glu (ι := []) hS15 eF15 (by decide +kernel)) (any_sub (l' := []) rfl)) (SF_glu (ι := [1, 3]) hS16 eF16 (by decide +kernel)) (any_sub (l' := [(1, 0), (1, 1), (1, 2)]) rfl)) (SF_glu (ι := [1, 4, 3]) hS20 eF20 (by decide +kernel)) (any_sub (l' := [(1, 0), (1, 1), (1, 2)]) rfl)) (SA_trans (SA_trans (SA_trans (SA_trans (SA_trans (SA_refl) (SA_glu (ι := [1, 3]) hA10 eA10 (by decide +kernel)) (any_subA (l' := [3]) rfl)) (SA_glu (ι := [7]) hA14 eA14 (by decide +kernel)) (any_subA (l' := []) rfl)) (SA_glu (ι := []) hA15 eA15 (by decide +kernel)) (any_subA (l' := []) rfl)) (SA_glu (ι := [1, 3]) hA16 eA16 (by decide +kernel)) (any_subA (l' := [3]) rfl)) (SA_glu (ι := [1, 4, 3]) hA20 eA20 (by decide +kernel)) (any_subA (l' := [3]) rfl)) (pf20_1_0) (m20_2) ((congrArg (fun q : Nat => (q : Int)) (eN20 3)).trans em20_2) (y20_0_1) (((eF20 1 1).trans ey20_0_1)) (show 0 ≤ (y20_0_1) ∧ (y20_0_1) ≤ (m20_2) ∧ (m20_2) ≤ 65536 by omega))
abbrev V202_Row_thisfinderdataa : vV := [(0, 10, [(4, 0), (4, 0), (4, 0), (4, 0), (0, 0), (4, 0), (0, 0), (2, 0), (0, 0)]), (0, 7, [(4, 0), (0, 0), (1, 0), (0, 0), (0, 0)]), (1, 0, []), (0, 5, [(4, 0), (4, 0), (4, 0), (4, 0), (0, 0), (0, 0), (0, 0), (4, 0), (4, 0), (0, 0), (0, 0), (0, 0), (0, 0), (0, 0), (0, 0), (0, 0), (0, 0), (0, 0), (0, 0)]), (0, 7, [(4, 0), (0, 0), (1, 0), (0, 0), (0, 0)]), (1, 0, [])]
/-- Tags.addChunk: this, #1, #1.bytes, this.finder, this.finder.data, this.finder.data.bytes -/
theorem C202_Row_thisfinderdataa {σE : rS} {D N : Nat → Nat} {F : hF} {A : hA} {d c s : Nat} {Q : wQ} (H : HW V202_Row_thisfinderdataa σE D N F A) (HT : STC σE) {a3 : Int} (pf2 : F 1 0 = (D 2 : Int)) (pf3 : F 0 1 = (D 3 : Int)) (pf4 : F 3 0 = (D 4 : Int)) (pf5 : F 4 0 = (D 5 : Int)) (n2 : Int) (en2 : (N 2 : Int) = n2) (n5 : Int) (en5 : (N 5 : Int) = n5) (u1_1 : Int) (eu1_1 : F 1 1 = u1_1) (u4_1 : Int) (eu4_1 : F 4 1 = u4_1) (h0 : inr (a3)) (h1 : 0 ≤ (u1_1) ∧ (u1_1) ≤ (n2) ∧ (n2) ≤ 65536) (h2 : 0 ≤ (u4_1) ∧ (u4_1) ≤ (n5) ∧ (n5) ≤ 65536) (h3 : 0 ≤ (u4_1) ∧ (u4_1) ≤ (n5) ∧ (n5) ≤ 65536) (k : ∀ (σ : rS) (D' N' : Nat → Nat) (F' : hF) (A' : hA) (c' s' : Nat), HW V202_Row_thisfinderdataa σ D' N' F' A' → OUT (V202_Row_thisfinderdataa).length D N σE c s D' N' σ c' s' → SD [2] D D' → SD [2] N N' → SF [(1, 0), (1, 1), (1, 2)] F F' → SA [2] A A' → F' 1 0 = (D' 2 : Int) → ∀ m2 : Int, (N' 2 : Int) = m2 → ∀ y1_1 : Int, F' 1 1 = y1_1 → (0 ≤ (y1_1) ∧ (y1_1) ≤ (m2) ∧ (m2) ≤ 65536) → Q none σ c' s') : Ew 202 (d + 3) 0 (rargs 0 [.ref (D 0), .ref (D 1), .ref (D 4), I a3]) [] σE c s Q := by
  have O := OUT_refl (n := (V202_Row_thisfinderdataa).length) (D := D) (N := N) (σ := σE) (c := c) (s := s)
  have HE := H
  have r1 : (-2147483648 : Int) ≤ u1_1 ∧ u1_1 ≤ 2147483647 := by have h1 : (-2147483648 : Int) ≤ F 1 1 ∧ F 1 1 ≤ 2147483647 := H.krg 1 1 (by decide); rw [show F 1 1 = u1_1 from (eu1_1)] at h1; exact h1
  have r2 : (-2147483648 : Int) ≤ u4_1 ∧ u4_1 ≤ 2147483647 := by have h1 : (-2147483648 : Int) ≤ F 4 1 ∧ F 4 1 ≤ 2147483647 := H.krg 4 1 (by decide); rw [show F 4 1 = u4_1 from (eu4_1)] at h1; exact h1
  have r3 : (0 : Int) ≤ n2 ∧ n2 ≤ 1000000 := by have h1 := H.nle 2 (by decide); have h2 : (N 2 : Int) = n2 := en2; omega
  have r4 : (0 : Int) ≤ n5 ∧ n5 ≤ 1000000 := by have h1 := H.nle 5 (by decide); have h2 : (N 5 : Int) = n5 := en5; omega
  refine Ew_of (pc' := 1) (fun _ => x_aload_n rfl rfl) ?_
  refine v_g H (o := 0) (v := .ref (D 3)) rfl rfl rfl rfl rfl (vrf (pf3)) ?_
  refine v_g H (o := 3) (v := .ref (D 4)) rfl rfl rfl rfl rfl (vrf (pf4)) ?_
  refine Ew_of (pc' := 9) (fun _ => x_astore rfl) ?_
  refine Ew_of (pc' := 10) (fun _ => x_aload_n rfl (rk_o (rfl) rfl rfl)) ?_
  refine Ew_of (pc' := 11) (fun _ => x_aload_n rfl (rk_o (rfl) rfl rfl)) ?_
  refine v_g H (o := 4) (v := I (u4_1)) rfl rfl rfl rfl rfl (congrArg (fun z : Int => I z) ((eu4_1) : F 4 1 = u4_1)) ?_
  refine Ew_of (pc' := 15) (fun _ => x_iconst rfl) ?_
  refine w_iadd rfl ?_
  refine Ew_of (pc' := 18) (fun _ => x_bipush (z := 8) rfl (by decide)) ?_
  refine w_ishlA rfl (fun z5 gz5 => ?_)
  refine Ew_of (pc' := 20) (fun _ => x_iload_n rfl (rk_o (rfl) rfl rfl)) ?_
  refine w_ior rfl (fun z6 gz6 => ?_)
  refine w_i2l rfl (show inr (z6) by omega) ?_
  refine Ew_of (pc' := 23) (fun _ => x_iconst rfl) ?_
  have r7 : (0 : Int) ≤ F 1 2 ∧ F 1 2 ≤ 1 := by have h1 : (0 : Int) ≤ F 1 2 ∧ F 1 2 ≤ 1 := H.krg 1 2 (by decide); rw [show F 1 2 = F 1 2 from rfl] at h1; exact h1
  refine v_inv H (o := 1) rfl rfl rfl rfl rfl rfl (by rfl) (C160 (D := pul [1, 2] D) (N := pul [1, 2] N) (HW_sub H (VS_of (show vsub V202_Row_thisfinderdataa V160 [1, 2] = true by decide +kernel))) (pf2) (n2) (en2) (u1_1) ((eu1_1)) (F 1 2) (rfl) (A 2) (rfl) (show inrJ (z6) by omega) (show inr (4) by omega) (show 0 ≤ (u1_1) ∧ (u1_1) ≤ (n2) ∧ (n2) ≤ 65536 by omega) (show 0 ≤ (4) ∧ (4) ≤ 8 by omega) (fun σ8 D8' N8' F8' A8' c8 s8 H' O' hD8 hN8 hS8 hA8 pm8_1 m8_1 em8_1 y8_0_1 ey8_0_1 y8_0_2 ey8_0_2 w8_1 ew8_1 pz8_0 pz8_1 pz8_2 => ⟨rfl, ?_⟩))
  refine v_backM (c := c) (s := s) H (show vsub V202_Row_thisfinderdataa V160 [1, 2] = true by decide +kernel) H' O' hD8 (show vmov V202_Row_thisfinderdataa [1, 2] [1] = true by decide +kernel) (fun D8 N8 F8 A8 H O' eD8 eN8 eF8 eA8 => ?_)
  have O := OUT_trans O O'
  -- Row.addNumber
  have pf8_0_1 : F8 0 1 = (D8 3 : Int) := ((show F8 0 1 = F 0 1 from (eF8 0 1))).trans ((pf3).trans (congrArg (fun q : Nat => (q : Int)) ((show D8 3 = D 3 from (eD8 3))).symm))
  have pf8_1_0 : F8 1 0 = (D8 2 : Int) := (eF8 1 0).trans (pm8_1.trans (congrArg (fun q : Nat => (q : Int)) (eD8 2).symm))
  have pf8_3_0 : F8 3 0 = (D8 4 : Int) := ((show F8 3 0 = F 3 0 from (eF8 3 0))).trans ((pf4).trans (congrArg (fun q : Nat => (q : Int)) ((show D8 4 = D 4 from (eD8 4))).symm))
  have pf8_4_0 : F8 4 0 = (D8 5 : Int) := ((show F8 4 0 = F 4 0 from (eF8 4 0))).trans ((pf5).trans (congrArg (fun q : Nat => (q : Int)) ((show D8 5 = D 5 from (eD8 5))).symm))
  have r9 : (0 : Int) ≤ m8_1 ∧ m8_1 ≤ 1000000 := by have h1 := H.nle 2 (by decide); have h2 : (N8 2 : Int) = m8_1 := (congrArg (fun q : Nat => (q : Int)) (eN8 2)).trans em8_1; omega
  have r10 : (-2147483648 : Int) ≤ y8_0_1 ∧ y8_0_1 ≤ 2147483647 := by have h1 : (-2147483648 : Int) ≤ F8 1 1 ∧ F8 1 1 ≤ 2147483647 := H.krg 1 1 (by decide); rw [show F8 1 1 = y8_0_1 from ((eF8 1 1).trans ey8_0_1)] at h1; exact h1
  have r11 : (0 : Int) ≤ y8_0_2 ∧ y8_0_2 ≤ 1 := by have h1 : (0 : Int) ≤ F8 1 2 ∧ F8 1 2 ≤ 1 := H.krg 1 2 (by decide); rw [show F8 1 2 = y8_0_2 from ((eF8 1 2).trans ey8_0_2)] at h1; exact h1
  refine Ew_of (pc' := 27) (fun _ => x_aload_n rfl (rk_o (rfl) rfl rfl)) ?_
  refine Ew_of (pc' := 29) (fun _ => x_aload rfl rk_s) ?_
  refine Ew_stk (show ([.ref (D 4), .ref (D 1)] : List Value) = [.ref (D8 4), .ref (D8 1)] by rw [show D8 1 = D 1 from ((show D8 1 = D 1 from (eD8 1).trans (hD8 0 rfl))), show D8 4 = D 4 from ((show D8 4 = D 4 from (eD8 4)))]) ?_
  refine v_g H (o := 4) (v := .ref (D8 5)) rfl rfl rfl rfl rfl (vrf (pf8_4_0)) ?_
  refine Ew_of (pc' := 33) (fun _ => x_iconst rfl) ?_
  refine Ew_of (pc' := 35) (fun _ => x_aload rfl rk_s) ?_
  refine Ew_stk (show ([.ref (D 4), I (0), .ref (D8 5), .ref (D8 1)] : List Value) = [.ref (D8 4), I (0), .ref (D8 5), .ref (D8 1)] by rw [show D8 4 = D 4 from ((show D8 4 = D 4 from (eD8 4)))]) ?_
  refine v_g H (o := 4) (v := I (u4_1)) rfl rfl rfl rfl rfl (congrArg (fun z : Int => I z) ((((show F8 4 1 = F 4 1 from (eF8 4 1))).trans (eu4_1)) : F8 4 1 = u4_1)) ?_
  refine w_stat25 rfl rfl (by rfl) (C53_Br (D := pul [5] D8) (N := pul [5] N8) (HW_sub H (VS_of (show vsub V202_Row_thisfinderdataa V53_Br [5] = true by decide +kernel))) (STC_out HT HE O) (n5) ((congrArg (fun q : Nat => (q : Int)) (show N8 5 = N 5 from (eN8 5))).trans (en5)) (A 5) ((show A8 5 = A 5 from (eA8 5))) (show inr (0) by omega) (show inr (u4_1) by omega) (show 0 ≤ (0) ∧ (0) ≤ (u4_1) ∧ (u4_1) ≤ (n5) by omega) (fun z12 σ12 F12' A12' H' O' hS12 hA12 pz12_0 pz12_1 => ⟨rfl, ?_⟩))
  refine v_back (c := (c + c8)) (s := (s + s8)) H (show vsub V202_Row_thisfinderdataa V53_Br [5] = true by decide +kernel) H' O' (fun F12 A12 H O' eF12 eA12 => ?_)
  have O := OUT_trans O O'
  -- PackHouse.polynomialSum
  refine w_stat25 rfl rfl (by rfl) (C54 (D := pul [] D8) (N := pul [] N8) (HW_sub H (VS_of (show vsub V202_Row_thisfinderdataa V54 [] = true by decide +kernel))) (show inr (z12) by omega) (fun z13 σ13 F13' A13' H' O' hS13 hA13 pz13_0 pz13_1 => ⟨rfl, ?_⟩))
  refine v_back (c := (c + c8)) (s := (s + s8)) H (show vsub V202_Row_thisfinderdataa V54 [] = true by decide +kernel) H' O' (fun F13 A13 H O' eF13 eA13 => ?_)
  have O := OUT_trans O O'
  -- PackHouse.maskedSum
  refine w_i2l rfl (show inr (z13) by omega) ?_
  refine Ew_of (pc' := 46) (fun _ => x_iconst rfl) ?_
  refine v_inv H (o := 1) rfl rfl rfl rfl rfl rfl (by rfl) (C160 (D := pul [1, 2] D8) (N := pul [1, 2] N8) (HW_sub H (VS_of (show vsub V202_Row_thisfinderdataa V160 [1, 2] = true by decide +kernel))) (((((show F13 1 0 = F12 1 0 from (eF13 1 0))).trans ((show F12 1 0 = F8 1 0 from (eF12 1 0))))).trans (pf8_1_0)) (m8_1) ((congrArg (fun q : Nat => (q : Int)) (eN8 2)).trans em8_1) (y8_0_1) (((((show F13 1 1 = F12 1 1 from (eF13 1 1))).trans ((show F12 1 1 = F8 1 1 from (eF12 1 1)))).trans ((eF8 1 1).trans ey8_0_1))) (y8_0_2) (((((show F13 1 2 = F12 1 2 from (eF13 1 2))).trans ((show F12 1 2 = F8 1 2 from (eF12 1 2)))).trans ((eF8 1 2).trans ey8_0_2))) (w8_1) (((show A13 2 = A12 2 from (eA13 2))).trans (((show A12 2 = A8 2 from (eA12 2))).trans ((eA8 2).trans ew8_1))) (show inrJ (z13) by omega) (show inr (4) by omega) (show 0 ≤ (y8_0_1) ∧ (y8_0_1) ≤ (m8_1) ∧ (m8_1) ≤ 65536 by omega) (show 0 ≤ (4) ∧ (4) ≤ 8 by omega) (fun σ14 D14' N14' F14' A14' c14 s14 H' O' hD14 hN14 hS14 hA14 pm14_1 m14_1 em14_1 y14_0_1 ey14_0_1 y14_0_2 ey14_0_2 w14_1 ew14_1 pz14_0 pz14_1 pz14_2 => ⟨rfl, ?_⟩))
  refine v_backM (c := (c + c8)) (s := (s + s8)) H (show vsub V202_Row_thisfinderdataa V160 [1, 2] = true by decide +kernel) H' O' hD14 (show vmov V202_Row_thisfinderdataa [1, 2] [1] = true by decide +kernel) (fun D14 N14 F14 A14 H O' eD14 eN14 eF14 eA14 => ?_)
  have O := OUT_trans O O'
  -- Row.addNumber
  have pf14_0_1 : F14 0 1 = (D14 3 : Int) := ((show F14 0 1 = F13 0 1 from (eF14 0 1))).trans ((((((show F13 0 1 = F12 0 1 from (eF13 0 1))).trans ((show F12 0 1 = F8 0 1 from (eF12 0 1))))).trans (pf8_0_1)).trans (congrArg (fun q : Nat => (q : Int)) ((show D14 3 = D8 3 from (eD14 3))).symm))
  have pf14_1_0 : F14 1 0 = (D14 2 : Int) := (eF14 1 0).trans (pm14_1.trans (congrArg (fun q : Nat => (q : Int)) (eD14 2).symm))
  have pf14_3_0 : F14 3 0 = (D14 4 : Int) := ((show F14 3 0 = F13 3 0 from (eF14 3 0))).trans ((((((show F13 3 0 = F12 3 0 from (eF13 3 0))).trans ((show F12 3 0 = F8 3 0 from (eF12 3 0))))).trans (pf8_3_0)).trans (congrArg (fun q : Nat => (q : Int)) ((show D14 4 = D8 4 from (eD14 4))).symm))
  have pf14_4_0 : F14 4 0 = (D14 5 : Int) := ((show F14 4 0 = F13 4 0 from (eF14 4 0))).trans ((((((show F13 4 0 = F12 4 0 from (eF13 4 0))).trans ((show F12 4 0 = F8 4 0 from (eF12 4 0))))).trans (pf8_4_0)).trans (congrArg (fun q : Nat => (q : Int)) ((show D14 5 = D8 5 from (eD14 5))).symm))
  have r15 : (0 : Int) ≤ m14_1 ∧ m14_1 ≤ 1000000 := by have h1 := H.nle 2 (by decide); have h2 : (N14 2 : Int) = m14_1 := (congrArg (fun q : Nat => (q : Int)) (eN14 2)).trans em14_1; omega
  have r16 : (-2147483648 : Int) ≤ y14_0_1 ∧ y14_0_1 ≤ 2147483647 := by have h1 : (-2147483648 : Int) ≤ F14 1 1 ∧ F14 1 1 ≤ 2147483647 := H.krg 1 1 (by decide); rw [show F14 1 1 = y14_0_1 from ((eF14 1 1).trans ey14_0_1)] at h1; exact h1
  have r17 : (0 : Int) ≤ y14_0_2 ∧ y14_0_2 ≤ 1 := by have h1 : (0 : Int) ≤ F14 1 2 ∧ F14 1 2 ≤ 1 := H.krg 1 2 (by decide); rw [show F14 1 2 = y14_0_2 from ((eF14 1 2).trans ey14_0_2)] at h1; exact h1
  refine Ew_of (pc' := 50) (fun _ => x_aload_n rfl (rk_o (rfl) rfl rfl)) ?_
  refine Ew_of (pc' := 51) (fun _ => x_aload_n rfl (rk_o (rfl) rfl rfl)) ?_
  refine Ew_stk (show ([.ref (D 4), .ref (D 1)] : List Value) = [.ref (D14 4), .ref (D14 1)] by rw [show D14 1 = D 1 from (((show D14 1 = D8 1 from (eD14 1).trans (hD14 0 rfl))).trans ((show D8 1 = D 1 from (eD8 1).trans (hD8 0 rfl)))), show D14 4 = D 4 from (((show D14 4 = D8 4 from (eD14 4))).trans ((show D8 4 = D 4 from (eD8 4))))]) ?_
  refine v_g H (o := 4) (v := .ref (D14 5)) rfl rfl rfl rfl rfl (vrf (pf14_4_0)) ?_
  refine Ew_of (pc' := 55) (fun _ => x_iconst rfl) ?_
  refine Ew_of (pc' := 56) (fun _ => x_aload_n rfl (rk_o (rfl) rfl rfl)) ?_
  refine Ew_stk (show ([.ref (D 4), I (0), .ref (D14 5), .ref (D14 1)] : List Value) = [.ref (D14 4), I (0), .ref (D14 5), .ref (D14 1)] by rw [show D14 4 = D 4 from (((show D14 4 = D8 4 from (eD14 4))).trans ((show D8 4 = D 4 from (eD8 4))))]) ?_
  refine v_g H (o := 4) (v := I (u4_1)) rfl rfl rfl rfl rfl (congrArg (fun z : Int => I z) (((((((show F14 4 1 = F13 4 1 from (eF14 4 1))).trans ((show F13 4 1 = F12 4 1 from (eF13 4 1)))).trans ((show F12 4 1 = F8 4 1 from (eF12 4 1)))).trans ((show F8 4 1 = F 4 1 from (eF8 4 1)))).trans (eu4_1)) : F14 4 1 = u4_1)) ?_
  refine v_inv H (o := 1) rfl rfl rfl rfl rfl rfl (by rfl) (C161_Br (D := pul [1, 5, 2] D14) (N := pul [1, 5, 2] N14) (HW_sub H (VS_of (show vsub V202_Row_thisfinderdataa V161_Br [1, 5, 2] = true by decide +kernel))) (pf14_1_0) (n5) ((congrArg (fun q : Nat => (q : Int)) (show N14 5 = N8 5 from (eN14 5))).trans ((congrArg (fun q : Nat => (q : Int)) (show N8 5 = N 5 from (eN8 5))).trans (en5))) (m14_1) ((congrArg (fun q : Nat => (q : Int)) (eN14 2)).trans em14_1) (y14_0_1) (((eF14 1 1).trans ey14_0_1)) (y14_0_2) (((eF14 1 2).trans ey14_0_2)) (A 5) (((show A14 5 = A13 5 from (eA14 5))).trans (((show A13 5 = A12 5 from (eA13 5))).trans (((show A12 5 = A8 5 from (eA12 5).trans (funext (hA12 0 rfl)))).trans ((show A8 5 = A 5 from (eA8 5)))))) (w14_1) ((eA14 2).trans ew14_1) (show inr (0) by omega) (show inr (u4_1) by omega) (show 0 ≤ (y14_0_1) ∧ (y14_0_1) ≤ (m14_1) ∧ (m14_1) ≤ 65536 by omega) (show (u4_1) < 0 ∨ 0 ≤ (0) ∧ (0) + (u4_1) ≤ (n5) by omega) (fun σ18 D18' N18' F18' A18' c18 s18 H' O' hD18 hN18 hS18 hA18 pm18_2 m18_2 em18_2 y18_0_1 ey18_0_1 y18_0_2 ey18_0_2 w18_2 ew18_2 pz18_0 pz18_1 pz18_2 pz18_3 => ⟨rfl, ?_⟩))
  refine v_backM (c := ((c + c8) + c14)) (s := ((s + s8) + s14)) H (show vsub V202_Row_thisfinderdataa V161_Br [1, 5, 2] = true by decide +kernel) H' O' hD18 (show vmov V202_Row_thisfinderdataa [1, 5, 2] [2] = true by decide +kernel) (fun D18 N18 F18 A18 H O' eD18 eN18 eF18 eA18 => ?_)
  have O := OUT_trans O O'
  -- Row.addPart
  have pf18_0_1 : F18 0 1 = (D18 3 : Int) := ((show F18 0 1 = F14 0 1 from (eF18 0 1))).trans ((pf14_0_1).trans (congrArg (fun q : Nat => (q : Int)) ((show D18 3 = D14 3 from (eD18 3))).symm))
  have pf18_1_0 : F18 1 0 = (D18 2 : Int) := (eF18 1 0).trans (pm18_2.trans (congrArg (fun q : Nat => (q : Int)) (eD18 2).symm))
  have pf18_3_0 : F18 3 0 = (D18 4 : Int) := ((show F18 3 0 = F14 3 0 from (eF18 3 0))).trans ((pf14_3_0).trans (congrArg (fun q : Nat => (q : Int)) ((show D18 4 = D14 4 from (eD18 4))).symm))
  have pf18_4_0 : F18 4 0 = (D18 5 : Int) := ((show F18 4 0 = F14 4 0 from (eF18 4 0))).trans ((pf14_4_0).trans (congrArg (fun q : Nat => (q : Int)) ((show D18 5 = D14 5 from (eD18 5).trans (hD18 1 rfl))).symm))
  have r19 : (0 : Int) ≤ m18_2 ∧ m18_2 ≤ 1000000 := by have h1 := H.nle 2 (by decide); have h2 : (N18 2 : Int) = m18_2 := (congrArg (fun q : Nat => (q : Int)) (eN18 2)).trans em18_2; omega
  have r20 : (-2147483648 : Int) ≤ y18_0_1 ∧ y18_0_1 ≤ 2147483647 := by have h1 : (-2147483648 : Int) ≤ F18 1 1 ∧ F18 1 1 ≤ 2147483647 := H.krg 1 1 (by decide); rw [show F18 1 1 = y18_0_1 from ((eF18 1 1).trans ey18_0_1)] at h1; exact h1
  have r21 : (0 : Int) ≤ y18_0_2 ∧ y18_0_2 ≤ 1 := by have h1 : (0 : Int) ≤ F18 1 2 ∧ F18 1 2 ≤ 1 := H.krg 1 2 (by decide); rw [show F18 1 2 = y18_0_2 from ((eF18 1 2).trans ey18_0_2)] at h1; exact h1
  exact w_ret rfl (k _ _ _ _ _ _ _ H O (SD_trans (SD_trans (SD_trans (SD_refl) (SD_glu (ι := [1, 2]) hD8 eD8 (by decide +kernel)) (any_subA (l' := [2]) rfl)) (SD_glu (ι := [1, 2]) hD14 eD14 (by decide +kernel)) (any_subA (l' := [2]) rfl)) (SD_glu (ι := [1, 5, 2]) hD18 eD18 (by decide +kernel)) (any_subA (l' := [2]) rfl)) (SD_trans (SD_trans (SD_trans (SD_refl) (SD_glu (ι := [1, 2]) hN8 eN8 (by decide +kernel)) (any_subA (l' := [2]) rfl)) (SD_glu (ι := [1, 2]) hN14 eN14 (by decide +kernel)) (any_subA (l' := [2]) rfl)) (SD_glu (ι := [1, 5, 2]) hN18 eN18 (by decide +kernel)) (any_subA (l' := [2]) rfl)) (SF_trans (SF_trans (SF_trans (SF_trans (SF_trans (SF_refl) (SF_glu (ι := [1, 2]) hS8 eF8 (by decide +kernel)) (any_sub (l' := [(1, 0), (1, 1), (1, 2)]) rfl)) (SF_glu (ι := [5]) hS12 eF12 (by decide +kernel)) (any_sub (l' := []) rfl)) (SF_glu (ι := []) hS13 eF13 (by decide +kernel)) (any_sub (l' := []) rfl)) (SF_glu (ι := [1, 2]) hS14 eF14 (by decide +kernel)) (any_sub (l' := [(1, 0), (1, 1), (1, 2)]) rfl)) (SF_glu (ι := [1, 5, 2]) hS18 eF18 (by decide +kernel)) (any_sub (l' := [(1, 0), (1, 1), (1, 2)]) rfl)) (SA_trans (SA_trans (SA_trans (SA_trans (SA_trans (SA_refl) (SA_glu (ι := [1, 2]) hA8 eA8 (by decide +kernel)) (any_subA (l' := [2]) rfl)) (SA_glu (ι := [5]) hA12 eA12 (by decide +kernel)) (any_subA (l' := []) rfl)) (SA_glu (ι := []) hA13 eA13 (by decide +kernel)) (any_subA (l' := []) rfl)) (SA_glu (ι := [1, 2]) hA14 eA14 (by decide +kernel)) (any_subA (l' := [2]) rfl)) (SA_glu (ι := [1, 5, 2]) hA18 eA18 (by decide +kernel)) (any_subA (l' := [2]) rfl)) (pf18_1_0) (m18_2) ((congrArg (fun q : Nat => (q : Int)) (eN18 2)).trans em18_2) (y18_0_1) (((eF18 1 1).trans ey18_0_1)) (show 0 ≤ (y18_0_1) ∧ (y18_0_1) ≤ (m18_2) ∧ (m18_2) ≤ 65536 by omega))
