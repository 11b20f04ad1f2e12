abbrev V198 : vV := []
theorem C198 {σE : rS} {D N : Nat → Nat} {F : hF} {A : hA} {d c s : Nat} {Q : wQ} (H : HW V198 σE D N F A) {a1 a2 : Int} (h0 : inr (a1)) (h1 : inr (a2)) (h2 : (a2) = 0 ∨ (a2) = 1) (k : ∀ (z : Int) (σ : rS) (Fₚ : hF) (Aₚ : hA), HW V198 σ D N Fₚ Aₚ → OUT (V198).length D N σE c s D N σ c s → SF [] F Fₚ → SA [] A Aₚ → ((z) = 0 ∨ (z) = 1) → ((z) = 1 ∧ ((a2) = 1 ∧ 4 ≤ (a1) ∧ (a1) ≤ 11) ∨ (z) = 0 ∧ ¬((a2) = 1 ∧ 4 ≤ (a1) ∧ (a1) ≤ 11)) → Q (some (I z)) σ c s) : Ew 198 (d + 0) 0 (rargs 0 [I a1, I a2]) [] σE c s Q := by
  have O := OUT_refl (n := (V198).length) (D := D) (N := N) (σ := σE) (c := c) (s := s)
  have HE := H
  refine Ew_of (pcₚ := 1) (fun _ => x_iload_n rfl rfl) ?_
  refine w_ifeq (t := 19) rfl rfl (show inr (a2) from h1) (fun b1 => ?_) (fun b1 => ?_)
  · refine Ew_of (pcₚ := 20) (fun _ => x_iconst rfl) ?_
    exact w_ireturn rfl (k (0) _ _ _ H O (SF_refl) (SA_refl) (show (0) = 0 ∨ (0) = 1 by first | exact q_45 | omega) (show (0) = 1 ∧ (a2 = 1 ∧ 4 ≤ a1 ∧ a1 ≤ 11) ∨ (0) = 0 ∧ ¬(a2 = 1 ∧ 4 ≤ a1 ∧ a1 ≤ 11) by omega))
  · refine Ew_of (pcₚ := 5) (fun _ => x_iload_n rfl rfl) ?_
    refine Ew_of (pcₚ := 6) (fun _ => x_iconst rfl) ?_
    refine w_icmplt (t := 19) rfl rfl (show inr (a1) from h0) (show inr (4) from q_216) (fun b2 => ?_) (fun b2 => ?_)
    · refine Ew_of (pcₚ := 20) (fun _ => x_iconst rfl) ?_
      exact w_ireturn rfl (k (0) _ _ _ H O (SF_refl) (SA_refl) (show (0) = 0 ∨ (0) = 1 by first | exact q_45 | omega) (show (0) = 1 ∧ (a2 = 1 ∧ 4 ≤ a1 ∧ a1 ≤ 11) ∨ (0) = 0 ∧ ¬(a2 = 1 ∧ 4 ≤ a1 ∧ a1 ≤ 11) by omega))
    · refine Ew_of (pcₚ := 10) (fun _ => x_iload_n rfl rfl) ?_
      refine Ew_of (pcₚ := 12) (fun _ => x_bipush (z := 11) rfl (by decide)) ?_
      refine w_icmpgt (t := 19) rfl rfl (show inr (a1) from h0) (show inr (11) from q_326) (fun b3 => ?_) (fun b3 => ?_)
      · refine Ew_of (pcₚ := 20) (fun _ => x_iconst rfl) ?_
        exact w_ireturn rfl (k (0) _ _ _ H O (SF_refl) (SA_refl) (show (0) = 0 ∨ (0) = 1 by first | exact q_45 | omega) (show (0) = 1 ∧ (a2 = 1 ∧ 4 ≤ a1 ∧ a1 ≤ 11) ∨ (0) = 0 ∧ ¬(a2 = 1 ∧ 4 ≤ a1 ∧ a1 ≤ 11) by omega))
      · refine Ew_of (pcₚ := 16) (fun _ => x_iconst rfl) ?_
        refine Ew_of (pcₚ := 20) (fun _ => x_goto rfl rfl) ?_
        exact w_ireturn rfl (k (1) _ _ _ H O (SF_refl) (SA_refl) (show (1) = 0 ∨ (1) = 1 by first | exact q_49 | omega) (show (1) = 1 ∧ (a2 = 1 ∧ 4 ≤ a1 ∧ a1 ≤ 11) ∨ (1) = 0 ∧ ¬(a2 = 1 ∧ 4 ≤ a1 ∧ a1 ≤ 11) by omega))
abbrev V200 : vV := []
theorem C200 {σE : rS} {D N : Nat → Nat} {F : hF} {A : hA} {d c s : Nat} {Q : wQ} (H : HW V200 σE D N F A) {a1 a2 : Int} (h0 : inr (a1)) (h1 : inr (a2)) (h2 : (a2) = 0 ∨ (a2) = 1) (h3 : 0 ≤ (a1) ∧ (a1) ≤ 65536) (k : ∀ (z : Int) (σ : rS) (Fₚ : hF) (Aₚ : hA), HW V200 σ D N Fₚ Aₚ → OUT (V200).length D N σE c s D N σ c s → SF [] F Fₚ → SA [] A Aₚ → (inr (z)) → (0 ≤ (z) ∧ (z) ≤ 4000) → ((z) = cfw ((a2)) ((a1))) → Q (some (I z)) σ c s) : Ew 200 (d + 0) 0 (rargs 0 [I a1, I a2]) [] σE c s Q := by
  have O := OUT_refl (n := (V200).length) (D := D) (N := N) (σ := σE) (c := c) (s := s)
  have HE := H
  refine Ew_of (pcₚ := 1) (fun _ => x_iconst rfl) ?_
  refine Ew_of (pcₚ := 2) (fun _ => x_iload_n rfl rfl) ?_
  refine Ew_of (pcₚ := 4) (fun _ => x_bipush (z := 63) rfl (by decide)) ?_
  refine w_iadd rfl ?_
  refine Ew_of (pcₚ := 7) (fun _ => x_bipush (z := 64) rfl (by decide)) ?_
  refine w_idiv rfl (show inr ((a1 + 63)) ∧ 0 ≤ (a1 + 63) from q_3145 h3) (show inr (64) ∧ 0 < 64 from q_1830) ?_
  refine w_imul rfl ?_
  refine Ew_of (pcₚ := 10) (fun _ => x_istore_n rfl) ?_
  refine Ew_of (pcₚ := 11) (fun _ => x_iload_n rfl (rk_o (rfl) rfl rfl)) ?_
  refine w_ifeq (t := 19) rfl rfl (show inr (a2) from h1) (fun b1 => ?_) (fun b1 => ?_)
  · refine Ew_of (pcₚ := 20) (fun _ => x_iload_n rfl rk_s) ?_
    have : ((3 * ((a1 + 63) / 64))) = cfw ((a2)) ((a1)) := by rcases cfw_eq ((a2)) ((a1)) with ⟨x1, x2⟩ | ⟨x1, x, x2, x3⟩ <;> omega
    exact w_ireturn rfl (k ((3 * ((a1 + 63) / 64))) _ _ _ H O (SF_refl) (SA_refl) (show inr ((3 * ((a1 + 63) / 64))) from q_3147 h3) (show 0 ≤ ((3 * ((a1 + 63) / 64))) ∧ ((3 * ((a1 + 63) / 64))) ≤ 4000 by first | exact q_3146 h3 | omega) (show ((3 * ((a1 + 63) / 64))) = cfw (a2) (a1) by assumption))
  · refine Ew_of (pcₚ := 15) (fun _ => x_iload_n rfl (rk_o (rfl) rfl rfl)) ?_
    refine Ew_of (pcₚ := 16) (fun _ => x_iconst rfl) ?_
    refine w_icmpge (t := 21) rfl rfl (show inr (a1) from h0) (show inr (4) from q_216) (fun b2 => ?_) (fun b2 => ?_)
    · refine Ew_of (pcₚ := 22) (fun _ => x_iload_n rfl rk_s) ?_
      refine Ew_of (pcₚ := 23) (fun _ => x_iconst rfl) ?_
      refine Ew_of (pcₚ := 24) (fun _ => x_iconst rfl) ?_
      refine Ew_of (pcₚ := 25) (fun _ => x_iconst rfl) ?_
      refine Ew_of (pcₚ := 26) (fun _ => x_iload_n rfl (rk_o (rfl) rfl rfl)) ?_
      refine Ew_of (pcₚ := 28) (fun _ => x_bipush (z := 11) rfl (by decide)) ?_
      refine w_isub rfl ?_
      refine v_max rfl rfl (show inr (0) from q_2) (show inr ((a1 - 11)) from q_3148 b2 h3) (fun z3 gz3 => ?_)
      refine Ew_of (pcₚ := 34) (fun _ => x_bipush (z := 63) rfl (by decide)) ?_
      refine w_iadd rfl ?_
      refine Ew_of (pcₚ := 37) (fun _ => x_bipush (z := 64) rfl (by decide)) ?_
      refine w_idiv rfl (show inr ((z3 + 63)) ∧ 0 ≤ (z3 + 63) from q_3149 b2 gz3 h3) (show inr (64) ∧ 0 < 64 from q_1830) ?_
      refine w_imul rfl ?_
      refine w_iadd rfl ?_
      refine v_min rfl rfl (show inr ((3 * ((a1 + 63) / 64))) from q_3151 b2 h3) (show inr ((2 + (3 * ((z3 + 63) / 64)))) from q_3150 b2 gz3 h3) (fun z4 gz4 => ?_)
      have : (z4) = cfw ((a2)) ((a1)) := by rcases cfw_eq ((a2)) ((a1)) with ⟨x1, x2⟩ | ⟨x1, x, x2, x3⟩ <;> omega
      exact w_ireturn rfl (k (z4) _ _ _ H O (SF_refl) (SA_refl) (show inr (z4) from q_3153 b2 gz3 gz4 h3) (show 0 ≤ (z4) ∧ (z4) ≤ 4000 from q_3152 b2 gz3 gz4 h3) (show (z4) = cfw (a2) (a1) by assumption))
    · refine Ew_of (pcₚ := 20) (fun _ => x_iload_n rfl rk_s) ?_
      have : ((3 * ((a1 + 63) / 64))) = cfw ((a2)) ((a1)) := by rcases cfw_eq ((a2)) ((a1)) with ⟨x1, x2⟩ | ⟨x1, x, x2, x3⟩ <;> omega
      exact w_ireturn rfl (k ((3 * ((a1 + 63) / 64))) _ _ _ H O (SF_refl) (SA_refl) (show inr ((3 * ((a1 + 63) / 64))) from q_3155 b2 h3) (show 0 ≤ ((3 * ((a1 + 63) / 64))) ∧ ((3 * ((a1 + 63) / 64))) ≤ 4000 by first | exact q_3154 b2 h3 | omega) (show ((3 * ((a1 + 63) / 64))) = cfw (a2) (a1) by assumption))
abbrev V199 : vV := []
theorem oz_D3cls_3 : vsub V199 V200 [] = true := by decide +kernel
theorem oz_D3cls_4 : vsub V199 V198 [] = true := by decide +kernel
def oz_D3clsl_0 : List (Nat × Nat) := []
theorem oz_D3cls_5 : (oz_D3clsl_0).all (fun p => !tbz 0 (Nat.add (Nat.mul 32 p.1) p.2)) = true := by decide +kernel
def oz_D3clsl_1 : List Nat := []
theorem oz_D3cls_6 : (oz_D3clsl_1).all (fun p => !tbz 0 p) = true := by decide +kernel
theorem oz_D3cls_7 : okc oz_D3clsl_1 0 = true := by decide +kernel

theorem C199 {σE : rS} {D N : Nat → Nat} {F : hF} {A : hA} {d c s : Nat} {Q : wQ} (H : HW V199 σE D N F A) {a1 a2 : Int} (h0 : inr (a1)) (h1 : inr (a2)) (h2 : (a2) = 0 ∨ (a2) = 1) (h3 : 1 ≤ (a1) ∧ (a1) ≤ 65536) (k : ∀ (z : Int) (σ : rS) (Fₚ : hF) (Aₚ : hA), HW V199 σ D N Fₚ Aₚ → OUT (V199).length D N σE c s D N σ c s → SF [] F Fₚ → SA [] A Aₚ → (inr (z)) → (1 ≤ (z) ∧ (z) ≤ (a1)) → ((z) = fcl ((a2)) ((a1))) → Q (some (I z)) σ c s) : Ew 199 (d + 1) 0 (rargs 0 [I a1, I a2]) [] σE c s Q := by
  have O := OUT_refl (n := (V199).length) (D := D) (N := N) (σ := σE) (c := c) (s := s)
  have HE := H
  refine Ew_of (pcₚ := 1) (fun _ => x_iload_n rfl rfl) ?_
  refine Ew_of (pcₚ := 2) (fun _ => x_iload_n rfl rfl) ?_
  refine w_stat24 rfl rfl (by rfl) (C200 (D := puc 0 D) (N := puc 0 N) (HW_subc H oz_D3cls_3 oz_D3cls_7) (show inr (a1) from h0) (show inr (a2) from h1) (show (a2) = 0 ∨ (a2) = 1 from h2) (show 0 ≤ (a1) ∧ (a1) ≤ 65536 from q_3156 h3) (fun z1 σ1 F1ₚ A1ₚ Hₚ Oₚ hS1 hA1 pz1_0 pz1_1 pz1_2 => ⟨rfl, ?_⟩))
  refine v_backc (c := c) (s := s) H oz_D3cls_3 oz_D3cls_7 Hₚ Oₚ (fun F1 A1 H Oₚ eF1 eA1 => ?_)
  have O := OUT_trans O Oₚ
  -- Tags.fewest
  have cF1 : SF oz_D3clsl_0 F F1 := SF_trans (SF_refl) (SF_gluc (ι := oz_D3clsl_1) oz_D3cls_7 hS1 eF1 (by decide +kernel)) (any_sub (lₚ := []) (by decide +kernel))
  have mF1 := SFm_of cF1 oz_D3cls_5
  have cA1 : SA oz_D3clsl_1 A A1 := SA_trans (SA_refl) (SA_gluc (ι := oz_D3clsl_1) oz_D3cls_7 hA1 eA1 (by decide +kernel)) (any_subA (lₚ := []) (by decide +kernel))
  have mA1 := SAm_of cA1 oz_D3cls_6
  have hl2 := pz1_2
  refine Ew_of (pcₚ := 6) (fun _ => x_istore_n rfl) ?_
  refine Ew_of (pcₚ := 8) (fun _ => x_bipush (z := 64) rfl (by decide)) ?_
  refine Ew_of (pcₚ := 9) (fun _ => x_iload_n rfl (rk_o (rfl) rfl rfl)) ?_
  refine v_min rfl rfl (show inr (64) from q_151) (show inr (a1) from h0) (fun z2 gz2 => ?_)
  refine Ew_of (pcₚ := 13) (fun _ => x_istore_n rfl) ?_
  have : fcl ((a2)) ((a1)) = fcn ((a2)) ((a1)) ((z2) : Int).toNat := by unfold fcl m64; by_cases z : (a1) < 64; (rw [if_pos z, show (z2) = (a1) by omega]); (rw [if_neg z, show (z2) = 64 by omega])
  suffices hl13 : ∀ (m : Nat), ∀ (ls : rO) (σ : rS) (F_13 : hF) (A_13 : hA) (x13_3 : Int), rlook ls 0 = some (I (a1)) → rlook ls 1 = some (I (a2)) → rlook ls 2 = some (I (z1)) → rlook ls 3 = some (I (x13_3)) → HW V199 σ D N F_13 A_13 → OUT (V199).length D N σE c s D N σ c s → SF [] F1 F_13 → SA [] A1 A_13 → (inr (x13_3)) → ((x13_3) ≤ (z2)) → ((z2) ≤ (x13_3) ∨ (1) ≤ (x13_3)) → (fcl ((a2)) ((a1)) = fcn ((a2)) ((a1)) ((x13_3) : Int).toNat) → ((x13_3) - (1)).toNat = m → Ew 199 (d + 1) 13 ls [] σ c s Q from
    hl13 _ _ _ _ _ (z2) (rk_o (rk_o (rfl) rfl rfl) rfl rfl) (rk_o (rk_o (rfl) rfl rfl) rfl rfl) (rk_o (rk_s) rfl rfl) (rk_s) H O (SF_refl) (SA_refl)     (show inr (z2) from q_3158 gz2 h3) (show (z2) ≤ (z2) from q_43) (show (z2) ≤ (z2) ∨ (1) ≤ (z2) from q_3157) (show fcl ((a2)) ((a1)) = fcn ((a2)) ((a1)) ((z2) : Int).toNat by assumption) rfl
  as_aux_lemma =>
  intro m
  induction m using Nat.strongRecOn with
  | _ m ih13 =>
    intro ls σ F_13 A_13 x13_3 l13_0 l13_1 l13_2 l13_3 H O hS_13 hA_13     j13_0 j13_1 j13_2 j13_3 hm13
    have cF_13 : SF oz_D3clsl_0 F F_13 := SF_trans (cF1) hS_13 (any_sub (by decide +kernel))
    have mF_13 := SFm_of cF_13 oz_D3cls_5
    have cA_13 : SA oz_D3clsl_1 A A_13 := SA_trans (cA1) hA_13 (any_subA (by decide +kernel))
    have mA_13 := SAm_of cA_13 oz_D3cls_6
    have j13_q : fcl ((a2)) ((a1)) = fcn ((a2)) ((a1)) ((x13_3) : Int).toNat := by assumption
    refine Ew_of (pcₚ := 14) (fun _ => x_iload_n rfl l13_3) ?_
    refine Ew_of (pcₚ := 15) (fun _ => x_iconst rfl) ?_
    refine w_icmple (t := 51) rfl rfl (show inr (x13_3) from j13_0) (show inr (1) from q_135) (fun b3 => ?_) (fun b3 => ?_)
    · refine Ew_of (pcₚ := 52) (fun _ => x_iconst rfl) ?_
      have : (1 : Int) = fcl ((a2)) ((a1)) := by rw [j13_q, show (x13_3) = 1 by omega]; exact fcn_1.symm
      exact w_ireturn rfl (k (1) _ _ _ H O (cF_13) (cA_13) (show inr (1) from q_135) (show 1 ≤ (1) ∧ (1) ≤ a1 by first | exact q_3159 h3 | omega) (show (1) = fcl (a2) (a1) by assumption))
    · have hc31 : ∀ (tc31_0 : Int), ∀ (ls : rO) (σ : rS) (F_c31 : hF) (A_c31 : hA) , rlook ls 0 = some (I (a1)) → rlook ls 1 = some (I (a2)) → rlook ls 2 = some (I (z1)) → rlook ls 3 = some (I (x13_3)) → HW V199 σ D N F_c31 A_c31 → OUT (V199).length D N σE c s D N σ c s → SF [] F_13 F_c31 → SA [] A_13 A_c31 → (inr (tc31_0)) → ((tc31_0) = bC ((a2)) ((x13_3))) → ((tc31_0) = 2 ∨ (tc31_0) = 3) → Ew 199 (d + 1) 31 ls [I (tc31_0)] σ c s Q := by
       as_aux_lemma =>
        intro tc31_0 ls σ F_c31 A_c31  lc31_0 lc31_1 lc31_2 lc31_3 H O hS_c31 hA_c31     jc31_0 jc31_1 jc31_2
        have cF_c31 : SF oz_D3clsl_0 F F_c31 := SF_trans (cF_13) hS_c31 (any_sub (by decide +kernel))
        have mF_c31 := SFm_of cF_c31 oz_D3cls_5
        have cA_c31 : SA oz_D3clsl_1 A A_c31 := SA_trans (cA_13) hA_c31 (any_subA (by decide +kernel))
        have mA_c31 := SAm_of cA_c31 oz_D3cls_6
        refine Ew_of (pcₚ := 32) (fun _ => x_iload_n rfl lc31_0) ?_
        refine Ew_of (pcₚ := 33) (fun _ => x_iload_n rfl lc31_3) ?_
        refine w_isub rfl ?_
        refine Ew_of (pcₚ := 35) (fun _ => x_iload_n rfl lc31_1) ?_
        refine w_stat24 rfl rfl (by rfl) (C200 (D := puc 0 D) (N := puc 0 N) (HW_subc H oz_D3cls_3 oz_D3cls_7) (show inr ((a1 - x13_3)) from q_3160 b3 h3 j13_0) (show inr (a2) from h1) (show (a2) = 0 ∨ (a2) = 1 from h2) (show 0 ≤ ((a1 - x13_3)) ∧ ((a1 - x13_3)) ≤ 65536 by omega) (fun z4 σ4 F4ₚ A4ₚ Hₚ Oₚ hS4 hA4 pz4_0 pz4_1 pz4_2 => ⟨rfl, ?_⟩))
        refine v_backc (c := c) (s := s) H oz_D3cls_3 oz_D3cls_7 Hₚ Oₚ (fun F4 A4 H Oₚ eF4 eA4 => ?_)
        have O := OUT_trans O Oₚ
        -- Tags.fewest
        have cF4 : SF oz_D3clsl_0 F F4 := SF_trans (cF_c31) (SF_gluc (ι := oz_D3clsl_1) oz_D3cls_7 hS4 eF4 (by decide +kernel)) (any_sub (lₚ := []) (by decide +kernel))
        have mF4 := SFm_of cF4 oz_D3cls_5
        have cA4 : SA oz_D3clsl_1 A A4 := SA_trans (cA_c31) (SA_gluc (ι := oz_D3clsl_1) oz_D3cls_7 hA4 eA4 (by decide +kernel)) (any_subA (lₚ := []) (by decide +kernel))
        have mA4 := SAm_of cA4 oz_D3cls_6
        have hl3 := pz4_2
        refine w_iadd rfl ?_
        refine Ew_of (pcₚ := 40) (fun _ => x_iload_n rfl lc31_2) ?_
        refine w_icmpne (t := 45) rfl rfl (show inr ((tc31_0 + z4)) from q_3161 jc31_2 pz4_1) (show inr (z1) from pz1_0) (fun b5 => ?_) (fun b5 => ?_)
        · have : fcl ((a2)) ((a1)) = fcn ((a2)) ((a1)) ((x13_3) + (-1) : Int).toNat := j13_q.trans (fcn_n (by omega) (by omega) (by omega))
          refine Ew_of (pcₚ := 48) (fun _ => x_iinc (len := 3) rfl (lc31_3)) ?_
          refine Ew_of (pcₚ := 13) (fun _ => x_goto rfl rfl) ?_
          exact ih13 _ (msE hm13 q_3164 (q_3165 b3)) _ _ _ _ ((x13_3 + (-1))) (rk_o (lc31_0) rfl rfl) (rk_o (lc31_1) rfl rfl) (rk_o (lc31_2) rfl rfl) (rk_s) H O (SF_trans (SF_trans (hS_13) hS_c31 (any_sub (by decide +kernel))) (SF_gluc (ι := oz_D3clsl_1) oz_D3cls_7 hS4 eF4 (by decide +kernel)) (any_sub (lₚ := []) (by decide +kernel))) (SA_trans (SA_trans (hA_13) hA_c31 (any_subA (by decide +kernel))) (SA_gluc (ι := oz_D3clsl_1) oz_D3cls_7 hA4 eA4 (by decide +kernel)) (any_subA (lₚ := []) (by decide +kernel)))     (show inr ((x13_3 + (-1))) from q_3163 b3 j13_0) (show ((x13_3 + (-1))) ≤ (z2) from q_554 j13_1) (show (z2) ≤ ((x13_3 + (-1))) ∨ (1) ≤ ((x13_3 + (-1))) from q_3162 b3) (show fcl ((a2)) ((a1)) = fcn ((a2)) ((a1)) (((x13_3 + (-1))) : Int).toNat by assumption) rfl
        · refine Ew_of (pcₚ := 44) (fun _ => x_iload_n rfl lc31_3) ?_
          have : (x13_3) = fcl ((a2)) ((a1)) := by rw [j13_q]; exact (fcn_y (by omega) (by omega)).symm
          exact w_ireturn rfl (k (x13_3) _ _ _ H O (cF4) (cA4) (show inr (x13_3) from j13_0) (show 1 ≤ (x13_3) ∧ (x13_3) ≤ a1 by omega) (show (x13_3) = fcl (a2) (a1) by assumption))
      refine Ew_of (pcₚ := 19) (fun _ => x_iload_n rfl l13_3) ?_
      refine Ew_of (pcₚ := 20) (fun _ => x_iload_n rfl l13_1) ?_
      refine w_stat24 rfl rfl (by rfl) (C198 (D := puc 0 D) (N := puc 0 N) (HW_subc H oz_D3cls_4 oz_D3cls_7) (show inr (x13_3) from j13_0) (show inr (a2) from h1) (show (a2) = 0 ∨ (a2) = 1 from h2) (fun z6 σ6 F6ₚ A6ₚ Hₚ Oₚ hS6 hA6 pz6_0 pz6_1 => ⟨rretB rfl pz6_0, ?_⟩))
      refine v_backc (c := c) (s := s) H oz_D3cls_4 oz_D3cls_7 Hₚ Oₚ (fun F6 A6 H Oₚ eF6 eA6 => ?_)
      have O := OUT_trans O Oₚ
      -- Tags.isShort
      have cF6 : SF oz_D3clsl_0 F F6 := SF_trans (cF_13) (SF_gluc (ι := oz_D3clsl_1) oz_D3cls_7 hS6 eF6 (by decide +kernel)) (any_sub (lₚ := []) (by decide +kernel))
      have mF6 := SFm_of cF6 oz_D3cls_5
      have cA6 : SA oz_D3clsl_1 A A6 := SA_trans (cA_13) (SA_gluc (ι := oz_D3clsl_1) oz_D3cls_7 hA6 eA6 (by decide +kernel)) (any_subA (lₚ := []) (by decide +kernel))
      have mA6 := SAm_of cA6 oz_D3cls_6
      refine w_ifeq (t := 30) rfl rfl (show inr (z6) from q_138 pz6_0) (fun b7 => ?_) (fun b7 => ?_)
      · refine Ew_of (pcₚ := 31) (fun _ => x_iconst rfl) ?_
        have hbc := bC_eq ((a2)) ((x13_3))
        exact hc31 (3) _ _ _ _  (l13_0) (l13_1) (l13_2) (l13_3) H O (SF_trans (SF_refl) (SF_gluc (ι := oz_D3clsl_1) oz_D3cls_7 hS6 eF6 (by decide +kernel)) (any_sub (lₚ := []) (by decide +kernel))) (SA_trans (SA_refl) (SA_gluc (ι := oz_D3clsl_1) oz_D3cls_7 hA6 eA6 (by decide +kernel)) (any_subA (lₚ := []) (by decide +kernel)))     (show inr (3) from q_246) (show (3) = bC ((a2)) ((x13_3)) by omega) (show (3) = 2 ∨ (3) = 3 from q_3166)
      · refine Ew_of (pcₚ := 27) (fun _ => x_iconst rfl) ?_
        refine Ew_of (pcₚ := 31) (fun _ => x_goto rfl rfl) ?_
        have hbc := bC_eq ((a2)) ((x13_3))
        exact hc31 (2) _ _ _ _  (l13_0) (l13_1) (l13_2) (l13_3) H O (SF_trans (SF_refl) (SF_gluc (ι := oz_D3clsl_1) oz_D3cls_7 hS6 eF6 (by decide +kernel)) (any_sub (lₚ := []) (by decide +kernel))) (SA_trans (SA_refl) (SA_gluc (ι := oz_D3clsl_1) oz_D3cls_7 hA6 eA6 (by decide +kernel)) (any_subA (lₚ := []) (by decide +kernel)))     (show inr (2) from q_122) (show (2) = bC ((a2)) ((x13_3)) by omega) (show (2) = 2 ∨ (2) = 3 from q_3167)
abbrev V195_Row : vV := [(0, 7, [(4, 0), (0, 0), (1, 0), (0, 0), (0, 0)]), (1, 0, [])]
theorem len_V195_Row_oz_D3cls : (V195_Row).length = 2 := by decide +kernel
theorem oz_D3cls_9 : vsub V195_Row V159 [0, 1] = true := by decide +kernel
theorem oz_D3cls_10 : vmov V195_Row [0, 1] [1] = true := by decide +kernel
def oz_D3clsl_2 : List (Nat × Nat) := [(0, 0), (0, 1), (0, 2)]
theorem oz_D3cls_11 : (oz_D3clsl_2).all (fun p => !tbz 7 (Nat.add (Nat.mul 32 p.1) p.2)) = true := by decide +kernel
def oz_D3clsl_3 : List Nat := [1]
theorem oz_D3cls_12 : (oz_D3clsl_3).all (fun p => !tbz 2 p) = true := by decide +kernel
def oz_D3clsl_4 : List Nat := [0, 1]
theorem oz_D3cls_13 : okc oz_D3clsl_4 512 = true := by decide +kernel

theorem C195_Row {σE : rS} {D N : Nat → Nat} {F : hF} {A : hA} {d c s : Nat} {Q : wQ} (H : HW V195_Row σE D N F A) {a2 : Int} (pf1 : F 0 0 = (D 1 : Int)) (n1 : Int) (en1 : (N 1 : Int) = n1) (u0_1 : Int) (eu0_1 : F 0 1 = u0_1) (u0_2 : Int) (eu0_2 : F 0 2 = u0_2) (w1 : Int → Int) (ew1 : A 1 = w1) (h0 : inr (a2)) (h1 : 0 ≤ (u0_1) ∧ (u0_1) ≤ (n1) ∧ (n1) ≤ 65536) (h2 : 0 ≤ (a2) ∧ (a2) ≤ 65536) (k : ∀ (σ : rS) (Dₚ Nₚ : Nat → Nat) (Fₚ : hF) (Aₚ : hA) (cₚ sₚ : Nat), HW V195_Row σ Dₚ Nₚ Fₚ Aₚ → OUT (V195_Row).length D N σE c s Dₚ Nₚ σ cₚ sₚ → SD [1] D Dₚ → SD [1] N Nₚ → SF [(0, 0), (0, 1), (0, 2)] F Fₚ → SA [1] A Aₚ → Fₚ 0 0 = (Dₚ 1 : Int) → ∀ m1 : Int, (Nₚ 1 : Int) = m1 → ∀ y0_1 : Int, Fₚ 0 1 = y0_1 → ∀ y0_2 : Int, Fₚ 0 2 = y0_2 → ∀ v1 : Int → Int, Aₚ 1 = v1 → (0 ≤ (y0_1) ∧ (y0_1) ≤ (m1) ∧ (m1) ≤ 65536) → (RAP ((u0_2)) ((w1)) ((u0_1)) ((y0_2)) ((v1)) ((y0_1)) (vlr ((a2)))) → Q none σ cₚ sₚ) : Ew 195 (d + 3) 0 (rargs 0 [.ref (D 0), I a2]) [] σE c s Q := by
  have O := OUT_refl (n := (V195_Row).length) (D := D) (N := N) (σ := σE) (c := c) (s := s)
  have HE := H
  have r1 : (-2147483648 : Int) ≤ u0_1 ∧ u0_1 ≤ 2147483647 := rngE (show (-2147483648 : Int) ≤ F 0 1 ∧ F 0 1 ≤ 2147483647 from H.krg 0 1 (ltn len_V195_Row_oz_D3cls rfl)) (show F 0 1 = u0_1 from (eu0_1))
  have r2 : (0 : Int) ≤ u0_2 ∧ u0_2 ≤ 1 := rngE (show (0 : Int) ≤ F 0 2 ∧ F 0 2 ≤ 1 from H.krg 0 2 (ltn len_V195_Row_oz_D3cls rfl)) (show F 0 2 = u0_2 from (eu0_2))
  have r3 : (0 : Int) ≤ n1 ∧ n1 ≤ 1000000 := nleE (H.nle 1 (ltn len_V195_Row_oz_D3cls rfl)) (show (N 1 : Int) = n1 from en1)
  refine Ew_of (pcₚ := 1) (fun _ => x_iload_n rfl rfl) ?_
  refine Ew_of (pcₚ := 2) (fun _ => x_istore_n rfl) ?_
  refine Ew_of (pcₚ := 3) (fun _ => x_iconst rfl) ?_
  refine Ew_of (pcₚ := 4) (fun _ => x_istore_n rfl) ?_
  have : RTO ((u0_2)) ((w1)) ((u0_1)) ((u0_2)) ((w1)) ((u0_1)) (vlr ((a2))) (vlr ((a2))) := RTO_0
  suffices hl4 : ∀ (m : Nat), ∀ (ls : rO) (σ : rS) (D_4 N_4 : Nat → Nat) (c_4 s_4 : Nat) (F_4 : hF) (A_4 : hA) (x4_2 : Int) (x4_3 : Int), rlook ls 0 = some (.ref (D_4 0)) → rlook ls 2 = some (I (x4_2)) → rlook ls 3 = some (I (x4_3)) → HW V195_Row σ D_4 N_4 F_4 A_4 → OUT (V195_Row).length D N σE c s D_4 N_4 σ c_4 s_4 → SD [1] D D_4 → SD [1] N N_4 → SF [(0, 0), (0, 1), (0, 2)] F F_4 → SA [1] A A_4 → F_4 0 0 = (D_4 1 : Int) → ∀ m4_1 : Int, (N_4 1 : Int) = m4_1 → ∀ y4_0_1 : Int, F_4 0 1 = y4_0_1 → ∀ y4_0_2 : Int, F_4 0 2 = y4_0_2 → ∀ w4_1 : Int → Int, A_4 1 = w4_1 → (inr (x4_2)) → (inr (x4_3)) → ((0) ≤ (x4_3)) → ((x4_3) ≤ (0) ∨ (x4_3) ≤ (4)) → (0 ≤ (y4_0_1) ∧ (y4_0_1) ≤ (m4_1) ∧ (m4_1) ≤ 65536) → ((x4_3) = 0 ∧ (x4_2) ≤ 65536 ∨ (x4_3) = 1 ∧ (x4_2) ≤ 512 ∨ 2 ≤ (x4_3) ∧ (x4_2) ≤ 4) → (0 ≤ (x4_2)) → (RTO ((u0_2)) ((w1)) ((u0_1)) ((y4_0_2)) ((w4_1)) ((y4_0_1)) (vlr ((a2))) (vlr ((x4_2)))) → ((4) - (x4_3)).toNat = m → Ew 195 (d + 3) 4 ls [] σ c_4 s_4 Q from
    hl4 _ _ _ _ _ _ _ _ _ (a2) (0) (rk_o (rk_o (rfl) rfl rfl) rfl rfl) (rk_o (rk_s) rfl rfl) (rk_s) H O (SD_refl) (SD_refl) (SF_refl) (SA_refl) (pf1) (n1) (en1) (u0_1) ((eu0_1)) (u0_2) ((eu0_2)) (w1) (ew1) (show inr (a2) from h0) (show inr (0) from q_2) (show (0) ≤ (0) from q_1) (show (0) ≤ (0) ∨ (0) ≤ (4) from q_603) (show 0 ≤ (u0_1) ∧ (u0_1) ≤ (n1) ∧ (n1) ≤ 65536 from h1) (show (0) = 0 ∧ (a2) ≤ 65536 ∨ (0) = 1 ∧ (a2) ≤ 512 ∨ 2 ≤ (0) ∧ (a2) ≤ 4 from q_3169 h2) (show 0 ≤ (a2) from q_3168 h2) (show RTO ((u0_2)) ((w1)) ((u0_1)) ((u0_2)) ((w1)) ((u0_1)) (vlr ((a2))) (vlr ((a2))) by assumption) rfl
  as_aux_lemma =>
  intro m
  induction m using Nat.strongRecOn with
  | _ m ih4 =>
    intro ls σ D_4 N_4 c_4 s_4 F_4 A_4 x4_2 x4_3 l4_0 l4_2 l4_3 H O hD_4 hN_4 hS_4 hA_4 pm4_1 m4_1 em4_1 y4_0_1 ey4_0_1 y4_0_2 ey4_0_2 w4_1 ew4_1 j4_0 j4_1 j4_2 j4_3 j4_4 j4_5 j4_6 j4_7 hm4
    have cF_4 : SF oz_D3clsl_2 F F_4 := SF_trans (SF_refl) hS_4 (any_sub (by decide +kernel))
    have mF_4 := SFm_of cF_4 oz_D3cls_11
    have cA_4 : SA oz_D3clsl_3 A A_4 := SA_trans (SA_refl) hA_4 (any_subA (by decide +kernel))
    have mA_4 := SAm_of cA_4 oz_D3cls_12
    have cD_4 : SD oz_D3clsl_3 D D_4 := SD_trans (SD_refl) hD_4 (any_subA (by decide +kernel))
    have mD_4 := SDm_of cD_4 oz_D3cls_12
    have cN_4 : SD oz_D3clsl_3 N N_4 := SD_trans (SD_refl) hN_4 (any_subA (by decide +kernel))
    have mN_4 := SDm_of cN_4 oz_D3cls_12
    have r4 : (0 : Int) ≤ m4_1 ∧ m4_1 ≤ 1000000 := nleE (H.nle 1 (ltn len_V195_Row_oz_D3cls rfl)) (show (N_4 1 : Int) = m4_1 from em4_1)
    have r5 : (-2147483648 : Int) ≤ y4_0_1 ∧ y4_0_1 ≤ 2147483647 := rngE (show (-2147483648 : Int) ≤ F_4 0 1 ∧ F_4 0 1 ≤ 2147483647 from H.krg 0 1 (ltn len_V195_Row_oz_D3cls rfl)) (show F_4 0 1 = y4_0_1 from (ey4_0_1))
    have r6 : (0 : Int) ≤ y4_0_2 ∧ y4_0_2 ≤ 1 := rngE (show (0 : Int) ≤ F_4 0 2 ∧ F_4 0 2 ≤ 1 from H.krg 0 2 (ltn len_V195_Row_oz_D3cls rfl)) (show F_4 0 2 = y4_0_2 from (ey4_0_2))
    have j4_q : RTO ((u0_2)) ((w1)) ((u0_1)) ((y4_0_2)) ((w4_1)) ((y4_0_1)) (vlr ((a2))) (vlr ((x4_2))) := j4_7
    refine Ew_of (pcₚ := 5) (fun _ => x_iload_n rfl l4_3) ?_
    refine Ew_of (pcₚ := 6) (fun _ => x_iconst rfl) ?_
    refine w_icmpge (t := 39) rfl rfl (show inr (x4_3) from j4_1) (show inr (4) from q_216) (fun b7 => ?_) (fun b7 => ?_)
    · refine Ew_of (pcₚ := 40) (fun _ => x_aload_n rfl l4_0) ?_
      refine Ew_of (pcₚ := 41) (fun _ => x_iload_n rfl l4_2) ?_
      refine v_inv H (o := 0) rfl rfl rfl rfl rfl rfl (by rfl) (C159 (D := puc 512 D_4) (N := puc 512 N_4) (HW_subc H oz_D3cls_9 oz_D3cls_13) (pm4_1) (m4_1) (em4_1) (y4_0_1) ((ey4_0_1)) (y4_0_2) ((ey4_0_2)) (w4_1) (ew4_1) (show inr (x4_2) from j4_0) (show 0 ≤ (y4_0_1) ∧ (y4_0_1) ≤ (m4_1) ∧ (m4_1) ≤ 65536 from j4_4) (fun σ8 D8ₚ N8ₚ F8ₚ A8ₚ c8 s8 Hₚ Oₚ hD8 hN8 hS8 hA8 pm8_1 m8_1 em8_1 y8_0_1 ey8_0_1 y8_0_2 ey8_0_2 w8_1 ew8_1 pz8_0 pz8_1 pz8_2 pz8_3 => ⟨rfl, ?_⟩))
      refine v_backMc (c := c_4) (s := s_4) H oz_D3cls_9 oz_D3cls_13 Hₚ Oₚ hD8 oz_D3cls_10 (fun D8 N8 F8 A8 H Oₚ eD8 eN8 eF8 eA8 => ?_)
      have O := OUT_trans O Oₚ
      -- Row.add
      have cF8 : SF oz_D3clsl_2 F F8 := SF_trans (cF_4) (SF_gluc (ι := oz_D3clsl_4) oz_D3cls_13 hS8 eF8 (by decide +kernel)) (any_sub (lₚ := [(0, 0), (0, 1), (0, 2)]) (by decide +kernel))
      have mF8 := SFm_of cF8 oz_D3cls_11
      have cA8 : SA oz_D3clsl_3 A A8 := SA_trans (cA_4) (SA_gluc (ι := oz_D3clsl_4) oz_D3cls_13 hA8 eA8 (by decide +kernel)) (any_subA (lₚ := [1]) (by decide +kernel))
      have mA8 := SAm_of cA8 oz_D3cls_12
      have cD8 : SD oz_D3clsl_3 D D8 := SD_trans (cD_4) (SD_gluc (ι := oz_D3clsl_4) oz_D3cls_13 hD8 eD8 (by decide +kernel)) (any_subA (lₚ := [1]) (by decide +kernel))
      have mD8 := SDm_of cD8 oz_D3cls_12
      have cN8 : SD oz_D3clsl_3 N N8 := SD_trans (cN_4) (SD_gluc (ι := oz_D3clsl_4) oz_D3cls_13 hN8 eN8 (by decide +kernel)) (any_subA (lₚ := [1]) (by decide +kernel))
      have mN8 := SDm_of cN8 oz_D3cls_12
      have pf8_0_0 : F8 0 0 = (D8 1 : Int) := (eF8 0 0).trans (pm8_1.trans (congrArg (fun q : Nat => (q : Int)) (eD8 1).symm))
      have r9 : (0 : Int) ≤ m8_1 ∧ m8_1 ≤ 1000000 := nleE (H.nle 1 (ltn len_V195_Row_oz_D3cls rfl)) (show (N8 1 : Int) = m8_1 from (congrArg (fun q : Nat => (q : Int)) (eN8 1)).trans em8_1)
      have r10 : (-2147483648 : Int) ≤ y8_0_1 ∧ y8_0_1 ≤ 2147483647 := rngE (show (-2147483648 : Int) ≤ F8 0 1 ∧ F8 0 1 ≤ 2147483647 from H.krg 0 1 (ltn len_V195_Row_oz_D3cls rfl)) (show F8 0 1 = y8_0_1 from ((eF8 0 1).trans ey8_0_1))
      have r11 : (0 : Int) ≤ y8_0_2 ∧ y8_0_2 ≤ 1 := rngE (show (0 : Int) ≤ F8 0 2 ∧ F8 0 2 ≤ 1 from H.krg 0 2 (ltn len_V195_Row_oz_D3cls rfl)) (show F8 0 2 = y8_0_2 from ((eF8 0 2).trans ey8_0_2))
      have : RAP ((u0_2)) ((w1)) ((u0_1)) ((y8_0_2)) ((w8_1)) ((y8_0_1)) (vlr ((a2))) := RTO_e j4_q (by rw [vlr_0 (by omega)]; have h := pz8_3; rw [u8_id (by omega)] at h; exact h)
      exact w_ret rfl (k _ _ _ _ _ _ _ H O (cD8) (cN8) (cF8) (cA8) (pf8_0_0) (m8_1) ((congrArg (fun q : Nat => (q : Int)) (eN8 1)).trans em8_1) (y8_0_1) (((eF8 0 1).trans ey8_0_1)) (y8_0_2) (((eF8 0 2).trans ey8_0_2)) (w8_1) ((eA8 1).trans ew8_1) (show 0 ≤ (y8_0_1) ∧ (y8_0_1) ≤ (m8_1) ∧ (m8_1) ≤ 65536 from pz8_0) (show RAP ((u0_2)) ((w1)) ((u0_1)) ((y8_0_2)) ((w8_1)) ((y8_0_1)) (vlr (a2)) by assumption))
    · refine Ew_of (pcₚ := 10) (fun _ => x_iload_n rfl l4_2) ?_
      refine Ew_of (pcₚ := 13) (fun _ => x_sipush (z := 128) rfl (by decide)) ?_
      refine w_icmplt (t := 39) rfl rfl (show inr (x4_2) from j4_0) (show inr (128) from q_313) (fun b12 => ?_) (fun b12 => ?_)
      · refine Ew_of (pcₚ := 40) (fun _ => x_aload_n rfl l4_0) ?_
        refine Ew_of (pcₚ := 41) (fun _ => x_iload_n rfl l4_2) ?_
        refine v_inv H (o := 0) rfl rfl rfl rfl rfl rfl (by rfl) (C159 (D := puc 512 D_4) (N := puc 512 N_4) (HW_subc H oz_D3cls_9 oz_D3cls_13) (pm4_1) (m4_1) (em4_1) (y4_0_1) ((ey4_0_1)) (y4_0_2) ((ey4_0_2)) (w4_1) (ew4_1) (show inr (x4_2) from j4_0) (show 0 ≤ (y4_0_1) ∧ (y4_0_1) ≤ (m4_1) ∧ (m4_1) ≤ 65536 from j4_4) (fun σ13 D13ₚ N13ₚ F13ₚ A13ₚ c13 s13 Hₚ Oₚ hD13 hN13 hS13 hA13 pm13_1 m13_1 em13_1 y13_0_1 ey13_0_1 y13_0_2 ey13_0_2 w13_1 ew13_1 pz13_0 pz13_1 pz13_2 pz13_3 => ⟨rfl, ?_⟩))
        refine v_backMc (c := c_4) (s := s_4) H oz_D3cls_9 oz_D3cls_13 Hₚ Oₚ hD13 oz_D3cls_10 (fun D13 N13 F13 A13 H Oₚ eD13 eN13 eF13 eA13 => ?_)
        have O := OUT_trans O Oₚ
        -- Row.add
        have cF13 : SF oz_D3clsl_2 F F13 := SF_trans (cF_4) (SF_gluc (ι := oz_D3clsl_4) oz_D3cls_13 hS13 eF13 (by decide +kernel)) (any_sub (lₚ := [(0, 0), (0, 1), (0, 2)]) (by decide +kernel))
        have mF13 := SFm_of cF13 oz_D3cls_11
        have cA13 : SA oz_D3clsl_3 A A13 := SA_trans (cA_4) (SA_gluc (ι := oz_D3clsl_4) oz_D3cls_13 hA13 eA13 (by decide +kernel)) (any_subA (lₚ := [1]) (by decide +kernel))
        have mA13 := SAm_of cA13 oz_D3cls_12
        have cD13 : SD oz_D3clsl_3 D D13 := SD_trans (cD_4) (SD_gluc (ι := oz_D3clsl_4) oz_D3cls_13 hD13 eD13 (by decide +kernel)) (any_subA (lₚ := [1]) (by decide +kernel))
        have mD13 := SDm_of cD13 oz_D3cls_12
        have cN13 : SD oz_D3clsl_3 N N13 := SD_trans (cN_4) (SD_gluc (ι := oz_D3clsl_4) oz_D3cls_13 hN13 eN13 (by decide +kernel)) (any_subA (lₚ := [1]) (by decide +kernel))
        have mN13 := SDm_of cN13 oz_D3cls_12
        have pf13_0_0 : F13 0 0 = (D13 1 : Int) := (eF13 0 0).trans (pm13_1.trans (congrArg (fun q : Nat => (q : Int)) (eD13 1).symm))
        have r14 : (0 : Int) ≤ m13_1 ∧ m13_1 ≤ 1000000 := nleE (H.nle 1 (ltn len_V195_Row_oz_D3cls rfl)) (show (N13 1 : Int) = m13_1 from (congrArg (fun q : Nat => (q : Int)) (eN13 1)).trans em13_1)
        have r15 : (-2147483648 : Int) ≤ y13_0_1 ∧ y13_0_1 ≤ 2147483647 := rngE (show (-2147483648 : Int) ≤ F13 0 1 ∧ F13 0 1 ≤ 2147483647 from H.krg 0 1 (ltn len_V195_Row_oz_D3cls rfl)) (show F13 0 1 = y13_0_1 from ((eF13 0 1).trans ey13_0_1))
        have r16 : (0 : Int) ≤ y13_0_2 ∧ y13_0_2 ≤ 1 := rngE (show (0 : Int) ≤ F13 0 2 ∧ F13 0 2 ≤ 1 from H.krg 0 2 (ltn len_V195_Row_oz_D3cls rfl)) (show F13 0 2 = y13_0_2 from ((eF13 0 2).trans ey13_0_2))
        have : RAP ((u0_2)) ((w1)) ((u0_1)) ((y13_0_2)) ((w13_1)) ((y13_0_1)) (vlr ((a2))) := RTO_e j4_q (by rw [vlr_0 (by omega)]; have h := pz13_3; rw [u8_id (by omega)] at h; exact h)
        exact w_ret rfl (k _ _ _ _ _ _ _ H O (cD13) (cN13) (cF13) (cA13) (pf13_0_0) (m13_1) ((congrArg (fun q : Nat => (q : Int)) (eN13 1)).trans em13_1) (y13_0_1) (((eF13 0 1).trans ey13_0_1)) (y13_0_2) (((eF13 0 2).trans ey13_0_2)) (w13_1) ((eA13 1).trans ew13_1) (show 0 ≤ (y13_0_1) ∧ (y13_0_1) ≤ (m13_1) ∧ (m13_1) ≤ 65536 from pz13_0) (show RAP ((u0_2)) ((w1)) ((u0_1)) ((y13_0_2)) ((w13_1)) ((y13_0_1)) (vlr (a2)) by assumption))
      · refine Ew_of (pcₚ := 17) (fun _ => x_aload_n rfl l4_0) ?_
        refine Ew_of (pcₚ := 18) (fun _ => x_iload_n rfl l4_2) ?_
        refine Ew_of (pcₚ := 20) (fun _ => x_bipush (z := 127) rfl (by decide)) ?_
        refine w_iandE rfl (show inr (x4_2) from j4_0) (show inr (127) from q_1119) (fun z17 gz17 gaz17 gbz17 gez17 => ?_)
        have hg127 := gez17
        refine Ew_of (pcₚ := 24) (fun _ => x_sipush (z := 128) rfl (by decide)) ?_
        refine w_iorE rfl ?_
        have g18 : inr (orI (z17) (128)) := toI_inr _
        refine v_inv H (o := 0) rfl rfl rfl rfl rfl rfl (by rfl) (C159 (D := puc 512 D_4) (N := puc 512 N_4) (HW_subc H oz_D3cls_9 oz_D3cls_13) (pm4_1) (m4_1) (em4_1) (y4_0_1) ((ey4_0_1)) (y4_0_2) ((ey4_0_2)) (w4_1) (ew4_1) (show inr ((orI (z17) (128))) from g18) (show 0 ≤ (y4_0_1) ∧ (y4_0_1) ≤ (m4_1) ∧ (m4_1) ≤ 65536 from j4_4) (fun σ19 D19ₚ N19ₚ F19ₚ A19ₚ c19 s19 Hₚ Oₚ hD19 hN19 hS19 hA19 pm19_1 m19_1 em19_1 y19_0_1 ey19_0_1 y19_0_2 ey19_0_2 w19_1 ew19_1 pz19_0 pz19_1 pz19_2 pz19_3 => ⟨rfl, ?_⟩))
        refine v_backMc (c := c_4) (s := s_4) H oz_D3cls_9 oz_D3cls_13 Hₚ Oₚ hD19 oz_D3cls_10 (fun D19 N19 F19 A19 H Oₚ eD19 eN19 eF19 eA19 => ?_)
        have O := OUT_trans O Oₚ
        -- Row.add
        have cF19 : SF oz_D3clsl_2 F F19 := SF_trans (cF_4) (SF_gluc (ι := oz_D3clsl_4) oz_D3cls_13 hS19 eF19 (by decide +kernel)) (any_sub (lₚ := [(0, 0), (0, 1), (0, 2)]) (by decide +kernel))
        have mF19 := SFm_of cF19 oz_D3cls_11
        have cA19 : SA oz_D3clsl_3 A A19 := SA_trans (cA_4) (SA_gluc (ι := oz_D3clsl_4) oz_D3cls_13 hA19 eA19 (by decide +kernel)) (any_subA (lₚ := [1]) (by decide +kernel))
        have mA19 := SAm_of cA19 oz_D3cls_12
        have cD19 : SD oz_D3clsl_3 D D19 := SD_trans (cD_4) (SD_gluc (ι := oz_D3clsl_4) oz_D3cls_13 hD19 eD19 (by decide +kernel)) (any_subA (lₚ := [1]) (by decide +kernel))
        have mD19 := SDm_of cD19 oz_D3cls_12
        have cN19 : SD oz_D3clsl_3 N N19 := SD_trans (cN_4) (SD_gluc (ι := oz_D3clsl_4) oz_D3cls_13 hN19 eN19 (by decide +kernel)) (any_subA (lₚ := [1]) (by decide +kernel))
        have mN19 := SDm_of cN19 oz_D3cls_12
        have pf19_0_0 : F19 0 0 = (D19 1 : Int) := (eF19 0 0).trans (pm19_1.trans (congrArg (fun q : Nat => (q : Int)) (eD19 1).symm))
        have r20 : (0 : Int) ≤ m19_1 ∧ m19_1 ≤ 1000000 := nleE (H.nle 1 (ltn len_V195_Row_oz_D3cls rfl)) (show (N19 1 : Int) = m19_1 from (congrArg (fun q : Nat => (q : Int)) (eN19 1)).trans em19_1)
        have r21 : (-2147483648 : Int) ≤ y19_0_1 ∧ y19_0_1 ≤ 2147483647 := rngE (show (-2147483648 : Int) ≤ F19 0 1 ∧ F19 0 1 ≤ 2147483647 from H.krg 0 1 (ltn len_V195_Row_oz_D3cls rfl)) (show F19 0 1 = y19_0_1 from ((eF19 0 1).trans ey19_0_1))
        have r22 : (0 : Int) ≤ y19_0_2 ∧ y19_0_2 ≤ 1 := rngE (show (0 : Int) ≤ F19 0 2 ∧ F19 0 2 ≤ 1 from H.krg 0 2 (ltn len_V195_Row_oz_D3cls rfl)) (show F19 0 2 = y19_0_2 from ((eF19 0 2).trans ey19_0_2))
        have hp0 := pz19_3
        rw [← hg127, or128] at hp0
        refine Ew_of (pcₚ := 29) (fun _ => x_iload_n rfl l4_2) ?_
        refine Ew_of (pcₚ := 31) (fun _ => x_bipush (z := 7) rfl (by decide)) ?_
        refine w_iushrE rfl ?_
        have g23 : inr (usI (x4_2) (7)) := toI_inr _
        have hus : ((usI (x4_2) (7))) = (x4_2) / 128 := us7 (by omega)
        have : RTO ((u0_2)) ((w1)) ((u0_1)) ((y19_0_2)) ((w19_1)) ((y19_0_1)) (vlr ((a2))) (vlr (((usI (x4_2) (7))))) := by rw [hus]; exact RTO_s j4_q (vlr_s (by omega) rfl) hp0
        refine Ew_of (pcₚ := 33) (fun _ => x_istore_n rfl) ?_
        refine Ew_of (pcₚ := 36) (fun _ => x_iinc (len := 3) rfl (rk_o (l4_3) rfl rfl)) ?_
        refine Ew_of (pcₚ := 4) (fun _ => x_goto rfl rfl) ?_
        exact ih4 _ (msE hm4 q_612 (q_613 b7)) _ _ _ _ _ _ _ _ ((usI (x4_2) (7))) ((x4_3 + 1)) ((rk_o (rk_o (l4_0) rfl rfl) rfl rfl).trans (congrArg (fun q : Nat => some (Value.ref q)) (((show D19 0 = D_4 0 from (eD19 0).trans (hD19 0 rfl)))).symm)) (rk_o (rk_s) rfl rfl) (rk_s) H O (SD_trans (hD_4) (SD_gluc (ι := oz_D3clsl_4) oz_D3cls_13 hD19 eD19 (by decide +kernel)) (any_subA (lₚ := [1]) (by decide +kernel))) (SD_trans (hN_4) (SD_gluc (ι := oz_D3clsl_4) oz_D3cls_13 hN19 eN19 (by decide +kernel)) (any_subA (lₚ := [1]) (by decide +kernel))) (SF_trans (hS_4) (SF_gluc (ι := oz_D3clsl_4) oz_D3cls_13 hS19 eF19 (by decide +kernel)) (any_sub (lₚ := [(0, 0), (0, 1), (0, 2)]) (by decide +kernel))) (SA_trans (hA_4) (SA_gluc (ι := oz_D3clsl_4) oz_D3cls_13 hA19 eA19 (by decide +kernel)) (any_subA (lₚ := [1]) (by decide +kernel))) (pf19_0_0) (m19_1) ((congrArg (fun q : Nat => (q : Int)) (eN19 1)).trans em19_1) (y19_0_1) (((eF19 0 1).trans ey19_0_1)) (y19_0_2) (((eF19 0 2).trans ey19_0_2)) (w19_1) ((eA19 1).trans ew19_1) (show inr ((usI (x4_2) (7))) from g23) (show inr ((x4_3 + 1)) from q_610 b7 j4_2) (show (0) ≤ ((x4_3 + 1)) from q_14 j4_2) (show ((x4_3 + 1)) ≤ (0) ∨ ((x4_3 + 1)) ≤ (4) from q_609 b7) (show 0 ≤ (y19_0_1) ∧ (y19_0_1) ≤ (m19_1) ∧ (m19_1) ≤ 65536 from pz19_0) (show ((x4_3 + 1)) = 0 ∧ ((usI (x4_2) (7))) ≤ 65536 ∨ ((x4_3 + 1)) = 1 ∧ ((usI (x4_2) (7))) ≤ 512 ∨ 2 ≤ ((x4_3 + 1)) ∧ ((usI (x4_2) (7))) ≤ 4 by omega) (show 0 ≤ ((usI (x4_2) (7))) by omega) (show RTO ((u0_2)) ((w1)) ((u0_1)) ((y19_0_2)) ((w19_1)) ((y19_0_1)) (vlr ((a2))) (vlr (((usI (x4_2) (7))))) by assumption) rfl
abbrev V196_Row : vV := [(0, 10, [(4, 0), (4, 0), (4, 0), (4, 0), (0, 0), (4, 0), (0, 0), (2, 0), (0, 0)]), (0, 7, [(4, 0), (0, 0), (1, 0), (0, 0), (0, 0)]), (1, 0, []), (0, 5, [(4, 0), (4, 0), (4, 0), (4, 0), (0, 0), (0, 0), (0, 0), (4, 0), (4, 0), (0, 0), (0, 0), (0, 0), (0, 0), (0, 0), (0, 0), (0, 0), (0, 0), (0, 0), (0, 0)]), (0, 7, [(4, 0), (0, 0), (1, 0), (0, 0), (0, 0)]), (1, 0, [])]
theorem len_V196_Row_oz_D3cls : (V196_Row).length = 6 := by decide +kernel
theorem oz_D3cls_15 : vsub V196_Row V161_Br [1, 5, 2] = true := by decide +kernel
theorem oz_D3cls_16 : vmov V196_Row [1, 5, 2] [2] = true := by decide +kernel
theorem oz_D3cls_17 : vsub V196_Row V159 [1, 2] = true := by decide +kernel
theorem oz_D3cls_18 : vmov V196_Row [1, 2] [1] = true := by decide +kernel
theorem oz_D3cls_19 : vsub V196_Row V160 [1, 2] = true := by decide +kernel
def oz_D3clsl_5 : List (Nat × Nat) := [(1, 0), (1, 1), (1, 2)]
theorem oz_D3cls_20 : (oz_D3clsl_5).all (fun p => !tbz 30064771072 (Nat.add (Nat.mul 32 p.1) p.2)) = true := by decide +kernel
def oz_D3clsl_6 : List Nat := [2]
theorem oz_D3cls_21 : (oz_D3clsl_6).all (fun p => !tbz 4 p) = true := by decide +kernel
def oz_D3clsl_7 : List Nat := [1, 5, 2]
theorem oz_D3cls_22 : okc oz_D3clsl_7 526849 = true := by decide +kernel
def oz_D3clsl_8 : List Nat := [1, 2]
theorem oz_D3cls_23 : okc oz_D3clsl_8 1025 = true := by decide +kernel

theorem C196_Row {σE : rS} {D N : Nat → Nat} {F : hF} {A : hA} {d c s : Nat} {Q : wQ} (H : HW V196_Row σE D N F A) {a2 a3 : Int} (pf2 : F 1 0 = (D 2 : Int)) (pf3 : F 0 1 = (D 3 : Int)) (pf4 : F 3 0 = (D 4 : Int)) (pf5 : F 4 0 = (D 5 : Int)) (n2 : Int) (en2 : (N 2 : Int) = n2) (n5 : Int) (en5 : (N 5 : Int) = n5) (u1_1 : Int) (eu1_1 : F 1 1 = u1_1) (u1_2 : Int) (eu1_2 : F 1 2 = u1_2) (u4_1 : Int) (eu4_1 : F 4 1 = u4_1) (w2 : Int → Int) (ew2 : A 2 = w2) (w5 : Int → Int) (ew5 : A 5 = w5) (h0 : inr (a2)) (h1 : inr (a3)) (h2 : 0 ≤ (u1_1) ∧ (u1_1) ≤ (n2) ∧ (n2) ≤ 65536) (h3 : 0 ≤ (u4_1) ∧ (u4_1) ≤ (n5) ∧ (n5) ≤ 65536) (h4 : 0 ≤ (a2) ∧ 0 ≤ (a3) ∧ (a2) + (a3) ≤ (n5)) (k : ∀ (σ : rS) (Dₚ Nₚ : Nat → Nat) (Fₚ : hF) (Aₚ : hA) (cₚ sₚ : Nat), HW V196_Row σ Dₚ Nₚ Fₚ Aₚ → OUT (V196_Row).length D N σE c s Dₚ Nₚ σ cₚ sₚ → SD [2] D Dₚ → SD [2] N Nₚ → SF [(1, 0), (1, 1), (1, 2)] F Fₚ → SA [2] A Aₚ → Fₚ 1 0 = (Dₚ 2 : Int) → ∀ m2 : Int, (Nₚ 2 : Int) = m2 → ∀ y1_1 : Int, Fₚ 1 1 = y1_1 → ∀ y1_2 : Int, Fₚ 1 2 = y1_2 → ∀ v2 : Int → Int, Aₚ 2 = v2 → (0 ≤ (y1_1) ∧ (y1_1) ≤ (m2) ∧ (m2) ≤ 65536) → (RAP ((u1_2)) ((w2)) ((u1_1)) ((y1_2)) ((v2)) ((y1_1)) (tgl (sc ((w5)) ((a2)) ((a2) + (a3))))) → Q none σ cₚ sₚ) : Ew 196 (d + 3) 0 (rargs 0 [.ref (D 0), .ref (D 1), I a2, I a3]) [] σE c s Q := by
  have O := OUT_refl (n := (V196_Row).length) (D := D) (N := N) (σ := σE) (c := c) (s := s)
  have HE := H
  have r1 : (-2147483648 : Int) ≤ u1_1 ∧ u1_1 ≤ 2147483647 := rngE (show (-2147483648 : Int) ≤ F 1 1 ∧ F 1 1 ≤ 2147483647 from H.krg 1 1 (ltn len_V196_Row_oz_D3cls rfl)) (show F 1 1 = u1_1 from (eu1_1))
  have r2 : (0 : Int) ≤ u1_2 ∧ u1_2 ≤ 1 := rngE (show (0 : Int) ≤ F 1 2 ∧ F 1 2 ≤ 1 from H.krg 1 2 (ltn len_V196_Row_oz_D3cls rfl)) (show F 1 2 = u1_2 from (eu1_2))
  have r3 : (-2147483648 : Int) ≤ u4_1 ∧ u4_1 ≤ 2147483647 := rngE (show (-2147483648 : Int) ≤ F 4 1 ∧ F 4 1 ≤ 2147483647 from H.krg 4 1 (ltn len_V196_Row_oz_D3cls rfl)) (show F 4 1 = u4_1 from (eu4_1))
  have r4 : (0 : Int) ≤ n2 ∧ n2 ≤ 1000000 := nleE (H.nle 2 (ltn len_V196_Row_oz_D3cls rfl)) (show (N 2 : Int) = n2 from en2)
  have r5 : (0 : Int) ≤ n5 ∧ n5 ≤ 1000000 := nleE (H.nle 5 (ltn len_V196_Row_oz_D3cls rfl)) (show (N 5 : Int) = n5 from en5)
  refine Ew_of (pcₚ := 1) (fun _ => x_iload_n rfl rfl) ?_
  refine w_ifne (t := 5) rfl rfl (show inr (a3) from h1) (fun b6 => ?_) (fun b6 => ?_)
  · refine Ew_of (pcₚ := 6) (fun _ => x_iload_n rfl rfl) ?_
    refine Ew_of (pcₚ := 7) (fun _ => x_iconst rfl) ?_
    refine w_isub rfl ?_
    refine Ew_of (pcₚ := 10) (fun _ => x_istore rfl) ?_
    have hc63 : ∀ (ls : rO) (σ : rS) (D_c63 N_c63 : Nat → Nat) (c_c63 s_c63 : Nat) (F_c63 : hF) (A_c63 : hA) , rlook ls 0 = some (.ref (D_c63 0)) → rlook ls 1 = some (.ref (D_c63 1)) → rlook ls 2 = some (I (a2)) → rlook ls 3 = some (I (a3)) → HW V196_Row σ D_c63 N_c63 F_c63 A_c63 → OUT (V196_Row).length D N σE c s D_c63 N_c63 σ c_c63 s_c63 → SD [2] D D_c63 → SD [2] N N_c63 → SF [(1, 0), (1, 1), (1, 2)] F F_c63 → SA [2] A A_c63 → F_c63 1 0 = (D_c63 2 : Int) → ∀ mc63_2 : Int, (N_c63 2 : Int) = mc63_2 → ∀ yc63_1_1 : Int, F_c63 1 1 = yc63_1_1 → ∀ yc63_1_2 : Int, F_c63 1 2 = yc63_1_2 → ∀ wc63_2 : Int → Int, A_c63 2 = wc63_2 → (0 ≤ (yc63_1_1) ∧ (yc63_1_1) ≤ (mc63_2) ∧ (mc63_2) ≤ 65536) → (RAP ((u1_2)) ((w2)) ((u1_1)) ((yc63_1_2)) ((wc63_2)) ((yc63_1_1)) (tgh ((a3)))) → Ew 196 (d + 3) 63 ls [] σ c_c63 s_c63 Q := by
     as_aux_lemma =>
      intro  ls σ D_c63 N_c63 c_c63 s_c63 F_c63 A_c63  lc63_0 lc63_1 lc63_2 lc63_3 H O hD_c63 hN_c63 hS_c63 hA_c63 pmc63_2 mc63_2 emc63_2 yc63_1_1 eyc63_1_1 yc63_1_2 eyc63_1_2 wc63_2 ewc63_2 jc63_0 jc63_1
      have cF_c63 : SF oz_D3clsl_5 F F_c63 := SF_trans (SF_refl) hS_c63 (any_sub (by decide +kernel))
      have mF_c63 := SFm_of cF_c63 oz_D3cls_20
      have cA_c63 : SA oz_D3clsl_6 A A_c63 := SA_trans (SA_refl) hA_c63 (any_subA (by decide +kernel))
      have mA_c63 := SAm_of cA_c63 oz_D3cls_21
      have cD_c63 : SD oz_D3clsl_6 D D_c63 := SD_trans (SD_refl) hD_c63 (any_subA (by decide +kernel))
      have mD_c63 := SDm_of cD_c63 oz_D3cls_21
      have cN_c63 : SD oz_D3clsl_6 N N_c63 := SD_trans (SD_refl) hN_c63 (any_subA (by decide +kernel))
      have mN_c63 := SDm_of cN_c63 oz_D3cls_21
      have r7 : (0 : Int) ≤ mc63_2 ∧ mc63_2 ≤ 1000000 := nleE (H.nle 2 (ltn len_V196_Row_oz_D3cls rfl)) (show (N_c63 2 : Int) = mc63_2 from emc63_2)
      have r8 : (-2147483648 : Int) ≤ yc63_1_1 ∧ yc63_1_1 ≤ 2147483647 := rngE (show (-2147483648 : Int) ≤ F_c63 1 1 ∧ F_c63 1 1 ≤ 2147483647 from H.krg 1 1 (ltn len_V196_Row_oz_D3cls rfl)) (show F_c63 1 1 = yc63_1_1 from (eyc63_1_1))
      have r9 : (0 : Int) ≤ yc63_1_2 ∧ yc63_1_2 ≤ 1 := rngE (show (0 : Int) ≤ F_c63 1 2 ∧ F_c63 1 2 ≤ 1 from H.krg 1 2 (ltn len_V196_Row_oz_D3cls rfl)) (show F_c63 1 2 = yc63_1_2 from (eyc63_1_2))
      have h63 : RAP ((u1_2)) ((w2)) ((u1_1)) ((yc63_1_2)) ((wc63_2)) ((yc63_1_1)) (tgh ((a3))) := jc63_1
      refine Ew_of (pcₚ := 64) (fun _ => x_aload_n rfl lc63_1) ?_
      refine Ew_of (pcₚ := 65) (fun _ => x_aload_n rfl lc63_0) ?_
      refine v_g H (o := 0) (v := .ref (D_c63 3)) rfl rfl rfl rfl rfl (vrf ((mF_c63 0 1 rfl).trans ((pf3).trans (congrArg (fun q : Nat => (q : Int)) (mD_c63 3 rfl).symm)))) ?_
      refine v_g H (o := 3) (v := .ref (D_c63 4)) rfl rfl rfl rfl rfl (vrf ((mF_c63 3 0 rfl).trans ((pf4).trans (congrArg (fun q : Nat => (q : Int)) (mD_c63 4 rfl).symm)))) ?_
      refine v_g H (o := 4) (v := .ref (D_c63 5)) rfl rfl rfl rfl rfl (vrf ((mF_c63 4 0 rfl).trans ((pf5).trans (congrArg (fun q : Nat => (q : Int)) (mD_c63 5 rfl).symm)))) ?_
      refine Ew_of (pcₚ := 75) (fun _ => x_iload_n rfl lc63_2) ?_
      refine Ew_of (pcₚ := 76) (fun _ => x_iload_n rfl lc63_3) ?_
      refine v_inv H (o := 1) rfl rfl rfl rfl rfl rfl (by rfl) (C161_Br (D := puc 526849 D_c63) (N := puc 526849 N_c63) (HW_subc H oz_D3cls_15 oz_D3cls_22) (pmc63_2) (n5) ((congrArg (fun q : Nat => (q : Int)) (mN_c63 5 rfl)).trans (en5)) (mc63_2) (emc63_2) (yc63_1_1) ((eyc63_1_1)) (yc63_1_2) ((eyc63_1_2)) (w5) ((funext (mA_c63 5 rfl)).trans (ew5)) (wc63_2) (ewc63_2) (show inr (a2) from h0) (show inr (a3) from h1) (show 0 ≤ (yc63_1_1) ∧ (yc63_1_1) ≤ (mc63_2) ∧ (mc63_2) ≤ 65536 from jc63_0) (show (a3) < 0 ∨ 0 ≤ (a2) ∧ (a2) + (a3) ≤ (n5) from q_3065 h4) (fun σ10 D10ₚ N10ₚ F10ₚ A10ₚ c10 s10 Hₚ Oₚ hD10 hN10 hS10 hA10 pm10_2 m10_2 em10_2 y10_0_1 ey10_0_1 y10_0_2 ey10_0_2 w10_2 ew10_2 pz10_0 pz10_1 pz10_2 pz10_3 => ⟨rfl, ?_⟩))
      refine v_backMc (c := c_c63) (s := s_c63) H oz_D3cls_15 oz_D3cls_22 Hₚ Oₚ hD10 oz_D3cls_16 (fun D10 N10 F10 A10 H Oₚ eD10 eN10 eF10 eA10 => ?_)
      have O := OUT_trans O Oₚ
      -- Row.addPart
      have cF10 : SF oz_D3clsl_5 F F10 := SF_trans (cF_c63) (SF_gluc (ι := oz_D3clsl_7) oz_D3cls_22 hS10 eF10 (by decide +kernel)) (any_sub (lₚ := [(1, 0), (1, 1), (1, 2)]) (by decide +kernel))
      have mF10 := SFm_of cF10 oz_D3cls_20
      have cA10 : SA oz_D3clsl_6 A A10 := SA_trans (cA_c63) (SA_gluc (ι := oz_D3clsl_7) oz_D3cls_22 hA10 eA10 (by decide +kernel)) (any_subA (lₚ := [2]) (by decide +kernel))
      have mA10 := SAm_of cA10 oz_D3cls_21
      have cD10 : SD oz_D3clsl_6 D D10 := SD_trans (cD_c63) (SD_gluc (ι := oz_D3clsl_7) oz_D3cls_22 hD10 eD10 (by decide +kernel)) (any_subA (lₚ := [2]) (by decide +kernel))
      have mD10 := SDm_of cD10 oz_D3cls_21
      have cN10 : SD oz_D3clsl_6 N N10 := SD_trans (cN_c63) (SD_gluc (ι := oz_D3clsl_7) oz_D3cls_22 hN10 eN10 (by decide +kernel)) (any_subA (lₚ := [2]) (by decide +kernel))
      have mN10 := SDm_of cN10 oz_D3cls_21
      have pf10_1_0 : F10 1 0 = (D10 2 : Int) := (eF10 1 0).trans (pm10_2.trans (congrArg (fun q : Nat => (q : Int)) (eD10 2).symm))
      have r11 : (0 : Int) ≤ m10_2 ∧ m10_2 ≤ 1000000 := nleE (H.nle 2 (ltn len_V196_Row_oz_D3cls rfl)) (show (N10 2 : Int) = m10_2 from (congrArg (fun q : Nat => (q : Int)) (eN10 2)).trans em10_2)
      have r12 : (-2147483648 : Int) ≤ y10_0_1 ∧ y10_0_1 ≤ 2147483647 := rngE (show (-2147483648 : Int) ≤ F10 1 1 ∧ F10 1 1 ≤ 2147483647 from H.krg 1 1 (ltn len_V196_Row_oz_D3cls rfl)) (show F10 1 1 = y10_0_1 from ((eF10 1 1).trans ey10_0_1))
      have r13 : (0 : Int) ≤ y10_0_2 ∧ y10_0_2 ≤ 1 := rngE (show (0 : Int) ≤ F10 1 2 ∧ F10 1 2 ≤ 1 from H.krg 1 2 (ltn len_V196_Row_oz_D3cls rfl)) (show F10 1 2 = y10_0_2 from ((eF10 1 2).trans ey10_0_2))
      have : RAP ((u1_2)) ((w2)) ((u1_1)) ((y10_0_2)) ((w10_2)) ((y10_0_1)) (tgl (sc ((w5)) ((a2)) ((a2) + (a3)))) := RAP_c (RAP_trans h63 (pz10_3 (by omega))) (tgl_s (by omega) (by omega)).symm
      exact w_ret rfl (k _ _ _ _ _ _ _ H O (cD10) (cN10) (cF10) (cA10) (pf10_1_0) (m10_2) ((congrArg (fun q : Nat => (q : Int)) (eN10 2)).trans em10_2) (y10_0_1) (((eF10 1 1).trans ey10_0_1)) (y10_0_2) (((eF10 1 2).trans ey10_0_2)) (w10_2) ((eA10 2).trans ew10_2) (show 0 ≤ (y10_0_1) ∧ (y10_0_1) ≤ (m10_2) ∧ (m10_2) ≤ 65536 from pz10_0) (show RAP ((u1_2)) ((w2)) ((u1_1)) ((y10_0_2)) ((w10_2)) ((y10_0_1)) (tgl (sc ((w5)) (a2) (a2 + a3))) by assumption))
    refine Ew_of (pcₚ := 12) (fun _ => x_iload rfl rk_s) ?_
    refine Ew_of (pcₚ := 14) (fun _ => x_bipush (z := 60) rfl (by decide)) ?_
    refine w_icmpge (t := 28) rfl rfl (show inr ((a3 - 1)) from q_3170 h1 h4) (show inr (60) from q_937) (fun b14 => ?_) (fun b14 => ?_)
    · refine Ew_of (pcₚ := 30) (fun _ => x_iload rfl rk_s) ?_
      refine Ew_of (pcₚ := 33) (fun _ => x_sipush (z := 256) rfl (by decide)) ?_
      refine w_icmpge (t := 40) rfl rfl (show inr ((a3 - 1)) from q_3171 b14 h1) (show inr (256) from q_3) (fun b15 => ?_) (fun b15 => ?_)
      · refine Ew_of (pcₚ := 41) (fun _ => x_iconst rfl) ?_
        refine Ew_of (pcₚ := 43) (fun _ => x_istore rfl) ?_
        refine Ew_of (pcₚ := 44) (fun _ => x_aload_n rfl (rk_o (rk_o (rfl) rfl rfl) rfl rfl)) ?_
        refine Ew_of (pcₚ := 46) (fun _ => x_bipush (z := 59) rfl (by decide)) ?_
        refine Ew_of (pcₚ := 48) (fun _ => x_iload rfl rk_s) ?_
        refine w_iadd rfl ?_
        refine Ew_of (pcₚ := 50) (fun _ => x_iconst rfl) ?_
        refine w_ishlE rfl ?_
        have g16 : inr (slI ((59 + 2)) (2)) := toI_inr _
        refine v_inv H (o := 1) rfl rfl rfl rfl rfl rfl (by rfl) (C159 (D := puc 1025 D) (N := puc 1025 N) (HW_subc H oz_D3cls_17 oz_D3cls_23) (pf2) (n2) (en2) (u1_1) ((eu1_1)) (u1_2) ((eu1_2)) (w2) (ew2) (show inr ((slI ((59 + 2)) (2))) from g16) (show 0 ≤ (u1_1) ∧ (u1_1) ≤ (n2) ∧ (n2) ≤ 65536 from h2) (fun σ17 D17ₚ N17ₚ F17ₚ A17ₚ c17 s17 Hₚ Oₚ hD17 hN17 hS17 hA17 pm17_1 m17_1 em17_1 y17_0_1 ey17_0_1 y17_0_2 ey17_0_2 w17_1 ew17_1 pz17_0 pz17_1 pz17_2 pz17_3 => ⟨rfl, ?_⟩))
        refine v_backMc (c := c) (s := s) H oz_D3cls_17 oz_D3cls_23 Hₚ Oₚ hD17 oz_D3cls_18 (fun D17 N17 F17 A17 H Oₚ eD17 eN17 eF17 eA17 => ?_)
        have O := OUT_trans O Oₚ
        -- Row.add
        have cF17 : SF oz_D3clsl_5 F F17 := SF_trans (SF_refl) (SF_gluc (ι := oz_D3clsl_8) oz_D3cls_23 hS17 eF17 (by decide +kernel)) (any_sub (lₚ := [(1, 0), (1, 1), (1, 2)]) (by decide +kernel))
        have mF17 := SFm_of cF17 oz_D3cls_20
        have cA17 : SA oz_D3clsl_6 A A17 := SA_trans (SA_refl) (SA_gluc (ι := oz_D3clsl_8) oz_D3cls_23 hA17 eA17 (by decide +kernel)) (any_subA (lₚ := [2]) (by decide +kernel))
        have mA17 := SAm_of cA17 oz_D3cls_21
        have cD17 : SD oz_D3clsl_6 D D17 := SD_trans (SD_refl) (SD_gluc (ι := oz_D3clsl_8) oz_D3cls_23 hD17 eD17 (by decide +kernel)) (any_subA (lₚ := [2]) (by decide +kernel))
        have mD17 := SDm_of cD17 oz_D3cls_21
        have cN17 : SD oz_D3clsl_6 N N17 := SD_trans (SD_refl) (SD_gluc (ι := oz_D3clsl_8) oz_D3cls_23 hN17 eN17 (by decide +kernel)) (any_subA (lₚ := [2]) (by decide +kernel))
        have mN17 := SDm_of cN17 oz_D3cls_21
        have pf17_1_0 : F17 1 0 = (D17 2 : Int) := (eF17 1 0).trans (pm17_1.trans (congrArg (fun q : Nat => (q : Int)) (eD17 2).symm))
        have r18 : (0 : Int) ≤ m17_1 ∧ m17_1 ≤ 1000000 := nleE (H.nle 2 (ltn len_V196_Row_oz_D3cls rfl)) (show (N17 2 : Int) = m17_1 from (congrArg (fun q : Nat => (q : Int)) (eN17 2)).trans em17_1)
        have r19 : (-2147483648 : Int) ≤ y17_0_1 ∧ y17_0_1 ≤ 2147483647 := rngE (show (-2147483648 : Int) ≤ F17 1 1 ∧ F17 1 1 ≤ 2147483647 from H.krg 1 1 (ltn len_V196_Row_oz_D3cls rfl)) (show F17 1 1 = y17_0_1 from ((eF17 1 1).trans ey17_0_1))
        have r20 : (0 : Int) ≤ y17_0_2 ∧ y17_0_2 ≤ 1 := rngE (show (0 : Int) ≤ F17 1 2 ∧ F17 1 2 ≤ 1 from H.krg 1 2 (ltn len_V196_Row_oz_D3cls rfl)) (show F17 1 2 = y17_0_2 from ((eF17 1 2).trans ey17_0_2))
        have h1_ := pz17_3
        rw [u8_sl2] at h1_
        refine Ew_of (pcₚ := 55) (fun _ => x_aload_n rfl (rk_o (rk_o (rfl) rfl rfl) rfl rfl)) ?_
        refine Ew_of (pcₚ := 57) (fun _ => x_iload rfl (rk_o (rk_s) rfl rfl)) ?_
        refine w_i2l rfl (show inr ((a3 - 1)) from q_3172 b15 h1) ?_
        refine Ew_of (pcₚ := 60) (fun _ => x_iload rfl rk_s) ?_
        refine Ew_stk (congrArg (fun qz : Nat => ([I (2), J ((a3 - 1)), .ref qz] : List Value)) (show D17 1 = D 1 from mD17 1 rfl).symm) ?_
        refine v_inv H (o := 1) rfl rfl rfl rfl rfl rfl (by rfl) (C160 (D := puc 1025 D17) (N := puc 1025 N17) (HW_subc H oz_D3cls_19 oz_D3cls_23) (pf17_1_0) (m17_1) ((congrArg (fun q : Nat => (q : Int)) (eN17 2)).trans em17_1) (y17_0_1) (((eF17 1 1).trans ey17_0_1)) (y17_0_2) (((eF17 1 2).trans ey17_0_2)) (w17_1) ((eA17 2).trans ew17_1) (show inrJ ((a3 - 1)) from q_3173 b15 h1) (show inr (2) from q_122) (show 0 ≤ (y17_0_1) ∧ (y17_0_1) ≤ (m17_1) ∧ (m17_1) ≤ 65536 from pz17_0) (show 0 ≤ (2) ∧ (2) ≤ 8 from q_2748) (fun σ21 D21ₚ N21ₚ F21ₚ A21ₚ c21 s21 Hₚ Oₚ hD21 hN21 hS21 hA21 pm21_1 m21_1 em21_1 y21_0_1 ey21_0_1 y21_0_2 ey21_0_2 w21_1 ew21_1 pz21_0 pz21_1 pz21_2 => ⟨rfl, ?_⟩))
        refine v_backMc (c := (c + c17)) (s := (s + s17)) H oz_D3cls_19 oz_D3cls_23 Hₚ Oₚ hD21 oz_D3cls_18 (fun D21 N21 F21 A21 H Oₚ eD21 eN21 eF21 eA21 => ?_)
        have O := OUT_trans O Oₚ
        -- Row.addNumber
        have cF21 : SF oz_D3clsl_5 F F21 := SF_trans (cF17) (SF_gluc (ι := oz_D3clsl_8) oz_D3cls_23 hS21 eF21 (by decide +kernel)) (any_sub (lₚ := [(1, 0), (1, 1), (1, 2)]) (by decide +kernel))
        have mF21 := SFm_of cF21 oz_D3cls_20
        have cA21 : SA oz_D3clsl_6 A A21 := SA_trans (cA17) (SA_gluc (ι := oz_D3clsl_8) oz_D3cls_23 hA21 eA21 (by decide +kernel)) (any_subA (lₚ := [2]) (by decide +kernel))
        have mA21 := SAm_of cA21 oz_D3cls_21
        have cD21 : SD oz_D3clsl_6 D D21 := SD_trans (cD17) (SD_gluc (ι := oz_D3clsl_8) oz_D3cls_23 hD21 eD21 (by decide +kernel)) (any_subA (lₚ := [2]) (by decide +kernel))
        have mD21 := SDm_of cD21 oz_D3cls_21
        have cN21 : SD oz_D3clsl_6 N N21 := SD_trans (cN17) (SD_gluc (ι := oz_D3clsl_8) oz_D3cls_23 hN21 eN21 (by decide +kernel)) (any_subA (lₚ := [2]) (by decide +kernel))
        have mN21 := SDm_of cN21 oz_D3cls_21
        have pf21_1_0 : F21 1 0 = (D21 2 : Int) := (eF21 1 0).trans (pm21_1.trans (congrArg (fun q : Nat => (q : Int)) (eD21 2).symm))
        have r22 : (0 : Int) ≤ m21_1 ∧ m21_1 ≤ 1000000 := nleE (H.nle 2 (ltn len_V196_Row_oz_D3cls rfl)) (show (N21 2 : Int) = m21_1 from (congrArg (fun q : Nat => (q : Int)) (eN21 2)).trans em21_1)
        have r23 : (-2147483648 : Int) ≤ y21_0_1 ∧ y21_0_1 ≤ 2147483647 := rngE (show (-2147483648 : Int) ≤ F21 1 1 ∧ F21 1 1 ≤ 2147483647 from H.krg 1 1 (ltn len_V196_Row_oz_D3cls rfl)) (show F21 1 1 = y21_0_1 from ((eF21 1 1).trans ey21_0_1))
        have r24 : (0 : Int) ≤ y21_0_2 ∧ y21_0_2 ≤ 1 := rngE (show (0 : Int) ≤ F21 1 2 ∧ F21 1 2 ≤ 1 from H.krg 1 2 (ltn len_V196_Row_oz_D3cls rfl)) (show F21 1 2 = y21_0_2 from ((eF21 1 2).trans ey21_0_2))
        have : RAP ((u1_2)) ((w2)) ((u1_1)) ((y21_0_2)) ((w21_1)) ((y21_0_1)) (tgh ((a3))) := by first | exact RAP_c (RAP_trans h1_ pz21_2) (tgh_of (by omega) (by omega) (by omega)) | (have h := pNONE_3; rw [u8_sl2] at h; exact RAP_c h (by rw [← tgh_of (n := (a3)) (k := 0) (s := 4 * ((a3 - 1))) (by omega) (by omega) (by omega), nb_0, List.append_nil]))
        exact hc63  _ _ _ _ _ _ _ _  ((rk_o (rk_o (rfl) rfl rfl) rfl rfl).trans (congrArg (fun q : Nat => some (Value.ref q)) (mD21 0 rfl).symm)) ((rk_o (rk_o (rfl) rfl rfl) rfl rfl).trans (congrArg (fun q : Nat => some (Value.ref q)) (mD21 1 rfl).symm)) (rk_o (rk_o (rfl) rfl rfl) rfl rfl) (rk_o (rk_o (rfl) rfl rfl) rfl rfl) H O (SD_trans (SD_trans (SD_refl) (SD_gluc (ι := oz_D3clsl_8) oz_D3cls_23 hD17 eD17 (by decide +kernel)) (any_subA (lₚ := [2]) (by decide +kernel))) (SD_gluc (ι := oz_D3clsl_8) oz_D3cls_23 hD21 eD21 (by decide +kernel)) (any_subA (lₚ := [2]) (by decide +kernel))) (SD_trans (SD_trans (SD_refl) (SD_gluc (ι := oz_D3clsl_8) oz_D3cls_23 hN17 eN17 (by decide +kernel)) (any_subA (lₚ := [2]) (by decide +kernel))) (SD_gluc (ι := oz_D3clsl_8) oz_D3cls_23 hN21 eN21 (by decide +kernel)) (any_subA (lₚ := [2]) (by decide +kernel))) (SF_trans (SF_trans (SF_refl) (SF_gluc (ι := oz_D3clsl_8) oz_D3cls_23 hS17 eF17 (by decide +kernel)) (any_sub (lₚ := [(1, 0), (1, 1), (1, 2)]) (by decide +kernel))) (SF_gluc (ι := oz_D3clsl_8) oz_D3cls_23 hS21 eF21 (by decide +kernel)) (any_sub (lₚ := [(1, 0), (1, 1), (1, 2)]) (by decide +kernel))) (SA_trans (SA_trans (SA_refl) (SA_gluc (ι := oz_D3clsl_8) oz_D3cls_23 hA17 eA17 (by decide +kernel)) (any_subA (lₚ := [2]) (by decide +kernel))) (SA_gluc (ι := oz_D3clsl_8) oz_D3cls_23 hA21 eA21 (by decide +kernel)) (any_subA (lₚ := [2]) (by decide +kernel))) (pf21_1_0) (m21_1) ((congrArg (fun q : Nat => (q : Int)) (eN21 2)).trans em21_1) (y21_0_1) (((eF21 1 1).trans ey21_0_1)) (y21_0_2) (((eF21 1 2).trans ey21_0_2)) (w21_1) ((eA21 2).trans ew21_1) (show 0 ≤ (y21_0_1) ∧ (y21_0_1) ≤ (m21_1) ∧ (m21_1) ≤ 65536 from pz21_0) (show RAP ((u1_2)) ((w2)) ((u1_1)) ((y21_0_2)) ((w21_1)) ((y21_0_1)) (tgh ((a3))) by assumption)
      · refine Ew_of (pcₚ := 37) (fun _ => x_iconst rfl) ?_
        refine Ew_of (pcₚ := 41) (fun _ => x_goto rfl rfl) ?_
        refine Ew_of (pcₚ := 43) (fun _ => x_istore rfl) ?_
        refine Ew_of (pcₚ := 44) (fun _ => x_aload_n rfl (rk_o (rk_o (rfl) rfl rfl) rfl rfl)) ?_
        refine Ew_of (pcₚ := 46) (fun _ => x_bipush (z := 59) rfl (by decide)) ?_
        refine Ew_of (pcₚ := 48) (fun _ => x_iload rfl rk_s) ?_
        refine w_iadd rfl ?_
        refine Ew_of (pcₚ := 50) (fun _ => x_iconst rfl) ?_
        refine w_ishlE rfl ?_
        have g25 : inr (slI ((59 + 1)) (2)) := toI_inr _
        refine v_inv H (o := 1) rfl rfl rfl rfl rfl rfl (by rfl) (C159 (D := puc 1025 D) (N := puc 1025 N) (HW_subc H oz_D3cls_17 oz_D3cls_23) (pf2) (n2) (en2) (u1_1) ((eu1_1)) (u1_2) ((eu1_2)) (w2) (ew2) (show inr ((slI ((59 + 1)) (2))) from g25) (show 0 ≤ (u1_1) ∧ (u1_1) ≤ (n2) ∧ (n2) ≤ 65536 from h2) (fun σ26 D26ₚ N26ₚ F26ₚ A26ₚ c26 s26 Hₚ Oₚ hD26 hN26 hS26 hA26 pm26_1 m26_1 em26_1 y26_0_1 ey26_0_1 y26_0_2 ey26_0_2 w26_1 ew26_1 pz26_0 pz26_1 pz26_2 pz26_3 => ⟨rfl, ?_⟩))
        refine v_backMc (c := c) (s := s) H oz_D3cls_17 oz_D3cls_23 Hₚ Oₚ hD26 oz_D3cls_18 (fun D26 N26 F26 A26 H Oₚ eD26 eN26 eF26 eA26 => ?_)
        have O := OUT_trans O Oₚ
        -- Row.add
        have cF26 : SF oz_D3clsl_5 F F26 := SF_trans (SF_refl) (SF_gluc (ι := oz_D3clsl_8) oz_D3cls_23 hS26 eF26 (by decide +kernel)) (any_sub (lₚ := [(1, 0), (1, 1), (1, 2)]) (by decide +kernel))
        have mF26 := SFm_of cF26 oz_D3cls_20
        have cA26 : SA oz_D3clsl_6 A A26 := SA_trans (SA_refl) (SA_gluc (ι := oz_D3clsl_8) oz_D3cls_23 hA26 eA26 (by decide +kernel)) (any_subA (lₚ := [2]) (by decide +kernel))
        have mA26 := SAm_of cA26 oz_D3cls_21
        have cD26 : SD oz_D3clsl_6 D D26 := SD_trans (SD_refl) (SD_gluc (ι := oz_D3clsl_8) oz_D3cls_23 hD26 eD26 (by decide +kernel)) (any_subA (lₚ := [2]) (by decide +kernel))
        have mD26 := SDm_of cD26 oz_D3cls_21
        have cN26 : SD oz_D3clsl_6 N N26 := SD_trans (SD_refl) (SD_gluc (ι := oz_D3clsl_8) oz_D3cls_23 hN26 eN26 (by decide +kernel)) (any_subA (lₚ := [2]) (by decide +kernel))
        have mN26 := SDm_of cN26 oz_D3cls_21
        have pf26_1_0 : F26 1 0 = (D26 2 : Int) := (eF26 1 0).trans (pm26_1.trans (congrArg (fun q : Nat => (q : Int)) (eD26 2).symm))
        have r27 : (0 : Int) ≤ m26_1 ∧ m26_1 ≤ 1000000 := nleE (H.nle 2 (ltn len_V196_Row_oz_D3cls rfl)) (show (N26 2 : Int) = m26_1 from (congrArg (fun q : Nat => (q : Int)) (eN26 2)).trans em26_1)
        have r28 : (-2147483648 : Int) ≤ y26_0_1 ∧ y26_0_1 ≤ 2147483647 := rngE (show (-2147483648 : Int) ≤ F26 1 1 ∧ F26 1 1 ≤ 2147483647 from H.krg 1 1 (ltn len_V196_Row_oz_D3cls rfl)) (show F26 1 1 = y26_0_1 from ((eF26 1 1).trans ey26_0_1))
        have r29 : (0 : Int) ≤ y26_0_2 ∧ y26_0_2 ≤ 1 := rngE (show (0 : Int) ≤ F26 1 2 ∧ F26 1 2 ≤ 1 from H.krg 1 2 (ltn len_V196_Row_oz_D3cls rfl)) (show F26 1 2 = y26_0_2 from ((eF26 1 2).trans ey26_0_2))
        have h1_ := pz26_3
        rw [u8_sl2] at h1_
        refine Ew_of (pcₚ := 55) (fun _ => x_aload_n rfl (rk_o (rk_o (rfl) rfl rfl) rfl rfl)) ?_
        refine Ew_of (pcₚ := 57) (fun _ => x_iload rfl (rk_o (rk_s) rfl rfl)) ?_
        refine w_i2l rfl (show inr ((a3 - 1)) from q_3174 b14 b15) ?_
        refine Ew_of (pcₚ := 60) (fun _ => x_iload rfl rk_s) ?_
        refine Ew_stk (congrArg (fun qz : Nat => ([I (1), J ((a3 - 1)), .ref qz] : List Value)) (show D26 1 = D 1 from mD26 1 rfl).symm) ?_
        refine v_inv H (o := 1) rfl rfl rfl rfl rfl rfl (by rfl) (C160 (D := puc 1025 D26) (N := puc 1025 N26) (HW_subc H oz_D3cls_19 oz_D3cls_23) (pf26_1_0) (m26_1) ((congrArg (fun q : Nat => (q : Int)) (eN26 2)).trans em26_1) (y26_0_1) (((eF26 1 1).trans ey26_0_1)) (y26_0_2) (((eF26 1 2).trans ey26_0_2)) (w26_1) ((eA26 2).trans ew26_1) (show inrJ ((a3 - 1)) from q_3175 b14 b15) (show inr (1) from q_135) (show 0 ≤ (y26_0_1) ∧ (y26_0_1) ≤ (m26_1) ∧ (m26_1) ≤ 65536 from pz26_0) (show 0 ≤ (1) ∧ (1) ≤ 8 from q_1889) (fun σ30 D30ₚ N30ₚ F30ₚ A30ₚ c30 s30 Hₚ Oₚ hD30 hN30 hS30 hA30 pm30_1 m30_1 em30_1 y30_0_1 ey30_0_1 y30_0_2 ey30_0_2 w30_1 ew30_1 pz30_0 pz30_1 pz30_2 => ⟨rfl, ?_⟩))
        refine v_backMc (c := (c + c26)) (s := (s + s26)) H oz_D3cls_19 oz_D3cls_23 Hₚ Oₚ hD30 oz_D3cls_18 (fun D30 N30 F30 A30 H Oₚ eD30 eN30 eF30 eA30 => ?_)
        have O := OUT_trans O Oₚ
        -- Row.addNumber
        have cF30 : SF oz_D3clsl_5 F F30 := SF_trans (cF26) (SF_gluc (ι := oz_D3clsl_8) oz_D3cls_23 hS30 eF30 (by decide +kernel)) (any_sub (lₚ := [(1, 0), (1, 1), (1, 2)]) (by decide +kernel))
        have mF30 := SFm_of cF30 oz_D3cls_20
        have cA30 : SA oz_D3clsl_6 A A30 := SA_trans (cA26) (SA_gluc (ι := oz_D3clsl_8) oz_D3cls_23 hA30 eA30 (by decide +kernel)) (any_subA (lₚ := [2]) (by decide +kernel))
        have mA30 := SAm_of cA30 oz_D3cls_21
        have cD30 : SD oz_D3clsl_6 D D30 := SD_trans (cD26) (SD_gluc (ι := oz_D3clsl_8) oz_D3cls_23 hD30 eD30 (by decide +kernel)) (any_subA (lₚ := [2]) (by decide +kernel))
        have mD30 := SDm_of cD30 oz_D3cls_21
        have cN30 : SD oz_D3clsl_6 N N30 := SD_trans (cN26) (SD_gluc (ι := oz_D3clsl_8) oz_D3cls_23 hN30 eN30 (by decide +kernel)) (any_subA (lₚ := [2]) (by decide +kernel))
        have mN30 := SDm_of cN30 oz_D3cls_21
        have pf30_1_0 : F30 1 0 = (D30 2 : Int) := (eF30 1 0).trans (pm30_1.trans (congrArg (fun q : Nat => (q : Int)) (eD30 2).symm))
        have r31 : (0 : Int) ≤ m30_1 ∧ m30_1 ≤ 1000000 := nleE (H.nle 2 (ltn len_V196_Row_oz_D3cls rfl)) (show (N30 2 : Int) = m30_1 from (congrArg (fun q : Nat => (q : Int)) (eN30 2)).trans em30_1)
        have r32 : (-2147483648 : Int) ≤ y30_0_1 ∧ y30_0_1 ≤ 2147483647 := rngE (show (-2147483648 : Int) ≤ F30 1 1 ∧ F30 1 1 ≤ 2147483647 from H.krg 1 1 (ltn len_V196_Row_oz_D3cls rfl)) (show F30 1 1 = y30_0_1 from ((eF30 1 1).trans ey30_0_1))
        have r33 : (0 : Int) ≤ y30_0_2 ∧ y30_0_2 ≤ 1 := rngE (show (0 : Int) ≤ F30 1 2 ∧ F30 1 2 ≤ 1 from H.krg 1 2 (ltn len_V196_Row_oz_D3cls rfl)) (show F30 1 2 = y30_0_2 from ((eF30 1 2).trans ey30_0_2))
        have : RAP ((u1_2)) ((w2)) ((u1_1)) ((y30_0_2)) ((w30_1)) ((y30_0_1)) (tgh ((a3))) := by first | exact RAP_c (RAP_trans h1_ pz30_2) (tgh_of (by omega) (by omega) (by omega)) | (have h := pNONE_3; rw [u8_sl2] at h; exact RAP_c h (by rw [← tgh_of (n := (a3)) (k := 0) (s := 4 * ((a3 - 1))) (by omega) (by omega) (by omega), nb_0, List.append_nil]))
        exact hc63  _ _ _ _ _ _ _ _  ((rk_o (rk_o (rfl) rfl rfl) rfl rfl).trans (congrArg (fun q : Nat => some (Value.ref q)) (mD30 0 rfl).symm)) ((rk_o (rk_o (rfl) rfl rfl) rfl rfl).trans (congrArg (fun q : Nat => some (Value.ref q)) (mD30 1 rfl).symm)) (rk_o (rk_o (rfl) rfl rfl) rfl rfl) (rk_o (rk_o (rfl) rfl rfl) rfl rfl) H O (SD_trans (SD_trans (SD_refl) (SD_gluc (ι := oz_D3clsl_8) oz_D3cls_23 hD26 eD26 (by decide +kernel)) (any_subA (lₚ := [2]) (by decide +kernel))) (SD_gluc (ι := oz_D3clsl_8) oz_D3cls_23 hD30 eD30 (by decide +kernel)) (any_subA (lₚ := [2]) (by decide +kernel))) (SD_trans (SD_trans (SD_refl) (SD_gluc (ι := oz_D3clsl_8) oz_D3cls_23 hN26 eN26 (by decide +kernel)) (any_subA (lₚ := [2]) (by decide +kernel))) (SD_gluc (ι := oz_D3clsl_8) oz_D3cls_23 hN30 eN30 (by decide +kernel)) (any_subA (lₚ := [2]) (by decide +kernel))) (SF_trans (SF_trans (SF_refl) (SF_gluc (ι := oz_D3clsl_8) oz_D3cls_23 hS26 eF26 (by decide +kernel)) (any_sub (lₚ := [(1, 0), (1, 1), (1, 2)]) (by decide +kernel))) (SF_gluc (ι := oz_D3clsl_8) oz_D3cls_23 hS30 eF30 (by decide +kernel)) (any_sub (lₚ := [(1, 0), (1, 1), (1, 2)]) (by decide +kernel))) (SA_trans (SA_trans (SA_refl) (SA_gluc (ι := oz_D3clsl_8) oz_D3cls_23 hA26 eA26 (by decide +kernel)) (any_subA (lₚ := [2]) (by decide +kernel))) (SA_gluc (ι := oz_D3clsl_8) oz_D3cls_23 hA30 eA30 (by decide +kernel)) (any_subA (lₚ := [2]) (by decide +kernel))) (pf30_1_0) (m30_1) ((congrArg (fun q : Nat => (q : Int)) (eN30 2)).trans em30_1) (y30_0_1) (((eF30 1 1).trans ey30_0_1)) (y30_0_2) (((eF30 1 2).trans ey30_0_2)) (w30_1) ((eA30 2).trans ew30_1) (show 0 ≤ (y30_0_1) ∧ (y30_0_1) ≤ (m30_1) ∧ (m30_1) ≤ 65536 from pz30_0) (show RAP ((u1_2)) ((w2)) ((u1_1)) ((y30_0_2)) ((w30_1)) ((y30_0_1)) (tgh ((a3))) by assumption)
    · refine Ew_of (pcₚ := 18) (fun _ => x_aload_n rfl (rk_o (rfl) rfl rfl)) ?_
      refine Ew_of (pcₚ := 20) (fun _ => x_iload rfl rk_s) ?_
      refine Ew_of (pcₚ := 21) (fun _ => x_iconst rfl) ?_
      refine w_ishlE rfl ?_
      have g34 : inr (slI ((a3 - 1)) (2)) := toI_inr _
      refine v_inv H (o := 1) rfl rfl rfl rfl rfl rfl (by rfl) (C159 (D := puc 1025 D) (N := puc 1025 N) (HW_subc H oz_D3cls_17 oz_D3cls_23) (pf2) (n2) (en2) (u1_1) ((eu1_1)) (u1_2) ((eu1_2)) (w2) (ew2) (show inr ((slI ((a3 - 1)) (2))) from g34) (show 0 ≤ (u1_1) ∧ (u1_1) ≤ (n2) ∧ (n2) ≤ 65536 from h2) (fun σ35 D35ₚ N35ₚ F35ₚ A35ₚ c35 s35 Hₚ Oₚ hD35 hN35 hS35 hA35 pm35_1 m35_1 em35_1 y35_0_1 ey35_0_1 y35_0_2 ey35_0_2 w35_1 ew35_1 pz35_0 pz35_1 pz35_2 pz35_3 => ⟨rfl, ?_⟩))
      refine v_backMc (c := c) (s := s) H oz_D3cls_17 oz_D3cls_23 Hₚ Oₚ hD35 oz_D3cls_18 (fun D35 N35 F35 A35 H Oₚ eD35 eN35 eF35 eA35 => ?_)
      have O := OUT_trans O Oₚ
      -- Row.add
      have cF35 : SF oz_D3clsl_5 F F35 := SF_trans (SF_refl) (SF_gluc (ι := oz_D3clsl_8) oz_D3cls_23 hS35 eF35 (by decide +kernel)) (any_sub (lₚ := [(1, 0), (1, 1), (1, 2)]) (by decide +kernel))
      have mF35 := SFm_of cF35 oz_D3cls_20
      have cA35 : SA oz_D3clsl_6 A A35 := SA_trans (SA_refl) (SA_gluc (ι := oz_D3clsl_8) oz_D3cls_23 hA35 eA35 (by decide +kernel)) (any_subA (lₚ := [2]) (by decide +kernel))
      have mA35 := SAm_of cA35 oz_D3cls_21
      have cD35 : SD oz_D3clsl_6 D D35 := SD_trans (SD_refl) (SD_gluc (ι := oz_D3clsl_8) oz_D3cls_23 hD35 eD35 (by decide +kernel)) (any_subA (lₚ := [2]) (by decide +kernel))
      have mD35 := SDm_of cD35 oz_D3cls_21
      have cN35 : SD oz_D3clsl_6 N N35 := SD_trans (SD_refl) (SD_gluc (ι := oz_D3clsl_8) oz_D3cls_23 hN35 eN35 (by decide +kernel)) (any_subA (lₚ := [2]) (by decide +kernel))
      have mN35 := SDm_of cN35 oz_D3cls_21
      have pf35_1_0 : F35 1 0 = (D35 2 : Int) := (eF35 1 0).trans (pm35_1.trans (congrArg (fun q : Nat => (q : Int)) (eD35 2).symm))
      have r36 : (0 : Int) ≤ m35_1 ∧ m35_1 ≤ 1000000 := nleE (H.nle 2 (ltn len_V196_Row_oz_D3cls rfl)) (show (N35 2 : Int) = m35_1 from (congrArg (fun q : Nat => (q : Int)) (eN35 2)).trans em35_1)
      have r37 : (-2147483648 : Int) ≤ y35_0_1 ∧ y35_0_1 ≤ 2147483647 := rngE (show (-2147483648 : Int) ≤ F35 1 1 ∧ F35 1 1 ≤ 2147483647 from H.krg 1 1 (ltn len_V196_Row_oz_D3cls rfl)) (show F35 1 1 = y35_0_1 from ((eF35 1 1).trans ey35_0_1))
      have r38 : (0 : Int) ≤ y35_0_2 ∧ y35_0_2 ≤ 1 := rngE (show (0 : Int) ≤ F35 1 2 ∧ F35 1 2 ≤ 1 from H.krg 1 2 (ltn len_V196_Row_oz_D3cls rfl)) (show F35 1 2 = y35_0_2 from ((eF35 1 2).trans ey35_0_2))
      refine Ew_of (pcₚ := 63) (fun _ => x_goto rfl rfl) ?_
      have : RAP ((u1_2)) ((w2)) ((u1_1)) ((y35_0_2)) ((w35_1)) ((y35_0_1)) (tgh ((a3))) := by first | exact RAP_c (RAP_trans h1_ pz30_2) (tgh_of (by omega) (by omega) (by omega)) | (have h := pz35_3; rw [u8_sl2] at h; exact RAP_c h (by rw [← tgh_of (n := (a3)) (k := 0) (s := 4 * ((a3 - 1))) (by omega) (by omega) (by omega), nb_0, List.append_nil]))
      exact hc63  _ _ _ _ _ _ _ _  ((rk_o (rfl) rfl rfl).trans (congrArg (fun q : Nat => some (Value.ref q)) (mD35 0 rfl).symm)) ((rk_o (rfl) rfl rfl).trans (congrArg (fun q : Nat => some (Value.ref q)) (mD35 1 rfl).symm)) (rk_o (rfl) rfl rfl) (rk_o (rfl) rfl rfl) H O (SD_trans (SD_refl) (SD_gluc (ι := oz_D3clsl_8) oz_D3cls_23 hD35 eD35 (by decide +kernel)) (any_subA (lₚ := [2]) (by decide +kernel))) (SD_trans (SD_refl) (SD_gluc (ι := oz_D3clsl_8) oz_D3cls_23 hN35 eN35 (by decide +kernel)) (any_subA (lₚ := [2]) (by decide +kernel))) (SF_trans (SF_refl) (SF_gluc (ι := oz_D3clsl_8) oz_D3cls_23 hS35 eF35 (by decide +kernel)) (any_sub (lₚ := [(1, 0), (1, 1), (1, 2)]) (by decide +kernel))) (SA_trans (SA_refl) (SA_gluc (ι := oz_D3clsl_8) oz_D3cls_23 hA35 eA35 (by decide +kernel)) (any_subA (lₚ := [2]) (by decide +kernel))) (pf35_1_0) (m35_1) ((congrArg (fun q : Nat => (q : Int)) (eN35 2)).trans em35_1) (y35_0_1) (((eF35 1 1).trans ey35_0_1)) (y35_0_2) (((eF35 1 2).trans ey35_0_2)) (w35_1) ((eA35 2).trans ew35_1) (show 0 ≤ (y35_0_1) ∧ (y35_0_1) ≤ (m35_1) ∧ (m35_1) ≤ 65536 from pz35_0) (show RAP ((u1_2)) ((w2)) ((u1_1)) ((y35_0_2)) ((w35_1)) ((y35_0_1)) (tgh ((a3))) by assumption)
  · have : RAP ((u1_2)) ((w2)) ((u1_1)) ((u1_2)) ((w2)) ((u1_1)) (tgl (sc ((w5)) ((a2)) ((a2) + (a3)))) := by rw [sc_nil (b := (a2) + (a3)) (by omega), tgl_0]; exact RAP_refl
    exact w_ret rfl (k _ _ _ _ _ _ _ H O (SD_refl) (SD_refl) (SF_refl) (SA_refl) (pf2) (n2) (en2) (u1_1) ((eu1_1)) (u1_2) ((eu1_2)) (w2) (ew2) (show 0 ≤ (u1_1) ∧ (u1_1) ≤ (n2) ∧ (n2) ≤ 65536 from h2) (show RAP ((u1_2)) ((w2)) ((u1_1)) ((u1_2)) ((w2)) ((u1_1)) (tgl (sc ((w5)) (a2) (a2 + a3))) by assumption))
abbrev V197_Row : vV := [(0, 7, [(4, 0), (0, 0), (1, 0), (0, 0), (0, 0)]), (1, 0, [])]
theorem len_V197_Row_oz_D3cls : (V197_Row).length = 2 := by decide +kernel
theorem oz_D3cls_25 : vsub V197_Row V199 [] = true := by decide +kernel
theorem oz_D3cls_26 : vsub V197_Row V198 [] = true := by decide +kernel
theorem oz_D3cls_27 : vsub V197_Row V159 [0, 1] = true := by decide +kernel
theorem oz_D3cls_28 : vmov V197_Row [0, 1] [1] = true := by decide +kernel
theorem oz_D3cls_29 : vsub V197_Row V160 [0, 1] = true := by decide +kernel

theorem C197_Row {σE : rS} {D N : Nat → Nat} {F : hF} {A : hA} {d c s : Nat} {Q : wQ} (H : HW V197_Row σE D N F A) {a2 a3 : Int} (pf1 : F 0 0 = (D 1 : Int)) (n1 : Int) (en1 : (N 1 : Int) = n1) (u0_1 : Int) (eu0_1 : F 0 1 = u0_1) (u0_2 : Int) (eu0_2 : F 0 2 = u0_2) (w1 : Int → Int) (ew1 : A 1 = w1) (h0 : inr (a2)) (h1 : inr (a3)) (h2 : 0 ≤ (u0_1) ∧ (u0_1) ≤ (n1) ∧ (n1) ≤ 65536) (h3 : 0 ≤ (a2) ∧ (a2) ≤ 65536) (h4 : 0 ≤ (a3) ∧ (a3) ≤ 65535) (k : ∀ (σ : rS) (Dₚ Nₚ : Nat → Nat) (Fₚ : hF) (Aₚ : hA) (cₚ sₚ : Nat), HW V197_Row σ Dₚ Nₚ Fₚ Aₚ → OUT (V197_Row).length D N σE c s Dₚ Nₚ σ cₚ sₚ → SD [1] D Dₚ → SD [1] N Nₚ → SF [(0, 0), (0, 1), (0, 2)] F Fₚ → SA [1] A Aₚ → Fₚ 0 0 = (Dₚ 1 : Int) → ∀ m1 : Int, (Nₚ 1 : Int) = m1 → ∀ y0_1 : Int, Fₚ 0 1 = y0_1 → ∀ y0_2 : Int, Fₚ 0 2 = y0_2 → ∀ v1 : Int → Int, Aₚ 1 = v1 → (0 ≤ (y0_1) ∧ (y0_1) ≤ (m1) ∧ (m1) ≤ 65536) → (RAP ((u0_2)) ((w1)) ((u0_1)) ((y0_2)) ((v1)) ((y0_1)) (tgc (ner ((a3))) ((a3)) ((a2)))) → Q none σ cₚ sₚ) : Ew 197 (d + 3) 0 (rargs 0 [.ref (D 0), I a2, I a3]) [] σE c s Q := by
  have O := OUT_refl (n := (V197_Row).length) (D := D) (N := N) (σ := σE) (c := c) (s := s)
  have HE := H
  have r1 : (-2147483648 : Int) ≤ u0_1 ∧ u0_1 ≤ 2147483647 := rngE (show (-2147483648 : Int) ≤ F 0 1 ∧ F 0 1 ≤ 2147483647 from H.krg 0 1 (ltn len_V197_Row_oz_D3cls rfl)) (show F 0 1 = u0_1 from (eu0_1))
  have r2 : (0 : Int) ≤ u0_2 ∧ u0_2 ≤ 1 := rngE (show (0 : Int) ≤ F 0 2 ∧ F 0 2 ≤ 1 from H.krg 0 2 (ltn len_V197_Row_oz_D3cls rfl)) (show F 0 2 = u0_2 from (eu0_2))
  have r3 : (0 : Int) ≤ n1 ∧ n1 ≤ 1000000 := nleE (H.nle 1 (ltn len_V197_Row_oz_D3cls rfl)) (show (N 1 : Int) = n1 from en1)
  have hc12 : ∀ (tc12_0 : Int), ∀ (ls : rO) (σ : rS) (F_c12 : hF) (A_c12 : hA) , rlook ls 0 = some (.ref (D 0)) → rlook ls 1 = some (I (a2)) → rlook ls 2 = some (I (a3)) → HW V197_Row σ D N F_c12 A_c12 → OUT (V197_Row).length D N σE c s D N σ c s → SF [] F F_c12 → SA [] A A_c12 → (inr (tc12_0)) → ((tc12_0) = 1 ∧ (a3) < 2048 ∨ (tc12_0) = 0 ∧ 2048 ≤ (a3)) → Ew 197 (d + 3) 12 ls [I (tc12_0)] σ c s Q := by
   as_aux_lemma =>
    intro tc12_0 ls σ F_c12 A_c12  lc12_0 lc12_1 lc12_2 H O hS_c12 hA_c12     jc12_0 jc12_1
    have cF_c12 : SF oz_D3clsl_2 F F_c12 := SF_trans (SF_refl) hS_c12 (any_sub (by decide +kernel))
    have mF_c12 := SFm_of cF_c12 oz_D3cls_11
    have cA_c12 : SA oz_D3clsl_3 A A_c12 := SA_trans (SA_refl) hA_c12 (any_subA (by decide +kernel))
    have mA_c12 := SAm_of cA_c12 oz_D3cls_12
    refine Ew_of (pcₚ := 13) (fun _ => x_istore_n rfl) ?_
    have hn3 : (tc12_0) = 1 ∧ (a3) < 2048 ∨ (tc12_0) = 0 ∧ 2048 ≤ (a3) := jc12_1
    have hner2 := ner_eq ((a3))
    have hne : ner ((a3)) = (tc12_0) := by omega
    refine Ew_of (pcₚ := 14) (fun _ => x_iload_n rfl (rk_o (lc12_1) rfl rfl)) ?_
    refine Ew_of (pcₚ := 16) (fun _ => x_istore rfl) ?_
    refine Ew_of (pcₚ := 17) (fun _ => x_iconst rfl) ?_
    refine Ew_of (pcₚ := 19) (fun _ => x_istore rfl) ?_
    have : RTO ((u0_2)) ((w1)) ((u0_1)) ((u0_2)) ((w1)) ((u0_1)) (tgc (ner ((a3))) ((a3)) ((a2))) (tgc (ner ((a3))) ((a3)) ((a2))) := RTO_0
    suffices hl19 : ∀ (m : Nat), ∀ (ls : rO) (σ : rS) (D_19 N_19 : Nat → Nat) (c_19 s_19 : Nat) (F_19 : hF) (A_19 : hA) (x19_4 : Int) (x19_5 : Int), rlook ls 0 = some (.ref (D_19 0)) → rlook ls 1 = some (I (a2)) → rlook ls 2 = some (I (a3)) → rlook ls 3 = some (I (tc12_0)) → rlook ls 4 = some (I (x19_4)) → rlook ls 5 = some (I (x19_5)) → HW V197_Row σ D_19 N_19 F_19 A_19 → OUT (V197_Row).length D N σE c s D_19 N_19 σ c_19 s_19 → SD [1] D D_19 → SD [1] N N_19 → SF [(0, 0), (0, 1), (0, 2)] F_c12 F_19 → SA [1] A_c12 A_19 → F_19 0 0 = (D_19 1 : Int) → ∀ m19_1 : Int, (N_19 1 : Int) = m19_1 → ∀ y19_0_1 : Int, F_19 0 1 = y19_0_1 → ∀ y19_0_2 : Int, F_19 0 2 = y19_0_2 → ∀ w19_1 : Int → Int, A_19 1 = w19_1 → (inr (x19_4)) → (inr (x19_5)) → ((0) ≤ (x19_5)) → ((x19_5) ≤ (0) ∨ (x19_5) ≤ ((a2))) → (0 ≤ (y19_0_1) ∧ (y19_0_1) ≤ (m19_1) ∧ (m19_1) ≤ 65536) → ((x19_4) ≤ 65536) → ((x19_4) ≤ (a2) - (x19_5)) → (RTO ((u0_2)) ((w1)) ((u0_1)) ((y19_0_2)) ((w19_1)) ((y19_0_1)) (tgc (ner ((a3))) ((a3)) ((a2))) (tgc (ner ((a3))) ((a3)) ((x19_4)))) → (((a2)) - (x19_5)).toNat = m → Ew 197 (d + 3) 19 ls [] σ c_19 s_19 Q from
      hl19 _ _ _ _ _ _ _ _ _ (a2) (0) (rk_o (rk_o (rk_o (lc12_0) rfl rfl) rfl rfl) rfl rfl) (rk_o (rk_o (rk_o (lc12_1) rfl rfl) rfl rfl) rfl rfl) (rk_o (rk_o (rk_o (lc12_2) rfl rfl) rfl rfl) rfl rfl) (rk_o (rk_o (rk_s) rfl rfl) rfl rfl) (rk_o (rk_s) rfl rfl) (rk_s) H O (SD_refl) (SD_refl) (SF_refl) (SA_refl) (((hS_c12 0 0 rfl)).trans (pf1)) (n1) (en1) (u0_1) (((hS_c12 0 1 rfl).trans (eu0_1))) (u0_2) (((hS_c12 0 2 rfl).trans (eu0_2))) (w1) ((funext (hA_c12 1 rfl)).trans (ew1)) (show inr (a2) from h0) (show inr (0) from q_2) (show (0) ≤ (0) from q_1) (show (0) ≤ (0) ∨ (0) ≤ ((a2)) from q_5) (show 0 ≤ (u0_1) ∧ (u0_1) ≤ (n1) ∧ (n1) ≤ 65536 from h2) (show (a2) ≤ 65536 from q_3177 h3) (show (a2) ≤ (a2) - (0) from q_3176) (show RTO ((u0_2)) ((w1)) ((u0_1)) ((u0_2)) ((w1)) ((u0_1)) (tgc (ner ((a3))) ((a3)) ((a2))) (tgc (ner ((a3))) ((a3)) ((a2))) by assumption) rfl
    as_aux_lemma =>
    intro m
    induction m using Nat.strongRecOn with
    | _ m ih19 =>
      intro ls σ D_19 N_19 c_19 s_19 F_19 A_19 x19_4 x19_5 l19_0 l19_1 l19_2 l19_3 l19_4 l19_5 H O hD_19 hN_19 hS_19 hA_19 pm19_1 m19_1 em19_1 y19_0_1 ey19_0_1 y19_0_2 ey19_0_2 w19_1 ew19_1 j19_0 j19_1 j19_2 j19_3 j19_4 j19_5 j19_6 j19_7 hm19
      have cF_19 : SF oz_D3clsl_2 F F_19 := SF_trans (cF_c12) hS_19 (any_sub (by decide +kernel))
      have mF_19 := SFm_of cF_19 oz_D3cls_11
      have cA_19 : SA oz_D3clsl_3 A A_19 := SA_trans (cA_c12) hA_19 (any_subA (by decide +kernel))
      have mA_19 := SAm_of cA_19 oz_D3cls_12
      have cD_19 : SD oz_D3clsl_3 D D_19 := SD_trans (SD_refl) hD_19 (any_subA (by decide +kernel))
      have mD_19 := SDm_of cD_19 oz_D3cls_12
      have cN_19 : SD oz_D3clsl_3 N N_19 := SD_trans (SD_refl) hN_19 (any_subA (by decide +kernel))
      have mN_19 := SDm_of cN_19 oz_D3cls_12
      have r4 : (0 : Int) ≤ m19_1 ∧ m19_1 ≤ 1000000 := nleE (H.nle 1 (ltn len_V197_Row_oz_D3cls rfl)) (show (N_19 1 : Int) = m19_1 from em19_1)
      have r5 : (-2147483648 : Int) ≤ y19_0_1 ∧ y19_0_1 ≤ 2147483647 := rngE (show (-2147483648 : Int) ≤ F_19 0 1 ∧ F_19 0 1 ≤ 2147483647 from H.krg 0 1 (ltn len_V197_Row_oz_D3cls rfl)) (show F_19 0 1 = y19_0_1 from (ey19_0_1))
      have r6 : (0 : Int) ≤ y19_0_2 ∧ y19_0_2 ≤ 1 := rngE (show (0 : Int) ≤ F_19 0 2 ∧ F_19 0 2 ≤ 1 from H.krg 0 2 (ltn len_V197_Row_oz_D3cls rfl)) (show F_19 0 2 = y19_0_2 from (ey19_0_2))
      have j19_q : RTO ((u0_2)) ((w1)) ((u0_1)) ((y19_0_2)) ((w19_1)) ((y19_0_1)) (tgc (ner ((a3))) ((a3)) ((a2))) (tgc (ner ((a3))) ((a3)) ((x19_4))) := j19_7
      refine Ew_of (pcₚ := 21) (fun _ => x_iload rfl l19_5) ?_
      refine Ew_of (pcₚ := 22) (fun _ => x_iload_n rfl l19_1) ?_
      refine w_icmpge (t := 106) rfl rfl (show inr (x19_5) from j19_1) (show inr (a2) from h0) (fun b7 => ?_) (fun b7 => ?_)
      · have : RAP ((u0_2)) ((w1)) ((u0_1)) ((y19_0_2)) ((w19_1)) ((y19_0_1)) (tgc (ner ((a3))) ((a3)) ((a2))) := RTO_e j19_q (by rw [tgc_0 (l := (x19_4)) (by omega)]; exact RAP_refl)
        exact w_ret rfl (k _ _ _ _ _ _ _ H O (cD_19) (cN_19) (cF_19) (cA_19) (pm19_1) (m19_1) (em19_1) (y19_0_1) ((ey19_0_1)) (y19_0_2) ((ey19_0_2)) (w19_1) (ew19_1) (show 0 ≤ (y19_0_1) ∧ (y19_0_1) ≤ (m19_1) ∧ (m19_1) ≤ 65536 from j19_4) (show RAP ((u0_2)) ((w1)) ((u0_1)) ((y19_0_2)) ((w19_1)) ((y19_0_1)) (tgc (ner (a3)) (a3) (a2)) by assumption))
      · refine Ew_of (pcₚ := 27) (fun _ => x_iload rfl l19_4) ?_
        refine w_ifle (t := 106) rfl rfl (show inr (x19_4) from j19_0) (fun b8 => ?_) (fun b8 => ?_)
        · have : RAP ((u0_2)) ((w1)) ((u0_1)) ((y19_0_2)) ((w19_1)) ((y19_0_1)) (tgc (ner ((a3))) ((a3)) ((a2))) := RTO_e j19_q (by rw [tgc_0 (l := (x19_4)) (by omega)]; exact RAP_refl)
          exact w_ret rfl (k _ _ _ _ _ _ _ H O (cD_19) (cN_19) (cF_19) (cA_19) (pm19_1) (m19_1) (em19_1) (y19_0_1) ((ey19_0_1)) (y19_0_2) ((ey19_0_2)) (w19_1) (ew19_1) (show 0 ≤ (y19_0_1) ∧ (y19_0_1) ≤ (m19_1) ∧ (m19_1) ≤ 65536 from j19_4) (show RAP ((u0_2)) ((w1)) ((u0_1)) ((y19_0_2)) ((w19_1)) ((y19_0_1)) (tgc (ner (a3)) (a3) (a2)) by assumption))
        · refine Ew_of (pcₚ := 32) (fun _ => x_iload rfl l19_4) ?_
          refine Ew_of (pcₚ := 33) (fun _ => x_iload_n rfl l19_3) ?_
          refine w_stat24 rfl rfl (by rfl) (C199 (D := puc 0 D_19) (N := puc 0 N_19) (HW_subc H oz_D3cls_25 oz_D3cls_7) (show inr (x19_4) from j19_0) (show inr (tc12_0) from jc12_0) (show (tc12_0) = 0 ∨ (tc12_0) = 1 by omega) (show 1 ≤ (x19_4) ∧ (x19_4) ≤ 65536 from q_3178 b8 j19_5) (fun z9 σ9 F9ₚ A9ₚ Hₚ Oₚ hS9 hA9 pz9_0 pz9_1 pz9_2 => ⟨rfl, ?_⟩))
          refine v_backc (c := c_19) (s := s_19) H oz_D3cls_25 oz_D3cls_7 Hₚ Oₚ (fun F9 A9 H Oₚ eF9 eA9 => ?_)
          have O := OUT_trans O Oₚ
          -- Tags.firstCopy
          have cF9 : SF oz_D3clsl_2 F F9 := SF_trans (cF_19) (SF_gluc (ι := oz_D3clsl_1) oz_D3cls_7 hS9 eF9 (by decide +kernel)) (any_sub (lₚ := []) (by decide +kernel))
          have mF9 := SFm_of cF9 oz_D3cls_11
          have cA9 : SA oz_D3clsl_3 A A9 := SA_trans (cA_19) (SA_gluc (ι := oz_D3clsl_1) oz_D3cls_7 hA9 eA9 (by decide +kernel)) (any_subA (lₚ := []) (by decide +kernel))
          have mA9 := SAm_of cA9 oz_D3cls_12
          have hfc : (z9) = fcl (ner ((a3))) ((x19_4)) := by rw [hne]; exact pz9_2
          have hfr := fcl_r (nr := ner ((a3))) (l := (x19_4)) (by omega)
          rw [← hfc] at hfr
          refine Ew_of (pcₚ := 38) (fun _ => x_istore rfl) ?_
          have hc93 : ∀ (ls : rO) (σ : rS) (D_c93 N_c93 : Nat → Nat) (c_c93 s_c93 : Nat) (F_c93 : hF) (A_c93 : hA) , rlook ls 0 = some (.ref (D_c93 0)) → rlook ls 1 = some (I (a2)) → rlook ls 2 = some (I (a3)) → rlook ls 3 = some (I (tc12_0)) → rlook ls 4 = some (I (x19_4)) → rlook ls 5 = some (I (x19_5)) → rlook ls 6 = some (I (z9)) → HW V197_Row σ D_c93 N_c93 F_c93 A_c93 → OUT (V197_Row).length D N σE c s D_c93 N_c93 σ c_c93 s_c93 → SD [1] D_19 D_c93 → SD [1] N_19 N_c93 → SF [(0, 0), (0, 1), (0, 2)] F9 F_c93 → SA [1] A9 A_c93 → F_c93 0 0 = (D_c93 1 : Int) → ∀ mc93_1 : Int, (N_c93 1 : Int) = mc93_1 → ∀ yc93_0_1 : Int, F_c93 0 1 = yc93_0_1 → ∀ yc93_0_2 : Int, F_c93 0 2 = yc93_0_2 → ∀ wc93_1 : Int → Int, A_c93 1 = wc93_1 → (0 ≤ (yc93_0_1) ∧ (yc93_0_1) ≤ (mc93_1) ∧ (mc93_1) ≤ 65536) → (RTO ((u0_2)) ((w1)) ((u0_1)) ((yc93_0_2)) ((wc93_1)) ((yc93_0_1)) (tgc (ner ((a3))) ((a3)) ((a2))) (tgc (ner ((a3))) ((a3)) ((x19_4) - (z9)))) → Ew 197 (d + 3) 93 ls [] σ c_c93 s_c93 Q := by
           as_aux_lemma =>
            intro  ls σ D_c93 N_c93 c_c93 s_c93 F_c93 A_c93  lc93_0 lc93_1 lc93_2 lc93_3 lc93_4 lc93_5 lc93_6 H O hD_c93 hN_c93 hS_c93 hA_c93 pmc93_1 mc93_1 emc93_1 yc93_0_1 eyc93_0_1 yc93_0_2 eyc93_0_2 wc93_1 ewc93_1 jc93_0 jc93_1
            have cF_c93 : SF oz_D3clsl_2 F F_c93 := SF_trans (cF9) hS_c93 (any_sub (by decide +kernel))
            have mF_c93 := SFm_of cF_c93 oz_D3cls_11
            have cA_c93 : SA oz_D3clsl_3 A A_c93 := SA_trans (cA9) hA_c93 (any_subA (by decide +kernel))
            have mA_c93 := SAm_of cA_c93 oz_D3cls_12
            have cD_c93 : SD oz_D3clsl_3 D D_c93 := SD_trans (cD_19) hD_c93 (any_subA (by decide +kernel))
            have mD_c93 := SDm_of cD_c93 oz_D3cls_12
            have cN_c93 : SD oz_D3clsl_3 N N_c93 := SD_trans (cN_19) hN_c93 (any_subA (by decide +kernel))
            have mN_c93 := SDm_of cN_c93 oz_D3cls_12
            have r10 : (0 : Int) ≤ mc93_1 ∧ mc93_1 ≤ 1000000 := nleE (H.nle 1 (ltn len_V197_Row_oz_D3cls rfl)) (show (N_c93 1 : Int) = mc93_1 from emc93_1)
            have r11 : (-2147483648 : Int) ≤ yc93_0_1 ∧ yc93_0_1 ≤ 2147483647 := rngE (show (-2147483648 : Int) ≤ F_c93 0 1 ∧ F_c93 0 1 ≤ 2147483647 from H.krg 0 1 (ltn len_V197_Row_oz_D3cls rfl)) (show F_c93 0 1 = yc93_0_1 from (eyc93_0_1))
            have r12 : (0 : Int) ≤ yc93_0_2 ∧ yc93_0_2 ≤ 1 := rngE (show (0 : Int) ≤ F_c93 0 2 ∧ F_c93 0 2 ≤ 1 from H.krg 0 2 (ltn len_V197_Row_oz_D3cls rfl)) (show F_c93 0 2 = yc93_0_2 from (eyc93_0_2))
            have k93 : RTO ((u0_2)) ((w1)) ((u0_1)) ((yc93_0_2)) ((wc93_1)) ((yc93_0_1)) (tgc (ner ((a3))) ((a3)) ((a2))) (tgc (ner ((a3))) ((a3)) ((x19_4) - (z9))) := jc93_1
            refine Ew_of (pcₚ := 95) (fun _ => x_iload rfl lc93_4) ?_
            refine Ew_of (pcₚ := 97) (fun _ => x_iload rfl lc93_6) ?_
            refine w_isub rfl ?_
            refine Ew_of (pcₚ := 100) (fun _ => x_istore rfl) ?_
            refine Ew_of (pcₚ := 103) (fun _ => x_iinc (len := 3) rfl (rk_o (lc93_5) rfl rfl)) ?_
            refine Ew_of (pcₚ := 19) (fun _ => x_goto rfl rfl) ?_
            exact ih19 _ (msE hm19 q_16 (q_17 b7)) _ _ _ _ _ _ _ _ ((x19_4 - z9)) ((x19_5 + 1)) (rk_o (rk_o (lc93_0) rfl rfl) rfl rfl) (rk_o (rk_o (lc93_1) rfl rfl) rfl rfl) (rk_o (rk_o (lc93_2) rfl rfl) rfl rfl) (rk_o (rk_o (lc93_3) rfl rfl) rfl rfl) (rk_o (rk_s) rfl rfl) (rk_s) H O (SD_trans (hD_19) hD_c93 (any_subA (by decide +kernel))) (SD_trans (hN_19) hN_c93 (any_subA (by decide +kernel))) (SF_trans (SF_trans (hS_19) (SF_gluc (ι := oz_D3clsl_1) oz_D3cls_7 hS9 eF9 (by decide +kernel)) (any_sub (lₚ := []) (by decide +kernel))) hS_c93 (any_sub (by decide +kernel))) (SA_trans (SA_trans (hA_19) (SA_gluc (ι := oz_D3clsl_1) oz_D3cls_7 hA9 eA9 (by decide +kernel)) (any_subA (lₚ := []) (by decide +kernel))) hA_c93 (any_subA (by decide +kernel))) (pmc93_1) (mc93_1) (emc93_1) (yc93_0_1) ((eyc93_0_1)) (yc93_0_2) ((eyc93_0_2)) (wc93_1) (ewc93_1) (show inr ((x19_4 - z9)) from q_3181 j19_5 pz9_1) (show inr ((x19_5 + 1)) from q_373 b7 h3 j19_2) (show (0) ≤ ((x19_5 + 1)) from q_14 j19_2) (show ((x19_5 + 1)) ≤ (0) ∨ ((x19_5 + 1)) ≤ ((a2)) from q_13 b7) (show 0 ≤ (yc93_0_1) ∧ (yc93_0_1) ≤ (mc93_1) ∧ (mc93_1) ≤ 65536 from jc93_0) (show ((x19_4 - z9)) ≤ 65536 from q_3180 j19_5 pz9_1) (show ((x19_4 - z9)) ≤ (a2) - ((x19_5 + 1)) from q_3179 j19_6 pz9_1) (k93) rfl
          refine Ew_of (pcₚ := 40) (fun _ => x_iload rfl rk_s) ?_
          refine Ew_of (pcₚ := 41) (fun _ => x_iload_n rfl (rk_o (l19_3) rfl rfl)) ?_
          refine w_stat24 rfl rfl (by rfl) (C198 (D := puc 0 D_19) (N := puc 0 N_19) (HW_subc H oz_D3cls_26 oz_D3cls_7) (show inr (z9) from pz9_0) (show inr (tc12_0) from jc12_0) (show (tc12_0) = 0 ∨ (tc12_0) = 1 by omega) (fun z13 σ13 F13ₚ A13ₚ Hₚ Oₚ hS13 hA13 pz13_0 pz13_1 => ⟨rretB rfl pz13_0, ?_⟩))
          refine v_backc (c := c_19) (s := s_19) H oz_D3cls_26 oz_D3cls_7 Hₚ Oₚ (fun F13 A13 H Oₚ eF13 eA13 => ?_)
          have O := OUT_trans O Oₚ
          -- Tags.isShort
          have cF13 : SF oz_D3clsl_2 F F13 := SF_trans (cF9) (SF_gluc (ι := oz_D3clsl_1) oz_D3cls_7 hS13 eF13 (by decide +kernel)) (any_sub (lₚ := []) (by decide +kernel))
          have mF13 := SFm_of cF13 oz_D3cls_11
          have cA13 : SA oz_D3clsl_3 A A13 := SA_trans (cA9) (SA_gluc (ι := oz_D3clsl_1) oz_D3cls_7 hA13 eA13 (by decide +kernel)) (any_subA (lₚ := []) (by decide +kernel))
          have mA13 := SAm_of cA13 oz_D3cls_12
          refine w_ifeq (t := 74) rfl rfl (show inr (z13) from q_138 pz13_0) (fun b14 => ?_) (fun b14 => ?_)
          · refine Ew_of (pcₚ := 75) (fun _ => x_aload_n rfl (rk_o (l19_0) rfl rfl)) ?_
            refine Ew_of (pcₚ := 76) (fun _ => x_iconst rfl) ?_
            refine Ew_of (pcₚ := 78) (fun _ => x_iload rfl rk_s) ?_
            refine Ew_of (pcₚ := 79) (fun _ => x_iconst rfl) ?_
            refine w_isub rfl ?_
            refine Ew_of (pcₚ := 81) (fun _ => x_iconst rfl) ?_
            refine w_ishlE rfl ?_
            have g15 : inr (slI ((z9 - 1)) (2)) := toI_inr _
            refine w_iorE rfl ?_
            have g16 : inr (orI (2) ((slI ((z9 - 1)) (2)))) := toI_inr _
            refine v_inv H (o := 0) rfl rfl rfl rfl rfl rfl (by rfl) (C159 (D := puc 512 D_19) (N := puc 512 N_19) (HW_subc H oz_D3cls_27 oz_D3cls_13) (((((show F13 0 0 = F9 0 0 from (eF13 0 0))).trans ((show F9 0 0 = F_19 0 0 from (eF9 0 0))))).trans (pm19_1)) (m19_1) (em19_1) (y19_0_1) (((((show F13 0 1 = F9 0 1 from (eF13 0 1))).trans ((show F9 0 1 = F_19 0 1 from (eF9 0 1)))).trans (ey19_0_1))) (y19_0_2) (((((show F13 0 2 = F9 0 2 from (eF13 0 2))).trans ((show F9 0 2 = F_19 0 2 from (eF9 0 2)))).trans (ey19_0_2))) (w19_1) (((show A13 1 = A9 1 from (eA13 1))).trans (((show A9 1 = A_19 1 from (eA9 1))).trans (ew19_1))) (show inr ((orI (2) ((slI ((z9 - 1)) (2))))) from g16) (show 0 ≤ (y19_0_1) ∧ (y19_0_1) ≤ (m19_1) ∧ (m19_1) ≤ 65536 from j19_4) (fun σ17 D17ₚ N17ₚ F17ₚ A17ₚ c17 s17 Hₚ Oₚ hD17 hN17 hS17 hA17 pm17_1 m17_1 em17_1 y17_0_1 ey17_0_1 y17_0_2 ey17_0_2 w17_1 ew17_1 pz17_0 pz17_1 pz17_2 pz17_3 => ⟨rfl, ?_⟩))
            refine v_backMc (c := c_19) (s := s_19) H oz_D3cls_27 oz_D3cls_13 Hₚ Oₚ hD17 oz_D3cls_28 (fun D17 N17 F17 A17 H Oₚ eD17 eN17 eF17 eA17 => ?_)
            have O := OUT_trans O Oₚ
            -- Row.add
            have cF17 : SF oz_D3clsl_2 F F17 := SF_trans (cF13) (SF_gluc (ι := oz_D3clsl_4) oz_D3cls_13 hS17 eF17 (by decide +kernel)) (any_sub (lₚ := [(0, 0), (0, 1), (0, 2)]) (by decide +kernel))
            have mF17 := SFm_of cF17 oz_D3cls_11
            have cA17 : SA oz_D3clsl_3 A A17 := SA_trans (cA13) (SA_gluc (ι := oz_D3clsl_4) oz_D3cls_13 hA17 eA17 (by decide +kernel)) (any_subA (lₚ := [1]) (by decide +kernel))
            have mA17 := SAm_of cA17 oz_D3cls_12
            have cD17 : SD oz_D3clsl_3 D D17 := SD_trans (cD_19) (SD_gluc (ι := oz_D3clsl_4) oz_D3cls_13 hD17 eD17 (by decide +kernel)) (any_subA (lₚ := [1]) (by decide +kernel))
            have mD17 := SDm_of cD17 oz_D3cls_12
            have cN17 : SD oz_D3clsl_3 N N17 := SD_trans (cN_19) (SD_gluc (ι := oz_D3clsl_4) oz_D3cls_13 hN17 eN17 (by decide +kernel)) (any_subA (lₚ := [1]) (by decide +kernel))
            have mN17 := SDm_of cN17 oz_D3cls_12
            have pf17_0_0 : F17 0 0 = (D17 1 : Int) := (eF17 0 0).trans (pm17_1.trans (congrArg (fun q : Nat => (q : Int)) (eD17 1).symm))
            have r18 : (0 : Int) ≤ m17_1 ∧ m17_1 ≤ 1000000 := nleE (H.nle 1 (ltn len_V197_Row_oz_D3cls rfl)) (show (N17 1 : Int) = m17_1 from (congrArg (fun q : Nat => (q : Int)) (eN17 1)).trans em17_1)
            have r19 : (-2147483648 : Int) ≤ y17_0_1 ∧ y17_0_1 ≤ 2147483647 := rngE (show (-2147483648 : Int) ≤ F17 0 1 ∧ F17 0 1 ≤ 2147483647 from H.krg 0 1 (ltn len_V197_Row_oz_D3cls rfl)) (show F17 0 1 = y17_0_1 from ((eF17 0 1).trans ey17_0_1))
            have r20 : (0 : Int) ≤ y17_0_2 ∧ y17_0_2 ≤ 1 := rngE (show (0 : Int) ≤ F17 0 2 ∧ F17 0 2 ≤ 1 from H.krg 0 2 (ltn len_V197_Row_oz_D3cls rfl)) (show F17 0 2 = y17_0_2 from ((eF17 0 2).trans ey17_0_2))
            have h2_ := pz17_3
            rw [cp_l (by omega)] at h2_
            refine Ew_of (pcₚ := 87) (fun _ => x_aload_n rfl (rk_o (l19_0) rfl rfl)) ?_
            refine Ew_of (pcₚ := 88) (fun _ => x_iload_n rfl (rk_o (l19_2) rfl rfl)) ?_
            refine w_i2l rfl (show inr (a3) from h1) ?_
            refine Ew_of (pcₚ := 90) (fun _ => x_iconst rfl) ?_
            refine Ew_stk (congrArg (fun qz : Nat => ([I (2), J (a3), .ref qz] : List Value)) (show D17 0 = D_19 0 from ((show D17 0 = D_19 0 from (eD17 0).trans (hD17 0 rfl)))).symm) ?_
            refine v_inv H (o := 0) rfl rfl rfl rfl rfl rfl (by rfl) (C160 (D := puc 512 D17) (N := puc 512 N17) (HW_subc H oz_D3cls_29 oz_D3cls_13) (pf17_0_0) (m17_1) ((congrArg (fun q : Nat => (q : Int)) (eN17 1)).trans em17_1) (y17_0_1) (((eF17 0 1).trans ey17_0_1)) (y17_0_2) (((eF17 0 2).trans ey17_0_2)) (w17_1) ((eA17 1).trans ew17_1) (show inrJ (a3) from q_3182 h4) (show inr (2) from q_122) (show 0 ≤ (y17_0_1) ∧ (y17_0_1) ≤ (m17_1) ∧ (m17_1) ≤ 65536 from pz17_0) (show 0 ≤ (2) ∧ (2) ≤ 8 from q_2748) (fun σ21 D21ₚ N21ₚ F21ₚ A21ₚ c21 s21 Hₚ Oₚ hD21 hN21 hS21 hA21 pm21_1 m21_1 em21_1 y21_0_1 ey21_0_1 y21_0_2 ey21_0_2 w21_1 ew21_1 pz21_0 pz21_1 pz21_2 => ⟨rfl, ?_⟩))
            refine v_backMc (c := (c_19 + c17)) (s := (s_19 + s17)) H oz_D3cls_29 oz_D3cls_13 Hₚ Oₚ hD21 oz_D3cls_28 (fun D21 N21 F21 A21 H Oₚ eD21 eN21 eF21 eA21 => ?_)
            have O := OUT_trans O Oₚ
            -- Row.addNumber
            have cF21 : SF oz_D3clsl_2 F F21 := SF_trans (cF17) (SF_gluc (ι := oz_D3clsl_4) oz_D3cls_13 hS21 eF21 (by decide +kernel)) (any_sub (lₚ := [(0, 0), (0, 1), (0, 2)]) (by decide +kernel))
            have mF21 := SFm_of cF21 oz_D3cls_11
            have cA21 : SA oz_D3clsl_3 A A21 := SA_trans (cA17) (SA_gluc (ι := oz_D3clsl_4) oz_D3cls_13 hA21 eA21 (by decide +kernel)) (any_subA (lₚ := [1]) (by decide +kernel))
            have mA21 := SAm_of cA21 oz_D3cls_12
            have cD21 : SD oz_D3clsl_3 D D21 := SD_trans (cD17) (SD_gluc (ι := oz_D3clsl_4) oz_D3cls_13 hD21 eD21 (by decide +kernel)) (any_subA (lₚ := [1]) (by decide +kernel))
            have mD21 := SDm_of cD21 oz_D3cls_12
            have cN21 : SD oz_D3clsl_3 N N21 := SD_trans (cN17) (SD_gluc (ι := oz_D3clsl_4) oz_D3cls_13 hN21 eN21 (by decide +kernel)) (any_subA (lₚ := [1]) (by decide +kernel))
            have mN21 := SDm_of cN21 oz_D3cls_12
            have pf21_0_0 : F21 0 0 = (D21 1 : Int) := (eF21 0 0).trans (pm21_1.trans (congrArg (fun q : Nat => (q : Int)) (eD21 1).symm))
            have r22 : (0 : Int) ≤ m21_1 ∧ m21_1 ≤ 1000000 := nleE (H.nle 1 (ltn len_V197_Row_oz_D3cls rfl)) (show (N21 1 : Int) = m21_1 from (congrArg (fun q : Nat => (q : Int)) (eN21 1)).trans em21_1)
            have r23 : (-2147483648 : Int) ≤ y21_0_1 ∧ y21_0_1 ≤ 2147483647 := rngE (show (-2147483648 : Int) ≤ F21 0 1 ∧ F21 0 1 ≤ 2147483647 from H.krg 0 1 (ltn len_V197_Row_oz_D3cls rfl)) (show F21 0 1 = y21_0_1 from ((eF21 0 1).trans ey21_0_1))
            have r24 : (0 : Int) ≤ y21_0_2 ∧ y21_0_2 ≤ 1 := rngE (show (0 : Int) ≤ F21 0 2 ∧ F21 0 2 ≤ 1 from H.krg 0 2 (ltn len_V197_Row_oz_D3cls rfl)) (show F21 0 2 = y21_0_2 from ((eF21 0 2).trans ey21_0_2))
            have : RTO ((u0_2)) ((w1)) ((u0_1)) ((y21_0_2)) ((w21_1)) ((y21_0_1)) (tgc (ner ((a3))) ((a3)) ((a2))) (tgc (ner ((a3))) ((a3)) ((x19_4) - (z9))) := by first | exact RTO_s j19_q (tgc_s (by omega) hfc rfl) (by have h := RAP_trans h1_ pNONE_3; unfold tgp; rw [if_pos (by omega)]; exact h) | exact RTO_s j19_q (tgc_s (by omega) hfc rfl) (by have h := RAP_trans h2_ pz21_2; unfold tgp; rw [if_neg (by omega)]; exact h)
            exact hc93  _ _ _ _ _ _ _ _  ((rk_o (l19_0) rfl rfl).trans (congrArg (fun q : Nat => some (Value.ref q)) ((((show D21 0 = D17 0 from (eD21 0).trans (hD21 0 rfl))).trans ((show D17 0 = D_19 0 from (eD17 0).trans (hD17 0 rfl))))).symm)) (rk_o (l19_1) rfl rfl) (rk_o (l19_2) rfl rfl) (rk_o (l19_3) rfl rfl) (rk_o (l19_4) rfl rfl) (rk_o (l19_5) rfl rfl) (rk_s) H O (SD_trans (SD_trans (SD_refl) (SD_gluc (ι := oz_D3clsl_4) oz_D3cls_13 hD17 eD17 (by decide +kernel)) (any_subA (lₚ := [1]) (by decide +kernel))) (SD_gluc (ι := oz_D3clsl_4) oz_D3cls_13 hD21 eD21 (by decide +kernel)) (any_subA (lₚ := [1]) (by decide +kernel))) (SD_trans (SD_trans (SD_refl) (SD_gluc (ι := oz_D3clsl_4) oz_D3cls_13 hN17 eN17 (by decide +kernel)) (any_subA (lₚ := [1]) (by decide +kernel))) (SD_gluc (ι := oz_D3clsl_4) oz_D3cls_13 hN21 eN21 (by decide +kernel)) (any_subA (lₚ := [1]) (by decide +kernel))) (SF_trans (SF_trans (SF_trans (SF_refl) (SF_gluc (ι := oz_D3clsl_1) oz_D3cls_7 hS13 eF13 (by decide +kernel)) (any_sub (lₚ := []) (by decide +kernel))) (SF_gluc (ι := oz_D3clsl_4) oz_D3cls_13 hS17 eF17 (by decide +kernel)) (any_sub (lₚ := [(0, 0), (0, 1), (0, 2)]) (by decide +kernel))) (SF_gluc (ι := oz_D3clsl_4) oz_D3cls_13 hS21 eF21 (by decide +kernel)) (any_sub (lₚ := [(0, 0), (0, 1), (0, 2)]) (by decide +kernel))) (SA_trans (SA_trans (SA_trans (SA_refl) (SA_gluc (ι := oz_D3clsl_1) oz_D3cls_7 hA13 eA13 (by decide +kernel)) (any_subA (lₚ := []) (by decide +kernel))) (SA_gluc (ι := oz_D3clsl_4) oz_D3cls_13 hA17 eA17 (by decide +kernel)) (any_subA (lₚ := [1]) (by decide +kernel))) (SA_gluc (ι := oz_D3clsl_4) oz_D3cls_13 hA21 eA21 (by decide +kernel)) (any_subA (lₚ := [1]) (by decide +kernel))) (pf21_0_0) (m21_1) ((congrArg (fun q : Nat => (q : Int)) (eN21 1)).trans em21_1) (y21_0_1) (((eF21 0 1).trans ey21_0_1)) (y21_0_2) (((eF21 0 2).trans ey21_0_2)) (w21_1) ((eA21 1).trans ew21_1) (show 0 ≤ (y21_0_1) ∧ (y21_0_1) ≤ (m21_1) ∧ (m21_1) ≤ 65536 from pz21_0) (show RTO ((u0_2)) ((w1)) ((u0_1)) ((y21_0_2)) ((w21_1)) ((y21_0_1)) (tgc (ner ((a3))) ((a3)) ((a2))) (tgc (ner ((a3))) ((a3)) ((x19_4) - (z9))) by assumption)
          · refine Ew_of (pcₚ := 48) (fun _ => x_aload_n rfl (rk_o (l19_0) rfl rfl)) ?_
            refine Ew_of (pcₚ := 49) (fun _ => x_iconst rfl) ?_
            refine Ew_of (pcₚ := 51) (fun _ => x_iload rfl rk_s) ?_
            refine Ew_of (pcₚ := 52) (fun _ => x_iconst rfl) ?_
            refine w_isub rfl ?_
            refine Ew_of (pcₚ := 54) (fun _ => x_iconst rfl) ?_
            refine w_ishlE rfl ?_
            have g25 : inr (slI ((z9 - 4)) (2)) := toI_inr _
            refine w_iorE rfl ?_
            have g26 : inr (orI (1) ((slI ((z9 - 4)) (2)))) := toI_inr _
            refine Ew_of (pcₚ := 57) (fun _ => x_iload_n rfl (rk_o (l19_2) rfl rfl)) ?_
            refine Ew_of (pcₚ := 59) (fun _ => x_bipush (z := 8) rfl (by decide)) ?_
            refine w_ishrG rfl ?_
            have g27 : inr (srI (a3) (8)) := toI_inr _
            refine Ew_of (pcₚ := 61) (fun _ => x_iconst rfl) ?_
            refine w_ishlE rfl ?_
            have g28 : inr (slI ((srI (a3) (8))) (5)) := toI_inr _
            refine w_iorE rfl ?_
            have g29 : inr (orI ((orI (1) ((slI ((z9 - 4)) (2))))) ((slI ((srI (a3) (8))) (5)))) := toI_inr _
            refine v_inv H (o := 0) rfl rfl rfl rfl rfl rfl (by rfl) (C159 (D := puc 512 D_19) (N := puc 512 N_19) (HW_subc H oz_D3cls_27 oz_D3cls_13) (((((show F13 0 0 = F9 0 0 from (eF13 0 0))).trans ((show F9 0 0 = F_19 0 0 from (eF9 0 0))))).trans (pm19_1)) (m19_1) (em19_1) (y19_0_1) (((((show F13 0 1 = F9 0 1 from (eF13 0 1))).trans ((show F9 0 1 = F_19 0 1 from (eF9 0 1)))).trans (ey19_0_1))) (y19_0_2) (((((show F13 0 2 = F9 0 2 from (eF13 0 2))).trans ((show F9 0 2 = F_19 0 2 from (eF9 0 2)))).trans (ey19_0_2))) (w19_1) (((show A13 1 = A9 1 from (eA13 1))).trans (((show A9 1 = A_19 1 from (eA9 1))).trans (ew19_1))) (show inr ((orI ((orI (1) ((slI ((z9 - 4)) (2))))) ((slI ((srI (a3) (8))) (5))))) from g29) (show 0 ≤ (y19_0_1) ∧ (y19_0_1) ≤ (m19_1) ∧ (m19_1) ≤ 65536 from j19_4) (fun σ30 D30ₚ N30ₚ F30ₚ A30ₚ c30 s30 Hₚ Oₚ hD30 hN30 hS30 hA30 pm30_1 m30_1 em30_1 y30_0_1 ey30_0_1 y30_0_2 ey30_0_2 w30_1 ew30_1 pz30_0 pz30_1 pz30_2 pz30_3 => ⟨rfl, ?_⟩))
            refine v_backMc (c := c_19) (s := s_19) H oz_D3cls_27 oz_D3cls_13 Hₚ Oₚ hD30 oz_D3cls_28 (fun D30 N30 F30 A30 H Oₚ eD30 eN30 eF30 eA30 => ?_)
            have O := OUT_trans O Oₚ
            -- Row.add
            have cF30 : SF oz_D3clsl_2 F F30 := SF_trans (cF13) (SF_gluc (ι := oz_D3clsl_4) oz_D3cls_13 hS30 eF30 (by decide +kernel)) (any_sub (lₚ := [(0, 0), (0, 1), (0, 2)]) (by decide +kernel))
            have mF30 := SFm_of cF30 oz_D3cls_11
            have cA30 : SA oz_D3clsl_3 A A30 := SA_trans (cA13) (SA_gluc (ι := oz_D3clsl_4) oz_D3cls_13 hA30 eA30 (by decide +kernel)) (any_subA (lₚ := [1]) (by decide +kernel))
            have mA30 := SAm_of cA30 oz_D3cls_12
            have cD30 : SD oz_D3clsl_3 D D30 := SD_trans (cD_19) (SD_gluc (ι := oz_D3clsl_4) oz_D3cls_13 hD30 eD30 (by decide +kernel)) (any_subA (lₚ := [1]) (by decide +kernel))
            have mD30 := SDm_of cD30 oz_D3cls_12
            have cN30 : SD oz_D3clsl_3 N N30 := SD_trans (cN_19) (SD_gluc (ι := oz_D3clsl_4) oz_D3cls_13 hN30 eN30 (by decide +kernel)) (any_subA (lₚ := [1]) (by decide +kernel))
            have mN30 := SDm_of cN30 oz_D3cls_12
            have pf30_0_0 : F30 0 0 = (D30 1 : Int) := (eF30 0 0).trans (pm30_1.trans (congrArg (fun q : Nat => (q : Int)) (eD30 1).symm))
            have r31 : (0 : Int) ≤ m30_1 ∧ m30_1 ≤ 1000000 := nleE (H.nle 1 (ltn len_V197_Row_oz_D3cls rfl)) (show (N30 1 : Int) = m30_1 from (congrArg (fun q : Nat => (q : Int)) (eN30 1)).trans em30_1)
            have r32 : (-2147483648 : Int) ≤ y30_0_1 ∧ y30_0_1 ≤ 2147483647 := rngE (show (-2147483648 : Int) ≤ F30 0 1 ∧ F30 0 1 ≤ 2147483647 from H.krg 0 1 (ltn len_V197_Row_oz_D3cls rfl)) (show F30 0 1 = y30_0_1 from ((eF30 0 1).trans ey30_0_1))
            have r33 : (0 : Int) ≤ y30_0_2 ∧ y30_0_2 ≤ 1 := rngE (show (0 : Int) ≤ F30 0 2 ∧ F30 0 2 ≤ 1 from H.krg 0 2 (ltn len_V197_Row_oz_D3cls rfl)) (show F30 0 2 = y30_0_2 from ((eF30 0 2).trans ey30_0_2))
            have h1_ := pz30_3
            rw [cp_s (by omega) (by omega)] at h1_
            refine Ew_of (pcₚ := 67) (fun _ => x_aload_n rfl (rk_o (l19_0) rfl rfl)) ?_
            refine Ew_of (pcₚ := 68) (fun _ => x_iload_n rfl (rk_o (l19_2) rfl rfl)) ?_
            refine Ew_stk (congrArg (fun qz : Nat => ([I (a3), .ref qz] : List Value)) (show D30 0 = D_19 0 from ((show D30 0 = D_19 0 from (eD30 0).trans (hD30 0 rfl)))).symm) ?_
            refine v_inv H (o := 0) rfl rfl rfl rfl rfl rfl (by rfl) (C159 (D := puc 512 D30) (N := puc 512 N30) (HW_subc H oz_D3cls_27 oz_D3cls_13) (pf30_0_0) (m30_1) ((congrArg (fun q : Nat => (q : Int)) (eN30 1)).trans em30_1) (y30_0_1) (((eF30 0 1).trans ey30_0_1)) (y30_0_2) (((eF30 0 2).trans ey30_0_2)) (w30_1) ((eA30 1).trans ew30_1) (show inr (a3) from h1) (show 0 ≤ (y30_0_1) ∧ (y30_0_1) ≤ (m30_1) ∧ (m30_1) ≤ 65536 from pz30_0) (fun σ34 D34ₚ N34ₚ F34ₚ A34ₚ c34 s34 Hₚ Oₚ hD34 hN34 hS34 hA34 pm34_1 m34_1 em34_1 y34_0_1 ey34_0_1 y34_0_2 ey34_0_2 w34_1 ew34_1 pz34_0 pz34_1 pz34_2 pz34_3 => ⟨rfl, ?_⟩))
            refine v_backMc (c := (c_19 + c30)) (s := (s_19 + s30)) H oz_D3cls_27 oz_D3cls_13 Hₚ Oₚ hD34 oz_D3cls_28 (fun D34 N34 F34 A34 H Oₚ eD34 eN34 eF34 eA34 => ?_)
            have O := OUT_trans O Oₚ
            -- Row.add
            have cF34 : SF oz_D3clsl_2 F F34 := SF_trans (cF30) (SF_gluc (ι := oz_D3clsl_4) oz_D3cls_13 hS34 eF34 (by decide +kernel)) (any_sub (lₚ := [(0, 0), (0, 1), (0, 2)]) (by decide +kernel))
            have mF34 := SFm_of cF34 oz_D3cls_11
            have cA34 : SA oz_D3clsl_3 A A34 := SA_trans (cA30) (SA_gluc (ι := oz_D3clsl_4) oz_D3cls_13 hA34 eA34 (by decide +kernel)) (any_subA (lₚ := [1]) (by decide +kernel))
            have mA34 := SAm_of cA34 oz_D3cls_12
            have cD34 : SD oz_D3clsl_3 D D34 := SD_trans (cD30) (SD_gluc (ι := oz_D3clsl_4) oz_D3cls_13 hD34 eD34 (by decide +kernel)) (any_subA (lₚ := [1]) (by decide +kernel))
            have mD34 := SDm_of cD34 oz_D3cls_12
            have cN34 : SD oz_D3clsl_3 N N34 := SD_trans (cN30) (SD_gluc (ι := oz_D3clsl_4) oz_D3cls_13 hN34 eN34 (by decide +kernel)) (any_subA (lₚ := [1]) (by decide +kernel))
            have mN34 := SDm_of cN34 oz_D3cls_12
            have pf34_0_0 : F34 0 0 = (D34 1 : Int) := (eF34 0 0).trans (pm34_1.trans (congrArg (fun q : Nat => (q : Int)) (eD34 1).symm))
            have r35 : (0 : Int) ≤ m34_1 ∧ m34_1 ≤ 1000000 := nleE (H.nle 1 (ltn len_V197_Row_oz_D3cls rfl)) (show (N34 1 : Int) = m34_1 from (congrArg (fun q : Nat => (q : Int)) (eN34 1)).trans em34_1)
            have r36 : (-2147483648 : Int) ≤ y34_0_1 ∧ y34_0_1 ≤ 2147483647 := rngE (show (-2147483648 : Int) ≤ F34 0 1 ∧ F34 0 1 ≤ 2147483647 from H.krg 0 1 (ltn len_V197_Row_oz_D3cls rfl)) (show F34 0 1 = y34_0_1 from ((eF34 0 1).trans ey34_0_1))
            have r37 : (0 : Int) ≤ y34_0_2 ∧ y34_0_2 ≤ 1 := rngE (show (0 : Int) ≤ F34 0 2 ∧ F34 0 2 ≤ 1 from H.krg 0 2 (ltn len_V197_Row_oz_D3cls rfl)) (show F34 0 2 = y34_0_2 from ((eF34 0 2).trans ey34_0_2))
            refine Ew_of (pcₚ := 93) (fun _ => x_goto rfl rfl) ?_
            have : RTO ((u0_2)) ((w1)) ((u0_1)) ((y34_0_2)) ((w34_1)) ((y34_0_1)) (tgc (ner ((a3))) ((a3)) ((a2))) (tgc (ner ((a3))) ((a3)) ((x19_4) - (z9))) := by first | exact RTO_s j19_q (tgc_s (by omega) hfc rfl) (by have h := RAP_trans h1_ pz34_3; unfold tgp; rw [if_pos (by omega)]; exact h) | exact RTO_s j19_q (tgc_s (by omega) hfc rfl) (by have h := RAP_trans h2_ pz21_2; unfold tgp; rw [if_neg (by omega)]; exact h)
            exact hc93  _ _ _ _ _ _ _ _  ((rk_o (l19_0) rfl rfl).trans (congrArg (fun q : Nat => some (Value.ref q)) ((((show D34 0 = D30 0 from (eD34 0).trans (hD34 0 rfl))).trans ((show D30 0 = D_19 0 from (eD30 0).trans (hD30 0 rfl))))).symm)) (rk_o (l19_1) rfl rfl) (rk_o (l19_2) rfl rfl) (rk_o (l19_3) rfl rfl) (rk_o (l19_4) rfl rfl) (rk_o (l19_5) rfl rfl) (rk_s) H O (SD_trans (SD_trans (SD_refl) (SD_gluc (ι := oz_D3clsl_4) oz_D3cls_13 hD30 eD30 (by decide +kernel)) (any_subA (lₚ := [1]) (by decide +kernel))) (SD_gluc (ι := oz_D3clsl_4) oz_D3cls_13 hD34 eD34 (by decide +kernel)) (any_subA (lₚ := [1]) (by decide +kernel))) (SD_trans (SD_trans (SD_refl) (SD_gluc (ι := oz_D3clsl_4) oz_D3cls_13 hN30 eN30 (by decide +kernel)) (any_subA (lₚ := [1]) (by decide +kernel))) (SD_gluc (ι := oz_D3clsl_4) oz_D3cls_13 hN34 eN34 (by decide +kernel)) (any_subA (lₚ := [1]) (by decide +kernel))) (SF_trans (SF_trans (SF_trans (SF_refl) (SF_gluc (ι := oz_D3clsl_1) oz_D3cls_7 hS13 eF13 (by decide +kernel)) (any_sub (lₚ := []) (by decide +kernel))) (SF_gluc (ι := oz_D3clsl_4) oz_D3cls_13 hS30 eF30 (by decide +kernel)) (any_sub (lₚ := [(0, 0), (0, 1), (0, 2)]) (by decide +kernel))) (SF_gluc (ι := oz_D3clsl_4) oz_D3cls_13 hS34 eF34 (by decide +kernel)) (any_sub (lₚ := [(0, 0), (0, 1), (0, 2)]) (by decide +kernel))) (SA_trans (SA_trans (SA_trans (SA_refl) (SA_gluc (ι := oz_D3clsl_1) oz_D3cls_7 hA13 eA13 (by decide +kernel)) (any_subA (lₚ := []) (by decide +kernel))) (SA_gluc (ι := oz_D3clsl_4) oz_D3cls_13 hA30 eA30 (by decide +kernel)) (any_subA (lₚ := [1]) (by decide +kernel))) (SA_gluc (ι := oz_D3clsl_4) oz_D3cls_13 hA34 eA34 (by decide +kernel)) (any_subA (lₚ := [1]) (by decide +kernel))) (pf34_0_0) (m34_1) ((congrArg (fun q : Nat => (q : Int)) (eN34 1)).trans em34_1) (y34_0_1) (((eF34 0 1).trans ey34_0_1)) (y34_0_2) (((eF34 0 2).trans ey34_0_2)) (w34_1) ((eA34 1).trans ew34_1) (show 0 ≤ (y34_0_1) ∧ (y34_0_1) ≤ (m34_1) ∧ (m34_1) ≤ 65536 from pz34_0) (show RTO ((u0_2)) ((w1)) ((u0_1)) ((y34_0_2)) ((w34_1)) ((y34_0_1)) (tgc (ner ((a3))) ((a3)) ((a2))) (tgc (ner ((a3))) ((a3)) ((x19_4) - (z9))) by assumption)
  refine Ew_of (pcₚ := 1) (fun _ => x_iload_n rfl rfl) ?_
  refine Ew_of (pcₚ := 4) (fun _ => x_sipush (z := 2048) rfl (by decide)) ?_
  refine w_icmpge (t := 11) rfl rfl (show inr (a3) from h1) (show inr (2048) from q_926) (fun b38 => ?_) (fun b38 => ?_)
  · refine Ew_of (pcₚ := 12) (fun _ => x_iconst rfl) ?_
    exact hc12 (0) _ _ _ _  (rfl) (rfl) (rfl) H O (SF_refl) (SA_refl)     (show inr (0) from q_2) (show (0) = 1 ∧ (a3) < 2048 ∨ (0) = 0 ∧ 2048 ≤ (a3) from q_927 b38)
  · refine Ew_of (pcₚ := 8) (fun _ => x_iconst rfl) ?_
    refine Ew_of (pcₚ := 12) (fun _ => x_goto rfl rfl) ?_
    exact hc12 (1) _ _ _ _  (rfl) (rfl) (rfl) H O (SF_refl) (SA_refl)     (show inr (1) from q_135) (show (1) = 1 ∧ (a3) < 2048 ∨ (1) = 0 ∧ 2048 ≤ (a3) from q_928 b38)
abbrev V194_Row : vV := [(0, 10, [(4, 0), (4, 0), (4, 0), (4, 0), (0, 0), (4, 0), (0, 0), (2, 0), (0, 0)]), (0, 7, [(4, 0), (0, 0), (1, 0), (0, 0), (0, 0)]), (1, 0, []), (0, 5, [(4, 0), (4, 0), (4, 0), (4, 0), (0, 0), (0, 0), (0, 0), (4, 0), (4, 0), (0, 0), (0, 0), (0, 0), (0, 0), (0, 0), (0, 0), (0, 0), (0, 0), (0, 0), (0, 0)]), (0, 7, [(4, 0), (0, 0), (1, 0), (0, 0), (0, 0)]), (1, 0, []), (1, 1, []), (1, 1, []), (1, 1, []), (1, 1, []), (1, 1, [])]
theorem len_V194_Row_oz_D3cls : (V194_Row).length = 11 := by decide +kernel
theorem oz_D3cls_31 : vsub V194_Row V195_Row [1, 2] = true := by decide +kernel
theorem oz_D3cls_32 : vmov V194_Row [1, 2] [1] = true := by decide +kernel
theorem oz_D3cls_33 : vsub V194_Row V123 [3, 4, 5, 6, 7] = true := by decide +kernel
theorem oz_D3cls_34 : vmov V194_Row [3, 4, 5, 6, 7] [3] = true := by decide +kernel
theorem oz_D3cls_35 : vsub V194_Row V125 [3, 4, 5, 6, 8, 9, 10] = true := by decide +kernel
theorem oz_D3cls_36 : vmov V194_Row [3, 4, 5, 6, 8, 9, 10] [4, 5, 6] = true := by decide +kernel
theorem oz_D3cls_37 : vsub V194_Row V196_Row [0, 1, 2, 3, 4, 5] = true := by decide +kernel
theorem oz_D3cls_38 : vmov V194_Row [0, 1, 2, 3, 4, 5] [2] = true := by decide +kernel
theorem oz_D3cls_39 : vsub V194_Row V197_Row [1, 2] = true := by decide +kernel
def oz_D3clsl_9 : List (Nat × Nat) := [(1, 0), (1, 1), (1, 2), (3, 1), (3, 2), (3, 3), (3, 4), (3, 5), (3, 6), (3, 8), (3, 12), (3, 13), (3, 14), (3, 15), (3, 16), (3, 17), (3, 18)]
theorem oz_D3cls_40 : (oz_D3clsl_9).all (fun p => !tbz 41244121472700643278421578466983936 (Nat.add (Nat.mul 32 p.1) p.2)) = true := by decide +kernel
def oz_D3clsl_10 : List Nat := [2, 6, 7, 8, 9, 10]
theorem oz_D3cls_41 : (oz_D3clsl_10).all (fun p => !tbz 1988 p) = true := by decide +kernel
def oz_D3clsl_11 : List Nat := [2, 6, 8, 9, 10]
theorem oz_D3cls_42 : (oz_D3clsl_11).all (fun p => !tbz 1860 p) = true := by decide +kernel
def oz_D3clsl_12 : List Nat := [3, 4, 5, 6, 7]
theorem oz_D3cls_43 : okc oz_D3clsl_12 481842956291 = true := by decide +kernel
def oz_D3clsl_13 : List Nat := [3, 4, 5, 6, 8, 9, 10]
theorem oz_D3cls_44 : okc oz_D3clsl_13 180461195006052355 = true := by decide +kernel
def oz_D3clsl_14 : List Nat := [0, 1, 2, 3, 4, 5]
theorem oz_D3cls_45 : okc oz_D3clsl_14 176197141529088 = true := by decide +kernel

theorem C194_Row {σE : rS} {D N : Nat → Nat} {F : hF} {A : hA} {d c s : Nat} {Q : wQ} (H : HW V194_Row σE D N F A)  (pf2 : F 1 0 = (D 2 : Int)) (pf3 : F 0 1 = (D 3 : Int)) (pf4 : F 3 0 = (D 4 : Int)) (pf5 : F 4 0 = (D 5 : Int)) (pf6 : F 3 8 = (D 6 : Int)) (pf7 : F 3 7 = (D 7 : Int)) (pf8 : F 3 1 = (D 8 : Int)) (pf9 : F 3 2 = (D 9 : Int)) (pf10 : F 3 3 = (D 10 : Int)) (n2 : Int) (en2 : (N 2 : Int) = n2) (n5 : Int) (en5 : (N 5 : Int) = n5) (n6 : Int) (en6 : (N 6 : Int) = n6) (n7 : Int) (en7 : (N 7 : Int) = n7) (n8 : Int) (en8 : (N 8 : Int) = n8) (n9 : Int) (en9 : (N 9 : Int) = n9) (n10 : Int) (en10 : (N 10 : Int) = n10) (u1_1 : Int) (eu1_1 : F 1 1 = u1_1) (u1_2 : Int) (eu1_2 : F 1 2 = u1_2) (u3_6 : Int) (eu3_6 : F 3 6 = u3_6) (u3_9 : Int) (eu3_9 : F 3 9 = u3_9) (u3_10 : Int) (eu3_10 : F 3 10 = u3_10) (u3_11 : Int) (eu3_11 : F 3 11 = u3_11) (u4_1 : Int) (eu4_1 : F 4 1 = u4_1) (w2 : Int → Int) (ew2 : A 2 = w2) (w5 : Int → Int) (ew5 : A 5 = w5) (w6 : Int → Int) (ew6 : A 6 = w6) (w7 : Int → Int) (ew7 : A 7 = w7) (h0 : 0 ≤ (u1_1) ∧ (u1_1) ≤ (n2) ∧ (n2) ≤ 65536) (h1 : 0 ≤ (u4_1) ∧ (u4_1) ≤ (n5) ∧ (n5) ≤ 65536 ∧ (u4_1) ≤ 16384) (h2 : (u3_10) = 4) (h3 : BKI ((w5)) ((w6)) ((u3_10)) ((u3_6))) (h4 : HDI ((w5)) ((w7)) ((u3_10)) ((u3_6))) (h5 : (n8) = (n9) ∧ (n10) = (n9) ∧ (n9) ≤ 65536 ∧ ((n9) = 0 ∨ 64 ≤ (n9)) ∧ lgq ((n9)) = 0) (h6 : (n7) = 2048) (h7 : 0 ≤ (u3_6) ∧ (u3_6) ≤ (n6) ∧ (n6) ≤ 16384) (h8 : (u3_11) = 65535) (k : ∀ (σ : rS) (Dₚ Nₚ : Nat → Nat) (Fₚ : hF) (Aₚ : hA) (cₚ sₚ : Nat), HW V194_Row σ Dₚ Nₚ Fₚ Aₚ → OUT (V194_Row).length D N σE c s Dₚ Nₚ σ cₚ sₚ → SD [2, 6, 8, 9, 10] D Dₚ → SD [2, 6, 8, 9, 10] N Nₚ → SF [(1, 0), (1, 1), (1, 2), (3, 1), (3, 2), (3, 3), (3, 4), (3, 5), (3, 6), (3, 8), (3, 12), (3, 13), (3, 14), (3, 15), (3, 16), (3, 17), (3, 18)] F Fₚ → SA [2, 6, 7, 8, 9, 10] A Aₚ → Fₚ 1 0 = (Dₚ 2 : Int) → Fₚ 3 8 = (Dₚ 6 : Int) → Fₚ 3 1 = (Dₚ 8 : Int) → Fₚ 3 2 = (Dₚ 9 : Int) → Fₚ 3 3 = (Dₚ 10 : Int) → ∀ m2 : Int, (Nₚ 2 : Int) = m2 → ∀ m6 : Int, (Nₚ 6 : Int) = m6 → ∀ m8 : Int, (Nₚ 8 : Int) = m8 → ∀ m9 : Int, (Nₚ 9 : Int) = m9 → ∀ m10 : Int, (Nₚ 10 : Int) = m10 → ∀ y1_1 : Int, Fₚ 1 1 = y1_1 → ∀ y1_2 : Int, Fₚ 1 2 = y1_2 → ∀ y3_6 : Int, Fₚ 3 6 = y3_6 → ∀ v2 : Int → Int, Aₚ 2 = v2 → ∀ v6 : Int → Int, Aₚ 6 = v6 → ∀ v7 : Int → Int, Aₚ 7 = v7 → (0 ≤ (y1_1) ∧ (y1_1) ≤ (m2) ∧ (m2) ≤ 65536) → (0 ≤ (y3_6) ∧ (u3_6) ≤ (y3_6) ∧ (y3_6) ≤ (m6) ∧ (m6) ≤ 16384) → ((m8) = (m9) ∧ (m10) = (m9) ∧ (m9) ≤ 65536 ∧ ((m9) = 0 ∨ 64 ≤ (m9)) ∧ lgq ((m9)) = 0) → (BKI ((w5)) ((v6)) ((u3_10)) ((y3_6))) → (HDI ((w5)) ((v7)) ((u3_10)) ((y3_6))) → ((y3_6) = (u3_6) ∨ (y3_6) + 4 ≤ (u4_1) + 1) → (PKG ((u3_9)) (sc ((w5)) 0 ((u4_1))) ((u1_2)) ((w2)) ((u1_1)) ((y1_2)) ((v2)) ((y1_1))) → Q none σ cₚ sₚ) : Ew 194 (d + 4) 0 (rargs 0 [.ref (D 0), .ref (D 1)]) [] σE c s Q := by
  have O := OUT_refl (n := (V194_Row).length) (D := D) (N := N) (σ := σE) (c := c) (s := s)
  have HE := H
  have r1 : (-2147483648 : Int) ≤ u1_1 ∧ u1_1 ≤ 2147483647 := rngE (show (-2147483648 : Int) ≤ F 1 1 ∧ F 1 1 ≤ 2147483647 from H.krg 1 1 (ltn len_V194_Row_oz_D3cls rfl)) (show F 1 1 = u1_1 from (eu1_1))
  have r2 : (0 : Int) ≤ u1_2 ∧ u1_2 ≤ 1 := rngE (show (0 : Int) ≤ F 1 2 ∧ F 1 2 ≤ 1 from H.krg 1 2 (ltn len_V194_Row_oz_D3cls rfl)) (show F 1 2 = u1_2 from (eu1_2))
  have r3 : (-2147483648 : Int) ≤ u3_6 ∧ u3_6 ≤ 2147483647 := rngE (show (-2147483648 : Int) ≤ F 3 6 ∧ F 3 6 ≤ 2147483647 from H.krg 3 6 (ltn len_V194_Row_oz_D3cls rfl)) (show F 3 6 = u3_6 from (eu3_6))
  have r4 : (-2147483648 : Int) ≤ u3_9 ∧ u3_9 ≤ 2147483647 := rngE (show (-2147483648 : Int) ≤ F 3 9 ∧ F 3 9 ≤ 2147483647 from H.krg 3 9 (ltn len_V194_Row_oz_D3cls rfl)) (show F 3 9 = u3_9 from (eu3_9))
  have r5 : (-2147483648 : Int) ≤ u3_10 ∧ u3_10 ≤ 2147483647 := rngE (show (-2147483648 : Int) ≤ F 3 10 ∧ F 3 10 ≤ 2147483647 from H.krg 3 10 (ltn len_V194_Row_oz_D3cls rfl)) (show F 3 10 = u3_10 from (eu3_10))
  have r6 : (-2147483648 : Int) ≤ u3_11 ∧ u3_11 ≤ 2147483647 := rngE (show (-2147483648 : Int) ≤ F 3 11 ∧ F 3 11 ≤ 2147483647 from H.krg 3 11 (ltn len_V194_Row_oz_D3cls rfl)) (show F 3 11 = u3_11 from (eu3_11))
  have r7 : (-2147483648 : Int) ≤ u4_1 ∧ u4_1 ≤ 2147483647 := rngE (show (-2147483648 : Int) ≤ F 4 1 ∧ F 4 1 ≤ 2147483647 from H.krg 4 1 (ltn len_V194_Row_oz_D3cls rfl)) (show F 4 1 = u4_1 from (eu4_1))
  have r8 : (0 : Int) ≤ n2 ∧ n2 ≤ 1000000 := nleE (H.nle 2 (ltn len_V194_Row_oz_D3cls rfl)) (show (N 2 : Int) = n2 from en2)
  have r9 : (0 : Int) ≤ n5 ∧ n5 ≤ 1000000 := nleE (H.nle 5 (ltn len_V194_Row_oz_D3cls rfl)) (show (N 5 : Int) = n5 from en5)
  have r10 : (0 : Int) ≤ n6 ∧ n6 ≤ 1000000 := nleE (H.nle 6 (ltn len_V194_Row_oz_D3cls rfl)) (show (N 6 : Int) = n6 from en6)
  have r11 : (0 : Int) ≤ n7 ∧ n7 ≤ 1000000 := nleE (H.nle 7 (ltn len_V194_Row_oz_D3cls rfl)) (show (N 7 : Int) = n7 from en7)
  have r12 : (0 : Int) ≤ n8 ∧ n8 ≤ 1000000 := nleE (H.nle 8 (ltn len_V194_Row_oz_D3cls rfl)) (show (N 8 : Int) = n8 from en8)
  have r13 : (0 : Int) ≤ n9 ∧ n9 ≤ 1000000 := nleE (H.nle 9 (ltn len_V194_Row_oz_D3cls rfl)) (show (N 9 : Int) = n9 from en9)
  have r14 : (0 : Int) ≤ n10 ∧ n10 ≤ 1000000 := nleE (H.nle 10 (ltn len_V194_Row_oz_D3cls rfl)) (show (N 10 : Int) = n10 from en10)
  refine Ew_of (pcₚ := 1) (fun _ => x_aload_n rfl rfl) ?_
  refine v_g H (o := 0) (v := .ref (D 3)) rfl rfl rfl rfl rfl (vrf (pf3)) ?_
  refine v_g H (o := 3) (v := .ref (D 4)) rfl rfl rfl rfl rfl (vrf (pf4)) ?_
  refine v_g H (o := 4) (v := I (u4_1)) rfl rfl rfl rfl rfl (congrArg (fun z : Int => I z) ((eu4_1) : F 4 1 = u4_1)) ?_
  refine Ew_of (pcₚ := 11) (fun _ => x_istore_n rfl) ?_
  refine Ew_of (pcₚ := 12) (fun _ => x_aload_n rfl (rk_o (rfl) rfl rfl)) ?_
  refine Ew_of (pcₚ := 13) (fun _ => x_iload_n rfl rk_s) ?_
  refine w_stat24 rfl rfl (by rfl) (C195_Row (D := puc 1025 D) (N := puc 1025 N) (HW_subc H oz_D3cls_31 oz_D3cls_23) (pf2) (n2) (en2) (u1_1) ((eu1_1)) (u1_2) ((eu1_2)) (w2) (ew2) (show inr (u4_1) from q_3068 h1) (show 0 ≤ (u1_1) ∧ (u1_1) ≤ (n2) ∧ (n2) ≤ 65536 from h0) (show 0 ≤ (u4_1) ∧ (u4_1) ≤ 65536 from q_3183 h1) (fun σ15 D15ₚ N15ₚ F15ₚ A15ₚ c15 s15 Hₚ Oₚ hD15 hN15 hS15 hA15 pm15_1 m15_1 em15_1 y15_0_1 ey15_0_1 y15_0_2 ey15_0_2 w15_1 ew15_1 pz15_0 pz15_1 => ⟨rfl, ?_⟩))
  refine v_backMc (c := c) (s := s) H oz_D3cls_31 oz_D3cls_23 Hₚ Oₚ hD15 oz_D3cls_32 (fun D15 N15 F15 A15 H Oₚ eD15 eN15 eF15 eA15 => ?_)
  have O := OUT_trans O Oₚ
  -- Tags.packLength
  have cF15 : SF oz_D3clsl_9 F F15 := SF_trans (SF_refl) (SF_gluc (ι := oz_D3clsl_8) oz_D3cls_23 hS15 eF15 (by decide +kernel)) (any_sub (lₚ := [(1, 0), (1, 1), (1, 2)]) (by decide +kernel))
  have mF15 := SFm_of cF15 oz_D3cls_40
  have cA15 : SA oz_D3clsl_10 A A15 := SA_trans (SA_refl) (SA_gluc (ι := oz_D3clsl_8) oz_D3cls_23 hA15 eA15 (by decide +kernel)) (any_subA (lₚ := [2]) (by decide +kernel))
  have mA15 := SAm_of cA15 oz_D3cls_41
  have cD15 : SD oz_D3clsl_11 D D15 := SD_trans (SD_refl) (SD_gluc (ι := oz_D3clsl_8) oz_D3cls_23 hD15 eD15 (by decide +kernel)) (any_subA (lₚ := [2]) (by decide +kernel))
  have mD15 := SDm_of cD15 oz_D3cls_42
  have cN15 : SD oz_D3clsl_11 N N15 := SD_trans (SD_refl) (SD_gluc (ι := oz_D3clsl_8) oz_D3cls_23 hN15 eN15 (by decide +kernel)) (any_subA (lₚ := [2]) (by decide +kernel))
  have mN15 := SDm_of cN15 oz_D3cls_42
  have pf15_1_0 : F15 1 0 = (D15 2 : Int) := (eF15 1 0).trans (pm15_1.trans (congrArg (fun q : Nat => (q : Int)) (eD15 2).symm))
  have pf15_3_1 : F15 3 1 = (D15 8 : Int) := ((show F15 3 1 = F 3 1 from (eF15 3 1))).trans ((pf8).trans (congrArg (fun q : Nat => (q : Int)) ((show D15 8 = D 8 from (eD15 8))).symm))
  have pf15_3_2 : F15 3 2 = (D15 9 : Int) := ((show F15 3 2 = F 3 2 from (eF15 3 2))).trans ((pf9).trans (congrArg (fun q : Nat => (q : Int)) ((show D15 9 = D 9 from (eD15 9))).symm))
  have pf15_3_3 : F15 3 3 = (D15 10 : Int) := ((show F15 3 3 = F 3 3 from (eF15 3 3))).trans ((pf10).trans (congrArg (fun q : Nat => (q : Int)) ((show D15 10 = D 10 from (eD15 10))).symm))
  have pf15_3_8 : F15 3 8 = (D15 6 : Int) := ((show F15 3 8 = F 3 8 from (eF15 3 8))).trans ((pf6).trans (congrArg (fun q : Nat => (q : Int)) ((show D15 6 = D 6 from (eD15 6))).symm))
  have r16 : (0 : Int) ≤ m15_1 ∧ m15_1 ≤ 1000000 := nleE (H.nle 2 (ltn len_V194_Row_oz_D3cls rfl)) (show (N15 2 : Int) = m15_1 from (congrArg (fun q : Nat => (q : Int)) (eN15 2)).trans em15_1)
  have r17 : (-2147483648 : Int) ≤ y15_0_1 ∧ y15_0_1 ≤ 2147483647 := rngE (show (-2147483648 : Int) ≤ F15 1 1 ∧ F15 1 1 ≤ 2147483647 from H.krg 1 1 (ltn len_V194_Row_oz_D3cls rfl)) (show F15 1 1 = y15_0_1 from ((eF15 1 1).trans ey15_0_1))
  have r18 : (0 : Int) ≤ y15_0_2 ∧ y15_0_2 ≤ 1 := rngE (show (0 : Int) ≤ F15 1 2 ∧ F15 1 2 ≤ 1 from H.krg 1 2 (ltn len_V194_Row_oz_D3cls rfl)) (show F15 1 2 = y15_0_2 from ((eF15 1 2).trans ey15_0_2))
  have hpl := pz15_1
  refine Ew_of (pcₚ := 17) (fun _ => x_aload_n rfl (rk_o (rfl) rfl rfl)) ?_
  refine Ew_stk (congrArg (fun qz : Nat => ([.ref qz] : List Value)) (show D15 0 = D 0 from mD15 0 rfl).symm) ?_
  refine v_g H (o := 0) (v := .ref (D15 3)) rfl rfl rfl rfl rfl (vrf ((mF15 0 1 rfl).trans ((pf3).trans (congrArg (fun q : Nat => (q : Int)) (mD15 3 rfl).symm)))) ?_
  refine Ew_of (pcₚ := 21) (fun _ => x_iload_n rfl rk_s) ?_
  refine v_inv H (o := 3) rfl rfl rfl rfl rfl rfl (by rfl) (C123 (D := puc 481842956291 D15) (N := puc 481842956291 N15) (HW_subc H oz_D3cls_33 oz_D3cls_43) ((mF15 3 0 rfl).trans ((pf4).trans (congrArg (fun q : Nat => (q : Int)) (mD15 4 rfl).symm))) ((mF15 4 0 rfl).trans ((pf5).trans (congrArg (fun q : Nat => (q : Int)) (mD15 5 rfl).symm))) (pf15_3_8) ((mF15 3 7 rfl).trans ((pf7).trans (congrArg (fun q : Nat => (q : Int)) (mD15 7 rfl).symm))) (n5) ((congrArg (fun q : Nat => (q : Int)) (mN15 5 rfl)).trans (en5)) (n6) ((congrArg (fun q : Nat => (q : Int)) (show N15 6 = N 6 from (eN15 6))).trans (en6)) (n7) ((congrArg (fun q : Nat => (q : Int)) (mN15 7 rfl)).trans (en7)) (u3_6) ((((show F15 3 6 = F 3 6 from (eF15 3 6))).trans (eu3_6))) (u3_10) (((mF15 3 10 rfl).trans (eu3_10))) (u4_1) (((mF15 4 1 rfl).trans (eu4_1))) (w5) ((funext (mA15 5 rfl)).trans (ew5)) (w6) (((show A15 6 = A 6 from (eA15 6))).trans (ew6)) (w7) (((show A15 7 = A 7 from (eA15 7))).trans (ew7)) (show inr (u4_1) from q_3068 h1) (show 0 ≤ (u4_1) ∧ (u4_1) ≤ (n5) ∧ (n5) ≤ 65536 ∧ (u4_1) ≤ 16384 from h1) (show 1 ≤ (u3_10) ∧ (u3_10) ≤ 8 from q_3067 h2) (show 0 ≤ (u4_1) ∧ (u4_1) ≤ (u4_1) from q_3066 h1) (h3) (show HDI ((w5)) ((w7)) ((u3_10)) ((u3_6)) by assumption) (show (n7) = 2048 from h6) (show 0 ≤ (u3_6) ∧ (u3_6) ≤ (n6) ∧ (n6) ≤ 16384 from h7) (fun σ19 D19ₚ N19ₚ F19ₚ A19ₚ c19 s19 Hₚ Oₚ hD19 hN19 hS19 hA19 pm19_3 m19_3 em19_3 y19_0_6 ey19_0_6 w19_3 ew19_3 w19_4 ew19_4 pz19_0 pz19_1 pz19_2 pz19_3 pz19_4 => ⟨rfl, ?_⟩))
  refine v_backMc (c := (c + c15)) (s := (s + s15)) H oz_D3cls_33 oz_D3cls_43 Hₚ Oₚ hD19 oz_D3cls_34 (fun D19 N19 F19 A19 H Oₚ eD19 eN19 eF19 eA19 => ?_)
  have O := OUT_trans O Oₚ
  -- Finder.lay
  have cF19 : SF oz_D3clsl_9 F F19 := SF_trans (cF15) (SF_gluc (ι := oz_D3clsl_12) oz_D3cls_43 hS19 eF19 (by decide +kernel)) (any_sub (lₚ := [(3, 6), (3, 8)]) (by decide +kernel))
  have mF19 := SFm_of cF19 oz_D3cls_40
  have cA19 : SA oz_D3clsl_10 A A19 := SA_trans (cA15) (SA_gluc (ι := oz_D3clsl_12) oz_D3cls_43 hA19 eA19 (by decide +kernel)) (any_subA (lₚ := [6, 7]) (by decide +kernel))
  have mA19 := SAm_of cA19 oz_D3cls_41
  have cD19 : SD oz_D3clsl_11 D D19 := SD_trans (cD15) (SD_gluc (ι := oz_D3clsl_12) oz_D3cls_43 hD19 eD19 (by decide +kernel)) (any_subA (lₚ := [6]) (by decide +kernel))
  have mD19 := SDm_of cD19 oz_D3cls_42
  have cN19 : SD oz_D3clsl_11 N N19 := SD_trans (cN15) (SD_gluc (ι := oz_D3clsl_12) oz_D3cls_43 hN19 eN19 (by decide +kernel)) (any_subA (lₚ := [6]) (by decide +kernel))
  have mN19 := SDm_of cN19 oz_D3cls_42
  have pf19_1_0 : F19 1 0 = (D19 2 : Int) := ((show F19 1 0 = F15 1 0 from (eF19 1 0))).trans ((pf15_1_0).trans (congrArg (fun q : Nat => (q : Int)) ((show D19 2 = D15 2 from (eD19 2))).symm))
  have pf19_3_1 : F19 3 1 = (D19 8 : Int) := ((show F19 3 1 = F15 3 1 from (eF19 3 1).trans (hS19 0 1 rfl))).trans ((pf15_3_1).trans (congrArg (fun q : Nat => (q : Int)) ((show D19 8 = D15 8 from (eD19 8))).symm))
  have pf19_3_2 : F19 3 2 = (D19 9 : Int) := ((show F19 3 2 = F15 3 2 from (eF19 3 2).trans (hS19 0 2 rfl))).trans ((pf15_3_2).trans (congrArg (fun q : Nat => (q : Int)) ((show D19 9 = D15 9 from (eD19 9))).symm))
  have pf19_3_3 : F19 3 3 = (D19 10 : Int) := ((show F19 3 3 = F15 3 3 from (eF19 3 3).trans (hS19 0 3 rfl))).trans ((pf15_3_3).trans (congrArg (fun q : Nat => (q : Int)) ((show D19 10 = D15 10 from (eD19 10))).symm))
  have pf19_3_8 : F19 3 8 = (D19 6 : Int) := (eF19 3 8).trans (pm19_3.trans (congrArg (fun q : Nat => (q : Int)) (eD19 6).symm))
  have r20 : (0 : Int) ≤ m19_3 ∧ m19_3 ≤ 1000000 := nleE (H.nle 6 (ltn len_V194_Row_oz_D3cls rfl)) (show (N19 6 : Int) = m19_3 from (congrArg (fun q : Nat => (q : Int)) (eN19 6)).trans em19_3)
  have r21 : (-2147483648 : Int) ≤ y19_0_6 ∧ y19_0_6 ≤ 2147483647 := rngE (show (-2147483648 : Int) ≤ F19 3 6 ∧ F19 3 6 ≤ 2147483647 from H.krg 3 6 (ltn len_V194_Row_oz_D3cls rfl)) (show F19 3 6 = y19_0_6 from ((eF19 3 6).trans ey19_0_6))
  refine Ew_of (pcₚ := 25) (fun _ => x_aload_n rfl (rk_o (rfl) rfl rfl)) ?_
  refine Ew_stk (congrArg (fun qz : Nat => ([.ref qz] : List Value)) (show D19 0 = D 0 from mD19 0 rfl).symm) ?_
  refine v_g H (o := 0) (v := .ref (D19 3)) rfl rfl rfl rfl rfl (vrf ((mF19 0 1 rfl).trans ((pf3).trans (congrArg (fun q : Nat => (q : Int)) (mD19 3 rfl).symm)))) ?_
  refine Ew_of (pcₚ := 29) (fun _ => x_iconst rfl) ?_
  refine Ew_of (pcₚ := 30) (fun _ => x_iload_n rfl rk_s) ?_
  refine Ew_of (pcₚ := 31) (fun _ => x_iload_n rfl rk_s) ?_
  refine Ew_of (pcₚ := 32) (fun _ => x_iload_n rfl rk_s) ?_
  refine Ew_of (pcₚ := 33) (fun _ => x_iconst rfl) ?_
  refine w_isub rfl ?_
  have r22 : (-2147483648 : Int) ≤ F 3 4 ∧ F 3 4 ≤ 2147483647 := rngE (show (-2147483648 : Int) ≤ F19 3 4 ∧ F19 3 4 ≤ 2147483647 from H.krg 3 4 (ltn len_V194_Row_oz_D3cls rfl)) (show F19 3 4 = F 3 4 from (((show F19 3 4 = F15 3 4 from (eF19 3 4).trans (hS19 0 4 rfl))).trans ((show F15 3 4 = F 3 4 from (eF15 3 4)))))
  have r23 : (-2147483648 : Int) ≤ F 3 5 ∧ F 3 5 ≤ 2147483647 := rngE (show (-2147483648 : Int) ≤ F19 3 5 ∧ F19 3 5 ≤ 2147483647 from H.krg 3 5 (ltn len_V194_Row_oz_D3cls rfl)) (show F19 3 5 = F 3 5 from (((show F19 3 5 = F15 3 5 from (eF19 3 5).trans (hS19 0 5 rfl))).trans ((show F15 3 5 = F 3 5 from (eF15 3 5)))))
  refine v_inv H (o := 3) rfl rfl rfl rfl rfl rfl (by rfl) (C125 (D := puc 180461195006052355 D19) (N := puc 180461195006052355 N19) (HW_subc H oz_D3cls_35 oz_D3cls_44) ((mF19 3 0 rfl).trans ((pf4).trans (congrArg (fun q : Nat => (q : Int)) (mD19 4 rfl).symm))) ((mF19 4 0 rfl).trans ((pf5).trans (congrArg (fun q : Nat => (q : Int)) (mD19 5 rfl).symm))) (pf19_3_8) (pf19_3_1) (pf19_3_2) (pf19_3_3) (n5) ((congrArg (fun q : Nat => (q : Int)) (mN19 5 rfl)).trans (en5)) (m19_3) ((congrArg (fun q : Nat => (q : Int)) (eN19 6)).trans em19_3) (n8) ((congrArg (fun q : Nat => (q : Int)) (show N19 8 = N15 8 from (eN19 8))).trans ((congrArg (fun q : Nat => (q : Int)) (show N15 8 = N 8 from (eN15 8))).trans (en8))) (n9) ((congrArg (fun q : Nat => (q : Int)) (show N19 9 = N15 9 from (eN19 9))).trans ((congrArg (fun q : Nat => (q : Int)) (show N15 9 = N 9 from (eN15 9))).trans (en9))) (n10) ((congrArg (fun q : Nat => (q : Int)) (show N19 10 = N15 10 from (eN19 10))).trans ((congrArg (fun q : Nat => (q : Int)) (show N15 10 = N 10 from (eN15 10))).trans (en10))) (F 3 4) ((((show F19 3 4 = F15 3 4 from (eF19 3 4).trans (hS19 0 4 rfl))).trans ((show F15 3 4 = F 3 4 from (eF15 3 4))))) (F 3 5) ((((show F19 3 5 = F15 3 5 from (eF19 3 5).trans (hS19 0 5 rfl))).trans ((show F15 3 5 = F 3 5 from (eF15 3 5))))) (y19_0_6) (((eF19 3 6).trans ey19_0_6)) (u3_9) (((mF19 3 9 rfl).trans (eu3_9))) (u3_10) (((mF19 3 10 rfl).trans (eu3_10))) (u3_11) (((mF19 3 11 rfl).trans (eu3_11))) (u4_1) (((mF19 4 1 rfl).trans (eu4_1))) (w5) ((funext (mA19 5 rfl)).trans (ew5)) (w19_3) ((eA19 6).trans ew19_3) (A 8) (((show A19 8 = A15 8 from (eA19 8))).trans ((show A15 8 = A 8 from (eA15 8)))) (A 9) (((show A19 9 = A15 9 from (eA19 9))).trans ((show A15 9 = A 9 from (eA15 9)))) (A 10) (((show A19 10 = A15 10 from (eA19 10))).trans ((show A15 10 = A 10 from (eA15 10)))) (show inr (0) from q_2) (show inr (u4_1) from q_3068 h1) (show inr (u4_1) from q_3068 h1) (show inr ((u4_1 - 4)) from q_3186 h1) (show 0 ≤ (u4_1) ∧ (u4_1) ≤ (n5) ∧ (n5) ≤ 65536 ∧ (u4_1) ≤ 16384 from h1) (show 1 ≤ (u3_10) ∧ (u3_10) ≤ 8 from q_3067 h2) (show 0 ≤ (0) ∧ (0) ≤ (u4_1) ∧ (u4_1) ≤ (u4_1) from q_3185 h1) (show (u4_1) ≤ (u4_1) ∧ ((u4_1 - 4)) < (u4_1) ∧ ((u4_1 - 4)) < (y19_0_6) from q_3184 h2 pz19_1) (show 0 ≤ (y19_0_6) ∧ (y19_0_6) ≤ (m19_3) ∧ (m19_3) ≤ 16384 from q_3069 h7 pz19_0) (pz19_3) (show (n8) = (n9) ∧ (n10) = (n9) ∧ (n9) ≤ 65536 ∧ ((n9) = 0 ∨ 64 ≤ (n9)) ∧ lgq ((n9)) = 0 from h5) (fun σ24 D24ₚ N24ₚ F24ₚ A24ₚ c24 s24 Hₚ Oₚ hD24 hN24 hS24 hA24 pm24_4 pm24_5 pm24_6 m24_4 em24_4 m24_5 em24_5 m24_6 em24_6 y24_0_4 ey24_0_4 y24_0_5 ey24_0_5 w24_4 ew24_4 w24_5 ew24_5 w24_6 ew24_6 pz24_0 pz24_1 pz24_2 pz24_3 pz24_4 => ⟨rfl, ?_⟩))
  refine v_backMc (c := ((c + c15) + c19)) (s := ((s + s15) + s19)) H oz_D3cls_35 oz_D3cls_44 Hₚ Oₚ hD24 oz_D3cls_36 (fun D24 N24 F24 A24 H Oₚ eD24 eN24 eF24 eA24 => ?_)
  have O := OUT_trans O Oₚ
  -- Finder.go
  have cF24 : SF oz_D3clsl_9 F F24 := SF_trans (cF19) (SF_gluc (ι := oz_D3clsl_13) oz_D3cls_44 hS24 eF24 (by decide +kernel)) (any_sub (lₚ := [(3, 1), (3, 2), (3, 3), (3, 4), (3, 5), (3, 12), (3, 13), (3, 14), (3, 15), (3, 16), (3, 17), (3, 18)]) (by decide +kernel))
  have mF24 := SFm_of cF24 oz_D3cls_40
  have cA24 : SA oz_D3clsl_10 A A24 := SA_trans (cA19) (SA_gluc (ι := oz_D3clsl_13) oz_D3cls_44 hA24 eA24 (by decide +kernel)) (any_subA (lₚ := [8, 9, 10]) (by decide +kernel))
  have mA24 := SAm_of cA24 oz_D3cls_41
  have cD24 : SD oz_D3clsl_11 D D24 := SD_trans (cD19) (SD_gluc (ι := oz_D3clsl_13) oz_D3cls_44 hD24 eD24 (by decide +kernel)) (any_subA (lₚ := [8, 9, 10]) (by decide +kernel))
  have mD24 := SDm_of cD24 oz_D3cls_42
  have cN24 : SD oz_D3clsl_11 N N24 := SD_trans (cN19) (SD_gluc (ι := oz_D3clsl_13) oz_D3cls_44 hN24 eN24 (by decide +kernel)) (any_subA (lₚ := [8, 9, 10]) (by decide +kernel))
  have mN24 := SDm_of cN24 oz_D3cls_42
  have pf24_1_0 : F24 1 0 = (D24 2 : Int) := ((show F24 1 0 = F19 1 0 from (eF24 1 0))).trans ((pf19_1_0).trans (congrArg (fun q : Nat => (q : Int)) ((show D24 2 = D19 2 from (eD24 2))).symm))
  have pf24_3_1 : F24 3 1 = (D24 8 : Int) := (eF24 3 1).trans (pm24_4.trans (congrArg (fun q : Nat => (q : Int)) (eD24 8).symm))
  have pf24_3_2 : F24 3 2 = (D24 9 : Int) := (eF24 3 2).trans (pm24_5.trans (congrArg (fun q : Nat => (q : Int)) (eD24 9).symm))
  have pf24_3_3 : F24 3 3 = (D24 10 : Int) := (eF24 3 3).trans (pm24_6.trans (congrArg (fun q : Nat => (q : Int)) (eD24 10).symm))
  have pf24_3_8 : F24 3 8 = (D24 6 : Int) := ((show F24 3 8 = F19 3 8 from (eF24 3 8).trans (hS24 0 8 rfl))).trans ((pf19_3_8).trans (congrArg (fun q : Nat => (q : Int)) ((show D24 6 = D19 6 from (eD24 6).trans (hD24 3 rfl))).symm))
  have r25 : (0 : Int) ≤ m24_4 ∧ m24_4 ≤ 1000000 := nleE (H.nle 8 (ltn len_V194_Row_oz_D3cls rfl)) (show (N24 8 : Int) = m24_4 from (congrArg (fun q : Nat => (q : Int)) (eN24 8)).trans em24_4)
  have r26 : (0 : Int) ≤ m24_5 ∧ m24_5 ≤ 1000000 := nleE (H.nle 9 (ltn len_V194_Row_oz_D3cls rfl)) (show (N24 9 : Int) = m24_5 from (congrArg (fun q : Nat => (q : Int)) (eN24 9)).trans em24_5)
  have r27 : (0 : Int) ≤ m24_6 ∧ m24_6 ≤ 1000000 := nleE (H.nle 10 (ltn len_V194_Row_oz_D3cls rfl)) (show (N24 10 : Int) = m24_6 from (congrArg (fun q : Nat => (q : Int)) (eN24 10)).trans em24_6)
  have r28 : (-2147483648 : Int) ≤ y24_0_4 ∧ y24_0_4 ≤ 2147483647 := rngE (show (-2147483648 : Int) ≤ F24 3 4 ∧ F24 3 4 ≤ 2147483647 from H.krg 3 4 (ltn len_V194_Row_oz_D3cls rfl)) (show F24 3 4 = y24_0_4 from ((eF24 3 4).trans ey24_0_4))
  have r29 : (-2147483648 : Int) ≤ y24_0_5 ∧ y24_0_5 ≤ 2147483647 := rngE (show (-2147483648 : Int) ≤ F24 3 5 ∧ F24 3 5 ≤ 2147483647 from H.krg 3 5 (ltn len_V194_Row_oz_D3cls rfl)) (show F24 3 5 = y24_0_5 from ((eF24 3 5).trans ey24_0_5))
  refine Ew_of (pcₚ := 38) (fun _ => x_iconst rfl) ?_
  refine Ew_of (pcₚ := 39) (fun _ => x_istore_n rfl) ?_
  refine Ew_of (pcₚ := 40) (fun _ => x_iconst rfl) ?_
  refine Ew_of (pcₚ := 42) (fun _ => x_istore rfl) ?_
  have : su (fun j => ((w24_4)) j + ((w24_5)) j) (0 : Int).toNat = 0 := rfl
  have hfd : FDI ((w24_4)) ((w24_5)) ((w24_6)) ((y24_0_4)) ((u4_1) - 0 - (y24_0_5)) ((u3_10)) := pz24_3
  have hgo := pz24_4
  have : RTO ((u1_2)) ((w2)) ((u1_1)) ((y15_0_2)) ((w15_1)) ((y15_0_1)) (vlr ((u4_1)) ++ tgE ((w5)) 0 (sq ((w24_4)) ((w24_5)) ((w24_6)) ((y24_0_4))) ((y24_0_5))) (tgE ((w5)) (0) (sqd ((w24_4)) ((w24_5)) ((w24_6)) (0) ((y24_0_4))) ((y24_0_5))) := by rw [sqd_0]; exact RTO_s RTO_0 rfl hpl
  suffices hl42 : ∀ (m : Nat), ∀ (ls : rO) (σ : rS) (D_42 N_42 : Nat → Nat) (c_42 s_42 : Nat) (F_42 : hF) (A_42 : hA) (x42_3 : Int) (x42_4 : Int), rlook ls 0 = some (.ref (D_42 0)) → rlook ls 1 = some (.ref (D_42 1)) → rlook ls 3 = some (I (x42_3)) → rlook ls 4 = some (I (x42_4)) → HW V194_Row σ D_42 N_42 F_42 A_42 → OUT (V194_Row).length D N σE c s D_42 N_42 σ c_42 s_42 → SD [2] D24 D_42 → SD [2] N24 N_42 → SF [(1, 0), (1, 1), (1, 2)] F24 F_42 → SA [2] A24 A_42 → F_42 1 0 = (D_42 2 : Int) → ∀ m42_2 : Int, (N_42 2 : Int) = m42_2 → ∀ y42_1_1 : Int, F_42 1 1 = y42_1_1 → ∀ y42_1_2 : Int, F_42 1 2 = y42_1_2 → ∀ w42_2 : Int → Int, A_42 2 = w42_2 → (inr (x42_3)) → (inr (x42_4)) → ((0) ≤ (x42_4)) → ((x42_4) ≤ (0) ∨ (x42_4) ≤ ((y24_0_4))) → (0 ≤ (y42_1_1) ∧ (y42_1_1) ≤ (m42_2) ∧ (m42_2) ≤ 65536) → ((x42_3) = su (fun j => ((w24_4)) j + ((w24_5)) j) ((x42_4) : Int).toNat) → (RTO ((u1_2)) ((w2)) ((u1_1)) ((y42_1_2)) ((w42_2)) ((y42_1_1)) (vlr ((u4_1)) ++ tgE ((w5)) 0 (sq ((w24_4)) ((w24_5)) ((w24_6)) ((y24_0_4))) ((y24_0_5))) (tgE ((w5)) ((x42_3)) (sqd ((w24_4)) ((w24_5)) ((w24_6)) ((x42_4)) ((y24_0_4))) ((y24_0_5)))) → (((y24_0_4)) - (x42_4)).toNat = m → Ew 194 (d + 4) 42 ls [] σ c_42 s_42 Q from
    hl42 _ _ _ _ _ _ _ _ _ (0) (0) ((rk_o (rk_o (rk_o (rfl) rfl rfl) rfl rfl) rfl rfl).trans (congrArg (fun q : Nat => some (Value.ref q)) (mD24 0 rfl).symm)) ((rk_o (rk_o (rk_o (rfl) rfl rfl) rfl rfl) rfl rfl).trans (congrArg (fun q : Nat => some (Value.ref q)) (mD24 1 rfl).symm)) (rk_o (rk_s) rfl rfl) (rk_s) H O (SD_refl) (SD_refl) (SF_refl) (SA_refl) (pf24_1_0) (m15_1) ((congrArg (fun q : Nat => (q : Int)) (show N24 2 = N19 2 from (eN24 2))).trans ((congrArg (fun q : Nat => (q : Int)) (show N19 2 = N15 2 from (eN19 2))).trans ((congrArg (fun q : Nat => (q : Int)) (eN15 2)).trans em15_1))) (y15_0_1) (((((show F24 1 1 = F19 1 1 from (eF24 1 1))).trans ((show F19 1 1 = F15 1 1 from (eF19 1 1)))).trans ((eF15 1 1).trans ey15_0_1))) (y15_0_2) (((((show F24 1 2 = F19 1 2 from (eF24 1 2))).trans ((show F19 1 2 = F15 1 2 from (eF19 1 2)))).trans ((eF15 1 2).trans ey15_0_2))) (w15_1) (((show A24 2 = A19 2 from (eA24 2))).trans (((show A19 2 = A15 2 from (eA19 2))).trans ((eA15 2).trans ew15_1))) (show inr (0) from q_2) (show inr (0) from q_2) (show (0) ≤ (0) from q_1) (show (0) ≤ (0) ∨ (0) ≤ ((y24_0_4)) from q_5) (show 0 ≤ (y15_0_1) ∧ (y15_0_1) ≤ (m15_1) ∧ (m15_1) ≤ 65536 from pz15_0) (show (0) = su (fun j => ((w24_4)) j + ((w24_5)) j) ((0) : Int).toNat by omega) (show RTO ((u1_2)) ((w2)) ((u1_1)) ((y15_0_2)) ((w15_1)) ((y15_0_1)) (vlr ((u4_1)) ++ tgE ((w5)) 0 (sq ((w24_4)) ((w24_5)) ((w24_6)) ((y24_0_4))) ((y24_0_5))) (tgE ((w5)) ((0)) (sqd ((w24_4)) ((w24_5)) ((w24_6)) ((0)) ((y24_0_4))) ((y24_0_5))) by assumption) rfl
  as_aux_lemma =>
  intro m
  induction m using Nat.strongRecOn with
  | _ m ih42 =>
    intro ls σ D_42 N_42 c_42 s_42 F_42 A_42 x42_3 x42_4 l42_0 l42_1 l42_3 l42_4 H O hD_42 hN_42 hS_42 hA_42 pm42_2 m42_2 em42_2 y42_1_1 ey42_1_1 y42_1_2 ey42_1_2 w42_2 ew42_2 j42_0 j42_1 j42_2 j42_3 j42_4 j42_5 j42_6 hm42
    have cF_42 : SF oz_D3clsl_9 F F_42 := SF_trans (cF24) hS_42 (any_sub (by decide +kernel))
    have mF_42 := SFm_of cF_42 oz_D3cls_40
    have cA_42 : SA oz_D3clsl_10 A A_42 := SA_trans (cA24) hA_42 (any_subA (by decide +kernel))
    have mA_42 := SAm_of cA_42 oz_D3cls_41
    have cD_42 : SD oz_D3clsl_11 D D_42 := SD_trans (cD24) hD_42 (any_subA (by decide +kernel))
    have mD_42 := SDm_of cD_42 oz_D3cls_42
    have cN_42 : SD oz_D3clsl_11 N N_42 := SD_trans (cN24) hN_42 (any_subA (by decide +kernel))
    have mN_42 := SDm_of cN_42 oz_D3cls_42
    have pf_42_3_1 : F_42 3 1 = (D_42 8 : Int) := (hS_42 3 1 rfl).trans ((pf24_3_1).trans (congrArg (fun q : Nat => (q : Int)) (hD_42 8 rfl).symm))
    have pf_42_3_2 : F_42 3 2 = (D_42 9 : Int) := (hS_42 3 2 rfl).trans ((pf24_3_2).trans (congrArg (fun q : Nat => (q : Int)) (hD_42 9 rfl).symm))
    have pf_42_3_3 : F_42 3 3 = (D_42 10 : Int) := (hS_42 3 3 rfl).trans ((pf24_3_3).trans (congrArg (fun q : Nat => (q : Int)) (hD_42 10 rfl).symm))
    have pf_42_3_8 : F_42 3 8 = (D_42 6 : Int) := (hS_42 3 8 rfl).trans ((pf24_3_8).trans (congrArg (fun q : Nat => (q : Int)) (hD_42 6 rfl).symm))
    have r30 : (0 : Int) ≤ m42_2 ∧ m42_2 ≤ 1000000 := nleE (H.nle 2 (ltn len_V194_Row_oz_D3cls rfl)) (show (N_42 2 : Int) = m42_2 from em42_2)
    have r31 : (-2147483648 : Int) ≤ y42_1_1 ∧ y42_1_1 ≤ 2147483647 := rngE (show (-2147483648 : Int) ≤ F_42 1 1 ∧ F_42 1 1 ≤ 2147483647 from H.krg 1 1 (ltn len_V194_Row_oz_D3cls rfl)) (show F_42 1 1 = y42_1_1 from (ey42_1_1))
    have r32 : (0 : Int) ≤ y42_1_2 ∧ y42_1_2 ≤ 1 := rngE (show (0 : Int) ≤ F_42 1 2 ∧ F_42 1 2 ≤ 1 from H.krg 1 2 (ltn len_V194_Row_oz_D3cls rfl)) (show F_42 1 2 = y42_1_2 from (ey42_1_2))
    have j42_q : RTO ((u1_2)) ((w2)) ((u1_1)) ((y42_1_2)) ((w42_2)) ((y42_1_1)) (vlr ((u4_1)) ++ tgE ((w5)) 0 (sq ((w24_4)) ((w24_5)) ((w24_6)) ((y24_0_4))) ((y24_0_5))) (tgE ((w5)) ((x42_3)) (sqd ((w24_4)) ((w24_5)) ((w24_6)) ((x42_4)) ((y24_0_4))) ((y24_0_5))) := by assumption
    refine Ew_of (pcₚ := 44) (fun _ => x_iload rfl l42_4) ?_
    refine Ew_of (pcₚ := 45) (fun _ => x_aload_n rfl l42_0) ?_
    refine v_g H (o := 0) (v := .ref (D_42 3)) rfl rfl rfl rfl rfl (vrf ((mF_42 0 1 rfl).trans ((pf3).trans (congrArg (fun q : Nat => (q : Int)) (mD_42 3 rfl).symm)))) ?_
    refine v_g H (o := 3) (v := I (y24_0_4)) rfl rfl rfl rfl rfl (congrArg (fun z : Int => I z) (((hS_42 3 4 rfl).trans ((eF24 3 4).trans ey24_0_4)) : F_42 3 4 = y24_0_4)) ?_
    refine w_icmpge (t := 124) rfl rfl (show inr (x42_4) from j42_1) (show inr (y24_0_4) from q_3187 pz24_1 r28) (fun b33 => ?_) (fun b33 => ?_)
    · have hlx : (x42_4) = (y24_0_4) := q_3188 b33 j42_3 pz24_1
      have hst : su (fun j => ((w24_4)) j + ((w24_5)) j) ((x42_4) : Int).toNat = (u4_1) - 0 - (y24_0_5) := by rw [hlx]; exact hfd.2
      refine Ew_of (pcₚ := 125) (fun _ => x_aload_n rfl l42_0) ?_
      refine Ew_of (pcₚ := 126) (fun _ => x_aload_n rfl l42_1) ?_
      refine Ew_of (pcₚ := 127) (fun _ => x_iload_n rfl l42_3) ?_
      refine Ew_of (pcₚ := 128) (fun _ => x_aload_n rfl l42_0) ?_
      refine v_g H (o := 0) (v := .ref (D_42 3)) rfl rfl rfl rfl rfl (vrf ((mF_42 0 1 rfl).trans ((pf3).trans (congrArg (fun q : Nat => (q : Int)) (mD_42 3 rfl).symm)))) ?_
      refine v_g H (o := 3) (v := I (y24_0_5)) rfl rfl rfl rfl rfl (congrArg (fun z : Int => I z) (((hS_42 3 5 rfl).trans ((eF24 3 5).trans ey24_0_5)) : F_42 3 5 = y24_0_5)) ?_
      refine v_inv H (o := 0) rfl rfl rfl rfl rfl rfl (by rfl) (C196_Row (D := puc 176197141529088 D_42) (N := puc 176197141529088 N_42) (HW_subc H oz_D3cls_37 oz_D3cls_45) (pm42_2) ((mF_42 0 1 rfl).trans ((pf3).trans (congrArg (fun q : Nat => (q : Int)) (mD_42 3 rfl).symm))) ((mF_42 3 0 rfl).trans ((pf4).trans (congrArg (fun q : Nat => (q : Int)) (mD_42 4 rfl).symm))) ((mF_42 4 0 rfl).trans ((pf5).trans (congrArg (fun q : Nat => (q : Int)) (mD_42 5 rfl).symm))) (m42_2) (em42_2) (n5) ((congrArg (fun q : Nat => (q : Int)) (mN_42 5 rfl)).trans (en5)) (y42_1_1) ((ey42_1_1)) (y42_1_2) ((ey42_1_2)) (u4_1) (((mF_42 4 1 rfl).trans (eu4_1))) (w42_2) (ew42_2) (w5) ((funext (mA_42 5 rfl)).trans (ew5)) (show inr (x42_3) from j42_0) (show inr (y24_0_5) from q_3189 pz24_2 r29) (show 0 ≤ (y42_1_1) ∧ (y42_1_1) ≤ (m42_2) ∧ (m42_2) ≤ 65536 from j42_4) (show 0 ≤ (u4_1) ∧ (u4_1) ≤ (n5) ∧ (n5) ≤ 65536 from q_3076 h1) (show 0 ≤ (x42_3) ∧ 0 ≤ (y24_0_5) ∧ (x42_3) + (y24_0_5) ≤ (n5) by omega) (fun σ34 D34ₚ N34ₚ F34ₚ A34ₚ c34 s34 Hₚ Oₚ hD34 hN34 hS34 hA34 pm34_2 m34_2 em34_2 y34_1_1 ey34_1_1 y34_1_2 ey34_1_2 w34_2 ew34_2 pz34_0 pz34_1 => ⟨rfl, ?_⟩))
      refine v_backMc (c := c_42) (s := s_42) H oz_D3cls_37 oz_D3cls_45 Hₚ Oₚ hD34 oz_D3cls_38 (fun D34 N34 F34 A34 H Oₚ eD34 eN34 eF34 eA34 => ?_)
      have O := OUT_trans O Oₚ
      -- Tags.packLiterals
      have cF34 : SF oz_D3clsl_9 F F34 := SF_trans (cF_42) (SF_gluc (ι := oz_D3clsl_14) oz_D3cls_45 hS34 eF34 (by decide +kernel)) (any_sub (lₚ := [(1, 0), (1, 1), (1, 2)]) (by decide +kernel))
      have mF34 := SFm_of cF34 oz_D3cls_40
      have cA34 : SA oz_D3clsl_10 A A34 := SA_trans (cA_42) (SA_gluc (ι := oz_D3clsl_14) oz_D3cls_45 hA34 eA34 (by decide +kernel)) (any_subA (lₚ := [2]) (by decide +kernel))
      have mA34 := SAm_of cA34 oz_D3cls_41
      have cD34 : SD oz_D3clsl_11 D D34 := SD_trans (cD_42) (SD_gluc (ι := oz_D3clsl_14) oz_D3cls_45 hD34 eD34 (by decide +kernel)) (any_subA (lₚ := [2]) (by decide +kernel))
      have mD34 := SDm_of cD34 oz_D3cls_42
      have cN34 : SD oz_D3clsl_11 N N34 := SD_trans (cN_42) (SD_gluc (ι := oz_D3clsl_14) oz_D3cls_45 hN34 eN34 (by decide +kernel)) (any_subA (lₚ := [2]) (by decide +kernel))
      have mN34 := SDm_of cN34 oz_D3cls_42
      have pf34_1_0 : F34 1 0 = (D34 2 : Int) := (eF34 1 0).trans (pm34_2.trans (congrArg (fun q : Nat => (q : Int)) (eD34 2).symm))
      have pf34_3_1 : F34 3 1 = (D34 8 : Int) := ((show F34 3 1 = F_42 3 1 from (eF34 3 1).trans (hS34 3 1 rfl))).trans ((pf_42_3_1).trans (congrArg (fun q : Nat => (q : Int)) ((show D34 8 = D_42 8 from (eD34 8))).symm))
      have pf34_3_2 : F34 3 2 = (D34 9 : Int) := ((show F34 3 2 = F_42 3 2 from (eF34 3 2).trans (hS34 3 2 rfl))).trans ((pf_42_3_2).trans (congrArg (fun q : Nat => (q : Int)) ((show D34 9 = D_42 9 from (eD34 9))).symm))
      have pf34_3_3 : F34 3 3 = (D34 10 : Int) := ((show F34 3 3 = F_42 3 3 from (eF34 3 3).trans (hS34 3 3 rfl))).trans ((pf_42_3_3).trans (congrArg (fun q : Nat => (q : Int)) ((show D34 10 = D_42 10 from (eD34 10))).symm))
      have pf34_3_8 : F34 3 8 = (D34 6 : Int) := ((show F34 3 8 = F_42 3 8 from (eF34 3 8).trans (hS34 3 8 rfl))).trans ((pf_42_3_8).trans (congrArg (fun q : Nat => (q : Int)) ((show D34 6 = D_42 6 from (eD34 6))).symm))
      have r35 : (0 : Int) ≤ m34_2 ∧ m34_2 ≤ 1000000 := nleE (H.nle 2 (ltn len_V194_Row_oz_D3cls rfl)) (show (N34 2 : Int) = m34_2 from (congrArg (fun q : Nat => (q : Int)) (eN34 2)).trans em34_2)
      have r36 : (-2147483648 : Int) ≤ y34_1_1 ∧ y34_1_1 ≤ 2147483647 := rngE (show (-2147483648 : Int) ≤ F34 1 1 ∧ F34 1 1 ≤ 2147483647 from H.krg 1 1 (ltn len_V194_Row_oz_D3cls rfl)) (show F34 1 1 = y34_1_1 from ((eF34 1 1).trans ey34_1_1))
      have r37 : (0 : Int) ≤ y34_1_2 ∧ y34_1_2 ≤ 1 := rngE (show (0 : Int) ≤ F34 1 2 ∧ F34 1 2 ≤ 1 from H.krg 1 2 (ltn len_V194_Row_oz_D3cls rfl)) (show F34 1 2 = y34_1_2 from ((eF34 1 2).trans ey34_1_2))
      have hBd : ∀ i, (-128 : Int) ≤ (w5) i ∧ (w5) i ≤ 127 := fun i => by have h1 : (-128 : Int) ≤ A34 5 i ∧ A34 5 i ≤ 127 := H.arg 5 i (by decide) rfl; rw [show A34 5 = w5 from (funext (mA34 5 rfl)).trans (ew5)] at h1; exact h1
      have : PKG ((u3_9)) (sc ((w5)) 0 ((u4_1))) ((u1_2)) ((w2)) ((u1_1)) ((y34_1_2)) ((w34_2)) ((y34_1_1)) := ⟨_, TGB_of (BYI_s hBd) (by omega) hgo (by omega) (by omega) (by omega) (by omega) (by omega), RTO_e j42_q (by rw [sqd_e (by omega)]; exact pz34_1)⟩
      exact w_ret rfl (k _ _ _ _ _ _ _ H O (cD34) (cN34) (cF34) (cA34) (pf34_1_0) (pf34_3_8) (pf34_3_1) (pf34_3_2) (pf34_3_3) (m34_2) ((congrArg (fun q : Nat => (q : Int)) (eN34 2)).trans em34_2) (m19_3) ((congrArg (fun q : Nat => (q : Int)) (show N34 6 = N_42 6 from (eN34 6))).trans ((congrArg (fun q : Nat => (q : Int)) (hN_42 6 rfl)).trans ((congrArg (fun q : Nat => (q : Int)) (show N24 6 = N19 6 from (eN24 6).trans (hN24 3 rfl))).trans ((congrArg (fun q : Nat => (q : Int)) (eN19 6)).trans em19_3)))) (m24_4) ((congrArg (fun q : Nat => (q : Int)) (show N34 8 = N_42 8 from (eN34 8))).trans ((congrArg (fun q : Nat => (q : Int)) (hN_42 8 rfl)).trans ((congrArg (fun q : Nat => (q : Int)) (eN24 8)).trans em24_4))) (m24_5) ((congrArg (fun q : Nat => (q : Int)) (show N34 9 = N_42 9 from (eN34 9))).trans ((congrArg (fun q : Nat => (q : Int)) (hN_42 9 rfl)).trans ((congrArg (fun q : Nat => (q : Int)) (eN24 9)).trans em24_5))) (m24_6) ((congrArg (fun q : Nat => (q : Int)) (show N34 10 = N_42 10 from (eN34 10))).trans ((congrArg (fun q : Nat => (q : Int)) (hN_42 10 rfl)).trans ((congrArg (fun q : Nat => (q : Int)) (eN24 10)).trans em24_6))) (y34_1_1) (((eF34 1 1).trans ey34_1_1)) (y34_1_2) (((eF34 1 2).trans ey34_1_2)) (y19_0_6) ((((((show F34 3 6 = F_42 3 6 from (eF34 3 6).trans (hS34 3 6 rfl))).trans (hS_42 3 6 rfl)).trans ((show F24 3 6 = F19 3 6 from (eF24 3 6).trans (hS24 0 6 rfl)))).trans ((eF19 3 6).trans ey19_0_6))) (w34_2) ((eA34 2).trans ew34_2) (w19_3) (((show A34 6 = A_42 6 from (eA34 6))).trans ((funext (hA_42 6 rfl)).trans (((show A24 6 = A19 6 from (eA24 6).trans (funext (hA24 3 rfl)))).trans ((eA19 6).trans ew19_3)))) (w19_4) (((show A34 7 = A_42 7 from (eA34 7))).trans ((funext (hA_42 7 rfl)).trans (((show A24 7 = A19 7 from (eA24 7))).trans ((eA19 7).trans ew19_4)))) (show 0 ≤ (y34_1_1) ∧ (y34_1_1) ≤ (m34_2) ∧ (m34_2) ≤ 65536 from pz34_0) (show 0 ≤ (y19_0_6) ∧ (u3_6) ≤ (y19_0_6) ∧ (y19_0_6) ≤ (m19_3) ∧ (m19_3) ≤ 16384 from q_3078 h7 pz19_0) (show (m24_4) = (m24_5) ∧ (m24_6) = (m24_5) ∧ (m24_5) ≤ 65536 ∧ ((m24_5) = 0 ∨ 64 ≤ (m24_5)) ∧ lgq ((m24_5)) = 0 from pz24_0) (pz19_3) (pz19_4) (show (y19_0_6) = (u3_6) ∨ (y19_0_6) + 4 ≤ (u4_1) + 1 by omega) (show PKG ((u3_9)) (sc ((w5)) 0 ((u4_1))) ((u1_2)) ((w2)) ((u1_1)) ((y34_1_2)) ((w34_2)) ((y34_1_1)) by assumption))
    · have hfp := FDI_part (i := (x42_4)) hfd (by omega) (by omega) (by omega)
      have hfj := hfd.1 ((x42_4)) (by omega) (by omega)
      refine Ew_of (pcₚ := 55) (fun _ => x_aload_n rfl l42_0) ?_
      refine Ew_of (pcₚ := 56) (fun _ => x_aload_n rfl l42_1) ?_
      refine Ew_of (pcₚ := 57) (fun _ => x_iload_n rfl l42_3) ?_
      refine Ew_of (pcₚ := 58) (fun _ => x_aload_n rfl l42_0) ?_
      refine v_g H (o := 0) (v := .ref (D_42 3)) rfl rfl rfl rfl rfl (vrf ((mF_42 0 1 rfl).trans ((pf3).trans (congrArg (fun q : Nat => (q : Int)) (mD_42 3 rfl).symm)))) ?_
      refine v_g H (o := 3) (v := .ref (D_42 8)) rfl rfl rfl rfl rfl (vrf (pf_42_3_1)) ?_
      refine Ew_of (pcₚ := 66) (fun _ => x_iload rfl l42_4) ?_
      refine v_lI H (o := 8) rfl rfl rfl rfl (n := m24_4) ((congrArg (fun q : Nat => (q : Int)) (hN_42 8 rfl)).trans ((congrArg (fun q : Nat => (q : Int)) (eN24 8)).trans em24_4)) (show 0 ≤ x42_4 ∧ x42_4 < m24_4 from q_3190 b33 j42_2 pz24_0 pz24_1) (fun v38 ev38 qv38 => ?_)
      have ev38 : (w24_4) (x42_4) = v38 := (congrFun ((funext (hA_42 8 rfl)).trans ((eA24 8).trans ew24_4)) (x42_4)).symm.trans ev38
      have hli := ev38
      refine v_inv H (o := 0) rfl rfl rfl rfl rfl rfl (by rfl) (C196_Row (D := puc 176197141529088 D_42) (N := puc 176197141529088 N_42) (HW_subc H oz_D3cls_37 oz_D3cls_45) (pm42_2) ((mF_42 0 1 rfl).trans ((pf3).trans (congrArg (fun q : Nat => (q : Int)) (mD_42 3 rfl).symm))) ((mF_42 3 0 rfl).trans ((pf4).trans (congrArg (fun q : Nat => (q : Int)) (mD_42 4 rfl).symm))) ((mF_42 4 0 rfl).trans ((pf5).trans (congrArg (fun q : Nat => (q : Int)) (mD_42 5 rfl).symm))) (m42_2) (em42_2) (n5) ((congrArg (fun q : Nat => (q : Int)) (mN_42 5 rfl)).trans (en5)) (y42_1_1) ((ey42_1_1)) (y42_1_2) ((ey42_1_2)) (u4_1) (((mF_42 4 1 rfl).trans (eu4_1))) (w42_2) (ew42_2) (w5) ((funext (mA_42 5 rfl)).trans (ew5)) (show inr (x42_3) from j42_0) (show inr (v38) from qv38) (show 0 ≤ (y42_1_1) ∧ (y42_1_1) ≤ (m42_2) ∧ (m42_2) ≤ 65536 from j42_4) (show 0 ≤ (u4_1) ∧ (u4_1) ≤ (n5) ∧ (n5) ≤ 65536 from q_3076 h1) (show 0 ≤ (x42_3) ∧ 0 ≤ (v38) ∧ (x42_3) + (v38) ≤ (n5) by omega) (fun σ39 D39ₚ N39ₚ F39ₚ A39ₚ c39 s39 Hₚ Oₚ hD39 hN39 hS39 hA39 pm39_2 m39_2 em39_2 y39_1_1 ey39_1_1 y39_1_2 ey39_1_2 w39_2 ew39_2 pz39_0 pz39_1 => ⟨rfl, ?_⟩))
      refine v_backMc (c := c_42) (s := s_42) H oz_D3cls_37 oz_D3cls_45 Hₚ Oₚ hD39 oz_D3cls_38 (fun D39 N39 F39 A39 H Oₚ eD39 eN39 eF39 eA39 => ?_)
      have O := OUT_trans O Oₚ
      -- Tags.packLiterals
      have cF39 : SF oz_D3clsl_9 F F39 := SF_trans (cF_42) (SF_gluc (ι := oz_D3clsl_14) oz_D3cls_45 hS39 eF39 (by decide +kernel)) (any_sub (lₚ := [(1, 0), (1, 1), (1, 2)]) (by decide +kernel))
      have mF39 := SFm_of cF39 oz_D3cls_40
      have cA39 : SA oz_D3clsl_10 A A39 := SA_trans (cA_42) (SA_gluc (ι := oz_D3clsl_14) oz_D3cls_45 hA39 eA39 (by decide +kernel)) (any_subA (lₚ := [2]) (by decide +kernel))
      have mA39 := SAm_of cA39 oz_D3cls_41
      have cD39 : SD oz_D3clsl_11 D D39 := SD_trans (cD_42) (SD_gluc (ι := oz_D3clsl_14) oz_D3cls_45 hD39 eD39 (by decide +kernel)) (any_subA (lₚ := [2]) (by decide +kernel))
      have mD39 := SDm_of cD39 oz_D3cls_42
      have cN39 : SD oz_D3clsl_11 N N39 := SD_trans (cN_42) (SD_gluc (ι := oz_D3clsl_14) oz_D3cls_45 hN39 eN39 (by decide +kernel)) (any_subA (lₚ := [2]) (by decide +kernel))
      have mN39 := SDm_of cN39 oz_D3cls_42
      have pf39_1_0 : F39 1 0 = (D39 2 : Int) := (eF39 1 0).trans (pm39_2.trans (congrArg (fun q : Nat => (q : Int)) (eD39 2).symm))
      have pf39_3_1 : F39 3 1 = (D39 8 : Int) := ((show F39 3 1 = F_42 3 1 from (eF39 3 1).trans (hS39 3 1 rfl))).trans ((pf_42_3_1).trans (congrArg (fun q : Nat => (q : Int)) ((show D39 8 = D_42 8 from (eD39 8))).symm))
      have pf39_3_2 : F39 3 2 = (D39 9 : Int) := ((show F39 3 2 = F_42 3 2 from (eF39 3 2).trans (hS39 3 2 rfl))).trans ((pf_42_3_2).trans (congrArg (fun q : Nat => (q : Int)) ((show D39 9 = D_42 9 from (eD39 9))).symm))
      have pf39_3_3 : F39 3 3 = (D39 10 : Int) := ((show F39 3 3 = F_42 3 3 from (eF39 3 3).trans (hS39 3 3 rfl))).trans ((pf_42_3_3).trans (congrArg (fun q : Nat => (q : Int)) ((show D39 10 = D_42 10 from (eD39 10))).symm))
      have pf39_3_8 : F39 3 8 = (D39 6 : Int) := ((show F39 3 8 = F_42 3 8 from (eF39 3 8).trans (hS39 3 8 rfl))).trans ((pf_42_3_8).trans (congrArg (fun q : Nat => (q : Int)) ((show D39 6 = D_42 6 from (eD39 6))).symm))
      have r40 : (0 : Int) ≤ m39_2 ∧ m39_2 ≤ 1000000 := nleE (H.nle 2 (ltn len_V194_Row_oz_D3cls rfl)) (show (N39 2 : Int) = m39_2 from (congrArg (fun q : Nat => (q : Int)) (eN39 2)).trans em39_2)
      have r41 : (-2147483648 : Int) ≤ y39_1_1 ∧ y39_1_1 ≤ 2147483647 := rngE (show (-2147483648 : Int) ≤ F39 1 1 ∧ F39 1 1 ≤ 2147483647 from H.krg 1 1 (ltn len_V194_Row_oz_D3cls rfl)) (show F39 1 1 = y39_1_1 from ((eF39 1 1).trans ey39_1_1))
      have r42 : (0 : Int) ≤ y39_1_2 ∧ y39_1_2 ≤ 1 := rngE (show (0 : Int) ≤ F39 1 2 ∧ F39 1 2 ≤ 1 from H.krg 1 2 (ltn len_V194_Row_oz_D3cls rfl)) (show F39 1 2 = y39_1_2 from ((eF39 1 2).trans ey39_1_2))
      have hp1 := pz39_1
      refine Ew_of (pcₚ := 71) (fun _ => x_aload_n rfl l42_1) ?_
      refine Ew_of (pcₚ := 72) (fun _ => x_aload_n rfl l42_0) ?_
      refine Ew_stk (show ([.ref (D_42 0), .ref (D_42 1)] : List Value) = [.ref (D39 0), .ref (D39 1)] by rw [show D39 0 = D_42 0 from ((show D39 0 = D_42 0 from (eD39 0).trans (hD39 0 rfl))), show D39 1 = D_42 1 from ((show D39 1 = D_42 1 from (eD39 1).trans (hD39 1 rfl)))]) ?_
      refine v_g H (o := 0) (v := .ref (D39 3)) rfl rfl rfl rfl rfl (vrf ((mF39 0 1 rfl).trans ((pf3).trans (congrArg (fun q : Nat => (q : Int)) (mD39 3 rfl).symm)))) ?_
      refine v_g H (o := 3) (v := .ref (D39 9)) rfl rfl rfl rfl rfl (vrf (pf39_3_2)) ?_
      refine Ew_of (pcₚ := 80) (fun _ => x_iload rfl l42_4) ?_
      refine v_lI H (o := 9) rfl rfl rfl rfl (n := m24_5) ((congrArg (fun q : Nat => (q : Int)) (show N39 9 = N_42 9 from (eN39 9))).trans ((congrArg (fun q : Nat => (q : Int)) (hN_42 9 rfl)).trans ((congrArg (fun q : Nat => (q : Int)) (eN24 9)).trans em24_5))) (show 0 ≤ x42_4 ∧ x42_4 < m24_5 from q_3191 b33 j42_2 pz24_1) (fun v43 ev43 qv43 => ?_)
      have ev43 : (w24_5) (x42_4) = v43 := (congrFun (((show A39 9 = A_42 9 from (eA39 9))).trans ((funext (hA_42 9 rfl)).trans ((eA24 9).trans ew24_5))) (x42_4)).symm.trans ev43
      have hle := ev43
      refine Ew_of (pcₚ := 82) (fun _ => x_aload_n rfl l42_0) ?_
      refine Ew_stk (congrArg (fun qz : Nat => ([.ref qz, I (v43), .ref (D39 1)] : List Value)) (show D39 0 = D_42 0 from ((show D39 0 = D_42 0 from (eD39 0).trans (hD39 0 rfl)))).symm) ?_
      refine v_g H (o := 0) (v := .ref (D39 3)) rfl rfl rfl rfl rfl (vrf ((mF39 0 1 rfl).trans ((pf3).trans (congrArg (fun q : Nat => (q : Int)) (mD39 3 rfl).symm)))) ?_
      refine v_g H (o := 3) (v := .ref (D39 10)) rfl rfl rfl rfl rfl (vrf (pf39_3_3)) ?_
      refine Ew_of (pcₚ := 90) (fun _ => x_iload rfl l42_4) ?_
      refine v_lI H (o := 10) rfl rfl rfl rfl (n := m24_6) ((congrArg (fun q : Nat => (q : Int)) (show N39 10 = N_42 10 from (eN39 10))).trans ((congrArg (fun q : Nat => (q : Int)) (hN_42 10 rfl)).trans ((congrArg (fun q : Nat => (q : Int)) (eN24 10)).trans em24_6))) (show 0 ≤ x42_4 ∧ x42_4 < m24_6 from q_3192 b33 j42_2 pz24_0 pz24_1) (fun v44 ev44 qv44 => ?_)
      have ev44 : (w24_6) (x42_4) = v44 := (congrFun (((show A39 10 = A_42 10 from (eA39 10))).trans ((funext (hA_42 10 rfl)).trans ((eA24 10).trans ew24_6))) (x42_4)).symm.trans ev44
      have hdi := ev44
      refine w_stat24 rfl rfl (by rfl) (C197_Row (D := puc 1025 D39) (N := puc 1025 N39) (HW_subc H oz_D3cls_39 oz_D3cls_23) (pf39_1_0) (m39_2) ((congrArg (fun q : Nat => (q : Int)) (eN39 2)).trans em39_2) (y39_1_1) (((eF39 1 1).trans ey39_1_1)) (y39_1_2) (((eF39 1 2).trans ey39_1_2)) (w39_2) ((eA39 2).trans ew39_2) (show inr (v43) from qv43) (show inr (v44) from qv44) (show 0 ≤ (y39_1_1) ∧ (y39_1_1) ≤ (m39_2) ∧ (m39_2) ≤ 65536 from pz39_0) (show 0 ≤ (v43) ∧ (v43) ≤ 65536 by omega) (show 0 ≤ (v44) ∧ (v44) ≤ 65535 by omega) (fun σ45 D45ₚ N45ₚ F45ₚ A45ₚ c45 s45 Hₚ Oₚ hD45 hN45 hS45 hA45 pm45_1 m45_1 em45_1 y45_0_1 ey45_0_1 y45_0_2 ey45_0_2 w45_1 ew45_1 pz45_0 pz45_1 => ⟨rfl, ?_⟩))
      refine v_backMc (c := (c_42 + c39)) (s := (s_42 + s39)) H oz_D3cls_39 oz_D3cls_23 Hₚ Oₚ hD45 oz_D3cls_32 (fun D45 N45 F45 A45 H Oₚ eD45 eN45 eF45 eA45 => ?_)
      have O := OUT_trans O Oₚ
      -- Tags.packCopies
      have cF45 : SF oz_D3clsl_9 F F45 := SF_trans (cF39) (SF_gluc (ι := oz_D3clsl_8) oz_D3cls_23 hS45 eF45 (by decide +kernel)) (any_sub (lₚ := [(1, 0), (1, 1), (1, 2)]) (by decide +kernel))
      have mF45 := SFm_of cF45 oz_D3cls_40
      have cA45 : SA oz_D3clsl_10 A A45 := SA_trans (cA39) (SA_gluc (ι := oz_D3clsl_8) oz_D3cls_23 hA45 eA45 (by decide +kernel)) (any_subA (lₚ := [2]) (by decide +kernel))
      have mA45 := SAm_of cA45 oz_D3cls_41
      have cD45 : SD oz_D3clsl_11 D D45 := SD_trans (cD39) (SD_gluc (ι := oz_D3clsl_8) oz_D3cls_23 hD45 eD45 (by decide +kernel)) (any_subA (lₚ := [2]) (by decide +kernel))
      have mD45 := SDm_of cD45 oz_D3cls_42
      have cN45 : SD oz_D3clsl_11 N N45 := SD_trans (cN39) (SD_gluc (ι := oz_D3clsl_8) oz_D3cls_23 hN45 eN45 (by decide +kernel)) (any_subA (lₚ := [2]) (by decide +kernel))
      have mN45 := SDm_of cN45 oz_D3cls_42
      have pf45_1_0 : F45 1 0 = (D45 2 : Int) := (eF45 1 0).trans (pm45_1.trans (congrArg (fun q : Nat => (q : Int)) (eD45 2).symm))
      have pf45_3_1 : F45 3 1 = (D45 8 : Int) := ((show F45 3 1 = F39 3 1 from (eF45 3 1))).trans ((pf39_3_1).trans (congrArg (fun q : Nat => (q : Int)) ((show D45 8 = D39 8 from (eD45 8))).symm))
      have pf45_3_2 : F45 3 2 = (D45 9 : Int) := ((show F45 3 2 = F39 3 2 from (eF45 3 2))).trans ((pf39_3_2).trans (congrArg (fun q : Nat => (q : Int)) ((show D45 9 = D39 9 from (eD45 9))).symm))
      have pf45_3_3 : F45 3 3 = (D45 10 : Int) := ((show F45 3 3 = F39 3 3 from (eF45 3 3))).trans ((pf39_3_3).trans (congrArg (fun q : Nat => (q : Int)) ((show D45 10 = D39 10 from (eD45 10))).symm))
      have pf45_3_8 : F45 3 8 = (D45 6 : Int) := ((show F45 3 8 = F39 3 8 from (eF45 3 8))).trans ((pf39_3_8).trans (congrArg (fun q : Nat => (q : Int)) ((show D45 6 = D39 6 from (eD45 6))).symm))
      have r46 : (0 : Int) ≤ m45_1 ∧ m45_1 ≤ 1000000 := nleE (H.nle 2 (ltn len_V194_Row_oz_D3cls rfl)) (show (N45 2 : Int) = m45_1 from (congrArg (fun q : Nat => (q : Int)) (eN45 2)).trans em45_1)
      have r47 : (-2147483648 : Int) ≤ y45_0_1 ∧ y45_0_1 ≤ 2147483647 := rngE (show (-2147483648 : Int) ≤ F45 1 1 ∧ F45 1 1 ≤ 2147483647 from H.krg 1 1 (ltn len_V194_Row_oz_D3cls rfl)) (show F45 1 1 = y45_0_1 from ((eF45 1 1).trans ey45_0_1))
      have r48 : (0 : Int) ≤ y45_0_2 ∧ y45_0_2 ≤ 1 := rngE (show (0 : Int) ≤ F45 1 2 ∧ F45 1 2 ≤ 1 from H.krg 1 2 (ltn len_V194_Row_oz_D3cls rfl)) (show F45 1 2 = y45_0_2 from ((eF45 1 2).trans ey45_0_2))
      have hp2 := pz45_1
      refine Ew_of (pcₚ := 95) (fun _ => x_iload_n rfl l42_3) ?_
      refine Ew_of (pcₚ := 96) (fun _ => x_aload_n rfl l42_0) ?_
      refine Ew_stk (congrArg (fun qz : Nat => ([.ref qz, I (x42_3)] : List Value)) (show D45 0 = D_42 0 from (((show D45 0 = D39 0 from (eD45 0))).trans ((show D39 0 = D_42 0 from (eD39 0).trans (hD39 0 rfl))))).symm) ?_
      refine v_g H (o := 0) (v := .ref (D45 3)) rfl rfl rfl rfl rfl (vrf ((mF45 0 1 rfl).trans ((pf3).trans (congrArg (fun q : Nat => (q : Int)) (mD45 3 rfl).symm)))) ?_
      refine v_g H (o := 3) (v := .ref (D45 8)) rfl rfl rfl rfl rfl (vrf (pf45_3_1)) ?_
      refine Ew_of (pcₚ := 104) (fun _ => x_iload rfl l42_4) ?_
      refine v_lI H (o := 8) rfl rfl rfl rfl (n := m24_4) ((congrArg (fun q : Nat => (q : Int)) (show N45 8 = N39 8 from (eN45 8))).trans ((congrArg (fun q : Nat => (q : Int)) (show N39 8 = N_42 8 from (eN39 8))).trans ((congrArg (fun q : Nat => (q : Int)) (hN_42 8 rfl)).trans ((congrArg (fun q : Nat => (q : Int)) (eN24 8)).trans em24_4)))) (show 0 ≤ x42_4 ∧ x42_4 < m24_4 from q_3190 b33 j42_2 pz24_0 pz24_1) (fun v49 ev49 qv49 => ?_)
      have ev49 : (w24_4) (x42_4) = v49 := (congrFun (((show A45 8 = A39 8 from (eA45 8))).trans (((show A39 8 = A_42 8 from (eA39 8))).trans ((funext (hA_42 8 rfl)).trans ((eA24 8).trans ew24_4)))) (x42_4)).symm.trans ev49
      refine Ew_of (pcₚ := 106) (fun _ => x_aload_n rfl l42_0) ?_
      refine Ew_stk (congrArg (fun qz : Nat => ([.ref qz, I (v49), I (x42_3)] : List Value)) (show D45 0 = D_42 0 from (((show D45 0 = D39 0 from (eD45 0))).trans ((show D39 0 = D_42 0 from (eD39 0).trans (hD39 0 rfl))))).symm) ?_
      refine v_g H (o := 0) (v := .ref (D45 3)) rfl rfl rfl rfl rfl (vrf ((mF45 0 1 rfl).trans ((pf3).trans (congrArg (fun q : Nat => (q : Int)) (mD45 3 rfl).symm)))) ?_
      refine v_g H (o := 3) (v := .ref (D45 9)) rfl rfl rfl rfl rfl (vrf (pf45_3_2)) ?_
      refine Ew_of (pcₚ := 114) (fun _ => x_iload rfl l42_4) ?_
      refine v_lI H (o := 9) rfl rfl rfl rfl (n := m24_5) ((congrArg (fun q : Nat => (q : Int)) (show N45 9 = N39 9 from (eN45 9))).trans ((congrArg (fun q : Nat => (q : Int)) (show N39 9 = N_42 9 from (eN39 9))).trans ((congrArg (fun q : Nat => (q : Int)) (hN_42 9 rfl)).trans ((congrArg (fun q : Nat => (q : Int)) (eN24 9)).trans em24_5)))) (show 0 ≤ x42_4 ∧ x42_4 < m24_5 from q_3191 b33 j42_2 pz24_1) (fun v50 ev50 qv50 => ?_)
      have ev50 : (w24_5) (x42_4) = v50 := (congrFun (((show A45 9 = A39 9 from (eA45 9))).trans (((show A39 9 = A_42 9 from (eA39 9))).trans ((funext (hA_42 9 rfl)).trans ((eA24 9).trans ew24_5)))) (x42_4)).symm.trans ev50
      refine w_iadd rfl ?_
      refine w_iadd rfl ?_
      refine Ew_of (pcₚ := 118) (fun _ => x_istore_n rfl) ?_
      refine Ew_of (pcₚ := 121) (fun _ => x_iinc (len := 3) rfl (rk_o (l42_4) rfl rfl)) ?_
      refine Ew_of (pcₚ := 42) (fun _ => x_goto rfl rfl) ?_
      have : RTO ((u1_2)) ((w2)) ((u1_1)) ((y45_0_2)) ((w45_1)) ((y45_0_1)) (vlr ((u4_1)) ++ tgE ((w5)) 0 (sq ((w24_4)) ((w24_5)) ((w24_6)) ((y24_0_4))) ((y24_0_5))) (tgE ((w5)) (((x42_3 + (v49 + v50)))) (sqd ((w24_4)) ((w24_5)) ((w24_6)) (((x42_4 + 1))) ((y24_0_4))) ((y24_0_5))) := RTO_s j42_q (tg_step (by omega) (by omega) hli hle hdi (by omega) (by omega)) (RAP_trans hp1 hp2)
      exact ih42 _ (msE hm42 q_16 (q_17 b33)) _ _ _ _ _ _ _ _ ((x42_3 + (v49 + v50))) ((x42_4 + 1)) ((rk_o (rk_o (l42_0) rfl rfl) rfl rfl).trans (congrArg (fun q : Nat => some (Value.ref q)) ((((show D45 0 = D39 0 from (eD45 0))).trans ((show D39 0 = D_42 0 from (eD39 0).trans (hD39 0 rfl))))).symm)) ((rk_o (rk_o (l42_1) rfl rfl) rfl rfl).trans (congrArg (fun q : Nat => some (Value.ref q)) ((((show D45 1 = D39 1 from (eD45 1).trans (hD45 0 rfl))).trans ((show D39 1 = D_42 1 from (eD39 1).trans (hD39 1 rfl))))).symm)) (rk_o (rk_s) rfl rfl) (rk_s) H O (SD_trans (SD_trans (hD_42) (SD_gluc (ι := oz_D3clsl_14) oz_D3cls_45 hD39 eD39 (by decide +kernel)) (any_subA (lₚ := [2]) (by decide +kernel))) (SD_gluc (ι := oz_D3clsl_8) oz_D3cls_23 hD45 eD45 (by decide +kernel)) (any_subA (lₚ := [2]) (by decide +kernel))) (SD_trans (SD_trans (hN_42) (SD_gluc (ι := oz_D3clsl_14) oz_D3cls_45 hN39 eN39 (by decide +kernel)) (any_subA (lₚ := [2]) (by decide +kernel))) (SD_gluc (ι := oz_D3clsl_8) oz_D3cls_23 hN45 eN45 (by decide +kernel)) (any_subA (lₚ := [2]) (by decide +kernel))) (SF_trans (SF_trans (hS_42) (SF_gluc (ι := oz_D3clsl_14) oz_D3cls_45 hS39 eF39 (by decide +kernel)) (any_sub (lₚ := [(1, 0), (1, 1), (1, 2)]) (by decide +kernel))) (SF_gluc (ι := oz_D3clsl_8) oz_D3cls_23 hS45 eF45 (by decide +kernel)) (any_sub (lₚ := [(1, 0), (1, 1), (1, 2)]) (by decide +kernel))) (SA_trans (SA_trans (hA_42) (SA_gluc (ι := oz_D3clsl_14) oz_D3cls_45 hA39 eA39 (by decide +kernel)) (any_subA (lₚ := [2]) (by decide +kernel))) (SA_gluc (ι := oz_D3clsl_8) oz_D3cls_23 hA45 eA45 (by decide +kernel)) (any_subA (lₚ := [2]) (by decide +kernel))) (pf45_1_0) (m45_1) ((congrArg (fun q : Nat => (q : Int)) (eN45 2)).trans em45_1) (y45_0_1) (((eF45 1 1).trans ey45_0_1)) (y45_0_2) (((eF45 1 2).trans ey45_0_2)) (w45_1) ((eA45 2).trans ew45_1) (show inr ((x42_3 + (v49 + v50))) by omega) (show inr ((x42_4 + 1)) from q_3193 b33 j42_2 r28) (show (0) ≤ ((x42_4 + 1)) from q_14 j42_2) (show ((x42_4 + 1)) ≤ (0) ∨ ((x42_4 + 1)) ≤ ((y24_0_4)) from q_13 b33) (show 0 ≤ (y45_0_1) ∧ (y45_0_1) ≤ (m45_1) ∧ (m45_1) ≤ 65536 from pz45_0) (show ((x42_3 + (v49 + v50))) = su (fun j => ((w24_4)) j + ((w24_5)) j) (((x42_4 + 1)) : Int).toNat by omega) (show RTO ((u1_2)) ((w2)) ((u1_1)) ((y45_0_2)) ((w45_1)) ((y45_0_1)) (vlr ((u4_1)) ++ tgE ((w5)) 0 (sq ((w24_4)) ((w24_5)) ((w24_6)) ((y24_0_4))) ((y24_0_5))) (tgE ((w5)) (((x42_3 + (v49 + v50)))) (sqd ((w24_4)) ((w24_5)) ((w24_6)) (((x42_4 + 1))) ((y24_0_4))) ((y24_0_5))) by assumption) rfl
abbrev V193_Row_Row : vV := [(0, 10, [(4, 0), (4, 0), (4, 0), (4, 0), (0, 0), (4, 0), (0, 0), (2, 0), (0, 0)]), (0, 7, [(4, 0), (0, 0), (1, 0), (0, 0), (0, 0)]), (0, 7, [(4, 0), (0, 0), (1, 0), (0, 0), (0, 0)]), (1, 0, []), (1, 0, []), (0, 5, [(4, 0), (4, 0), (4, 0), (4, 0), (0, 0), (0, 0), (0, 0), (4, 0), (4, 0), (0, 0), (0, 0), (0, 0), (0, 0), (0, 0), (0, 0), (0, 0), (0, 0), (0, 0), (0, 0)]), (0, 7, [(4, 0), (0, 0), (1, 0), (0, 0), (0, 0)]), (1, 0, []), (1, 1, []), (1, 1, []), (1, 1, []), (1, 1, []), (1, 1, []), (1, 1, [])]
theorem len_V193_Row_Row_oz_D3cls : (V193_Row_Row).length = 14 := by decide +kernel
theorem oz_D3cls_47 : vsub V193_Row_Row V158_Row [6, 2, 7, 4] = true := by decide +kernel
theorem oz_D3cls_48 : vmov V193_Row_Row [6, 2, 7, 4] [2] = true := by decide +kernel
theorem oz_D3cls_49 : vsub V193_Row_Row V121 [5, 9] = true := by decide +kernel
theorem oz_D3cls_50 : vmov V193_Row_Row [5, 9] [1] = true := by decide +kernel
theorem oz_D3cls_51 : vsub V193_Row_Row V194_Row [0, 1, 3, 5, 6, 7, 10, 9, 11, 12, 13] = true := by decide +kernel
theorem oz_D3cls_52 : vmov V193_Row_Row [0, 1, 3, 5, 6, 7, 10, 9, 11, 12, 13] [2, 6, 8, 9, 10] = true := by decide +kernel
def oz_D3clsl_15 : List (Nat × Nat) := [(1, 0), (1, 1), (1, 2), (5, 1), (5, 2), (5, 3), (5, 4), (5, 5), (5, 6), (5, 7), (5, 8), (5, 9), (5, 10), (5, 11), (5, 12), (5, 13), (5, 14), (5, 15), (5, 16), (5, 17), (5, 18), (6, 0), (6, 1), (6, 2), (6, 3), (6, 4)]
theorem oz_D3cls_53 : (oz_D3clsl_15).all (fun p => !tbz 194590920041834533348676845456543864388332262108664361385984 (Nat.add (Nat.mul 32 p.1) p.2)) = true := by decide +kernel
def oz_D3clsl_16 : List Nat := [3, 7, 9, 10, 11, 12, 13]
theorem oz_D3cls_54 : (oz_D3clsl_16).all (fun p => !tbz 16008 p) = true := by decide +kernel
def oz_D3clsl_17 : List Nat := [6, 2, 7, 4]
theorem oz_D3cls_55 : okc oz_D3clsl_17 538706950 = true := by decide +kernel
def oz_D3clsl_18 : List Nat := [5, 9]
theorem oz_D3cls_56 : okc oz_D3clsl_18 4613 = true := by decide +kernel
def oz_D3clsl_19 : List Nat := [0, 1, 3, 5, 6, 7, 10, 9, 11, 12, 13]
theorem oz_D3cls_57 : okc oz_D3clsl_19 16122286759602745260360073728 = true := by decide +kernel

theorem C193_Row_Row {σE : rS} {D N : Nat → Nat} {F : hF} {A : hA} {d c s : Nat} {Q : wQ} (H : HW V193_Row_Row σE D N F A)  (pf3 : F 1 0 = (D 3 : Int)) (pf4 : F 2 0 = (D 4 : Int)) (pf5 : F 0 1 = (D 5 : Int)) (pf6 : F 5 0 = (D 6 : Int)) (pf7 : F 6 0 = (D 7 : Int)) (pf8 : F 0 0 = (D 8 : Int)) (pf9 : F 5 7 = (D 9 : Int)) (pf10 : F 5 8 = (D 10 : Int)) (pf11 : F 5 1 = (D 11 : Int)) (pf12 : F 5 2 = (D 12 : Int)) (pf13 : F 5 3 = (D 13 : Int)) (n3 : Int) (en3 : (N 3 : Int) = n3) (n4 : Int) (en4 : (N 4 : Int) = n4) (n7 : Int) (en7 : (N 7 : Int) = n7) (n8 : Int) (en8 : (N 8 : Int) = n8) (n9 : Int) (en9 : (N 9 : Int) = n9) (n10 : Int) (en10 : (N 10 : Int) = n10) (n11 : Int) (en11 : (N 11 : Int) = n11) (n12 : Int) (en12 : (N 12 : Int) = n12) (n13 : Int) (en13 : (N 13 : Int) = n13) (u1_1 : Int) (eu1_1 : F 1 1 = u1_1) (u1_2 : Int) (eu1_2 : F 1 2 = u1_2) (u2_1 : Int) (eu2_1 : F 2 1 = u2_1) (u6_1 : Int) (eu6_1 : F 6 1 = u6_1) (w3 : Int → Int) (ew3 : A 3 = w3) (w4 : Int → Int) (ew4 : A 4 = w4) (w8 : Int → Int) (ew8 : A 8 = w8) (h0 : 0 ≤ (u1_1) ∧ (u1_1) ≤ (n3) ∧ (n3) ≤ 65536) (h1 : 0 ≤ (u2_1) ∧ (u2_1) ≤ (n4) ∧ (n4) ≤ 65536) (h2 : 0 ≤ (u6_1) ∧ (u6_1) ≤ (n7) ∧ (n7) ≤ 65536) (h3 : (n8) = 10) (h4 : (u2_1) ≤ 16384) (h5 : (n9) = 0 ∨ (n9) = 2048) (h6 : (n10) ≤ 16384) (h7 : (n11) = (n12) ∧ (n13) = (n12) ∧ (n12) ≤ 65536 ∧ ((n12) = 0 ∨ 64 ≤ (n12)) ∧ lgq ((n12)) = 0) (k : ∀ (σ : rS) (Dₚ Nₚ : Nat → Nat) (Fₚ : hF) (Aₚ : hA) (cₚ sₚ : Nat), HW V193_Row_Row σ Dₚ Nₚ Fₚ Aₚ → OUT (V193_Row_Row).length D N σE c s Dₚ Nₚ σ cₚ sₚ → SD [3, 7, 9, 10, 11, 12, 13] D Dₚ → SD [3, 7, 9, 10, 11, 12, 13] N Nₚ → SF [(1, 0), (1, 1), (1, 2), (5, 1), (5, 2), (5, 3), (5, 4), (5, 5), (5, 6), (5, 7), (5, 8), (5, 9), (5, 10), (5, 11), (5, 12), (5, 13), (5, 14), (5, 15), (5, 16), (5, 17), (5, 18), (6, 0), (6, 1), (6, 2), (6, 3), (6, 4)] F Fₚ → SA [3, 7, 9, 10, 11, 12, 13] A Aₚ → Fₚ 1 0 = (Dₚ 3 : Int) → Fₚ 6 0 = (Dₚ 7 : Int) → Fₚ 5 7 = (Dₚ 9 : Int) → Fₚ 5 8 = (Dₚ 10 : Int) → Fₚ 5 1 = (Dₚ 11 : Int) → Fₚ 5 2 = (Dₚ 12 : Int) → Fₚ 5 3 = (Dₚ 13 : Int) → ∀ m3 : Int, (Nₚ 3 : Int) = m3 → ∀ m7 : Int, (Nₚ 7 : Int) = m7 → ∀ m9 : Int, (Nₚ 9 : Int) = m9 → ∀ m10 : Int, (Nₚ 10 : Int) = m10 → ∀ m11 : Int, (Nₚ 11 : Int) = m11 → ∀ m12 : Int, (Nₚ 12 : Int) = m12 → ∀ m13 : Int, (Nₚ 13 : Int) = m13 → ∀ y1_1 : Int, Fₚ 1 1 = y1_1 → ∀ y1_2 : Int, Fₚ 1 2 = y1_2 → ∀ y6_1 : Int, Fₚ 6 1 = y6_1 → ∀ v3 : Int → Int, Aₚ 3 = v3 → (0 ≤ (y1_1) ∧ (y1_1) ≤ (m3) ∧ (m3) ≤ 65536) → (0 ≤ (y6_1) ∧ (y6_1) ≤ (m7) ∧ (m7) ≤ 65536) → ((m9) = 0 ∨ (m9) = 2048) → ((m10) ≤ 16384) → ((m11) = (m12) ∧ (m13) = (m12) ∧ (m12) ≤ 65536 ∧ ((m12) = 0 ∨ 64 ≤ (m12)) ∧ lgq ((m12)) = 0) → (PKG (((w8)) 0) (sc ((w4)) 0 ((u2_1))) ((u1_2)) ((w3)) ((u1_1)) ((y1_2)) ((v3)) ((y1_1))) → Q none σ cₚ sₚ) : Ew 193 (d + 5) 0 (rargs 0 [.ref (D 0), .ref (D 1), .ref (D 2)]) [] σE c s Q := by
  have O := OUT_refl (n := (V193_Row_Row).length) (D := D) (N := N) (σ := σE) (c := c) (s := s)
  have HE := H
  have r1 : (-2147483648 : Int) ≤ u1_1 ∧ u1_1 ≤ 2147483647 := rngE (show (-2147483648 : Int) ≤ F 1 1 ∧ F 1 1 ≤ 2147483647 from H.krg 1 1 (ltn len_V193_Row_Row_oz_D3cls rfl)) (show F 1 1 = u1_1 from (eu1_1))
  have r2 : (0 : Int) ≤ u1_2 ∧ u1_2 ≤ 1 := rngE (show (0 : Int) ≤ F 1 2 ∧ F 1 2 ≤ 1 from H.krg 1 2 (ltn len_V193_Row_Row_oz_D3cls rfl)) (show F 1 2 = u1_2 from (eu1_2))
  have r3 : (-2147483648 : Int) ≤ u2_1 ∧ u2_1 ≤ 2147483647 := rngE (show (-2147483648 : Int) ≤ F 2 1 ∧ F 2 1 ≤ 2147483647 from H.krg 2 1 (ltn len_V193_Row_Row_oz_D3cls rfl)) (show F 2 1 = u2_1 from (eu2_1))
  have r4 : (-2147483648 : Int) ≤ u6_1 ∧ u6_1 ≤ 2147483647 := rngE (show (-2147483648 : Int) ≤ F 6 1 ∧ F 6 1 ≤ 2147483647 from H.krg 6 1 (ltn len_V193_Row_Row_oz_D3cls rfl)) (show F 6 1 = u6_1 from (eu6_1))
  have r5 : (0 : Int) ≤ n3 ∧ n3 ≤ 1000000 := nleE (H.nle 3 (ltn len_V193_Row_Row_oz_D3cls rfl)) (show (N 3 : Int) = n3 from en3)
  have r6 : (0 : Int) ≤ n4 ∧ n4 ≤ 1000000 := nleE (H.nle 4 (ltn len_V193_Row_Row_oz_D3cls rfl)) (show (N 4 : Int) = n4 from en4)
  have r7 : (0 : Int) ≤ n7 ∧ n7 ≤ 1000000 := nleE (H.nle 7 (ltn len_V193_Row_Row_oz_D3cls rfl)) (show (N 7 : Int) = n7 from en7)
  have r8 : (0 : Int) ≤ n8 ∧ n8 ≤ 1000000 := nleE (H.nle 8 (ltn len_V193_Row_Row_oz_D3cls rfl)) (show (N 8 : Int) = n8 from en8)
  have r9 : (0 : Int) ≤ n9 ∧ n9 ≤ 1000000 := nleE (H.nle 9 (ltn len_V193_Row_Row_oz_D3cls rfl)) (show (N 9 : Int) = n9 from en9)
  have r10 : (0 : Int) ≤ n10 ∧ n10 ≤ 1000000 := nleE (H.nle 10 (ltn len_V193_Row_Row_oz_D3cls rfl)) (show (N 10 : Int) = n10 from en10)
  have r11 : (0 : Int) ≤ n11 ∧ n11 ≤ 1000000 := nleE (H.nle 11 (ltn len_V193_Row_Row_oz_D3cls rfl)) (show (N 11 : Int) = n11 from en11)
  have r12 : (0 : Int) ≤ n12 ∧ n12 ≤ 1000000 := nleE (H.nle 12 (ltn len_V193_Row_Row_oz_D3cls rfl)) (show (N 12 : Int) = n12 from en12)
  have r13 : (0 : Int) ≤ n13 ∧ n13 ≤ 1000000 := nleE (H.nle 13 (ltn len_V193_Row_Row_oz_D3cls rfl)) (show (N 13 : Int) = n13 from en13)
  refine Ew_of (pcₚ := 1) (fun _ => x_aload_n rfl rfl) ?_
  refine v_g H (o := 0) (v := .ref (D 5)) rfl rfl rfl rfl rfl (vrf (pf5)) ?_
  refine v_g H (o := 5) (v := .ref (D 6)) rfl rfl rfl rfl rfl (vrf (pf6)) ?_
  refine Ew_of (pcₚ := 8) (fun _ => x_aload_n rfl rfl) ?_
  have r14 : (0 : Int) ≤ F 6 2 ∧ F 6 2 ≤ 1 := H.krg 6 2 (ltn len_V193_Row_Row_oz_D3cls rfl)
  refine v_inv H (o := 6) rfl rfl rfl rfl rfl rfl (by rfl) (C158_Row (D := puc 538706950 D) (N := puc 538706950 N) (HW_subc H oz_D3cls_47 oz_D3cls_55) (pf7) (pf4) (n7) (en7) (n4) (en4) (u6_1) ((eu6_1)) (F 6 2) (rfl) (u2_1) ((eu2_1)) (A 7) (rfl) (w4) (ew4) (show 0 ≤ (u6_1) ∧ (u6_1) ≤ (n7) ∧ (n7) ≤ 65536 from h2) (show 0 ≤ (u2_1) ∧ (u2_1) ≤ (n4) ∧ (n4) ≤ 65536 from h1) (fun σ15 D15ₚ N15ₚ F15ₚ A15ₚ c15 s15 Hₚ Oₚ hD15 hN15 hS15 hA15 pm15_2 m15_2 em15_2 y15_0_1 ey15_0_1 y15_0_2 ey15_0_2 w15_2 ew15_2 pz15_0 pz15_1 pz15_2 pz15_3 => ⟨rfl, ?_⟩))
  refine v_backMc (c := c) (s := s) H oz_D3cls_47 oz_D3cls_55 Hₚ Oₚ hD15 oz_D3cls_48 (fun D15 N15 F15 A15 H Oₚ eD15 eN15 eF15 eA15 => ?_)
  have O := OUT_trans O Oₚ
  -- Row.become
  have cF15 : SF oz_D3clsl_15 F F15 := SF_trans (SF_refl) (SF_gluc (ι := oz_D3clsl_17) oz_D3cls_55 hS15 eF15 (by decide +kernel)) (any_sub (lₚ := [(6, 0), (6, 1), (6, 2), (6, 3), (6, 4)]) (by decide +kernel))
  have mF15 := SFm_of cF15 oz_D3cls_53
  have cA15 : SA oz_D3clsl_16 A A15 := SA_trans (SA_refl) (SA_gluc (ι := oz_D3clsl_17) oz_D3cls_55 hA15 eA15 (by decide +kernel)) (any_subA (lₚ := [7]) (by decide +kernel))
  have mA15 := SAm_of cA15 oz_D3cls_54
  have cD15 : SD oz_D3clsl_16 D D15 := SD_trans (SD_refl) (SD_gluc (ι := oz_D3clsl_17) oz_D3cls_55 hD15 eD15 (by decide +kernel)) (any_subA (lₚ := [7]) (by decide +kernel))
  have mD15 := SDm_of cD15 oz_D3cls_54
  have cN15 : SD oz_D3clsl_16 N N15 := SD_trans (SD_refl) (SD_gluc (ι := oz_D3clsl_17) oz_D3cls_55 hN15 eN15 (by decide +kernel)) (any_subA (lₚ := [7]) (by decide +kernel))
  have mN15 := SDm_of cN15 oz_D3cls_54
  have pf15_1_0 : F15 1 0 = (D15 3 : Int) := ((show F15 1 0 = F 1 0 from (eF15 1 0))).trans ((pf3).trans (congrArg (fun q : Nat => (q : Int)) ((show D15 3 = D 3 from (eD15 3))).symm))
  have pf15_5_1 : F15 5 1 = (D15 11 : Int) := ((show F15 5 1 = F 5 1 from (eF15 5 1))).trans ((pf11).trans (congrArg (fun q : Nat => (q : Int)) ((show D15 11 = D 11 from (eD15 11))).symm))
  have pf15_5_2 : F15 5 2 = (D15 12 : Int) := ((show F15 5 2 = F 5 2 from (eF15 5 2))).trans ((pf12).trans (congrArg (fun q : Nat => (q : Int)) ((show D15 12 = D 12 from (eD15 12))).symm))
  have pf15_5_3 : F15 5 3 = (D15 13 : Int) := ((show F15 5 3 = F 5 3 from (eF15 5 3))).trans ((pf13).trans (congrArg (fun q : Nat => (q : Int)) ((show D15 13 = D 13 from (eD15 13))).symm))
  have pf15_5_7 : F15 5 7 = (D15 9 : Int) := ((show F15 5 7 = F 5 7 from (eF15 5 7))).trans ((pf9).trans (congrArg (fun q : Nat => (q : Int)) ((show D15 9 = D 9 from (eD15 9))).symm))
  have pf15_5_8 : F15 5 8 = (D15 10 : Int) := ((show F15 5 8 = F 5 8 from (eF15 5 8))).trans ((pf10).trans (congrArg (fun q : Nat => (q : Int)) ((show D15 10 = D 10 from (eD15 10))).symm))
  have pf15_6_0 : F15 6 0 = (D15 7 : Int) := (eF15 6 0).trans (pm15_2.trans (congrArg (fun q : Nat => (q : Int)) (eD15 7).symm))
  have r16 : (0 : Int) ≤ m15_2 ∧ m15_2 ≤ 1000000 := nleE (H.nle 7 (ltn len_V193_Row_Row_oz_D3cls rfl)) (show (N15 7 : Int) = m15_2 from (congrArg (fun q : Nat => (q : Int)) (eN15 7)).trans em15_2)
  have r17 : (-2147483648 : Int) ≤ y15_0_1 ∧ y15_0_1 ≤ 2147483647 := rngE (show (-2147483648 : Int) ≤ F15 6 1 ∧ F15 6 1 ≤ 2147483647 from H.krg 6 1 (ltn len_V193_Row_Row_oz_D3cls rfl)) (show F15 6 1 = y15_0_1 from ((eF15 6 1).trans ey15_0_1))
  have r18 : (0 : Int) ≤ y15_0_2 ∧ y15_0_2 ≤ 1 := rngE (show (0 : Int) ≤ F15 6 2 ∧ F15 6 2 ≤ 1 from H.krg 6 2 (ltn len_V193_Row_Row_oz_D3cls rfl)) (show F15 6 2 = y15_0_2 from ((eF15 6 2).trans ey15_0_2))
  have hbe := pz15_3
  refine Ew_of (pcₚ := 12) (fun _ => x_aload_n rfl rfl) ?_
  refine Ew_stk (congrArg (fun qz : Nat => ([.ref qz] : List Value)) (show D15 0 = D 0 from mD15 0 rfl).symm) ?_
  refine v_g H (o := 0) (v := .ref (D15 5)) rfl rfl rfl rfl rfl (vrf ((mF15 0 1 rfl).trans ((pf5).trans (congrArg (fun q : Nat => (q : Int)) (mD15 5 rfl).symm)))) ?_
  refine Ew_of (pcₚ := 16) (fun _ => x_aload_n rfl rfl) ?_
  refine Ew_stk (congrArg (fun qz : Nat => ([.ref qz, .ref (D15 5)] : List Value)) (show D15 0 = D 0 from mD15 0 rfl).symm) ?_
  refine v_g H (o := 0) (v := .ref (D15 8)) rfl rfl rfl rfl rfl (vrf ((mF15 0 0 rfl).trans ((pf8).trans (congrArg (fun q : Nat => (q : Int)) (mD15 8 rfl).symm)))) ?_
  refine Ew_of (pcₚ := 20) (fun _ => x_iconst rfl) ?_
  refine v_lI H (o := 8) rfl rfl rfl rfl (n := n8) ((congrArg (fun q : Nat => (q : Int)) (mN15 8 rfl)).trans (en8)) (show 0 ≤ 0 ∧ 0 < n8 from q_3083 h3 r8) (fun v19 ev19 qv19 => ?_)
  have ev19 : (w8) (0) = v19 := (congrFun ((funext (mA15 8 rfl)).trans (ew8)) (0)).symm.trans ev19
  have hway := ev19
  refine Ew_of (pcₚ := 22) (fun _ => x_iconst rfl) ?_
  refine Ew_of (pcₚ := 24) (fun _ => x_ldc (z := 65535) rfl (by decide)) ?_
  have r20 : (-2147483648 : Int) ≤ F 5 6 ∧ F 5 6 ≤ 2147483647 := rngE (show (-2147483648 : Int) ≤ F15 5 6 ∧ F15 5 6 ≤ 2147483647 from H.krg 5 6 (ltn len_V193_Row_Row_oz_D3cls rfl)) (show F15 5 6 = F 5 6 from ((show F15 5 6 = F 5 6 from (eF15 5 6))))
  have r21 : (-2147483648 : Int) ≤ F 5 9 ∧ F 5 9 ≤ 2147483647 := rngE (show (-2147483648 : Int) ≤ F15 5 9 ∧ F15 5 9 ≤ 2147483647 from H.krg 5 9 (ltn len_V193_Row_Row_oz_D3cls rfl)) (show F15 5 9 = F 5 9 from ((show F15 5 9 = F 5 9 from (eF15 5 9))))
  have r22 : (-2147483648 : Int) ≤ F 5 10 ∧ F 5 10 ≤ 2147483647 := rngE (show (-2147483648 : Int) ≤ F15 5 10 ∧ F15 5 10 ≤ 2147483647 from H.krg 5 10 (ltn len_V193_Row_Row_oz_D3cls rfl)) (show F15 5 10 = F 5 10 from ((show F15 5 10 = F 5 10 from (eF15 5 10))))
  have r23 : (-2147483648 : Int) ≤ F 5 11 ∧ F 5 11 ≤ 2147483647 := rngE (show (-2147483648 : Int) ≤ F15 5 11 ∧ F15 5 11 ≤ 2147483647 from H.krg 5 11 (ltn len_V193_Row_Row_oz_D3cls rfl)) (show F15 5 11 = F 5 11 from ((show F15 5 11 = F 5 11 from (eF15 5 11))))
  refine v_inv H (o := 5) rfl rfl rfl rfl rfl rfl (by rfl) (C121 (D := puc 4613 D15) (N := puc 4613 N15) (HW_subc H oz_D3cls_49 oz_D3cls_56) (pf15_5_7) (n9) ((congrArg (fun q : Nat => (q : Int)) (show N15 9 = N 9 from (eN15 9))).trans (en9)) (F 5 6) (((show F15 5 6 = F 5 6 from (eF15 5 6)))) (F 5 9) (((show F15 5 9 = F 5 9 from (eF15 5 9)))) (F 5 10) (((show F15 5 10 = F 5 10 from (eF15 5 10)))) (F 5 11) (((show F15 5 11 = F 5 11 from (eF15 5 11)))) (A 9) ((show A15 9 = A 9 from (eA15 9))) (show inr (v19) from qv19) (show inr (4) from q_216) (show inr (65535) from q_422) (show (n9) = 0 ∨ (n9) = 2048 from h5) (fun σ24 D24ₚ N24ₚ F24ₚ A24ₚ c24 s24 Hₚ Oₚ hD24 hN24 hS24 hA24 pm24_1 m24_1 em24_1 y24_0_6 ey24_0_6 y24_0_9 ey24_0_9 y24_0_10 ey24_0_10 y24_0_11 ey24_0_11 w24_1 ew24_1 pz24_0 pz24_1 pz24_2 pz24_3 => ⟨rfl, ?_⟩))
  refine v_backMc (c := (c + c15)) (s := (s + s15)) H oz_D3cls_49 oz_D3cls_56 Hₚ Oₚ hD24 oz_D3cls_50 (fun D24 N24 F24 A24 H Oₚ eD24 eN24 eF24 eA24 => ?_)
  have O := OUT_trans O Oₚ
  -- Finder.begin
  have cF24 : SF oz_D3clsl_15 F F24 := SF_trans (cF15) (SF_gluc (ι := oz_D3clsl_18) oz_D3cls_56 hS24 eF24 (by decide +kernel)) (any_sub (lₚ := [(5, 6), (5, 7), (5, 9), (5, 10), (5, 11)]) (by decide +kernel))
  have mF24 := SFm_of cF24 oz_D3cls_53
  have cA24 : SA oz_D3clsl_16 A A24 := SA_trans (cA15) (SA_gluc (ι := oz_D3clsl_18) oz_D3cls_56 hA24 eA24 (by decide +kernel)) (any_subA (lₚ := [9]) (by decide +kernel))
  have mA24 := SAm_of cA24 oz_D3cls_54
  have cD24 : SD oz_D3clsl_16 D D24 := SD_trans (cD15) (SD_gluc (ι := oz_D3clsl_18) oz_D3cls_56 hD24 eD24 (by decide +kernel)) (any_subA (lₚ := [9]) (by decide +kernel))
  have mD24 := SDm_of cD24 oz_D3cls_54
  have cN24 : SD oz_D3clsl_16 N N24 := SD_trans (cN15) (SD_gluc (ι := oz_D3clsl_18) oz_D3cls_56 hN24 eN24 (by decide +kernel)) (any_subA (lₚ := [9]) (by decide +kernel))
  have mN24 := SDm_of cN24 oz_D3cls_54
  have pf24_1_0 : F24 1 0 = (D24 3 : Int) := ((show F24 1 0 = F15 1 0 from (eF24 1 0))).trans ((pf15_1_0).trans (congrArg (fun q : Nat => (q : Int)) ((show D24 3 = D15 3 from (eD24 3))).symm))
  have pf24_5_1 : F24 5 1 = (D24 11 : Int) := ((show F24 5 1 = F15 5 1 from (eF24 5 1).trans (hS24 0 1 rfl))).trans ((pf15_5_1).trans (congrArg (fun q : Nat => (q : Int)) ((show D24 11 = D15 11 from (eD24 11))).symm))
  have pf24_5_2 : F24 5 2 = (D24 12 : Int) := ((show F24 5 2 = F15 5 2 from (eF24 5 2).trans (hS24 0 2 rfl))).trans ((pf15_5_2).trans (congrArg (fun q : Nat => (q : Int)) ((show D24 12 = D15 12 from (eD24 12))).symm))
  have pf24_5_3 : F24 5 3 = (D24 13 : Int) := ((show F24 5 3 = F15 5 3 from (eF24 5 3).trans (hS24 0 3 rfl))).trans ((pf15_5_3).trans (congrArg (fun q : Nat => (q : Int)) ((show D24 13 = D15 13 from (eD24 13))).symm))
  have pf24_5_7 : F24 5 7 = (D24 9 : Int) := (eF24 5 7).trans (pm24_1.trans (congrArg (fun q : Nat => (q : Int)) (eD24 9).symm))
  have pf24_5_8 : F24 5 8 = (D24 10 : Int) := ((show F24 5 8 = F15 5 8 from (eF24 5 8).trans (hS24 0 8 rfl))).trans ((pf15_5_8).trans (congrArg (fun q : Nat => (q : Int)) ((show D24 10 = D15 10 from (eD24 10))).symm))
  have pf24_6_0 : F24 6 0 = (D24 7 : Int) := ((show F24 6 0 = F15 6 0 from (eF24 6 0))).trans ((pf15_6_0).trans (congrArg (fun q : Nat => (q : Int)) ((show D24 7 = D15 7 from (eD24 7))).symm))
  have r25 : (0 : Int) ≤ m24_1 ∧ m24_1 ≤ 1000000 := nleE (H.nle 9 (ltn len_V193_Row_Row_oz_D3cls rfl)) (show (N24 9 : Int) = m24_1 from (congrArg (fun q : Nat => (q : Int)) (eN24 9)).trans em24_1)
  have r26 : (-2147483648 : Int) ≤ y24_0_6 ∧ y24_0_6 ≤ 2147483647 := rngE (show (-2147483648 : Int) ≤ F24 5 6 ∧ F24 5 6 ≤ 2147483647 from H.krg 5 6 (ltn len_V193_Row_Row_oz_D3cls rfl)) (show F24 5 6 = y24_0_6 from ((eF24 5 6).trans ey24_0_6))
  have r27 : (-2147483648 : Int) ≤ y24_0_9 ∧ y24_0_9 ≤ 2147483647 := rngE (show (-2147483648 : Int) ≤ F24 5 9 ∧ F24 5 9 ≤ 2147483647 from H.krg 5 9 (ltn len_V193_Row_Row_oz_D3cls rfl)) (show F24 5 9 = y24_0_9 from ((eF24 5 9).trans ey24_0_9))
  have r28 : (-2147483648 : Int) ≤ y24_0_10 ∧ y24_0_10 ≤ 2147483647 := rngE (show (-2147483648 : Int) ≤ F24 5 10 ∧ F24 5 10 ≤ 2147483647 from H.krg 5 10 (ltn len_V193_Row_Row_oz_D3cls rfl)) (show F24 5 10 = y24_0_10 from ((eF24 5 10).trans ey24_0_10))
  have r29 : (-2147483648 : Int) ≤ y24_0_11 ∧ y24_0_11 ≤ 2147483647 := rngE (show (-2147483648 : Int) ≤ F24 5 11 ∧ F24 5 11 ≤ 2147483647 from H.krg 5 11 (ltn len_V193_Row_Row_oz_D3cls rfl)) (show F24 5 11 = y24_0_11 from ((eF24 5 11).trans ey24_0_11))
  have hb0 : BKI ((w15_2)) ((A 10)) ((y24_0_10)) ((y24_0_6)) := by rw [pz24_1]; exact BKI_0
  have hh0 : HDI ((w15_2)) ((w24_1)) ((y24_0_10)) ((y24_0_6)) := by rw [pz24_1]; exact HDI_0 pz24_3
  refine Ew_of (pcₚ := 28) (fun _ => x_aload_n rfl rfl) ?_
  refine Ew_of (pcₚ := 29) (fun _ => x_aload_n rfl rfl) ?_
  refine Ew_stk (show ([.ref (D 1), .ref (D 0)] : List Value) = [.ref (D24 1), .ref (D24 0)] by rw [show D24 0 = D 0 from mD24 0 rfl, show D24 1 = D 1 from mD24 1 rfl]) ?_
  refine v_inv H (o := 0) rfl rfl rfl rfl rfl rfl (by rfl) (C194_Row (D := puc 16122286759602745260360073728 D24) (N := puc 16122286759602745260360073728 N24) (HW_subc H oz_D3cls_51 oz_D3cls_57) (pf24_1_0) ((mF24 0 1 rfl).trans ((pf5).trans (congrArg (fun q : Nat => (q : Int)) (mD24 5 rfl).symm))) ((mF24 5 0 rfl).trans ((pf6).trans (congrArg (fun q : Nat => (q : Int)) (mD24 6 rfl).symm))) (pf24_6_0) (pf24_5_8) (pf24_5_7) (pf24_5_1) (pf24_5_2) (pf24_5_3) (n3) ((congrArg (fun q : Nat => (q : Int)) (show N24 3 = N15 3 from (eN24 3))).trans ((congrArg (fun q : Nat => (q : Int)) (show N15 3 = N 3 from (eN15 3))).trans (en3))) (m15_2) ((congrArg (fun q : Nat => (q : Int)) (show N24 7 = N15 7 from (eN24 7))).trans ((congrArg (fun q : Nat => (q : Int)) (eN15 7)).trans em15_2)) (n10) ((congrArg (fun q : Nat => (q : Int)) (show N24 10 = N15 10 from (eN24 10))).trans ((congrArg (fun q : Nat => (q : Int)) (show N15 10 = N 10 from (eN15 10))).trans (en10))) (m24_1) ((congrArg (fun q : Nat => (q : Int)) (eN24 9)).trans em24_1) (n11) ((congrArg (fun q : Nat => (q : Int)) (show N24 11 = N15 11 from (eN24 11))).trans ((congrArg (fun q : Nat => (q : Int)) (show N15 11 = N 11 from (eN15 11))).trans (en11))) (n12) ((congrArg (fun q : Nat => (q : Int)) (show N24 12 = N15 12 from (eN24 12))).trans ((congrArg (fun q : Nat => (q : Int)) (show N15 12 = N 12 from (eN15 12))).trans (en12))) (n13) ((congrArg (fun q : Nat => (q : Int)) (show N24 13 = N15 13 from (eN24 13))).trans ((congrArg (fun q : Nat => (q : Int)) (show N15 13 = N 13 from (eN15 13))).trans (en13))) (u1_1) (((((show F24 1 1 = F15 1 1 from (eF24 1 1))).trans ((show F15 1 1 = F 1 1 from (eF15 1 1)))).trans (eu1_1))) (u1_2) (((((show F24 1 2 = F15 1 2 from (eF24 1 2))).trans ((show F15 1 2 = F 1 2 from (eF15 1 2)))).trans (eu1_2))) (y24_0_6) (((eF24 5 6).trans ey24_0_6)) (y24_0_9) (((eF24 5 9).trans ey24_0_9)) (y24_0_10) (((eF24 5 10).trans ey24_0_10)) (y24_0_11) (((eF24 5 11).trans ey24_0_11)) (y15_0_1) ((((show F24 6 1 = F15 6 1 from (eF24 6 1))).trans ((eF15 6 1).trans ey15_0_1))) (w3) (((show A24 3 = A15 3 from (eA24 3))).trans (((show A15 3 = A 3 from (eA15 3))).trans (ew3))) (w15_2) (((show A24 7 = A15 7 from (eA24 7))).trans ((eA15 7).trans ew15_2)) (A 10) (((show A24 10 = A15 10 from (eA24 10))).trans ((show A15 10 = A 10 from (eA15 10)))) (w24_1) ((eA24 9).trans ew24_1) (show 0 ≤ (u1_1) ∧ (u1_1) ≤ (n3) ∧ (n3) ≤ 65536 from h0) (show 0 ≤ (y15_0_1) ∧ (y15_0_1) ≤ (m15_2) ∧ (m15_2) ≤ 65536 ∧ (y15_0_1) ≤ 16384 from q_3194 h4 pz15_0 pz15_1) (show (y24_0_10) = 4 from q_3087 pz24_2) (hb0) (hh0) (show (n11) = (n12) ∧ (n13) = (n12) ∧ (n12) ≤ 65536 ∧ ((n12) = 0 ∨ 64 ≤ (n12)) ∧ lgq ((n12)) = 0 from h7) (show (m24_1) = 2048 from pz24_0) (show 0 ≤ (y24_0_6) ∧ (y24_0_6) ≤ (n10) ∧ (n10) ≤ 16384 from q_3085 h6 pz24_1 r10) (show (y24_0_11) = 65535 from q_3084 pz24_2) (fun σ30 D30ₚ N30ₚ F30ₚ A30ₚ c30 s30 Hₚ Oₚ hD30 hN30 hS30 hA30 pm30_2 pm30_6 pm30_8 pm30_9 pm30_10 m30_2 em30_2 m30_6 em30_6 m30_8 em30_8 m30_9 em30_9 m30_10 em30_10 y30_1_1 ey30_1_1 y30_1_2 ey30_1_2 y30_3_6 ey30_3_6 w30_2 ew30_2 w30_6 ew30_6 w30_7 ew30_7 pz30_0 pz30_1 pz30_2 pz30_3 pz30_4 pz30_5 pz30_6 => ⟨rfl, ?_⟩))
  refine v_backMc (c := ((c + c15) + c24)) (s := ((s + s15) + s24)) H oz_D3cls_51 oz_D3cls_57 Hₚ Oₚ hD30 oz_D3cls_52 (fun D30 N30 F30 A30 H Oₚ eD30 eN30 eF30 eA30 => ?_)
  have O := OUT_trans O Oₚ
  -- Tags.packBlock
  have cF30 : SF oz_D3clsl_15 F F30 := SF_trans (cF24) (SF_gluc (ι := oz_D3clsl_19) oz_D3cls_57 hS30 eF30 (by decide +kernel)) (any_sub (lₚ := [(1, 0), (1, 1), (1, 2), (5, 1), (5, 2), (5, 3), (5, 4), (5, 5), (5, 6), (5, 8), (5, 12), (5, 13), (5, 14), (5, 15), (5, 16), (5, 17), (5, 18)]) (by decide +kernel))
  have mF30 := SFm_of cF30 oz_D3cls_53
  have cA30 : SA oz_D3clsl_16 A A30 := SA_trans (cA24) (SA_gluc (ι := oz_D3clsl_19) oz_D3cls_57 hA30 eA30 (by decide +kernel)) (any_subA (lₚ := [3, 9, 10, 11, 12, 13]) (by decide +kernel))
  have mA30 := SAm_of cA30 oz_D3cls_54
  have cD30 : SD oz_D3clsl_16 D D30 := SD_trans (cD24) (SD_gluc (ι := oz_D3clsl_19) oz_D3cls_57 hD30 eD30 (by decide +kernel)) (any_subA (lₚ := [3, 10, 11, 12, 13]) (by decide +kernel))
  have mD30 := SDm_of cD30 oz_D3cls_54
  have cN30 : SD oz_D3clsl_16 N N30 := SD_trans (cN24) (SD_gluc (ι := oz_D3clsl_19) oz_D3cls_57 hN30 eN30 (by decide +kernel)) (any_subA (lₚ := [3, 10, 11, 12, 13]) (by decide +kernel))
  have mN30 := SDm_of cN30 oz_D3cls_54
  have pf30_1_0 : F30 1 0 = (D30 3 : Int) := (eF30 1 0).trans (pm30_2.trans (congrArg (fun q : Nat => (q : Int)) (eD30 3).symm))
  have pf30_5_1 : F30 5 1 = (D30 11 : Int) := (eF30 5 1).trans (pm30_8.trans (congrArg (fun q : Nat => (q : Int)) (eD30 11).symm))
  have pf30_5_2 : F30 5 2 = (D30 12 : Int) := (eF30 5 2).trans (pm30_9.trans (congrArg (fun q : Nat => (q : Int)) (eD30 12).symm))
  have pf30_5_3 : F30 5 3 = (D30 13 : Int) := (eF30 5 3).trans (pm30_10.trans (congrArg (fun q : Nat => (q : Int)) (eD30 13).symm))
  have pf30_5_7 : F30 5 7 = (D30 9 : Int) := ((show F30 5 7 = F24 5 7 from (eF30 5 7).trans (hS30 3 7 rfl))).trans ((pf24_5_7).trans (congrArg (fun q : Nat => (q : Int)) ((show D30 9 = D24 9 from (eD30 9).trans (hD30 7 rfl))).symm))
  have pf30_5_8 : F30 5 8 = (D30 10 : Int) := (eF30 5 8).trans (pm30_6.trans (congrArg (fun q : Nat => (q : Int)) (eD30 10).symm))
  have pf30_6_0 : F30 6 0 = (D30 7 : Int) := ((show F30 6 0 = F24 6 0 from (eF30 6 0).trans (hS30 4 0 rfl))).trans ((pf24_6_0).trans (congrArg (fun q : Nat => (q : Int)) ((show D30 7 = D24 7 from (eD30 7).trans (hD30 5 rfl))).symm))
  have r31 : (0 : Int) ≤ m30_2 ∧ m30_2 ≤ 1000000 := nleE (H.nle 3 (ltn len_V193_Row_Row_oz_D3cls rfl)) (show (N30 3 : Int) = m30_2 from (congrArg (fun q : Nat => (q : Int)) (eN30 3)).trans em30_2)
  have r32 : (0 : Int) ≤ m30_6 ∧ m30_6 ≤ 1000000 := nleE (H.nle 10 (ltn len_V193_Row_Row_oz_D3cls rfl)) (show (N30 10 : Int) = m30_6 from (congrArg (fun q : Nat => (q : Int)) (eN30 10)).trans em30_6)
  have r33 : (0 : Int) ≤ m30_8 ∧ m30_8 ≤ 1000000 := nleE (H.nle 11 (ltn len_V193_Row_Row_oz_D3cls rfl)) (show (N30 11 : Int) = m30_8 from (congrArg (fun q : Nat => (q : Int)) (eN30 11)).trans em30_8)
  have r34 : (0 : Int) ≤ m30_9 ∧ m30_9 ≤ 1000000 := nleE (H.nle 12 (ltn len_V193_Row_Row_oz_D3cls rfl)) (show (N30 12 : Int) = m30_9 from (congrArg (fun q : Nat => (q : Int)) (eN30 12)).trans em30_9)
  have r35 : (0 : Int) ≤ m30_10 ∧ m30_10 ≤ 1000000 := nleE (H.nle 13 (ltn len_V193_Row_Row_oz_D3cls rfl)) (show (N30 13 : Int) = m30_10 from (congrArg (fun q : Nat => (q : Int)) (eN30 13)).trans em30_10)
  have r36 : (-2147483648 : Int) ≤ y30_1_1 ∧ y30_1_1 ≤ 2147483647 := rngE (show (-2147483648 : Int) ≤ F30 1 1 ∧ F30 1 1 ≤ 2147483647 from H.krg 1 1 (ltn len_V193_Row_Row_oz_D3cls rfl)) (show F30 1 1 = y30_1_1 from ((eF30 1 1).trans ey30_1_1))
  have r37 : (0 : Int) ≤ y30_1_2 ∧ y30_1_2 ≤ 1 := rngE (show (0 : Int) ≤ F30 1 2 ∧ F30 1 2 ≤ 1 from H.krg 1 2 (ltn len_V193_Row_Row_oz_D3cls rfl)) (show F30 1 2 = y30_1_2 from ((eF30 1 2).trans ey30_1_2))
  have r38 : (-2147483648 : Int) ≤ y30_3_6 ∧ y30_3_6 ≤ 2147483647 := rngE (show (-2147483648 : Int) ≤ F30 5 6 ∧ F30 5 6 ≤ 2147483647 from H.krg 5 6 (ltn len_V193_Row_Row_oz_D3cls rfl)) (show F30 5 6 = y30_3_6 from ((eF30 5 6).trans ey30_3_6))
  have : PKG (((w8)) 0) (sc ((w4)) 0 ((u2_1))) ((u1_2)) ((w3)) ((u1_1)) ((y30_1_2)) ((w30_2)) ((y30_1_1)) := by have h := pz30_6; rw [hbe] at h; rw [hway, ← pz24_2.1]; exact h
  exact w_ret rfl (k _ _ _ _ _ _ _ H O (cD30) (cN30) (cF30) (cA30) (pf30_1_0) (pf30_6_0) (pf30_5_7) (pf30_5_8) (pf30_5_1) (pf30_5_2) (pf30_5_3) (m30_2) ((congrArg (fun q : Nat => (q : Int)) (eN30 3)).trans em30_2) (m15_2) ((congrArg (fun q : Nat => (q : Int)) (show N30 7 = N24 7 from (eN30 7).trans (hN30 5 rfl))).trans ((congrArg (fun q : Nat => (q : Int)) (show N24 7 = N15 7 from (eN24 7))).trans ((congrArg (fun q : Nat => (q : Int)) (eN15 7)).trans em15_2))) (m24_1) ((congrArg (fun q : Nat => (q : Int)) (show N30 9 = N24 9 from (eN30 9).trans (hN30 7 rfl))).trans ((congrArg (fun q : Nat => (q : Int)) (eN24 9)).trans em24_1)) (m30_6) ((congrArg (fun q : Nat => (q : Int)) (eN30 10)).trans em30_6) (m30_8) ((congrArg (fun q : Nat => (q : Int)) (eN30 11)).trans em30_8) (m30_9) ((congrArg (fun q : Nat => (q : Int)) (eN30 12)).trans em30_9) (m30_10) ((congrArg (fun q : Nat => (q : Int)) (eN30 13)).trans em30_10) (y30_1_1) (((eF30 1 1).trans ey30_1_1)) (y30_1_2) (((eF30 1 2).trans ey30_1_2)) (y15_0_1) (((((show F30 6 1 = F24 6 1 from (eF30 6 1).trans (hS30 4 1 rfl))).trans ((show F24 6 1 = F15 6 1 from (eF24 6 1)))).trans ((eF15 6 1).trans ey15_0_1))) (w30_2) ((eA30 3).trans ew30_2) (show 0 ≤ (y30_1_1) ∧ (y30_1_1) ≤ (m30_2) ∧ (m30_2) ≤ 65536 from pz30_0) (show 0 ≤ (y15_0_1) ∧ (y15_0_1) ≤ (m15_2) ∧ (m15_2) ≤ 65536 from pz15_0) (show (m24_1) = 0 ∨ (m24_1) = 2048 from q_3090 pz24_0) (show (m30_6) ≤ 16384 from q_3089 pz30_1) (show (m30_8) = (m30_9) ∧ (m30_10) = (m30_9) ∧ (m30_9) ≤ 65536 ∧ ((m30_9) = 0 ∨ 64 ≤ (m30_9)) ∧ lgq ((m30_9)) = 0 from pz30_2) (show PKG (((w8)) 0) (sc ((w4)) 0 ((u2_1))) ((u1_2)) ((w3)) ((u1_1)) ((y30_1_2)) ((w30_2)) ((y30_1_1)) by assumption))
abbrev V202_Row_thisfinderdataa : vV := [(0, 10, [(4, 0), (4, 0), (4, 0), (4, 0), (0, 0), (4, 0), (0, 0), (2, 0), (0, 0)]), (0, 7, [(4, 0), (0, 0), (1, 0), (0, 0), (0, 0)]), (1, 0, []), (0, 5, [(4, 0), (4, 0), (4, 0), (4, 0), (0, 0), (0, 0), (0, 0), (4, 0), (4, 0), (0, 0), (0, 0), (0, 0), (0, 0), (0, 0), (0, 0), (0, 0), (0, 0), (0, 0), (0, 0)]), (0, 7, [(4, 0), (0, 0), (1, 0), (0, 0), (0, 0)]), (1, 0, [])]
theorem len_V202_Row_thisfinderdataa_oz_D3cls : (V202_Row_thisfinderdataa).length = 6 := by decide +kernel
theorem oz_D3cls_70 : vsub V202_Row_thisfinderdataa V160 [1, 2] = true := by decide +kernel
theorem oz_D3cls_71 : vmov V202_Row_thisfinderdataa [1, 2] [1] = true := by decide +kernel
theorem oz_D3cls_72 : vsub V202_Row_thisfinderdataa V53_Br [5] = true := by decide +kernel
theorem oz_D3cls_73 : vsub V202_Row_thisfinderdataa V54 [] = true := by decide +kernel
theorem oz_D3cls_74 : vsub V202_Row_thisfinderdataa V161_Br [1, 5, 2] = true := by decide +kernel
theorem oz_D3cls_75 : vmov V202_Row_thisfinderdataa [1, 5, 2] [2] = true := by decide +kernel
def oz_D3clsl_24 : List Nat := [5]
theorem oz_D3cls_76 : okc oz_D3clsl_24 5 = true := by decide +kernel

theorem C202_Row_thisfinderdataa {σE : rS} {D N : Nat → Nat} {F : hF} {A : hA} {d c s : Nat} {Q : wQ} (H : HW V202_Row_thisfinderdataa σE D N F A) (HT : STC σE) {a3 : Int} (pf2 : F 1 0 = (D 2 : Int)) (pf3 : F 0 1 = (D 3 : Int)) (pf4 : F 3 0 = (D 4 : Int)) (pf5 : F 4 0 = (D 5 : Int)) (n2 : Int) (en2 : (N 2 : Int) = n2) (n5 : Int) (en5 : (N 5 : Int) = n5) (u1_1 : Int) (eu1_1 : F 1 1 = u1_1) (u1_2 : Int) (eu1_2 : F 1 2 = u1_2) (u4_1 : Int) (eu4_1 : F 4 1 = u4_1) (w2 : Int → Int) (ew2 : A 2 = w2) (w5 : Int → Int) (ew5 : A 5 = w5) (h0 : inr (a3)) (h1 : 0 ≤ (u1_1) ∧ (u1_1) ≤ (n2) ∧ (n2) ≤ 65536) (h2 : 0 ≤ (u4_1) ∧ (u4_1) ≤ (n5) ∧ (n5) ≤ 65536) (h3 : 0 ≤ (u4_1) ∧ (u4_1) ≤ (n5) ∧ (n5) ≤ 65536) (h4 : 0 ≤ (a3) ∧ (a3) ≤ 1) (k : ∀ (σ : rS) (Dₚ Nₚ : Nat → Nat) (Fₚ : hF) (Aₚ : hA) (cₚ sₚ : Nat), HW V202_Row_thisfinderdataa σ Dₚ Nₚ Fₚ Aₚ → OUT (V202_Row_thisfinderdataa).length D N σE c s Dₚ Nₚ σ cₚ sₚ → SD [2] D Dₚ → SD [2] N Nₚ → SF [(1, 0), (1, 1), (1, 2)] F Fₚ → SA [2] A Aₚ → Fₚ 1 0 = (Dₚ 2 : Int) → ∀ m2 : Int, (Nₚ 2 : Int) = m2 → ∀ y1_1 : Int, Fₚ 1 1 = y1_1 → ∀ y1_2 : Int, Fₚ 1 2 = y1_2 → ∀ v2 : Int → Int, Aₚ 2 = v2 → (0 ≤ (y1_1) ∧ (y1_1) ≤ (m2) ∧ (m2) ≤ 65536) → (RAP ((u1_2)) ((w2)) ((u1_1)) ((y1_2)) ((v2)) ((y1_1)) (TGk ((a3)) (sc ((w5)) 0 ((u4_1))) (sc ((w5)) 0 ((u4_1))))) → Q none σ cₚ sₚ) : Ew 202 (d + 3) 0 (rargs 0 [.ref (D 0), .ref (D 1), .ref (D 4), I a3]) [] σE c s Q := by
  have O := OUT_refl (n := (V202_Row_thisfinderdataa).length) (D := D) (N := N) (σ := σE) (c := c) (s := s)
  have HE := H
  have r1 : (-2147483648 : Int) ≤ u1_1 ∧ u1_1 ≤ 2147483647 := rngE (show (-2147483648 : Int) ≤ F 1 1 ∧ F 1 1 ≤ 2147483647 from H.krg 1 1 (ltn len_V202_Row_thisfinderdataa_oz_D3cls rfl)) (show F 1 1 = u1_1 from (eu1_1))
  have r2 : (0 : Int) ≤ u1_2 ∧ u1_2 ≤ 1 := rngE (show (0 : Int) ≤ F 1 2 ∧ F 1 2 ≤ 1 from H.krg 1 2 (ltn len_V202_Row_thisfinderdataa_oz_D3cls rfl)) (show F 1 2 = u1_2 from (eu1_2))
  have r3 : (-2147483648 : Int) ≤ u4_1 ∧ u4_1 ≤ 2147483647 := rngE (show (-2147483648 : Int) ≤ F 4 1 ∧ F 4 1 ≤ 2147483647 from H.krg 4 1 (ltn len_V202_Row_thisfinderdataa_oz_D3cls rfl)) (show F 4 1 = u4_1 from (eu4_1))
  have r4 : (0 : Int) ≤ n2 ∧ n2 ≤ 1000000 := nleE (H.nle 2 (ltn len_V202_Row_thisfinderdataa_oz_D3cls rfl)) (show (N 2 : Int) = n2 from en2)
  have r5 : (0 : Int) ≤ n5 ∧ n5 ≤ 1000000 := nleE (H.nle 5 (ltn len_V202_Row_thisfinderdataa_oz_D3cls rfl)) (show (N 5 : Int) = n5 from en5)
  refine Ew_of (pcₚ := 1) (fun _ => x_aload_n rfl rfl) ?_
  refine v_g H (o := 0) (v := .ref (D 3)) rfl rfl rfl rfl rfl (vrf (pf3)) ?_
  refine v_g H (o := 3) (v := .ref (D 4)) rfl rfl rfl rfl rfl (vrf (pf4)) ?_
  refine Ew_of (pcₚ := 9) (fun _ => x_astore rfl) ?_
  refine Ew_of (pcₚ := 10) (fun _ => x_aload_n rfl (rk_o (rfl) rfl rfl)) ?_
  refine Ew_of (pcₚ := 11) (fun _ => x_aload_n rfl (rk_o (rfl) rfl rfl)) ?_
  refine v_g H (o := 4) (v := I (u4_1)) rfl rfl rfl rfl rfl (congrArg (fun z : Int => I z) ((eu4_1) : F 4 1 = u4_1)) ?_
  refine Ew_of (pcₚ := 15) (fun _ => x_iconst rfl) ?_
  refine w_iadd rfl ?_
  refine Ew_of (pcₚ := 18) (fun _ => x_bipush (z := 8) rfl (by decide)) ?_
  refine w_ishlE rfl ?_
  have g6 : inr (slI ((u4_1 + 4)) (8)) := toI_inr _
  refine Ew_of (pcₚ := 20) (fun _ => x_iload_n rfl (rk_o (rfl) rfl rfl)) ?_
  refine w_iorE rfl ?_
  have g7 : inr (orI ((slI ((u4_1 + 4)) (8))) (a3)) := toI_inr _
  have hv : ((orI ((slI ((u4_1 + 4)) (8))) (a3))) = ((u4_1) + 4) * 256 + (a3) := or8 (by omega) (by omega)
  have hvr : inr (((orI ((slI ((u4_1 + 4)) (8))) (a3)))) := g7
  refine w_i2l rfl (show inr ((orI ((slI ((u4_1 + 4)) (8))) (a3))) from hvr) ?_
  refine Ew_of (pcₚ := 23) (fun _ => x_iconst rfl) ?_
  refine v_inv H (o := 1) rfl rfl rfl rfl rfl rfl (by rfl) (C160 (D := puc 1025 D) (N := puc 1025 N) (HW_subc H oz_D3cls_70 oz_D3cls_23) (pf2) (n2) (en2) (u1_1) ((eu1_1)) (u1_2) ((eu1_2)) (w2) (ew2) (show inrJ ((orI ((slI ((u4_1 + 4)) (8))) (a3))) from q_2579 hvr) (show inr (4) from q_216) (show 0 ≤ (u1_1) ∧ (u1_1) ≤ (n2) ∧ (n2) ≤ 65536 from h1) (show 0 ≤ (4) ∧ (4) ≤ 8 from q_623) (fun σ8 D8ₚ N8ₚ F8ₚ A8ₚ c8 s8 Hₚ Oₚ hD8 hN8 hS8 hA8 pm8_1 m8_1 em8_1 y8_0_1 ey8_0_1 y8_0_2 ey8_0_2 w8_1 ew8_1 pz8_0 pz8_1 pz8_2 => ⟨rfl, ?_⟩))
  refine v_backMc (c := c) (s := s) H oz_D3cls_70 oz_D3cls_23 Hₚ Oₚ hD8 oz_D3cls_71 (fun D8 N8 F8 A8 H Oₚ eD8 eN8 eF8 eA8 => ?_)
  have O := OUT_trans O Oₚ
  -- Row.addNumber
  have cF8 : SF oz_D3clsl_5 F F8 := SF_trans (SF_refl) (SF_gluc (ι := oz_D3clsl_8) oz_D3cls_23 hS8 eF8 (by decide +kernel)) (any_sub (lₚ := [(1, 0), (1, 1), (1, 2)]) (by decide +kernel))
  have mF8 := SFm_of cF8 oz_D3cls_20
  have cA8 : SA oz_D3clsl_6 A A8 := SA_trans (SA_refl) (SA_gluc (ι := oz_D3clsl_8) oz_D3cls_23 hA8 eA8 (by decide +kernel)) (any_subA (lₚ := [2]) (by decide +kernel))
  have mA8 := SAm_of cA8 oz_D3cls_21
  have cD8 : SD oz_D3clsl_6 D D8 := SD_trans (SD_refl) (SD_gluc (ι := oz_D3clsl_8) oz_D3cls_23 hD8 eD8 (by decide +kernel)) (any_subA (lₚ := [2]) (by decide +kernel))
  have mD8 := SDm_of cD8 oz_D3cls_21
  have cN8 : SD oz_D3clsl_6 N N8 := SD_trans (SD_refl) (SD_gluc (ι := oz_D3clsl_8) oz_D3cls_23 hN8 eN8 (by decide +kernel)) (any_subA (lₚ := [2]) (by decide +kernel))
  have mN8 := SDm_of cN8 oz_D3cls_21
  have pf8_1_0 : F8 1 0 = (D8 2 : Int) := (eF8 1 0).trans (pm8_1.trans (congrArg (fun q : Nat => (q : Int)) (eD8 2).symm))
  have r9 : (0 : Int) ≤ m8_1 ∧ m8_1 ≤ 1000000 := nleE (H.nle 2 (ltn len_V202_Row_thisfinderdataa_oz_D3cls rfl)) (show (N8 2 : Int) = m8_1 from (congrArg (fun q : Nat => (q : Int)) (eN8 2)).trans em8_1)
  have r10 : (-2147483648 : Int) ≤ y8_0_1 ∧ y8_0_1 ≤ 2147483647 := rngE (show (-2147483648 : Int) ≤ F8 1 1 ∧ F8 1 1 ≤ 2147483647 from H.krg 1 1 (ltn len_V202_Row_thisfinderdataa_oz_D3cls rfl)) (show F8 1 1 = y8_0_1 from ((eF8 1 1).trans ey8_0_1))
  have r11 : (0 : Int) ≤ y8_0_2 ∧ y8_0_2 ≤ 1 := rngE (show (0 : Int) ≤ F8 1 2 ∧ F8 1 2 ≤ 1 from H.krg 1 2 (ltn len_V202_Row_thisfinderdataa_oz_D3cls rfl)) (show F8 1 2 = y8_0_2 from ((eF8 1 2).trans ey8_0_2))
  have h1_ := pz8_2
  rw [hv] at h1_
  refine Ew_of (pcₚ := 27) (fun _ => x_aload_n rfl (rk_o (rfl) rfl rfl)) ?_
  refine Ew_of (pcₚ := 29) (fun _ => x_aload rfl rk_s) ?_
  refine Ew_stk (show ([.ref (D 4), .ref (D 1)] : List Value) = [.ref (D8 4), .ref (D8 1)] by rw [show D8 1 = D 1 from mD8 1 rfl, show D8 4 = D 4 from mD8 4 rfl]) ?_
  refine v_g H (o := 4) (v := .ref (D8 5)) rfl rfl rfl rfl rfl (vrf ((mF8 4 0 rfl).trans ((pf5).trans (congrArg (fun q : Nat => (q : Int)) (mD8 5 rfl).symm)))) ?_
  refine Ew_of (pcₚ := 33) (fun _ => x_iconst rfl) ?_
  refine Ew_of (pcₚ := 35) (fun _ => x_aload rfl rk_s) ?_
  refine Ew_stk (congrArg (fun qz : Nat => ([.ref qz, I (0), .ref (D8 5), .ref (D8 1)] : List Value)) (show D8 4 = D 4 from mD8 4 rfl).symm) ?_
  refine v_g H (o := 4) (v := I (u4_1)) rfl rfl rfl rfl rfl (congrArg (fun z : Int => I z) (((mF8 4 1 rfl).trans (eu4_1)) : F8 4 1 = u4_1)) ?_
  refine w_stat25 rfl rfl (by rfl) (C53_Br (D := puc 5 D8) (N := puc 5 N8) (HW_subc H oz_D3cls_72 oz_D3cls_76) (STC_out HT HE O) (n5) ((congrArg (fun q : Nat => (q : Int)) (mN8 5 rfl)).trans (en5)) (w5) ((funext (mA8 5 rfl)).trans (ew5)) (show inr (0) from q_2) (show inr (u4_1) from q_38 h3) (show 0 ≤ (0) ∧ (0) ≤ (u4_1) ∧ (u4_1) ≤ (n5) from q_3195 h3) (fun z12 σ12 F12ₚ A12ₚ Hₚ Oₚ hS12 hA12 pz12_0 pz12_1 => ⟨rfl, ?_⟩))
  refine v_backc (c := (c + c8)) (s := (s + s8)) H oz_D3cls_72 oz_D3cls_76 Hₚ Oₚ (fun F12 A12 H Oₚ eF12 eA12 => ?_)
  have O := OUT_trans O Oₚ
  -- PackHouse.polynomialSum
  have cF12 : SF oz_D3clsl_5 F F12 := SF_trans (cF8) (SF_gluc (ι := oz_D3clsl_24) oz_D3cls_76 hS12 eF12 (by decide +kernel)) (any_sub (lₚ := []) (by decide +kernel))
  have mF12 := SFm_of cF12 oz_D3cls_20
  have cA12 : SA oz_D3clsl_6 A A12 := SA_trans (cA8) (SA_gluc (ι := oz_D3clsl_24) oz_D3cls_76 hA12 eA12 (by decide +kernel)) (any_subA (lₚ := []) (by decide +kernel))
  have mA12 := SAm_of cA12 oz_D3cls_21
  have hpo := pz12_1
  refine w_stat25 rfl rfl (by rfl) (C54 (D := puc 0 D8) (N := puc 0 N8) (HW_subc H oz_D3cls_73 oz_D3cls_7) (show inr (z12) from pz12_0) (fun z13 σ13 F13ₚ A13ₚ Hₚ Oₚ hS13 hA13 pz13_0 pz13_1 => ⟨rfl, ?_⟩))
  refine v_backc (c := (c + c8)) (s := (s + s8)) H oz_D3cls_73 oz_D3cls_7 Hₚ Oₚ (fun F13 A13 H Oₚ eF13 eA13 => ?_)
  have O := OUT_trans O Oₚ
  -- PackHouse.maskedSum
  have cF13 : SF oz_D3clsl_5 F F13 := SF_trans (cF12) (SF_gluc (ι := oz_D3clsl_1) oz_D3cls_7 hS13 eF13 (by decide +kernel)) (any_sub (lₚ := []) (by decide +kernel))
  have mF13 := SFm_of cF13 oz_D3cls_20
  have cA13 : SA oz_D3clsl_6 A A13 := SA_trans (cA12) (SA_gluc (ι := oz_D3clsl_1) oz_D3cls_7 hA13 eA13 (by decide +kernel)) (any_subA (lₚ := []) (by decide +kernel))
  have mA13 := SAm_of cA13 oz_D3cls_21
  have hma : IMP True (z13 = adI (rtI (z12) 17) (-1568478504)) := fun _ => pz13_1
  (try clear pz13_1)
  refine w_i2l rfl (show inr (z13) from pz13_0) ?_
  refine Ew_of (pcₚ := 46) (fun _ => x_iconst rfl) ?_
  refine v_inv H (o := 1) rfl rfl rfl rfl rfl rfl (by rfl) (C160 (D := puc 1025 D8) (N := puc 1025 N8) (HW_subc H oz_D3cls_70 oz_D3cls_23) (((((show F13 1 0 = F12 1 0 from (eF13 1 0))).trans ((show F12 1 0 = F8 1 0 from (eF12 1 0))))).trans (pf8_1_0)) (m8_1) ((congrArg (fun q : Nat => (q : Int)) (eN8 2)).trans em8_1) (y8_0_1) (((((show F13 1 1 = F12 1 1 from (eF13 1 1))).trans ((show F12 1 1 = F8 1 1 from (eF12 1 1)))).trans ((eF8 1 1).trans ey8_0_1))) (y8_0_2) (((((show F13 1 2 = F12 1 2 from (eF13 1 2))).trans ((show F12 1 2 = F8 1 2 from (eF12 1 2)))).trans ((eF8 1 2).trans ey8_0_2))) (w8_1) (((show A13 2 = A12 2 from (eA13 2))).trans (((show A12 2 = A8 2 from (eA12 2))).trans ((eA8 2).trans ew8_1))) (show inrJ (z13) from q_2579 pz13_0) (show inr (4) from q_216) (show 0 ≤ (y8_0_1) ∧ (y8_0_1) ≤ (m8_1) ∧ (m8_1) ≤ 65536 from pz8_0) (show 0 ≤ (4) ∧ (4) ≤ 8 from q_623) (fun σ14 D14ₚ N14ₚ F14ₚ A14ₚ c14 s14 Hₚ Oₚ hD14 hN14 hS14 hA14 pm14_1 m14_1 em14_1 y14_0_1 ey14_0_1 y14_0_2 ey14_0_2 w14_1 ew14_1 pz14_0 pz14_1 pz14_2 => ⟨rfl, ?_⟩))
  refine v_backMc (c := (c + c8)) (s := (s + s8)) H oz_D3cls_70 oz_D3cls_23 Hₚ Oₚ hD14 oz_D3cls_71 (fun D14 N14 F14 A14 H Oₚ eD14 eN14 eF14 eA14 => ?_)
  have O := OUT_trans O Oₚ
  -- Row.addNumber
  have cF14 : SF oz_D3clsl_5 F F14 := SF_trans (cF13) (SF_gluc (ι := oz_D3clsl_8) oz_D3cls_23 hS14 eF14 (by decide +kernel)) (any_sub (lₚ := [(1, 0), (1, 1), (1, 2)]) (by decide +kernel))
  have mF14 := SFm_of cF14 oz_D3cls_20
  have cA14 : SA oz_D3clsl_6 A A14 := SA_trans (cA13) (SA_gluc (ι := oz_D3clsl_8) oz_D3cls_23 hA14 eA14 (by decide +kernel)) (any_subA (lₚ := [2]) (by decide +kernel))
  have mA14 := SAm_of cA14 oz_D3cls_21
  have cD14 : SD oz_D3clsl_6 D D14 := SD_trans (cD8) (SD_gluc (ι := oz_D3clsl_8) oz_D3cls_23 hD14 eD14 (by decide +kernel)) (any_subA (lₚ := [2]) (by decide +kernel))
  have mD14 := SDm_of cD14 oz_D3cls_21
  have cN14 : SD oz_D3clsl_6 N N14 := SD_trans (cN8) (SD_gluc (ι := oz_D3clsl_8) oz_D3cls_23 hN14 eN14 (by decide +kernel)) (any_subA (lₚ := [2]) (by decide +kernel))
  have mN14 := SDm_of cN14 oz_D3cls_21
  have pf14_1_0 : F14 1 0 = (D14 2 : Int) := (eF14 1 0).trans (pm14_1.trans (congrArg (fun q : Nat => (q : Int)) (eD14 2).symm))
  have r15 : (0 : Int) ≤ m14_1 ∧ m14_1 ≤ 1000000 := nleE (H.nle 2 (ltn len_V202_Row_thisfinderdataa_oz_D3cls rfl)) (show (N14 2 : Int) = m14_1 from (congrArg (fun q : Nat => (q : Int)) (eN14 2)).trans em14_1)
  have r16 : (-2147483648 : Int) ≤ y14_0_1 ∧ y14_0_1 ≤ 2147483647 := rngE (show (-2147483648 : Int) ≤ F14 1 1 ∧ F14 1 1 ≤ 2147483647 from H.krg 1 1 (ltn len_V202_Row_thisfinderdataa_oz_D3cls rfl)) (show F14 1 1 = y14_0_1 from ((eF14 1 1).trans ey14_0_1))
  have r17 : (0 : Int) ≤ y14_0_2 ∧ y14_0_2 ≤ 1 := rngE (show (0 : Int) ≤ F14 1 2 ∧ F14 1 2 ≤ 1 from H.krg 1 2 (ltn len_V202_Row_thisfinderdataa_oz_D3cls rfl)) (show F14 1 2 = y14_0_2 from ((eF14 1 2).trans ey14_0_2))
  have h2_ := pz14_2
  have hms : z13 = MSK (PLS (sc ((w5)) 0 ((u4_1)))) := by rw [hma trivial, hpo, POL_L (b := (u4_1)) (by omega) (by omega)]; rw [MSK_e]; rfl
  rw [hms] at h2_
  refine Ew_of (pcₚ := 50) (fun _ => x_aload_n rfl (rk_o (rfl) rfl rfl)) ?_
  refine Ew_of (pcₚ := 51) (fun _ => x_aload_n rfl (rk_o (rfl) rfl rfl)) ?_
  refine Ew_stk (show ([.ref (D 4), .ref (D 1)] : List Value) = [.ref (D14 4), .ref (D14 1)] by rw [show D14 1 = D 1 from mD14 1 rfl, show D14 4 = D 4 from mD14 4 rfl]) ?_
  refine v_g H (o := 4) (v := .ref (D14 5)) rfl rfl rfl rfl rfl (vrf ((mF14 4 0 rfl).trans ((pf5).trans (congrArg (fun q : Nat => (q : Int)) (mD14 5 rfl).symm)))) ?_
  refine Ew_of (pcₚ := 55) (fun _ => x_iconst rfl) ?_
  refine Ew_of (pcₚ := 56) (fun _ => x_aload_n rfl (rk_o (rfl) rfl rfl)) ?_
  refine Ew_stk (congrArg (fun qz : Nat => ([.ref qz, I (0), .ref (D14 5), .ref (D14 1)] : List Value)) (show D14 4 = D 4 from mD14 4 rfl).symm) ?_
  refine v_g H (o := 4) (v := I (u4_1)) rfl rfl rfl rfl rfl (congrArg (fun z : Int => I z) (((mF14 4 1 rfl).trans (eu4_1)) : F14 4 1 = u4_1)) ?_
  refine v_inv H (o := 1) rfl rfl rfl rfl rfl rfl (by rfl) (C161_Br (D := puc 526849 D14) (N := puc 526849 N14) (HW_subc H oz_D3cls_74 oz_D3cls_22) (pf14_1_0) (n5) ((congrArg (fun q : Nat => (q : Int)) (mN14 5 rfl)).trans (en5)) (m14_1) ((congrArg (fun q : Nat => (q : Int)) (eN14 2)).trans em14_1) (y14_0_1) (((eF14 1 1).trans ey14_0_1)) (y14_0_2) (((eF14 1 2).trans ey14_0_2)) (w5) ((funext (mA14 5 rfl)).trans (ew5)) (w14_1) ((eA14 2).trans ew14_1) (show inr (0) from q_2) (show inr (u4_1) from q_38 h3) (show 0 ≤ (y14_0_1) ∧ (y14_0_1) ≤ (m14_1) ∧ (m14_1) ≤ 65536 from pz14_0) (show (u4_1) < 0 ∨ 0 ≤ (0) ∧ (0) + (u4_1) ≤ (n5) from q_2944 h3) (fun σ18 D18ₚ N18ₚ F18ₚ A18ₚ c18 s18 Hₚ Oₚ hD18 hN18 hS18 hA18 pm18_2 m18_2 em18_2 y18_0_1 ey18_0_1 y18_0_2 ey18_0_2 w18_2 ew18_2 pz18_0 pz18_1 pz18_2 pz18_3 => ⟨rfl, ?_⟩))
  refine v_backMc (c := ((c + c8) + c14)) (s := ((s + s8) + s14)) H oz_D3cls_74 oz_D3cls_22 Hₚ Oₚ hD18 oz_D3cls_75 (fun D18 N18 F18 A18 H Oₚ eD18 eN18 eF18 eA18 => ?_)
  have O := OUT_trans O Oₚ
  -- Row.addPart
  have cF18 : SF oz_D3clsl_5 F F18 := SF_trans (cF14) (SF_gluc (ι := oz_D3clsl_7) oz_D3cls_22 hS18 eF18 (by decide +kernel)) (any_sub (lₚ := [(1, 0), (1, 1), (1, 2)]) (by decide +kernel))
  have mF18 := SFm_of cF18 oz_D3cls_20
  have cA18 : SA oz_D3clsl_6 A A18 := SA_trans (cA14) (SA_gluc (ι := oz_D3clsl_7) oz_D3cls_22 hA18 eA18 (by decide +kernel)) (any_subA (lₚ := [2]) (by decide +kernel))
  have mA18 := SAm_of cA18 oz_D3cls_21
  have cD18 : SD oz_D3clsl_6 D D18 := SD_trans (cD14) (SD_gluc (ι := oz_D3clsl_7) oz_D3cls_22 hD18 eD18 (by decide +kernel)) (any_subA (lₚ := [2]) (by decide +kernel))
  have mD18 := SDm_of cD18 oz_D3cls_21
  have cN18 : SD oz_D3clsl_6 N N18 := SD_trans (cN14) (SD_gluc (ι := oz_D3clsl_7) oz_D3cls_22 hN18 eN18 (by decide +kernel)) (any_subA (lₚ := [2]) (by decide +kernel))
  have mN18 := SDm_of cN18 oz_D3cls_21
  have pf18_1_0 : F18 1 0 = (D18 2 : Int) := (eF18 1 0).trans (pm18_2.trans (congrArg (fun q : Nat => (q : Int)) (eD18 2).symm))
  have r19 : (0 : Int) ≤ m18_2 ∧ m18_2 ≤ 1000000 := nleE (H.nle 2 (ltn len_V202_Row_thisfinderdataa_oz_D3cls rfl)) (show (N18 2 : Int) = m18_2 from (congrArg (fun q : Nat => (q : Int)) (eN18 2)).trans em18_2)
  have r20 : (-2147483648 : Int) ≤ y18_0_1 ∧ y18_0_1 ≤ 2147483647 := rngE (show (-2147483648 : Int) ≤ F18 1 1 ∧ F18 1 1 ≤ 2147483647 from H.krg 1 1 (ltn len_V202_Row_thisfinderdataa_oz_D3cls rfl)) (show F18 1 1 = y18_0_1 from ((eF18 1 1).trans ey18_0_1))
  have r21 : (0 : Int) ≤ y18_0_2 ∧ y18_0_2 ≤ 1 := rngE (show (0 : Int) ≤ F18 1 2 ∧ F18 1 2 ≤ 1 from H.krg 1 2 (ltn len_V202_Row_thisfinderdataa_oz_D3cls rfl)) (show F18 1 2 = y18_0_2 from ((eF18 1 2).trans ey18_0_2))
  have : RAP ((u1_2)) ((w2)) ((u1_1)) ((y18_0_2)) ((w18_2)) ((y18_0_1)) (TGk ((a3)) (sc ((w5)) 0 ((u4_1))) (sc ((w5)) 0 ((u4_1)))) := RAP_c (RAP_trans h1_ (RAP_trans h2_ (pz18_3 (by omega)))) (by unfold TGk; rw [sc_lenI (by omega), show (u4_1) - 0 = (u4_1) by omega, Int.zero_add])
  exact w_ret rfl (k _ _ _ _ _ _ _ H O (cD18) (cN18) (cF18) (cA18) (pf18_1_0) (m18_2) ((congrArg (fun q : Nat => (q : Int)) (eN18 2)).trans em18_2) (y18_0_1) (((eF18 1 1).trans ey18_0_1)) (y18_0_2) (((eF18 1 2).trans ey18_0_2)) (w18_2) ((eA18 2).trans ew18_2) (show 0 ≤ (y18_0_1) ∧ (y18_0_1) ≤ (m18_2) ∧ (m18_2) ≤ 65536 from pz18_0) (show RAP ((u1_2)) ((w2)) ((u1_1)) ((y18_0_2)) ((w18_2)) ((y18_0_1)) (TGk (a3) (sc ((w5)) 0 ((u4_1))) (sc ((w5)) 0 ((u4_1)))) by assumption))

