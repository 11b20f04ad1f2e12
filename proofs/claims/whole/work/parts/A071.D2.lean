abbrev V221 : vV := [(0, 11, [(4, 0), (4, 0), (4, 0), (4, 0), (4, 0), (0, 0), (4, 0), (0, 0), (0, 0), (0, 0), (0, 0), (0, 0), (0, 0)])]
theorem len_V221_oz_D2cls : (V221).length = 1 := by decide +kernel
def oz_D2clsl_0 : List (Nat × Nat) := [(0, 12)]
theorem oz_D2cls_1 : (oz_D2clsl_0).all (fun p => !tbz 4096 (Nat.add (Nat.mul 32 p.1) p.2)) = true := by decide +kernel

theorem C221 {σE : rS} {D N : Nat → Nat} {F : hF} {A : hA} {d c s : Nat} {Q : wQ} (H : HW V221 σE D N F A) {a1 a2 : Int} (u0_12 : Int) (eu0_12 : F 0 12 = u0_12) (h0 : inr (a1)) (h1 : inr (a2)) (k : ∀ (z : Int) (σ : rS) (Fₚ : hF) (Aₚ : hA), HW V221 σ D N Fₚ Aₚ → OUT (V221).length D N σE c s D N σ c s → SF [(0, 12)] F Fₚ → SA [] A Aₚ → ∀ y0_12 : Int, Fₚ 0 12 = y0_12 → (inr (z)) → ((z) = (a1)) → ((y0_12) = (a2)) → Q (some (I z)) σ c s) : Ew 221 (d + 0) 0 (rargs 0 [.ref (D 0), I a1, I a2]) [] σE c s Q := by
  have O := OUT_refl (n := (V221).length) (D := D) (N := N) (σ := σE) (c := c) (s := s)
  have HE := H
  have r1 : (-2147483648 : Int) ≤ u0_12 ∧ u0_12 ≤ 2147483647 := rngE (show (-2147483648 : Int) ≤ F 0 12 ∧ F 0 12 ≤ 2147483647 from H.krg 0 12 (ltn len_V221_oz_D2cls rfl)) (show F 0 12 = u0_12 from (eu0_12))
  refine Ew_of (pcₚ := 1) (fun _ => x_aload_n rfl rfl) ?_
  refine Ew_of (pcₚ := 2) (fun _ => x_iload_n rfl rfl) ?_
  refine v_p H (o := 0) (z := a2) (v := I (a2)) rfl rfl rfl rfl rfl rfl rfl rfl (show (-2147483648 : Int) ≤ a2 ∧ a2 ≤ 2147483647 from q_31 h1) (fun σ H Oₚ => ?_)
  have O := OUT_trans O Oₚ
  have cFu2 : SF oz_D2clsl_0 F (updF F 0 12 (a2)) := SF_upd (SF_refl) rfl
  have mFu2 := SFm_of cFu2 oz_D2cls_1
  refine Ew_of (pcₚ := 6) (fun _ => x_iload_n rfl rfl) ?_
  exact w_ireturn rfl (k (a1) _ _ _ H O (cFu2) (SA_refl) (a2) (rfl) (show inr (a1) from h0) (show (a1) = a1 from q_303) (show (a2) = a2 from q_303))
abbrev V225 : vV := [(0, 11, [(4, 0), (4, 0), (4, 0), (4, 0), (4, 0), (0, 0), (4, 0), (0, 0), (0, 0), (0, 0), (0, 0), (0, 0), (0, 0)]), (1, 0, [])]
theorem len_V225_oz_D2cls : (V225).length = 2 := by decide +kernel
def oz_D2clsl_1 : List (Nat × Nat) := [(0, 11)]
theorem oz_D2cls_3 : (oz_D2clsl_1).all (fun p => !tbz 2048 (Nat.add (Nat.mul 32 p.1) p.2)) = true := by decide +kernel
def oz_D2clsl_2 : List Nat := []
theorem oz_D2cls_4 : (oz_D2clsl_2).all (fun p => !tbz 0 p) = true := by decide +kernel

theorem C225 {σE : rS} {D N : Nat → Nat} {F : hF} {A : hA} {d c s : Nat} {Q : wQ} (H : HW V225 σE D N F A) {a1 a2 a3 : Int} (pf1 : F 0 4 = (D 1 : Int)) (n1 : Int) (en1 : (N 1 : Int) = n1) (u0_11 : Int) (eu0_11 : F 0 11 = u0_11) (w1 : Int → Int) (ew1 : A 1 = w1) (h0 : inr (a1)) (h1 : inr (a2)) (h2 : inr (a3)) (h3 : 0 ≤ (a1) ∧ (a1) ≤ 15) (h4 : 0 ≤ (a2) ∧ (a2) ≤ (a3) ∧ (a3) ≤ (n1) ∧ (n1) ≤ 65536) (k : ∀ (z : Int) (σ : rS) (Fₚ : hF) (Aₚ : hA), HW V225 σ D N Fₚ Aₚ → OUT (V225).length D N σE c s D N σ c s → SF [(0, 11)] F Fₚ → SA [] A Aₚ → ∀ y0_11 : Int, Fₚ 0 11 = y0_11 → (inr (z)) → ((z) = -1 ∨ (a2) ≤ (z) ∧ (z) ≤ (a3)) → (0 ≤ (y0_11) ∧ (y0_11) ≤ 17000000) → (IMP ((0 : Int) ≤ (z)) (ADS (ub8 ((w1))) ((a3)) ((a1)) ((a2)) ((y0_11)) ((z)))) → (IMP ((z) < (0 : Int)) (ADN (ub8 ((w1))) ((a3)) ((a1)) ((a2)))) → Q (some (I z)) σ c s) : Ew 225 (d + 0) 0 (rargs 0 [.ref (D 0), I a1, I a2, I a3]) [] σE c s Q := by
  have O := OUT_refl (n := (V225).length) (D := D) (N := N) (σ := σE) (c := c) (s := s)
  have HE := H
  have r1 : (-2147483648 : Int) ≤ u0_11 ∧ u0_11 ≤ 2147483647 := rngE (show (-2147483648 : Int) ≤ F 0 11 ∧ F 0 11 ≤ 2147483647 from H.krg 0 11 (ltn len_V225_oz_D2cls rfl)) (show F 0 11 = u0_11 from (eu0_11))
  have r2 : (0 : Int) ≤ n1 ∧ n1 ≤ 1000000 := nleE (H.nle 1 (ltn len_V225_oz_D2cls rfl)) (show (N 1 : Int) = n1 from en1)
  refine Ew_of (pcₚ := 1) (fun _ => x_aload_n rfl rfl) ?_
  refine Ew_of (pcₚ := 2) (fun _ => x_iload_n rfl rfl) ?_
  refine v_p H (o := 0) (z := a1) (v := I (a1)) rfl rfl rfl rfl rfl rfl rfl rfl (show (-2147483648 : Int) ≤ a1 ∧ a1 ≤ 2147483647 from q_398 h3) (fun σ H Oₚ => ?_)
  have O := OUT_trans O Oₚ
  have cFu3 : SF oz_D2clsl_1 F (updF F 0 11 (a1)) := SF_upd (SF_refl) rfl
  have mFu3 := SFm_of cFu3 oz_D2cls_3
  refine Ew_of (pcₚ := 6) (fun _ => x_iload_n rfl rfl) ?_
  refine Ew_of (pcₚ := 8) (fun _ => x_bipush (z := 15) rfl (by decide)) ?_
  refine w_icmpge (t := 13) rfl rfl (show inr (a1) from h0) (show inr (15) from q_399) (fun b4 => ?_) (fun b4 => ?_)
  · refine Ew_of (pcₚ := 14) (fun _ => x_iload_n rfl rfl) ?_
    refine Ew_of (pcₚ := 16) (fun _ => x_istore rfl) ?_
    have : ADI (ub8 ((w1))) ((a1)) ((a2)) ((a2)) 1 ((a1)) := ADI_0 (by omega)
    suffices hl16 : ∀ (m : Nat), ∀ (ls : rO) (σ : rS) (F_16 : hF) (A_16 : hA) (x16_4 : Int), rlook ls 0 = some (.ref (D 0)) → rlook ls 3 = some (I (a3)) → rlook ls 4 = some (I (x16_4)) → HW V225 σ D N F_16 A_16 → OUT (V225).length D N σE c s D N σ c s → SF [(0, 11)] (updF F 0 11 (a1)) F_16 → SA [] A A_16 → ∀ y16_0_11 : Int, F_16 0 11 = y16_0_11 → (inr (x16_4)) → ((a2) ≤ (x16_4)) → ((x16_4) ≤ (a2) ∨ (x16_4) ≤ ((a3))) → (0 ≤ (y16_0_11) ∧ (y16_0_11) ≤ 15 + 255 * ((x16_4) - (a2))) → (ADI (ub8 ((w1))) ((a1)) ((a2)) ((x16_4)) 1 ((y16_0_11))) → (((a3)) - (x16_4)).toNat = m → Ew 225 (d + 0) 16 ls [] σ c s Q from
      hl16 _ _ _ _ _ (a2) (rk_o (rfl) rfl rfl) (rk_o (rfl) rfl rfl) (rk_s) H O (SF_refl) (SA_refl)   (a1) (rfl)  (show inr (a2) from h1) (show (a2) ≤ (a2) from q_43) (show (a2) ≤ (a2) ∨ (a2) ≤ ((a3)) from q_156) (show 0 ≤ (a1) ∧ (a1) ≤ 15 + 255 * ((a2) - (a2)) from q_400 h3) (show ADI (ub8 ((w1))) ((a1)) ((a2)) ((a2)) 1 ((a1)) by assumption) rfl
    as_aux_lemma =>
    intro m
    induction m using Nat.strongRecOn with
    | _ m ih16 =>
      intro ls σ F_16 A_16 x16_4 l16_0 l16_3 l16_4 H O hS_16 hA_16   y16_0_11 ey16_0_11  j16_0 j16_1 j16_2 j16_3 j16_4 hm16
      have cF_16 : SF oz_D2clsl_1 F F_16 := SF_trans (cFu3) hS_16 (any_sub (by decide +kernel))
      have mF_16 := SFm_of cF_16 oz_D2cls_3
      have cA_16 : SA oz_D2clsl_2 A A_16 := SA_trans (SA_refl) hA_16 (any_subA (by decide +kernel))
      have mA_16 := SAm_of cA_16 oz_D2cls_4
      have r5 : (-2147483648 : Int) ≤ y16_0_11 ∧ y16_0_11 ≤ 2147483647 := rngE (show (-2147483648 : Int) ≤ F_16 0 11 ∧ F_16 0 11 ≤ 2147483647 from H.krg 0 11 (ltn len_V225_oz_D2cls rfl)) (show F_16 0 11 = y16_0_11 from (ey16_0_11))
      have j16_a : ADI (ub8 ((w1))) ((a1)) ((a2)) ((x16_4)) 1 ((y16_0_11)) := j16_4
      refine Ew_of (pcₚ := 18) (fun _ => x_iload rfl l16_4) ?_
      refine Ew_of (pcₚ := 19) (fun _ => x_iload_n rfl l16_3) ?_
      refine w_icmpge (t := 65) rfl rfl (show inr (x16_4) from j16_0) (show inr (a3) from h2) (fun b6 => ?_) (fun b6 => ?_)
      · refine Ew_of (pcₚ := 66) (fun _ => x_iconst rfl) ?_
        have : IMP ((0 : Int) ≤ -1) (ADS (ub8 ((w1))) ((a3)) ((a1)) ((a2)) ((y16_0_11)) (-1)) := fun z => absurd z (by omega)
        have : IMP (-1 < (0 : Int)) (ADN (ub8 ((w1))) ((a3)) ((a1)) ((a2))) := fun _ => ADI_non j16_a rfl (by omega)
        exact w_ireturn rfl (k ((-1)) _ _ _ H O (cF_16) (cA_16) (y16_0_11) ((ey16_0_11)) (show inr ((-1)) from q_63) (show ((-1)) = -1 ∨ a2 ≤ ((-1)) ∧ ((-1)) ≤ a3 by first | exact q_218 | omega) (show 0 ≤ (y16_0_11) ∧ (y16_0_11) ≤ 17000000 by omega) (show IMP ((0 : Int) ≤ ((-1))) (ADS (ub8 ((w1))) (a3) (a1) (a2) ((y16_0_11)) (((-1)))) by assumption) (show IMP (((-1)) < (0 : Int)) (ADN (ub8 ((w1))) (a3) (a1) (a2)) by assumption))
      · refine Ew_of (pcₚ := 23) (fun _ => x_aload_n rfl l16_0) ?_
        refine v_g H (o := 0) (v := .ref (D 1)) rfl rfl rfl rfl rfl (vrf ((mF_16 0 4 rfl).trans (pf1))) ?_
        refine Ew_of (pcₚ := 28) (fun _ => x_iload rfl l16_4) ?_
        refine v_lB H (o := 1) rfl rfl rfl rfl (n := n1) (en1) (show 0 ≤ x16_4 ∧ x16_4 < n1 from q_3091 b6 h4 j16_1) (fun v7 ev7 qv7 => ?_)
        have ev7 : (w1) (x16_4) = v7 := (congrFun ((funext (mA_16 1 rfl)).trans (ew1)) (x16_4)).symm.trans ev7
        have hvb := ev7
        refine Ew_of (pcₚ := 32) (fun _ => x_sipush (z := 255) rfl (by decide)) ?_
        refine v_and255 rfl ?_
        have hv : (ub8 ((w1))) ((x16_4)) = ((v7 % 256)) := by show u8 _ = _; rw [hvb]; rfl
        refine Ew_of (pcₚ := 35) (fun _ => x_istore rfl) ?_
        refine Ew_of (pcₚ := 36) (fun _ => x_aload_n rfl (rk_o (l16_0) rfl rfl)) ?_
        refine Ew_of (pcₚ := 37) (fun _ => x_dup rfl rfl) ?_
        refine v_g H (o := 0) (v := I (y16_0_11)) rfl rfl rfl rfl rfl (congrArg (fun z : Int => I z) ((ey16_0_11) : F_16 0 11 = y16_0_11)) ?_
        refine Ew_of (pcₚ := 42) (fun _ => x_iload rfl rk_s) ?_
        refine w_iadd rfl ?_
        refine v_p H (o := 0) (z := (y16_0_11 + (v7 % 256))) (v := I ((y16_0_11 + (v7 % 256)))) rfl rfl rfl rfl rfl rfl rfl rfl (show (-2147483648 : Int) ≤ (y16_0_11 + (v7 % 256)) ∧ (y16_0_11 + (v7 % 256)) ≤ 2147483647 by omega) (fun σ H Oₚ => ?_)
        have O := OUT_trans O Oₚ
        have cFu8 : SF oz_D2clsl_1 F (updF F_16 0 11 ((y16_0_11 + (v7 % 256)))) := SF_upd (cF_16) rfl
        have mFu8 := SFm_of cFu8 oz_D2cls_3
        refine Ew_of (pcₚ := 48) (fun _ => x_iload rfl rk_s) ?_
        refine Ew_of (pcₚ := 51) (fun _ => x_sipush (z := 255) rfl (by decide)) ?_
        refine w_icmpge (t := 59) rfl rfl (show inr ((v7 % 256)) from q_461) (show inr (255) from q_297) (fun b9 => ?_) (fun b9 => ?_)
        · refine Ew_of (pcₚ := 62) (fun _ => x_iinc (len := 3) rfl (rk_o (l16_4) rfl rfl)) ?_
          refine Ew_of (pcₚ := 16) (fun _ => x_goto rfl rfl) ?_
          have : ADI (ub8 ((w1))) ((a1)) ((a2)) (((x16_4 + 1))) 1 (((y16_0_11 + (v7 % 256)))) := ADI_s j16_a rfl hv (by omega) (.inl ⟨by omega, rfl⟩) (by omega) (by omega)
          exact ih16 _ (msE hm16 q_16 (q_17 b6)) _ _ _ _ ((x16_4 + 1)) (rk_o (rk_o (l16_0) rfl rfl) rfl rfl) (rk_o (rk_o (l16_3) rfl rfl) rfl rfl) (rk_s) H O (SF_upd (hS_16) rfl) (hA_16)   ((y16_0_11 + (v7 % 256))) (rfl)  (show inr ((x16_4 + 1)) from q_3094 b6 h4 j16_0) (show (a2) ≤ ((x16_4 + 1)) from q_3093 j16_3) (show ((x16_4 + 1)) ≤ (a2) ∨ ((x16_4 + 1)) ≤ ((a3)) from q_160 b6) (show 0 ≤ ((y16_0_11 + (v7 % 256))) ∧ ((y16_0_11 + (v7 % 256))) ≤ 15 + 255 * (((x16_4 + 1)) - (a2)) from q_3092 b9 j16_3) (show ADI (ub8 ((w1))) ((a1)) ((a2)) (((x16_4 + 1))) 1 (((y16_0_11 + (v7 % 256)))) by assumption) rfl
        · refine Ew_of (pcₚ := 56) (fun _ => x_iload rfl (rk_o (l16_4) rfl rfl)) ?_
          refine Ew_of (pcₚ := 57) (fun _ => x_iconst rfl) ?_
          refine w_iadd rfl ?_
          have : IMP ((0 : Int) ≤ ((x16_4 + 1))) (ADS (ub8 ((w1))) ((a3)) ((a1)) ((a2)) (((y16_0_11 + (v7 % 256)))) (((x16_4 + 1)))) := fun _ => ADI_end (on := 0) (ADI_s j16_a rfl hv (by omega) (.inr ⟨by omega, rfl⟩) (by omega) (by omega)) rfl (by omega)
          have : IMP (((x16_4 + 1)) < (0 : Int)) (ADN (ub8 ((w1))) ((a3)) ((a1)) ((a2))) := fun z => absurd z (by omega)
          exact w_ireturn rfl (k ((x16_4 + 1)) _ _ _ H O (cFu8) (cA_16) ((y16_0_11 + (v7 % 256))) (rfl) (show inr ((x16_4 + 1)) from q_3094 b6 h4 j16_0) (show ((x16_4 + 1)) = -1 ∨ a2 ≤ ((x16_4 + 1)) ∧ ((x16_4 + 1)) ≤ a3 by first | exact q_3095 b6 j16_3 | omega) (show 0 ≤ ((y16_0_11 + (v7 % 256))) ∧ ((y16_0_11 + (v7 % 256))) ≤ 17000000 by omega) (show IMP ((0 : Int) ≤ ((x16_4 + 1))) (ADS (ub8 ((w1))) (a3) (a1) (a2) (((y16_0_11 + (v7 % 256)))) (((x16_4 + 1)))) by assumption) (show IMP (((x16_4 + 1)) < (0 : Int)) (ADN (ub8 ((w1))) (a3) (a1) (a2)) by assumption))
  · refine Ew_of (pcₚ := 12) (fun _ => x_iload_n rfl rfl) ?_
    have : IMP ((0 : Int) ≤ (a2)) (ADS (ub8 ((w1))) ((a3)) ((a1)) ((a2)) ((a1)) ((a2))) := fun _ => .inl ⟨by omega, rfl, rfl⟩
    have : IMP ((a2) < (0 : Int)) (ADN (ub8 ((w1))) ((a3)) ((a1)) ((a2))) := fun z => absurd z (by omega)
    exact w_ireturn rfl (k (a2) _ _ _ H O (cFu3) (SA_refl) (a1) (rfl) (show inr (a2) from h1) (show (a2) = -1 ∨ a2 ≤ (a2) ∧ (a2) ≤ a3 from q_3097 h4) (show 0 ≤ (a1) ∧ (a1) ≤ 17000000 from q_3096 b4 h3) (show IMP ((0 : Int) ≤ (a2)) (ADS (ub8 ((w1))) (a3) (a1) (a2) ((a1)) ((a2))) by assumption) (show IMP ((a2) < (0 : Int)) (ADN (ub8 ((w1))) (a3) (a1) (a2)) by assumption))
abbrev V224 : vV := [(0, 11, [(4, 0), (4, 0), (4, 0), (4, 0), (4, 0), (0, 0), (4, 0), (0, 0), (0, 0), (0, 0), (0, 0), (0, 0), (0, 0)]), (1, 0, []), (0, 7, [(4, 0), (0, 0), (1, 0), (0, 0), (0, 0)]), (1, 0, []), (0, 7, [(4, 0), (0, 0), (1, 0), (0, 0), (0, 0)]), (1, 0, [])]
theorem len_V224_oz_D2cls : (V224).length = 6 := by decide +kernel
theorem oz_D2cls_6 : vsub V224 V225 [0, 1] = true := by decide +kernel
theorem oz_D2cls_7 : vsub V224 V221 [0] = true := by decide +kernel
theorem oz_D2cls_8 : vsub V224 V161_Br [2, 1, 3] = true := by decide +kernel
theorem oz_D2cls_9 : vmov V224 [2, 1, 3] [2] = true := by decide +kernel
theorem oz_D2cls_10 : vsub V224 V42_Br [1] = true := by decide +kernel
theorem oz_D2cls_11 : vsub V224 V163_Row [2, 4, 3, 5] = true := by decide +kernel
theorem oz_D2cls_12 : vmov V224 [2, 4, 3, 5] [2] = true := by decide +kernel
def oz_D2clsl_3 : List (Nat × Nat) := [(0, 11), (0, 12), (2, 0), (2, 1), (2, 2)]
theorem oz_D2cls_13 : (oz_D2clsl_3).all (fun p => !tbz 129127208515966867456 (Nat.add (Nat.mul 32 p.1) p.2)) = true := by decide +kernel
def oz_D2clsl_4 : List Nat := [3]
theorem oz_D2cls_14 : (oz_D2clsl_4).all (fun p => !tbz 8 p) = true := by decide +kernel
def oz_D2clsl_5 : List Nat := [0, 1]
theorem oz_D2cls_15 : okc oz_D2clsl_5 512 = true := by decide +kernel
def oz_D2clsl_6 : List Nat := [0]
theorem oz_D2cls_16 : okc oz_D2clsl_6 0 = true := by decide +kernel
def oz_D2clsl_7 : List Nat := [2, 1, 3]
theorem oz_D2cls_17 : okc oz_D2clsl_7 786946 = true := by decide +kernel
def oz_D2clsl_8 : List Nat := [1]
theorem oz_D2cls_18 : okc oz_D2clsl_8 1 = true := by decide +kernel
def oz_D2clsl_9 : List Nat := [2, 4, 3, 5]
theorem oz_D2cls_19 : okc oz_D2clsl_9 671877122 = true := by decide +kernel

theorem C224 {σE : rS} {D N : Nat → Nat} {F : hF} {A : hA} {d c s : Nat} {Q : wQ} (H : HW V224 σE D N F A) {a1 a2 a3 a4 : Int} (pf1 : F 0 4 = (D 1 : Int)) (pf2 : F 0 6 = (D 2 : Int)) (pf3 : F 2 0 = (D 3 : Int)) (pf4 : F 0 1 = (D 4 : Int)) (pf5 : F 4 0 = (D 5 : Int)) (n1 : Int) (en1 : (N 1 : Int) = n1) (n3 : Int) (en3 : (N 3 : Int) = n3) (n5 : Int) (en5 : (N 5 : Int) = n5) (u0_12 : Int) (eu0_12 : F 0 12 = u0_12) (u2_1 : Int) (eu2_1 : F 2 1 = u2_1) (u2_2 : Int) (eu2_2 : F 2 2 = u2_2) (u4_1 : Int) (eu4_1 : F 4 1 = u4_1) (w1 : Int → Int) (ew1 : A 1 = w1) (w3 : Int → Int) (ew3 : A 3 = w3) (w5 : Int → Int) (ew5 : A 5 = w5) (h0 : inr (a1)) (h1 : inr (a2)) (h2 : inr (a3)) (h3 : inr (a4)) (h4 : 0 ≤ (a1) ∧ (a1) ≤ (a2) ∧ (a2) ≤ (n1) ∧ (n1) ≤ 65536) (h5 : 0 ≤ (u2_1) ∧ (u2_1) ≤ (n3) ∧ (n3) ≤ 65536) (h6 : 0 ≤ (u4_1) ∧ (u4_1) ≤ (n5) ∧ (n5) ≤ 65536) (h7 : 0 ≤ (a3) ∧ (a3) ≤ (u2_1)) (h8 : 0 ≤ (a4) ∧ (a4) ≤ 65536) (h9 : (u2_2) = 0 ∧ (u2_1) ≤ (a4)) (k : ∀ (z : Int) (σ : rS) (Dₚ Nₚ : Nat → Nat) (Fₚ : hF) (Aₚ : hA) (cₚ sₚ : Nat), HW V224 σ Dₚ Nₚ Fₚ Aₚ → OUT (V224).length D N σE c s Dₚ Nₚ σ cₚ sₚ → SD [3] D Dₚ → SD [3] N Nₚ → SF [(0, 11), (0, 12), (2, 0), (2, 1), (2, 2)] F Fₚ → SA [3] A Aₚ → Fₚ 2 0 = (Dₚ 3 : Int) → ∀ m3 : Int, (Nₚ 3 : Int) = m3 → ∀ y0_12 : Int, Fₚ 0 12 = y0_12 → ∀ y2_1 : Int, Fₚ 2 1 = y2_1 → ∀ y2_2 : Int, Fₚ 2 2 = y2_2 → ∀ v3 : Int → Int, Aₚ 3 = v3 → (inr (z)) → (0 ≤ (z) ∧ (z) ≤ 3) → (0 ≤ (y2_1) ∧ (y2_1) ≤ (m3) ∧ (m3) ≤ 65536) → ((u2_1) ≤ (y2_1)) → ((y2_1) ≤ (a4) ∨ (y2_1) = (u2_1)) → ((y2_2) = 0) → (TBP (ub8 ((w1))) ((a2)) ((a1)) (sc ((w5)) 0 ((u4_1)) ++ sc ((w3)) ((a3)) ((u2_1))) ((a4) - (u2_1)) ((z)) ((y0_12)) (sc ((w5)) 0 ((u4_1)) ++ sc ((v3)) ((a3)) ((y2_1)))) → ((z) ≠ 0 ∨ (y0_12) = (u0_12)) → (∀ i, (0 : Int) ≤ i → i < (u2_1) → ((v3)) i = ((w3)) i) → Q (some (I z)) σ cₚ sₚ) : Ew 224 (d + 3) 0 (rargs 0 [.ref (D 0), I a1, I a2, I a3, I a4]) [] σE c s Q := by
  have O := OUT_refl (n := (V224).length) (D := D) (N := N) (σ := σE) (c := c) (s := s)
  have HE := H
  have r1 : (-2147483648 : Int) ≤ u0_12 ∧ u0_12 ≤ 2147483647 := rngE (show (-2147483648 : Int) ≤ F 0 12 ∧ F 0 12 ≤ 2147483647 from H.krg 0 12 (ltn len_V224_oz_D2cls rfl)) (show F 0 12 = u0_12 from (eu0_12))
  have r2 : (-2147483648 : Int) ≤ u2_1 ∧ u2_1 ≤ 2147483647 := rngE (show (-2147483648 : Int) ≤ F 2 1 ∧ F 2 1 ≤ 2147483647 from H.krg 2 1 (ltn len_V224_oz_D2cls rfl)) (show F 2 1 = u2_1 from (eu2_1))
  have r3 : (0 : Int) ≤ u2_2 ∧ u2_2 ≤ 1 := rngE (show (0 : Int) ≤ F 2 2 ∧ F 2 2 ≤ 1 from H.krg 2 2 (ltn len_V224_oz_D2cls rfl)) (show F 2 2 = u2_2 from (eu2_2))
  have r4 : (-2147483648 : Int) ≤ u4_1 ∧ u4_1 ≤ 2147483647 := rngE (show (-2147483648 : Int) ≤ F 4 1 ∧ F 4 1 ≤ 2147483647 from H.krg 4 1 (ltn len_V224_oz_D2cls rfl)) (show F 4 1 = u4_1 from (eu4_1))
  have r5 : (0 : Int) ≤ n1 ∧ n1 ≤ 1000000 := nleE (H.nle 1 (ltn len_V224_oz_D2cls rfl)) (show (N 1 : Int) = n1 from en1)
  have r6 : (0 : Int) ≤ n3 ∧ n3 ≤ 1000000 := nleE (H.nle 3 (ltn len_V224_oz_D2cls rfl)) (show (N 3 : Int) = n3 from en3)
  have r7 : (0 : Int) ≤ n5 ∧ n5 ≤ 1000000 := nleE (H.nle 5 (ltn len_V224_oz_D2cls rfl)) (show (N 5 : Int) = n5 from en5)
  refine Ew_of (pcₚ := 1) (fun _ => x_iload_n rfl rfl) ?_
  refine Ew_of (pcₚ := 3) (fun _ => x_istore rfl) ?_
  refine Ew_of (pcₚ := 4) (fun _ => x_iload_n rfl (rk_o (rfl) rfl rfl)) ?_
  refine Ew_of (pcₚ := 6) (fun _ => x_istore rfl) ?_
  have : TBO (ub8 ((w1))) ((a2)) ((a1)) (sc ((w5)) 0 ((u4_1)) ++ sc ((w3)) ((a3)) ((u2_1))) ((a4) - (u2_1)) ((a1)) (sc ((w5)) 0 ((u4_1)) ++ sc ((w3)) ((a3)) ((u2_1))) ((a4) - (u2_1)) := TBO_0
  have : ∀ i, (0 : Int) ≤ i → i < (u2_1) → ((w3)) i = ((w3)) i := fun i x y => rfl
  suffices hl6 : ∀ (m : Nat), ∀ (ls : rO) (σ : rS) (D_6 N_6 : Nat → Nat) (c_6 s_6 : Nat) (F_6 : hF) (A_6 : hA) (x6_5 : Int) (x6_6 : Int), rlook ls 0 = some (.ref (D_6 0)) → rlook ls 2 = some (I (a2)) → rlook ls 3 = some (I (a3)) → rlook ls 4 = some (I (a4)) → rlook ls 5 = some (I (x6_5)) → rlook ls 6 = some (I (x6_6)) → HW V224 σ D_6 N_6 F_6 A_6 → OUT (V224).length D N σE c s D_6 N_6 σ c_6 s_6 → SD [3] D D_6 → SD [3] N N_6 → SF [(0, 11), (2, 0), (2, 1), (2, 2)] F F_6 → SA [3] A A_6 → F_6 2 0 = (D_6 3 : Int) → ∀ m6_3 : Int, (N_6 3 : Int) = m6_3 → ∀ y6_2_1 : Int, F_6 2 1 = y6_2_1 → ∀ y6_2_2 : Int, F_6 2 2 = y6_2_2 → ∀ w6_3 : Int → Int, A_6 3 = w6_3 → (inr (x6_5)) → (inr (x6_6)) → ((a1) ≤ (x6_6)) → ((x6_6) ≤ (a1) ∨ (x6_6) ≤ (((a2) + 1))) → (0 ≤ (x6_5) ∧ (x6_5) ≤ (a2)) → (0 ≤ (y6_2_1) ∧ (y6_2_1) ≤ (m6_3) ∧ (m6_3) ≤ 65536) → ((u2_1) ≤ (y6_2_1)) → ((y6_2_1) ≤ (a4)) → ((y6_2_2) = 0) → ((x6_6) ≤ (x6_5)) → (TBO (ub8 ((w1))) ((a2)) ((a1)) (sc ((w5)) 0 ((u4_1)) ++ sc ((w3)) ((a3)) ((u2_1))) ((a4) - (u2_1)) ((x6_5)) (sc ((w5)) 0 ((u4_1)) ++ sc ((w6_3)) ((a3)) ((y6_2_1))) ((a4) - (y6_2_1))) → (∀ i, (0 : Int) ≤ i → i < (u2_1) → ((w6_3)) i = ((w3)) i) → ((((a2) + 1)) - (x6_6)).toNat = m → Ew 224 (d + 3) 6 ls [] σ c_6 s_6 Q from
    hl6 _ _ _ _ _ _ _ _ _ (a1) (a1) (rk_o (rk_o (rfl) rfl rfl) rfl rfl) (rk_o (rk_o (rfl) rfl rfl) rfl rfl) (rk_o (rk_o (rfl) rfl rfl) rfl rfl) (rk_o (rk_o (rfl) rfl rfl) rfl rfl) (rk_o (rk_s) rfl rfl) (rk_s) H O (SD_refl) (SD_refl) (SF_refl) (SA_refl) (pf3) (n3) (en3) (u2_1) ((eu2_1)) (u2_2) ((eu2_2)) (w3) (ew3) (show inr (a1) from h0) (show inr (a1) from h0) (show (a1) ≤ (a1) from q_43) (show (a1) ≤ (a1) ∨ (a1) ≤ (((a2) + 1)) from q_3101) (show 0 ≤ (a1) ∧ (a1) ≤ (a2) from q_3100 h4) (show 0 ≤ (u2_1) ∧ (u2_1) ≤ (n3) ∧ (n3) ≤ 65536 from h5) (show (u2_1) ≤ (u2_1) from q_43) (show (u2_1) ≤ (a4) from q_3099 h9) (show (u2_2) = 0 from q_3098 h9) (show (a1) ≤ (a1) from q_43) (show TBO (ub8 ((w1))) ((a2)) ((a1)) (sc ((w5)) 0 ((u4_1)) ++ sc ((w3)) ((a3)) ((u2_1))) ((a4) - (u2_1)) ((a1)) (sc ((w5)) 0 ((u4_1)) ++ sc ((w3)) ((a3)) ((u2_1))) ((a4) - (u2_1)) by assumption) (show ∀ i, (0 : Int) ≤ i → i < (u2_1) → ((w3)) i = ((w3)) i by assumption) rfl
  as_aux_lemma =>
  intro m
  induction m using Nat.strongRecOn with
  | _ m ih6 =>
    intro ls σ D_6 N_6 c_6 s_6 F_6 A_6 x6_5 x6_6 l6_0 l6_2 l6_3 l6_4 l6_5 l6_6 H O hD_6 hN_6 hS_6 hA_6 pm6_3 m6_3 em6_3 y6_2_1 ey6_2_1 y6_2_2 ey6_2_2 w6_3 ew6_3 j6_0 j6_1 j6_2 j6_3 j6_4 j6_5 j6_6 j6_7 j6_8 j6_9 j6_10 j6_11 hm6
    have cF_6 : SF oz_D2clsl_3 F F_6 := SF_trans (SF_refl) hS_6 (any_sub (by decide +kernel))
    have mF_6 := SFm_of cF_6 oz_D2cls_13
    have cA_6 : SA oz_D2clsl_4 A A_6 := SA_trans (SA_refl) hA_6 (any_subA (by decide +kernel))
    have mA_6 := SAm_of cA_6 oz_D2cls_14
    have cD_6 : SD oz_D2clsl_4 D D_6 := SD_trans (SD_refl) hD_6 (any_subA (by decide +kernel))
    have mD_6 := SDm_of cD_6 oz_D2cls_14
    have cN_6 : SD oz_D2clsl_4 N N_6 := SD_trans (SD_refl) hN_6 (any_subA (by decide +kernel))
    have mN_6 := SDm_of cN_6 oz_D2cls_14
    have r8 : (0 : Int) ≤ m6_3 ∧ m6_3 ≤ 1000000 := nleE (H.nle 3 (ltn len_V224_oz_D2cls rfl)) (show (N_6 3 : Int) = m6_3 from em6_3)
    have r9 : (-2147483648 : Int) ≤ y6_2_1 ∧ y6_2_1 ≤ 2147483647 := rngE (show (-2147483648 : Int) ≤ F_6 2 1 ∧ F_6 2 1 ≤ 2147483647 from H.krg 2 1 (ltn len_V224_oz_D2cls rfl)) (show F_6 2 1 = y6_2_1 from (ey6_2_1))
    have r10 : (0 : Int) ≤ y6_2_2 ∧ y6_2_2 ≤ 1 := rngE (show (0 : Int) ≤ F_6 2 2 ∧ F_6 2 2 ≤ 1 from H.krg 2 2 (ltn len_V224_oz_D2cls rfl)) (show F_6 2 2 = y6_2_2 from (ey6_2_2))
    have j6_t : TBO (ub8 ((w1))) ((a2)) ((a1)) (sc ((w5)) 0 ((u4_1)) ++ sc ((w3)) ((a3)) ((u2_1))) ((a4) - (u2_1)) ((x6_5)) (sc ((w5)) 0 ((u4_1)) ++ sc ((w6_3)) ((a3)) ((y6_2_1))) ((a4) - (y6_2_1)) := by assumption
    have j6_s : ∀ i, (0 : Int) ≤ i → i < (u2_1) → ((w6_3)) i = ((w3)) i := by assumption
    refine Ew_of (pcₚ := 8) (fun _ => x_iload rfl l6_6) ?_
    refine Ew_of (pcₚ := 9) (fun _ => x_iload_n rfl l6_2) ?_
    refine w_icmpgt (t := 302) rfl rfl (show inr (x6_6) from j6_1) (show inr (a2) from h1) (fun b11 => ?_) (fun b11 => ?_)
    · exfalso
      omega
    · refine Ew_of (pcₚ := 14) (fun _ => x_iload rfl l6_5) ?_
      refine Ew_of (pcₚ := 15) (fun _ => x_iload_n rfl l6_2) ?_
      refine w_icmplt (t := 25) rfl rfl (show inr (x6_5) from j6_0) (show inr (a2) from h1) (fun b12 => ?_) (fun b12 => ?_)
      · refine Ew_of (pcₚ := 26) (fun _ => x_aload_n rfl l6_0) ?_
        refine v_g H (o := 0) (v := .ref (D_6 1)) rfl rfl rfl rfl rfl (vrf ((mF_6 0 4 rfl).trans ((pf1).trans (congrArg (fun q : Nat => (q : Int)) (mD_6 1 rfl).symm)))) ?_
        refine Ew_of (pcₚ := 31) (fun _ => x_iload rfl l6_5) ?_
        refine v_lB H (o := 1) rfl rfl rfl rfl (n := n1) ((congrArg (fun q : Nat => (q : Int)) (mN_6 1 rfl)).trans (en1)) (show 0 ≤ x6_5 ∧ x6_5 < n1 from q_3102 b12 h4 j6_4) (fun v13 ev13 qv13 => ?_)
        have ev13 : (w1) (x6_5) = v13 := (congrFun ((funext (mA_6 1 rfl)).trans (ew1)) (x6_5)).symm.trans ev13
        have hvb := ev13
        refine Ew_of (pcₚ := 35) (fun _ => x_sipush (z := 255) rfl (by decide)) ?_
        refine v_and255 rfl ?_
        have htk : (ub8 ((w1))) ((x6_5)) = ((v13 % 256)) := by show u8 _ = _; rw [hvb]; rfl
        refine Ew_of (pcₚ := 38) (fun _ => x_istore rfl) ?_
        refine Ew_of (pcₚ := 39) (fun _ => x_aload_n rfl (rk_o (l6_0) rfl rfl)) ?_
        refine Ew_of (pcₚ := 41) (fun _ => x_iload rfl rk_s) ?_
        refine Ew_of (pcₚ := 42) (fun _ => x_iconst rfl) ?_
        refine w_ishrK 4 16 (by decide) (by decide) rfl (show inr ((v13 % 256)) from q_461) (fun z14 gz14 dz14 => ?_)
        refine Ew_of (pcₚ := 45) (fun _ => x_iload rfl (rk_o (l6_5) rfl rfl)) ?_
        refine Ew_of (pcₚ := 46) (fun _ => x_iconst rfl) ?_
        refine w_iadd rfl ?_
        refine Ew_of (pcₚ := 48) (fun _ => x_iload_n rfl (rk_o (l6_2) rfl rfl)) ?_
        have r15 : (-2147483648 : Int) ≤ F_6 0 11 ∧ F_6 0 11 ≤ 2147483647 := H.krg 0 11 (ltn len_V224_oz_D2cls rfl)
        refine v_inv H (o := 0) rfl rfl rfl rfl rfl rfl (by rfl) (C225 (D := puc 512 D_6) (N := puc 512 N_6) (HW_subc H oz_D2cls_6 oz_D2cls_15) ((mF_6 0 4 rfl).trans ((pf1).trans (congrArg (fun q : Nat => (q : Int)) (mD_6 1 rfl).symm))) (n1) ((congrArg (fun q : Nat => (q : Int)) (mN_6 1 rfl)).trans (en1)) (F_6 0 11) (rfl) (w1) ((funext (mA_6 1 rfl)).trans (ew1)) (show inr (z14) from gz14) (show inr ((x6_5 + 1)) from q_3105 b12 h4 j6_4) (show inr (a2) from h1) (show 0 ≤ (z14) ∧ (z14) ≤ 15 from q_3104 dz14) (show 0 ≤ ((x6_5 + 1)) ∧ ((x6_5 + 1)) ≤ (a2) ∧ (a2) ≤ (n1) ∧ (n1) ≤ 65536 from q_3103 b12 h4 j6_4) (fun z16 σ16 F16ₚ A16ₚ Hₚ Oₚ hS16 hA16 y16_0_11 ey16_0_11 pz16_0 pz16_1 pz16_2 pz16_3 pz16_4 => ⟨rfl, ?_⟩))
        refine v_backc (c := c_6) (s := s_6) H oz_D2cls_6 oz_D2cls_15 Hₚ Oₚ (fun F16 A16 H Oₚ eF16 eA16 => ?_)
        have O := OUT_trans O Oₚ
        -- Tokens.addUp
        have cF16 : SF oz_D2clsl_3 F F16 := SF_trans (cF_6) (SF_gluc (ι := oz_D2clsl_5) oz_D2cls_15 hS16 eF16 (by decide +kernel)) (any_sub (lₚ := [(0, 11)]) (by decide +kernel))
        have mF16 := SFm_of cF16 oz_D2cls_13
        have cA16 : SA oz_D2clsl_4 A A16 := SA_trans (cA_6) (SA_gluc (ι := oz_D2clsl_5) oz_D2cls_15 hA16 eA16 (by decide +kernel)) (any_subA (lₚ := []) (by decide +kernel))
        have mA16 := SAm_of cA16 oz_D2cls_14
        have r17 : (-2147483648 : Int) ≤ y16_0_11 ∧ y16_0_11 ≤ 2147483647 := rngE (show (-2147483648 : Int) ≤ F16 0 11 ∧ F16 0 11 ≤ 2147483647 from H.krg 0 11 (ltn len_V224_oz_D2cls rfl)) (show F16 0 11 = y16_0_11 from ((eF16 0 11).trans ey16_0_11))
        refine Ew_of (pcₚ := 53) (fun _ => x_istore rfl) ?_
        refine Ew_of (pcₚ := 54) (fun _ => x_iload_n rfl (rk_o (rk_o (l6_2) rfl rfl) rfl rfl)) ?_
        refine Ew_of (pcₚ := 56) (fun _ => x_iload rfl rk_s) ?_
        refine w_isub rfl ?_
        refine Ew_of (pcₚ := 59) (fun _ => x_iload rfl (rk_o (rk_o (l6_4) rfl rfl) rfl rfl)) ?_
        refine Ew_of (pcₚ := 60) (fun _ => x_aload_n rfl (rk_o (rk_o (l6_0) rfl rfl) rfl rfl)) ?_
        refine v_g H (o := 0) (v := .ref (D_6 2)) rfl rfl rfl rfl rfl (vrf ((mF16 0 6 rfl).trans ((pf2).trans (congrArg (fun q : Nat => (q : Int)) (mD_6 2 rfl).symm)))) ?_
        refine v_g H (o := 2) (v := I (y6_2_1)) rfl rfl rfl rfl rfl (congrArg (fun z : Int => I z) ((((show F16 2 1 = F_6 2 1 from (eF16 2 1))).trans (ey6_2_1)) : F16 2 1 = y6_2_1)) ?_
        refine w_isub rfl ?_
        refine v_min rfl rfl (show inr ((a2 - z16)) from q_3107 b12 h4 j6_4 pz16_0 pz16_1) (show inr ((a4 - y6_2_1)) from q_3106 h8 j6_5 j6_7) (fun z18 gz18 => ?_)
        refine Ew_of (pcₚ := 72) (fun _ => x_istore rfl) ?_
        refine Ew_of (pcₚ := 74) (fun _ => x_iload rfl (rk_o (rk_s) rfl rfl)) ?_
        refine w_iflt (t := 86) rfl rfl (show inr (z16) from pz16_0) (fun b19 => ?_) (fun b19 => ?_)
        · refine Ew_of (pcₚ := 88) (fun _ => x_iload rfl (rk_o (rk_s) rfl rfl)) ?_
          refine w_iflt (t := 100) rfl rfl (show inr (z16) from pz16_0) (fun b20 => ?_) (fun b20 => ?_)
          · refine Ew_of (pcₚ := 101) (fun _ => x_aload_n rfl (rk_o (rk_o (rk_o (l6_0) rfl rfl) rfl rfl) rfl rfl)) ?_
            refine Ew_of (pcₚ := 102) (fun _ => x_iconst rfl) ?_
            refine Ew_of (pcₚ := 103) (fun _ => x_iload_n rfl (rk_o (rk_o (rk_o (l6_2) rfl rfl) rfl rfl) rfl rfl)) ?_
            refine v_inv H (o := 0) rfl rfl rfl rfl rfl rfl (by rfl) (C221 (D := puc 0 D_6) (N := puc 0 N_6) (HW_subc H oz_D2cls_7 oz_D2cls_16) (u0_12) (((((show F16 0 12 = F_6 0 12 from (eF16 0 12).trans (hS16 0 12 rfl))).trans (hS_6 0 12 rfl)).trans (eu0_12))) (show inr (1) from q_135) (show inr (a2) from h1) (fun z21 σ21 F21ₚ A21ₚ Hₚ Oₚ hS21 hA21 y21_0_12 ey21_0_12 pz21_0 pz21_1 pz21_2 => ⟨rfl, ?_⟩))
            refine v_backc (c := c_6) (s := s_6) H oz_D2cls_7 oz_D2cls_16 Hₚ Oₚ (fun F21 A21 H Oₚ eF21 eA21 => ?_)
            have O := OUT_trans O Oₚ
            -- Tokens.fail
            have cF21 : SF oz_D2clsl_3 F F21 := SF_trans (cF16) (SF_gluc (ι := oz_D2clsl_6) oz_D2cls_16 hS21 eF21 (by decide +kernel)) (any_sub (lₚ := [(0, 12)]) (by decide +kernel))
            have mF21 := SFm_of cF21 oz_D2cls_13
            have cA21 : SA oz_D2clsl_4 A A21 := SA_trans (cA16) (SA_gluc (ι := oz_D2clsl_6) oz_D2cls_16 hA21 eA21 (by decide +kernel)) (any_subA (lₚ := []) (by decide +kernel))
            have mA21 := SAm_of cA21 oz_D2cls_14
            have r22 : (-2147483648 : Int) ≤ y21_0_12 ∧ y21_0_12 ≤ 2147483647 := rngE (show (-2147483648 : Int) ≤ F21 0 12 ∧ F21 0 12 ≤ 2147483647 from H.krg 0 12 (ltn len_V224_oz_D2cls rfl)) (show F21 0 12 = y21_0_12 from ((eF21 0 12).trans ey21_0_12))
            refine Ew_of (pcₚ := 119) (fun _ => x_goto rfl rfl) ?_
            have : TBP (ub8 ((w1))) ((a2)) ((a1)) (sc ((w5)) 0 ((u4_1)) ++ sc ((w3)) ((a3)) ((u2_1))) ((a4) - (u2_1)) ((z21)) ((y21_0_12)) (sc ((w5)) 0 ((u4_1)) ++ sc ((w6_3)) ((a3)) ((y6_2_1))) := by exact TBP_f (TBO_2 j6_t (by omega) (pz16_4 (by omega)) (by omega) (by omega) (by omega) (by omega)) (by omega)
            exact w_ireturn rfl (k (z21) _ _ _ _ _ _ _ H O (cD_6) (cN_6) (cF21) (cA21) (((((show F21 2 0 = F16 2 0 from (eF21 2 0))).trans ((show F16 2 0 = F_6 2 0 from (eF16 2 0))))).trans (pm6_3)) (m6_3) (em6_3) (y21_0_12) (((eF21 0 12).trans ey21_0_12)) (y6_2_1) (((((show F21 2 1 = F16 2 1 from (eF21 2 1))).trans ((show F16 2 1 = F_6 2 1 from (eF16 2 1)))).trans (ey6_2_1))) (y6_2_2) (((((show F21 2 2 = F16 2 2 from (eF21 2 2))).trans ((show F16 2 2 = F_6 2 2 from (eF16 2 2)))).trans (ey6_2_2))) (w6_3) (((show A21 3 = A16 3 from (eA21 3))).trans (((show A16 3 = A_6 3 from (eA16 3))).trans (ew6_3))) (show inr (z21) from pz21_0) (show 0 ≤ (z21) ∧ (z21) ≤ 3 from q_3110 pz21_1) (show 0 ≤ (y6_2_1) ∧ (y6_2_1) ≤ (m6_3) ∧ (m6_3) ≤ 65536 from j6_5) (show (u2_1) ≤ (y6_2_1) from j6_6) (show (y6_2_1) ≤ a4 ∨ (y6_2_1) = (u2_1) from q_3109 j6_7) (show (y6_2_2) = 0 from j6_8) (show TBP (ub8 ((w1))) (a2) (a1) (sc ((w5)) 0 ((u4_1)) ++ sc ((w3)) (a3) ((u2_1))) (a4 - (u2_1)) ((z21)) ((y21_0_12)) (sc ((w5)) 0 ((u4_1)) ++ sc ((w6_3)) (a3) ((y6_2_1))) by assumption) (show (z21) ≠ 0 ∨ (y21_0_12) = (u0_12) from q_3108 pz21_1) (j6_s))
          · refine Ew_of (pcₚ := 93) (fun _ => x_iload rfl rk_s) ?_
            refine Ew_of (pcₚ := 94) (fun _ => x_iload_n rfl (rk_o (rk_o (rk_o (l6_2) rfl rfl) rfl rfl) rfl rfl)) ?_
            refine Ew_of (pcₚ := 96) (fun _ => x_iload rfl (rk_o (rk_s) rfl rfl)) ?_
            refine w_isub rfl ?_
            refine w_icmpne (t := 109) rfl rfl (show inr (z18) from q_3112 b12 b19 b20 gz18 h4 h8 j6_4 j6_5 j6_7) (show inr ((a2 - z16)) from q_3111 b12 b19 b20 h4 j6_4) (fun b23 => ?_) (fun b23 => ?_)
            · refine Ew_of (pcₚ := 110) (fun _ => x_aload_n rfl (rk_o (rk_o (rk_o (l6_0) rfl rfl) rfl rfl) rfl rfl)) ?_
              refine Ew_of (pcₚ := 111) (fun _ => x_iconst rfl) ?_
              refine Ew_of (pcₚ := 113) (fun _ => x_iload rfl (rk_o (rk_s) rfl rfl)) ?_
              refine Ew_of (pcₚ := 115) (fun _ => x_iload rfl rk_s) ?_
              refine w_iadd rfl ?_
              refine v_inv H (o := 0) rfl rfl rfl rfl rfl rfl (by rfl) (C221 (D := puc 0 D_6) (N := puc 0 N_6) (HW_subc H oz_D2cls_7 oz_D2cls_16) (u0_12) (((((show F16 0 12 = F_6 0 12 from (eF16 0 12).trans (hS16 0 12 rfl))).trans (hS_6 0 12 rfl)).trans (eu0_12))) (show inr (3) from q_246) (show inr ((z16 + z18)) from q_3113 b19 b20) (fun z24 σ24 F24ₚ A24ₚ Hₚ Oₚ hS24 hA24 y24_0_12 ey24_0_12 pz24_0 pz24_1 pz24_2 => ⟨rfl, ?_⟩))
              refine v_backc (c := c_6) (s := s_6) H oz_D2cls_7 oz_D2cls_16 Hₚ Oₚ (fun F24 A24 H Oₚ eF24 eA24 => ?_)
              have O := OUT_trans O Oₚ
              -- Tokens.fail
              have cF24 : SF oz_D2clsl_3 F F24 := SF_trans (cF16) (SF_gluc (ι := oz_D2clsl_6) oz_D2cls_16 hS24 eF24 (by decide +kernel)) (any_sub (lₚ := [(0, 12)]) (by decide +kernel))
              have mF24 := SFm_of cF24 oz_D2cls_13
              have cA24 : SA oz_D2clsl_4 A A24 := SA_trans (cA16) (SA_gluc (ι := oz_D2clsl_6) oz_D2cls_16 hA24 eA24 (by decide +kernel)) (any_subA (lₚ := []) (by decide +kernel))
              have mA24 := SAm_of cA24 oz_D2cls_14
              have r25 : (-2147483648 : Int) ≤ y24_0_12 ∧ y24_0_12 ≤ 2147483647 := rngE (show (-2147483648 : Int) ≤ F24 0 12 ∧ F24 0 12 ≤ 2147483647 from H.krg 0 12 (ltn len_V224_oz_D2cls rfl)) (show F24 0 12 = y24_0_12 from ((eF24 0 12).trans ey24_0_12))
              have : TBP (ub8 ((w1))) ((a2)) ((a1)) (sc ((w5)) 0 ((u4_1)) ++ sc ((w3)) ((a3)) ((u2_1))) ((a4) - (u2_1)) ((z24)) ((y24_0_12)) (sc ((w5)) 0 ((u4_1)) ++ sc ((w6_3)) ((a3)) ((y6_2_1))) := by exact TBP_f (TBO_2 j6_t (by omega) (pz16_4 (by omega)) (by omega) (by omega) (by omega) (by omega)) (by omega)
              exact w_ireturn rfl (k (z24) _ _ _ _ _ _ _ H O (cD_6) (cN_6) (cF24) (cA24) (((((show F24 2 0 = F16 2 0 from (eF24 2 0))).trans ((show F16 2 0 = F_6 2 0 from (eF16 2 0))))).trans (pm6_3)) (m6_3) (em6_3) (y24_0_12) (((eF24 0 12).trans ey24_0_12)) (y6_2_1) (((((show F24 2 1 = F16 2 1 from (eF24 2 1))).trans ((show F16 2 1 = F_6 2 1 from (eF16 2 1)))).trans (ey6_2_1))) (y6_2_2) (((((show F24 2 2 = F16 2 2 from (eF24 2 2))).trans ((show F16 2 2 = F_6 2 2 from (eF16 2 2)))).trans (ey6_2_2))) (w6_3) (((show A24 3 = A16 3 from (eA24 3))).trans (((show A16 3 = A_6 3 from (eA16 3))).trans (ew6_3))) (show inr (z24) from pz24_0) (show 0 ≤ (z24) ∧ (z24) ≤ 3 from q_3115 pz24_1) (show 0 ≤ (y6_2_1) ∧ (y6_2_1) ≤ (m6_3) ∧ (m6_3) ≤ 65536 from j6_5) (show (u2_1) ≤ (y6_2_1) from j6_6) (show (y6_2_1) ≤ a4 ∨ (y6_2_1) = (u2_1) from q_3109 j6_7) (show (y6_2_2) = 0 from j6_8) (show TBP (ub8 ((w1))) (a2) (a1) (sc ((w5)) 0 ((u4_1)) ++ sc ((w3)) (a3) ((u2_1))) (a4 - (u2_1)) ((z24)) ((y24_0_12)) (sc ((w5)) 0 ((u4_1)) ++ sc ((w6_3)) (a3) ((y6_2_1))) by assumption) (show (z24) ≠ 0 ∨ (y24_0_12) = (u0_12) from q_3114 pz24_1) (j6_s))
            · refine Ew_of (pcₚ := 101) (fun _ => x_aload_n rfl (rk_o (rk_o (rk_o (l6_0) rfl rfl) rfl rfl) rfl rfl)) ?_
              refine Ew_of (pcₚ := 102) (fun _ => x_iconst rfl) ?_
              refine Ew_of (pcₚ := 103) (fun _ => x_iload_n rfl (rk_o (rk_o (rk_o (l6_2) rfl rfl) rfl rfl) rfl rfl)) ?_
              refine v_inv H (o := 0) rfl rfl rfl rfl rfl rfl (by rfl) (C221 (D := puc 0 D_6) (N := puc 0 N_6) (HW_subc H oz_D2cls_7 oz_D2cls_16) (u0_12) (((((show F16 0 12 = F_6 0 12 from (eF16 0 12).trans (hS16 0 12 rfl))).trans (hS_6 0 12 rfl)).trans (eu0_12))) (show inr (1) from q_135) (show inr (a2) from h1) (fun z26 σ26 F26ₚ A26ₚ Hₚ Oₚ hS26 hA26 y26_0_12 ey26_0_12 pz26_0 pz26_1 pz26_2 => ⟨rfl, ?_⟩))
              refine v_backc (c := c_6) (s := s_6) H oz_D2cls_7 oz_D2cls_16 Hₚ Oₚ (fun F26 A26 H Oₚ eF26 eA26 => ?_)
              have O := OUT_trans O Oₚ
              -- Tokens.fail
              have cF26 : SF oz_D2clsl_3 F F26 := SF_trans (cF16) (SF_gluc (ι := oz_D2clsl_6) oz_D2cls_16 hS26 eF26 (by decide +kernel)) (any_sub (lₚ := [(0, 12)]) (by decide +kernel))
              have mF26 := SFm_of cF26 oz_D2cls_13
              have cA26 : SA oz_D2clsl_4 A A26 := SA_trans (cA16) (SA_gluc (ι := oz_D2clsl_6) oz_D2cls_16 hA26 eA26 (by decide +kernel)) (any_subA (lₚ := []) (by decide +kernel))
              have mA26 := SAm_of cA26 oz_D2cls_14
              have r27 : (-2147483648 : Int) ≤ y26_0_12 ∧ y26_0_12 ≤ 2147483647 := rngE (show (-2147483648 : Int) ≤ F26 0 12 ∧ F26 0 12 ≤ 2147483647 from H.krg 0 12 (ltn len_V224_oz_D2cls rfl)) (show F26 0 12 = y26_0_12 from ((eF26 0 12).trans ey26_0_12))
              refine Ew_of (pcₚ := 119) (fun _ => x_goto rfl rfl) ?_
              have : TBP (ub8 ((w1))) ((a2)) ((a1)) (sc ((w5)) 0 ((u4_1)) ++ sc ((w3)) ((a3)) ((u2_1))) ((a4) - (u2_1)) ((z26)) ((y26_0_12)) (sc ((w5)) 0 ((u4_1)) ++ sc ((w6_3)) ((a3)) ((y6_2_1))) := by exact TBP_f (TBO_2 j6_t (by omega) (pz16_4 (by omega)) (by omega) (by omega) (by omega) (by omega)) (by omega)
              exact w_ireturn rfl (k (z26) _ _ _ _ _ _ _ H O (cD_6) (cN_6) (cF26) (cA26) (((((show F26 2 0 = F16 2 0 from (eF26 2 0))).trans ((show F16 2 0 = F_6 2 0 from (eF16 2 0))))).trans (pm6_3)) (m6_3) (em6_3) (y26_0_12) (((eF26 0 12).trans ey26_0_12)) (y6_2_1) (((((show F26 2 1 = F16 2 1 from (eF26 2 1))).trans ((show F16 2 1 = F_6 2 1 from (eF16 2 1)))).trans (ey6_2_1))) (y6_2_2) (((((show F26 2 2 = F16 2 2 from (eF26 2 2))).trans ((show F16 2 2 = F_6 2 2 from (eF16 2 2)))).trans (ey6_2_2))) (w6_3) (((show A26 3 = A16 3 from (eA26 3))).trans (((show A16 3 = A_6 3 from (eA16 3))).trans (ew6_3))) (show inr (z26) from pz26_0) (show 0 ≤ (z26) ∧ (z26) ≤ 3 from q_3110 pz26_1) (show 0 ≤ (y6_2_1) ∧ (y6_2_1) ≤ (m6_3) ∧ (m6_3) ≤ 65536 from j6_5) (show (u2_1) ≤ (y6_2_1) from j6_6) (show (y6_2_1) ≤ a4 ∨ (y6_2_1) = (u2_1) from q_3109 j6_7) (show (y6_2_2) = 0 from j6_8) (show TBP (ub8 ((w1))) (a2) (a1) (sc ((w5)) 0 ((u4_1)) ++ sc ((w3)) (a3) ((u2_1))) (a4 - (u2_1)) ((z26)) ((y26_0_12)) (sc ((w5)) 0 ((u4_1)) ++ sc ((w6_3)) (a3) ((y6_2_1))) by assumption) (show (z26) ≠ 0 ∨ (y26_0_12) = (u0_12) from q_3108 pz26_1) (j6_s))
        · refine Ew_of (pcₚ := 78) (fun _ => x_aload_n rfl (rk_o (rk_o (rk_o (l6_0) rfl rfl) rfl rfl) rfl rfl)) ?_
          refine v_g H (o := 0) (v := I (y16_0_11)) rfl rfl rfl rfl rfl (congrArg (fun z : Int => I z) (((eF16 0 11).trans ey16_0_11) : F16 0 11 = y16_0_11)) ?_
          refine Ew_of (pcₚ := 83) (fun _ => x_iload rfl rk_s) ?_
          refine w_icmple (t := 120) rfl rfl (show inr (y16_0_11) from q_3117 pz16_2 r17) (show inr (z18) from q_3116 b12 b19 gz18 h4 h8 j6_4 j6_5 j6_7 pz16_0) (fun b28 => ?_) (fun b28 => ?_)
          · have hb1 := TB1_of j6_t (by omega) (pz16_3 (by omega)) (by omega) (by omega)
            refine Ew_of (pcₚ := 121) (fun _ => x_aload_n rfl (rk_o (rk_o (rk_o (l6_0) rfl rfl) rfl rfl) rfl rfl)) ?_
            refine v_g H (o := 0) (v := .ref (D_6 2)) rfl rfl rfl rfl rfl (vrf ((mF16 0 6 rfl).trans ((pf2).trans (congrArg (fun q : Nat => (q : Int)) (mD_6 2 rfl).symm)))) ?_
            refine Ew_of (pcₚ := 125) (fun _ => x_aload_n rfl (rk_o (rk_o (rk_o (l6_0) rfl rfl) rfl rfl) rfl rfl)) ?_
            refine v_g H (o := 0) (v := .ref (D_6 1)) rfl rfl rfl rfl rfl (vrf ((mF16 0 4 rfl).trans ((pf1).trans (congrArg (fun q : Nat => (q : Int)) (mD_6 1 rfl).symm)))) ?_
            refine Ew_of (pcₚ := 130) (fun _ => x_iload rfl (rk_o (rk_s) rfl rfl)) ?_
            refine Ew_of (pcₚ := 131) (fun _ => x_aload_n rfl (rk_o (rk_o (rk_o (l6_0) rfl rfl) rfl rfl) rfl rfl)) ?_
            refine v_g H (o := 0) (v := I (y16_0_11)) rfl rfl rfl rfl rfl (congrArg (fun z : Int => I z) (((eF16 0 11).trans ey16_0_11) : F16 0 11 = y16_0_11)) ?_
            refine v_inv H (o := 2) rfl rfl rfl rfl rfl rfl (by rfl) (C161_Br (D := puc 786946 D_6) (N := puc 786946 N_6) (HW_subc H oz_D2cls_8 oz_D2cls_17) ((((show F16 2 0 = F_6 2 0 from (eF16 2 0)))).trans (pm6_3)) (n1) ((congrArg (fun q : Nat => (q : Int)) (mN_6 1 rfl)).trans (en1)) (m6_3) (em6_3) (y6_2_1) ((((show F16 2 1 = F_6 2 1 from (eF16 2 1))).trans (ey6_2_1))) (y6_2_2) ((((show F16 2 2 = F_6 2 2 from (eF16 2 2))).trans (ey6_2_2))) (w1) ((funext (mA16 1 rfl)).trans (ew1)) (w6_3) (((show A16 3 = A_6 3 from (eA16 3))).trans (ew6_3)) (show inr (z16) from pz16_0) (show inr (y16_0_11) from q_3117 pz16_2 r17) (show 0 ≤ (y6_2_1) ∧ (y6_2_1) ≤ (m6_3) ∧ (m6_3) ≤ 65536 from j6_5) (show (y16_0_11) < 0 ∨ 0 ≤ (z16) ∧ (z16) + (y16_0_11) ≤ (n1) from q_3118 b19 b28 gz18 h4) (fun σ29 D29ₚ N29ₚ F29ₚ A29ₚ c29 s29 Hₚ Oₚ hD29 hN29 hS29 hA29 pm29_2 m29_2 em29_2 y29_0_1 ey29_0_1 y29_0_2 ey29_0_2 w29_2 ew29_2 pz29_0 pz29_1 pz29_2 pz29_3 => ⟨rfl, ?_⟩))
            refine v_backMc (c := c_6) (s := s_6) H oz_D2cls_8 oz_D2cls_17 Hₚ Oₚ hD29 oz_D2cls_9 (fun D29 N29 F29 A29 H Oₚ eD29 eN29 eF29 eA29 => ?_)
            have O := OUT_trans O Oₚ
            -- Row.addPart
            have cF29 : SF oz_D2clsl_3 F F29 := SF_trans (cF16) (SF_gluc (ι := oz_D2clsl_7) oz_D2cls_17 hS29 eF29 (by decide +kernel)) (any_sub (lₚ := [(2, 0), (2, 1), (2, 2)]) (by decide +kernel))
            have mF29 := SFm_of cF29 oz_D2cls_13
            have cA29 : SA oz_D2clsl_4 A A29 := SA_trans (cA16) (SA_gluc (ι := oz_D2clsl_7) oz_D2cls_17 hA29 eA29 (by decide +kernel)) (any_subA (lₚ := [3]) (by decide +kernel))
            have mA29 := SAm_of cA29 oz_D2cls_14
            have cD29 : SD oz_D2clsl_4 D D29 := SD_trans (cD_6) (SD_gluc (ι := oz_D2clsl_7) oz_D2cls_17 hD29 eD29 (by decide +kernel)) (any_subA (lₚ := [3]) (by decide +kernel))
            have mD29 := SDm_of cD29 oz_D2cls_14
            have cN29 : SD oz_D2clsl_4 N N29 := SD_trans (cN_6) (SD_gluc (ι := oz_D2clsl_7) oz_D2cls_17 hN29 eN29 (by decide +kernel)) (any_subA (lₚ := [3]) (by decide +kernel))
            have mN29 := SDm_of cN29 oz_D2cls_14
            have pf29_2_0 : F29 2 0 = (D29 3 : Int) := (eF29 2 0).trans (pm29_2.trans (congrArg (fun q : Nat => (q : Int)) (eD29 3).symm))
            have r30 : (0 : Int) ≤ m29_2 ∧ m29_2 ≤ 1000000 := nleE (H.nle 3 (ltn len_V224_oz_D2cls rfl)) (show (N29 3 : Int) = m29_2 from (congrArg (fun q : Nat => (q : Int)) (eN29 3)).trans em29_2)
            have r31 : (-2147483648 : Int) ≤ y29_0_1 ∧ y29_0_1 ≤ 2147483647 := rngE (show (-2147483648 : Int) ≤ F29 2 1 ∧ F29 2 1 ≤ 2147483647 from H.krg 2 1 (ltn len_V224_oz_D2cls rfl)) (show F29 2 1 = y29_0_1 from ((eF29 2 1).trans ey29_0_1))
            have r32 : (0 : Int) ≤ y29_0_2 ∧ y29_0_2 ≤ 1 := rngE (show (0 : Int) ≤ F29 2 2 ∧ F29 2 2 ≤ 1 from H.krg 2 2 (ltn len_V224_oz_D2cls rfl)) (show F29 2 2 = y29_0_2 from ((eF29 2 2).trans ey29_0_2))
            have hap := RAP_from (a := (a3)) (pz29_3 (by omega)) (by omega) (by omega) (by rw [sc_lenI (by omega)]; omega) (by omega)
            have hbu := hap.1
            have hsm1 : ∀ i, (0 : Int) ≤ i → i < (u2_1) → ((w29_2)) i = ((w3)) i := fun i x y => (pz29_2 i x (by omega)).trans (j6_s i x y)
            refine Ew_of (pcₚ := 139) (fun _ => x_iload rfl (rk_o (rk_s) rfl rfl)) ?_
            refine Ew_of (pcₚ := 140) (fun _ => x_aload_n rfl (rk_o (rk_o (rk_o (l6_0) rfl rfl) rfl rfl) rfl rfl)) ?_
            refine Ew_stk (congrArg (fun qz : Nat => ([.ref qz, I (z16)] : List Value)) (show D29 0 = D_6 0 from ((show D29 0 = D_6 0 from (eD29 0)))).symm) ?_
            refine v_g H (o := 0) (v := I (y16_0_11)) rfl rfl rfl rfl rfl (congrArg (fun z : Int => I z) ((((show F29 0 11 = F16 0 11 from (eF29 0 11))).trans ((eF16 0 11).trans ey16_0_11)) : F29 0 11 = y16_0_11)) ?_
            refine w_iadd rfl ?_
            refine Ew_of (pcₚ := 146) (fun _ => x_istore rfl) ?_
            have hb2 := TB2_of hb1 (p2 := ((z16 + y16_0_11))) (W1 := sc ((w5)) 0 ((u4_1)) ++ sc ((w29_2)) ((a3)) ((y29_0_1))) (by omega) (by omega) (by omega) (by rw [hap.2, sc_ub8, List.append_assoc]) (by omega)
            refine Ew_of (pcₚ := 148) (fun _ => x_iload rfl rk_s) ?_
            refine Ew_of (pcₚ := 149) (fun _ => x_iload_n rfl (rk_o (rk_o (rk_o (rk_o (l6_2) rfl rfl) rfl rfl) rfl rfl) rfl rfl)) ?_
            refine w_icmpne (t := 154) rfl rfl (show inr ((z16 + y16_0_11)) from q_3119 b19 b28 gz18 h4 pz16_2 pz29_1) (show inr (a2) from h1) (fun b33 => ?_) (fun b33 => ?_)
            · refine Ew_of (pcₚ := 155) (fun _ => x_iload_n rfl (rk_o (rk_o (rk_o (rk_o (l6_2) rfl rfl) rfl rfl) rfl rfl) rfl rfl)) ?_
              refine Ew_of (pcₚ := 157) (fun _ => x_iload rfl rk_s) ?_
              refine w_isub rfl ?_
              refine Ew_of (pcₚ := 159) (fun _ => x_iconst rfl) ?_
              refine w_icmpge (t := 169) rfl rfl (show inr ((a2 - (z16 + y16_0_11))) from q_3120 b19 b28 gz18 h4 pz16_2 pz29_1) (show inr (2) from q_122) (fun b34 => ?_) (fun b34 => ?_)
              · have hln : ((sc ((w5)) 0 ((u4_1)) ++ sc ((w29_2)) ((a3)) ((y29_0_1))).length : Int) = (u4_1) + ((y29_0_1) - (a3)) := by rw [List.length_append, sc_len, sc_len]; omega
                refine Ew_of (pcₚ := 171) (fun _ => x_iload rfl rk_s) ?_
                refine Ew_of (pcₚ := 173) (fun _ => x_istore rfl) ?_
                refine Ew_of (pcₚ := 174) (fun _ => x_aload_n rfl (rk_o (rk_o (rk_o (rk_o (rk_o (l6_0) rfl rfl) rfl rfl) rfl rfl) rfl rfl) rfl rfl)) ?_
                refine Ew_stk (congrArg (fun qz : Nat => ([.ref qz] : List Value)) (show D29 0 = D_6 0 from ((show D29 0 = D_6 0 from (eD29 0)))).symm) ?_
                refine v_g H (o := 0) (v := .ref (D29 1)) rfl rfl rfl rfl rfl (vrf ((mF29 0 4 rfl).trans ((pf1).trans (congrArg (fun q : Nat => (q : Int)) (mD29 1 rfl).symm)))) ?_
                refine Ew_of (pcₚ := 179) (fun _ => x_iload rfl (rk_o (rk_s) rfl rfl)) ?_
                refine Ew_of (pcₚ := 180) (fun _ => x_iconst rfl) ?_
                refine w_stat25 rfl rfl (by rfl) (C42_Br (D := puc 1 D29) (N := puc 1 N29) (HW_subc H oz_D2cls_10 oz_D2cls_18) (n1) ((congrArg (fun q : Nat => (q : Int)) (mN29 1 rfl)).trans (en1)) (w1) ((funext (mA29 1 rfl)).trans (ew1)) (show inr ((z16 + y16_0_11)) from q_3122 b19 b34 h4 pz16_2) (show inr (2) from q_122) (show (2) ≤ 0 ∨ 0 ≤ ((z16 + y16_0_11)) ∧ ((z16 + y16_0_11)) + (2) ≤ (n1) from q_3121 b19 b34 h4 pz16_2) (show 0 ≤ (2) ∧ (2) ≤ 8 from q_2748) (fun z35 σ35 F35ₚ A35ₚ Hₚ Oₚ hS35 hA35 pz35_0 pz35_1 pz35_2 => ⟨rfl, ?_⟩))
                refine v_backc (c := (c_6 + c29)) (s := (s_6 + s29)) H oz_D2cls_10 oz_D2cls_18 Hₚ Oₚ (fun F35 A35 H Oₚ eF35 eA35 => ?_)
                have O := OUT_trans O Oₚ
                -- PackHouse.number
                have cF35 : SF oz_D2clsl_3 F F35 := SF_trans (cF29) (SF_gluc (ι := oz_D2clsl_8) oz_D2cls_18 hS35 eF35 (by decide +kernel)) (any_sub (lₚ := []) (by decide +kernel))
                have mF35 := SFm_of cF35 oz_D2cls_13
                have cA35 : SA oz_D2clsl_4 A A35 := SA_trans (cA29) (SA_gluc (ι := oz_D2clsl_8) oz_D2cls_18 hA35 eA35 (by decide +kernel)) (any_subA (lₚ := []) (by decide +kernel))
                have mA35 := SAm_of cA35 oz_D2cls_14
                have hnb := nb2 pz35_1
                have hnd := nmb_2 pz35_2 hnb
                refine w_l2i rfl ?_
                refine Ew_of (pcₚ := 186) (fun _ => x_istore rfl) ?_
                have hdd : (z35) = (ub8 ((w1))) (((z16 + y16_0_11))) + 256 * (ub8 ((w1))) (((z16 + y16_0_11)) + 1) := by show _ = u8 _ + 256 * u8 _; omega
                refine Ew_of (pcₚ := 188) (fun _ => x_iload rfl rk_s) ?_
                refine w_ifeq (t := 213) rfl rfl (show inr (z35) by omega) (fun b36 => ?_) (fun b36 => ?_)
                · refine Ew_of (pcₚ := 214) (fun _ => x_aload_n rfl (rk_o (rk_o (rk_o (rk_o (rk_o (rk_o (l6_0) rfl rfl) rfl rfl) rfl rfl) rfl rfl) rfl rfl) rfl rfl)) ?_
                  refine Ew_of (pcₚ := 215) (fun _ => x_iconst rfl) ?_
                  refine Ew_of (pcₚ := 217) (fun _ => x_iload rfl (rk_o (rk_s) rfl rfl)) ?_
                  refine Ew_stk (congrArg (fun qz : Nat => ([I ((z16 + y16_0_11)), I (2), .ref qz] : List Value)) (show D29 0 = D_6 0 from ((show D29 0 = D_6 0 from (eD29 0)))).symm) ?_
                  refine v_inv H (o := 0) rfl rfl rfl rfl rfl rfl (by rfl) (C221 (D := puc 0 D29) (N := puc 0 N29) (HW_subc H oz_D2cls_7 oz_D2cls_16) (u0_12) (((((((show F35 0 12 = F29 0 12 from (eF35 0 12))).trans ((show F29 0 12 = F16 0 12 from (eF29 0 12)))).trans ((show F16 0 12 = F_6 0 12 from (eF16 0 12).trans (hS16 0 12 rfl)))).trans (hS_6 0 12 rfl)).trans (eu0_12))) (show inr (2) from q_122) (show inr ((z16 + y16_0_11)) from q_3122 b19 b34 h4 pz16_2) (fun z37 σ37 F37ₚ A37ₚ Hₚ Oₚ hS37 hA37 y37_0_12 ey37_0_12 pz37_0 pz37_1 pz37_2 => ⟨rfl, ?_⟩))
                  refine v_backc (c := (c_6 + c29)) (s := (s_6 + s29)) H oz_D2cls_7 oz_D2cls_16 Hₚ Oₚ (fun F37 A37 H Oₚ eF37 eA37 => ?_)
                  have O := OUT_trans O Oₚ
                  -- Tokens.fail
                  have cF37 : SF oz_D2clsl_3 F F37 := SF_trans (cF35) (SF_gluc (ι := oz_D2clsl_6) oz_D2cls_16 hS37 eF37 (by decide +kernel)) (any_sub (lₚ := [(0, 12)]) (by decide +kernel))
                  have mF37 := SFm_of cF37 oz_D2cls_13
                  have cA37 : SA oz_D2clsl_4 A A37 := SA_trans (cA35) (SA_gluc (ι := oz_D2clsl_6) oz_D2cls_16 hA37 eA37 (by decide +kernel)) (any_subA (lₚ := []) (by decide +kernel))
                  have mA37 := SAm_of cA37 oz_D2cls_14
                  have r38 : (-2147483648 : Int) ≤ y37_0_12 ∧ y37_0_12 ≤ 2147483647 := rngE (show (-2147483648 : Int) ≤ F37 0 12 ∧ F37 0 12 ≤ 2147483647 from H.krg 0 12 (ltn len_V224_oz_D2cls rfl)) (show F37 0 12 = y37_0_12 from ((eF37 0 12).trans ey37_0_12))
                  have : TBP (ub8 ((w1))) ((a2)) ((a1)) (sc ((w5)) 0 ((u4_1)) ++ sc ((w3)) ((a3)) ((u2_1))) ((a4) - (u2_1)) ((z37)) ((y37_0_12)) (sc ((w5)) 0 ((u4_1)) ++ sc ((w29_2)) ((a3)) ((y29_0_1))) := TBP_f (TB2_d hb2 (by omega) hdd (by omega) (by omega) (by omega)) (by omega)
                  exact w_ireturn rfl (k (z37) _ _ _ _ _ _ _ H O (cD29) (cN29) (cF37) (cA37) (((((show F37 2 0 = F35 2 0 from (eF37 2 0))).trans ((show F35 2 0 = F29 2 0 from (eF35 2 0))))).trans (pf29_2_0)) (m29_2) ((congrArg (fun q : Nat => (q : Int)) (eN29 3)).trans em29_2) (y37_0_12) (((eF37 0 12).trans ey37_0_12)) (y29_0_1) (((((show F37 2 1 = F35 2 1 from (eF37 2 1))).trans ((show F35 2 1 = F29 2 1 from (eF35 2 1)))).trans ((eF29 2 1).trans ey29_0_1))) (y29_0_2) (((((show F37 2 2 = F35 2 2 from (eF37 2 2))).trans ((show F35 2 2 = F29 2 2 from (eF35 2 2)))).trans ((eF29 2 2).trans ey29_0_2))) (w29_2) (((show A37 3 = A35 3 from (eA37 3))).trans (((show A35 3 = A29 3 from (eA35 3))).trans ((eA29 3).trans ew29_2))) (show inr (z37) from pz37_0) (show 0 ≤ (z37) ∧ (z37) ≤ 3 from q_2587 pz37_1) (show 0 ≤ (y29_0_1) ∧ (y29_0_1) ≤ (m29_2) ∧ (m29_2) ≤ 65536 from pz29_0) (show (u2_1) ≤ (y29_0_1) from q_3124 j6_6 pz16_2 pz29_1) (show (y29_0_1) ≤ a4 ∨ (y29_0_1) = (u2_1) by omega) (show (y29_0_2) = 0 by omega) (show TBP (ub8 ((w1))) (a2) (a1) (sc ((w5)) 0 ((u4_1)) ++ sc ((w3)) (a3) ((u2_1))) (a4 - (u2_1)) ((z37)) ((y37_0_12)) (sc ((w5)) 0 ((u4_1)) ++ sc ((w29_2)) (a3) ((y29_0_1))) by assumption) (show (z37) ≠ 0 ∨ (y37_0_12) = (u0_12) from q_3123 pz37_1) (hsm1))
                · refine Ew_of (pcₚ := 193) (fun _ => x_iload rfl rk_s) ?_
                  refine Ew_of (pcₚ := 194) (fun _ => x_aload_n rfl (rk_o (rk_o (rk_o (rk_o (rk_o (rk_o (l6_0) rfl rfl) rfl rfl) rfl rfl) rfl rfl) rfl rfl) rfl rfl)) ?_
                  refine Ew_stk (congrArg (fun qz : Nat => ([.ref qz, I (z35)] : List Value)) (show D29 0 = D_6 0 from ((show D29 0 = D_6 0 from (eD29 0)))).symm) ?_
                  refine v_g H (o := 0) (v := .ref (D29 2)) rfl rfl rfl rfl rfl (vrf ((mF35 0 6 rfl).trans ((pf2).trans (congrArg (fun q : Nat => (q : Int)) (mD29 2 rfl).symm)))) ?_
                  refine v_g H (o := 2) (v := I (y29_0_1)) rfl rfl rfl rfl rfl (congrArg (fun z : Int => I z) ((((show F35 2 1 = F29 2 1 from (eF35 2 1))).trans ((eF29 2 1).trans ey29_0_1)) : F35 2 1 = y29_0_1)) ?_
                  refine Ew_of (pcₚ := 201) (fun _ => x_iload_n rfl (rk_o (rk_o (rk_o (rk_o (rk_o (rk_o (l6_3) rfl rfl) rfl rfl) rfl rfl) rfl rfl) rfl rfl) rfl rfl)) ?_
                  refine w_isub rfl ?_
                  refine Ew_of (pcₚ := 203) (fun _ => x_aload_n rfl (rk_o (rk_o (rk_o (rk_o (rk_o (rk_o (l6_0) rfl rfl) rfl rfl) rfl rfl) rfl rfl) rfl rfl) rfl rfl)) ?_
                  refine Ew_stk (congrArg (fun qz : Nat => ([.ref qz, I ((y29_0_1 - a3)), I (z35)] : List Value)) (show D29 0 = D_6 0 from ((show D29 0 = D_6 0 from (eD29 0)))).symm) ?_
                  refine v_g H (o := 0) (v := .ref (D29 4)) rfl rfl rfl rfl rfl (vrf ((mF35 0 1 rfl).trans ((pf4).trans (congrArg (fun q : Nat => (q : Int)) (mD29 4 rfl).symm)))) ?_
                  refine v_g H (o := 4) (v := I (u4_1)) rfl rfl rfl rfl rfl (congrArg (fun z : Int => I z) (((mF35 4 1 rfl).trans (eu4_1)) : F35 4 1 = u4_1)) ?_
                  refine w_iadd rfl ?_
                  refine w_icmple (t := 221) rfl rfl (show inr (z35) by omega) (show inr (((y29_0_1 - a3) + u4_1)) from q_3125 h2 h6 h7 pz29_0) (fun b39 => ?_) (fun b39 => ?_)
                  · refine Ew_of (pcₚ := 222) (fun _ => x_aload_n rfl (rk_o (rk_o (rk_o (rk_o (rk_o (rk_o (l6_0) rfl rfl) rfl rfl) rfl rfl) rfl rfl) rfl rfl) rfl rfl)) ?_
                    refine Ew_of (pcₚ := 224) (fun _ => x_iload rfl (rk_o (rk_o (rk_o (rk_o (rk_o (rk_s) rfl rfl) rfl rfl) rfl rfl) rfl rfl) rfl rfl)) ?_
                    refine Ew_of (pcₚ := 226) (fun _ => x_bipush (z := 15) rfl (by decide)) ?_
                    refine w_iandE rfl (show inr ((v13 % 256)) from q_461) (show inr (15) from q_399) (fun z40 gz40 gaz40 gbz40 gez40 => ?_)
                    have ha15 : (z40) = ((v13 % 256)) % 16 := and15 (by omega) (by assumption)
                    refine Ew_of (pcₚ := 229) (fun _ => x_iload rfl (rk_o (rk_o (rk_s) rfl rfl) rfl rfl)) ?_
                    refine Ew_of (pcₚ := 230) (fun _ => x_iconst rfl) ?_
                    refine w_iadd rfl ?_
                    refine Ew_of (pcₚ := 232) (fun _ => x_iload_n rfl (rk_o (rk_o (rk_o (rk_o (rk_o (rk_o (l6_2) rfl rfl) rfl rfl) rfl rfl) rfl rfl) rfl rfl) rfl rfl)) ?_
                    refine Ew_stk (congrArg (fun qz : Nat => ([I (a2), I (((z16 + y16_0_11) + 2)), I (z40), .ref qz] : List Value)) (show D29 0 = D_6 0 from ((show D29 0 = D_6 0 from (eD29 0)))).symm) ?_
                    refine v_inv H (o := 0) rfl rfl rfl rfl rfl rfl (by rfl) (C225 (D := puc 512 D29) (N := puc 512 N29) (HW_subc H oz_D2cls_6 oz_D2cls_15) ((mF35 0 4 rfl).trans ((pf1).trans (congrArg (fun q : Nat => (q : Int)) (mD29 1 rfl).symm))) (n1) ((congrArg (fun q : Nat => (q : Int)) (mN29 1 rfl)).trans (en1)) (y16_0_11) (((((show F35 0 11 = F29 0 11 from (eF35 0 11))).trans ((show F29 0 11 = F16 0 11 from (eF29 0 11)))).trans ((eF16 0 11).trans ey16_0_11))) (w1) ((funext (mA35 1 rfl)).trans (ew1)) (show inr (z40) from gz40) (show inr (((z16 + y16_0_11) + 2)) from q_3128 b19 b34 h4 pz16_2) (show inr (a2) from h1) (show 0 ≤ (z40) ∧ (z40) ≤ 15 from q_3127 ha15) (show 0 ≤ (((z16 + y16_0_11) + 2)) ∧ (((z16 + y16_0_11) + 2)) ≤ (a2) ∧ (a2) ≤ (n1) ∧ (n1) ≤ 65536 from q_3126 b19 b34 h4 pz16_2) (fun z41 σ41 F41ₚ A41ₚ Hₚ Oₚ hS41 hA41 y41_0_11 ey41_0_11 pz41_0 pz41_1 pz41_2 pz41_3 pz41_4 => ⟨rfl, ?_⟩))
                    refine v_backc (c := (c_6 + c29)) (s := (s_6 + s29)) H oz_D2cls_6 oz_D2cls_15 Hₚ Oₚ (fun F41 A41 H Oₚ eF41 eA41 => ?_)
                    have O := OUT_trans O Oₚ
                    -- Tokens.addUp
                    have cF41 : SF oz_D2clsl_3 F F41 := SF_trans (cF35) (SF_gluc (ι := oz_D2clsl_5) oz_D2cls_15 hS41 eF41 (by decide +kernel)) (any_sub (lₚ := [(0, 11)]) (by decide +kernel))
                    have mF41 := SFm_of cF41 oz_D2cls_13
                    have cA41 : SA oz_D2clsl_4 A A41 := SA_trans (cA35) (SA_gluc (ι := oz_D2clsl_5) oz_D2cls_15 hA41 eA41 (by decide +kernel)) (any_subA (lₚ := []) (by decide +kernel))
                    have mA41 := SAm_of cA41 oz_D2cls_14
                    have r42 : (-2147483648 : Int) ≤ y41_0_11 ∧ y41_0_11 ≤ 2147483647 := rngE (show (-2147483648 : Int) ≤ F41 0 11 ∧ F41 0 11 ≤ 2147483647 from H.krg 0 11 (ltn len_V224_oz_D2cls rfl)) (show F41 0 11 = y41_0_11 from ((eF41 0 11).trans ey41_0_11))
                    refine Ew_of (pcₚ := 237) (fun _ => x_istore rfl) ?_
                    refine Ew_of (pcₚ := 239) (fun _ => x_iload rfl rk_s) ?_
                    refine w_ifge (t := 249) rfl rfl (show inr (z41) from pz41_0) (fun b43 => ?_) (fun b43 => ?_)
                    · refine Ew_of (pcₚ := 250) (fun _ => x_aload_n rfl (rk_o (rk_o (rk_o (rk_o (rk_o (rk_o (rk_o (l6_0) rfl rfl) rfl rfl) rfl rfl) rfl rfl) rfl rfl) rfl rfl) rfl rfl)) ?_
                      refine Ew_stk (congrArg (fun qz : Nat => ([.ref qz] : List Value)) (show D29 0 = D_6 0 from ((show D29 0 = D_6 0 from (eD29 0)))).symm) ?_
                      refine v_g H (o := 0) (v := I (y41_0_11)) rfl rfl rfl rfl rfl (congrArg (fun z : Int => I z) (((eF41 0 11).trans ey41_0_11) : F41 0 11 = y41_0_11)) ?_
                      refine Ew_of (pcₚ := 254) (fun _ => x_iconst rfl) ?_
                      refine w_iadd rfl ?_
                      refine Ew_of (pcₚ := 257) (fun _ => x_iload rfl (rk_o (rk_o (rk_o (rk_o (rk_o (rk_o (rk_o (l6_4) rfl rfl) rfl rfl) rfl rfl) rfl rfl) rfl rfl) rfl rfl) rfl rfl)) ?_
                      refine Ew_of (pcₚ := 258) (fun _ => x_aload_n rfl (rk_o (rk_o (rk_o (rk_o (rk_o (rk_o (rk_o (l6_0) rfl rfl) rfl rfl) rfl rfl) rfl rfl) rfl rfl) rfl rfl) rfl rfl)) ?_
                      refine Ew_stk (congrArg (fun qz : Nat => ([.ref qz, I (a4), I ((y41_0_11 + 4))] : List Value)) (show D29 0 = D_6 0 from ((show D29 0 = D_6 0 from (eD29 0)))).symm) ?_
                      refine v_g H (o := 0) (v := .ref (D29 2)) rfl rfl rfl rfl rfl (vrf ((mF41 0 6 rfl).trans ((pf2).trans (congrArg (fun q : Nat => (q : Int)) (mD29 2 rfl).symm)))) ?_
                      refine v_g H (o := 2) (v := I (y29_0_1)) rfl rfl rfl rfl rfl (congrArg (fun z : Int => I z) (((((show F41 2 1 = F35 2 1 from (eF41 2 1))).trans ((show F35 2 1 = F29 2 1 from (eF35 2 1)))).trans ((eF29 2 1).trans ey29_0_1)) : F41 2 1 = y29_0_1)) ?_
                      refine w_isub rfl ?_
                      refine w_icmple (t := 276) rfl rfl (show inr ((y41_0_11 + 4)) by omega) (show inr ((a4 - y29_0_1)) from q_3129 h8 pz29_0) (fun b44 => ?_) (fun b44 => ?_)
                      · refine Ew_of (pcₚ := 277) (fun _ => x_aload_n rfl (rk_o (rk_o (rk_o (rk_o (rk_o (rk_o (rk_o (l6_0) rfl rfl) rfl rfl) rfl rfl) rfl rfl) rfl rfl) rfl rfl) rfl rfl)) ?_
                        refine Ew_stk (congrArg (fun qz : Nat => ([.ref qz] : List Value)) (show D29 0 = D_6 0 from ((show D29 0 = D_6 0 from (eD29 0)))).symm) ?_
                        refine v_g H (o := 0) (v := .ref (D29 2)) rfl rfl rfl rfl rfl (vrf ((mF41 0 6 rfl).trans ((pf2).trans (congrArg (fun q : Nat => (q : Int)) (mD29 2 rfl).symm)))) ?_
                        refine Ew_of (pcₚ := 282) (fun _ => x_iload rfl (rk_o (rk_s) rfl rfl)) ?_
                        refine Ew_of (pcₚ := 283) (fun _ => x_aload_n rfl (rk_o (rk_o (rk_o (rk_o (rk_o (rk_o (rk_o (l6_0) rfl rfl) rfl rfl) rfl rfl) rfl rfl) rfl rfl) rfl rfl) rfl rfl)) ?_
                        refine Ew_stk (congrArg (fun qz : Nat => ([.ref qz, I (z35), .ref (D29 2)] : List Value)) (show D29 0 = D_6 0 from ((show D29 0 = D_6 0 from (eD29 0)))).symm) ?_
                        refine v_g H (o := 0) (v := I (y41_0_11)) rfl rfl rfl rfl rfl (congrArg (fun z : Int => I z) (((eF41 0 11).trans ey41_0_11) : F41 0 11 = y41_0_11)) ?_
                        refine Ew_of (pcₚ := 287) (fun _ => x_iconst rfl) ?_
                        refine w_iadd rfl ?_
                        refine Ew_of (pcₚ := 289) (fun _ => x_iload_n rfl (rk_o (rk_o (rk_o (rk_o (rk_o (rk_o (rk_o (l6_3) rfl rfl) rfl rfl) rfl rfl) rfl rfl) rfl rfl) rfl rfl) rfl rfl)) ?_
                        refine Ew_of (pcₚ := 290) (fun _ => x_aload_n rfl (rk_o (rk_o (rk_o (rk_o (rk_o (rk_o (rk_o (l6_0) rfl rfl) rfl rfl) rfl rfl) rfl rfl) rfl rfl) rfl rfl) rfl rfl)) ?_
                        refine Ew_stk (congrArg (fun qz : Nat => ([.ref qz, I (a3), I ((y41_0_11 + 4)), I (z35), .ref (D29 2)] : List Value)) (show D29 0 = D_6 0 from ((show D29 0 = D_6 0 from (eD29 0)))).symm) ?_
                        refine v_g H (o := 0) (v := .ref (D29 4)) rfl rfl rfl rfl rfl (vrf ((mF41 0 1 rfl).trans ((pf4).trans (congrArg (fun q : Nat => (q : Int)) (mD29 4 rfl).symm)))) ?_
                        refine v_inv H (o := 2) rfl rfl rfl rfl rfl rfl (by rfl) (C163_Row (D := puc 671877122 D29) (N := puc 671877122 N29) (HW_subc H oz_D2cls_11 oz_D2cls_19) (((((show F41 2 0 = F35 2 0 from (eF41 2 0))).trans ((show F35 2 0 = F29 2 0 from (eF35 2 0))))).trans (pf29_2_0)) ((mF41 4 0 rfl).trans ((pf5).trans (congrArg (fun q : Nat => (q : Int)) (mD29 5 rfl).symm))) (m29_2) ((congrArg (fun q : Nat => (q : Int)) (eN29 3)).trans em29_2) (n5) ((congrArg (fun q : Nat => (q : Int)) (mN29 5 rfl)).trans (en5)) (y29_0_1) (((((show F41 2 1 = F35 2 1 from (eF41 2 1))).trans ((show F35 2 1 = F29 2 1 from (eF35 2 1)))).trans ((eF29 2 1).trans ey29_0_1))) (y29_0_2) (((((show F41 2 2 = F35 2 2 from (eF41 2 2))).trans ((show F35 2 2 = F29 2 2 from (eF35 2 2)))).trans ((eF29 2 2).trans ey29_0_2))) (u4_1) (((mF41 4 1 rfl).trans (eu4_1))) (w29_2) (((show A41 3 = A35 3 from (eA41 3))).trans (((show A35 3 = A29 3 from (eA35 3))).trans ((eA29 3).trans ew29_2))) (w5) ((funext (mA41 5 rfl)).trans (ew5)) (show inr (z35) by omega) (show inr ((y41_0_11 + 4)) from q_3131 b44 h8 pz29_0 pz41_2) (show inr (a3) from h2) (show 0 ≤ (y29_0_1) ∧ (y29_0_1) ≤ (m29_2) ∧ (m29_2) ≤ 65536 from pz29_0) (show 0 ≤ (u4_1) ∧ (u4_1) ≤ (n5) ∧ (n5) ≤ 65536 from h6) (show 0 ≤ (a3) ∧ (a3) ≤ (y29_0_1) from q_3130 h7 j6_6 pz16_2 pz29_1) (show ((y41_0_11 + 4)) < 0 ∨ 1 ≤ (z35) ∧ ((z35) ≤ (y29_0_1) - (a3) ∨ (z35) - ((y29_0_1) - (a3)) ≤ (u4_1)) by omega) (fun σ45 D45ₚ N45ₚ F45ₚ A45ₚ c45 s45 Hₚ Oₚ hD45 hN45 hS45 hA45 pm45_2 m45_2 em45_2 y45_0_1 ey45_0_1 y45_0_2 ey45_0_2 w45_2 ew45_2 pz45_0 pz45_1 pz45_2 pz45_3 pz45_4 => ⟨rfl, ?_⟩))
                        refine v_backMc (c := (c_6 + c29)) (s := (s_6 + s29)) H oz_D2cls_11 oz_D2cls_19 Hₚ Oₚ hD45 oz_D2cls_12 (fun D45 N45 F45 A45 H Oₚ eD45 eN45 eF45 eA45 => ?_)
                        have O := OUT_trans O Oₚ
                        -- Row.copyBack
                        have cF45 : SF oz_D2clsl_3 F F45 := SF_trans (cF41) (SF_gluc (ι := oz_D2clsl_9) oz_D2cls_19 hS45 eF45 (by decide +kernel)) (any_sub (lₚ := [(2, 0), (2, 1), (2, 2)]) (by decide +kernel))
                        have mF45 := SFm_of cF45 oz_D2cls_13
                        have cA45 : SA oz_D2clsl_4 A A45 := SA_trans (cA41) (SA_gluc (ι := oz_D2clsl_9) oz_D2cls_19 hA45 eA45 (by decide +kernel)) (any_subA (lₚ := [3]) (by decide +kernel))
                        have mA45 := SAm_of cA45 oz_D2cls_14
                        have cD45 : SD oz_D2clsl_4 D D45 := SD_trans (cD29) (SD_gluc (ι := oz_D2clsl_9) oz_D2cls_19 hD45 eD45 (by decide +kernel)) (any_subA (lₚ := [3]) (by decide +kernel))
                        have mD45 := SDm_of cD45 oz_D2cls_14
                        have cN45 : SD oz_D2clsl_4 N N45 := SD_trans (cN29) (SD_gluc (ι := oz_D2clsl_9) oz_D2cls_19 hN45 eN45 (by decide +kernel)) (any_subA (lₚ := [3]) (by decide +kernel))
                        have mN45 := SDm_of cN45 oz_D2cls_14
                        have pf45_2_0 : F45 2 0 = (D45 3 : Int) := (eF45 2 0).trans (pm45_2.trans (congrArg (fun q : Nat => (q : Int)) (eD45 3).symm))
                        have r46 : (0 : Int) ≤ m45_2 ∧ m45_2 ≤ 1000000 := nleE (H.nle 3 (ltn len_V224_oz_D2cls rfl)) (show (N45 3 : Int) = m45_2 from (congrArg (fun q : Nat => (q : Int)) (eN45 3)).trans em45_2)
                        have r47 : (-2147483648 : Int) ≤ y45_0_1 ∧ y45_0_1 ≤ 2147483647 := rngE (show (-2147483648 : Int) ≤ F45 2 1 ∧ F45 2 1 ≤ 2147483647 from H.krg 2 1 (ltn len_V224_oz_D2cls rfl)) (show F45 2 1 = y45_0_1 from ((eF45 2 1).trans ey45_0_1))
                        have r48 : (0 : Int) ≤ y45_0_2 ∧ y45_0_2 ≤ 1 := rngE (show (0 : Int) ≤ F45 2 2 ∧ F45 2 2 ≤ 1 from H.krg 2 2 (ltn len_V224_oz_D2cls rfl)) (show F45 2 2 = y45_0_2 from ((eF45 2 2).trans ey45_0_2))
                        have hcb := pz45_4 (by omega)
                        have hcs := pz45_3
                        have hcn := pz45_1
                        have hsm2 : ∀ i, (0 : Int) ≤ i → i < (u2_1) → ((w45_2)) i = ((w3)) i := fun i x y => (pz45_2 i x (by omega)).trans (hsm1 i x y)
                        refine Ew_of (pcₚ := 299) (fun _ => x_iinc (len := 3) rfl (rk_o (rk_o (rk_o (rk_o (rk_o (rk_o (rk_o (l6_6) rfl rfl) rfl rfl) rfl rfl) rfl rfl) rfl rfl) rfl rfl) rfl rfl)) ?_
                        refine Ew_of (pcₚ := 6) (fun _ => x_goto rfl rfl) ?_
                        have : TBO (ub8 ((w1))) ((a2)) ((a1)) (sc ((w5)) 0 ((u4_1)) ++ sc ((w3)) ((a3)) ((u2_1))) ((a4) - (u2_1)) ((z41)) (sc ((w5)) 0 ((u4_1)) ++ sc ((w45_2)) ((a3)) ((y45_0_1))) ((a4) - (y45_0_1)) := TB2_s hb2 (by omega) hdd (by omega) (pz41_3 (by omega)) (by omega) (by omega) (by omega) (by omega) hcb (by omega)
                        exact ih6 _ (msE hm6 q_77 (q_890 b11)) _ _ _ _ _ _ _ _ (z41) ((x6_6 + 1)) ((rk_o (rk_o (rk_o (rk_o (rk_o (rk_o (rk_o (rk_o (l6_0) rfl rfl) rfl rfl) rfl rfl) rfl rfl) rfl rfl) rfl rfl) rfl rfl) rfl rfl).trans (congrArg (fun q : Nat => some (Value.ref q)) ((((show D45 0 = D29 0 from (eD45 0))).trans ((show D29 0 = D_6 0 from (eD29 0))))).symm)) (rk_o (rk_o (rk_o (rk_o (rk_o (rk_o (rk_o (rk_o (l6_2) rfl rfl) rfl rfl) rfl rfl) rfl rfl) rfl rfl) rfl rfl) rfl rfl) rfl rfl) (rk_o (rk_o (rk_o (rk_o (rk_o (rk_o (rk_o (rk_o (l6_3) rfl rfl) rfl rfl) rfl rfl) rfl rfl) rfl rfl) rfl rfl) rfl rfl) rfl rfl) (rk_o (rk_o (rk_o (rk_o (rk_o (rk_o (rk_o (rk_o (l6_4) rfl rfl) rfl rfl) rfl rfl) rfl rfl) rfl rfl) rfl rfl) rfl rfl) rfl rfl) (rk_o (rk_s) rfl rfl) (rk_s) H O (SD_trans (SD_trans (hD_6) (SD_gluc (ι := oz_D2clsl_7) oz_D2cls_17 hD29 eD29 (by decide +kernel)) (any_subA (lₚ := [3]) (by decide +kernel))) (SD_gluc (ι := oz_D2clsl_9) oz_D2cls_19 hD45 eD45 (by decide +kernel)) (any_subA (lₚ := [3]) (by decide +kernel))) (SD_trans (SD_trans (hN_6) (SD_gluc (ι := oz_D2clsl_7) oz_D2cls_17 hN29 eN29 (by decide +kernel)) (any_subA (lₚ := [3]) (by decide +kernel))) (SD_gluc (ι := oz_D2clsl_9) oz_D2cls_19 hN45 eN45 (by decide +kernel)) (any_subA (lₚ := [3]) (by decide +kernel))) (SF_trans (SF_trans (SF_trans (SF_trans (SF_trans (hS_6) (SF_gluc (ι := oz_D2clsl_5) oz_D2cls_15 hS16 eF16 (by decide +kernel)) (any_sub (lₚ := [(0, 11)]) (by decide +kernel))) (SF_gluc (ι := oz_D2clsl_7) oz_D2cls_17 hS29 eF29 (by decide +kernel)) (any_sub (lₚ := [(2, 0), (2, 1), (2, 2)]) (by decide +kernel))) (SF_gluc (ι := oz_D2clsl_8) oz_D2cls_18 hS35 eF35 (by decide +kernel)) (any_sub (lₚ := []) (by decide +kernel))) (SF_gluc (ι := oz_D2clsl_5) oz_D2cls_15 hS41 eF41 (by decide +kernel)) (any_sub (lₚ := [(0, 11)]) (by decide +kernel))) (SF_gluc (ι := oz_D2clsl_9) oz_D2cls_19 hS45 eF45 (by decide +kernel)) (any_sub (lₚ := [(2, 0), (2, 1), (2, 2)]) (by decide +kernel))) (SA_trans (SA_trans (SA_trans (SA_trans (SA_trans (hA_6) (SA_gluc (ι := oz_D2clsl_5) oz_D2cls_15 hA16 eA16 (by decide +kernel)) (any_subA (lₚ := []) (by decide +kernel))) (SA_gluc (ι := oz_D2clsl_7) oz_D2cls_17 hA29 eA29 (by decide +kernel)) (any_subA (lₚ := [3]) (by decide +kernel))) (SA_gluc (ι := oz_D2clsl_8) oz_D2cls_18 hA35 eA35 (by decide +kernel)) (any_subA (lₚ := []) (by decide +kernel))) (SA_gluc (ι := oz_D2clsl_5) oz_D2cls_15 hA41 eA41 (by decide +kernel)) (any_subA (lₚ := []) (by decide +kernel))) (SA_gluc (ι := oz_D2clsl_9) oz_D2cls_19 hA45 eA45 (by decide +kernel)) (any_subA (lₚ := [3]) (by decide +kernel))) (pf45_2_0) (m45_2) ((congrArg (fun q : Nat => (q : Int)) (eN45 3)).trans em45_2) (y45_0_1) (((eF45 2 1).trans ey45_0_1)) (y45_0_2) (((eF45 2 2).trans ey45_0_2)) (w45_2) ((eA45 3).trans ew45_2) (show inr (z41) from pz41_0) (show inr ((x6_6 + 1)) from q_3136 b11 h4 j6_1) (show (a1) ≤ ((x6_6 + 1)) from q_161 j6_2) (show ((x6_6 + 1)) ≤ (a1) ∨ ((x6_6 + 1)) ≤ (((a2) + 1)) from q_3135 b11) (show 0 ≤ (z41) ∧ (z41) ≤ (a2) from q_3134 b12 b43 j6_4 pz41_1) (show 0 ≤ (y45_0_1) ∧ (y45_0_1) ≤ (m45_2) ∧ (m45_2) ≤ 65536 from pz45_0) (show (u2_1) ≤ (y45_0_1) by omega) (show (y45_0_1) ≤ (a4) from q_3133 b44 h8 pz41_2 pz45_0 pz45_1) (show (y45_0_2) = 0 by omega) (show ((x6_6 + 1)) ≤ (z41) from q_3132 b19 b43 j6_1 j6_9 pz16_1 pz16_2 pz41_1) (show TBO (ub8 ((w1))) ((a2)) ((a1)) (sc ((w5)) 0 ((u4_1)) ++ sc ((w3)) ((a3)) ((u2_1))) ((a4) - (u2_1)) ((z41)) (sc ((w5)) 0 ((u4_1)) ++ sc ((w45_2)) ((a3)) ((y45_0_1))) ((a4) - (y45_0_1)) by assumption) (hsm2) rfl
                      · refine Ew_of (pcₚ := 269) (fun _ => x_aload_n rfl (rk_o (rk_o (rk_o (rk_o (rk_o (rk_o (rk_o (l6_0) rfl rfl) rfl rfl) rfl rfl) rfl rfl) rfl rfl) rfl rfl) rfl rfl)) ?_
                        refine Ew_of (pcₚ := 270) (fun _ => x_iconst rfl) ?_
                        refine Ew_of (pcₚ := 272) (fun _ => x_iload rfl (rk_o (rk_o (rk_s) rfl rfl) rfl rfl)) ?_
                        refine Ew_stk (congrArg (fun qz : Nat => ([I ((z16 + y16_0_11)), I (3), .ref qz] : List Value)) (show D29 0 = D_6 0 from ((show D29 0 = D_6 0 from (eD29 0)))).symm) ?_
                        refine v_inv H (o := 0) rfl rfl rfl rfl rfl rfl (by rfl) (C221 (D := puc 0 D29) (N := puc 0 N29) (HW_subc H oz_D2cls_7 oz_D2cls_16) (u0_12) ((((((((show F41 0 12 = F35 0 12 from (eF41 0 12).trans (hS41 0 12 rfl))).trans ((show F35 0 12 = F29 0 12 from (eF35 0 12)))).trans ((show F29 0 12 = F16 0 12 from (eF29 0 12)))).trans ((show F16 0 12 = F_6 0 12 from (eF16 0 12).trans (hS16 0 12 rfl)))).trans (hS_6 0 12 rfl)).trans (eu0_12))) (show inr (3) from q_246) (show inr ((z16 + y16_0_11)) from q_3122 b19 b34 h4 pz16_2) (fun z49 σ49 F49ₚ A49ₚ Hₚ Oₚ hS49 hA49 y49_0_12 ey49_0_12 pz49_0 pz49_1 pz49_2 => ⟨rfl, ?_⟩))
                        refine v_backc (c := (c_6 + c29)) (s := (s_6 + s29)) H oz_D2cls_7 oz_D2cls_16 Hₚ Oₚ (fun F49 A49 H Oₚ eF49 eA49 => ?_)
                        have O := OUT_trans O Oₚ
                        -- Tokens.fail
                        have cF49 : SF oz_D2clsl_3 F F49 := SF_trans (cF41) (SF_gluc (ι := oz_D2clsl_6) oz_D2cls_16 hS49 eF49 (by decide +kernel)) (any_sub (lₚ := [(0, 12)]) (by decide +kernel))
                        have mF49 := SFm_of cF49 oz_D2cls_13
                        have cA49 : SA oz_D2clsl_4 A A49 := SA_trans (cA41) (SA_gluc (ι := oz_D2clsl_6) oz_D2cls_16 hA49 eA49 (by decide +kernel)) (any_subA (lₚ := []) (by decide +kernel))
                        have mA49 := SAm_of cA49 oz_D2cls_14
                        have r50 : (-2147483648 : Int) ≤ y49_0_12 ∧ y49_0_12 ≤ 2147483647 := rngE (show (-2147483648 : Int) ≤ F49 0 12 ∧ F49 0 12 ≤ 2147483647 from H.krg 0 12 (ltn len_V224_oz_D2cls rfl)) (show F49 0 12 = y49_0_12 from ((eF49 0 12).trans ey49_0_12))
                        have : TBP (ub8 ((w1))) ((a2)) ((a1)) (sc ((w5)) 0 ((u4_1)) ++ sc ((w3)) ((a3)) ((u2_1))) ((a4) - (u2_1)) ((z49)) ((y49_0_12)) (sc ((w5)) 0 ((u4_1)) ++ sc ((w29_2)) ((a3)) ((y29_0_1))) := TBP_f (TB2_r hb2 (by omega) hdd (by omega) (pz41_3 (by omega)) (by omega) (by omega) (by omega) (by omega) (by omega)) (by omega)
                        exact w_ireturn rfl (k (z49) _ _ _ _ _ _ _ H O (cD29) (cN29) (cF49) (cA49) ((((((show F49 2 0 = F41 2 0 from (eF49 2 0))).trans ((show F41 2 0 = F35 2 0 from (eF41 2 0)))).trans ((show F35 2 0 = F29 2 0 from (eF35 2 0))))).trans (pf29_2_0)) (m29_2) ((congrArg (fun q : Nat => (q : Int)) (eN29 3)).trans em29_2) (y49_0_12) (((eF49 0 12).trans ey49_0_12)) (y29_0_1) ((((((show F49 2 1 = F41 2 1 from (eF49 2 1))).trans ((show F41 2 1 = F35 2 1 from (eF41 2 1)))).trans ((show F35 2 1 = F29 2 1 from (eF35 2 1)))).trans ((eF29 2 1).trans ey29_0_1))) (y29_0_2) ((((((show F49 2 2 = F41 2 2 from (eF49 2 2))).trans ((show F41 2 2 = F35 2 2 from (eF41 2 2)))).trans ((show F35 2 2 = F29 2 2 from (eF35 2 2)))).trans ((eF29 2 2).trans ey29_0_2))) (w29_2) (((show A49 3 = A41 3 from (eA49 3))).trans (((show A41 3 = A35 3 from (eA41 3))).trans (((show A35 3 = A29 3 from (eA35 3))).trans ((eA29 3).trans ew29_2)))) (show inr (z49) from pz49_0) (show 0 ≤ (z49) ∧ (z49) ≤ 3 from q_3115 pz49_1) (show 0 ≤ (y29_0_1) ∧ (y29_0_1) ≤ (m29_2) ∧ (m29_2) ≤ 65536 from pz29_0) (show (u2_1) ≤ (y29_0_1) from q_3124 j6_6 pz16_2 pz29_1) (show (y29_0_1) ≤ a4 ∨ (y29_0_1) = (u2_1) by omega) (show (y29_0_2) = 0 by omega) (show TBP (ub8 ((w1))) (a2) (a1) (sc ((w5)) 0 ((u4_1)) ++ sc ((w3)) (a3) ((u2_1))) (a4 - (u2_1)) ((z49)) ((y49_0_12)) (sc ((w5)) 0 ((u4_1)) ++ sc ((w29_2)) (a3) ((y29_0_1))) by assumption) (show (z49) ≠ 0 ∨ (y49_0_12) = (u0_12) from q_3114 pz49_1) (hsm1))
                    · refine Ew_of (pcₚ := 243) (fun _ => x_aload_n rfl (rk_o (rk_o (rk_o (rk_o (rk_o (rk_o (rk_o (l6_0) rfl rfl) rfl rfl) rfl rfl) rfl rfl) rfl rfl) rfl rfl) rfl rfl)) ?_
                      refine Ew_of (pcₚ := 244) (fun _ => x_iconst rfl) ?_
                      refine Ew_of (pcₚ := 245) (fun _ => x_iload_n rfl (rk_o (rk_o (rk_o (rk_o (rk_o (rk_o (rk_o (l6_2) rfl rfl) rfl rfl) rfl rfl) rfl rfl) rfl rfl) rfl rfl) rfl rfl)) ?_
                      refine Ew_stk (congrArg (fun qz : Nat => ([I (a2), I (1), .ref qz] : List Value)) (show D29 0 = D_6 0 from ((show D29 0 = D_6 0 from (eD29 0)))).symm) ?_
                      refine v_inv H (o := 0) rfl rfl rfl rfl rfl rfl (by rfl) (C221 (D := puc 0 D29) (N := puc 0 N29) (HW_subc H oz_D2cls_7 oz_D2cls_16) (u0_12) ((((((((show F41 0 12 = F35 0 12 from (eF41 0 12).trans (hS41 0 12 rfl))).trans ((show F35 0 12 = F29 0 12 from (eF35 0 12)))).trans ((show F29 0 12 = F16 0 12 from (eF29 0 12)))).trans ((show F16 0 12 = F_6 0 12 from (eF16 0 12).trans (hS16 0 12 rfl)))).trans (hS_6 0 12 rfl)).trans (eu0_12))) (show inr (1) from q_135) (show inr (a2) from h1) (fun z51 σ51 F51ₚ A51ₚ Hₚ Oₚ hS51 hA51 y51_0_12 ey51_0_12 pz51_0 pz51_1 pz51_2 => ⟨rfl, ?_⟩))
                      refine v_backc (c := (c_6 + c29)) (s := (s_6 + s29)) H oz_D2cls_7 oz_D2cls_16 Hₚ Oₚ (fun F51 A51 H Oₚ eF51 eA51 => ?_)
                      have O := OUT_trans O Oₚ
                      -- Tokens.fail
                      have cF51 : SF oz_D2clsl_3 F F51 := SF_trans (cF41) (SF_gluc (ι := oz_D2clsl_6) oz_D2cls_16 hS51 eF51 (by decide +kernel)) (any_sub (lₚ := [(0, 12)]) (by decide +kernel))
                      have mF51 := SFm_of cF51 oz_D2cls_13
                      have cA51 : SA oz_D2clsl_4 A A51 := SA_trans (cA41) (SA_gluc (ι := oz_D2clsl_6) oz_D2cls_16 hA51 eA51 (by decide +kernel)) (any_subA (lₚ := []) (by decide +kernel))
                      have mA51 := SAm_of cA51 oz_D2cls_14
                      have r52 : (-2147483648 : Int) ≤ y51_0_12 ∧ y51_0_12 ≤ 2147483647 := rngE (show (-2147483648 : Int) ≤ F51 0 12 ∧ F51 0 12 ≤ 2147483647 from H.krg 0 12 (ltn len_V224_oz_D2cls rfl)) (show F51 0 12 = y51_0_12 from ((eF51 0 12).trans ey51_0_12))
                      have : TBP (ub8 ((w1))) ((a2)) ((a1)) (sc ((w5)) 0 ((u4_1)) ++ sc ((w3)) ((a3)) ((u2_1))) ((a4) - (u2_1)) ((z51)) ((y51_0_12)) (sc ((w5)) 0 ((u4_1)) ++ sc ((w29_2)) ((a3)) ((y29_0_1))) := TBP_f (TB2_n hb2 (by omega) hdd (by omega) (pz41_4 (by omega)) (by omega) (by omega) (by omega) (by omega)) (by omega)
                      exact w_ireturn rfl (k (z51) _ _ _ _ _ _ _ H O (cD29) (cN29) (cF51) (cA51) ((((((show F51 2 0 = F41 2 0 from (eF51 2 0))).trans ((show F41 2 0 = F35 2 0 from (eF41 2 0)))).trans ((show F35 2 0 = F29 2 0 from (eF35 2 0))))).trans (pf29_2_0)) (m29_2) ((congrArg (fun q : Nat => (q : Int)) (eN29 3)).trans em29_2) (y51_0_12) (((eF51 0 12).trans ey51_0_12)) (y29_0_1) ((((((show F51 2 1 = F41 2 1 from (eF51 2 1))).trans ((show F41 2 1 = F35 2 1 from (eF41 2 1)))).trans ((show F35 2 1 = F29 2 1 from (eF35 2 1)))).trans ((eF29 2 1).trans ey29_0_1))) (y29_0_2) ((((((show F51 2 2 = F41 2 2 from (eF51 2 2))).trans ((show F41 2 2 = F35 2 2 from (eF41 2 2)))).trans ((show F35 2 2 = F29 2 2 from (eF35 2 2)))).trans ((eF29 2 2).trans ey29_0_2))) (w29_2) (((show A51 3 = A41 3 from (eA51 3))).trans (((show A41 3 = A35 3 from (eA41 3))).trans (((show A35 3 = A29 3 from (eA35 3))).trans ((eA29 3).trans ew29_2)))) (show inr (z51) from pz51_0) (show 0 ≤ (z51) ∧ (z51) ≤ 3 from q_3110 pz51_1) (show 0 ≤ (y29_0_1) ∧ (y29_0_1) ≤ (m29_2) ∧ (m29_2) ≤ 65536 from pz29_0) (show (u2_1) ≤ (y29_0_1) from q_3124 j6_6 pz16_2 pz29_1) (show (y29_0_1) ≤ a4 ∨ (y29_0_1) = (u2_1) by omega) (show (y29_0_2) = 0 by omega) (show TBP (ub8 ((w1))) (a2) (a1) (sc ((w5)) 0 ((u4_1)) ++ sc ((w3)) (a3) ((u2_1))) (a4 - (u2_1)) ((z51)) ((y51_0_12)) (sc ((w5)) 0 ((u4_1)) ++ sc ((w29_2)) (a3) ((y29_0_1))) by assumption) (show (z51) ≠ 0 ∨ (y51_0_12) = (u0_12) from q_3108 pz51_1) (hsm1))
                  · refine Ew_of (pcₚ := 214) (fun _ => x_aload_n rfl (rk_o (rk_o (rk_o (rk_o (rk_o (rk_o (l6_0) rfl rfl) rfl rfl) rfl rfl) rfl rfl) rfl rfl) rfl rfl)) ?_
                    refine Ew_of (pcₚ := 215) (fun _ => x_iconst rfl) ?_
                    refine Ew_of (pcₚ := 217) (fun _ => x_iload rfl (rk_o (rk_s) rfl rfl)) ?_
                    refine Ew_stk (congrArg (fun qz : Nat => ([I ((z16 + y16_0_11)), I (2), .ref qz] : List Value)) (show D29 0 = D_6 0 from ((show D29 0 = D_6 0 from (eD29 0)))).symm) ?_
                    refine v_inv H (o := 0) rfl rfl rfl rfl rfl rfl (by rfl) (C221 (D := puc 0 D29) (N := puc 0 N29) (HW_subc H oz_D2cls_7 oz_D2cls_16) (u0_12) (((((((show F35 0 12 = F29 0 12 from (eF35 0 12))).trans ((show F29 0 12 = F16 0 12 from (eF29 0 12)))).trans ((show F16 0 12 = F_6 0 12 from (eF16 0 12).trans (hS16 0 12 rfl)))).trans (hS_6 0 12 rfl)).trans (eu0_12))) (show inr (2) from q_122) (show inr ((z16 + y16_0_11)) from q_3122 b19 b34 h4 pz16_2) (fun z53 σ53 F53ₚ A53ₚ Hₚ Oₚ hS53 hA53 y53_0_12 ey53_0_12 pz53_0 pz53_1 pz53_2 => ⟨rfl, ?_⟩))
                    refine v_backc (c := (c_6 + c29)) (s := (s_6 + s29)) H oz_D2cls_7 oz_D2cls_16 Hₚ Oₚ (fun F53 A53 H Oₚ eF53 eA53 => ?_)
                    have O := OUT_trans O Oₚ
                    -- Tokens.fail
                    have cF53 : SF oz_D2clsl_3 F F53 := SF_trans (cF35) (SF_gluc (ι := oz_D2clsl_6) oz_D2cls_16 hS53 eF53 (by decide +kernel)) (any_sub (lₚ := [(0, 12)]) (by decide +kernel))
                    have mF53 := SFm_of cF53 oz_D2cls_13
                    have cA53 : SA oz_D2clsl_4 A A53 := SA_trans (cA35) (SA_gluc (ι := oz_D2clsl_6) oz_D2cls_16 hA53 eA53 (by decide +kernel)) (any_subA (lₚ := []) (by decide +kernel))
                    have mA53 := SAm_of cA53 oz_D2cls_14
                    have r54 : (-2147483648 : Int) ≤ y53_0_12 ∧ y53_0_12 ≤ 2147483647 := rngE (show (-2147483648 : Int) ≤ F53 0 12 ∧ F53 0 12 ≤ 2147483647 from H.krg 0 12 (ltn len_V224_oz_D2cls rfl)) (show F53 0 12 = y53_0_12 from ((eF53 0 12).trans ey53_0_12))
                    have : TBP (ub8 ((w1))) ((a2)) ((a1)) (sc ((w5)) 0 ((u4_1)) ++ sc ((w3)) ((a3)) ((u2_1))) ((a4) - (u2_1)) ((z53)) ((y53_0_12)) (sc ((w5)) 0 ((u4_1)) ++ sc ((w29_2)) ((a3)) ((y29_0_1))) := TBP_f (TB2_d hb2 (by omega) hdd (by omega) (by omega) (by omega)) (by omega)
                    exact w_ireturn rfl (k (z53) _ _ _ _ _ _ _ H O (cD29) (cN29) (cF53) (cA53) (((((show F53 2 0 = F35 2 0 from (eF53 2 0))).trans ((show F35 2 0 = F29 2 0 from (eF35 2 0))))).trans (pf29_2_0)) (m29_2) ((congrArg (fun q : Nat => (q : Int)) (eN29 3)).trans em29_2) (y53_0_12) (((eF53 0 12).trans ey53_0_12)) (y29_0_1) (((((show F53 2 1 = F35 2 1 from (eF53 2 1))).trans ((show F35 2 1 = F29 2 1 from (eF35 2 1)))).trans ((eF29 2 1).trans ey29_0_1))) (y29_0_2) (((((show F53 2 2 = F35 2 2 from (eF53 2 2))).trans ((show F35 2 2 = F29 2 2 from (eF35 2 2)))).trans ((eF29 2 2).trans ey29_0_2))) (w29_2) (((show A53 3 = A35 3 from (eA53 3))).trans (((show A35 3 = A29 3 from (eA35 3))).trans ((eA29 3).trans ew29_2))) (show inr (z53) from pz53_0) (show 0 ≤ (z53) ∧ (z53) ≤ 3 from q_2587 pz53_1) (show 0 ≤ (y29_0_1) ∧ (y29_0_1) ≤ (m29_2) ∧ (m29_2) ≤ 65536 from pz29_0) (show (u2_1) ≤ (y29_0_1) from q_3124 j6_6 pz16_2 pz29_1) (show (y29_0_1) ≤ a4 ∨ (y29_0_1) = (u2_1) by omega) (show (y29_0_2) = 0 by omega) (show TBP (ub8 ((w1))) (a2) (a1) (sc ((w5)) 0 ((u4_1)) ++ sc ((w3)) (a3) ((u2_1))) (a4 - (u2_1)) ((z53)) ((y53_0_12)) (sc ((w5)) 0 ((u4_1)) ++ sc ((w29_2)) (a3) ((y29_0_1))) by assumption) (show (z53) ≠ 0 ∨ (y53_0_12) = (u0_12) from q_3123 pz53_1) (hsm1))
              · refine Ew_of (pcₚ := 163) (fun _ => x_aload_n rfl (rk_o (rk_o (rk_o (rk_o (l6_0) rfl rfl) rfl rfl) rfl rfl) rfl rfl)) ?_
                refine Ew_of (pcₚ := 164) (fun _ => x_iconst rfl) ?_
                refine Ew_of (pcₚ := 165) (fun _ => x_iload_n rfl (rk_o (rk_o (rk_o (rk_o (l6_2) rfl rfl) rfl rfl) rfl rfl) rfl rfl)) ?_
                refine Ew_stk (congrArg (fun qz : Nat => ([I (a2), I (1), .ref qz] : List Value)) (show D29 0 = D_6 0 from ((show D29 0 = D_6 0 from (eD29 0)))).symm) ?_
                refine v_inv H (o := 0) rfl rfl rfl rfl rfl rfl (by rfl) (C221 (D := puc 0 D29) (N := puc 0 N29) (HW_subc H oz_D2cls_7 oz_D2cls_16) (u0_12) ((((((show F29 0 12 = F16 0 12 from (eF29 0 12))).trans ((show F16 0 12 = F_6 0 12 from (eF16 0 12).trans (hS16 0 12 rfl)))).trans (hS_6 0 12 rfl)).trans (eu0_12))) (show inr (1) from q_135) (show inr (a2) from h1) (fun z55 σ55 F55ₚ A55ₚ Hₚ Oₚ hS55 hA55 y55_0_12 ey55_0_12 pz55_0 pz55_1 pz55_2 => ⟨rfl, ?_⟩))
                refine v_backc (c := (c_6 + c29)) (s := (s_6 + s29)) H oz_D2cls_7 oz_D2cls_16 Hₚ Oₚ (fun F55 A55 H Oₚ eF55 eA55 => ?_)
                have O := OUT_trans O Oₚ
                -- Tokens.fail
                have cF55 : SF oz_D2clsl_3 F F55 := SF_trans (cF29) (SF_gluc (ι := oz_D2clsl_6) oz_D2cls_16 hS55 eF55 (by decide +kernel)) (any_sub (lₚ := [(0, 12)]) (by decide +kernel))
                have mF55 := SFm_of cF55 oz_D2cls_13
                have cA55 : SA oz_D2clsl_4 A A55 := SA_trans (cA29) (SA_gluc (ι := oz_D2clsl_6) oz_D2cls_16 hA55 eA55 (by decide +kernel)) (any_subA (lₚ := []) (by decide +kernel))
                have mA55 := SAm_of cA55 oz_D2cls_14
                have r56 : (-2147483648 : Int) ≤ y55_0_12 ∧ y55_0_12 ≤ 2147483647 := rngE (show (-2147483648 : Int) ≤ F55 0 12 ∧ F55 0 12 ≤ 2147483647 from H.krg 0 12 (ltn len_V224_oz_D2cls rfl)) (show F55 0 12 = y55_0_12 from ((eF55 0 12).trans ey55_0_12))
                have : TBP (ub8 ((w1))) ((a2)) ((a1)) (sc ((w5)) 0 ((u4_1)) ++ sc ((w3)) ((a3)) ((u2_1))) ((a4) - (u2_1)) ((z55)) ((y55_0_12)) (sc ((w5)) 0 ((u4_1)) ++ sc ((w29_2)) ((a3)) ((y29_0_1))) := TBP_f (TB2_e hb2 (by omega) (by omega) (by omega)) (by omega)
                exact w_ireturn rfl (k (z55) _ _ _ _ _ _ _ H O (cD29) (cN29) (cF55) (cA55) ((((show F55 2 0 = F29 2 0 from (eF55 2 0)))).trans (pf29_2_0)) (m29_2) ((congrArg (fun q : Nat => (q : Int)) (eN29 3)).trans em29_2) (y55_0_12) (((eF55 0 12).trans ey55_0_12)) (y29_0_1) ((((show F55 2 1 = F29 2 1 from (eF55 2 1))).trans ((eF29 2 1).trans ey29_0_1))) (y29_0_2) ((((show F55 2 2 = F29 2 2 from (eF55 2 2))).trans ((eF29 2 2).trans ey29_0_2))) (w29_2) (((show A55 3 = A29 3 from (eA55 3))).trans ((eA29 3).trans ew29_2)) (show inr (z55) from pz55_0) (show 0 ≤ (z55) ∧ (z55) ≤ 3 from q_3110 pz55_1) (show 0 ≤ (y29_0_1) ∧ (y29_0_1) ≤ (m29_2) ∧ (m29_2) ≤ 65536 from pz29_0) (show (u2_1) ≤ (y29_0_1) from q_3124 j6_6 pz16_2 pz29_1) (show (y29_0_1) ≤ a4 ∨ (y29_0_1) = (u2_1) by omega) (show (y29_0_2) = 0 by omega) (show TBP (ub8 ((w1))) (a2) (a1) (sc ((w5)) 0 ((u4_1)) ++ sc ((w3)) (a3) ((u2_1))) (a4 - (u2_1)) ((z55)) ((y55_0_12)) (sc ((w5)) 0 ((u4_1)) ++ sc ((w29_2)) (a3) ((y29_0_1))) by assumption) (show (z55) ≠ 0 ∨ (y55_0_12) = (u0_12) from q_3108 pz55_1) (hsm1))
            · refine Ew_of (pcₚ := 153) (fun _ => x_iconst rfl) ?_
              have : TBP (ub8 ((w1))) ((a2)) ((a1)) (sc ((w5)) 0 ((u4_1)) ++ sc ((w3)) ((a3)) ((u2_1))) ((a4) - (u2_1)) (0) ((u0_12)) (sc ((w5)) 0 ((u4_1)) ++ sc ((w29_2)) ((a3)) ((y29_0_1))) := TBP_y (TB2_y hb2 (by omega) rfl rfl) rfl
              exact w_ireturn rfl (k (0) _ _ _ _ _ _ _ H O (cD29) (cN29) (cF29) (cA29) (pf29_2_0) (m29_2) ((congrArg (fun q : Nat => (q : Int)) (eN29 3)).trans em29_2) (u0_12) ((((((show F29 0 12 = F16 0 12 from (eF29 0 12))).trans ((show F16 0 12 = F_6 0 12 from (eF16 0 12).trans (hS16 0 12 rfl)))).trans (hS_6 0 12 rfl)).trans (eu0_12))) (y29_0_1) (((eF29 2 1).trans ey29_0_1)) (y29_0_2) (((eF29 2 2).trans ey29_0_2)) (w29_2) ((eA29 3).trans ew29_2) (show inr (0) from q_2) (show 0 ≤ (0) ∧ (0) ≤ 3 by first | exact q_548 | omega) (show 0 ≤ (y29_0_1) ∧ (y29_0_1) ≤ (m29_2) ∧ (m29_2) ≤ 65536 from pz29_0) (show (u2_1) ≤ (y29_0_1) from q_3124 j6_6 pz16_2 pz29_1) (show (y29_0_1) ≤ a4 ∨ (y29_0_1) = (u2_1) by omega) (show (y29_0_2) = 0 by omega) (show TBP (ub8 ((w1))) (a2) (a1) (sc ((w5)) 0 ((u4_1)) ++ sc ((w3)) (a3) ((u2_1))) (a4 - (u2_1)) ((0)) ((u0_12)) (sc ((w5)) 0 ((u4_1)) ++ sc ((w29_2)) (a3) ((y29_0_1))) by assumption) (show (0) ≠ 0 ∨ (u0_12) = (u0_12) by first | exact q_3137 | omega) (hsm1))
          · refine Ew_of (pcₚ := 88) (fun _ => x_iload rfl (rk_o (rk_s) rfl rfl)) ?_
            refine w_iflt (t := 100) rfl rfl (show inr (z16) from pz16_0) (fun b57 => ?_) (fun b57 => ?_)
            · refine Ew_of (pcₚ := 101) (fun _ => x_aload_n rfl (rk_o (rk_o (rk_o (l6_0) rfl rfl) rfl rfl) rfl rfl)) ?_
              refine Ew_of (pcₚ := 102) (fun _ => x_iconst rfl) ?_
              refine Ew_of (pcₚ := 103) (fun _ => x_iload_n rfl (rk_o (rk_o (rk_o (l6_2) rfl rfl) rfl rfl) rfl rfl)) ?_
              refine v_inv H (o := 0) rfl rfl rfl rfl rfl rfl (by rfl) (C221 (D := puc 0 D_6) (N := puc 0 N_6) (HW_subc H oz_D2cls_7 oz_D2cls_16) (u0_12) (((((show F16 0 12 = F_6 0 12 from (eF16 0 12).trans (hS16 0 12 rfl))).trans (hS_6 0 12 rfl)).trans (eu0_12))) (show inr (1) from q_135) (show inr (a2) from h1) (fun z58 σ58 F58ₚ A58ₚ Hₚ Oₚ hS58 hA58 y58_0_12 ey58_0_12 pz58_0 pz58_1 pz58_2 => ⟨rfl, ?_⟩))
              refine v_backc (c := c_6) (s := s_6) H oz_D2cls_7 oz_D2cls_16 Hₚ Oₚ (fun F58 A58 H Oₚ eF58 eA58 => ?_)
              have O := OUT_trans O Oₚ
              -- Tokens.fail
              have cF58 : SF oz_D2clsl_3 F F58 := SF_trans (cF16) (SF_gluc (ι := oz_D2clsl_6) oz_D2cls_16 hS58 eF58 (by decide +kernel)) (any_sub (lₚ := [(0, 12)]) (by decide +kernel))
              have mF58 := SFm_of cF58 oz_D2cls_13
              have cA58 : SA oz_D2clsl_4 A A58 := SA_trans (cA16) (SA_gluc (ι := oz_D2clsl_6) oz_D2cls_16 hA58 eA58 (by decide +kernel)) (any_subA (lₚ := []) (by decide +kernel))
              have mA58 := SAm_of cA58 oz_D2cls_14
              have r59 : (-2147483648 : Int) ≤ y58_0_12 ∧ y58_0_12 ≤ 2147483647 := rngE (show (-2147483648 : Int) ≤ F58 0 12 ∧ F58 0 12 ≤ 2147483647 from H.krg 0 12 (ltn len_V224_oz_D2cls rfl)) (show F58 0 12 = y58_0_12 from ((eF58 0 12).trans ey58_0_12))
              refine Ew_of (pcₚ := 119) (fun _ => x_goto rfl rfl) ?_
              have : TBP (ub8 ((w1))) ((a2)) ((a1)) (sc ((w5)) 0 ((u4_1)) ++ sc ((w3)) ((a3)) ((u2_1))) ((a4) - (u2_1)) ((z58)) ((y58_0_12)) (sc ((w5)) 0 ((u4_1)) ++ sc ((w6_3)) ((a3)) ((y6_2_1))) := by exact TBP_f (TBO_2 j6_t (by omega) (pz16_4 (by omega)) (by omega) (by omega) (by omega) (by omega)) (by omega)
              exact w_ireturn rfl (k (z58) _ _ _ _ _ _ _ H O (cD_6) (cN_6) (cF58) (cA58) (((((show F58 2 0 = F16 2 0 from (eF58 2 0))).trans ((show F16 2 0 = F_6 2 0 from (eF16 2 0))))).trans (pm6_3)) (m6_3) (em6_3) (y58_0_12) (((eF58 0 12).trans ey58_0_12)) (y6_2_1) (((((show F58 2 1 = F16 2 1 from (eF58 2 1))).trans ((show F16 2 1 = F_6 2 1 from (eF16 2 1)))).trans (ey6_2_1))) (y6_2_2) (((((show F58 2 2 = F16 2 2 from (eF58 2 2))).trans ((show F16 2 2 = F_6 2 2 from (eF16 2 2)))).trans (ey6_2_2))) (w6_3) (((show A58 3 = A16 3 from (eA58 3))).trans (((show A16 3 = A_6 3 from (eA16 3))).trans (ew6_3))) (show inr (z58) from pz58_0) (show 0 ≤ (z58) ∧ (z58) ≤ 3 from q_3110 pz58_1) (show 0 ≤ (y6_2_1) ∧ (y6_2_1) ≤ (m6_3) ∧ (m6_3) ≤ 65536 from j6_5) (show (u2_1) ≤ (y6_2_1) from j6_6) (show (y6_2_1) ≤ a4 ∨ (y6_2_1) = (u2_1) from q_3109 j6_7) (show (y6_2_2) = 0 from j6_8) (show TBP (ub8 ((w1))) (a2) (a1) (sc ((w5)) 0 ((u4_1)) ++ sc ((w3)) (a3) ((u2_1))) (a4 - (u2_1)) ((z58)) ((y58_0_12)) (sc ((w5)) 0 ((u4_1)) ++ sc ((w6_3)) (a3) ((y6_2_1))) by assumption) (show (z58) ≠ 0 ∨ (y58_0_12) = (u0_12) from q_3108 pz58_1) (j6_s))
            · refine Ew_of (pcₚ := 93) (fun _ => x_iload rfl rk_s) ?_
              refine Ew_of (pcₚ := 94) (fun _ => x_iload_n rfl (rk_o (rk_o (rk_o (l6_2) rfl rfl) rfl rfl) rfl rfl)) ?_
              refine Ew_of (pcₚ := 96) (fun _ => x_iload rfl (rk_o (rk_s) rfl rfl)) ?_
              refine w_isub rfl ?_
              refine w_icmpne (t := 109) rfl rfl (show inr (z18) from q_3139 b12 b28 gz18 j6_4 j6_7 pz16_0 r17) (show inr ((a2 - z16)) from q_3138 b12 b57 h4 j6_4 pz16_0) (fun b60 => ?_) (fun b60 => ?_)
              · refine Ew_of (pcₚ := 110) (fun _ => x_aload_n rfl (rk_o (rk_o (rk_o (l6_0) rfl rfl) rfl rfl) rfl rfl)) ?_
                refine Ew_of (pcₚ := 111) (fun _ => x_iconst rfl) ?_
                refine Ew_of (pcₚ := 113) (fun _ => x_iload rfl (rk_o (rk_s) rfl rfl)) ?_
                refine Ew_of (pcₚ := 115) (fun _ => x_iload rfl rk_s) ?_
                refine w_iadd rfl ?_
                refine v_inv H (o := 0) rfl rfl rfl rfl rfl rfl (by rfl) (C221 (D := puc 0 D_6) (N := puc 0 N_6) (HW_subc H oz_D2cls_7 oz_D2cls_16) (u0_12) (((((show F16 0 12 = F_6 0 12 from (eF16 0 12).trans (hS16 0 12 rfl))).trans (hS_6 0 12 rfl)).trans (eu0_12))) (show inr (3) from q_246) (show inr ((z16 + z18)) from q_3140 b12 b57 gz18 h4 j6_4 j6_7) (fun z61 σ61 F61ₚ A61ₚ Hₚ Oₚ hS61 hA61 y61_0_12 ey61_0_12 pz61_0 pz61_1 pz61_2 => ⟨rfl, ?_⟩))
                refine v_backc (c := c_6) (s := s_6) H oz_D2cls_7 oz_D2cls_16 Hₚ Oₚ (fun F61 A61 H Oₚ eF61 eA61 => ?_)
                have O := OUT_trans O Oₚ
                -- Tokens.fail
                have cF61 : SF oz_D2clsl_3 F F61 := SF_trans (cF16) (SF_gluc (ι := oz_D2clsl_6) oz_D2cls_16 hS61 eF61 (by decide +kernel)) (any_sub (lₚ := [(0, 12)]) (by decide +kernel))
                have mF61 := SFm_of cF61 oz_D2cls_13
                have cA61 : SA oz_D2clsl_4 A A61 := SA_trans (cA16) (SA_gluc (ι := oz_D2clsl_6) oz_D2cls_16 hA61 eA61 (by decide +kernel)) (any_subA (lₚ := []) (by decide +kernel))
                have mA61 := SAm_of cA61 oz_D2cls_14
                have r62 : (-2147483648 : Int) ≤ y61_0_12 ∧ y61_0_12 ≤ 2147483647 := rngE (show (-2147483648 : Int) ≤ F61 0 12 ∧ F61 0 12 ≤ 2147483647 from H.krg 0 12 (ltn len_V224_oz_D2cls rfl)) (show F61 0 12 = y61_0_12 from ((eF61 0 12).trans ey61_0_12))
                have : TBP (ub8 ((w1))) ((a2)) ((a1)) (sc ((w5)) 0 ((u4_1)) ++ sc ((w3)) ((a3)) ((u2_1))) ((a4) - (u2_1)) ((z61)) ((y61_0_12)) (sc ((w5)) 0 ((u4_1)) ++ sc ((w6_3)) ((a3)) ((y6_2_1))) := by exact TBP_f (TB1_r (TB1_of j6_t (by omega) (pz16_3 (by omega)) (by omega) (by omega)) (by omega) (by omega) (by omega) (by omega)) (by omega)
                exact w_ireturn rfl (k (z61) _ _ _ _ _ _ _ H O (cD_6) (cN_6) (cF61) (cA61) (((((show F61 2 0 = F16 2 0 from (eF61 2 0))).trans ((show F16 2 0 = F_6 2 0 from (eF16 2 0))))).trans (pm6_3)) (m6_3) (em6_3) (y61_0_12) (((eF61 0 12).trans ey61_0_12)) (y6_2_1) (((((show F61 2 1 = F16 2 1 from (eF61 2 1))).trans ((show F16 2 1 = F_6 2 1 from (eF16 2 1)))).trans (ey6_2_1))) (y6_2_2) (((((show F61 2 2 = F16 2 2 from (eF61 2 2))).trans ((show F16 2 2 = F_6 2 2 from (eF16 2 2)))).trans (ey6_2_2))) (w6_3) (((show A61 3 = A16 3 from (eA61 3))).trans (((show A16 3 = A_6 3 from (eA16 3))).trans (ew6_3))) (show inr (z61) from pz61_0) (show 0 ≤ (z61) ∧ (z61) ≤ 3 from q_3115 pz61_1) (show 0 ≤ (y6_2_1) ∧ (y6_2_1) ≤ (m6_3) ∧ (m6_3) ≤ 65536 from j6_5) (show (u2_1) ≤ (y6_2_1) from j6_6) (show (y6_2_1) ≤ a4 ∨ (y6_2_1) = (u2_1) from q_3109 j6_7) (show (y6_2_2) = 0 from j6_8) (show TBP (ub8 ((w1))) (a2) (a1) (sc ((w5)) 0 ((u4_1)) ++ sc ((w3)) (a3) ((u2_1))) (a4 - (u2_1)) ((z61)) ((y61_0_12)) (sc ((w5)) 0 ((u4_1)) ++ sc ((w6_3)) (a3) ((y6_2_1))) by assumption) (show (z61) ≠ 0 ∨ (y61_0_12) = (u0_12) from q_3114 pz61_1) (j6_s))
              · refine Ew_of (pcₚ := 101) (fun _ => x_aload_n rfl (rk_o (rk_o (rk_o (l6_0) rfl rfl) rfl rfl) rfl rfl)) ?_
                refine Ew_of (pcₚ := 102) (fun _ => x_iconst rfl) ?_
                refine Ew_of (pcₚ := 103) (fun _ => x_iload_n rfl (rk_o (rk_o (rk_o (l6_2) rfl rfl) rfl rfl) rfl rfl)) ?_
                refine v_inv H (o := 0) rfl rfl rfl rfl rfl rfl (by rfl) (C221 (D := puc 0 D_6) (N := puc 0 N_6) (HW_subc H oz_D2cls_7 oz_D2cls_16) (u0_12) (((((show F16 0 12 = F_6 0 12 from (eF16 0 12).trans (hS16 0 12 rfl))).trans (hS_6 0 12 rfl)).trans (eu0_12))) (show inr (1) from q_135) (show inr (a2) from h1) (fun z63 σ63 F63ₚ A63ₚ Hₚ Oₚ hS63 hA63 y63_0_12 ey63_0_12 pz63_0 pz63_1 pz63_2 => ⟨rfl, ?_⟩))
                refine v_backc (c := c_6) (s := s_6) H oz_D2cls_7 oz_D2cls_16 Hₚ Oₚ (fun F63 A63 H Oₚ eF63 eA63 => ?_)
                have O := OUT_trans O Oₚ
                -- Tokens.fail
                have cF63 : SF oz_D2clsl_3 F F63 := SF_trans (cF16) (SF_gluc (ι := oz_D2clsl_6) oz_D2cls_16 hS63 eF63 (by decide +kernel)) (any_sub (lₚ := [(0, 12)]) (by decide +kernel))
                have mF63 := SFm_of cF63 oz_D2cls_13
                have cA63 : SA oz_D2clsl_4 A A63 := SA_trans (cA16) (SA_gluc (ι := oz_D2clsl_6) oz_D2cls_16 hA63 eA63 (by decide +kernel)) (any_subA (lₚ := []) (by decide +kernel))
                have mA63 := SAm_of cA63 oz_D2cls_14
                have r64 : (-2147483648 : Int) ≤ y63_0_12 ∧ y63_0_12 ≤ 2147483647 := rngE (show (-2147483648 : Int) ≤ F63 0 12 ∧ F63 0 12 ≤ 2147483647 from H.krg 0 12 (ltn len_V224_oz_D2cls rfl)) (show F63 0 12 = y63_0_12 from ((eF63 0 12).trans ey63_0_12))
                refine Ew_of (pcₚ := 119) (fun _ => x_goto rfl rfl) ?_
                have : TBP (ub8 ((w1))) ((a2)) ((a1)) (sc ((w5)) 0 ((u4_1)) ++ sc ((w3)) ((a3)) ((u2_1))) ((a4) - (u2_1)) ((z63)) ((y63_0_12)) (sc ((w5)) 0 ((u4_1)) ++ sc ((w6_3)) ((a3)) ((y6_2_1))) := by exact TBP_f (TB1_e (TB1_of j6_t (by omega) (pz16_3 (by omega)) (by omega) (by omega)) (by omega) (by omega) (by omega) (by omega)) (by omega)
                exact w_ireturn rfl (k (z63) _ _ _ _ _ _ _ H O (cD_6) (cN_6) (cF63) (cA63) (((((show F63 2 0 = F16 2 0 from (eF63 2 0))).trans ((show F16 2 0 = F_6 2 0 from (eF16 2 0))))).trans (pm6_3)) (m6_3) (em6_3) (y63_0_12) (((eF63 0 12).trans ey63_0_12)) (y6_2_1) (((((show F63 2 1 = F16 2 1 from (eF63 2 1))).trans ((show F16 2 1 = F_6 2 1 from (eF16 2 1)))).trans (ey6_2_1))) (y6_2_2) (((((show F63 2 2 = F16 2 2 from (eF63 2 2))).trans ((show F16 2 2 = F_6 2 2 from (eF16 2 2)))).trans (ey6_2_2))) (w6_3) (((show A63 3 = A16 3 from (eA63 3))).trans (((show A16 3 = A_6 3 from (eA16 3))).trans (ew6_3))) (show inr (z63) from pz63_0) (show 0 ≤ (z63) ∧ (z63) ≤ 3 from q_3110 pz63_1) (show 0 ≤ (y6_2_1) ∧ (y6_2_1) ≤ (m6_3) ∧ (m6_3) ≤ 65536 from j6_5) (show (u2_1) ≤ (y6_2_1) from j6_6) (show (y6_2_1) ≤ a4 ∨ (y6_2_1) = (u2_1) from q_3109 j6_7) (show (y6_2_2) = 0 from j6_8) (show TBP (ub8 ((w1))) (a2) (a1) (sc ((w5)) 0 ((u4_1)) ++ sc ((w3)) (a3) ((u2_1))) (a4 - (u2_1)) ((z63)) ((y63_0_12)) (sc ((w5)) 0 ((u4_1)) ++ sc ((w6_3)) (a3) ((y6_2_1))) by assumption) (show (z63) ≠ 0 ∨ (y63_0_12) = (u0_12) from q_3108 pz63_1) (j6_s))
      · refine Ew_of (pcₚ := 19) (fun _ => x_aload_n rfl l6_0) ?_
        refine Ew_of (pcₚ := 20) (fun _ => x_iconst rfl) ?_
        refine Ew_of (pcₚ := 21) (fun _ => x_iload_n rfl l6_2) ?_
        refine v_inv H (o := 0) rfl rfl rfl rfl rfl rfl (by rfl) (C221 (D := puc 0 D_6) (N := puc 0 N_6) (HW_subc H oz_D2cls_7 oz_D2cls_16) (u0_12) (((hS_6 0 12 rfl).trans (eu0_12))) (show inr (1) from q_135) (show inr (a2) from h1) (fun z65 σ65 F65ₚ A65ₚ Hₚ Oₚ hS65 hA65 y65_0_12 ey65_0_12 pz65_0 pz65_1 pz65_2 => ⟨rfl, ?_⟩))
        refine v_backc (c := c_6) (s := s_6) H oz_D2cls_7 oz_D2cls_16 Hₚ Oₚ (fun F65 A65 H Oₚ eF65 eA65 => ?_)
        have O := OUT_trans O Oₚ
        -- Tokens.fail
        have cF65 : SF oz_D2clsl_3 F F65 := SF_trans (cF_6) (SF_gluc (ι := oz_D2clsl_6) oz_D2cls_16 hS65 eF65 (by decide +kernel)) (any_sub (lₚ := [(0, 12)]) (by decide +kernel))
        have mF65 := SFm_of cF65 oz_D2cls_13
        have cA65 : SA oz_D2clsl_4 A A65 := SA_trans (cA_6) (SA_gluc (ι := oz_D2clsl_6) oz_D2cls_16 hA65 eA65 (by decide +kernel)) (any_subA (lₚ := []) (by decide +kernel))
        have mA65 := SAm_of cA65 oz_D2cls_14
        have r66 : (-2147483648 : Int) ≤ y65_0_12 ∧ y65_0_12 ≤ 2147483647 := rngE (show (-2147483648 : Int) ≤ F65 0 12 ∧ F65 0 12 ≤ 2147483647 from H.krg 0 12 (ltn len_V224_oz_D2cls rfl)) (show F65 0 12 = y65_0_12 from ((eF65 0 12).trans ey65_0_12))
        have : TBP (ub8 ((w1))) ((a2)) ((a1)) (sc ((w5)) 0 ((u4_1)) ++ sc ((w3)) ((a3)) ((u2_1))) ((a4) - (u2_1)) ((z65)) ((y65_0_12)) (sc ((w5)) 0 ((u4_1)) ++ sc ((w6_3)) ((a3)) ((y6_2_1))) := TBP_f (TBO_1 j6_t (by omega) (by omega) (by omega)) (by omega)
        exact w_ireturn rfl (k (z65) _ _ _ _ _ _ _ H O (cD_6) (cN_6) (cF65) (cA65) ((((show F65 2 0 = F_6 2 0 from (eF65 2 0)))).trans (pm6_3)) (m6_3) (em6_3) (y65_0_12) (((eF65 0 12).trans ey65_0_12)) (y6_2_1) ((((show F65 2 1 = F_6 2 1 from (eF65 2 1))).trans (ey6_2_1))) (y6_2_2) ((((show F65 2 2 = F_6 2 2 from (eF65 2 2))).trans (ey6_2_2))) (w6_3) (((show A65 3 = A_6 3 from (eA65 3))).trans (ew6_3)) (show inr (z65) from pz65_0) (show 0 ≤ (z65) ∧ (z65) ≤ 3 from q_3110 pz65_1) (show 0 ≤ (y6_2_1) ∧ (y6_2_1) ≤ (m6_3) ∧ (m6_3) ≤ 65536 from j6_5) (show (u2_1) ≤ (y6_2_1) from j6_6) (show (y6_2_1) ≤ a4 ∨ (y6_2_1) = (u2_1) from q_3109 j6_7) (show (y6_2_2) = 0 from j6_8) (show TBP (ub8 ((w1))) (a2) (a1) (sc ((w5)) 0 ((u4_1)) ++ sc ((w3)) (a3) ((u2_1))) (a4 - (u2_1)) ((z65)) ((y65_0_12)) (sc ((w5)) 0 ((u4_1)) ++ sc ((w6_3)) (a3) ((y6_2_1))) by assumption) (show (z65) ≠ 0 ∨ (y65_0_12) = (u0_12) from q_3108 pz65_1) (j6_s))
abbrev V222_Row_Row : vV := [(0, 11, [(4, 0), (4, 0), (4, 0), (4, 0), (4, 0), (0, 0), (4, 0), (0, 0), (0, 0), (0, 0), (0, 0), (0, 0), (0, 0)]), (0, 7, [(4, 0), (0, 0), (1, 0), (0, 0), (0, 0)]), (0, 7, [(4, 0), (0, 0), (1, 0), (0, 0), (0, 0)]), (1, 0, [])]
theorem len_V222_Row_Row_oz_D2cls : (V222_Row_Row).length = 4 := by decide +kernel
def oz_D2clsl_10 : List (Nat × Nat) := [(0, 4), (0, 5), (0, 6), (0, 7), (0, 12)]
theorem oz_D2cls_21 : (oz_D2clsl_10).all (fun p => !tbz 4336 (Nat.add (Nat.mul 32 p.1) p.2)) = true := by decide +kernel

theorem C222_Row_Row {σE : rS} {D N : Nat → Nat} {F : hF} {A : hA} {d c s : Nat} {Q : wQ} (H : HW V222_Row_Row σE D N F A) {a3 : Int} (pf3 : F 1 0 = (D 3 : Int)) (n3 : Int) (en3 : (N 3 : Int) = n3) (u0_5 : Int) (eu0_5 : F 0 5 = u0_5) (u0_7 : Int) (eu0_7 : F 0 7 = u0_7) (u0_12 : Int) (eu0_12 : F 0 12 = u0_12) (u1_1 : Int) (eu1_1 : F 1 1 = u1_1) (h0 : inr (a3)) (k : ∀ (σ : rS) (Fₚ : hF) (Aₚ : hA), HW V222_Row_Row σ D N Fₚ Aₚ → OUT (V222_Row_Row).length D N σE c s D N σ c s → SF [(0, 4), (0, 5), (0, 6), (0, 7), (0, 12)] F Fₚ → SA [] A Aₚ → ∀ y0_5 : Int, Fₚ 0 5 = y0_5 → ∀ y0_7 : Int, Fₚ 0 7 = y0_7 → ∀ y0_12 : Int, Fₚ 0 12 = y0_12 → Fₚ 0 4 = (D 3 : Int) → Fₚ 0 6 = (D 2 : Int) → ((y0_5) = (u1_1) ∧ (y0_7) = (a3) ∧ (y0_12) = (u1_1)) → Q none σ c s) : Ew 222 (d + 0) 0 (rargs 0 [.ref (D 0), .ref (D 1), .ref (D 2), I a3]) [] σE c s Q := by
  have O := OUT_refl (n := (V222_Row_Row).length) (D := D) (N := N) (σ := σE) (c := c) (s := s)
  have HE := H
  have r1 : (-2147483648 : Int) ≤ u0_5 ∧ u0_5 ≤ 2147483647 := rngE (show (-2147483648 : Int) ≤ F 0 5 ∧ F 0 5 ≤ 2147483647 from H.krg 0 5 (ltn len_V222_Row_Row_oz_D2cls rfl)) (show F 0 5 = u0_5 from (eu0_5))
  have r2 : (-2147483648 : Int) ≤ u0_7 ∧ u0_7 ≤ 2147483647 := rngE (show (-2147483648 : Int) ≤ F 0 7 ∧ F 0 7 ≤ 2147483647 from H.krg 0 7 (ltn len_V222_Row_Row_oz_D2cls rfl)) (show F 0 7 = u0_7 from (eu0_7))
  have r3 : (-2147483648 : Int) ≤ u0_12 ∧ u0_12 ≤ 2147483647 := rngE (show (-2147483648 : Int) ≤ F 0 12 ∧ F 0 12 ≤ 2147483647 from H.krg 0 12 (ltn len_V222_Row_Row_oz_D2cls rfl)) (show F 0 12 = u0_12 from (eu0_12))
  have r4 : (-2147483648 : Int) ≤ u1_1 ∧ u1_1 ≤ 2147483647 := rngE (show (-2147483648 : Int) ≤ F 1 1 ∧ F 1 1 ≤ 2147483647 from H.krg 1 1 (ltn len_V222_Row_Row_oz_D2cls rfl)) (show F 1 1 = u1_1 from (eu1_1))
  have r5 : (0 : Int) ≤ n3 ∧ n3 ≤ 1000000 := nleE (H.nle 3 (ltn len_V222_Row_Row_oz_D2cls rfl)) (show (N 3 : Int) = n3 from en3)
  refine Ew_of (pcₚ := 1) (fun _ => x_aload_n rfl rfl) ?_
  refine Ew_of (pcₚ := 2) (fun _ => x_aload_n rfl rfl) ?_
  refine v_g H (o := 1) (v := .ref (D 3)) rfl rfl rfl rfl rfl (vrf (pf3)) ?_
  refine v_p H (o := 0) (z := ((D 3 : Nat) : Int)) (v := .ref (D 3)) rfl rfl rfl rfl rfl rfl (vrf rfl) rfl (show (-1 : Int) ≤ ((D 3 : Nat) : Int) by omega) (fun σ H Oₚ => ?_)
  have O := OUT_trans O Oₚ
  have cFu6 : SF oz_D2clsl_10 F (updF F 0 4 ((D 3 : Nat) : Int)) := SF_upd (SF_refl) rfl
  have mFu6 := SFm_of cFu6 oz_D2cls_21
  refine Ew_of (pcₚ := 9) (fun _ => x_aload_n rfl rfl) ?_
  refine Ew_of (pcₚ := 10) (fun _ => x_aload_n rfl rfl) ?_
  refine v_g H (o := 1) (v := I (u1_1)) rfl rfl rfl rfl rfl (congrArg (fun z : Int => I z) (((mFu6 1 1 rfl).trans (eu1_1)) : (updF F 0 4 ((D 3 : Nat) : Int)) 1 1 = u1_1)) ?_
  refine v_p H (o := 0) (z := u1_1) (v := I (u1_1)) rfl rfl rfl rfl rfl rfl rfl rfl (show (-2147483648 : Int) ≤ u1_1 ∧ u1_1 ≤ 2147483647 from r4) (fun σ H Oₚ => ?_)
  have O := OUT_trans O Oₚ
  have cFu7 : SF oz_D2clsl_10 F (updF (updF F 0 4 ((D 3 : Nat) : Int)) 0 5 (u1_1)) := SF_upd (cFu6) rfl
  have mFu7 := SFm_of cFu7 oz_D2cls_21
  refine Ew_of (pcₚ := 17) (fun _ => x_aload_n rfl rfl) ?_
  refine Ew_of (pcₚ := 18) (fun _ => x_aload_n rfl rfl) ?_
  refine v_p H (o := 0) (z := ((D 2 : Nat) : Int)) (v := .ref (D 2)) rfl rfl rfl rfl rfl rfl (vrf rfl) rfl (show (-1 : Int) ≤ ((D 2 : Nat) : Int) by omega) (fun σ H Oₚ => ?_)
  have O := OUT_trans O Oₚ
  have cFu8 : SF oz_D2clsl_10 F (updF (updF (updF F 0 4 ((D 3 : Nat) : Int)) 0 5 (u1_1)) 0 6 ((D 2 : Nat) : Int)) := SF_upd (cFu7) rfl
  have mFu8 := SFm_of cFu8 oz_D2cls_21
  refine Ew_of (pcₚ := 22) (fun _ => x_aload_n rfl rfl) ?_
  refine Ew_of (pcₚ := 23) (fun _ => x_iload_n rfl rfl) ?_
  refine v_p H (o := 0) (z := a3) (v := I (a3)) rfl rfl rfl rfl rfl rfl rfl rfl (show (-2147483648 : Int) ≤ a3 ∧ a3 ≤ 2147483647 from q_31 h0) (fun σ H Oₚ => ?_)
  have O := OUT_trans O Oₚ
  have cFu9 : SF oz_D2clsl_10 F (updF (updF (updF (updF F 0 4 ((D 3 : Nat) : Int)) 0 5 (u1_1)) 0 6 ((D 2 : Nat) : Int)) 0 7 (a3)) := SF_upd (cFu8) rfl
  have mFu9 := SFm_of cFu9 oz_D2cls_21
  refine Ew_of (pcₚ := 27) (fun _ => x_aload_n rfl rfl) ?_
  refine Ew_of (pcₚ := 28) (fun _ => x_aload_n rfl rfl) ?_
  refine v_g H (o := 0) (v := I (u1_1)) rfl rfl rfl rfl rfl (congrArg (fun z : Int => I z) (rfl : (updF (updF (updF (updF F 0 4 ((D 3 : Nat) : Int)) 0 5 (u1_1)) 0 6 ((D 2 : Nat) : Int)) 0 7 (a3)) 0 5 = u1_1)) ?_
  refine v_p H (o := 0) (z := u1_1) (v := I (u1_1)) rfl rfl rfl rfl rfl rfl rfl rfl (show (-2147483648 : Int) ≤ u1_1 ∧ u1_1 ≤ 2147483647 from r4) (fun σ H Oₚ => ?_)
  have O := OUT_trans O Oₚ
  have cFu10 : SF oz_D2clsl_10 F (updF (updF (updF (updF (updF F 0 4 ((D 3 : Nat) : Int)) 0 5 (u1_1)) 0 6 ((D 2 : Nat) : Int)) 0 7 (a3)) 0 12 (u1_1)) := SF_upd (cFu9) rfl
  have mFu10 := SFm_of cFu10 oz_D2cls_21
  exact w_ret rfl (k _ _ _ H O (cFu10) (SA_refl) (u1_1) (rfl) (a3) (rfl) (u1_1) (rfl) ((show (updF F 0 4 ((D 3 : Nat) : Int)) 0 4 = ((D 3 : Nat) : Int) from rfl)) ((show (updF (updF (updF F 0 4 ((D 3 : Nat) : Int)) 0 5 (u1_1)) 0 6 ((D 2 : Nat) : Int)) 0 6 = ((D 2 : Nat) : Int) from rfl)) (show (u1_1) = (u1_1) ∧ (a3) = a3 ∧ (u1_1) = (u1_1) from q_3141))
abbrev V223_Row_Row : vV := [(0, 11, [(4, 0), (4, 0), (4, 0), (4, 0), (4, 0), (0, 0), (4, 0), (0, 0), (0, 0), (0, 0), (0, 0), (0, 0), (0, 0)]), (0, 7, [(4, 0), (0, 0), (1, 0), (0, 0), (0, 0)]), (0, 7, [(4, 0), (0, 0), (1, 0), (0, 0), (0, 0)]), (1, 0, []), (1, 0, []), (0, 7, [(4, 0), (0, 0), (1, 0), (0, 0), (0, 0)]), (1, 0, [])]
theorem len_V223_Row_Row_oz_D2cls : (V223_Row_Row).length = 7 := by decide +kernel
theorem oz_D2cls_23 : vsub V223_Row_Row V222_Row_Row [0, 1, 2, 3] = true := by decide +kernel
theorem oz_D2cls_24 : vsub V223_Row_Row V224 [0, 3, 2, 4, 5, 6] = true := by decide +kernel
theorem oz_D2cls_25 : vmov V223_Row_Row [0, 3, 2, 4, 5, 6] [3] = true := by decide +kernel
def oz_D2clsl_11 : List (Nat × Nat) := [(0, 4), (0, 5), (0, 6), (0, 7), (0, 11), (0, 12), (2, 0), (2, 1), (2, 2)]
theorem oz_D2cls_26 : (oz_D2clsl_11).all (fun p => !tbz 129127208515966867696 (Nat.add (Nat.mul 32 p.1) p.2)) = true := by decide +kernel
def oz_D2clsl_12 : List Nat := [4]
theorem oz_D2cls_27 : (oz_D2clsl_12).all (fun p => !tbz 16 p) = true := by decide +kernel
def oz_D2clsl_13 : List Nat := [0, 1, 2, 3]
theorem oz_D2cls_28 : okc oz_D2clsl_13 403177984 = true := by decide +kernel
def oz_D2clsl_14 : List Nat := [0, 3, 2, 4, 5, 6]
theorem oz_D2cls_29 : okc oz_D2clsl_14 211450367313408 = true := by decide +kernel

theorem C223_Row_Row {σE : rS} {D N : Nat → Nat} {F : hF} {A : hA} {d c s : Nat} {Q : wQ} (H : HW V223_Row_Row σE D N F A) {a3 : Int} (pf3 : F 1 0 = (D 3 : Int)) (pf4 : F 2 0 = (D 4 : Int)) (pf5 : F 0 1 = (D 5 : Int)) (pf6 : F 5 0 = (D 6 : Int)) (n3 : Int) (en3 : (N 3 : Int) = n3) (n4 : Int) (en4 : (N 4 : Int) = n4) (n6 : Int) (en6 : (N 6 : Int) = n6) (u0_12 : Int) (eu0_12 : F 0 12 = u0_12) (u1_1 : Int) (eu1_1 : F 1 1 = u1_1) (u2_1 : Int) (eu2_1 : F 2 1 = u2_1) (u2_2 : Int) (eu2_2 : F 2 2 = u2_2) (u5_1 : Int) (eu5_1 : F 5 1 = u5_1) (w3 : Int → Int) (ew3 : A 3 = w3) (w4 : Int → Int) (ew4 : A 4 = w4) (w6 : Int → Int) (ew6 : A 6 = w6) (h0 : inr (a3)) (h1 : 0 ≤ (u1_1) ∧ (u1_1) ≤ (n3) ∧ (n3) ≤ 65536) (h2 : 0 ≤ (u2_1) ∧ (u2_1) ≤ (n4) ∧ (n4) ≤ 65536) (h3 : 0 ≤ (u5_1) ∧ (u5_1) ≤ (n6) ∧ (n6) ≤ 65536) (h4 : 0 ≤ (a3) ∧ (a3) ≤ 65536) (h5 : (u2_1) = 0 ∧ (u2_2) = 0) (k : ∀ (z : Int) (σ : rS) (Dₚ Nₚ : Nat → Nat) (Fₚ : hF) (Aₚ : hA) (cₚ sₚ : Nat), HW V223_Row_Row σ Dₚ Nₚ Fₚ Aₚ → OUT (V223_Row_Row).length D N σE c s Dₚ Nₚ σ cₚ sₚ → SD [4] D Dₚ → SD [4] N Nₚ → SF [(0, 4), (0, 5), (0, 6), (0, 7), (0, 11), (0, 12), (2, 0), (2, 1), (2, 2)] F Fₚ → SA [4] A Aₚ → Fₚ 2 0 = (Dₚ 4 : Int) → ∀ m4 : Int, (Nₚ 4 : Int) = m4 → ∀ y0_12 : Int, Fₚ 0 12 = y0_12 → ∀ y2_1 : Int, Fₚ 2 1 = y2_1 → ∀ y2_2 : Int, Fₚ 2 2 = y2_2 → ∀ v4 : Int → Int, Aₚ 4 = v4 → (inr (z)) → (0 ≤ (z) ∧ (z) ≤ 3) → (0 ≤ (y2_1) ∧ (y2_1) ≤ (m4) ∧ (m4) ≤ 65536) → ((y2_2) = 0) → (TBP (ub8 ((w3))) ((u1_1)) 0 (sc ((w6)) 0 ((u5_1))) ((a3)) ((z)) ((y0_12)) (sc ((w6)) 0 ((u5_1)) ++ sc ((v4)) 0 ((y2_1)))) → ((z) ≠ 0 ∨ (y0_12) = (u1_1)) → Q (some (I z)) σ cₚ sₚ) : Ew 223 (d + 4) 0 (rargs 0 [.ref (D 0), .ref (D 1), .ref (D 2), I a3]) [] σE c s Q := by
  have O := OUT_refl (n := (V223_Row_Row).length) (D := D) (N := N) (σ := σE) (c := c) (s := s)
  have HE := H
  have r1 : (-2147483648 : Int) ≤ u0_12 ∧ u0_12 ≤ 2147483647 := rngE (show (-2147483648 : Int) ≤ F 0 12 ∧ F 0 12 ≤ 2147483647 from H.krg 0 12 (ltn len_V223_Row_Row_oz_D2cls rfl)) (show F 0 12 = u0_12 from (eu0_12))
  have r2 : (-2147483648 : Int) ≤ u1_1 ∧ u1_1 ≤ 2147483647 := rngE (show (-2147483648 : Int) ≤ F 1 1 ∧ F 1 1 ≤ 2147483647 from H.krg 1 1 (ltn len_V223_Row_Row_oz_D2cls rfl)) (show F 1 1 = u1_1 from (eu1_1))
  have r3 : (-2147483648 : Int) ≤ u2_1 ∧ u2_1 ≤ 2147483647 := rngE (show (-2147483648 : Int) ≤ F 2 1 ∧ F 2 1 ≤ 2147483647 from H.krg 2 1 (ltn len_V223_Row_Row_oz_D2cls rfl)) (show F 2 1 = u2_1 from (eu2_1))
  have r4 : (0 : Int) ≤ u2_2 ∧ u2_2 ≤ 1 := rngE (show (0 : Int) ≤ F 2 2 ∧ F 2 2 ≤ 1 from H.krg 2 2 (ltn len_V223_Row_Row_oz_D2cls rfl)) (show F 2 2 = u2_2 from (eu2_2))
  have r5 : (-2147483648 : Int) ≤ u5_1 ∧ u5_1 ≤ 2147483647 := rngE (show (-2147483648 : Int) ≤ F 5 1 ∧ F 5 1 ≤ 2147483647 from H.krg 5 1 (ltn len_V223_Row_Row_oz_D2cls rfl)) (show F 5 1 = u5_1 from (eu5_1))
  have r6 : (0 : Int) ≤ n3 ∧ n3 ≤ 1000000 := nleE (H.nle 3 (ltn len_V223_Row_Row_oz_D2cls rfl)) (show (N 3 : Int) = n3 from en3)
  have r7 : (0 : Int) ≤ n4 ∧ n4 ≤ 1000000 := nleE (H.nle 4 (ltn len_V223_Row_Row_oz_D2cls rfl)) (show (N 4 : Int) = n4 from en4)
  have r8 : (0 : Int) ≤ n6 ∧ n6 ≤ 1000000 := nleE (H.nle 6 (ltn len_V223_Row_Row_oz_D2cls rfl)) (show (N 6 : Int) = n6 from en6)
  refine Ew_of (pcₚ := 1) (fun _ => x_aload_n rfl rfl) ?_
  refine Ew_of (pcₚ := 2) (fun _ => x_aload_n rfl rfl) ?_
  refine Ew_of (pcₚ := 3) (fun _ => x_aload_n rfl rfl) ?_
  refine Ew_of (pcₚ := 4) (fun _ => x_iload_n rfl rfl) ?_
  have r9 : (-2147483648 : Int) ≤ F 0 5 ∧ F 0 5 ≤ 2147483647 := H.krg 0 5 (ltn len_V223_Row_Row_oz_D2cls rfl)
  have r10 : (-2147483648 : Int) ≤ F 0 7 ∧ F 0 7 ≤ 2147483647 := H.krg 0 7 (ltn len_V223_Row_Row_oz_D2cls rfl)
  refine v_inv H (o := 0) rfl rfl rfl rfl rfl rfl (by rfl) (C222_Row_Row (D := puc 403177984 D) (N := puc 403177984 N) (HW_subc H oz_D2cls_23 oz_D2cls_28) (pf3) (n3) (en3) (F 0 5) (rfl) (F 0 7) (rfl) (u0_12) ((eu0_12)) (u1_1) ((eu1_1)) (show inr (a3) from h0) (fun σ11 F11ₚ A11ₚ Hₚ Oₚ hS11 hA11 y11_0_5 ey11_0_5 y11_0_7 ey11_0_7 y11_0_12 ey11_0_12 pq11_0 pq11_1 pz11_0 => ⟨rfl, ?_⟩))
  refine v_backc (c := c) (s := s) H oz_D2cls_23 oz_D2cls_28 Hₚ Oₚ (fun F11 A11 H Oₚ eF11 eA11 => ?_)
  have O := OUT_trans O Oₚ
  -- Tokens.begin
  have cF11 : SF oz_D2clsl_11 F F11 := SF_trans (SF_refl) (SF_gluc (ι := oz_D2clsl_13) oz_D2cls_28 hS11 eF11 (by decide +kernel)) (any_sub (lₚ := [(0, 4), (0, 5), (0, 6), (0, 7), (0, 12)]) (by decide +kernel))
  have mF11 := SFm_of cF11 oz_D2cls_26
  have cA11 : SA oz_D2clsl_12 A A11 := SA_trans (SA_refl) (SA_gluc (ι := oz_D2clsl_13) oz_D2cls_28 hA11 eA11 (by decide +kernel)) (any_subA (lₚ := []) (by decide +kernel))
  have mA11 := SAm_of cA11 oz_D2cls_27
  have pl11_0 : F11 0 4 = (D 3 : Int) := (eF11 0 4).trans (pq11_0)
  have pl11_1 : F11 0 6 = (D 2 : Int) := (eF11 0 6).trans (pq11_1)
  have r12 : (-2147483648 : Int) ≤ y11_0_5 ∧ y11_0_5 ≤ 2147483647 := rngE (show (-2147483648 : Int) ≤ F11 0 5 ∧ F11 0 5 ≤ 2147483647 from H.krg 0 5 (ltn len_V223_Row_Row_oz_D2cls rfl)) (show F11 0 5 = y11_0_5 from ((eF11 0 5).trans ey11_0_5))
  have r13 : (-2147483648 : Int) ≤ y11_0_7 ∧ y11_0_7 ≤ 2147483647 := rngE (show (-2147483648 : Int) ≤ F11 0 7 ∧ F11 0 7 ≤ 2147483647 from H.krg 0 7 (ltn len_V223_Row_Row_oz_D2cls rfl)) (show F11 0 7 = y11_0_7 from ((eF11 0 7).trans ey11_0_7))
  have r14 : (-2147483648 : Int) ≤ y11_0_12 ∧ y11_0_12 ≤ 2147483647 := rngE (show (-2147483648 : Int) ≤ F11 0 12 ∧ F11 0 12 ≤ 2147483647 from H.krg 0 12 (ltn len_V223_Row_Row_oz_D2cls rfl)) (show F11 0 12 = y11_0_12 from ((eF11 0 12).trans ey11_0_12))
  refine Ew_of (pcₚ := 8) (fun _ => x_aload_n rfl rfl) ?_
  refine Ew_of (pcₚ := 9) (fun _ => x_iconst rfl) ?_
  refine Ew_of (pcₚ := 10) (fun _ => x_aload_n rfl rfl) ?_
  refine v_g H (o := 0) (v := I (y11_0_5)) rfl rfl rfl rfl rfl (congrArg (fun z : Int => I z) (((eF11 0 5).trans ey11_0_5) : F11 0 5 = y11_0_5)) ?_
  refine Ew_of (pcₚ := 14) (fun _ => x_iconst rfl) ?_
  refine Ew_of (pcₚ := 15) (fun _ => x_aload_n rfl rfl) ?_
  refine v_g H (o := 0) (v := I (y11_0_7)) rfl rfl rfl rfl rfl (congrArg (fun z : Int => I z) (((eF11 0 7).trans ey11_0_7) : F11 0 7 = y11_0_7)) ?_
  refine v_inv H (o := 0) rfl rfl rfl rfl rfl rfl (by rfl) (C224 (D := puc 211450367313408 D) (N := puc 211450367313408 N) (HW_subc H oz_D2cls_24 oz_D2cls_29) (pl11_0) (pl11_1) ((((show F11 2 0 = F 2 0 from (eF11 2 0).trans (hS11 2 0 rfl)))).trans (pf4)) ((mF11 0 1 rfl).trans (pf5)) ((mF11 5 0 rfl).trans (pf6)) (n3) (en3) (n4) (en4) (n6) (en6) (y11_0_12) (((eF11 0 12).trans ey11_0_12)) (u2_1) ((((show F11 2 1 = F 2 1 from (eF11 2 1).trans (hS11 2 1 rfl))).trans (eu2_1))) (u2_2) ((((show F11 2 2 = F 2 2 from (eF11 2 2).trans (hS11 2 2 rfl))).trans (eu2_2))) (u5_1) (((mF11 5 1 rfl).trans (eu5_1))) (w3) ((funext (mA11 3 rfl)).trans (ew3)) (w4) (((show A11 4 = A 4 from (eA11 4))).trans (ew4)) (w6) ((funext (mA11 6 rfl)).trans (ew6)) (show inr (0) from q_2) (show inr (y11_0_5) from q_18 r12) (show inr (0) from q_2) (show inr (y11_0_7) from q_18 r13) (show 0 ≤ (0) ∧ (0) ≤ (y11_0_5) ∧ (y11_0_5) ≤ (n3) ∧ (n3) ≤ 65536 from q_3144 h1 pz11_0) (show 0 ≤ (u2_1) ∧ (u2_1) ≤ (n4) ∧ (n4) ≤ 65536 from h2) (show 0 ≤ (u5_1) ∧ (u5_1) ≤ (n6) ∧ (n6) ≤ 65536 from h3) (show 0 ≤ (0) ∧ (0) ≤ (u2_1) from q_3013 h2) (show 0 ≤ (y11_0_7) ∧ (y11_0_7) ≤ 65536 from q_3143 h4 pz11_0) (show (u2_2) = 0 ∧ (u2_1) ≤ (y11_0_7) from q_3142 h4 h5 pz11_0) (fun z15 σ15 D15ₚ N15ₚ F15ₚ A15ₚ c15 s15 Hₚ Oₚ hD15 hN15 hS15 hA15 pm15_3 m15_3 em15_3 y15_0_12 ey15_0_12 y15_2_1 ey15_2_1 y15_2_2 ey15_2_2 w15_3 ew15_3 pz15_0 pz15_1 pz15_2 pz15_3 pz15_4 pz15_5 pz15_6 pz15_7 pz15_8 => ⟨rfl, ?_⟩))
  refine v_backMc (c := c) (s := s) H oz_D2cls_24 oz_D2cls_29 Hₚ Oₚ hD15 oz_D2cls_25 (fun D15 N15 F15 A15 H Oₚ eD15 eN15 eF15 eA15 => ?_)
  have O := OUT_trans O Oₚ
  -- Tokens.unpackBlock
  have cF15 : SF oz_D2clsl_11 F F15 := SF_trans (cF11) (SF_gluc (ι := oz_D2clsl_14) oz_D2cls_29 hS15 eF15 (by decide +kernel)) (any_sub (lₚ := [(0, 11), (0, 12), (2, 0), (2, 1), (2, 2)]) (by decide +kernel))
  have mF15 := SFm_of cF15 oz_D2cls_26
  have cA15 : SA oz_D2clsl_12 A A15 := SA_trans (cA11) (SA_gluc (ι := oz_D2clsl_14) oz_D2cls_29 hA15 eA15 (by decide +kernel)) (any_subA (lₚ := [4]) (by decide +kernel))
  have mA15 := SAm_of cA15 oz_D2cls_27
  have cD15 : SD oz_D2clsl_12 D D15 := SD_trans (SD_refl) (SD_gluc (ι := oz_D2clsl_14) oz_D2cls_29 hD15 eD15 (by decide +kernel)) (any_subA (lₚ := [4]) (by decide +kernel))
  have mD15 := SDm_of cD15 oz_D2cls_27
  have cN15 : SD oz_D2clsl_12 N N15 := SD_trans (SD_refl) (SD_gluc (ι := oz_D2clsl_14) oz_D2cls_29 hN15 eN15 (by decide +kernel)) (any_subA (lₚ := [4]) (by decide +kernel))
  have mN15 := SDm_of cN15 oz_D2cls_27
  have pf15_0_4 : F15 0 4 = (D15 3 : Int) := ((show F15 0 4 = F11 0 4 from (eF15 0 4).trans (hS15 0 4 rfl))).trans ((pl11_0).trans (congrArg (fun q : Nat => (q : Int)) ((show D15 3 = D 3 from (eD15 3).trans (hD15 1 rfl))).symm))
  have pf15_0_6 : F15 0 6 = (D15 2 : Int) := ((show F15 0 6 = F11 0 6 from (eF15 0 6).trans (hS15 0 6 rfl))).trans ((pl11_1).trans (congrArg (fun q : Nat => (q : Int)) ((show D15 2 = D 2 from (eD15 2).trans (hD15 2 rfl))).symm))
  have pf15_2_0 : F15 2 0 = (D15 4 : Int) := (eF15 2 0).trans (pm15_3.trans (congrArg (fun q : Nat => (q : Int)) (eD15 4).symm))
  have r16 : (0 : Int) ≤ m15_3 ∧ m15_3 ≤ 1000000 := nleE (H.nle 4 (ltn len_V223_Row_Row_oz_D2cls rfl)) (show (N15 4 : Int) = m15_3 from (congrArg (fun q : Nat => (q : Int)) (eN15 4)).trans em15_3)
  have r17 : (-2147483648 : Int) ≤ y15_0_12 ∧ y15_0_12 ≤ 2147483647 := rngE (show (-2147483648 : Int) ≤ F15 0 12 ∧ F15 0 12 ≤ 2147483647 from H.krg 0 12 (ltn len_V223_Row_Row_oz_D2cls rfl)) (show F15 0 12 = y15_0_12 from ((eF15 0 12).trans ey15_0_12))
  have r18 : (-2147483648 : Int) ≤ y15_2_1 ∧ y15_2_1 ≤ 2147483647 := rngE (show (-2147483648 : Int) ≤ F15 2 1 ∧ F15 2 1 ≤ 2147483647 from H.krg 2 1 (ltn len_V223_Row_Row_oz_D2cls rfl)) (show F15 2 1 = y15_2_1 from ((eF15 2 1).trans ey15_2_1))
  have r19 : (0 : Int) ≤ y15_2_2 ∧ y15_2_2 ≤ 1 := rngE (show (0 : Int) ≤ F15 2 2 ∧ F15 2 2 ≤ 1 from H.krg 2 2 (ltn len_V223_Row_Row_oz_D2cls rfl)) (show F15 2 2 = y15_2_2 from ((eF15 2 2).trans ey15_2_2))
  have : TBP (ub8 ((w3))) ((u1_1)) 0 (sc ((w6)) 0 ((u5_1))) ((a3)) ((z15)) ((y15_0_12)) (sc ((w6)) 0 ((u5_1)) ++ sc ((w15_3)) 0 ((y15_2_1))) := by have h := pz15_6; rw [pz11_0.1, pz11_0.2.1, sc_nil (a := 0) (b := (u2_1)) (by omega), List.append_nil, show (a3) - (u2_1) = (a3) by omega] at h; exact h
  exact w_ireturn rfl (k (z15) _ _ _ _ _ _ _ H O (cD15) (cN15) (cF15) (cA15) (pf15_2_0) (m15_3) ((congrArg (fun q : Nat => (q : Int)) (eN15 4)).trans em15_3) (y15_0_12) (((eF15 0 12).trans ey15_0_12)) (y15_2_1) (((eF15 2 1).trans ey15_2_1)) (y15_2_2) (((eF15 2 2).trans ey15_2_2)) (w15_3) ((eA15 4).trans ew15_3) (show inr (z15) from pz15_0) (show 0 ≤ (z15) ∧ (z15) ≤ 3 from pz15_1) (show 0 ≤ (y15_2_1) ∧ (y15_2_1) ≤ (m15_3) ∧ (m15_3) ≤ 65536 from pz15_2) (show (y15_2_2) = 0 from pz15_5) (show TBP (ub8 ((w3))) ((u1_1)) 0 (sc ((w6)) 0 ((u5_1))) (a3) ((z15)) ((y15_0_12)) (sc ((w6)) 0 ((u5_1)) ++ sc ((w15_3)) 0 ((y15_2_1))) by assumption) (show (z15) ≠ 0 ∨ (y15_0_12) = (u1_1) by omega))

