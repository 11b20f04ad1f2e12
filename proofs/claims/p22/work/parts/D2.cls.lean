abbrev V221 : vV := [(0, 11, [(4, 0), (4, 0), (4, 0), (4, 0), (4, 0), (0, 0), (4, 0), (0, 0), (0, 0), (0, 0), (0, 0), (0, 0), (0, 0)])]
theorem len_V221_oz_D2cls : (V221).length = 1 := by decide +kernel
def oz_D2clsl_0 : List (Nat × Nat) := [(0, 12)]
theorem oz_D2cls_1 : (oz_D2clsl_0).all (fun p => !tbz 4096 (Nat.add (Nat.mul 32 p.1) p.2)) = true := by decide +kernel
/-- Tokens.fail: this -/
theorem C221 {σE : rS} {D N : Nat → Nat} {F : hF} {A : hA} {d c s : Nat} {Q : wQ} (H : HW V221 σE D N F A) {a1 a2 : Int} (u0_12 : Int) (eu0_12 : F 0 12 = u0_12) (h0 : inr (a1)) (h1 : inr (a2)) (k : ∀ (z : Int) (σ : rS) (Fₚ : hF) (Aₚ : hA), HW V221 σ D N Fₚ Aₚ → OUT (V221).length D N σE c s D N σ c s → SF [(0, 12)] F Fₚ → SA [] A Aₚ → ∀ y0_12 : Int, Fₚ 0 12 = y0_12 → (inr (z)) → ((z) = (a1)) → ((y0_12) = (a2)) → Q (some (I z)) σ c s) : Ew 221 (d + 0) 0 (rargs 0 [.ref (D 0), I a1, I a2]) [] σE c s Q := by
  have O := OUT_refl (n := (V221).length) (D := D) (N := N) (σ := σE) (c := c) (s := s)
  have HE := H
  have r1 : (-2147483648 : Int) ≤ u0_12 ∧ u0_12 ≤ 2147483647 := rngE (show (-2147483648 : Int) ≤ F 0 12 ∧ F 0 12 ≤ 2147483647 from H.krg 0 12 (ltn len_V221_oz_D2cls rfl)) (show F 0 12 = u0_12 from (eu0_12))
  refine Ew_of (pcₚ := 1) (fun _ => x_aload_n rfl rfl) ?_
  refine Ew_of (pcₚ := 2) (fun _ => x_iload_n rfl rfl) ?_
  refine v_p H (o := 0) (z := a2) (v := I (a2)) rfl rfl rfl rfl rfl rfl rfl rfl (show (-2147483648 : Int) ≤ a2 ∧ a2 ≤ 2147483647 from q_61 h1) (fun σ H Oₚ => ?_)
  have O := OUT_trans O Oₚ
  have cFu2 : SF oz_D2clsl_0 F (updF F 0 12 (a2)) := SF_upd (SF_refl) rfl
  have mFu2 := SFm_of cFu2 oz_D2cls_1
  refine Ew_of (pcₚ := 6) (fun _ => x_iload_n rfl rfl) ?_
  exact w_ireturn rfl (k (a1) _ _ _ H O (cFu2) (SA_refl) (a2) (rfl) (show inr (a1) from h0) (show (a1) = a1 from q_42) (show (a2) = a2 from q_42))
abbrev V225 : vV := [(0, 11, [(4, 0), (4, 0), (4, 0), (4, 0), (4, 0), (0, 0), (4, 0), (0, 0), (0, 0), (0, 0), (0, 0), (0, 0), (0, 0)]), (1, 0, [])]
theorem len_V225_oz_D2cls : (V225).length = 2 := by decide +kernel
def oz_D2clsl_1 : List (Nat × Nat) := [(0, 11)]
theorem oz_D2cls_3 : (oz_D2clsl_1).all (fun p => !tbz 2048 (Nat.add (Nat.mul 32 p.1) p.2)) = true := by decide +kernel
def oz_D2clsl_2 : List Nat := []
theorem oz_D2cls_4 : (oz_D2clsl_2).all (fun p => !tbz 0 p) = true := by decide +kernel
/-- Tokens.addUp: this, this.in -/
theorem C225 {σE : rS} {D N : Nat → Nat} {F : hF} {A : hA} {d c s : Nat} {Q : wQ} (H : HW V225 σE D N F A) {a1 a2 a3 : Int} (pf1 : F 0 4 = (D 1 : Int)) (n1 : Int) (en1 : (N 1 : Int) = n1) (u0_11 : Int) (eu0_11 : F 0 11 = u0_11) (h0 : inr (a1)) (h1 : inr (a2)) (h2 : inr (a3)) (h3 : 0 ≤ (a1) ∧ (a1) ≤ 15) (h4 : 0 ≤ (a2) ∧ (a2) ≤ (a3) ∧ (a3) ≤ (n1) ∧ (n1) ≤ 65536) (k : ∀ (z : Int) (σ : rS) (Fₚ : hF) (Aₚ : hA), HW V225 σ D N Fₚ Aₚ → OUT (V225).length D N σE c s D N σ c s → SF [(0, 11)] F Fₚ → SA [] A Aₚ → ∀ y0_11 : Int, Fₚ 0 11 = y0_11 → (inr (z)) → ((z) = -1 ∨ (a2) ≤ (z) ∧ (z) ≤ (a3)) → (0 ≤ (y0_11) ∧ (y0_11) ≤ 17000000) → Q (some (I z)) σ c s) : Ew 225 (d + 0) 0 (rargs 0 [.ref (D 0), I a1, I a2, I a3]) [] σE c s Q := by
  have O := OUT_refl (n := (V225).length) (D := D) (N := N) (σ := σE) (c := c) (s := s)
  have HE := H
  have r1 : (-2147483648 : Int) ≤ u0_11 ∧ u0_11 ≤ 2147483647 := rngE (show (-2147483648 : Int) ≤ F 0 11 ∧ F 0 11 ≤ 2147483647 from H.krg 0 11 (ltn len_V225_oz_D2cls rfl)) (show F 0 11 = u0_11 from (eu0_11))
  have r2 : (0 : Int) ≤ n1 ∧ n1 ≤ 1000000 := nleE (H.nle 1 (ltn len_V225_oz_D2cls rfl)) (show (N 1 : Int) = n1 from en1)
  refine Ew_of (pcₚ := 1) (fun _ => x_aload_n rfl rfl) ?_
  refine Ew_of (pcₚ := 2) (fun _ => x_iload_n rfl rfl) ?_
  refine v_p H (o := 0) (z := a1) (v := I (a1)) rfl rfl rfl rfl rfl rfl rfl rfl (show (-2147483648 : Int) ≤ a1 ∧ a1 ≤ 2147483647 from q_142 h3) (fun σ H Oₚ => ?_)
  have O := OUT_trans O Oₚ
  have cFu3 : SF oz_D2clsl_1 F (updF F 0 11 (a1)) := SF_upd (SF_refl) rfl
  have mFu3 := SFm_of cFu3 oz_D2cls_3
  refine Ew_of (pcₚ := 6) (fun _ => x_iload_n rfl rfl) ?_
  refine Ew_of (pcₚ := 8) (fun _ => x_bipush (z := 15) rfl (by decide)) ?_
  refine w_icmpge (t := 13) rfl rfl (show inr (a1) from h0) (show inr (15) from q_143) (fun b4 => ?_) (fun b4 => ?_)
  · refine Ew_of (pcₚ := 14) (fun _ => x_iload_n rfl rfl) ?_
    refine Ew_of (pcₚ := 16) (fun _ => x_istore rfl) ?_
    suffices hl16 : ∀ (m : Nat), ∀ (ls : rO) (σ : rS) (F_16 : hF) (A_16 : hA) (x16_4 : Int), rlook ls 0 = some (.ref (D 0)) → rlook ls 3 = some (I (a3)) → rlook ls 4 = some (I (x16_4)) → HW V225 σ D N F_16 A_16 → OUT (V225).length D N σE c s D N σ c s → SF [(0, 11)] (updF F 0 11 (a1)) F_16 → SA [] A A_16 → ∀ y16_0_11 : Int, F_16 0 11 = y16_0_11 → (inr (x16_4)) → ((a2) ≤ (x16_4)) → ((x16_4) ≤ (a2) ∨ (x16_4) ≤ ((a3))) → (0 ≤ (y16_0_11) ∧ (y16_0_11) ≤ 15 + 255 * ((x16_4) - (a2))) → (((a3)) - (x16_4)).toNat = m → Ew 225 (d + 0) 16 ls [] σ c s Q from
      hl16 _ _ _ _ _ (a2) (rk_o (rfl) rfl rfl) (rk_o (rfl) rfl rfl) (rk_s) H O (SF_refl) (SA_refl)   (a1) (rfl)  (show inr (a2) from h1) (show (a2) ≤ (a2) from q_102) (show (a2) ≤ (a2) ∨ (a2) ≤ ((a3)) from q_101) (show 0 ≤ (a1) ∧ (a1) ≤ 15 + 255 * ((a2) - (a2)) from q_144 h3) rfl
    as_aux_lemma =>
    intro m
    induction m using Nat.strongRecOn with
    | _ m ih16 =>
      intro ls σ F_16 A_16 x16_4 l16_0 l16_3 l16_4 H O hS_16 hA_16   y16_0_11 ey16_0_11  j16_0 j16_1 j16_2 j16_3 hm16
      have cF_16 : SF oz_D2clsl_1 F F_16 := SF_trans (cFu3) hS_16 (any_sub (by decide +kernel))
      have mF_16 := SFm_of cF_16 oz_D2cls_3
      have cA_16 : SA oz_D2clsl_2 A A_16 := SA_trans (SA_refl) hA_16 (any_subA (by decide +kernel))
      have mA_16 := SAm_of cA_16 oz_D2cls_4
      have r5 : (-2147483648 : Int) ≤ y16_0_11 ∧ y16_0_11 ≤ 2147483647 := rngE (show (-2147483648 : Int) ≤ F_16 0 11 ∧ F_16 0 11 ≤ 2147483647 from H.krg 0 11 (ltn len_V225_oz_D2cls rfl)) (show F_16 0 11 = y16_0_11 from (ey16_0_11))
      refine Ew_of (pcₚ := 18) (fun _ => x_iload rfl l16_4) ?_
      refine Ew_of (pcₚ := 19) (fun _ => x_iload_n rfl l16_3) ?_
      refine w_icmpge (t := 65) rfl rfl (show inr (x16_4) from j16_0) (show inr (a3) from h2) (fun b6 => ?_) (fun b6 => ?_)
      · refine Ew_of (pcₚ := 66) (fun _ => x_iconst rfl) ?_
        exact w_ireturn rfl (k ((-1)) _ _ _ H O (cF_16) (cA_16) (y16_0_11) ((ey16_0_11)) (show inr ((-1)) from q_16) (show ((-1)) = -1 ∨ a2 ≤ ((-1)) ∧ ((-1)) ≤ a3 by first | exact q_2789 | omega) (show 0 ≤ (y16_0_11) ∧ (y16_0_11) ≤ 17000000 by omega))
      · refine Ew_of (pcₚ := 23) (fun _ => x_aload_n rfl l16_0) ?_
        refine v_g H (o := 0) (v := .ref (D 1)) rfl rfl rfl rfl rfl (vrf ((mF_16 0 4 rfl).trans (pf1))) ?_
        refine Ew_of (pcₚ := 28) (fun _ => x_iload rfl l16_4) ?_
        refine v_lB H (o := 1) rfl rfl rfl rfl (n := n1) (en1) (show 0 ≤ x16_4 ∧ x16_4 < n1 from q_2790 b6 h4 j16_1) (fun v7 ev7 qv7 => ?_)
        have ev7 : (A 1) (x16_4) = v7 := (congrFun (funext (mA_16 1 rfl)) (x16_4)).symm.trans ev7
        refine Ew_of (pcₚ := 32) (fun _ => x_sipush (z := 255) rfl (by decide)) ?_
        refine w_iand rfl (show inr (v7) from q_2536 qv7) (show inr (255) from q_36) (fun z8 gz8 gaz8 gbz8 => ?_)
        refine Ew_of (pcₚ := 35) (fun _ => x_istore rfl) ?_
        refine Ew_of (pcₚ := 36) (fun _ => x_aload_n rfl (rk_o (l16_0) rfl rfl)) ?_
        refine Ew_of (pcₚ := 37) (fun _ => x_dup rfl rfl) ?_
        refine v_g H (o := 0) (v := I (y16_0_11)) rfl rfl rfl rfl rfl (congrArg (fun z : Int => I z) ((ey16_0_11) : F_16 0 11 = y16_0_11)) ?_
        refine Ew_of (pcₚ := 42) (fun _ => x_iload rfl rk_s) ?_
        refine w_iadd rfl ?_
        refine v_p H (o := 0) (z := (y16_0_11 + z8)) (v := I ((y16_0_11 + z8))) rfl rfl rfl rfl rfl rfl rfl rfl (show (-2147483648 : Int) ≤ (y16_0_11 + z8) ∧ (y16_0_11 + z8) ≤ 2147483647 by omega) (fun σ H Oₚ => ?_)
        have O := OUT_trans O Oₚ
        have cFu9 : SF oz_D2clsl_1 F (updF F_16 0 11 ((y16_0_11 + z8))) := SF_upd (cF_16) rfl
        have mFu9 := SFm_of cFu9 oz_D2cls_3
        refine Ew_of (pcₚ := 48) (fun _ => x_iload rfl rk_s) ?_
        refine Ew_of (pcₚ := 51) (fun _ => x_sipush (z := 255) rfl (by decide)) ?_
        refine w_icmpge (t := 59) rfl rfl (show inr (z8) from gz8) (show inr (255) from q_36) (fun b10 => ?_) (fun b10 => ?_)
        · refine Ew_of (pcₚ := 62) (fun _ => x_iinc (len := 3) rfl (rk_o (l16_4) rfl rfl)) ?_
          refine Ew_of (pcₚ := 16) (fun _ => x_goto rfl rfl) ?_
          exact ih16 _ (msE hm16 q_31 (q_34 b6)) _ _ _ _ ((x16_4 + 1)) (rk_o (rk_o (l16_0) rfl rfl) rfl rfl) (rk_o (rk_o (l16_3) rfl rfl) rfl rfl) (rk_s) H O (SF_upd (hS_16) rfl) (hA_16)   ((y16_0_11 + z8)) (rfl)  (show inr ((x16_4 + 1)) from q_2792 b6 h4 j16_0) (show (a2) ≤ ((x16_4 + 1)) from q_2791 j16_3) (show ((x16_4 + 1)) ≤ (a2) ∨ ((x16_4 + 1)) ≤ ((a3)) from q_104 b6) (show 0 ≤ ((y16_0_11 + z8)) ∧ ((y16_0_11 + z8)) ≤ 15 + 255 * (((x16_4 + 1)) - (a2)) by omega) rfl
        · refine Ew_of (pcₚ := 56) (fun _ => x_iload rfl (rk_o (l16_4) rfl rfl)) ?_
          refine Ew_of (pcₚ := 57) (fun _ => x_iconst rfl) ?_
          refine w_iadd rfl ?_
          exact w_ireturn rfl (k ((x16_4 + 1)) _ _ _ H O (cFu9) (cA_16) ((y16_0_11 + z8)) (rfl) (show inr ((x16_4 + 1)) from q_2792 b6 h4 j16_0) (show ((x16_4 + 1)) = -1 ∨ a2 ≤ ((x16_4 + 1)) ∧ ((x16_4 + 1)) ≤ a3 by first | exact q_2793 b6 j16_3 | omega) (show 0 ≤ ((y16_0_11 + z8)) ∧ ((y16_0_11 + z8)) ≤ 17000000 by omega))
  · refine Ew_of (pcₚ := 12) (fun _ => x_iload_n rfl rfl) ?_
    exact w_ireturn rfl (k (a2) _ _ _ H O (cFu3) (SA_refl) (a1) (rfl) (show inr (a2) from h1) (show (a2) = -1 ∨ a2 ≤ (a2) ∧ (a2) ≤ a3 from q_2795 h4) (show 0 ≤ (a1) ∧ (a1) ≤ 17000000 from q_2794 b4 h3))
abbrev V224 : vV := [(0, 11, [(4, 0), (4, 0), (4, 0), (4, 0), (4, 0), (0, 0), (4, 0), (0, 0), (0, 0), (0, 0), (0, 0), (0, 0), (0, 0)]), (1, 0, []), (0, 7, [(4, 0), (0, 0), (1, 0), (0, 0), (0, 0)]), (1, 0, []), (0, 7, [(4, 0), (0, 0), (1, 0), (0, 0), (0, 0)]), (1, 0, [])]
theorem len_V224_oz_D2cls : (V224).length = 6 := by decide +kernel
theorem oz_D2cls_6 : vsub V224 V221 [0] = true := by decide +kernel
theorem oz_D2cls_7 : vsub V224 V225 [0, 1] = true := by decide +kernel
theorem oz_D2cls_8 : vsub V224 V161_Br [2, 1, 3] = true := by decide +kernel
theorem oz_D2cls_9 : vmov V224 [2, 1, 3] [2] = true := by decide +kernel
theorem oz_D2cls_10 : vsub V224 V42_Br [1] = true := by decide +kernel
theorem oz_D2cls_11 : vsub V224 V163_Row [2, 4, 3, 5] = true := by decide +kernel
theorem oz_D2cls_12 : vmov V224 [2, 4, 3, 5] [2] = true := by decide +kernel
def oz_D2clsl_3 : List (Nat × Nat) := [(0, 11), (0, 12), (2, 0), (2, 1), (2, 2)]
theorem oz_D2cls_13 : (oz_D2clsl_3).all (fun p => !tbz 129127208515966867456 (Nat.add (Nat.mul 32 p.1) p.2)) = true := by decide +kernel
def oz_D2clsl_4 : List Nat := [3]
theorem oz_D2cls_14 : (oz_D2clsl_4).all (fun p => !tbz 8 p) = true := by decide +kernel
def oz_D2clsl_5 : List Nat := [0]
theorem oz_D2cls_15 : okc oz_D2clsl_5 0 = true := by decide +kernel
def oz_D2clsl_6 : List Nat := [0, 1]
theorem oz_D2cls_16 : okc oz_D2clsl_6 512 = true := by decide +kernel
def oz_D2clsl_7 : List Nat := [2, 1, 3]
theorem oz_D2cls_17 : okc oz_D2clsl_7 786946 = true := by decide +kernel
def oz_D2clsl_8 : List Nat := [1]
theorem oz_D2cls_18 : okc oz_D2clsl_8 1 = true := by decide +kernel
def oz_D2clsl_9 : List Nat := [2, 4, 3, 5]
theorem oz_D2cls_19 : okc oz_D2clsl_9 671877122 = true := by decide +kernel
/-- Tokens.unpackBlock: this, this.in, this.result, this.result.bytes, this.past, this.past.bytes -/
theorem C224 {σE : rS} {D N : Nat → Nat} {F : hF} {A : hA} {d c s : Nat} {Q : wQ} (H : HW V224 σE D N F A) {a1 a2 a3 a4 : Int} (pf1 : F 0 4 = (D 1 : Int)) (pf2 : F 0 6 = (D 2 : Int)) (pf3 : F 2 0 = (D 3 : Int)) (pf4 : F 0 1 = (D 4 : Int)) (pf5 : F 4 0 = (D 5 : Int)) (n1 : Int) (en1 : (N 1 : Int) = n1) (n3 : Int) (en3 : (N 3 : Int) = n3) (n5 : Int) (en5 : (N 5 : Int) = n5) (u2_1 : Int) (eu2_1 : F 2 1 = u2_1) (u4_1 : Int) (eu4_1 : F 4 1 = u4_1) (h0 : inr (a1)) (h1 : inr (a2)) (h2 : inr (a3)) (h3 : inr (a4)) (h4 : 0 ≤ (a1) ∧ (a1) ≤ (a2) ∧ (a2) ≤ (n1) ∧ (n1) ≤ 65536) (h5 : 0 ≤ (u2_1) ∧ (u2_1) ≤ (n3) ∧ (n3) ≤ 65536) (h6 : 0 ≤ (u4_1) ∧ (u4_1) ≤ (n5) ∧ (n5) ≤ 65536) (h7 : 0 ≤ (a3) ∧ (a3) ≤ (u2_1)) (h8 : 0 ≤ (a4) ∧ (a4) ≤ 65536) (k : ∀ (z : Int) (σ : rS) (Dₚ Nₚ : Nat → Nat) (Fₚ : hF) (Aₚ : hA) (cₚ sₚ : Nat), HW V224 σ Dₚ Nₚ Fₚ Aₚ → OUT (V224).length D N σE c s Dₚ Nₚ σ cₚ sₚ → SD [3] D Dₚ → SD [3] N Nₚ → SF [(0, 11), (0, 12), (2, 0), (2, 1), (2, 2)] F Fₚ → SA [3] A Aₚ → Fₚ 2 0 = (Dₚ 3 : Int) → ∀ m3 : Int, (Nₚ 3 : Int) = m3 → ∀ y2_1 : Int, Fₚ 2 1 = y2_1 → (inr (z)) → (0 ≤ (z) ∧ (z) ≤ 3) → (0 ≤ (y2_1) ∧ (y2_1) ≤ (m3) ∧ (m3) ≤ 65536) → ((u2_1) ≤ (y2_1)) → ((y2_1) ≤ (a4) ∨ (y2_1) = (u2_1)) → Q (some (I z)) σ cₚ sₚ) : Ew 224 (d + 3) 0 (rargs 0 [.ref (D 0), I a1, I a2, I a3, I a4]) [] σE c s Q := by
  have O := OUT_refl (n := (V224).length) (D := D) (N := N) (σ := σE) (c := c) (s := s)
  have HE := H
  have r1 : (-2147483648 : Int) ≤ u2_1 ∧ u2_1 ≤ 2147483647 := rngE (show (-2147483648 : Int) ≤ F 2 1 ∧ F 2 1 ≤ 2147483647 from H.krg 2 1 (ltn len_V224_oz_D2cls rfl)) (show F 2 1 = u2_1 from (eu2_1))
  have r2 : (-2147483648 : Int) ≤ u4_1 ∧ u4_1 ≤ 2147483647 := rngE (show (-2147483648 : Int) ≤ F 4 1 ∧ F 4 1 ≤ 2147483647 from H.krg 4 1 (ltn len_V224_oz_D2cls rfl)) (show F 4 1 = u4_1 from (eu4_1))
  have r3 : (0 : Int) ≤ n1 ∧ n1 ≤ 1000000 := nleE (H.nle 1 (ltn len_V224_oz_D2cls rfl)) (show (N 1 : Int) = n1 from en1)
  have r4 : (0 : Int) ≤ n3 ∧ n3 ≤ 1000000 := nleE (H.nle 3 (ltn len_V224_oz_D2cls rfl)) (show (N 3 : Int) = n3 from en3)
  have r5 : (0 : Int) ≤ n5 ∧ n5 ≤ 1000000 := nleE (H.nle 5 (ltn len_V224_oz_D2cls rfl)) (show (N 5 : Int) = n5 from en5)
  refine Ew_of (pcₚ := 1) (fun _ => x_iload_n rfl rfl) ?_
  refine Ew_of (pcₚ := 3) (fun _ => x_istore rfl) ?_
  refine Ew_of (pcₚ := 4) (fun _ => x_iload_n rfl (rk_o (rfl) rfl rfl)) ?_
  refine Ew_of (pcₚ := 6) (fun _ => x_istore rfl) ?_
  suffices hl6 : ∀ (m : Nat), ∀ (ls : rO) (σ : rS) (D_6 N_6 : Nat → Nat) (c_6 s_6 : Nat) (F_6 : hF) (A_6 : hA) (x6_5 : Int) (x6_6 : Int), rlook ls 0 = some (.ref (D_6 0)) → rlook ls 2 = some (I (a2)) → rlook ls 3 = some (I (a3)) → rlook ls 4 = some (I (a4)) → rlook ls 5 = some (I (x6_5)) → rlook ls 6 = some (I (x6_6)) → HW V224 σ D_6 N_6 F_6 A_6 → OUT (V224).length D N σE c s D_6 N_6 σ c_6 s_6 → SD [3] D D_6 → SD [3] N N_6 → SF [(0, 11), (2, 0), (2, 1), (2, 2)] F F_6 → SA [3] A A_6 → F_6 2 0 = (D_6 3 : Int) → ∀ m6_3 : Int, (N_6 3 : Int) = m6_3 → ∀ y6_2_1 : Int, F_6 2 1 = y6_2_1 → (inr (x6_5)) → (inr (x6_6)) → ((a1) ≤ (x6_6)) → ((x6_6) ≤ (a1) ∨ (x6_6) ≤ (((a2) + 1))) → (0 ≤ (x6_5) ∧ (x6_5) ≤ (a2)) → (0 ≤ (y6_2_1) ∧ (y6_2_1) ≤ (m6_3) ∧ (m6_3) ≤ 65536) → ((u2_1) ≤ (y6_2_1)) → ((y6_2_1) ≤ (a4) ∨ (y6_2_1) = (u2_1)) → ((((a2) + 1)) - (x6_6)).toNat = m → Ew 224 (d + 3) 6 ls [] σ c_6 s_6 Q from
    hl6 _ _ _ _ _ _ _ _ _ (a1) (a1) (rk_o (rk_o (rfl) rfl rfl) rfl rfl) (rk_o (rk_o (rfl) rfl rfl) rfl rfl) (rk_o (rk_o (rfl) rfl rfl) rfl rfl) (rk_o (rk_o (rfl) rfl rfl) rfl rfl) (rk_o (rk_s) rfl rfl) (rk_s) H O (SD_refl) (SD_refl) (SF_refl) (SA_refl) (pf3) (n3) (en3) (u2_1) ((eu2_1))  (show inr (a1) from h0) (show inr (a1) from h0) (show (a1) ≤ (a1) from q_102) (show (a1) ≤ (a1) ∨ (a1) ≤ (((a2) + 1)) from q_2798) (show 0 ≤ (a1) ∧ (a1) ≤ (a2) from q_2797 h4) (show 0 ≤ (u2_1) ∧ (u2_1) ≤ (n3) ∧ (n3) ≤ 65536 from h5) (show (u2_1) ≤ (u2_1) from q_102) (show (u2_1) ≤ (a4) ∨ (u2_1) = (u2_1) from q_2796) rfl
  as_aux_lemma =>
  intro m
  induction m using Nat.strongRecOn with
  | _ m ih6 =>
    intro ls σ D_6 N_6 c_6 s_6 F_6 A_6 x6_5 x6_6 l6_0 l6_2 l6_3 l6_4 l6_5 l6_6 H O hD_6 hN_6 hS_6 hA_6 pm6_3 m6_3 em6_3 y6_2_1 ey6_2_1  j6_0 j6_1 j6_2 j6_3 j6_4 j6_5 j6_6 j6_7 hm6
    have cF_6 : SF oz_D2clsl_3 F F_6 := SF_trans (SF_refl) hS_6 (any_sub (by decide +kernel))
    have mF_6 := SFm_of cF_6 oz_D2cls_13
    have cA_6 : SA oz_D2clsl_4 A A_6 := SA_trans (SA_refl) hA_6 (any_subA (by decide +kernel))
    have mA_6 := SAm_of cA_6 oz_D2cls_14
    have cD_6 : SD oz_D2clsl_4 D D_6 := SD_trans (SD_refl) hD_6 (any_subA (by decide +kernel))
    have mD_6 := SDm_of cD_6 oz_D2cls_14
    have cN_6 : SD oz_D2clsl_4 N N_6 := SD_trans (SD_refl) hN_6 (any_subA (by decide +kernel))
    have mN_6 := SDm_of cN_6 oz_D2cls_14
    have r6 : (0 : Int) ≤ m6_3 ∧ m6_3 ≤ 1000000 := nleE (H.nle 3 (ltn len_V224_oz_D2cls rfl)) (show (N_6 3 : Int) = m6_3 from em6_3)
    have r7 : (-2147483648 : Int) ≤ y6_2_1 ∧ y6_2_1 ≤ 2147483647 := rngE (show (-2147483648 : Int) ≤ F_6 2 1 ∧ F_6 2 1 ≤ 2147483647 from H.krg 2 1 (ltn len_V224_oz_D2cls rfl)) (show F_6 2 1 = y6_2_1 from (ey6_2_1))
    refine Ew_of (pcₚ := 8) (fun _ => x_iload rfl l6_6) ?_
    refine Ew_of (pcₚ := 9) (fun _ => x_iload_n rfl l6_2) ?_
    refine w_icmpgt (t := 302) rfl rfl (show inr (x6_6) from j6_1) (show inr (a2) from h1) (fun b8 => ?_) (fun b8 => ?_)
    · refine Ew_of (pcₚ := 303) (fun _ => x_aload_n rfl l6_0) ?_
      refine Ew_of (pcₚ := 304) (fun _ => x_iconst rfl) ?_
      refine Ew_of (pcₚ := 305) (fun _ => x_iload_n rfl l6_2) ?_
      have r9 : (-2147483648 : Int) ≤ F 0 12 ∧ F 0 12 ≤ 2147483647 := rngE (show (-2147483648 : Int) ≤ F_6 0 12 ∧ F_6 0 12 ≤ 2147483647 from H.krg 0 12 (ltn len_V224_oz_D2cls rfl)) (show F_6 0 12 = F 0 12 from (hS_6 0 12 rfl))
      refine v_inv H (o := 0) rfl rfl rfl rfl rfl rfl (by rfl) (C221 (D := puc 0 D_6) (N := puc 0 N_6) (HW_subc H oz_D2cls_6 oz_D2cls_15) (F 0 12) ((hS_6 0 12 rfl)) (show inr (1) from q_23) (show inr (a2) from h1) (fun z10 σ10 F10ₚ A10ₚ Hₚ Oₚ hS10 hA10 y10_0_12 ey10_0_12 pz10_0 pz10_1 pz10_2 => ⟨rfl, ?_⟩))
      refine v_backc (c := c_6) (s := s_6) H oz_D2cls_6 oz_D2cls_15 Hₚ Oₚ (fun F10 A10 H Oₚ eF10 eA10 => ?_)
      have O := OUT_trans O Oₚ
      -- Tokens.fail
      have cF10 : SF oz_D2clsl_3 F F10 := SF_trans (cF_6) (SF_gluc (ι := oz_D2clsl_5) oz_D2cls_15 hS10 eF10 (by decide +kernel)) (any_sub (lₚ := [(0, 12)]) (by decide +kernel))
      have mF10 := SFm_of cF10 oz_D2cls_13
      have cA10 : SA oz_D2clsl_4 A A10 := SA_trans (cA_6) (SA_gluc (ι := oz_D2clsl_5) oz_D2cls_15 hA10 eA10 (by decide +kernel)) (any_subA (lₚ := []) (by decide +kernel))
      have mA10 := SAm_of cA10 oz_D2cls_14
      have r11 : (-2147483648 : Int) ≤ y10_0_12 ∧ y10_0_12 ≤ 2147483647 := rngE (show (-2147483648 : Int) ≤ F10 0 12 ∧ F10 0 12 ≤ 2147483647 from H.krg 0 12 (ltn len_V224_oz_D2cls rfl)) (show F10 0 12 = y10_0_12 from ((eF10 0 12).trans ey10_0_12))
      exact w_ireturn rfl (k (z10) _ _ _ _ _ _ _ H O (cD_6) (cN_6) (cF10) (cA10) ((((show F10 2 0 = F_6 2 0 from (eF10 2 0)))).trans (pm6_3)) (m6_3) (em6_3) (y6_2_1) ((((show F10 2 1 = F_6 2 1 from (eF10 2 1))).trans (ey6_2_1))) (show inr (z10) from pz10_0) (show 0 ≤ (z10) ∧ (z10) ≤ 3 from q_2799 pz10_1) (show 0 ≤ (y6_2_1) ∧ (y6_2_1) ≤ (m6_3) ∧ (m6_3) ≤ 65536 from j6_5) (show (u2_1) ≤ (y6_2_1) from j6_6) (show (y6_2_1) ≤ a4 ∨ (y6_2_1) = (u2_1) from j6_7))
    · refine Ew_of (pcₚ := 14) (fun _ => x_iload rfl l6_5) ?_
      refine Ew_of (pcₚ := 15) (fun _ => x_iload_n rfl l6_2) ?_
      refine w_icmplt (t := 25) rfl rfl (show inr (x6_5) from j6_0) (show inr (a2) from h1) (fun b12 => ?_) (fun b12 => ?_)
      · refine Ew_of (pcₚ := 26) (fun _ => x_aload_n rfl l6_0) ?_
        refine v_g H (o := 0) (v := .ref (D_6 1)) rfl rfl rfl rfl rfl (vrf ((mF_6 0 4 rfl).trans ((pf1).trans (congrArg (fun q : Nat => (q : Int)) (mD_6 1 rfl).symm)))) ?_
        refine Ew_of (pcₚ := 31) (fun _ => x_iload rfl l6_5) ?_
        refine v_lB H (o := 1) rfl rfl rfl rfl (n := n1) ((congrArg (fun q : Nat => (q : Int)) (mN_6 1 rfl)).trans (en1)) (show 0 ≤ x6_5 ∧ x6_5 < n1 from q_2800 b12 h4 j6_4) (fun v13 ev13 qv13 => ?_)
        have ev13 : (A 1) (x6_5) = v13 := (congrFun (funext (mA_6 1 rfl)) (x6_5)).symm.trans ev13
        refine Ew_of (pcₚ := 35) (fun _ => x_sipush (z := 255) rfl (by decide)) ?_
        refine w_iand rfl (show inr (v13) from q_2536 qv13) (show inr (255) from q_36) (fun z14 gz14 gaz14 gbz14 => ?_)
        refine Ew_of (pcₚ := 38) (fun _ => x_istore rfl) ?_
        refine Ew_of (pcₚ := 39) (fun _ => x_aload_n rfl (rk_o (l6_0) rfl rfl)) ?_
        refine Ew_of (pcₚ := 41) (fun _ => x_iload rfl rk_s) ?_
        refine Ew_of (pcₚ := 42) (fun _ => x_iconst rfl) ?_
        refine w_ishrK 4 16 (by decide) (by decide) rfl (show inr (z14) from gz14) (fun z15 gz15 dz15 => ?_)
        refine Ew_of (pcₚ := 45) (fun _ => x_iload rfl (rk_o (l6_5) rfl rfl)) ?_
        refine Ew_of (pcₚ := 46) (fun _ => x_iconst rfl) ?_
        refine w_iadd rfl ?_
        refine Ew_of (pcₚ := 48) (fun _ => x_iload_n rfl (rk_o (l6_2) rfl rfl)) ?_
        have r16 : (-2147483648 : Int) ≤ F_6 0 11 ∧ F_6 0 11 ≤ 2147483647 := H.krg 0 11 (ltn len_V224_oz_D2cls rfl)
        refine v_inv H (o := 0) rfl rfl rfl rfl rfl rfl (by rfl) (C225 (D := puc 512 D_6) (N := puc 512 N_6) (HW_subc H oz_D2cls_7 oz_D2cls_16) ((mF_6 0 4 rfl).trans ((pf1).trans (congrArg (fun q : Nat => (q : Int)) (mD_6 1 rfl).symm))) (n1) ((congrArg (fun q : Nat => (q : Int)) (mN_6 1 rfl)).trans (en1)) (F_6 0 11) (rfl) (show inr (z15) from gz15) (show inr ((x6_5 + 1)) from q_2802 b12 h4 j6_4) (show inr (a2) from h1) (show 0 ≤ (z15) ∧ (z15) ≤ 15 by omega) (show 0 ≤ ((x6_5 + 1)) ∧ ((x6_5 + 1)) ≤ (a2) ∧ (a2) ≤ (n1) ∧ (n1) ≤ 65536 from q_2801 b12 h4 j6_4) (fun z17 σ17 F17ₚ A17ₚ Hₚ Oₚ hS17 hA17 y17_0_11 ey17_0_11 pz17_0 pz17_1 pz17_2 => ⟨rfl, ?_⟩))
        refine v_backc (c := c_6) (s := s_6) H oz_D2cls_7 oz_D2cls_16 Hₚ Oₚ (fun F17 A17 H Oₚ eF17 eA17 => ?_)
        have O := OUT_trans O Oₚ
        -- Tokens.addUp
        have cF17 : SF oz_D2clsl_3 F F17 := SF_trans (cF_6) (SF_gluc (ι := oz_D2clsl_6) oz_D2cls_16 hS17 eF17 (by decide +kernel)) (any_sub (lₚ := [(0, 11)]) (by decide +kernel))
        have mF17 := SFm_of cF17 oz_D2cls_13
        have cA17 : SA oz_D2clsl_4 A A17 := SA_trans (cA_6) (SA_gluc (ι := oz_D2clsl_6) oz_D2cls_16 hA17 eA17 (by decide +kernel)) (any_subA (lₚ := []) (by decide +kernel))
        have mA17 := SAm_of cA17 oz_D2cls_14
        have r18 : (-2147483648 : Int) ≤ y17_0_11 ∧ y17_0_11 ≤ 2147483647 := rngE (show (-2147483648 : Int) ≤ F17 0 11 ∧ F17 0 11 ≤ 2147483647 from H.krg 0 11 (ltn len_V224_oz_D2cls rfl)) (show F17 0 11 = y17_0_11 from ((eF17 0 11).trans ey17_0_11))
        refine Ew_of (pcₚ := 53) (fun _ => x_istore rfl) ?_
        refine Ew_of (pcₚ := 54) (fun _ => x_iload_n rfl (rk_o (rk_o (l6_2) rfl rfl) rfl rfl)) ?_
        refine Ew_of (pcₚ := 56) (fun _ => x_iload rfl rk_s) ?_
        refine w_isub rfl ?_
        refine Ew_of (pcₚ := 59) (fun _ => x_iload rfl (rk_o (rk_o (l6_4) rfl rfl) rfl rfl)) ?_
        refine Ew_of (pcₚ := 60) (fun _ => x_aload_n rfl (rk_o (rk_o (l6_0) rfl rfl) rfl rfl)) ?_
        refine v_g H (o := 0) (v := .ref (D_6 2)) rfl rfl rfl rfl rfl (vrf ((mF17 0 6 rfl).trans ((pf2).trans (congrArg (fun q : Nat => (q : Int)) (mD_6 2 rfl).symm)))) ?_
        refine v_g H (o := 2) (v := I (y6_2_1)) rfl rfl rfl rfl rfl (congrArg (fun z : Int => I z) ((((show F17 2 1 = F_6 2 1 from (eF17 2 1))).trans (ey6_2_1)) : F17 2 1 = y6_2_1)) ?_
        refine w_isub rfl ?_
        refine v_min rfl rfl (show inr ((a2 - z17)) from q_2804 b12 h4 j6_4 pz17_0 pz17_1) (show inr ((a4 - y6_2_1)) from q_2803 h8 j6_5) (fun z19 gz19 => ?_)
        refine Ew_of (pcₚ := 72) (fun _ => x_istore rfl) ?_
        refine Ew_of (pcₚ := 74) (fun _ => x_iload rfl (rk_o (rk_s) rfl rfl)) ?_
        have hc86 : ∀ (ls : rO) (σ : rS) (F_c86 : hF) (A_c86 : hA) , rlook ls 0 = some (.ref (D_6 0)) → rlook ls 2 = some (I (a2)) → rlook ls 5 = some (I (z17)) → rlook ls 8 = some (I (z19)) → HW V224 σ D_6 N_6 F_c86 A_c86 → OUT (V224).length D N σE c s D_6 N_6 σ c_6 s_6 → SF [] F17 F_c86 → SA [] A17 A_c86 → (((z17) < (0)) ∨ ((z17) ≥ (0) ∧ (y17_0_11) > (z19))) → Ew 224 (d + 3) 86 ls [] σ c_6 s_6 Q := by
         as_aux_lemma =>
          intro  ls σ F_c86 A_c86  lc86_0 lc86_2 lc86_5 lc86_8 H O hS_c86 hA_c86     jc86_0
          have cF_c86 : SF oz_D2clsl_3 F F_c86 := SF_trans (cF17) hS_c86 (any_sub (by decide +kernel))
          have mF_c86 := SFm_of cF_c86 oz_D2cls_13
          have cA_c86 : SA oz_D2clsl_4 A A_c86 := SA_trans (cA17) hA_c86 (any_subA (by decide +kernel))
          have mA_c86 := SAm_of cA_c86 oz_D2cls_14
          refine Ew_of (pcₚ := 88) (fun _ => x_iload rfl lc86_5) ?_
          have hc100 : ∀ (ls : rO) (σ : rS) (F_c100 : hF) (A_c100 : hA) , rlook ls 0 = some (.ref (D_6 0)) → rlook ls 2 = some (I (a2)) → HW V224 σ D_6 N_6 F_c100 A_c100 → OUT (V224).length D N σE c s D_6 N_6 σ c_6 s_6 → SF [] F_c86 F_c100 → SA [] A_c86 A_c100 → (((z17) < (0)) ∨ ((z17) ≥ (0) ∧ (z19) = ((a2 - z17)))) → Ew 224 (d + 3) 100 ls [] σ c_6 s_6 Q := by
           as_aux_lemma =>
            intro  ls σ F_c100 A_c100  lc100_0 lc100_2 H O hS_c100 hA_c100     jc100_0
            have cF_c100 : SF oz_D2clsl_3 F F_c100 := SF_trans (cF_c86) hS_c100 (any_sub (by decide +kernel))
            have mF_c100 := SFm_of cF_c100 oz_D2cls_13
            have cA_c100 : SA oz_D2clsl_4 A A_c100 := SA_trans (cA_c86) hA_c100 (any_subA (by decide +kernel))
            have mA_c100 := SAm_of cA_c100 oz_D2cls_14
            refine Ew_of (pcₚ := 101) (fun _ => x_aload_n rfl lc100_0) ?_
            refine Ew_of (pcₚ := 102) (fun _ => x_iconst rfl) ?_
            refine Ew_of (pcₚ := 103) (fun _ => x_iload_n rfl lc100_2) ?_
            have r20 : (-2147483648 : Int) ≤ F 0 12 ∧ F 0 12 ≤ 2147483647 := rngE (show (-2147483648 : Int) ≤ F_c100 0 12 ∧ F_c100 0 12 ≤ 2147483647 from H.krg 0 12 (ltn len_V224_oz_D2cls rfl)) (show F_c100 0 12 = F 0 12 from ((((hS_c100 0 12 rfl).trans (hS_c86 0 12 rfl)).trans ((show F17 0 12 = F_6 0 12 from (eF17 0 12).trans (hS17 0 12 rfl)))).trans (hS_6 0 12 rfl)))
            refine v_inv H (o := 0) rfl rfl rfl rfl rfl rfl (by rfl) (C221 (D := puc 0 D_6) (N := puc 0 N_6) (HW_subc H oz_D2cls_6 oz_D2cls_15) (F 0 12) (((((hS_c100 0 12 rfl).trans (hS_c86 0 12 rfl)).trans ((show F17 0 12 = F_6 0 12 from (eF17 0 12).trans (hS17 0 12 rfl)))).trans (hS_6 0 12 rfl))) (show inr (1) from q_23) (show inr (a2) from h1) (fun z21 σ21 F21ₚ A21ₚ Hₚ Oₚ hS21 hA21 y21_0_12 ey21_0_12 pz21_0 pz21_1 pz21_2 => ⟨rfl, ?_⟩))
            refine v_backc (c := c_6) (s := s_6) H oz_D2cls_6 oz_D2cls_15 Hₚ Oₚ (fun F21 A21 H Oₚ eF21 eA21 => ?_)
            have O := OUT_trans O Oₚ
            -- Tokens.fail
            have cF21 : SF oz_D2clsl_3 F F21 := SF_trans (cF_c100) (SF_gluc (ι := oz_D2clsl_5) oz_D2cls_15 hS21 eF21 (by decide +kernel)) (any_sub (lₚ := [(0, 12)]) (by decide +kernel))
            have mF21 := SFm_of cF21 oz_D2cls_13
            have cA21 : SA oz_D2clsl_4 A A21 := SA_trans (cA_c100) (SA_gluc (ι := oz_D2clsl_5) oz_D2cls_15 hA21 eA21 (by decide +kernel)) (any_subA (lₚ := []) (by decide +kernel))
            have mA21 := SAm_of cA21 oz_D2cls_14
            have r22 : (-2147483648 : Int) ≤ y21_0_12 ∧ y21_0_12 ≤ 2147483647 := rngE (show (-2147483648 : Int) ≤ F21 0 12 ∧ F21 0 12 ≤ 2147483647 from H.krg 0 12 (ltn len_V224_oz_D2cls rfl)) (show F21 0 12 = y21_0_12 from ((eF21 0 12).trans ey21_0_12))
            refine Ew_of (pcₚ := 119) (fun _ => x_goto rfl rfl) ?_
            exact w_ireturn rfl (k (z21) _ _ _ _ _ _ _ H O (cD_6) (cN_6) (cF21) (cA21) (((((((show F21 2 0 = F_c100 2 0 from (eF21 2 0))).trans (hS_c100 2 0 rfl)).trans (hS_c86 2 0 rfl)).trans ((show F17 2 0 = F_6 2 0 from (eF17 2 0))))).trans (pm6_3)) (m6_3) (em6_3) (y6_2_1) (((((((show F21 2 1 = F_c100 2 1 from (eF21 2 1))).trans (hS_c100 2 1 rfl)).trans (hS_c86 2 1 rfl)).trans ((show F17 2 1 = F_6 2 1 from (eF17 2 1)))).trans (ey6_2_1))) (show inr (z21) from pz21_0) (show 0 ≤ (z21) ∧ (z21) ≤ 3 from q_2799 pz21_1) (show 0 ≤ (y6_2_1) ∧ (y6_2_1) ≤ (m6_3) ∧ (m6_3) ≤ 65536 from j6_5) (show (u2_1) ≤ (y6_2_1) from j6_6) (show (y6_2_1) ≤ a4 ∨ (y6_2_1) = (u2_1) from j6_7))
          refine w_iflt (t := 100) rfl rfl (show inr (z17) from pz17_0) (fun b23 => ?_) (fun b23 => ?_)
          · exact hc100  _ _ _ _  (lc86_0) (lc86_2) H O (SF_refl) (SA_refl)     (show ((z17) < (0)) ∨ ((z17) ≥ (0) ∧ (z19) = ((a2 - z17))) from q_2805 b23)
          · refine Ew_of (pcₚ := 93) (fun _ => x_iload rfl lc86_8) ?_
            refine Ew_of (pcₚ := 94) (fun _ => x_iload_n rfl lc86_2) ?_
            refine Ew_of (pcₚ := 96) (fun _ => x_iload rfl lc86_5) ?_
            refine w_isub rfl ?_
            refine w_icmpne (t := 109) rfl rfl (show inr (z19) from q_2807 b12 b23 gz19 h8 j6_4 j6_5 jc86_0 pz17_0 r18) (show inr ((a2 - z17)) from q_2806 b12 b23 h4 j6_4 pz17_0) (fun b24 => ?_) (fun b24 => ?_)
            · refine Ew_of (pcₚ := 110) (fun _ => x_aload_n rfl lc86_0) ?_
              refine Ew_of (pcₚ := 111) (fun _ => x_iconst rfl) ?_
              refine Ew_of (pcₚ := 113) (fun _ => x_iload rfl lc86_5) ?_
              refine Ew_of (pcₚ := 115) (fun _ => x_iload rfl lc86_8) ?_
              refine w_iadd rfl ?_
              have r25 : (-2147483648 : Int) ≤ F 0 12 ∧ F 0 12 ≤ 2147483647 := rngE (show (-2147483648 : Int) ≤ F_c86 0 12 ∧ F_c86 0 12 ≤ 2147483647 from H.krg 0 12 (ltn len_V224_oz_D2cls rfl)) (show F_c86 0 12 = F 0 12 from (((hS_c86 0 12 rfl).trans ((show F17 0 12 = F_6 0 12 from (eF17 0 12).trans (hS17 0 12 rfl)))).trans (hS_6 0 12 rfl)))
              refine v_inv H (o := 0) rfl rfl rfl rfl rfl rfl (by rfl) (C221 (D := puc 0 D_6) (N := puc 0 N_6) (HW_subc H oz_D2cls_6 oz_D2cls_15) (F 0 12) ((((hS_c86 0 12 rfl).trans ((show F17 0 12 = F_6 0 12 from (eF17 0 12).trans (hS17 0 12 rfl)))).trans (hS_6 0 12 rfl))) (show inr (3) from q_66) (show inr ((z17 + z19)) from q_2808 b12 b23 gz19 h4 h8 j6_4 j6_5 jc86_0) (fun z26 σ26 F26ₚ A26ₚ Hₚ Oₚ hS26 hA26 y26_0_12 ey26_0_12 pz26_0 pz26_1 pz26_2 => ⟨rfl, ?_⟩))
              refine v_backc (c := c_6) (s := s_6) H oz_D2cls_6 oz_D2cls_15 Hₚ Oₚ (fun F26 A26 H Oₚ eF26 eA26 => ?_)
              have O := OUT_trans O Oₚ
              -- Tokens.fail
              have cF26 : SF oz_D2clsl_3 F F26 := SF_trans (cF_c86) (SF_gluc (ι := oz_D2clsl_5) oz_D2cls_15 hS26 eF26 (by decide +kernel)) (any_sub (lₚ := [(0, 12)]) (by decide +kernel))
              have mF26 := SFm_of cF26 oz_D2cls_13
              have cA26 : SA oz_D2clsl_4 A A26 := SA_trans (cA_c86) (SA_gluc (ι := oz_D2clsl_5) oz_D2cls_15 hA26 eA26 (by decide +kernel)) (any_subA (lₚ := []) (by decide +kernel))
              have mA26 := SAm_of cA26 oz_D2cls_14
              have r27 : (-2147483648 : Int) ≤ y26_0_12 ∧ y26_0_12 ≤ 2147483647 := rngE (show (-2147483648 : Int) ≤ F26 0 12 ∧ F26 0 12 ≤ 2147483647 from H.krg 0 12 (ltn len_V224_oz_D2cls rfl)) (show F26 0 12 = y26_0_12 from ((eF26 0 12).trans ey26_0_12))
              exact w_ireturn rfl (k (z26) _ _ _ _ _ _ _ H O (cD_6) (cN_6) (cF26) (cA26) ((((((show F26 2 0 = F_c86 2 0 from (eF26 2 0))).trans (hS_c86 2 0 rfl)).trans ((show F17 2 0 = F_6 2 0 from (eF17 2 0))))).trans (pm6_3)) (m6_3) (em6_3) (y6_2_1) ((((((show F26 2 1 = F_c86 2 1 from (eF26 2 1))).trans (hS_c86 2 1 rfl)).trans ((show F17 2 1 = F_6 2 1 from (eF17 2 1)))).trans (ey6_2_1))) (show inr (z26) from pz26_0) (show 0 ≤ (z26) ∧ (z26) ≤ 3 from q_2809 pz26_1) (show 0 ≤ (y6_2_1) ∧ (y6_2_1) ≤ (m6_3) ∧ (m6_3) ≤ 65536 from j6_5) (show (u2_1) ≤ (y6_2_1) from j6_6) (show (y6_2_1) ≤ a4 ∨ (y6_2_1) = (u2_1) from j6_7))
            · exact hc100  _ _ _ _  (lc86_0) (lc86_2) H O (SF_refl) (SA_refl)     (show ((z17) < (0)) ∨ ((z17) ≥ (0) ∧ (z19) = ((a2 - z17))) from q_2810 b23 b24)
        refine w_iflt (t := 86) rfl rfl (show inr (z17) from pz17_0) (fun b28 => ?_) (fun b28 => ?_)
        · exact hc86  _ _ _ _  (rk_o (rk_o (rk_o (l6_0) rfl rfl) rfl rfl) rfl rfl) (rk_o (rk_o (rk_o (l6_2) rfl rfl) rfl rfl) rfl rfl) (rk_o (rk_s) rfl rfl) (rk_s) H O (SF_refl) (SA_refl)     (show ((z17) < (0)) ∨ ((z17) ≥ (0) ∧ (y17_0_11) > (z19)) from q_2811 b28)
        · refine Ew_of (pcₚ := 78) (fun _ => x_aload_n rfl (rk_o (rk_o (rk_o (l6_0) rfl rfl) rfl rfl) rfl rfl)) ?_
          refine v_g H (o := 0) (v := I (y17_0_11)) rfl rfl rfl rfl rfl (congrArg (fun z : Int => I z) (((eF17 0 11).trans ey17_0_11) : F17 0 11 = y17_0_11)) ?_
          refine Ew_of (pcₚ := 83) (fun _ => x_iload rfl rk_s) ?_
          refine w_icmple (t := 120) rfl rfl (show inr (y17_0_11) from q_2813 pz17_2 r18) (show inr (z19) from q_2812 b12 b28 gz19 h4 h8 j6_4 j6_5 pz17_0) (fun b29 => ?_) (fun b29 => ?_)
          · refine Ew_of (pcₚ := 121) (fun _ => x_aload_n rfl (rk_o (rk_o (rk_o (l6_0) rfl rfl) rfl rfl) rfl rfl)) ?_
            refine v_g H (o := 0) (v := .ref (D_6 2)) rfl rfl rfl rfl rfl (vrf ((mF17 0 6 rfl).trans ((pf2).trans (congrArg (fun q : Nat => (q : Int)) (mD_6 2 rfl).symm)))) ?_
            refine Ew_of (pcₚ := 125) (fun _ => x_aload_n rfl (rk_o (rk_o (rk_o (l6_0) rfl rfl) rfl rfl) rfl rfl)) ?_
            refine v_g H (o := 0) (v := .ref (D_6 1)) rfl rfl rfl rfl rfl (vrf ((mF17 0 4 rfl).trans ((pf1).trans (congrArg (fun q : Nat => (q : Int)) (mD_6 1 rfl).symm)))) ?_
            refine Ew_of (pcₚ := 130) (fun _ => x_iload rfl (rk_o (rk_s) rfl rfl)) ?_
            refine Ew_of (pcₚ := 131) (fun _ => x_aload_n rfl (rk_o (rk_o (rk_o (l6_0) rfl rfl) rfl rfl) rfl rfl)) ?_
            refine v_g H (o := 0) (v := I (y17_0_11)) rfl rfl rfl rfl rfl (congrArg (fun z : Int => I z) (((eF17 0 11).trans ey17_0_11) : F17 0 11 = y17_0_11)) ?_
            refine v_inv H (o := 2) rfl rfl rfl rfl rfl rfl (by rfl) (C161_Br (D := puc 786946 D_6) (N := puc 786946 N_6) (HW_subc H oz_D2cls_8 oz_D2cls_17) ((((show F17 2 0 = F_6 2 0 from (eF17 2 0)))).trans (pm6_3)) (n1) ((congrArg (fun q : Nat => (q : Int)) (mN_6 1 rfl)).trans (en1)) (m6_3) (em6_3) (y6_2_1) ((((show F17 2 1 = F_6 2 1 from (eF17 2 1))).trans (ey6_2_1))) (A_6 3) ((show A17 3 = A_6 3 from (eA17 3))) (show inr (z17) from pz17_0) (show inr (y17_0_11) from q_2813 pz17_2 r18) (show 0 ≤ (y6_2_1) ∧ (y6_2_1) ≤ (m6_3) ∧ (m6_3) ≤ 65536 from j6_5) (show (y17_0_11) < 0 ∨ 0 ≤ (z17) ∧ (z17) + (y17_0_11) ≤ (n1) from q_2814 b28 b29 gz19 h4) (fun σ30 D30ₚ N30ₚ F30ₚ A30ₚ c30 s30 Hₚ Oₚ hD30 hN30 hS30 hA30 pm30_2 m30_2 em30_2 y30_0_1 ey30_0_1 w30_2 ew30_2 pz30_0 pz30_1 pz30_2 => ⟨rfl, ?_⟩))
            refine v_backMc (c := c_6) (s := s_6) H oz_D2cls_8 oz_D2cls_17 Hₚ Oₚ hD30 oz_D2cls_9 (fun D30 N30 F30 A30 H Oₚ eD30 eN30 eF30 eA30 => ?_)
            have O := OUT_trans O Oₚ
            -- Row.addPart
            have cF30 : SF oz_D2clsl_3 F F30 := SF_trans (cF17) (SF_gluc (ι := oz_D2clsl_7) oz_D2cls_17 hS30 eF30 (by decide +kernel)) (any_sub (lₚ := [(2, 0), (2, 1), (2, 2)]) (by decide +kernel))
            have mF30 := SFm_of cF30 oz_D2cls_13
            have cA30 : SA oz_D2clsl_4 A A30 := SA_trans (cA17) (SA_gluc (ι := oz_D2clsl_7) oz_D2cls_17 hA30 eA30 (by decide +kernel)) (any_subA (lₚ := [3]) (by decide +kernel))
            have mA30 := SAm_of cA30 oz_D2cls_14
            have cD30 : SD oz_D2clsl_4 D D30 := SD_trans (cD_6) (SD_gluc (ι := oz_D2clsl_7) oz_D2cls_17 hD30 eD30 (by decide +kernel)) (any_subA (lₚ := [3]) (by decide +kernel))
            have mD30 := SDm_of cD30 oz_D2cls_14
            have cN30 : SD oz_D2clsl_4 N N30 := SD_trans (cN_6) (SD_gluc (ι := oz_D2clsl_7) oz_D2cls_17 hN30 eN30 (by decide +kernel)) (any_subA (lₚ := [3]) (by decide +kernel))
            have mN30 := SDm_of cN30 oz_D2cls_14
            have pf30_2_0 : F30 2 0 = (D30 3 : Int) := (eF30 2 0).trans (pm30_2.trans (congrArg (fun q : Nat => (q : Int)) (eD30 3).symm))
            have r31 : (0 : Int) ≤ m30_2 ∧ m30_2 ≤ 1000000 := nleE (H.nle 3 (ltn len_V224_oz_D2cls rfl)) (show (N30 3 : Int) = m30_2 from (congrArg (fun q : Nat => (q : Int)) (eN30 3)).trans em30_2)
            have r32 : (-2147483648 : Int) ≤ y30_0_1 ∧ y30_0_1 ≤ 2147483647 := rngE (show (-2147483648 : Int) ≤ F30 2 1 ∧ F30 2 1 ≤ 2147483647 from H.krg 2 1 (ltn len_V224_oz_D2cls rfl)) (show F30 2 1 = y30_0_1 from ((eF30 2 1).trans ey30_0_1))
            refine Ew_of (pcₚ := 139) (fun _ => x_iload rfl (rk_o (rk_s) rfl rfl)) ?_
            refine Ew_of (pcₚ := 140) (fun _ => x_aload_n rfl (rk_o (rk_o (rk_o (l6_0) rfl rfl) rfl rfl) rfl rfl)) ?_
            refine Ew_stk (congrArg (fun qz : Nat => ([.ref qz, I (z17)] : List Value)) (show D30 0 = D_6 0 from ((show D30 0 = D_6 0 from (eD30 0)))).symm) ?_
            refine v_g H (o := 0) (v := I (y17_0_11)) rfl rfl rfl rfl rfl (congrArg (fun z : Int => I z) ((((show F30 0 11 = F17 0 11 from (eF30 0 11))).trans ((eF17 0 11).trans ey17_0_11)) : F30 0 11 = y17_0_11)) ?_
            refine w_iadd rfl ?_
            refine Ew_of (pcₚ := 146) (fun _ => x_istore rfl) ?_
            refine Ew_of (pcₚ := 148) (fun _ => x_iload rfl rk_s) ?_
            refine Ew_of (pcₚ := 149) (fun _ => x_iload_n rfl (rk_o (rk_o (rk_o (rk_o (l6_2) rfl rfl) rfl rfl) rfl rfl) rfl rfl)) ?_
            refine w_icmpne (t := 154) rfl rfl (show inr ((z17 + y17_0_11)) from q_2815 b28 b29 gz19 h4 pz17_2 pz30_1) (show inr (a2) from h1) (fun b33 => ?_) (fun b33 => ?_)
            · refine Ew_of (pcₚ := 155) (fun _ => x_iload_n rfl (rk_o (rk_o (rk_o (rk_o (l6_2) rfl rfl) rfl rfl) rfl rfl) rfl rfl)) ?_
              refine Ew_of (pcₚ := 157) (fun _ => x_iload rfl rk_s) ?_
              refine w_isub rfl ?_
              refine Ew_of (pcₚ := 159) (fun _ => x_iconst rfl) ?_
              refine w_icmpge (t := 169) rfl rfl (show inr ((a2 - (z17 + y17_0_11))) from q_2816 b28 b29 gz19 h4 pz17_2 pz30_1) (show inr (2) from q_55) (fun b34 => ?_) (fun b34 => ?_)
              · refine Ew_of (pcₚ := 171) (fun _ => x_iload rfl rk_s) ?_
                refine Ew_of (pcₚ := 173) (fun _ => x_istore rfl) ?_
                refine Ew_of (pcₚ := 174) (fun _ => x_aload_n rfl (rk_o (rk_o (rk_o (rk_o (rk_o (l6_0) rfl rfl) rfl rfl) rfl rfl) rfl rfl) rfl rfl)) ?_
                refine Ew_stk (congrArg (fun qz : Nat => ([.ref qz] : List Value)) (show D30 0 = D_6 0 from ((show D30 0 = D_6 0 from (eD30 0)))).symm) ?_
                refine v_g H (o := 0) (v := .ref (D30 1)) rfl rfl rfl rfl rfl (vrf ((mF30 0 4 rfl).trans ((pf1).trans (congrArg (fun q : Nat => (q : Int)) (mD30 1 rfl).symm)))) ?_
                refine Ew_of (pcₚ := 179) (fun _ => x_iload rfl (rk_o (rk_s) rfl rfl)) ?_
                refine Ew_of (pcₚ := 180) (fun _ => x_iconst rfl) ?_
                refine w_stat25 rfl rfl (by rfl) (C42_Br (D := puc 1 D30) (N := puc 1 N30) (HW_subc H oz_D2cls_10 oz_D2cls_18) (n1) ((congrArg (fun q : Nat => (q : Int)) (mN30 1 rfl)).trans (en1)) (show inr ((z17 + y17_0_11)) from q_2819 b28 b34 h4 pz17_2) (show inr (2) from q_55) (show (2) ≤ 0 ∨ 0 ≤ ((z17 + y17_0_11)) ∧ ((z17 + y17_0_11)) + (2) ≤ (n1) from q_2818 b28 b34 h4 pz17_2) (show 0 ≤ (2) from q_2817) (fun z35 σ35 F35ₚ A35ₚ Hₚ Oₚ hS35 hA35 pz35_0 pz35_1 => ⟨rfl, ?_⟩))
                refine v_backc (c := (c_6 + c30)) (s := (s_6 + s30)) H oz_D2cls_10 oz_D2cls_18 Hₚ Oₚ (fun F35 A35 H Oₚ eF35 eA35 => ?_)
                have O := OUT_trans O Oₚ
                -- PackHouse.number
                have cF35 : SF oz_D2clsl_3 F F35 := SF_trans (cF30) (SF_gluc (ι := oz_D2clsl_8) oz_D2cls_18 hS35 eF35 (by decide +kernel)) (any_sub (lₚ := []) (by decide +kernel))
                have mF35 := SFm_of cF35 oz_D2cls_13
                have cA35 : SA oz_D2clsl_4 A A35 := SA_trans (cA30) (SA_gluc (ι := oz_D2clsl_8) oz_D2cls_18 hA35 eA35 (by decide +kernel)) (any_subA (lₚ := []) (by decide +kernel))
                have mA35 := SAm_of cA35 oz_D2cls_14
                have hnb := nb2 pz35_1
                refine w_l2i rfl ?_
                refine Ew_of (pcₚ := 186) (fun _ => x_istore rfl) ?_
                refine Ew_of (pcₚ := 188) (fun _ => x_iload rfl rk_s) ?_
                refine w_ifeq (t := 213) rfl rfl (show inr (z35) by omega) (fun b36 => ?_) (fun b36 => ?_)
                · refine Ew_of (pcₚ := 214) (fun _ => x_aload_n rfl (rk_o (rk_o (rk_o (rk_o (rk_o (rk_o (l6_0) rfl rfl) rfl rfl) rfl rfl) rfl rfl) rfl rfl) rfl rfl)) ?_
                  refine Ew_of (pcₚ := 215) (fun _ => x_iconst rfl) ?_
                  refine Ew_of (pcₚ := 217) (fun _ => x_iload rfl (rk_o (rk_s) rfl rfl)) ?_
                  refine Ew_stk (congrArg (fun qz : Nat => ([I ((z17 + y17_0_11)), I (2), .ref qz] : List Value)) (show D30 0 = D_6 0 from ((show D30 0 = D_6 0 from (eD30 0)))).symm) ?_
                  have r37 : (-2147483648 : Int) ≤ F 0 12 ∧ F 0 12 ≤ 2147483647 := rngE (show (-2147483648 : Int) ≤ F35 0 12 ∧ F35 0 12 ≤ 2147483647 from H.krg 0 12 (ltn len_V224_oz_D2cls rfl)) (show F35 0 12 = F 0 12 from (((((show F35 0 12 = F30 0 12 from (eF35 0 12))).trans ((show F30 0 12 = F17 0 12 from (eF30 0 12)))).trans ((show F17 0 12 = F_6 0 12 from (eF17 0 12).trans (hS17 0 12 rfl)))).trans (hS_6 0 12 rfl)))
                  refine v_inv H (o := 0) rfl rfl rfl rfl rfl rfl (by rfl) (C221 (D := puc 0 D30) (N := puc 0 N30) (HW_subc H oz_D2cls_6 oz_D2cls_15) (F 0 12) ((((((show F35 0 12 = F30 0 12 from (eF35 0 12))).trans ((show F30 0 12 = F17 0 12 from (eF30 0 12)))).trans ((show F17 0 12 = F_6 0 12 from (eF17 0 12).trans (hS17 0 12 rfl)))).trans (hS_6 0 12 rfl))) (show inr (2) from q_55) (show inr ((z17 + y17_0_11)) from q_2819 b28 b34 h4 pz17_2) (fun z38 σ38 F38ₚ A38ₚ Hₚ Oₚ hS38 hA38 y38_0_12 ey38_0_12 pz38_0 pz38_1 pz38_2 => ⟨rfl, ?_⟩))
                  refine v_backc (c := (c_6 + c30)) (s := (s_6 + s30)) H oz_D2cls_6 oz_D2cls_15 Hₚ Oₚ (fun F38 A38 H Oₚ eF38 eA38 => ?_)
                  have O := OUT_trans O Oₚ
                  -- Tokens.fail
                  have cF38 : SF oz_D2clsl_3 F F38 := SF_trans (cF35) (SF_gluc (ι := oz_D2clsl_5) oz_D2cls_15 hS38 eF38 (by decide +kernel)) (any_sub (lₚ := [(0, 12)]) (by decide +kernel))
                  have mF38 := SFm_of cF38 oz_D2cls_13
                  have cA38 : SA oz_D2clsl_4 A A38 := SA_trans (cA35) (SA_gluc (ι := oz_D2clsl_5) oz_D2cls_15 hA38 eA38 (by decide +kernel)) (any_subA (lₚ := []) (by decide +kernel))
                  have mA38 := SAm_of cA38 oz_D2cls_14
                  have r39 : (-2147483648 : Int) ≤ y38_0_12 ∧ y38_0_12 ≤ 2147483647 := rngE (show (-2147483648 : Int) ≤ F38 0 12 ∧ F38 0 12 ≤ 2147483647 from H.krg 0 12 (ltn len_V224_oz_D2cls rfl)) (show F38 0 12 = y38_0_12 from ((eF38 0 12).trans ey38_0_12))
                  exact w_ireturn rfl (k (z38) _ _ _ _ _ _ _ H O (cD30) (cN30) (cF38) (cA38) (((((show F38 2 0 = F35 2 0 from (eF38 2 0))).trans ((show F35 2 0 = F30 2 0 from (eF35 2 0))))).trans (pf30_2_0)) (m30_2) ((congrArg (fun q : Nat => (q : Int)) (eN30 3)).trans em30_2) (y30_0_1) (((((show F38 2 1 = F35 2 1 from (eF38 2 1))).trans ((show F35 2 1 = F30 2 1 from (eF35 2 1)))).trans ((eF30 2 1).trans ey30_0_1))) (show inr (z38) from pz38_0) (show 0 ≤ (z38) ∧ (z38) ≤ 3 from q_2281 pz38_1) (show 0 ≤ (y30_0_1) ∧ (y30_0_1) ≤ (m30_2) ∧ (m30_2) ≤ 65536 from pz30_0) (show (u2_1) ≤ (y30_0_1) from q_2820 j6_6 pz17_2 pz30_1) (show (y30_0_1) ≤ a4 ∨ (y30_0_1) = (u2_1) by omega))
                · refine Ew_of (pcₚ := 193) (fun _ => x_iload rfl rk_s) ?_
                  refine Ew_of (pcₚ := 194) (fun _ => x_aload_n rfl (rk_o (rk_o (rk_o (rk_o (rk_o (rk_o (l6_0) rfl rfl) rfl rfl) rfl rfl) rfl rfl) rfl rfl) rfl rfl)) ?_
                  refine Ew_stk (congrArg (fun qz : Nat => ([.ref qz, I (z35)] : List Value)) (show D30 0 = D_6 0 from ((show D30 0 = D_6 0 from (eD30 0)))).symm) ?_
                  refine v_g H (o := 0) (v := .ref (D30 2)) rfl rfl rfl rfl rfl (vrf ((mF35 0 6 rfl).trans ((pf2).trans (congrArg (fun q : Nat => (q : Int)) (mD30 2 rfl).symm)))) ?_
                  refine v_g H (o := 2) (v := I (y30_0_1)) rfl rfl rfl rfl rfl (congrArg (fun z : Int => I z) ((((show F35 2 1 = F30 2 1 from (eF35 2 1))).trans ((eF30 2 1).trans ey30_0_1)) : F35 2 1 = y30_0_1)) ?_
                  refine Ew_of (pcₚ := 201) (fun _ => x_iload_n rfl (rk_o (rk_o (rk_o (rk_o (rk_o (rk_o (l6_3) rfl rfl) rfl rfl) rfl rfl) rfl rfl) rfl rfl) rfl rfl)) ?_
                  refine w_isub rfl ?_
                  refine Ew_of (pcₚ := 203) (fun _ => x_aload_n rfl (rk_o (rk_o (rk_o (rk_o (rk_o (rk_o (l6_0) rfl rfl) rfl rfl) rfl rfl) rfl rfl) rfl rfl) rfl rfl)) ?_
                  refine Ew_stk (congrArg (fun qz : Nat => ([.ref qz, I ((y30_0_1 - a3)), I (z35)] : List Value)) (show D30 0 = D_6 0 from ((show D30 0 = D_6 0 from (eD30 0)))).symm) ?_
                  refine v_g H (o := 0) (v := .ref (D30 4)) rfl rfl rfl rfl rfl (vrf ((mF35 0 1 rfl).trans ((pf4).trans (congrArg (fun q : Nat => (q : Int)) (mD30 4 rfl).symm)))) ?_
                  refine v_g H (o := 4) (v := I (u4_1)) rfl rfl rfl rfl rfl (congrArg (fun z : Int => I z) (((mF35 4 1 rfl).trans (eu4_1)) : F35 4 1 = u4_1)) ?_
                  refine w_iadd rfl ?_
                  refine w_icmple (t := 221) rfl rfl (show inr (z35) by omega) (show inr (((y30_0_1 - a3) + u4_1)) from q_2821 h2 h6 h7 pz30_0) (fun b40 => ?_) (fun b40 => ?_)
                  · refine Ew_of (pcₚ := 222) (fun _ => x_aload_n rfl (rk_o (rk_o (rk_o (rk_o (rk_o (rk_o (l6_0) rfl rfl) rfl rfl) rfl rfl) rfl rfl) rfl rfl) rfl rfl)) ?_
                    refine Ew_of (pcₚ := 224) (fun _ => x_iload rfl (rk_o (rk_o (rk_o (rk_o (rk_o (rk_s) rfl rfl) rfl rfl) rfl rfl) rfl rfl) rfl rfl)) ?_
                    refine Ew_of (pcₚ := 226) (fun _ => x_bipush (z := 15) rfl (by decide)) ?_
                    refine w_iand rfl (show inr (z14) from gz14) (show inr (15) from q_143) (fun z41 gz41 gaz41 gbz41 => ?_)
                    refine Ew_of (pcₚ := 229) (fun _ => x_iload rfl (rk_o (rk_o (rk_s) rfl rfl) rfl rfl)) ?_
                    refine Ew_of (pcₚ := 230) (fun _ => x_iconst rfl) ?_
                    refine w_iadd rfl ?_
                    refine Ew_of (pcₚ := 232) (fun _ => x_iload_n rfl (rk_o (rk_o (rk_o (rk_o (rk_o (rk_o (l6_2) rfl rfl) rfl rfl) rfl rfl) rfl rfl) rfl rfl) rfl rfl)) ?_
                    refine Ew_stk (congrArg (fun qz : Nat => ([I (a2), I (((z17 + y17_0_11) + 2)), I (z41), .ref qz] : List Value)) (show D30 0 = D_6 0 from ((show D30 0 = D_6 0 from (eD30 0)))).symm) ?_
                    refine v_inv H (o := 0) rfl rfl rfl rfl rfl rfl (by rfl) (C225 (D := puc 512 D30) (N := puc 512 N30) (HW_subc H oz_D2cls_7 oz_D2cls_16) ((mF35 0 4 rfl).trans ((pf1).trans (congrArg (fun q : Nat => (q : Int)) (mD30 1 rfl).symm))) (n1) ((congrArg (fun q : Nat => (q : Int)) (mN30 1 rfl)).trans (en1)) (y17_0_11) (((((show F35 0 11 = F30 0 11 from (eF35 0 11))).trans ((show F30 0 11 = F17 0 11 from (eF30 0 11)))).trans ((eF17 0 11).trans ey17_0_11))) (show inr (z41) from gz41) (show inr (((z17 + y17_0_11) + 2)) from q_2823 b28 b34 h4 pz17_2) (show inr (a2) from h1) (show 0 ≤ (z41) ∧ (z41) ≤ 15 by omega) (show 0 ≤ (((z17 + y17_0_11) + 2)) ∧ (((z17 + y17_0_11) + 2)) ≤ (a2) ∧ (a2) ≤ (n1) ∧ (n1) ≤ 65536 from q_2822 b28 b34 h4 pz17_2) (fun z42 σ42 F42ₚ A42ₚ Hₚ Oₚ hS42 hA42 y42_0_11 ey42_0_11 pz42_0 pz42_1 pz42_2 => ⟨rfl, ?_⟩))
                    refine v_backc (c := (c_6 + c30)) (s := (s_6 + s30)) H oz_D2cls_7 oz_D2cls_16 Hₚ Oₚ (fun F42 A42 H Oₚ eF42 eA42 => ?_)
                    have O := OUT_trans O Oₚ
                    -- Tokens.addUp
                    have cF42 : SF oz_D2clsl_3 F F42 := SF_trans (cF35) (SF_gluc (ι := oz_D2clsl_6) oz_D2cls_16 hS42 eF42 (by decide +kernel)) (any_sub (lₚ := [(0, 11)]) (by decide +kernel))
                    have mF42 := SFm_of cF42 oz_D2cls_13
                    have cA42 : SA oz_D2clsl_4 A A42 := SA_trans (cA35) (SA_gluc (ι := oz_D2clsl_6) oz_D2cls_16 hA42 eA42 (by decide +kernel)) (any_subA (lₚ := []) (by decide +kernel))
                    have mA42 := SAm_of cA42 oz_D2cls_14
                    have r43 : (-2147483648 : Int) ≤ y42_0_11 ∧ y42_0_11 ≤ 2147483647 := rngE (show (-2147483648 : Int) ≤ F42 0 11 ∧ F42 0 11 ≤ 2147483647 from H.krg 0 11 (ltn len_V224_oz_D2cls rfl)) (show F42 0 11 = y42_0_11 from ((eF42 0 11).trans ey42_0_11))
                    refine Ew_of (pcₚ := 237) (fun _ => x_istore rfl) ?_
                    refine Ew_of (pcₚ := 239) (fun _ => x_iload rfl rk_s) ?_
                    refine w_ifge (t := 249) rfl rfl (show inr (z42) from pz42_0) (fun b44 => ?_) (fun b44 => ?_)
                    · refine Ew_of (pcₚ := 250) (fun _ => x_aload_n rfl (rk_o (rk_o (rk_o (rk_o (rk_o (rk_o (rk_o (l6_0) rfl rfl) rfl rfl) rfl rfl) rfl rfl) rfl rfl) rfl rfl) rfl rfl)) ?_
                      refine Ew_stk (congrArg (fun qz : Nat => ([.ref qz] : List Value)) (show D30 0 = D_6 0 from ((show D30 0 = D_6 0 from (eD30 0)))).symm) ?_
                      refine v_g H (o := 0) (v := I (y42_0_11)) rfl rfl rfl rfl rfl (congrArg (fun z : Int => I z) (((eF42 0 11).trans ey42_0_11) : F42 0 11 = y42_0_11)) ?_
                      refine Ew_of (pcₚ := 254) (fun _ => x_iconst rfl) ?_
                      refine w_iadd rfl ?_
                      refine Ew_of (pcₚ := 257) (fun _ => x_iload rfl (rk_o (rk_o (rk_o (rk_o (rk_o (rk_o (rk_o (l6_4) rfl rfl) rfl rfl) rfl rfl) rfl rfl) rfl rfl) rfl rfl) rfl rfl)) ?_
                      refine Ew_of (pcₚ := 258) (fun _ => x_aload_n rfl (rk_o (rk_o (rk_o (rk_o (rk_o (rk_o (rk_o (l6_0) rfl rfl) rfl rfl) rfl rfl) rfl rfl) rfl rfl) rfl rfl) rfl rfl)) ?_
                      refine Ew_stk (congrArg (fun qz : Nat => ([.ref qz, I (a4), I ((y42_0_11 + 4))] : List Value)) (show D30 0 = D_6 0 from ((show D30 0 = D_6 0 from (eD30 0)))).symm) ?_
                      refine v_g H (o := 0) (v := .ref (D30 2)) rfl rfl rfl rfl rfl (vrf ((mF42 0 6 rfl).trans ((pf2).trans (congrArg (fun q : Nat => (q : Int)) (mD30 2 rfl).symm)))) ?_
                      refine v_g H (o := 2) (v := I (y30_0_1)) rfl rfl rfl rfl rfl (congrArg (fun z : Int => I z) (((((show F42 2 1 = F35 2 1 from (eF42 2 1))).trans ((show F35 2 1 = F30 2 1 from (eF35 2 1)))).trans ((eF30 2 1).trans ey30_0_1)) : F42 2 1 = y30_0_1)) ?_
                      refine w_isub rfl ?_
                      refine w_icmple (t := 276) rfl rfl (show inr ((y42_0_11 + 4)) by omega) (show inr ((a4 - y30_0_1)) from q_2803 h8 pz30_0) (fun b45 => ?_) (fun b45 => ?_)
                      · refine Ew_of (pcₚ := 277) (fun _ => x_aload_n rfl (rk_o (rk_o (rk_o (rk_o (rk_o (rk_o (rk_o (l6_0) rfl rfl) rfl rfl) rfl rfl) rfl rfl) rfl rfl) rfl rfl) rfl rfl)) ?_
                        refine Ew_stk (congrArg (fun qz : Nat => ([.ref qz] : List Value)) (show D30 0 = D_6 0 from ((show D30 0 = D_6 0 from (eD30 0)))).symm) ?_
                        refine v_g H (o := 0) (v := .ref (D30 2)) rfl rfl rfl rfl rfl (vrf ((mF42 0 6 rfl).trans ((pf2).trans (congrArg (fun q : Nat => (q : Int)) (mD30 2 rfl).symm)))) ?_
                        refine Ew_of (pcₚ := 282) (fun _ => x_iload rfl (rk_o (rk_s) rfl rfl)) ?_
                        refine Ew_of (pcₚ := 283) (fun _ => x_aload_n rfl (rk_o (rk_o (rk_o (rk_o (rk_o (rk_o (rk_o (l6_0) rfl rfl) rfl rfl) rfl rfl) rfl rfl) rfl rfl) rfl rfl) rfl rfl)) ?_
                        refine Ew_stk (congrArg (fun qz : Nat => ([.ref qz, I (z35), .ref (D30 2)] : List Value)) (show D30 0 = D_6 0 from ((show D30 0 = D_6 0 from (eD30 0)))).symm) ?_
                        refine v_g H (o := 0) (v := I (y42_0_11)) rfl rfl rfl rfl rfl (congrArg (fun z : Int => I z) (((eF42 0 11).trans ey42_0_11) : F42 0 11 = y42_0_11)) ?_
                        refine Ew_of (pcₚ := 287) (fun _ => x_iconst rfl) ?_
                        refine w_iadd rfl ?_
                        refine Ew_of (pcₚ := 289) (fun _ => x_iload_n rfl (rk_o (rk_o (rk_o (rk_o (rk_o (rk_o (rk_o (l6_3) rfl rfl) rfl rfl) rfl rfl) rfl rfl) rfl rfl) rfl rfl) rfl rfl)) ?_
                        refine Ew_of (pcₚ := 290) (fun _ => x_aload_n rfl (rk_o (rk_o (rk_o (rk_o (rk_o (rk_o (rk_o (l6_0) rfl rfl) rfl rfl) rfl rfl) rfl rfl) rfl rfl) rfl rfl) rfl rfl)) ?_
                        refine Ew_stk (congrArg (fun qz : Nat => ([.ref qz, I (a3), I ((y42_0_11 + 4)), I (z35), .ref (D30 2)] : List Value)) (show D30 0 = D_6 0 from ((show D30 0 = D_6 0 from (eD30 0)))).symm) ?_
                        refine v_g H (o := 0) (v := .ref (D30 4)) rfl rfl rfl rfl rfl (vrf ((mF42 0 1 rfl).trans ((pf4).trans (congrArg (fun q : Nat => (q : Int)) (mD30 4 rfl).symm)))) ?_
                        refine v_inv H (o := 2) rfl rfl rfl rfl rfl rfl (by rfl) (C163_Row (D := puc 671877122 D30) (N := puc 671877122 N30) (HW_subc H oz_D2cls_11 oz_D2cls_19) (((((show F42 2 0 = F35 2 0 from (eF42 2 0))).trans ((show F35 2 0 = F30 2 0 from (eF35 2 0))))).trans (pf30_2_0)) ((mF42 4 0 rfl).trans ((pf5).trans (congrArg (fun q : Nat => (q : Int)) (mD30 5 rfl).symm))) (m30_2) ((congrArg (fun q : Nat => (q : Int)) (eN30 3)).trans em30_2) (n5) ((congrArg (fun q : Nat => (q : Int)) (mN30 5 rfl)).trans (en5)) (y30_0_1) (((((show F42 2 1 = F35 2 1 from (eF42 2 1))).trans ((show F35 2 1 = F30 2 1 from (eF35 2 1)))).trans ((eF30 2 1).trans ey30_0_1))) (u4_1) (((mF42 4 1 rfl).trans (eu4_1))) (show inr (z35) by omega) (show inr ((y42_0_11 + 4)) from q_2825 b45 h8 pz30_0 pz42_2) (show inr (a3) from h2) (show 0 ≤ (y30_0_1) ∧ (y30_0_1) ≤ (m30_2) ∧ (m30_2) ≤ 65536 from pz30_0) (show 0 ≤ (u4_1) ∧ (u4_1) ≤ (n5) ∧ (n5) ≤ 65536 from h6) (show 0 ≤ (a3) ∧ (a3) ≤ (y30_0_1) from q_2824 h7 j6_6 pz17_2 pz30_1) (show ((y42_0_11 + 4)) < 0 ∨ 1 ≤ (z35) ∧ ((z35) ≤ (y30_0_1) - (a3) ∨ (z35) - ((y30_0_1) - (a3)) ≤ (u4_1)) by omega) (fun σ46 D46ₚ N46ₚ F46ₚ A46ₚ c46 s46 Hₚ Oₚ hD46 hN46 hS46 hA46 pm46_2 m46_2 em46_2 y46_0_1 ey46_0_1 pz46_0 pz46_1 => ⟨rfl, ?_⟩))
                        refine v_backMc (c := (c_6 + c30)) (s := (s_6 + s30)) H oz_D2cls_11 oz_D2cls_19 Hₚ Oₚ hD46 oz_D2cls_12 (fun D46 N46 F46 A46 H Oₚ eD46 eN46 eF46 eA46 => ?_)
                        have O := OUT_trans O Oₚ
                        -- Row.copyBack
                        have cF46 : SF oz_D2clsl_3 F F46 := SF_trans (cF42) (SF_gluc (ι := oz_D2clsl_9) oz_D2cls_19 hS46 eF46 (by decide +kernel)) (any_sub (lₚ := [(2, 0), (2, 1), (2, 2)]) (by decide +kernel))
                        have mF46 := SFm_of cF46 oz_D2cls_13
                        have cA46 : SA oz_D2clsl_4 A A46 := SA_trans (cA42) (SA_gluc (ι := oz_D2clsl_9) oz_D2cls_19 hA46 eA46 (by decide +kernel)) (any_subA (lₚ := [3]) (by decide +kernel))
                        have mA46 := SAm_of cA46 oz_D2cls_14
                        have cD46 : SD oz_D2clsl_4 D D46 := SD_trans (cD30) (SD_gluc (ι := oz_D2clsl_9) oz_D2cls_19 hD46 eD46 (by decide +kernel)) (any_subA (lₚ := [3]) (by decide +kernel))
                        have mD46 := SDm_of cD46 oz_D2cls_14
                        have cN46 : SD oz_D2clsl_4 N N46 := SD_trans (cN30) (SD_gluc (ι := oz_D2clsl_9) oz_D2cls_19 hN46 eN46 (by decide +kernel)) (any_subA (lₚ := [3]) (by decide +kernel))
                        have mN46 := SDm_of cN46 oz_D2cls_14
                        have pf46_2_0 : F46 2 0 = (D46 3 : Int) := (eF46 2 0).trans (pm46_2.trans (congrArg (fun q : Nat => (q : Int)) (eD46 3).symm))
                        have r47 : (0 : Int) ≤ m46_2 ∧ m46_2 ≤ 1000000 := nleE (H.nle 3 (ltn len_V224_oz_D2cls rfl)) (show (N46 3 : Int) = m46_2 from (congrArg (fun q : Nat => (q : Int)) (eN46 3)).trans em46_2)
                        have r48 : (-2147483648 : Int) ≤ y46_0_1 ∧ y46_0_1 ≤ 2147483647 := rngE (show (-2147483648 : Int) ≤ F46 2 1 ∧ F46 2 1 ≤ 2147483647 from H.krg 2 1 (ltn len_V224_oz_D2cls rfl)) (show F46 2 1 = y46_0_1 from ((eF46 2 1).trans ey46_0_1))
                        refine Ew_of (pcₚ := 299) (fun _ => x_iinc (len := 3) rfl (rk_o (rk_o (rk_o (rk_o (rk_o (rk_o (rk_o (l6_6) rfl rfl) rfl rfl) rfl rfl) rfl rfl) rfl rfl) rfl rfl) rfl rfl)) ?_
                        refine Ew_of (pcₚ := 6) (fun _ => x_goto rfl rfl) ?_
                        exact ih6 _ (msE hm6 q_672 (q_673 b8)) _ _ _ _ _ _ _ _ (z42) ((x6_6 + 1)) ((rk_o (rk_o (rk_o (rk_o (rk_o (rk_o (rk_o (rk_o (l6_0) rfl rfl) rfl rfl) rfl rfl) rfl rfl) rfl rfl) rfl rfl) rfl rfl) rfl rfl).trans (congrArg (fun q : Nat => some (Value.ref q)) ((((show D46 0 = D30 0 from (eD46 0))).trans ((show D30 0 = D_6 0 from (eD30 0))))).symm)) (rk_o (rk_o (rk_o (rk_o (rk_o (rk_o (rk_o (rk_o (l6_2) rfl rfl) rfl rfl) rfl rfl) rfl rfl) rfl rfl) rfl rfl) rfl rfl) rfl rfl) (rk_o (rk_o (rk_o (rk_o (rk_o (rk_o (rk_o (rk_o (l6_3) rfl rfl) rfl rfl) rfl rfl) rfl rfl) rfl rfl) rfl rfl) rfl rfl) rfl rfl) (rk_o (rk_o (rk_o (rk_o (rk_o (rk_o (rk_o (rk_o (l6_4) rfl rfl) rfl rfl) rfl rfl) rfl rfl) rfl rfl) rfl rfl) rfl rfl) rfl rfl) (rk_o (rk_s) rfl rfl) (rk_s) H O (SD_trans (SD_trans (hD_6) (SD_gluc (ι := oz_D2clsl_7) oz_D2cls_17 hD30 eD30 (by decide +kernel)) (any_subA (lₚ := [3]) (by decide +kernel))) (SD_gluc (ι := oz_D2clsl_9) oz_D2cls_19 hD46 eD46 (by decide +kernel)) (any_subA (lₚ := [3]) (by decide +kernel))) (SD_trans (SD_trans (hN_6) (SD_gluc (ι := oz_D2clsl_7) oz_D2cls_17 hN30 eN30 (by decide +kernel)) (any_subA (lₚ := [3]) (by decide +kernel))) (SD_gluc (ι := oz_D2clsl_9) oz_D2cls_19 hN46 eN46 (by decide +kernel)) (any_subA (lₚ := [3]) (by decide +kernel))) (SF_trans (SF_trans (SF_trans (SF_trans (SF_trans (hS_6) (SF_gluc (ι := oz_D2clsl_6) oz_D2cls_16 hS17 eF17 (by decide +kernel)) (any_sub (lₚ := [(0, 11)]) (by decide +kernel))) (SF_gluc (ι := oz_D2clsl_7) oz_D2cls_17 hS30 eF30 (by decide +kernel)) (any_sub (lₚ := [(2, 0), (2, 1), (2, 2)]) (by decide +kernel))) (SF_gluc (ι := oz_D2clsl_8) oz_D2cls_18 hS35 eF35 (by decide +kernel)) (any_sub (lₚ := []) (by decide +kernel))) (SF_gluc (ι := oz_D2clsl_6) oz_D2cls_16 hS42 eF42 (by decide +kernel)) (any_sub (lₚ := [(0, 11)]) (by decide +kernel))) (SF_gluc (ι := oz_D2clsl_9) oz_D2cls_19 hS46 eF46 (by decide +kernel)) (any_sub (lₚ := [(2, 0), (2, 1), (2, 2)]) (by decide +kernel))) (SA_trans (SA_trans (SA_trans (SA_trans (SA_trans (hA_6) (SA_gluc (ι := oz_D2clsl_6) oz_D2cls_16 hA17 eA17 (by decide +kernel)) (any_subA (lₚ := []) (by decide +kernel))) (SA_gluc (ι := oz_D2clsl_7) oz_D2cls_17 hA30 eA30 (by decide +kernel)) (any_subA (lₚ := [3]) (by decide +kernel))) (SA_gluc (ι := oz_D2clsl_8) oz_D2cls_18 hA35 eA35 (by decide +kernel)) (any_subA (lₚ := []) (by decide +kernel))) (SA_gluc (ι := oz_D2clsl_6) oz_D2cls_16 hA42 eA42 (by decide +kernel)) (any_subA (lₚ := []) (by decide +kernel))) (SA_gluc (ι := oz_D2clsl_9) oz_D2cls_19 hA46 eA46 (by decide +kernel)) (any_subA (lₚ := [3]) (by decide +kernel))) (pf46_2_0) (m46_2) ((congrArg (fun q : Nat => (q : Int)) (eN46 3)).trans em46_2) (y46_0_1) (((eF46 2 1).trans ey46_0_1))  (show inr (z42) from pz42_0) (show inr ((x6_6 + 1)) from q_2829 b8 h4 j6_1) (show (a1) ≤ ((x6_6 + 1)) from q_105 j6_2) (show ((x6_6 + 1)) ≤ (a1) ∨ ((x6_6 + 1)) ≤ (((a2) + 1)) from q_2828 b8) (show 0 ≤ (z42) ∧ (z42) ≤ (a2) from q_2827 b12 b44 j6_4 pz42_1) (show 0 ≤ (y46_0_1) ∧ (y46_0_1) ≤ (m46_2) ∧ (m46_2) ≤ 65536 from pz46_0) (show (u2_1) ≤ (y46_0_1) by omega) (show (y46_0_1) ≤ (a4) ∨ (y46_0_1) = (u2_1) from q_2826 b45 h5 h8 pz30_0 pz42_2 pz46_0 pz46_1) rfl
                      · refine Ew_of (pcₚ := 269) (fun _ => x_aload_n rfl (rk_o (rk_o (rk_o (rk_o (rk_o (rk_o (rk_o (l6_0) rfl rfl) rfl rfl) rfl rfl) rfl rfl) rfl rfl) rfl rfl) rfl rfl)) ?_
                        refine Ew_of (pcₚ := 270) (fun _ => x_iconst rfl) ?_
                        refine Ew_of (pcₚ := 272) (fun _ => x_iload rfl (rk_o (rk_o (rk_s) rfl rfl) rfl rfl)) ?_
                        refine Ew_stk (congrArg (fun qz : Nat => ([I ((z17 + y17_0_11)), I (3), .ref qz] : List Value)) (show D30 0 = D_6 0 from ((show D30 0 = D_6 0 from (eD30 0)))).symm) ?_
                        have r49 : (-2147483648 : Int) ≤ F 0 12 ∧ F 0 12 ≤ 2147483647 := rngE (show (-2147483648 : Int) ≤ F42 0 12 ∧ F42 0 12 ≤ 2147483647 from H.krg 0 12 (ltn len_V224_oz_D2cls rfl)) (show F42 0 12 = F 0 12 from ((((((show F42 0 12 = F35 0 12 from (eF42 0 12).trans (hS42 0 12 rfl))).trans ((show F35 0 12 = F30 0 12 from (eF35 0 12)))).trans ((show F30 0 12 = F17 0 12 from (eF30 0 12)))).trans ((show F17 0 12 = F_6 0 12 from (eF17 0 12).trans (hS17 0 12 rfl)))).trans (hS_6 0 12 rfl)))
                        refine v_inv H (o := 0) rfl rfl rfl rfl rfl rfl (by rfl) (C221 (D := puc 0 D30) (N := puc 0 N30) (HW_subc H oz_D2cls_6 oz_D2cls_15) (F 0 12) (((((((show F42 0 12 = F35 0 12 from (eF42 0 12).trans (hS42 0 12 rfl))).trans ((show F35 0 12 = F30 0 12 from (eF35 0 12)))).trans ((show F30 0 12 = F17 0 12 from (eF30 0 12)))).trans ((show F17 0 12 = F_6 0 12 from (eF17 0 12).trans (hS17 0 12 rfl)))).trans (hS_6 0 12 rfl))) (show inr (3) from q_66) (show inr ((z17 + y17_0_11)) from q_2819 b28 b34 h4 pz17_2) (fun z50 σ50 F50ₚ A50ₚ Hₚ Oₚ hS50 hA50 y50_0_12 ey50_0_12 pz50_0 pz50_1 pz50_2 => ⟨rfl, ?_⟩))
                        refine v_backc (c := (c_6 + c30)) (s := (s_6 + s30)) H oz_D2cls_6 oz_D2cls_15 Hₚ Oₚ (fun F50 A50 H Oₚ eF50 eA50 => ?_)
                        have O := OUT_trans O Oₚ
                        -- Tokens.fail
                        have cF50 : SF oz_D2clsl_3 F F50 := SF_trans (cF42) (SF_gluc (ι := oz_D2clsl_5) oz_D2cls_15 hS50 eF50 (by decide +kernel)) (any_sub (lₚ := [(0, 12)]) (by decide +kernel))
                        have mF50 := SFm_of cF50 oz_D2cls_13
                        have cA50 : SA oz_D2clsl_4 A A50 := SA_trans (cA42) (SA_gluc (ι := oz_D2clsl_5) oz_D2cls_15 hA50 eA50 (by decide +kernel)) (any_subA (lₚ := []) (by decide +kernel))
                        have mA50 := SAm_of cA50 oz_D2cls_14
                        have r51 : (-2147483648 : Int) ≤ y50_0_12 ∧ y50_0_12 ≤ 2147483647 := rngE (show (-2147483648 : Int) ≤ F50 0 12 ∧ F50 0 12 ≤ 2147483647 from H.krg 0 12 (ltn len_V224_oz_D2cls rfl)) (show F50 0 12 = y50_0_12 from ((eF50 0 12).trans ey50_0_12))
                        exact w_ireturn rfl (k (z50) _ _ _ _ _ _ _ H O (cD30) (cN30) (cF50) (cA50) ((((((show F50 2 0 = F42 2 0 from (eF50 2 0))).trans ((show F42 2 0 = F35 2 0 from (eF42 2 0)))).trans ((show F35 2 0 = F30 2 0 from (eF35 2 0))))).trans (pf30_2_0)) (m30_2) ((congrArg (fun q : Nat => (q : Int)) (eN30 3)).trans em30_2) (y30_0_1) ((((((show F50 2 1 = F42 2 1 from (eF50 2 1))).trans ((show F42 2 1 = F35 2 1 from (eF42 2 1)))).trans ((show F35 2 1 = F30 2 1 from (eF35 2 1)))).trans ((eF30 2 1).trans ey30_0_1))) (show inr (z50) from pz50_0) (show 0 ≤ (z50) ∧ (z50) ≤ 3 from q_2809 pz50_1) (show 0 ≤ (y30_0_1) ∧ (y30_0_1) ≤ (m30_2) ∧ (m30_2) ≤ 65536 from pz30_0) (show (u2_1) ≤ (y30_0_1) from q_2820 j6_6 pz17_2 pz30_1) (show (y30_0_1) ≤ a4 ∨ (y30_0_1) = (u2_1) by omega))
                    · refine Ew_of (pcₚ := 243) (fun _ => x_aload_n rfl (rk_o (rk_o (rk_o (rk_o (rk_o (rk_o (rk_o (l6_0) rfl rfl) rfl rfl) rfl rfl) rfl rfl) rfl rfl) rfl rfl) rfl rfl)) ?_
                      refine Ew_of (pcₚ := 244) (fun _ => x_iconst rfl) ?_
                      refine Ew_of (pcₚ := 245) (fun _ => x_iload_n rfl (rk_o (rk_o (rk_o (rk_o (rk_o (rk_o (rk_o (l6_2) rfl rfl) rfl rfl) rfl rfl) rfl rfl) rfl rfl) rfl rfl) rfl rfl)) ?_
                      refine Ew_stk (congrArg (fun qz : Nat => ([I (a2), I (1), .ref qz] : List Value)) (show D30 0 = D_6 0 from ((show D30 0 = D_6 0 from (eD30 0)))).symm) ?_
                      have r52 : (-2147483648 : Int) ≤ F 0 12 ∧ F 0 12 ≤ 2147483647 := rngE (show (-2147483648 : Int) ≤ F42 0 12 ∧ F42 0 12 ≤ 2147483647 from H.krg 0 12 (ltn len_V224_oz_D2cls rfl)) (show F42 0 12 = F 0 12 from ((((((show F42 0 12 = F35 0 12 from (eF42 0 12).trans (hS42 0 12 rfl))).trans ((show F35 0 12 = F30 0 12 from (eF35 0 12)))).trans ((show F30 0 12 = F17 0 12 from (eF30 0 12)))).trans ((show F17 0 12 = F_6 0 12 from (eF17 0 12).trans (hS17 0 12 rfl)))).trans (hS_6 0 12 rfl)))
                      refine v_inv H (o := 0) rfl rfl rfl rfl rfl rfl (by rfl) (C221 (D := puc 0 D30) (N := puc 0 N30) (HW_subc H oz_D2cls_6 oz_D2cls_15) (F 0 12) (((((((show F42 0 12 = F35 0 12 from (eF42 0 12).trans (hS42 0 12 rfl))).trans ((show F35 0 12 = F30 0 12 from (eF35 0 12)))).trans ((show F30 0 12 = F17 0 12 from (eF30 0 12)))).trans ((show F17 0 12 = F_6 0 12 from (eF17 0 12).trans (hS17 0 12 rfl)))).trans (hS_6 0 12 rfl))) (show inr (1) from q_23) (show inr (a2) from h1) (fun z53 σ53 F53ₚ A53ₚ Hₚ Oₚ hS53 hA53 y53_0_12 ey53_0_12 pz53_0 pz53_1 pz53_2 => ⟨rfl, ?_⟩))
                      refine v_backc (c := (c_6 + c30)) (s := (s_6 + s30)) H oz_D2cls_6 oz_D2cls_15 Hₚ Oₚ (fun F53 A53 H Oₚ eF53 eA53 => ?_)
                      have O := OUT_trans O Oₚ
                      -- Tokens.fail
                      have cF53 : SF oz_D2clsl_3 F F53 := SF_trans (cF42) (SF_gluc (ι := oz_D2clsl_5) oz_D2cls_15 hS53 eF53 (by decide +kernel)) (any_sub (lₚ := [(0, 12)]) (by decide +kernel))
                      have mF53 := SFm_of cF53 oz_D2cls_13
                      have cA53 : SA oz_D2clsl_4 A A53 := SA_trans (cA42) (SA_gluc (ι := oz_D2clsl_5) oz_D2cls_15 hA53 eA53 (by decide +kernel)) (any_subA (lₚ := []) (by decide +kernel))
                      have mA53 := SAm_of cA53 oz_D2cls_14
                      have r54 : (-2147483648 : Int) ≤ y53_0_12 ∧ y53_0_12 ≤ 2147483647 := rngE (show (-2147483648 : Int) ≤ F53 0 12 ∧ F53 0 12 ≤ 2147483647 from H.krg 0 12 (ltn len_V224_oz_D2cls rfl)) (show F53 0 12 = y53_0_12 from ((eF53 0 12).trans ey53_0_12))
                      exact w_ireturn rfl (k (z53) _ _ _ _ _ _ _ H O (cD30) (cN30) (cF53) (cA53) ((((((show F53 2 0 = F42 2 0 from (eF53 2 0))).trans ((show F42 2 0 = F35 2 0 from (eF42 2 0)))).trans ((show F35 2 0 = F30 2 0 from (eF35 2 0))))).trans (pf30_2_0)) (m30_2) ((congrArg (fun q : Nat => (q : Int)) (eN30 3)).trans em30_2) (y30_0_1) ((((((show F53 2 1 = F42 2 1 from (eF53 2 1))).trans ((show F42 2 1 = F35 2 1 from (eF42 2 1)))).trans ((show F35 2 1 = F30 2 1 from (eF35 2 1)))).trans ((eF30 2 1).trans ey30_0_1))) (show inr (z53) from pz53_0) (show 0 ≤ (z53) ∧ (z53) ≤ 3 from q_2799 pz53_1) (show 0 ≤ (y30_0_1) ∧ (y30_0_1) ≤ (m30_2) ∧ (m30_2) ≤ 65536 from pz30_0) (show (u2_1) ≤ (y30_0_1) from q_2820 j6_6 pz17_2 pz30_1) (show (y30_0_1) ≤ a4 ∨ (y30_0_1) = (u2_1) by omega))
                  · refine Ew_of (pcₚ := 214) (fun _ => x_aload_n rfl (rk_o (rk_o (rk_o (rk_o (rk_o (rk_o (l6_0) rfl rfl) rfl rfl) rfl rfl) rfl rfl) rfl rfl) rfl rfl)) ?_
                    refine Ew_of (pcₚ := 215) (fun _ => x_iconst rfl) ?_
                    refine Ew_of (pcₚ := 217) (fun _ => x_iload rfl (rk_o (rk_s) rfl rfl)) ?_
                    refine Ew_stk (congrArg (fun qz : Nat => ([I ((z17 + y17_0_11)), I (2), .ref qz] : List Value)) (show D30 0 = D_6 0 from ((show D30 0 = D_6 0 from (eD30 0)))).symm) ?_
                    have r55 : (-2147483648 : Int) ≤ F 0 12 ∧ F 0 12 ≤ 2147483647 := rngE (show (-2147483648 : Int) ≤ F35 0 12 ∧ F35 0 12 ≤ 2147483647 from H.krg 0 12 (ltn len_V224_oz_D2cls rfl)) (show F35 0 12 = F 0 12 from (((((show F35 0 12 = F30 0 12 from (eF35 0 12))).trans ((show F30 0 12 = F17 0 12 from (eF30 0 12)))).trans ((show F17 0 12 = F_6 0 12 from (eF17 0 12).trans (hS17 0 12 rfl)))).trans (hS_6 0 12 rfl)))
                    refine v_inv H (o := 0) rfl rfl rfl rfl rfl rfl (by rfl) (C221 (D := puc 0 D30) (N := puc 0 N30) (HW_subc H oz_D2cls_6 oz_D2cls_15) (F 0 12) ((((((show F35 0 12 = F30 0 12 from (eF35 0 12))).trans ((show F30 0 12 = F17 0 12 from (eF30 0 12)))).trans ((show F17 0 12 = F_6 0 12 from (eF17 0 12).trans (hS17 0 12 rfl)))).trans (hS_6 0 12 rfl))) (show inr (2) from q_55) (show inr ((z17 + y17_0_11)) from q_2819 b28 b34 h4 pz17_2) (fun z56 σ56 F56ₚ A56ₚ Hₚ Oₚ hS56 hA56 y56_0_12 ey56_0_12 pz56_0 pz56_1 pz56_2 => ⟨rfl, ?_⟩))
                    refine v_backc (c := (c_6 + c30)) (s := (s_6 + s30)) H oz_D2cls_6 oz_D2cls_15 Hₚ Oₚ (fun F56 A56 H Oₚ eF56 eA56 => ?_)
                    have O := OUT_trans O Oₚ
                    -- Tokens.fail
                    have cF56 : SF oz_D2clsl_3 F F56 := SF_trans (cF35) (SF_gluc (ι := oz_D2clsl_5) oz_D2cls_15 hS56 eF56 (by decide +kernel)) (any_sub (lₚ := [(0, 12)]) (by decide +kernel))
                    have mF56 := SFm_of cF56 oz_D2cls_13
                    have cA56 : SA oz_D2clsl_4 A A56 := SA_trans (cA35) (SA_gluc (ι := oz_D2clsl_5) oz_D2cls_15 hA56 eA56 (by decide +kernel)) (any_subA (lₚ := []) (by decide +kernel))
                    have mA56 := SAm_of cA56 oz_D2cls_14
                    have r57 : (-2147483648 : Int) ≤ y56_0_12 ∧ y56_0_12 ≤ 2147483647 := rngE (show (-2147483648 : Int) ≤ F56 0 12 ∧ F56 0 12 ≤ 2147483647 from H.krg 0 12 (ltn len_V224_oz_D2cls rfl)) (show F56 0 12 = y56_0_12 from ((eF56 0 12).trans ey56_0_12))
                    exact w_ireturn rfl (k (z56) _ _ _ _ _ _ _ H O (cD30) (cN30) (cF56) (cA56) (((((show F56 2 0 = F35 2 0 from (eF56 2 0))).trans ((show F35 2 0 = F30 2 0 from (eF35 2 0))))).trans (pf30_2_0)) (m30_2) ((congrArg (fun q : Nat => (q : Int)) (eN30 3)).trans em30_2) (y30_0_1) (((((show F56 2 1 = F35 2 1 from (eF56 2 1))).trans ((show F35 2 1 = F30 2 1 from (eF35 2 1)))).trans ((eF30 2 1).trans ey30_0_1))) (show inr (z56) from pz56_0) (show 0 ≤ (z56) ∧ (z56) ≤ 3 from q_2281 pz56_1) (show 0 ≤ (y30_0_1) ∧ (y30_0_1) ≤ (m30_2) ∧ (m30_2) ≤ 65536 from pz30_0) (show (u2_1) ≤ (y30_0_1) from q_2820 j6_6 pz17_2 pz30_1) (show (y30_0_1) ≤ a4 ∨ (y30_0_1) = (u2_1) by omega))
              · refine Ew_of (pcₚ := 163) (fun _ => x_aload_n rfl (rk_o (rk_o (rk_o (rk_o (l6_0) rfl rfl) rfl rfl) rfl rfl) rfl rfl)) ?_
                refine Ew_of (pcₚ := 164) (fun _ => x_iconst rfl) ?_
                refine Ew_of (pcₚ := 165) (fun _ => x_iload_n rfl (rk_o (rk_o (rk_o (rk_o (l6_2) rfl rfl) rfl rfl) rfl rfl) rfl rfl)) ?_
                refine Ew_stk (congrArg (fun qz : Nat => ([I (a2), I (1), .ref qz] : List Value)) (show D30 0 = D_6 0 from ((show D30 0 = D_6 0 from (eD30 0)))).symm) ?_
                have r58 : (-2147483648 : Int) ≤ F 0 12 ∧ F 0 12 ≤ 2147483647 := rngE (show (-2147483648 : Int) ≤ F30 0 12 ∧ F30 0 12 ≤ 2147483647 from H.krg 0 12 (ltn len_V224_oz_D2cls rfl)) (show F30 0 12 = F 0 12 from ((((show F30 0 12 = F17 0 12 from (eF30 0 12))).trans ((show F17 0 12 = F_6 0 12 from (eF17 0 12).trans (hS17 0 12 rfl)))).trans (hS_6 0 12 rfl)))
                refine v_inv H (o := 0) rfl rfl rfl rfl rfl rfl (by rfl) (C221 (D := puc 0 D30) (N := puc 0 N30) (HW_subc H oz_D2cls_6 oz_D2cls_15) (F 0 12) (((((show F30 0 12 = F17 0 12 from (eF30 0 12))).trans ((show F17 0 12 = F_6 0 12 from (eF17 0 12).trans (hS17 0 12 rfl)))).trans (hS_6 0 12 rfl))) (show inr (1) from q_23) (show inr (a2) from h1) (fun z59 σ59 F59ₚ A59ₚ Hₚ Oₚ hS59 hA59 y59_0_12 ey59_0_12 pz59_0 pz59_1 pz59_2 => ⟨rfl, ?_⟩))
                refine v_backc (c := (c_6 + c30)) (s := (s_6 + s30)) H oz_D2cls_6 oz_D2cls_15 Hₚ Oₚ (fun F59 A59 H Oₚ eF59 eA59 => ?_)
                have O := OUT_trans O Oₚ
                -- Tokens.fail
                have cF59 : SF oz_D2clsl_3 F F59 := SF_trans (cF30) (SF_gluc (ι := oz_D2clsl_5) oz_D2cls_15 hS59 eF59 (by decide +kernel)) (any_sub (lₚ := [(0, 12)]) (by decide +kernel))
                have mF59 := SFm_of cF59 oz_D2cls_13
                have cA59 : SA oz_D2clsl_4 A A59 := SA_trans (cA30) (SA_gluc (ι := oz_D2clsl_5) oz_D2cls_15 hA59 eA59 (by decide +kernel)) (any_subA (lₚ := []) (by decide +kernel))
                have mA59 := SAm_of cA59 oz_D2cls_14
                have r60 : (-2147483648 : Int) ≤ y59_0_12 ∧ y59_0_12 ≤ 2147483647 := rngE (show (-2147483648 : Int) ≤ F59 0 12 ∧ F59 0 12 ≤ 2147483647 from H.krg 0 12 (ltn len_V224_oz_D2cls rfl)) (show F59 0 12 = y59_0_12 from ((eF59 0 12).trans ey59_0_12))
                exact w_ireturn rfl (k (z59) _ _ _ _ _ _ _ H O (cD30) (cN30) (cF59) (cA59) ((((show F59 2 0 = F30 2 0 from (eF59 2 0)))).trans (pf30_2_0)) (m30_2) ((congrArg (fun q : Nat => (q : Int)) (eN30 3)).trans em30_2) (y30_0_1) ((((show F59 2 1 = F30 2 1 from (eF59 2 1))).trans ((eF30 2 1).trans ey30_0_1))) (show inr (z59) from pz59_0) (show 0 ≤ (z59) ∧ (z59) ≤ 3 from q_2799 pz59_1) (show 0 ≤ (y30_0_1) ∧ (y30_0_1) ≤ (m30_2) ∧ (m30_2) ≤ 65536 from pz30_0) (show (u2_1) ≤ (y30_0_1) from q_2820 j6_6 pz17_2 pz30_1) (show (y30_0_1) ≤ a4 ∨ (y30_0_1) = (u2_1) by omega))
            · refine Ew_of (pcₚ := 153) (fun _ => x_iconst rfl) ?_
              exact w_ireturn rfl (k (0) _ _ _ _ _ _ _ H O (cD30) (cN30) (cF30) (cA30) (pf30_2_0) (m30_2) ((congrArg (fun q : Nat => (q : Int)) (eN30 3)).trans em30_2) (y30_0_1) (((eF30 2 1).trans ey30_0_1)) (show inr (0) from q_20) (show 0 ≤ (0) ∧ (0) ≤ 3 by first | exact q_309 | omega) (show 0 ≤ (y30_0_1) ∧ (y30_0_1) ≤ (m30_2) ∧ (m30_2) ≤ 65536 from pz30_0) (show (u2_1) ≤ (y30_0_1) from q_2820 j6_6 pz17_2 pz30_1) (show (y30_0_1) ≤ a4 ∨ (y30_0_1) = (u2_1) by omega))
          · exact hc86  _ _ _ _  (rk_o (rk_o (rk_o (l6_0) rfl rfl) rfl rfl) rfl rfl) (rk_o (rk_o (rk_o (l6_2) rfl rfl) rfl rfl) rfl rfl) (rk_o (rk_s) rfl rfl) (rk_s) H O (SF_refl) (SA_refl)     (show ((z17) < (0)) ∨ ((z17) ≥ (0) ∧ (y17_0_11) > (z19)) from q_2830 b28 b29)
      · refine Ew_of (pcₚ := 19) (fun _ => x_aload_n rfl l6_0) ?_
        refine Ew_of (pcₚ := 20) (fun _ => x_iconst rfl) ?_
        refine Ew_of (pcₚ := 21) (fun _ => x_iload_n rfl l6_2) ?_
        have r61 : (-2147483648 : Int) ≤ F 0 12 ∧ F 0 12 ≤ 2147483647 := rngE (show (-2147483648 : Int) ≤ F_6 0 12 ∧ F_6 0 12 ≤ 2147483647 from H.krg 0 12 (ltn len_V224_oz_D2cls rfl)) (show F_6 0 12 = F 0 12 from (hS_6 0 12 rfl))
        refine v_inv H (o := 0) rfl rfl rfl rfl rfl rfl (by rfl) (C221 (D := puc 0 D_6) (N := puc 0 N_6) (HW_subc H oz_D2cls_6 oz_D2cls_15) (F 0 12) ((hS_6 0 12 rfl)) (show inr (1) from q_23) (show inr (a2) from h1) (fun z62 σ62 F62ₚ A62ₚ Hₚ Oₚ hS62 hA62 y62_0_12 ey62_0_12 pz62_0 pz62_1 pz62_2 => ⟨rfl, ?_⟩))
        refine v_backc (c := c_6) (s := s_6) H oz_D2cls_6 oz_D2cls_15 Hₚ Oₚ (fun F62 A62 H Oₚ eF62 eA62 => ?_)
        have O := OUT_trans O Oₚ
        -- Tokens.fail
        have cF62 : SF oz_D2clsl_3 F F62 := SF_trans (cF_6) (SF_gluc (ι := oz_D2clsl_5) oz_D2cls_15 hS62 eF62 (by decide +kernel)) (any_sub (lₚ := [(0, 12)]) (by decide +kernel))
        have mF62 := SFm_of cF62 oz_D2cls_13
        have cA62 : SA oz_D2clsl_4 A A62 := SA_trans (cA_6) (SA_gluc (ι := oz_D2clsl_5) oz_D2cls_15 hA62 eA62 (by decide +kernel)) (any_subA (lₚ := []) (by decide +kernel))
        have mA62 := SAm_of cA62 oz_D2cls_14
        have r63 : (-2147483648 : Int) ≤ y62_0_12 ∧ y62_0_12 ≤ 2147483647 := rngE (show (-2147483648 : Int) ≤ F62 0 12 ∧ F62 0 12 ≤ 2147483647 from H.krg 0 12 (ltn len_V224_oz_D2cls rfl)) (show F62 0 12 = y62_0_12 from ((eF62 0 12).trans ey62_0_12))
        exact w_ireturn rfl (k (z62) _ _ _ _ _ _ _ H O (cD_6) (cN_6) (cF62) (cA62) ((((show F62 2 0 = F_6 2 0 from (eF62 2 0)))).trans (pm6_3)) (m6_3) (em6_3) (y6_2_1) ((((show F62 2 1 = F_6 2 1 from (eF62 2 1))).trans (ey6_2_1))) (show inr (z62) from pz62_0) (show 0 ≤ (z62) ∧ (z62) ≤ 3 from q_2799 pz62_1) (show 0 ≤ (y6_2_1) ∧ (y6_2_1) ≤ (m6_3) ∧ (m6_3) ≤ 65536 from j6_5) (show (u2_1) ≤ (y6_2_1) from j6_6) (show (y6_2_1) ≤ a4 ∨ (y6_2_1) = (u2_1) from j6_7))
abbrev V222_Row_Row : vV := [(0, 11, [(4, 0), (4, 0), (4, 0), (4, 0), (4, 0), (0, 0), (4, 0), (0, 0), (0, 0), (0, 0), (0, 0), (0, 0), (0, 0)]), (0, 7, [(4, 0), (0, 0), (1, 0), (0, 0), (0, 0)]), (0, 7, [(4, 0), (0, 0), (1, 0), (0, 0), (0, 0)]), (1, 0, [])]
theorem len_V222_Row_Row_oz_D2cls : (V222_Row_Row).length = 4 := by decide +kernel
def oz_D2clsl_10 : List (Nat × Nat) := [(0, 4), (0, 5), (0, 6), (0, 7), (0, 12)]
theorem oz_D2cls_21 : (oz_D2clsl_10).all (fun p => !tbz 4336 (Nat.add (Nat.mul 32 p.1) p.2)) = true := by decide +kernel
/-- Tokens.begin: this, #1, #2, #1.bytes -/
theorem C222_Row_Row {σE : rS} {D N : Nat → Nat} {F : hF} {A : hA} {d c s : Nat} {Q : wQ} (H : HW V222_Row_Row σE D N F A) {a3 : Int} (pf3 : F 1 0 = (D 3 : Int)) (n3 : Int) (en3 : (N 3 : Int) = n3) (u0_5 : Int) (eu0_5 : F 0 5 = u0_5) (u0_7 : Int) (eu0_7 : F 0 7 = u0_7) (u0_12 : Int) (eu0_12 : F 0 12 = u0_12) (u1_1 : Int) (eu1_1 : F 1 1 = u1_1) (h0 : inr (a3)) (k : ∀ (σ : rS) (Fₚ : hF) (Aₚ : hA), HW V222_Row_Row σ D N Fₚ Aₚ → OUT (V222_Row_Row).length D N σE c s D N σ c s → SF [(0, 4), (0, 5), (0, 6), (0, 7), (0, 12)] F Fₚ → SA [] A Aₚ → ∀ y0_5 : Int, Fₚ 0 5 = y0_5 → ∀ y0_7 : Int, Fₚ 0 7 = y0_7 → ∀ y0_12 : Int, Fₚ 0 12 = y0_12 → Fₚ 0 4 = (D 3 : Int) → Fₚ 0 6 = (D 2 : Int) → ((y0_5) = (u1_1) ∧ (y0_7) = (a3) ∧ (y0_12) = (u1_1)) → Q none σ c s) : Ew 222 (d + 0) 0 (rargs 0 [.ref (D 0), .ref (D 1), .ref (D 2), I a3]) [] σE c s Q := by
  have O := OUT_refl (n := (V222_Row_Row).length) (D := D) (N := N) (σ := σE) (c := c) (s := s)
  have HE := H
  have r1 : (-2147483648 : Int) ≤ u0_5 ∧ u0_5 ≤ 2147483647 := rngE (show (-2147483648 : Int) ≤ F 0 5 ∧ F 0 5 ≤ 2147483647 from H.krg 0 5 (ltn len_V222_Row_Row_oz_D2cls rfl)) (show F 0 5 = u0_5 from (eu0_5))
  have r2 : (-2147483648 : Int) ≤ u0_7 ∧ u0_7 ≤ 2147483647 := rngE (show (-2147483648 : Int) ≤ F 0 7 ∧ F 0 7 ≤ 2147483647 from H.krg 0 7 (ltn len_V222_Row_Row_oz_D2cls rfl)) (show F 0 7 = u0_7 from (eu0_7))
  have r3 : (-2147483648 : Int) ≤ u0_12 ∧ u0_12 ≤ 2147483647 := rngE (show (-2147483648 : Int) ≤ F 0 12 ∧ F 0 12 ≤ 2147483647 from H.krg 0 12 (ltn len_V222_Row_Row_oz_D2cls rfl)) (show F 0 12 = u0_12 from (eu0_12))
  have r4 : (-2147483648 : Int) ≤ u1_1 ∧ u1_1 ≤ 2147483647 := rngE (show (-2147483648 : Int) ≤ F 1 1 ∧ F 1 1 ≤ 2147483647 from H.krg 1 1 (ltn len_V222_Row_Row_oz_D2cls rfl)) (show F 1 1 = u1_1 from (eu1_1))
  have r5 : (0 : Int) ≤ n3 ∧ n3 ≤ 1000000 := nleE (H.nle 3 (ltn len_V222_Row_Row_oz_D2cls rfl)) (show (N 3 : Int) = n3 from en3)
  refine Ew_of (pcₚ := 1) (fun _ => x_aload_n rfl rfl) ?_
  refine Ew_of (pcₚ := 2) (fun _ => x_aload_n rfl rfl) ?_
  refine v_g H (o := 1) (v := .ref (D 3)) rfl rfl rfl rfl rfl (vrf (pf3)) ?_
  refine v_p H (o := 0) (z := ((D 3 : Nat) : Int)) (v := .ref (D 3)) rfl rfl rfl rfl rfl rfl (vrf rfl) rfl (show (-1 : Int) ≤ ((D 3 : Nat) : Int) by omega) (fun σ H Oₚ => ?_)
  have O := OUT_trans O Oₚ
  have cFu6 : SF oz_D2clsl_10 F (updF F 0 4 ((D 3 : Nat) : Int)) := SF_upd (SF_refl) rfl
  have mFu6 := SFm_of cFu6 oz_D2cls_21
  refine Ew_of (pcₚ := 9) (fun _ => x_aload_n rfl rfl) ?_
  refine Ew_of (pcₚ := 10) (fun _ => x_aload_n rfl rfl) ?_
  refine v_g H (o := 1) (v := I (u1_1)) rfl rfl rfl rfl rfl (congrArg (fun z : Int => I z) (((mFu6 1 1 rfl).trans (eu1_1)) : (updF F 0 4 ((D 3 : Nat) : Int)) 1 1 = u1_1)) ?_
  refine v_p H (o := 0) (z := u1_1) (v := I (u1_1)) rfl rfl rfl rfl rfl rfl rfl rfl (show (-2147483648 : Int) ≤ u1_1 ∧ u1_1 ≤ 2147483647 from r4) (fun σ H Oₚ => ?_)
  have O := OUT_trans O Oₚ
  have cFu7 : SF oz_D2clsl_10 F (updF (updF F 0 4 ((D 3 : Nat) : Int)) 0 5 (u1_1)) := SF_upd (cFu6) rfl
  have mFu7 := SFm_of cFu7 oz_D2cls_21
  refine Ew_of (pcₚ := 17) (fun _ => x_aload_n rfl rfl) ?_
  refine Ew_of (pcₚ := 18) (fun _ => x_aload_n rfl rfl) ?_
  refine v_p H (o := 0) (z := ((D 2 : Nat) : Int)) (v := .ref (D 2)) rfl rfl rfl rfl rfl rfl (vrf rfl) rfl (show (-1 : Int) ≤ ((D 2 : Nat) : Int) by omega) (fun σ H Oₚ => ?_)
  have O := OUT_trans O Oₚ
  have cFu8 : SF oz_D2clsl_10 F (updF (updF (updF F 0 4 ((D 3 : Nat) : Int)) 0 5 (u1_1)) 0 6 ((D 2 : Nat) : Int)) := SF_upd (cFu7) rfl
  have mFu8 := SFm_of cFu8 oz_D2cls_21
  refine Ew_of (pcₚ := 22) (fun _ => x_aload_n rfl rfl) ?_
  refine Ew_of (pcₚ := 23) (fun _ => x_iload_n rfl rfl) ?_
  refine v_p H (o := 0) (z := a3) (v := I (a3)) rfl rfl rfl rfl rfl rfl rfl rfl (show (-2147483648 : Int) ≤ a3 ∧ a3 ≤ 2147483647 from q_61 h0) (fun σ H Oₚ => ?_)
  have O := OUT_trans O Oₚ
  have cFu9 : SF oz_D2clsl_10 F (updF (updF (updF (updF F 0 4 ((D 3 : Nat) : Int)) 0 5 (u1_1)) 0 6 ((D 2 : Nat) : Int)) 0 7 (a3)) := SF_upd (cFu8) rfl
  have mFu9 := SFm_of cFu9 oz_D2cls_21
  refine Ew_of (pcₚ := 27) (fun _ => x_aload_n rfl rfl) ?_
  refine Ew_of (pcₚ := 28) (fun _ => x_aload_n rfl rfl) ?_
  refine v_g H (o := 0) (v := I (u1_1)) rfl rfl rfl rfl rfl (congrArg (fun z : Int => I z) (rfl : (updF (updF (updF (updF F 0 4 ((D 3 : Nat) : Int)) 0 5 (u1_1)) 0 6 ((D 2 : Nat) : Int)) 0 7 (a3)) 0 5 = u1_1)) ?_
  refine v_p H (o := 0) (z := u1_1) (v := I (u1_1)) rfl rfl rfl rfl rfl rfl rfl rfl (show (-2147483648 : Int) ≤ u1_1 ∧ u1_1 ≤ 2147483647 from r4) (fun σ H Oₚ => ?_)
  have O := OUT_trans O Oₚ
  have cFu10 : SF oz_D2clsl_10 F (updF (updF (updF (updF (updF F 0 4 ((D 3 : Nat) : Int)) 0 5 (u1_1)) 0 6 ((D 2 : Nat) : Int)) 0 7 (a3)) 0 12 (u1_1)) := SF_upd (cFu9) rfl
  have mFu10 := SFm_of cFu10 oz_D2cls_21
  exact w_ret rfl (k _ _ _ H O (cFu10) (SA_refl) (u1_1) (rfl) (a3) (rfl) (u1_1) (rfl) ((show (updF F 0 4 ((D 3 : Nat) : Int)) 0 4 = ((D 3 : Nat) : Int) from rfl)) ((show (updF (updF (updF F 0 4 ((D 3 : Nat) : Int)) 0 5 (u1_1)) 0 6 ((D 2 : Nat) : Int)) 0 6 = ((D 2 : Nat) : Int) from rfl)) (show (u1_1) = (u1_1) ∧ (a3) = a3 ∧ (u1_1) = (u1_1) from q_2831))
abbrev V223_Row_Row : vV := [(0, 11, [(4, 0), (4, 0), (4, 0), (4, 0), (4, 0), (0, 0), (4, 0), (0, 0), (0, 0), (0, 0), (0, 0), (0, 0), (0, 0)]), (0, 7, [(4, 0), (0, 0), (1, 0), (0, 0), (0, 0)]), (0, 7, [(4, 0), (0, 0), (1, 0), (0, 0), (0, 0)]), (1, 0, []), (1, 0, []), (0, 7, [(4, 0), (0, 0), (1, 0), (0, 0), (0, 0)]), (1, 0, [])]
theorem len_V223_Row_Row_oz_D2cls : (V223_Row_Row).length = 7 := by decide +kernel
theorem oz_D2cls_23 : vsub V223_Row_Row V222_Row_Row [0, 1, 2, 3] = true := by decide +kernel
theorem oz_D2cls_24 : vsub V223_Row_Row V224 [0, 3, 2, 4, 5, 6] = true := by decide +kernel
theorem oz_D2cls_25 : vmov V223_Row_Row [0, 3, 2, 4, 5, 6] [3] = true := by decide +kernel
def oz_D2clsl_11 : List (Nat × Nat) := [(0, 4), (0, 5), (0, 6), (0, 7), (0, 11), (0, 12), (2, 0), (2, 1), (2, 2)]
theorem oz_D2cls_26 : (oz_D2clsl_11).all (fun p => !tbz 129127208515966867696 (Nat.add (Nat.mul 32 p.1) p.2)) = true := by decide +kernel
def oz_D2clsl_12 : List Nat := [4]
theorem oz_D2cls_27 : (oz_D2clsl_12).all (fun p => !tbz 16 p) = true := by decide +kernel
def oz_D2clsl_13 : List Nat := [0, 1, 2, 3]
theorem oz_D2cls_28 : okc oz_D2clsl_13 403177984 = true := by decide +kernel
def oz_D2clsl_14 : List Nat := [0, 3, 2, 4, 5, 6]
theorem oz_D2cls_29 : okc oz_D2clsl_14 211450367313408 = true := by decide +kernel
/-- Tokens.unpackAlone: this, #1, #2, #1.bytes, #2.bytes, this.past, this.past.bytes -/
theorem C223_Row_Row {σE : rS} {D N : Nat → Nat} {F : hF} {A : hA} {d c s : Nat} {Q : wQ} (H : HW V223_Row_Row σE D N F A) {a3 : Int} (pf3 : F 1 0 = (D 3 : Int)) (pf4 : F 2 0 = (D 4 : Int)) (pf5 : F 0 1 = (D 5 : Int)) (pf6 : F 5 0 = (D 6 : Int)) (n3 : Int) (en3 : (N 3 : Int) = n3) (n4 : Int) (en4 : (N 4 : Int) = n4) (n6 : Int) (en6 : (N 6 : Int) = n6) (u1_1 : Int) (eu1_1 : F 1 1 = u1_1) (u2_1 : Int) (eu2_1 : F 2 1 = u2_1) (u5_1 : Int) (eu5_1 : F 5 1 = u5_1) (h0 : inr (a3)) (h1 : 0 ≤ (u1_1) ∧ (u1_1) ≤ (n3) ∧ (n3) ≤ 65536) (h2 : 0 ≤ (u2_1) ∧ (u2_1) ≤ (n4) ∧ (n4) ≤ 65536) (h3 : 0 ≤ (u5_1) ∧ (u5_1) ≤ (n6) ∧ (n6) ≤ 65536) (h4 : 0 ≤ (a3) ∧ (a3) ≤ 65536) (k : ∀ (z : Int) (σ : rS) (Dₚ Nₚ : Nat → Nat) (Fₚ : hF) (Aₚ : hA) (cₚ sₚ : Nat), HW V223_Row_Row σ Dₚ Nₚ Fₚ Aₚ → OUT (V223_Row_Row).length D N σE c s Dₚ Nₚ σ cₚ sₚ → SD [4] D Dₚ → SD [4] N Nₚ → SF [(0, 4), (0, 5), (0, 6), (0, 7), (0, 11), (0, 12), (2, 0), (2, 1), (2, 2)] F Fₚ → SA [4] A Aₚ → Fₚ 2 0 = (Dₚ 4 : Int) → ∀ m4 : Int, (Nₚ 4 : Int) = m4 → ∀ y2_1 : Int, Fₚ 2 1 = y2_1 → (inr (z)) → (0 ≤ (z) ∧ (z) ≤ 3) → (0 ≤ (y2_1) ∧ (y2_1) ≤ (m4) ∧ (m4) ≤ 65536) → Q (some (I z)) σ cₚ sₚ) : Ew 223 (d + 4) 0 (rargs 0 [.ref (D 0), .ref (D 1), .ref (D 2), I a3]) [] σE c s Q := by
  have O := OUT_refl (n := (V223_Row_Row).length) (D := D) (N := N) (σ := σE) (c := c) (s := s)
  have HE := H
  have r1 : (-2147483648 : Int) ≤ u1_1 ∧ u1_1 ≤ 2147483647 := rngE (show (-2147483648 : Int) ≤ F 1 1 ∧ F 1 1 ≤ 2147483647 from H.krg 1 1 (ltn len_V223_Row_Row_oz_D2cls rfl)) (show F 1 1 = u1_1 from (eu1_1))
  have r2 : (-2147483648 : Int) ≤ u2_1 ∧ u2_1 ≤ 2147483647 := rngE (show (-2147483648 : Int) ≤ F 2 1 ∧ F 2 1 ≤ 2147483647 from H.krg 2 1 (ltn len_V223_Row_Row_oz_D2cls rfl)) (show F 2 1 = u2_1 from (eu2_1))
  have r3 : (-2147483648 : Int) ≤ u5_1 ∧ u5_1 ≤ 2147483647 := rngE (show (-2147483648 : Int) ≤ F 5 1 ∧ F 5 1 ≤ 2147483647 from H.krg 5 1 (ltn len_V223_Row_Row_oz_D2cls rfl)) (show F 5 1 = u5_1 from (eu5_1))
  have r4 : (0 : Int) ≤ n3 ∧ n3 ≤ 1000000 := nleE (H.nle 3 (ltn len_V223_Row_Row_oz_D2cls rfl)) (show (N 3 : Int) = n3 from en3)
  have r5 : (0 : Int) ≤ n4 ∧ n4 ≤ 1000000 := nleE (H.nle 4 (ltn len_V223_Row_Row_oz_D2cls rfl)) (show (N 4 : Int) = n4 from en4)
  have r6 : (0 : Int) ≤ n6 ∧ n6 ≤ 1000000 := nleE (H.nle 6 (ltn len_V223_Row_Row_oz_D2cls rfl)) (show (N 6 : Int) = n6 from en6)
  refine Ew_of (pcₚ := 1) (fun _ => x_aload_n rfl rfl) ?_
  refine Ew_of (pcₚ := 2) (fun _ => x_aload_n rfl rfl) ?_
  refine Ew_of (pcₚ := 3) (fun _ => x_aload_n rfl rfl) ?_
  refine Ew_of (pcₚ := 4) (fun _ => x_iload_n rfl rfl) ?_
  have r7 : (-2147483648 : Int) ≤ F 0 5 ∧ F 0 5 ≤ 2147483647 := H.krg 0 5 (ltn len_V223_Row_Row_oz_D2cls rfl)
  have r8 : (-2147483648 : Int) ≤ F 0 7 ∧ F 0 7 ≤ 2147483647 := H.krg 0 7 (ltn len_V223_Row_Row_oz_D2cls rfl)
  have r9 : (-2147483648 : Int) ≤ F 0 12 ∧ F 0 12 ≤ 2147483647 := H.krg 0 12 (ltn len_V223_Row_Row_oz_D2cls rfl)
  refine v_inv H (o := 0) rfl rfl rfl rfl rfl rfl (by rfl) (C222_Row_Row (D := puc 403177984 D) (N := puc 403177984 N) (HW_subc H oz_D2cls_23 oz_D2cls_28) (pf3) (n3) (en3) (F 0 5) (rfl) (F 0 7) (rfl) (F 0 12) (rfl) (u1_1) ((eu1_1)) (show inr (a3) from h0) (fun σ10 F10ₚ A10ₚ Hₚ Oₚ hS10 hA10 y10_0_5 ey10_0_5 y10_0_7 ey10_0_7 y10_0_12 ey10_0_12 pq10_0 pq10_1 pz10_0 => ⟨rfl, ?_⟩))
  refine v_backc (c := c) (s := s) H oz_D2cls_23 oz_D2cls_28 Hₚ Oₚ (fun F10 A10 H Oₚ eF10 eA10 => ?_)
  have O := OUT_trans O Oₚ
  -- Tokens.begin
  have cF10 : SF oz_D2clsl_11 F F10 := SF_trans (SF_refl) (SF_gluc (ι := oz_D2clsl_13) oz_D2cls_28 hS10 eF10 (by decide +kernel)) (any_sub (lₚ := [(0, 4), (0, 5), (0, 6), (0, 7), (0, 12)]) (by decide +kernel))
  have mF10 := SFm_of cF10 oz_D2cls_26
  have cA10 : SA oz_D2clsl_12 A A10 := SA_trans (SA_refl) (SA_gluc (ι := oz_D2clsl_13) oz_D2cls_28 hA10 eA10 (by decide +kernel)) (any_subA (lₚ := []) (by decide +kernel))
  have mA10 := SAm_of cA10 oz_D2cls_27
  have pl10_0 : F10 0 4 = (D 3 : Int) := (eF10 0 4).trans (pq10_0)
  have pl10_1 : F10 0 6 = (D 2 : Int) := (eF10 0 6).trans (pq10_1)
  have r11 : (-2147483648 : Int) ≤ y10_0_5 ∧ y10_0_5 ≤ 2147483647 := rngE (show (-2147483648 : Int) ≤ F10 0 5 ∧ F10 0 5 ≤ 2147483647 from H.krg 0 5 (ltn len_V223_Row_Row_oz_D2cls rfl)) (show F10 0 5 = y10_0_5 from ((eF10 0 5).trans ey10_0_5))
  have r12 : (-2147483648 : Int) ≤ y10_0_7 ∧ y10_0_7 ≤ 2147483647 := rngE (show (-2147483648 : Int) ≤ F10 0 7 ∧ F10 0 7 ≤ 2147483647 from H.krg 0 7 (ltn len_V223_Row_Row_oz_D2cls rfl)) (show F10 0 7 = y10_0_7 from ((eF10 0 7).trans ey10_0_7))
  have r13 : (-2147483648 : Int) ≤ y10_0_12 ∧ y10_0_12 ≤ 2147483647 := rngE (show (-2147483648 : Int) ≤ F10 0 12 ∧ F10 0 12 ≤ 2147483647 from H.krg 0 12 (ltn len_V223_Row_Row_oz_D2cls rfl)) (show F10 0 12 = y10_0_12 from ((eF10 0 12).trans ey10_0_12))
  refine Ew_of (pcₚ := 8) (fun _ => x_aload_n rfl rfl) ?_
  refine Ew_of (pcₚ := 9) (fun _ => x_iconst rfl) ?_
  refine Ew_of (pcₚ := 10) (fun _ => x_aload_n rfl rfl) ?_
  refine v_g H (o := 0) (v := I (y10_0_5)) rfl rfl rfl rfl rfl (congrArg (fun z : Int => I z) (((eF10 0 5).trans ey10_0_5) : F10 0 5 = y10_0_5)) ?_
  refine Ew_of (pcₚ := 14) (fun _ => x_iconst rfl) ?_
  refine Ew_of (pcₚ := 15) (fun _ => x_aload_n rfl rfl) ?_
  refine v_g H (o := 0) (v := I (y10_0_7)) rfl rfl rfl rfl rfl (congrArg (fun z : Int => I z) (((eF10 0 7).trans ey10_0_7) : F10 0 7 = y10_0_7)) ?_
  refine v_inv H (o := 0) rfl rfl rfl rfl rfl rfl (by rfl) (C224 (D := puc 211450367313408 D) (N := puc 211450367313408 N) (HW_subc H oz_D2cls_24 oz_D2cls_29) (pl10_0) (pl10_1) ((((show F10 2 0 = F 2 0 from (eF10 2 0).trans (hS10 2 0 rfl)))).trans (pf4)) ((mF10 0 1 rfl).trans (pf5)) ((mF10 5 0 rfl).trans (pf6)) (n3) (en3) (n4) (en4) (n6) (en6) (u2_1) ((((show F10 2 1 = F 2 1 from (eF10 2 1).trans (hS10 2 1 rfl))).trans (eu2_1))) (u5_1) (((mF10 5 1 rfl).trans (eu5_1))) (show inr (0) from q_20) (show inr (y10_0_5) from q_22 r11) (show inr (0) from q_20) (show inr (y10_0_7) from q_22 r12) (show 0 ≤ (0) ∧ (0) ≤ (y10_0_5) ∧ (y10_0_5) ≤ (n3) ∧ (n3) ≤ 65536 from q_2833 h1 pz10_0) (show 0 ≤ (u2_1) ∧ (u2_1) ≤ (n4) ∧ (n4) ≤ 65536 from h2) (show 0 ≤ (u5_1) ∧ (u5_1) ≤ (n6) ∧ (n6) ≤ 65536 from h3) (show 0 ≤ (0) ∧ (0) ≤ (u2_1) from q_2615 h2) (show 0 ≤ (y10_0_7) ∧ (y10_0_7) ≤ 65536 from q_2832 h4 pz10_0) (fun z14 σ14 D14ₚ N14ₚ F14ₚ A14ₚ c14 s14 Hₚ Oₚ hD14 hN14 hS14 hA14 pm14_3 m14_3 em14_3 y14_2_1 ey14_2_1 pz14_0 pz14_1 pz14_2 pz14_3 pz14_4 => ⟨rfl, ?_⟩))
  refine v_backMc (c := c) (s := s) H oz_D2cls_24 oz_D2cls_29 Hₚ Oₚ hD14 oz_D2cls_25 (fun D14 N14 F14 A14 H Oₚ eD14 eN14 eF14 eA14 => ?_)
  have O := OUT_trans O Oₚ
  -- Tokens.unpackBlock
  have cF14 : SF oz_D2clsl_11 F F14 := SF_trans (cF10) (SF_gluc (ι := oz_D2clsl_14) oz_D2cls_29 hS14 eF14 (by decide +kernel)) (any_sub (lₚ := [(0, 11), (0, 12), (2, 0), (2, 1), (2, 2)]) (by decide +kernel))
  have mF14 := SFm_of cF14 oz_D2cls_26
  have cA14 : SA oz_D2clsl_12 A A14 := SA_trans (cA10) (SA_gluc (ι := oz_D2clsl_14) oz_D2cls_29 hA14 eA14 (by decide +kernel)) (any_subA (lₚ := [4]) (by decide +kernel))
  have mA14 := SAm_of cA14 oz_D2cls_27
  have cD14 : SD oz_D2clsl_12 D D14 := SD_trans (SD_refl) (SD_gluc (ι := oz_D2clsl_14) oz_D2cls_29 hD14 eD14 (by decide +kernel)) (any_subA (lₚ := [4]) (by decide +kernel))
  have mD14 := SDm_of cD14 oz_D2cls_27
  have cN14 : SD oz_D2clsl_12 N N14 := SD_trans (SD_refl) (SD_gluc (ι := oz_D2clsl_14) oz_D2cls_29 hN14 eN14 (by decide +kernel)) (any_subA (lₚ := [4]) (by decide +kernel))
  have mN14 := SDm_of cN14 oz_D2cls_27
  have pf14_0_4 : F14 0 4 = (D14 3 : Int) := ((show F14 0 4 = F10 0 4 from (eF14 0 4).trans (hS14 0 4 rfl))).trans ((pl10_0).trans (congrArg (fun q : Nat => (q : Int)) ((show D14 3 = D 3 from (eD14 3).trans (hD14 1 rfl))).symm))
  have pf14_0_6 : F14 0 6 = (D14 2 : Int) := ((show F14 0 6 = F10 0 6 from (eF14 0 6).trans (hS14 0 6 rfl))).trans ((pl10_1).trans (congrArg (fun q : Nat => (q : Int)) ((show D14 2 = D 2 from (eD14 2).trans (hD14 2 rfl))).symm))
  have pf14_2_0 : F14 2 0 = (D14 4 : Int) := (eF14 2 0).trans (pm14_3.trans (congrArg (fun q : Nat => (q : Int)) (eD14 4).symm))
  have r15 : (0 : Int) ≤ m14_3 ∧ m14_3 ≤ 1000000 := nleE (H.nle 4 (ltn len_V223_Row_Row_oz_D2cls rfl)) (show (N14 4 : Int) = m14_3 from (congrArg (fun q : Nat => (q : Int)) (eN14 4)).trans em14_3)
  have r16 : (-2147483648 : Int) ≤ y14_2_1 ∧ y14_2_1 ≤ 2147483647 := rngE (show (-2147483648 : Int) ≤ F14 2 1 ∧ F14 2 1 ≤ 2147483647 from H.krg 2 1 (ltn len_V223_Row_Row_oz_D2cls rfl)) (show F14 2 1 = y14_2_1 from ((eF14 2 1).trans ey14_2_1))
  exact w_ireturn rfl (k (z14) _ _ _ _ _ _ _ H O (cD14) (cN14) (cF14) (cA14) (pf14_2_0) (m14_3) ((congrArg (fun q : Nat => (q : Int)) (eN14 4)).trans em14_3) (y14_2_1) (((eF14 2 1).trans ey14_2_1)) (show inr (z14) from pz14_0) (show 0 ≤ (z14) ∧ (z14) ≤ 3 from pz14_1) (show 0 ≤ (y14_2_1) ∧ (y14_2_1) ≤ (m14_3) ∧ (m14_3) ≤ 65536 from pz14_2))
