abbrev V221 : vV := [(0, 11, [(4, 0), (4, 0), (4, 0), (4, 0), (4, 0), (0, 0), (4, 0), (0, 0), (0, 0), (0, 0), (0, 0), (0, 0), (0, 0)])]
/-- Tokens.fail: this -/
theorem C221 {σE : rS} {D N : Nat → Nat} {F : hF} {A : hA} {d c s : Nat} {Q : wQ} (H : HW V221 σE D N F A) {a1 a2 : Int} (u0_12 : Int) (eu0_12 : F 0 12 = u0_12) (h0 : inr (a1)) (h1 : inr (a2)) (k : ∀ (z : Int) (σ : rS) (F' : hF) (A' : hA), HW V221 σ D N F' A' → OUT (V221).length D N σE c s D N σ c s → SF [(0, 12)] F F' → SA [] A A' → ∀ y0_12 : Int, F' 0 12 = y0_12 → (inr (z)) → ((z) = (a1)) → ((y0_12) = (a2)) → Q (some (I z)) σ c s) : Ew 221 (d + 0) 0 (rargs 0 [.ref (D 0), I a1, I a2]) [] σE c s Q := by
  have O := OUT_refl (n := (V221).length) (D := D) (N := N) (σ := σE) (c := c) (s := s)
  have HE := H
  have r1 : (-2147483648 : Int) ≤ u0_12 ∧ u0_12 ≤ 2147483647 := by have h1 : (-2147483648 : Int) ≤ F 0 12 ∧ F 0 12 ≤ 2147483647 := H.krg 0 12 (by decide); rw [show F 0 12 = u0_12 from (eu0_12)] at h1; exact h1
  refine Ew_of (pc' := 1) (fun _ => x_aload_n rfl rfl) ?_
  refine Ew_of (pc' := 2) (fun _ => x_iload_n rfl rfl) ?_
  refine v_p H (o := 0) (z := a2) (v := I (a2)) rfl rfl rfl rfl rfl rfl rfl rfl (show (-2147483648 : Int) ≤ a2 ∧ a2 ≤ 2147483647 by omega) (fun σ H O' => ?_)
  have O := OUT_trans O O'
  refine Ew_of (pc' := 6) (fun _ => x_iload_n rfl rfl) ?_
  exact w_ireturn rfl (k (a1) _ _ _ H O (SF_upd (SF_refl) rfl) (SA_refl) (a2) (rfl) (show inr (a1) by omega) (show (a1) = a1 by omega) (show (a2) = a2 by omega))
abbrev V225 : vV := [(0, 11, [(4, 0), (4, 0), (4, 0), (4, 0), (4, 0), (0, 0), (4, 0), (0, 0), (0, 0), (0, 0), (0, 0), (0, 0), (0, 0)]), (1, 0, [])]
/-- Tokens.addUp: this, this.in -/
theorem C225 {σE : rS} {D N : Nat → Nat} {F : hF} {A : hA} {d c s : Nat} {Q : wQ} (H : HW V225 σE D N F A) {a1 a2 a3 : Int} (pf1 : F 0 4 = (D 1 : Int)) (n1 : Int) (en1 : (N 1 : Int) = n1) (u0_11 : Int) (eu0_11 : F 0 11 = u0_11) (h0 : inr (a1)) (h1 : inr (a2)) (h2 : inr (a3)) (h3 : 0 ≤ (a1) ∧ (a1) ≤ 15) (h4 : 0 ≤ (a2) ∧ (a2) ≤ (a3) ∧ (a3) ≤ (n1) ∧ (n1) ≤ 65536) (k : ∀ (z : Int) (σ : rS) (F' : hF) (A' : hA), HW V225 σ D N F' A' → OUT (V225).length D N σE c s D N σ c s → SF [(0, 11)] F F' → SA [] A A' → ∀ y0_11 : Int, F' 0 11 = y0_11 → (inr (z)) → ((z) = -1 ∨ (a2) ≤ (z) ∧ (z) ≤ (a3)) → (0 ≤ (y0_11) ∧ (y0_11) ≤ 17000000) → Q (some (I z)) σ c s) : Ew 225 (d + 0) 0 (rargs 0 [.ref (D 0), I a1, I a2, I a3]) [] σE c s Q := by
  have O := OUT_refl (n := (V225).length) (D := D) (N := N) (σ := σE) (c := c) (s := s)
  have HE := H
  have r1 : (-2147483648 : Int) ≤ u0_11 ∧ u0_11 ≤ 2147483647 := by have h1 : (-2147483648 : Int) ≤ F 0 11 ∧ F 0 11 ≤ 2147483647 := H.krg 0 11 (by decide); rw [show F 0 11 = u0_11 from (eu0_11)] at h1; exact h1
  have r2 : (0 : Int) ≤ n1 ∧ n1 ≤ 1000000 := by have h1 := H.nle 1 (by decide); have h2 : (N 1 : Int) = n1 := en1; omega
  refine Ew_of (pc' := 1) (fun _ => x_aload_n rfl rfl) ?_
  refine Ew_of (pc' := 2) (fun _ => x_iload_n rfl rfl) ?_
  refine v_p H (o := 0) (z := a1) (v := I (a1)) rfl rfl rfl rfl rfl rfl rfl rfl (show (-2147483648 : Int) ≤ a1 ∧ a1 ≤ 2147483647 by omega) (fun σ H O' => ?_)
  have O := OUT_trans O O'
  refine Ew_of (pc' := 6) (fun _ => x_iload_n rfl rfl) ?_
  refine Ew_of (pc' := 8) (fun _ => x_bipush (z := 15) rfl (by decide)) ?_
  refine w_icmpge (t := 13) rfl rfl (show inr (a1) by omega) (show inr (15) by omega) (fun b3 => ?_) (fun b3 => ?_)
  · refine Ew_of (pc' := 14) (fun _ => x_iload_n rfl rfl) ?_
    refine Ew_of (pc' := 16) (fun _ => x_istore rfl) ?_
    suffices hl16 : ∀ (m : Nat), ∀ (ls : rO) (σ : rS) (F_16 : hF) (A_16 : hA) (x16_4 : Int), rlook ls 0 = some (.ref (D 0)) → rlook ls 3 = some (I (a3)) → rlook ls 4 = some (I (x16_4)) → HW V225 σ D N F_16 A_16 → OUT (V225).length D N σE c s D N σ c s → SF [(0, 11)] (updF F 0 11 (a1)) F_16 → SA [] A A_16 → ∀ y16_0_11 : Int, F_16 0 11 = y16_0_11 → (inr (x16_4)) → ((a2) ≤ (x16_4)) → ((x16_4) ≤ (a2) ∨ (x16_4) ≤ ((a3))) → (0 ≤ (y16_0_11) ∧ (y16_0_11) ≤ 15 + 255 * ((x16_4) - (a2))) → (((a3)) - (x16_4)).toNat = m → Ew 225 (d + 0) 16 ls [] σ c s Q from
      hl16 _ _ _ _ _ (a2) (rk_o (rfl) rfl rfl) (rk_o (rfl) rfl rfl) (rk_s) H O (SF_refl) (SA_refl)   (a1) (rfl)  (show inr (a2) by omega) (show (a2) ≤ (a2) by omega) (show (a2) ≤ (a2) ∨ (a2) ≤ ((a3)) by omega) (show 0 ≤ (a1) ∧ (a1) ≤ 15 + 255 * ((a2) - (a2)) by omega) rfl
    as_aux_lemma =>
    intro m
    induction m using Nat.strongRecOn with
    | _ m ih16 =>
      intro ls σ F_16 A_16 x16_4 l16_0 l16_3 l16_4 H O hS_16 hA_16   y16_0_11 ey16_0_11  j16_0 j16_1 j16_2 j16_3 hm16
      have r4 : (-2147483648 : Int) ≤ y16_0_11 ∧ y16_0_11 ≤ 2147483647 := by have h1 : (-2147483648 : Int) ≤ F_16 0 11 ∧ F_16 0 11 ≤ 2147483647 := H.krg 0 11 (by decide); rw [show F_16 0 11 = y16_0_11 from (ey16_0_11)] at h1; exact h1
      refine Ew_of (pc' := 18) (fun _ => x_iload rfl l16_4) ?_
      refine Ew_of (pc' := 19) (fun _ => x_iload_n rfl l16_3) ?_
      refine w_icmpge (t := 65) rfl rfl (show inr (x16_4) by omega) (show inr (a3) by omega) (fun b5 => ?_) (fun b5 => ?_)
      · refine Ew_of (pc' := 66) (fun _ => x_iconst rfl) ?_
        exact w_ireturn rfl (k ((-1)) _ _ _ H O (SF_trans (SF_upd (SF_refl) rfl) hS_16 (any_sub rfl)) (SA_trans (SA_refl) hA_16 (any_subA rfl)) (y16_0_11) ((ey16_0_11)) (show inr ((-1)) by omega) (show ((-1)) = -1 ∨ a2 ≤ ((-1)) ∧ ((-1)) ≤ a3 by omega) (show 0 ≤ (y16_0_11) ∧ (y16_0_11) ≤ 17000000 by omega))
      · refine Ew_of (pc' := 23) (fun _ => x_aload_n rfl l16_0) ?_
        refine v_g H (o := 0) (v := .ref (D 1)) rfl rfl rfl rfl rfl (vrf (((hS_16 0 4 rfl)).trans (pf1))) ?_
        refine Ew_of (pc' := 28) (fun _ => x_iload rfl l16_4) ?_
        refine v_lB H (o := 1) rfl rfl rfl rfl (n := n1) (en1) (show 0 ≤ x16_4 ∧ x16_4 < n1 by omega) (fun v6 ev6 qv6 => ?_)
        have ev6 : (A 1) (x16_4) = v6 := (congrFun (funext (hA_16 1 rfl)) (x16_4)).symm.trans ev6
        refine Ew_of (pc' := 32) (fun _ => x_sipush (z := 255) rfl (by decide)) ?_
        refine w_iand rfl (show inr (v6) by omega) (show inr (255) by omega) (fun z7 gz7 gaz7 gbz7 => ?_)
        refine Ew_of (pc' := 35) (fun _ => x_istore rfl) ?_
        refine Ew_of (pc' := 36) (fun _ => x_aload_n rfl (rk_o (l16_0) rfl rfl)) ?_
        refine Ew_of (pc' := 37) (fun _ => x_dup rfl rfl) ?_
        refine v_g H (o := 0) (v := I (y16_0_11)) rfl rfl rfl rfl rfl (congrArg (fun z : Int => I z) ((ey16_0_11) : F_16 0 11 = y16_0_11)) ?_
        refine Ew_of (pc' := 42) (fun _ => x_iload rfl rk_s) ?_
        refine w_iadd rfl ?_
        refine v_p H (o := 0) (z := (y16_0_11 + z7)) (v := I ((y16_0_11 + z7))) rfl rfl rfl rfl rfl rfl rfl rfl (show (-2147483648 : Int) ≤ (y16_0_11 + z7) ∧ (y16_0_11 + z7) ≤ 2147483647 by omega) (fun σ H O' => ?_)
        have O := OUT_trans O O'
        refine Ew_of (pc' := 48) (fun _ => x_iload rfl rk_s) ?_
        refine Ew_of (pc' := 51) (fun _ => x_sipush (z := 255) rfl (by decide)) ?_
        refine w_icmpge (t := 59) rfl rfl (show inr (z7) by omega) (show inr (255) by omega) (fun b8 => ?_) (fun b8 => ?_)
        · refine Ew_of (pc' := 62) (fun _ => x_iinc (len := 3) rfl (rk_o (l16_4) rfl rfl)) ?_
          refine Ew_of (pc' := 16) (fun _ => x_goto rfl rfl) ?_
          exact ih16 _ (by omega) _ _ _ _ ((x16_4 + 1)) (rk_o (rk_o (l16_0) rfl rfl) rfl rfl) (rk_o (rk_o (l16_3) rfl rfl) rfl rfl) (rk_s) H O (SF_upd (hS_16) rfl) (hA_16)   ((y16_0_11 + z7)) (rfl)  (show inr ((x16_4 + 1)) by omega) (show (a2) ≤ ((x16_4 + 1)) by omega) (show ((x16_4 + 1)) ≤ (a2) ∨ ((x16_4 + 1)) ≤ ((a3)) by omega) (show 0 ≤ ((y16_0_11 + z7)) ∧ ((y16_0_11 + z7)) ≤ 15 + 255 * (((x16_4 + 1)) - (a2)) by omega) rfl
        · refine Ew_of (pc' := 56) (fun _ => x_iload rfl (rk_o (l16_4) rfl rfl)) ?_
          refine Ew_of (pc' := 57) (fun _ => x_iconst rfl) ?_
          refine w_iadd rfl ?_
          exact w_ireturn rfl (k ((x16_4 + 1)) _ _ _ H O (SF_upd (SF_trans (SF_upd (SF_refl) rfl) hS_16 (any_sub rfl)) rfl) (SA_trans (SA_refl) hA_16 (any_subA rfl)) ((y16_0_11 + z7)) (rfl) (show inr ((x16_4 + 1)) by omega) (show ((x16_4 + 1)) = -1 ∨ a2 ≤ ((x16_4 + 1)) ∧ ((x16_4 + 1)) ≤ a3 by omega) (show 0 ≤ ((y16_0_11 + z7)) ∧ ((y16_0_11 + z7)) ≤ 17000000 by omega))
  · refine Ew_of (pc' := 12) (fun _ => x_iload_n rfl rfl) ?_
    exact w_ireturn rfl (k (a2) _ _ _ H O (SF_upd (SF_refl) rfl) (SA_refl) (a1) (rfl) (show inr (a2) by omega) (show (a2) = -1 ∨ a2 ≤ (a2) ∧ (a2) ≤ a3 by omega) (show 0 ≤ (a1) ∧ (a1) ≤ 17000000 by omega))
abbrev V224 : vV := [(0, 11, [(4, 0), (4, 0), (4, 0), (4, 0), (4, 0), (0, 0), (4, 0), (0, 0), (0, 0), (0, 0), (0, 0), (0, 0), (0, 0)]), (1, 0, []), (0, 7, [(4, 0), (0, 0), (1, 0), (0, 0), (0, 0)]), (1, 0, []), (0, 7, [(4, 0), (0, 0), (1, 0), (0, 0), (0, 0)]), (1, 0, [])]
/-- Tokens.unpackBlock: this, this.in, this.result, this.result.bytes, this.past, this.past.bytes -/
theorem C224 {σE : rS} {D N : Nat → Nat} {F : hF} {A : hA} {d c s : Nat} {Q : wQ} (H : HW V224 σE D N F A) {a1 a2 a3 a4 : Int} (pf1 : F 0 4 = (D 1 : Int)) (pf2 : F 0 6 = (D 2 : Int)) (pf3 : F 2 0 = (D 3 : Int)) (pf4 : F 0 1 = (D 4 : Int)) (pf5 : F 4 0 = (D 5 : Int)) (n1 : Int) (en1 : (N 1 : Int) = n1) (n3 : Int) (en3 : (N 3 : Int) = n3) (n5 : Int) (en5 : (N 5 : Int) = n5) (u2_1 : Int) (eu2_1 : F 2 1 = u2_1) (u4_1 : Int) (eu4_1 : F 4 1 = u4_1) (h0 : inr (a1)) (h1 : inr (a2)) (h2 : inr (a3)) (h3 : inr (a4)) (h4 : 0 ≤ (a1) ∧ (a1) ≤ (a2) ∧ (a2) ≤ (n1) ∧ (n1) ≤ 65536) (h5 : 0 ≤ (u2_1) ∧ (u2_1) ≤ (n3) ∧ (n3) ≤ 65536) (h6 : 0 ≤ (u4_1) ∧ (u4_1) ≤ (n5) ∧ (n5) ≤ 65536) (h7 : 0 ≤ (a3) ∧ (a3) ≤ (u2_1)) (h8 : 0 ≤ (a4) ∧ (a4) ≤ 65536) (k : ∀ (z : Int) (σ : rS) (D' N' : Nat → Nat) (F' : hF) (A' : hA) (c' s' : Nat), HW V224 σ D' N' F' A' → OUT (V224).length D N σE c s D' N' σ c' s' → SD [3] D D' → SD [3] N N' → SF [(0, 11), (0, 12), (2, 0), (2, 1), (2, 2)] F F' → SA [3] A A' → F' 2 0 = (D' 3 : Int) → ∀ m3 : Int, (N' 3 : Int) = m3 → ∀ y2_1 : Int, F' 2 1 = y2_1 → (inr (z)) → (0 ≤ (z) ∧ (z) ≤ 3) → (0 ≤ (y2_1) ∧ (y2_1) ≤ (m3) ∧ (m3) ≤ 65536) → ((u2_1) ≤ (y2_1)) → ((y2_1) ≤ (a4) ∨ (y2_1) = (u2_1)) → Q (some (I z)) σ c' s') : Ew 224 (d + 3) 0 (rargs 0 [.ref (D 0), I a1, I a2, I a3, I a4]) [] σE c s Q := by
  have O := OUT_refl (n := (V224).length) (D := D) (N := N) (σ := σE) (c := c) (s := s)
  have HE := H
  have r1 : (-2147483648 : Int) ≤ u2_1 ∧ u2_1 ≤ 2147483647 := by have h1 : (-2147483648 : Int) ≤ F 2 1 ∧ F 2 1 ≤ 2147483647 := H.krg 2 1 (by decide); rw [show F 2 1 = u2_1 from (eu2_1)] at h1; exact h1
  have r2 : (-2147483648 : Int) ≤ u4_1 ∧ u4_1 ≤ 2147483647 := by have h1 : (-2147483648 : Int) ≤ F 4 1 ∧ F 4 1 ≤ 2147483647 := H.krg 4 1 (by decide); rw [show F 4 1 = u4_1 from (eu4_1)] at h1; exact h1
  have r3 : (0 : Int) ≤ n1 ∧ n1 ≤ 1000000 := by have h1 := H.nle 1 (by decide); have h2 : (N 1 : Int) = n1 := en1; omega
  have r4 : (0 : Int) ≤ n3 ∧ n3 ≤ 1000000 := by have h1 := H.nle 3 (by decide); have h2 : (N 3 : Int) = n3 := en3; omega
  have r5 : (0 : Int) ≤ n5 ∧ n5 ≤ 1000000 := by have h1 := H.nle 5 (by decide); have h2 : (N 5 : Int) = n5 := en5; omega
  refine Ew_of (pc' := 1) (fun _ => x_iload_n rfl rfl) ?_
  refine Ew_of (pc' := 3) (fun _ => x_istore rfl) ?_
  refine Ew_of (pc' := 4) (fun _ => x_iload_n rfl (rk_o (rfl) rfl rfl)) ?_
  refine Ew_of (pc' := 6) (fun _ => x_istore rfl) ?_
  suffices hl6 : ∀ (m : Nat), ∀ (ls : rO) (σ : rS) (D_6 N_6 : Nat → Nat) (c_6 s_6 : Nat) (F_6 : hF) (A_6 : hA) (x6_5 : Int) (x6_6 : Int), rlook ls 0 = some (.ref (D_6 0)) → rlook ls 2 = some (I (a2)) → rlook ls 3 = some (I (a3)) → rlook ls 4 = some (I (a4)) → rlook ls 5 = some (I (x6_5)) → rlook ls 6 = some (I (x6_6)) → HW V224 σ D_6 N_6 F_6 A_6 → OUT (V224).length D N σE c s D_6 N_6 σ c_6 s_6 → SD [3] D D_6 → SD [3] N N_6 → SF [(0, 11), (2, 0), (2, 1), (2, 2)] F F_6 → SA [3] A A_6 → F_6 2 0 = (D_6 3 : Int) → ∀ m6_3 : Int, (N_6 3 : Int) = m6_3 → ∀ y6_2_1 : Int, F_6 2 1 = y6_2_1 → (inr (x6_5)) → (inr (x6_6)) → ((a1) ≤ (x6_6)) → ((x6_6) ≤ (a1) ∨ (x6_6) ≤ (((a2) + 1))) → (0 ≤ (x6_5) ∧ (x6_5) ≤ (a2)) → (0 ≤ (y6_2_1) ∧ (y6_2_1) ≤ (m6_3) ∧ (m6_3) ≤ 65536) → ((u2_1) ≤ (y6_2_1)) → ((y6_2_1) ≤ (a4) ∨ (y6_2_1) = (u2_1)) → ((((a2) + 1)) - (x6_6)).toNat = m → Ew 224 (d + 3) 6 ls [] σ c_6 s_6 Q from
    hl6 _ _ _ _ _ _ _ _ _ (a1) (a1) (rk_o (rk_o (rfl) rfl rfl) rfl rfl) (rk_o (rk_o (rfl) rfl rfl) rfl rfl) (rk_o (rk_o (rfl) rfl rfl) rfl rfl) (rk_o (rk_o (rfl) rfl rfl) rfl rfl) (rk_o (rk_s) rfl rfl) (rk_s) H O (SD_refl) (SD_refl) (SF_refl) (SA_refl) (pf3) (n3) (en3) (u2_1) ((eu2_1))  (show inr (a1) by omega) (show inr (a1) by omega) (show (a1) ≤ (a1) by omega) (show (a1) ≤ (a1) ∨ (a1) ≤ (((a2) + 1)) by omega) (show 0 ≤ (a1) ∧ (a1) ≤ (a2) by omega) (show 0 ≤ (u2_1) ∧ (u2_1) ≤ (n3) ∧ (n3) ≤ 65536 by omega) (show (u2_1) ≤ (u2_1) by omega) (show (u2_1) ≤ (a4) ∨ (u2_1) = (u2_1) by omega) rfl
  as_aux_lemma =>
  intro m
  induction m using Nat.strongRecOn with
  | _ m ih6 =>
    intro ls σ D_6 N_6 c_6 s_6 F_6 A_6 x6_5 x6_6 l6_0 l6_2 l6_3 l6_4 l6_5 l6_6 H O hD_6 hN_6 hS_6 hA_6 pm6_3 m6_3 em6_3 y6_2_1 ey6_2_1  j6_0 j6_1 j6_2 j6_3 j6_4 j6_5 j6_6 j6_7 hm6
    have pf_6_0_1 : F_6 0 1 = (D_6 4 : Int) := (hS_6 0 1 rfl).trans ((pf4).trans (congrArg (fun q : Nat => (q : Int)) (hD_6 4 rfl).symm))
    have pf_6_0_4 : F_6 0 4 = (D_6 1 : Int) := (hS_6 0 4 rfl).trans ((pf1).trans (congrArg (fun q : Nat => (q : Int)) (hD_6 1 rfl).symm))
    have pf_6_0_6 : F_6 0 6 = (D_6 2 : Int) := (hS_6 0 6 rfl).trans ((pf2).trans (congrArg (fun q : Nat => (q : Int)) (hD_6 2 rfl).symm))
    have pf_6_4_0 : F_6 4 0 = (D_6 5 : Int) := (hS_6 4 0 rfl).trans ((pf5).trans (congrArg (fun q : Nat => (q : Int)) (hD_6 5 rfl).symm))
    have r6 : (0 : Int) ≤ m6_3 ∧ m6_3 ≤ 1000000 := by have h1 := H.nle 3 (by decide); have h2 : (N_6 3 : Int) = m6_3 := em6_3; omega
    have r7 : (-2147483648 : Int) ≤ y6_2_1 ∧ y6_2_1 ≤ 2147483647 := by have h1 : (-2147483648 : Int) ≤ F_6 2 1 ∧ F_6 2 1 ≤ 2147483647 := H.krg 2 1 (by decide); rw [show F_6 2 1 = y6_2_1 from (ey6_2_1)] at h1; exact h1
    refine Ew_of (pc' := 8) (fun _ => x_iload rfl l6_6) ?_
    refine Ew_of (pc' := 9) (fun _ => x_iload_n rfl l6_2) ?_
    refine w_icmpgt (t := 302) rfl rfl (show inr (x6_6) by omega) (show inr (a2) by omega) (fun b8 => ?_) (fun b8 => ?_)
    · refine Ew_of (pc' := 303) (fun _ => x_aload_n rfl l6_0) ?_
      refine Ew_of (pc' := 304) (fun _ => x_iconst rfl) ?_
      refine Ew_of (pc' := 305) (fun _ => x_iload_n rfl l6_2) ?_
      have r9 : (-2147483648 : Int) ≤ F 0 12 ∧ F 0 12 ≤ 2147483647 := by have h1 : (-2147483648 : Int) ≤ F_6 0 12 ∧ F_6 0 12 ≤ 2147483647 := H.krg 0 12 (by decide); rw [show F_6 0 12 = F 0 12 from (hS_6 0 12 rfl)] at h1; exact h1
      refine v_inv H (o := 0) rfl rfl rfl rfl rfl rfl (by rfl) (C221 (D := pul [0] D_6) (N := pul [0] N_6) (HW_sub H (VS_of (show vsub V224 V221 [0] = true by decide +kernel))) (F 0 12) ((hS_6 0 12 rfl)) (show inr (1) by omega) (show inr (a2) by omega) (fun z10 σ10 F10' A10' H' O' hS10 hA10 y10_0_12 ey10_0_12 pz10_0 pz10_1 pz10_2 => ⟨rfl, ?_⟩))
      refine v_back (c := c_6) (s := s_6) H (show vsub V224 V221 [0] = true by decide +kernel) H' O' (fun F10 A10 H O' eF10 eA10 => ?_)
      have O := OUT_trans O O'
      -- Tokens.fail
      have r11 : (-2147483648 : Int) ≤ y10_0_12 ∧ y10_0_12 ≤ 2147483647 := by have h1 : (-2147483648 : Int) ≤ F10 0 12 ∧ F10 0 12 ≤ 2147483647 := H.krg 0 12 (by decide); rw [show F10 0 12 = y10_0_12 from ((eF10 0 12).trans ey10_0_12)] at h1; exact h1
      exact w_ireturn rfl (k (z10) _ _ _ _ _ _ _ H O (SD_trans (SD_refl) hD_6 (any_subA rfl)) (SD_trans (SD_refl) hN_6 (any_subA rfl)) (SF_trans (SF_trans (SF_refl) hS_6 (any_sub rfl)) (SF_glu (ι := [0]) hS10 eF10 (by decide +kernel)) (any_sub (l' := [(0, 12)]) rfl)) (SA_trans (SA_trans (SA_refl) hA_6 (any_subA rfl)) (SA_glu (ι := [0]) hA10 eA10 (by decide +kernel)) (any_subA (l' := []) rfl)) ((((show F10 2 0 = F_6 2 0 from (eF10 2 0)))).trans (pm6_3)) (m6_3) (em6_3) (y6_2_1) ((((show F10 2 1 = F_6 2 1 from (eF10 2 1))).trans (ey6_2_1))) (show inr (z10) by omega) (show 0 ≤ (z10) ∧ (z10) ≤ 3 by omega) (show 0 ≤ (y6_2_1) ∧ (y6_2_1) ≤ (m6_3) ∧ (m6_3) ≤ 65536 by omega) (show (u2_1) ≤ (y6_2_1) by omega) (show (y6_2_1) ≤ a4 ∨ (y6_2_1) = (u2_1) by omega))
    · refine Ew_of (pc' := 14) (fun _ => x_iload rfl l6_5) ?_
      refine Ew_of (pc' := 15) (fun _ => x_iload_n rfl l6_2) ?_
      refine w_icmplt (t := 25) rfl rfl (show inr (x6_5) by omega) (show inr (a2) by omega) (fun b12 => ?_) (fun b12 => ?_)
      · refine Ew_of (pc' := 26) (fun _ => x_aload_n rfl l6_0) ?_
        refine v_g H (o := 0) (v := .ref (D_6 1)) rfl rfl rfl rfl rfl (vrf (pf_6_0_4)) ?_
        refine Ew_of (pc' := 31) (fun _ => x_iload rfl l6_5) ?_
        refine v_lB H (o := 1) rfl rfl rfl rfl (n := n1) ((congrArg (fun q : Nat => (q : Int)) (hN_6 1 rfl)).trans (en1)) (show 0 ≤ x6_5 ∧ x6_5 < n1 by omega) (fun v13 ev13 qv13 => ?_)
        have ev13 : (A 1) (x6_5) = v13 := (congrFun (funext (hA_6 1 rfl)) (x6_5)).symm.trans ev13
        refine Ew_of (pc' := 35) (fun _ => x_sipush (z := 255) rfl (by decide)) ?_
        refine w_iand rfl (show inr (v13) by omega) (show inr (255) by omega) (fun z14 gz14 gaz14 gbz14 => ?_)
        refine Ew_of (pc' := 38) (fun _ => x_istore rfl) ?_
        refine Ew_of (pc' := 39) (fun _ => x_aload_n rfl (rk_o (l6_0) rfl rfl)) ?_
        refine Ew_of (pc' := 41) (fun _ => x_iload rfl rk_s) ?_
        refine Ew_of (pc' := 42) (fun _ => x_iconst rfl) ?_
        refine w_ishrK 4 16 (by decide) (by decide) rfl (show inr (z14) by omega) (fun z15 gz15 dz15 => ?_)
        refine Ew_of (pc' := 45) (fun _ => x_iload rfl (rk_o (l6_5) rfl rfl)) ?_
        refine Ew_of (pc' := 46) (fun _ => x_iconst rfl) ?_
        refine w_iadd rfl ?_
        refine Ew_of (pc' := 48) (fun _ => x_iload_n rfl (rk_o (l6_2) rfl rfl)) ?_
        have r16 : (-2147483648 : Int) ≤ F_6 0 11 ∧ F_6 0 11 ≤ 2147483647 := by have h1 : (-2147483648 : Int) ≤ F_6 0 11 ∧ F_6 0 11 ≤ 2147483647 := H.krg 0 11 (by decide); rw [show F_6 0 11 = F_6 0 11 from rfl] at h1; exact h1
        refine v_inv H (o := 0) rfl rfl rfl rfl rfl rfl (by rfl) (C225 (D := pul [0, 1] D_6) (N := pul [0, 1] N_6) (HW_sub H (VS_of (show vsub V224 V225 [0, 1] = true by decide +kernel))) (pf_6_0_4) (n1) ((congrArg (fun q : Nat => (q : Int)) (hN_6 1 rfl)).trans (en1)) (F_6 0 11) (rfl) (show inr (z15) by omega) (show inr ((x6_5 + 1)) by omega) (show inr (a2) by omega) (show 0 ≤ (z15) ∧ (z15) ≤ 15 by omega) (show 0 ≤ ((x6_5 + 1)) ∧ ((x6_5 + 1)) ≤ (a2) ∧ (a2) ≤ (n1) ∧ (n1) ≤ 65536 by omega) (fun z17 σ17 F17' A17' H' O' hS17 hA17 y17_0_11 ey17_0_11 pz17_0 pz17_1 pz17_2 => ⟨rfl, ?_⟩))
        refine v_back (c := c_6) (s := s_6) H (show vsub V224 V225 [0, 1] = true by decide +kernel) H' O' (fun F17 A17 H O' eF17 eA17 => ?_)
        have O := OUT_trans O O'
        -- Tokens.addUp
        have r18 : (-2147483648 : Int) ≤ y17_0_11 ∧ y17_0_11 ≤ 2147483647 := by have h1 : (-2147483648 : Int) ≤ F17 0 11 ∧ F17 0 11 ≤ 2147483647 := H.krg 0 11 (by decide); rw [show F17 0 11 = y17_0_11 from ((eF17 0 11).trans ey17_0_11)] at h1; exact h1
        refine Ew_of (pc' := 53) (fun _ => x_istore rfl) ?_
        refine Ew_of (pc' := 54) (fun _ => x_iload_n rfl (rk_o (rk_o (l6_2) rfl rfl) rfl rfl)) ?_
        refine Ew_of (pc' := 56) (fun _ => x_iload rfl rk_s) ?_
        refine w_isub rfl ?_
        refine Ew_of (pc' := 59) (fun _ => x_iload rfl (rk_o (rk_o (l6_4) rfl rfl) rfl rfl)) ?_
        refine Ew_of (pc' := 60) (fun _ => x_aload_n rfl (rk_o (rk_o (l6_0) rfl rfl) rfl rfl)) ?_
        refine v_g H (o := 0) (v := .ref (D_6 2)) rfl rfl rfl rfl rfl (vrf ((((show F17 0 6 = F_6 0 6 from (eF17 0 6).trans (hS17 0 6 rfl)))).trans (pf_6_0_6))) ?_
        refine v_g H (o := 2) (v := I (y6_2_1)) rfl rfl rfl rfl rfl (congrArg (fun z : Int => I z) ((((show F17 2 1 = F_6 2 1 from (eF17 2 1))).trans (ey6_2_1)) : F17 2 1 = y6_2_1)) ?_
        refine w_isub rfl ?_
        refine v_min rfl rfl (show inr ((a2 - z17)) by omega) (show inr ((a4 - y6_2_1)) by omega) (fun z19 gz19 => ?_)
        refine Ew_of (pc' := 72) (fun _ => x_istore rfl) ?_
        refine Ew_of (pc' := 74) (fun _ => x_iload rfl (rk_o (rk_s) rfl rfl)) ?_
        have hc86 : ∀ (ls : rO) (σ : rS) (F_c86 : hF) (A_c86 : hA) , rlook ls 0 = some (.ref (D_6 0)) → rlook ls 2 = some (I (a2)) → rlook ls 5 = some (I (z17)) → rlook ls 8 = some (I (z19)) → HW V224 σ D_6 N_6 F_c86 A_c86 → OUT (V224).length D N σE c s D_6 N_6 σ c_6 s_6 → SF [] F17 F_c86 → SA [] A17 A_c86 → (((z17) < (0)) ∨ ((z17) ≥ (0) ∧ (y17_0_11) > (z19))) → Ew 224 (d + 3) 86 ls [] σ c_6 s_6 Q := by
         as_aux_lemma =>
          intro  ls σ F_c86 A_c86  lc86_0 lc86_2 lc86_5 lc86_8 H O hS_c86 hA_c86     jc86_0
          refine Ew_of (pc' := 88) (fun _ => x_iload rfl lc86_5) ?_
          have hc100 : ∀ (ls : rO) (σ : rS) (F_c100 : hF) (A_c100 : hA) , rlook ls 0 = some (.ref (D_6 0)) → rlook ls 2 = some (I (a2)) → HW V224 σ D_6 N_6 F_c100 A_c100 → OUT (V224).length D N σE c s D_6 N_6 σ c_6 s_6 → SF [] F_c86 F_c100 → SA [] A_c86 A_c100 → (((z17) < (0)) ∨ ((z17) ≥ (0) ∧ (z19) = ((a2 - z17)))) → Ew 224 (d + 3) 100 ls [] σ c_6 s_6 Q := by
           as_aux_lemma =>
            intro  ls σ F_c100 A_c100  lc100_0 lc100_2 H O hS_c100 hA_c100     jc100_0
            refine Ew_of (pc' := 101) (fun _ => x_aload_n rfl lc100_0) ?_
            refine Ew_of (pc' := 102) (fun _ => x_iconst rfl) ?_
            refine Ew_of (pc' := 103) (fun _ => x_iload_n rfl lc100_2) ?_
            have r20 : (-2147483648 : Int) ≤ F 0 12 ∧ F 0 12 ≤ 2147483647 := by have h1 : (-2147483648 : Int) ≤ F_c100 0 12 ∧ F_c100 0 12 ≤ 2147483647 := H.krg 0 12 (by decide); rw [show F_c100 0 12 = F 0 12 from ((((hS_c100 0 12 rfl).trans (hS_c86 0 12 rfl)).trans ((show F17 0 12 = F_6 0 12 from (eF17 0 12).trans (hS17 0 12 rfl)))).trans (hS_6 0 12 rfl))] at h1; exact h1
            refine v_inv H (o := 0) rfl rfl rfl rfl rfl rfl (by rfl) (C221 (D := pul [0] D_6) (N := pul [0] N_6) (HW_sub H (VS_of (show vsub V224 V221 [0] = true by decide +kernel))) (F 0 12) (((((hS_c100 0 12 rfl).trans (hS_c86 0 12 rfl)).trans ((show F17 0 12 = F_6 0 12 from (eF17 0 12).trans (hS17 0 12 rfl)))).trans (hS_6 0 12 rfl))) (show inr (1) by omega) (show inr (a2) by omega) (fun z21 σ21 F21' A21' H' O' hS21 hA21 y21_0_12 ey21_0_12 pz21_0 pz21_1 pz21_2 => ⟨rfl, ?_⟩))
            refine v_back (c := c_6) (s := s_6) H (show vsub V224 V221 [0] = true by decide +kernel) H' O' (fun F21 A21 H O' eF21 eA21 => ?_)
            have O := OUT_trans O O'
            -- Tokens.fail
            have r22 : (-2147483648 : Int) ≤ y21_0_12 ∧ y21_0_12 ≤ 2147483647 := by have h1 : (-2147483648 : Int) ≤ F21 0 12 ∧ F21 0 12 ≤ 2147483647 := H.krg 0 12 (by decide); rw [show F21 0 12 = y21_0_12 from ((eF21 0 12).trans ey21_0_12)] at h1; exact h1
            refine Ew_of (pc' := 119) (fun _ => x_goto rfl rfl) ?_
            exact w_ireturn rfl (k (z21) _ _ _ _ _ _ _ H O (SD_trans (SD_refl) hD_6 (any_subA rfl)) (SD_trans (SD_refl) hN_6 (any_subA rfl)) (SF_trans (SF_trans (SF_trans (SF_trans (SF_trans (SF_refl) hS_6 (any_sub rfl)) (SF_glu (ι := [0, 1]) hS17 eF17 (by decide +kernel)) (any_sub (l' := [(0, 11)]) rfl)) hS_c86 (any_sub rfl)) hS_c100 (any_sub rfl)) (SF_glu (ι := [0]) hS21 eF21 (by decide +kernel)) (any_sub (l' := [(0, 12)]) rfl)) (SA_trans (SA_trans (SA_trans (SA_trans (SA_trans (SA_refl) hA_6 (any_subA rfl)) (SA_glu (ι := [0, 1]) hA17 eA17 (by decide +kernel)) (any_subA (l' := []) rfl)) hA_c86 (any_subA rfl)) hA_c100 (any_subA rfl)) (SA_glu (ι := [0]) hA21 eA21 (by decide +kernel)) (any_subA (l' := []) rfl)) (((((((show F21 2 0 = F_c100 2 0 from (eF21 2 0))).trans (hS_c100 2 0 rfl)).trans (hS_c86 2 0 rfl)).trans ((show F17 2 0 = F_6 2 0 from (eF17 2 0))))).trans (pm6_3)) (m6_3) (em6_3) (y6_2_1) (((((((show F21 2 1 = F_c100 2 1 from (eF21 2 1))).trans (hS_c100 2 1 rfl)).trans (hS_c86 2 1 rfl)).trans ((show F17 2 1 = F_6 2 1 from (eF17 2 1)))).trans (ey6_2_1))) (show inr (z21) by omega) (show 0 ≤ (z21) ∧ (z21) ≤ 3 by omega) (show 0 ≤ (y6_2_1) ∧ (y6_2_1) ≤ (m6_3) ∧ (m6_3) ≤ 65536 by omega) (show (u2_1) ≤ (y6_2_1) by omega) (show (y6_2_1) ≤ a4 ∨ (y6_2_1) = (u2_1) by omega))
          refine w_iflt (t := 100) rfl rfl (show inr (z17) by omega) (fun b23 => ?_) (fun b23 => ?_)
          · exact hc100  _ _ _ _  (lc86_0) (lc86_2) H O (SF_refl) (SA_refl)     (show ((z17) < (0)) ∨ ((z17) ≥ (0) ∧ (z19) = ((a2 - z17))) by omega)
          · refine Ew_of (pc' := 93) (fun _ => x_iload rfl lc86_8) ?_
            refine Ew_of (pc' := 94) (fun _ => x_iload_n rfl lc86_2) ?_
            refine Ew_of (pc' := 96) (fun _ => x_iload rfl lc86_5) ?_
            refine w_isub rfl ?_
            refine w_icmpne (t := 109) rfl rfl (show inr (z19) by omega) (show inr ((a2 - z17)) by omega) (fun b24 => ?_) (fun b24 => ?_)
            · refine Ew_of (pc' := 110) (fun _ => x_aload_n rfl lc86_0) ?_
              refine Ew_of (pc' := 111) (fun _ => x_iconst rfl) ?_
              refine Ew_of (pc' := 113) (fun _ => x_iload rfl lc86_5) ?_
              refine Ew_of (pc' := 115) (fun _ => x_iload rfl lc86_8) ?_
              refine w_iadd rfl ?_
              have r25 : (-2147483648 : Int) ≤ F 0 12 ∧ F 0 12 ≤ 2147483647 := by have h1 : (-2147483648 : Int) ≤ F_c86 0 12 ∧ F_c86 0 12 ≤ 2147483647 := H.krg 0 12 (by decide); rw [show F_c86 0 12 = F 0 12 from (((hS_c86 0 12 rfl).trans ((show F17 0 12 = F_6 0 12 from (eF17 0 12).trans (hS17 0 12 rfl)))).trans (hS_6 0 12 rfl))] at h1; exact h1
              refine v_inv H (o := 0) rfl rfl rfl rfl rfl rfl (by rfl) (C221 (D := pul [0] D_6) (N := pul [0] N_6) (HW_sub H (VS_of (show vsub V224 V221 [0] = true by decide +kernel))) (F 0 12) ((((hS_c86 0 12 rfl).trans ((show F17 0 12 = F_6 0 12 from (eF17 0 12).trans (hS17 0 12 rfl)))).trans (hS_6 0 12 rfl))) (show inr (3) by omega) (show inr ((z17 + z19)) by omega) (fun z26 σ26 F26' A26' H' O' hS26 hA26 y26_0_12 ey26_0_12 pz26_0 pz26_1 pz26_2 => ⟨rfl, ?_⟩))
              refine v_back (c := c_6) (s := s_6) H (show vsub V224 V221 [0] = true by decide +kernel) H' O' (fun F26 A26 H O' eF26 eA26 => ?_)
              have O := OUT_trans O O'
              -- Tokens.fail
              have r27 : (-2147483648 : Int) ≤ y26_0_12 ∧ y26_0_12 ≤ 2147483647 := by have h1 : (-2147483648 : Int) ≤ F26 0 12 ∧ F26 0 12 ≤ 2147483647 := H.krg 0 12 (by decide); rw [show F26 0 12 = y26_0_12 from ((eF26 0 12).trans ey26_0_12)] at h1; exact h1
              exact w_ireturn rfl (k (z26) _ _ _ _ _ _ _ H O (SD_trans (SD_refl) hD_6 (any_subA rfl)) (SD_trans (SD_refl) hN_6 (any_subA rfl)) (SF_trans (SF_trans (SF_trans (SF_trans (SF_refl) hS_6 (any_sub rfl)) (SF_glu (ι := [0, 1]) hS17 eF17 (by decide +kernel)) (any_sub (l' := [(0, 11)]) rfl)) hS_c86 (any_sub rfl)) (SF_glu (ι := [0]) hS26 eF26 (by decide +kernel)) (any_sub (l' := [(0, 12)]) rfl)) (SA_trans (SA_trans (SA_trans (SA_trans (SA_refl) hA_6 (any_subA rfl)) (SA_glu (ι := [0, 1]) hA17 eA17 (by decide +kernel)) (any_subA (l' := []) rfl)) hA_c86 (any_subA rfl)) (SA_glu (ι := [0]) hA26 eA26 (by decide +kernel)) (any_subA (l' := []) rfl)) ((((((show F26 2 0 = F_c86 2 0 from (eF26 2 0))).trans (hS_c86 2 0 rfl)).trans ((show F17 2 0 = F_6 2 0 from (eF17 2 0))))).trans (pm6_3)) (m6_3) (em6_3) (y6_2_1) ((((((show F26 2 1 = F_c86 2 1 from (eF26 2 1))).trans (hS_c86 2 1 rfl)).trans ((show F17 2 1 = F_6 2 1 from (eF17 2 1)))).trans (ey6_2_1))) (show inr (z26) by omega) (show 0 ≤ (z26) ∧ (z26) ≤ 3 by omega) (show 0 ≤ (y6_2_1) ∧ (y6_2_1) ≤ (m6_3) ∧ (m6_3) ≤ 65536 by omega) (show (u2_1) ≤ (y6_2_1) by omega) (show (y6_2_1) ≤ a4 ∨ (y6_2_1) = (u2_1) by omega))
            · exact hc100  _ _ _ _  (lc86_0) (lc86_2) H O (SF_refl) (SA_refl)     (show ((z17) < (0)) ∨ ((z17) ≥ (0) ∧ (z19) = ((a2 - z17))) by omega)
        refine w_iflt (t := 86) rfl rfl (show inr (z17) by omega) (fun b28 => ?_) (fun b28 => ?_)
        · exact hc86  _ _ _ _  (rk_o (rk_o (rk_o (l6_0) rfl rfl) rfl rfl) rfl rfl) (rk_o (rk_o (rk_o (l6_2) rfl rfl) rfl rfl) rfl rfl) (rk_o (rk_s) rfl rfl) (rk_s) H O (SF_refl) (SA_refl)     (show ((z17) < (0)) ∨ ((z17) ≥ (0) ∧ (y17_0_11) > (z19)) by omega)
        · refine Ew_of (pc' := 78) (fun _ => x_aload_n rfl (rk_o (rk_o (rk_o (l6_0) rfl rfl) rfl rfl) rfl rfl)) ?_
          refine v_g H (o := 0) (v := I (y17_0_11)) rfl rfl rfl rfl rfl (congrArg (fun z : Int => I z) (((eF17 0 11).trans ey17_0_11) : F17 0 11 = y17_0_11)) ?_
          refine Ew_of (pc' := 83) (fun _ => x_iload rfl rk_s) ?_
          refine w_icmple (t := 120) rfl rfl (show inr (y17_0_11) by omega) (show inr (z19) by omega) (fun b29 => ?_) (fun b29 => ?_)
          · refine Ew_of (pc' := 121) (fun _ => x_aload_n rfl (rk_o (rk_o (rk_o (l6_0) rfl rfl) rfl rfl) rfl rfl)) ?_
            refine v_g H (o := 0) (v := .ref (D_6 2)) rfl rfl rfl rfl rfl (vrf ((((show F17 0 6 = F_6 0 6 from (eF17 0 6).trans (hS17 0 6 rfl)))).trans (pf_6_0_6))) ?_
            refine Ew_of (pc' := 125) (fun _ => x_aload_n rfl (rk_o (rk_o (rk_o (l6_0) rfl rfl) rfl rfl) rfl rfl)) ?_
            refine v_g H (o := 0) (v := .ref (D_6 1)) rfl rfl rfl rfl rfl (vrf ((((show F17 0 4 = F_6 0 4 from (eF17 0 4).trans (hS17 0 4 rfl)))).trans (pf_6_0_4))) ?_
            refine Ew_of (pc' := 130) (fun _ => x_iload rfl (rk_o (rk_s) rfl rfl)) ?_
            refine Ew_of (pc' := 131) (fun _ => x_aload_n rfl (rk_o (rk_o (rk_o (l6_0) rfl rfl) rfl rfl) rfl rfl)) ?_
            refine v_g H (o := 0) (v := I (y17_0_11)) rfl rfl rfl rfl rfl (congrArg (fun z : Int => I z) (((eF17 0 11).trans ey17_0_11) : F17 0 11 = y17_0_11)) ?_
            have r30 : (0 : Int) ≤ F_6 2 2 ∧ F_6 2 2 ≤ 1 := by have h1 : (0 : Int) ≤ F17 2 2 ∧ F17 2 2 ≤ 1 := H.krg 2 2 (by decide); rw [show F17 2 2 = F_6 2 2 from ((show F17 2 2 = F_6 2 2 from (eF17 2 2)))] at h1; exact h1
            refine v_inv H (o := 2) rfl rfl rfl rfl rfl rfl (by rfl) (C161_Br (D := pul [2, 1, 3] D_6) (N := pul [2, 1, 3] N_6) (HW_sub H (VS_of (show vsub V224 V161_Br [2, 1, 3] = true by decide +kernel))) ((((show F17 2 0 = F_6 2 0 from (eF17 2 0)))).trans (pm6_3)) (n1) ((congrArg (fun q : Nat => (q : Int)) (hN_6 1 rfl)).trans (en1)) (m6_3) (em6_3) (y6_2_1) ((((show F17 2 1 = F_6 2 1 from (eF17 2 1))).trans (ey6_2_1))) (F_6 2 2) (((show F17 2 2 = F_6 2 2 from (eF17 2 2)))) (A 1) (((show A17 1 = A_6 1 from (eA17 1).trans (funext (hA17 1 rfl)))).trans (funext (hA_6 1 rfl))) (A_6 3) ((show A17 3 = A_6 3 from (eA17 3))) (show inr (z17) by omega) (show inr (y17_0_11) by omega) (show 0 ≤ (y6_2_1) ∧ (y6_2_1) ≤ (m6_3) ∧ (m6_3) ≤ 65536 by omega) (show (y17_0_11) < 0 ∨ 0 ≤ (z17) ∧ (z17) + (y17_0_11) ≤ (n1) by omega) (fun σ31 D31' N31' F31' A31' c31 s31 H' O' hD31 hN31 hS31 hA31 pm31_2 m31_2 em31_2 y31_0_1 ey31_0_1 y31_0_2 ey31_0_2 w31_2 ew31_2 pz31_0 pz31_1 pz31_2 pz31_3 => ⟨rfl, ?_⟩))
            refine v_backM (c := c_6) (s := s_6) H (show vsub V224 V161_Br [2, 1, 3] = true by decide +kernel) H' O' hD31 (show vmov V224 [2, 1, 3] [2] = true by decide +kernel) (fun D31 N31 F31 A31 H O' eD31 eN31 eF31 eA31 => ?_)
            have O := OUT_trans O O'
            -- Row.addPart
            have pf31_0_1 : F31 0 1 = (D31 4 : Int) := ((show F31 0 1 = F17 0 1 from (eF31 0 1))).trans (((((show F17 0 1 = F_6 0 1 from (eF17 0 1).trans (hS17 0 1 rfl)))).trans (pf_6_0_1)).trans (congrArg (fun q : Nat => (q : Int)) ((show D31 4 = D_6 4 from (eD31 4))).symm))
            have pf31_0_4 : F31 0 4 = (D31 1 : Int) := ((show F31 0 4 = F17 0 4 from (eF31 0 4))).trans (((((show F17 0 4 = F_6 0 4 from (eF17 0 4).trans (hS17 0 4 rfl)))).trans (pf_6_0_4)).trans (congrArg (fun q : Nat => (q : Int)) ((show D31 1 = D_6 1 from (eD31 1).trans (hD31 1 rfl))).symm))
            have pf31_0_6 : F31 0 6 = (D31 2 : Int) := ((show F31 0 6 = F17 0 6 from (eF31 0 6))).trans (((((show F17 0 6 = F_6 0 6 from (eF17 0 6).trans (hS17 0 6 rfl)))).trans (pf_6_0_6)).trans (congrArg (fun q : Nat => (q : Int)) ((show D31 2 = D_6 2 from (eD31 2).trans (hD31 0 rfl))).symm))
            have pf31_2_0 : F31 2 0 = (D31 3 : Int) := (eF31 2 0).trans (pm31_2.trans (congrArg (fun q : Nat => (q : Int)) (eD31 3).symm))
            have pf31_4_0 : F31 4 0 = (D31 5 : Int) := ((show F31 4 0 = F17 4 0 from (eF31 4 0))).trans (((((show F17 4 0 = F_6 4 0 from (eF17 4 0)))).trans (pf_6_4_0)).trans (congrArg (fun q : Nat => (q : Int)) ((show D31 5 = D_6 5 from (eD31 5))).symm))
            have r32 : (0 : Int) ≤ m31_2 ∧ m31_2 ≤ 1000000 := by have h1 := H.nle 3 (by decide); have h2 : (N31 3 : Int) = m31_2 := (congrArg (fun q : Nat => (q : Int)) (eN31 3)).trans em31_2; omega
            have r33 : (-2147483648 : Int) ≤ y31_0_1 ∧ y31_0_1 ≤ 2147483647 := by have h1 : (-2147483648 : Int) ≤ F31 2 1 ∧ F31 2 1 ≤ 2147483647 := H.krg 2 1 (by decide); rw [show F31 2 1 = y31_0_1 from ((eF31 2 1).trans ey31_0_1)] at h1; exact h1
            have r34 : (0 : Int) ≤ y31_0_2 ∧ y31_0_2 ≤ 1 := by have h1 : (0 : Int) ≤ F31 2 2 ∧ F31 2 2 ≤ 1 := H.krg 2 2 (by decide); rw [show F31 2 2 = y31_0_2 from ((eF31 2 2).trans ey31_0_2)] at h1; exact h1
            refine Ew_of (pc' := 139) (fun _ => x_iload rfl (rk_o (rk_s) rfl rfl)) ?_
            refine Ew_of (pc' := 140) (fun _ => x_aload_n rfl (rk_o (rk_o (rk_o (l6_0) rfl rfl) rfl rfl) rfl rfl)) ?_
            refine Ew_stk (show ([.ref (D_6 0), I (z17)] : List Value) = [.ref (D31 0), I (z17)] by rw [show D31 0 = D_6 0 from ((show D31 0 = D_6 0 from (eD31 0)))]) ?_
            refine v_g H (o := 0) (v := I (y17_0_11)) rfl rfl rfl rfl rfl (congrArg (fun z : Int => I z) ((((show F31 0 11 = F17 0 11 from (eF31 0 11))).trans ((eF17 0 11).trans ey17_0_11)) : F31 0 11 = y17_0_11)) ?_
            refine w_iadd rfl ?_
            refine Ew_of (pc' := 146) (fun _ => x_istore rfl) ?_
            refine Ew_of (pc' := 148) (fun _ => x_iload rfl rk_s) ?_
            refine Ew_of (pc' := 149) (fun _ => x_iload_n rfl (rk_o (rk_o (rk_o (rk_o (l6_2) rfl rfl) rfl rfl) rfl rfl) rfl rfl)) ?_
            refine w_icmpne (t := 154) rfl rfl (show inr ((z17 + y17_0_11)) by omega) (show inr (a2) by omega) (fun b35 => ?_) (fun b35 => ?_)
            · refine Ew_of (pc' := 155) (fun _ => x_iload_n rfl (rk_o (rk_o (rk_o (rk_o (l6_2) rfl rfl) rfl rfl) rfl rfl) rfl rfl)) ?_
              refine Ew_of (pc' := 157) (fun _ => x_iload rfl rk_s) ?_
              refine w_isub rfl ?_
              refine Ew_of (pc' := 159) (fun _ => x_iconst rfl) ?_
              refine w_icmpge (t := 169) rfl rfl (show inr ((a2 - (z17 + y17_0_11))) by omega) (show inr (2) by omega) (fun b36 => ?_) (fun b36 => ?_)
              · refine Ew_of (pc' := 171) (fun _ => x_iload rfl rk_s) ?_
                refine Ew_of (pc' := 173) (fun _ => x_istore rfl) ?_
                refine Ew_of (pc' := 174) (fun _ => x_aload_n rfl (rk_o (rk_o (rk_o (rk_o (rk_o (l6_0) rfl rfl) rfl rfl) rfl rfl) rfl rfl) rfl rfl)) ?_
                refine Ew_stk (show ([.ref (D_6 0)] : List Value) = [.ref (D31 0)] by rw [show D31 0 = D_6 0 from ((show D31 0 = D_6 0 from (eD31 0)))]) ?_
                refine v_g H (o := 0) (v := .ref (D31 1)) rfl rfl rfl rfl rfl (vrf (pf31_0_4)) ?_
                refine Ew_of (pc' := 179) (fun _ => x_iload rfl (rk_o (rk_s) rfl rfl)) ?_
                refine Ew_of (pc' := 180) (fun _ => x_iconst rfl) ?_
                refine w_stat25 rfl rfl (by rfl) (C42_Br (D := pul [1] D31) (N := pul [1] N31) (HW_sub H (VS_of (show vsub V224 V42_Br [1] = true by decide +kernel))) (n1) ((congrArg (fun q : Nat => (q : Int)) (show N31 1 = N_6 1 from (eN31 1).trans (hN31 1 rfl))).trans ((congrArg (fun q : Nat => (q : Int)) (hN_6 1 rfl)).trans (en1))) (show inr ((z17 + y17_0_11)) by omega) (show inr (2) by omega) (show (2) ≤ 0 ∨ 0 ≤ ((z17 + y17_0_11)) ∧ ((z17 + y17_0_11)) + (2) ≤ (n1) by omega) (show 0 ≤ (2) by omega) (fun z37 σ37 F37' A37' H' O' hS37 hA37 pz37_0 pz37_1 => ⟨rfl, ?_⟩))
                refine v_back (c := (c_6 + c31)) (s := (s_6 + s31)) H (show vsub V224 V42_Br [1] = true by decide +kernel) H' O' (fun F37 A37 H O' eF37 eA37 => ?_)
                have O := OUT_trans O O'
                -- PackHouse.number
                have hnb := nb2 pz37_1
                refine w_l2i rfl ?_
                refine Ew_of (pc' := 186) (fun _ => x_istore rfl) ?_
                refine Ew_of (pc' := 188) (fun _ => x_iload rfl rk_s) ?_
                refine w_ifeq (t := 213) rfl rfl (show inr (z37) by omega) (fun b38 => ?_) (fun b38 => ?_)
                · refine Ew_of (pc' := 214) (fun _ => x_aload_n rfl (rk_o (rk_o (rk_o (rk_o (rk_o (rk_o (l6_0) rfl rfl) rfl rfl) rfl rfl) rfl rfl) rfl rfl) rfl rfl)) ?_
                  refine Ew_of (pc' := 215) (fun _ => x_iconst rfl) ?_
                  refine Ew_of (pc' := 217) (fun _ => x_iload rfl (rk_o (rk_s) rfl rfl)) ?_
                  refine Ew_stk (show ([I ((z17 + y17_0_11)), I (2), .ref (D_6 0)] : List Value) = [I ((z17 + y17_0_11)), I (2), .ref (D31 0)] by rw [show D31 0 = D_6 0 from ((show D31 0 = D_6 0 from (eD31 0)))]) ?_
                  have r39 : (-2147483648 : Int) ≤ F 0 12 ∧ F 0 12 ≤ 2147483647 := by have h1 : (-2147483648 : Int) ≤ F37 0 12 ∧ F37 0 12 ≤ 2147483647 := H.krg 0 12 (by decide); rw [show F37 0 12 = F 0 12 from (((((show F37 0 12 = F31 0 12 from (eF37 0 12))).trans ((show F31 0 12 = F17 0 12 from (eF31 0 12)))).trans ((show F17 0 12 = F_6 0 12 from (eF17 0 12).trans (hS17 0 12 rfl)))).trans (hS_6 0 12 rfl))] at h1; exact h1
                  refine v_inv H (o := 0) rfl rfl rfl rfl rfl rfl (by rfl) (C221 (D := pul [0] D31) (N := pul [0] N31) (HW_sub H (VS_of (show vsub V224 V221 [0] = true by decide +kernel))) (F 0 12) ((((((show F37 0 12 = F31 0 12 from (eF37 0 12))).trans ((show F31 0 12 = F17 0 12 from (eF31 0 12)))).trans ((show F17 0 12 = F_6 0 12 from (eF17 0 12).trans (hS17 0 12 rfl)))).trans (hS_6 0 12 rfl))) (show inr (2) by omega) (show inr ((z17 + y17_0_11)) by omega) (fun z40 σ40 F40' A40' H' O' hS40 hA40 y40_0_12 ey40_0_12 pz40_0 pz40_1 pz40_2 => ⟨rfl, ?_⟩))
                  refine v_back (c := (c_6 + c31)) (s := (s_6 + s31)) H (show vsub V224 V221 [0] = true by decide +kernel) H' O' (fun F40 A40 H O' eF40 eA40 => ?_)
                  have O := OUT_trans O O'
                  -- Tokens.fail
                  have r41 : (-2147483648 : Int) ≤ y40_0_12 ∧ y40_0_12 ≤ 2147483647 := by have h1 : (-2147483648 : Int) ≤ F40 0 12 ∧ F40 0 12 ≤ 2147483647 := H.krg 0 12 (by decide); rw [show F40 0 12 = y40_0_12 from ((eF40 0 12).trans ey40_0_12)] at h1; exact h1
                  exact w_ireturn rfl (k (z40) _ _ _ _ _ _ _ H O (SD_trans (SD_trans (SD_refl) hD_6 (any_subA rfl)) (SD_glu (ι := [2, 1, 3]) hD31 eD31 (by decide +kernel)) (any_subA (l' := [3]) rfl)) (SD_trans (SD_trans (SD_refl) hN_6 (any_subA rfl)) (SD_glu (ι := [2, 1, 3]) hN31 eN31 (by decide +kernel)) (any_subA (l' := [3]) rfl)) (SF_trans (SF_trans (SF_trans (SF_trans (SF_trans (SF_refl) hS_6 (any_sub rfl)) (SF_glu (ι := [0, 1]) hS17 eF17 (by decide +kernel)) (any_sub (l' := [(0, 11)]) rfl)) (SF_glu (ι := [2, 1, 3]) hS31 eF31 (by decide +kernel)) (any_sub (l' := [(2, 0), (2, 1), (2, 2)]) rfl)) (SF_glu (ι := [1]) hS37 eF37 (by decide +kernel)) (any_sub (l' := []) rfl)) (SF_glu (ι := [0]) hS40 eF40 (by decide +kernel)) (any_sub (l' := [(0, 12)]) rfl)) (SA_trans (SA_trans (SA_trans (SA_trans (SA_trans (SA_refl) hA_6 (any_subA rfl)) (SA_glu (ι := [0, 1]) hA17 eA17 (by decide +kernel)) (any_subA (l' := []) rfl)) (SA_glu (ι := [2, 1, 3]) hA31 eA31 (by decide +kernel)) (any_subA (l' := [3]) rfl)) (SA_glu (ι := [1]) hA37 eA37 (by decide +kernel)) (any_subA (l' := []) rfl)) (SA_glu (ι := [0]) hA40 eA40 (by decide +kernel)) (any_subA (l' := []) rfl)) (((((show F40 2 0 = F37 2 0 from (eF40 2 0))).trans ((show F37 2 0 = F31 2 0 from (eF37 2 0))))).trans (pf31_2_0)) (m31_2) ((congrArg (fun q : Nat => (q : Int)) (eN31 3)).trans em31_2) (y31_0_1) (((((show F40 2 1 = F37 2 1 from (eF40 2 1))).trans ((show F37 2 1 = F31 2 1 from (eF37 2 1)))).trans ((eF31 2 1).trans ey31_0_1))) (show inr (z40) by omega) (show 0 ≤ (z40) ∧ (z40) ≤ 3 by omega) (show 0 ≤ (y31_0_1) ∧ (y31_0_1) ≤ (m31_2) ∧ (m31_2) ≤ 65536 by omega) (show (u2_1) ≤ (y31_0_1) by omega) (show (y31_0_1) ≤ a4 ∨ (y31_0_1) = (u2_1) by omega))
                · refine Ew_of (pc' := 193) (fun _ => x_iload rfl rk_s) ?_
                  refine Ew_of (pc' := 194) (fun _ => x_aload_n rfl (rk_o (rk_o (rk_o (rk_o (rk_o (rk_o (l6_0) rfl rfl) rfl rfl) rfl rfl) rfl rfl) rfl rfl) rfl rfl)) ?_
                  refine Ew_stk (show ([.ref (D_6 0), I (z37)] : List Value) = [.ref (D31 0), I (z37)] by rw [show D31 0 = D_6 0 from ((show D31 0 = D_6 0 from (eD31 0)))]) ?_
                  refine v_g H (o := 0) (v := .ref (D31 2)) rfl rfl rfl rfl rfl (vrf ((((show F37 0 6 = F31 0 6 from (eF37 0 6)))).trans (pf31_0_6))) ?_
                  refine v_g H (o := 2) (v := I (y31_0_1)) rfl rfl rfl rfl rfl (congrArg (fun z : Int => I z) ((((show F37 2 1 = F31 2 1 from (eF37 2 1))).trans ((eF31 2 1).trans ey31_0_1)) : F37 2 1 = y31_0_1)) ?_
                  refine Ew_of (pc' := 201) (fun _ => x_iload_n rfl (rk_o (rk_o (rk_o (rk_o (rk_o (rk_o (l6_3) rfl rfl) rfl rfl) rfl rfl) rfl rfl) rfl rfl) rfl rfl)) ?_
                  refine w_isub rfl ?_
                  refine Ew_of (pc' := 203) (fun _ => x_aload_n rfl (rk_o (rk_o (rk_o (rk_o (rk_o (rk_o (l6_0) rfl rfl) rfl rfl) rfl rfl) rfl rfl) rfl rfl) rfl rfl)) ?_
                  refine Ew_stk (show ([.ref (D_6 0), I ((y31_0_1 - a3)), I (z37)] : List Value) = [.ref (D31 0), I ((y31_0_1 - a3)), I (z37)] by rw [show D31 0 = D_6 0 from ((show D31 0 = D_6 0 from (eD31 0)))]) ?_
                  refine v_g H (o := 0) (v := .ref (D31 4)) rfl rfl rfl rfl rfl (vrf ((((show F37 0 1 = F31 0 1 from (eF37 0 1)))).trans (pf31_0_1))) ?_
                  refine v_g H (o := 4) (v := I (u4_1)) rfl rfl rfl rfl rfl (congrArg (fun z : Int => I z) (((((((show F37 4 1 = F31 4 1 from (eF37 4 1))).trans ((show F31 4 1 = F17 4 1 from (eF31 4 1)))).trans ((show F17 4 1 = F_6 4 1 from (eF17 4 1)))).trans (hS_6 4 1 rfl)).trans (eu4_1)) : F37 4 1 = u4_1)) ?_
                  refine w_iadd rfl ?_
                  refine w_icmple (t := 221) rfl rfl (show inr (z37) by omega) (show inr (((y31_0_1 - a3) + u4_1)) by omega) (fun b42 => ?_) (fun b42 => ?_)
                  · refine Ew_of (pc' := 222) (fun _ => x_aload_n rfl (rk_o (rk_o (rk_o (rk_o (rk_o (rk_o (l6_0) rfl rfl) rfl rfl) rfl rfl) rfl rfl) rfl rfl) rfl rfl)) ?_
                    refine Ew_of (pc' := 224) (fun _ => x_iload rfl (rk_o (rk_o (rk_o (rk_o (rk_o (rk_s) rfl rfl) rfl rfl) rfl rfl) rfl rfl) rfl rfl)) ?_
                    refine Ew_of (pc' := 226) (fun _ => x_bipush (z := 15) rfl (by decide)) ?_
                    refine w_iand rfl (show inr (z14) by omega) (show inr (15) by omega) (fun z43 gz43 gaz43 gbz43 => ?_)
                    refine Ew_of (pc' := 229) (fun _ => x_iload rfl (rk_o (rk_o (rk_s) rfl rfl) rfl rfl)) ?_
                    refine Ew_of (pc' := 230) (fun _ => x_iconst rfl) ?_
                    refine w_iadd rfl ?_
                    refine Ew_of (pc' := 232) (fun _ => x_iload_n rfl (rk_o (rk_o (rk_o (rk_o (rk_o (rk_o (l6_2) rfl rfl) rfl rfl) rfl rfl) rfl rfl) rfl rfl) rfl rfl)) ?_
                    refine Ew_stk (show ([I (a2), I (((z17 + y17_0_11) + 2)), I (z43), .ref (D_6 0)] : List Value) = [I (a2), I (((z17 + y17_0_11) + 2)), I (z43), .ref (D31 0)] by rw [show D31 0 = D_6 0 from ((show D31 0 = D_6 0 from (eD31 0)))]) ?_
                    refine v_inv H (o := 0) rfl rfl rfl rfl rfl rfl (by rfl) (C225 (D := pul [0, 1] D31) (N := pul [0, 1] N31) (HW_sub H (VS_of (show vsub V224 V225 [0, 1] = true by decide +kernel))) ((((show F37 0 4 = F31 0 4 from (eF37 0 4)))).trans (pf31_0_4)) (n1) ((congrArg (fun q : Nat => (q : Int)) (show N31 1 = N_6 1 from (eN31 1).trans (hN31 1 rfl))).trans ((congrArg (fun q : Nat => (q : Int)) (hN_6 1 rfl)).trans (en1))) (y17_0_11) (((((show F37 0 11 = F31 0 11 from (eF37 0 11))).trans ((show F31 0 11 = F17 0 11 from (eF31 0 11)))).trans ((eF17 0 11).trans ey17_0_11))) (show inr (z43) by omega) (show inr (((z17 + y17_0_11) + 2)) by omega) (show inr (a2) by omega) (show 0 ≤ (z43) ∧ (z43) ≤ 15 by omega) (show 0 ≤ (((z17 + y17_0_11) + 2)) ∧ (((z17 + y17_0_11) + 2)) ≤ (a2) ∧ (a2) ≤ (n1) ∧ (n1) ≤ 65536 by omega) (fun z44 σ44 F44' A44' H' O' hS44 hA44 y44_0_11 ey44_0_11 pz44_0 pz44_1 pz44_2 => ⟨rfl, ?_⟩))
                    refine v_back (c := (c_6 + c31)) (s := (s_6 + s31)) H (show vsub V224 V225 [0, 1] = true by decide +kernel) H' O' (fun F44 A44 H O' eF44 eA44 => ?_)
                    have O := OUT_trans O O'
                    -- Tokens.addUp
                    have r45 : (-2147483648 : Int) ≤ y44_0_11 ∧ y44_0_11 ≤ 2147483647 := by have h1 : (-2147483648 : Int) ≤ F44 0 11 ∧ F44 0 11 ≤ 2147483647 := H.krg 0 11 (by decide); rw [show F44 0 11 = y44_0_11 from ((eF44 0 11).trans ey44_0_11)] at h1; exact h1
                    refine Ew_of (pc' := 237) (fun _ => x_istore rfl) ?_
                    refine Ew_of (pc' := 239) (fun _ => x_iload rfl rk_s) ?_
                    refine w_ifge (t := 249) rfl rfl (show inr (z44) by omega) (fun b46 => ?_) (fun b46 => ?_)
                    · refine Ew_of (pc' := 250) (fun _ => x_aload_n rfl (rk_o (rk_o (rk_o (rk_o (rk_o (rk_o (rk_o (l6_0) rfl rfl) rfl rfl) rfl rfl) rfl rfl) rfl rfl) rfl rfl) rfl rfl)) ?_
                      refine Ew_stk (show ([.ref (D_6 0)] : List Value) = [.ref (D31 0)] by rw [show D31 0 = D_6 0 from ((show D31 0 = D_6 0 from (eD31 0)))]) ?_
                      refine v_g H (o := 0) (v := I (y44_0_11)) rfl rfl rfl rfl rfl (congrArg (fun z : Int => I z) (((eF44 0 11).trans ey44_0_11) : F44 0 11 = y44_0_11)) ?_
                      refine Ew_of (pc' := 254) (fun _ => x_iconst rfl) ?_
                      refine w_iadd rfl ?_
                      refine Ew_of (pc' := 257) (fun _ => x_iload rfl (rk_o (rk_o (rk_o (rk_o (rk_o (rk_o (rk_o (l6_4) rfl rfl) rfl rfl) rfl rfl) rfl rfl) rfl rfl) rfl rfl) rfl rfl)) ?_
                      refine Ew_of (pc' := 258) (fun _ => x_aload_n rfl (rk_o (rk_o (rk_o (rk_o (rk_o (rk_o (rk_o (l6_0) rfl rfl) rfl rfl) rfl rfl) rfl rfl) rfl rfl) rfl rfl) rfl rfl)) ?_
                      refine Ew_stk (show ([.ref (D_6 0), I (a4), I ((y44_0_11 + 4))] : List Value) = [.ref (D31 0), I (a4), I ((y44_0_11 + 4))] by rw [show D31 0 = D_6 0 from ((show D31 0 = D_6 0 from (eD31 0)))]) ?_
                      refine v_g H (o := 0) (v := .ref (D31 2)) rfl rfl rfl rfl rfl (vrf (((((show F44 0 6 = F37 0 6 from (eF44 0 6).trans (hS44 0 6 rfl))).trans ((show F37 0 6 = F31 0 6 from (eF37 0 6))))).trans (pf31_0_6))) ?_
                      refine v_g H (o := 2) (v := I (y31_0_1)) rfl rfl rfl rfl rfl (congrArg (fun z : Int => I z) (((((show F44 2 1 = F37 2 1 from (eF44 2 1))).trans ((show F37 2 1 = F31 2 1 from (eF37 2 1)))).trans ((eF31 2 1).trans ey31_0_1)) : F44 2 1 = y31_0_1)) ?_
                      refine w_isub rfl ?_
                      refine w_icmple (t := 276) rfl rfl (show inr ((y44_0_11 + 4)) by omega) (show inr ((a4 - y31_0_1)) by omega) (fun b47 => ?_) (fun b47 => ?_)
                      · refine Ew_of (pc' := 277) (fun _ => x_aload_n rfl (rk_o (rk_o (rk_o (rk_o (rk_o (rk_o (rk_o (l6_0) rfl rfl) rfl rfl) rfl rfl) rfl rfl) rfl rfl) rfl rfl) rfl rfl)) ?_
                        refine Ew_stk (show ([.ref (D_6 0)] : List Value) = [.ref (D31 0)] by rw [show D31 0 = D_6 0 from ((show D31 0 = D_6 0 from (eD31 0)))]) ?_
                        refine v_g H (o := 0) (v := .ref (D31 2)) rfl rfl rfl rfl rfl (vrf (((((show F44 0 6 = F37 0 6 from (eF44 0 6).trans (hS44 0 6 rfl))).trans ((show F37 0 6 = F31 0 6 from (eF37 0 6))))).trans (pf31_0_6))) ?_
                        refine Ew_of (pc' := 282) (fun _ => x_iload rfl (rk_o (rk_s) rfl rfl)) ?_
                        refine Ew_of (pc' := 283) (fun _ => x_aload_n rfl (rk_o (rk_o (rk_o (rk_o (rk_o (rk_o (rk_o (l6_0) rfl rfl) rfl rfl) rfl rfl) rfl rfl) rfl rfl) rfl rfl) rfl rfl)) ?_
                        refine Ew_stk (show ([.ref (D_6 0), I (z37), .ref (D31 2)] : List Value) = [.ref (D31 0), I (z37), .ref (D31 2)] by rw [show D31 0 = D_6 0 from ((show D31 0 = D_6 0 from (eD31 0)))]) ?_
                        refine v_g H (o := 0) (v := I (y44_0_11)) rfl rfl rfl rfl rfl (congrArg (fun z : Int => I z) (((eF44 0 11).trans ey44_0_11) : F44 0 11 = y44_0_11)) ?_
                        refine Ew_of (pc' := 287) (fun _ => x_iconst rfl) ?_
                        refine w_iadd rfl ?_
                        refine Ew_of (pc' := 289) (fun _ => x_iload_n rfl (rk_o (rk_o (rk_o (rk_o (rk_o (rk_o (rk_o (l6_3) rfl rfl) rfl rfl) rfl rfl) rfl rfl) rfl rfl) rfl rfl) rfl rfl)) ?_
                        refine Ew_of (pc' := 290) (fun _ => x_aload_n rfl (rk_o (rk_o (rk_o (rk_o (rk_o (rk_o (rk_o (l6_0) rfl rfl) rfl rfl) rfl rfl) rfl rfl) rfl rfl) rfl rfl) rfl rfl)) ?_
                        refine Ew_stk (show ([.ref (D_6 0), I (a3), I ((y44_0_11 + 4)), I (z37), .ref (D31 2)] : List Value) = [.ref (D31 0), I (a3), I ((y44_0_11 + 4)), I (z37), .ref (D31 2)] by rw [show D31 0 = D_6 0 from ((show D31 0 = D_6 0 from (eD31 0)))]) ?_
                        refine v_g H (o := 0) (v := .ref (D31 4)) rfl rfl rfl rfl rfl (vrf (((((show F44 0 1 = F37 0 1 from (eF44 0 1).trans (hS44 0 1 rfl))).trans ((show F37 0 1 = F31 0 1 from (eF37 0 1))))).trans (pf31_0_1))) ?_
                        refine v_inv H (o := 2) rfl rfl rfl rfl rfl rfl (by rfl) (C163_Row (D := pul [2, 4, 3, 5] D31) (N := pul [2, 4, 3, 5] N31) (HW_sub H (VS_of (show vsub V224 V163_Row [2, 4, 3, 5] = true by decide +kernel))) (((((show F44 2 0 = F37 2 0 from (eF44 2 0))).trans ((show F37 2 0 = F31 2 0 from (eF37 2 0))))).trans (pf31_2_0)) (((((show F44 4 0 = F37 4 0 from (eF44 4 0))).trans ((show F37 4 0 = F31 4 0 from (eF37 4 0))))).trans (pf31_4_0)) (m31_2) ((congrArg (fun q : Nat => (q : Int)) (eN31 3)).trans em31_2) (n5) ((congrArg (fun q : Nat => (q : Int)) (show N31 5 = N_6 5 from (eN31 5))).trans ((congrArg (fun q : Nat => (q : Int)) (hN_6 5 rfl)).trans (en5))) (y31_0_1) (((((show F44 2 1 = F37 2 1 from (eF44 2 1))).trans ((show F37 2 1 = F31 2 1 from (eF37 2 1)))).trans ((eF31 2 1).trans ey31_0_1))) (u4_1) ((((((((show F44 4 1 = F37 4 1 from (eF44 4 1))).trans ((show F37 4 1 = F31 4 1 from (eF37 4 1)))).trans ((show F31 4 1 = F17 4 1 from (eF31 4 1)))).trans ((show F17 4 1 = F_6 4 1 from (eF17 4 1)))).trans (hS_6 4 1 rfl)).trans (eu4_1))) (show inr (z37) by omega) (show inr ((y44_0_11 + 4)) by omega) (show inr (a3) by omega) (show 0 ≤ (y31_0_1) ∧ (y31_0_1) ≤ (m31_2) ∧ (m31_2) ≤ 65536 by omega) (show 0 ≤ (u4_1) ∧ (u4_1) ≤ (n5) ∧ (n5) ≤ 65536 by omega) (show 0 ≤ (a3) ∧ (a3) ≤ (y31_0_1) by omega) (show ((y44_0_11 + 4)) < 0 ∨ 1 ≤ (z37) ∧ ((z37) ≤ (y31_0_1) - (a3) ∨ (z37) - ((y31_0_1) - (a3)) ≤ (u4_1)) by omega) (fun σ48 D48' N48' F48' A48' c48 s48 H' O' hD48 hN48 hS48 hA48 pm48_2 m48_2 em48_2 y48_0_1 ey48_0_1 pz48_0 pz48_1 => ⟨rfl, ?_⟩))
                        refine v_backM (c := (c_6 + c31)) (s := (s_6 + s31)) H (show vsub V224 V163_Row [2, 4, 3, 5] = true by decide +kernel) H' O' hD48 (show vmov V224 [2, 4, 3, 5] [2] = true by decide +kernel) (fun D48 N48 F48 A48 H O' eD48 eN48 eF48 eA48 => ?_)
                        have O := OUT_trans O O'
                        -- Row.copyBack
                        have pf48_0_1 : F48 0 1 = (D48 4 : Int) := ((show F48 0 1 = F44 0 1 from (eF48 0 1))).trans ((((((show F44 0 1 = F37 0 1 from (eF44 0 1).trans (hS44 0 1 rfl))).trans ((show F37 0 1 = F31 0 1 from (eF37 0 1))))).trans (pf31_0_1)).trans (congrArg (fun q : Nat => (q : Int)) ((show D48 4 = D31 4 from (eD48 4).trans (hD48 1 rfl))).symm))
                        have pf48_0_4 : F48 0 4 = (D48 1 : Int) := ((show F48 0 4 = F44 0 4 from (eF48 0 4))).trans ((((((show F44 0 4 = F37 0 4 from (eF44 0 4).trans (hS44 0 4 rfl))).trans ((show F37 0 4 = F31 0 4 from (eF37 0 4))))).trans (pf31_0_4)).trans (congrArg (fun q : Nat => (q : Int)) ((show D48 1 = D31 1 from (eD48 1))).symm))
                        have pf48_0_6 : F48 0 6 = (D48 2 : Int) := ((show F48 0 6 = F44 0 6 from (eF48 0 6))).trans ((((((show F44 0 6 = F37 0 6 from (eF44 0 6).trans (hS44 0 6 rfl))).trans ((show F37 0 6 = F31 0 6 from (eF37 0 6))))).trans (pf31_0_6)).trans (congrArg (fun q : Nat => (q : Int)) ((show D48 2 = D31 2 from (eD48 2).trans (hD48 0 rfl))).symm))
                        have pf48_2_0 : F48 2 0 = (D48 3 : Int) := (eF48 2 0).trans (pm48_2.trans (congrArg (fun q : Nat => (q : Int)) (eD48 3).symm))
                        have pf48_4_0 : F48 4 0 = (D48 5 : Int) := ((show F48 4 0 = F44 4 0 from (eF48 4 0).trans (hS48 1 0 rfl))).trans ((((((show F44 4 0 = F37 4 0 from (eF44 4 0))).trans ((show F37 4 0 = F31 4 0 from (eF37 4 0))))).trans (pf31_4_0)).trans (congrArg (fun q : Nat => (q : Int)) ((show D48 5 = D31 5 from (eD48 5).trans (hD48 3 rfl))).symm))
                        have r49 : (0 : Int) ≤ m48_2 ∧ m48_2 ≤ 1000000 := by have h1 := H.nle 3 (by decide); have h2 : (N48 3 : Int) = m48_2 := (congrArg (fun q : Nat => (q : Int)) (eN48 3)).trans em48_2; omega
                        have r50 : (-2147483648 : Int) ≤ y48_0_1 ∧ y48_0_1 ≤ 2147483647 := by have h1 : (-2147483648 : Int) ≤ F48 2 1 ∧ F48 2 1 ≤ 2147483647 := H.krg 2 1 (by decide); rw [show F48 2 1 = y48_0_1 from ((eF48 2 1).trans ey48_0_1)] at h1; exact h1
                        refine Ew_of (pc' := 299) (fun _ => x_iinc (len := 3) rfl (rk_o (rk_o (rk_o (rk_o (rk_o (rk_o (rk_o (l6_6) rfl rfl) rfl rfl) rfl rfl) rfl rfl) rfl rfl) rfl rfl) rfl rfl)) ?_
                        refine Ew_of (pc' := 6) (fun _ => x_goto rfl rfl) ?_
                        exact ih6 _ (by omega) _ _ _ _ _ _ _ _ (z44) ((x6_6 + 1)) ((rk_o (rk_o (rk_o (rk_o (rk_o (rk_o (rk_o (rk_o (l6_0) rfl rfl) rfl rfl) rfl rfl) rfl rfl) rfl rfl) rfl rfl) rfl rfl) rfl rfl).trans (congrArg (fun q : Nat => some (Value.ref q)) ((((show D48 0 = D31 0 from (eD48 0))).trans ((show D31 0 = D_6 0 from (eD31 0))))).symm)) (rk_o (rk_o (rk_o (rk_o (rk_o (rk_o (rk_o (rk_o (l6_2) rfl rfl) rfl rfl) rfl rfl) rfl rfl) rfl rfl) rfl rfl) rfl rfl) rfl rfl) (rk_o (rk_o (rk_o (rk_o (rk_o (rk_o (rk_o (rk_o (l6_3) rfl rfl) rfl rfl) rfl rfl) rfl rfl) rfl rfl) rfl rfl) rfl rfl) rfl rfl) (rk_o (rk_o (rk_o (rk_o (rk_o (rk_o (rk_o (rk_o (l6_4) rfl rfl) rfl rfl) rfl rfl) rfl rfl) rfl rfl) rfl rfl) rfl rfl) rfl rfl) (rk_o (rk_s) rfl rfl) (rk_s) H O (SD_trans (SD_trans (hD_6) (SD_glu (ι := [2, 1, 3]) hD31 eD31 (by decide +kernel)) (any_subA (l' := [3]) rfl)) (SD_glu (ι := [2, 4, 3, 5]) hD48 eD48 (by decide +kernel)) (any_subA (l' := [3]) rfl)) (SD_trans (SD_trans (hN_6) (SD_glu (ι := [2, 1, 3]) hN31 eN31 (by decide +kernel)) (any_subA (l' := [3]) rfl)) (SD_glu (ι := [2, 4, 3, 5]) hN48 eN48 (by decide +kernel)) (any_subA (l' := [3]) rfl)) (SF_trans (SF_trans (SF_trans (SF_trans (SF_trans (hS_6) (SF_glu (ι := [0, 1]) hS17 eF17 (by decide +kernel)) (any_sub (l' := [(0, 11)]) rfl)) (SF_glu (ι := [2, 1, 3]) hS31 eF31 (by decide +kernel)) (any_sub (l' := [(2, 0), (2, 1), (2, 2)]) rfl)) (SF_glu (ι := [1]) hS37 eF37 (by decide +kernel)) (any_sub (l' := []) rfl)) (SF_glu (ι := [0, 1]) hS44 eF44 (by decide +kernel)) (any_sub (l' := [(0, 11)]) rfl)) (SF_glu (ι := [2, 4, 3, 5]) hS48 eF48 (by decide +kernel)) (any_sub (l' := [(2, 0), (2, 1), (2, 2)]) rfl)) (SA_trans (SA_trans (SA_trans (SA_trans (SA_trans (hA_6) (SA_glu (ι := [0, 1]) hA17 eA17 (by decide +kernel)) (any_subA (l' := []) rfl)) (SA_glu (ι := [2, 1, 3]) hA31 eA31 (by decide +kernel)) (any_subA (l' := [3]) rfl)) (SA_glu (ι := [1]) hA37 eA37 (by decide +kernel)) (any_subA (l' := []) rfl)) (SA_glu (ι := [0, 1]) hA44 eA44 (by decide +kernel)) (any_subA (l' := []) rfl)) (SA_glu (ι := [2, 4, 3, 5]) hA48 eA48 (by decide +kernel)) (any_subA (l' := [3]) rfl)) (pf48_2_0) (m48_2) ((congrArg (fun q : Nat => (q : Int)) (eN48 3)).trans em48_2) (y48_0_1) (((eF48 2 1).trans ey48_0_1))  (show inr (z44) by omega) (show inr ((x6_6 + 1)) by omega) (show (a1) ≤ ((x6_6 + 1)) by omega) (show ((x6_6 + 1)) ≤ (a1) ∨ ((x6_6 + 1)) ≤ (((a2) + 1)) by omega) (show 0 ≤ (z44) ∧ (z44) ≤ (a2) by omega) (show 0 ≤ (y48_0_1) ∧ (y48_0_1) ≤ (m48_2) ∧ (m48_2) ≤ 65536 by omega) (show (u2_1) ≤ (y48_0_1) by omega) (show (y48_0_1) ≤ (a4) ∨ (y48_0_1) = (u2_1) by omega) rfl
                      · refine Ew_of (pc' := 269) (fun _ => x_aload_n rfl (rk_o (rk_o (rk_o (rk_o (rk_o (rk_o (rk_o (l6_0) rfl rfl) rfl rfl) rfl rfl) rfl rfl) rfl rfl) rfl rfl) rfl rfl)) ?_
                        refine Ew_of (pc' := 270) (fun _ => x_iconst rfl) ?_
                        refine Ew_of (pc' := 272) (fun _ => x_iload rfl (rk_o (rk_o (rk_s) rfl rfl) rfl rfl)) ?_
                        refine Ew_stk (show ([I ((z17 + y17_0_11)), I (3), .ref (D_6 0)] : List Value) = [I ((z17 + y17_0_11)), I (3), .ref (D31 0)] by rw [show D31 0 = D_6 0 from ((show D31 0 = D_6 0 from (eD31 0)))]) ?_
                        have r51 : (-2147483648 : Int) ≤ F 0 12 ∧ F 0 12 ≤ 2147483647 := by have h1 : (-2147483648 : Int) ≤ F44 0 12 ∧ F44 0 12 ≤ 2147483647 := H.krg 0 12 (by decide); rw [show F44 0 12 = F 0 12 from ((((((show F44 0 12 = F37 0 12 from (eF44 0 12).trans (hS44 0 12 rfl))).trans ((show F37 0 12 = F31 0 12 from (eF37 0 12)))).trans ((show F31 0 12 = F17 0 12 from (eF31 0 12)))).trans ((show F17 0 12 = F_6 0 12 from (eF17 0 12).trans (hS17 0 12 rfl)))).trans (hS_6 0 12 rfl))] at h1; exact h1
                        refine v_inv H (o := 0) rfl rfl rfl rfl rfl rfl (by rfl) (C221 (D := pul [0] D31) (N := pul [0] N31) (HW_sub H (VS_of (show vsub V224 V221 [0] = true by decide +kernel))) (F 0 12) (((((((show F44 0 12 = F37 0 12 from (eF44 0 12).trans (hS44 0 12 rfl))).trans ((show F37 0 12 = F31 0 12 from (eF37 0 12)))).trans ((show F31 0 12 = F17 0 12 from (eF31 0 12)))).trans ((show F17 0 12 = F_6 0 12 from (eF17 0 12).trans (hS17 0 12 rfl)))).trans (hS_6 0 12 rfl))) (show inr (3) by omega) (show inr ((z17 + y17_0_11)) by omega) (fun z52 σ52 F52' A52' H' O' hS52 hA52 y52_0_12 ey52_0_12 pz52_0 pz52_1 pz52_2 => ⟨rfl, ?_⟩))
                        refine v_back (c := (c_6 + c31)) (s := (s_6 + s31)) H (show vsub V224 V221 [0] = true by decide +kernel) H' O' (fun F52 A52 H O' eF52 eA52 => ?_)
                        have O := OUT_trans O O'
                        -- Tokens.fail
                        have r53 : (-2147483648 : Int) ≤ y52_0_12 ∧ y52_0_12 ≤ 2147483647 := by have h1 : (-2147483648 : Int) ≤ F52 0 12 ∧ F52 0 12 ≤ 2147483647 := H.krg 0 12 (by decide); rw [show F52 0 12 = y52_0_12 from ((eF52 0 12).trans ey52_0_12)] at h1; exact h1
                        exact w_ireturn rfl (k (z52) _ _ _ _ _ _ _ H O (SD_trans (SD_trans (SD_refl) hD_6 (any_subA rfl)) (SD_glu (ι := [2, 1, 3]) hD31 eD31 (by decide +kernel)) (any_subA (l' := [3]) rfl)) (SD_trans (SD_trans (SD_refl) hN_6 (any_subA rfl)) (SD_glu (ι := [2, 1, 3]) hN31 eN31 (by decide +kernel)) (any_subA (l' := [3]) rfl)) (SF_trans (SF_trans (SF_trans (SF_trans (SF_trans (SF_trans (SF_refl) hS_6 (any_sub rfl)) (SF_glu (ι := [0, 1]) hS17 eF17 (by decide +kernel)) (any_sub (l' := [(0, 11)]) rfl)) (SF_glu (ι := [2, 1, 3]) hS31 eF31 (by decide +kernel)) (any_sub (l' := [(2, 0), (2, 1), (2, 2)]) rfl)) (SF_glu (ι := [1]) hS37 eF37 (by decide +kernel)) (any_sub (l' := []) rfl)) (SF_glu (ι := [0, 1]) hS44 eF44 (by decide +kernel)) (any_sub (l' := [(0, 11)]) rfl)) (SF_glu (ι := [0]) hS52 eF52 (by decide +kernel)) (any_sub (l' := [(0, 12)]) rfl)) (SA_trans (SA_trans (SA_trans (SA_trans (SA_trans (SA_trans (SA_refl) hA_6 (any_subA rfl)) (SA_glu (ι := [0, 1]) hA17 eA17 (by decide +kernel)) (any_subA (l' := []) rfl)) (SA_glu (ι := [2, 1, 3]) hA31 eA31 (by decide +kernel)) (any_subA (l' := [3]) rfl)) (SA_glu (ι := [1]) hA37 eA37 (by decide +kernel)) (any_subA (l' := []) rfl)) (SA_glu (ι := [0, 1]) hA44 eA44 (by decide +kernel)) (any_subA (l' := []) rfl)) (SA_glu (ι := [0]) hA52 eA52 (by decide +kernel)) (any_subA (l' := []) rfl)) ((((((show F52 2 0 = F44 2 0 from (eF52 2 0))).trans ((show F44 2 0 = F37 2 0 from (eF44 2 0)))).trans ((show F37 2 0 = F31 2 0 from (eF37 2 0))))).trans (pf31_2_0)) (m31_2) ((congrArg (fun q : Nat => (q : Int)) (eN31 3)).trans em31_2) (y31_0_1) ((((((show F52 2 1 = F44 2 1 from (eF52 2 1))).trans ((show F44 2 1 = F37 2 1 from (eF44 2 1)))).trans ((show F37 2 1 = F31 2 1 from (eF37 2 1)))).trans ((eF31 2 1).trans ey31_0_1))) (show inr (z52) by omega) (show 0 ≤ (z52) ∧ (z52) ≤ 3 by omega) (show 0 ≤ (y31_0_1) ∧ (y31_0_1) ≤ (m31_2) ∧ (m31_2) ≤ 65536 by omega) (show (u2_1) ≤ (y31_0_1) by omega) (show (y31_0_1) ≤ a4 ∨ (y31_0_1) = (u2_1) by omega))
                    · refine Ew_of (pc' := 243) (fun _ => x_aload_n rfl (rk_o (rk_o (rk_o (rk_o (rk_o (rk_o (rk_o (l6_0) rfl rfl) rfl rfl) rfl rfl) rfl rfl) rfl rfl) rfl rfl) rfl rfl)) ?_
                      refine Ew_of (pc' := 244) (fun _ => x_iconst rfl) ?_
                      refine Ew_of (pc' := 245) (fun _ => x_iload_n rfl (rk_o (rk_o (rk_o (rk_o (rk_o (rk_o (rk_o (l6_2) rfl rfl) rfl rfl) rfl rfl) rfl rfl) rfl rfl) rfl rfl) rfl rfl)) ?_
                      refine Ew_stk (show ([I (a2), I (1), .ref (D_6 0)] : List Value) = [I (a2), I (1), .ref (D31 0)] by rw [show D31 0 = D_6 0 from ((show D31 0 = D_6 0 from (eD31 0)))]) ?_
                      have r54 : (-2147483648 : Int) ≤ F 0 12 ∧ F 0 12 ≤ 2147483647 := by have h1 : (-2147483648 : Int) ≤ F44 0 12 ∧ F44 0 12 ≤ 2147483647 := H.krg 0 12 (by decide); rw [show F44 0 12 = F 0 12 from ((((((show F44 0 12 = F37 0 12 from (eF44 0 12).trans (hS44 0 12 rfl))).trans ((show F37 0 12 = F31 0 12 from (eF37 0 12)))).trans ((show F31 0 12 = F17 0 12 from (eF31 0 12)))).trans ((show F17 0 12 = F_6 0 12 from (eF17 0 12).trans (hS17 0 12 rfl)))).trans (hS_6 0 12 rfl))] at h1; exact h1
                      refine v_inv H (o := 0) rfl rfl rfl rfl rfl rfl (by rfl) (C221 (D := pul [0] D31) (N := pul [0] N31) (HW_sub H (VS_of (show vsub V224 V221 [0] = true by decide +kernel))) (F 0 12) (((((((show F44 0 12 = F37 0 12 from (eF44 0 12).trans (hS44 0 12 rfl))).trans ((show F37 0 12 = F31 0 12 from (eF37 0 12)))).trans ((show F31 0 12 = F17 0 12 from (eF31 0 12)))).trans ((show F17 0 12 = F_6 0 12 from (eF17 0 12).trans (hS17 0 12 rfl)))).trans (hS_6 0 12 rfl))) (show inr (1) by omega) (show inr (a2) by omega) (fun z55 σ55 F55' A55' H' O' hS55 hA55 y55_0_12 ey55_0_12 pz55_0 pz55_1 pz55_2 => ⟨rfl, ?_⟩))
                      refine v_back (c := (c_6 + c31)) (s := (s_6 + s31)) H (show vsub V224 V221 [0] = true by decide +kernel) H' O' (fun F55 A55 H O' eF55 eA55 => ?_)
                      have O := OUT_trans O O'
                      -- Tokens.fail
                      have r56 : (-2147483648 : Int) ≤ y55_0_12 ∧ y55_0_12 ≤ 2147483647 := by have h1 : (-2147483648 : Int) ≤ F55 0 12 ∧ F55 0 12 ≤ 2147483647 := H.krg 0 12 (by decide); rw [show F55 0 12 = y55_0_12 from ((eF55 0 12).trans ey55_0_12)] at h1; exact h1
                      exact w_ireturn rfl (k (z55) _ _ _ _ _ _ _ H O (SD_trans (SD_trans (SD_refl) hD_6 (any_subA rfl)) (SD_glu (ι := [2, 1, 3]) hD31 eD31 (by decide +kernel)) (any_subA (l' := [3]) rfl)) (SD_trans (SD_trans (SD_refl) hN_6 (any_subA rfl)) (SD_glu (ι := [2, 1, 3]) hN31 eN31 (by decide +kernel)) (any_subA (l' := [3]) rfl)) (SF_trans (SF_trans (SF_trans (SF_trans (SF_trans (SF_trans (SF_refl) hS_6 (any_sub rfl)) (SF_glu (ι := [0, 1]) hS17 eF17 (by decide +kernel)) (any_sub (l' := [(0, 11)]) rfl)) (SF_glu (ι := [2, 1, 3]) hS31 eF31 (by decide +kernel)) (any_sub (l' := [(2, 0), (2, 1), (2, 2)]) rfl)) (SF_glu (ι := [1]) hS37 eF37 (by decide +kernel)) (any_sub (l' := []) rfl)) (SF_glu (ι := [0, 1]) hS44 eF44 (by decide +kernel)) (any_sub (l' := [(0, 11)]) rfl)) (SF_glu (ι := [0]) hS55 eF55 (by decide +kernel)) (any_sub (l' := [(0, 12)]) rfl)) (SA_trans (SA_trans (SA_trans (SA_trans (SA_trans (SA_trans (SA_refl) hA_6 (any_subA rfl)) (SA_glu (ι := [0, 1]) hA17 eA17 (by decide +kernel)) (any_subA (l' := []) rfl)) (SA_glu (ι := [2, 1, 3]) hA31 eA31 (by decide +kernel)) (any_subA (l' := [3]) rfl)) (SA_glu (ι := [1]) hA37 eA37 (by decide +kernel)) (any_subA (l' := []) rfl)) (SA_glu (ι := [0, 1]) hA44 eA44 (by decide +kernel)) (any_subA (l' := []) rfl)) (SA_glu (ι := [0]) hA55 eA55 (by decide +kernel)) (any_subA (l' := []) rfl)) ((((((show F55 2 0 = F44 2 0 from (eF55 2 0))).trans ((show F44 2 0 = F37 2 0 from (eF44 2 0)))).trans ((show F37 2 0 = F31 2 0 from (eF37 2 0))))).trans (pf31_2_0)) (m31_2) ((congrArg (fun q : Nat => (q : Int)) (eN31 3)).trans em31_2) (y31_0_1) ((((((show F55 2 1 = F44 2 1 from (eF55 2 1))).trans ((show F44 2 1 = F37 2 1 from (eF44 2 1)))).trans ((show F37 2 1 = F31 2 1 from (eF37 2 1)))).trans ((eF31 2 1).trans ey31_0_1))) (show inr (z55) by omega) (show 0 ≤ (z55) ∧ (z55) ≤ 3 by omega) (show 0 ≤ (y31_0_1) ∧ (y31_0_1) ≤ (m31_2) ∧ (m31_2) ≤ 65536 by omega) (show (u2_1) ≤ (y31_0_1) by omega) (show (y31_0_1) ≤ a4 ∨ (y31_0_1) = (u2_1) by omega))
                  · refine Ew_of (pc' := 214) (fun _ => x_aload_n rfl (rk_o (rk_o (rk_o (rk_o (rk_o (rk_o (l6_0) rfl rfl) rfl rfl) rfl rfl) rfl rfl) rfl rfl) rfl rfl)) ?_
                    refine Ew_of (pc' := 215) (fun _ => x_iconst rfl) ?_
                    refine Ew_of (pc' := 217) (fun _ => x_iload rfl (rk_o (rk_s) rfl rfl)) ?_
                    refine Ew_stk (show ([I ((z17 + y17_0_11)), I (2), .ref (D_6 0)] : List Value) = [I ((z17 + y17_0_11)), I (2), .ref (D31 0)] by rw [show D31 0 = D_6 0 from ((show D31 0 = D_6 0 from (eD31 0)))]) ?_
                    have r57 : (-2147483648 : Int) ≤ F 0 12 ∧ F 0 12 ≤ 2147483647 := by have h1 : (-2147483648 : Int) ≤ F37 0 12 ∧ F37 0 12 ≤ 2147483647 := H.krg 0 12 (by decide); rw [show F37 0 12 = F 0 12 from (((((show F37 0 12 = F31 0 12 from (eF37 0 12))).trans ((show F31 0 12 = F17 0 12 from (eF31 0 12)))).trans ((show F17 0 12 = F_6 0 12 from (eF17 0 12).trans (hS17 0 12 rfl)))).trans (hS_6 0 12 rfl))] at h1; exact h1
                    refine v_inv H (o := 0) rfl rfl rfl rfl rfl rfl (by rfl) (C221 (D := pul [0] D31) (N := pul [0] N31) (HW_sub H (VS_of (show vsub V224 V221 [0] = true by decide +kernel))) (F 0 12) ((((((show F37 0 12 = F31 0 12 from (eF37 0 12))).trans ((show F31 0 12 = F17 0 12 from (eF31 0 12)))).trans ((show F17 0 12 = F_6 0 12 from (eF17 0 12).trans (hS17 0 12 rfl)))).trans (hS_6 0 12 rfl))) (show inr (2) by omega) (show inr ((z17 + y17_0_11)) by omega) (fun z58 σ58 F58' A58' H' O' hS58 hA58 y58_0_12 ey58_0_12 pz58_0 pz58_1 pz58_2 => ⟨rfl, ?_⟩))
                    refine v_back (c := (c_6 + c31)) (s := (s_6 + s31)) H (show vsub V224 V221 [0] = true by decide +kernel) H' O' (fun F58 A58 H O' eF58 eA58 => ?_)
                    have O := OUT_trans O O'
                    -- Tokens.fail
                    have r59 : (-2147483648 : Int) ≤ y58_0_12 ∧ y58_0_12 ≤ 2147483647 := by have h1 : (-2147483648 : Int) ≤ F58 0 12 ∧ F58 0 12 ≤ 2147483647 := H.krg 0 12 (by decide); rw [show F58 0 12 = y58_0_12 from ((eF58 0 12).trans ey58_0_12)] at h1; exact h1
                    exact w_ireturn rfl (k (z58) _ _ _ _ _ _ _ H O (SD_trans (SD_trans (SD_refl) hD_6 (any_subA rfl)) (SD_glu (ι := [2, 1, 3]) hD31 eD31 (by decide +kernel)) (any_subA (l' := [3]) rfl)) (SD_trans (SD_trans (SD_refl) hN_6 (any_subA rfl)) (SD_glu (ι := [2, 1, 3]) hN31 eN31 (by decide +kernel)) (any_subA (l' := [3]) rfl)) (SF_trans (SF_trans (SF_trans (SF_trans (SF_trans (SF_refl) hS_6 (any_sub rfl)) (SF_glu (ι := [0, 1]) hS17 eF17 (by decide +kernel)) (any_sub (l' := [(0, 11)]) rfl)) (SF_glu (ι := [2, 1, 3]) hS31 eF31 (by decide +kernel)) (any_sub (l' := [(2, 0), (2, 1), (2, 2)]) rfl)) (SF_glu (ι := [1]) hS37 eF37 (by decide +kernel)) (any_sub (l' := []) rfl)) (SF_glu (ι := [0]) hS58 eF58 (by decide +kernel)) (any_sub (l' := [(0, 12)]) rfl)) (SA_trans (SA_trans (SA_trans (SA_trans (SA_trans (SA_refl) hA_6 (any_subA rfl)) (SA_glu (ι := [0, 1]) hA17 eA17 (by decide +kernel)) (any_subA (l' := []) rfl)) (SA_glu (ι := [2, 1, 3]) hA31 eA31 (by decide +kernel)) (any_subA (l' := [3]) rfl)) (SA_glu (ι := [1]) hA37 eA37 (by decide +kernel)) (any_subA (l' := []) rfl)) (SA_glu (ι := [0]) hA58 eA58 (by decide +kernel)) (any_subA (l' := []) rfl)) (((((show F58 2 0 = F37 2 0 from (eF58 2 0))).trans ((show F37 2 0 = F31 2 0 from (eF37 2 0))))).trans (pf31_2_0)) (m31_2) ((congrArg (fun q : Nat => (q : Int)) (eN31 3)).trans em31_2) (y31_0_1) (((((show F58 2 1 = F37 2 1 from (eF58 2 1))).trans ((show F37 2 1 = F31 2 1 from (eF37 2 1)))).trans ((eF31 2 1).trans ey31_0_1))) (show inr (z58) by omega) (show 0 ≤ (z58) ∧ (z58) ≤ 3 by omega) (show 0 ≤ (y31_0_1) ∧ (y31_0_1) ≤ (m31_2) ∧ (m31_2) ≤ 65536 by omega) (show (u2_1) ≤ (y31_0_1) by omega) (show (y31_0_1) ≤ a4 ∨ (y31_0_1) = (u2_1) by omega))
              · refine Ew_of (pc' := 163) (fun _ => x_aload_n rfl (rk_o (rk_o (rk_o (rk_o (l6_0) rfl rfl) rfl rfl) rfl rfl) rfl rfl)) ?_
                refine Ew_of (pc' := 164) (fun _ => x_iconst rfl) ?_
                refine Ew_of (pc' := 165) (fun _ => x_iload_n rfl (rk_o (rk_o (rk_o (rk_o (l6_2) rfl rfl) rfl rfl) rfl rfl) rfl rfl)) ?_
                refine Ew_stk (show ([I (a2), I (1), .ref (D_6 0)] : List Value) = [I (a2), I (1), .ref (D31 0)] by rw [show D31 0 = D_6 0 from ((show D31 0 = D_6 0 from (eD31 0)))]) ?_
                have r60 : (-2147483648 : Int) ≤ F 0 12 ∧ F 0 12 ≤ 2147483647 := by have h1 : (-2147483648 : Int) ≤ F31 0 12 ∧ F31 0 12 ≤ 2147483647 := H.krg 0 12 (by decide); rw [show F31 0 12 = F 0 12 from ((((show F31 0 12 = F17 0 12 from (eF31 0 12))).trans ((show F17 0 12 = F_6 0 12 from (eF17 0 12).trans (hS17 0 12 rfl)))).trans (hS_6 0 12 rfl))] at h1; exact h1
                refine v_inv H (o := 0) rfl rfl rfl rfl rfl rfl (by rfl) (C221 (D := pul [0] D31) (N := pul [0] N31) (HW_sub H (VS_of (show vsub V224 V221 [0] = true by decide +kernel))) (F 0 12) (((((show F31 0 12 = F17 0 12 from (eF31 0 12))).trans ((show F17 0 12 = F_6 0 12 from (eF17 0 12).trans (hS17 0 12 rfl)))).trans (hS_6 0 12 rfl))) (show inr (1) by omega) (show inr (a2) by omega) (fun z61 σ61 F61' A61' H' O' hS61 hA61 y61_0_12 ey61_0_12 pz61_0 pz61_1 pz61_2 => ⟨rfl, ?_⟩))
                refine v_back (c := (c_6 + c31)) (s := (s_6 + s31)) H (show vsub V224 V221 [0] = true by decide +kernel) H' O' (fun F61 A61 H O' eF61 eA61 => ?_)
                have O := OUT_trans O O'
                -- Tokens.fail
                have r62 : (-2147483648 : Int) ≤ y61_0_12 ∧ y61_0_12 ≤ 2147483647 := by have h1 : (-2147483648 : Int) ≤ F61 0 12 ∧ F61 0 12 ≤ 2147483647 := H.krg 0 12 (by decide); rw [show F61 0 12 = y61_0_12 from ((eF61 0 12).trans ey61_0_12)] at h1; exact h1
                exact w_ireturn rfl (k (z61) _ _ _ _ _ _ _ H O (SD_trans (SD_trans (SD_refl) hD_6 (any_subA rfl)) (SD_glu (ι := [2, 1, 3]) hD31 eD31 (by decide +kernel)) (any_subA (l' := [3]) rfl)) (SD_trans (SD_trans (SD_refl) hN_6 (any_subA rfl)) (SD_glu (ι := [2, 1, 3]) hN31 eN31 (by decide +kernel)) (any_subA (l' := [3]) rfl)) (SF_trans (SF_trans (SF_trans (SF_trans (SF_refl) hS_6 (any_sub rfl)) (SF_glu (ι := [0, 1]) hS17 eF17 (by decide +kernel)) (any_sub (l' := [(0, 11)]) rfl)) (SF_glu (ι := [2, 1, 3]) hS31 eF31 (by decide +kernel)) (any_sub (l' := [(2, 0), (2, 1), (2, 2)]) rfl)) (SF_glu (ι := [0]) hS61 eF61 (by decide +kernel)) (any_sub (l' := [(0, 12)]) rfl)) (SA_trans (SA_trans (SA_trans (SA_trans (SA_refl) hA_6 (any_subA rfl)) (SA_glu (ι := [0, 1]) hA17 eA17 (by decide +kernel)) (any_subA (l' := []) rfl)) (SA_glu (ι := [2, 1, 3]) hA31 eA31 (by decide +kernel)) (any_subA (l' := [3]) rfl)) (SA_glu (ι := [0]) hA61 eA61 (by decide +kernel)) (any_subA (l' := []) rfl)) ((((show F61 2 0 = F31 2 0 from (eF61 2 0)))).trans (pf31_2_0)) (m31_2) ((congrArg (fun q : Nat => (q : Int)) (eN31 3)).trans em31_2) (y31_0_1) ((((show F61 2 1 = F31 2 1 from (eF61 2 1))).trans ((eF31 2 1).trans ey31_0_1))) (show inr (z61) by omega) (show 0 ≤ (z61) ∧ (z61) ≤ 3 by omega) (show 0 ≤ (y31_0_1) ∧ (y31_0_1) ≤ (m31_2) ∧ (m31_2) ≤ 65536 by omega) (show (u2_1) ≤ (y31_0_1) by omega) (show (y31_0_1) ≤ a4 ∨ (y31_0_1) = (u2_1) by omega))
            · refine Ew_of (pc' := 153) (fun _ => x_iconst rfl) ?_
              exact w_ireturn rfl (k (0) _ _ _ _ _ _ _ H O (SD_trans (SD_trans (SD_refl) hD_6 (any_subA rfl)) (SD_glu (ι := [2, 1, 3]) hD31 eD31 (by decide +kernel)) (any_subA (l' := [3]) rfl)) (SD_trans (SD_trans (SD_refl) hN_6 (any_subA rfl)) (SD_glu (ι := [2, 1, 3]) hN31 eN31 (by decide +kernel)) (any_subA (l' := [3]) rfl)) (SF_trans (SF_trans (SF_trans (SF_refl) hS_6 (any_sub rfl)) (SF_glu (ι := [0, 1]) hS17 eF17 (by decide +kernel)) (any_sub (l' := [(0, 11)]) rfl)) (SF_glu (ι := [2, 1, 3]) hS31 eF31 (by decide +kernel)) (any_sub (l' := [(2, 0), (2, 1), (2, 2)]) rfl)) (SA_trans (SA_trans (SA_trans (SA_refl) hA_6 (any_subA rfl)) (SA_glu (ι := [0, 1]) hA17 eA17 (by decide +kernel)) (any_subA (l' := []) rfl)) (SA_glu (ι := [2, 1, 3]) hA31 eA31 (by decide +kernel)) (any_subA (l' := [3]) rfl)) (pf31_2_0) (m31_2) ((congrArg (fun q : Nat => (q : Int)) (eN31 3)).trans em31_2) (y31_0_1) (((eF31 2 1).trans ey31_0_1)) (show inr (0) by omega) (show 0 ≤ (0) ∧ (0) ≤ 3 by omega) (show 0 ≤ (y31_0_1) ∧ (y31_0_1) ≤ (m31_2) ∧ (m31_2) ≤ 65536 by omega) (show (u2_1) ≤ (y31_0_1) by omega) (show (y31_0_1) ≤ a4 ∨ (y31_0_1) = (u2_1) by omega))
          · exact hc86  _ _ _ _  (rk_o (rk_o (rk_o (l6_0) rfl rfl) rfl rfl) rfl rfl) (rk_o (rk_o (rk_o (l6_2) rfl rfl) rfl rfl) rfl rfl) (rk_o (rk_s) rfl rfl) (rk_s) H O (SF_refl) (SA_refl)     (show ((z17) < (0)) ∨ ((z17) ≥ (0) ∧ (y17_0_11) > (z19)) by omega)
      · refine Ew_of (pc' := 19) (fun _ => x_aload_n rfl l6_0) ?_
        refine Ew_of (pc' := 20) (fun _ => x_iconst rfl) ?_
        refine Ew_of (pc' := 21) (fun _ => x_iload_n rfl l6_2) ?_
        have r63 : (-2147483648 : Int) ≤ F 0 12 ∧ F 0 12 ≤ 2147483647 := by have h1 : (-2147483648 : Int) ≤ F_6 0 12 ∧ F_6 0 12 ≤ 2147483647 := H.krg 0 12 (by decide); rw [show F_6 0 12 = F 0 12 from (hS_6 0 12 rfl)] at h1; exact h1
        refine v_inv H (o := 0) rfl rfl rfl rfl rfl rfl (by rfl) (C221 (D := pul [0] D_6) (N := pul [0] N_6) (HW_sub H (VS_of (show vsub V224 V221 [0] = true by decide +kernel))) (F 0 12) ((hS_6 0 12 rfl)) (show inr (1) by omega) (show inr (a2) by omega) (fun z64 σ64 F64' A64' H' O' hS64 hA64 y64_0_12 ey64_0_12 pz64_0 pz64_1 pz64_2 => ⟨rfl, ?_⟩))
        refine v_back (c := c_6) (s := s_6) H (show vsub V224 V221 [0] = true by decide +kernel) H' O' (fun F64 A64 H O' eF64 eA64 => ?_)
        have O := OUT_trans O O'
        -- Tokens.fail
        have r65 : (-2147483648 : Int) ≤ y64_0_12 ∧ y64_0_12 ≤ 2147483647 := by have h1 : (-2147483648 : Int) ≤ F64 0 12 ∧ F64 0 12 ≤ 2147483647 := H.krg 0 12 (by decide); rw [show F64 0 12 = y64_0_12 from ((eF64 0 12).trans ey64_0_12)] at h1; exact h1
        exact w_ireturn rfl (k (z64) _ _ _ _ _ _ _ H O (SD_trans (SD_refl) hD_6 (any_subA rfl)) (SD_trans (SD_refl) hN_6 (any_subA rfl)) (SF_trans (SF_trans (SF_refl) hS_6 (any_sub rfl)) (SF_glu (ι := [0]) hS64 eF64 (by decide +kernel)) (any_sub (l' := [(0, 12)]) rfl)) (SA_trans (SA_trans (SA_refl) hA_6 (any_subA rfl)) (SA_glu (ι := [0]) hA64 eA64 (by decide +kernel)) (any_subA (l' := []) rfl)) ((((show F64 2 0 = F_6 2 0 from (eF64 2 0)))).trans (pm6_3)) (m6_3) (em6_3) (y6_2_1) ((((show F64 2 1 = F_6 2 1 from (eF64 2 1))).trans (ey6_2_1))) (show inr (z64) by omega) (show 0 ≤ (z64) ∧ (z64) ≤ 3 by omega) (show 0 ≤ (y6_2_1) ∧ (y6_2_1) ≤ (m6_3) ∧ (m6_3) ≤ 65536 by omega) (show (u2_1) ≤ (y6_2_1) by omega) (show (y6_2_1) ≤ a4 ∨ (y6_2_1) = (u2_1) by omega))
abbrev V222_Row_Row : vV := [(0, 11, [(4, 0), (4, 0), (4, 0), (4, 0), (4, 0), (0, 0), (4, 0), (0, 0), (0, 0), (0, 0), (0, 0), (0, 0), (0, 0)]), (0, 7, [(4, 0), (0, 0), (1, 0), (0, 0), (0, 0)]), (0, 7, [(4, 0), (0, 0), (1, 0), (0, 0), (0, 0)]), (1, 0, [])]
/-- Tokens.begin: this, #1, #2, #1.bytes -/
theorem C222_Row_Row {σE : rS} {D N : Nat → Nat} {F : hF} {A : hA} {d c s : Nat} {Q : wQ} (H : HW V222_Row_Row σE D N F A) {a3 : Int} (pf3 : F 1 0 = (D 3 : Int)) (n3 : Int) (en3 : (N 3 : Int) = n3) (u0_5 : Int) (eu0_5 : F 0 5 = u0_5) (u0_7 : Int) (eu0_7 : F 0 7 = u0_7) (u0_12 : Int) (eu0_12 : F 0 12 = u0_12) (u1_1 : Int) (eu1_1 : F 1 1 = u1_1) (h0 : inr (a3)) (k : ∀ (σ : rS) (F' : hF) (A' : hA), HW V222_Row_Row σ D N F' A' → OUT (V222_Row_Row).length D N σE c s D N σ c s → SF [(0, 4), (0, 5), (0, 6), (0, 7), (0, 12)] F F' → SA [] A A' → ∀ y0_5 : Int, F' 0 5 = y0_5 → ∀ y0_7 : Int, F' 0 7 = y0_7 → ∀ y0_12 : Int, F' 0 12 = y0_12 → F' 0 4 = (D 3 : Int) → F' 0 6 = (D 2 : Int) → ((y0_5) = (u1_1) ∧ (y0_7) = (a3) ∧ (y0_12) = (u1_1)) → Q none σ c s) : Ew 222 (d + 0) 0 (rargs 0 [.ref (D 0), .ref (D 1), .ref (D 2), I a3]) [] σE c s Q := by
  have O := OUT_refl (n := (V222_Row_Row).length) (D := D) (N := N) (σ := σE) (c := c) (s := s)
  have HE := H
  have r1 : (-2147483648 : Int) ≤ u0_5 ∧ u0_5 ≤ 2147483647 := by have h1 : (-2147483648 : Int) ≤ F 0 5 ∧ F 0 5 ≤ 2147483647 := H.krg 0 5 (by decide); rw [show F 0 5 = u0_5 from (eu0_5)] at h1; exact h1
  have r2 : (-2147483648 : Int) ≤ u0_7 ∧ u0_7 ≤ 2147483647 := by have h1 : (-2147483648 : Int) ≤ F 0 7 ∧ F 0 7 ≤ 2147483647 := H.krg 0 7 (by decide); rw [show F 0 7 = u0_7 from (eu0_7)] at h1; exact h1
  have r3 : (-2147483648 : Int) ≤ u0_12 ∧ u0_12 ≤ 2147483647 := by have h1 : (-2147483648 : Int) ≤ F 0 12 ∧ F 0 12 ≤ 2147483647 := H.krg 0 12 (by decide); rw [show F 0 12 = u0_12 from (eu0_12)] at h1; exact h1
  have r4 : (-2147483648 : Int) ≤ u1_1 ∧ u1_1 ≤ 2147483647 := by have h1 : (-2147483648 : Int) ≤ F 1 1 ∧ F 1 1 ≤ 2147483647 := H.krg 1 1 (by decide); rw [show F 1 1 = u1_1 from (eu1_1)] at h1; exact h1
  have r5 : (0 : Int) ≤ n3 ∧ n3 ≤ 1000000 := by have h1 := H.nle 3 (by decide); have h2 : (N 3 : Int) = n3 := en3; omega
  refine Ew_of (pc' := 1) (fun _ => x_aload_n rfl rfl) ?_
  refine Ew_of (pc' := 2) (fun _ => x_aload_n rfl rfl) ?_
  refine v_g H (o := 1) (v := .ref (D 3)) rfl rfl rfl rfl rfl (vrf (pf3)) ?_
  refine v_p H (o := 0) (z := ((D 3 : Nat) : Int)) (v := .ref (D 3)) rfl rfl rfl rfl rfl rfl (vrf rfl) rfl (show (-1 : Int) ≤ ((D 3 : Nat) : Int) by omega) (fun σ H O' => ?_)
  have O := OUT_trans O O'
  refine Ew_of (pc' := 9) (fun _ => x_aload_n rfl rfl) ?_
  refine Ew_of (pc' := 10) (fun _ => x_aload_n rfl rfl) ?_
  refine v_g H (o := 1) (v := I (u1_1)) rfl rfl rfl rfl rfl (congrArg (fun z : Int => I z) ((eu1_1) : (updF F 0 4 ((D 3 : Nat) : Int)) 1 1 = u1_1)) ?_
  refine v_p H (o := 0) (z := u1_1) (v := I (u1_1)) rfl rfl rfl rfl rfl rfl rfl rfl (show (-2147483648 : Int) ≤ u1_1 ∧ u1_1 ≤ 2147483647 by omega) (fun σ H O' => ?_)
  have O := OUT_trans O O'
  refine Ew_of (pc' := 17) (fun _ => x_aload_n rfl rfl) ?_
  refine Ew_of (pc' := 18) (fun _ => x_aload_n rfl rfl) ?_
  refine v_p H (o := 0) (z := ((D 2 : Nat) : Int)) (v := .ref (D 2)) rfl rfl rfl rfl rfl rfl (vrf rfl) rfl (show (-1 : Int) ≤ ((D 2 : Nat) : Int) by omega) (fun σ H O' => ?_)
  have O := OUT_trans O O'
  refine Ew_of (pc' := 22) (fun _ => x_aload_n rfl rfl) ?_
  refine Ew_of (pc' := 23) (fun _ => x_iload_n rfl rfl) ?_
  refine v_p H (o := 0) (z := a3) (v := I (a3)) rfl rfl rfl rfl rfl rfl rfl rfl (show (-2147483648 : Int) ≤ a3 ∧ a3 ≤ 2147483647 by omega) (fun σ H O' => ?_)
  have O := OUT_trans O O'
  refine Ew_of (pc' := 27) (fun _ => x_aload_n rfl rfl) ?_
  refine Ew_of (pc' := 28) (fun _ => x_aload_n rfl rfl) ?_
  refine v_g H (o := 0) (v := I (u1_1)) rfl rfl rfl rfl rfl (congrArg (fun z : Int => I z) (rfl : (updF (updF (updF (updF F 0 4 ((D 3 : Nat) : Int)) 0 5 (u1_1)) 0 6 ((D 2 : Nat) : Int)) 0 7 (a3)) 0 5 = u1_1)) ?_
  refine v_p H (o := 0) (z := u1_1) (v := I (u1_1)) rfl rfl rfl rfl rfl rfl rfl rfl (show (-2147483648 : Int) ≤ u1_1 ∧ u1_1 ≤ 2147483647 by omega) (fun σ H O' => ?_)
  have O := OUT_trans O O'
  exact w_ret rfl (k _ _ _ H O (SF_upd (SF_upd (SF_upd (SF_upd (SF_upd (SF_refl) rfl) rfl) rfl) rfl) rfl) (SA_refl) (u1_1) (rfl) (a3) (rfl) (u1_1) (rfl) ((show (updF F 0 4 ((D 3 : Nat) : Int)) 0 4 = ((D 3 : Nat) : Int) from rfl)) ((show (updF (updF (updF F 0 4 ((D 3 : Nat) : Int)) 0 5 (u1_1)) 0 6 ((D 2 : Nat) : Int)) 0 6 = ((D 2 : Nat) : Int) from rfl)) (show (u1_1) = (u1_1) ∧ (a3) = a3 ∧ (u1_1) = (u1_1) by omega))
abbrev V223_Row_Row : vV := [(0, 11, [(4, 0), (4, 0), (4, 0), (4, 0), (4, 0), (0, 0), (4, 0), (0, 0), (0, 0), (0, 0), (0, 0), (0, 0), (0, 0)]), (0, 7, [(4, 0), (0, 0), (1, 0), (0, 0), (0, 0)]), (0, 7, [(4, 0), (0, 0), (1, 0), (0, 0), (0, 0)]), (1, 0, []), (1, 0, []), (0, 7, [(4, 0), (0, 0), (1, 0), (0, 0), (0, 0)]), (1, 0, [])]
/-- Tokens.unpackAlone: this, #1, #2, #1.bytes, #2.bytes, this.past, this.past.bytes -/
theorem C223_Row_Row {σE : rS} {D N : Nat → Nat} {F : hF} {A : hA} {d c s : Nat} {Q : wQ} (H : HW V223_Row_Row σE D N F A) {a3 : Int} (pf3 : F 1 0 = (D 3 : Int)) (pf4 : F 2 0 = (D 4 : Int)) (pf5 : F 0 1 = (D 5 : Int)) (pf6 : F 5 0 = (D 6 : Int)) (n3 : Int) (en3 : (N 3 : Int) = n3) (n4 : Int) (en4 : (N 4 : Int) = n4) (n6 : Int) (en6 : (N 6 : Int) = n6) (u1_1 : Int) (eu1_1 : F 1 1 = u1_1) (u2_1 : Int) (eu2_1 : F 2 1 = u2_1) (u5_1 : Int) (eu5_1 : F 5 1 = u5_1) (h0 : inr (a3)) (h1 : 0 ≤ (u1_1) ∧ (u1_1) ≤ (n3) ∧ (n3) ≤ 65536) (h2 : 0 ≤ (u2_1) ∧ (u2_1) ≤ (n4) ∧ (n4) ≤ 65536) (h3 : 0 ≤ (u5_1) ∧ (u5_1) ≤ (n6) ∧ (n6) ≤ 65536) (h4 : 0 ≤ (a3) ∧ (a3) ≤ 65536) (k : ∀ (z : Int) (σ : rS) (D' N' : Nat → Nat) (F' : hF) (A' : hA) (c' s' : Nat), HW V223_Row_Row σ D' N' F' A' → OUT (V223_Row_Row).length D N σE c s D' N' σ c' s' → SD [4] D D' → SD [4] N N' → SF [(0, 4), (0, 5), (0, 6), (0, 7), (0, 11), (0, 12), (2, 0), (2, 1), (2, 2)] F F' → SA [4] A A' → F' 2 0 = (D' 4 : Int) → ∀ m4 : Int, (N' 4 : Int) = m4 → ∀ y2_1 : Int, F' 2 1 = y2_1 → (inr (z)) → (0 ≤ (z) ∧ (z) ≤ 3) → (0 ≤ (y2_1) ∧ (y2_1) ≤ (m4) ∧ (m4) ≤ 65536) → Q (some (I z)) σ c' s') : Ew 223 (d + 4) 0 (rargs 0 [.ref (D 0), .ref (D 1), .ref (D 2), I a3]) [] σE c s Q := by
  have O := OUT_refl (n := (V223_Row_Row).length) (D := D) (N := N) (σ := σE) (c := c) (s := s)
  have HE := H
  have r1 : (-2147483648 : Int) ≤ u1_1 ∧ u1_1 ≤ 2147483647 := by have h1 : (-2147483648 : Int) ≤ F 1 1 ∧ F 1 1 ≤ 2147483647 := H.krg 1 1 (by decide); rw [show F 1 1 = u1_1 from (eu1_1)] at h1; exact h1
  have r2 : (-2147483648 : Int) ≤ u2_1 ∧ u2_1 ≤ 2147483647 := by have h1 : (-2147483648 : Int) ≤ F 2 1 ∧ F 2 1 ≤ 2147483647 := H.krg 2 1 (by decide); rw [show F 2 1 = u2_1 from (eu2_1)] at h1; exact h1
  have r3 : (-2147483648 : Int) ≤ u5_1 ∧ u5_1 ≤ 2147483647 := by have h1 : (-2147483648 : Int) ≤ F 5 1 ∧ F 5 1 ≤ 2147483647 := H.krg 5 1 (by decide); rw [show F 5 1 = u5_1 from (eu5_1)] at h1; exact h1
  have r4 : (0 : Int) ≤ n3 ∧ n3 ≤ 1000000 := by have h1 := H.nle 3 (by decide); have h2 : (N 3 : Int) = n3 := en3; omega
  have r5 : (0 : Int) ≤ n4 ∧ n4 ≤ 1000000 := by have h1 := H.nle 4 (by decide); have h2 : (N 4 : Int) = n4 := en4; omega
  have r6 : (0 : Int) ≤ n6 ∧ n6 ≤ 1000000 := by have h1 := H.nle 6 (by decide); have h2 : (N 6 : Int) = n6 := en6; omega
  refine Ew_of (pc' := 1) (fun _ => x_aload_n rfl rfl) ?_
  refine Ew_of (pc' := 2) (fun _ => x_aload_n rfl rfl) ?_
  refine Ew_of (pc' := 3) (fun _ => x_aload_n rfl rfl) ?_
  refine Ew_of (pc' := 4) (fun _ => x_iload_n rfl rfl) ?_
  have r7 : (-2147483648 : Int) ≤ F 0 5 ∧ F 0 5 ≤ 2147483647 := by have h1 : (-2147483648 : Int) ≤ F 0 5 ∧ F 0 5 ≤ 2147483647 := H.krg 0 5 (by decide); rw [show F 0 5 = F 0 5 from rfl] at h1; exact h1
  have r8 : (-2147483648 : Int) ≤ F 0 7 ∧ F 0 7 ≤ 2147483647 := by have h1 : (-2147483648 : Int) ≤ F 0 7 ∧ F 0 7 ≤ 2147483647 := H.krg 0 7 (by decide); rw [show F 0 7 = F 0 7 from rfl] at h1; exact h1
  have r9 : (-2147483648 : Int) ≤ F 0 12 ∧ F 0 12 ≤ 2147483647 := by have h1 : (-2147483648 : Int) ≤ F 0 12 ∧ F 0 12 ≤ 2147483647 := H.krg 0 12 (by decide); rw [show F 0 12 = F 0 12 from rfl] at h1; exact h1
  refine v_inv H (o := 0) rfl rfl rfl rfl rfl rfl (by rfl) (C222_Row_Row (D := pul [0, 1, 2, 3] D) (N := pul [0, 1, 2, 3] N) (HW_sub H (VS_of (show vsub V223_Row_Row V222_Row_Row [0, 1, 2, 3] = true by decide +kernel))) (pf3) (n3) (en3) (F 0 5) (rfl) (F 0 7) (rfl) (F 0 12) (rfl) (u1_1) ((eu1_1)) (show inr (a3) by omega) (fun σ10 F10' A10' H' O' hS10 hA10 y10_0_5 ey10_0_5 y10_0_7 ey10_0_7 y10_0_12 ey10_0_12 pq10_0 pq10_1 pz10_0 => ⟨rfl, ?_⟩))
  refine v_back (c := c) (s := s) H (show vsub V223_Row_Row V222_Row_Row [0, 1, 2, 3] = true by decide +kernel) H' O' (fun F10 A10 H O' eF10 eA10 => ?_)
  have O := OUT_trans O O'
  -- Tokens.begin
  have pl10_0 : F10 0 4 = (D 3 : Int) := (eF10 0 4).trans (pq10_0)
  have pl10_1 : F10 0 6 = (D 2 : Int) := (eF10 0 6).trans (pq10_1)
  have r11 : (-2147483648 : Int) ≤ y10_0_5 ∧ y10_0_5 ≤ 2147483647 := by have h1 : (-2147483648 : Int) ≤ F10 0 5 ∧ F10 0 5 ≤ 2147483647 := H.krg 0 5 (by decide); rw [show F10 0 5 = y10_0_5 from ((eF10 0 5).trans ey10_0_5)] at h1; exact h1
  have r12 : (-2147483648 : Int) ≤ y10_0_7 ∧ y10_0_7 ≤ 2147483647 := by have h1 : (-2147483648 : Int) ≤ F10 0 7 ∧ F10 0 7 ≤ 2147483647 := H.krg 0 7 (by decide); rw [show F10 0 7 = y10_0_7 from ((eF10 0 7).trans ey10_0_7)] at h1; exact h1
  have r13 : (-2147483648 : Int) ≤ y10_0_12 ∧ y10_0_12 ≤ 2147483647 := by have h1 : (-2147483648 : Int) ≤ F10 0 12 ∧ F10 0 12 ≤ 2147483647 := H.krg 0 12 (by decide); rw [show F10 0 12 = y10_0_12 from ((eF10 0 12).trans ey10_0_12)] at h1; exact h1
  refine Ew_of (pc' := 8) (fun _ => x_aload_n rfl rfl) ?_
  refine Ew_of (pc' := 9) (fun _ => x_iconst rfl) ?_
  refine Ew_of (pc' := 10) (fun _ => x_aload_n rfl rfl) ?_
  refine v_g H (o := 0) (v := I (y10_0_5)) rfl rfl rfl rfl rfl (congrArg (fun z : Int => I z) (((eF10 0 5).trans ey10_0_5) : F10 0 5 = y10_0_5)) ?_
  refine Ew_of (pc' := 14) (fun _ => x_iconst rfl) ?_
  refine Ew_of (pc' := 15) (fun _ => x_aload_n rfl rfl) ?_
  refine v_g H (o := 0) (v := I (y10_0_7)) rfl rfl rfl rfl rfl (congrArg (fun z : Int => I z) (((eF10 0 7).trans ey10_0_7) : F10 0 7 = y10_0_7)) ?_
  refine v_inv H (o := 0) rfl rfl rfl rfl rfl rfl (by rfl) (C224 (D := pul [0, 3, 2, 4, 5, 6] D) (N := pul [0, 3, 2, 4, 5, 6] N) (HW_sub H (VS_of (show vsub V223_Row_Row V224 [0, 3, 2, 4, 5, 6] = true by decide +kernel))) (pl10_0) (pl10_1) ((((show F10 2 0 = F 2 0 from (eF10 2 0).trans (hS10 2 0 rfl)))).trans (pf4)) ((((show F10 0 1 = F 0 1 from (eF10 0 1).trans (hS10 0 1 rfl)))).trans (pf5)) ((((show F10 5 0 = F 5 0 from (eF10 5 0)))).trans (pf6)) (n3) (en3) (n4) (en4) (n6) (en6) (u2_1) ((((show F10 2 1 = F 2 1 from (eF10 2 1).trans (hS10 2 1 rfl))).trans (eu2_1))) (u5_1) ((((show F10 5 1 = F 5 1 from (eF10 5 1))).trans (eu5_1))) (show inr (0) by omega) (show inr (y10_0_5) by omega) (show inr (0) by omega) (show inr (y10_0_7) by omega) (show 0 ≤ (0) ∧ (0) ≤ (y10_0_5) ∧ (y10_0_5) ≤ (n3) ∧ (n3) ≤ 65536 by omega) (show 0 ≤ (u2_1) ∧ (u2_1) ≤ (n4) ∧ (n4) ≤ 65536 by omega) (show 0 ≤ (u5_1) ∧ (u5_1) ≤ (n6) ∧ (n6) ≤ 65536 by omega) (show 0 ≤ (0) ∧ (0) ≤ (u2_1) by omega) (show 0 ≤ (y10_0_7) ∧ (y10_0_7) ≤ 65536 by omega) (fun z14 σ14 D14' N14' F14' A14' c14 s14 H' O' hD14 hN14 hS14 hA14 pm14_3 m14_3 em14_3 y14_2_1 ey14_2_1 pz14_0 pz14_1 pz14_2 pz14_3 pz14_4 => ⟨rfl, ?_⟩))
  refine v_backM (c := c) (s := s) H (show vsub V223_Row_Row V224 [0, 3, 2, 4, 5, 6] = true by decide +kernel) H' O' hD14 (show vmov V223_Row_Row [0, 3, 2, 4, 5, 6] [3] = true by decide +kernel) (fun D14 N14 F14 A14 H O' eD14 eN14 eF14 eA14 => ?_)
  have O := OUT_trans O O'
  -- Tokens.unpackBlock
  have pf14_0_1 : F14 0 1 = (D14 5 : Int) := ((show F14 0 1 = F10 0 1 from (eF14 0 1).trans (hS14 0 1 rfl))).trans (((((show F10 0 1 = F 0 1 from (eF10 0 1).trans (hS10 0 1 rfl)))).trans (pf5)).trans (congrArg (fun q : Nat => (q : Int)) ((show D14 5 = D 5 from (eD14 5).trans (hD14 4 rfl))).symm))
  have pf14_0_4 : F14 0 4 = (D14 3 : Int) := ((show F14 0 4 = F10 0 4 from (eF14 0 4).trans (hS14 0 4 rfl))).trans ((pl10_0).trans (congrArg (fun q : Nat => (q : Int)) ((show D14 3 = D 3 from (eD14 3).trans (hD14 1 rfl))).symm))
  have pf14_0_6 : F14 0 6 = (D14 2 : Int) := ((show F14 0 6 = F10 0 6 from (eF14 0 6).trans (hS14 0 6 rfl))).trans ((pl10_1).trans (congrArg (fun q : Nat => (q : Int)) ((show D14 2 = D 2 from (eD14 2).trans (hD14 2 rfl))).symm))
  have pf14_1_0 : F14 1 0 = (D14 3 : Int) := ((show F14 1 0 = F10 1 0 from (eF14 1 0))).trans (((((show F10 1 0 = F 1 0 from (eF10 1 0).trans (hS10 1 0 rfl)))).trans (pf3)).trans (congrArg (fun q : Nat => (q : Int)) ((show D14 3 = D 3 from (eD14 3).trans (hD14 1 rfl))).symm))
  have pf14_2_0 : F14 2 0 = (D14 4 : Int) := (eF14 2 0).trans (pm14_3.trans (congrArg (fun q : Nat => (q : Int)) (eD14 4).symm))
  have pf14_5_0 : F14 5 0 = (D14 6 : Int) := ((show F14 5 0 = F10 5 0 from (eF14 5 0).trans (hS14 4 0 rfl))).trans (((((show F10 5 0 = F 5 0 from (eF10 5 0)))).trans (pf6)).trans (congrArg (fun q : Nat => (q : Int)) ((show D14 6 = D 6 from (eD14 6).trans (hD14 5 rfl))).symm))
  have r15 : (0 : Int) ≤ m14_3 ∧ m14_3 ≤ 1000000 := by have h1 := H.nle 4 (by decide); have h2 : (N14 4 : Int) = m14_3 := (congrArg (fun q : Nat => (q : Int)) (eN14 4)).trans em14_3; omega
  have r16 : (-2147483648 : Int) ≤ y14_2_1 ∧ y14_2_1 ≤ 2147483647 := by have h1 : (-2147483648 : Int) ≤ F14 2 1 ∧ F14 2 1 ≤ 2147483647 := H.krg 2 1 (by decide); rw [show F14 2 1 = y14_2_1 from ((eF14 2 1).trans ey14_2_1)] at h1; exact h1
  exact w_ireturn rfl (k (z14) _ _ _ _ _ _ _ H O (SD_trans (SD_refl) (SD_glu (ι := [0, 3, 2, 4, 5, 6]) hD14 eD14 (by decide +kernel)) (any_subA (l' := [4]) rfl)) (SD_trans (SD_refl) (SD_glu (ι := [0, 3, 2, 4, 5, 6]) hN14 eN14 (by decide +kernel)) (any_subA (l' := [4]) rfl)) (SF_trans (SF_trans (SF_refl) (SF_glu (ι := [0, 1, 2, 3]) hS10 eF10 (by decide +kernel)) (any_sub (l' := [(0, 4), (0, 5), (0, 6), (0, 7), (0, 12)]) rfl)) (SF_glu (ι := [0, 3, 2, 4, 5, 6]) hS14 eF14 (by decide +kernel)) (any_sub (l' := [(0, 11), (0, 12), (2, 0), (2, 1), (2, 2)]) rfl)) (SA_trans (SA_trans (SA_refl) (SA_glu (ι := [0, 1, 2, 3]) hA10 eA10 (by decide +kernel)) (any_subA (l' := []) rfl)) (SA_glu (ι := [0, 3, 2, 4, 5, 6]) hA14 eA14 (by decide +kernel)) (any_subA (l' := [4]) rfl)) (pf14_2_0) (m14_3) ((congrArg (fun q : Nat => (q : Int)) (eN14 4)).trans em14_3) (y14_2_1) (((eF14 2 1).trans ey14_2_1)) (show inr (z14) by omega) (show 0 ≤ (z14) ∧ (z14) ≤ 3 by omega) (show 0 ≤ (y14_2_1) ∧ (y14_2_1) ≤ (m14_3) ∧ (m14_3) ≤ 65536 by omega))
