abbrev V221 : vV := [(0, 11, [(4, 0), (4, 0), (4, 0), (4, 0), (4, 0), (0, 0), (4, 0), (0, 0), (0, 0), (0, 0), (0, 0), (0, 0), (0, 0)])]
/-- Tokens.fail: this -/
theorem C221 {σE : rS} {D N : Nat → Nat} {F : hF} {A : hA} {d c s : Nat} {Q : wQ} (H : HW V221 σE D N F A) {a1 a2 : Int} (u0_12 : Int) (eu0_12 : F 0 12 = u0_12) (h0 : inr (a1)) (h1 : inr (a2)) (k : ∀ (z : Int) (σ : rS) (Fₚ : hF) (Aₚ : hA), HW V221 σ D N Fₚ Aₚ → OUT (V221).length D N σE c s D N σ c s → SF [(0, 12)] F Fₚ → SA [] A Aₚ → ∀ y0_12 : Int, Fₚ 0 12 = y0_12 → (inr (z)) → ((z) = (a1)) → ((y0_12) = (a2)) → Q (some (I z)) σ c s) : Ew 221 (d + 0) 0 (rargs 0 [.ref (D 0), I a1, I a2]) [] σE c s Q := by
  have O := OUT_refl (n := (V221).length) (D := D) (N := N) (σ := σE) (c := c) (s := s)
  have HE := H
  have r1 : (-2147483648 : Int) ≤ u0_12 ∧ u0_12 ≤ 2147483647 := by have h1 : (-2147483648 : Int) ≤ F 0 12 ∧ F 0 12 ≤ 2147483647 := H.krg 0 12 (by decide); rw [show F 0 12 = u0_12 from (eu0_12)] at h1; exact h1
  refine Ew_of (pcₚ := 1) (fun _ => x_aload_n rfl rfl) ?_
  refine Ew_of (pcₚ := 2) (fun _ => x_iload_n rfl rfl) ?_
  refine v_p H (o := 0) (z := a2) (v := I (a2)) rfl rfl rfl rfl rfl rfl rfl rfl (show (-2147483648 : Int) ≤ a2 ∧ a2 ≤ 2147483647 by omega) (fun σ H Oₚ => ?_)
  have O := OUT_trans O Oₚ
  refine Ew_of (pcₚ := 6) (fun _ => x_iload_n rfl rfl) ?_
  exact w_ireturn rfl (k (a1) _ _ _ H O (SF_upd (SF_refl) rfl) (SA_refl) (a2) (rfl) (show inr (a1) by omega) (show (a1) = a1 by omega) (show (a2) = a2 by omega))
abbrev V225 : vV := [(0, 11, [(4, 0), (4, 0), (4, 0), (4, 0), (4, 0), (0, 0), (4, 0), (0, 0), (0, 0), (0, 0), (0, 0), (0, 0), (0, 0)]), (1, 0, [])]
/-- Tokens.addUp: this, this.in -/
theorem C225 {σE : rS} {D N : Nat → Nat} {F : hF} {A : hA} {d c s : Nat} {Q : wQ} (H : HW V225 σE D N F A) {a1 a2 a3 : Int} (pf1 : F 0 4 = (D 1 : Int)) (n1 : Int) (en1 : (N 1 : Int) = n1) (u0_11 : Int) (eu0_11 : F 0 11 = u0_11) (h0 : inr (a1)) (h1 : inr (a2)) (h2 : inr (a3)) (h3 : 0 ≤ (a1) ∧ (a1) ≤ 15) (h4 : 0 ≤ (a2) ∧ (a2) ≤ (a3) ∧ (a3) ≤ (n1) ∧ (n1) ≤ 65536) (k : ∀ (z : Int) (σ : rS) (Fₚ : hF) (Aₚ : hA), HW V225 σ D N Fₚ Aₚ → OUT (V225).length D N σE c s D N σ c s → SF [(0, 11)] F Fₚ → SA [] A Aₚ → ∀ y0_11 : Int, Fₚ 0 11 = y0_11 → (inr (z)) → ((z) = -1 ∨ (a2) ≤ (z) ∧ (z) ≤ (a3)) → (0 ≤ (y0_11) ∧ (y0_11) ≤ 17000000) → Q (some (I z)) σ c s) : Ew 225 (d + 0) 0 (rargs 0 [.ref (D 0), I a1, I a2, I a3]) [] σE c s Q := by
  have O := OUT_refl (n := (V225).length) (D := D) (N := N) (σ := σE) (c := c) (s := s)
  have HE := H
  have r1 : (-2147483648 : Int) ≤ u0_11 ∧ u0_11 ≤ 2147483647 := by have h1 : (-2147483648 : Int) ≤ F 0 11 ∧ F 0 11 ≤ 2147483647 := H.krg 0 11 (by decide); rw [show F 0 11 = u0_11 from (eu0_11)] at h1; exact h1
  have r2 : (0 : Int) ≤ n1 ∧ n1 ≤ 1000000 := by have h1 := H.nle 1 (by decide); have h2 : (N 1 : Int) = n1 := en1; omega
  refine Ew_of (pcₚ := 1) (fun _ => x_aload_n rfl rfl) ?_
  refine Ew_of (pcₚ := 2) (fun _ => x_iload_n rfl rfl) ?_
  refine v_p H (o := 0) (z := a1) (v := I (a1)) rfl rfl rfl rfl rfl rfl rfl rfl (show (-2147483648 : Int) ≤ a1 ∧ a1 ≤ 2147483647 by omega) (fun σ H Oₚ => ?_)
  have O := OUT_trans O Oₚ
  refine Ew_of (pcₚ := 6) (fun _ => x_iload_n rfl rfl) ?_
  refine Ew_of (pcₚ := 8) (fun _ => x_bipush (z := 15) rfl (by decide)) ?_
  refine w_icmpge (t := 13) rfl rfl (show inr (a1) by omega) (show inr (15) by omega) (fun b3 => ?_) (fun b3 => ?_)
  · refine Ew_of (pcₚ := 14) (fun _ => x_iload_n rfl rfl) ?_
    refine Ew_of (pcₚ := 16) (fun _ => x_istore rfl) ?_
    suffices hl16 : ∀ (m : Nat), ∀ (ls : rO) (σ : rS) (F_16 : hF) (A_16 : hA) (x16_4 : Int), rlook ls 0 = some (.ref (D 0)) → rlook ls 3 = some (I (a3)) → rlook ls 4 = some (I (x16_4)) → HW V225 σ D N F_16 A_16 → OUT (V225).length D N σE c s D N σ c s → SF [(0, 11)] (updF F 0 11 (a1)) F_16 → SA [] A A_16 → ∀ y16_0_11 : Int, F_16 0 11 = y16_0_11 → (inr (x16_4)) → ((a2) ≤ (x16_4)) → ((x16_4) ≤ (a2) ∨ (x16_4) ≤ ((a3))) → (0 ≤ (y16_0_11) ∧ (y16_0_11) ≤ 15 + 255 * ((x16_4) - (a2))) → (((a3)) - (x16_4)).toNat = m → Ew 225 (d + 0) 16 ls [] σ c s Q from
      hl16 _ _ _ _ _ (a2) (rk_o (rfl) rfl rfl) (rk_o (rfl) rfl rfl) (rk_s) H O (SF_refl) (SA_refl)   (a1) (rfl)  (show inr (a2) by omega) (show (a2) ≤ (a2) by omega) (show (a2) ≤ (a2) ∨ (a2) ≤ ((a3)) by omega) (show 0 ≤ (a1) ∧ (a1) ≤ 15 + 255 * ((a2) - (a2)) by omega) rfl
    as_aux_lemma =>
    intro m
    induction m using Nat.strongRecOn with
    | _ m ih16 =>
      intro ls σ F_16 A_16 x16_4 l16_0 l16_3 l16_4 H O hS_16 hA_16   y16_0_11 ey16_0_11  j16_0 j16_1 j16_2 j16_3 hm16
      have r4 : (-2147483648 : Int) ≤ y16_0_11 ∧ y16_0_11 ≤ 2147483647 := by have h1 : (-2147483648 : Int) ≤ F_16 0 11 ∧ F_16 0 11 ≤ 2147483647 := H.krg 0 11 (by decide); rw [show F_16 0 11 = y16_0_11 from (ey16_0_11)] at h1; exact h1
      refine Ew_of (pcₚ := 18) (fun _ => x_iload rfl l16_4) ?_
      refine Ew_of (pcₚ := 19) (fun _ => x_iload_n rfl l16_3) ?_
      refine w_icmpge (t := 65) rfl rfl (show inr (x16_4) by omega) (show inr (a3) by omega) (fun b5 => ?_) (fun b5 => ?_)
      · refine Ew_of (pcₚ := 66) (fun _ => x_iconst rfl) ?_
        exact w_ireturn rfl (k ((-1)) _ _ _ H O (SF_trans (SF_upd (SF_refl) rfl) hS_16 (any_sub rfl)) (SA_trans (SA_refl) hA_16 (any_subA rfl)) (y16_0_11) ((ey16_0_11)) (show inr ((-1)) by omega) (show ((-1)) = -1 ∨ a2 ≤ ((-1)) ∧ ((-1)) ≤ a3 by omega) (show 0 ≤ (y16_0_11) ∧ (y16_0_11) ≤ 17000000 by omega))
      · refine Ew_of (pcₚ := 23) (fun _ => x_aload_n rfl l16_0) ?_
        refine v_g H (o := 0) (v := .ref (D 1)) rfl rfl rfl rfl rfl (vrf (((hS_16 0 4 rfl)).trans (pf1))) ?_
        refine Ew_of (pcₚ := 28) (fun _ => x_iload rfl l16_4) ?_
        refine v_lB H (o := 1) rfl rfl rfl rfl (n := n1) (en1) (show 0 ≤ x16_4 ∧ x16_4 < n1 by omega) (fun v6 ev6 qv6 => ?_)
        have ev6 : (A 1) (x16_4) = v6 := (congrFun (funext (hA_16 1 rfl)) (x16_4)).symm.trans ev6
        refine Ew_of (pcₚ := 32) (fun _ => x_sipush (z := 255) rfl (by decide)) ?_
        refine w_iand rfl (show inr (v6) by omega) (show inr (255) by omega) (fun z7 gz7 gaz7 gbz7 => ?_)
        refine Ew_of (pcₚ := 35) (fun _ => x_istore rfl) ?_
        refine Ew_of (pcₚ := 36) (fun _ => x_aload_n rfl (rk_o (l16_0) rfl rfl)) ?_
        refine Ew_of (pcₚ := 37) (fun _ => x_dup rfl rfl) ?_
        refine v_g H (o := 0) (v := I (y16_0_11)) rfl rfl rfl rfl rfl (congrArg (fun z : Int => I z) ((ey16_0_11) : F_16 0 11 = y16_0_11)) ?_
        refine Ew_of (pcₚ := 42) (fun _ => x_iload rfl rk_s) ?_
        refine w_iadd rfl ?_
        refine v_p H (o := 0) (z := (y16_0_11 + z7)) (v := I ((y16_0_11 + z7))) rfl rfl rfl rfl rfl rfl rfl rfl (show (-2147483648 : Int) ≤ (y16_0_11 + z7) ∧ (y16_0_11 + z7) ≤ 2147483647 by omega) (fun σ H Oₚ => ?_)
        have O := OUT_trans O Oₚ
        refine Ew_of (pcₚ := 48) (fun _ => x_iload rfl rk_s) ?_
        refine Ew_of (pcₚ := 51) (fun _ => x_sipush (z := 255) rfl (by decide)) ?_
        refine w_icmpge (t := 59) rfl rfl (show inr (z7) by omega) (show inr (255) by omega) (fun b8 => ?_) (fun b8 => ?_)
        · refine Ew_of (pcₚ := 62) (fun _ => x_iinc (len := 3) rfl (rk_o (l16_4) rfl rfl)) ?_
          refine Ew_of (pcₚ := 16) (fun _ => x_goto rfl rfl) ?_
          exact ih16 _ (by omega) _ _ _ _ ((x16_4 + 1)) (rk_o (rk_o (l16_0) rfl rfl) rfl rfl) (rk_o (rk_o (l16_3) rfl rfl) rfl rfl) (rk_s) H O (SF_upd (hS_16) rfl) (hA_16)   ((y16_0_11 + z7)) (rfl)  (show inr ((x16_4 + 1)) by omega) (show (a2) ≤ ((x16_4 + 1)) by omega) (show ((x16_4 + 1)) ≤ (a2) ∨ ((x16_4 + 1)) ≤ ((a3)) by omega) (show 0 ≤ ((y16_0_11 + z7)) ∧ ((y16_0_11 + z7)) ≤ 15 + 255 * (((x16_4 + 1)) - (a2)) by omega) rfl
        · refine Ew_of (pcₚ := 56) (fun _ => x_iload rfl (rk_o (l16_4) rfl rfl)) ?_
          refine Ew_of (pcₚ := 57) (fun _ => x_iconst rfl) ?_
          refine w_iadd rfl ?_
          exact w_ireturn rfl (k ((x16_4 + 1)) _ _ _ H O (SF_upd (SF_trans (SF_upd (SF_refl) rfl) hS_16 (any_sub rfl)) rfl) (SA_trans (SA_refl) hA_16 (any_subA rfl)) ((y16_0_11 + z7)) (rfl) (show inr ((x16_4 + 1)) by omega) (show ((x16_4 + 1)) = -1 ∨ a2 ≤ ((x16_4 + 1)) ∧ ((x16_4 + 1)) ≤ a3 by omega) (show 0 ≤ ((y16_0_11 + z7)) ∧ ((y16_0_11 + z7)) ≤ 17000000 by omega))
  · refine Ew_of (pcₚ := 12) (fun _ => x_iload_n rfl rfl) ?_
    exact w_ireturn rfl (k (a2) _ _ _ H O (SF_upd (SF_refl) rfl) (SA_refl) (a1) (rfl) (show inr (a2) by omega) (show (a2) = -1 ∨ a2 ≤ (a2) ∧ (a2) ≤ a3 by omega) (show 0 ≤ (a1) ∧ (a1) ≤ 17000000 by omega))
abbrev V224 : vV := [(0, 11, [(4, 0), (4, 0), (4, 0), (4, 0), (4, 0), (0, 0), (4, 0), (0, 0), (0, 0), (0, 0), (0, 0), (0, 0), (0, 0)]), (1, 0, []), (0, 7, [(4, 0), (0, 0), (1, 0), (0, 0), (0, 0)]), (1, 0, []), (0, 7, [(4, 0), (0, 0), (1, 0), (0, 0), (0, 0)]), (1, 0, [])]
/-- Tokens.unpackBlock: this, this.in, this.result, this.result.bytes, this.past, this.past.bytes -/
theorem C224 {σE : rS} {D N : Nat → Nat} {F : hF} {A : hA} {d c s : Nat} {Q : wQ} (H : HW V224 σE D N F A) {a1 a2 a3 a4 : Int} (pf1 : F 0 4 = (D 1 : Int)) (pf2 : F 0 6 = (D 2 : Int)) (pf3 : F 2 0 = (D 3 : Int)) (pf4 : F 0 1 = (D 4 : Int)) (pf5 : F 4 0 = (D 5 : Int)) (n1 : Int) (en1 : (N 1 : Int) = n1) (n3 : Int) (en3 : (N 3 : Int) = n3) (n5 : Int) (en5 : (N 5 : Int) = n5) (u2_1 : Int) (eu2_1 : F 2 1 = u2_1) (u4_1 : Int) (eu4_1 : F 4 1 = u4_1) (h0 : inr (a1)) (h1 : inr (a2)) (h2 : inr (a3)) (h3 : inr (a4)) (h4 : 0 ≤ (a1) ∧ (a1) ≤ (a2) ∧ (a2) ≤ (n1) ∧ (n1) ≤ 65536) (h5 : 0 ≤ (u2_1) ∧ (u2_1) ≤ (n3) ∧ (n3) ≤ 65536) (h6 : 0 ≤ (u4_1) ∧ (u4_1) ≤ (n5) ∧ (n5) ≤ 65536) (h7 : 0 ≤ (a3) ∧ (a3) ≤ (u2_1)) (h8 : 0 ≤ (a4) ∧ (a4) ≤ 65536) (k : ∀ (z : Int) (σ : rS) (Dₚ Nₚ : Nat → Nat) (Fₚ : hF) (Aₚ : hA) (cₚ sₚ : Nat), HW V224 σ Dₚ Nₚ Fₚ Aₚ → OUT (V224).length D N σE c s Dₚ Nₚ σ cₚ sₚ → SD [3] D Dₚ → SD [3] N Nₚ → SF [(0, 11), (0, 12), (2, 0), (2, 1), (2, 2)] F Fₚ → SA [3] A Aₚ → Fₚ 2 0 = (Dₚ 3 : Int) → ∀ m3 : Int, (Nₚ 3 : Int) = m3 → ∀ y2_1 : Int, Fₚ 2 1 = y2_1 → (inr (z)) → (0 ≤ (z) ∧ (z) ≤ 3) → (0 ≤ (y2_1) ∧ (y2_1) ≤ (m3) ∧ (m3) ≤ 65536) → ((u2_1) ≤ (y2_1)) → ((y2_1) ≤ (a4) ∨ (y2_1) = (u2_1)) → Q (some (I z)) σ cₚ sₚ) : Ew 224 (d + 3) 0 (rargs 0 [.ref (D 0), I a1, I a2, I a3, I a4]) [] σE c s Q := by
  have O := OUT_refl (n := (V224).length) (D := D) (N := N) (σ := σE) (c := c) (s := s)
  have HE := H
  have r1 : (-2147483648 : Int) ≤ u2_1 ∧ u2_1 ≤ 2147483647 := by have h1 : (-2147483648 : Int) ≤ F 2 1 ∧ F 2 1 ≤ 2147483647 := H.krg 2 1 (by decide); rw [show F 2 1 = u2_1 from (eu2_1)] at h1; exact h1
  have r2 : (-2147483648 : Int) ≤ u4_1 ∧ u4_1 ≤ 2147483647 := by have h1 : (-2147483648 : Int) ≤ F 4 1 ∧ F 4 1 ≤ 2147483647 := H.krg 4 1 (by decide); rw [show F 4 1 = u4_1 from (eu4_1)] at h1; exact h1
  have r3 : (0 : Int) ≤ n1 ∧ n1 ≤ 1000000 := by have h1 := H.nle 1 (by decide); have h2 : (N 1 : Int) = n1 := en1; omega
  have r4 : (0 : Int) ≤ n3 ∧ n3 ≤ 1000000 := by have h1 := H.nle 3 (by decide); have h2 : (N 3 : Int) = n3 := en3; omega
  have r5 : (0 : Int) ≤ n5 ∧ n5 ≤ 1000000 := by have h1 := H.nle 5 (by decide); have h2 : (N 5 : Int) = n5 := en5; omega
  refine Ew_of (pcₚ := 1) (fun _ => x_iload_n rfl rfl) ?_
  refine Ew_of (pcₚ := 3) (fun _ => x_istore rfl) ?_
  refine Ew_of (pcₚ := 4) (fun _ => x_iload_n rfl (rk_o (rfl) rfl rfl)) ?_
  refine Ew_of (pcₚ := 6) (fun _ => x_istore rfl) ?_
  suffices hl6 : ∀ (m : Nat), ∀ (ls : rO) (σ : rS) (D_6 N_6 : Nat → Nat) (c_6 s_6 : Nat) (F_6 : hF) (A_6 : hA) (x6_5 : Int) (x6_6 : Int), rlook ls 0 = some (.ref (D_6 0)) → rlook ls 2 = some (I (a2)) → rlook ls 3 = some (I (a3)) → rlook ls 4 = some (I (a4)) → rlook ls 5 = some (I (x6_5)) → rlook ls 6 = some (I (x6_6)) → HW V224 σ D_6 N_6 F_6 A_6 → OUT (V224).length D N σE c s D_6 N_6 σ c_6 s_6 → SD [3] D D_6 → SD [3] N N_6 → SF [(0, 11), (2, 0), (2, 1), (2, 2)] F F_6 → SA [3] A A_6 → F_6 2 0 = (D_6 3 : Int) → ∀ m6_3 : Int, (N_6 3 : Int) = m6_3 → ∀ y6_2_1 : Int, F_6 2 1 = y6_2_1 → (inr (x6_5)) → (inr (x6_6)) → ((a1) ≤ (x6_6)) → ((x6_6) ≤ (a1) ∨ (x6_6) ≤ (((a2) + 1))) → (0 ≤ (x6_5) ∧ (x6_5) ≤ (a2)) → (0 ≤ (y6_2_1) ∧ (y6_2_1) ≤ (m6_3) ∧ (m6_3) ≤ 65536) → ((u2_1) ≤ (y6_2_1)) → ((y6_2_1) ≤ (a4) ∨ (y6_2_1) = (u2_1)) → ((((a2) + 1)) - (x6_6)).toNat = m → Ew 224 (d + 3) 6 ls [] σ c_6 s_6 Q from
    hl6 _ _ _ _ _ _ _ _ _ (a1) (a1) (rk_o (rk_o (rfl) rfl rfl) rfl rfl) (rk_o (rk_o (rfl) rfl rfl) rfl rfl) (rk_o (rk_o (rfl) rfl rfl) rfl rfl) (rk_o (rk_o (rfl) rfl rfl) rfl rfl) (rk_o (rk_s) rfl rfl) (rk_s) H O (SD_refl) (SD_refl) (SF_refl) (SA_refl) (pf3) (n3) (en3) (u2_1) ((eu2_1))  (show inr (a1) by omega) (show inr (a1) by omega) (show (a1) ≤ (a1) by omega) (show (a1) ≤ (a1) ∨ (a1) ≤ (((a2) + 1)) by omega) (show 0 ≤ (a1) ∧ (a1) ≤ (a2) by omega) (show 0 ≤ (u2_1) ∧ (u2_1) ≤ (n3) ∧ (n3) ≤ 65536 by omega) (show (u2_1) ≤ (u2_1) by omega) (show (u2_1) ≤ (a4) ∨ (u2_1) = (u2_1) by omega) rfl
  as_aux_lemma =>
  intro m
  induction m using Nat.strongRecOn with
  | _ m ih6 =>
    intro ls σ D_6 N_6 c_6 s_6 F_6 A_6 x6_5 x6_6 l6_0 l6_2 l6_3 l6_4 l6_5 l6_6 H O hD_6 hN_6 hS_6 hA_6 pm6_3 m6_3 em6_3 y6_2_1 ey6_2_1  j6_0 j6_1 j6_2 j6_3 j6_4 j6_5 j6_6 j6_7 hm6
    have pf_6_0_1 : F_6 0 1 = (D_6 4 : Int) := (hS_6 0 1 rfl).trans ((pf4).trans (congrArg (fun q : Nat => (q : Int)) (hD_6 4 rfl).symm))
    have pf_6_0_4 : F_6 0 4 = (D_6 1 : Int) := (hS_6 0 4 rfl).trans ((pf1).trans (congrArg (fun q : Nat => (q : Int)) (hD_6 1 rfl).symm))
    have pf_6_0_6 : F_6 0 6 = (D_6 2 : Int) := (hS_6 0 6 rfl).trans ((pf2).trans (congrArg (fun q : Nat => (q : Int)) (hD_6 2 rfl).symm))
    have pf_6_4_0 : F_6 4 0 = (D_6 5 : Int) := (hS_6 4 0 rfl).trans ((pf5).trans (congrArg (fun q : Nat => (q : Int)) (hD_6 5 rfl).symm))
    have r6 : (0 : Int) ≤ m6_3 ∧ m6_3 ≤ 1000000 := by have h1 := H.nle 3 (by decide); have h2 : (N_6 3 : Int) = m6_3 := em6_3; omega
    have r7 : (-2147483648 : Int) ≤ y6_2_1 ∧ y6_2_1 ≤ 2147483647 := by have h1 : (-2147483648 : Int) ≤ F_6 2 1 ∧ F_6 2 1 ≤ 2147483647 := H.krg 2 1 (by decide); rw [show F_6 2 1 = y6_2_1 from (ey6_2_1)] at h1; exact h1
    refine Ew_of (pcₚ := 8) (fun _ => x_iload rfl l6_6) ?_
    refine Ew_of (pcₚ := 9) (fun _ => x_iload_n rfl l6_2) ?_
    refine w_icmpgt (t := 302) rfl rfl (show inr (x6_6) by omega) (show inr (a2) by omega) (fun b8 => ?_) (fun b8 => ?_)
    · refine Ew_of (pcₚ := 303) (fun _ => x_aload_n rfl l6_0) ?_
      refine Ew_of (pcₚ := 304) (fun _ => x_iconst rfl) ?_
      refine Ew_of (pcₚ := 305) (fun _ => x_iload_n rfl l6_2) ?_
      have r9 : (-2147483648 : Int) ≤ F 0 12 ∧ F 0 12 ≤ 2147483647 := by have h1 : (-2147483648 : Int) ≤ F_6 0 12 ∧ F_6 0 12 ≤ 2147483647 := H.krg 0 12 (by decide); rw [show F_6 0 12 = F 0 12 from (hS_6 0 12 rfl)] at h1; exact h1
      refine v_inv H (o := 0) rfl rfl rfl rfl rfl rfl (by rfl) (C221 (D := pul [0] D_6) (N := pul [0] N_6) (HW_sub H (VS_of (show vsub V224 V221 [0] = true by decide +kernel))) (F 0 12) ((hS_6 0 12 rfl)) (show inr (1) by omega) (show inr (a2) by omega) (fun z10 σ10 F10ₚ A10ₚ Hₚ Oₚ hS10 hA10 y10_0_12 ey10_0_12 pz10_0 pz10_1 pz10_2 => ⟨rfl, ?_⟩))
      refine v_back (c := c_6) (s := s_6) H (show vsub V224 V221 [0] = true by decide +kernel) Hₚ Oₚ (fun F10 A10 H Oₚ eF10 eA10 => ?_)
      have O := OUT_trans O Oₚ
      -- Tokens.fail
      have r11 : (-2147483648 : Int) ≤ y10_0_12 ∧ y10_0_12 ≤ 2147483647 := by have h1 : (-2147483648 : Int) ≤ F10 0 12 ∧ F10 0 12 ≤ 2147483647 := H.krg 0 12 (by decide); rw [show F10 0 12 = y10_0_12 from ((eF10 0 12).trans ey10_0_12)] at h1; exact h1
      exact w_ireturn rfl (k (z10) _ _ _ _ _ _ _ H O (SD_trans (SD_refl) hD_6 (any_subA rfl)) (SD_trans (SD_refl) hN_6 (any_subA rfl)) (SF_trans (SF_trans (SF_refl) hS_6 (any_sub rfl)) (SF_glu (ι := [0]) hS10 eF10 (by decide +kernel)) (any_sub (lₚ := [(0, 12)]) rfl)) (SA_trans (SA_trans (SA_refl) hA_6 (any_subA rfl)) (SA_glu (ι := [0]) hA10 eA10 (by decide +kernel)) (any_subA (lₚ := []) rfl)) ((((show F10 2 0 = F_6 2 0 from (eF10 2 0)))).trans (pm6_3)) (m6_3) (em6_3) (y6_2_1) ((((show F10 2 1 = F_6 2 1 from (eF10 2 1))).trans (ey6_2_1))) (show inr (z10) by omega) (show 0 ≤ (z10) ∧ (z10) ≤ 3 by omega) (show 0 ≤ (y6_2_1) ∧ (y6_2_1) ≤ (m6_3) ∧ (m6_3) ≤ 65536 by omega) (show (u2_1) ≤ (y6_2_1) by omega) (show (y6_2_1) ≤ a4 ∨ (y6_2_1) = (u2_1) by omega))
    · refine Ew_of (pcₚ := 14) (fun _ => x_iload rfl l6_5) ?_
      refine Ew_of (pcₚ := 15) (fun _ => x_iload_n rfl l6_2) ?_
      refine w_icmplt (t := 25) rfl rfl (show inr (x6_5) by omega) (show inr (a2) by omega) (fun b12 => ?_) (fun b12 => ?_)
      · refine Ew_of (pcₚ := 26) (fun _ => x_aload_n rfl l6_0) ?_
        refine v_g H (o := 0) (v := .ref (D_6 1)) rfl rfl rfl rfl rfl (vrf (pf_6_0_4)) ?_
        refine Ew_of (pcₚ := 31) (fun _ => x_iload rfl l6_5) ?_
        refine v_lB H (o := 1) rfl rfl rfl rfl (n := n1) ((congrArg (fun q : Nat => (q : Int)) (hN_6 1 rfl)).trans (en1)) (show 0 ≤ x6_5 ∧ x6_5 < n1 by omega) (fun v13 ev13 qv13 => ?_)
        have ev13 : (A 1) (x6_5) = v13 := (congrFun (funext (hA_6 1 rfl)) (x6_5)).symm.trans ev13
        refine Ew_of (pcₚ := 35) (fun _ => x_sipush (z := 255) rfl (by decide)) ?_
        refine w_iand rfl (show inr (v13) by omega) (show inr (255) by omega) (fun z14 gz14 gaz14 gbz14 => ?_)
        refine Ew_of (pcₚ := 38) (fun _ => x_istore rfl) ?_
        refine Ew_of (pcₚ := 39) (fun _ => x_aload_n rfl (rk_o (l6_0) rfl rfl)) ?_
        refine Ew_of (pcₚ := 41) (fun _ => x_iload rfl rk_s) ?_
        refine Ew_of (pcₚ := 42) (fun _ => x_iconst rfl) ?_
        refine w_ishrK 4 16 (by decide) (by decide) rfl (show inr (z14) by omega) (fun z15 gz15 dz15 => ?_)
        refine Ew_of (pcₚ := 45) (fun _ => x_iload rfl (rk_o (l6_5) rfl rfl)) ?_
        refine Ew_of (pcₚ := 46) (fun _ => x_iconst rfl) ?_
        refine w_iadd rfl ?_
        refine Ew_of (pcₚ := 48) (fun _ => x_iload_n rfl (rk_o (l6_2) rfl rfl)) ?_
        have r16 : (-2147483648 : Int) ≤ F_6 0 11 ∧ F_6 0 11 ≤ 2147483647 := by have h1 : (-2147483648 : Int) ≤ F_6 0 11 ∧ F_6 0 11 ≤ 2147483647 := H.krg 0 11 (by decide); rw [show F_6 0 11 = F_6 0 11 from rfl] at h1; exact h1
        refine v_inv H (o := 0) rfl rfl rfl rfl rfl rfl (by rfl) (C225 (D := pul [0, 1] D_6) (N := pul [0, 1] N_6) (HW_sub H (VS_of (show vsub V224 V225 [0, 1] = true by decide +kernel))) (pf_6_0_4) (n1) ((congrArg (fun q : Nat => (q : Int)) (hN_6 1 rfl)).trans (en1)) (F_6 0 11) (rfl) (show inr (z15) by omega) (show inr ((x6_5 + 1)) by omega) (show inr (a2) by omega) (show 0 ≤ (z15) ∧ (z15) ≤ 15 by omega) (show 0 ≤ ((x6_5 + 1)) ∧ ((x6_5 + 1)) ≤ (a2) ∧ (a2) ≤ (n1) ∧ (n1) ≤ 65536 by omega) (fun z17 σ17 F17ₚ A17ₚ Hₚ Oₚ hS17 hA17 y17_0_11 ey17_0_11 pz17_0 pz17_1 pz17_2 => ⟨rfl, ?_⟩))
        refine v_back (c := c_6) (s := s_6) H (show vsub V224 V225 [0, 1] = true by decide +kernel) Hₚ Oₚ (fun F17 A17 H Oₚ eF17 eA17 => ?_)
        have O := OUT_trans O Oₚ
        -- Tokens.addUp
        have r18 : (-2147483648 : Int) ≤ y17_0_11 ∧ y17_0_11 ≤ 2147483647 := by have h1 : (-2147483648 : Int) ≤ F17 0 11 ∧ F17 0 11 ≤ 2147483647 := H.krg 0 11 (by decide); rw [show F17 0 11 = y17_0_11 from ((eF17 0 11).trans ey17_0_11)] at h1; exact h1
        refine Ew_of (pcₚ := 53) (fun _ => x_istore rfl) ?_
        refine Ew_of (pcₚ := 54) (fun _ => x_iload_n rfl (rk_o (rk_o (l6_2) rfl rfl) rfl rfl)) ?_
        refine Ew_of (pcₚ := 56) (fun _ => x_iload rfl rk_s) ?_
        refine w_isub rfl ?_
        refine Ew_of (pcₚ := 59) (fun _ => x_iload rfl (rk_o (rk_o (l6_4) rfl rfl) rfl rfl)) ?_
        refine Ew_of (pcₚ := 60) (fun _ => x_aload_n rfl (rk_o (rk_o (l6_0) rfl rfl) rfl rfl)) ?_
        refine v_g H (o := 0) (v := .ref (D_6 2)) rfl rfl rfl rfl rfl (vrf ((((show F17 0 6 = F_6 0 6 from (eF17 0 6).trans (hS17 0 6 rfl)))).trans (pf_6_0_6))) ?_
        refine v_g H (o := 2) (v := I (y6_2_1)) rfl rfl rfl rfl rfl (congrArg (fun z : Int => I z) ((((show F17 2 1 = F_6 2 1 from (eF17 2 1))).trans (ey6_2_1)) : F17 2 1 = y6_2_1)) ?_
        refine w_isub rfl ?_
        refine v_min rfl rfl (show inr ((a2 - z17)) by omega) (show inr ((a4 - y6_2_1)) by omega) (fun z19 gz19 => ?_)
        refine Ew_of (pcₚ := 72) (fun _ => x_istore rfl) ?_
        refine Ew_of (pcₚ := 74) (fun _ => x_iload rfl (rk_o (rk_s) rfl rfl)) ?_
        have hc86 : ∀ (ls : rO) (σ : rS) (F_c86 : hF) (A_c86 : hA) , rlook ls 0 = some (.ref (D_6 0)) → rlook ls 2 = some (I (a2)) → rlook ls 5 = some (I (z17)) → rlook ls 8 = some (I (z19)) → HW V224 σ D_6 N_6 F_c86 A_c86 → OUT (V224).length D N σE c s D_6 N_6 σ c_6 s_6 → SF [] F17 F_c86 → SA [] A17 A_c86 → (((z17) < (0)) ∨ ((z17) ≥ (0) ∧ (y17_0_11) > (z19))) → Ew 224 (d + 3) 86 ls [] σ c_6 s_6 Q := by
         as_aux_lemma =>
          intro  ls σ F_c86 A_c86  lc86_0 lc86_2 lc86_5 lc86_8 H O hS_c86 hA_c86     jc86_0
          refine Ew_of (pcₚ := 88) (fun _ => x_iload rfl lc86_5) ?_
          have hc100 : ∀ (ls : rO) (σ : rS) (F_c100 : hF) (A_c100 : hA) , rlook ls 0 = some (.ref (D_6 0)) → rlook ls 2 = some (I (a2)) → HW V224 σ D_6 N_6 F_c100 A_c100 → OUT (V224).length D N σE c s D_6 N_6 σ c_6 s_6 → SF [] F_c86 F_c100 → SA [] A_c86 A_c100 → (((z17) < (0)) ∨ ((z17) ≥ (0) ∧ (z19) = ((a2 - z17)))) → Ew 224 (d + 3) 100 ls [] σ c_6 s_6 Q := by
           as_aux_lemma =>
            intro  ls σ F_c100 A_c100  lc100_0 lc100_2 H O hS_c100 hA_c100     jc100_0
            refine Ew_of (pcₚ := 101) (fun _ => x_aload_n rfl lc100_0) ?_
            refine Ew_of (pcₚ := 102) (fun _ => x_iconst rfl) ?_
            refine Ew_of (pcₚ := 103) (fun _ => x_iload_n rfl lc100_2) ?_
            have r20 : (-2147483648 : Int) ≤ F 0 12 ∧ F 0 12 ≤ 2147483647 := by have h1 : (-2147483648 : Int) ≤ F_c100 0 12 ∧ F_c100 0 12 ≤ 2147483647 := H.krg 0 12 (by decide); rw [show F_c100 0 12 = F 0 12 from ((((hS_c100 0 12 rfl).trans (hS_c86 0 12 rfl)).trans ((show F17 0 12 = F_6 0 12 from (eF17 0 12).trans (hS17 0 12 rfl)))).trans (hS_6 0 12 rfl))] at h1; exact h1
            refine v_inv H (o := 0) rfl rfl rfl rfl rfl rfl (by rfl) (C221 (D := pul [0] D_6) (N := pul [0] N_6) (HW_sub H (VS_of (show vsub V224 V221 [0] = true by decide +kernel))) (F 0 12) (((((hS_c100 0 12 rfl).trans (hS_c86 0 12 rfl)).trans ((show F17 0 12 = F_6 0 12 from (eF17 0 12).trans (hS17 0 12 rfl)))).trans (hS_6 0 12 rfl))) (show inr (1) by omega) (show inr (a2) by omega) (fun z21 σ21 F21ₚ A21ₚ Hₚ Oₚ hS21 hA21 y21_0_12 ey21_0_12 pz21_0 pz21_1 pz21_2 => ⟨rfl, ?_⟩))
            refine v_back (c := c_6) (s := s_6) H (show vsub V224 V221 [0] = true by decide +kernel) Hₚ Oₚ (fun F21 A21 H Oₚ eF21 eA21 => ?_)
            have O := OUT_trans O Oₚ
            -- Tokens.fail
            have r22 : (-2147483648 : Int) ≤ y21_0_12 ∧ y21_0_12 ≤ 2147483647 := by have h1 : (-2147483648 : Int) ≤ F21 0 12 ∧ F21 0 12 ≤ 2147483647 := H.krg 0 12 (by decide); rw [show F21 0 12 = y21_0_12 from ((eF21 0 12).trans ey21_0_12)] at h1; exact h1
            refine Ew_of (pcₚ := 119) (fun _ => x_goto rfl rfl) ?_
            exact w_ireturn rfl (k (z21) _ _ _ _ _ _ _ H O (SD_trans (SD_refl) hD_6 (any_subA rfl)) (SD_trans (SD_refl) hN_6 (any_subA rfl)) (SF_trans (SF_trans (SF_trans (SF_trans (SF_trans (SF_refl) hS_6 (any_sub rfl)) (SF_glu (ι := [0, 1]) hS17 eF17 (by decide +kernel)) (any_sub (lₚ := [(0, 11)]) rfl)) hS_c86 (any_sub rfl)) hS_c100 (any_sub rfl)) (SF_glu (ι := [0]) hS21 eF21 (by decide +kernel)) (any_sub (lₚ := [(0, 12)]) rfl)) (SA_trans (SA_trans (SA_trans (SA_trans (SA_trans (SA_refl) hA_6 (any_subA rfl)) (SA_glu (ι := [0, 1]) hA17 eA17 (by decide +kernel)) (any_subA (lₚ := []) rfl)) hA_c86 (any_subA rfl)) hA_c100 (any_subA rfl)) (SA_glu (ι := [0]) hA21 eA21 (by decide +kernel)) (any_subA (lₚ := []) rfl)) (((((((show F21 2 0 = F_c100 2 0 from (eF21 2 0))).trans (hS_c100 2 0 rfl)).trans (hS_c86 2 0 rfl)).trans ((show F17 2 0 = F_6 2 0 from (eF17 2 0))))).trans (pm6_3)) (m6_3) (em6_3) (y6_2_1) (((((((show F21 2 1 = F_c100 2 1 from (eF21 2 1))).trans (hS_c100 2 1 rfl)).trans (hS_c86 2 1 rfl)).trans ((show F17 2 1 = F_6 2 1 from (eF17 2 1)))).trans (ey6_2_1))) (show inr (z21) by omega) (show 0 ≤ (z21) ∧ (z21) ≤ 3 by omega) (show 0 ≤ (y6_2_1) ∧ (y6_2_1) ≤ (m6_3) ∧ (m6_3) ≤ 65536 by omega) (show (u2_1) ≤ (y6_2_1) by omega) (show (y6_2_1) ≤ a4 ∨ (y6_2_1) = (u2_1) by omega))
          refine w_iflt (t := 100) rfl rfl (show inr (z17) by omega) (fun b23 => ?_) (fun b23 => ?_)
          · exact hc100  _ _ _ _  (lc86_0) (lc86_2) H O (SF_refl) (SA_refl)     (show ((z17) < (0)) ∨ ((z17) ≥ (0) ∧ (z19) = ((a2 - z17))) by omega)
          · refine Ew_of (pcₚ := 93) (fun _ => x_iload rfl lc86_8) ?_
            refine Ew_of (pcₚ := 94) (fun _ => x_iload_n rfl lc86_2) ?_
            refine Ew_of (pcₚ := 96) (fun _ => x_iload rfl lc86_5) ?_
            refine w_isub rfl ?_
            refine w_icmpne (t := 109) rfl rfl (show inr (z19) by omega) (show inr ((a2 - z17)) by omega) (fun b24 => ?_) (fun b24 => ?_)
            · refine Ew_of (pcₚ := 110) (fun _ => x_aload_n rfl lc86_0) ?_
              refine Ew_of (pcₚ := 111) (fun _ => x_iconst rfl) ?_
              refine Ew_of (pcₚ := 113) (fun _ => x_iload rfl lc86_5) ?_
              refine Ew_of (pcₚ := 115) (fun _ => x_iload rfl lc86_8) ?_
              refine w_iadd rfl ?_
              have r25 : (-2147483648 : Int) ≤ F 0 12 ∧ F 0 12 ≤ 2147483647 := by have h1 : (-2147483648 : Int) ≤ F_c86 0 12 ∧ F_c86 0 12 ≤ 2147483647 := H.krg 0 12 (by decide); rw [show F_c86 0 12 = F 0 12 from (((hS_c86 0 12 rfl).trans ((show F17 0 12 = F_6 0 12 from (eF17 0 12).trans (hS17 0 12 rfl)))).trans (hS_6 0 12 rfl))] at h1; exact h1
              refine v_inv H (o := 0) rfl rfl rfl rfl rfl rfl (by rfl) (C221 (D := pul [0] D_6) (N := pul [0] N_6) (HW_sub H (VS_of (show vsub V224 V221 [0] = true by decide +kernel))) (F 0 12) ((((hS_c86 0 12 rfl).trans ((show F17 0 12 = F_6 0 12 from (eF17 0 12).trans (hS17 0 12 rfl)))).trans (hS_6 0 12 rfl))) (show inr (3) by omega) (show inr ((z17 + z19)) by omega) (fun z26 σ26 F26ₚ A26ₚ Hₚ Oₚ hS26 hA26 y26_0_12 ey26_0_12 pz26_0 pz26_1 pz26_2 => ⟨rfl, ?_⟩))
              refine v_back (c := c_6) (s := s_6) H (show vsub V224 V221 [0] = true by decide +kernel) Hₚ Oₚ (fun F26 A26 H Oₚ eF26 eA26 => ?_)
              have O := OUT_trans O Oₚ
              -- Tokens.fail
              have r27 : (-2147483648 : Int) ≤ y26_0_12 ∧ y26_0_12 ≤ 2147483647 := by have h1 : (-2147483648 : Int) ≤ F26 0 12 ∧ F26 0 12 ≤ 2147483647 := H.krg 0 12 (by decide); rw [show F26 0 12 = y26_0_12 from ((eF26 0 12).trans ey26_0_12)] at h1; exact h1
              exact w_ireturn rfl (k (z26) _ _ _ _ _ _ _ H O (SD_trans (SD_refl) hD_6 (any_subA rfl)) (SD_trans (SD_refl) hN_6 (any_subA rfl)) (SF_trans (SF_trans (SF_trans (SF_trans (SF_refl) hS_6 (any_sub rfl)) (SF_glu (ι := [0, 1]) hS17 eF17 (by decide +kernel)) (any_sub (lₚ := [(0, 11)]) rfl)) hS_c86 (any_sub rfl)) (SF_glu (ι := [0]) hS26 eF26 (by decide +kernel)) (any_sub (lₚ := [(0, 12)]) rfl)) (SA_trans (SA_trans (SA_trans (SA_trans (SA_refl) hA_6 (any_subA rfl)) (SA_glu (ι := [0, 1]) hA17 eA17 (by decide +kernel)) (any_subA (lₚ := []) rfl)) hA_c86 (any_subA rfl)) (SA_glu (ι := [0]) hA26 eA26 (by decide +kernel)) (any_subA (lₚ := []) rfl)) ((((((show F26 2 0 = F_c86 2 0 from (eF26 2 0))).trans (hS_c86 2 0 rfl)).trans ((show F17 2 0 = F_6 2 0 from (eF17 2 0))))).trans (pm6_3)) (m6_3) (em6_3) (y6_2_1) ((((((show F26 2 1 = F_c86 2 1 from (eF26 2 1))).trans (hS_c86 2 1 rfl)).trans ((show F17 2 1 = F_6 2 1 from (eF17 2 1)))).trans (ey6_2_1))) (show inr (z26) by omega) (show 0 ≤ (z26) ∧ (z26) ≤ 3 by omega) (show 0 ≤ (y6_2_1) ∧ (y6_2_1) ≤ (m6_3) ∧ (m6_3) ≤ 65536 by omega) (show (u2_1) ≤ (y6_2_1) by omega) (show (y6_2_1) ≤ a4 ∨ (y6_2_1) = (u2_1) by omega))
            · exact hc100  _ _ _ _  (lc86_0) (lc86_2) H O (SF_refl) (SA_refl)     (show ((z17) < (0)) ∨ ((z17) ≥ (0) ∧ (z19) = ((a2 - z17))) by omega)
        refine w_iflt (t := 86) rfl rfl (show inr (z17) by omega) (fun b28 => ?_) (fun b28 => ?_)
        · exact hc86  _ _ _ _  (rk_o (rk_o (rk_o (l6_0) rfl rfl) rfl rfl) rfl rfl) (rk_o (rk_o (rk_o (l6_2) rfl rfl) rfl rfl) rfl rfl) (rk_o (rk_s) rfl rfl) (rk_s) H O (SF_refl) (SA_refl)     (show ((z17) < (0)) ∨ ((z17) ≥ (0) ∧ (y17_0_11) > (z19)) by omega)
        · refine Ew_of (pcₚ := 78) (fun _ => x_aload_n rfl (rk_o (rk_o (rk_o (l6_0) rfl rfl) rfl rfl) rfl rfl)) ?_
          refine v_g H (o := 0) (v := I (y17_0_11)) rfl rfl rfl rfl rfl (congrArg (fun z : Int => I z) (((eF17 0 11).trans ey17_0_11) : F17 0 11 = y17_0_11)) ?_
          refine Ew_of (pcₚ := 83) (fun _ => x_iload rfl rk_s) ?_
          refine w_icmple (t := 120) rfl rfl (show inr (y17_0_11) by omega) (show inr (z19) by omega) (fun b29 => ?_) (fun b29 => ?_)
          · refine Ew_of (pcₚ := 121) (fun _ => x_aload_n rfl (rk_o (rk_o (rk_o (l6_0) rfl rfl) rfl rfl) rfl rfl)) ?_
            refine v_g H (o := 0) (v := .ref (D_6 2)) rfl rfl rfl rfl rfl (vrf ((((show F17 0 6 = F_6 0 6 from (eF17 0 6).trans (hS17 0 6 rfl)))).trans (pf_6_0_6))) ?_
            refine Ew_of (pcₚ := 125) (fun _ => x_aload_n rfl (rk_o (rk_o (rk_o (l6_0) rfl rfl) rfl rfl) rfl rfl)) ?_
            refine v_g H (o := 0) (v := .ref (D_6 1)) rfl rfl rfl rfl rfl (vrf ((((show F17 0 4 = F_6 0 4 from (eF17 0 4).trans (hS17 0 4 rfl)))).trans (pf_6_0_4))) ?_
            refine Ew_of (pcₚ := 130) (fun _ => x_iload rfl (rk_o (rk_s) rfl rfl)) ?_
            refine Ew_of (pcₚ := 131) (fun _ => x_aload_n rfl (rk_o (rk_o (rk_o (l6_0) rfl rfl) rfl rfl) rfl rfl)) ?_
            refine v_g H (o := 0) (v := I (y17_0_11)) rfl rfl rfl rfl rfl (congrArg (fun z : Int => I z) (((eF17 0 11).trans ey17_0_11) : F17 0 11 = y17_0_11)) ?_
            refine v_inv H (o := 2) rfl rfl rfl rfl rfl rfl (by rfl) (C161_Br (D := pul [2, 1, 3] D_6) (N := pul [2, 1, 3] N_6) (HW_sub H (VS_of (show vsub V224 V161_Br [2, 1, 3] = true by decide +kernel))) ((((show F17 2 0 = F_6 2 0 from (eF17 2 0)))).trans (pm6_3)) (n1) ((congrArg (fun q : Nat => (q : Int)) (hN_6 1 rfl)).trans (en1)) (m6_3) (em6_3) (y6_2_1) ((((show F17 2 1 = F_6 2 1 from (eF17 2 1))).trans (ey6_2_1))) (A_6 3) ((show A17 3 = A_6 3 from (eA17 3))) (show inr (z17) by omega) (show inr (y17_0_11) by omega) (show 0 ≤ (y6_2_1) ∧ (y6_2_1) ≤ (m6_3) ∧ (m6_3) ≤ 65536 by omega) (show (y17_0_11) < 0 ∨ 0 ≤ (z17) ∧ (z17) + (y17_0_11) ≤ (n1) by omega) (fun σ30 D30ₚ N30ₚ F30ₚ A30ₚ c30 s30 Hₚ Oₚ hD30 hN30 hS30 hA30 pm30_2 m30_2 em30_2 y30_0_1 ey30_0_1 w30_2 ew30_2 pz30_0 pz30_1 pz30_2 => ⟨rfl, ?_⟩))
            refine v_backM (c := c_6) (s := s_6) H (show vsub V224 V161_Br [2, 1, 3] = true by decide +kernel) Hₚ Oₚ hD30 (show vmov V224 [2, 1, 3] [2] = true by decide +kernel) (fun D30 N30 F30 A30 H Oₚ eD30 eN30 eF30 eA30 => ?_)
            have O := OUT_trans O Oₚ
            -- Row.addPart
            have pf30_0_1 : F30 0 1 = (D30 4 : Int) := ((show F30 0 1 = F17 0 1 from (eF30 0 1))).trans (((((show F17 0 1 = F_6 0 1 from (eF17 0 1).trans (hS17 0 1 rfl)))).trans (pf_6_0_1)).trans (congrArg (fun q : Nat => (q : Int)) ((show D30 4 = D_6 4 from (eD30 4))).symm))
            have pf30_0_4 : F30 0 4 = (D30 1 : Int) := ((show F30 0 4 = F17 0 4 from (eF30 0 4))).trans (((((show F17 0 4 = F_6 0 4 from (eF17 0 4).trans (hS17 0 4 rfl)))).trans (pf_6_0_4)).trans (congrArg (fun q : Nat => (q : Int)) ((show D30 1 = D_6 1 from (eD30 1).trans (hD30 1 rfl))).symm))
            have pf30_0_6 : F30 0 6 = (D30 2 : Int) := ((show F30 0 6 = F17 0 6 from (eF30 0 6))).trans (((((show F17 0 6 = F_6 0 6 from (eF17 0 6).trans (hS17 0 6 rfl)))).trans (pf_6_0_6)).trans (congrArg (fun q : Nat => (q : Int)) ((show D30 2 = D_6 2 from (eD30 2).trans (hD30 0 rfl))).symm))
            have pf30_2_0 : F30 2 0 = (D30 3 : Int) := (eF30 2 0).trans (pm30_2.trans (congrArg (fun q : Nat => (q : Int)) (eD30 3).symm))
            have pf30_4_0 : F30 4 0 = (D30 5 : Int) := ((show F30 4 0 = F17 4 0 from (eF30 4 0))).trans (((((show F17 4 0 = F_6 4 0 from (eF17 4 0)))).trans (pf_6_4_0)).trans (congrArg (fun q : Nat => (q : Int)) ((show D30 5 = D_6 5 from (eD30 5))).symm))
            have r31 : (0 : Int) ≤ m30_2 ∧ m30_2 ≤ 1000000 := by have h1 := H.nle 3 (by decide); have h2 : (N30 3 : Int) = m30_2 := (congrArg (fun q : Nat => (q : Int)) (eN30 3)).trans em30_2; omega
            have r32 : (-2147483648 : Int) ≤ y30_0_1 ∧ y30_0_1 ≤ 2147483647 := by have h1 : (-2147483648 : Int) ≤ F30 2 1 ∧ F30 2 1 ≤ 2147483647 := H.krg 2 1 (by decide); rw [show F30 2 1 = y30_0_1 from ((eF30 2 1).trans ey30_0_1)] at h1; exact h1
            refine Ew_of (pcₚ := 139) (fun _ => x_iload rfl (rk_o (rk_s) rfl rfl)) ?_
            refine Ew_of (pcₚ := 140) (fun _ => x_aload_n rfl (rk_o (rk_o (rk_o (l6_0) rfl rfl) rfl rfl) rfl rfl)) ?_
            refine Ew_stk (show ([.ref (D_6 0), I (z17)] : List Value) = [.ref (D30 0), I (z17)] by rw [show D30 0 = D_6 0 from ((show D30 0 = D_6 0 from (eD30 0)))]) ?_
            refine v_g H (o := 0) (v := I (y17_0_11)) rfl rfl rfl rfl rfl (congrArg (fun z : Int => I z) ((((show F30 0 11 = F17 0 11 from (eF30 0 11))).trans ((eF17 0 11).trans ey17_0_11)) : F30 0 11 = y17_0_11)) ?_
            refine w_iadd rfl ?_
            refine Ew_of (pcₚ := 146) (fun _ => x_istore rfl) ?_
            refine Ew_of (pcₚ := 148) (fun _ => x_iload rfl rk_s) ?_
            refine Ew_of (pcₚ := 149) (fun _ => x_iload_n rfl (rk_o (rk_o (rk_o (rk_o (l6_2) rfl rfl) rfl rfl) rfl rfl) rfl rfl)) ?_
            refine w_icmpne (t := 154) rfl rfl (show inr ((z17 + y17_0_11)) by omega) (show inr (a2) by omega) (fun b33 => ?_) (fun b33 => ?_)
            · refine Ew_of (pcₚ := 155) (fun _ => x_iload_n rfl (rk_o (rk_o (rk_o (rk_o (l6_2) rfl rfl) rfl rfl) rfl rfl) rfl rfl)) ?_
              refine Ew_of (pcₚ := 157) (fun _ => x_iload rfl rk_s) ?_
              refine w_isub rfl ?_
              refine Ew_of (pcₚ := 159) (fun _ => x_iconst rfl) ?_
              refine w_icmpge (t := 169) rfl rfl (show inr ((a2 - (z17 + y17_0_11))) by omega) (show inr (2) by omega) (fun b34 => ?_) (fun b34 => ?_)
              · refine Ew_of (pcₚ := 171) (fun _ => x_iload rfl rk_s) ?_
                refine Ew_of (pcₚ := 173) (fun _ => x_istore rfl) ?_
                refine Ew_of (pcₚ := 174) (fun _ => x_aload_n rfl (rk_o (rk_o (rk_o (rk_o (rk_o (l6_0) rfl rfl) rfl rfl) rfl rfl) rfl rfl) rfl rfl)) ?_
                refine Ew_stk (show ([.ref (D_6 0)] : List Value) = [.ref (D30 0)] by rw [show D30 0 = D_6 0 from ((show D30 0 = D_6 0 from (eD30 0)))]) ?_
                refine v_g H (o := 0) (v := .ref (D30 1)) rfl rfl rfl rfl rfl (vrf (pf30_0_4)) ?_
                refine Ew_of (pcₚ := 179) (fun _ => x_iload rfl (rk_o (rk_s) rfl rfl)) ?_
                refine Ew_of (pcₚ := 180) (fun _ => x_iconst rfl) ?_
                refine w_stat25 rfl rfl (by rfl) (C42_Br (D := pul [1] D30) (N := pul [1] N30) (HW_sub H (VS_of (show vsub V224 V42_Br [1] = true by decide +kernel))) (n1) ((congrArg (fun q : Nat => (q : Int)) (show N30 1 = N_6 1 from (eN30 1).trans (hN30 1 rfl))).trans ((congrArg (fun q : Nat => (q : Int)) (hN_6 1 rfl)).trans (en1))) (show inr ((z17 + y17_0_11)) by omega) (show inr (2) by omega) (show (2) ≤ 0 ∨ 0 ≤ ((z17 + y17_0_11)) ∧ ((z17 + y17_0_11)) + (2) ≤ (n1) by omega) (show 0 ≤ (2) by omega) (fun z35 σ35 F35ₚ A35ₚ Hₚ Oₚ hS35 hA35 pz35_0 pz35_1 => ⟨rfl, ?_⟩))
                refine v_back (c := (c_6 + c30)) (s := (s_6 + s30)) H (show vsub V224 V42_Br [1] = true by decide +kernel) Hₚ Oₚ (fun F35 A35 H Oₚ eF35 eA35 => ?_)
                have O := OUT_trans O Oₚ
                -- PackHouse.number
                have hnb := nb2 pz35_1
                refine w_l2i rfl ?_
                refine Ew_of (pcₚ := 186) (fun _ => x_istore rfl) ?_
                refine Ew_of (pcₚ := 188) (fun _ => x_iload rfl rk_s) ?_
                refine w_ifeq (t := 213) rfl rfl (show inr (z35) by omega) (fun b36 => ?_) (fun b36 => ?_)
                · refine Ew_of (pcₚ := 214) (fun _ => x_aload_n rfl (rk_o (rk_o (rk_o (rk_o (rk_o (rk_o (l6_0) rfl rfl) rfl rfl) rfl rfl) rfl rfl) rfl rfl) rfl rfl)) ?_
                  refine Ew_of (pcₚ := 215) (fun _ => x_iconst rfl) ?_
                  refine Ew_of (pcₚ := 217) (fun _ => x_iload rfl (rk_o (rk_s) rfl rfl)) ?_
                  refine Ew_stk (show ([I ((z17 + y17_0_11)), I (2), .ref (D_6 0)] : List Value) = [I ((z17 + y17_0_11)), I (2), .ref (D30 0)] by rw [show D30 0 = D_6 0 from ((show D30 0 = D_6 0 from (eD30 0)))]) ?_
                  have r37 : (-2147483648 : Int) ≤ F 0 12 ∧ F 0 12 ≤ 2147483647 := by have h1 : (-2147483648 : Int) ≤ F35 0 12 ∧ F35 0 12 ≤ 2147483647 := H.krg 0 12 (by decide); rw [show F35 0 12 = F 0 12 from (((((show F35 0 12 = F30 0 12 from (eF35 0 12))).trans ((show F30 0 12 = F17 0 12 from (eF30 0 12)))).trans ((show F17 0 12 = F_6 0 12 from (eF17 0 12).trans (hS17 0 12 rfl)))).trans (hS_6 0 12 rfl))] at h1; exact h1
                  refine v_inv H (o := 0) rfl rfl rfl rfl rfl rfl (by rfl) (C221 (D := pul [0] D30) (N := pul [0] N30) (HW_sub H (VS_of (show vsub V224 V221 [0] = true by decide +kernel))) (F 0 12) ((((((show F35 0 12 = F30 0 12 from (eF35 0 12))).trans ((show F30 0 12 = F17 0 12 from (eF30 0 12)))).trans ((show F17 0 12 = F_6 0 12 from (eF17 0 12).trans (hS17 0 12 rfl)))).trans (hS_6 0 12 rfl))) (show inr (2) by omega) (show inr ((z17 + y17_0_11)) by omega) (fun z38 σ38 F38ₚ A38ₚ Hₚ Oₚ hS38 hA38 y38_0_12 ey38_0_12 pz38_0 pz38_1 pz38_2 => ⟨rfl, ?_⟩))
                  refine v_back (c := (c_6 + c30)) (s := (s_6 + s30)) H (show vsub V224 V221 [0] = true by decide +kernel) Hₚ Oₚ (fun F38 A38 H Oₚ eF38 eA38 => ?_)
                  have O := OUT_trans O Oₚ
                  -- Tokens.fail
                  have r39 : (-2147483648 : Int) ≤ y38_0_12 ∧ y38_0_12 ≤ 2147483647 := by have h1 : (-2147483648 : Int) ≤ F38 0 12 ∧ F38 0 12 ≤ 2147483647 := H.krg 0 12 (by decide); rw [show F38 0 12 = y38_0_12 from ((eF38 0 12).trans ey38_0_12)] at h1; exact h1
                  exact w_ireturn rfl (k (z38) _ _ _ _ _ _ _ H O (SD_trans (SD_trans (SD_refl) hD_6 (any_subA rfl)) (SD_glu (ι := [2, 1, 3]) hD30 eD30 (by decide +kernel)) (any_subA (lₚ := [3]) rfl)) (SD_trans (SD_trans (SD_refl) hN_6 (any_subA rfl)) (SD_glu (ι := [2, 1, 3]) hN30 eN30 (by decide +kernel)) (any_subA (lₚ := [3]) rfl)) (SF_trans (SF_trans (SF_trans (SF_trans (SF_trans (SF_refl) hS_6 (any_sub rfl)) (SF_glu (ι := [0, 1]) hS17 eF17 (by decide +kernel)) (any_sub (lₚ := [(0, 11)]) rfl)) (SF_glu (ι := [2, 1, 3]) hS30 eF30 (by decide +kernel)) (any_sub (lₚ := [(2, 0), (2, 1), (2, 2)]) rfl)) (SF_glu (ι := [1]) hS35 eF35 (by decide +kernel)) (any_sub (lₚ := []) rfl)) (SF_glu (ι := [0]) hS38 eF38 (by decide +kernel)) (any_sub (lₚ := [(0, 12)]) rfl)) (SA_trans (SA_trans (SA_trans (SA_trans (SA_trans (SA_refl) hA_6 (any_subA rfl)) (SA_glu (ι := [0, 1]) hA17 eA17 (by decide +kernel)) (any_subA (lₚ := []) rfl)) (SA_glu (ι := [2, 1, 3]) hA30 eA30 (by decide +kernel)) (any_subA (lₚ := [3]) rfl)) (SA_glu (ι := [1]) hA35 eA35 (by decide +kernel)) (any_subA (lₚ := []) rfl)) (SA_glu (ι := [0]) hA38 eA38 (by decide +kernel)) (any_subA (lₚ := []) rfl)) (((((show F38 2 0 = F35 2 0 from (eF38 2 0))).trans ((show F35 2 0 = F30 2 0 from (eF35 2 0))))).trans (pf30_2_0)) (m30_2) ((congrArg (fun q : Nat => (q : Int)) (eN30 3)).trans em30_2) (y30_0_1) (((((show F38 2 1 = F35 2 1 from (eF38 2 1))).trans ((show F35 2 1 = F30 2 1 from (eF35 2 1)))).trans ((eF30 2 1).trans ey30_0_1))) (show inr (z38) by omega) (show 0 ≤ (z38) ∧ (z38) ≤ 3 by omega) (show 0 ≤ (y30_0_1) ∧ (y30_0_1) ≤ (m30_2) ∧ (m30_2) ≤ 65536 by omega) (show (u2_1) ≤ (y30_0_1) by omega) (show (y30_0_1) ≤ a4 ∨ (y30_0_1) = (u2_1) by omega))
                · refine Ew_of (pcₚ := 193) (fun _ => x_iload rfl rk_s) ?_
                  refine Ew_of (pcₚ := 194) (fun _ => x_aload_n rfl (rk_o (rk_o (rk_o (rk_o (rk_o (rk_o (l6_0) rfl rfl) rfl rfl) rfl rfl) rfl rfl) rfl rfl) rfl rfl)) ?_
                  refine Ew_stk (show ([.ref (D_6 0), I (z35)] : List Value) = [.ref (D30 0), I (z35)] by rw [show D30 0 = D_6 0 from ((show D30 0 = D_6 0 from (eD30 0)))]) ?_
                  refine v_g H (o := 0) (v := .ref (D30 2)) rfl rfl rfl rfl rfl (vrf ((((show F35 0 6 = F30 0 6 from (eF35 0 6)))).trans (pf30_0_6))) ?_
                  refine v_g H (o := 2) (v := I (y30_0_1)) rfl rfl rfl rfl rfl (congrArg (fun z : Int => I z) ((((show F35 2 1 = F30 2 1 from (eF35 2 1))).trans ((eF30 2 1).trans ey30_0_1)) : F35 2 1 = y30_0_1)) ?_
                  refine Ew_of (pcₚ := 201) (fun _ => x_iload_n rfl (rk_o (rk_o (rk_o (rk_o (rk_o (rk_o (l6_3) rfl rfl) rfl rfl) rfl rfl) rfl rfl) rfl rfl) rfl rfl)) ?_
                  refine w_isub rfl ?_
                  refine Ew_of (pcₚ := 203) (fun _ => x_aload_n rfl (rk_o (rk_o (rk_o (rk_o (rk_o (rk_o (l6_0) rfl rfl) rfl rfl) rfl rfl) rfl rfl) rfl rfl) rfl rfl)) ?_
                  refine Ew_stk (show ([.ref (D_6 0), I ((y30_0_1 - a3)), I (z35)] : List Value) = [.ref (D30 0), I ((y30_0_1 - a3)), I (z35)] by rw [show D30 0 = D_6 0 from ((show D30 0 = D_6 0 from (eD30 0)))]) ?_
                  refine v_g H (o := 0) (v := .ref (D30 4)) rfl rfl rfl rfl rfl (vrf ((((show F35 0 1 = F30 0 1 from (eF35 0 1)))).trans (pf30_0_1))) ?_
                  refine v_g H (o := 4) (v := I (u4_1)) rfl rfl rfl rfl rfl (congrArg (fun z : Int => I z) (((((((show F35 4 1 = F30 4 1 from (eF35 4 1))).trans ((show F30 4 1 = F17 4 1 from (eF30 4 1)))).trans ((show F17 4 1 = F_6 4 1 from (eF17 4 1)))).trans (hS_6 4 1 rfl)).trans (eu4_1)) : F35 4 1 = u4_1)) ?_
                  refine w_iadd rfl ?_
                  refine w_icmple (t := 221) rfl rfl (show inr (z35) by omega) (show inr (((y30_0_1 - a3) + u4_1)) by omega) (fun b40 => ?_) (fun b40 => ?_)
                  · refine Ew_of (pcₚ := 222) (fun _ => x_aload_n rfl (rk_o (rk_o (rk_o (rk_o (rk_o (rk_o (l6_0) rfl rfl) rfl rfl) rfl rfl) rfl rfl) rfl rfl) rfl rfl)) ?_
                    refine Ew_of (pcₚ := 224) (fun _ => x_iload rfl (rk_o (rk_o (rk_o (rk_o (rk_o (rk_s) rfl rfl) rfl rfl) rfl rfl) rfl rfl) rfl rfl)) ?_
                    refine Ew_of (pcₚ := 226) (fun _ => x_bipush (z := 15) rfl (by decide)) ?_
                    refine w_iand rfl (show inr (z14) by omega) (show inr (15) by omega) (fun z41 gz41 gaz41 gbz41 => ?_)
                    refine Ew_of (pcₚ := 229) (fun _ => x_iload rfl (rk_o (rk_o (rk_s) rfl rfl) rfl rfl)) ?_
                    refine Ew_of (pcₚ := 230) (fun _ => x_iconst rfl) ?_
                    refine w_iadd rfl ?_
                    refine Ew_of (pcₚ := 232) (fun _ => x_iload_n rfl (rk_o (rk_o (rk_o (rk_o (rk_o (rk_o (l6_2) rfl rfl) rfl rfl) rfl rfl) rfl rfl) rfl rfl) rfl rfl)) ?_
                    refine Ew_stk (show ([I (a2), I (((z17 + y17_0_11) + 2)), I (z41), .ref (D_6 0)] : List Value) = [I (a2), I (((z17 + y17_0_11) + 2)), I (z41), .ref (D30 0)] by rw [show D30 0 = D_6 0 from ((show D30 0 = D_6 0 from (eD30 0)))]) ?_
                    refine v_inv H (o := 0) rfl rfl rfl rfl rfl rfl (by rfl) (C225 (D := pul [0, 1] D30) (N := pul [0, 1] N30) (HW_sub H (VS_of (show vsub V224 V225 [0, 1] = true by decide +kernel))) ((((show F35 0 4 = F30 0 4 from (eF35 0 4)))).trans (pf30_0_4)) (n1) ((congrArg (fun q : Nat => (q : Int)) (show N30 1 = N_6 1 from (eN30 1).trans (hN30 1 rfl))).trans ((congrArg (fun q : Nat => (q : Int)) (hN_6 1 rfl)).trans (en1))) (y17_0_11) (((((show F35 0 11 = F30 0 11 from (eF35 0 11))).trans ((show F30 0 11 = F17 0 11 from (eF30 0 11)))).trans ((eF17 0 11).trans ey17_0_11))) (show inr (z41) by omega) (show inr (((z17 + y17_0_11) + 2)) by omega) (show inr (a2) by omega) (show 0 ≤ (z41) ∧ (z41) ≤ 15 by omega) (show 0 ≤ (((z17 + y17_0_11) + 2)) ∧ (((z17 + y17_0_11) + 2)) ≤ (a2) ∧ (a2) ≤ (n1) ∧ (n1) ≤ 65536 by omega) (fun z42 σ42 F42ₚ A42ₚ Hₚ Oₚ hS42 hA42 y42_0_11 ey42_0_11 pz42_0 pz42_1 pz42_2 => ⟨rfl, ?_⟩))
                    refine v_back (c := (c_6 + c30)) (s := (s_6 + s30)) H (show vsub V224 V225 [0, 1] = true by decide +kernel) Hₚ Oₚ (fun F42 A42 H Oₚ eF42 eA42 => ?_)
                    have O := OUT_trans O Oₚ
                    -- Tokens.addUp
                    have r43 : (-2147483648 : Int) ≤ y42_0_11 ∧ y42_0_11 ≤ 2147483647 := by have h1 : (-2147483648 : Int) ≤ F42 0 11 ∧ F42 0 11 ≤ 2147483647 := H.krg 0 11 (by decide); rw [show F42 0 11 = y42_0_11 from ((eF42 0 11).trans ey42_0_11)] at h1; exact h1
                    refine Ew_of (pcₚ := 237) (fun _ => x_istore rfl) ?_
                    refine Ew_of (pcₚ := 239) (fun _ => x_iload rfl rk_s) ?_
                    refine w_ifge (t := 249) rfl rfl (show inr (z42) by omega) (fun b44 => ?_) (fun b44 => ?_)
                    · refine Ew_of (pcₚ := 250) (fun _ => x_aload_n rfl (rk_o (rk_o (rk_o (rk_o (rk_o (rk_o (rk_o (l6_0) rfl rfl) rfl rfl) rfl rfl) rfl rfl) rfl rfl) rfl rfl) rfl rfl)) ?_
                      refine Ew_stk (show ([.ref (D_6 0)] : List Value) = [.ref (D30 0)] by rw [show D30 0 = D_6 0 from ((show D30 0 = D_6 0 from (eD30 0)))]) ?_
                      refine v_g H (o := 0) (v := I (y42_0_11)) rfl rfl rfl rfl rfl (congrArg (fun z : Int => I z) (((eF42 0 11).trans ey42_0_11) : F42 0 11 = y42_0_11)) ?_
                      refine Ew_of (pcₚ := 254) (fun _ => x_iconst rfl) ?_
                      refine w_iadd rfl ?_
                      refine Ew_of (pcₚ := 257) (fun _ => x_iload rfl (rk_o (rk_o (rk_o (rk_o (rk_o (rk_o (rk_o (l6_4) rfl rfl) rfl rfl) rfl rfl) rfl rfl) rfl rfl) rfl rfl) rfl rfl)) ?_
                      refine Ew_of (pcₚ := 258) (fun _ => x_aload_n rfl (rk_o (rk_o (rk_o (rk_o (rk_o (rk_o (rk_o (l6_0) rfl rfl) rfl rfl) rfl rfl) rfl rfl) rfl rfl) rfl rfl) rfl rfl)) ?_
                      refine Ew_stk (show ([.ref (D_6 0), I (a4), I ((y42_0_11 + 4))] : List Value) = [.ref (D30 0), I (a4), I ((y42_0_11 + 4))] by rw [show D30 0 = D_6 0 from ((show D30 0 = D_6 0 from (eD30 0)))]) ?_
                      refine v_g H (o := 0) (v := .ref (D30 2)) rfl rfl rfl rfl rfl (vrf (((((show F42 0 6 = F35 0 6 from (eF42 0 6).trans (hS42 0 6 rfl))).trans ((show F35 0 6 = F30 0 6 from (eF35 0 6))))).trans (pf30_0_6))) ?_
                      refine v_g H (o := 2) (v := I (y30_0_1)) rfl rfl rfl rfl rfl (congrArg (fun z : Int => I z) (((((show F42 2 1 = F35 2 1 from (eF42 2 1))).trans ((show F35 2 1 = F30 2 1 from (eF35 2 1)))).trans ((eF30 2 1).trans ey30_0_1)) : F42 2 1 = y30_0_1)) ?_
                      refine w_isub rfl ?_
                      refine w_icmple (t := 276) rfl rfl (show inr ((y42_0_11 + 4)) by omega) (show inr ((a4 - y30_0_1)) by omega) (fun b45 => ?_) (fun b45 => ?_)
                      · refine Ew_of (pcₚ := 277) (fun _ => x_aload_n rfl (rk_o (rk_o (rk_o (rk_o (rk_o (rk_o (rk_o (l6_0) rfl rfl) rfl rfl) rfl rfl) rfl rfl) rfl rfl) rfl rfl) rfl rfl)) ?_
                        refine Ew_stk (show ([.ref (D_6 0)] : List Value) = [.ref (D30 0)] by rw [show D30 0 = D_6 0 from ((show D30 0 = D_6 0 from (eD30 0)))]) ?_
                        refine v_g H (o := 0) (v := .ref (D30 2)) rfl rfl rfl rfl rfl (vrf (((((show F42 0 6 = F35 0 6 from (eF42 0 6).trans (hS42 0 6 rfl))).trans ((show F35 0 6 = F30 0 6 from (eF35 0 6))))).trans (pf30_0_6))) ?_
                        refine Ew_of (pcₚ := 282) (fun _ => x_iload rfl (rk_o (rk_s) rfl rfl)) ?_
                        refine Ew_of (pcₚ := 283) (fun _ => x_aload_n rfl (rk_o (rk_o (rk_o (rk_o (rk_o (rk_o (rk_o (l6_0) rfl rfl) rfl rfl) rfl rfl) rfl rfl) rfl rfl) rfl rfl) rfl rfl)) ?_
                        refine Ew_stk (show ([.ref (D_6 0), I (z35), .ref (D30 2)] : List Value) = [.ref (D30 0), I (z35), .ref (D30 2)] by rw [show D30 0 = D_6 0 from ((show D30 0 = D_6 0 from (eD30 0)))]) ?_
                        refine v_g H (o := 0) (v := I (y42_0_11)) rfl rfl rfl rfl rfl (congrArg (fun z : Int => I z) (((eF42 0 11).trans ey42_0_11) : F42 0 11 = y42_0_11)) ?_
                        refine Ew_of (pcₚ := 287) (fun _ => x_iconst rfl) ?_
                        refine w_iadd rfl ?_
                        refine Ew_of (pcₚ := 289) (fun _ => x_iload_n rfl (rk_o (rk_o (rk_o (rk_o (rk_o (rk_o (rk_o (l6_3) rfl rfl) rfl rfl) rfl rfl) rfl rfl) rfl rfl) rfl rfl) rfl rfl)) ?_
                        refine Ew_of (pcₚ := 290) (fun _ => x_aload_n rfl (rk_o (rk_o (rk_o (rk_o (rk_o (rk_o (rk_o (l6_0) rfl rfl) rfl rfl) rfl rfl) rfl rfl) rfl rfl) rfl rfl) rfl rfl)) ?_
                        refine Ew_stk (show ([.ref (D_6 0), I (a3), I ((y42_0_11 + 4)), I (z35), .ref (D30 2)] : List Value) = [.ref (D30 0), I (a3), I ((y42_0_11 + 4)), I (z35), .ref (D30 2)] by rw [show D30 0 = D_6 0 from ((show D30 0 = D_6 0 from (eD30 0)))]) ?_
                        refine v_g H (o := 0) (v := .ref (D30 4)) rfl rfl rfl rfl rfl (vrf (((((show F42 0 1 = F35 0 1 from (eF42 0 1).trans (hS42 0 1 rfl))).trans ((show F35 0 1 = F30 0 1 from (eF35 0 1))))).trans (pf30_0_1))) ?_
                        refine v_inv H (o := 2) rfl rfl rfl rfl rfl rfl (by rfl) (C163_Row (D := pul [2, 4, 3, 5] D30) (N := pul [2, 4, 3, 5] N30) (HW_sub H (VS_of (show vsub V224 V163_Row [2, 4, 3, 5] = true by decide +kernel))) (((((show F42 2 0 = F35 2 0 from (eF42 2 0))).trans ((show F35 2 0 = F30 2 0 from (eF35 2 0))))).trans (pf30_2_0)) (((((show F42 4 0 = F35 4 0 from (eF42 4 0))).trans ((show F35 4 0 = F30 4 0 from (eF35 4 0))))).trans (pf30_4_0)) (m30_2) ((congrArg (fun q : Nat => (q : Int)) (eN30 3)).trans em30_2) (n5) ((congrArg (fun q : Nat => (q : Int)) (show N30 5 = N_6 5 from (eN30 5))).trans ((congrArg (fun q : Nat => (q : Int)) (hN_6 5 rfl)).trans (en5))) (y30_0_1) (((((show F42 2 1 = F35 2 1 from (eF42 2 1))).trans ((show F35 2 1 = F30 2 1 from (eF35 2 1)))).trans ((eF30 2 1).trans ey30_0_1))) (u4_1) ((((((((show F42 4 1 = F35 4 1 from (eF42 4 1))).trans ((show F35 4 1 = F30 4 1 from (eF35 4 1)))).trans ((show F30 4 1 = F17 4 1 from (eF30 4 1)))).trans ((show F17 4 1 = F_6 4 1 from (eF17 4 1)))).trans (hS_6 4 1 rfl)).trans (eu4_1))) (show inr (z35) by omega) (show inr ((y42_0_11 + 4)) by omega) (show inr (a3) by omega) (show 0 ≤ (y30_0_1) ∧ (y30_0_1) ≤ (m30_2) ∧ (m30_2) ≤ 65536 by omega) (show 0 ≤ (u4_1) ∧ (u4_1) ≤ (n5) ∧ (n5) ≤ 65536 by omega) (show 0 ≤ (a3) ∧ (a3) ≤ (y30_0_1) by omega) (show ((y42_0_11 + 4)) < 0 ∨ 1 ≤ (z35) ∧ ((z35) ≤ (y30_0_1) - (a3) ∨ (z35) - ((y30_0_1) - (a3)) ≤ (u4_1)) by omega) (fun σ46 D46ₚ N46ₚ F46ₚ A46ₚ c46 s46 Hₚ Oₚ hD46 hN46 hS46 hA46 pm46_2 m46_2 em46_2 y46_0_1 ey46_0_1 pz46_0 pz46_1 => ⟨rfl, ?_⟩))
                        refine v_backM (c := (c_6 + c30)) (s := (s_6 + s30)) H (show vsub V224 V163_Row [2, 4, 3, 5] = true by decide +kernel) Hₚ Oₚ hD46 (show vmov V224 [2, 4, 3, 5] [2] = true by decide +kernel) (fun D46 N46 F46 A46 H Oₚ eD46 eN46 eF46 eA46 => ?_)
                        have O := OUT_trans O Oₚ
                        -- Row.copyBack
                        have pf46_0_1 : F46 0 1 = (D46 4 : Int) := ((show F46 0 1 = F42 0 1 from (eF46 0 1))).trans ((((((show F42 0 1 = F35 0 1 from (eF42 0 1).trans (hS42 0 1 rfl))).trans ((show F35 0 1 = F30 0 1 from (eF35 0 1))))).trans (pf30_0_1)).trans (congrArg (fun q : Nat => (q : Int)) ((show D46 4 = D30 4 from (eD46 4).trans (hD46 1 rfl))).symm))
                        have pf46_0_4 : F46 0 4 = (D46 1 : Int) := ((show F46 0 4 = F42 0 4 from (eF46 0 4))).trans ((((((show F42 0 4 = F35 0 4 from (eF42 0 4).trans (hS42 0 4 rfl))).trans ((show F35 0 4 = F30 0 4 from (eF35 0 4))))).trans (pf30_0_4)).trans (congrArg (fun q : Nat => (q : Int)) ((show D46 1 = D30 1 from (eD46 1))).symm))
                        have pf46_0_6 : F46 0 6 = (D46 2 : Int) := ((show F46 0 6 = F42 0 6 from (eF46 0 6))).trans ((((((show F42 0 6 = F35 0 6 from (eF42 0 6).trans (hS42 0 6 rfl))).trans ((show F35 0 6 = F30 0 6 from (eF35 0 6))))).trans (pf30_0_6)).trans (congrArg (fun q : Nat => (q : Int)) ((show D46 2 = D30 2 from (eD46 2).trans (hD46 0 rfl))).symm))
                        have pf46_2_0 : F46 2 0 = (D46 3 : Int) := (eF46 2 0).trans (pm46_2.trans (congrArg (fun q : Nat => (q : Int)) (eD46 3).symm))
                        have pf46_4_0 : F46 4 0 = (D46 5 : Int) := ((show F46 4 0 = F42 4 0 from (eF46 4 0).trans (hS46 1 0 rfl))).trans ((((((show F42 4 0 = F35 4 0 from (eF42 4 0))).trans ((show F35 4 0 = F30 4 0 from (eF35 4 0))))).trans (pf30_4_0)).trans (congrArg (fun q : Nat => (q : Int)) ((show D46 5 = D30 5 from (eD46 5).trans (hD46 3 rfl))).symm))
                        have r47 : (0 : Int) ≤ m46_2 ∧ m46_2 ≤ 1000000 := by have h1 := H.nle 3 (by decide); have h2 : (N46 3 : Int) = m46_2 := (congrArg (fun q : Nat => (q : Int)) (eN46 3)).trans em46_2; omega
                        have r48 : (-2147483648 : Int) ≤ y46_0_1 ∧ y46_0_1 ≤ 2147483647 := by have h1 : (-2147483648 : Int) ≤ F46 2 1 ∧ F46 2 1 ≤ 2147483647 := H.krg 2 1 (by decide); rw [show F46 2 1 = y46_0_1 from ((eF46 2 1).trans ey46_0_1)] at h1; exact h1
                        refine Ew_of (pcₚ := 299) (fun _ => x_iinc (len := 3) rfl (rk_o (rk_o (rk_o (rk_o (rk_o (rk_o (rk_o (l6_6) rfl rfl) rfl rfl) rfl rfl) rfl rfl) rfl rfl) rfl rfl) rfl rfl)) ?_
                        refine Ew_of (pcₚ := 6) (fun _ => x_goto rfl rfl) ?_
                        exact ih6 _ (by omega) _ _ _ _ _ _ _ _ (z42) ((x6_6 + 1)) ((rk_o (rk_o (rk_o (rk_o (rk_o (rk_o (rk_o (rk_o (l6_0) rfl rfl) rfl rfl) rfl rfl) rfl rfl) rfl rfl) rfl rfl) rfl rfl) rfl rfl).trans (congrArg (fun q : Nat => some (Value.ref q)) ((((show D46 0 = D30 0 from (eD46 0))).trans ((show D30 0 = D_6 0 from (eD30 0))))).symm)) (rk_o (rk_o (rk_o (rk_o (rk_o (rk_o (rk_o (rk_o (l6_2) rfl rfl) rfl rfl) rfl rfl) rfl rfl) rfl rfl) rfl rfl) rfl rfl) rfl rfl) (rk_o (rk_o (rk_o (rk_o (rk_o (rk_o (rk_o (rk_o (l6_3) rfl rfl) rfl rfl) rfl rfl) rfl rfl) rfl rfl) rfl rfl) rfl rfl) rfl rfl) (rk_o (rk_o (rk_o (rk_o (rk_o (rk_o (rk_o (rk_o (l6_4) rfl rfl) rfl rfl) rfl rfl) rfl rfl) rfl rfl) rfl rfl) rfl rfl) rfl rfl) (rk_o (rk_s) rfl rfl) (rk_s) H O (SD_trans (SD_trans (hD_6) (SD_glu (ι := [2, 1, 3]) hD30 eD30 (by decide +kernel)) (any_subA (lₚ := [3]) rfl)) (SD_glu (ι := [2, 4, 3, 5]) hD46 eD46 (by decide +kernel)) (any_subA (lₚ := [3]) rfl)) (SD_trans (SD_trans (hN_6) (SD_glu (ι := [2, 1, 3]) hN30 eN30 (by decide +kernel)) (any_subA (lₚ := [3]) rfl)) (SD_glu (ι := [2, 4, 3, 5]) hN46 eN46 (by decide +kernel)) (any_subA (lₚ := [3]) rfl)) (SF_trans (SF_trans (SF_trans (SF_trans (SF_trans (hS_6) (SF_glu (ι := [0, 1]) hS17 eF17 (by decide +kernel)) (any_sub (lₚ := [(0, 11)]) rfl)) (SF_glu (ι := [2, 1, 3]) hS30 eF30 (by decide +kernel)) (any_sub (lₚ := [(2, 0), (2, 1), (2, 2)]) rfl)) (SF_glu (ι := [1]) hS35 eF35 (by decide +kernel)) (any_sub (lₚ := []) rfl)) (SF_glu (ι := [0, 1]) hS42 eF42 (by decide +kernel)) (any_sub (lₚ := [(0, 11)]) rfl)) (SF_glu (ι := [2, 4, 3, 5]) hS46 eF46 (by decide +kernel)) (any_sub (lₚ := [(2, 0), (2, 1), (2, 2)]) rfl)) (SA_trans (SA_trans (SA_trans (SA_trans (SA_trans (hA_6) (SA_glu (ι := [0, 1]) hA17 eA17 (by decide +kernel)) (any_subA (lₚ := []) rfl)) (SA_glu (ι := [2, 1, 3]) hA30 eA30 (by decide +kernel)) (any_subA (lₚ := [3]) rfl)) (SA_glu (ι := [1]) hA35 eA35 (by decide +kernel)) (any_subA (lₚ := []) rfl)) (SA_glu (ι := [0, 1]) hA42 eA42 (by decide +kernel)) (any_subA (lₚ := []) rfl)) (SA_glu (ι := [2, 4, 3, 5]) hA46 eA46 (by decide +kernel)) (any_subA (lₚ := [3]) rfl)) (pf46_2_0) (m46_2) ((congrArg (fun q : Nat => (q : Int)) (eN46 3)).trans em46_2) (y46_0_1) (((eF46 2 1).trans ey46_0_1))  (show inr (z42) by omega) (show inr ((x6_6 + 1)) by omega) (show (a1) ≤ ((x6_6 + 1)) by omega) (show ((x6_6 + 1)) ≤ (a1) ∨ ((x6_6 + 1)) ≤ (((a2) + 1)) by omega) (show 0 ≤ (z42) ∧ (z42) ≤ (a2) by omega) (show 0 ≤ (y46_0_1) ∧ (y46_0_1) ≤ (m46_2) ∧ (m46_2) ≤ 65536 by omega) (show (u2_1) ≤ (y46_0_1) by omega) (show (y46_0_1) ≤ (a4) ∨ (y46_0_1) = (u2_1) by omega) rfl
                      · refine Ew_of (pcₚ := 269) (fun _ => x_aload_n rfl (rk_o (rk_o (rk_o (rk_o (rk_o (rk_o (rk_o (l6_0) rfl rfl) rfl rfl) rfl rfl) rfl rfl) rfl rfl) rfl rfl) rfl rfl)) ?_
                        refine Ew_of (pcₚ := 270) (fun _ => x_iconst rfl) ?_
                        refine Ew_of (pcₚ := 272) (fun _ => x_iload rfl (rk_o (rk_o (rk_s) rfl rfl) rfl rfl)) ?_
                        refine Ew_stk (show ([I ((z17 + y17_0_11)), I (3), .ref (D_6 0)] : List Value) = [I ((z17 + y17_0_11)), I (3), .ref (D30 0)] by rw [show D30 0 = D_6 0 from ((show D30 0 = D_6 0 from (eD30 0)))]) ?_
                        have r49 : (-2147483648 : Int) ≤ F 0 12 ∧ F 0 12 ≤ 2147483647 := by have h1 : (-2147483648 : Int) ≤ F42 0 12 ∧ F42 0 12 ≤ 2147483647 := H.krg 0 12 (by decide); rw [show F42 0 12 = F 0 12 from ((((((show F42 0 12 = F35 0 12 from (eF42 0 12).trans (hS42 0 12 rfl))).trans ((show F35 0 12 = F30 0 12 from (eF35 0 12)))).trans ((show F30 0 12 = F17 0 12 from (eF30 0 12)))).trans ((show F17 0 12 = F_6 0 12 from (eF17 0 12).trans (hS17 0 12 rfl)))).trans (hS_6 0 12 rfl))] at h1; exact h1
                        refine v_inv H (o := 0) rfl rfl rfl rfl rfl rfl (by rfl) (C221 (D := pul [0] D30) (N := pul [0] N30) (HW_sub H (VS_of (show vsub V224 V221 [0] = true by decide +kernel))) (F 0 12) (((((((show F42 0 12 = F35 0 12 from (eF42 0 12).trans (hS42 0 12 rfl))).trans ((show F35 0 12 = F30 0 12 from (eF35 0 12)))).trans ((show F30 0 12 = F17 0 12 from (eF30 0 12)))).trans ((show F17 0 12 = F_6 0 12 from (eF17 0 12).trans (hS17 0 12 rfl)))).trans (hS_6 0 12 rfl))) (show inr (3) by omega) (show inr ((z17 + y17_0_11)) by omega) (fun z50 σ50 F50ₚ A50ₚ Hₚ Oₚ hS50 hA50 y50_0_12 ey50_0_12 pz50_0 pz50_1 pz50_2 => ⟨rfl, ?_⟩))
                        refine v_back (c := (c_6 + c30)) (s := (s_6 + s30)) H (show vsub V224 V221 [0] = true by decide +kernel) Hₚ Oₚ (fun F50 A50 H Oₚ eF50 eA50 => ?_)
                        have O := OUT_trans O Oₚ
                        -- Tokens.fail
                        have r51 : (-2147483648 : Int) ≤ y50_0_12 ∧ y50_0_12 ≤ 2147483647 := by have h1 : (-2147483648 : Int) ≤ F50 0 12 ∧ F50 0 12 ≤ 2147483647 := H.krg 0 12 (by decide); rw [show F50 0 12 = y50_0_12 from ((eF50 0 12).trans ey50_0_12)] at h1; exact h1
                        exact w_ireturn rfl (k (z50) _ _ _ _ _ _ _ H O (SD_trans (SD_trans (SD_refl) hD_6 (any_subA rfl)) (SD_glu (ι := [2, 1, 3]) hD30 eD30 (by decide +kernel)) (any_subA (lₚ := [3]) rfl)) (SD_trans (SD_trans (SD_refl) hN_6 (any_subA rfl)) (SD_glu (ι := [2, 1, 3]) hN30 eN30 (by decide +kernel)) (any_subA (lₚ := [3]) rfl)) (SF_trans (SF_trans (SF_trans (SF_trans (SF_trans (SF_trans (SF_refl) hS_6 (any_sub rfl)) (SF_glu (ι := [0, 1]) hS17 eF17 (by decide +kernel)) (any_sub (lₚ := [(0, 11)]) rfl)) (SF_glu (ι := [2, 1, 3]) hS30 eF30 (by decide +kernel)) (any_sub (lₚ := [(2, 0), (2, 1), (2, 2)]) rfl)) (SF_glu (ι := [1]) hS35 eF35 (by decide +kernel)) (any_sub (lₚ := []) rfl)) (SF_glu (ι := [0, 1]) hS42 eF42 (by decide +kernel)) (any_sub (lₚ := [(0, 11)]) rfl)) (SF_glu (ι := [0]) hS50 eF50 (by decide +kernel)) (any_sub (lₚ := [(0, 12)]) rfl)) (SA_trans (SA_trans (SA_trans (SA_trans (SA_trans (SA_trans (SA_refl) hA_6 (any_subA rfl)) (SA_glu (ι := [0, 1]) hA17 eA17 (by decide +kernel)) (any_subA (lₚ := []) rfl)) (SA_glu (ι := [2, 1, 3]) hA30 eA30 (by decide +kernel)) (any_subA (lₚ := [3]) rfl)) (SA_glu (ι := [1]) hA35 eA35 (by decide +kernel)) (any_subA (lₚ := []) rfl)) (SA_glu (ι := [0, 1]) hA42 eA42 (by decide +kernel)) (any_subA (lₚ := []) rfl)) (SA_glu (ι := [0]) hA50 eA50 (by decide +kernel)) (any_subA (lₚ := []) rfl)) ((((((show F50 2 0 = F42 2 0 from (eF50 2 0))).trans ((show F42 2 0 = F35 2 0 from (eF42 2 0)))).trans ((show F35 2 0 = F30 2 0 from (eF35 2 0))))).trans (pf30_2_0)) (m30_2) ((congrArg (fun q : Nat => (q : Int)) (eN30 3)).trans em30_2) (y30_0_1) ((((((show F50 2 1 = F42 2 1 from (eF50 2 1))).trans ((show F42 2 1 = F35 2 1 from (eF42 2 1)))).trans ((show F35 2 1 = F30 2 1 from (eF35 2 1)))).trans ((eF30 2 1).trans ey30_0_1))) (show inr (z50) by omega) (show 0 ≤ (z50) ∧ (z50) ≤ 3 by omega) (show 0 ≤ (y30_0_1) ∧ (y30_0_1) ≤ (m30_2) ∧ (m30_2) ≤ 65536 by omega) (show (u2_1) ≤ (y30_0_1) by omega) (show (y30_0_1) ≤ a4 ∨ (y30_0_1) = (u2_1) by omega))
                    · refine Ew_of (pcₚ := 243) (fun _ => x_aload_n rfl (rk_o (rk_o (rk_o (rk_o (rk_o (rk_o (rk_o (l6_0) rfl rfl) rfl rfl) rfl rfl) rfl rfl) rfl rfl) rfl rfl) rfl rfl)) ?_
                      refine Ew_of (pcₚ := 244) (fun _ => x_iconst rfl) ?_
                      refine Ew_of (pcₚ := 245) (fun _ => x_iload_n rfl (rk_o (rk_o (rk_o (rk_o (rk_o (rk_o (rk_o (l6_2) rfl rfl) rfl rfl) rfl rfl) rfl rfl) rfl rfl) rfl rfl) rfl rfl)) ?_
                      refine Ew_stk (show ([I (a2), I (1), .ref (D_6 0)] : List Value) = [I (a2), I (1), .ref (D30 0)] by rw [show D30 0 = D_6 0 from ((show D30 0 = D_6 0 from (eD30 0)))]) ?_
                      have r52 : (-2147483648 : Int) ≤ F 0 12 ∧ F 0 12 ≤ 2147483647 := by have h1 : (-2147483648 : Int) ≤ F42 0 12 ∧ F42 0 12 ≤ 2147483647 := H.krg 0 12 (by decide); rw [show F42 0 12 = F 0 12 from ((((((show F42 0 12 = F35 0 12 from (eF42 0 12).trans (hS42 0 12 rfl))).trans ((show F35 0 12 = F30 0 12 from (eF35 0 12)))).trans ((show F30 0 12 = F17 0 12 from (eF30 0 12)))).trans ((show F17 0 12 = F_6 0 12 from (eF17 0 12).trans (hS17 0 12 rfl)))).trans (hS_6 0 12 rfl))] at h1; exact h1
                      refine v_inv H (o := 0) rfl rfl rfl rfl rfl rfl (by rfl) (C221 (D := pul [0] D30) (N := pul [0] N30) (HW_sub H (VS_of (show vsub V224 V221 [0] = true by decide +kernel))) (F 0 12) (((((((show F42 0 12 = F35 0 12 from (eF42 0 12).trans (hS42 0 12 rfl))).trans ((show F35 0 12 = F30 0 12 from (eF35 0 12)))).trans ((show F30 0 12 = F17 0 12 from (eF30 0 12)))).trans ((show F17 0 12 = F_6 0 12 from (eF17 0 12).trans (hS17 0 12 rfl)))).trans (hS_6 0 12 rfl))) (show inr (1) by omega) (show inr (a2) by omega) (fun z53 σ53 F53ₚ A53ₚ Hₚ Oₚ hS53 hA53 y53_0_12 ey53_0_12 pz53_0 pz53_1 pz53_2 => ⟨rfl, ?_⟩))
                      refine v_back (c := (c_6 + c30)) (s := (s_6 + s30)) H (show vsub V224 V221 [0] = true by decide +kernel) Hₚ Oₚ (fun F53 A53 H Oₚ eF53 eA53 => ?_)
                      have O := OUT_trans O Oₚ
                      -- Tokens.fail
                      have r54 : (-2147483648 : Int) ≤ y53_0_12 ∧ y53_0_12 ≤ 2147483647 := by have h1 : (-2147483648 : Int) ≤ F53 0 12 ∧ F53 0 12 ≤ 2147483647 := H.krg 0 12 (by decide); rw [show F53 0 12 = y53_0_12 from ((eF53 0 12).trans ey53_0_12)] at h1; exact h1
                      exact w_ireturn rfl (k (z53) _ _ _ _ _ _ _ H O (SD_trans (SD_trans (SD_refl) hD_6 (any_subA rfl)) (SD_glu (ι := [2, 1, 3]) hD30 eD30 (by decide +kernel)) (any_subA (lₚ := [3]) rfl)) (SD_trans (SD_trans (SD_refl) hN_6 (any_subA rfl)) (SD_glu (ι := [2, 1, 3]) hN30 eN30 (by decide +kernel)) (any_subA (lₚ := [3]) rfl)) (SF_trans (SF_trans (SF_trans (SF_trans (SF_trans (SF_trans (SF_refl) hS_6 (any_sub rfl)) (SF_glu (ι := [0, 1]) hS17 eF17 (by decide +kernel)) (any_sub (lₚ := [(0, 11)]) rfl)) (SF_glu (ι := [2, 1, 3]) hS30 eF30 (by decide +kernel)) (any_sub (lₚ := [(2, 0), (2, 1), (2, 2)]) rfl)) (SF_glu (ι := [1]) hS35 eF35 (by decide +kernel)) (any_sub (lₚ := []) rfl)) (SF_glu (ι := [0, 1]) hS42 eF42 (by decide +kernel)) (any_sub (lₚ := [(0, 11)]) rfl)) (SF_glu (ι := [0]) hS53 eF53 (by decide +kernel)) (any_sub (lₚ := [(0, 12)]) rfl)) (SA_trans (SA_trans (SA_trans (SA_trans (SA_trans (SA_trans (SA_refl) hA_6 (any_subA rfl)) (SA_glu (ι := [0, 1]) hA17 eA17 (by decide +kernel)) (any_subA (lₚ := []) rfl)) (SA_glu (ι := [2, 1, 3]) hA30 eA30 (by decide +kernel)) (any_subA (lₚ := [3]) rfl)) (SA_glu (ι := [1]) hA35 eA35 (by decide +kernel)) (any_subA (lₚ := []) rfl)) (SA_glu (ι := [0, 1]) hA42 eA42 (by decide +kernel)) (any_subA (lₚ := []) rfl)) (SA_glu (ι := [0]) hA53 eA53 (by decide +kernel)) (any_subA (lₚ := []) rfl)) ((((((show F53 2 0 = F42 2 0 from (eF53 2 0))).trans ((show F42 2 0 = F35 2 0 from (eF42 2 0)))).trans ((show F35 2 0 = F30 2 0 from (eF35 2 0))))).trans (pf30_2_0)) (m30_2) ((congrArg (fun q : Nat => (q : Int)) (eN30 3)).trans em30_2) (y30_0_1) ((((((show F53 2 1 = F42 2 1 from (eF53 2 1))).trans ((show F42 2 1 = F35 2 1 from (eF42 2 1)))).trans ((show F35 2 1 = F30 2 1 from (eF35 2 1)))).trans ((eF30 2 1).trans ey30_0_1))) (show inr (z53) by omega) (show 0 ≤ (z53) ∧ (z53) ≤ 3 by omega) (show 0 ≤ (y30_0_1) ∧ (y30_0_1) ≤ (m30_2) ∧ (m30_2) ≤ 65536 by omega) (show (u2_1) ≤ (y30_0_1) by omega) (show (y30_0_1) ≤ a4 ∨ (y30_0_1) = (u2_1) by omega))
                  · refine Ew_of (pcₚ := 214) (fun _ => x_aload_n rfl (rk_o (rk_o (rk_o (rk_o (rk_o (rk_o (l6_0) rfl rfl) rfl rfl) rfl rfl) rfl rfl) rfl rfl) rfl rfl)) ?_
                    refine Ew_of (pcₚ := 215) (fun _ => x_iconst rfl) ?_
                    refine Ew_of (pcₚ := 217) (fun _ => x_iload rfl (rk_o (rk_s) rfl rfl)) ?_
                    refine Ew_stk (show ([I ((z17 + y17_0_11)), I (2), .ref (D_6 0)] : List Value) = [I ((z17 + y17_0_11)), I (2), .ref (D30 0)] by rw [show D30 0 = D_6 0 from ((show D30 0 = D_6 0 from (eD30 0)))]) ?_
                    have r55 : (-2147483648 : Int) ≤ F 0 12 ∧ F 0 12 ≤ 2147483647 := by have h1 : (-2147483648 : Int) ≤ F35 0 12 ∧ F35 0 12 ≤ 2147483647 := H.krg 0 12 (by decide); rw [show F35 0 12 = F 0 12 from (((((show F35 0 12 = F30 0 12 from (eF35 0 12))).trans ((show F30 0 12 = F17 0 12 from (eF30 0 12)))).trans ((show F17 0 12 = F_6 0 12 from (eF17 0 12).trans (hS17 0 12 rfl)))).trans (hS_6 0 12 rfl))] at h1; exact h1
                    refine v_inv H (o := 0) rfl rfl rfl rfl rfl rfl (by rfl) (C221 (D := pul [0] D30) (N := pul [0] N30) (HW_sub H (VS_of (show vsub V224 V221 [0] = true by decide +kernel))) (F 0 12) ((((((show F35 0 12 = F30 0 12 from (eF35 0 12))).trans ((show F30 0 12 = F17 0 12 from (eF30 0 12)))).trans ((show F17 0 12 = F_6 0 12 from (eF17 0 12).trans (hS17 0 12 rfl)))).trans (hS_6 0 12 rfl))) (show inr (2) by omega) (show inr ((z17 + y17_0_11)) by omega) (fun z56 σ56 F56ₚ A56ₚ Hₚ Oₚ hS56 hA56 y56_0_12 ey56_0_12 pz56_0 pz56_1 pz56_2 => ⟨rfl, ?_⟩))
                    refine v_back (c := (c_6 + c30)) (s := (s_6 + s30)) H (show vsub V224 V221 [0] = true by decide +kernel) Hₚ Oₚ (fun F56 A56 H Oₚ eF56 eA56 => ?_)
                    have O := OUT_trans O Oₚ
                    -- Tokens.fail
                    have r57 : (-2147483648 : Int) ≤ y56_0_12 ∧ y56_0_12 ≤ 2147483647 := by have h1 : (-2147483648 : Int) ≤ F56 0 12 ∧ F56 0 12 ≤ 2147483647 := H.krg 0 12 (by decide); rw [show F56 0 12 = y56_0_12 from ((eF56 0 12).trans ey56_0_12)] at h1; exact h1
                    exact w_ireturn rfl (k (z56) _ _ _ _ _ _ _ H O (SD_trans (SD_trans (SD_refl) hD_6 (any_subA rfl)) (SD_glu (ι := [2, 1, 3]) hD30 eD30 (by decide +kernel)) (any_subA (lₚ := [3]) rfl)) (SD_trans (SD_trans (SD_refl) hN_6 (any_subA rfl)) (SD_glu (ι := [2, 1, 3]) hN30 eN30 (by decide +kernel)) (any_subA (lₚ := [3]) rfl)) (SF_trans (SF_trans (SF_trans (SF_trans (SF_trans (SF_refl) hS_6 (any_sub rfl)) (SF_glu (ι := [0, 1]) hS17 eF17 (by decide +kernel)) (any_sub (lₚ := [(0, 11)]) rfl)) (SF_glu (ι := [2, 1, 3]) hS30 eF30 (by decide +kernel)) (any_sub (lₚ := [(2, 0), (2, 1), (2, 2)]) rfl)) (SF_glu (ι := [1]) hS35 eF35 (by decide +kernel)) (any_sub (lₚ := []) rfl)) (SF_glu (ι := [0]) hS56 eF56 (by decide +kernel)) (any_sub (lₚ := [(0, 12)]) rfl)) (SA_trans (SA_trans (SA_trans (SA_trans (SA_trans (SA_refl) hA_6 (any_subA rfl)) (SA_glu (ι := [0, 1]) hA17 eA17 (by decide +kernel)) (any_subA (lₚ := []) rfl)) (SA_glu (ι := [2, 1, 3]) hA30 eA30 (by decide +kernel)) (any_subA (lₚ := [3]) rfl)) (SA_glu (ι := [1]) hA35 eA35 (by decide +kernel)) (any_subA (lₚ := []) rfl)) (SA_glu (ι := [0]) hA56 eA56 (by decide +kernel)) (any_subA (lₚ := []) rfl)) (((((show F56 2 0 = F35 2 0 from (eF56 2 0))).trans ((show F35 2 0 = F30 2 0 from (eF35 2 0))))).trans (pf30_2_0)) (m30_2) ((congrArg (fun q : Nat => (q : Int)) (eN30 3)).trans em30_2) (y30_0_1) (((((show F56 2 1 = F35 2 1 from (eF56 2 1))).trans ((show F35 2 1 = F30 2 1 from (eF35 2 1)))).trans ((eF30 2 1).trans ey30_0_1))) (show inr (z56) by omega) (show 0 ≤ (z56) ∧ (z56) ≤ 3 by omega) (show 0 ≤ (y30_0_1) ∧ (y30_0_1) ≤ (m30_2) ∧ (m30_2) ≤ 65536 by omega) (show (u2_1) ≤ (y30_0_1) by omega) (show (y30_0_1) ≤ a4 ∨ (y30_0_1) = (u2_1) by omega))
              · refine Ew_of (pcₚ := 163) (fun _ => x_aload_n rfl (rk_o (rk_o (rk_o (rk_o (l6_0) rfl rfl) rfl rfl) rfl rfl) rfl rfl)) ?_
                refine Ew_of (pcₚ := 164) (fun _ => x_iconst rfl) ?_
                refine Ew_of (pcₚ := 165) (fun _ => x_iload_n rfl (rk_o (rk_o (rk_o (rk_o (l6_2) rfl rfl) rfl rfl) rfl rfl) rfl rfl)) ?_
                refine Ew_stk (show ([I (a2), I (1), .ref (D_6 0)] : List Value) = [I (a2), I (1), .ref (D30 0)] by rw [show D30 0 = D_6 0 from ((show D30 0 = D_6 0 from (eD30 0)))]) ?_
                have r58 : (-2147483648 : Int) ≤ F 0 12 ∧ F 0 12 ≤ 2147483647 := by have h1 : (-2147483648 : Int) ≤ F30 0 12 ∧ F30 0 12 ≤ 2147483647 := H.krg 0 12 (by decide); rw [show F30 0 12 = F 0 12 from ((((show F30 0 12 = F17 0 12 from (eF30 0 12))).trans ((show F17 0 12 = F_6 0 12 from (eF17 0 12).trans (hS17 0 12 rfl)))).trans (hS_6 0 12 rfl))] at h1; exact h1
                refine v_inv H (o := 0) rfl rfl rfl rfl rfl rfl (by rfl) (C221 (D := pul [0] D30) (N := pul [0] N30) (HW_sub H (VS_of (show vsub V224 V221 [0] = true by decide +kernel))) (F 0 12) (((((show F30 0 12 = F17 0 12 from (eF30 0 12))).trans ((show F17 0 12 = F_6 0 12 from (eF17 0 12).trans (hS17 0 12 rfl)))).trans (hS_6 0 12 rfl))) (show inr (1) by omega) (show inr (a2) by omega) (fun z59 σ59 F59ₚ A59ₚ Hₚ Oₚ hS59 hA59 y59_0_12 ey59_0_12 pz59_0 pz59_1 pz59_2 => ⟨rfl, ?_⟩))
                refine v_back (c := (c_6 + c30)) (s := (s_6 + s30)) H (show vsub V224 V221 [0] = true by decide +kernel) Hₚ Oₚ (fun F59 A59 H Oₚ eF59 eA59 => ?_)
                have O := OUT_trans O Oₚ
                -- Tokens.fail
                have r60 : (-2147483648 : Int) ≤ y59_0_12 ∧ y59_0_12 ≤ 2147483647 := by have h1 : (-2147483648 : Int) ≤ F59 0 12 ∧ F59 0 12 ≤ 2147483647 := H.krg 0 12 (by decide); rw [show F59 0 12 = y59_0_12 from ((eF59 0 12).trans ey59_0_12)] at h1; exact h1
                exact w_ireturn rfl (k (z59) _ _ _ _ _ _ _ H O (SD_trans (SD_trans (SD_refl) hD_6 (any_subA rfl)) (SD_glu (ι := [2, 1, 3]) hD30 eD30 (by decide +kernel)) (any_subA (lₚ := [3]) rfl)) (SD_trans (SD_trans (SD_refl) hN_6 (any_subA rfl)) (SD_glu (ι := [2, 1, 3]) hN30 eN30 (by decide +kernel)) (any_subA (lₚ := [3]) rfl)) (SF_trans (SF_trans (SF_trans (SF_trans (SF_refl) hS_6 (any_sub rfl)) (SF_glu (ι := [0, 1]) hS17 eF17 (by decide +kernel)) (any_sub (lₚ := [(0, 11)]) rfl)) (SF_glu (ι := [2, 1, 3]) hS30 eF30 (by decide +kernel)) (any_sub (lₚ := [(2, 0), (2, 1), (2, 2)]) rfl)) (SF_glu (ι := [0]) hS59 eF59 (by decide +kernel)) (any_sub (lₚ := [(0, 12)]) rfl)) (SA_trans (SA_trans (SA_trans (SA_trans (SA_refl) hA_6 (any_subA rfl)) (SA_glu (ι := [0, 1]) hA17 eA17 (by decide +kernel)) (any_subA (lₚ := []) rfl)) (SA_glu (ι := [2, 1, 3]) hA30 eA30 (by decide +kernel)) (any_subA (lₚ := [3]) rfl)) (SA_glu (ι := [0]) hA59 eA59 (by decide +kernel)) (any_subA (lₚ := []) rfl)) ((((show F59 2 0 = F30 2 0 from (eF59 2 0)))).trans (pf30_2_0)) (m30_2) ((congrArg (fun q : Nat => (q : Int)) (eN30 3)).trans em30_2) (y30_0_1) ((((show F59 2 1 = F30 2 1 from (eF59 2 1))).trans ((eF30 2 1).trans ey30_0_1))) (show inr (z59) by omega) (show 0 ≤ (z59) ∧ (z59) ≤ 3 by omega) (show 0 ≤ (y30_0_1) ∧ (y30_0_1) ≤ (m30_2) ∧ (m30_2) ≤ 65536 by omega) (show (u2_1) ≤ (y30_0_1) by omega) (show (y30_0_1) ≤ a4 ∨ (y30_0_1) = (u2_1) by omega))
            · refine Ew_of (pcₚ := 153) (fun _ => x_iconst rfl) ?_
              exact w_ireturn rfl (k (0) _ _ _ _ _ _ _ H O (SD_trans (SD_trans (SD_refl) hD_6 (any_subA rfl)) (SD_glu (ι := [2, 1, 3]) hD30 eD30 (by decide +kernel)) (any_subA (lₚ := [3]) rfl)) (SD_trans (SD_trans (SD_refl) hN_6 (any_subA rfl)) (SD_glu (ι := [2, 1, 3]) hN30 eN30 (by decide +kernel)) (any_subA (lₚ := [3]) rfl)) (SF_trans (SF_trans (SF_trans (SF_refl) hS_6 (any_sub rfl)) (SF_glu (ι := [0, 1]) hS17 eF17 (by decide +kernel)) (any_sub (lₚ := [(0, 11)]) rfl)) (SF_glu (ι := [2, 1, 3]) hS30 eF30 (by decide +kernel)) (any_sub (lₚ := [(2, 0), (2, 1), (2, 2)]) rfl)) (SA_trans (SA_trans (SA_trans (SA_refl) hA_6 (any_subA rfl)) (SA_glu (ι := [0, 1]) hA17 eA17 (by decide +kernel)) (any_subA (lₚ := []) rfl)) (SA_glu (ι := [2, 1, 3]) hA30 eA30 (by decide +kernel)) (any_subA (lₚ := [3]) rfl)) (pf30_2_0) (m30_2) ((congrArg (fun q : Nat => (q : Int)) (eN30 3)).trans em30_2) (y30_0_1) (((eF30 2 1).trans ey30_0_1)) (show inr (0) by omega) (show 0 ≤ (0) ∧ (0) ≤ 3 by omega) (show 0 ≤ (y30_0_1) ∧ (y30_0_1) ≤ (m30_2) ∧ (m30_2) ≤ 65536 by omega) (show (u2_1) ≤ (y30_0_1) by omega) (show (y30_0_1) ≤ a4 ∨ (y30_0_1) = (u2_1) by omega))
          · exact hc86  _ _ _ _  (rk_o (rk_o (rk_o (l6_0) rfl rfl) rfl rfl) rfl rfl) (rk_o (rk_o (rk_o (l6_2) rfl rfl) rfl rfl) rfl rfl) (rk_o (rk_s) rfl rfl) (rk_s) H O (SF_refl) (SA_refl)     (show ((z17) < (0)) ∨ ((z17) ≥ (0) ∧ (y17_0_11) > (z19)) by omega)
      · refine Ew_of (pcₚ := 19) (fun _ => x_aload_n rfl l6_0) ?_
        refine Ew_of (pcₚ := 20) (fun _ => x_iconst rfl) ?_
        refine Ew_of (pcₚ := 21) (fun _ => x_iload_n rfl l6_2) ?_
        have r61 : (-2147483648 : Int) ≤ F 0 12 ∧ F 0 12 ≤ 2147483647 := by have h1 : (-2147483648 : Int) ≤ F_6 0 12 ∧ F_6 0 12 ≤ 2147483647 := H.krg 0 12 (by decide); rw [show F_6 0 12 = F 0 12 from (hS_6 0 12 rfl)] at h1; exact h1
        refine v_inv H (o := 0) rfl rfl rfl rfl rfl rfl (by rfl) (C221 (D := pul [0] D_6) (N := pul [0] N_6) (HW_sub H (VS_of (show vsub V224 V221 [0] = true by decide +kernel))) (F 0 12) ((hS_6 0 12 rfl)) (show inr (1) by omega) (show inr (a2) by omega) (fun z62 σ62 F62ₚ A62ₚ Hₚ Oₚ hS62 hA62 y62_0_12 ey62_0_12 pz62_0 pz62_1 pz62_2 => ⟨rfl, ?_⟩))
        refine v_back (c := c_6) (s := s_6) H (show vsub V224 V221 [0] = true by decide +kernel) Hₚ Oₚ (fun F62 A62 H Oₚ eF62 eA62 => ?_)
        have O := OUT_trans O Oₚ
        -- Tokens.fail
        have r63 : (-2147483648 : Int) ≤ y62_0_12 ∧ y62_0_12 ≤ 2147483647 := by have h1 : (-2147483648 : Int) ≤ F62 0 12 ∧ F62 0 12 ≤ 2147483647 := H.krg 0 12 (by decide); rw [show F62 0 12 = y62_0_12 from ((eF62 0 12).trans ey62_0_12)] at h1; exact h1
        exact w_ireturn rfl (k (z62) _ _ _ _ _ _ _ H O (SD_trans (SD_refl) hD_6 (any_subA rfl)) (SD_trans (SD_refl) hN_6 (any_subA rfl)) (SF_trans (SF_trans (SF_refl) hS_6 (any_sub rfl)) (SF_glu (ι := [0]) hS62 eF62 (by decide +kernel)) (any_sub (lₚ := [(0, 12)]) rfl)) (SA_trans (SA_trans (SA_refl) hA_6 (any_subA rfl)) (SA_glu (ι := [0]) hA62 eA62 (by decide +kernel)) (any_subA (lₚ := []) rfl)) ((((show F62 2 0 = F_6 2 0 from (eF62 2 0)))).trans (pm6_3)) (m6_3) (em6_3) (y6_2_1) ((((show F62 2 1 = F_6 2 1 from (eF62 2 1))).trans (ey6_2_1))) (show inr (z62) by omega) (show 0 ≤ (z62) ∧ (z62) ≤ 3 by omega) (show 0 ≤ (y6_2_1) ∧ (y6_2_1) ≤ (m6_3) ∧ (m6_3) ≤ 65536 by omega) (show (u2_1) ≤ (y6_2_1) by omega) (show (y6_2_1) ≤ a4 ∨ (y6_2_1) = (u2_1) by omega))
abbrev V222_Row_Row : vV := [(0, 11, [(4, 0), (4, 0), (4, 0), (4, 0), (4, 0), (0, 0), (4, 0), (0, 0), (0, 0), (0, 0), (0, 0), (0, 0), (0, 0)]), (0, 7, [(4, 0), (0, 0), (1, 0), (0, 0), (0, 0)]), (0, 7, [(4, 0), (0, 0), (1, 0), (0, 0), (0, 0)]), (1, 0, [])]
/-- Tokens.begin: this, #1, #2, #1.bytes -/
theorem C222_Row_Row {σE : rS} {D N : Nat → Nat} {F : hF} {A : hA} {d c s : Nat} {Q : wQ} (H : HW V222_Row_Row σE D N F A) {a3 : Int} (pf3 : F 1 0 = (D 3 : Int)) (n3 : Int) (en3 : (N 3 : Int) = n3) (u0_5 : Int) (eu0_5 : F 0 5 = u0_5) (u0_7 : Int) (eu0_7 : F 0 7 = u0_7) (u0_12 : Int) (eu0_12 : F 0 12 = u0_12) (u1_1 : Int) (eu1_1 : F 1 1 = u1_1) (h0 : inr (a3)) (k : ∀ (σ : rS) (Fₚ : hF) (Aₚ : hA), HW V222_Row_Row σ D N Fₚ Aₚ → OUT (V222_Row_Row).length D N σE c s D N σ c s → SF [(0, 4), (0, 5), (0, 6), (0, 7), (0, 12)] F Fₚ → SA [] A Aₚ → ∀ y0_5 : Int, Fₚ 0 5 = y0_5 → ∀ y0_7 : Int, Fₚ 0 7 = y0_7 → ∀ y0_12 : Int, Fₚ 0 12 = y0_12 → Fₚ 0 4 = (D 3 : Int) → Fₚ 0 6 = (D 2 : Int) → ((y0_5) = (u1_1) ∧ (y0_7) = (a3) ∧ (y0_12) = (u1_1)) → Q none σ c s) : Ew 222 (d + 0) 0 (rargs 0 [.ref (D 0), .ref (D 1), .ref (D 2), I a3]) [] σE c s Q := by
  have O := OUT_refl (n := (V222_Row_Row).length) (D := D) (N := N) (σ := σE) (c := c) (s := s)
  have HE := H
  have r1 : (-2147483648 : Int) ≤ u0_5 ∧ u0_5 ≤ 2147483647 := by have h1 : (-2147483648 : Int) ≤ F 0 5 ∧ F 0 5 ≤ 2147483647 := H.krg 0 5 (by decide); rw [show F 0 5 = u0_5 from (eu0_5)] at h1; exact h1
  have r2 : (-2147483648 : Int) ≤ u0_7 ∧ u0_7 ≤ 2147483647 := by have h1 : (-2147483648 : Int) ≤ F 0 7 ∧ F 0 7 ≤ 2147483647 := H.krg 0 7 (by decide); rw [show F 0 7 = u0_7 from (eu0_7)] at h1; exact h1
  have r3 : (-2147483648 : Int) ≤ u0_12 ∧ u0_12 ≤ 2147483647 := by have h1 : (-2147483648 : Int) ≤ F 0 12 ∧ F 0 12 ≤ 2147483647 := H.krg 0 12 (by decide); rw [show F 0 12 = u0_12 from (eu0_12)] at h1; exact h1
  have r4 : (-2147483648 : Int) ≤ u1_1 ∧ u1_1 ≤ 2147483647 := by have h1 : (-2147483648 : Int) ≤ F 1 1 ∧ F 1 1 ≤ 2147483647 := H.krg 1 1 (by decide); rw [show F 1 1 = u1_1 from (eu1_1)] at h1; exact h1
  have r5 : (0 : Int) ≤ n3 ∧ n3 ≤ 1000000 := by have h1 := H.nle 3 (by decide); have h2 : (N 3 : Int) = n3 := en3; omega
  refine Ew_of (pcₚ := 1) (fun _ => x_aload_n rfl rfl) ?_
  refine Ew_of (pcₚ := 2) (fun _ => x_aload_n rfl rfl) ?_
  refine v_g H (o := 1) (v := .ref (D 3)) rfl rfl rfl rfl rfl (vrf (pf3)) ?_
  refine v_p H (o := 0) (z := ((D 3 : Nat) : Int)) (v := .ref (D 3)) rfl rfl rfl rfl rfl rfl (vrf rfl) rfl (show (-1 : Int) ≤ ((D 3 : Nat) : Int) by omega) (fun σ H Oₚ => ?_)
  have O := OUT_trans O Oₚ
  refine Ew_of (pcₚ := 9) (fun _ => x_aload_n rfl rfl) ?_
  refine Ew_of (pcₚ := 10) (fun _ => x_aload_n rfl rfl) ?_
  refine v_g H (o := 1) (v := I (u1_1)) rfl rfl rfl rfl rfl (congrArg (fun z : Int => I z) ((eu1_1) : (updF F 0 4 ((D 3 : Nat) : Int)) 1 1 = u1_1)) ?_
  refine v_p H (o := 0) (z := u1_1) (v := I (u1_1)) rfl rfl rfl rfl rfl rfl rfl rfl (show (-2147483648 : Int) ≤ u1_1 ∧ u1_1 ≤ 2147483647 by omega) (fun σ H Oₚ => ?_)
  have O := OUT_trans O Oₚ
  refine Ew_of (pcₚ := 17) (fun _ => x_aload_n rfl rfl) ?_
  refine Ew_of (pcₚ := 18) (fun _ => x_aload_n rfl rfl) ?_
  refine v_p H (o := 0) (z := ((D 2 : Nat) : Int)) (v := .ref (D 2)) rfl rfl rfl rfl rfl rfl (vrf rfl) rfl (show (-1 : Int) ≤ ((D 2 : Nat) : Int) by omega) (fun σ H Oₚ => ?_)
  have O := OUT_trans O Oₚ
  refine Ew_of (pcₚ := 22) (fun _ => x_aload_n rfl rfl) ?_
  refine Ew_of (pcₚ := 23) (fun _ => x_iload_n rfl rfl) ?_
  refine v_p H (o := 0) (z := a3) (v := I (a3)) rfl rfl rfl rfl rfl rfl rfl rfl (show (-2147483648 : Int) ≤ a3 ∧ a3 ≤ 2147483647 by omega) (fun σ H Oₚ => ?_)
  have O := OUT_trans O Oₚ
  refine Ew_of (pcₚ := 27) (fun _ => x_aload_n rfl rfl) ?_
  refine Ew_of (pcₚ := 28) (fun _ => x_aload_n rfl rfl) ?_
  refine v_g H (o := 0) (v := I (u1_1)) rfl rfl rfl rfl rfl (congrArg (fun z : Int => I z) (rfl : (updF (updF (updF (updF F 0 4 ((D 3 : Nat) : Int)) 0 5 (u1_1)) 0 6 ((D 2 : Nat) : Int)) 0 7 (a3)) 0 5 = u1_1)) ?_
  refine v_p H (o := 0) (z := u1_1) (v := I (u1_1)) rfl rfl rfl rfl rfl rfl rfl rfl (show (-2147483648 : Int) ≤ u1_1 ∧ u1_1 ≤ 2147483647 by omega) (fun σ H Oₚ => ?_)
  have O := OUT_trans O Oₚ
  exact w_ret rfl (k _ _ _ H O (SF_upd (SF_upd (SF_upd (SF_upd (SF_upd (SF_refl) rfl) rfl) rfl) rfl) rfl) (SA_refl) (u1_1) (rfl) (a3) (rfl) (u1_1) (rfl) ((show (updF F 0 4 ((D 3 : Nat) : Int)) 0 4 = ((D 3 : Nat) : Int) from rfl)) ((show (updF (updF (updF F 0 4 ((D 3 : Nat) : Int)) 0 5 (u1_1)) 0 6 ((D 2 : Nat) : Int)) 0 6 = ((D 2 : Nat) : Int) from rfl)) (show (u1_1) = (u1_1) ∧ (a3) = a3 ∧ (u1_1) = (u1_1) by omega))
abbrev V223_Row_Row : vV := [(0, 11, [(4, 0), (4, 0), (4, 0), (4, 0), (4, 0), (0, 0), (4, 0), (0, 0), (0, 0), (0, 0), (0, 0), (0, 0), (0, 0)]), (0, 7, [(4, 0), (0, 0), (1, 0), (0, 0), (0, 0)]), (0, 7, [(4, 0), (0, 0), (1, 0), (0, 0), (0, 0)]), (1, 0, []), (1, 0, []), (0, 7, [(4, 0), (0, 0), (1, 0), (0, 0), (0, 0)]), (1, 0, [])]
/-- Tokens.unpackAlone: this, #1, #2, #1.bytes, #2.bytes, this.past, this.past.bytes -/
theorem C223_Row_Row {σE : rS} {D N : Nat → Nat} {F : hF} {A : hA} {d c s : Nat} {Q : wQ} (H : HW V223_Row_Row σE D N F A) {a3 : Int} (pf3 : F 1 0 = (D 3 : Int)) (pf4 : F 2 0 = (D 4 : Int)) (pf5 : F 0 1 = (D 5 : Int)) (pf6 : F 5 0 = (D 6 : Int)) (n3 : Int) (en3 : (N 3 : Int) = n3) (n4 : Int) (en4 : (N 4 : Int) = n4) (n6 : Int) (en6 : (N 6 : Int) = n6) (u1_1 : Int) (eu1_1 : F 1 1 = u1_1) (u2_1 : Int) (eu2_1 : F 2 1 = u2_1) (u5_1 : Int) (eu5_1 : F 5 1 = u5_1) (h0 : inr (a3)) (h1 : 0 ≤ (u1_1) ∧ (u1_1) ≤ (n3) ∧ (n3) ≤ 65536) (h2 : 0 ≤ (u2_1) ∧ (u2_1) ≤ (n4) ∧ (n4) ≤ 65536) (h3 : 0 ≤ (u5_1) ∧ (u5_1) ≤ (n6) ∧ (n6) ≤ 65536) (h4 : 0 ≤ (a3) ∧ (a3) ≤ 65536) (k : ∀ (z : Int) (σ : rS) (Dₚ Nₚ : Nat → Nat) (Fₚ : hF) (Aₚ : hA) (cₚ sₚ : Nat), HW V223_Row_Row σ Dₚ Nₚ Fₚ Aₚ → OUT (V223_Row_Row).length D N σE c s Dₚ Nₚ σ cₚ sₚ → SD [4] D Dₚ → SD [4] N Nₚ → SF [(0, 4), (0, 5), (0, 6), (0, 7), (0, 11), (0, 12), (2, 0), (2, 1), (2, 2)] F Fₚ → SA [4] A Aₚ → Fₚ 2 0 = (Dₚ 4 : Int) → ∀ m4 : Int, (Nₚ 4 : Int) = m4 → ∀ y2_1 : Int, Fₚ 2 1 = y2_1 → (inr (z)) → (0 ≤ (z) ∧ (z) ≤ 3) → (0 ≤ (y2_1) ∧ (y2_1) ≤ (m4) ∧ (m4) ≤ 65536) → Q (some (I z)) σ cₚ sₚ) : Ew 223 (d + 4) 0 (rargs 0 [.ref (D 0), .ref (D 1), .ref (D 2), I a3]) [] σE c s Q := by
  have O := OUT_refl (n := (V223_Row_Row).length) (D := D) (N := N) (σ := σE) (c := c) (s := s)
  have HE := H
  have r1 : (-2147483648 : Int) ≤ u1_1 ∧ u1_1 ≤ 2147483647 := by have h1 : (-2147483648 : Int) ≤ F 1 1 ∧ F 1 1 ≤ 2147483647 := H.krg 1 1 (by decide); rw [show F 1 1 = u1_1 from (eu1_1)] at h1; exact h1
  have r2 : (-2147483648 : Int) ≤ u2_1 ∧ u2_1 ≤ 2147483647 := by have h1 : (-2147483648 : Int) ≤ F 2 1 ∧ F 2 1 ≤ 2147483647 := H.krg 2 1 (by decide); rw [show F 2 1 = u2_1 from (eu2_1)] at h1; exact h1
  have r3 : (-2147483648 : Int) ≤ u5_1 ∧ u5_1 ≤ 2147483647 := by have h1 : (-2147483648 : Int) ≤ F 5 1 ∧ F 5 1 ≤ 2147483647 := H.krg 5 1 (by decide); rw [show F 5 1 = u5_1 from (eu5_1)] at h1; exact h1
  have r4 : (0 : Int) ≤ n3 ∧ n3 ≤ 1000000 := by have h1 := H.nle 3 (by decide); have h2 : (N 3 : Int) = n3 := en3; omega
  have r5 : (0 : Int) ≤ n4 ∧ n4 ≤ 1000000 := by have h1 := H.nle 4 (by decide); have h2 : (N 4 : Int) = n4 := en4; omega
  have r6 : (0 : Int) ≤ n6 ∧ n6 ≤ 1000000 := by have h1 := H.nle 6 (by decide); have h2 : (N 6 : Int) = n6 := en6; omega
  refine Ew_of (pcₚ := 1) (fun _ => x_aload_n rfl rfl) ?_
  refine Ew_of (pcₚ := 2) (fun _ => x_aload_n rfl rfl) ?_
  refine Ew_of (pcₚ := 3) (fun _ => x_aload_n rfl rfl) ?_
  refine Ew_of (pcₚ := 4) (fun _ => x_iload_n rfl rfl) ?_
  have r7 : (-2147483648 : Int) ≤ F 0 5 ∧ F 0 5 ≤ 2147483647 := by have h1 : (-2147483648 : Int) ≤ F 0 5 ∧ F 0 5 ≤ 2147483647 := H.krg 0 5 (by decide); rw [show F 0 5 = F 0 5 from rfl] at h1; exact h1
  have r8 : (-2147483648 : Int) ≤ F 0 7 ∧ F 0 7 ≤ 2147483647 := by have h1 : (-2147483648 : Int) ≤ F 0 7 ∧ F 0 7 ≤ 2147483647 := H.krg 0 7 (by decide); rw [show F 0 7 = F 0 7 from rfl] at h1; exact h1
  have r9 : (-2147483648 : Int) ≤ F 0 12 ∧ F 0 12 ≤ 2147483647 := by have h1 : (-2147483648 : Int) ≤ F 0 12 ∧ F 0 12 ≤ 2147483647 := H.krg 0 12 (by decide); rw [show F 0 12 = F 0 12 from rfl] at h1; exact h1
  refine v_inv H (o := 0) rfl rfl rfl rfl rfl rfl (by rfl) (C222_Row_Row (D := pul [0, 1, 2, 3] D) (N := pul [0, 1, 2, 3] N) (HW_sub H (VS_of (show vsub V223_Row_Row V222_Row_Row [0, 1, 2, 3] = true by decide +kernel))) (pf3) (n3) (en3) (F 0 5) (rfl) (F 0 7) (rfl) (F 0 12) (rfl) (u1_1) ((eu1_1)) (show inr (a3) by omega) (fun σ10 F10ₚ A10ₚ Hₚ Oₚ hS10 hA10 y10_0_5 ey10_0_5 y10_0_7 ey10_0_7 y10_0_12 ey10_0_12 pq10_0 pq10_1 pz10_0 => ⟨rfl, ?_⟩))
  refine v_back (c := c) (s := s) H (show vsub V223_Row_Row V222_Row_Row [0, 1, 2, 3] = true by decide +kernel) Hₚ Oₚ (fun F10 A10 H Oₚ eF10 eA10 => ?_)
  have O := OUT_trans O Oₚ
  -- Tokens.begin
  have pl10_0 : F10 0 4 = (D 3 : Int) := (eF10 0 4).trans (pq10_0)
  have pl10_1 : F10 0 6 = (D 2 : Int) := (eF10 0 6).trans (pq10_1)
  have r11 : (-2147483648 : Int) ≤ y10_0_5 ∧ y10_0_5 ≤ 2147483647 := by have h1 : (-2147483648 : Int) ≤ F10 0 5 ∧ F10 0 5 ≤ 2147483647 := H.krg 0 5 (by decide); rw [show F10 0 5 = y10_0_5 from ((eF10 0 5).trans ey10_0_5)] at h1; exact h1
  have r12 : (-2147483648 : Int) ≤ y10_0_7 ∧ y10_0_7 ≤ 2147483647 := by have h1 : (-2147483648 : Int) ≤ F10 0 7 ∧ F10 0 7 ≤ 2147483647 := H.krg 0 7 (by decide); rw [show F10 0 7 = y10_0_7 from ((eF10 0 7).trans ey10_0_7)] at h1; exact h1
  have r13 : (-2147483648 : Int) ≤ y10_0_12 ∧ y10_0_12 ≤ 2147483647 := by have h1 : (-2147483648 : Int) ≤ F10 0 12 ∧ F10 0 12 ≤ 2147483647 := H.krg 0 12 (by decide); rw [show F10 0 12 = y10_0_12 from ((eF10 0 12).trans ey10_0_12)] at h1; exact h1
  refine Ew_of (pcₚ := 8) (fun _ => x_aload_n rfl rfl) ?_
  refine Ew_of (pcₚ := 9) (fun _ => x_iconst rfl) ?_
  refine Ew_of (pcₚ := 10) (fun _ => x_aload_n rfl rfl) ?_
  refine v_g H (o := 0) (v := I (y10_0_5)) rfl rfl rfl rfl rfl (congrArg (fun z : Int => I z) (((eF10 0 5).trans ey10_0_5) : F10 0 5 = y10_0_5)) ?_
  refine Ew_of (pcₚ := 14) (fun _ => x_iconst rfl) ?_
  refine Ew_of (pcₚ := 15) (fun _ => x_aload_n rfl rfl) ?_
  refine v_g H (o := 0) (v := I (y10_0_7)) rfl rfl rfl rfl rfl (congrArg (fun z : Int => I z) (((eF10 0 7).trans ey10_0_7) : F10 0 7 = y10_0_7)) ?_
  refine v_inv H (o := 0) rfl rfl rfl rfl rfl rfl (by rfl) (C224 (D := pul [0, 3, 2, 4, 5, 6] D) (N := pul [0, 3, 2, 4, 5, 6] N) (HW_sub H (VS_of (show vsub V223_Row_Row V224 [0, 3, 2, 4, 5, 6] = true by decide +kernel))) (pl10_0) (pl10_1) ((((show F10 2 0 = F 2 0 from (eF10 2 0).trans (hS10 2 0 rfl)))).trans (pf4)) ((((show F10 0 1 = F 0 1 from (eF10 0 1).trans (hS10 0 1 rfl)))).trans (pf5)) ((((show F10 5 0 = F 5 0 from (eF10 5 0)))).trans (pf6)) (n3) (en3) (n4) (en4) (n6) (en6) (u2_1) ((((show F10 2 1 = F 2 1 from (eF10 2 1).trans (hS10 2 1 rfl))).trans (eu2_1))) (u5_1) ((((show F10 5 1 = F 5 1 from (eF10 5 1))).trans (eu5_1))) (show inr (0) by omega) (show inr (y10_0_5) by omega) (show inr (0) by omega) (show inr (y10_0_7) by omega) (show 0 ≤ (0) ∧ (0) ≤ (y10_0_5) ∧ (y10_0_5) ≤ (n3) ∧ (n3) ≤ 65536 by omega) (show 0 ≤ (u2_1) ∧ (u2_1) ≤ (n4) ∧ (n4) ≤ 65536 by omega) (show 0 ≤ (u5_1) ∧ (u5_1) ≤ (n6) ∧ (n6) ≤ 65536 by omega) (show 0 ≤ (0) ∧ (0) ≤ (u2_1) by omega) (show 0 ≤ (y10_0_7) ∧ (y10_0_7) ≤ 65536 by omega) (fun z14 σ14 D14ₚ N14ₚ F14ₚ A14ₚ c14 s14 Hₚ Oₚ hD14 hN14 hS14 hA14 pm14_3 m14_3 em14_3 y14_2_1 ey14_2_1 pz14_0 pz14_1 pz14_2 pz14_3 pz14_4 => ⟨rfl, ?_⟩))
  refine v_backM (c := c) (s := s) H (show vsub V223_Row_Row V224 [0, 3, 2, 4, 5, 6] = true by decide +kernel) Hₚ Oₚ hD14 (show vmov V223_Row_Row [0, 3, 2, 4, 5, 6] [3] = true by decide +kernel) (fun D14 N14 F14 A14 H Oₚ eD14 eN14 eF14 eA14 => ?_)
  have O := OUT_trans O Oₚ
  -- Tokens.unpackBlock
  have pf14_0_1 : F14 0 1 = (D14 5 : Int) := ((show F14 0 1 = F10 0 1 from (eF14 0 1).trans (hS14 0 1 rfl))).trans (((((show F10 0 1 = F 0 1 from (eF10 0 1).trans (hS10 0 1 rfl)))).trans (pf5)).trans (congrArg (fun q : Nat => (q : Int)) ((show D14 5 = D 5 from (eD14 5).trans (hD14 4 rfl))).symm))
  have pf14_0_4 : F14 0 4 = (D14 3 : Int) := ((show F14 0 4 = F10 0 4 from (eF14 0 4).trans (hS14 0 4 rfl))).trans ((pl10_0).trans (congrArg (fun q : Nat => (q : Int)) ((show D14 3 = D 3 from (eD14 3).trans (hD14 1 rfl))).symm))
  have pf14_0_6 : F14 0 6 = (D14 2 : Int) := ((show F14 0 6 = F10 0 6 from (eF14 0 6).trans (hS14 0 6 rfl))).trans ((pl10_1).trans (congrArg (fun q : Nat => (q : Int)) ((show D14 2 = D 2 from (eD14 2).trans (hD14 2 rfl))).symm))
  have pf14_1_0 : F14 1 0 = (D14 3 : Int) := ((show F14 1 0 = F10 1 0 from (eF14 1 0))).trans (((((show F10 1 0 = F 1 0 from (eF10 1 0).trans (hS10 1 0 rfl)))).trans (pf3)).trans (congrArg (fun q : Nat => (q : Int)) ((show D14 3 = D 3 from (eD14 3).trans (hD14 1 rfl))).symm))
  have pf14_2_0 : F14 2 0 = (D14 4 : Int) := (eF14 2 0).trans (pm14_3.trans (congrArg (fun q : Nat => (q : Int)) (eD14 4).symm))
  have pf14_5_0 : F14 5 0 = (D14 6 : Int) := ((show F14 5 0 = F10 5 0 from (eF14 5 0).trans (hS14 4 0 rfl))).trans (((((show F10 5 0 = F 5 0 from (eF10 5 0)))).trans (pf6)).trans (congrArg (fun q : Nat => (q : Int)) ((show D14 6 = D 6 from (eD14 6).trans (hD14 5 rfl))).symm))
  have r15 : (0 : Int) ≤ m14_3 ∧ m14_3 ≤ 1000000 := by have h1 := H.nle 4 (by decide); have h2 : (N14 4 : Int) = m14_3 := (congrArg (fun q : Nat => (q : Int)) (eN14 4)).trans em14_3; omega
  have r16 : (-2147483648 : Int) ≤ y14_2_1 ∧ y14_2_1 ≤ 2147483647 := by have h1 : (-2147483648 : Int) ≤ F14 2 1 ∧ F14 2 1 ≤ 2147483647 := H.krg 2 1 (by decide); rw [show F14 2 1 = y14_2_1 from ((eF14 2 1).trans ey14_2_1)] at h1; exact h1
  exact w_ireturn rfl (k (z14) _ _ _ _ _ _ _ H O (SD_trans (SD_refl) (SD_glu (ι := [0, 3, 2, 4, 5, 6]) hD14 eD14 (by decide +kernel)) (any_subA (lₚ := [4]) rfl)) (SD_trans (SD_refl) (SD_glu (ι := [0, 3, 2, 4, 5, 6]) hN14 eN14 (by decide +kernel)) (any_subA (lₚ := [4]) rfl)) (SF_trans (SF_trans (SF_refl) (SF_glu (ι := [0, 1, 2, 3]) hS10 eF10 (by decide +kernel)) (any_sub (lₚ := [(0, 4), (0, 5), (0, 6), (0, 7), (0, 12)]) rfl)) (SF_glu (ι := [0, 3, 2, 4, 5, 6]) hS14 eF14 (by decide +kernel)) (any_sub (lₚ := [(0, 11), (0, 12), (2, 0), (2, 1), (2, 2)]) rfl)) (SA_trans (SA_trans (SA_refl) (SA_glu (ι := [0, 1, 2, 3]) hA10 eA10 (by decide +kernel)) (any_subA (lₚ := []) rfl)) (SA_glu (ι := [0, 3, 2, 4, 5, 6]) hA14 eA14 (by decide +kernel)) (any_subA (lₚ := [4]) rfl)) (pf14_2_0) (m14_3) ((congrArg (fun q : Nat => (q : Int)) (eN14 4)).trans em14_3) (y14_2_1) (((eF14 2 1).trans ey14_2_1)) (show inr (z14) by omega) (show 0 ≤ (z14) ∧ (z14) ≤ 3 by omega) (show 0 ≤ (y14_2_1) ∧ (y14_2_1) ≤ (m14_3) ∧ (m14_3) ≤ 65536 by omega))
