abbrev V122 : vV := [(0, 5, [(4, 0), (4, 0), (4, 0), (4, 0), (0, 0), (0, 0), (0, 0), (4, 0), (4, 0), (0, 0), (0, 0), (0, 0), (0, 0), (0, 0), (0, 0), (0, 0), (0, 0), (0, 0), (0, 0)]), (0, 7, [(4, 0), (0, 0), (1, 0), (0, 0), (0, 0)]), (1, 0, [])]
theorem len_V122_oz_C0cls : (V122).length = 3 := by decide +kernel
def oz_C0clsl_0 : List (Nat × Nat) := []
theorem oz_C0cls_1 : (oz_C0clsl_0).all (fun p => !tbz 0 (Nat.add (Nat.mul 32 p.1) p.2)) = true := by decide +kernel
def oz_C0clsl_1 : List Nat := []
theorem oz_C0cls_2 : (oz_C0clsl_1).all (fun p => !tbz 0 p) = true := by decide +kernel
/-- Finder.hashAt: this, this.data, this.data.bytes -/
theorem C122 {σE : rS} {D N : Nat → Nat} {F : hF} {A : hA} {d c s : Nat} {Q : wQ} (H : HW V122 σE D N F A) {a1 : Int} (pf1 : F 0 0 = (D 1 : Int)) (pf2 : F 1 0 = (D 2 : Int)) (n2 : Int) (en2 : (N 2 : Int) = n2) (u0_10 : Int) (eu0_10 : F 0 10 = u0_10) (u1_1 : Int) (eu1_1 : F 1 1 = u1_1) (w2 : Int → Int) (ew2 : A 2 = w2) (h0 : inr (a1)) (h1 : 0 ≤ (u1_1) ∧ (u1_1) ≤ (n2) ∧ (n2) ≤ 65536 ∧ (u1_1) ≤ 16384) (h2 : 1 ≤ (u0_10) ∧ (u0_10) ≤ 8) (h3 : 0 ≤ (a1) ∧ (a1) + (u0_10) ≤ (u1_1)) (k : ∀ (z : Int) (σ : rS) (Fₚ : hF) (Aₚ : hA), HW V122 σ D N Fₚ Aₚ → OUT (V122).length D N σE c s D N σ c s → SF [] F Fₚ → SA [] A Aₚ → (inr (z)) → (0 ≤ (z) ∧ (z) ≤ 2047) → ((z) = hsh ((w2)) ((u0_10)) ((a1))) → Q (some (I z)) σ c s) : Ew 122 (d + 0) 0 (rargs 0 [.ref (D 0), I a1]) [] σE c s Q := by
  have O := OUT_refl (n := (V122).length) (D := D) (N := N) (σ := σE) (c := c) (s := s)
  have HE := H
  have r1 : (-2147483648 : Int) ≤ u0_10 ∧ u0_10 ≤ 2147483647 := rngE (show (-2147483648 : Int) ≤ F 0 10 ∧ F 0 10 ≤ 2147483647 from H.krg 0 10 (ltn len_V122_oz_C0cls rfl)) (show F 0 10 = u0_10 from (eu0_10))
  have r2 : (-2147483648 : Int) ≤ u1_1 ∧ u1_1 ≤ 2147483647 := rngE (show (-2147483648 : Int) ≤ F 1 1 ∧ F 1 1 ≤ 2147483647 from H.krg 1 1 (ltn len_V122_oz_C0cls rfl)) (show F 1 1 = u1_1 from (eu1_1))
  have r3 : (0 : Int) ≤ n2 ∧ n2 ≤ 1000000 := nleE (H.nle 2 (ltn len_V122_oz_C0cls rfl)) (show (N 2 : Int) = n2 from en2)
  refine Ew_of (pcₚ := 1) (fun _ => x_iconst rfl) ?_
  refine Ew_of (pcₚ := 2) (fun _ => x_istore_n rfl) ?_
  refine Ew_of (pcₚ := 3) (fun _ => x_iconst rfl) ?_
  refine Ew_of (pcₚ := 4) (fun _ => x_istore_n rfl) ?_
  have : (0 : Int) = hsf ((w2)) ((a1)) (0 : Int).toNat := rfl
  suffices hl4 : ∀ (m : Nat), ∀ (ls : rO) (σ : rS) (F_4 : hF) (A_4 : hA) (x4_2 : Int) (x4_3 : Int), rlook ls 0 = some (.ref (D 0)) → rlook ls 1 = some (I (a1)) → rlook ls 2 = some (I (x4_2)) → rlook ls 3 = some (I (x4_3)) → HW V122 σ D N F_4 A_4 → OUT (V122).length D N σE c s D N σ c s → SF [] F F_4 → SA [] A A_4 → (inr (x4_2)) → (inr (x4_3)) → ((0) ≤ (x4_3)) → ((x4_3) ≤ (0) ∨ (x4_3) ≤ ((u0_10))) → ((x4_2) = hsf ((w2)) ((a1)) ((x4_3) : Int).toNat) → (((u0_10)) - (x4_3)).toNat = m → Ew 122 (d + 0) 4 ls [] σ c s Q from
    hl4 _ _ _ _ _ (0) (0) (rk_o (rk_o (rfl) rfl rfl) rfl rfl) (rk_o (rk_o (rfl) rfl rfl) rfl rfl) (rk_o (rk_s) rfl rfl) (rk_s) H O (SF_refl) (SA_refl)     (show inr (0) from q_20) (show inr (0) from q_20) (show (0) ≤ (0) from q_25) (show (0) ≤ (0) ∨ (0) ≤ ((u0_10)) from q_24) (show (0) = hsf ((w2)) ((a1)) ((0) : Int).toNat by assumption) rfl
  as_aux_lemma =>
  intro m
  induction m using Nat.strongRecOn with
  | _ m ih4 =>
    intro ls σ F_4 A_4 x4_2 x4_3 l4_0 l4_1 l4_2 l4_3 H O hS_4 hA_4     j4_0 j4_1 j4_2 j4_3 j4_4 hm4
    have cF_4 : SF oz_C0clsl_0 F F_4 := SF_trans (SF_refl) hS_4 (any_sub (by decide +kernel))
    have mF_4 := SFm_of cF_4 oz_C0cls_1
    have cA_4 : SA oz_C0clsl_1 A A_4 := SA_trans (SA_refl) hA_4 (any_subA (by decide +kernel))
    have mA_4 := SAm_of cA_4 oz_C0cls_2
    have j4_h : (x4_2) = hsf ((w2)) ((a1)) ((x4_3) : Int).toNat := by assumption
    refine Ew_of (pcₚ := 5) (fun _ => x_iload_n rfl l4_3) ?_
    refine Ew_of (pcₚ := 6) (fun _ => x_aload_n rfl l4_0) ?_
    refine v_g H (o := 0) (v := I (u0_10)) rfl rfl rfl rfl rfl (congrArg (fun z : Int => I z) (((mF_4 0 10 rfl).trans (eu0_10)) : F_4 0 10 = u0_10)) ?_
    refine w_icmpge (t := 36) rfl rfl (show inr (x4_3) from j4_1) (show inr (u0_10) from q_2629 h2) (fun b4 => ?_) (fun b4 => ?_)
    · refine Ew_of (pcₚ := 37) (fun _ => x_iload_n rfl l4_2) ?_
      refine Ew_of (pcₚ := 39) (fun _ => x_ldc (z := -1640531535) rfl (by decide)) ?_
      refine v_imulW rfl (fun g5 => ?_)
      refine Ew_of (pcₚ := 42) (fun _ => x_bipush (z := 21) rfl (by decide)) ?_
      refine v_iushrW (k := 21) rfl (by omega) (fun g6 => ?_)
      have : p2 (32 - 21) = 2048 := by decide
      have hl3 : (x4_3) = (u0_10) := q_2630 b4 h2 j4_3
      have : (us (wr (x4_2 * (-1640531535))) 21) = hsh ((w2)) ((u0_10)) ((a1)) := by rw [← hl3]; unfold hsh; rw [← j4_h]
      exact w_ireturn rfl (k (us (wr (x4_2 * (-1640531535))) 21) _ _ _ H O (cF_4) (cA_4) (show inr (us (wr (x4_2 * (-1640531535))) 21) by omega) (show 0 ≤ (us (wr (x4_2 * (-1640531535))) 21) ∧ (us (wr (x4_2 * (-1640531535))) 21) ≤ 2047 by omega) (show (us (wr (x4_2 * (-1640531535))) 21) = hsh ((w2)) ((u0_10)) (a1) by assumption))
    · refine Ew_of (pcₚ := 13) (fun _ => x_iload_n rfl l4_2) ?_
      refine Ew_of (pcₚ := 16) (fun _ => x_sipush (z := 257) rfl (by decide)) ?_
      refine v_imulW rfl (fun g7 => ?_)
      refine Ew_of (pcₚ := 18) (fun _ => x_aload_n rfl l4_0) ?_
      refine v_g H (o := 0) (v := .ref (D 1)) rfl rfl rfl rfl rfl (vrf ((mF_4 0 0 rfl).trans (pf1))) ?_
      refine v_g H (o := 1) (v := .ref (D 2)) rfl rfl rfl rfl rfl (vrf ((mF_4 1 0 rfl).trans (pf2))) ?_
      refine Ew_of (pcₚ := 25) (fun _ => x_iload_n rfl l4_1) ?_
      refine Ew_of (pcₚ := 26) (fun _ => x_iload_n rfl l4_3) ?_
      refine w_iadd rfl ?_
      refine v_lB H (o := 2) rfl rfl rfl rfl (n := n2) (en2) (show 0 ≤ (a1 + x4_3) ∧ (a1 + x4_3) < n2 from q_2631 b4 h1 h3 j4_2) (fun v8 ev8 qv8 => ?_)
      have ev8 : (w2) ((a1 + x4_3)) = v8 := (congrFun ((funext (mA_4 2 rfl)).trans (ew2)) ((a1 + x4_3))).symm.trans ev8
      have hbl := ev8
      refine v_iaddW rfl (fun g9 => ?_)
      have : (wr (wr (x4_2 * 257) + v8)) = hsf ((w2)) ((a1)) ((x4_3) + 1 : Int).toNat := by rw [hsf_s (k := (x4_3)) (by omega) rfl, ← j4_h, hbl]
      refine Ew_of (pcₚ := 30) (fun _ => x_istore_n rfl) ?_
      refine Ew_of (pcₚ := 33) (fun _ => x_iinc (len := 3) rfl (rk_o (l4_3) rfl rfl)) ?_
      refine Ew_of (pcₚ := 4) (fun _ => x_goto rfl rfl) ?_
      exact ih4 _ (msE hm4 q_31 (q_34 b4)) _ _ _ _ (wr (wr (x4_2 * 257) + v8)) ((x4_3 + 1)) (rk_o (rk_o (l4_0) rfl rfl) rfl rfl) (rk_o (rk_o (l4_1) rfl rfl) rfl rfl) (rk_o (rk_s) rfl rfl) (rk_s) H O (hS_4) (hA_4)     (show inr (wr (wr (x4_2 * 257) + v8)) by omega) (show inr ((x4_3 + 1)) from q_2632 b4 h2 j4_2) (show (0) ≤ ((x4_3 + 1)) from q_29 j4_2) (show ((x4_3 + 1)) ≤ (0) ∨ ((x4_3 + 1)) ≤ ((u0_10)) from q_33 b4) (show (wr (wr (x4_2 * 257) + v8)) = hsf ((w2)) ((a1)) (((x4_3 + 1)) : Int).toNat by assumption) rfl
abbrev V121 : vV := [(0, 5, [(4, 0), (4, 0), (4, 0), (4, 0), (0, 0), (0, 0), (0, 0), (4, 0), (4, 0), (0, 0), (0, 0), (0, 0), (0, 0), (0, 0), (0, 0), (0, 0), (0, 0), (0, 0), (0, 0)]), (1, 1, [])]
theorem len_V121_oz_C0cls : (V121).length = 2 := by decide +kernel
def oz_C0clsl_2 : List (Nat × Nat) := [(0, 6), (0, 7), (0, 9), (0, 10), (0, 11)]
theorem oz_C0cls_4 : (oz_C0clsl_2).all (fun p => !tbz 3776 (Nat.add (Nat.mul 32 p.1) p.2)) = true := by decide +kernel
def oz_C0clsl_3 : List Nat := [1]
theorem oz_C0cls_5 : (oz_C0clsl_3).all (fun p => !tbz 2 p) = true := by decide +kernel
/-- Finder.begin: this, this.heads -/
theorem C121 {σE : rS} {D N : Nat → Nat} {F : hF} {A : hA} {d c s : Nat} {Q : wQ} (H : HW V121 σE D N F A) {a1 a2 a3 : Int} (pf1 : F 0 7 = (D 1 : Int)) (n1 : Int) (en1 : (N 1 : Int) = n1) (u0_6 : Int) (eu0_6 : F 0 6 = u0_6) (u0_9 : Int) (eu0_9 : F 0 9 = u0_9) (u0_10 : Int) (eu0_10 : F 0 10 = u0_10) (u0_11 : Int) (eu0_11 : F 0 11 = u0_11) (w1 : Int → Int) (ew1 : A 1 = w1) (h0 : inr (a1)) (h1 : inr (a2)) (h2 : inr (a3)) (h3 : (n1) = 0 ∨ (n1) = 2048) (k : ∀ (σ : rS) (Dₚ Nₚ : Nat → Nat) (Fₚ : hF) (Aₚ : hA) (cₚ sₚ : Nat), HW V121 σ Dₚ Nₚ Fₚ Aₚ → OUT (V121).length D N σE c s Dₚ Nₚ σ cₚ sₚ → SD [1] D Dₚ → SD [1] N Nₚ → SF [(0, 6), (0, 7), (0, 9), (0, 10), (0, 11)] F Fₚ → SA [1] A Aₚ → Fₚ 0 7 = (Dₚ 1 : Int) → ∀ m1 : Int, (Nₚ 1 : Int) = m1 → ∀ y0_6 : Int, Fₚ 0 6 = y0_6 → ∀ y0_9 : Int, Fₚ 0 9 = y0_9 → ∀ y0_10 : Int, Fₚ 0 10 = y0_10 → ∀ y0_11 : Int, Fₚ 0 11 = y0_11 → ∀ v1 : Int → Int, Aₚ 1 = v1 → ((m1) = 2048) → ((y0_6) = 0) → ((y0_9) = (a1) ∧ (y0_10) = (a2) ∧ (y0_11) = (a3)) → (∀ i, ((v1)) i = -1) → Q none σ cₚ sₚ) : Ew 121 (d + 1) 0 (rargs 0 [.ref (D 0), I a1, I a2, I a3]) [] σE c s Q := by
  have O := OUT_refl (n := (V121).length) (D := D) (N := N) (σ := σE) (c := c) (s := s)
  have HE := H
  have r1 : (-2147483648 : Int) ≤ u0_6 ∧ u0_6 ≤ 2147483647 := rngE (show (-2147483648 : Int) ≤ F 0 6 ∧ F 0 6 ≤ 2147483647 from H.krg 0 6 (ltn len_V121_oz_C0cls rfl)) (show F 0 6 = u0_6 from (eu0_6))
  have r2 : (-2147483648 : Int) ≤ u0_9 ∧ u0_9 ≤ 2147483647 := rngE (show (-2147483648 : Int) ≤ F 0 9 ∧ F 0 9 ≤ 2147483647 from H.krg 0 9 (ltn len_V121_oz_C0cls rfl)) (show F 0 9 = u0_9 from (eu0_9))
  have r3 : (-2147483648 : Int) ≤ u0_10 ∧ u0_10 ≤ 2147483647 := rngE (show (-2147483648 : Int) ≤ F 0 10 ∧ F 0 10 ≤ 2147483647 from H.krg 0 10 (ltn len_V121_oz_C0cls rfl)) (show F 0 10 = u0_10 from (eu0_10))
  have r4 : (-2147483648 : Int) ≤ u0_11 ∧ u0_11 ≤ 2147483647 := rngE (show (-2147483648 : Int) ≤ F 0 11 ∧ F 0 11 ≤ 2147483647 from H.krg 0 11 (ltn len_V121_oz_C0cls rfl)) (show F 0 11 = u0_11 from (eu0_11))
  have r5 : (0 : Int) ≤ n1 ∧ n1 ≤ 1000000 := nleE (H.nle 1 (ltn len_V121_oz_C0cls rfl)) (show (N 1 : Int) = n1 from en1)
  refine Ew_of (pcₚ := 1) (fun _ => x_aload_n rfl rfl) ?_
  refine Ew_of (pcₚ := 2) (fun _ => x_iload_n rfl rfl) ?_
  refine v_p H (o := 0) (z := a1) (v := I (a1)) rfl rfl rfl rfl rfl rfl rfl rfl (show (-2147483648 : Int) ≤ a1 ∧ a1 ≤ 2147483647 from q_61 h0) (fun σ H Oₚ => ?_)
  have O := OUT_trans O Oₚ
  have cFu6 : SF oz_C0clsl_2 F (updF F 0 9 (a1)) := SF_upd (SF_refl) rfl
  have mFu6 := SFm_of cFu6 oz_C0cls_4
  refine Ew_of (pcₚ := 6) (fun _ => x_aload_n rfl rfl) ?_
  refine Ew_of (pcₚ := 7) (fun _ => x_iload_n rfl rfl) ?_
  refine v_p H (o := 0) (z := a2) (v := I (a2)) rfl rfl rfl rfl rfl rfl rfl rfl (show (-2147483648 : Int) ≤ a2 ∧ a2 ≤ 2147483647 from q_61 h1) (fun σ H Oₚ => ?_)
  have O := OUT_trans O Oₚ
  have cFu7 : SF oz_C0clsl_2 F (updF (updF F 0 9 (a1)) 0 10 (a2)) := SF_upd (cFu6) rfl
  have mFu7 := SFm_of cFu7 oz_C0cls_4
  refine Ew_of (pcₚ := 11) (fun _ => x_aload_n rfl rfl) ?_
  refine Ew_of (pcₚ := 12) (fun _ => x_iload_n rfl rfl) ?_
  refine v_p H (o := 0) (z := a3) (v := I (a3)) rfl rfl rfl rfl rfl rfl rfl rfl (show (-2147483648 : Int) ≤ a3 ∧ a3 ≤ 2147483647 from q_61 h2) (fun σ H Oₚ => ?_)
  have O := OUT_trans O Oₚ
  have cFu8 : SF oz_C0clsl_2 F (updF (updF (updF F 0 9 (a1)) 0 10 (a2)) 0 11 (a3)) := SF_upd (cFu7) rfl
  have mFu8 := SFm_of cFu8 oz_C0cls_4
  refine Ew_of (pcₚ := 16) (fun _ => x_aload_n rfl rfl) ?_
  refine Ew_of (pcₚ := 17) (fun _ => x_iconst rfl) ?_
  refine v_p H (o := 0) (z := 0) (v := I (0)) rfl rfl rfl rfl rfl rfl rfl rfl (show (-2147483648 : Int) ≤ 0 ∧ 0 ≤ 2147483647 from q_240) (fun σ H Oₚ => ?_)
  have O := OUT_trans O Oₚ
  have cFu9 : SF oz_C0clsl_2 F (updF (updF (updF (updF F 0 9 (a1)) 0 10 (a2)) 0 11 (a3)) 0 6 (0)) := SF_upd (cFu8) rfl
  have mFu9 := SFm_of cFu9 oz_C0cls_4
  have hc37 : ∀ (ls : rO) (σ : rS) (D_c37 N_c37 : Nat → Nat) (c_c37 s_c37 : Nat) (F_c37 : hF) (A_c37 : hA) , rlook ls 0 = some (.ref (D_c37 0)) → HW V121 σ D_c37 N_c37 F_c37 A_c37 → OUT (V121).length D N σE c s D_c37 N_c37 σ c_c37 s_c37 → SD [1] D D_c37 → SD [1] N N_c37 → SF [(0, 7)] (updF (updF (updF (updF F 0 9 (a1)) 0 10 (a2)) 0 11 (a3)) 0 6 (0)) F_c37 → SA [1] A A_c37 → F_c37 0 7 = (D_c37 1 : Int) → ∀ mc37_1 : Int, (N_c37 1 : Int) = mc37_1 → ((mc37_1) = 2048) → Ew 121 (d + 1) 37 ls [] σ c_c37 s_c37 Q := by
   as_aux_lemma =>
    intro  ls σ D_c37 N_c37 c_c37 s_c37 F_c37 A_c37  lc37_0 H O hD_c37 hN_c37 hS_c37 hA_c37 pmc37_1 mc37_1 emc37_1   jc37_0
    have cF_c37 : SF oz_C0clsl_2 F F_c37 := SF_trans (cFu9) hS_c37 (any_sub (by decide +kernel))
    have mF_c37 := SFm_of cF_c37 oz_C0cls_4
    have cA_c37 : SA oz_C0clsl_3 A A_c37 := SA_trans (SA_refl) hA_c37 (any_subA (by decide +kernel))
    have mA_c37 := SAm_of cA_c37 oz_C0cls_5
    have cD_c37 : SD oz_C0clsl_3 D D_c37 := SD_trans (SD_refl) hD_c37 (any_subA (by decide +kernel))
    have mD_c37 := SDm_of cD_c37 oz_C0cls_5
    have cN_c37 : SD oz_C0clsl_3 N N_c37 := SD_trans (SD_refl) hN_c37 (any_subA (by decide +kernel))
    have mN_c37 := SDm_of cN_c37 oz_C0cls_5
    have r10 : (0 : Int) ≤ mc37_1 ∧ mc37_1 ≤ 1000000 := nleE (H.nle 1 (ltn len_V121_oz_C0cls rfl)) (show (N_c37 1 : Int) = mc37_1 from emc37_1)
    refine Ew_of (pcₚ := 38) (fun _ => x_aload_n rfl lc37_0) ?_
    refine v_g H (o := 0) (v := .ref (D_c37 1)) rfl rfl rfl rfl rfl (vrf (pmc37_1)) ?_
    refine Ew_of (pcₚ := 42) (fun _ => x_iconst rfl) ?_
    refine v_fil H (t := 1) (v := (-1)) rfl rfl rfl rfl rfl (show inr ((-1)) from q_16) (fun σ A11 H Oₚ hA11 ga11 => ?_)
    have O := OUT_trans O Oₚ
    have cA11 : SA oz_C0clsl_3 A A11 := SA_trans (cA_c37) hA11 (any_subA (by decide +kernel))
    have mA11 := SAm_of cA11 oz_C0cls_5
    have : ∀ i, ((A11 1)) i = -1 := ga11
    exact w_ret rfl (k _ _ _ _ _ _ _ H O (cD_c37) (cN_c37) (cF_c37) (cA11) (pmc37_1) (mc37_1) (emc37_1) (0) ((hS_c37 0 6 rfl)) (a1) ((hS_c37 0 9 rfl)) (a2) ((hS_c37 0 10 rfl)) (a3) ((hS_c37 0 11 rfl)) (A11 1) (rfl) (show (mc37_1) = 2048 from jc37_0) (show (0) = 0 by first | exact q_64 | omega) (show (a1) = a1 ∧ (a2) = a2 ∧ (a3) = a3 from q_2633) (show ∀ i, ((A11 1)) i = -1 by assumption))
  refine Ew_of (pcₚ := 21) (fun _ => x_aload_n rfl rfl) ?_
  refine v_g H (o := 0) (v := .ref (D 1)) rfl rfl rfl rfl rfl (vrf (pf1)) ?_
  refine v_len H (o := 1) rfl rfl rfl rfl (n := n1) (en1) ?_
  refine w_ifne (t := 37) rfl rfl (show inr (n1) from q_2511 r5) (fun b12 => ?_) (fun b12 => ?_)
  · exact hc37  _ _ _ _ _ _ _ _  (rfl) H O (SD_refl) (SD_refl) (SF_refl) (SA_refl) (pf1) (n1) (en1)   (show (n1) = 2048 by omega)
  · refine Ew_of (pcₚ := 29) (fun _ => x_aload_n rfl rfl) ?_
    refine Ew_of (pcₚ := 32) (fun _ => x_sipush (z := 2048) rfl (by decide)) ?_
    have hg := grow_ok (m := (n1)) (n := 2048) (by omega) (by omega) (by omega)
    have hgC := hg.1
    have hgS := hg.2
    refine v_newI H (p := 0) (k := 7) (t := 1) (n := 2048) rfl rfl rfl (fun _ => rfl) rfl rfl rfl rfl (fun z => vrf (z := (z : Int)) rfl) rfl rfl rfl rfl (by decide +kernel) rfl (m := n1) (en1) (show 0 ≤ 2048 ∧ 2048 ≤ 1000000 from q_2634) (show pC (n1 : Int).toNat + 1 ≤ pC (2048 : Int).toNat by assumption) (show pS (n1 : Int).toNat + 2048 ≤ pS (2048 : Int).toNat by assumption) (fun σ D13 N13 F13 A13 H Oₚ hD13 hN13 em13 hS13 pm13 hA13 ga13 => ?_)
    have O := OUT_trans O Oₚ
    have cF13 : SF oz_C0clsl_2 F F13 := SF_trans (cFu9) hS13 (any_sub (by decide +kernel))
    have mF13 := SFm_of cF13 oz_C0cls_4
    have cA13 : SA oz_C0clsl_3 A A13 := SA_trans (SA_refl) hA13 (any_subA (by decide +kernel))
    have mA13 := SAm_of cA13 oz_C0cls_5
    have cD13 : SD oz_C0clsl_3 D D13 := SD_trans (SD_refl) hD13 (any_subA (by decide +kernel))
    have mD13 := SDm_of cD13 oz_C0cls_5
    have cN13 : SD oz_C0clsl_3 N N13 := SD_trans (SD_refl) hN13 (any_subA (by decide +kernel))
    have mN13 := SDm_of cN13 oz_C0cls_5
    have pf13_0_7 : F13 0 7 = (D13 1 : Int) := pm13
    have r14 : (0 : Int) ≤ 2048 ∧ 2048 ≤ 1000000 := by omega
    exact hc37  _ _ _ _ _ _ _ _  ((rfl).trans (congrArg (fun q : Nat => some (Value.ref q)) (mD13 0 rfl).symm)) H O (SD_trans (SD_refl) hD13 (any_subA (by decide +kernel))) (SD_trans (SD_refl) hN13 (any_subA (by decide +kernel))) (SF_trans (SF_refl) hS13 (any_sub (by decide +kernel))) (SA_trans (SA_refl) hA13 (any_subA (by decide +kernel))) (pf13_0_7) (2048) (em13)   (show (2048) = 2048 from q_2635)
abbrev V123 : vV := [(0, 5, [(4, 0), (4, 0), (4, 0), (4, 0), (0, 0), (0, 0), (0, 0), (4, 0), (4, 0), (0, 0), (0, 0), (0, 0), (0, 0), (0, 0), (0, 0), (0, 0), (0, 0), (0, 0), (0, 0)]), (0, 7, [(4, 0), (0, 0), (1, 0), (0, 0), (0, 0)]), (1, 0, []), (1, 1, []), (1, 1, [])]
theorem len_V123_oz_C0cls : (V123).length = 5 := by decide +kernel
theorem oz_C0cls_7 : vsub V123 V122 [0, 1, 2] = true := by decide +kernel
def oz_C0clsl_4 : List (Nat × Nat) := [(0, 6), (0, 8)]
theorem oz_C0cls_8 : (oz_C0clsl_4).all (fun p => !tbz 320 (Nat.add (Nat.mul 32 p.1) p.2)) = true := by decide +kernel
def oz_C0clsl_5 : List Nat := [3, 4]
theorem oz_C0cls_9 : (oz_C0clsl_5).all (fun p => !tbz 24 p) = true := by decide +kernel
def oz_C0clsl_6 : List Nat := [3]
theorem oz_C0cls_10 : (oz_C0clsl_6).all (fun p => !tbz 8 p) = true := by decide +kernel
def oz_C0clsl_7 : List Nat := [0, 1, 2]
theorem oz_C0cls_11 : okc oz_C0clsl_7 524800 = true := by decide +kernel
/-- Finder.lay: this, this.data, this.data.bytes, this.back, this.heads -/
theorem C123 {σE : rS} {D N : Nat → Nat} {F : hF} {A : hA} {d c s : Nat} {Q : wQ} (H : HW V123 σE D N F A) {a1 : Int} (pf1 : F 0 0 = (D 1 : Int)) (pf2 : F 1 0 = (D 2 : Int)) (pf3 : F 0 8 = (D 3 : Int)) (pf4 : F 0 7 = (D 4 : Int)) (n2 : Int) (en2 : (N 2 : Int) = n2) (n3 : Int) (en3 : (N 3 : Int) = n3) (n4 : Int) (en4 : (N 4 : Int) = n4) (u0_6 : Int) (eu0_6 : F 0 6 = u0_6) (u0_10 : Int) (eu0_10 : F 0 10 = u0_10) (u1_1 : Int) (eu1_1 : F 1 1 = u1_1) (w2 : Int → Int) (ew2 : A 2 = w2) (w3 : Int → Int) (ew3 : A 3 = w3) (w4 : Int → Int) (ew4 : A 4 = w4) (h0 : inr (a1)) (h1 : 0 ≤ (u1_1) ∧ (u1_1) ≤ (n2) ∧ (n2) ≤ 65536 ∧ (u1_1) ≤ 16384) (h2 : 1 ≤ (u0_10) ∧ (u0_10) ≤ 8) (h3 : 0 ≤ (a1) ∧ (a1) ≤ (u1_1)) (h4 : BKI ((w2)) ((w3)) ((u0_10)) ((u0_6))) (h5 : HDI ((w2)) ((w4)) ((u0_10)) ((u0_6))) (h6 : (n4) = 2048) (h7 : 0 ≤ (u0_6) ∧ (u0_6) ≤ (n3) ∧ (n3) ≤ 16384) (k : ∀ (σ : rS) (Dₚ Nₚ : Nat → Nat) (Fₚ : hF) (Aₚ : hA) (cₚ sₚ : Nat), HW V123 σ Dₚ Nₚ Fₚ Aₚ → OUT (V123).length D N σE c s Dₚ Nₚ σ cₚ sₚ → SD [3] D Dₚ → SD [3] N Nₚ → SF [(0, 6), (0, 8)] F Fₚ → SA [3, 4] A Aₚ → Fₚ 0 8 = (Dₚ 3 : Int) → ∀ m3 : Int, (Nₚ 3 : Int) = m3 → ∀ y0_6 : Int, Fₚ 0 6 = y0_6 → ∀ v3 : Int → Int, Aₚ 3 = v3 → ∀ v4 : Int → Int, Aₚ 4 = v4 → ((u0_6) ≤ (y0_6) ∧ (y0_6) ≤ (m3) ∧ (m3) ≤ 16384) → ((a1) < (y0_6) + (u0_10)) → ((y0_6) = (u0_6) ∨ (y0_6) + (u0_10) ≤ (a1) + 1) → (BKI ((w2)) ((v3)) ((u0_10)) ((y0_6))) → (HDI ((w2)) ((v4)) ((u0_10)) ((y0_6))) → Q none σ cₚ sₚ) : Ew 123 (d + 1) 0 (rargs 0 [.ref (D 0), I a1]) [] σE c s Q := by
  have O := OUT_refl (n := (V123).length) (D := D) (N := N) (σ := σE) (c := c) (s := s)
  have HE := H
  have r1 : (-2147483648 : Int) ≤ u0_6 ∧ u0_6 ≤ 2147483647 := rngE (show (-2147483648 : Int) ≤ F 0 6 ∧ F 0 6 ≤ 2147483647 from H.krg 0 6 (ltn len_V123_oz_C0cls rfl)) (show F 0 6 = u0_6 from (eu0_6))
  have r2 : (-2147483648 : Int) ≤ u0_10 ∧ u0_10 ≤ 2147483647 := rngE (show (-2147483648 : Int) ≤ F 0 10 ∧ F 0 10 ≤ 2147483647 from H.krg 0 10 (ltn len_V123_oz_C0cls rfl)) (show F 0 10 = u0_10 from (eu0_10))
  have r3 : (-2147483648 : Int) ≤ u1_1 ∧ u1_1 ≤ 2147483647 := rngE (show (-2147483648 : Int) ≤ F 1 1 ∧ F 1 1 ≤ 2147483647 from H.krg 1 1 (ltn len_V123_oz_C0cls rfl)) (show F 1 1 = u1_1 from (eu1_1))
  have r4 : (0 : Int) ≤ n2 ∧ n2 ≤ 1000000 := nleE (H.nle 2 (ltn len_V123_oz_C0cls rfl)) (show (N 2 : Int) = n2 from en2)
  have r5 : (0 : Int) ≤ n3 ∧ n3 ≤ 1000000 := nleE (H.nle 3 (ltn len_V123_oz_C0cls rfl)) (show (N 3 : Int) = n3 from en3)
  have r6 : (0 : Int) ≤ n4 ∧ n4 ≤ 1000000 := nleE (H.nle 4 (ltn len_V123_oz_C0cls rfl)) (show (N 4 : Int) = n4 from en4)
  have hc43 : ∀ (ls : rO) (σ : rS) (D_c43 N_c43 : Nat → Nat) (c_c43 s_c43 : Nat) (F_c43 : hF) (A_c43 : hA) , rlook ls 0 = some (.ref (D_c43 0)) → rlook ls 1 = some (I (a1)) → HW V123 σ D_c43 N_c43 F_c43 A_c43 → OUT (V123).length D N σE c s D_c43 N_c43 σ c_c43 s_c43 → SD [3] D D_c43 → SD [3] N N_c43 → SF [(0, 8)] F F_c43 → SA [3] A A_c43 → F_c43 0 8 = (D_c43 3 : Int) → ∀ mc43_3 : Int, (N_c43 3 : Int) = mc43_3 → ∀ wc43_3 : Int → Int, A_c43 3 = wc43_3 → ((a1) ≤ (mc43_3) ∧ (mc43_3) ≤ 16384 ∧ (u0_6) ≤ (mc43_3)) → (BKI ((w2)) ((wc43_3)) ((u0_10)) ((u0_6))) → Ew 123 (d + 1) 43 ls [] σ c_c43 s_c43 Q := by
   as_aux_lemma =>
    intro  ls σ D_c43 N_c43 c_c43 s_c43 F_c43 A_c43  lc43_0 lc43_1 H O hD_c43 hN_c43 hS_c43 hA_c43 pmc43_3 mc43_3 emc43_3  wc43_3 ewc43_3 jc43_0 jc43_1
    have cF_c43 : SF oz_C0clsl_4 F F_c43 := SF_trans (SF_refl) hS_c43 (any_sub (by decide +kernel))
    have mF_c43 := SFm_of cF_c43 oz_C0cls_8
    have cA_c43 : SA oz_C0clsl_5 A A_c43 := SA_trans (SA_refl) hA_c43 (any_subA (by decide +kernel))
    have mA_c43 := SAm_of cA_c43 oz_C0cls_9
    have cD_c43 : SD oz_C0clsl_6 D D_c43 := SD_trans (SD_refl) hD_c43 (any_subA (by decide +kernel))
    have mD_c43 := SDm_of cD_c43 oz_C0cls_10
    have cN_c43 : SD oz_C0clsl_6 N N_c43 := SD_trans (SD_refl) hN_c43 (any_subA (by decide +kernel))
    have mN_c43 := SDm_of cN_c43 oz_C0cls_10
    have r7 : (0 : Int) ≤ mc43_3 ∧ mc43_3 ≤ 1000000 := nleE (H.nle 3 (ltn len_V123_oz_C0cls rfl)) (show (N_c43 3 : Int) = mc43_3 from emc43_3)
    suffices hl43 : ∀ (m : Nat), ∀ (ls : rO) (σ : rS) (F_43 : hF) (A_43 : hA) , rlook ls 0 = some (.ref (D_c43 0)) → rlook ls 1 = some (I (a1)) → HW V123 σ D_c43 N_c43 F_43 A_43 → OUT (V123).length D N σE c s D_c43 N_c43 σ c_c43 s_c43 → SF [(0, 6)] F_c43 F_43 → SA [3, 4] A_c43 A_43 → ∀ y43_0_6 : Int, F_43 0 6 = y43_0_6 → ∀ w43_3 : Int → Int, A_43 3 = w43_3 → ∀ w43_4 : Int → Int, A_43 4 = w43_4 → ((u0_6) ≤ (y43_0_6) ∧ (y43_0_6) ≤ (mc43_3) ∧ (mc43_3) ≤ 16384) → ((y43_0_6) = (u0_6) ∨ (y43_0_6) + (u0_10) ≤ (a1) + 1) → (BKI ((w2)) ((w43_3)) ((u0_10)) ((y43_0_6))) → (HDI ((w2)) ((w43_4)) ((u0_10)) ((y43_0_6))) → ((a1) + 1 - (y43_0_6)).toNat = m → Ew 123 (d + 1) 43 ls [] σ c_c43 s_c43 Q from
      hl43 _ _ _ _ _  (lc43_0) (lc43_1) H O (SF_refl) (SA_refl)   (u0_6) (((hS_c43 0 6 rfl).trans (eu0_6))) (wc43_3) (ewc43_3) (w4) ((funext (hA_c43 4 rfl)).trans (ew4)) (show (u0_6) ≤ (u0_6) ∧ (u0_6) ≤ (mc43_3) ∧ (mc43_3) ≤ 16384 from q_2637 jc43_0) (show (u0_6) = (u0_6) ∨ (u0_6) + (u0_10) ≤ (a1) + 1 from q_2636) (show BKI ((w2)) ((wc43_3)) ((u0_10)) ((u0_6)) from jc43_1) (show HDI ((w2)) ((w4)) ((u0_10)) ((u0_6)) from h5) rfl
    as_aux_lemma =>
    intro m
    induction m using Nat.strongRecOn with
    | _ m ih43 =>
      intro ls σ F_43 A_43  l43_0 l43_1 H O hS_43 hA_43   y43_0_6 ey43_0_6 w43_3 ew43_3 w43_4 ew43_4 j43_0 j43_1 j43_2 j43_3 hm43
      have cF_43 : SF oz_C0clsl_4 F F_43 := SF_trans (cF_c43) hS_43 (any_sub (by decide +kernel))
      have mF_43 := SFm_of cF_43 oz_C0cls_8
      have cA_43 : SA oz_C0clsl_5 A A_43 := SA_trans (cA_c43) hA_43 (any_subA (by decide +kernel))
      have mA_43 := SAm_of cA_43 oz_C0cls_9
      have r8 : (-2147483648 : Int) ≤ y43_0_6 ∧ y43_0_6 ≤ 2147483647 := rngE (show (-2147483648 : Int) ≤ F_43 0 6 ∧ F_43 0 6 ≤ 2147483647 from H.krg 0 6 (ltn len_V123_oz_C0cls rfl)) (show F_43 0 6 = y43_0_6 from (ey43_0_6))
      have j43_b : BKI ((w2)) ((w43_3)) ((u0_10)) ((y43_0_6)) := j43_2
      have j43_h : HDI ((w2)) ((w43_4)) ((u0_10)) ((y43_0_6)) := j43_3
      refine Ew_of (pcₚ := 44) (fun _ => x_aload_n rfl l43_0) ?_
      refine v_g H (o := 0) (v := I (y43_0_6)) rfl rfl rfl rfl rfl (congrArg (fun z : Int => I z) ((ey43_0_6) : F_43 0 6 = y43_0_6)) ?_
      refine Ew_of (pcₚ := 48) (fun _ => x_aload_n rfl l43_0) ?_
      refine v_g H (o := 0) (v := I (u0_10)) rfl rfl rfl rfl rfl (congrArg (fun z : Int => I z) (((mF_43 0 10 rfl).trans (eu0_10)) : F_43 0 10 = u0_10)) ?_
      refine w_iadd rfl ?_
      refine Ew_of (pcₚ := 53) (fun _ => x_iload_n rfl l43_1) ?_
      refine w_icmpgt (t := 103) rfl rfl (show inr ((y43_0_6 + u0_10)) from q_2638 h2 j43_0 r8) (show inr (a1) from h0) (fun b9 => ?_) (fun b9 => ?_)
      · exact w_ret rfl (k _ _ _ _ _ _ _ H O (cD_c43) (cN_c43) (cF_43) (cA_43) (((hS_43 0 8 rfl)).trans (pmc43_3)) (mc43_3) (emc43_3) (y43_0_6) ((ey43_0_6)) (w43_3) (ew43_3) (w43_4) (ew43_4) (show (u0_6) ≤ (y43_0_6) ∧ (y43_0_6) ≤ (mc43_3) ∧ (mc43_3) ≤ 16384 from j43_0) (show a1 < (y43_0_6) + (u0_10) from b9) (show (y43_0_6) = (u0_6) ∨ (y43_0_6) + (u0_10) ≤ a1 + 1 from j43_1) (show BKI ((w2)) ((w43_3)) ((u0_10)) ((y43_0_6)) from j43_b) (show HDI ((w2)) ((w43_4)) ((u0_10)) ((y43_0_6)) from j43_h))
      · refine Ew_of (pcₚ := 57) (fun _ => x_aload_n rfl l43_0) ?_
        refine Ew_of (pcₚ := 58) (fun _ => x_aload_n rfl l43_0) ?_
        refine v_g H (o := 0) (v := I (y43_0_6)) rfl rfl rfl rfl rfl (congrArg (fun z : Int => I z) ((ey43_0_6) : F_43 0 6 = y43_0_6)) ?_
        refine v_inv H (o := 0) rfl rfl rfl rfl rfl rfl (by rfl) (C122 (D := puc 524800 D_c43) (N := puc 524800 N_c43) (HW_subc H oz_C0cls_7 oz_C0cls_11) ((mF_43 0 0 rfl).trans ((pf1).trans (congrArg (fun q : Nat => (q : Int)) (mD_c43 1 rfl).symm))) ((mF_43 1 0 rfl).trans ((pf2).trans (congrArg (fun q : Nat => (q : Int)) (mD_c43 2 rfl).symm))) (n2) ((congrArg (fun q : Nat => (q : Int)) (mN_c43 2 rfl)).trans (en2)) (u0_10) (((mF_43 0 10 rfl).trans (eu0_10))) (u1_1) (((mF_43 1 1 rfl).trans (eu1_1))) (w2) ((funext (mA_43 2 rfl)).trans (ew2)) (show inr (y43_0_6) from q_2640 j43_0 r8) (show 0 ≤ (u1_1) ∧ (u1_1) ≤ (n2) ∧ (n2) ≤ 65536 ∧ (u1_1) ≤ 16384 from h1) (show 1 ≤ (u0_10) ∧ (u0_10) ≤ 8 from h2) (show 0 ≤ (y43_0_6) ∧ (y43_0_6) + (u0_10) ≤ (u1_1) from q_2639 b9 h3 h7 j43_0) (fun z10 σ10 F10ₚ A10ₚ Hₚ Oₚ hS10 hA10 pz10_0 pz10_1 pz10_2 => ⟨rfl, ?_⟩))
        refine v_backc (c := c_c43) (s := s_c43) H oz_C0cls_7 oz_C0cls_11 Hₚ Oₚ (fun F10 A10 H Oₚ eF10 eA10 => ?_)
        have O := OUT_trans O Oₚ
        -- Finder.hashAt
        have cF10 : SF oz_C0clsl_4 F F10 := SF_trans (cF_43) (SF_gluc (ι := oz_C0clsl_7) oz_C0cls_11 hS10 eF10 (by decide +kernel)) (any_sub (lₚ := []) (by decide +kernel))
        have mF10 := SFm_of cF10 oz_C0cls_8
        have cA10 : SA oz_C0clsl_5 A A10 := SA_trans (cA_43) (SA_gluc (ι := oz_C0clsl_7) oz_C0cls_11 hA10 eA10 (by decide +kernel)) (any_subA (lₚ := []) (by decide +kernel))
        have mA10 := SAm_of cA10 oz_C0cls_9
        refine Ew_of (pcₚ := 65) (fun _ => x_istore_n rfl) ?_
        refine Ew_of (pcₚ := 66) (fun _ => x_aload_n rfl (rk_o (l43_0) rfl rfl)) ?_
        refine v_g H (o := 0) (v := .ref (D_c43 3)) rfl rfl rfl rfl rfl (vrf (((((show F10 0 8 = F_43 0 8 from (eF10 0 8).trans (hS10 0 8 rfl))).trans (hS_43 0 8 rfl))).trans (pmc43_3))) ?_
        refine Ew_of (pcₚ := 70) (fun _ => x_aload_n rfl (rk_o (l43_0) rfl rfl)) ?_
        refine v_g H (o := 0) (v := I (y43_0_6)) rfl rfl rfl rfl rfl (congrArg (fun z : Int => I z) ((((show F10 0 6 = F_43 0 6 from (eF10 0 6).trans (hS10 0 6 rfl))).trans (ey43_0_6)) : F10 0 6 = y43_0_6)) ?_
        refine Ew_of (pcₚ := 74) (fun _ => x_aload_n rfl (rk_o (l43_0) rfl rfl)) ?_
        refine v_g H (o := 0) (v := .ref (D_c43 4)) rfl rfl rfl rfl rfl (vrf ((mF10 0 7 rfl).trans ((pf4).trans (congrArg (fun q : Nat => (q : Int)) (mD_c43 4 rfl).symm)))) ?_
        refine Ew_of (pcₚ := 78) (fun _ => x_iload_n rfl rk_s) ?_
        refine v_lI H (o := 4) rfl rfl rfl rfl (n := n4) ((congrArg (fun q : Nat => (q : Int)) (mN_c43 4 rfl)).trans (en4)) (show 0 ≤ z10 ∧ z10 < n4 from q_2641 h6 pz10_1) (fun v11 ev11 qv11 => ?_)
        have ev11 : (w43_4) (z10) = v11 := (congrFun (((show A10 4 = A_43 4 from (eA10 4))).trans (ew43_4)) (z10)).symm.trans ev11
        have hbv := ev11
        have hbn : BKI ((w2)) (upd1 ((w43_3)) ((y43_0_6)) ((v11))) ((u0_10)) ((y43_0_6) + 1) := by have := BKI_lay (h := (z10)) j43_b j43_h rfl (by omega) pz10_2 (by omega); rw [hbv] at this; exact this
        have hvr := j43_h ((z10)) (by omega) (by omega)
        refine v_sI H (o := 3) (z := v11) rfl rfl rfl rfl (n := mc43_3) (emc43_3) (show 0 ≤ y43_0_6 ∧ y43_0_6 < mc43_3 from q_2642 b9 h2 h7 j43_0 jc43_0) (show inr (v11) from qv11) (fun σ H Oₚ => ?_)
        have O := OUT_trans O Oₚ
        have cAu12 : SA oz_C0clsl_5 A (updA A10 3 (y43_0_6) (v11)) := SA_upd (cA10) rfl
        have mAu12 := SAm_of cAu12 oz_C0cls_9
        refine Ew_of (pcₚ := 81) (fun _ => x_aload_n rfl (rk_o (l43_0) rfl rfl)) ?_
        refine v_g H (o := 0) (v := .ref (D_c43 4)) rfl rfl rfl rfl rfl (vrf ((mF10 0 7 rfl).trans ((pf4).trans (congrArg (fun q : Nat => (q : Int)) (mD_c43 4 rfl).symm)))) ?_
        refine Ew_of (pcₚ := 85) (fun _ => x_iload_n rfl rk_s) ?_
        refine Ew_of (pcₚ := 86) (fun _ => x_aload_n rfl (rk_o (l43_0) rfl rfl)) ?_
        refine v_g H (o := 0) (v := I (y43_0_6)) rfl rfl rfl rfl rfl (congrArg (fun z : Int => I z) ((((show F10 0 6 = F_43 0 6 from (eF10 0 6).trans (hS10 0 6 rfl))).trans (ey43_0_6)) : F10 0 6 = y43_0_6)) ?_
        have hhn : HDI ((w2)) (upd1 ((w43_4)) ((z10)) ((y43_0_6))) ((u0_10)) ((y43_0_6) + 1) := HDI_lay j43_h rfl (by omega) pz10_2
        refine v_sI H (o := 4) (z := y43_0_6) rfl rfl rfl rfl (n := n4) ((congrArg (fun q : Nat => (q : Int)) (mN_c43 4 rfl)).trans (en4)) (show 0 ≤ z10 ∧ z10 < n4 from q_2641 h6 pz10_1) (show inr (y43_0_6) from q_2640 j43_0 r8) (fun σ H Oₚ => ?_)
        have O := OUT_trans O Oₚ
        have cAu13 : SA oz_C0clsl_5 A (updA (updA A10 3 (y43_0_6) (v11)) 4 (z10) (y43_0_6)) := SA_upd (cAu12) rfl
        have mAu13 := SAm_of cAu13 oz_C0cls_9
        refine Ew_of (pcₚ := 91) (fun _ => x_aload_n rfl (rk_o (l43_0) rfl rfl)) ?_
        refine Ew_of (pcₚ := 92) (fun _ => x_dup rfl rfl) ?_
        refine v_g H (o := 0) (v := I (y43_0_6)) rfl rfl rfl rfl rfl (congrArg (fun z : Int => I z) ((((show F10 0 6 = F_43 0 6 from (eF10 0 6).trans (hS10 0 6 rfl))).trans (ey43_0_6)) : F10 0 6 = y43_0_6)) ?_
        refine Ew_of (pcₚ := 96) (fun _ => x_iconst rfl) ?_
        refine w_iadd rfl ?_
        refine v_p H (o := 0) (z := (y43_0_6 + 1)) (v := I ((y43_0_6 + 1))) rfl rfl rfl rfl rfl rfl rfl rfl (show (-2147483648 : Int) ≤ (y43_0_6 + 1) ∧ (y43_0_6 + 1) ≤ 2147483647 from q_2643 j43_0 r8) (fun σ H Oₚ => ?_)
        have O := OUT_trans O Oₚ
        have cFu14 : SF oz_C0clsl_4 F (updF F10 0 6 ((y43_0_6 + 1))) := SF_upd (cF10) rfl
        have mFu14 := SFm_of cFu14 oz_C0cls_8
        refine Ew_of (pcₚ := 43) (fun _ => x_goto rfl rfl) ?_
        exact ih43 _ (msE hm43 q_672 (q_2646 b9 h2)) _ _ _ _  (rk_o (l43_0) rfl rfl) (rk_o (l43_1) rfl rfl) H O (SF_upd (SF_trans (hS_43) (SF_gluc (ι := oz_C0clsl_7) oz_C0cls_11 hS10 eF10 (by decide +kernel)) (any_sub (lₚ := []) (by decide +kernel))) rfl) (SA_upd (SA_upd (SA_trans (hA_43) (SA_gluc (ι := oz_C0clsl_7) oz_C0cls_11 hA10 eA10 (by decide +kernel)) (any_subA (lₚ := []) (by decide +kernel))) rfl) rfl)   ((y43_0_6 + 1)) (rfl) (upd1 (w43_3) (y43_0_6) (v11)) (congrArg (fun q => upd1 q (y43_0_6) (v11)) (((show A10 3 = A_43 3 from (eA10 3))).trans (ew43_3))) (upd1 (w43_4) (z10) (y43_0_6)) (congrArg (fun q => upd1 q (z10) (y43_0_6)) (((show A10 4 = A_43 4 from (eA10 4))).trans (ew43_4))) (show (u0_6) ≤ ((y43_0_6 + 1)) ∧ ((y43_0_6 + 1)) ≤ (mc43_3) ∧ (mc43_3) ≤ 16384 from q_2645 b9 h2 j43_0 jc43_0) (show ((y43_0_6 + 1)) = (u0_6) ∨ ((y43_0_6 + 1)) + (u0_10) ≤ (a1) + 1 from q_2644 b9) (show BKI ((w2)) ((upd1 (w43_3) (y43_0_6) (v11))) ((u0_10)) (((y43_0_6 + 1))) from hbn) (show HDI ((w2)) ((upd1 (w43_4) (z10) (y43_0_6))) ((u0_10)) (((y43_0_6 + 1))) from hhn) rfl
  have hbk0 : BKI ((w2)) ((w3)) ((u0_10)) ((u0_6)) := h4
  refine Ew_of (pcₚ := 1) (fun _ => x_aload_n rfl rfl) ?_
  refine v_g H (o := 0) (v := .ref (D 3)) rfl rfl rfl rfl rfl (vrf (pf3)) ?_
  refine v_len H (o := 3) rfl rfl rfl rfl (n := n3) (en3) ?_
  refine Ew_of (pcₚ := 6) (fun _ => x_iload_n rfl rfl) ?_
  refine w_icmpge (t := 43) rfl rfl (show inr (n3) from q_2511 r5) (show inr (a1) from h0) (fun b15 => ?_) (fun b15 => ?_)
  · exact hc43  _ _ _ _ _ _ _ _  (rfl) (rfl) H O (SD_refl) (SD_refl) (SF_refl) (SA_refl) (pf3) (n3) (en3)  (w3) (ew3) (show (a1) ≤ (n3) ∧ (n3) ≤ 16384 ∧ (u0_6) ≤ (n3) from q_2647 b15 h7) (show BKI ((w2)) ((w3)) ((u0_10)) ((u0_6)) from hbk0)
  · refine Ew_of (pcₚ := 10) (fun _ => x_aload_n rfl rfl) ?_
    refine Ew_of (pcₚ := 11) (fun _ => x_aload_n rfl rfl) ?_
    refine v_g H (o := 0) (v := .ref (D 3)) rfl rfl rfl rfl rfl (vrf (pf3)) ?_
    refine Ew_of (pcₚ := 15) (fun _ => x_iload_n rfl rfl) ?_
    refine Ew_of (pcₚ := 18) (fun _ => x_sipush (z := 16384) rfl (by decide)) ?_
    refine Ew_of (pcₚ := 21) (fun _ => x_sipush (z := 256) rfl (by decide)) ?_
    refine Ew_of (pcₚ := 22) (fun _ => x_iconst rfl) ?_
    refine Ew_of (pcₚ := 23) (fun _ => x_aload_n rfl rfl) ?_
    refine v_g H (o := 0) (v := .ref (D 3)) rfl rfl rfl rfl rfl (vrf (pf3)) ?_
    refine v_len H (o := 3) rfl rfl rfl rfl (n := n3) (en3) ?_
    refine w_imul rfl ?_
    refine v_max rfl rfl (show inr (256) from q_716) (show inr ((4 * n3)) from q_2520 r5) (fun z16 gz16 => ?_)
    refine v_min rfl rfl (show inr (16384) from q_2050) (show inr (z16) from q_2521 gz16 r5) (fun z17 gz17 => ?_)
    refine v_max rfl rfl (show inr (a1) from h0) (show inr (z17) from q_2648 gz16 gz17) (fun z18 gz18 => ?_)
    have hg := grow_ok (m := (n3)) (n := (z18)) (by omega) (by omega) (by omega)
    have hgC := hg.1
    have hgS := hg.2
    refine v_growI H (p := 0) (k := 8) (t := 3) (n := z18) rfl (by rfl) rfl rfl (fun _ => rfl) rfl rfl rfl rfl (fun z => vrf (z := (z : Int)) rfl) rfl rfl rfl rfl (by decide +kernel) rfl (m := n3) (en3) (show n3 < z18 ∧ z18 ≤ 1000000 from q_2649 b15 gz17 gz18 h1 h3) (show pC (n3 : Int).toNat + 1 ≤ pC (z18 : Int).toNat by assumption) (show pS (n3 : Int).toNat + z18 ≤ pS (z18 : Int).toNat by assumption) (fun σ D19 N19 F19 A19 H Oₚ hD19 hN19 em19 hS19 pm19 hA19 ga19 => ?_)
    have O := OUT_trans O Oₚ
    have ga19 : ∀ i, 0 ≤ i → i < n3 → A19 3 i = (w3) i := fun i a b => (ga19 i a b).trans (congrFun (ew3) i)
    have cF19 : SF oz_C0clsl_4 F F19 := SF_trans (SF_refl) hS19 (any_sub (by decide +kernel))
    have mF19 := SFm_of cF19 oz_C0cls_8
    have cA19 : SA oz_C0clsl_5 A A19 := SA_trans (SA_refl) hA19 (any_subA (by decide +kernel))
    have mA19 := SAm_of cA19 oz_C0cls_9
    have cD19 : SD oz_C0clsl_6 D D19 := SD_trans (SD_refl) hD19 (any_subA (by decide +kernel))
    have mD19 := SDm_of cD19 oz_C0cls_10
    have cN19 : SD oz_C0clsl_6 N N19 := SD_trans (SD_refl) hN19 (any_subA (by decide +kernel))
    have mN19 := SDm_of cN19 oz_C0cls_10
    have pf19_0_8 : F19 0 8 = (D19 3 : Int) := pm19
    have : BKI ((w2)) ((A19 3)) ((u0_10)) ((u0_6)) := BKI_congr hbk0 (fun i a b => ga19 i a (by omega))
    have r20 : (0 : Int) ≤ z18 ∧ z18 ≤ 1000000 := nleE (H.nle 3 (ltn len_V123_oz_C0cls rfl)) (show (N19 3 : Int) = z18 from em19)
    exact hc43  _ _ _ _ _ _ _ _  ((rfl).trans (congrArg (fun q : Nat => some (Value.ref q)) (mD19 0 rfl).symm)) (rfl) H O (SD_trans (SD_refl) hD19 (any_subA (by decide +kernel))) (SD_trans (SD_refl) hN19 (any_subA (by decide +kernel))) (SF_trans (SF_refl) hS19 (any_sub (by decide +kernel))) (SA_trans (SA_refl) hA19 (any_subA (by decide +kernel))) (pf19_0_8) (z18) (em19)  (A19 3) (rfl) (show (a1) ≤ (z18) ∧ (z18) ≤ 16384 ∧ (u0_6) ≤ (z18) from q_2650 b15 gz17 gz18 h1 h3 h7 r20) (show BKI ((w2)) ((A19 3)) ((u0_10)) ((u0_6)) by assumption)
