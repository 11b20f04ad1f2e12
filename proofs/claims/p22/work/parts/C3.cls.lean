abbrev V126 : vV := [(0, 5, [(4, 0), (4, 0), (4, 0), (4, 0), (0, 0), (0, 0), (0, 0), (4, 0), (4, 0), (0, 0), (0, 0), (0, 0), (0, 0), (0, 0), (0, 0), (0, 0), (0, 0), (0, 0), (0, 0)]), (1, 1, []), (1, 1, []), (1, 1, [])]
theorem len_V126_oz_C3cls : (V126).length = 4 := by decide +kernel
def oz_C3clsl_0 : List (Nat × Nat) := [(0, 1), (0, 2), (0, 3), (0, 4)]
theorem oz_C3cls_1 : (oz_C3clsl_0).all (fun p => !tbz 30 (Nat.add (Nat.mul 32 p.1) p.2)) = true := by decide +kernel
def oz_C3clsl_1 : List Nat := [1, 2, 3]
theorem oz_C3cls_2 : (oz_C3clsl_1).all (fun p => !tbz 14 p) = true := by decide +kernel
/-- Finder.note: this, this.literals, this.lengths, this.distances -/
theorem C126 {σE : rS} {D N : Nat → Nat} {F : hF} {A : hA} {d c s : Nat} {Q : wQ} (H : HW V126 σE D N F A) {a1 : Int} (pf1 : F 0 1 = (D 1 : Int)) (pf2 : F 0 2 = (D 2 : Int)) (pf3 : F 0 3 = (D 3 : Int)) (n1 : Int) (en1 : (N 1 : Int) = n1) (n2 : Int) (en2 : (N 2 : Int) = n2) (n3 : Int) (en3 : (N 3 : Int) = n3) (u0_4 : Int) (eu0_4 : F 0 4 = u0_4) (u0_10 : Int) (eu0_10 : F 0 10 = u0_10) (u0_14 : Int) (eu0_14 : F 0 14 = u0_14) (u0_15 : Int) (eu0_15 : F 0 15 = u0_15) (w1 : Int → Int) (ew1 : A 1 = w1) (w2 : Int → Int) (ew2 : A 2 = w2) (w3 : Int → Int) (ew3 : A 3 = w3) (tot : Int) (h0 : inr (a1)) (h1 : (n1) = (n2) ∧ (n3) = (n2) ∧ (n2) ≤ 65536 ∧ ((n2) = 0 ∨ 64 ≤ (n2)) ∧ lgq ((n2)) = 0) (h2 : 0 ≤ (u0_4) ∧ (u0_4) ≤ (n2) ∧ (u0_4) ≤ 16383) (h3 : 0 ≤ (a1)) (h4 : (u0_10) ≤ (u0_14) ∧ 1 ≤ (u0_15) ∧ (u0_15) ≤ 16384) (h5 : FDI ((w1)) ((w2)) ((w3)) ((u0_4)) (tot) ((u0_10))) (k : ∀ (σ : rS) (Dₚ Nₚ : Nat → Nat) (Fₚ : hF) (Aₚ : hA) (cₚ sₚ : Nat), HW V126 σ Dₚ Nₚ Fₚ Aₚ → OUT (V126).length D N σE c s Dₚ Nₚ σ cₚ sₚ → SD [1, 2, 3] D Dₚ → SD [1, 2, 3] N Nₚ → SF [(0, 1), (0, 2), (0, 3), (0, 4)] F Fₚ → SA [1, 2, 3] A Aₚ → Fₚ 0 1 = (Dₚ 1 : Int) → Fₚ 0 2 = (Dₚ 2 : Int) → Fₚ 0 3 = (Dₚ 3 : Int) → ∀ m1 : Int, (Nₚ 1 : Int) = m1 → ∀ m2 : Int, (Nₚ 2 : Int) = m2 → ∀ m3 : Int, (Nₚ 3 : Int) = m3 → ∀ y0_4 : Int, Fₚ 0 4 = y0_4 → ∀ v1 : Int → Int, Aₚ 1 = v1 → ∀ v2 : Int → Int, Aₚ 2 = v2 → ∀ v3 : Int → Int, Aₚ 3 = v3 → ((m1) = (m2) ∧ (m3) = (m2) ∧ (m2) ≤ 65536 ∧ ((m2) = 0 ∨ 64 ≤ (m2)) ∧ lgq ((m2)) = 0) → ((y0_4) = (u0_4) + 1 ∧ (y0_4) ≤ (m2)) → (FDI ((v1)) ((v2)) ((v3)) ((u0_4) + 1) (tot + (a1) + (u0_14)) ((u0_10))) → Q none σ cₚ sₚ) : Ew 126 (d + 1) 0 (rargs 0 [.ref (D 0), I a1]) [] σE c s Q := by
  have O := OUT_refl (n := (V126).length) (D := D) (N := N) (σ := σE) (c := c) (s := s)
  have HE := H
  have r1 : (-2147483648 : Int) ≤ u0_4 ∧ u0_4 ≤ 2147483647 := rngE (show (-2147483648 : Int) ≤ F 0 4 ∧ F 0 4 ≤ 2147483647 from H.krg 0 4 (ltn len_V126_oz_C3cls rfl)) (show F 0 4 = u0_4 from (eu0_4))
  have r2 : (-2147483648 : Int) ≤ u0_10 ∧ u0_10 ≤ 2147483647 := rngE (show (-2147483648 : Int) ≤ F 0 10 ∧ F 0 10 ≤ 2147483647 from H.krg 0 10 (ltn len_V126_oz_C3cls rfl)) (show F 0 10 = u0_10 from (eu0_10))
  have r3 : (-2147483648 : Int) ≤ u0_14 ∧ u0_14 ≤ 2147483647 := rngE (show (-2147483648 : Int) ≤ F 0 14 ∧ F 0 14 ≤ 2147483647 from H.krg 0 14 (ltn len_V126_oz_C3cls rfl)) (show F 0 14 = u0_14 from (eu0_14))
  have r4 : (-2147483648 : Int) ≤ u0_15 ∧ u0_15 ≤ 2147483647 := rngE (show (-2147483648 : Int) ≤ F 0 15 ∧ F 0 15 ≤ 2147483647 from H.krg 0 15 (ltn len_V126_oz_C3cls rfl)) (show F 0 15 = u0_15 from (eu0_15))
  have r5 : (0 : Int) ≤ n1 ∧ n1 ≤ 1000000 := nleE (H.nle 1 (ltn len_V126_oz_C3cls rfl)) (show (N 1 : Int) = n1 from en1)
  have r6 : (0 : Int) ≤ n2 ∧ n2 ≤ 1000000 := nleE (H.nle 2 (ltn len_V126_oz_C3cls rfl)) (show (N 2 : Int) = n2 from en2)
  have r7 : (0 : Int) ≤ n3 ∧ n3 ≤ 1000000 := nleE (H.nle 3 (ltn len_V126_oz_C3cls rfl)) (show (N 3 : Int) = n3 from en3)
  have hc60 : ∀ (ls : rO) (σ : rS) (D_c60 N_c60 : Nat → Nat) (c_c60 s_c60 : Nat) (F_c60 : hF) (A_c60 : hA) , rlook ls 0 = some (.ref (D_c60 0)) → rlook ls 1 = some (I (a1)) → HW V126 σ D_c60 N_c60 F_c60 A_c60 → OUT (V126).length D N σE c s D_c60 N_c60 σ c_c60 s_c60 → SD [1, 2, 3] D D_c60 → SD [1, 2, 3] N N_c60 → SF [(0, 1), (0, 2), (0, 3)] F F_c60 → SA [1, 2, 3] A A_c60 → F_c60 0 1 = (D_c60 1 : Int) → F_c60 0 2 = (D_c60 2 : Int) → F_c60 0 3 = (D_c60 3 : Int) → ∀ mc60_1 : Int, (N_c60 1 : Int) = mc60_1 → ∀ mc60_2 : Int, (N_c60 2 : Int) = mc60_2 → ∀ mc60_3 : Int, (N_c60 3 : Int) = mc60_3 → ∀ wc60_1 : Int → Int, A_c60 1 = wc60_1 → ∀ wc60_2 : Int → Int, A_c60 2 = wc60_2 → ∀ wc60_3 : Int → Int, A_c60 3 = wc60_3 → ((mc60_1) = (mc60_2) ∧ (mc60_3) = (mc60_2) ∧ (mc60_2) ≤ 65536 ∧ ((mc60_2) = 0 ∨ 64 ≤ (mc60_2)) ∧ lgq ((mc60_2)) = 0) → ((u0_4) < (mc60_2)) → (FDI ((wc60_1)) ((wc60_2)) ((wc60_3)) ((u0_4)) (tot) ((u0_10))) → Ew 126 (d + 1) 60 ls [] σ c_c60 s_c60 Q := by
   as_aux_lemma =>
    intro  ls σ D_c60 N_c60 c_c60 s_c60 F_c60 A_c60  lc60_0 lc60_1 H O hD_c60 hN_c60 hS_c60 hA_c60 pmc60_1 pmc60_2 pmc60_3 mc60_1 emc60_1 mc60_2 emc60_2 mc60_3 emc60_3  wc60_1 ewc60_1 wc60_2 ewc60_2 wc60_3 ewc60_3 jc60_0 jc60_1 jc60_2
    have cF_c60 : SF oz_C3clsl_0 F F_c60 := SF_trans (SF_refl) hS_c60 (any_sub (by decide +kernel))
    have mF_c60 := SFm_of cF_c60 oz_C3cls_1
    have cA_c60 : SA oz_C3clsl_1 A A_c60 := SA_trans (SA_refl) hA_c60 (any_subA (by decide +kernel))
    have mA_c60 := SAm_of cA_c60 oz_C3cls_2
    have cD_c60 : SD oz_C3clsl_1 D D_c60 := SD_trans (SD_refl) hD_c60 (any_subA (by decide +kernel))
    have mD_c60 := SDm_of cD_c60 oz_C3cls_2
    have cN_c60 : SD oz_C3clsl_1 N N_c60 := SD_trans (SD_refl) hN_c60 (any_subA (by decide +kernel))
    have mN_c60 := SDm_of cN_c60 oz_C3cls_2
    have r8 : (0 : Int) ≤ mc60_1 ∧ mc60_1 ≤ 1000000 := nleE (H.nle 1 (ltn len_V126_oz_C3cls rfl)) (show (N_c60 1 : Int) = mc60_1 from emc60_1)
    have r9 : (0 : Int) ≤ mc60_2 ∧ mc60_2 ≤ 1000000 := nleE (H.nle 2 (ltn len_V126_oz_C3cls rfl)) (show (N_c60 2 : Int) = mc60_2 from emc60_2)
    have r10 : (0 : Int) ≤ mc60_3 ∧ mc60_3 ≤ 1000000 := nleE (H.nle 3 (ltn len_V126_oz_C3cls rfl)) (show (N_c60 3 : Int) = mc60_3 from emc60_3)
    have hfd2 : FDI ((wc60_1)) ((wc60_2)) ((wc60_3)) ((u0_4)) (tot) ((u0_10)) := jc60_2
    refine Ew_of (pcₚ := 61) (fun _ => x_aload_n rfl lc60_0) ?_
    refine v_g H (o := 0) (v := .ref (D_c60 1)) rfl rfl rfl rfl rfl (vrf (pmc60_1)) ?_
    refine Ew_of (pcₚ := 65) (fun _ => x_aload_n rfl lc60_0) ?_
    refine v_g H (o := 0) (v := I (u0_4)) rfl rfl rfl rfl rfl (congrArg (fun z : Int => I z) (((hS_c60 0 4 rfl).trans (eu0_4)) : F_c60 0 4 = u0_4)) ?_
    refine Ew_of (pcₚ := 69) (fun _ => x_iload_n rfl lc60_1) ?_
    refine v_sI H (o := 1) (z := a1) rfl rfl rfl rfl (n := mc60_1) (emc60_1) (show 0 ≤ u0_4 ∧ u0_4 < mc60_1 from q_2699 h2 jc60_0 jc60_1) (show inr (a1) from h0) (fun σ H Oₚ => ?_)
    have O := OUT_trans O Oₚ
    have cAu11 : SA oz_C3clsl_1 A (updA A_c60 1 (u0_4) (a1)) := SA_upd (cA_c60) rfl
    have mAu11 := SAm_of cAu11 oz_C3cls_2
    refine Ew_of (pcₚ := 71) (fun _ => x_aload_n rfl lc60_0) ?_
    refine v_g H (o := 0) (v := .ref (D_c60 2)) rfl rfl rfl rfl rfl (vrf (pmc60_2)) ?_
    refine Ew_of (pcₚ := 75) (fun _ => x_aload_n rfl lc60_0) ?_
    refine v_g H (o := 0) (v := I (u0_4)) rfl rfl rfl rfl rfl (congrArg (fun z : Int => I z) (((hS_c60 0 4 rfl).trans (eu0_4)) : F_c60 0 4 = u0_4)) ?_
    refine Ew_of (pcₚ := 79) (fun _ => x_aload_n rfl lc60_0) ?_
    refine v_g H (o := 0) (v := I (u0_14)) rfl rfl rfl rfl rfl (congrArg (fun z : Int => I z) (((mF_c60 0 14 rfl).trans (eu0_14)) : F_c60 0 14 = u0_14)) ?_
    refine v_sI H (o := 2) (z := u0_14) rfl rfl rfl rfl (n := mc60_2) (emc60_2) (show 0 ≤ u0_4 ∧ u0_4 < mc60_2 from q_2700 h2 jc60_1) (show inr (u0_14) from q_22 r3) (fun σ H Oₚ => ?_)
    have O := OUT_trans O Oₚ
    have cAu12 : SA oz_C3clsl_1 A (updA (updA A_c60 1 (u0_4) (a1)) 2 (u0_4) (u0_14)) := SA_upd (cAu11) rfl
    have mAu12 := SAm_of cAu12 oz_C3cls_2
    refine Ew_of (pcₚ := 84) (fun _ => x_aload_n rfl lc60_0) ?_
    refine v_g H (o := 0) (v := .ref (D_c60 3)) rfl rfl rfl rfl rfl (vrf (pmc60_3)) ?_
    refine Ew_of (pcₚ := 88) (fun _ => x_aload_n rfl lc60_0) ?_
    refine v_g H (o := 0) (v := I (u0_4)) rfl rfl rfl rfl rfl (congrArg (fun z : Int => I z) (((hS_c60 0 4 rfl).trans (eu0_4)) : F_c60 0 4 = u0_4)) ?_
    refine Ew_of (pcₚ := 92) (fun _ => x_aload_n rfl lc60_0) ?_
    refine v_g H (o := 0) (v := I (u0_15)) rfl rfl rfl rfl rfl (congrArg (fun z : Int => I z) (((mF_c60 0 15 rfl).trans (eu0_15)) : F_c60 0 15 = u0_15)) ?_
    refine v_sI H (o := 3) (z := u0_15) rfl rfl rfl rfl (n := mc60_3) (emc60_3) (show 0 ≤ u0_4 ∧ u0_4 < mc60_3 from q_2702 h2 jc60_0 jc60_1) (show inr (u0_15) from q_2701 h4) (fun σ H Oₚ => ?_)
    have O := OUT_trans O Oₚ
    have cAu13 : SA oz_C3clsl_1 A (updA (updA (updA A_c60 1 (u0_4) (a1)) 2 (u0_4) (u0_14)) 3 (u0_4) (u0_15)) := SA_upd (cAu12) rfl
    have mAu13 := SAm_of cAu13 oz_C3cls_2
    refine Ew_of (pcₚ := 97) (fun _ => x_aload_n rfl lc60_0) ?_
    refine Ew_of (pcₚ := 98) (fun _ => x_dup rfl rfl) ?_
    refine v_g H (o := 0) (v := I (u0_4)) rfl rfl rfl rfl rfl (congrArg (fun z : Int => I z) (((hS_c60 0 4 rfl).trans (eu0_4)) : F_c60 0 4 = u0_4)) ?_
    refine Ew_of (pcₚ := 102) (fun _ => x_iconst rfl) ?_
    refine w_iadd rfl ?_
    refine v_p H (o := 0) (z := (u0_4 + 1)) (v := I ((u0_4 + 1))) rfl rfl rfl rfl rfl rfl rfl rfl (show (-2147483648 : Int) ≤ (u0_4 + 1) ∧ (u0_4 + 1) ≤ 2147483647 from q_2703 h2) (fun σ H Oₚ => ?_)
    have O := OUT_trans O Oₚ
    have cFu14 : SF oz_C3clsl_0 F (updF F_c60 0 4 ((u0_4 + 1))) := SF_upd (cF_c60) rfl
    have mFu14 := SFm_of cFu14 oz_C3cls_1
    have : FDI ((upd1 (wc60_1) (u0_4) (a1))) ((upd1 (wc60_2) (u0_4) (u0_14))) ((upd1 (wc60_3) (u0_4) (u0_15))) ((u0_4) + 1) (tot + (a1) + (u0_14)) ((u0_10)) := FDI_next hfd2 (by omega) rfl (by omega) (by omega) (by omega) rfl
    exact w_ret rfl (k _ _ _ _ _ _ _ H O (cD_c60) (cN_c60) (cFu14) (cAu13) (pmc60_1) (pmc60_2) (pmc60_3) (mc60_1) (emc60_1) (mc60_2) (emc60_2) (mc60_3) (emc60_3) ((u0_4 + 1)) (rfl) (upd1 (wc60_1) (u0_4) (a1)) (congrArg (fun q => upd1 q (u0_4) (a1)) (ewc60_1)) (upd1 (wc60_2) (u0_4) (u0_14)) (congrArg (fun q => upd1 q (u0_4) (u0_14)) (ewc60_2)) (upd1 (wc60_3) (u0_4) (u0_15)) (congrArg (fun q => upd1 q (u0_4) (u0_15)) (ewc60_3)) (show (mc60_1) = (mc60_2) ∧ (mc60_3) = (mc60_2) ∧ (mc60_2) ≤ 65536 ∧ ((mc60_2) = 0 ∨ 64 ≤ (mc60_2)) ∧ lgq ((mc60_2)) = 0 from jc60_0) (show ((u0_4 + 1)) = (u0_4) + 1 ∧ ((u0_4 + 1)) ≤ (mc60_2) from q_2704 jc60_1) (show FDI ((upd1 (wc60_1) (u0_4) (a1))) ((upd1 (wc60_2) (u0_4) (u0_14))) ((upd1 (wc60_3) (u0_4) (u0_15))) ((u0_4) + 1) (tot + a1 + (u0_14)) ((u0_10)) by assumption))
  have hfd : FDI ((w1)) ((w2)) ((w3)) ((u0_4)) (tot) ((u0_10)) := h5
  refine Ew_of (pcₚ := 1) (fun _ => x_aload_n rfl rfl) ?_
  refine v_g H (o := 0) (v := I (u0_4)) rfl rfl rfl rfl rfl (congrArg (fun z : Int => I z) ((eu0_4) : F 0 4 = u0_4)) ?_
  refine Ew_of (pcₚ := 5) (fun _ => x_aload_n rfl rfl) ?_
  refine v_g H (o := 0) (v := .ref (D 2)) rfl rfl rfl rfl rfl (vrf (pf2)) ?_
  refine v_len H (o := 2) rfl rfl rfl rfl (n := n2) (en2) ?_
  refine w_icmpne (t := 60) rfl rfl (show inr (u0_4) from q_2705 h2) (show inr (n2) from q_2511 r6) (fun b15 => ?_) (fun b15 => ?_)
  · exact hc60  _ _ _ _ _ _ _ _  (rfl) (rfl) H O (SD_refl) (SD_refl) (SF_refl) (SA_refl) (pf1) (pf2) (pf3) (n1) (en1) (n2) (en2) (n3) (en3)  (w1) (ew1) (w2) (ew2) (w3) (ew3) (show (n1) = (n2) ∧ (n3) = (n2) ∧ (n2) ≤ 65536 ∧ ((n2) = 0 ∨ 64 ≤ (n2)) ∧ lgq ((n2)) = 0 from h1) (show (u0_4) < (n2) by omega) (show FDI ((w1)) ((w2)) ((w3)) ((u0_4)) (tot) ((u0_10)) from hfd)
  · refine Ew_of (pcₚ := 14) (fun _ => x_bipush (z := 64) rfl (by decide)) ?_
    refine Ew_of (pcₚ := 15) (fun _ => x_iconst rfl) ?_
    refine Ew_of (pcₚ := 16) (fun _ => x_aload_n rfl rfl) ?_
    refine v_g H (o := 0) (v := I (u0_4)) rfl rfl rfl rfl rfl (congrArg (fun z : Int => I z) ((eu0_4) : F 0 4 = u0_4)) ?_
    refine w_imul rfl ?_
    refine v_max rfl rfl (show inr (64) from q_51) (show inr ((4 * u0_4)) from q_2706 h2) (fun z16 gz16 => ?_)
    refine Ew_of (pcₚ := 24) (fun _ => x_istore_n rfl) ?_
    have hlg : lgq ((z16)) = 0 := lgq_s (m := (n2)) (by omega) (by omega) (by omega)
    refine Ew_of (pcₚ := 25) (fun _ => x_aload_n rfl (rk_o (rfl) rfl rfl)) ?_
    refine Ew_of (pcₚ := 26) (fun _ => x_aload_n rfl (rk_o (rfl) rfl rfl)) ?_
    refine v_g H (o := 0) (v := .ref (D 1)) rfl rfl rfl rfl rfl (vrf (pf1)) ?_
    refine Ew_of (pcₚ := 30) (fun _ => x_iload_n rfl rk_s) ?_
    have hglit := grow_ok (m := (n1)) (n := (z16)) (by omega) (by omega) (by omega)
    have hgC := hglit.1
    have hgS := hglit.2
    refine v_growI H (p := 0) (k := 1) (t := 1) (n := z16) rfl (by rfl) rfl rfl (fun _ => rfl) rfl rfl rfl rfl (fun z => vrf (z := (z : Int)) rfl) rfl rfl rfl rfl (by decide +kernel) rfl (m := n1) (en1) (show n1 < z16 ∧ z16 ≤ 1000000 by omega) (show pC (n1 : Int).toNat + 1 ≤ pC (z16 : Int).toNat by assumption) (show pS (n1 : Int).toNat + z16 ≤ pS (z16 : Int).toNat by assumption) (fun σ D17 N17 F17 A17 H Oₚ hD17 hN17 em17 hS17 pm17 hA17 ga17 => ?_)
    have O := OUT_trans O Oₚ
    have ga17 : ∀ i, 0 ≤ i → i < n1 → A17 1 i = (w1) i := fun i a b => (ga17 i a b).trans (congrFun (ew1) i)
    have cF17 : SF oz_C3clsl_0 F F17 := SF_trans (SF_refl) hS17 (any_sub (by decide +kernel))
    have mF17 := SFm_of cF17 oz_C3cls_1
    have cA17 : SA oz_C3clsl_1 A A17 := SA_trans (SA_refl) hA17 (any_subA (by decide +kernel))
    have mA17 := SAm_of cA17 oz_C3cls_2
    have cD17 : SD oz_C3clsl_1 D D17 := SD_trans (SD_refl) hD17 (any_subA (by decide +kernel))
    have mD17 := SDm_of cD17 oz_C3cls_2
    have cN17 : SD oz_C3clsl_1 N N17 := SD_trans (SD_refl) hN17 (any_subA (by decide +kernel))
    have mN17 := SDm_of cN17 oz_C3cls_2
    have pf17_0_1 : F17 0 1 = (D17 1 : Int) := pm17
    have pf17_0_2 : F17 0 2 = (D17 2 : Int) := (hS17 0 2 rfl).trans ((pf2).trans (congrArg (fun q : Nat => (q : Int)) (hD17 2 rfl).symm))
    have pf17_0_3 : F17 0 3 = (D17 3 : Int) := (hS17 0 3 rfl).trans ((pf3).trans (congrArg (fun q : Nat => (q : Int)) (hD17 3 rfl).symm))
    refine Ew_of (pcₚ := 37) (fun _ => x_aload_n rfl (rk_o (rfl) rfl rfl)) ?_
    refine Ew_of (pcₚ := 38) (fun _ => x_aload_n rfl (rk_o (rfl) rfl rfl)) ?_
    refine Ew_stk (show ([.ref (D 0), .ref (D 0)] : List Value) = [.ref (D17 0), .ref (D17 0)] by rw [show D17 0 = D 0 from mD17 0 rfl]) ?_
    refine v_g H (o := 0) (v := .ref (D17 2)) rfl rfl rfl rfl rfl (vrf (pf17_0_2)) ?_
    refine Ew_of (pcₚ := 42) (fun _ => x_iload_n rfl rk_s) ?_
    have hglen := grow_ok (m := (n2)) (n := (z16)) (by omega) (by omega) (by omega)
    have hgC := hglen.1
    have hgS := hglen.2
    refine v_growI H (p := 0) (k := 2) (t := 2) (n := z16) rfl (by rfl) rfl rfl (fun _ => rfl) rfl rfl rfl rfl (fun z => vrf (z := (z : Int)) rfl) rfl rfl rfl rfl (by decide +kernel) rfl (m := n2) ((congrArg (fun q : Nat => (q : Int)) (hN17 2 rfl)).trans (en2)) (show n2 < z16 ∧ z16 ≤ 1000000 by omega) (show pC (n2 : Int).toNat + 1 ≤ pC (z16 : Int).toNat by assumption) (show pS (n2 : Int).toNat + z16 ≤ pS (z16 : Int).toNat by assumption) (fun σ D18 N18 F18 A18 H Oₚ hD18 hN18 em18 hS18 pm18 hA18 ga18 => ?_)
    have O := OUT_trans O Oₚ
    have ga18 : ∀ i, 0 ≤ i → i < n2 → A18 2 i = (w2) i := fun i a b => (ga18 i a b).trans (congrFun ((funext (hA17 2 rfl)).trans (ew2)) i)
    have cF18 : SF oz_C3clsl_0 F F18 := SF_trans (cF17) hS18 (any_sub (by decide +kernel))
    have mF18 := SFm_of cF18 oz_C3cls_1
    have cA18 : SA oz_C3clsl_1 A A18 := SA_trans (cA17) hA18 (any_subA (by decide +kernel))
    have mA18 := SAm_of cA18 oz_C3cls_2
    have cD18 : SD oz_C3clsl_1 D D18 := SD_trans (cD17) hD18 (any_subA (by decide +kernel))
    have mD18 := SDm_of cD18 oz_C3cls_2
    have cN18 : SD oz_C3clsl_1 N N18 := SD_trans (cN17) hN18 (any_subA (by decide +kernel))
    have mN18 := SDm_of cN18 oz_C3cls_2
    have pf18_0_1 : F18 0 1 = (D18 1 : Int) := (hS18 0 1 rfl).trans ((pf17_0_1).trans (congrArg (fun q : Nat => (q : Int)) (hD18 1 rfl).symm))
    have pf18_0_2 : F18 0 2 = (D18 2 : Int) := pm18
    have pf18_0_3 : F18 0 3 = (D18 3 : Int) := (hS18 0 3 rfl).trans ((pf17_0_3).trans (congrArg (fun q : Nat => (q : Int)) (hD18 3 rfl).symm))
    refine Ew_of (pcₚ := 49) (fun _ => x_aload_n rfl (rk_o (rfl) rfl rfl)) ?_
    refine Ew_of (pcₚ := 50) (fun _ => x_aload_n rfl (rk_o (rfl) rfl rfl)) ?_
    refine Ew_stk (show ([.ref (D 0), .ref (D 0)] : List Value) = [.ref (D18 0), .ref (D18 0)] by rw [show D18 0 = D 0 from mD18 0 rfl]) ?_
    refine v_g H (o := 0) (v := .ref (D18 3)) rfl rfl rfl rfl rfl (vrf (pf18_0_3)) ?_
    refine Ew_of (pcₚ := 54) (fun _ => x_iload_n rfl rk_s) ?_
    have hgdis := grow_ok (m := (n3)) (n := (z16)) (by omega) (by omega) (by omega)
    have hgC := hgdis.1
    have hgS := hgdis.2
    refine v_growI H (p := 0) (k := 3) (t := 3) (n := z16) rfl (by rfl) rfl rfl (fun _ => rfl) rfl rfl rfl rfl (fun z => vrf (z := (z : Int)) rfl) rfl rfl rfl rfl (by decide +kernel) rfl (m := n3) ((congrArg (fun q : Nat => (q : Int)) (hN18 3 rfl)).trans ((congrArg (fun q : Nat => (q : Int)) (hN17 3 rfl)).trans (en3))) (show n3 < z16 ∧ z16 ≤ 1000000 by omega) (show pC (n3 : Int).toNat + 1 ≤ pC (z16 : Int).toNat by assumption) (show pS (n3 : Int).toNat + z16 ≤ pS (z16 : Int).toNat by assumption) (fun σ D19 N19 F19 A19 H Oₚ hD19 hN19 em19 hS19 pm19 hA19 ga19 => ?_)
    have O := OUT_trans O Oₚ
    have ga19 : ∀ i, 0 ≤ i → i < n3 → A19 3 i = (w3) i := fun i a b => (ga19 i a b).trans (congrFun ((funext (hA18 3 rfl)).trans ((funext (hA17 3 rfl)).trans (ew3))) i)
    have cF19 : SF oz_C3clsl_0 F F19 := SF_trans (cF18) hS19 (any_sub (by decide +kernel))
    have mF19 := SFm_of cF19 oz_C3cls_1
    have cA19 : SA oz_C3clsl_1 A A19 := SA_trans (cA18) hA19 (any_subA (by decide +kernel))
    have mA19 := SAm_of cA19 oz_C3cls_2
    have cD19 : SD oz_C3clsl_1 D D19 := SD_trans (cD18) hD19 (any_subA (by decide +kernel))
    have mD19 := SDm_of cD19 oz_C3cls_2
    have cN19 : SD oz_C3clsl_1 N N19 := SD_trans (cN18) hN19 (any_subA (by decide +kernel))
    have mN19 := SDm_of cN19 oz_C3cls_2
    have pf19_0_1 : F19 0 1 = (D19 1 : Int) := (hS19 0 1 rfl).trans ((pf18_0_1).trans (congrArg (fun q : Nat => (q : Int)) (hD19 1 rfl).symm))
    have pf19_0_2 : F19 0 2 = (D19 2 : Int) := (hS19 0 2 rfl).trans ((pf18_0_2).trans (congrArg (fun q : Nat => (q : Int)) (hD19 2 rfl).symm))
    have pf19_0_3 : F19 0 3 = (D19 3 : Int) := pm19
    have : FDI ((A17 1)) ((A18 2)) ((A19 3)) ((u0_4)) (tot) ((u0_10)) := FDI_congr hfd ga17 ga18 ga19 (by omega) (by omega)
    have r20 : (0 : Int) ≤ z16 ∧ z16 ≤ 1000000 := nleE (H.nle 1 (ltn len_V126_oz_C3cls rfl)) (show (N19 1 : Int) = z16 from (congrArg (fun q : Nat => (q : Int)) (hN19 1 rfl)).trans ((congrArg (fun q : Nat => (q : Int)) (hN18 1 rfl)).trans (em17)))
    exact hc60  _ _ _ _ _ _ _ _  ((rk_o (rfl) rfl rfl).trans (congrArg (fun q : Nat => some (Value.ref q)) (mD19 0 rfl).symm)) (rk_o (rfl) rfl rfl) H O (SD_trans (SD_trans (SD_trans (SD_refl) hD17 (any_subA (by decide +kernel))) hD18 (any_subA (by decide +kernel))) hD19 (any_subA (by decide +kernel))) (SD_trans (SD_trans (SD_trans (SD_refl) hN17 (any_subA (by decide +kernel))) hN18 (any_subA (by decide +kernel))) hN19 (any_subA (by decide +kernel))) (SF_trans (SF_trans (SF_trans (SF_refl) hS17 (any_sub (by decide +kernel))) hS18 (any_sub (by decide +kernel))) hS19 (any_sub (by decide +kernel))) (SA_trans (SA_trans (SA_trans (SA_refl) hA17 (any_subA (by decide +kernel))) hA18 (any_subA (by decide +kernel))) hA19 (any_subA (by decide +kernel))) (pf19_0_1) (pf19_0_2) (pf19_0_3) (z16) ((congrArg (fun q : Nat => (q : Int)) (hN19 1 rfl)).trans ((congrArg (fun q : Nat => (q : Int)) (hN18 1 rfl)).trans (em17))) (z16) ((congrArg (fun q : Nat => (q : Int)) (hN19 2 rfl)).trans (em18)) (z16) (em19)  (A17 1) ((funext (hA19 1 rfl)).trans (funext (hA18 1 rfl))) (A18 2) (funext (hA19 2 rfl)) (A19 3) (rfl) (show (z16) = (z16) ∧ (z16) = (z16) ∧ (z16) ≤ 65536 ∧ ((z16) = 0 ∨ 64 ≤ (z16)) ∧ lgq ((z16)) = 0 by omega) (show (u0_4) < (z16) by omega) (show FDI ((A17 1)) ((A18 2)) ((A19 3)) ((u0_4)) (tot) ((u0_10)) by assumption)
