/-- PackHouse.about: this, this.packCounts, this.readCounts, this.dictionary, this.dictionary.content, this.past -/
theorem C22p {σE : rS} {D N : Nat → Nat} {F : hF} {A : hA} {d c s : Nat} {Q : wQ} (H : HW V22 σE D N F A) {a1 : Int} (pf1 : F 0 13 = (D 1 : Int)) (pf2 : F 0 14 = (D 2 : Int)) (pf3 : F 0 3 = (D 3 : Int)) (pf4 : F 3 0 = (D 4 : Int)) (pf5 : F 0 2 = (D 5 : Int)) (n1 : Int) (en1 : (N 1 : Int) = n1) (n2 : Int) (en2 : (N 2 : Int) = n2) (u0_18 : Int) (eu0_18 : F 0 18 = u0_18) (u3_2 : Int) (eu3_2 : F 3 2 = u3_2) (u4_1 : Int) (eu4_1 : F 4 1 = u4_1) (u5_1 : Int) (eu5_1 : F 5 1 = u5_1) (w1 : Int → Int) (ew1 : A 1 = w1) (w2 : Int → Int) (ew2 : A 2 = w2) (h0 : inr (a1)) (h1 : (n1) = 13) (h2 : (n2) = 5) (h3 : (u4_1) = (u4_1)) (k : ∀ (z : Int) (σ : rS) (F' : hF) (A' : hA), HW V22 σ D N F' A' → OUT (V22).length D N σE c s D N σ c s → SF [] F F' → SA [] A A' → (inr (z)) → (((z) : Int) = abF ((u0_18)) (fun i => ((w1)) (i + 1)) (((w2)) 0, ((w2)) 1, ((w2)) 2, ((w2)) 3, ((w2)) 4) ((u5_1)) ((u4_1)) ((u3_2)) ((a1))) → Q (some (I z)) σ c s) : Ew 22 (d + 0) 0 (rargs 0 [.ref (D 0), I a1]) [] σE c s Q := by
  have O := OUT_refl (n := (V22).length) (D := D) (N := N) (σ := σE) (c := c) (s := s)
  have HE := H
  have r1 : HID ((-2147483648 : Int) ≤ u0_18 ∧ u0_18 ≤ 2147483647) := krg_e (show (-2147483648 : Int) ≤ F 0 18 ∧ F 0 18 ≤ 2147483647 from H.krg 0 18 (by decide)) (show F 0 18 = u0_18 from (eu0_18))
  have r2 : HID ((-2147483648 : Int) ≤ u3_2 ∧ u3_2 ≤ 2147483647) := krg_e (show (-2147483648 : Int) ≤ F 3 2 ∧ F 3 2 ≤ 2147483647 from H.krg 3 2 (by decide)) (show F 3 2 = u3_2 from (eu3_2))
  have r3 : HID ((-2147483648 : Int) ≤ u4_1 ∧ u4_1 ≤ 2147483647) := krg_e (show (-2147483648 : Int) ≤ F 4 1 ∧ F 4 1 ≤ 2147483647 from H.krg 4 1 (by decide)) (show F 4 1 = u4_1 from (eu4_1))
  have r4 : HID ((-2147483648 : Int) ≤ u5_1 ∧ u5_1 ≤ 2147483647) := krg_e (show (-2147483648 : Int) ≤ F 5 1 ∧ F 5 1 ≤ 2147483647 from H.krg 5 1 (by decide)) (show F 5 1 = u5_1 from (eu5_1))
  replace pf1 := HIDm pf1
  replace pf2 := HIDm pf2
  replace pf3 := HIDm pf3
  replace pf4 := HIDm pf4
  replace pf5 := HIDm pf5
  replace en1 := HIDm en1
  replace en2 := HIDm en2
  replace eu0_18 := HIDm eu0_18
  replace eu3_2 := HIDm eu3_2
  replace eu4_1 := HIDm eu4_1
  replace eu5_1 := HIDm eu5_1
  have r5 : HID ((0 : Int) ≤ n1 ∧ n1 ≤ 1000000) := nrng (H.nle 1 (by decide)) (show (N 1 : Int) = n1 from en1)
  have r6 : HID ((0 : Int) ≤ n2 ∧ n2 ≤ 1000000) := nrng (H.nle 2 (by decide)) (show (N 2 : Int) = n2 from en2)
  refine Ew_of (pc' := 1) (fun _ => x_iload_n rfl rfl) ?_
  refine w_ifne (t := 9) rfl rfl (show inr (a1) by omega) (fun b7 => ?_) (fun b7 => ?_)
  · refine Ew_of (pc' := 10) (fun _ => x_iload_n rfl rfl) ?_
    refine Ew_of (pc' := 11) (fun _ => x_iconst rfl) ?_
    have hc27 : ∀ (ls : rO) (σ : rS) (F_c27 : hF) (A_c27 : hA) , rlook ls 0 = some (.ref (D 0)) → rlook ls 1 = some (I (a1)) → HW V22 σ D N F_c27 A_c27 → OUT (V22).length D N σE c s D N σ c s → SF [] F F_c27 → SA [] A A_c27 → (((a1) < (1)) ∨ ((a1) ≥ (1) ∧ (a1) > (12))) → Ew 22 (d + 0) 27 ls [] σ c s Q := by
     as_aux_lemma =>
      intro  ls σ F_c27 A_c27  lc27_0 lc27_1 H O hS_c27 hA_c27     jc27_0
      refine Ew_of (pc' := 28) (fun _ => x_iload_n rfl lc27_1) ?_
      refine Ew_of (pc' := 30) (fun _ => x_bipush (z := 13) rfl (by decide)) ?_
      have hc49 : ∀ (ls : rO) (σ : rS) (F_c49 : hF) (A_c49 : hA) , rlook ls 0 = some (.ref (D 0)) → rlook ls 1 = some (I (a1)) → HW V22 σ D N F_c49 A_c49 → OUT (V22).length D N σE c s D N σ c s → SF [] F_c27 F_c49 → SA [] A_c27 A_c49 → (((a1) < (13)) ∨ ((a1) ≥ (13) ∧ (a1) > (17))) → Ew 22 (d + 0) 49 ls [] σ c s Q := by
       as_aux_lemma =>
        intro  ls σ F_c49 A_c49  lc49_0 lc49_1 H O hS_c49 hA_c49     jc49_0
        refine Ew_of (pc' := 50) (fun _ => x_iload_n rfl lc49_1) ?_
        by_cases b8 : a1 = 18
        · refine w_tsk 0 76 rfl (show inr (a1) by omega) (by omega) (by decide) rfl rfl ?_
          refine Ew_of (pc' := 77) (fun _ => x_aload_n rfl lc49_0) ?_
          refine v_g H (o := 0) (v := .ref (D 5)) rfl rfl rfl rfl rfl (vrf ((((hS_c49 0 2 rfl).trans (hS_c27 0 2 rfl))).trans (pf5))) ?_
          refine v_g H (o := 5) (v := I (u5_1)) rfl rfl rfl rfl rfl (congrArg (fun z : Int => I z) ((((hS_c49 5 1 rfl).trans (hS_c27 5 1 rfl)).trans (eu5_1)) : F_c49 5 1 = u5_1)) ?_
          have : ((u5_1) : Int) = abF ((u0_18)) (fun i => ((w1)) (i + 1)) (((w2)) 0, ((w2)) 1, ((w2)) 2, ((w2)) 3, ((w2)) 4) ((u5_1)) ((u4_1)) ((u3_2)) ((a1)) := ab_18 (by (have qg0 := HIDe r1; have qg1 := HIDe r2; have qg2 := HIDe r3; have qg3 := HIDe r4; omega)) rfl
          exact w_ireturn rfl (k (u5_1) _ _ _ H O (SF_trans (SF_trans (SF_refl) hS_c27 (any_sub rfl)) hS_c49 (any_sub rfl)) (SA_trans (SA_trans (SA_refl) hA_c27 (any_subA rfl)) hA_c49 (any_subA rfl)) (show inr (u5_1) by have qh0 := HIDe r4; omega) (by assumption))
        ·
          by_cases b9 : a1 = 19
          · refine w_tsk 1 84 rfl (show inr (a1) by omega) (by omega) (by decide) rfl rfl ?_
            refine Ew_of (pc' := 85) (fun _ => x_aload_n rfl lc49_0) ?_
            refine v_g H (o := 0) (v := .ref (D 3)) rfl rfl rfl rfl rfl (vrf ((((hS_c49 0 3 rfl).trans (hS_c27 0 3 rfl))).trans (pf3))) ?_
            refine v_g H (o := 3) (v := .ref (D 4)) rfl rfl rfl rfl rfl (vrf ((((hS_c49 3 0 rfl).trans (hS_c27 3 0 rfl))).trans (pf4))) ?_
            refine v_g H (o := 4) (v := I (u4_1)) rfl rfl rfl rfl rfl (congrArg (fun z : Int => I z) ((((hS_c49 4 1 rfl).trans (hS_c27 4 1 rfl)).trans (eu4_1)) : F_c49 4 1 = u4_1)) ?_
            have : ((u4_1) : Int) = abF ((u0_18)) (fun i => ((w1)) (i + 1)) (((w2)) 0, ((w2)) 1, ((w2)) 2, ((w2)) 3, ((w2)) 4) ((u5_1)) ((u4_1)) ((u3_2)) ((a1)) := ab_19 (by (have qg0 := HIDe r1; have qg1 := HIDe r2; have qg2 := HIDe r3; have qg3 := HIDe r4; omega)) rfl
            exact w_ireturn rfl (k (u4_1) _ _ _ H O (SF_trans (SF_trans (SF_refl) hS_c27 (any_sub rfl)) hS_c49 (any_sub rfl)) (SA_trans (SA_trans (SA_refl) hA_c27 (any_subA rfl)) hA_c49 (any_subA rfl)) (show inr (u4_1) by have qh0 := HIDe r3; omega) (by assumption))
          ·
            by_cases b10 : a1 = 20
            · refine w_tsk 2 95 rfl (show inr (a1) by omega) (by omega) (by decide) rfl rfl ?_
              refine Ew_of (pc' := 96) (fun _ => x_aload_n rfl lc49_0) ?_
              refine v_g H (o := 0) (v := .ref (D 3)) rfl rfl rfl rfl rfl (vrf ((((hS_c49 0 3 rfl).trans (hS_c27 0 3 rfl))).trans (pf3))) ?_
              refine v_g H (o := 3) (v := I (u3_2)) rfl rfl rfl rfl rfl (congrArg (fun z : Int => I z) ((((hS_c49 3 2 rfl).trans (hS_c27 3 2 rfl)).trans (eu3_2)) : F_c49 3 2 = u3_2)) ?_
              have : ((u3_2) : Int) = abF ((u0_18)) (fun i => ((w1)) (i + 1)) (((w2)) 0, ((w2)) 1, ((w2)) 2, ((w2)) 3, ((w2)) 4) ((u5_1)) ((u4_1)) ((u3_2)) ((a1)) := ab_20 (by (have qg0 := HIDe r1; have qg1 := HIDe r2; have qg2 := HIDe r3; have qg3 := HIDe r4; omega)) rfl
              exact w_ireturn rfl (k (u3_2) _ _ _ H O (SF_trans (SF_trans (SF_refl) hS_c27 (any_sub rfl)) hS_c49 (any_sub rfl)) (SA_trans (SA_trans (SA_refl) hA_c27 (any_subA rfl)) hA_c49 (any_subA rfl)) (show inr (u3_2) by have qh0 := HIDe r2; omega) (by assumption))
            ·
              refine w_tsd 103 rfl (show inr (a1) by omega) (by omega) rfl ?_
              refine Ew_of (pc' := 104) (fun _ => x_iconst rfl) ?_
              have : (((-1)) : Int) = abF ((u0_18)) (fun i => ((w1)) (i + 1)) (((w2)) 0, ((w2)) 1, ((w2)) 2, ((w2)) 3, ((w2)) 4) ((u5_1)) ((u4_1)) ((u3_2)) ((a1)) := ab_n (by (have qg0 := HIDe r1; have qg1 := HIDe r2; have qg2 := HIDe r3; have qg3 := HIDe r4; omega)) rfl
              exact w_ireturn rfl (k ((-1)) _ _ _ H O (SF_trans (SF_trans (SF_refl) hS_c27 (any_sub rfl)) hS_c49 (any_sub rfl)) (SA_trans (SA_trans (SA_refl) hA_c27 (any_subA rfl)) hA_c49 (any_subA rfl)) (show inr ((-1)) by omega) (by assumption))
      refine w_icmplt (t := 49) rfl rfl (show inr (a1) by omega) (show inr (13) by omega) (fun b11 => ?_) (fun b11 => ?_)
      · exact hc49  _ _ _ _  (lc27_0) (lc27_1) H O (SF_refl) (SA_refl)     (show ((a1) < (13)) ∨ ((a1) ≥ (13) ∧ (a1) > (17)) by omega)
      · refine Ew_of (pc' := 34) (fun _ => x_iload_n rfl lc27_1) ?_
        refine Ew_of (pc' := 36) (fun _ => x_bipush (z := 17) rfl (by decide)) ?_
        refine w_icmpgt (t := 49) rfl rfl (show inr (a1) by omega) (show inr (17) by omega) (fun b12 => ?_) (fun b12 => ?_)
        · exact hc49  _ _ _ _  (lc27_0) (lc27_1) H O (SF_refl) (SA_refl)     (show ((a1) < (13)) ∨ ((a1) ≥ (13) ∧ (a1) > (17)) by omega)
        · refine Ew_of (pc' := 40) (fun _ => x_aload_n rfl lc27_0) ?_
          refine v_g H (o := 0) (v := .ref (D 2)) rfl rfl rfl rfl rfl (vrf (((hS_c27 0 14 rfl)).trans (pf2))) ?_
          refine Ew_of (pc' := 44) (fun _ => x_iload_n rfl lc27_1) ?_
          refine Ew_of (pc' := 46) (fun _ => x_bipush (z := 13) rfl (by decide)) ?_
          refine w_isub rfl ?_
          refine v_lI H (o := 2) rfl rfl rfl rfl (n := n2) (en2) (show 0 ≤ (a1 - 13) ∧ (a1 - 13) < n2 by have qh0 := HIDe r6; omega) (fun v13 ev13 qv13 => ?_)
          replace qv13 := HIDm qv13
          have ev13 : (w2) ((a1 - 13)) = v13 := (congrFun ((funext (hA_c27 2 rfl)).trans (ew2)) ((a1 - 13))).symm.trans ev13
          have hc := ev13
          have : ((v13) : Int) = abF ((u0_18)) (fun i => ((w1)) (i + 1)) (((w2)) 0, ((w2)) 1, ((w2)) 2, ((w2)) 3, ((w2)) 4) ((u5_1)) ((u4_1)) ((u3_2)) ((a1)) := ab_k (by (have qg0 := HIDe qv13; have qg1 := HIDe r1; have qg2 := HIDe r2; have qg3 := HIDe r3; have qg4 := HIDe r4; omega)) (by rcases (show (a1) = 13 ∨ (a1) = 14 ∨ (a1) = 15 ∨ (a1) = 16 ∨ (a1) = 17 by (have qg0 := HIDe qv13; have qg1 := HIDe r1; have qg2 := HIDe r2; have qg3 := HIDe r3; have qg4 := HIDe r4; omega)) with e | e | e | e | e; (exact .inl ⟨by (have qg0 := HIDe qv13; have qg1 := HIDe r1; have qg2 := HIDe r2; have qg3 := HIDe r3; have qg4 := HIDe r4; omega), by rw [← hc, e]; rfl⟩); (exact .inr (.inl ⟨by (have qg0 := HIDe qv13; have qg1 := HIDe r1; have qg2 := HIDe r2; have qg3 := HIDe r3; have qg4 := HIDe r4; omega), by rw [← hc, e]; rfl⟩)); (exact .inr (.inr (.inl ⟨by (have qg0 := HIDe qv13; have qg1 := HIDe r1; have qg2 := HIDe r2; have qg3 := HIDe r3; have qg4 := HIDe r4; omega), by rw [← hc, e]; rfl⟩))); (exact .inr (.inr (.inr (.inl ⟨by (have qg0 := HIDe qv13; have qg1 := HIDe r1; have qg2 := HIDe r2; have qg3 := HIDe r3; have qg4 := HIDe r4; omega), by rw [← hc, e]; rfl⟩)))); (exact .inr (.inr (.inr (.inr ⟨by (have qg0 := HIDe qv13; have qg1 := HIDe r1; have qg2 := HIDe r2; have qg3 := HIDe r3; have qg4 := HIDe r4; omega), by rw [← hc, e]; rfl⟩)))))
          exact w_ireturn rfl (k (v13) _ _ _ H O (SF_trans (SF_refl) hS_c27 (any_sub rfl)) (SA_trans (SA_refl) hA_c27 (any_subA rfl)) (show inr (v13) by have qh0 := HIDe qv13; omega) (by assumption))
    refine w_icmplt (t := 27) rfl rfl (show inr (a1) by omega) (show inr (1) by omega) (fun b14 => ?_) (fun b14 => ?_)
    · exact hc27  _ _ _ _  (rfl) (rfl) H O (SF_refl) (SA_refl)     (show ((a1) < (1)) ∨ ((a1) ≥ (1) ∧ (a1) > (12)) by omega)
    · refine Ew_of (pc' := 15) (fun _ => x_iload_n rfl rfl) ?_
      refine Ew_of (pc' := 17) (fun _ => x_bipush (z := 12) rfl (by decide)) ?_
      refine w_icmpgt (t := 27) rfl rfl (show inr (a1) by omega) (show inr (12) by omega) (fun b15 => ?_) (fun b15 => ?_)
      · exact hc27  _ _ _ _  (rfl) (rfl) H O (SF_refl) (SA_refl)     (show ((a1) < (1)) ∨ ((a1) ≥ (1) ∧ (a1) > (12)) by omega)
      · refine Ew_of (pc' := 21) (fun _ => x_aload_n rfl rfl) ?_
        refine v_g H (o := 0) (v := .ref (D 1)) rfl rfl rfl rfl rfl (vrf (pf1)) ?_
        refine Ew_of (pc' := 25) (fun _ => x_iload_n rfl rfl) ?_
        refine v_lI H (o := 1) rfl rfl rfl rfl (n := n1) (en1) (show 0 ≤ a1 ∧ a1 < n1 by have qh0 := HIDe r5; omega) (fun v16 ev16 qv16 => ?_)
        replace qv16 := HIDm qv16
        have ev16 : (w1) (a1) = v16 := (congrFun (ew1) (a1)).symm.trans ev16
        have : ((v16) : Int) = abF ((u0_18)) (fun i => ((w1)) (i + 1)) (((w2)) 0, ((w2)) 1, ((w2)) 2, ((w2)) 3, ((w2)) 4) ((u5_1)) ((u4_1)) ((u3_2)) ((a1)) := ab_s (by (have qg0 := HIDe qv16; have qg1 := HIDe r1; have qg2 := HIDe r2; have qg3 := HIDe r3; have qg4 := HIDe r4; omega)) (by show ((w1)) ((a1) - 1 + 1) = (v16); rw [show (a1) - 1 + 1 = (a1) by (have qg0 := HIDe qv16; have qg1 := HIDe r1; have qg2 := HIDe r2; have qg3 := HIDe r3; have qg4 := HIDe r4; omega)]; exact ev16)
        exact w_ireturn rfl (k (v16) _ _ _ H O (SF_refl) (SA_refl) (show inr (v16) by have qh0 := HIDe qv16; omega) (by assumption))
  · refine Ew_of (pc' := 5) (fun _ => x_aload_n rfl rfl) ?_
    refine v_g H (o := 0) (v := I (u0_18)) rfl rfl rfl rfl rfl (congrArg (fun z : Int => I z) ((eu0_18) : F 0 18 = u0_18)) ?_
    have : ((u0_18) : Int) = abF ((u0_18)) (fun i => ((w1)) (i + 1)) (((w2)) 0, ((w2)) 1, ((w2)) 2, ((w2)) 3, ((w2)) 4) ((u5_1)) ((u4_1)) ((u3_2)) ((a1)) := ab_0 (by (have qg0 := HIDe r1; have qg1 := HIDe r2; have qg2 := HIDe r3; have qg3 := HIDe r4; omega)) rfl
    exact w_ireturn rfl (k (u0_18) _ _ _ H O (SF_refl) (SA_refl) (show inr (u0_18) by have qh0 := HIDe r1; omega) (by assumption))
/-- PackHouse.strayed: this, this.strays -/
theorem C23p {σE : rS} {D N : Nat → Nat} {F : hF} {A : hA} {d c s : Nat} {Q : wQ} (H : HW V23 σE D N F A) {a1 : Int} (pf1 : F 0 16 = (D 1 : Int)) (n1 : Int) (en1 : (N 1 : Int) = n1) (w1 : Int → Int) (ew1 : A 1 = w1) (h0 : inr (a1)) (h1 : (n1) = 2) (k : ∀ (z : Int) (σ : rS) (F' : hF) (A' : hA), HW V23 σ D N F' A' → OUT (V23).length D N σE c s D N σ c s → SF [] F F' → SA [] A A' → (inr (z)) → (((a1) = 0 ∧ (z) = ((w1)) 0 ∨ (a1) = 1 ∧ (z) = ((w1)) 1 ∨ (a1) ≠ 0 ∧ (a1) ≠ 1 ∧ (z) = -1)) → Q (some (I z)) σ c s) : Ew 23 (d + 0) 0 (rargs 0 [.ref (D 0), I a1]) [] σE c s Q := by
  have O := OUT_refl (n := (V23).length) (D := D) (N := N) (σ := σE) (c := c) (s := s)
  have HE := H
  replace pf1 := HIDm pf1
  replace en1 := HIDm en1
  have r1 : HID ((0 : Int) ≤ n1 ∧ n1 ≤ 1000000) := nrng (H.nle 1 (by decide)) (show (N 1 : Int) = n1 from en1)
  refine Ew_of (pc' := 1) (fun _ => x_iload_n rfl rfl) ?_
  refine w_ifeq (t := 9) rfl rfl (show inr (a1) by omega) (fun b2 => ?_) (fun b2 => ?_)
  · refine Ew_of (pc' := 10) (fun _ => x_aload_n rfl rfl) ?_
    refine v_g H (o := 0) (v := .ref (D 1)) rfl rfl rfl rfl rfl (vrf (pf1)) ?_
    refine Ew_of (pc' := 14) (fun _ => x_iload_n rfl rfl) ?_
    refine v_lI H (o := 1) rfl rfl rfl rfl (n := n1) (en1) (show 0 ≤ a1 ∧ a1 < n1 by have qh0 := HIDe r1; omega) (fun v3 ev3 qv3 => ?_)
    replace qv3 := HIDm qv3
    have ev3 : (w1) (a1) = v3 := (congrFun (ew1) (a1)).symm.trans ev3
    have hst := ev3
    refine Ew_of (pc' := 19) (fun _ => x_goto rfl rfl) ?_
    have : ((a1) = 0 ∧ ((v3) : Int) = ((w1)) 0 ∨ (a1) = 1 ∧ ((v3) : Int) = ((w1)) 1 ∨ (a1) ≠ 0 ∧ (a1) ≠ 1 ∧ ((v3) : Int) = -1) := by first | exact .inr (.inr ⟨by (have qg0 := HIDe qv3; omega), by (have qg0 := HIDe qv3; omega), rfl⟩) | exact .inl ⟨by (have qg0 := HIDe qv3; omega), by rw [← hst, show (a1) = 0 by (have qg0 := HIDe qv3; omega)]⟩ | exact .inr (.inl ⟨by (have qg0 := HIDe qv3; omega), by rw [← hst, show (a1) = 1 by (have qg0 := HIDe qv3; omega)]⟩)
    exact w_ireturn rfl (k (v3) _ _ _ H O (SF_refl) (SA_refl) (show inr (v3) by have qh0 := HIDe qv3; omega) (by assumption))
  · refine Ew_of (pc' := 5) (fun _ => x_iload_n rfl rfl) ?_
    refine Ew_of (pc' := 6) (fun _ => x_iconst rfl) ?_
    refine w_icmpne (t := 18) rfl rfl (show inr (a1) by omega) (show inr (1) by omega) (fun b4 => ?_) (fun b4 => ?_)
    · refine Ew_of (pc' := 19) (fun _ => x_iconst rfl) ?_
      have : ((a1) = 0 ∧ (((-1)) : Int) = ((w1)) 0 ∨ (a1) = 1 ∧ (((-1)) : Int) = ((w1)) 1 ∨ (a1) ≠ 0 ∧ (a1) ≠ 1 ∧ (((-1)) : Int) = -1) := by first | exact .inr (.inr ⟨by omega, by omega, rfl⟩) | exact .inl ⟨by omega, by rw [← hst, show (a1) = 0 by omega]⟩ | exact .inr (.inl ⟨by omega, by rw [← hst, show (a1) = 1 by omega]⟩)
      exact w_ireturn rfl (k ((-1)) _ _ _ H O (SF_refl) (SA_refl) (show inr ((-1)) by omega) (by assumption))
    · refine Ew_of (pc' := 10) (fun _ => x_aload_n rfl rfl) ?_
      refine v_g H (o := 0) (v := .ref (D 1)) rfl rfl rfl rfl rfl (vrf (pf1)) ?_
      refine Ew_of (pc' := 14) (fun _ => x_iload_n rfl rfl) ?_
      refine v_lI H (o := 1) rfl rfl rfl rfl (n := n1) (en1) (show 0 ≤ a1 ∧ a1 < n1 by have qh0 := HIDe r1; omega) (fun v5 ev5 qv5 => ?_)
      replace qv5 := HIDm qv5
      have ev5 : (w1) (a1) = v5 := (congrFun (ew1) (a1)).symm.trans ev5
      have hst := ev5
      refine Ew_of (pc' := 19) (fun _ => x_goto rfl rfl) ?_
      have : ((a1) = 0 ∧ ((v5) : Int) = ((w1)) 0 ∨ (a1) = 1 ∧ ((v5) : Int) = ((w1)) 1 ∨ (a1) ≠ 0 ∧ (a1) ≠ 1 ∧ ((v5) : Int) = -1) := by first | exact .inr (.inr ⟨by (have qg0 := HIDe qv5; omega), by (have qg0 := HIDe qv5; omega), rfl⟩) | exact .inl ⟨by (have qg0 := HIDe qv5; omega), by rw [← hst, show (a1) = 0 by (have qg0 := HIDe qv5; omega)]⟩ | exact .inr (.inl ⟨by (have qg0 := HIDe qv5; omega), by rw [← hst, show (a1) = 1 by (have qg0 := HIDe qv5; omega)]⟩)
      exact w_ireturn rfl (k (v5) _ _ _ H O (SF_refl) (SA_refl) (show inr (v5) by have qh0 := HIDe qv5; omega) (by assumption))
