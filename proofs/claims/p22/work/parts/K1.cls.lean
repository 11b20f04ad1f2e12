abbrev V146_c10 : vV := [(0, 6, [(4, 0), (4, 0), (4, 0), (4, 0), (4, 0), (4, 0), (4, 0), (4, 0), (4, 0), (4, 0), (4, 0), (4, 0), (4, 0), (4, 0), (4, 0), (0, 0), (0, 0), (4, 0), (4, 0)]), (1, 1, []), (1, 7, []), (0, 5, [(4, 0), (4, 0), (4, 0), (4, 0), (0, 0), (0, 0), (0, 0), (4, 0), (4, 0), (0, 0), (0, 0), (0, 0), (0, 0), (0, 0), (0, 0), (0, 0), (0, 0), (0, 0), (0, 0)]), (1, 1, [])]
theorem len_V146_c10_oz_K1cls : (V146_c10).length = 5 := by decide +kernel
def oz_K1clsl_0 : List Nat := [1]
theorem oz_K1cls_1 : (oz_K1clsl_0).all (fun p => !tbz 2 p) = true := by decide +kernel
def oz_K1clsl_1 : List (Nat × Nat) := []
theorem oz_K1cls_2 : (oz_K1clsl_1).all (fun p => !tbz 0 (Nat.add (Nat.mul 32 p.1) p.2)) = true := by decide +kernel
/-- Packer.countSymbols: this, this.symbolCounts, this.symbols, this.finder, this.symbols.0 -/
theorem C146_c10 {σE : rS} {D N : Nat → Nat} {F : hF} {A : hA} {d c s : Nat} {Q : wQ} (H : HW V146_c10 σE D N F A)  (pf1 : HID (F 0 12 = (D 1 : Int))) (pf2 : HID (F 0 13 = (D 2 : Int))) (pf3 : HID (F 0 1 = (D 3 : Int))) (pf4 : HID (A 2 0 = (D 4 : Int))) (n1 : Int) (en1 : HID ((N 1 : Int) = n1)) (n2 : Int) (en2 : HID ((N 2 : Int) = n2)) (n4 : Int) (en4 : HID ((N 4 : Int) = n4)) (u3_4 : Int) (eu3_4 : HID (F 3 4 = u3_4)) (w1 : Int → Int) (ew1 : A 1 = w1) (w4 : Int → Int) (ew4 : A 4 = w4) (h0 : inr (0)) (h1 : (n1) = 53 ∧ (n2) = 3) (h2 : 0 ≤ (u3_4) ∧ (u3_4) ≤ (n4) ∧ (n4) ≤ 65536) (h3 : RNG ((w4)) ((u3_4)) 36) (k : ∀ (z : Int) (σ : rS) (Fₚ : hF) (Aₚ : hA), HW V146_c10 σ D N Fₚ Aₚ → OUT (V146_c10).length D N σE c s D N σ c s → SF [] F Fₚ → SA [1] A Aₚ → ∀ v1 : Int → Int, Aₚ 1 = v1 → (inr (z)) → (CTN ((w4)) ((v1)) ((u3_4)) 53) → ((z) = su (fun i => pos1 (((v1)) i)) 53) → (0 ≤ (z) ∧ (z) ≤ 53) → Q (some (I z)) σ c s) : Ew 146 (d + 1) 0 (rargs 0 [.ref (D 0), I 0]) [] σE c s Q := by
  have O := OUT_refl (n := (V146_c10).length) (D := D) (N := N) (σ := σE) (c := c) (s := s)
  have HE := H
  have r1 : HID ((-2147483648 : Int) ≤ u3_4 ∧ u3_4 ≤ 2147483647) := krg_e (show (-2147483648 : Int) ≤ F 3 4 ∧ F 3 4 ≤ 2147483647 from H.krg 3 4 (ltn len_V146_c10_oz_K1cls rfl)) (show F 3 4 = u3_4 from (eu3_4))
  have r2 : HID ((0 : Int) ≤ n1 ∧ n1 ≤ 1000000) := nrng (H.nle 1 (ltn len_V146_c10_oz_K1cls rfl)) (show (N 1 : Int) = n1 from en1)
  have r3 : HID ((0 : Int) ≤ n2 ∧ n2 ≤ 1000000) := nrng (H.nle 2 (ltn len_V146_c10_oz_K1cls rfl)) (show (N 2 : Int) = n2 from en2)
  have hrg : RNG ((w4)) ((u3_4)) 36 := h3
  refine Ew_of (pcₚ := 1) (fun _ => x_aload_n rfl rfl) ?_
  refine v_g H (o := 0) (v := .ref (D 1)) rfl rfl rfl rfl rfl (vrf (pf1)) ?_
  refine Ew_of (pcₚ := 5) (fun _ => x_iconst rfl) ?_
  refine v_fil H (t := 1) (v := 0) rfl rfl rfl rfl rfl (show inr (0) from h0) (fun σ A5 H Oₚ hA5 ga5 => ?_)
  have O := OUT_trans O Oₚ
  have cA5 : SA oz_K1clsl_0 A A5 := SA_trans (SA_refl) hA5 (any_subA (by decide +kernel))
  have mA5 := SAm_of cA5 oz_K1cls_1
  refine Ew_of (pcₚ := 9) (fun _ => x_iconst rfl) ?_
  refine Ew_of (pcₚ := 10) (fun _ => x_istore_n rfl) ?_
  refine Ew_of (pcₚ := 11) (fun _ => x_iconst rfl) ?_
  refine Ew_of (pcₚ := 12) (fun _ => x_istore_n rfl) ?_
  have hc0 : CTN ((w4)) ((A5 1)) (0) 53 := CTN_0 ga5
  have hp0 : (0 : Int) = su (fun i => pos1 (((A5 1)) i)) 53 := CTP_0 ga5
  suffices hl12 : ∀ (m : Nat), ∀ (ls : rO) (σ : rS) (F_12 : hF) (A_12 : hA) (x12_2 : Int) (x12_3 : Int), rlook ls 0 = some (.ref (D 0)) → rlook ls 1 = some (I (0)) → rlook ls 2 = some (I (x12_2)) → rlook ls 3 = some (I (x12_3)) → HW V146_c10 σ D N F_12 A_12 → OUT (V146_c10).length D N σE c s D N σ c s → SF [] F F_12 → SA [1] A5 A_12 → ∀ w12_1 : Int → Int, A_12 1 = w12_1 → (inr (x12_2)) → (inr (x12_3)) → ((0) ≤ (x12_3)) → ((x12_3) ≤ (0) ∨ (x12_3) ≤ ((u3_4))) → (CTN ((w4)) ((w12_1)) ((x12_3)) 53) → ((x12_2) = su (fun i => pos1 (((w12_1)) i)) 53) → (0 ≤ (x12_2) ∧ (x12_2) ≤ (x12_3)) → (((u3_4)) - (x12_3)).toNat = m → Ew 146 (d + 1) 12 ls [] σ c s Q from
    hl12 _ _ _ _ _ (0) (0) (rk_o (rk_o (rfl) rfl rfl) rfl rfl) (rk_o (rk_o (rfl) rfl rfl) rfl rfl) (rk_o (rk_s) rfl rfl) (rk_s) H O (SF_refl) (SA_refl)    (A5 1) (rfl) (show inr (0) from h0) (show inr (0) from h0) (show (0) ≤ (0) from q_25) (show (0) ≤ (0) ∨ (0) ≤ ((u3_4)) from q_24) (show CTN ((w4)) ((A5 1)) ((0)) 53 from hc0) (show (0) = su (fun i => pos1 (((A5 1)) i)) 53 by assumption) (show 0 ≤ (0) ∧ (0) ≤ (0) from q_1200) rfl
  as_aux_lemma =>
  intro m
  induction m using Nat.strongRecOn with
  | _ m ih12 =>
    intro ls σ F_12 A_12 x12_2 x12_3 l12_0 l12_1 l12_2 l12_3 H O hS_12 hA_12    w12_1 ew12_1 j12_0 j12_1 j12_2 j12_3 j12_4 j12_5 j12_6 hm12
    have cF_12 : SF oz_K1clsl_1 F F_12 := SF_trans (SF_refl) hS_12 (any_sub (by decide +kernel))
    have mF_12 := SFm_of cF_12 oz_K1cls_2
    have cA_12 : SA oz_K1clsl_0 A A_12 := SA_trans (cA5) hA_12 (any_subA (by decide +kernel))
    have mA_12 := SAm_of cA_12 oz_K1cls_1
    have hct : CTN ((w4)) ((w12_1)) ((x12_3)) 53 := j12_4
    have hps : (x12_2) = su (fun i => pos1 (((w12_1)) i)) 53 := by assumption
    refine Ew_of (pcₚ := 13) (fun _ => x_iload_n rfl l12_3) ?_
    refine Ew_of (pcₚ := 14) (fun _ => x_aload_n rfl l12_0) ?_
    refine v_g H (o := 0) (v := .ref (D 3)) rfl rfl rfl rfl rfl (vrf ((mF_12 0 1 rfl).trans (pf3))) ?_
    refine v_g H (o := 3) (v := I (u3_4)) rfl rfl rfl rfl rfl (congrArg (fun z : Int => I z) (((mF_12 3 4 rfl).trans (eu3_4)) : F_12 3 4 = u3_4)) ?_
    refine w_icmpge (t := 68) rfl rfl (show inr (x12_3) from j12_1) (show inr (u3_4) from q_884 h2) (fun b6 => ?_) (fun b6 => ?_)
    · have hl3 : (x12_3) = (u3_4) := by (have qg0 := HIDe r1; omega)
      have hct2 : CTN ((w4)) ((w12_1)) ((u3_4)) 53 := by rw [← hl3]; assumption
      have hps2 : (x12_2) = su (fun i => pos1 (((w12_1)) i)) 53 := hps
      have hpl := CTP_le hps2
      refine Ew_of (pcₚ := 69) (fun _ => x_iload_n rfl l12_2) ?_
      exact w_ireturn rfl (k (x12_2) _ _ _ H O (cF_12) (cA_12) (w12_1) (ew12_1) (show inr (x12_2) from j12_0) (show CTN ((w4)) ((w12_1)) ((u3_4)) 53 from hct2) (show (x12_2) = su (fun i => pos1 (((w12_1)) i)) 53 by omega) (show 0 ≤ (x12_2) ∧ (x12_2) ≤ 53 by omega))
    · refine Ew_of (pcₚ := 24) (fun _ => x_aload_n rfl l12_0) ?_
      refine v_g H (o := 0) (v := .ref (D 2)) rfl rfl rfl rfl rfl (vrf ((mF_12 0 13 rfl).trans (pf2))) ?_
      refine Ew_of (pcₚ := 28) (fun _ => x_iload_n rfl l12_1) ?_
      refine v_lR H (o := 2) rfl rfl rfl rfl rfl (n := n2) (en2) (show 0 ≤ 0 ∧ 0 < n2 from q_3942 (HIDe r3) h1) (z := ((D 4 : Nat) : Int)) (v := .ref (D 4)) ((mA_12 2 rfl 0).trans (pf4)) (vrf rfl) ?_
      refine Ew_of (pcₚ := 30) (fun _ => x_iload_n rfl l12_3) ?_
      refine v_lI H (o := 4) rfl rfl rfl rfl (n := n4) (en4) (show 0 ≤ x12_3 ∧ x12_3 < n4 from q_3943 b6 h2 j12_2) (fun v7 ev7 (qv7 : HID _) => ?_)
      have ev7 : (w4) (x12_3) = v7 := (congrFun ((funext (mA_12 4 rfl)).trans (ew4)) (x12_3)).symm.trans ev7
      have hrv := ev7
      have hrr := hrg ((x12_3)) (by omega) (by omega)
      rw [hrv] at hrr
      refine Ew_of (pcₚ := 33) (fun _ => x_istore rfl) ?_
      refine Ew_of (pcₚ := 34) (fun _ => x_iload_n rfl (rk_o (l12_2) rfl rfl)) ?_
      refine Ew_of (pcₚ := 35) (fun _ => x_aload_n rfl (rk_o (l12_0) rfl rfl)) ?_
      refine v_g H (o := 0) (v := .ref (D 1)) rfl rfl rfl rfl rfl (vrf ((mF_12 0 12 rfl).trans (pf1))) ?_
      refine Ew_of (pcₚ := 40) (fun _ => x_iload rfl rk_s) ?_
      refine v_lI H (o := 1) rfl rfl rfl rfl (n := n1) (en1) (show 0 ≤ v7 ∧ v7 < n1 by have qh0 := HIDe qv7; have qh1 := HIDe r2; omega) (fun v8 ev8 (qv8 : HID _) => ?_)
      have ev8 : (w12_1) (v7) = v8 := (congrFun (ew12_1) (v7)).symm.trans ev8
      have hcv := ev8
      have hcl := CTN_le hct (s := (v7)) (by (have qg0 := HIDe qv7; omega)) (by (have qg0 := HIDe qv7; omega)) (by (have qg0 := HIDe qv7; omega))
      rw [hcv] at hcl
      have hc49 : ∀ (tc49_0 : Int), ∀ (ls : rO) (σ : rS) (F_c49 : hF) (A_c49 : hA) , rlook ls 0 = some (.ref (D 0)) → rlook ls 1 = some (I (0)) → rlook ls 3 = some (I (x12_3)) → rlook ls 4 = some (I (v7)) → HW V146_c10 σ D N F_c49 A_c49 → OUT (V146_c10).length D N σE c s D N σ c s → SF [] F_12 F_c49 → SA [] A_12 A_c49 → (inr (tc49_0)) → (((v8) ≠ (0) ∧ (tc49_0) = (0)) ∨ ((v8) = (0) ∧ (tc49_0) = (1))) → Ew 146 (d + 1) 49 ls [I (tc49_0), I (x12_2)] σ c s Q := by
       as_aux_lemma =>
        intro tc49_0 ls σ F_c49 A_c49  lc49_0 lc49_1 lc49_3 lc49_4 H O hS_c49 hA_c49     jc49_0 jc49_1
        have cF_c49 : SF oz_K1clsl_1 F F_c49 := SF_trans (cF_12) hS_c49 (any_sub (by decide +kernel))
        have mF_c49 := SFm_of cF_c49 oz_K1cls_2
        have cA_c49 : SA oz_K1clsl_0 A A_c49 := SA_trans (cA_12) hA_c49 (any_subA (by decide +kernel))
        have mA_c49 := SAm_of cA_c49 oz_K1cls_1
        refine w_iadd rfl ?_
        refine Ew_of (pcₚ := 51) (fun _ => x_istore_n rfl) ?_
        refine Ew_of (pcₚ := 52) (fun _ => x_aload_n rfl (rk_o (lc49_0) rfl rfl)) ?_
        refine v_g H (o := 0) (v := .ref (D 1)) rfl rfl rfl rfl rfl (vrf ((mF_c49 0 12 rfl).trans (pf1))) ?_
        refine Ew_of (pcₚ := 57) (fun _ => x_iload rfl (rk_o (lc49_4) rfl rfl)) ?_
        refine Ew_of (pcₚ := 58) (fun _ => x_dup2 rfl rfl rfl) ?_
        refine v_lI H (o := 1) rfl rfl rfl rfl (n := n1) (en1) (show 0 ≤ v7 ∧ v7 < n1 by have qh0 := HIDe qv7; have qh1 := HIDe r2; omega) (fun v9 ev9 (qv9 : HID _) => ?_)
        have ev9 : (w12_1) (v7) = v9 := (congrFun ((funext (hA_c49 1 rfl)).trans (ew12_1)) (v7)).symm.trans ev9
        have hcw := ev9
        refine Ew_of (pcₚ := 60) (fun _ => x_iconst rfl) ?_
        refine w_iadd rfl ?_
        refine v_sI H (o := 1) (z := (v9 + 1)) rfl rfl rfl rfl (n := n1) (en1) (show 0 ≤ v7 ∧ v7 < n1 by have qh0 := HIDe qv7; have qh1 := HIDe r2; omega) (show inr ((v9 + 1)) by have qh0 := HIDe qv9; omega) (fun σ H Oₚ => ?_)
        have O := OUT_trans O Oₚ
        have cAu10 : SA oz_K1clsl_0 A (updA A_c49 1 (v7) ((v9 + 1))) := SA_upd (cA_c49) rfl
        have mAu10 := SAm_of cAu10 oz_K1cls_1
        refine Ew_of (pcₚ := 65) (fun _ => x_iinc (len := 3) rfl (rk_o (lc49_3) rfl rfl)) ?_
        refine Ew_of (pcₚ := 12) (fun _ => x_goto rfl rfl) ?_
        have hcs : CTN ((w4)) ((upd1 (w12_1) (v7) ((v9 + 1)))) (((x12_3 + 1))) 53 := CTN_s hct (by (have qg0 := HIDe qv7; have qg1 := HIDe qv9; omega)) rfl hrv (by (have qg0 := HIDe qv7; have qg1 := HIDe qv9; omega))
        have hpt : ((x12_2 + tc49_0)) = su (fun i => pos1 (((upd1 (w12_1) (v7) ((v9 + 1)))) i)) 53 := CTP_s hps (by (have qg0 := HIDe qv7; have qg1 := HIDe qv9; omega)) (by (have qg0 := HIDe qv7; have qg1 := HIDe qv9; omega)) hcv (by (have qg0 := HIDe qv7; have qg1 := HIDe qv9; omega)) (by (have qg0 := HIDe qv7; have qg1 := HIDe qv9; omega)) (by (have qg0 := HIDe qv7; have qg1 := HIDe qv9; omega))
        exact ih12 _ (msE hm12 q_31 (q_34 b6)) _ _ _ _ ((x12_2 + tc49_0)) ((x12_3 + 1)) (rk_o (rk_o (lc49_0) rfl rfl) rfl rfl) (rk_o (rk_o (lc49_1) rfl rfl) rfl rfl) (rk_o (rk_s) rfl rfl) (rk_s) H O (SF_trans (hS_12) hS_c49 (any_sub (by decide +kernel))) (SA_upd (SA_trans (hA_12) hA_c49 (any_subA (by decide +kernel))) rfl)    (upd1 (w12_1) (v7) ((v9 + 1))) (congrArg (fun q => upd1 q (v7) ((v9 + 1))) ((funext (hA_c49 1 rfl)).trans (ew12_1))) (show inr ((x12_2 + tc49_0)) from q_3946 b6 h2 j12_0 j12_6 jc49_0 jc49_1) (show inr ((x12_3 + 1)) from q_3945 b6 h2 j12_2) (show (0) ≤ ((x12_3 + 1)) from q_29 j12_2) (show ((x12_3 + 1)) ≤ (0) ∨ ((x12_3 + 1)) ≤ ((u3_4)) from q_33 b6) (show CTN ((w4)) ((upd1 (w12_1) (v7) ((v9 + 1)))) (((x12_3 + 1))) 53 from hcs) (show ((x12_2 + tc49_0)) = su (fun i => pos1 (((upd1 (w12_1) (v7) ((v9 + 1)))) i)) 53 from hpt) (show 0 ≤ ((x12_2 + tc49_0)) ∧ ((x12_2 + tc49_0)) ≤ ((x12_3 + 1)) from q_3944 j12_6 jc49_1) rfl
      refine w_ifne (t := 48) rfl rfl (show inr (v8) from (HIDe qv8)) (fun b11 => ?_) (fun b11 => ?_)
      · refine Ew_of (pcₚ := 49) (fun _ => x_iconst rfl) ?_
        exact hc49 (0) _ _ _ _  (rk_o (l12_0) rfl rfl) (rk_o (l12_1) rfl rfl) (rk_o (l12_3) rfl rfl) (rk_s) H O (SF_refl) (SA_refl)     (show inr (0) from h0) (show ((v8) ≠ (0) ∧ (0) = (0)) ∨ ((v8) = (0) ∧ (0) = (1)) from q_1808 b11)
      · refine Ew_of (pcₚ := 45) (fun _ => x_iconst rfl) ?_
        refine Ew_of (pcₚ := 49) (fun _ => x_goto rfl rfl) ?_
        exact hc49 (1) _ _ _ _  (rk_o (l12_0) rfl rfl) (rk_o (l12_1) rfl rfl) (rk_o (l12_3) rfl rfl) (rk_s) H O (SF_refl) (SA_refl)     (show inr (1) from q_23) (show ((v8) ≠ (0) ∧ (1) = (0)) ∨ ((v8) = (0) ∧ (1) = (1)) from q_1809 b11)
abbrev V146_c11 : vV := [(0, 6, [(4, 0), (4, 0), (4, 0), (4, 0), (4, 0), (4, 0), (4, 0), (4, 0), (4, 0), (4, 0), (4, 0), (4, 0), (4, 0), (4, 0), (4, 0), (0, 0), (0, 0), (4, 0), (4, 0)]), (1, 1, []), (1, 7, []), (0, 5, [(4, 0), (4, 0), (4, 0), (4, 0), (0, 0), (0, 0), (0, 0), (4, 0), (4, 0), (0, 0), (0, 0), (0, 0), (0, 0), (0, 0), (0, 0), (0, 0), (0, 0), (0, 0), (0, 0)]), (1, 1, [])]
theorem len_V146_c11_oz_K1cls : (V146_c11).length = 5 := by decide +kernel
/-- Packer.countSymbols: this, this.symbolCounts, this.symbols, this.finder, this.symbols.1 -/
theorem C146_c11 {σE : rS} {D N : Nat → Nat} {F : hF} {A : hA} {d c s : Nat} {Q : wQ} (H : HW V146_c11 σE D N F A)  (pf1 : HID (F 0 12 = (D 1 : Int))) (pf2 : HID (F 0 13 = (D 2 : Int))) (pf3 : HID (F 0 1 = (D 3 : Int))) (pf4 : HID (A 2 1 = (D 4 : Int))) (n1 : Int) (en1 : HID ((N 1 : Int) = n1)) (n2 : Int) (en2 : HID ((N 2 : Int) = n2)) (n4 : Int) (en4 : HID ((N 4 : Int) = n4)) (u3_4 : Int) (eu3_4 : HID (F 3 4 = u3_4)) (w1 : Int → Int) (ew1 : A 1 = w1) (w4 : Int → Int) (ew4 : A 4 = w4) (h0 : inr (1)) (h1 : (n1) = 53 ∧ (n2) = 3) (h2 : 0 ≤ (u3_4) ∧ (u3_4) ≤ (n4) ∧ (n4) ≤ 65536) (h3 : RNG ((w4)) ((u3_4)) 32) (k : ∀ (z : Int) (σ : rS) (Fₚ : hF) (Aₚ : hA), HW V146_c11 σ D N Fₚ Aₚ → OUT (V146_c11).length D N σE c s D N σ c s → SF [] F Fₚ → SA [1] A Aₚ → ∀ v1 : Int → Int, Aₚ 1 = v1 → (inr (z)) → (CTN ((w4)) ((v1)) ((u3_4)) 53) → ((z) = su (fun i => pos1 (((v1)) i)) 53) → (0 ≤ (z) ∧ (z) ≤ 53) → Q (some (I z)) σ c s) : Ew 146 (d + 1) 0 (rargs 0 [.ref (D 0), I 1]) [] σE c s Q := by
  have O := OUT_refl (n := (V146_c11).length) (D := D) (N := N) (σ := σE) (c := c) (s := s)
  have HE := H
  have r1 : HID ((-2147483648 : Int) ≤ u3_4 ∧ u3_4 ≤ 2147483647) := krg_e (show (-2147483648 : Int) ≤ F 3 4 ∧ F 3 4 ≤ 2147483647 from H.krg 3 4 (ltn len_V146_c11_oz_K1cls rfl)) (show F 3 4 = u3_4 from (eu3_4))
  have r2 : HID ((0 : Int) ≤ n1 ∧ n1 ≤ 1000000) := nrng (H.nle 1 (ltn len_V146_c11_oz_K1cls rfl)) (show (N 1 : Int) = n1 from en1)
  have r3 : HID ((0 : Int) ≤ n2 ∧ n2 ≤ 1000000) := nrng (H.nle 2 (ltn len_V146_c11_oz_K1cls rfl)) (show (N 2 : Int) = n2 from en2)
  have hrg : RNG ((w4)) ((u3_4)) 32 := h3
  refine Ew_of (pcₚ := 1) (fun _ => x_aload_n rfl rfl) ?_
  refine v_g H (o := 0) (v := .ref (D 1)) rfl rfl rfl rfl rfl (vrf (pf1)) ?_
  refine Ew_of (pcₚ := 5) (fun _ => x_iconst rfl) ?_
  refine v_fil H (t := 1) (v := 0) rfl rfl rfl rfl rfl (show inr (0) from q_20) (fun σ A5 H Oₚ hA5 ga5 => ?_)
  have O := OUT_trans O Oₚ
  have cA5 : SA oz_K1clsl_0 A A5 := SA_trans (SA_refl) hA5 (any_subA (by decide +kernel))
  have mA5 := SAm_of cA5 oz_K1cls_1
  refine Ew_of (pcₚ := 9) (fun _ => x_iconst rfl) ?_
  refine Ew_of (pcₚ := 10) (fun _ => x_istore_n rfl) ?_
  refine Ew_of (pcₚ := 11) (fun _ => x_iconst rfl) ?_
  refine Ew_of (pcₚ := 12) (fun _ => x_istore_n rfl) ?_
  have hc0 : CTN ((w4)) ((A5 1)) (0) 53 := CTN_0 ga5
  have hp0 : (0 : Int) = su (fun i => pos1 (((A5 1)) i)) 53 := CTP_0 ga5
  suffices hl12 : ∀ (m : Nat), ∀ (ls : rO) (σ : rS) (F_12 : hF) (A_12 : hA) (x12_2 : Int) (x12_3 : Int), rlook ls 0 = some (.ref (D 0)) → rlook ls 1 = some (I (1)) → rlook ls 2 = some (I (x12_2)) → rlook ls 3 = some (I (x12_3)) → HW V146_c11 σ D N F_12 A_12 → OUT (V146_c11).length D N σE c s D N σ c s → SF [] F F_12 → SA [1] A5 A_12 → ∀ w12_1 : Int → Int, A_12 1 = w12_1 → (inr (x12_2)) → (inr (x12_3)) → ((0) ≤ (x12_3)) → ((x12_3) ≤ (0) ∨ (x12_3) ≤ ((u3_4))) → (CTN ((w4)) ((w12_1)) ((x12_3)) 53) → ((x12_2) = su (fun i => pos1 (((w12_1)) i)) 53) → (0 ≤ (x12_2) ∧ (x12_2) ≤ (x12_3)) → (((u3_4)) - (x12_3)).toNat = m → Ew 146 (d + 1) 12 ls [] σ c s Q from
    hl12 _ _ _ _ _ (0) (0) (rk_o (rk_o (rfl) rfl rfl) rfl rfl) (rk_o (rk_o (rfl) rfl rfl) rfl rfl) (rk_o (rk_s) rfl rfl) (rk_s) H O (SF_refl) (SA_refl)    (A5 1) (rfl) (show inr (0) from q_20) (show inr (0) from q_20) (show (0) ≤ (0) from q_25) (show (0) ≤ (0) ∨ (0) ≤ ((u3_4)) from q_24) (show CTN ((w4)) ((A5 1)) ((0)) 53 from hc0) (show (0) = su (fun i => pos1 (((A5 1)) i)) 53 by assumption) (show 0 ≤ (0) ∧ (0) ≤ (0) from q_1200) rfl
  as_aux_lemma =>
  intro m
  induction m using Nat.strongRecOn with
  | _ m ih12 =>
    intro ls σ F_12 A_12 x12_2 x12_3 l12_0 l12_1 l12_2 l12_3 H O hS_12 hA_12    w12_1 ew12_1 j12_0 j12_1 j12_2 j12_3 j12_4 j12_5 j12_6 hm12
    have cF_12 : SF oz_K1clsl_1 F F_12 := SF_trans (SF_refl) hS_12 (any_sub (by decide +kernel))
    have mF_12 := SFm_of cF_12 oz_K1cls_2
    have cA_12 : SA oz_K1clsl_0 A A_12 := SA_trans (cA5) hA_12 (any_subA (by decide +kernel))
    have mA_12 := SAm_of cA_12 oz_K1cls_1
    have hct : CTN ((w4)) ((w12_1)) ((x12_3)) 53 := j12_4
    have hps : (x12_2) = su (fun i => pos1 (((w12_1)) i)) 53 := by assumption
    refine Ew_of (pcₚ := 13) (fun _ => x_iload_n rfl l12_3) ?_
    refine Ew_of (pcₚ := 14) (fun _ => x_aload_n rfl l12_0) ?_
    refine v_g H (o := 0) (v := .ref (D 3)) rfl rfl rfl rfl rfl (vrf ((mF_12 0 1 rfl).trans (pf3))) ?_
    refine v_g H (o := 3) (v := I (u3_4)) rfl rfl rfl rfl rfl (congrArg (fun z : Int => I z) (((mF_12 3 4 rfl).trans (eu3_4)) : F_12 3 4 = u3_4)) ?_
    refine w_icmpge (t := 68) rfl rfl (show inr (x12_3) from j12_1) (show inr (u3_4) from q_884 h2) (fun b6 => ?_) (fun b6 => ?_)
    · have hl3 : (x12_3) = (u3_4) := by (have qg0 := HIDe r1; omega)
      have hct2 : CTN ((w4)) ((w12_1)) ((u3_4)) 53 := by rw [← hl3]; assumption
      have hps2 : (x12_2) = su (fun i => pos1 (((w12_1)) i)) 53 := hps
      have hpl := CTP_le hps2
      refine Ew_of (pcₚ := 69) (fun _ => x_iload_n rfl l12_2) ?_
      exact w_ireturn rfl (k (x12_2) _ _ _ H O (cF_12) (cA_12) (w12_1) (ew12_1) (show inr (x12_2) from j12_0) (show CTN ((w4)) ((w12_1)) ((u3_4)) 53 from hct2) (show (x12_2) = su (fun i => pos1 (((w12_1)) i)) 53 by omega) (show 0 ≤ (x12_2) ∧ (x12_2) ≤ 53 by omega))
    · refine Ew_of (pcₚ := 24) (fun _ => x_aload_n rfl l12_0) ?_
      refine v_g H (o := 0) (v := .ref (D 2)) rfl rfl rfl rfl rfl (vrf ((mF_12 0 13 rfl).trans (pf2))) ?_
      refine Ew_of (pcₚ := 28) (fun _ => x_iload_n rfl l12_1) ?_
      refine v_lR H (o := 2) rfl rfl rfl rfl rfl (n := n2) (en2) (show 0 ≤ 1 ∧ 1 < n2 from q_3947 (HIDe r3) h1) (z := ((D 4 : Nat) : Int)) (v := .ref (D 4)) ((mA_12 2 rfl 1).trans (pf4)) (vrf rfl) ?_
      refine Ew_of (pcₚ := 30) (fun _ => x_iload_n rfl l12_3) ?_
      refine v_lI H (o := 4) rfl rfl rfl rfl (n := n4) (en4) (show 0 ≤ x12_3 ∧ x12_3 < n4 from q_3943 b6 h2 j12_2) (fun v7 ev7 (qv7 : HID _) => ?_)
      have ev7 : (w4) (x12_3) = v7 := (congrFun ((funext (mA_12 4 rfl)).trans (ew4)) (x12_3)).symm.trans ev7
      have hrv := ev7
      have hrr := hrg ((x12_3)) (by omega) (by omega)
      rw [hrv] at hrr
      refine Ew_of (pcₚ := 33) (fun _ => x_istore rfl) ?_
      refine Ew_of (pcₚ := 34) (fun _ => x_iload_n rfl (rk_o (l12_2) rfl rfl)) ?_
      refine Ew_of (pcₚ := 35) (fun _ => x_aload_n rfl (rk_o (l12_0) rfl rfl)) ?_
      refine v_g H (o := 0) (v := .ref (D 1)) rfl rfl rfl rfl rfl (vrf ((mF_12 0 12 rfl).trans (pf1))) ?_
      refine Ew_of (pcₚ := 40) (fun _ => x_iload rfl rk_s) ?_
      refine v_lI H (o := 1) rfl rfl rfl rfl (n := n1) (en1) (show 0 ≤ v7 ∧ v7 < n1 by have qh0 := HIDe qv7; have qh1 := HIDe r2; omega) (fun v8 ev8 (qv8 : HID _) => ?_)
      have ev8 : (w12_1) (v7) = v8 := (congrFun (ew12_1) (v7)).symm.trans ev8
      have hcv := ev8
      have hcl := CTN_le hct (s := (v7)) (by (have qg0 := HIDe qv7; omega)) (by (have qg0 := HIDe qv7; omega)) (by (have qg0 := HIDe qv7; omega))
      rw [hcv] at hcl
      have hc49 : ∀ (tc49_0 : Int), ∀ (ls : rO) (σ : rS) (F_c49 : hF) (A_c49 : hA) , rlook ls 0 = some (.ref (D 0)) → rlook ls 1 = some (I (1)) → rlook ls 3 = some (I (x12_3)) → rlook ls 4 = some (I (v7)) → HW V146_c11 σ D N F_c49 A_c49 → OUT (V146_c11).length D N σE c s D N σ c s → SF [] F_12 F_c49 → SA [] A_12 A_c49 → (inr (tc49_0)) → (((v8) ≠ (0) ∧ (tc49_0) = (0)) ∨ ((v8) = (0) ∧ (tc49_0) = (1))) → Ew 146 (d + 1) 49 ls [I (tc49_0), I (x12_2)] σ c s Q := by
       as_aux_lemma =>
        intro tc49_0 ls σ F_c49 A_c49  lc49_0 lc49_1 lc49_3 lc49_4 H O hS_c49 hA_c49     jc49_0 jc49_1
        have cF_c49 : SF oz_K1clsl_1 F F_c49 := SF_trans (cF_12) hS_c49 (any_sub (by decide +kernel))
        have mF_c49 := SFm_of cF_c49 oz_K1cls_2
        have cA_c49 : SA oz_K1clsl_0 A A_c49 := SA_trans (cA_12) hA_c49 (any_subA (by decide +kernel))
        have mA_c49 := SAm_of cA_c49 oz_K1cls_1
        refine w_iadd rfl ?_
        refine Ew_of (pcₚ := 51) (fun _ => x_istore_n rfl) ?_
        refine Ew_of (pcₚ := 52) (fun _ => x_aload_n rfl (rk_o (lc49_0) rfl rfl)) ?_
        refine v_g H (o := 0) (v := .ref (D 1)) rfl rfl rfl rfl rfl (vrf ((mF_c49 0 12 rfl).trans (pf1))) ?_
        refine Ew_of (pcₚ := 57) (fun _ => x_iload rfl (rk_o (lc49_4) rfl rfl)) ?_
        refine Ew_of (pcₚ := 58) (fun _ => x_dup2 rfl rfl rfl) ?_
        refine v_lI H (o := 1) rfl rfl rfl rfl (n := n1) (en1) (show 0 ≤ v7 ∧ v7 < n1 by have qh0 := HIDe qv7; have qh1 := HIDe r2; omega) (fun v9 ev9 (qv9 : HID _) => ?_)
        have ev9 : (w12_1) (v7) = v9 := (congrFun ((funext (hA_c49 1 rfl)).trans (ew12_1)) (v7)).symm.trans ev9
        have hcw := ev9
        refine Ew_of (pcₚ := 60) (fun _ => x_iconst rfl) ?_
        refine w_iadd rfl ?_
        refine v_sI H (o := 1) (z := (v9 + 1)) rfl rfl rfl rfl (n := n1) (en1) (show 0 ≤ v7 ∧ v7 < n1 by have qh0 := HIDe qv7; have qh1 := HIDe r2; omega) (show inr ((v9 + 1)) by have qh0 := HIDe qv9; omega) (fun σ H Oₚ => ?_)
        have O := OUT_trans O Oₚ
        have cAu10 : SA oz_K1clsl_0 A (updA A_c49 1 (v7) ((v9 + 1))) := SA_upd (cA_c49) rfl
        have mAu10 := SAm_of cAu10 oz_K1cls_1
        refine Ew_of (pcₚ := 65) (fun _ => x_iinc (len := 3) rfl (rk_o (lc49_3) rfl rfl)) ?_
        refine Ew_of (pcₚ := 12) (fun _ => x_goto rfl rfl) ?_
        have hcs : CTN ((w4)) ((upd1 (w12_1) (v7) ((v9 + 1)))) (((x12_3 + 1))) 53 := CTN_s hct (by (have qg0 := HIDe qv7; have qg1 := HIDe qv9; omega)) rfl hrv (by (have qg0 := HIDe qv7; have qg1 := HIDe qv9; omega))
        have hpt : ((x12_2 + tc49_0)) = su (fun i => pos1 (((upd1 (w12_1) (v7) ((v9 + 1)))) i)) 53 := CTP_s hps (by (have qg0 := HIDe qv7; have qg1 := HIDe qv9; omega)) (by (have qg0 := HIDe qv7; have qg1 := HIDe qv9; omega)) hcv (by (have qg0 := HIDe qv7; have qg1 := HIDe qv9; omega)) (by (have qg0 := HIDe qv7; have qg1 := HIDe qv9; omega)) (by (have qg0 := HIDe qv7; have qg1 := HIDe qv9; omega))
        exact ih12 _ (msE hm12 q_31 (q_34 b6)) _ _ _ _ ((x12_2 + tc49_0)) ((x12_3 + 1)) (rk_o (rk_o (lc49_0) rfl rfl) rfl rfl) (rk_o (rk_o (lc49_1) rfl rfl) rfl rfl) (rk_o (rk_s) rfl rfl) (rk_s) H O (SF_trans (hS_12) hS_c49 (any_sub (by decide +kernel))) (SA_upd (SA_trans (hA_12) hA_c49 (any_subA (by decide +kernel))) rfl)    (upd1 (w12_1) (v7) ((v9 + 1))) (congrArg (fun q => upd1 q (v7) ((v9 + 1))) ((funext (hA_c49 1 rfl)).trans (ew12_1))) (show inr ((x12_2 + tc49_0)) from q_3946 b6 h2 j12_0 j12_6 jc49_0 jc49_1) (show inr ((x12_3 + 1)) from q_3945 b6 h2 j12_2) (show (0) ≤ ((x12_3 + 1)) from q_29 j12_2) (show ((x12_3 + 1)) ≤ (0) ∨ ((x12_3 + 1)) ≤ ((u3_4)) from q_33 b6) (show CTN ((w4)) ((upd1 (w12_1) (v7) ((v9 + 1)))) (((x12_3 + 1))) 53 from hcs) (show ((x12_2 + tc49_0)) = su (fun i => pos1 (((upd1 (w12_1) (v7) ((v9 + 1)))) i)) 53 from hpt) (show 0 ≤ ((x12_2 + tc49_0)) ∧ ((x12_2 + tc49_0)) ≤ ((x12_3 + 1)) from q_3944 j12_6 jc49_1) rfl
      refine w_ifne (t := 48) rfl rfl (show inr (v8) from (HIDe qv8)) (fun b11 => ?_) (fun b11 => ?_)
      · refine Ew_of (pcₚ := 49) (fun _ => x_iconst rfl) ?_
        exact hc49 (0) _ _ _ _  (rk_o (l12_0) rfl rfl) (rk_o (l12_1) rfl rfl) (rk_o (l12_3) rfl rfl) (rk_s) H O (SF_refl) (SA_refl)     (show inr (0) from q_20) (show ((v8) ≠ (0) ∧ (0) = (0)) ∨ ((v8) = (0) ∧ (0) = (1)) from q_1808 b11)
      · refine Ew_of (pcₚ := 45) (fun _ => x_iconst rfl) ?_
        refine Ew_of (pcₚ := 49) (fun _ => x_goto rfl rfl) ?_
        exact hc49 (1) _ _ _ _  (rk_o (l12_0) rfl rfl) (rk_o (l12_1) rfl rfl) (rk_o (l12_3) rfl rfl) (rk_s) H O (SF_refl) (SA_refl)     (show inr (1) from h0) (show ((v8) ≠ (0) ∧ (1) = (0)) ∨ ((v8) = (0) ∧ (1) = (1)) from q_1809 b11)
abbrev V146_c12 : vV := [(0, 6, [(4, 0), (4, 0), (4, 0), (4, 0), (4, 0), (4, 0), (4, 0), (4, 0), (4, 0), (4, 0), (4, 0), (4, 0), (4, 0), (4, 0), (4, 0), (0, 0), (0, 0), (4, 0), (4, 0)]), (1, 1, []), (1, 7, []), (0, 5, [(4, 0), (4, 0), (4, 0), (4, 0), (0, 0), (0, 0), (0, 0), (4, 0), (4, 0), (0, 0), (0, 0), (0, 0), (0, 0), (0, 0), (0, 0), (0, 0), (0, 0), (0, 0), (0, 0)]), (1, 1, [])]
theorem len_V146_c12_oz_K1cls : (V146_c12).length = 5 := by decide +kernel
/-- Packer.countSymbols: this, this.symbolCounts, this.symbols, this.finder, this.symbols.2 -/
theorem C146_c12 {σE : rS} {D N : Nat → Nat} {F : hF} {A : hA} {d c s : Nat} {Q : wQ} (H : HW V146_c12 σE D N F A)  (pf1 : HID (F 0 12 = (D 1 : Int))) (pf2 : HID (F 0 13 = (D 2 : Int))) (pf3 : HID (F 0 1 = (D 3 : Int))) (pf4 : HID (A 2 2 = (D 4 : Int))) (n1 : Int) (en1 : HID ((N 1 : Int) = n1)) (n2 : Int) (en2 : HID ((N 2 : Int) = n2)) (n4 : Int) (en4 : HID ((N 4 : Int) = n4)) (u3_4 : Int) (eu3_4 : HID (F 3 4 = u3_4)) (w1 : Int → Int) (ew1 : A 1 = w1) (w4 : Int → Int) (ew4 : A 4 = w4) (h0 : inr (2)) (h1 : (n1) = 53 ∧ (n2) = 3) (h2 : 0 ≤ (u3_4) ∧ (u3_4) ≤ (n4) ∧ (n4) ≤ 65536) (h3 : RNG ((w4)) ((u3_4)) 53) (k : ∀ (z : Int) (σ : rS) (Fₚ : hF) (Aₚ : hA), HW V146_c12 σ D N Fₚ Aₚ → OUT (V146_c12).length D N σE c s D N σ c s → SF [] F Fₚ → SA [1] A Aₚ → ∀ v1 : Int → Int, Aₚ 1 = v1 → (inr (z)) → (CTN ((w4)) ((v1)) ((u3_4)) 53) → ((z) = su (fun i => pos1 (((v1)) i)) 53) → (0 ≤ (z) ∧ (z) ≤ 53) → Q (some (I z)) σ c s) : Ew 146 (d + 1) 0 (rargs 0 [.ref (D 0), I 2]) [] σE c s Q := by
  have O := OUT_refl (n := (V146_c12).length) (D := D) (N := N) (σ := σE) (c := c) (s := s)
  have HE := H
  have r1 : HID ((-2147483648 : Int) ≤ u3_4 ∧ u3_4 ≤ 2147483647) := krg_e (show (-2147483648 : Int) ≤ F 3 4 ∧ F 3 4 ≤ 2147483647 from H.krg 3 4 (ltn len_V146_c12_oz_K1cls rfl)) (show F 3 4 = u3_4 from (eu3_4))
  have r2 : HID ((0 : Int) ≤ n1 ∧ n1 ≤ 1000000) := nrng (H.nle 1 (ltn len_V146_c12_oz_K1cls rfl)) (show (N 1 : Int) = n1 from en1)
  have hrg : RNG ((w4)) ((u3_4)) 53 := h3
  refine Ew_of (pcₚ := 1) (fun _ => x_aload_n rfl rfl) ?_
  refine v_g H (o := 0) (v := .ref (D 1)) rfl rfl rfl rfl rfl (vrf (pf1)) ?_
  refine Ew_of (pcₚ := 5) (fun _ => x_iconst rfl) ?_
  refine v_fil H (t := 1) (v := 0) rfl rfl rfl rfl rfl (show inr (0) from q_20) (fun σ A5 H Oₚ hA5 ga5 => ?_)
  have O := OUT_trans O Oₚ
  have cA5 : SA oz_K1clsl_0 A A5 := SA_trans (SA_refl) hA5 (any_subA (by decide +kernel))
  have mA5 := SAm_of cA5 oz_K1cls_1
  refine Ew_of (pcₚ := 9) (fun _ => x_iconst rfl) ?_
  refine Ew_of (pcₚ := 10) (fun _ => x_istore_n rfl) ?_
  refine Ew_of (pcₚ := 11) (fun _ => x_iconst rfl) ?_
  refine Ew_of (pcₚ := 12) (fun _ => x_istore_n rfl) ?_
  have hc0 : CTN ((w4)) ((A5 1)) (0) 53 := CTN_0 ga5
  have hp0 : (0 : Int) = su (fun i => pos1 (((A5 1)) i)) 53 := CTP_0 ga5
  suffices hl12 : ∀ (m : Nat), ∀ (ls : rO) (σ : rS) (F_12 : hF) (A_12 : hA) (x12_2 : Int) (x12_3 : Int), rlook ls 0 = some (.ref (D 0)) → rlook ls 1 = some (I (2)) → rlook ls 2 = some (I (x12_2)) → rlook ls 3 = some (I (x12_3)) → HW V146_c12 σ D N F_12 A_12 → OUT (V146_c12).length D N σE c s D N σ c s → SF [] F F_12 → SA [1] A5 A_12 → ∀ w12_1 : Int → Int, A_12 1 = w12_1 → (inr (x12_2)) → (inr (x12_3)) → ((0) ≤ (x12_3)) → ((x12_3) ≤ (0) ∨ (x12_3) ≤ ((u3_4))) → (CTN ((w4)) ((w12_1)) ((x12_3)) 53) → ((x12_2) = su (fun i => pos1 (((w12_1)) i)) 53) → (0 ≤ (x12_2) ∧ (x12_2) ≤ (x12_3)) → (((u3_4)) - (x12_3)).toNat = m → Ew 146 (d + 1) 12 ls [] σ c s Q from
    hl12 _ _ _ _ _ (0) (0) (rk_o (rk_o (rfl) rfl rfl) rfl rfl) (rk_o (rk_o (rfl) rfl rfl) rfl rfl) (rk_o (rk_s) rfl rfl) (rk_s) H O (SF_refl) (SA_refl)    (A5 1) (rfl) (show inr (0) from q_20) (show inr (0) from q_20) (show (0) ≤ (0) from q_25) (show (0) ≤ (0) ∨ (0) ≤ ((u3_4)) from q_24) (show CTN ((w4)) ((A5 1)) ((0)) 53 from hc0) (show (0) = su (fun i => pos1 (((A5 1)) i)) 53 by assumption) (show 0 ≤ (0) ∧ (0) ≤ (0) from q_1200) rfl
  as_aux_lemma =>
  intro m
  induction m using Nat.strongRecOn with
  | _ m ih12 =>
    intro ls σ F_12 A_12 x12_2 x12_3 l12_0 l12_1 l12_2 l12_3 H O hS_12 hA_12    w12_1 ew12_1 j12_0 j12_1 j12_2 j12_3 j12_4 j12_5 j12_6 hm12
    have cF_12 : SF oz_K1clsl_1 F F_12 := SF_trans (SF_refl) hS_12 (any_sub (by decide +kernel))
    have mF_12 := SFm_of cF_12 oz_K1cls_2
    have cA_12 : SA oz_K1clsl_0 A A_12 := SA_trans (cA5) hA_12 (any_subA (by decide +kernel))
    have mA_12 := SAm_of cA_12 oz_K1cls_1
    have hct : CTN ((w4)) ((w12_1)) ((x12_3)) 53 := j12_4
    have hps : (x12_2) = su (fun i => pos1 (((w12_1)) i)) 53 := by assumption
    refine Ew_of (pcₚ := 13) (fun _ => x_iload_n rfl l12_3) ?_
    refine Ew_of (pcₚ := 14) (fun _ => x_aload_n rfl l12_0) ?_
    refine v_g H (o := 0) (v := .ref (D 3)) rfl rfl rfl rfl rfl (vrf ((mF_12 0 1 rfl).trans (pf3))) ?_
    refine v_g H (o := 3) (v := I (u3_4)) rfl rfl rfl rfl rfl (congrArg (fun z : Int => I z) (((mF_12 3 4 rfl).trans (eu3_4)) : F_12 3 4 = u3_4)) ?_
    refine w_icmpge (t := 68) rfl rfl (show inr (x12_3) from j12_1) (show inr (u3_4) from q_884 h2) (fun b6 => ?_) (fun b6 => ?_)
    · have hl3 : (x12_3) = (u3_4) := by (have qg0 := HIDe r1; omega)
      have hct2 : CTN ((w4)) ((w12_1)) ((u3_4)) 53 := by rw [← hl3]; assumption
      have hps2 : (x12_2) = su (fun i => pos1 (((w12_1)) i)) 53 := hps
      have hpl := CTP_le hps2
      refine Ew_of (pcₚ := 69) (fun _ => x_iload_n rfl l12_2) ?_
      exact w_ireturn rfl (k (x12_2) _ _ _ H O (cF_12) (cA_12) (w12_1) (ew12_1) (show inr (x12_2) from j12_0) (show CTN ((w4)) ((w12_1)) ((u3_4)) 53 from hct2) (show (x12_2) = su (fun i => pos1 (((w12_1)) i)) 53 by omega) (show 0 ≤ (x12_2) ∧ (x12_2) ≤ 53 by omega))
    · refine Ew_of (pcₚ := 24) (fun _ => x_aload_n rfl l12_0) ?_
      refine v_g H (o := 0) (v := .ref (D 2)) rfl rfl rfl rfl rfl (vrf ((mF_12 0 13 rfl).trans (pf2))) ?_
      refine Ew_of (pcₚ := 28) (fun _ => x_iload_n rfl l12_1) ?_
      refine v_lR H (o := 2) rfl rfl rfl rfl rfl (n := n2) (en2) (show 0 ≤ 2 ∧ 2 < n2 from q_3948 h1) (z := ((D 4 : Nat) : Int)) (v := .ref (D 4)) ((mA_12 2 rfl 2).trans (pf4)) (vrf rfl) ?_
      refine Ew_of (pcₚ := 30) (fun _ => x_iload_n rfl l12_3) ?_
      refine v_lI H (o := 4) rfl rfl rfl rfl (n := n4) (en4) (show 0 ≤ x12_3 ∧ x12_3 < n4 from q_3943 b6 h2 j12_2) (fun v7 ev7 (qv7 : HID _) => ?_)
      have ev7 : (w4) (x12_3) = v7 := (congrFun ((funext (mA_12 4 rfl)).trans (ew4)) (x12_3)).symm.trans ev7
      have hrv := ev7
      have hrr := hrg ((x12_3)) (by omega) (by omega)
      rw [hrv] at hrr
      refine Ew_of (pcₚ := 33) (fun _ => x_istore rfl) ?_
      refine Ew_of (pcₚ := 34) (fun _ => x_iload_n rfl (rk_o (l12_2) rfl rfl)) ?_
      refine Ew_of (pcₚ := 35) (fun _ => x_aload_n rfl (rk_o (l12_0) rfl rfl)) ?_
      refine v_g H (o := 0) (v := .ref (D 1)) rfl rfl rfl rfl rfl (vrf ((mF_12 0 12 rfl).trans (pf1))) ?_
      refine Ew_of (pcₚ := 40) (fun _ => x_iload rfl rk_s) ?_
      refine v_lI H (o := 1) rfl rfl rfl rfl (n := n1) (en1) (show 0 ≤ v7 ∧ v7 < n1 by have qh0 := HIDe qv7; have qh1 := HIDe r2; omega) (fun v8 ev8 (qv8 : HID _) => ?_)
      have ev8 : (w12_1) (v7) = v8 := (congrFun (ew12_1) (v7)).symm.trans ev8
      have hcv := ev8
      have hcl := CTN_le hct (s := (v7)) (by (have qg0 := HIDe qv7; omega)) (by (have qg0 := HIDe qv7; omega)) (by (have qg0 := HIDe qv7; omega))
      rw [hcv] at hcl
      have hc49 : ∀ (tc49_0 : Int), ∀ (ls : rO) (σ : rS) (F_c49 : hF) (A_c49 : hA) , rlook ls 0 = some (.ref (D 0)) → rlook ls 1 = some (I (2)) → rlook ls 3 = some (I (x12_3)) → rlook ls 4 = some (I (v7)) → HW V146_c12 σ D N F_c49 A_c49 → OUT (V146_c12).length D N σE c s D N σ c s → SF [] F_12 F_c49 → SA [] A_12 A_c49 → (inr (tc49_0)) → (((v8) ≠ (0) ∧ (tc49_0) = (0)) ∨ ((v8) = (0) ∧ (tc49_0) = (1))) → Ew 146 (d + 1) 49 ls [I (tc49_0), I (x12_2)] σ c s Q := by
       as_aux_lemma =>
        intro tc49_0 ls σ F_c49 A_c49  lc49_0 lc49_1 lc49_3 lc49_4 H O hS_c49 hA_c49     jc49_0 jc49_1
        have cF_c49 : SF oz_K1clsl_1 F F_c49 := SF_trans (cF_12) hS_c49 (any_sub (by decide +kernel))
        have mF_c49 := SFm_of cF_c49 oz_K1cls_2
        have cA_c49 : SA oz_K1clsl_0 A A_c49 := SA_trans (cA_12) hA_c49 (any_subA (by decide +kernel))
        have mA_c49 := SAm_of cA_c49 oz_K1cls_1
        refine w_iadd rfl ?_
        refine Ew_of (pcₚ := 51) (fun _ => x_istore_n rfl) ?_
        refine Ew_of (pcₚ := 52) (fun _ => x_aload_n rfl (rk_o (lc49_0) rfl rfl)) ?_
        refine v_g H (o := 0) (v := .ref (D 1)) rfl rfl rfl rfl rfl (vrf ((mF_c49 0 12 rfl).trans (pf1))) ?_
        refine Ew_of (pcₚ := 57) (fun _ => x_iload rfl (rk_o (lc49_4) rfl rfl)) ?_
        refine Ew_of (pcₚ := 58) (fun _ => x_dup2 rfl rfl rfl) ?_
        refine v_lI H (o := 1) rfl rfl rfl rfl (n := n1) (en1) (show 0 ≤ v7 ∧ v7 < n1 by have qh0 := HIDe qv7; have qh1 := HIDe r2; omega) (fun v9 ev9 (qv9 : HID _) => ?_)
        have ev9 : (w12_1) (v7) = v9 := (congrFun ((funext (hA_c49 1 rfl)).trans (ew12_1)) (v7)).symm.trans ev9
        have hcw := ev9
        refine Ew_of (pcₚ := 60) (fun _ => x_iconst rfl) ?_
        refine w_iadd rfl ?_
        refine v_sI H (o := 1) (z := (v9 + 1)) rfl rfl rfl rfl (n := n1) (en1) (show 0 ≤ v7 ∧ v7 < n1 by have qh0 := HIDe qv7; have qh1 := HIDe r2; omega) (show inr ((v9 + 1)) by have qh0 := HIDe qv9; omega) (fun σ H Oₚ => ?_)
        have O := OUT_trans O Oₚ
        have cAu10 : SA oz_K1clsl_0 A (updA A_c49 1 (v7) ((v9 + 1))) := SA_upd (cA_c49) rfl
        have mAu10 := SAm_of cAu10 oz_K1cls_1
        refine Ew_of (pcₚ := 65) (fun _ => x_iinc (len := 3) rfl (rk_o (lc49_3) rfl rfl)) ?_
        refine Ew_of (pcₚ := 12) (fun _ => x_goto rfl rfl) ?_
        have hcs : CTN ((w4)) ((upd1 (w12_1) (v7) ((v9 + 1)))) (((x12_3 + 1))) 53 := CTN_s hct (by (have qg0 := HIDe qv7; have qg1 := HIDe qv9; omega)) rfl hrv (by (have qg0 := HIDe qv7; have qg1 := HIDe qv9; omega))
        have hpt : ((x12_2 + tc49_0)) = su (fun i => pos1 (((upd1 (w12_1) (v7) ((v9 + 1)))) i)) 53 := CTP_s hps (by (have qg0 := HIDe qv7; have qg1 := HIDe qv9; omega)) (by (have qg0 := HIDe qv7; have qg1 := HIDe qv9; omega)) hcv (by (have qg0 := HIDe qv7; have qg1 := HIDe qv9; omega)) (by (have qg0 := HIDe qv7; have qg1 := HIDe qv9; omega)) (by (have qg0 := HIDe qv7; have qg1 := HIDe qv9; omega))
        exact ih12 _ (msE hm12 q_31 (q_34 b6)) _ _ _ _ ((x12_2 + tc49_0)) ((x12_3 + 1)) (rk_o (rk_o (lc49_0) rfl rfl) rfl rfl) (rk_o (rk_o (lc49_1) rfl rfl) rfl rfl) (rk_o (rk_s) rfl rfl) (rk_s) H O (SF_trans (hS_12) hS_c49 (any_sub (by decide +kernel))) (SA_upd (SA_trans (hA_12) hA_c49 (any_subA (by decide +kernel))) rfl)    (upd1 (w12_1) (v7) ((v9 + 1))) (congrArg (fun q => upd1 q (v7) ((v9 + 1))) ((funext (hA_c49 1 rfl)).trans (ew12_1))) (show inr ((x12_2 + tc49_0)) from q_3946 b6 h2 j12_0 j12_6 jc49_0 jc49_1) (show inr ((x12_3 + 1)) from q_3945 b6 h2 j12_2) (show (0) ≤ ((x12_3 + 1)) from q_29 j12_2) (show ((x12_3 + 1)) ≤ (0) ∨ ((x12_3 + 1)) ≤ ((u3_4)) from q_33 b6) (show CTN ((w4)) ((upd1 (w12_1) (v7) ((v9 + 1)))) (((x12_3 + 1))) 53 from hcs) (show ((x12_2 + tc49_0)) = su (fun i => pos1 (((upd1 (w12_1) (v7) ((v9 + 1)))) i)) 53 from hpt) (show 0 ≤ ((x12_2 + tc49_0)) ∧ ((x12_2 + tc49_0)) ≤ ((x12_3 + 1)) from q_3944 j12_6 jc49_1) rfl
      refine w_ifne (t := 48) rfl rfl (show inr (v8) from (HIDe qv8)) (fun b11 => ?_) (fun b11 => ?_)
      · refine Ew_of (pcₚ := 49) (fun _ => x_iconst rfl) ?_
        exact hc49 (0) _ _ _ _  (rk_o (l12_0) rfl rfl) (rk_o (l12_1) rfl rfl) (rk_o (l12_3) rfl rfl) (rk_s) H O (SF_refl) (SA_refl)     (show inr (0) from q_20) (show ((v8) ≠ (0) ∧ (0) = (0)) ∨ ((v8) = (0) ∧ (0) = (1)) from q_1808 b11)
      · refine Ew_of (pcₚ := 45) (fun _ => x_iconst rfl) ?_
        refine Ew_of (pcₚ := 49) (fun _ => x_goto rfl rfl) ?_
        exact hc49 (1) _ _ _ _  (rk_o (l12_0) rfl rfl) (rk_o (l12_1) rfl rfl) (rk_o (l12_3) rfl rfl) (rk_s) H O (SF_refl) (SA_refl)     (show inr (1) from q_23) (show ((v8) ≠ (0) ∧ (1) = (0)) ∨ ((v8) = (0) ∧ (1) = (1)) from q_1809 b11)
