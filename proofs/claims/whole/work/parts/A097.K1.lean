section
/-! K1.cls -/
abbrev V146_c10 : vV := [(0, 6, [(4, 0), (4, 0), (4, 0), (4, 0), (4, 0), (4, 0), (4, 0), (4, 0), (4, 0), (4, 0), (4, 0), (4, 0), (4, 0), (4, 0), (4, 0), (0, 0), (0, 0), (4, 0), (4, 0)]), (1, 1, []), (1, 7, []), (0, 5, [(4, 0), (4, 0), (4, 0), (4, 0), (0, 0), (0, 0), (0, 0), (4, 0), (4, 0), (0, 0), (0, 0), (0, 0), (0, 0), (0, 0), (0, 0), (0, 0), (0, 0), (0, 0), (0, 0)]), (1, 1, [])]
theorem len_V146_c10_oz_K1cls : (V146_c10).length = 5 := by decide +kernel
def oz_K1clsl_0 : List Nat := [1]
theorem oz_K1cls_1 : (oz_K1clsl_0).all (fun p => !tbz 2 p) = true := by decide +kernel
def oz_K1clsl_1 : List (Nat × Nat) := []
theorem oz_K1cls_2 : (oz_K1clsl_1).all (fun p => !tbz 0 (Nat.add (Nat.mul 32 p.1) p.2)) = true := by decide +kernel

theorem C146_c10 {σE : rS} {D N : Nat → Nat} {F : hF} {A : hA} {d c s : Nat} {Q : wQ} (H : HW V146_c10 σE D N F A)  (pf1 : HID (F 0 12 = (D 1 : Int))) (pf2 : HID (F 0 13 = (D 2 : Int))) (pf3 : HID (F 0 1 = (D 3 : Int))) (pf4 : HID (A 2 0 = (D 4 : Int))) (n1 : Int) (en1 : HID ((N 1 : Int) = n1)) (n2 : Int) (en2 : HID ((N 2 : Int) = n2)) (n4 : Int) (en4 : HID ((N 4 : Int) = n4)) (u3_4 : Int) (eu3_4 : HID (F 3 4 = u3_4)) (w1 : Int → Int) (ew1 : A 1 = w1) (w4 : Int → Int) (ew4 : A 4 = w4) (h0 : inr (0)) (h1 : (n1) = 53 ∧ (n2) = 3) (h2 : 0 ≤ (u3_4) ∧ (u3_4) ≤ (n4) ∧ (n4) ≤ 65536) (h3 : RNG ((w4)) ((u3_4)) 36) (k : ∀ (z : Int) (σ : rS) (Fₚ : hF) (Aₚ : hA), HW V146_c10 σ D N Fₚ Aₚ → OUT (V146_c10).length D N σE c s D N σ c s → SF [] F Fₚ → SA [1] A Aₚ → ∀ v1 : Int → Int, Aₚ 1 = v1 → (inr (z)) → (CTN ((w4)) ((v1)) ((u3_4)) 53) → ((z) = su (fun i => pos1 (((v1)) i)) 53) → (0 ≤ (z) ∧ (z) ≤ 53) → Q (some (I z)) σ c s) : Ew 146 (d + 1) 0 (rargs 0 [.ref (D 0), I 0]) [] σE c s Q := by
  have O := OUT_refl (n := (V146_c10).length) (D := D) (N := N) (σ := σE) (c := c) (s := s)
  have HE := H
  have r1 : HID ((-2147483648 : Int) ≤ u3_4 ∧ u3_4 ≤ 2147483647) := krg_e (show (-2147483648 : Int) ≤ F 3 4 ∧ F 3 4 ≤ 2147483647 from H.krg 3 4 (ltn len_V146_c10_oz_K1cls rfl)) (show F 3 4 = u3_4 from (eu3_4))
  have r2 : HID ((0 : Int) ≤ n1 ∧ n1 ≤ 1000000) := nrng (H.nle 1 (ltn len_V146_c10_oz_K1cls rfl)) (show (N 1 : Int) = n1 from en1)
  have r3 : HID ((0 : Int) ≤ n2 ∧ n2 ≤ 1000000) := nrng (H.nle 2 (ltn len_V146_c10_oz_K1cls rfl)) (show (N 2 : Int) = n2 from en2)
  have hrg : RNG ((w4)) ((u3_4)) 36 := h3
  refine Ew_of (pcₚ := 1) (fun _ => x_aload_n rfl rfl) ?_
  refine v_g H (o := 0) (v := .ref (D 1)) rfl rfl rfl rfl rfl (vrf (pf1)) ?_
  refine Ew_of (pcₚ := 5) (fun _ => x_iconst rfl) ?_
  refine v_fil H (t := 1) (v := 0) rfl rfl rfl rfl rfl (show inr (0) from h0) (fun σ A5 H Oₚ hA5 ga5 => ?_)
  have O := OUT_trans O Oₚ
  have cA5 : SA oz_K1clsl_0 A A5 := SA_trans (SA_refl) hA5 (any_subA (by decide +kernel))
  have mA5 := SAm_of cA5 oz_K1cls_1
  refine Ew_of (pcₚ := 9) (fun _ => x_iconst rfl) ?_
  refine Ew_of (pcₚ := 10) (fun _ => x_istore_n rfl) ?_
  refine Ew_of (pcₚ := 11) (fun _ => x_iconst rfl) ?_
  refine Ew_of (pcₚ := 12) (fun _ => x_istore_n rfl) ?_
  have hc0 : CTN ((w4)) ((A5 1)) (0) 53 := CTN_0 ga5
  have hp0 : (0 : Int) = su (fun i => pos1 (((A5 1)) i)) 53 := CTP_0 ga5
  suffices hl12 : ∀ (m : Nat), ∀ (ls : rO) (σ : rS) (F_12 : hF) (A_12 : hA) (x12_2 : Int) (x12_3 : Int), rlook ls 0 = some (.ref (D 0)) → rlook ls 1 = some (I (0)) → rlook ls 2 = some (I (x12_2)) → rlook ls 3 = some (I (x12_3)) → HW V146_c10 σ D N F_12 A_12 → OUT (V146_c10).length D N σE c s D N σ c s → SF [] F F_12 → SA [1] A5 A_12 → ∀ w12_1 : Int → Int, A_12 1 = w12_1 → (inr (x12_2)) → (inr (x12_3)) → ((0) ≤ (x12_3)) → ((x12_3) ≤ (0) ∨ (x12_3) ≤ ((u3_4))) → (CTN ((w4)) ((w12_1)) ((x12_3)) 53) → ((x12_2) = su (fun i => pos1 (((w12_1)) i)) 53) → (0 ≤ (x12_2) ∧ (x12_2) ≤ (x12_3)) → (((u3_4)) - (x12_3)).toNat = m → Ew 146 (d + 1) 12 ls [] σ c s Q from
    hl12 _ _ _ _ _ (0) (0) (rk_o (rk_o (rfl) rfl rfl) rfl rfl) (rk_o (rk_o (rfl) rfl rfl) rfl rfl) (rk_o (rk_s) rfl rfl) (rk_s) H O (SF_refl) (SA_refl)    (A5 1) (rfl) (show inr (0) from h0) (show inr (0) from h0) (show (0) ≤ (0) from q_1) (show (0) ≤ (0) ∨ (0) ≤ ((u3_4)) from q_5) (hc0) (show (0) = su (fun i => pos1 (((A5 1)) i)) 53 by assumption) (show 0 ≤ (0) ∧ (0) ≤ (0) from q_4) rfl
  as_aux_lemma =>
  intro m
  induction m using Nat.strongRecOn with
  | _ m ih12 =>
    intro ls σ F_12 A_12 x12_2 x12_3 l12_0 l12_1 l12_2 l12_3 H O hS_12 hA_12    w12_1 ew12_1 j12_0 j12_1 j12_2 j12_3 j12_4 j12_5 j12_6 hm12
    have cF_12 : SF oz_K1clsl_1 F F_12 := SF_trans (SF_refl) hS_12 (any_sub (by decide +kernel))
    have mF_12 := SFm_of cF_12 oz_K1cls_2
    have cA_12 : SA oz_K1clsl_0 A A_12 := SA_trans (cA5) hA_12 (any_subA (by decide +kernel))
    have mA_12 := SAm_of cA_12 oz_K1cls_1
    have hct : CTN ((w4)) ((w12_1)) ((x12_3)) 53 := j12_4
    have hps : (x12_2) = su (fun i => pos1 (((w12_1)) i)) 53 := by assumption
    refine Ew_of (pcₚ := 13) (fun _ => x_iload_n rfl l12_3) ?_
    refine Ew_of (pcₚ := 14) (fun _ => x_aload_n rfl l12_0) ?_
    refine v_g H (o := 0) (v := .ref (D 3)) rfl rfl rfl rfl rfl (vrf ((mF_12 0 1 rfl).trans (pf3))) ?_
    refine v_g H (o := 3) (v := I (u3_4)) rfl rfl rfl rfl rfl (congrArg (fun z : Int => I z) (((mF_12 3 4 rfl).trans (eu3_4)) : F_12 3 4 = u3_4)) ?_
    refine w_icmpge (t := 68) rfl rfl (show inr (x12_3) from j12_1) (show inr (u3_4) from q_38 h2) (fun b6 => ?_) (fun b6 => ?_)
    · have hl3 : (x12_3) = (u3_4) := by (have qg0 := HIDe r1; omega)
      have hct2 : CTN ((w4)) ((w12_1)) ((u3_4)) 53 := by rw [← hl3]; assumption
      have hps2 : (x12_2) = su (fun i => pos1 (((w12_1)) i)) 53 := hps
      have hpl := CTP_le hps2
      refine Ew_of (pcₚ := 69) (fun _ => x_iload_n rfl l12_2) ?_
      exact w_ireturn rfl (k (x12_2) _ _ _ H O (cF_12) (cA_12) (w12_1) (ew12_1) (show inr (x12_2) from j12_0) (hct2) (show (x12_2) = su (fun i => pos1 (((w12_1)) i)) 53 by omega) (show 0 ≤ (x12_2) ∧ (x12_2) ≤ 53 by omega))
    · refine Ew_of (pcₚ := 24) (fun _ => x_aload_n rfl l12_0) ?_
      refine v_g H (o := 0) (v := .ref (D 2)) rfl rfl rfl rfl rfl (vrf ((mF_12 0 13 rfl).trans (pf2))) ?_
      refine Ew_of (pcₚ := 28) (fun _ => x_iload_n rfl l12_1) ?_
      refine v_lR H (o := 2) rfl rfl rfl rfl rfl (n := n2) (en2) (show 0 ≤ 0 ∧ 0 < n2 from q_4334 (HIDe r3) h1) (z := ((D 4 : Nat) : Int)) (v := .ref (D 4)) ((mA_12 2 rfl 0).trans (pf4)) (vrf rfl) ?_
      refine Ew_of (pcₚ := 30) (fun _ => x_iload_n rfl l12_3) ?_
      refine v_lI H (o := 4) rfl rfl rfl rfl (n := n4) (en4) (show 0 ≤ x12_3 ∧ x12_3 < n4 from q_4335 b6 h2 j12_2) (fun v7 ev7 (qv7 : HID _) => ?_)
      have ev7 : (w4) (x12_3) = v7 := (congrFun ((funext (mA_12 4 rfl)).trans (ew4)) (x12_3)).symm.trans ev7
      have hrv := ev7
      have hrr := hrg ((x12_3)) (by omega) (by omega)
      rw [hrv] at hrr
      refine Ew_of (pcₚ := 33) (fun _ => x_istore rfl) ?_
      refine Ew_of (pcₚ := 34) (fun _ => x_iload_n rfl (rk_o (l12_2) rfl rfl)) ?_
      refine Ew_of (pcₚ := 35) (fun _ => x_aload_n rfl (rk_o (l12_0) rfl rfl)) ?_
      refine v_g H (o := 0) (v := .ref (D 1)) rfl rfl rfl rfl rfl (vrf ((mF_12 0 12 rfl).trans (pf1))) ?_
      refine Ew_of (pcₚ := 40) (fun _ => x_iload rfl rk_s) ?_
      refine v_lI H (o := 1) rfl rfl rfl rfl (n := n1) (en1) (show 0 ≤ v7 ∧ v7 < n1 by have qh0 := HIDe qv7; have qh1 := HIDe r2; omega) (fun v8 ev8 (qv8 : HID _) => ?_)
      have ev8 : (w12_1) (v7) = v8 := (congrFun (ew12_1) (v7)).symm.trans ev8
      have hcv := ev8
      have hcl := CTN_le hct (s := (v7)) (by (have qg0 := HIDe qv7; omega)) (by (have qg0 := HIDe qv7; omega)) (by (have qg0 := HIDe qv7; omega))
      rw [hcv] at hcl
      have hc49 : ∀ (tc49_0 : Int), ∀ (ls : rO) (σ : rS) (F_c49 : hF) (A_c49 : hA) , rlook ls 0 = some (.ref (D 0)) → rlook ls 1 = some (I (0)) → rlook ls 3 = some (I (x12_3)) → rlook ls 4 = some (I (v7)) → HW V146_c10 σ D N F_c49 A_c49 → OUT (V146_c10).length D N σE c s D N σ c s → SF [] F_12 F_c49 → SA [] A_12 A_c49 → (inr (tc49_0)) → (((v8) ≠ (0) ∧ (tc49_0) = (0)) ∨ ((v8) = (0) ∧ (tc49_0) = (1))) → Ew 146 (d + 1) 49 ls [I (tc49_0), I (x12_2)] σ c s Q := by
       as_aux_lemma =>
        intro tc49_0 ls σ F_c49 A_c49  lc49_0 lc49_1 lc49_3 lc49_4 H O hS_c49 hA_c49     jc49_0 jc49_1
        have cF_c49 : SF oz_K1clsl_1 F F_c49 := SF_trans (cF_12) hS_c49 (any_sub (by decide +kernel))
        have mF_c49 := SFm_of cF_c49 oz_K1cls_2
        have cA_c49 : SA oz_K1clsl_0 A A_c49 := SA_trans (cA_12) hA_c49 (any_subA (by decide +kernel))
        have mA_c49 := SAm_of cA_c49 oz_K1cls_1
        refine w_iadd rfl ?_
        refine Ew_of (pcₚ := 51) (fun _ => x_istore_n rfl) ?_
        refine Ew_of (pcₚ := 52) (fun _ => x_aload_n rfl (rk_o (lc49_0) rfl rfl)) ?_
        refine v_g H (o := 0) (v := .ref (D 1)) rfl rfl rfl rfl rfl (vrf ((mF_c49 0 12 rfl).trans (pf1))) ?_
        refine Ew_of (pcₚ := 57) (fun _ => x_iload rfl (rk_o (lc49_4) rfl rfl)) ?_
        refine Ew_of (pcₚ := 58) (fun _ => x_dup2 rfl rfl rfl) ?_
        refine v_lI H (o := 1) rfl rfl rfl rfl (n := n1) (en1) (show 0 ≤ v7 ∧ v7 < n1 by have qh0 := HIDe qv7; have qh1 := HIDe r2; omega) (fun v9 ev9 (qv9 : HID _) => ?_)
        have ev9 : (w12_1) (v7) = v9 := (congrFun ((funext (hA_c49 1 rfl)).trans (ew12_1)) (v7)).symm.trans ev9
        have hcw := ev9
        refine Ew_of (pcₚ := 60) (fun _ => x_iconst rfl) ?_
        refine w_iadd rfl ?_
        refine v_sI H (o := 1) (z := (v9 + 1)) rfl rfl rfl rfl (n := n1) (en1) (show 0 ≤ v7 ∧ v7 < n1 by have qh0 := HIDe qv7; have qh1 := HIDe r2; omega) (show inr ((v9 + 1)) by have qh0 := HIDe qv9; omega) (fun σ H Oₚ => ?_)
        have O := OUT_trans O Oₚ
        have cAu10 : SA oz_K1clsl_0 A (updA A_c49 1 (v7) ((v9 + 1))) := SA_upd (cA_c49) rfl
        have mAu10 := SAm_of cAu10 oz_K1cls_1
        refine Ew_of (pcₚ := 65) (fun _ => x_iinc (len := 3) rfl (rk_o (lc49_3) rfl rfl)) ?_
        refine Ew_of (pcₚ := 12) (fun _ => x_goto rfl rfl) ?_
        have hcs : CTN ((w4)) ((upd1 (w12_1) (v7) ((v9 + 1)))) (((x12_3 + 1))) 53 := CTN_s hct (by (have qg0 := HIDe qv7; have qg1 := HIDe qv9; omega)) rfl hrv (by (have qg0 := HIDe qv7; have qg1 := HIDe qv9; omega))
        have hpt : ((x12_2 + tc49_0)) = su (fun i => pos1 (((upd1 (w12_1) (v7) ((v9 + 1)))) i)) 53 := CTP_s hps (by (have qg0 := HIDe qv7; have qg1 := HIDe qv9; omega)) (by (have qg0 := HIDe qv7; have qg1 := HIDe qv9; omega)) hcv (by (have qg0 := HIDe qv7; have qg1 := HIDe qv9; omega)) (by (have qg0 := HIDe qv7; have qg1 := HIDe qv9; omega)) (by (have qg0 := HIDe qv7; have qg1 := HIDe qv9; omega))
        exact ih12 _ (msE hm12 q_16 (q_17 b6)) _ _ _ _ ((x12_2 + tc49_0)) ((x12_3 + 1)) (rk_o (rk_o (lc49_0) rfl rfl) rfl rfl) (rk_o (rk_o (lc49_1) rfl rfl) rfl rfl) (rk_o (rk_s) rfl rfl) (rk_s) H O (SF_trans (hS_12) hS_c49 (any_sub (by decide +kernel))) (SA_upd (SA_trans (hA_12) hA_c49 (any_subA (by decide +kernel))) rfl)    (upd1 (w12_1) (v7) ((v9 + 1))) (congrArg (fun q => upd1 q (v7) ((v9 + 1))) ((funext (hA_c49 1 rfl)).trans (ew12_1))) (show inr ((x12_2 + tc49_0)) from q_4338 b6 h2 j12_0 j12_6 jc49_0 jc49_1) (show inr ((x12_3 + 1)) from q_4337 b6 h2 j12_2) (show (0) ≤ ((x12_3 + 1)) from q_14 j12_2) (show ((x12_3 + 1)) ≤ (0) ∨ ((x12_3 + 1)) ≤ ((u3_4)) from q_13 b6) (hcs) (hpt) (show 0 ≤ ((x12_2 + tc49_0)) ∧ ((x12_2 + tc49_0)) ≤ ((x12_3 + 1)) from q_4336 j12_6 jc49_1) rfl
      refine w_ifne (t := 48) rfl rfl (show inr (v8) from (HIDe qv8)) (fun b11 => ?_) (fun b11 => ?_)
      · refine Ew_of (pcₚ := 49) (fun _ => x_iconst rfl) ?_
        exact hc49 (0) _ _ _ _  (rk_o (l12_0) rfl rfl) (rk_o (l12_1) rfl rfl) (rk_o (l12_3) rfl rfl) (rk_s) H O (SF_refl) (SA_refl)     (show inr (0) from h0) (show ((v8) ≠ (0) ∧ (0) = (0)) ∨ ((v8) = (0) ∧ (0) = (1)) from q_4339 b11)
      · refine Ew_of (pcₚ := 45) (fun _ => x_iconst rfl) ?_
        refine Ew_of (pcₚ := 49) (fun _ => x_goto rfl rfl) ?_
        exact hc49 (1) _ _ _ _  (rk_o (l12_0) rfl rfl) (rk_o (l12_1) rfl rfl) (rk_o (l12_3) rfl rfl) (rk_s) H O (SF_refl) (SA_refl)     (show inr (1) from q_135) (show ((v8) ≠ (0) ∧ (1) = (0)) ∨ ((v8) = (0) ∧ (1) = (1)) from q_4340 b11)
abbrev V146_c11 : vV := [(0, 6, [(4, 0), (4, 0), (4, 0), (4, 0), (4, 0), (4, 0), (4, 0), (4, 0), (4, 0), (4, 0), (4, 0), (4, 0), (4, 0), (4, 0), (4, 0), (0, 0), (0, 0), (4, 0), (4, 0)]), (1, 1, []), (1, 7, []), (0, 5, [(4, 0), (4, 0), (4, 0), (4, 0), (0, 0), (0, 0), (0, 0), (4, 0), (4, 0), (0, 0), (0, 0), (0, 0), (0, 0), (0, 0), (0, 0), (0, 0), (0, 0), (0, 0), (0, 0)]), (1, 1, [])]
theorem len_V146_c11_oz_K1cls : (V146_c11).length = 5 := by decide +kernel

theorem C146_c11 {σE : rS} {D N : Nat → Nat} {F : hF} {A : hA} {d c s : Nat} {Q : wQ} (H : HW V146_c11 σE D N F A)  (pf1 : HID (F 0 12 = (D 1 : Int))) (pf2 : HID (F 0 13 = (D 2 : Int))) (pf3 : HID (F 0 1 = (D 3 : Int))) (pf4 : HID (A 2 1 = (D 4 : Int))) (n1 : Int) (en1 : HID ((N 1 : Int) = n1)) (n2 : Int) (en2 : HID ((N 2 : Int) = n2)) (n4 : Int) (en4 : HID ((N 4 : Int) = n4)) (u3_4 : Int) (eu3_4 : HID (F 3 4 = u3_4)) (w1 : Int → Int) (ew1 : A 1 = w1) (w4 : Int → Int) (ew4 : A 4 = w4) (h0 : inr (1)) (h1 : (n1) = 53 ∧ (n2) = 3) (h2 : 0 ≤ (u3_4) ∧ (u3_4) ≤ (n4) ∧ (n4) ≤ 65536) (h3 : RNG ((w4)) ((u3_4)) 32) (k : ∀ (z : Int) (σ : rS) (Fₚ : hF) (Aₚ : hA), HW V146_c11 σ D N Fₚ Aₚ → OUT (V146_c11).length D N σE c s D N σ c s → SF [] F Fₚ → SA [1] A Aₚ → ∀ v1 : Int → Int, Aₚ 1 = v1 → (inr (z)) → (CTN ((w4)) ((v1)) ((u3_4)) 53) → ((z) = su (fun i => pos1 (((v1)) i)) 53) → (0 ≤ (z) ∧ (z) ≤ 53) → Q (some (I z)) σ c s) : Ew 146 (d + 1) 0 (rargs 0 [.ref (D 0), I 1]) [] σE c s Q := by
  have O := OUT_refl (n := (V146_c11).length) (D := D) (N := N) (σ := σE) (c := c) (s := s)
  have HE := H
  have r1 : HID ((-2147483648 : Int) ≤ u3_4 ∧ u3_4 ≤ 2147483647) := krg_e (show (-2147483648 : Int) ≤ F 3 4 ∧ F 3 4 ≤ 2147483647 from H.krg 3 4 (ltn len_V146_c11_oz_K1cls rfl)) (show F 3 4 = u3_4 from (eu3_4))
  have r2 : HID ((0 : Int) ≤ n1 ∧ n1 ≤ 1000000) := nrng (H.nle 1 (ltn len_V146_c11_oz_K1cls rfl)) (show (N 1 : Int) = n1 from en1)
  have r3 : HID ((0 : Int) ≤ n2 ∧ n2 ≤ 1000000) := nrng (H.nle 2 (ltn len_V146_c11_oz_K1cls rfl)) (show (N 2 : Int) = n2 from en2)
  have hrg : RNG ((w4)) ((u3_4)) 32 := h3
  refine Ew_of (pcₚ := 1) (fun _ => x_aload_n rfl rfl) ?_
  refine v_g H (o := 0) (v := .ref (D 1)) rfl rfl rfl rfl rfl (vrf (pf1)) ?_
  refine Ew_of (pcₚ := 5) (fun _ => x_iconst rfl) ?_
  refine v_fil H (t := 1) (v := 0) rfl rfl rfl rfl rfl (show inr (0) from q_2) (fun σ A5 H Oₚ hA5 ga5 => ?_)
  have O := OUT_trans O Oₚ
  have cA5 : SA oz_K1clsl_0 A A5 := SA_trans (SA_refl) hA5 (any_subA (by decide +kernel))
  have mA5 := SAm_of cA5 oz_K1cls_1
  refine Ew_of (pcₚ := 9) (fun _ => x_iconst rfl) ?_
  refine Ew_of (pcₚ := 10) (fun _ => x_istore_n rfl) ?_
  refine Ew_of (pcₚ := 11) (fun _ => x_iconst rfl) ?_
  refine Ew_of (pcₚ := 12) (fun _ => x_istore_n rfl) ?_
  have hc0 : CTN ((w4)) ((A5 1)) (0) 53 := CTN_0 ga5
  have hp0 : (0 : Int) = su (fun i => pos1 (((A5 1)) i)) 53 := CTP_0 ga5
  suffices hl12 : ∀ (m : Nat), ∀ (ls : rO) (σ : rS) (F_12 : hF) (A_12 : hA) (x12_2 : Int) (x12_3 : Int), rlook ls 0 = some (.ref (D 0)) → rlook ls 1 = some (I (1)) → rlook ls 2 = some (I (x12_2)) → rlook ls 3 = some (I (x12_3)) → HW V146_c11 σ D N F_12 A_12 → OUT (V146_c11).length D N σE c s D N σ c s → SF [] F F_12 → SA [1] A5 A_12 → ∀ w12_1 : Int → Int, A_12 1 = w12_1 → (inr (x12_2)) → (inr (x12_3)) → ((0) ≤ (x12_3)) → ((x12_3) ≤ (0) ∨ (x12_3) ≤ ((u3_4))) → (CTN ((w4)) ((w12_1)) ((x12_3)) 53) → ((x12_2) = su (fun i => pos1 (((w12_1)) i)) 53) → (0 ≤ (x12_2) ∧ (x12_2) ≤ (x12_3)) → (((u3_4)) - (x12_3)).toNat = m → Ew 146 (d + 1) 12 ls [] σ c s Q from
    hl12 _ _ _ _ _ (0) (0) (rk_o (rk_o (rfl) rfl rfl) rfl rfl) (rk_o (rk_o (rfl) rfl rfl) rfl rfl) (rk_o (rk_s) rfl rfl) (rk_s) H O (SF_refl) (SA_refl)    (A5 1) (rfl) (show inr (0) from q_2) (show inr (0) from q_2) (show (0) ≤ (0) from q_1) (show (0) ≤ (0) ∨ (0) ≤ ((u3_4)) from q_5) (hc0) (show (0) = su (fun i => pos1 (((A5 1)) i)) 53 by assumption) (show 0 ≤ (0) ∧ (0) ≤ (0) from q_4) rfl
  as_aux_lemma =>
  intro m
  induction m using Nat.strongRecOn with
  | _ m ih12 =>
    intro ls σ F_12 A_12 x12_2 x12_3 l12_0 l12_1 l12_2 l12_3 H O hS_12 hA_12    w12_1 ew12_1 j12_0 j12_1 j12_2 j12_3 j12_4 j12_5 j12_6 hm12
    have cF_12 : SF oz_K1clsl_1 F F_12 := SF_trans (SF_refl) hS_12 (any_sub (by decide +kernel))
    have mF_12 := SFm_of cF_12 oz_K1cls_2
    have cA_12 : SA oz_K1clsl_0 A A_12 := SA_trans (cA5) hA_12 (any_subA (by decide +kernel))
    have mA_12 := SAm_of cA_12 oz_K1cls_1
    have hct : CTN ((w4)) ((w12_1)) ((x12_3)) 53 := j12_4
    have hps : (x12_2) = su (fun i => pos1 (((w12_1)) i)) 53 := by assumption
    refine Ew_of (pcₚ := 13) (fun _ => x_iload_n rfl l12_3) ?_
    refine Ew_of (pcₚ := 14) (fun _ => x_aload_n rfl l12_0) ?_
    refine v_g H (o := 0) (v := .ref (D 3)) rfl rfl rfl rfl rfl (vrf ((mF_12 0 1 rfl).trans (pf3))) ?_
    refine v_g H (o := 3) (v := I (u3_4)) rfl rfl rfl rfl rfl (congrArg (fun z : Int => I z) (((mF_12 3 4 rfl).trans (eu3_4)) : F_12 3 4 = u3_4)) ?_
    refine w_icmpge (t := 68) rfl rfl (show inr (x12_3) from j12_1) (show inr (u3_4) from q_38 h2) (fun b6 => ?_) (fun b6 => ?_)
    · have hl3 : (x12_3) = (u3_4) := by (have qg0 := HIDe r1; omega)
      have hct2 : CTN ((w4)) ((w12_1)) ((u3_4)) 53 := by rw [← hl3]; assumption
      have hps2 : (x12_2) = su (fun i => pos1 (((w12_1)) i)) 53 := hps
      have hpl := CTP_le hps2
      refine Ew_of (pcₚ := 69) (fun _ => x_iload_n rfl l12_2) ?_
      exact w_ireturn rfl (k (x12_2) _ _ _ H O (cF_12) (cA_12) (w12_1) (ew12_1) (show inr (x12_2) from j12_0) (hct2) (show (x12_2) = su (fun i => pos1 (((w12_1)) i)) 53 by omega) (show 0 ≤ (x12_2) ∧ (x12_2) ≤ 53 by omega))
    · refine Ew_of (pcₚ := 24) (fun _ => x_aload_n rfl l12_0) ?_
      refine v_g H (o := 0) (v := .ref (D 2)) rfl rfl rfl rfl rfl (vrf ((mF_12 0 13 rfl).trans (pf2))) ?_
      refine Ew_of (pcₚ := 28) (fun _ => x_iload_n rfl l12_1) ?_
      refine v_lR H (o := 2) rfl rfl rfl rfl rfl (n := n2) (en2) (show 0 ≤ 1 ∧ 1 < n2 from q_4341 (HIDe r3) h1) (z := ((D 4 : Nat) : Int)) (v := .ref (D 4)) ((mA_12 2 rfl 1).trans (pf4)) (vrf rfl) ?_
      refine Ew_of (pcₚ := 30) (fun _ => x_iload_n rfl l12_3) ?_
      refine v_lI H (o := 4) rfl rfl rfl rfl (n := n4) (en4) (show 0 ≤ x12_3 ∧ x12_3 < n4 from q_4335 b6 h2 j12_2) (fun v7 ev7 (qv7 : HID _) => ?_)
      have ev7 : (w4) (x12_3) = v7 := (congrFun ((funext (mA_12 4 rfl)).trans (ew4)) (x12_3)).symm.trans ev7
      have hrv := ev7
      have hrr := hrg ((x12_3)) (by omega) (by omega)
      rw [hrv] at hrr
      refine Ew_of (pcₚ := 33) (fun _ => x_istore rfl) ?_
      refine Ew_of (pcₚ := 34) (fun _ => x_iload_n rfl (rk_o (l12_2) rfl rfl)) ?_
      refine Ew_of (pcₚ := 35) (fun _ => x_aload_n rfl (rk_o (l12_0) rfl rfl)) ?_
      refine v_g H (o := 0) (v := .ref (D 1)) rfl rfl rfl rfl rfl (vrf ((mF_12 0 12 rfl).trans (pf1))) ?_
      refine Ew_of (pcₚ := 40) (fun _ => x_iload rfl rk_s) ?_
      refine v_lI H (o := 1) rfl rfl rfl rfl (n := n1) (en1) (show 0 ≤ v7 ∧ v7 < n1 by have qh0 := HIDe qv7; have qh1 := HIDe r2; omega) (fun v8 ev8 (qv8 : HID _) => ?_)
      have ev8 : (w12_1) (v7) = v8 := (congrFun (ew12_1) (v7)).symm.trans ev8
      have hcv := ev8
      have hcl := CTN_le hct (s := (v7)) (by (have qg0 := HIDe qv7; omega)) (by (have qg0 := HIDe qv7; omega)) (by (have qg0 := HIDe qv7; omega))
      rw [hcv] at hcl
      have hc49 : ∀ (tc49_0 : Int), ∀ (ls : rO) (σ : rS) (F_c49 : hF) (A_c49 : hA) , rlook ls 0 = some (.ref (D 0)) → rlook ls 1 = some (I (1)) → rlook ls 3 = some (I (x12_3)) → rlook ls 4 = some (I (v7)) → HW V146_c11 σ D N F_c49 A_c49 → OUT (V146_c11).length D N σE c s D N σ c s → SF [] F_12 F_c49 → SA [] A_12 A_c49 → (inr (tc49_0)) → (((v8) ≠ (0) ∧ (tc49_0) = (0)) ∨ ((v8) = (0) ∧ (tc49_0) = (1))) → Ew 146 (d + 1) 49 ls [I (tc49_0), I (x12_2)] σ c s Q := by
       as_aux_lemma =>
        intro tc49_0 ls σ F_c49 A_c49  lc49_0 lc49_1 lc49_3 lc49_4 H O hS_c49 hA_c49     jc49_0 jc49_1
        have cF_c49 : SF oz_K1clsl_1 F F_c49 := SF_trans (cF_12) hS_c49 (any_sub (by decide +kernel))
        have mF_c49 := SFm_of cF_c49 oz_K1cls_2
        have cA_c49 : SA oz_K1clsl_0 A A_c49 := SA_trans (cA_12) hA_c49 (any_subA (by decide +kernel))
        have mA_c49 := SAm_of cA_c49 oz_K1cls_1
        refine w_iadd rfl ?_
        refine Ew_of (pcₚ := 51) (fun _ => x_istore_n rfl) ?_
        refine Ew_of (pcₚ := 52) (fun _ => x_aload_n rfl (rk_o (lc49_0) rfl rfl)) ?_
        refine v_g H (o := 0) (v := .ref (D 1)) rfl rfl rfl rfl rfl (vrf ((mF_c49 0 12 rfl).trans (pf1))) ?_
        refine Ew_of (pcₚ := 57) (fun _ => x_iload rfl (rk_o (lc49_4) rfl rfl)) ?_
        refine Ew_of (pcₚ := 58) (fun _ => x_dup2 rfl rfl rfl) ?_
        refine v_lI H (o := 1) rfl rfl rfl rfl (n := n1) (en1) (show 0 ≤ v7 ∧ v7 < n1 by have qh0 := HIDe qv7; have qh1 := HIDe r2; omega) (fun v9 ev9 (qv9 : HID _) => ?_)
        have ev9 : (w12_1) (v7) = v9 := (congrFun ((funext (hA_c49 1 rfl)).trans (ew12_1)) (v7)).symm.trans ev9
        have hcw := ev9
        refine Ew_of (pcₚ := 60) (fun _ => x_iconst rfl) ?_
        refine w_iadd rfl ?_
        refine v_sI H (o := 1) (z := (v9 + 1)) rfl rfl rfl rfl (n := n1) (en1) (show 0 ≤ v7 ∧ v7 < n1 by have qh0 := HIDe qv7; have qh1 := HIDe r2; omega) (show inr ((v9 + 1)) by have qh0 := HIDe qv9; omega) (fun σ H Oₚ => ?_)
        have O := OUT_trans O Oₚ
        have cAu10 : SA oz_K1clsl_0 A (updA A_c49 1 (v7) ((v9 + 1))) := SA_upd (cA_c49) rfl
        have mAu10 := SAm_of cAu10 oz_K1cls_1
        refine Ew_of (pcₚ := 65) (fun _ => x_iinc (len := 3) rfl (rk_o (lc49_3) rfl rfl)) ?_
        refine Ew_of (pcₚ := 12) (fun _ => x_goto rfl rfl) ?_
        have hcs : CTN ((w4)) ((upd1 (w12_1) (v7) ((v9 + 1)))) (((x12_3 + 1))) 53 := CTN_s hct (by (have qg0 := HIDe qv7; have qg1 := HIDe qv9; omega)) rfl hrv (by (have qg0 := HIDe qv7; have qg1 := HIDe qv9; omega))
        have hpt : ((x12_2 + tc49_0)) = su (fun i => pos1 (((upd1 (w12_1) (v7) ((v9 + 1)))) i)) 53 := CTP_s hps (by (have qg0 := HIDe qv7; have qg1 := HIDe qv9; omega)) (by (have qg0 := HIDe qv7; have qg1 := HIDe qv9; omega)) hcv (by (have qg0 := HIDe qv7; have qg1 := HIDe qv9; omega)) (by (have qg0 := HIDe qv7; have qg1 := HIDe qv9; omega)) (by (have qg0 := HIDe qv7; have qg1 := HIDe qv9; omega))
        exact ih12 _ (msE hm12 q_16 (q_17 b6)) _ _ _ _ ((x12_2 + tc49_0)) ((x12_3 + 1)) (rk_o (rk_o (lc49_0) rfl rfl) rfl rfl) (rk_o (rk_o (lc49_1) rfl rfl) rfl rfl) (rk_o (rk_s) rfl rfl) (rk_s) H O (SF_trans (hS_12) hS_c49 (any_sub (by decide +kernel))) (SA_upd (SA_trans (hA_12) hA_c49 (any_subA (by decide +kernel))) rfl)    (upd1 (w12_1) (v7) ((v9 + 1))) (congrArg (fun q => upd1 q (v7) ((v9 + 1))) ((funext (hA_c49 1 rfl)).trans (ew12_1))) (show inr ((x12_2 + tc49_0)) from q_4338 b6 h2 j12_0 j12_6 jc49_0 jc49_1) (show inr ((x12_3 + 1)) from q_4337 b6 h2 j12_2) (show (0) ≤ ((x12_3 + 1)) from q_14 j12_2) (show ((x12_3 + 1)) ≤ (0) ∨ ((x12_3 + 1)) ≤ ((u3_4)) from q_13 b6) (hcs) (hpt) (show 0 ≤ ((x12_2 + tc49_0)) ∧ ((x12_2 + tc49_0)) ≤ ((x12_3 + 1)) from q_4336 j12_6 jc49_1) rfl
      refine w_ifne (t := 48) rfl rfl (show inr (v8) from (HIDe qv8)) (fun b11 => ?_) (fun b11 => ?_)
      · refine Ew_of (pcₚ := 49) (fun _ => x_iconst rfl) ?_
        exact hc49 (0) _ _ _ _  (rk_o (l12_0) rfl rfl) (rk_o (l12_1) rfl rfl) (rk_o (l12_3) rfl rfl) (rk_s) H O (SF_refl) (SA_refl)     (show inr (0) from q_2) (show ((v8) ≠ (0) ∧ (0) = (0)) ∨ ((v8) = (0) ∧ (0) = (1)) from q_4339 b11)
      · refine Ew_of (pcₚ := 45) (fun _ => x_iconst rfl) ?_
        refine Ew_of (pcₚ := 49) (fun _ => x_goto rfl rfl) ?_
        exact hc49 (1) _ _ _ _  (rk_o (l12_0) rfl rfl) (rk_o (l12_1) rfl rfl) (rk_o (l12_3) rfl rfl) (rk_s) H O (SF_refl) (SA_refl)     (show inr (1) from h0) (show ((v8) ≠ (0) ∧ (1) = (0)) ∨ ((v8) = (0) ∧ (1) = (1)) from q_4340 b11)
abbrev V146_c12 : vV := [(0, 6, [(4, 0), (4, 0), (4, 0), (4, 0), (4, 0), (4, 0), (4, 0), (4, 0), (4, 0), (4, 0), (4, 0), (4, 0), (4, 0), (4, 0), (4, 0), (0, 0), (0, 0), (4, 0), (4, 0)]), (1, 1, []), (1, 7, []), (0, 5, [(4, 0), (4, 0), (4, 0), (4, 0), (0, 0), (0, 0), (0, 0), (4, 0), (4, 0), (0, 0), (0, 0), (0, 0), (0, 0), (0, 0), (0, 0), (0, 0), (0, 0), (0, 0), (0, 0)]), (1, 1, [])]
theorem len_V146_c12_oz_K1cls : (V146_c12).length = 5 := by decide +kernel

theorem C146_c12 {σE : rS} {D N : Nat → Nat} {F : hF} {A : hA} {d c s : Nat} {Q : wQ} (H : HW V146_c12 σE D N F A)  (pf1 : HID (F 0 12 = (D 1 : Int))) (pf2 : HID (F 0 13 = (D 2 : Int))) (pf3 : HID (F 0 1 = (D 3 : Int))) (pf4 : HID (A 2 2 = (D 4 : Int))) (n1 : Int) (en1 : HID ((N 1 : Int) = n1)) (n2 : Int) (en2 : HID ((N 2 : Int) = n2)) (n4 : Int) (en4 : HID ((N 4 : Int) = n4)) (u3_4 : Int) (eu3_4 : HID (F 3 4 = u3_4)) (w1 : Int → Int) (ew1 : A 1 = w1) (w4 : Int → Int) (ew4 : A 4 = w4) (h0 : inr (2)) (h1 : (n1) = 53 ∧ (n2) = 3) (h2 : 0 ≤ (u3_4) ∧ (u3_4) ≤ (n4) ∧ (n4) ≤ 65536) (h3 : RNG ((w4)) ((u3_4)) 53) (k : ∀ (z : Int) (σ : rS) (Fₚ : hF) (Aₚ : hA), HW V146_c12 σ D N Fₚ Aₚ → OUT (V146_c12).length D N σE c s D N σ c s → SF [] F Fₚ → SA [1] A Aₚ → ∀ v1 : Int → Int, Aₚ 1 = v1 → (inr (z)) → (CTN ((w4)) ((v1)) ((u3_4)) 53) → ((z) = su (fun i => pos1 (((v1)) i)) 53) → (0 ≤ (z) ∧ (z) ≤ 53) → Q (some (I z)) σ c s) : Ew 146 (d + 1) 0 (rargs 0 [.ref (D 0), I 2]) [] σE c s Q := by
  have O := OUT_refl (n := (V146_c12).length) (D := D) (N := N) (σ := σE) (c := c) (s := s)
  have HE := H
  have r1 : HID ((-2147483648 : Int) ≤ u3_4 ∧ u3_4 ≤ 2147483647) := krg_e (show (-2147483648 : Int) ≤ F 3 4 ∧ F 3 4 ≤ 2147483647 from H.krg 3 4 (ltn len_V146_c12_oz_K1cls rfl)) (show F 3 4 = u3_4 from (eu3_4))
  have r2 : HID ((0 : Int) ≤ n1 ∧ n1 ≤ 1000000) := nrng (H.nle 1 (ltn len_V146_c12_oz_K1cls rfl)) (show (N 1 : Int) = n1 from en1)
  have hrg : RNG ((w4)) ((u3_4)) 53 := h3
  refine Ew_of (pcₚ := 1) (fun _ => x_aload_n rfl rfl) ?_
  refine v_g H (o := 0) (v := .ref (D 1)) rfl rfl rfl rfl rfl (vrf (pf1)) ?_
  refine Ew_of (pcₚ := 5) (fun _ => x_iconst rfl) ?_
  refine v_fil H (t := 1) (v := 0) rfl rfl rfl rfl rfl (show inr (0) from q_2) (fun σ A5 H Oₚ hA5 ga5 => ?_)
  have O := OUT_trans O Oₚ
  have cA5 : SA oz_K1clsl_0 A A5 := SA_trans (SA_refl) hA5 (any_subA (by decide +kernel))
  have mA5 := SAm_of cA5 oz_K1cls_1
  refine Ew_of (pcₚ := 9) (fun _ => x_iconst rfl) ?_
  refine Ew_of (pcₚ := 10) (fun _ => x_istore_n rfl) ?_
  refine Ew_of (pcₚ := 11) (fun _ => x_iconst rfl) ?_
  refine Ew_of (pcₚ := 12) (fun _ => x_istore_n rfl) ?_
  have hc0 : CTN ((w4)) ((A5 1)) (0) 53 := CTN_0 ga5
  have hp0 : (0 : Int) = su (fun i => pos1 (((A5 1)) i)) 53 := CTP_0 ga5
  suffices hl12 : ∀ (m : Nat), ∀ (ls : rO) (σ : rS) (F_12 : hF) (A_12 : hA) (x12_2 : Int) (x12_3 : Int), rlook ls 0 = some (.ref (D 0)) → rlook ls 1 = some (I (2)) → rlook ls 2 = some (I (x12_2)) → rlook ls 3 = some (I (x12_3)) → HW V146_c12 σ D N F_12 A_12 → OUT (V146_c12).length D N σE c s D N σ c s → SF [] F F_12 → SA [1] A5 A_12 → ∀ w12_1 : Int → Int, A_12 1 = w12_1 → (inr (x12_2)) → (inr (x12_3)) → ((0) ≤ (x12_3)) → ((x12_3) ≤ (0) ∨ (x12_3) ≤ ((u3_4))) → (CTN ((w4)) ((w12_1)) ((x12_3)) 53) → ((x12_2) = su (fun i => pos1 (((w12_1)) i)) 53) → (0 ≤ (x12_2) ∧ (x12_2) ≤ (x12_3)) → (((u3_4)) - (x12_3)).toNat = m → Ew 146 (d + 1) 12 ls [] σ c s Q from
    hl12 _ _ _ _ _ (0) (0) (rk_o (rk_o (rfl) rfl rfl) rfl rfl) (rk_o (rk_o (rfl) rfl rfl) rfl rfl) (rk_o (rk_s) rfl rfl) (rk_s) H O (SF_refl) (SA_refl)    (A5 1) (rfl) (show inr (0) from q_2) (show inr (0) from q_2) (show (0) ≤ (0) from q_1) (show (0) ≤ (0) ∨ (0) ≤ ((u3_4)) from q_5) (hc0) (show (0) = su (fun i => pos1 (((A5 1)) i)) 53 by assumption) (show 0 ≤ (0) ∧ (0) ≤ (0) from q_4) rfl
  as_aux_lemma =>
  intro m
  induction m using Nat.strongRecOn with
  | _ m ih12 =>
    intro ls σ F_12 A_12 x12_2 x12_3 l12_0 l12_1 l12_2 l12_3 H O hS_12 hA_12    w12_1 ew12_1 j12_0 j12_1 j12_2 j12_3 j12_4 j12_5 j12_6 hm12
    have cF_12 : SF oz_K1clsl_1 F F_12 := SF_trans (SF_refl) hS_12 (any_sub (by decide +kernel))
    have mF_12 := SFm_of cF_12 oz_K1cls_2
    have cA_12 : SA oz_K1clsl_0 A A_12 := SA_trans (cA5) hA_12 (any_subA (by decide +kernel))
    have mA_12 := SAm_of cA_12 oz_K1cls_1
    have hct : CTN ((w4)) ((w12_1)) ((x12_3)) 53 := j12_4
    have hps : (x12_2) = su (fun i => pos1 (((w12_1)) i)) 53 := by assumption
    refine Ew_of (pcₚ := 13) (fun _ => x_iload_n rfl l12_3) ?_
    refine Ew_of (pcₚ := 14) (fun _ => x_aload_n rfl l12_0) ?_
    refine v_g H (o := 0) (v := .ref (D 3)) rfl rfl rfl rfl rfl (vrf ((mF_12 0 1 rfl).trans (pf3))) ?_
    refine v_g H (o := 3) (v := I (u3_4)) rfl rfl rfl rfl rfl (congrArg (fun z : Int => I z) (((mF_12 3 4 rfl).trans (eu3_4)) : F_12 3 4 = u3_4)) ?_
    refine w_icmpge (t := 68) rfl rfl (show inr (x12_3) from j12_1) (show inr (u3_4) from q_38 h2) (fun b6 => ?_) (fun b6 => ?_)
    · have hl3 : (x12_3) = (u3_4) := by (have qg0 := HIDe r1; omega)
      have hct2 : CTN ((w4)) ((w12_1)) ((u3_4)) 53 := by rw [← hl3]; assumption
      have hps2 : (x12_2) = su (fun i => pos1 (((w12_1)) i)) 53 := hps
      have hpl := CTP_le hps2
      refine Ew_of (pcₚ := 69) (fun _ => x_iload_n rfl l12_2) ?_
      exact w_ireturn rfl (k (x12_2) _ _ _ H O (cF_12) (cA_12) (w12_1) (ew12_1) (show inr (x12_2) from j12_0) (hct2) (show (x12_2) = su (fun i => pos1 (((w12_1)) i)) 53 by omega) (show 0 ≤ (x12_2) ∧ (x12_2) ≤ 53 by omega))
    · refine Ew_of (pcₚ := 24) (fun _ => x_aload_n rfl l12_0) ?_
      refine v_g H (o := 0) (v := .ref (D 2)) rfl rfl rfl rfl rfl (vrf ((mF_12 0 13 rfl).trans (pf2))) ?_
      refine Ew_of (pcₚ := 28) (fun _ => x_iload_n rfl l12_1) ?_
      refine v_lR H (o := 2) rfl rfl rfl rfl rfl (n := n2) (en2) (show 0 ≤ 2 ∧ 2 < n2 from q_4342 h1) (z := ((D 4 : Nat) : Int)) (v := .ref (D 4)) ((mA_12 2 rfl 2).trans (pf4)) (vrf rfl) ?_
      refine Ew_of (pcₚ := 30) (fun _ => x_iload_n rfl l12_3) ?_
      refine v_lI H (o := 4) rfl rfl rfl rfl (n := n4) (en4) (show 0 ≤ x12_3 ∧ x12_3 < n4 from q_4335 b6 h2 j12_2) (fun v7 ev7 (qv7 : HID _) => ?_)
      have ev7 : (w4) (x12_3) = v7 := (congrFun ((funext (mA_12 4 rfl)).trans (ew4)) (x12_3)).symm.trans ev7
      have hrv := ev7
      have hrr := hrg ((x12_3)) (by omega) (by omega)
      rw [hrv] at hrr
      refine Ew_of (pcₚ := 33) (fun _ => x_istore rfl) ?_
      refine Ew_of (pcₚ := 34) (fun _ => x_iload_n rfl (rk_o (l12_2) rfl rfl)) ?_
      refine Ew_of (pcₚ := 35) (fun _ => x_aload_n rfl (rk_o (l12_0) rfl rfl)) ?_
      refine v_g H (o := 0) (v := .ref (D 1)) rfl rfl rfl rfl rfl (vrf ((mF_12 0 12 rfl).trans (pf1))) ?_
      refine Ew_of (pcₚ := 40) (fun _ => x_iload rfl rk_s) ?_
      refine v_lI H (o := 1) rfl rfl rfl rfl (n := n1) (en1) (show 0 ≤ v7 ∧ v7 < n1 by have qh0 := HIDe qv7; have qh1 := HIDe r2; omega) (fun v8 ev8 (qv8 : HID _) => ?_)
      have ev8 : (w12_1) (v7) = v8 := (congrFun (ew12_1) (v7)).symm.trans ev8
      have hcv := ev8
      have hcl := CTN_le hct (s := (v7)) (by (have qg0 := HIDe qv7; omega)) (by (have qg0 := HIDe qv7; omega)) (by (have qg0 := HIDe qv7; omega))
      rw [hcv] at hcl
      have hc49 : ∀ (tc49_0 : Int), ∀ (ls : rO) (σ : rS) (F_c49 : hF) (A_c49 : hA) , rlook ls 0 = some (.ref (D 0)) → rlook ls 1 = some (I (2)) → rlook ls 3 = some (I (x12_3)) → rlook ls 4 = some (I (v7)) → HW V146_c12 σ D N F_c49 A_c49 → OUT (V146_c12).length D N σE c s D N σ c s → SF [] F_12 F_c49 → SA [] A_12 A_c49 → (inr (tc49_0)) → (((v8) ≠ (0) ∧ (tc49_0) = (0)) ∨ ((v8) = (0) ∧ (tc49_0) = (1))) → Ew 146 (d + 1) 49 ls [I (tc49_0), I (x12_2)] σ c s Q := by
       as_aux_lemma =>
        intro tc49_0 ls σ F_c49 A_c49  lc49_0 lc49_1 lc49_3 lc49_4 H O hS_c49 hA_c49     jc49_0 jc49_1
        have cF_c49 : SF oz_K1clsl_1 F F_c49 := SF_trans (cF_12) hS_c49 (any_sub (by decide +kernel))
        have mF_c49 := SFm_of cF_c49 oz_K1cls_2
        have cA_c49 : SA oz_K1clsl_0 A A_c49 := SA_trans (cA_12) hA_c49 (any_subA (by decide +kernel))
        have mA_c49 := SAm_of cA_c49 oz_K1cls_1
        refine w_iadd rfl ?_
        refine Ew_of (pcₚ := 51) (fun _ => x_istore_n rfl) ?_
        refine Ew_of (pcₚ := 52) (fun _ => x_aload_n rfl (rk_o (lc49_0) rfl rfl)) ?_
        refine v_g H (o := 0) (v := .ref (D 1)) rfl rfl rfl rfl rfl (vrf ((mF_c49 0 12 rfl).trans (pf1))) ?_
        refine Ew_of (pcₚ := 57) (fun _ => x_iload rfl (rk_o (lc49_4) rfl rfl)) ?_
        refine Ew_of (pcₚ := 58) (fun _ => x_dup2 rfl rfl rfl) ?_
        refine v_lI H (o := 1) rfl rfl rfl rfl (n := n1) (en1) (show 0 ≤ v7 ∧ v7 < n1 by have qh0 := HIDe qv7; have qh1 := HIDe r2; omega) (fun v9 ev9 (qv9 : HID _) => ?_)
        have ev9 : (w12_1) (v7) = v9 := (congrFun ((funext (hA_c49 1 rfl)).trans (ew12_1)) (v7)).symm.trans ev9
        have hcw := ev9
        refine Ew_of (pcₚ := 60) (fun _ => x_iconst rfl) ?_
        refine w_iadd rfl ?_
        refine v_sI H (o := 1) (z := (v9 + 1)) rfl rfl rfl rfl (n := n1) (en1) (show 0 ≤ v7 ∧ v7 < n1 by have qh0 := HIDe qv7; have qh1 := HIDe r2; omega) (show inr ((v9 + 1)) by have qh0 := HIDe qv9; omega) (fun σ H Oₚ => ?_)
        have O := OUT_trans O Oₚ
        have cAu10 : SA oz_K1clsl_0 A (updA A_c49 1 (v7) ((v9 + 1))) := SA_upd (cA_c49) rfl
        have mAu10 := SAm_of cAu10 oz_K1cls_1
        refine Ew_of (pcₚ := 65) (fun _ => x_iinc (len := 3) rfl (rk_o (lc49_3) rfl rfl)) ?_
        refine Ew_of (pcₚ := 12) (fun _ => x_goto rfl rfl) ?_
        have hcs : CTN ((w4)) ((upd1 (w12_1) (v7) ((v9 + 1)))) (((x12_3 + 1))) 53 := CTN_s hct (by (have qg0 := HIDe qv7; have qg1 := HIDe qv9; omega)) rfl hrv (by (have qg0 := HIDe qv7; have qg1 := HIDe qv9; omega))
        have hpt : ((x12_2 + tc49_0)) = su (fun i => pos1 (((upd1 (w12_1) (v7) ((v9 + 1)))) i)) 53 := CTP_s hps (by (have qg0 := HIDe qv7; have qg1 := HIDe qv9; omega)) (by (have qg0 := HIDe qv7; have qg1 := HIDe qv9; omega)) hcv (by (have qg0 := HIDe qv7; have qg1 := HIDe qv9; omega)) (by (have qg0 := HIDe qv7; have qg1 := HIDe qv9; omega)) (by (have qg0 := HIDe qv7; have qg1 := HIDe qv9; omega))
        exact ih12 _ (msE hm12 q_16 (q_17 b6)) _ _ _ _ ((x12_2 + tc49_0)) ((x12_3 + 1)) (rk_o (rk_o (lc49_0) rfl rfl) rfl rfl) (rk_o (rk_o (lc49_1) rfl rfl) rfl rfl) (rk_o (rk_s) rfl rfl) (rk_s) H O (SF_trans (hS_12) hS_c49 (any_sub (by decide +kernel))) (SA_upd (SA_trans (hA_12) hA_c49 (any_subA (by decide +kernel))) rfl)    (upd1 (w12_1) (v7) ((v9 + 1))) (congrArg (fun q => upd1 q (v7) ((v9 + 1))) ((funext (hA_c49 1 rfl)).trans (ew12_1))) (show inr ((x12_2 + tc49_0)) from q_4338 b6 h2 j12_0 j12_6 jc49_0 jc49_1) (show inr ((x12_3 + 1)) from q_4337 b6 h2 j12_2) (show (0) ≤ ((x12_3 + 1)) from q_14 j12_2) (show ((x12_3 + 1)) ≤ (0) ∨ ((x12_3 + 1)) ≤ ((u3_4)) from q_13 b6) (hcs) (hpt) (show 0 ≤ ((x12_2 + tc49_0)) ∧ ((x12_2 + tc49_0)) ≤ ((x12_3 + 1)) from q_4336 j12_6 jc49_1) rfl
      refine w_ifne (t := 48) rfl rfl (show inr (v8) from (HIDe qv8)) (fun b11 => ?_) (fun b11 => ?_)
      · refine Ew_of (pcₚ := 49) (fun _ => x_iconst rfl) ?_
        exact hc49 (0) _ _ _ _  (rk_o (l12_0) rfl rfl) (rk_o (l12_1) rfl rfl) (rk_o (l12_3) rfl rfl) (rk_s) H O (SF_refl) (SA_refl)     (show inr (0) from q_2) (show ((v8) ≠ (0) ∧ (0) = (0)) ∨ ((v8) = (0) ∧ (0) = (1)) from q_4339 b11)
      · refine Ew_of (pcₚ := 45) (fun _ => x_iconst rfl) ?_
        refine Ew_of (pcₚ := 49) (fun _ => x_goto rfl rfl) ?_
        exact hc49 (1) _ _ _ _  (rk_o (l12_0) rfl rfl) (rk_o (l12_1) rfl rfl) (rk_o (l12_3) rfl rfl) (rk_s) H O (SF_refl) (SA_refl)     (show inr (1) from q_135) (show ((v8) ≠ (0) ∧ (1) = (0)) ∨ ((v8) = (0) ∧ (1) = (1)) from q_4340 b11)


end
section
/-! K2.cls -/
abbrev V148_Row_Share : vV := [(0, 6, [(4, 0), (4, 0), (4, 0), (4, 0), (4, 0), (4, 0), (4, 0), (4, 0), (4, 0), (4, 0), (4, 0), (4, 0), (4, 0), (4, 0), (4, 0), (0, 0), (0, 0), (4, 0), (4, 0)]), (0, 7, [(4, 0), (0, 0), (1, 0), (0, 0), (0, 0)]), (0, 8, [(0, 0), (0, 0), (4, 0), (4, 0), (4, 0), (4, 0), (4, 0), (4, 0), (4, 0), (4, 0), (4, 0), (0, 0), (0, 0)]), (0, 5, [(4, 0), (4, 0), (4, 0), (4, 0), (0, 0), (0, 0), (0, 0), (4, 0), (4, 0), (0, 0), (0, 0), (0, 0), (0, 0), (0, 0), (0, 0), (0, 0), (0, 0), (0, 0), (0, 0)]), (1, 1, []), (1, 1, []), (1, 0, [])]
theorem len_V148_Row_Share_oz_K2cls : (V148_Row_Share).length = 7 := by decide +kernel
theorem oz_K2cls_1 : vsub V148_Row_Share V178_Ir [2, 4, 5] = true := by decide +kernel
theorem oz_K2cls_2 : vsub V148_Row_Share V157 [1, 6] = true := by decide +kernel
theorem oz_K2cls_3 : vmov V148_Row_Share [1, 6] [1] = true := by decide +kernel
theorem oz_K2cls_4 : vsub V148_Row_Share V181_Row [2, 1, 5, 6] = true := by decide +kernel
def oz_K2clsl_0 : List (Nat × Nat) := [(1, 0), (1, 1), (1, 2), (1, 3), (1, 4), (2, 0)]
theorem oz_K2cls_5 : (oz_K2clsl_0).all (fun p => !tbz 18446744206853537792 (Nat.add (Nat.mul 32 p.1) p.2)) = true := by decide +kernel
def oz_K2clsl_1 : List Nat := [5, 6]
theorem oz_K2cls_6 : (oz_K2clsl_1).all (fun p => !tbz 96 p) = true := by decide +kernel
def oz_K2clsl_2 : List Nat := [6]
theorem oz_K2cls_7 : (oz_K2clsl_2).all (fun p => !tbz 64 p) = true := by decide +kernel
def oz_K2clsl_3 : List Nat := [2, 4, 5]
theorem oz_K2cls_8 : okc oz_K2clsl_3 1312770 = true := by decide +kernel
def oz_K2clsl_4 : List Nat := [1, 6]
theorem oz_K2cls_9 : okc oz_K2clsl_4 3073 = true := by decide +kernel
def oz_K2clsl_5 : List Nat := [2, 1, 5, 6]
theorem oz_K2cls_10 : okc oz_K2clsl_5 806617602 = true := by decide +kernel

theorem C148_Row_Share {σE : rS} {D N : Nat → Nat} {F : hF} {A : hA} {d c s : Nat} {Q : wQ} (H : HW V148_Row_Share σE D N F A) {a3 : Int} (pf3 : HID (F 0 1 = (D 3 : Int))) (pf4 : HID (F 0 12 = (D 4 : Int))) (pf5 : HID (F 2 2 = (D 5 : Int))) (pf6 : HID (F 1 0 = (D 6 : Int))) (n4 : Int) (en4 : HID ((N 4 : Int) = n4)) (n5 : Int) (en5 : HID ((N 5 : Int) = n5)) (n6 : Int) (en6 : HID ((N 6 : Int) = n6)) (u1_1 : Int) (eu1_1 : HID (F 1 1 = u1_1)) (u1_2 : Int) (eu1_2 : HID (F 1 2 = u1_2)) (u1_3 : Int) (eu1_3 : HID (F 1 3 = u1_3)) (u1_4 : Int) (eu1_4 : HID (F 1 4 = u1_4)) (u2_0 : Int) (eu2_0 : HID (F 2 0 = u2_0)) (u2_1 : Int) (eu2_1 : HID (F 2 1 = u2_1)) (u3_4 : Int) (eu3_4 : HID (F 3 4 = u3_4)) (w4 : Int → Int) (ew4 : A 4 = w4) (w5 : Int → Int) (ew5 : A 5 = w5) (w6 : Int → Int) (ew6 : A 6 = w6) (h0 : inr (a3)) (h1 : CNT ((w4)) ((u2_1)) ((u3_4)) (a3)) (h2 : (u2_1) ≤ (n4) ∧ (n5) = (u2_1)) (h3 : 0 ≤ (u1_1) ∧ (u1_1) ≤ (n6) ∧ (n6) ≤ 65536) (h4 : 0 ≤ (u1_4) ∧ (u1_4) ≤ 7) (k : ∀ (σ : rS) (Dₚ Nₚ : Nat → Nat) (Fₚ : hF) (Aₚ : hA) (cₚ sₚ : Nat), HW V148_Row_Share σ Dₚ Nₚ Fₚ Aₚ → OUT (V148_Row_Share).length D N σE c s Dₚ Nₚ σ cₚ sₚ → SD [6] D Dₚ → SD [6] N Nₚ → SF [(1, 0), (1, 1), (1, 2), (1, 3), (1, 4), (2, 0)] F Fₚ → SA [5, 6] A Aₚ → Fₚ 1 0 = (Dₚ 6 : Int) → ∀ m6 : Int, (Nₚ 6 : Int) = m6 → ∀ y1_1 : Int, Fₚ 1 1 = y1_1 → ∀ y1_2 : Int, Fₚ 1 2 = y1_2 → ∀ y1_3 : Int, Fₚ 1 3 = y1_3 → ∀ y1_4 : Int, Fₚ 1 4 = y1_4 → ∀ y2_0 : Int, Fₚ 2 0 = y2_0 → ∀ v5 : Int → Int, Aₚ 5 = v5 → ∀ v6 : Int → Int, Aₚ 6 = v6 → (SHD ((v5)) ((u2_1)) ((y2_0))) → (DVI ((w4)) ((v5)) ((u2_1))) → ((y2_0) = (a3)) → (0 ≤ (y1_1) ∧ (y1_1) ≤ (m6) ∧ (m6) ≤ 65536) → ((y1_4) = 0) → ((u1_1) ≤ (y1_1)) → (DVF (cutP ((u2_1)) ((w4))) ((u3_4)) (p2 ((a3))) (cutP ((u2_1)) ((v5)))) → (IMP ((u1_1) + 128 ≤ 65536 ∧ (u1_4) = 0 ∧ (u1_3) = 0 ∧ (u1_2) = 0) (sc ((v6)) 0 ((y1_1)) = sc ((w6)) 0 ((u1_1)) ++ byw (STB (cutP ((u2_1)) ((v5))) ((a3))) ∧ (y1_2) = 0 ∧ (y1_1) ≤ (u1_1) + 100)) → ((y1_3) = 0) → Q none σ cₚ sₚ) : Ew 148 (d + 2) 0 (rargs 0 [.ref (D 0), .ref (D 1), .ref (D 2), I a3]) [] σE c s Q := by
  have O := OUT_refl (n := (V148_Row_Share).length) (D := D) (N := N) (σ := σE) (c := c) (s := s)
  have HE := H
  have r1 : HID ((-2147483648 : Int) ≤ u1_1 ∧ u1_1 ≤ 2147483647) := krg_e (show (-2147483648 : Int) ≤ F 1 1 ∧ F 1 1 ≤ 2147483647 from H.krg 1 1 (ltn len_V148_Row_Share_oz_K2cls rfl)) (show F 1 1 = u1_1 from (eu1_1))
  have r2 : HID ((0 : Int) ≤ u1_2 ∧ u1_2 ≤ 1) := krg_e (show (0 : Int) ≤ F 1 2 ∧ F 1 2 ≤ 1 from H.krg 1 2 (ltn len_V148_Row_Share_oz_K2cls rfl)) (show F 1 2 = u1_2 from (eu1_2))
  have r3 : HID ((-2147483648 : Int) ≤ u1_3 ∧ u1_3 ≤ 2147483647) := krg_e (show (-2147483648 : Int) ≤ F 1 3 ∧ F 1 3 ≤ 2147483647 from H.krg 1 3 (ltn len_V148_Row_Share_oz_K2cls rfl)) (show F 1 3 = u1_3 from (eu1_3))
  have r4 : HID ((-2147483648 : Int) ≤ u1_4 ∧ u1_4 ≤ 2147483647) := krg_e (show (-2147483648 : Int) ≤ F 1 4 ∧ F 1 4 ≤ 2147483647 from H.krg 1 4 (ltn len_V148_Row_Share_oz_K2cls rfl)) (show F 1 4 = u1_4 from (eu1_4))
  have r6 : HID ((-2147483648 : Int) ≤ u2_1 ∧ u2_1 ≤ 2147483647) := krg_e (show (-2147483648 : Int) ≤ F 2 1 ∧ F 2 1 ≤ 2147483647 from H.krg 2 1 (ltn len_V148_Row_Share_oz_K2cls rfl)) (show F 2 1 = u2_1 from (eu2_1))
  have r7 : HID ((-2147483648 : Int) ≤ u3_4 ∧ u3_4 ≤ 2147483647) := krg_e (show (-2147483648 : Int) ≤ F 3 4 ∧ F 3 4 ≤ 2147483647 from H.krg 3 4 (ltn len_V148_Row_Share_oz_K2cls rfl)) (show F 3 4 = u3_4 from (eu3_4))
  have hcf := CNT_f (h1)
  refine Ew_of (pcₚ := 1) (fun _ => x_aload_n rfl rfl) ?_
  refine Ew_of (pcₚ := 2) (fun _ => x_aload_n rfl rfl) ?_
  refine v_g H (o := 0) (v := .ref (D 4)) rfl rfl rfl rfl rfl (vrf (pf4)) ?_
  refine Ew_of (pcₚ := 6) (fun _ => x_aload_n rfl rfl) ?_
  refine v_g H (o := 0) (v := .ref (D 3)) rfl rfl rfl rfl rfl (vrf (pf3)) ?_
  refine v_g H (o := 3) (v := I (u3_4)) rfl rfl rfl rfl rfl (congrArg (fun z : Int => I z) ((eu3_4) : F 3 4 = u3_4)) ?_
  refine Ew_of (pcₚ := 13) (fun _ => x_iload_n rfl rfl) ?_
  refine v_inv H (o := 2) rfl rfl rfl rfl rfl rfl (by rfl) (C178_Ir (D := puc 1312770 D) (N := puc 1312770 N) (HW_subc H oz_K2cls_1 oz_K2cls_8) (pf5) (n4) (en4) (n5) (en5) (u2_0) ((eu2_0)) (u2_1) ((eu2_1)) (w4) (ew4) (w5) (ew5) (show inr (u3_4) from q_18 (HIDe r7)) (show inr (a3) from h0) (h1) (show ((u2_1)) ≤ (n4) ∧ (n5) = ((u2_1)) from h2) (fun σ11 F11ₚ A11ₚ Hₚ Oₚ hS11 hA11 y11_0_0 (ey11_0_0 : HID _) w11_2 ew11_2 pz11_0 pz11_1 pz11_2 pz11_3 => ⟨rfl, ?_⟩))
  refine v_backc (c := c) (s := s) H oz_K2cls_1 oz_K2cls_8 Hₚ Oₚ (fun F11 A11 H Oₚ eF11 eA11 => ?_)
  have O := OUT_trans O Oₚ
  -- Share.takeCounts
  have cF11 : SF oz_K2clsl_0 F F11 := SF_trans (SF_refl) (SF_gluc (ι := oz_K2clsl_3) oz_K2cls_8 hS11 eF11 (by decide +kernel)) (any_sub (lₚ := [(2, 0)]) (by decide +kernel))
  have mF11 := SFm_of cF11 oz_K2cls_5
  have cA11 : SA oz_K2clsl_1 A A11 := SA_trans (SA_refl) (SA_gluc (ι := oz_K2clsl_3) oz_K2cls_8 hA11 eA11 (by decide +kernel)) (any_subA (lₚ := [5]) (by decide +kernel))
  have mA11 := SAm_of cA11 oz_K2cls_6
  have r12 : HID ((-2147483648 : Int) ≤ y11_0_0 ∧ y11_0_0 ≤ 2147483647) := krg_e (show (-2147483648 : Int) ≤ F11 2 0 ∧ F11 2 0 ≤ 2147483647 from H.krg 2 0 (ltn len_V148_Row_Share_oz_K2cls rfl)) (show F11 2 0 = y11_0_0 from ((eF11 2 0).trans ey11_0_0))
  have : DVF (cutP ((u2_1)) ((w4))) ((u3_4)) (p2 ((a3))) (cutP ((u2_1)) ((w11_2))) := pz11_3
  refine Ew_of (pcₚ := 17) (fun _ => x_aload_n rfl rfl) ?_
  refine Ew_of (pcₚ := 20) (fun _ => x_sipush (z := 128) rfl (by decide)) ?_
  refine v_inv H (o := 1) rfl rfl rfl rfl rfl rfl (by rfl) (C157 (D := puc 3073 D) (N := puc 3073 N) (HW_subc H oz_K2cls_2 oz_K2cls_9) ((((show F11 1 0 = F 1 0 from (eF11 1 0)))).trans (pf6)) (n6) (en6) (u1_1) ((((show F11 1 1 = F 1 1 from (eF11 1 1))).trans (eu1_1))) (w6) (((show A11 6 = A 6 from (eA11 6))).trans (ew6)) (show inr (128) from q_313) (show 0 ≤ (u1_1) ∧ (u1_1) ≤ (n6) ∧ (n6) ≤ 65536 from h3) (fun z13 σ13 D13ₚ N13ₚ F13ₚ A13ₚ c13 s13 Hₚ Oₚ hD13 hN13 hS13 hA13 (pm13_1 : HID _) m13_1 (em13_1 : HID _) w13_1 ew13_1 pz13_0 pz13_1 pz13_2 pz13_3 pz13_4 => ⟨rretB rfl pz13_0, ?_⟩))
  refine v_backMc (c := c) (s := s) H oz_K2cls_2 oz_K2cls_9 Hₚ Oₚ hD13 oz_K2cls_3 (fun D13 N13 F13 A13 H Oₚ eD13 eN13 eF13 eA13 => ?_)
  have O := OUT_trans O Oₚ
  -- Row.reserve
  have cF13 : SF oz_K2clsl_0 F F13 := SF_trans (cF11) (SF_gluc (ι := oz_K2clsl_4) oz_K2cls_9 hS13 eF13 (by decide +kernel)) (any_sub (lₚ := [(1, 0)]) (by decide +kernel))
  have mF13 := SFm_of cF13 oz_K2cls_5
  have cA13 : SA oz_K2clsl_1 A A13 := SA_trans (cA11) (SA_gluc (ι := oz_K2clsl_4) oz_K2cls_9 hA13 eA13 (by decide +kernel)) (any_subA (lₚ := [6]) (by decide +kernel))
  have mA13 := SAm_of cA13 oz_K2cls_6
  have cD13 : SD oz_K2clsl_2 D D13 := SD_trans (SD_refl) (SD_gluc (ι := oz_K2clsl_4) oz_K2cls_9 hD13 eD13 (by decide +kernel)) (any_subA (lₚ := [6]) (by decide +kernel))
  have mD13 := SDm_of cD13 oz_K2cls_7
  have cN13 : SD oz_K2clsl_2 N N13 := SD_trans (SD_refl) (SD_gluc (ι := oz_K2clsl_4) oz_K2cls_9 hN13 eN13 (by decide +kernel)) (any_subA (lₚ := [6]) (by decide +kernel))
  have mN13 := SDm_of cN13 oz_K2cls_7
  have pf13_1_0 : HID (F13 1 0 = (D13 6 : Int)) := (eF13 1 0).trans (pm13_1.trans (congrArg (fun q : Nat => (q : Int)) (eD13 6).symm))
  have hsr := pz13_4
  have hrs := pz13_2
  have hor : (y11_0_0) = (a3) := by (have qg0 := HIDe r12; omega)
  refine Ew_of (pcₚ := 24) (fun _ => x_pop rfl rfl) ?_
  refine Ew_of (pcₚ := 25) (fun _ => x_aload_n rfl rfl) ?_
  refine Ew_of (pcₚ := 26) (fun _ => x_aload_n rfl rfl) ?_
  refine Ew_stk (show ([.ref (D 1), .ref (D 2)] : List Value) = [.ref (D13 1), .ref (D13 2)] by rw [show D13 1 = D 1 from mD13 1 rfl, show D13 2 = D 2 from mD13 2 rfl]) ?_
  refine v_inv H (o := 2) rfl rfl rfl rfl rfl rfl (by rfl) (C181_Row (D := puc 806617602 D13) (N := puc 806617602 N13) (HW_subc H oz_K2cls_4 oz_K2cls_10) ((mF13 2 2 rfl).trans ((pf5).trans (congrArg (fun q : Nat => (q : Int)) (mD13 5 rfl).symm))) (pf13_1_0) (n5) ((congrArg (fun q : Nat => (q : Int)) (mN13 5 rfl)).trans (en5)) (m13_1) ((congrArg (fun q : Nat => (q : Int)) (eN13 6)).trans em13_1) (y11_0_0) ((((show F13 2 0 = F11 2 0 from (eF13 2 0))).trans ((eF11 2 0).trans ey11_0_0))) (u2_1) (((mF13 2 1 rfl).trans (eu2_1))) (u1_1) (((((show F13 1 1 = F11 1 1 from (eF13 1 1).trans (hS13 0 1 rfl))).trans ((show F11 1 1 = F 1 1 from (eF11 1 1)))).trans (eu1_1))) (u1_2) (((((show F13 1 2 = F11 1 2 from (eF13 1 2).trans (hS13 0 2 rfl))).trans ((show F11 1 2 = F 1 2 from (eF11 1 2)))).trans (eu1_2))) (u1_3) (((((show F13 1 3 = F11 1 3 from (eF13 1 3).trans (hS13 0 3 rfl))).trans ((show F11 1 3 = F 1 3 from (eF11 1 3)))).trans (eu1_3))) (u1_4) (((((show F13 1 4 = F11 1 4 from (eF13 1 4).trans (hS13 0 4 rfl))).trans ((show F11 1 4 = F 1 4 from (eF11 1 4)))).trans (eu1_4))) (w11_2) (((show A13 5 = A11 5 from (eA13 5))).trans ((eA11 5).trans ew11_2)) (w13_1) ((eA13 6).trans ew13_1) (pz11_0) (show 5 ≤ ((y11_0_0)) by have qh0 := HIDe r12; omega) (show (n5) = ((u2_1)) from q_4343 h2) (show 0 ≤ (u1_1) ∧ (u1_1) ≤ (m13_1) ∧ (m13_1) ≤ 65536 from pz13_1) (show 0 ≤ (u1_4) ∧ (u1_4) ≤ 7 from h4) (fun σ15 F15ₚ A15ₚ Hₚ Oₚ hS15 hA15 y15_1_1 (ey15_1_1 : HID _) y15_1_2 (ey15_1_2 : HID _) y15_1_3 (ey15_1_3 : HID _) y15_1_4 (ey15_1_4 : HID _) w15_3 ew15_3 pz15_0 pz15_1 pz15_2 pz15_3 pz15_4 => ⟨rfl, ?_⟩))
  refine v_backc (c := (c + c13)) (s := (s + s13)) H oz_K2cls_4 oz_K2cls_10 Hₚ Oₚ (fun F15 A15 H Oₚ eF15 eA15 => ?_)
  have O := OUT_trans O Oₚ
  -- Share.tell
  have cF15 : SF oz_K2clsl_0 F F15 := SF_trans (cF13) (SF_gluc (ι := oz_K2clsl_5) oz_K2cls_10 hS15 eF15 (by decide +kernel)) (any_sub (lₚ := [(1, 1), (1, 2), (1, 3), (1, 4)]) (by decide +kernel))
  have mF15 := SFm_of cF15 oz_K2cls_5
  have cA15 : SA oz_K2clsl_1 A A15 := SA_trans (cA13) (SA_gluc (ι := oz_K2clsl_5) oz_K2cls_10 hA15 eA15 (by decide +kernel)) (any_subA (lₚ := [6]) (by decide +kernel))
  have mA15 := SAm_of cA15 oz_K2cls_6
  have r16 : HID ((-2147483648 : Int) ≤ y15_1_1 ∧ y15_1_1 ≤ 2147483647) := krg_e (show (-2147483648 : Int) ≤ F15 1 1 ∧ F15 1 1 ≤ 2147483647 from H.krg 1 1 (ltn len_V148_Row_Share_oz_K2cls rfl)) (show F15 1 1 = y15_1_1 from ((eF15 1 1).trans ey15_1_1))
  have r17 : HID ((0 : Int) ≤ y15_1_2 ∧ y15_1_2 ≤ 1) := krg_e (show (0 : Int) ≤ F15 1 2 ∧ F15 1 2 ≤ 1 from H.krg 1 2 (ltn len_V148_Row_Share_oz_K2cls rfl)) (show F15 1 2 = y15_1_2 from ((eF15 1 2).trans ey15_1_2))
  have : IMP ((u1_1) + 128 ≤ 65536 ∧ (u1_4) = 0 ∧ (u1_3) = 0 ∧ (u1_2) = 0) (sc ((w15_3)) 0 ((y15_1_1)) = sc ((w6)) 0 ((u1_1)) ++ byw (STB (cutP ((u2_1)) ((w11_2))) ((a3))) ∧ (y15_1_2) = 0 ∧ (y15_1_1) ≤ (u1_1) + 100) := fun q => by have q1 := q.1; have q2 := q.2.1; have q3 := q.2.2.1; have hT := pz15_3 ⟨by (have qg0 := HIDe r1; have qg1 := HIDe r16; have qg2 := HIDe r17; have qg3 := HIDe r2; have qg4 := HIDe r3; have qg5 := HIDe r4; have qg6 := HIDe r6; omega), by (have qg0 := HIDe r1; have qg1 := HIDe r16; have qg2 := HIDe r17; have qg3 := HIDe r2; have qg4 := HIDe r3; have qg5 := HIDe r4; have qg6 := HIDe r6; omega), by rw [q3, q2]; decide⟩; have hR := RBB_L (hT.1 _ _ (RBB_new (by (have qg0 := HIDe r1; have qg1 := HIDe r16; have qg2 := HIDe r17; have qg3 := HIDe r2; have qg4 := HIDe r3; have qg5 := HIDe r4; have qg6 := HIDe r6; omega)) rfl (by (have qg0 := HIDe r1; have qg1 := HIDe r16; have qg2 := HIDe r17; have qg3 := HIDe r2; have qg4 := HIDe r3; have qg5 := HIDe r4; have qg6 := HIDe r6; omega)) (by (have qg0 := HIDe r1; have qg1 := HIDe r16; have qg2 := HIDe r17; have qg3 := HIDe r2; have qg4 := HIDe r3; have qg5 := HIDe r4; have qg6 := HIDe r6; omega)))); refine ⟨?_, hR.2, by (have qg0 := HIDe r1; have qg1 := HIDe r16; have qg2 := HIDe r17; have qg3 := HIDe r2; have qg4 := HIDe r3; have qg5 := HIDe r4; have qg6 := HIDe r6; omega)⟩; rw [hR.1, List.nil_append, hor]; congr 1; exact sc_same (fun k a b => hsr k a (by (have qg0 := HIDe r1; have qg1 := HIDe r16; have qg2 := HIDe r17; have qg3 := HIDe r2; have qg4 := HIDe r3; have qg5 := HIDe r4; have qg6 := HIDe r6; omega)))
  exact w_ret rfl (k _ _ _ _ _ _ _ H O (cD13) (cN13) (cF15) (cA15) ((((show F15 1 0 = F13 1 0 from (eF15 1 0).trans (hS15 1 0 rfl)))).trans (pf13_1_0)) (m13_1) ((congrArg (fun q : Nat => (q : Int)) (eN13 6)).trans em13_1) (y15_1_1) (((eF15 1 1).trans ey15_1_1)) (y15_1_2) (((eF15 1 2).trans ey15_1_2)) (y15_1_3) (((eF15 1 3).trans ey15_1_3)) (y15_1_4) (((eF15 1 4).trans ey15_1_4)) (y11_0_0) (((((show F15 2 0 = F13 2 0 from (eF15 2 0).trans (hS15 0 0 rfl))).trans ((show F13 2 0 = F11 2 0 from (eF13 2 0)))).trans ((eF11 2 0).trans ey11_0_0))) (w11_2) (((show A15 5 = A13 5 from (eA15 5).trans (funext (hA15 2 rfl)))).trans (((show A13 5 = A11 5 from (eA13 5))).trans ((eA11 5).trans ew11_2))) (w15_3) ((eA15 6).trans ew15_3) (pz11_0) (pz11_1) (show (y11_0_0) = a3 from hor) (show 0 ≤ (y15_1_1) ∧ (y15_1_1) ≤ (m13_1) ∧ (m13_1) ≤ 65536 from pz15_0) (show (y15_1_4) = 0 from pz15_1) (show (u1_1) ≤ (y15_1_1) from pz15_2) (pz11_3) (show IMP ((u1_1) + 128 ≤ 65536 ∧ (u1_4) = 0 ∧ (u1_3) = 0 ∧ (u1_2) = 0) (sc ((w15_3)) 0 ((y15_1_1)) = sc ((w6)) 0 ((u1_1)) ++ byw (STB (cutP ((u2_1)) ((w11_2))) (a3)) ∧ (y15_1_2) = 0 ∧ (y15_1_1) ≤ (u1_1) + 100) by assumption) (show (y15_1_3) = 0 from pz15_4))


end
